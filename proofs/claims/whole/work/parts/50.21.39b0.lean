set_option maxHeartbeats 4000000 in
set_option maxRecDepth 20000 in
theorem w_X13_makeClass_440_ok (X : Nat × (Nat → Int32)) {F L : Nat} (hF : 1662 ≤ F) (hL : 43576 ≤ L) (nn : Nat) : ∀ (k : Nat) (l0 : Nat) (l1 : Int32) (l2 : Int32) (l3 : Int32) (l4 : Int32) (h : mx_H) (r : mx_H), w_X13_makeClass_440 nn k l0 l1 l2 l3 l4 h = some r → mx_S X F L 484 440 [(0, .ref l0), (1, .int l1), (2, .int l2), (3, .int l3), (4, .int l4)] [] h 0 0 (none, r, 0, 0) := by
  have hm : mx_mt 484 = some (yX13_makeClass, cX13_makeClass, 5, none) := mt_X13_makeClass
  intro k
  induction k with
  | zero => intro l0 l1 l2 l3 l4 h r hf; cases hf
  | succ k ih =>
    intro l0 l1 l2 l3 l4 h r hf
    unfold w_X13_makeClass_440 at hf
    refine mx_S.pu (pc2 := 442) (lv2 := [(0, .ref l0), (1, .int l1), (2, .int l2), (3, .int l3), (4, .int l4)]) (st2 := [.int l4]) hm dX13_makeClass_440 rfl ?_
    refine mx_S.pu (pc2 := 443) (lv2 := [(0, .ref l0), (1, .int l1), (2, .int l2), (3, .int l3), (4, .int l4)]) (st2 := [.ref l0, .int l4]) hm dX13_makeClass_442 rfl ?_
    replace hf := mx_sv_el hf; obtain ⟨v1, e_v1, hf⟩ := hf
    refine sx_get hm dX13_makeClass_443 rs_RX13_728 (xgi_el e_v1) ?_
    clear e_v1
    rcases mx_if_el hf with ⟨c10, hf⟩ | ⟨c10, hf⟩
    · refine sb_ic_ge hm dX13_makeClass_446 (tgt := 471) rfl (fun _ => ?_) (fun z => absurd c10 z)
      refine mx_S.pu (pc2 := 472) (lv2 := [(0, .ref l0), (1, .int l1), (2, .int l2), (3, .int l3), (4, .int l4)]) (st2 := [.ref l0]) hm dX13_makeClass_471 rfl ?_
      replace hf := mx_sv_el hf; obtain ⟨v2, e_v2, hf⟩ := hf
      refine sx_get hm dX13_makeClass_472 rs_RX13_203 (xgr_el e_v2) ?_
      clear e_v2
      refine mx_S.pu (pc2 := 476) (lv2 := [(0, .ref l0), (1, .int l1), (2, .int l2), (3, .int l3), (4, .int l4)]) (st2 := [.int l1, .ref v2]) hm dX13_makeClass_475 rfl ?_
      refine mx_S.pu (pc2 := 477) (lv2 := [(0, .ref l0), (1, .int l1), (2, .int l2), (3, .int l3), (4, .int l4)]) (st2 := [.int l2, .int l1, .ref v2]) hm dX13_makeClass_476 rfl ?_
      replace hf := mx_sv_el hf; obtain ⟨h3, e_h3, hf⟩ := hf
      refine sx_ast hm dX13_makeClass_477 e_h3 ?_
      clear e_h3
      cases hf
      exact sx_ret hm dX13_makeClass_478 rfl
    · refine sb_ic_ge hm dX13_makeClass_446 (tgt := 471) rfl (fun z => absurd z c10) (fun _ => ?_)
      refine mx_S.pu (pc2 := 450) (lv2 := [(0, .ref l0), (1, .int l1), (2, .int l2), (3, .int l3), (4, .int l4)]) (st2 := [.ref l0]) hm dX13_makeClass_449 rfl ?_
      replace hf := mx_sv_el hf; obtain ⟨v4, e_v4, hf⟩ := hf
      refine sx_get hm dX13_makeClass_450 rs_RX13_200 (xgr_el e_v4) ?_
      clear e_v4
      refine mx_S.pu (pc2 := 454) (lv2 := [(0, .ref l0), (1, .int l1), (2, .int l2), (3, .int l3), (4, .int l4)]) (st2 := [.int l3, .ref v4]) hm dX13_makeClass_453 rfl ?_
      refine mx_S.pu (pc2 := 456) (lv2 := [(0, .ref l0), (1, .int l1), (2, .int l2), (3, .int l3), (4, .int l4)]) (st2 := [.int l4, .int l3, .ref v4]) hm dX13_makeClass_454 rfl ?_
      replace hf := xl_el hf; obtain ⟨v5, e_v5, hf⟩ := hf
      refine mx_S.pu (pc2 := 457) (lv2 := [(0, .ref l0), (1, .int l1), (2, .int l2), (3, .int l3), (4, .int l4)]) (st2 := [.int v5, .ref v4]) hm dX13_makeClass_456 (by rw [← e_v5]; rfl) ?_
      clear e_v5
      refine mx_S.pu (pc2 := 458) (lv2 := [(0, .ref l0), (1, .int l1), (2, .int l2), (3, .int l3), (4, .int l4)]) (st2 := [.ref l0, .int v5, .ref v4]) hm dX13_makeClass_457 rfl ?_
      replace hf := mx_sv_el hf; obtain ⟨v6, e_v6, hf⟩ := hf
      refine sx_get hm dX13_makeClass_458 rs_RX13_206 (xgr_el e_v6) ?_
      clear e_v6
      refine mx_S.pu (pc2 := 463) (lv2 := [(0, .ref l0), (1, .int l1), (2, .int l2), (3, .int l3), (4, .int l4)]) (st2 := [.int l4, .ref v6, .int v5, .ref v4]) hm dX13_makeClass_461 rfl ?_
      replace hf := mx_sv_el hf; obtain ⟨v7, e_v7, hf⟩ := hf
      refine sx_ald hm dX13_makeClass_463 e_v7 ?_
      clear e_v7
      replace hf := mx_sv_el hf; obtain ⟨h8, e_h8, hf⟩ := hf
      refine sx_ast hm dX13_makeClass_464 e_h8 ?_
      clear e_h8
      replace hf := xl_el hf; obtain ⟨v9, e_v9, hf⟩ := hf
      refine mx_S.pu (pc2 := 468) (lv2 := [(4, .int v9), (0, .ref l0), (1, .int l1), (2, .int l2), (3, .int l3)]) (st2 := []) hm dX13_makeClass_465 (by rw [← e_v9]; rfl) ?_
      clear e_v9
      refine mx_S.pu (pc2 := 440) (lv2 := [(4, .int v9), (0, .ref l0), (1, .int l1), (2, .int l2), (3, .int l3)]) (st2 := []) hm dX13_makeClass_468 rfl ?_
      refine mx_S.ext [(0, .ref l0), (1, .int l1), (2, .int l2), (3, .int l3), (4, .int v9)] (mx_sub_pos [1, 2, 3, 4, 0] rfl (show ([4, 0, 1, 2, 3] : List Nat).Nodup by decide)) ?_
      exact ih l0 l1 l2 l3 v9 h8 _ hf
set_option maxHeartbeats 4000000 in
set_option maxRecDepth 20000 in
theorem w_X13_makeClass_414_ok (X : Nat × (Nat → Int32)) {F L : Nat} (hF : 1662 ≤ F) (hL : 43576 ≤ L) (nn : Nat) : ∀ (k : Nat) (l0 : Nat) (l1 : Int32) (l2 : Int32) (l3 : Int32) (l4 : Int32) (h : mx_H) (r : mx_H), w_X13_makeClass_414 nn k l0 l1 l2 l3 l4 h = some r → mx_S X F L 484 414 [(0, .ref l0), (1, .int l1), (2, .int l2), (3, .int l3), (4, .int l4)] [] h 0 0 (none, r, 0, 0) := by
  have hm : mx_mt 484 = some (yX13_makeClass, cX13_makeClass, 5, none) := mt_X13_makeClass
  intro k
  induction k with
  | zero => intro l0 l1 l2 l3 l4 h r hf; cases hf
  | succ k ih =>
    intro l0 l1 l2 l3 l4 h r hf
    unfold w_X13_makeClass_414 at hf
    refine mx_S.pu (pc2 := 416) (lv2 := [(0, .ref l0), (1, .int l1), (2, .int l2), (3, .int l3), (4, .int l4)]) (st2 := [.int l4]) hm dX13_makeClass_414 rfl ?_
    refine mx_S.pu (pc2 := 417) (lv2 := [(0, .ref l0), (1, .int l1), (2, .int l2), (3, .int l3), (4, .int l4)]) (st2 := [.ref l0, .int l4]) hm dX13_makeClass_416 rfl ?_
    replace hf := mx_sv_el hf; obtain ⟨v11, e_v11, hf⟩ := hf
    refine sx_get hm dX13_makeClass_417 rs_RX13_602 (xgi_el e_v11) ?_
    clear e_v11
    rcases mx_if_el hf with ⟨c15, hf⟩ | ⟨c15, hf⟩
    · refine sb_ic_gt hm dX13_makeClass_420 (tgt := 437) rfl (fun _ => ?_) (fun z => absurd c15 z)
      refine sx_ic (v := 0) hm dX13_makeClass_437 (by decide) ?_
      refine mx_S.pu (pc2 := 440) (lv2 := [(4, .int 0), (0, .ref l0), (1, .int l1), (2, .int l2), (3, .int l3)]) (st2 := []) hm dX13_makeClass_438 rfl ?_
      refine mx_S.ext [(0, .ref l0), (1, .int l1), (2, .int l2), (3, .int l3), (4, .int 0)] (mx_sub_pos [1, 2, 3, 4, 0] rfl (show ([4, 0, 1, 2, 3] : List Nat).Nodup by decide)) ?_
      exact w_X13_makeClass_440_ok X hF hL nn nn l0 l1 l2 l3 0 h _ hf
    · refine sb_ic_gt hm dX13_makeClass_420 (tgt := 437) rfl (fun z => absurd z c15) (fun _ => ?_)
      refine mx_S.pu (pc2 := 424) (lv2 := [(0, .ref l0), (1, .int l1), (2, .int l2), (3, .int l3), (4, .int l4)]) (st2 := [.ref l0]) hm dX13_makeClass_423 rfl ?_
      refine mx_S.pu (pc2 := 426) (lv2 := [(0, .ref l0), (1, .int l1), (2, .int l2), (3, .int l3), (4, .int l4)]) (st2 := [.int l4, .ref l0]) hm dX13_makeClass_424 rfl ?_
      refine mx_S.pu (pc2 := 427) (lv2 := [(0, .ref l0), (1, .int l1), (2, .int l2), (3, .int l3), (4, .int l4)]) (st2 := [.int l3, .int l4, .ref l0]) hm dX13_makeClass_426 rfl ?_
      replace hf := mx_gd_el hf; obtain ⟨c12, hf⟩ := hf
      replace hf := mx_sv_el hf; obtain ⟨u13, e_u13, hf⟩ := hf
      refine sx_cv hm dX13_makeClass_427 rs_RX13_743 mt_X13_writeConstant [.int l4, .int l3] [] (b := l0) (ci := 13) rfl rfl rfl c12 (Nat.le_of_ble_eq_true rfl) (Nat.le_of_ble_eq_true rfl) (by omega) (by omega) (f_X13_writeConstant_ok X (by omega) (by omega) nn l0 l4 l3 h e_u13) ?_
      clear e_u13
      show mx_S X F L 484 430 [(0, .ref l0), (1, .int l1), (2, .int l2), (3, .int l3), (4, .int l4)] [.int u13.1] u13.2 0 0 (none, r, 0, 0)
      refine mx_S.pu (pc2 := 431) (lv2 := [(3, .int u13.1), (0, .ref l0), (1, .int l1), (2, .int l2), (4, .int l4)]) (st2 := []) hm dX13_makeClass_430 rfl ?_
      replace hf := xl_el hf; obtain ⟨v14, e_v14, hf⟩ := hf
      refine mx_S.pu (pc2 := 434) (lv2 := [(4, .int v14), (3, .int u13.1), (0, .ref l0), (1, .int l1), (2, .int l2)]) (st2 := []) hm dX13_makeClass_431 (by rw [← e_v14]; rfl) ?_
      clear e_v14
      refine mx_S.pu (pc2 := 414) (lv2 := [(4, .int v14), (3, .int u13.1), (0, .ref l0), (1, .int l1), (2, .int l2)]) (st2 := []) hm dX13_makeClass_434 rfl ?_
      refine mx_S.ext [(0, .ref l0), (1, .int l1), (2, .int l2), (3, .int u13.1), (4, .int v14)] (mx_sub_pos [2, 3, 4, 1, 0] rfl (show ([4, 3, 0, 1, 2] : List Nat).Nodup by decide)) ?_
      exact ih l0 l1 l2 u13.1 v14 u13.2 _ hf
set_option maxHeartbeats 4000000 in
set_option maxRecDepth 20000 in
theorem j_X13_makeClass_364_ok (X : Nat × (Nat → Int32)) {F L : Nat} (hF : 1662 ≤ F) (hL : 43576 ≤ L) (nn : Nat) (l0 : Nat) (l1 : Int32) (l2 : Int32) (h : mx_H) {r : mx_H} (hf : j_X13_makeClass_364 nn l0 l1 l2 h = some r) : mx_S X F L 484 364 [(0, .ref l0), (1, .int l1), (2, .int l2)] [] h 0 0 (none, r, 0, 0) := by
  have hm : mx_mt 484 = some (yX13_makeClass, cX13_makeClass, 5, none) := mt_X13_makeClass
  unfold j_X13_makeClass_364 at hf
  refine mx_S.pu (pc2 := 365) (lv2 := [(0, .ref l0), (1, .int l1), (2, .int l2)]) (st2 := [.ref l0]) hm dX13_makeClass_364 rfl ?_
  replace hf := mx_sv_el hf; obtain ⟨v16, e_v16, hf⟩ := hf
  refine sx_get hm dX13_makeClass_365 rs_RX13_319 (xgi_el e_v16) ?_
  clear e_v16
  rcases mx_if_el hf with ⟨c28, hf⟩ | ⟨c28, hf⟩
  · refine sb_if_eq hm dX13_makeClass_368 (tgt := 372) rfl (fun _ => ?_) (fun z => absurd c28 z)
    refine sx_si (v := 6000) hm dX13_makeClass_372 (by decide) ?_
    refine mx_S.pu (pc2 := 376) (lv2 := [(0, .ref l0), (1, .int l1), (2, .int l2)]) (st2 := [.int l1, .int 6000]) hm dX13_makeClass_375 rfl ?_
    replace hf := xl_el hf; obtain ⟨v17, e_v17, hf⟩ := hf
    refine mx_S.pu (pc2 := 377) (lv2 := [(0, .ref l0), (1, .int l1), (2, .int l2)]) (st2 := [.int v17]) hm dX13_makeClass_376 (by rw [← e_v17]; rfl) ?_
    clear e_v17
    refine mx_S.pu (pc2 := 378) (lv2 := [(3, .int v17), (0, .ref l0), (1, .int l1), (2, .int l2)]) (st2 := []) hm dX13_makeClass_377 rfl ?_
    refine mx_S.pu (pc2 := 379) (lv2 := [(3, .int v17), (0, .ref l0), (1, .int l1), (2, .int l2)]) (st2 := [.ref l0]) hm dX13_makeClass_378 rfl ?_
    replace hf := mx_sv_el hf; obtain ⟨v18, e_v18, hf⟩ := hf
    refine sx_get hm dX13_makeClass_379 rs_RX13_200 (xgr_el e_v18) ?_
    clear e_v18
    refine mx_S.pu (pc2 := 383) (lv2 := [(3, .int v17), (0, .ref l0), (1, .int l1), (2, .int l2)]) (st2 := [.int v17, .ref v18]) hm dX13_makeClass_382 rfl ?_
    refine sx_bi (v := 74) hm dX13_makeClass_383 (by decide) ?_
    replace hf := mx_sv_el hf; obtain ⟨h19, e_h19, hf⟩ := hf
    refine sx_ast hm dX13_makeClass_385 e_h19 ?_
    clear e_h19
    refine mx_S.pu (pc2 := 387) (lv2 := [(3, .int v17), (0, .ref l0), (1, .int l1), (2, .int l2)]) (st2 := [.ref l0]) hm dX13_makeClass_386 rfl ?_
    replace hf := mx_sv_el hf; obtain ⟨v20, e_v20, hf⟩ := hf
    refine sx_get hm dX13_makeClass_387 rs_RX13_200 (xgr_el e_v20) ?_
    clear e_v20
    refine mx_S.pu (pc2 := 391) (lv2 := [(3, .int v17), (0, .ref l0), (1, .int l1), (2, .int l2)]) (st2 := [.int v17, .ref v20]) hm dX13_makeClass_390 rfl ?_
    refine sx_ic (v := 1) hm dX13_makeClass_391 (by decide) ?_
    replace hf := xl_el hf; obtain ⟨v21, e_v21, hf⟩ := hf
    refine mx_S.pu (pc2 := 393) (lv2 := [(3, .int v17), (0, .ref l0), (1, .int l1), (2, .int l2)]) (st2 := [.int v21, .ref v20]) hm dX13_makeClass_392 (by rw [← e_v21]; rfl) ?_
    clear e_v21
    refine sx_bi (v := 77) hm dX13_makeClass_393 (by decide) ?_
    replace hf := mx_sv_el hf; obtain ⟨h22, e_h22, hf⟩ := hf
    refine sx_ast hm dX13_makeClass_395 e_h22 ?_
    clear e_h22
    refine mx_S.pu (pc2 := 397) (lv2 := [(3, .int v17), (0, .ref l0), (1, .int l1), (2, .int l2)]) (st2 := [.ref l0]) hm dX13_makeClass_396 rfl ?_
    replace hf := mx_sv_el hf; obtain ⟨v23, e_v23, hf⟩ := hf
    refine sx_get hm dX13_makeClass_397 rs_RX13_200 (xgr_el e_v23) ?_
    clear e_v23
    refine mx_S.pu (pc2 := 401) (lv2 := [(3, .int v17), (0, .ref l0), (1, .int l1), (2, .int l2)]) (st2 := [.int v17, .ref v23]) hm dX13_makeClass_400 rfl ?_
    refine sx_ic (v := 2) hm dX13_makeClass_401 (by decide) ?_
    replace hf := xl_el hf; obtain ⟨v24, e_v24, hf⟩ := hf
    refine mx_S.pu (pc2 := 403) (lv2 := [(3, .int v17), (0, .ref l0), (1, .int l1), (2, .int l2)]) (st2 := [.int v24, .ref v23]) hm dX13_makeClass_402 (by rw [← e_v24]; rfl) ?_
    clear e_v24
    refine mx_S.pu (pc2 := 404) (lv2 := [(3, .int v17), (0, .ref l0), (1, .int l1), (2, .int l2)]) (st2 := [.ref l0, .int v24, .ref v23]) hm dX13_makeClass_403 rfl ?_
    replace hf := mx_sv_el hf; obtain ⟨v25, e_v25, hf⟩ := hf
    refine sx_get hm dX13_makeClass_404 rs_RX13_602 (xgi_el e_v25) ?_
    clear e_v25
    replace hf := mx_sv_el hf; obtain ⟨h26, e_h26, hf⟩ := hf
    refine sx_ast hm dX13_makeClass_407 e_h26 ?_
    clear e_h26
    replace hf := xl_el hf; obtain ⟨v27, e_v27, hf⟩ := hf
    refine mx_S.pu (pc2 := 411) (lv2 := [(3, .int v27), (0, .ref l0), (1, .int l1), (2, .int l2)]) (st2 := []) hm dX13_makeClass_408 (by rw [← e_v27]; rfl) ?_
    clear e_v27
    refine sx_ic (v := 1) hm dX13_makeClass_411 (by decide) ?_
    refine mx_S.pu (pc2 := 414) (lv2 := [(4, .int 1), (3, .int v27), (0, .ref l0), (1, .int l1), (2, .int l2)]) (st2 := []) hm dX13_makeClass_412 rfl ?_
    refine mx_S.ext [(0, .ref l0), (1, .int l1), (2, .int l2), (3, .int v27), (4, .int 1)] (mx_sub_pos [2, 3, 4, 1, 0] rfl (show ([4, 3, 0, 1, 2] : List Nat).Nodup by decide)) ?_
    exact w_X13_makeClass_414_ok X hF hL nn nn l0 l1 l2 v27 1 h26 _ hf
  · refine sb_if_eq hm dX13_makeClass_368 (tgt := 372) rfl (fun z => absurd z c28) (fun _ => ?_)
    cases hf
    exact sx_ret hm dX13_makeClass_371 rfl
set_option maxHeartbeats 4000000 in
set_option maxRecDepth 20000 in
theorem j_X13_makeClass_352_ok (X : Nat × (Nat → Int32)) {F L : Nat} (hF : 1662 ≤ F) (hL : 43576 ≤ L) (nn : Nat) (l0 : Nat) (l1 : Int32) (l2 : Int32) (h : mx_H) {r : mx_H} (hf : j_X13_makeClass_352 nn l0 l1 l2 h = some r) : mx_S X F L 484 352 [(0, .ref l0), (1, .int l1), (2, .int l2)] [] h 0 0 (none, r, 0, 0) := by
  have hm : mx_mt 484 = some (yX13_makeClass, cX13_makeClass, 5, none) := mt_X13_makeClass
  unfold j_X13_makeClass_352 at hf
  refine mx_S.pu (pc2 := 353) (lv2 := [(0, .ref l0), (1, .int l1), (2, .int l2)]) (st2 := [.ref l0]) hm dX13_makeClass_352 rfl ?_
  refine sx_bi (v := 11) hm dX13_makeClass_353 (by decide) ?_
  refine mx_S.pu (pc2 := 356) (lv2 := [(0, .ref l0), (1, .int l1), (2, .int l2)]) (st2 := [.ref l0, .int 11, .ref l0]) hm dX13_makeClass_355 rfl ?_
  replace hf := mx_sv_el hf; obtain ⟨v29, e_v29, hf⟩ := hf
  refine sx_get hm dX13_makeClass_356 rs_RX13_62 (xgr_el e_v29) ?_
  clear e_v29
  refine mx_S.pu (pc2 := 360) (lv2 := [(0, .ref l0), (1, .int l1), (2, .int l2)]) (st2 := [.int l1, .ref v29, .int 11, .ref l0]) hm dX13_makeClass_359 rfl ?_
  replace hf := mx_sv_el hf; obtain ⟨v30, e_v30, hf⟩ := hf
  refine sx_ald hm dX13_makeClass_360 e_v30 ?_
  clear e_v30
  replace hf := mx_gd_el hf; obtain ⟨c31, hf⟩ := hf
  replace hf := mx_sv_el hf; obtain ⟨u32, e_u32, hf⟩ := hf
  refine sx_cv hm dX13_makeClass_361 rs_RX13_379 mt_X13_wrong [.int 11, .int v30] [] (b := l0) (ci := 13) rfl rfl rfl c31 (Nat.le_of_ble_eq_true rfl) (Nat.le_of_ble_eq_true rfl) (by omega) (by omega) (f_X13_wrong_ok X (by omega) (by omega) nn l0 11 v30 h e_u32) ?_
  clear e_u32
  show mx_S X F L 484 364 [(0, .ref l0), (1, .int l1), (2, .int l2)] [] u32 0 0 (none, r, 0, 0)
  exact j_X13_makeClass_364_ok X hF hL nn l0 l1 l2 u32 hf
set_option maxHeartbeats 4000000 in
set_option maxRecDepth 20000 in
theorem j_X13_makeClass_320_ok (X : Nat × (Nat → Int32)) {F L : Nat} (hF : 1662 ≤ F) (hL : 43576 ≤ L) (nn : Nat) {kk_261 : Nat → Int32 → Int32 → Int32 → mx_H → Option mx_H} (hk_261 : ∀ (l0 : Nat) (l1 : Int32) (l2 : Int32) (l3 : Int32) (h : mx_H) (r : mx_H), kk_261 l0 l1 l2 l3 h = some r → mx_S X F L 484 261 [(0, .ref l0), (1, .int l1), (2, .int l2), (3, .int l3)] [] h 0 0 (none, r, 0, 0)) (l0 : Nat) (l1 : Int32) (l3 : Int32) (s0 : Int32) (s1 : Int32) (h : mx_H) {r : mx_H} (hf : j_X13_makeClass_320 nn kk_261 l0 l1 l3 s0 s1 h = some r) : mx_S X F L 484 320 [(0, .ref l0), (1, .int l1), (3, .int l3)] [.int s0, .int s1] h 0 0 (none, r, 0, 0) := by
  have hm : mx_mt 484 = some (yX13_makeClass, cX13_makeClass, 5, none) := mt_X13_makeClass
  unfold j_X13_makeClass_320 at hf
  replace hf := xl_el hf; obtain ⟨v33, e_v33, hf⟩ := hf
  refine mx_S.pu (pc2 := 321) (lv2 := [(0, .ref l0), (1, .int l1), (3, .int l3)]) (st2 := [.int v33]) hm dX13_makeClass_320 (by rw [← e_v33]; rfl) ?_
  clear e_v33
  refine mx_S.pu (pc2 := 322) (lv2 := [(2, .int v33), (0, .ref l0), (1, .int l1), (3, .int l3)]) (st2 := []) hm dX13_makeClass_321 rfl ?_
  replace hf := xl_el hf; obtain ⟨v34, e_v34, hf⟩ := hf
  refine mx_S.pu (pc2 := 325) (lv2 := [(3, .int v34), (2, .int v33), (0, .ref l0), (1, .int l1)]) (st2 := []) hm dX13_makeClass_322 (by rw [← e_v34]; rfl) ?_
  clear e_v34
  refine mx_S.pu (pc2 := 261) (lv2 := [(3, .int v34), (2, .int v33), (0, .ref l0), (1, .int l1)]) (st2 := []) hm dX13_makeClass_325 rfl ?_
  refine mx_S.ext [(0, .ref l0), (1, .int l1), (2, .int v33), (3, .int v34)] (mx_sub_pos [2, 3, 1, 0] rfl (show ([3, 2, 0, 1] : List Nat).Nodup by decide)) ?_
  exact hk_261 l0 l1 v33 v34 h _ hf
set_option maxHeartbeats 4000000 in
set_option maxRecDepth 20000 in
theorem w_X13_makeClass_261_ok (X : Nat × (Nat → Int32)) {F L : Nat} (hF : 1662 ≤ F) (hL : 43576 ≤ L) (nn : Nat) : ∀ (k : Nat) (l0 : Nat) (l1 : Int32) (l2 : Int32) (l3 : Int32) (h : mx_H) (r : mx_H), w_X13_makeClass_261 nn k l0 l1 l2 l3 h = some r → mx_S X F L 484 261 [(0, .ref l0), (1, .int l1), (2, .int l2), (3, .int l3)] [] h 0 0 (none, r, 0, 0) := by
  have hm : mx_mt 484 = some (yX13_makeClass, cX13_makeClass, 5, none) := mt_X13_makeClass
  intro k
  induction k with
  | zero => intro l0 l1 l2 l3 h r hf; cases hf
  | succ k ih =>
    intro l0 l1 l2 l3 h r hf
    unfold w_X13_makeClass_261 at hf
    refine mx_S.pu (pc2 := 262) (lv2 := [(0, .ref l0), (1, .int l1), (2, .int l2), (3, .int l3)]) (st2 := [.int l3]) hm dX13_makeClass_261 rfl ?_
    refine mx_S.pu (pc2 := 263) (lv2 := [(0, .ref l0), (1, .int l1), (2, .int l2), (3, .int l3)]) (st2 := [.ref l0, .int l3]) hm dX13_makeClass_262 rfl ?_
    replace hf := mx_sv_el hf; obtain ⟨v35, e_v35, hf⟩ := hf
    refine sx_get hm dX13_makeClass_263 rs_RX13_602 (xgi_el e_v35) ?_
    clear e_v35
    rcases mx_if_el hf with ⟨c53, hf⟩ | ⟨c53, hf⟩
    · refine sb_ic_gt hm dX13_makeClass_266 (tgt := 328) rfl (fun _ => ?_) (fun z => absurd c53 z)
      refine mx_S.pu (pc2 := 329) (lv2 := [(0, .ref l0), (1, .int l1), (2, .int l2), (3, .int l3)]) (st2 := [.ref l0]) hm dX13_makeClass_328 rfl ?_
      replace hf := mx_sv_el hf; obtain ⟨v36, e_v36, hf⟩ := hf
      refine sx_get hm dX13_makeClass_329 rs_RX13_319 (xgi_el e_v36) ?_
      clear e_v36
      rcases mx_if_el hf with ⟨c40, hf⟩ | ⟨c40, hf⟩
      · refine sb_if_ne hm dX13_makeClass_332 (tgt := 364) rfl (fun _ => ?_) (fun z => absurd c40 z)
        refine mx_S.ext [(0, .ref l0), (1, .int l1), (2, .int l2)] (mx_sub_pos [0, 1, 2] rfl (show ([0, 1, 2, 3] : List Nat).Nodup by decide)) ?_
        exact j_X13_makeClass_364_ok X hF hL nn l0 l1 l2 h hf
      · refine sb_if_ne hm dX13_makeClass_332 (tgt := 364) rfl (fun z => absurd z c40) (fun _ => ?_)
        refine mx_S.pu (pc2 := 336) (lv2 := [(0, .ref l0), (1, .int l1), (2, .int l2), (3, .int l3)]) (st2 := [.ref l0]) hm dX13_makeClass_335 rfl ?_
        replace hf := mx_sv_el hf; obtain ⟨v37, e_v37, hf⟩ := hf
        refine sx_get hm dX13_makeClass_336 rs_RX13_602 (xgi_el e_v37) ?_
        clear e_v37
        refine sx_si (v := 200) hm dX13_makeClass_339 (by decide) ?_
        rcases mx_if_el hf with ⟨c39, hf⟩ | ⟨c39, hf⟩
        · refine sb_ic_gt hm dX13_makeClass_342 (tgt := 352) rfl (fun _ => ?_) (fun z => absurd c39 z)
          refine mx_S.ext [(0, .ref l0), (1, .int l1), (2, .int l2)] (mx_sub_pos [0, 1, 2] rfl (show ([0, 1, 2, 3] : List Nat).Nodup by decide)) ?_
          exact j_X13_makeClass_352_ok X hF hL nn l0 l1 l2 h hf
        · refine sb_ic_gt hm dX13_makeClass_342 (tgt := 352) rfl (fun z => absurd z c39) (fun _ => ?_)
          refine mx_S.pu (pc2 := 346) (lv2 := [(0, .ref l0), (1, .int l1), (2, .int l2), (3, .int l3)]) (st2 := [.int l2]) hm dX13_makeClass_345 rfl ?_
          refine sx_si (v := 6000) hm dX13_makeClass_346 (by decide) ?_
          rcases mx_if_el hf with ⟨c38, hf⟩ | ⟨c38, hf⟩
          · refine sb_ic_le hm dX13_makeClass_349 (tgt := 364) rfl (fun _ => ?_) (fun z => absurd c38 z)
            refine mx_S.ext [(0, .ref l0), (1, .int l1), (2, .int l2)] (mx_sub_pos [0, 1, 2] rfl (show ([0, 1, 2, 3] : List Nat).Nodup by decide)) ?_
            exact j_X13_makeClass_364_ok X hF hL nn l0 l1 l2 h hf
          · refine sb_ic_le hm dX13_makeClass_349 (tgt := 364) rfl (fun z => absurd z c38) (fun _ => ?_)
            refine mx_S.ext [(0, .ref l0), (1, .int l1), (2, .int l2)] (mx_sub_pos [0, 1, 2] rfl (show ([0, 1, 2, 3] : List Nat).Nodup by decide)) ?_
            exact j_X13_makeClass_352_ok X hF hL nn l0 l1 l2 h hf
    · refine sb_ic_gt hm dX13_makeClass_266 (tgt := 328) rfl (fun z => absurd z c53) (fun _ => ?_)
      refine mx_S.pu (pc2 := 270) (lv2 := [(0, .ref l0), (1, .int l1), (2, .int l2), (3, .int l3)]) (st2 := [.int l2]) hm dX13_makeClass_269 rfl ?_
      refine mx_S.pu (pc2 := 271) (lv2 := [(0, .ref l0), (1, .int l1), (2, .int l2), (3, .int l3)]) (st2 := [.ref l0, .int l2]) hm dX13_makeClass_270 rfl ?_
      replace hf := mx_sv_el hf; obtain ⟨v41, e_v41, hf⟩ := hf
      refine sx_get hm dX13_makeClass_271 rs_RX13_128 (xgr_el e_v41) ?_
      clear e_v41
      refine mx_S.pu (pc2 := 275) (lv2 := [(0, .ref l0), (1, .int l1), (2, .int l2), (3, .int l3)]) (st2 := [.int l3, .ref v41, .int l2]) hm dX13_makeClass_274 rfl ?_
      replace hf := mx_sv_el hf; obtain ⟨v42, e_v42, hf⟩ := hf
      refine sx_ald hm dX13_makeClass_275 e_v42 ?_
      clear e_v42
      refine sx_ic (v := 1) hm dX13_makeClass_276 (by decide) ?_
      rcases mx_if_el hf with ⟨c52, hf⟩ | ⟨c52, hf⟩
      · refine sb_ic_ne hm dX13_makeClass_277 (tgt := 291) rfl (fun _ => ?_) (fun z => absurd c52 z)
        refine mx_S.pu (pc2 := 292) (lv2 := [(0, .ref l0), (1, .int l1), (2, .int l2), (3, .int l3)]) (st2 := [.ref l0, .int l2]) hm dX13_makeClass_291 rfl ?_
        replace hf := mx_sv_el hf; obtain ⟨v43, e_v43, hf⟩ := hf
        refine sx_get hm dX13_makeClass_292 rs_RX13_128 (xgr_el e_v43) ?_
        clear e_v43
        refine mx_S.pu (pc2 := 296) (lv2 := [(0, .ref l0), (1, .int l1), (2, .int l2), (3, .int l3)]) (st2 := [.int l3, .ref v43, .int l2]) hm dX13_makeClass_295 rfl ?_
        replace hf := mx_sv_el hf; obtain ⟨v44, e_v44, hf⟩ := hf
        refine sx_ald hm dX13_makeClass_296 e_v44 ?_
        clear e_v44
        refine sx_ic (v := 2) hm dX13_makeClass_297 (by decide) ?_
        rcases mx_if_el hf with ⟨c48, hf⟩ | ⟨c48, hf⟩
        · refine sb_ic_ne hm dX13_makeClass_298 (tgt := 305) rfl (fun _ => ?_) (fun z => absurd c48 z)
          refine mx_S.pu (pc2 := 306) (lv2 := [(0, .ref l0), (1, .int l1), (2, .int l2), (3, .int l3)]) (st2 := [.ref l0, .int l2]) hm dX13_makeClass_305 rfl ?_
          replace hf := mx_sv_el hf; obtain ⟨v45, e_v45, hf⟩ := hf
          refine sx_get hm dX13_makeClass_306 rs_RX13_128 (xgr_el e_v45) ?_
          clear e_v45
          refine mx_S.pu (pc2 := 310) (lv2 := [(0, .ref l0), (1, .int l1), (2, .int l2), (3, .int l3)]) (st2 := [.int l3, .ref v45, .int l2]) hm dX13_makeClass_309 rfl ?_
          replace hf := mx_sv_el hf; obtain ⟨v46, e_v46, hf⟩ := hf
          refine sx_ald hm dX13_makeClass_310 e_v46 ?_
          clear e_v46
          refine sx_ic (v := 3) hm dX13_makeClass_311 (by decide) ?_
          rcases mx_if_el hf with ⟨c47, hf⟩ | ⟨c47, hf⟩
          · refine sb_ic_ne hm dX13_makeClass_312 (tgt := 319) rfl (fun _ => ?_) (fun z => absurd c47 z)
            refine sx_ic (v := 4) hm dX13_makeClass_319 (by decide) ?_
            refine mx_S.ext [(0, .ref l0), (1, .int l1), (3, .int l3)] (mx_sub_pos [0, 1, 3] rfl (show ([0, 1, 2, 3] : List Nat).Nodup by decide)) ?_
            exact j_X13_makeClass_320_ok X hF hL nn ih l0 l1 l3 4 l2 h hf
          · refine sb_ic_ne hm dX13_makeClass_312 (tgt := 319) rfl (fun z => absurd z c47) (fun _ => ?_)
            refine sx_ic (v := 2) hm dX13_makeClass_315 (by decide) ?_
            refine mx_S.pu (pc2 := 320) (lv2 := [(0, .ref l0), (1, .int l1), (2, .int l2), (3, .int l3)]) (st2 := [.int 2, .int l2]) hm dX13_makeClass_316 rfl ?_
            refine mx_S.ext [(0, .ref l0), (1, .int l1), (3, .int l3)] (mx_sub_pos [0, 1, 3] rfl (show ([0, 1, 2, 3] : List Nat).Nodup by decide)) ?_
            exact j_X13_makeClass_320_ok X hF hL nn ih l0 l1 l3 2 l2 h hf
        · refine sb_ic_ne hm dX13_makeClass_298 (tgt := 305) rfl (fun z => absurd z c48) (fun _ => ?_)
          refine sx_ic (v := 5) hm dX13_makeClass_301 (by decide) ?_
          refine mx_S.pu (pc2 := 320) (lv2 := [(0, .ref l0), (1, .int l1), (2, .int l2), (3, .int l3)]) (st2 := [.int 5, .int l2]) hm dX13_makeClass_302 rfl ?_
          refine mx_S.ext [(0, .ref l0), (1, .int l1), (3, .int l3)] (mx_sub_pos [0, 1, 3] rfl (show ([0, 1, 2, 3] : List Nat).Nodup by decide)) ?_
          exact j_X13_makeClass_320_ok X hF hL nn ih l0 l1 l3 5 l2 h hf
      · refine sb_ic_ne hm dX13_makeClass_277 (tgt := 291) rfl (fun z => absurd z c52) (fun _ => ?_)
        refine sx_ic (v := 2) hm dX13_makeClass_280 (by decide) ?_
        refine mx_S.pu (pc2 := 282) (lv2 := [(0, .ref l0), (1, .int l1), (2, .int l2), (3, .int l3)]) (st2 := [.ref l0, .int 2, .int l2]) hm dX13_makeClass_281 rfl ?_
        replace hf := mx_sv_el hf; obtain ⟨v49, e_v49, hf⟩ := hf
        refine sx_get hm dX13_makeClass_282 rs_RX13_134 (xgr_el e_v49) ?_
        clear e_v49
        refine mx_S.pu (pc2 := 286) (lv2 := [(0, .ref l0), (1, .int l1), (2, .int l2), (3, .int l3)]) (st2 := [.int l3, .ref v49, .int 2, .int l2]) hm dX13_makeClass_285 rfl ?_
        replace hf := mx_sv_el hf; obtain ⟨v50, e_v50, hf⟩ := hf
        refine sx_ald hm dX13_makeClass_286 e_v50 ?_
        clear e_v50
        replace hf := xl_el hf; obtain ⟨v51, e_v51, hf⟩ := hf
        refine mx_S.pu (pc2 := 288) (lv2 := [(0, .ref l0), (1, .int l1), (2, .int l2), (3, .int l3)]) (st2 := [.int v51, .int l2]) hm dX13_makeClass_287 (by rw [← e_v51]; rfl) ?_
        clear e_v51
        refine mx_S.pu (pc2 := 320) (lv2 := [(0, .ref l0), (1, .int l1), (2, .int l2), (3, .int l3)]) (st2 := [.int v51, .int l2]) hm dX13_makeClass_288 rfl ?_
        refine mx_S.ext [(0, .ref l0), (1, .int l1), (3, .int l3)] (mx_sub_pos [0, 1, 3] rfl (show ([0, 1, 2, 3] : List Nat).Nodup by decide)) ?_
        exact j_X13_makeClass_320_ok X hF hL nn ih l0 l1 l3 v51 l2 h hf
set_option maxHeartbeats 4000000 in
set_option maxRecDepth 20000 in
theorem j_X13_makeClass_195_ok (X : Nat × (Nat → Int32)) {F L : Nat} (hF : 1662 ≤ F) (hL : 43576 ≤ L) (nn : Nat) {kk_68 : Nat → Int32 → Int32 → mx_H → Option mx_H} (hk_68 : ∀ (l0 : Nat) (l1 : Int32) (l2 : Int32) (h : mx_H) (r : mx_H), kk_68 l0 l1 l2 h = some r → mx_S X F L 484 68 [(0, .ref l0), (1, .int l1), (2, .int l2)] [] h 0 0 (none, r, 0, 0)) {kk_143 : Nat → Int32 → Int32 → Int32 → mx_H → Option mx_H} (hk_143 : ∀ (l0 : Nat) (l1 : Int32) (l2 : Int32) (l4 : Int32) (h : mx_H) (r : mx_H), kk_143 l0 l1 l2 l4 h = some r → mx_S X F L 484 143 [(0, .ref l0), (1, .int l1), (2, .int l2), (4, .int l4)] [] h 0 0 (none, r, 0, 0)) (l0 : Nat) (l1 : Int32) (l2 : Int32) (l4 : Int32) (s0 : Int32) (s1 : Int32) (h : mx_H) {r : mx_H} (hf : j_X13_makeClass_195 nn kk_68 kk_143 l0 l1 l2 l4 s0 s1 h = some r) : mx_S X F L 484 195 [(0, .ref l0), (1, .int l1), (2, .int l2), (4, .int l4)] [.int s0, .int s1] h 0 0 (none, r, 0, 0) := by
  have hm : mx_mt 484 = some (yX13_makeClass, cX13_makeClass, 5, none) := mt_X13_makeClass
  unfold j_X13_makeClass_195 at hf
  rcases mx_if_el hf with ⟨c70, hf⟩ | ⟨c70, hf⟩
  · refine sb_ic_eq hm dX13_makeClass_195 (tgt := 201) rfl (fun _ => ?_) (fun z => absurd c70 z)
    refine mx_S.pu (pc2 := 202) (lv2 := [(0, .ref l0), (1, .int l1), (2, .int l2), (4, .int l4)]) (st2 := [.int l2]) hm dX13_makeClass_201 rfl ?_
    refine sx_ic (v := 1) hm dX13_makeClass_202 (by decide) ?_
    rcases mx_if_el hf with ⟨c68, hf⟩ | ⟨c68, hf⟩
    · refine sb_ic_ne hm dX13_makeClass_203 (tgt := 215) rfl (fun _ => ?_) (fun z => absurd c68 z)
      refine mx_S.pu (pc2 := 216) (lv2 := [(0, .ref l0), (1, .int l1), (2, .int l2), (4, .int l4)]) (st2 := [.ref l0]) hm dX13_makeClass_215 rfl ?_
      refine mx_S.pu (pc2 := 217) (lv2 := [(0, .ref l0), (1, .int l1), (2, .int l2), (4, .int l4)]) (st2 := [.ref l0, .ref l0]) hm dX13_makeClass_216 rfl ?_
      refine mx_S.pu (pc2 := 218) (lv2 := [(0, .ref l0), (1, .int l1), (2, .int l2), (4, .int l4)]) (st2 := [.ref l0, .ref l0, .ref l0]) hm dX13_makeClass_217 rfl ?_
      replace hf := mx_sv_el hf; obtain ⟨v54, e_v54, hf⟩ := hf
      refine sx_get hm dX13_makeClass_218 rs_RX13_86 (xgr_el e_v54) ?_
      clear e_v54
      refine mx_S.pu (pc2 := 223) (lv2 := [(0, .ref l0), (1, .int l1), (2, .int l2), (4, .int l4)]) (st2 := [.int l4, .ref v54, .ref l0, .ref l0]) hm dX13_makeClass_221 rfl ?_
      replace hf := mx_sv_el hf; obtain ⟨v55, e_v55, hf⟩ := hf
      refine sx_ald hm dX13_makeClass_223 e_v55 ?_
      clear e_v55
      replace hf := mx_gd_el hf; obtain ⟨c56, hf⟩ := hf
      replace hf := mx_sv_el hf; obtain ⟨u57, e_u57, hf⟩ := hf
      refine sx_cv hm dX13_makeClass_224 rs_RX13_621 mt_X13_textOf [.int v55] [.ref l0] (b := l0) (ci := 13) rfl rfl rfl c56 (Nat.le_of_ble_eq_true rfl) (Nat.le_of_ble_eq_true rfl) (by omega) (by omega) (f_X13_textOf_ok X (by omega) (by omega) nn l0 v55 h e_u57) ?_
      clear e_u57
      show mx_S X F L 484 227 [(0, .ref l0), (1, .int l1), (2, .int l2), (4, .int l4)] [.int u57.1, .ref l0] u57.2 0 0 (none, r, 0, 0)
      replace hf := mx_gd_el hf; obtain ⟨c58, hf⟩ := hf
      replace hf := mx_sv_el hf; obtain ⟨u59, e_u59, hf⟩ := hf
      refine sx_cv hm dX13_makeClass_227 rs_RX13_731 mt_X13_tell [.int u57.1] [] (b := l0) (ci := 13) rfl rfl rfl c58 (Nat.le_of_ble_eq_true rfl) (Nat.le_of_ble_eq_true rfl) (by omega) (by omega) (f_X13_tell_ok X (by omega) (by omega) nn l0 u57.1 u57.2 e_u59) ?_
      clear e_u59
      show mx_S X F L 484 230 [(0, .ref l0), (1, .int l1), (2, .int l2), (4, .int l4)] [] u59 0 0 (none, r, 0, 0)
      refine mx_S.pu (pc2 := 231) (lv2 := [(0, .ref l0), (1, .int l1), (2, .int l2), (4, .int l4)]) (st2 := [.ref l0]) hm dX13_makeClass_230 rfl ?_
      refine mx_S.pu (pc2 := 232) (lv2 := [(0, .ref l0), (1, .int l1), (2, .int l2), (4, .int l4)]) (st2 := [.ref l0, .ref l0]) hm dX13_makeClass_231 rfl ?_
      refine mx_S.pu (pc2 := 234) (lv2 := [(0, .ref l0), (1, .int l1), (2, .int l2), (4, .int l4)]) (st2 := [.int l4, .ref l0, .ref l0]) hm dX13_makeClass_232 rfl ?_
      replace hf := mx_gd_el hf; obtain ⟨c60, hf⟩ := hf
      replace hf := mx_sv_el hf; obtain ⟨u61, e_u61, hf⟩ := hf
      refine sx_cv hm dX13_makeClass_234 rs_RX13_624 mt_X13_kindOf [.int l4] [.ref l0] (b := l0) (ci := 13) rfl rfl rfl c60 (Nat.le_of_ble_eq_true rfl) (Nat.le_of_ble_eq_true rfl) (by omega) (by omega) (f_X13_kindOf_ok X (by omega) (by omega) nn l0 l4 u59 e_u61) ?_
      clear e_u61
      show mx_S X F L 484 237 [(0, .ref l0), (1, .int l1), (2, .int l2), (4, .int l4)] [.int u61.1, .ref l0] u61.2 0 0 (none, r, 0, 0)
      replace hf := mx_gd_el hf; obtain ⟨c62, hf⟩ := hf
      replace hf := mx_sv_el hf; obtain ⟨u63, e_u63, hf⟩ := hf
      refine sx_cv hm dX13_makeClass_237 rs_RX13_731 mt_X13_tell [.int u61.1] [] (b := l0) (ci := 13) rfl rfl rfl c62 (Nat.le_of_ble_eq_true rfl) (Nat.le_of_ble_eq_true rfl) (by omega) (by omega) (f_X13_tell_ok X (by omega) (by omega) nn l0 u61.1 u61.2 e_u63) ?_
      clear e_u63
      show mx_S X F L 484 240 [(0, .ref l0), (1, .int l1), (2, .int l2), (4, .int l4)] [] u63 0 0 (none, r, 0, 0)
      replace hf := xl_el hf; obtain ⟨v64, e_v64, hf⟩ := hf
      refine mx_S.pu (pc2 := 243) (lv2 := [(4, .int v64), (0, .ref l0), (1, .int l1), (2, .int l2)]) (st2 := []) hm dX13_makeClass_240 (by rw [← e_v64]; rfl) ?_
      clear e_v64
      refine mx_S.pu (pc2 := 143) (lv2 := [(4, .int v64), (0, .ref l0), (1, .int l1), (2, .int l2)]) (st2 := []) hm dX13_makeClass_243 rfl ?_
      refine mx_S.ext [(0, .ref l0), (1, .int l1), (2, .int l2), (4, .int v64)] (mx_sub_pos [1, 2, 3, 0] rfl (show ([4, 0, 1, 2] : List Nat).Nodup by decide)) ?_
      exact hk_143 l0 l1 l2 v64 u63 _ hf
    · refine sb_ic_ne hm dX13_makeClass_203 (tgt := 215) rfl (fun z => absurd z c68) (fun _ => ?_)
      refine mx_S.pu (pc2 := 207) (lv2 := [(0, .ref l0), (1, .int l1), (2, .int l2), (4, .int l4)]) (st2 := [.ref l0]) hm dX13_makeClass_206 rfl ?_
      refine mx_S.pu (pc2 := 209) (lv2 := [(0, .ref l0), (1, .int l1), (2, .int l2), (4, .int l4)]) (st2 := [.int l4, .ref l0]) hm dX13_makeClass_207 rfl ?_
      replace hf := mx_gd_el hf; obtain ⟨c65, hf⟩ := hf
      replace hf := mx_sv_el hf; obtain ⟨u66, e_u66, hf⟩ := hf
      refine sx_cv hm dX13_makeClass_209 rs_RX13_740 mt_X13_makeMethod [.int l4] [] (b := l0) (ci := 13) rfl rfl rfl c65 (Nat.le_of_ble_eq_true rfl) (Nat.le_of_ble_eq_true rfl) (by omega) (by omega) (f_X13_makeMethod_ok X (by omega) (by omega) nn l0 l4 h e_u66) ?_
      clear e_u66
      show mx_S X F L 484 212 [(0, .ref l0), (1, .int l1), (2, .int l2), (4, .int l4)] [] u66 0 0 (none, r, 0, 0)
      refine mx_S.pu (pc2 := 240) (lv2 := [(0, .ref l0), (1, .int l1), (2, .int l2), (4, .int l4)]) (st2 := []) hm dX13_makeClass_212 rfl ?_
      replace hf := xl_el hf; obtain ⟨v67, e_v67, hf⟩ := hf
      refine mx_S.pu (pc2 := 243) (lv2 := [(4, .int v67), (0, .ref l0), (1, .int l1), (2, .int l2)]) (st2 := []) hm dX13_makeClass_240 (by rw [← e_v67]; rfl) ?_
      clear e_v67
      refine mx_S.pu (pc2 := 143) (lv2 := [(4, .int v67), (0, .ref l0), (1, .int l1), (2, .int l2)]) (st2 := []) hm dX13_makeClass_243 rfl ?_
      refine mx_S.ext [(0, .ref l0), (1, .int l1), (2, .int l2), (4, .int v67)] (mx_sub_pos [1, 2, 3, 0] rfl (show ([4, 0, 1, 2] : List Nat).Nodup by decide)) ?_
      exact hk_143 l0 l1 l2 v67 u66 _ hf
  · refine sb_ic_eq hm dX13_makeClass_195 (tgt := 201) rfl (fun z => absurd z c70) (fun _ => ?_)
    refine mx_S.pu (pc2 := 240) (lv2 := [(0, .ref l0), (1, .int l1), (2, .int l2), (4, .int l4)]) (st2 := []) hm dX13_makeClass_198 rfl ?_
    replace hf := xl_el hf; obtain ⟨v69, e_v69, hf⟩ := hf
    refine mx_S.pu (pc2 := 243) (lv2 := [(4, .int v69), (0, .ref l0), (1, .int l1), (2, .int l2)]) (st2 := []) hm dX13_makeClass_240 (by rw [← e_v69]; rfl) ?_
    clear e_v69
    refine mx_S.pu (pc2 := 143) (lv2 := [(4, .int v69), (0, .ref l0), (1, .int l1), (2, .int l2)]) (st2 := []) hm dX13_makeClass_243 rfl ?_
    refine mx_S.ext [(0, .ref l0), (1, .int l1), (2, .int l2), (4, .int v69)] (mx_sub_pos [1, 2, 3, 0] rfl (show ([4, 0, 1, 2] : List Nat).Nodup by decide)) ?_
    exact hk_143 l0 l1 l2 v69 h _ hf
set_option maxHeartbeats 4000000 in
set_option maxRecDepth 20000 in
theorem j_X13_makeClass_185_ok (X : Nat × (Nat → Int32)) {F L : Nat} (hF : 1662 ≤ F) (hL : 43576 ≤ L) (nn : Nat) {kk_68 : Nat → Int32 → Int32 → mx_H → Option mx_H} (hk_68 : ∀ (l0 : Nat) (l1 : Int32) (l2 : Int32) (h : mx_H) (r : mx_H), kk_68 l0 l1 l2 h = some r → mx_S X F L 484 68 [(0, .ref l0), (1, .int l1), (2, .int l2)] [] h 0 0 (none, r, 0, 0)) {kk_143 : Nat → Int32 → Int32 → Int32 → mx_H → Option mx_H} (hk_143 : ∀ (l0 : Nat) (l1 : Int32) (l2 : Int32) (l4 : Int32) (h : mx_H) (r : mx_H), kk_143 l0 l1 l2 l4 h = some r → mx_S X F L 484 143 [(0, .ref l0), (1, .int l1), (2, .int l2), (4, .int l4)] [] h 0 0 (none, r, 0, 0)) (l0 : Nat) (l1 : Int32) (l2 : Int32) (l4 : Int32) (s0 : Int32) (h : mx_H) {r : mx_H} (hf : j_X13_makeClass_185 nn kk_68 kk_143 l0 l1 l2 l4 s0 h = some r) : mx_S X F L 484 185 [(0, .ref l0), (1, .int l1), (2, .int l2), (4, .int l4)] [.int s0] h 0 0 (none, r, 0, 0) := by
  have hm : mx_mt 484 = some (yX13_makeClass, cX13_makeClass, 5, none) := mt_X13_makeClass
  unfold j_X13_makeClass_185 at hf
  refine mx_S.pu (pc2 := 186) (lv2 := [(0, .ref l0), (1, .int l1), (2, .int l2), (4, .int l4)]) (st2 := [.int l2, .int s0]) hm dX13_makeClass_185 rfl ?_
  refine sx_ic (v := 1) hm dX13_makeClass_186 (by decide) ?_
  rcases mx_if_el hf with ⟨c71, hf⟩ | ⟨c71, hf⟩
  · refine sb_ic_ne hm dX13_makeClass_187 (tgt := 194) rfl (fun _ => ?_) (fun z => absurd c71 z)
    refine sx_ic (v := 0) hm dX13_makeClass_194 (by decide) ?_
    exact j_X13_makeClass_195_ok X hF hL nn hk_68 hk_143 l0 l1 l2 l4 0 s0 h hf
  · refine sb_ic_ne hm dX13_makeClass_187 (tgt := 194) rfl (fun z => absurd z c71) (fun _ => ?_)
    refine sx_ic (v := 1) hm dX13_makeClass_190 (by decide) ?_
    refine mx_S.pu (pc2 := 195) (lv2 := [(0, .ref l0), (1, .int l1), (2, .int l2), (4, .int l4)]) (st2 := [.int 1, .int s0]) hm dX13_makeClass_191 rfl ?_
    exact j_X13_makeClass_195_ok X hF hL nn hk_68 hk_143 l0 l1 l2 l4 1 s0 h hf
set_option maxHeartbeats 4000000 in
set_option maxRecDepth 20000 in
theorem w_X13_makeClass_143_ok (X : Nat × (Nat → Int32)) {F L : Nat} (hF : 1662 ≤ F) (hL : 43576 ≤ L) (nn : Nat) {kk_68 : Nat → Int32 → Int32 → mx_H → Option mx_H} (hk_68 : ∀ (l0 : Nat) (l1 : Int32) (l2 : Int32) (h : mx_H) (r : mx_H), kk_68 l0 l1 l2 h = some r → mx_S X F L 484 68 [(0, .ref l0), (1, .int l1), (2, .int l2)] [] h 0 0 (none, r, 0, 0)) : ∀ (k : Nat) (l0 : Nat) (l1 : Int32) (l2 : Int32) (l4 : Int32) (h : mx_H) (r : mx_H), w_X13_makeClass_143 nn kk_68 k l0 l1 l2 l4 h = some r → mx_S X F L 484 143 [(0, .ref l0), (1, .int l1), (2, .int l2), (4, .int l4)] [] h 0 0 (none, r, 0, 0) := by
  have hm : mx_mt 484 = some (yX13_makeClass, cX13_makeClass, 5, none) := mt_X13_makeClass
  intro k
  induction k with
  | zero => intro l0 l1 l2 l4 h r hf; cases hf
  | succ k ih =>
    intro l0 l1 l2 l4 h r hf
    unfold w_X13_makeClass_143 at hf
    refine mx_S.pu (pc2 := 145) (lv2 := [(0, .ref l0), (1, .int l1), (2, .int l2), (4, .int l4)]) (st2 := [.int l4]) hm dX13_makeClass_143 rfl ?_
    refine mx_S.pu (pc2 := 146) (lv2 := [(0, .ref l0), (1, .int l1), (2, .int l2), (4, .int l4)]) (st2 := [.ref l0, .int l4]) hm dX13_makeClass_145 rfl ?_
    replace hf := mx_sv_el hf; obtain ⟨v72, e_v72, hf⟩ := hf
    refine sx_get hm dX13_makeClass_146 rs_RX13_412 (xgi_el e_v72) ?_
    clear e_v72
    rcases mx_if_el hf with ⟨c84, hf⟩ | ⟨c84, hf⟩
    · refine sb_ic_ge hm dX13_makeClass_149 (tgt := 246) rfl (fun _ => ?_) (fun z => absurd c84 z)
      replace hf := xl_el hf; obtain ⟨v73, e_v73, hf⟩ := hf
      refine mx_S.pu (pc2 := 249) (lv2 := [(2, .int v73), (0, .ref l0), (1, .int l1), (4, .int l4)]) (st2 := []) hm dX13_makeClass_246 (by rw [← e_v73]; rfl) ?_
      clear e_v73
      refine mx_S.pu (pc2 := 68) (lv2 := [(2, .int v73), (0, .ref l0), (1, .int l1), (4, .int l4)]) (st2 := []) hm dX13_makeClass_249 rfl ?_
      refine mx_S.ext [(0, .ref l0), (1, .int l1), (2, .int v73)] (mx_sub_pos [1, 2, 0] rfl (show ([2, 0, 1, 4] : List Nat).Nodup by decide)) ?_
      exact hk_68 l0 l1 v73 h _ hf
    · refine sb_ic_ge hm dX13_makeClass_149 (tgt := 246) rfl (fun z => absurd z c84) (fun _ => ?_)
      refine mx_S.pu (pc2 := 153) (lv2 := [(0, .ref l0), (1, .int l1), (2, .int l2), (4, .int l4)]) (st2 := [.ref l0]) hm dX13_makeClass_152 rfl ?_
      replace hf := mx_sv_el hf; obtain ⟨v74, e_v74, hf⟩ := hf
      refine sx_get hm dX13_makeClass_153 rs_RX13_319 (xgi_el e_v74) ?_
      clear e_v74
      rcases mx_if_el hf with ⟨c83, hf⟩ | ⟨c83, hf⟩
      · refine sb_if_ne hm dX13_makeClass_156 (tgt := 246) rfl (fun _ => ?_) (fun z => absurd c83 z)
        replace hf := xl_el hf; obtain ⟨v75, e_v75, hf⟩ := hf
        refine mx_S.pu (pc2 := 249) (lv2 := [(2, .int v75), (0, .ref l0), (1, .int l1), (4, .int l4)]) (st2 := []) hm dX13_makeClass_246 (by rw [← e_v75]; rfl) ?_
        clear e_v75
        refine mx_S.pu (pc2 := 68) (lv2 := [(2, .int v75), (0, .ref l0), (1, .int l1), (4, .int l4)]) (st2 := []) hm dX13_makeClass_249 rfl ?_
        refine mx_S.ext [(0, .ref l0), (1, .int l1), (2, .int v75)] (mx_sub_pos [1, 2, 0] rfl (show ([2, 0, 1, 4] : List Nat).Nodup by decide)) ?_
        exact hk_68 l0 l1 v75 h _ hf
      · refine sb_if_ne hm dX13_makeClass_156 (tgt := 246) rfl (fun z => absurd z c83) (fun _ => ?_)
        refine mx_S.pu (pc2 := 160) (lv2 := [(0, .ref l0), (1, .int l1), (2, .int l2), (4, .int l4)]) (st2 := [.ref l0]) hm dX13_makeClass_159 rfl ?_
        replace hf := mx_sv_el hf; obtain ⟨v76, e_v76, hf⟩ := hf
        refine sx_get hm dX13_makeClass_160 rs_RX13_71 (xgr_el e_v76) ?_
        clear e_v76
        refine mx_S.pu (pc2 := 165) (lv2 := [(0, .ref l0), (1, .int l1), (2, .int l2), (4, .int l4)]) (st2 := [.int l4, .ref v76]) hm dX13_makeClass_163 rfl ?_
        replace hf := mx_sv_el hf; obtain ⟨v77, e_v77, hf⟩ := hf
        refine sx_ald hm dX13_makeClass_165 e_v77 ?_
        clear e_v77
        refine mx_S.pu (pc2 := 167) (lv2 := [(0, .ref l0), (1, .int l1), (2, .int l2), (4, .int l4)]) (st2 := [.int l1, .int v77]) hm dX13_makeClass_166 rfl ?_
        rcases mx_if_el hf with ⟨c82, hf⟩ | ⟨c82, hf⟩
        · refine sb_ic_ne hm dX13_makeClass_167 (tgt := 240) rfl (fun _ => ?_) (fun z => absurd c82 z)
          replace hf := xl_el hf; obtain ⟨v78, e_v78, hf⟩ := hf
          refine mx_S.pu (pc2 := 243) (lv2 := [(4, .int v78), (0, .ref l0), (1, .int l1), (2, .int l2)]) (st2 := []) hm dX13_makeClass_240 (by rw [← e_v78]; rfl) ?_
          clear e_v78
          refine mx_S.pu (pc2 := 143) (lv2 := [(4, .int v78), (0, .ref l0), (1, .int l1), (2, .int l2)]) (st2 := []) hm dX13_makeClass_243 rfl ?_
          refine mx_S.ext [(0, .ref l0), (1, .int l1), (2, .int l2), (4, .int v78)] (mx_sub_pos [1, 2, 3, 0] rfl (show ([4, 0, 1, 2] : List Nat).Nodup by decide)) ?_
          exact ih l0 l1 l2 v78 h _ hf
        · refine sb_ic_ne hm dX13_makeClass_167 (tgt := 240) rfl (fun z => absurd z c82) (fun _ => ?_)
          refine mx_S.pu (pc2 := 171) (lv2 := [(0, .ref l0), (1, .int l1), (2, .int l2), (4, .int l4)]) (st2 := [.ref l0]) hm dX13_makeClass_170 rfl ?_
          replace hf := mx_sv_el hf; obtain ⟨v79, e_v79, hf⟩ := hf
          refine sx_get hm dX13_makeClass_171 rs_RX13_74 (xgr_el e_v79) ?_
          clear e_v79
          refine mx_S.pu (pc2 := 176) (lv2 := [(0, .ref l0), (1, .int l1), (2, .int l2), (4, .int l4)]) (st2 := [.int l4, .ref v79]) hm dX13_makeClass_174 rfl ?_
          replace hf := mx_sv_el hf; obtain ⟨v80, e_v80, hf⟩ := hf
          refine sx_ald hm dX13_makeClass_176 e_v80 ?_
          clear e_v80
          rcases mx_if_el hf with ⟨c81, hf⟩ | ⟨c81, hf⟩
          · refine sb_if_le hm dX13_makeClass_177 (tgt := 184) rfl (fun _ => ?_) (fun z => absurd c81 z)
            refine sx_ic (v := 0) hm dX13_makeClass_184 (by decide) ?_
            exact j_X13_makeClass_185_ok X hF hL nn hk_68 ih l0 l1 l2 l4 0 h hf
          · refine sb_if_le hm dX13_makeClass_177 (tgt := 184) rfl (fun z => absurd z c81) (fun _ => ?_)
            refine sx_ic (v := 1) hm dX13_makeClass_180 (by decide) ?_
            refine mx_S.pu (pc2 := 185) (lv2 := [(0, .ref l0), (1, .int l1), (2, .int l2), (4, .int l4)]) (st2 := [.int 1]) hm dX13_makeClass_181 rfl ?_
            exact j_X13_makeClass_185_ok X hF hL nn hk_68 ih l0 l1 l2 l4 1 h hf
set_option maxHeartbeats 4000000 in
set_option maxRecDepth 20000 in
theorem j_X13_makeClass_123_ok (X : Nat × (Nat → Int32)) {F L : Nat} (hF : 1662 ≤ F) (hL : 43576 ≤ L) (nn : Nat) {kk_68 : Nat → Int32 → Int32 → mx_H → Option mx_H} (hk_68 : ∀ (l0 : Nat) (l1 : Int32) (l2 : Int32) (h : mx_H) (r : mx_H), kk_68 l0 l1 l2 h = some r → mx_S X F L 484 68 [(0, .ref l0), (1, .int l1), (2, .int l2)] [] h 0 0 (none, r, 0, 0)) {kk_78 : Nat → Int32 → Int32 → Int32 → Int32 → mx_H → Option mx_H} (hk_78 : ∀ (l0 : Nat) (l1 : Int32) (l2 : Int32) (l3 : Int32) (l4 : Int32) (h : mx_H) (r : mx_H), kk_78 l0 l1 l2 l3 l4 h = some r → mx_S X F L 484 78 [(0, .ref l0), (1, .int l1), (2, .int l2), (3, .int l3), (4, .int l4)] [] h 0 0 (none, r, 0, 0)) (l0 : Nat) (l1 : Int32) (l2 : Int32) (l3 : Int32) (l4 : Int32) (s0 : Int32) (s1 : Int32) (h : mx_H) {r : mx_H} (hf : j_X13_makeClass_123 nn kk_68 kk_78 l0 l1 l2 l3 l4 s0 s1 h = some r) : mx_S X F L 484 123 [(0, .ref l0), (1, .int l1), (2, .int l2), (3, .int l3), (4, .int l4)] [.int s0, .int s1] h 0 0 (none, r, 0, 0) := by
  have hm : mx_mt 484 = some (yX13_makeClass, cX13_makeClass, 5, none) := mt_X13_makeClass
  unfold j_X13_makeClass_123 at hf
  rcases mx_if_el hf with ⟨c88, hf⟩ | ⟨c88, hf⟩
  · refine sb_ic_ne hm dX13_makeClass_123 (tgt := 129) rfl (fun _ => ?_) (fun z => absurd c88 z)
    replace hf := xl_el hf; obtain ⟨v85, e_v85, hf⟩ := hf
    refine mx_S.pu (pc2 := 132) (lv2 := [(4, .int v85), (0, .ref l0), (1, .int l1), (2, .int l2), (3, .int l3)]) (st2 := []) hm dX13_makeClass_129 (by rw [← e_v85]; rfl) ?_
    clear e_v85
    refine mx_S.pu (pc2 := 78) (lv2 := [(4, .int v85), (0, .ref l0), (1, .int l1), (2, .int l2), (3, .int l3)]) (st2 := []) hm dX13_makeClass_132 rfl ?_
    refine mx_S.ext [(0, .ref l0), (1, .int l1), (2, .int l2), (3, .int l3), (4, .int v85)] (mx_sub_pos [1, 2, 3, 4, 0] rfl (show ([4, 0, 1, 2, 3] : List Nat).Nodup by decide)) ?_
    exact hk_78 l0 l1 l2 l3 v85 h _ hf
  · refine sb_ic_ne hm dX13_makeClass_123 (tgt := 129) rfl (fun z => absurd z c88) (fun _ => ?_)
    replace hf := xl_el hf; obtain ⟨v86, e_v86, hf⟩ := hf
    refine mx_S.pu (pc2 := 129) (lv2 := [(3, .int v86), (0, .ref l0), (1, .int l1), (2, .int l2), (4, .int l4)]) (st2 := []) hm dX13_makeClass_126 (by rw [← e_v86]; rfl) ?_
    clear e_v86
    replace hf := xl_el hf; obtain ⟨v87, e_v87, hf⟩ := hf
    refine mx_S.pu (pc2 := 132) (lv2 := [(4, .int v87), (3, .int v86), (0, .ref l0), (1, .int l1), (2, .int l2)]) (st2 := []) hm dX13_makeClass_129 (by rw [← e_v87]; rfl) ?_
    clear e_v87
    refine mx_S.pu (pc2 := 78) (lv2 := [(4, .int v87), (3, .int v86), (0, .ref l0), (1, .int l1), (2, .int l2)]) (st2 := []) hm dX13_makeClass_132 rfl ?_
    refine mx_S.ext [(0, .ref l0), (1, .int l1), (2, .int l2), (3, .int v86), (4, .int v87)] (mx_sub_pos [2, 3, 4, 1, 0] rfl (show ([4, 3, 0, 1, 2] : List Nat).Nodup by decide)) ?_
    exact hk_78 l0 l1 l2 v86 v87 h _ hf
set_option maxHeartbeats 4000000 in
set_option maxRecDepth 20000 in
theorem j_X13_makeClass_113_ok (X : Nat × (Nat → Int32)) {F L : Nat} (hF : 1662 ≤ F) (hL : 43576 ≤ L) (nn : Nat) {kk_68 : Nat → Int32 → Int32 → mx_H → Option mx_H} (hk_68 : ∀ (l0 : Nat) (l1 : Int32) (l2 : Int32) (h : mx_H) (r : mx_H), kk_68 l0 l1 l2 h = some r → mx_S X F L 484 68 [(0, .ref l0), (1, .int l1), (2, .int l2)] [] h 0 0 (none, r, 0, 0)) {kk_78 : Nat → Int32 → Int32 → Int32 → Int32 → mx_H → Option mx_H} (hk_78 : ∀ (l0 : Nat) (l1 : Int32) (l2 : Int32) (l3 : Int32) (l4 : Int32) (h : mx_H) (r : mx_H), kk_78 l0 l1 l2 l3 l4 h = some r → mx_S X F L 484 78 [(0, .ref l0), (1, .int l1), (2, .int l2), (3, .int l3), (4, .int l4)] [] h 0 0 (none, r, 0, 0)) (l0 : Nat) (l1 : Int32) (l2 : Int32) (l3 : Int32) (l4 : Int32) (s0 : Int32) (h : mx_H) {r : mx_H} (hf : j_X13_makeClass_113 nn kk_68 kk_78 l0 l1 l2 l3 l4 s0 h = some r) : mx_S X F L 484 113 [(0, .ref l0), (1, .int l1), (2, .int l2), (3, .int l3), (4, .int l4)] [.int s0] h 0 0 (none, r, 0, 0) := by
  have hm : mx_mt 484 = some (yX13_makeClass, cX13_makeClass, 5, none) := mt_X13_makeClass
  unfold j_X13_makeClass_113 at hf
  refine mx_S.pu (pc2 := 114) (lv2 := [(0, .ref l0), (1, .int l1), (2, .int l2), (3, .int l3), (4, .int l4)]) (st2 := [.int l2, .int s0]) hm dX13_makeClass_113 rfl ?_
  refine sx_ic (v := 1) hm dX13_makeClass_114 (by decide) ?_
  rcases mx_if_el hf with ⟨c89, hf⟩ | ⟨c89, hf⟩
  · refine sb_ic_ne hm dX13_makeClass_115 (tgt := 122) rfl (fun _ => ?_) (fun z => absurd c89 z)
    refine sx_ic (v := 0) hm dX13_makeClass_122 (by decide) ?_
    exact j_X13_makeClass_123_ok X hF hL nn hk_68 hk_78 l0 l1 l2 l3 l4 0 s0 h hf
  · refine sb_ic_ne hm dX13_makeClass_115 (tgt := 122) rfl (fun z => absurd z c89) (fun _ => ?_)
    refine sx_ic (v := 1) hm dX13_makeClass_118 (by decide) ?_
    refine mx_S.pu (pc2 := 123) (lv2 := [(0, .ref l0), (1, .int l1), (2, .int l2), (3, .int l3), (4, .int l4)]) (st2 := [.int 1, .int s0]) hm dX13_makeClass_119 rfl ?_
    exact j_X13_makeClass_123_ok X hF hL nn hk_68 hk_78 l0 l1 l2 l3 l4 1 s0 h hf
set_option maxHeartbeats 4000000 in
set_option maxRecDepth 20000 in
theorem w_X13_makeClass_78_ok (X : Nat × (Nat → Int32)) {F L : Nat} (hF : 1662 ≤ F) (hL : 43576 ≤ L) (nn : Nat) {kk_68 : Nat → Int32 → Int32 → mx_H → Option mx_H} (hk_68 : ∀ (l0 : Nat) (l1 : Int32) (l2 : Int32) (h : mx_H) (r : mx_H), kk_68 l0 l1 l2 h = some r → mx_S X F L 484 68 [(0, .ref l0), (1, .int l1), (2, .int l2)] [] h 0 0 (none, r, 0, 0)) : ∀ (k : Nat) (l0 : Nat) (l1 : Int32) (l2 : Int32) (l3 : Int32) (l4 : Int32) (h : mx_H) (r : mx_H), w_X13_makeClass_78 nn kk_68 k l0 l1 l2 l3 l4 h = some r → mx_S X F L 484 78 [(0, .ref l0), (1, .int l1), (2, .int l2), (3, .int l3), (4, .int l4)] [] h 0 0 (none, r, 0, 0) := by
  have hm : mx_mt 484 = some (yX13_makeClass, cX13_makeClass, 5, none) := mt_X13_makeClass
  intro k
  induction k with
  | zero => intro l0 l1 l2 l3 l4 h r hf; cases hf
  | succ k ih =>
    intro l0 l1 l2 l3 l4 h r hf
    unfold w_X13_makeClass_78 at hf
    refine mx_S.pu (pc2 := 80) (lv2 := [(0, .ref l0), (1, .int l1), (2, .int l2), (3, .int l3), (4, .int l4)]) (st2 := [.int l4]) hm dX13_makeClass_78 rfl ?_
    refine mx_S.pu (pc2 := 81) (lv2 := [(0, .ref l0), (1, .int l1), (2, .int l2), (3, .int l3), (4, .int l4)]) (st2 := [.ref l0, .int l4]) hm dX13_makeClass_80 rfl ?_
    replace hf := mx_sv_el hf; obtain ⟨v90, e_v90, hf⟩ := hf
    refine sx_get hm dX13_makeClass_81 rs_RX13_412 (xgi_el e_v90) ?_
    clear e_v90
    rcases mx_if_el hf with ⟨c100, hf⟩ | ⟨c100, hf⟩
    · refine sb_ic_ge hm dX13_makeClass_84 (tgt := 135) rfl (fun _ => ?_) (fun z => absurd c100 z)
      refine mx_S.pu (pc2 := 136) (lv2 := [(0, .ref l0), (1, .int l1), (2, .int l2), (3, .int l3), (4, .int l4)]) (st2 := [.ref l0]) hm dX13_makeClass_135 rfl ?_
      refine mx_S.pu (pc2 := 137) (lv2 := [(0, .ref l0), (1, .int l1), (2, .int l2), (3, .int l3), (4, .int l4)]) (st2 := [.int l3, .ref l0]) hm dX13_makeClass_136 rfl ?_
      replace hf := mx_gd_el hf; obtain ⟨c91, hf⟩ := hf
      replace hf := mx_sv_el hf; obtain ⟨u92, e_u92, hf⟩ := hf
      refine sx_cv hm dX13_makeClass_137 rs_RX13_731 mt_X13_tell [.int l3] [] (b := l0) (ci := 13) rfl rfl rfl c91 (Nat.le_of_ble_eq_true rfl) (Nat.le_of_ble_eq_true rfl) (by omega) (by omega) (f_X13_tell_ok X (by omega) (by omega) nn l0 l3 h e_u92) ?_
      clear e_u92
      show mx_S X F L 484 140 [(0, .ref l0), (1, .int l1), (2, .int l2), (3, .int l3), (4, .int l4)] [] u92 0 0 (none, r, 0, 0)
      refine sx_ic (v := 0) hm dX13_makeClass_140 (by decide) ?_
      refine mx_S.pu (pc2 := 143) (lv2 := [(4, .int 0), (0, .ref l0), (1, .int l1), (2, .int l2), (3, .int l3)]) (st2 := []) hm dX13_makeClass_141 rfl ?_
      refine mx_S.ext [(0, .ref l0), (1, .int l1), (2, .int l2), (4, .int 0)] (mx_sub_pos [1, 2, 3, 0] rfl (show ([4, 0, 1, 2, 3] : List Nat).Nodup by decide)) ?_
      exact w_X13_makeClass_143_ok X hF hL nn hk_68 nn l0 l1 l2 0 u92 _ hf
    · refine sb_ic_ge hm dX13_makeClass_84 (tgt := 135) rfl (fun z => absurd z c100) (fun _ => ?_)
      refine mx_S.pu (pc2 := 88) (lv2 := [(0, .ref l0), (1, .int l1), (2, .int l2), (3, .int l3), (4, .int l4)]) (st2 := [.ref l0]) hm dX13_makeClass_87 rfl ?_
      replace hf := mx_sv_el hf; obtain ⟨v93, e_v93, hf⟩ := hf
      refine sx_get hm dX13_makeClass_88 rs_RX13_71 (xgr_el e_v93) ?_
      clear e_v93
      refine mx_S.pu (pc2 := 93) (lv2 := [(0, .ref l0), (1, .int l1), (2, .int l2), (3, .int l3), (4, .int l4)]) (st2 := [.int l4, .ref v93]) hm dX13_makeClass_91 rfl ?_
      replace hf := mx_sv_el hf; obtain ⟨v94, e_v94, hf⟩ := hf
      refine sx_ald hm dX13_makeClass_93 e_v94 ?_
      clear e_v94
      refine mx_S.pu (pc2 := 95) (lv2 := [(0, .ref l0), (1, .int l1), (2, .int l2), (3, .int l3), (4, .int l4)]) (st2 := [.int l1, .int v94]) hm dX13_makeClass_94 rfl ?_
      rcases mx_if_el hf with ⟨c99, hf⟩ | ⟨c99, hf⟩
      · refine sb_ic_ne hm dX13_makeClass_95 (tgt := 129) rfl (fun _ => ?_) (fun z => absurd c99 z)
        replace hf := xl_el hf; obtain ⟨v95, e_v95, hf⟩ := hf
        refine mx_S.pu (pc2 := 132) (lv2 := [(4, .int v95), (0, .ref l0), (1, .int l1), (2, .int l2), (3, .int l3)]) (st2 := []) hm dX13_makeClass_129 (by rw [← e_v95]; rfl) ?_
        clear e_v95
        refine mx_S.pu (pc2 := 78) (lv2 := [(4, .int v95), (0, .ref l0), (1, .int l1), (2, .int l2), (3, .int l3)]) (st2 := []) hm dX13_makeClass_132 rfl ?_
        refine mx_S.ext [(0, .ref l0), (1, .int l1), (2, .int l2), (3, .int l3), (4, .int v95)] (mx_sub_pos [1, 2, 3, 4, 0] rfl (show ([4, 0, 1, 2, 3] : List Nat).Nodup by decide)) ?_
        exact ih l0 l1 l2 l3 v95 h _ hf
      · refine sb_ic_ne hm dX13_makeClass_95 (tgt := 129) rfl (fun z => absurd z c99) (fun _ => ?_)
        refine mx_S.pu (pc2 := 99) (lv2 := [(0, .ref l0), (1, .int l1), (2, .int l2), (3, .int l3), (4, .int l4)]) (st2 := [.ref l0]) hm dX13_makeClass_98 rfl ?_
        replace hf := mx_sv_el hf; obtain ⟨v96, e_v96, hf⟩ := hf
        refine sx_get hm dX13_makeClass_99 rs_RX13_74 (xgr_el e_v96) ?_
        clear e_v96
        refine mx_S.pu (pc2 := 104) (lv2 := [(0, .ref l0), (1, .int l1), (2, .int l2), (3, .int l3), (4, .int l4)]) (st2 := [.int l4, .ref v96]) hm dX13_makeClass_102 rfl ?_
        replace hf := mx_sv_el hf; obtain ⟨v97, e_v97, hf⟩ := hf
        refine sx_ald hm dX13_makeClass_104 e_v97 ?_
        clear e_v97
        rcases mx_if_el hf with ⟨c98, hf⟩ | ⟨c98, hf⟩
        · refine sb_if_le hm dX13_makeClass_105 (tgt := 112) rfl (fun _ => ?_) (fun z => absurd c98 z)
          refine sx_ic (v := 0) hm dX13_makeClass_112 (by decide) ?_
          exact j_X13_makeClass_113_ok X hF hL nn hk_68 ih l0 l1 l2 l3 l4 0 h hf
        · refine sb_if_le hm dX13_makeClass_105 (tgt := 112) rfl (fun z => absurd z c98) (fun _ => ?_)
          refine sx_ic (v := 1) hm dX13_makeClass_108 (by decide) ?_
          refine mx_S.pu (pc2 := 113) (lv2 := [(0, .ref l0), (1, .int l1), (2, .int l2), (3, .int l3), (4, .int l4)]) (st2 := [.int 1]) hm dX13_makeClass_109 rfl ?_
          exact j_X13_makeClass_113_ok X hF hL nn hk_68 ih l0 l1 l2 l3 l4 1 h hf
set_option maxHeartbeats 4000000 in
set_option maxRecDepth 20000 in
theorem w_X13_makeClass_68_ok (X : Nat × (Nat → Int32)) {F L : Nat} (hF : 1662 ≤ F) (hL : 43576 ≤ L) (nn : Nat) : ∀ (k : Nat) (l0 : Nat) (l1 : Int32) (l2 : Int32) (h : mx_H) (r : mx_H), w_X13_makeClass_68 nn k l0 l1 l2 h = some r → mx_S X F L 484 68 [(0, .ref l0), (1, .int l1), (2, .int l2)] [] h 0 0 (none, r, 0, 0) := by
  have hm : mx_mt 484 = some (yX13_makeClass, cX13_makeClass, 5, none) := mt_X13_makeClass
  intro k
  induction k with
  | zero => intro l0 l1 l2 h r hf; cases hf
  | succ k ih =>
    intro l0 l1 l2 h r hf
    unfold w_X13_makeClass_68 at hf
    refine mx_S.pu (pc2 := 69) (lv2 := [(0, .ref l0), (1, .int l1), (2, .int l2)]) (st2 := [.int l2]) hm dX13_makeClass_68 rfl ?_
    refine sx_ic (v := 2) hm dX13_makeClass_69 (by decide) ?_
    rcases mx_if_el hf with ⟨c103, hf⟩ | ⟨c103, hf⟩
    · refine sb_ic_ge hm dX13_makeClass_70 (tgt := 252) rfl (fun _ => ?_) (fun z => absurd c103 z)
      refine sx_ic (v := 3) hm dX13_makeClass_252 (by decide) ?_
      refine mx_S.pu (pc2 := 254) (lv2 := [(0, .ref l0), (1, .int l1), (2, .int l2)]) (st2 := [.ref l0, .int 3]) hm dX13_makeClass_253 rfl ?_
      replace hf := mx_sv_el hf; obtain ⟨v101, e_v101, hf⟩ := hf
      refine sx_get hm dX13_makeClass_254 rs_RX13_728 (xgi_el e_v101) ?_
      clear e_v101
      replace hf := xl_el hf; obtain ⟨v102, e_v102, hf⟩ := hf
      refine mx_S.pu (pc2 := 258) (lv2 := [(0, .ref l0), (1, .int l1), (2, .int l2)]) (st2 := [.int v102]) hm dX13_makeClass_257 (by rw [← e_v102]; rfl) ?_
      clear e_v102
      refine mx_S.pu (pc2 := 259) (lv2 := [(2, .int v102), (0, .ref l0), (1, .int l1)]) (st2 := []) hm dX13_makeClass_258 rfl ?_
      refine sx_ic (v := 1) hm dX13_makeClass_259 (by decide) ?_
      refine mx_S.pu (pc2 := 261) (lv2 := [(3, .int 1), (2, .int v102), (0, .ref l0), (1, .int l1)]) (st2 := []) hm dX13_makeClass_260 rfl ?_
      refine mx_S.ext [(0, .ref l0), (1, .int l1), (2, .int v102), (3, .int 1)] (mx_sub_pos [2, 3, 1, 0] rfl (show ([3, 2, 0, 1] : List Nat).Nodup by decide)) ?_
      exact w_X13_makeClass_261_ok X hF hL nn nn l0 l1 v102 1 h _ hf
    · refine sb_ic_ge hm dX13_makeClass_70 (tgt := 252) rfl (fun z => absurd z c103) (fun _ => ?_)
      refine sx_ic (v := 0) hm dX13_makeClass_73 (by decide) ?_
      refine mx_S.pu (pc2 := 75) (lv2 := [(3, .int 0), (0, .ref l0), (1, .int l1), (2, .int l2)]) (st2 := []) hm dX13_makeClass_74 rfl ?_
      refine sx_ic (v := 0) hm dX13_makeClass_75 (by decide) ?_
      refine mx_S.pu (pc2 := 78) (lv2 := [(4, .int 0), (3, .int 0), (0, .ref l0), (1, .int l1), (2, .int l2)]) (st2 := []) hm dX13_makeClass_76 rfl ?_
      refine mx_S.ext [(0, .ref l0), (1, .int l1), (2, .int l2), (3, .int 0), (4, .int 0)] (mx_sub_pos [2, 3, 4, 1, 0] rfl (show ([4, 3, 0, 1, 2] : List Nat).Nodup by decide)) ?_
      exact w_X13_makeClass_78_ok X hF hL nn ih nn l0 l1 l2 0 0 h _ hf
set_option maxHeartbeats 4000000 in
set_option maxRecDepth 20000 in
theorem f_X13_makeClass_ok (X : Nat × (Nat → Int32)) {F L : Nat} (hF : 1662 ≤ F) (hL : 43576 ≤ L) (nn : Nat) (a0 : Nat) (a1 : Int32) (h : mx_H) {r : mx_H} (hf : f_X13_makeClass nn a0 a1 h = some r) : mx_R X F L 484 [.ref a0, .int a1] h (none, r, 0, 0) := by
  have hm : mx_mt 484 = some (yX13_makeClass, cX13_makeClass, 5, none) := mt_X13_makeClass
  show mx_S X F L 484 0 [(0, .ref a0), (1, .int a1)] [] h 0 0 (none, r, 0, 0)
  unfold f_X13_makeClass at hf
  refine mx_S.pu (pc2 := 1) (lv2 := [(0, .ref a0), (1, .int a1)]) (st2 := [.ref a0]) hm dX13_makeClass_0 rfl ?_
  refine sx_ic (v := 0) hm dX13_makeClass_1 (by decide) ?_
  replace hf := mx_sv_el hf; obtain ⟨h104, e_h104, hf⟩ := hf
  refine sx_put hm dX13_makeClass_2 rs_RX13_602 ft_13_62 ⟨rfl, rfl⟩ (fun z => by cases z) e_h104 ?_
  clear e_h104
  refine mx_S.pu (pc2 := 6) (lv2 := [(0, .ref a0), (1, .int a1)]) (st2 := [.ref a0]) hm dX13_makeClass_5 rfl ?_
  refine sx_ic (v := 0) hm dX13_makeClass_6 (by decide) ?_
  replace hf := mx_sv_el hf; obtain ⟨h105, e_h105, hf⟩ := hf
  refine sx_put hm dX13_makeClass_7 rs_RX13_605 ft_13_64 ⟨rfl, rfl⟩ (fun z => by cases z) e_h105 ?_
  clear e_h105
  refine mx_S.pu (pc2 := 11) (lv2 := [(0, .ref a0), (1, .int a1)]) (st2 := [.ref a0]) hm dX13_makeClass_10 rfl ?_
  refine sx_ic (v := 0) hm dX13_makeClass_11 (by decide) ?_
  replace hf := mx_sv_el hf; obtain ⟨h106, e_h106, hf⟩ := hf
  refine sx_put hm dX13_makeClass_12 rs_RX13_590 ft_13_66 ⟨rfl, rfl⟩ (fun z => by cases z) e_h106 ?_
  clear e_h106
  refine mx_S.pu (pc2 := 16) (lv2 := [(0, .ref a0), (1, .int a1)]) (st2 := [.ref a0]) hm dX13_makeClass_15 rfl ?_
  refine sx_ic (v := 0) hm dX13_makeClass_16 (by decide) ?_
  replace hf := mx_sv_el hf; obtain ⟨h107, e_h107, hf⟩ := hf
  refine sx_put hm dX13_makeClass_17 rs_RX13_728 ft_13_97 ⟨rfl, rfl⟩ (fun z => by cases z) e_h107 ?_
  clear e_h107
  refine mx_S.pu (pc2 := 21) (lv2 := [(0, .ref a0), (1, .int a1)]) (st2 := [.ref a0]) hm dX13_makeClass_20 rfl ?_
  refine sx_bi (v := 8) hm dX13_makeClass_21 (by decide) ?_
  refine mx_S.pu (pc2 := 24) (lv2 := [(0, .ref a0), (1, .int a1)]) (st2 := [.int a1, .int 8, .ref a0]) hm dX13_makeClass_23 rfl ?_
  replace hf := xl_el hf; obtain ⟨v108, e_v108, hf⟩ := hf
  refine mx_S.pu (pc2 := 25) (lv2 := [(0, .ref a0), (1, .int a1)]) (st2 := [.int v108, .ref a0]) hm dX13_makeClass_24 (by rw [← e_v108]; rfl) ?_
  clear e_v108
  replace hf := mx_sv_el hf; obtain ⟨h109, e_h109, hf⟩ := hf
  refine sx_put hm dX13_makeClass_25 rs_RX13_519 ft_13_52 ⟨rfl, rfl⟩ (fun z => by cases z) e_h109 ?_
  clear e_h109
  refine mx_S.pu (pc2 := 29) (lv2 := [(0, .ref a0), (1, .int a1)]) (st2 := [.ref a0]) hm dX13_makeClass_28 rfl ?_
  refine mx_S.pu (pc2 := 30) (lv2 := [(0, .ref a0), (1, .int a1)]) (st2 := [.ref a0, .ref a0]) hm dX13_makeClass_29 rfl ?_
  refine sx_bi (v := 8) hm dX13_makeClass_30 (by decide) ?_
  refine sx_ic (v := 2) hm dX13_makeClass_32 (by decide) ?_
  refine mx_S.pu (pc2 := 34) (lv2 := [(0, .ref a0), (1, .int a1)]) (st2 := [.ref a0, .int 2, .int 8, .ref a0, .ref a0]) hm dX13_makeClass_33 rfl ?_
  replace hf := mx_sv_el hf; obtain ⟨v110, e_v110, hf⟩ := hf
  refine sx_get hm dX13_makeClass_34 rs_RX13_519 (xgi_el e_v110) ?_
  clear e_v110
  replace hf := xl_el hf; obtain ⟨v111, e_v111, hf⟩ := hf
  refine mx_S.pu (pc2 := 38) (lv2 := [(0, .ref a0), (1, .int a1)]) (st2 := [.int v111, .int 8, .ref a0, .ref a0]) hm dX13_makeClass_37 (by rw [← e_v111]; rfl) ?_
  clear e_v111
  replace hf := xl_el hf; obtain ⟨v112, e_v112, hf⟩ := hf
  refine mx_S.pu (pc2 := 39) (lv2 := [(0, .ref a0), (1, .int a1)]) (st2 := [.int v112, .ref a0, .ref a0]) hm dX13_makeClass_38 (by rw [← e_v112]; rfl) ?_
  clear e_v112
  replace hf := mx_gd_el hf; obtain ⟨c113, hf⟩ := hf
  replace hf := mx_sv_el hf; obtain ⟨u114, e_u114, hf⟩ := hf
  refine sx_cv hm dX13_makeClass_39 rs_RX13_618 mt_X13_classConstant [.int v112] [.ref a0] (b := a0) (ci := 13) rfl rfl rfl c113 (Nat.le_of_ble_eq_true rfl) (Nat.le_of_ble_eq_true rfl) (by omega) (by omega) (f_X13_classConstant_ok X (by omega) (by omega) nn a0 v112 h109 e_u114) ?_
  clear e_u114
  show mx_S X F L 484 42 [(0, .ref a0), (1, .int a1)] [.int u114.1, .ref a0] u114.2 0 0 (none, r, 0, 0)
  replace hf := mx_gd_el hf; obtain ⟨c115, hf⟩ := hf
  replace hf := mx_sv_el hf; obtain ⟨u116, e_u116, hf⟩ := hf
  refine sx_cv hm dX13_makeClass_42 rs_RX13_731 mt_X13_tell [.int u114.1] [] (b := a0) (ci := 13) rfl rfl rfl c115 (Nat.le_of_ble_eq_true rfl) (Nat.le_of_ble_eq_true rfl) (by omega) (by omega) (f_X13_tell_ok X (by omega) (by omega) nn a0 u114.1 u114.2 e_u116) ?_
  clear e_u116
  show mx_S X F L 484 45 [(0, .ref a0), (1, .int a1)] [] u116 0 0 (none, r, 0, 0)
  refine mx_S.pu (pc2 := 46) (lv2 := [(0, .ref a0), (1, .int a1)]) (st2 := [.ref a0]) hm dX13_makeClass_45 rfl ?_
  refine mx_S.pu (pc2 := 47) (lv2 := [(0, .ref a0), (1, .int a1)]) (st2 := [.ref a0, .ref a0]) hm dX13_makeClass_46 rfl ?_
  refine sx_bi (v := 8) hm dX13_makeClass_47 (by decide) ?_
  refine sx_ic (v := 2) hm dX13_makeClass_49 (by decide) ?_
  refine mx_S.pu (pc2 := 51) (lv2 := [(0, .ref a0), (1, .int a1)]) (st2 := [.ref a0, .int 2, .int 8, .ref a0, .ref a0]) hm dX13_makeClass_50 rfl ?_
  refine mx_S.pu (pc2 := 52) (lv2 := [(0, .ref a0), (1, .int a1)]) (st2 := [.ref a0, .ref a0, .int 2, .int 8, .ref a0, .ref a0]) hm dX13_makeClass_51 rfl ?_
  replace hf := mx_sv_el hf; obtain ⟨v117, e_v117, hf⟩ := hf
  refine sx_get hm dX13_makeClass_52 rs_RX13_519 (xgi_el e_v117) ?_
  clear e_v117
  replace hf := mx_gd_el hf; obtain ⟨c118, hf⟩ := hf
  replace hf := mx_sv_el hf; obtain ⟨u119, e_u119, hf⟩ := hf
  refine sx_cv hm dX13_makeClass_55 rs_RX13_482 mt_X13_upperOf [.int v117] [.int 2, .int 8, .ref a0, .ref a0] (b := a0) (ci := 13) rfl rfl rfl c118 (Nat.le_of_ble_eq_true rfl) (Nat.le_of_ble_eq_true rfl) (by omega) (by omega) (f_X13_upperOf_ok X (by omega) (by omega) nn a0 v117 u116 e_u119) ?_
  clear e_u119
  show mx_S X F L 484 58 [(0, .ref a0), (1, .int a1)] [.int u119.1, .int 2, .int 8, .ref a0, .ref a0] u119.2 0 0 (none, r, 0, 0)
  replace hf := xl_el hf; obtain ⟨v120, e_v120, hf⟩ := hf
  refine mx_S.pu (pc2 := 59) (lv2 := [(0, .ref a0), (1, .int a1)]) (st2 := [.int v120, .int 8, .ref a0, .ref a0]) hm dX13_makeClass_58 (by rw [← e_v120]; rfl) ?_
  clear e_v120
  replace hf := xl_el hf; obtain ⟨v121, e_v121, hf⟩ := hf
  refine mx_S.pu (pc2 := 60) (lv2 := [(0, .ref a0), (1, .int a1)]) (st2 := [.int v121, .ref a0, .ref a0]) hm dX13_makeClass_59 (by rw [← e_v121]; rfl) ?_
  clear e_v121
  replace hf := mx_gd_el hf; obtain ⟨c122, hf⟩ := hf
  replace hf := mx_sv_el hf; obtain ⟨u123, e_u123, hf⟩ := hf
  refine sx_cv hm dX13_makeClass_60 rs_RX13_618 mt_X13_classConstant [.int v121] [.ref a0] (b := a0) (ci := 13) rfl rfl rfl c122 (Nat.le_of_ble_eq_true rfl) (Nat.le_of_ble_eq_true rfl) (by omega) (by omega) (f_X13_classConstant_ok X (by omega) (by omega) nn a0 v121 u119.2 e_u123) ?_
  clear e_u123
  show mx_S X F L 484 63 [(0, .ref a0), (1, .int a1)] [.int u123.1, .ref a0] u123.2 0 0 (none, r, 0, 0)
  replace hf := mx_gd_el hf; obtain ⟨c124, hf⟩ := hf
  replace hf := mx_sv_el hf; obtain ⟨u125, e_u125, hf⟩ := hf
  refine sx_cv hm dX13_makeClass_63 rs_RX13_731 mt_X13_tell [.int u123.1] [] (b := a0) (ci := 13) rfl rfl rfl c124 (Nat.le_of_ble_eq_true rfl) (Nat.le_of_ble_eq_true rfl) (by omega) (by omega) (f_X13_tell_ok X (by omega) (by omega) nn a0 u123.1 u123.2 e_u125) ?_
  clear e_u125
  show mx_S X F L 484 66 [(0, .ref a0), (1, .int a1)] [] u125 0 0 (none, r, 0, 0)
  refine sx_ic (v := 0) hm dX13_makeClass_66 (by decide) ?_
  refine mx_S.pu (pc2 := 68) (lv2 := [(2, .int 0), (0, .ref a0), (1, .int a1)]) (st2 := []) hm dX13_makeClass_67 rfl ?_
  refine mx_S.ext [(0, .ref a0), (1, .int a1), (2, .int 0)] (mx_sub_pos [1, 2, 0] rfl (show ([2, 0, 1] : List Nat).Nodup by decide)) ?_
  exact w_X13_makeClass_68_ok X hF hL nn nn a0 a1 0 u125 _ hf
set_option maxHeartbeats 4000000 in
set_option maxRecDepth 20000 in
theorem f_X13_isSign_ok (X : Nat × (Nat → Int32)) {F L : Nat} (hF : 0 ≤ F) (hL : 0 ≤ L) (nn : Nat) (a0 : Nat) (a1 : Int32) (a2 : Int32) (h : mx_H) {r : (Int32 × mx_H)} (hf : f_X13_isSign nn a0 a1 a2 h = some r) : mx_R X F L 393 [.ref a0, .int a1, .int a2] h (some (.int r.1), r.2, 0, 0) := by
  have hm : mx_mt 393 = some (yX13_isSign, cX13_isSign, 3, (some .boolean)) := mt_X13_isSign
  show mx_S X F L 393 0 [(0, .ref a0), (1, .int a1), (2, .int a2)] [] h 0 0 (some (.int r.1), r.2, 0, 0)
  unfold f_X13_isSign at hf
  refine mx_S.pu (pc2 := 1) (lv2 := [(0, .ref a0), (1, .int a1), (2, .int a2)]) (st2 := [.ref a0]) hm dX13_isSign_0 rfl ?_
  replace hf := mx_sv_el hf; obtain ⟨v1, e_v1, hf⟩ := hf
  refine sx_get hm dX13_isSign_1 rs_RX13_16 (xgr_el e_v1) ?_
  clear e_v1
  refine mx_S.pu (pc2 := 5) (lv2 := [(0, .ref a0), (1, .int a1), (2, .int a2)]) (st2 := [.int a1, .ref v1]) hm dX13_isSign_4 rfl ?_
  replace hf := mx_sv_el hf; obtain ⟨v2, e_v2, hf⟩ := hf
  refine sx_ald hm dX13_isSign_5 e_v2 ?_
  clear e_v2
  refine sx_ic (v := 4) hm dX13_isSign_6 (by decide) ?_
  rcases mx_if_el hf with ⟨c6, hf⟩ | ⟨c6, hf⟩
  · refine sb_ic_ne hm dX13_isSign_7 (tgt := 24) rfl (fun _ => ?_) (fun z => absurd c6 z)
    refine sx_ic (v := 0) hm dX13_isSign_24 (by decide) ?_
    cases hf
    exact sx_ire hm dX13_isSign_25 rfl (by decide)
  · refine sb_ic_ne hm dX13_isSign_7 (tgt := 24) rfl (fun z => absurd z c6) (fun _ => ?_)
    refine mx_S.pu (pc2 := 11) (lv2 := [(0, .ref a0), (1, .int a1), (2, .int a2)]) (st2 := [.ref a0]) hm dX13_isSign_10 rfl ?_
    replace hf := mx_sv_el hf; obtain ⟨v3, e_v3, hf⟩ := hf
    refine sx_get hm dX13_isSign_11 rs_RX13_25 (xgr_el e_v3) ?_
    clear e_v3
    refine mx_S.pu (pc2 := 15) (lv2 := [(0, .ref a0), (1, .int a1), (2, .int a2)]) (st2 := [.int a1, .ref v3]) hm dX13_isSign_14 rfl ?_
    replace hf := mx_sv_el hf; obtain ⟨v4, e_v4, hf⟩ := hf
    refine sx_ald hm dX13_isSign_15 e_v4 ?_
    clear e_v4
    refine mx_S.pu (pc2 := 17) (lv2 := [(0, .ref a0), (1, .int a1), (2, .int a2)]) (st2 := [.int a2, .int v4]) hm dX13_isSign_16 rfl ?_
    rcases mx_if_el hf with ⟨c5, hf⟩ | ⟨c5, hf⟩
    · refine sb_ic_ne hm dX13_isSign_17 (tgt := 24) rfl (fun _ => ?_) (fun z => absurd c5 z)
      refine sx_ic (v := 0) hm dX13_isSign_24 (by decide) ?_
      cases hf
      exact sx_ire hm dX13_isSign_25 rfl (by decide)
    · refine sb_ic_ne hm dX13_isSign_17 (tgt := 24) rfl (fun z => absurd z c5) (fun _ => ?_)
      refine sx_ic (v := 1) hm dX13_isSign_20 (by decide) ?_
      refine mx_S.pu (pc2 := 25) (lv2 := [(0, .ref a0), (1, .int a1), (2, .int a2)]) (st2 := [.int 1]) hm dX13_isSign_21 rfl ?_
      cases hf
      exact sx_ire hm dX13_isSign_25 rfl (by decide)
set_option maxHeartbeats 4000000 in
set_option maxRecDepth 20000 in
theorem f_X13_add_ok (X : Nat × (Nat → Int32)) {F L : Nat} (hF : 0 ≤ F) (hL : 0 ≤ L) (nn : Nat) (a0 : Nat) (a1 : Int32) (a2 : Int32) (a3 : Int32) (h : mx_H) {r : (Int32 × mx_H)} (hf : f_X13_add nn a0 a1 a2 a3 h = some r) : mx_R X F L 391 [.ref a0, .int a1, .int a2, .int a3] h (some (.int r.1), r.2, 0, 0) := by
  have hm : mx_mt 391 = some (yX13_add, cX13_add, 4, (some .int)) := mt_X13_add
  show mx_S X F L 391 0 [(0, .ref a0), (1, .int a1), (2, .int a2), (3, .int a3)] [] h 0 0 (some (.int r.1), r.2, 0, 0)
  unfold f_X13_add at hf
  refine mx_S.pu (pc2 := 1) (lv2 := [(0, .ref a0), (1, .int a1), (2, .int a2), (3, .int a3)]) (st2 := [.ref a0]) hm dX13_add_0 rfl ?_
  replace hf := mx_sv_el hf; obtain ⟨v1, e_v1, hf⟩ := hf
  refine sx_get hm dX13_add_1 rs_RX13_28 (xgr_el e_v1) ?_
  clear e_v1
  refine mx_S.pu (pc2 := 5) (lv2 := [(0, .ref a0), (1, .int a1), (2, .int a2), (3, .int a3)]) (st2 := [.ref a0, .ref v1]) hm dX13_add_4 rfl ?_
  replace hf := mx_sv_el hf; obtain ⟨v2, e_v2, hf⟩ := hf
  refine sx_get hm dX13_add_5 rs_RX13_373 (xgi_el e_v2) ?_
  clear e_v2
  refine mx_S.pu (pc2 := 9) (lv2 := [(0, .ref a0), (1, .int a1), (2, .int a2), (3, .int a3)]) (st2 := [.int a1, .int v2, .ref v1]) hm dX13_add_8 rfl ?_
  replace hf := mx_sv_el hf; obtain ⟨h3, e_h3, hf⟩ := hf
  refine sx_ast hm dX13_add_9 e_h3 ?_
  clear e_h3
  refine mx_S.pu (pc2 := 11) (lv2 := [(0, .ref a0), (1, .int a1), (2, .int a2), (3, .int a3)]) (st2 := [.ref a0]) hm dX13_add_10 rfl ?_
  replace hf := mx_sv_el hf; obtain ⟨v4, e_v4, hf⟩ := hf
  refine sx_get hm dX13_add_11 rs_RX13_31 (xgr_el e_v4) ?_
  clear e_v4
  refine mx_S.pu (pc2 := 15) (lv2 := [(0, .ref a0), (1, .int a1), (2, .int a2), (3, .int a3)]) (st2 := [.ref a0, .ref v4]) hm dX13_add_14 rfl ?_
  replace hf := mx_sv_el hf; obtain ⟨v5, e_v5, hf⟩ := hf
  refine sx_get hm dX13_add_15 rs_RX13_373 (xgi_el e_v5) ?_
  clear e_v5
  refine mx_S.pu (pc2 := 19) (lv2 := [(0, .ref a0), (1, .int a1), (2, .int a2), (3, .int a3)]) (st2 := [.int a2, .int v5, .ref v4]) hm dX13_add_18 rfl ?_
  replace hf := mx_sv_el hf; obtain ⟨h6, e_h6, hf⟩ := hf
  refine sx_ast hm dX13_add_19 e_h6 ?_
  clear e_h6
  refine mx_S.pu (pc2 := 21) (lv2 := [(0, .ref a0), (1, .int a1), (2, .int a2), (3, .int a3)]) (st2 := [.ref a0]) hm dX13_add_20 rfl ?_
  replace hf := mx_sv_el hf; obtain ⟨v7, e_v7, hf⟩ := hf
  refine sx_get hm dX13_add_21 rs_RX13_34 (xgr_el e_v7) ?_
  clear e_v7
  refine mx_S.pu (pc2 := 25) (lv2 := [(0, .ref a0), (1, .int a1), (2, .int a2), (3, .int a3)]) (st2 := [.ref a0, .ref v7]) hm dX13_add_24 rfl ?_
  replace hf := mx_sv_el hf; obtain ⟨v8, e_v8, hf⟩ := hf
  refine sx_get hm dX13_add_25 rs_RX13_373 (xgi_el e_v8) ?_
  clear e_v8
  refine mx_S.pu (pc2 := 29) (lv2 := [(0, .ref a0), (1, .int a1), (2, .int a2), (3, .int a3)]) (st2 := [.int a3, .int v8, .ref v7]) hm dX13_add_28 rfl ?_
  replace hf := mx_sv_el hf; obtain ⟨h9, e_h9, hf⟩ := hf
  refine sx_ast hm dX13_add_29 e_h9 ?_
  clear e_h9
  refine mx_S.pu (pc2 := 31) (lv2 := [(0, .ref a0), (1, .int a1), (2, .int a2), (3, .int a3)]) (st2 := [.ref a0]) hm dX13_add_30 rfl ?_
  replace hf := mx_sv_el hf; obtain ⟨v10, e_v10, hf⟩ := hf
  refine sx_get hm dX13_add_31 rs_RX13_37 (xgr_el e_v10) ?_
  clear e_v10
  refine mx_S.pu (pc2 := 35) (lv2 := [(0, .ref a0), (1, .int a1), (2, .int a2), (3, .int a3)]) (st2 := [.ref a0, .ref v10]) hm dX13_add_34 rfl ?_
  replace hf := mx_sv_el hf; obtain ⟨v11, e_v11, hf⟩ := hf
  refine sx_get hm dX13_add_35 rs_RX13_373 (xgi_el e_v11) ?_
  clear e_v11
  refine sx_ic (v := (-1)) hm dX13_add_38 (by decide) ?_
  replace hf := mx_sv_el hf; obtain ⟨h12, e_h12, hf⟩ := hf
  refine sx_ast hm dX13_add_39 e_h12 ?_
  clear e_h12
  refine mx_S.pu (pc2 := 41) (lv2 := [(0, .ref a0), (1, .int a1), (2, .int a2), (3, .int a3)]) (st2 := [.ref a0]) hm dX13_add_40 rfl ?_
  replace hf := mx_sv_el hf; obtain ⟨v13, e_v13, hf⟩ := hf
  refine sx_get hm dX13_add_41 rs_RX13_40 (xgr_el e_v13) ?_
  clear e_v13
  refine mx_S.pu (pc2 := 45) (lv2 := [(0, .ref a0), (1, .int a1), (2, .int a2), (3, .int a3)]) (st2 := [.ref a0, .ref v13]) hm dX13_add_44 rfl ?_
  replace hf := mx_sv_el hf; obtain ⟨v14, e_v14, hf⟩ := hf
  refine sx_get hm dX13_add_45 rs_RX13_373 (xgi_el e_v14) ?_
  clear e_v14
  refine sx_ic (v := (-1)) hm dX13_add_48 (by decide) ?_
  replace hf := mx_sv_el hf; obtain ⟨h15, e_h15, hf⟩ := hf
  refine sx_ast hm dX13_add_49 e_h15 ?_
  clear e_h15
  refine mx_S.pu (pc2 := 51) (lv2 := [(0, .ref a0), (1, .int a1), (2, .int a2), (3, .int a3)]) (st2 := [.ref a0]) hm dX13_add_50 rfl ?_
  replace hf := mx_sv_el hf; obtain ⟨v16, e_v16, hf⟩ := hf
  refine sx_get hm dX13_add_51 rs_RX13_43 (xgr_el e_v16) ?_
  clear e_v16
  refine mx_S.pu (pc2 := 55) (lv2 := [(0, .ref a0), (1, .int a1), (2, .int a2), (3, .int a3)]) (st2 := [.ref a0, .ref v16]) hm dX13_add_54 rfl ?_
  replace hf := mx_sv_el hf; obtain ⟨v17, e_v17, hf⟩ := hf
  refine sx_get hm dX13_add_55 rs_RX13_373 (xgi_el e_v17) ?_
  clear e_v17
  refine sx_ic (v := (-1)) hm dX13_add_58 (by decide) ?_
  replace hf := mx_sv_el hf; obtain ⟨h18, e_h18, hf⟩ := hf
  refine sx_ast hm dX13_add_59 e_h18 ?_
  clear e_h18
  refine mx_S.pu (pc2 := 61) (lv2 := [(0, .ref a0), (1, .int a1), (2, .int a2), (3, .int a3)]) (st2 := [.ref a0]) hm dX13_add_60 rfl ?_
  replace hf := mx_sv_el hf; obtain ⟨v19, e_v19, hf⟩ := hf
  refine sx_get hm dX13_add_61 rs_RX13_46 (xgr_el e_v19) ?_
  clear e_v19
  refine mx_S.pu (pc2 := 65) (lv2 := [(0, .ref a0), (1, .int a1), (2, .int a2), (3, .int a3)]) (st2 := [.ref a0, .ref v19]) hm dX13_add_64 rfl ?_
  replace hf := mx_sv_el hf; obtain ⟨v20, e_v20, hf⟩ := hf
  refine sx_get hm dX13_add_65 rs_RX13_373 (xgi_el e_v20) ?_
  clear e_v20
  refine sx_ic (v := (-1)) hm dX13_add_68 (by decide) ?_
  replace hf := mx_sv_el hf; obtain ⟨h21, e_h21, hf⟩ := hf
  refine sx_ast hm dX13_add_69 e_h21 ?_
  clear e_h21
  refine mx_S.pu (pc2 := 71) (lv2 := [(0, .ref a0), (1, .int a1), (2, .int a2), (3, .int a3)]) (st2 := [.ref a0]) hm dX13_add_70 rfl ?_
  replace hf := mx_sv_el hf; obtain ⟨v22, e_v22, hf⟩ := hf
  refine sx_get hm dX13_add_71 rs_RX13_49 (xgr_el e_v22) ?_
  clear e_v22
  refine mx_S.pu (pc2 := 75) (lv2 := [(0, .ref a0), (1, .int a1), (2, .int a2), (3, .int a3)]) (st2 := [.ref a0, .ref v22]) hm dX13_add_74 rfl ?_
  replace hf := mx_sv_el hf; obtain ⟨v23, e_v23, hf⟩ := hf
  refine sx_get hm dX13_add_75 rs_RX13_373 (xgi_el e_v23) ?_
  clear e_v23
  refine sx_ic (v := 0) hm dX13_add_78 (by decide) ?_
  replace hf := mx_sv_el hf; obtain ⟨h24, e_h24, hf⟩ := hf
  refine sx_ast hm dX13_add_79 e_h24 ?_
  clear e_h24
  refine mx_S.pu (pc2 := 81) (lv2 := [(0, .ref a0), (1, .int a1), (2, .int a2), (3, .int a3)]) (st2 := [.ref a0]) hm dX13_add_80 rfl ?_
  replace hf := mx_sv_el hf; obtain ⟨v25, e_v25, hf⟩ := hf
  refine sx_get hm dX13_add_81 rs_RX13_52 (xgr_el e_v25) ?_
  clear e_v25
  refine mx_S.pu (pc2 := 85) (lv2 := [(0, .ref a0), (1, .int a1), (2, .int a2), (3, .int a3)]) (st2 := [.ref a0, .ref v25]) hm dX13_add_84 rfl ?_
  replace hf := mx_sv_el hf; obtain ⟨v26, e_v26, hf⟩ := hf
  refine sx_get hm dX13_add_85 rs_RX13_373 (xgi_el e_v26) ?_
  clear e_v26
  refine sx_ic (v := 0) hm dX13_add_88 (by decide) ?_
  replace hf := mx_sv_el hf; obtain ⟨h27, e_h27, hf⟩ := hf
  refine sx_ast hm dX13_add_89 e_h27 ?_
  clear e_h27
  refine mx_S.pu (pc2 := 91) (lv2 := [(0, .ref a0), (1, .int a1), (2, .int a2), (3, .int a3)]) (st2 := [.ref a0]) hm dX13_add_90 rfl ?_
  replace hf := mx_sv_el hf; obtain ⟨v28, e_v28, hf⟩ := hf
  refine sx_get hm dX13_add_91 rs_RX13_55 (xgr_el e_v28) ?_
  clear e_v28
  refine mx_S.pu (pc2 := 95) (lv2 := [(0, .ref a0), (1, .int a1), (2, .int a2), (3, .int a3)]) (st2 := [.ref a0, .ref v28]) hm dX13_add_94 rfl ?_
  replace hf := mx_sv_el hf; obtain ⟨v29, e_v29, hf⟩ := hf
  refine sx_get hm dX13_add_95 rs_RX13_373 (xgi_el e_v29) ?_
  clear e_v29
  refine sx_ic (v := 0) hm dX13_add_98 (by decide) ?_
  replace hf := mx_sv_el hf; obtain ⟨h30, e_h30, hf⟩ := hf
  refine sx_ast hm dX13_add_99 e_h30 ?_
  clear e_h30
  refine mx_S.pu (pc2 := 101) (lv2 := [(0, .ref a0), (1, .int a1), (2, .int a2), (3, .int a3)]) (st2 := [.ref a0]) hm dX13_add_100 rfl ?_
  replace hf := mx_sv_el hf; obtain ⟨v31, e_v31, hf⟩ := hf
  refine sx_get hm dX13_add_101 rs_RX13_58 (xgr_el e_v31) ?_
  clear e_v31
  refine mx_S.pu (pc2 := 105) (lv2 := [(0, .ref a0), (1, .int a1), (2, .int a2), (3, .int a3)]) (st2 := [.ref a0, .ref v31]) hm dX13_add_104 rfl ?_
  replace hf := mx_sv_el hf; obtain ⟨v32, e_v32, hf⟩ := hf
  refine sx_get hm dX13_add_105 rs_RX13_373 (xgi_el e_v32) ?_
  clear e_v32
  refine sx_ic (v := 0) hm dX13_add_108 (by decide) ?_
  replace hf := mx_sv_el hf; obtain ⟨h33, e_h33, hf⟩ := hf
  refine sx_bst hm dX13_add_109 e_h33 ?_
  clear e_h33
  refine mx_S.pu (pc2 := 111) (lv2 := [(0, .ref a0), (1, .int a1), (2, .int a2), (3, .int a3)]) (st2 := [.ref a0]) hm dX13_add_110 rfl ?_
  refine mx_S.pu (pc2 := 112) (lv2 := [(0, .ref a0), (1, .int a1), (2, .int a2), (3, .int a3)]) (st2 := [.ref a0, .ref a0]) hm dX13_add_111 rfl ?_
  replace hf := mx_sv_el hf; obtain ⟨v34, e_v34, hf⟩ := hf
  refine sx_get hm dX13_add_112 rs_RX13_373 (xgi_el e_v34) ?_
  clear e_v34
  refine sx_ic (v := 1) hm dX13_add_115 (by decide) ?_
  replace hf := xl_el hf; obtain ⟨v35, e_v35, hf⟩ := hf
  refine mx_S.pu (pc2 := 117) (lv2 := [(0, .ref a0), (1, .int a1), (2, .int a2), (3, .int a3)]) (st2 := [.int v35, .ref a0]) hm dX13_add_116 (by rw [← e_v35]; rfl) ?_
  clear e_v35
  replace hf := mx_sv_el hf; obtain ⟨h36, e_h36, hf⟩ := hf
  refine sx_put hm dX13_add_117 rs_RX13_373 ft_13_22 ⟨rfl, rfl⟩ (fun z => by cases z) e_h36 ?_
  clear e_h36
  refine mx_S.pu (pc2 := 121) (lv2 := [(0, .ref a0), (1, .int a1), (2, .int a2), (3, .int a3)]) (st2 := [.ref a0]) hm dX13_add_120 rfl ?_
  replace hf := mx_sv_el hf; obtain ⟨v37, e_v37, hf⟩ := hf
  refine sx_get hm dX13_add_121 rs_RX13_373 (xgi_el e_v37) ?_
  clear e_v37
  refine sx_ic (v := 1) hm dX13_add_124 (by decide) ?_
  replace hf := xl_el hf; obtain ⟨v38, e_v38, hf⟩ := hf
  refine mx_S.pu (pc2 := 126) (lv2 := [(0, .ref a0), (1, .int a1), (2, .int a2), (3, .int a3)]) (st2 := [.int v38]) hm dX13_add_125 (by rw [← e_v38]; rfl) ?_
  clear e_v38
  cases hf
  exact sx_ire hm dX13_add_126 rfl rfl
set_option maxHeartbeats 4000000 in
set_option maxRecDepth 20000 in
theorem j_X13_misplaced_20_ok (X : Nat × (Nat → Int32)) {F L : Nat} (hF : 1 ≤ F) (hL : 22 ≤ L) (nn : Nat) (l0 : Nat) (s0 : Int32) (s1 : Nat) (h : mx_H) {r : mx_H} (hf : j_X13_misplaced_20 nn l0 s0 s1 h = some r) : mx_S X F L 395 20 [(0, .ref l0)] [.int s0, .ref s1] h 0 0 (none, r, 0, 0) := by
  have hm : mx_mt 395 = some (yX13_misplaced, cX13_misplaced, 1, none) := mt_X13_misplaced
  unfold j_X13_misplaced_20 at hf
  refine mx_S.pu (pc2 := 21) (lv2 := [(0, .ref l0)]) (st2 := [.ref l0, .int s0, .ref s1]) hm dX13_misplaced_20 rfl ?_
  replace hf := mx_sv_el hf; obtain ⟨v1, e_v1, hf⟩ := hf
  refine sx_get hm dX13_misplaced_21 rs_RX13_376 (xgi_el e_v1) ?_
  clear e_v1
  replace hf := mx_gd_el hf; obtain ⟨c2, hf⟩ := hf
  replace hf := mx_sv_el hf; obtain ⟨u3, e_u3, hf⟩ := hf
  refine sx_cv hm dX13_misplaced_24 rs_RX13_379 mt_X13_wrong [.int s0, .int v1] [] (b := s1) (ci := 13) rfl rfl rfl c2 (Nat.le_of_ble_eq_true rfl) (Nat.le_of_ble_eq_true rfl) (by omega) (by omega) (f_X13_wrong_ok X (by omega) (by omega) nn s1 s0 v1 h e_u3) ?_
  clear e_u3
  show mx_S X F L 395 27 [(0, .ref l0)] [] u3 0 0 (none, r, 0, 0)
  cases hf
  exact sx_ret hm dX13_misplaced_27 rfl
set_option maxHeartbeats 4000000 in
set_option maxRecDepth 20000 in
theorem f_X13_misplaced_ok (X : Nat × (Nat → Int32)) {F L : Nat} (hF : 1 ≤ F) (hL : 22 ≤ L) (nn : Nat) (a0 : Nat) (h : mx_H) {r : mx_H} (hf : f_X13_misplaced nn a0 h = some r) : mx_R X F L 395 [.ref a0] h (none, r, 0, 0) := by
  have hm : mx_mt 395 = some (yX13_misplaced, cX13_misplaced, 1, none) := mt_X13_misplaced
  show mx_S X F L 395 0 [(0, .ref a0)] [] h 0 0 (none, r, 0, 0)
  unfold f_X13_misplaced at hf
  refine mx_S.pu (pc2 := 1) (lv2 := [(0, .ref a0)]) (st2 := [.ref a0]) hm dX13_misplaced_0 rfl ?_
  refine mx_S.pu (pc2 := 2) (lv2 := [(0, .ref a0)]) (st2 := [.ref a0, .ref a0]) hm dX13_misplaced_1 rfl ?_
  replace hf := mx_sv_el hf; obtain ⟨v4, e_v4, hf⟩ := hf
  refine sx_get hm dX13_misplaced_2 rs_RX13_16 (xgr_el e_v4) ?_
  clear e_v4
  refine mx_S.pu (pc2 := 6) (lv2 := [(0, .ref a0)]) (st2 := [.ref a0, .ref v4, .ref a0]) hm dX13_misplaced_5 rfl ?_
  replace hf := mx_sv_el hf; obtain ⟨v5, e_v5, hf⟩ := hf
  refine sx_get hm dX13_misplaced_6 rs_RX13_376 (xgi_el e_v5) ?_
  clear e_v5
  replace hf := mx_sv_el hf; obtain ⟨v6, e_v6, hf⟩ := hf
  refine sx_ald hm dX13_misplaced_9 e_v6 ?_
  clear e_v6
  refine sx_bi (v := 6) hm dX13_misplaced_10 (by decide) ?_
  rcases mx_if_el hf with ⟨c7, hf⟩ | ⟨c7, hf⟩
  · refine sb_ic_ne hm dX13_misplaced_12 (tgt := 19) rfl (fun _ => ?_) (fun z => absurd c7 z)
    refine sx_ic (v := 2) hm dX13_misplaced_19 (by decide) ?_
    exact j_X13_misplaced_20_ok X hF hL nn a0 2 a0 h hf
  · refine sb_ic_ne hm dX13_misplaced_12 (tgt := 19) rfl (fun z => absurd z c7) (fun _ => ?_)
    refine sx_ic (v := 1) hm dX13_misplaced_15 (by decide) ?_
    refine mx_S.pu (pc2 := 20) (lv2 := [(0, .ref a0)]) (st2 := [.int 1, .ref a0]) hm dX13_misplaced_16 rfl ?_
    exact j_X13_misplaced_20_ok X hF hL nn a0 1 a0 h hf
set_option maxHeartbeats 4000000 in
set_option maxRecDepth 20000 in
theorem f_X13_sign__ok (X : Nat × (Nat → Int32)) {F L : Nat} (hF : 2 ≤ F) (hL : 42 ≤ L) (nn : Nat) (a0 : Nat) (a1 : Int32) (h : mx_H) {r : mx_H} (hf : f_X13_sign_ nn a0 a1 h = some r) : mx_R X F L 396 [.ref a0, .int a1] h (none, r, 0, 0) := by
  have hm : mx_mt 396 = some (yX13_sign_, cX13_sign_, 2, none) := mt_X13_sign_
  show mx_S X F L 396 0 [(0, .ref a0), (1, .int a1)] [] h 0 0 (none, r, 0, 0)
  unfold f_X13_sign_ at hf
  refine mx_S.pu (pc2 := 1) (lv2 := [(0, .ref a0), (1, .int a1)]) (st2 := [.ref a0]) hm dX13_sign__0 rfl ?_
  replace hf := mx_sv_el hf; obtain ⟨v1, e_v1, hf⟩ := hf
  refine sx_get hm dX13_sign__1 rs_RX13_319 (xgi_el e_v1) ?_
  clear e_v1
  rcases mx_if_el hf with ⟨c11, hf⟩ | ⟨c11, hf⟩
  · refine sb_if_eq hm dX13_sign__4 (tgt := 8) rfl (fun _ => ?_) (fun z => absurd c11 z)
    refine mx_S.pu (pc2 := 9) (lv2 := [(0, .ref a0), (1, .int a1)]) (st2 := [.ref a0]) hm dX13_sign__8 rfl ?_
    refine mx_S.pu (pc2 := 10) (lv2 := [(0, .ref a0), (1, .int a1)]) (st2 := [.ref a0, .ref a0]) hm dX13_sign__9 rfl ?_
    replace hf := mx_sv_el hf; obtain ⟨v2, e_v2, hf⟩ := hf
    refine sx_get hm dX13_sign__10 rs_RX13_376 (xgi_el e_v2) ?_
    clear e_v2
    refine mx_S.pu (pc2 := 14) (lv2 := [(0, .ref a0), (1, .int a1)]) (st2 := [.int a1, .int v2, .ref a0]) hm dX13_sign__13 rfl ?_
    replace hf := mx_gd_el hf; obtain ⟨c3, hf⟩ := hf
    replace hf := mx_sv_el hf; obtain ⟨u4, e_u4, hf⟩ := hf
    refine sx_cv hm dX13_sign__14 rs_RX13_383 mt_X13_isSign [.int v2, .int a1] [] (b := a0) (ci := 13) rfl rfl rfl c3 (Nat.le_of_ble_eq_true rfl) (Nat.le_of_ble_eq_true rfl) (by omega) (by omega) (f_X13_isSign_ok X (by omega) (by omega) nn a0 v2 a1 h e_u4) ?_
    clear e_u4
    show mx_S X F L 396 17 [(0, .ref a0), (1, .int a1)] [.int u4.1] u4.2 0 0 (none, r, 0, 0)
    rcases mx_if_el hf with ⟨c10, hf⟩ | ⟨c10, hf⟩
    · refine sb_if_eq hm dX13_sign__17 (tgt := 33) rfl (fun _ => ?_) (fun z => absurd c10 z)
      refine mx_S.pu (pc2 := 34) (lv2 := [(0, .ref a0), (1, .int a1)]) (st2 := [.ref a0]) hm dX13_sign__33 rfl ?_
      replace hf := mx_gd_el hf; obtain ⟨c5, hf⟩ := hf
      replace hf := mx_sv_el hf; obtain ⟨u6, e_u6, hf⟩ := hf
      refine sx_cv hm dX13_sign__34 rs_RX13_387 mt_X13_misplaced [] [] (b := a0) (ci := 13) rfl rfl rfl c5 (Nat.le_of_ble_eq_true rfl) (Nat.le_of_ble_eq_true rfl) (by omega) (by omega) (f_X13_misplaced_ok X (by omega) (by omega) nn a0 u4.2 e_u6) ?_
      clear e_u6
      show mx_S X F L 396 37 [(0, .ref a0), (1, .int a1)] [] u6 0 0 (none, r, 0, 0)
      cases hf
      exact sx_ret hm dX13_sign__37 rfl
    · refine sb_if_eq hm dX13_sign__17 (tgt := 33) rfl (fun z => absurd z c10) (fun _ => ?_)
      refine mx_S.pu (pc2 := 21) (lv2 := [(0, .ref a0), (1, .int a1)]) (st2 := [.ref a0]) hm dX13_sign__20 rfl ?_
      refine mx_S.pu (pc2 := 22) (lv2 := [(0, .ref a0), (1, .int a1)]) (st2 := [.ref a0, .ref a0]) hm dX13_sign__21 rfl ?_
      replace hf := mx_sv_el hf; obtain ⟨v7, e_v7, hf⟩ := hf
      refine sx_get hm dX13_sign__22 rs_RX13_376 (xgi_el e_v7) ?_
      clear e_v7
      refine sx_ic (v := 1) hm dX13_sign__25 (by decide) ?_
      replace hf := xl_el hf; obtain ⟨v8, e_v8, hf⟩ := hf
      refine mx_S.pu (pc2 := 27) (lv2 := [(0, .ref a0), (1, .int a1)]) (st2 := [.int v8, .ref a0]) hm dX13_sign__26 (by rw [← e_v8]; rfl) ?_
      clear e_v8
      replace hf := mx_sv_el hf; obtain ⟨h9, e_h9, hf⟩ := hf
      refine sx_put hm dX13_sign__27 rs_RX13_376 ft_13_23 ⟨rfl, rfl⟩ (fun z => by cases z) e_h9 ?_
      clear e_h9
      refine mx_S.pu (pc2 := 37) (lv2 := [(0, .ref a0), (1, .int a1)]) (st2 := []) hm dX13_sign__30 rfl ?_
      cases hf
      exact sx_ret hm dX13_sign__37 rfl
  · refine sb_if_eq hm dX13_sign__4 (tgt := 8) rfl (fun z => absurd z c11) (fun _ => ?_)
    cases hf
    exact sx_ret hm dX13_sign__7 rfl
set_option maxHeartbeats 4000000 in
set_option maxRecDepth 20000 in
theorem j_X13_isDeep_37_ok (X : Nat × (Nat → Int32)) {F L : Nat} (hF : 1 ≤ F) (hL : 22 ≤ L) (nn : Nat) (l0 : Nat) (s0 : Int32) (s1 : Nat) (h : mx_H) {r : (Int32 × mx_H)} (hf : j_X13_isDeep_37 nn l0 s0 s1 h = some r) : mx_S X F L 399 37 [(0, .ref l0)] [.int s0, .ref s1] h 0 0 (some (.int r.1), r.2, 0, 0) := by
  have hm : mx_mt 399 = some (yX13_isDeep, cX13_isDeep, 2, (some .boolean)) := mt_X13_isDeep
  unfold j_X13_isDeep_37 at hf
  refine mx_S.pu (pc2 := 38) (lv2 := [(0, .ref l0)]) (st2 := [.ref l0, .int s0, .ref s1]) hm dX13_isDeep_37 rfl ?_
  replace hf := mx_sv_el hf; obtain ⟨v1, e_v1, hf⟩ := hf
  refine sx_get hm dX13_isDeep_38 rs_RX13_376 (xgi_el e_v1) ?_
  clear e_v1
  replace hf := mx_gd_el hf; obtain ⟨c2, hf⟩ := hf
  replace hf := mx_sv_el hf; obtain ⟨u3, e_u3, hf⟩ := hf
  refine sx_cv hm dX13_isDeep_41 rs_RX13_379 mt_X13_wrong [.int s0, .int v1] [] (b := s1) (ci := 13) rfl rfl rfl c2 (Nat.le_of_ble_eq_true rfl) (Nat.le_of_ble_eq_true rfl) (by omega) (by omega) (f_X13_wrong_ok X (by omega) (by omega) nn s1 s0 v1 h e_u3) ?_
  clear e_u3
  show mx_S X F L 399 44 [(0, .ref l0)] [] u3 0 0 (some (.int r.1), r.2, 0, 0)
  refine sx_ic (v := 1) hm dX13_isDeep_44 (by decide) ?_
  cases hf
  exact sx_ire hm dX13_isDeep_45 rfl (by decide)
set_option maxHeartbeats 4000000 in
set_option maxRecDepth 20000 in
theorem f_X13_isDeep_ok (X : Nat × (Nat → Int32)) {F L : Nat} (hF : 1 ≤ F) (hL : 22 ≤ L) (nn : Nat) (a0 : Nat) (a1 : Int32) (h : mx_H) {r : (Int32 × mx_H)} (hf : f_X13_isDeep nn a0 a1 h = some r) : mx_R X F L 399 [.ref a0, .int a1] h (some (.int r.1), r.2, 0, 0) := by
  have hm : mx_mt 399 = some (yX13_isDeep, cX13_isDeep, 2, (some .boolean)) := mt_X13_isDeep
  show mx_S X F L 399 0 [(0, .ref a0), (1, .int a1)] [] h 0 0 (some (.int r.1), r.2, 0, 0)
  unfold f_X13_isDeep at hf
  refine mx_S.pu (pc2 := 1) (lv2 := [(0, .ref a0), (1, .int a1)]) (st2 := [.ref a0]) hm dX13_isDeep_0 rfl ?_
  replace hf := mx_sv_el hf; obtain ⟨v4, e_v4, hf⟩ := hf
  refine sx_get hm dX13_isDeep_1 rs_RX13_319 (xgi_el e_v4) ?_
  clear e_v4
  rcases mx_if_el hf with ⟨c10, hf⟩ | ⟨c10, hf⟩
  · refine sb_if_eq hm dX13_isDeep_4 (tgt := 9) rfl (fun _ => ?_) (fun z => absurd c10 z)
    refine mx_S.pu (pc2 := 10) (lv2 := [(0, .ref a0), (1, .int a1)]) (st2 := [.int a1]) hm dX13_isDeep_9 rfl ?_
    refine sx_bi (v := 40) hm dX13_isDeep_10 (by decide) ?_
    rcases mx_if_el hf with ⟨c9, hf⟩ | ⟨c9, hf⟩
    · refine sb_ic_ge hm dX13_isDeep_12 (tgt := 17) rfl (fun _ => ?_) (fun z => absurd c9 z)
      refine mx_S.pu (pc2 := 18) (lv2 := [(0, .ref a0), (1, .int a1)]) (st2 := [.ref a0]) hm dX13_isDeep_17 rfl ?_
      refine mx_S.pu (pc2 := 19) (lv2 := [(0, .ref a0), (1, .int a1)]) (st2 := [.ref a0, .ref a0]) hm dX13_isDeep_18 rfl ?_
      replace hf := mx_sv_el hf; obtain ⟨v5, e_v5, hf⟩ := hf
      refine sx_get hm dX13_isDeep_19 rs_RX13_16 (xgr_el e_v5) ?_
      clear e_v5
      refine mx_S.pu (pc2 := 23) (lv2 := [(0, .ref a0), (1, .int a1)]) (st2 := [.ref a0, .ref v5, .ref a0]) hm dX13_isDeep_22 rfl ?_
      replace hf := mx_sv_el hf; obtain ⟨v6, e_v6, hf⟩ := hf
      refine sx_get hm dX13_isDeep_23 rs_RX13_376 (xgi_el e_v6) ?_
      clear e_v6
      replace hf := mx_sv_el hf; obtain ⟨v7, e_v7, hf⟩ := hf
      refine sx_ald hm dX13_isDeep_26 e_v7 ?_
      clear e_v7
      refine sx_bi (v := 6) hm dX13_isDeep_27 (by decide) ?_
      rcases mx_if_el hf with ⟨c8, hf⟩ | ⟨c8, hf⟩
      · refine sb_ic_ne hm dX13_isDeep_29 (tgt := 36) rfl (fun _ => ?_) (fun z => absurd c8 z)
        refine sx_ic (v := 3) hm dX13_isDeep_36 (by decide) ?_
        refine mx_S.ext [(0, .ref a0)] (mx_sub_pos [0] rfl (show ([0, 1] : List Nat).Nodup by decide)) ?_
        exact j_X13_isDeep_37_ok X hF hL nn a0 3 a0 h hf
      · refine sb_ic_ne hm dX13_isDeep_29 (tgt := 36) rfl (fun z => absurd z c8) (fun _ => ?_)
        refine sx_ic (v := 1) hm dX13_isDeep_32 (by decide) ?_
        refine mx_S.pu (pc2 := 37) (lv2 := [(0, .ref a0), (1, .int a1)]) (st2 := [.int 1, .ref a0]) hm dX13_isDeep_33 rfl ?_
        refine mx_S.ext [(0, .ref a0)] (mx_sub_pos [0] rfl (show ([0, 1] : List Nat).Nodup by decide)) ?_
        exact j_X13_isDeep_37_ok X hF hL nn a0 1 a0 h hf
    · refine sb_ic_ge hm dX13_isDeep_12 (tgt := 17) rfl (fun z => absurd z c9) (fun _ => ?_)
      refine sx_ic (v := 0) hm dX13_isDeep_15 (by decide) ?_
      cases hf
      exact sx_ire hm dX13_isDeep_16 rfl (by decide)
  · refine sb_if_eq hm dX13_isDeep_4 (tgt := 9) rfl (fun z => absurd z c10) (fun _ => ?_)
    refine sx_ic (v := 1) hm dX13_isDeep_7 (by decide) ?_
    cases hf
    exact sx_ire hm dX13_isDeep_8 rfl (by decide)
set_option maxHeartbeats 4000000 in
set_option maxRecDepth 20000 in
theorem f_X13_name_ok (X : Nat × (Nat → Int32)) {F L : Nat} (hF : 2 ≤ F) (hL : 42 ≤ L) (nn : Nat) (a0 : Nat) (h : mx_H) {r : (Int32 × mx_H)} (hf : f_X13_name nn a0 h = some r) : mx_R X F L 398 [.ref a0] h (some (.int r.1), r.2, 0, 0) := by
  have hm : mx_mt 398 = some (yX13_name, cX13_name, 1, (some .int)) := mt_X13_name
  show mx_S X F L 398 0 [(0, .ref a0)] [] h 0 0 (some (.int r.1), r.2, 0, 0)
  unfold f_X13_name at hf
  refine mx_S.pu (pc2 := 1) (lv2 := [(0, .ref a0)]) (st2 := [.ref a0]) hm dX13_name_0 rfl ?_
  replace hf := mx_sv_el hf; obtain ⟨v1, e_v1, hf⟩ := hf
  refine sx_get hm dX13_name_1 rs_RX13_319 (xgi_el e_v1) ?_
  clear e_v1
  rcases mx_if_el hf with ⟨c13, hf⟩ | ⟨c13, hf⟩
  · refine sb_if_eq hm dX13_name_4 (tgt := 9) rfl (fun _ => ?_) (fun z => absurd c13 z)
    refine mx_S.pu (pc2 := 10) (lv2 := [(0, .ref a0)]) (st2 := [.ref a0]) hm dX13_name_9 rfl ?_
    replace hf := mx_sv_el hf; obtain ⟨v2, e_v2, hf⟩ := hf
    refine sx_get hm dX13_name_10 rs_RX13_16 (xgr_el e_v2) ?_
    clear e_v2
    refine mx_S.pu (pc2 := 14) (lv2 := [(0, .ref a0)]) (st2 := [.ref a0, .ref v2]) hm dX13_name_13 rfl ?_
    replace hf := mx_sv_el hf; obtain ⟨v3, e_v3, hf⟩ := hf
    refine sx_get hm dX13_name_14 rs_RX13_376 (xgi_el e_v3) ?_
    clear e_v3
    replace hf := mx_sv_el hf; obtain ⟨v4, e_v4, hf⟩ := hf
    refine sx_ald hm dX13_name_17 e_v4 ?_
    clear e_v4
    refine sx_ic (v := 1) hm dX13_name_18 (by decide) ?_
    rcases mx_if_el hf with ⟨c12, hf⟩ | ⟨c12, hf⟩
    · refine sb_ic_eq hm dX13_name_19 (tgt := 28) rfl (fun _ => ?_) (fun z => absurd c12 z)
      refine mx_S.pu (pc2 := 29) (lv2 := [(0, .ref a0)]) (st2 := [.ref a0]) hm dX13_name_28 rfl ?_
      refine mx_S.pu (pc2 := 30) (lv2 := [(0, .ref a0)]) (st2 := [.ref a0, .ref a0]) hm dX13_name_29 rfl ?_
      replace hf := mx_sv_el hf; obtain ⟨v5, e_v5, hf⟩ := hf
      refine sx_get hm dX13_name_30 rs_RX13_376 (xgi_el e_v5) ?_
      clear e_v5
      refine sx_ic (v := 1) hm dX13_name_33 (by decide) ?_
      replace hf := xl_el hf; obtain ⟨v6, e_v6, hf⟩ := hf
      refine mx_S.pu (pc2 := 35) (lv2 := [(0, .ref a0)]) (st2 := [.int v6, .ref a0]) hm dX13_name_34 (by rw [← e_v6]; rfl) ?_
      clear e_v6
      replace hf := mx_sv_el hf; obtain ⟨h7, e_h7, hf⟩ := hf
      refine sx_put hm dX13_name_35 rs_RX13_376 ft_13_23 ⟨rfl, rfl⟩ (fun z => by cases z) e_h7 ?_
      clear e_h7
      refine mx_S.pu (pc2 := 39) (lv2 := [(0, .ref a0)]) (st2 := [.ref a0]) hm dX13_name_38 rfl ?_
      replace hf := mx_sv_el hf; obtain ⟨v8, e_v8, hf⟩ := hf
      refine sx_get hm dX13_name_39 rs_RX13_376 (xgi_el e_v8) ?_
      clear e_v8
      refine sx_ic (v := 1) hm dX13_name_42 (by decide) ?_
      replace hf := xl_el hf; obtain ⟨v9, e_v9, hf⟩ := hf
      refine mx_S.pu (pc2 := 44) (lv2 := [(0, .ref a0)]) (st2 := [.int v9]) hm dX13_name_43 (by rw [← e_v9]; rfl) ?_
      clear e_v9
      cases hf
      exact sx_ire hm dX13_name_44 rfl rfl
    · refine sb_ic_eq hm dX13_name_19 (tgt := 28) rfl (fun z => absurd z c12) (fun _ => ?_)
      refine mx_S.pu (pc2 := 23) (lv2 := [(0, .ref a0)]) (st2 := [.ref a0]) hm dX13_name_22 rfl ?_
      replace hf := mx_gd_el hf; obtain ⟨c10, hf⟩ := hf
      replace hf := mx_sv_el hf; obtain ⟨u11, e_u11, hf⟩ := hf
      refine sx_cv hm dX13_name_23 rs_RX13_387 mt_X13_misplaced [] [] (b := a0) (ci := 13) rfl rfl rfl c10 (Nat.le_of_ble_eq_true rfl) (Nat.le_of_ble_eq_true rfl) (by omega) (by omega) (f_X13_misplaced_ok X (by omega) (by omega) nn a0 h e_u11) ?_
      clear e_u11
      show mx_S X F L 398 26 [(0, .ref a0)] [] u11 0 0 (some (.int r.1), r.2, 0, 0)
      refine sx_ic (v := 0) hm dX13_name_26 (by decide) ?_
      cases hf
      exact sx_ire hm dX13_name_27 rfl rfl
  · refine sb_if_eq hm dX13_name_4 (tgt := 9) rfl (fun z => absurd z c13) (fun _ => ?_)
    refine sx_ic (v := 0) hm dX13_name_7 (by decide) ?_
    cases hf
    exact sx_ire hm dX13_name_8 rfl rfl
set_option maxHeartbeats 4000000 in
set_option maxRecDepth 20000 in
theorem j_X13_isCast_154_ok (X : Nat × (Nat → Int32)) {F L : Nat} (hF : 1 ≤ F) (hL : 22 ≤ L) (nn : Nat) (h : mx_H) {r : (Int32 × mx_H)} (hf : j_X13_isCast_154 nn h = some r) : mx_S X F L 410 154 [] [] h 0 0 (some (.int r.1), r.2, 0, 0) := by
  have hm : mx_mt 410 = some (yX13_isCast, cX13_isCast, 2, (some .boolean)) := mt_X13_isCast
  unfold j_X13_isCast_154 at hf
  refine sx_ic (v := 1) hm dX13_isCast_154 (by decide) ?_
  refine mx_S.pu (pc2 := 159) (lv2 := []) (st2 := [.int 1]) hm dX13_isCast_155 rfl ?_
  cases hf
  exact sx_ire hm dX13_isCast_159 rfl (by decide)
set_option maxHeartbeats 4000000 in
set_option maxRecDepth 20000 in
theorem f_X13_isCast_ok (X : Nat × (Nat → Int32)) {F L : Nat} (hF : 1 ≤ F) (hL : 22 ≤ L) (nn : Nat) (a0 : Nat) (h : mx_H) {r : (Int32 × mx_H)} (hf : f_X13_isCast nn a0 h = some r) : mx_R X F L 410 [.ref a0] h (some (.int r.1), r.2, 0, 0) := by
  have hm : mx_mt 410 = some (yX13_isCast, cX13_isCast, 2, (some .boolean)) := mt_X13_isCast
  show mx_S X F L 410 0 [(0, .ref a0)] [] h 0 0 (some (.int r.1), r.2, 0, 0)
  unfold f_X13_isCast at hf
  refine mx_S.pu (pc2 := 1) (lv2 := [(0, .ref a0)]) (st2 := [.ref a0]) hm dX13_isCast_0 rfl ?_
  refine mx_S.pu (pc2 := 2) (lv2 := [(0, .ref a0)]) (st2 := [.ref a0, .ref a0]) hm dX13_isCast_1 rfl ?_
  replace hf := mx_sv_el hf; obtain ⟨v1, e_v1, hf⟩ := hf
  refine sx_get hm dX13_isCast_2 rs_RX13_376 (xgi_el e_v1) ?_
  clear e_v1
  refine sx_bi (v := 40) hm dX13_isCast_5 (by decide) ?_
  replace hf := mx_gd_el hf; obtain ⟨c2, hf⟩ := hf
  replace hf := mx_sv_el hf; obtain ⟨u3, e_u3, hf⟩ := hf
  refine sx_cv hm dX13_isCast_7 rs_RX13_383 mt_X13_isSign [.int v1, .int 40] [] (b := a0) (ci := 13) rfl rfl rfl c2 (Nat.le_of_ble_eq_true rfl) (Nat.le_of_ble_eq_true rfl) (by omega) (by omega) (f_X13_isSign_ok X (by omega) (by omega) nn a0 v1 40 h e_u3) ?_
  clear e_u3
  show mx_S X F L 410 10 [(0, .ref a0)] [.int u3.1] u3.2 0 0 (some (.int r.1), r.2, 0, 0)
  rcases mx_if_el hf with ⟨c46, hf⟩ | ⟨c46, hf⟩
  · refine sb_if_eq hm dX13_isCast_10 (tgt := 43) rfl (fun _ => ?_) (fun z => absurd c46 z)
    refine sx_ic (v := 0) hm dX13_isCast_43 (by decide) ?_
    cases hf
    exact sx_ire hm dX13_isCast_44 rfl (by decide)
  · refine sb_if_eq hm dX13_isCast_10 (tgt := 43) rfl (fun z => absurd z c46) (fun _ => ?_)
    refine mx_S.pu (pc2 := 14) (lv2 := [(0, .ref a0)]) (st2 := [.ref a0]) hm dX13_isCast_13 rfl ?_
    replace hf := mx_sv_el hf; obtain ⟨v4, e_v4, hf⟩ := hf
    refine sx_get hm dX13_isCast_14 rs_RX13_16 (xgr_el e_v4) ?_
    clear e_v4
    refine mx_S.pu (pc2 := 18) (lv2 := [(0, .ref a0)]) (st2 := [.ref a0, .ref v4]) hm dX13_isCast_17 rfl ?_
    replace hf := mx_sv_el hf; obtain ⟨v5, e_v5, hf⟩ := hf
    refine sx_get hm dX13_isCast_18 rs_RX13_376 (xgi_el e_v5) ?_
    clear e_v5
    refine sx_ic (v := 1) hm dX13_isCast_21 (by decide) ?_
    replace hf := xl_el hf; obtain ⟨v6, e_v6, hf⟩ := hf
    refine mx_S.pu (pc2 := 23) (lv2 := [(0, .ref a0)]) (st2 := [.int v6, .ref v4]) hm dX13_isCast_22 (by rw [← e_v6]; rfl) ?_
    clear e_v6
    replace hf := mx_sv_el hf; obtain ⟨v7, e_v7, hf⟩ := hf
    refine sx_ald hm dX13_isCast_23 e_v7 ?_
    clear e_v7
    refine sx_ic (v := 1) hm dX13_isCast_24 (by decide) ?_
    rcases mx_if_el hf with ⟨c45, hf⟩ | ⟨c45, hf⟩
    · refine sb_ic_ne hm dX13_isCast_25 (tgt := 43) rfl (fun _ => ?_) (fun z => absurd c45 z)
      refine sx_ic (v := 0) hm dX13_isCast_43 (by decide) ?_
      cases hf
      exact sx_ire hm dX13_isCast_44 rfl (by decide)
    · refine sb_ic_ne hm dX13_isCast_25 (tgt := 43) rfl (fun z => absurd z c45) (fun _ => ?_)
      refine mx_S.pu (pc2 := 29) (lv2 := [(0, .ref a0)]) (st2 := [.ref a0]) hm dX13_isCast_28 rfl ?_
      refine mx_S.pu (pc2 := 30) (lv2 := [(0, .ref a0)]) (st2 := [.ref a0, .ref a0]) hm dX13_isCast_29 rfl ?_
      replace hf := mx_sv_el hf; obtain ⟨v8, e_v8, hf⟩ := hf
      refine sx_get hm dX13_isCast_30 rs_RX13_376 (xgi_el e_v8) ?_
      clear e_v8
      refine sx_ic (v := 2) hm dX13_isCast_33 (by decide) ?_
      replace hf := xl_el hf; obtain ⟨v9, e_v9, hf⟩ := hf
      refine mx_S.pu (pc2 := 35) (lv2 := [(0, .ref a0)]) (st2 := [.int v9, .ref a0]) hm dX13_isCast_34 (by rw [← e_v9]; rfl) ?_
      clear e_v9
      refine sx_bi (v := 41) hm dX13_isCast_35 (by decide) ?_
      replace hf := mx_gd_el hf; obtain ⟨c10, hf⟩ := hf
      replace hf := mx_sv_el hf; obtain ⟨u11, e_u11, hf⟩ := hf
      refine sx_cv hm dX13_isCast_37 rs_RX13_383 mt_X13_isSign [.int v9, .int 41] [] (b := a0) (ci := 13) rfl rfl rfl c10 (Nat.le_of_ble_eq_true rfl) (Nat.le_of_ble_eq_true rfl) (by omega) (by omega) (f_X13_isSign_ok X (by omega) (by omega) nn a0 v9 41 u3.2 e_u11) ?_
      clear e_u11
      show mx_S X F L 410 40 [(0, .ref a0)] [.int u11.1] u11.2 0 0 (some (.int r.1), r.2, 0, 0)
      rcases mx_if_el hf with ⟨c44, hf⟩ | ⟨c44, hf⟩
      · refine sb_if_ne hm dX13_isCast_40 (tgt := 45) rfl (fun _ => ?_) (fun z => absurd c44 z)
        refine mx_S.pu (pc2 := 46) (lv2 := [(0, .ref a0)]) (st2 := [.ref a0]) hm dX13_isCast_45 rfl ?_
        replace hf := mx_sv_el hf; obtain ⟨v12, e_v12, hf⟩ := hf
        refine sx_get hm dX13_isCast_46 rs_RX13_376 (xgi_el e_v12) ?_
        clear e_v12
        refine sx_ic (v := 3) hm dX13_isCast_49 (by decide) ?_
        replace hf := xl_el hf; obtain ⟨v13, e_v13, hf⟩ := hf
        refine mx_S.pu (pc2 := 51) (lv2 := [(0, .ref a0)]) (st2 := [.int v13]) hm dX13_isCast_50 (by rw [← e_v13]; rfl) ?_
        clear e_v13
        refine mx_S.pu (pc2 := 52) (lv2 := [(1, .int v13), (0, .ref a0)]) (st2 := []) hm dX13_isCast_51 rfl ?_
        refine mx_S.pu (pc2 := 53) (lv2 := [(1, .int v13), (0, .ref a0)]) (st2 := [.ref a0]) hm dX13_isCast_52 rfl ?_
        replace hf := mx_sv_el hf; obtain ⟨v14, e_v14, hf⟩ := hf
        refine sx_get hm dX13_isCast_53 rs_RX13_16 (xgr_el e_v14) ?_
        clear e_v14
        refine mx_S.pu (pc2 := 57) (lv2 := [(1, .int v13), (0, .ref a0)]) (st2 := [.int v13, .ref v14]) hm dX13_isCast_56 rfl ?_
        replace hf := mx_sv_el hf; obtain ⟨v15, e_v15, hf⟩ := hf
        refine sx_ald hm dX13_isCast_57 e_v15 ?_
        clear e_v15
        refine sx_ic (v := 1) hm dX13_isCast_58 (by decide) ?_
        rcases mx_if_el hf with ⟨c43, hf⟩ | ⟨c43, hf⟩
        · refine sb_ic_eq hm dX13_isCast_59 (tgt := 72) rfl (fun _ => ?_) (fun z => absurd c43 z)
          refine sx_ic (v := 1) hm dX13_isCast_72 (by decide) ?_
          cases hf
          exact sx_ire hm dX13_isCast_73 rfl (by decide)
        · refine sb_ic_eq hm dX13_isCast_59 (tgt := 72) rfl (fun z => absurd z c43) (fun _ => ?_)
          refine mx_S.pu (pc2 := 63) (lv2 := [(1, .int v13), (0, .ref a0)]) (st2 := [.ref a0]) hm dX13_isCast_62 rfl ?_
          replace hf := mx_sv_el hf; obtain ⟨v16, e_v16, hf⟩ := hf
          refine sx_get hm dX13_isCast_63 rs_RX13_16 (xgr_el e_v16) ?_
          clear e_v16
          refine mx_S.pu (pc2 := 67) (lv2 := [(1, .int v13), (0, .ref a0)]) (st2 := [.int v13, .ref v16]) hm dX13_isCast_66 rfl ?_
          replace hf := mx_sv_el hf; obtain ⟨v17, e_v17, hf⟩ := hf
          refine sx_ald hm dX13_isCast_67 e_v17 ?_
          clear e_v17
          refine sx_ic (v := 2) hm dX13_isCast_68 (by decide) ?_
          rcases mx_if_el hf with ⟨c42, hf⟩ | ⟨c42, hf⟩
          · refine sb_ic_ne hm dX13_isCast_69 (tgt := 74) rfl (fun _ => ?_) (fun z => absurd c42 z)
            refine mx_S.pu (pc2 := 75) (lv2 := [(1, .int v13), (0, .ref a0)]) (st2 := [.ref a0]) hm dX13_isCast_74 rfl ?_
            refine mx_S.pu (pc2 := 76) (lv2 := [(1, .int v13), (0, .ref a0)]) (st2 := [.int v13, .ref a0]) hm dX13_isCast_75 rfl ?_
            refine sx_bi (v := 40) hm dX13_isCast_76 (by decide) ?_
            replace hf := mx_gd_el hf; obtain ⟨c18, hf⟩ := hf
            replace hf := mx_sv_el hf; obtain ⟨u19, e_u19, hf⟩ := hf
            refine sx_cv hm dX13_isCast_78 rs_RX13_383 mt_X13_isSign [.int v13, .int 40] [] (b := a0) (ci := 13) rfl rfl rfl c18 (Nat.le_of_ble_eq_true rfl) (Nat.le_of_ble_eq_true rfl) (by omega) (by omega) (f_X13_isSign_ok X (by omega) (by omega) nn a0 v13 40 u11.2 e_u19) ?_
            clear e_u19
            show mx_S X F L 410 81 [(1, .int v13), (0, .ref a0)] [.int u19.1] u19.2 0 0 (some (.int r.1), r.2, 0, 0)
            rcases mx_if_el hf with ⟨c41, hf⟩ | ⟨c41, hf⟩
            · refine sb_if_ne hm dX13_isCast_81 (tgt := 154) rfl (fun _ => ?_) (fun z => absurd c41 z)
              refine mx_S.ext [] (mx_sub_pos [] rfl (show ([1, 0] : List Nat).Nodup by decide)) ?_
              exact j_X13_isCast_154_ok X hF hL nn u19.2 hf
            · refine sb_if_ne hm dX13_isCast_81 (tgt := 154) rfl (fun z => absurd z c41) (fun _ => ?_)
              refine mx_S.pu (pc2 := 85) (lv2 := [(1, .int v13), (0, .ref a0)]) (st2 := [.ref a0]) hm dX13_isCast_84 rfl ?_
              refine mx_S.pu (pc2 := 86) (lv2 := [(1, .int v13), (0, .ref a0)]) (st2 := [.int v13, .ref a0]) hm dX13_isCast_85 rfl ?_
              refine sx_bi (v := 33) hm dX13_isCast_86 (by decide) ?_
              replace hf := mx_gd_el hf; obtain ⟨c20, hf⟩ := hf
              replace hf := mx_sv_el hf; obtain ⟨u21, e_u21, hf⟩ := hf
              refine sx_cv hm dX13_isCast_88 rs_RX13_383 mt_X13_isSign [.int v13, .int 33] [] (b := a0) (ci := 13) rfl rfl rfl c20 (Nat.le_of_ble_eq_true rfl) (Nat.le_of_ble_eq_true rfl) (by omega) (by omega) (f_X13_isSign_ok X (by omega) (by omega) nn a0 v13 33 u19.2 e_u21) ?_
              clear e_u21
              show mx_S X F L 410 91 [(1, .int v13), (0, .ref a0)] [.int u21.1] u21.2 0 0 (some (.int r.1), r.2, 0, 0)
              rcases mx_if_el hf with ⟨c40, hf⟩ | ⟨c40, hf⟩
              · refine sb_if_ne hm dX13_isCast_91 (tgt := 154) rfl (fun _ => ?_) (fun z => absurd c40 z)
                refine mx_S.ext [] (mx_sub_pos [] rfl (show ([1, 0] : List Nat).Nodup by decide)) ?_
                exact j_X13_isCast_154_ok X hF hL nn u21.2 hf
              · refine sb_if_ne hm dX13_isCast_91 (tgt := 154) rfl (fun z => absurd z c40) (fun _ => ?_)
                refine mx_S.pu (pc2 := 95) (lv2 := [(1, .int v13), (0, .ref a0)]) (st2 := [.ref a0]) hm dX13_isCast_94 rfl ?_
                refine mx_S.pu (pc2 := 96) (lv2 := [(1, .int v13), (0, .ref a0)]) (st2 := [.int v13, .ref a0]) hm dX13_isCast_95 rfl ?_
                refine sx_bi (v := 126) hm dX13_isCast_96 (by decide) ?_
                replace hf := mx_gd_el hf; obtain ⟨c22, hf⟩ := hf
                replace hf := mx_sv_el hf; obtain ⟨u23, e_u23, hf⟩ := hf
                refine sx_cv hm dX13_isCast_98 rs_RX13_383 mt_X13_isSign [.int v13, .int 126] [] (b := a0) (ci := 13) rfl rfl rfl c22 (Nat.le_of_ble_eq_true rfl) (Nat.le_of_ble_eq_true rfl) (by omega) (by omega) (f_X13_isSign_ok X (by omega) (by omega) nn a0 v13 126 u21.2 e_u23) ?_
                clear e_u23
                show mx_S X F L 410 101 [(1, .int v13), (0, .ref a0)] [.int u23.1] u23.2 0 0 (some (.int r.1), r.2, 0, 0)
                rcases mx_if_el hf with ⟨c39, hf⟩ | ⟨c39, hf⟩
                · refine sb_if_ne hm dX13_isCast_101 (tgt := 154) rfl (fun _ => ?_) (fun z => absurd c39 z)
                  refine mx_S.ext [] (mx_sub_pos [] rfl (show ([1, 0] : List Nat).Nodup by decide)) ?_
                  exact j_X13_isCast_154_ok X hF hL nn u23.2 hf
                · refine sb_if_ne hm dX13_isCast_101 (tgt := 154) rfl (fun z => absurd z c39) (fun _ => ?_)
                  refine mx_S.pu (pc2 := 105) (lv2 := [(1, .int v13), (0, .ref a0)]) (st2 := [.ref a0]) hm dX13_isCast_104 rfl ?_
                  refine mx_S.pu (pc2 := 106) (lv2 := [(1, .int v13), (0, .ref a0)]) (st2 := [.int v13, .ref a0]) hm dX13_isCast_105 rfl ?_
                  refine sx_bi (v := 16) hm dX13_isCast_106 (by decide) ?_
                  replace hf := mx_gd_el hf; obtain ⟨c24, hf⟩ := hf
                  replace hf := mx_sv_el hf; obtain ⟨u25, e_u25, hf⟩ := hf
                  refine sx_cv hm dX13_isCast_108 rs_RX13_390 mt_X13_isWord [.int v13, .int 16] [] (b := a0) (ci := 13) rfl rfl rfl c24 (Nat.le_of_ble_eq_true rfl) (Nat.le_of_ble_eq_true rfl) (by omega) (by omega) (f_X13_isWord_ok X (by omega) (by omega) nn a0 v13 16 u23.2 e_u25) ?_
                  clear e_u25
                  show mx_S X F L 410 111 [(1, .int v13), (0, .ref a0)] [.int u25.1] u25.2 0 0 (some (.int r.1), r.2, 0, 0)
                  rcases mx_if_el hf with ⟨c38, hf⟩ | ⟨c38, hf⟩
                  · refine sb_if_ne hm dX13_isCast_111 (tgt := 154) rfl (fun _ => ?_) (fun z => absurd c38 z)
                    refine mx_S.ext [] (mx_sub_pos [] rfl (show ([1, 0] : List Nat).Nodup by decide)) ?_
                    exact j_X13_isCast_154_ok X hF hL nn u25.2 hf
                  · refine sb_if_ne hm dX13_isCast_111 (tgt := 154) rfl (fun z => absurd z c38) (fun _ => ?_)
                    refine mx_S.pu (pc2 := 115) (lv2 := [(1, .int v13), (0, .ref a0)]) (st2 := [.ref a0]) hm dX13_isCast_114 rfl ?_
                    refine mx_S.pu (pc2 := 116) (lv2 := [(1, .int v13), (0, .ref a0)]) (st2 := [.int v13, .ref a0]) hm dX13_isCast_115 rfl ?_
                    refine sx_bi (v := 11) hm dX13_isCast_116 (by decide) ?_
                    replace hf := mx_gd_el hf; obtain ⟨c26, hf⟩ := hf
                    replace hf := mx_sv_el hf; obtain ⟨u27, e_u27, hf⟩ := hf
                    refine sx_cv hm dX13_isCast_118 rs_RX13_390 mt_X13_isWord [.int v13, .int 11] [] (b := a0) (ci := 13) rfl rfl rfl c26 (Nat.le_of_ble_eq_true rfl) (Nat.le_of_ble_eq_true rfl) (by omega) (by omega) (f_X13_isWord_ok X (by omega) (by omega) nn a0 v13 11 u25.2 e_u27) ?_
                    clear e_u27
                    show mx_S X F L 410 121 [(1, .int v13), (0, .ref a0)] [.int u27.1] u27.2 0 0 (some (.int r.1), r.2, 0, 0)
                    rcases mx_if_el hf with ⟨c37, hf⟩ | ⟨c37, hf⟩
                    · refine sb_if_ne hm dX13_isCast_121 (tgt := 154) rfl (fun _ => ?_) (fun z => absurd c37 z)
                      refine mx_S.ext [] (mx_sub_pos [] rfl (show ([1, 0] : List Nat).Nodup by decide)) ?_
                      exact j_X13_isCast_154_ok X hF hL nn u27.2 hf
                    · refine sb_if_ne hm dX13_isCast_121 (tgt := 154) rfl (fun z => absurd z c37) (fun _ => ?_)
                      refine mx_S.pu (pc2 := 125) (lv2 := [(1, .int v13), (0, .ref a0)]) (st2 := [.ref a0]) hm dX13_isCast_124 rfl ?_
                      refine mx_S.pu (pc2 := 126) (lv2 := [(1, .int v13), (0, .ref a0)]) (st2 := [.int v13, .ref a0]) hm dX13_isCast_125 rfl ?_
                      refine sx_bi (v := 12) hm dX13_isCast_126 (by decide) ?_
                      replace hf := mx_gd_el hf; obtain ⟨c28, hf⟩ := hf
                      replace hf := mx_sv_el hf; obtain ⟨u29, e_u29, hf⟩ := hf
                      refine sx_cv hm dX13_isCast_128 rs_RX13_390 mt_X13_isWord [.int v13, .int 12] [] (b := a0) (ci := 13) rfl rfl rfl c28 (Nat.le_of_ble_eq_true rfl) (Nat.le_of_ble_eq_true rfl) (by omega) (by omega) (f_X13_isWord_ok X (by omega) (by omega) nn a0 v13 12 u27.2 e_u29) ?_
                      clear e_u29
                      show mx_S X F L 410 131 [(1, .int v13), (0, .ref a0)] [.int u29.1] u29.2 0 0 (some (.int r.1), r.2, 0, 0)
                      rcases mx_if_el hf with ⟨c36, hf⟩ | ⟨c36, hf⟩
                      · refine sb_if_ne hm dX13_isCast_131 (tgt := 154) rfl (fun _ => ?_) (fun z => absurd c36 z)
                        refine mx_S.ext [] (mx_sub_pos [] rfl (show ([1, 0] : List Nat).Nodup by decide)) ?_
                        exact j_X13_isCast_154_ok X hF hL nn u29.2 hf
                      · refine sb_if_ne hm dX13_isCast_131 (tgt := 154) rfl (fun z => absurd z c36) (fun _ => ?_)
                        refine mx_S.pu (pc2 := 135) (lv2 := [(1, .int v13), (0, .ref a0)]) (st2 := [.ref a0]) hm dX13_isCast_134 rfl ?_
                        refine mx_S.pu (pc2 := 136) (lv2 := [(1, .int v13), (0, .ref a0)]) (st2 := [.int v13, .ref a0]) hm dX13_isCast_135 rfl ?_
                        refine sx_bi (v := 18) hm dX13_isCast_136 (by decide) ?_
                        replace hf := mx_gd_el hf; obtain ⟨c30, hf⟩ := hf
                        replace hf := mx_sv_el hf; obtain ⟨u31, e_u31, hf⟩ := hf
                        refine sx_cv hm dX13_isCast_138 rs_RX13_390 mt_X13_isWord [.int v13, .int 18] [] (b := a0) (ci := 13) rfl rfl rfl c30 (Nat.le_of_ble_eq_true rfl) (Nat.le_of_ble_eq_true rfl) (by omega) (by omega) (f_X13_isWord_ok X (by omega) (by omega) nn a0 v13 18 u29.2 e_u31) ?_
                        clear e_u31
                        show mx_S X F L 410 141 [(1, .int v13), (0, .ref a0)] [.int u31.1] u31.2 0 0 (some (.int r.1), r.2, 0, 0)
                        rcases mx_if_el hf with ⟨c35, hf⟩ | ⟨c35, hf⟩
                        · refine sb_if_ne hm dX13_isCast_141 (tgt := 154) rfl (fun _ => ?_) (fun z => absurd c35 z)
                          refine mx_S.ext [] (mx_sub_pos [] rfl (show ([1, 0] : List Nat).Nodup by decide)) ?_
                          exact j_X13_isCast_154_ok X hF hL nn u31.2 hf
                        · refine sb_if_ne hm dX13_isCast_141 (tgt := 154) rfl (fun z => absurd z c35) (fun _ => ?_)
                          refine mx_S.pu (pc2 := 145) (lv2 := [(1, .int v13), (0, .ref a0)]) (st2 := [.ref a0]) hm dX13_isCast_144 rfl ?_
                          refine mx_S.pu (pc2 := 146) (lv2 := [(1, .int v13), (0, .ref a0)]) (st2 := [.int v13, .ref a0]) hm dX13_isCast_145 rfl ?_
                          refine sx_bi (v := 7) hm dX13_isCast_146 (by decide) ?_
                          replace hf := mx_gd_el hf; obtain ⟨c32, hf⟩ := hf
                          replace hf := mx_sv_el hf; obtain ⟨u33, e_u33, hf⟩ := hf
                          refine sx_cv hm dX13_isCast_148 rs_RX13_390 mt_X13_isWord [.int v13, .int 7] [] (b := a0) (ci := 13) rfl rfl rfl c32 (Nat.le_of_ble_eq_true rfl) (Nat.le_of_ble_eq_true rfl) (by omega) (by omega) (f_X13_isWord_ok X (by omega) (by omega) nn a0 v13 7 u31.2 e_u33) ?_
                          clear e_u33
                          show mx_S X F L 410 151 [(1, .int v13), (0, .ref a0)] [.int u33.1] u33.2 0 0 (some (.int r.1), r.2, 0, 0)
                          rcases mx_if_el hf with ⟨c34, hf⟩ | ⟨c34, hf⟩
                          · refine sb_if_eq hm dX13_isCast_151 (tgt := 158) rfl (fun _ => ?_) (fun z => absurd c34 z)
                            refine sx_ic (v := 0) hm dX13_isCast_158 (by decide) ?_
                            cases hf
                            exact sx_ire hm dX13_isCast_159 rfl (by decide)
                          · refine sb_if_eq hm dX13_isCast_151 (tgt := 158) rfl (fun z => absurd z c34) (fun _ => ?_)
                            refine mx_S.ext [] (mx_sub_pos [] rfl (show ([1, 0] : List Nat).Nodup by decide)) ?_
                            exact j_X13_isCast_154_ok X hF hL nn u33.2 hf
          · refine sb_ic_ne hm dX13_isCast_69 (tgt := 74) rfl (fun z => absurd z c42) (fun _ => ?_)
            refine sx_ic (v := 1) hm dX13_isCast_72 (by decide) ?_
            cases hf
            exact sx_ire hm dX13_isCast_73 rfl (by decide)
      · refine sb_if_ne hm dX13_isCast_40 (tgt := 45) rfl (fun z => absurd z c44) (fun _ => ?_)
        refine sx_ic (v := 0) hm dX13_isCast_43 (by decide) ?_
        cases hf
        exact sx_ire hm dX13_isCast_44 rfl (by decide)
