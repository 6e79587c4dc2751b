set_option maxHeartbeats 4000000 in
set_option maxRecDepth 20000 in
theorem w_X13_tokenize_449_ok (X : Nat × (Nat → Int32)) {F L : Nat} (hF : 5 ≤ F) (hL : 112 ≤ L) (nn : Nat) : ∀ (k : Nat) (l0 : Nat) (l2 : Int32) (h : mx_H) (r : mx_H), w_X13_tokenize_449 nn k l0 l2 h = some r → mx_S X F L 390 449 [(0, .ref l0), (2, .int l2)] [] h 0 0 (none, r, 0, 0) := by
  have hm : mx_mt 390 = some (yX13_tokenize, cX13_tokenize, 7, none) := mt_X13_tokenize
  intro k
  induction k with
  | zero => intro l0 l2 h r hf; cases hf
  | succ k ih =>
    intro l0 l2 h r hf
    unfold w_X13_tokenize_449 at hf
    refine mx_S.pu (pc2 := 450) (lv2 := [(0, .ref l0), (2, .int l2)]) (st2 := [.int l2]) hm dX13_tokenize_449 rfl ?_
    refine mx_S.pu (pc2 := 451) (lv2 := [(0, .ref l0), (2, .int l2)]) (st2 := [.ref l0, .int l2]) hm dX13_tokenize_450 rfl ?_
    replace hf := mx_sv_el hf; obtain ⟨v1, e_v1, hf⟩ := hf
    refine sx_get hm dX13_tokenize_451 rs_RX13_338 (xgi_el e_v1) ?_
    clear e_v1
    refine sx_ic (v := 4) hm dX13_tokenize_454 (by decide) ?_
    replace hf := xl_el hf; obtain ⟨v2, e_v2, hf⟩ := hf
    refine mx_S.pu (pc2 := 456) (lv2 := [(0, .ref l0), (2, .int l2)]) (st2 := [.int v2, .int l2]) hm dX13_tokenize_455 (by rw [← e_v2]; rfl) ?_
    clear e_v2
    rcases mx_if_el hf with ⟨c6, hf⟩ | ⟨c6, hf⟩
    · refine sb_ic_ge hm dX13_tokenize_456 (tgt := 472) rfl (fun _ => ?_) (fun z => absurd c6 z)
      cases hf
      exact sx_ret hm dX13_tokenize_472 rfl
    · refine sb_ic_ge hm dX13_tokenize_456 (tgt := 472) rfl (fun z => absurd z c6) (fun _ => ?_)
      refine mx_S.pu (pc2 := 460) (lv2 := [(0, .ref l0), (2, .int l2)]) (st2 := [.ref l0]) hm dX13_tokenize_459 rfl ?_
      replace hf := mx_sv_el hf; obtain ⟨v3, e_v3, hf⟩ := hf
      refine sx_get hm dX13_tokenize_460 rs_RX13_16 (xgr_el e_v3) ?_
      clear e_v3
      refine mx_S.pu (pc2 := 464) (lv2 := [(0, .ref l0), (2, .int l2)]) (st2 := [.int l2, .ref v3]) hm dX13_tokenize_463 rfl ?_
      refine sx_ic (v := 5) hm dX13_tokenize_464 (by decide) ?_
      replace hf := mx_sv_el hf; obtain ⟨h4, e_h4, hf⟩ := hf
      refine sx_ast hm dX13_tokenize_465 e_h4 ?_
      clear e_h4
      replace hf := xl_el hf; obtain ⟨v5, e_v5, hf⟩ := hf
      refine mx_S.pu (pc2 := 469) (lv2 := [(2, .int v5), (0, .ref l0)]) (st2 := []) hm dX13_tokenize_466 (by rw [← e_v5]; rfl) ?_
      clear e_v5
      refine mx_S.pu (pc2 := 449) (lv2 := [(2, .int v5), (0, .ref l0)]) (st2 := []) hm dX13_tokenize_469 rfl ?_
      refine mx_S.ext [(0, .ref l0), (2, .int v5)] (mx_sub_pos [1, 0] rfl (show ([2, 0] : List Nat).Nodup by decide)) ?_
      exact ih l0 v5 h4 _ hf
set_option maxHeartbeats 4000000 in
set_option maxRecDepth 20000 in
theorem w_X13_tokenize_400_ok (X : Nat × (Nat → Int32)) {F L : Nat} (hF : 5 ≤ F) (hL : 112 ≤ L) (nn : Nat) : ∀ (k : Nat) (l0 : Nat) (l4 : Int32) (h : mx_H) (r : mx_H), w_X13_tokenize_400 nn k l0 l4 h = some r → mx_S X F L 390 400 [(0, .ref l0), (4, .int l4)] [] h 0 0 (none, r, 0, 0) := by
  have hm : mx_mt 390 = some (yX13_tokenize, cX13_tokenize, 7, none) := mt_X13_tokenize
  intro k
  induction k with
  | zero => intro l0 l4 h r hf; cases hf
  | succ k ih =>
    intro l0 l4 h r hf
    unfold w_X13_tokenize_400 at hf
    refine mx_S.pu (pc2 := 402) (lv2 := [(0, .ref l0), (4, .int l4)]) (st2 := [.int l4]) hm dX13_tokenize_400 rfl ?_
    refine mx_S.pu (pc2 := 403) (lv2 := [(0, .ref l0), (4, .int l4)]) (st2 := [.ref l0, .int l4]) hm dX13_tokenize_402 rfl ?_
    replace hf := mx_sv_el hf; obtain ⟨v7, e_v7, hf⟩ := hf
    refine sx_get hm dX13_tokenize_403 rs_RX13_338 (xgi_el e_v7) ?_
    clear e_v7
    refine sx_ic (v := 4) hm dX13_tokenize_406 (by decide) ?_
    replace hf := xl_el hf; obtain ⟨v8, e_v8, hf⟩ := hf
    refine mx_S.pu (pc2 := 408) (lv2 := [(0, .ref l0), (4, .int l4)]) (st2 := [.int v8, .int l4]) hm dX13_tokenize_407 (by rw [← e_v8]; rfl) ?_
    clear e_v8
    rcases mx_if_el hf with ⟨c12, hf⟩ | ⟨c12, hf⟩
    · refine sb_ic_ge hm dX13_tokenize_408 (tgt := 425) rfl (fun _ => ?_) (fun z => absurd c12 z)
      cases hf
      exact sx_ret hm dX13_tokenize_425 rfl
    · refine sb_ic_ge hm dX13_tokenize_408 (tgt := 425) rfl (fun z => absurd z c12) (fun _ => ?_)
      refine mx_S.pu (pc2 := 412) (lv2 := [(0, .ref l0), (4, .int l4)]) (st2 := [.ref l0]) hm dX13_tokenize_411 rfl ?_
      replace hf := mx_sv_el hf; obtain ⟨v9, e_v9, hf⟩ := hf
      refine sx_get hm dX13_tokenize_412 rs_RX13_16 (xgr_el e_v9) ?_
      clear e_v9
      refine mx_S.pu (pc2 := 417) (lv2 := [(0, .ref l0), (4, .int l4)]) (st2 := [.int l4, .ref v9]) hm dX13_tokenize_415 rfl ?_
      refine sx_ic (v := 5) hm dX13_tokenize_417 (by decide) ?_
      replace hf := mx_sv_el hf; obtain ⟨h10, e_h10, hf⟩ := hf
      refine sx_ast hm dX13_tokenize_418 e_h10 ?_
      clear e_h10
      replace hf := xl_el hf; obtain ⟨v11, e_v11, hf⟩ := hf
      refine mx_S.pu (pc2 := 422) (lv2 := [(4, .int v11), (0, .ref l0)]) (st2 := []) hm dX13_tokenize_419 (by rw [← e_v11]; rfl) ?_
      clear e_v11
      refine mx_S.pu (pc2 := 400) (lv2 := [(4, .int v11), (0, .ref l0)]) (st2 := []) hm dX13_tokenize_422 rfl ?_
      refine mx_S.ext [(0, .ref l0), (4, .int v11)] (mx_sub_pos [1, 0] rfl (show ([4, 0] : List Nat).Nodup by decide)) ?_
      exact ih l0 v11 h10 _ hf
set_option maxHeartbeats 4000000 in
set_option maxRecDepth 20000 in
theorem j_X13_tokenize_378_ok (X : Nat × (Nat → Int32)) {F L : Nat} (hF : 5 ≤ F) (hL : 112 ≤ L) (nn : Nat) {kk_7 : Nat → Int32 → mx_H → Option mx_H} (hk_7 : ∀ (l0 : Nat) (l1 : Int32) (h : mx_H) (r : mx_H), kk_7 l0 l1 h = some r → mx_S X F L 390 7 [(0, .ref l0), (1, .int l1)] [] h 0 0 (none, r, 0, 0)) (l0 : Nat) (l1 : Int32) (l3 : Int32) (h : mx_H) {r : mx_H} (hf : j_X13_tokenize_378 nn kk_7 l0 l1 l3 h = some r) : mx_S X F L 390 378 [(0, .ref l0), (1, .int l1), (3, .int l3)] [] h 0 0 (none, r, 0, 0) := by
  have hm : mx_mt 390 = some (yX13_tokenize, cX13_tokenize, 7, none) := mt_X13_tokenize
  unfold j_X13_tokenize_378 at hf
  refine mx_S.pu (pc2 := 379) (lv2 := [(0, .ref l0), (1, .int l1), (3, .int l3)]) (st2 := [.ref l0]) hm dX13_tokenize_378 rfl ?_
  replace hf := mx_sv_el hf; obtain ⟨v13, e_v13, hf⟩ := hf
  refine sx_get hm dX13_tokenize_379 rs_RX13_16 (xgr_el e_v13) ?_
  clear e_v13
  refine mx_S.pu (pc2 := 383) (lv2 := [(0, .ref l0), (1, .int l1), (3, .int l3)]) (st2 := [.ref l0, .ref v13]) hm dX13_tokenize_382 rfl ?_
  replace hf := mx_sv_el hf; obtain ⟨v14, e_v14, hf⟩ := hf
  refine sx_get hm dX13_tokenize_383 rs_RX13_338 (xgi_el e_v14) ?_
  clear e_v14
  refine sx_ic (v := 1) hm dX13_tokenize_386 (by decide) ?_
  replace hf := xl_el hf; obtain ⟨v15, e_v15, hf⟩ := hf
  refine mx_S.pu (pc2 := 388) (lv2 := [(0, .ref l0), (1, .int l1), (3, .int l3)]) (st2 := [.int v15, .ref v13]) hm dX13_tokenize_387 (by rw [← e_v15]; rfl) ?_
  clear e_v15
  replace hf := mx_sv_el hf; obtain ⟨v16, e_v16, hf⟩ := hf
  refine sx_ald hm dX13_tokenize_388 e_v16 ?_
  clear e_v16
  refine sx_bi (v := 6) hm dX13_tokenize_389 (by decide) ?_
  rcases mx_if_el hf with ⟨c19, hf⟩ | ⟨c19, hf⟩
  · refine sb_ic_ne hm dX13_tokenize_391 (tgt := 426) rfl (fun _ => ?_) (fun z => absurd c19 z)
    refine mx_S.pu (pc2 := 427) (lv2 := [(0, .ref l0), (1, .int l1), (3, .int l3)]) (st2 := [.int l1]) hm dX13_tokenize_426 rfl ?_
    refine mx_S.pu (pc2 := 428) (lv2 := [(0, .ref l0), (1, .int l1), (3, .int l3)]) (st2 := [.int l3, .int l1]) hm dX13_tokenize_427 rfl ?_
    replace hf := xl_el hf; obtain ⟨v17, e_v17, hf⟩ := hf
    refine mx_S.pu (pc2 := 429) (lv2 := [(0, .ref l0), (1, .int l1), (3, .int l3)]) (st2 := [.int v17]) hm dX13_tokenize_428 (by rw [← e_v17]; rfl) ?_
    clear e_v17
    refine mx_S.pu (pc2 := 430) (lv2 := [(1, .int v17), (0, .ref l0), (3, .int l3)]) (st2 := []) hm dX13_tokenize_429 rfl ?_
    refine mx_S.pu (pc2 := 7) (lv2 := [(1, .int v17), (0, .ref l0), (3, .int l3)]) (st2 := []) hm dX13_tokenize_430 rfl ?_
    refine mx_S.ext [(0, .ref l0), (1, .int v17)] (mx_sub_pos [1, 0] rfl (show ([1, 0, 3] : List Nat).Nodup by decide)) ?_
    exact hk_7 l0 v17 h _ hf
  · refine sb_ic_ne hm dX13_tokenize_391 (tgt := 426) rfl (fun z => absurd z c19) (fun _ => ?_)
    refine mx_S.pu (pc2 := 395) (lv2 := [(0, .ref l0), (1, .int l1), (3, .int l3)]) (st2 := [.ref l0]) hm dX13_tokenize_394 rfl ?_
    replace hf := mx_sv_el hf; obtain ⟨v18, e_v18, hf⟩ := hf
    refine sx_get hm dX13_tokenize_395 rs_RX13_338 (xgi_el e_v18) ?_
    clear e_v18
    refine mx_S.pu (pc2 := 400) (lv2 := [(4, .int v18), (0, .ref l0), (1, .int l1), (3, .int l3)]) (st2 := []) hm dX13_tokenize_398 rfl ?_
    refine mx_S.ext [(0, .ref l0), (4, .int v18)] (mx_sub_pos [1, 0] rfl (show ([4, 0, 1, 3] : List Nat).Nodup by decide)) ?_
    exact w_X13_tokenize_400_ok X hF hL nn nn l0 v18 h _ hf
set_option maxHeartbeats 4000000 in
set_option maxRecDepth 20000 in
theorem j_X13_tokenize_371_ok (X : Nat × (Nat → Int32)) {F L : Nat} (hF : 5 ≤ F) (hL : 112 ≤ L) (nn : Nat) {kk_7 : Nat → Int32 → mx_H → Option mx_H} (hk_7 : ∀ (l0 : Nat) (l1 : Int32) (h : mx_H) (r : mx_H), kk_7 l0 l1 h = some r → mx_S X F L 390 7 [(0, .ref l0), (1, .int l1)] [] h 0 0 (none, r, 0, 0)) (l0 : Nat) (l1 : Int32) (l3 : Int32) (l4 : Int32) (s0 : Int32) (s1 : Nat) (h : mx_H) {r : mx_H} (hf : j_X13_tokenize_371 nn kk_7 l0 l1 l3 l4 s0 s1 h = some r) : mx_S X F L 390 371 [(0, .ref l0), (1, .int l1), (3, .int l3), (4, .int l4)] [.int s0, .ref s1] h 0 0 (none, r, 0, 0) := by
  have hm : mx_mt 390 = some (yX13_tokenize, cX13_tokenize, 7, none) := mt_X13_tokenize
  unfold j_X13_tokenize_371 at hf
  refine mx_S.pu (pc2 := 372) (lv2 := [(0, .ref l0), (1, .int l1), (3, .int l3), (4, .int l4)]) (st2 := [.int l1, .int s0, .ref s1]) hm dX13_tokenize_371 rfl ?_
  refine mx_S.pu (pc2 := 373) (lv2 := [(0, .ref l0), (1, .int l1), (3, .int l3), (4, .int l4)]) (st2 := [.int l3, .int l1, .int s0, .ref s1]) hm dX13_tokenize_372 rfl ?_
  refine mx_S.pu (pc2 := 375) (lv2 := [(0, .ref l0), (1, .int l1), (3, .int l3), (4, .int l4)]) (st2 := [.int l4, .int l3, .int l1, .int s0, .ref s1]) hm dX13_tokenize_373 rfl ?_
  replace hf := mx_gd_el hf; obtain ⟨c20, hf⟩ := hf
  replace hf := mx_sv_el hf; obtain ⟨u21, e_u21, hf⟩ := hf
  refine sx_cv hm dX13_tokenize_375 rs_RX13_358 mt_X13_token [.int s0, .int l1, .int l3, .int l4] [] (b := s1) (ci := 13) rfl rfl rfl c20 (Nat.le_of_ble_eq_true rfl) (Nat.le_of_ble_eq_true rfl) (by omega) (by omega) (f_X13_token_ok X (by omega) (by omega) nn s1 s0 l1 l3 l4 h e_u21) ?_
  clear e_u21
  show mx_S X F L 390 378 [(0, .ref l0), (1, .int l1), (3, .int l3), (4, .int l4)] [] u21 0 0 (none, r, 0, 0)
  refine mx_S.ext [(0, .ref l0), (1, .int l1), (3, .int l3)] (mx_sub_pos [0, 1, 2] rfl (show ([0, 1, 3, 4] : List Nat).Nodup by decide)) ?_
  exact j_X13_tokenize_378_ok X hF hL nn hk_7 l0 l1 l3 u21 hf
set_option maxHeartbeats 4000000 in
set_option maxRecDepth 20000 in
theorem w_X13_tokenize_330_ok (X : Nat × (Nat → Int32)) {F L : Nat} (hF : 5 ≤ F) (hL : 112 ≤ L) (nn : Nat) {kk_7 : Nat → Int32 → mx_H → Option mx_H} (hk_7 : ∀ (l0 : Nat) (l1 : Int32) (h : mx_H) (r : mx_H), kk_7 l0 l1 h = some r → mx_S X F L 390 7 [(0, .ref l0), (1, .int l1)] [] h 0 0 (none, r, 0, 0)) : ∀ (k : Nat) (l0 : Nat) (l1 : Int32) (l3 : Int32) (l4 : Int32) (l5 : Int32) (h : mx_H) (r : mx_H), w_X13_tokenize_330 nn kk_7 k l0 l1 l3 l4 l5 h = some r → mx_S X F L 390 330 [(0, .ref l0), (1, .int l1), (3, .int l3), (4, .int l4), (5, .int l5)] [] h 0 0 (none, r, 0, 0) := by
  have hm : mx_mt 390 = some (yX13_tokenize, cX13_tokenize, 7, none) := mt_X13_tokenize
  intro k
  induction k with
  | zero => intro l0 l1 l3 l4 l5 h r hf; cases hf
  | succ k ih =>
    intro l0 l1 l3 l4 l5 h r hf
    unfold w_X13_tokenize_330 at hf
    refine mx_S.pu (pc2 := 332) (lv2 := [(0, .ref l0), (1, .int l1), (3, .int l3), (4, .int l4), (5, .int l5)]) (st2 := [.int l5]) hm dX13_tokenize_330 rfl ?_
    refine mx_S.pu (pc2 := 333) (lv2 := [(0, .ref l0), (1, .int l1), (3, .int l3), (4, .int l4), (5, .int l5)]) (st2 := [.int l3, .int l5]) hm dX13_tokenize_332 rfl ?_
    rcases mx_if_el hf with ⟨c29, hf⟩ | ⟨c29, hf⟩
    · refine sb_ic_ge hm dX13_tokenize_333 (tgt := 360) rfl (fun _ => ?_) (fun z => absurd c29 z)
      refine mx_S.pu (pc2 := 361) (lv2 := [(0, .ref l0), (1, .int l1), (3, .int l3), (4, .int l4), (5, .int l5)]) (st2 := [.ref l0]) hm dX13_tokenize_360 rfl ?_
      refine mx_S.pu (pc2 := 362) (lv2 := [(0, .ref l0), (1, .int l1), (3, .int l3), (4, .int l4), (5, .int l5)]) (st2 := [.int l3, .ref l0]) hm dX13_tokenize_361 rfl ?_
      rcases mx_if_el hf with ⟨c22, hf⟩ | ⟨c22, hf⟩
      · refine sb_if_le hm dX13_tokenize_362 (tgt := 369) rfl (fun _ => ?_) (fun z => absurd c22 z)
        refine sx_bi (v := 6) hm dX13_tokenize_369 (by decide) ?_
        refine mx_S.ext [(0, .ref l0), (1, .int l1), (3, .int l3), (4, .int l4)] (mx_sub_pos [0, 1, 2, 3] rfl (show ([0, 1, 3, 4, 5] : List Nat).Nodup by decide)) ?_
        exact j_X13_tokenize_371_ok X hF hL nn hk_7 l0 l1 l3 l4 6 l0 h hf
      · refine sb_if_le hm dX13_tokenize_362 (tgt := 369) rfl (fun z => absurd z c22) (fun _ => ?_)
        refine sx_ic (v := 4) hm dX13_tokenize_365 (by decide) ?_
        refine mx_S.pu (pc2 := 371) (lv2 := [(0, .ref l0), (1, .int l1), (3, .int l3), (4, .int l4), (5, .int l5)]) (st2 := [.int 4, .ref l0]) hm dX13_tokenize_366 rfl ?_
        refine mx_S.ext [(0, .ref l0), (1, .int l1), (3, .int l3), (4, .int l4)] (mx_sub_pos [0, 1, 2, 3] rfl (show ([0, 1, 3, 4, 5] : List Nat).Nodup by decide)) ?_
        exact j_X13_tokenize_371_ok X hF hL nn hk_7 l0 l1 l3 l4 4 l0 h hf
    · refine sb_ic_ge hm dX13_tokenize_333 (tgt := 360) rfl (fun z => absurd z c29) (fun _ => ?_)
      refine sx_si (v := 128) hm dX13_tokenize_336 (by decide) ?_
      refine mx_S.pu (pc2 := 341) (lv2 := [(0, .ref l0), (1, .int l1), (3, .int l3), (4, .int l4), (5, .int l5)]) (st2 := [.int l4, .int 128]) hm dX13_tokenize_339 rfl ?_
      replace hf := xl_el hf; obtain ⟨v23, e_v23, hf⟩ := hf
      refine mx_S.pu (pc2 := 342) (lv2 := [(0, .ref l0), (1, .int l1), (3, .int l3), (4, .int l4), (5, .int l5)]) (st2 := [.int v23]) hm dX13_tokenize_341 (by rw [← e_v23]; rfl) ?_
      clear e_v23
      refine mx_S.pu (pc2 := 343) (lv2 := [(0, .ref l0), (1, .int l1), (3, .int l3), (4, .int l4), (5, .int l5)]) (st2 := [.ref l0, .int v23]) hm dX13_tokenize_342 rfl ?_
      replace hf := mx_sv_el hf; obtain ⟨v24, e_v24, hf⟩ := hf
      refine sx_get hm dX13_tokenize_343 rs_RX13_13 (xgr_el e_v24) ?_
      clear e_v24
      refine mx_S.pu (pc2 := 347) (lv2 := [(0, .ref l0), (1, .int l1), (3, .int l3), (4, .int l4), (5, .int l5)]) (st2 := [.int l1, .ref v24, .int v23]) hm dX13_tokenize_346 rfl ?_
      refine mx_S.pu (pc2 := 349) (lv2 := [(0, .ref l0), (1, .int l1), (3, .int l3), (4, .int l4), (5, .int l5)]) (st2 := [.int l5, .int l1, .ref v24, .int v23]) hm dX13_tokenize_347 rfl ?_
      replace hf := xl_el hf; obtain ⟨v25, e_v25, hf⟩ := hf
      refine mx_S.pu (pc2 := 350) (lv2 := [(0, .ref l0), (1, .int l1), (3, .int l3), (4, .int l4), (5, .int l5)]) (st2 := [.int v25, .ref v24, .int v23]) hm dX13_tokenize_349 (by rw [← e_v25]; rfl) ?_
      clear e_v25
      replace hf := mx_sv_el hf; obtain ⟨v26, e_v26, hf⟩ := hf
      refine sx_ald hm dX13_tokenize_350 e_v26 ?_
      clear e_v26
      replace hf := xl_el hf; obtain ⟨v27, e_v27, hf⟩ := hf
      refine mx_S.pu (pc2 := 352) (lv2 := [(0, .ref l0), (1, .int l1), (3, .int l3), (4, .int l4), (5, .int l5)]) (st2 := [.int v27]) hm dX13_tokenize_351 (by rw [← e_v27]; rfl) ?_
      clear e_v27
      refine mx_S.pu (pc2 := 354) (lv2 := [(4, .int v27), (0, .ref l0), (1, .int l1), (3, .int l3), (5, .int l5)]) (st2 := []) hm dX13_tokenize_352 rfl ?_
      replace hf := xl_el hf; obtain ⟨v28, e_v28, hf⟩ := hf
      refine mx_S.pu (pc2 := 357) (lv2 := [(5, .int v28), (4, .int v27), (0, .ref l0), (1, .int l1), (3, .int l3)]) (st2 := []) hm dX13_tokenize_354 (by rw [← e_v28]; rfl) ?_
      clear e_v28
      refine mx_S.pu (pc2 := 330) (lv2 := [(5, .int v28), (4, .int v27), (0, .ref l0), (1, .int l1), (3, .int l3)]) (st2 := []) hm dX13_tokenize_357 rfl ?_
      refine mx_S.ext [(0, .ref l0), (1, .int l1), (3, .int l3), (4, .int v27), (5, .int v28)] (mx_sub_pos [2, 3, 4, 1, 0] rfl (show ([5, 4, 0, 1, 3] : List Nat).Nodup by decide)) ?_
      exact ih l0 l1 l3 v27 v28 h _ hf
set_option maxHeartbeats 4000000 in
set_option maxRecDepth 20000 in
theorem j_X13_tokenize_307_ok (X : Nat × (Nat → Int32)) {F L : Nat} (hF : 5 ≤ F) (hL : 112 ≤ L) (nn : Nat) {kk_7 : Nat → Int32 → mx_H → Option mx_H} (hk_7 : ∀ (l0 : Nat) (l1 : Int32) (h : mx_H) (r : mx_H), kk_7 l0 l1 h = some r → mx_S X F L 390 7 [(0, .ref l0), (1, .int l1)] [] h 0 0 (none, r, 0, 0)) (l0 : Nat) (l1 : Int32) (l3 : Int32) (l4 : Int64) (s0 : Int32) (s1 : Nat) (h : mx_H) {r : mx_H} (hf : j_X13_tokenize_307 nn kk_7 l0 l1 l3 l4 s0 s1 h = some r) : mx_S X F L 390 307 [(0, .ref l0), (1, .int l1), (3, .int l3), (4, .long l4)] [.int s0, .ref s1] h 0 0 (none, r, 0, 0) := by
  have hm : mx_mt 390 = some (yX13_tokenize, cX13_tokenize, 7, none) := mt_X13_tokenize
  unfold j_X13_tokenize_307 at hf
  refine mx_S.pu (pc2 := 308) (lv2 := [(0, .ref l0), (1, .int l1), (3, .int l3), (4, .long l4)]) (st2 := [.int l1, .int s0, .ref s1]) hm dX13_tokenize_307 rfl ?_
  refine mx_S.pu (pc2 := 309) (lv2 := [(0, .ref l0), (1, .int l1), (3, .int l3), (4, .long l4)]) (st2 := [.int l3, .int l1, .int s0, .ref s1]) hm dX13_tokenize_308 rfl ?_
  refine mx_S.pu (pc2 := 311) (lv2 := [(0, .ref l0), (1, .int l1), (3, .int l3), (4, .long l4)]) (st2 := [.long l4, .int l3, .int l1, .int s0, .ref s1]) hm dX13_tokenize_309 rfl ?_
  replace hf := xl_el hf; obtain ⟨v30, e_v30, hf⟩ := hf
  refine mx_S.pu (pc2 := 312) (lv2 := [(0, .ref l0), (1, .int l1), (3, .int l3), (4, .long l4)]) (st2 := [.int v30, .int l3, .int l1, .int s0, .ref s1]) hm dX13_tokenize_311 (by rw [← e_v30]; rfl) ?_
  clear e_v30
  replace hf := mx_gd_el hf; obtain ⟨c31, hf⟩ := hf
  replace hf := mx_sv_el hf; obtain ⟨u32, e_u32, hf⟩ := hf
  refine sx_cv hm dX13_tokenize_312 rs_RX13_358 mt_X13_token [.int s0, .int l1, .int l3, .int v30] [] (b := s1) (ci := 13) rfl rfl rfl c31 (Nat.le_of_ble_eq_true rfl) (Nat.le_of_ble_eq_true rfl) (by omega) (by omega) (f_X13_token_ok X (by omega) (by omega) nn s1 s0 l1 l3 v30 h e_u32) ?_
  clear e_u32
  show mx_S X F L 390 315 [(0, .ref l0), (1, .int l1), (3, .int l3), (4, .long l4)] [] u32 0 0 (none, r, 0, 0)
  refine mx_S.pu (pc2 := 378) (lv2 := [(0, .ref l0), (1, .int l1), (3, .int l3), (4, .long l4)]) (st2 := []) hm dX13_tokenize_315 rfl ?_
  refine mx_S.ext [(0, .ref l0), (1, .int l1), (3, .int l3)] (mx_sub_pos [0, 1, 2] rfl (show ([0, 1, 3, 4] : List Nat).Nodup by decide)) ?_
  exact j_X13_tokenize_378_ok X hF hL nn hk_7 l0 l1 l3 u32 hf
set_option maxHeartbeats 4000000 in
set_option maxRecDepth 20000 in
theorem j_X13_tokenize_293_ok (X : Nat × (Nat → Int32)) {F L : Nat} (hF : 5 ≤ F) (hL : 112 ≤ L) (nn : Nat) {kk_7 : Nat → Int32 → mx_H → Option mx_H} (hk_7 : ∀ (l0 : Nat) (l1 : Int32) (h : mx_H) (r : mx_H), kk_7 l0 l1 h = some r → mx_S X F L 390 7 [(0, .ref l0), (1, .int l1)] [] h 0 0 (none, r, 0, 0)) (l0 : Nat) (l1 : Int32) (l3 : Int32) (l4 : Int64) (s0 : Int32) (h : mx_H) {r : mx_H} (hf : j_X13_tokenize_293 nn kk_7 l0 l1 l3 l4 s0 h = some r) : mx_S X F L 390 293 [(0, .ref l0), (1, .int l1), (3, .int l3), (4, .long l4)] [.int s0] h 0 0 (none, r, 0, 0) := by
  have hm : mx_mt 390 = some (yX13_tokenize, cX13_tokenize, 7, none) := mt_X13_tokenize
  unfold j_X13_tokenize_293 at hf
  refine mx_S.pu (pc2 := 295) (lv2 := [(6, .int s0), (0, .ref l0), (1, .int l1), (3, .int l3), (4, .long l4)]) (st2 := []) hm dX13_tokenize_293 rfl ?_
  refine mx_S.pu (pc2 := 296) (lv2 := [(6, .int s0), (0, .ref l0), (1, .int l1), (3, .int l3), (4, .long l4)]) (st2 := [.ref l0]) hm dX13_tokenize_295 rfl ?_
  refine mx_S.pu (pc2 := 298) (lv2 := [(6, .int s0), (0, .ref l0), (1, .int l1), (3, .int l3), (4, .long l4)]) (st2 := [.int s0, .ref l0]) hm dX13_tokenize_296 rfl ?_
  rcases mx_if_el hf with ⟨c33, hf⟩ | ⟨c33, hf⟩
  · refine sb_if_eq hm dX13_tokenize_298 (tgt := 305) rfl (fun _ => ?_) (fun z => absurd c33 z)
    refine sx_bi (v := 6) hm dX13_tokenize_305 (by decide) ?_
    refine mx_S.ext [(0, .ref l0), (1, .int l1), (3, .int l3), (4, .long l4)] (mx_sub_pos [1, 2, 3, 4] rfl (show ([6, 0, 1, 3, 4] : List Nat).Nodup by decide)) ?_
    exact j_X13_tokenize_307_ok X hF hL nn hk_7 l0 l1 l3 l4 6 l0 h hf
  · refine sb_if_eq hm dX13_tokenize_298 (tgt := 305) rfl (fun z => absurd z c33) (fun _ => ?_)
    refine sx_ic (v := 2) hm dX13_tokenize_301 (by decide) ?_
    refine mx_S.pu (pc2 := 307) (lv2 := [(6, .int s0), (0, .ref l0), (1, .int l1), (3, .int l3), (4, .long l4)]) (st2 := [.int 2, .ref l0]) hm dX13_tokenize_302 rfl ?_
    refine mx_S.ext [(0, .ref l0), (1, .int l1), (3, .int l3), (4, .long l4)] (mx_sub_pos [1, 2, 3, 4] rfl (show ([6, 0, 1, 3, 4] : List Nat).Nodup by decide)) ?_
    exact j_X13_tokenize_307_ok X hF hL nn hk_7 l0 l1 l3 l4 2 l0 h hf
set_option maxHeartbeats 4000000 in
set_option maxRecDepth 20000 in
theorem j_X13_tokenize_292_ok (X : Nat × (Nat → Int32)) {F L : Nat} (hF : 5 ≤ F) (hL : 112 ≤ L) (nn : Nat) {kk_7 : Nat → Int32 → mx_H → Option mx_H} (hk_7 : ∀ (l0 : Nat) (l1 : Int32) (h : mx_H) (r : mx_H), kk_7 l0 l1 h = some r → mx_S X F L 390 7 [(0, .ref l0), (1, .int l1)] [] h 0 0 (none, r, 0, 0)) (l0 : Nat) (l1 : Int32) (l3 : Int32) (l4 : Int64) (h : mx_H) {r : mx_H} (hf : j_X13_tokenize_292 nn kk_7 l0 l1 l3 l4 h = some r) : mx_S X F L 390 292 [(0, .ref l0), (1, .int l1), (3, .int l3), (4, .long l4)] [] h 0 0 (none, r, 0, 0) := by
  have hm : mx_mt 390 = some (yX13_tokenize, cX13_tokenize, 7, none) := mt_X13_tokenize
  unfold j_X13_tokenize_292 at hf
  refine sx_ic (v := 0) hm dX13_tokenize_292 (by decide) ?_
  exact j_X13_tokenize_293_ok X hF hL nn hk_7 l0 l1 l3 l4 0 h hf
set_option maxHeartbeats 4000000 in
set_option maxRecDepth 20000 in
theorem j_X13_tokenize_263_ok (X : Nat × (Nat → Int32)) {F L : Nat} (hF : 5 ≤ F) (hL : 112 ≤ L) (nn : Nat) {kk_7 : Nat → Int32 → mx_H → Option mx_H} (hk_7 : ∀ (l0 : Nat) (l1 : Int32) (h : mx_H) (r : mx_H), kk_7 l0 l1 h = some r → mx_S X F L 390 7 [(0, .ref l0), (1, .int l1)] [] h 0 0 (none, r, 0, 0)) (l0 : Nat) (l1 : Int32) (l3 : Int32) (l4 : Int64) (h : mx_H) {r : mx_H} (hf : j_X13_tokenize_263 nn kk_7 l0 l1 l3 l4 h = some r) : mx_S X F L 390 263 [(0, .ref l0), (1, .int l1), (3, .int l3), (4, .long l4)] [] h 0 0 (none, r, 0, 0) := by
  have hm : mx_mt 390 = some (yX13_tokenize, cX13_tokenize, 7, none) := mt_X13_tokenize
  unfold j_X13_tokenize_263 at hf
  refine mx_S.pu (pc2 := 264) (lv2 := [(0, .ref l0), (1, .int l1), (3, .int l3), (4, .long l4)]) (st2 := [.ref l0]) hm dX13_tokenize_263 rfl ?_
  refine mx_S.pu (pc2 := 265) (lv2 := [(0, .ref l0), (1, .int l1), (3, .int l3), (4, .long l4)]) (st2 := [.int l1, .ref l0]) hm dX13_tokenize_264 rfl ?_
  refine mx_S.pu (pc2 := 266) (lv2 := [(0, .ref l0), (1, .int l1), (3, .int l3), (4, .long l4)]) (st2 := [.int l3, .int l1, .ref l0]) hm dX13_tokenize_265 rfl ?_
  replace hf := xl_el hf; obtain ⟨v34, e_v34, hf⟩ := hf
  refine mx_S.pu (pc2 := 267) (lv2 := [(0, .ref l0), (1, .int l1), (3, .int l3), (4, .long l4)]) (st2 := [.int v34, .ref l0]) hm dX13_tokenize_266 (by rw [← e_v34]; rfl) ?_
  clear e_v34
  replace hf := mx_gd_el hf; obtain ⟨c35, hf⟩ := hf
  replace hf := mx_sv_el hf; obtain ⟨u36, e_u36, hf⟩ := hf
  refine sx_cv hm dX13_tokenize_267 rs_RX13_341 mt_X13_at [.int v34] [] (b := l0) (ci := 13) rfl rfl rfl c35 (Nat.le_of_ble_eq_true rfl) (Nat.le_of_ble_eq_true rfl) (by omega) (by omega) (f_X13_at_ok X (by omega) (by omega) nn l0 v34 h e_u36) ?_
  clear e_u36
  show mx_S X F L 390 270 [(0, .ref l0), (1, .int l1), (3, .int l3), (4, .long l4)] [.int u36.1] u36.2 0 0 (none, r, 0, 0)
  replace hf := mx_sv_el hf; obtain ⟨u37, e_u37, hf⟩ := hf
  refine sx_cs hm dX13_tokenize_270 rs_RX13_345 mt_X13_isLetter [.int u36.1] [] rfl rfl (Nat.le_of_ble_eq_true rfl) (Nat.le_of_ble_eq_true rfl) (by omega) (by omega) (f_X13_isLetter_ok X (by omega) (by omega) nn u36.1 u36.2 e_u37) ?_
  clear e_u37
  show mx_S X F L 390 273 [(0, .ref l0), (1, .int l1), (3, .int l3), (4, .long l4)] [.int u37.1] u37.2 0 0 (none, r, 0, 0)
  rcases mx_if_el hf with ⟨c42, hf⟩ | ⟨c42, hf⟩
  · refine sb_if_ne hm dX13_tokenize_273 (tgt := 292) rfl (fun _ => ?_) (fun z => absurd c42 z)
    exact j_X13_tokenize_292_ok X hF hL nn hk_7 l0 l1 l3 l4 u37.2 hf
  · refine sb_if_ne hm dX13_tokenize_273 (tgt := 292) rfl (fun z => absurd z c42) (fun _ => ?_)
    refine mx_S.pu (pc2 := 277) (lv2 := [(0, .ref l0), (1, .int l1), (3, .int l3), (4, .long l4)]) (st2 := [.ref l0]) hm dX13_tokenize_276 rfl ?_
    refine mx_S.pu (pc2 := 278) (lv2 := [(0, .ref l0), (1, .int l1), (3, .int l3), (4, .long l4)]) (st2 := [.int l1, .ref l0]) hm dX13_tokenize_277 rfl ?_
    refine mx_S.pu (pc2 := 279) (lv2 := [(0, .ref l0), (1, .int l1), (3, .int l3), (4, .long l4)]) (st2 := [.int l3, .int l1, .ref l0]) hm dX13_tokenize_278 rfl ?_
    replace hf := xl_el hf; obtain ⟨v38, e_v38, hf⟩ := hf
    refine mx_S.pu (pc2 := 280) (lv2 := [(0, .ref l0), (1, .int l1), (3, .int l3), (4, .long l4)]) (st2 := [.int v38, .ref l0]) hm dX13_tokenize_279 (by rw [← e_v38]; rfl) ?_
    clear e_v38
    replace hf := mx_gd_el hf; obtain ⟨c39, hf⟩ := hf
    replace hf := mx_sv_el hf; obtain ⟨u40, e_u40, hf⟩ := hf
    refine sx_cv hm dX13_tokenize_280 rs_RX13_341 mt_X13_at [.int v38] [] (b := l0) (ci := 13) rfl rfl rfl c39 (Nat.le_of_ble_eq_true rfl) (Nat.le_of_ble_eq_true rfl) (by omega) (by omega) (f_X13_at_ok X (by omega) (by omega) nn l0 v38 u37.2 e_u40) ?_
    clear e_u40
    show mx_S X F L 390 283 [(0, .ref l0), (1, .int l1), (3, .int l3), (4, .long l4)] [.int u40.1] u40.2 0 0 (none, r, 0, 0)
    refine sx_bi (v := 95) hm dX13_tokenize_283 (by decide) ?_
    rcases mx_if_el hf with ⟨c41, hf⟩ | ⟨c41, hf⟩
    · refine sb_ic_eq hm dX13_tokenize_285 (tgt := 292) rfl (fun _ => ?_) (fun z => absurd c41 z)
      exact j_X13_tokenize_292_ok X hF hL nn hk_7 l0 l1 l3 l4 u40.2 hf
    · refine sb_ic_eq hm dX13_tokenize_285 (tgt := 292) rfl (fun z => absurd z c41) (fun _ => ?_)
      refine sx_ic (v := 1) hm dX13_tokenize_288 (by decide) ?_
      refine mx_S.pu (pc2 := 293) (lv2 := [(0, .ref l0), (1, .int l1), (3, .int l3), (4, .long l4)]) (st2 := [.int 1]) hm dX13_tokenize_289 rfl ?_
      exact j_X13_tokenize_293_ok X hF hL nn hk_7 l0 l1 l3 l4 1 u40.2 hf
set_option maxHeartbeats 4000000 in
set_option maxRecDepth 20000 in
theorem w_X13_tokenize_189_ok (X : Nat × (Nat → Int32)) {F L : Nat} (hF : 5 ≤ F) (hL : 112 ≤ L) (nn : Nat) {kk_7 : Nat → Int32 → mx_H → Option mx_H} (hk_7 : ∀ (l0 : Nat) (l1 : Int32) (h : mx_H) (r : mx_H), kk_7 l0 l1 h = some r → mx_S X F L 390 7 [(0, .ref l0), (1, .int l1)] [] h 0 0 (none, r, 0, 0)) : ∀ (k : Nat) (l0 : Nat) (l1 : Int32) (l2 : Int32) (l3 : Int32) (l4 : Int64) (h : mx_H) (r : mx_H), w_X13_tokenize_189 nn kk_7 k l0 l1 l2 l3 l4 h = some r → mx_S X F L 390 189 [(0, .ref l0), (1, .int l1), (2, .int l2), (3, .int l3), (4, .long l4)] [] h 0 0 (none, r, 0, 0) := by
  have hm : mx_mt 390 = some (yX13_tokenize, cX13_tokenize, 7, none) := mt_X13_tokenize
  intro k
  induction k with
  | zero => intro l0 l1 l2 l3 l4 h r hf; cases hf
  | succ k ih =>
    intro l0 l1 l2 l3 l4 h r hf
    unfold w_X13_tokenize_189 at hf
    refine mx_S.pu (pc2 := 190) (lv2 := [(0, .ref l0), (1, .int l1), (2, .int l2), (3, .int l3), (4, .long l4)]) (st2 := [.ref l0]) hm dX13_tokenize_189 rfl ?_
    refine mx_S.pu (pc2 := 191) (lv2 := [(0, .ref l0), (1, .int l1), (2, .int l2), (3, .int l3), (4, .long l4)]) (st2 := [.int l1, .ref l0]) hm dX13_tokenize_190 rfl ?_
    refine mx_S.pu (pc2 := 192) (lv2 := [(0, .ref l0), (1, .int l1), (2, .int l2), (3, .int l3), (4, .long l4)]) (st2 := [.int l3, .int l1, .ref l0]) hm dX13_tokenize_191 rfl ?_
    replace hf := xl_el hf; obtain ⟨v43, e_v43, hf⟩ := hf
    refine mx_S.pu (pc2 := 193) (lv2 := [(0, .ref l0), (1, .int l1), (2, .int l2), (3, .int l3), (4, .long l4)]) (st2 := [.int v43, .ref l0]) hm dX13_tokenize_192 (by rw [← e_v43]; rfl) ?_
    clear e_v43
    replace hf := mx_gd_el hf; obtain ⟨c44, hf⟩ := hf
    replace hf := mx_sv_el hf; obtain ⟨u45, e_u45, hf⟩ := hf
    refine sx_cv hm dX13_tokenize_193 rs_RX13_341 mt_X13_at [.int v43] [] (b := l0) (ci := 13) rfl rfl rfl c44 (Nat.le_of_ble_eq_true rfl) (Nat.le_of_ble_eq_true rfl) (by omega) (by omega) (f_X13_at_ok X (by omega) (by omega) nn l0 v43 h e_u45) ?_
    clear e_u45
    show mx_S X F L 390 196 [(0, .ref l0), (1, .int l1), (2, .int l2), (3, .int l3), (4, .long l4)] [.int u45.1] u45.2 0 0 (none, r, 0, 0)
    replace hf := mx_sv_el hf; obtain ⟨u46, e_u46, hf⟩ := hf
    refine sx_cs hm dX13_tokenize_196 rs_RX13_349 mt_X13_isDigit [.int u45.1] [] rfl rfl (Nat.le_of_ble_eq_true rfl) (Nat.le_of_ble_eq_true rfl) (by omega) (by omega) (f_X13_isDigit_ok X (by omega) (by omega) nn u45.1 u45.2 e_u46) ?_
    clear e_u46
    show mx_S X F L 390 199 [(0, .ref l0), (1, .int l1), (2, .int l2), (3, .int l3), (4, .long l4)] [.int u46.1] u46.2 0 0 (none, r, 0, 0)
    rcases mx_if_el hf with ⟨c62, hf⟩ | ⟨c62, hf⟩
    · refine sb_if_eq hm dX13_tokenize_199 (tgt := 243) rfl (fun _ => ?_) (fun z => absurd c62 z)
      refine mx_S.pu (pc2 := 245) (lv2 := [(0, .ref l0), (1, .int l1), (2, .int l2), (3, .int l3), (4, .long l4)]) (st2 := [.long l4]) hm dX13_tokenize_243 rfl ?_
      refine sx_ldc2 hm dX13_tokenize_245 rs_RX13_368 ?_
      replace hf := xl_el hf; obtain ⟨v47, e_v47, hf⟩ := hf
      refine mx_S.pu (pc2 := 249) (lv2 := [(0, .ref l0), (1, .int l1), (2, .int l2), (3, .int l3), (4, .long l4)]) (st2 := [.int v47]) hm dX13_tokenize_248 (by rw [← e_v47]; rfl) ?_
      clear e_v47
      rcases mx_if_el hf with ⟨c50, hf⟩ | ⟨c50, hf⟩
      · refine sb_if_gt hm dX13_tokenize_249 (tgt := 292) rfl (fun _ => ?_) (fun z => absurd c50 z)
        refine mx_S.ext [(0, .ref l0), (1, .int l1), (3, .int l3), (4, .long l4)] (mx_sub_pos [0, 1, 3, 4] rfl (show ([0, 1, 2, 3, 4] : List Nat).Nodup by decide)) ?_
        exact j_X13_tokenize_292_ok X hF hL nn hk_7 l0 l1 l3 l4 u46.2 hf
      · refine sb_if_gt hm dX13_tokenize_249 (tgt := 292) rfl (fun z => absurd z c50) (fun _ => ?_)
        refine mx_S.pu (pc2 := 253) (lv2 := [(0, .ref l0), (1, .int l1), (2, .int l2), (3, .int l3), (4, .long l4)]) (st2 := [.int l3]) hm dX13_tokenize_252 rfl ?_
        refine sx_ic (v := 1) hm dX13_tokenize_253 (by decide) ?_
        rcases mx_if_el hf with ⟨c49, hf⟩ | ⟨c49, hf⟩
        · refine sb_ic_eq hm dX13_tokenize_254 (tgt := 263) rfl (fun _ => ?_) (fun z => absurd c49 z)
          refine mx_S.ext [(0, .ref l0), (1, .int l1), (3, .int l3), (4, .long l4)] (mx_sub_pos [0, 1, 3, 4] rfl (show ([0, 1, 2, 3, 4] : List Nat).Nodup by decide)) ?_
          exact j_X13_tokenize_263_ok X hF hL nn hk_7 l0 l1 l3 l4 u46.2 hf
        · refine sb_ic_eq hm dX13_tokenize_254 (tgt := 263) rfl (fun z => absurd z c49) (fun _ => ?_)
          refine mx_S.pu (pc2 := 258) (lv2 := [(0, .ref l0), (1, .int l1), (2, .int l2), (3, .int l3), (4, .long l4)]) (st2 := [.int l2]) hm dX13_tokenize_257 rfl ?_
          refine sx_bi (v := 48) hm dX13_tokenize_258 (by decide) ?_
          rcases mx_if_el hf with ⟨c48, hf⟩ | ⟨c48, hf⟩
          · refine sb_ic_eq hm dX13_tokenize_260 (tgt := 292) rfl (fun _ => ?_) (fun z => absurd c48 z)
            refine mx_S.ext [(0, .ref l0), (1, .int l1), (3, .int l3), (4, .long l4)] (mx_sub_pos [0, 1, 3, 4] rfl (show ([0, 1, 2, 3, 4] : List Nat).Nodup by decide)) ?_
            exact j_X13_tokenize_292_ok X hF hL nn hk_7 l0 l1 l3 l4 u46.2 hf
          · refine sb_ic_eq hm dX13_tokenize_260 (tgt := 292) rfl (fun z => absurd z c48) (fun _ => ?_)
            refine mx_S.ext [(0, .ref l0), (1, .int l1), (3, .int l3), (4, .long l4)] (mx_sub_pos [0, 1, 3, 4] rfl (show ([0, 1, 2, 3, 4] : List Nat).Nodup by decide)) ?_
            exact j_X13_tokenize_263_ok X hF hL nn hk_7 l0 l1 l3 l4 u46.2 hf
    · refine sb_if_eq hm dX13_tokenize_199 (tgt := 243) rfl (fun z => absurd z c62) (fun _ => ?_)
      refine mx_S.pu (pc2 := 204) (lv2 := [(0, .ref l0), (1, .int l1), (2, .int l2), (3, .int l3), (4, .long l4)]) (st2 := [.long l4]) hm dX13_tokenize_202 rfl ?_
      refine sx_ldc2 hm dX13_tokenize_204 rs_RX13_362 ?_
      replace hf := xl_el hf; obtain ⟨v51, e_v51, hf⟩ := hf
      refine mx_S.pu (pc2 := 208) (lv2 := [(0, .ref l0), (1, .int l1), (2, .int l2), (3, .int l3), (4, .long l4)]) (st2 := [.int v51]) hm dX13_tokenize_207 (by rw [← e_v51]; rfl) ?_
      clear e_v51
      rcases mx_if_el hf with ⟨c61, hf⟩ | ⟨c61, hf⟩
      · refine sb_if_le hm dX13_tokenize_208 (tgt := 216) rfl (fun _ => ?_) (fun z => absurd c61 z)
        refine sx_ldc2 hm dX13_tokenize_216 rs_RX13_364 ?_
        refine mx_S.pu (pc2 := 221) (lv2 := [(0, .ref l0), (1, .int l1), (2, .int l2), (3, .int l3), (4, .long l4)]) (st2 := [.long l4, .long (Int64.ofNat 10)]) hm dX13_tokenize_219 rfl ?_
        replace hf := xl_el hf; obtain ⟨v52, e_v52, hf⟩ := hf
        refine mx_S.pu (pc2 := 222) (lv2 := [(0, .ref l0), (1, .int l1), (2, .int l2), (3, .int l3), (4, .long l4)]) (st2 := [.long v52]) hm dX13_tokenize_221 (by rw [← e_v52]; rfl) ?_
        clear e_v52
        refine mx_S.pu (pc2 := 223) (lv2 := [(0, .ref l0), (1, .int l1), (2, .int l2), (3, .int l3), (4, .long l4)]) (st2 := [.ref l0, .long v52]) hm dX13_tokenize_222 rfl ?_
        refine mx_S.pu (pc2 := 224) (lv2 := [(0, .ref l0), (1, .int l1), (2, .int l2), (3, .int l3), (4, .long l4)]) (st2 := [.int l1, .ref l0, .long v52]) hm dX13_tokenize_223 rfl ?_
        refine mx_S.pu (pc2 := 225) (lv2 := [(0, .ref l0), (1, .int l1), (2, .int l2), (3, .int l3), (4, .long l4)]) (st2 := [.int l3, .int l1, .ref l0, .long v52]) hm dX13_tokenize_224 rfl ?_
        replace hf := xl_el hf; obtain ⟨v53, e_v53, hf⟩ := hf
        refine mx_S.pu (pc2 := 226) (lv2 := [(0, .ref l0), (1, .int l1), (2, .int l2), (3, .int l3), (4, .long l4)]) (st2 := [.int v53, .ref l0, .long v52]) hm dX13_tokenize_225 (by rw [← e_v53]; rfl) ?_
        clear e_v53
        replace hf := mx_gd_el hf; obtain ⟨c54, hf⟩ := hf
        replace hf := mx_sv_el hf; obtain ⟨u55, e_u55, hf⟩ := hf
        refine sx_cv hm dX13_tokenize_226 rs_RX13_341 mt_X13_at [.int v53] [.long v52] (b := l0) (ci := 13) rfl rfl rfl c54 (Nat.le_of_ble_eq_true rfl) (Nat.le_of_ble_eq_true rfl) (by omega) (by omega) (f_X13_at_ok X (by omega) (by omega) nn l0 v53 u46.2 e_u55) ?_
        clear e_u55
        show mx_S X F L 390 229 [(0, .ref l0), (1, .int l1), (2, .int l2), (3, .int l3), (4, .long l4)] [.int u55.1, .long v52] u55.2 0 0 (none, r, 0, 0)
        replace hf := xl_el hf; obtain ⟨v56, e_v56, hf⟩ := hf
        refine mx_S.pu (pc2 := 230) (lv2 := [(0, .ref l0), (1, .int l1), (2, .int l2), (3, .int l3), (4, .long l4)]) (st2 := [.long v56, .long v52]) hm dX13_tokenize_229 (by rw [← e_v56]; rfl) ?_
        clear e_v56
        replace hf := xl_el hf; obtain ⟨v57, e_v57, hf⟩ := hf
        refine mx_S.pu (pc2 := 231) (lv2 := [(0, .ref l0), (1, .int l1), (2, .int l2), (3, .int l3), (4, .long l4)]) (st2 := [.long v57]) hm dX13_tokenize_230 (by rw [← e_v57]; rfl) ?_
        clear e_v57
        refine sx_ldc2 hm dX13_tokenize_231 rs_RX13_366 ?_
        replace hf := xl_el hf; obtain ⟨v58, e_v58, hf⟩ := hf
        refine mx_S.pu (pc2 := 235) (lv2 := [(0, .ref l0), (1, .int l1), (2, .int l2), (3, .int l3), (4, .long l4)]) (st2 := [.long v58]) hm dX13_tokenize_234 (by rw [← e_v58]; rfl) ?_
        clear e_v58
        refine mx_S.pu (pc2 := 237) (lv2 := [(4, .long v58), (0, .ref l0), (1, .int l1), (2, .int l2), (3, .int l3)]) (st2 := []) hm dX13_tokenize_235 rfl ?_
        replace hf := xl_el hf; obtain ⟨v59, e_v59, hf⟩ := hf
        refine mx_S.pu (pc2 := 240) (lv2 := [(3, .int v59), (4, .long v58), (0, .ref l0), (1, .int l1), (2, .int l2)]) (st2 := []) hm dX13_tokenize_237 (by rw [← e_v59]; rfl) ?_
        clear e_v59
        refine mx_S.pu (pc2 := 189) (lv2 := [(3, .int v59), (4, .long v58), (0, .ref l0), (1, .int l1), (2, .int l2)]) (st2 := []) hm dX13_tokenize_240 rfl ?_
        refine mx_S.ext [(0, .ref l0), (1, .int l1), (2, .int l2), (3, .int v59), (4, .long v58)] (mx_sub_pos [2, 3, 4, 0, 1] rfl (show ([3, 4, 0, 1, 2] : List Nat).Nodup by decide)) ?_
        exact ih l0 l1 l2 v59 v58 u55.2 _ hf
      · refine sb_if_le hm dX13_tokenize_208 (tgt := 216) rfl (fun z => absurd z c61) (fun _ => ?_)
        refine mx_S.pu (pc2 := 213) (lv2 := [(0, .ref l0), (1, .int l1), (2, .int l2), (3, .int l3), (4, .long l4)]) (st2 := [.long l4]) hm dX13_tokenize_211 rfl ?_
        refine mx_S.pu (pc2 := 235) (lv2 := [(0, .ref l0), (1, .int l1), (2, .int l2), (3, .int l3), (4, .long l4)]) (st2 := [.long l4]) hm dX13_tokenize_213 rfl ?_
        refine mx_S.pu (pc2 := 237) (lv2 := [(4, .long l4), (0, .ref l0), (1, .int l1), (2, .int l2), (3, .int l3)]) (st2 := []) hm dX13_tokenize_235 rfl ?_
        replace hf := xl_el hf; obtain ⟨v60, e_v60, hf⟩ := hf
        refine mx_S.pu (pc2 := 240) (lv2 := [(3, .int v60), (4, .long l4), (0, .ref l0), (1, .int l1), (2, .int l2)]) (st2 := []) hm dX13_tokenize_237 (by rw [← e_v60]; rfl) ?_
        clear e_v60
        refine mx_S.pu (pc2 := 189) (lv2 := [(3, .int v60), (4, .long l4), (0, .ref l0), (1, .int l1), (2, .int l2)]) (st2 := []) hm dX13_tokenize_240 rfl ?_
        refine mx_S.ext [(0, .ref l0), (1, .int l1), (2, .int l2), (3, .int v60), (4, .long l4)] (mx_sub_pos [2, 3, 4, 0, 1] rfl (show ([3, 4, 0, 1, 2] : List Nat).Nodup by decide)) ?_
        exact ih l0 l1 l2 v60 l4 u46.2 _ hf
set_option maxHeartbeats 4000000 in
set_option maxRecDepth 20000 in
theorem j_X13_tokenize_169_ok (X : Nat × (Nat → Int32)) {F L : Nat} (hF : 5 ≤ F) (hL : 112 ≤ L) (nn : Nat) {kk_7 : Nat → Int32 → mx_H → Option mx_H} (hk_7 : ∀ (l0 : Nat) (l1 : Int32) (h : mx_H) (r : mx_H), kk_7 l0 l1 h = some r → mx_S X F L 390 7 [(0, .ref l0), (1, .int l1)] [] h 0 0 (none, r, 0, 0)) (l0 : Nat) (l1 : Int32) (l3 : Int32) (l4 : Int32) (s0 : Int32) (s1 : Nat) (h : mx_H) {r : mx_H} (hf : j_X13_tokenize_169 nn kk_7 l0 l1 l3 l4 s0 s1 h = some r) : mx_S X F L 390 169 [(0, .ref l0), (1, .int l1), (3, .int l3), (4, .int l4)] [.int s0, .ref s1] h 0 0 (none, r, 0, 0) := by
  have hm : mx_mt 390 = some (yX13_tokenize, cX13_tokenize, 7, none) := mt_X13_tokenize
  unfold j_X13_tokenize_169 at hf
  refine mx_S.pu (pc2 := 170) (lv2 := [(0, .ref l0), (1, .int l1), (3, .int l3), (4, .int l4)]) (st2 := [.int l1, .int s0, .ref s1]) hm dX13_tokenize_169 rfl ?_
  refine mx_S.pu (pc2 := 171) (lv2 := [(0, .ref l0), (1, .int l1), (3, .int l3), (4, .int l4)]) (st2 := [.int l3, .int l1, .int s0, .ref s1]) hm dX13_tokenize_170 rfl ?_
  refine mx_S.pu (pc2 := 173) (lv2 := [(0, .ref l0), (1, .int l1), (3, .int l3), (4, .int l4)]) (st2 := [.int l4, .int l3, .int l1, .int s0, .ref s1]) hm dX13_tokenize_171 rfl ?_
  replace hf := mx_gd_el hf; obtain ⟨c63, hf⟩ := hf
  replace hf := mx_sv_el hf; obtain ⟨u64, e_u64, hf⟩ := hf
  refine sx_cv hm dX13_tokenize_173 rs_RX13_358 mt_X13_token [.int s0, .int l1, .int l3, .int l4] [] (b := s1) (ci := 13) rfl rfl rfl c63 (Nat.le_of_ble_eq_true rfl) (Nat.le_of_ble_eq_true rfl) (by omega) (by omega) (f_X13_token_ok X (by omega) (by omega) nn s1 s0 l1 l3 l4 h e_u64) ?_
  clear e_u64
  show mx_S X F L 390 176 [(0, .ref l0), (1, .int l1), (3, .int l3), (4, .int l4)] [] u64 0 0 (none, r, 0, 0)
  refine mx_S.pu (pc2 := 378) (lv2 := [(0, .ref l0), (1, .int l1), (3, .int l3), (4, .int l4)]) (st2 := []) hm dX13_tokenize_176 rfl ?_
  refine mx_S.ext [(0, .ref l0), (1, .int l1), (3, .int l3)] (mx_sub_pos [0, 1, 2] rfl (show ([0, 1, 3, 4] : List Nat).Nodup by decide)) ?_
  exact j_X13_tokenize_378_ok X hF hL nn hk_7 l0 l1 l3 u64 hf
set_option maxHeartbeats 4000000 in
set_option maxRecDepth 20000 in
theorem w_X13_tokenize_92_ok (X : Nat × (Nat → Int32)) {F L : Nat} (hF : 5 ≤ F) (hL : 112 ≤ L) (nn : Nat) {kk_7 : Nat → Int32 → mx_H → Option mx_H} (hk_7 : ∀ (l0 : Nat) (l1 : Int32) (h : mx_H) (r : mx_H), kk_7 l0 l1 h = some r → mx_S X F L 390 7 [(0, .ref l0), (1, .int l1)] [] h 0 0 (none, r, 0, 0)) : ∀ (k : Nat) (l0 : Nat) (l1 : Int32) (l3 : Int32) (h : mx_H) (r : mx_H), w_X13_tokenize_92 nn kk_7 k l0 l1 l3 h = some r → mx_S X F L 390 92 [(0, .ref l0), (1, .int l1), (3, .int l3)] [] h 0 0 (none, r, 0, 0) := by
  have hm : mx_mt 390 = some (yX13_tokenize, cX13_tokenize, 7, none) := mt_X13_tokenize
  intro k
  induction k with
  | zero => intro l0 l1 l3 h r hf; cases hf
  | succ k ih =>
    intro l0 l1 l3 h r hf
    unfold w_X13_tokenize_92 at hf
    refine mx_S.pu (pc2 := 93) (lv2 := [(0, .ref l0), (1, .int l1), (3, .int l3)]) (st2 := [.ref l0]) hm dX13_tokenize_92 rfl ?_
    refine mx_S.pu (pc2 := 94) (lv2 := [(0, .ref l0), (1, .int l1), (3, .int l3)]) (st2 := [.int l1, .ref l0]) hm dX13_tokenize_93 rfl ?_
    refine mx_S.pu (pc2 := 95) (lv2 := [(0, .ref l0), (1, .int l1), (3, .int l3)]) (st2 := [.int l3, .int l1, .ref l0]) hm dX13_tokenize_94 rfl ?_
    replace hf := xl_el hf; obtain ⟨v65, e_v65, hf⟩ := hf
    refine mx_S.pu (pc2 := 96) (lv2 := [(0, .ref l0), (1, .int l1), (3, .int l3)]) (st2 := [.int v65, .ref l0]) hm dX13_tokenize_95 (by rw [← e_v65]; rfl) ?_
    clear e_v65
    replace hf := mx_gd_el hf; obtain ⟨c66, hf⟩ := hf
    replace hf := mx_sv_el hf; obtain ⟨u67, e_u67, hf⟩ := hf
    refine sx_cv hm dX13_tokenize_96 rs_RX13_341 mt_X13_at [.int v65] [] (b := l0) (ci := 13) rfl rfl rfl c66 (Nat.le_of_ble_eq_true rfl) (Nat.le_of_ble_eq_true rfl) (by omega) (by omega) (f_X13_at_ok X (by omega) (by omega) nn l0 v65 h e_u67) ?_
    clear e_u67
    show mx_S X F L 390 99 [(0, .ref l0), (1, .int l1), (3, .int l3)] [.int u67.1] u67.2 0 0 (none, r, 0, 0)
    replace hf := mx_sv_el hf; obtain ⟨u68, e_u68, hf⟩ := hf
    refine sx_cs hm dX13_tokenize_99 rs_RX13_345 mt_X13_isLetter [.int u67.1] [] rfl rfl (Nat.le_of_ble_eq_true rfl) (Nat.le_of_ble_eq_true rfl) (by omega) (by omega) (f_X13_isLetter_ok X (by omega) (by omega) nn u67.1 u67.2 e_u68) ?_
    clear e_u68
    show mx_S X F L 390 102 [(0, .ref l0), (1, .int l1), (3, .int l3)] [.int u68.1] u68.2 0 0 (none, r, 0, 0)
    rcases mx_if_el hf with ⟨c85, hf⟩ | ⟨c85, hf⟩
    · refine sb_if_ne hm dX13_tokenize_102 (tgt := 130) rfl (fun _ => ?_) (fun z => absurd c85 z)
      replace hf := xl_el hf; obtain ⟨v69, e_v69, hf⟩ := hf
      refine mx_S.pu (pc2 := 133) (lv2 := [(3, .int v69), (0, .ref l0), (1, .int l1)]) (st2 := []) hm dX13_tokenize_130 (by rw [← e_v69]; rfl) ?_
      clear e_v69
      refine mx_S.pu (pc2 := 92) (lv2 := [(3, .int v69), (0, .ref l0), (1, .int l1)]) (st2 := []) hm dX13_tokenize_133 rfl ?_
      refine mx_S.ext [(0, .ref l0), (1, .int l1), (3, .int v69)] (mx_sub_pos [1, 2, 0] rfl (show ([3, 0, 1] : List Nat).Nodup by decide)) ?_
      exact ih l0 l1 v69 u68.2 _ hf
    · refine sb_if_ne hm dX13_tokenize_102 (tgt := 130) rfl (fun z => absurd z c85) (fun _ => ?_)
      refine mx_S.pu (pc2 := 106) (lv2 := [(0, .ref l0), (1, .int l1), (3, .int l3)]) (st2 := [.ref l0]) hm dX13_tokenize_105 rfl ?_
      refine mx_S.pu (pc2 := 107) (lv2 := [(0, .ref l0), (1, .int l1), (3, .int l3)]) (st2 := [.int l1, .ref l0]) hm dX13_tokenize_106 rfl ?_
      refine mx_S.pu (pc2 := 108) (lv2 := [(0, .ref l0), (1, .int l1), (3, .int l3)]) (st2 := [.int l3, .int l1, .ref l0]) hm dX13_tokenize_107 rfl ?_
      replace hf := xl_el hf; obtain ⟨v70, e_v70, hf⟩ := hf
      refine mx_S.pu (pc2 := 109) (lv2 := [(0, .ref l0), (1, .int l1), (3, .int l3)]) (st2 := [.int v70, .ref l0]) hm dX13_tokenize_108 (by rw [← e_v70]; rfl) ?_
      clear e_v70
      replace hf := mx_gd_el hf; obtain ⟨c71, hf⟩ := hf
      replace hf := mx_sv_el hf; obtain ⟨u72, e_u72, hf⟩ := hf
      refine sx_cv hm dX13_tokenize_109 rs_RX13_341 mt_X13_at [.int v70] [] (b := l0) (ci := 13) rfl rfl rfl c71 (Nat.le_of_ble_eq_true rfl) (Nat.le_of_ble_eq_true rfl) (by omega) (by omega) (f_X13_at_ok X (by omega) (by omega) nn l0 v70 u68.2 e_u72) ?_
      clear e_u72
      show mx_S X F L 390 112 [(0, .ref l0), (1, .int l1), (3, .int l3)] [.int u72.1] u72.2 0 0 (none, r, 0, 0)
      replace hf := mx_sv_el hf; obtain ⟨u73, e_u73, hf⟩ := hf
      refine sx_cs hm dX13_tokenize_112 rs_RX13_349 mt_X13_isDigit [.int u72.1] [] rfl rfl (Nat.le_of_ble_eq_true rfl) (Nat.le_of_ble_eq_true rfl) (by omega) (by omega) (f_X13_isDigit_ok X (by omega) (by omega) nn u72.1 u72.2 e_u73) ?_
      clear e_u73
      show mx_S X F L 390 115 [(0, .ref l0), (1, .int l1), (3, .int l3)] [.int u73.1] u73.2 0 0 (none, r, 0, 0)
      rcases mx_if_el hf with ⟨c84, hf⟩ | ⟨c84, hf⟩
      · refine sb_if_ne hm dX13_tokenize_115 (tgt := 130) rfl (fun _ => ?_) (fun z => absurd c84 z)
        replace hf := xl_el hf; obtain ⟨v74, e_v74, hf⟩ := hf
        refine mx_S.pu (pc2 := 133) (lv2 := [(3, .int v74), (0, .ref l0), (1, .int l1)]) (st2 := []) hm dX13_tokenize_130 (by rw [← e_v74]; rfl) ?_
        clear e_v74
        refine mx_S.pu (pc2 := 92) (lv2 := [(3, .int v74), (0, .ref l0), (1, .int l1)]) (st2 := []) hm dX13_tokenize_133 rfl ?_
        refine mx_S.ext [(0, .ref l0), (1, .int l1), (3, .int v74)] (mx_sub_pos [1, 2, 0] rfl (show ([3, 0, 1] : List Nat).Nodup by decide)) ?_
        exact ih l0 l1 v74 u73.2 _ hf
      · refine sb_if_ne hm dX13_tokenize_115 (tgt := 130) rfl (fun z => absurd z c84) (fun _ => ?_)
        refine mx_S.pu (pc2 := 119) (lv2 := [(0, .ref l0), (1, .int l1), (3, .int l3)]) (st2 := [.ref l0]) hm dX13_tokenize_118 rfl ?_
        refine mx_S.pu (pc2 := 120) (lv2 := [(0, .ref l0), (1, .int l1), (3, .int l3)]) (st2 := [.int l1, .ref l0]) hm dX13_tokenize_119 rfl ?_
        refine mx_S.pu (pc2 := 121) (lv2 := [(0, .ref l0), (1, .int l1), (3, .int l3)]) (st2 := [.int l3, .int l1, .ref l0]) hm dX13_tokenize_120 rfl ?_
        replace hf := xl_el hf; obtain ⟨v75, e_v75, hf⟩ := hf
        refine mx_S.pu (pc2 := 122) (lv2 := [(0, .ref l0), (1, .int l1), (3, .int l3)]) (st2 := [.int v75, .ref l0]) hm dX13_tokenize_121 (by rw [← e_v75]; rfl) ?_
        clear e_v75
        replace hf := mx_gd_el hf; obtain ⟨c76, hf⟩ := hf
        replace hf := mx_sv_el hf; obtain ⟨u77, e_u77, hf⟩ := hf
        refine sx_cv hm dX13_tokenize_122 rs_RX13_341 mt_X13_at [.int v75] [] (b := l0) (ci := 13) rfl rfl rfl c76 (Nat.le_of_ble_eq_true rfl) (Nat.le_of_ble_eq_true rfl) (by omega) (by omega) (f_X13_at_ok X (by omega) (by omega) nn l0 v75 u73.2 e_u77) ?_
        clear e_u77
        show mx_S X F L 390 125 [(0, .ref l0), (1, .int l1), (3, .int l3)] [.int u77.1] u77.2 0 0 (none, r, 0, 0)
        refine sx_bi (v := 95) hm dX13_tokenize_125 (by decide) ?_
        rcases mx_if_el hf with ⟨c83, hf⟩ | ⟨c83, hf⟩
        · refine sb_ic_ne hm dX13_tokenize_127 (tgt := 136) rfl (fun _ => ?_) (fun z => absurd c83 z)
          refine mx_S.pu (pc2 := 137) (lv2 := [(0, .ref l0), (1, .int l1), (3, .int l3)]) (st2 := [.ref l0]) hm dX13_tokenize_136 rfl ?_
          refine sx_ldcw hm dX13_tokenize_137 rs_RX13_352 ?_
          refine mx_S.pu (pc2 := 141) (lv2 := [(0, .ref l0), (1, .int l1), (3, .int l3)]) (st2 := [.int l1, .ref (1000000000 + 2), .ref l0]) hm dX13_tokenize_140 rfl ?_
          refine mx_S.pu (pc2 := 142) (lv2 := [(0, .ref l0), (1, .int l1), (3, .int l3)]) (st2 := [.int l3, .int l1, .ref (1000000000 + 2), .ref l0]) hm dX13_tokenize_141 rfl ?_
          replace hf := mx_gd_el hf; obtain ⟨c78, hf⟩ := hf
          replace hf := mx_sv_el hf; obtain ⟨u79, e_u79, hf⟩ := hf
          refine sx_cv hm dX13_tokenize_142 rs_RX13_354 mt_X13_among [.ref (1000000000 + 2), .int l1, .int l3] [] (b := l0) (ci := 13) rfl rfl rfl c78 (Nat.le_of_ble_eq_true rfl) (Nat.le_of_ble_eq_true rfl) (by omega) (by omega) (f_X13_among_ok X (by omega) (by omega) nn l0 (1000000000 + 2) l1 l3 u77.2 e_u79) ?_
          clear e_u79
          show mx_S X F L 390 145 [(0, .ref l0), (1, .int l1), (3, .int l3)] [.int u79.1] u79.2 0 0 (none, r, 0, 0)
          refine mx_S.pu (pc2 := 147) (lv2 := [(4, .int u79.1), (0, .ref l0), (1, .int l1), (3, .int l3)]) (st2 := []) hm dX13_tokenize_145 rfl ?_
          refine mx_S.pu (pc2 := 148) (lv2 := [(4, .int u79.1), (0, .ref l0), (1, .int l1), (3, .int l3)]) (st2 := [.ref l0]) hm dX13_tokenize_147 rfl ?_
          refine mx_S.pu (pc2 := 150) (lv2 := [(4, .int u79.1), (0, .ref l0), (1, .int l1), (3, .int l3)]) (st2 := [.int u79.1, .ref l0]) hm dX13_tokenize_148 rfl ?_
          rcases mx_if_el hf with ⟨c81, hf⟩ | ⟨c81, hf⟩
          · refine sb_if_lt hm dX13_tokenize_150 (tgt := 157) rfl (fun _ => ?_) (fun z => absurd c81 z)
            refine mx_S.pu (pc2 := 158) (lv2 := [(4, .int u79.1), (0, .ref l0), (1, .int l1), (3, .int l3)]) (st2 := [.int l3, .ref l0]) hm dX13_tokenize_157 rfl ?_
            refine sx_bi (v := 12) hm dX13_tokenize_158 (by decide) ?_
            rcases mx_if_el hf with ⟨c80, hf⟩ | ⟨c80, hf⟩
            · refine sb_ic_gt hm dX13_tokenize_160 (tgt := 167) rfl (fun _ => ?_) (fun z => absurd c80 z)
              refine sx_bi (v := 6) hm dX13_tokenize_167 (by decide) ?_
              refine mx_S.ext [(0, .ref l0), (1, .int l1), (3, .int l3), (4, .int u79.1)] (mx_sub_pos [1, 2, 3, 0] rfl (show ([4, 0, 1, 3] : List Nat).Nodup by decide)) ?_
              exact j_X13_tokenize_169_ok X hF hL nn hk_7 l0 l1 l3 u79.1 6 l0 u79.2 hf
            · refine sb_ic_gt hm dX13_tokenize_160 (tgt := 167) rfl (fun z => absurd z c80) (fun _ => ?_)
              refine sx_ic (v := 1) hm dX13_tokenize_163 (by decide) ?_
              refine mx_S.pu (pc2 := 169) (lv2 := [(4, .int u79.1), (0, .ref l0), (1, .int l1), (3, .int l3)]) (st2 := [.int 1, .ref l0]) hm dX13_tokenize_164 rfl ?_
              refine mx_S.ext [(0, .ref l0), (1, .int l1), (3, .int l3), (4, .int u79.1)] (mx_sub_pos [1, 2, 3, 0] rfl (show ([4, 0, 1, 3] : List Nat).Nodup by decide)) ?_
              exact j_X13_tokenize_169_ok X hF hL nn hk_7 l0 l1 l3 u79.1 1 l0 u79.2 hf
          · refine sb_if_lt hm dX13_tokenize_150 (tgt := 157) rfl (fun z => absurd z c81) (fun _ => ?_)
            refine sx_ic (v := 3) hm dX13_tokenize_153 (by decide) ?_
            refine mx_S.pu (pc2 := 169) (lv2 := [(4, .int u79.1), (0, .ref l0), (1, .int l1), (3, .int l3)]) (st2 := [.int 3, .ref l0]) hm dX13_tokenize_154 rfl ?_
            refine mx_S.ext [(0, .ref l0), (1, .int l1), (3, .int l3), (4, .int u79.1)] (mx_sub_pos [1, 2, 3, 0] rfl (show ([4, 0, 1, 3] : List Nat).Nodup by decide)) ?_
            exact j_X13_tokenize_169_ok X hF hL nn hk_7 l0 l1 l3 u79.1 3 l0 u79.2 hf
        · refine sb_ic_ne hm dX13_tokenize_127 (tgt := 136) rfl (fun z => absurd z c83) (fun _ => ?_)
          replace hf := xl_el hf; obtain ⟨v82, e_v82, hf⟩ := hf
          refine mx_S.pu (pc2 := 133) (lv2 := [(3, .int v82), (0, .ref l0), (1, .int l1)]) (st2 := []) hm dX13_tokenize_130 (by rw [← e_v82]; rfl) ?_
          clear e_v82
          refine mx_S.pu (pc2 := 92) (lv2 := [(3, .int v82), (0, .ref l0), (1, .int l1)]) (st2 := []) hm dX13_tokenize_133 rfl ?_
          refine mx_S.ext [(0, .ref l0), (1, .int l1), (3, .int v82)] (mx_sub_pos [1, 2, 0] rfl (show ([3, 0, 1] : List Nat).Nodup by decide)) ?_
          exact ih l0 l1 v82 u77.2 _ hf
set_option maxHeartbeats 4000000 in
set_option maxRecDepth 20000 in
theorem j_X13_tokenize_83_ok (X : Nat × (Nat → Int32)) {F L : Nat} (hF : 5 ≤ F) (hL : 112 ≤ L) (nn : Nat) {kk_7 : Nat → Int32 → mx_H → Option mx_H} (hk_7 : ∀ (l0 : Nat) (l1 : Int32) (h : mx_H) (r : mx_H), kk_7 l0 l1 h = some r → mx_S X F L 390 7 [(0, .ref l0), (1, .int l1)] [] h 0 0 (none, r, 0, 0)) (l0 : Nat) (l1 : Int32) (l2 : Int32) (h : mx_H) {r : mx_H} (hf : j_X13_tokenize_83 nn kk_7 l0 l1 l2 h = some r) : mx_S X F L 390 83 [(0, .ref l0), (1, .int l1), (2, .int l2)] [] h 0 0 (none, r, 0, 0) := by
  have hm : mx_mt 390 = some (yX13_tokenize, cX13_tokenize, 7, none) := mt_X13_tokenize
  unfold j_X13_tokenize_83 at hf
  refine sx_ic (v := 0) hm dX13_tokenize_83 (by decide) ?_
  refine mx_S.pu (pc2 := 85) (lv2 := [(3, .int 0), (0, .ref l0), (1, .int l1), (2, .int l2)]) (st2 := []) hm dX13_tokenize_84 rfl ?_
  refine mx_S.pu (pc2 := 86) (lv2 := [(3, .int 0), (0, .ref l0), (1, .int l1), (2, .int l2)]) (st2 := [.int l2]) hm dX13_tokenize_85 rfl ?_
  replace hf := mx_sv_el hf; obtain ⟨u86, e_u86, hf⟩ := hf
  refine sx_cs hm dX13_tokenize_86 rs_RX13_345 mt_X13_isLetter [.int l2] [] rfl rfl (Nat.le_of_ble_eq_true rfl) (Nat.le_of_ble_eq_true rfl) (by omega) (by omega) (f_X13_isLetter_ok X (by omega) (by omega) nn l2 h e_u86) ?_
  clear e_u86
  show mx_S X F L 390 89 [(3, .int 0), (0, .ref l0), (1, .int l1), (2, .int l2)] [.int u86.1] u86.2 0 0 (none, r, 0, 0)
  rcases mx_if_el hf with ⟨c91, hf⟩ | ⟨c91, hf⟩
  · refine sb_if_eq hm dX13_tokenize_89 (tgt := 179) rfl (fun _ => ?_) (fun z => absurd c91 z)
    refine mx_S.pu (pc2 := 180) (lv2 := [(3, .int 0), (0, .ref l0), (1, .int l1), (2, .int l2)]) (st2 := [.int l2]) hm dX13_tokenize_179 rfl ?_
    replace hf := mx_sv_el hf; obtain ⟨u87, e_u87, hf⟩ := hf
    refine sx_cs hm dX13_tokenize_180 rs_RX13_349 mt_X13_isDigit [.int l2] [] rfl rfl (Nat.le_of_ble_eq_true rfl) (Nat.le_of_ble_eq_true rfl) (by omega) (by omega) (f_X13_isDigit_ok X (by omega) (by omega) nn l2 u86.2 e_u87) ?_
    clear e_u87
    show mx_S X F L 390 183 [(3, .int 0), (0, .ref l0), (1, .int l1), (2, .int l2)] [.int u87.1] u87.2 0 0 (none, r, 0, 0)
    rcases mx_if_el hf with ⟨c90, hf⟩ | ⟨c90, hf⟩
    · refine sb_if_eq hm dX13_tokenize_183 (tgt := 318) rfl (fun _ => ?_) (fun z => absurd c90 z)
      refine mx_S.pu (pc2 := 319) (lv2 := [(3, .int 0), (0, .ref l0), (1, .int l1), (2, .int l2)]) (st2 := [.ref l0]) hm dX13_tokenize_318 rfl ?_
      refine mx_S.pu (pc2 := 320) (lv2 := [(3, .int 0), (0, .ref l0), (1, .int l1), (2, .int l2)]) (st2 := [.int l1, .ref l0]) hm dX13_tokenize_319 rfl ?_
      replace hf := mx_gd_el hf; obtain ⟨c88, hf⟩ := hf
      replace hf := mx_sv_el hf; obtain ⟨u89, e_u89, hf⟩ := hf
      refine sx_cv hm dX13_tokenize_320 rs_RX13_370 mt_X13_signAt [.int l1] [] (b := l0) (ci := 13) rfl rfl rfl c88 (Nat.le_of_ble_eq_true rfl) (Nat.le_of_ble_eq_true rfl) (by omega) (by omega) (f_X13_signAt_ok X (by omega) (by omega) nn l0 l1 u87.2 e_u89) ?_
      clear e_u89
      show mx_S X F L 390 323 [(3, .int 0), (0, .ref l0), (1, .int l1), (2, .int l2)] [.int u89.1] u89.2 0 0 (none, r, 0, 0)
      refine mx_S.pu (pc2 := 324) (lv2 := [(3, .int u89.1), (0, .ref l0), (1, .int l1), (2, .int l2)]) (st2 := []) hm dX13_tokenize_323 rfl ?_
      refine sx_ic (v := 0) hm dX13_tokenize_324 (by decide) ?_
      refine mx_S.pu (pc2 := 327) (lv2 := [(4, .int 0), (3, .int u89.1), (0, .ref l0), (1, .int l1), (2, .int l2)]) (st2 := []) hm dX13_tokenize_325 rfl ?_
      refine sx_ic (v := 0) hm dX13_tokenize_327 (by decide) ?_
      refine mx_S.pu (pc2 := 330) (lv2 := [(5, .int 0), (4, .int 0), (3, .int u89.1), (0, .ref l0), (1, .int l1), (2, .int l2)]) (st2 := []) hm dX13_tokenize_328 rfl ?_
      refine mx_S.ext [(0, .ref l0), (1, .int l1), (3, .int u89.1), (4, .int 0), (5, .int 0)] (mx_sub_pos [3, 4, 2, 1, 0] rfl (show ([5, 4, 3, 0, 1, 2] : List Nat).Nodup by decide)) ?_
      exact w_X13_tokenize_330_ok X hF hL nn hk_7 nn l0 l1 u89.1 0 0 u89.2 _ hf
    · refine sb_if_eq hm dX13_tokenize_183 (tgt := 318) rfl (fun z => absurd z c90) (fun _ => ?_)
      refine sx_lc (v := 0) hm dX13_tokenize_186 (by decide) ?_
      refine mx_S.pu (pc2 := 189) (lv2 := [(4, .long 0), (3, .int 0), (0, .ref l0), (1, .int l1), (2, .int l2)]) (st2 := []) hm dX13_tokenize_187 rfl ?_
      refine mx_S.ext [(0, .ref l0), (1, .int l1), (2, .int l2), (3, .int 0), (4, .long 0)] (mx_sub_pos [2, 3, 4, 1, 0] rfl (show ([4, 3, 0, 1, 2] : List Nat).Nodup by decide)) ?_
      exact w_X13_tokenize_189_ok X hF hL nn hk_7 nn l0 l1 l2 0 0 u87.2 _ hf
  · refine sb_if_eq hm dX13_tokenize_89 (tgt := 179) rfl (fun z => absurd z c91) (fun _ => ?_)
    refine mx_S.ext [(0, .ref l0), (1, .int l1), (3, .int 0)] (mx_sub_pos [1, 2, 0] rfl (show ([3, 0, 1, 2] : List Nat).Nodup by decide)) ?_
    exact w_X13_tokenize_92_ok X hF hL nn hk_7 nn l0 l1 0 u86.2 _ hf
set_option maxHeartbeats 4000000 in
set_option maxRecDepth 20000 in
theorem w_X13_tokenize_58_ok (X : Nat × (Nat → Int32)) {F L : Nat} (hF : 5 ≤ F) (hL : 112 ≤ L) (nn : Nat) {kk_7 : Nat → Int32 → mx_H → Option mx_H} (hk_7 : ∀ (l0 : Nat) (l1 : Int32) (h : mx_H) (r : mx_H), kk_7 l0 l1 h = some r → mx_S X F L 390 7 [(0, .ref l0), (1, .int l1)] [] h 0 0 (none, r, 0, 0)) : ∀ (k : Nat) (l0 : Nat) (l1 : Int32) (h : mx_H) (r : mx_H), w_X13_tokenize_58 nn kk_7 k l0 l1 h = some r → mx_S X F L 390 58 [(0, .ref l0), (1, .int l1)] [] h 0 0 (none, r, 0, 0) := by
  have hm : mx_mt 390 = some (yX13_tokenize, cX13_tokenize, 7, none) := mt_X13_tokenize
  intro k
  induction k with
  | zero => intro l0 l1 h r hf; cases hf
  | succ k ih =>
    intro l0 l1 h r hf
    unfold w_X13_tokenize_58 at hf
    refine mx_S.pu (pc2 := 59) (lv2 := [(0, .ref l0), (1, .int l1)]) (st2 := [.int l1]) hm dX13_tokenize_58 rfl ?_
    refine mx_S.pu (pc2 := 60) (lv2 := [(0, .ref l0), (1, .int l1)]) (st2 := [.ref l0, .int l1]) hm dX13_tokenize_59 rfl ?_
    replace hf := mx_sv_el hf; obtain ⟨v92, e_v92, hf⟩ := hf
    refine sx_get hm dX13_tokenize_60 rs_RX13_325 (xgi_el e_v92) ?_
    clear e_v92
    rcases mx_if_el hf with ⟨c97, hf⟩ | ⟨c97, hf⟩
    · refine sb_ic_ge hm dX13_tokenize_63 (tgt := 7) rfl (fun _ => ?_) (fun z => absurd c97 z)
      exact hk_7 l0 l1 h _ hf
    · refine sb_ic_ge hm dX13_tokenize_63 (tgt := 7) rfl (fun z => absurd z c97) (fun _ => ?_)
      refine mx_S.pu (pc2 := 67) (lv2 := [(0, .ref l0), (1, .int l1)]) (st2 := [.ref l0]) hm dX13_tokenize_66 rfl ?_
      replace hf := mx_sv_el hf; obtain ⟨v93, e_v93, hf⟩ := hf
      refine sx_get hm dX13_tokenize_67 rs_RX13_13 (xgr_el e_v93) ?_
      clear e_v93
      refine mx_S.pu (pc2 := 71) (lv2 := [(0, .ref l0), (1, .int l1)]) (st2 := [.int l1, .ref v93]) hm dX13_tokenize_70 rfl ?_
      replace hf := mx_sv_el hf; obtain ⟨v94, e_v94, hf⟩ := hf
      refine sx_ald hm dX13_tokenize_71 e_v94 ?_
      clear e_v94
      refine sx_bi (v := 10) hm dX13_tokenize_72 (by decide) ?_
      rcases mx_if_el hf with ⟨c96, hf⟩ | ⟨c96, hf⟩
      · refine sb_ic_eq hm dX13_tokenize_74 (tgt := 7) rfl (fun _ => ?_) (fun z => absurd c96 z)
        exact hk_7 l0 l1 h _ hf
      · refine sb_ic_eq hm dX13_tokenize_74 (tgt := 7) rfl (fun z => absurd z c96) (fun _ => ?_)
        replace hf := xl_el hf; obtain ⟨v95, e_v95, hf⟩ := hf
        refine mx_S.pu (pc2 := 80) (lv2 := [(1, .int v95), (0, .ref l0)]) (st2 := []) hm dX13_tokenize_77 (by rw [← e_v95]; rfl) ?_
        clear e_v95
        refine mx_S.pu (pc2 := 58) (lv2 := [(1, .int v95), (0, .ref l0)]) (st2 := []) hm dX13_tokenize_80 rfl ?_
        refine mx_S.ext [(0, .ref l0), (1, .int v95)] (mx_sub_pos [1, 0] rfl (show ([1, 0] : List Nat).Nodup by decide)) ?_
        exact ih l0 v95 h _ hf
set_option maxHeartbeats 4000000 in
set_option maxRecDepth 20000 in
theorem w_X13_tokenize_7_ok (X : Nat × (Nat → Int32)) {F L : Nat} (hF : 5 ≤ F) (hL : 112 ≤ L) (nn : Nat) : ∀ (k : Nat) (l0 : Nat) (l1 : Int32) (h : mx_H) (r : mx_H), w_X13_tokenize_7 nn k l0 l1 h = some r → mx_S X F L 390 7 [(0, .ref l0), (1, .int l1)] [] h 0 0 (none, r, 0, 0) := by
  have hm : mx_mt 390 = some (yX13_tokenize, cX13_tokenize, 7, none) := mt_X13_tokenize
  intro k
  induction k with
  | zero => intro l0 l1 h r hf; cases hf
  | succ k ih =>
    intro l0 l1 h r hf
    unfold w_X13_tokenize_7 at hf
    refine mx_S.pu (pc2 := 8) (lv2 := [(0, .ref l0), (1, .int l1)]) (st2 := [.int l1]) hm dX13_tokenize_7 rfl ?_
    refine mx_S.pu (pc2 := 9) (lv2 := [(0, .ref l0), (1, .int l1)]) (st2 := [.ref l0, .int l1]) hm dX13_tokenize_8 rfl ?_
    replace hf := mx_sv_el hf; obtain ⟨v98, e_v98, hf⟩ := hf
    refine sx_get hm dX13_tokenize_9 rs_RX13_325 (xgi_el e_v98) ?_
    clear e_v98
    rcases mx_if_el hf with ⟨c114, hf⟩ | ⟨c114, hf⟩
    · refine sb_ic_ge hm dX13_tokenize_12 (tgt := 433) rfl (fun _ => ?_) (fun z => absurd c114 z)
      refine mx_S.pu (pc2 := 434) (lv2 := [(0, .ref l0), (1, .int l1)]) (st2 := [.ref l0]) hm dX13_tokenize_433 rfl ?_
      refine sx_ic (v := 5) hm dX13_tokenize_434 (by decide) ?_
      refine mx_S.pu (pc2 := 436) (lv2 := [(0, .ref l0), (1, .int l1)]) (st2 := [.ref l0, .int 5, .ref l0]) hm dX13_tokenize_435 rfl ?_
      replace hf := mx_sv_el hf; obtain ⟨v99, e_v99, hf⟩ := hf
      refine sx_get hm dX13_tokenize_436 rs_RX13_325 (xgi_el e_v99) ?_
      clear e_v99
      refine sx_ic (v := 0) hm dX13_tokenize_439 (by decide) ?_
      refine sx_ic (v := 0) hm dX13_tokenize_440 (by decide) ?_
      replace hf := mx_gd_el hf; obtain ⟨c100, hf⟩ := hf
      replace hf := mx_sv_el hf; obtain ⟨u101, e_u101, hf⟩ := hf
      refine sx_cv hm dX13_tokenize_441 rs_RX13_358 mt_X13_token [.int 5, .int v99, .int 0, .int 0] [] (b := l0) (ci := 13) rfl rfl rfl c100 (Nat.le_of_ble_eq_true rfl) (Nat.le_of_ble_eq_true rfl) (by omega) (by omega) (f_X13_token_ok X (by omega) (by omega) nn l0 5 v99 0 0 h e_u101) ?_
      clear e_u101
      show mx_S X F L 390 444 [(0, .ref l0), (1, .int l1)] [] u101 0 0 (none, r, 0, 0)
      refine mx_S.pu (pc2 := 445) (lv2 := [(0, .ref l0), (1, .int l1)]) (st2 := [.ref l0]) hm dX13_tokenize_444 rfl ?_
      replace hf := mx_sv_el hf; obtain ⟨v102, e_v102, hf⟩ := hf
      refine sx_get hm dX13_tokenize_445 rs_RX13_338 (xgi_el e_v102) ?_
      clear e_v102
      refine mx_S.pu (pc2 := 449) (lv2 := [(2, .int v102), (0, .ref l0), (1, .int l1)]) (st2 := []) hm dX13_tokenize_448 rfl ?_
      refine mx_S.ext [(0, .ref l0), (2, .int v102)] (mx_sub_pos [1, 0] rfl (show ([2, 0, 1] : List Nat).Nodup by decide)) ?_
      exact w_X13_tokenize_449_ok X hF hL nn nn l0 v102 u101 _ hf
    · refine sb_ic_ge hm dX13_tokenize_12 (tgt := 433) rfl (fun z => absurd z c114) (fun _ => ?_)
      refine mx_S.pu (pc2 := 16) (lv2 := [(0, .ref l0), (1, .int l1)]) (st2 := [.ref l0]) hm dX13_tokenize_15 rfl ?_
      replace hf := mx_sv_el hf; obtain ⟨v103, e_v103, hf⟩ := hf
      refine sx_get hm dX13_tokenize_16 rs_RX13_13 (xgr_el e_v103) ?_
      clear e_v103
      refine mx_S.pu (pc2 := 20) (lv2 := [(0, .ref l0), (1, .int l1)]) (st2 := [.int l1, .ref v103]) hm dX13_tokenize_19 rfl ?_
      replace hf := mx_sv_el hf; obtain ⟨v104, e_v104, hf⟩ := hf
      refine sx_ald hm dX13_tokenize_20 e_v104 ?_
      clear e_v104
      refine mx_S.pu (pc2 := 22) (lv2 := [(2, .int v104), (0, .ref l0), (1, .int l1)]) (st2 := []) hm dX13_tokenize_21 rfl ?_
      refine mx_S.pu (pc2 := 23) (lv2 := [(2, .int v104), (0, .ref l0), (1, .int l1)]) (st2 := [.int v104]) hm dX13_tokenize_22 rfl ?_
      refine sx_bi (v := 32) hm dX13_tokenize_23 (by decide) ?_
      rcases mx_if_el hf with ⟨c113, hf⟩ | ⟨c113, hf⟩
      · refine sb_ic_eq hm dX13_tokenize_25 (tgt := 34) rfl (fun _ => ?_) (fun z => absurd c113 z)
        replace hf := xl_el hf; obtain ⟨v105, e_v105, hf⟩ := hf
        refine mx_S.pu (pc2 := 37) (lv2 := [(1, .int v105), (2, .int v104), (0, .ref l0)]) (st2 := []) hm dX13_tokenize_34 (by rw [← e_v105]; rfl) ?_
        clear e_v105
        refine mx_S.pu (pc2 := 7) (lv2 := [(1, .int v105), (2, .int v104), (0, .ref l0)]) (st2 := []) hm dX13_tokenize_37 rfl ?_
        refine mx_S.ext [(0, .ref l0), (1, .int v105)] (mx_sub_pos [2, 0] rfl (show ([1, 2, 0] : List Nat).Nodup by decide)) ?_
        exact ih l0 v105 h _ hf
      · refine sb_ic_eq hm dX13_tokenize_25 (tgt := 34) rfl (fun z => absurd z c113) (fun _ => ?_)
        refine mx_S.pu (pc2 := 29) (lv2 := [(2, .int v104), (0, .ref l0), (1, .int l1)]) (st2 := [.int v104]) hm dX13_tokenize_28 rfl ?_
        refine sx_bi (v := 10) hm dX13_tokenize_29 (by decide) ?_
        rcases mx_if_el hf with ⟨c112, hf⟩ | ⟨c112, hf⟩
        · refine sb_ic_ne hm dX13_tokenize_31 (tgt := 40) rfl (fun _ => ?_) (fun z => absurd c112 z)
          refine mx_S.pu (pc2 := 41) (lv2 := [(2, .int v104), (0, .ref l0), (1, .int l1)]) (st2 := [.int v104]) hm dX13_tokenize_40 rfl ?_
          refine sx_bi (v := 47) hm dX13_tokenize_41 (by decide) ?_
          rcases mx_if_el hf with ⟨c110, hf⟩ | ⟨c110, hf⟩
          · refine sb_ic_ne hm dX13_tokenize_43 (tgt := 83) rfl (fun _ => ?_) (fun z => absurd c110 z)
            refine mx_S.ext [(0, .ref l0), (1, .int l1), (2, .int v104)] (mx_sub_pos [1, 2, 0] rfl (show ([2, 0, 1] : List Nat).Nodup by decide)) ?_
            exact j_X13_tokenize_83_ok X hF hL nn ih l0 l1 v104 h hf
          · refine sb_ic_ne hm dX13_tokenize_43 (tgt := 83) rfl (fun z => absurd z c110) (fun _ => ?_)
            refine mx_S.pu (pc2 := 47) (lv2 := [(2, .int v104), (0, .ref l0), (1, .int l1)]) (st2 := [.ref l0]) hm dX13_tokenize_46 rfl ?_
            refine mx_S.pu (pc2 := 48) (lv2 := [(2, .int v104), (0, .ref l0), (1, .int l1)]) (st2 := [.int l1, .ref l0]) hm dX13_tokenize_47 rfl ?_
            refine sx_ic (v := 1) hm dX13_tokenize_48 (by decide) ?_
            replace hf := xl_el hf; obtain ⟨v106, e_v106, hf⟩ := hf
            refine mx_S.pu (pc2 := 50) (lv2 := [(2, .int v104), (0, .ref l0), (1, .int l1)]) (st2 := [.int v106, .ref l0]) hm dX13_tokenize_49 (by rw [← e_v106]; rfl) ?_
            clear e_v106
            replace hf := mx_gd_el hf; obtain ⟨c107, hf⟩ := hf
            replace hf := mx_sv_el hf; obtain ⟨u108, e_u108, hf⟩ := hf
            refine sx_cv hm dX13_tokenize_50 rs_RX13_341 mt_X13_at [.int v106] [] (b := l0) (ci := 13) rfl rfl rfl c107 (Nat.le_of_ble_eq_true rfl) (Nat.le_of_ble_eq_true rfl) (by omega) (by omega) (f_X13_at_ok X (by omega) (by omega) nn l0 v106 h e_u108) ?_
            clear e_u108
            show mx_S X F L 390 53 [(2, .int v104), (0, .ref l0), (1, .int l1)] [.int u108.1] u108.2 0 0 (none, r, 0, 0)
            refine sx_bi (v := 47) hm dX13_tokenize_53 (by decide) ?_
            rcases mx_if_el hf with ⟨c109, hf⟩ | ⟨c109, hf⟩
            · refine sb_ic_ne hm dX13_tokenize_55 (tgt := 83) rfl (fun _ => ?_) (fun z => absurd c109 z)
              refine mx_S.ext [(0, .ref l0), (1, .int l1), (2, .int v104)] (mx_sub_pos [1, 2, 0] rfl (show ([2, 0, 1] : List Nat).Nodup by decide)) ?_
              exact j_X13_tokenize_83_ok X hF hL nn ih l0 l1 v104 u108.2 hf
            · refine sb_ic_ne hm dX13_tokenize_55 (tgt := 83) rfl (fun z => absurd z c109) (fun _ => ?_)
              refine mx_S.ext [(0, .ref l0), (1, .int l1)] (mx_sub_pos [1, 2] rfl (show ([2, 0, 1] : List Nat).Nodup by decide)) ?_
              exact w_X13_tokenize_58_ok X hF hL nn ih nn l0 l1 u108.2 _ hf
        · refine sb_ic_ne hm dX13_tokenize_31 (tgt := 40) rfl (fun z => absurd z c112) (fun _ => ?_)
          replace hf := xl_el hf; obtain ⟨v111, e_v111, hf⟩ := hf
          refine mx_S.pu (pc2 := 37) (lv2 := [(1, .int v111), (2, .int v104), (0, .ref l0)]) (st2 := []) hm dX13_tokenize_34 (by rw [← e_v111]; rfl) ?_
          clear e_v111
          refine mx_S.pu (pc2 := 7) (lv2 := [(1, .int v111), (2, .int v104), (0, .ref l0)]) (st2 := []) hm dX13_tokenize_37 rfl ?_
          refine mx_S.ext [(0, .ref l0), (1, .int v111)] (mx_sub_pos [2, 0] rfl (show ([1, 2, 0] : List Nat).Nodup by decide)) ?_
          exact ih l0 v111 h _ hf
set_option maxHeartbeats 4000000 in
set_option maxRecDepth 20000 in
theorem f_X13_tokenize_ok (X : Nat × (Nat → Int32)) {F L : Nat} (hF : 5 ≤ F) (hL : 112 ≤ L) (nn : Nat) (a0 : Nat) (h : mx_H) {r : mx_H} (hf : f_X13_tokenize nn a0 h = some r) : mx_R X F L 390 [.ref a0] h (none, r, 0, 0) := by
  have hm : mx_mt 390 = some (yX13_tokenize, cX13_tokenize, 7, none) := mt_X13_tokenize
  show mx_S X F L 390 0 [(0, .ref a0)] [] h 0 0 (none, r, 0, 0)
  unfold f_X13_tokenize at hf
  refine mx_S.pu (pc2 := 1) (lv2 := [(0, .ref a0)]) (st2 := [.ref a0]) hm dX13_tokenize_0 rfl ?_
  refine sx_ic (v := 0) hm dX13_tokenize_1 (by decide) ?_
  replace hf := mx_sv_el hf; obtain ⟨h115, e_h115, hf⟩ := hf
  refine sx_put hm dX13_tokenize_2 rs_RX13_338 ft_13_8 ⟨rfl, rfl⟩ (fun z => by cases z) e_h115 ?_
  clear e_h115
  refine sx_ic (v := 0) hm dX13_tokenize_5 (by decide) ?_
  refine mx_S.pu (pc2 := 7) (lv2 := [(1, .int 0), (0, .ref a0)]) (st2 := []) hm dX13_tokenize_6 rfl ?_
  refine mx_S.ext [(0, .ref a0), (1, .int 0)] (mx_sub_pos [1, 0] rfl (show ([1, 0] : List Nat).Nodup by decide)) ?_
  exact w_X13_tokenize_7_ok X hF hL nn nn a0 0 h115 _ hf
set_option maxHeartbeats 4000000 in
set_option maxRecDepth 20000 in
theorem w_X13_compile_169_ok (X : Nat × (Nat → Int32)) {F L : Nat} (hF : 1809 ≤ F) (hL : 48807 ≤ L) (nn : Nat) {kk_147 : Nat → Int32 → mx_H → Option (Int32 × mx_H)} (hk_147 : ∀ (l0 : Nat) (l2 : Int32) (h : mx_H) (r : (Int32 × mx_H)), kk_147 l0 l2 h = some r → mx_S X F L 486 147 [(0, .ref l0), (2, .int l2)] [] h 0 0 (some (.int r.1), r.2, 0, 0)) : ∀ (k : Nat) (l0 : Nat) (l2 : Int32) (l3 : Int32) (h : mx_H) (r : (Int32 × mx_H)), w_X13_compile_169 nn kk_147 k l0 l2 l3 h = some r → mx_S X F L 486 169 [(0, .ref l0), (2, .int l2), (3, .int l3)] [] h 0 0 (some (.int r.1), r.2, 0, 0) := by
  have hm : mx_mt 486 = some (yX13_compile, cX13_compile, 4, (some .int)) := mt_X13_compile
  intro k
  induction k with
  | zero => intro l0 l2 l3 h r hf; cases hf
  | succ k ih =>
    intro l0 l2 l3 h r hf
    unfold w_X13_compile_169 at hf
    refine mx_S.pu (pc2 := 170) (lv2 := [(0, .ref l0), (2, .int l2), (3, .int l3)]) (st2 := [.int l3]) hm dX13_compile_169 rfl ?_
    refine mx_S.pu (pc2 := 171) (lv2 := [(0, .ref l0), (2, .int l2), (3, .int l3)]) (st2 := [.ref l0, .int l3]) hm dX13_compile_170 rfl ?_
    replace hf := mx_sv_el hf; obtain ⟨v1, e_v1, hf⟩ := hf
    refine sx_get hm dX13_compile_171 rs_RX13_203 (xgr_el e_v1) ?_
    clear e_v1
    refine mx_S.pu (pc2 := 175) (lv2 := [(0, .ref l0), (2, .int l2), (3, .int l3)]) (st2 := [.int l2, .ref v1, .int l3]) hm dX13_compile_174 rfl ?_
    replace hf := mx_sv_el hf; obtain ⟨v2, e_v2, hf⟩ := hf
    refine sx_ald hm dX13_compile_175 e_v2 ?_
    clear e_v2
    rcases mx_if_el hf with ⟨c13, hf⟩ | ⟨c13, hf⟩
    · refine sb_ic_ge hm dX13_compile_176 (tgt := 209) rfl (fun _ => ?_) (fun z => absurd c13 z)
      replace hf := xl_el hf; obtain ⟨v3, e_v3, hf⟩ := hf
      refine mx_S.pu (pc2 := 212) (lv2 := [(2, .int v3), (0, .ref l0), (3, .int l3)]) (st2 := []) hm dX13_compile_209 (by rw [← e_v3]; rfl) ?_
      clear e_v3
      refine mx_S.pu (pc2 := 147) (lv2 := [(2, .int v3), (0, .ref l0), (3, .int l3)]) (st2 := []) hm dX13_compile_212 rfl ?_
      refine mx_S.ext [(0, .ref l0), (2, .int v3)] (mx_sub_pos [1, 0] rfl (show ([2, 0, 3] : List Nat).Nodup by decide)) ?_
      exact hk_147 l0 v3 h _ hf
    · refine sb_ic_ge hm dX13_compile_176 (tgt := 209) rfl (fun z => absurd z c13) (fun _ => ?_)
      refine mx_S.pu (pc2 := 180) (lv2 := [(0, .ref l0), (2, .int l2), (3, .int l3)]) (st2 := [.ref l0]) hm dX13_compile_179 rfl ?_
      replace hf := mx_sv_el hf; obtain ⟨v4, e_v4, hf⟩ := hf
      refine sx_get hm dX13_compile_180 rs_RX13_194 (xgr_el e_v4) ?_
      clear e_v4
      refine sx_si (v := 6000) hm dX13_compile_183 (by decide) ?_
      refine mx_S.pu (pc2 := 187) (lv2 := [(0, .ref l0), (2, .int l2), (3, .int l3)]) (st2 := [.int l2, .int 6000, .ref v4]) hm dX13_compile_186 rfl ?_
      replace hf := xl_el hf; obtain ⟨v5, e_v5, hf⟩ := hf
      refine mx_S.pu (pc2 := 188) (lv2 := [(0, .ref l0), (2, .int l2), (3, .int l3)]) (st2 := [.int v5, .ref v4]) hm dX13_compile_187 (by rw [← e_v5]; rfl) ?_
      clear e_v5
      refine mx_S.pu (pc2 := 189) (lv2 := [(0, .ref l0), (2, .int l2), (3, .int l3)]) (st2 := [.int l3, .int v5, .ref v4]) hm dX13_compile_188 rfl ?_
      replace hf := xl_el hf; obtain ⟨v6, e_v6, hf⟩ := hf
      refine mx_S.pu (pc2 := 190) (lv2 := [(0, .ref l0), (2, .int l2), (3, .int l3)]) (st2 := [.int v6, .ref v4]) hm dX13_compile_189 (by rw [← e_v6]; rfl) ?_
      clear e_v6
      refine mx_S.pu (pc2 := 191) (lv2 := [(0, .ref l0), (2, .int l2), (3, .int l3)]) (st2 := [.ref l0, .int v6, .ref v4]) hm dX13_compile_190 rfl ?_
      replace hf := mx_sv_el hf; obtain ⟨v7, e_v7, hf⟩ := hf
      refine sx_get hm dX13_compile_191 rs_RX13_200 (xgr_el e_v7) ?_
      clear e_v7
      refine sx_si (v := 6000) hm dX13_compile_194 (by decide) ?_
      refine mx_S.pu (pc2 := 198) (lv2 := [(0, .ref l0), (2, .int l2), (3, .int l3)]) (st2 := [.int l2, .int 6000, .ref v7, .int v6, .ref v4]) hm dX13_compile_197 rfl ?_
      replace hf := xl_el hf; obtain ⟨v8, e_v8, hf⟩ := hf
      refine mx_S.pu (pc2 := 199) (lv2 := [(0, .ref l0), (2, .int l2), (3, .int l3)]) (st2 := [.int v8, .ref v7, .int v6, .ref v4]) hm dX13_compile_198 (by rw [← e_v8]; rfl) ?_
      clear e_v8
      refine mx_S.pu (pc2 := 200) (lv2 := [(0, .ref l0), (2, .int l2), (3, .int l3)]) (st2 := [.int l3, .int v8, .ref v7, .int v6, .ref v4]) hm dX13_compile_199 rfl ?_
      replace hf := xl_el hf; obtain ⟨v9, e_v9, hf⟩ := hf
      refine mx_S.pu (pc2 := 201) (lv2 := [(0, .ref l0), (2, .int l2), (3, .int l3)]) (st2 := [.int v9, .ref v7, .int v6, .ref v4]) hm dX13_compile_200 (by rw [← e_v9]; rfl) ?_
      clear e_v9
      replace hf := mx_sv_el hf; obtain ⟨v10, e_v10, hf⟩ := hf
      refine sx_ald hm dX13_compile_201 e_v10 ?_
      clear e_v10
      replace hf := mx_sv_el hf; obtain ⟨h11, e_h11, hf⟩ := hf
      refine sx_ast hm dX13_compile_202 e_h11 ?_
      clear e_h11
      replace hf := xl_el hf; obtain ⟨v12, e_v12, hf⟩ := hf
      refine mx_S.pu (pc2 := 206) (lv2 := [(3, .int v12), (0, .ref l0), (2, .int l2)]) (st2 := []) hm dX13_compile_203 (by rw [← e_v12]; rfl) ?_
      clear e_v12
      refine mx_S.pu (pc2 := 169) (lv2 := [(3, .int v12), (0, .ref l0), (2, .int l2)]) (st2 := []) hm dX13_compile_206 rfl ?_
      refine mx_S.ext [(0, .ref l0), (2, .int l2), (3, .int v12)] (mx_sub_pos [1, 2, 0] rfl (show ([3, 0, 2] : List Nat).Nodup by decide)) ?_
      exact ih l0 l2 v12 h11 _ hf
set_option maxHeartbeats 4000000 in
set_option maxRecDepth 20000 in
theorem w_X13_compile_147_ok (X : Nat × (Nat → Int32)) {F L : Nat} (hF : 1809 ≤ F) (hL : 48807 ≤ L) (nn : Nat) : ∀ (k : Nat) (l0 : Nat) (l2 : Int32) (h : mx_H) (r : (Int32 × mx_H)), w_X13_compile_147 nn k l0 l2 h = some r → mx_S X F L 486 147 [(0, .ref l0), (2, .int l2)] [] h 0 0 (some (.int r.1), r.2, 0, 0) := by
  have hm : mx_mt 486 = some (yX13_compile, cX13_compile, 4, (some .int)) := mt_X13_compile
  intro k
  induction k with
  | zero => intro l0 l2 h r hf; cases hf
  | succ k ih =>
    intro l0 l2 h r hf
    unfold w_X13_compile_147 at hf
    refine mx_S.pu (pc2 := 148) (lv2 := [(0, .ref l0), (2, .int l2)]) (st2 := [.int l2]) hm dX13_compile_147 rfl ?_
    refine mx_S.pu (pc2 := 149) (lv2 := [(0, .ref l0), (2, .int l2)]) (st2 := [.ref l0, .int l2]) hm dX13_compile_148 rfl ?_
    replace hf := mx_sv_el hf; obtain ⟨v14, e_v14, hf⟩ := hf
    refine sx_get hm dX13_compile_149 rs_RX13_409 (xgi_el e_v14) ?_
    clear e_v14
    rcases mx_if_el hf with ⟨c22, hf⟩ | ⟨c22, hf⟩
    · refine sb_ic_ge hm dX13_compile_152 (tgt := 215) rfl (fun _ => ?_) (fun z => absurd c22 z)
      refine mx_S.pu (pc2 := 216) (lv2 := [(0, .ref l0), (2, .int l2)]) (st2 := [.ref l0]) hm dX13_compile_215 rfl ?_
      refine mx_S.pu (pc2 := 217) (lv2 := [(0, .ref l0), (2, .int l2)]) (st2 := [.ref l0, .ref l0]) hm dX13_compile_216 rfl ?_
      replace hf := mx_sv_el hf; obtain ⟨v15, e_v15, hf⟩ := hf
      refine sx_get hm dX13_compile_217 rs_RX13_409 (xgi_el e_v15) ?_
      clear e_v15
      replace hf := mx_sv_el hf; obtain ⟨h16, e_h16, hf⟩ := hf
      refine sx_put hm dX13_compile_220 rs_RX13_761 ft_13_93 ⟨rfl, rfl⟩ (fun z => by cases z) e_h16 ?_
      clear e_h16
      refine mx_S.pu (pc2 := 224) (lv2 := [(0, .ref l0), (2, .int l2)]) (st2 := [.ref l0]) hm dX13_compile_223 rfl ?_
      replace hf := mx_sv_el hf; obtain ⟨v17, e_v17, hf⟩ := hf
      refine sx_get hm dX13_compile_224 rs_RX13_409 (xgi_el e_v17) ?_
      clear e_v17
      cases hf
      exact sx_ire hm dX13_compile_227 rfl rfl
    · refine sb_ic_ge hm dX13_compile_152 (tgt := 215) rfl (fun z => absurd z c22) (fun _ => ?_)
      refine mx_S.pu (pc2 := 156) (lv2 := [(0, .ref l0), (2, .int l2)]) (st2 := [.ref l0]) hm dX13_compile_155 rfl ?_
      replace hf := mx_sv_el hf; obtain ⟨v18, e_v18, hf⟩ := hf
      refine sx_get hm dX13_compile_156 rs_RX13_197 (xgr_el e_v18) ?_
      clear e_v18
      refine mx_S.pu (pc2 := 160) (lv2 := [(0, .ref l0), (2, .int l2)]) (st2 := [.int l2, .ref v18]) hm dX13_compile_159 rfl ?_
      refine mx_S.pu (pc2 := 161) (lv2 := [(0, .ref l0), (2, .int l2)]) (st2 := [.ref l0, .int l2, .ref v18]) hm dX13_compile_160 rfl ?_
      replace hf := mx_sv_el hf; obtain ⟨v19, e_v19, hf⟩ := hf
      refine sx_get hm dX13_compile_161 rs_RX13_203 (xgr_el e_v19) ?_
      clear e_v19
      refine mx_S.pu (pc2 := 165) (lv2 := [(0, .ref l0), (2, .int l2)]) (st2 := [.int l2, .ref v19, .int l2, .ref v18]) hm dX13_compile_164 rfl ?_
      replace hf := mx_sv_el hf; obtain ⟨v20, e_v20, hf⟩ := hf
      refine sx_ald hm dX13_compile_165 e_v20 ?_
      clear e_v20
      replace hf := mx_sv_el hf; obtain ⟨h21, e_h21, hf⟩ := hf
      refine sx_ast hm dX13_compile_166 e_h21 ?_
      clear e_h21
      refine sx_ic (v := 0) hm dX13_compile_167 (by decide) ?_
      refine mx_S.pu (pc2 := 169) (lv2 := [(3, .int 0), (0, .ref l0), (2, .int l2)]) (st2 := []) hm dX13_compile_168 rfl ?_
      refine mx_S.ext [(0, .ref l0), (2, .int l2), (3, .int 0)] (mx_sub_pos [1, 2, 0] rfl (show ([3, 0, 2] : List Nat).Nodup by decide)) ?_
      exact w_X13_compile_169_ok X hF hL nn ih nn l0 l2 0 h21 _ hf
set_option maxHeartbeats 4000000 in
set_option maxRecDepth 20000 in
theorem j_X13_compile_136_ok (X : Nat × (Nat → Int32)) {F L : Nat} (hF : 1809 ≤ F) (hL : 48807 ≤ L) (nn : Nat) (l0 : Nat) (h : mx_H) {r : (Int32 × mx_H)} (hf : j_X13_compile_136 nn l0 h = some r) : mx_S X F L 486 136 [(0, .ref l0)] [] h 0 0 (some (.int r.1), r.2, 0, 0) := by
  have hm : mx_mt 486 = some (yX13_compile, cX13_compile, 4, (some .int)) := mt_X13_compile
  unfold j_X13_compile_136 at hf
  refine mx_S.pu (pc2 := 137) (lv2 := [(0, .ref l0)]) (st2 := [.ref l0]) hm dX13_compile_136 rfl ?_
  replace hf := mx_sv_el hf; obtain ⟨v23, e_v23, hf⟩ := hf
  refine sx_get hm dX13_compile_137 rs_RX13_319 (xgi_el e_v23) ?_
  clear e_v23
  rcases mx_if_el hf with ⟨c24, hf⟩ | ⟨c24, hf⟩
  · refine sb_if_eq hm dX13_compile_140 (tgt := 145) rfl (fun _ => ?_) (fun z => absurd c24 z)
    refine sx_ic (v := 0) hm dX13_compile_145 (by decide) ?_
    refine mx_S.pu (pc2 := 147) (lv2 := [(2, .int 0), (0, .ref l0)]) (st2 := []) hm dX13_compile_146 rfl ?_
    refine mx_S.ext [(0, .ref l0), (2, .int 0)] (mx_sub_pos [1, 0] rfl (show ([2, 0] : List Nat).Nodup by decide)) ?_
    exact w_X13_compile_147_ok X hF hL nn nn l0 0 h _ hf
  · refine sb_if_eq hm dX13_compile_140 (tgt := 145) rfl (fun z => absurd z c24) (fun _ => ?_)
    refine sx_ic (v := (-1)) hm dX13_compile_143 (by decide) ?_
    cases hf
    exact sx_ire hm dX13_compile_144 rfl rfl
set_option maxHeartbeats 4000000 in
set_option maxRecDepth 20000 in
theorem w_X13_compile_110_ok (X : Nat × (Nat → Int32)) {F L : Nat} (hF : 1809 ≤ F) (hL : 48807 ≤ L) (nn : Nat) : ∀ (k : Nat) (l0 : Nat) (l2 : Int32) (h : mx_H) (r : (Int32 × mx_H)), w_X13_compile_110 nn k l0 l2 h = some r → mx_S X F L 486 110 [(0, .ref l0), (2, .int l2)] [] h 0 0 (some (.int r.1), r.2, 0, 0) := by
  have hm : mx_mt 486 = some (yX13_compile, cX13_compile, 4, (some .int)) := mt_X13_compile
  intro k
  induction k with
  | zero => intro l0 l2 h r hf; cases hf
  | succ k ih =>
    intro l0 l2 h r hf
    unfold w_X13_compile_110 at hf
    refine mx_S.pu (pc2 := 111) (lv2 := [(0, .ref l0), (2, .int l2)]) (st2 := [.int l2]) hm dX13_compile_110 rfl ?_
    refine mx_S.pu (pc2 := 112) (lv2 := [(0, .ref l0), (2, .int l2)]) (st2 := [.ref l0, .int l2]) hm dX13_compile_111 rfl ?_
    replace hf := mx_sv_el hf; obtain ⟨v25, e_v25, hf⟩ := hf
    refine sx_get hm dX13_compile_112 rs_RX13_409 (xgi_el e_v25) ?_
    clear e_v25
    rcases mx_if_el hf with ⟨c31, hf⟩ | ⟨c31, hf⟩
    · refine sb_ic_ge hm dX13_compile_115 (tgt := 136) rfl (fun _ => ?_) (fun z => absurd c31 z)
      refine mx_S.ext [(0, .ref l0)] (mx_sub_pos [0] rfl (show ([0, 2] : List Nat).Nodup by decide)) ?_
      exact j_X13_compile_136_ok X hF hL nn l0 h hf
    · refine sb_ic_ge hm dX13_compile_115 (tgt := 136) rfl (fun z => absurd z c31) (fun _ => ?_)
      refine mx_S.pu (pc2 := 119) (lv2 := [(0, .ref l0), (2, .int l2)]) (st2 := [.ref l0]) hm dX13_compile_118 rfl ?_
      replace hf := mx_sv_el hf; obtain ⟨v26, e_v26, hf⟩ := hf
      refine sx_get hm dX13_compile_119 rs_RX13_319 (xgi_el e_v26) ?_
      clear e_v26
      rcases mx_if_el hf with ⟨c30, hf⟩ | ⟨c30, hf⟩
      · refine sb_if_ne hm dX13_compile_122 (tgt := 136) rfl (fun _ => ?_) (fun z => absurd c30 z)
        refine mx_S.ext [(0, .ref l0)] (mx_sub_pos [0] rfl (show ([0, 2] : List Nat).Nodup by decide)) ?_
        exact j_X13_compile_136_ok X hF hL nn l0 h hf
      · refine sb_if_ne hm dX13_compile_122 (tgt := 136) rfl (fun z => absurd z c30) (fun _ => ?_)
        refine mx_S.pu (pc2 := 126) (lv2 := [(0, .ref l0), (2, .int l2)]) (st2 := [.ref l0]) hm dX13_compile_125 rfl ?_
        refine mx_S.pu (pc2 := 127) (lv2 := [(0, .ref l0), (2, .int l2)]) (st2 := [.int l2, .ref l0]) hm dX13_compile_126 rfl ?_
        replace hf := mx_gd_el hf; obtain ⟨c27, hf⟩ := hf
        replace hf := mx_sv_el hf; obtain ⟨u28, e_u28, hf⟩ := hf
        refine sx_cv hm dX13_compile_127 rs_RX13_758 mt_X13_makeClass [.int l2] [] (b := l0) (ci := 13) rfl rfl rfl c27 (Nat.le_of_ble_eq_true rfl) (Nat.le_of_ble_eq_true rfl) (by omega) (by omega) (f_X13_makeClass_ok X (by omega) (by omega) nn l0 l2 h e_u28) ?_
        clear e_u28
        show mx_S X F L 486 130 [(0, .ref l0), (2, .int l2)] [] u28 0 0 (some (.int r.1), r.2, 0, 0)
        replace hf := xl_el hf; obtain ⟨v29, e_v29, hf⟩ := hf
        refine mx_S.pu (pc2 := 133) (lv2 := [(2, .int v29), (0, .ref l0)]) (st2 := []) hm dX13_compile_130 (by rw [← e_v29]; rfl) ?_
        clear e_v29
        refine mx_S.pu (pc2 := 110) (lv2 := [(2, .int v29), (0, .ref l0)]) (st2 := []) hm dX13_compile_133 rfl ?_
        refine mx_S.ext [(0, .ref l0), (2, .int v29)] (mx_sub_pos [1, 0] rfl (show ([2, 0] : List Nat).Nodup by decide)) ?_
        exact ih l0 v29 u28 _ hf
set_option maxHeartbeats 4000000 in
set_option maxRecDepth 20000 in
theorem j_X13_compile_97_ok (X : Nat × (Nat → Int32)) {F L : Nat} (hF : 1809 ≤ F) (hL : 48807 ≤ L) (nn : Nat) (l0 : Nat) (h : mx_H) {r : (Int32 × mx_H)} (hf : j_X13_compile_97 nn l0 h = some r) : mx_S X F L 486 97 [(0, .ref l0)] [] h 0 0 (some (.int r.1), r.2, 0, 0) := by
  have hm : mx_mt 486 = some (yX13_compile, cX13_compile, 4, (some .int)) := mt_X13_compile
  unfold j_X13_compile_97 at hf
  refine mx_S.pu (pc2 := 98) (lv2 := [(0, .ref l0)]) (st2 := [.ref l0]) hm dX13_compile_97 rfl ?_
  replace hf := mx_sv_el hf; obtain ⟨v32, e_v32, hf⟩ := hf
  refine sx_get hm dX13_compile_98 rs_RX13_319 (xgi_el e_v32) ?_
  clear e_v32
  rcases mx_if_el hf with ⟨c35, hf⟩ | ⟨c35, hf⟩
  · refine sb_if_ne hm dX13_compile_101 (tgt := 108) rfl (fun _ => ?_) (fun z => absurd c35 z)
    refine sx_ic (v := 0) hm dX13_compile_108 (by decide) ?_
    refine mx_S.pu (pc2 := 110) (lv2 := [(2, .int 0), (0, .ref l0)]) (st2 := []) hm dX13_compile_109 rfl ?_
    refine mx_S.ext [(0, .ref l0), (2, .int 0)] (mx_sub_pos [1, 0] rfl (show ([2, 0] : List Nat).Nodup by decide)) ?_
    exact w_X13_compile_110_ok X hF hL nn nn l0 0 h _ hf
  · refine sb_if_ne hm dX13_compile_101 (tgt := 108) rfl (fun z => absurd z c35) (fun _ => ?_)
    refine mx_S.pu (pc2 := 105) (lv2 := [(0, .ref l0)]) (st2 := [.ref l0]) hm dX13_compile_104 rfl ?_
    replace hf := mx_gd_el hf; obtain ⟨c33, hf⟩ := hf
    replace hf := mx_sv_el hf; obtain ⟨u34, e_u34, hf⟩ := hf
    refine sx_cv hm dX13_compile_105 rs_RX13_755 mt_X13_bodies [] [] (b := l0) (ci := 13) rfl rfl rfl c33 (Nat.le_of_ble_eq_true rfl) (Nat.le_of_ble_eq_true rfl) (by omega) (by omega) (f_X13_bodies_ok X (by omega) (by omega) nn l0 h e_u34) ?_
    clear e_u34
    show mx_S X F L 486 108 [(0, .ref l0)] [] u34 0 0 (some (.int r.1), r.2, 0, 0)
    refine sx_ic (v := 0) hm dX13_compile_108 (by decide) ?_
    refine mx_S.pu (pc2 := 110) (lv2 := [(2, .int 0), (0, .ref l0)]) (st2 := []) hm dX13_compile_109 rfl ?_
    refine mx_S.ext [(0, .ref l0), (2, .int 0)] (mx_sub_pos [1, 0] rfl (show ([2, 0] : List Nat).Nodup by decide)) ?_
    exact w_X13_compile_110_ok X hF hL nn nn l0 0 u34 _ hf
set_option maxHeartbeats 4000000 in
set_option maxRecDepth 20000 in
theorem j_X13_compile_86_ok (X : Nat × (Nat → Int32)) {F L : Nat} (hF : 1809 ≤ F) (hL : 48807 ≤ L) (nn : Nat) (l0 : Nat) (h : mx_H) {r : (Int32 × mx_H)} (hf : j_X13_compile_86 nn l0 h = some r) : mx_S X F L 486 86 [(0, .ref l0)] [] h 0 0 (some (.int r.1), r.2, 0, 0) := by
  have hm : mx_mt 486 = some (yX13_compile, cX13_compile, 4, (some .int)) := mt_X13_compile
  unfold j_X13_compile_86 at hf
  refine mx_S.pu (pc2 := 87) (lv2 := [(0, .ref l0)]) (st2 := [.ref l0]) hm dX13_compile_86 rfl ?_
  replace hf := mx_sv_el hf; obtain ⟨v36, e_v36, hf⟩ := hf
  refine sx_get hm dX13_compile_87 rs_RX13_319 (xgi_el e_v36) ?_
  clear e_v36
  rcases mx_if_el hf with ⟨c39, hf⟩ | ⟨c39, hf⟩
  · refine sb_if_ne hm dX13_compile_90 (tgt := 97) rfl (fun _ => ?_) (fun z => absurd c39 z)
    exact j_X13_compile_97_ok X hF hL nn l0 h hf
  · refine sb_if_ne hm dX13_compile_90 (tgt := 97) rfl (fun z => absurd z c39) (fun _ => ?_)
    refine mx_S.pu (pc2 := 94) (lv2 := [(0, .ref l0)]) (st2 := [.ref l0]) hm dX13_compile_93 rfl ?_
    replace hf := mx_gd_el hf; obtain ⟨c37, hf⟩ := hf
    replace hf := mx_sv_el hf; obtain ⟨u38, e_u38, hf⟩ := hf
    refine sx_cv hm dX13_compile_94 rs_RX13_752 mt_X13_heads [] [] (b := l0) (ci := 13) rfl rfl rfl c37 (Nat.le_of_ble_eq_true rfl) (Nat.le_of_ble_eq_true rfl) (by omega) (by omega) (f_X13_heads_ok X (by omega) (by omega) nn l0 h e_u38) ?_
    clear e_u38
    show mx_S X F L 486 97 [(0, .ref l0)] [] u38 0 0 (some (.int r.1), r.2, 0, 0)
    exact j_X13_compile_97_ok X hF hL nn l0 u38 hf
set_option maxHeartbeats 4000000 in
set_option maxRecDepth 20000 in
theorem w_X13_compile_43_ok (X : Nat × (Nat → Int32)) {F L : Nat} (hF : 1809 ≤ F) (hL : 48807 ≤ L) (nn : Nat) : ∀ (k : Nat) (l0 : Nat) (l1 : Int32) (l2 : Int32) (h : mx_H) (r : (Int32 × mx_H)), w_X13_compile_43 nn k l0 l1 l2 h = some r → mx_S X F L 486 43 [(0, .ref l0), (1, .int l1), (2, .int l2)] [] h 0 0 (some (.int r.1), r.2, 0, 0) := by
  have hm : mx_mt 486 = some (yX13_compile, cX13_compile, 4, (some .int)) := mt_X13_compile
  intro k
  induction k with
  | zero => intro l0 l1 l2 h r hf; cases hf
  | succ k ih =>
    intro l0 l1 l2 h r hf
    unfold w_X13_compile_43 at hf
    refine mx_S.pu (pc2 := 44) (lv2 := [(0, .ref l0), (1, .int l1), (2, .int l2)]) (st2 := [.int l2]) hm dX13_compile_43 rfl ?_
    refine mx_S.pu (pc2 := 45) (lv2 := [(0, .ref l0), (1, .int l1), (2, .int l2)]) (st2 := [.int l1, .int l2]) hm dX13_compile_44 rfl ?_
    rcases mx_if_el hf with ⟨c52, hf⟩ | ⟨c52, hf⟩
    · refine sb_ic_ge hm dX13_compile_45 (tgt := 66) rfl (fun _ => ?_) (fun z => absurd c52 z)
      refine mx_S.pu (pc2 := 67) (lv2 := [(0, .ref l0), (1, .int l1), (2, .int l2)]) (st2 := [.ref l0]) hm dX13_compile_66 rfl ?_
      refine mx_S.pu (pc2 := 68) (lv2 := [(0, .ref l0), (1, .int l1), (2, .int l2)]) (st2 := [.int l1, .ref l0]) hm dX13_compile_67 rfl ?_
      replace hf := mx_sv_el hf; obtain ⟨h40, e_h40, hf⟩ := hf
      refine sx_put hm dX13_compile_68 rs_RX13_325 ft_13_3 ⟨rfl, rfl⟩ (fun z => by cases z) e_h40 ?_
      clear e_h40
      refine mx_S.pu (pc2 := 72) (lv2 := [(0, .ref l0), (1, .int l1), (2, .int l2)]) (st2 := [.ref l0]) hm dX13_compile_71 rfl ?_
      replace hf := mx_gd_el hf; obtain ⟨c41, hf⟩ := hf
      replace hf := mx_sv_el hf; obtain ⟨u42, e_u42, hf⟩ := hf
      refine sx_cv hm dX13_compile_72 rs_RX13_746 mt_X13_tokenize [] [] (b := l0) (ci := 13) rfl rfl rfl c41 (Nat.le_of_ble_eq_true rfl) (Nat.le_of_ble_eq_true rfl) (by omega) (by omega) (f_X13_tokenize_ok X (by omega) (by omega) nn l0 h40 e_u42) ?_
      clear e_u42
      show mx_S X F L 486 75 [(0, .ref l0), (1, .int l1), (2, .int l2)] [] u42 0 0 (some (.int r.1), r.2, 0, 0)
      refine mx_S.pu (pc2 := 76) (lv2 := [(0, .ref l0), (1, .int l1), (2, .int l2)]) (st2 := [.ref l0]) hm dX13_compile_75 rfl ?_
      replace hf := mx_sv_el hf; obtain ⟨v43, e_v43, hf⟩ := hf
      refine sx_get hm dX13_compile_76 rs_RX13_319 (xgi_el e_v43) ?_
      clear e_v43
      rcases mx_if_el hf with ⟨c46, hf⟩ | ⟨c46, hf⟩
      · refine sb_if_ne hm dX13_compile_79 (tgt := 86) rfl (fun _ => ?_) (fun z => absurd c46 z)
        refine mx_S.ext [(0, .ref l0)] (mx_sub_pos [0] rfl (show ([0, 1, 2] : List Nat).Nodup by decide)) ?_
        exact j_X13_compile_86_ok X hF hL nn l0 u42 hf
      · refine sb_if_ne hm dX13_compile_79 (tgt := 86) rfl (fun z => absurd z c46) (fun _ => ?_)
        refine mx_S.pu (pc2 := 83) (lv2 := [(0, .ref l0), (1, .int l1), (2, .int l2)]) (st2 := [.ref l0]) hm dX13_compile_82 rfl ?_
        replace hf := mx_gd_el hf; obtain ⟨c44, hf⟩ := hf
        replace hf := mx_sv_el hf; obtain ⟨u45, e_u45, hf⟩ := hf
        refine sx_cv hm dX13_compile_83 rs_RX13_749 mt_X13_program [] [] (b := l0) (ci := 13) rfl rfl rfl c44 (Nat.le_of_ble_eq_true rfl) (Nat.le_of_ble_eq_true rfl) (by omega) (by omega) (f_X13_program_ok X (by omega) (by omega) nn l0 u42 e_u45) ?_
        clear e_u45
        show mx_S X F L 486 86 [(0, .ref l0), (1, .int l1), (2, .int l2)] [] u45 0 0 (some (.int r.1), r.2, 0, 0)
        refine mx_S.ext [(0, .ref l0)] (mx_sub_pos [0] rfl (show ([0, 1, 2] : List Nat).Nodup by decide)) ?_
        exact j_X13_compile_86_ok X hF hL nn l0 u45 hf
    · refine sb_ic_ge hm dX13_compile_45 (tgt := 66) rfl (fun z => absurd z c52) (fun _ => ?_)
      refine mx_S.pu (pc2 := 49) (lv2 := [(0, .ref l0), (1, .int l1), (2, .int l2)]) (st2 := [.ref l0]) hm dX13_compile_48 rfl ?_
      replace hf := mx_sv_el hf; obtain ⟨v47, e_v47, hf⟩ := hf
      refine sx_get hm dX13_compile_49 rs_RX13_13 (xgr_el e_v47) ?_
      clear e_v47
      refine mx_S.pu (pc2 := 53) (lv2 := [(0, .ref l0), (1, .int l1), (2, .int l2)]) (st2 := [.int l2, .ref v47]) hm dX13_compile_52 rfl ?_
      refine mx_S.pu (pc2 := 54) (lv2 := [(0, .ref l0), (1, .int l1), (2, .int l2)]) (st2 := [.ref l0, .int l2, .ref v47]) hm dX13_compile_53 rfl ?_
      replace hf := mx_sv_el hf; obtain ⟨v48, e_v48, hf⟩ := hf
      refine sx_get hm dX13_compile_54 rs_RX13_9 (xgr_el e_v48) ?_
      clear e_v48
      refine mx_S.pu (pc2 := 58) (lv2 := [(0, .ref l0), (1, .int l1), (2, .int l2)]) (st2 := [.int l2, .ref v48, .int l2, .ref v47]) hm dX13_compile_57 rfl ?_
      replace hf := mx_sv_el hf; obtain ⟨v49, e_v49, hf⟩ := hf
      refine sx_ald hm dX13_compile_58 e_v49 ?_
      clear e_v49
      replace hf := mx_sv_el hf; obtain ⟨h50, e_h50, hf⟩ := hf
      refine sx_ast hm dX13_compile_59 e_h50 ?_
      clear e_h50
      replace hf := xl_el hf; obtain ⟨v51, e_v51, hf⟩ := hf
      refine mx_S.pu (pc2 := 63) (lv2 := [(2, .int v51), (0, .ref l0), (1, .int l1)]) (st2 := []) hm dX13_compile_60 (by rw [← e_v51]; rfl) ?_
      clear e_v51
      refine mx_S.pu (pc2 := 43) (lv2 := [(2, .int v51), (0, .ref l0), (1, .int l1)]) (st2 := []) hm dX13_compile_63 rfl ?_
      refine mx_S.ext [(0, .ref l0), (1, .int l1), (2, .int v51)] (mx_sub_pos [1, 2, 0] rfl (show ([2, 0, 1] : List Nat).Nodup by decide)) ?_
      exact ih l0 l1 v51 h50 _ hf
set_option maxHeartbeats 4000000 in
set_option maxRecDepth 20000 in
theorem f_X13_compile_ok (X : Nat × (Nat → Int32)) {F L : Nat} (hF : 1809 ≤ F) (hL : 48807 ≤ L) (nn : Nat) (a0 : Nat) (h : mx_H) {r : (Int32 × mx_H)} (hf : f_X13_compile nn a0 h = some r) : mx_R X F L 486 [.ref a0] h (some (.int r.1), r.2, 0, 0) := by
  have hm : mx_mt 486 = some (yX13_compile, cX13_compile, 4, (some .int)) := mt_X13_compile
  show mx_S X F L 486 0 [(0, .ref a0)] [] h 0 0 (some (.int r.1), r.2, 0, 0)
  unfold f_X13_compile at hf
  refine mx_S.pu (pc2 := 1) (lv2 := [(0, .ref a0)]) (st2 := [.ref a0]) hm dX13_compile_0 rfl ?_
  replace hf := mx_sv_el hf; obtain ⟨v53, e_v53, hf⟩ := hf
  refine sx_get hm dX13_compile_1 rs_RX13_312 (xgi_el e_v53) ?_
  clear e_v53
  refine mx_S.pu (pc2 := 5) (lv2 := [(1, .int v53), (0, .ref a0)]) (st2 := []) hm dX13_compile_4 rfl ?_
  refine mx_S.pu (pc2 := 6) (lv2 := [(1, .int v53), (0, .ref a0)]) (st2 := [.ref a0]) hm dX13_compile_5 rfl ?_
  refine sx_ic (v := 0) hm dX13_compile_6 (by decide) ?_
  replace hf := mx_sv_el hf; obtain ⟨h54, e_h54, hf⟩ := hf
  refine sx_put hm dX13_compile_7 rs_RX13_312 ft_13_1 ⟨rfl, rfl⟩ (fun z => by cases z) e_h54 ?_
  clear e_h54
  refine mx_S.pu (pc2 := 11) (lv2 := [(1, .int v53), (0, .ref a0)]) (st2 := [.ref a0]) hm dX13_compile_10 rfl ?_
  refine sx_ic (v := 0) hm dX13_compile_11 (by decide) ?_
  replace hf := mx_sv_el hf; obtain ⟨h55, e_h55, hf⟩ := hf
  refine sx_put hm dX13_compile_12 rs_RX13_319 ft_13_9 ⟨rfl, rfl⟩ (fun z => by cases z) e_h55 ?_
  clear e_h55
  refine mx_S.pu (pc2 := 16) (lv2 := [(1, .int v53), (0, .ref a0)]) (st2 := [.ref a0]) hm dX13_compile_15 rfl ?_
  refine sx_ic (v := (-1)) hm dX13_compile_16 (by decide) ?_
  replace hf := mx_sv_el hf; obtain ⟨h56, e_h56, hf⟩ := hf
  refine sx_put hm dX13_compile_17 rs_RX13_322 ft_13_10 ⟨rfl, rfl⟩ (fun z => by cases z) e_h56 ?_
  clear e_h56
  refine mx_S.pu (pc2 := 21) (lv2 := [(1, .int v53), (0, .ref a0)]) (st2 := [.int v53]) hm dX13_compile_20 rfl ?_
  refine sx_si (v := 3000) hm dX13_compile_21 (by decide) ?_
  rcases mx_if_el hf with ⟨c59, hf⟩ | ⟨c59, hf⟩
  · refine sb_ic_le hm dX13_compile_24 (tgt := 41) rfl (fun _ => ?_) (fun z => absurd c59 z)
    refine sx_ic (v := 0) hm dX13_compile_41 (by decide) ?_
    refine mx_S.pu (pc2 := 43) (lv2 := [(2, .int 0), (1, .int v53), (0, .ref a0)]) (st2 := []) hm dX13_compile_42 rfl ?_
    refine mx_S.ext [(0, .ref a0), (1, .int v53), (2, .int 0)] (mx_sub_pos [2, 1, 0] rfl (show ([2, 1, 0] : List Nat).Nodup by decide)) ?_
    exact w_X13_compile_43_ok X hF hL nn nn a0 v53 0 h56 _ hf
  · refine sb_ic_le hm dX13_compile_24 (tgt := 41) rfl (fun z => absurd z c59) (fun _ => ?_)
    refine mx_S.pu (pc2 := 28) (lv2 := [(1, .int v53), (0, .ref a0)]) (st2 := [.ref a0]) hm dX13_compile_27 rfl ?_
    refine sx_ic (v := 1) hm dX13_compile_28 (by decide) ?_
    replace hf := mx_sv_el hf; obtain ⟨h57, e_h57, hf⟩ := hf
    refine sx_put hm dX13_compile_29 rs_RX13_319 ft_13_9 ⟨rfl, rfl⟩ (fun z => by cases z) e_h57 ?_
    clear e_h57
    refine mx_S.pu (pc2 := 33) (lv2 := [(1, .int v53), (0, .ref a0)]) (st2 := [.ref a0]) hm dX13_compile_32 rfl ?_
    refine sx_si (v := 3000) hm dX13_compile_33 (by decide) ?_
    replace hf := mx_sv_el hf; obtain ⟨h58, e_h58, hf⟩ := hf
    refine sx_put hm dX13_compile_36 rs_RX13_322 ft_13_10 ⟨rfl, rfl⟩ (fun z => by cases z) e_h58 ?_
    clear e_h58
    refine sx_ic (v := (-1)) hm dX13_compile_39 (by decide) ?_
    cases hf
    exact sx_ire hm dX13_compile_40 rfl rfl
set_option maxHeartbeats 4000000 in
set_option maxRecDepth 20000 in
theorem f_X13_end_ok (X : Nat × (Nat → Int32)) {F L : Nat} (hF : 0 ≤ F) (hL : 0 ≤ L) (nn : Nat) (a0 : Nat) (a1 : Int32) (h : mx_H) {r : (Int32 × mx_H)} (hf : f_X13_end nn a0 a1 h = some r) : mx_R X F L 382 [.ref a0, .int a1] h (some (.int r.1), r.2, 0, 0) := by
  have hm : mx_mt 382 = some (yX13_end, cX13_end, 2, (some .boolean)) := mt_X13_end
  show mx_S X F L 382 0 [(0, .ref a0), (1, .int a1)] [] h 0 0 (some (.int r.1), r.2, 0, 0)
  unfold f_X13_end at hf
  refine mx_S.pu (pc2 := 1) (lv2 := [(0, .ref a0), (1, .int a1)]) (st2 := [.int a1]) hm dX13_end_0 rfl ?_
  rcases mx_if_el hf with ⟨c4, hf⟩ | ⟨c4, hf⟩
  · refine sb_if_lt hm dX13_end_1 (tgt := 12) rfl (fun _ => ?_) (fun z => absurd c4 z)
    refine sx_ic (v := 0) hm dX13_end_12 (by decide) ?_
    cases hf
    exact sx_ire hm dX13_end_13 rfl (by decide)
  · refine sb_if_lt hm dX13_end_1 (tgt := 12) rfl (fun z => absurd z c4) (fun _ => ?_)
    refine mx_S.pu (pc2 := 5) (lv2 := [(0, .ref a0), (1, .int a1)]) (st2 := [.int a1]) hm dX13_end_4 rfl ?_
    refine mx_S.pu (pc2 := 6) (lv2 := [(0, .ref a0), (1, .int a1)]) (st2 := [.ref a0, .int a1]) hm dX13_end_5 rfl ?_
    replace hf := mx_sv_el hf; obtain ⟨v1, e_v1, hf⟩ := hf
    refine sx_get hm dX13_end_6 rs_RX13_312 (xgi_el e_v1) ?_
    clear e_v1
    rcases mx_if_el hf with ⟨c3, hf⟩ | ⟨c3, hf⟩
    · refine sb_ic_le hm dX13_end_9 (tgt := 14) rfl (fun _ => ?_) (fun z => absurd c3 z)
      refine mx_S.pu (pc2 := 15) (lv2 := [(0, .ref a0), (1, .int a1)]) (st2 := [.ref a0]) hm dX13_end_14 rfl ?_
      refine mx_S.pu (pc2 := 16) (lv2 := [(0, .ref a0), (1, .int a1)]) (st2 := [.int a1, .ref a0]) hm dX13_end_15 rfl ?_
      replace hf := mx_sv_el hf; obtain ⟨h2, e_h2, hf⟩ := hf
      refine sx_put hm dX13_end_16 rs_RX13_312 ft_13_1 ⟨rfl, rfl⟩ (fun z => by cases z) e_h2 ?_
      clear e_h2
      refine sx_ic (v := 1) hm dX13_end_19 (by decide) ?_
      cases hf
      exact sx_ire hm dX13_end_20 rfl (by decide)
    · refine sb_ic_le hm dX13_end_9 (tgt := 14) rfl (fun z => absurd z c3) (fun _ => ?_)
      refine sx_ic (v := 0) hm dX13_end_12 (by decide) ?_
      cases hf
      exact sx_ire hm dX13_end_13 rfl (by decide)
set_option maxHeartbeats 4000000 in
set_option maxRecDepth 20000 in
theorem f_X13_fault_ok (X : Nat × (Nat → Int32)) {F L : Nat} (hF : 0 ≤ F) (hL : 0 ≤ L) (nn : Nat) (a0 : Nat) (a1 : Int32) (h : mx_H) {r : (Int32 × mx_H)} (hf : f_X13_fault nn a0 a1 h = some r) : mx_R X F L 487 [.ref a0, .int a1] h (some (.int r.1), r.2, 0, 0) := by
  have hm : mx_mt 487 = some (yX13_fault, cX13_fault, 2, (some .int)) := mt_X13_fault
  show mx_S X F L 487 0 [(0, .ref a0), (1, .int a1)] [] h 0 0 (some (.int r.1), r.2, 0, 0)
  unfold f_X13_fault at hf
  refine mx_S.pu (pc2 := 1) (lv2 := [(0, .ref a0), (1, .int a1)]) (st2 := [.int a1]) hm dX13_fault_0 rfl ?_
  rcases mx_if_el hf with ⟨c6, hf⟩ | ⟨c6, hf⟩
  · refine sb_if_ne hm dX13_fault_1 (tgt := 11) rfl (fun _ => ?_) (fun z => absurd c6 z)
    refine mx_S.pu (pc2 := 12) (lv2 := [(0, .ref a0), (1, .int a1)]) (st2 := [.int a1]) hm dX13_fault_11 rfl ?_
    refine sx_ic (v := 1) hm dX13_fault_12 (by decide) ?_
    rcases mx_if_el hf with ⟨c4, hf⟩ | ⟨c4, hf⟩
    · refine sb_ic_ne hm dX13_fault_13 (tgt := 30) rfl (fun _ => ?_) (fun z => absurd c4 z)
      refine sx_ic (v := (-1)) hm dX13_fault_30 (by decide) ?_
      cases hf
      exact sx_ire hm dX13_fault_31 rfl rfl
    · refine sb_ic_ne hm dX13_fault_13 (tgt := 30) rfl (fun z => absurd z c4) (fun _ => ?_)
      refine mx_S.pu (pc2 := 17) (lv2 := [(0, .ref a0), (1, .int a1)]) (st2 := [.ref a0]) hm dX13_fault_16 rfl ?_
      replace hf := mx_sv_el hf; obtain ⟨v1, e_v1, hf⟩ := hf
      refine sx_get hm dX13_fault_17 rs_RX13_319 (xgi_el e_v1) ?_
      clear e_v1
      rcases mx_if_el hf with ⟨c3, hf⟩ | ⟨c3, hf⟩
      · refine sb_if_le hm dX13_fault_20 (tgt := 30) rfl (fun _ => ?_) (fun z => absurd c3 z)
        refine sx_ic (v := (-1)) hm dX13_fault_30 (by decide) ?_
        cases hf
        exact sx_ire hm dX13_fault_31 rfl rfl
      · refine sb_if_le hm dX13_fault_20 (tgt := 30) rfl (fun z => absurd z c3) (fun _ => ?_)
        refine mx_S.pu (pc2 := 24) (lv2 := [(0, .ref a0), (1, .int a1)]) (st2 := [.ref a0]) hm dX13_fault_23 rfl ?_
        replace hf := mx_sv_el hf; obtain ⟨v2, e_v2, hf⟩ := hf
        refine sx_get hm dX13_fault_24 rs_RX13_322 (xgi_el e_v2) ?_
        clear e_v2
        refine mx_S.pu (pc2 := 31) (lv2 := [(0, .ref a0), (1, .int a1)]) (st2 := [.int v2]) hm dX13_fault_27 rfl ?_
        cases hf
        exact sx_ire hm dX13_fault_31 rfl rfl
  · refine sb_if_ne hm dX13_fault_1 (tgt := 11) rfl (fun z => absurd z c6) (fun _ => ?_)
    refine mx_S.pu (pc2 := 5) (lv2 := [(0, .ref a0), (1, .int a1)]) (st2 := [.ref a0]) hm dX13_fault_4 rfl ?_
    replace hf := mx_sv_el hf; obtain ⟨v5, e_v5, hf⟩ := hf
    refine sx_get hm dX13_fault_5 rs_RX13_319 (xgi_el e_v5) ?_
    clear e_v5
    refine mx_S.pu (pc2 := 31) (lv2 := [(0, .ref a0), (1, .int a1)]) (st2 := [.int v5]) hm dX13_fault_8 rfl ?_
    cases hf
    exact sx_ire hm dX13_fault_31 rfl rfl
set_option maxHeartbeats 4000000 in
set_option maxRecDepth 20000 in
theorem w_X13_lay_3_ok (X : Nat × (Nat → Int32)) {F L : Nat} (hF : 0 ≤ F) (hL : 0 ≤ L) (nn : Nat) : ∀ (k : Nat) (l0 : Nat) (l1 : Int32) (l2 : Int32) (h : mx_H) (r : mx_H), w_X13_lay_3 nn k l0 l1 l2 h = some r → mx_S X F L 380 3 [(0, .ref l0), (1, .int l1), (2, .int l2)] [] h 0 0 (none, r, 0, 0) := by
  have hm : mx_mt 380 = some (yX13_lay, cX13_lay, 3, none) := mt_X13_lay
  intro k
  induction k with
  | zero => intro l0 l1 l2 h r hf; cases hf
  | succ k ih =>
    intro l0 l1 l2 h r hf
    unfold w_X13_lay_3 at hf
    refine mx_S.pu (pc2 := 4) (lv2 := [(0, .ref l0), (1, .int l1), (2, .int l2)]) (st2 := [.int l2]) hm dX13_lay_3 rfl ?_
    rcases mx_if_el hf with ⟨c10, hf⟩ | ⟨c10, hf⟩
    · refine sb_if_lt hm dX13_lay_4 (tgt := 39) rfl (fun _ => ?_) (fun z => absurd c10 z)
      cases hf
      exact sx_ret hm dX13_lay_39 rfl
    · refine sb_if_lt hm dX13_lay_4 (tgt := 39) rfl (fun z => absurd z c10) (fun _ => ?_)
      refine mx_S.pu (pc2 := 8) (lv2 := [(0, .ref l0), (1, .int l1), (2, .int l2)]) (st2 := [.ref l0]) hm dX13_lay_7 rfl ?_
      replace hf := mx_sv_el hf; obtain ⟨v1, e_v1, hf⟩ := hf
      refine sx_get hm dX13_lay_8 rs_RX13_9 (xgr_el e_v1) ?_
      clear e_v1
      refine mx_S.pu (pc2 := 12) (lv2 := [(0, .ref l0), (1, .int l1), (2, .int l2)]) (st2 := [.ref l0, .ref v1]) hm dX13_lay_11 rfl ?_
      replace hf := mx_sv_el hf; obtain ⟨v2, e_v2, hf⟩ := hf
      refine sx_get hm dX13_lay_12 rs_RX13_312 (xgi_el e_v2) ?_
      clear e_v2
      refine mx_S.pu (pc2 := 16) (lv2 := [(0, .ref l0), (1, .int l1), (2, .int l2)]) (st2 := [.int l1, .int v2, .ref v1]) hm dX13_lay_15 rfl ?_
      refine mx_S.pu (pc2 := 17) (lv2 := [(0, .ref l0), (1, .int l1), (2, .int l2)]) (st2 := [.int l2, .int l1, .int v2, .ref v1]) hm dX13_lay_16 rfl ?_
      replace hf := xl_el hf; obtain ⟨v3, e_v3, hf⟩ := hf
      refine mx_S.pu (pc2 := 18) (lv2 := [(0, .ref l0), (1, .int l1), (2, .int l2)]) (st2 := [.int v3, .int v2, .ref v1]) hm dX13_lay_17 (by rw [← e_v3]; rfl) ?_
      clear e_v3
      refine sx_si (v := 255) hm dX13_lay_18 (by decide) ?_
      replace hf := xl_el hf; obtain ⟨v4, e_v4, hf⟩ := hf
      refine mx_S.pu (pc2 := 22) (lv2 := [(0, .ref l0), (1, .int l1), (2, .int l2)]) (st2 := [.int v4, .int v2, .ref v1]) hm dX13_lay_21 (by rw [← e_v4]; rfl) ?_
      clear e_v4
      replace hf := mx_sv_el hf; obtain ⟨h5, e_h5, hf⟩ := hf
      refine sx_ast hm dX13_lay_22 e_h5 ?_
      clear e_h5
      refine mx_S.pu (pc2 := 24) (lv2 := [(0, .ref l0), (1, .int l1), (2, .int l2)]) (st2 := [.ref l0]) hm dX13_lay_23 rfl ?_
      refine mx_S.pu (pc2 := 25) (lv2 := [(0, .ref l0), (1, .int l1), (2, .int l2)]) (st2 := [.ref l0, .ref l0]) hm dX13_lay_24 rfl ?_
      replace hf := mx_sv_el hf; obtain ⟨v6, e_v6, hf⟩ := hf
      refine sx_get hm dX13_lay_25 rs_RX13_312 (xgi_el e_v6) ?_
      clear e_v6
      refine sx_ic (v := 1) hm dX13_lay_28 (by decide) ?_
      replace hf := xl_el hf; obtain ⟨v7, e_v7, hf⟩ := hf
      refine mx_S.pu (pc2 := 30) (lv2 := [(0, .ref l0), (1, .int l1), (2, .int l2)]) (st2 := [.int v7, .ref l0]) hm dX13_lay_29 (by rw [← e_v7]; rfl) ?_
      clear e_v7
      replace hf := mx_sv_el hf; obtain ⟨h8, e_h8, hf⟩ := hf
      refine sx_put hm dX13_lay_30 rs_RX13_312 ft_13_1 ⟨rfl, rfl⟩ (fun z => by cases z) e_h8 ?_
      clear e_h8
      replace hf := xl_el hf; obtain ⟨v9, e_v9, hf⟩ := hf
      refine mx_S.pu (pc2 := 36) (lv2 := [(2, .int v9), (0, .ref l0), (1, .int l1)]) (st2 := []) hm dX13_lay_33 (by rw [← e_v9]; rfl) ?_
      clear e_v9
      refine mx_S.pu (pc2 := 3) (lv2 := [(2, .int v9), (0, .ref l0), (1, .int l1)]) (st2 := []) hm dX13_lay_36 rfl ?_
      refine mx_S.ext [(0, .ref l0), (1, .int l1), (2, .int v9)] (mx_sub_pos [1, 2, 0] rfl (show ([2, 0, 1] : List Nat).Nodup by decide)) ?_
      exact ih l0 l1 v9 h8 _ hf
set_option maxHeartbeats 4000000 in
set_option maxRecDepth 20000 in
theorem f_X13_lay_ok (X : Nat × (Nat → Int32)) {F L : Nat} (hF : 0 ≤ F) (hL : 0 ≤ L) (nn : Nat) (a0 : Nat) (a1 : Int32) (h : mx_H) {r : mx_H} (hf : f_X13_lay nn a0 a1 h = some r) : mx_R X F L 380 [.ref a0, .int a1] h (none, r, 0, 0) := by
  have hm : mx_mt 380 = some (yX13_lay, cX13_lay, 3, none) := mt_X13_lay
  show mx_S X F L 380 0 [(0, .ref a0), (1, .int a1)] [] h 0 0 (none, r, 0, 0)
  unfold f_X13_lay at hf
  refine sx_bi (v := 24) hm dX13_lay_0 (by decide) ?_
  refine mx_S.pu (pc2 := 3) (lv2 := [(2, .int 24), (0, .ref a0), (1, .int a1)]) (st2 := []) hm dX13_lay_2 rfl ?_
  refine mx_S.ext [(0, .ref a0), (1, .int a1), (2, .int 24)] (mx_sub_pos [1, 2, 0] rfl (show ([2, 0, 1] : List Nat).Nodup by decide)) ?_
  exact w_X13_lay_3_ok X hF hL nn nn a0 a1 24 h _ hf
set_option maxHeartbeats 4000000 in
set_option maxRecDepth 20000 in
theorem f_X13_feed_ok (X : Nat × (Nat → Int32)) {F L : Nat} (hF : 1 ≤ F) (hL : 22 ≤ L) (nn : Nat) (a0 : Nat) (a1 : Int32) (a2 : Int32) (a3 : Int32) (a4 : Int32) (a5 : Int32) (h : mx_H) {r : (Int32 × mx_H)} (hf : f_X13_feed nn a0 a1 a2 a3 a4 a5 h = some r) : mx_R X F L 381 [.ref a0, .int a1, .int a2, .int a3, .int a4, .int a5] h (some (.int r.1), r.2, 0, 0) := by
  have hm : mx_mt 381 = some (yX13_feed, cX13_feed, 6, (some .int)) := mt_X13_feed
  show mx_S X F L 381 0 [(0, .ref a0), (1, .int a1), (2, .int a2), (3, .int a3), (4, .int a4), (5, .int a5)] [] h 0 0 (some (.int r.1), r.2, 0, 0)
  unfold f_X13_feed at hf
  refine mx_S.pu (pc2 := 1) (lv2 := [(0, .ref a0), (1, .int a1), (2, .int a2), (3, .int a3), (4, .int a4), (5, .int a5)]) (st2 := [.ref a0]) hm dX13_feed_0 rfl ?_
  replace hf := mx_sv_el hf; obtain ⟨v1, e_v1, hf⟩ := hf
  refine sx_get hm dX13_feed_1 rs_RX13_312 (xgi_el e_v1) ?_
  clear e_v1
  refine sx_bi (v := 20) hm dX13_feed_4 (by decide) ?_
  replace hf := xl_el hf; obtain ⟨v2, e_v2, hf⟩ := hf
  refine mx_S.pu (pc2 := 7) (lv2 := [(0, .ref a0), (1, .int a1), (2, .int a2), (3, .int a3), (4, .int a4), (5, .int a5)]) (st2 := [.int v2]) hm dX13_feed_6 (by rw [← e_v2]; rfl) ?_
  clear e_v2
  refine sx_si (v := 6000) hm dX13_feed_7 (by decide) ?_
  rcases mx_if_el hf with ⟨c14, hf⟩ | ⟨c14, hf⟩
  · refine sb_ic_le hm dX13_feed_10 (tgt := 15) rfl (fun _ => ?_) (fun z => absurd c14 z)
    refine mx_S.pu (pc2 := 16) (lv2 := [(0, .ref a0), (1, .int a1), (2, .int a2), (3, .int a3), (4, .int a4), (5, .int a5)]) (st2 := [.ref a0]) hm dX13_feed_15 rfl ?_
    refine mx_S.pu (pc2 := 17) (lv2 := [(0, .ref a0), (1, .int a1), (2, .int a2), (3, .int a3), (4, .int a4), (5, .int a5)]) (st2 := [.int a1, .ref a0]) hm dX13_feed_16 rfl ?_
    replace hf := mx_gd_el hf; obtain ⟨c3, hf⟩ := hf
    replace hf := mx_sv_el hf; obtain ⟨u4, e_u4, hf⟩ := hf
    refine sx_cv hm dX13_feed_17 rs_RX13_315 mt_X13_lay [.int a1] [] (b := a0) (ci := 13) rfl rfl rfl c3 (Nat.le_of_ble_eq_true rfl) (Nat.le_of_ble_eq_true rfl) (by omega) (by omega) (f_X13_lay_ok X (by omega) (by omega) nn a0 a1 h e_u4) ?_
    clear e_u4
    show mx_S X F L 381 20 [(0, .ref a0), (1, .int a1), (2, .int a2), (3, .int a3), (4, .int a4), (5, .int a5)] [] u4 0 0 (some (.int r.1), r.2, 0, 0)
    refine mx_S.pu (pc2 := 21) (lv2 := [(0, .ref a0), (1, .int a1), (2, .int a2), (3, .int a3), (4, .int a4), (5, .int a5)]) (st2 := [.ref a0]) hm dX13_feed_20 rfl ?_
    refine mx_S.pu (pc2 := 22) (lv2 := [(0, .ref a0), (1, .int a1), (2, .int a2), (3, .int a3), (4, .int a4), (5, .int a5)]) (st2 := [.int a2, .ref a0]) hm dX13_feed_21 rfl ?_
    replace hf := mx_gd_el hf; obtain ⟨c5, hf⟩ := hf
    replace hf := mx_sv_el hf; obtain ⟨u6, e_u6, hf⟩ := hf
    refine sx_cv hm dX13_feed_22 rs_RX13_315 mt_X13_lay [.int a2] [] (b := a0) (ci := 13) rfl rfl rfl c5 (Nat.le_of_ble_eq_true rfl) (Nat.le_of_ble_eq_true rfl) (by omega) (by omega) (f_X13_lay_ok X (by omega) (by omega) nn a0 a2 u4 e_u6) ?_
    clear e_u6
    show mx_S X F L 381 25 [(0, .ref a0), (1, .int a1), (2, .int a2), (3, .int a3), (4, .int a4), (5, .int a5)] [] u6 0 0 (some (.int r.1), r.2, 0, 0)
    refine mx_S.pu (pc2 := 26) (lv2 := [(0, .ref a0), (1, .int a1), (2, .int a2), (3, .int a3), (4, .int a4), (5, .int a5)]) (st2 := [.ref a0]) hm dX13_feed_25 rfl ?_
    refine mx_S.pu (pc2 := 27) (lv2 := [(0, .ref a0), (1, .int a1), (2, .int a2), (3, .int a3), (4, .int a4), (5, .int a5)]) (st2 := [.int a3, .ref a0]) hm dX13_feed_26 rfl ?_
    replace hf := mx_gd_el hf; obtain ⟨c7, hf⟩ := hf
    replace hf := mx_sv_el hf; obtain ⟨u8, e_u8, hf⟩ := hf
    refine sx_cv hm dX13_feed_27 rs_RX13_315 mt_X13_lay [.int a3] [] (b := a0) (ci := 13) rfl rfl rfl c7 (Nat.le_of_ble_eq_true rfl) (Nat.le_of_ble_eq_true rfl) (by omega) (by omega) (f_X13_lay_ok X (by omega) (by omega) nn a0 a3 u6 e_u8) ?_
    clear e_u8
    show mx_S X F L 381 30 [(0, .ref a0), (1, .int a1), (2, .int a2), (3, .int a3), (4, .int a4), (5, .int a5)] [] u8 0 0 (some (.int r.1), r.2, 0, 0)
    refine mx_S.pu (pc2 := 31) (lv2 := [(0, .ref a0), (1, .int a1), (2, .int a2), (3, .int a3), (4, .int a4), (5, .int a5)]) (st2 := [.ref a0]) hm dX13_feed_30 rfl ?_
    refine mx_S.pu (pc2 := 33) (lv2 := [(0, .ref a0), (1, .int a1), (2, .int a2), (3, .int a3), (4, .int a4), (5, .int a5)]) (st2 := [.int a4, .ref a0]) hm dX13_feed_31 rfl ?_
    replace hf := mx_gd_el hf; obtain ⟨c9, hf⟩ := hf
    replace hf := mx_sv_el hf; obtain ⟨u10, e_u10, hf⟩ := hf
    refine sx_cv hm dX13_feed_33 rs_RX13_315 mt_X13_lay [.int a4] [] (b := a0) (ci := 13) rfl rfl rfl c9 (Nat.le_of_ble_eq_true rfl) (Nat.le_of_ble_eq_true rfl) (by omega) (by omega) (f_X13_lay_ok X (by omega) (by omega) nn a0 a4 u8 e_u10) ?_
    clear e_u10
    show mx_S X F L 381 36 [(0, .ref a0), (1, .int a1), (2, .int a2), (3, .int a3), (4, .int a4), (5, .int a5)] [] u10 0 0 (some (.int r.1), r.2, 0, 0)
    refine mx_S.pu (pc2 := 37) (lv2 := [(0, .ref a0), (1, .int a1), (2, .int a2), (3, .int a3), (4, .int a4), (5, .int a5)]) (st2 := [.ref a0]) hm dX13_feed_36 rfl ?_
    refine mx_S.pu (pc2 := 39) (lv2 := [(0, .ref a0), (1, .int a1), (2, .int a2), (3, .int a3), (4, .int a4), (5, .int a5)]) (st2 := [.int a5, .ref a0]) hm dX13_feed_37 rfl ?_
    replace hf := mx_gd_el hf; obtain ⟨c11, hf⟩ := hf
    replace hf := mx_sv_el hf; obtain ⟨u12, e_u12, hf⟩ := hf
    refine sx_cv hm dX13_feed_39 rs_RX13_315 mt_X13_lay [.int a5] [] (b := a0) (ci := 13) rfl rfl rfl c11 (Nat.le_of_ble_eq_true rfl) (Nat.le_of_ble_eq_true rfl) (by omega) (by omega) (f_X13_lay_ok X (by omega) (by omega) nn a0 a5 u10 e_u12) ?_
    clear e_u12
    show mx_S X F L 381 42 [(0, .ref a0), (1, .int a1), (2, .int a2), (3, .int a3), (4, .int a4), (5, .int a5)] [] u12 0 0 (some (.int r.1), r.2, 0, 0)
    refine mx_S.pu (pc2 := 43) (lv2 := [(0, .ref a0), (1, .int a1), (2, .int a2), (3, .int a3), (4, .int a4), (5, .int a5)]) (st2 := [.ref a0]) hm dX13_feed_42 rfl ?_
    replace hf := mx_sv_el hf; obtain ⟨v13, e_v13, hf⟩ := hf
    refine sx_get hm dX13_feed_43 rs_RX13_312 (xgi_el e_v13) ?_
    clear e_v13
    cases hf
    exact sx_ire hm dX13_feed_46 rfl rfl
  · refine sb_ic_le hm dX13_feed_10 (tgt := 15) rfl (fun z => absurd z c14) (fun _ => ?_)
    refine sx_ic (v := (-1)) hm dX13_feed_13 (by decide) ?_
    cases hf
    exact sx_ire hm dX13_feed_14 rfl rfl
set_option maxHeartbeats 4000000 in
set_option maxRecDepth 20000 in
theorem f_X13_image_ok (X : Nat × (Nat → Int32)) {F L : Nat} (hF : 0 ≤ F) (hL : 0 ≤ L) (nn : Nat) (a0 : Nat) (a1 : Int32) (a2 : Int32) (h : mx_H) {r : (Int32 × mx_H)} (hf : f_X13_image nn a0 a1 a2 h = some r) : mx_R X F L 488 [.ref a0, .int a1, .int a2] h (some (.int r.1), r.2, 0, 0) := by
  have hm : mx_mt 488 = some (yX13_image, cX13_image, 3, (some .int)) := mt_X13_image
  show mx_S X F L 488 0 [(0, .ref a0), (1, .int a1), (2, .int a2)] [] h 0 0 (some (.int r.1), r.2, 0, 0)
  unfold f_X13_image at hf
  refine mx_S.pu (pc2 := 1) (lv2 := [(0, .ref a0), (1, .int a1), (2, .int a2)]) (st2 := [.int a1]) hm dX13_image_0 rfl ?_
  rcases mx_if_el hf with ⟨c14, hf⟩ | ⟨c14, hf⟩
  · refine sb_if_lt hm dX13_image_1 (tgt := 27) rfl (fun _ => ?_) (fun z => absurd c14 z)
    refine sx_ic (v := (-1)) hm dX13_image_27 (by decide) ?_
    cases hf
    exact sx_ire hm dX13_image_28 rfl rfl
  · refine sb_if_lt hm dX13_image_1 (tgt := 27) rfl (fun z => absurd z c14) (fun _ => ?_)
    refine mx_S.pu (pc2 := 5) (lv2 := [(0, .ref a0), (1, .int a1), (2, .int a2)]) (st2 := [.int a1]) hm dX13_image_4 rfl ?_
    refine mx_S.pu (pc2 := 6) (lv2 := [(0, .ref a0), (1, .int a1), (2, .int a2)]) (st2 := [.ref a0, .int a1]) hm dX13_image_5 rfl ?_
    replace hf := mx_sv_el hf; obtain ⟨v1, e_v1, hf⟩ := hf
    refine sx_get hm dX13_image_6 rs_RX13_761 (xgi_el e_v1) ?_
    clear e_v1
    rcases mx_if_el hf with ⟨c13, hf⟩ | ⟨c13, hf⟩
    · refine sb_ic_ge hm dX13_image_9 (tgt := 27) rfl (fun _ => ?_) (fun z => absurd c13 z)
      refine sx_ic (v := (-1)) hm dX13_image_27 (by decide) ?_
      cases hf
      exact sx_ire hm dX13_image_28 rfl rfl
    · refine sb_ic_ge hm dX13_image_9 (tgt := 27) rfl (fun z => absurd z c13) (fun _ => ?_)
      refine mx_S.pu (pc2 := 13) (lv2 := [(0, .ref a0), (1, .int a1), (2, .int a2)]) (st2 := [.int a2]) hm dX13_image_12 rfl ?_
      refine sx_ic (v := (-1)) hm dX13_image_13 (by decide) ?_
      rcases mx_if_el hf with ⟨c12, hf⟩ | ⟨c12, hf⟩
      · refine sb_ic_lt hm dX13_image_14 (tgt := 27) rfl (fun _ => ?_) (fun z => absurd c12 z)
        refine sx_ic (v := (-1)) hm dX13_image_27 (by decide) ?_
        cases hf
        exact sx_ire hm dX13_image_28 rfl rfl
      · refine sb_ic_lt hm dX13_image_14 (tgt := 27) rfl (fun z => absurd z c12) (fun _ => ?_)
        refine mx_S.pu (pc2 := 18) (lv2 := [(0, .ref a0), (1, .int a1), (2, .int a2)]) (st2 := [.int a2]) hm dX13_image_17 rfl ?_
        refine mx_S.pu (pc2 := 19) (lv2 := [(0, .ref a0), (1, .int a1), (2, .int a2)]) (st2 := [.ref a0, .int a2]) hm dX13_image_18 rfl ?_
        replace hf := mx_sv_el hf; obtain ⟨v2, e_v2, hf⟩ := hf
        refine sx_get hm dX13_image_19 rs_RX13_197 (xgr_el e_v2) ?_
        clear e_v2
        refine mx_S.pu (pc2 := 23) (lv2 := [(0, .ref a0), (1, .int a1), (2, .int a2)]) (st2 := [.int a1, .ref v2, .int a2]) hm dX13_image_22 rfl ?_
        replace hf := mx_sv_el hf; obtain ⟨v3, e_v3, hf⟩ := hf
        refine sx_ald hm dX13_image_23 e_v3 ?_
        clear e_v3
        rcases mx_if_el hf with ⟨c11, hf⟩ | ⟨c11, hf⟩
        · refine sb_ic_lt hm dX13_image_24 (tgt := 29) rfl (fun _ => ?_) (fun z => absurd c11 z)
          refine mx_S.pu (pc2 := 30) (lv2 := [(0, .ref a0), (1, .int a1), (2, .int a2)]) (st2 := [.int a2]) hm dX13_image_29 rfl ?_
          refine sx_ic (v := (-1)) hm dX13_image_30 (by decide) ?_
          rcases mx_if_el hf with ⟨c10, hf⟩ | ⟨c10, hf⟩
          · refine sb_ic_ne hm dX13_image_31 (tgt := 43) rfl (fun _ => ?_) (fun z => absurd c10 z)
            refine mx_S.pu (pc2 := 44) (lv2 := [(0, .ref a0), (1, .int a1), (2, .int a2)]) (st2 := [.ref a0]) hm dX13_image_43 rfl ?_
            replace hf := mx_sv_el hf; obtain ⟨v4, e_v4, hf⟩ := hf
            refine sx_get hm dX13_image_44 rs_RX13_194 (xgr_el e_v4) ?_
            clear e_v4
            refine sx_si (v := 6000) hm dX13_image_47 (by decide) ?_
            refine mx_S.pu (pc2 := 51) (lv2 := [(0, .ref a0), (1, .int a1), (2, .int a2)]) (st2 := [.int a1, .int 6000, .ref v4]) hm dX13_image_50 rfl ?_
            replace hf := xl_el hf; obtain ⟨v5, e_v5, hf⟩ := hf
            refine mx_S.pu (pc2 := 52) (lv2 := [(0, .ref a0), (1, .int a1), (2, .int a2)]) (st2 := [.int v5, .ref v4]) hm dX13_image_51 (by rw [← e_v5]; rfl) ?_
            clear e_v5
            refine mx_S.pu (pc2 := 53) (lv2 := [(0, .ref a0), (1, .int a1), (2, .int a2)]) (st2 := [.int a2, .int v5, .ref v4]) hm dX13_image_52 rfl ?_
            replace hf := xl_el hf; obtain ⟨v6, e_v6, hf⟩ := hf
            refine mx_S.pu (pc2 := 54) (lv2 := [(0, .ref a0), (1, .int a1), (2, .int a2)]) (st2 := [.int v6, .ref v4]) hm dX13_image_53 (by rw [← e_v6]; rfl) ?_
            clear e_v6
            replace hf := mx_sv_el hf; obtain ⟨v7, e_v7, hf⟩ := hf
            refine sx_ald hm dX13_image_54 e_v7 ?_
            clear e_v7
            cases hf
            exact sx_ire hm dX13_image_55 rfl rfl
          · refine sb_ic_ne hm dX13_image_31 (tgt := 43) rfl (fun z => absurd z c10) (fun _ => ?_)
            refine mx_S.pu (pc2 := 35) (lv2 := [(0, .ref a0), (1, .int a1), (2, .int a2)]) (st2 := [.ref a0]) hm dX13_image_34 rfl ?_
            replace hf := mx_sv_el hf; obtain ⟨v8, e_v8, hf⟩ := hf
            refine sx_get hm dX13_image_35 rs_RX13_197 (xgr_el e_v8) ?_
            clear e_v8
            refine mx_S.pu (pc2 := 39) (lv2 := [(0, .ref a0), (1, .int a1), (2, .int a2)]) (st2 := [.int a1, .ref v8]) hm dX13_image_38 rfl ?_
            replace hf := mx_sv_el hf; obtain ⟨v9, e_v9, hf⟩ := hf
            refine sx_ald hm dX13_image_39 e_v9 ?_
            clear e_v9
            refine mx_S.pu (pc2 := 55) (lv2 := [(0, .ref a0), (1, .int a1), (2, .int a2)]) (st2 := [.int v9]) hm dX13_image_40 rfl ?_
            cases hf
            exact sx_ire hm dX13_image_55 rfl rfl
        · refine sb_ic_lt hm dX13_image_24 (tgt := 29) rfl (fun z => absurd z c11) (fun _ => ?_)
          refine sx_ic (v := (-1)) hm dX13_image_27 (by decide) ?_
          cases hf
          exact sx_ire hm dX13_image_28 rfl rfl
