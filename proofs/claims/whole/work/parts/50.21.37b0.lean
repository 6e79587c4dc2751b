def hg5_X13_make (X : Nat × (Nat → Int32)) (d : Nat) (rc : tg_X13_make) : Prop := (∀ {F L : Nat}, 1460 + d ≤ F → 37921 + d * 28 ≤ L → ∀ (a0 : Nat) (a1 : Int32) (h : mx_H) {r : (Int32 × mx_H)}, rc.1 a0 a1 h = some r → mx_R X F L 467 [.ref a0, .int a1] h (some (.int r.1), r.2, 0, 0)) ∧ (∀ {F L : Nat}, 1460 + d ≤ F → 37921 + d * 28 ≤ L → ∀ (a0 : Nat) (a1 : Int32) (a2 : Int32) (h : mx_H) {r : (Int32 × mx_H)}, rc.2.1 a0 a1 a2 h = some r → mx_R X F L 468 [.ref a0, .int a1, .int a2] h (some (.int r.1), r.2, 0, 0)) ∧ (∀ {F L : Nat}, 1460 + d ≤ F → 37921 + d * 28 ≤ L → ∀ (a0 : Nat) (a1 : Int32) (a2 : Int32) (h : mx_H) {r : (Int32 × mx_H)}, rc.2.2 a0 a1 a2 h = some r → mx_R X F L 469 [.ref a0, .int a1, .int a2] h (some (.int r.1), r.2, 0, 0))
set_option maxHeartbeats 4000000 in
set_option maxRecDepth 20000 in
theorem j_X13_make_459_ok (X : Nat × (Nat → Int32)) {F L d : Nat} (hF : 1460 + (d + 1) ≤ F) (hL : 37921 + (d + 1) * 28 ≤ L) (nn : Nat) {rc : tg_X13_make} (hrc : hg5_X13_make X d rc) (l0 : Nat) (h : mx_H) {r : (Int32 × mx_H)} (hf : j_X13_make_459 nn rc l0 h = some r) : mx_S X F L 467 459 [(0, .ref l0)] [] h 0 0 (some (.int r.1), r.2, 0, 0) := by
  have hm : mx_mt 467 = some (yX13_make, cX13_make, 8, (some .boolean)) := mt_X13_make
  unfold j_X13_make_459 at hf
  refine mx_S.pu (pc2 := 460) (lv2 := [(0, .ref l0)]) (st2 := [.ref l0]) hm dX13_make_459 rfl ?_
  refine mx_S.pu (pc2 := 461) (lv2 := [(0, .ref l0)]) (st2 := [.ref l0, .ref l0]) hm dX13_make_460 rfl ?_
  replace hf := mx_sv_el hf; obtain ⟨v1, e_v1, hf⟩ := hf
  refine sx_get hm dX13_make_461 rs_RX13_629 (xgi_el e_v1) ?_
  clear e_v1
  refine sx_ic (v := 1) hm dX13_make_464 (by decide) ?_
  replace hf := xl_el hf; obtain ⟨v2, e_v2, hf⟩ := hf
  refine mx_S.pu (pc2 := 466) (lv2 := [(0, .ref l0)]) (st2 := [.int v2, .ref l0]) hm dX13_make_465 (by rw [← e_v2]; rfl) ?_
  clear e_v2
  replace hf := mx_sv_el hf; obtain ⟨h3, e_h3, hf⟩ := hf
  refine sx_put hm dX13_make_466 rs_RX13_629 ft_13_70 ⟨rfl, rfl⟩ (fun z => by cases z) e_h3 ?_
  clear e_h3
  refine mx_S.pu (pc2 := 470) (lv2 := [(0, .ref l0)]) (st2 := [.ref l0]) hm dX13_make_469 rfl ?_
  refine sx_si (v := 186) hm dX13_make_470 (by decide) ?_
  replace hf := mx_gd_el hf; obtain ⟨c4, hf⟩ := hf
  replace hf := mx_sv_el hf; obtain ⟨u5, e_u5, hf⟩ := hf
  refine sx_cv hm dX13_make_473 rs_RX13_646 mt_X13_put [.int 186] [] (b := l0) (ci := 13) rfl rfl rfl c4 (Nat.le_of_ble_eq_true rfl) (Nat.le_of_ble_eq_true rfl) (by omega) (by omega) (f_X13_put_ok X (by omega) (by omega) nn l0 186 h3 e_u5) ?_
  clear e_u5
  show mx_S X F L 467 476 [(0, .ref l0)] [] u5 0 0 (some (.int r.1), r.2, 0, 0)
  refine sx_ic (v := 1) hm dX13_make_476 (by decide) ?_
  cases hf
  exact sx_ire hm dX13_make_477 rfl (by decide)
set_option maxHeartbeats 4000000 in
set_option maxRecDepth 20000 in
theorem j_X13_make_305_ok (X : Nat × (Nat → Int32)) {F L d : Nat} (hF : 1460 + (d + 1) ≤ F) (hL : 37921 + (d + 1) * 28 ≤ L) (nn : Nat) {rc : tg_X13_make} (hrc : hg5_X13_make X d rc) (l0 : Nat) (l1 : Int32) (h : mx_H) {r : (Int32 × mx_H)} (hf : j_X13_make_305 nn rc l0 l1 h = some r) : mx_S X F L 467 305 [(0, .ref l0), (1, .int l1)] [] h 0 0 (some (.int r.1), r.2, 0, 0) := by
  have hm : mx_mt 467 = some (yX13_make, cX13_make, 8, (some .boolean)) := mt_X13_make
  unfold j_X13_make_305 at hf
  refine mx_S.pu (pc2 := 306) (lv2 := [(0, .ref l0), (1, .int l1)]) (st2 := [.ref l0]) hm dX13_make_305 rfl ?_
  refine sx_si (v := 167) hm dX13_make_306 (by decide) ?_
  refine mx_S.pu (pc2 := 310) (lv2 := [(0, .ref l0), (1, .int l1)]) (st2 := [.ref l0, .int 167, .ref l0]) hm dX13_make_309 rfl ?_
  replace hf := mx_sv_el hf; obtain ⟨v6, e_v6, hf⟩ := hf
  refine sx_get hm dX13_make_310 rs_RX13_28 (xgr_el e_v6) ?_
  clear e_v6
  refine mx_S.pu (pc2 := 314) (lv2 := [(0, .ref l0), (1, .int l1)]) (st2 := [.int l1, .ref v6, .int 167, .ref l0]) hm dX13_make_313 rfl ?_
  replace hf := mx_sv_el hf; obtain ⟨v7, e_v7, hf⟩ := hf
  refine sx_ald hm dX13_make_314 e_v7 ?_
  clear e_v7
  refine sx_ic (v := 5) hm dX13_make_315 (by decide) ?_
  rcases mx_if_el hf with ⟨c18, hf⟩ | ⟨c18, hf⟩
  · refine sb_ic_ne hm dX13_make_316 (tgt := 331) rfl (fun _ => ?_) (fun z => absurd c18 z)
    refine mx_S.pu (pc2 := 332) (lv2 := [(0, .ref l0), (1, .int l1)]) (st2 := [.ref l0, .int 167, .ref l0]) hm dX13_make_331 rfl ?_
    replace hf := mx_sv_el hf; obtain ⟨v8, e_v8, hf⟩ := hf
    refine sx_get hm dX13_make_332 rs_RX13_187 (xgr_el e_v8) ?_
    clear e_v8
    refine mx_S.pu (pc2 := 336) (lv2 := [(0, .ref l0), (1, .int l1)]) (st2 := [.ref l0, .ref v8, .int 167, .ref l0]) hm dX13_make_335 rfl ?_
    replace hf := mx_sv_el hf; obtain ⟨v9, e_v9, hf⟩ := hf
    refine sx_get hm dX13_make_336 rs_RX13_522 (xgi_el e_v9) ?_
    clear e_v9
    replace hf := mx_sv_el hf; obtain ⟨v10, e_v10, hf⟩ := hf
    refine sx_ald hm dX13_make_339 e_v10 ?_
    clear e_v10
    replace hf := mx_gd_el hf; obtain ⟨c11, hf⟩ := hf
    replace hf := mx_sv_el hf; obtain ⟨u12, e_u12, hf⟩ := hf
    refine sx_cv hm dX13_make_340 rs_RX13_679 mt_X13_jump [.int 167, .int v10] [] (b := l0) (ci := 13) rfl rfl rfl c11 (Nat.le_of_ble_eq_true rfl) (Nat.le_of_ble_eq_true rfl) (by omega) (by omega) (f_X13_jump_ok X (by omega) (by omega) nn l0 167 v10 h e_u12) ?_
    clear e_u12
    show mx_S X F L 467 343 [(0, .ref l0), (1, .int l1)] [] u12 0 0 (some (.int r.1), r.2, 0, 0)
    refine sx_ic (v := 0) hm dX13_make_343 (by decide) ?_
    cases hf
    exact sx_ire hm dX13_make_344 rfl (by decide)
  · refine sb_ic_ne hm dX13_make_316 (tgt := 331) rfl (fun z => absurd z c18) (fun _ => ?_)
    refine mx_S.pu (pc2 := 320) (lv2 := [(0, .ref l0), (1, .int l1)]) (st2 := [.ref l0, .int 167, .ref l0]) hm dX13_make_319 rfl ?_
    replace hf := mx_sv_el hf; obtain ⟨v13, e_v13, hf⟩ := hf
    refine sx_get hm dX13_make_320 rs_RX13_190 (xgr_el e_v13) ?_
    clear e_v13
    refine mx_S.pu (pc2 := 324) (lv2 := [(0, .ref l0), (1, .int l1)]) (st2 := [.ref l0, .ref v13, .int 167, .ref l0]) hm dX13_make_323 rfl ?_
    replace hf := mx_sv_el hf; obtain ⟨v14, e_v14, hf⟩ := hf
    refine sx_get hm dX13_make_324 rs_RX13_522 (xgi_el e_v14) ?_
    clear e_v14
    replace hf := mx_sv_el hf; obtain ⟨v15, e_v15, hf⟩ := hf
    refine sx_ald hm dX13_make_327 e_v15 ?_
    clear e_v15
    refine mx_S.pu (pc2 := 340) (lv2 := [(0, .ref l0), (1, .int l1)]) (st2 := [.int v15, .int 167, .ref l0]) hm dX13_make_328 rfl ?_
    replace hf := mx_gd_el hf; obtain ⟨c16, hf⟩ := hf
    replace hf := mx_sv_el hf; obtain ⟨u17, e_u17, hf⟩ := hf
    refine sx_cv hm dX13_make_340 rs_RX13_679 mt_X13_jump [.int 167, .int v15] [] (b := l0) (ci := 13) rfl rfl rfl c16 (Nat.le_of_ble_eq_true rfl) (Nat.le_of_ble_eq_true rfl) (by omega) (by omega) (f_X13_jump_ok X (by omega) (by omega) nn l0 167 v15 h e_u17) ?_
    clear e_u17
    show mx_S X F L 467 343 [(0, .ref l0), (1, .int l1)] [] u17 0 0 (some (.int r.1), r.2, 0, 0)
    refine sx_ic (v := 0) hm dX13_make_343 (by decide) ?_
    cases hf
    exact sx_ire hm dX13_make_344 rfl (by decide)
set_option maxHeartbeats 4000000 in
set_option maxRecDepth 20000 in
theorem j_X13_make_246_ok (X : Nat × (Nat → Int32)) {F L d : Nat} (hF : 1460 + (d + 1) ≤ F) (hL : 37921 + (d + 1) * 28 ≤ L) (nn : Nat) {rc : tg_X13_make} (hrc : hg5_X13_make X d rc) (l0 : Nat) (l1 : Int32) (l2 : Int32) (l3 : Int32) (l5 : Int32) (l6 : Int32) (h : mx_H) {r : (Int32 × mx_H)} (hf : j_X13_make_246 nn rc l0 l1 l2 l3 l5 l6 h = some r) : mx_S X F L 467 246 [(0, .ref l0), (1, .int l1), (2, .int l2), (3, .int l3), (5, .int l5), (6, .int l6)] [] h 0 0 (some (.int r.1), r.2, 0, 0) := by
  have hm : mx_mt 467 = some (yX13_make, cX13_make, 8, (some .boolean)) := mt_X13_make
  unfold j_X13_make_246 at hf
  refine mx_S.pu (pc2 := 247) (lv2 := [(0, .ref l0), (1, .int l1), (2, .int l2), (3, .int l3), (5, .int l5), (6, .int l6)]) (st2 := [.ref l0]) hm dX13_make_246 rfl ?_
  refine mx_S.pu (pc2 := 249) (lv2 := [(0, .ref l0), (1, .int l1), (2, .int l2), (3, .int l3), (5, .int l5), (6, .int l6)]) (st2 := [.int l5, .ref l0]) hm dX13_make_247 rfl ?_
  refine mx_S.pu (pc2 := 250) (lv2 := [(0, .ref l0), (1, .int l1), (2, .int l2), (3, .int l3), (5, .int l5), (6, .int l6)]) (st2 := [.ref l0, .int l5, .ref l0]) hm dX13_make_249 rfl ?_
  replace hf := mx_sv_el hf; obtain ⟨v19, e_v19, hf⟩ := hf
  refine sx_get hm dX13_make_250 rs_RX13_627 (xgi_el e_v19) ?_
  clear e_v19
  replace hf := mx_gd_el hf; obtain ⟨c20, hf⟩ := hf
  replace hf := mx_sv_el hf; obtain ⟨u21, e_u21, hf⟩ := hf
  refine sx_cv hm dX13_make_253 rs_RX13_682 mt_X13_stands [.int l5, .int v19] [] (b := l0) (ci := 13) rfl rfl rfl c20 (Nat.le_of_ble_eq_true rfl) (Nat.le_of_ble_eq_true rfl) (by omega) (by omega) (f_X13_stands_ok X (by omega) (by omega) nn l0 l5 v19 h e_u21) ?_
  clear e_u21
  show mx_S X F L 467 256 [(0, .ref l0), (1, .int l1), (2, .int l2), (3, .int l3), (5, .int l5), (6, .int l6)] [] u21 0 0 (some (.int r.1), r.2, 0, 0)
  refine mx_S.pu (pc2 := 257) (lv2 := [(0, .ref l0), (1, .int l1), (2, .int l2), (3, .int l3), (5, .int l5), (6, .int l6)]) (st2 := [.ref l0]) hm dX13_make_256 rfl ?_
  refine mx_S.pu (pc2 := 258) (lv2 := [(0, .ref l0), (1, .int l1), (2, .int l2), (3, .int l3), (5, .int l5), (6, .int l6)]) (st2 := [.ref l0, .ref l0]) hm dX13_make_257 rfl ?_
  replace hf := mx_sv_el hf; obtain ⟨v22, e_v22, hf⟩ := hf
  refine sx_get hm dX13_make_258 rs_RX13_43 (xgr_el e_v22) ?_
  clear e_v22
  refine mx_S.pu (pc2 := 262) (lv2 := [(0, .ref l0), (1, .int l1), (2, .int l2), (3, .int l3), (5, .int l5), (6, .int l6)]) (st2 := [.int l1, .ref v22, .ref l0]) hm dX13_make_261 rfl ?_
  replace hf := mx_sv_el hf; obtain ⟨v23, e_v23, hf⟩ := hf
  refine sx_ald hm dX13_make_262 e_v23 ?_
  clear e_v23
  replace hf := mx_gd_el hf; obtain ⟨c24, hf⟩ := hf
  replace hf := mx_sv_el hf; obtain ⟨u25, e_u25, hf⟩ := hf
  refine sx_cv hm dX13_make_263 rs_RX13_664 mt_X13_make [.int v23] [] (b := l0) (ci := 13) rfl rfl rfl c24 (Nat.le_of_ble_eq_true rfl) (Nat.le_of_ble_eq_true rfl) (by omega) (by omega) (hrc.1 (by omega) (by omega) l0 v23 u21 e_u25) ?_
  clear e_u25
  show mx_S X F L 467 266 [(0, .ref l0), (1, .int l1), (2, .int l2), (3, .int l3), (5, .int l5), (6, .int l6)] [.int u25.1] u25.2 0 0 (some (.int r.1), r.2, 0, 0)
  refine mx_S.pu (pc2 := 268) (lv2 := [(4, .int u25.1), (0, .ref l0), (1, .int l1), (2, .int l2), (3, .int l3), (5, .int l5), (6, .int l6)]) (st2 := []) hm dX13_make_266 rfl ?_
  refine mx_S.pu (pc2 := 269) (lv2 := [(4, .int u25.1), (0, .ref l0), (1, .int l1), (2, .int l2), (3, .int l3), (5, .int l5), (6, .int l6)]) (st2 := [.ref l0]) hm dX13_make_268 rfl ?_
  refine mx_S.pu (pc2 := 270) (lv2 := [(4, .int u25.1), (0, .ref l0), (1, .int l1), (2, .int l2), (3, .int l3), (5, .int l5), (6, .int l6)]) (st2 := [.int l2, .ref l0]) hm dX13_make_269 rfl ?_
  replace hf := mx_sv_el hf; obtain ⟨h26, e_h26, hf⟩ := hf
  refine sx_put hm dX13_make_270 rs_RX13_513 ft_13_50 ⟨rfl, rfl⟩ (fun z => by cases z) e_h26 ?_
  clear e_h26
  refine mx_S.pu (pc2 := 274) (lv2 := [(4, .int u25.1), (0, .ref l0), (1, .int l1), (2, .int l2), (3, .int l3), (5, .int l5), (6, .int l6)]) (st2 := [.ref l0]) hm dX13_make_273 rfl ?_
  refine mx_S.pu (pc2 := 276) (lv2 := [(4, .int u25.1), (0, .ref l0), (1, .int l1), (2, .int l2), (3, .int l3), (5, .int l5), (6, .int l6)]) (st2 := [.int l6, .ref l0]) hm dX13_make_274 rfl ?_
  refine mx_S.pu (pc2 := 277) (lv2 := [(4, .int u25.1), (0, .ref l0), (1, .int l1), (2, .int l2), (3, .int l3), (5, .int l5), (6, .int l6)]) (st2 := [.ref l0, .int l6, .ref l0]) hm dX13_make_276 rfl ?_
  replace hf := mx_sv_el hf; obtain ⟨v27, e_v27, hf⟩ := hf
  refine sx_get hm dX13_make_277 rs_RX13_627 (xgi_el e_v27) ?_
  clear e_v27
  replace hf := mx_gd_el hf; obtain ⟨c28, hf⟩ := hf
  replace hf := mx_sv_el hf; obtain ⟨u29, e_u29, hf⟩ := hf
  refine sx_cv hm dX13_make_280 rs_RX13_682 mt_X13_stands [.int l6, .int v27] [] (b := l0) (ci := 13) rfl rfl rfl c28 (Nat.le_of_ble_eq_true rfl) (Nat.le_of_ble_eq_true rfl) (by omega) (by omega) (f_X13_stands_ok X (by omega) (by omega) nn l0 l6 v27 h26 e_u29) ?_
  clear e_u29
  show mx_S X F L 467 283 [(4, .int u25.1), (0, .ref l0), (1, .int l1), (2, .int l2), (3, .int l3), (5, .int l5), (6, .int l6)] [] u29 0 0 (some (.int r.1), r.2, 0, 0)
  refine mx_S.pu (pc2 := 284) (lv2 := [(4, .int u25.1), (0, .ref l0), (1, .int l1), (2, .int l2), (3, .int l3), (5, .int l5), (6, .int l6)]) (st2 := [.int l3]) hm dX13_make_283 rfl ?_
  rcases mx_if_el hf with ⟨c31, hf⟩ | ⟨c31, hf⟩
  · refine sb_if_ne hm dX13_make_284 (tgt := 292) rfl (fun _ => ?_) (fun z => absurd c31 z)
    refine sx_ic (v := 1) hm dX13_make_292 (by decide) ?_
    refine mx_S.pu (pc2 := 297) (lv2 := [(4, .int u25.1), (0, .ref l0), (1, .int l1), (2, .int l2), (3, .int l3), (5, .int l5), (6, .int l6)]) (st2 := [.int 1]) hm dX13_make_293 rfl ?_
    cases hf
    exact sx_ire hm dX13_make_297 rfl (by decide)
  · refine sb_if_ne hm dX13_make_284 (tgt := 292) rfl (fun z => absurd z c31) (fun _ => ?_)
    refine mx_S.pu (pc2 := 289) (lv2 := [(4, .int u25.1), (0, .ref l0), (1, .int l1), (2, .int l2), (3, .int l3), (5, .int l5), (6, .int l6)]) (st2 := [.int u25.1]) hm dX13_make_287 rfl ?_
    rcases mx_if_el hf with ⟨c30, hf⟩ | ⟨c30, hf⟩
    · refine sb_if_eq hm dX13_make_289 (tgt := 296) rfl (fun _ => ?_) (fun z => absurd c30 z)
      refine sx_ic (v := 0) hm dX13_make_296 (by decide) ?_
      cases hf
      exact sx_ire hm dX13_make_297 rfl (by decide)
    · refine sb_if_eq hm dX13_make_289 (tgt := 296) rfl (fun z => absurd z c30) (fun _ => ?_)
      refine sx_ic (v := 1) hm dX13_make_292 (by decide) ?_
      refine mx_S.pu (pc2 := 297) (lv2 := [(4, .int u25.1), (0, .ref l0), (1, .int l1), (2, .int l2), (3, .int l3), (5, .int l5), (6, .int l6)]) (st2 := [.int 1]) hm dX13_make_293 rfl ?_
      cases hf
      exact sx_ire hm dX13_make_297 rfl (by decide)
set_option maxHeartbeats 4000000 in
set_option maxRecDepth 20000 in
theorem j_X13_make_225_ok (X : Nat × (Nat → Int32)) {F L d : Nat} (hF : 1460 + (d + 1) ≤ F) (hL : 37921 + (d + 1) * 28 ≤ L) (nn : Nat) {rc : tg_X13_make} (hrc : hg5_X13_make X d rc) (h : mx_H) {r : (Int32 × mx_H)} (hf : j_X13_make_225 nn rc h = some r) : mx_S X F L 467 225 [] [] h 0 0 (some (.int r.1), r.2, 0, 0) := by
  have hm : mx_mt 467 = some (yX13_make, cX13_make, 8, (some .boolean)) := mt_X13_make
  unfold j_X13_make_225 at hf
  refine sx_ic (v := 1) hm dX13_make_225 (by decide) ?_
  cases hf
  exact sx_ire hm dX13_make_226 rfl (by decide)
set_option maxHeartbeats 4000000 in
set_option maxRecDepth 20000 in
theorem w_X13_make_80_ok (X : Nat × (Nat → Int32)) {F L d : Nat} (hF : 1460 + (d + 1) ≤ F) (hL : 37921 + (d + 1) * 28 ≤ L) (nn : Nat) {rc : tg_X13_make} (hrc : hg5_X13_make X d rc) : ∀ (k : Nat) (l0 : Nat) (l2 : Int32) (l3 : Int32) (l7 : Int32) (h : mx_H) (r : (Int32 × mx_H)), w_X13_make_80 nn rc k l0 l2 l3 l7 h = some r → mx_S X F L 467 80 [(0, .ref l0), (2, .int l2), (3, .int l3), (7, .int l7)] [] h 0 0 (some (.int r.1), r.2, 0, 0) := by
  have hm : mx_mt 467 = some (yX13_make, cX13_make, 8, (some .boolean)) := mt_X13_make
  intro k
  induction k with
  | zero => intro l0 l2 l3 l7 h r hf; cases hf
  | succ k ih =>
    intro l0 l2 l3 l7 h r hf
    unfold w_X13_make_80 at hf
    refine mx_S.pu (pc2 := 82) (lv2 := [(0, .ref l0), (2, .int l2), (3, .int l3), (7, .int l7)]) (st2 := [.int l7]) hm dX13_make_80 rfl ?_
    refine sx_ic (v := (-1)) hm dX13_make_82 (by decide) ?_
    rcases mx_if_el hf with ⟨c38, hf⟩ | ⟨c38, hf⟩
    · refine sb_ic_eq hm dX13_make_83 (tgt := 105) rfl (fun _ => ?_) (fun z => absurd c38 z)
      refine mx_S.pu (pc2 := 106) (lv2 := [(0, .ref l0), (2, .int l2), (3, .int l3), (7, .int l7)]) (st2 := [.ref l0]) hm dX13_make_105 rfl ?_
      refine mx_S.pu (pc2 := 107) (lv2 := [(0, .ref l0), (2, .int l2), (3, .int l3), (7, .int l7)]) (st2 := [.int l2, .ref l0]) hm dX13_make_106 rfl ?_
      replace hf := mx_sv_el hf; obtain ⟨h32, e_h32, hf⟩ := hf
      refine sx_put hm dX13_make_107 rs_RX13_513 ft_13_50 ⟨rfl, rfl⟩ (fun z => by cases z) e_h32 ?_
      clear e_h32
      refine mx_S.pu (pc2 := 111) (lv2 := [(0, .ref l0), (2, .int l2), (3, .int l3), (7, .int l7)]) (st2 := [.int l3]) hm dX13_make_110 rfl ?_
      replace hf := mx_gd_el hf; obtain ⟨c33, hf⟩ := hf
      cases hf
      exact sx_ire hm dX13_make_111 rfl (xbq_ok c33).1
    · refine sb_ic_eq hm dX13_make_83 (tgt := 105) rfl (fun z => absurd z c38) (fun _ => ?_)
      refine mx_S.pu (pc2 := 87) (lv2 := [(0, .ref l0), (2, .int l2), (3, .int l3), (7, .int l7)]) (st2 := [.ref l0]) hm dX13_make_86 rfl ?_
      refine mx_S.pu (pc2 := 89) (lv2 := [(0, .ref l0), (2, .int l2), (3, .int l3), (7, .int l7)]) (st2 := [.int l7, .ref l0]) hm dX13_make_87 rfl ?_
      replace hf := mx_gd_el hf; obtain ⟨c34, hf⟩ := hf
      replace hf := mx_sv_el hf; obtain ⟨u35, e_u35, hf⟩ := hf
      refine sx_cv hm dX13_make_89 rs_RX13_664 mt_X13_make [.int l7] [] (b := l0) (ci := 13) rfl rfl rfl c34 (Nat.le_of_ble_eq_true rfl) (Nat.le_of_ble_eq_true rfl) (by omega) (by omega) (hrc.1 (by omega) (by omega) l0 l7 h e_u35) ?_
      clear e_u35
      show mx_S X F L 467 92 [(0, .ref l0), (2, .int l2), (3, .int l3), (7, .int l7)] [.int u35.1] u35.2 0 0 (some (.int r.1), r.2, 0, 0)
      refine mx_S.pu (pc2 := 93) (lv2 := [(3, .int u35.1), (0, .ref l0), (2, .int l2), (7, .int l7)]) (st2 := []) hm dX13_make_92 rfl ?_
      refine mx_S.pu (pc2 := 94) (lv2 := [(3, .int u35.1), (0, .ref l0), (2, .int l2), (7, .int l7)]) (st2 := [.ref l0]) hm dX13_make_93 rfl ?_
      replace hf := mx_sv_el hf; obtain ⟨v36, e_v36, hf⟩ := hf
      refine sx_get hm dX13_make_94 rs_RX13_46 (xgr_el e_v36) ?_
      clear e_v36
      refine mx_S.pu (pc2 := 99) (lv2 := [(3, .int u35.1), (0, .ref l0), (2, .int l2), (7, .int l7)]) (st2 := [.int l7, .ref v36]) hm dX13_make_97 rfl ?_
      replace hf := mx_sv_el hf; obtain ⟨v37, e_v37, hf⟩ := hf
      refine sx_ald hm dX13_make_99 e_v37 ?_
      clear e_v37
      refine mx_S.pu (pc2 := 102) (lv2 := [(7, .int v37), (3, .int u35.1), (0, .ref l0), (2, .int l2)]) (st2 := []) hm dX13_make_100 rfl ?_
      refine mx_S.pu (pc2 := 80) (lv2 := [(7, .int v37), (3, .int u35.1), (0, .ref l0), (2, .int l2)]) (st2 := []) hm dX13_make_102 rfl ?_
      refine mx_S.ext [(0, .ref l0), (2, .int l2), (3, .int u35.1), (7, .int v37)] (mx_sub_pos [2, 3, 1, 0] rfl (show ([7, 3, 0, 2] : List Nat).Nodup by decide)) ?_
      exact ih l0 l2 u35.1 v37 u35.2 _ hf
set_option maxHeartbeats 4000000 in
set_option maxRecDepth 20000 in
theorem o_X13_make_ok (X : Nat × (Nat → Int32)) {F L d : Nat} (hF : 1460 + (d + 1) ≤ F) (hL : 37921 + (d + 1) * 28 ≤ L) (nn : Nat) {rc : tg_X13_make} (hrc : hg5_X13_make X d rc) (a0 : Nat) (a1 : Int32) (h : mx_H) {r : (Int32 × mx_H)} (hf : o_X13_make nn rc a0 a1 h = some r) : mx_R X F L 467 [.ref a0, .int a1] h (some (.int r.1), r.2, 0, 0) := by
  have hm : mx_mt 467 = some (yX13_make, cX13_make, 8, (some .boolean)) := mt_X13_make
  show mx_S X F L 467 0 [(0, .ref a0), (1, .int a1)] [] h 0 0 (some (.int r.1), r.2, 0, 0)
  unfold o_X13_make at hf
  refine mx_S.pu (pc2 := 1) (lv2 := [(0, .ref a0), (1, .int a1)]) (st2 := [.ref a0]) hm dX13_make_0 rfl ?_
  replace hf := mx_sv_el hf; obtain ⟨v39, e_v39, hf⟩ := hf
  refine sx_get hm dX13_make_1 rs_RX13_513 (xgi_el e_v39) ?_
  clear e_v39
  refine mx_S.pu (pc2 := 5) (lv2 := [(2, .int v39), (0, .ref a0), (1, .int a1)]) (st2 := []) hm dX13_make_4 rfl ?_
  refine sx_ic (v := 1) hm dX13_make_5 (by decide) ?_
  refine mx_S.pu (pc2 := 7) (lv2 := [(3, .int 1), (2, .int v39), (0, .ref a0), (1, .int a1)]) (st2 := []) hm dX13_make_6 rfl ?_
  refine mx_S.pu (pc2 := 8) (lv2 := [(3, .int 1), (2, .int v39), (0, .ref a0), (1, .int a1)]) (st2 := [.ref a0]) hm dX13_make_7 rfl ?_
  replace hf := mx_sv_el hf; obtain ⟨v40, e_v40, hf⟩ := hf
  refine sx_get hm dX13_make_8 rs_RX13_28 (xgr_el e_v40) ?_
  clear e_v40
  refine mx_S.pu (pc2 := 12) (lv2 := [(3, .int 1), (2, .int v39), (0, .ref a0), (1, .int a1)]) (st2 := [.int a1, .ref v40]) hm dX13_make_11 rfl ?_
  replace hf := mx_sv_el hf; obtain ⟨v41, e_v41, hf⟩ := hf
  refine sx_ald hm dX13_make_12 e_v41 ?_
  clear e_v41
  rcases mx_if_el hf with ⟨n_0, hf⟩ | ⟨n_0, hf⟩
  · refine sx_tin hm dX13_make_13 (by rw [n_0]; decide) (by rw [n_0]; decide) (off := 59) (by rw [n_0]; rfl) (tgt := 72) rfl ?_
    clear n_0
    refine mx_S.pu (pc2 := 73) (lv2 := [(3, .int 1), (2, .int v39), (0, .ref a0), (1, .int a1)]) (st2 := [.ref a0]) hm dX13_make_72 rfl ?_
    replace hf := mx_sv_el hf; obtain ⟨v48, e_v48, hf⟩ := hf
    refine sx_get hm dX13_make_73 rs_RX13_37 (xgr_el e_v48) ?_
    clear e_v48
    refine mx_S.pu (pc2 := 77) (lv2 := [(3, .int 1), (2, .int v39), (0, .ref a0), (1, .int a1)]) (st2 := [.int a1, .ref v48]) hm dX13_make_76 rfl ?_
    replace hf := mx_sv_el hf; obtain ⟨v49, e_v49, hf⟩ := hf
    refine sx_ald hm dX13_make_77 e_v49 ?_
    clear e_v49
    refine mx_S.pu (pc2 := 80) (lv2 := [(7, .int v49), (3, .int 1), (2, .int v39), (0, .ref a0), (1, .int a1)]) (st2 := []) hm dX13_make_78 rfl ?_
    refine mx_S.ext [(0, .ref a0), (2, .int v39), (3, .int 1), (7, .int v49)] (mx_sub_pos [3, 2, 1, 0] rfl (show ([7, 3, 2, 0, 1] : List Nat).Nodup by decide)) ?_
    exact w_X13_make_80_ok X hF hL nn hrc nn a0 v39 1 v49 h _ hf
  · rcases mx_if_el hf with ⟨n_1, hf⟩ | ⟨n_1, hf⟩
    · refine sx_tin hm dX13_make_13 (by rw [n_1]; decide) (by rw [n_1]; decide) (off := 99) (by rw [n_1]; rfl) (tgt := 112) rfl ?_
      clear n_0 n_1
      refine mx_S.pu (pc2 := 113) (lv2 := [(3, .int 1), (2, .int v39), (0, .ref a0), (1, .int a1)]) (st2 := [.ref a0]) hm dX13_make_112 rfl ?_
      refine mx_S.pu (pc2 := 114) (lv2 := [(3, .int 1), (2, .int v39), (0, .ref a0), (1, .int a1)]) (st2 := [.ref a0, .ref a0]) hm dX13_make_113 rfl ?_
      replace hf := mx_sv_el hf; obtain ⟨v50, e_v50, hf⟩ := hf
      refine sx_get hm dX13_make_114 rs_RX13_37 (xgr_el e_v50) ?_
      clear e_v50
      refine mx_S.pu (pc2 := 118) (lv2 := [(3, .int 1), (2, .int v39), (0, .ref a0), (1, .int a1)]) (st2 := [.int a1, .ref v50, .ref a0]) hm dX13_make_117 rfl ?_
      replace hf := mx_sv_el hf; obtain ⟨v51, e_v51, hf⟩ := hf
      refine sx_ald hm dX13_make_118 e_v51 ?_
      clear e_v51
      replace hf := mx_gd_el hf; obtain ⟨c52, hf⟩ := hf
      replace hf := mx_sv_el hf; obtain ⟨u53, e_u53, hf⟩ := hf
      refine sx_cv hm dX13_make_119 rs_RX13_667 mt_X13_work [.int v51] [] (b := a0) (ci := 13) rfl rfl rfl c52 (Nat.le_of_ble_eq_true rfl) (Nat.le_of_ble_eq_true rfl) (by omega) (by omega) (f_X13_work_ok X (by omega) (by omega) nn a0 v51 h e_u53) ?_
      clear e_u53
      show mx_S X F L 467 122 [(3, .int 1), (2, .int v39), (0, .ref a0), (1, .int a1)] [] u53 0 0 (some (.int r.1), r.2, 0, 0)
      refine mx_S.pu (pc2 := 123) (lv2 := [(3, .int 1), (2, .int v39), (0, .ref a0), (1, .int a1)]) (st2 := [.ref a0]) hm dX13_make_122 rfl ?_
      refine mx_S.pu (pc2 := 124) (lv2 := [(3, .int 1), (2, .int v39), (0, .ref a0), (1, .int a1)]) (st2 := [.ref a0, .ref a0]) hm dX13_make_123 rfl ?_
      replace hf := mx_sv_el hf; obtain ⟨v54, e_v54, hf⟩ := hf
      refine sx_get hm dX13_make_124 rs_RX13_49 (xgr_el e_v54) ?_
      clear e_v54
      refine mx_S.pu (pc2 := 128) (lv2 := [(3, .int 1), (2, .int v39), (0, .ref a0), (1, .int a1)]) (st2 := [.int a1, .ref v54, .ref a0]) hm dX13_make_127 rfl ?_
      replace hf := mx_sv_el hf; obtain ⟨v55, e_v55, hf⟩ := hf
      refine sx_ald hm dX13_make_128 e_v55 ?_
      clear e_v55
      refine mx_S.pu (pc2 := 130) (lv2 := [(3, .int 1), (2, .int v39), (0, .ref a0), (1, .int a1)]) (st2 := [.ref a0, .int v55, .ref a0]) hm dX13_make_129 rfl ?_
      replace hf := mx_sv_el hf; obtain ⟨v56, e_v56, hf⟩ := hf
      refine sx_get hm dX13_make_130 rs_RX13_513 (xgi_el e_v56) ?_
      clear e_v56
      replace hf := mx_gd_el hf; obtain ⟨c57, hf⟩ := hf
      replace hf := mx_sv_el hf; obtain ⟨u58, e_u58, hf⟩ := hf
      refine sx_cv hm dX13_make_133 rs_RX13_670 mt_X13_store [.int v55, .int v56] [] (b := a0) (ci := 13) rfl rfl rfl c57 (Nat.le_of_ble_eq_true rfl) (Nat.le_of_ble_eq_true rfl) (by omega) (by omega) (f_X13_store_ok X (by omega) (by omega) nn a0 v55 v56 u53 e_u58) ?_
      clear e_u58
      show mx_S X F L 467 136 [(3, .int 1), (2, .int v39), (0, .ref a0), (1, .int a1)] [] u58 0 0 (some (.int r.1), r.2, 0, 0)
      refine mx_S.pu (pc2 := 137) (lv2 := [(3, .int 1), (2, .int v39), (0, .ref a0), (1, .int a1)]) (st2 := [.ref a0]) hm dX13_make_136 rfl ?_
      refine mx_S.pu (pc2 := 138) (lv2 := [(3, .int 1), (2, .int v39), (0, .ref a0), (1, .int a1)]) (st2 := [.ref a0, .ref a0]) hm dX13_make_137 rfl ?_
      replace hf := mx_sv_el hf; obtain ⟨v59, e_v59, hf⟩ := hf
      refine sx_get hm dX13_make_138 rs_RX13_31 (xgr_el e_v59) ?_
      clear e_v59
      refine mx_S.pu (pc2 := 142) (lv2 := [(3, .int 1), (2, .int v39), (0, .ref a0), (1, .int a1)]) (st2 := [.int a1, .ref v59, .ref a0]) hm dX13_make_141 rfl ?_
      replace hf := mx_sv_el hf; obtain ⟨v60, e_v60, hf⟩ := hf
      refine sx_ald hm dX13_make_142 e_v60 ?_
      clear e_v60
      refine mx_S.pu (pc2 := 144) (lv2 := [(3, .int 1), (2, .int v39), (0, .ref a0), (1, .int a1)]) (st2 := [.ref a0, .int v60, .ref a0]) hm dX13_make_143 rfl ?_
      replace hf := mx_sv_el hf; obtain ⟨v61, e_v61, hf⟩ := hf
      refine sx_get hm dX13_make_144 rs_RX13_49 (xgr_el e_v61) ?_
      clear e_v61
      refine mx_S.pu (pc2 := 148) (lv2 := [(3, .int 1), (2, .int v39), (0, .ref a0), (1, .int a1)]) (st2 := [.int a1, .ref v61, .int v60, .ref a0]) hm dX13_make_147 rfl ?_
      replace hf := mx_sv_el hf; obtain ⟨v62, e_v62, hf⟩ := hf
      refine sx_ald hm dX13_make_148 e_v62 ?_
      clear e_v62
      replace hf := mx_gd_el hf; obtain ⟨c63, hf⟩ := hf
      replace hf := mx_sv_el hf; obtain ⟨u64, e_u64, hf⟩ := hf
      refine sx_cv hm dX13_make_149 rs_RX13_673 mt_X13_comes [.int v60, .int v62] [] (b := a0) (ci := 13) rfl rfl rfl c63 (Nat.le_of_ble_eq_true rfl) (Nat.le_of_ble_eq_true rfl) (by omega) (by omega) (f_X13_comes_ok X (by omega) (by omega) nn a0 v60 v62 u58 e_u64) ?_
      clear e_u64
      show mx_S X F L 467 152 [(3, .int 1), (2, .int v39), (0, .ref a0), (1, .int a1)] [] u64 0 0 (some (.int r.1), r.2, 0, 0)
      refine sx_ic (v := 1) hm dX13_make_152 (by decide) ?_
      cases hf
      exact sx_ire hm dX13_make_153 rfl (by decide)
    · rcases mx_if_el hf with ⟨n_2, hf⟩ | ⟨n_2, hf⟩
      · refine sx_tin hm dX13_make_13 (by rw [n_2]; decide) (by rw [n_2]; decide) (off := 141) (by rw [n_2]; rfl) (tgt := 154) rfl ?_
        clear n_0 n_1 n_2
        refine mx_S.pu (pc2 := 155) (lv2 := [(3, .int 1), (2, .int v39), (0, .ref a0), (1, .int a1)]) (st2 := [.ref a0]) hm dX13_make_154 rfl ?_
        replace hf := mx_gd_el hf; obtain ⟨c65, hf⟩ := hf
        replace hf := mx_sv_el hf; obtain ⟨u66, e_u66, hf⟩ := hf
        refine sx_cv hm dX13_make_155 rs_RX13_676 mt_X13_label [] [] (b := a0) (ci := 13) rfl rfl rfl c65 (Nat.le_of_ble_eq_true rfl) (Nat.le_of_ble_eq_true rfl) (by omega) (by omega) (f_X13_label_ok X (by omega) (by omega) nn a0 h e_u66) ?_
        clear e_u66
        show mx_S X F L 467 158 [(3, .int 1), (2, .int v39), (0, .ref a0), (1, .int a1)] [.int u66.1] u66.2 0 0 (some (.int r.1), r.2, 0, 0)
        refine mx_S.pu (pc2 := 160) (lv2 := [(5, .int u66.1), (3, .int 1), (2, .int v39), (0, .ref a0), (1, .int a1)]) (st2 := []) hm dX13_make_158 rfl ?_
        refine mx_S.pu (pc2 := 161) (lv2 := [(5, .int u66.1), (3, .int 1), (2, .int v39), (0, .ref a0), (1, .int a1)]) (st2 := [.ref a0]) hm dX13_make_160 rfl ?_
        refine mx_S.pu (pc2 := 162) (lv2 := [(5, .int u66.1), (3, .int 1), (2, .int v39), (0, .ref a0), (1, .int a1)]) (st2 := [.ref a0, .ref a0]) hm dX13_make_161 rfl ?_
        replace hf := mx_sv_el hf; obtain ⟨v67, e_v67, hf⟩ := hf
        refine sx_get hm dX13_make_162 rs_RX13_37 (xgr_el e_v67) ?_
        clear e_v67
        refine mx_S.pu (pc2 := 166) (lv2 := [(5, .int u66.1), (3, .int 1), (2, .int v39), (0, .ref a0), (1, .int a1)]) (st2 := [.int a1, .ref v67, .ref a0]) hm dX13_make_165 rfl ?_
        replace hf := mx_sv_el hf; obtain ⟨v68, e_v68, hf⟩ := hf
        refine sx_ald hm dX13_make_166 e_v68 ?_
        clear e_v68
        replace hf := mx_gd_el hf; obtain ⟨c69, hf⟩ := hf
        replace hf := mx_sv_el hf; obtain ⟨u70, e_u70, hf⟩ := hf
        refine sx_cv hm dX13_make_167 rs_RX13_667 mt_X13_work [.int v68] [] (b := a0) (ci := 13) rfl rfl rfl c69 (Nat.le_of_ble_eq_true rfl) (Nat.le_of_ble_eq_true rfl) (by omega) (by omega) (f_X13_work_ok X (by omega) (by omega) nn a0 v68 u66.2 e_u70) ?_
        clear e_u70
        show mx_S X F L 467 170 [(5, .int u66.1), (3, .int 1), (2, .int v39), (0, .ref a0), (1, .int a1)] [] u70 0 0 (some (.int r.1), r.2, 0, 0)
        refine mx_S.pu (pc2 := 171) (lv2 := [(5, .int u66.1), (3, .int 1), (2, .int v39), (0, .ref a0), (1, .int a1)]) (st2 := [.ref a0]) hm dX13_make_170 rfl ?_
        refine mx_S.pu (pc2 := 172) (lv2 := [(5, .int u66.1), (3, .int 1), (2, .int v39), (0, .ref a0), (1, .int a1)]) (st2 := [.ref a0, .ref a0]) hm dX13_make_171 rfl ?_
        replace hf := mx_sv_el hf; obtain ⟨v71, e_v71, hf⟩ := hf
        refine sx_get hm dX13_make_172 rs_RX13_629 (xgi_el e_v71) ?_
        clear e_v71
        refine sx_ic (v := 1) hm dX13_make_175 (by decide) ?_
        replace hf := xl_el hf; obtain ⟨v72, e_v72, hf⟩ := hf
        refine mx_S.pu (pc2 := 177) (lv2 := [(5, .int u66.1), (3, .int 1), (2, .int v39), (0, .ref a0), (1, .int a1)]) (st2 := [.int v72, .ref a0]) hm dX13_make_176 (by rw [← e_v72]; rfl) ?_
        clear e_v72
        replace hf := mx_sv_el hf; obtain ⟨h73, e_h73, hf⟩ := hf
        refine sx_put hm dX13_make_177 rs_RX13_629 ft_13_70 ⟨rfl, rfl⟩ (fun z => by cases z) e_h73 ?_
        clear e_h73
        refine mx_S.pu (pc2 := 181) (lv2 := [(5, .int u66.1), (3, .int 1), (2, .int v39), (0, .ref a0), (1, .int a1)]) (st2 := [.ref a0]) hm dX13_make_180 rfl ?_
        refine sx_si (v := 153) hm dX13_make_181 (by decide) ?_
        refine mx_S.pu (pc2 := 186) (lv2 := [(5, .int u66.1), (3, .int 1), (2, .int v39), (0, .ref a0), (1, .int a1)]) (st2 := [.int u66.1, .int 153, .ref a0]) hm dX13_make_184 rfl ?_
        replace hf := mx_gd_el hf; obtain ⟨c74, hf⟩ := hf
        replace hf := mx_sv_el hf; obtain ⟨u75, e_u75, hf⟩ := hf
        refine sx_cv hm dX13_make_186 rs_RX13_679 mt_X13_jump [.int 153, .int u66.1] [] (b := a0) (ci := 13) rfl rfl rfl c74 (Nat.le_of_ble_eq_true rfl) (Nat.le_of_ble_eq_true rfl) (by omega) (by omega) (f_X13_jump_ok X (by omega) (by omega) nn a0 153 u66.1 h73 e_u75) ?_
        clear e_u75
        show mx_S X F L 467 189 [(5, .int u66.1), (3, .int 1), (2, .int v39), (0, .ref a0), (1, .int a1)] [] u75 0 0 (some (.int r.1), r.2, 0, 0)
        refine mx_S.pu (pc2 := 190) (lv2 := [(5, .int u66.1), (3, .int 1), (2, .int v39), (0, .ref a0), (1, .int a1)]) (st2 := [.ref a0]) hm dX13_make_189 rfl ?_
        refine mx_S.pu (pc2 := 191) (lv2 := [(5, .int u66.1), (3, .int 1), (2, .int v39), (0, .ref a0), (1, .int a1)]) (st2 := [.ref a0, .ref a0]) hm dX13_make_190 rfl ?_
        replace hf := mx_sv_el hf; obtain ⟨v76, e_v76, hf⟩ := hf
        refine sx_get hm dX13_make_191 rs_RX13_40 (xgr_el e_v76) ?_
        clear e_v76
        refine mx_S.pu (pc2 := 195) (lv2 := [(5, .int u66.1), (3, .int 1), (2, .int v39), (0, .ref a0), (1, .int a1)]) (st2 := [.int a1, .ref v76, .ref a0]) hm dX13_make_194 rfl ?_
        replace hf := mx_sv_el hf; obtain ⟨v77, e_v77, hf⟩ := hf
        refine sx_ald hm dX13_make_195 e_v77 ?_
        clear e_v77
        replace hf := mx_gd_el hf; obtain ⟨c78, hf⟩ := hf
        replace hf := mx_sv_el hf; obtain ⟨u79, e_u79, hf⟩ := hf
        refine sx_cv hm dX13_make_196 rs_RX13_664 mt_X13_make [.int v77] [] (b := a0) (ci := 13) rfl rfl rfl c78 (Nat.le_of_ble_eq_true rfl) (Nat.le_of_ble_eq_true rfl) (by omega) (by omega) (hrc.1 (by omega) (by omega) a0 v77 u75 e_u79) ?_
        clear e_u79
        show mx_S X F L 467 199 [(5, .int u66.1), (3, .int 1), (2, .int v39), (0, .ref a0), (1, .int a1)] [.int u79.1] u79.2 0 0 (some (.int r.1), r.2, 0, 0)
        refine mx_S.pu (pc2 := 200) (lv2 := [(3, .int u79.1), (5, .int u66.1), (2, .int v39), (0, .ref a0), (1, .int a1)]) (st2 := []) hm dX13_make_199 rfl ?_
        refine mx_S.pu (pc2 := 201) (lv2 := [(3, .int u79.1), (5, .int u66.1), (2, .int v39), (0, .ref a0), (1, .int a1)]) (st2 := [.ref a0]) hm dX13_make_200 rfl ?_
        refine mx_S.pu (pc2 := 202) (lv2 := [(3, .int u79.1), (5, .int u66.1), (2, .int v39), (0, .ref a0), (1, .int a1)]) (st2 := [.int v39, .ref a0]) hm dX13_make_201 rfl ?_
        replace hf := mx_sv_el hf; obtain ⟨h80, e_h80, hf⟩ := hf
        refine sx_put hm dX13_make_202 rs_RX13_513 ft_13_50 ⟨rfl, rfl⟩ (fun z => by cases z) e_h80 ?_
        clear e_h80
        refine mx_S.pu (pc2 := 206) (lv2 := [(3, .int u79.1), (5, .int u66.1), (2, .int v39), (0, .ref a0), (1, .int a1)]) (st2 := [.ref a0]) hm dX13_make_205 rfl ?_
        replace hf := mx_sv_el hf; obtain ⟨v81, e_v81, hf⟩ := hf
        refine sx_get hm dX13_make_206 rs_RX13_43 (xgr_el e_v81) ?_
        clear e_v81
        refine mx_S.pu (pc2 := 210) (lv2 := [(3, .int u79.1), (5, .int u66.1), (2, .int v39), (0, .ref a0), (1, .int a1)]) (st2 := [.int a1, .ref v81]) hm dX13_make_209 rfl ?_
        replace hf := mx_sv_el hf; obtain ⟨v82, e_v82, hf⟩ := hf
        refine sx_ald hm dX13_make_210 e_v82 ?_
        clear e_v82
        refine sx_ic (v := (-1)) hm dX13_make_211 (by decide) ?_
        rcases mx_if_el hf with ⟨c91, hf⟩ | ⟨c91, hf⟩
        · refine sb_ic_ne hm dX13_make_212 (tgt := 227) rfl (fun _ => ?_) (fun z => absurd c91 z)
          refine mx_S.pu (pc2 := 228) (lv2 := [(3, .int u79.1), (5, .int u66.1), (2, .int v39), (0, .ref a0), (1, .int a1)]) (st2 := [.ref a0]) hm dX13_make_227 rfl ?_
          replace hf := mx_gd_el hf; obtain ⟨c83, hf⟩ := hf
          replace hf := mx_sv_el hf; obtain ⟨u84, e_u84, hf⟩ := hf
          refine sx_cv hm dX13_make_228 rs_RX13_676 mt_X13_label [] [] (b := a0) (ci := 13) rfl rfl rfl c83 (Nat.le_of_ble_eq_true rfl) (Nat.le_of_ble_eq_true rfl) (by omega) (by omega) (f_X13_label_ok X (by omega) (by omega) nn a0 h80 e_u84) ?_
          clear e_u84
          show mx_S X F L 467 231 [(3, .int u79.1), (5, .int u66.1), (2, .int v39), (0, .ref a0), (1, .int a1)] [.int u84.1] u84.2 0 0 (some (.int r.1), r.2, 0, 0)
          refine mx_S.pu (pc2 := 233) (lv2 := [(6, .int u84.1), (3, .int u79.1), (5, .int u66.1), (2, .int v39), (0, .ref a0), (1, .int a1)]) (st2 := []) hm dX13_make_231 rfl ?_
          refine mx_S.pu (pc2 := 234) (lv2 := [(6, .int u84.1), (3, .int u79.1), (5, .int u66.1), (2, .int v39), (0, .ref a0), (1, .int a1)]) (st2 := [.int u79.1]) hm dX13_make_233 rfl ?_
          rcases mx_if_el hf with ⟨c87, hf⟩ | ⟨c87, hf⟩
          · refine sb_if_eq hm dX13_make_234 (tgt := 246) rfl (fun _ => ?_) (fun z => absurd c87 z)
            refine mx_S.ext [(0, .ref a0), (1, .int a1), (2, .int v39), (3, .int u79.1), (5, .int u66.1), (6, .int u84.1)] (mx_sub_pos [4, 5, 3, 1, 2, 0] rfl (show ([6, 3, 5, 2, 0, 1] : List Nat).Nodup by decide)) ?_
            exact j_X13_make_246_ok X hF hL nn hrc a0 a1 v39 u79.1 u66.1 u84.1 u84.2 hf
          · refine sb_if_eq hm dX13_make_234 (tgt := 246) rfl (fun z => absurd z c87) (fun _ => ?_)
            refine mx_S.pu (pc2 := 238) (lv2 := [(6, .int u84.1), (3, .int u79.1), (5, .int u66.1), (2, .int v39), (0, .ref a0), (1, .int a1)]) (st2 := [.ref a0]) hm dX13_make_237 rfl ?_
            refine sx_si (v := 167) hm dX13_make_238 (by decide) ?_
            refine mx_S.pu (pc2 := 243) (lv2 := [(6, .int u84.1), (3, .int u79.1), (5, .int u66.1), (2, .int v39), (0, .ref a0), (1, .int a1)]) (st2 := [.int u84.1, .int 167, .ref a0]) hm dX13_make_241 rfl ?_
            replace hf := mx_gd_el hf; obtain ⟨c85, hf⟩ := hf
            replace hf := mx_sv_el hf; obtain ⟨u86, e_u86, hf⟩ := hf
            refine sx_cv hm dX13_make_243 rs_RX13_679 mt_X13_jump [.int 167, .int u84.1] [] (b := a0) (ci := 13) rfl rfl rfl c85 (Nat.le_of_ble_eq_true rfl) (Nat.le_of_ble_eq_true rfl) (by omega) (by omega) (f_X13_jump_ok X (by omega) (by omega) nn a0 167 u84.1 u84.2 e_u86) ?_
            clear e_u86
            show mx_S X F L 467 246 [(6, .int u84.1), (3, .int u79.1), (5, .int u66.1), (2, .int v39), (0, .ref a0), (1, .int a1)] [] u86 0 0 (some (.int r.1), r.2, 0, 0)
            refine mx_S.ext [(0, .ref a0), (1, .int a1), (2, .int v39), (3, .int u79.1), (5, .int u66.1), (6, .int u84.1)] (mx_sub_pos [4, 5, 3, 1, 2, 0] rfl (show ([6, 3, 5, 2, 0, 1] : List Nat).Nodup by decide)) ?_
            exact j_X13_make_246_ok X hF hL nn hrc a0 a1 v39 u79.1 u66.1 u84.1 u86 hf
        · refine sb_ic_ne hm dX13_make_212 (tgt := 227) rfl (fun z => absurd z c91) (fun _ => ?_)
          refine mx_S.pu (pc2 := 216) (lv2 := [(3, .int u79.1), (5, .int u66.1), (2, .int v39), (0, .ref a0), (1, .int a1)]) (st2 := [.ref a0]) hm dX13_make_215 rfl ?_
          refine mx_S.pu (pc2 := 218) (lv2 := [(3, .int u79.1), (5, .int u66.1), (2, .int v39), (0, .ref a0), (1, .int a1)]) (st2 := [.int u66.1, .ref a0]) hm dX13_make_216 rfl ?_
          refine mx_S.pu (pc2 := 219) (lv2 := [(3, .int u79.1), (5, .int u66.1), (2, .int v39), (0, .ref a0), (1, .int a1)]) (st2 := [.ref a0, .int u66.1, .ref a0]) hm dX13_make_218 rfl ?_
          replace hf := mx_sv_el hf; obtain ⟨v88, e_v88, hf⟩ := hf
          refine sx_get hm dX13_make_219 rs_RX13_627 (xgi_el e_v88) ?_
          clear e_v88
          replace hf := mx_gd_el hf; obtain ⟨c89, hf⟩ := hf
          replace hf := mx_sv_el hf; obtain ⟨u90, e_u90, hf⟩ := hf
          refine sx_cv hm dX13_make_222 rs_RX13_682 mt_X13_stands [.int u66.1, .int v88] [] (b := a0) (ci := 13) rfl rfl rfl c89 (Nat.le_of_ble_eq_true rfl) (Nat.le_of_ble_eq_true rfl) (by omega) (by omega) (f_X13_stands_ok X (by omega) (by omega) nn a0 u66.1 v88 h80 e_u90) ?_
          clear e_u90
          show mx_S X F L 467 225 [(3, .int u79.1), (5, .int u66.1), (2, .int v39), (0, .ref a0), (1, .int a1)] [] u90 0 0 (some (.int r.1), r.2, 0, 0)
          refine mx_S.ext [] (mx_sub_pos [] rfl (show ([3, 5, 2, 0, 1] : List Nat).Nodup by decide)) ?_
          exact j_X13_make_225_ok X hF hL nn hrc u90 hf
      · rcases mx_if_el hf with ⟨n_3, hf⟩ | ⟨n_3, hf⟩
        · refine sx_tin hm dX13_make_13 (by rw [n_3]; decide) (by rw [n_3]; decide) (off := 285) (by rw [n_3]; rfl) (tgt := 298) rfl ?_
          clear n_0 n_1 n_2 n_3
          refine mx_S.pu (pc2 := 299) (lv2 := [(3, .int 1), (2, .int v39), (0, .ref a0), (1, .int a1)]) (st2 := [.ref a0]) hm dX13_make_298 rfl ?_
          refine mx_S.pu (pc2 := 300) (lv2 := [(3, .int 1), (2, .int v39), (0, .ref a0), (1, .int a1)]) (st2 := [.int a1, .ref a0]) hm dX13_make_299 rfl ?_
          refine mx_S.pu (pc2 := 301) (lv2 := [(3, .int 1), (2, .int v39), (0, .ref a0), (1, .int a1)]) (st2 := [.int v39, .int a1, .ref a0]) hm dX13_make_300 rfl ?_
          replace hf := mx_gd_el hf; obtain ⟨c92, hf⟩ := hf
          replace hf := mx_sv_el hf; obtain ⟨u93, e_u93, hf⟩ := hf
          refine sx_cv hm dX13_make_301 rs_RX13_685 mt_X13_makeLoop [.int a1, .int v39] [] (b := a0) (ci := 13) rfl rfl rfl c92 (Nat.le_of_ble_eq_true rfl) (Nat.le_of_ble_eq_true rfl) (by omega) (by omega) (hrc.2.1 (by omega) (by omega) a0 a1 v39 h e_u93) ?_
          clear e_u93
          show mx_S X F L 467 304 [(3, .int 1), (2, .int v39), (0, .ref a0), (1, .int a1)] [.int u93.1] u93.2 0 0 (some (.int r.1), r.2, 0, 0)
          replace hf := mx_gd_el hf; obtain ⟨c94, hf⟩ := hf
          cases hf
          exact sx_ire hm dX13_make_304 rfl (xbq_ok c94).1
        · rcases mx_if_el hf with ⟨n_4, hf⟩ | ⟨n_4, hf⟩
          · refine sx_tin hm dX13_make_13 (by rw [n_4]; decide) (by rw [n_4]; decide) (off := 292) (by rw [n_4]; rfl) (tgt := 305) rfl ?_
            clear n_0 n_1 n_2 n_3 n_4
            refine mx_S.ext [(0, .ref a0), (1, .int a1)] (mx_sub_pos [2, 3] rfl (show ([3, 2, 0, 1] : List Nat).Nodup by decide)) ?_
            exact j_X13_make_305_ok X hF hL nn hrc a0 a1 h hf
          · rcases mx_if_el hf with ⟨n_5, hf⟩ | ⟨n_5, hf⟩
            · refine sx_tin hm dX13_make_13 (by rw [n_5]; decide) (by rw [n_5]; decide) (off := 292) (by rw [n_5]; rfl) (tgt := 305) rfl ?_
              clear n_0 n_1 n_2 n_3 n_4 n_5
              refine mx_S.ext [(0, .ref a0), (1, .int a1)] (mx_sub_pos [2, 3] rfl (show ([3, 2, 0, 1] : List Nat).Nodup by decide)) ?_
              exact j_X13_make_305_ok X hF hL nn hrc a0 a1 h hf
            · rcases mx_if_el hf with ⟨n_6, hf⟩ | ⟨n_6, hf⟩
              · refine sx_tin hm dX13_make_13 (by rw [n_6]; decide) (by rw [n_6]; decide) (off := 332) (by rw [n_6]; rfl) (tgt := 345) rfl ?_
                clear n_0 n_1 n_2 n_3 n_4 n_5 n_6
                refine mx_S.pu (pc2 := 346) (lv2 := [(3, .int 1), (2, .int v39), (0, .ref a0), (1, .int a1)]) (st2 := [.ref a0]) hm dX13_make_345 rfl ?_
                replace hf := mx_sv_el hf; obtain ⟨v95, e_v95, hf⟩ := hf
                refine sx_get hm dX13_make_346 rs_RX13_37 (xgr_el e_v95) ?_
                clear e_v95
                refine mx_S.pu (pc2 := 350) (lv2 := [(3, .int 1), (2, .int v39), (0, .ref a0), (1, .int a1)]) (st2 := [.int a1, .ref v95]) hm dX13_make_349 rfl ?_
                replace hf := mx_sv_el hf; obtain ⟨v96, e_v96, hf⟩ := hf
                refine sx_ald hm dX13_make_350 e_v96 ?_
                clear e_v96
                refine sx_ic (v := (-1)) hm dX13_make_351 (by decide) ?_
                rcases mx_if_el hf with ⟨c114, hf⟩ | ⟨c114, hf⟩
                · refine sb_ic_ne hm dX13_make_352 (tgt := 365) rfl (fun _ => ?_) (fun z => absurd c114 z)
                  refine mx_S.pu (pc2 := 366) (lv2 := [(3, .int 1), (2, .int v39), (0, .ref a0), (1, .int a1)]) (st2 := [.ref a0]) hm dX13_make_365 rfl ?_
                  refine mx_S.pu (pc2 := 367) (lv2 := [(3, .int 1), (2, .int v39), (0, .ref a0), (1, .int a1)]) (st2 := [.ref a0, .ref a0]) hm dX13_make_366 rfl ?_
                  replace hf := mx_sv_el hf; obtain ⟨v97, e_v97, hf⟩ := hf
                  refine sx_get hm dX13_make_367 rs_RX13_37 (xgr_el e_v97) ?_
                  clear e_v97
                  refine mx_S.pu (pc2 := 371) (lv2 := [(3, .int 1), (2, .int v39), (0, .ref a0), (1, .int a1)]) (st2 := [.int a1, .ref v97, .ref a0]) hm dX13_make_370 rfl ?_
                  replace hf := mx_sv_el hf; obtain ⟨v98, e_v98, hf⟩ := hf
                  refine sx_ald hm dX13_make_371 e_v98 ?_
                  clear e_v98
                  replace hf := mx_gd_el hf; obtain ⟨c99, hf⟩ := hf
                  replace hf := mx_sv_el hf; obtain ⟨u100, e_u100, hf⟩ := hf
                  refine sx_cv hm dX13_make_372 rs_RX13_667 mt_X13_work [.int v98] [] (b := a0) (ci := 13) rfl rfl rfl c99 (Nat.le_of_ble_eq_true rfl) (Nat.le_of_ble_eq_true rfl) (by omega) (by omega) (f_X13_work_ok X (by omega) (by omega) nn a0 v98 h e_u100) ?_
                  clear e_u100
                  show mx_S X F L 467 375 [(3, .int 1), (2, .int v39), (0, .ref a0), (1, .int a1)] [] u100 0 0 (some (.int r.1), r.2, 0, 0)
                  refine mx_S.pu (pc2 := 376) (lv2 := [(3, .int 1), (2, .int v39), (0, .ref a0), (1, .int a1)]) (st2 := [.ref a0]) hm dX13_make_375 rfl ?_
                  refine mx_S.pu (pc2 := 377) (lv2 := [(3, .int 1), (2, .int v39), (0, .ref a0), (1, .int a1)]) (st2 := [.ref a0, .ref a0]) hm dX13_make_376 rfl ?_
                  replace hf := mx_sv_el hf; obtain ⟨v101, e_v101, hf⟩ := hf
                  refine sx_get hm dX13_make_377 rs_RX13_629 (xgi_el e_v101) ?_
                  clear e_v101
                  refine sx_ic (v := 1) hm dX13_make_380 (by decide) ?_
                  replace hf := xl_el hf; obtain ⟨v102, e_v102, hf⟩ := hf
                  refine mx_S.pu (pc2 := 382) (lv2 := [(3, .int 1), (2, .int v39), (0, .ref a0), (1, .int a1)]) (st2 := [.int v102, .ref a0]) hm dX13_make_381 (by rw [← e_v102]; rfl) ?_
                  clear e_v102
                  replace hf := mx_sv_el hf; obtain ⟨h103, e_h103, hf⟩ := hf
                  refine sx_put hm dX13_make_382 rs_RX13_629 ft_13_70 ⟨rfl, rfl⟩ (fun z => by cases z) e_h103 ?_
                  clear e_h103
                  refine mx_S.pu (pc2 := 386) (lv2 := [(3, .int 1), (2, .int v39), (0, .ref a0), (1, .int a1)]) (st2 := [.ref a0]) hm dX13_make_385 rfl ?_
                  refine mx_S.pu (pc2 := 387) (lv2 := [(3, .int 1), (2, .int v39), (0, .ref a0), (1, .int a1)]) (st2 := [.ref a0, .ref a0]) hm dX13_make_386 rfl ?_
                  replace hf := mx_sv_el hf; obtain ⟨v104, e_v104, hf⟩ := hf
                  refine sx_get hm dX13_make_387 rs_RX13_89 (xgr_el e_v104) ?_
                  clear e_v104
                  refine mx_S.pu (pc2 := 391) (lv2 := [(3, .int 1), (2, .int v39), (0, .ref a0), (1, .int a1)]) (st2 := [.ref a0, .ref v104, .ref a0]) hm dX13_make_390 rfl ?_
                  replace hf := mx_sv_el hf; obtain ⟨v105, e_v105, hf⟩ := hf
                  refine sx_get hm dX13_make_391 rs_RX13_516 (xgi_el e_v105) ?_
                  clear e_v105
                  replace hf := mx_sv_el hf; obtain ⟨v106, e_v106, hf⟩ := hf
                  refine sx_ald hm dX13_make_394 e_v106 ?_
                  clear e_v106
                  refine sx_ic (v := 1) hm dX13_make_395 (by decide) ?_
                  rcases mx_if_el hf with ⟨c111, hf⟩ | ⟨c111, hf⟩
                  · refine sb_ic_gt hm dX13_make_396 (tgt := 405) rfl (fun _ => ?_) (fun z => absurd c111 z)
                    refine sx_si (v := 176) hm dX13_make_405 (by decide) ?_
                    replace hf := mx_gd_el hf; obtain ⟨c107, hf⟩ := hf
                    replace hf := mx_sv_el hf; obtain ⟨u108, e_u108, hf⟩ := hf
                    refine sx_cv hm dX13_make_408 rs_RX13_646 mt_X13_put [.int 176] [] (b := a0) (ci := 13) rfl rfl rfl c107 (Nat.le_of_ble_eq_true rfl) (Nat.le_of_ble_eq_true rfl) (by omega) (by omega) (f_X13_put_ok X (by omega) (by omega) nn a0 176 h103 e_u108) ?_
                    clear e_u108
                    show mx_S X F L 467 411 [(3, .int 1), (2, .int v39), (0, .ref a0), (1, .int a1)] [] u108 0 0 (some (.int r.1), r.2, 0, 0)
                    refine sx_ic (v := 0) hm dX13_make_411 (by decide) ?_
                    cases hf
                    exact sx_ire hm dX13_make_412 rfl (by decide)
                  · refine sb_ic_gt hm dX13_make_396 (tgt := 405) rfl (fun z => absurd z c111) (fun _ => ?_)
                    refine sx_si (v := 172) hm dX13_make_399 (by decide) ?_
                    refine mx_S.pu (pc2 := 408) (lv2 := [(3, .int 1), (2, .int v39), (0, .ref a0), (1, .int a1)]) (st2 := [.int 172, .ref a0]) hm dX13_make_402 rfl ?_
                    replace hf := mx_gd_el hf; obtain ⟨c109, hf⟩ := hf
                    replace hf := mx_sv_el hf; obtain ⟨u110, e_u110, hf⟩ := hf
                    refine sx_cv hm dX13_make_408 rs_RX13_646 mt_X13_put [.int 172] [] (b := a0) (ci := 13) rfl rfl rfl c109 (Nat.le_of_ble_eq_true rfl) (Nat.le_of_ble_eq_true rfl) (by omega) (by omega) (f_X13_put_ok X (by omega) (by omega) nn a0 172 h103 e_u110) ?_
                    clear e_u110
                    show mx_S X F L 467 411 [(3, .int 1), (2, .int v39), (0, .ref a0), (1, .int a1)] [] u110 0 0 (some (.int r.1), r.2, 0, 0)
                    refine sx_ic (v := 0) hm dX13_make_411 (by decide) ?_
                    cases hf
                    exact sx_ire hm dX13_make_412 rfl (by decide)
                · refine sb_ic_ne hm dX13_make_352 (tgt := 365) rfl (fun z => absurd z c114) (fun _ => ?_)
                  refine mx_S.pu (pc2 := 356) (lv2 := [(3, .int 1), (2, .int v39), (0, .ref a0), (1, .int a1)]) (st2 := [.ref a0]) hm dX13_make_355 rfl ?_
                  refine sx_si (v := 177) hm dX13_make_356 (by decide) ?_
                  replace hf := mx_gd_el hf; obtain ⟨c112, hf⟩ := hf
                  replace hf := mx_sv_el hf; obtain ⟨u113, e_u113, hf⟩ := hf
                  refine sx_cv hm dX13_make_359 rs_RX13_646 mt_X13_put [.int 177] [] (b := a0) (ci := 13) rfl rfl rfl c112 (Nat.le_of_ble_eq_true rfl) (Nat.le_of_ble_eq_true rfl) (by omega) (by omega) (f_X13_put_ok X (by omega) (by omega) nn a0 177 h e_u113) ?_
                  clear e_u113
                  show mx_S X F L 467 362 [(3, .int 1), (2, .int v39), (0, .ref a0), (1, .int a1)] [] u113 0 0 (some (.int r.1), r.2, 0, 0)
                  refine mx_S.pu (pc2 := 411) (lv2 := [(3, .int 1), (2, .int v39), (0, .ref a0), (1, .int a1)]) (st2 := []) hm dX13_make_362 rfl ?_
                  refine sx_ic (v := 0) hm dX13_make_411 (by decide) ?_
                  cases hf
                  exact sx_ire hm dX13_make_412 rfl (by decide)
              · rcases mx_if_el hf with ⟨n_7, hf⟩ | ⟨n_7, hf⟩
                · refine sx_tin hm dX13_make_13 (by rw [n_7]; decide) (by rw [n_7]; decide) (off := 400) (by rw [n_7]; rfl) (tgt := 413) rfl ?_
                  clear n_0 n_1 n_2 n_3 n_4 n_5 n_6 n_7
                  refine mx_S.pu (pc2 := 414) (lv2 := [(3, .int 1), (2, .int v39), (0, .ref a0), (1, .int a1)]) (st2 := [.ref a0]) hm dX13_make_413 rfl ?_
                  refine mx_S.pu (pc2 := 415) (lv2 := [(3, .int 1), (2, .int v39), (0, .ref a0), (1, .int a1)]) (st2 := [.ref a0, .ref a0]) hm dX13_make_414 rfl ?_
                  replace hf := mx_sv_el hf; obtain ⟨v115, e_v115, hf⟩ := hf
                  refine sx_get hm dX13_make_415 rs_RX13_37 (xgr_el e_v115) ?_
                  clear e_v115
                  refine mx_S.pu (pc2 := 419) (lv2 := [(3, .int 1), (2, .int v39), (0, .ref a0), (1, .int a1)]) (st2 := [.int a1, .ref v115, .ref a0]) hm dX13_make_418 rfl ?_
                  replace hf := mx_sv_el hf; obtain ⟨v116, e_v116, hf⟩ := hf
                  refine sx_ald hm dX13_make_419 e_v116 ?_
                  clear e_v116
                  replace hf := mx_gd_el hf; obtain ⟨c117, hf⟩ := hf
                  replace hf := mx_sv_el hf; obtain ⟨u118, e_u118, hf⟩ := hf
                  refine sx_cv hm dX13_make_420 rs_RX13_667 mt_X13_work [.int v116] [] (b := a0) (ci := 13) rfl rfl rfl c117 (Nat.le_of_ble_eq_true rfl) (Nat.le_of_ble_eq_true rfl) (by omega) (by omega) (f_X13_work_ok X (by omega) (by omega) nn a0 v116 h e_u118) ?_
                  clear e_u118
                  show mx_S X F L 467 423 [(3, .int 1), (2, .int v39), (0, .ref a0), (1, .int a1)] [] u118 0 0 (some (.int r.1), r.2, 0, 0)
                  refine mx_S.pu (pc2 := 424) (lv2 := [(3, .int 1), (2, .int v39), (0, .ref a0), (1, .int a1)]) (st2 := [.ref a0]) hm dX13_make_423 rfl ?_
                  refine mx_S.pu (pc2 := 425) (lv2 := [(3, .int 1), (2, .int v39), (0, .ref a0), (1, .int a1)]) (st2 := [.ref a0, .ref a0]) hm dX13_make_424 rfl ?_
                  replace hf := mx_sv_el hf; obtain ⟨v119, e_v119, hf⟩ := hf
                  refine sx_get hm dX13_make_425 rs_RX13_629 (xgi_el e_v119) ?_
                  clear e_v119
                  refine sx_ic (v := 1) hm dX13_make_428 (by decide) ?_
                  replace hf := xl_el hf; obtain ⟨v120, e_v120, hf⟩ := hf
                  refine mx_S.pu (pc2 := 430) (lv2 := [(3, .int 1), (2, .int v39), (0, .ref a0), (1, .int a1)]) (st2 := [.int v120, .ref a0]) hm dX13_make_429 (by rw [← e_v120]; rfl) ?_
                  clear e_v120
                  replace hf := mx_sv_el hf; obtain ⟨h121, e_h121, hf⟩ := hf
                  refine sx_put hm dX13_make_430 rs_RX13_629 ft_13_70 ⟨rfl, rfl⟩ (fun z => by cases z) e_h121 ?_
                  clear e_h121
                  refine mx_S.pu (pc2 := 434) (lv2 := [(3, .int 1), (2, .int v39), (0, .ref a0), (1, .int a1)]) (st2 := [.ref a0]) hm dX13_make_433 rfl ?_
                  refine sx_si (v := 191) hm dX13_make_434 (by decide) ?_
                  replace hf := mx_gd_el hf; obtain ⟨c122, hf⟩ := hf
                  replace hf := mx_sv_el hf; obtain ⟨u123, e_u123, hf⟩ := hf
                  refine sx_cv hm dX13_make_437 rs_RX13_646 mt_X13_put [.int 191] [] (b := a0) (ci := 13) rfl rfl rfl c122 (Nat.le_of_ble_eq_true rfl) (Nat.le_of_ble_eq_true rfl) (by omega) (by omega) (f_X13_put_ok X (by omega) (by omega) nn a0 191 h121 e_u123) ?_
                  clear e_u123
                  show mx_S X F L 467 440 [(3, .int 1), (2, .int v39), (0, .ref a0), (1, .int a1)] [] u123 0 0 (some (.int r.1), r.2, 0, 0)
                  refine sx_ic (v := 0) hm dX13_make_440 (by decide) ?_
                  cases hf
                  exact sx_ire hm dX13_make_441 rfl (by decide)
                · rcases mx_if_el hf with ⟨n_8, hf⟩ | ⟨n_8, hf⟩
                  · refine sx_tin hm dX13_make_13 (by rw [n_8]; decide) (by rw [n_8]; decide) (off := 429) (by rw [n_8]; rfl) (tgt := 442) rfl ?_
                    clear n_0 n_1 n_2 n_3 n_4 n_5 n_6 n_7 n_8
                    refine mx_S.pu (pc2 := 443) (lv2 := [(3, .int 1), (2, .int v39), (0, .ref a0), (1, .int a1)]) (st2 := [.ref a0]) hm dX13_make_442 rfl ?_
                    refine mx_S.pu (pc2 := 444) (lv2 := [(3, .int 1), (2, .int v39), (0, .ref a0), (1, .int a1)]) (st2 := [.int a1, .ref a0]) hm dX13_make_443 rfl ?_
                    refine mx_S.pu (pc2 := 445) (lv2 := [(3, .int 1), (2, .int v39), (0, .ref a0), (1, .int a1)]) (st2 := [.int v39, .int a1, .ref a0]) hm dX13_make_444 rfl ?_
                    replace hf := mx_gd_el hf; obtain ⟨c124, hf⟩ := hf
                    replace hf := mx_sv_el hf; obtain ⟨u125, e_u125, hf⟩ := hf
                    refine sx_cv hm dX13_make_445 rs_RX13_688 mt_X13_guard [.int a1, .int v39] [] (b := a0) (ci := 13) rfl rfl rfl c124 (Nat.le_of_ble_eq_true rfl) (Nat.le_of_ble_eq_true rfl) (by omega) (by omega) (hrc.2.2 (by omega) (by omega) a0 a1 v39 h e_u125) ?_
                    clear e_u125
                    show mx_S X F L 467 448 [(3, .int 1), (2, .int v39), (0, .ref a0), (1, .int a1)] [.int u125.1] u125.2 0 0 (some (.int r.1), r.2, 0, 0)
                    replace hf := mx_gd_el hf; obtain ⟨c126, hf⟩ := hf
                    cases hf
                    exact sx_ire hm dX13_make_448 rfl (xbq_ok c126).1
                  · rcases mx_if_el hf with ⟨n_9, hf⟩ | ⟨n_9, hf⟩
                    · refine sx_tin hm dX13_make_13 (by rw [n_9]; decide) (by rw [n_9]; decide) (off := 436) (by rw [n_9]; rfl) (tgt := 449) rfl ?_
                      clear n_0 n_1 n_2 n_3 n_4 n_5 n_6 n_7 n_8 n_9
                      refine mx_S.pu (pc2 := 450) (lv2 := [(3, .int 1), (2, .int v39), (0, .ref a0), (1, .int a1)]) (st2 := [.ref a0]) hm dX13_make_449 rfl ?_
                      refine mx_S.pu (pc2 := 451) (lv2 := [(3, .int 1), (2, .int v39), (0, .ref a0), (1, .int a1)]) (st2 := [.ref a0, .ref a0]) hm dX13_make_450 rfl ?_
                      replace hf := mx_sv_el hf; obtain ⟨v127, e_v127, hf⟩ := hf
                      refine sx_get hm dX13_make_451 rs_RX13_37 (xgr_el e_v127) ?_
                      clear e_v127
                      refine mx_S.pu (pc2 := 455) (lv2 := [(3, .int 1), (2, .int v39), (0, .ref a0), (1, .int a1)]) (st2 := [.int a1, .ref v127, .ref a0]) hm dX13_make_454 rfl ?_
                      replace hf := mx_sv_el hf; obtain ⟨v128, e_v128, hf⟩ := hf
                      refine sx_ald hm dX13_make_455 e_v128 ?_
                      clear e_v128
                      replace hf := mx_gd_el hf; obtain ⟨c129, hf⟩ := hf
                      replace hf := mx_sv_el hf; obtain ⟨u130, e_u130, hf⟩ := hf
                      refine sx_cv hm dX13_make_456 rs_RX13_667 mt_X13_work [.int v128] [] (b := a0) (ci := 13) rfl rfl rfl c129 (Nat.le_of_ble_eq_true rfl) (Nat.le_of_ble_eq_true rfl) (by omega) (by omega) (f_X13_work_ok X (by omega) (by omega) nn a0 v128 h e_u130) ?_
                      clear e_u130
                      show mx_S X F L 467 459 [(3, .int 1), (2, .int v39), (0, .ref a0), (1, .int a1)] [] u130 0 0 (some (.int r.1), r.2, 0, 0)
                      refine mx_S.ext [(0, .ref a0)] (mx_sub_pos [2] rfl (show ([3, 2, 0, 1] : List Nat).Nodup by decide)) ?_
                      exact j_X13_make_459_ok X hF hL nn hrc a0 u130 hf
                    · rcases mx_if_el hf with ⟨n_10, hf⟩ | ⟨n_10, hf⟩
                      · refine sx_tin hm dX13_make_13 (by rw [n_10]; decide) (by rw [n_10]; decide) (off := 465) (by rw [n_10]; rfl) (tgt := 478) rfl ?_
                        clear n_0 n_1 n_2 n_3 n_4 n_5 n_6 n_7 n_8 n_9 n_10
                        refine mx_S.pu (pc2 := 479) (lv2 := [(3, .int 1), (2, .int v39), (0, .ref a0), (1, .int a1)]) (st2 := [.ref a0]) hm dX13_make_478 rfl ?_
                        refine mx_S.pu (pc2 := 480) (lv2 := [(3, .int 1), (2, .int v39), (0, .ref a0), (1, .int a1)]) (st2 := [.ref a0, .ref a0]) hm dX13_make_479 rfl ?_
                        replace hf := mx_sv_el hf; obtain ⟨v131, e_v131, hf⟩ := hf
                        refine sx_get hm dX13_make_480 rs_RX13_37 (xgr_el e_v131) ?_
                        clear e_v131
                        refine mx_S.pu (pc2 := 484) (lv2 := [(3, .int 1), (2, .int v39), (0, .ref a0), (1, .int a1)]) (st2 := [.int a1, .ref v131, .ref a0]) hm dX13_make_483 rfl ?_
                        replace hf := mx_sv_el hf; obtain ⟨v132, e_v132, hf⟩ := hf
                        refine sx_ald hm dX13_make_484 e_v132 ?_
                        clear e_v132
                        replace hf := mx_gd_el hf; obtain ⟨c133, hf⟩ := hf
                        replace hf := mx_sv_el hf; obtain ⟨u134, e_u134, hf⟩ := hf
                        refine sx_cv hm dX13_make_485 rs_RX13_667 mt_X13_work [.int v132] [] (b := a0) (ci := 13) rfl rfl rfl c133 (Nat.le_of_ble_eq_true rfl) (Nat.le_of_ble_eq_true rfl) (by omega) (by omega) (f_X13_work_ok X (by omega) (by omega) nn a0 v132 h e_u134) ?_
                        clear e_u134
                        show mx_S X F L 467 488 [(3, .int 1), (2, .int v39), (0, .ref a0), (1, .int a1)] [] u134 0 0 (some (.int r.1), r.2, 0, 0)
                        refine mx_S.pu (pc2 := 489) (lv2 := [(3, .int 1), (2, .int v39), (0, .ref a0), (1, .int a1)]) (st2 := [.ref a0]) hm dX13_make_488 rfl ?_
                        replace hf := mx_sv_el hf; obtain ⟨v135, e_v135, hf⟩ := hf
                        refine sx_get hm dX13_make_489 rs_RX13_49 (xgr_el e_v135) ?_
                        clear e_v135
                        refine mx_S.pu (pc2 := 493) (lv2 := [(3, .int 1), (2, .int v39), (0, .ref a0), (1, .int a1)]) (st2 := [.ref a0, .ref v135]) hm dX13_make_492 rfl ?_
                        replace hf := mx_sv_el hf; obtain ⟨v136, e_v136, hf⟩ := hf
                        refine sx_get hm dX13_make_493 rs_RX13_37 (xgr_el e_v136) ?_
                        clear e_v136
                        refine mx_S.pu (pc2 := 497) (lv2 := [(3, .int 1), (2, .int v39), (0, .ref a0), (1, .int a1)]) (st2 := [.int a1, .ref v136, .ref v135]) hm dX13_make_496 rfl ?_
                        replace hf := mx_sv_el hf; obtain ⟨v137, e_v137, hf⟩ := hf
                        refine sx_ald hm dX13_make_497 e_v137 ?_
                        clear e_v137
                        replace hf := mx_sv_el hf; obtain ⟨v138, e_v138, hf⟩ := hf
                        refine sx_ald hm dX13_make_498 e_v138 ?_
                        clear e_v138
                        refine sx_ic (v := 3) hm dX13_make_499 (by decide) ?_
                        rcases mx_if_el hf with ⟨c144, hf⟩ | ⟨c144, hf⟩
                        · refine sb_ic_eq hm dX13_make_500 (tgt := 519) rfl (fun _ => ?_) (fun z => absurd c144 z)
                          refine sx_ic (v := 1) hm dX13_make_519 (by decide) ?_
                          cases hf
                          exact sx_ire hm dX13_make_520 rfl (by decide)
                        · refine sb_ic_eq hm dX13_make_500 (tgt := 519) rfl (fun z => absurd z c144) (fun _ => ?_)
                          refine mx_S.pu (pc2 := 504) (lv2 := [(3, .int 1), (2, .int v39), (0, .ref a0), (1, .int a1)]) (st2 := [.ref a0]) hm dX13_make_503 rfl ?_
                          refine sx_bi (v := 87) hm dX13_make_504 (by decide) ?_
                          replace hf := mx_gd_el hf; obtain ⟨c139, hf⟩ := hf
                          replace hf := mx_sv_el hf; obtain ⟨u140, e_u140, hf⟩ := hf
                          refine sx_cv hm dX13_make_506 rs_RX13_646 mt_X13_put [.int 87] [] (b := a0) (ci := 13) rfl rfl rfl c139 (Nat.le_of_ble_eq_true rfl) (Nat.le_of_ble_eq_true rfl) (by omega) (by omega) (f_X13_put_ok X (by omega) (by omega) nn a0 87 u134 e_u140) ?_
                          clear e_u140
                          show mx_S X F L 467 509 [(3, .int 1), (2, .int v39), (0, .ref a0), (1, .int a1)] [] u140 0 0 (some (.int r.1), r.2, 0, 0)
                          refine mx_S.pu (pc2 := 510) (lv2 := [(3, .int 1), (2, .int v39), (0, .ref a0), (1, .int a1)]) (st2 := [.ref a0]) hm dX13_make_509 rfl ?_
                          refine mx_S.pu (pc2 := 511) (lv2 := [(3, .int 1), (2, .int v39), (0, .ref a0), (1, .int a1)]) (st2 := [.ref a0, .ref a0]) hm dX13_make_510 rfl ?_
                          replace hf := mx_sv_el hf; obtain ⟨v141, e_v141, hf⟩ := hf
                          refine sx_get hm dX13_make_511 rs_RX13_629 (xgi_el e_v141) ?_
                          clear e_v141
                          refine sx_ic (v := 1) hm dX13_make_514 (by decide) ?_
                          replace hf := xl_el hf; obtain ⟨v142, e_v142, hf⟩ := hf
                          refine mx_S.pu (pc2 := 516) (lv2 := [(3, .int 1), (2, .int v39), (0, .ref a0), (1, .int a1)]) (st2 := [.int v142, .ref a0]) hm dX13_make_515 (by rw [← e_v142]; rfl) ?_
                          clear e_v142
                          replace hf := mx_sv_el hf; obtain ⟨h143, e_h143, hf⟩ := hf
                          refine sx_put hm dX13_make_516 rs_RX13_629 ft_13_70 ⟨rfl, rfl⟩ (fun z => by cases z) e_h143 ?_
                          clear e_h143
                          refine sx_ic (v := 1) hm dX13_make_519 (by decide) ?_
                          cases hf
                          exact sx_ire hm dX13_make_520 rfl (by decide)
                      · rcases (show (v41.toInt < 1 ∨ 11 < v41.toInt) ∨ v41.toInt = 1 ∨ v41.toInt = 2 ∨ v41.toInt = 3 ∨ v41.toInt = 4 ∨ v41.toInt = 5 ∨ v41.toInt = 6 ∨ v41.toInt = 7 ∨ v41.toInt = 8 ∨ v41.toInt = 9 ∨ v41.toInt = 10 ∨ v41.toInt = 11 by omega) with z0 | z0 | z0 | z0 | z0 | z0 | z0 | z0 | z0 | z0 | z0 | z0
                        · refine sx_tout hm dX13_make_13 z0 (tgt := 521) rfl ?_
                          refine mx_S.pu (pc2 := 522) (lv2 := [(3, .int 1), (2, .int v39), (0, .ref a0), (1, .int a1)]) (st2 := [.ref a0]) hm dX13_make_521 rfl ?_
                          refine mx_S.pu (pc2 := 523) (lv2 := [(3, .int 1), (2, .int v39), (0, .ref a0), (1, .int a1)]) (st2 := [.ref a0, .ref a0]) hm dX13_make_522 rfl ?_
                          replace hf := mx_sv_el hf; obtain ⟨v42, e_v42, hf⟩ := hf
                          refine sx_get hm dX13_make_523 rs_RX13_37 (xgr_el e_v42) ?_
                          clear e_v42
                          refine mx_S.pu (pc2 := 527) (lv2 := [(3, .int 1), (2, .int v39), (0, .ref a0), (1, .int a1)]) (st2 := [.int a1, .ref v42, .ref a0]) hm dX13_make_526 rfl ?_
                          replace hf := mx_sv_el hf; obtain ⟨v43, e_v43, hf⟩ := hf
                          refine sx_ald hm dX13_make_527 e_v43 ?_
                          clear e_v43
                          refine mx_S.pu (pc2 := 529) (lv2 := [(3, .int 1), (2, .int v39), (0, .ref a0), (1, .int a1)]) (st2 := [.ref a0, .int v43, .ref a0]) hm dX13_make_528 rfl ?_
                          replace hf := mx_sv_el hf; obtain ⟨v44, e_v44, hf⟩ := hf
                          refine sx_get hm dX13_make_529 rs_RX13_40 (xgr_el e_v44) ?_
                          clear e_v44
                          refine mx_S.pu (pc2 := 533) (lv2 := [(3, .int 1), (2, .int v39), (0, .ref a0), (1, .int a1)]) (st2 := [.int a1, .ref v44, .int v43, .ref a0]) hm dX13_make_532 rfl ?_
                          replace hf := mx_sv_el hf; obtain ⟨v45, e_v45, hf⟩ := hf
                          refine sx_ald hm dX13_make_533 e_v45 ?_
                          clear e_v45
                          replace hf := mx_gd_el hf; obtain ⟨c46, hf⟩ := hf
                          replace hf := mx_sv_el hf; obtain ⟨u47, e_u47, hf⟩ := hf
                          refine sx_cv hm dX13_make_534 rs_RX13_691 mt_X13_assign [.int v43, .int v45] [] (b := a0) (ci := 13) rfl rfl rfl c46 (Nat.le_of_ble_eq_true rfl) (Nat.le_of_ble_eq_true rfl) (by omega) (by omega) (f_X13_assign_ok X (by omega) (by omega) nn a0 v43 v45 h e_u47) ?_
                          clear e_u47
                          show mx_S X F L 467 537 [(3, .int 1), (2, .int v39), (0, .ref a0), (1, .int a1)] [] u47 0 0 (some (.int r.1), r.2, 0, 0)
                          refine sx_ic (v := 1) hm dX13_make_537 (by decide) ?_
                          cases hf
                          exact sx_ire hm dX13_make_538 rfl (by decide)
                        · exact absurd (Int32.toInt_inj.mp (z0.trans (by decide : (1 : Int) = (1 : Int32).toInt))) n_0
                        · exact absurd (Int32.toInt_inj.mp (z0.trans (by decide : (2 : Int) = (2 : Int32).toInt))) n_1
                        · exact absurd (Int32.toInt_inj.mp (z0.trans (by decide : (3 : Int) = (3 : Int32).toInt))) n_2
                        · exact absurd (Int32.toInt_inj.mp (z0.trans (by decide : (4 : Int) = (4 : Int32).toInt))) n_3
                        · exact absurd (Int32.toInt_inj.mp (z0.trans (by decide : (5 : Int) = (5 : Int32).toInt))) n_4
                        · exact absurd (Int32.toInt_inj.mp (z0.trans (by decide : (6 : Int) = (6 : Int32).toInt))) n_5
                        · exact absurd (Int32.toInt_inj.mp (z0.trans (by decide : (7 : Int) = (7 : Int32).toInt))) n_6
                        · exact absurd (Int32.toInt_inj.mp (z0.trans (by decide : (8 : Int) = (8 : Int32).toInt))) n_7
                        · exact absurd (Int32.toInt_inj.mp (z0.trans (by decide : (9 : Int) = (9 : Int32).toInt))) n_8
                        · exact absurd (Int32.toInt_inj.mp (z0.trans (by decide : (10 : Int) = (10 : Int32).toInt))) n_9
                        · exact absurd (Int32.toInt_inj.mp (z0.trans (by decide : (11 : Int) = (11 : Int32).toInt))) n_10
set_option maxHeartbeats 4000000 in
set_option maxRecDepth 20000 in
theorem j_X13_makeLoop_126_ok (X : Nat × (Nat → Int32)) {F L d : Nat} (hF : 1460 + (d + 1) ≤ F) (hL : 37921 + (d + 1) * 28 ≤ L) (nn : Nat) {rc : tg_X13_make} (hrc : hg5_X13_make X d rc) (l0 : Nat) (l1 : Int32) (l3 : Int32) (l4 : Int32) (l5 : Int32) (h : mx_H) {r : (Int32 × mx_H)} (hf : j_X13_makeLoop_126 nn rc l0 l1 l3 l4 l5 h = some r) : mx_S X F L 468 126 [(0, .ref l0), (1, .int l1), (3, .int l3), (4, .int l4), (5, .int l5)] [] h 0 0 (some (.int r.1), r.2, 0, 0) := by
  have hm : mx_mt 468 = some (yX13_makeLoop, cX13_makeLoop, 7, (some .boolean)) := mt_X13_makeLoop
  unfold j_X13_makeLoop_126 at hf
  refine mx_S.pu (pc2 := 127) (lv2 := [(0, .ref l0), (1, .int l1), (3, .int l3), (4, .int l4), (5, .int l5)]) (st2 := [.ref l0]) hm dX13_makeLoop_126 rfl ?_
  refine mx_S.pu (pc2 := 128) (lv2 := [(0, .ref l0), (1, .int l1), (3, .int l3), (4, .int l4), (5, .int l5)]) (st2 := [.int l3, .ref l0]) hm dX13_makeLoop_127 rfl ?_
  refine mx_S.pu (pc2 := 130) (lv2 := [(0, .ref l0), (1, .int l1), (3, .int l3), (4, .int l4), (5, .int l5)]) (st2 := [.int l5, .int l3, .ref l0]) hm dX13_makeLoop_128 rfl ?_
  replace hf := mx_gd_el hf; obtain ⟨c1, hf⟩ := hf
  replace hf := mx_sv_el hf; obtain ⟨u2, e_u2, hf⟩ := hf
  refine sx_cv hm dX13_makeLoop_130 rs_RX13_682 mt_X13_stands [.int l3, .int l5] [] (b := l0) (ci := 13) rfl rfl rfl c1 (Nat.le_of_ble_eq_true rfl) (Nat.le_of_ble_eq_true rfl) (by omega) (by omega) (f_X13_stands_ok X (by omega) (by omega) nn l0 l3 l5 h e_u2) ?_
  clear e_u2
  show mx_S X F L 468 133 [(0, .ref l0), (1, .int l1), (3, .int l3), (4, .int l4), (5, .int l5)] [] u2 0 0 (some (.int r.1), r.2, 0, 0)
  refine mx_S.pu (pc2 := 134) (lv2 := [(0, .ref l0), (1, .int l1), (3, .int l3), (4, .int l4), (5, .int l5)]) (st2 := [.ref l0]) hm dX13_makeLoop_133 rfl ?_
  refine mx_S.pu (pc2 := 136) (lv2 := [(0, .ref l0), (1, .int l1), (3, .int l3), (4, .int l4), (5, .int l5)]) (st2 := [.int l4, .ref l0]) hm dX13_makeLoop_134 rfl ?_
  refine mx_S.pu (pc2 := 137) (lv2 := [(0, .ref l0), (1, .int l1), (3, .int l3), (4, .int l4), (5, .int l5)]) (st2 := [.ref l0, .int l4, .ref l0]) hm dX13_makeLoop_136 rfl ?_
  replace hf := mx_sv_el hf; obtain ⟨v3, e_v3, hf⟩ := hf
  refine sx_get hm dX13_makeLoop_137 rs_RX13_627 (xgi_el e_v3) ?_
  clear e_v3
  replace hf := mx_gd_el hf; obtain ⟨c4, hf⟩ := hf
  replace hf := mx_sv_el hf; obtain ⟨u5, e_u5, hf⟩ := hf
  refine sx_cv hm dX13_makeLoop_140 rs_RX13_682 mt_X13_stands [.int l4, .int v3] [] (b := l0) (ci := 13) rfl rfl rfl c4 (Nat.le_of_ble_eq_true rfl) (Nat.le_of_ble_eq_true rfl) (by omega) (by omega) (f_X13_stands_ok X (by omega) (by omega) nn l0 l4 v3 u2 e_u5) ?_
  clear e_u5
  show mx_S X F L 468 143 [(0, .ref l0), (1, .int l1), (3, .int l3), (4, .int l4), (5, .int l5)] [] u5 0 0 (some (.int r.1), r.2, 0, 0)
  refine mx_S.pu (pc2 := 144) (lv2 := [(0, .ref l0), (1, .int l1), (3, .int l3), (4, .int l4), (5, .int l5)]) (st2 := [.ref l0]) hm dX13_makeLoop_143 rfl ?_
  replace hf := mx_sv_el hf; obtain ⟨v6, e_v6, hf⟩ := hf
  refine sx_get hm dX13_makeLoop_144 rs_RX13_52 (xgr_el e_v6) ?_
  clear e_v6
  refine mx_S.pu (pc2 := 148) (lv2 := [(0, .ref l0), (1, .int l1), (3, .int l3), (4, .int l4), (5, .int l5)]) (st2 := [.int l1, .ref v6]) hm dX13_makeLoop_147 rfl ?_
  replace hf := mx_sv_el hf; obtain ⟨v7, e_v7, hf⟩ := hf
  refine sx_ald hm dX13_makeLoop_148 e_v7 ?_
  clear e_v7
  rcases mx_if_el hf with ⟨c11, hf⟩ | ⟨c11, hf⟩
  · refine sb_if_eq hm dX13_makeLoop_149 (tgt := 162) rfl (fun _ => ?_) (fun z => absurd c11 z)
    refine sx_ic (v := 1) hm dX13_makeLoop_162 (by decide) ?_
    refine mx_S.pu (pc2 := 167) (lv2 := [(0, .ref l0), (1, .int l1), (3, .int l3), (4, .int l4), (5, .int l5)]) (st2 := [.int 1]) hm dX13_makeLoop_163 rfl ?_
    cases hf
    exact sx_ire hm dX13_makeLoop_167 rfl (by decide)
  · refine sb_if_eq hm dX13_makeLoop_149 (tgt := 162) rfl (fun z => absurd z c11) (fun _ => ?_)
    refine mx_S.pu (pc2 := 153) (lv2 := [(0, .ref l0), (1, .int l1), (3, .int l3), (4, .int l4), (5, .int l5)]) (st2 := [.ref l0]) hm dX13_makeLoop_152 rfl ?_
    replace hf := mx_sv_el hf; obtain ⟨v8, e_v8, hf⟩ := hf
    refine sx_get hm dX13_makeLoop_153 rs_RX13_55 (xgr_el e_v8) ?_
    clear e_v8
    refine mx_S.pu (pc2 := 157) (lv2 := [(0, .ref l0), (1, .int l1), (3, .int l3), (4, .int l4), (5, .int l5)]) (st2 := [.int l1, .ref v8]) hm dX13_makeLoop_156 rfl ?_
    replace hf := mx_sv_el hf; obtain ⟨v9, e_v9, hf⟩ := hf
    refine sx_ald hm dX13_makeLoop_157 e_v9 ?_
    clear e_v9
    refine sx_ic (v := 1) hm dX13_makeLoop_158 (by decide) ?_
    rcases mx_if_el hf with ⟨c10, hf⟩ | ⟨c10, hf⟩
    · refine sb_ic_ne hm dX13_makeLoop_159 (tgt := 166) rfl (fun _ => ?_) (fun z => absurd c10 z)
      refine sx_ic (v := 0) hm dX13_makeLoop_166 (by decide) ?_
      cases hf
      exact sx_ire hm dX13_makeLoop_167 rfl (by decide)
    · refine sb_ic_ne hm dX13_makeLoop_159 (tgt := 166) rfl (fun z => absurd z c10) (fun _ => ?_)
      refine sx_ic (v := 1) hm dX13_makeLoop_162 (by decide) ?_
      refine mx_S.pu (pc2 := 167) (lv2 := [(0, .ref l0), (1, .int l1), (3, .int l3), (4, .int l4), (5, .int l5)]) (st2 := [.int 1]) hm dX13_makeLoop_163 rfl ?_
      cases hf
      exact sx_ire hm dX13_makeLoop_167 rfl (by decide)
set_option maxHeartbeats 4000000 in
set_option maxRecDepth 20000 in
theorem j_X13_makeLoop_55_ok (X : Nat × (Nat → Int32)) {F L d : Nat} (hF : 1460 + (d + 1) ≤ F) (hL : 37921 + (d + 1) * 28 ≤ L) (nn : Nat) {rc : tg_X13_make} (hrc : hg5_X13_make X d rc) (l0 : Nat) (l1 : Int32) (l2 : Int32) (l3 : Int32) (l4 : Int32) (l5 : Int32) (h : mx_H) {r : (Int32 × mx_H)} (hf : j_X13_makeLoop_55 nn rc l0 l1 l2 l3 l4 l5 h = some r) : mx_S X F L 468 55 [(0, .ref l0), (1, .int l1), (2, .int l2), (3, .int l3), (4, .int l4), (5, .int l5)] [] h 0 0 (some (.int r.1), r.2, 0, 0) := by
  have hm : mx_mt 468 = some (yX13_makeLoop, cX13_makeLoop, 7, (some .boolean)) := mt_X13_makeLoop
  unfold j_X13_makeLoop_55 at hf
  refine mx_S.pu (pc2 := 56) (lv2 := [(0, .ref l0), (1, .int l1), (2, .int l2), (3, .int l3), (4, .int l4), (5, .int l5)]) (st2 := [.ref l0]) hm dX13_makeLoop_55 rfl ?_
  refine mx_S.pu (pc2 := 57) (lv2 := [(0, .ref l0), (1, .int l1), (2, .int l2), (3, .int l3), (4, .int l4), (5, .int l5)]) (st2 := [.ref l0, .ref l0]) hm dX13_makeLoop_56 rfl ?_
  replace hf := mx_sv_el hf; obtain ⟨v12, e_v12, hf⟩ := hf
  refine sx_get hm dX13_makeLoop_57 rs_RX13_522 (xgi_el e_v12) ?_
  clear e_v12
  refine sx_ic (v := 1) hm dX13_makeLoop_60 (by decide) ?_
  replace hf := xl_el hf; obtain ⟨v13, e_v13, hf⟩ := hf
  refine mx_S.pu (pc2 := 62) (lv2 := [(0, .ref l0), (1, .int l1), (2, .int l2), (3, .int l3), (4, .int l4), (5, .int l5)]) (st2 := [.int v13, .ref l0]) hm dX13_makeLoop_61 (by rw [← e_v13]; rfl) ?_
  clear e_v13
  replace hf := mx_sv_el hf; obtain ⟨h14, e_h14, hf⟩ := hf
  refine sx_put hm dX13_makeLoop_62 rs_RX13_522 ft_13_54 ⟨rfl, rfl⟩ (fun z => by cases z) e_h14 ?_
  clear e_h14
  refine mx_S.pu (pc2 := 66) (lv2 := [(0, .ref l0), (1, .int l1), (2, .int l2), (3, .int l3), (4, .int l4), (5, .int l5)]) (st2 := [.ref l0]) hm dX13_makeLoop_65 rfl ?_
  replace hf := mx_sv_el hf; obtain ⟨v15, e_v15, hf⟩ := hf
  refine sx_get hm dX13_makeLoop_66 rs_RX13_187 (xgr_el e_v15) ?_
  clear e_v15
  refine mx_S.pu (pc2 := 70) (lv2 := [(0, .ref l0), (1, .int l1), (2, .int l2), (3, .int l3), (4, .int l4), (5, .int l5)]) (st2 := [.ref l0, .ref v15]) hm dX13_makeLoop_69 rfl ?_
  replace hf := mx_sv_el hf; obtain ⟨v16, e_v16, hf⟩ := hf
  refine sx_get hm dX13_makeLoop_70 rs_RX13_522 (xgi_el e_v16) ?_
  clear e_v16
  refine mx_S.pu (pc2 := 74) (lv2 := [(0, .ref l0), (1, .int l1), (2, .int l2), (3, .int l3), (4, .int l4), (5, .int l5)]) (st2 := [.int l3, .int v16, .ref v15]) hm dX13_makeLoop_73 rfl ?_
  replace hf := mx_sv_el hf; obtain ⟨h17, e_h17, hf⟩ := hf
  refine sx_ast hm dX13_makeLoop_74 e_h17 ?_
  clear e_h17
  refine mx_S.pu (pc2 := 76) (lv2 := [(0, .ref l0), (1, .int l1), (2, .int l2), (3, .int l3), (4, .int l4), (5, .int l5)]) (st2 := [.ref l0]) hm dX13_makeLoop_75 rfl ?_
  replace hf := mx_sv_el hf; obtain ⟨v18, e_v18, hf⟩ := hf
  refine sx_get hm dX13_makeLoop_76 rs_RX13_190 (xgr_el e_v18) ?_
  clear e_v18
  refine mx_S.pu (pc2 := 80) (lv2 := [(0, .ref l0), (1, .int l1), (2, .int l2), (3, .int l3), (4, .int l4), (5, .int l5)]) (st2 := [.ref l0, .ref v18]) hm dX13_makeLoop_79 rfl ?_
  replace hf := mx_sv_el hf; obtain ⟨v19, e_v19, hf⟩ := hf
  refine sx_get hm dX13_makeLoop_80 rs_RX13_522 (xgi_el e_v19) ?_
  clear e_v19
  refine mx_S.pu (pc2 := 85) (lv2 := [(0, .ref l0), (1, .int l1), (2, .int l2), (3, .int l3), (4, .int l4), (5, .int l5)]) (st2 := [.int l4, .int v19, .ref v18]) hm dX13_makeLoop_83 rfl ?_
  replace hf := mx_sv_el hf; obtain ⟨h20, e_h20, hf⟩ := hf
  refine sx_ast hm dX13_makeLoop_85 e_h20 ?_
  clear e_h20
  refine mx_S.pu (pc2 := 87) (lv2 := [(0, .ref l0), (1, .int l1), (2, .int l2), (3, .int l3), (4, .int l4), (5, .int l5)]) (st2 := [.ref l0]) hm dX13_makeLoop_86 rfl ?_
  refine mx_S.pu (pc2 := 88) (lv2 := [(0, .ref l0), (1, .int l1), (2, .int l2), (3, .int l3), (4, .int l4), (5, .int l5)]) (st2 := [.ref l0, .ref l0]) hm dX13_makeLoop_87 rfl ?_
  replace hf := mx_sv_el hf; obtain ⟨v21, e_v21, hf⟩ := hf
  refine sx_get hm dX13_makeLoop_88 rs_RX13_40 (xgr_el e_v21) ?_
  clear e_v21
  refine mx_S.pu (pc2 := 92) (lv2 := [(0, .ref l0), (1, .int l1), (2, .int l2), (3, .int l3), (4, .int l4), (5, .int l5)]) (st2 := [.int l1, .ref v21, .ref l0]) hm dX13_makeLoop_91 rfl ?_
  replace hf := mx_sv_el hf; obtain ⟨v22, e_v22, hf⟩ := hf
  refine sx_ald hm dX13_makeLoop_92 e_v22 ?_
  clear e_v22
  replace hf := mx_gd_el hf; obtain ⟨c23, hf⟩ := hf
  replace hf := mx_sv_el hf; obtain ⟨u24, e_u24, hf⟩ := hf
  refine sx_cv hm dX13_makeLoop_93 rs_RX13_664 mt_X13_make [.int v22] [] (b := l0) (ci := 13) rfl rfl rfl c23 (Nat.le_of_ble_eq_true rfl) (Nat.le_of_ble_eq_true rfl) (by omega) (by omega) (hrc.1 (by omega) (by omega) l0 v22 h20 e_u24) ?_
  clear e_u24
  show mx_S X F L 468 96 [(0, .ref l0), (1, .int l1), (2, .int l2), (3, .int l3), (4, .int l4), (5, .int l5)] [.int u24.1] u24.2 0 0 (some (.int r.1), r.2, 0, 0)
  refine mx_S.pu (pc2 := 98) (lv2 := [(6, .int u24.1), (0, .ref l0), (1, .int l1), (2, .int l2), (3, .int l3), (4, .int l4), (5, .int l5)]) (st2 := []) hm dX13_makeLoop_96 rfl ?_
  refine mx_S.pu (pc2 := 99) (lv2 := [(6, .int u24.1), (0, .ref l0), (1, .int l1), (2, .int l2), (3, .int l3), (4, .int l4), (5, .int l5)]) (st2 := [.ref l0]) hm dX13_makeLoop_98 rfl ?_
  refine mx_S.pu (pc2 := 100) (lv2 := [(6, .int u24.1), (0, .ref l0), (1, .int l1), (2, .int l2), (3, .int l3), (4, .int l4), (5, .int l5)]) (st2 := [.ref l0, .ref l0]) hm dX13_makeLoop_99 rfl ?_
  replace hf := mx_sv_el hf; obtain ⟨v25, e_v25, hf⟩ := hf
  refine sx_get hm dX13_makeLoop_100 rs_RX13_522 (xgi_el e_v25) ?_
  clear e_v25
  refine sx_ic (v := 1) hm dX13_makeLoop_103 (by decide) ?_
  replace hf := xl_el hf; obtain ⟨v26, e_v26, hf⟩ := hf
  refine mx_S.pu (pc2 := 105) (lv2 := [(6, .int u24.1), (0, .ref l0), (1, .int l1), (2, .int l2), (3, .int l3), (4, .int l4), (5, .int l5)]) (st2 := [.int v26, .ref l0]) hm dX13_makeLoop_104 (by rw [← e_v26]; rfl) ?_
  clear e_v26
  replace hf := mx_sv_el hf; obtain ⟨h27, e_h27, hf⟩ := hf
  refine sx_put hm dX13_makeLoop_105 rs_RX13_522 ft_13_54 ⟨rfl, rfl⟩ (fun z => by cases z) e_h27 ?_
  clear e_h27
  refine mx_S.pu (pc2 := 109) (lv2 := [(6, .int u24.1), (0, .ref l0), (1, .int l1), (2, .int l2), (3, .int l3), (4, .int l4), (5, .int l5)]) (st2 := [.ref l0]) hm dX13_makeLoop_108 rfl ?_
  refine mx_S.pu (pc2 := 110) (lv2 := [(6, .int u24.1), (0, .ref l0), (1, .int l1), (2, .int l2), (3, .int l3), (4, .int l4), (5, .int l5)]) (st2 := [.int l2, .ref l0]) hm dX13_makeLoop_109 rfl ?_
  replace hf := mx_sv_el hf; obtain ⟨h28, e_h28, hf⟩ := hf
  refine sx_put hm dX13_makeLoop_110 rs_RX13_513 ft_13_50 ⟨rfl, rfl⟩ (fun z => by cases z) e_h28 ?_
  clear e_h28
  refine mx_S.pu (pc2 := 115) (lv2 := [(6, .int u24.1), (0, .ref l0), (1, .int l1), (2, .int l2), (3, .int l3), (4, .int l4), (5, .int l5)]) (st2 := [.int u24.1]) hm dX13_makeLoop_113 rfl ?_
  rcases mx_if_el hf with ⟨c31, hf⟩ | ⟨c31, hf⟩
  · refine sb_if_eq hm dX13_makeLoop_115 (tgt := 126) rfl (fun _ => ?_) (fun z => absurd c31 z)
    refine mx_S.ext [(0, .ref l0), (1, .int l1), (3, .int l3), (4, .int l4), (5, .int l5)] (mx_sub_pos [1, 2, 4, 5, 6] rfl (show ([6, 0, 1, 2, 3, 4, 5] : List Nat).Nodup by decide)) ?_
    exact j_X13_makeLoop_126_ok X hF hL nn hrc l0 l1 l3 l4 l5 h28 hf
  · refine sb_if_eq hm dX13_makeLoop_115 (tgt := 126) rfl (fun z => absurd z c31) (fun _ => ?_)
    refine mx_S.pu (pc2 := 119) (lv2 := [(6, .int u24.1), (0, .ref l0), (1, .int l1), (2, .int l2), (3, .int l3), (4, .int l4), (5, .int l5)]) (st2 := [.ref l0]) hm dX13_makeLoop_118 rfl ?_
    refine sx_si (v := 167) hm dX13_makeLoop_119 (by decide) ?_
    refine mx_S.pu (pc2 := 123) (lv2 := [(6, .int u24.1), (0, .ref l0), (1, .int l1), (2, .int l2), (3, .int l3), (4, .int l4), (5, .int l5)]) (st2 := [.int l3, .int 167, .ref l0]) hm dX13_makeLoop_122 rfl ?_
    replace hf := mx_gd_el hf; obtain ⟨c29, hf⟩ := hf
    replace hf := mx_sv_el hf; obtain ⟨u30, e_u30, hf⟩ := hf
    refine sx_cv hm dX13_makeLoop_123 rs_RX13_679 mt_X13_jump [.int 167, .int l3] [] (b := l0) (ci := 13) rfl rfl rfl c29 (Nat.le_of_ble_eq_true rfl) (Nat.le_of_ble_eq_true rfl) (by omega) (by omega) (f_X13_jump_ok X (by omega) (by omega) nn l0 167 l3 h28 e_u30) ?_
    clear e_u30
    show mx_S X F L 468 126 [(6, .int u24.1), (0, .ref l0), (1, .int l1), (2, .int l2), (3, .int l3), (4, .int l4), (5, .int l5)] [] u30 0 0 (some (.int r.1), r.2, 0, 0)
    refine mx_S.ext [(0, .ref l0), (1, .int l1), (3, .int l3), (4, .int l4), (5, .int l5)] (mx_sub_pos [1, 2, 4, 5, 6] rfl (show ([6, 0, 1, 2, 3, 4, 5] : List Nat).Nodup by decide)) ?_
    exact j_X13_makeLoop_126_ok X hF hL nn hrc l0 l1 l3 l4 l5 u30 hf
set_option maxHeartbeats 4000000 in
set_option maxRecDepth 20000 in
theorem o_X13_makeLoop_ok (X : Nat × (Nat → Int32)) {F L d : Nat} (hF : 1460 + (d + 1) ≤ F) (hL : 37921 + (d + 1) * 28 ≤ L) (nn : Nat) {rc : tg_X13_make} (hrc : hg5_X13_make X d rc) (a0 : Nat) (a1 : Int32) (a2 : Int32) (h : mx_H) {r : (Int32 × mx_H)} (hf : o_X13_makeLoop nn rc a0 a1 a2 h = some r) : mx_R X F L 468 [.ref a0, .int a1, .int a2] h (some (.int r.1), r.2, 0, 0) := by
  have hm : mx_mt 468 = some (yX13_makeLoop, cX13_makeLoop, 7, (some .boolean)) := mt_X13_makeLoop
  show mx_S X F L 468 0 [(0, .ref a0), (1, .int a1), (2, .int a2)] [] h 0 0 (some (.int r.1), r.2, 0, 0)
  unfold o_X13_makeLoop at hf
  refine mx_S.pu (pc2 := 1) (lv2 := [(0, .ref a0), (1, .int a1), (2, .int a2)]) (st2 := [.ref a0]) hm dX13_makeLoop_0 rfl ?_
  replace hf := mx_gd_el hf; obtain ⟨c32, hf⟩ := hf
  replace hf := mx_sv_el hf; obtain ⟨u33, e_u33, hf⟩ := hf
  refine sx_cv hm dX13_makeLoop_1 rs_RX13_676 mt_X13_label [] [] (b := a0) (ci := 13) rfl rfl rfl c32 (Nat.le_of_ble_eq_true rfl) (Nat.le_of_ble_eq_true rfl) (by omega) (by omega) (f_X13_label_ok X (by omega) (by omega) nn a0 h e_u33) ?_
  clear e_u33
  show mx_S X F L 468 4 [(0, .ref a0), (1, .int a1), (2, .int a2)] [.int u33.1] u33.2 0 0 (some (.int r.1), r.2, 0, 0)
  refine mx_S.pu (pc2 := 5) (lv2 := [(3, .int u33.1), (0, .ref a0), (1, .int a1), (2, .int a2)]) (st2 := []) hm dX13_makeLoop_4 rfl ?_
  refine mx_S.pu (pc2 := 6) (lv2 := [(3, .int u33.1), (0, .ref a0), (1, .int a1), (2, .int a2)]) (st2 := [.ref a0]) hm dX13_makeLoop_5 rfl ?_
  replace hf := mx_gd_el hf; obtain ⟨c34, hf⟩ := hf
  replace hf := mx_sv_el hf; obtain ⟨u35, e_u35, hf⟩ := hf
  refine sx_cv hm dX13_makeLoop_6 rs_RX13_676 mt_X13_label [] [] (b := a0) (ci := 13) rfl rfl rfl c34 (Nat.le_of_ble_eq_true rfl) (Nat.le_of_ble_eq_true rfl) (by omega) (by omega) (f_X13_label_ok X (by omega) (by omega) nn a0 u33.2 e_u35) ?_
  clear e_u35
  show mx_S X F L 468 9 [(3, .int u33.1), (0, .ref a0), (1, .int a1), (2, .int a2)] [.int u35.1] u35.2 0 0 (some (.int r.1), r.2, 0, 0)
  refine mx_S.pu (pc2 := 11) (lv2 := [(4, .int u35.1), (3, .int u33.1), (0, .ref a0), (1, .int a1), (2, .int a2)]) (st2 := []) hm dX13_makeLoop_9 rfl ?_
  refine mx_S.pu (pc2 := 12) (lv2 := [(4, .int u35.1), (3, .int u33.1), (0, .ref a0), (1, .int a1), (2, .int a2)]) (st2 := [.ref a0]) hm dX13_makeLoop_11 rfl ?_
  replace hf := mx_sv_el hf; obtain ⟨v36, e_v36, hf⟩ := hf
  refine sx_get hm dX13_makeLoop_12 rs_RX13_627 (xgi_el e_v36) ?_
  clear e_v36
  refine mx_S.pu (pc2 := 17) (lv2 := [(5, .int v36), (4, .int u35.1), (3, .int u33.1), (0, .ref a0), (1, .int a1), (2, .int a2)]) (st2 := []) hm dX13_makeLoop_15 rfl ?_
  refine mx_S.pu (pc2 := 18) (lv2 := [(5, .int v36), (4, .int u35.1), (3, .int u33.1), (0, .ref a0), (1, .int a1), (2, .int a2)]) (st2 := [.ref a0]) hm dX13_makeLoop_17 rfl ?_
  replace hf := mx_sv_el hf; obtain ⟨v37, e_v37, hf⟩ := hf
  refine sx_get hm dX13_makeLoop_18 rs_RX13_52 (xgr_el e_v37) ?_
  clear e_v37
  refine mx_S.pu (pc2 := 22) (lv2 := [(5, .int v36), (4, .int u35.1), (3, .int u33.1), (0, .ref a0), (1, .int a1), (2, .int a2)]) (st2 := [.int a1, .ref v37]) hm dX13_makeLoop_21 rfl ?_
  replace hf := mx_sv_el hf; obtain ⟨v38, e_v38, hf⟩ := hf
  refine sx_ald hm dX13_makeLoop_22 e_v38 ?_
  clear e_v38
  rcases mx_if_el hf with ⟨c48, hf⟩ | ⟨c48, hf⟩
  · refine sb_if_ne hm dX13_makeLoop_23 (tgt := 55) rfl (fun _ => ?_) (fun z => absurd c48 z)
    refine mx_S.ext [(0, .ref a0), (1, .int a1), (2, .int a2), (3, .int u33.1), (4, .int u35.1), (5, .int v36)] (mx_sub_pos [3, 4, 5, 2, 1, 0] rfl (show ([5, 4, 3, 0, 1, 2] : List Nat).Nodup by decide)) ?_
    exact j_X13_makeLoop_55_ok X hF hL nn hrc a0 a1 a2 u33.1 u35.1 v36 u35.2 hf
  · refine sb_if_ne hm dX13_makeLoop_23 (tgt := 55) rfl (fun z => absurd z c48) (fun _ => ?_)
    refine mx_S.pu (pc2 := 27) (lv2 := [(5, .int v36), (4, .int u35.1), (3, .int u33.1), (0, .ref a0), (1, .int a1), (2, .int a2)]) (st2 := [.ref a0]) hm dX13_makeLoop_26 rfl ?_
    refine mx_S.pu (pc2 := 28) (lv2 := [(5, .int v36), (4, .int u35.1), (3, .int u33.1), (0, .ref a0), (1, .int a1), (2, .int a2)]) (st2 := [.ref a0, .ref a0]) hm dX13_makeLoop_27 rfl ?_
    replace hf := mx_sv_el hf; obtain ⟨v39, e_v39, hf⟩ := hf
    refine sx_get hm dX13_makeLoop_28 rs_RX13_37 (xgr_el e_v39) ?_
    clear e_v39
    refine mx_S.pu (pc2 := 32) (lv2 := [(5, .int v36), (4, .int u35.1), (3, .int u33.1), (0, .ref a0), (1, .int a1), (2, .int a2)]) (st2 := [.int a1, .ref v39, .ref a0]) hm dX13_makeLoop_31 rfl ?_
    replace hf := mx_sv_el hf; obtain ⟨v40, e_v40, hf⟩ := hf
    refine sx_ald hm dX13_makeLoop_32 e_v40 ?_
    clear e_v40
    replace hf := mx_gd_el hf; obtain ⟨c41, hf⟩ := hf
    replace hf := mx_sv_el hf; obtain ⟨u42, e_u42, hf⟩ := hf
    refine sx_cv hm dX13_makeLoop_33 rs_RX13_667 mt_X13_work [.int v40] [] (b := a0) (ci := 13) rfl rfl rfl c41 (Nat.le_of_ble_eq_true rfl) (Nat.le_of_ble_eq_true rfl) (by omega) (by omega) (f_X13_work_ok X (by omega) (by omega) nn a0 v40 u35.2 e_u42) ?_
    clear e_u42
    show mx_S X F L 468 36 [(5, .int v36), (4, .int u35.1), (3, .int u33.1), (0, .ref a0), (1, .int a1), (2, .int a2)] [] u42 0 0 (some (.int r.1), r.2, 0, 0)
    refine mx_S.pu (pc2 := 37) (lv2 := [(5, .int v36), (4, .int u35.1), (3, .int u33.1), (0, .ref a0), (1, .int a1), (2, .int a2)]) (st2 := [.ref a0]) hm dX13_makeLoop_36 rfl ?_
    refine mx_S.pu (pc2 := 38) (lv2 := [(5, .int v36), (4, .int u35.1), (3, .int u33.1), (0, .ref a0), (1, .int a1), (2, .int a2)]) (st2 := [.ref a0, .ref a0]) hm dX13_makeLoop_37 rfl ?_
    replace hf := mx_sv_el hf; obtain ⟨v43, e_v43, hf⟩ := hf
    refine sx_get hm dX13_makeLoop_38 rs_RX13_629 (xgi_el e_v43) ?_
    clear e_v43
    refine sx_ic (v := 1) hm dX13_makeLoop_41 (by decide) ?_
    replace hf := xl_el hf; obtain ⟨v44, e_v44, hf⟩ := hf
    refine mx_S.pu (pc2 := 43) (lv2 := [(5, .int v36), (4, .int u35.1), (3, .int u33.1), (0, .ref a0), (1, .int a1), (2, .int a2)]) (st2 := [.int v44, .ref a0]) hm dX13_makeLoop_42 (by rw [← e_v44]; rfl) ?_
    clear e_v44
    replace hf := mx_sv_el hf; obtain ⟨h45, e_h45, hf⟩ := hf
    refine sx_put hm dX13_makeLoop_43 rs_RX13_629 ft_13_70 ⟨rfl, rfl⟩ (fun z => by cases z) e_h45 ?_
    clear e_h45
    refine mx_S.pu (pc2 := 47) (lv2 := [(5, .int v36), (4, .int u35.1), (3, .int u33.1), (0, .ref a0), (1, .int a1), (2, .int a2)]) (st2 := [.ref a0]) hm dX13_makeLoop_46 rfl ?_
    refine sx_si (v := 153) hm dX13_makeLoop_47 (by decide) ?_
    refine mx_S.pu (pc2 := 52) (lv2 := [(5, .int v36), (4, .int u35.1), (3, .int u33.1), (0, .ref a0), (1, .int a1), (2, .int a2)]) (st2 := [.int u35.1, .int 153, .ref a0]) hm dX13_makeLoop_50 rfl ?_
    replace hf := mx_gd_el hf; obtain ⟨c46, hf⟩ := hf
    replace hf := mx_sv_el hf; obtain ⟨u47, e_u47, hf⟩ := hf
    refine sx_cv hm dX13_makeLoop_52 rs_RX13_679 mt_X13_jump [.int 153, .int u35.1] [] (b := a0) (ci := 13) rfl rfl rfl c46 (Nat.le_of_ble_eq_true rfl) (Nat.le_of_ble_eq_true rfl) (by omega) (by omega) (f_X13_jump_ok X (by omega) (by omega) nn a0 153 u35.1 h45 e_u47) ?_
    clear e_u47
    show mx_S X F L 468 55 [(5, .int v36), (4, .int u35.1), (3, .int u33.1), (0, .ref a0), (1, .int a1), (2, .int a2)] [] u47 0 0 (some (.int r.1), r.2, 0, 0)
    refine mx_S.ext [(0, .ref a0), (1, .int a1), (2, .int a2), (3, .int u33.1), (4, .int u35.1), (5, .int v36)] (mx_sub_pos [3, 4, 5, 2, 1, 0] rfl (show ([5, 4, 3, 0, 1, 2] : List Nat).Nodup by decide)) ?_
    exact j_X13_makeLoop_55_ok X hF hL nn hrc a0 a1 a2 u33.1 u35.1 v36 u47 hf
set_option maxHeartbeats 4000000 in
set_option maxRecDepth 20000 in
theorem j_X13_guard_47_ok (X : Nat × (Nat → Int32)) {F L d : Nat} (hF : 1460 + (d + 1) ≤ F) (hL : 37921 + (d + 1) * 28 ≤ L) (nn : Nat) {rc : tg_X13_make} (hrc : hg5_X13_make X d rc) (l0 : Nat) (l1 : Int32) (l2 : Int32) (l3 : Int32) (l4 : Int32) (l5 : Int32) (l6 : Int32) (h : mx_H) {r : (Int32 × mx_H)} (hf : j_X13_guard_47 nn rc l0 l1 l2 l3 l4 l5 l6 h = some r) : mx_S X F L 469 47 [(0, .ref l0), (1, .int l1), (2, .int l2), (3, .int l3), (4, .int l4), (5, .int l5), (6, .int l6)] [] h 0 0 (some (.int r.1), r.2, 0, 0) := by
  have hm : mx_mt 469 = some (yX13_guard, cX13_guard, 9, (some .boolean)) := mt_X13_guard
  unfold j_X13_guard_47 at hf
  refine mx_S.pu (pc2 := 48) (lv2 := [(0, .ref l0), (1, .int l1), (2, .int l2), (3, .int l3), (4, .int l4), (5, .int l5), (6, .int l6)]) (st2 := [.ref l0]) hm dX13_guard_47 rfl ?_
  replace hf := mx_sv_el hf; obtain ⟨v1, e_v1, hf⟩ := hf
  refine sx_get hm dX13_guard_48 rs_RX13_694 (xgi_el e_v1) ?_
  clear e_v1
  refine mx_S.pu (pc2 := 53) (lv2 := [(7, .int v1), (0, .ref l0), (1, .int l1), (2, .int l2), (3, .int l3), (4, .int l4), (5, .int l5), (6, .int l6)]) (st2 := []) hm dX13_guard_51 rfl ?_
  refine mx_S.pu (pc2 := 54) (lv2 := [(7, .int v1), (0, .ref l0), (1, .int l1), (2, .int l2), (3, .int l3), (4, .int l4), (5, .int l5), (6, .int l6)]) (st2 := [.ref l0]) hm dX13_guard_53 rfl ?_
  refine mx_S.pu (pc2 := 55) (lv2 := [(7, .int v1), (0, .ref l0), (1, .int l1), (2, .int l2), (3, .int l3), (4, .int l4), (5, .int l5), (6, .int l6)]) (st2 := [.ref l0, .ref l0]) hm dX13_guard_54 rfl ?_
  replace hf := mx_sv_el hf; obtain ⟨v2, e_v2, hf⟩ := hf
  refine sx_get hm dX13_guard_55 rs_RX13_694 (xgi_el e_v2) ?_
  clear e_v2
  refine sx_ic (v := 1) hm dX13_guard_58 (by decide) ?_
  replace hf := xl_el hf; obtain ⟨v3, e_v3, hf⟩ := hf
  refine mx_S.pu (pc2 := 60) (lv2 := [(7, .int v1), (0, .ref l0), (1, .int l1), (2, .int l2), (3, .int l3), (4, .int l4), (5, .int l5), (6, .int l6)]) (st2 := [.int v3, .ref l0]) hm dX13_guard_59 (by rw [← e_v3]; rfl) ?_
  clear e_v3
  replace hf := mx_sv_el hf; obtain ⟨h4, e_h4, hf⟩ := hf
  refine sx_put hm dX13_guard_60 rs_RX13_694 ft_13_84 ⟨rfl, rfl⟩ (fun z => by cases z) e_h4 ?_
  clear e_h4
  refine mx_S.pu (pc2 := 64) (lv2 := [(7, .int v1), (0, .ref l0), (1, .int l1), (2, .int l2), (3, .int l3), (4, .int l4), (5, .int l5), (6, .int l6)]) (st2 := [.ref l0]) hm dX13_guard_63 rfl ?_
  replace hf := mx_sv_el hf; obtain ⟨v5, e_v5, hf⟩ := hf
  refine sx_get hm dX13_guard_64 rs_RX13_169 (xgr_el e_v5) ?_
  clear e_v5
  refine mx_S.pu (pc2 := 69) (lv2 := [(7, .int v1), (0, .ref l0), (1, .int l1), (2, .int l2), (3, .int l3), (4, .int l4), (5, .int l5), (6, .int l6)]) (st2 := [.int v1, .ref v5]) hm dX13_guard_67 rfl ?_
  refine mx_S.pu (pc2 := 71) (lv2 := [(7, .int v1), (0, .ref l0), (1, .int l1), (2, .int l2), (3, .int l3), (4, .int l4), (5, .int l5), (6, .int l6)]) (st2 := [.int l4, .int v1, .ref v5]) hm dX13_guard_69 rfl ?_
  replace hf := mx_sv_el hf; obtain ⟨h6, e_h6, hf⟩ := hf
  refine sx_ast hm dX13_guard_71 e_h6 ?_
  clear e_h6
  refine mx_S.pu (pc2 := 73) (lv2 := [(7, .int v1), (0, .ref l0), (1, .int l1), (2, .int l2), (3, .int l3), (4, .int l4), (5, .int l5), (6, .int l6)]) (st2 := [.ref l0]) hm dX13_guard_72 rfl ?_
  replace hf := mx_sv_el hf; obtain ⟨v7, e_v7, hf⟩ := hf
  refine sx_get hm dX13_guard_73 rs_RX13_172 (xgr_el e_v7) ?_
  clear e_v7
  refine mx_S.pu (pc2 := 78) (lv2 := [(7, .int v1), (0, .ref l0), (1, .int l1), (2, .int l2), (3, .int l3), (4, .int l4), (5, .int l5), (6, .int l6)]) (st2 := [.int v1, .ref v7]) hm dX13_guard_76 rfl ?_
  refine mx_S.pu (pc2 := 80) (lv2 := [(7, .int v1), (0, .ref l0), (1, .int l1), (2, .int l2), (3, .int l3), (4, .int l4), (5, .int l5), (6, .int l6)]) (st2 := [.int l6, .int v1, .ref v7]) hm dX13_guard_78 rfl ?_
  replace hf := mx_sv_el hf; obtain ⟨h8, e_h8, hf⟩ := hf
  refine sx_ast hm dX13_guard_80 e_h8 ?_
  clear e_h8
  refine mx_S.pu (pc2 := 82) (lv2 := [(7, .int v1), (0, .ref l0), (1, .int l1), (2, .int l2), (3, .int l3), (4, .int l4), (5, .int l5), (6, .int l6)]) (st2 := [.ref l0]) hm dX13_guard_81 rfl ?_
  replace hf := mx_sv_el hf; obtain ⟨v9, e_v9, hf⟩ := hf
  refine sx_get hm dX13_guard_82 rs_RX13_175 (xgr_el e_v9) ?_
  clear e_v9
  refine mx_S.pu (pc2 := 87) (lv2 := [(7, .int v1), (0, .ref l0), (1, .int l1), (2, .int l2), (3, .int l3), (4, .int l4), (5, .int l5), (6, .int l6)]) (st2 := [.int v1, .ref v9]) hm dX13_guard_85 rfl ?_
  refine mx_S.pu (pc2 := 88) (lv2 := [(7, .int v1), (0, .ref l0), (1, .int l1), (2, .int l2), (3, .int l3), (4, .int l4), (5, .int l5), (6, .int l6)]) (st2 := [.ref l0, .int v1, .ref v9]) hm dX13_guard_87 rfl ?_
  replace hf := mx_sv_el hf; obtain ⟨v10, e_v10, hf⟩ := hf
  refine sx_get hm dX13_guard_88 rs_RX13_627 (xgi_el e_v10) ?_
  clear e_v10
  replace hf := mx_sv_el hf; obtain ⟨h11, e_h11, hf⟩ := hf
  refine sx_ast hm dX13_guard_91 e_h11 ?_
  clear e_h11
  refine mx_S.pu (pc2 := 93) (lv2 := [(7, .int v1), (0, .ref l0), (1, .int l1), (2, .int l2), (3, .int l3), (4, .int l4), (5, .int l5), (6, .int l6)]) (st2 := [.ref l0]) hm dX13_guard_92 rfl ?_
  replace hf := mx_sv_el hf; obtain ⟨v12, e_v12, hf⟩ := hf
  refine sx_get hm dX13_guard_93 rs_RX13_178 (xgr_el e_v12) ?_
  clear e_v12
  refine mx_S.pu (pc2 := 98) (lv2 := [(7, .int v1), (0, .ref l0), (1, .int l1), (2, .int l2), (3, .int l3), (4, .int l4), (5, .int l5), (6, .int l6)]) (st2 := [.int v1, .ref v12]) hm dX13_guard_96 rfl ?_
  refine mx_S.pu (pc2 := 99) (lv2 := [(7, .int v1), (0, .ref l0), (1, .int l1), (2, .int l2), (3, .int l3), (4, .int l4), (5, .int l5), (6, .int l6)]) (st2 := [.ref l0, .int v1, .ref v12]) hm dX13_guard_98 rfl ?_
  replace hf := mx_sv_el hf; obtain ⟨v13, e_v13, hf⟩ := hf
  refine sx_get hm dX13_guard_99 rs_RX13_49 (xgr_el e_v13) ?_
  clear e_v13
  refine mx_S.pu (pc2 := 103) (lv2 := [(7, .int v1), (0, .ref l0), (1, .int l1), (2, .int l2), (3, .int l3), (4, .int l4), (5, .int l5), (6, .int l6)]) (st2 := [.int l1, .ref v13, .int v1, .ref v12]) hm dX13_guard_102 rfl ?_
  replace hf := mx_sv_el hf; obtain ⟨v14, e_v14, hf⟩ := hf
  refine sx_ald hm dX13_guard_103 e_v14 ?_
  clear e_v14
  replace hf := mx_sv_el hf; obtain ⟨h15, e_h15, hf⟩ := hf
  refine sx_ast hm dX13_guard_104 e_h15 ?_
  clear e_h15
  refine mx_S.pu (pc2 := 106) (lv2 := [(7, .int v1), (0, .ref l0), (1, .int l1), (2, .int l2), (3, .int l3), (4, .int l4), (5, .int l5), (6, .int l6)]) (st2 := [.ref l0]) hm dX13_guard_105 rfl ?_
  refine mx_S.pu (pc2 := 107) (lv2 := [(7, .int v1), (0, .ref l0), (1, .int l1), (2, .int l2), (3, .int l3), (4, .int l4), (5, .int l5), (6, .int l6)]) (st2 := [.ref l0, .ref l0]) hm dX13_guard_106 rfl ?_
  replace hf := mx_sv_el hf; obtain ⟨v16, e_v16, hf⟩ := hf
  refine sx_get hm dX13_guard_107 rs_RX13_49 (xgr_el e_v16) ?_
  clear e_v16
  refine mx_S.pu (pc2 := 111) (lv2 := [(7, .int v1), (0, .ref l0), (1, .int l1), (2, .int l2), (3, .int l3), (4, .int l4), (5, .int l5), (6, .int l6)]) (st2 := [.int l1, .ref v16, .ref l0]) hm dX13_guard_110 rfl ?_
  replace hf := mx_sv_el hf; obtain ⟨v17, e_v17, hf⟩ := hf
  refine sx_ald hm dX13_guard_111 e_v17 ?_
  clear e_v17
  replace hf := mx_gd_el hf; obtain ⟨c18, hf⟩ := hf
  replace hf := mx_sv_el hf; obtain ⟨u19, e_u19, hf⟩ := hf
  refine sx_cv hm dX13_guard_112 rs_RX13_640 mt_X13_push [.int v17] [] (b := l0) (ci := 13) rfl rfl rfl c18 (Nat.le_of_ble_eq_true rfl) (Nat.le_of_ble_eq_true rfl) (by omega) (by omega) (f_X13_push_ok X (by omega) (by omega) nn l0 v17 h15 e_u19) ?_
  clear e_u19
  show mx_S X F L 469 115 [(7, .int v1), (0, .ref l0), (1, .int l1), (2, .int l2), (3, .int l3), (4, .int l4), (5, .int l5), (6, .int l6)] [] u19 0 0 (some (.int r.1), r.2, 0, 0)
  refine mx_S.pu (pc2 := 116) (lv2 := [(7, .int v1), (0, .ref l0), (1, .int l1), (2, .int l2), (3, .int l3), (4, .int l4), (5, .int l5), (6, .int l6)]) (st2 := [.ref l0]) hm dX13_guard_115 rfl ?_
  refine mx_S.pu (pc2 := 117) (lv2 := [(7, .int v1), (0, .ref l0), (1, .int l1), (2, .int l2), (3, .int l3), (4, .int l4), (5, .int l5), (6, .int l6)]) (st2 := [.ref l0, .ref l0]) hm dX13_guard_116 rfl ?_
  replace hf := mx_sv_el hf; obtain ⟨v20, e_v20, hf⟩ := hf
  refine sx_get hm dX13_guard_117 rs_RX13_627 (xgi_el e_v20) ?_
  clear e_v20
  replace hf := mx_gd_el hf; obtain ⟨c21, hf⟩ := hf
  replace hf := mx_sv_el hf; obtain ⟨u22, e_u22, hf⟩ := hf
  refine sx_cv hm dX13_guard_120 rs_RX13_649 mt_X13_frame [.int v20] [] (b := l0) (ci := 13) rfl rfl rfl c21 (Nat.le_of_ble_eq_true rfl) (Nat.le_of_ble_eq_true rfl) (by omega) (by omega) (f_X13_frame_ok X (by omega) (by omega) nn l0 v20 u19 e_u22) ?_
  clear e_u22
  show mx_S X F L 469 123 [(7, .int v1), (0, .ref l0), (1, .int l1), (2, .int l2), (3, .int l3), (4, .int l4), (5, .int l5), (6, .int l6)] [] u22 0 0 (some (.int r.1), r.2, 0, 0)
  refine mx_S.pu (pc2 := 124) (lv2 := [(7, .int v1), (0, .ref l0), (1, .int l1), (2, .int l2), (3, .int l3), (4, .int l4), (5, .int l5), (6, .int l6)]) (st2 := [.ref l0]) hm dX13_guard_123 rfl ?_
  refine sx_ic (v := 2) hm dX13_guard_124 (by decide) ?_
  refine mx_S.pu (pc2 := 126) (lv2 := [(7, .int v1), (0, .ref l0), (1, .int l1), (2, .int l2), (3, .int l3), (4, .int l4), (5, .int l5), (6, .int l6)]) (st2 := [.ref l0, .int 2, .ref l0]) hm dX13_guard_125 rfl ?_
  replace hf := mx_sv_el hf; obtain ⟨v23, e_v23, hf⟩ := hf
  refine sx_get hm dX13_guard_126 rs_RX13_513 (xgi_el e_v23) ?_
  clear e_v23
  replace hf := mx_gd_el hf; obtain ⟨c24, hf⟩ := hf
  replace hf := mx_sv_el hf; obtain ⟨u25, e_u25, hf⟩ := hf
  refine sx_cv hm dX13_guard_129 rs_RX13_670 mt_X13_store [.int 2, .int v23] [] (b := l0) (ci := 13) rfl rfl rfl c24 (Nat.le_of_ble_eq_true rfl) (Nat.le_of_ble_eq_true rfl) (by omega) (by omega) (f_X13_store_ok X (by omega) (by omega) nn l0 2 v23 u22 e_u25) ?_
  clear e_u25
  show mx_S X F L 469 132 [(7, .int v1), (0, .ref l0), (1, .int l1), (2, .int l2), (3, .int l3), (4, .int l4), (5, .int l5), (6, .int l6)] [] u25 0 0 (some (.int r.1), r.2, 0, 0)
  refine mx_S.pu (pc2 := 133) (lv2 := [(7, .int v1), (0, .ref l0), (1, .int l1), (2, .int l2), (3, .int l3), (4, .int l4), (5, .int l5), (6, .int l6)]) (st2 := [.ref l0]) hm dX13_guard_132 rfl ?_
  refine mx_S.pu (pc2 := 134) (lv2 := [(7, .int v1), (0, .ref l0), (1, .int l1), (2, .int l2), (3, .int l3), (4, .int l4), (5, .int l5), (6, .int l6)]) (st2 := [.ref l0, .ref l0]) hm dX13_guard_133 rfl ?_
  replace hf := mx_sv_el hf; obtain ⟨v26, e_v26, hf⟩ := hf
  refine sx_get hm dX13_guard_134 rs_RX13_55 (xgr_el e_v26) ?_
  clear e_v26
  refine mx_S.pu (pc2 := 138) (lv2 := [(7, .int v1), (0, .ref l0), (1, .int l1), (2, .int l2), (3, .int l3), (4, .int l4), (5, .int l5), (6, .int l6)]) (st2 := [.int l1, .ref v26, .ref l0]) hm dX13_guard_137 rfl ?_
  replace hf := mx_sv_el hf; obtain ⟨v27, e_v27, hf⟩ := hf
  refine sx_ald hm dX13_guard_138 e_v27 ?_
  clear e_v27
  refine mx_S.pu (pc2 := 140) (lv2 := [(7, .int v1), (0, .ref l0), (1, .int l1), (2, .int l2), (3, .int l3), (4, .int l4), (5, .int l5), (6, .int l6)]) (st2 := [.ref l0, .int v27, .ref l0]) hm dX13_guard_139 rfl ?_
  replace hf := mx_sv_el hf; obtain ⟨v28, e_v28, hf⟩ := hf
  refine sx_get hm dX13_guard_140 rs_RX13_49 (xgr_el e_v28) ?_
  clear e_v28
  refine mx_S.pu (pc2 := 144) (lv2 := [(7, .int v1), (0, .ref l0), (1, .int l1), (2, .int l2), (3, .int l3), (4, .int l4), (5, .int l5), (6, .int l6)]) (st2 := [.int l1, .ref v28, .int v27, .ref l0]) hm dX13_guard_143 rfl ?_
  replace hf := mx_sv_el hf; obtain ⟨v29, e_v29, hf⟩ := hf
  refine sx_ald hm dX13_guard_144 e_v29 ?_
  clear e_v29
  replace hf := mx_gd_el hf; obtain ⟨c30, hf⟩ := hf
  replace hf := mx_sv_el hf; obtain ⟨u31, e_u31, hf⟩ := hf
  refine sx_cv hm dX13_guard_145 rs_RX13_673 mt_X13_comes [.int v27, .int v29] [] (b := l0) (ci := 13) rfl rfl rfl c30 (Nat.le_of_ble_eq_true rfl) (Nat.le_of_ble_eq_true rfl) (by omega) (by omega) (f_X13_comes_ok X (by omega) (by omega) nn l0 v27 v29 u25 e_u31) ?_
  clear e_u31
  show mx_S X F L 469 148 [(7, .int v1), (0, .ref l0), (1, .int l1), (2, .int l2), (3, .int l3), (4, .int l4), (5, .int l5), (6, .int l6)] [] u31 0 0 (some (.int r.1), r.2, 0, 0)
  refine mx_S.pu (pc2 := 149) (lv2 := [(7, .int v1), (0, .ref l0), (1, .int l1), (2, .int l2), (3, .int l3), (4, .int l4), (5, .int l5), (6, .int l6)]) (st2 := [.ref l0]) hm dX13_guard_148 rfl ?_
  refine mx_S.pu (pc2 := 150) (lv2 := [(7, .int v1), (0, .ref l0), (1, .int l1), (2, .int l2), (3, .int l3), (4, .int l4), (5, .int l5), (6, .int l6)]) (st2 := [.ref l0, .ref l0]) hm dX13_guard_149 rfl ?_
  replace hf := mx_sv_el hf; obtain ⟨v32, e_v32, hf⟩ := hf
  refine sx_get hm dX13_guard_150 rs_RX13_40 (xgr_el e_v32) ?_
  clear e_v32
  refine mx_S.pu (pc2 := 154) (lv2 := [(7, .int v1), (0, .ref l0), (1, .int l1), (2, .int l2), (3, .int l3), (4, .int l4), (5, .int l5), (6, .int l6)]) (st2 := [.int l1, .ref v32, .ref l0]) hm dX13_guard_153 rfl ?_
  replace hf := mx_sv_el hf; obtain ⟨v33, e_v33, hf⟩ := hf
  refine sx_ald hm dX13_guard_154 e_v33 ?_
  clear e_v33
  replace hf := mx_gd_el hf; obtain ⟨c34, hf⟩ := hf
  replace hf := mx_sv_el hf; obtain ⟨u35, e_u35, hf⟩ := hf
  refine sx_cv hm dX13_guard_155 rs_RX13_664 mt_X13_make [.int v33] [] (b := l0) (ci := 13) rfl rfl rfl c34 (Nat.le_of_ble_eq_true rfl) (Nat.le_of_ble_eq_true rfl) (by omega) (by omega) (hrc.1 (by omega) (by omega) l0 v33 u31 e_u35) ?_
  clear e_u35
  show mx_S X F L 469 158 [(7, .int v1), (0, .ref l0), (1, .int l1), (2, .int l2), (3, .int l3), (4, .int l4), (5, .int l5), (6, .int l6)] [.int u35.1] u35.2 0 0 (some (.int r.1), r.2, 0, 0)
  refine mx_S.pu (pc2 := 160) (lv2 := [(8, .int u35.1), (7, .int v1), (0, .ref l0), (1, .int l1), (2, .int l2), (3, .int l3), (4, .int l4), (5, .int l5), (6, .int l6)]) (st2 := []) hm dX13_guard_158 rfl ?_
  refine mx_S.pu (pc2 := 161) (lv2 := [(8, .int u35.1), (7, .int v1), (0, .ref l0), (1, .int l1), (2, .int l2), (3, .int l3), (4, .int l4), (5, .int l5), (6, .int l6)]) (st2 := [.ref l0]) hm dX13_guard_160 rfl ?_
  refine mx_S.pu (pc2 := 162) (lv2 := [(8, .int u35.1), (7, .int v1), (0, .ref l0), (1, .int l1), (2, .int l2), (3, .int l3), (4, .int l4), (5, .int l5), (6, .int l6)]) (st2 := [.int l2, .ref l0]) hm dX13_guard_161 rfl ?_
  replace hf := mx_sv_el hf; obtain ⟨h36, e_h36, hf⟩ := hf
  refine sx_put hm dX13_guard_162 rs_RX13_513 ft_13_50 ⟨rfl, rfl⟩ (fun z => by cases z) e_h36 ?_
  clear e_h36
  refine mx_S.pu (pc2 := 166) (lv2 := [(8, .int u35.1), (7, .int v1), (0, .ref l0), (1, .int l1), (2, .int l2), (3, .int l3), (4, .int l4), (5, .int l5), (6, .int l6)]) (st2 := [.ref l0]) hm dX13_guard_165 rfl ?_
  refine mx_S.pu (pc2 := 167) (lv2 := [(8, .int u35.1), (7, .int v1), (0, .ref l0), (1, .int l1), (2, .int l2), (3, .int l3), (4, .int l4), (5, .int l5), (6, .int l6)]) (st2 := [.int l3, .ref l0]) hm dX13_guard_166 rfl ?_
  refine mx_S.pu (pc2 := 168) (lv2 := [(8, .int u35.1), (7, .int v1), (0, .ref l0), (1, .int l1), (2, .int l2), (3, .int l3), (4, .int l4), (5, .int l5), (6, .int l6)]) (st2 := [.ref l0, .int l3, .ref l0]) hm dX13_guard_167 rfl ?_
  replace hf := mx_sv_el hf; obtain ⟨v37, e_v37, hf⟩ := hf
  refine sx_get hm dX13_guard_168 rs_RX13_627 (xgi_el e_v37) ?_
  clear e_v37
  replace hf := mx_gd_el hf; obtain ⟨c38, hf⟩ := hf
  replace hf := mx_sv_el hf; obtain ⟨u39, e_u39, hf⟩ := hf
  refine sx_cv hm dX13_guard_171 rs_RX13_682 mt_X13_stands [.int l3, .int v37] [] (b := l0) (ci := 13) rfl rfl rfl c38 (Nat.le_of_ble_eq_true rfl) (Nat.le_of_ble_eq_true rfl) (by omega) (by omega) (f_X13_stands_ok X (by omega) (by omega) nn l0 l3 v37 h36 e_u39) ?_
  clear e_u39
  show mx_S X F L 469 174 [(8, .int u35.1), (7, .int v1), (0, .ref l0), (1, .int l1), (2, .int l2), (3, .int l3), (4, .int l4), (5, .int l5), (6, .int l6)] [] u39 0 0 (some (.int r.1), r.2, 0, 0)
  refine mx_S.pu (pc2 := 176) (lv2 := [(8, .int u35.1), (7, .int v1), (0, .ref l0), (1, .int l1), (2, .int l2), (3, .int l3), (4, .int l4), (5, .int l5), (6, .int l6)]) (st2 := [.int l5]) hm dX13_guard_174 rfl ?_
  rcases mx_if_el hf with ⟨c41, hf⟩ | ⟨c41, hf⟩
  · refine sb_if_ne hm dX13_guard_176 (tgt := 184) rfl (fun _ => ?_) (fun z => absurd c41 z)
    refine sx_ic (v := 1) hm dX13_guard_184 (by decide) ?_
    refine mx_S.pu (pc2 := 189) (lv2 := [(8, .int u35.1), (7, .int v1), (0, .ref l0), (1, .int l1), (2, .int l2), (3, .int l3), (4, .int l4), (5, .int l5), (6, .int l6)]) (st2 := [.int 1]) hm dX13_guard_185 rfl ?_
    cases hf
    exact sx_ire hm dX13_guard_189 rfl (by decide)
  · refine sb_if_ne hm dX13_guard_176 (tgt := 184) rfl (fun z => absurd z c41) (fun _ => ?_)
    refine mx_S.pu (pc2 := 181) (lv2 := [(8, .int u35.1), (7, .int v1), (0, .ref l0), (1, .int l1), (2, .int l2), (3, .int l3), (4, .int l4), (5, .int l5), (6, .int l6)]) (st2 := [.int u35.1]) hm dX13_guard_179 rfl ?_
    rcases mx_if_el hf with ⟨c40, hf⟩ | ⟨c40, hf⟩
    · refine sb_if_eq hm dX13_guard_181 (tgt := 188) rfl (fun _ => ?_) (fun z => absurd c40 z)
      refine sx_ic (v := 0) hm dX13_guard_188 (by decide) ?_
      cases hf
      exact sx_ire hm dX13_guard_189 rfl (by decide)
    · refine sb_if_eq hm dX13_guard_181 (tgt := 188) rfl (fun z => absurd z c40) (fun _ => ?_)
      refine sx_ic (v := 1) hm dX13_guard_184 (by decide) ?_
      refine mx_S.pu (pc2 := 189) (lv2 := [(8, .int u35.1), (7, .int v1), (0, .ref l0), (1, .int l1), (2, .int l2), (3, .int l3), (4, .int l4), (5, .int l5), (6, .int l6)]) (st2 := [.int 1]) hm dX13_guard_185 rfl ?_
      cases hf
      exact sx_ire hm dX13_guard_189 rfl (by decide)
set_option maxHeartbeats 4000000 in
set_option maxRecDepth 20000 in
theorem o_X13_guard_ok (X : Nat × (Nat → Int32)) {F L d : Nat} (hF : 1460 + (d + 1) ≤ F) (hL : 37921 + (d + 1) * 28 ≤ L) (nn : Nat) {rc : tg_X13_make} (hrc : hg5_X13_make X d rc) (a0 : Nat) (a1 : Int32) (a2 : Int32) (h : mx_H) {r : (Int32 × mx_H)} (hf : o_X13_guard nn rc a0 a1 a2 h = some r) : mx_R X F L 469 [.ref a0, .int a1, .int a2] h (some (.int r.1), r.2, 0, 0) := by
  have hm : mx_mt 469 = some (yX13_guard, cX13_guard, 9, (some .boolean)) := mt_X13_guard
  show mx_S X F L 469 0 [(0, .ref a0), (1, .int a1), (2, .int a2)] [] h 0 0 (some (.int r.1), r.2, 0, 0)
  unfold o_X13_guard at hf
  refine mx_S.pu (pc2 := 1) (lv2 := [(0, .ref a0), (1, .int a1), (2, .int a2)]) (st2 := [.ref a0]) hm dX13_guard_0 rfl ?_
  replace hf := mx_gd_el hf; obtain ⟨c42, hf⟩ := hf
  replace hf := mx_sv_el hf; obtain ⟨u43, e_u43, hf⟩ := hf
  refine sx_cv hm dX13_guard_1 rs_RX13_676 mt_X13_label [] [] (b := a0) (ci := 13) rfl rfl rfl c42 (Nat.le_of_ble_eq_true rfl) (Nat.le_of_ble_eq_true rfl) (by omega) (by omega) (f_X13_label_ok X (by omega) (by omega) nn a0 h e_u43) ?_
  clear e_u43
  show mx_S X F L 469 4 [(0, .ref a0), (1, .int a1), (2, .int a2)] [.int u43.1] u43.2 0 0 (some (.int r.1), r.2, 0, 0)
  refine mx_S.pu (pc2 := 5) (lv2 := [(3, .int u43.1), (0, .ref a0), (1, .int a1), (2, .int a2)]) (st2 := []) hm dX13_guard_4 rfl ?_
  refine mx_S.pu (pc2 := 6) (lv2 := [(3, .int u43.1), (0, .ref a0), (1, .int a1), (2, .int a2)]) (st2 := [.ref a0]) hm dX13_guard_5 rfl ?_
  replace hf := mx_sv_el hf; obtain ⟨v44, e_v44, hf⟩ := hf
  refine sx_get hm dX13_guard_6 rs_RX13_627 (xgi_el e_v44) ?_
  clear e_v44
  refine mx_S.pu (pc2 := 11) (lv2 := [(4, .int v44), (3, .int u43.1), (0, .ref a0), (1, .int a1), (2, .int a2)]) (st2 := []) hm dX13_guard_9 rfl ?_
  refine mx_S.pu (pc2 := 12) (lv2 := [(4, .int v44), (3, .int u43.1), (0, .ref a0), (1, .int a1), (2, .int a2)]) (st2 := [.ref a0]) hm dX13_guard_11 rfl ?_
  refine sx_ic (v := 0) hm dX13_guard_12 (by decide) ?_
  replace hf := mx_gd_el hf; obtain ⟨c45, hf⟩ := hf
  replace hf := mx_sv_el hf; obtain ⟨u46, e_u46, hf⟩ := hf
  refine sx_cv hm dX13_guard_13 rs_RX13_646 mt_X13_put [.int 0] [] (b := a0) (ci := 13) rfl rfl rfl c45 (Nat.le_of_ble_eq_true rfl) (Nat.le_of_ble_eq_true rfl) (by omega) (by omega) (f_X13_put_ok X (by omega) (by omega) nn a0 0 u43.2 e_u46) ?_
  clear e_u46
  show mx_S X F L 469 16 [(4, .int v44), (3, .int u43.1), (0, .ref a0), (1, .int a1), (2, .int a2)] [] u46 0 0 (some (.int r.1), r.2, 0, 0)
  refine mx_S.pu (pc2 := 17) (lv2 := [(4, .int v44), (3, .int u43.1), (0, .ref a0), (1, .int a1), (2, .int a2)]) (st2 := [.ref a0]) hm dX13_guard_16 rfl ?_
  refine mx_S.pu (pc2 := 18) (lv2 := [(4, .int v44), (3, .int u43.1), (0, .ref a0), (1, .int a1), (2, .int a2)]) (st2 := [.ref a0, .ref a0]) hm dX13_guard_17 rfl ?_
  replace hf := mx_sv_el hf; obtain ⟨v47, e_v47, hf⟩ := hf
  refine sx_get hm dX13_guard_18 rs_RX13_37 (xgr_el e_v47) ?_
  clear e_v47
  refine mx_S.pu (pc2 := 22) (lv2 := [(4, .int v44), (3, .int u43.1), (0, .ref a0), (1, .int a1), (2, .int a2)]) (st2 := [.int a1, .ref v47, .ref a0]) hm dX13_guard_21 rfl ?_
  replace hf := mx_sv_el hf; obtain ⟨v48, e_v48, hf⟩ := hf
  refine sx_ald hm dX13_guard_22 e_v48 ?_
  clear e_v48
  replace hf := mx_gd_el hf; obtain ⟨c49, hf⟩ := hf
  replace hf := mx_sv_el hf; obtain ⟨u50, e_u50, hf⟩ := hf
  refine sx_cv hm dX13_guard_23 rs_RX13_664 mt_X13_make [.int v48] [] (b := a0) (ci := 13) rfl rfl rfl c49 (Nat.le_of_ble_eq_true rfl) (Nat.le_of_ble_eq_true rfl) (by omega) (by omega) (hrc.1 (by omega) (by omega) a0 v48 u46 e_u50) ?_
  clear e_u50
  show mx_S X F L 469 26 [(4, .int v44), (3, .int u43.1), (0, .ref a0), (1, .int a1), (2, .int a2)] [.int u50.1] u50.2 0 0 (some (.int r.1), r.2, 0, 0)
  refine mx_S.pu (pc2 := 28) (lv2 := [(5, .int u50.1), (4, .int v44), (3, .int u43.1), (0, .ref a0), (1, .int a1), (2, .int a2)]) (st2 := []) hm dX13_guard_26 rfl ?_
  refine mx_S.pu (pc2 := 29) (lv2 := [(5, .int u50.1), (4, .int v44), (3, .int u43.1), (0, .ref a0), (1, .int a1), (2, .int a2)]) (st2 := [.ref a0]) hm dX13_guard_28 rfl ?_
  replace hf := mx_sv_el hf; obtain ⟨v51, e_v51, hf⟩ := hf
  refine sx_get hm dX13_guard_29 rs_RX13_627 (xgi_el e_v51) ?_
  clear e_v51
  refine mx_S.pu (pc2 := 34) (lv2 := [(6, .int v51), (5, .int u50.1), (4, .int v44), (3, .int u43.1), (0, .ref a0), (1, .int a1), (2, .int a2)]) (st2 := []) hm dX13_guard_32 rfl ?_
  refine mx_S.pu (pc2 := 36) (lv2 := [(6, .int v51), (5, .int u50.1), (4, .int v44), (3, .int u43.1), (0, .ref a0), (1, .int a1), (2, .int a2)]) (st2 := [.int u50.1]) hm dX13_guard_34 rfl ?_
  rcases mx_if_el hf with ⟨c54, hf⟩ | ⟨c54, hf⟩
  · refine sb_if_eq hm dX13_guard_36 (tgt := 47) rfl (fun _ => ?_) (fun z => absurd c54 z)
    refine mx_S.ext [(0, .ref a0), (1, .int a1), (2, .int a2), (3, .int u43.1), (4, .int v44), (5, .int u50.1), (6, .int v51)] (mx_sub_pos [4, 5, 6, 3, 2, 1, 0] rfl (show ([6, 5, 4, 3, 0, 1, 2] : List Nat).Nodup by decide)) ?_
    exact j_X13_guard_47_ok X hF hL nn hrc a0 a1 a2 u43.1 v44 u50.1 v51 u50.2 hf
  · refine sb_if_eq hm dX13_guard_36 (tgt := 47) rfl (fun z => absurd z c54) (fun _ => ?_)
    refine mx_S.pu (pc2 := 40) (lv2 := [(6, .int v51), (5, .int u50.1), (4, .int v44), (3, .int u43.1), (0, .ref a0), (1, .int a1), (2, .int a2)]) (st2 := [.ref a0]) hm dX13_guard_39 rfl ?_
    refine sx_si (v := 167) hm dX13_guard_40 (by decide) ?_
    refine mx_S.pu (pc2 := 44) (lv2 := [(6, .int v51), (5, .int u50.1), (4, .int v44), (3, .int u43.1), (0, .ref a0), (1, .int a1), (2, .int a2)]) (st2 := [.int u43.1, .int 167, .ref a0]) hm dX13_guard_43 rfl ?_
    replace hf := mx_gd_el hf; obtain ⟨c52, hf⟩ := hf
    replace hf := mx_sv_el hf; obtain ⟨u53, e_u53, hf⟩ := hf
    refine sx_cv hm dX13_guard_44 rs_RX13_679 mt_X13_jump [.int 167, .int u43.1] [] (b := a0) (ci := 13) rfl rfl rfl c52 (Nat.le_of_ble_eq_true rfl) (Nat.le_of_ble_eq_true rfl) (by omega) (by omega) (f_X13_jump_ok X (by omega) (by omega) nn a0 167 u43.1 u50.2 e_u53) ?_
    clear e_u53
    show mx_S X F L 469 47 [(6, .int v51), (5, .int u50.1), (4, .int v44), (3, .int u43.1), (0, .ref a0), (1, .int a1), (2, .int a2)] [] u53 0 0 (some (.int r.1), r.2, 0, 0)
    refine mx_S.ext [(0, .ref a0), (1, .int a1), (2, .int a2), (3, .int u43.1), (4, .int v44), (5, .int u50.1), (6, .int v51)] (mx_sub_pos [4, 5, 6, 3, 2, 1, 0] rfl (show ([6, 5, 4, 3, 0, 1, 2] : List Nat).Nodup by decide)) ?_
    exact j_X13_guard_47_ok X hF hL nn hrc a0 a1 a2 u43.1 v44 u50.1 v51 u53 hf
theorem g_X13_make_ok (X : Nat × (Nat → Int32)) (nn : Nat) : ∀ d, hg5_X13_make X d (g_X13_make nn d) := by
  intro d
  induction d with
  | zero => exact ⟨(fun {F L} _ _ a0 a1 h {r} hf => by cases hf), (fun {F L} _ _ a0 a1 a2 h {r} hf => by cases hf), (fun {F L} _ _ a0 a1 a2 h {r} hf => by cases hf)⟩
  | succ d ih => exact ⟨(fun {F L} hF hL a0 a1 h {r} hf => o_X13_make_ok X hF hL nn ih a0 a1 h hf), (fun {F L} hF hL a0 a1 a2 h {r} hf => o_X13_makeLoop_ok X hF hL nn ih a0 a1 a2 h hf), (fun {F L} hF hL a0 a1 a2 h {r} hf => o_X13_guard_ok X hF hL nn ih a0 a1 a2 h hf)⟩
theorem f_X13_make_ok (X : Nat × (Nat → Int32)) {F L : Nat} (hF : 1660 ≤ F) (hL : 43521 ≤ L) (nn : Nat) (a0 : Nat) (a1 : Int32) (h : mx_H) {r : (Int32 × mx_H)} (hf : f_X13_make nn a0 a1 h = some r) : mx_R X F L 467 [.ref a0, .int a1] h (some (.int r.1), r.2, 0, 0) := (g_X13_make_ok X nn 200).1 (by omega) (by omega) a0 a1 h hf
theorem f_X13_makeLoop_ok (X : Nat × (Nat → Int32)) {F L : Nat} (hF : 1660 ≤ F) (hL : 43521 ≤ L) (nn : Nat) (a0 : Nat) (a1 : Int32) (a2 : Int32) (h : mx_H) {r : (Int32 × mx_H)} (hf : f_X13_makeLoop nn a0 a1 a2 h = some r) : mx_R X F L 468 [.ref a0, .int a1, .int a2] h (some (.int r.1), r.2, 0, 0) := (g_X13_make_ok X nn 200).2.1 (by omega) (by omega) a0 a1 a2 h hf
theorem f_X13_guard_ok (X : Nat × (Nat → Int32)) {F L : Nat} (hF : 1660 ≤ F) (hL : 43521 ≤ L) (nn : Nat) (a0 : Nat) (a1 : Int32) (a2 : Int32) (h : mx_H) {r : (Int32 × mx_H)} (hf : f_X13_guard nn a0 a1 a2 h = some r) : mx_R X F L 469 [.ref a0, .int a1, .int a2] h (some (.int r.1), r.2, 0, 0) := (g_X13_make_ok X nn 200).2.2 (by omega) (by omega) a0 a1 a2 h hf
