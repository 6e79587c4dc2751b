set_option maxHeartbeats 4000000 in
set_option maxRecDepth 20000 in
theorem j_X13_member_360_ok (X : Nat × (Nat → Int32)) {F L : Nat} (hF : 866 ≤ F) (hL : 23573 ≤ L) (nn : Nat) (l0 : Nat) (l3 : Int32) (h : mx_H) {r : mx_H} (hf : j_X13_member_360 nn l0 l3 h = some r) : mx_S X F L 402 360 [(0, .ref l0), (3, .int l3)] [] h 0 0 (none, r, 0, 0) := by
  have hm : mx_mt 402 = some (yX13_member, cX13_member, 5, none) := mt_X13_member
  unfold j_X13_member_360 at hf
  refine mx_S.pu (pc2 := 361) (lv2 := [(0, .ref l0), (3, .int l3)]) (st2 := [.ref l0]) hm dX13_member_360 rfl ?_
  refine sx_bi (v := 41) hm dX13_member_361 (by decide) ?_
  replace hf := mx_gd_el hf; obtain ⟨c1, hf⟩ := hf
  replace hf := mx_sv_el hf; obtain ⟨u2, e_u2, hf⟩ := hf
  refine sx_cv hm dX13_member_363 rs_RX13_406 mt_X13_sign_ [.int 41] [] (b := l0) (ci := 13) rfl rfl rfl c1 (Nat.le_of_ble_eq_true rfl) (Nat.le_of_ble_eq_true rfl) (by omega) (by omega) (f_X13_sign__ok X (by omega) (by omega) nn l0 41 h e_u2) ?_
  clear e_u2
  show mx_S X F L 402 366 [(0, .ref l0), (3, .int l3)] [] u2 0 0 (none, r, 0, 0)
  refine mx_S.pu (pc2 := 367) (lv2 := [(0, .ref l0), (3, .int l3)]) (st2 := [.ref l0]) hm dX13_member_366 rfl ?_
  replace hf := mx_sv_el hf; obtain ⟨v3, e_v3, hf⟩ := hf
  refine sx_get hm dX13_member_367 rs_RX13_98 (xgr_el e_v3) ?_
  clear e_v3
  refine mx_S.pu (pc2 := 371) (lv2 := [(0, .ref l0), (3, .int l3)]) (st2 := [.int l3, .ref v3]) hm dX13_member_370 rfl ?_
  refine mx_S.pu (pc2 := 372) (lv2 := [(0, .ref l0), (3, .int l3)]) (st2 := [.ref l0, .int l3, .ref v3]) hm dX13_member_371 rfl ?_
  refine sx_ic (v := 0) hm dX13_member_372 (by decide) ?_
  replace hf := mx_gd_el hf; obtain ⟨c4, hf⟩ := hf
  replace hf := mx_sv_el hf; obtain ⟨u5, e_u5, hf⟩ := hf
  refine sx_cv hm dX13_member_373 rs_RX13_427 mt_X13_block [.int 0] [.int l3, .ref v3] (b := l0) (ci := 13) rfl rfl rfl c4 (Nat.le_of_ble_eq_true rfl) (Nat.le_of_ble_eq_true rfl) (by omega) (by omega) (f_X13_block_ok X (by omega) (by omega) nn l0 0 u2 e_u5) ?_
  clear e_u5
  show mx_S X F L 402 376 [(0, .ref l0), (3, .int l3)] [.int u5.1, .int l3, .ref v3] u5.2 0 0 (none, r, 0, 0)
  replace hf := mx_sv_el hf; obtain ⟨h6, e_h6, hf⟩ := hf
  refine sx_ast hm dX13_member_376 e_h6 ?_
  clear e_h6
  cases hf
  exact sx_ret hm dX13_member_377 rfl
set_option maxHeartbeats 4000000 in
set_option maxRecDepth 20000 in
theorem j_X13_member_269_ok (X : Nat × (Nat → Int32)) {F L : Nat} (hF : 866 ≤ F) (hL : 23573 ≤ L) (nn : Nat) {kk_234 : Nat → Int32 → mx_H → Option mx_H} (hk_234 : ∀ (l0 : Nat) (l3 : Int32) (h : mx_H) (r : mx_H), kk_234 l0 l3 h = some r → mx_S X F L 402 234 [(0, .ref l0), (3, .int l3)] [] h 0 0 (none, r, 0, 0)) (l0 : Nat) (l3 : Int32) (h : mx_H) {r : mx_H} (hf : j_X13_member_269 nn kk_234 l0 l3 h = some r) : mx_S X F L 402 269 [(0, .ref l0), (3, .int l3)] [] h 0 0 (none, r, 0, 0) := by
  have hm : mx_mt 402 = some (yX13_member, cX13_member, 5, none) := mt_X13_member
  unfold j_X13_member_269 at hf
  refine mx_S.pu (pc2 := 270) (lv2 := [(0, .ref l0), (3, .int l3)]) (st2 := [.ref l0]) hm dX13_member_269 rfl ?_
  replace hf := mx_gd_el hf; obtain ⟨c7, hf⟩ := hf
  replace hf := mx_sv_el hf; obtain ⟨u8, e_u8, hf⟩ := hf
  refine sx_cv hm dX13_member_270 rs_RX13_424 mt_X13_type [] [] (b := l0) (ci := 13) rfl rfl rfl c7 (Nat.le_of_ble_eq_true rfl) (Nat.le_of_ble_eq_true rfl) (by omega) (by omega) (f_X13_type_ok X (by omega) (by omega) nn l0 h e_u8) ?_
  clear e_u8
  show mx_S X F L 402 273 [(0, .ref l0), (3, .int l3)] [] u8 0 0 (none, r, 0, 0)
  refine mx_S.pu (pc2 := 274) (lv2 := [(0, .ref l0), (3, .int l3)]) (st2 := [.ref l0]) hm dX13_member_273 rfl ?_
  replace hf := mx_gd_el hf; obtain ⟨c9, hf⟩ := hf
  replace hf := mx_sv_el hf; obtain ⟨u10, e_u10, hf⟩ := hf
  refine sx_cv hm dX13_member_274 rs_RX13_403 mt_X13_name [] [] (b := l0) (ci := 13) rfl rfl rfl c9 (Nat.le_of_ble_eq_true rfl) (Nat.le_of_ble_eq_true rfl) (by omega) (by omega) (f_X13_name_ok X (by omega) (by omega) nn l0 u8 e_u10) ?_
  clear e_u10
  show mx_S X F L 402 277 [(0, .ref l0), (3, .int l3)] [.int u10.1] u10.2 0 0 (none, r, 0, 0)
  refine mx_S.pu (pc2 := 279) (lv2 := [(4, .int u10.1), (0, .ref l0), (3, .int l3)]) (st2 := []) hm dX13_member_277 rfl ?_
  refine mx_S.pu (pc2 := 280) (lv2 := [(4, .int u10.1), (0, .ref l0), (3, .int l3)]) (st2 := [.ref l0]) hm dX13_member_279 rfl ?_
  replace hf := mx_sv_el hf; obtain ⟨v11, e_v11, hf⟩ := hf
  refine sx_get hm dX13_member_280 rs_RX13_319 (xgi_el e_v11) ?_
  clear e_v11
  rcases mx_if_el hf with ⟨c34, hf⟩ | ⟨c34, hf⟩
  · refine sb_if_eq hm dX13_member_283 (tgt := 287) rfl (fun _ => ?_) (fun z => absurd c34 z)
    refine mx_S.pu (pc2 := 288) (lv2 := [(4, .int u10.1), (0, .ref l0), (3, .int l3)]) (st2 := [.ref l0]) hm dX13_member_287 rfl ?_
    replace hf := mx_sv_el hf; obtain ⟨v12, e_v12, hf⟩ := hf
    refine sx_get hm dX13_member_288 rs_RX13_101 (xgr_el e_v12) ?_
    clear e_v12
    refine mx_S.pu (pc2 := 292) (lv2 := [(4, .int u10.1), (0, .ref l0), (3, .int l3)]) (st2 := [.ref l0, .ref v12]) hm dX13_member_291 rfl ?_
    replace hf := mx_sv_el hf; obtain ⟨v13, e_v13, hf⟩ := hf
    refine sx_get hm dX13_member_292 rs_RX13_415 (xgi_el e_v13) ?_
    clear e_v13
    refine mx_S.pu (pc2 := 296) (lv2 := [(4, .int u10.1), (0, .ref l0), (3, .int l3)]) (st2 := [.ref l0, .int v13, .ref v12]) hm dX13_member_295 rfl ?_
    replace hf := mx_sv_el hf; obtain ⟨v14, e_v14, hf⟩ := hf
    refine sx_get hm dX13_member_296 rs_RX13_400 (xgi_el e_v14) ?_
    clear e_v14
    replace hf := mx_sv_el hf; obtain ⟨h15, e_h15, hf⟩ := hf
    refine sx_ast hm dX13_member_299 e_h15 ?_
    clear e_h15
    refine mx_S.pu (pc2 := 301) (lv2 := [(4, .int u10.1), (0, .ref l0), (3, .int l3)]) (st2 := [.ref l0]) hm dX13_member_300 rfl ?_
    replace hf := mx_sv_el hf; obtain ⟨v16, e_v16, hf⟩ := hf
    refine sx_get hm dX13_member_301 rs_RX13_104 (xgr_el e_v16) ?_
    clear e_v16
    refine mx_S.pu (pc2 := 305) (lv2 := [(4, .int u10.1), (0, .ref l0), (3, .int l3)]) (st2 := [.ref l0, .ref v16]) hm dX13_member_304 rfl ?_
    replace hf := mx_sv_el hf; obtain ⟨v17, e_v17, hf⟩ := hf
    refine sx_get hm dX13_member_305 rs_RX13_415 (xgi_el e_v17) ?_
    clear e_v17
    refine mx_S.pu (pc2 := 309) (lv2 := [(4, .int u10.1), (0, .ref l0), (3, .int l3)]) (st2 := [.ref l0, .int v17, .ref v16]) hm dX13_member_308 rfl ?_
    replace hf := mx_sv_el hf; obtain ⟨v18, e_v18, hf⟩ := hf
    refine sx_get hm dX13_member_309 rs_RX13_393 (xgi_el e_v18) ?_
    clear e_v18
    replace hf := mx_sv_el hf; obtain ⟨h19, e_h19, hf⟩ := hf
    refine sx_ast hm dX13_member_312 e_h19 ?_
    clear e_h19
    refine mx_S.pu (pc2 := 314) (lv2 := [(4, .int u10.1), (0, .ref l0), (3, .int l3)]) (st2 := [.ref l0]) hm dX13_member_313 rfl ?_
    replace hf := mx_sv_el hf; obtain ⟨v20, e_v20, hf⟩ := hf
    refine sx_get hm dX13_member_314 rs_RX13_107 (xgr_el e_v20) ?_
    clear e_v20
    refine mx_S.pu (pc2 := 318) (lv2 := [(4, .int u10.1), (0, .ref l0), (3, .int l3)]) (st2 := [.ref l0, .ref v20]) hm dX13_member_317 rfl ?_
    replace hf := mx_sv_el hf; obtain ⟨v21, e_v21, hf⟩ := hf
    refine sx_get hm dX13_member_318 rs_RX13_415 (xgi_el e_v21) ?_
    clear e_v21
    refine mx_S.pu (pc2 := 322) (lv2 := [(4, .int u10.1), (0, .ref l0), (3, .int l3)]) (st2 := [.ref l0, .int v21, .ref v20]) hm dX13_member_321 rfl ?_
    replace hf := mx_sv_el hf; obtain ⟨v22, e_v22, hf⟩ := hf
    refine sx_get hm dX13_member_322 rs_RX13_396 (xgi_el e_v22) ?_
    clear e_v22
    replace hf := mx_sv_el hf; obtain ⟨h23, e_h23, hf⟩ := hf
    refine sx_bst hm dX13_member_325 e_h23 ?_
    clear e_h23
    refine mx_S.pu (pc2 := 327) (lv2 := [(4, .int u10.1), (0, .ref l0), (3, .int l3)]) (st2 := [.ref l0]) hm dX13_member_326 rfl ?_
    replace hf := mx_sv_el hf; obtain ⟨v24, e_v24, hf⟩ := hf
    refine sx_get hm dX13_member_327 rs_RX13_110 (xgr_el e_v24) ?_
    clear e_v24
    refine mx_S.pu (pc2 := 331) (lv2 := [(4, .int u10.1), (0, .ref l0), (3, .int l3)]) (st2 := [.ref l0, .ref v24]) hm dX13_member_330 rfl ?_
    replace hf := mx_sv_el hf; obtain ⟨v25, e_v25, hf⟩ := hf
    refine sx_get hm dX13_member_331 rs_RX13_415 (xgi_el e_v25) ?_
    clear e_v25
    refine mx_S.pu (pc2 := 336) (lv2 := [(4, .int u10.1), (0, .ref l0), (3, .int l3)]) (st2 := [.int u10.1, .int v25, .ref v24]) hm dX13_member_334 rfl ?_
    replace hf := mx_sv_el hf; obtain ⟨h26, e_h26, hf⟩ := hf
    refine sx_ast hm dX13_member_336 e_h26 ?_
    clear e_h26
    refine mx_S.pu (pc2 := 338) (lv2 := [(4, .int u10.1), (0, .ref l0), (3, .int l3)]) (st2 := [.ref l0]) hm dX13_member_337 rfl ?_
    refine mx_S.pu (pc2 := 339) (lv2 := [(4, .int u10.1), (0, .ref l0), (3, .int l3)]) (st2 := [.ref l0, .ref l0]) hm dX13_member_338 rfl ?_
    replace hf := mx_sv_el hf; obtain ⟨v27, e_v27, hf⟩ := hf
    refine sx_get hm dX13_member_339 rs_RX13_415 (xgi_el e_v27) ?_
    clear e_v27
    refine sx_ic (v := 1) hm dX13_member_342 (by decide) ?_
    replace hf := xl_el hf; obtain ⟨v28, e_v28, hf⟩ := hf
    refine mx_S.pu (pc2 := 344) (lv2 := [(4, .int u10.1), (0, .ref l0), (3, .int l3)]) (st2 := [.int v28, .ref l0]) hm dX13_member_343 (by rw [← e_v28]; rfl) ?_
    clear e_v28
    replace hf := mx_sv_el hf; obtain ⟨h29, e_h29, hf⟩ := hf
    refine sx_put hm dX13_member_344 rs_RX13_415 ft_13_39 ⟨rfl, rfl⟩ (fun z => by cases z) e_h29 ?_
    clear e_h29
    refine mx_S.pu (pc2 := 348) (lv2 := [(4, .int u10.1), (0, .ref l0), (3, .int l3)]) (st2 := [.ref l0]) hm dX13_member_347 rfl ?_
    replace hf := mx_sv_el hf; obtain ⟨v30, e_v30, hf⟩ := hf
    refine sx_get hm dX13_member_348 rs_RX13_95 (xgr_el e_v30) ?_
    clear e_v30
    refine mx_S.pu (pc2 := 352) (lv2 := [(4, .int u10.1), (0, .ref l0), (3, .int l3)]) (st2 := [.int l3, .ref v30]) hm dX13_member_351 rfl ?_
    refine mx_S.pu (pc2 := 353) (lv2 := [(4, .int u10.1), (0, .ref l0), (3, .int l3)]) (st2 := [.int l3, .ref v30, .int l3, .ref v30]) hm dX13_member_352 rfl ?_
    replace hf := mx_sv_el hf; obtain ⟨v31, e_v31, hf⟩ := hf
    refine sx_ald hm dX13_member_353 e_v31 ?_
    clear e_v31
    refine sx_ic (v := 1) hm dX13_member_354 (by decide) ?_
    replace hf := xl_el hf; obtain ⟨v32, e_v32, hf⟩ := hf
    refine mx_S.pu (pc2 := 356) (lv2 := [(4, .int u10.1), (0, .ref l0), (3, .int l3)]) (st2 := [.int v32, .int l3, .ref v30]) hm dX13_member_355 (by rw [← e_v32]; rfl) ?_
    clear e_v32
    replace hf := mx_sv_el hf; obtain ⟨h33, e_h33, hf⟩ := hf
    refine sx_ast hm dX13_member_356 e_h33 ?_
    clear e_h33
    refine mx_S.pu (pc2 := 234) (lv2 := [(4, .int u10.1), (0, .ref l0), (3, .int l3)]) (st2 := []) hm dX13_member_357 rfl ?_
    refine mx_S.ext [(0, .ref l0), (3, .int l3)] (mx_sub_pos [1, 2] rfl (show ([4, 0, 3] : List Nat).Nodup by decide)) ?_
    exact hk_234 l0 l3 h33 _ hf
  · refine sb_if_eq hm dX13_member_283 (tgt := 287) rfl (fun z => absurd z c34) (fun _ => ?_)
    cases hf
    exact sx_ret hm dX13_member_286 rfl
set_option maxHeartbeats 4000000 in
set_option maxRecDepth 20000 in
theorem w_X13_member_234_ok (X : Nat × (Nat → Int32)) {F L : Nat} (hF : 866 ≤ F) (hL : 23573 ≤ L) (nn : Nat) : ∀ (k : Nat) (l0 : Nat) (l3 : Int32) (h : mx_H) (r : mx_H), w_X13_member_234 nn k l0 l3 h = some r → mx_S X F L 402 234 [(0, .ref l0), (3, .int l3)] [] h 0 0 (none, r, 0, 0) := by
  have hm : mx_mt 402 = some (yX13_member, cX13_member, 5, none) := mt_X13_member
  intro k
  induction k with
  | zero => intro l0 l3 h r hf; cases hf
  | succ k ih =>
    intro l0 l3 h r hf
    unfold w_X13_member_234 at hf
    refine mx_S.pu (pc2 := 235) (lv2 := [(0, .ref l0), (3, .int l3)]) (st2 := [.ref l0]) hm dX13_member_234 rfl ?_
    replace hf := mx_sv_el hf; obtain ⟨v35, e_v35, hf⟩ := hf
    refine sx_get hm dX13_member_235 rs_RX13_319 (xgi_el e_v35) ?_
    clear e_v35
    rcases mx_if_el hf with ⟨c45, hf⟩ | ⟨c45, hf⟩
    · refine sb_if_ne hm dX13_member_238 (tgt := 360) rfl (fun _ => ?_) (fun z => absurd c45 z)
      exact j_X13_member_360_ok X hF hL nn l0 l3 h hf
    · refine sb_if_ne hm dX13_member_238 (tgt := 360) rfl (fun z => absurd z c45) (fun _ => ?_)
      refine mx_S.pu (pc2 := 242) (lv2 := [(0, .ref l0), (3, .int l3)]) (st2 := [.ref l0]) hm dX13_member_241 rfl ?_
      refine mx_S.pu (pc2 := 243) (lv2 := [(0, .ref l0), (3, .int l3)]) (st2 := [.ref l0, .ref l0]) hm dX13_member_242 rfl ?_
      replace hf := mx_sv_el hf; obtain ⟨v36, e_v36, hf⟩ := hf
      refine sx_get hm dX13_member_243 rs_RX13_376 (xgi_el e_v36) ?_
      clear e_v36
      refine sx_bi (v := 41) hm dX13_member_246 (by decide) ?_
      replace hf := mx_gd_el hf; obtain ⟨c37, hf⟩ := hf
      replace hf := mx_sv_el hf; obtain ⟨u38, e_u38, hf⟩ := hf
      refine sx_cv hm dX13_member_248 rs_RX13_383 mt_X13_isSign [.int v36, .int 41] [] (b := l0) (ci := 13) rfl rfl rfl c37 (Nat.le_of_ble_eq_true rfl) (Nat.le_of_ble_eq_true rfl) (by omega) (by omega) (f_X13_isSign_ok X (by omega) (by omega) nn l0 v36 41 h e_u38) ?_
      clear e_u38
      show mx_S X F L 402 251 [(0, .ref l0), (3, .int l3)] [.int u38.1] u38.2 0 0 (none, r, 0, 0)
      rcases mx_if_el hf with ⟨c44, hf⟩ | ⟨c44, hf⟩
      · refine sb_if_ne hm dX13_member_251 (tgt := 360) rfl (fun _ => ?_) (fun z => absurd c44 z)
        exact j_X13_member_360_ok X hF hL nn l0 l3 u38.2 hf
      · refine sb_if_ne hm dX13_member_251 (tgt := 360) rfl (fun z => absurd z c44) (fun _ => ?_)
        refine mx_S.pu (pc2 := 255) (lv2 := [(0, .ref l0), (3, .int l3)]) (st2 := [.ref l0]) hm dX13_member_254 rfl ?_
        replace hf := mx_sv_el hf; obtain ⟨v39, e_v39, hf⟩ := hf
        refine sx_get hm dX13_member_255 rs_RX13_95 (xgr_el e_v39) ?_
        clear e_v39
        refine mx_S.pu (pc2 := 259) (lv2 := [(0, .ref l0), (3, .int l3)]) (st2 := [.int l3, .ref v39]) hm dX13_member_258 rfl ?_
        replace hf := mx_sv_el hf; obtain ⟨v40, e_v40, hf⟩ := hf
        refine sx_ald hm dX13_member_259 e_v40 ?_
        clear e_v40
        rcases mx_if_el hf with ⟨c43, hf⟩ | ⟨c43, hf⟩
        · refine sb_if_le hm dX13_member_260 (tgt := 269) rfl (fun _ => ?_) (fun z => absurd c43 z)
          exact j_X13_member_269_ok X hF hL nn ih l0 l3 u38.2 hf
        · refine sb_if_le hm dX13_member_260 (tgt := 269) rfl (fun z => absurd z c43) (fun _ => ?_)
          refine mx_S.pu (pc2 := 264) (lv2 := [(0, .ref l0), (3, .int l3)]) (st2 := [.ref l0]) hm dX13_member_263 rfl ?_
          refine sx_bi (v := 44) hm dX13_member_264 (by decide) ?_
          replace hf := mx_gd_el hf; obtain ⟨c41, hf⟩ := hf
          replace hf := mx_sv_el hf; obtain ⟨u42, e_u42, hf⟩ := hf
          refine sx_cv hm dX13_member_266 rs_RX13_406 mt_X13_sign_ [.int 44] [] (b := l0) (ci := 13) rfl rfl rfl c41 (Nat.le_of_ble_eq_true rfl) (Nat.le_of_ble_eq_true rfl) (by omega) (by omega) (f_X13_sign__ok X (by omega) (by omega) nn l0 44 u38.2 e_u42) ?_
          clear e_u42
          show mx_S X F L 402 269 [(0, .ref l0), (3, .int l3)] [] u42 0 0 (none, r, 0, 0)
          exact j_X13_member_269_ok X hF hL nn ih l0 l3 u42 hf
set_option maxHeartbeats 4000000 in
set_option maxRecDepth 20000 in
theorem j_X13_member_170_ok (X : Nat × (Nat → Int32)) {F L : Nat} (hF : 866 ≤ F) (hL : 23573 ≤ L) (nn : Nat) (l0 : Nat) (l1 : Int32) (l2 : Int32) (l3 : Int32) (s0 : Int32) (s1 : Int32) (s2 : Nat) (h : mx_H) {r : mx_H} (hf : j_X13_member_170 nn l0 l1 l2 l3 s0 s1 s2 h = some r) : mx_S X F L 402 170 [(0, .ref l0), (1, .int l1), (2, .int l2), (3, .int l3)] [.int s0, .int s1, .ref s2] h 0 0 (none, r, 0, 0) := by
  have hm : mx_mt 402 = some (yX13_member, cX13_member, 5, none) := mt_X13_member
  unfold j_X13_member_170 at hf
  replace hf := mx_sv_el hf; obtain ⟨h46, e_h46, hf⟩ := hf
  refine sx_ast hm dX13_member_170 e_h46 ?_
  clear e_h46
  refine mx_S.pu (pc2 := 172) (lv2 := [(0, .ref l0), (1, .int l1), (2, .int l2), (3, .int l3)]) (st2 := [.ref l0]) hm dX13_member_171 rfl ?_
  replace hf := mx_sv_el hf; obtain ⟨v47, e_v47, hf⟩ := hf
  refine sx_get hm dX13_member_172 rs_RX13_319 (xgi_el e_v47) ?_
  clear e_v47
  rcases mx_if_el hf with ⟨c68, hf⟩ | ⟨c68, hf⟩
  · refine sb_if_eq hm dX13_member_175 (tgt := 179) rfl (fun _ => ?_) (fun z => absurd c68 z)
    refine mx_S.pu (pc2 := 180) (lv2 := [(0, .ref l0), (1, .int l1), (2, .int l2), (3, .int l3)]) (st2 := [.ref l0]) hm dX13_member_179 rfl ?_
    refine mx_S.pu (pc2 := 181) (lv2 := [(0, .ref l0), (1, .int l1), (2, .int l2), (3, .int l3)]) (st2 := [.ref l0, .ref l0]) hm dX13_member_180 rfl ?_
    replace hf := mx_sv_el hf; obtain ⟨v48, e_v48, hf⟩ := hf
    refine sx_get hm dX13_member_181 rs_RX13_412 (xgi_el e_v48) ?_
    clear e_v48
    refine sx_ic (v := 1) hm dX13_member_184 (by decide) ?_
    replace hf := xl_el hf; obtain ⟨v49, e_v49, hf⟩ := hf
    refine mx_S.pu (pc2 := 186) (lv2 := [(0, .ref l0), (1, .int l1), (2, .int l2), (3, .int l3)]) (st2 := [.int v49, .ref l0]) hm dX13_member_185 (by rw [← e_v49]; rfl) ?_
    clear e_v49
    replace hf := mx_sv_el hf; obtain ⟨h50, e_h50, hf⟩ := hf
    refine sx_put hm dX13_member_186 rs_RX13_412 ft_13_28 ⟨rfl, rfl⟩ (fun z => by cases z) e_h50 ?_
    clear e_h50
    refine mx_S.pu (pc2 := 190) (lv2 := [(0, .ref l0), (1, .int l1), (2, .int l2), (3, .int l3)]) (st2 := [.int l1]) hm dX13_member_189 rfl ?_
    rcases mx_if_el hf with ⟨c67, hf⟩ | ⟨c67, hf⟩
    · refine sb_if_ne hm dX13_member_190 (tgt := 228) rfl (fun _ => ?_) (fun z => absurd c67 z)
      refine mx_S.pu (pc2 := 229) (lv2 := [(0, .ref l0), (1, .int l1), (2, .int l2), (3, .int l3)]) (st2 := [.ref l0]) hm dX13_member_228 rfl ?_
      refine sx_bi (v := 40) hm dX13_member_229 (by decide) ?_
      replace hf := mx_gd_el hf; obtain ⟨c51, hf⟩ := hf
      replace hf := mx_sv_el hf; obtain ⟨u52, e_u52, hf⟩ := hf
      refine sx_cv hm dX13_member_231 rs_RX13_406 mt_X13_sign_ [.int 40] [] (b := l0) (ci := 13) rfl rfl rfl c51 (Nat.le_of_ble_eq_true rfl) (Nat.le_of_ble_eq_true rfl) (by omega) (by omega) (f_X13_sign__ok X (by omega) (by omega) nn l0 40 h50 e_u52) ?_
      clear e_u52
      show mx_S X F L 402 234 [(0, .ref l0), (1, .int l1), (2, .int l2), (3, .int l3)] [] u52 0 0 (none, r, 0, 0)
      refine mx_S.ext [(0, .ref l0), (3, .int l3)] (mx_sub_pos [0, 3] rfl (show ([0, 1, 2, 3] : List Nat).Nodup by decide)) ?_
      exact w_X13_member_234_ok X hF hL nn nn l0 l3 u52 _ hf
    · refine sb_if_ne hm dX13_member_190 (tgt := 228) rfl (fun z => absurd z c67) (fun _ => ?_)
      refine mx_S.pu (pc2 := 194) (lv2 := [(0, .ref l0), (1, .int l1), (2, .int l2), (3, .int l3)]) (st2 := [.int l2]) hm dX13_member_193 rfl ?_
      rcases mx_if_el hf with ⟨c66, hf⟩ | ⟨c66, hf⟩
      · refine sb_if_ne hm dX13_member_194 (tgt := 228) rfl (fun _ => ?_) (fun z => absurd c66 z)
        refine mx_S.pu (pc2 := 229) (lv2 := [(0, .ref l0), (1, .int l1), (2, .int l2), (3, .int l3)]) (st2 := [.ref l0]) hm dX13_member_228 rfl ?_
        refine sx_bi (v := 40) hm dX13_member_229 (by decide) ?_
        replace hf := mx_gd_el hf; obtain ⟨c53, hf⟩ := hf
        replace hf := mx_sv_el hf; obtain ⟨u54, e_u54, hf⟩ := hf
        refine sx_cv hm dX13_member_231 rs_RX13_406 mt_X13_sign_ [.int 40] [] (b := l0) (ci := 13) rfl rfl rfl c53 (Nat.le_of_ble_eq_true rfl) (Nat.le_of_ble_eq_true rfl) (by omega) (by omega) (f_X13_sign__ok X (by omega) (by omega) nn l0 40 h50 e_u54) ?_
        clear e_u54
        show mx_S X F L 402 234 [(0, .ref l0), (1, .int l1), (2, .int l2), (3, .int l3)] [] u54 0 0 (none, r, 0, 0)
        refine mx_S.ext [(0, .ref l0), (3, .int l3)] (mx_sub_pos [0, 3] rfl (show ([0, 1, 2, 3] : List Nat).Nodup by decide)) ?_
        exact w_X13_member_234_ok X hF hL nn nn l0 l3 u54 _ hf
      · refine sb_if_ne hm dX13_member_194 (tgt := 228) rfl (fun z => absurd z c66) (fun _ => ?_)
        refine mx_S.pu (pc2 := 198) (lv2 := [(0, .ref l0), (1, .int l1), (2, .int l2), (3, .int l3)]) (st2 := [.ref l0]) hm dX13_member_197 rfl ?_
        refine mx_S.pu (pc2 := 199) (lv2 := [(0, .ref l0), (1, .int l1), (2, .int l2), (3, .int l3)]) (st2 := [.ref l0, .ref l0]) hm dX13_member_198 rfl ?_
        replace hf := mx_sv_el hf; obtain ⟨v55, e_v55, hf⟩ := hf
        refine sx_get hm dX13_member_199 rs_RX13_376 (xgi_el e_v55) ?_
        clear e_v55
        refine sx_bi (v := 59) hm dX13_member_202 (by decide) ?_
        replace hf := mx_gd_el hf; obtain ⟨c56, hf⟩ := hf
        replace hf := mx_sv_el hf; obtain ⟨u57, e_u57, hf⟩ := hf
        refine sx_cv hm dX13_member_204 rs_RX13_383 mt_X13_isSign [.int v55, .int 59] [] (b := l0) (ci := 13) rfl rfl rfl c56 (Nat.le_of_ble_eq_true rfl) (Nat.le_of_ble_eq_true rfl) (by omega) (by omega) (f_X13_isSign_ok X (by omega) (by omega) nn l0 v55 59 h50 e_u57) ?_
        clear e_u57
        show mx_S X F L 402 207 [(0, .ref l0), (1, .int l1), (2, .int l2), (3, .int l3)] [.int u57.1] u57.2 0 0 (none, r, 0, 0)
        rcases mx_if_el hf with ⟨c65, hf⟩ | ⟨c65, hf⟩
        · refine sb_if_eq hm dX13_member_207 (tgt := 228) rfl (fun _ => ?_) (fun z => absurd c65 z)
          refine mx_S.pu (pc2 := 229) (lv2 := [(0, .ref l0), (1, .int l1), (2, .int l2), (3, .int l3)]) (st2 := [.ref l0]) hm dX13_member_228 rfl ?_
          refine sx_bi (v := 40) hm dX13_member_229 (by decide) ?_
          replace hf := mx_gd_el hf; obtain ⟨c58, hf⟩ := hf
          replace hf := mx_sv_el hf; obtain ⟨u59, e_u59, hf⟩ := hf
          refine sx_cv hm dX13_member_231 rs_RX13_406 mt_X13_sign_ [.int 40] [] (b := l0) (ci := 13) rfl rfl rfl c58 (Nat.le_of_ble_eq_true rfl) (Nat.le_of_ble_eq_true rfl) (by omega) (by omega) (f_X13_sign__ok X (by omega) (by omega) nn l0 40 u57.2 e_u59) ?_
          clear e_u59
          show mx_S X F L 402 234 [(0, .ref l0), (1, .int l1), (2, .int l2), (3, .int l3)] [] u59 0 0 (none, r, 0, 0)
          refine mx_S.ext [(0, .ref l0), (3, .int l3)] (mx_sub_pos [0, 3] rfl (show ([0, 1, 2, 3] : List Nat).Nodup by decide)) ?_
          exact w_X13_member_234_ok X hF hL nn nn l0 l3 u59 _ hf
        · refine sb_if_eq hm dX13_member_207 (tgt := 228) rfl (fun z => absurd z c65) (fun _ => ?_)
          refine mx_S.pu (pc2 := 211) (lv2 := [(0, .ref l0), (1, .int l1), (2, .int l2), (3, .int l3)]) (st2 := [.ref l0]) hm dX13_member_210 rfl ?_
          refine mx_S.pu (pc2 := 212) (lv2 := [(0, .ref l0), (1, .int l1), (2, .int l2), (3, .int l3)]) (st2 := [.ref l0, .ref l0]) hm dX13_member_211 rfl ?_
          replace hf := mx_sv_el hf; obtain ⟨v60, e_v60, hf⟩ := hf
          refine sx_get hm dX13_member_212 rs_RX13_376 (xgi_el e_v60) ?_
          clear e_v60
          refine sx_ic (v := 1) hm dX13_member_215 (by decide) ?_
          replace hf := xl_el hf; obtain ⟨v61, e_v61, hf⟩ := hf
          refine mx_S.pu (pc2 := 217) (lv2 := [(0, .ref l0), (1, .int l1), (2, .int l2), (3, .int l3)]) (st2 := [.int v61, .ref l0]) hm dX13_member_216 (by rw [← e_v61]; rfl) ?_
          clear e_v61
          replace hf := mx_sv_el hf; obtain ⟨h62, e_h62, hf⟩ := hf
          refine sx_put hm dX13_member_217 rs_RX13_376 ft_13_23 ⟨rfl, rfl⟩ (fun z => by cases z) e_h62 ?_
          clear e_h62
          refine mx_S.pu (pc2 := 221) (lv2 := [(0, .ref l0), (1, .int l1), (2, .int l2), (3, .int l3)]) (st2 := [.ref l0]) hm dX13_member_220 rfl ?_
          replace hf := mx_sv_el hf; obtain ⟨v63, e_v63, hf⟩ := hf
          refine sx_get hm dX13_member_221 rs_RX13_74 (xgr_el e_v63) ?_
          clear e_v63
          refine mx_S.pu (pc2 := 225) (lv2 := [(0, .ref l0), (1, .int l1), (2, .int l2), (3, .int l3)]) (st2 := [.int l3, .ref v63]) hm dX13_member_224 rfl ?_
          refine sx_ic (v := 0) hm dX13_member_225 (by decide) ?_
          replace hf := mx_sv_el hf; obtain ⟨h64, e_h64, hf⟩ := hf
          refine sx_ast hm dX13_member_226 e_h64 ?_
          clear e_h64
          cases hf
          exact sx_ret hm dX13_member_227 rfl
  · refine sb_if_eq hm dX13_member_175 (tgt := 179) rfl (fun z => absurd z c68) (fun _ => ?_)
    cases hf
    exact sx_ret hm dX13_member_178 rfl
set_option maxHeartbeats 4000000 in
set_option maxRecDepth 20000 in
theorem j_X13_member_75_ok (X : Nat × (Nat → Int32)) {F L : Nat} (hF : 866 ≤ F) (hL : 23573 ≤ L) (nn : Nat) (l0 : Nat) (l1 : Int32) (l2 : Int32) (h : mx_H) {r : mx_H} (hf : j_X13_member_75 nn l0 l1 l2 h = some r) : mx_S X F L 402 75 [(0, .ref l0), (1, .int l1), (2, .int l2)] [] h 0 0 (none, r, 0, 0) := by
  have hm : mx_mt 402 = some (yX13_member, cX13_member, 5, none) := mt_X13_member
  unfold j_X13_member_75 at hf
  refine mx_S.pu (pc2 := 76) (lv2 := [(0, .ref l0), (1, .int l1), (2, .int l2)]) (st2 := [.ref l0]) hm dX13_member_75 rfl ?_
  replace hf := mx_sv_el hf; obtain ⟨v69, e_v69, hf⟩ := hf
  refine sx_get hm dX13_member_76 rs_RX13_412 (xgi_el e_v69) ?_
  clear e_v69
  refine mx_S.pu (pc2 := 80) (lv2 := [(3, .int v69), (0, .ref l0), (1, .int l1), (2, .int l2)]) (st2 := []) hm dX13_member_79 rfl ?_
  refine mx_S.pu (pc2 := 81) (lv2 := [(3, .int v69), (0, .ref l0), (1, .int l1), (2, .int l2)]) (st2 := [.ref l0]) hm dX13_member_80 rfl ?_
  replace hf := mx_sv_el hf; obtain ⟨v70, e_v70, hf⟩ := hf
  refine sx_get hm dX13_member_81 rs_RX13_77 (xgr_el e_v70) ?_
  clear e_v70
  refine mx_S.pu (pc2 := 85) (lv2 := [(3, .int v69), (0, .ref l0), (1, .int l1), (2, .int l2)]) (st2 := [.int v69, .ref v70]) hm dX13_member_84 rfl ?_
  refine mx_S.pu (pc2 := 86) (lv2 := [(3, .int v69), (0, .ref l0), (1, .int l1), (2, .int l2)]) (st2 := [.ref l0, .int v69, .ref v70]) hm dX13_member_85 rfl ?_
  replace hf := mx_sv_el hf; obtain ⟨v71, e_v71, hf⟩ := hf
  refine sx_get hm dX13_member_86 rs_RX13_400 (xgi_el e_v71) ?_
  clear e_v71
  replace hf := mx_sv_el hf; obtain ⟨h72, e_h72, hf⟩ := hf
  refine sx_ast hm dX13_member_89 e_h72 ?_
  clear e_h72
  refine mx_S.pu (pc2 := 91) (lv2 := [(3, .int v69), (0, .ref l0), (1, .int l1), (2, .int l2)]) (st2 := [.ref l0]) hm dX13_member_90 rfl ?_
  replace hf := mx_sv_el hf; obtain ⟨v73, e_v73, hf⟩ := hf
  refine sx_get hm dX13_member_91 rs_RX13_80 (xgr_el e_v73) ?_
  clear e_v73
  refine mx_S.pu (pc2 := 95) (lv2 := [(3, .int v69), (0, .ref l0), (1, .int l1), (2, .int l2)]) (st2 := [.int v69, .ref v73]) hm dX13_member_94 rfl ?_
  refine mx_S.pu (pc2 := 96) (lv2 := [(3, .int v69), (0, .ref l0), (1, .int l1), (2, .int l2)]) (st2 := [.ref l0, .int v69, .ref v73]) hm dX13_member_95 rfl ?_
  replace hf := mx_sv_el hf; obtain ⟨v74, e_v74, hf⟩ := hf
  refine sx_get hm dX13_member_96 rs_RX13_393 (xgi_el e_v74) ?_
  clear e_v74
  replace hf := mx_sv_el hf; obtain ⟨h75, e_h75, hf⟩ := hf
  refine sx_ast hm dX13_member_99 e_h75 ?_
  clear e_h75
  refine mx_S.pu (pc2 := 101) (lv2 := [(3, .int v69), (0, .ref l0), (1, .int l1), (2, .int l2)]) (st2 := [.ref l0]) hm dX13_member_100 rfl ?_
  replace hf := mx_sv_el hf; obtain ⟨v76, e_v76, hf⟩ := hf
  refine sx_get hm dX13_member_101 rs_RX13_83 (xgr_el e_v76) ?_
  clear e_v76
  refine mx_S.pu (pc2 := 105) (lv2 := [(3, .int v69), (0, .ref l0), (1, .int l1), (2, .int l2)]) (st2 := [.int v69, .ref v76]) hm dX13_member_104 rfl ?_
  refine mx_S.pu (pc2 := 106) (lv2 := [(3, .int v69), (0, .ref l0), (1, .int l1), (2, .int l2)]) (st2 := [.ref l0, .int v69, .ref v76]) hm dX13_member_105 rfl ?_
  replace hf := mx_sv_el hf; obtain ⟨v77, e_v77, hf⟩ := hf
  refine sx_get hm dX13_member_106 rs_RX13_396 (xgi_el e_v77) ?_
  clear e_v77
  replace hf := mx_sv_el hf; obtain ⟨h78, e_h78, hf⟩ := hf
  refine sx_bst hm dX13_member_109 e_h78 ?_
  clear e_h78
  refine mx_S.pu (pc2 := 111) (lv2 := [(3, .int v69), (0, .ref l0), (1, .int l1), (2, .int l2)]) (st2 := [.ref l0]) hm dX13_member_110 rfl ?_
  replace hf := mx_sv_el hf; obtain ⟨v79, e_v79, hf⟩ := hf
  refine sx_get hm dX13_member_111 rs_RX13_86 (xgr_el e_v79) ?_
  clear e_v79
  refine mx_S.pu (pc2 := 115) (lv2 := [(3, .int v69), (0, .ref l0), (1, .int l1), (2, .int l2)]) (st2 := [.int v69, .ref v79]) hm dX13_member_114 rfl ?_
  refine mx_S.pu (pc2 := 116) (lv2 := [(3, .int v69), (0, .ref l0), (1, .int l1), (2, .int l2)]) (st2 := [.ref l0, .int v69, .ref v79]) hm dX13_member_115 rfl ?_
  replace hf := mx_gd_el hf; obtain ⟨c80, hf⟩ := hf
  replace hf := mx_sv_el hf; obtain ⟨u81, e_u81, hf⟩ := hf
  refine sx_cv hm dX13_member_116 rs_RX13_403 mt_X13_name [] [.int v69, .ref v79] (b := l0) (ci := 13) rfl rfl rfl c80 (Nat.le_of_ble_eq_true rfl) (Nat.le_of_ble_eq_true rfl) (by omega) (by omega) (f_X13_name_ok X (by omega) (by omega) nn l0 h78 e_u81) ?_
  clear e_u81
  show mx_S X F L 402 119 [(3, .int v69), (0, .ref l0), (1, .int l1), (2, .int l2)] [.int u81.1, .int v69, .ref v79] u81.2 0 0 (none, r, 0, 0)
  replace hf := mx_sv_el hf; obtain ⟨h82, e_h82, hf⟩ := hf
  refine sx_ast hm dX13_member_119 e_h82 ?_
  clear e_h82
  refine mx_S.pu (pc2 := 121) (lv2 := [(3, .int v69), (0, .ref l0), (1, .int l1), (2, .int l2)]) (st2 := [.ref l0]) hm dX13_member_120 rfl ?_
  replace hf := mx_sv_el hf; obtain ⟨v83, e_v83, hf⟩ := hf
  refine sx_get hm dX13_member_121 rs_RX13_71 (xgr_el e_v83) ?_
  clear e_v83
  refine mx_S.pu (pc2 := 125) (lv2 := [(3, .int v69), (0, .ref l0), (1, .int l1), (2, .int l2)]) (st2 := [.int v69, .ref v83]) hm dX13_member_124 rfl ?_
  refine mx_S.pu (pc2 := 126) (lv2 := [(3, .int v69), (0, .ref l0), (1, .int l1), (2, .int l2)]) (st2 := [.ref l0, .int v69, .ref v83]) hm dX13_member_125 rfl ?_
  replace hf := mx_sv_el hf; obtain ⟨v84, e_v84, hf⟩ := hf
  refine sx_get hm dX13_member_126 rs_RX13_409 (xgi_el e_v84) ?_
  clear e_v84
  refine sx_ic (v := 1) hm dX13_member_129 (by decide) ?_
  replace hf := xl_el hf; obtain ⟨v85, e_v85, hf⟩ := hf
  refine mx_S.pu (pc2 := 131) (lv2 := [(3, .int v69), (0, .ref l0), (1, .int l1), (2, .int l2)]) (st2 := [.int v85, .int v69, .ref v83]) hm dX13_member_130 (by rw [← e_v85]; rfl) ?_
  clear e_v85
  replace hf := mx_sv_el hf; obtain ⟨h86, e_h86, hf⟩ := hf
  refine sx_ast hm dX13_member_131 e_h86 ?_
  clear e_h86
  refine mx_S.pu (pc2 := 133) (lv2 := [(3, .int v69), (0, .ref l0), (1, .int l1), (2, .int l2)]) (st2 := [.ref l0]) hm dX13_member_132 rfl ?_
  replace hf := mx_sv_el hf; obtain ⟨v87, e_v87, hf⟩ := hf
  refine sx_get hm dX13_member_133 rs_RX13_92 (xgr_el e_v87) ?_
  clear e_v87
  refine mx_S.pu (pc2 := 137) (lv2 := [(3, .int v69), (0, .ref l0), (1, .int l1), (2, .int l2)]) (st2 := [.int v69, .ref v87]) hm dX13_member_136 rfl ?_
  refine mx_S.pu (pc2 := 138) (lv2 := [(3, .int v69), (0, .ref l0), (1, .int l1), (2, .int l2)]) (st2 := [.ref l0, .int v69, .ref v87]) hm dX13_member_137 rfl ?_
  replace hf := mx_sv_el hf; obtain ⟨v88, e_v88, hf⟩ := hf
  refine sx_get hm dX13_member_138 rs_RX13_415 (xgi_el e_v88) ?_
  clear e_v88
  replace hf := mx_sv_el hf; obtain ⟨h89, e_h89, hf⟩ := hf
  refine sx_ast hm dX13_member_141 e_h89 ?_
  clear e_h89
  refine mx_S.pu (pc2 := 143) (lv2 := [(3, .int v69), (0, .ref l0), (1, .int l1), (2, .int l2)]) (st2 := [.ref l0]) hm dX13_member_142 rfl ?_
  replace hf := mx_sv_el hf; obtain ⟨v90, e_v90, hf⟩ := hf
  refine sx_get hm dX13_member_143 rs_RX13_95 (xgr_el e_v90) ?_
  clear e_v90
  refine mx_S.pu (pc2 := 147) (lv2 := [(3, .int v69), (0, .ref l0), (1, .int l1), (2, .int l2)]) (st2 := [.int v69, .ref v90]) hm dX13_member_146 rfl ?_
  refine sx_ic (v := 0) hm dX13_member_147 (by decide) ?_
  replace hf := mx_sv_el hf; obtain ⟨h91, e_h91, hf⟩ := hf
  refine sx_ast hm dX13_member_148 e_h91 ?_
  clear e_h91
  refine mx_S.pu (pc2 := 150) (lv2 := [(3, .int v69), (0, .ref l0), (1, .int l1), (2, .int l2)]) (st2 := [.ref l0]) hm dX13_member_149 rfl ?_
  replace hf := mx_sv_el hf; obtain ⟨v92, e_v92, hf⟩ := hf
  refine sx_get hm dX13_member_150 rs_RX13_98 (xgr_el e_v92) ?_
  clear e_v92
  refine mx_S.pu (pc2 := 154) (lv2 := [(3, .int v69), (0, .ref l0), (1, .int l1), (2, .int l2)]) (st2 := [.int v69, .ref v92]) hm dX13_member_153 rfl ?_
  refine sx_ic (v := (-1)) hm dX13_member_154 (by decide) ?_
  replace hf := mx_sv_el hf; obtain ⟨h93, e_h93, hf⟩ := hf
  refine sx_ast hm dX13_member_155 e_h93 ?_
  clear e_h93
  refine mx_S.pu (pc2 := 157) (lv2 := [(3, .int v69), (0, .ref l0), (1, .int l1), (2, .int l2)]) (st2 := [.ref l0]) hm dX13_member_156 rfl ?_
  replace hf := mx_sv_el hf; obtain ⟨v94, e_v94, hf⟩ := hf
  refine sx_get hm dX13_member_157 rs_RX13_74 (xgr_el e_v94) ?_
  clear e_v94
  refine mx_S.pu (pc2 := 161) (lv2 := [(3, .int v69), (0, .ref l0), (1, .int l1), (2, .int l2)]) (st2 := [.int v69, .ref v94]) hm dX13_member_160 rfl ?_
  refine mx_S.pu (pc2 := 162) (lv2 := [(3, .int v69), (0, .ref l0), (1, .int l1), (2, .int l2)]) (st2 := [.int l1, .int v69, .ref v94]) hm dX13_member_161 rfl ?_
  rcases mx_if_el hf with ⟨c95, hf⟩ | ⟨c95, hf⟩
  · refine sb_if_eq hm dX13_member_162 (tgt := 169) rfl (fun _ => ?_) (fun z => absurd c95 z)
    refine sx_ic (v := 1) hm dX13_member_169 (by decide) ?_
    refine mx_S.ext [(0, .ref l0), (1, .int l1), (2, .int l2), (3, .int v69)] (mx_sub_pos [1, 2, 3, 0] rfl (show ([3, 0, 1, 2] : List Nat).Nodup by decide)) ?_
    exact j_X13_member_170_ok X hF hL nn l0 l1 l2 v69 1 v69 v94 h93 hf
  · refine sb_if_eq hm dX13_member_162 (tgt := 169) rfl (fun z => absurd z c95) (fun _ => ?_)
    refine sx_ic (v := 2) hm dX13_member_165 (by decide) ?_
    refine mx_S.pu (pc2 := 170) (lv2 := [(3, .int v69), (0, .ref l0), (1, .int l1), (2, .int l2)]) (st2 := [.int 2, .int v69, .ref v94]) hm dX13_member_166 rfl ?_
    refine mx_S.ext [(0, .ref l0), (1, .int l1), (2, .int l2), (3, .int v69)] (mx_sub_pos [1, 2, 3, 0] rfl (show ([3, 0, 1, 2] : List Nat).Nodup by decide)) ?_
    exact j_X13_member_170_ok X hF hL nn l0 l1 l2 v69 2 v69 v94 h93 hf
set_option maxHeartbeats 4000000 in
set_option maxRecDepth 20000 in
theorem j_X13_member_25_ok (X : Nat × (Nat → Int32)) {F L : Nat} (hF : 866 ≤ F) (hL : 23573 ≤ L) (nn : Nat) (l0 : Nat) (l1 : Int32) (h : mx_H) {r : mx_H} (hf : j_X13_member_25 nn l0 l1 h = some r) : mx_S X F L 402 25 [(0, .ref l0), (1, .int l1)] [] h 0 0 (none, r, 0, 0) := by
  have hm : mx_mt 402 = some (yX13_member, cX13_member, 5, none) := mt_X13_member
  unfold j_X13_member_25 at hf
  refine mx_S.pu (pc2 := 26) (lv2 := [(0, .ref l0), (1, .int l1)]) (st2 := [.ref l0]) hm dX13_member_25 rfl ?_
  refine mx_S.pu (pc2 := 27) (lv2 := [(0, .ref l0), (1, .int l1)]) (st2 := [.ref l0, .ref l0]) hm dX13_member_26 rfl ?_
  replace hf := mx_sv_el hf; obtain ⟨v96, e_v96, hf⟩ := hf
  refine sx_get hm dX13_member_27 rs_RX13_376 (xgi_el e_v96) ?_
  clear e_v96
  refine sx_bi (v := 20) hm dX13_member_30 (by decide) ?_
  replace hf := mx_gd_el hf; obtain ⟨c97, hf⟩ := hf
  replace hf := mx_sv_el hf; obtain ⟨u98, e_u98, hf⟩ := hf
  refine sx_cv hm dX13_member_32 rs_RX13_390 mt_X13_isWord [.int v96, .int 20] [] (b := l0) (ci := 13) rfl rfl rfl c97 (Nat.le_of_ble_eq_true rfl) (Nat.le_of_ble_eq_true rfl) (by omega) (by omega) (f_X13_isWord_ok X (by omega) (by omega) nn l0 v96 20 h e_u98) ?_
  clear e_u98
  show mx_S X F L 402 35 [(0, .ref l0), (1, .int l1)] [.int u98.1] u98.2 0 0 (none, r, 0, 0)
  refine mx_S.pu (pc2 := 36) (lv2 := [(2, .int u98.1), (0, .ref l0), (1, .int l1)]) (st2 := []) hm dX13_member_35 rfl ?_
  refine mx_S.pu (pc2 := 37) (lv2 := [(2, .int u98.1), (0, .ref l0), (1, .int l1)]) (st2 := [.int u98.1]) hm dX13_member_36 rfl ?_
  rcases mx_if_el hf with ⟨c108, hf⟩ | ⟨c108, hf⟩
  · refine sb_if_eq hm dX13_member_37 (tgt := 71) rfl (fun _ => ?_) (fun z => absurd c108 z)
    refine mx_S.pu (pc2 := 72) (lv2 := [(2, .int u98.1), (0, .ref l0), (1, .int l1)]) (st2 := [.ref l0]) hm dX13_member_71 rfl ?_
    replace hf := mx_gd_el hf; obtain ⟨c99, hf⟩ := hf
    replace hf := mx_sv_el hf; obtain ⟨u100, e_u100, hf⟩ := hf
    refine sx_cv hm dX13_member_72 rs_RX13_424 mt_X13_type [] [] (b := l0) (ci := 13) rfl rfl rfl c99 (Nat.le_of_ble_eq_true rfl) (Nat.le_of_ble_eq_true rfl) (by omega) (by omega) (f_X13_type_ok X (by omega) (by omega) nn l0 u98.2 e_u100) ?_
    clear e_u100
    show mx_S X F L 402 75 [(2, .int u98.1), (0, .ref l0), (1, .int l1)] [] u100 0 0 (none, r, 0, 0)
    refine mx_S.ext [(0, .ref l0), (1, .int l1), (2, .int u98.1)] (mx_sub_pos [1, 2, 0] rfl (show ([2, 0, 1] : List Nat).Nodup by decide)) ?_
    exact j_X13_member_75_ok X hF hL nn l0 l1 u98.1 u100 hf
  · refine sb_if_eq hm dX13_member_37 (tgt := 71) rfl (fun z => absurd z c108) (fun _ => ?_)
    refine mx_S.pu (pc2 := 41) (lv2 := [(2, .int u98.1), (0, .ref l0), (1, .int l1)]) (st2 := [.ref l0]) hm dX13_member_40 rfl ?_
    refine sx_ic (v := 2) hm dX13_member_41 (by decide) ?_
    replace hf := mx_sv_el hf; obtain ⟨h101, e_h101, hf⟩ := hf
    refine sx_put hm dX13_member_42 rs_RX13_400 ft_13_45 ⟨rfl, rfl⟩ (fun z => by cases z) e_h101 ?_
    clear e_h101
    refine mx_S.pu (pc2 := 46) (lv2 := [(2, .int u98.1), (0, .ref l0), (1, .int l1)]) (st2 := [.ref l0]) hm dX13_member_45 rfl ?_
    refine sx_ic (v := 0) hm dX13_member_46 (by decide) ?_
    replace hf := mx_sv_el hf; obtain ⟨h102, e_h102, hf⟩ := hf
    refine sx_put hm dX13_member_47 rs_RX13_396 ft_13_47 ⟨by decide, by decide⟩ (fun z => by cases z) e_h102 ?_
    clear e_h102
    refine mx_S.pu (pc2 := 51) (lv2 := [(2, .int u98.1), (0, .ref l0), (1, .int l1)]) (st2 := [.ref l0]) hm dX13_member_50 rfl ?_
    refine mx_S.pu (pc2 := 52) (lv2 := [(2, .int u98.1), (0, .ref l0), (1, .int l1)]) (st2 := [.ref l0, .ref l0]) hm dX13_member_51 rfl ?_
    replace hf := mx_sv_el hf; obtain ⟨v103, e_v103, hf⟩ := hf
    refine sx_get hm dX13_member_52 rs_RX13_376 (xgi_el e_v103) ?_
    clear e_v103
    replace hf := mx_sv_el hf; obtain ⟨h104, e_h104, hf⟩ := hf
    refine sx_put hm dX13_member_55 rs_RX13_393 ft_13_46 ⟨rfl, rfl⟩ (fun z => by cases z) e_h104 ?_
    clear e_h104
    refine mx_S.pu (pc2 := 59) (lv2 := [(2, .int u98.1), (0, .ref l0), (1, .int l1)]) (st2 := [.ref l0]) hm dX13_member_58 rfl ?_
    refine mx_S.pu (pc2 := 60) (lv2 := [(2, .int u98.1), (0, .ref l0), (1, .int l1)]) (st2 := [.ref l0, .ref l0]) hm dX13_member_59 rfl ?_
    replace hf := mx_sv_el hf; obtain ⟨v105, e_v105, hf⟩ := hf
    refine sx_get hm dX13_member_60 rs_RX13_376 (xgi_el e_v105) ?_
    clear e_v105
    refine sx_ic (v := 1) hm dX13_member_63 (by decide) ?_
    replace hf := xl_el hf; obtain ⟨v106, e_v106, hf⟩ := hf
    refine mx_S.pu (pc2 := 65) (lv2 := [(2, .int u98.1), (0, .ref l0), (1, .int l1)]) (st2 := [.int v106, .ref l0]) hm dX13_member_64 (by rw [← e_v106]; rfl) ?_
    clear e_v106
    replace hf := mx_sv_el hf; obtain ⟨h107, e_h107, hf⟩ := hf
    refine sx_put hm dX13_member_65 rs_RX13_376 ft_13_23 ⟨rfl, rfl⟩ (fun z => by cases z) e_h107 ?_
    clear e_h107
    refine mx_S.pu (pc2 := 75) (lv2 := [(2, .int u98.1), (0, .ref l0), (1, .int l1)]) (st2 := []) hm dX13_member_68 rfl ?_
    refine mx_S.ext [(0, .ref l0), (1, .int l1), (2, .int u98.1)] (mx_sub_pos [1, 2, 0] rfl (show ([2, 0, 1] : List Nat).Nodup by decide)) ?_
    exact j_X13_member_75_ok X hF hL nn l0 l1 u98.1 h107 hf
set_option maxHeartbeats 4000000 in
set_option maxRecDepth 20000 in
theorem f_X13_member_ok (X : Nat × (Nat → Int32)) {F L : Nat} (hF : 866 ≤ F) (hL : 23573 ≤ L) (nn : Nat) (a0 : Nat) (h : mx_H) {r : mx_H} (hf : f_X13_member nn a0 h = some r) : mx_R X F L 402 [.ref a0] h (none, r, 0, 0) := by
  have hm : mx_mt 402 = some (yX13_member, cX13_member, 5, none) := mt_X13_member
  show mx_S X F L 402 0 [(0, .ref a0)] [] h 0 0 (none, r, 0, 0)
  unfold f_X13_member at hf
  refine mx_S.pu (pc2 := 1) (lv2 := [(0, .ref a0)]) (st2 := [.ref a0]) hm dX13_member_0 rfl ?_
  refine mx_S.pu (pc2 := 2) (lv2 := [(0, .ref a0)]) (st2 := [.ref a0, .ref a0]) hm dX13_member_1 rfl ?_
  replace hf := mx_sv_el hf; obtain ⟨v109, e_v109, hf⟩ := hf
  refine sx_get hm dX13_member_2 rs_RX13_376 (xgi_el e_v109) ?_
  clear e_v109
  refine sx_bi (v := 15) hm dX13_member_5 (by decide) ?_
  replace hf := mx_gd_el hf; obtain ⟨c110, hf⟩ := hf
  replace hf := mx_sv_el hf; obtain ⟨u111, e_u111, hf⟩ := hf
  refine sx_cv hm dX13_member_7 rs_RX13_390 mt_X13_isWord [.int v109, .int 15] [] (b := a0) (ci := 13) rfl rfl rfl c110 (Nat.le_of_ble_eq_true rfl) (Nat.le_of_ble_eq_true rfl) (by omega) (by omega) (f_X13_isWord_ok X (by omega) (by omega) nn a0 v109 15 h e_u111) ?_
  clear e_u111
  show mx_S X F L 402 10 [(0, .ref a0)] [.int u111.1] u111.2 0 0 (none, r, 0, 0)
  refine mx_S.pu (pc2 := 11) (lv2 := [(1, .int u111.1), (0, .ref a0)]) (st2 := []) hm dX13_member_10 rfl ?_
  refine mx_S.pu (pc2 := 12) (lv2 := [(1, .int u111.1), (0, .ref a0)]) (st2 := [.int u111.1]) hm dX13_member_11 rfl ?_
  rcases mx_if_el hf with ⟨c115, hf⟩ | ⟨c115, hf⟩
  · refine sb_if_eq hm dX13_member_12 (tgt := 25) rfl (fun _ => ?_) (fun z => absurd c115 z)
    refine mx_S.ext [(0, .ref a0), (1, .int u111.1)] (mx_sub_pos [1, 0] rfl (show ([1, 0] : List Nat).Nodup by decide)) ?_
    exact j_X13_member_25_ok X hF hL nn a0 u111.1 u111.2 hf
  · refine sb_if_eq hm dX13_member_12 (tgt := 25) rfl (fun z => absurd z c115) (fun _ => ?_)
    refine mx_S.pu (pc2 := 16) (lv2 := [(1, .int u111.1), (0, .ref a0)]) (st2 := [.ref a0]) hm dX13_member_15 rfl ?_
    refine mx_S.pu (pc2 := 17) (lv2 := [(1, .int u111.1), (0, .ref a0)]) (st2 := [.ref a0, .ref a0]) hm dX13_member_16 rfl ?_
    replace hf := mx_sv_el hf; obtain ⟨v112, e_v112, hf⟩ := hf
    refine sx_get hm dX13_member_17 rs_RX13_376 (xgi_el e_v112) ?_
    clear e_v112
    refine sx_ic (v := 1) hm dX13_member_20 (by decide) ?_
    replace hf := xl_el hf; obtain ⟨v113, e_v113, hf⟩ := hf
    refine mx_S.pu (pc2 := 22) (lv2 := [(1, .int u111.1), (0, .ref a0)]) (st2 := [.int v113, .ref a0]) hm dX13_member_21 (by rw [← e_v113]; rfl) ?_
    clear e_v113
    replace hf := mx_sv_el hf; obtain ⟨h114, e_h114, hf⟩ := hf
    refine sx_put hm dX13_member_22 rs_RX13_376 ft_13_23 ⟨rfl, rfl⟩ (fun z => by cases z) e_h114 ?_
    clear e_h114
    refine mx_S.ext [(0, .ref a0), (1, .int u111.1)] (mx_sub_pos [1, 0] rfl (show ([1, 0] : List Nat).Nodup by decide)) ?_
    exact j_X13_member_25_ok X hF hL nn a0 u111.1 h114 hf
set_option maxHeartbeats 4000000 in
set_option maxRecDepth 20000 in
theorem j_X13_program_143_ok (X : Nat × (Nat → Int32)) {F L : Nat} (hF : 867 ≤ F) (hL : 23597 ≤ L) (nn : Nat) {kk_25 : Nat → mx_H → Option mx_H} (hk_25 : ∀ (l0 : Nat) (h : mx_H) (r : mx_H), kk_25 l0 h = some r → mx_S X F L 401 25 [(0, .ref l0)] [] h 0 0 (none, r, 0, 0)) (l0 : Nat) (h : mx_H) {r : mx_H} (hf : j_X13_program_143 nn kk_25 l0 h = some r) : mx_S X F L 401 143 [(0, .ref l0)] [] h 0 0 (none, r, 0, 0) := by
  have hm : mx_mt 401 = some (yX13_program, cX13_program, 3, none) := mt_X13_program
  unfold j_X13_program_143 at hf
  refine mx_S.pu (pc2 := 144) (lv2 := [(0, .ref l0)]) (st2 := [.ref l0]) hm dX13_program_143 rfl ?_
  refine sx_bi (v := 125) hm dX13_program_144 (by decide) ?_
  replace hf := mx_gd_el hf; obtain ⟨c1, hf⟩ := hf
  replace hf := mx_sv_el hf; obtain ⟨u2, e_u2, hf⟩ := hf
  refine sx_cv hm dX13_program_146 rs_RX13_406 mt_X13_sign_ [.int 125] [] (b := l0) (ci := 13) rfl rfl rfl c1 (Nat.le_of_ble_eq_true rfl) (Nat.le_of_ble_eq_true rfl) (by omega) (by omega) (f_X13_sign__ok X (by omega) (by omega) nn l0 125 h e_u2) ?_
  clear e_u2
  show mx_S X F L 401 149 [(0, .ref l0)] [] u2 0 0 (none, r, 0, 0)
  refine mx_S.pu (pc2 := 150) (lv2 := [(0, .ref l0)]) (st2 := [.ref l0]) hm dX13_program_149 rfl ?_
  replace hf := mx_sv_el hf; obtain ⟨v3, e_v3, hf⟩ := hf
  refine sx_get hm dX13_program_150 rs_RX13_319 (xgi_el e_v3) ?_
  clear e_v3
  rcases mx_if_el hf with ⟨c8, hf⟩ | ⟨c8, hf⟩
  · refine sb_if_ne hm dX13_program_153 (tgt := 169) rfl (fun _ => ?_) (fun z => absurd c8 z)
    cases hf
    exact sx_ret hm dX13_program_169 rfl
  · refine sb_if_ne hm dX13_program_153 (tgt := 169) rfl (fun z => absurd z c8) (fun _ => ?_)
    refine mx_S.pu (pc2 := 157) (lv2 := [(0, .ref l0)]) (st2 := [.ref l0]) hm dX13_program_156 rfl ?_
    replace hf := mx_sv_el hf; obtain ⟨v4, e_v4, hf⟩ := hf
    refine sx_get hm dX13_program_157 rs_RX13_16 (xgr_el e_v4) ?_
    clear e_v4
    refine mx_S.pu (pc2 := 161) (lv2 := [(0, .ref l0)]) (st2 := [.ref l0, .ref v4]) hm dX13_program_160 rfl ?_
    replace hf := mx_sv_el hf; obtain ⟨v5, e_v5, hf⟩ := hf
    refine sx_get hm dX13_program_161 rs_RX13_376 (xgi_el e_v5) ?_
    clear e_v5
    replace hf := mx_sv_el hf; obtain ⟨v6, e_v6, hf⟩ := hf
    refine sx_ald hm dX13_program_164 e_v6 ?_
    clear e_v6
    refine sx_ic (v := 5) hm dX13_program_165 (by decide) ?_
    rcases mx_if_el hf with ⟨c7, hf⟩ | ⟨c7, hf⟩
    · refine sb_ic_ne hm dX13_program_166 (tgt := 25) rfl (fun _ => ?_) (fun z => absurd c7 z)
      exact hk_25 l0 u2 _ hf
    · refine sb_ic_ne hm dX13_program_166 (tgt := 25) rfl (fun z => absurd z c7) (fun _ => ?_)
      cases hf
      exact sx_ret hm dX13_program_169 rfl
set_option maxHeartbeats 4000000 in
set_option maxRecDepth 20000 in
theorem w_X13_program_116_ok (X : Nat × (Nat → Int32)) {F L : Nat} (hF : 867 ≤ F) (hL : 23597 ≤ L) (nn : Nat) {kk_25 : Nat → mx_H → Option mx_H} (hk_25 : ∀ (l0 : Nat) (h : mx_H) (r : mx_H), kk_25 l0 h = some r → mx_S X F L 401 25 [(0, .ref l0)] [] h 0 0 (none, r, 0, 0)) : ∀ (k : Nat) (l0 : Nat) (h : mx_H) (r : mx_H), w_X13_program_116 nn kk_25 k l0 h = some r → mx_S X F L 401 116 [(0, .ref l0)] [] h 0 0 (none, r, 0, 0) := by
  have hm : mx_mt 401 = some (yX13_program, cX13_program, 3, none) := mt_X13_program
  intro k
  induction k with
  | zero => intro l0 h r hf; cases hf
  | succ k ih =>
    intro l0 h r hf
    unfold w_X13_program_116 at hf
    refine mx_S.pu (pc2 := 117) (lv2 := [(0, .ref l0)]) (st2 := [.ref l0]) hm dX13_program_116 rfl ?_
    replace hf := mx_sv_el hf; obtain ⟨v9, e_v9, hf⟩ := hf
    refine sx_get hm dX13_program_117 rs_RX13_319 (xgi_el e_v9) ?_
    clear e_v9
    rcases mx_if_el hf with ⟨c16, hf⟩ | ⟨c16, hf⟩
    · refine sb_if_ne hm dX13_program_120 (tgt := 143) rfl (fun _ => ?_) (fun z => absurd c16 z)
      exact j_X13_program_143_ok X hF hL nn hk_25 l0 h hf
    · refine sb_if_ne hm dX13_program_120 (tgt := 143) rfl (fun z => absurd z c16) (fun _ => ?_)
      refine mx_S.pu (pc2 := 124) (lv2 := [(0, .ref l0)]) (st2 := [.ref l0]) hm dX13_program_123 rfl ?_
      refine mx_S.pu (pc2 := 125) (lv2 := [(0, .ref l0)]) (st2 := [.ref l0, .ref l0]) hm dX13_program_124 rfl ?_
      replace hf := mx_sv_el hf; obtain ⟨v10, e_v10, hf⟩ := hf
      refine sx_get hm dX13_program_125 rs_RX13_376 (xgi_el e_v10) ?_
      clear e_v10
      refine sx_bi (v := 125) hm dX13_program_128 (by decide) ?_
      replace hf := mx_gd_el hf; obtain ⟨c11, hf⟩ := hf
      replace hf := mx_sv_el hf; obtain ⟨u12, e_u12, hf⟩ := hf
      refine sx_cv hm dX13_program_130 rs_RX13_383 mt_X13_isSign [.int v10, .int 125] [] (b := l0) (ci := 13) rfl rfl rfl c11 (Nat.le_of_ble_eq_true rfl) (Nat.le_of_ble_eq_true rfl) (by omega) (by omega) (f_X13_isSign_ok X (by omega) (by omega) nn l0 v10 125 h e_u12) ?_
      clear e_u12
      show mx_S X F L 401 133 [(0, .ref l0)] [.int u12.1] u12.2 0 0 (none, r, 0, 0)
      rcases mx_if_el hf with ⟨c15, hf⟩ | ⟨c15, hf⟩
      · refine sb_if_ne hm dX13_program_133 (tgt := 143) rfl (fun _ => ?_) (fun z => absurd c15 z)
        exact j_X13_program_143_ok X hF hL nn hk_25 l0 u12.2 hf
      · refine sb_if_ne hm dX13_program_133 (tgt := 143) rfl (fun z => absurd z c15) (fun _ => ?_)
        refine mx_S.pu (pc2 := 137) (lv2 := [(0, .ref l0)]) (st2 := [.ref l0]) hm dX13_program_136 rfl ?_
        replace hf := mx_gd_el hf; obtain ⟨c13, hf⟩ := hf
        replace hf := mx_sv_el hf; obtain ⟨u14, e_u14, hf⟩ := hf
        refine sx_cv hm dX13_program_137 rs_RX13_421 mt_X13_member [] [] (b := l0) (ci := 13) rfl rfl rfl c13 (Nat.le_of_ble_eq_true rfl) (Nat.le_of_ble_eq_true rfl) (by omega) (by omega) (f_X13_member_ok X (by omega) (by omega) nn l0 u12.2 e_u14) ?_
        clear e_u14
        show mx_S X F L 401 140 [(0, .ref l0)] [] u14 0 0 (none, r, 0, 0)
        refine mx_S.pu (pc2 := 116) (lv2 := [(0, .ref l0)]) (st2 := []) hm dX13_program_140 rfl ?_
        exact ih l0 u14 _ hf
set_option maxHeartbeats 4000000 in
set_option maxRecDepth 20000 in
theorem j_X13_program_72_ok (X : Nat × (Nat → Int32)) {F L : Nat} (hF : 867 ≤ F) (hL : 23597 ≤ L) (nn : Nat) {kk_25 : Nat → mx_H → Option mx_H} (hk_25 : ∀ (l0 : Nat) (h : mx_H) (r : mx_H), kk_25 l0 h = some r → mx_S X F L 401 25 [(0, .ref l0)] [] h 0 0 (none, r, 0, 0)) (l0 : Nat) (l1 : Int32) (l2 : Int32) (h : mx_H) {r : mx_H} (hf : j_X13_program_72 nn kk_25 l0 l1 l2 h = some r) : mx_S X F L 401 72 [(0, .ref l0), (1, .int l1), (2, .int l2)] [] h 0 0 (none, r, 0, 0) := by
  have hm : mx_mt 401 = some (yX13_program, cX13_program, 3, none) := mt_X13_program
  unfold j_X13_program_72 at hf
  refine mx_S.pu (pc2 := 73) (lv2 := [(0, .ref l0), (1, .int l1), (2, .int l2)]) (st2 := [.ref l0]) hm dX13_program_72 rfl ?_
  replace hf := mx_sv_el hf; obtain ⟨v17, e_v17, hf⟩ := hf
  refine sx_get hm dX13_program_73 rs_RX13_319 (xgi_el e_v17) ?_
  clear e_v17
  rcases mx_if_el hf with ⟨c29, hf⟩ | ⟨c29, hf⟩
  · refine sb_if_eq hm dX13_program_76 (tgt := 80) rfl (fun _ => ?_) (fun z => absurd c29 z)
    refine mx_S.pu (pc2 := 81) (lv2 := [(0, .ref l0), (1, .int l1), (2, .int l2)]) (st2 := [.ref l0]) hm dX13_program_80 rfl ?_
    replace hf := mx_sv_el hf; obtain ⟨v18, e_v18, hf⟩ := hf
    refine sx_get hm dX13_program_81 rs_RX13_62 (xgr_el e_v18) ?_
    clear e_v18
    refine mx_S.pu (pc2 := 85) (lv2 := [(0, .ref l0), (1, .int l1), (2, .int l2)]) (st2 := [.ref l0, .ref v18]) hm dX13_program_84 rfl ?_
    replace hf := mx_sv_el hf; obtain ⟨v19, e_v19, hf⟩ := hf
    refine sx_get hm dX13_program_85 rs_RX13_409 (xgi_el e_v19) ?_
    clear e_v19
    refine mx_S.pu (pc2 := 89) (lv2 := [(0, .ref l0), (1, .int l1), (2, .int l2)]) (st2 := [.int l1, .int v19, .ref v18]) hm dX13_program_88 rfl ?_
    replace hf := mx_sv_el hf; obtain ⟨h20, e_h20, hf⟩ := hf
    refine sx_ast hm dX13_program_89 e_h20 ?_
    clear e_h20
    refine mx_S.pu (pc2 := 91) (lv2 := [(0, .ref l0), (1, .int l1), (2, .int l2)]) (st2 := [.ref l0]) hm dX13_program_90 rfl ?_
    replace hf := mx_sv_el hf; obtain ⟨v21, e_v21, hf⟩ := hf
    refine sx_get hm dX13_program_91 rs_RX13_65 (xgr_el e_v21) ?_
    clear e_v21
    refine mx_S.pu (pc2 := 95) (lv2 := [(0, .ref l0), (1, .int l1), (2, .int l2)]) (st2 := [.ref l0, .ref v21]) hm dX13_program_94 rfl ?_
    replace hf := mx_sv_el hf; obtain ⟨v22, e_v22, hf⟩ := hf
    refine sx_get hm dX13_program_95 rs_RX13_409 (xgi_el e_v22) ?_
    clear e_v22
    refine mx_S.pu (pc2 := 99) (lv2 := [(0, .ref l0), (1, .int l1), (2, .int l2)]) (st2 := [.int l2, .int v22, .ref v21]) hm dX13_program_98 rfl ?_
    replace hf := mx_sv_el hf; obtain ⟨h23, e_h23, hf⟩ := hf
    refine sx_ast hm dX13_program_99 e_h23 ?_
    clear e_h23
    refine mx_S.pu (pc2 := 101) (lv2 := [(0, .ref l0), (1, .int l1), (2, .int l2)]) (st2 := [.ref l0]) hm dX13_program_100 rfl ?_
    refine mx_S.pu (pc2 := 102) (lv2 := [(0, .ref l0), (1, .int l1), (2, .int l2)]) (st2 := [.ref l0, .ref l0]) hm dX13_program_101 rfl ?_
    replace hf := mx_sv_el hf; obtain ⟨v24, e_v24, hf⟩ := hf
    refine sx_get hm dX13_program_102 rs_RX13_409 (xgi_el e_v24) ?_
    clear e_v24
    refine sx_ic (v := 1) hm dX13_program_105 (by decide) ?_
    replace hf := xl_el hf; obtain ⟨v25, e_v25, hf⟩ := hf
    refine mx_S.pu (pc2 := 107) (lv2 := [(0, .ref l0), (1, .int l1), (2, .int l2)]) (st2 := [.int v25, .ref l0]) hm dX13_program_106 (by rw [← e_v25]; rfl) ?_
    clear e_v25
    replace hf := mx_sv_el hf; obtain ⟨h26, e_h26, hf⟩ := hf
    refine sx_put hm dX13_program_107 rs_RX13_409 ft_13_24 ⟨rfl, rfl⟩ (fun z => by cases z) e_h26 ?_
    clear e_h26
    refine mx_S.pu (pc2 := 111) (lv2 := [(0, .ref l0), (1, .int l1), (2, .int l2)]) (st2 := [.ref l0]) hm dX13_program_110 rfl ?_
    refine sx_bi (v := 123) hm dX13_program_111 (by decide) ?_
    replace hf := mx_gd_el hf; obtain ⟨c27, hf⟩ := hf
    replace hf := mx_sv_el hf; obtain ⟨u28, e_u28, hf⟩ := hf
    refine sx_cv hm dX13_program_113 rs_RX13_406 mt_X13_sign_ [.int 123] [] (b := l0) (ci := 13) rfl rfl rfl c27 (Nat.le_of_ble_eq_true rfl) (Nat.le_of_ble_eq_true rfl) (by omega) (by omega) (f_X13_sign__ok X (by omega) (by omega) nn l0 123 h26 e_u28) ?_
    clear e_u28
    show mx_S X F L 401 116 [(0, .ref l0), (1, .int l1), (2, .int l2)] [] u28 0 0 (none, r, 0, 0)
    refine mx_S.ext [(0, .ref l0)] (mx_sub_pos [0] rfl (show ([0, 1, 2] : List Nat).Nodup by decide)) ?_
    exact w_X13_program_116_ok X hF hL nn hk_25 nn l0 u28 _ hf
  · refine sb_if_eq hm dX13_program_76 (tgt := 80) rfl (fun z => absurd z c29) (fun _ => ?_)
    cases hf
    exact sx_ret hm dX13_program_79 rfl
set_option maxHeartbeats 4000000 in
set_option maxRecDepth 20000 in
theorem w_X13_program_25_ok (X : Nat × (Nat → Int32)) {F L : Nat} (hF : 867 ≤ F) (hL : 23597 ≤ L) (nn : Nat) : ∀ (k : Nat) (l0 : Nat) (h : mx_H) (r : mx_H), w_X13_program_25 nn k l0 h = some r → mx_S X F L 401 25 [(0, .ref l0)] [] h 0 0 (none, r, 0, 0) := by
  have hm : mx_mt 401 = some (yX13_program, cX13_program, 3, none) := mt_X13_program
  intro k
  induction k with
  | zero => intro l0 h r hf; cases hf
  | succ k ih =>
    intro l0 h r hf
    unfold w_X13_program_25 at hf
    refine mx_S.pu (pc2 := 26) (lv2 := [(0, .ref l0)]) (st2 := [.ref l0]) hm dX13_program_25 rfl ?_
    refine sx_ic (v := 3) hm dX13_program_26 (by decide) ?_
    replace hf := mx_gd_el hf; obtain ⟨c30, hf⟩ := hf
    replace hf := mx_sv_el hf; obtain ⟨u31, e_u31, hf⟩ := hf
    refine sx_cv hm dX13_program_27 rs_RX13_418 mt_X13_word [.int 3] [] (b := l0) (ci := 13) rfl rfl rfl c30 (Nat.le_of_ble_eq_true rfl) (Nat.le_of_ble_eq_true rfl) (by omega) (by omega) (f_X13_word_ok X (by omega) (by omega) nn l0 3 h e_u31) ?_
    clear e_u31
    show mx_S X F L 401 30 [(0, .ref l0)] [] u31 0 0 (none, r, 0, 0)
    refine mx_S.pu (pc2 := 31) (lv2 := [(0, .ref l0)]) (st2 := [.ref l0]) hm dX13_program_30 rfl ?_
    replace hf := mx_gd_el hf; obtain ⟨c32, hf⟩ := hf
    replace hf := mx_sv_el hf; obtain ⟨u33, e_u33, hf⟩ := hf
    refine sx_cv hm dX13_program_31 rs_RX13_403 mt_X13_name [] [] (b := l0) (ci := 13) rfl rfl rfl c32 (Nat.le_of_ble_eq_true rfl) (Nat.le_of_ble_eq_true rfl) (by omega) (by omega) (f_X13_name_ok X (by omega) (by omega) nn l0 u31 e_u33) ?_
    clear e_u33
    show mx_S X F L 401 34 [(0, .ref l0)] [.int u33.1] u33.2 0 0 (none, r, 0, 0)
    refine mx_S.pu (pc2 := 35) (lv2 := [(1, .int u33.1), (0, .ref l0)]) (st2 := []) hm dX13_program_34 rfl ?_
    refine sx_ic (v := (-1)) hm dX13_program_35 (by decide) ?_
    refine mx_S.pu (pc2 := 37) (lv2 := [(2, .int (-1)), (1, .int u33.1), (0, .ref l0)]) (st2 := []) hm dX13_program_36 rfl ?_
    refine mx_S.pu (pc2 := 38) (lv2 := [(2, .int (-1)), (1, .int u33.1), (0, .ref l0)]) (st2 := [.ref l0]) hm dX13_program_37 rfl ?_
    replace hf := mx_sv_el hf; obtain ⟨v34, e_v34, hf⟩ := hf
    refine sx_get hm dX13_program_38 rs_RX13_319 (xgi_el e_v34) ?_
    clear e_v34
    rcases mx_if_el hf with ⟨c44, hf⟩ | ⟨c44, hf⟩
    · refine sb_if_ne hm dX13_program_41 (tgt := 72) rfl (fun _ => ?_) (fun z => absurd c44 z)
      refine mx_S.ext [(0, .ref l0), (1, .int u33.1), (2, .int (-1))] (mx_sub_pos [2, 1, 0] rfl (show ([2, 1, 0] : List Nat).Nodup by decide)) ?_
      exact j_X13_program_72_ok X hF hL nn ih l0 u33.1 (-1) u33.2 hf
    · refine sb_if_ne hm dX13_program_41 (tgt := 72) rfl (fun z => absurd z c44) (fun _ => ?_)
      refine mx_S.pu (pc2 := 45) (lv2 := [(2, .int (-1)), (1, .int u33.1), (0, .ref l0)]) (st2 := [.ref l0]) hm dX13_program_44 rfl ?_
      refine mx_S.pu (pc2 := 46) (lv2 := [(2, .int (-1)), (1, .int u33.1), (0, .ref l0)]) (st2 := [.ref l0, .ref l0]) hm dX13_program_45 rfl ?_
      replace hf := mx_sv_el hf; obtain ⟨v35, e_v35, hf⟩ := hf
      refine sx_get hm dX13_program_46 rs_RX13_376 (xgi_el e_v35) ?_
      clear e_v35
      refine sx_bi (v := 6) hm dX13_program_49 (by decide) ?_
      replace hf := mx_gd_el hf; obtain ⟨c36, hf⟩ := hf
      replace hf := mx_sv_el hf; obtain ⟨u37, e_u37, hf⟩ := hf
      refine sx_cv hm dX13_program_51 rs_RX13_390 mt_X13_isWord [.int v35, .int 6] [] (b := l0) (ci := 13) rfl rfl rfl c36 (Nat.le_of_ble_eq_true rfl) (Nat.le_of_ble_eq_true rfl) (by omega) (by omega) (f_X13_isWord_ok X (by omega) (by omega) nn l0 v35 6 u33.2 e_u37) ?_
      clear e_u37
      show mx_S X F L 401 54 [(2, .int (-1)), (1, .int u33.1), (0, .ref l0)] [.int u37.1] u37.2 0 0 (none, r, 0, 0)
      rcases mx_if_el hf with ⟨c43, hf⟩ | ⟨c43, hf⟩
      · refine sb_if_eq hm dX13_program_54 (tgt := 72) rfl (fun _ => ?_) (fun z => absurd c43 z)
        refine mx_S.ext [(0, .ref l0), (1, .int u33.1), (2, .int (-1))] (mx_sub_pos [2, 1, 0] rfl (show ([2, 1, 0] : List Nat).Nodup by decide)) ?_
        exact j_X13_program_72_ok X hF hL nn ih l0 u33.1 (-1) u37.2 hf
      · refine sb_if_eq hm dX13_program_54 (tgt := 72) rfl (fun z => absurd z c43) (fun _ => ?_)
        refine mx_S.pu (pc2 := 58) (lv2 := [(2, .int (-1)), (1, .int u33.1), (0, .ref l0)]) (st2 := [.ref l0]) hm dX13_program_57 rfl ?_
        refine mx_S.pu (pc2 := 59) (lv2 := [(2, .int (-1)), (1, .int u33.1), (0, .ref l0)]) (st2 := [.ref l0, .ref l0]) hm dX13_program_58 rfl ?_
        replace hf := mx_sv_el hf; obtain ⟨v38, e_v38, hf⟩ := hf
        refine sx_get hm dX13_program_59 rs_RX13_376 (xgi_el e_v38) ?_
        clear e_v38
        refine sx_ic (v := 1) hm dX13_program_62 (by decide) ?_
        replace hf := xl_el hf; obtain ⟨v39, e_v39, hf⟩ := hf
        refine mx_S.pu (pc2 := 64) (lv2 := [(2, .int (-1)), (1, .int u33.1), (0, .ref l0)]) (st2 := [.int v39, .ref l0]) hm dX13_program_63 (by rw [← e_v39]; rfl) ?_
        clear e_v39
        replace hf := mx_sv_el hf; obtain ⟨h40, e_h40, hf⟩ := hf
        refine sx_put hm dX13_program_64 rs_RX13_376 ft_13_23 ⟨rfl, rfl⟩ (fun z => by cases z) e_h40 ?_
        clear e_h40
        refine mx_S.pu (pc2 := 68) (lv2 := [(2, .int (-1)), (1, .int u33.1), (0, .ref l0)]) (st2 := [.ref l0]) hm dX13_program_67 rfl ?_
        replace hf := mx_gd_el hf; obtain ⟨c41, hf⟩ := hf
        replace hf := mx_sv_el hf; obtain ⟨u42, e_u42, hf⟩ := hf
        refine sx_cv hm dX13_program_68 rs_RX13_403 mt_X13_name [] [] (b := l0) (ci := 13) rfl rfl rfl c41 (Nat.le_of_ble_eq_true rfl) (Nat.le_of_ble_eq_true rfl) (by omega) (by omega) (f_X13_name_ok X (by omega) (by omega) nn l0 h40 e_u42) ?_
        clear e_u42
        show mx_S X F L 401 71 [(2, .int (-1)), (1, .int u33.1), (0, .ref l0)] [.int u42.1] u42.2 0 0 (none, r, 0, 0)
        refine mx_S.pu (pc2 := 72) (lv2 := [(2, .int u42.1), (1, .int u33.1), (0, .ref l0)]) (st2 := []) hm dX13_program_71 rfl ?_
        refine mx_S.ext [(0, .ref l0), (1, .int u33.1), (2, .int u42.1)] (mx_sub_pos [2, 1, 0] rfl (show ([2, 1, 0] : List Nat).Nodup by decide)) ?_
        exact j_X13_program_72_ok X hF hL nn ih l0 u33.1 u42.1 u42.2 hf
set_option maxHeartbeats 4000000 in
set_option maxRecDepth 20000 in
theorem f_X13_program_ok (X : Nat × (Nat → Int32)) {F L : Nat} (hF : 867 ≤ F) (hL : 23597 ≤ L) (nn : Nat) (a0 : Nat) (h : mx_H) {r : mx_H} (hf : f_X13_program nn a0 h = some r) : mx_R X F L 401 [.ref a0] h (none, r, 0, 0) := by
  have hm : mx_mt 401 = some (yX13_program, cX13_program, 3, none) := mt_X13_program
  show mx_S X F L 401 0 [(0, .ref a0)] [] h 0 0 (none, r, 0, 0)
  unfold f_X13_program at hf
  refine mx_S.pu (pc2 := 1) (lv2 := [(0, .ref a0)]) (st2 := [.ref a0]) hm dX13_program_0 rfl ?_
  refine sx_ic (v := 0) hm dX13_program_1 (by decide) ?_
  replace hf := mx_sv_el hf; obtain ⟨h45, e_h45, hf⟩ := hf
  refine sx_put hm dX13_program_2 rs_RX13_409 ft_13_24 ⟨rfl, rfl⟩ (fun z => by cases z) e_h45 ?_
  clear e_h45
  refine mx_S.pu (pc2 := 6) (lv2 := [(0, .ref a0)]) (st2 := [.ref a0]) hm dX13_program_5 rfl ?_
  refine sx_ic (v := 0) hm dX13_program_6 (by decide) ?_
  replace hf := mx_sv_el hf; obtain ⟨h46, e_h46, hf⟩ := hf
  refine sx_put hm dX13_program_7 rs_RX13_412 ft_13_28 ⟨rfl, rfl⟩ (fun z => by cases z) e_h46 ?_
  clear e_h46
  refine mx_S.pu (pc2 := 11) (lv2 := [(0, .ref a0)]) (st2 := [.ref a0]) hm dX13_program_10 rfl ?_
  refine sx_ic (v := 0) hm dX13_program_11 (by decide) ?_
  replace hf := mx_sv_el hf; obtain ⟨h47, e_h47, hf⟩ := hf
  refine sx_put hm dX13_program_12 rs_RX13_415 ft_13_39 ⟨rfl, rfl⟩ (fun z => by cases z) e_h47 ?_
  clear e_h47
  refine mx_S.pu (pc2 := 16) (lv2 := [(0, .ref a0)]) (st2 := [.ref a0]) hm dX13_program_15 rfl ?_
  refine sx_ic (v := 0) hm dX13_program_16 (by decide) ?_
  replace hf := mx_sv_el hf; obtain ⟨h48, e_h48, hf⟩ := hf
  refine sx_put hm dX13_program_17 rs_RX13_373 ft_13_22 ⟨rfl, rfl⟩ (fun z => by cases z) e_h48 ?_
  clear e_h48
  refine mx_S.pu (pc2 := 21) (lv2 := [(0, .ref a0)]) (st2 := [.ref a0]) hm dX13_program_20 rfl ?_
  refine sx_ic (v := 0) hm dX13_program_21 (by decide) ?_
  replace hf := mx_sv_el hf; obtain ⟨h49, e_h49, hf⟩ := hf
  refine sx_put hm dX13_program_22 rs_RX13_376 ft_13_23 ⟨rfl, rfl⟩ (fun z => by cases z) e_h49 ?_
  clear e_h49
  exact w_X13_program_25_ok X hF hL nn nn a0 h49 _ hf
set_option maxHeartbeats 4000000 in
set_option maxRecDepth 20000 in
theorem f_X13_at_ok (X : Nat × (Nat → Int32)) {F L : Nat} (hF : 0 ≤ F) (hL : 0 ≤ L) (nn : Nat) (a0 : Nat) (a1 : Int32) (h : mx_H) {r : (Int32 × mx_H)} (hf : f_X13_at nn a0 a1 h = some r) : mx_R X F L 386 [.ref a0, .int a1] h (some (.int r.1), r.2, 0, 0) := by
  have hm : mx_mt 386 = some (yX13_at, cX13_at, 2, (some .int)) := mt_X13_at
  show mx_S X F L 386 0 [(0, .ref a0), (1, .int a1)] [] h 0 0 (some (.int r.1), r.2, 0, 0)
  unfold f_X13_at at hf
  refine mx_S.pu (pc2 := 1) (lv2 := [(0, .ref a0), (1, .int a1)]) (st2 := [.int a1]) hm dX13_at_0 rfl ?_
  refine mx_S.pu (pc2 := 2) (lv2 := [(0, .ref a0), (1, .int a1)]) (st2 := [.ref a0, .int a1]) hm dX13_at_1 rfl ?_
  replace hf := mx_sv_el hf; obtain ⟨v1, e_v1, hf⟩ := hf
  refine sx_get hm dX13_at_2 rs_RX13_325 (xgi_el e_v1) ?_
  clear e_v1
  rcases mx_if_el hf with ⟨c4, hf⟩ | ⟨c4, hf⟩
  · refine sb_ic_ge hm dX13_at_5 (tgt := 17) rfl (fun _ => ?_) (fun z => absurd c4 z)
    refine sx_ic (v := 0) hm dX13_at_17 (by decide) ?_
    cases hf
    exact sx_ire hm dX13_at_18 rfl rfl
  · refine sb_ic_ge hm dX13_at_5 (tgt := 17) rfl (fun z => absurd z c4) (fun _ => ?_)
    refine mx_S.pu (pc2 := 9) (lv2 := [(0, .ref a0), (1, .int a1)]) (st2 := [.ref a0]) hm dX13_at_8 rfl ?_
    replace hf := mx_sv_el hf; obtain ⟨v2, e_v2, hf⟩ := hf
    refine sx_get hm dX13_at_9 rs_RX13_13 (xgr_el e_v2) ?_
    clear e_v2
    refine mx_S.pu (pc2 := 13) (lv2 := [(0, .ref a0), (1, .int a1)]) (st2 := [.int a1, .ref v2]) hm dX13_at_12 rfl ?_
    replace hf := mx_sv_el hf; obtain ⟨v3, e_v3, hf⟩ := hf
    refine sx_ald hm dX13_at_13 e_v3 ?_
    clear e_v3
    refine mx_S.pu (pc2 := 18) (lv2 := [(0, .ref a0), (1, .int a1)]) (st2 := [.int v3]) hm dX13_at_14 rfl ?_
    cases hf
    exact sx_ire hm dX13_at_18 rfl rfl
set_option maxHeartbeats 4000000 in
set_option maxRecDepth 20000 in
theorem f_X13_isDigit_ok (X : Nat × (Nat → Int32)) {F L : Nat} (hF : 0 ≤ F) (hL : 0 ≤ L) (nn : Nat) (a0 : Int32) (h : mx_H) {r : (Int32 × mx_H)} (hf : f_X13_isDigit nn a0 h = some r) : mx_R X F L 385 [.int a0] h (some (.int r.1), r.2, 0, 0) := by
  have hm : mx_mt 385 = some (yX13_isDigit, cX13_isDigit, 1, (some .boolean)) := mt_X13_isDigit
  show mx_S X F L 385 0 [(0, .int a0)] [] h 0 0 (some (.int r.1), r.2, 0, 0)
  unfold f_X13_isDigit at hf
  refine mx_S.pu (pc2 := 1) (lv2 := [(0, .int a0)]) (st2 := [.int a0]) hm dX13_isDigit_0 rfl ?_
  refine sx_bi (v := 48) hm dX13_isDigit_1 (by decide) ?_
  rcases mx_if_el hf with ⟨c2, hf⟩ | ⟨c2, hf⟩
  · refine sb_ic_lt hm dX13_isDigit_3 (tgt := 16) rfl (fun _ => ?_) (fun z => absurd c2 z)
    refine sx_ic (v := 0) hm dX13_isDigit_16 (by decide) ?_
    cases hf
    exact sx_ire hm dX13_isDigit_17 rfl (by decide)
  · refine sb_ic_lt hm dX13_isDigit_3 (tgt := 16) rfl (fun z => absurd z c2) (fun _ => ?_)
    refine mx_S.pu (pc2 := 7) (lv2 := [(0, .int a0)]) (st2 := [.int a0]) hm dX13_isDigit_6 rfl ?_
    refine sx_bi (v := 57) hm dX13_isDigit_7 (by decide) ?_
    rcases mx_if_el hf with ⟨c1, hf⟩ | ⟨c1, hf⟩
    · refine sb_ic_gt hm dX13_isDigit_9 (tgt := 16) rfl (fun _ => ?_) (fun z => absurd c1 z)
      refine sx_ic (v := 0) hm dX13_isDigit_16 (by decide) ?_
      cases hf
      exact sx_ire hm dX13_isDigit_17 rfl (by decide)
    · refine sb_ic_gt hm dX13_isDigit_9 (tgt := 16) rfl (fun z => absurd z c1) (fun _ => ?_)
      refine sx_ic (v := 1) hm dX13_isDigit_12 (by decide) ?_
      refine mx_S.pu (pc2 := 17) (lv2 := [(0, .int a0)]) (st2 := [.int 1]) hm dX13_isDigit_13 rfl ?_
      cases hf
      exact sx_ire hm dX13_isDigit_17 rfl (by decide)
set_option maxHeartbeats 4000000 in
set_option maxRecDepth 20000 in
theorem j_X13_isLetter_12_ok (X : Nat × (Nat → Int32)) {F L : Nat} (hF : 0 ≤ F) (hL : 0 ≤ L) (nn : Nat) (l0 : Int32) (h : mx_H) {r : (Int32 × mx_H)} (hf : j_X13_isLetter_12 nn l0 h = some r) : mx_S X F L 384 12 [(0, .int l0)] [] h 0 0 (some (.int r.1), r.2, 0, 0) := by
  have hm : mx_mt 384 = some (yX13_isLetter, cX13_isLetter, 1, (some .boolean)) := mt_X13_isLetter
  unfold j_X13_isLetter_12 at hf
  refine mx_S.pu (pc2 := 13) (lv2 := [(0, .int l0)]) (st2 := [.int l0]) hm dX13_isLetter_12 rfl ?_
  refine sx_bi (v := 65) hm dX13_isLetter_13 (by decide) ?_
  rcases mx_if_el hf with ⟨c2, hf⟩ | ⟨c2, hf⟩
  · refine sb_ic_lt hm dX13_isLetter_15 (tgt := 28) rfl (fun _ => ?_) (fun z => absurd c2 z)
    refine sx_ic (v := 0) hm dX13_isLetter_28 (by decide) ?_
    cases hf
    exact sx_ire hm dX13_isLetter_29 rfl (by decide)
  · refine sb_ic_lt hm dX13_isLetter_15 (tgt := 28) rfl (fun z => absurd z c2) (fun _ => ?_)
    refine mx_S.pu (pc2 := 19) (lv2 := [(0, .int l0)]) (st2 := [.int l0]) hm dX13_isLetter_18 rfl ?_
    refine sx_bi (v := 90) hm dX13_isLetter_19 (by decide) ?_
    rcases mx_if_el hf with ⟨c1, hf⟩ | ⟨c1, hf⟩
    · refine sb_ic_gt hm dX13_isLetter_21 (tgt := 28) rfl (fun _ => ?_) (fun z => absurd c1 z)
      refine sx_ic (v := 0) hm dX13_isLetter_28 (by decide) ?_
      cases hf
      exact sx_ire hm dX13_isLetter_29 rfl (by decide)
    · refine sb_ic_gt hm dX13_isLetter_21 (tgt := 28) rfl (fun z => absurd z c1) (fun _ => ?_)
      refine sx_ic (v := 1) hm dX13_isLetter_24 (by decide) ?_
      refine mx_S.pu (pc2 := 29) (lv2 := [(0, .int l0)]) (st2 := [.int 1]) hm dX13_isLetter_25 rfl ?_
      cases hf
      exact sx_ire hm dX13_isLetter_29 rfl (by decide)
set_option maxHeartbeats 4000000 in
set_option maxRecDepth 20000 in
theorem f_X13_isLetter_ok (X : Nat × (Nat → Int32)) {F L : Nat} (hF : 0 ≤ F) (hL : 0 ≤ L) (nn : Nat) (a0 : Int32) (h : mx_H) {r : (Int32 × mx_H)} (hf : f_X13_isLetter nn a0 h = some r) : mx_R X F L 384 [.int a0] h (some (.int r.1), r.2, 0, 0) := by
  have hm : mx_mt 384 = some (yX13_isLetter, cX13_isLetter, 1, (some .boolean)) := mt_X13_isLetter
  show mx_S X F L 384 0 [(0, .int a0)] [] h 0 0 (some (.int r.1), r.2, 0, 0)
  unfold f_X13_isLetter at hf
  refine mx_S.pu (pc2 := 1) (lv2 := [(0, .int a0)]) (st2 := [.int a0]) hm dX13_isLetter_0 rfl ?_
  refine sx_bi (v := 97) hm dX13_isLetter_1 (by decide) ?_
  rcases mx_if_el hf with ⟨c4, hf⟩ | ⟨c4, hf⟩
  · refine sb_ic_lt hm dX13_isLetter_3 (tgt := 12) rfl (fun _ => ?_) (fun z => absurd c4 z)
    exact j_X13_isLetter_12_ok X hF hL nn a0 h hf
  · refine sb_ic_lt hm dX13_isLetter_3 (tgt := 12) rfl (fun z => absurd z c4) (fun _ => ?_)
    refine mx_S.pu (pc2 := 7) (lv2 := [(0, .int a0)]) (st2 := [.int a0]) hm dX13_isLetter_6 rfl ?_
    refine sx_bi (v := 122) hm dX13_isLetter_7 (by decide) ?_
    rcases mx_if_el hf with ⟨c3, hf⟩ | ⟨c3, hf⟩
    · refine sb_ic_le hm dX13_isLetter_9 (tgt := 24) rfl (fun _ => ?_) (fun z => absurd c3 z)
      refine sx_ic (v := 1) hm dX13_isLetter_24 (by decide) ?_
      refine mx_S.pu (pc2 := 29) (lv2 := [(0, .int a0)]) (st2 := [.int 1]) hm dX13_isLetter_25 rfl ?_
      cases hf
      exact sx_ire hm dX13_isLetter_29 rfl (by decide)
    · refine sb_ic_le hm dX13_isLetter_9 (tgt := 24) rfl (fun z => absurd z c3) (fun _ => ?_)
      exact j_X13_isLetter_12_ok X hF hL nn a0 h hf
set_option maxHeartbeats 4000000 in
set_option maxRecDepth 20000 in
theorem j_X13_signAt_485_ok (X : Nat × (Nat → Int32)) {F L : Nat} (hF : 1 ≤ F) (hL : 21 ≤ L) (nn : Nat) (h : mx_H) {r : (Int32 × mx_H)} (hf : j_X13_signAt_485 nn h = some r) : mx_S X F L 389 485 [] [] h 0 0 (some (.int r.1), r.2, 0, 0) := by
  have hm : mx_mt 389 = some (yX13_signAt, cX13_signAt, 4, (some .int)) := mt_X13_signAt
  unfold j_X13_signAt_485 at hf
  refine sx_ic (v := 0) hm dX13_signAt_485 (by decide) ?_
  cases hf
  exact sx_ire hm dX13_signAt_486 rfl rfl
set_option maxHeartbeats 4000000 in
set_option maxRecDepth 20000 in
theorem j_X13_signAt_474_ok (X : Nat × (Nat → Int32)) {F L : Nat} (hF : 1 ≤ F) (hL : 21 ≤ L) (nn : Nat) (l2 : Int32) (l3 : Int32) (h : mx_H) {r : (Int32 × mx_H)} (hf : j_X13_signAt_474 nn l2 l3 h = some r) : mx_S X F L 389 474 [(2, .int l2), (3, .int l3)] [] h 0 0 (some (.int r.1), r.2, 0, 0) := by
  have hm : mx_mt 389 = some (yX13_signAt, cX13_signAt, 4, (some .int)) := mt_X13_signAt
  unfold j_X13_signAt_474 at hf
  refine mx_S.pu (pc2 := 475) (lv2 := [(2, .int l2), (3, .int l3)]) (st2 := [.int l3]) hm dX13_signAt_474 rfl ?_
  refine mx_S.pu (pc2 := 476) (lv2 := [(2, .int l2), (3, .int l3)]) (st2 := [.int l2, .int l3]) hm dX13_signAt_475 rfl ?_
  rcases mx_if_el hf with ⟨c1, hf⟩ | ⟨c1, hf⟩
  · refine sb_ic_ne hm dX13_signAt_476 (tgt := 483) rfl (fun _ => ?_) (fun z => absurd c1 z)
    refine sx_ic (v := 1) hm dX13_signAt_483 (by decide) ?_
    cases hf
    exact sx_ire hm dX13_signAt_484 rfl rfl
  · refine sb_ic_ne hm dX13_signAt_476 (tgt := 483) rfl (fun z => absurd z c1) (fun _ => ?_)
    refine sx_ic (v := 2) hm dX13_signAt_479 (by decide) ?_
    refine mx_S.pu (pc2 := 484) (lv2 := [(2, .int l2), (3, .int l3)]) (st2 := [.int 2]) hm dX13_signAt_480 rfl ?_
    cases hf
    exact sx_ire hm dX13_signAt_484 rfl rfl
set_option maxHeartbeats 4000000 in
set_option maxRecDepth 20000 in
theorem j_X13_signAt_406_ok (X : Nat × (Nat → Int32)) {F L : Nat} (hF : 1 ≤ F) (hL : 21 ≤ L) (nn : Nat) (l3 : Int32) (h : mx_H) {r : (Int32 × mx_H)} (hf : j_X13_signAt_406 nn l3 h = some r) : mx_S X F L 389 406 [(3, .int l3)] [] h 0 0 (some (.int r.1), r.2, 0, 0) := by
  have hm : mx_mt 389 = some (yX13_signAt, cX13_signAt, 4, (some .int)) := mt_X13_signAt
  unfold j_X13_signAt_406 at hf
  refine mx_S.pu (pc2 := 407) (lv2 := [(3, .int l3)]) (st2 := [.int l3]) hm dX13_signAt_406 rfl ?_
  refine sx_bi (v := 61) hm dX13_signAt_407 (by decide) ?_
  rcases mx_if_el hf with ⟨c2, hf⟩ | ⟨c2, hf⟩
  · refine sb_ic_ne hm dX13_signAt_409 (tgt := 416) rfl (fun _ => ?_) (fun z => absurd c2 z)
    refine sx_ic (v := 1) hm dX13_signAt_416 (by decide) ?_
    cases hf
    exact sx_ire hm dX13_signAt_417 rfl rfl
  · refine sb_ic_ne hm dX13_signAt_409 (tgt := 416) rfl (fun z => absurd z c2) (fun _ => ?_)
    refine sx_ic (v := 2) hm dX13_signAt_412 (by decide) ?_
    refine mx_S.pu (pc2 := 417) (lv2 := [(3, .int l3)]) (st2 := [.int 2]) hm dX13_signAt_413 rfl ?_
    cases hf
    exact sx_ire hm dX13_signAt_417 rfl rfl
set_option maxHeartbeats 4000000 in
set_option maxRecDepth 20000 in
theorem j_X13_signAt_404_ok (X : Nat × (Nat → Int32)) {F L : Nat} (hF : 1 ≤ F) (hL : 21 ≤ L) (nn : Nat) (h : mx_H) {r : (Int32 × mx_H)} (hf : j_X13_signAt_404 nn h = some r) : mx_S X F L 389 404 [] [] h 0 0 (some (.int r.1), r.2, 0, 0) := by
  have hm : mx_mt 389 = some (yX13_signAt, cX13_signAt, 4, (some .int)) := mt_X13_signAt
  unfold j_X13_signAt_404 at hf
  refine sx_ic (v := 1) hm dX13_signAt_404 (by decide) ?_
  cases hf
  exact sx_ire hm dX13_signAt_405 rfl rfl
set_option maxHeartbeats 4000000 in
set_option maxRecDepth 20000 in
theorem f_X13_signAt_ok (X : Nat × (Nat → Int32)) {F L : Nat} (hF : 1 ≤ F) (hL : 21 ≤ L) (nn : Nat) (a0 : Nat) (a1 : Int32) (h : mx_H) {r : (Int32 × mx_H)} (hf : f_X13_signAt nn a0 a1 h = some r) : mx_R X F L 389 [.ref a0, .int a1] h (some (.int r.1), r.2, 0, 0) := by
  have hm : mx_mt 389 = some (yX13_signAt, cX13_signAt, 4, (some .int)) := mt_X13_signAt
  show mx_S X F L 389 0 [(0, .ref a0), (1, .int a1)] [] h 0 0 (some (.int r.1), r.2, 0, 0)
  unfold f_X13_signAt at hf
  refine mx_S.pu (pc2 := 1) (lv2 := [(0, .ref a0), (1, .int a1)]) (st2 := [.ref a0]) hm dX13_signAt_0 rfl ?_
  refine mx_S.pu (pc2 := 2) (lv2 := [(0, .ref a0), (1, .int a1)]) (st2 := [.int a1, .ref a0]) hm dX13_signAt_1 rfl ?_
  replace hf := mx_gd_el hf; obtain ⟨c3, hf⟩ := hf
  replace hf := mx_sv_el hf; obtain ⟨u4, e_u4, hf⟩ := hf
  refine sx_cv hm dX13_signAt_2 rs_RX13_341 mt_X13_at [.int a1] [] (b := a0) (ci := 13) rfl rfl rfl c3 (Nat.le_of_ble_eq_true rfl) (Nat.le_of_ble_eq_true rfl) (by omega) (by omega) (f_X13_at_ok X (by omega) (by omega) nn a0 a1 h e_u4) ?_
  clear e_u4
  show mx_S X F L 389 5 [(0, .ref a0), (1, .int a1)] [.int u4.1] u4.2 0 0 (some (.int r.1), r.2, 0, 0)
  refine mx_S.pu (pc2 := 6) (lv2 := [(2, .int u4.1), (0, .ref a0), (1, .int a1)]) (st2 := []) hm dX13_signAt_5 rfl ?_
  refine mx_S.pu (pc2 := 7) (lv2 := [(2, .int u4.1), (0, .ref a0), (1, .int a1)]) (st2 := [.ref a0]) hm dX13_signAt_6 rfl ?_
  refine mx_S.pu (pc2 := 8) (lv2 := [(2, .int u4.1), (0, .ref a0), (1, .int a1)]) (st2 := [.int a1, .ref a0]) hm dX13_signAt_7 rfl ?_
  refine sx_ic (v := 1) hm dX13_signAt_8 (by decide) ?_
  replace hf := xl_el hf; obtain ⟨v5, e_v5, hf⟩ := hf
  refine mx_S.pu (pc2 := 10) (lv2 := [(2, .int u4.1), (0, .ref a0), (1, .int a1)]) (st2 := [.int v5, .ref a0]) hm dX13_signAt_9 (by rw [← e_v5]; rfl) ?_
  clear e_v5
  replace hf := mx_gd_el hf; obtain ⟨c6, hf⟩ := hf
  replace hf := mx_sv_el hf; obtain ⟨u7, e_u7, hf⟩ := hf
  refine sx_cv hm dX13_signAt_10 rs_RX13_341 mt_X13_at [.int v5] [] (b := a0) (ci := 13) rfl rfl rfl c6 (Nat.le_of_ble_eq_true rfl) (Nat.le_of_ble_eq_true rfl) (by omega) (by omega) (f_X13_at_ok X (by omega) (by omega) nn a0 v5 u4.2 e_u7) ?_
  clear e_u7
  show mx_S X F L 389 13 [(2, .int u4.1), (0, .ref a0), (1, .int a1)] [.int u7.1] u7.2 0 0 (some (.int r.1), r.2, 0, 0)
  refine mx_S.pu (pc2 := 14) (lv2 := [(3, .int u7.1), (2, .int u4.1), (0, .ref a0), (1, .int a1)]) (st2 := []) hm dX13_signAt_13 rfl ?_
  refine mx_S.pu (pc2 := 15) (lv2 := [(3, .int u7.1), (2, .int u4.1), (0, .ref a0), (1, .int a1)]) (st2 := [.int u4.1]) hm dX13_signAt_14 rfl ?_
  rcases mx_if_el hf with ⟨n_0, hf⟩ | ⟨n_0, hf⟩
  · refine sx_tin hm dX13_signAt_15 (by rw [n_0]; decide) (by rw [n_0]; decide) (off := 391) (by rw [n_0]; rfl) (tgt := 406) rfl ?_
    clear n_0
    refine mx_S.ext [(3, .int u7.1)] (mx_sub_pos [0] rfl (show ([3, 2, 0, 1] : List Nat).Nodup by decide)) ?_
    exact j_X13_signAt_406_ok X hF hL nn u7.1 u7.2 hf
  · rcases mx_if_el hf with ⟨n_1, hf⟩ | ⟨n_1, hf⟩
    · refine sx_tin hm dX13_signAt_15 (by rw [n_1]; decide) (by rw [n_1]; decide) (off := 389) (by rw [n_1]; rfl) (tgt := 404) rfl ?_
      clear n_0 n_1
      refine mx_S.ext [] (mx_sub_pos [] rfl (show ([3, 2, 0, 1] : List Nat).Nodup by decide)) ?_
      exact j_X13_signAt_404_ok X hF hL nn u7.2 hf
    · rcases mx_if_el hf with ⟨n_2, hf⟩ | ⟨n_2, hf⟩
      · refine sx_tin hm dX13_signAt_15 (by rw [n_2]; decide) (by rw [n_2]; decide) (off := 459) (by rw [n_2]; rfl) (tgt := 474) rfl ?_
        clear n_0 n_1 n_2
        refine mx_S.ext [(2, .int u4.1), (3, .int u7.1)] (mx_sub_pos [1, 0] rfl (show ([3, 2, 0, 1] : List Nat).Nodup by decide)) ?_
        exact j_X13_signAt_474_ok X hF hL nn u4.1 u7.1 u7.2 hf
      · rcases mx_if_el hf with ⟨n_3, hf⟩ | ⟨n_3, hf⟩
        · refine sx_tin hm dX13_signAt_15 (by rw [n_3]; decide) (by rw [n_3]; decide) (off := 389) (by rw [n_3]; rfl) (tgt := 404) rfl ?_
          clear n_0 n_1 n_2 n_3
          refine mx_S.ext [] (mx_sub_pos [] rfl (show ([3, 2, 0, 1] : List Nat).Nodup by decide)) ?_
          exact j_X13_signAt_404_ok X hF hL nn u7.2 hf
        · rcases mx_if_el hf with ⟨n_4, hf⟩ | ⟨n_4, hf⟩
          · refine sx_tin hm dX13_signAt_15 (by rw [n_4]; decide) (by rw [n_4]; decide) (off := 389) (by rw [n_4]; rfl) (tgt := 404) rfl ?_
            clear n_0 n_1 n_2 n_3 n_4
            refine mx_S.ext [] (mx_sub_pos [] rfl (show ([3, 2, 0, 1] : List Nat).Nodup by decide)) ?_
            exact j_X13_signAt_404_ok X hF hL nn u7.2 hf
          · rcases mx_if_el hf with ⟨n_5, hf⟩ | ⟨n_5, hf⟩
            · refine sx_tin hm dX13_signAt_15 (by rw [n_5]; decide) (by rw [n_5]; decide) (off := 389) (by rw [n_5]; rfl) (tgt := 404) rfl ?_
              clear n_0 n_1 n_2 n_3 n_4 n_5
              refine mx_S.ext [] (mx_sub_pos [] rfl (show ([3, 2, 0, 1] : List Nat).Nodup by decide)) ?_
              exact j_X13_signAt_404_ok X hF hL nn u7.2 hf
            · rcases mx_if_el hf with ⟨n_6, hf⟩ | ⟨n_6, hf⟩
              · refine sx_tin hm dX13_signAt_15 (by rw [n_6]; decide) (by rw [n_6]; decide) (off := 389) (by rw [n_6]; rfl) (tgt := 404) rfl ?_
                clear n_0 n_1 n_2 n_3 n_4 n_5 n_6
                refine mx_S.ext [] (mx_sub_pos [] rfl (show ([3, 2, 0, 1] : List Nat).Nodup by decide)) ?_
                exact j_X13_signAt_404_ok X hF hL nn u7.2 hf
              · rcases mx_if_el hf with ⟨n_7, hf⟩ | ⟨n_7, hf⟩
                · refine sx_tin hm dX13_signAt_15 (by rw [n_7]; decide) (by rw [n_7]; decide) (off := 389) (by rw [n_7]; rfl) (tgt := 404) rfl ?_
                  clear n_0 n_1 n_2 n_3 n_4 n_5 n_6 n_7
                  refine mx_S.ext [] (mx_sub_pos [] rfl (show ([3, 2, 0, 1] : List Nat).Nodup by decide)) ?_
                  exact j_X13_signAt_404_ok X hF hL nn u7.2 hf
                · rcases mx_if_el hf with ⟨n_8, hf⟩ | ⟨n_8, hf⟩
                  · refine sx_tin hm dX13_signAt_15 (by rw [n_8]; decide) (by rw [n_8]; decide) (off := 389) (by rw [n_8]; rfl) (tgt := 404) rfl ?_
                    clear n_0 n_1 n_2 n_3 n_4 n_5 n_6 n_7 n_8
                    refine mx_S.ext [] (mx_sub_pos [] rfl (show ([3, 2, 0, 1] : List Nat).Nodup by decide)) ?_
                    exact j_X13_signAt_404_ok X hF hL nn u7.2 hf
                  · rcases mx_if_el hf with ⟨n_9, hf⟩ | ⟨n_9, hf⟩
                    · refine sx_tin hm dX13_signAt_15 (by rw [n_9]; decide) (by rw [n_9]; decide) (off := 389) (by rw [n_9]; rfl) (tgt := 404) rfl ?_
                      clear n_0 n_1 n_2 n_3 n_4 n_5 n_6 n_7 n_8 n_9
                      refine mx_S.ext [] (mx_sub_pos [] rfl (show ([3, 2, 0, 1] : List Nat).Nodup by decide)) ?_
                      exact j_X13_signAt_404_ok X hF hL nn u7.2 hf
                    · rcases mx_if_el hf with ⟨n_10, hf⟩ | ⟨n_10, hf⟩
                      · refine sx_tin hm dX13_signAt_15 (by rw [n_10]; decide) (by rw [n_10]; decide) (off := 389) (by rw [n_10]; rfl) (tgt := 404) rfl ?_
                        clear n_0 n_1 n_2 n_3 n_4 n_5 n_6 n_7 n_8 n_9 n_10
                        refine mx_S.ext [] (mx_sub_pos [] rfl (show ([3, 2, 0, 1] : List Nat).Nodup by decide)) ?_
                        exact j_X13_signAt_404_ok X hF hL nn u7.2 hf
                      · rcases mx_if_el hf with ⟨n_11, hf⟩ | ⟨n_11, hf⟩
                        · refine sx_tin hm dX13_signAt_15 (by rw [n_11]; decide) (by rw [n_11]; decide) (off := 389) (by rw [n_11]; rfl) (tgt := 404) rfl ?_
                          clear n_0 n_1 n_2 n_3 n_4 n_5 n_6 n_7 n_8 n_9 n_10 n_11
                          refine mx_S.ext [] (mx_sub_pos [] rfl (show ([3, 2, 0, 1] : List Nat).Nodup by decide)) ?_
                          exact j_X13_signAt_404_ok X hF hL nn u7.2 hf
                        · rcases mx_if_el hf with ⟨n_12, hf⟩ | ⟨n_12, hf⟩
                          · refine sx_tin hm dX13_signAt_15 (by rw [n_12]; decide) (by rw [n_12]; decide) (off := 389) (by rw [n_12]; rfl) (tgt := 404) rfl ?_
                            clear n_0 n_1 n_2 n_3 n_4 n_5 n_6 n_7 n_8 n_9 n_10 n_11 n_12
                            refine mx_S.ext [] (mx_sub_pos [] rfl (show ([3, 2, 0, 1] : List Nat).Nodup by decide)) ?_
                            exact j_X13_signAt_404_ok X hF hL nn u7.2 hf
                          · rcases mx_if_el hf with ⟨n_13, hf⟩ | ⟨n_13, hf⟩
                            · refine sx_tin hm dX13_signAt_15 (by rw [n_13]; decide) (by rw [n_13]; decide) (off := 403) (by rw [n_13]; rfl) (tgt := 418) rfl ?_
                              clear n_0 n_1 n_2 n_3 n_4 n_5 n_6 n_7 n_8 n_9 n_10 n_11 n_12 n_13
                              refine mx_S.pu (pc2 := 419) (lv2 := [(3, .int u7.1), (2, .int u4.1), (0, .ref a0), (1, .int a1)]) (st2 := [.int u7.1]) hm dX13_signAt_418 rfl ?_
                              refine sx_bi (v := 61) hm dX13_signAt_419 (by decide) ?_
                              rcases mx_if_el hf with ⟨c9, hf⟩ | ⟨c9, hf⟩
                              · refine sb_ic_eq hm dX13_signAt_421 (tgt := 430) rfl (fun _ => ?_) (fun z => absurd c9 z)
                                refine sx_ic (v := 2) hm dX13_signAt_430 (by decide) ?_
                                refine mx_S.pu (pc2 := 435) (lv2 := [(3, .int u7.1), (2, .int u4.1), (0, .ref a0), (1, .int a1)]) (st2 := [.int 2]) hm dX13_signAt_431 rfl ?_
                                cases hf
                                exact sx_ire hm dX13_signAt_435 rfl rfl
                              · refine sb_ic_eq hm dX13_signAt_421 (tgt := 430) rfl (fun z => absurd z c9) (fun _ => ?_)
                                refine mx_S.pu (pc2 := 425) (lv2 := [(3, .int u7.1), (2, .int u4.1), (0, .ref a0), (1, .int a1)]) (st2 := [.int u7.1]) hm dX13_signAt_424 rfl ?_
                                refine sx_bi (v := 60) hm dX13_signAt_425 (by decide) ?_
                                rcases mx_if_el hf with ⟨c8, hf⟩ | ⟨c8, hf⟩
                                · refine sb_ic_ne hm dX13_signAt_427 (tgt := 434) rfl (fun _ => ?_) (fun z => absurd c8 z)
                                  refine sx_ic (v := 1) hm dX13_signAt_434 (by decide) ?_
                                  cases hf
                                  exact sx_ire hm dX13_signAt_435 rfl rfl
                                · refine sb_ic_ne hm dX13_signAt_427 (tgt := 434) rfl (fun z => absurd z c8) (fun _ => ?_)
                                  refine sx_ic (v := 2) hm dX13_signAt_430 (by decide) ?_
                                  refine mx_S.pu (pc2 := 435) (lv2 := [(3, .int u7.1), (2, .int u4.1), (0, .ref a0), (1, .int a1)]) (st2 := [.int 2]) hm dX13_signAt_431 rfl ?_
                                  cases hf
                                  exact sx_ire hm dX13_signAt_435 rfl rfl
                            · rcases mx_if_el hf with ⟨n_14, hf⟩ | ⟨n_14, hf⟩
                              · refine sx_tin hm dX13_signAt_15 (by rw [n_14]; decide) (by rw [n_14]; decide) (off := 391) (by rw [n_14]; rfl) (tgt := 406) rfl ?_
                                clear n_0 n_1 n_2 n_3 n_4 n_5 n_6 n_7 n_8 n_9 n_10 n_11 n_12 n_13 n_14
                                refine mx_S.ext [(3, .int u7.1)] (mx_sub_pos [0] rfl (show ([3, 2, 0, 1] : List Nat).Nodup by decide)) ?_
                                exact j_X13_signAt_406_ok X hF hL nn u7.1 u7.2 hf
                              · rcases mx_if_el hf with ⟨n_15, hf⟩ | ⟨n_15, hf⟩
                                · refine sx_tin hm dX13_signAt_15 (by rw [n_15]; decide) (by rw [n_15]; decide) (off := 421) (by rw [n_15]; rfl) (tgt := 436) rfl ?_
                                  clear n_0 n_1 n_2 n_3 n_4 n_5 n_6 n_7 n_8 n_9 n_10 n_11 n_12 n_13 n_14 n_15
                                  refine mx_S.pu (pc2 := 437) (lv2 := [(3, .int u7.1), (2, .int u4.1), (0, .ref a0), (1, .int a1)]) (st2 := [.int u7.1]) hm dX13_signAt_436 rfl ?_
                                  refine sx_bi (v := 62) hm dX13_signAt_437 (by decide) ?_
                                  rcases mx_if_el hf with ⟨c15, hf⟩ | ⟨c15, hf⟩
                                  · refine sb_ic_ne hm dX13_signAt_439 (tgt := 462) rfl (fun _ => ?_) (fun z => absurd c15 z)
                                    refine mx_S.pu (pc2 := 463) (lv2 := [(3, .int u7.1), (2, .int u4.1), (0, .ref a0), (1, .int a1)]) (st2 := [.int u7.1]) hm dX13_signAt_462 rfl ?_
                                    refine sx_bi (v := 61) hm dX13_signAt_463 (by decide) ?_
                                    rcases mx_if_el hf with ⟨c10, hf⟩ | ⟨c10, hf⟩
                                    · refine sb_ic_ne hm dX13_signAt_465 (tgt := 472) rfl (fun _ => ?_) (fun z => absurd c10 z)
                                      refine sx_ic (v := 1) hm dX13_signAt_472 (by decide) ?_
                                      cases hf
                                      exact sx_ire hm dX13_signAt_473 rfl rfl
                                    · refine sb_ic_ne hm dX13_signAt_465 (tgt := 472) rfl (fun z => absurd z c10) (fun _ => ?_)
                                      refine sx_ic (v := 2) hm dX13_signAt_468 (by decide) ?_
                                      refine mx_S.pu (pc2 := 473) (lv2 := [(3, .int u7.1), (2, .int u4.1), (0, .ref a0), (1, .int a1)]) (st2 := [.int 2]) hm dX13_signAt_469 rfl ?_
                                      cases hf
                                      exact sx_ire hm dX13_signAt_473 rfl rfl
                                  · refine sb_ic_ne hm dX13_signAt_439 (tgt := 462) rfl (fun z => absurd z c15) (fun _ => ?_)
                                    refine mx_S.pu (pc2 := 443) (lv2 := [(3, .int u7.1), (2, .int u4.1), (0, .ref a0), (1, .int a1)]) (st2 := [.ref a0]) hm dX13_signAt_442 rfl ?_
                                    refine mx_S.pu (pc2 := 444) (lv2 := [(3, .int u7.1), (2, .int u4.1), (0, .ref a0), (1, .int a1)]) (st2 := [.int a1, .ref a0]) hm dX13_signAt_443 rfl ?_
                                    refine sx_ic (v := 2) hm dX13_signAt_444 (by decide) ?_
                                    replace hf := xl_el hf; obtain ⟨v11, e_v11, hf⟩ := hf
                                    refine mx_S.pu (pc2 := 446) (lv2 := [(3, .int u7.1), (2, .int u4.1), (0, .ref a0), (1, .int a1)]) (st2 := [.int v11, .ref a0]) hm dX13_signAt_445 (by rw [← e_v11]; rfl) ?_
                                    clear e_v11
                                    replace hf := mx_gd_el hf; obtain ⟨c12, hf⟩ := hf
                                    replace hf := mx_sv_el hf; obtain ⟨u13, e_u13, hf⟩ := hf
                                    refine sx_cv hm dX13_signAt_446 rs_RX13_341 mt_X13_at [.int v11] [] (b := a0) (ci := 13) rfl rfl rfl c12 (Nat.le_of_ble_eq_true rfl) (Nat.le_of_ble_eq_true rfl) (by omega) (by omega) (f_X13_at_ok X (by omega) (by omega) nn a0 v11 u7.2 e_u13) ?_
                                    clear e_u13
                                    show mx_S X F L 389 449 [(3, .int u7.1), (2, .int u4.1), (0, .ref a0), (1, .int a1)] [.int u13.1] u13.2 0 0 (some (.int r.1), r.2, 0, 0)
                                    refine sx_bi (v := 62) hm dX13_signAt_449 (by decide) ?_
                                    rcases mx_if_el hf with ⟨c14, hf⟩ | ⟨c14, hf⟩
                                    · refine sb_ic_ne hm dX13_signAt_451 (tgt := 458) rfl (fun _ => ?_) (fun z => absurd c14 z)
                                      refine sx_ic (v := 2) hm dX13_signAt_458 (by decide) ?_
                                      refine mx_S.pu (pc2 := 473) (lv2 := [(3, .int u7.1), (2, .int u4.1), (0, .ref a0), (1, .int a1)]) (st2 := [.int 2]) hm dX13_signAt_459 rfl ?_
                                      cases hf
                                      exact sx_ire hm dX13_signAt_473 rfl rfl
                                    · refine sb_ic_ne hm dX13_signAt_451 (tgt := 458) rfl (fun z => absurd z c14) (fun _ => ?_)
                                      refine sx_ic (v := 3) hm dX13_signAt_454 (by decide) ?_
                                      refine mx_S.pu (pc2 := 473) (lv2 := [(3, .int u7.1), (2, .int u4.1), (0, .ref a0), (1, .int a1)]) (st2 := [.int 3]) hm dX13_signAt_455 rfl ?_
                                      cases hf
                                      exact sx_ire hm dX13_signAt_473 rfl rfl
                                · rcases mx_if_el hf with ⟨n_16, hf⟩ | ⟨n_16, hf⟩
                                  · refine sx_tin hm dX13_signAt_15 (by rw [n_16]; decide) (by rw [n_16]; decide) (off := 389) (by rw [n_16]; rfl) (tgt := 404) rfl ?_
                                    clear n_0 n_1 n_2 n_3 n_4 n_5 n_6 n_7 n_8 n_9 n_10 n_11 n_12 n_13 n_14 n_15 n_16
                                    refine mx_S.ext [] (mx_sub_pos [] rfl (show ([3, 2, 0, 1] : List Nat).Nodup by decide)) ?_
                                    exact j_X13_signAt_404_ok X hF hL nn u7.2 hf
                                  · rcases mx_if_el hf with ⟨n_17, hf⟩ | ⟨n_17, hf⟩
                                    · refine sx_tin hm dX13_signAt_15 (by rw [n_17]; decide) (by rw [n_17]; decide) (off := 389) (by rw [n_17]; rfl) (tgt := 404) rfl ?_
                                      clear n_0 n_1 n_2 n_3 n_4 n_5 n_6 n_7 n_8 n_9 n_10 n_11 n_12 n_13 n_14 n_15 n_16 n_17
                                      refine mx_S.ext [] (mx_sub_pos [] rfl (show ([3, 2, 0, 1] : List Nat).Nodup by decide)) ?_
                                      exact j_X13_signAt_404_ok X hF hL nn u7.2 hf
                                    · rcases mx_if_el hf with ⟨n_18, hf⟩ | ⟨n_18, hf⟩
                                      · refine sx_tin hm dX13_signAt_15 (by rw [n_18]; decide) (by rw [n_18]; decide) (off := 389) (by rw [n_18]; rfl) (tgt := 404) rfl ?_
                                        clear n_0 n_1 n_2 n_3 n_4 n_5 n_6 n_7 n_8 n_9 n_10 n_11 n_12 n_13 n_14 n_15 n_16 n_17 n_18
                                        refine mx_S.ext [] (mx_sub_pos [] rfl (show ([3, 2, 0, 1] : List Nat).Nodup by decide)) ?_
                                        exact j_X13_signAt_404_ok X hF hL nn u7.2 hf
                                      · rcases mx_if_el hf with ⟨n_19, hf⟩ | ⟨n_19, hf⟩
                                        · refine sx_tin hm dX13_signAt_15 (by rw [n_19]; decide) (by rw [n_19]; decide) (off := 389) (by rw [n_19]; rfl) (tgt := 404) rfl ?_
                                          clear n_0 n_1 n_2 n_3 n_4 n_5 n_6 n_7 n_8 n_9 n_10 n_11 n_12 n_13 n_14 n_15 n_16 n_17 n_18 n_19
                                          refine mx_S.ext [] (mx_sub_pos [] rfl (show ([3, 2, 0, 1] : List Nat).Nodup by decide)) ?_
                                          exact j_X13_signAt_404_ok X hF hL nn u7.2 hf
                                        · rcases mx_if_el hf with ⟨n_20, hf⟩ | ⟨n_20, hf⟩
                                          · refine sx_tin hm dX13_signAt_15 (by rw [n_20]; decide) (by rw [n_20]; decide) (off := 389) (by rw [n_20]; rfl) (tgt := 404) rfl ?_
                                            clear n_0 n_1 n_2 n_3 n_4 n_5 n_6 n_7 n_8 n_9 n_10 n_11 n_12 n_13 n_14 n_15 n_16 n_17 n_18 n_19 n_20
                                            refine mx_S.ext [] (mx_sub_pos [] rfl (show ([3, 2, 0, 1] : List Nat).Nodup by decide)) ?_
                                            exact j_X13_signAt_404_ok X hF hL nn u7.2 hf
                                          · rcases mx_if_el hf with ⟨n_21, hf⟩ | ⟨n_21, hf⟩
                                            · refine sx_tin hm dX13_signAt_15 (by rw [n_21]; decide) (by rw [n_21]; decide) (off := 459) (by rw [n_21]; rfl) (tgt := 474) rfl ?_
                                              clear n_0 n_1 n_2 n_3 n_4 n_5 n_6 n_7 n_8 n_9 n_10 n_11 n_12 n_13 n_14 n_15 n_16 n_17 n_18 n_19 n_20 n_21
                                              refine mx_S.ext [(2, .int u4.1), (3, .int u7.1)] (mx_sub_pos [1, 0] rfl (show ([3, 2, 0, 1] : List Nat).Nodup by decide)) ?_
                                              exact j_X13_signAt_474_ok X hF hL nn u4.1 u7.1 u7.2 hf
                                            · rcases mx_if_el hf with ⟨n_22, hf⟩ | ⟨n_22, hf⟩
                                              · refine sx_tin hm dX13_signAt_15 (by rw [n_22]; decide) (by rw [n_22]; decide) (off := 389) (by rw [n_22]; rfl) (tgt := 404) rfl ?_
                                                clear n_0 n_1 n_2 n_3 n_4 n_5 n_6 n_7 n_8 n_9 n_10 n_11 n_12 n_13 n_14 n_15 n_16 n_17 n_18 n_19 n_20 n_21 n_22
                                                refine mx_S.ext [] (mx_sub_pos [] rfl (show ([3, 2, 0, 1] : List Nat).Nodup by decide)) ?_
                                                exact j_X13_signAt_404_ok X hF hL nn u7.2 hf
                                              · rcases mx_if_el hf with ⟨n_23, hf⟩ | ⟨n_23, hf⟩
                                                · refine sx_tin hm dX13_signAt_15 (by rw [n_23]; decide) (by rw [n_23]; decide) (off := 389) (by rw [n_23]; rfl) (tgt := 404) rfl ?_
                                                  clear n_0 n_1 n_2 n_3 n_4 n_5 n_6 n_7 n_8 n_9 n_10 n_11 n_12 n_13 n_14 n_15 n_16 n_17 n_18 n_19 n_20 n_21 n_22 n_23
                                                  refine mx_S.ext [] (mx_sub_pos [] rfl (show ([3, 2, 0, 1] : List Nat).Nodup by decide)) ?_
                                                  exact j_X13_signAt_404_ok X hF hL nn u7.2 hf
                                                · rcases (show (u4.1.toInt < 33 ∨ 126 < u4.1.toInt) ∨ u4.1.toInt = 33 ∨ u4.1.toInt = 34 ∨ u4.1.toInt = 35 ∨ u4.1.toInt = 36 ∨ u4.1.toInt = 37 ∨ u4.1.toInt = 38 ∨ u4.1.toInt = 39 ∨ u4.1.toInt = 40 ∨ u4.1.toInt = 41 ∨ u4.1.toInt = 42 ∨ u4.1.toInt = 43 ∨ u4.1.toInt = 44 ∨ u4.1.toInt = 45 ∨ u4.1.toInt = 46 ∨ u4.1.toInt = 47 ∨ u4.1.toInt = 48 ∨ u4.1.toInt = 49 ∨ u4.1.toInt = 50 ∨ u4.1.toInt = 51 ∨ u4.1.toInt = 52 ∨ u4.1.toInt = 53 ∨ u4.1.toInt = 54 ∨ u4.1.toInt = 55 ∨ u4.1.toInt = 56 ∨ u4.1.toInt = 57 ∨ u4.1.toInt = 58 ∨ u4.1.toInt = 59 ∨ u4.1.toInt = 60 ∨ u4.1.toInt = 61 ∨ u4.1.toInt = 62 ∨ u4.1.toInt = 63 ∨ u4.1.toInt = 64 ∨ u4.1.toInt = 65 ∨ u4.1.toInt = 66 ∨ u4.1.toInt = 67 ∨ u4.1.toInt = 68 ∨ u4.1.toInt = 69 ∨ u4.1.toInt = 70 ∨ u4.1.toInt = 71 ∨ u4.1.toInt = 72 ∨ u4.1.toInt = 73 ∨ u4.1.toInt = 74 ∨ u4.1.toInt = 75 ∨ u4.1.toInt = 76 ∨ u4.1.toInt = 77 ∨ u4.1.toInt = 78 ∨ u4.1.toInt = 79 ∨ u4.1.toInt = 80 ∨ u4.1.toInt = 81 ∨ u4.1.toInt = 82 ∨ u4.1.toInt = 83 ∨ u4.1.toInt = 84 ∨ u4.1.toInt = 85 ∨ u4.1.toInt = 86 ∨ u4.1.toInt = 87 ∨ u4.1.toInt = 88 ∨ u4.1.toInt = 89 ∨ u4.1.toInt = 90 ∨ u4.1.toInt = 91 ∨ u4.1.toInt = 92 ∨ u4.1.toInt = 93 ∨ u4.1.toInt = 94 ∨ u4.1.toInt = 95 ∨ u4.1.toInt = 96 ∨ u4.1.toInt = 97 ∨ u4.1.toInt = 98 ∨ u4.1.toInt = 99 ∨ u4.1.toInt = 100 ∨ u4.1.toInt = 101 ∨ u4.1.toInt = 102 ∨ u4.1.toInt = 103 ∨ u4.1.toInt = 104 ∨ u4.1.toInt = 105 ∨ u4.1.toInt = 106 ∨ u4.1.toInt = 107 ∨ u4.1.toInt = 108 ∨ u4.1.toInt = 109 ∨ u4.1.toInt = 110 ∨ u4.1.toInt = 111 ∨ u4.1.toInt = 112 ∨ u4.1.toInt = 113 ∨ u4.1.toInt = 114 ∨ u4.1.toInt = 115 ∨ u4.1.toInt = 116 ∨ u4.1.toInt = 117 ∨ u4.1.toInt = 118 ∨ u4.1.toInt = 119 ∨ u4.1.toInt = 120 ∨ u4.1.toInt = 121 ∨ u4.1.toInt = 122 ∨ u4.1.toInt = 123 ∨ u4.1.toInt = 124 ∨ u4.1.toInt = 125 ∨ u4.1.toInt = 126 by omega) with z0 | z0 | z0 | z0 | z0 | z0 | z0 | z0 | z0 | z0 | z0 | z0 | z0 | z0 | z0 | z0 | z0 | z0 | z0 | z0 | z0 | z0 | z0 | z0 | z0 | z0 | z0 | z0 | z0 | z0 | z0 | z0 | z0 | z0 | z0 | z0 | z0 | z0 | z0 | z0 | z0 | z0 | z0 | z0 | z0 | z0 | z0 | z0 | z0 | z0 | z0 | z0 | z0 | z0 | z0 | z0 | z0 | z0 | z0 | z0 | z0 | z0 | z0 | z0 | z0 | z0 | z0 | z0 | z0 | z0 | z0 | z0 | z0 | z0 | z0 | z0 | z0 | z0 | z0 | z0 | z0 | z0 | z0 | z0 | z0 | z0 | z0 | z0 | z0 | z0 | z0 | z0 | z0 | z0 | z0
                                                  · refine sx_tout hm dX13_signAt_15 z0 (tgt := 485) rfl ?_
                                                    refine mx_S.ext [] (mx_sub_pos [] rfl (show ([3, 2, 0, 1] : List Nat).Nodup by decide)) ?_
                                                    exact j_X13_signAt_485_ok X hF hL nn u7.2 hf
                                                  · exact absurd (Int32.toInt_inj.mp (z0.trans (by decide : (33 : Int) = (33 : Int32).toInt))) n_0
                                                  · refine sx_tin hm dX13_signAt_15 (by omega) (by omega) (off := 470) (by rw [z0]; rfl) (tgt := 485) rfl ?_
                                                    refine mx_S.ext [] (mx_sub_pos [] rfl (show ([3, 2, 0, 1] : List Nat).Nodup by decide)) ?_
                                                    exact j_X13_signAt_485_ok X hF hL nn u7.2 hf
                                                  · refine sx_tin hm dX13_signAt_15 (by omega) (by omega) (off := 470) (by rw [z0]; rfl) (tgt := 485) rfl ?_
                                                    refine mx_S.ext [] (mx_sub_pos [] rfl (show ([3, 2, 0, 1] : List Nat).Nodup by decide)) ?_
                                                    exact j_X13_signAt_485_ok X hF hL nn u7.2 hf
                                                  · refine sx_tin hm dX13_signAt_15 (by omega) (by omega) (off := 470) (by rw [z0]; rfl) (tgt := 485) rfl ?_
                                                    refine mx_S.ext [] (mx_sub_pos [] rfl (show ([3, 2, 0, 1] : List Nat).Nodup by decide)) ?_
                                                    exact j_X13_signAt_485_ok X hF hL nn u7.2 hf
                                                  · exact absurd (Int32.toInt_inj.mp (z0.trans (by decide : (37 : Int) = (37 : Int32).toInt))) n_1
                                                  · exact absurd (Int32.toInt_inj.mp (z0.trans (by decide : (38 : Int) = (38 : Int32).toInt))) n_2
                                                  · refine sx_tin hm dX13_signAt_15 (by omega) (by omega) (off := 470) (by rw [z0]; rfl) (tgt := 485) rfl ?_
                                                    refine mx_S.ext [] (mx_sub_pos [] rfl (show ([3, 2, 0, 1] : List Nat).Nodup by decide)) ?_
                                                    exact j_X13_signAt_485_ok X hF hL nn u7.2 hf
                                                  · exact absurd (Int32.toInt_inj.mp (z0.trans (by decide : (40 : Int) = (40 : Int32).toInt))) n_3
                                                  · exact absurd (Int32.toInt_inj.mp (z0.trans (by decide : (41 : Int) = (41 : Int32).toInt))) n_4
                                                  · exact absurd (Int32.toInt_inj.mp (z0.trans (by decide : (42 : Int) = (42 : Int32).toInt))) n_5
                                                  · exact absurd (Int32.toInt_inj.mp (z0.trans (by decide : (43 : Int) = (43 : Int32).toInt))) n_6
                                                  · exact absurd (Int32.toInt_inj.mp (z0.trans (by decide : (44 : Int) = (44 : Int32).toInt))) n_7
                                                  · exact absurd (Int32.toInt_inj.mp (z0.trans (by decide : (45 : Int) = (45 : Int32).toInt))) n_8
                                                  · exact absurd (Int32.toInt_inj.mp (z0.trans (by decide : (46 : Int) = (46 : Int32).toInt))) n_9
                                                  · exact absurd (Int32.toInt_inj.mp (z0.trans (by decide : (47 : Int) = (47 : Int32).toInt))) n_10
                                                  · refine sx_tin hm dX13_signAt_15 (by omega) (by omega) (off := 470) (by rw [z0]; rfl) (tgt := 485) rfl ?_
                                                    refine mx_S.ext [] (mx_sub_pos [] rfl (show ([3, 2, 0, 1] : List Nat).Nodup by decide)) ?_
                                                    exact j_X13_signAt_485_ok X hF hL nn u7.2 hf
                                                  · refine sx_tin hm dX13_signAt_15 (by omega) (by omega) (off := 470) (by rw [z0]; rfl) (tgt := 485) rfl ?_
                                                    refine mx_S.ext [] (mx_sub_pos [] rfl (show ([3, 2, 0, 1] : List Nat).Nodup by decide)) ?_
                                                    exact j_X13_signAt_485_ok X hF hL nn u7.2 hf
                                                  · refine sx_tin hm dX13_signAt_15 (by omega) (by omega) (off := 470) (by rw [z0]; rfl) (tgt := 485) rfl ?_
                                                    refine mx_S.ext [] (mx_sub_pos [] rfl (show ([3, 2, 0, 1] : List Nat).Nodup by decide)) ?_
                                                    exact j_X13_signAt_485_ok X hF hL nn u7.2 hf
                                                  · refine sx_tin hm dX13_signAt_15 (by omega) (by omega) (off := 470) (by rw [z0]; rfl) (tgt := 485) rfl ?_
                                                    refine mx_S.ext [] (mx_sub_pos [] rfl (show ([3, 2, 0, 1] : List Nat).Nodup by decide)) ?_
                                                    exact j_X13_signAt_485_ok X hF hL nn u7.2 hf
                                                  · refine sx_tin hm dX13_signAt_15 (by omega) (by omega) (off := 470) (by rw [z0]; rfl) (tgt := 485) rfl ?_
                                                    refine mx_S.ext [] (mx_sub_pos [] rfl (show ([3, 2, 0, 1] : List Nat).Nodup by decide)) ?_
                                                    exact j_X13_signAt_485_ok X hF hL nn u7.2 hf
                                                  · refine sx_tin hm dX13_signAt_15 (by omega) (by omega) (off := 470) (by rw [z0]; rfl) (tgt := 485) rfl ?_
                                                    refine mx_S.ext [] (mx_sub_pos [] rfl (show ([3, 2, 0, 1] : List Nat).Nodup by decide)) ?_
                                                    exact j_X13_signAt_485_ok X hF hL nn u7.2 hf
                                                  · refine sx_tin hm dX13_signAt_15 (by omega) (by omega) (off := 470) (by rw [z0]; rfl) (tgt := 485) rfl ?_
                                                    refine mx_S.ext [] (mx_sub_pos [] rfl (show ([3, 2, 0, 1] : List Nat).Nodup by decide)) ?_
                                                    exact j_X13_signAt_485_ok X hF hL nn u7.2 hf
                                                  · refine sx_tin hm dX13_signAt_15 (by omega) (by omega) (off := 470) (by rw [z0]; rfl) (tgt := 485) rfl ?_
                                                    refine mx_S.ext [] (mx_sub_pos [] rfl (show ([3, 2, 0, 1] : List Nat).Nodup by decide)) ?_
                                                    exact j_X13_signAt_485_ok X hF hL nn u7.2 hf
                                                  · refine sx_tin hm dX13_signAt_15 (by omega) (by omega) (off := 470) (by rw [z0]; rfl) (tgt := 485) rfl ?_
                                                    refine mx_S.ext [] (mx_sub_pos [] rfl (show ([3, 2, 0, 1] : List Nat).Nodup by decide)) ?_
                                                    exact j_X13_signAt_485_ok X hF hL nn u7.2 hf
                                                  · refine sx_tin hm dX13_signAt_15 (by omega) (by omega) (off := 470) (by rw [z0]; rfl) (tgt := 485) rfl ?_
                                                    refine mx_S.ext [] (mx_sub_pos [] rfl (show ([3, 2, 0, 1] : List Nat).Nodup by decide)) ?_
                                                    exact j_X13_signAt_485_ok X hF hL nn u7.2 hf
                                                  · exact absurd (Int32.toInt_inj.mp (z0.trans (by decide : (58 : Int) = (58 : Int32).toInt))) n_11
                                                  · exact absurd (Int32.toInt_inj.mp (z0.trans (by decide : (59 : Int) = (59 : Int32).toInt))) n_12
                                                  · exact absurd (Int32.toInt_inj.mp (z0.trans (by decide : (60 : Int) = (60 : Int32).toInt))) n_13
                                                  · exact absurd (Int32.toInt_inj.mp (z0.trans (by decide : (61 : Int) = (61 : Int32).toInt))) n_14
                                                  · exact absurd (Int32.toInt_inj.mp (z0.trans (by decide : (62 : Int) = (62 : Int32).toInt))) n_15
                                                  · exact absurd (Int32.toInt_inj.mp (z0.trans (by decide : (63 : Int) = (63 : Int32).toInt))) n_16
                                                  · refine sx_tin hm dX13_signAt_15 (by omega) (by omega) (off := 470) (by rw [z0]; rfl) (tgt := 485) rfl ?_
                                                    refine mx_S.ext [] (mx_sub_pos [] rfl (show ([3, 2, 0, 1] : List Nat).Nodup by decide)) ?_
                                                    exact j_X13_signAt_485_ok X hF hL nn u7.2 hf
                                                  · refine sx_tin hm dX13_signAt_15 (by omega) (by omega) (off := 470) (by rw [z0]; rfl) (tgt := 485) rfl ?_
                                                    refine mx_S.ext [] (mx_sub_pos [] rfl (show ([3, 2, 0, 1] : List Nat).Nodup by decide)) ?_
                                                    exact j_X13_signAt_485_ok X hF hL nn u7.2 hf
                                                  · refine sx_tin hm dX13_signAt_15 (by omega) (by omega) (off := 470) (by rw [z0]; rfl) (tgt := 485) rfl ?_
                                                    refine mx_S.ext [] (mx_sub_pos [] rfl (show ([3, 2, 0, 1] : List Nat).Nodup by decide)) ?_
                                                    exact j_X13_signAt_485_ok X hF hL nn u7.2 hf
                                                  · refine sx_tin hm dX13_signAt_15 (by omega) (by omega) (off := 470) (by rw [z0]; rfl) (tgt := 485) rfl ?_
                                                    refine mx_S.ext [] (mx_sub_pos [] rfl (show ([3, 2, 0, 1] : List Nat).Nodup by decide)) ?_
                                                    exact j_X13_signAt_485_ok X hF hL nn u7.2 hf
                                                  · refine sx_tin hm dX13_signAt_15 (by omega) (by omega) (off := 470) (by rw [z0]; rfl) (tgt := 485) rfl ?_
                                                    refine mx_S.ext [] (mx_sub_pos [] rfl (show ([3, 2, 0, 1] : List Nat).Nodup by decide)) ?_
                                                    exact j_X13_signAt_485_ok X hF hL nn u7.2 hf
                                                  · refine sx_tin hm dX13_signAt_15 (by omega) (by omega) (off := 470) (by rw [z0]; rfl) (tgt := 485) rfl ?_
                                                    refine mx_S.ext [] (mx_sub_pos [] rfl (show ([3, 2, 0, 1] : List Nat).Nodup by decide)) ?_
                                                    exact j_X13_signAt_485_ok X hF hL nn u7.2 hf
                                                  · refine sx_tin hm dX13_signAt_15 (by omega) (by omega) (off := 470) (by rw [z0]; rfl) (tgt := 485) rfl ?_
                                                    refine mx_S.ext [] (mx_sub_pos [] rfl (show ([3, 2, 0, 1] : List Nat).Nodup by decide)) ?_
                                                    exact j_X13_signAt_485_ok X hF hL nn u7.2 hf
                                                  · refine sx_tin hm dX13_signAt_15 (by omega) (by omega) (off := 470) (by rw [z0]; rfl) (tgt := 485) rfl ?_
                                                    refine mx_S.ext [] (mx_sub_pos [] rfl (show ([3, 2, 0, 1] : List Nat).Nodup by decide)) ?_
                                                    exact j_X13_signAt_485_ok X hF hL nn u7.2 hf
                                                  · refine sx_tin hm dX13_signAt_15 (by omega) (by omega) (off := 470) (by rw [z0]; rfl) (tgt := 485) rfl ?_
                                                    refine mx_S.ext [] (mx_sub_pos [] rfl (show ([3, 2, 0, 1] : List Nat).Nodup by decide)) ?_
                                                    exact j_X13_signAt_485_ok X hF hL nn u7.2 hf
                                                  · refine sx_tin hm dX13_signAt_15 (by omega) (by omega) (off := 470) (by rw [z0]; rfl) (tgt := 485) rfl ?_
                                                    refine mx_S.ext [] (mx_sub_pos [] rfl (show ([3, 2, 0, 1] : List Nat).Nodup by decide)) ?_
                                                    exact j_X13_signAt_485_ok X hF hL nn u7.2 hf
                                                  · refine sx_tin hm dX13_signAt_15 (by omega) (by omega) (off := 470) (by rw [z0]; rfl) (tgt := 485) rfl ?_
                                                    refine mx_S.ext [] (mx_sub_pos [] rfl (show ([3, 2, 0, 1] : List Nat).Nodup by decide)) ?_
                                                    exact j_X13_signAt_485_ok X hF hL nn u7.2 hf
                                                  · refine sx_tin hm dX13_signAt_15 (by omega) (by omega) (off := 470) (by rw [z0]; rfl) (tgt := 485) rfl ?_
                                                    refine mx_S.ext [] (mx_sub_pos [] rfl (show ([3, 2, 0, 1] : List Nat).Nodup by decide)) ?_
                                                    exact j_X13_signAt_485_ok X hF hL nn u7.2 hf
                                                  · refine sx_tin hm dX13_signAt_15 (by omega) (by omega) (off := 470) (by rw [z0]; rfl) (tgt := 485) rfl ?_
                                                    refine mx_S.ext [] (mx_sub_pos [] rfl (show ([3, 2, 0, 1] : List Nat).Nodup by decide)) ?_
                                                    exact j_X13_signAt_485_ok X hF hL nn u7.2 hf
                                                  · refine sx_tin hm dX13_signAt_15 (by omega) (by omega) (off := 470) (by rw [z0]; rfl) (tgt := 485) rfl ?_
                                                    refine mx_S.ext [] (mx_sub_pos [] rfl (show ([3, 2, 0, 1] : List Nat).Nodup by decide)) ?_
                                                    exact j_X13_signAt_485_ok X hF hL nn u7.2 hf
                                                  · refine sx_tin hm dX13_signAt_15 (by omega) (by omega) (off := 470) (by rw [z0]; rfl) (tgt := 485) rfl ?_
                                                    refine mx_S.ext [] (mx_sub_pos [] rfl (show ([3, 2, 0, 1] : List Nat).Nodup by decide)) ?_
                                                    exact j_X13_signAt_485_ok X hF hL nn u7.2 hf
                                                  · refine sx_tin hm dX13_signAt_15 (by omega) (by omega) (off := 470) (by rw [z0]; rfl) (tgt := 485) rfl ?_
                                                    refine mx_S.ext [] (mx_sub_pos [] rfl (show ([3, 2, 0, 1] : List Nat).Nodup by decide)) ?_
                                                    exact j_X13_signAt_485_ok X hF hL nn u7.2 hf
                                                  · refine sx_tin hm dX13_signAt_15 (by omega) (by omega) (off := 470) (by rw [z0]; rfl) (tgt := 485) rfl ?_
                                                    refine mx_S.ext [] (mx_sub_pos [] rfl (show ([3, 2, 0, 1] : List Nat).Nodup by decide)) ?_
                                                    exact j_X13_signAt_485_ok X hF hL nn u7.2 hf
                                                  · refine sx_tin hm dX13_signAt_15 (by omega) (by omega) (off := 470) (by rw [z0]; rfl) (tgt := 485) rfl ?_
                                                    refine mx_S.ext [] (mx_sub_pos [] rfl (show ([3, 2, 0, 1] : List Nat).Nodup by decide)) ?_
                                                    exact j_X13_signAt_485_ok X hF hL nn u7.2 hf
                                                  · refine sx_tin hm dX13_signAt_15 (by omega) (by omega) (off := 470) (by rw [z0]; rfl) (tgt := 485) rfl ?_
                                                    refine mx_S.ext [] (mx_sub_pos [] rfl (show ([3, 2, 0, 1] : List Nat).Nodup by decide)) ?_
                                                    exact j_X13_signAt_485_ok X hF hL nn u7.2 hf
                                                  · refine sx_tin hm dX13_signAt_15 (by omega) (by omega) (off := 470) (by rw [z0]; rfl) (tgt := 485) rfl ?_
                                                    refine mx_S.ext [] (mx_sub_pos [] rfl (show ([3, 2, 0, 1] : List Nat).Nodup by decide)) ?_
                                                    exact j_X13_signAt_485_ok X hF hL nn u7.2 hf
                                                  · refine sx_tin hm dX13_signAt_15 (by omega) (by omega) (off := 470) (by rw [z0]; rfl) (tgt := 485) rfl ?_
                                                    refine mx_S.ext [] (mx_sub_pos [] rfl (show ([3, 2, 0, 1] : List Nat).Nodup by decide)) ?_
                                                    exact j_X13_signAt_485_ok X hF hL nn u7.2 hf
                                                  · refine sx_tin hm dX13_signAt_15 (by omega) (by omega) (off := 470) (by rw [z0]; rfl) (tgt := 485) rfl ?_
                                                    refine mx_S.ext [] (mx_sub_pos [] rfl (show ([3, 2, 0, 1] : List Nat).Nodup by decide)) ?_
                                                    exact j_X13_signAt_485_ok X hF hL nn u7.2 hf
                                                  · refine sx_tin hm dX13_signAt_15 (by omega) (by omega) (off := 470) (by rw [z0]; rfl) (tgt := 485) rfl ?_
                                                    refine mx_S.ext [] (mx_sub_pos [] rfl (show ([3, 2, 0, 1] : List Nat).Nodup by decide)) ?_
                                                    exact j_X13_signAt_485_ok X hF hL nn u7.2 hf
                                                  · refine sx_tin hm dX13_signAt_15 (by omega) (by omega) (off := 470) (by rw [z0]; rfl) (tgt := 485) rfl ?_
                                                    refine mx_S.ext [] (mx_sub_pos [] rfl (show ([3, 2, 0, 1] : List Nat).Nodup by decide)) ?_
                                                    exact j_X13_signAt_485_ok X hF hL nn u7.2 hf
                                                  · refine sx_tin hm dX13_signAt_15 (by omega) (by omega) (off := 470) (by rw [z0]; rfl) (tgt := 485) rfl ?_
                                                    refine mx_S.ext [] (mx_sub_pos [] rfl (show ([3, 2, 0, 1] : List Nat).Nodup by decide)) ?_
                                                    exact j_X13_signAt_485_ok X hF hL nn u7.2 hf
                                                  · refine sx_tin hm dX13_signAt_15 (by omega) (by omega) (off := 470) (by rw [z0]; rfl) (tgt := 485) rfl ?_
                                                    refine mx_S.ext [] (mx_sub_pos [] rfl (show ([3, 2, 0, 1] : List Nat).Nodup by decide)) ?_
                                                    exact j_X13_signAt_485_ok X hF hL nn u7.2 hf
                                                  · refine sx_tin hm dX13_signAt_15 (by omega) (by omega) (off := 470) (by rw [z0]; rfl) (tgt := 485) rfl ?_
                                                    refine mx_S.ext [] (mx_sub_pos [] rfl (show ([3, 2, 0, 1] : List Nat).Nodup by decide)) ?_
                                                    exact j_X13_signAt_485_ok X hF hL nn u7.2 hf
                                                  · exact absurd (Int32.toInt_inj.mp (z0.trans (by decide : (91 : Int) = (91 : Int32).toInt))) n_17
                                                  · refine sx_tin hm dX13_signAt_15 (by omega) (by omega) (off := 470) (by rw [z0]; rfl) (tgt := 485) rfl ?_
                                                    refine mx_S.ext [] (mx_sub_pos [] rfl (show ([3, 2, 0, 1] : List Nat).Nodup by decide)) ?_
                                                    exact j_X13_signAt_485_ok X hF hL nn u7.2 hf
                                                  · exact absurd (Int32.toInt_inj.mp (z0.trans (by decide : (93 : Int) = (93 : Int32).toInt))) n_18
                                                  · exact absurd (Int32.toInt_inj.mp (z0.trans (by decide : (94 : Int) = (94 : Int32).toInt))) n_19
                                                  · refine sx_tin hm dX13_signAt_15 (by omega) (by omega) (off := 470) (by rw [z0]; rfl) (tgt := 485) rfl ?_
                                                    refine mx_S.ext [] (mx_sub_pos [] rfl (show ([3, 2, 0, 1] : List Nat).Nodup by decide)) ?_
                                                    exact j_X13_signAt_485_ok X hF hL nn u7.2 hf
                                                  · refine sx_tin hm dX13_signAt_15 (by omega) (by omega) (off := 470) (by rw [z0]; rfl) (tgt := 485) rfl ?_
                                                    refine mx_S.ext [] (mx_sub_pos [] rfl (show ([3, 2, 0, 1] : List Nat).Nodup by decide)) ?_
                                                    exact j_X13_signAt_485_ok X hF hL nn u7.2 hf
                                                  · refine sx_tin hm dX13_signAt_15 (by omega) (by omega) (off := 470) (by rw [z0]; rfl) (tgt := 485) rfl ?_
                                                    refine mx_S.ext [] (mx_sub_pos [] rfl (show ([3, 2, 0, 1] : List Nat).Nodup by decide)) ?_
                                                    exact j_X13_signAt_485_ok X hF hL nn u7.2 hf
                                                  · refine sx_tin hm dX13_signAt_15 (by omega) (by omega) (off := 470) (by rw [z0]; rfl) (tgt := 485) rfl ?_
                                                    refine mx_S.ext [] (mx_sub_pos [] rfl (show ([3, 2, 0, 1] : List Nat).Nodup by decide)) ?_
                                                    exact j_X13_signAt_485_ok X hF hL nn u7.2 hf
                                                  · refine sx_tin hm dX13_signAt_15 (by omega) (by omega) (off := 470) (by rw [z0]; rfl) (tgt := 485) rfl ?_
                                                    refine mx_S.ext [] (mx_sub_pos [] rfl (show ([3, 2, 0, 1] : List Nat).Nodup by decide)) ?_
                                                    exact j_X13_signAt_485_ok X hF hL nn u7.2 hf
                                                  · refine sx_tin hm dX13_signAt_15 (by omega) (by omega) (off := 470) (by rw [z0]; rfl) (tgt := 485) rfl ?_
                                                    refine mx_S.ext [] (mx_sub_pos [] rfl (show ([3, 2, 0, 1] : List Nat).Nodup by decide)) ?_
                                                    exact j_X13_signAt_485_ok X hF hL nn u7.2 hf
                                                  · refine sx_tin hm dX13_signAt_15 (by omega) (by omega) (off := 470) (by rw [z0]; rfl) (tgt := 485) rfl ?_
                                                    refine mx_S.ext [] (mx_sub_pos [] rfl (show ([3, 2, 0, 1] : List Nat).Nodup by decide)) ?_
                                                    exact j_X13_signAt_485_ok X hF hL nn u7.2 hf
                                                  · refine sx_tin hm dX13_signAt_15 (by omega) (by omega) (off := 470) (by rw [z0]; rfl) (tgt := 485) rfl ?_
                                                    refine mx_S.ext [] (mx_sub_pos [] rfl (show ([3, 2, 0, 1] : List Nat).Nodup by decide)) ?_
                                                    exact j_X13_signAt_485_ok X hF hL nn u7.2 hf
                                                  · refine sx_tin hm dX13_signAt_15 (by omega) (by omega) (off := 470) (by rw [z0]; rfl) (tgt := 485) rfl ?_
                                                    refine mx_S.ext [] (mx_sub_pos [] rfl (show ([3, 2, 0, 1] : List Nat).Nodup by decide)) ?_
                                                    exact j_X13_signAt_485_ok X hF hL nn u7.2 hf
                                                  · refine sx_tin hm dX13_signAt_15 (by omega) (by omega) (off := 470) (by rw [z0]; rfl) (tgt := 485) rfl ?_
                                                    refine mx_S.ext [] (mx_sub_pos [] rfl (show ([3, 2, 0, 1] : List Nat).Nodup by decide)) ?_
                                                    exact j_X13_signAt_485_ok X hF hL nn u7.2 hf
                                                  · refine sx_tin hm dX13_signAt_15 (by omega) (by omega) (off := 470) (by rw [z0]; rfl) (tgt := 485) rfl ?_
                                                    refine mx_S.ext [] (mx_sub_pos [] rfl (show ([3, 2, 0, 1] : List Nat).Nodup by decide)) ?_
                                                    exact j_X13_signAt_485_ok X hF hL nn u7.2 hf
                                                  · refine sx_tin hm dX13_signAt_15 (by omega) (by omega) (off := 470) (by rw [z0]; rfl) (tgt := 485) rfl ?_
                                                    refine mx_S.ext [] (mx_sub_pos [] rfl (show ([3, 2, 0, 1] : List Nat).Nodup by decide)) ?_
                                                    exact j_X13_signAt_485_ok X hF hL nn u7.2 hf
                                                  · refine sx_tin hm dX13_signAt_15 (by omega) (by omega) (off := 470) (by rw [z0]; rfl) (tgt := 485) rfl ?_
                                                    refine mx_S.ext [] (mx_sub_pos [] rfl (show ([3, 2, 0, 1] : List Nat).Nodup by decide)) ?_
                                                    exact j_X13_signAt_485_ok X hF hL nn u7.2 hf
                                                  · refine sx_tin hm dX13_signAt_15 (by omega) (by omega) (off := 470) (by rw [z0]; rfl) (tgt := 485) rfl ?_
                                                    refine mx_S.ext [] (mx_sub_pos [] rfl (show ([3, 2, 0, 1] : List Nat).Nodup by decide)) ?_
                                                    exact j_X13_signAt_485_ok X hF hL nn u7.2 hf
                                                  · refine sx_tin hm dX13_signAt_15 (by omega) (by omega) (off := 470) (by rw [z0]; rfl) (tgt := 485) rfl ?_
                                                    refine mx_S.ext [] (mx_sub_pos [] rfl (show ([3, 2, 0, 1] : List Nat).Nodup by decide)) ?_
                                                    exact j_X13_signAt_485_ok X hF hL nn u7.2 hf
                                                  · refine sx_tin hm dX13_signAt_15 (by omega) (by omega) (off := 470) (by rw [z0]; rfl) (tgt := 485) rfl ?_
                                                    refine mx_S.ext [] (mx_sub_pos [] rfl (show ([3, 2, 0, 1] : List Nat).Nodup by decide)) ?_
                                                    exact j_X13_signAt_485_ok X hF hL nn u7.2 hf
                                                  · refine sx_tin hm dX13_signAt_15 (by omega) (by omega) (off := 470) (by rw [z0]; rfl) (tgt := 485) rfl ?_
                                                    refine mx_S.ext [] (mx_sub_pos [] rfl (show ([3, 2, 0, 1] : List Nat).Nodup by decide)) ?_
                                                    exact j_X13_signAt_485_ok X hF hL nn u7.2 hf
                                                  · refine sx_tin hm dX13_signAt_15 (by omega) (by omega) (off := 470) (by rw [z0]; rfl) (tgt := 485) rfl ?_
                                                    refine mx_S.ext [] (mx_sub_pos [] rfl (show ([3, 2, 0, 1] : List Nat).Nodup by decide)) ?_
                                                    exact j_X13_signAt_485_ok X hF hL nn u7.2 hf
                                                  · refine sx_tin hm dX13_signAt_15 (by omega) (by omega) (off := 470) (by rw [z0]; rfl) (tgt := 485) rfl ?_
                                                    refine mx_S.ext [] (mx_sub_pos [] rfl (show ([3, 2, 0, 1] : List Nat).Nodup by decide)) ?_
                                                    exact j_X13_signAt_485_ok X hF hL nn u7.2 hf
                                                  · refine sx_tin hm dX13_signAt_15 (by omega) (by omega) (off := 470) (by rw [z0]; rfl) (tgt := 485) rfl ?_
                                                    refine mx_S.ext [] (mx_sub_pos [] rfl (show ([3, 2, 0, 1] : List Nat).Nodup by decide)) ?_
                                                    exact j_X13_signAt_485_ok X hF hL nn u7.2 hf
                                                  · refine sx_tin hm dX13_signAt_15 (by omega) (by omega) (off := 470) (by rw [z0]; rfl) (tgt := 485) rfl ?_
                                                    refine mx_S.ext [] (mx_sub_pos [] rfl (show ([3, 2, 0, 1] : List Nat).Nodup by decide)) ?_
                                                    exact j_X13_signAt_485_ok X hF hL nn u7.2 hf
                                                  · refine sx_tin hm dX13_signAt_15 (by omega) (by omega) (off := 470) (by rw [z0]; rfl) (tgt := 485) rfl ?_
                                                    refine mx_S.ext [] (mx_sub_pos [] rfl (show ([3, 2, 0, 1] : List Nat).Nodup by decide)) ?_
                                                    exact j_X13_signAt_485_ok X hF hL nn u7.2 hf
                                                  · refine sx_tin hm dX13_signAt_15 (by omega) (by omega) (off := 470) (by rw [z0]; rfl) (tgt := 485) rfl ?_
                                                    refine mx_S.ext [] (mx_sub_pos [] rfl (show ([3, 2, 0, 1] : List Nat).Nodup by decide)) ?_
                                                    exact j_X13_signAt_485_ok X hF hL nn u7.2 hf
                                                  · refine sx_tin hm dX13_signAt_15 (by omega) (by omega) (off := 470) (by rw [z0]; rfl) (tgt := 485) rfl ?_
                                                    refine mx_S.ext [] (mx_sub_pos [] rfl (show ([3, 2, 0, 1] : List Nat).Nodup by decide)) ?_
                                                    exact j_X13_signAt_485_ok X hF hL nn u7.2 hf
                                                  · refine sx_tin hm dX13_signAt_15 (by omega) (by omega) (off := 470) (by rw [z0]; rfl) (tgt := 485) rfl ?_
                                                    refine mx_S.ext [] (mx_sub_pos [] rfl (show ([3, 2, 0, 1] : List Nat).Nodup by decide)) ?_
                                                    exact j_X13_signAt_485_ok X hF hL nn u7.2 hf
                                                  · refine sx_tin hm dX13_signAt_15 (by omega) (by omega) (off := 470) (by rw [z0]; rfl) (tgt := 485) rfl ?_
                                                    refine mx_S.ext [] (mx_sub_pos [] rfl (show ([3, 2, 0, 1] : List Nat).Nodup by decide)) ?_
                                                    exact j_X13_signAt_485_ok X hF hL nn u7.2 hf
                                                  · refine sx_tin hm dX13_signAt_15 (by omega) (by omega) (off := 470) (by rw [z0]; rfl) (tgt := 485) rfl ?_
                                                    refine mx_S.ext [] (mx_sub_pos [] rfl (show ([3, 2, 0, 1] : List Nat).Nodup by decide)) ?_
                                                    exact j_X13_signAt_485_ok X hF hL nn u7.2 hf
                                                  · refine sx_tin hm dX13_signAt_15 (by omega) (by omega) (off := 470) (by rw [z0]; rfl) (tgt := 485) rfl ?_
                                                    refine mx_S.ext [] (mx_sub_pos [] rfl (show ([3, 2, 0, 1] : List Nat).Nodup by decide)) ?_
                                                    exact j_X13_signAt_485_ok X hF hL nn u7.2 hf
                                                  · exact absurd (Int32.toInt_inj.mp (z0.trans (by decide : (123 : Int) = (123 : Int32).toInt))) n_20
                                                  · exact absurd (Int32.toInt_inj.mp (z0.trans (by decide : (124 : Int) = (124 : Int32).toInt))) n_21
                                                  · exact absurd (Int32.toInt_inj.mp (z0.trans (by decide : (125 : Int) = (125 : Int32).toInt))) n_22
                                                  · exact absurd (Int32.toInt_inj.mp (z0.trans (by decide : (126 : Int) = (126 : Int32).toInt))) n_23
