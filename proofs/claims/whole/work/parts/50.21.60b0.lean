set_option maxHeartbeats 4000000 in
set_option maxRecDepth 20000 in
theorem j_X13_flows_408_ok (X : Nat × (Nat → Int32)) {F L : Nat} (hF : 13 ≤ F) (hL : 300 ≤ L) (nn : Nat) {kk_155 : Nat → Int32 → Int32 → Int32 → Int32 → mx_H → Option (Int32 × mx_H)} (hk_155 : ∀ (l0 : Nat) (l1 : Int32) (l2 : Int32) (l5 : Int32) (l6 : Int32) (h : mx_H) (r : (Int32 × mx_H)), kk_155 l0 l1 l2 l5 l6 h = some r → mx_S X F L 557 155 [(0, .ref l0), (1, .int l1), (2, .int l2), (5, .int l5), (6, .int l6)] [] h 0 0 (some (.int r.1), r.2, 0, 0)) (l0 : Nat) (l1 : Int32) (l2 : Int32) (l6 : Int32) (s0 : Int32) (h : mx_H) {r : (Int32 × mx_H)} (hf : j_X13_flows_408 nn kk_155 l0 l1 l2 l6 s0 h = some r) : mx_S X F L 557 408 [(0, .ref l0), (1, .int l1), (2, .int l2), (6, .int l6)] [.int s0] h 0 0 (some (.int r.1), r.2, 0, 0) := by
  have hm : mx_mt 557 = some (yX13_flows, cX13_flows, 10, (some .boolean)) := mt_X13_flows
  unfold j_X13_flows_408 at hf
  refine mx_S.pu (pc2 := 410) (lv2 := [(5, .int s0), (0, .ref l0), (1, .int l1), (2, .int l2), (6, .int l6)]) (st2 := []) hm dX13_flows_408 rfl ?_
  refine mx_S.pu (pc2 := 412) (lv2 := [(5, .int s0), (0, .ref l0), (1, .int l1), (2, .int l2), (6, .int l6)]) (st2 := [.int l6]) hm dX13_flows_410 rfl ?_
  refine mx_S.pu (pc2 := 413) (lv2 := [(5, .int s0), (0, .ref l0), (1, .int l1), (2, .int l2), (6, .int l6)]) (st2 := [.ref l0, .int l6]) hm dX13_flows_412 rfl ?_
  refine mx_S.pu (pc2 := 415) (lv2 := [(5, .int s0), (0, .ref l0), (1, .int l1), (2, .int l2), (6, .int l6)]) (st2 := [.int l6, .ref l0, .int l6]) hm dX13_flows_413 rfl ?_
  replace hf := mx_gd_el hf; obtain ⟨c1, hf⟩ := hf
  replace hf := mx_sv_el hf; obtain ⟨u2, e_u2, hf⟩ := hf
  refine sx_cv hm dX13_flows_415 rs_RX13_938 mt_X13_code [.int l6] [.int l6] (b := l0) (ci := 13) rfl rfl rfl c1 (Nat.le_of_ble_eq_true rfl) (Nat.le_of_ble_eq_true rfl) (by omega) (by omega) (f_X13_code_ok X (by omega) (by omega) nn l0 l6 h e_u2) ?_
  clear e_u2
  show mx_S X F L 557 418 [(5, .int s0), (0, .ref l0), (1, .int l1), (2, .int l2), (6, .int l6)] [.int u2.1, .int l6] u2.2 0 0 (some (.int r.1), r.2, 0, 0)
  replace hf := mx_sv_el hf; obtain ⟨u3, e_u3, hf⟩ := hf
  refine sx_cs hm dX13_flows_418 rs_RX13_975 mt_X13_widthOf [.int u2.1] [.int l6] rfl rfl (Nat.le_of_ble_eq_true rfl) (Nat.le_of_ble_eq_true rfl) (by omega) (by omega) (f_X13_widthOf_ok X (by omega) (by omega) nn u2.1 u2.2 e_u3) ?_
  clear e_u3
  show mx_S X F L 557 421 [(5, .int s0), (0, .ref l0), (1, .int l1), (2, .int l2), (6, .int l6)] [.int u3.1, .int l6] u3.2 0 0 (some (.int r.1), r.2, 0, 0)
  replace hf := xl_el hf; obtain ⟨v4, e_v4, hf⟩ := hf
  refine mx_S.pu (pc2 := 422) (lv2 := [(5, .int s0), (0, .ref l0), (1, .int l1), (2, .int l2), (6, .int l6)]) (st2 := [.int v4]) hm dX13_flows_421 (by rw [← e_v4]; rfl) ?_
  clear e_v4
  refine mx_S.pu (pc2 := 424) (lv2 := [(6, .int v4), (5, .int s0), (0, .ref l0), (1, .int l1), (2, .int l2)]) (st2 := []) hm dX13_flows_422 rfl ?_
  refine mx_S.pu (pc2 := 155) (lv2 := [(6, .int v4), (5, .int s0), (0, .ref l0), (1, .int l1), (2, .int l2)]) (st2 := []) hm dX13_flows_424 rfl ?_
  refine mx_S.ext [(0, .ref l0), (1, .int l1), (2, .int l2), (5, .int s0), (6, .int v4)] (mx_sub_pos [2, 3, 4, 1, 0] rfl (show ([6, 5, 0, 1, 2] : List Nat).Nodup by decide)) ?_
  exact hk_155 l0 l1 l2 s0 v4 u3.2 _ hf
set_option maxHeartbeats 4000000 in
set_option maxRecDepth 20000 in
theorem j_X13_flows_407_ok (X : Nat × (Nat → Int32)) {F L : Nat} (hF : 13 ≤ F) (hL : 300 ≤ L) (nn : Nat) {kk_155 : Nat → Int32 → Int32 → Int32 → Int32 → mx_H → Option (Int32 × mx_H)} (hk_155 : ∀ (l0 : Nat) (l1 : Int32) (l2 : Int32) (l5 : Int32) (l6 : Int32) (h : mx_H) (r : (Int32 × mx_H)), kk_155 l0 l1 l2 l5 l6 h = some r → mx_S X F L 557 155 [(0, .ref l0), (1, .int l1), (2, .int l2), (5, .int l5), (6, .int l6)] [] h 0 0 (some (.int r.1), r.2, 0, 0)) (l0 : Nat) (l1 : Int32) (l2 : Int32) (l6 : Int32) (h : mx_H) {r : (Int32 × mx_H)} (hf : j_X13_flows_407 nn kk_155 l0 l1 l2 l6 h = some r) : mx_S X F L 557 407 [(0, .ref l0), (1, .int l1), (2, .int l2), (6, .int l6)] [] h 0 0 (some (.int r.1), r.2, 0, 0) := by
  have hm : mx_mt 557 = some (yX13_flows, cX13_flows, 10, (some .boolean)) := mt_X13_flows
  unfold j_X13_flows_407 at hf
  refine sx_ic (v := 0) hm dX13_flows_407 (by decide) ?_
  exact j_X13_flows_408_ok X hF hL nn hk_155 l0 l1 l2 l6 0 h hf
set_option maxHeartbeats 4000000 in
set_option maxRecDepth 20000 in
theorem j_X13_flows_363_ok (X : Nat × (Nat → Int32)) {F L : Nat} (hF : 13 ≤ F) (hL : 300 ≤ L) (nn : Nat) {kk_155 : Nat → Int32 → Int32 → Int32 → Int32 → mx_H → Option (Int32 × mx_H)} (hk_155 : ∀ (l0 : Nat) (l1 : Int32) (l2 : Int32) (l5 : Int32) (l6 : Int32) (h : mx_H) (r : (Int32 × mx_H)), kk_155 l0 l1 l2 l5 l6 h = some r → mx_S X F L 557 155 [(0, .ref l0), (1, .int l1), (2, .int l2), (5, .int l5), (6, .int l6)] [] h 0 0 (some (.int r.1), r.2, 0, 0)) (l0 : Nat) (l1 : Int32) (l2 : Int32) (l6 : Int32) (l8 : Int32) (h : mx_H) {r : (Int32 × mx_H)} (hf : j_X13_flows_363 nn kk_155 l0 l1 l2 l6 l8 h = some r) : mx_S X F L 557 363 [(0, .ref l0), (1, .int l1), (2, .int l2), (6, .int l6), (8, .int l8)] [] h 0 0 (some (.int r.1), r.2, 0, 0) := by
  have hm : mx_mt 557 = some (yX13_flows, cX13_flows, 10, (some .boolean)) := mt_X13_flows
  unfold j_X13_flows_363 at hf
  refine mx_S.pu (pc2 := 365) (lv2 := [(0, .ref l0), (1, .int l1), (2, .int l2), (6, .int l6), (8, .int l8)]) (st2 := [.int l8]) hm dX13_flows_363 rfl ?_
  refine sx_si (v := 167) hm dX13_flows_365 (by decide) ?_
  rcases mx_if_el hf with ⟨c9, hf⟩ | ⟨c9, hf⟩
  · refine sb_ic_eq hm dX13_flows_368 (tgt := 407) rfl (fun _ => ?_) (fun z => absurd c9 z)
    refine mx_S.ext [(0, .ref l0), (1, .int l1), (2, .int l2), (6, .int l6)] (mx_sub_pos [0, 1, 2, 3] rfl (show ([0, 1, 2, 6, 8] : List Nat).Nodup by decide)) ?_
    exact j_X13_flows_407_ok X hF hL nn hk_155 l0 l1 l2 l6 h hf
  · refine sb_ic_eq hm dX13_flows_368 (tgt := 407) rfl (fun z => absurd z c9) (fun _ => ?_)
    refine mx_S.pu (pc2 := 373) (lv2 := [(0, .ref l0), (1, .int l1), (2, .int l2), (6, .int l6), (8, .int l8)]) (st2 := [.int l8]) hm dX13_flows_371 rfl ?_
    refine sx_si (v := 172) hm dX13_flows_373 (by decide) ?_
    rcases mx_if_el hf with ⟨c8, hf⟩ | ⟨c8, hf⟩
    · refine sb_ic_eq hm dX13_flows_376 (tgt := 407) rfl (fun _ => ?_) (fun z => absurd c8 z)
      refine mx_S.ext [(0, .ref l0), (1, .int l1), (2, .int l2), (6, .int l6)] (mx_sub_pos [0, 1, 2, 3] rfl (show ([0, 1, 2, 6, 8] : List Nat).Nodup by decide)) ?_
      exact j_X13_flows_407_ok X hF hL nn hk_155 l0 l1 l2 l6 h hf
    · refine sb_ic_eq hm dX13_flows_376 (tgt := 407) rfl (fun z => absurd z c8) (fun _ => ?_)
      refine mx_S.pu (pc2 := 381) (lv2 := [(0, .ref l0), (1, .int l1), (2, .int l2), (6, .int l6), (8, .int l8)]) (st2 := [.int l8]) hm dX13_flows_379 rfl ?_
      refine sx_si (v := 176) hm dX13_flows_381 (by decide) ?_
      rcases mx_if_el hf with ⟨c7, hf⟩ | ⟨c7, hf⟩
      · refine sb_ic_eq hm dX13_flows_384 (tgt := 407) rfl (fun _ => ?_) (fun z => absurd c7 z)
        refine mx_S.ext [(0, .ref l0), (1, .int l1), (2, .int l2), (6, .int l6)] (mx_sub_pos [0, 1, 2, 3] rfl (show ([0, 1, 2, 6, 8] : List Nat).Nodup by decide)) ?_
        exact j_X13_flows_407_ok X hF hL nn hk_155 l0 l1 l2 l6 h hf
      · refine sb_ic_eq hm dX13_flows_384 (tgt := 407) rfl (fun z => absurd z c7) (fun _ => ?_)
        refine mx_S.pu (pc2 := 389) (lv2 := [(0, .ref l0), (1, .int l1), (2, .int l2), (6, .int l6), (8, .int l8)]) (st2 := [.int l8]) hm dX13_flows_387 rfl ?_
        refine sx_si (v := 177) hm dX13_flows_389 (by decide) ?_
        rcases mx_if_el hf with ⟨c6, hf⟩ | ⟨c6, hf⟩
        · refine sb_ic_eq hm dX13_flows_392 (tgt := 407) rfl (fun _ => ?_) (fun z => absurd c6 z)
          refine mx_S.ext [(0, .ref l0), (1, .int l1), (2, .int l2), (6, .int l6)] (mx_sub_pos [0, 1, 2, 3] rfl (show ([0, 1, 2, 6, 8] : List Nat).Nodup by decide)) ?_
          exact j_X13_flows_407_ok X hF hL nn hk_155 l0 l1 l2 l6 h hf
        · refine sb_ic_eq hm dX13_flows_392 (tgt := 407) rfl (fun z => absurd z c6) (fun _ => ?_)
          refine mx_S.pu (pc2 := 397) (lv2 := [(0, .ref l0), (1, .int l1), (2, .int l2), (6, .int l6), (8, .int l8)]) (st2 := [.int l8]) hm dX13_flows_395 rfl ?_
          refine sx_si (v := 191) hm dX13_flows_397 (by decide) ?_
          rcases mx_if_el hf with ⟨c5, hf⟩ | ⟨c5, hf⟩
          · refine sb_ic_eq hm dX13_flows_400 (tgt := 407) rfl (fun _ => ?_) (fun z => absurd c5 z)
            refine mx_S.ext [(0, .ref l0), (1, .int l1), (2, .int l2), (6, .int l6)] (mx_sub_pos [0, 1, 2, 3] rfl (show ([0, 1, 2, 6, 8] : List Nat).Nodup by decide)) ?_
            exact j_X13_flows_407_ok X hF hL nn hk_155 l0 l1 l2 l6 h hf
          · refine sb_ic_eq hm dX13_flows_400 (tgt := 407) rfl (fun z => absurd z c5) (fun _ => ?_)
            refine sx_ic (v := 1) hm dX13_flows_403 (by decide) ?_
            refine mx_S.pu (pc2 := 408) (lv2 := [(0, .ref l0), (1, .int l1), (2, .int l2), (6, .int l6), (8, .int l8)]) (st2 := [.int 1]) hm dX13_flows_404 rfl ?_
            refine mx_S.ext [(0, .ref l0), (1, .int l1), (2, .int l2), (6, .int l6)] (mx_sub_pos [0, 1, 2, 3] rfl (show ([0, 1, 2, 6, 8] : List Nat).Nodup by decide)) ?_
            exact j_X13_flows_408_ok X hF hL nn hk_155 l0 l1 l2 l6 1 h hf
set_option maxHeartbeats 4000000 in
set_option maxRecDepth 20000 in
theorem j_X13_flows_352_ok (X : Nat × (Nat → Int32)) {F L : Nat} (hF : 13 ≤ F) (hL : 300 ≤ L) (nn : Nat) (l0 : Nat) (l1 : Int32) (l2 : Int32) (l6 : Int32) (h : mx_H) {r : (Int32 × mx_H)} (hf : j_X13_flows_352 nn l0 l1 l2 l6 h = some r) : mx_S X F L 557 352 [(0, .ref l0), (1, .int l1), (2, .int l2), (6, .int l6)] [] h 0 0 (some (.int r.1), r.2, 0, 0) := by
  have hm : mx_mt 557 = some (yX13_flows, cX13_flows, 10, (some .boolean)) := mt_X13_flows
  unfold j_X13_flows_352 at hf
  refine mx_S.pu (pc2 := 353) (lv2 := [(0, .ref l0), (1, .int l1), (2, .int l2), (6, .int l6)]) (st2 := [.ref l0]) hm dX13_flows_352 rfl ?_
  refine sx_bi (v := 12) hm dX13_flows_353 (by decide) ?_
  refine mx_S.pu (pc2 := 356) (lv2 := [(0, .ref l0), (1, .int l1), (2, .int l2), (6, .int l6)]) (st2 := [.int l1, .int 12, .ref l0]) hm dX13_flows_355 rfl ?_
  refine mx_S.pu (pc2 := 357) (lv2 := [(0, .ref l0), (1, .int l1), (2, .int l2), (6, .int l6)]) (st2 := [.int l2, .int l1, .int 12, .ref l0]) hm dX13_flows_356 rfl ?_
  refine mx_S.pu (pc2 := 359) (lv2 := [(0, .ref l0), (1, .int l1), (2, .int l2), (6, .int l6)]) (st2 := [.int l6, .int l2, .int l1, .int 12, .ref l0]) hm dX13_flows_357 rfl ?_
  replace hf := mx_gd_el hf; obtain ⟨c10, hf⟩ := hf
  replace hf := mx_sv_el hf; obtain ⟨u11, e_u11, hf⟩ := hf
  refine sx_cv hm dX13_flows_359 rs_RX13_922 mt_X13_bad [.int 12, .int l1, .int l2, .int l6] [] (b := l0) (ci := 13) rfl rfl rfl c10 (Nat.le_of_ble_eq_true rfl) (Nat.le_of_ble_eq_true rfl) (by omega) (by omega) (f_X13_bad_ok X (by omega) (by omega) nn l0 12 l1 l2 l6 h e_u11) ?_
  clear e_u11
  show mx_S X F L 557 362 [(0, .ref l0), (1, .int l1), (2, .int l2), (6, .int l6)] [.int u11.1] u11.2 0 0 (some (.int r.1), r.2, 0, 0)
  replace hf := mx_gd_el hf; obtain ⟨c12, hf⟩ := hf
  cases hf
  exact sx_ire hm dX13_flows_362 rfl (xbq_ok c12).1
set_option maxHeartbeats 4000000 in
set_option maxRecDepth 20000 in
theorem j_X13_flows_240_ok (X : Nat × (Nat → Int32)) {F L : Nat} (hF : 13 ≤ F) (hL : 300 ≤ L) (nn : Nat) {kk_155 : Nat → Int32 → Int32 → Int32 → Int32 → mx_H → Option (Int32 × mx_H)} (hk_155 : ∀ (l0 : Nat) (l1 : Int32) (l2 : Int32) (l5 : Int32) (l6 : Int32) (h : mx_H) (r : (Int32 × mx_H)), kk_155 l0 l1 l2 l5 l6 h = some r → mx_S X F L 557 155 [(0, .ref l0), (1, .int l1), (2, .int l2), (5, .int l5), (6, .int l6)] [] h 0 0 (some (.int r.1), r.2, 0, 0)) (l0 : Nat) (l1 : Int32) (l2 : Int32) (l6 : Int32) (h : mx_H) {r : (Int32 × mx_H)} (hf : j_X13_flows_240 nn kk_155 l0 l1 l2 l6 h = some r) : mx_S X F L 557 240 [(0, .ref l0), (1, .int l1), (2, .int l2), (6, .int l6)] [] h 0 0 (some (.int r.1), r.2, 0, 0) := by
  have hm : mx_mt 557 = some (yX13_flows, cX13_flows, 10, (some .boolean)) := mt_X13_flows
  unfold j_X13_flows_240 at hf
  refine mx_S.pu (pc2 := 241) (lv2 := [(0, .ref l0), (1, .int l1), (2, .int l2), (6, .int l6)]) (st2 := [.ref l0]) hm dX13_flows_240 rfl ?_
  refine mx_S.pu (pc2 := 243) (lv2 := [(0, .ref l0), (1, .int l1), (2, .int l2), (6, .int l6)]) (st2 := [.int l6, .ref l0]) hm dX13_flows_241 rfl ?_
  replace hf := mx_gd_el hf; obtain ⟨c13, hf⟩ := hf
  replace hf := mx_sv_el hf; obtain ⟨u14, e_u14, hf⟩ := hf
  refine sx_cv hm dX13_flows_243 rs_RX13_1010 mt_X13_handled [.int l6] [] (b := l0) (ci := 13) rfl rfl rfl c13 (Nat.le_of_ble_eq_true rfl) (Nat.le_of_ble_eq_true rfl) (by omega) (by omega) (f_X13_handled_ok X (by omega) (by omega) nn l0 l6 h e_u14) ?_
  clear e_u14
  show mx_S X F L 557 246 [(0, .ref l0), (1, .int l1), (2, .int l2), (6, .int l6)] [.int u14.1] u14.2 0 0 (some (.int r.1), r.2, 0, 0)
  rcases mx_if_el hf with ⟨c45, hf⟩ | ⟨c45, hf⟩
  · refine sb_if_ne hm dX13_flows_246 (tgt := 260) rfl (fun _ => ?_) (fun z => absurd c45 z)
    refine mx_S.pu (pc2 := 261) (lv2 := [(0, .ref l0), (1, .int l1), (2, .int l2), (6, .int l6)]) (st2 := [.ref l0]) hm dX13_flows_260 rfl ?_
    refine mx_S.pu (pc2 := 263) (lv2 := [(0, .ref l0), (1, .int l1), (2, .int l2), (6, .int l6)]) (st2 := [.int l6, .ref l0]) hm dX13_flows_261 rfl ?_
    replace hf := mx_gd_el hf; obtain ⟨c15, hf⟩ := hf
    replace hf := mx_sv_el hf; obtain ⟨u16, e_u16, hf⟩ := hf
    refine sx_cv hm dX13_flows_263 rs_RX13_1013 mt_X13_right [.int l6] [] (b := l0) (ci := 13) rfl rfl rfl c15 (Nat.le_of_ble_eq_true rfl) (Nat.le_of_ble_eq_true rfl) (by omega) (by omega) (f_X13_right_ok X (by omega) (by omega) nn l0 l6 u14.2 e_u16) ?_
    clear e_u16
    show mx_S X F L 557 266 [(0, .ref l0), (1, .int l1), (2, .int l2), (6, .int l6)] [.int u16.1] u16.2 0 0 (some (.int r.1), r.2, 0, 0)
    rcases mx_if_el hf with ⟨c41, hf⟩ | ⟨c41, hf⟩
    · refine sb_if_ne hm dX13_flows_266 (tgt := 280) rfl (fun _ => ?_) (fun z => absurd c41 z)
      refine mx_S.pu (pc2 := 281) (lv2 := [(0, .ref l0), (1, .int l1), (2, .int l2), (6, .int l6)]) (st2 := [.ref l0]) hm dX13_flows_280 rfl ?_
      refine mx_S.pu (pc2 := 283) (lv2 := [(0, .ref l0), (1, .int l1), (2, .int l2), (6, .int l6)]) (st2 := [.int l6, .ref l0]) hm dX13_flows_281 rfl ?_
      replace hf := mx_gd_el hf; obtain ⟨c17, hf⟩ := hf
      replace hf := mx_sv_el hf; obtain ⟨u18, e_u18, hf⟩ := hf
      refine sx_cv hm dX13_flows_283 rs_RX13_1016 mt_X13_wanted [.int l6] [] (b := l0) (ci := 13) rfl rfl rfl c17 (Nat.le_of_ble_eq_true rfl) (Nat.le_of_ble_eq_true rfl) (by omega) (by omega) (f_X13_wanted_ok X (by omega) (by omega) nn l0 l6 u16.2 e_u18) ?_
      clear e_u18
      show mx_S X F L 557 286 [(0, .ref l0), (1, .int l1), (2, .int l2), (6, .int l6)] [.int u18.1] u18.2 0 0 (some (.int r.1), r.2, 0, 0)
      rcases mx_if_el hf with ⟨c37, hf⟩ | ⟨c37, hf⟩
      · refine sb_if_ne hm dX13_flows_286 (tgt := 300) rfl (fun _ => ?_) (fun z => absurd c37 z)
        refine mx_S.pu (pc2 := 301) (lv2 := [(0, .ref l0), (1, .int l1), (2, .int l2), (6, .int l6)]) (st2 := [.ref l0]) hm dX13_flows_300 rfl ?_
        refine mx_S.pu (pc2 := 303) (lv2 := [(0, .ref l0), (1, .int l1), (2, .int l2), (6, .int l6)]) (st2 := [.int l6, .ref l0]) hm dX13_flows_301 rfl ?_
        replace hf := mx_gd_el hf; obtain ⟨c19, hf⟩ := hf
        replace hf := mx_sv_el hf; obtain ⟨u20, e_u20, hf⟩ := hf
        refine sx_cv hm dX13_flows_303 rs_RX13_938 mt_X13_code [.int l6] [] (b := l0) (ci := 13) rfl rfl rfl c19 (Nat.le_of_ble_eq_true rfl) (Nat.le_of_ble_eq_true rfl) (by omega) (by omega) (f_X13_code_ok X (by omega) (by omega) nn l0 l6 u18.2 e_u20) ?_
        clear e_u20
        show mx_S X F L 557 306 [(0, .ref l0), (1, .int l1), (2, .int l2), (6, .int l6)] [.int u20.1] u20.2 0 0 (some (.int r.1), r.2, 0, 0)
        refine mx_S.pu (pc2 := 308) (lv2 := [(8, .int u20.1), (0, .ref l0), (1, .int l1), (2, .int l2), (6, .int l6)]) (st2 := []) hm dX13_flows_306 rfl ?_
        refine mx_S.pu (pc2 := 310) (lv2 := [(8, .int u20.1), (0, .ref l0), (1, .int l1), (2, .int l2), (6, .int l6)]) (st2 := [.int u20.1]) hm dX13_flows_308 rfl ?_
        replace hf := mx_sv_el hf; obtain ⟨u21, e_u21, hf⟩ := hf
        refine sx_cs hm dX13_flows_310 rs_RX13_978 mt_X13_isJump [.int u20.1] [] rfl rfl (Nat.le_of_ble_eq_true rfl) (Nat.le_of_ble_eq_true rfl) (by omega) (by omega) (f_X13_isJump_ok X (by omega) (by omega) nn u20.1 u20.2 e_u21) ?_
        clear e_u21
        show mx_S X F L 557 313 [(8, .int u20.1), (0, .ref l0), (1, .int l1), (2, .int l2), (6, .int l6)] [.int u21.1] u21.2 0 0 (some (.int r.1), r.2, 0, 0)
        rcases mx_if_el hf with ⟨c33, hf⟩ | ⟨c33, hf⟩
        · refine sb_if_eq hm dX13_flows_313 (tgt := 363) rfl (fun _ => ?_) (fun z => absurd c33 z)
          refine mx_S.ext [(0, .ref l0), (1, .int l1), (2, .int l2), (6, .int l6), (8, .int u20.1)] (mx_sub_pos [1, 2, 3, 4, 0] rfl (show ([8, 0, 1, 2, 6] : List Nat).Nodup by decide)) ?_
          exact j_X13_flows_363_ok X hF hL nn hk_155 l0 l1 l2 l6 u20.1 u21.2 hf
        · refine sb_if_eq hm dX13_flows_313 (tgt := 363) rfl (fun z => absurd z c33) (fun _ => ?_)
          refine mx_S.pu (pc2 := 317) (lv2 := [(8, .int u20.1), (0, .ref l0), (1, .int l1), (2, .int l2), (6, .int l6)]) (st2 := [.ref l0]) hm dX13_flows_316 rfl ?_
          refine mx_S.pu (pc2 := 318) (lv2 := [(8, .int u20.1), (0, .ref l0), (1, .int l1), (2, .int l2), (6, .int l6)]) (st2 := [.ref l0, .ref l0]) hm dX13_flows_317 rfl ?_
          refine mx_S.pu (pc2 := 320) (lv2 := [(8, .int u20.1), (0, .ref l0), (1, .int l1), (2, .int l2), (6, .int l6)]) (st2 := [.int l6, .ref l0, .ref l0]) hm dX13_flows_318 rfl ?_
          replace hf := mx_gd_el hf; obtain ⟨c22, hf⟩ := hf
          replace hf := mx_sv_el hf; obtain ⟨u23, e_u23, hf⟩ := hf
          refine sx_cv hm dX13_flows_320 rs_RX13_981 mt_X13_aimOf [.int l6] [.ref l0] (b := l0) (ci := 13) rfl rfl rfl c22 (Nat.le_of_ble_eq_true rfl) (Nat.le_of_ble_eq_true rfl) (by omega) (by omega) (f_X13_aimOf_ok X (by omega) (by omega) nn l0 l6 u21.2 e_u23) ?_
          clear e_u23
          show mx_S X F L 557 323 [(8, .int u20.1), (0, .ref l0), (1, .int l1), (2, .int l2), (6, .int l6)] [.int u23.1, .ref l0] u23.2 0 0 (some (.int r.1), r.2, 0, 0)
          replace hf := mx_gd_el hf; obtain ⟨c24, hf⟩ := hf
          replace hf := mx_sv_el hf; obtain ⟨u25, e_u25, hf⟩ := hf
          refine sx_cv hm dX13_flows_323 rs_RX13_995 mt_X13_frameFor [.int u23.1] [] (b := l0) (ci := 13) rfl rfl rfl c24 (Nat.le_of_ble_eq_true rfl) (Nat.le_of_ble_eq_true rfl) (by omega) (by omega) (f_X13_frameFor_ok X (by omega) (by omega) nn l0 u23.1 u23.2 e_u25) ?_
          clear e_u25
          show mx_S X F L 557 326 [(8, .int u20.1), (0, .ref l0), (1, .int l1), (2, .int l2), (6, .int l6)] [.int u25.1] u25.2 0 0 (some (.int r.1), r.2, 0, 0)
          refine mx_S.pu (pc2 := 328) (lv2 := [(9, .int u25.1), (8, .int u20.1), (0, .ref l0), (1, .int l1), (2, .int l2), (6, .int l6)]) (st2 := []) hm dX13_flows_326 rfl ?_
          refine mx_S.pu (pc2 := 330) (lv2 := [(9, .int u25.1), (8, .int u20.1), (0, .ref l0), (1, .int l1), (2, .int l2), (6, .int l6)]) (st2 := [.int u25.1]) hm dX13_flows_328 rfl ?_
          refine sx_ic (v := (-1)) hm dX13_flows_330 (by decide) ?_
          rcases mx_if_el hf with ⟨c32, hf⟩ | ⟨c32, hf⟩
          · refine sb_ic_eq hm dX13_flows_331 (tgt := 352) rfl (fun _ => ?_) (fun z => absurd c32 z)
            refine mx_S.ext [(0, .ref l0), (1, .int l1), (2, .int l2), (6, .int l6)] (mx_sub_pos [2, 3, 4, 5] rfl (show ([9, 8, 0, 1, 2, 6] : List Nat).Nodup by decide)) ?_
            exact j_X13_flows_352_ok X hF hL nn l0 l1 l2 l6 u25.2 hf
          · refine sb_ic_eq hm dX13_flows_331 (tgt := 352) rfl (fun z => absurd z c32) (fun _ => ?_)
            refine mx_S.pu (pc2 := 335) (lv2 := [(9, .int u25.1), (8, .int u20.1), (0, .ref l0), (1, .int l1), (2, .int l2), (6, .int l6)]) (st2 := [.ref l0]) hm dX13_flows_334 rfl ?_
            refine mx_S.pu (pc2 := 337) (lv2 := [(9, .int u25.1), (8, .int u20.1), (0, .ref l0), (1, .int l1), (2, .int l2), (6, .int l6)]) (st2 := [.int u25.1, .ref l0]) hm dX13_flows_335 rfl ?_
            replace hf := mx_gd_el hf; obtain ⟨c26, hf⟩ := hf
            replace hf := mx_sv_el hf; obtain ⟨u27, e_u27, hf⟩ := hf
            refine sx_cv hm dX13_flows_337 rs_RX13_1001 mt_X13_localsFit [.int u25.1] [] (b := l0) (ci := 13) rfl rfl rfl c26 (Nat.le_of_ble_eq_true rfl) (Nat.le_of_ble_eq_true rfl) (by omega) (by omega) (f_X13_localsFit_ok X (by omega) (by omega) nn l0 u25.1 u25.2 e_u27) ?_
            clear e_u27
            show mx_S X F L 557 340 [(9, .int u25.1), (8, .int u20.1), (0, .ref l0), (1, .int l1), (2, .int l2), (6, .int l6)] [.int u27.1] u27.2 0 0 (some (.int r.1), r.2, 0, 0)
            rcases mx_if_el hf with ⟨c31, hf⟩ | ⟨c31, hf⟩
            · refine sb_if_eq hm dX13_flows_340 (tgt := 352) rfl (fun _ => ?_) (fun z => absurd c31 z)
              refine mx_S.ext [(0, .ref l0), (1, .int l1), (2, .int l2), (6, .int l6)] (mx_sub_pos [2, 3, 4, 5] rfl (show ([9, 8, 0, 1, 2, 6] : List Nat).Nodup by decide)) ?_
              exact j_X13_flows_352_ok X hF hL nn l0 l1 l2 l6 u27.2 hf
            · refine sb_if_eq hm dX13_flows_340 (tgt := 352) rfl (fun z => absurd z c31) (fun _ => ?_)
              refine mx_S.pu (pc2 := 344) (lv2 := [(9, .int u25.1), (8, .int u20.1), (0, .ref l0), (1, .int l1), (2, .int l2), (6, .int l6)]) (st2 := [.ref l0]) hm dX13_flows_343 rfl ?_
              refine mx_S.pu (pc2 := 346) (lv2 := [(9, .int u25.1), (8, .int u20.1), (0, .ref l0), (1, .int l1), (2, .int l2), (6, .int l6)]) (st2 := [.int u25.1, .ref l0]) hm dX13_flows_344 rfl ?_
              replace hf := mx_gd_el hf; obtain ⟨c28, hf⟩ := hf
              replace hf := mx_sv_el hf; obtain ⟨u29, e_u29, hf⟩ := hf
              refine sx_cv hm dX13_flows_346 rs_RX13_1004 mt_X13_stackFits [.int u25.1] [] (b := l0) (ci := 13) rfl rfl rfl c28 (Nat.le_of_ble_eq_true rfl) (Nat.le_of_ble_eq_true rfl) (by omega) (by omega) (f_X13_stackFits_ok X (by omega) (by omega) nn l0 u25.1 u27.2 e_u29) ?_
              clear e_u29
              show mx_S X F L 557 349 [(9, .int u25.1), (8, .int u20.1), (0, .ref l0), (1, .int l1), (2, .int l2), (6, .int l6)] [.int u29.1] u29.2 0 0 (some (.int r.1), r.2, 0, 0)
              rcases mx_if_el hf with ⟨c30, hf⟩ | ⟨c30, hf⟩
              · refine sb_if_ne hm dX13_flows_349 (tgt := 363) rfl (fun _ => ?_) (fun z => absurd c30 z)
                refine mx_S.ext [(0, .ref l0), (1, .int l1), (2, .int l2), (6, .int l6), (8, .int u20.1)] (mx_sub_pos [2, 3, 4, 5, 1] rfl (show ([9, 8, 0, 1, 2, 6] : List Nat).Nodup by decide)) ?_
                exact j_X13_flows_363_ok X hF hL nn hk_155 l0 l1 l2 l6 u20.1 u29.2 hf
              · refine sb_if_ne hm dX13_flows_349 (tgt := 363) rfl (fun z => absurd z c30) (fun _ => ?_)
                refine mx_S.ext [(0, .ref l0), (1, .int l1), (2, .int l2), (6, .int l6)] (mx_sub_pos [2, 3, 4, 5] rfl (show ([9, 8, 0, 1, 2, 6] : List Nat).Nodup by decide)) ?_
                exact j_X13_flows_352_ok X hF hL nn l0 l1 l2 l6 u29.2 hf
      · refine sb_if_ne hm dX13_flows_286 (tgt := 300) rfl (fun z => absurd z c37) (fun _ => ?_)
        refine mx_S.pu (pc2 := 290) (lv2 := [(0, .ref l0), (1, .int l1), (2, .int l2), (6, .int l6)]) (st2 := [.ref l0]) hm dX13_flows_289 rfl ?_
        refine sx_bi (v := 12) hm dX13_flows_290 (by decide) ?_
        refine mx_S.pu (pc2 := 293) (lv2 := [(0, .ref l0), (1, .int l1), (2, .int l2), (6, .int l6)]) (st2 := [.int l1, .int 12, .ref l0]) hm dX13_flows_292 rfl ?_
        refine mx_S.pu (pc2 := 294) (lv2 := [(0, .ref l0), (1, .int l1), (2, .int l2), (6, .int l6)]) (st2 := [.int l2, .int l1, .int 12, .ref l0]) hm dX13_flows_293 rfl ?_
        refine mx_S.pu (pc2 := 296) (lv2 := [(0, .ref l0), (1, .int l1), (2, .int l2), (6, .int l6)]) (st2 := [.int l6, .int l2, .int l1, .int 12, .ref l0]) hm dX13_flows_294 rfl ?_
        replace hf := mx_gd_el hf; obtain ⟨c34, hf⟩ := hf
        replace hf := mx_sv_el hf; obtain ⟨u35, e_u35, hf⟩ := hf
        refine sx_cv hm dX13_flows_296 rs_RX13_922 mt_X13_bad [.int 12, .int l1, .int l2, .int l6] [] (b := l0) (ci := 13) rfl rfl rfl c34 (Nat.le_of_ble_eq_true rfl) (Nat.le_of_ble_eq_true rfl) (by omega) (by omega) (f_X13_bad_ok X (by omega) (by omega) nn l0 12 l1 l2 l6 u18.2 e_u35) ?_
        clear e_u35
        show mx_S X F L 557 299 [(0, .ref l0), (1, .int l1), (2, .int l2), (6, .int l6)] [.int u35.1] u35.2 0 0 (some (.int r.1), r.2, 0, 0)
        replace hf := mx_gd_el hf; obtain ⟨c36, hf⟩ := hf
        cases hf
        exact sx_ire hm dX13_flows_299 rfl (xbq_ok c36).1
    · refine sb_if_ne hm dX13_flows_266 (tgt := 280) rfl (fun z => absurd z c41) (fun _ => ?_)
      refine mx_S.pu (pc2 := 270) (lv2 := [(0, .ref l0), (1, .int l1), (2, .int l2), (6, .int l6)]) (st2 := [.ref l0]) hm dX13_flows_269 rfl ?_
      refine sx_bi (v := 11) hm dX13_flows_270 (by decide) ?_
      refine mx_S.pu (pc2 := 273) (lv2 := [(0, .ref l0), (1, .int l1), (2, .int l2), (6, .int l6)]) (st2 := [.int l1, .int 11, .ref l0]) hm dX13_flows_272 rfl ?_
      refine mx_S.pu (pc2 := 274) (lv2 := [(0, .ref l0), (1, .int l1), (2, .int l2), (6, .int l6)]) (st2 := [.int l2, .int l1, .int 11, .ref l0]) hm dX13_flows_273 rfl ?_
      refine mx_S.pu (pc2 := 276) (lv2 := [(0, .ref l0), (1, .int l1), (2, .int l2), (6, .int l6)]) (st2 := [.int l6, .int l2, .int l1, .int 11, .ref l0]) hm dX13_flows_274 rfl ?_
      replace hf := mx_gd_el hf; obtain ⟨c38, hf⟩ := hf
      replace hf := mx_sv_el hf; obtain ⟨u39, e_u39, hf⟩ := hf
      refine sx_cv hm dX13_flows_276 rs_RX13_922 mt_X13_bad [.int 11, .int l1, .int l2, .int l6] [] (b := l0) (ci := 13) rfl rfl rfl c38 (Nat.le_of_ble_eq_true rfl) (Nat.le_of_ble_eq_true rfl) (by omega) (by omega) (f_X13_bad_ok X (by omega) (by omega) nn l0 11 l1 l2 l6 u16.2 e_u39) ?_
      clear e_u39
      show mx_S X F L 557 279 [(0, .ref l0), (1, .int l1), (2, .int l2), (6, .int l6)] [.int u39.1] u39.2 0 0 (some (.int r.1), r.2, 0, 0)
      replace hf := mx_gd_el hf; obtain ⟨c40, hf⟩ := hf
      cases hf
      exact sx_ire hm dX13_flows_279 rfl (xbq_ok c40).1
  · refine sb_if_ne hm dX13_flows_246 (tgt := 260) rfl (fun z => absurd z c45) (fun _ => ?_)
    refine mx_S.pu (pc2 := 250) (lv2 := [(0, .ref l0), (1, .int l1), (2, .int l2), (6, .int l6)]) (st2 := [.ref l0]) hm dX13_flows_249 rfl ?_
    refine sx_bi (v := 12) hm dX13_flows_250 (by decide) ?_
    refine mx_S.pu (pc2 := 253) (lv2 := [(0, .ref l0), (1, .int l1), (2, .int l2), (6, .int l6)]) (st2 := [.int l1, .int 12, .ref l0]) hm dX13_flows_252 rfl ?_
    refine mx_S.pu (pc2 := 254) (lv2 := [(0, .ref l0), (1, .int l1), (2, .int l2), (6, .int l6)]) (st2 := [.int l2, .int l1, .int 12, .ref l0]) hm dX13_flows_253 rfl ?_
    refine mx_S.pu (pc2 := 256) (lv2 := [(0, .ref l0), (1, .int l1), (2, .int l2), (6, .int l6)]) (st2 := [.int l6, .int l2, .int l1, .int 12, .ref l0]) hm dX13_flows_254 rfl ?_
    replace hf := mx_gd_el hf; obtain ⟨c42, hf⟩ := hf
    replace hf := mx_sv_el hf; obtain ⟨u43, e_u43, hf⟩ := hf
    refine sx_cv hm dX13_flows_256 rs_RX13_922 mt_X13_bad [.int 12, .int l1, .int l2, .int l6] [] (b := l0) (ci := 13) rfl rfl rfl c42 (Nat.le_of_ble_eq_true rfl) (Nat.le_of_ble_eq_true rfl) (by omega) (by omega) (f_X13_bad_ok X (by omega) (by omega) nn l0 12 l1 l2 l6 u14.2 e_u43) ?_
    clear e_u43
    show mx_S X F L 557 259 [(0, .ref l0), (1, .int l1), (2, .int l2), (6, .int l6)] [.int u43.1] u43.2 0 0 (some (.int r.1), r.2, 0, 0)
    replace hf := mx_gd_el hf; obtain ⟨c44, hf⟩ := hf
    cases hf
    exact sx_ire hm dX13_flows_259 rfl (xbq_ok c44).1
set_option maxHeartbeats 4000000 in
set_option maxRecDepth 20000 in
theorem j_X13_flows_234_ok (X : Nat × (Nat → Int32)) {F L : Nat} (hF : 13 ≤ F) (hL : 300 ≤ L) (nn : Nat) {kk_155 : Nat → Int32 → Int32 → Int32 → Int32 → mx_H → Option (Int32 × mx_H)} (hk_155 : ∀ (l0 : Nat) (l1 : Int32) (l2 : Int32) (l5 : Int32) (l6 : Int32) (h : mx_H) (r : (Int32 × mx_H)), kk_155 l0 l1 l2 l5 l6 h = some r → mx_S X F L 557 155 [(0, .ref l0), (1, .int l1), (2, .int l2), (5, .int l5), (6, .int l6)] [] h 0 0 (some (.int r.1), r.2, 0, 0)) (l0 : Nat) (l1 : Int32) (l2 : Int32) (l6 : Int32) (l7 : Int32) (h : mx_H) {r : (Int32 × mx_H)} (hf : j_X13_flows_234 nn kk_155 l0 l1 l2 l6 l7 h = some r) : mx_S X F L 557 234 [(0, .ref l0), (1, .int l1), (2, .int l2), (6, .int l6), (7, .int l7)] [] h 0 0 (some (.int r.1), r.2, 0, 0) := by
  have hm : mx_mt 557 = some (yX13_flows, cX13_flows, 10, (some .boolean)) := mt_X13_flows
  unfold j_X13_flows_234 at hf
  refine mx_S.pu (pc2 := 235) (lv2 := [(0, .ref l0), (1, .int l1), (2, .int l2), (6, .int l6), (7, .int l7)]) (st2 := [.ref l0]) hm dX13_flows_234 rfl ?_
  refine mx_S.pu (pc2 := 237) (lv2 := [(0, .ref l0), (1, .int l1), (2, .int l2), (6, .int l6), (7, .int l7)]) (st2 := [.int l7, .ref l0]) hm dX13_flows_235 rfl ?_
  replace hf := mx_gd_el hf; obtain ⟨c46, hf⟩ := hf
  replace hf := mx_sv_el hf; obtain ⟨u47, e_u47, hf⟩ := hf
  refine sx_cv hm dX13_flows_237 rs_RX13_1007 mt_X13_becomes [.int l7] [] (b := l0) (ci := 13) rfl rfl rfl c46 (Nat.le_of_ble_eq_true rfl) (Nat.le_of_ble_eq_true rfl) (by omega) (by omega) (f_X13_becomes_ok X (by omega) (by omega) nn l0 l7 h e_u47) ?_
  clear e_u47
  show mx_S X F L 557 240 [(0, .ref l0), (1, .int l1), (2, .int l2), (6, .int l6), (7, .int l7)] [] u47 0 0 (some (.int r.1), r.2, 0, 0)
  refine mx_S.ext [(0, .ref l0), (1, .int l1), (2, .int l2), (6, .int l6)] (mx_sub_pos [0, 1, 2, 3] rfl (show ([0, 1, 2, 6, 7] : List Nat).Nodup by decide)) ?_
  exact j_X13_flows_240_ok X hF hL nn hk_155 l0 l1 l2 l6 u47 hf
set_option maxHeartbeats 4000000 in
set_option maxRecDepth 20000 in
theorem j_X13_flows_223_ok (X : Nat × (Nat → Int32)) {F L : Nat} (hF : 13 ≤ F) (hL : 300 ≤ L) (nn : Nat) (l0 : Nat) (l1 : Int32) (l2 : Int32) (l6 : Int32) (h : mx_H) {r : (Int32 × mx_H)} (hf : j_X13_flows_223 nn l0 l1 l2 l6 h = some r) : mx_S X F L 557 223 [(0, .ref l0), (1, .int l1), (2, .int l2), (6, .int l6)] [] h 0 0 (some (.int r.1), r.2, 0, 0) := by
  have hm : mx_mt 557 = some (yX13_flows, cX13_flows, 10, (some .boolean)) := mt_X13_flows
  unfold j_X13_flows_223 at hf
  refine mx_S.pu (pc2 := 224) (lv2 := [(0, .ref l0), (1, .int l1), (2, .int l2), (6, .int l6)]) (st2 := [.ref l0]) hm dX13_flows_223 rfl ?_
  refine sx_bi (v := 12) hm dX13_flows_224 (by decide) ?_
  refine mx_S.pu (pc2 := 227) (lv2 := [(0, .ref l0), (1, .int l1), (2, .int l2), (6, .int l6)]) (st2 := [.int l1, .int 12, .ref l0]) hm dX13_flows_226 rfl ?_
  refine mx_S.pu (pc2 := 228) (lv2 := [(0, .ref l0), (1, .int l1), (2, .int l2), (6, .int l6)]) (st2 := [.int l2, .int l1, .int 12, .ref l0]) hm dX13_flows_227 rfl ?_
  refine mx_S.pu (pc2 := 230) (lv2 := [(0, .ref l0), (1, .int l1), (2, .int l2), (6, .int l6)]) (st2 := [.int l6, .int l2, .int l1, .int 12, .ref l0]) hm dX13_flows_228 rfl ?_
  replace hf := mx_gd_el hf; obtain ⟨c48, hf⟩ := hf
  replace hf := mx_sv_el hf; obtain ⟨u49, e_u49, hf⟩ := hf
  refine sx_cv hm dX13_flows_230 rs_RX13_922 mt_X13_bad [.int 12, .int l1, .int l2, .int l6] [] (b := l0) (ci := 13) rfl rfl rfl c48 (Nat.le_of_ble_eq_true rfl) (Nat.le_of_ble_eq_true rfl) (by omega) (by omega) (f_X13_bad_ok X (by omega) (by omega) nn l0 12 l1 l2 l6 h e_u49) ?_
  clear e_u49
  show mx_S X F L 557 233 [(0, .ref l0), (1, .int l1), (2, .int l2), (6, .int l6)] [.int u49.1] u49.2 0 0 (some (.int r.1), r.2, 0, 0)
  replace hf := mx_gd_el hf; obtain ⟨c50, hf⟩ := hf
  cases hf
  exact sx_ire hm dX13_flows_233 rfl (xbq_ok c50).1
set_option maxHeartbeats 4000000 in
set_option maxRecDepth 20000 in
theorem j_X13_flows_194_ok (X : Nat × (Nat → Int32)) {F L : Nat} (hF : 13 ≤ F) (hL : 300 ≤ L) (nn : Nat) {kk_155 : Nat → Int32 → Int32 → Int32 → Int32 → mx_H → Option (Int32 × mx_H)} (hk_155 : ∀ (l0 : Nat) (l1 : Int32) (l2 : Int32) (l5 : Int32) (l6 : Int32) (h : mx_H) (r : (Int32 × mx_H)), kk_155 l0 l1 l2 l5 l6 h = some r → mx_S X F L 557 155 [(0, .ref l0), (1, .int l1), (2, .int l2), (5, .int l5), (6, .int l6)] [] h 0 0 (some (.int r.1), r.2, 0, 0)) (l0 : Nat) (l1 : Int32) (l2 : Int32) (l5 : Int32) (l6 : Int32) (l7 : Int32) (h : mx_H) {r : (Int32 × mx_H)} (hf : j_X13_flows_194 nn kk_155 l0 l1 l2 l5 l6 l7 h = some r) : mx_S X F L 557 194 [(0, .ref l0), (1, .int l1), (2, .int l2), (5, .int l5), (6, .int l6), (7, .int l7)] [] h 0 0 (some (.int r.1), r.2, 0, 0) := by
  have hm : mx_mt 557 = some (yX13_flows, cX13_flows, 10, (some .boolean)) := mt_X13_flows
  unfold j_X13_flows_194 at hf
  refine mx_S.pu (pc2 := 196) (lv2 := [(0, .ref l0), (1, .int l1), (2, .int l2), (5, .int l5), (6, .int l6), (7, .int l7)]) (st2 := [.int l7]) hm dX13_flows_194 rfl ?_
  refine sx_ic (v := (-1)) hm dX13_flows_196 (by decide) ?_
  rcases mx_if_el hf with ⟨c58, hf⟩ | ⟨c58, hf⟩
  · refine sb_ic_eq hm dX13_flows_197 (tgt := 240) rfl (fun _ => ?_) (fun z => absurd c58 z)
    refine mx_S.ext [(0, .ref l0), (1, .int l1), (2, .int l2), (6, .int l6)] (mx_sub_pos [0, 1, 2, 4] rfl (show ([0, 1, 2, 5, 6, 7] : List Nat).Nodup by decide)) ?_
    exact j_X13_flows_240_ok X hF hL nn hk_155 l0 l1 l2 l6 h hf
  · refine sb_ic_eq hm dX13_flows_197 (tgt := 240) rfl (fun z => absurd z c58) (fun _ => ?_)
    refine mx_S.pu (pc2 := 202) (lv2 := [(0, .ref l0), (1, .int l1), (2, .int l2), (5, .int l5), (6, .int l6), (7, .int l7)]) (st2 := [.int l5]) hm dX13_flows_200 rfl ?_
    rcases mx_if_el hf with ⟨c57, hf⟩ | ⟨c57, hf⟩
    · refine sb_if_eq hm dX13_flows_202 (tgt := 234) rfl (fun _ => ?_) (fun z => absurd c57 z)
      refine mx_S.ext [(0, .ref l0), (1, .int l1), (2, .int l2), (6, .int l6), (7, .int l7)] (mx_sub_pos [0, 1, 2, 4, 5] rfl (show ([0, 1, 2, 5, 6, 7] : List Nat).Nodup by decide)) ?_
      exact j_X13_flows_234_ok X hF hL nn hk_155 l0 l1 l2 l6 l7 h hf
    · refine sb_if_eq hm dX13_flows_202 (tgt := 234) rfl (fun z => absurd z c57) (fun _ => ?_)
      refine mx_S.pu (pc2 := 206) (lv2 := [(0, .ref l0), (1, .int l1), (2, .int l2), (5, .int l5), (6, .int l6), (7, .int l7)]) (st2 := [.ref l0]) hm dX13_flows_205 rfl ?_
      refine mx_S.pu (pc2 := 208) (lv2 := [(0, .ref l0), (1, .int l1), (2, .int l2), (5, .int l5), (6, .int l6), (7, .int l7)]) (st2 := [.int l7, .ref l0]) hm dX13_flows_206 rfl ?_
      replace hf := mx_gd_el hf; obtain ⟨c51, hf⟩ := hf
      replace hf := mx_sv_el hf; obtain ⟨u52, e_u52, hf⟩ := hf
      refine sx_cv hm dX13_flows_208 rs_RX13_1001 mt_X13_localsFit [.int l7] [] (b := l0) (ci := 13) rfl rfl rfl c51 (Nat.le_of_ble_eq_true rfl) (Nat.le_of_ble_eq_true rfl) (by omega) (by omega) (f_X13_localsFit_ok X (by omega) (by omega) nn l0 l7 h e_u52) ?_
      clear e_u52
      show mx_S X F L 557 211 [(0, .ref l0), (1, .int l1), (2, .int l2), (5, .int l5), (6, .int l6), (7, .int l7)] [.int u52.1] u52.2 0 0 (some (.int r.1), r.2, 0, 0)
      rcases mx_if_el hf with ⟨c56, hf⟩ | ⟨c56, hf⟩
      · refine sb_if_eq hm dX13_flows_211 (tgt := 223) rfl (fun _ => ?_) (fun z => absurd c56 z)
        refine mx_S.ext [(0, .ref l0), (1, .int l1), (2, .int l2), (6, .int l6)] (mx_sub_pos [0, 1, 2, 4] rfl (show ([0, 1, 2, 5, 6, 7] : List Nat).Nodup by decide)) ?_
        exact j_X13_flows_223_ok X hF hL nn l0 l1 l2 l6 u52.2 hf
      · refine sb_if_eq hm dX13_flows_211 (tgt := 223) rfl (fun z => absurd z c56) (fun _ => ?_)
        refine mx_S.pu (pc2 := 215) (lv2 := [(0, .ref l0), (1, .int l1), (2, .int l2), (5, .int l5), (6, .int l6), (7, .int l7)]) (st2 := [.ref l0]) hm dX13_flows_214 rfl ?_
        refine mx_S.pu (pc2 := 217) (lv2 := [(0, .ref l0), (1, .int l1), (2, .int l2), (5, .int l5), (6, .int l6), (7, .int l7)]) (st2 := [.int l7, .ref l0]) hm dX13_flows_215 rfl ?_
        replace hf := mx_gd_el hf; obtain ⟨c53, hf⟩ := hf
        replace hf := mx_sv_el hf; obtain ⟨u54, e_u54, hf⟩ := hf
        refine sx_cv hm dX13_flows_217 rs_RX13_1004 mt_X13_stackFits [.int l7] [] (b := l0) (ci := 13) rfl rfl rfl c53 (Nat.le_of_ble_eq_true rfl) (Nat.le_of_ble_eq_true rfl) (by omega) (by omega) (f_X13_stackFits_ok X (by omega) (by omega) nn l0 l7 u52.2 e_u54) ?_
        clear e_u54
        show mx_S X F L 557 220 [(0, .ref l0), (1, .int l1), (2, .int l2), (5, .int l5), (6, .int l6), (7, .int l7)] [.int u54.1] u54.2 0 0 (some (.int r.1), r.2, 0, 0)
        rcases mx_if_el hf with ⟨c55, hf⟩ | ⟨c55, hf⟩
        · refine sb_if_ne hm dX13_flows_220 (tgt := 234) rfl (fun _ => ?_) (fun z => absurd c55 z)
          refine mx_S.ext [(0, .ref l0), (1, .int l1), (2, .int l2), (6, .int l6), (7, .int l7)] (mx_sub_pos [0, 1, 2, 4, 5] rfl (show ([0, 1, 2, 5, 6, 7] : List Nat).Nodup by decide)) ?_
          exact j_X13_flows_234_ok X hF hL nn hk_155 l0 l1 l2 l6 l7 u54.2 hf
        · refine sb_if_ne hm dX13_flows_220 (tgt := 234) rfl (fun z => absurd z c55) (fun _ => ?_)
          refine mx_S.ext [(0, .ref l0), (1, .int l1), (2, .int l2), (6, .int l6)] (mx_sub_pos [0, 1, 2, 4] rfl (show ([0, 1, 2, 5, 6, 7] : List Nat).Nodup by decide)) ?_
          exact j_X13_flows_223_ok X hF hL nn l0 l1 l2 l6 u54.2 hf
set_option maxHeartbeats 4000000 in
set_option maxRecDepth 20000 in
theorem w_X13_flows_155_ok (X : Nat × (Nat → Int32)) {F L : Nat} (hF : 13 ≤ F) (hL : 300 ≤ L) (nn : Nat) : ∀ (k : Nat) (l0 : Nat) (l1 : Int32) (l2 : Int32) (l5 : Int32) (l6 : Int32) (h : mx_H) (r : (Int32 × mx_H)), w_X13_flows_155 nn k l0 l1 l2 l5 l6 h = some r → mx_S X F L 557 155 [(0, .ref l0), (1, .int l1), (2, .int l2), (5, .int l5), (6, .int l6)] [] h 0 0 (some (.int r.1), r.2, 0, 0) := by
  have hm : mx_mt 557 = some (yX13_flows, cX13_flows, 10, (some .boolean)) := mt_X13_flows
  intro k
  induction k with
  | zero => intro l0 l1 l2 l5 l6 h r hf; cases hf
  | succ k ih =>
    intro l0 l1 l2 l5 l6 h r hf
    unfold w_X13_flows_155 at hf
    refine mx_S.pu (pc2 := 157) (lv2 := [(0, .ref l0), (1, .int l1), (2, .int l2), (5, .int l5), (6, .int l6)]) (st2 := [.int l6]) hm dX13_flows_155 rfl ?_
    refine mx_S.pu (pc2 := 158) (lv2 := [(0, .ref l0), (1, .int l1), (2, .int l2), (5, .int l5), (6, .int l6)]) (st2 := [.ref l0, .int l6]) hm dX13_flows_157 rfl ?_
    replace hf := mx_sv_el hf; obtain ⟨v59, e_v59, hf⟩ := hf
    refine sx_get hm dX13_flows_158 rs_RX13_970 (xgi_el e_v59) ?_
    clear e_v59
    rcases mx_if_el hf with ⟨c72, hf⟩ | ⟨c72, hf⟩
    · refine sb_ic_ge hm dX13_flows_161 (tgt := 427) rfl (fun _ => ?_) (fun z => absurd c72 z)
      refine mx_S.pu (pc2 := 429) (lv2 := [(0, .ref l0), (1, .int l1), (2, .int l2), (5, .int l5), (6, .int l6)]) (st2 := [.int l5]) hm dX13_flows_427 rfl ?_
      rcases mx_if_el hf with ⟨c64, hf⟩ | ⟨c64, hf⟩
      · refine sb_if_eq hm dX13_flows_429 (tgt := 447) rfl (fun _ => ?_) (fun z => absurd c64 z)
        refine sx_ic (v := 1) hm dX13_flows_447 (by decide) ?_
        cases hf
        exact sx_ire hm dX13_flows_448 rfl (by decide)
      · refine sb_if_eq hm dX13_flows_429 (tgt := 447) rfl (fun z => absurd z c64) (fun _ => ?_)
        refine mx_S.pu (pc2 := 433) (lv2 := [(0, .ref l0), (1, .int l1), (2, .int l2), (5, .int l5), (6, .int l6)]) (st2 := [.ref l0]) hm dX13_flows_432 rfl ?_
        refine sx_bi (v := 10) hm dX13_flows_433 (by decide) ?_
        refine mx_S.pu (pc2 := 436) (lv2 := [(0, .ref l0), (1, .int l1), (2, .int l2), (5, .int l5), (6, .int l6)]) (st2 := [.int l1, .int 10, .ref l0]) hm dX13_flows_435 rfl ?_
        refine mx_S.pu (pc2 := 437) (lv2 := [(0, .ref l0), (1, .int l1), (2, .int l2), (5, .int l5), (6, .int l6)]) (st2 := [.int l2, .int l1, .int 10, .ref l0]) hm dX13_flows_436 rfl ?_
        refine mx_S.pu (pc2 := 438) (lv2 := [(0, .ref l0), (1, .int l1), (2, .int l2), (5, .int l5), (6, .int l6)]) (st2 := [.ref l0, .int l2, .int l1, .int 10, .ref l0]) hm dX13_flows_437 rfl ?_
        replace hf := mx_sv_el hf; obtain ⟨v60, e_v60, hf⟩ := hf
        refine sx_get hm dX13_flows_438 rs_RX13_970 (xgi_el e_v60) ?_
        clear e_v60
        replace hf := mx_gd_el hf; obtain ⟨c61, hf⟩ := hf
        replace hf := mx_sv_el hf; obtain ⟨u62, e_u62, hf⟩ := hf
        refine sx_cv hm dX13_flows_441 rs_RX13_922 mt_X13_bad [.int 10, .int l1, .int l2, .int v60] [] (b := l0) (ci := 13) rfl rfl rfl c61 (Nat.le_of_ble_eq_true rfl) (Nat.le_of_ble_eq_true rfl) (by omega) (by omega) (f_X13_bad_ok X (by omega) (by omega) nn l0 10 l1 l2 v60 h e_u62) ?_
        clear e_u62
        show mx_S X F L 557 444 [(0, .ref l0), (1, .int l1), (2, .int l2), (5, .int l5), (6, .int l6)] [.int u62.1] u62.2 0 0 (some (.int r.1), r.2, 0, 0)
        refine mx_S.pu (pc2 := 448) (lv2 := [(0, .ref l0), (1, .int l1), (2, .int l2), (5, .int l5), (6, .int l6)]) (st2 := [.int u62.1]) hm dX13_flows_444 rfl ?_
        replace hf := mx_gd_el hf; obtain ⟨c63, hf⟩ := hf
        cases hf
        exact sx_ire hm dX13_flows_448 rfl (xbq_ok c63).1
    · refine sb_ic_ge hm dX13_flows_161 (tgt := 427) rfl (fun z => absurd z c72) (fun _ => ?_)
      refine mx_S.pu (pc2 := 165) (lv2 := [(0, .ref l0), (1, .int l1), (2, .int l2), (5, .int l5), (6, .int l6)]) (st2 := [.ref l0]) hm dX13_flows_164 rfl ?_
      refine mx_S.pu (pc2 := 167) (lv2 := [(0, .ref l0), (1, .int l1), (2, .int l2), (5, .int l5), (6, .int l6)]) (st2 := [.int l6, .ref l0]) hm dX13_flows_165 rfl ?_
      replace hf := mx_gd_el hf; obtain ⟨c65, hf⟩ := hf
      replace hf := mx_sv_el hf; obtain ⟨u66, e_u66, hf⟩ := hf
      refine sx_cv hm dX13_flows_167 rs_RX13_995 mt_X13_frameFor [.int l6] [] (b := l0) (ci := 13) rfl rfl rfl c65 (Nat.le_of_ble_eq_true rfl) (Nat.le_of_ble_eq_true rfl) (by omega) (by omega) (f_X13_frameFor_ok X (by omega) (by omega) nn l0 l6 h e_u66) ?_
      clear e_u66
      show mx_S X F L 557 170 [(0, .ref l0), (1, .int l1), (2, .int l2), (5, .int l5), (6, .int l6)] [.int u66.1] u66.2 0 0 (some (.int r.1), r.2, 0, 0)
      refine mx_S.pu (pc2 := 172) (lv2 := [(7, .int u66.1), (0, .ref l0), (1, .int l1), (2, .int l2), (5, .int l5), (6, .int l6)]) (st2 := []) hm dX13_flows_170 rfl ?_
      refine mx_S.pu (pc2 := 174) (lv2 := [(7, .int u66.1), (0, .ref l0), (1, .int l1), (2, .int l2), (5, .int l5), (6, .int l6)]) (st2 := [.int l5]) hm dX13_flows_172 rfl ?_
      rcases mx_if_el hf with ⟨c71, hf⟩ | ⟨c71, hf⟩
      · refine sb_if_ne hm dX13_flows_174 (tgt := 194) rfl (fun _ => ?_) (fun z => absurd c71 z)
        refine mx_S.ext [(0, .ref l0), (1, .int l1), (2, .int l2), (5, .int l5), (6, .int l6), (7, .int u66.1)] (mx_sub_pos [1, 2, 3, 4, 5, 0] rfl (show ([7, 0, 1, 2, 5, 6] : List Nat).Nodup by decide)) ?_
        exact j_X13_flows_194_ok X hF hL nn ih l0 l1 l2 l5 l6 u66.1 u66.2 hf
      · refine sb_if_ne hm dX13_flows_174 (tgt := 194) rfl (fun z => absurd z c71) (fun _ => ?_)
        refine mx_S.pu (pc2 := 179) (lv2 := [(7, .int u66.1), (0, .ref l0), (1, .int l1), (2, .int l2), (5, .int l5), (6, .int l6)]) (st2 := [.int u66.1]) hm dX13_flows_177 rfl ?_
        refine sx_ic (v := (-1)) hm dX13_flows_179 (by decide) ?_
        rcases mx_if_el hf with ⟨c70, hf⟩ | ⟨c70, hf⟩
        · refine sb_ic_ne hm dX13_flows_180 (tgt := 194) rfl (fun _ => ?_) (fun z => absurd c70 z)
          refine mx_S.ext [(0, .ref l0), (1, .int l1), (2, .int l2), (5, .int l5), (6, .int l6), (7, .int u66.1)] (mx_sub_pos [1, 2, 3, 4, 5, 0] rfl (show ([7, 0, 1, 2, 5, 6] : List Nat).Nodup by decide)) ?_
          exact j_X13_flows_194_ok X hF hL nn ih l0 l1 l2 l5 l6 u66.1 u66.2 hf
        · refine sb_ic_ne hm dX13_flows_180 (tgt := 194) rfl (fun z => absurd z c70) (fun _ => ?_)
          refine mx_S.pu (pc2 := 184) (lv2 := [(7, .int u66.1), (0, .ref l0), (1, .int l1), (2, .int l2), (5, .int l5), (6, .int l6)]) (st2 := [.ref l0]) hm dX13_flows_183 rfl ?_
          refine sx_bi (v := 10) hm dX13_flows_184 (by decide) ?_
          refine mx_S.pu (pc2 := 187) (lv2 := [(7, .int u66.1), (0, .ref l0), (1, .int l1), (2, .int l2), (5, .int l5), (6, .int l6)]) (st2 := [.int l1, .int 10, .ref l0]) hm dX13_flows_186 rfl ?_
          refine mx_S.pu (pc2 := 188) (lv2 := [(7, .int u66.1), (0, .ref l0), (1, .int l1), (2, .int l2), (5, .int l5), (6, .int l6)]) (st2 := [.int l2, .int l1, .int 10, .ref l0]) hm dX13_flows_187 rfl ?_
          refine mx_S.pu (pc2 := 190) (lv2 := [(7, .int u66.1), (0, .ref l0), (1, .int l1), (2, .int l2), (5, .int l5), (6, .int l6)]) (st2 := [.int l6, .int l2, .int l1, .int 10, .ref l0]) hm dX13_flows_188 rfl ?_
          replace hf := mx_gd_el hf; obtain ⟨c67, hf⟩ := hf
          replace hf := mx_sv_el hf; obtain ⟨u68, e_u68, hf⟩ := hf
          refine sx_cv hm dX13_flows_190 rs_RX13_922 mt_X13_bad [.int 10, .int l1, .int l2, .int l6] [] (b := l0) (ci := 13) rfl rfl rfl c67 (Nat.le_of_ble_eq_true rfl) (Nat.le_of_ble_eq_true rfl) (by omega) (by omega) (f_X13_bad_ok X (by omega) (by omega) nn l0 10 l1 l2 l6 u66.2 e_u68) ?_
          clear e_u68
          show mx_S X F L 557 193 [(7, .int u66.1), (0, .ref l0), (1, .int l1), (2, .int l2), (5, .int l5), (6, .int l6)] [.int u68.1] u68.2 0 0 (some (.int r.1), r.2, 0, 0)
          replace hf := mx_gd_el hf; obtain ⟨c69, hf⟩ := hf
          cases hf
          exact sx_ire hm dX13_flows_193 rfl (xbq_ok c69).1
set_option maxHeartbeats 4000000 in
set_option maxRecDepth 20000 in
theorem w_X13_flows_105_ok (X : Nat × (Nat → Int32)) {F L : Nat} (hF : 13 ≤ F) (hL : 300 ≤ L) (nn : Nat) : ∀ (k : Nat) (l0 : Nat) (l1 : Int32) (l2 : Int32) (l3 : Int32) (l4 : Int32) (h : mx_H) (r : (Int32 × mx_H)), w_X13_flows_105 nn k l0 l1 l2 l3 l4 h = some r → mx_S X F L 557 105 [(0, .ref l0), (1, .int l1), (2, .int l2), (3, .int l3), (4, .int l4)] [] h 0 0 (some (.int r.1), r.2, 0, 0) := by
  have hm : mx_mt 557 = some (yX13_flows, cX13_flows, 10, (some .boolean)) := mt_X13_flows
  intro k
  induction k with
  | zero => intro l0 l1 l2 l3 l4 h r hf; cases hf
  | succ k ih =>
    intro l0 l1 l2 l3 l4 h r hf
    unfold w_X13_flows_105 at hf
    refine mx_S.pu (pc2 := 106) (lv2 := [(0, .ref l0), (1, .int l1), (2, .int l2), (3, .int l3), (4, .int l4)]) (st2 := [.ref l0]) hm dX13_flows_105 rfl ?_
    replace hf := mx_sv_el hf; obtain ⟨v73, e_v73, hf⟩ := hf
    refine sx_get hm dX13_flows_106 rs_RX13_209 (xgr_el e_v73) ?_
    clear e_v73
    refine mx_S.pu (pc2 := 111) (lv2 := [(0, .ref l0), (1, .int l1), (2, .int l2), (3, .int l3), (4, .int l4)]) (st2 := [.int l4, .ref v73]) hm dX13_flows_109 rfl ?_
    replace hf := mx_sv_el hf; obtain ⟨v74, e_v74, hf⟩ := hf
    refine sx_ald hm dX13_flows_111 e_v74 ?_
    clear e_v74
    refine sx_bi (v := 41) hm dX13_flows_112 (by decide) ?_
    rcases mx_if_el hf with ⟨c83, hf⟩ | ⟨c83, hf⟩
    · refine sb_ic_eq hm dX13_flows_114 (tgt := 141) rfl (fun _ => ?_) (fun z => absurd c83 z)
      refine mx_S.pu (pc2 := 142) (lv2 := [(0, .ref l0), (1, .int l1), (2, .int l2), (3, .int l3), (4, .int l4)]) (st2 := [.ref l0]) hm dX13_flows_141 rfl ?_
      refine mx_S.pu (pc2 := 144) (lv2 := [(0, .ref l0), (1, .int l1), (2, .int l2), (3, .int l3), (4, .int l4)]) (st2 := [.int l4, .ref l0]) hm dX13_flows_142 rfl ?_
      refine sx_ic (v := 1) hm dX13_flows_144 (by decide) ?_
      replace hf := xl_el hf; obtain ⟨v75, e_v75, hf⟩ := hf
      refine mx_S.pu (pc2 := 146) (lv2 := [(0, .ref l0), (1, .int l1), (2, .int l2), (3, .int l3), (4, .int l4)]) (st2 := [.int v75, .ref l0]) hm dX13_flows_145 (by rw [← e_v75]; rfl) ?_
      clear e_v75
      replace hf := mx_sv_el hf; obtain ⟨h76, e_h76, hf⟩ := hf
      refine sx_put hm dX13_flows_146 rs_RX13_998 ft_13_136 ⟨rfl, rfl⟩ (fun z => by cases z) e_h76 ?_
      clear e_h76
      refine sx_ic (v := 1) hm dX13_flows_149 (by decide) ?_
      refine mx_S.pu (pc2 := 152) (lv2 := [(5, .int 1), (0, .ref l0), (1, .int l1), (2, .int l2), (3, .int l3), (4, .int l4)]) (st2 := []) hm dX13_flows_150 rfl ?_
      refine sx_ic (v := 0) hm dX13_flows_152 (by decide) ?_
      refine mx_S.pu (pc2 := 155) (lv2 := [(6, .int 0), (5, .int 1), (0, .ref l0), (1, .int l1), (2, .int l2), (3, .int l3), (4, .int l4)]) (st2 := []) hm dX13_flows_153 rfl ?_
      refine mx_S.ext [(0, .ref l0), (1, .int l1), (2, .int l2), (5, .int 1), (6, .int 0)] (mx_sub_pos [2, 3, 4, 1, 0] rfl (show ([6, 5, 0, 1, 2, 3, 4] : List Nat).Nodup by decide)) ?_
      exact w_X13_flows_155_ok X hF hL nn nn l0 l1 l2 1 0 h76 _ hf
    · refine sb_ic_eq hm dX13_flows_114 (tgt := 141) rfl (fun z => absurd z c83) (fun _ => ?_)
      refine mx_S.pu (pc2 := 118) (lv2 := [(0, .ref l0), (1, .int l1), (2, .int l2), (3, .int l3), (4, .int l4)]) (st2 := [.ref l0]) hm dX13_flows_117 rfl ?_
      replace hf := mx_sv_el hf; obtain ⟨v77, e_v77, hf⟩ := hf
      refine sx_get hm dX13_flows_118 rs_RX13_270 (xgr_el e_v77) ?_
      clear e_v77
      refine mx_S.pu (pc2 := 122) (lv2 := [(0, .ref l0), (1, .int l1), (2, .int l2), (3, .int l3), (4, .int l4)]) (st2 := [.int l3, .ref v77]) hm dX13_flows_121 rfl ?_
      refine mx_S.pu (pc2 := 123) (lv2 := [(0, .ref l0), (1, .int l1), (2, .int l2), (3, .int l3), (4, .int l4)]) (st2 := [.ref l0, .int l3, .ref v77]) hm dX13_flows_122 rfl ?_
      refine mx_S.pu (pc2 := 125) (lv2 := [(0, .ref l0), (1, .int l1), (2, .int l2), (3, .int l3), (4, .int l4)]) (st2 := [.int l4, .ref l0, .int l3, .ref v77]) hm dX13_flows_123 rfl ?_
      replace hf := mx_gd_el hf; obtain ⟨c78, hf⟩ := hf
      replace hf := mx_sv_el hf; obtain ⟨u79, e_u79, hf⟩ := hf
      refine sx_cv hm dX13_flows_125 rs_RX13_885 mt_X13_typeAt [.int l4] [.int l3, .ref v77] (b := l0) (ci := 13) rfl rfl rfl c78 (Nat.le_of_ble_eq_true rfl) (Nat.le_of_ble_eq_true rfl) (by omega) (by omega) (f_X13_typeAt_ok X (by omega) (by omega) nn l0 l4 h e_u79) ?_
      clear e_u79
      show mx_S X F L 557 128 [(0, .ref l0), (1, .int l1), (2, .int l2), (3, .int l3), (4, .int l4)] [.int u79.1, .int l3, .ref v77] u79.2 0 0 (some (.int r.1), r.2, 0, 0)
      replace hf := mx_sv_el hf; obtain ⟨h80, e_h80, hf⟩ := hf
      refine sx_ast hm dX13_flows_128 e_h80 ?_
      clear e_h80
      replace hf := xl_el hf; obtain ⟨v81, e_v81, hf⟩ := hf
      refine mx_S.pu (pc2 := 132) (lv2 := [(3, .int v81), (0, .ref l0), (1, .int l1), (2, .int l2), (4, .int l4)]) (st2 := []) hm dX13_flows_129 (by rw [← e_v81]; rfl) ?_
      clear e_v81
      refine mx_S.pu (pc2 := 133) (lv2 := [(3, .int v81), (0, .ref l0), (1, .int l1), (2, .int l2), (4, .int l4)]) (st2 := [.ref l0]) hm dX13_flows_132 rfl ?_
      replace hf := mx_sv_el hf; obtain ⟨v82, e_v82, hf⟩ := hf
      refine sx_get hm dX13_flows_133 rs_RX13_879 (xgi_el e_v82) ?_
      clear e_v82
      refine mx_S.pu (pc2 := 138) (lv2 := [(4, .int v82), (3, .int v81), (0, .ref l0), (1, .int l1), (2, .int l2)]) (st2 := []) hm dX13_flows_136 rfl ?_
      refine mx_S.pu (pc2 := 105) (lv2 := [(4, .int v82), (3, .int v81), (0, .ref l0), (1, .int l1), (2, .int l2)]) (st2 := []) hm dX13_flows_138 rfl ?_
      refine mx_S.ext [(0, .ref l0), (1, .int l1), (2, .int l2), (3, .int v81), (4, .int v82)] (mx_sub_pos [2, 3, 4, 1, 0] rfl (show ([4, 3, 0, 1, 2] : List Nat).Nodup by decide)) ?_
      exact ih l0 l1 l2 v81 v82 h80 _ hf
set_option maxHeartbeats 4000000 in
set_option maxRecDepth 20000 in
theorem j_X13_flows_68_ok (X : Nat × (Nat → Int32)) {F L : Nat} (hF : 13 ≤ F) (hL : 300 ≤ L) (nn : Nat) (l0 : Nat) (l1 : Int32) (l2 : Int32) (l3 : Int32) (h : mx_H) {r : (Int32 × mx_H)} (hf : j_X13_flows_68 nn l0 l1 l2 l3 h = some r) : mx_S X F L 557 68 [(0, .ref l0), (1, .int l1), (2, .int l2), (3, .int l3)] [] h 0 0 (some (.int r.1), r.2, 0, 0) := by
  have hm : mx_mt 557 = some (yX13_flows, cX13_flows, 10, (some .boolean)) := mt_X13_flows
  unfold j_X13_flows_68 at hf
  refine sx_si (v := 6000) hm dX13_flows_68 (by decide) ?_
  refine mx_S.pu (pc2 := 72) (lv2 := [(0, .ref l0), (1, .int l1), (2, .int l2), (3, .int l3)]) (st2 := [.ref l0, .int 6000]) hm dX13_flows_71 rfl ?_
  replace hf := mx_sv_el hf; obtain ⟨v84, e_v84, hf⟩ := hf
  refine sx_get hm dX13_flows_72 rs_RX13_932 (xgi_el e_v84) ?_
  clear e_v84
  replace hf := xl_el hf; obtain ⟨v85, e_v85, hf⟩ := hf
  refine mx_S.pu (pc2 := 76) (lv2 := [(0, .ref l0), (1, .int l1), (2, .int l2), (3, .int l3)]) (st2 := [.int v85]) hm dX13_flows_75 (by rw [← e_v85]; rfl) ?_
  clear e_v85
  refine mx_S.pu (pc2 := 77) (lv2 := [(0, .ref l0), (1, .int l1), (2, .int l2), (3, .int l3)]) (st2 := [.ref l0, .int v85]) hm dX13_flows_76 rfl ?_
  replace hf := mx_sv_el hf; obtain ⟨v86, e_v86, hf⟩ := hf
  refine sx_get hm dX13_flows_77 rs_RX13_215 (xgr_el e_v86) ?_
  clear e_v86
  refine sx_si (v := 256) hm dX13_flows_80 (by decide) ?_
  refine mx_S.pu (pc2 := 84) (lv2 := [(0, .ref l0), (1, .int l1), (2, .int l2), (3, .int l3)]) (st2 := [.ref l0, .int 256, .ref v86, .int v85]) hm dX13_flows_83 rfl ?_
  replace hf := mx_sv_el hf; obtain ⟨v87, e_v87, hf⟩ := hf
  refine sx_get hm dX13_flows_84 rs_RX13_932 (xgi_el e_v87) ?_
  clear e_v87
  replace hf := xl_el hf; obtain ⟨v88, e_v88, hf⟩ := hf
  refine mx_S.pu (pc2 := 88) (lv2 := [(0, .ref l0), (1, .int l1), (2, .int l2), (3, .int l3)]) (st2 := [.int v88, .ref v86, .int v85]) hm dX13_flows_87 (by rw [← e_v88]; rfl) ?_
  clear e_v88
  refine mx_S.pu (pc2 := 89) (lv2 := [(0, .ref l0), (1, .int l1), (2, .int l2), (3, .int l3)]) (st2 := [.ref l0, .int v88, .ref v86, .int v85]) hm dX13_flows_88 rfl ?_
  refine mx_S.pu (pc2 := 90) (lv2 := [(0, .ref l0), (1, .int l1), (2, .int l2), (3, .int l3)]) (st2 := [.ref l0, .ref l0, .int v88, .ref v86, .int v85]) hm dX13_flows_89 rfl ?_
  replace hf := mx_sv_el hf; obtain ⟨v89, e_v89, hf⟩ := hf
  refine sx_get hm dX13_flows_90 rs_RX13_932 (xgi_el e_v89) ?_
  clear e_v89
  refine mx_S.pu (pc2 := 94) (lv2 := [(0, .ref l0), (1, .int l1), (2, .int l2), (3, .int l3)]) (st2 := [.int l2, .int v89, .ref l0, .int v88, .ref v86, .int v85]) hm dX13_flows_93 rfl ?_
  refine sx_ic (v := 1) hm dX13_flows_94 (by decide) ?_
  replace hf := mx_gd_el hf; obtain ⟨c90, hf⟩ := hf
  replace hf := mx_sv_el hf; obtain ⟨u91, e_u91, hf⟩ := hf
  refine sx_cv hm dX13_flows_95 rs_RX13_910 mt_X13_kindText [.int v89, .int l2, .int 1] [.int v88, .ref v86, .int v85] (b := l0) (ci := 13) rfl rfl rfl c90 (Nat.le_of_ble_eq_true rfl) (Nat.le_of_ble_eq_true rfl) (by omega) (by omega) (f_X13_kindText_ok X (by omega) (by omega) nn l0 v89 l2 1 h e_u91) ?_
  clear e_u91
  show mx_S X F L 557 98 [(0, .ref l0), (1, .int l1), (2, .int l2), (3, .int l3)] [.int u91.1, .int v88, .ref v86, .int v85] u91.2 0 0 (some (.int r.1), r.2, 0, 0)
  replace hf := xl_el hf; obtain ⟨v92, e_v92, hf⟩ := hf
  refine mx_S.pu (pc2 := 99) (lv2 := [(0, .ref l0), (1, .int l1), (2, .int l2), (3, .int l3)]) (st2 := [.int v92, .ref v86, .int v85]) hm dX13_flows_98 (by rw [← e_v92]; rfl) ?_
  clear e_v92
  replace hf := mx_sv_el hf; obtain ⟨v93, e_v93, hf⟩ := hf
  refine sx_ald hm dX13_flows_99 e_v93 ?_
  clear e_v93
  replace hf := xl_el hf; obtain ⟨v94, e_v94, hf⟩ := hf
  refine mx_S.pu (pc2 := 101) (lv2 := [(0, .ref l0), (1, .int l1), (2, .int l2), (3, .int l3)]) (st2 := [.int v94]) hm dX13_flows_100 (by rw [← e_v94]; rfl) ?_
  clear e_v94
  refine sx_ic (v := 3) hm dX13_flows_101 (by decide) ?_
  replace hf := xl_el hf; obtain ⟨v95, e_v95, hf⟩ := hf
  refine mx_S.pu (pc2 := 103) (lv2 := [(0, .ref l0), (1, .int l1), (2, .int l2), (3, .int l3)]) (st2 := [.int v95]) hm dX13_flows_102 (by rw [← e_v95]; rfl) ?_
  clear e_v95
  refine mx_S.pu (pc2 := 105) (lv2 := [(4, .int v95), (0, .ref l0), (1, .int l1), (2, .int l2), (3, .int l3)]) (st2 := []) hm dX13_flows_103 rfl ?_
  refine mx_S.ext [(0, .ref l0), (1, .int l1), (2, .int l2), (3, .int l3), (4, .int v95)] (mx_sub_pos [1, 2, 3, 4, 0] rfl (show ([4, 0, 1, 2, 3] : List Nat).Nodup by decide)) ?_
  exact w_X13_flows_105_ok X hF hL nn nn l0 l1 l2 l3 v95 u91.2 _ hf
set_option maxHeartbeats 4000000 in
set_option maxRecDepth 20000 in
theorem w_X13_flows_2_ok (X : Nat × (Nat → Int32)) {F L : Nat} (hF : 13 ≤ F) (hL : 300 ≤ L) (nn : Nat) : ∀ (k : Nat) (l0 : Nat) (l1 : Int32) (l2 : Int32) (l3 : Int32) (h : mx_H) (r : (Int32 × mx_H)), w_X13_flows_2 nn k l0 l1 l2 l3 h = some r → mx_S X F L 557 2 [(0, .ref l0), (1, .int l1), (2, .int l2), (3, .int l3)] [] h 0 0 (some (.int r.1), r.2, 0, 0) := by
  have hm : mx_mt 557 = some (yX13_flows, cX13_flows, 10, (some .boolean)) := mt_X13_flows
  intro k
  induction k with
  | zero => intro l0 l1 l2 l3 h r hf; cases hf
  | succ k ih =>
    intro l0 l1 l2 l3 h r hf
    unfold w_X13_flows_2 at hf
    refine mx_S.pu (pc2 := 3) (lv2 := [(0, .ref l0), (1, .int l1), (2, .int l2), (3, .int l3)]) (st2 := [.int l3]) hm dX13_flows_2 rfl ?_
    refine mx_S.pu (pc2 := 4) (lv2 := [(0, .ref l0), (1, .int l1), (2, .int l2), (3, .int l3)]) (st2 := [.ref l0, .int l3]) hm dX13_flows_3 rfl ?_
    replace hf := mx_sv_el hf; obtain ⟨v96, e_v96, hf⟩ := hf
    refine sx_get hm dX13_flows_4 rs_RX13_964 (xgi_el e_v96) ?_
    clear e_v96
    rcases mx_if_el hf with ⟨c114, hf⟩ | ⟨c114, hf⟩
    · refine sb_ic_ge hm dX13_flows_7 (tgt := 23) rfl (fun _ => ?_) (fun z => absurd c114 z)
      refine mx_S.pu (pc2 := 24) (lv2 := [(0, .ref l0), (1, .int l1), (2, .int l2), (3, .int l3)]) (st2 := [.ref l0]) hm dX13_flows_23 rfl ?_
      refine sx_ic (v := 0) hm dX13_flows_24 (by decide) ?_
      replace hf := mx_sv_el hf; obtain ⟨h97, e_h97, hf⟩ := hf
      refine sx_put hm dX13_flows_25 rs_RX13_961 ft_13_131 ⟨rfl, rfl⟩ (fun z => by cases z) e_h97 ?_
      clear e_h97
      refine sx_ic (v := 0) hm dX13_flows_28 (by decide) ?_
      refine mx_S.pu (pc2 := 30) (lv2 := [(3, .int 0), (0, .ref l0), (1, .int l1), (2, .int l2)]) (st2 := []) hm dX13_flows_29 rfl ?_
      refine mx_S.pu (pc2 := 31) (lv2 := [(3, .int 0), (0, .ref l0), (1, .int l1), (2, .int l2)]) (st2 := [.ref l0]) hm dX13_flows_30 rfl ?_
      refine mx_S.pu (pc2 := 32) (lv2 := [(3, .int 0), (0, .ref l0), (1, .int l1), (2, .int l2)]) (st2 := [.ref l0, .ref l0]) hm dX13_flows_31 rfl ?_
      replace hf := mx_sv_el hf; obtain ⟨v98, e_v98, hf⟩ := hf
      refine sx_get hm dX13_flows_32 rs_RX13_932 (xgi_el e_v98) ?_
      clear e_v98
      refine mx_S.pu (pc2 := 36) (lv2 := [(3, .int 0), (0, .ref l0), (1, .int l1), (2, .int l2)]) (st2 := [.ref l0, .int v98, .ref l0]) hm dX13_flows_35 rfl ?_
      replace hf := mx_sv_el hf; obtain ⟨v99, e_v99, hf⟩ := hf
      refine sx_get hm dX13_flows_36 rs_RX13_236 (xgr_el e_v99) ?_
      clear e_v99
      refine sx_bi (v := 12) hm dX13_flows_39 (by decide) ?_
      refine mx_S.pu (pc2 := 42) (lv2 := [(3, .int 0), (0, .ref l0), (1, .int l1), (2, .int l2)]) (st2 := [.ref l0, .int 12, .ref v99, .int v98, .ref l0]) hm dX13_flows_41 rfl ?_
      replace hf := mx_sv_el hf; obtain ⟨v100, e_v100, hf⟩ := hf
      refine sx_get hm dX13_flows_42 rs_RX13_932 (xgi_el e_v100) ?_
      clear e_v100
      replace hf := xl_el hf; obtain ⟨v101, e_v101, hf⟩ := hf
      refine mx_S.pu (pc2 := 46) (lv2 := [(3, .int 0), (0, .ref l0), (1, .int l1), (2, .int l2)]) (st2 := [.int v101, .ref v99, .int v98, .ref l0]) hm dX13_flows_45 (by rw [← e_v101]; rfl) ?_
      clear e_v101
      refine mx_S.pu (pc2 := 47) (lv2 := [(3, .int 0), (0, .ref l0), (1, .int l1), (2, .int l2)]) (st2 := [.int l2, .int v101, .ref v99, .int v98, .ref l0]) hm dX13_flows_46 rfl ?_
      replace hf := xl_el hf; obtain ⟨v102, e_v102, hf⟩ := hf
      refine mx_S.pu (pc2 := 48) (lv2 := [(3, .int 0), (0, .ref l0), (1, .int l1), (2, .int l2)]) (st2 := [.int v102, .ref v99, .int v98, .ref l0]) hm dX13_flows_47 (by rw [← e_v102]; rfl) ?_
      clear e_v102
      replace hf := mx_sv_el hf; obtain ⟨v103, e_v103, hf⟩ := hf
      refine sx_ald hm dX13_flows_48 e_v103 ?_
      clear e_v103
      replace hf := mx_gd_el hf; obtain ⟨c104, hf⟩ := hf
      replace hf := mx_sv_el hf; obtain ⟨u105, e_u105, hf⟩ := hf
      refine sx_cv hm dX13_flows_49 rs_RX13_864 mt_X13_byteAt [.int v98, .int v103] [] (b := l0) (ci := 13) rfl rfl rfl c104 (Nat.le_of_ble_eq_true rfl) (Nat.le_of_ble_eq_true rfl) (by omega) (by omega) (f_X13_byteAt_ok X (by omega) (by omega) nn l0 v98 v103 h97 e_u105) ?_
      clear e_u105
      show mx_S X F L 557 52 [(3, .int 0), (0, .ref l0), (1, .int l1), (2, .int l2)] [.int u105.1] u105.2 0 0 (some (.int r.1), r.2, 0, 0)
      rcases mx_if_el hf with ⟨c110, hf⟩ | ⟨c110, hf⟩
      · refine sb_if_ne hm dX13_flows_52 (tgt := 68) rfl (fun _ => ?_) (fun z => absurd c110 z)
        refine mx_S.ext [(0, .ref l0), (1, .int l1), (2, .int l2), (3, .int 0)] (mx_sub_pos [1, 2, 3, 0] rfl (show ([3, 0, 1, 2] : List Nat).Nodup by decide)) ?_
        exact j_X13_flows_68_ok X hF hL nn l0 l1 l2 0 u105.2 hf
      · refine sb_if_ne hm dX13_flows_52 (tgt := 68) rfl (fun z => absurd z c110) (fun _ => ?_)
        refine mx_S.pu (pc2 := 56) (lv2 := [(3, .int 0), (0, .ref l0), (1, .int l1), (2, .int l2)]) (st2 := [.ref l0]) hm dX13_flows_55 rfl ?_
        replace hf := mx_sv_el hf; obtain ⟨v106, e_v106, hf⟩ := hf
        refine sx_get hm dX13_flows_56 rs_RX13_270 (xgr_el e_v106) ?_
        clear e_v106
        refine sx_ic (v := 0) hm dX13_flows_59 (by decide) ?_
        refine sx_ic (v := 4) hm dX13_flows_60 (by decide) ?_
        refine sx_ic (v := 2) hm dX13_flows_61 (by decide) ?_
        refine mx_S.pu (pc2 := 63) (lv2 := [(3, .int 0), (0, .ref l0), (1, .int l1), (2, .int l2)]) (st2 := [.int l1, .int 2, .int 4, .int 0, .ref v106]) hm dX13_flows_62 rfl ?_
        replace hf := xl_el hf; obtain ⟨v107, e_v107, hf⟩ := hf
        refine mx_S.pu (pc2 := 64) (lv2 := [(3, .int 0), (0, .ref l0), (1, .int l1), (2, .int l2)]) (st2 := [.int v107, .int 4, .int 0, .ref v106]) hm dX13_flows_63 (by rw [← e_v107]; rfl) ?_
        clear e_v107
        replace hf := xl_el hf; obtain ⟨v108, e_v108, hf⟩ := hf
        refine mx_S.pu (pc2 := 65) (lv2 := [(3, .int 0), (0, .ref l0), (1, .int l1), (2, .int l2)]) (st2 := [.int v108, .int 0, .ref v106]) hm dX13_flows_64 (by rw [← e_v108]; rfl) ?_
        clear e_v108
        replace hf := mx_sv_el hf; obtain ⟨h109, e_h109, hf⟩ := hf
        refine sx_ast hm dX13_flows_65 e_h109 ?_
        clear e_h109
        refine sx_ic (v := 1) hm dX13_flows_66 (by decide) ?_
        refine mx_S.pu (pc2 := 68) (lv2 := [(3, .int 1), (0, .ref l0), (1, .int l1), (2, .int l2)]) (st2 := []) hm dX13_flows_67 rfl ?_
        refine mx_S.ext [(0, .ref l0), (1, .int l1), (2, .int l2), (3, .int 1)] (mx_sub_pos [1, 2, 3, 0] rfl (show ([3, 0, 1, 2] : List Nat).Nodup by decide)) ?_
        exact j_X13_flows_68_ok X hF hL nn l0 l1 l2 1 h109 hf
    · refine sb_ic_ge hm dX13_flows_7 (tgt := 23) rfl (fun z => absurd z c114) (fun _ => ?_)
      refine mx_S.pu (pc2 := 11) (lv2 := [(0, .ref l0), (1, .int l1), (2, .int l2), (3, .int l3)]) (st2 := [.ref l0]) hm dX13_flows_10 rfl ?_
      replace hf := mx_sv_el hf; obtain ⟨v111, e_v111, hf⟩ := hf
      refine sx_get hm dX13_flows_11 rs_RX13_270 (xgr_el e_v111) ?_
      clear e_v111
      refine mx_S.pu (pc2 := 15) (lv2 := [(0, .ref l0), (1, .int l1), (2, .int l2), (3, .int l3)]) (st2 := [.int l3, .ref v111]) hm dX13_flows_14 rfl ?_
      refine sx_ic (v := 0) hm dX13_flows_15 (by decide) ?_
      replace hf := mx_sv_el hf; obtain ⟨h112, e_h112, hf⟩ := hf
      refine sx_ast hm dX13_flows_16 e_h112 ?_
      clear e_h112
      replace hf := xl_el hf; obtain ⟨v113, e_v113, hf⟩ := hf
      refine mx_S.pu (pc2 := 20) (lv2 := [(3, .int v113), (0, .ref l0), (1, .int l1), (2, .int l2)]) (st2 := []) hm dX13_flows_17 (by rw [← e_v113]; rfl) ?_
      clear e_v113
      refine mx_S.pu (pc2 := 2) (lv2 := [(3, .int v113), (0, .ref l0), (1, .int l1), (2, .int l2)]) (st2 := []) hm dX13_flows_20 rfl ?_
      refine mx_S.ext [(0, .ref l0), (1, .int l1), (2, .int l2), (3, .int v113)] (mx_sub_pos [1, 2, 3, 0] rfl (show ([3, 0, 1, 2] : List Nat).Nodup by decide)) ?_
      exact ih l0 l1 l2 v113 h112 _ hf
set_option maxHeartbeats 4000000 in
set_option maxRecDepth 20000 in
theorem f_X13_flows_ok (X : Nat × (Nat → Int32)) {F L : Nat} (hF : 13 ≤ F) (hL : 300 ≤ L) (nn : Nat) (a0 : Nat) (a1 : Int32) (a2 : Int32) (h : mx_H) {r : (Int32 × mx_H)} (hf : f_X13_flows nn a0 a1 a2 h = some r) : mx_R X F L 557 [.ref a0, .int a1, .int a2] h (some (.int r.1), r.2, 0, 0) := by
  have hm : mx_mt 557 = some (yX13_flows, cX13_flows, 10, (some .boolean)) := mt_X13_flows
  show mx_S X F L 557 0 [(0, .ref a0), (1, .int a1), (2, .int a2)] [] h 0 0 (some (.int r.1), r.2, 0, 0)
  unfold f_X13_flows at hf
  refine sx_ic (v := 0) hm dX13_flows_0 (by decide) ?_
  refine mx_S.pu (pc2 := 2) (lv2 := [(3, .int 0), (0, .ref a0), (1, .int a1), (2, .int a2)]) (st2 := []) hm dX13_flows_1 rfl ?_
  refine mx_S.ext [(0, .ref a0), (1, .int a1), (2, .int a2), (3, .int 0)] (mx_sub_pos [1, 2, 3, 0] rfl (show ([3, 0, 1, 2] : List Nat).Nodup by decide)) ?_
  exact w_X13_flows_2_ok X hF hL nn nn a0 a1 a2 0 h _ hf
set_option maxHeartbeats 4000000 in
set_option maxRecDepth 20000 in
theorem w_X13_frameAt_22_ok (X : Nat × (Nat → Int32)) {F L : Nat} (hF : 2 ≤ F) (hL : 46 ≤ L) (nn : Nat) : ∀ (k : Nat) (l0 : Nat) (l1 : Int32) (l2 : Int32) (l3 : Int32) (h : mx_H) (r : (Int32 × mx_H)), w_X13_frameAt_22 nn k l0 l1 l2 l3 h = some r → mx_S X F L 545 22 [(0, .ref l0), (1, .int l1), (2, .int l2), (3, .int l3)] [] h 0 0 (some (.int r.1), r.2, 0, 0) := by
  have hm : mx_mt 545 = some (yX13_frameAt, cX13_frameAt, 4, (some .int)) := mt_X13_frameAt
  intro k
  induction k with
  | zero => intro l0 l1 l2 l3 h r hf; cases hf
  | succ k ih =>
    intro l0 l1 l2 l3 h r hf
    unfold w_X13_frameAt_22 at hf
    refine mx_S.pu (pc2 := 23) (lv2 := [(0, .ref l0), (1, .int l1), (2, .int l2), (3, .int l3)]) (st2 := [.int l3]) hm dX13_frameAt_22 rfl ?_
    refine mx_S.pu (pc2 := 24) (lv2 := [(0, .ref l0), (1, .int l1), (2, .int l2), (3, .int l3)]) (st2 := [.int l1, .int l3]) hm dX13_frameAt_23 rfl ?_
    rcases mx_if_el hf with ⟨c7, hf⟩ | ⟨c7, hf⟩
    · refine sb_ic_ge hm dX13_frameAt_24 (tgt := 45) rfl (fun _ => ?_) (fun z => absurd c7 z)
      refine mx_S.pu (pc2 := 46) (lv2 := [(0, .ref l0), (1, .int l1), (2, .int l2), (3, .int l3)]) (st2 := [.int l2]) hm dX13_frameAt_45 rfl ?_
      cases hf
      exact sx_ire hm dX13_frameAt_46 rfl rfl
    · refine sb_ic_ge hm dX13_frameAt_24 (tgt := 45) rfl (fun z => absurd z c7) (fun _ => ?_)
      refine mx_S.pu (pc2 := 28) (lv2 := [(0, .ref l0), (1, .int l1), (2, .int l2), (3, .int l3)]) (st2 := [.ref l0]) hm dX13_frameAt_27 rfl ?_
      refine mx_S.pu (pc2 := 29) (lv2 := [(0, .ref l0), (1, .int l1), (2, .int l2), (3, .int l3)]) (st2 := [.ref l0, .ref l0]) hm dX13_frameAt_28 rfl ?_
      refine mx_S.pu (pc2 := 30) (lv2 := [(0, .ref l0), (1, .int l1), (2, .int l2), (3, .int l3)]) (st2 := [.int l2, .ref l0, .ref l0]) hm dX13_frameAt_29 rfl ?_
      refine sx_ic (v := 2) hm dX13_frameAt_30 (by decide) ?_
      replace hf := xl_el hf; obtain ⟨v1, e_v1, hf⟩ := hf
      refine mx_S.pu (pc2 := 32) (lv2 := [(0, .ref l0), (1, .int l1), (2, .int l2), (3, .int l3)]) (st2 := [.int v1, .ref l0, .ref l0]) hm dX13_frameAt_31 (by rw [← e_v1]; rfl) ?_
      clear e_v1
      replace hf := mx_gd_el hf; obtain ⟨c2, hf⟩ := hf
      replace hf := mx_sv_el hf; obtain ⟨u3, e_u3, hf⟩ := hf
      refine sx_cv hm dX13_frameAt_32 rs_RX13_943 mt_X13_typesEnd [.int v1] [.ref l0] (b := l0) (ci := 13) rfl rfl rfl c2 (Nat.le_of_ble_eq_true rfl) (Nat.le_of_ble_eq_true rfl) (by omega) (by omega) (f_X13_typesEnd_ok X (by omega) (by omega) nn l0 v1 h e_u3) ?_
      clear e_u3
      show mx_S X F L 545 35 [(0, .ref l0), (1, .int l1), (2, .int l2), (3, .int l3)] [.int u3.1, .ref l0] u3.2 0 0 (some (.int r.1), r.2, 0, 0)
      replace hf := mx_gd_el hf; obtain ⟨c4, hf⟩ := hf
      replace hf := mx_sv_el hf; obtain ⟨u5, e_u5, hf⟩ := hf
      refine sx_cv hm dX13_frameAt_35 rs_RX13_943 mt_X13_typesEnd [.int u3.1] [] (b := l0) (ci := 13) rfl rfl rfl c4 (Nat.le_of_ble_eq_true rfl) (Nat.le_of_ble_eq_true rfl) (by omega) (by omega) (f_X13_typesEnd_ok X (by omega) (by omega) nn l0 u3.1 u3.2 e_u5) ?_
      clear e_u5
      show mx_S X F L 545 38 [(0, .ref l0), (1, .int l1), (2, .int l2), (3, .int l3)] [.int u5.1] u5.2 0 0 (some (.int r.1), r.2, 0, 0)
      refine mx_S.pu (pc2 := 39) (lv2 := [(2, .int u5.1), (0, .ref l0), (1, .int l1), (3, .int l3)]) (st2 := []) hm dX13_frameAt_38 rfl ?_
      replace hf := xl_el hf; obtain ⟨v6, e_v6, hf⟩ := hf
      refine mx_S.pu (pc2 := 42) (lv2 := [(3, .int v6), (2, .int u5.1), (0, .ref l0), (1, .int l1)]) (st2 := []) hm dX13_frameAt_39 (by rw [← e_v6]; rfl) ?_
      clear e_v6
      refine mx_S.pu (pc2 := 22) (lv2 := [(3, .int v6), (2, .int u5.1), (0, .ref l0), (1, .int l1)]) (st2 := []) hm dX13_frameAt_42 rfl ?_
      refine mx_S.ext [(0, .ref l0), (1, .int l1), (2, .int u5.1), (3, .int v6)] (mx_sub_pos [2, 3, 1, 0] rfl (show ([3, 2, 0, 1] : List Nat).Nodup by decide)) ?_
      exact ih l0 l1 u5.1 v6 u5.2 _ hf
set_option maxHeartbeats 4000000 in
set_option maxRecDepth 20000 in
theorem f_X13_frameAt_ok (X : Nat × (Nat → Int32)) {F L : Nat} (hF : 2 ≤ F) (hL : 46 ≤ L) (nn : Nat) (a0 : Nat) (a1 : Int32) (h : mx_H) {r : (Int32 × mx_H)} (hf : f_X13_frameAt nn a0 a1 h = some r) : mx_R X F L 545 [.ref a0, .int a1] h (some (.int r.1), r.2, 0, 0) := by
  have hm : mx_mt 545 = some (yX13_frameAt, cX13_frameAt, 4, (some .int)) := mt_X13_frameAt
  show mx_S X F L 545 0 [(0, .ref a0), (1, .int a1)] [] h 0 0 (some (.int r.1), r.2, 0, 0)
  unfold f_X13_frameAt at hf
  refine mx_S.pu (pc2 := 1) (lv2 := [(0, .ref a0), (1, .int a1)]) (st2 := [.ref a0]) hm dX13_frameAt_0 rfl ?_
  replace hf := mx_sv_el hf; obtain ⟨v8, e_v8, hf⟩ := hf
  refine sx_get hm dX13_frameAt_1 rs_RX13_242 (xgr_el e_v8) ?_
  clear e_v8
  refine sx_bi (v := 12) hm dX13_frameAt_4 (by decide) ?_
  refine mx_S.pu (pc2 := 7) (lv2 := [(0, .ref a0), (1, .int a1)]) (st2 := [.ref a0, .int 12, .ref v8]) hm dX13_frameAt_6 rfl ?_
  replace hf := mx_sv_el hf; obtain ⟨v9, e_v9, hf⟩ := hf
  refine sx_get hm dX13_frameAt_7 rs_RX13_932 (xgi_el e_v9) ?_
  clear e_v9
  replace hf := xl_el hf; obtain ⟨v10, e_v10, hf⟩ := hf
  refine mx_S.pu (pc2 := 11) (lv2 := [(0, .ref a0), (1, .int a1)]) (st2 := [.int v10, .ref v8]) hm dX13_frameAt_10 (by rw [← e_v10]; rfl) ?_
  clear e_v10
  refine mx_S.pu (pc2 := 12) (lv2 := [(0, .ref a0), (1, .int a1)]) (st2 := [.ref a0, .int v10, .ref v8]) hm dX13_frameAt_11 rfl ?_
  replace hf := mx_sv_el hf; obtain ⟨v11, e_v11, hf⟩ := hf
  refine sx_get hm dX13_frameAt_12 rs_RX13_940 (xgi_el e_v11) ?_
  clear e_v11
  replace hf := xl_el hf; obtain ⟨v12, e_v12, hf⟩ := hf
  refine mx_S.pu (pc2 := 16) (lv2 := [(0, .ref a0), (1, .int a1)]) (st2 := [.int v12, .ref v8]) hm dX13_frameAt_15 (by rw [← e_v12]; rfl) ?_
  clear e_v12
  replace hf := mx_sv_el hf; obtain ⟨v13, e_v13, hf⟩ := hf
  refine sx_ald hm dX13_frameAt_16 e_v13 ?_
  clear e_v13
  refine sx_ic (v := 1) hm dX13_frameAt_17 (by decide) ?_
  replace hf := xl_el hf; obtain ⟨v14, e_v14, hf⟩ := hf
  refine mx_S.pu (pc2 := 19) (lv2 := [(0, .ref a0), (1, .int a1)]) (st2 := [.int v14]) hm dX13_frameAt_18 (by rw [← e_v14]; rfl) ?_
  clear e_v14
  refine mx_S.pu (pc2 := 20) (lv2 := [(2, .int v14), (0, .ref a0), (1, .int a1)]) (st2 := []) hm dX13_frameAt_19 rfl ?_
  refine sx_ic (v := 0) hm dX13_frameAt_20 (by decide) ?_
  refine mx_S.pu (pc2 := 22) (lv2 := [(3, .int 0), (2, .int v14), (0, .ref a0), (1, .int a1)]) (st2 := []) hm dX13_frameAt_21 rfl ?_
  refine mx_S.ext [(0, .ref a0), (1, .int a1), (2, .int v14), (3, .int 0)] (mx_sub_pos [2, 3, 1, 0] rfl (show ([3, 2, 0, 1] : List Nat).Nodup by decide)) ?_
  exact w_X13_frameAt_22_ok X hF hL nn nn a0 a1 v14 0 h _ hf
set_option maxHeartbeats 4000000 in
set_option maxRecDepth 20000 in
theorem j_X13_frameIsThere_89_ok (X : Nat × (Nat → Int32)) {F L : Nat} (hF : 10 ≤ F) (hL : 232 ≤ L) (nn : Nat) {kk_6 : Nat → Int32 → Int32 → mx_H → Option (Int32 × mx_H)} (hk_6 : ∀ (l0 : Nat) (l2 : Int32) (l3 : Int32) (h : mx_H) (r : (Int32 × mx_H)), kk_6 l0 l2 l3 h = some r → mx_S X F L 556 6 [(0, .ref l0), (2, .int l2), (3, .int l3)] [] h 0 0 (some (.int r.1), r.2, 0, 0)) {kk_50 : Nat → Int32 → Int32 → Int32 → Int32 → mx_H → Option (Int32 × mx_H)} (hk_50 : ∀ (l0 : Nat) (l2 : Int32) (l3 : Int32) (l4 : Int32) (l5 : Int32) (h : mx_H) (r : (Int32 × mx_H)), kk_50 l0 l2 l3 l4 l5 h = some r → mx_S X F L 556 50 [(0, .ref l0), (2, .int l2), (3, .int l3), (4, .int l4), (5, .int l5)] [] h 0 0 (some (.int r.1), r.2, 0, 0)) (l0 : Nat) (l3 : Int32) (l4 : Int32) (l5 : Int32) (s0 : Int32) (s1 : Int32) (h : mx_H) {r : (Int32 × mx_H)} (hf : j_X13_frameIsThere_89 nn kk_6 kk_50 l0 l3 l4 l5 s0 s1 h = some r) : mx_S X F L 556 89 [(0, .ref l0), (3, .int l3), (4, .int l4), (5, .int l5)] [.int s0, .int s1] h 0 0 (some (.int r.1), r.2, 0, 0) := by
  have hm : mx_mt 556 = some (yX13_frameIsThere, cX13_frameIsThere, 6, (some .boolean)) := mt_X13_frameIsThere
  unfold j_X13_frameIsThere_89 at hf
  replace hf := xl_el hf; obtain ⟨v1, e_v1, hf⟩ := hf
  refine mx_S.pu (pc2 := 90) (lv2 := [(0, .ref l0), (3, .int l3), (4, .int l4), (5, .int l5)]) (st2 := [.int v1]) hm dX13_frameIsThere_89 (by rw [← e_v1]; rfl) ?_
  clear e_v1
  refine mx_S.pu (pc2 := 91) (lv2 := [(2, .int v1), (0, .ref l0), (3, .int l3), (4, .int l4), (5, .int l5)]) (st2 := []) hm dX13_frameIsThere_90 rfl ?_
  replace hf := xl_el hf; obtain ⟨v2, e_v2, hf⟩ := hf
  refine mx_S.pu (pc2 := 94) (lv2 := [(5, .int v2), (2, .int v1), (0, .ref l0), (3, .int l3), (4, .int l4)]) (st2 := []) hm dX13_frameIsThere_91 (by rw [← e_v2]; rfl) ?_
  clear e_v2
  refine mx_S.pu (pc2 := 50) (lv2 := [(5, .int v2), (2, .int v1), (0, .ref l0), (3, .int l3), (4, .int l4)]) (st2 := []) hm dX13_frameIsThere_94 rfl ?_
  refine mx_S.ext [(0, .ref l0), (2, .int v1), (3, .int l3), (4, .int l4), (5, .int v2)] (mx_sub_pos [2, 1, 3, 4, 0] rfl (show ([5, 2, 0, 3, 4] : List Nat).Nodup by decide)) ?_
  exact hk_50 l0 v1 l3 l4 v2 h _ hf
set_option maxHeartbeats 4000000 in
set_option maxRecDepth 20000 in
theorem w_X13_frameIsThere_50_ok (X : Nat × (Nat → Int32)) {F L : Nat} (hF : 10 ≤ F) (hL : 232 ≤ L) (nn : Nat) {kk_6 : Nat → Int32 → Int32 → mx_H → Option (Int32 × mx_H)} (hk_6 : ∀ (l0 : Nat) (l2 : Int32) (l3 : Int32) (h : mx_H) (r : (Int32 × mx_H)), kk_6 l0 l2 l3 h = some r → mx_S X F L 556 6 [(0, .ref l0), (2, .int l2), (3, .int l3)] [] h 0 0 (some (.int r.1), r.2, 0, 0)) : ∀ (k : Nat) (l0 : Nat) (l2 : Int32) (l3 : Int32) (l4 : Int32) (l5 : Int32) (h : mx_H) (r : (Int32 × mx_H)), w_X13_frameIsThere_50 nn kk_6 k l0 l2 l3 l4 l5 h = some r → mx_S X F L 556 50 [(0, .ref l0), (2, .int l2), (3, .int l3), (4, .int l4), (5, .int l5)] [] h 0 0 (some (.int r.1), r.2, 0, 0) := by
  have hm : mx_mt 556 = some (yX13_frameIsThere, cX13_frameIsThere, 6, (some .boolean)) := mt_X13_frameIsThere
  intro k
  induction k with
  | zero => intro l0 l2 l3 l4 l5 h r hf; cases hf
  | succ k ih =>
    intro l0 l2 l3 l4 l5 h r hf
    unfold w_X13_frameIsThere_50 at hf
    refine mx_S.pu (pc2 := 52) (lv2 := [(0, .ref l0), (2, .int l2), (3, .int l3), (4, .int l4), (5, .int l5)]) (st2 := [.int l5]) hm dX13_frameIsThere_50 rfl ?_
    refine mx_S.pu (pc2 := 54) (lv2 := [(0, .ref l0), (2, .int l2), (3, .int l3), (4, .int l4), (5, .int l5)]) (st2 := [.int l4, .int l5]) hm dX13_frameIsThere_52 rfl ?_
    rcases mx_if_el hf with ⟨c12, hf⟩ | ⟨c12, hf⟩
    · refine sb_ic_ge hm dX13_frameIsThere_54 (tgt := 97) rfl (fun _ => ?_) (fun z => absurd c12 z)
      replace hf := xl_el hf; obtain ⟨v3, e_v3, hf⟩ := hf
      refine mx_S.pu (pc2 := 100) (lv2 := [(3, .int v3), (0, .ref l0), (2, .int l2), (4, .int l4), (5, .int l5)]) (st2 := []) hm dX13_frameIsThere_97 (by rw [← e_v3]; rfl) ?_
      clear e_v3
      refine mx_S.pu (pc2 := 6) (lv2 := [(3, .int v3), (0, .ref l0), (2, .int l2), (4, .int l4), (5, .int l5)]) (st2 := []) hm dX13_frameIsThere_100 rfl ?_
      refine mx_S.ext [(0, .ref l0), (2, .int l2), (3, .int v3)] (mx_sub_pos [1, 2, 0] rfl (show ([3, 0, 2, 4, 5] : List Nat).Nodup by decide)) ?_
      exact hk_6 l0 l2 v3 h _ hf
    · refine sb_ic_ge hm dX13_frameIsThere_54 (tgt := 97) rfl (fun z => absurd z c12) (fun _ => ?_)
      refine mx_S.pu (pc2 := 58) (lv2 := [(0, .ref l0), (2, .int l2), (3, .int l3), (4, .int l4), (5, .int l5)]) (st2 := [.ref l0]) hm dX13_frameIsThere_57 rfl ?_
      refine mx_S.pu (pc2 := 59) (lv2 := [(0, .ref l0), (2, .int l2), (3, .int l3), (4, .int l4), (5, .int l5)]) (st2 := [.int l2, .ref l0]) hm dX13_frameIsThere_58 rfl ?_
      replace hf := mx_gd_el hf; obtain ⟨c4, hf⟩ := hf
      replace hf := mx_sv_el hf; obtain ⟨u5, e_u5, hf⟩ := hf
      refine sx_cv hm dX13_frameIsThere_59 rs_RX13_955 mt_X13_framed [.int l2] [] (b := l0) (ci := 13) rfl rfl rfl c4 (Nat.le_of_ble_eq_true rfl) (Nat.le_of_ble_eq_true rfl) (by omega) (by omega) (f_X13_framed_ok X (by omega) (by omega) nn l0 l2 h e_u5) ?_
      clear e_u5
      show mx_S X F L 556 62 [(0, .ref l0), (2, .int l2), (3, .int l3), (4, .int l4), (5, .int l5)] [.int u5.1] u5.2 0 0 (some (.int r.1), r.2, 0, 0)
      replace hf := mx_sv_el hf; obtain ⟨u6, e_u6, hf⟩ := hf
      refine sx_cs hm dX13_frameIsThere_62 rs_RX13_916 mt_X13_isThere [.int u5.1] [] rfl rfl (Nat.le_of_ble_eq_true rfl) (Nat.le_of_ble_eq_true rfl) (by omega) (by omega) (f_X13_isThere_ok X (by omega) (by omega) nn u5.1 u5.2 e_u6) ?_
      clear e_u6
      show mx_S X F L 556 65 [(0, .ref l0), (2, .int l2), (3, .int l3), (4, .int l4), (5, .int l5)] [.int u6.1] u6.2 0 0 (some (.int r.1), r.2, 0, 0)
      rcases mx_if_el hf with ⟨c11, hf⟩ | ⟨c11, hf⟩
      · refine sb_if_ne hm dX13_frameIsThere_65 (tgt := 70) rfl (fun _ => ?_) (fun z => absurd c11 z)
        refine mx_S.pu (pc2 := 71) (lv2 := [(0, .ref l0), (2, .int l2), (3, .int l3), (4, .int l4), (5, .int l5)]) (st2 := [.int l2]) hm dX13_frameIsThere_70 rfl ?_
        refine mx_S.pu (pc2 := 72) (lv2 := [(0, .ref l0), (2, .int l2), (3, .int l3), (4, .int l4), (5, .int l5)]) (st2 := [.ref l0, .int l2]) hm dX13_frameIsThere_71 rfl ?_
        refine mx_S.pu (pc2 := 73) (lv2 := [(0, .ref l0), (2, .int l2), (3, .int l3), (4, .int l4), (5, .int l5)]) (st2 := [.ref l0, .ref l0, .int l2]) hm dX13_frameIsThere_72 rfl ?_
        replace hf := mx_sv_el hf; obtain ⟨v7, e_v7, hf⟩ := hf
        refine sx_get hm dX13_frameIsThere_73 rs_RX13_932 (xgi_el e_v7) ?_
        clear e_v7
        refine mx_S.pu (pc2 := 77) (lv2 := [(0, .ref l0), (2, .int l2), (3, .int l3), (4, .int l4), (5, .int l5)]) (st2 := [.int l2, .int v7, .ref l0, .int l2]) hm dX13_frameIsThere_76 rfl ?_
        replace hf := mx_gd_el hf; obtain ⟨c8, hf⟩ := hf
        replace hf := mx_sv_el hf; obtain ⟨u9, e_u9, hf⟩ := hf
        refine sx_cv hm dX13_frameIsThere_77 rs_RX13_864 mt_X13_byteAt [.int v7, .int l2] [.int l2] (b := l0) (ci := 13) rfl rfl rfl c8 (Nat.le_of_ble_eq_true rfl) (Nat.le_of_ble_eq_true rfl) (by omega) (by omega) (f_X13_byteAt_ok X (by omega) (by omega) nn l0 v7 l2 u6.2 e_u9) ?_
        clear e_u9
        show mx_S X F L 556 80 [(0, .ref l0), (2, .int l2), (3, .int l3), (4, .int l4), (5, .int l5)] [.int u9.1, .int l2] u9.2 0 0 (some (.int r.1), r.2, 0, 0)
        refine sx_ic (v := 3) hm dX13_frameIsThere_80 (by decide) ?_
        rcases mx_if_el hf with ⟨c10, hf⟩ | ⟨c10, hf⟩
        · refine sb_ic_ne hm dX13_frameIsThere_81 (tgt := 88) rfl (fun _ => ?_) (fun z => absurd c10 z)
          refine sx_ic (v := 1) hm dX13_frameIsThere_88 (by decide) ?_
          refine mx_S.ext [(0, .ref l0), (3, .int l3), (4, .int l4), (5, .int l5)] (mx_sub_pos [0, 2, 3, 4] rfl (show ([0, 2, 3, 4, 5] : List Nat).Nodup by decide)) ?_
          exact j_X13_frameIsThere_89_ok X hF hL nn hk_6 ih l0 l3 l4 l5 1 l2 u9.2 hf
        · refine sb_ic_ne hm dX13_frameIsThere_81 (tgt := 88) rfl (fun z => absurd z c10) (fun _ => ?_)
          refine sx_ic (v := 2) hm dX13_frameIsThere_84 (by decide) ?_
          refine mx_S.pu (pc2 := 89) (lv2 := [(0, .ref l0), (2, .int l2), (3, .int l3), (4, .int l4), (5, .int l5)]) (st2 := [.int 2, .int l2]) hm dX13_frameIsThere_85 rfl ?_
          refine mx_S.ext [(0, .ref l0), (3, .int l3), (4, .int l4), (5, .int l5)] (mx_sub_pos [0, 2, 3, 4] rfl (show ([0, 2, 3, 4, 5] : List Nat).Nodup by decide)) ?_
          exact j_X13_frameIsThere_89_ok X hF hL nn hk_6 ih l0 l3 l4 l5 2 l2 u9.2 hf
      · refine sb_if_ne hm dX13_frameIsThere_65 (tgt := 70) rfl (fun z => absurd z c11) (fun _ => ?_)
        refine sx_ic (v := 0) hm dX13_frameIsThere_68 (by decide) ?_
        cases hf
        exact sx_ire hm dX13_frameIsThere_69 rfl (by decide)
set_option maxHeartbeats 4000000 in
set_option maxRecDepth 20000 in
theorem j_X13_frameIsThere_39_ok (X : Nat × (Nat → Int32)) {F L : Nat} (hF : 10 ≤ F) (hL : 232 ≤ L) (nn : Nat) {kk_6 : Nat → Int32 → Int32 → mx_H → Option (Int32 × mx_H)} (hk_6 : ∀ (l0 : Nat) (l2 : Int32) (l3 : Int32) (h : mx_H) (r : (Int32 × mx_H)), kk_6 l0 l2 l3 h = some r → mx_S X F L 556 6 [(0, .ref l0), (2, .int l2), (3, .int l3)] [] h 0 0 (some (.int r.1), r.2, 0, 0)) (l0 : Nat) (l2 : Int32) (l3 : Int32) (l4 : Int32) (s0 : Int32) (s1 : Int32) (h : mx_H) {r : (Int32 × mx_H)} (hf : j_X13_frameIsThere_39 nn kk_6 l0 l2 l3 l4 s0 s1 h = some r) : mx_S X F L 556 39 [(0, .ref l0), (2, .int l2), (3, .int l3), (4, .int l4)] [.int s0, .int s1] h 0 0 (some (.int r.1), r.2, 0, 0) := by
  have hm : mx_mt 556 = some (yX13_frameIsThere, cX13_frameIsThere, 6, (some .boolean)) := mt_X13_frameIsThere
  unfold j_X13_frameIsThere_39 at hf
  rcases mx_if_el hf with ⟨c14, hf⟩ | ⟨c14, hf⟩
  · refine sb_ic_le hm dX13_frameIsThere_39 (tgt := 44) rfl (fun _ => ?_) (fun z => absurd c14 z)
    replace hf := xl_el hf; obtain ⟨v13, e_v13, hf⟩ := hf
    refine mx_S.pu (pc2 := 47) (lv2 := [(2, .int v13), (0, .ref l0), (3, .int l3), (4, .int l4)]) (st2 := []) hm dX13_frameIsThere_44 (by rw [← e_v13]; rfl) ?_
    clear e_v13
    refine sx_ic (v := 0) hm dX13_frameIsThere_47 (by decide) ?_
    refine mx_S.pu (pc2 := 50) (lv2 := [(5, .int 0), (2, .int v13), (0, .ref l0), (3, .int l3), (4, .int l4)]) (st2 := []) hm dX13_frameIsThere_48 rfl ?_
    refine mx_S.ext [(0, .ref l0), (2, .int v13), (3, .int l3), (4, .int l4), (5, .int 0)] (mx_sub_pos [2, 1, 3, 4, 0] rfl (show ([5, 2, 0, 3, 4] : List Nat).Nodup by decide)) ?_
    exact w_X13_frameIsThere_50_ok X hF hL nn hk_6 nn l0 v13 l3 l4 0 h _ hf
  · refine sb_ic_le hm dX13_frameIsThere_39 (tgt := 44) rfl (fun z => absurd z c14) (fun _ => ?_)
    refine sx_ic (v := 0) hm dX13_frameIsThere_42 (by decide) ?_
    cases hf
    exact sx_ire hm dX13_frameIsThere_43 rfl (by decide)
set_option maxHeartbeats 4000000 in
set_option maxRecDepth 20000 in
theorem w_X13_frameIsThere_6_ok (X : Nat × (Nat → Int32)) {F L : Nat} (hF : 10 ≤ F) (hL : 232 ≤ L) (nn : Nat) : ∀ (k : Nat) (l0 : Nat) (l2 : Int32) (l3 : Int32) (h : mx_H) (r : (Int32 × mx_H)), w_X13_frameIsThere_6 nn k l0 l2 l3 h = some r → mx_S X F L 556 6 [(0, .ref l0), (2, .int l2), (3, .int l3)] [] h 0 0 (some (.int r.1), r.2, 0, 0) := by
  have hm : mx_mt 556 = some (yX13_frameIsThere, cX13_frameIsThere, 6, (some .boolean)) := mt_X13_frameIsThere
  intro k
  induction k with
  | zero => intro l0 l2 l3 h r hf; cases hf
  | succ k ih =>
    intro l0 l2 l3 h r hf
    unfold w_X13_frameIsThere_6 at hf
    refine mx_S.pu (pc2 := 7) (lv2 := [(0, .ref l0), (2, .int l2), (3, .int l3)]) (st2 := [.int l3]) hm dX13_frameIsThere_6 rfl ?_
    refine sx_ic (v := 2) hm dX13_frameIsThere_7 (by decide) ?_
    rcases mx_if_el hf with ⟨c21, hf⟩ | ⟨c21, hf⟩
    · refine sb_ic_ge hm dX13_frameIsThere_8 (tgt := 103) rfl (fun _ => ?_) (fun z => absurd c21 z)
      refine sx_ic (v := 1) hm dX13_frameIsThere_103 (by decide) ?_
      cases hf
      exact sx_ire hm dX13_frameIsThere_104 rfl (by decide)
    · refine sb_ic_ge hm dX13_frameIsThere_8 (tgt := 103) rfl (fun z => absurd z c21) (fun _ => ?_)
      refine mx_S.pu (pc2 := 12) (lv2 := [(0, .ref l0), (2, .int l2), (3, .int l3)]) (st2 := [.ref l0]) hm dX13_frameIsThere_11 rfl ?_
      refine mx_S.pu (pc2 := 13) (lv2 := [(0, .ref l0), (2, .int l2), (3, .int l3)]) (st2 := [.ref l0, .ref l0]) hm dX13_frameIsThere_12 rfl ?_
      replace hf := mx_sv_el hf; obtain ⟨v15, e_v15, hf⟩ := hf
      refine sx_get hm dX13_frameIsThere_13 rs_RX13_932 (xgi_el e_v15) ?_
      clear e_v15
      refine mx_S.pu (pc2 := 17) (lv2 := [(0, .ref l0), (2, .int l2), (3, .int l3)]) (st2 := [.int l2, .int v15, .ref l0]) hm dX13_frameIsThere_16 rfl ?_
      replace hf := mx_gd_el hf; obtain ⟨c16, hf⟩ := hf
      replace hf := mx_sv_el hf; obtain ⟨u17, e_u17, hf⟩ := hf
      refine sx_cv hm dX13_frameIsThere_17 rs_RX13_864 mt_X13_byteAt [.int v15, .int l2] [] (b := l0) (ci := 13) rfl rfl rfl c16 (Nat.le_of_ble_eq_true rfl) (Nat.le_of_ble_eq_true rfl) (by omega) (by omega) (f_X13_byteAt_ok X (by omega) (by omega) nn l0 v15 l2 h e_u17) ?_
      clear e_u17
      show mx_S X F L 556 20 [(0, .ref l0), (2, .int l2), (3, .int l3)] [.int u17.1] u17.2 0 0 (some (.int r.1), r.2, 0, 0)
      refine mx_S.pu (pc2 := 22) (lv2 := [(4, .int u17.1), (0, .ref l0), (2, .int l2), (3, .int l3)]) (st2 := []) hm dX13_frameIsThere_20 rfl ?_
      refine mx_S.pu (pc2 := 24) (lv2 := [(4, .int u17.1), (0, .ref l0), (2, .int l2), (3, .int l3)]) (st2 := [.int u17.1]) hm dX13_frameIsThere_22 rfl ?_
      refine mx_S.pu (pc2 := 25) (lv2 := [(4, .int u17.1), (0, .ref l0), (2, .int l2), (3, .int l3)]) (st2 := [.int l3, .int u17.1]) hm dX13_frameIsThere_24 rfl ?_
      rcases mx_if_el hf with ⟨c20, hf⟩ | ⟨c20, hf⟩
      · refine sb_if_ne hm dX13_frameIsThere_25 (tgt := 35) rfl (fun _ => ?_) (fun z => absurd c20 z)
        refine mx_S.pu (pc2 := 36) (lv2 := [(4, .int u17.1), (0, .ref l0), (2, .int l2), (3, .int l3)]) (st2 := [.ref l0, .int u17.1]) hm dX13_frameIsThere_35 rfl ?_
        replace hf := mx_sv_el hf; obtain ⟨v18, e_v18, hf⟩ := hf
        refine sx_get hm dX13_frameIsThere_36 rs_RX13_967 (xgi_el e_v18) ?_
        clear e_v18
        refine mx_S.ext [(0, .ref l0), (2, .int l2), (3, .int l3), (4, .int u17.1)] (mx_sub_pos [1, 2, 3, 0] rfl (show ([4, 0, 2, 3] : List Nat).Nodup by decide)) ?_
        exact j_X13_frameIsThere_39_ok X hF hL nn ih l0 l2 l3 u17.1 v18 u17.1 u17.2 hf
      · refine sb_if_ne hm dX13_frameIsThere_25 (tgt := 35) rfl (fun z => absurd z c20) (fun _ => ?_)
        refine mx_S.pu (pc2 := 29) (lv2 := [(4, .int u17.1), (0, .ref l0), (2, .int l2), (3, .int l3)]) (st2 := [.ref l0, .int u17.1]) hm dX13_frameIsThere_28 rfl ?_
        replace hf := mx_sv_el hf; obtain ⟨v19, e_v19, hf⟩ := hf
        refine sx_get hm dX13_frameIsThere_29 rs_RX13_964 (xgi_el e_v19) ?_
        clear e_v19
        refine mx_S.pu (pc2 := 39) (lv2 := [(4, .int u17.1), (0, .ref l0), (2, .int l2), (3, .int l3)]) (st2 := [.int v19, .int u17.1]) hm dX13_frameIsThere_32 rfl ?_
        refine mx_S.ext [(0, .ref l0), (2, .int l2), (3, .int l3), (4, .int u17.1)] (mx_sub_pos [1, 2, 3, 0] rfl (show ([4, 0, 2, 3] : List Nat).Nodup by decide)) ?_
        exact j_X13_frameIsThere_39_ok X hF hL nn ih l0 l2 l3 u17.1 v19 u17.1 u17.2 hf
set_option maxHeartbeats 4000000 in
set_option maxRecDepth 20000 in
theorem f_X13_frameIsThere_ok (X : Nat × (Nat → Int32)) {F L : Nat} (hF : 10 ≤ F) (hL : 232 ≤ L) (nn : Nat) (a0 : Nat) (a1 : Int32) (h : mx_H) {r : (Int32 × mx_H)} (hf : f_X13_frameIsThere nn a0 a1 h = some r) : mx_R X F L 556 [.ref a0, .int a1] h (some (.int r.1), r.2, 0, 0) := by
  have hm : mx_mt 556 = some (yX13_frameIsThere, cX13_frameIsThere, 6, (some .boolean)) := mt_X13_frameIsThere
  show mx_S X F L 556 0 [(0, .ref a0), (1, .int a1)] [] h 0 0 (some (.int r.1), r.2, 0, 0)
  unfold f_X13_frameIsThere at hf
  refine mx_S.pu (pc2 := 1) (lv2 := [(0, .ref a0), (1, .int a1)]) (st2 := [.int a1]) hm dX13_frameIsThere_0 rfl ?_
  refine sx_ic (v := 2) hm dX13_frameIsThere_1 (by decide) ?_
  replace hf := xl_el hf; obtain ⟨v22, e_v22, hf⟩ := hf
  refine mx_S.pu (pc2 := 3) (lv2 := [(0, .ref a0), (1, .int a1)]) (st2 := [.int v22]) hm dX13_frameIsThere_2 (by rw [← e_v22]; rfl) ?_
  clear e_v22
  refine mx_S.pu (pc2 := 4) (lv2 := [(2, .int v22), (0, .ref a0), (1, .int a1)]) (st2 := []) hm dX13_frameIsThere_3 rfl ?_
  refine sx_ic (v := 0) hm dX13_frameIsThere_4 (by decide) ?_
  refine mx_S.pu (pc2 := 6) (lv2 := [(3, .int 0), (2, .int v22), (0, .ref a0), (1, .int a1)]) (st2 := []) hm dX13_frameIsThere_5 rfl ?_
  refine mx_S.ext [(0, .ref a0), (2, .int v22), (3, .int 0)] (mx_sub_pos [2, 1, 0] rfl (show ([3, 2, 0, 1] : List Nat).Nodup by decide)) ?_
  exact w_X13_frameIsThere_6_ok X hF hL nn nn a0 v22 0 h _ hf
set_option maxHeartbeats 4000000 in
set_option maxRecDepth 20000 in
theorem j_X13_handlerFits_94_ok (X : Nat × (Nat → Int32)) {F L : Nat} (hF : 10 ≤ F) (hL : 229 ≤ L) (nn : Nat) (l0 : Nat) (l1 : Int32) (l4 : Int32) (s0 : Int32) (h : mx_H) {r : (Int32 × mx_H)} (hf : j_X13_handlerFits_94 nn l0 l1 l4 s0 h = some r) : mx_S X F L 555 94 [(0, .ref l0), (1, .int l1), (4, .int l4)] [.int s0] h 0 0 (some (.int r.1), r.2, 0, 0) := by
  have hm : mx_mt 555 = some (yX13_handlerFits, cX13_handlerFits, 7, (some .boolean)) := mt_X13_handlerFits
  unfold j_X13_handlerFits_94 at hf
  refine mx_S.pu (pc2 := 96) (lv2 := [(5, .int s0), (0, .ref l0), (1, .int l1), (4, .int l4)]) (st2 := []) hm dX13_handlerFits_94 rfl ?_
  refine mx_S.pu (pc2 := 97) (lv2 := [(5, .int s0), (0, .ref l0), (1, .int l1), (4, .int l4)]) (st2 := [.ref l0]) hm dX13_handlerFits_96 rfl ?_
  refine mx_S.pu (pc2 := 98) (lv2 := [(5, .int s0), (0, .ref l0), (1, .int l1), (4, .int l4)]) (st2 := [.ref l0, .ref l0]) hm dX13_handlerFits_97 rfl ?_
  replace hf := mx_sv_el hf; obtain ⟨v1, e_v1, hf⟩ := hf
  refine sx_get hm dX13_handlerFits_98 rs_RX13_932 (xgi_el e_v1) ?_
  clear e_v1
  refine mx_S.pu (pc2 := 102) (lv2 := [(5, .int s0), (0, .ref l0), (1, .int l1), (4, .int l4)]) (st2 := [.ref l0, .int v1, .ref l0]) hm dX13_handlerFits_101 rfl ?_
  refine mx_S.pu (pc2 := 103) (lv2 := [(5, .int s0), (0, .ref l0), (1, .int l1), (4, .int l4)]) (st2 := [.ref l0, .ref l0, .int v1, .ref l0]) hm dX13_handlerFits_102 rfl ?_
  replace hf := mx_sv_el hf; obtain ⟨v2, e_v2, hf⟩ := hf
  refine sx_get hm dX13_handlerFits_103 rs_RX13_932 (xgi_el e_v2) ?_
  clear e_v2
  refine mx_S.pu (pc2 := 107) (lv2 := [(5, .int s0), (0, .ref l0), (1, .int l1), (4, .int l4)]) (st2 := [.int l1, .int v2, .ref l0, .int v1, .ref l0]) hm dX13_handlerFits_106 rfl ?_
  refine sx_bi (v := 6) hm dX13_handlerFits_107 (by decide) ?_
  replace hf := xl_el hf; obtain ⟨v3, e_v3, hf⟩ := hf
  refine mx_S.pu (pc2 := 110) (lv2 := [(5, .int s0), (0, .ref l0), (1, .int l1), (4, .int l4)]) (st2 := [.int v3, .int v2, .ref l0, .int v1, .ref l0]) hm dX13_handlerFits_109 (by rw [← e_v3]; rfl) ?_
  clear e_v3
  replace hf := mx_gd_el hf; obtain ⟨c4, hf⟩ := hf
  replace hf := mx_sv_el hf; obtain ⟨u5, e_u5, hf⟩ := hf
  refine sx_cv hm dX13_handlerFits_110 rs_RX13_864 mt_X13_byteAt [.int v2, .int v3] [.int v1, .ref l0] (b := l0) (ci := 13) rfl rfl rfl c4 (Nat.le_of_ble_eq_true rfl) (Nat.le_of_ble_eq_true rfl) (by omega) (by omega) (f_X13_byteAt_ok X (by omega) (by omega) nn l0 v2 v3 h e_u5) ?_
  clear e_u5
  show mx_S X F L 555 113 [(5, .int s0), (0, .ref l0), (1, .int l1), (4, .int l4)] [.int u5.1, .int v1, .ref l0] u5.2 0 0 (some (.int r.1), r.2, 0, 0)
  replace hf := mx_gd_el hf; obtain ⟨c6, hf⟩ := hf
  replace hf := mx_sv_el hf; obtain ⟨u7, e_u7, hf⟩ := hf
  refine sx_cv hm dX13_handlerFits_113 rs_RX13_952 mt_X13_typeOfClass [.int v1, .int u5.1] [] (b := l0) (ci := 13) rfl rfl rfl c6 (Nat.le_of_ble_eq_true rfl) (Nat.le_of_ble_eq_true rfl) (by omega) (by omega) (f_X13_typeOfClass_ok X (by omega) (by omega) nn l0 v1 u5.1 u5.2 e_u7) ?_
  clear e_u7
  show mx_S X F L 555 116 [(5, .int s0), (0, .ref l0), (1, .int l1), (4, .int l4)] [.int u7.1] u7.2 0 0 (some (.int r.1), r.2, 0, 0)
  refine mx_S.pu (pc2 := 118) (lv2 := [(6, .int u7.1), (5, .int s0), (0, .ref l0), (1, .int l1), (4, .int l4)]) (st2 := []) hm dX13_handlerFits_116 rfl ?_
  refine mx_S.pu (pc2 := 120) (lv2 := [(6, .int u7.1), (5, .int s0), (0, .ref l0), (1, .int l1), (4, .int l4)]) (st2 := [.int s0]) hm dX13_handlerFits_118 rfl ?_
  rcases mx_if_el hf with ⟨c16, hf⟩ | ⟨c16, hf⟩
  · refine sb_if_eq hm dX13_handlerFits_120 (tgt := 156) rfl (fun _ => ?_) (fun z => absurd c16 z)
    refine sx_ic (v := 0) hm dX13_handlerFits_156 (by decide) ?_
    cases hf
    exact sx_ire hm dX13_handlerFits_157 rfl (by decide)
  · refine sb_if_eq hm dX13_handlerFits_120 (tgt := 156) rfl (fun z => absurd z c16) (fun _ => ?_)
    refine mx_S.pu (pc2 := 124) (lv2 := [(6, .int u7.1), (5, .int s0), (0, .ref l0), (1, .int l1), (4, .int l4)]) (st2 := [.ref l0]) hm dX13_handlerFits_123 rfl ?_
    refine mx_S.pu (pc2 := 126) (lv2 := [(6, .int u7.1), (5, .int s0), (0, .ref l0), (1, .int l1), (4, .int l4)]) (st2 := [.int l4, .ref l0]) hm dX13_handlerFits_124 rfl ?_
    replace hf := mx_gd_el hf; obtain ⟨c8, hf⟩ := hf
    replace hf := mx_sv_el hf; obtain ⟨u9, e_u9, hf⟩ := hf
    refine sx_cv hm dX13_handlerFits_126 rs_RX13_995 mt_X13_frameFor [.int l4] [] (b := l0) (ci := 13) rfl rfl rfl c8 (Nat.le_of_ble_eq_true rfl) (Nat.le_of_ble_eq_true rfl) (by omega) (by omega) (f_X13_frameFor_ok X (by omega) (by omega) nn l0 l4 u7.2 e_u9) ?_
    clear e_u9
    show mx_S X F L 555 129 [(6, .int u7.1), (5, .int s0), (0, .ref l0), (1, .int l1), (4, .int l4)] [.int u9.1] u9.2 0 0 (some (.int r.1), r.2, 0, 0)
    refine sx_ic (v := (-1)) hm dX13_handlerFits_129 (by decide) ?_
    rcases mx_if_el hf with ⟨c15, hf⟩ | ⟨c15, hf⟩
    · refine sb_ic_eq hm dX13_handlerFits_130 (tgt := 156) rfl (fun _ => ?_) (fun z => absurd c15 z)
      refine sx_ic (v := 0) hm dX13_handlerFits_156 (by decide) ?_
      cases hf
      exact sx_ire hm dX13_handlerFits_157 rfl (by decide)
    · refine sb_ic_eq hm dX13_handlerFits_130 (tgt := 156) rfl (fun z => absurd z c15) (fun _ => ?_)
      refine mx_S.pu (pc2 := 135) (lv2 := [(6, .int u7.1), (5, .int s0), (0, .ref l0), (1, .int l1), (4, .int l4)]) (st2 := [.int u7.1]) hm dX13_handlerFits_133 rfl ?_
      replace hf := mx_sv_el hf; obtain ⟨u10, e_u10, hf⟩ := hf
      refine sx_cs hm dX13_handlerFits_135 rs_RX13_916 mt_X13_isThere [.int u7.1] [] rfl rfl (Nat.le_of_ble_eq_true rfl) (Nat.le_of_ble_eq_true rfl) (by omega) (by omega) (f_X13_isThere_ok X (by omega) (by omega) nn u7.1 u9.2 e_u10) ?_
      clear e_u10
      show mx_S X F L 555 138 [(6, .int u7.1), (5, .int s0), (0, .ref l0), (1, .int l1), (4, .int l4)] [.int u10.1] u10.2 0 0 (some (.int r.1), r.2, 0, 0)
      rcases mx_if_el hf with ⟨c14, hf⟩ | ⟨c14, hf⟩
      · refine sb_if_eq hm dX13_handlerFits_138 (tgt := 156) rfl (fun _ => ?_) (fun z => absurd c14 z)
        refine sx_ic (v := 0) hm dX13_handlerFits_156 (by decide) ?_
        cases hf
        exact sx_ire hm dX13_handlerFits_157 rfl (by decide)
      · refine sb_if_eq hm dX13_handlerFits_138 (tgt := 156) rfl (fun z => absurd z c14) (fun _ => ?_)
        refine mx_S.pu (pc2 := 142) (lv2 := [(6, .int u7.1), (5, .int s0), (0, .ref l0), (1, .int l1), (4, .int l4)]) (st2 := [.ref l0]) hm dX13_handlerFits_141 rfl ?_
        refine mx_S.pu (pc2 := 144) (lv2 := [(6, .int u7.1), (5, .int s0), (0, .ref l0), (1, .int l1), (4, .int l4)]) (st2 := [.int u7.1, .ref l0]) hm dX13_handlerFits_142 rfl ?_
        refine sx_bi (v := 6) hm dX13_handlerFits_144 (by decide) ?_
        replace hf := mx_gd_el hf; obtain ⟨c11, hf⟩ := hf
        replace hf := mx_sv_el hf; obtain ⟨u12, e_u12, hf⟩ := hf
        refine sx_cv hm dX13_handlerFits_146 rs_RX13_958 mt_X13_goes [.int u7.1, .int 6] [] (b := l0) (ci := 13) rfl rfl rfl c11 (Nat.le_of_ble_eq_true rfl) (Nat.le_of_ble_eq_true rfl) (by omega) (by omega) (f_X13_goes_ok X (by omega) (by omega) nn l0 u7.1 6 u10.2 e_u12) ?_
        clear e_u12
        show mx_S X F L 555 149 [(6, .int u7.1), (5, .int s0), (0, .ref l0), (1, .int l1), (4, .int l4)] [.int u12.1] u12.2 0 0 (some (.int r.1), r.2, 0, 0)
        rcases mx_if_el hf with ⟨c13, hf⟩ | ⟨c13, hf⟩
        · refine sb_if_eq hm dX13_handlerFits_149 (tgt := 156) rfl (fun _ => ?_) (fun z => absurd c13 z)
          refine sx_ic (v := 0) hm dX13_handlerFits_156 (by decide) ?_
          cases hf
          exact sx_ire hm dX13_handlerFits_157 rfl (by decide)
        · refine sb_if_eq hm dX13_handlerFits_149 (tgt := 156) rfl (fun z => absurd z c13) (fun _ => ?_)
          refine sx_ic (v := 1) hm dX13_handlerFits_152 (by decide) ?_
          refine mx_S.pu (pc2 := 157) (lv2 := [(6, .int u7.1), (5, .int s0), (0, .ref l0), (1, .int l1), (4, .int l4)]) (st2 := [.int 1]) hm dX13_handlerFits_153 rfl ?_
          cases hf
          exact sx_ire hm dX13_handlerFits_157 rfl (by decide)
set_option maxHeartbeats 4000000 in
set_option maxRecDepth 20000 in
theorem j_X13_handlerFits_93_ok (X : Nat × (Nat → Int32)) {F L : Nat} (hF : 10 ≤ F) (hL : 229 ≤ L) (nn : Nat) (l0 : Nat) (l1 : Int32) (l4 : Int32) (h : mx_H) {r : (Int32 × mx_H)} (hf : j_X13_handlerFits_93 nn l0 l1 l4 h = some r) : mx_S X F L 555 93 [(0, .ref l0), (1, .int l1), (4, .int l4)] [] h 0 0 (some (.int r.1), r.2, 0, 0) := by
  have hm : mx_mt 555 = some (yX13_handlerFits, cX13_handlerFits, 7, (some .boolean)) := mt_X13_handlerFits
  unfold j_X13_handlerFits_93 at hf
  refine sx_ic (v := 0) hm dX13_handlerFits_93 (by decide) ?_
  exact j_X13_handlerFits_94_ok X hF hL nn l0 l1 l4 0 h hf
set_option maxHeartbeats 4000000 in
set_option maxRecDepth 20000 in
theorem j_X13_handlerFits_84_ok (X : Nat × (Nat → Int32)) {F L : Nat} (hF : 10 ≤ F) (hL : 229 ≤ L) (nn : Nat) (l0 : Nat) (l1 : Int32) (l2 : Int32) (l3 : Int32) (l4 : Int32) (h : mx_H) {r : (Int32 × mx_H)} (hf : j_X13_handlerFits_84 nn l0 l1 l2 l3 l4 h = some r) : mx_S X F L 555 84 [(0, .ref l0), (1, .int l1), (2, .int l2), (3, .int l3), (4, .int l4)] [] h 0 0 (some (.int r.1), r.2, 0, 0) := by
  have hm : mx_mt 555 = some (yX13_handlerFits, cX13_handlerFits, 7, (some .boolean)) := mt_X13_handlerFits
  unfold j_X13_handlerFits_84 at hf
  refine mx_S.pu (pc2 := 85) (lv2 := [(0, .ref l0), (1, .int l1), (2, .int l2), (3, .int l3), (4, .int l4)]) (st2 := [.int l2]) hm dX13_handlerFits_84 rfl ?_
  refine mx_S.pu (pc2 := 86) (lv2 := [(0, .ref l0), (1, .int l1), (2, .int l2), (3, .int l3), (4, .int l4)]) (st2 := [.int l3, .int l2]) hm dX13_handlerFits_85 rfl ?_
  rcases mx_if_el hf with ⟨c17, hf⟩ | ⟨c17, hf⟩
  · refine sb_ic_ge hm dX13_handlerFits_86 (tgt := 93) rfl (fun _ => ?_) (fun z => absurd c17 z)
    refine mx_S.ext [(0, .ref l0), (1, .int l1), (4, .int l4)] (mx_sub_pos [0, 1, 4] rfl (show ([0, 1, 2, 3, 4] : List Nat).Nodup by decide)) ?_
    exact j_X13_handlerFits_93_ok X hF hL nn l0 l1 l4 h hf
  · refine sb_ic_ge hm dX13_handlerFits_86 (tgt := 93) rfl (fun z => absurd z c17) (fun _ => ?_)
    refine sx_ic (v := 1) hm dX13_handlerFits_89 (by decide) ?_
    refine mx_S.pu (pc2 := 94) (lv2 := [(0, .ref l0), (1, .int l1), (2, .int l2), (3, .int l3), (4, .int l4)]) (st2 := [.int 1]) hm dX13_handlerFits_90 rfl ?_
    refine mx_S.ext [(0, .ref l0), (1, .int l1), (4, .int l4)] (mx_sub_pos [0, 1, 4] rfl (show ([0, 1, 2, 3, 4] : List Nat).Nodup by decide)) ?_
    exact j_X13_handlerFits_94_ok X hF hL nn l0 l1 l4 1 h hf
set_option maxHeartbeats 4000000 in
set_option maxRecDepth 20000 in
theorem f_X13_handlerFits_ok (X : Nat × (Nat → Int32)) {F L : Nat} (hF : 10 ≤ F) (hL : 229 ≤ L) (nn : Nat) (a0 : Nat) (a1 : Int32) (h : mx_H) {r : (Int32 × mx_H)} (hf : f_X13_handlerFits nn a0 a1 h = some r) : mx_R X F L 555 [.ref a0, .int a1] h (some (.int r.1), r.2, 0, 0) := by
  have hm : mx_mt 555 = some (yX13_handlerFits, cX13_handlerFits, 7, (some .boolean)) := mt_X13_handlerFits
  show mx_S X F L 555 0 [(0, .ref a0), (1, .int a1)] [] h 0 0 (some (.int r.1), r.2, 0, 0)
  unfold f_X13_handlerFits at hf
  refine mx_S.pu (pc2 := 1) (lv2 := [(0, .ref a0), (1, .int a1)]) (st2 := [.ref a0]) hm dX13_handlerFits_0 rfl ?_
  refine mx_S.pu (pc2 := 2) (lv2 := [(0, .ref a0), (1, .int a1)]) (st2 := [.int a1, .ref a0]) hm dX13_handlerFits_1 rfl ?_
  replace hf := mx_gd_el hf; obtain ⟨c18, hf⟩ := hf
  replace hf := mx_sv_el hf; obtain ⟨u19, e_u19, hf⟩ := hf
  refine sx_cv hm dX13_handlerFits_2 rs_RX13_949 mt_X13_pairIn [.int a1] [] (b := a0) (ci := 13) rfl rfl rfl c18 (Nat.le_of_ble_eq_true rfl) (Nat.le_of_ble_eq_true rfl) (by omega) (by omega) (f_X13_pairIn_ok X (by omega) (by omega) nn a0 a1 h e_u19) ?_
  clear e_u19
  show mx_S X F L 555 5 [(0, .ref a0), (1, .int a1)] [.int u19.1] u19.2 0 0 (some (.int r.1), r.2, 0, 0)
  refine mx_S.pu (pc2 := 6) (lv2 := [(2, .int u19.1), (0, .ref a0), (1, .int a1)]) (st2 := []) hm dX13_handlerFits_5 rfl ?_
  refine mx_S.pu (pc2 := 7) (lv2 := [(2, .int u19.1), (0, .ref a0), (1, .int a1)]) (st2 := [.ref a0]) hm dX13_handlerFits_6 rfl ?_
  refine mx_S.pu (pc2 := 8) (lv2 := [(2, .int u19.1), (0, .ref a0), (1, .int a1)]) (st2 := [.int a1, .ref a0]) hm dX13_handlerFits_7 rfl ?_
  refine sx_ic (v := 2) hm dX13_handlerFits_8 (by decide) ?_
  replace hf := xl_el hf; obtain ⟨v20, e_v20, hf⟩ := hf
  refine mx_S.pu (pc2 := 10) (lv2 := [(2, .int u19.1), (0, .ref a0), (1, .int a1)]) (st2 := [.int v20, .ref a0]) hm dX13_handlerFits_9 (by rw [← e_v20]; rfl) ?_
  clear e_v20
  replace hf := mx_gd_el hf; obtain ⟨c21, hf⟩ := hf
  replace hf := mx_sv_el hf; obtain ⟨u22, e_u22, hf⟩ := hf
  refine sx_cv hm dX13_handlerFits_10 rs_RX13_949 mt_X13_pairIn [.int v20] [] (b := a0) (ci := 13) rfl rfl rfl c21 (Nat.le_of_ble_eq_true rfl) (Nat.le_of_ble_eq_true rfl) (by omega) (by omega) (f_X13_pairIn_ok X (by omega) (by omega) nn a0 v20 u19.2 e_u22) ?_
  clear e_u22
  show mx_S X F L 555 13 [(2, .int u19.1), (0, .ref a0), (1, .int a1)] [.int u22.1] u22.2 0 0 (some (.int r.1), r.2, 0, 0)
  refine mx_S.pu (pc2 := 14) (lv2 := [(3, .int u22.1), (2, .int u19.1), (0, .ref a0), (1, .int a1)]) (st2 := []) hm dX13_handlerFits_13 rfl ?_
  refine mx_S.pu (pc2 := 15) (lv2 := [(3, .int u22.1), (2, .int u19.1), (0, .ref a0), (1, .int a1)]) (st2 := [.ref a0]) hm dX13_handlerFits_14 rfl ?_
  refine mx_S.pu (pc2 := 16) (lv2 := [(3, .int u22.1), (2, .int u19.1), (0, .ref a0), (1, .int a1)]) (st2 := [.int a1, .ref a0]) hm dX13_handlerFits_15 rfl ?_
  refine sx_ic (v := 4) hm dX13_handlerFits_16 (by decide) ?_
  replace hf := xl_el hf; obtain ⟨v23, e_v23, hf⟩ := hf
  refine mx_S.pu (pc2 := 18) (lv2 := [(3, .int u22.1), (2, .int u19.1), (0, .ref a0), (1, .int a1)]) (st2 := [.int v23, .ref a0]) hm dX13_handlerFits_17 (by rw [← e_v23]; rfl) ?_
  clear e_v23
  replace hf := mx_gd_el hf; obtain ⟨c24, hf⟩ := hf
  replace hf := mx_sv_el hf; obtain ⟨u25, e_u25, hf⟩ := hf
  refine sx_cv hm dX13_handlerFits_18 rs_RX13_949 mt_X13_pairIn [.int v23] [] (b := a0) (ci := 13) rfl rfl rfl c24 (Nat.le_of_ble_eq_true rfl) (Nat.le_of_ble_eq_true rfl) (by omega) (by omega) (f_X13_pairIn_ok X (by omega) (by omega) nn a0 v23 u22.2 e_u25) ?_
  clear e_u25
  show mx_S X F L 555 21 [(3, .int u22.1), (2, .int u19.1), (0, .ref a0), (1, .int a1)] [.int u25.1] u25.2 0 0 (some (.int r.1), r.2, 0, 0)
  refine mx_S.pu (pc2 := 23) (lv2 := [(4, .int u25.1), (3, .int u22.1), (2, .int u19.1), (0, .ref a0), (1, .int a1)]) (st2 := []) hm dX13_handlerFits_21 rfl ?_
  refine mx_S.pu (pc2 := 24) (lv2 := [(4, .int u25.1), (3, .int u22.1), (2, .int u19.1), (0, .ref a0), (1, .int a1)]) (st2 := [.int u19.1]) hm dX13_handlerFits_23 rfl ?_
  refine mx_S.pu (pc2 := 25) (lv2 := [(4, .int u25.1), (3, .int u22.1), (2, .int u19.1), (0, .ref a0), (1, .int a1)]) (st2 := [.ref a0, .int u19.1]) hm dX13_handlerFits_24 rfl ?_
  replace hf := mx_sv_el hf; obtain ⟨v26, e_v26, hf⟩ := hf
  refine sx_get hm dX13_handlerFits_25 rs_RX13_970 (xgi_el e_v26) ?_
  clear e_v26
  rcases mx_if_el hf with ⟨c42, hf⟩ | ⟨c42, hf⟩
  · refine sb_ic_ge hm dX13_handlerFits_28 (tgt := 93) rfl (fun _ => ?_) (fun z => absurd c42 z)
    refine mx_S.ext [(0, .ref a0), (1, .int a1), (4, .int u25.1)] (mx_sub_pos [3, 4, 0] rfl (show ([4, 3, 2, 0, 1] : List Nat).Nodup by decide)) ?_
    exact j_X13_handlerFits_93_ok X hF hL nn a0 a1 u25.1 u25.2 hf
  · refine sb_ic_ge hm dX13_handlerFits_28 (tgt := 93) rfl (fun z => absurd z c42) (fun _ => ?_)
    refine mx_S.pu (pc2 := 32) (lv2 := [(4, .int u25.1), (3, .int u22.1), (2, .int u19.1), (0, .ref a0), (1, .int a1)]) (st2 := [.ref a0]) hm dX13_handlerFits_31 rfl ?_
    replace hf := mx_sv_el hf; obtain ⟨v27, e_v27, hf⟩ := hf
    refine sx_get hm dX13_handlerFits_32 rs_RX13_267 (xgr_el e_v27) ?_
    clear e_v27
    refine mx_S.pu (pc2 := 36) (lv2 := [(4, .int u25.1), (3, .int u22.1), (2, .int u19.1), (0, .ref a0), (1, .int a1)]) (st2 := [.int u19.1, .ref v27]) hm dX13_handlerFits_35 rfl ?_
    replace hf := mx_sv_el hf; obtain ⟨v28, e_v28, hf⟩ := hf
    refine sx_bld hm dX13_handlerFits_36 e_v28 ?_
    clear e_v28
    rcases mx_if_el hf with ⟨c41, hf⟩ | ⟨c41, hf⟩
    · refine sb_if_eq hm dX13_handlerFits_37 (tgt := 93) rfl (fun _ => ?_) (fun z => absurd c41 z)
      refine mx_S.ext [(0, .ref a0), (1, .int a1), (4, .int u25.1)] (mx_sub_pos [3, 4, 0] rfl (show ([4, 3, 2, 0, 1] : List Nat).Nodup by decide)) ?_
      exact j_X13_handlerFits_93_ok X hF hL nn a0 a1 u25.1 u25.2 hf
    · refine sb_if_eq hm dX13_handlerFits_37 (tgt := 93) rfl (fun z => absurd z c41) (fun _ => ?_)
      refine mx_S.pu (pc2 := 42) (lv2 := [(4, .int u25.1), (3, .int u22.1), (2, .int u19.1), (0, .ref a0), (1, .int a1)]) (st2 := [.int u25.1]) hm dX13_handlerFits_40 rfl ?_
      refine mx_S.pu (pc2 := 43) (lv2 := [(4, .int u25.1), (3, .int u22.1), (2, .int u19.1), (0, .ref a0), (1, .int a1)]) (st2 := [.ref a0, .int u25.1]) hm dX13_handlerFits_42 rfl ?_
      replace hf := mx_sv_el hf; obtain ⟨v29, e_v29, hf⟩ := hf
      refine sx_get hm dX13_handlerFits_43 rs_RX13_970 (xgi_el e_v29) ?_
      clear e_v29
      rcases mx_if_el hf with ⟨c40, hf⟩ | ⟨c40, hf⟩
      · refine sb_ic_ge hm dX13_handlerFits_46 (tgt := 93) rfl (fun _ => ?_) (fun z => absurd c40 z)
        refine mx_S.ext [(0, .ref a0), (1, .int a1), (4, .int u25.1)] (mx_sub_pos [3, 4, 0] rfl (show ([4, 3, 2, 0, 1] : List Nat).Nodup by decide)) ?_
        exact j_X13_handlerFits_93_ok X hF hL nn a0 a1 u25.1 u25.2 hf
      · refine sb_ic_ge hm dX13_handlerFits_46 (tgt := 93) rfl (fun z => absurd z c40) (fun _ => ?_)
        refine mx_S.pu (pc2 := 50) (lv2 := [(4, .int u25.1), (3, .int u22.1), (2, .int u19.1), (0, .ref a0), (1, .int a1)]) (st2 := [.ref a0]) hm dX13_handlerFits_49 rfl ?_
        replace hf := mx_sv_el hf; obtain ⟨v30, e_v30, hf⟩ := hf
        refine sx_get hm dX13_handlerFits_50 rs_RX13_267 (xgr_el e_v30) ?_
        clear e_v30
        refine mx_S.pu (pc2 := 55) (lv2 := [(4, .int u25.1), (3, .int u22.1), (2, .int u19.1), (0, .ref a0), (1, .int a1)]) (st2 := [.int u25.1, .ref v30]) hm dX13_handlerFits_53 rfl ?_
        replace hf := mx_sv_el hf; obtain ⟨v31, e_v31, hf⟩ := hf
        refine sx_bld hm dX13_handlerFits_55 e_v31 ?_
        clear e_v31
        rcases mx_if_el hf with ⟨c39, hf⟩ | ⟨c39, hf⟩
        · refine sb_if_eq hm dX13_handlerFits_56 (tgt := 93) rfl (fun _ => ?_) (fun z => absurd c39 z)
          refine mx_S.ext [(0, .ref a0), (1, .int a1), (4, .int u25.1)] (mx_sub_pos [3, 4, 0] rfl (show ([4, 3, 2, 0, 1] : List Nat).Nodup by decide)) ?_
          exact j_X13_handlerFits_93_ok X hF hL nn a0 a1 u25.1 u25.2 hf
        · refine sb_if_eq hm dX13_handlerFits_56 (tgt := 93) rfl (fun z => absurd z c39) (fun _ => ?_)
          refine mx_S.pu (pc2 := 60) (lv2 := [(4, .int u25.1), (3, .int u22.1), (2, .int u19.1), (0, .ref a0), (1, .int a1)]) (st2 := [.int u22.1]) hm dX13_handlerFits_59 rfl ?_
          refine mx_S.pu (pc2 := 61) (lv2 := [(4, .int u25.1), (3, .int u22.1), (2, .int u19.1), (0, .ref a0), (1, .int a1)]) (st2 := [.ref a0, .int u22.1]) hm dX13_handlerFits_60 rfl ?_
          replace hf := mx_sv_el hf; obtain ⟨v32, e_v32, hf⟩ := hf
          refine sx_get hm dX13_handlerFits_61 rs_RX13_970 (xgi_el e_v32) ?_
          clear e_v32
          rcases mx_if_el hf with ⟨c38, hf⟩ | ⟨c38, hf⟩
          · refine sb_ic_eq hm dX13_handlerFits_64 (tgt := 84) rfl (fun _ => ?_) (fun z => absurd c38 z)
            refine mx_S.ext [(0, .ref a0), (1, .int a1), (2, .int u19.1), (3, .int u22.1), (4, .int u25.1)] (mx_sub_pos [3, 4, 2, 1, 0] rfl (show ([4, 3, 2, 0, 1] : List Nat).Nodup by decide)) ?_
            exact j_X13_handlerFits_84_ok X hF hL nn a0 a1 u19.1 u22.1 u25.1 u25.2 hf
          · refine sb_ic_eq hm dX13_handlerFits_64 (tgt := 84) rfl (fun z => absurd z c38) (fun _ => ?_)
            refine mx_S.pu (pc2 := 68) (lv2 := [(4, .int u25.1), (3, .int u22.1), (2, .int u19.1), (0, .ref a0), (1, .int a1)]) (st2 := [.int u22.1]) hm dX13_handlerFits_67 rfl ?_
            refine mx_S.pu (pc2 := 69) (lv2 := [(4, .int u25.1), (3, .int u22.1), (2, .int u19.1), (0, .ref a0), (1, .int a1)]) (st2 := [.ref a0, .int u22.1]) hm dX13_handlerFits_68 rfl ?_
            replace hf := mx_sv_el hf; obtain ⟨v33, e_v33, hf⟩ := hf
            refine sx_get hm dX13_handlerFits_69 rs_RX13_970 (xgi_el e_v33) ?_
            clear e_v33
            rcases mx_if_el hf with ⟨c37, hf⟩ | ⟨c37, hf⟩
            · refine sb_ic_ge hm dX13_handlerFits_72 (tgt := 93) rfl (fun _ => ?_) (fun z => absurd c37 z)
              refine mx_S.ext [(0, .ref a0), (1, .int a1), (4, .int u25.1)] (mx_sub_pos [3, 4, 0] rfl (show ([4, 3, 2, 0, 1] : List Nat).Nodup by decide)) ?_
              exact j_X13_handlerFits_93_ok X hF hL nn a0 a1 u25.1 u25.2 hf
            · refine sb_ic_ge hm dX13_handlerFits_72 (tgt := 93) rfl (fun z => absurd z c37) (fun _ => ?_)
              refine mx_S.pu (pc2 := 76) (lv2 := [(4, .int u25.1), (3, .int u22.1), (2, .int u19.1), (0, .ref a0), (1, .int a1)]) (st2 := [.ref a0]) hm dX13_handlerFits_75 rfl ?_
              replace hf := mx_sv_el hf; obtain ⟨v34, e_v34, hf⟩ := hf
              refine sx_get hm dX13_handlerFits_76 rs_RX13_267 (xgr_el e_v34) ?_
              clear e_v34
              refine mx_S.pu (pc2 := 80) (lv2 := [(4, .int u25.1), (3, .int u22.1), (2, .int u19.1), (0, .ref a0), (1, .int a1)]) (st2 := [.int u22.1, .ref v34]) hm dX13_handlerFits_79 rfl ?_
              replace hf := mx_sv_el hf; obtain ⟨v35, e_v35, hf⟩ := hf
              refine sx_bld hm dX13_handlerFits_80 e_v35 ?_
              clear e_v35
              rcases mx_if_el hf with ⟨c36, hf⟩ | ⟨c36, hf⟩
              · refine sb_if_eq hm dX13_handlerFits_81 (tgt := 93) rfl (fun _ => ?_) (fun z => absurd c36 z)
                refine mx_S.ext [(0, .ref a0), (1, .int a1), (4, .int u25.1)] (mx_sub_pos [3, 4, 0] rfl (show ([4, 3, 2, 0, 1] : List Nat).Nodup by decide)) ?_
                exact j_X13_handlerFits_93_ok X hF hL nn a0 a1 u25.1 u25.2 hf
              · refine sb_if_eq hm dX13_handlerFits_81 (tgt := 93) rfl (fun z => absurd z c36) (fun _ => ?_)
                refine mx_S.ext [(0, .ref a0), (1, .int a1), (2, .int u19.1), (3, .int u22.1), (4, .int u25.1)] (mx_sub_pos [3, 4, 2, 1, 0] rfl (show ([4, 3, 2, 0, 1] : List Nat).Nodup by decide)) ?_
                exact j_X13_handlerFits_84_ok X hF hL nn a0 a1 u19.1 u22.1 u25.1 u25.2 hf
