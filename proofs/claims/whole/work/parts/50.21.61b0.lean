set_option maxHeartbeats 4000000 in
set_option maxRecDepth 20000 in
theorem j_X13_methodFits_305_ok (X : Nat × (Nat → Int32)) {F L : Nat} (hF : 14 ≤ F) (hL : 329 ≤ L) (nn : Nat) (l0 : Nat) (l1 : Int32) (l2 : Int32) (l5 : Int32) (h : mx_H) {r : (Int32 × mx_H)} (hf : j_X13_methodFits_305 nn l0 l1 l2 l5 h = some r) : mx_S X F L 554 305 [(0, .ref l0), (1, .int l1), (2, .int l2), (5, .int l5)] [] h 0 0 (some (.int r.1), r.2, 0, 0) := by
  have hm : mx_mt 554 = some (yX13_methodFits, cX13_methodFits, 8, (some .boolean)) := mt_X13_methodFits
  unfold j_X13_methodFits_305 at hf
  refine mx_S.pu (pc2 := 306) (lv2 := [(0, .ref l0), (1, .int l1), (2, .int l2), (5, .int l5)]) (st2 := [.ref l0]) hm dX13_methodFits_305 rfl ?_
  refine sx_bi (v := 9) hm dX13_methodFits_306 (by decide) ?_
  refine mx_S.pu (pc2 := 309) (lv2 := [(0, .ref l0), (1, .int l1), (2, .int l2), (5, .int l5)]) (st2 := [.int l1, .int 9, .ref l0]) hm dX13_methodFits_308 rfl ?_
  refine mx_S.pu (pc2 := 310) (lv2 := [(0, .ref l0), (1, .int l1), (2, .int l2), (5, .int l5)]) (st2 := [.int l2, .int l1, .int 9, .ref l0]) hm dX13_methodFits_309 rfl ?_
  refine mx_S.pu (pc2 := 312) (lv2 := [(0, .ref l0), (1, .int l1), (2, .int l2), (5, .int l5)]) (st2 := [.int l5, .int l2, .int l1, .int 9, .ref l0]) hm dX13_methodFits_310 rfl ?_
  replace hf := mx_gd_el hf; obtain ⟨c1, hf⟩ := hf
  replace hf := mx_sv_el hf; obtain ⟨u2, e_u2, hf⟩ := hf
  refine sx_cv hm dX13_methodFits_312 rs_RX13_922 mt_X13_bad [.int 9, .int l1, .int l2, .int l5] [] (b := l0) (ci := 13) rfl rfl rfl c1 (Nat.le_of_ble_eq_true rfl) (Nat.le_of_ble_eq_true rfl) (by omega) (by omega) (f_X13_bad_ok X (by omega) (by omega) nn l0 9 l1 l2 l5 h e_u2) ?_
  clear e_u2
  show mx_S X F L 554 315 [(0, .ref l0), (1, .int l1), (2, .int l2), (5, .int l5)] [.int u2.1] u2.2 0 0 (some (.int r.1), r.2, 0, 0)
  replace hf := mx_gd_el hf; obtain ⟨c3, hf⟩ := hf
  cases hf
  exact sx_ire hm dX13_methodFits_315 rfl (xbq_ok c3).1
set_option maxHeartbeats 4000000 in
set_option maxRecDepth 20000 in
theorem w_X13_methodFits_245_ok (X : Nat × (Nat → Int32)) {F L : Nat} (hF : 14 ≤ F) (hL : 329 ≤ L) (nn : Nat) : ∀ (k : Nat) (l0 : Nat) (l1 : Int32) (l2 : Int32) (l4 : Int32) (l5 : Int32) (h : mx_H) (r : (Int32 × mx_H)), w_X13_methodFits_245 nn k l0 l1 l2 l4 l5 h = some r → mx_S X F L 554 245 [(0, .ref l0), (1, .int l1), (2, .int l2), (4, .int l4), (5, .int l5)] [] h 0 0 (some (.int r.1), r.2, 0, 0) := by
  have hm : mx_mt 554 = some (yX13_methodFits, cX13_methodFits, 8, (some .boolean)) := mt_X13_methodFits
  intro k
  induction k with
  | zero => intro l0 l1 l2 l4 l5 h r hf; cases hf
  | succ k ih =>
    intro l0 l1 l2 l4 l5 h r hf
    unfold w_X13_methodFits_245 at hf
    refine mx_S.pu (pc2 := 247) (lv2 := [(0, .ref l0), (1, .int l1), (2, .int l2), (4, .int l4), (5, .int l5)]) (st2 := [.int l5]) hm dX13_methodFits_245 rfl ?_
    refine mx_S.pu (pc2 := 248) (lv2 := [(0, .ref l0), (1, .int l1), (2, .int l2), (4, .int l4), (5, .int l5)]) (st2 := [.ref l0, .int l5]) hm dX13_methodFits_247 rfl ?_
    replace hf := mx_gd_el hf; obtain ⟨c4, hf⟩ := hf
    replace hf := mx_sv_el hf; obtain ⟨u5, e_u5, hf⟩ := hf
    refine sx_cv hm dX13_methodFits_248 rs_RX13_946 mt_X13_frameMany [] [.int l5] (b := l0) (ci := 13) rfl rfl rfl c4 (Nat.le_of_ble_eq_true rfl) (Nat.le_of_ble_eq_true rfl) (by omega) (by omega) (f_X13_frameMany_ok X (by omega) (by omega) nn l0 h e_u5) ?_
    clear e_u5
    show mx_S X F L 554 251 [(0, .ref l0), (1, .int l1), (2, .int l2), (4, .int l4), (5, .int l5)] [.int u5.1, .int l5] u5.2 0 0 (some (.int r.1), r.2, 0, 0)
    rcases mx_if_el hf with ⟨c23, hf⟩ | ⟨c23, hf⟩
    · refine sb_ic_ge hm dX13_methodFits_251 (tgt := 326) rfl (fun _ => ?_) (fun z => absurd c23 z)
      refine mx_S.pu (pc2 := 327) (lv2 := [(0, .ref l0), (1, .int l1), (2, .int l2), (4, .int l4), (5, .int l5)]) (st2 := [.ref l0]) hm dX13_methodFits_326 rfl ?_
      refine mx_S.pu (pc2 := 328) (lv2 := [(0, .ref l0), (1, .int l1), (2, .int l2), (4, .int l4), (5, .int l5)]) (st2 := [.int l1, .ref l0]) hm dX13_methodFits_327 rfl ?_
      refine mx_S.pu (pc2 := 329) (lv2 := [(0, .ref l0), (1, .int l1), (2, .int l2), (4, .int l4), (5, .int l5)]) (st2 := [.int l2, .int l1, .ref l0]) hm dX13_methodFits_328 rfl ?_
      replace hf := mx_gd_el hf; obtain ⟨c6, hf⟩ := hf
      replace hf := mx_sv_el hf; obtain ⟨u7, e_u7, hf⟩ := hf
      refine sx_cv hm dX13_methodFits_329 rs_RX13_992 mt_X13_flows [.int l1, .int l2] [] (b := l0) (ci := 13) rfl rfl rfl c6 (Nat.le_of_ble_eq_true rfl) (Nat.le_of_ble_eq_true rfl) (by omega) (by omega) (f_X13_flows_ok X (by omega) (by omega) nn l0 l1 l2 u5.2 e_u7) ?_
      clear e_u7
      show mx_S X F L 554 332 [(0, .ref l0), (1, .int l1), (2, .int l2), (4, .int l4), (5, .int l5)] [.int u7.1] u7.2 0 0 (some (.int r.1), r.2, 0, 0)
      replace hf := mx_gd_el hf; obtain ⟨c8, hf⟩ := hf
      cases hf
      exact sx_ire hm dX13_methodFits_332 rfl (xbq_ok c8).1
    · refine sb_ic_ge hm dX13_methodFits_251 (tgt := 326) rfl (fun z => absurd z c23) (fun _ => ?_)
      refine mx_S.pu (pc2 := 255) (lv2 := [(0, .ref l0), (1, .int l1), (2, .int l2), (4, .int l4), (5, .int l5)]) (st2 := [.ref l0]) hm dX13_methodFits_254 rfl ?_
      refine mx_S.pu (pc2 := 257) (lv2 := [(0, .ref l0), (1, .int l1), (2, .int l2), (4, .int l4), (5, .int l5)]) (st2 := [.int l5, .ref l0]) hm dX13_methodFits_255 rfl ?_
      replace hf := mx_gd_el hf; obtain ⟨c9, hf⟩ := hf
      replace hf := mx_sv_el hf; obtain ⟨u10, e_u10, hf⟩ := hf
      refine sx_cv hm dX13_methodFits_257 rs_RX13_987 mt_X13_frameAt [.int l5] [] (b := l0) (ci := 13) rfl rfl rfl c9 (Nat.le_of_ble_eq_true rfl) (Nat.le_of_ble_eq_true rfl) (by omega) (by omega) (f_X13_frameAt_ok X (by omega) (by omega) nn l0 l5 u5.2 e_u10) ?_
      clear e_u10
      show mx_S X F L 554 260 [(0, .ref l0), (1, .int l1), (2, .int l2), (4, .int l4), (5, .int l5)] [.int u10.1] u10.2 0 0 (some (.int r.1), r.2, 0, 0)
      refine mx_S.pu (pc2 := 262) (lv2 := [(6, .int u10.1), (0, .ref l0), (1, .int l1), (2, .int l2), (4, .int l4), (5, .int l5)]) (st2 := []) hm dX13_methodFits_260 rfl ?_
      refine mx_S.pu (pc2 := 263) (lv2 := [(6, .int u10.1), (0, .ref l0), (1, .int l1), (2, .int l2), (4, .int l4), (5, .int l5)]) (st2 := [.ref l0]) hm dX13_methodFits_262 rfl ?_
      refine mx_S.pu (pc2 := 265) (lv2 := [(6, .int u10.1), (0, .ref l0), (1, .int l1), (2, .int l2), (4, .int l4), (5, .int l5)]) (st2 := [.int u10.1, .ref l0]) hm dX13_methodFits_263 rfl ?_
      replace hf := mx_gd_el hf; obtain ⟨c11, hf⟩ := hf
      replace hf := mx_sv_el hf; obtain ⟨u12, e_u12, hf⟩ := hf
      refine sx_cv hm dX13_methodFits_265 rs_RX13_949 mt_X13_pairIn [.int u10.1] [] (b := l0) (ci := 13) rfl rfl rfl c11 (Nat.le_of_ble_eq_true rfl) (Nat.le_of_ble_eq_true rfl) (by omega) (by omega) (f_X13_pairIn_ok X (by omega) (by omega) nn l0 u10.1 u10.2 e_u12) ?_
      clear e_u12
      show mx_S X F L 554 268 [(6, .int u10.1), (0, .ref l0), (1, .int l1), (2, .int l2), (4, .int l4), (5, .int l5)] [.int u12.1] u12.2 0 0 (some (.int r.1), r.2, 0, 0)
      refine mx_S.pu (pc2 := 270) (lv2 := [(7, .int u12.1), (6, .int u10.1), (0, .ref l0), (1, .int l1), (2, .int l2), (4, .int l4), (5, .int l5)]) (st2 := []) hm dX13_methodFits_268 rfl ?_
      refine mx_S.pu (pc2 := 272) (lv2 := [(7, .int u12.1), (6, .int u10.1), (0, .ref l0), (1, .int l1), (2, .int l2), (4, .int l4), (5, .int l5)]) (st2 := [.int u12.1]) hm dX13_methodFits_270 rfl ?_
      refine mx_S.pu (pc2 := 274) (lv2 := [(7, .int u12.1), (6, .int u10.1), (0, .ref l0), (1, .int l1), (2, .int l2), (4, .int l4), (5, .int l5)]) (st2 := [.int l4, .int u12.1]) hm dX13_methodFits_272 rfl ?_
      rcases mx_if_el hf with ⟨c22, hf⟩ | ⟨c22, hf⟩
      · refine sb_ic_le hm dX13_methodFits_274 (tgt := 305) rfl (fun _ => ?_) (fun z => absurd c22 z)
        refine mx_S.ext [(0, .ref l0), (1, .int l1), (2, .int l2), (5, .int l5)] (mx_sub_pos [2, 3, 4, 6] rfl (show ([7, 6, 0, 1, 2, 4, 5] : List Nat).Nodup by decide)) ?_
        exact j_X13_methodFits_305_ok X hF hL nn l0 l1 l2 l5 u12.2 hf
      · refine sb_ic_le hm dX13_methodFits_274 (tgt := 305) rfl (fun z => absurd z c22) (fun _ => ?_)
        refine mx_S.pu (pc2 := 279) (lv2 := [(7, .int u12.1), (6, .int u10.1), (0, .ref l0), (1, .int l1), (2, .int l2), (4, .int l4), (5, .int l5)]) (st2 := [.int u12.1]) hm dX13_methodFits_277 rfl ?_
        refine mx_S.pu (pc2 := 280) (lv2 := [(7, .int u12.1), (6, .int u10.1), (0, .ref l0), (1, .int l1), (2, .int l2), (4, .int l4), (5, .int l5)]) (st2 := [.ref l0, .int u12.1]) hm dX13_methodFits_279 rfl ?_
        replace hf := mx_sv_el hf; obtain ⟨v13, e_v13, hf⟩ := hf
        refine sx_get hm dX13_methodFits_280 rs_RX13_970 (xgi_el e_v13) ?_
        clear e_v13
        rcases mx_if_el hf with ⟨c21, hf⟩ | ⟨c21, hf⟩
        · refine sb_ic_ge hm dX13_methodFits_283 (tgt := 305) rfl (fun _ => ?_) (fun z => absurd c21 z)
          refine mx_S.ext [(0, .ref l0), (1, .int l1), (2, .int l2), (5, .int l5)] (mx_sub_pos [2, 3, 4, 6] rfl (show ([7, 6, 0, 1, 2, 4, 5] : List Nat).Nodup by decide)) ?_
          exact j_X13_methodFits_305_ok X hF hL nn l0 l1 l2 l5 u12.2 hf
        · refine sb_ic_ge hm dX13_methodFits_283 (tgt := 305) rfl (fun z => absurd z c21) (fun _ => ?_)
          refine mx_S.pu (pc2 := 287) (lv2 := [(7, .int u12.1), (6, .int u10.1), (0, .ref l0), (1, .int l1), (2, .int l2), (4, .int l4), (5, .int l5)]) (st2 := [.ref l0]) hm dX13_methodFits_286 rfl ?_
          replace hf := mx_sv_el hf; obtain ⟨v14, e_v14, hf⟩ := hf
          refine sx_get hm dX13_methodFits_287 rs_RX13_267 (xgr_el e_v14) ?_
          clear e_v14
          refine mx_S.pu (pc2 := 292) (lv2 := [(7, .int u12.1), (6, .int u10.1), (0, .ref l0), (1, .int l1), (2, .int l2), (4, .int l4), (5, .int l5)]) (st2 := [.int u12.1, .ref v14]) hm dX13_methodFits_290 rfl ?_
          replace hf := mx_sv_el hf; obtain ⟨v15, e_v15, hf⟩ := hf
          refine sx_bld hm dX13_methodFits_292 e_v15 ?_
          clear e_v15
          rcases mx_if_el hf with ⟨c20, hf⟩ | ⟨c20, hf⟩
          · refine sb_if_eq hm dX13_methodFits_293 (tgt := 305) rfl (fun _ => ?_) (fun z => absurd c20 z)
            refine mx_S.ext [(0, .ref l0), (1, .int l1), (2, .int l2), (5, .int l5)] (mx_sub_pos [2, 3, 4, 6] rfl (show ([7, 6, 0, 1, 2, 4, 5] : List Nat).Nodup by decide)) ?_
            exact j_X13_methodFits_305_ok X hF hL nn l0 l1 l2 l5 u12.2 hf
          · refine sb_if_eq hm dX13_methodFits_293 (tgt := 305) rfl (fun z => absurd z c20) (fun _ => ?_)
            refine mx_S.pu (pc2 := 297) (lv2 := [(7, .int u12.1), (6, .int u10.1), (0, .ref l0), (1, .int l1), (2, .int l2), (4, .int l4), (5, .int l5)]) (st2 := [.ref l0]) hm dX13_methodFits_296 rfl ?_
            refine mx_S.pu (pc2 := 299) (lv2 := [(7, .int u12.1), (6, .int u10.1), (0, .ref l0), (1, .int l1), (2, .int l2), (4, .int l4), (5, .int l5)]) (st2 := [.int u10.1, .ref l0]) hm dX13_methodFits_297 rfl ?_
            replace hf := mx_gd_el hf; obtain ⟨c16, hf⟩ := hf
            replace hf := mx_sv_el hf; obtain ⟨u17, e_u17, hf⟩ := hf
            refine sx_cv hm dX13_methodFits_299 rs_RX13_989 mt_X13_frameIsThere [.int u10.1] [] (b := l0) (ci := 13) rfl rfl rfl c16 (Nat.le_of_ble_eq_true rfl) (Nat.le_of_ble_eq_true rfl) (by omega) (by omega) (f_X13_frameIsThere_ok X (by omega) (by omega) nn l0 u10.1 u12.2 e_u17) ?_
            clear e_u17
            show mx_S X F L 554 302 [(7, .int u12.1), (6, .int u10.1), (0, .ref l0), (1, .int l1), (2, .int l2), (4, .int l4), (5, .int l5)] [.int u17.1] u17.2 0 0 (some (.int r.1), r.2, 0, 0)
            rcases mx_if_el hf with ⟨c19, hf⟩ | ⟨c19, hf⟩
            · refine sb_if_ne hm dX13_methodFits_302 (tgt := 316) rfl (fun _ => ?_) (fun z => absurd c19 z)
              refine mx_S.pu (pc2 := 318) (lv2 := [(7, .int u12.1), (6, .int u10.1), (0, .ref l0), (1, .int l1), (2, .int l2), (4, .int l4), (5, .int l5)]) (st2 := [.int u12.1]) hm dX13_methodFits_316 rfl ?_
              refine mx_S.pu (pc2 := 320) (lv2 := [(4, .int u12.1), (7, .int u12.1), (6, .int u10.1), (0, .ref l0), (1, .int l1), (2, .int l2), (5, .int l5)]) (st2 := []) hm dX13_methodFits_318 rfl ?_
              replace hf := xl_el hf; obtain ⟨v18, e_v18, hf⟩ := hf
              refine mx_S.pu (pc2 := 323) (lv2 := [(5, .int v18), (4, .int u12.1), (7, .int u12.1), (6, .int u10.1), (0, .ref l0), (1, .int l1), (2, .int l2)]) (st2 := []) hm dX13_methodFits_320 (by rw [← e_v18]; rfl) ?_
              clear e_v18
              refine mx_S.pu (pc2 := 245) (lv2 := [(5, .int v18), (4, .int u12.1), (7, .int u12.1), (6, .int u10.1), (0, .ref l0), (1, .int l1), (2, .int l2)]) (st2 := []) hm dX13_methodFits_323 rfl ?_
              refine mx_S.ext [(0, .ref l0), (1, .int l1), (2, .int l2), (4, .int u12.1), (5, .int v18)] (mx_sub_pos [4, 5, 6, 1, 0] rfl (show ([5, 4, 7, 6, 0, 1, 2] : List Nat).Nodup by decide)) ?_
              exact ih l0 l1 l2 u12.1 v18 u17.2 _ hf
            · refine sb_if_ne hm dX13_methodFits_302 (tgt := 316) rfl (fun z => absurd z c19) (fun _ => ?_)
              refine mx_S.ext [(0, .ref l0), (1, .int l1), (2, .int l2), (5, .int l5)] (mx_sub_pos [2, 3, 4, 6] rfl (show ([7, 6, 0, 1, 2, 4, 5] : List Nat).Nodup by decide)) ?_
              exact j_X13_methodFits_305_ok X hF hL nn l0 l1 l2 l5 u17.2 hf
set_option maxHeartbeats 4000000 in
set_option maxRecDepth 20000 in
theorem w_X13_methodFits_192_ok (X : Nat × (Nat → Int32)) {F L : Nat} (hF : 14 ≤ F) (hL : 329 ≤ L) (nn : Nat) : ∀ (k : Nat) (l0 : Nat) (l1 : Int32) (l2 : Int32) (l3 : Int32) (l4 : Int32) (h : mx_H) (r : (Int32 × mx_H)), w_X13_methodFits_192 nn k l0 l1 l2 l3 l4 h = some r → mx_S X F L 554 192 [(0, .ref l0), (1, .int l1), (2, .int l2), (3, .int l3), (4, .int l4)] [] h 0 0 (some (.int r.1), r.2, 0, 0) := by
  have hm : mx_mt 554 = some (yX13_methodFits, cX13_methodFits, 8, (some .boolean)) := mt_X13_methodFits
  intro k
  induction k with
  | zero => intro l0 l1 l2 l3 l4 h r hf; cases hf
  | succ k ih =>
    intro l0 l1 l2 l3 l4 h r hf
    unfold w_X13_methodFits_192 at hf
    refine mx_S.pu (pc2 := 194) (lv2 := [(0, .ref l0), (1, .int l1), (2, .int l2), (3, .int l3), (4, .int l4)]) (st2 := [.int l4]) hm dX13_methodFits_192 rfl ?_
    refine mx_S.pu (pc2 := 195) (lv2 := [(0, .ref l0), (1, .int l1), (2, .int l2), (3, .int l3), (4, .int l4)]) (st2 := [.ref l0, .int l4]) hm dX13_methodFits_194 rfl ?_
    refine mx_S.pu (pc2 := 196) (lv2 := [(0, .ref l0), (1, .int l1), (2, .int l2), (3, .int l3), (4, .int l4)]) (st2 := [.ref l0, .ref l0, .int l4]) hm dX13_methodFits_195 rfl ?_
    replace hf := mx_sv_el hf; obtain ⟨v24, e_v24, hf⟩ := hf
    refine sx_get hm dX13_methodFits_196 rs_RX13_932 (xgi_el e_v24) ?_
    clear e_v24
    refine mx_S.pu (pc2 := 200) (lv2 := [(0, .ref l0), (1, .int l1), (2, .int l2), (3, .int l3), (4, .int l4)]) (st2 := [.int l3, .int v24, .ref l0, .int l4]) hm dX13_methodFits_199 rfl ?_
    replace hf := mx_gd_el hf; obtain ⟨c25, hf⟩ := hf
    replace hf := mx_sv_el hf; obtain ⟨u26, e_u26, hf⟩ := hf
    refine sx_cv hm dX13_methodFits_200 rs_RX13_864 mt_X13_byteAt [.int v24, .int l3] [.int l4] (b := l0) (ci := 13) rfl rfl rfl c25 (Nat.le_of_ble_eq_true rfl) (Nat.le_of_ble_eq_true rfl) (by omega) (by omega) (f_X13_byteAt_ok X (by omega) (by omega) nn l0 v24 l3 h e_u26) ?_
    clear e_u26
    show mx_S X F L 554 203 [(0, .ref l0), (1, .int l1), (2, .int l2), (3, .int l3), (4, .int l4)] [.int u26.1, .int l4] u26.2 0 0 (some (.int r.1), r.2, 0, 0)
    rcases mx_if_el hf with ⟨c37, hf⟩ | ⟨c37, hf⟩
    · refine sb_ic_ge hm dX13_methodFits_203 (tgt := 239) rfl (fun _ => ?_) (fun z => absurd c37 z)
      refine sx_ic (v := (-1)) hm dX13_methodFits_239 (by decide) ?_
      refine mx_S.pu (pc2 := 242) (lv2 := [(4, .int (-1)), (0, .ref l0), (1, .int l1), (2, .int l2), (3, .int l3)]) (st2 := []) hm dX13_methodFits_240 rfl ?_
      refine sx_ic (v := 0) hm dX13_methodFits_242 (by decide) ?_
      refine mx_S.pu (pc2 := 245) (lv2 := [(5, .int 0), (4, .int (-1)), (0, .ref l0), (1, .int l1), (2, .int l2), (3, .int l3)]) (st2 := []) hm dX13_methodFits_243 rfl ?_
      refine mx_S.ext [(0, .ref l0), (1, .int l1), (2, .int l2), (4, .int (-1)), (5, .int 0)] (mx_sub_pos [2, 3, 4, 1, 0] rfl (show ([5, 4, 0, 1, 2, 3] : List Nat).Nodup by decide)) ?_
      exact w_X13_methodFits_245_ok X hF hL nn nn l0 l1 l2 (-1) 0 u26.2 _ hf
    · refine sb_ic_ge hm dX13_methodFits_203 (tgt := 239) rfl (fun z => absurd z c37) (fun _ => ?_)
      refine mx_S.pu (pc2 := 207) (lv2 := [(0, .ref l0), (1, .int l1), (2, .int l2), (3, .int l3), (4, .int l4)]) (st2 := [.ref l0]) hm dX13_methodFits_206 rfl ?_
      refine mx_S.pu (pc2 := 208) (lv2 := [(0, .ref l0), (1, .int l1), (2, .int l2), (3, .int l3), (4, .int l4)]) (st2 := [.int l3, .ref l0]) hm dX13_methodFits_207 rfl ?_
      refine sx_ic (v := 1) hm dX13_methodFits_208 (by decide) ?_
      replace hf := xl_el hf; obtain ⟨v27, e_v27, hf⟩ := hf
      refine mx_S.pu (pc2 := 210) (lv2 := [(0, .ref l0), (1, .int l1), (2, .int l2), (3, .int l3), (4, .int l4)]) (st2 := [.int v27, .ref l0]) hm dX13_methodFits_209 (by rw [← e_v27]; rfl) ?_
      clear e_v27
      refine sx_bi (v := 7) hm dX13_methodFits_210 (by decide) ?_
      refine mx_S.pu (pc2 := 214) (lv2 := [(0, .ref l0), (1, .int l1), (2, .int l2), (3, .int l3), (4, .int l4)]) (st2 := [.int l4, .int 7, .int v27, .ref l0]) hm dX13_methodFits_212 rfl ?_
      replace hf := xl_el hf; obtain ⟨v28, e_v28, hf⟩ := hf
      refine mx_S.pu (pc2 := 215) (lv2 := [(0, .ref l0), (1, .int l1), (2, .int l2), (3, .int l3), (4, .int l4)]) (st2 := [.int v28, .int v27, .ref l0]) hm dX13_methodFits_214 (by rw [← e_v28]; rfl) ?_
      clear e_v28
      replace hf := xl_el hf; obtain ⟨v29, e_v29, hf⟩ := hf
      refine mx_S.pu (pc2 := 216) (lv2 := [(0, .ref l0), (1, .int l1), (2, .int l2), (3, .int l3), (4, .int l4)]) (st2 := [.int v29, .ref l0]) hm dX13_methodFits_215 (by rw [← e_v29]; rfl) ?_
      clear e_v29
      replace hf := mx_gd_el hf; obtain ⟨c30, hf⟩ := hf
      replace hf := mx_sv_el hf; obtain ⟨u31, e_u31, hf⟩ := hf
      refine sx_cv hm dX13_methodFits_216 rs_RX13_984 mt_X13_handlerFits [.int v29] [] (b := l0) (ci := 13) rfl rfl rfl c30 (Nat.le_of_ble_eq_true rfl) (Nat.le_of_ble_eq_true rfl) (by omega) (by omega) (f_X13_handlerFits_ok X (by omega) (by omega) nn l0 v29 u26.2 e_u31) ?_
      clear e_u31
      show mx_S X F L 554 219 [(0, .ref l0), (1, .int l1), (2, .int l2), (3, .int l3), (4, .int l4)] [.int u31.1] u31.2 0 0 (some (.int r.1), r.2, 0, 0)
      rcases mx_if_el hf with ⟨c36, hf⟩ | ⟨c36, hf⟩
      · refine sb_if_ne hm dX13_methodFits_219 (tgt := 233) rfl (fun _ => ?_) (fun z => absurd c36 z)
        replace hf := xl_el hf; obtain ⟨v32, e_v32, hf⟩ := hf
        refine mx_S.pu (pc2 := 236) (lv2 := [(4, .int v32), (0, .ref l0), (1, .int l1), (2, .int l2), (3, .int l3)]) (st2 := []) hm dX13_methodFits_233 (by rw [← e_v32]; rfl) ?_
        clear e_v32
        refine mx_S.pu (pc2 := 192) (lv2 := [(4, .int v32), (0, .ref l0), (1, .int l1), (2, .int l2), (3, .int l3)]) (st2 := []) hm dX13_methodFits_236 rfl ?_
        refine mx_S.ext [(0, .ref l0), (1, .int l1), (2, .int l2), (3, .int l3), (4, .int v32)] (mx_sub_pos [1, 2, 3, 4, 0] rfl (show ([4, 0, 1, 2, 3] : List Nat).Nodup by decide)) ?_
        exact ih l0 l1 l2 l3 v32 u31.2 _ hf
      · refine sb_if_ne hm dX13_methodFits_219 (tgt := 233) rfl (fun z => absurd z c36) (fun _ => ?_)
        refine mx_S.pu (pc2 := 223) (lv2 := [(0, .ref l0), (1, .int l1), (2, .int l2), (3, .int l3), (4, .int l4)]) (st2 := [.ref l0]) hm dX13_methodFits_222 rfl ?_
        refine sx_bi (v := 8) hm dX13_methodFits_223 (by decide) ?_
        refine mx_S.pu (pc2 := 226) (lv2 := [(0, .ref l0), (1, .int l1), (2, .int l2), (3, .int l3), (4, .int l4)]) (st2 := [.int l1, .int 8, .ref l0]) hm dX13_methodFits_225 rfl ?_
        refine mx_S.pu (pc2 := 227) (lv2 := [(0, .ref l0), (1, .int l1), (2, .int l2), (3, .int l3), (4, .int l4)]) (st2 := [.int l2, .int l1, .int 8, .ref l0]) hm dX13_methodFits_226 rfl ?_
        refine mx_S.pu (pc2 := 229) (lv2 := [(0, .ref l0), (1, .int l1), (2, .int l2), (3, .int l3), (4, .int l4)]) (st2 := [.int l4, .int l2, .int l1, .int 8, .ref l0]) hm dX13_methodFits_227 rfl ?_
        replace hf := mx_gd_el hf; obtain ⟨c33, hf⟩ := hf
        replace hf := mx_sv_el hf; obtain ⟨u34, e_u34, hf⟩ := hf
        refine sx_cv hm dX13_methodFits_229 rs_RX13_922 mt_X13_bad [.int 8, .int l1, .int l2, .int l4] [] (b := l0) (ci := 13) rfl rfl rfl c33 (Nat.le_of_ble_eq_true rfl) (Nat.le_of_ble_eq_true rfl) (by omega) (by omega) (f_X13_bad_ok X (by omega) (by omega) nn l0 8 l1 l2 l4 u31.2 e_u34) ?_
        clear e_u34
        show mx_S X F L 554 232 [(0, .ref l0), (1, .int l1), (2, .int l2), (3, .int l3), (4, .int l4)] [.int u34.1] u34.2 0 0 (some (.int r.1), r.2, 0, 0)
        replace hf := mx_gd_el hf; obtain ⟨c35, hf⟩ := hf
        cases hf
        exact sx_ire hm dX13_methodFits_232 rfl (xbq_ok c35).1
set_option maxHeartbeats 4000000 in
set_option maxRecDepth 20000 in
theorem j_X13_methodFits_160_ok (X : Nat × (Nat → Int32)) {F L : Nat} (hF : 14 ≤ F) (hL : 329 ≤ L) (nn : Nat) {kk_97 : Nat → Int32 → Int32 → Int32 → mx_H → Option (Int32 × mx_H)} (hk_97 : ∀ (l0 : Nat) (l1 : Int32) (l2 : Int32) (l3 : Int32) (h : mx_H) (r : (Int32 × mx_H)), kk_97 l0 l1 l2 l3 h = some r → mx_S X F L 554 97 [(0, .ref l0), (1, .int l1), (2, .int l2), (3, .int l3)] [] h 0 0 (some (.int r.1), r.2, 0, 0)) (l0 : Nat) (l1 : Int32) (l2 : Int32) (l3 : Int32) (h : mx_H) {r : (Int32 × mx_H)} (hf : j_X13_methodFits_160 nn kk_97 l0 l1 l2 l3 h = some r) : mx_S X F L 554 160 [(0, .ref l0), (1, .int l1), (2, .int l2), (3, .int l3)] [] h 0 0 (some (.int r.1), r.2, 0, 0) := by
  have hm : mx_mt 554 = some (yX13_methodFits, cX13_methodFits, 8, (some .boolean)) := mt_X13_methodFits
  unfold j_X13_methodFits_160 at hf
  refine mx_S.pu (pc2 := 161) (lv2 := [(0, .ref l0), (1, .int l1), (2, .int l2), (3, .int l3)]) (st2 := [.int l3]) hm dX13_methodFits_160 rfl ?_
  refine mx_S.pu (pc2 := 162) (lv2 := [(0, .ref l0), (1, .int l1), (2, .int l2), (3, .int l3)]) (st2 := [.ref l0, .int l3]) hm dX13_methodFits_161 rfl ?_
  refine mx_S.pu (pc2 := 163) (lv2 := [(0, .ref l0), (1, .int l1), (2, .int l2), (3, .int l3)]) (st2 := [.int l3, .ref l0, .int l3]) hm dX13_methodFits_162 rfl ?_
  replace hf := mx_gd_el hf; obtain ⟨c38, hf⟩ := hf
  replace hf := mx_sv_el hf; obtain ⟨u39, e_u39, hf⟩ := hf
  refine sx_cv hm dX13_methodFits_163 rs_RX13_938 mt_X13_code [.int l3] [.int l3] (b := l0) (ci := 13) rfl rfl rfl c38 (Nat.le_of_ble_eq_true rfl) (Nat.le_of_ble_eq_true rfl) (by omega) (by omega) (f_X13_code_ok X (by omega) (by omega) nn l0 l3 h e_u39) ?_
  clear e_u39
  show mx_S X F L 554 166 [(0, .ref l0), (1, .int l1), (2, .int l2), (3, .int l3)] [.int u39.1, .int l3] u39.2 0 0 (some (.int r.1), r.2, 0, 0)
  replace hf := mx_sv_el hf; obtain ⟨u40, e_u40, hf⟩ := hf
  refine sx_cs hm dX13_methodFits_166 rs_RX13_975 mt_X13_widthOf [.int u39.1] [.int l3] rfl rfl (Nat.le_of_ble_eq_true rfl) (Nat.le_of_ble_eq_true rfl) (by omega) (by omega) (f_X13_widthOf_ok X (by omega) (by omega) nn u39.1 u39.2 e_u40) ?_
  clear e_u40
  show mx_S X F L 554 169 [(0, .ref l0), (1, .int l1), (2, .int l2), (3, .int l3)] [.int u40.1, .int l3] u40.2 0 0 (some (.int r.1), r.2, 0, 0)
  replace hf := xl_el hf; obtain ⟨v41, e_v41, hf⟩ := hf
  refine mx_S.pu (pc2 := 170) (lv2 := [(0, .ref l0), (1, .int l1), (2, .int l2), (3, .int l3)]) (st2 := [.int v41]) hm dX13_methodFits_169 (by rw [← e_v41]; rfl) ?_
  clear e_v41
  refine mx_S.pu (pc2 := 171) (lv2 := [(3, .int v41), (0, .ref l0), (1, .int l1), (2, .int l2)]) (st2 := []) hm dX13_methodFits_170 rfl ?_
  refine mx_S.pu (pc2 := 97) (lv2 := [(3, .int v41), (0, .ref l0), (1, .int l1), (2, .int l2)]) (st2 := []) hm dX13_methodFits_171 rfl ?_
  refine mx_S.ext [(0, .ref l0), (1, .int l1), (2, .int l2), (3, .int v41)] (mx_sub_pos [1, 2, 3, 0] rfl (show ([3, 0, 1, 2] : List Nat).Nodup by decide)) ?_
  exact hk_97 l0 l1 l2 v41 u40.2 _ hf
set_option maxHeartbeats 4000000 in
set_option maxRecDepth 20000 in
theorem j_X13_methodFits_150_ok (X : Nat × (Nat → Int32)) {F L : Nat} (hF : 14 ≤ F) (hL : 329 ≤ L) (nn : Nat) (l0 : Nat) (l1 : Int32) (l2 : Int32) (l3 : Int32) (h : mx_H) {r : (Int32 × mx_H)} (hf : j_X13_methodFits_150 nn l0 l1 l2 l3 h = some r) : mx_S X F L 554 150 [(0, .ref l0), (1, .int l1), (2, .int l2), (3, .int l3)] [] h 0 0 (some (.int r.1), r.2, 0, 0) := by
  have hm : mx_mt 554 = some (yX13_methodFits, cX13_methodFits, 8, (some .boolean)) := mt_X13_methodFits
  unfold j_X13_methodFits_150 at hf
  refine mx_S.pu (pc2 := 151) (lv2 := [(0, .ref l0), (1, .int l1), (2, .int l2), (3, .int l3)]) (st2 := [.ref l0]) hm dX13_methodFits_150 rfl ?_
  refine sx_bi (v := 7) hm dX13_methodFits_151 (by decide) ?_
  refine mx_S.pu (pc2 := 154) (lv2 := [(0, .ref l0), (1, .int l1), (2, .int l2), (3, .int l3)]) (st2 := [.int l1, .int 7, .ref l0]) hm dX13_methodFits_153 rfl ?_
  refine mx_S.pu (pc2 := 155) (lv2 := [(0, .ref l0), (1, .int l1), (2, .int l2), (3, .int l3)]) (st2 := [.int l2, .int l1, .int 7, .ref l0]) hm dX13_methodFits_154 rfl ?_
  refine mx_S.pu (pc2 := 156) (lv2 := [(0, .ref l0), (1, .int l1), (2, .int l2), (3, .int l3)]) (st2 := [.int l3, .int l2, .int l1, .int 7, .ref l0]) hm dX13_methodFits_155 rfl ?_
  replace hf := mx_gd_el hf; obtain ⟨c42, hf⟩ := hf
  replace hf := mx_sv_el hf; obtain ⟨u43, e_u43, hf⟩ := hf
  refine sx_cv hm dX13_methodFits_156 rs_RX13_922 mt_X13_bad [.int 7, .int l1, .int l2, .int l3] [] (b := l0) (ci := 13) rfl rfl rfl c42 (Nat.le_of_ble_eq_true rfl) (Nat.le_of_ble_eq_true rfl) (by omega) (by omega) (f_X13_bad_ok X (by omega) (by omega) nn l0 7 l1 l2 l3 h e_u43) ?_
  clear e_u43
  show mx_S X F L 554 159 [(0, .ref l0), (1, .int l1), (2, .int l2), (3, .int l3)] [.int u43.1] u43.2 0 0 (some (.int r.1), r.2, 0, 0)
  replace hf := mx_gd_el hf; obtain ⟨c44, hf⟩ := hf
  cases hf
  exact sx_ire hm dX13_methodFits_159 rfl (xbq_ok c44).1
set_option maxHeartbeats 4000000 in
set_option maxRecDepth 20000 in
theorem w_X13_methodFits_97_ok (X : Nat × (Nat → Int32)) {F L : Nat} (hF : 14 ≤ F) (hL : 329 ≤ L) (nn : Nat) : ∀ (k : Nat) (l0 : Nat) (l1 : Int32) (l2 : Int32) (l3 : Int32) (h : mx_H) (r : (Int32 × mx_H)), w_X13_methodFits_97 nn k l0 l1 l2 l3 h = some r → mx_S X F L 554 97 [(0, .ref l0), (1, .int l1), (2, .int l2), (3, .int l3)] [] h 0 0 (some (.int r.1), r.2, 0, 0) := by
  have hm : mx_mt 554 = some (yX13_methodFits, cX13_methodFits, 8, (some .boolean)) := mt_X13_methodFits
  intro k
  induction k with
  | zero => intro l0 l1 l2 l3 h r hf; cases hf
  | succ k ih =>
    intro l0 l1 l2 l3 h r hf
    unfold w_X13_methodFits_97 at hf
    refine mx_S.pu (pc2 := 98) (lv2 := [(0, .ref l0), (1, .int l1), (2, .int l2), (3, .int l3)]) (st2 := [.int l3]) hm dX13_methodFits_97 rfl ?_
    refine mx_S.pu (pc2 := 99) (lv2 := [(0, .ref l0), (1, .int l1), (2, .int l2), (3, .int l3)]) (st2 := [.ref l0, .int l3]) hm dX13_methodFits_98 rfl ?_
    replace hf := mx_sv_el hf; obtain ⟨v45, e_v45, hf⟩ := hf
    refine sx_get hm dX13_methodFits_99 rs_RX13_970 (xgi_el e_v45) ?_
    clear e_v45
    rcases mx_if_el hf with ⟨c63, hf⟩ | ⟨c63, hf⟩
    · refine sb_ic_ge hm dX13_methodFits_102 (tgt := 174) rfl (fun _ => ?_) (fun z => absurd c63 z)
      refine mx_S.pu (pc2 := 175) (lv2 := [(0, .ref l0), (1, .int l1), (2, .int l2), (3, .int l3)]) (st2 := [.ref l0]) hm dX13_methodFits_174 rfl ?_
      replace hf := mx_sv_el hf; obtain ⟨v46, e_v46, hf⟩ := hf
      refine sx_get hm dX13_methodFits_175 rs_RX13_239 (xgr_el e_v46) ?_
      clear e_v46
      refine sx_bi (v := 12) hm dX13_methodFits_178 (by decide) ?_
      refine mx_S.pu (pc2 := 181) (lv2 := [(0, .ref l0), (1, .int l1), (2, .int l2), (3, .int l3)]) (st2 := [.ref l0, .int 12, .ref v46]) hm dX13_methodFits_180 rfl ?_
      replace hf := mx_sv_el hf; obtain ⟨v47, e_v47, hf⟩ := hf
      refine sx_get hm dX13_methodFits_181 rs_RX13_932 (xgi_el e_v47) ?_
      clear e_v47
      replace hf := xl_el hf; obtain ⟨v48, e_v48, hf⟩ := hf
      refine mx_S.pu (pc2 := 185) (lv2 := [(0, .ref l0), (1, .int l1), (2, .int l2), (3, .int l3)]) (st2 := [.int v48, .ref v46]) hm dX13_methodFits_184 (by rw [← e_v48]; rfl) ?_
      clear e_v48
      refine mx_S.pu (pc2 := 186) (lv2 := [(0, .ref l0), (1, .int l1), (2, .int l2), (3, .int l3)]) (st2 := [.int l2, .int v48, .ref v46]) hm dX13_methodFits_185 rfl ?_
      replace hf := xl_el hf; obtain ⟨v49, e_v49, hf⟩ := hf
      refine mx_S.pu (pc2 := 187) (lv2 := [(0, .ref l0), (1, .int l1), (2, .int l2), (3, .int l3)]) (st2 := [.int v49, .ref v46]) hm dX13_methodFits_186 (by rw [← e_v49]; rfl) ?_
      clear e_v49
      replace hf := mx_sv_el hf; obtain ⟨v50, e_v50, hf⟩ := hf
      refine sx_ald hm dX13_methodFits_187 e_v50 ?_
      clear e_v50
      refine mx_S.pu (pc2 := 189) (lv2 := [(3, .int v50), (0, .ref l0), (1, .int l1), (2, .int l2)]) (st2 := []) hm dX13_methodFits_188 rfl ?_
      refine sx_ic (v := 0) hm dX13_methodFits_189 (by decide) ?_
      refine mx_S.pu (pc2 := 192) (lv2 := [(4, .int 0), (3, .int v50), (0, .ref l0), (1, .int l1), (2, .int l2)]) (st2 := []) hm dX13_methodFits_190 rfl ?_
      refine mx_S.ext [(0, .ref l0), (1, .int l1), (2, .int l2), (3, .int v50), (4, .int 0)] (mx_sub_pos [2, 3, 4, 1, 0] rfl (show ([4, 3, 0, 1, 2] : List Nat).Nodup by decide)) ?_
      exact w_X13_methodFits_192_ok X hF hL nn nn l0 l1 l2 v50 0 h _ hf
    · refine sb_ic_ge hm dX13_methodFits_102 (tgt := 174) rfl (fun z => absurd z c63) (fun _ => ?_)
      refine mx_S.pu (pc2 := 106) (lv2 := [(0, .ref l0), (1, .int l1), (2, .int l2), (3, .int l3)]) (st2 := [.ref l0]) hm dX13_methodFits_105 rfl ?_
      refine mx_S.pu (pc2 := 107) (lv2 := [(0, .ref l0), (1, .int l1), (2, .int l2), (3, .int l3)]) (st2 := [.int l3, .ref l0]) hm dX13_methodFits_106 rfl ?_
      replace hf := mx_gd_el hf; obtain ⟨c51, hf⟩ := hf
      replace hf := mx_sv_el hf; obtain ⟨u52, e_u52, hf⟩ := hf
      refine sx_cv hm dX13_methodFits_107 rs_RX13_938 mt_X13_code [.int l3] [] (b := l0) (ci := 13) rfl rfl rfl c51 (Nat.le_of_ble_eq_true rfl) (Nat.le_of_ble_eq_true rfl) (by omega) (by omega) (f_X13_code_ok X (by omega) (by omega) nn l0 l3 h e_u52) ?_
      clear e_u52
      show mx_S X F L 554 110 [(0, .ref l0), (1, .int l1), (2, .int l2), (3, .int l3)] [.int u52.1] u52.2 0 0 (some (.int r.1), r.2, 0, 0)
      replace hf := mx_sv_el hf; obtain ⟨u53, e_u53, hf⟩ := hf
      refine sx_cs hm dX13_methodFits_110 rs_RX13_978 mt_X13_isJump [.int u52.1] [] rfl rfl (Nat.le_of_ble_eq_true rfl) (Nat.le_of_ble_eq_true rfl) (by omega) (by omega) (f_X13_isJump_ok X (by omega) (by omega) nn u52.1 u52.2 e_u53) ?_
      clear e_u53
      show mx_S X F L 554 113 [(0, .ref l0), (1, .int l1), (2, .int l2), (3, .int l3)] [.int u53.1] u53.2 0 0 (some (.int r.1), r.2, 0, 0)
      rcases mx_if_el hf with ⟨c62, hf⟩ | ⟨c62, hf⟩
      · refine sb_if_ne hm dX13_methodFits_113 (tgt := 119) rfl (fun _ => ?_) (fun z => absurd c62 z)
        refine mx_S.pu (pc2 := 120) (lv2 := [(0, .ref l0), (1, .int l1), (2, .int l2), (3, .int l3)]) (st2 := [.ref l0]) hm dX13_methodFits_119 rfl ?_
        refine mx_S.pu (pc2 := 121) (lv2 := [(0, .ref l0), (1, .int l1), (2, .int l2), (3, .int l3)]) (st2 := [.int l3, .ref l0]) hm dX13_methodFits_120 rfl ?_
        replace hf := mx_gd_el hf; obtain ⟨c54, hf⟩ := hf
        replace hf := mx_sv_el hf; obtain ⟨u55, e_u55, hf⟩ := hf
        refine sx_cv hm dX13_methodFits_121 rs_RX13_981 mt_X13_aimOf [.int l3] [] (b := l0) (ci := 13) rfl rfl rfl c54 (Nat.le_of_ble_eq_true rfl) (Nat.le_of_ble_eq_true rfl) (by omega) (by omega) (f_X13_aimOf_ok X (by omega) (by omega) nn l0 l3 u53.2 e_u55) ?_
        clear e_u55
        show mx_S X F L 554 124 [(0, .ref l0), (1, .int l1), (2, .int l2), (3, .int l3)] [.int u55.1] u55.2 0 0 (some (.int r.1), r.2, 0, 0)
        refine mx_S.pu (pc2 := 126) (lv2 := [(4, .int u55.1), (0, .ref l0), (1, .int l1), (2, .int l2), (3, .int l3)]) (st2 := []) hm dX13_methodFits_124 rfl ?_
        refine mx_S.pu (pc2 := 128) (lv2 := [(4, .int u55.1), (0, .ref l0), (1, .int l1), (2, .int l2), (3, .int l3)]) (st2 := [.int u55.1]) hm dX13_methodFits_126 rfl ?_
        rcases mx_if_el hf with ⟨c61, hf⟩ | ⟨c61, hf⟩
        · refine sb_if_lt hm dX13_methodFits_128 (tgt := 150) rfl (fun _ => ?_) (fun z => absurd c61 z)
          refine mx_S.ext [(0, .ref l0), (1, .int l1), (2, .int l2), (3, .int l3)] (mx_sub_pos [1, 2, 3, 4] rfl (show ([4, 0, 1, 2, 3] : List Nat).Nodup by decide)) ?_
          exact j_X13_methodFits_150_ok X hF hL nn l0 l1 l2 l3 u55.2 hf
        · refine sb_if_lt hm dX13_methodFits_128 (tgt := 150) rfl (fun z => absurd z c61) (fun _ => ?_)
          refine mx_S.pu (pc2 := 133) (lv2 := [(4, .int u55.1), (0, .ref l0), (1, .int l1), (2, .int l2), (3, .int l3)]) (st2 := [.int u55.1]) hm dX13_methodFits_131 rfl ?_
          refine mx_S.pu (pc2 := 134) (lv2 := [(4, .int u55.1), (0, .ref l0), (1, .int l1), (2, .int l2), (3, .int l3)]) (st2 := [.ref l0, .int u55.1]) hm dX13_methodFits_133 rfl ?_
          replace hf := mx_sv_el hf; obtain ⟨v56, e_v56, hf⟩ := hf
          refine sx_get hm dX13_methodFits_134 rs_RX13_970 (xgi_el e_v56) ?_
          clear e_v56
          rcases mx_if_el hf with ⟨c60, hf⟩ | ⟨c60, hf⟩
          · refine sb_ic_ge hm dX13_methodFits_137 (tgt := 150) rfl (fun _ => ?_) (fun z => absurd c60 z)
            refine mx_S.ext [(0, .ref l0), (1, .int l1), (2, .int l2), (3, .int l3)] (mx_sub_pos [1, 2, 3, 4] rfl (show ([4, 0, 1, 2, 3] : List Nat).Nodup by decide)) ?_
            exact j_X13_methodFits_150_ok X hF hL nn l0 l1 l2 l3 u55.2 hf
          · refine sb_ic_ge hm dX13_methodFits_137 (tgt := 150) rfl (fun z => absurd z c60) (fun _ => ?_)
            refine mx_S.pu (pc2 := 141) (lv2 := [(4, .int u55.1), (0, .ref l0), (1, .int l1), (2, .int l2), (3, .int l3)]) (st2 := [.ref l0]) hm dX13_methodFits_140 rfl ?_
            replace hf := mx_sv_el hf; obtain ⟨v57, e_v57, hf⟩ := hf
            refine sx_get hm dX13_methodFits_141 rs_RX13_267 (xgr_el e_v57) ?_
            clear e_v57
            refine mx_S.pu (pc2 := 146) (lv2 := [(4, .int u55.1), (0, .ref l0), (1, .int l1), (2, .int l2), (3, .int l3)]) (st2 := [.int u55.1, .ref v57]) hm dX13_methodFits_144 rfl ?_
            replace hf := mx_sv_el hf; obtain ⟨v58, e_v58, hf⟩ := hf
            refine sx_bld hm dX13_methodFits_146 e_v58 ?_
            clear e_v58
            rcases mx_if_el hf with ⟨c59, hf⟩ | ⟨c59, hf⟩
            · refine sb_if_ne hm dX13_methodFits_147 (tgt := 160) rfl (fun _ => ?_) (fun z => absurd c59 z)
              refine mx_S.ext [(0, .ref l0), (1, .int l1), (2, .int l2), (3, .int l3)] (mx_sub_pos [1, 2, 3, 4] rfl (show ([4, 0, 1, 2, 3] : List Nat).Nodup by decide)) ?_
              exact j_X13_methodFits_160_ok X hF hL nn ih l0 l1 l2 l3 u55.2 hf
            · refine sb_if_ne hm dX13_methodFits_147 (tgt := 160) rfl (fun z => absurd z c59) (fun _ => ?_)
              refine mx_S.ext [(0, .ref l0), (1, .int l1), (2, .int l2), (3, .int l3)] (mx_sub_pos [1, 2, 3, 4] rfl (show ([4, 0, 1, 2, 3] : List Nat).Nodup by decide)) ?_
              exact j_X13_methodFits_150_ok X hF hL nn l0 l1 l2 l3 u55.2 hf
      · refine sb_if_ne hm dX13_methodFits_113 (tgt := 119) rfl (fun z => absurd z c62) (fun _ => ?_)
        refine mx_S.pu (pc2 := 160) (lv2 := [(0, .ref l0), (1, .int l1), (2, .int l2), (3, .int l3)]) (st2 := []) hm dX13_methodFits_116 rfl ?_
        exact j_X13_methodFits_160_ok X hF hL nn ih l0 l1 l2 l3 u53.2 hf
set_option maxHeartbeats 4000000 in
set_option maxRecDepth 20000 in
theorem j_X13_methodFits_64_ok (X : Nat × (Nat → Int32)) {F L : Nat} (hF : 14 ≤ F) (hL : 329 ≤ L) (nn : Nat) (l0 : Nat) (l1 : Int32) (l2 : Int32) (l3 : Int32) (h : mx_H) {r : (Int32 × mx_H)} (hf : j_X13_methodFits_64 nn l0 l1 l2 l3 h = some r) : mx_S X F L 554 64 [(0, .ref l0), (1, .int l1), (2, .int l2), (3, .int l3)] [] h 0 0 (some (.int r.1), r.2, 0, 0) := by
  have hm : mx_mt 554 = some (yX13_methodFits, cX13_methodFits, 8, (some .boolean)) := mt_X13_methodFits
  unfold j_X13_methodFits_64 at hf
  refine mx_S.pu (pc2 := 65) (lv2 := [(0, .ref l0), (1, .int l1), (2, .int l2), (3, .int l3)]) (st2 := [.ref l0]) hm dX13_methodFits_64 rfl ?_
  refine sx_bi (v := 6) hm dX13_methodFits_65 (by decide) ?_
  refine mx_S.pu (pc2 := 68) (lv2 := [(0, .ref l0), (1, .int l1), (2, .int l2), (3, .int l3)]) (st2 := [.int l1, .int 6, .ref l0]) hm dX13_methodFits_67 rfl ?_
  refine mx_S.pu (pc2 := 69) (lv2 := [(0, .ref l0), (1, .int l1), (2, .int l2), (3, .int l3)]) (st2 := [.int l2, .int l1, .int 6, .ref l0]) hm dX13_methodFits_68 rfl ?_
  refine mx_S.pu (pc2 := 70) (lv2 := [(0, .ref l0), (1, .int l1), (2, .int l2), (3, .int l3)]) (st2 := [.int l3, .int l2, .int l1, .int 6, .ref l0]) hm dX13_methodFits_69 rfl ?_
  replace hf := mx_gd_el hf; obtain ⟨c64, hf⟩ := hf
  replace hf := mx_sv_el hf; obtain ⟨u65, e_u65, hf⟩ := hf
  refine sx_cv hm dX13_methodFits_70 rs_RX13_922 mt_X13_bad [.int 6, .int l1, .int l2, .int l3] [] (b := l0) (ci := 13) rfl rfl rfl c64 (Nat.le_of_ble_eq_true rfl) (Nat.le_of_ble_eq_true rfl) (by omega) (by omega) (f_X13_bad_ok X (by omega) (by omega) nn l0 6 l1 l2 l3 h e_u65) ?_
  clear e_u65
  show mx_S X F L 554 73 [(0, .ref l0), (1, .int l1), (2, .int l2), (3, .int l3)] [.int u65.1] u65.2 0 0 (some (.int r.1), r.2, 0, 0)
  replace hf := mx_gd_el hf; obtain ⟨c66, hf⟩ := hf
  cases hf
  exact sx_ire hm dX13_methodFits_73 rfl (xbq_ok c66).1
set_option maxHeartbeats 4000000 in
set_option maxRecDepth 20000 in
theorem w_X13_methodFits_30_ok (X : Nat × (Nat → Int32)) {F L : Nat} (hF : 14 ≤ F) (hL : 329 ≤ L) (nn : Nat) : ∀ (k : Nat) (l0 : Nat) (l1 : Int32) (l2 : Int32) (l3 : Int32) (h : mx_H) (r : (Int32 × mx_H)), w_X13_methodFits_30 nn k l0 l1 l2 l3 h = some r → mx_S X F L 554 30 [(0, .ref l0), (1, .int l1), (2, .int l2), (3, .int l3)] [] h 0 0 (some (.int r.1), r.2, 0, 0) := by
  have hm : mx_mt 554 = some (yX13_methodFits, cX13_methodFits, 8, (some .boolean)) := mt_X13_methodFits
  intro k
  induction k with
  | zero => intro l0 l1 l2 l3 h r hf; cases hf
  | succ k ih =>
    intro l0 l1 l2 l3 h r hf
    unfold w_X13_methodFits_30 at hf
    refine mx_S.pu (pc2 := 31) (lv2 := [(0, .ref l0), (1, .int l1), (2, .int l2), (3, .int l3)]) (st2 := [.int l3]) hm dX13_methodFits_30 rfl ?_
    refine mx_S.pu (pc2 := 32) (lv2 := [(0, .ref l0), (1, .int l1), (2, .int l2), (3, .int l3)]) (st2 := [.ref l0, .int l3]) hm dX13_methodFits_31 rfl ?_
    replace hf := mx_sv_el hf; obtain ⟨v67, e_v67, hf⟩ := hf
    refine sx_get hm dX13_methodFits_32 rs_RX13_970 (xgi_el e_v67) ?_
    clear e_v67
    rcases mx_if_el hf with ⟨c81, hf⟩ | ⟨c81, hf⟩
    · refine sb_ic_ge hm dX13_methodFits_35 (tgt := 95) rfl (fun _ => ?_) (fun z => absurd c81 z)
      refine sx_ic (v := 0) hm dX13_methodFits_95 (by decide) ?_
      refine mx_S.pu (pc2 := 97) (lv2 := [(3, .int 0), (0, .ref l0), (1, .int l1), (2, .int l2)]) (st2 := []) hm dX13_methodFits_96 rfl ?_
      refine mx_S.ext [(0, .ref l0), (1, .int l1), (2, .int l2), (3, .int 0)] (mx_sub_pos [1, 2, 3, 0] rfl (show ([3, 0, 1, 2] : List Nat).Nodup by decide)) ?_
      exact w_X13_methodFits_97_ok X hF hL nn nn l0 l1 l2 0 h _ hf
    · refine sb_ic_ge hm dX13_methodFits_35 (tgt := 95) rfl (fun z => absurd z c81) (fun _ => ?_)
      refine mx_S.pu (pc2 := 39) (lv2 := [(0, .ref l0), (1, .int l1), (2, .int l2), (3, .int l3)]) (st2 := [.ref l0]) hm dX13_methodFits_38 rfl ?_
      refine mx_S.pu (pc2 := 40) (lv2 := [(0, .ref l0), (1, .int l1), (2, .int l2), (3, .int l3)]) (st2 := [.int l3, .ref l0]) hm dX13_methodFits_39 rfl ?_
      replace hf := mx_gd_el hf; obtain ⟨c68, hf⟩ := hf
      replace hf := mx_sv_el hf; obtain ⟨u69, e_u69, hf⟩ := hf
      refine sx_cv hm dX13_methodFits_40 rs_RX13_938 mt_X13_code [.int l3] [] (b := l0) (ci := 13) rfl rfl rfl c68 (Nat.le_of_ble_eq_true rfl) (Nat.le_of_ble_eq_true rfl) (by omega) (by omega) (f_X13_code_ok X (by omega) (by omega) nn l0 l3 h e_u69) ?_
      clear e_u69
      show mx_S X F L 554 43 [(0, .ref l0), (1, .int l1), (2, .int l2), (3, .int l3)] [.int u69.1] u69.2 0 0 (some (.int r.1), r.2, 0, 0)
      replace hf := mx_sv_el hf; obtain ⟨u70, e_u70, hf⟩ := hf
      refine sx_cs hm dX13_methodFits_43 rs_RX13_975 mt_X13_widthOf [.int u69.1] [] rfl rfl (Nat.le_of_ble_eq_true rfl) (Nat.le_of_ble_eq_true rfl) (by omega) (by omega) (f_X13_widthOf_ok X (by omega) (by omega) nn u69.1 u69.2 e_u70) ?_
      clear e_u70
      show mx_S X F L 554 46 [(0, .ref l0), (1, .int l1), (2, .int l2), (3, .int l3)] [.int u70.1] u70.2 0 0 (some (.int r.1), r.2, 0, 0)
      refine mx_S.pu (pc2 := 48) (lv2 := [(4, .int u70.1), (0, .ref l0), (1, .int l1), (2, .int l2), (3, .int l3)]) (st2 := []) hm dX13_methodFits_46 rfl ?_
      refine mx_S.pu (pc2 := 50) (lv2 := [(4, .int u70.1), (0, .ref l0), (1, .int l1), (2, .int l2), (3, .int l3)]) (st2 := [.int u70.1]) hm dX13_methodFits_48 rfl ?_
      rcases mx_if_el hf with ⟨c80, hf⟩ | ⟨c80, hf⟩
      · refine sb_if_eq hm dX13_methodFits_50 (tgt := 64) rfl (fun _ => ?_) (fun z => absurd c80 z)
        refine mx_S.ext [(0, .ref l0), (1, .int l1), (2, .int l2), (3, .int l3)] (mx_sub_pos [1, 2, 3, 4] rfl (show ([4, 0, 1, 2, 3] : List Nat).Nodup by decide)) ?_
        exact j_X13_methodFits_64_ok X hF hL nn l0 l1 l2 l3 u70.2 hf
      · refine sb_if_eq hm dX13_methodFits_50 (tgt := 64) rfl (fun z => absurd z c80) (fun _ => ?_)
        refine mx_S.pu (pc2 := 54) (lv2 := [(4, .int u70.1), (0, .ref l0), (1, .int l1), (2, .int l2), (3, .int l3)]) (st2 := [.int l3]) hm dX13_methodFits_53 rfl ?_
        refine mx_S.pu (pc2 := 56) (lv2 := [(4, .int u70.1), (0, .ref l0), (1, .int l1), (2, .int l2), (3, .int l3)]) (st2 := [.int u70.1, .int l3]) hm dX13_methodFits_54 rfl ?_
        replace hf := xl_el hf; obtain ⟨v71, e_v71, hf⟩ := hf
        refine mx_S.pu (pc2 := 57) (lv2 := [(4, .int u70.1), (0, .ref l0), (1, .int l1), (2, .int l2), (3, .int l3)]) (st2 := [.int v71]) hm dX13_methodFits_56 (by rw [← e_v71]; rfl) ?_
        clear e_v71
        refine mx_S.pu (pc2 := 58) (lv2 := [(4, .int u70.1), (0, .ref l0), (1, .int l1), (2, .int l2), (3, .int l3)]) (st2 := [.ref l0, .int v71]) hm dX13_methodFits_57 rfl ?_
        replace hf := mx_sv_el hf; obtain ⟨v72, e_v72, hf⟩ := hf
        refine sx_get hm dX13_methodFits_58 rs_RX13_970 (xgi_el e_v72) ?_
        clear e_v72
        rcases mx_if_el hf with ⟨c79, hf⟩ | ⟨c79, hf⟩
        · refine sb_ic_le hm dX13_methodFits_61 (tgt := 74) rfl (fun _ => ?_) (fun z => absurd c79 z)
          refine mx_S.pu (pc2 := 75) (lv2 := [(4, .int u70.1), (0, .ref l0), (1, .int l1), (2, .int l2), (3, .int l3)]) (st2 := [.ref l0]) hm dX13_methodFits_74 rfl ?_
          replace hf := mx_sv_el hf; obtain ⟨v73, e_v73, hf⟩ := hf
          refine sx_get hm dX13_methodFits_75 rs_RX13_267 (xgr_el e_v73) ?_
          clear e_v73
          refine mx_S.pu (pc2 := 79) (lv2 := [(4, .int u70.1), (0, .ref l0), (1, .int l1), (2, .int l2), (3, .int l3)]) (st2 := [.int l3, .ref v73]) hm dX13_methodFits_78 rfl ?_
          refine sx_ic (v := 1) hm dX13_methodFits_79 (by decide) ?_
          replace hf := mx_sv_el hf; obtain ⟨h74, e_h74, hf⟩ := hf
          refine sx_bst hm dX13_methodFits_80 e_h74 ?_
          clear e_h74
          refine mx_S.pu (pc2 := 82) (lv2 := [(4, .int u70.1), (0, .ref l0), (1, .int l1), (2, .int l2), (3, .int l3)]) (st2 := [.int l3]) hm dX13_methodFits_81 rfl ?_
          refine mx_S.pu (pc2 := 83) (lv2 := [(4, .int u70.1), (0, .ref l0), (1, .int l1), (2, .int l2), (3, .int l3)]) (st2 := [.ref l0, .int l3]) hm dX13_methodFits_82 rfl ?_
          refine mx_S.pu (pc2 := 84) (lv2 := [(4, .int u70.1), (0, .ref l0), (1, .int l1), (2, .int l2), (3, .int l3)]) (st2 := [.int l3, .ref l0, .int l3]) hm dX13_methodFits_83 rfl ?_
          replace hf := mx_gd_el hf; obtain ⟨c75, hf⟩ := hf
          replace hf := mx_sv_el hf; obtain ⟨u76, e_u76, hf⟩ := hf
          refine sx_cv hm dX13_methodFits_84 rs_RX13_938 mt_X13_code [.int l3] [.int l3] (b := l0) (ci := 13) rfl rfl rfl c75 (Nat.le_of_ble_eq_true rfl) (Nat.le_of_ble_eq_true rfl) (by omega) (by omega) (f_X13_code_ok X (by omega) (by omega) nn l0 l3 h74 e_u76) ?_
          clear e_u76
          show mx_S X F L 554 87 [(4, .int u70.1), (0, .ref l0), (1, .int l1), (2, .int l2), (3, .int l3)] [.int u76.1, .int l3] u76.2 0 0 (some (.int r.1), r.2, 0, 0)
          replace hf := mx_sv_el hf; obtain ⟨u77, e_u77, hf⟩ := hf
          refine sx_cs hm dX13_methodFits_87 rs_RX13_975 mt_X13_widthOf [.int u76.1] [.int l3] rfl rfl (Nat.le_of_ble_eq_true rfl) (Nat.le_of_ble_eq_true rfl) (by omega) (by omega) (f_X13_widthOf_ok X (by omega) (by omega) nn u76.1 u76.2 e_u77) ?_
          clear e_u77
          show mx_S X F L 554 90 [(4, .int u70.1), (0, .ref l0), (1, .int l1), (2, .int l2), (3, .int l3)] [.int u77.1, .int l3] u77.2 0 0 (some (.int r.1), r.2, 0, 0)
          replace hf := xl_el hf; obtain ⟨v78, e_v78, hf⟩ := hf
          refine mx_S.pu (pc2 := 91) (lv2 := [(4, .int u70.1), (0, .ref l0), (1, .int l1), (2, .int l2), (3, .int l3)]) (st2 := [.int v78]) hm dX13_methodFits_90 (by rw [← e_v78]; rfl) ?_
          clear e_v78
          refine mx_S.pu (pc2 := 92) (lv2 := [(3, .int v78), (4, .int u70.1), (0, .ref l0), (1, .int l1), (2, .int l2)]) (st2 := []) hm dX13_methodFits_91 rfl ?_
          refine mx_S.pu (pc2 := 30) (lv2 := [(3, .int v78), (4, .int u70.1), (0, .ref l0), (1, .int l1), (2, .int l2)]) (st2 := []) hm dX13_methodFits_92 rfl ?_
          refine mx_S.ext [(0, .ref l0), (1, .int l1), (2, .int l2), (3, .int v78)] (mx_sub_pos [2, 3, 4, 0] rfl (show ([3, 4, 0, 1, 2] : List Nat).Nodup by decide)) ?_
          exact ih l0 l1 l2 v78 u77.2 _ hf
        · refine sb_ic_le hm dX13_methodFits_61 (tgt := 74) rfl (fun z => absurd z c79) (fun _ => ?_)
          refine mx_S.ext [(0, .ref l0), (1, .int l1), (2, .int l2), (3, .int l3)] (mx_sub_pos [1, 2, 3, 4] rfl (show ([4, 0, 1, 2, 3] : List Nat).Nodup by decide)) ?_
          exact j_X13_methodFits_64_ok X hF hL nn l0 l1 l2 l3 u70.2 hf
set_option maxHeartbeats 4000000 in
set_option maxRecDepth 20000 in
theorem w_X13_methodFits_8_ok (X : Nat × (Nat → Int32)) {F L : Nat} (hF : 14 ≤ F) (hL : 329 ≤ L) (nn : Nat) : ∀ (k : Nat) (l0 : Nat) (l1 : Int32) (l2 : Int32) (l3 : Int32) (h : mx_H) (r : (Int32 × mx_H)), w_X13_methodFits_8 nn k l0 l1 l2 l3 h = some r → mx_S X F L 554 8 [(0, .ref l0), (1, .int l1), (2, .int l2), (3, .int l3)] [] h 0 0 (some (.int r.1), r.2, 0, 0) := by
  have hm : mx_mt 554 = some (yX13_methodFits, cX13_methodFits, 8, (some .boolean)) := mt_X13_methodFits
  intro k
  induction k with
  | zero => intro l0 l1 l2 l3 h r hf; cases hf
  | succ k ih =>
    intro l0 l1 l2 l3 h r hf
    unfold w_X13_methodFits_8 at hf
    refine mx_S.pu (pc2 := 9) (lv2 := [(0, .ref l0), (1, .int l1), (2, .int l2), (3, .int l3)]) (st2 := [.int l3]) hm dX13_methodFits_8 rfl ?_
    refine sx_si (v := 1500) hm dX13_methodFits_9 (by decide) ?_
    rcases mx_if_el hf with ⟨c85, hf⟩ | ⟨c85, hf⟩
    · refine sb_ic_gt hm dX13_methodFits_12 (tgt := 28) rfl (fun _ => ?_) (fun z => absurd c85 z)
      refine sx_ic (v := 0) hm dX13_methodFits_28 (by decide) ?_
      refine mx_S.pu (pc2 := 30) (lv2 := [(3, .int 0), (0, .ref l0), (1, .int l1), (2, .int l2)]) (st2 := []) hm dX13_methodFits_29 rfl ?_
      refine mx_S.ext [(0, .ref l0), (1, .int l1), (2, .int l2), (3, .int 0)] (mx_sub_pos [1, 2, 3, 0] rfl (show ([3, 0, 1, 2] : List Nat).Nodup by decide)) ?_
      exact w_X13_methodFits_30_ok X hF hL nn nn l0 l1 l2 0 h _ hf
    · refine sb_ic_gt hm dX13_methodFits_12 (tgt := 28) rfl (fun z => absurd z c85) (fun _ => ?_)
      refine mx_S.pu (pc2 := 16) (lv2 := [(0, .ref l0), (1, .int l1), (2, .int l2), (3, .int l3)]) (st2 := [.ref l0]) hm dX13_methodFits_15 rfl ?_
      replace hf := mx_sv_el hf; obtain ⟨v82, e_v82, hf⟩ := hf
      refine sx_get hm dX13_methodFits_16 rs_RX13_267 (xgr_el e_v82) ?_
      clear e_v82
      refine mx_S.pu (pc2 := 20) (lv2 := [(0, .ref l0), (1, .int l1), (2, .int l2), (3, .int l3)]) (st2 := [.int l3, .ref v82]) hm dX13_methodFits_19 rfl ?_
      refine sx_ic (v := 0) hm dX13_methodFits_20 (by decide) ?_
      replace hf := mx_sv_el hf; obtain ⟨h83, e_h83, hf⟩ := hf
      refine sx_bst hm dX13_methodFits_21 e_h83 ?_
      clear e_h83
      replace hf := xl_el hf; obtain ⟨v84, e_v84, hf⟩ := hf
      refine mx_S.pu (pc2 := 25) (lv2 := [(3, .int v84), (0, .ref l0), (1, .int l1), (2, .int l2)]) (st2 := []) hm dX13_methodFits_22 (by rw [← e_v84]; rfl) ?_
      clear e_v84
      refine mx_S.pu (pc2 := 8) (lv2 := [(3, .int v84), (0, .ref l0), (1, .int l1), (2, .int l2)]) (st2 := []) hm dX13_methodFits_25 rfl ?_
      refine mx_S.ext [(0, .ref l0), (1, .int l1), (2, .int l2), (3, .int v84)] (mx_sub_pos [1, 2, 3, 0] rfl (show ([3, 0, 1, 2] : List Nat).Nodup by decide)) ?_
      exact ih l0 l1 l2 v84 h83 _ hf
set_option maxHeartbeats 4000000 in
set_option maxRecDepth 20000 in
theorem f_X13_methodFits_ok (X : Nat × (Nat → Int32)) {F L : Nat} (hF : 14 ≤ F) (hL : 329 ≤ L) (nn : Nat) (a0 : Nat) (a1 : Int32) (a2 : Int32) (h : mx_H) {r : (Int32 × mx_H)} (hf : f_X13_methodFits nn a0 a1 a2 h = some r) : mx_R X F L 554 [.ref a0, .int a1, .int a2] h (some (.int r.1), r.2, 0, 0) := by
  have hm : mx_mt 554 = some (yX13_methodFits, cX13_methodFits, 8, (some .boolean)) := mt_X13_methodFits
  show mx_S X F L 554 0 [(0, .ref a0), (1, .int a1), (2, .int a2)] [] h 0 0 (some (.int r.1), r.2, 0, 0)
  unfold f_X13_methodFits at hf
  refine mx_S.pu (pc2 := 1) (lv2 := [(0, .ref a0), (1, .int a1), (2, .int a2)]) (st2 := [.ref a0]) hm dX13_methodFits_0 rfl ?_
  refine mx_S.pu (pc2 := 2) (lv2 := [(0, .ref a0), (1, .int a1), (2, .int a2)]) (st2 := [.int a1, .ref a0]) hm dX13_methodFits_1 rfl ?_
  refine mx_S.pu (pc2 := 3) (lv2 := [(0, .ref a0), (1, .int a1), (2, .int a2)]) (st2 := [.int a2, .int a1, .ref a0]) hm dX13_methodFits_2 rfl ?_
  replace hf := mx_gd_el hf; obtain ⟨c86, hf⟩ := hf
  replace hf := mx_sv_el hf; obtain ⟨u87, e_u87, hf⟩ := hf
  refine sx_cv hm dX13_methodFits_3 rs_RX13_973 mt_X13_at_ [.int a1, .int a2] [] (b := a0) (ci := 13) rfl rfl rfl c86 (Nat.le_of_ble_eq_true rfl) (Nat.le_of_ble_eq_true rfl) (by omega) (by omega) (f_X13_at__ok X (by omega) (by omega) nn a0 a1 a2 h e_u87) ?_
  clear e_u87
  show mx_S X F L 554 6 [(0, .ref a0), (1, .int a1), (2, .int a2)] [] u87 0 0 (some (.int r.1), r.2, 0, 0)
  refine sx_ic (v := 0) hm dX13_methodFits_6 (by decide) ?_
  refine mx_S.pu (pc2 := 8) (lv2 := [(3, .int 0), (0, .ref a0), (1, .int a1), (2, .int a2)]) (st2 := []) hm dX13_methodFits_7 rfl ?_
  refine mx_S.ext [(0, .ref a0), (1, .int a1), (2, .int a2), (3, .int 0)] (mx_sub_pos [1, 2, 3, 0] rfl (show ([3, 0, 1, 2] : List Nat).Nodup by decide)) ?_
  exact w_X13_methodFits_8_ok X hF hL nn nn a0 a1 a2 0 u87 _ hf
set_option maxHeartbeats 4000000 in
set_option maxRecDepth 20000 in
theorem j_X13_verify_103_ok (X : Nat × (Nat → Int32)) {F L : Nat} (hF : 15 ≤ F) (hL : 356 ≤ L) (nn : Nat) (l0 : Nat) (l1 : Int32) (h : mx_H) {r : (Int32 × mx_H)} (hf : j_X13_verify_103 nn l0 l1 h = some r) : mx_S X F L 536 103 [(0, .ref l0), (1, .int l1)] [] h 0 0 (some (.int r.1), r.2, 0, 0) := by
  have hm : mx_mt 536 = some (yX13_verify, cX13_verify, 4, (some .int)) := mt_X13_verify
  unfold j_X13_verify_103 at hf
  refine mx_S.pu (pc2 := 104) (lv2 := [(0, .ref l0), (1, .int l1)]) (st2 := [.ref l0]) hm dX13_verify_103 rfl ?_
  refine mx_S.pu (pc2 := 105) (lv2 := [(0, .ref l0), (1, .int l1)]) (st2 := [.int l1, .ref l0]) hm dX13_verify_104 rfl ?_
  replace hf := mx_gd_el hf; obtain ⟨c1, hf⟩ := hf
  replace hf := mx_sv_el hf; obtain ⟨h2, e_h2, hf⟩ := hf
  refine sx_put hm dX13_verify_105 rs_RX13_855 ft_13_99 (xbq_ok c1) (fun z => by cases z) e_h2 ?_
  clear e_h2
  refine mx_S.pu (pc2 := 109) (lv2 := [(0, .ref l0), (1, .int l1)]) (st2 := [.ref l0]) hm dX13_verify_108 rfl ?_
  replace hf := mx_sv_el hf; obtain ⟨v3, e_v3, hf⟩ := hf
  refine sx_get hm dX13_verify_109 rs_RX13_901 (xgi_el e_v3) ?_
  clear e_v3
  cases hf
  exact sx_ire hm dX13_verify_112 rfl rfl
set_option maxHeartbeats 4000000 in
set_option maxRecDepth 20000 in
theorem w_X13_verify_67_ok (X : Nat × (Nat → Int32)) {F L : Nat} (hF : 15 ≤ F) (hL : 356 ≤ L) (nn : Nat) {kk_50 : Nat → Int32 → Int32 → mx_H → Option (Int32 × mx_H)} (hk_50 : ∀ (l0 : Nat) (l1 : Int32) (l2 : Int32) (h : mx_H) (r : (Int32 × mx_H)), kk_50 l0 l1 l2 h = some r → mx_S X F L 536 50 [(0, .ref l0), (1, .int l1), (2, .int l2)] [] h 0 0 (some (.int r.1), r.2, 0, 0)) : ∀ (k : Nat) (l0 : Nat) (l1 : Int32) (l2 : Int32) (l3 : Int32) (h : mx_H) (r : (Int32 × mx_H)), w_X13_verify_67 nn kk_50 k l0 l1 l2 l3 h = some r → mx_S X F L 536 67 [(0, .ref l0), (1, .int l1), (2, .int l2), (3, .int l3)] [] h 0 0 (some (.int r.1), r.2, 0, 0) := by
  have hm : mx_mt 536 = some (yX13_verify, cX13_verify, 4, (some .int)) := mt_X13_verify
  intro k
  induction k with
  | zero => intro l0 l1 l2 l3 h r hf; cases hf
  | succ k ih =>
    intro l0 l1 l2 l3 h r hf
    unfold w_X13_verify_67 at hf
    refine mx_S.pu (pc2 := 68) (lv2 := [(0, .ref l0), (1, .int l1), (2, .int l2), (3, .int l3)]) (st2 := [.int l3]) hm dX13_verify_67 rfl ?_
    refine mx_S.pu (pc2 := 69) (lv2 := [(0, .ref l0), (1, .int l1), (2, .int l2), (3, .int l3)]) (st2 := [.ref l0, .int l3]) hm dX13_verify_68 rfl ?_
    replace hf := mx_sv_el hf; obtain ⟨v4, e_v4, hf⟩ := hf
    refine sx_get hm dX13_verify_69 rs_RX13_233 (xgr_el e_v4) ?_
    clear e_v4
    refine mx_S.pu (pc2 := 73) (lv2 := [(0, .ref l0), (1, .int l1), (2, .int l2), (3, .int l3)]) (st2 := [.int l2, .ref v4, .int l3]) hm dX13_verify_72 rfl ?_
    refine sx_bi (v := 8) hm dX13_verify_73 (by decide) ?_
    replace hf := xl_el hf; obtain ⟨v5, e_v5, hf⟩ := hf
    refine mx_S.pu (pc2 := 76) (lv2 := [(0, .ref l0), (1, .int l1), (2, .int l2), (3, .int l3)]) (st2 := [.int v5, .ref v4, .int l3]) hm dX13_verify_75 (by rw [← e_v5]; rfl) ?_
    clear e_v5
    replace hf := mx_sv_el hf; obtain ⟨v6, e_v6, hf⟩ := hf
    refine sx_ald hm dX13_verify_76 e_v6 ?_
    clear e_v6
    rcases mx_if_el hf with ⟨c13, hf⟩ | ⟨c13, hf⟩
    · refine sb_ic_ge hm dX13_verify_77 (tgt := 97) rfl (fun _ => ?_) (fun z => absurd c13 z)
      replace hf := xl_el hf; obtain ⟨v7, e_v7, hf⟩ := hf
      refine mx_S.pu (pc2 := 100) (lv2 := [(2, .int v7), (0, .ref l0), (1, .int l1), (3, .int l3)]) (st2 := []) hm dX13_verify_97 (by rw [← e_v7]; rfl) ?_
      clear e_v7
      refine mx_S.pu (pc2 := 50) (lv2 := [(2, .int v7), (0, .ref l0), (1, .int l1), (3, .int l3)]) (st2 := []) hm dX13_verify_100 rfl ?_
      refine mx_S.ext [(0, .ref l0), (1, .int l1), (2, .int v7)] (mx_sub_pos [1, 2, 0] rfl (show ([2, 0, 1, 3] : List Nat).Nodup by decide)) ?_
      exact hk_50 l0 l1 v7 h _ hf
    · refine sb_ic_ge hm dX13_verify_77 (tgt := 97) rfl (fun z => absurd z c13) (fun _ => ?_)
      refine mx_S.pu (pc2 := 81) (lv2 := [(0, .ref l0), (1, .int l1), (2, .int l2), (3, .int l3)]) (st2 := [.int l1]) hm dX13_verify_80 rfl ?_
      rcases mx_if_el hf with ⟨c12, hf⟩ | ⟨c12, hf⟩
      · refine sb_if_eq hm dX13_verify_81 (tgt := 97) rfl (fun _ => ?_) (fun z => absurd c12 z)
        replace hf := xl_el hf; obtain ⟨v8, e_v8, hf⟩ := hf
        refine mx_S.pu (pc2 := 100) (lv2 := [(2, .int v8), (0, .ref l0), (1, .int l1), (3, .int l3)]) (st2 := []) hm dX13_verify_97 (by rw [← e_v8]; rfl) ?_
        clear e_v8
        refine mx_S.pu (pc2 := 50) (lv2 := [(2, .int v8), (0, .ref l0), (1, .int l1), (3, .int l3)]) (st2 := []) hm dX13_verify_100 rfl ?_
        refine mx_S.ext [(0, .ref l0), (1, .int l1), (2, .int v8)] (mx_sub_pos [1, 2, 0] rfl (show ([2, 0, 1, 3] : List Nat).Nodup by decide)) ?_
        exact hk_50 l0 l1 v8 h _ hf
      · refine sb_if_eq hm dX13_verify_81 (tgt := 97) rfl (fun z => absurd z c12) (fun _ => ?_)
        refine mx_S.pu (pc2 := 85) (lv2 := [(0, .ref l0), (1, .int l1), (2, .int l2), (3, .int l3)]) (st2 := [.ref l0]) hm dX13_verify_84 rfl ?_
        refine mx_S.pu (pc2 := 86) (lv2 := [(0, .ref l0), (1, .int l1), (2, .int l2), (3, .int l3)]) (st2 := [.int l2, .ref l0]) hm dX13_verify_85 rfl ?_
        refine mx_S.pu (pc2 := 87) (lv2 := [(0, .ref l0), (1, .int l1), (2, .int l2), (3, .int l3)]) (st2 := [.int l3, .int l2, .ref l0]) hm dX13_verify_86 rfl ?_
        replace hf := mx_gd_el hf; obtain ⟨c9, hf⟩ := hf
        replace hf := mx_sv_el hf; obtain ⟨u10, e_u10, hf⟩ := hf
        refine sx_cv hm dX13_verify_87 rs_RX13_907 mt_X13_methodFits [.int l2, .int l3] [] (b := l0) (ci := 13) rfl rfl rfl c9 (Nat.le_of_ble_eq_true rfl) (Nat.le_of_ble_eq_true rfl) (by omega) (by omega) (f_X13_methodFits_ok X (by omega) (by omega) nn l0 l2 l3 h e_u10) ?_
        clear e_u10
        show mx_S X F L 536 90 [(0, .ref l0), (1, .int l1), (2, .int l2), (3, .int l3)] [.int u10.1] u10.2 0 0 (some (.int r.1), r.2, 0, 0)
        refine mx_S.pu (pc2 := 91) (lv2 := [(1, .int u10.1), (0, .ref l0), (2, .int l2), (3, .int l3)]) (st2 := []) hm dX13_verify_90 rfl ?_
        replace hf := xl_el hf; obtain ⟨v11, e_v11, hf⟩ := hf
        refine mx_S.pu (pc2 := 94) (lv2 := [(3, .int v11), (1, .int u10.1), (0, .ref l0), (2, .int l2)]) (st2 := []) hm dX13_verify_91 (by rw [← e_v11]; rfl) ?_
        clear e_v11
        refine mx_S.pu (pc2 := 67) (lv2 := [(3, .int v11), (1, .int u10.1), (0, .ref l0), (2, .int l2)]) (st2 := []) hm dX13_verify_94 rfl ?_
        refine mx_S.ext [(0, .ref l0), (1, .int u10.1), (2, .int l2), (3, .int v11)] (mx_sub_pos [2, 1, 3, 0] rfl (show ([3, 1, 0, 2] : List Nat).Nodup by decide)) ?_
        exact ih l0 u10.1 l2 v11 u10.2 _ hf
set_option maxHeartbeats 4000000 in
set_option maxRecDepth 20000 in
theorem w_X13_verify_50_ok (X : Nat × (Nat → Int32)) {F L : Nat} (hF : 15 ≤ F) (hL : 356 ≤ L) (nn : Nat) : ∀ (k : Nat) (l0 : Nat) (l1 : Int32) (l2 : Int32) (h : mx_H) (r : (Int32 × mx_H)), w_X13_verify_50 nn k l0 l1 l2 h = some r → mx_S X F L 536 50 [(0, .ref l0), (1, .int l1), (2, .int l2)] [] h 0 0 (some (.int r.1), r.2, 0, 0) := by
  have hm : mx_mt 536 = some (yX13_verify, cX13_verify, 4, (some .int)) := mt_X13_verify
  intro k
  induction k with
  | zero => intro l0 l1 l2 h r hf; cases hf
  | succ k ih =>
    intro l0 l1 l2 h r hf
    unfold w_X13_verify_50 at hf
    refine mx_S.pu (pc2 := 51) (lv2 := [(0, .ref l0), (1, .int l1), (2, .int l2)]) (st2 := [.int l2]) hm dX13_verify_50 rfl ?_
    refine sx_bi (v := 8) hm dX13_verify_51 (by decide) ?_
    refine mx_S.pu (pc2 := 54) (lv2 := [(0, .ref l0), (1, .int l1), (2, .int l2)]) (st2 := [.ref l0, .int 8, .int l2]) hm dX13_verify_53 rfl ?_
    replace hf := mx_sv_el hf; obtain ⟨v14, e_v14, hf⟩ := hf
    refine sx_get hm dX13_verify_54 rs_RX13_833 (xgi_el e_v14) ?_
    clear e_v14
    replace hf := xl_el hf; obtain ⟨v15, e_v15, hf⟩ := hf
    refine mx_S.pu (pc2 := 58) (lv2 := [(0, .ref l0), (1, .int l1), (2, .int l2)]) (st2 := [.int v15, .int l2]) hm dX13_verify_57 (by rw [← e_v15]; rfl) ?_
    clear e_v15
    rcases mx_if_el hf with ⟨c17, hf⟩ | ⟨c17, hf⟩
    · refine sb_ic_ge hm dX13_verify_58 (tgt := 103) rfl (fun _ => ?_) (fun z => absurd c17 z)
      refine mx_S.ext [(0, .ref l0), (1, .int l1)] (mx_sub_pos [0, 1] rfl (show ([0, 1, 2] : List Nat).Nodup by decide)) ?_
      exact j_X13_verify_103_ok X hF hL nn l0 l1 h hf
    · refine sb_ic_ge hm dX13_verify_58 (tgt := 103) rfl (fun z => absurd z c17) (fun _ => ?_)
      refine mx_S.pu (pc2 := 62) (lv2 := [(0, .ref l0), (1, .int l1), (2, .int l2)]) (st2 := [.int l1]) hm dX13_verify_61 rfl ?_
      rcases mx_if_el hf with ⟨c16, hf⟩ | ⟨c16, hf⟩
      · refine sb_if_eq hm dX13_verify_62 (tgt := 103) rfl (fun _ => ?_) (fun z => absurd c16 z)
        refine mx_S.ext [(0, .ref l0), (1, .int l1)] (mx_sub_pos [0, 1] rfl (show ([0, 1, 2] : List Nat).Nodup by decide)) ?_
        exact j_X13_verify_103_ok X hF hL nn l0 l1 h hf
      · refine sb_if_eq hm dX13_verify_62 (tgt := 103) rfl (fun z => absurd z c16) (fun _ => ?_)
        refine sx_ic (v := 0) hm dX13_verify_65 (by decide) ?_
        refine mx_S.pu (pc2 := 67) (lv2 := [(3, .int 0), (0, .ref l0), (1, .int l1), (2, .int l2)]) (st2 := []) hm dX13_verify_66 rfl ?_
        refine mx_S.ext [(0, .ref l0), (1, .int l1), (2, .int l2), (3, .int 0)] (mx_sub_pos [1, 2, 3, 0] rfl (show ([3, 0, 1, 2] : List Nat).Nodup by decide)) ?_
        exact w_X13_verify_67_ok X hF hL nn ih nn l0 l1 l2 0 h _ hf
set_option maxHeartbeats 4000000 in
set_option maxRecDepth 20000 in
theorem w_X13_verify_20_ok (X : Nat × (Nat → Int32)) {F L : Nat} (hF : 15 ≤ F) (hL : 356 ≤ L) (nn : Nat) : ∀ (k : Nat) (l0 : Nat) (l1 : Int32) (l2 : Int32) (h : mx_H) (r : (Int32 × mx_H)), w_X13_verify_20 nn k l0 l1 l2 h = some r → mx_S X F L 536 20 [(0, .ref l0), (1, .int l1), (2, .int l2)] [] h 0 0 (some (.int r.1), r.2, 0, 0) := by
  have hm : mx_mt 536 = some (yX13_verify, cX13_verify, 4, (some .int)) := mt_X13_verify
  intro k
  induction k with
  | zero => intro l0 l1 l2 h r hf; cases hf
  | succ k ih =>
    intro l0 l1 l2 h r hf
    unfold w_X13_verify_20 at hf
    refine mx_S.pu (pc2 := 21) (lv2 := [(0, .ref l0), (1, .int l1), (2, .int l2)]) (st2 := [.int l2]) hm dX13_verify_20 rfl ?_
    refine sx_bi (v := 8) hm dX13_verify_21 (by decide) ?_
    refine mx_S.pu (pc2 := 24) (lv2 := [(0, .ref l0), (1, .int l1), (2, .int l2)]) (st2 := [.ref l0, .int 8, .int l2]) hm dX13_verify_23 rfl ?_
    replace hf := mx_sv_el hf; obtain ⟨v18, e_v18, hf⟩ := hf
    refine sx_get hm dX13_verify_24 rs_RX13_833 (xgi_el e_v18) ?_
    clear e_v18
    replace hf := xl_el hf; obtain ⟨v19, e_v19, hf⟩ := hf
    refine mx_S.pu (pc2 := 28) (lv2 := [(0, .ref l0), (1, .int l1), (2, .int l2)]) (st2 := [.int v19, .int l2]) hm dX13_verify_27 (by rw [← e_v19]; rfl) ?_
    clear e_v19
    rcases mx_if_el hf with ⟨c24, hf⟩ | ⟨c24, hf⟩
    · refine sb_ic_ge hm dX13_verify_28 (tgt := 47) rfl (fun _ => ?_) (fun z => absurd c24 z)
      refine sx_bi (v := 8) hm dX13_verify_47 (by decide) ?_
      refine mx_S.pu (pc2 := 50) (lv2 := [(2, .int 8), (0, .ref l0), (1, .int l1)]) (st2 := []) hm dX13_verify_49 rfl ?_
      refine mx_S.ext [(0, .ref l0), (1, .int l1), (2, .int 8)] (mx_sub_pos [1, 2, 0] rfl (show ([2, 0, 1] : List Nat).Nodup by decide)) ?_
      exact w_X13_verify_50_ok X hF hL nn nn l0 l1 8 h _ hf
    · refine sb_ic_ge hm dX13_verify_28 (tgt := 47) rfl (fun z => absurd z c24) (fun _ => ?_)
      refine mx_S.pu (pc2 := 32) (lv2 := [(0, .ref l0), (1, .int l1), (2, .int l2)]) (st2 := [.int l1]) hm dX13_verify_31 rfl ?_
      rcases mx_if_el hf with ⟨c23, hf⟩ | ⟨c23, hf⟩
      · refine sb_if_eq hm dX13_verify_32 (tgt := 47) rfl (fun _ => ?_) (fun z => absurd c23 z)
        refine sx_bi (v := 8) hm dX13_verify_47 (by decide) ?_
        refine mx_S.pu (pc2 := 50) (lv2 := [(2, .int 8), (0, .ref l0), (1, .int l1)]) (st2 := []) hm dX13_verify_49 rfl ?_
        refine mx_S.ext [(0, .ref l0), (1, .int l1), (2, .int 8)] (mx_sub_pos [1, 2, 0] rfl (show ([2, 0, 1] : List Nat).Nodup by decide)) ?_
        exact w_X13_verify_50_ok X hF hL nn nn l0 l1 8 h _ hf
      · refine sb_if_eq hm dX13_verify_32 (tgt := 47) rfl (fun z => absurd z c23) (fun _ => ?_)
        refine mx_S.pu (pc2 := 36) (lv2 := [(0, .ref l0), (1, .int l1), (2, .int l2)]) (st2 := [.ref l0]) hm dX13_verify_35 rfl ?_
        refine mx_S.pu (pc2 := 37) (lv2 := [(0, .ref l0), (1, .int l1), (2, .int l2)]) (st2 := [.int l2, .ref l0]) hm dX13_verify_36 rfl ?_
        replace hf := mx_gd_el hf; obtain ⟨c20, hf⟩ := hf
        replace hf := mx_sv_el hf; obtain ⟨u21, e_u21, hf⟩ := hf
        refine sx_cv hm dX13_verify_37 rs_RX13_904 mt_X13_classFits [.int l2] [] (b := l0) (ci := 13) rfl rfl rfl c20 (Nat.le_of_ble_eq_true rfl) (Nat.le_of_ble_eq_true rfl) (by omega) (by omega) (f_X13_classFits_ok X (by omega) (by omega) nn l0 l2 h e_u21) ?_
        clear e_u21
        show mx_S X F L 536 40 [(0, .ref l0), (1, .int l1), (2, .int l2)] [.int u21.1] u21.2 0 0 (some (.int r.1), r.2, 0, 0)
        refine mx_S.pu (pc2 := 41) (lv2 := [(1, .int u21.1), (0, .ref l0), (2, .int l2)]) (st2 := []) hm dX13_verify_40 rfl ?_
        replace hf := xl_el hf; obtain ⟨v22, e_v22, hf⟩ := hf
        refine mx_S.pu (pc2 := 44) (lv2 := [(2, .int v22), (1, .int u21.1), (0, .ref l0)]) (st2 := []) hm dX13_verify_41 (by rw [← e_v22]; rfl) ?_
        clear e_v22
        refine mx_S.pu (pc2 := 20) (lv2 := [(2, .int v22), (1, .int u21.1), (0, .ref l0)]) (st2 := []) hm dX13_verify_44 rfl ?_
        refine mx_S.ext [(0, .ref l0), (1, .int u21.1), (2, .int v22)] (mx_sub_pos [2, 1, 0] rfl (show ([2, 1, 0] : List Nat).Nodup by decide)) ?_
        exact ih l0 u21.1 v22 u21.2 _ hf
set_option maxHeartbeats 4000000 in
set_option maxRecDepth 20000 in
theorem f_X13_verify_ok (X : Nat × (Nat → Int32)) {F L : Nat} (hF : 15 ≤ F) (hL : 356 ≤ L) (nn : Nat) (a0 : Nat) (h : mx_H) {r : (Int32 × mx_H)} (hf : f_X13_verify nn a0 h = some r) : mx_R X F L 536 [.ref a0] h (some (.int r.1), r.2, 0, 0) := by
  have hm : mx_mt 536 = some (yX13_verify, cX13_verify, 4, (some .int)) := mt_X13_verify
  show mx_S X F L 536 0 [(0, .ref a0)] [] h 0 0 (some (.int r.1), r.2, 0, 0)
  unfold f_X13_verify at hf
  refine mx_S.pu (pc2 := 1) (lv2 := [(0, .ref a0)]) (st2 := [.ref a0]) hm dX13_verify_0 rfl ?_
  refine sx_ic (v := 0) hm dX13_verify_1 (by decide) ?_
  replace hf := mx_sv_el hf; obtain ⟨h25, e_h25, hf⟩ := hf
  refine sx_put hm dX13_verify_2 rs_RX13_855 ft_13_99 ⟨by decide, by decide⟩ (fun z => by cases z) e_h25 ?_
  clear e_h25
  refine mx_S.pu (pc2 := 6) (lv2 := [(0, .ref a0)]) (st2 := [.ref a0]) hm dX13_verify_5 rfl ?_
  refine sx_ic (v := 0) hm dX13_verify_6 (by decide) ?_
  replace hf := mx_sv_el hf; obtain ⟨h26, e_h26, hf⟩ := hf
  refine sx_put hm dX13_verify_7 rs_RX13_901 ft_13_122 ⟨rfl, rfl⟩ (fun z => by cases z) e_h26 ?_
  clear e_h26
  refine mx_S.pu (pc2 := 11) (lv2 := [(0, .ref a0)]) (st2 := [.ref a0]) hm dX13_verify_10 rfl ?_
  refine sx_ic (v := 0) hm dX13_verify_11 (by decide) ?_
  replace hf := mx_sv_el hf; obtain ⟨h27, e_h27, hf⟩ := hf
  refine sx_put hm dX13_verify_12 rs_RX13_876 ft_13_117 ⟨rfl, rfl⟩ (fun z => by cases z) e_h27 ?_
  clear e_h27
  refine sx_ic (v := 1) hm dX13_verify_15 (by decide) ?_
  refine mx_S.pu (pc2 := 17) (lv2 := [(1, .int 1), (0, .ref a0)]) (st2 := []) hm dX13_verify_16 rfl ?_
  refine sx_bi (v := 8) hm dX13_verify_17 (by decide) ?_
  refine mx_S.pu (pc2 := 20) (lv2 := [(2, .int 8), (1, .int 1), (0, .ref a0)]) (st2 := []) hm dX13_verify_19 rfl ?_
  refine mx_S.ext [(0, .ref a0), (1, .int 1), (2, .int 8)] (mx_sub_pos [2, 1, 0] rfl (show ([2, 1, 0] : List Nat).Nodup by decide)) ?_
  exact w_X13_verify_20_ok X hF hL nn nn a0 1 8 h27 _ hf
set_option maxHeartbeats 4000000 in
set_option maxRecDepth 20000 in
theorem f_X13_where_ok (X : Nat × (Nat → Int32)) {F L : Nat} (hF : 0 ≤ F) (hL : 0 ≤ L) (nn : Nat) (a0 : Nat) (a1 : Int32) (h : mx_H) {r : (Int32 × mx_H)} (hf : f_X13_where nn a0 a1 h = some r) : mx_R X F L 537 [.ref a0, .int a1] h (some (.int r.1), r.2, 0, 0) := by
  have hm : mx_mt 537 = some (yX13_where, cX13_where, 2, (some .int)) := mt_X13_where
  show mx_S X F L 537 0 [(0, .ref a0), (1, .int a1)] [] h 0 0 (some (.int r.1), r.2, 0, 0)
  unfold f_X13_where at hf
  refine mx_S.pu (pc2 := 1) (lv2 := [(0, .ref a0), (1, .int a1)]) (st2 := [.int a1]) hm dX13_where_0 rfl ?_
  rcases mx_if_el hf with ⟨c6, hf⟩ | ⟨c6, hf⟩
  · refine sb_if_ne hm dX13_where_1 (tgt := 11) rfl (fun _ => ?_) (fun z => absurd c6 z)
    refine mx_S.pu (pc2 := 12) (lv2 := [(0, .ref a0), (1, .int a1)]) (st2 := [.int a1]) hm dX13_where_11 rfl ?_
    refine sx_ic (v := 1) hm dX13_where_12 (by decide) ?_
    rcases mx_if_el hf with ⟨c4, hf⟩ | ⟨c4, hf⟩
    · refine sb_ic_ne hm dX13_where_13 (tgt := 23) rfl (fun _ => ?_) (fun z => absurd c4 z)
      refine mx_S.pu (pc2 := 24) (lv2 := [(0, .ref a0), (1, .int a1)]) (st2 := [.int a1]) hm dX13_where_23 rfl ?_
      refine sx_ic (v := 2) hm dX13_where_24 (by decide) ?_
      rcases mx_if_el hf with ⟨c2, hf⟩ | ⟨c2, hf⟩
      · refine sb_ic_ne hm dX13_where_25 (tgt := 35) rfl (fun _ => ?_) (fun z => absurd c2 z)
        refine sx_ic (v := (-1)) hm dX13_where_35 (by decide) ?_
        cases hf
        exact sx_ire hm dX13_where_36 rfl rfl
      · refine sb_ic_ne hm dX13_where_25 (tgt := 35) rfl (fun z => absurd z c2) (fun _ => ?_)
        refine mx_S.pu (pc2 := 29) (lv2 := [(0, .ref a0), (1, .int a1)]) (st2 := [.ref a0]) hm dX13_where_28 rfl ?_
        replace hf := mx_sv_el hf; obtain ⟨v1, e_v1, hf⟩ := hf
        refine sx_get hm dX13_where_29 rs_RX13_264 (xgi_el e_v1) ?_
        clear e_v1
        refine mx_S.pu (pc2 := 36) (lv2 := [(0, .ref a0), (1, .int a1)]) (st2 := [.int v1]) hm dX13_where_32 rfl ?_
        cases hf
        exact sx_ire hm dX13_where_36 rfl rfl
    · refine sb_ic_ne hm dX13_where_13 (tgt := 23) rfl (fun z => absurd z c4) (fun _ => ?_)
      refine mx_S.pu (pc2 := 17) (lv2 := [(0, .ref a0), (1, .int a1)]) (st2 := [.ref a0]) hm dX13_where_16 rfl ?_
      replace hf := mx_sv_el hf; obtain ⟨v3, e_v3, hf⟩ := hf
      refine sx_get hm dX13_where_17 rs_RX13_261 (xgi_el e_v3) ?_
      clear e_v3
      refine mx_S.pu (pc2 := 36) (lv2 := [(0, .ref a0), (1, .int a1)]) (st2 := [.int v3]) hm dX13_where_20 rfl ?_
      cases hf
      exact sx_ire hm dX13_where_36 rfl rfl
  · refine sb_if_ne hm dX13_where_1 (tgt := 11) rfl (fun z => absurd z c6) (fun _ => ?_)
    refine mx_S.pu (pc2 := 5) (lv2 := [(0, .ref a0), (1, .int a1)]) (st2 := [.ref a0]) hm dX13_where_4 rfl ?_
    replace hf := mx_sv_el hf; obtain ⟨v5, e_v5, hf⟩ := hf
    refine sx_get hm dX13_where_5 rs_RX13_257 (xgi_el e_v5) ?_
    clear e_v5
    refine mx_S.pu (pc2 := 36) (lv2 := [(0, .ref a0), (1, .int a1)]) (st2 := [.int v5]) hm dX13_where_8 rfl ?_
    cases hf
    exact sx_ire hm dX13_where_36 rfl rfl
