set_option maxHeartbeats 4000000 in
set_option maxRecDepth 20000 in
theorem j_L_law_436_ok (X : Nat × (Nat → Int32)) {F L : Nat} (hF : 1810 ≤ F) (hL : 48830 ≤ L) (nn : Nat) {kk_18 : Nat → Nat → Int32 → mx_H → Nat → Nat → Option (Int32 × mx_H × Nat × Nat)} (hk_18 : ∀ (l1 : Nat) (l2 : Nat) (l3 : Int32) (h : mx_H) (c : Nat) (s : Nat) (r : (Int32 × mx_H × Nat × Nat)), kk_18 l1 l2 l3 h c s = some r → mx_S X F L 0 18 [(0, .ref 2000000000), (1, .ref l1), (2, .ref l2), (3, .int l3)] [] h c s (some (.int r.1), r.2.1, r.2.2.1, r.2.2.2)) (l1 : Nat) (l2 : Nat) (l3 : Int32) (h : mx_H) (c : Nat) (s : Nat) {r : (Int32 × mx_H × Nat × Nat)} (hf : j_L_law_436 X nn kk_18 l1 l2 l3 h c s = some r) : mx_S X F L 0 436 [(0, .ref 2000000000), (1, .ref l1), (2, .ref l2), (3, .int l3)] [] h c s (some (.int r.1), r.2.1, r.2.2.1, r.2.2.2) := by
  have hm : mx_mt 0 = some (yL_law, cL_law, 4, (some .boolean)) := mt_L_law
  unfold j_L_law_436 at hf
  refine mx_S.pu (pc2 := 437) (lv2 := [(0, .ref 2000000000), (1, .ref l1), (2, .ref l2), (3, .int l3)]) (st2 := [.ref l2]) hm dL_law_436 rfl ?_
  refine mx_S.pu (pc2 := 438) (lv2 := [(0, .ref 2000000000), (1, .ref l1), (2, .ref l2), (3, .int l3)]) (st2 := [.ref 2000000000, .ref l2]) hm dL_law_437 rfl ?_
  refine mx_S.pu (pc2 := 439) (lv2 := [(0, .ref 2000000000), (1, .ref l1), (2, .ref l2), (3, .int l3)]) (st2 := [.int l3, .ref 2000000000, .ref l2]) hm dL_law_438 rfl ?_
  refine sx_ic (v := 1) hm dL_law_439 (by decide) ?_
  replace hf := xl_el hf; obtain ⟨v1, e_v1, hf⟩ := hf
  refine mx_S.pu (pc2 := 441) (lv2 := [(0, .ref 2000000000), (1, .ref l1), (2, .ref l2), (3, .int l3)]) (st2 := [.int v1, .ref 2000000000, .ref l2]) hm dL_law_440 (by rw [← e_v1]; rfl) ?_
  clear e_v1
  replace hf := mx_gd_el hf; obtain ⟨c2, hf⟩ := hf
  replace hf := mx_sv_el hf; obtain ⟨v3, e_v3, hf⟩ := hf
  refine sx_sc hm dL_law_441 (xno_el c2) e_v3 ?_
  clear e_v3
  replace hf := mx_gd_el hf; obtain ⟨c4, hf⟩ := hf
  replace hf := mx_sv_el hf; obtain ⟨u5, e_u5, hf⟩ := hf
  refine sx_cv hm dL_law_442 rs_RL_71 mt_X13_run [.int v3] [] (b := l2) (ci := 13) rfl rfl rfl c4 (Nat.le_of_ble_eq_true rfl) (Nat.le_of_ble_eq_true rfl) (by omega) (by omega) (f_X13_run_ok X (by omega) (by omega) nn l2 v3 h e_u5) ?_
  clear e_u5
  show mx_S X F L 0 445 [(0, .ref 2000000000), (1, .ref l1), (2, .ref l2), (3, .int l3)] [.int u5.1] u5.2 c s (some (.int r.1), r.2.1, r.2.2.1, r.2.2.2)
  refine mx_S.pu (pc2 := 446) (lv2 := [(0, .ref 2000000000), (1, .ref l1), (2, .ref l2), (3, .int l3)]) (st2 := []) hm dL_law_445 rfl ?_
  refine mx_S.pu (pc2 := 528) (lv2 := [(0, .ref 2000000000), (1, .ref l1), (2, .ref l2), (3, .int l3)]) (st2 := []) hm dL_law_446 rfl ?_
  replace hf := xl_el hf; obtain ⟨v6, e_v6, hf⟩ := hf
  refine mx_S.pu (pc2 := 531) (lv2 := [(3, .int v6), (0, .ref 2000000000), (1, .ref l1), (2, .ref l2)]) (st2 := []) hm dL_law_528 (by rw [← e_v6]; rfl) ?_
  clear e_v6
  refine mx_S.pu (pc2 := 18) (lv2 := [(3, .int v6), (0, .ref 2000000000), (1, .ref l1), (2, .ref l2)]) (st2 := []) hm dL_law_531 rfl ?_
  refine mx_S.ext [(0, .ref 2000000000), (1, .ref l1), (2, .ref l2), (3, .int v6)] (mx_sub_pos [1, 2, 3, 0] rfl (show ([3, 0, 1, 2] : List Nat).Nodup by decide)) ?_
  exact hk_18 l1 l2 v6 u5.2 c s _ hf
set_option maxHeartbeats 4000000 in
set_option maxRecDepth 20000 in
theorem j_L_law_323_ok (X : Nat × (Nat → Int32)) {F L : Nat} (hF : 1810 ≤ F) (hL : 48830 ≤ L) (nn : Nat) {kk_18 : Nat → Nat → Int32 → mx_H → Nat → Nat → Option (Int32 × mx_H × Nat × Nat)} (hk_18 : ∀ (l1 : Nat) (l2 : Nat) (l3 : Int32) (h : mx_H) (c : Nat) (s : Nat) (r : (Int32 × mx_H × Nat × Nat)), kk_18 l1 l2 l3 h c s = some r → mx_S X F L 0 18 [(0, .ref 2000000000), (1, .ref l1), (2, .ref l2), (3, .int l3)] [] h c s (some (.int r.1), r.2.1, r.2.2.1, r.2.2.2)) (l1 : Nat) (l2 : Nat) (l3 : Int32) (h : mx_H) (c : Nat) (s : Nat) {r : (Int32 × mx_H × Nat × Nat)} (hf : j_L_law_323 X nn kk_18 l1 l2 l3 h c s = some r) : mx_S X F L 0 323 [(0, .ref 2000000000), (1, .ref l1), (2, .ref l2), (3, .int l3)] [] h c s (some (.int r.1), r.2.1, r.2.2.1, r.2.2.2) := by
  have hm : mx_mt 0 = some (yL_law, cL_law, 4, (some .boolean)) := mt_L_law
  unfold j_L_law_323 at hf
  refine mx_S.pu (pc2 := 324) (lv2 := [(0, .ref 2000000000), (1, .ref l1), (2, .ref l2), (3, .int l3)]) (st2 := [.ref l2]) hm dL_law_323 rfl ?_
  refine mx_S.pu (pc2 := 325) (lv2 := [(0, .ref 2000000000), (1, .ref l1), (2, .ref l2), (3, .int l3)]) (st2 := [.ref 2000000000, .ref l2]) hm dL_law_324 rfl ?_
  refine mx_S.pu (pc2 := 326) (lv2 := [(0, .ref 2000000000), (1, .ref l1), (2, .ref l2), (3, .int l3)]) (st2 := [.int l3, .ref 2000000000, .ref l2]) hm dL_law_325 rfl ?_
  refine sx_ic (v := 1) hm dL_law_326 (by decide) ?_
  replace hf := xl_el hf; obtain ⟨v7, e_v7, hf⟩ := hf
  refine mx_S.pu (pc2 := 328) (lv2 := [(0, .ref 2000000000), (1, .ref l1), (2, .ref l2), (3, .int l3)]) (st2 := [.int v7, .ref 2000000000, .ref l2]) hm dL_law_327 (by rw [← e_v7]; rfl) ?_
  clear e_v7
  replace hf := mx_gd_el hf; obtain ⟨c8, hf⟩ := hf
  replace hf := mx_sv_el hf; obtain ⟨v9, e_v9, hf⟩ := hf
  refine sx_sc hm dL_law_328 (xno_el c8) e_v9 ?_
  clear e_v9
  refine mx_S.pu (pc2 := 330) (lv2 := [(0, .ref 2000000000), (1, .ref l1), (2, .ref l2), (3, .int l3)]) (st2 := [.ref 2000000000, .int v9, .ref l2]) hm dL_law_329 rfl ?_
  refine mx_S.pu (pc2 := 331) (lv2 := [(0, .ref 2000000000), (1, .ref l1), (2, .ref l2), (3, .int l3)]) (st2 := [.int l3, .ref 2000000000, .int v9, .ref l2]) hm dL_law_330 rfl ?_
  refine sx_ic (v := 2) hm dL_law_331 (by decide) ?_
  replace hf := xl_el hf; obtain ⟨v10, e_v10, hf⟩ := hf
  refine mx_S.pu (pc2 := 333) (lv2 := [(0, .ref 2000000000), (1, .ref l1), (2, .ref l2), (3, .int l3)]) (st2 := [.int v10, .ref 2000000000, .int v9, .ref l2]) hm dL_law_332 (by rw [← e_v10]; rfl) ?_
  clear e_v10
  replace hf := mx_gd_el hf; obtain ⟨c11, hf⟩ := hf
  replace hf := mx_sv_el hf; obtain ⟨v12, e_v12, hf⟩ := hf
  refine sx_sc hm dL_law_333 (xno_el c11) e_v12 ?_
  clear e_v12
  refine mx_S.pu (pc2 := 335) (lv2 := [(0, .ref 2000000000), (1, .ref l1), (2, .ref l2), (3, .int l3)]) (st2 := [.ref 2000000000, .int v12, .int v9, .ref l2]) hm dL_law_334 rfl ?_
  refine mx_S.pu (pc2 := 336) (lv2 := [(0, .ref 2000000000), (1, .ref l1), (2, .ref l2), (3, .int l3)]) (st2 := [.int l3, .ref 2000000000, .int v12, .int v9, .ref l2]) hm dL_law_335 rfl ?_
  refine sx_ic (v := 3) hm dL_law_336 (by decide) ?_
  replace hf := xl_el hf; obtain ⟨v13, e_v13, hf⟩ := hf
  refine mx_S.pu (pc2 := 338) (lv2 := [(0, .ref 2000000000), (1, .ref l1), (2, .ref l2), (3, .int l3)]) (st2 := [.int v13, .ref 2000000000, .int v12, .int v9, .ref l2]) hm dL_law_337 (by rw [← e_v13]; rfl) ?_
  clear e_v13
  replace hf := mx_gd_el hf; obtain ⟨c14, hf⟩ := hf
  replace hf := mx_sv_el hf; obtain ⟨v15, e_v15, hf⟩ := hf
  refine sx_sc hm dL_law_338 (xno_el c14) e_v15 ?_
  clear e_v15
  replace hf := mx_gd_el hf; obtain ⟨c16, hf⟩ := hf
  replace hf := mx_sv_el hf; obtain ⟨u17, e_u17, hf⟩ := hf
  refine sx_cv hm dL_law_339 rs_RL_50 mt_X13_patch [.int v9, .int v12, .int v15] [] (b := l2) (ci := 13) rfl rfl rfl c16 (Nat.le_of_ble_eq_true rfl) (Nat.le_of_ble_eq_true rfl) (by omega) (by omega) (f_X13_patch_ok X (by omega) (by omega) nn l2 v9 v12 v15 h e_u17) ?_
  clear e_u17
  show mx_S X F L 0 342 [(0, .ref 2000000000), (1, .ref l1), (2, .ref l2), (3, .int l3)] [.int u17.1] u17.2 c s (some (.int r.1), r.2.1, r.2.2.1, r.2.2.2)
  refine mx_S.pu (pc2 := 343) (lv2 := [(0, .ref 2000000000), (1, .ref l1), (2, .ref l2), (3, .int l3)]) (st2 := []) hm dL_law_342 rfl ?_
  refine mx_S.pu (pc2 := 528) (lv2 := [(0, .ref 2000000000), (1, .ref l1), (2, .ref l2), (3, .int l3)]) (st2 := []) hm dL_law_343 rfl ?_
  replace hf := xl_el hf; obtain ⟨v18, e_v18, hf⟩ := hf
  refine mx_S.pu (pc2 := 531) (lv2 := [(3, .int v18), (0, .ref 2000000000), (1, .ref l1), (2, .ref l2)]) (st2 := []) hm dL_law_528 (by rw [← e_v18]; rfl) ?_
  clear e_v18
  refine mx_S.pu (pc2 := 18) (lv2 := [(3, .int v18), (0, .ref 2000000000), (1, .ref l1), (2, .ref l2)]) (st2 := []) hm dL_law_531 rfl ?_
  refine mx_S.ext [(0, .ref 2000000000), (1, .ref l1), (2, .ref l2), (3, .int v18)] (mx_sub_pos [1, 2, 3, 0] rfl (show ([3, 0, 1, 2] : List Nat).Nodup by decide)) ?_
  exact hk_18 l1 l2 v18 u17.2 c s _ hf
set_option maxHeartbeats 4000000 in
set_option maxRecDepth 20000 in
theorem j_L_law_196_ok (X : Nat × (Nat → Int32)) {F L : Nat} (hF : 1810 ≤ F) (hL : 48830 ≤ L) (nn : Nat) (h : mx_H) (c : Nat) (s : Nat) {r : (Int32 × mx_H × Nat × Nat)} (hf : j_L_law_196 X nn h c s = some r) : mx_S X F L 0 196 [] [] h c s (some (.int r.1), r.2.1, r.2.2.1, r.2.2.2) := by
  have hm : mx_mt 0 = some (yL_law, cL_law, 4, (some .boolean)) := mt_L_law
  unfold j_L_law_196 at hf
  refine sx_ic (v := 0) hm dL_law_196 (by decide) ?_
  cases hf
  exact sx_ire hm dL_law_197 rfl (by decide)
set_option maxHeartbeats 4000000 in
set_option maxRecDepth 20000 in
theorem w_L_law_18_ok (X : Nat × (Nat → Int32)) {F L : Nat} (hF : 1810 ≤ F) (hL : 48830 ≤ L) (nn : Nat) : ∀ (k : Nat) (l1 : Nat) (l2 : Nat) (l3 : Int32) (h : mx_H) (c : Nat) (s : Nat) (r : (Int32 × mx_H × Nat × Nat)), w_L_law_18 X nn k l1 l2 l3 h c s = some r → mx_S X F L 0 18 [(0, .ref 2000000000), (1, .ref l1), (2, .ref l2), (3, .int l3)] [] h c s (some (.int r.1), r.2.1, r.2.2.1, r.2.2.2) := by
  have hm : mx_mt 0 = some (yL_law, cL_law, 4, (some .boolean)) := mt_L_law
  intro k
  induction k with
  | zero => intro l1 l2 l3 h c s r hf; cases hf
  | succ k ih =>
    intro l1 l2 l3 h c s r hf
    unfold w_L_law_18 at hf
    refine mx_S.pu (pc2 := 19) (lv2 := [(0, .ref 2000000000), (1, .ref l1), (2, .ref l2), (3, .int l3)]) (st2 := [.int l3]) hm dL_law_18 rfl ?_
    refine mx_S.pu (pc2 := 20) (lv2 := [(0, .ref 2000000000), (1, .ref l1), (2, .ref l2), (3, .int l3)]) (st2 := [.ref 2000000000, .int l3]) hm dL_law_19 rfl ?_
    replace hf := mx_gd_el hf; obtain ⟨c19, hf⟩ := hf
    refine sx_sl hm dL_law_20 (xno_el c19) ?_
    refine sx_bi (v := 6) hm dL_law_21 (by decide) ?_
    replace hf := xl_el hf; obtain ⟨v20, e_v20, hf⟩ := hf
    refine mx_S.pu (pc2 := 24) (lv2 := [(0, .ref 2000000000), (1, .ref l1), (2, .ref l2), (3, .int l3)]) (st2 := [.int v20, .int l3]) hm dL_law_23 (by rw [← e_v20]; rfl) ?_
    clear e_v20
    rcases mx_if_el hf with ⟨c214, hf⟩ | ⟨c214, hf⟩
    · refine sb_ic_gt hm dL_law_24 (tgt := 534) rfl (fun _ => ?_) (fun z => absurd c214 z)
      refine sx_ic (v := 1) hm dL_law_534 (by decide) ?_
      cases hf
      exact sx_ire hm dL_law_535 rfl (by decide)
    · refine sb_ic_gt hm dL_law_24 (tgt := 534) rfl (fun z => absurd z c214) (fun _ => ?_)
      refine mx_S.pu (pc2 := 28) (lv2 := [(0, .ref 2000000000), (1, .ref l1), (2, .ref l2), (3, .int l3)]) (st2 := [.ref 2000000000]) hm dL_law_27 rfl ?_
      refine mx_S.pu (pc2 := 29) (lv2 := [(0, .ref 2000000000), (1, .ref l1), (2, .ref l2), (3, .int l3)]) (st2 := [.int l3, .ref 2000000000]) hm dL_law_28 rfl ?_
      replace hf := mx_gd_el hf; obtain ⟨c21, hf⟩ := hf
      replace hf := mx_sv_el hf; obtain ⟨v22, e_v22, hf⟩ := hf
      refine sx_sc hm dL_law_29 (xno_el c21) e_v22 ?_
      clear e_v22
      refine sx_bi (v := 15) hm dL_law_30 (by decide) ?_
      replace hf := xl_el hf; obtain ⟨v23, e_v23, hf⟩ := hf
      refine mx_S.pu (pc2 := 33) (lv2 := [(0, .ref 2000000000), (1, .ref l1), (2, .ref l2), (3, .int l3)]) (st2 := [.int v23]) hm dL_law_32 (by rw [← e_v23]; rfl) ?_
      clear e_v23
      rcases mx_if_el hf with ⟨n_0, hf⟩ | ⟨n_0, hf⟩
      · refine sx_tin hm dL_law_33 (by rw [n_0]; decide) (by rw [n_0]; decide) (off := 79) (by rw [n_0]; rfl) (tgt := 112) rfl ?_
        clear n_0
        refine mx_S.pu (pc2 := 113) (lv2 := [(0, .ref 2000000000), (1, .ref l1), (2, .ref l2), (3, .int l3)]) (st2 := [.ref l1]) hm dL_law_112 rfl ?_
        refine mx_S.pu (pc2 := 114) (lv2 := [(0, .ref 2000000000), (1, .ref l1), (2, .ref l2), (3, .int l3)]) (st2 := [.ref 2000000000, .ref l1]) hm dL_law_113 rfl ?_
        refine mx_S.pu (pc2 := 115) (lv2 := [(0, .ref 2000000000), (1, .ref l1), (2, .ref l2), (3, .int l3)]) (st2 := [.int l3, .ref 2000000000, .ref l1]) hm dL_law_114 rfl ?_
        refine sx_ic (v := 1) hm dL_law_115 (by decide) ?_
        replace hf := xl_el hf; obtain ⟨v25, e_v25, hf⟩ := hf
        refine mx_S.pu (pc2 := 117) (lv2 := [(0, .ref 2000000000), (1, .ref l1), (2, .ref l2), (3, .int l3)]) (st2 := [.int v25, .ref 2000000000, .ref l1]) hm dL_law_116 (by rw [← e_v25]; rfl) ?_
        clear e_v25
        replace hf := mx_gd_el hf; obtain ⟨c26, hf⟩ := hf
        replace hf := mx_sv_el hf; obtain ⟨v27, e_v27, hf⟩ := hf
        refine sx_sc hm dL_law_117 (xno_el c26) e_v27 ?_
        clear e_v27
        refine mx_S.pu (pc2 := 119) (lv2 := [(0, .ref 2000000000), (1, .ref l1), (2, .ref l2), (3, .int l3)]) (st2 := [.ref 2000000000, .int v27, .ref l1]) hm dL_law_118 rfl ?_
        refine mx_S.pu (pc2 := 120) (lv2 := [(0, .ref 2000000000), (1, .ref l1), (2, .ref l2), (3, .int l3)]) (st2 := [.int l3, .ref 2000000000, .int v27, .ref l1]) hm dL_law_119 rfl ?_
        refine sx_ic (v := 2) hm dL_law_120 (by decide) ?_
        replace hf := xl_el hf; obtain ⟨v28, e_v28, hf⟩ := hf
        refine mx_S.pu (pc2 := 122) (lv2 := [(0, .ref 2000000000), (1, .ref l1), (2, .ref l2), (3, .int l3)]) (st2 := [.int v28, .ref 2000000000, .int v27, .ref l1]) hm dL_law_121 (by rw [← e_v28]; rfl) ?_
        clear e_v28
        replace hf := mx_gd_el hf; obtain ⟨c29, hf⟩ := hf
        replace hf := mx_sv_el hf; obtain ⟨v30, e_v30, hf⟩ := hf
        refine sx_sc hm dL_law_122 (xno_el c29) e_v30 ?_
        clear e_v30
        refine mx_S.pu (pc2 := 124) (lv2 := [(0, .ref 2000000000), (1, .ref l1), (2, .ref l2), (3, .int l3)]) (st2 := [.ref 2000000000, .int v30, .int v27, .ref l1]) hm dL_law_123 rfl ?_
        refine mx_S.pu (pc2 := 125) (lv2 := [(0, .ref 2000000000), (1, .ref l1), (2, .ref l2), (3, .int l3)]) (st2 := [.int l3, .ref 2000000000, .int v30, .int v27, .ref l1]) hm dL_law_124 rfl ?_
        refine sx_ic (v := 3) hm dL_law_125 (by decide) ?_
        replace hf := xl_el hf; obtain ⟨v31, e_v31, hf⟩ := hf
        refine mx_S.pu (pc2 := 127) (lv2 := [(0, .ref 2000000000), (1, .ref l1), (2, .ref l2), (3, .int l3)]) (st2 := [.int v31, .ref 2000000000, .int v30, .int v27, .ref l1]) hm dL_law_126 (by rw [← e_v31]; rfl) ?_
        clear e_v31
        replace hf := mx_gd_el hf; obtain ⟨c32, hf⟩ := hf
        replace hf := mx_sv_el hf; obtain ⟨v33, e_v33, hf⟩ := hf
        refine sx_sc hm dL_law_127 (xno_el c32) e_v33 ?_
        clear e_v33
        refine mx_S.pu (pc2 := 129) (lv2 := [(0, .ref 2000000000), (1, .ref l1), (2, .ref l2), (3, .int l3)]) (st2 := [.ref 2000000000, .int v33, .int v30, .int v27, .ref l1]) hm dL_law_128 rfl ?_
        refine mx_S.pu (pc2 := 130) (lv2 := [(0, .ref 2000000000), (1, .ref l1), (2, .ref l2), (3, .int l3)]) (st2 := [.int l3, .ref 2000000000, .int v33, .int v30, .int v27, .ref l1]) hm dL_law_129 rfl ?_
        refine sx_ic (v := 4) hm dL_law_130 (by decide) ?_
        replace hf := xl_el hf; obtain ⟨v34, e_v34, hf⟩ := hf
        refine mx_S.pu (pc2 := 132) (lv2 := [(0, .ref 2000000000), (1, .ref l1), (2, .ref l2), (3, .int l3)]) (st2 := [.int v34, .ref 2000000000, .int v33, .int v30, .int v27, .ref l1]) hm dL_law_131 (by rw [← e_v34]; rfl) ?_
        clear e_v34
        replace hf := mx_gd_el hf; obtain ⟨c35, hf⟩ := hf
        replace hf := mx_sv_el hf; obtain ⟨v36, e_v36, hf⟩ := hf
        refine sx_sc hm dL_law_132 (xno_el c35) e_v36 ?_
        clear e_v36
        refine mx_S.pu (pc2 := 134) (lv2 := [(0, .ref 2000000000), (1, .ref l1), (2, .ref l2), (3, .int l3)]) (st2 := [.ref 2000000000, .int v36, .int v33, .int v30, .int v27, .ref l1]) hm dL_law_133 rfl ?_
        refine mx_S.pu (pc2 := 135) (lv2 := [(0, .ref 2000000000), (1, .ref l1), (2, .ref l2), (3, .int l3)]) (st2 := [.int l3, .ref 2000000000, .int v36, .int v33, .int v30, .int v27, .ref l1]) hm dL_law_134 rfl ?_
        refine sx_ic (v := 5) hm dL_law_135 (by decide) ?_
        replace hf := xl_el hf; obtain ⟨v37, e_v37, hf⟩ := hf
        refine mx_S.pu (pc2 := 137) (lv2 := [(0, .ref 2000000000), (1, .ref l1), (2, .ref l2), (3, .int l3)]) (st2 := [.int v37, .ref 2000000000, .int v36, .int v33, .int v30, .int v27, .ref l1]) hm dL_law_136 (by rw [← e_v37]; rfl) ?_
        clear e_v37
        replace hf := mx_gd_el hf; obtain ⟨c38, hf⟩ := hf
        replace hf := mx_sv_el hf; obtain ⟨v39, e_v39, hf⟩ := hf
        refine sx_sc hm dL_law_137 (xno_el c38) e_v39 ?_
        clear e_v39
        replace hf := mx_gd_el hf; obtain ⟨c40, hf⟩ := hf
        replace hf := mx_sv_el hf; obtain ⟨u41, e_u41, hf⟩ := hf
        refine sx_cv hm dL_law_138 rs_RL_13 mt_X12_feed [.int v27, .int v30, .int v33, .int v36, .int v39] [] (b := l1) (ci := 12) rfl rfl rfl c40 (Nat.le_of_ble_eq_true rfl) (Nat.le_of_ble_eq_true rfl) (by omega) (by omega) (f_X12_feed_ok X (by omega) (by omega) nn l1 v27 v30 v33 v36 v39 h e_u41) ?_
        clear e_u41
        show mx_S X F L 0 141 [(0, .ref 2000000000), (1, .ref l1), (2, .ref l2), (3, .int l3)] [.int u41.1] u41.2 c s (some (.int r.1), r.2.1, r.2.2.1, r.2.2.2)
        refine mx_S.pu (pc2 := 142) (lv2 := [(0, .ref 2000000000), (1, .ref l1), (2, .ref l2), (3, .int l3)]) (st2 := []) hm dL_law_141 rfl ?_
        refine mx_S.pu (pc2 := 143) (lv2 := [(0, .ref 2000000000), (1, .ref l1), (2, .ref l2), (3, .int l3)]) (st2 := [.ref l2]) hm dL_law_142 rfl ?_
        refine mx_S.pu (pc2 := 144) (lv2 := [(0, .ref 2000000000), (1, .ref l1), (2, .ref l2), (3, .int l3)]) (st2 := [.ref 2000000000, .ref l2]) hm dL_law_143 rfl ?_
        refine mx_S.pu (pc2 := 145) (lv2 := [(0, .ref 2000000000), (1, .ref l1), (2, .ref l2), (3, .int l3)]) (st2 := [.int l3, .ref 2000000000, .ref l2]) hm dL_law_144 rfl ?_
        refine sx_ic (v := 1) hm dL_law_145 (by decide) ?_
        replace hf := xl_el hf; obtain ⟨v42, e_v42, hf⟩ := hf
        refine mx_S.pu (pc2 := 147) (lv2 := [(0, .ref 2000000000), (1, .ref l1), (2, .ref l2), (3, .int l3)]) (st2 := [.int v42, .ref 2000000000, .ref l2]) hm dL_law_146 (by rw [← e_v42]; rfl) ?_
        clear e_v42
        replace hf := mx_gd_el hf; obtain ⟨c43, hf⟩ := hf
        replace hf := mx_sv_el hf; obtain ⟨v44, e_v44, hf⟩ := hf
        refine sx_sc hm dL_law_147 (xno_el c43) e_v44 ?_
        clear e_v44
        refine mx_S.pu (pc2 := 149) (lv2 := [(0, .ref 2000000000), (1, .ref l1), (2, .ref l2), (3, .int l3)]) (st2 := [.ref 2000000000, .int v44, .ref l2]) hm dL_law_148 rfl ?_
        refine mx_S.pu (pc2 := 150) (lv2 := [(0, .ref 2000000000), (1, .ref l1), (2, .ref l2), (3, .int l3)]) (st2 := [.int l3, .ref 2000000000, .int v44, .ref l2]) hm dL_law_149 rfl ?_
        refine sx_ic (v := 2) hm dL_law_150 (by decide) ?_
        replace hf := xl_el hf; obtain ⟨v45, e_v45, hf⟩ := hf
        refine mx_S.pu (pc2 := 152) (lv2 := [(0, .ref 2000000000), (1, .ref l1), (2, .ref l2), (3, .int l3)]) (st2 := [.int v45, .ref 2000000000, .int v44, .ref l2]) hm dL_law_151 (by rw [← e_v45]; rfl) ?_
        clear e_v45
        replace hf := mx_gd_el hf; obtain ⟨c46, hf⟩ := hf
        replace hf := mx_sv_el hf; obtain ⟨v47, e_v47, hf⟩ := hf
        refine sx_sc hm dL_law_152 (xno_el c46) e_v47 ?_
        clear e_v47
        refine mx_S.pu (pc2 := 154) (lv2 := [(0, .ref 2000000000), (1, .ref l1), (2, .ref l2), (3, .int l3)]) (st2 := [.ref 2000000000, .int v47, .int v44, .ref l2]) hm dL_law_153 rfl ?_
        refine mx_S.pu (pc2 := 155) (lv2 := [(0, .ref 2000000000), (1, .ref l1), (2, .ref l2), (3, .int l3)]) (st2 := [.int l3, .ref 2000000000, .int v47, .int v44, .ref l2]) hm dL_law_154 rfl ?_
        refine sx_ic (v := 3) hm dL_law_155 (by decide) ?_
        replace hf := xl_el hf; obtain ⟨v48, e_v48, hf⟩ := hf
        refine mx_S.pu (pc2 := 157) (lv2 := [(0, .ref 2000000000), (1, .ref l1), (2, .ref l2), (3, .int l3)]) (st2 := [.int v48, .ref 2000000000, .int v47, .int v44, .ref l2]) hm dL_law_156 (by rw [← e_v48]; rfl) ?_
        clear e_v48
        replace hf := mx_gd_el hf; obtain ⟨c49, hf⟩ := hf
        replace hf := mx_sv_el hf; obtain ⟨v50, e_v50, hf⟩ := hf
        refine sx_sc hm dL_law_157 (xno_el c49) e_v50 ?_
        clear e_v50
        refine mx_S.pu (pc2 := 159) (lv2 := [(0, .ref 2000000000), (1, .ref l1), (2, .ref l2), (3, .int l3)]) (st2 := [.ref 2000000000, .int v50, .int v47, .int v44, .ref l2]) hm dL_law_158 rfl ?_
        refine mx_S.pu (pc2 := 160) (lv2 := [(0, .ref 2000000000), (1, .ref l1), (2, .ref l2), (3, .int l3)]) (st2 := [.int l3, .ref 2000000000, .int v50, .int v47, .int v44, .ref l2]) hm dL_law_159 rfl ?_
        refine sx_ic (v := 4) hm dL_law_160 (by decide) ?_
        replace hf := xl_el hf; obtain ⟨v51, e_v51, hf⟩ := hf
        refine mx_S.pu (pc2 := 162) (lv2 := [(0, .ref 2000000000), (1, .ref l1), (2, .ref l2), (3, .int l3)]) (st2 := [.int v51, .ref 2000000000, .int v50, .int v47, .int v44, .ref l2]) hm dL_law_161 (by rw [← e_v51]; rfl) ?_
        clear e_v51
        replace hf := mx_gd_el hf; obtain ⟨c52, hf⟩ := hf
        replace hf := mx_sv_el hf; obtain ⟨v53, e_v53, hf⟩ := hf
        refine sx_sc hm dL_law_162 (xno_el c52) e_v53 ?_
        clear e_v53
        refine mx_S.pu (pc2 := 164) (lv2 := [(0, .ref 2000000000), (1, .ref l1), (2, .ref l2), (3, .int l3)]) (st2 := [.ref 2000000000, .int v53, .int v50, .int v47, .int v44, .ref l2]) hm dL_law_163 rfl ?_
        refine mx_S.pu (pc2 := 165) (lv2 := [(0, .ref 2000000000), (1, .ref l1), (2, .ref l2), (3, .int l3)]) (st2 := [.int l3, .ref 2000000000, .int v53, .int v50, .int v47, .int v44, .ref l2]) hm dL_law_164 rfl ?_
        refine sx_ic (v := 5) hm dL_law_165 (by decide) ?_
        replace hf := xl_el hf; obtain ⟨v54, e_v54, hf⟩ := hf
        refine mx_S.pu (pc2 := 167) (lv2 := [(0, .ref 2000000000), (1, .ref l1), (2, .ref l2), (3, .int l3)]) (st2 := [.int v54, .ref 2000000000, .int v53, .int v50, .int v47, .int v44, .ref l2]) hm dL_law_166 (by rw [← e_v54]; rfl) ?_
        clear e_v54
        replace hf := mx_gd_el hf; obtain ⟨c55, hf⟩ := hf
        replace hf := mx_sv_el hf; obtain ⟨v56, e_v56, hf⟩ := hf
        refine sx_sc hm dL_law_167 (xno_el c55) e_v56 ?_
        clear e_v56
        replace hf := mx_gd_el hf; obtain ⟨c57, hf⟩ := hf
        replace hf := mx_sv_el hf; obtain ⟨u58, e_u58, hf⟩ := hf
        refine sx_cv hm dL_law_168 rs_RL_17 mt_X13_feed [.int v44, .int v47, .int v50, .int v53, .int v56] [] (b := l2) (ci := 13) rfl rfl rfl c57 (Nat.le_of_ble_eq_true rfl) (Nat.le_of_ble_eq_true rfl) (by omega) (by omega) (f_X13_feed_ok X (by omega) (by omega) nn l2 v44 v47 v50 v53 v56 u41.2 e_u58) ?_
        clear e_u58
        show mx_S X F L 0 171 [(0, .ref 2000000000), (1, .ref l1), (2, .ref l2), (3, .int l3)] [.int u58.1] u58.2 c s (some (.int r.1), r.2.1, r.2.2.1, r.2.2.2)
        refine mx_S.pu (pc2 := 172) (lv2 := [(0, .ref 2000000000), (1, .ref l1), (2, .ref l2), (3, .int l3)]) (st2 := []) hm dL_law_171 rfl ?_
        refine mx_S.pu (pc2 := 528) (lv2 := [(0, .ref 2000000000), (1, .ref l1), (2, .ref l2), (3, .int l3)]) (st2 := []) hm dL_law_172 rfl ?_
        replace hf := xl_el hf; obtain ⟨v59, e_v59, hf⟩ := hf
        refine mx_S.pu (pc2 := 531) (lv2 := [(3, .int v59), (0, .ref 2000000000), (1, .ref l1), (2, .ref l2)]) (st2 := []) hm dL_law_528 (by rw [← e_v59]; rfl) ?_
        clear e_v59
        refine mx_S.pu (pc2 := 18) (lv2 := [(3, .int v59), (0, .ref 2000000000), (1, .ref l1), (2, .ref l2)]) (st2 := []) hm dL_law_531 rfl ?_
        refine mx_S.ext [(0, .ref 2000000000), (1, .ref l1), (2, .ref l2), (3, .int v59)] (mx_sub_pos [1, 2, 3, 0] rfl (show ([3, 0, 1, 2] : List Nat).Nodup by decide)) ?_
        exact ih l1 l2 v59 u58.2 c s _ hf
      · rcases mx_if_el hf with ⟨n_1, hf⟩ | ⟨n_1, hf⟩
        · refine sx_tin hm dL_law_33 (by rw [n_1]; decide) (by rw [n_1]; decide) (off := 142) (by rw [n_1]; rfl) (tgt := 175) rfl ?_
          clear n_0 n_1
          refine mx_S.pu (pc2 := 176) (lv2 := [(0, .ref 2000000000), (1, .ref l1), (2, .ref l2), (3, .int l3)]) (st2 := [.ref l1]) hm dL_law_175 rfl ?_
          refine mx_S.pu (pc2 := 177) (lv2 := [(0, .ref 2000000000), (1, .ref l1), (2, .ref l2), (3, .int l3)]) (st2 := [.ref 2000000000, .ref l1]) hm dL_law_176 rfl ?_
          refine mx_S.pu (pc2 := 178) (lv2 := [(0, .ref 2000000000), (1, .ref l1), (2, .ref l2), (3, .int l3)]) (st2 := [.int l3, .ref 2000000000, .ref l1]) hm dL_law_177 rfl ?_
          refine sx_ic (v := 1) hm dL_law_178 (by decide) ?_
          replace hf := xl_el hf; obtain ⟨v60, e_v60, hf⟩ := hf
          refine mx_S.pu (pc2 := 180) (lv2 := [(0, .ref 2000000000), (1, .ref l1), (2, .ref l2), (3, .int l3)]) (st2 := [.int v60, .ref 2000000000, .ref l1]) hm dL_law_179 (by rw [← e_v60]; rfl) ?_
          clear e_v60
          replace hf := mx_gd_el hf; obtain ⟨c61, hf⟩ := hf
          replace hf := mx_sv_el hf; obtain ⟨v62, e_v62, hf⟩ := hf
          refine sx_sc hm dL_law_180 (xno_el c61) e_v62 ?_
          clear e_v62
          replace hf := mx_gd_el hf; obtain ⟨c63, hf⟩ := hf
          replace hf := mx_sv_el hf; obtain ⟨u64, e_u64, hf⟩ := hf
          refine sx_cv hm dL_law_181 rs_RL_18 mt_X12_end [.int v62] [] (b := l1) (ci := 12) rfl rfl rfl c63 (Nat.le_of_ble_eq_true rfl) (Nat.le_of_ble_eq_true rfl) (by omega) (by omega) (f_X12_end_ok X (by omega) (by omega) nn l1 v62 h e_u64) ?_
          clear e_u64
          show mx_S X F L 0 184 [(0, .ref 2000000000), (1, .ref l1), (2, .ref l2), (3, .int l3)] [.int u64.1] u64.2 c s (some (.int r.1), r.2.1, r.2.2.1, r.2.2.2)
          refine mx_S.pu (pc2 := 185) (lv2 := [(0, .ref 2000000000), (1, .ref l1), (2, .ref l2), (3, .int l3)]) (st2 := [.ref l2, .int u64.1]) hm dL_law_184 rfl ?_
          refine mx_S.pu (pc2 := 186) (lv2 := [(0, .ref 2000000000), (1, .ref l1), (2, .ref l2), (3, .int l3)]) (st2 := [.ref 2000000000, .ref l2, .int u64.1]) hm dL_law_185 rfl ?_
          refine mx_S.pu (pc2 := 187) (lv2 := [(0, .ref 2000000000), (1, .ref l1), (2, .ref l2), (3, .int l3)]) (st2 := [.int l3, .ref 2000000000, .ref l2, .int u64.1]) hm dL_law_186 rfl ?_
          refine sx_ic (v := 1) hm dL_law_187 (by decide) ?_
          replace hf := xl_el hf; obtain ⟨v65, e_v65, hf⟩ := hf
          refine mx_S.pu (pc2 := 189) (lv2 := [(0, .ref 2000000000), (1, .ref l1), (2, .ref l2), (3, .int l3)]) (st2 := [.int v65, .ref 2000000000, .ref l2, .int u64.1]) hm dL_law_188 (by rw [← e_v65]; rfl) ?_
          clear e_v65
          replace hf := mx_gd_el hf; obtain ⟨c66, hf⟩ := hf
          replace hf := mx_sv_el hf; obtain ⟨v67, e_v67, hf⟩ := hf
          refine sx_sc hm dL_law_189 (xno_el c66) e_v67 ?_
          clear e_v67
          replace hf := mx_gd_el hf; obtain ⟨c68, hf⟩ := hf
          replace hf := mx_sv_el hf; obtain ⟨u69, e_u69, hf⟩ := hf
          refine sx_cv hm dL_law_190 rs_RL_22 mt_X13_end [.int v67] [.int u64.1] (b := l2) (ci := 13) rfl rfl rfl c68 (Nat.le_of_ble_eq_true rfl) (Nat.le_of_ble_eq_true rfl) (by omega) (by omega) (f_X13_end_ok X (by omega) (by omega) nn l2 v67 u64.2 e_u69) ?_
          clear e_u69
          show mx_S X F L 0 193 [(0, .ref 2000000000), (1, .ref l1), (2, .ref l2), (3, .int l3)] [.int u69.1, .int u64.1] u69.2 c s (some (.int r.1), r.2.1, r.2.2.1, r.2.2.2)
          rcases mx_if_el hf with ⟨c71, hf⟩ | ⟨c71, hf⟩
          · refine sb_ic_eq hm dL_law_193 (tgt := 528) rfl (fun _ => ?_) (fun z => absurd c71 z)
            replace hf := xl_el hf; obtain ⟨v70, e_v70, hf⟩ := hf
            refine mx_S.pu (pc2 := 531) (lv2 := [(3, .int v70), (0, .ref 2000000000), (1, .ref l1), (2, .ref l2)]) (st2 := []) hm dL_law_528 (by rw [← e_v70]; rfl) ?_
            clear e_v70
            refine mx_S.pu (pc2 := 18) (lv2 := [(3, .int v70), (0, .ref 2000000000), (1, .ref l1), (2, .ref l2)]) (st2 := []) hm dL_law_531 rfl ?_
            refine mx_S.ext [(0, .ref 2000000000), (1, .ref l1), (2, .ref l2), (3, .int v70)] (mx_sub_pos [1, 2, 3, 0] rfl (show ([3, 0, 1, 2] : List Nat).Nodup by decide)) ?_
            exact ih l1 l2 v70 u69.2 c s _ hf
          · refine sb_ic_eq hm dL_law_193 (tgt := 528) rfl (fun z => absurd z c71) (fun _ => ?_)
            refine mx_S.ext [] (mx_sub_pos [] rfl (show ([0, 1, 2, 3] : List Nat).Nodup by decide)) ?_
            exact j_L_law_196_ok X hF hL nn u69.2 c s hf
        · rcases mx_if_el hf with ⟨n_2, hf⟩ | ⟨n_2, hf⟩
          · refine sx_tin hm dL_law_33 (by rw [n_2]; decide) (by rw [n_2]; decide) (off := 165) (by rw [n_2]; rfl) (tgt := 198) rfl ?_
            clear n_0 n_1 n_2
            refine mx_S.pu (pc2 := 199) (lv2 := [(0, .ref 2000000000), (1, .ref l1), (2, .ref l2), (3, .int l3)]) (st2 := [.ref l1]) hm dL_law_198 rfl ?_
            replace hf := mx_gd_el hf; obtain ⟨c72, hf⟩ := hf
            replace hf := mx_sv_el hf; obtain ⟨u73, e_u73, hf⟩ := hf
            refine sx_cvA hm dL_law_199 rs_RL_23 mt_X12_compile [] [] (b := l1) (ci := 12) rfl rfl rfl c72 (Nat.le_of_ble_eq_true rfl) (Nat.le_of_ble_eq_true rfl) (by omega) (by omega) (f_X12_compile_ok X (by omega) (by omega) nn l1 h e_u73) ?_
            clear e_u73
            show mx_S X F L 0 202 [(0, .ref 2000000000), (1, .ref l1), (2, .ref l2), (3, .int l3)] [.int u73.1] u73.2.1 (c + u73.2.2.1) (s + u73.2.2.2) (some (.int r.1), r.2.1, r.2.2.1, r.2.2.2)
            refine mx_S.pu (pc2 := 203) (lv2 := [(0, .ref 2000000000), (1, .ref l1), (2, .ref l2), (3, .int l3)]) (st2 := []) hm dL_law_202 rfl ?_
            refine mx_S.pu (pc2 := 204) (lv2 := [(0, .ref 2000000000), (1, .ref l1), (2, .ref l2), (3, .int l3)]) (st2 := [.ref l2]) hm dL_law_203 rfl ?_
            replace hf := mx_gd_el hf; obtain ⟨c74, hf⟩ := hf
            replace hf := mx_sv_el hf; obtain ⟨u75, e_u75, hf⟩ := hf
            refine sx_cv hm dL_law_204 rs_RL_27 mt_X13_compile [] [] (b := l2) (ci := 13) rfl rfl rfl c74 (Nat.le_of_ble_eq_true rfl) (Nat.le_of_ble_eq_true rfl) (by omega) (by omega) (f_X13_compile_ok X (by omega) (by omega) nn l2 u73.2.1 e_u75) ?_
            clear e_u75
            show mx_S X F L 0 207 [(0, .ref 2000000000), (1, .ref l1), (2, .ref l2), (3, .int l3)] [.int u75.1] u75.2 (c + u73.2.2.1) (s + u73.2.2.2) (some (.int r.1), r.2.1, r.2.2.1, r.2.2.2)
            refine mx_S.pu (pc2 := 208) (lv2 := [(0, .ref 2000000000), (1, .ref l1), (2, .ref l2), (3, .int l3)]) (st2 := []) hm dL_law_207 rfl ?_
            refine mx_S.pu (pc2 := 528) (lv2 := [(0, .ref 2000000000), (1, .ref l1), (2, .ref l2), (3, .int l3)]) (st2 := []) hm dL_law_208 rfl ?_
            replace hf := xl_el hf; obtain ⟨v76, e_v76, hf⟩ := hf
            refine mx_S.pu (pc2 := 531) (lv2 := [(3, .int v76), (0, .ref 2000000000), (1, .ref l1), (2, .ref l2)]) (st2 := []) hm dL_law_528 (by rw [← e_v76]; rfl) ?_
            clear e_v76
            refine mx_S.pu (pc2 := 18) (lv2 := [(3, .int v76), (0, .ref 2000000000), (1, .ref l1), (2, .ref l2)]) (st2 := []) hm dL_law_531 rfl ?_
            refine mx_S.ext [(0, .ref 2000000000), (1, .ref l1), (2, .ref l2), (3, .int v76)] (mx_sub_pos [1, 2, 3, 0] rfl (show ([3, 0, 1, 2] : List Nat).Nodup by decide)) ?_
            exact ih l1 l2 v76 u75.2 (c + u73.2.2.1) (s + u73.2.2.2) _ hf
          · rcases mx_if_el hf with ⟨n_3, hf⟩ | ⟨n_3, hf⟩
            · refine sx_tin hm dL_law_33 (by rw [n_3]; decide) (by rw [n_3]; decide) (off := 178) (by rw [n_3]; rfl) (tgt := 211) rfl ?_
              clear n_0 n_1 n_2 n_3
              refine mx_S.pu (pc2 := 212) (lv2 := [(0, .ref 2000000000), (1, .ref l1), (2, .ref l2), (3, .int l3)]) (st2 := [.ref l1]) hm dL_law_211 rfl ?_
              refine mx_S.pu (pc2 := 213) (lv2 := [(0, .ref 2000000000), (1, .ref l1), (2, .ref l2), (3, .int l3)]) (st2 := [.ref 2000000000, .ref l1]) hm dL_law_212 rfl ?_
              refine mx_S.pu (pc2 := 214) (lv2 := [(0, .ref 2000000000), (1, .ref l1), (2, .ref l2), (3, .int l3)]) (st2 := [.int l3, .ref 2000000000, .ref l1]) hm dL_law_213 rfl ?_
              refine sx_ic (v := 1) hm dL_law_214 (by decide) ?_
              replace hf := xl_el hf; obtain ⟨v77, e_v77, hf⟩ := hf
              refine mx_S.pu (pc2 := 216) (lv2 := [(0, .ref 2000000000), (1, .ref l1), (2, .ref l2), (3, .int l3)]) (st2 := [.int v77, .ref 2000000000, .ref l1]) hm dL_law_215 (by rw [← e_v77]; rfl) ?_
              clear e_v77
              replace hf := mx_gd_el hf; obtain ⟨c78, hf⟩ := hf
              replace hf := mx_sv_el hf; obtain ⟨v79, e_v79, hf⟩ := hf
              refine sx_sc hm dL_law_216 (xno_el c78) e_v79 ?_
              clear e_v79
              replace hf := mx_gd_el hf; obtain ⟨c80, hf⟩ := hf
              replace hf := mx_sv_el hf; obtain ⟨u81, e_u81, hf⟩ := hf
              refine sx_cv hm dL_law_217 rs_RL_28 mt_X12_fault [.int v79] [] (b := l1) (ci := 12) rfl rfl rfl c80 (Nat.le_of_ble_eq_true rfl) (Nat.le_of_ble_eq_true rfl) (by omega) (by omega) (f_X12_fault_ok X (by omega) (by omega) nn l1 v79 h e_u81) ?_
              clear e_u81
              show mx_S X F L 0 220 [(0, .ref 2000000000), (1, .ref l1), (2, .ref l2), (3, .int l3)] [.int u81.1] u81.2 c s (some (.int r.1), r.2.1, r.2.2.1, r.2.2.2)
              refine mx_S.pu (pc2 := 221) (lv2 := [(0, .ref 2000000000), (1, .ref l1), (2, .ref l2), (3, .int l3)]) (st2 := []) hm dL_law_220 rfl ?_
              refine mx_S.pu (pc2 := 222) (lv2 := [(0, .ref 2000000000), (1, .ref l1), (2, .ref l2), (3, .int l3)]) (st2 := [.ref l2]) hm dL_law_221 rfl ?_
              refine mx_S.pu (pc2 := 223) (lv2 := [(0, .ref 2000000000), (1, .ref l1), (2, .ref l2), (3, .int l3)]) (st2 := [.ref 2000000000, .ref l2]) hm dL_law_222 rfl ?_
              refine mx_S.pu (pc2 := 224) (lv2 := [(0, .ref 2000000000), (1, .ref l1), (2, .ref l2), (3, .int l3)]) (st2 := [.int l3, .ref 2000000000, .ref l2]) hm dL_law_223 rfl ?_
              refine sx_ic (v := 1) hm dL_law_224 (by decide) ?_
              replace hf := xl_el hf; obtain ⟨v82, e_v82, hf⟩ := hf
              refine mx_S.pu (pc2 := 226) (lv2 := [(0, .ref 2000000000), (1, .ref l1), (2, .ref l2), (3, .int l3)]) (st2 := [.int v82, .ref 2000000000, .ref l2]) hm dL_law_225 (by rw [← e_v82]; rfl) ?_
              clear e_v82
              replace hf := mx_gd_el hf; obtain ⟨c83, hf⟩ := hf
              replace hf := mx_sv_el hf; obtain ⟨v84, e_v84, hf⟩ := hf
              refine sx_sc hm dL_law_226 (xno_el c83) e_v84 ?_
              clear e_v84
              replace hf := mx_gd_el hf; obtain ⟨c85, hf⟩ := hf
              replace hf := mx_sv_el hf; obtain ⟨u86, e_u86, hf⟩ := hf
              refine sx_cv hm dL_law_227 rs_RL_32 mt_X13_fault [.int v84] [] (b := l2) (ci := 13) rfl rfl rfl c85 (Nat.le_of_ble_eq_true rfl) (Nat.le_of_ble_eq_true rfl) (by omega) (by omega) (f_X13_fault_ok X (by omega) (by omega) nn l2 v84 u81.2 e_u86) ?_
              clear e_u86
              show mx_S X F L 0 230 [(0, .ref 2000000000), (1, .ref l1), (2, .ref l2), (3, .int l3)] [.int u86.1] u86.2 c s (some (.int r.1), r.2.1, r.2.2.1, r.2.2.2)
              refine mx_S.pu (pc2 := 231) (lv2 := [(0, .ref 2000000000), (1, .ref l1), (2, .ref l2), (3, .int l3)]) (st2 := []) hm dL_law_230 rfl ?_
              refine mx_S.pu (pc2 := 528) (lv2 := [(0, .ref 2000000000), (1, .ref l1), (2, .ref l2), (3, .int l3)]) (st2 := []) hm dL_law_231 rfl ?_
              replace hf := xl_el hf; obtain ⟨v87, e_v87, hf⟩ := hf
              refine mx_S.pu (pc2 := 531) (lv2 := [(3, .int v87), (0, .ref 2000000000), (1, .ref l1), (2, .ref l2)]) (st2 := []) hm dL_law_528 (by rw [← e_v87]; rfl) ?_
              clear e_v87
              refine mx_S.pu (pc2 := 18) (lv2 := [(3, .int v87), (0, .ref 2000000000), (1, .ref l1), (2, .ref l2)]) (st2 := []) hm dL_law_531 rfl ?_
              refine mx_S.ext [(0, .ref 2000000000), (1, .ref l1), (2, .ref l2), (3, .int v87)] (mx_sub_pos [1, 2, 3, 0] rfl (show ([3, 0, 1, 2] : List Nat).Nodup by decide)) ?_
              exact ih l1 l2 v87 u86.2 c s _ hf
            · rcases mx_if_el hf with ⟨n_4, hf⟩ | ⟨n_4, hf⟩
              · refine sx_tin hm dL_law_33 (by rw [n_4]; decide) (by rw [n_4]; decide) (off := 201) (by rw [n_4]; rfl) (tgt := 234) rfl ?_
                clear n_0 n_1 n_2 n_3 n_4
                refine mx_S.pu (pc2 := 235) (lv2 := [(0, .ref 2000000000), (1, .ref l1), (2, .ref l2), (3, .int l3)]) (st2 := [.ref l1]) hm dL_law_234 rfl ?_
                refine mx_S.pu (pc2 := 236) (lv2 := [(0, .ref 2000000000), (1, .ref l1), (2, .ref l2), (3, .int l3)]) (st2 := [.ref 2000000000, .ref l1]) hm dL_law_235 rfl ?_
                refine mx_S.pu (pc2 := 237) (lv2 := [(0, .ref 2000000000), (1, .ref l1), (2, .ref l2), (3, .int l3)]) (st2 := [.int l3, .ref 2000000000, .ref l1]) hm dL_law_236 rfl ?_
                refine sx_ic (v := 1) hm dL_law_237 (by decide) ?_
                replace hf := xl_el hf; obtain ⟨v88, e_v88, hf⟩ := hf
                refine mx_S.pu (pc2 := 239) (lv2 := [(0, .ref 2000000000), (1, .ref l1), (2, .ref l2), (3, .int l3)]) (st2 := [.int v88, .ref 2000000000, .ref l1]) hm dL_law_238 (by rw [← e_v88]; rfl) ?_
                clear e_v88
                replace hf := mx_gd_el hf; obtain ⟨c89, hf⟩ := hf
                replace hf := mx_sv_el hf; obtain ⟨v90, e_v90, hf⟩ := hf
                refine sx_sc hm dL_law_239 (xno_el c89) e_v90 ?_
                clear e_v90
                refine mx_S.pu (pc2 := 241) (lv2 := [(0, .ref 2000000000), (1, .ref l1), (2, .ref l2), (3, .int l3)]) (st2 := [.ref 2000000000, .int v90, .ref l1]) hm dL_law_240 rfl ?_
                refine mx_S.pu (pc2 := 242) (lv2 := [(0, .ref 2000000000), (1, .ref l1), (2, .ref l2), (3, .int l3)]) (st2 := [.int l3, .ref 2000000000, .int v90, .ref l1]) hm dL_law_241 rfl ?_
                refine sx_ic (v := 2) hm dL_law_242 (by decide) ?_
                replace hf := xl_el hf; obtain ⟨v91, e_v91, hf⟩ := hf
                refine mx_S.pu (pc2 := 244) (lv2 := [(0, .ref 2000000000), (1, .ref l1), (2, .ref l2), (3, .int l3)]) (st2 := [.int v91, .ref 2000000000, .int v90, .ref l1]) hm dL_law_243 (by rw [← e_v91]; rfl) ?_
                clear e_v91
                replace hf := mx_gd_el hf; obtain ⟨c92, hf⟩ := hf
                replace hf := mx_sv_el hf; obtain ⟨v93, e_v93, hf⟩ := hf
                refine sx_sc hm dL_law_244 (xno_el c92) e_v93 ?_
                clear e_v93
                replace hf := mx_gd_el hf; obtain ⟨c94, hf⟩ := hf
                replace hf := mx_sv_el hf; obtain ⟨u95, e_u95, hf⟩ := hf
                refine sx_cv hm dL_law_245 rs_RL_33 mt_X12_image [.int v90, .int v93] [] (b := l1) (ci := 12) rfl rfl rfl c94 (Nat.le_of_ble_eq_true rfl) (Nat.le_of_ble_eq_true rfl) (by omega) (by omega) (f_X12_image_ok X (by omega) (by omega) nn l1 v90 v93 h e_u95) ?_
                clear e_u95
                show mx_S X F L 0 248 [(0, .ref 2000000000), (1, .ref l1), (2, .ref l2), (3, .int l3)] [.int u95.1] u95.2 c s (some (.int r.1), r.2.1, r.2.2.1, r.2.2.2)
                refine mx_S.pu (pc2 := 249) (lv2 := [(0, .ref 2000000000), (1, .ref l1), (2, .ref l2), (3, .int l3)]) (st2 := []) hm dL_law_248 rfl ?_
                refine mx_S.pu (pc2 := 250) (lv2 := [(0, .ref 2000000000), (1, .ref l1), (2, .ref l2), (3, .int l3)]) (st2 := [.ref l2]) hm dL_law_249 rfl ?_
                refine mx_S.pu (pc2 := 251) (lv2 := [(0, .ref 2000000000), (1, .ref l1), (2, .ref l2), (3, .int l3)]) (st2 := [.ref 2000000000, .ref l2]) hm dL_law_250 rfl ?_
                refine mx_S.pu (pc2 := 252) (lv2 := [(0, .ref 2000000000), (1, .ref l1), (2, .ref l2), (3, .int l3)]) (st2 := [.int l3, .ref 2000000000, .ref l2]) hm dL_law_251 rfl ?_
                refine sx_ic (v := 1) hm dL_law_252 (by decide) ?_
                replace hf := xl_el hf; obtain ⟨v96, e_v96, hf⟩ := hf
                refine mx_S.pu (pc2 := 254) (lv2 := [(0, .ref 2000000000), (1, .ref l1), (2, .ref l2), (3, .int l3)]) (st2 := [.int v96, .ref 2000000000, .ref l2]) hm dL_law_253 (by rw [← e_v96]; rfl) ?_
                clear e_v96
                replace hf := mx_gd_el hf; obtain ⟨c97, hf⟩ := hf
                replace hf := mx_sv_el hf; obtain ⟨v98, e_v98, hf⟩ := hf
                refine sx_sc hm dL_law_254 (xno_el c97) e_v98 ?_
                clear e_v98
                refine mx_S.pu (pc2 := 256) (lv2 := [(0, .ref 2000000000), (1, .ref l1), (2, .ref l2), (3, .int l3)]) (st2 := [.ref 2000000000, .int v98, .ref l2]) hm dL_law_255 rfl ?_
                refine mx_S.pu (pc2 := 257) (lv2 := [(0, .ref 2000000000), (1, .ref l1), (2, .ref l2), (3, .int l3)]) (st2 := [.int l3, .ref 2000000000, .int v98, .ref l2]) hm dL_law_256 rfl ?_
                refine sx_ic (v := 2) hm dL_law_257 (by decide) ?_
                replace hf := xl_el hf; obtain ⟨v99, e_v99, hf⟩ := hf
                refine mx_S.pu (pc2 := 259) (lv2 := [(0, .ref 2000000000), (1, .ref l1), (2, .ref l2), (3, .int l3)]) (st2 := [.int v99, .ref 2000000000, .int v98, .ref l2]) hm dL_law_258 (by rw [← e_v99]; rfl) ?_
                clear e_v99
                replace hf := mx_gd_el hf; obtain ⟨c100, hf⟩ := hf
                replace hf := mx_sv_el hf; obtain ⟨v101, e_v101, hf⟩ := hf
                refine sx_sc hm dL_law_259 (xno_el c100) e_v101 ?_
                clear e_v101
                replace hf := mx_gd_el hf; obtain ⟨c102, hf⟩ := hf
                replace hf := mx_sv_el hf; obtain ⟨u103, e_u103, hf⟩ := hf
                refine sx_cv hm dL_law_260 rs_RL_37 mt_X13_image [.int v98, .int v101] [] (b := l2) (ci := 13) rfl rfl rfl c102 (Nat.le_of_ble_eq_true rfl) (Nat.le_of_ble_eq_true rfl) (by omega) (by omega) (f_X13_image_ok X (by omega) (by omega) nn l2 v98 v101 u95.2 e_u103) ?_
                clear e_u103
                show mx_S X F L 0 263 [(0, .ref 2000000000), (1, .ref l1), (2, .ref l2), (3, .int l3)] [.int u103.1] u103.2 c s (some (.int r.1), r.2.1, r.2.2.1, r.2.2.2)
                refine mx_S.pu (pc2 := 264) (lv2 := [(0, .ref 2000000000), (1, .ref l1), (2, .ref l2), (3, .int l3)]) (st2 := []) hm dL_law_263 rfl ?_
                refine mx_S.pu (pc2 := 528) (lv2 := [(0, .ref 2000000000), (1, .ref l1), (2, .ref l2), (3, .int l3)]) (st2 := []) hm dL_law_264 rfl ?_
                replace hf := xl_el hf; obtain ⟨v104, e_v104, hf⟩ := hf
                refine mx_S.pu (pc2 := 531) (lv2 := [(3, .int v104), (0, .ref 2000000000), (1, .ref l1), (2, .ref l2)]) (st2 := []) hm dL_law_528 (by rw [← e_v104]; rfl) ?_
                clear e_v104
                refine mx_S.pu (pc2 := 18) (lv2 := [(3, .int v104), (0, .ref 2000000000), (1, .ref l1), (2, .ref l2)]) (st2 := []) hm dL_law_531 rfl ?_
                refine mx_S.ext [(0, .ref 2000000000), (1, .ref l1), (2, .ref l2), (3, .int v104)] (mx_sub_pos [1, 2, 3, 0] rfl (show ([3, 0, 1, 2] : List Nat).Nodup by decide)) ?_
                exact ih l1 l2 v104 u103.2 c s _ hf
              · rcases mx_if_el hf with ⟨n_5, hf⟩ | ⟨n_5, hf⟩
                · refine sx_tin hm dL_law_33 (by rw [n_5]; decide) (by rw [n_5]; decide) (off := 234) (by rw [n_5]; rfl) (tgt := 267) rfl ?_
                  clear n_0 n_1 n_2 n_3 n_4 n_5
                  refine mx_S.pu (pc2 := 268) (lv2 := [(0, .ref 2000000000), (1, .ref l1), (2, .ref l2), (3, .int l3)]) (st2 := [.ref l1]) hm dL_law_267 rfl ?_
                  replace hf := mx_gd_el hf; obtain ⟨c105, hf⟩ := hf
                  replace hf := mx_sv_el hf; obtain ⟨u106, e_u106, hf⟩ := hf
                  refine sx_cvA hm dL_law_268 rs_RL_38 mt_X12_load [] [] (b := l1) (ci := 12) rfl rfl rfl c105 (Nat.le_of_ble_eq_true rfl) (Nat.le_of_ble_eq_true rfl) (by omega) (by omega) (f_X12_load_ok X (by omega) (by omega) nn l1 h e_u106) ?_
                  clear e_u106
                  show mx_S X F L 0 271 [(0, .ref 2000000000), (1, .ref l1), (2, .ref l2), (3, .int l3)] [.int u106.1] u106.2.1 (c + u106.2.2.1) (s + u106.2.2.2) (some (.int r.1), r.2.1, r.2.2.1, r.2.2.2)
                  refine mx_S.pu (pc2 := 272) (lv2 := [(0, .ref 2000000000), (1, .ref l1), (2, .ref l2), (3, .int l3)]) (st2 := []) hm dL_law_271 rfl ?_
                  refine mx_S.pu (pc2 := 273) (lv2 := [(0, .ref 2000000000), (1, .ref l1), (2, .ref l2), (3, .int l3)]) (st2 := [.ref l2]) hm dL_law_272 rfl ?_
                  replace hf := mx_gd_el hf; obtain ⟨c107, hf⟩ := hf
                  replace hf := mx_sv_el hf; obtain ⟨u108, e_u108, hf⟩ := hf
                  refine sx_cv hm dL_law_273 rs_RL_41 mt_X13_load [] [] (b := l2) (ci := 13) rfl rfl rfl c107 (Nat.le_of_ble_eq_true rfl) (Nat.le_of_ble_eq_true rfl) (by omega) (by omega) (f_X13_load_ok X (by omega) (by omega) nn l2 u106.2.1 e_u108) ?_
                  clear e_u108
                  show mx_S X F L 0 276 [(0, .ref 2000000000), (1, .ref l1), (2, .ref l2), (3, .int l3)] [.int u108.1] u108.2 (c + u106.2.2.1) (s + u106.2.2.2) (some (.int r.1), r.2.1, r.2.2.1, r.2.2.2)
                  refine mx_S.pu (pc2 := 277) (lv2 := [(0, .ref 2000000000), (1, .ref l1), (2, .ref l2), (3, .int l3)]) (st2 := []) hm dL_law_276 rfl ?_
                  refine mx_S.pu (pc2 := 528) (lv2 := [(0, .ref 2000000000), (1, .ref l1), (2, .ref l2), (3, .int l3)]) (st2 := []) hm dL_law_277 rfl ?_
                  replace hf := xl_el hf; obtain ⟨v109, e_v109, hf⟩ := hf
                  refine mx_S.pu (pc2 := 531) (lv2 := [(3, .int v109), (0, .ref 2000000000), (1, .ref l1), (2, .ref l2)]) (st2 := []) hm dL_law_528 (by rw [← e_v109]; rfl) ?_
                  clear e_v109
                  refine mx_S.pu (pc2 := 18) (lv2 := [(3, .int v109), (0, .ref 2000000000), (1, .ref l1), (2, .ref l2)]) (st2 := []) hm dL_law_531 rfl ?_
                  refine mx_S.ext [(0, .ref 2000000000), (1, .ref l1), (2, .ref l2), (3, .int v109)] (mx_sub_pos [1, 2, 3, 0] rfl (show ([3, 0, 1, 2] : List Nat).Nodup by decide)) ?_
                  exact ih l1 l2 v109 u108.2 (c + u106.2.2.1) (s + u106.2.2.2) _ hf
                · rcases mx_if_el hf with ⟨n_6, hf⟩ | ⟨n_6, hf⟩
                  · refine sx_tin hm dL_law_33 (by rw [n_6]; decide) (by rw [n_6]; decide) (off := 247) (by rw [n_6]; rfl) (tgt := 280) rfl ?_
                    clear n_0 n_1 n_2 n_3 n_4 n_5 n_6
                    refine mx_S.pu (pc2 := 281) (lv2 := [(0, .ref 2000000000), (1, .ref l1), (2, .ref l2), (3, .int l3)]) (st2 := [.ref l1]) hm dL_law_280 rfl ?_
                    refine mx_S.pu (pc2 := 282) (lv2 := [(0, .ref 2000000000), (1, .ref l1), (2, .ref l2), (3, .int l3)]) (st2 := [.ref 2000000000, .ref l1]) hm dL_law_281 rfl ?_
                    refine mx_S.pu (pc2 := 283) (lv2 := [(0, .ref 2000000000), (1, .ref l1), (2, .ref l2), (3, .int l3)]) (st2 := [.int l3, .ref 2000000000, .ref l1]) hm dL_law_282 rfl ?_
                    refine sx_ic (v := 1) hm dL_law_283 (by decide) ?_
                    replace hf := xl_el hf; obtain ⟨v110, e_v110, hf⟩ := hf
                    refine mx_S.pu (pc2 := 285) (lv2 := [(0, .ref 2000000000), (1, .ref l1), (2, .ref l2), (3, .int l3)]) (st2 := [.int v110, .ref 2000000000, .ref l1]) hm dL_law_284 (by rw [← e_v110]; rfl) ?_
                    clear e_v110
                    replace hf := mx_gd_el hf; obtain ⟨c111, hf⟩ := hf
                    replace hf := mx_sv_el hf; obtain ⟨v112, e_v112, hf⟩ := hf
                    refine sx_sc hm dL_law_285 (xno_el c111) e_v112 ?_
                    clear e_v112
                    replace hf := mx_gd_el hf; obtain ⟨c113, hf⟩ := hf
                    replace hf := mx_sv_el hf; obtain ⟨u114, e_u114, hf⟩ := hf
                    refine sx_cvA hm dL_law_286 rs_RL_42 mt_X12_keep [.int v112] [] (b := l1) (ci := 12) rfl rfl rfl c113 (Nat.le_of_ble_eq_true rfl) (Nat.le_of_ble_eq_true rfl) (by omega) (by omega) (f_X12_keep_ok X (by omega) (by omega) nn l1 v112 h e_u114) ?_
                    clear e_u114
                    show mx_S X F L 0 289 [(0, .ref 2000000000), (1, .ref l1), (2, .ref l2), (3, .int l3)] [.int u114.1] u114.2.1 (c + u114.2.2.1) (s + u114.2.2.2) (some (.int r.1), r.2.1, r.2.2.1, r.2.2.2)
                    refine mx_S.pu (pc2 := 290) (lv2 := [(0, .ref 2000000000), (1, .ref l1), (2, .ref l2), (3, .int l3)]) (st2 := []) hm dL_law_289 rfl ?_
                    refine mx_S.pu (pc2 := 291) (lv2 := [(0, .ref 2000000000), (1, .ref l1), (2, .ref l2), (3, .int l3)]) (st2 := [.ref l2]) hm dL_law_290 rfl ?_
                    refine mx_S.pu (pc2 := 292) (lv2 := [(0, .ref 2000000000), (1, .ref l1), (2, .ref l2), (3, .int l3)]) (st2 := [.ref 2000000000, .ref l2]) hm dL_law_291 rfl ?_
                    refine mx_S.pu (pc2 := 293) (lv2 := [(0, .ref 2000000000), (1, .ref l1), (2, .ref l2), (3, .int l3)]) (st2 := [.int l3, .ref 2000000000, .ref l2]) hm dL_law_292 rfl ?_
                    refine sx_ic (v := 1) hm dL_law_293 (by decide) ?_
                    replace hf := xl_el hf; obtain ⟨v115, e_v115, hf⟩ := hf
                    refine mx_S.pu (pc2 := 295) (lv2 := [(0, .ref 2000000000), (1, .ref l1), (2, .ref l2), (3, .int l3)]) (st2 := [.int v115, .ref 2000000000, .ref l2]) hm dL_law_294 (by rw [← e_v115]; rfl) ?_
                    clear e_v115
                    replace hf := mx_gd_el hf; obtain ⟨c116, hf⟩ := hf
                    replace hf := mx_sv_el hf; obtain ⟨v117, e_v117, hf⟩ := hf
                    refine sx_sc hm dL_law_295 (xno_el c116) e_v117 ?_
                    clear e_v117
                    replace hf := mx_gd_el hf; obtain ⟨c118, hf⟩ := hf
                    replace hf := mx_sv_el hf; obtain ⟨u119, e_u119, hf⟩ := hf
                    refine sx_cv hm dL_law_296 rs_RL_45 mt_X13_keep [.int v117] [] (b := l2) (ci := 13) rfl rfl rfl c118 (Nat.le_of_ble_eq_true rfl) (Nat.le_of_ble_eq_true rfl) (by omega) (by omega) (f_X13_keep_ok X (by omega) (by omega) nn l2 v117 u114.2.1 e_u119) ?_
                    clear e_u119
                    show mx_S X F L 0 299 [(0, .ref 2000000000), (1, .ref l1), (2, .ref l2), (3, .int l3)] [.int u119.1] u119.2 (c + u114.2.2.1) (s + u114.2.2.2) (some (.int r.1), r.2.1, r.2.2.1, r.2.2.2)
                    refine mx_S.pu (pc2 := 300) (lv2 := [(0, .ref 2000000000), (1, .ref l1), (2, .ref l2), (3, .int l3)]) (st2 := []) hm dL_law_299 rfl ?_
                    refine mx_S.pu (pc2 := 528) (lv2 := [(0, .ref 2000000000), (1, .ref l1), (2, .ref l2), (3, .int l3)]) (st2 := []) hm dL_law_300 rfl ?_
                    replace hf := xl_el hf; obtain ⟨v120, e_v120, hf⟩ := hf
                    refine mx_S.pu (pc2 := 531) (lv2 := [(3, .int v120), (0, .ref 2000000000), (1, .ref l1), (2, .ref l2)]) (st2 := []) hm dL_law_528 (by rw [← e_v120]; rfl) ?_
                    clear e_v120
                    refine mx_S.pu (pc2 := 18) (lv2 := [(3, .int v120), (0, .ref 2000000000), (1, .ref l1), (2, .ref l2)]) (st2 := []) hm dL_law_531 rfl ?_
                    refine mx_S.ext [(0, .ref 2000000000), (1, .ref l1), (2, .ref l2), (3, .int v120)] (mx_sub_pos [1, 2, 3, 0] rfl (show ([3, 0, 1, 2] : List Nat).Nodup by decide)) ?_
                    exact ih l1 l2 v120 u119.2 (c + u114.2.2.1) (s + u114.2.2.2) _ hf
                  · rcases mx_if_el hf with ⟨n_7, hf⟩ | ⟨n_7, hf⟩
                    · refine sx_tin hm dL_law_33 (by rw [n_7]; decide) (by rw [n_7]; decide) (off := 270) (by rw [n_7]; rfl) (tgt := 303) rfl ?_
                      clear n_0 n_1 n_2 n_3 n_4 n_5 n_6 n_7
                      refine mx_S.pu (pc2 := 304) (lv2 := [(0, .ref 2000000000), (1, .ref l1), (2, .ref l2), (3, .int l3)]) (st2 := [.ref l1]) hm dL_law_303 rfl ?_
                      refine mx_S.pu (pc2 := 305) (lv2 := [(0, .ref 2000000000), (1, .ref l1), (2, .ref l2), (3, .int l3)]) (st2 := [.ref 2000000000, .ref l1]) hm dL_law_304 rfl ?_
                      refine mx_S.pu (pc2 := 306) (lv2 := [(0, .ref 2000000000), (1, .ref l1), (2, .ref l2), (3, .int l3)]) (st2 := [.int l3, .ref 2000000000, .ref l1]) hm dL_law_305 rfl ?_
                      refine sx_ic (v := 1) hm dL_law_306 (by decide) ?_
                      replace hf := xl_el hf; obtain ⟨v121, e_v121, hf⟩ := hf
                      refine mx_S.pu (pc2 := 308) (lv2 := [(0, .ref 2000000000), (1, .ref l1), (2, .ref l2), (3, .int l3)]) (st2 := [.int v121, .ref 2000000000, .ref l1]) hm dL_law_307 (by rw [← e_v121]; rfl) ?_
                      clear e_v121
                      replace hf := mx_gd_el hf; obtain ⟨c122, hf⟩ := hf
                      replace hf := mx_sv_el hf; obtain ⟨v123, e_v123, hf⟩ := hf
                      refine sx_sc hm dL_law_308 (xno_el c122) e_v123 ?_
                      clear e_v123
                      refine mx_S.pu (pc2 := 310) (lv2 := [(0, .ref 2000000000), (1, .ref l1), (2, .ref l2), (3, .int l3)]) (st2 := [.ref 2000000000, .int v123, .ref l1]) hm dL_law_309 rfl ?_
                      refine mx_S.pu (pc2 := 311) (lv2 := [(0, .ref 2000000000), (1, .ref l1), (2, .ref l2), (3, .int l3)]) (st2 := [.int l3, .ref 2000000000, .int v123, .ref l1]) hm dL_law_310 rfl ?_
                      refine sx_ic (v := 2) hm dL_law_311 (by decide) ?_
                      replace hf := xl_el hf; obtain ⟨v124, e_v124, hf⟩ := hf
                      refine mx_S.pu (pc2 := 313) (lv2 := [(0, .ref 2000000000), (1, .ref l1), (2, .ref l2), (3, .int l3)]) (st2 := [.int v124, .ref 2000000000, .int v123, .ref l1]) hm dL_law_312 (by rw [← e_v124]; rfl) ?_
                      clear e_v124
                      replace hf := mx_gd_el hf; obtain ⟨c125, hf⟩ := hf
                      replace hf := mx_sv_el hf; obtain ⟨v126, e_v126, hf⟩ := hf
                      refine sx_sc hm dL_law_313 (xno_el c125) e_v126 ?_
                      clear e_v126
                      refine mx_S.pu (pc2 := 315) (lv2 := [(0, .ref 2000000000), (1, .ref l1), (2, .ref l2), (3, .int l3)]) (st2 := [.ref 2000000000, .int v126, .int v123, .ref l1]) hm dL_law_314 rfl ?_
                      refine mx_S.pu (pc2 := 316) (lv2 := [(0, .ref 2000000000), (1, .ref l1), (2, .ref l2), (3, .int l3)]) (st2 := [.int l3, .ref 2000000000, .int v126, .int v123, .ref l1]) hm dL_law_315 rfl ?_
                      refine sx_ic (v := 3) hm dL_law_316 (by decide) ?_
                      replace hf := xl_el hf; obtain ⟨v127, e_v127, hf⟩ := hf
                      refine mx_S.pu (pc2 := 318) (lv2 := [(0, .ref 2000000000), (1, .ref l1), (2, .ref l2), (3, .int l3)]) (st2 := [.int v127, .ref 2000000000, .int v126, .int v123, .ref l1]) hm dL_law_317 (by rw [← e_v127]; rfl) ?_
                      clear e_v127
                      replace hf := mx_gd_el hf; obtain ⟨c128, hf⟩ := hf
                      replace hf := mx_sv_el hf; obtain ⟨v129, e_v129, hf⟩ := hf
                      refine sx_sc hm dL_law_318 (xno_el c128) e_v129 ?_
                      clear e_v129
                      replace hf := mx_gd_el hf; obtain ⟨c130, hf⟩ := hf
                      replace hf := mx_sv_el hf; obtain ⟨u131, e_u131, hf⟩ := hf
                      refine sx_cv hm dL_law_319 rs_RL_46 mt_X12_patch [.int v123, .int v126, .int v129] [] (b := l1) (ci := 12) rfl rfl rfl c130 (Nat.le_of_ble_eq_true rfl) (Nat.le_of_ble_eq_true rfl) (by omega) (by omega) (f_X12_patch_ok X (by omega) (by omega) nn l1 v123 v126 v129 h e_u131) ?_
                      clear e_u131
                      show mx_S X F L 0 322 [(0, .ref 2000000000), (1, .ref l1), (2, .ref l2), (3, .int l3)] [.int u131.1] u131.2 c s (some (.int r.1), r.2.1, r.2.2.1, r.2.2.2)
                      refine mx_S.pu (pc2 := 323) (lv2 := [(0, .ref 2000000000), (1, .ref l1), (2, .ref l2), (3, .int l3)]) (st2 := []) hm dL_law_322 rfl ?_
                      exact j_L_law_323_ok X hF hL nn ih l1 l2 l3 u131.2 c s hf
                    · rcases mx_if_el hf with ⟨n_8, hf⟩ | ⟨n_8, hf⟩
                      · refine sx_tin hm dL_law_33 (by rw [n_8]; decide) (by rw [n_8]; decide) (off := 313) (by rw [n_8]; rfl) (tgt := 346) rfl ?_
                        clear n_0 n_1 n_2 n_3 n_4 n_5 n_6 n_7 n_8
                        refine mx_S.pu (pc2 := 347) (lv2 := [(0, .ref 2000000000), (1, .ref l1), (2, .ref l2), (3, .int l3)]) (st2 := [.ref l1]) hm dL_law_346 rfl ?_
                        replace hf := mx_gd_el hf; obtain ⟨c132, hf⟩ := hf
                        replace hf := mx_sv_el hf; obtain ⟨u133, e_u133, hf⟩ := hf
                        refine sx_cv hm dL_law_347 rs_RL_51 mt_X12_clear [] [] (b := l1) (ci := 12) rfl rfl rfl c132 (Nat.le_of_ble_eq_true rfl) (Nat.le_of_ble_eq_true rfl) (by omega) (by omega) (f_X12_clear_ok X (by omega) (by omega) nn l1 h e_u133) ?_
                        clear e_u133
                        show mx_S X F L 0 350 [(0, .ref 2000000000), (1, .ref l1), (2, .ref l2), (3, .int l3)] [] u133 c s (some (.int r.1), r.2.1, r.2.2.1, r.2.2.2)
                        refine mx_S.pu (pc2 := 351) (lv2 := [(0, .ref 2000000000), (1, .ref l1), (2, .ref l2), (3, .int l3)]) (st2 := [.ref l2]) hm dL_law_350 rfl ?_
                        replace hf := mx_gd_el hf; obtain ⟨c134, hf⟩ := hf
                        replace hf := mx_sv_el hf; obtain ⟨u135, e_u135, hf⟩ := hf
                        refine sx_cv hm dL_law_351 rs_RL_54 mt_X13_clear [] [] (b := l2) (ci := 13) rfl rfl rfl c134 (Nat.le_of_ble_eq_true rfl) (Nat.le_of_ble_eq_true rfl) (by omega) (by omega) (f_X13_clear_ok X (by omega) (by omega) nn l2 u133 e_u135) ?_
                        clear e_u135
                        show mx_S X F L 0 354 [(0, .ref 2000000000), (1, .ref l1), (2, .ref l2), (3, .int l3)] [] u135 c s (some (.int r.1), r.2.1, r.2.2.1, r.2.2.2)
                        refine mx_S.pu (pc2 := 528) (lv2 := [(0, .ref 2000000000), (1, .ref l1), (2, .ref l2), (3, .int l3)]) (st2 := []) hm dL_law_354 rfl ?_
                        replace hf := xl_el hf; obtain ⟨v136, e_v136, hf⟩ := hf
                        refine mx_S.pu (pc2 := 531) (lv2 := [(3, .int v136), (0, .ref 2000000000), (1, .ref l1), (2, .ref l2)]) (st2 := []) hm dL_law_528 (by rw [← e_v136]; rfl) ?_
                        clear e_v136
                        refine mx_S.pu (pc2 := 18) (lv2 := [(3, .int v136), (0, .ref 2000000000), (1, .ref l1), (2, .ref l2)]) (st2 := []) hm dL_law_531 rfl ?_
                        refine mx_S.ext [(0, .ref 2000000000), (1, .ref l1), (2, .ref l2), (3, .int v136)] (mx_sub_pos [1, 2, 3, 0] rfl (show ([3, 0, 1, 2] : List Nat).Nodup by decide)) ?_
                        exact ih l1 l2 v136 u135 c s _ hf
                      · rcases mx_if_el hf with ⟨n_9, hf⟩ | ⟨n_9, hf⟩
                        · refine sx_tin hm dL_law_33 (by rw [n_9]; decide) (by rw [n_9]; decide) (off := 324) (by rw [n_9]; rfl) (tgt := 357) rfl ?_
                          clear n_0 n_1 n_2 n_3 n_4 n_5 n_6 n_7 n_8 n_9
                          refine mx_S.pu (pc2 := 358) (lv2 := [(0, .ref 2000000000), (1, .ref l1), (2, .ref l2), (3, .int l3)]) (st2 := [.ref l1]) hm dL_law_357 rfl ?_
                          replace hf := mx_gd_el hf; obtain ⟨c137, hf⟩ := hf
                          replace hf := mx_sv_el hf; obtain ⟨u138, e_u138, hf⟩ := hf
                          refine sx_cv hm dL_law_358 rs_RL_55 mt_X12_verify [] [] (b := l1) (ci := 12) rfl rfl rfl c137 (Nat.le_of_ble_eq_true rfl) (Nat.le_of_ble_eq_true rfl) (by omega) (by omega) (f_X12_verify_ok X (by omega) (by omega) nn l1 h e_u138) ?_
                          clear e_u138
                          show mx_S X F L 0 361 [(0, .ref 2000000000), (1, .ref l1), (2, .ref l2), (3, .int l3)] [.int u138.1] u138.2 c s (some (.int r.1), r.2.1, r.2.2.1, r.2.2.2)
                          refine mx_S.pu (pc2 := 362) (lv2 := [(0, .ref 2000000000), (1, .ref l1), (2, .ref l2), (3, .int l3)]) (st2 := []) hm dL_law_361 rfl ?_
                          refine mx_S.pu (pc2 := 363) (lv2 := [(0, .ref 2000000000), (1, .ref l1), (2, .ref l2), (3, .int l3)]) (st2 := [.ref l2]) hm dL_law_362 rfl ?_
                          replace hf := mx_gd_el hf; obtain ⟨c139, hf⟩ := hf
                          replace hf := mx_sv_el hf; obtain ⟨u140, e_u140, hf⟩ := hf
                          refine sx_cv hm dL_law_363 rs_RL_58 mt_X13_verify [] [] (b := l2) (ci := 13) rfl rfl rfl c139 (Nat.le_of_ble_eq_true rfl) (Nat.le_of_ble_eq_true rfl) (by omega) (by omega) (f_X13_verify_ok X (by omega) (by omega) nn l2 u138.2 e_u140) ?_
                          clear e_u140
                          show mx_S X F L 0 366 [(0, .ref 2000000000), (1, .ref l1), (2, .ref l2), (3, .int l3)] [.int u140.1] u140.2 c s (some (.int r.1), r.2.1, r.2.2.1, r.2.2.2)
                          refine mx_S.pu (pc2 := 367) (lv2 := [(0, .ref 2000000000), (1, .ref l1), (2, .ref l2), (3, .int l3)]) (st2 := []) hm dL_law_366 rfl ?_
                          refine mx_S.pu (pc2 := 528) (lv2 := [(0, .ref 2000000000), (1, .ref l1), (2, .ref l2), (3, .int l3)]) (st2 := []) hm dL_law_367 rfl ?_
                          replace hf := xl_el hf; obtain ⟨v141, e_v141, hf⟩ := hf
                          refine mx_S.pu (pc2 := 531) (lv2 := [(3, .int v141), (0, .ref 2000000000), (1, .ref l1), (2, .ref l2)]) (st2 := []) hm dL_law_528 (by rw [← e_v141]; rfl) ?_
                          clear e_v141
                          refine mx_S.pu (pc2 := 18) (lv2 := [(3, .int v141), (0, .ref 2000000000), (1, .ref l1), (2, .ref l2)]) (st2 := []) hm dL_law_531 rfl ?_
                          refine mx_S.ext [(0, .ref 2000000000), (1, .ref l1), (2, .ref l2), (3, .int v141)] (mx_sub_pos [1, 2, 3, 0] rfl (show ([3, 0, 1, 2] : List Nat).Nodup by decide)) ?_
                          exact ih l1 l2 v141 u140.2 c s _ hf
                        · rcases mx_if_el hf with ⟨n_10, hf⟩ | ⟨n_10, hf⟩
                          · refine sx_tin hm dL_law_33 (by rw [n_10]; decide) (by rw [n_10]; decide) (off := 337) (by rw [n_10]; rfl) (tgt := 370) rfl ?_
                            clear n_0 n_1 n_2 n_3 n_4 n_5 n_6 n_7 n_8 n_9 n_10
                            refine mx_S.pu (pc2 := 371) (lv2 := [(0, .ref 2000000000), (1, .ref l1), (2, .ref l2), (3, .int l3)]) (st2 := [.ref l1]) hm dL_law_370 rfl ?_
                            refine mx_S.pu (pc2 := 372) (lv2 := [(0, .ref 2000000000), (1, .ref l1), (2, .ref l2), (3, .int l3)]) (st2 := [.ref 2000000000, .ref l1]) hm dL_law_371 rfl ?_
                            refine mx_S.pu (pc2 := 373) (lv2 := [(0, .ref 2000000000), (1, .ref l1), (2, .ref l2), (3, .int l3)]) (st2 := [.int l3, .ref 2000000000, .ref l1]) hm dL_law_372 rfl ?_
                            refine sx_ic (v := 1) hm dL_law_373 (by decide) ?_
                            replace hf := xl_el hf; obtain ⟨v142, e_v142, hf⟩ := hf
                            refine mx_S.pu (pc2 := 375) (lv2 := [(0, .ref 2000000000), (1, .ref l1), (2, .ref l2), (3, .int l3)]) (st2 := [.int v142, .ref 2000000000, .ref l1]) hm dL_law_374 (by rw [← e_v142]; rfl) ?_
                            clear e_v142
                            replace hf := mx_gd_el hf; obtain ⟨c143, hf⟩ := hf
                            replace hf := mx_sv_el hf; obtain ⟨v144, e_v144, hf⟩ := hf
                            refine sx_sc hm dL_law_375 (xno_el c143) e_v144 ?_
                            clear e_v144
                            replace hf := mx_gd_el hf; obtain ⟨c145, hf⟩ := hf
                            replace hf := mx_sv_el hf; obtain ⟨u146, e_u146, hf⟩ := hf
                            refine sx_cv hm dL_law_376 rs_RL_59 mt_X12_where [.int v144] [] (b := l1) (ci := 12) rfl rfl rfl c145 (Nat.le_of_ble_eq_true rfl) (Nat.le_of_ble_eq_true rfl) (by omega) (by omega) (f_X12_where_ok X (by omega) (by omega) nn l1 v144 h e_u146) ?_
                            clear e_u146
                            show mx_S X F L 0 379 [(0, .ref 2000000000), (1, .ref l1), (2, .ref l2), (3, .int l3)] [.int u146.1] u146.2 c s (some (.int r.1), r.2.1, r.2.2.1, r.2.2.2)
                            refine mx_S.pu (pc2 := 380) (lv2 := [(0, .ref 2000000000), (1, .ref l1), (2, .ref l2), (3, .int l3)]) (st2 := []) hm dL_law_379 rfl ?_
                            refine mx_S.pu (pc2 := 381) (lv2 := [(0, .ref 2000000000), (1, .ref l1), (2, .ref l2), (3, .int l3)]) (st2 := [.ref l2]) hm dL_law_380 rfl ?_
                            refine mx_S.pu (pc2 := 382) (lv2 := [(0, .ref 2000000000), (1, .ref l1), (2, .ref l2), (3, .int l3)]) (st2 := [.ref 2000000000, .ref l2]) hm dL_law_381 rfl ?_
                            refine mx_S.pu (pc2 := 383) (lv2 := [(0, .ref 2000000000), (1, .ref l1), (2, .ref l2), (3, .int l3)]) (st2 := [.int l3, .ref 2000000000, .ref l2]) hm dL_law_382 rfl ?_
                            refine sx_ic (v := 1) hm dL_law_383 (by decide) ?_
                            replace hf := xl_el hf; obtain ⟨v147, e_v147, hf⟩ := hf
                            refine mx_S.pu (pc2 := 385) (lv2 := [(0, .ref 2000000000), (1, .ref l1), (2, .ref l2), (3, .int l3)]) (st2 := [.int v147, .ref 2000000000, .ref l2]) hm dL_law_384 (by rw [← e_v147]; rfl) ?_
                            clear e_v147
                            replace hf := mx_gd_el hf; obtain ⟨c148, hf⟩ := hf
                            replace hf := mx_sv_el hf; obtain ⟨v149, e_v149, hf⟩ := hf
                            refine sx_sc hm dL_law_385 (xno_el c148) e_v149 ?_
                            clear e_v149
                            replace hf := mx_gd_el hf; obtain ⟨c150, hf⟩ := hf
                            replace hf := mx_sv_el hf; obtain ⟨u151, e_u151, hf⟩ := hf
                            refine sx_cv hm dL_law_386 rs_RL_62 mt_X13_where [.int v149] [] (b := l2) (ci := 13) rfl rfl rfl c150 (Nat.le_of_ble_eq_true rfl) (Nat.le_of_ble_eq_true rfl) (by omega) (by omega) (f_X13_where_ok X (by omega) (by omega) nn l2 v149 u146.2 e_u151) ?_
                            clear e_u151
                            show mx_S X F L 0 389 [(0, .ref 2000000000), (1, .ref l1), (2, .ref l2), (3, .int l3)] [.int u151.1] u151.2 c s (some (.int r.1), r.2.1, r.2.2.1, r.2.2.2)
                            refine mx_S.pu (pc2 := 390) (lv2 := [(0, .ref 2000000000), (1, .ref l1), (2, .ref l2), (3, .int l3)]) (st2 := []) hm dL_law_389 rfl ?_
                            refine mx_S.pu (pc2 := 528) (lv2 := [(0, .ref 2000000000), (1, .ref l1), (2, .ref l2), (3, .int l3)]) (st2 := []) hm dL_law_390 rfl ?_
                            replace hf := xl_el hf; obtain ⟨v152, e_v152, hf⟩ := hf
                            refine mx_S.pu (pc2 := 531) (lv2 := [(3, .int v152), (0, .ref 2000000000), (1, .ref l1), (2, .ref l2)]) (st2 := []) hm dL_law_528 (by rw [← e_v152]; rfl) ?_
                            clear e_v152
                            refine mx_S.pu (pc2 := 18) (lv2 := [(3, .int v152), (0, .ref 2000000000), (1, .ref l1), (2, .ref l2)]) (st2 := []) hm dL_law_531 rfl ?_
                            refine mx_S.ext [(0, .ref 2000000000), (1, .ref l1), (2, .ref l2), (3, .int v152)] (mx_sub_pos [1, 2, 3, 0] rfl (show ([3, 0, 1, 2] : List Nat).Nodup by decide)) ?_
                            exact ih l1 l2 v152 u151.2 c s _ hf
                          · rcases mx_if_el hf with ⟨n_11, hf⟩ | ⟨n_11, hf⟩
                            · refine sx_tin hm dL_law_33 (by rw [n_11]; decide) (by rw [n_11]; decide) (off := 360) (by rw [n_11]; rfl) (tgt := 393) rfl ?_
                              clear n_0 n_1 n_2 n_3 n_4 n_5 n_6 n_7 n_8 n_9 n_10 n_11
                              refine mx_S.pu (pc2 := 394) (lv2 := [(0, .ref 2000000000), (1, .ref l1), (2, .ref l2), (3, .int l3)]) (st2 := [.ref l1]) hm dL_law_393 rfl ?_
                              refine mx_S.pu (pc2 := 395) (lv2 := [(0, .ref 2000000000), (1, .ref l1), (2, .ref l2), (3, .int l3)]) (st2 := [.ref 2000000000, .ref l1]) hm dL_law_394 rfl ?_
                              refine mx_S.pu (pc2 := 396) (lv2 := [(0, .ref 2000000000), (1, .ref l1), (2, .ref l2), (3, .int l3)]) (st2 := [.int l3, .ref 2000000000, .ref l1]) hm dL_law_395 rfl ?_
                              refine sx_ic (v := 1) hm dL_law_396 (by decide) ?_
                              replace hf := xl_el hf; obtain ⟨v153, e_v153, hf⟩ := hf
                              refine mx_S.pu (pc2 := 398) (lv2 := [(0, .ref 2000000000), (1, .ref l1), (2, .ref l2), (3, .int l3)]) (st2 := [.int v153, .ref 2000000000, .ref l1]) hm dL_law_397 (by rw [← e_v153]; rfl) ?_
                              clear e_v153
                              replace hf := mx_gd_el hf; obtain ⟨c154, hf⟩ := hf
                              replace hf := mx_sv_el hf; obtain ⟨v155, e_v155, hf⟩ := hf
                              refine sx_sc hm dL_law_398 (xno_el c154) e_v155 ?_
                              clear e_v155
                              refine mx_S.pu (pc2 := 400) (lv2 := [(0, .ref 2000000000), (1, .ref l1), (2, .ref l2), (3, .int l3)]) (st2 := [.ref 2000000000, .int v155, .ref l1]) hm dL_law_399 rfl ?_
                              refine mx_S.pu (pc2 := 401) (lv2 := [(0, .ref 2000000000), (1, .ref l1), (2, .ref l2), (3, .int l3)]) (st2 := [.int l3, .ref 2000000000, .int v155, .ref l1]) hm dL_law_400 rfl ?_
                              refine sx_ic (v := 2) hm dL_law_401 (by decide) ?_
                              replace hf := xl_el hf; obtain ⟨v156, e_v156, hf⟩ := hf
                              refine mx_S.pu (pc2 := 403) (lv2 := [(0, .ref 2000000000), (1, .ref l1), (2, .ref l2), (3, .int l3)]) (st2 := [.int v156, .ref 2000000000, .int v155, .ref l1]) hm dL_law_402 (by rw [← e_v156]; rfl) ?_
                              clear e_v156
                              replace hf := mx_gd_el hf; obtain ⟨c157, hf⟩ := hf
                              replace hf := mx_sv_el hf; obtain ⟨v158, e_v158, hf⟩ := hf
                              refine sx_sc hm dL_law_403 (xno_el c157) e_v158 ?_
                              clear e_v158
                              replace hf := mx_gd_el hf; obtain ⟨c159, hf⟩ := hf
                              replace hf := mx_sv_el hf; obtain ⟨u160, e_u160, hf⟩ := hf
                              refine sx_cv hm dL_law_404 rs_RL_63 mt_X12_start [.int v155, .int v158] [] (b := l1) (ci := 12) rfl rfl rfl c159 (Nat.le_of_ble_eq_true rfl) (Nat.le_of_ble_eq_true rfl) (by omega) (by omega) (f_X12_start_ok X (by omega) (by omega) nn l1 v155 v158 h e_u160) ?_
                              clear e_u160
                              show mx_S X F L 0 407 [(0, .ref 2000000000), (1, .ref l1), (2, .ref l2), (3, .int l3)] [.int u160.1] u160.2 c s (some (.int r.1), r.2.1, r.2.2.1, r.2.2.2)
                              refine mx_S.pu (pc2 := 408) (lv2 := [(0, .ref 2000000000), (1, .ref l1), (2, .ref l2), (3, .int l3)]) (st2 := []) hm dL_law_407 rfl ?_
                              refine mx_S.pu (pc2 := 409) (lv2 := [(0, .ref 2000000000), (1, .ref l1), (2, .ref l2), (3, .int l3)]) (st2 := [.ref l2]) hm dL_law_408 rfl ?_
                              refine mx_S.pu (pc2 := 410) (lv2 := [(0, .ref 2000000000), (1, .ref l1), (2, .ref l2), (3, .int l3)]) (st2 := [.ref 2000000000, .ref l2]) hm dL_law_409 rfl ?_
                              refine mx_S.pu (pc2 := 411) (lv2 := [(0, .ref 2000000000), (1, .ref l1), (2, .ref l2), (3, .int l3)]) (st2 := [.int l3, .ref 2000000000, .ref l2]) hm dL_law_410 rfl ?_
                              refine sx_ic (v := 1) hm dL_law_411 (by decide) ?_
                              replace hf := xl_el hf; obtain ⟨v161, e_v161, hf⟩ := hf
                              refine mx_S.pu (pc2 := 413) (lv2 := [(0, .ref 2000000000), (1, .ref l1), (2, .ref l2), (3, .int l3)]) (st2 := [.int v161, .ref 2000000000, .ref l2]) hm dL_law_412 (by rw [← e_v161]; rfl) ?_
                              clear e_v161
                              replace hf := mx_gd_el hf; obtain ⟨c162, hf⟩ := hf
                              replace hf := mx_sv_el hf; obtain ⟨v163, e_v163, hf⟩ := hf
                              refine sx_sc hm dL_law_413 (xno_el c162) e_v163 ?_
                              clear e_v163
                              refine mx_S.pu (pc2 := 415) (lv2 := [(0, .ref 2000000000), (1, .ref l1), (2, .ref l2), (3, .int l3)]) (st2 := [.ref 2000000000, .int v163, .ref l2]) hm dL_law_414 rfl ?_
                              refine mx_S.pu (pc2 := 416) (lv2 := [(0, .ref 2000000000), (1, .ref l1), (2, .ref l2), (3, .int l3)]) (st2 := [.int l3, .ref 2000000000, .int v163, .ref l2]) hm dL_law_415 rfl ?_
                              refine sx_ic (v := 2) hm dL_law_416 (by decide) ?_
                              replace hf := xl_el hf; obtain ⟨v164, e_v164, hf⟩ := hf
                              refine mx_S.pu (pc2 := 418) (lv2 := [(0, .ref 2000000000), (1, .ref l1), (2, .ref l2), (3, .int l3)]) (st2 := [.int v164, .ref 2000000000, .int v163, .ref l2]) hm dL_law_417 (by rw [← e_v164]; rfl) ?_
                              clear e_v164
                              replace hf := mx_gd_el hf; obtain ⟨c165, hf⟩ := hf
                              replace hf := mx_sv_el hf; obtain ⟨v166, e_v166, hf⟩ := hf
                              refine sx_sc hm dL_law_418 (xno_el c165) e_v166 ?_
                              clear e_v166
                              replace hf := mx_gd_el hf; obtain ⟨c167, hf⟩ := hf
                              replace hf := mx_sv_el hf; obtain ⟨u168, e_u168, hf⟩ := hf
                              refine sx_cv hm dL_law_419 rs_RL_67 mt_X13_start [.int v163, .int v166] [] (b := l2) (ci := 13) rfl rfl rfl c167 (Nat.le_of_ble_eq_true rfl) (Nat.le_of_ble_eq_true rfl) (by omega) (by omega) (f_X13_start_ok X (by omega) (by omega) nn l2 v163 v166 u160.2 e_u168) ?_
                              clear e_u168
                              show mx_S X F L 0 422 [(0, .ref 2000000000), (1, .ref l1), (2, .ref l2), (3, .int l3)] [.int u168.1] u168.2 c s (some (.int r.1), r.2.1, r.2.2.1, r.2.2.2)
                              refine mx_S.pu (pc2 := 423) (lv2 := [(0, .ref 2000000000), (1, .ref l1), (2, .ref l2), (3, .int l3)]) (st2 := []) hm dL_law_422 rfl ?_
                              refine mx_S.pu (pc2 := 528) (lv2 := [(0, .ref 2000000000), (1, .ref l1), (2, .ref l2), (3, .int l3)]) (st2 := []) hm dL_law_423 rfl ?_
                              replace hf := xl_el hf; obtain ⟨v169, e_v169, hf⟩ := hf
                              refine mx_S.pu (pc2 := 531) (lv2 := [(3, .int v169), (0, .ref 2000000000), (1, .ref l1), (2, .ref l2)]) (st2 := []) hm dL_law_528 (by rw [← e_v169]; rfl) ?_
                              clear e_v169
                              refine mx_S.pu (pc2 := 18) (lv2 := [(3, .int v169), (0, .ref 2000000000), (1, .ref l1), (2, .ref l2)]) (st2 := []) hm dL_law_531 rfl ?_
                              refine mx_S.ext [(0, .ref 2000000000), (1, .ref l1), (2, .ref l2), (3, .int v169)] (mx_sub_pos [1, 2, 3, 0] rfl (show ([3, 0, 1, 2] : List Nat).Nodup by decide)) ?_
                              exact ih l1 l2 v169 u168.2 c s _ hf
                            · rcases mx_if_el hf with ⟨n_12, hf⟩ | ⟨n_12, hf⟩
                              · refine sx_tin hm dL_law_33 (by rw [n_12]; decide) (by rw [n_12]; decide) (off := 393) (by rw [n_12]; rfl) (tgt := 426) rfl ?_
                                clear n_0 n_1 n_2 n_3 n_4 n_5 n_6 n_7 n_8 n_9 n_10 n_11 n_12
                                refine mx_S.pu (pc2 := 427) (lv2 := [(0, .ref 2000000000), (1, .ref l1), (2, .ref l2), (3, .int l3)]) (st2 := [.ref l1]) hm dL_law_426 rfl ?_
                                refine mx_S.pu (pc2 := 428) (lv2 := [(0, .ref 2000000000), (1, .ref l1), (2, .ref l2), (3, .int l3)]) (st2 := [.ref 2000000000, .ref l1]) hm dL_law_427 rfl ?_
                                refine mx_S.pu (pc2 := 429) (lv2 := [(0, .ref 2000000000), (1, .ref l1), (2, .ref l2), (3, .int l3)]) (st2 := [.int l3, .ref 2000000000, .ref l1]) hm dL_law_428 rfl ?_
                                refine sx_ic (v := 1) hm dL_law_429 (by decide) ?_
                                replace hf := xl_el hf; obtain ⟨v170, e_v170, hf⟩ := hf
                                refine mx_S.pu (pc2 := 431) (lv2 := [(0, .ref 2000000000), (1, .ref l1), (2, .ref l2), (3, .int l3)]) (st2 := [.int v170, .ref 2000000000, .ref l1]) hm dL_law_430 (by rw [← e_v170]; rfl) ?_
                                clear e_v170
                                replace hf := mx_gd_el hf; obtain ⟨c171, hf⟩ := hf
                                replace hf := mx_sv_el hf; obtain ⟨v172, e_v172, hf⟩ := hf
                                refine sx_sc hm dL_law_431 (xno_el c171) e_v172 ?_
                                clear e_v172
                                replace hf := mx_gd_el hf; obtain ⟨c173, hf⟩ := hf
                                replace hf := mx_sv_el hf; obtain ⟨u174, e_u174, hf⟩ := hf
                                refine sx_cv hm dL_law_432 rs_RL_68 mt_X12_run [.int v172] [] (b := l1) (ci := 12) rfl rfl rfl c173 (Nat.le_of_ble_eq_true rfl) (Nat.le_of_ble_eq_true rfl) (by omega) (by omega) (f_X12_run_ok X (by omega) (by omega) nn l1 v172 h e_u174) ?_
                                clear e_u174
                                show mx_S X F L 0 435 [(0, .ref 2000000000), (1, .ref l1), (2, .ref l2), (3, .int l3)] [.int u174.1] u174.2 c s (some (.int r.1), r.2.1, r.2.2.1, r.2.2.2)
                                refine mx_S.pu (pc2 := 436) (lv2 := [(0, .ref 2000000000), (1, .ref l1), (2, .ref l2), (3, .int l3)]) (st2 := []) hm dL_law_435 rfl ?_
                                exact j_L_law_436_ok X hF hL nn ih l1 l2 l3 u174.2 c s hf
                              · rcases mx_if_el hf with ⟨n_13, hf⟩ | ⟨n_13, hf⟩
                                · refine sx_tin hm dL_law_33 (by rw [n_13]; decide) (by rw [n_13]; decide) (off := 416) (by rw [n_13]; rfl) (tgt := 449) rfl ?_
                                  clear n_0 n_1 n_2 n_3 n_4 n_5 n_6 n_7 n_8 n_9 n_10 n_11 n_12 n_13
                                  refine mx_S.pu (pc2 := 450) (lv2 := [(0, .ref 2000000000), (1, .ref l1), (2, .ref l2), (3, .int l3)]) (st2 := [.ref l1]) hm dL_law_449 rfl ?_
                                  refine mx_S.pu (pc2 := 451) (lv2 := [(0, .ref 2000000000), (1, .ref l1), (2, .ref l2), (3, .int l3)]) (st2 := [.ref 2000000000, .ref l1]) hm dL_law_450 rfl ?_
                                  refine mx_S.pu (pc2 := 452) (lv2 := [(0, .ref 2000000000), (1, .ref l1), (2, .ref l2), (3, .int l3)]) (st2 := [.int l3, .ref 2000000000, .ref l1]) hm dL_law_451 rfl ?_
                                  refine sx_ic (v := 1) hm dL_law_452 (by decide) ?_
                                  replace hf := xl_el hf; obtain ⟨v175, e_v175, hf⟩ := hf
                                  refine mx_S.pu (pc2 := 454) (lv2 := [(0, .ref 2000000000), (1, .ref l1), (2, .ref l2), (3, .int l3)]) (st2 := [.int v175, .ref 2000000000, .ref l1]) hm dL_law_453 (by rw [← e_v175]; rfl) ?_
                                  clear e_v175
                                  replace hf := mx_gd_el hf; obtain ⟨c176, hf⟩ := hf
                                  replace hf := mx_sv_el hf; obtain ⟨v177, e_v177, hf⟩ := hf
                                  refine sx_sc hm dL_law_454 (xno_el c176) e_v177 ?_
                                  clear e_v177
                                  replace hf := mx_gd_el hf; obtain ⟨c178, hf⟩ := hf
                                  replace hf := mx_sv_el hf; obtain ⟨u179, e_u179, hf⟩ := hf
                                  refine sx_cv hm dL_law_455 rs_RL_72 mt_X12_look [.int v177] [] (b := l1) (ci := 12) rfl rfl rfl c178 (Nat.le_of_ble_eq_true rfl) (Nat.le_of_ble_eq_true rfl) (by omega) (by omega) (f_X12_look_ok X (by omega) (by omega) nn l1 v177 h e_u179) ?_
                                  clear e_u179
                                  show mx_S X F L 0 458 [(0, .ref 2000000000), (1, .ref l1), (2, .ref l2), (3, .int l3)] [.int u179.1] u179.2 c s (some (.int r.1), r.2.1, r.2.2.1, r.2.2.2)
                                  refine mx_S.pu (pc2 := 459) (lv2 := [(0, .ref 2000000000), (1, .ref l1), (2, .ref l2), (3, .int l3)]) (st2 := []) hm dL_law_458 rfl ?_
                                  refine mx_S.pu (pc2 := 460) (lv2 := [(0, .ref 2000000000), (1, .ref l1), (2, .ref l2), (3, .int l3)]) (st2 := [.ref l2]) hm dL_law_459 rfl ?_
                                  refine mx_S.pu (pc2 := 461) (lv2 := [(0, .ref 2000000000), (1, .ref l1), (2, .ref l2), (3, .int l3)]) (st2 := [.ref 2000000000, .ref l2]) hm dL_law_460 rfl ?_
                                  refine mx_S.pu (pc2 := 462) (lv2 := [(0, .ref 2000000000), (1, .ref l1), (2, .ref l2), (3, .int l3)]) (st2 := [.int l3, .ref 2000000000, .ref l2]) hm dL_law_461 rfl ?_
                                  refine sx_ic (v := 1) hm dL_law_462 (by decide) ?_
                                  replace hf := xl_el hf; obtain ⟨v180, e_v180, hf⟩ := hf
                                  refine mx_S.pu (pc2 := 464) (lv2 := [(0, .ref 2000000000), (1, .ref l1), (2, .ref l2), (3, .int l3)]) (st2 := [.int v180, .ref 2000000000, .ref l2]) hm dL_law_463 (by rw [← e_v180]; rfl) ?_
                                  clear e_v180
                                  replace hf := mx_gd_el hf; obtain ⟨c181, hf⟩ := hf
                                  replace hf := mx_sv_el hf; obtain ⟨v182, e_v182, hf⟩ := hf
                                  refine sx_sc hm dL_law_464 (xno_el c181) e_v182 ?_
                                  clear e_v182
                                  replace hf := mx_gd_el hf; obtain ⟨c183, hf⟩ := hf
                                  replace hf := mx_sv_el hf; obtain ⟨u184, e_u184, hf⟩ := hf
                                  refine sx_cv hm dL_law_465 rs_RL_75 mt_X13_look [.int v182] [] (b := l2) (ci := 13) rfl rfl rfl c183 (Nat.le_of_ble_eq_true rfl) (Nat.le_of_ble_eq_true rfl) (by omega) (by omega) (f_X13_look_ok X (by omega) (by omega) nn l2 v182 u179.2 e_u184) ?_
                                  clear e_u184
                                  show mx_S X F L 0 468 [(0, .ref 2000000000), (1, .ref l1), (2, .ref l2), (3, .int l3)] [.int u184.1] u184.2 c s (some (.int r.1), r.2.1, r.2.2.1, r.2.2.2)
                                  refine mx_S.pu (pc2 := 469) (lv2 := [(0, .ref 2000000000), (1, .ref l1), (2, .ref l2), (3, .int l3)]) (st2 := []) hm dL_law_468 rfl ?_
                                  refine mx_S.pu (pc2 := 528) (lv2 := [(0, .ref 2000000000), (1, .ref l1), (2, .ref l2), (3, .int l3)]) (st2 := []) hm dL_law_469 rfl ?_
                                  replace hf := xl_el hf; obtain ⟨v185, e_v185, hf⟩ := hf
                                  refine mx_S.pu (pc2 := 531) (lv2 := [(3, .int v185), (0, .ref 2000000000), (1, .ref l1), (2, .ref l2)]) (st2 := []) hm dL_law_528 (by rw [← e_v185]; rfl) ?_
                                  clear e_v185
                                  refine mx_S.pu (pc2 := 18) (lv2 := [(3, .int v185), (0, .ref 2000000000), (1, .ref l1), (2, .ref l2)]) (st2 := []) hm dL_law_531 rfl ?_
                                  refine mx_S.ext [(0, .ref 2000000000), (1, .ref l1), (2, .ref l2), (3, .int v185)] (mx_sub_pos [1, 2, 3, 0] rfl (show ([3, 0, 1, 2] : List Nat).Nodup by decide)) ?_
                                  exact ih l1 l2 v185 u184.2 c s _ hf
                                · rcases mx_if_el hf with ⟨n_14, hf⟩ | ⟨n_14, hf⟩
                                  · refine sx_tin hm dL_law_33 (by rw [n_14]; decide) (by rw [n_14]; decide) (off := 439) (by rw [n_14]; rfl) (tgt := 472) rfl ?_
                                    clear n_0 n_1 n_2 n_3 n_4 n_5 n_6 n_7 n_8 n_9 n_10 n_11 n_12 n_13 n_14
                                    refine mx_S.pu (pc2 := 473) (lv2 := [(0, .ref 2000000000), (1, .ref l1), (2, .ref l2), (3, .int l3)]) (st2 := [.ref l1]) hm dL_law_472 rfl ?_
                                    refine mx_S.pu (pc2 := 474) (lv2 := [(0, .ref 2000000000), (1, .ref l1), (2, .ref l2), (3, .int l3)]) (st2 := [.ref 2000000000, .ref l1]) hm dL_law_473 rfl ?_
                                    refine mx_S.pu (pc2 := 475) (lv2 := [(0, .ref 2000000000), (1, .ref l1), (2, .ref l2), (3, .int l3)]) (st2 := [.int l3, .ref 2000000000, .ref l1]) hm dL_law_474 rfl ?_
                                    refine sx_ic (v := 1) hm dL_law_475 (by decide) ?_
                                    replace hf := xl_el hf; obtain ⟨v186, e_v186, hf⟩ := hf
                                    refine mx_S.pu (pc2 := 477) (lv2 := [(0, .ref 2000000000), (1, .ref l1), (2, .ref l2), (3, .int l3)]) (st2 := [.int v186, .ref 2000000000, .ref l1]) hm dL_law_476 (by rw [← e_v186]; rfl) ?_
                                    clear e_v186
                                    replace hf := mx_gd_el hf; obtain ⟨c187, hf⟩ := hf
                                    replace hf := mx_sv_el hf; obtain ⟨v188, e_v188, hf⟩ := hf
                                    refine sx_sc hm dL_law_477 (xno_el c187) e_v188 ?_
                                    clear e_v188
                                    replace hf := mx_gd_el hf; obtain ⟨c189, hf⟩ := hf
                                    replace hf := mx_sv_el hf; obtain ⟨u190, e_u190, hf⟩ := hf
                                    refine sx_cv hm dL_law_478 rs_RL_76 mt_X12_out [.int v188] [] (b := l1) (ci := 12) rfl rfl rfl c189 (Nat.le_of_ble_eq_true rfl) (Nat.le_of_ble_eq_true rfl) (by omega) (by omega) (f_X12_out_ok X (by omega) (by omega) nn l1 v188 h e_u190) ?_
                                    clear e_u190
                                    show mx_S X F L 0 481 [(0, .ref 2000000000), (1, .ref l1), (2, .ref l2), (3, .int l3)] [.int u190.1] u190.2 c s (some (.int r.1), r.2.1, r.2.2.1, r.2.2.2)
                                    refine mx_S.pu (pc2 := 482) (lv2 := [(0, .ref 2000000000), (1, .ref l1), (2, .ref l2), (3, .int l3)]) (st2 := []) hm dL_law_481 rfl ?_
                                    refine mx_S.pu (pc2 := 483) (lv2 := [(0, .ref 2000000000), (1, .ref l1), (2, .ref l2), (3, .int l3)]) (st2 := [.ref l2]) hm dL_law_482 rfl ?_
                                    refine mx_S.pu (pc2 := 484) (lv2 := [(0, .ref 2000000000), (1, .ref l1), (2, .ref l2), (3, .int l3)]) (st2 := [.ref 2000000000, .ref l2]) hm dL_law_483 rfl ?_
                                    refine mx_S.pu (pc2 := 485) (lv2 := [(0, .ref 2000000000), (1, .ref l1), (2, .ref l2), (3, .int l3)]) (st2 := [.int l3, .ref 2000000000, .ref l2]) hm dL_law_484 rfl ?_
                                    refine sx_ic (v := 1) hm dL_law_485 (by decide) ?_
                                    replace hf := xl_el hf; obtain ⟨v191, e_v191, hf⟩ := hf
                                    refine mx_S.pu (pc2 := 487) (lv2 := [(0, .ref 2000000000), (1, .ref l1), (2, .ref l2), (3, .int l3)]) (st2 := [.int v191, .ref 2000000000, .ref l2]) hm dL_law_486 (by rw [← e_v191]; rfl) ?_
                                    clear e_v191
                                    replace hf := mx_gd_el hf; obtain ⟨c192, hf⟩ := hf
                                    replace hf := mx_sv_el hf; obtain ⟨v193, e_v193, hf⟩ := hf
                                    refine sx_sc hm dL_law_487 (xno_el c192) e_v193 ?_
                                    clear e_v193
                                    replace hf := mx_gd_el hf; obtain ⟨c194, hf⟩ := hf
                                    replace hf := mx_sv_el hf; obtain ⟨u195, e_u195, hf⟩ := hf
                                    refine sx_cv hm dL_law_488 rs_RL_79 mt_X13_out [.int v193] [] (b := l2) (ci := 13) rfl rfl rfl c194 (Nat.le_of_ble_eq_true rfl) (Nat.le_of_ble_eq_true rfl) (by omega) (by omega) (f_X13_out_ok X (by omega) (by omega) nn l2 v193 u190.2 e_u195) ?_
                                    clear e_u195
                                    show mx_S X F L 0 491 [(0, .ref 2000000000), (1, .ref l1), (2, .ref l2), (3, .int l3)] [.int u195.1] u195.2 c s (some (.int r.1), r.2.1, r.2.2.1, r.2.2.2)
                                    refine mx_S.pu (pc2 := 492) (lv2 := [(0, .ref 2000000000), (1, .ref l1), (2, .ref l2), (3, .int l3)]) (st2 := []) hm dL_law_491 rfl ?_
                                    refine mx_S.pu (pc2 := 528) (lv2 := [(0, .ref 2000000000), (1, .ref l1), (2, .ref l2), (3, .int l3)]) (st2 := []) hm dL_law_492 rfl ?_
                                    replace hf := xl_el hf; obtain ⟨v196, e_v196, hf⟩ := hf
                                    refine mx_S.pu (pc2 := 531) (lv2 := [(3, .int v196), (0, .ref 2000000000), (1, .ref l1), (2, .ref l2)]) (st2 := []) hm dL_law_528 (by rw [← e_v196]; rfl) ?_
                                    clear e_v196
                                    refine mx_S.pu (pc2 := 18) (lv2 := [(3, .int v196), (0, .ref 2000000000), (1, .ref l1), (2, .ref l2)]) (st2 := []) hm dL_law_531 rfl ?_
                                    refine mx_S.ext [(0, .ref 2000000000), (1, .ref l1), (2, .ref l2), (3, .int v196)] (mx_sub_pos [1, 2, 3, 0] rfl (show ([3, 0, 1, 2] : List Nat).Nodup by decide)) ?_
                                    exact ih l1 l2 v196 u195.2 c s _ hf
                                  · rcases mx_if_el hf with ⟨n_15, hf⟩ | ⟨n_15, hf⟩
                                    · refine sx_tin hm dL_law_33 (by rw [n_15]; decide) (by rw [n_15]; decide) (off := 462) (by rw [n_15]; rfl) (tgt := 495) rfl ?_
                                      clear n_0 n_1 n_2 n_3 n_4 n_5 n_6 n_7 n_8 n_9 n_10 n_11 n_12 n_13 n_14 n_15
                                      refine mx_S.pu (pc2 := 496) (lv2 := [(0, .ref 2000000000), (1, .ref l1), (2, .ref l2), (3, .int l3)]) (st2 := [.ref l1]) hm dL_law_495 rfl ?_
                                      refine mx_S.pu (pc2 := 497) (lv2 := [(0, .ref 2000000000), (1, .ref l1), (2, .ref l2), (3, .int l3)]) (st2 := [.ref 2000000000, .ref l1]) hm dL_law_496 rfl ?_
                                      refine mx_S.pu (pc2 := 498) (lv2 := [(0, .ref 2000000000), (1, .ref l1), (2, .ref l2), (3, .int l3)]) (st2 := [.int l3, .ref 2000000000, .ref l1]) hm dL_law_497 rfl ?_
                                      refine sx_ic (v := 1) hm dL_law_498 (by decide) ?_
                                      replace hf := xl_el hf; obtain ⟨v197, e_v197, hf⟩ := hf
                                      refine mx_S.pu (pc2 := 500) (lv2 := [(0, .ref 2000000000), (1, .ref l1), (2, .ref l2), (3, .int l3)]) (st2 := [.int v197, .ref 2000000000, .ref l1]) hm dL_law_499 (by rw [← e_v197]; rfl) ?_
                                      clear e_v197
                                      replace hf := mx_gd_el hf; obtain ⟨c198, hf⟩ := hf
                                      replace hf := mx_sv_el hf; obtain ⟨v199, e_v199, hf⟩ := hf
                                      refine sx_sc hm dL_law_500 (xno_el c198) e_v199 ?_
                                      clear e_v199
                                      refine mx_S.pu (pc2 := 502) (lv2 := [(0, .ref 2000000000), (1, .ref l1), (2, .ref l2), (3, .int l3)]) (st2 := [.ref 2000000000, .int v199, .ref l1]) hm dL_law_501 rfl ?_
                                      refine mx_S.pu (pc2 := 503) (lv2 := [(0, .ref 2000000000), (1, .ref l1), (2, .ref l2), (3, .int l3)]) (st2 := [.int l3, .ref 2000000000, .int v199, .ref l1]) hm dL_law_502 rfl ?_
                                      refine sx_ic (v := 2) hm dL_law_503 (by decide) ?_
                                      replace hf := xl_el hf; obtain ⟨v200, e_v200, hf⟩ := hf
                                      refine mx_S.pu (pc2 := 505) (lv2 := [(0, .ref 2000000000), (1, .ref l1), (2, .ref l2), (3, .int l3)]) (st2 := [.int v200, .ref 2000000000, .int v199, .ref l1]) hm dL_law_504 (by rw [← e_v200]; rfl) ?_
                                      clear e_v200
                                      replace hf := mx_gd_el hf; obtain ⟨c201, hf⟩ := hf
                                      replace hf := mx_sv_el hf; obtain ⟨v202, e_v202, hf⟩ := hf
                                      refine sx_sc hm dL_law_505 (xno_el c201) e_v202 ?_
                                      clear e_v202
                                      replace hf := mx_gd_el hf; obtain ⟨c203, hf⟩ := hf
                                      replace hf := mx_sv_el hf; obtain ⟨u204, e_u204, hf⟩ := hf
                                      refine sx_cv hm dL_law_506 rs_RL_80 mt_X12_type [.int v199, .int v202] [] (b := l1) (ci := 12) rfl rfl rfl c203 (Nat.le_of_ble_eq_true rfl) (Nat.le_of_ble_eq_true rfl) (by omega) (by omega) (f_X12_type_ok X (by omega) (by omega) nn l1 v199 v202 h e_u204) ?_
                                      clear e_u204
                                      show mx_S X F L 0 509 [(0, .ref 2000000000), (1, .ref l1), (2, .ref l2), (3, .int l3)] [.int u204.1] u204.2 c s (some (.int r.1), r.2.1, r.2.2.1, r.2.2.2)
                                      refine mx_S.pu (pc2 := 510) (lv2 := [(0, .ref 2000000000), (1, .ref l1), (2, .ref l2), (3, .int l3)]) (st2 := []) hm dL_law_509 rfl ?_
                                      refine mx_S.pu (pc2 := 511) (lv2 := [(0, .ref 2000000000), (1, .ref l1), (2, .ref l2), (3, .int l3)]) (st2 := [.ref l2]) hm dL_law_510 rfl ?_
                                      refine mx_S.pu (pc2 := 512) (lv2 := [(0, .ref 2000000000), (1, .ref l1), (2, .ref l2), (3, .int l3)]) (st2 := [.ref 2000000000, .ref l2]) hm dL_law_511 rfl ?_
                                      refine mx_S.pu (pc2 := 513) (lv2 := [(0, .ref 2000000000), (1, .ref l1), (2, .ref l2), (3, .int l3)]) (st2 := [.int l3, .ref 2000000000, .ref l2]) hm dL_law_512 rfl ?_
                                      refine sx_ic (v := 1) hm dL_law_513 (by decide) ?_
                                      replace hf := xl_el hf; obtain ⟨v205, e_v205, hf⟩ := hf
                                      refine mx_S.pu (pc2 := 515) (lv2 := [(0, .ref 2000000000), (1, .ref l1), (2, .ref l2), (3, .int l3)]) (st2 := [.int v205, .ref 2000000000, .ref l2]) hm dL_law_514 (by rw [← e_v205]; rfl) ?_
                                      clear e_v205
                                      replace hf := mx_gd_el hf; obtain ⟨c206, hf⟩ := hf
                                      replace hf := mx_sv_el hf; obtain ⟨v207, e_v207, hf⟩ := hf
                                      refine sx_sc hm dL_law_515 (xno_el c206) e_v207 ?_
                                      clear e_v207
                                      refine mx_S.pu (pc2 := 517) (lv2 := [(0, .ref 2000000000), (1, .ref l1), (2, .ref l2), (3, .int l3)]) (st2 := [.ref 2000000000, .int v207, .ref l2]) hm dL_law_516 rfl ?_
                                      refine mx_S.pu (pc2 := 518) (lv2 := [(0, .ref 2000000000), (1, .ref l1), (2, .ref l2), (3, .int l3)]) (st2 := [.int l3, .ref 2000000000, .int v207, .ref l2]) hm dL_law_517 rfl ?_
                                      refine sx_ic (v := 2) hm dL_law_518 (by decide) ?_
                                      replace hf := xl_el hf; obtain ⟨v208, e_v208, hf⟩ := hf
                                      refine mx_S.pu (pc2 := 520) (lv2 := [(0, .ref 2000000000), (1, .ref l1), (2, .ref l2), (3, .int l3)]) (st2 := [.int v208, .ref 2000000000, .int v207, .ref l2]) hm dL_law_519 (by rw [← e_v208]; rfl) ?_
                                      clear e_v208
                                      replace hf := mx_gd_el hf; obtain ⟨c209, hf⟩ := hf
                                      replace hf := mx_sv_el hf; obtain ⟨v210, e_v210, hf⟩ := hf
                                      refine sx_sc hm dL_law_520 (xno_el c209) e_v210 ?_
                                      clear e_v210
                                      replace hf := mx_gd_el hf; obtain ⟨c211, hf⟩ := hf
                                      replace hf := mx_sv_el hf; obtain ⟨u212, e_u212, hf⟩ := hf
                                      refine sx_cv hm dL_law_521 rs_RL_83 mt_X13_type_ [.int v207, .int v210] [] (b := l2) (ci := 13) rfl rfl rfl c211 (Nat.le_of_ble_eq_true rfl) (Nat.le_of_ble_eq_true rfl) (by omega) (by omega) (f_X13_type__ok X (by omega) (by omega) nn l2 v207 v210 u204.2 e_u212) ?_
                                      clear e_u212
                                      show mx_S X F L 0 524 [(0, .ref 2000000000), (1, .ref l1), (2, .ref l2), (3, .int l3)] [.int u212.1] u212.2 c s (some (.int r.1), r.2.1, r.2.2.1, r.2.2.2)
                                      refine mx_S.pu (pc2 := 525) (lv2 := [(0, .ref 2000000000), (1, .ref l1), (2, .ref l2), (3, .int l3)]) (st2 := []) hm dL_law_524 rfl ?_
                                      refine mx_S.pu (pc2 := 528) (lv2 := [(0, .ref 2000000000), (1, .ref l1), (2, .ref l2), (3, .int l3)]) (st2 := []) hm dL_law_525 rfl ?_
                                      replace hf := xl_el hf; obtain ⟨v213, e_v213, hf⟩ := hf
                                      refine mx_S.pu (pc2 := 531) (lv2 := [(3, .int v213), (0, .ref 2000000000), (1, .ref l1), (2, .ref l2)]) (st2 := []) hm dL_law_528 (by rw [← e_v213]; rfl) ?_
                                      clear e_v213
                                      refine mx_S.pu (pc2 := 18) (lv2 := [(3, .int v213), (0, .ref 2000000000), (1, .ref l1), (2, .ref l2)]) (st2 := []) hm dL_law_531 rfl ?_
                                      refine mx_S.ext [(0, .ref 2000000000), (1, .ref l1), (2, .ref l2), (3, .int v213)] (mx_sub_pos [1, 2, 3, 0] rfl (show ([3, 0, 1, 2] : List Nat).Nodup by decide)) ?_
                                      exact ih l1 l2 v213 u212.2 c s _ hf
                                    · rcases (show (v23.toInt < 0 ∨ 15 < v23.toInt) ∨ v23.toInt = 0 ∨ v23.toInt = 1 ∨ v23.toInt = 2 ∨ v23.toInt = 3 ∨ v23.toInt = 4 ∨ v23.toInt = 5 ∨ v23.toInt = 6 ∨ v23.toInt = 7 ∨ v23.toInt = 8 ∨ v23.toInt = 9 ∨ v23.toInt = 10 ∨ v23.toInt = 11 ∨ v23.toInt = 12 ∨ v23.toInt = 13 ∨ v23.toInt = 14 ∨ v23.toInt = 15 by omega) with z0 | z0 | z0 | z0 | z0 | z0 | z0 | z0 | z0 | z0 | z0 | z0 | z0 | z0 | z0 | z0 | z0
                                      · refine sx_tout hm dL_law_33 z0 (tgt := 528) rfl ?_
                                        replace hf := xl_el hf; obtain ⟨v24, e_v24, hf⟩ := hf
                                        refine mx_S.pu (pc2 := 531) (lv2 := [(3, .int v24), (0, .ref 2000000000), (1, .ref l1), (2, .ref l2)]) (st2 := []) hm dL_law_528 (by rw [← e_v24]; rfl) ?_
                                        clear e_v24
                                        refine mx_S.pu (pc2 := 18) (lv2 := [(3, .int v24), (0, .ref 2000000000), (1, .ref l1), (2, .ref l2)]) (st2 := []) hm dL_law_531 rfl ?_
                                        refine mx_S.ext [(0, .ref 2000000000), (1, .ref l1), (2, .ref l2), (3, .int v24)] (mx_sub_pos [1, 2, 3, 0] rfl (show ([3, 0, 1, 2] : List Nat).Nodup by decide)) ?_
                                        exact ih l1 l2 v24 h c s _ hf
                                      · exact absurd (Int32.toInt_inj.mp (z0.trans (by decide : (0 : Int) = (0 : Int32).toInt))) n_0
                                      · exact absurd (Int32.toInt_inj.mp (z0.trans (by decide : (1 : Int) = (1 : Int32).toInt))) n_1
                                      · exact absurd (Int32.toInt_inj.mp (z0.trans (by decide : (2 : Int) = (2 : Int32).toInt))) n_2
                                      · exact absurd (Int32.toInt_inj.mp (z0.trans (by decide : (3 : Int) = (3 : Int32).toInt))) n_3
                                      · exact absurd (Int32.toInt_inj.mp (z0.trans (by decide : (4 : Int) = (4 : Int32).toInt))) n_4
                                      · exact absurd (Int32.toInt_inj.mp (z0.trans (by decide : (5 : Int) = (5 : Int32).toInt))) n_5
                                      · exact absurd (Int32.toInt_inj.mp (z0.trans (by decide : (6 : Int) = (6 : Int32).toInt))) n_6
                                      · exact absurd (Int32.toInt_inj.mp (z0.trans (by decide : (7 : Int) = (7 : Int32).toInt))) n_7
                                      · exact absurd (Int32.toInt_inj.mp (z0.trans (by decide : (8 : Int) = (8 : Int32).toInt))) n_8
                                      · exact absurd (Int32.toInt_inj.mp (z0.trans (by decide : (9 : Int) = (9 : Int32).toInt))) n_9
                                      · exact absurd (Int32.toInt_inj.mp (z0.trans (by decide : (10 : Int) = (10 : Int32).toInt))) n_10
                                      · exact absurd (Int32.toInt_inj.mp (z0.trans (by decide : (11 : Int) = (11 : Int32).toInt))) n_11
                                      · exact absurd (Int32.toInt_inj.mp (z0.trans (by decide : (12 : Int) = (12 : Int32).toInt))) n_12
                                      · exact absurd (Int32.toInt_inj.mp (z0.trans (by decide : (13 : Int) = (13 : Int32).toInt))) n_13
                                      · exact absurd (Int32.toInt_inj.mp (z0.trans (by decide : (14 : Int) = (14 : Int32).toInt))) n_14
                                      · exact absurd (Int32.toInt_inj.mp (z0.trans (by decide : (15 : Int) = (15 : Int32).toInt))) n_15
set_option maxHeartbeats 4000000 in
set_option maxRecDepth 20000 in
theorem f_L_law_ok (X : Nat × (Nat → Int32)) {F L : Nat} (hF : 1810 ≤ F) (hL : 48830 ≤ L) (nn : Nat) (h : mx_H) {r : (Int32 × mx_H × Nat × Nat)} (hf : f_L_law X nn h = some r) : mx_R X F L 0 [.ref 2000000000] h (some (.int r.1), r.2.1, r.2.2.1, r.2.2.2) := by
  have hm : mx_mt 0 = some (yL_law, cL_law, 4, (some .boolean)) := mt_L_law
  show mx_S X F L 0 0 [(0, .ref 2000000000)] [] h 0 0 (some (.int r.1), r.2.1, r.2.2.1, r.2.2.2)
  unfold f_L_law at hf
  replace hf := mx_sv_el hf; obtain ⟨u215, e_u215, hf⟩ := hf
  refine sx_no hm dL_law_0 rs_RL_7 (dx_12 X) e_u215 ?_
  clear e_u215
  refine mx_S.pu (pc2 := 4) (lv2 := [(0, .ref 2000000000)]) (st2 := [.ref u215.1, .ref u215.1]) hm dL_law_3 rfl ?_
  replace hf := mx_sv_el hf; obtain ⟨u216, e_u216, hf⟩ := hf
  refine sx_ci hm dL_law_4 (t := 3) (by decide) rs_RL_9 mt_X12_init [] [.ref u215.1] (b := u215.1) rfl rfl (Nat.le_of_ble_eq_true rfl) (Nat.le_of_ble_eq_true rfl) (by omega) (by omega) (f_X12_init_ok X (by omega) (by omega) nn u215.1 u215.2 e_u216) ?_
  clear e_u216
  show mx_S X F L 0 7 [(0, .ref 2000000000)] [.ref u215.1] u216.1 ((0 + 1) + u216.2.1) ((0 + 11) + u216.2.2) (some (.int r.1), r.2.1, r.2.2.1, r.2.2.2)
  refine mx_S.pu (pc2 := 8) (lv2 := [(1, .ref u215.1), (0, .ref 2000000000)]) (st2 := []) hm dL_law_7 rfl ?_
  replace hf := mx_sv_el hf; obtain ⟨u217, e_u217, hf⟩ := hf
  refine sx_no hm dL_law_8 rs_RL_10 (dx_13 X) e_u217 ?_
  clear e_u217
  refine mx_S.pu (pc2 := 12) (lv2 := [(1, .ref u215.1), (0, .ref 2000000000)]) (st2 := [.ref u217.1, .ref u217.1]) hm dL_law_11 rfl ?_
  replace hf := mx_sv_el hf; obtain ⟨u218, e_u218, hf⟩ := hf
  refine sx_ci hm dL_law_12 (t := 3) (by decide) rs_RL_12 mt_X13_init [] [.ref u217.1] (b := u217.1) rfl rfl (Nat.le_of_ble_eq_true rfl) (Nat.le_of_ble_eq_true rfl) (by omega) (by omega) (f_X13_init_ok X (by omega) (by omega) nn u217.1 u217.2 e_u218) ?_
  clear e_u218
  show mx_S X F L 0 15 [(1, .ref u215.1), (0, .ref 2000000000)] [.ref u217.1] u218.1 ((((0 + 1) + u216.2.1) + 1) + u218.2.1) ((((0 + 11) + u216.2.2) + 155) + u218.2.2) (some (.int r.1), r.2.1, r.2.2.1, r.2.2.2)
  refine mx_S.pu (pc2 := 16) (lv2 := [(2, .ref u217.1), (1, .ref u215.1), (0, .ref 2000000000)]) (st2 := []) hm dL_law_15 rfl ?_
  refine sx_ic (v := 0) hm dL_law_16 (by decide) ?_
  refine mx_S.pu (pc2 := 18) (lv2 := [(3, .int 0), (2, .ref u217.1), (1, .ref u215.1), (0, .ref 2000000000)]) (st2 := []) hm dL_law_17 rfl ?_
  refine mx_S.ext [(0, .ref 2000000000), (1, .ref u215.1), (2, .ref u217.1), (3, .int 0)] (mx_sub_pos [3, 2, 1, 0] rfl (show ([3, 2, 1, 0] : List Nat).Nodup by decide)) ?_
  exact w_L_law_18_ok X hF hL nn nn u215.1 u217.1 0 u218.1 ((((0 + 1) + u216.2.1) + 1) + u218.2.1) ((((0 + 11) + u216.2.2) + 155) + u218.2.2) _ hf
