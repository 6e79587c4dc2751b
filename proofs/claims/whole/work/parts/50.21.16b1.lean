set_option maxHeartbeats 4000000 in
set_option maxRecDepth 20000 in
theorem w_X3_readFrames_33_ok (X : Nat × (Nat → Int32)) {F L : Nat} (hF : 3 ≤ F) (hL : 66 ≤ L) (nn : Nat) : ∀ (k : Nat) (l0 : Nat) (l2 : Int32) (l3 : Int32) (h : mx_H) (r : mx_H), w_X3_readFrames_33 nn k l0 l2 l3 h = some r → mx_S X F L 124 33 [(0, .ref l0), (2, .int l2), (3, .int l3)] [] h 0 0 (none, r, 0, 0) := by
  have hm : mx_mt 124 = some (yX3_readFrames, cX3_readFrames, 4, none) := mt_X3_readFrames
  intro k
  induction k with
  | zero => intro l0 l2 l3 h r hf; cases hf
  | succ k ih =>
    intro l0 l2 l3 h r hf
    unfold w_X3_readFrames_33 at hf
    refine mx_S.pu (pc2 := 34) (lv2 := [(0, .ref l0), (2, .int l2), (3, .int l3)]) (st2 := [.int l3]) hm dX3_readFrames_33 rfl ?_
    refine mx_S.pu (pc2 := 35) (lv2 := [(0, .ref l0), (2, .int l2), (3, .int l3)]) (st2 := [.int l2, .int l3]) hm dX3_readFrames_34 rfl ?_
    rcases mx_if_el hf with ⟨c10, hf⟩ | ⟨c10, hf⟩
    · refine sb_ic_ge hm dX3_readFrames_35 (tgt := 65) rfl (fun _ => ?_) (fun z => absurd c10 z)
      cases hf
      exact sx_ret hm dX3_readFrames_65 rfl
    · refine sb_ic_ge hm dX3_readFrames_35 (tgt := 65) rfl (fun z => absurd z c10) (fun _ => ?_)
      refine mx_S.pu (pc2 := 39) (lv2 := [(0, .ref l0), (2, .int l2), (3, .int l3)]) (st2 := [.ref l0]) hm dX3_readFrames_38 rfl ?_
      replace hf := mx_sv_el hf; obtain ⟨v1, e_v1, hf⟩ := hf
      refine sx_get hm dX3_readFrames_39 rs_RX3_46 (xgi_el e_v1) ?_
      clear e_v1
      refine sx_ic (v := (-1)) hm dX3_readFrames_42 (by decide) ?_
      rcases mx_if_el hf with ⟨c9, hf⟩ | ⟨c9, hf⟩
      · refine sb_ic_ne hm dX3_readFrames_43 (tgt := 65) rfl (fun _ => ?_) (fun z => absurd c9 z)
        cases hf
        exact sx_ret hm dX3_readFrames_65 rfl
      · refine sb_ic_ne hm dX3_readFrames_43 (tgt := 65) rfl (fun z => absurd z c9) (fun _ => ?_)
        refine mx_S.pu (pc2 := 47) (lv2 := [(0, .ref l0), (2, .int l2), (3, .int l3)]) (st2 := [.ref l0]) hm dX3_readFrames_46 rfl ?_
        refine sx_ic (v := 1) hm dX3_readFrames_47 (by decide) ?_
        replace hf := mx_gd_el hf; obtain ⟨c2, hf⟩ := hf
        replace hf := mx_sv_el hf; obtain ⟨u3, e_u3, hf⟩ := hf
        refine sx_cv hm dX3_readFrames_48 rs_RX3_164 mt_X3_skipPairs [.int 1] [] (b := l0) (ci := 3) rfl rfl rfl c2 (Nat.le_of_ble_eq_true rfl) (Nat.le_of_ble_eq_true rfl) (by omega) (by omega) (f_X3_skipPairs_ok X (by omega) (by omega) nn l0 1 h e_u3) ?_
        clear e_u3
        show mx_S X F L 124 51 [(0, .ref l0), (2, .int l2), (3, .int l3)] [] u3 0 0 (none, r, 0, 0)
        refine mx_S.pu (pc2 := 52) (lv2 := [(0, .ref l0), (2, .int l2), (3, .int l3)]) (st2 := [.ref l0]) hm dX3_readFrames_51 rfl ?_
        replace hf := mx_gd_el hf; obtain ⟨c4, hf⟩ := hf
        replace hf := mx_sv_el hf; obtain ⟨u5, e_u5, hf⟩ := hf
        refine sx_cv hm dX3_readFrames_52 rs_RX3_170 mt_X3_readFrameTypes [] [] (b := l0) (ci := 3) rfl rfl rfl c4 (Nat.le_of_ble_eq_true rfl) (Nat.le_of_ble_eq_true rfl) (by omega) (by omega) (f_X3_readFrameTypes_ok X (by omega) (by omega) nn l0 u3 e_u5) ?_
        clear e_u5
        show mx_S X F L 124 55 [(0, .ref l0), (2, .int l2), (3, .int l3)] [] u5 0 0 (none, r, 0, 0)
        refine mx_S.pu (pc2 := 56) (lv2 := [(0, .ref l0), (2, .int l2), (3, .int l3)]) (st2 := [.ref l0]) hm dX3_readFrames_55 rfl ?_
        replace hf := mx_gd_el hf; obtain ⟨c6, hf⟩ := hf
        replace hf := mx_sv_el hf; obtain ⟨u7, e_u7, hf⟩ := hf
        refine sx_cv hm dX3_readFrames_56 rs_RX3_170 mt_X3_readFrameTypes [] [] (b := l0) (ci := 3) rfl rfl rfl c6 (Nat.le_of_ble_eq_true rfl) (Nat.le_of_ble_eq_true rfl) (by omega) (by omega) (f_X3_readFrameTypes_ok X (by omega) (by omega) nn l0 u5 e_u7) ?_
        clear e_u7
        show mx_S X F L 124 59 [(0, .ref l0), (2, .int l2), (3, .int l3)] [] u7 0 0 (none, r, 0, 0)
        replace hf := xl_el hf; obtain ⟨v8, e_v8, hf⟩ := hf
        refine mx_S.pu (pc2 := 62) (lv2 := [(3, .int v8), (0, .ref l0), (2, .int l2)]) (st2 := []) hm dX3_readFrames_59 (by rw [← e_v8]; rfl) ?_
        clear e_v8
        refine mx_S.pu (pc2 := 33) (lv2 := [(3, .int v8), (0, .ref l0), (2, .int l2)]) (st2 := []) hm dX3_readFrames_62 rfl ?_
        refine mx_S.ext [(0, .ref l0), (2, .int l2), (3, .int v8)] (mx_sub_pos [1, 2, 0] rfl (show ([3, 0, 2] : List Nat).Nodup by decide)) ?_
        exact ih l0 l2 v8 u7 _ hf
set_option maxHeartbeats 4000000 in
set_option maxRecDepth 20000 in
theorem f_X3_readFrames_ok (X : Nat × (Nat → Int32)) {F L : Nat} (hF : 3 ≤ F) (hL : 66 ≤ L) (nn : Nat) (a0 : Nat) (a1 : Int32) (h : mx_H) {r : mx_H} (hf : f_X3_readFrames nn a0 a1 h = some r) : mx_R X F L 124 [.ref a0, .int a1] h (none, r, 0, 0) := by
  have hm : mx_mt 124 = some (yX3_readFrames, cX3_readFrames, 4, none) := mt_X3_readFrames
  show mx_S X F L 124 0 [(0, .ref a0), (1, .int a1)] [] h 0 0 (none, r, 0, 0)
  unfold f_X3_readFrames at hf
  refine mx_S.pu (pc2 := 1) (lv2 := [(0, .ref a0), (1, .int a1)]) (st2 := [.ref a0]) hm dX3_readFrames_0 rfl ?_
  refine sx_ic (v := 0) hm dX3_readFrames_1 (by decide) ?_
  refine sx_bi (v := 100) hm dX3_readFrames_2 (by decide) ?_
  replace hf := mx_gd_el hf; obtain ⟨c11, hf⟩ := hf
  replace hf := mx_sv_el hf; obtain ⟨u12, e_u12, hf⟩ := hf
  refine sx_cv hm dX3_readFrames_4 rs_RX3_71 mt_X3_nextUpTo [.int 0, .int 100] [] (b := a0) (ci := 3) rfl rfl rfl c11 (Nat.le_of_ble_eq_true rfl) (Nat.le_of_ble_eq_true rfl) (by omega) (by omega) (f_X3_nextUpTo_ok X (by omega) (by omega) nn a0 0 100 h e_u12) ?_
  clear e_u12
  show mx_S X F L 124 7 [(0, .ref a0), (1, .int a1)] [.int u12.1] u12.2 0 0 (none, r, 0, 0)
  refine mx_S.pu (pc2 := 8) (lv2 := [(2, .int u12.1), (0, .ref a0), (1, .int a1)]) (st2 := []) hm dX3_readFrames_7 rfl ?_
  refine mx_S.pu (pc2 := 9) (lv2 := [(2, .int u12.1), (0, .ref a0), (1, .int a1)]) (st2 := [.ref a0]) hm dX3_readFrames_8 rfl ?_
  replace hf := mx_sv_el hf; obtain ⟨v13, e_v13, hf⟩ := hf
  refine sx_get hm dX3_readFrames_9 rs_RX3_30 (xgr_el e_v13) ?_
  clear e_v13
  refine mx_S.pu (pc2 := 13) (lv2 := [(2, .int u12.1), (0, .ref a0), (1, .int a1)]) (st2 := [.int a1, .ref v13]) hm dX3_readFrames_12 rfl ?_
  refine sx_bi (v := 9) hm dX3_readFrames_13 (by decide) ?_
  replace hf := xl_el hf; obtain ⟨v14, e_v14, hf⟩ := hf
  refine mx_S.pu (pc2 := 16) (lv2 := [(2, .int u12.1), (0, .ref a0), (1, .int a1)]) (st2 := [.int v14, .ref v13]) hm dX3_readFrames_15 (by rw [← e_v14]; rfl) ?_
  clear e_v14
  refine mx_S.pu (pc2 := 17) (lv2 := [(2, .int u12.1), (0, .ref a0), (1, .int a1)]) (st2 := [.int u12.1, .int v14, .ref v13]) hm dX3_readFrames_16 rfl ?_
  replace hf := mx_sv_el hf; obtain ⟨h15, e_h15, hf⟩ := hf
  refine sx_ast hm dX3_readFrames_17 e_h15 ?_
  clear e_h15
  refine mx_S.pu (pc2 := 19) (lv2 := [(2, .int u12.1), (0, .ref a0), (1, .int a1)]) (st2 := [.ref a0]) hm dX3_readFrames_18 rfl ?_
  replace hf := mx_sv_el hf; obtain ⟨v16, e_v16, hf⟩ := hf
  refine sx_get hm dX3_readFrames_19 rs_RX3_30 (xgr_el e_v16) ?_
  clear e_v16
  refine mx_S.pu (pc2 := 23) (lv2 := [(2, .int u12.1), (0, .ref a0), (1, .int a1)]) (st2 := [.int a1, .ref v16]) hm dX3_readFrames_22 rfl ?_
  refine sx_bi (v := 10) hm dX3_readFrames_23 (by decide) ?_
  replace hf := xl_el hf; obtain ⟨v17, e_v17, hf⟩ := hf
  refine mx_S.pu (pc2 := 26) (lv2 := [(2, .int u12.1), (0, .ref a0), (1, .int a1)]) (st2 := [.int v17, .ref v16]) hm dX3_readFrames_25 (by rw [← e_v17]; rfl) ?_
  clear e_v17
  refine mx_S.pu (pc2 := 27) (lv2 := [(2, .int u12.1), (0, .ref a0), (1, .int a1)]) (st2 := [.ref a0, .int v17, .ref v16]) hm dX3_readFrames_26 rfl ?_
  replace hf := mx_sv_el hf; obtain ⟨v18, e_v18, hf⟩ := hf
  refine sx_get hm dX3_readFrames_27 rs_RX3_43 (xgi_el e_v18) ?_
  clear e_v18
  replace hf := mx_sv_el hf; obtain ⟨h19, e_h19, hf⟩ := hf
  refine sx_ast hm dX3_readFrames_30 e_h19 ?_
  clear e_h19
  refine sx_ic (v := 0) hm dX3_readFrames_31 (by decide) ?_
  refine mx_S.pu (pc2 := 33) (lv2 := [(3, .int 0), (2, .int u12.1), (0, .ref a0), (1, .int a1)]) (st2 := []) hm dX3_readFrames_32 rfl ?_
  refine mx_S.ext [(0, .ref a0), (2, .int u12.1), (3, .int 0)] (mx_sub_pos [2, 1, 0] rfl (show ([3, 2, 0, 1] : List Nat).Nodup by decide)) ?_
  exact w_X3_readFrames_33_ok X hF hL nn nn a0 u12.1 0 h19 _ hf
set_option maxHeartbeats 4000000 in
set_option maxRecDepth 20000 in
theorem w_X3_readHandlers_33_ok (X : Nat × (Nat → Int32)) {F L : Nat} (hF : 2 ≤ F) (hL : 44 ≤ L) (nn : Nat) : ∀ (k : Nat) (l0 : Nat) (l2 : Int32) (l3 : Int32) (h : mx_H) (r : mx_H), w_X3_readHandlers_33 nn k l0 l2 l3 h = some r → mx_S X F L 123 33 [(0, .ref l0), (2, .int l2), (3, .int l3)] [] h 0 0 (none, r, 0, 0) := by
  have hm : mx_mt 123 = some (yX3_readHandlers, cX3_readHandlers, 4, none) := mt_X3_readHandlers
  intro k
  induction k with
  | zero => intro l0 l2 l3 h r hf; cases hf
  | succ k ih =>
    intro l0 l2 l3 h r hf
    unfold w_X3_readHandlers_33 at hf
    refine mx_S.pu (pc2 := 34) (lv2 := [(0, .ref l0), (2, .int l2), (3, .int l3)]) (st2 := [.int l3]) hm dX3_readHandlers_33 rfl ?_
    refine mx_S.pu (pc2 := 35) (lv2 := [(0, .ref l0), (2, .int l2), (3, .int l3)]) (st2 := [.int l2, .int l3]) hm dX3_readHandlers_34 rfl ?_
    rcases mx_if_el hf with ⟨c8, hf⟩ | ⟨c8, hf⟩
    · refine sb_ic_ge hm dX3_readHandlers_35 (tgt := 61) rfl (fun _ => ?_) (fun z => absurd c8 z)
      cases hf
      exact sx_ret hm dX3_readHandlers_61 rfl
    · refine sb_ic_ge hm dX3_readHandlers_35 (tgt := 61) rfl (fun z => absurd z c8) (fun _ => ?_)
      refine mx_S.pu (pc2 := 39) (lv2 := [(0, .ref l0), (2, .int l2), (3, .int l3)]) (st2 := [.ref l0]) hm dX3_readHandlers_38 rfl ?_
      replace hf := mx_sv_el hf; obtain ⟨v1, e_v1, hf⟩ := hf
      refine sx_get hm dX3_readHandlers_39 rs_RX3_46 (xgi_el e_v1) ?_
      clear e_v1
      refine sx_ic (v := (-1)) hm dX3_readHandlers_42 (by decide) ?_
      rcases mx_if_el hf with ⟨c7, hf⟩ | ⟨c7, hf⟩
      · refine sb_ic_ne hm dX3_readHandlers_43 (tgt := 61) rfl (fun _ => ?_) (fun z => absurd c7 z)
        cases hf
        exact sx_ret hm dX3_readHandlers_61 rfl
      · refine sb_ic_ne hm dX3_readHandlers_43 (tgt := 61) rfl (fun z => absurd z c7) (fun _ => ?_)
        refine mx_S.pu (pc2 := 47) (lv2 := [(0, .ref l0), (2, .int l2), (3, .int l3)]) (st2 := [.ref l0]) hm dX3_readHandlers_46 rfl ?_
        refine sx_ic (v := 3) hm dX3_readHandlers_47 (by decide) ?_
        replace hf := mx_gd_el hf; obtain ⟨c2, hf⟩ := hf
        replace hf := mx_sv_el hf; obtain ⟨u3, e_u3, hf⟩ := hf
        refine sx_cv hm dX3_readHandlers_48 rs_RX3_164 mt_X3_skipPairs [.int 3] [] (b := l0) (ci := 3) rfl rfl rfl c2 (Nat.le_of_ble_eq_true rfl) (Nat.le_of_ble_eq_true rfl) (by omega) (by omega) (f_X3_skipPairs_ok X (by omega) (by omega) nn l0 3 h e_u3) ?_
        clear e_u3
        show mx_S X F L 123 51 [(0, .ref l0), (2, .int l2), (3, .int l3)] [] u3 0 0 (none, r, 0, 0)
        refine mx_S.pu (pc2 := 52) (lv2 := [(0, .ref l0), (2, .int l2), (3, .int l3)]) (st2 := [.ref l0]) hm dX3_readHandlers_51 rfl ?_
        replace hf := mx_gd_el hf; obtain ⟨c4, hf⟩ := hf
        replace hf := mx_sv_el hf; obtain ⟨u5, e_u5, hf⟩ := hf
        refine sx_cv hm dX3_readHandlers_52 rs_RX3_167 mt_X3_nextClass [] [] (b := l0) (ci := 3) rfl rfl rfl c4 (Nat.le_of_ble_eq_true rfl) (Nat.le_of_ble_eq_true rfl) (by omega) (by omega) (f_X3_nextClass_ok X (by omega) (by omega) nn l0 u3 e_u5) ?_
        clear e_u5
        show mx_S X F L 123 55 [(0, .ref l0), (2, .int l2), (3, .int l3)] [] u5 0 0 (none, r, 0, 0)
        replace hf := xl_el hf; obtain ⟨v6, e_v6, hf⟩ := hf
        refine mx_S.pu (pc2 := 58) (lv2 := [(3, .int v6), (0, .ref l0), (2, .int l2)]) (st2 := []) hm dX3_readHandlers_55 (by rw [← e_v6]; rfl) ?_
        clear e_v6
        refine mx_S.pu (pc2 := 33) (lv2 := [(3, .int v6), (0, .ref l0), (2, .int l2)]) (st2 := []) hm dX3_readHandlers_58 rfl ?_
        refine mx_S.ext [(0, .ref l0), (2, .int l2), (3, .int v6)] (mx_sub_pos [1, 2, 0] rfl (show ([3, 0, 2] : List Nat).Nodup by decide)) ?_
        exact ih l0 l2 v6 u5 _ hf
set_option maxHeartbeats 4000000 in
set_option maxRecDepth 20000 in
theorem f_X3_readHandlers_ok (X : Nat × (Nat → Int32)) {F L : Nat} (hF : 2 ≤ F) (hL : 44 ≤ L) (nn : Nat) (a0 : Nat) (a1 : Int32) (h : mx_H) {r : mx_H} (hf : f_X3_readHandlers nn a0 a1 h = some r) : mx_R X F L 123 [.ref a0, .int a1] h (none, r, 0, 0) := by
  have hm : mx_mt 123 = some (yX3_readHandlers, cX3_readHandlers, 4, none) := mt_X3_readHandlers
  show mx_S X F L 123 0 [(0, .ref a0), (1, .int a1)] [] h 0 0 (none, r, 0, 0)
  unfold f_X3_readHandlers at hf
  refine mx_S.pu (pc2 := 1) (lv2 := [(0, .ref a0), (1, .int a1)]) (st2 := [.ref a0]) hm dX3_readHandlers_0 rfl ?_
  refine sx_ic (v := 0) hm dX3_readHandlers_1 (by decide) ?_
  refine sx_bi (v := 20) hm dX3_readHandlers_2 (by decide) ?_
  replace hf := mx_gd_el hf; obtain ⟨c9, hf⟩ := hf
  replace hf := mx_sv_el hf; obtain ⟨u10, e_u10, hf⟩ := hf
  refine sx_cv hm dX3_readHandlers_4 rs_RX3_71 mt_X3_nextUpTo [.int 0, .int 20] [] (b := a0) (ci := 3) rfl rfl rfl c9 (Nat.le_of_ble_eq_true rfl) (Nat.le_of_ble_eq_true rfl) (by omega) (by omega) (f_X3_nextUpTo_ok X (by omega) (by omega) nn a0 0 20 h e_u10) ?_
  clear e_u10
  show mx_S X F L 123 7 [(0, .ref a0), (1, .int a1)] [.int u10.1] u10.2 0 0 (none, r, 0, 0)
  refine mx_S.pu (pc2 := 8) (lv2 := [(2, .int u10.1), (0, .ref a0), (1, .int a1)]) (st2 := []) hm dX3_readHandlers_7 rfl ?_
  refine mx_S.pu (pc2 := 9) (lv2 := [(2, .int u10.1), (0, .ref a0), (1, .int a1)]) (st2 := [.ref a0]) hm dX3_readHandlers_8 rfl ?_
  replace hf := mx_sv_el hf; obtain ⟨v11, e_v11, hf⟩ := hf
  refine sx_get hm dX3_readHandlers_9 rs_RX3_30 (xgr_el e_v11) ?_
  clear e_v11
  refine mx_S.pu (pc2 := 13) (lv2 := [(2, .int u10.1), (0, .ref a0), (1, .int a1)]) (st2 := [.int a1, .ref v11]) hm dX3_readHandlers_12 rfl ?_
  refine sx_bi (v := 7) hm dX3_readHandlers_13 (by decide) ?_
  replace hf := xl_el hf; obtain ⟨v12, e_v12, hf⟩ := hf
  refine mx_S.pu (pc2 := 16) (lv2 := [(2, .int u10.1), (0, .ref a0), (1, .int a1)]) (st2 := [.int v12, .ref v11]) hm dX3_readHandlers_15 (by rw [← e_v12]; rfl) ?_
  clear e_v12
  refine mx_S.pu (pc2 := 17) (lv2 := [(2, .int u10.1), (0, .ref a0), (1, .int a1)]) (st2 := [.int u10.1, .int v12, .ref v11]) hm dX3_readHandlers_16 rfl ?_
  replace hf := mx_sv_el hf; obtain ⟨h13, e_h13, hf⟩ := hf
  refine sx_ast hm dX3_readHandlers_17 e_h13 ?_
  clear e_h13
  refine mx_S.pu (pc2 := 19) (lv2 := [(2, .int u10.1), (0, .ref a0), (1, .int a1)]) (st2 := [.ref a0]) hm dX3_readHandlers_18 rfl ?_
  replace hf := mx_sv_el hf; obtain ⟨v14, e_v14, hf⟩ := hf
  refine sx_get hm dX3_readHandlers_19 rs_RX3_30 (xgr_el e_v14) ?_
  clear e_v14
  refine mx_S.pu (pc2 := 23) (lv2 := [(2, .int u10.1), (0, .ref a0), (1, .int a1)]) (st2 := [.int a1, .ref v14]) hm dX3_readHandlers_22 rfl ?_
  refine sx_bi (v := 8) hm dX3_readHandlers_23 (by decide) ?_
  replace hf := xl_el hf; obtain ⟨v15, e_v15, hf⟩ := hf
  refine mx_S.pu (pc2 := 26) (lv2 := [(2, .int u10.1), (0, .ref a0), (1, .int a1)]) (st2 := [.int v15, .ref v14]) hm dX3_readHandlers_25 (by rw [← e_v15]; rfl) ?_
  clear e_v15
  refine mx_S.pu (pc2 := 27) (lv2 := [(2, .int u10.1), (0, .ref a0), (1, .int a1)]) (st2 := [.ref a0, .int v15, .ref v14]) hm dX3_readHandlers_26 rfl ?_
  replace hf := mx_sv_el hf; obtain ⟨v16, e_v16, hf⟩ := hf
  refine sx_get hm dX3_readHandlers_27 rs_RX3_43 (xgi_el e_v16) ?_
  clear e_v16
  replace hf := mx_sv_el hf; obtain ⟨h17, e_h17, hf⟩ := hf
  refine sx_ast hm dX3_readHandlers_30 e_h17 ?_
  clear e_h17
  refine sx_ic (v := 0) hm dX3_readHandlers_31 (by decide) ?_
  refine mx_S.pu (pc2 := 33) (lv2 := [(3, .int 0), (2, .int u10.1), (0, .ref a0), (1, .int a1)]) (st2 := []) hm dX3_readHandlers_32 rfl ?_
  refine mx_S.ext [(0, .ref a0), (2, .int u10.1), (3, .int 0)] (mx_sub_pos [2, 1, 0] rfl (show ([3, 2, 0, 1] : List Nat).Nodup by decide)) ?_
  exact w_X3_readHandlers_33_ok X hF hL nn nn a0 u10.1 0 h17 _ hf
