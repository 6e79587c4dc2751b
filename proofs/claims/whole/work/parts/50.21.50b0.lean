set_option maxHeartbeats 4000000 in
set_option maxRecDepth 20000 in
theorem w_X13_enter_42_ok (X : Nat × (Nat → Int32)) {F L : Nat} (hF : 0 ≤ F) (hL : 0 ≤ L) (nn : Nat) : ∀ (k : Nat) (l0 : Nat) (l3 : Int32) (h : mx_H) (r : mx_H), w_X13_enter_42 nn k l0 l3 h = some r → mx_S X F L 570 42 [(0, .ref l0), (3, .int l3)] [] h 0 0 (none, r, 0, 0) := by
  have hm : mx_mt 570 = some (yX13_enter, cX13_enter, 4, none) := mt_X13_enter
  intro k
  induction k with
  | zero => intro l0 l3 h r hf; cases hf
  | succ k ih =>
    intro l0 l3 h r hf
    unfold w_X13_enter_42 at hf
    refine mx_S.pu (pc2 := 43) (lv2 := [(0, .ref l0), (3, .int l3)]) (st2 := [.int l3]) hm dX13_enter_42 rfl ?_
    refine sx_bi (v := 60) hm dX13_enter_43 (by decide) ?_
    rcases mx_if_el hf with ⟨c10, hf⟩ | ⟨c10, hf⟩
    · refine sb_ic_ge hm dX13_enter_45 (tgt := 69) rfl (fun _ => ?_) (fun z => absurd c10 z)
      refine mx_S.pu (pc2 := 70) (lv2 := [(0, .ref l0), (3, .int l3)]) (st2 := [.ref l0]) hm dX13_enter_69 rfl ?_
      refine mx_S.pu (pc2 := 71) (lv2 := [(0, .ref l0), (3, .int l3)]) (st2 := [.ref l0, .ref l0]) hm dX13_enter_70 rfl ?_
      replace hf := mx_sv_el hf; obtain ⟨v1, e_v1, hf⟩ := hf
      refine sx_get hm dX13_enter_71 rs_RX13_1058 (xgi_el e_v1) ?_
      clear e_v1
      refine sx_ic (v := 1) hm dX13_enter_74 (by decide) ?_
      replace hf := xl_el hf; obtain ⟨v2, e_v2, hf⟩ := hf
      refine mx_S.pu (pc2 := 76) (lv2 := [(0, .ref l0), (3, .int l3)]) (st2 := [.int v2, .ref l0]) hm dX13_enter_75 (by rw [← e_v2]; rfl) ?_
      clear e_v2
      replace hf := mx_sv_el hf; obtain ⟨h3, e_h3, hf⟩ := hf
      refine sx_put hm dX13_enter_76 rs_RX13_1058 ft_13_149 ⟨rfl, rfl⟩ (fun z => by cases z) e_h3 ?_
      clear e_h3
      cases hf
      exact sx_ret hm dX13_enter_79 rfl
    · refine sb_ic_ge hm dX13_enter_45 (tgt := 69) rfl (fun z => absurd z c10) (fun _ => ?_)
      refine mx_S.pu (pc2 := 49) (lv2 := [(0, .ref l0), (3, .int l3)]) (st2 := [.ref l0]) hm dX13_enter_48 rfl ?_
      replace hf := mx_sv_el hf; obtain ⟨v4, e_v4, hf⟩ := hf
      refine sx_get hm dX13_enter_49 rs_RX13_306 (xgr_el e_v4) ?_
      clear e_v4
      refine sx_bi (v := 60) hm dX13_enter_52 (by decide) ?_
      refine mx_S.pu (pc2 := 55) (lv2 := [(0, .ref l0), (3, .int l3)]) (st2 := [.ref l0, .int 60, .ref v4]) hm dX13_enter_54 rfl ?_
      replace hf := mx_sv_el hf; obtain ⟨v5, e_v5, hf⟩ := hf
      refine sx_get hm dX13_enter_55 rs_RX13_1058 (xgi_el e_v5) ?_
      clear e_v5
      replace hf := xl_el hf; obtain ⟨v6, e_v6, hf⟩ := hf
      refine mx_S.pu (pc2 := 59) (lv2 := [(0, .ref l0), (3, .int l3)]) (st2 := [.int v6, .ref v4]) hm dX13_enter_58 (by rw [← e_v6]; rfl) ?_
      clear e_v6
      refine mx_S.pu (pc2 := 60) (lv2 := [(0, .ref l0), (3, .int l3)]) (st2 := [.int l3, .int v6, .ref v4]) hm dX13_enter_59 rfl ?_
      replace hf := xl_el hf; obtain ⟨v7, e_v7, hf⟩ := hf
      refine mx_S.pu (pc2 := 61) (lv2 := [(0, .ref l0), (3, .int l3)]) (st2 := [.int v7, .ref v4]) hm dX13_enter_60 (by rw [← e_v7]; rfl) ?_
      clear e_v7
      refine sx_ic (v := 0) hm dX13_enter_61 (by decide) ?_
      replace hf := mx_sv_el hf; obtain ⟨h8, e_h8, hf⟩ := hf
      refine sx_ast hm dX13_enter_62 e_h8 ?_
      clear e_h8
      replace hf := xl_el hf; obtain ⟨v9, e_v9, hf⟩ := hf
      refine mx_S.pu (pc2 := 66) (lv2 := [(3, .int v9), (0, .ref l0)]) (st2 := []) hm dX13_enter_63 (by rw [← e_v9]; rfl) ?_
      clear e_v9
      refine mx_S.pu (pc2 := 42) (lv2 := [(3, .int v9), (0, .ref l0)]) (st2 := []) hm dX13_enter_66 rfl ?_
      refine mx_S.ext [(0, .ref l0), (3, .int v9)] (mx_sub_pos [1, 0] rfl (show ([3, 0] : List Nat).Nodup by decide)) ?_
      exact ih l0 v9 h8 _ hf
set_option maxHeartbeats 4000000 in
set_option maxRecDepth 20000 in
theorem f_X13_enter_ok (X : Nat × (Nat → Int32)) {F L : Nat} (hF : 0 ≤ F) (hL : 0 ≤ L) (nn : Nat) (a0 : Nat) (a1 : Int32) (a2 : Int32) (h : mx_H) {r : mx_H} (hf : f_X13_enter nn a0 a1 a2 h = some r) : mx_R X F L 570 [.ref a0, .int a1, .int a2] h (none, r, 0, 0) := by
  have hm : mx_mt 570 = some (yX13_enter, cX13_enter, 4, none) := mt_X13_enter
  show mx_S X F L 570 0 [(0, .ref a0), (1, .int a1), (2, .int a2)] [] h 0 0 (none, r, 0, 0)
  unfold f_X13_enter at hf
  refine mx_S.pu (pc2 := 1) (lv2 := [(0, .ref a0), (1, .int a1), (2, .int a2)]) (st2 := [.ref a0]) hm dX13_enter_0 rfl ?_
  replace hf := mx_sv_el hf; obtain ⟨v11, e_v11, hf⟩ := hf
  refine sx_get hm dX13_enter_1 rs_RX13_294 (xgr_el e_v11) ?_
  clear e_v11
  refine mx_S.pu (pc2 := 5) (lv2 := [(0, .ref a0), (1, .int a1), (2, .int a2)]) (st2 := [.ref a0, .ref v11]) hm dX13_enter_4 rfl ?_
  replace hf := mx_sv_el hf; obtain ⟨v12, e_v12, hf⟩ := hf
  refine sx_get hm dX13_enter_5 rs_RX13_1058 (xgi_el e_v12) ?_
  clear e_v12
  refine mx_S.pu (pc2 := 9) (lv2 := [(0, .ref a0), (1, .int a1), (2, .int a2)]) (st2 := [.int a1, .int v12, .ref v11]) hm dX13_enter_8 rfl ?_
  replace hf := mx_sv_el hf; obtain ⟨h13, e_h13, hf⟩ := hf
  refine sx_ast hm dX13_enter_9 e_h13 ?_
  clear e_h13
  refine mx_S.pu (pc2 := 11) (lv2 := [(0, .ref a0), (1, .int a1), (2, .int a2)]) (st2 := [.ref a0]) hm dX13_enter_10 rfl ?_
  replace hf := mx_sv_el hf; obtain ⟨v14, e_v14, hf⟩ := hf
  refine sx_get hm dX13_enter_11 rs_RX13_297 (xgr_el e_v14) ?_
  clear e_v14
  refine mx_S.pu (pc2 := 15) (lv2 := [(0, .ref a0), (1, .int a1), (2, .int a2)]) (st2 := [.ref a0, .ref v14]) hm dX13_enter_14 rfl ?_
  replace hf := mx_sv_el hf; obtain ⟨v15, e_v15, hf⟩ := hf
  refine sx_get hm dX13_enter_15 rs_RX13_1058 (xgi_el e_v15) ?_
  clear e_v15
  refine mx_S.pu (pc2 := 19) (lv2 := [(0, .ref a0), (1, .int a1), (2, .int a2)]) (st2 := [.int a2, .int v15, .ref v14]) hm dX13_enter_18 rfl ?_
  replace hf := mx_sv_el hf; obtain ⟨h16, e_h16, hf⟩ := hf
  refine sx_ast hm dX13_enter_19 e_h16 ?_
  clear e_h16
  refine mx_S.pu (pc2 := 21) (lv2 := [(0, .ref a0), (1, .int a1), (2, .int a2)]) (st2 := [.ref a0]) hm dX13_enter_20 rfl ?_
  replace hf := mx_sv_el hf; obtain ⟨v17, e_v17, hf⟩ := hf
  refine sx_get hm dX13_enter_21 rs_RX13_300 (xgr_el e_v17) ?_
  clear e_v17
  refine mx_S.pu (pc2 := 25) (lv2 := [(0, .ref a0), (1, .int a1), (2, .int a2)]) (st2 := [.ref a0, .ref v17]) hm dX13_enter_24 rfl ?_
  replace hf := mx_sv_el hf; obtain ⟨v18, e_v18, hf⟩ := hf
  refine sx_get hm dX13_enter_25 rs_RX13_1058 (xgi_el e_v18) ?_
  clear e_v18
  refine sx_ic (v := 0) hm dX13_enter_28 (by decide) ?_
  replace hf := mx_sv_el hf; obtain ⟨h19, e_h19, hf⟩ := hf
  refine sx_ast hm dX13_enter_29 e_h19 ?_
  clear e_h19
  refine mx_S.pu (pc2 := 31) (lv2 := [(0, .ref a0), (1, .int a1), (2, .int a2)]) (st2 := [.ref a0]) hm dX13_enter_30 rfl ?_
  replace hf := mx_sv_el hf; obtain ⟨v20, e_v20, hf⟩ := hf
  refine sx_get hm dX13_enter_31 rs_RX13_303 (xgr_el e_v20) ?_
  clear e_v20
  refine mx_S.pu (pc2 := 35) (lv2 := [(0, .ref a0), (1, .int a1), (2, .int a2)]) (st2 := [.ref a0, .ref v20]) hm dX13_enter_34 rfl ?_
  replace hf := mx_sv_el hf; obtain ⟨v21, e_v21, hf⟩ := hf
  refine sx_get hm dX13_enter_35 rs_RX13_1058 (xgi_el e_v21) ?_
  clear e_v21
  refine sx_ic (v := 0) hm dX13_enter_38 (by decide) ?_
  replace hf := mx_sv_el hf; obtain ⟨h22, e_h22, hf⟩ := hf
  refine sx_ast hm dX13_enter_39 e_h22 ?_
  clear e_h22
  refine sx_ic (v := 0) hm dX13_enter_40 (by decide) ?_
  refine mx_S.pu (pc2 := 42) (lv2 := [(3, .int 0), (0, .ref a0), (1, .int a1), (2, .int a2)]) (st2 := []) hm dX13_enter_41 rfl ?_
  refine mx_S.ext [(0, .ref a0), (3, .int 0)] (mx_sub_pos [1, 0] rfl (show ([3, 0, 1, 2] : List Nat).Nodup by decide)) ?_
  exact w_X13_enter_42_ok X hF hL nn nn a0 0 h22 _ hf
set_option maxHeartbeats 4000000 in
set_option maxRecDepth 20000 in
theorem w_X13_make__74_ok (X : Nat × (Nat → Int32)) {F L : Nat} (hF : 0 ≤ F) (hL : 0 ≤ L) (nn : Nat) : ∀ (k : Nat) (l0 : Nat) (l2 : Int32) (l3 : Int32) (h : mx_H) (r : (Int32 × mx_H)), w_X13_make__74 nn k l0 l2 l3 h = some r → mx_S X F L 574 74 [(0, .ref l0), (2, .int l2), (3, .int l3)] [] h 0 0 (some (.int r.1), r.2, 0, 0) := by
  have hm : mx_mt 574 = some (yX13_make_, cX13_make_, 4, (some .int)) := mt_X13_make_
  intro k
  induction k with
  | zero => intro l0 l2 l3 h r hf; cases hf
  | succ k ih =>
    intro l0 l2 l3 h r hf
    unfold w_X13_make__74 at hf
    refine mx_S.pu (pc2 := 75) (lv2 := [(0, .ref l0), (2, .int l2), (3, .int l3)]) (st2 := [.int l3]) hm dX13_make__74 rfl ?_
    refine mx_S.pu (pc2 := 76) (lv2 := [(0, .ref l0), (2, .int l2), (3, .int l3)]) (st2 := [.int l2, .int l3]) hm dX13_make__75 rfl ?_
    rcases mx_if_el hf with ⟨c10, hf⟩ | ⟨c10, hf⟩
    · refine sb_ic_ge hm dX13_make__76 (tgt := 97) rfl (fun _ => ?_) (fun z => absurd c10 z)
      refine mx_S.pu (pc2 := 98) (lv2 := [(0, .ref l0), (2, .int l2), (3, .int l3)]) (st2 := [.ref l0]) hm dX13_make__97 rfl ?_
      refine mx_S.pu (pc2 := 99) (lv2 := [(0, .ref l0), (2, .int l2), (3, .int l3)]) (st2 := [.ref l0, .ref l0]) hm dX13_make__98 rfl ?_
      replace hf := mx_sv_el hf; obtain ⟨v1, e_v1, hf⟩ := hf
      refine sx_get hm dX13_make__99 rs_RX13_1052 (xgi_el e_v1) ?_
      clear e_v1
      refine mx_S.pu (pc2 := 103) (lv2 := [(0, .ref l0), (2, .int l2), (3, .int l3)]) (st2 := [.int l2, .int v1, .ref l0]) hm dX13_make__102 rfl ?_
      replace hf := xl_el hf; obtain ⟨v2, e_v2, hf⟩ := hf
      refine mx_S.pu (pc2 := 104) (lv2 := [(0, .ref l0), (2, .int l2), (3, .int l3)]) (st2 := [.int v2, .ref l0]) hm dX13_make__103 (by rw [← e_v2]; rfl) ?_
      clear e_v2
      replace hf := mx_sv_el hf; obtain ⟨h3, e_h3, hf⟩ := hf
      refine sx_put hm dX13_make__104 rs_RX13_1052 ft_13_142 ⟨rfl, rfl⟩ (fun z => by cases z) e_h3 ?_
      clear e_h3
      refine mx_S.pu (pc2 := 108) (lv2 := [(0, .ref l0), (2, .int l2), (3, .int l3)]) (st2 := [.ref l0]) hm dX13_make__107 rfl ?_
      replace hf := mx_sv_el hf; obtain ⟨v4, e_v4, hf⟩ := hf
      refine sx_get hm dX13_make__108 rs_RX13_1049 (xgi_el e_v4) ?_
      clear e_v4
      cases hf
      exact sx_ire hm dX13_make__111 rfl rfl
    · refine sb_ic_ge hm dX13_make__76 (tgt := 97) rfl (fun z => absurd z c10) (fun _ => ?_)
      refine mx_S.pu (pc2 := 80) (lv2 := [(0, .ref l0), (2, .int l2), (3, .int l3)]) (st2 := [.ref l0]) hm dX13_make__79 rfl ?_
      replace hf := mx_sv_el hf; obtain ⟨v5, e_v5, hf⟩ := hf
      refine sx_get hm dX13_make__80 rs_RX13_288 (xgr_el e_v5) ?_
      clear e_v5
      refine mx_S.pu (pc2 := 84) (lv2 := [(0, .ref l0), (2, .int l2), (3, .int l3)]) (st2 := [.ref l0, .ref v5]) hm dX13_make__83 rfl ?_
      replace hf := mx_sv_el hf; obtain ⟨v6, e_v6, hf⟩ := hf
      refine sx_get hm dX13_make__84 rs_RX13_1052 (xgi_el e_v6) ?_
      clear e_v6
      refine mx_S.pu (pc2 := 88) (lv2 := [(0, .ref l0), (2, .int l2), (3, .int l3)]) (st2 := [.int l3, .int v6, .ref v5]) hm dX13_make__87 rfl ?_
      replace hf := xl_el hf; obtain ⟨v7, e_v7, hf⟩ := hf
      refine mx_S.pu (pc2 := 89) (lv2 := [(0, .ref l0), (2, .int l2), (3, .int l3)]) (st2 := [.int v7, .ref v5]) hm dX13_make__88 (by rw [← e_v7]; rfl) ?_
      clear e_v7
      refine sx_ic (v := 0) hm dX13_make__89 (by decide) ?_
      replace hf := mx_sv_el hf; obtain ⟨h8, e_h8, hf⟩ := hf
      refine sx_ast hm dX13_make__90 e_h8 ?_
      clear e_h8
      replace hf := xl_el hf; obtain ⟨v9, e_v9, hf⟩ := hf
      refine mx_S.pu (pc2 := 94) (lv2 := [(3, .int v9), (0, .ref l0), (2, .int l2)]) (st2 := []) hm dX13_make__91 (by rw [← e_v9]; rfl) ?_
      clear e_v9
      refine mx_S.pu (pc2 := 74) (lv2 := [(3, .int v9), (0, .ref l0), (2, .int l2)]) (st2 := []) hm dX13_make__94 rfl ?_
      refine mx_S.ext [(0, .ref l0), (2, .int l2), (3, .int v9)] (mx_sub_pos [1, 2, 0] rfl (show ([3, 0, 2] : List Nat).Nodup by decide)) ?_
      exact ih l0 l2 v9 h8 _ hf
set_option maxHeartbeats 4000000 in
set_option maxRecDepth 20000 in
theorem j_X13_make__22_ok (X : Nat × (Nat → Int32)) {F L : Nat} (hF : 0 ≤ F) (hL : 0 ≤ L) (nn : Nat) (l0 : Nat) (h : mx_H) {r : (Int32 × mx_H)} (hf : j_X13_make__22 nn l0 h = some r) : mx_S X F L 574 22 [(0, .ref l0)] [] h 0 0 (some (.int r.1), r.2, 0, 0) := by
  have hm : mx_mt 574 = some (yX13_make_, cX13_make_, 4, (some .int)) := mt_X13_make_
  unfold j_X13_make__22 at hf
  refine mx_S.pu (pc2 := 23) (lv2 := [(0, .ref l0)]) (st2 := [.ref l0]) hm dX13_make__22 rfl ?_
  refine sx_ic (v := 4) hm dX13_make__23 (by decide) ?_
  replace hf := mx_sv_el hf; obtain ⟨h11, e_h11, hf⟩ := hf
  refine sx_put hm dX13_make__24 rs_RX13_858 ft_13_138 ⟨rfl, rfl⟩ (fun z => by cases z) e_h11 ?_
  clear e_h11
  refine sx_ic (v := 0) hm dX13_make__27 (by decide) ?_
  cases hf
  exact sx_ire hm dX13_make__28 rfl rfl
set_option maxHeartbeats 4000000 in
set_option maxRecDepth 20000 in
theorem f_X13_make__ok (X : Nat × (Nat → Int32)) {F L : Nat} (hF : 0 ≤ F) (hL : 0 ≤ L) (nn : Nat) (a0 : Nat) (a1 : Int32) (a2 : Int32) (h : mx_H) {r : (Int32 × mx_H)} (hf : f_X13_make_ nn a0 a1 a2 h = some r) : mx_R X F L 574 [.ref a0, .int a1, .int a2] h (some (.int r.1), r.2, 0, 0) := by
  have hm : mx_mt 574 = some (yX13_make_, cX13_make_, 4, (some .int)) := mt_X13_make_
  show mx_S X F L 574 0 [(0, .ref a0), (1, .int a1), (2, .int a2)] [] h 0 0 (some (.int r.1), r.2, 0, 0)
  unfold f_X13_make_ at hf
  refine mx_S.pu (pc2 := 1) (lv2 := [(0, .ref a0), (1, .int a1), (2, .int a2)]) (st2 := [.ref a0]) hm dX13_make__0 rfl ?_
  replace hf := mx_sv_el hf; obtain ⟨v12, e_v12, hf⟩ := hf
  refine sx_get hm dX13_make__1 rs_RX13_1049 (xgi_el e_v12) ?_
  clear e_v12
  refine sx_si (v := 2000) hm dX13_make__4 (by decide) ?_
  rcases mx_if_el hf with ⟨c29, hf⟩ | ⟨c29, hf⟩
  · refine sb_ic_eq hm dX13_make__7 (tgt := 22) rfl (fun _ => ?_) (fun z => absurd c29 z)
    refine mx_S.ext [(0, .ref a0)] (mx_sub_pos [0] rfl (show ([0, 1, 2] : List Nat).Nodup by decide)) ?_
    exact j_X13_make__22_ok X hF hL nn a0 h hf
  · refine sb_ic_eq hm dX13_make__7 (tgt := 22) rfl (fun z => absurd z c29) (fun _ => ?_)
    refine mx_S.pu (pc2 := 11) (lv2 := [(0, .ref a0), (1, .int a1), (2, .int a2)]) (st2 := [.int a2]) hm dX13_make__10 rfl ?_
    refine sx_si (v := 20000) hm dX13_make__11 (by decide) ?_
    refine mx_S.pu (pc2 := 15) (lv2 := [(0, .ref a0), (1, .int a1), (2, .int a2)]) (st2 := [.ref a0, .int 20000, .int a2]) hm dX13_make__14 rfl ?_
    replace hf := mx_sv_el hf; obtain ⟨v13, e_v13, hf⟩ := hf
    refine sx_get hm dX13_make__15 rs_RX13_1052 (xgi_el e_v13) ?_
    clear e_v13
    replace hf := xl_el hf; obtain ⟨v14, e_v14, hf⟩ := hf
    refine mx_S.pu (pc2 := 19) (lv2 := [(0, .ref a0), (1, .int a1), (2, .int a2)]) (st2 := [.int v14, .int a2]) hm dX13_make__18 (by rw [← e_v14]; rfl) ?_
    clear e_v14
    rcases mx_if_el hf with ⟨c28, hf⟩ | ⟨c28, hf⟩
    · refine sb_ic_le hm dX13_make__19 (tgt := 29) rfl (fun _ => ?_) (fun z => absurd c28 z)
      refine mx_S.pu (pc2 := 30) (lv2 := [(0, .ref a0), (1, .int a1), (2, .int a2)]) (st2 := [.ref a0]) hm dX13_make__29 rfl ?_
      refine mx_S.pu (pc2 := 31) (lv2 := [(0, .ref a0), (1, .int a1), (2, .int a2)]) (st2 := [.ref a0, .ref a0]) hm dX13_make__30 rfl ?_
      replace hf := mx_sv_el hf; obtain ⟨v15, e_v15, hf⟩ := hf
      refine sx_get hm dX13_make__31 rs_RX13_1049 (xgi_el e_v15) ?_
      clear e_v15
      refine sx_ic (v := 1) hm dX13_make__34 (by decide) ?_
      replace hf := xl_el hf; obtain ⟨v16, e_v16, hf⟩ := hf
      refine mx_S.pu (pc2 := 36) (lv2 := [(0, .ref a0), (1, .int a1), (2, .int a2)]) (st2 := [.int v16, .ref a0]) hm dX13_make__35 (by rw [← e_v16]; rfl) ?_
      clear e_v16
      replace hf := mx_sv_el hf; obtain ⟨h17, e_h17, hf⟩ := hf
      refine sx_put hm dX13_make__36 rs_RX13_1049 ft_13_141 ⟨rfl, rfl⟩ (fun z => by cases z) e_h17 ?_
      clear e_h17
      refine mx_S.pu (pc2 := 40) (lv2 := [(0, .ref a0), (1, .int a1), (2, .int a2)]) (st2 := [.ref a0]) hm dX13_make__39 rfl ?_
      replace hf := mx_sv_el hf; obtain ⟨v18, e_v18, hf⟩ := hf
      refine sx_get hm dX13_make__40 rs_RX13_279 (xgr_el e_v18) ?_
      clear e_v18
      refine mx_S.pu (pc2 := 44) (lv2 := [(0, .ref a0), (1, .int a1), (2, .int a2)]) (st2 := [.ref a0, .ref v18]) hm dX13_make__43 rfl ?_
      replace hf := mx_sv_el hf; obtain ⟨v19, e_v19, hf⟩ := hf
      refine sx_get hm dX13_make__44 rs_RX13_1049 (xgi_el e_v19) ?_
      clear e_v19
      refine mx_S.pu (pc2 := 48) (lv2 := [(0, .ref a0), (1, .int a1), (2, .int a2)]) (st2 := [.int a1, .int v19, .ref v18]) hm dX13_make__47 rfl ?_
      replace hf := mx_sv_el hf; obtain ⟨h20, e_h20, hf⟩ := hf
      refine sx_ast hm dX13_make__48 e_h20 ?_
      clear e_h20
      refine mx_S.pu (pc2 := 50) (lv2 := [(0, .ref a0), (1, .int a1), (2, .int a2)]) (st2 := [.ref a0]) hm dX13_make__49 rfl ?_
      replace hf := mx_sv_el hf; obtain ⟨v21, e_v21, hf⟩ := hf
      refine sx_get hm dX13_make__50 rs_RX13_282 (xgr_el e_v21) ?_
      clear e_v21
      refine mx_S.pu (pc2 := 54) (lv2 := [(0, .ref a0), (1, .int a1), (2, .int a2)]) (st2 := [.ref a0, .ref v21]) hm dX13_make__53 rfl ?_
      replace hf := mx_sv_el hf; obtain ⟨v22, e_v22, hf⟩ := hf
      refine sx_get hm dX13_make__54 rs_RX13_1049 (xgi_el e_v22) ?_
      clear e_v22
      refine mx_S.pu (pc2 := 58) (lv2 := [(0, .ref a0), (1, .int a1), (2, .int a2)]) (st2 := [.ref a0, .int v22, .ref v21]) hm dX13_make__57 rfl ?_
      replace hf := mx_sv_el hf; obtain ⟨v23, e_v23, hf⟩ := hf
      refine sx_get hm dX13_make__58 rs_RX13_1052 (xgi_el e_v23) ?_
      clear e_v23
      replace hf := mx_sv_el hf; obtain ⟨h24, e_h24, hf⟩ := hf
      refine sx_ast hm dX13_make__61 e_h24 ?_
      clear e_h24
      refine mx_S.pu (pc2 := 63) (lv2 := [(0, .ref a0), (1, .int a1), (2, .int a2)]) (st2 := [.ref a0]) hm dX13_make__62 rfl ?_
      replace hf := mx_sv_el hf; obtain ⟨v25, e_v25, hf⟩ := hf
      refine sx_get hm dX13_make__63 rs_RX13_285 (xgr_el e_v25) ?_
      clear e_v25
      refine mx_S.pu (pc2 := 67) (lv2 := [(0, .ref a0), (1, .int a1), (2, .int a2)]) (st2 := [.ref a0, .ref v25]) hm dX13_make__66 rfl ?_
      replace hf := mx_sv_el hf; obtain ⟨v26, e_v26, hf⟩ := hf
      refine sx_get hm dX13_make__67 rs_RX13_1049 (xgi_el e_v26) ?_
      clear e_v26
      refine mx_S.pu (pc2 := 71) (lv2 := [(0, .ref a0), (1, .int a1), (2, .int a2)]) (st2 := [.int a2, .int v26, .ref v25]) hm dX13_make__70 rfl ?_
      replace hf := mx_sv_el hf; obtain ⟨h27, e_h27, hf⟩ := hf
      refine sx_ast hm dX13_make__71 e_h27 ?_
      clear e_h27
      refine sx_ic (v := 0) hm dX13_make__72 (by decide) ?_
      refine mx_S.pu (pc2 := 74) (lv2 := [(3, .int 0), (0, .ref a0), (1, .int a1), (2, .int a2)]) (st2 := []) hm dX13_make__73 rfl ?_
      refine mx_S.ext [(0, .ref a0), (2, .int a2), (3, .int 0)] (mx_sub_pos [1, 3, 0] rfl (show ([3, 0, 1, 2] : List Nat).Nodup by decide)) ?_
      exact w_X13_make__74_ok X hF hL nn nn a0 a2 0 h27 _ hf
    · refine sb_ic_le hm dX13_make__19 (tgt := 29) rfl (fun z => absurd z c28) (fun _ => ?_)
      refine mx_S.ext [(0, .ref a0)] (mx_sub_pos [0] rfl (show ([0, 1, 2] : List Nat).Nodup by decide)) ?_
      exact j_X13_make__22_ok X hF hL nn a0 h hf
set_option maxHeartbeats 4000000 in
set_option maxRecDepth 20000 in
theorem f_X13_superOf_ok (X : Nat × (Nat → Int32)) {F L : Nat} (hF : 7 ≤ F) (hL : 160 ≤ L) (nn : Nat) (a0 : Nat) (a1 : Int32) (h : mx_H) {r : (Int32 × mx_H)} (hf : f_X13_superOf nn a0 a1 h = some r) : mx_R X F L 523 [.ref a0, .int a1] h (some (.int r.1), r.2, 0, 0) := by
  have hm : mx_mt 523 = some (yX13_superOf, cX13_superOf, 2, (some .int)) := mt_X13_superOf
  show mx_S X F L 523 0 [(0, .ref a0), (1, .int a1)] [] h 0 0 (some (.int r.1), r.2, 0, 0)
  unfold f_X13_superOf at hf
  refine mx_S.pu (pc2 := 1) (lv2 := [(0, .ref a0), (1, .int a1)]) (st2 := [.int a1]) hm dX13_superOf_0 rfl ?_
  refine sx_bi (v := 8) hm dX13_superOf_1 (by decide) ?_
  rcases mx_if_el hf with ⟨c12, hf⟩ | ⟨c12, hf⟩
  · refine sb_ic_ge hm dX13_superOf_3 (tgt := 25) rfl (fun _ => ?_) (fun z => absurd c12 z)
    refine mx_S.pu (pc2 := 26) (lv2 := [(0, .ref a0), (1, .int a1)]) (st2 := [.ref a0]) hm dX13_superOf_25 rfl ?_
    refine mx_S.pu (pc2 := 27) (lv2 := [(0, .ref a0), (1, .int a1)]) (st2 := [.int a1, .ref a0]) hm dX13_superOf_26 rfl ?_
    refine sx_bi (v := 8) hm dX13_superOf_27 (by decide) ?_
    replace hf := xl_el hf; obtain ⟨v1, e_v1, hf⟩ := hf
    refine mx_S.pu (pc2 := 30) (lv2 := [(0, .ref a0), (1, .int a1)]) (st2 := [.int v1, .ref a0]) hm dX13_superOf_29 (by rw [← e_v1]; rfl) ?_
    clear e_v1
    refine mx_S.pu (pc2 := 31) (lv2 := [(0, .ref a0), (1, .int a1)]) (st2 := [.ref a0, .int v1, .ref a0]) hm dX13_superOf_30 rfl ?_
    refine mx_S.pu (pc2 := 32) (lv2 := [(0, .ref a0), (1, .int a1)]) (st2 := [.int a1, .ref a0, .int v1, .ref a0]) hm dX13_superOf_31 rfl ?_
    refine sx_bi (v := 8) hm dX13_superOf_32 (by decide) ?_
    replace hf := xl_el hf; obtain ⟨v2, e_v2, hf⟩ := hf
    refine mx_S.pu (pc2 := 35) (lv2 := [(0, .ref a0), (1, .int a1)]) (st2 := [.int v2, .ref a0, .int v1, .ref a0]) hm dX13_superOf_34 (by rw [← e_v2]; rfl) ?_
    clear e_v2
    refine mx_S.pu (pc2 := 36) (lv2 := [(0, .ref a0), (1, .int a1)]) (st2 := [.ref a0, .int v2, .ref a0, .int v1, .ref a0]) hm dX13_superOf_35 rfl ?_
    replace hf := mx_sv_el hf; obtain ⟨v3, e_v3, hf⟩ := hf
    refine sx_get hm dX13_superOf_36 rs_RX13_224 (xgr_el e_v3) ?_
    clear e_v3
    refine mx_S.pu (pc2 := 40) (lv2 := [(0, .ref a0), (1, .int a1)]) (st2 := [.int a1, .ref v3, .int v2, .ref a0, .int v1, .ref a0]) hm dX13_superOf_39 rfl ?_
    refine sx_bi (v := 8) hm dX13_superOf_40 (by decide) ?_
    replace hf := xl_el hf; obtain ⟨v4, e_v4, hf⟩ := hf
    refine mx_S.pu (pc2 := 43) (lv2 := [(0, .ref a0), (1, .int a1)]) (st2 := [.int v4, .ref v3, .int v2, .ref a0, .int v1, .ref a0]) hm dX13_superOf_42 (by rw [← e_v4]; rfl) ?_
    clear e_v4
    replace hf := mx_sv_el hf; obtain ⟨v5, e_v5, hf⟩ := hf
    refine sx_ald hm dX13_superOf_43 e_v5 ?_
    clear e_v5
    replace hf := mx_gd_el hf; obtain ⟨c6, hf⟩ := hf
    replace hf := mx_sv_el hf; obtain ⟨u7, e_u7, hf⟩ := hf
    refine sx_cv hm dX13_superOf_44 rs_RX13_867 mt_X13_textOfClass [.int v2, .int v5] [.int v1, .ref a0] (b := a0) (ci := 13) rfl rfl rfl c6 (Nat.le_of_ble_eq_true rfl) (Nat.le_of_ble_eq_true rfl) (by omega) (by omega) (f_X13_textOfClass_ok X (by omega) (by omega) nn a0 v2 v5 h e_u7) ?_
    clear e_u7
    show mx_S X F L 523 47 [(0, .ref a0), (1, .int a1)] [.int u7.1, .int v1, .ref a0] u7.2 0 0 (some (.int r.1), r.2, 0, 0)
    replace hf := mx_gd_el hf; obtain ⟨c8, hf⟩ := hf
    replace hf := mx_sv_el hf; obtain ⟨u9, e_u9, hf⟩ := hf
    refine sx_cv hm dX13_superOf_47 rs_RX13_870 mt_X13_classAtText [.int v1, .int u7.1] [] (b := a0) (ci := 13) rfl rfl rfl c8 (Nat.le_of_ble_eq_true rfl) (Nat.le_of_ble_eq_true rfl) (by omega) (by omega) (f_X13_classAtText_ok X (by omega) (by omega) nn a0 v1 u7.1 u7.2 e_u9) ?_
    clear e_u9
    show mx_S X F L 523 50 [(0, .ref a0), (1, .int a1)] [.int u9.1] u9.2 0 0 (some (.int r.1), r.2, 0, 0)
    cases hf
    exact sx_ire hm dX13_superOf_50 rfl rfl
  · refine sb_ic_ge hm dX13_superOf_3 (tgt := 25) rfl (fun z => absurd z c12) (fun _ => ?_)
    refine mx_S.pu (pc2 := 7) (lv2 := [(0, .ref a0), (1, .int a1)]) (st2 := [.int a1]) hm dX13_superOf_6 rfl ?_
    rcases mx_if_el hf with ⟨c11, hf⟩ | ⟨c11, hf⟩
    · refine sb_if_ne hm dX13_superOf_7 (tgt := 14) rfl (fun _ => ?_) (fun z => absurd c11 z)
      refine mx_S.pu (pc2 := 15) (lv2 := [(0, .ref a0), (1, .int a1)]) (st2 := [.int a1]) hm dX13_superOf_14 rfl ?_
      refine sx_ic (v := 1) hm dX13_superOf_15 (by decide) ?_
      rcases mx_if_el hf with ⟨c10, hf⟩ | ⟨c10, hf⟩
      · refine sb_ic_ne hm dX13_superOf_16 (tgt := 23) rfl (fun _ => ?_) (fun z => absurd c10 z)
        refine sx_ic (v := 1) hm dX13_superOf_23 (by decide) ?_
        cases hf
        exact sx_ire hm dX13_superOf_24 rfl rfl
      · refine sb_ic_ne hm dX13_superOf_16 (tgt := 23) rfl (fun z => absurd z c10) (fun _ => ?_)
        refine sx_ic (v := 0) hm dX13_superOf_19 (by decide) ?_
        refine mx_S.pu (pc2 := 24) (lv2 := [(0, .ref a0), (1, .int a1)]) (st2 := [.int 0]) hm dX13_superOf_20 rfl ?_
        cases hf
        exact sx_ire hm dX13_superOf_24 rfl rfl
    · refine sb_if_ne hm dX13_superOf_7 (tgt := 14) rfl (fun z => absurd z c11) (fun _ => ?_)
      refine sx_ic (v := (-1)) hm dX13_superOf_10 (by decide) ?_
      refine mx_S.pu (pc2 := 24) (lv2 := [(0, .ref a0), (1, .int a1)]) (st2 := [.int (-1)]) hm dX13_superOf_11 rfl ?_
      cases hf
      exact sx_ire hm dX13_superOf_24 rfl rfl
set_option maxHeartbeats 4000000 in
set_option maxRecDepth 20000 in
theorem w_X13_isUnder_5_ok (X : Nat × (Nat → Int32)) {F L : Nat} (hF : 8 ≤ F) (hL : 181 ≤ L) (nn : Nat) : ∀ (k : Nat) (l0 : Nat) (l2 : Int32) (l3 : Int32) (l4 : Int32) (h : mx_H) (r : (Int32 × mx_H)), w_X13_isUnder_5 nn k l0 l2 l3 l4 h = some r → mx_S X F L 524 5 [(0, .ref l0), (2, .int l2), (3, .int l3), (4, .int l4)] [] h 0 0 (some (.int r.1), r.2, 0, 0) := by
  have hm : mx_mt 524 = some (yX13_isUnder, cX13_isUnder, 5, (some .boolean)) := mt_X13_isUnder
  intro k
  induction k with
  | zero => intro l0 l2 l3 l4 h r hf; cases hf
  | succ k ih =>
    intro l0 l2 l3 l4 h r hf
    unfold w_X13_isUnder_5 at hf
    refine mx_S.pu (pc2 := 7) (lv2 := [(0, .ref l0), (2, .int l2), (3, .int l3), (4, .int l4)]) (st2 := [.int l4]) hm dX13_isUnder_5 rfl ?_
    refine sx_bi (v := 16) hm dX13_isUnder_7 (by decide) ?_
    rcases mx_if_el hf with ⟨c6, hf⟩ | ⟨c6, hf⟩
    · refine sb_ic_gt hm dX13_isUnder_9 (tgt := 36) rfl (fun _ => ?_) (fun z => absurd c6 z)
      refine sx_ic (v := 0) hm dX13_isUnder_36 (by decide) ?_
      cases hf
      exact sx_ire hm dX13_isUnder_37 rfl (by decide)
    · refine sb_ic_gt hm dX13_isUnder_9 (tgt := 36) rfl (fun z => absurd z c6) (fun _ => ?_)
      refine mx_S.pu (pc2 := 13) (lv2 := [(0, .ref l0), (2, .int l2), (3, .int l3), (4, .int l4)]) (st2 := [.int l3]) hm dX13_isUnder_12 rfl ?_
      refine sx_ic (v := (-1)) hm dX13_isUnder_13 (by decide) ?_
      rcases mx_if_el hf with ⟨c5, hf⟩ | ⟨c5, hf⟩
      · refine sb_ic_eq hm dX13_isUnder_14 (tgt := 36) rfl (fun _ => ?_) (fun z => absurd c5 z)
        refine sx_ic (v := 0) hm dX13_isUnder_36 (by decide) ?_
        cases hf
        exact sx_ire hm dX13_isUnder_37 rfl (by decide)
      · refine sb_ic_eq hm dX13_isUnder_14 (tgt := 36) rfl (fun z => absurd z c5) (fun _ => ?_)
        refine mx_S.pu (pc2 := 18) (lv2 := [(0, .ref l0), (2, .int l2), (3, .int l3), (4, .int l4)]) (st2 := [.int l3]) hm dX13_isUnder_17 rfl ?_
        refine mx_S.pu (pc2 := 19) (lv2 := [(0, .ref l0), (2, .int l2), (3, .int l3), (4, .int l4)]) (st2 := [.int l2, .int l3]) hm dX13_isUnder_18 rfl ?_
        rcases mx_if_el hf with ⟨c4, hf⟩ | ⟨c4, hf⟩
        · refine sb_ic_ne hm dX13_isUnder_19 (tgt := 24) rfl (fun _ => ?_) (fun z => absurd c4 z)
          refine mx_S.pu (pc2 := 25) (lv2 := [(0, .ref l0), (2, .int l2), (3, .int l3), (4, .int l4)]) (st2 := [.ref l0]) hm dX13_isUnder_24 rfl ?_
          refine mx_S.pu (pc2 := 26) (lv2 := [(0, .ref l0), (2, .int l2), (3, .int l3), (4, .int l4)]) (st2 := [.int l3, .ref l0]) hm dX13_isUnder_25 rfl ?_
          replace hf := mx_gd_el hf; obtain ⟨c1, hf⟩ := hf
          replace hf := mx_sv_el hf; obtain ⟨u2, e_u2, hf⟩ := hf
          refine sx_cv hm dX13_isUnder_26 rs_RX13_873 mt_X13_superOf [.int l3] [] (b := l0) (ci := 13) rfl rfl rfl c1 (Nat.le_of_ble_eq_true rfl) (Nat.le_of_ble_eq_true rfl) (by omega) (by omega) (f_X13_superOf_ok X (by omega) (by omega) nn l0 l3 h e_u2) ?_
          clear e_u2
          show mx_S X F L 524 29 [(0, .ref l0), (2, .int l2), (3, .int l3), (4, .int l4)] [.int u2.1] u2.2 0 0 (some (.int r.1), r.2, 0, 0)
          refine mx_S.pu (pc2 := 30) (lv2 := [(3, .int u2.1), (0, .ref l0), (2, .int l2), (4, .int l4)]) (st2 := []) hm dX13_isUnder_29 rfl ?_
          replace hf := xl_el hf; obtain ⟨v3, e_v3, hf⟩ := hf
          refine mx_S.pu (pc2 := 33) (lv2 := [(4, .int v3), (3, .int u2.1), (0, .ref l0), (2, .int l2)]) (st2 := []) hm dX13_isUnder_30 (by rw [← e_v3]; rfl) ?_
          clear e_v3
          refine mx_S.pu (pc2 := 5) (lv2 := [(4, .int v3), (3, .int u2.1), (0, .ref l0), (2, .int l2)]) (st2 := []) hm dX13_isUnder_33 rfl ?_
          refine mx_S.ext [(0, .ref l0), (2, .int l2), (3, .int u2.1), (4, .int v3)] (mx_sub_pos [2, 3, 1, 0] rfl (show ([4, 3, 0, 2] : List Nat).Nodup by decide)) ?_
          exact ih l0 l2 u2.1 v3 u2.2 _ hf
        · refine sb_ic_ne hm dX13_isUnder_19 (tgt := 24) rfl (fun z => absurd z c4) (fun _ => ?_)
          refine sx_ic (v := 1) hm dX13_isUnder_22 (by decide) ?_
          cases hf
          exact sx_ire hm dX13_isUnder_23 rfl (by decide)
set_option maxHeartbeats 4000000 in
set_option maxRecDepth 20000 in
theorem f_X13_isUnder_ok (X : Nat × (Nat → Int32)) {F L : Nat} (hF : 8 ≤ F) (hL : 181 ≤ L) (nn : Nat) (a0 : Nat) (a1 : Int32) (a2 : Int32) (h : mx_H) {r : (Int32 × mx_H)} (hf : f_X13_isUnder nn a0 a1 a2 h = some r) : mx_R X F L 524 [.ref a0, .int a1, .int a2] h (some (.int r.1), r.2, 0, 0) := by
  have hm : mx_mt 524 = some (yX13_isUnder, cX13_isUnder, 5, (some .boolean)) := mt_X13_isUnder
  show mx_S X F L 524 0 [(0, .ref a0), (1, .int a1), (2, .int a2)] [] h 0 0 (some (.int r.1), r.2, 0, 0)
  unfold f_X13_isUnder at hf
  refine mx_S.pu (pc2 := 1) (lv2 := [(0, .ref a0), (1, .int a1), (2, .int a2)]) (st2 := [.int a1]) hm dX13_isUnder_0 rfl ?_
  refine mx_S.pu (pc2 := 2) (lv2 := [(3, .int a1), (0, .ref a0), (1, .int a1), (2, .int a2)]) (st2 := []) hm dX13_isUnder_1 rfl ?_
  refine sx_ic (v := 0) hm dX13_isUnder_2 (by decide) ?_
  refine mx_S.pu (pc2 := 5) (lv2 := [(4, .int 0), (3, .int a1), (0, .ref a0), (1, .int a1), (2, .int a2)]) (st2 := []) hm dX13_isUnder_3 rfl ?_
  refine mx_S.ext [(0, .ref a0), (2, .int a2), (3, .int a1), (4, .int 0)] (mx_sub_pos [2, 4, 1, 0] rfl (show ([4, 3, 0, 1, 2] : List Nat).Nodup by decide)) ?_
  exact w_X13_isUnder_5_ok X hF hL nn nn a0 a2 a1 0 h _ hf
set_option maxHeartbeats 4000000 in
set_option maxRecDepth 20000 in
theorem f_X13_isOne_ok (X : Nat × (Nat → Int32)) {F L : Nat} (hF : 9 ≤ F) (hL : 205 ≤ L) (nn : Nat) (a0 : Nat) (a1 : Int32) (a2 : Int32) (h : mx_H) {r : (Int32 × mx_H)} (hf : f_X13_isOne nn a0 a1 a2 h = some r) : mx_R X F L 575 [.ref a0, .int a1, .int a2] h (some (.int r.1), r.2, 0, 0) := by
  have hm : mx_mt 575 = some (yX13_isOne, cX13_isOne, 3, (some .boolean)) := mt_X13_isOne
  show mx_S X F L 575 0 [(0, .ref a0), (1, .int a1), (2, .int a2)] [] h 0 0 (some (.int r.1), r.2, 0, 0)
  unfold f_X13_isOne at hf
  refine mx_S.pu (pc2 := 1) (lv2 := [(0, .ref a0), (1, .int a1), (2, .int a2)]) (st2 := [.ref a0]) hm dX13_isOne_0 rfl ?_
  replace hf := mx_sv_el hf; obtain ⟨v1, e_v1, hf⟩ := hf
  refine sx_get hm dX13_isOne_1 rs_RX13_279 (xgr_el e_v1) ?_
  clear e_v1
  refine mx_S.pu (pc2 := 5) (lv2 := [(0, .ref a0), (1, .int a1), (2, .int a2)]) (st2 := [.int a1, .ref v1]) hm dX13_isOne_4 rfl ?_
  replace hf := mx_sv_el hf; obtain ⟨v2, e_v2, hf⟩ := hf
  refine sx_ald hm dX13_isOne_5 e_v2 ?_
  clear e_v2
  refine sx_bi (v := 99) hm dX13_isOne_6 (by decide) ?_
  rcases mx_if_el hf with ⟨c9, hf⟩ | ⟨c9, hf⟩
  · refine sb_ic_lt hm dX13_isOne_8 (tgt := 23) rfl (fun _ => ?_) (fun z => absurd c9 z)
    refine mx_S.pu (pc2 := 24) (lv2 := [(0, .ref a0), (1, .int a1), (2, .int a2)]) (st2 := [.ref a0]) hm dX13_isOne_23 rfl ?_
    refine mx_S.pu (pc2 := 25) (lv2 := [(0, .ref a0), (1, .int a1), (2, .int a2)]) (st2 := [.ref a0, .ref a0]) hm dX13_isOne_24 rfl ?_
    replace hf := mx_sv_el hf; obtain ⟨v3, e_v3, hf⟩ := hf
    refine sx_get hm dX13_isOne_25 rs_RX13_279 (xgr_el e_v3) ?_
    clear e_v3
    refine mx_S.pu (pc2 := 29) (lv2 := [(0, .ref a0), (1, .int a1), (2, .int a2)]) (st2 := [.int a1, .ref v3, .ref a0]) hm dX13_isOne_28 rfl ?_
    replace hf := mx_sv_el hf; obtain ⟨v4, e_v4, hf⟩ := hf
    refine sx_ald hm dX13_isOne_29 e_v4 ?_
    clear e_v4
    refine mx_S.pu (pc2 := 31) (lv2 := [(0, .ref a0), (1, .int a1), (2, .int a2)]) (st2 := [.int a2, .int v4, .ref a0]) hm dX13_isOne_30 rfl ?_
    replace hf := mx_gd_el hf; obtain ⟨c5, hf⟩ := hf
    replace hf := mx_sv_el hf; obtain ⟨u6, e_u6, hf⟩ := hf
    refine sx_cv hm dX13_isOne_31 rs_RX13_891 mt_X13_isUnder [.int v4, .int a2] [] (b := a0) (ci := 13) rfl rfl rfl c5 (Nat.le_of_ble_eq_true rfl) (Nat.le_of_ble_eq_true rfl) (by omega) (by omega) (f_X13_isUnder_ok X (by omega) (by omega) nn a0 v4 a2 h e_u6) ?_
    clear e_u6
    show mx_S X F L 575 34 [(0, .ref a0), (1, .int a1), (2, .int a2)] [.int u6.1] u6.2 0 0 (some (.int r.1), r.2, 0, 0)
    replace hf := mx_gd_el hf; obtain ⟨c7, hf⟩ := hf
    cases hf
    exact sx_ire hm dX13_isOne_34 rfl (xbq_ok c7).1
  · refine sb_ic_lt hm dX13_isOne_8 (tgt := 23) rfl (fun z => absurd z c9) (fun _ => ?_)
    refine mx_S.pu (pc2 := 12) (lv2 := [(0, .ref a0), (1, .int a1), (2, .int a2)]) (st2 := [.int a2]) hm dX13_isOne_11 rfl ?_
    rcases mx_if_el hf with ⟨c8, hf⟩ | ⟨c8, hf⟩
    · refine sb_if_ne hm dX13_isOne_12 (tgt := 19) rfl (fun _ => ?_) (fun z => absurd c8 z)
      refine sx_ic (v := 0) hm dX13_isOne_19 (by decide) ?_
      refine mx_S.pu (pc2 := 34) (lv2 := [(0, .ref a0), (1, .int a1), (2, .int a2)]) (st2 := [.int 0]) hm dX13_isOne_20 rfl ?_
      cases hf
      exact sx_ire hm dX13_isOne_34 rfl (by decide)
    · refine sb_if_ne hm dX13_isOne_12 (tgt := 19) rfl (fun z => absurd z c8) (fun _ => ?_)
      refine sx_ic (v := 1) hm dX13_isOne_15 (by decide) ?_
      refine mx_S.pu (pc2 := 34) (lv2 := [(0, .ref a0), (1, .int a1), (2, .int a2)]) (st2 := [.int 1]) hm dX13_isOne_16 rfl ?_
      cases hf
      exact sx_ire hm dX13_isOne_34 rfl (by decide)
set_option maxHeartbeats 4000000 in
set_option maxRecDepth 20000 in
theorem j_X13_thrown_196_ok (X : Nat × (Nat → Int32)) {F L : Nat} (hF : 10 ≤ F) (hL : 227 ≤ L) (nn : Nat) (l0 : Nat) (l1 : Int32) (l2 : Int32) (h : mx_H) {r : mx_H} (hf : j_X13_thrown_196 nn l0 l1 l2 h = some r) : mx_S X F L 577 196 [(0, .ref l0), (1, .int l1), (2, .int l2)] [] h 0 0 (none, r, 0, 0) := by
  have hm : mx_mt 577 = some (yX13_thrown, cX13_thrown, 9, none) := mt_X13_thrown
  unfold j_X13_thrown_196 at hf
  refine mx_S.pu (pc2 := 197) (lv2 := [(0, .ref l0), (1, .int l1), (2, .int l2)]) (st2 := [.ref l0]) hm dX13_thrown_196 rfl ?_
  replace hf := mx_sv_el hf; obtain ⟨v1, e_v1, hf⟩ := hf
  refine sx_get hm dX13_thrown_197 rs_RX13_303 (xgr_el e_v1) ?_
  clear e_v1
  refine mx_S.pu (pc2 := 201) (lv2 := [(0, .ref l0), (1, .int l1), (2, .int l2)]) (st2 := [.int l2, .ref v1]) hm dX13_thrown_200 rfl ?_
  refine sx_ic (v := 0) hm dX13_thrown_201 (by decide) ?_
  replace hf := mx_sv_el hf; obtain ⟨h2, e_h2, hf⟩ := hf
  refine sx_ast hm dX13_thrown_202 e_h2 ?_
  clear e_h2
  refine mx_S.pu (pc2 := 204) (lv2 := [(0, .ref l0), (1, .int l1), (2, .int l2)]) (st2 := [.ref l0]) hm dX13_thrown_203 rfl ?_
  refine mx_S.pu (pc2 := 205) (lv2 := [(0, .ref l0), (1, .int l1), (2, .int l2)]) (st2 := [.int l1, .ref l0]) hm dX13_thrown_204 rfl ?_
  replace hf := mx_gd_el hf; obtain ⟨c3, hf⟩ := hf
  replace hf := mx_sv_el hf; obtain ⟨u4, e_u4, hf⟩ := hf
  refine sx_cv hm dX13_thrown_205 rs_RX13_1072 mt_X13_give [.int l1] [] (b := l0) (ci := 13) rfl rfl rfl c3 (Nat.le_of_ble_eq_true rfl) (Nat.le_of_ble_eq_true rfl) (by omega) (by omega) (f_X13_give_ok X (by omega) (by omega) nn l0 l1 h2 e_u4) ?_
  clear e_u4
  show mx_S X F L 577 208 [(0, .ref l0), (1, .int l1), (2, .int l2)] [] u4 0 0 (none, r, 0, 0)
  cases hf
  exact sx_ret hm dX13_thrown_208 rfl
set_option maxHeartbeats 4000000 in
set_option maxRecDepth 20000 in
theorem w_X13_thrown_45_ok (X : Nat × (Nat → Int32)) {F L : Nat} (hF : 10 ≤ F) (hL : 227 ≤ L) (nn : Nat) {kk_0 : Nat → Int32 → mx_H → Option mx_H} (hk_0 : ∀ (l0 : Nat) (l1 : Int32) (h : mx_H) (r : mx_H), kk_0 l0 l1 h = some r → mx_S X F L 577 0 [(0, .ref l0), (1, .int l1)] [] h 0 0 (none, r, 0, 0)) : ∀ (k : Nat) (l0 : Nat) (l1 : Int32) (l2 : Int32) (l3 : Int32) (l4 : Int32) (l5 : Int32) (h : mx_H) (r : mx_H), w_X13_thrown_45 nn kk_0 k l0 l1 l2 l3 l4 l5 h = some r → mx_S X F L 577 45 [(0, .ref l0), (1, .int l1), (2, .int l2), (3, .int l3), (4, .int l4), (5, .int l5)] [] h 0 0 (none, r, 0, 0) := by
  have hm : mx_mt 577 = some (yX13_thrown, cX13_thrown, 9, none) := mt_X13_thrown
  intro k
  induction k with
  | zero => intro l0 l1 l2 l3 l4 l5 h r hf; cases hf
  | succ k ih =>
    intro l0 l1 l2 l3 l4 l5 h r hf
    unfold w_X13_thrown_45 at hf
    refine mx_S.pu (pc2 := 47) (lv2 := [(0, .ref l0), (1, .int l1), (2, .int l2), (3, .int l3), (4, .int l4), (5, .int l5)]) (st2 := [.int l5]) hm dX13_thrown_45 rfl ?_
    refine mx_S.pu (pc2 := 48) (lv2 := [(0, .ref l0), (1, .int l1), (2, .int l2), (3, .int l3), (4, .int l4), (5, .int l5)]) (st2 := [.ref l0, .int l5]) hm dX13_thrown_47 rfl ?_
    refine mx_S.pu (pc2 := 49) (lv2 := [(0, .ref l0), (1, .int l1), (2, .int l2), (3, .int l3), (4, .int l4), (5, .int l5)]) (st2 := [.int l3, .ref l0, .int l5]) hm dX13_thrown_48 rfl ?_
    refine mx_S.pu (pc2 := 51) (lv2 := [(0, .ref l0), (1, .int l1), (2, .int l2), (3, .int l3), (4, .int l4), (5, .int l5)]) (st2 := [.int l4, .int l3, .ref l0, .int l5]) hm dX13_thrown_49 rfl ?_
    replace hf := mx_gd_el hf; obtain ⟨c5, hf⟩ := hf
    replace hf := mx_sv_el hf; obtain ⟨u6, e_u6, hf⟩ := hf
    refine sx_cv hm dX13_thrown_51 rs_RX13_864 mt_X13_byteAt [.int l3, .int l4] [.int l5] (b := l0) (ci := 13) rfl rfl rfl c5 (Nat.le_of_ble_eq_true rfl) (Nat.le_of_ble_eq_true rfl) (by omega) (by omega) (f_X13_byteAt_ok X (by omega) (by omega) nn l0 l3 l4 h e_u6) ?_
    clear e_u6
    show mx_S X F L 577 54 [(0, .ref l0), (1, .int l1), (2, .int l2), (3, .int l3), (4, .int l4), (5, .int l5)] [.int u6.1, .int l5] u6.2 0 0 (none, r, 0, 0)
    rcases mx_if_el hf with ⟨c57, hf⟩ | ⟨c57, hf⟩
    · refine sb_ic_ge hm dX13_thrown_54 (tgt := 215) rfl (fun _ => ?_) (fun z => absurd c57 z)
      refine mx_S.pu (pc2 := 216) (lv2 := [(0, .ref l0), (1, .int l1), (2, .int l2), (3, .int l3), (4, .int l4), (5, .int l5)]) (st2 := [.ref l0]) hm dX13_thrown_215 rfl ?_
      refine mx_S.pu (pc2 := 217) (lv2 := [(0, .ref l0), (1, .int l1), (2, .int l2), (3, .int l3), (4, .int l4), (5, .int l5)]) (st2 := [.ref l0, .ref l0]) hm dX13_thrown_216 rfl ?_
      replace hf := mx_sv_el hf; obtain ⟨v7, e_v7, hf⟩ := hf
      refine sx_get hm dX13_thrown_217 rs_RX13_1058 (xgi_el e_v7) ?_
      clear e_v7
      refine sx_ic (v := 1) hm dX13_thrown_220 (by decide) ?_
      replace hf := xl_el hf; obtain ⟨v8, e_v8, hf⟩ := hf
      refine mx_S.pu (pc2 := 222) (lv2 := [(0, .ref l0), (1, .int l1), (2, .int l2), (3, .int l3), (4, .int l4), (5, .int l5)]) (st2 := [.int v8, .ref l0]) hm dX13_thrown_221 (by rw [← e_v8]; rfl) ?_
      clear e_v8
      replace hf := mx_sv_el hf; obtain ⟨h9, e_h9, hf⟩ := hf
      refine sx_put hm dX13_thrown_222 rs_RX13_1058 ft_13_149 ⟨rfl, rfl⟩ (fun z => by cases z) e_h9 ?_
      clear e_h9
      refine mx_S.pu (pc2 := 0) (lv2 := [(0, .ref l0), (1, .int l1), (2, .int l2), (3, .int l3), (4, .int l4), (5, .int l5)]) (st2 := []) hm dX13_thrown_225 rfl ?_
      refine mx_S.ext [(0, .ref l0), (1, .int l1)] (mx_sub_pos [0, 1] rfl (show ([0, 1, 2, 3, 4, 5] : List Nat).Nodup by decide)) ?_
      exact hk_0 l0 l1 h9 _ hf
    · refine sb_ic_ge hm dX13_thrown_54 (tgt := 215) rfl (fun z => absurd z c57) (fun _ => ?_)
      refine mx_S.pu (pc2 := 59) (lv2 := [(0, .ref l0), (1, .int l1), (2, .int l2), (3, .int l3), (4, .int l4), (5, .int l5)]) (st2 := [.int l4]) hm dX13_thrown_57 rfl ?_
      refine sx_ic (v := 1) hm dX13_thrown_59 (by decide) ?_
      replace hf := xl_el hf; obtain ⟨v10, e_v10, hf⟩ := hf
      refine mx_S.pu (pc2 := 61) (lv2 := [(0, .ref l0), (1, .int l1), (2, .int l2), (3, .int l3), (4, .int l4), (5, .int l5)]) (st2 := [.int v10]) hm dX13_thrown_60 (by rw [← e_v10]; rfl) ?_
      clear e_v10
      refine sx_bi (v := 7) hm dX13_thrown_61 (by decide) ?_
      refine mx_S.pu (pc2 := 65) (lv2 := [(0, .ref l0), (1, .int l1), (2, .int l2), (3, .int l3), (4, .int l4), (5, .int l5)]) (st2 := [.int l5, .int 7, .int v10]) hm dX13_thrown_63 rfl ?_
      replace hf := xl_el hf; obtain ⟨v11, e_v11, hf⟩ := hf
      refine mx_S.pu (pc2 := 66) (lv2 := [(0, .ref l0), (1, .int l1), (2, .int l2), (3, .int l3), (4, .int l4), (5, .int l5)]) (st2 := [.int v11, .int v10]) hm dX13_thrown_65 (by rw [← e_v11]; rfl) ?_
      clear e_v11
      replace hf := xl_el hf; obtain ⟨v12, e_v12, hf⟩ := hf
      refine mx_S.pu (pc2 := 67) (lv2 := [(0, .ref l0), (1, .int l1), (2, .int l2), (3, .int l3), (4, .int l4), (5, .int l5)]) (st2 := [.int v12]) hm dX13_thrown_66 (by rw [← e_v12]; rfl) ?_
      clear e_v12
      refine mx_S.pu (pc2 := 69) (lv2 := [(6, .int v12), (0, .ref l0), (1, .int l1), (2, .int l2), (3, .int l3), (4, .int l4), (5, .int l5)]) (st2 := []) hm dX13_thrown_67 rfl ?_
      refine mx_S.pu (pc2 := 70) (lv2 := [(6, .int v12), (0, .ref l0), (1, .int l1), (2, .int l2), (3, .int l3), (4, .int l4), (5, .int l5)]) (st2 := [.ref l0]) hm dX13_thrown_69 rfl ?_
      refine mx_S.pu (pc2 := 71) (lv2 := [(6, .int v12), (0, .ref l0), (1, .int l1), (2, .int l2), (3, .int l3), (4, .int l4), (5, .int l5)]) (st2 := [.int l3, .ref l0]) hm dX13_thrown_70 rfl ?_
      refine mx_S.pu (pc2 := 73) (lv2 := [(6, .int v12), (0, .ref l0), (1, .int l1), (2, .int l2), (3, .int l3), (4, .int l4), (5, .int l5)]) (st2 := [.int v12, .int l3, .ref l0]) hm dX13_thrown_71 rfl ?_
      replace hf := mx_gd_el hf; obtain ⟨c13, hf⟩ := hf
      replace hf := mx_sv_el hf; obtain ⟨u14, e_u14, hf⟩ := hf
      refine sx_cv hm dX13_thrown_73 rs_RX13_864 mt_X13_byteAt [.int l3, .int v12] [] (b := l0) (ci := 13) rfl rfl rfl c13 (Nat.le_of_ble_eq_true rfl) (Nat.le_of_ble_eq_true rfl) (by omega) (by omega) (f_X13_byteAt_ok X (by omega) (by omega) nn l0 l3 v12 u6.2 e_u14) ?_
      clear e_u14
      show mx_S X F L 577 76 [(6, .int v12), (0, .ref l0), (1, .int l1), (2, .int l2), (3, .int l3), (4, .int l4), (5, .int l5)] [.int u14.1] u14.2 0 0 (none, r, 0, 0)
      refine sx_bi (v := 8) hm dX13_thrown_76 (by decide) ?_
      replace hf := xl_el hf; obtain ⟨v15, e_v15, hf⟩ := hf
      refine mx_S.pu (pc2 := 79) (lv2 := [(6, .int v12), (0, .ref l0), (1, .int l1), (2, .int l2), (3, .int l3), (4, .int l4), (5, .int l5)]) (st2 := [.int v15]) hm dX13_thrown_78 (by rw [← e_v15]; rfl) ?_
      clear e_v15
      refine mx_S.pu (pc2 := 80) (lv2 := [(6, .int v12), (0, .ref l0), (1, .int l1), (2, .int l2), (3, .int l3), (4, .int l4), (5, .int l5)]) (st2 := [.ref l0, .int v15]) hm dX13_thrown_79 rfl ?_
      refine mx_S.pu (pc2 := 81) (lv2 := [(6, .int v12), (0, .ref l0), (1, .int l1), (2, .int l2), (3, .int l3), (4, .int l4), (5, .int l5)]) (st2 := [.int l3, .ref l0, .int v15]) hm dX13_thrown_80 rfl ?_
      refine mx_S.pu (pc2 := 83) (lv2 := [(6, .int v12), (0, .ref l0), (1, .int l1), (2, .int l2), (3, .int l3), (4, .int l4), (5, .int l5)]) (st2 := [.int v12, .int l3, .ref l0, .int v15]) hm dX13_thrown_81 rfl ?_
      refine sx_ic (v := 1) hm dX13_thrown_83 (by decide) ?_
      replace hf := xl_el hf; obtain ⟨v16, e_v16, hf⟩ := hf
      refine mx_S.pu (pc2 := 85) (lv2 := [(6, .int v12), (0, .ref l0), (1, .int l1), (2, .int l2), (3, .int l3), (4, .int l4), (5, .int l5)]) (st2 := [.int v16, .int l3, .ref l0, .int v15]) hm dX13_thrown_84 (by rw [← e_v16]; rfl) ?_
      clear e_v16
      replace hf := mx_gd_el hf; obtain ⟨c17, hf⟩ := hf
      replace hf := mx_sv_el hf; obtain ⟨u18, e_u18, hf⟩ := hf
      refine sx_cv hm dX13_thrown_85 rs_RX13_864 mt_X13_byteAt [.int l3, .int v16] [.int v15] (b := l0) (ci := 13) rfl rfl rfl c17 (Nat.le_of_ble_eq_true rfl) (Nat.le_of_ble_eq_true rfl) (by omega) (by omega) (f_X13_byteAt_ok X (by omega) (by omega) nn l0 l3 v16 u14.2 e_u18) ?_
      clear e_u18
      show mx_S X F L 577 88 [(6, .int v12), (0, .ref l0), (1, .int l1), (2, .int l2), (3, .int l3), (4, .int l4), (5, .int l5)] [.int u18.1, .int v15] u18.2 0 0 (none, r, 0, 0)
      replace hf := xl_el hf; obtain ⟨v19, e_v19, hf⟩ := hf
      refine mx_S.pu (pc2 := 89) (lv2 := [(6, .int v12), (0, .ref l0), (1, .int l1), (2, .int l2), (3, .int l3), (4, .int l4), (5, .int l5)]) (st2 := [.int v19]) hm dX13_thrown_88 (by rw [← e_v19]; rfl) ?_
      clear e_v19
      refine mx_S.pu (pc2 := 91) (lv2 := [(7, .int v19), (6, .int v12), (0, .ref l0), (1, .int l1), (2, .int l2), (3, .int l3), (4, .int l4), (5, .int l5)]) (st2 := []) hm dX13_thrown_89 rfl ?_
      refine mx_S.pu (pc2 := 92) (lv2 := [(7, .int v19), (6, .int v12), (0, .ref l0), (1, .int l1), (2, .int l2), (3, .int l3), (4, .int l4), (5, .int l5)]) (st2 := [.ref l0]) hm dX13_thrown_91 rfl ?_
      refine mx_S.pu (pc2 := 93) (lv2 := [(7, .int v19), (6, .int v12), (0, .ref l0), (1, .int l1), (2, .int l2), (3, .int l3), (4, .int l4), (5, .int l5)]) (st2 := [.int l3, .ref l0]) hm dX13_thrown_92 rfl ?_
      refine mx_S.pu (pc2 := 95) (lv2 := [(7, .int v19), (6, .int v12), (0, .ref l0), (1, .int l1), (2, .int l2), (3, .int l3), (4, .int l4), (5, .int l5)]) (st2 := [.int v12, .int l3, .ref l0]) hm dX13_thrown_93 rfl ?_
      refine sx_ic (v := 2) hm dX13_thrown_95 (by decide) ?_
      replace hf := xl_el hf; obtain ⟨v20, e_v20, hf⟩ := hf
      refine mx_S.pu (pc2 := 97) (lv2 := [(7, .int v19), (6, .int v12), (0, .ref l0), (1, .int l1), (2, .int l2), (3, .int l3), (4, .int l4), (5, .int l5)]) (st2 := [.int v20, .int l3, .ref l0]) hm dX13_thrown_96 (by rw [← e_v20]; rfl) ?_
      clear e_v20
      replace hf := mx_gd_el hf; obtain ⟨c21, hf⟩ := hf
      replace hf := mx_sv_el hf; obtain ⟨u22, e_u22, hf⟩ := hf
      refine sx_cv hm dX13_thrown_97 rs_RX13_864 mt_X13_byteAt [.int l3, .int v20] [] (b := l0) (ci := 13) rfl rfl rfl c21 (Nat.le_of_ble_eq_true rfl) (Nat.le_of_ble_eq_true rfl) (by omega) (by omega) (f_X13_byteAt_ok X (by omega) (by omega) nn l0 l3 v20 u18.2 e_u22) ?_
      clear e_u22
      show mx_S X F L 577 100 [(7, .int v19), (6, .int v12), (0, .ref l0), (1, .int l1), (2, .int l2), (3, .int l3), (4, .int l4), (5, .int l5)] [.int u22.1] u22.2 0 0 (none, r, 0, 0)
      refine sx_bi (v := 8) hm dX13_thrown_100 (by decide) ?_
      replace hf := xl_el hf; obtain ⟨v23, e_v23, hf⟩ := hf
      refine mx_S.pu (pc2 := 103) (lv2 := [(7, .int v19), (6, .int v12), (0, .ref l0), (1, .int l1), (2, .int l2), (3, .int l3), (4, .int l4), (5, .int l5)]) (st2 := [.int v23]) hm dX13_thrown_102 (by rw [← e_v23]; rfl) ?_
      clear e_v23
      refine mx_S.pu (pc2 := 104) (lv2 := [(7, .int v19), (6, .int v12), (0, .ref l0), (1, .int l1), (2, .int l2), (3, .int l3), (4, .int l4), (5, .int l5)]) (st2 := [.ref l0, .int v23]) hm dX13_thrown_103 rfl ?_
      refine mx_S.pu (pc2 := 105) (lv2 := [(7, .int v19), (6, .int v12), (0, .ref l0), (1, .int l1), (2, .int l2), (3, .int l3), (4, .int l4), (5, .int l5)]) (st2 := [.int l3, .ref l0, .int v23]) hm dX13_thrown_104 rfl ?_
      refine mx_S.pu (pc2 := 107) (lv2 := [(7, .int v19), (6, .int v12), (0, .ref l0), (1, .int l1), (2, .int l2), (3, .int l3), (4, .int l4), (5, .int l5)]) (st2 := [.int v12, .int l3, .ref l0, .int v23]) hm dX13_thrown_105 rfl ?_
      refine sx_ic (v := 3) hm dX13_thrown_107 (by decide) ?_
      replace hf := xl_el hf; obtain ⟨v24, e_v24, hf⟩ := hf
      refine mx_S.pu (pc2 := 109) (lv2 := [(7, .int v19), (6, .int v12), (0, .ref l0), (1, .int l1), (2, .int l2), (3, .int l3), (4, .int l4), (5, .int l5)]) (st2 := [.int v24, .int l3, .ref l0, .int v23]) hm dX13_thrown_108 (by rw [← e_v24]; rfl) ?_
      clear e_v24
      replace hf := mx_gd_el hf; obtain ⟨c25, hf⟩ := hf
      replace hf := mx_sv_el hf; obtain ⟨u26, e_u26, hf⟩ := hf
      refine sx_cv hm dX13_thrown_109 rs_RX13_864 mt_X13_byteAt [.int l3, .int v24] [.int v23] (b := l0) (ci := 13) rfl rfl rfl c25 (Nat.le_of_ble_eq_true rfl) (Nat.le_of_ble_eq_true rfl) (by omega) (by omega) (f_X13_byteAt_ok X (by omega) (by omega) nn l0 l3 v24 u22.2 e_u26) ?_
      clear e_u26
      show mx_S X F L 577 112 [(7, .int v19), (6, .int v12), (0, .ref l0), (1, .int l1), (2, .int l2), (3, .int l3), (4, .int l4), (5, .int l5)] [.int u26.1, .int v23] u26.2 0 0 (none, r, 0, 0)
      replace hf := xl_el hf; obtain ⟨v27, e_v27, hf⟩ := hf
      refine mx_S.pu (pc2 := 113) (lv2 := [(7, .int v19), (6, .int v12), (0, .ref l0), (1, .int l1), (2, .int l2), (3, .int l3), (4, .int l4), (5, .int l5)]) (st2 := [.int v27]) hm dX13_thrown_112 (by rw [← e_v27]; rfl) ?_
      clear e_v27
      refine mx_S.pu (pc2 := 115) (lv2 := [(8, .int v27), (7, .int v19), (6, .int v12), (0, .ref l0), (1, .int l1), (2, .int l2), (3, .int l3), (4, .int l4), (5, .int l5)]) (st2 := []) hm dX13_thrown_113 rfl ?_
      refine mx_S.pu (pc2 := 116) (lv2 := [(8, .int v27), (7, .int v19), (6, .int v12), (0, .ref l0), (1, .int l1), (2, .int l2), (3, .int l3), (4, .int l4), (5, .int l5)]) (st2 := [.ref l0]) hm dX13_thrown_115 rfl ?_
      replace hf := mx_sv_el hf; obtain ⟨v28, e_v28, hf⟩ := hf
      refine sx_get hm dX13_thrown_116 rs_RX13_300 (xgr_el e_v28) ?_
      clear e_v28
      refine mx_S.pu (pc2 := 120) (lv2 := [(8, .int v27), (7, .int v19), (6, .int v12), (0, .ref l0), (1, .int l1), (2, .int l2), (3, .int l3), (4, .int l4), (5, .int l5)]) (st2 := [.int l2, .ref v28]) hm dX13_thrown_119 rfl ?_
      replace hf := mx_sv_el hf; obtain ⟨v29, e_v29, hf⟩ := hf
      refine sx_ald hm dX13_thrown_120 e_v29 ?_
      clear e_v29
      refine mx_S.pu (pc2 := 123) (lv2 := [(8, .int v27), (7, .int v19), (6, .int v12), (0, .ref l0), (1, .int l1), (2, .int l2), (3, .int l3), (4, .int l4), (5, .int l5)]) (st2 := [.int v19, .int v29]) hm dX13_thrown_121 rfl ?_
      rcases mx_if_el hf with ⟨c56, hf⟩ | ⟨c56, hf⟩
      · refine sb_ic_lt hm dX13_thrown_123 (tgt := 209) rfl (fun _ => ?_) (fun z => absurd c56 z)
        replace hf := xl_el hf; obtain ⟨v30, e_v30, hf⟩ := hf
        refine mx_S.pu (pc2 := 212) (lv2 := [(5, .int v30), (8, .int v27), (7, .int v19), (6, .int v12), (0, .ref l0), (1, .int l1), (2, .int l2), (3, .int l3), (4, .int l4)]) (st2 := []) hm dX13_thrown_209 (by rw [← e_v30]; rfl) ?_
        clear e_v30
        refine mx_S.pu (pc2 := 45) (lv2 := [(5, .int v30), (8, .int v27), (7, .int v19), (6, .int v12), (0, .ref l0), (1, .int l1), (2, .int l2), (3, .int l3), (4, .int l4)]) (st2 := []) hm dX13_thrown_212 rfl ?_
        refine mx_S.ext [(0, .ref l0), (1, .int l1), (2, .int l2), (3, .int l3), (4, .int l4), (5, .int v30)] (mx_sub_pos [4, 5, 6, 7, 8, 0] rfl (show ([5, 8, 7, 6, 0, 1, 2, 3, 4] : List Nat).Nodup by decide)) ?_
        exact ih l0 l1 l2 l3 l4 v30 u26.2 _ hf
      · refine sb_ic_lt hm dX13_thrown_123 (tgt := 209) rfl (fun z => absurd z c56) (fun _ => ?_)
        refine mx_S.pu (pc2 := 127) (lv2 := [(8, .int v27), (7, .int v19), (6, .int v12), (0, .ref l0), (1, .int l1), (2, .int l2), (3, .int l3), (4, .int l4), (5, .int l5)]) (st2 := [.ref l0]) hm dX13_thrown_126 rfl ?_
        replace hf := mx_sv_el hf; obtain ⟨v31, e_v31, hf⟩ := hf
        refine sx_get hm dX13_thrown_127 rs_RX13_300 (xgr_el e_v31) ?_
        clear e_v31
        refine mx_S.pu (pc2 := 131) (lv2 := [(8, .int v27), (7, .int v19), (6, .int v12), (0, .ref l0), (1, .int l1), (2, .int l2), (3, .int l3), (4, .int l4), (5, .int l5)]) (st2 := [.int l2, .ref v31]) hm dX13_thrown_130 rfl ?_
        replace hf := mx_sv_el hf; obtain ⟨v32, e_v32, hf⟩ := hf
        refine sx_ald hm dX13_thrown_131 e_v32 ?_
        clear e_v32
        refine mx_S.pu (pc2 := 134) (lv2 := [(8, .int v27), (7, .int v19), (6, .int v12), (0, .ref l0), (1, .int l1), (2, .int l2), (3, .int l3), (4, .int l4), (5, .int l5)]) (st2 := [.int v27, .int v32]) hm dX13_thrown_132 rfl ?_
        rcases mx_if_el hf with ⟨c55, hf⟩ | ⟨c55, hf⟩
        · refine sb_ic_ge hm dX13_thrown_134 (tgt := 209) rfl (fun _ => ?_) (fun z => absurd c55 z)
          replace hf := xl_el hf; obtain ⟨v33, e_v33, hf⟩ := hf
          refine mx_S.pu (pc2 := 212) (lv2 := [(5, .int v33), (8, .int v27), (7, .int v19), (6, .int v12), (0, .ref l0), (1, .int l1), (2, .int l2), (3, .int l3), (4, .int l4)]) (st2 := []) hm dX13_thrown_209 (by rw [← e_v33]; rfl) ?_
          clear e_v33
          refine mx_S.pu (pc2 := 45) (lv2 := [(5, .int v33), (8, .int v27), (7, .int v19), (6, .int v12), (0, .ref l0), (1, .int l1), (2, .int l2), (3, .int l3), (4, .int l4)]) (st2 := []) hm dX13_thrown_212 rfl ?_
          refine mx_S.ext [(0, .ref l0), (1, .int l1), (2, .int l2), (3, .int l3), (4, .int l4), (5, .int v33)] (mx_sub_pos [4, 5, 6, 7, 8, 0] rfl (show ([5, 8, 7, 6, 0, 1, 2, 3, 4] : List Nat).Nodup by decide)) ?_
          exact ih l0 l1 l2 l3 l4 v33 u26.2 _ hf
        · refine sb_ic_ge hm dX13_thrown_134 (tgt := 209) rfl (fun z => absurd z c55) (fun _ => ?_)
          refine mx_S.pu (pc2 := 138) (lv2 := [(8, .int v27), (7, .int v19), (6, .int v12), (0, .ref l0), (1, .int l1), (2, .int l2), (3, .int l3), (4, .int l4), (5, .int l5)]) (st2 := [.ref l0]) hm dX13_thrown_137 rfl ?_
          refine mx_S.pu (pc2 := 139) (lv2 := [(8, .int v27), (7, .int v19), (6, .int v12), (0, .ref l0), (1, .int l1), (2, .int l2), (3, .int l3), (4, .int l4), (5, .int l5)]) (st2 := [.int l1, .ref l0]) hm dX13_thrown_138 rfl ?_
          refine mx_S.pu (pc2 := 140) (lv2 := [(8, .int v27), (7, .int v19), (6, .int v12), (0, .ref l0), (1, .int l1), (2, .int l2), (3, .int l3), (4, .int l4), (5, .int l5)]) (st2 := [.ref l0, .int l1, .ref l0]) hm dX13_thrown_139 rfl ?_
          refine mx_S.pu (pc2 := 141) (lv2 := [(8, .int v27), (7, .int v19), (6, .int v12), (0, .ref l0), (1, .int l1), (2, .int l2), (3, .int l3), (4, .int l4), (5, .int l5)]) (st2 := [.int l3, .ref l0, .int l1, .ref l0]) hm dX13_thrown_140 rfl ?_
          refine mx_S.pu (pc2 := 142) (lv2 := [(8, .int v27), (7, .int v19), (6, .int v12), (0, .ref l0), (1, .int l1), (2, .int l2), (3, .int l3), (4, .int l4), (5, .int l5)]) (st2 := [.ref l0, .int l3, .ref l0, .int l1, .ref l0]) hm dX13_thrown_141 rfl ?_
          refine mx_S.pu (pc2 := 143) (lv2 := [(8, .int v27), (7, .int v19), (6, .int v12), (0, .ref l0), (1, .int l1), (2, .int l2), (3, .int l3), (4, .int l4), (5, .int l5)]) (st2 := [.int l3, .ref l0, .int l3, .ref l0, .int l1, .ref l0]) hm dX13_thrown_142 rfl ?_
          refine mx_S.pu (pc2 := 144) (lv2 := [(8, .int v27), (7, .int v19), (6, .int v12), (0, .ref l0), (1, .int l1), (2, .int l2), (3, .int l3), (4, .int l4), (5, .int l5)]) (st2 := [.ref l0, .int l3, .ref l0, .int l3, .ref l0, .int l1, .ref l0]) hm dX13_thrown_143 rfl ?_
          refine mx_S.pu (pc2 := 145) (lv2 := [(8, .int v27), (7, .int v19), (6, .int v12), (0, .ref l0), (1, .int l1), (2, .int l2), (3, .int l3), (4, .int l4), (5, .int l5)]) (st2 := [.int l3, .ref l0, .int l3, .ref l0, .int l3, .ref l0, .int l1, .ref l0]) hm dX13_thrown_144 rfl ?_
          refine mx_S.pu (pc2 := 147) (lv2 := [(8, .int v27), (7, .int v19), (6, .int v12), (0, .ref l0), (1, .int l1), (2, .int l2), (3, .int l3), (4, .int l4), (5, .int l5)]) (st2 := [.int v12, .int l3, .ref l0, .int l3, .ref l0, .int l3, .ref l0, .int l1, .ref l0]) hm dX13_thrown_145 rfl ?_
          refine sx_bi (v := 6) hm dX13_thrown_147 (by decide) ?_
          replace hf := xl_el hf; obtain ⟨v34, e_v34, hf⟩ := hf
          refine mx_S.pu (pc2 := 150) (lv2 := [(8, .int v27), (7, .int v19), (6, .int v12), (0, .ref l0), (1, .int l1), (2, .int l2), (3, .int l3), (4, .int l4), (5, .int l5)]) (st2 := [.int v34, .int l3, .ref l0, .int l3, .ref l0, .int l3, .ref l0, .int l1, .ref l0]) hm dX13_thrown_149 (by rw [← e_v34]; rfl) ?_
          clear e_v34
          replace hf := mx_gd_el hf; obtain ⟨c35, hf⟩ := hf
          replace hf := mx_sv_el hf; obtain ⟨u36, e_u36, hf⟩ := hf
          refine sx_cv hm dX13_thrown_150 rs_RX13_864 mt_X13_byteAt [.int l3, .int v34] [.int l3, .ref l0, .int l3, .ref l0, .int l1, .ref l0] (b := l0) (ci := 13) rfl rfl rfl c35 (Nat.le_of_ble_eq_true rfl) (Nat.le_of_ble_eq_true rfl) (by omega) (by omega) (f_X13_byteAt_ok X (by omega) (by omega) nn l0 l3 v34 u26.2 e_u36) ?_
          clear e_u36
          show mx_S X F L 577 153 [(8, .int v27), (7, .int v19), (6, .int v12), (0, .ref l0), (1, .int l1), (2, .int l2), (3, .int l3), (4, .int l4), (5, .int l5)] [.int u36.1, .int l3, .ref l0, .int l3, .ref l0, .int l1, .ref l0] u36.2 0 0 (none, r, 0, 0)
          replace hf := mx_gd_el hf; obtain ⟨c37, hf⟩ := hf
          replace hf := mx_sv_el hf; obtain ⟨u38, e_u38, hf⟩ := hf
          refine sx_cv hm dX13_thrown_153 rs_RX13_867 mt_X13_textOfClass [.int l3, .int u36.1] [.int l3, .ref l0, .int l1, .ref l0] (b := l0) (ci := 13) rfl rfl rfl c37 (Nat.le_of_ble_eq_true rfl) (Nat.le_of_ble_eq_true rfl) (by omega) (by omega) (f_X13_textOfClass_ok X (by omega) (by omega) nn l0 l3 u36.1 u36.2 e_u38) ?_
          clear e_u38
          show mx_S X F L 577 156 [(8, .int v27), (7, .int v19), (6, .int v12), (0, .ref l0), (1, .int l1), (2, .int l2), (3, .int l3), (4, .int l4), (5, .int l5)] [.int u38.1, .int l3, .ref l0, .int l1, .ref l0] u38.2 0 0 (none, r, 0, 0)
          replace hf := mx_gd_el hf; obtain ⟨c39, hf⟩ := hf
          replace hf := mx_sv_el hf; obtain ⟨u40, e_u40, hf⟩ := hf
          refine sx_cv hm dX13_thrown_156 rs_RX13_870 mt_X13_classAtText [.int l3, .int u38.1] [.int l1, .ref l0] (b := l0) (ci := 13) rfl rfl rfl c39 (Nat.le_of_ble_eq_true rfl) (Nat.le_of_ble_eq_true rfl) (by omega) (by omega) (f_X13_classAtText_ok X (by omega) (by omega) nn l0 l3 u38.1 u38.2 e_u40) ?_
          clear e_u40
          show mx_S X F L 577 159 [(8, .int v27), (7, .int v19), (6, .int v12), (0, .ref l0), (1, .int l1), (2, .int l2), (3, .int l3), (4, .int l4), (5, .int l5)] [.int u40.1, .int l1, .ref l0] u40.2 0 0 (none, r, 0, 0)
          replace hf := mx_gd_el hf; obtain ⟨c41, hf⟩ := hf
          replace hf := mx_sv_el hf; obtain ⟨u42, e_u42, hf⟩ := hf
          refine sx_cv hm dX13_thrown_159 rs_RX13_1069 mt_X13_isOne [.int l1, .int u40.1] [] (b := l0) (ci := 13) rfl rfl rfl c41 (Nat.le_of_ble_eq_true rfl) (Nat.le_of_ble_eq_true rfl) (by omega) (by omega) (f_X13_isOne_ok X (by omega) (by omega) nn l0 l1 u40.1 u40.2 e_u42) ?_
          clear e_u42
          show mx_S X F L 577 162 [(8, .int v27), (7, .int v19), (6, .int v12), (0, .ref l0), (1, .int l1), (2, .int l2), (3, .int l3), (4, .int l4), (5, .int l5)] [.int u42.1] u42.2 0 0 (none, r, 0, 0)
          rcases mx_if_el hf with ⟨c54, hf⟩ | ⟨c54, hf⟩
          · refine sb_if_ne hm dX13_thrown_162 (tgt := 168) rfl (fun _ => ?_) (fun z => absurd c54 z)
            refine mx_S.pu (pc2 := 169) (lv2 := [(8, .int v27), (7, .int v19), (6, .int v12), (0, .ref l0), (1, .int l1), (2, .int l2), (3, .int l3), (4, .int l4), (5, .int l5)]) (st2 := [.ref l0]) hm dX13_thrown_168 rfl ?_
            replace hf := mx_sv_el hf; obtain ⟨v43, e_v43, hf⟩ := hf
            refine sx_get hm dX13_thrown_169 rs_RX13_300 (xgr_el e_v43) ?_
            clear e_v43
            refine mx_S.pu (pc2 := 173) (lv2 := [(8, .int v27), (7, .int v19), (6, .int v12), (0, .ref l0), (1, .int l1), (2, .int l2), (3, .int l3), (4, .int l4), (5, .int l5)]) (st2 := [.int l2, .ref v43]) hm dX13_thrown_172 rfl ?_
            refine mx_S.pu (pc2 := 174) (lv2 := [(8, .int v27), (7, .int v19), (6, .int v12), (0, .ref l0), (1, .int l1), (2, .int l2), (3, .int l3), (4, .int l4), (5, .int l5)]) (st2 := [.ref l0, .int l2, .ref v43]) hm dX13_thrown_173 rfl ?_
            refine mx_S.pu (pc2 := 175) (lv2 := [(8, .int v27), (7, .int v19), (6, .int v12), (0, .ref l0), (1, .int l1), (2, .int l2), (3, .int l3), (4, .int l4), (5, .int l5)]) (st2 := [.int l3, .ref l0, .int l2, .ref v43]) hm dX13_thrown_174 rfl ?_
            refine mx_S.pu (pc2 := 177) (lv2 := [(8, .int v27), (7, .int v19), (6, .int v12), (0, .ref l0), (1, .int l1), (2, .int l2), (3, .int l3), (4, .int l4), (5, .int l5)]) (st2 := [.int v12, .int l3, .ref l0, .int l2, .ref v43]) hm dX13_thrown_175 rfl ?_
            refine sx_ic (v := 4) hm dX13_thrown_177 (by decide) ?_
            replace hf := xl_el hf; obtain ⟨v44, e_v44, hf⟩ := hf
            refine mx_S.pu (pc2 := 179) (lv2 := [(8, .int v27), (7, .int v19), (6, .int v12), (0, .ref l0), (1, .int l1), (2, .int l2), (3, .int l3), (4, .int l4), (5, .int l5)]) (st2 := [.int v44, .int l3, .ref l0, .int l2, .ref v43]) hm dX13_thrown_178 (by rw [← e_v44]; rfl) ?_
            clear e_v44
            replace hf := mx_gd_el hf; obtain ⟨c45, hf⟩ := hf
            replace hf := mx_sv_el hf; obtain ⟨u46, e_u46, hf⟩ := hf
            refine sx_cv hm dX13_thrown_179 rs_RX13_864 mt_X13_byteAt [.int l3, .int v44] [.int l2, .ref v43] (b := l0) (ci := 13) rfl rfl rfl c45 (Nat.le_of_ble_eq_true rfl) (Nat.le_of_ble_eq_true rfl) (by omega) (by omega) (f_X13_byteAt_ok X (by omega) (by omega) nn l0 l3 v44 u42.2 e_u46) ?_
            clear e_u46
            show mx_S X F L 577 182 [(8, .int v27), (7, .int v19), (6, .int v12), (0, .ref l0), (1, .int l1), (2, .int l2), (3, .int l3), (4, .int l4), (5, .int l5)] [.int u46.1, .int l2, .ref v43] u46.2 0 0 (none, r, 0, 0)
            refine sx_bi (v := 8) hm dX13_thrown_182 (by decide) ?_
            replace hf := xl_el hf; obtain ⟨v47, e_v47, hf⟩ := hf
            refine mx_S.pu (pc2 := 185) (lv2 := [(8, .int v27), (7, .int v19), (6, .int v12), (0, .ref l0), (1, .int l1), (2, .int l2), (3, .int l3), (4, .int l4), (5, .int l5)]) (st2 := [.int v47, .int l2, .ref v43]) hm dX13_thrown_184 (by rw [← e_v47]; rfl) ?_
            clear e_v47
            refine mx_S.pu (pc2 := 186) (lv2 := [(8, .int v27), (7, .int v19), (6, .int v12), (0, .ref l0), (1, .int l1), (2, .int l2), (3, .int l3), (4, .int l4), (5, .int l5)]) (st2 := [.ref l0, .int v47, .int l2, .ref v43]) hm dX13_thrown_185 rfl ?_
            refine mx_S.pu (pc2 := 187) (lv2 := [(8, .int v27), (7, .int v19), (6, .int v12), (0, .ref l0), (1, .int l1), (2, .int l2), (3, .int l3), (4, .int l4), (5, .int l5)]) (st2 := [.int l3, .ref l0, .int v47, .int l2, .ref v43]) hm dX13_thrown_186 rfl ?_
            refine mx_S.pu (pc2 := 189) (lv2 := [(8, .int v27), (7, .int v19), (6, .int v12), (0, .ref l0), (1, .int l1), (2, .int l2), (3, .int l3), (4, .int l4), (5, .int l5)]) (st2 := [.int v12, .int l3, .ref l0, .int v47, .int l2, .ref v43]) hm dX13_thrown_187 rfl ?_
            refine sx_ic (v := 5) hm dX13_thrown_189 (by decide) ?_
            replace hf := xl_el hf; obtain ⟨v48, e_v48, hf⟩ := hf
            refine mx_S.pu (pc2 := 191) (lv2 := [(8, .int v27), (7, .int v19), (6, .int v12), (0, .ref l0), (1, .int l1), (2, .int l2), (3, .int l3), (4, .int l4), (5, .int l5)]) (st2 := [.int v48, .int l3, .ref l0, .int v47, .int l2, .ref v43]) hm dX13_thrown_190 (by rw [← e_v48]; rfl) ?_
            clear e_v48
            replace hf := mx_gd_el hf; obtain ⟨c49, hf⟩ := hf
            replace hf := mx_sv_el hf; obtain ⟨u50, e_u50, hf⟩ := hf
            refine sx_cv hm dX13_thrown_191 rs_RX13_864 mt_X13_byteAt [.int l3, .int v48] [.int v47, .int l2, .ref v43] (b := l0) (ci := 13) rfl rfl rfl c49 (Nat.le_of_ble_eq_true rfl) (Nat.le_of_ble_eq_true rfl) (by omega) (by omega) (f_X13_byteAt_ok X (by omega) (by omega) nn l0 l3 v48 u46.2 e_u50) ?_
            clear e_u50
            show mx_S X F L 577 194 [(8, .int v27), (7, .int v19), (6, .int v12), (0, .ref l0), (1, .int l1), (2, .int l2), (3, .int l3), (4, .int l4), (5, .int l5)] [.int u50.1, .int v47, .int l2, .ref v43] u50.2 0 0 (none, r, 0, 0)
            replace hf := xl_el hf; obtain ⟨v51, e_v51, hf⟩ := hf
            refine mx_S.pu (pc2 := 195) (lv2 := [(8, .int v27), (7, .int v19), (6, .int v12), (0, .ref l0), (1, .int l1), (2, .int l2), (3, .int l3), (4, .int l4), (5, .int l5)]) (st2 := [.int v51, .int l2, .ref v43]) hm dX13_thrown_194 (by rw [← e_v51]; rfl) ?_
            clear e_v51
            replace hf := mx_sv_el hf; obtain ⟨h52, e_h52, hf⟩ := hf
            refine sx_ast hm dX13_thrown_195 e_h52 ?_
            clear e_h52
            refine mx_S.ext [(0, .ref l0), (1, .int l1), (2, .int l2)] (mx_sub_pos [3, 4, 5] rfl (show ([8, 7, 6, 0, 1, 2, 3, 4, 5] : List Nat).Nodup by decide)) ?_
            exact j_X13_thrown_196_ok X hF hL nn l0 l1 l2 h52 hf
          · refine sb_if_ne hm dX13_thrown_162 (tgt := 168) rfl (fun z => absurd z c54) (fun _ => ?_)
            refine mx_S.pu (pc2 := 209) (lv2 := [(8, .int v27), (7, .int v19), (6, .int v12), (0, .ref l0), (1, .int l1), (2, .int l2), (3, .int l3), (4, .int l4), (5, .int l5)]) (st2 := []) hm dX13_thrown_165 rfl ?_
            replace hf := xl_el hf; obtain ⟨v53, e_v53, hf⟩ := hf
            refine mx_S.pu (pc2 := 212) (lv2 := [(5, .int v53), (8, .int v27), (7, .int v19), (6, .int v12), (0, .ref l0), (1, .int l1), (2, .int l2), (3, .int l3), (4, .int l4)]) (st2 := []) hm dX13_thrown_209 (by rw [← e_v53]; rfl) ?_
            clear e_v53
            refine mx_S.pu (pc2 := 45) (lv2 := [(5, .int v53), (8, .int v27), (7, .int v19), (6, .int v12), (0, .ref l0), (1, .int l1), (2, .int l2), (3, .int l3), (4, .int l4)]) (st2 := []) hm dX13_thrown_212 rfl ?_
            refine mx_S.ext [(0, .ref l0), (1, .int l1), (2, .int l2), (3, .int l3), (4, .int l4), (5, .int v53)] (mx_sub_pos [4, 5, 6, 7, 8, 0] rfl (show ([5, 8, 7, 6, 0, 1, 2, 3, 4] : List Nat).Nodup by decide)) ?_
            exact ih l0 l1 l2 l3 l4 v53 u42.2 _ hf
set_option maxHeartbeats 4000000 in
set_option maxRecDepth 20000 in
theorem w_X13_thrown_0_ok (X : Nat × (Nat → Int32)) {F L : Nat} (hF : 10 ≤ F) (hL : 227 ≤ L) (nn : Nat) : ∀ (k : Nat) (l0 : Nat) (l1 : Int32) (h : mx_H) (r : mx_H), w_X13_thrown_0 nn k l0 l1 h = some r → mx_S X F L 577 0 [(0, .ref l0), (1, .int l1)] [] h 0 0 (none, r, 0, 0) := by
  have hm : mx_mt 577 = some (yX13_thrown, cX13_thrown, 9, none) := mt_X13_thrown
  intro k
  induction k with
  | zero => intro l0 l1 h r hf; cases hf
  | succ k ih =>
    intro l0 l1 h r hf
    unfold w_X13_thrown_0 at hf
    refine mx_S.pu (pc2 := 1) (lv2 := [(0, .ref l0), (1, .int l1)]) (st2 := [.ref l0]) hm dX13_thrown_0 rfl ?_
    replace hf := mx_sv_el hf; obtain ⟨v58, e_v58, hf⟩ := hf
    refine sx_get hm dX13_thrown_1 rs_RX13_1058 (xgi_el e_v58) ?_
    clear e_v58
    rcases mx_if_el hf with ⟨c74, hf⟩ | ⟨c74, hf⟩
    · refine sb_if_le hm dX13_thrown_4 (tgt := 228) rfl (fun _ => ?_) (fun z => absurd c74 z)
      refine mx_S.pu (pc2 := 229) (lv2 := [(0, .ref l0), (1, .int l1)]) (st2 := [.ref l0]) hm dX13_thrown_228 rfl ?_
      refine sx_ic (v := 3) hm dX13_thrown_229 (by decide) ?_
      replace hf := mx_sv_el hf; obtain ⟨h59, e_h59, hf⟩ := hf
      refine sx_put hm dX13_thrown_230 rs_RX13_858 ft_13_138 ⟨rfl, rfl⟩ (fun z => by cases z) e_h59 ?_
      clear e_h59
      refine mx_S.pu (pc2 := 234) (lv2 := [(0, .ref l0), (1, .int l1)]) (st2 := [.ref l0]) hm dX13_thrown_233 rfl ?_
      refine mx_S.pu (pc2 := 235) (lv2 := [(0, .ref l0), (1, .int l1)]) (st2 := [.ref l0, .ref l0]) hm dX13_thrown_234 rfl ?_
      replace hf := mx_sv_el hf; obtain ⟨v60, e_v60, hf⟩ := hf
      refine sx_get hm dX13_thrown_235 rs_RX13_279 (xgr_el e_v60) ?_
      clear e_v60
      refine mx_S.pu (pc2 := 239) (lv2 := [(0, .ref l0), (1, .int l1)]) (st2 := [.int l1, .ref v60, .ref l0]) hm dX13_thrown_238 rfl ?_
      replace hf := mx_sv_el hf; obtain ⟨v61, e_v61, hf⟩ := hf
      refine sx_ald hm dX13_thrown_239 e_v61 ?_
      clear e_v61
      replace hf := mx_sv_el hf; obtain ⟨h62, e_h62, hf⟩ := hf
      refine sx_put hm dX13_thrown_240 rs_RX13_1043 ft_13_139 ⟨rfl, rfl⟩ (fun z => by cases z) e_h62 ?_
      clear e_h62
      cases hf
      exact sx_ret hm dX13_thrown_243 rfl
    · refine sb_if_le hm dX13_thrown_4 (tgt := 228) rfl (fun z => absurd z c74) (fun _ => ?_)
      refine mx_S.pu (pc2 := 8) (lv2 := [(0, .ref l0), (1, .int l1)]) (st2 := [.ref l0]) hm dX13_thrown_7 rfl ?_
      replace hf := mx_sv_el hf; obtain ⟨v63, e_v63, hf⟩ := hf
      refine sx_get hm dX13_thrown_8 rs_RX13_1058 (xgi_el e_v63) ?_
      clear e_v63
      refine sx_ic (v := 1) hm dX13_thrown_11 (by decide) ?_
      replace hf := xl_el hf; obtain ⟨v64, e_v64, hf⟩ := hf
      refine mx_S.pu (pc2 := 13) (lv2 := [(0, .ref l0), (1, .int l1)]) (st2 := [.int v64]) hm dX13_thrown_12 (by rw [← e_v64]; rfl) ?_
      clear e_v64
      refine mx_S.pu (pc2 := 14) (lv2 := [(2, .int v64), (0, .ref l0), (1, .int l1)]) (st2 := []) hm dX13_thrown_13 rfl ?_
      refine mx_S.pu (pc2 := 15) (lv2 := [(2, .int v64), (0, .ref l0), (1, .int l1)]) (st2 := [.ref l0]) hm dX13_thrown_14 rfl ?_
      replace hf := mx_sv_el hf; obtain ⟨v65, e_v65, hf⟩ := hf
      refine sx_get hm dX13_thrown_15 rs_RX13_294 (xgr_el e_v65) ?_
      clear e_v65
      refine mx_S.pu (pc2 := 19) (lv2 := [(2, .int v64), (0, .ref l0), (1, .int l1)]) (st2 := [.int v64, .ref v65]) hm dX13_thrown_18 rfl ?_
      replace hf := mx_sv_el hf; obtain ⟨v66, e_v66, hf⟩ := hf
      refine sx_ald hm dX13_thrown_19 e_v66 ?_
      clear e_v66
      refine sx_bi (v := 8) hm dX13_thrown_20 (by decide) ?_
      replace hf := xl_el hf; obtain ⟨v67, e_v67, hf⟩ := hf
      refine mx_S.pu (pc2 := 23) (lv2 := [(2, .int v64), (0, .ref l0), (1, .int l1)]) (st2 := [.int v67]) hm dX13_thrown_22 (by rw [← e_v67]; rfl) ?_
      clear e_v67
      refine mx_S.pu (pc2 := 24) (lv2 := [(3, .int v67), (2, .int v64), (0, .ref l0), (1, .int l1)]) (st2 := []) hm dX13_thrown_23 rfl ?_
      refine mx_S.pu (pc2 := 25) (lv2 := [(3, .int v67), (2, .int v64), (0, .ref l0), (1, .int l1)]) (st2 := [.ref l0]) hm dX13_thrown_24 rfl ?_
      replace hf := mx_sv_el hf; obtain ⟨v68, e_v68, hf⟩ := hf
      refine sx_get hm dX13_thrown_25 rs_RX13_239 (xgr_el e_v68) ?_
      clear e_v68
      refine sx_bi (v := 12) hm dX13_thrown_28 (by decide) ?_
      refine mx_S.pu (pc2 := 31) (lv2 := [(3, .int v67), (2, .int v64), (0, .ref l0), (1, .int l1)]) (st2 := [.int v67, .int 12, .ref v68]) hm dX13_thrown_30 rfl ?_
      replace hf := xl_el hf; obtain ⟨v69, e_v69, hf⟩ := hf
      refine mx_S.pu (pc2 := 32) (lv2 := [(3, .int v67), (2, .int v64), (0, .ref l0), (1, .int l1)]) (st2 := [.int v69, .ref v68]) hm dX13_thrown_31 (by rw [← e_v69]; rfl) ?_
      clear e_v69
      refine mx_S.pu (pc2 := 33) (lv2 := [(3, .int v67), (2, .int v64), (0, .ref l0), (1, .int l1)]) (st2 := [.ref l0, .int v69, .ref v68]) hm dX13_thrown_32 rfl ?_
      replace hf := mx_sv_el hf; obtain ⟨v70, e_v70, hf⟩ := hf
      refine sx_get hm dX13_thrown_33 rs_RX13_297 (xgr_el e_v70) ?_
      clear e_v70
      refine mx_S.pu (pc2 := 37) (lv2 := [(3, .int v67), (2, .int v64), (0, .ref l0), (1, .int l1)]) (st2 := [.int v64, .ref v70, .int v69, .ref v68]) hm dX13_thrown_36 rfl ?_
      replace hf := mx_sv_el hf; obtain ⟨v71, e_v71, hf⟩ := hf
      refine sx_ald hm dX13_thrown_37 e_v71 ?_
      clear e_v71
      replace hf := xl_el hf; obtain ⟨v72, e_v72, hf⟩ := hf
      refine mx_S.pu (pc2 := 39) (lv2 := [(3, .int v67), (2, .int v64), (0, .ref l0), (1, .int l1)]) (st2 := [.int v72, .ref v68]) hm dX13_thrown_38 (by rw [← e_v72]; rfl) ?_
      clear e_v72
      replace hf := mx_sv_el hf; obtain ⟨v73, e_v73, hf⟩ := hf
      refine sx_ald hm dX13_thrown_39 e_v73 ?_
      clear e_v73
      refine mx_S.pu (pc2 := 42) (lv2 := [(4, .int v73), (3, .int v67), (2, .int v64), (0, .ref l0), (1, .int l1)]) (st2 := []) hm dX13_thrown_40 rfl ?_
      refine sx_ic (v := 0) hm dX13_thrown_42 (by decide) ?_
      refine mx_S.pu (pc2 := 45) (lv2 := [(5, .int 0), (4, .int v73), (3, .int v67), (2, .int v64), (0, .ref l0), (1, .int l1)]) (st2 := []) hm dX13_thrown_43 rfl ?_
      refine mx_S.ext [(0, .ref l0), (1, .int l1), (2, .int v64), (3, .int v67), (4, .int v73), (5, .int 0)] (mx_sub_pos [4, 5, 3, 2, 1, 0] rfl (show ([5, 4, 3, 2, 0, 1] : List Nat).Nodup by decide)) ?_
      exact w_X13_thrown_45_ok X hF hL nn ih nn l0 l1 v64 v67 v73 0 h _ hf
set_option maxHeartbeats 4000000 in
set_option maxRecDepth 20000 in
theorem f_X13_thrown_ok (X : Nat × (Nat → Int32)) {F L : Nat} (hF : 10 ≤ F) (hL : 227 ≤ L) (nn : Nat) (a0 : Nat) (a1 : Int32) (h : mx_H) {r : mx_H} (hf : f_X13_thrown nn a0 a1 h = some r) : mx_R X F L 577 [.ref a0, .int a1] h (none, r, 0, 0) := by
  have hm : mx_mt 577 = some (yX13_thrown, cX13_thrown, 9, none) := mt_X13_thrown
  show mx_S X F L 577 0 [(0, .ref a0), (1, .int a1)] [] h 0 0 (none, r, 0, 0)
  unfold f_X13_thrown at hf
  exact w_X13_thrown_0_ok X hF hL nn nn a0 a1 h _ hf
set_option maxHeartbeats 4000000 in
set_option maxRecDepth 20000 in
theorem f_X13_fails_ok (X : Nat × (Nat → Int32)) {F L : Nat} (hF : 11 ≤ F) (hL : 255 ≤ L) (nn : Nat) (a0 : Nat) (a1 : Int32) (h : mx_H) {r : mx_H} (hf : f_X13_fails nn a0 a1 h = some r) : mx_R X F L 576 [.ref a0, .int a1] h (none, r, 0, 0) := by
  have hm : mx_mt 576 = some (yX13_fails, cX13_fails, 3, none) := mt_X13_fails
  show mx_S X F L 576 0 [(0, .ref a0), (1, .int a1)] [] h 0 0 (none, r, 0, 0)
  unfold f_X13_fails at hf
  refine mx_S.pu (pc2 := 1) (lv2 := [(0, .ref a0), (1, .int a1)]) (st2 := [.ref a0]) hm dX13_fails_0 rfl ?_
  refine mx_S.pu (pc2 := 2) (lv2 := [(0, .ref a0), (1, .int a1)]) (st2 := [.int a1, .ref a0]) hm dX13_fails_1 rfl ?_
  refine sx_ic (v := 0) hm dX13_fails_2 (by decide) ?_
  replace hf := mx_gd_el hf; obtain ⟨c1, hf⟩ := hf
  replace hf := mx_sv_el hf; obtain ⟨u2, e_u2, hf⟩ := hf
  refine sx_cv hm dX13_fails_3 rs_RX13_1064 mt_X13_make_ [.int a1, .int 0] [] (b := a0) (ci := 13) rfl rfl rfl c1 (Nat.le_of_ble_eq_true rfl) (Nat.le_of_ble_eq_true rfl) (by omega) (by omega) (f_X13_make__ok X (by omega) (by omega) nn a0 a1 0 h e_u2) ?_
  clear e_u2
  show mx_S X F L 576 6 [(0, .ref a0), (1, .int a1)] [.int u2.1] u2.2 0 0 (none, r, 0, 0)
  refine mx_S.pu (pc2 := 7) (lv2 := [(2, .int u2.1), (0, .ref a0), (1, .int a1)]) (st2 := []) hm dX13_fails_6 rfl ?_
  refine mx_S.pu (pc2 := 8) (lv2 := [(2, .int u2.1), (0, .ref a0), (1, .int a1)]) (st2 := [.int u2.1]) hm dX13_fails_7 rfl ?_
  rcases mx_if_el hf with ⟨c5, hf⟩ | ⟨c5, hf⟩
  · refine sb_if_le hm dX13_fails_8 (tgt := 16) rfl (fun _ => ?_) (fun z => absurd c5 z)
    cases hf
    exact sx_ret hm dX13_fails_16 rfl
  · refine sb_if_le hm dX13_fails_8 (tgt := 16) rfl (fun z => absurd z c5) (fun _ => ?_)
    refine mx_S.pu (pc2 := 12) (lv2 := [(2, .int u2.1), (0, .ref a0), (1, .int a1)]) (st2 := [.ref a0]) hm dX13_fails_11 rfl ?_
    refine mx_S.pu (pc2 := 13) (lv2 := [(2, .int u2.1), (0, .ref a0), (1, .int a1)]) (st2 := [.int u2.1, .ref a0]) hm dX13_fails_12 rfl ?_
    replace hf := mx_gd_el hf; obtain ⟨c3, hf⟩ := hf
    replace hf := mx_sv_el hf; obtain ⟨u4, e_u4, hf⟩ := hf
    refine sx_cv hm dX13_fails_13 rs_RX13_1066 mt_X13_thrown [.int u2.1] [] (b := a0) (ci := 13) rfl rfl rfl c3 (Nat.le_of_ble_eq_true rfl) (Nat.le_of_ble_eq_true rfl) (by omega) (by omega) (f_X13_thrown_ok X (by omega) (by omega) nn a0 u2.1 u2.2 e_u4) ?_
    clear e_u4
    show mx_S X F L 576 16 [(2, .int u2.1), (0, .ref a0), (1, .int a1)] [] u4 0 0 (none, r, 0, 0)
    cases hf
    exact sx_ret hm dX13_fails_16 rfl
set_option maxHeartbeats 4000000 in
set_option maxRecDepth 20000 in
theorem w_X13_sameText_72_ok (X : Nat × (Nat → Int32)) {F L : Nat} (hF : 0 ≤ F) (hL : 0 ≤ L) (nn : Nat) : ∀ (k : Nat) (l0 : Nat) (l5 : Int32) (l6 : Int32) (l7 : Int32) (l8 : Int32) (h : mx_H) (r : (Int32 × mx_H)), w_X13_sameText_72 nn k l0 l5 l6 l7 l8 h = some r → mx_S X F L 508 72 [(0, .ref l0), (5, .int l5), (6, .int l6), (7, .int l7), (8, .int l8)] [] h 0 0 (some (.int r.1), r.2, 0, 0) := by
  have hm : mx_mt 508 = some (yX13_sameText, cX13_sameText, 9, (some .boolean)) := mt_X13_sameText
  intro k
  induction k with
  | zero => intro l0 l5 l6 l7 l8 h r hf; cases hf
  | succ k ih =>
    intro l0 l5 l6 l7 l8 h r hf
    unfold w_X13_sameText_72 at hf
    refine mx_S.pu (pc2 := 74) (lv2 := [(0, .ref l0), (5, .int l5), (6, .int l6), (7, .int l7), (8, .int l8)]) (st2 := [.int l8]) hm dX13_sameText_72 rfl ?_
    refine mx_S.pu (pc2 := 75) (lv2 := [(0, .ref l0), (5, .int l5), (6, .int l6), (7, .int l7), (8, .int l8)]) (st2 := [.ref l0, .int l8]) hm dX13_sameText_74 rfl ?_
    replace hf := mx_sv_el hf; obtain ⟨v1, e_v1, hf⟩ := hf
    refine sx_get hm dX13_sameText_75 rs_RX13_209 (xgr_el e_v1) ?_
    clear e_v1
    refine mx_S.pu (pc2 := 80) (lv2 := [(0, .ref l0), (5, .int l5), (6, .int l6), (7, .int l7), (8, .int l8)]) (st2 := [.int l5, .ref v1, .int l8]) hm dX13_sameText_78 rfl ?_
    refine sx_ic (v := 1) hm dX13_sameText_80 (by decide) ?_
    replace hf := xl_el hf; obtain ⟨v2, e_v2, hf⟩ := hf
    refine mx_S.pu (pc2 := 82) (lv2 := [(0, .ref l0), (5, .int l5), (6, .int l6), (7, .int l7), (8, .int l8)]) (st2 := [.int v2, .ref v1, .int l8]) hm dX13_sameText_81 (by rw [← e_v2]; rfl) ?_
    clear e_v2
    replace hf := mx_sv_el hf; obtain ⟨v3, e_v3, hf⟩ := hf
    refine sx_ald hm dX13_sameText_82 e_v3 ?_
    clear e_v3
    rcases mx_if_el hf with ⟨c18, hf⟩ | ⟨c18, hf⟩
    · refine sb_ic_ge hm dX13_sameText_83 (tgt := 131) rfl (fun _ => ?_) (fun z => absurd c18 z)
      refine mx_S.pu (pc2 := 133) (lv2 := [(0, .ref l0), (5, .int l5), (6, .int l6), (7, .int l7), (8, .int l8)]) (st2 := [.int l7]) hm dX13_sameText_131 rfl ?_
      replace hf := mx_gd_el hf; obtain ⟨c4, hf⟩ := hf
      cases hf
      exact sx_ire hm dX13_sameText_133 rfl (xbq_ok c4).1
    · refine sb_ic_ge hm dX13_sameText_83 (tgt := 131) rfl (fun z => absurd z c18) (fun _ => ?_)
      refine mx_S.pu (pc2 := 88) (lv2 := [(0, .ref l0), (5, .int l5), (6, .int l6), (7, .int l7), (8, .int l8)]) (st2 := [.int l7]) hm dX13_sameText_86 rfl ?_
      rcases mx_if_el hf with ⟨c17, hf⟩ | ⟨c17, hf⟩
      · refine sb_if_eq hm dX13_sameText_88 (tgt := 131) rfl (fun _ => ?_) (fun z => absurd c17 z)
        refine mx_S.pu (pc2 := 133) (lv2 := [(0, .ref l0), (5, .int l5), (6, .int l6), (7, .int l7), (8, .int l8)]) (st2 := [.int l7]) hm dX13_sameText_131 rfl ?_
        replace hf := mx_gd_el hf; obtain ⟨c5, hf⟩ := hf
        cases hf
        exact sx_ire hm dX13_sameText_133 rfl (xbq_ok c5).1
      · refine sb_if_eq hm dX13_sameText_88 (tgt := 131) rfl (fun z => absurd z c17) (fun _ => ?_)
        refine mx_S.pu (pc2 := 92) (lv2 := [(0, .ref l0), (5, .int l5), (6, .int l6), (7, .int l7), (8, .int l8)]) (st2 := [.ref l0]) hm dX13_sameText_91 rfl ?_
        replace hf := mx_sv_el hf; obtain ⟨v6, e_v6, hf⟩ := hf
        refine sx_get hm dX13_sameText_92 rs_RX13_209 (xgr_el e_v6) ?_
        clear e_v6
        refine mx_S.pu (pc2 := 97) (lv2 := [(0, .ref l0), (5, .int l5), (6, .int l6), (7, .int l7), (8, .int l8)]) (st2 := [.int l5, .ref v6]) hm dX13_sameText_95 rfl ?_
        refine sx_ic (v := 2) hm dX13_sameText_97 (by decide) ?_
        replace hf := xl_el hf; obtain ⟨v7, e_v7, hf⟩ := hf
        refine mx_S.pu (pc2 := 99) (lv2 := [(0, .ref l0), (5, .int l5), (6, .int l6), (7, .int l7), (8, .int l8)]) (st2 := [.int v7, .ref v6]) hm dX13_sameText_98 (by rw [← e_v7]; rfl) ?_
        clear e_v7
        refine mx_S.pu (pc2 := 101) (lv2 := [(0, .ref l0), (5, .int l5), (6, .int l6), (7, .int l7), (8, .int l8)]) (st2 := [.int l8, .int v7, .ref v6]) hm dX13_sameText_99 rfl ?_
        replace hf := xl_el hf; obtain ⟨v8, e_v8, hf⟩ := hf
        refine mx_S.pu (pc2 := 102) (lv2 := [(0, .ref l0), (5, .int l5), (6, .int l6), (7, .int l7), (8, .int l8)]) (st2 := [.int v8, .ref v6]) hm dX13_sameText_101 (by rw [← e_v8]; rfl) ?_
        clear e_v8
        replace hf := mx_sv_el hf; obtain ⟨v9, e_v9, hf⟩ := hf
        refine sx_ald hm dX13_sameText_102 e_v9 ?_
        clear e_v9
        refine mx_S.pu (pc2 := 104) (lv2 := [(0, .ref l0), (5, .int l5), (6, .int l6), (7, .int l7), (8, .int l8)]) (st2 := [.ref l0, .int v9]) hm dX13_sameText_103 rfl ?_
        replace hf := mx_sv_el hf; obtain ⟨v10, e_v10, hf⟩ := hf
        refine sx_get hm dX13_sameText_104 rs_RX13_209 (xgr_el e_v10) ?_
        clear e_v10
        refine mx_S.pu (pc2 := 109) (lv2 := [(0, .ref l0), (5, .int l5), (6, .int l6), (7, .int l7), (8, .int l8)]) (st2 := [.int l6, .ref v10, .int v9]) hm dX13_sameText_107 rfl ?_
        refine sx_ic (v := 2) hm dX13_sameText_109 (by decide) ?_
        replace hf := xl_el hf; obtain ⟨v11, e_v11, hf⟩ := hf
        refine mx_S.pu (pc2 := 111) (lv2 := [(0, .ref l0), (5, .int l5), (6, .int l6), (7, .int l7), (8, .int l8)]) (st2 := [.int v11, .ref v10, .int v9]) hm dX13_sameText_110 (by rw [← e_v11]; rfl) ?_
        clear e_v11
        refine mx_S.pu (pc2 := 113) (lv2 := [(0, .ref l0), (5, .int l5), (6, .int l6), (7, .int l7), (8, .int l8)]) (st2 := [.int l8, .int v11, .ref v10, .int v9]) hm dX13_sameText_111 rfl ?_
        replace hf := xl_el hf; obtain ⟨v12, e_v12, hf⟩ := hf
        refine mx_S.pu (pc2 := 114) (lv2 := [(0, .ref l0), (5, .int l5), (6, .int l6), (7, .int l7), (8, .int l8)]) (st2 := [.int v12, .ref v10, .int v9]) hm dX13_sameText_113 (by rw [← e_v12]; rfl) ?_
        clear e_v12
        replace hf := mx_sv_el hf; obtain ⟨v13, e_v13, hf⟩ := hf
        refine sx_ald hm dX13_sameText_114 e_v13 ?_
        clear e_v13
        rcases mx_if_el hf with ⟨c16, hf⟩ | ⟨c16, hf⟩
        · refine sb_ic_ne hm dX13_sameText_115 (tgt := 122) rfl (fun _ => ?_) (fun z => absurd c16 z)
          refine sx_ic (v := 0) hm dX13_sameText_122 (by decide) ?_
          refine mx_S.pu (pc2 := 125) (lv2 := [(7, .int 0), (0, .ref l0), (5, .int l5), (6, .int l6), (8, .int l8)]) (st2 := []) hm dX13_sameText_123 rfl ?_
          replace hf := xl_el hf; obtain ⟨v14, e_v14, hf⟩ := hf
          refine mx_S.pu (pc2 := 128) (lv2 := [(8, .int v14), (7, .int 0), (0, .ref l0), (5, .int l5), (6, .int l6)]) (st2 := []) hm dX13_sameText_125 (by rw [← e_v14]; rfl) ?_
          clear e_v14
          refine mx_S.pu (pc2 := 72) (lv2 := [(8, .int v14), (7, .int 0), (0, .ref l0), (5, .int l5), (6, .int l6)]) (st2 := []) hm dX13_sameText_128 rfl ?_
          refine mx_S.ext [(0, .ref l0), (5, .int l5), (6, .int l6), (7, .int 0), (8, .int v14)] (mx_sub_pos [2, 3, 4, 1, 0] rfl (show ([8, 7, 0, 5, 6] : List Nat).Nodup by decide)) ?_
          exact ih l0 l5 l6 0 v14 h _ hf
        · refine sb_ic_ne hm dX13_sameText_115 (tgt := 122) rfl (fun z => absurd z c16) (fun _ => ?_)
          refine sx_ic (v := 1) hm dX13_sameText_118 (by decide) ?_
          refine mx_S.pu (pc2 := 123) (lv2 := [(0, .ref l0), (5, .int l5), (6, .int l6), (7, .int l7), (8, .int l8)]) (st2 := [.int 1]) hm dX13_sameText_119 rfl ?_
          refine mx_S.pu (pc2 := 125) (lv2 := [(7, .int 1), (0, .ref l0), (5, .int l5), (6, .int l6), (8, .int l8)]) (st2 := []) hm dX13_sameText_123 rfl ?_
          replace hf := xl_el hf; obtain ⟨v15, e_v15, hf⟩ := hf
          refine mx_S.pu (pc2 := 128) (lv2 := [(8, .int v15), (7, .int 1), (0, .ref l0), (5, .int l5), (6, .int l6)]) (st2 := []) hm dX13_sameText_125 (by rw [← e_v15]; rfl) ?_
          clear e_v15
          refine mx_S.pu (pc2 := 72) (lv2 := [(8, .int v15), (7, .int 1), (0, .ref l0), (5, .int l5), (6, .int l6)]) (st2 := []) hm dX13_sameText_128 rfl ?_
          refine mx_S.ext [(0, .ref l0), (5, .int l5), (6, .int l6), (7, .int 1), (8, .int v15)] (mx_sub_pos [2, 3, 4, 1, 0] rfl (show ([8, 7, 0, 5, 6] : List Nat).Nodup by decide)) ?_
          exact ih l0 l5 l6 1 v15 h _ hf
set_option maxHeartbeats 4000000 in
set_option maxRecDepth 20000 in
theorem f_X13_sameText_ok (X : Nat × (Nat → Int32)) {F L : Nat} (hF : 0 ≤ F) (hL : 0 ≤ L) (nn : Nat) (a0 : Nat) (a1 : Int32) (a2 : Int32) (a3 : Int32) (a4 : Int32) (h : mx_H) {r : (Int32 × mx_H)} (hf : f_X13_sameText nn a0 a1 a2 a3 a4 h = some r) : mx_R X F L 508 [.ref a0, .int a1, .int a2, .int a3, .int a4] h (some (.int r.1), r.2, 0, 0) := by
  have hm : mx_mt 508 = some (yX13_sameText, cX13_sameText, 9, (some .boolean)) := mt_X13_sameText
  show mx_S X F L 508 0 [(0, .ref a0), (1, .int a1), (2, .int a2), (3, .int a3), (4, .int a4)] [] h 0 0 (some (.int r.1), r.2, 0, 0)
  unfold f_X13_sameText at hf
  refine sx_si (v := 6000) hm dX13_sameText_0 (by decide) ?_
  refine mx_S.pu (pc2 := 4) (lv2 := [(0, .ref a0), (1, .int a1), (2, .int a2), (3, .int a3), (4, .int a4)]) (st2 := [.int a1, .int 6000]) hm dX13_sameText_3 rfl ?_
  replace hf := xl_el hf; obtain ⟨v19, e_v19, hf⟩ := hf
  refine mx_S.pu (pc2 := 5) (lv2 := [(0, .ref a0), (1, .int a1), (2, .int a2), (3, .int a3), (4, .int a4)]) (st2 := [.int v19]) hm dX13_sameText_4 (by rw [← e_v19]; rfl) ?_
  clear e_v19
  refine mx_S.pu (pc2 := 6) (lv2 := [(0, .ref a0), (1, .int a1), (2, .int a2), (3, .int a3), (4, .int a4)]) (st2 := [.ref a0, .int v19]) hm dX13_sameText_5 rfl ?_
  replace hf := mx_sv_el hf; obtain ⟨v20, e_v20, hf⟩ := hf
  refine sx_get hm dX13_sameText_6 rs_RX13_215 (xgr_el e_v20) ?_
  clear e_v20
  refine sx_si (v := 256) hm dX13_sameText_9 (by decide) ?_
  refine mx_S.pu (pc2 := 13) (lv2 := [(0, .ref a0), (1, .int a1), (2, .int a2), (3, .int a3), (4, .int a4)]) (st2 := [.int a1, .int 256, .ref v20, .int v19]) hm dX13_sameText_12 rfl ?_
  replace hf := xl_el hf; obtain ⟨v21, e_v21, hf⟩ := hf
  refine mx_S.pu (pc2 := 14) (lv2 := [(0, .ref a0), (1, .int a1), (2, .int a2), (3, .int a3), (4, .int a4)]) (st2 := [.int v21, .ref v20, .int v19]) hm dX13_sameText_13 (by rw [← e_v21]; rfl) ?_
  clear e_v21
  refine mx_S.pu (pc2 := 15) (lv2 := [(0, .ref a0), (1, .int a1), (2, .int a2), (3, .int a3), (4, .int a4)]) (st2 := [.int a2, .int v21, .ref v20, .int v19]) hm dX13_sameText_14 rfl ?_
  replace hf := xl_el hf; obtain ⟨v22, e_v22, hf⟩ := hf
  refine mx_S.pu (pc2 := 16) (lv2 := [(0, .ref a0), (1, .int a1), (2, .int a2), (3, .int a3), (4, .int a4)]) (st2 := [.int v22, .ref v20, .int v19]) hm dX13_sameText_15 (by rw [← e_v22]; rfl) ?_
  clear e_v22
  replace hf := mx_sv_el hf; obtain ⟨v23, e_v23, hf⟩ := hf
  refine sx_ald hm dX13_sameText_16 e_v23 ?_
  clear e_v23
  replace hf := xl_el hf; obtain ⟨v24, e_v24, hf⟩ := hf
  refine mx_S.pu (pc2 := 18) (lv2 := [(0, .ref a0), (1, .int a1), (2, .int a2), (3, .int a3), (4, .int a4)]) (st2 := [.int v24]) hm dX13_sameText_17 (by rw [← e_v24]; rfl) ?_
  clear e_v24
  refine mx_S.pu (pc2 := 20) (lv2 := [(5, .int v24), (0, .ref a0), (1, .int a1), (2, .int a2), (3, .int a3), (4, .int a4)]) (st2 := []) hm dX13_sameText_18 rfl ?_
  refine sx_si (v := 6000) hm dX13_sameText_20 (by decide) ?_
  refine mx_S.pu (pc2 := 24) (lv2 := [(5, .int v24), (0, .ref a0), (1, .int a1), (2, .int a2), (3, .int a3), (4, .int a4)]) (st2 := [.int a3, .int 6000]) hm dX13_sameText_23 rfl ?_
  replace hf := xl_el hf; obtain ⟨v25, e_v25, hf⟩ := hf
  refine mx_S.pu (pc2 := 25) (lv2 := [(5, .int v24), (0, .ref a0), (1, .int a1), (2, .int a2), (3, .int a3), (4, .int a4)]) (st2 := [.int v25]) hm dX13_sameText_24 (by rw [← e_v25]; rfl) ?_
  clear e_v25
  refine mx_S.pu (pc2 := 26) (lv2 := [(5, .int v24), (0, .ref a0), (1, .int a1), (2, .int a2), (3, .int a3), (4, .int a4)]) (st2 := [.ref a0, .int v25]) hm dX13_sameText_25 rfl ?_
  replace hf := mx_sv_el hf; obtain ⟨v26, e_v26, hf⟩ := hf
  refine sx_get hm dX13_sameText_26 rs_RX13_215 (xgr_el e_v26) ?_
  clear e_v26
  refine sx_si (v := 256) hm dX13_sameText_29 (by decide) ?_
  refine mx_S.pu (pc2 := 33) (lv2 := [(5, .int v24), (0, .ref a0), (1, .int a1), (2, .int a2), (3, .int a3), (4, .int a4)]) (st2 := [.int a3, .int 256, .ref v26, .int v25]) hm dX13_sameText_32 rfl ?_
  replace hf := xl_el hf; obtain ⟨v27, e_v27, hf⟩ := hf
  refine mx_S.pu (pc2 := 34) (lv2 := [(5, .int v24), (0, .ref a0), (1, .int a1), (2, .int a2), (3, .int a3), (4, .int a4)]) (st2 := [.int v27, .ref v26, .int v25]) hm dX13_sameText_33 (by rw [← e_v27]; rfl) ?_
  clear e_v27
  refine mx_S.pu (pc2 := 36) (lv2 := [(5, .int v24), (0, .ref a0), (1, .int a1), (2, .int a2), (3, .int a3), (4, .int a4)]) (st2 := [.int a4, .int v27, .ref v26, .int v25]) hm dX13_sameText_34 rfl ?_
  replace hf := xl_el hf; obtain ⟨v28, e_v28, hf⟩ := hf
  refine mx_S.pu (pc2 := 37) (lv2 := [(5, .int v24), (0, .ref a0), (1, .int a1), (2, .int a2), (3, .int a3), (4, .int a4)]) (st2 := [.int v28, .ref v26, .int v25]) hm dX13_sameText_36 (by rw [← e_v28]; rfl) ?_
  clear e_v28
  replace hf := mx_sv_el hf; obtain ⟨v29, e_v29, hf⟩ := hf
  refine sx_ald hm dX13_sameText_37 e_v29 ?_
  clear e_v29
  replace hf := xl_el hf; obtain ⟨v30, e_v30, hf⟩ := hf
  refine mx_S.pu (pc2 := 39) (lv2 := [(5, .int v24), (0, .ref a0), (1, .int a1), (2, .int a2), (3, .int a3), (4, .int a4)]) (st2 := [.int v30]) hm dX13_sameText_38 (by rw [← e_v30]; rfl) ?_
  clear e_v30
  refine mx_S.pu (pc2 := 41) (lv2 := [(6, .int v30), (5, .int v24), (0, .ref a0), (1, .int a1), (2, .int a2), (3, .int a3), (4, .int a4)]) (st2 := []) hm dX13_sameText_39 rfl ?_
  refine mx_S.pu (pc2 := 42) (lv2 := [(6, .int v30), (5, .int v24), (0, .ref a0), (1, .int a1), (2, .int a2), (3, .int a3), (4, .int a4)]) (st2 := [.ref a0]) hm dX13_sameText_41 rfl ?_
  replace hf := mx_sv_el hf; obtain ⟨v31, e_v31, hf⟩ := hf
  refine sx_get hm dX13_sameText_42 rs_RX13_209 (xgr_el e_v31) ?_
  clear e_v31
  refine mx_S.pu (pc2 := 47) (lv2 := [(6, .int v30), (5, .int v24), (0, .ref a0), (1, .int a1), (2, .int a2), (3, .int a3), (4, .int a4)]) (st2 := [.int v24, .ref v31]) hm dX13_sameText_45 rfl ?_
  refine sx_ic (v := 1) hm dX13_sameText_47 (by decide) ?_
  replace hf := xl_el hf; obtain ⟨v32, e_v32, hf⟩ := hf
  refine mx_S.pu (pc2 := 49) (lv2 := [(6, .int v30), (5, .int v24), (0, .ref a0), (1, .int a1), (2, .int a2), (3, .int a3), (4, .int a4)]) (st2 := [.int v32, .ref v31]) hm dX13_sameText_48 (by rw [← e_v32]; rfl) ?_
  clear e_v32
  replace hf := mx_sv_el hf; obtain ⟨v33, e_v33, hf⟩ := hf
  refine sx_ald hm dX13_sameText_49 e_v33 ?_
  clear e_v33
  refine mx_S.pu (pc2 := 51) (lv2 := [(6, .int v30), (5, .int v24), (0, .ref a0), (1, .int a1), (2, .int a2), (3, .int a3), (4, .int a4)]) (st2 := [.ref a0, .int v33]) hm dX13_sameText_50 rfl ?_
  replace hf := mx_sv_el hf; obtain ⟨v34, e_v34, hf⟩ := hf
  refine sx_get hm dX13_sameText_51 rs_RX13_209 (xgr_el e_v34) ?_
  clear e_v34
  refine mx_S.pu (pc2 := 56) (lv2 := [(6, .int v30), (5, .int v24), (0, .ref a0), (1, .int a1), (2, .int a2), (3, .int a3), (4, .int a4)]) (st2 := [.int v30, .ref v34, .int v33]) hm dX13_sameText_54 rfl ?_
  refine sx_ic (v := 1) hm dX13_sameText_56 (by decide) ?_
  replace hf := xl_el hf; obtain ⟨v35, e_v35, hf⟩ := hf
  refine mx_S.pu (pc2 := 58) (lv2 := [(6, .int v30), (5, .int v24), (0, .ref a0), (1, .int a1), (2, .int a2), (3, .int a3), (4, .int a4)]) (st2 := [.int v35, .ref v34, .int v33]) hm dX13_sameText_57 (by rw [← e_v35]; rfl) ?_
  clear e_v35
  replace hf := mx_sv_el hf; obtain ⟨v36, e_v36, hf⟩ := hf
  refine sx_ald hm dX13_sameText_58 e_v36 ?_
  clear e_v36
  rcases mx_if_el hf with ⟨c37, hf⟩ | ⟨c37, hf⟩
  · refine sb_ic_ne hm dX13_sameText_59 (tgt := 66) rfl (fun _ => ?_) (fun z => absurd c37 z)
    refine sx_ic (v := 0) hm dX13_sameText_66 (by decide) ?_
    refine mx_S.pu (pc2 := 69) (lv2 := [(7, .int 0), (6, .int v30), (5, .int v24), (0, .ref a0), (1, .int a1), (2, .int a2), (3, .int a3), (4, .int a4)]) (st2 := []) hm dX13_sameText_67 rfl ?_
    refine sx_ic (v := 0) hm dX13_sameText_69 (by decide) ?_
    refine mx_S.pu (pc2 := 72) (lv2 := [(8, .int 0), (7, .int 0), (6, .int v30), (5, .int v24), (0, .ref a0), (1, .int a1), (2, .int a2), (3, .int a3), (4, .int a4)]) (st2 := []) hm dX13_sameText_70 rfl ?_
    refine mx_S.ext [(0, .ref a0), (5, .int v24), (6, .int v30), (7, .int 0), (8, .int 0)] (mx_sub_pos [4, 3, 2, 1, 0] rfl (show ([8, 7, 6, 5, 0, 1, 2, 3, 4] : List Nat).Nodup by decide)) ?_
    exact w_X13_sameText_72_ok X hF hL nn nn a0 v24 v30 0 0 h _ hf
  · refine sb_ic_ne hm dX13_sameText_59 (tgt := 66) rfl (fun z => absurd z c37) (fun _ => ?_)
    refine sx_ic (v := 1) hm dX13_sameText_62 (by decide) ?_
    refine mx_S.pu (pc2 := 67) (lv2 := [(6, .int v30), (5, .int v24), (0, .ref a0), (1, .int a1), (2, .int a2), (3, .int a3), (4, .int a4)]) (st2 := [.int 1]) hm dX13_sameText_63 rfl ?_
    refine mx_S.pu (pc2 := 69) (lv2 := [(7, .int 1), (6, .int v30), (5, .int v24), (0, .ref a0), (1, .int a1), (2, .int a2), (3, .int a3), (4, .int a4)]) (st2 := []) hm dX13_sameText_67 rfl ?_
    refine sx_ic (v := 0) hm dX13_sameText_69 (by decide) ?_
    refine mx_S.pu (pc2 := 72) (lv2 := [(8, .int 0), (7, .int 1), (6, .int v30), (5, .int v24), (0, .ref a0), (1, .int a1), (2, .int a2), (3, .int a3), (4, .int a4)]) (st2 := []) hm dX13_sameText_70 rfl ?_
    refine mx_S.ext [(0, .ref a0), (5, .int v24), (6, .int v30), (7, .int 1), (8, .int 0)] (mx_sub_pos [4, 3, 2, 1, 0] rfl (show ([8, 7, 6, 5, 0, 1, 2, 3, 4] : List Nat).Nodup by decide)) ?_
    exact w_X13_sameText_72_ok X hF hL nn nn a0 v24 v30 1 0 h _ hf
set_option maxHeartbeats 4000000 in
set_option maxRecDepth 20000 in
theorem j_X13_holder_148_ok (X : Nat × (Nat → Int32)) {F L : Nat} (hF : 8 ≤ F) (hL : 181 ≤ L) (nn : Nat) {kk_6 : Nat → Int32 → Int32 → Int32 → Int32 → Int32 → mx_H → Option (Int32 × mx_H)} (hk_6 : ∀ (l0 : Nat) (l2 : Int32) (l3 : Int32) (l4 : Int32) (l5 : Int32) (l6 : Int32) (h : mx_H) (r : (Int32 × mx_H)), kk_6 l0 l2 l3 l4 l5 l6 h = some r → mx_S X F L 532 6 [(0, .ref l0), (2, .int l2), (3, .int l3), (4, .int l4), (5, .int l5), (6, .int l6)] [] h 0 0 (some (.int r.1), r.2, 0, 0)) (l0 : Nat) (l2 : Int32) (l3 : Int32) (l4 : Int32) (l5 : Int32) (l6 : Int32) (h : mx_H) {r : (Int32 × mx_H)} (hf : j_X13_holder_148 nn kk_6 l0 l2 l3 l4 l5 l6 h = some r) : mx_S X F L 532 148 [(0, .ref l0), (2, .int l2), (3, .int l3), (4, .int l4), (5, .int l5), (6, .int l6)] [] h 0 0 (some (.int r.1), r.2, 0, 0) := by
  have hm : mx_mt 532 = some (yX13_holder, cX13_holder, 11, (some .int)) := mt_X13_holder
  unfold j_X13_holder_148 at hf
  refine mx_S.pu (pc2 := 149) (lv2 := [(0, .ref l0), (2, .int l2), (3, .int l3), (4, .int l4), (5, .int l5), (6, .int l6)]) (st2 := [.ref l0]) hm dX13_holder_148 rfl ?_
  refine mx_S.pu (pc2 := 151) (lv2 := [(0, .ref l0), (2, .int l2), (3, .int l3), (4, .int l4), (5, .int l5), (6, .int l6)]) (st2 := [.int l5, .ref l0]) hm dX13_holder_149 rfl ?_
  replace hf := mx_gd_el hf; obtain ⟨c1, hf⟩ := hf
  replace hf := mx_sv_el hf; obtain ⟨u2, e_u2, hf⟩ := hf
  refine sx_cv hm dX13_holder_151 rs_RX13_873 mt_X13_superOf [.int l5] [] (b := l0) (ci := 13) rfl rfl rfl c1 (Nat.le_of_ble_eq_true rfl) (Nat.le_of_ble_eq_true rfl) (by omega) (by omega) (f_X13_superOf_ok X (by omega) (by omega) nn l0 l5 h e_u2) ?_
  clear e_u2
  show mx_S X F L 532 154 [(0, .ref l0), (2, .int l2), (3, .int l3), (4, .int l4), (5, .int l5), (6, .int l6)] [.int u2.1] u2.2 0 0 (some (.int r.1), r.2, 0, 0)
  refine mx_S.pu (pc2 := 156) (lv2 := [(5, .int u2.1), (0, .ref l0), (2, .int l2), (3, .int l3), (4, .int l4), (6, .int l6)]) (st2 := []) hm dX13_holder_154 rfl ?_
  replace hf := xl_el hf; obtain ⟨v3, e_v3, hf⟩ := hf
  refine mx_S.pu (pc2 := 159) (lv2 := [(6, .int v3), (5, .int u2.1), (0, .ref l0), (2, .int l2), (3, .int l3), (4, .int l4)]) (st2 := []) hm dX13_holder_156 (by rw [← e_v3]; rfl) ?_
  clear e_v3
  refine mx_S.pu (pc2 := 6) (lv2 := [(6, .int v3), (5, .int u2.1), (0, .ref l0), (2, .int l2), (3, .int l3), (4, .int l4)]) (st2 := []) hm dX13_holder_159 rfl ?_
  refine mx_S.ext [(0, .ref l0), (2, .int l2), (3, .int l3), (4, .int l4), (5, .int u2.1), (6, .int v3)] (mx_sub_pos [2, 3, 4, 5, 1, 0] rfl (show ([6, 5, 0, 2, 3, 4] : List Nat).Nodup by decide)) ?_
  exact hk_6 l0 l2 l3 l4 u2.1 v3 u2.2 _ hf
set_option maxHeartbeats 4000000 in
set_option maxRecDepth 20000 in
theorem j_X13_holder_115_ok (X : Nat × (Nat → Int32)) {F L : Nat} (hF : 8 ≤ F) (hL : 181 ≤ L) (nn : Nat) {kk_6 : Nat → Int32 → Int32 → Int32 → Int32 → Int32 → mx_H → Option (Int32 × mx_H)} (hk_6 : ∀ (l0 : Nat) (l2 : Int32) (l3 : Int32) (l4 : Int32) (l5 : Int32) (l6 : Int32) (h : mx_H) (r : (Int32 × mx_H)), kk_6 l0 l2 l3 l4 l5 l6 h = some r → mx_S X F L 532 6 [(0, .ref l0), (2, .int l2), (3, .int l3), (4, .int l4), (5, .int l5), (6, .int l6)] [] h 0 0 (some (.int r.1), r.2, 0, 0)) {kk_60 : Nat → Int32 → Int32 → Int32 → Int32 → Int32 → Int32 → Int32 → Int32 → mx_H → Option (Int32 × mx_H)} (hk_60 : ∀ (l0 : Nat) (l2 : Int32) (l3 : Int32) (l4 : Int32) (l5 : Int32) (l6 : Int32) (l7 : Int32) (l8 : Int32) (l9 : Int32) (h : mx_H) (r : (Int32 × mx_H)), kk_60 l0 l2 l3 l4 l5 l6 l7 l8 l9 h = some r → mx_S X F L 532 60 [(0, .ref l0), (2, .int l2), (3, .int l3), (4, .int l4), (5, .int l5), (6, .int l6), (7, .int l7), (8, .int l8), (9, .int l9)] [] h 0 0 (some (.int r.1), r.2, 0, 0)) (l0 : Nat) (l2 : Int32) (l3 : Int32) (l4 : Int32) (l5 : Int32) (l6 : Int32) (l7 : Int32) (l8 : Int32) (l9 : Int32) (s0 : Int32) (h : mx_H) {r : (Int32 × mx_H)} (hf : j_X13_holder_115 nn kk_6 kk_60 l0 l2 l3 l4 l5 l6 l7 l8 l9 s0 h = some r) : mx_S X F L 532 115 [(0, .ref l0), (2, .int l2), (3, .int l3), (4, .int l4), (5, .int l5), (6, .int l6), (7, .int l7), (8, .int l8), (9, .int l9)] [.int s0] h 0 0 (some (.int r.1), r.2, 0, 0) := by
  have hm : mx_mt 532 = some (yX13_holder, cX13_holder, 11, (some .int)) := mt_X13_holder
  unfold j_X13_holder_115 at hf
  refine mx_S.pu (pc2 := 117) (lv2 := [(10, .int s0), (0, .ref l0), (2, .int l2), (3, .int l3), (4, .int l4), (5, .int l5), (6, .int l6), (7, .int l7), (8, .int l8), (9, .int l9)]) (st2 := []) hm dX13_holder_115 rfl ?_
  refine mx_S.pu (pc2 := 118) (lv2 := [(10, .int s0), (0, .ref l0), (2, .int l2), (3, .int l3), (4, .int l4), (5, .int l5), (6, .int l6), (7, .int l7), (8, .int l8), (9, .int l9)]) (st2 := [.ref l0]) hm dX13_holder_117 rfl ?_
  refine mx_S.pu (pc2 := 120) (lv2 := [(10, .int s0), (0, .ref l0), (2, .int l2), (3, .int l3), (4, .int l4), (5, .int l5), (6, .int l6), (7, .int l7), (8, .int l8), (9, .int l9)]) (st2 := [.int l7, .ref l0]) hm dX13_holder_118 rfl ?_
  refine mx_S.pu (pc2 := 122) (lv2 := [(10, .int s0), (0, .ref l0), (2, .int l2), (3, .int l3), (4, .int l4), (5, .int l5), (6, .int l6), (7, .int l7), (8, .int l8), (9, .int l9)]) (st2 := [.int s0, .int l7, .ref l0]) hm dX13_holder_120 rfl ?_
  refine mx_S.pu (pc2 := 123) (lv2 := [(10, .int s0), (0, .ref l0), (2, .int l2), (3, .int l3), (4, .int l4), (5, .int l5), (6, .int l6), (7, .int l7), (8, .int l8), (9, .int l9)]) (st2 := [.int l2, .int s0, .int l7, .ref l0]) hm dX13_holder_122 rfl ?_
  refine mx_S.pu (pc2 := 124) (lv2 := [(10, .int s0), (0, .ref l0), (2, .int l2), (3, .int l3), (4, .int l4), (5, .int l5), (6, .int l6), (7, .int l7), (8, .int l8), (9, .int l9)]) (st2 := [.int l3, .int l2, .int s0, .int l7, .ref l0]) hm dX13_holder_123 rfl ?_
  replace hf := mx_gd_el hf; obtain ⟨c4, hf⟩ := hf
  replace hf := mx_sv_el hf; obtain ⟨u5, e_u5, hf⟩ := hf
  refine sx_cv hm dX13_holder_124 rs_RX13_894 mt_X13_sameText [.int l7, .int s0, .int l2, .int l3] [] (b := l0) (ci := 13) rfl rfl rfl c4 (Nat.le_of_ble_eq_true rfl) (Nat.le_of_ble_eq_true rfl) (by omega) (by omega) (f_X13_sameText_ok X (by omega) (by omega) nn l0 l7 s0 l2 l3 h e_u5) ?_
  clear e_u5
  show mx_S X F L 532 127 [(10, .int s0), (0, .ref l0), (2, .int l2), (3, .int l3), (4, .int l4), (5, .int l5), (6, .int l6), (7, .int l7), (8, .int l8), (9, .int l9)] [.int u5.1] u5.2 0 0 (some (.int r.1), r.2, 0, 0)
  rcases mx_if_el hf with ⟨c8, hf⟩ | ⟨c8, hf⟩
  · refine sb_if_ne hm dX13_holder_127 (tgt := 133) rfl (fun _ => ?_) (fun z => absurd c8 z)
    refine mx_S.pu (pc2 := 134) (lv2 := [(10, .int s0), (0, .ref l0), (2, .int l2), (3, .int l3), (4, .int l4), (5, .int l5), (6, .int l6), (7, .int l7), (8, .int l8), (9, .int l9)]) (st2 := [.ref l0]) hm dX13_holder_133 rfl ?_
    refine mx_S.pu (pc2 := 136) (lv2 := [(10, .int s0), (0, .ref l0), (2, .int l2), (3, .int l3), (4, .int l4), (5, .int l5), (6, .int l6), (7, .int l7), (8, .int l8), (9, .int l9)]) (st2 := [.int l9, .ref l0]) hm dX13_holder_134 rfl ?_
    replace hf := mx_sv_el hf; obtain ⟨h6, e_h6, hf⟩ := hf
    refine sx_put hm dX13_holder_136 rs_RX13_898 ft_13_121 ⟨rfl, rfl⟩ (fun z => by cases z) e_h6 ?_
    clear e_h6
    refine mx_S.pu (pc2 := 141) (lv2 := [(10, .int s0), (0, .ref l0), (2, .int l2), (3, .int l3), (4, .int l4), (5, .int l5), (6, .int l6), (7, .int l7), (8, .int l8), (9, .int l9)]) (st2 := [.int l5]) hm dX13_holder_139 rfl ?_
    cases hf
    exact sx_ire hm dX13_holder_141 rfl rfl
  · refine sb_if_ne hm dX13_holder_127 (tgt := 133) rfl (fun z => absurd z c8) (fun _ => ?_)
    refine mx_S.pu (pc2 := 142) (lv2 := [(10, .int s0), (0, .ref l0), (2, .int l2), (3, .int l3), (4, .int l4), (5, .int l5), (6, .int l6), (7, .int l7), (8, .int l8), (9, .int l9)]) (st2 := []) hm dX13_holder_130 rfl ?_
    replace hf := xl_el hf; obtain ⟨v7, e_v7, hf⟩ := hf
    refine mx_S.pu (pc2 := 145) (lv2 := [(9, .int v7), (10, .int s0), (0, .ref l0), (2, .int l2), (3, .int l3), (4, .int l4), (5, .int l5), (6, .int l6), (7, .int l7), (8, .int l8)]) (st2 := []) hm dX13_holder_142 (by rw [← e_v7]; rfl) ?_
    clear e_v7
    refine mx_S.pu (pc2 := 60) (lv2 := [(9, .int v7), (10, .int s0), (0, .ref l0), (2, .int l2), (3, .int l3), (4, .int l4), (5, .int l5), (6, .int l6), (7, .int l7), (8, .int l8)]) (st2 := []) hm dX13_holder_145 rfl ?_
    refine mx_S.ext [(0, .ref l0), (2, .int l2), (3, .int l3), (4, .int l4), (5, .int l5), (6, .int l6), (7, .int l7), (8, .int l8), (9, .int v7)] (mx_sub_pos [2, 3, 4, 5, 6, 7, 8, 9, 0] rfl (show ([9, 10, 0, 2, 3, 4, 5, 6, 7, 8] : List Nat).Nodup by decide)) ?_
    exact hk_60 l0 l2 l3 l4 l5 l6 l7 l8 v7 u5.2 _ hf
set_option maxHeartbeats 4000000 in
set_option maxRecDepth 20000 in
theorem w_X13_holder_60_ok (X : Nat × (Nat → Int32)) {F L : Nat} (hF : 8 ≤ F) (hL : 181 ≤ L) (nn : Nat) {kk_6 : Nat → Int32 → Int32 → Int32 → Int32 → Int32 → mx_H → Option (Int32 × mx_H)} (hk_6 : ∀ (l0 : Nat) (l2 : Int32) (l3 : Int32) (l4 : Int32) (l5 : Int32) (l6 : Int32) (h : mx_H) (r : (Int32 × mx_H)), kk_6 l0 l2 l3 l4 l5 l6 h = some r → mx_S X F L 532 6 [(0, .ref l0), (2, .int l2), (3, .int l3), (4, .int l4), (5, .int l5), (6, .int l6)] [] h 0 0 (some (.int r.1), r.2, 0, 0)) : ∀ (k : Nat) (l0 : Nat) (l2 : Int32) (l3 : Int32) (l4 : Int32) (l5 : Int32) (l6 : Int32) (l7 : Int32) (l8 : Int32) (l9 : Int32) (h : mx_H) (r : (Int32 × mx_H)), w_X13_holder_60 nn kk_6 k l0 l2 l3 l4 l5 l6 l7 l8 l9 h = some r → mx_S X F L 532 60 [(0, .ref l0), (2, .int l2), (3, .int l3), (4, .int l4), (5, .int l5), (6, .int l6), (7, .int l7), (8, .int l8), (9, .int l9)] [] h 0 0 (some (.int r.1), r.2, 0, 0) := by
  have hm : mx_mt 532 = some (yX13_holder, cX13_holder, 11, (some .int)) := mt_X13_holder
  intro k
  induction k with
  | zero => intro l0 l2 l3 l4 l5 l6 l7 l8 l9 h r hf; cases hf
  | succ k ih =>
    intro l0 l2 l3 l4 l5 l6 l7 l8 l9 h r hf
    unfold w_X13_holder_60 at hf
    refine mx_S.pu (pc2 := 62) (lv2 := [(0, .ref l0), (2, .int l2), (3, .int l3), (4, .int l4), (5, .int l5), (6, .int l6), (7, .int l7), (8, .int l8), (9, .int l9)]) (st2 := [.int l9]) hm dX13_holder_60 rfl ?_
    refine mx_S.pu (pc2 := 64) (lv2 := [(0, .ref l0), (2, .int l2), (3, .int l3), (4, .int l4), (5, .int l5), (6, .int l6), (7, .int l7), (8, .int l8), (9, .int l9)]) (st2 := [.int l8, .int l9]) hm dX13_holder_62 rfl ?_
    rcases mx_if_el hf with ⟨c23, hf⟩ | ⟨c23, hf⟩
    · refine sb_ic_ge hm dX13_holder_64 (tgt := 148) rfl (fun _ => ?_) (fun z => absurd c23 z)
      refine mx_S.ext [(0, .ref l0), (2, .int l2), (3, .int l3), (4, .int l4), (5, .int l5), (6, .int l6)] (mx_sub_pos [0, 1, 2, 3, 4, 5] rfl (show ([0, 2, 3, 4, 5, 6, 7, 8, 9] : List Nat).Nodup by decide)) ?_
      exact j_X13_holder_148_ok X hF hL nn hk_6 l0 l2 l3 l4 l5 l6 h hf
    · refine sb_ic_ge hm dX13_holder_64 (tgt := 148) rfl (fun z => absurd z c23) (fun _ => ?_)
      refine mx_S.pu (pc2 := 69) (lv2 := [(0, .ref l0), (2, .int l2), (3, .int l3), (4, .int l4), (5, .int l5), (6, .int l6), (7, .int l7), (8, .int l8), (9, .int l9)]) (st2 := [.int l4]) hm dX13_holder_67 rfl ?_
      rcases mx_if_el hf with ⟨c22, hf⟩ | ⟨c22, hf⟩
      · refine sb_if_eq hm dX13_holder_69 (tgt := 96) rfl (fun _ => ?_) (fun z => absurd c22 z)
        refine mx_S.pu (pc2 := 97) (lv2 := [(0, .ref l0), (2, .int l2), (3, .int l3), (4, .int l4), (5, .int l5), (6, .int l6), (7, .int l7), (8, .int l8), (9, .int l9)]) (st2 := [.ref l0]) hm dX13_holder_96 rfl ?_
        refine mx_S.pu (pc2 := 99) (lv2 := [(0, .ref l0), (2, .int l2), (3, .int l3), (4, .int l4), (5, .int l5), (6, .int l6), (7, .int l7), (8, .int l8), (9, .int l9)]) (st2 := [.int l7, .ref l0]) hm dX13_holder_97 rfl ?_
        refine mx_S.pu (pc2 := 100) (lv2 := [(0, .ref l0), (2, .int l2), (3, .int l3), (4, .int l4), (5, .int l5), (6, .int l6), (7, .int l7), (8, .int l8), (9, .int l9)]) (st2 := [.ref l0, .int l7, .ref l0]) hm dX13_holder_99 rfl ?_
        replace hf := mx_sv_el hf; obtain ⟨v9, e_v9, hf⟩ := hf
        refine sx_get hm dX13_holder_100 rs_RX13_230 (xgr_el e_v9) ?_
        clear e_v9
        refine sx_bi (v := 12) hm dX13_holder_103 (by decide) ?_
        refine mx_S.pu (pc2 := 107) (lv2 := [(0, .ref l0), (2, .int l2), (3, .int l3), (4, .int l4), (5, .int l5), (6, .int l6), (7, .int l7), (8, .int l8), (9, .int l9)]) (st2 := [.int l7, .int 12, .ref v9, .int l7, .ref l0]) hm dX13_holder_105 rfl ?_
        replace hf := xl_el hf; obtain ⟨v10, e_v10, hf⟩ := hf
        refine mx_S.pu (pc2 := 108) (lv2 := [(0, .ref l0), (2, .int l2), (3, .int l3), (4, .int l4), (5, .int l5), (6, .int l6), (7, .int l7), (8, .int l8), (9, .int l9)]) (st2 := [.int v10, .ref v9, .int l7, .ref l0]) hm dX13_holder_107 (by rw [← e_v10]; rfl) ?_
        clear e_v10
        refine mx_S.pu (pc2 := 110) (lv2 := [(0, .ref l0), (2, .int l2), (3, .int l3), (4, .int l4), (5, .int l5), (6, .int l6), (7, .int l7), (8, .int l8), (9, .int l9)]) (st2 := [.int l9, .int v10, .ref v9, .int l7, .ref l0]) hm dX13_holder_108 rfl ?_
        replace hf := xl_el hf; obtain ⟨v11, e_v11, hf⟩ := hf
        refine mx_S.pu (pc2 := 111) (lv2 := [(0, .ref l0), (2, .int l2), (3, .int l3), (4, .int l4), (5, .int l5), (6, .int l6), (7, .int l7), (8, .int l8), (9, .int l9)]) (st2 := [.int v11, .ref v9, .int l7, .ref l0]) hm dX13_holder_110 (by rw [← e_v11]; rfl) ?_
        clear e_v11
        replace hf := mx_sv_el hf; obtain ⟨v12, e_v12, hf⟩ := hf
        refine sx_ald hm dX13_holder_111 e_v12 ?_
        clear e_v12
        replace hf := mx_gd_el hf; obtain ⟨c13, hf⟩ := hf
        replace hf := mx_sv_el hf; obtain ⟨u14, e_u14, hf⟩ := hf
        refine sx_cv hm dX13_holder_112 rs_RX13_864 mt_X13_byteAt [.int l7, .int v12] [] (b := l0) (ci := 13) rfl rfl rfl c13 (Nat.le_of_ble_eq_true rfl) (Nat.le_of_ble_eq_true rfl) (by omega) (by omega) (f_X13_byteAt_ok X (by omega) (by omega) nn l0 l7 v12 h e_u14) ?_
        clear e_u14
        show mx_S X F L 532 115 [(0, .ref l0), (2, .int l2), (3, .int l3), (4, .int l4), (5, .int l5), (6, .int l6), (7, .int l7), (8, .int l8), (9, .int l9)] [.int u14.1] u14.2 0 0 (some (.int r.1), r.2, 0, 0)
        exact j_X13_holder_115_ok X hF hL nn hk_6 ih l0 l2 l3 l4 l5 l6 l7 l8 l9 u14.1 u14.2 hf
      · refine sb_if_eq hm dX13_holder_69 (tgt := 96) rfl (fun z => absurd z c22) (fun _ => ?_)
        refine mx_S.pu (pc2 := 73) (lv2 := [(0, .ref l0), (2, .int l2), (3, .int l3), (4, .int l4), (5, .int l5), (6, .int l6), (7, .int l7), (8, .int l8), (9, .int l9)]) (st2 := [.ref l0]) hm dX13_holder_72 rfl ?_
        refine mx_S.pu (pc2 := 75) (lv2 := [(0, .ref l0), (2, .int l2), (3, .int l3), (4, .int l4), (5, .int l5), (6, .int l6), (7, .int l7), (8, .int l8), (9, .int l9)]) (st2 := [.int l7, .ref l0]) hm dX13_holder_73 rfl ?_
        refine mx_S.pu (pc2 := 76) (lv2 := [(0, .ref l0), (2, .int l2), (3, .int l3), (4, .int l4), (5, .int l5), (6, .int l6), (7, .int l7), (8, .int l8), (9, .int l9)]) (st2 := [.ref l0, .int l7, .ref l0]) hm dX13_holder_75 rfl ?_
        replace hf := mx_sv_el hf; obtain ⟨v15, e_v15, hf⟩ := hf
        refine sx_get hm dX13_holder_76 rs_RX13_236 (xgr_el e_v15) ?_
        clear e_v15
        refine sx_bi (v := 12) hm dX13_holder_79 (by decide) ?_
        refine mx_S.pu (pc2 := 83) (lv2 := [(0, .ref l0), (2, .int l2), (3, .int l3), (4, .int l4), (5, .int l5), (6, .int l6), (7, .int l7), (8, .int l8), (9, .int l9)]) (st2 := [.int l7, .int 12, .ref v15, .int l7, .ref l0]) hm dX13_holder_81 rfl ?_
        replace hf := xl_el hf; obtain ⟨v16, e_v16, hf⟩ := hf
        refine mx_S.pu (pc2 := 84) (lv2 := [(0, .ref l0), (2, .int l2), (3, .int l3), (4, .int l4), (5, .int l5), (6, .int l6), (7, .int l7), (8, .int l8), (9, .int l9)]) (st2 := [.int v16, .ref v15, .int l7, .ref l0]) hm dX13_holder_83 (by rw [← e_v16]; rfl) ?_
        clear e_v16
        refine mx_S.pu (pc2 := 86) (lv2 := [(0, .ref l0), (2, .int l2), (3, .int l3), (4, .int l4), (5, .int l5), (6, .int l6), (7, .int l7), (8, .int l8), (9, .int l9)]) (st2 := [.int l9, .int v16, .ref v15, .int l7, .ref l0]) hm dX13_holder_84 rfl ?_
        replace hf := xl_el hf; obtain ⟨v17, e_v17, hf⟩ := hf
        refine mx_S.pu (pc2 := 87) (lv2 := [(0, .ref l0), (2, .int l2), (3, .int l3), (4, .int l4), (5, .int l5), (6, .int l6), (7, .int l7), (8, .int l8), (9, .int l9)]) (st2 := [.int v17, .ref v15, .int l7, .ref l0]) hm dX13_holder_86 (by rw [← e_v17]; rfl) ?_
        clear e_v17
        replace hf := mx_sv_el hf; obtain ⟨v18, e_v18, hf⟩ := hf
        refine sx_ald hm dX13_holder_87 e_v18 ?_
        clear e_v18
        refine sx_ic (v := 1) hm dX13_holder_88 (by decide) ?_
        replace hf := xl_el hf; obtain ⟨v19, e_v19, hf⟩ := hf
        refine mx_S.pu (pc2 := 90) (lv2 := [(0, .ref l0), (2, .int l2), (3, .int l3), (4, .int l4), (5, .int l5), (6, .int l6), (7, .int l7), (8, .int l8), (9, .int l9)]) (st2 := [.int v19, .int l7, .ref l0]) hm dX13_holder_89 (by rw [← e_v19]; rfl) ?_
        clear e_v19
        replace hf := mx_gd_el hf; obtain ⟨c20, hf⟩ := hf
        replace hf := mx_sv_el hf; obtain ⟨u21, e_u21, hf⟩ := hf
        refine sx_cv hm dX13_holder_90 rs_RX13_864 mt_X13_byteAt [.int l7, .int v19] [] (b := l0) (ci := 13) rfl rfl rfl c20 (Nat.le_of_ble_eq_true rfl) (Nat.le_of_ble_eq_true rfl) (by omega) (by omega) (f_X13_byteAt_ok X (by omega) (by omega) nn l0 l7 v19 h e_u21) ?_
        clear e_u21
        show mx_S X F L 532 93 [(0, .ref l0), (2, .int l2), (3, .int l3), (4, .int l4), (5, .int l5), (6, .int l6), (7, .int l7), (8, .int l8), (9, .int l9)] [.int u21.1] u21.2 0 0 (some (.int r.1), r.2, 0, 0)
        refine mx_S.pu (pc2 := 115) (lv2 := [(0, .ref l0), (2, .int l2), (3, .int l3), (4, .int l4), (5, .int l5), (6, .int l6), (7, .int l7), (8, .int l8), (9, .int l9)]) (st2 := [.int u21.1]) hm dX13_holder_93 rfl ?_
        exact j_X13_holder_115_ok X hF hL nn hk_6 ih l0 l2 l3 l4 l5 l6 l7 l8 l9 u21.1 u21.2 hf
set_option maxHeartbeats 4000000 in
set_option maxRecDepth 20000 in
theorem w_X13_holder_6_ok (X : Nat × (Nat → Int32)) {F L : Nat} (hF : 8 ≤ F) (hL : 181 ≤ L) (nn : Nat) : ∀ (k : Nat) (l0 : Nat) (l2 : Int32) (l3 : Int32) (l4 : Int32) (l5 : Int32) (l6 : Int32) (h : mx_H) (r : (Int32 × mx_H)), w_X13_holder_6 nn k l0 l2 l3 l4 l5 l6 h = some r → mx_S X F L 532 6 [(0, .ref l0), (2, .int l2), (3, .int l3), (4, .int l4), (5, .int l5), (6, .int l6)] [] h 0 0 (some (.int r.1), r.2, 0, 0) := by
  have hm : mx_mt 532 = some (yX13_holder, cX13_holder, 11, (some .int)) := mt_X13_holder
  intro k
  induction k with
  | zero => intro l0 l2 l3 l4 l5 l6 h r hf; cases hf
  | succ k ih =>
    intro l0 l2 l3 l4 l5 l6 h r hf
    unfold w_X13_holder_6 at hf
    refine mx_S.pu (pc2 := 8) (lv2 := [(0, .ref l0), (2, .int l2), (3, .int l3), (4, .int l4), (5, .int l5), (6, .int l6)]) (st2 := [.int l6]) hm dX13_holder_6 rfl ?_
    refine sx_bi (v := 16) hm dX13_holder_8 (by decide) ?_
    rcases mx_if_el hf with ⟨c32, hf⟩ | ⟨c32, hf⟩
    · refine sb_ic_gt hm dX13_holder_10 (tgt := 162) rfl (fun _ => ?_) (fun z => absurd c32 z)
      refine sx_ic (v := (-1)) hm dX13_holder_162 (by decide) ?_
      cases hf
      exact sx_ire hm dX13_holder_163 rfl rfl
    · refine sb_ic_gt hm dX13_holder_10 (tgt := 162) rfl (fun z => absurd z c32) (fun _ => ?_)
      refine mx_S.pu (pc2 := 15) (lv2 := [(0, .ref l0), (2, .int l2), (3, .int l3), (4, .int l4), (5, .int l5), (6, .int l6)]) (st2 := [.int l5]) hm dX13_holder_13 rfl ?_
      refine sx_ic (v := (-1)) hm dX13_holder_15 (by decide) ?_
      rcases mx_if_el hf with ⟨c31, hf⟩ | ⟨c31, hf⟩
      · refine sb_ic_eq hm dX13_holder_16 (tgt := 162) rfl (fun _ => ?_) (fun z => absurd c31 z)
        refine sx_ic (v := (-1)) hm dX13_holder_162 (by decide) ?_
        cases hf
        exact sx_ire hm dX13_holder_163 rfl rfl
      · refine sb_ic_eq hm dX13_holder_16 (tgt := 162) rfl (fun z => absurd z c31) (fun _ => ?_)
        refine mx_S.pu (pc2 := 21) (lv2 := [(0, .ref l0), (2, .int l2), (3, .int l3), (4, .int l4), (5, .int l5), (6, .int l6)]) (st2 := [.int l5]) hm dX13_holder_19 rfl ?_
        refine sx_bi (v := 8) hm dX13_holder_21 (by decide) ?_
        rcases mx_if_el hf with ⟨c30, hf⟩ | ⟨c30, hf⟩
        · refine sb_ic_lt hm dX13_holder_23 (tgt := 148) rfl (fun _ => ?_) (fun z => absurd c30 z)
          exact j_X13_holder_148_ok X hF hL nn ih l0 l2 l3 l4 l5 l6 h hf
        · refine sb_ic_lt hm dX13_holder_23 (tgt := 148) rfl (fun z => absurd z c30) (fun _ => ?_)
          refine mx_S.pu (pc2 := 28) (lv2 := [(0, .ref l0), (2, .int l2), (3, .int l3), (4, .int l4), (5, .int l5), (6, .int l6)]) (st2 := [.int l5]) hm dX13_holder_26 rfl ?_
          refine sx_bi (v := 8) hm dX13_holder_28 (by decide) ?_
          replace hf := xl_el hf; obtain ⟨v24, e_v24, hf⟩ := hf
          refine mx_S.pu (pc2 := 31) (lv2 := [(0, .ref l0), (2, .int l2), (3, .int l3), (4, .int l4), (5, .int l5), (6, .int l6)]) (st2 := [.int v24]) hm dX13_holder_30 (by rw [← e_v24]; rfl) ?_
          clear e_v24
          refine mx_S.pu (pc2 := 33) (lv2 := [(7, .int v24), (0, .ref l0), (2, .int l2), (3, .int l3), (4, .int l4), (5, .int l5), (6, .int l6)]) (st2 := []) hm dX13_holder_31 rfl ?_
          refine mx_S.pu (pc2 := 35) (lv2 := [(7, .int v24), (0, .ref l0), (2, .int l2), (3, .int l3), (4, .int l4), (5, .int l5), (6, .int l6)]) (st2 := [.int l4]) hm dX13_holder_33 rfl ?_
          rcases mx_if_el hf with ⟨c29, hf⟩ | ⟨c29, hf⟩
          · refine sb_if_eq hm dX13_holder_35 (tgt := 48) rfl (fun _ => ?_) (fun z => absurd c29 z)
            refine mx_S.pu (pc2 := 49) (lv2 := [(7, .int v24), (0, .ref l0), (2, .int l2), (3, .int l3), (4, .int l4), (5, .int l5), (6, .int l6)]) (st2 := [.ref l0]) hm dX13_holder_48 rfl ?_
            replace hf := mx_sv_el hf; obtain ⟨v25, e_v25, hf⟩ := hf
            refine sx_get hm dX13_holder_49 rs_RX13_227 (xgr_el e_v25) ?_
            clear e_v25
            refine mx_S.pu (pc2 := 54) (lv2 := [(7, .int v24), (0, .ref l0), (2, .int l2), (3, .int l3), (4, .int l4), (5, .int l5), (6, .int l6)]) (st2 := [.int v24, .ref v25]) hm dX13_holder_52 rfl ?_
            replace hf := mx_sv_el hf; obtain ⟨v26, e_v26, hf⟩ := hf
            refine sx_ald hm dX13_holder_54 e_v26 ?_
            clear e_v26
            refine mx_S.pu (pc2 := 57) (lv2 := [(8, .int v26), (7, .int v24), (0, .ref l0), (2, .int l2), (3, .int l3), (4, .int l4), (5, .int l5), (6, .int l6)]) (st2 := []) hm dX13_holder_55 rfl ?_
            refine sx_ic (v := 0) hm dX13_holder_57 (by decide) ?_
            refine mx_S.pu (pc2 := 60) (lv2 := [(9, .int 0), (8, .int v26), (7, .int v24), (0, .ref l0), (2, .int l2), (3, .int l3), (4, .int l4), (5, .int l5), (6, .int l6)]) (st2 := []) hm dX13_holder_58 rfl ?_
            refine mx_S.ext [(0, .ref l0), (2, .int l2), (3, .int l3), (4, .int l4), (5, .int l5), (6, .int l6), (7, .int v24), (8, .int v26), (9, .int 0)] (mx_sub_pos [3, 4, 5, 6, 7, 8, 2, 1, 0] rfl (show ([9, 8, 7, 0, 2, 3, 4, 5, 6] : List Nat).Nodup by decide)) ?_
            exact w_X13_holder_60_ok X hF hL nn ih nn l0 l2 l3 l4 l5 l6 v24 v26 0 h _ hf
          · refine sb_if_eq hm dX13_holder_35 (tgt := 48) rfl (fun z => absurd z c29) (fun _ => ?_)
            refine mx_S.pu (pc2 := 39) (lv2 := [(7, .int v24), (0, .ref l0), (2, .int l2), (3, .int l3), (4, .int l4), (5, .int l5), (6, .int l6)]) (st2 := [.ref l0]) hm dX13_holder_38 rfl ?_
            replace hf := mx_sv_el hf; obtain ⟨v27, e_v27, hf⟩ := hf
            refine sx_get hm dX13_holder_39 rs_RX13_233 (xgr_el e_v27) ?_
            clear e_v27
            refine mx_S.pu (pc2 := 44) (lv2 := [(7, .int v24), (0, .ref l0), (2, .int l2), (3, .int l3), (4, .int l4), (5, .int l5), (6, .int l6)]) (st2 := [.int v24, .ref v27]) hm dX13_holder_42 rfl ?_
            replace hf := mx_sv_el hf; obtain ⟨v28, e_v28, hf⟩ := hf
            refine sx_ald hm dX13_holder_44 e_v28 ?_
            clear e_v28
            refine mx_S.pu (pc2 := 55) (lv2 := [(7, .int v24), (0, .ref l0), (2, .int l2), (3, .int l3), (4, .int l4), (5, .int l5), (6, .int l6)]) (st2 := [.int v28]) hm dX13_holder_45 rfl ?_
            refine mx_S.pu (pc2 := 57) (lv2 := [(8, .int v28), (7, .int v24), (0, .ref l0), (2, .int l2), (3, .int l3), (4, .int l4), (5, .int l5), (6, .int l6)]) (st2 := []) hm dX13_holder_55 rfl ?_
            refine sx_ic (v := 0) hm dX13_holder_57 (by decide) ?_
            refine mx_S.pu (pc2 := 60) (lv2 := [(9, .int 0), (8, .int v28), (7, .int v24), (0, .ref l0), (2, .int l2), (3, .int l3), (4, .int l4), (5, .int l5), (6, .int l6)]) (st2 := []) hm dX13_holder_58 rfl ?_
            refine mx_S.ext [(0, .ref l0), (2, .int l2), (3, .int l3), (4, .int l4), (5, .int l5), (6, .int l6), (7, .int v24), (8, .int v28), (9, .int 0)] (mx_sub_pos [3, 4, 5, 6, 7, 8, 2, 1, 0] rfl (show ([9, 8, 7, 0, 2, 3, 4, 5, 6] : List Nat).Nodup by decide)) ?_
            exact w_X13_holder_60_ok X hF hL nn ih nn l0 l2 l3 l4 l5 l6 v24 v28 0 h _ hf
