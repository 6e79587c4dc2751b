set_option maxHeartbeats 4000000 in
set_option maxRecDepth 20000 in
theorem f_X10_beginMethod_ok (X : Nat × (Nat → Int32)) {F L : Nat} (hF : 0 ≤ F) (hL : 0 ≤ L) (nn : Nat) (a0 : Nat) (a1 : Int32) (a2 : Int32) (h : mx_H) {r : mx_H} (hf : f_X10_beginMethod nn a0 a1 a2 h = some r) : mx_R X F L 272 [.ref a0, .int a1, .int a2] h (none, r, 0, 0) := by
  have hm : mx_mt 272 = some (yX10_beginMethod, cX10_beginMethod, 3, none) := mt_X10_beginMethod
  show mx_S X F L 272 0 [(0, .ref a0), (1, .int a1), (2, .int a2)] [] h 0 0 (none, r, 0, 0)
  unfold f_X10_beginMethod at hf
  refine mx_S.pu (pc2 := 1) (lv2 := [(0, .ref a0), (1, .int a1), (2, .int a2)]) (st2 := [.ref a0]) hm dX10_beginMethod_0 rfl ?_
  refine mx_S.pu (pc2 := 2) (lv2 := [(0, .ref a0), (1, .int a1), (2, .int a2)]) (st2 := [.int a1, .ref a0]) hm dX10_beginMethod_1 rfl ?_
  replace hf := mx_sv_el hf; obtain ⟨h1, e_h1, hf⟩ := hf
  refine sx_put hm dX10_beginMethod_2 rs_RX10_54 ft_10_16 ⟨rfl, rfl⟩ (fun z => by cases z) e_h1 ?_
  clear e_h1
  refine mx_S.pu (pc2 := 6) (lv2 := [(0, .ref a0), (1, .int a1), (2, .int a2)]) (st2 := [.ref a0]) hm dX10_beginMethod_5 rfl ?_
  refine mx_S.pu (pc2 := 7) (lv2 := [(0, .ref a0), (1, .int a1), (2, .int a2)]) (st2 := [.int a2, .ref a0]) hm dX10_beginMethod_6 rfl ?_
  replace hf := mx_gd_el hf; obtain ⟨c2, hf⟩ := hf
  replace hf := mx_sv_el hf; obtain ⟨h3, e_h3, hf⟩ := hf
  refine sx_put hm dX10_beginMethod_7 rs_RX10_58 ft_10_17 (xbq_ok c2) (fun z => by cases z) e_h3 ?_
  clear e_h3
  refine mx_S.pu (pc2 := 11) (lv2 := [(0, .ref a0), (1, .int a1), (2, .int a2)]) (st2 := [.ref a0]) hm dX10_beginMethod_10 rfl ?_
  refine sx_ic (v := (-1)) hm dX10_beginMethod_11 (by decide) ?_
  replace hf := mx_sv_el hf; obtain ⟨h4, e_h4, hf⟩ := hf
  refine sx_put hm dX10_beginMethod_12 rs_RX10_62 ft_10_18 ⟨rfl, rfl⟩ (fun z => by cases z) e_h4 ?_
  clear e_h4
  refine mx_S.pu (pc2 := 16) (lv2 := [(0, .ref a0), (1, .int a1), (2, .int a2)]) (st2 := [.ref a0]) hm dX10_beginMethod_15 rfl ?_
  refine sx_ic (v := 0) hm dX10_beginMethod_16 (by decide) ?_
  replace hf := mx_sv_el hf; obtain ⟨h5, e_h5, hf⟩ := hf
  refine sx_put hm dX10_beginMethod_17 rs_RX10_65 ft_10_10 ⟨rfl, rfl⟩ (fun z => by cases z) e_h5 ?_
  clear e_h5
  cases hf
  exact sx_ret hm dX10_beginMethod_20 rfl
set_option maxHeartbeats 4000000 in
set_option maxRecDepth 20000 in
theorem f_X1_beginMethod_ok (X : Nat × (Nat → Int32)) {F L : Nat} (hF : 0 ≤ F) (hL : 0 ≤ L) (nn : Nat) (a0 : Nat) (h : mx_H) {r : mx_H} (hf : f_X1_beginMethod nn a0 h = some r) : mx_R X F L 25 [.ref a0] h (none, r, 0, 0) := by
  have hm : mx_mt 25 = some (yX1_beginMethod, cX1_beginMethod, 1, none) := mt_X1_beginMethod
  show mx_S X F L 25 0 [(0, .ref a0)] [] h 0 0 (none, r, 0, 0)
  unfold f_X1_beginMethod at hf
  refine mx_S.pu (pc2 := 1) (lv2 := [(0, .ref a0)]) (st2 := [.ref a0]) hm dX1_beginMethod_0 rfl ?_
  refine sx_ic (v := 0) hm dX1_beginMethod_1 (by decide) ?_
  replace hf := mx_sv_el hf; obtain ⟨h1, e_h1, hf⟩ := hf
  refine sx_put hm dX1_beginMethod_2 rs_RX1_39 ft_1_1 ⟨rfl, rfl⟩ (fun z => by cases z) e_h1 ?_
  clear e_h1
  refine mx_S.pu (pc2 := 6) (lv2 := [(0, .ref a0)]) (st2 := [.ref a0]) hm dX1_beginMethod_5 rfl ?_
  refine sx_ic (v := 0) hm dX1_beginMethod_6 (by decide) ?_
  replace hf := mx_sv_el hf; obtain ⟨h2, e_h2, hf⟩ := hf
  refine sx_put hm dX1_beginMethod_7 rs_RX1_43 ft_1_3 ⟨rfl, rfl⟩ (fun z => by cases z) e_h2 ?_
  clear e_h2
  refine mx_S.pu (pc2 := 11) (lv2 := [(0, .ref a0)]) (st2 := [.ref a0]) hm dX1_beginMethod_10 rfl ?_
  refine sx_ic (v := 0) hm dX1_beginMethod_11 (by decide) ?_
  replace hf := mx_sv_el hf; obtain ⟨h3, e_h3, hf⟩ := hf
  refine sx_put hm dX1_beginMethod_12 rs_RX1_46 ft_1_4 ⟨rfl, rfl⟩ (fun z => by cases z) e_h3 ?_
  clear e_h3
  refine mx_S.pu (pc2 := 16) (lv2 := [(0, .ref a0)]) (st2 := [.ref a0]) hm dX1_beginMethod_15 rfl ?_
  refine sx_ic (v := 0) hm dX1_beginMethod_16 (by decide) ?_
  replace hf := mx_sv_el hf; obtain ⟨h4, e_h4, hf⟩ := hf
  refine sx_put hm dX1_beginMethod_17 rs_RX1_49 ft_1_7 ⟨rfl, rfl⟩ (fun z => by cases z) e_h4 ?_
  clear e_h4
  refine mx_S.pu (pc2 := 21) (lv2 := [(0, .ref a0)]) (st2 := [.ref a0]) hm dX1_beginMethod_20 rfl ?_
  refine sx_ic (v := 0) hm dX1_beginMethod_21 (by decide) ?_
  replace hf := mx_sv_el hf; obtain ⟨h5, e_h5, hf⟩ := hf
  refine sx_put hm dX1_beginMethod_22 rs_RX1_52 ft_1_8 ⟨rfl, rfl⟩ (fun z => by cases z) e_h5 ?_
  clear e_h5
  refine mx_S.pu (pc2 := 26) (lv2 := [(0, .ref a0)]) (st2 := [.ref a0]) hm dX1_beginMethod_25 rfl ?_
  refine sx_ic (v := 0) hm dX1_beginMethod_26 (by decide) ?_
  replace hf := mx_sv_el hf; obtain ⟨h6, e_h6, hf⟩ := hf
  refine sx_put hm dX1_beginMethod_27 rs_RX1_55 ft_1_10 ⟨rfl, rfl⟩ (fun z => by cases z) e_h6 ?_
  clear e_h6
  refine mx_S.pu (pc2 := 31) (lv2 := [(0, .ref a0)]) (st2 := [.ref a0]) hm dX1_beginMethod_30 rfl ?_
  refine sx_ic (v := 0) hm dX1_beginMethod_31 (by decide) ?_
  replace hf := mx_sv_el hf; obtain ⟨h7, e_h7, hf⟩ := hf
  refine sx_put hm dX1_beginMethod_32 rs_RX1_58 ft_1_14 ⟨rfl, rfl⟩ (fun z => by cases z) e_h7 ?_
  clear e_h7
  refine mx_S.pu (pc2 := 36) (lv2 := [(0, .ref a0)]) (st2 := [.ref a0]) hm dX1_beginMethod_35 rfl ?_
  refine sx_ic (v := 0) hm dX1_beginMethod_36 (by decide) ?_
  replace hf := mx_sv_el hf; obtain ⟨h8, e_h8, hf⟩ := hf
  refine sx_put hm dX1_beginMethod_37 rs_RX1_61 ft_1_15 ⟨by decide, by decide⟩ (fun z => by cases z) e_h8 ?_
  clear e_h8
  cases hf
  exact sx_ret hm dX1_beginMethod_40 rfl
set_option maxHeartbeats 4000000 in
set_option maxRecDepth 20000 in
theorem f_X1_isTooMuch_ok (X : Nat × (Nat → Int32)) {F L : Nat} (hF : 0 ≤ F) (hL : 0 ≤ L) (nn : Nat) (a0 : Nat) (h : mx_H) {r : (Int32 × mx_H)} (hf : f_X1_isTooMuch nn a0 h = some r) : mx_R X F L 26 [.ref a0] h (some (.int r.1), r.2, 0, 0) := by
  have hm : mx_mt 26 = some (yX1_isTooMuch, cX1_isTooMuch, 1, (some .boolean)) := mt_X1_isTooMuch
  show mx_S X F L 26 0 [(0, .ref a0)] [] h 0 0 (some (.int r.1), r.2, 0, 0)
  unfold f_X1_isTooMuch at hf
  refine mx_S.pu (pc2 := 1) (lv2 := [(0, .ref a0)]) (st2 := [.ref a0]) hm dX1_isTooMuch_0 rfl ?_
  replace hf := mx_sv_el hf; obtain ⟨v1, e_v1, hf⟩ := hf
  refine sx_get hm dX1_isTooMuch_1 rs_RX1_61 (xgi_el e_v1) ?_
  clear e_v1
  rcases mx_if_el hf with ⟨c8, hf⟩ | ⟨c8, hf⟩
  · refine sb_if_ne hm dX1_isTooMuch_4 (tgt := 35) rfl (fun _ => ?_) (fun z => absurd c8 z)
    refine sx_ic (v := 1) hm dX1_isTooMuch_35 (by decide) ?_
    refine mx_S.pu (pc2 := 40) (lv2 := [(0, .ref a0)]) (st2 := [.int 1]) hm dX1_isTooMuch_36 rfl ?_
    cases hf
    exact sx_ire hm dX1_isTooMuch_40 rfl (by decide)
  · refine sb_if_ne hm dX1_isTooMuch_4 (tgt := 35) rfl (fun z => absurd z c8) (fun _ => ?_)
    refine mx_S.pu (pc2 := 8) (lv2 := [(0, .ref a0)]) (st2 := [.ref a0]) hm dX1_isTooMuch_7 rfl ?_
    replace hf := mx_sv_el hf; obtain ⟨v2, e_v2, hf⟩ := hf
    refine sx_get hm dX1_isTooMuch_8 rs_RX1_39 (xgi_el e_v2) ?_
    clear e_v2
    refine sx_si (v := 1500) hm dX1_isTooMuch_11 (by decide) ?_
    rcases mx_if_el hf with ⟨c7, hf⟩ | ⟨c7, hf⟩
    · refine sb_ic_gt hm dX1_isTooMuch_14 (tgt := 35) rfl (fun _ => ?_) (fun z => absurd c7 z)
      refine sx_ic (v := 1) hm dX1_isTooMuch_35 (by decide) ?_
      refine mx_S.pu (pc2 := 40) (lv2 := [(0, .ref a0)]) (st2 := [.int 1]) hm dX1_isTooMuch_36 rfl ?_
      cases hf
      exact sx_ire hm dX1_isTooMuch_40 rfl (by decide)
    · refine sb_ic_gt hm dX1_isTooMuch_14 (tgt := 35) rfl (fun z => absurd z c7) (fun _ => ?_)
      refine mx_S.pu (pc2 := 18) (lv2 := [(0, .ref a0)]) (st2 := [.ref a0]) hm dX1_isTooMuch_17 rfl ?_
      replace hf := mx_sv_el hf; obtain ⟨v3, e_v3, hf⟩ := hf
      refine sx_get hm dX1_isTooMuch_18 rs_RX1_52 (xgi_el e_v3) ?_
      clear e_v3
      refine sx_bi (v := 30) hm dX1_isTooMuch_21 (by decide) ?_
      rcases mx_if_el hf with ⟨c6, hf⟩ | ⟨c6, hf⟩
      · refine sb_ic_gt hm dX1_isTooMuch_23 (tgt := 35) rfl (fun _ => ?_) (fun z => absurd c6 z)
        refine sx_ic (v := 1) hm dX1_isTooMuch_35 (by decide) ?_
        refine mx_S.pu (pc2 := 40) (lv2 := [(0, .ref a0)]) (st2 := [.int 1]) hm dX1_isTooMuch_36 rfl ?_
        cases hf
        exact sx_ire hm dX1_isTooMuch_40 rfl (by decide)
      · refine sb_ic_gt hm dX1_isTooMuch_23 (tgt := 35) rfl (fun z => absurd z c6) (fun _ => ?_)
        refine mx_S.pu (pc2 := 27) (lv2 := [(0, .ref a0)]) (st2 := [.ref a0]) hm dX1_isTooMuch_26 rfl ?_
        replace hf := mx_sv_el hf; obtain ⟨v4, e_v4, hf⟩ := hf
        refine sx_get hm dX1_isTooMuch_27 rs_RX1_46 (xgi_el e_v4) ?_
        clear e_v4
        refine sx_bi (v := 20) hm dX1_isTooMuch_30 (by decide) ?_
        rcases mx_if_el hf with ⟨c5, hf⟩ | ⟨c5, hf⟩
        · refine sb_ic_le hm dX1_isTooMuch_32 (tgt := 39) rfl (fun _ => ?_) (fun z => absurd c5 z)
          refine sx_ic (v := 0) hm dX1_isTooMuch_39 (by decide) ?_
          cases hf
          exact sx_ire hm dX1_isTooMuch_40 rfl (by decide)
        · refine sb_ic_le hm dX1_isTooMuch_32 (tgt := 39) rfl (fun z => absurd z c5) (fun _ => ?_)
          refine sx_ic (v := 1) hm dX1_isTooMuch_35 (by decide) ?_
          refine mx_S.pu (pc2 := 40) (lv2 := [(0, .ref a0)]) (st2 := [.int 1]) hm dX1_isTooMuch_36 rfl ?_
          cases hf
          exact sx_ire hm dX1_isTooMuch_40 rfl (by decide)
