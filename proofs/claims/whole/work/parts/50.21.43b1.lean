set_option maxHeartbeats 4000000 in
set_option maxRecDepth 20000 in
theorem f_X13_token_ok (X : Nat × (Nat → Int32)) {F L : Nat} (hF : 0 ≤ F) (hL : 0 ≤ L) (nn : Nat) (a0 : Nat) (a1 : Int32) (a2 : Int32) (a3 : Int32) (a4 : Int32) (h : mx_H) {r : mx_H} (hf : f_X13_token nn a0 a1 a2 a3 a4 h = some r) : mx_R X F L 388 [.ref a0, .int a1, .int a2, .int a3, .int a4] h (none, r, 0, 0) := by
  have hm : mx_mt 388 = some (yX13_token, cX13_token, 5, none) := mt_X13_token
  show mx_S X F L 388 0 [(0, .ref a0), (1, .int a1), (2, .int a2), (3, .int a3), (4, .int a4)] [] h 0 0 (none, r, 0, 0)
  unfold f_X13_token at hf
  refine mx_S.pu (pc2 := 1) (lv2 := [(0, .ref a0), (1, .int a1), (2, .int a2), (3, .int a3), (4, .int a4)]) (st2 := [.ref a0]) hm dX13_token_0 rfl ?_
  replace hf := mx_sv_el hf; obtain ⟨v1, e_v1, hf⟩ := hf
  refine sx_get hm dX13_token_1 rs_RX13_16 (xgr_el e_v1) ?_
  clear e_v1
  refine mx_S.pu (pc2 := 5) (lv2 := [(0, .ref a0), (1, .int a1), (2, .int a2), (3, .int a3), (4, .int a4)]) (st2 := [.ref a0, .ref v1]) hm dX13_token_4 rfl ?_
  replace hf := mx_sv_el hf; obtain ⟨v2, e_v2, hf⟩ := hf
  refine sx_get hm dX13_token_5 rs_RX13_338 (xgi_el e_v2) ?_
  clear e_v2
  refine mx_S.pu (pc2 := 9) (lv2 := [(0, .ref a0), (1, .int a1), (2, .int a2), (3, .int a3), (4, .int a4)]) (st2 := [.int a1, .int v2, .ref v1]) hm dX13_token_8 rfl ?_
  replace hf := mx_sv_el hf; obtain ⟨h3, e_h3, hf⟩ := hf
  refine sx_ast hm dX13_token_9 e_h3 ?_
  clear e_h3
  refine mx_S.pu (pc2 := 11) (lv2 := [(0, .ref a0), (1, .int a1), (2, .int a2), (3, .int a3), (4, .int a4)]) (st2 := [.ref a0]) hm dX13_token_10 rfl ?_
  replace hf := mx_sv_el hf; obtain ⟨v4, e_v4, hf⟩ := hf
  refine sx_get hm dX13_token_11 rs_RX13_19 (xgr_el e_v4) ?_
  clear e_v4
  refine mx_S.pu (pc2 := 15) (lv2 := [(0, .ref a0), (1, .int a1), (2, .int a2), (3, .int a3), (4, .int a4)]) (st2 := [.ref a0, .ref v4]) hm dX13_token_14 rfl ?_
  replace hf := mx_sv_el hf; obtain ⟨v5, e_v5, hf⟩ := hf
  refine sx_get hm dX13_token_15 rs_RX13_338 (xgi_el e_v5) ?_
  clear e_v5
  refine mx_S.pu (pc2 := 19) (lv2 := [(0, .ref a0), (1, .int a1), (2, .int a2), (3, .int a3), (4, .int a4)]) (st2 := [.int a2, .int v5, .ref v4]) hm dX13_token_18 rfl ?_
  replace hf := mx_sv_el hf; obtain ⟨h6, e_h6, hf⟩ := hf
  refine sx_ast hm dX13_token_19 e_h6 ?_
  clear e_h6
  refine mx_S.pu (pc2 := 21) (lv2 := [(0, .ref a0), (1, .int a1), (2, .int a2), (3, .int a3), (4, .int a4)]) (st2 := [.ref a0]) hm dX13_token_20 rfl ?_
  replace hf := mx_sv_el hf; obtain ⟨v7, e_v7, hf⟩ := hf
  refine sx_get hm dX13_token_21 rs_RX13_22 (xgr_el e_v7) ?_
  clear e_v7
  refine mx_S.pu (pc2 := 25) (lv2 := [(0, .ref a0), (1, .int a1), (2, .int a2), (3, .int a3), (4, .int a4)]) (st2 := [.ref a0, .ref v7]) hm dX13_token_24 rfl ?_
  replace hf := mx_sv_el hf; obtain ⟨v8, e_v8, hf⟩ := hf
  refine sx_get hm dX13_token_25 rs_RX13_338 (xgi_el e_v8) ?_
  clear e_v8
  refine mx_S.pu (pc2 := 29) (lv2 := [(0, .ref a0), (1, .int a1), (2, .int a2), (3, .int a3), (4, .int a4)]) (st2 := [.int a3, .int v8, .ref v7]) hm dX13_token_28 rfl ?_
  replace hf := mx_sv_el hf; obtain ⟨h9, e_h9, hf⟩ := hf
  refine sx_ast hm dX13_token_29 e_h9 ?_
  clear e_h9
  refine mx_S.pu (pc2 := 31) (lv2 := [(0, .ref a0), (1, .int a1), (2, .int a2), (3, .int a3), (4, .int a4)]) (st2 := [.ref a0]) hm dX13_token_30 rfl ?_
  replace hf := mx_sv_el hf; obtain ⟨v10, e_v10, hf⟩ := hf
  refine sx_get hm dX13_token_31 rs_RX13_25 (xgr_el e_v10) ?_
  clear e_v10
  refine mx_S.pu (pc2 := 35) (lv2 := [(0, .ref a0), (1, .int a1), (2, .int a2), (3, .int a3), (4, .int a4)]) (st2 := [.ref a0, .ref v10]) hm dX13_token_34 rfl ?_
  replace hf := mx_sv_el hf; obtain ⟨v11, e_v11, hf⟩ := hf
  refine sx_get hm dX13_token_35 rs_RX13_338 (xgi_el e_v11) ?_
  clear e_v11
  refine mx_S.pu (pc2 := 40) (lv2 := [(0, .ref a0), (1, .int a1), (2, .int a2), (3, .int a3), (4, .int a4)]) (st2 := [.int a4, .int v11, .ref v10]) hm dX13_token_38 rfl ?_
  replace hf := mx_sv_el hf; obtain ⟨h12, e_h12, hf⟩ := hf
  refine sx_ast hm dX13_token_40 e_h12 ?_
  clear e_h12
  refine mx_S.pu (pc2 := 42) (lv2 := [(0, .ref a0), (1, .int a1), (2, .int a2), (3, .int a3), (4, .int a4)]) (st2 := [.ref a0]) hm dX13_token_41 rfl ?_
  refine mx_S.pu (pc2 := 43) (lv2 := [(0, .ref a0), (1, .int a1), (2, .int a2), (3, .int a3), (4, .int a4)]) (st2 := [.ref a0, .ref a0]) hm dX13_token_42 rfl ?_
  replace hf := mx_sv_el hf; obtain ⟨v13, e_v13, hf⟩ := hf
  refine sx_get hm dX13_token_43 rs_RX13_338 (xgi_el e_v13) ?_
  clear e_v13
  refine sx_ic (v := 1) hm dX13_token_46 (by decide) ?_
  replace hf := xl_el hf; obtain ⟨v14, e_v14, hf⟩ := hf
  refine mx_S.pu (pc2 := 48) (lv2 := [(0, .ref a0), (1, .int a1), (2, .int a2), (3, .int a3), (4, .int a4)]) (st2 := [.int v14, .ref a0]) hm dX13_token_47 (by rw [← e_v14]; rfl) ?_
  clear e_v14
  replace hf := mx_sv_el hf; obtain ⟨h15, e_h15, hf⟩ := hf
  refine sx_put hm dX13_token_48 rs_RX13_338 ft_13_8 ⟨rfl, rfl⟩ (fun z => by cases z) e_h15 ?_
  clear e_h15
  cases hf
  exact sx_ret hm dX13_token_51 rfl
