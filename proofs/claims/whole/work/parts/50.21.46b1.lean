set_option maxHeartbeats 4000000 in
set_option maxRecDepth 20000 in
theorem f_X13_unfit_ok (X : Nat × (Nat → Int32)) {F L : Nat} (hF : 0 ≤ F) (hL : 0 ≤ L) (nn : Nat) (a0 : Nat) (a1 : Int32) (h : mx_H) {r : mx_H} (hf : f_X13_unfit nn a0 a1 h = some r) : mx_R X F L 490 [.ref a0, .int a1] h (none, r, 0, 0) := by
  have hm : mx_mt 490 = some (yX13_unfit, cX13_unfit, 2, none) := mt_X13_unfit
  show mx_S X F L 490 0 [(0, .ref a0), (1, .int a1)] [] h 0 0 (none, r, 0, 0)
  unfold f_X13_unfit at hf
  refine mx_S.pu (pc2 := 1) (lv2 := [(0, .ref a0), (1, .int a1)]) (st2 := [.ref a0]) hm dX13_unfit_0 rfl ?_
  replace hf := mx_sv_el hf; obtain ⟨v1, e_v1, hf⟩ := hf
  refine sx_get hm dX13_unfit_1 rs_RX13_764 (xgi_el e_v1) ?_
  clear e_v1
  refine sx_ic (v := (-1)) hm dX13_unfit_4 (by decide) ?_
  rcases mx_if_el hf with ⟨c3, hf⟩ | ⟨c3, hf⟩
  · refine sb_ic_ne hm dX13_unfit_5 (tgt := 13) rfl (fun _ => ?_) (fun z => absurd c3 z)
    cases hf
    exact sx_ret hm dX13_unfit_13 rfl
  · refine sb_ic_ne hm dX13_unfit_5 (tgt := 13) rfl (fun z => absurd z c3) (fun _ => ?_)
    refine mx_S.pu (pc2 := 9) (lv2 := [(0, .ref a0), (1, .int a1)]) (st2 := [.ref a0]) hm dX13_unfit_8 rfl ?_
    refine mx_S.pu (pc2 := 10) (lv2 := [(0, .ref a0), (1, .int a1)]) (st2 := [.int a1, .ref a0]) hm dX13_unfit_9 rfl ?_
    replace hf := mx_sv_el hf; obtain ⟨h2, e_h2, hf⟩ := hf
    refine sx_put hm dX13_unfit_10 rs_RX13_764 ft_13_114 ⟨rfl, rfl⟩ (fun z => by cases z) e_h2 ?_
    clear e_h2
    cases hf
    exact sx_ret hm dX13_unfit_13 rfl
