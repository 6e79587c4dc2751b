set_option maxHeartbeats 4000000 in
set_option maxRecDepth 20000 in
theorem f_X13_heads_ok (X : Nat × (Nat → Int32)) {F L : Nat} (hF : 8 ≤ F) (hL : 185 ≤ L) (nn : Nat) (a0 : Nat) (h : mx_H) {r : mx_H} (hf : f_X13_heads nn a0 h = some r) : mx_R X F L 426 [.ref a0] h (none, r, 0, 0) := by
  have hm : mx_mt 426 = some (yX13_heads, cX13_heads, 4, none) := mt_X13_heads
  show mx_S X F L 426 0 [(0, .ref a0)] [] h 0 0 (none, r, 0, 0)
  unfold f_X13_heads at hf
  refine sx_ic (v := 0) hm dX13_heads_0 (by decide) ?_
  refine mx_S.pu (pc2 := 2) (lv2 := [(1, .int 0), (0, .ref a0)]) (st2 := []) hm dX13_heads_1 rfl ?_
  refine mx_S.ext [(0, .ref a0), (1, .int 0)] (mx_sub_pos [1, 0] rfl (show ([1, 0] : List Nat).Nodup by decide)) ?_
  exact w_X13_heads_2_ok X hF hL nn nn a0 0 h _ hf
