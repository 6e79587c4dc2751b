set_option maxHeartbeats 4000000 in
set_option maxRecDepth 20000 in
theorem f_X13_sign_ok (X : Nat × (Nat → Int32)) {F L : Nat} (hF : 0 ≤ F) (hL : 0 ≤ L) (nn : Nat) (a0 : Int32) (a1 : Int32) (a2 : Int32) (h : mx_H) {r : (Int32 × mx_H)} (hf : f_X13_sign nn a0 a1 a2 h = some r) : mx_R X F L 392 [.int a0, .int a1, .int a2] h (some (.int r.1), r.2, 0, 0) := by
  have hm : mx_mt 392 = some (yX13_sign, cX13_sign, 3, (some .int)) := mt_X13_sign
  show mx_S X F L 392 0 [(0, .int a0), (1, .int a1), (2, .int a2)] [] h 0 0 (some (.int r.1), r.2, 0, 0)
  unfold f_X13_sign at hf
  refine mx_S.pu (pc2 := 1) (lv2 := [(0, .int a0), (1, .int a1), (2, .int a2)]) (st2 := [.int a0]) hm dX13_sign_0 rfl ?_
  refine sx_si (v := 128) hm dX13_sign_1 (by decide) ?_
  replace hf := xl_el hf; obtain ⟨v1, e_v1, hf⟩ := hf
  refine mx_S.pu (pc2 := 5) (lv2 := [(0, .int a0), (1, .int a1), (2, .int a2)]) (st2 := [.int v1]) hm dX13_sign_4 (by rw [← e_v1]; rfl) ?_
  clear e_v1
  refine mx_S.pu (pc2 := 6) (lv2 := [(0, .int a0), (1, .int a1), (2, .int a2)]) (st2 := [.int a1, .int v1]) hm dX13_sign_5 rfl ?_
  replace hf := xl_el hf; obtain ⟨v2, e_v2, hf⟩ := hf
  refine mx_S.pu (pc2 := 7) (lv2 := [(0, .int a0), (1, .int a1), (2, .int a2)]) (st2 := [.int v2]) hm dX13_sign_6 (by rw [← e_v2]; rfl) ?_
  clear e_v2
  refine sx_si (v := 128) hm dX13_sign_7 (by decide) ?_
  replace hf := xl_el hf; obtain ⟨v3, e_v3, hf⟩ := hf
  refine mx_S.pu (pc2 := 11) (lv2 := [(0, .int a0), (1, .int a1), (2, .int a2)]) (st2 := [.int v3]) hm dX13_sign_10 (by rw [← e_v3]; rfl) ?_
  clear e_v3
  refine mx_S.pu (pc2 := 12) (lv2 := [(0, .int a0), (1, .int a1), (2, .int a2)]) (st2 := [.int a2, .int v3]) hm dX13_sign_11 rfl ?_
  replace hf := xl_el hf; obtain ⟨v4, e_v4, hf⟩ := hf
  refine mx_S.pu (pc2 := 13) (lv2 := [(0, .int a0), (1, .int a1), (2, .int a2)]) (st2 := [.int v4]) hm dX13_sign_12 (by rw [← e_v4]; rfl) ?_
  clear e_v4
  cases hf
  exact sx_ire hm dX13_sign_13 rfl rfl
set_option maxHeartbeats 4000000 in
set_option maxRecDepth 20000 in
theorem f_X13_isWord_ok (X : Nat × (Nat → Int32)) {F L : Nat} (hF : 0 ≤ F) (hL : 0 ≤ L) (nn : Nat) (a0 : Nat) (a1 : Int32) (a2 : Int32) (h : mx_H) {r : (Int32 × mx_H)} (hf : f_X13_isWord nn a0 a1 a2 h = some r) : mx_R X F L 394 [.ref a0, .int a1, .int a2] h (some (.int r.1), r.2, 0, 0) := by
  have hm : mx_mt 394 = some (yX13_isWord, cX13_isWord, 3, (some .boolean)) := mt_X13_isWord
  show mx_S X F L 394 0 [(0, .ref a0), (1, .int a1), (2, .int a2)] [] h 0 0 (some (.int r.1), r.2, 0, 0)
  unfold f_X13_isWord at hf
  refine mx_S.pu (pc2 := 1) (lv2 := [(0, .ref a0), (1, .int a1), (2, .int a2)]) (st2 := [.ref a0]) hm dX13_isWord_0 rfl ?_
  replace hf := mx_sv_el hf; obtain ⟨v1, e_v1, hf⟩ := hf
  refine sx_get hm dX13_isWord_1 rs_RX13_16 (xgr_el e_v1) ?_
  clear e_v1
  refine mx_S.pu (pc2 := 5) (lv2 := [(0, .ref a0), (1, .int a1), (2, .int a2)]) (st2 := [.int a1, .ref v1]) hm dX13_isWord_4 rfl ?_
  replace hf := mx_sv_el hf; obtain ⟨v2, e_v2, hf⟩ := hf
  refine sx_ald hm dX13_isWord_5 e_v2 ?_
  clear e_v2
  refine sx_ic (v := 3) hm dX13_isWord_6 (by decide) ?_
  rcases mx_if_el hf with ⟨c6, hf⟩ | ⟨c6, hf⟩
  · refine sb_ic_ne hm dX13_isWord_7 (tgt := 24) rfl (fun _ => ?_) (fun z => absurd c6 z)
    refine sx_ic (v := 0) hm dX13_isWord_24 (by decide) ?_
    cases hf
    exact sx_ire hm dX13_isWord_25 rfl (by decide)
  · refine sb_ic_ne hm dX13_isWord_7 (tgt := 24) rfl (fun z => absurd z c6) (fun _ => ?_)
    refine mx_S.pu (pc2 := 11) (lv2 := [(0, .ref a0), (1, .int a1), (2, .int a2)]) (st2 := [.ref a0]) hm dX13_isWord_10 rfl ?_
    replace hf := mx_sv_el hf; obtain ⟨v3, e_v3, hf⟩ := hf
    refine sx_get hm dX13_isWord_11 rs_RX13_25 (xgr_el e_v3) ?_
    clear e_v3
    refine mx_S.pu (pc2 := 15) (lv2 := [(0, .ref a0), (1, .int a1), (2, .int a2)]) (st2 := [.int a1, .ref v3]) hm dX13_isWord_14 rfl ?_
    replace hf := mx_sv_el hf; obtain ⟨v4, e_v4, hf⟩ := hf
    refine sx_ald hm dX13_isWord_15 e_v4 ?_
    clear e_v4
    refine mx_S.pu (pc2 := 17) (lv2 := [(0, .ref a0), (1, .int a1), (2, .int a2)]) (st2 := [.int a2, .int v4]) hm dX13_isWord_16 rfl ?_
    rcases mx_if_el hf with ⟨c5, hf⟩ | ⟨c5, hf⟩
    · refine sb_ic_ne hm dX13_isWord_17 (tgt := 24) rfl (fun _ => ?_) (fun z => absurd c5 z)
      refine sx_ic (v := 0) hm dX13_isWord_24 (by decide) ?_
      cases hf
      exact sx_ire hm dX13_isWord_25 rfl (by decide)
    · refine sb_ic_ne hm dX13_isWord_17 (tgt := 24) rfl (fun z => absurd z c5) (fun _ => ?_)
      refine sx_ic (v := 1) hm dX13_isWord_20 (by decide) ?_
      refine mx_S.pu (pc2 := 25) (lv2 := [(0, .ref a0), (1, .int a1), (2, .int a2)]) (st2 := [.int 1]) hm dX13_isWord_21 rfl ?_
      cases hf
      exact sx_ire hm dX13_isWord_25 rfl (by decide)
