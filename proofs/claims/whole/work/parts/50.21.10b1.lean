set_option maxHeartbeats 4000000 in
set_option maxRecDepth 20000 in
theorem w_X2_nameClasses_2_ok (X : Nat × (Nat → Int32)) {F L : Nat} (hF : 1 ≤ F) (hL : 21 ≤ L) (nn : Nat) : ∀ (k : Nat) (l0 : Nat) (l1 : Int32) (h : mx_H) (r : mx_H), w_X2_nameClasses_2 nn k l0 l1 h = some r → mx_S X F L 57 2 [(0, .ref l0), (1, .int l1)] [] h 0 0 (none, r, 0, 0) := by
  have hm : mx_mt 57 = some (yX2_nameClasses, cX2_nameClasses, 3, none) := mt_X2_nameClasses
  intro k
  induction k with
  | zero => intro l0 l1 h r hf; cases hf
  | succ k ih =>
    intro l0 l1 h r hf
    unfold w_X2_nameClasses_2 at hf
    refine mx_S.pu (pc2 := 3) (lv2 := [(0, .ref l0), (1, .int l1)]) (st2 := [.int l1]) hm dX2_nameClasses_2 rfl ?_
    refine mx_S.pu (pc2 := 4) (lv2 := [(0, .ref l0), (1, .int l1)]) (st2 := [.ref l0, .int l1]) hm dX2_nameClasses_3 rfl ?_
    replace hf := mx_sv_el hf; obtain ⟨v20, e_v20, hf⟩ := hf
    refine sx_get hm dX2_nameClasses_4 rs_RX2_74 (xgr_el e_v20) ?_
    clear e_v20
    replace hf := mx_sv_el hf; obtain ⟨v21, e_v21, hf⟩ := hf
    refine sx_get hm dX2_nameClasses_7 rs_RX2_181 (xgi_el e_v21) ?_
    clear e_v21
    rcases mx_if_el hf with ⟨c31, hf⟩ | ⟨c31, hf⟩
    · refine sb_ic_ge hm dX2_nameClasses_10 (tgt := 45) rfl (fun _ => ?_) (fun z => absurd c31 z)
      refine sx_ic (v := 0) hm dX2_nameClasses_45 (by decide) ?_
      refine mx_S.pu (pc2 := 47) (lv2 := [(1, .int 0), (0, .ref l0)]) (st2 := []) hm dX2_nameClasses_46 rfl ?_
      refine mx_S.ext [(0, .ref l0), (1, .int 0)] (mx_sub_pos [1, 0] rfl (show ([1, 0] : List Nat).Nodup by decide)) ?_
      exact w_X2_nameClasses_47_ok X hF hL nn nn l0 0 h _ hf
    · refine sb_ic_ge hm dX2_nameClasses_10 (tgt := 45) rfl (fun z => absurd z c31) (fun _ => ?_)
      refine mx_S.pu (pc2 := 14) (lv2 := [(0, .ref l0), (1, .int l1)]) (st2 := [.int l1]) hm dX2_nameClasses_13 rfl ?_
      refine mx_S.pu (pc2 := 15) (lv2 := [(0, .ref l0), (1, .int l1)]) (st2 := [.ref l0, .int l1]) hm dX2_nameClasses_14 rfl ?_
      replace hf := mx_sv_el hf; obtain ⟨v22, e_v22, hf⟩ := hf
      refine sx_get hm dX2_nameClasses_15 rs_RX2_24 (xgr_el e_v22) ?_
      clear e_v22
      replace hf := mx_sv_el hf; obtain ⟨v23, e_v23, hf⟩ := hf
      refine sx_len hm dX2_nameClasses_18 e_v23 ?_
      clear e_v23
      rcases mx_if_el hf with ⟨c30, hf⟩ | ⟨c30, hf⟩
      · refine sb_ic_ge hm dX2_nameClasses_19 (tgt := 45) rfl (fun _ => ?_) (fun z => absurd c30 z)
        refine sx_ic (v := 0) hm dX2_nameClasses_45 (by decide) ?_
        refine mx_S.pu (pc2 := 47) (lv2 := [(1, .int 0), (0, .ref l0)]) (st2 := []) hm dX2_nameClasses_46 rfl ?_
        refine mx_S.ext [(0, .ref l0), (1, .int 0)] (mx_sub_pos [1, 0] rfl (show ([1, 0] : List Nat).Nodup by decide)) ?_
        exact w_X2_nameClasses_47_ok X hF hL nn nn l0 0 h _ hf
      · refine sb_ic_ge hm dX2_nameClasses_19 (tgt := 45) rfl (fun z => absurd z c30) (fun _ => ?_)
        refine mx_S.pu (pc2 := 23) (lv2 := [(0, .ref l0), (1, .int l1)]) (st2 := [.ref l0]) hm dX2_nameClasses_22 rfl ?_
        replace hf := mx_sv_el hf; obtain ⟨v24, e_v24, hf⟩ := hf
        refine sx_get hm dX2_nameClasses_23 rs_RX2_24 (xgr_el e_v24) ?_
        clear e_v24
        refine mx_S.pu (pc2 := 27) (lv2 := [(0, .ref l0), (1, .int l1)]) (st2 := [.int l1, .ref v24]) hm dX2_nameClasses_26 rfl ?_
        refine mx_S.pu (pc2 := 28) (lv2 := [(0, .ref l0), (1, .int l1)]) (st2 := [.int l1, .int l1, .ref v24]) hm dX2_nameClasses_27 rfl ?_
        refine sx_bi (v := 8) hm dX2_nameClasses_28 (by decide) ?_
        rcases mx_if_el hf with ⟨c29, hf⟩ | ⟨c29, hf⟩
        · refine sb_ic_ge hm dX2_nameClasses_30 (tgt := 37) rfl (fun _ => ?_) (fun z => absurd c29 z)
          refine sx_ic (v := (-1)) hm dX2_nameClasses_37 (by decide) ?_
          replace hf := mx_sv_el hf; obtain ⟨h25, e_h25, hf⟩ := hf
          refine sx_ast hm dX2_nameClasses_38 e_h25 ?_
          clear e_h25
          replace hf := xl_el hf; obtain ⟨v26, e_v26, hf⟩ := hf
          refine mx_S.pu (pc2 := 42) (lv2 := [(1, .int v26), (0, .ref l0)]) (st2 := []) hm dX2_nameClasses_39 (by rw [← e_v26]; rfl) ?_
          clear e_v26
          refine mx_S.pu (pc2 := 2) (lv2 := [(1, .int v26), (0, .ref l0)]) (st2 := []) hm dX2_nameClasses_42 rfl ?_
          refine mx_S.ext [(0, .ref l0), (1, .int v26)] (mx_sub_pos [1, 0] rfl (show ([1, 0] : List Nat).Nodup by decide)) ?_
          exact ih l0 v26 h25 _ hf
        · refine sb_ic_ge hm dX2_nameClasses_30 (tgt := 37) rfl (fun z => absurd z c29) (fun _ => ?_)
          refine mx_S.pu (pc2 := 34) (lv2 := [(0, .ref l0), (1, .int l1)]) (st2 := [.int l1, .int l1, .ref v24]) hm dX2_nameClasses_33 rfl ?_
          refine mx_S.pu (pc2 := 38) (lv2 := [(0, .ref l0), (1, .int l1)]) (st2 := [.int l1, .int l1, .ref v24]) hm dX2_nameClasses_34 rfl ?_
          replace hf := mx_sv_el hf; obtain ⟨h27, e_h27, hf⟩ := hf
          refine sx_ast hm dX2_nameClasses_38 e_h27 ?_
          clear e_h27
          replace hf := xl_el hf; obtain ⟨v28, e_v28, hf⟩ := hf
          refine mx_S.pu (pc2 := 42) (lv2 := [(1, .int v28), (0, .ref l0)]) (st2 := []) hm dX2_nameClasses_39 (by rw [← e_v28]; rfl) ?_
          clear e_v28
          refine mx_S.pu (pc2 := 2) (lv2 := [(1, .int v28), (0, .ref l0)]) (st2 := []) hm dX2_nameClasses_42 rfl ?_
          refine mx_S.ext [(0, .ref l0), (1, .int v28)] (mx_sub_pos [1, 0] rfl (show ([1, 0] : List Nat).Nodup by decide)) ?_
          exact ih l0 v28 h27 _ hf
set_option maxHeartbeats 4000000 in
set_option maxRecDepth 20000 in
theorem f_X2_nameClasses_ok (X : Nat × (Nat → Int32)) {F L : Nat} (hF : 1 ≤ F) (hL : 21 ≤ L) (nn : Nat) (a0 : Nat) (h : mx_H) {r : mx_H} (hf : f_X2_nameClasses nn a0 h = some r) : mx_R X F L 57 [.ref a0] h (none, r, 0, 0) := by
  have hm : mx_mt 57 = some (yX2_nameClasses, cX2_nameClasses, 3, none) := mt_X2_nameClasses
  show mx_S X F L 57 0 [(0, .ref a0)] [] h 0 0 (none, r, 0, 0)
  unfold f_X2_nameClasses at hf
  refine sx_ic (v := 0) hm dX2_nameClasses_0 (by decide) ?_
  refine mx_S.pu (pc2 := 2) (lv2 := [(1, .int 0), (0, .ref a0)]) (st2 := []) hm dX2_nameClasses_1 rfl ?_
  refine mx_S.ext [(0, .ref a0), (1, .int 0)] (mx_sub_pos [1, 0] rfl (show ([1, 0] : List Nat).Nodup by decide)) ?_
  exact w_X2_nameClasses_2_ok X hF hL nn nn a0 0 h _ hf
set_option maxHeartbeats 4000000 in
set_option maxRecDepth 20000 in
theorem f_X4_setAbove_ok (X : Nat × (Nat → Int32)) {F L : Nat} (hF : 1 ≤ F) (hL : 20 ≤ L) (nn : Nat) (a0 : Nat) (a1 : Int32) (a2 : Int32) (h : mx_H) {r : mx_H} (hf : f_X4_setAbove nn a0 a1 a2 h = some r) : mx_R X F L 132 [.ref a0, .int a1, .int a2] h (none, r, 0, 0) := by
  have hm : mx_mt 132 = some (yX4_setAbove, cX4_setAbove, 3, none) := mt_X4_setAbove
  show mx_S X F L 132 0 [(0, .ref a0), (1, .int a1), (2, .int a2)] [] h 0 0 (none, r, 0, 0)
  unfold f_X4_setAbove at hf
  refine mx_S.pu (pc2 := 1) (lv2 := [(0, .ref a0), (1, .int a1), (2, .int a2)]) (st2 := [.int a1]) hm dX4_setAbove_0 rfl ?_
  replace hf := mx_sv_el hf; obtain ⟨u1, e_u1, hf⟩ := hf
  refine sx_cs hm dX4_setAbove_1 rs_RX4_31 mt_X4_isClass [.int a1] [] rfl rfl (Nat.le_of_ble_eq_true rfl) (Nat.le_of_ble_eq_true rfl) (by omega) (by omega) (f_X4_isClass_ok X (by omega) (by omega) nn a1 h e_u1) ?_
  clear e_u1
  show mx_S X F L 132 4 [(0, .ref a0), (1, .int a1), (2, .int a2)] [.int u1.1] u1.2 0 0 (none, r, 0, 0)
  rcases mx_if_el hf with ⟨c4, hf⟩ | ⟨c4, hf⟩
  · refine sb_if_eq hm dX4_setAbove_4 (tgt := 14) rfl (fun _ => ?_) (fun z => absurd c4 z)
    cases hf
    exact sx_ret hm dX4_setAbove_14 rfl
  · refine sb_if_eq hm dX4_setAbove_4 (tgt := 14) rfl (fun z => absurd z c4) (fun _ => ?_)
    refine mx_S.pu (pc2 := 8) (lv2 := [(0, .ref a0), (1, .int a1), (2, .int a2)]) (st2 := [.ref a0]) hm dX4_setAbove_7 rfl ?_
    replace hf := mx_sv_el hf; obtain ⟨v2, e_v2, hf⟩ := hf
    refine sx_get hm dX4_setAbove_8 rs_RX4_11 (xgr_el e_v2) ?_
    clear e_v2
    refine mx_S.pu (pc2 := 12) (lv2 := [(0, .ref a0), (1, .int a1), (2, .int a2)]) (st2 := [.int a1, .ref v2]) hm dX4_setAbove_11 rfl ?_
    refine mx_S.pu (pc2 := 13) (lv2 := [(0, .ref a0), (1, .int a1), (2, .int a2)]) (st2 := [.int a2, .int a1, .ref v2]) hm dX4_setAbove_12 rfl ?_
    replace hf := mx_sv_el hf; obtain ⟨h3, e_h3, hf⟩ := hf
    refine sx_ast hm dX4_setAbove_13 e_h3 ?_
    clear e_h3
    cases hf
    exact sx_ret hm dX4_setAbove_14 rfl
