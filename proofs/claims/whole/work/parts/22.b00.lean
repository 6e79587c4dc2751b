set_option maxHeartbeats 4000000 in
theorem w_J7_fill_53178_5_ok (X : Nat × (Nat → Int32)) {F L : Nat} (hF : 0 ≤ F) (hL : 0 ≤ L) (nn : Nat) : ∀ (k : Nat) (l0 : Nat) (l1 : Int32) (l2 : Int32) (l3 : Int32) (h : mx_H) (r : mx_H), w_J7_fill_53178_5 nn k l0 l1 l2 l3 h = some r → mx_S X F L 600 5 [(0, .ref l0), (1, .int l1), (2, .int l2), (3, .int l3)] [] h 0 0 (none, r, 0, 0) := by
  have hm : mx_mt 600 = some (yJ7_fill_53178, cJ7_fill_53178, 4, none) := mt_J7_fill_53178
  intro k
  induction k with
  | zero => intro l0 l1 l2 l3 h r hf; cases hf
  | succ k ih =>
    intro l0 l1 l2 l3 h r hf
    unfold w_J7_fill_53178_5 at hf
    refine mx_S.pu (pc2 := 6) (lv2 := [(0, .ref l0), (1, .int l1), (2, .int l2), (3, .int l3)]) (st2 := [.int l2]) hm dJ7_fill_53178_5 rfl ?_
    refine mx_S.pu (pc2 := 7) (lv2 := [(0, .ref l0), (1, .int l1), (2, .int l2), (3, .int l3)]) (st2 := [.int l3, .int l2]) hm dJ7_fill_53178_6 rfl ?_
    rcases mx_if_el hf with ⟨c3, hf⟩ | ⟨c3, hf⟩
    · refine sb_ic_ge hm dJ7_fill_53178_7 (tgt := 20) rfl (fun _ => ?_) (fun z => absurd c3 z)
      cases hf
      exact sx_ret hm dJ7_fill_53178_20 rfl
    · refine sb_ic_ge hm dJ7_fill_53178_7 (tgt := 20) rfl (fun z => absurd z c3) (fun _ => ?_)
      refine mx_S.pu (pc2 := 11) (lv2 := [(0, .ref l0), (1, .int l1), (2, .int l2), (3, .int l3)]) (st2 := [.ref l0]) hm dJ7_fill_53178_10 rfl ?_
      refine mx_S.pu (pc2 := 12) (lv2 := [(0, .ref l0), (1, .int l1), (2, .int l2), (3, .int l3)]) (st2 := [.int l2, .ref l0]) hm dJ7_fill_53178_11 rfl ?_
      refine mx_S.pu (pc2 := 13) (lv2 := [(0, .ref l0), (1, .int l1), (2, .int l2), (3, .int l3)]) (st2 := [.int l1, .int l2, .ref l0]) hm dJ7_fill_53178_12 rfl ?_
      replace hf := mx_sv_el hf; obtain ⟨h1, e_h1, hf⟩ := hf
      refine sx_ast hm dJ7_fill_53178_13 e_h1 ?_
      clear e_h1
      replace hf := xl_el hf; obtain ⟨v2, e_v2, hf⟩ := hf
      refine mx_S.pu (pc2 := 17) (lv2 := [(2, .int v2), (0, .ref l0), (1, .int l1), (3, .int l3)]) (st2 := []) hm dJ7_fill_53178_14 (by rw [← e_v2]; rfl) ?_
      clear e_v2
      refine mx_S.pu (pc2 := 5) (lv2 := [(2, .int v2), (0, .ref l0), (1, .int l1), (3, .int l3)]) (st2 := []) hm dJ7_fill_53178_17 rfl ?_
      refine mx_S.ext [(0, .ref l0), (1, .int l1), (2, .int v2), (3, .int l3)] (mx_sub_pos [1, 2, 0, 3] rfl (show ([2, 0, 1, 3] : List Nat).Nodup by decide)) ?_
      exact ih l0 l1 v2 l3 h1 _ hf
set_option maxHeartbeats 4000000 in
theorem f_J7_fill_53178_ok (X : Nat × (Nat → Int32)) {F L : Nat} (hF : 0 ≤ F) (hL : 0 ≤ L) (nn : Nat) (a0 : Nat) (a1 : Int32) (h : mx_H) {r : mx_H} (hf : f_J7_fill_53178 nn a0 a1 h = some r) : mx_R X F L 600 [.ref a0, .int a1] h (none, r, 0, 0) := by
  have hm : mx_mt 600 = some (yJ7_fill_53178, cJ7_fill_53178, 4, none) := mt_J7_fill_53178
  show mx_S X F L 600 0 [(0, .ref a0), (1, .int a1)] [] h 0 0 (none, r, 0, 0)
  unfold f_J7_fill_53178 at hf
  refine sx_ic (v := 0) hm dJ7_fill_53178_0 (by decide) ?_
  refine mx_S.pu (pc2 := 2) (lv2 := [(2, .int 0), (0, .ref a0), (1, .int a1)]) (st2 := []) hm dJ7_fill_53178_1 rfl ?_
  refine mx_S.pu (pc2 := 3) (lv2 := [(2, .int 0), (0, .ref a0), (1, .int a1)]) (st2 := [.ref a0]) hm dJ7_fill_53178_2 rfl ?_
  replace hf := mx_sv_el hf; obtain ⟨v4, e_v4, hf⟩ := hf
  refine sx_len hm dJ7_fill_53178_3 e_v4 ?_
  clear e_v4
  refine mx_S.pu (pc2 := 5) (lv2 := [(3, .int v4), (2, .int 0), (0, .ref a0), (1, .int a1)]) (st2 := []) hm dJ7_fill_53178_4 rfl ?_
  refine mx_S.ext [(0, .ref a0), (1, .int a1), (2, .int 0), (3, .int v4)] (mx_sub_pos [2, 3, 1, 0] rfl (show ([3, 2, 0, 1] : List Nat).Nodup by decide)) ?_
  exact w_J7_fill_53178_5_ok X hF hL nn nn a0 a1 0 v4 h _ hf
set_option maxHeartbeats 4000000 in
theorem w_X4_settle_38_ok (X : Nat × (Nat → Int32)) {F L : Nat} (hF : 0 ≤ F) (hL : 0 ≤ L) (nn : Nat) {kk_2 : Nat → Int32 → mx_H → Option mx_H} (hk_2 : ∀ (l0 : Nat) (l1 : Int32) (h : mx_H) (r : mx_H), kk_2 l0 l1 h = some r → mx_S X F L 133 2 [(0, .ref l0), (1, .int l1)] [] h 0 0 (none, r, 0, 0)) : ∀ (k : Nat) (l0 : Nat) (l1 : Int32) (l2 : Int32) (l3 : Int32) (h : mx_H) (r : mx_H), w_X4_settle_38 nn kk_2 k l0 l1 l2 l3 h = some r → mx_S X F L 133 38 [(0, .ref l0), (1, .int l1), (2, .int l2), (3, .int l3)] [] h 0 0 (none, r, 0, 0) := by
  have hm : mx_mt 133 = some (yX4_settle, cX4_settle, 4, none) := mt_X4_settle
  intro k
  induction k with
  | zero => intro l0 l1 l2 l3 h r hf; cases hf
  | succ k ih =>
    intro l0 l1 l2 l3 h r hf
    unfold w_X4_settle_38 at hf
    refine mx_S.pu (pc2 := 39) (lv2 := [(0, .ref l0), (1, .int l1), (2, .int l2), (3, .int l3)]) (st2 := [.int l3]) hm dX4_settle_38 rfl ?_
    refine sx_bi (v := 16) hm dX4_settle_39 (by decide) ?_
    rcases mx_if_el hf with ⟨c13, hf⟩ | ⟨c13, hf⟩
    · refine sb_ic_ge hm dX4_settle_41 (tgt := 79) rfl (fun _ => ?_) (fun z => absurd c13 z)
      replace hf := xl_el hf; obtain ⟨v1, e_v1, hf⟩ := hf
      refine mx_S.pu (pc2 := 82) (lv2 := [(1, .int v1), (0, .ref l0), (2, .int l2), (3, .int l3)]) (st2 := []) hm dX4_settle_79 (by rw [← e_v1]; rfl) ?_
      clear e_v1
      refine mx_S.pu (pc2 := 2) (lv2 := [(1, .int v1), (0, .ref l0), (2, .int l2), (3, .int l3)]) (st2 := []) hm dX4_settle_82 rfl ?_
      refine mx_S.ext [(0, .ref l0), (1, .int v1)] (mx_sub_pos [1, 0] rfl (show ([1, 0, 2, 3] : List Nat).Nodup by decide)) ?_
      exact hk_2 l0 v1 h _ hf
    · refine sb_ic_ge hm dX4_settle_41 (tgt := 79) rfl (fun z => absurd z c13) (fun _ => ?_)
      refine mx_S.pu (pc2 := 45) (lv2 := [(0, .ref l0), (1, .int l1), (2, .int l2), (3, .int l3)]) (st2 := [.int l2]) hm dX4_settle_44 rfl ?_
      rcases mx_if_el hf with ⟨c12, hf⟩ | ⟨c12, hf⟩
      · refine sb_if_lt hm dX4_settle_45 (tgt := 79) rfl (fun _ => ?_) (fun z => absurd c12 z)
        replace hf := xl_el hf; obtain ⟨v2, e_v2, hf⟩ := hf
        refine mx_S.pu (pc2 := 82) (lv2 := [(1, .int v2), (0, .ref l0), (2, .int l2), (3, .int l3)]) (st2 := []) hm dX4_settle_79 (by rw [← e_v2]; rfl) ?_
        clear e_v2
        refine mx_S.pu (pc2 := 2) (lv2 := [(1, .int v2), (0, .ref l0), (2, .int l2), (3, .int l3)]) (st2 := []) hm dX4_settle_82 rfl ?_
        refine mx_S.ext [(0, .ref l0), (1, .int v2)] (mx_sub_pos [1, 0] rfl (show ([1, 0, 2, 3] : List Nat).Nodup by decide)) ?_
        exact hk_2 l0 v2 h _ hf
      · refine sb_if_lt hm dX4_settle_45 (tgt := 79) rfl (fun z => absurd z c12) (fun _ => ?_)
        refine mx_S.pu (pc2 := 49) (lv2 := [(0, .ref l0), (1, .int l1), (2, .int l2), (3, .int l3)]) (st2 := [.int l2]) hm dX4_settle_48 rfl ?_
        refine sx_bi (v := 16) hm dX4_settle_49 (by decide) ?_
        rcases mx_if_el hf with ⟨c11, hf⟩ | ⟨c11, hf⟩
        · refine sb_ic_ge hm dX4_settle_51 (tgt := 79) rfl (fun _ => ?_) (fun z => absurd c11 z)
          replace hf := xl_el hf; obtain ⟨v3, e_v3, hf⟩ := hf
          refine mx_S.pu (pc2 := 82) (lv2 := [(1, .int v3), (0, .ref l0), (2, .int l2), (3, .int l3)]) (st2 := []) hm dX4_settle_79 (by rw [← e_v3]; rfl) ?_
          clear e_v3
          refine mx_S.pu (pc2 := 2) (lv2 := [(1, .int v3), (0, .ref l0), (2, .int l2), (3, .int l3)]) (st2 := []) hm dX4_settle_82 rfl ?_
          refine mx_S.ext [(0, .ref l0), (1, .int v3)] (mx_sub_pos [1, 0] rfl (show ([1, 0, 2, 3] : List Nat).Nodup by decide)) ?_
          exact hk_2 l0 v3 h _ hf
        · refine sb_ic_ge hm dX4_settle_51 (tgt := 79) rfl (fun z => absurd z c11) (fun _ => ?_)
          refine mx_S.pu (pc2 := 55) (lv2 := [(0, .ref l0), (1, .int l1), (2, .int l2), (3, .int l3)]) (st2 := [.ref l0]) hm dX4_settle_54 rfl ?_
          replace hf := mx_sv_el hf; obtain ⟨v4, e_v4, hf⟩ := hf
          refine sx_get hm dX4_settle_55 rs_RX4_15 (xgr_el e_v4) ?_
          clear e_v4
          refine mx_S.pu (pc2 := 59) (lv2 := [(0, .ref l0), (1, .int l1), (2, .int l2), (3, .int l3)]) (st2 := [.int l1, .ref v4]) hm dX4_settle_58 rfl ?_
          refine sx_bi (v := 16) hm dX4_settle_59 (by decide) ?_
          replace hf := xl_el hf; obtain ⟨v5, e_v5, hf⟩ := hf
          refine mx_S.pu (pc2 := 62) (lv2 := [(0, .ref l0), (1, .int l1), (2, .int l2), (3, .int l3)]) (st2 := [.int v5, .ref v4]) hm dX4_settle_61 (by rw [← e_v5]; rfl) ?_
          clear e_v5
          refine mx_S.pu (pc2 := 63) (lv2 := [(0, .ref l0), (1, .int l1), (2, .int l2), (3, .int l3)]) (st2 := [.int l2, .int v5, .ref v4]) hm dX4_settle_62 rfl ?_
          replace hf := xl_el hf; obtain ⟨v6, e_v6, hf⟩ := hf
          refine mx_S.pu (pc2 := 64) (lv2 := [(0, .ref l0), (1, .int l1), (2, .int l2), (3, .int l3)]) (st2 := [.int v6, .ref v4]) hm dX4_settle_63 (by rw [← e_v6]; rfl) ?_
          clear e_v6
          refine sx_ic (v := 1) hm dX4_settle_64 (by decide) ?_
          replace hf := mx_sv_el hf; obtain ⟨h7, e_h7, hf⟩ := hf
          refine sx_bst hm dX4_settle_65 e_h7 ?_
          clear e_h7
          refine mx_S.pu (pc2 := 67) (lv2 := [(0, .ref l0), (1, .int l1), (2, .int l2), (3, .int l3)]) (st2 := [.ref l0]) hm dX4_settle_66 rfl ?_
          replace hf := mx_sv_el hf; obtain ⟨v8, e_v8, hf⟩ := hf
          refine sx_get hm dX4_settle_67 rs_RX4_11 (xgr_el e_v8) ?_
          clear e_v8
          refine mx_S.pu (pc2 := 71) (lv2 := [(0, .ref l0), (1, .int l1), (2, .int l2), (3, .int l3)]) (st2 := [.int l2, .ref v8]) hm dX4_settle_70 rfl ?_
          replace hf := mx_sv_el hf; obtain ⟨v9, e_v9, hf⟩ := hf
          refine sx_ald hm dX4_settle_71 e_v9 ?_
          clear e_v9
          refine mx_S.pu (pc2 := 73) (lv2 := [(2, .int v9), (0, .ref l0), (1, .int l1), (3, .int l3)]) (st2 := []) hm dX4_settle_72 rfl ?_
          replace hf := xl_el hf; obtain ⟨v10, e_v10, hf⟩ := hf
          refine mx_S.pu (pc2 := 76) (lv2 := [(3, .int v10), (2, .int v9), (0, .ref l0), (1, .int l1)]) (st2 := []) hm dX4_settle_73 (by rw [← e_v10]; rfl) ?_
          clear e_v10
          refine mx_S.pu (pc2 := 38) (lv2 := [(3, .int v10), (2, .int v9), (0, .ref l0), (1, .int l1)]) (st2 := []) hm dX4_settle_76 rfl ?_
          refine mx_S.ext [(0, .ref l0), (1, .int l1), (2, .int v9), (3, .int v10)] (mx_sub_pos [2, 3, 1, 0] rfl (show ([3, 2, 0, 1] : List Nat).Nodup by decide)) ?_
          exact ih l0 l1 v9 v10 h7 _ hf
set_option maxHeartbeats 4000000 in
theorem w_X4_settle_10_ok (X : Nat × (Nat → Int32)) {F L : Nat} (hF : 0 ≤ F) (hL : 0 ≤ L) (nn : Nat) {kk_2 : Nat → Int32 → mx_H → Option mx_H} (hk_2 : ∀ (l0 : Nat) (l1 : Int32) (h : mx_H) (r : mx_H), kk_2 l0 l1 h = some r → mx_S X F L 133 2 [(0, .ref l0), (1, .int l1)] [] h 0 0 (none, r, 0, 0)) : ∀ (k : Nat) (l0 : Nat) (l1 : Int32) (l2 : Int32) (h : mx_H) (r : mx_H), w_X4_settle_10 nn kk_2 k l0 l1 l2 h = some r → mx_S X F L 133 10 [(0, .ref l0), (1, .int l1), (2, .int l2)] [] h 0 0 (none, r, 0, 0) := by
  have hm : mx_mt 133 = some (yX4_settle, cX4_settle, 4, none) := mt_X4_settle
  intro k
  induction k with
  | zero => intro l0 l1 l2 h r hf; cases hf
  | succ k ih =>
    intro l0 l1 l2 h r hf
    unfold w_X4_settle_10 at hf
    refine mx_S.pu (pc2 := 11) (lv2 := [(0, .ref l0), (1, .int l1), (2, .int l2)]) (st2 := [.int l2]) hm dX4_settle_10 rfl ?_
    refine sx_bi (v := 16) hm dX4_settle_11 (by decide) ?_
    rcases mx_if_el hf with ⟨c19, hf⟩ | ⟨c19, hf⟩
    · refine sb_ic_ge hm dX4_settle_13 (tgt := 34) rfl (fun _ => ?_) (fun z => absurd c19 z)
      refine mx_S.pu (pc2 := 35) (lv2 := [(0, .ref l0), (1, .int l1), (2, .int l2)]) (st2 := [.int l1]) hm dX4_settle_34 rfl ?_
      refine mx_S.pu (pc2 := 36) (lv2 := [(2, .int l1), (0, .ref l0), (1, .int l1)]) (st2 := []) hm dX4_settle_35 rfl ?_
      refine sx_ic (v := 0) hm dX4_settle_36 (by decide) ?_
      refine mx_S.pu (pc2 := 38) (lv2 := [(3, .int 0), (2, .int l1), (0, .ref l0), (1, .int l1)]) (st2 := []) hm dX4_settle_37 rfl ?_
      refine mx_S.ext [(0, .ref l0), (1, .int l1), (2, .int l1), (3, .int 0)] (mx_sub_pos [2, 3, 1, 0] rfl (show ([3, 2, 0, 1] : List Nat).Nodup by decide)) ?_
      exact w_X4_settle_38_ok X hF hL nn hk_2 nn l0 l1 l1 0 h _ hf
    · refine sb_ic_ge hm dX4_settle_13 (tgt := 34) rfl (fun z => absurd z c19) (fun _ => ?_)
      refine mx_S.pu (pc2 := 17) (lv2 := [(0, .ref l0), (1, .int l1), (2, .int l2)]) (st2 := [.ref l0]) hm dX4_settle_16 rfl ?_
      replace hf := mx_sv_el hf; obtain ⟨v14, e_v14, hf⟩ := hf
      refine sx_get hm dX4_settle_17 rs_RX4_15 (xgr_el e_v14) ?_
      clear e_v14
      refine mx_S.pu (pc2 := 21) (lv2 := [(0, .ref l0), (1, .int l1), (2, .int l2)]) (st2 := [.int l1, .ref v14]) hm dX4_settle_20 rfl ?_
      refine sx_bi (v := 16) hm dX4_settle_21 (by decide) ?_
      replace hf := xl_el hf; obtain ⟨v15, e_v15, hf⟩ := hf
      refine mx_S.pu (pc2 := 24) (lv2 := [(0, .ref l0), (1, .int l1), (2, .int l2)]) (st2 := [.int v15, .ref v14]) hm dX4_settle_23 (by rw [← e_v15]; rfl) ?_
      clear e_v15
      refine mx_S.pu (pc2 := 25) (lv2 := [(0, .ref l0), (1, .int l1), (2, .int l2)]) (st2 := [.int l2, .int v15, .ref v14]) hm dX4_settle_24 rfl ?_
      replace hf := xl_el hf; obtain ⟨v16, e_v16, hf⟩ := hf
      refine mx_S.pu (pc2 := 26) (lv2 := [(0, .ref l0), (1, .int l1), (2, .int l2)]) (st2 := [.int v16, .ref v14]) hm dX4_settle_25 (by rw [← e_v16]; rfl) ?_
      clear e_v16
      refine sx_ic (v := 0) hm dX4_settle_26 (by decide) ?_
      replace hf := mx_sv_el hf; obtain ⟨h17, e_h17, hf⟩ := hf
      refine sx_bst hm dX4_settle_27 e_h17 ?_
      clear e_h17
      replace hf := xl_el hf; obtain ⟨v18, e_v18, hf⟩ := hf
      refine mx_S.pu (pc2 := 31) (lv2 := [(2, .int v18), (0, .ref l0), (1, .int l1)]) (st2 := []) hm dX4_settle_28 (by rw [← e_v18]; rfl) ?_
      clear e_v18
      refine mx_S.pu (pc2 := 10) (lv2 := [(2, .int v18), (0, .ref l0), (1, .int l1)]) (st2 := []) hm dX4_settle_31 rfl ?_
      refine mx_S.ext [(0, .ref l0), (1, .int l1), (2, .int v18)] (mx_sub_pos [1, 2, 0] rfl (show ([2, 0, 1] : List Nat).Nodup by decide)) ?_
      exact ih l0 l1 v18 h17 _ hf
set_option maxHeartbeats 4000000 in
theorem w_X4_settle_2_ok (X : Nat × (Nat → Int32)) {F L : Nat} (hF : 0 ≤ F) (hL : 0 ≤ L) (nn : Nat) : ∀ (k : Nat) (l0 : Nat) (l1 : Int32) (h : mx_H) (r : mx_H), w_X4_settle_2 nn k l0 l1 h = some r → mx_S X F L 133 2 [(0, .ref l0), (1, .int l1)] [] h 0 0 (none, r, 0, 0) := by
  have hm : mx_mt 133 = some (yX4_settle, cX4_settle, 4, none) := mt_X4_settle
  intro k
  induction k with
  | zero => intro l0 l1 h r hf; cases hf
  | succ k ih =>
    intro l0 l1 h r hf
    unfold w_X4_settle_2 at hf
    refine mx_S.pu (pc2 := 3) (lv2 := [(0, .ref l0), (1, .int l1)]) (st2 := [.int l1]) hm dX4_settle_2 rfl ?_
    refine sx_bi (v := 16) hm dX4_settle_3 (by decide) ?_
    rcases mx_if_el hf with ⟨c20, hf⟩ | ⟨c20, hf⟩
    · refine sb_ic_ge hm dX4_settle_5 (tgt := 85) rfl (fun _ => ?_) (fun z => absurd c20 z)
      cases hf
      exact sx_ret hm dX4_settle_85 rfl
    · refine sb_ic_ge hm dX4_settle_5 (tgt := 85) rfl (fun z => absurd z c20) (fun _ => ?_)
      refine sx_ic (v := 0) hm dX4_settle_8 (by decide) ?_
      refine mx_S.pu (pc2 := 10) (lv2 := [(2, .int 0), (0, .ref l0), (1, .int l1)]) (st2 := []) hm dX4_settle_9 rfl ?_
      refine mx_S.ext [(0, .ref l0), (1, .int l1), (2, .int 0)] (mx_sub_pos [1, 2, 0] rfl (show ([2, 0, 1] : List Nat).Nodup by decide)) ?_
      exact w_X4_settle_10_ok X hF hL nn ih nn l0 l1 0 h _ hf
set_option maxHeartbeats 4000000 in
theorem f_X4_settle_ok (X : Nat × (Nat → Int32)) {F L : Nat} (hF : 0 ≤ F) (hL : 0 ≤ L) (nn : Nat) (a0 : Nat) (h : mx_H) {r : mx_H} (hf : f_X4_settle nn a0 h = some r) : mx_R X F L 133 [.ref a0] h (none, r, 0, 0) := by
  have hm : mx_mt 133 = some (yX4_settle, cX4_settle, 4, none) := mt_X4_settle
  show mx_S X F L 133 0 [(0, .ref a0)] [] h 0 0 (none, r, 0, 0)
  unfold f_X4_settle at hf
  refine sx_ic (v := 0) hm dX4_settle_0 (by decide) ?_
  refine mx_S.pu (pc2 := 2) (lv2 := [(1, .int 0), (0, .ref a0)]) (st2 := []) hm dX4_settle_1 rfl ?_
  refine mx_S.ext [(0, .ref a0), (1, .int 0)] (mx_sub_pos [1, 0] rfl (show ([1, 0] : List Nat).Nodup by decide)) ?_
  exact w_X4_settle_2_ok X hF hL nn nn a0 0 h _ hf
set_option maxHeartbeats 4000000 in
theorem w_X4_forget_10_ok (X : Nat × (Nat → Int32)) {F L : Nat} (hF : 1 ≤ F) (hL : 23 ≤ L) (nn : Nat) : ∀ (k : Nat) (l0 : Nat) (l1 : Int32) (h : mx_H) (r : mx_H), w_X4_forget_10 nn k l0 l1 h = some r → mx_S X F L 130 10 [(0, .ref l0), (1, .int l1)] [] h 0 0 (none, r, 0, 0) := by
  have hm : mx_mt 130 = some (yX4_forget, cX4_forget, 2, none) := mt_X4_forget
  intro k
  induction k with
  | zero => intro l0 l1 h r hf; cases hf
  | succ k ih =>
    intro l0 l1 h r hf
    unfold w_X4_forget_10 at hf
    refine mx_S.pu (pc2 := 11) (lv2 := [(0, .ref l0), (1, .int l1)]) (st2 := [.int l1]) hm dX4_forget_10 rfl ?_
    refine sx_bi (v := 8) hm dX4_forget_11 (by decide) ?_
    rcases mx_if_el hf with ⟨c9, hf⟩ | ⟨c9, hf⟩
    · refine sb_ic_ge hm dX4_forget_13 (tgt := 38) rfl (fun _ => ?_) (fun z => absurd c9 z)
      refine mx_S.pu (pc2 := 39) (lv2 := [(0, .ref l0), (1, .int l1)]) (st2 := [.ref l0]) hm dX4_forget_38 rfl ?_
      replace hf := mx_gd_el hf; obtain ⟨c1, hf⟩ := hf
      replace hf := mx_sv_el hf; obtain ⟨u2, e_u2, hf⟩ := hf
      refine sx_cv hm dX4_forget_39 rs_RX4_28 mt_X4_settle [] [] (b := l0) (ci := 4) rfl rfl rfl c1 (Nat.le_of_ble_eq_true rfl) (Nat.le_of_ble_eq_true rfl) (by omega) (by omega) (f_X4_settle_ok X (by omega) (by omega) nn l0 h e_u2) ?_
      clear e_u2
      show mx_S X F L 130 42 [(0, .ref l0), (1, .int l1)] [] u2 0 0 (none, r, 0, 0)
      cases hf
      exact sx_ret hm dX4_forget_42 rfl
    · refine sb_ic_ge hm dX4_forget_13 (tgt := 38) rfl (fun z => absurd z c9) (fun _ => ?_)
      refine mx_S.pu (pc2 := 17) (lv2 := [(0, .ref l0), (1, .int l1)]) (st2 := [.ref l0]) hm dX4_forget_16 rfl ?_
      replace hf := mx_sv_el hf; obtain ⟨v3, e_v3, hf⟩ := hf
      refine sx_get hm dX4_forget_17 rs_RX4_11 (xgr_el e_v3) ?_
      clear e_v3
      refine mx_S.pu (pc2 := 21) (lv2 := [(0, .ref l0), (1, .int l1)]) (st2 := [.int l1, .ref v3]) hm dX4_forget_20 rfl ?_
      refine mx_S.pu (pc2 := 22) (lv2 := [(0, .ref l0), (1, .int l1)]) (st2 := [.int l1, .int l1, .ref v3]) hm dX4_forget_21 rfl ?_
      refine sx_ic (v := 1) hm dX4_forget_22 (by decide) ?_
      rcases mx_if_el hf with ⟨c8, hf⟩ | ⟨c8, hf⟩
      · refine sb_ic_ne hm dX4_forget_23 (tgt := 30) rfl (fun _ => ?_) (fun z => absurd c8 z)
        refine sx_ic (v := 1) hm dX4_forget_30 (by decide) ?_
        replace hf := mx_sv_el hf; obtain ⟨h4, e_h4, hf⟩ := hf
        refine sx_ast hm dX4_forget_31 e_h4 ?_
        clear e_h4
        replace hf := xl_el hf; obtain ⟨v5, e_v5, hf⟩ := hf
        refine mx_S.pu (pc2 := 35) (lv2 := [(1, .int v5), (0, .ref l0)]) (st2 := []) hm dX4_forget_32 (by rw [← e_v5]; rfl) ?_
        clear e_v5
        refine mx_S.pu (pc2 := 10) (lv2 := [(1, .int v5), (0, .ref l0)]) (st2 := []) hm dX4_forget_35 rfl ?_
        refine mx_S.ext [(0, .ref l0), (1, .int v5)] (mx_sub_pos [1, 0] rfl (show ([1, 0] : List Nat).Nodup by decide)) ?_
        exact ih l0 v5 h4 _ hf
      · refine sb_ic_ne hm dX4_forget_23 (tgt := 30) rfl (fun z => absurd z c8) (fun _ => ?_)
        refine sx_ic (v := 0) hm dX4_forget_26 (by decide) ?_
        refine mx_S.pu (pc2 := 31) (lv2 := [(0, .ref l0), (1, .int l1)]) (st2 := [.int 0, .int l1, .ref v3]) hm dX4_forget_27 rfl ?_
        replace hf := mx_sv_el hf; obtain ⟨h6, e_h6, hf⟩ := hf
        refine sx_ast hm dX4_forget_31 e_h6 ?_
        clear e_h6
        replace hf := xl_el hf; obtain ⟨v7, e_v7, hf⟩ := hf
        refine mx_S.pu (pc2 := 35) (lv2 := [(1, .int v7), (0, .ref l0)]) (st2 := []) hm dX4_forget_32 (by rw [← e_v7]; rfl) ?_
        clear e_v7
        refine mx_S.pu (pc2 := 10) (lv2 := [(1, .int v7), (0, .ref l0)]) (st2 := []) hm dX4_forget_35 rfl ?_
        refine mx_S.ext [(0, .ref l0), (1, .int v7)] (mx_sub_pos [1, 0] rfl (show ([1, 0] : List Nat).Nodup by decide)) ?_
        exact ih l0 v7 h6 _ hf
set_option maxHeartbeats 4000000 in
theorem f_X4_forget_ok (X : Nat × (Nat → Int32)) {F L : Nat} (hF : 1 ≤ F) (hL : 23 ≤ L) (nn : Nat) (a0 : Nat) (h : mx_H) {r : mx_H} (hf : f_X4_forget nn a0 h = some r) : mx_R X F L 130 [.ref a0] h (none, r, 0, 0) := by
  have hm : mx_mt 130 = some (yX4_forget, cX4_forget, 2, none) := mt_X4_forget
  show mx_S X F L 130 0 [(0, .ref a0)] [] h 0 0 (none, r, 0, 0)
  unfold f_X4_forget at hf
  refine mx_S.pu (pc2 := 1) (lv2 := [(0, .ref a0)]) (st2 := [.ref a0]) hm dX4_forget_0 rfl ?_
  replace hf := mx_sv_el hf; obtain ⟨v10, e_v10, hf⟩ := hf
  refine sx_get hm dX4_forget_1 rs_RX4_11 (xgr_el e_v10) ?_
  clear e_v10
  refine sx_ic (v := (-1)) hm dX4_forget_4 (by decide) ?_
  replace hf := mx_sv_el hf; obtain ⟨u11, e_u11, hf⟩ := hf
  refine sx_cs hm dX4_forget_5 rs_RX4_22 mt_J7_fill_53178 [.ref v10, .int (-1)] [] rfl rfl (Nat.le_of_ble_eq_true rfl) (Nat.le_of_ble_eq_true rfl) (by omega) (by omega) (f_J7_fill_53178_ok X (by omega) (by omega) nn v10 (-1) h e_u11) ?_
  clear e_u11
  show mx_S X F L 130 8 [(0, .ref a0)] [] u11 0 0 (none, r, 0, 0)
  refine sx_ic (v := 1) hm dX4_forget_8 (by decide) ?_
  refine mx_S.pu (pc2 := 10) (lv2 := [(1, .int 1), (0, .ref a0)]) (st2 := []) hm dX4_forget_9 rfl ?_
  refine mx_S.ext [(0, .ref a0), (1, .int 1)] (mx_sub_pos [1, 0] rfl (show ([1, 0] : List Nat).Nodup by decide)) ?_
  exact w_X4_forget_10_ok X hF hL nn nn a0 1 u11 _ hf
set_option maxHeartbeats 4000000 in
theorem f_X4_isClass_ok (X : Nat × (Nat → Int32)) {F L : Nat} (hF : 0 ≤ F) (hL : 0 ≤ L) (nn : Nat) (a0 : Int32) (h : mx_H) {r : (Int32 × mx_H)} (hf : f_X4_isClass nn a0 h = some r) : mx_R X F L 134 [.int a0] h (some (.int r.1), r.2, 0, 0) := by
  have hm : mx_mt 134 = some (yX4_isClass, cX4_isClass, 1, (some .boolean)) := mt_X4_isClass
  show mx_S X F L 134 0 [(0, .int a0)] [] h 0 0 (some (.int r.1), r.2, 0, 0)
  unfold f_X4_isClass at hf
  refine mx_S.pu (pc2 := 1) (lv2 := [(0, .int a0)]) (st2 := [.int a0]) hm dX4_isClass_0 rfl ?_
  rcases mx_if_el hf with ⟨c2, hf⟩ | ⟨c2, hf⟩
  · refine sb_if_lt hm dX4_isClass_1 (tgt := 14) rfl (fun _ => ?_) (fun z => absurd c2 z)
    refine sx_ic (v := 0) hm dX4_isClass_14 (by decide) ?_
    cases hf
    exact sx_ire hm dX4_isClass_15 rfl (by decide)
  · refine sb_if_lt hm dX4_isClass_1 (tgt := 14) rfl (fun z => absurd z c2) (fun _ => ?_)
    refine mx_S.pu (pc2 := 5) (lv2 := [(0, .int a0)]) (st2 := [.int a0]) hm dX4_isClass_4 rfl ?_
    refine sx_bi (v := 16) hm dX4_isClass_5 (by decide) ?_
    rcases mx_if_el hf with ⟨c1, hf⟩ | ⟨c1, hf⟩
    · refine sb_ic_ge hm dX4_isClass_7 (tgt := 14) rfl (fun _ => ?_) (fun z => absurd c1 z)
      refine sx_ic (v := 0) hm dX4_isClass_14 (by decide) ?_
      cases hf
      exact sx_ire hm dX4_isClass_15 rfl (by decide)
    · refine sb_ic_ge hm dX4_isClass_7 (tgt := 14) rfl (fun z => absurd z c1) (fun _ => ?_)
      refine sx_ic (v := 1) hm dX4_isClass_10 (by decide) ?_
      refine mx_S.pu (pc2 := 15) (lv2 := [(0, .int a0)]) (st2 := [.int 1]) hm dX4_isClass_11 rfl ?_
      cases hf
      exact sx_ire hm dX4_isClass_15 rfl (by decide)
set_option maxHeartbeats 4000000 in
theorem f_X4_above_ok (X : Nat × (Nat → Int32)) {F L : Nat} (hF : 1 ≤ F) (hL : 20 ≤ L) (nn : Nat) (a0 : Nat) (a1 : Int32) (h : mx_H) {r : (Int32 × mx_H)} (hf : f_X4_above nn a0 a1 h = some r) : mx_R X F L 131 [.ref a0, .int a1] h (some (.int r.1), r.2, 0, 0) := by
  have hm : mx_mt 131 = some (yX4_above, cX4_above, 2, (some .int)) := mt_X4_above
  show mx_S X F L 131 0 [(0, .ref a0), (1, .int a1)] [] h 0 0 (some (.int r.1), r.2, 0, 0)
  unfold f_X4_above at hf
  refine mx_S.pu (pc2 := 1) (lv2 := [(0, .ref a0), (1, .int a1)]) (st2 := [.int a1]) hm dX4_above_0 rfl ?_
  replace hf := mx_sv_el hf; obtain ⟨u1, e_u1, hf⟩ := hf
  refine sx_cs hm dX4_above_1 rs_RX4_31 mt_X4_isClass [.int a1] [] rfl rfl (Nat.le_of_ble_eq_true rfl) (Nat.le_of_ble_eq_true rfl) (by omega) (by omega) (f_X4_isClass_ok X (by omega) (by omega) nn a1 h e_u1) ?_
  clear e_u1
  show mx_S X F L 131 4 [(0, .ref a0), (1, .int a1)] [.int u1.1] u1.2 0 0 (some (.int r.1), r.2, 0, 0)
  rcases mx_if_el hf with ⟨c4, hf⟩ | ⟨c4, hf⟩
  · refine sb_if_eq hm dX4_above_4 (tgt := 16) rfl (fun _ => ?_) (fun z => absurd c4 z)
    refine sx_ic (v := (-1)) hm dX4_above_16 (by decide) ?_
    cases hf
    exact sx_ire hm dX4_above_17 rfl rfl
  · refine sb_if_eq hm dX4_above_4 (tgt := 16) rfl (fun z => absurd z c4) (fun _ => ?_)
    refine mx_S.pu (pc2 := 8) (lv2 := [(0, .ref a0), (1, .int a1)]) (st2 := [.ref a0]) hm dX4_above_7 rfl ?_
    replace hf := mx_sv_el hf; obtain ⟨v2, e_v2, hf⟩ := hf
    refine sx_get hm dX4_above_8 rs_RX4_11 (xgr_el e_v2) ?_
    clear e_v2
    refine mx_S.pu (pc2 := 12) (lv2 := [(0, .ref a0), (1, .int a1)]) (st2 := [.int a1, .ref v2]) hm dX4_above_11 rfl ?_
    replace hf := mx_sv_el hf; obtain ⟨v3, e_v3, hf⟩ := hf
    refine sx_ald hm dX4_above_12 e_v3 ?_
    clear e_v3
    refine mx_S.pu (pc2 := 17) (lv2 := [(0, .ref a0), (1, .int a1)]) (st2 := [.int v3]) hm dX4_above_13 rfl ?_
    cases hf
    exact sx_ire hm dX4_above_17 rfl rfl
set_option maxHeartbeats 4000000 in
theorem f_X4_isNumber_ok (X : Nat × (Nat → Int32)) {F L : Nat} (hF : 0 ≤ F) (hL : 0 ≤ L) (nn : Nat) (a0 : Int32) (h : mx_H) {r : (Int32 × mx_H)} (hf : f_X4_isNumber nn a0 h = some r) : mx_R X F L 137 [.int a0] h (some (.int r.1), r.2, 0, 0) := by
  have hm : mx_mt 137 = some (yX4_isNumber, cX4_isNumber, 1, (some .boolean)) := mt_X4_isNumber
  show mx_S X F L 137 0 [(0, .int a0)] [] h 0 0 (some (.int r.1), r.2, 0, 0)
  unfold f_X4_isNumber at hf
  refine mx_S.pu (pc2 := 1) (lv2 := [(0, .int a0)]) (st2 := [.int a0]) hm dX4_isNumber_0 rfl ?_
  refine sx_si (v := 301) hm dX4_isNumber_1 (by decide) ?_
  rcases mx_if_el hf with ⟨c2, hf⟩ | ⟨c2, hf⟩
  · refine sb_ic_eq hm dX4_isNumber_4 (tgt := 14) rfl (fun _ => ?_) (fun z => absurd c2 z)
    refine sx_ic (v := 1) hm dX4_isNumber_14 (by decide) ?_
    refine mx_S.pu (pc2 := 19) (lv2 := [(0, .int a0)]) (st2 := [.int 1]) hm dX4_isNumber_15 rfl ?_
    cases hf
    exact sx_ire hm dX4_isNumber_19 rfl (by decide)
  · refine sb_ic_eq hm dX4_isNumber_4 (tgt := 14) rfl (fun z => absurd z c2) (fun _ => ?_)
    refine mx_S.pu (pc2 := 8) (lv2 := [(0, .int a0)]) (st2 := [.int a0]) hm dX4_isNumber_7 rfl ?_
    refine sx_si (v := 302) hm dX4_isNumber_8 (by decide) ?_
    rcases mx_if_el hf with ⟨c1, hf⟩ | ⟨c1, hf⟩
    · refine sb_ic_ne hm dX4_isNumber_11 (tgt := 18) rfl (fun _ => ?_) (fun z => absurd c1 z)
      refine sx_ic (v := 0) hm dX4_isNumber_18 (by decide) ?_
      cases hf
      exact sx_ire hm dX4_isNumber_19 rfl (by decide)
    · refine sb_ic_ne hm dX4_isNumber_11 (tgt := 18) rfl (fun z => absurd z c1) (fun _ => ?_)
      refine sx_ic (v := 1) hm dX4_isNumber_14 (by decide) ?_
      refine mx_S.pu (pc2 := 19) (lv2 := [(0, .int a0)]) (st2 := [.int 1]) hm dX4_isNumber_15 rfl ?_
      cases hf
      exact sx_ire hm dX4_isNumber_19 rfl (by decide)
set_option maxHeartbeats 4000000 in
theorem f_X4_isReference_ok (X : Nat × (Nat → Int32)) {F L : Nat} (hF : 0 ≤ F) (hL : 0 ≤ L) (nn : Nat) (a0 : Int32) (h : mx_H) {r : (Int32 × mx_H)} (hf : f_X4_isReference nn a0 h = some r) : mx_R X F L 136 [.int a0] h (some (.int r.1), r.2, 0, 0) := by
  have hm : mx_mt 136 = some (yX4_isReference, cX4_isReference, 1, (some .boolean)) := mt_X4_isReference
  show mx_S X F L 136 0 [(0, .int a0)] [] h 0 0 (some (.int r.1), r.2, 0, 0)
  unfold f_X4_isReference at hf
  refine mx_S.pu (pc2 := 1) (lv2 := [(0, .int a0)]) (st2 := [.int a0]) hm dX4_isReference_0 rfl ?_
  refine sx_si (v := 300) hm dX4_isReference_1 (by decide) ?_
  rcases mx_if_el hf with ⟨c3, hf⟩ | ⟨c3, hf⟩
  · refine sb_ic_eq hm dX4_isReference_4 (tgt := 18) rfl (fun _ => ?_) (fun z => absurd c3 z)
    refine sx_ic (v := 1) hm dX4_isReference_18 (by decide) ?_
    refine mx_S.pu (pc2 := 23) (lv2 := [(0, .int a0)]) (st2 := [.int 1]) hm dX4_isReference_19 rfl ?_
    cases hf
    exact sx_ire hm dX4_isReference_23 rfl (by decide)
  · refine sb_ic_eq hm dX4_isReference_4 (tgt := 18) rfl (fun z => absurd z c3) (fun _ => ?_)
    refine mx_S.pu (pc2 := 8) (lv2 := [(0, .int a0)]) (st2 := [.int a0]) hm dX4_isReference_7 rfl ?_
    rcases mx_if_el hf with ⟨c2, hf⟩ | ⟨c2, hf⟩
    · refine sb_if_lt hm dX4_isReference_8 (tgt := 22) rfl (fun _ => ?_) (fun z => absurd c2 z)
      refine sx_ic (v := 0) hm dX4_isReference_22 (by decide) ?_
      cases hf
      exact sx_ire hm dX4_isReference_23 rfl (by decide)
    · refine sb_if_lt hm dX4_isReference_8 (tgt := 22) rfl (fun z => absurd z c2) (fun _ => ?_)
      refine mx_S.pu (pc2 := 12) (lv2 := [(0, .int a0)]) (st2 := [.int a0]) hm dX4_isReference_11 rfl ?_
      refine sx_si (v := 200) hm dX4_isReference_12 (by decide) ?_
      rcases mx_if_el hf with ⟨c1, hf⟩ | ⟨c1, hf⟩
      · refine sb_ic_gt hm dX4_isReference_15 (tgt := 22) rfl (fun _ => ?_) (fun z => absurd c1 z)
        refine sx_ic (v := 0) hm dX4_isReference_22 (by decide) ?_
        cases hf
        exact sx_ire hm dX4_isReference_23 rfl (by decide)
      · refine sb_ic_gt hm dX4_isReference_15 (tgt := 22) rfl (fun z => absurd z c1) (fun _ => ?_)
        refine sx_ic (v := 1) hm dX4_isReference_18 (by decide) ?_
        refine mx_S.pu (pc2 := 23) (lv2 := [(0, .int a0)]) (st2 := [.int 1]) hm dX4_isReference_19 rfl ?_
        cases hf
        exact sx_ire hm dX4_isReference_23 rfl (by decide)
set_option maxHeartbeats 4000000 in
theorem j_X4_fits_123_ok (X : Nat × (Nat → Int32)) {F L : Nat} (hF : 0 ≤ F) (hL : 0 ≤ L) (nn : Nat) (l0 : Nat) (l1 : Int32) (l2 : Int32) (s0 : Int32) (h : mx_H) {r : (Int32 × mx_H)} (hf : j_X4_fits_123 nn l0 l1 l2 s0 h = some r) : mx_S X F L 139 123 [(0, .ref l0), (1, .int l1), (2, .int l2)] [.int s0] h 0 0 (some (.int r.1), r.2, 0, 0) := by
  have hm : mx_mt 139 = some (yX4_fits, cX4_fits, 4, (some .boolean)) := mt_X4_fits
  unfold j_X4_fits_123 at hf
  refine mx_S.pu (pc2 := 124) (lv2 := [(3, .int s0), (0, .ref l0), (1, .int l1), (2, .int l2)]) (st2 := []) hm dX4_fits_123 rfl ?_
  refine mx_S.pu (pc2 := 125) (lv2 := [(3, .int s0), (0, .ref l0), (1, .int l1), (2, .int l2)]) (st2 := [.int s0]) hm dX4_fits_124 rfl ?_
  rcases mx_if_el hf with ⟨c8, hf⟩ | ⟨c8, hf⟩
  · refine sb_if_eq hm dX4_fits_125 (tgt := 152) rfl (fun _ => ?_) (fun z => absurd c8 z)
    refine sx_ic (v := 0) hm dX4_fits_152 (by decide) ?_
    cases hf
    exact sx_ire hm dX4_fits_153 rfl (by decide)
  · refine sb_if_eq hm dX4_fits_125 (tgt := 152) rfl (fun z => absurd z c8) (fun _ => ?_)
    refine mx_S.pu (pc2 := 129) (lv2 := [(3, .int s0), (0, .ref l0), (1, .int l1), (2, .int l2)]) (st2 := [.ref l0]) hm dX4_fits_128 rfl ?_
    replace hf := mx_sv_el hf; obtain ⟨v1, e_v1, hf⟩ := hf
    refine sx_get hm dX4_fits_129 rs_RX4_15 (xgr_el e_v1) ?_
    clear e_v1
    refine mx_S.pu (pc2 := 133) (lv2 := [(3, .int s0), (0, .ref l0), (1, .int l1), (2, .int l2)]) (st2 := [.int l1, .ref v1]) hm dX4_fits_132 rfl ?_
    refine sx_bi (v := 100) hm dX4_fits_133 (by decide) ?_
    replace hf := xl_el hf; obtain ⟨v2, e_v2, hf⟩ := hf
    refine mx_S.pu (pc2 := 136) (lv2 := [(3, .int s0), (0, .ref l0), (1, .int l1), (2, .int l2)]) (st2 := [.int v2, .ref v1]) hm dX4_fits_135 (by rw [← e_v2]; rfl) ?_
    clear e_v2
    refine sx_bi (v := 16) hm dX4_fits_136 (by decide) ?_
    replace hf := xl_el hf; obtain ⟨v3, e_v3, hf⟩ := hf
    refine mx_S.pu (pc2 := 139) (lv2 := [(3, .int s0), (0, .ref l0), (1, .int l1), (2, .int l2)]) (st2 := [.int v3, .ref v1]) hm dX4_fits_138 (by rw [← e_v3]; rfl) ?_
    clear e_v3
    refine mx_S.pu (pc2 := 140) (lv2 := [(3, .int s0), (0, .ref l0), (1, .int l1), (2, .int l2)]) (st2 := [.int l2, .int v3, .ref v1]) hm dX4_fits_139 rfl ?_
    replace hf := xl_el hf; obtain ⟨v4, e_v4, hf⟩ := hf
    refine mx_S.pu (pc2 := 141) (lv2 := [(3, .int s0), (0, .ref l0), (1, .int l1), (2, .int l2)]) (st2 := [.int v4, .ref v1]) hm dX4_fits_140 (by rw [← e_v4]; rfl) ?_
    clear e_v4
    refine sx_bi (v := 100) hm dX4_fits_141 (by decide) ?_
    replace hf := xl_el hf; obtain ⟨v5, e_v5, hf⟩ := hf
    refine mx_S.pu (pc2 := 144) (lv2 := [(3, .int s0), (0, .ref l0), (1, .int l1), (2, .int l2)]) (st2 := [.int v5, .ref v1]) hm dX4_fits_143 (by rw [← e_v5]; rfl) ?_
    clear e_v5
    replace hf := mx_sv_el hf; obtain ⟨v6, e_v6, hf⟩ := hf
    refine sx_bld hm dX4_fits_144 e_v6 ?_
    clear e_v6
    rcases mx_if_el hf with ⟨c7, hf⟩ | ⟨c7, hf⟩
    · refine sb_if_eq hm dX4_fits_145 (tgt := 152) rfl (fun _ => ?_) (fun z => absurd c7 z)
      refine sx_ic (v := 0) hm dX4_fits_152 (by decide) ?_
      cases hf
      exact sx_ire hm dX4_fits_153 rfl (by decide)
    · refine sb_if_eq hm dX4_fits_145 (tgt := 152) rfl (fun z => absurd z c7) (fun _ => ?_)
      refine sx_ic (v := 1) hm dX4_fits_148 (by decide) ?_
      refine mx_S.pu (pc2 := 153) (lv2 := [(3, .int s0), (0, .ref l0), (1, .int l1), (2, .int l2)]) (st2 := [.int 1]) hm dX4_fits_149 rfl ?_
      cases hf
      exact sx_ire hm dX4_fits_153 rfl (by decide)
set_option maxHeartbeats 4000000 in
theorem j_X4_fits_122_ok (X : Nat × (Nat → Int32)) {F L : Nat} (hF : 0 ≤ F) (hL : 0 ≤ L) (nn : Nat) (l0 : Nat) (l1 : Int32) (l2 : Int32) (h : mx_H) {r : (Int32 × mx_H)} (hf : j_X4_fits_122 nn l0 l1 l2 h = some r) : mx_S X F L 139 122 [(0, .ref l0), (1, .int l1), (2, .int l2)] [] h 0 0 (some (.int r.1), r.2, 0, 0) := by
  have hm : mx_mt 139 = some (yX4_fits, cX4_fits, 4, (some .boolean)) := mt_X4_fits
  unfold j_X4_fits_122 at hf
  refine sx_ic (v := 0) hm dX4_fits_122 (by decide) ?_
  exact j_X4_fits_123_ok X hF hL nn l0 l1 l2 0 h hf
set_option maxHeartbeats 4000000 in
theorem j_X4_fits_71_ok (X : Nat × (Nat → Int32)) {F L : Nat} (hF : 0 ≤ F) (hL : 0 ≤ L) (nn : Nat) (l0 : Nat) (l1 : Int32) (l2 : Int32) (h : mx_H) {r : (Int32 × mx_H)} (hf : j_X4_fits_71 nn l0 l1 l2 h = some r) : mx_S X F L 139 71 [(0, .ref l0), (1, .int l1), (2, .int l2)] [] h 0 0 (some (.int r.1), r.2, 0, 0) := by
  have hm : mx_mt 139 = some (yX4_fits, cX4_fits, 4, (some .boolean)) := mt_X4_fits
  unfold j_X4_fits_71 at hf
  refine mx_S.pu (pc2 := 72) (lv2 := [(0, .ref l0), (1, .int l1), (2, .int l2)]) (st2 := [.int l2]) hm dX4_fits_71 rfl ?_
  rcases mx_if_el hf with ⟨c15, hf⟩ | ⟨c15, hf⟩
  · refine sb_if_ne hm dX4_fits_72 (tgt := 94) rfl (fun _ => ?_) (fun z => absurd c15 z)
    refine mx_S.pu (pc2 := 95) (lv2 := [(0, .ref l0), (1, .int l1), (2, .int l2)]) (st2 := [.int l1]) hm dX4_fits_94 rfl ?_
    refine sx_bi (v := 100) hm dX4_fits_95 (by decide) ?_
    rcases mx_if_el hf with ⟨c12, hf⟩ | ⟨c12, hf⟩
    · refine sb_ic_lt hm dX4_fits_97 (tgt := 122) rfl (fun _ => ?_) (fun z => absurd c12 z)
      exact j_X4_fits_122_ok X hF hL nn l0 l1 l2 h hf
    · refine sb_ic_lt hm dX4_fits_97 (tgt := 122) rfl (fun z => absurd z c12) (fun _ => ?_)
      refine mx_S.pu (pc2 := 101) (lv2 := [(0, .ref l0), (1, .int l1), (2, .int l2)]) (st2 := [.int l1]) hm dX4_fits_100 rfl ?_
      refine sx_bi (v := 116) hm dX4_fits_101 (by decide) ?_
      rcases mx_if_el hf with ⟨c11, hf⟩ | ⟨c11, hf⟩
      · refine sb_ic_ge hm dX4_fits_103 (tgt := 122) rfl (fun _ => ?_) (fun z => absurd c11 z)
        exact j_X4_fits_122_ok X hF hL nn l0 l1 l2 h hf
      · refine sb_ic_ge hm dX4_fits_103 (tgt := 122) rfl (fun z => absurd z c11) (fun _ => ?_)
        refine mx_S.pu (pc2 := 107) (lv2 := [(0, .ref l0), (1, .int l1), (2, .int l2)]) (st2 := [.int l2]) hm dX4_fits_106 rfl ?_
        refine sx_bi (v := 100) hm dX4_fits_107 (by decide) ?_
        rcases mx_if_el hf with ⟨c10, hf⟩ | ⟨c10, hf⟩
        · refine sb_ic_lt hm dX4_fits_109 (tgt := 122) rfl (fun _ => ?_) (fun z => absurd c10 z)
          exact j_X4_fits_122_ok X hF hL nn l0 l1 l2 h hf
        · refine sb_ic_lt hm dX4_fits_109 (tgt := 122) rfl (fun z => absurd z c10) (fun _ => ?_)
          refine mx_S.pu (pc2 := 113) (lv2 := [(0, .ref l0), (1, .int l1), (2, .int l2)]) (st2 := [.int l2]) hm dX4_fits_112 rfl ?_
          refine sx_bi (v := 116) hm dX4_fits_113 (by decide) ?_
          rcases mx_if_el hf with ⟨c9, hf⟩ | ⟨c9, hf⟩
          · refine sb_ic_ge hm dX4_fits_115 (tgt := 122) rfl (fun _ => ?_) (fun z => absurd c9 z)
            exact j_X4_fits_122_ok X hF hL nn l0 l1 l2 h hf
          · refine sb_ic_ge hm dX4_fits_115 (tgt := 122) rfl (fun z => absurd z c9) (fun _ => ?_)
            refine sx_ic (v := 1) hm dX4_fits_118 (by decide) ?_
            refine mx_S.pu (pc2 := 123) (lv2 := [(0, .ref l0), (1, .int l1), (2, .int l2)]) (st2 := [.int 1]) hm dX4_fits_119 rfl ?_
            exact j_X4_fits_123_ok X hF hL nn l0 l1 l2 1 h hf
  · refine sb_if_ne hm dX4_fits_72 (tgt := 94) rfl (fun z => absurd z c15) (fun _ => ?_)
    refine mx_S.pu (pc2 := 76) (lv2 := [(0, .ref l0), (1, .int l1), (2, .int l2)]) (st2 := [.int l1]) hm dX4_fits_75 rfl ?_
    refine sx_bi (v := 100) hm dX4_fits_76 (by decide) ?_
    rcases mx_if_el hf with ⟨c14, hf⟩ | ⟨c14, hf⟩
    · refine sb_ic_lt hm dX4_fits_78 (tgt := 92) rfl (fun _ => ?_) (fun z => absurd c14 z)
      refine sx_ic (v := 0) hm dX4_fits_92 (by decide) ?_
      cases hf
      exact sx_ire hm dX4_fits_93 rfl (by decide)
    · refine sb_ic_lt hm dX4_fits_78 (tgt := 92) rfl (fun z => absurd z c14) (fun _ => ?_)
      refine mx_S.pu (pc2 := 82) (lv2 := [(0, .ref l0), (1, .int l1), (2, .int l2)]) (st2 := [.int l1]) hm dX4_fits_81 rfl ?_
      refine sx_si (v := 200) hm dX4_fits_82 (by decide) ?_
      rcases mx_if_el hf with ⟨c13, hf⟩ | ⟨c13, hf⟩
      · refine sb_ic_gt hm dX4_fits_85 (tgt := 92) rfl (fun _ => ?_) (fun z => absurd c13 z)
        refine sx_ic (v := 0) hm dX4_fits_92 (by decide) ?_
        cases hf
        exact sx_ire hm dX4_fits_93 rfl (by decide)
      · refine sb_ic_gt hm dX4_fits_85 (tgt := 92) rfl (fun z => absurd z c13) (fun _ => ?_)
        refine sx_ic (v := 1) hm dX4_fits_88 (by decide) ?_
        refine mx_S.pu (pc2 := 93) (lv2 := [(0, .ref l0), (1, .int l1), (2, .int l2)]) (st2 := [.int 1]) hm dX4_fits_89 rfl ?_
        cases hf
        exact sx_ire hm dX4_fits_93 rfl (by decide)
set_option maxHeartbeats 4000000 in
theorem f_X4_fits_ok (X : Nat × (Nat → Int32)) {F L : Nat} (hF : 0 ≤ F) (hL : 0 ≤ L) (nn : Nat) (a0 : Nat) (a1 : Int32) (a2 : Int32) (h : mx_H) {r : (Int32 × mx_H)} (hf : f_X4_fits nn a0 a1 a2 h = some r) : mx_R X F L 139 [.ref a0, .int a1, .int a2] h (some (.int r.1), r.2, 0, 0) := by
  have hm : mx_mt 139 = some (yX4_fits, cX4_fits, 4, (some .boolean)) := mt_X4_fits
  show mx_S X F L 139 0 [(0, .ref a0), (1, .int a1), (2, .int a2)] [] h 0 0 (some (.int r.1), r.2, 0, 0)
  unfold f_X4_fits at hf
  refine mx_S.pu (pc2 := 1) (lv2 := [(0, .ref a0), (1, .int a1), (2, .int a2)]) (st2 := [.int a1]) hm dX4_fits_0 rfl ?_
  refine mx_S.pu (pc2 := 2) (lv2 := [(0, .ref a0), (1, .int a1), (2, .int a2)]) (st2 := [.int a2, .int a1]) hm dX4_fits_1 rfl ?_
  rcases mx_if_el hf with ⟨c28, hf⟩ | ⟨c28, hf⟩
  · refine sb_ic_ne hm dX4_fits_2 (tgt := 7) rfl (fun _ => ?_) (fun z => absurd c28 z)
    refine mx_S.pu (pc2 := 8) (lv2 := [(0, .ref a0), (1, .int a1), (2, .int a2)]) (st2 := [.int a1]) hm dX4_fits_7 rfl ?_
    refine sx_si (v := 300) hm dX4_fits_8 (by decide) ?_
    rcases mx_if_el hf with ⟨c27, hf⟩ | ⟨c27, hf⟩
    · refine sb_ic_ne hm dX4_fits_11 (tgt := 31) rfl (fun _ => ?_) (fun z => absurd c27 z)
      refine mx_S.pu (pc2 := 32) (lv2 := [(0, .ref a0), (1, .int a1), (2, .int a2)]) (st2 := [.int a1]) hm dX4_fits_31 rfl ?_
      rcases mx_if_el hf with ⟨c24, hf⟩ | ⟨c24, hf⟩
      · refine sb_if_lt hm dX4_fits_32 (tgt := 71) rfl (fun _ => ?_) (fun z => absurd c24 z)
        exact j_X4_fits_71_ok X hF hL nn a0 a1 a2 h hf
      · refine sb_if_lt hm dX4_fits_32 (tgt := 71) rfl (fun z => absurd z c24) (fun _ => ?_)
        refine mx_S.pu (pc2 := 36) (lv2 := [(0, .ref a0), (1, .int a1), (2, .int a2)]) (st2 := [.int a1]) hm dX4_fits_35 rfl ?_
        refine sx_bi (v := 16) hm dX4_fits_36 (by decide) ?_
        rcases mx_if_el hf with ⟨c23, hf⟩ | ⟨c23, hf⟩
        · refine sb_ic_ge hm dX4_fits_38 (tgt := 71) rfl (fun _ => ?_) (fun z => absurd c23 z)
          exact j_X4_fits_71_ok X hF hL nn a0 a1 a2 h hf
        · refine sb_ic_ge hm dX4_fits_38 (tgt := 71) rfl (fun z => absurd z c23) (fun _ => ?_)
          refine mx_S.pu (pc2 := 42) (lv2 := [(0, .ref a0), (1, .int a1), (2, .int a2)]) (st2 := [.int a2]) hm dX4_fits_41 rfl ?_
          rcases mx_if_el hf with ⟨c22, hf⟩ | ⟨c22, hf⟩
          · refine sb_if_lt hm dX4_fits_42 (tgt := 69) rfl (fun _ => ?_) (fun z => absurd c22 z)
            refine sx_ic (v := 0) hm dX4_fits_69 (by decide) ?_
            cases hf
            exact sx_ire hm dX4_fits_70 rfl (by decide)
          · refine sb_if_lt hm dX4_fits_42 (tgt := 69) rfl (fun z => absurd z c22) (fun _ => ?_)
            refine mx_S.pu (pc2 := 46) (lv2 := [(0, .ref a0), (1, .int a1), (2, .int a2)]) (st2 := [.int a2]) hm dX4_fits_45 rfl ?_
            refine sx_bi (v := 16) hm dX4_fits_46 (by decide) ?_
            rcases mx_if_el hf with ⟨c21, hf⟩ | ⟨c21, hf⟩
            · refine sb_ic_ge hm dX4_fits_48 (tgt := 69) rfl (fun _ => ?_) (fun z => absurd c21 z)
              refine sx_ic (v := 0) hm dX4_fits_69 (by decide) ?_
              cases hf
              exact sx_ire hm dX4_fits_70 rfl (by decide)
            · refine sb_ic_ge hm dX4_fits_48 (tgt := 69) rfl (fun z => absurd z c21) (fun _ => ?_)
              refine mx_S.pu (pc2 := 52) (lv2 := [(0, .ref a0), (1, .int a1), (2, .int a2)]) (st2 := [.ref a0]) hm dX4_fits_51 rfl ?_
              replace hf := mx_sv_el hf; obtain ⟨v16, e_v16, hf⟩ := hf
              refine sx_get hm dX4_fits_52 rs_RX4_15 (xgr_el e_v16) ?_
              clear e_v16
              refine mx_S.pu (pc2 := 56) (lv2 := [(0, .ref a0), (1, .int a1), (2, .int a2)]) (st2 := [.int a1, .ref v16]) hm dX4_fits_55 rfl ?_
              refine sx_bi (v := 16) hm dX4_fits_56 (by decide) ?_
              replace hf := xl_el hf; obtain ⟨v17, e_v17, hf⟩ := hf
              refine mx_S.pu (pc2 := 59) (lv2 := [(0, .ref a0), (1, .int a1), (2, .int a2)]) (st2 := [.int v17, .ref v16]) hm dX4_fits_58 (by rw [← e_v17]; rfl) ?_
              clear e_v17
              refine mx_S.pu (pc2 := 60) (lv2 := [(0, .ref a0), (1, .int a1), (2, .int a2)]) (st2 := [.int a2, .int v17, .ref v16]) hm dX4_fits_59 rfl ?_
              replace hf := xl_el hf; obtain ⟨v18, e_v18, hf⟩ := hf
              refine mx_S.pu (pc2 := 61) (lv2 := [(0, .ref a0), (1, .int a1), (2, .int a2)]) (st2 := [.int v18, .ref v16]) hm dX4_fits_60 (by rw [← e_v18]; rfl) ?_
              clear e_v18
              replace hf := mx_sv_el hf; obtain ⟨v19, e_v19, hf⟩ := hf
              refine sx_bld hm dX4_fits_61 e_v19 ?_
              clear e_v19
              rcases mx_if_el hf with ⟨c20, hf⟩ | ⟨c20, hf⟩
              · refine sb_if_eq hm dX4_fits_62 (tgt := 69) rfl (fun _ => ?_) (fun z => absurd c20 z)
                refine sx_ic (v := 0) hm dX4_fits_69 (by decide) ?_
                cases hf
                exact sx_ire hm dX4_fits_70 rfl (by decide)
              · refine sb_if_eq hm dX4_fits_62 (tgt := 69) rfl (fun z => absurd z c20) (fun _ => ?_)
                refine sx_ic (v := 1) hm dX4_fits_65 (by decide) ?_
                refine mx_S.pu (pc2 := 70) (lv2 := [(0, .ref a0), (1, .int a1), (2, .int a2)]) (st2 := [.int 1]) hm dX4_fits_66 rfl ?_
                cases hf
                exact sx_ire hm dX4_fits_70 rfl (by decide)
    · refine sb_ic_ne hm dX4_fits_11 (tgt := 31) rfl (fun z => absurd z c27) (fun _ => ?_)
      refine mx_S.pu (pc2 := 15) (lv2 := [(0, .ref a0), (1, .int a1), (2, .int a2)]) (st2 := [.int a2]) hm dX4_fits_14 rfl ?_
      rcases mx_if_el hf with ⟨c26, hf⟩ | ⟨c26, hf⟩
      · refine sb_if_lt hm dX4_fits_15 (tgt := 29) rfl (fun _ => ?_) (fun z => absurd c26 z)
        refine sx_ic (v := 0) hm dX4_fits_29 (by decide) ?_
        cases hf
        exact sx_ire hm dX4_fits_30 rfl (by decide)
      · refine sb_if_lt hm dX4_fits_15 (tgt := 29) rfl (fun z => absurd z c26) (fun _ => ?_)
        refine mx_S.pu (pc2 := 19) (lv2 := [(0, .ref a0), (1, .int a1), (2, .int a2)]) (st2 := [.int a2]) hm dX4_fits_18 rfl ?_
        refine sx_si (v := 200) hm dX4_fits_19 (by decide) ?_
        rcases mx_if_el hf with ⟨c25, hf⟩ | ⟨c25, hf⟩
        · refine sb_ic_gt hm dX4_fits_22 (tgt := 29) rfl (fun _ => ?_) (fun z => absurd c25 z)
          refine sx_ic (v := 0) hm dX4_fits_29 (by decide) ?_
          cases hf
          exact sx_ire hm dX4_fits_30 rfl (by decide)
        · refine sb_ic_gt hm dX4_fits_22 (tgt := 29) rfl (fun z => absurd z c25) (fun _ => ?_)
          refine sx_ic (v := 1) hm dX4_fits_25 (by decide) ?_
          refine mx_S.pu (pc2 := 30) (lv2 := [(0, .ref a0), (1, .int a1), (2, .int a2)]) (st2 := [.int 1]) hm dX4_fits_26 rfl ?_
          cases hf
          exact sx_ire hm dX4_fits_30 rfl (by decide)
  · refine sb_ic_ne hm dX4_fits_2 (tgt := 7) rfl (fun z => absurd z c28) (fun _ => ?_)
    refine sx_ic (v := 1) hm dX4_fits_5 (by decide) ?_
    cases hf
    exact sx_ire hm dX4_fits_6 rfl (by decide)
set_option maxHeartbeats 4000000 in
theorem f_X4_oneFits_ok (X : Nat × (Nat → Int32)) {F L : Nat} (hF : 1 ≤ F) (hL : 23 ≤ L) (nn : Nat) (a0 : Nat) (a1 : Int32) (a2 : Int32) (h : mx_H) {r : (Int32 × mx_H)} (hf : f_X4_oneFits nn a0 a1 a2 h = some r) : mx_R X F L 140 [.ref a0, .int a1, .int a2] h (some (.int r.1), r.2, 0, 0) := by
  have hm : mx_mt 140 = some (yX4_oneFits, cX4_oneFits, 3, (some .boolean)) := mt_X4_oneFits
  show mx_S X F L 140 0 [(0, .ref a0), (1, .int a1), (2, .int a2)] [] h 0 0 (some (.int r.1), r.2, 0, 0)
  unfold f_X4_oneFits at hf
  refine mx_S.pu (pc2 := 1) (lv2 := [(0, .ref a0), (1, .int a1), (2, .int a2)]) (st2 := [.ref a0]) hm dX4_oneFits_0 rfl ?_
  refine mx_S.pu (pc2 := 2) (lv2 := [(0, .ref a0), (1, .int a1), (2, .int a2)]) (st2 := [.int a1, .ref a0]) hm dX4_oneFits_1 rfl ?_
  refine mx_S.pu (pc2 := 3) (lv2 := [(0, .ref a0), (1, .int a1), (2, .int a2)]) (st2 := [.int a2, .int a1, .ref a0]) hm dX4_oneFits_2 rfl ?_
  replace hf := mx_gd_el hf; obtain ⟨c1, hf⟩ := hf
  replace hf := mx_sv_el hf; obtain ⟨u2, e_u2, hf⟩ := hf
  refine sx_cv hm dX4_oneFits_3 rs_RX4_35 mt_X4_fits [.int a1, .int a2] [] (b := a0) (ci := 4) rfl rfl rfl c1 (Nat.le_of_ble_eq_true rfl) (Nat.le_of_ble_eq_true rfl) (by omega) (by omega) (f_X4_fits_ok X (by omega) (by omega) nn a0 a1 a2 h e_u2) ?_
  clear e_u2
  show mx_S X F L 140 6 [(0, .ref a0), (1, .int a1), (2, .int a2)] [.int u2.1] u2.2 0 0 (some (.int r.1), r.2, 0, 0)
  rcases mx_if_el hf with ⟨c6, hf⟩ | ⟨c6, hf⟩
  · refine sb_if_ne hm dX4_oneFits_6 (tgt := 18) rfl (fun _ => ?_) (fun z => absurd c6 z)
    refine sx_ic (v := 1) hm dX4_oneFits_18 (by decide) ?_
    refine mx_S.pu (pc2 := 23) (lv2 := [(0, .ref a0), (1, .int a1), (2, .int a2)]) (st2 := [.int 1]) hm dX4_oneFits_19 rfl ?_
    cases hf
    exact sx_ire hm dX4_oneFits_23 rfl (by decide)
  · refine sb_if_ne hm dX4_oneFits_6 (tgt := 18) rfl (fun z => absurd z c6) (fun _ => ?_)
    refine mx_S.pu (pc2 := 10) (lv2 := [(0, .ref a0), (1, .int a1), (2, .int a2)]) (st2 := [.ref a0]) hm dX4_oneFits_9 rfl ?_
    refine mx_S.pu (pc2 := 11) (lv2 := [(0, .ref a0), (1, .int a1), (2, .int a2)]) (st2 := [.int a2, .ref a0]) hm dX4_oneFits_10 rfl ?_
    refine mx_S.pu (pc2 := 12) (lv2 := [(0, .ref a0), (1, .int a1), (2, .int a2)]) (st2 := [.int a1, .int a2, .ref a0]) hm dX4_oneFits_11 rfl ?_
    replace hf := mx_gd_el hf; obtain ⟨c3, hf⟩ := hf
    replace hf := mx_sv_el hf; obtain ⟨u4, e_u4, hf⟩ := hf
    refine sx_cv hm dX4_oneFits_12 rs_RX4_35 mt_X4_fits [.int a2, .int a1] [] (b := a0) (ci := 4) rfl rfl rfl c3 (Nat.le_of_ble_eq_true rfl) (Nat.le_of_ble_eq_true rfl) (by omega) (by omega) (f_X4_fits_ok X (by omega) (by omega) nn a0 a2 a1 u2.2 e_u4) ?_
    clear e_u4
    show mx_S X F L 140 15 [(0, .ref a0), (1, .int a1), (2, .int a2)] [.int u4.1] u4.2 0 0 (some (.int r.1), r.2, 0, 0)
    rcases mx_if_el hf with ⟨c5, hf⟩ | ⟨c5, hf⟩
    · refine sb_if_eq hm dX4_oneFits_15 (tgt := 22) rfl (fun _ => ?_) (fun z => absurd c5 z)
      refine sx_ic (v := 0) hm dX4_oneFits_22 (by decide) ?_
      cases hf
      exact sx_ire hm dX4_oneFits_23 rfl (by decide)
    · refine sb_if_eq hm dX4_oneFits_15 (tgt := 22) rfl (fun z => absurd z c5) (fun _ => ?_)
      refine sx_ic (v := 1) hm dX4_oneFits_18 (by decide) ?_
      refine mx_S.pu (pc2 := 23) (lv2 := [(0, .ref a0), (1, .int a1), (2, .int a2)]) (st2 := [.int 1]) hm dX4_oneFits_19 rfl ?_
      cases hf
      exact sx_ire hm dX4_oneFits_23 rfl (by decide)
set_option maxHeartbeats 4000000 in
theorem j_X9_level_249_ok (X : Nat × (Nat → Int32)) {F L : Nat} (hF : 0 ≤ F) (hL : 0 ≤ L) (nn : Nat) (h : mx_H) {r : (Int32 × mx_H)} (hf : j_X9_level_249 nn h = some r) : mx_S X F L 267 249 [] [] h 0 0 (some (.int r.1), r.2, 0, 0) := by
  have hm : mx_mt 267 = some (yX9_level, cX9_level, 1, (some .int)) := mt_X9_level
  unfold j_X9_level_249 at hf
  refine sx_ic (v := 0) hm dX9_level_249 (by decide) ?_
  cases hf
  exact sx_ire hm dX9_level_250 rfl rfl
set_option maxHeartbeats 4000000 in
theorem j_X9_level_246_ok (X : Nat × (Nat → Int32)) {F L : Nat} (hF : 0 ≤ F) (hL : 0 ≤ L) (nn : Nat) (h : mx_H) {r : (Int32 × mx_H)} (hf : j_X9_level_246 nn h = some r) : mx_S X F L 267 246 [] [] h 0 0 (some (.int r.1), r.2, 0, 0) := by
  have hm : mx_mt 267 = some (yX9_level, cX9_level, 1, (some .int)) := mt_X9_level
  unfold j_X9_level_246 at hf
  refine sx_bi (v := 10) hm dX9_level_246 (by decide) ?_
  cases hf
  exact sx_ire hm dX9_level_248 rfl rfl
set_option maxHeartbeats 4000000 in
theorem j_X9_level_243_ok (X : Nat × (Nat → Int32)) {F L : Nat} (hF : 0 ≤ F) (hL : 0 ≤ L) (nn : Nat) (h : mx_H) {r : (Int32 × mx_H)} (hf : j_X9_level_243 nn h = some r) : mx_S X F L 267 243 [] [] h 0 0 (some (.int r.1), r.2, 0, 0) := by
  have hm : mx_mt 267 = some (yX9_level, cX9_level, 1, (some .int)) := mt_X9_level
  unfold j_X9_level_243 at hf
  refine sx_bi (v := 9) hm dX9_level_243 (by decide) ?_
  cases hf
  exact sx_ire hm dX9_level_245 rfl rfl
set_option maxHeartbeats 4000000 in
theorem j_X9_level_240_ok (X : Nat × (Nat → Int32)) {F L : Nat} (hF : 0 ≤ F) (hL : 0 ≤ L) (nn : Nat) (h : mx_H) {r : (Int32 × mx_H)} (hf : j_X9_level_240 nn h = some r) : mx_S X F L 267 240 [] [] h 0 0 (some (.int r.1), r.2, 0, 0) := by
  have hm : mx_mt 267 = some (yX9_level, cX9_level, 1, (some .int)) := mt_X9_level
  unfold j_X9_level_240 at hf
  refine sx_bi (v := 8) hm dX9_level_240 (by decide) ?_
  cases hf
  exact sx_ire hm dX9_level_242 rfl rfl
set_option maxHeartbeats 4000000 in
theorem j_X9_level_237_ok (X : Nat × (Nat → Int32)) {F L : Nat} (hF : 0 ≤ F) (hL : 0 ≤ L) (nn : Nat) (h : mx_H) {r : (Int32 × mx_H)} (hf : j_X9_level_237 nn h = some r) : mx_S X F L 267 237 [] [] h 0 0 (some (.int r.1), r.2, 0, 0) := by
  have hm : mx_mt 267 = some (yX9_level, cX9_level, 1, (some .int)) := mt_X9_level
  unfold j_X9_level_237 at hf
  refine sx_bi (v := 7) hm dX9_level_237 (by decide) ?_
  cases hf
  exact sx_ire hm dX9_level_239 rfl rfl
set_option maxHeartbeats 4000000 in
theorem j_X9_level_234_ok (X : Nat × (Nat → Int32)) {F L : Nat} (hF : 0 ≤ F) (hL : 0 ≤ L) (nn : Nat) (h : mx_H) {r : (Int32 × mx_H)} (hf : j_X9_level_234 nn h = some r) : mx_S X F L 267 234 [] [] h 0 0 (some (.int r.1), r.2, 0, 0) := by
  have hm : mx_mt 267 = some (yX9_level, cX9_level, 1, (some .int)) := mt_X9_level
  unfold j_X9_level_234 at hf
  refine sx_bi (v := 6) hm dX9_level_234 (by decide) ?_
  cases hf
  exact sx_ire hm dX9_level_236 rfl rfl
set_option maxHeartbeats 4000000 in
theorem f_X9_level_ok (X : Nat × (Nat → Int32)) {F L : Nat} (hF : 0 ≤ F) (hL : 0 ≤ L) (nn : Nat) (a0 : Int32) (h : mx_H) {r : (Int32 × mx_H)} (hf : f_X9_level nn a0 h = some r) : mx_R X F L 267 [.int a0] h (some (.int r.1), r.2, 0, 0) := by
  have hm : mx_mt 267 = some (yX9_level, cX9_level, 1, (some .int)) := mt_X9_level
  show mx_S X F L 267 0 [(0, .int a0)] [] h 0 0 (some (.int r.1), r.2, 0, 0)
  unfold f_X9_level at hf
  refine mx_S.pu (pc2 := 1) (lv2 := [(0, .int a0)]) (st2 := [.int a0]) hm dX9_level_0 rfl ?_
  rcases mx_if_el hf with ⟨n_0, hf⟩ | ⟨n_0, hf⟩
  · refine sx_tin hm dX9_level_1 (by rw [n_0]; decide) (by rw [n_0]; decide) (off := 236) (by rw [n_0]; rfl) (tgt := 237) rfl ?_
    clear n_0
    refine mx_S.ext [] (mx_sub_pos [] rfl (show ([0] : List Nat).Nodup by decide)) ?_
    exact j_X9_level_237_ok X hF hL nn h hf
  · rcases mx_if_el hf with ⟨n_1, hf⟩ | ⟨n_1, hf⟩
    · refine sx_tin hm dX9_level_1 (by rw [n_1]; decide) (by rw [n_1]; decide) (off := 233) (by rw [n_1]; rfl) (tgt := 234) rfl ?_
      clear n_0 n_1
      refine mx_S.ext [] (mx_sub_pos [] rfl (show ([0] : List Nat).Nodup by decide)) ?_
      exact j_X9_level_234_ok X hF hL nn h hf
    · rcases mx_if_el hf with ⟨n_2, hf⟩ | ⟨n_2, hf⟩
      · refine sx_tin hm dX9_level_1 (by rw [n_2]; decide) (by rw [n_2]; decide) (off := 233) (by rw [n_2]; rfl) (tgt := 234) rfl ?_
        clear n_0 n_1 n_2
        refine mx_S.ext [] (mx_sub_pos [] rfl (show ([0] : List Nat).Nodup by decide)) ?_
        exact j_X9_level_234_ok X hF hL nn h hf
      · rcases mx_if_el hf with ⟨n_3, hf⟩ | ⟨n_3, hf⟩
        · refine sx_tin hm dX9_level_1 (by rw [n_3]; decide) (by rw [n_3]; decide) (off := 236) (by rw [n_3]; rfl) (tgt := 237) rfl ?_
          clear n_0 n_1 n_2 n_3
          refine mx_S.ext [] (mx_sub_pos [] rfl (show ([0] : List Nat).Nodup by decide)) ?_
          exact j_X9_level_237_ok X hF hL nn h hf
        · rcases mx_if_el hf with ⟨n_4, hf⟩ | ⟨n_4, hf⟩
          · refine sx_tin hm dX9_level_1 (by rw [n_4]; decide) (by rw [n_4]; decide) (off := 236) (by rw [n_4]; rfl) (tgt := 237) rfl ?_
            clear n_0 n_1 n_2 n_3 n_4
            refine mx_S.ext [] (mx_sub_pos [] rfl (show ([0] : List Nat).Nodup by decide)) ?_
            exact j_X9_level_237_ok X hF hL nn h hf
          · rcases mx_if_el hf with ⟨n_5, hf⟩ | ⟨n_5, hf⟩
            · refine sx_tin hm dX9_level_1 (by rw [n_5]; decide) (by rw [n_5]; decide) (off := 236) (by rw [n_5]; rfl) (tgt := 237) rfl ?_
              clear n_0 n_1 n_2 n_3 n_4 n_5
              refine mx_S.ext [] (mx_sub_pos [] rfl (show ([0] : List Nat).Nodup by decide)) ?_
              exact j_X9_level_237_ok X hF hL nn h hf
            · rcases mx_if_el hf with ⟨n_6, hf⟩ | ⟨n_6, hf⟩
              · refine sx_tin hm dX9_level_1 (by rw [n_6]; decide) (by rw [n_6]; decide) (off := 236) (by rw [n_6]; rfl) (tgt := 237) rfl ?_
                clear n_0 n_1 n_2 n_3 n_4 n_5 n_6
                refine mx_S.ext [] (mx_sub_pos [] rfl (show ([0] : List Nat).Nodup by decide)) ?_
                exact j_X9_level_237_ok X hF hL nn h hf
              · rcases mx_if_el hf with ⟨n_7, hf⟩ | ⟨n_7, hf⟩
                · refine sx_tin hm dX9_level_1 (by rw [n_7]; decide) (by rw [n_7]; decide) (off := 239) (by rw [n_7]; rfl) (tgt := 240) rfl ?_
                  clear n_0 n_1 n_2 n_3 n_4 n_5 n_6 n_7
                  refine mx_S.ext [] (mx_sub_pos [] rfl (show ([0] : List Nat).Nodup by decide)) ?_
                  exact j_X9_level_240_ok X hF hL nn h hf
                · rcases mx_if_el hf with ⟨n_8, hf⟩ | ⟨n_8, hf⟩
                  · refine sx_tin hm dX9_level_1 (by rw [n_8]; decide) (by rw [n_8]; decide) (off := 239) (by rw [n_8]; rfl) (tgt := 240) rfl ?_
                    clear n_0 n_1 n_2 n_3 n_4 n_5 n_6 n_7 n_8
                    refine mx_S.ext [] (mx_sub_pos [] rfl (show ([0] : List Nat).Nodup by decide)) ?_
                    exact j_X9_level_240_ok X hF hL nn h hf
                  · rcases mx_if_el hf with ⟨n_9, hf⟩ | ⟨n_9, hf⟩
                    · refine sx_tin hm dX9_level_1 (by rw [n_9]; decide) (by rw [n_9]; decide) (off := 239) (by rw [n_9]; rfl) (tgt := 240) rfl ?_
                      clear n_0 n_1 n_2 n_3 n_4 n_5 n_6 n_7 n_8 n_9
                      refine mx_S.ext [] (mx_sub_pos [] rfl (show ([0] : List Nat).Nodup by decide)) ?_
                      exact j_X9_level_240_ok X hF hL nn h hf
                    · rcases mx_if_el hf with ⟨n_10, hf⟩ | ⟨n_10, hf⟩
                      · refine sx_tin hm dX9_level_1 (by rw [n_10]; decide) (by rw [n_10]; decide) (off := 242) (by rw [n_10]; rfl) (tgt := 243) rfl ?_
                        clear n_0 n_1 n_2 n_3 n_4 n_5 n_6 n_7 n_8 n_9 n_10
                        refine mx_S.ext [] (mx_sub_pos [] rfl (show ([0] : List Nat).Nodup by decide)) ?_
                        exact j_X9_level_243_ok X hF hL nn h hf
                      · rcases mx_if_el hf with ⟨n_11, hf⟩ | ⟨n_11, hf⟩
                        · refine sx_tin hm dX9_level_1 (by rw [n_11]; decide) (by rw [n_11]; decide) (off := 242) (by rw [n_11]; rfl) (tgt := 243) rfl ?_
                          clear n_0 n_1 n_2 n_3 n_4 n_5 n_6 n_7 n_8 n_9 n_10 n_11
                          refine mx_S.ext [] (mx_sub_pos [] rfl (show ([0] : List Nat).Nodup by decide)) ?_
                          exact j_X9_level_243_ok X hF hL nn h hf
                        · rcases mx_if_el hf with ⟨n_12, hf⟩ | ⟨n_12, hf⟩
                          · refine sx_tin hm dX9_level_1 (by rw [n_12]; decide) (by rw [n_12]; decide) (off := 245) (by rw [n_12]; rfl) (tgt := 246) rfl ?_
                            clear n_0 n_1 n_2 n_3 n_4 n_5 n_6 n_7 n_8 n_9 n_10 n_11 n_12
                            refine mx_S.ext [] (mx_sub_pos [] rfl (show ([0] : List Nat).Nodup by decide)) ?_
                            exact j_X9_level_246_ok X hF hL nn h hf
                          · rcases mx_if_el hf with ⟨n_13, hf⟩ | ⟨n_13, hf⟩
                            · refine sx_tin hm dX9_level_1 (by rw [n_13]; decide) (by rw [n_13]; decide) (off := 245) (by rw [n_13]; rfl) (tgt := 246) rfl ?_
                              clear n_0 n_1 n_2 n_3 n_4 n_5 n_6 n_7 n_8 n_9 n_10 n_11 n_12 n_13
                              refine mx_S.ext [] (mx_sub_pos [] rfl (show ([0] : List Nat).Nodup by decide)) ?_
                              exact j_X9_level_246_ok X hF hL nn h hf
                            · rcases mx_if_el hf with ⟨n_14, hf⟩ | ⟨n_14, hf⟩
                              · refine sx_tin hm dX9_level_1 (by rw [n_14]; decide) (by rw [n_14]; decide) (off := 245) (by rw [n_14]; rfl) (tgt := 246) rfl ?_
                                clear n_0 n_1 n_2 n_3 n_4 n_5 n_6 n_7 n_8 n_9 n_10 n_11 n_12 n_13 n_14
                                refine mx_S.ext [] (mx_sub_pos [] rfl (show ([0] : List Nat).Nodup by decide)) ?_
                                exact j_X9_level_246_ok X hF hL nn h hf
                              · rcases mx_if_el hf with ⟨n_15, hf⟩ | ⟨n_15, hf⟩
                                · refine sx_tin hm dX9_level_1 (by rw [n_15]; decide) (by rw [n_15]; decide) (off := 231) (by rw [n_15]; rfl) (tgt := 232) rfl ?_
                                  clear n_0 n_1 n_2 n_3 n_4 n_5 n_6 n_7 n_8 n_9 n_10 n_11 n_12 n_13 n_14 n_15
                                  refine sx_ic (v := 5) hm dX9_level_232 (by decide) ?_
                                  cases hf
                                  exact sx_ire hm dX9_level_233 rfl rfl
                                · rcases mx_if_el hf with ⟨n_16, hf⟩ | ⟨n_16, hf⟩
                                  · refine sx_tin hm dX9_level_1 (by rw [n_16]; decide) (by rw [n_16]; decide) (off := 225) (by rw [n_16]; rfl) (tgt := 226) rfl ?_
                                    clear n_0 n_1 n_2 n_3 n_4 n_5 n_6 n_7 n_8 n_9 n_10 n_11 n_12 n_13 n_14 n_15 n_16
                                    refine sx_ic (v := 2) hm dX9_level_226 (by decide) ?_
                                    cases hf
                                    exact sx_ire hm dX9_level_227 rfl rfl
                                  · rcases mx_if_el hf with ⟨n_17, hf⟩ | ⟨n_17, hf⟩
                                    · refine sx_tin hm dX9_level_1 (by rw [n_17]; decide) (by rw [n_17]; decide) (off := 227) (by rw [n_17]; rfl) (tgt := 228) rfl ?_
                                      clear n_0 n_1 n_2 n_3 n_4 n_5 n_6 n_7 n_8 n_9 n_10 n_11 n_12 n_13 n_14 n_15 n_16 n_17
                                      refine sx_ic (v := 3) hm dX9_level_228 (by decide) ?_
                                      cases hf
                                      exact sx_ire hm dX9_level_229 rfl rfl
                                    · rcases mx_if_el hf with ⟨n_18, hf⟩ | ⟨n_18, hf⟩
                                      · refine sx_tin hm dX9_level_1 (by rw [n_18]; decide) (by rw [n_18]; decide) (off := 223) (by rw [n_18]; rfl) (tgt := 224) rfl ?_
                                        clear n_0 n_1 n_2 n_3 n_4 n_5 n_6 n_7 n_8 n_9 n_10 n_11 n_12 n_13 n_14 n_15 n_16 n_17 n_18
                                        refine sx_ic (v := 1) hm dX9_level_224 (by decide) ?_
                                        cases hf
                                        exact sx_ire hm dX9_level_225 rfl rfl
                                      · rcases mx_if_el hf with ⟨n_19, hf⟩ | ⟨n_19, hf⟩
                                        · refine sx_tin hm dX9_level_1 (by rw [n_19]; decide) (by rw [n_19]; decide) (off := 229) (by rw [n_19]; rfl) (tgt := 230) rfl ?_
                                          clear n_0 n_1 n_2 n_3 n_4 n_5 n_6 n_7 n_8 n_9 n_10 n_11 n_12 n_13 n_14 n_15 n_16 n_17 n_18 n_19
                                          refine sx_ic (v := 4) hm dX9_level_230 (by decide) ?_
                                          cases hf
                                          exact sx_ire hm dX9_level_231 rfl rfl
                                        · rcases (show (a0.toInt < 19 ∨ 70 < a0.toInt) ∨ a0.toInt = 19 ∨ a0.toInt = 20 ∨ a0.toInt = 21 ∨ a0.toInt = 22 ∨ a0.toInt = 23 ∨ a0.toInt = 24 ∨ a0.toInt = 25 ∨ a0.toInt = 26 ∨ a0.toInt = 27 ∨ a0.toInt = 28 ∨ a0.toInt = 29 ∨ a0.toInt = 30 ∨ a0.toInt = 31 ∨ a0.toInt = 32 ∨ a0.toInt = 33 ∨ a0.toInt = 34 ∨ a0.toInt = 35 ∨ a0.toInt = 36 ∨ a0.toInt = 37 ∨ a0.toInt = 38 ∨ a0.toInt = 39 ∨ a0.toInt = 40 ∨ a0.toInt = 41 ∨ a0.toInt = 42 ∨ a0.toInt = 43 ∨ a0.toInt = 44 ∨ a0.toInt = 45 ∨ a0.toInt = 46 ∨ a0.toInt = 47 ∨ a0.toInt = 48 ∨ a0.toInt = 49 ∨ a0.toInt = 50 ∨ a0.toInt = 51 ∨ a0.toInt = 52 ∨ a0.toInt = 53 ∨ a0.toInt = 54 ∨ a0.toInt = 55 ∨ a0.toInt = 56 ∨ a0.toInt = 57 ∨ a0.toInt = 58 ∨ a0.toInt = 59 ∨ a0.toInt = 60 ∨ a0.toInt = 61 ∨ a0.toInt = 62 ∨ a0.toInt = 63 ∨ a0.toInt = 64 ∨ a0.toInt = 65 ∨ a0.toInt = 66 ∨ a0.toInt = 67 ∨ a0.toInt = 68 ∨ a0.toInt = 69 ∨ a0.toInt = 70 by omega) with z0 | z0 | z0 | z0 | z0 | z0 | z0 | z0 | z0 | z0 | z0 | z0 | z0 | z0 | z0 | z0 | z0 | z0 | z0 | z0 | z0 | z0 | z0 | z0 | z0 | z0 | z0 | z0 | z0 | z0 | z0 | z0 | z0 | z0 | z0 | z0 | z0 | z0 | z0 | z0 | z0 | z0 | z0 | z0 | z0 | z0 | z0 | z0 | z0 | z0 | z0 | z0 | z0
                                          · refine sx_tout hm dX9_level_1 z0 (tgt := 249) rfl ?_
                                            refine mx_S.ext [] (mx_sub_pos [] rfl (show ([0] : List Nat).Nodup by decide)) ?_
                                            exact j_X9_level_249_ok X hF hL nn h hf
                                          · exact absurd (Int32.toInt_inj.mp (z0.trans (by decide : (19 : Int) = (19 : Int32).toInt))) n_0
                                          · refine sx_tin hm dX9_level_1 (by omega) (by omega) (off := 248) (by rw [z0]; rfl) (tgt := 249) rfl ?_
                                            refine mx_S.ext [] (mx_sub_pos [] rfl (show ([0] : List Nat).Nodup by decide)) ?_
                                            exact j_X9_level_249_ok X hF hL nn h hf
                                          · refine sx_tin hm dX9_level_1 (by omega) (by omega) (off := 248) (by rw [z0]; rfl) (tgt := 249) rfl ?_
                                            refine mx_S.ext [] (mx_sub_pos [] rfl (show ([0] : List Nat).Nodup by decide)) ?_
                                            exact j_X9_level_249_ok X hF hL nn h hf
                                          · refine sx_tin hm dX9_level_1 (by omega) (by omega) (off := 248) (by rw [z0]; rfl) (tgt := 249) rfl ?_
                                            refine mx_S.ext [] (mx_sub_pos [] rfl (show ([0] : List Nat).Nodup by decide)) ?_
                                            exact j_X9_level_249_ok X hF hL nn h hf
                                          · refine sx_tin hm dX9_level_1 (by omega) (by omega) (off := 248) (by rw [z0]; rfl) (tgt := 249) rfl ?_
                                            refine mx_S.ext [] (mx_sub_pos [] rfl (show ([0] : List Nat).Nodup by decide)) ?_
                                            exact j_X9_level_249_ok X hF hL nn h hf
                                          · refine sx_tin hm dX9_level_1 (by omega) (by omega) (off := 248) (by rw [z0]; rfl) (tgt := 249) rfl ?_
                                            refine mx_S.ext [] (mx_sub_pos [] rfl (show ([0] : List Nat).Nodup by decide)) ?_
                                            exact j_X9_level_249_ok X hF hL nn h hf
                                          · refine sx_tin hm dX9_level_1 (by omega) (by omega) (off := 248) (by rw [z0]; rfl) (tgt := 249) rfl ?_
                                            refine mx_S.ext [] (mx_sub_pos [] rfl (show ([0] : List Nat).Nodup by decide)) ?_
                                            exact j_X9_level_249_ok X hF hL nn h hf
                                          · refine sx_tin hm dX9_level_1 (by omega) (by omega) (off := 248) (by rw [z0]; rfl) (tgt := 249) rfl ?_
                                            refine mx_S.ext [] (mx_sub_pos [] rfl (show ([0] : List Nat).Nodup by decide)) ?_
                                            exact j_X9_level_249_ok X hF hL nn h hf
                                          · refine sx_tin hm dX9_level_1 (by omega) (by omega) (off := 248) (by rw [z0]; rfl) (tgt := 249) rfl ?_
                                            refine mx_S.ext [] (mx_sub_pos [] rfl (show ([0] : List Nat).Nodup by decide)) ?_
                                            exact j_X9_level_249_ok X hF hL nn h hf
                                          · refine sx_tin hm dX9_level_1 (by omega) (by omega) (off := 248) (by rw [z0]; rfl) (tgt := 249) rfl ?_
                                            refine mx_S.ext [] (mx_sub_pos [] rfl (show ([0] : List Nat).Nodup by decide)) ?_
                                            exact j_X9_level_249_ok X hF hL nn h hf
                                          · refine sx_tin hm dX9_level_1 (by omega) (by omega) (off := 248) (by rw [z0]; rfl) (tgt := 249) rfl ?_
                                            refine mx_S.ext [] (mx_sub_pos [] rfl (show ([0] : List Nat).Nodup by decide)) ?_
                                            exact j_X9_level_249_ok X hF hL nn h hf
                                          · refine sx_tin hm dX9_level_1 (by omega) (by omega) (off := 248) (by rw [z0]; rfl) (tgt := 249) rfl ?_
                                            refine mx_S.ext [] (mx_sub_pos [] rfl (show ([0] : List Nat).Nodup by decide)) ?_
                                            exact j_X9_level_249_ok X hF hL nn h hf
                                          · refine sx_tin hm dX9_level_1 (by omega) (by omega) (off := 248) (by rw [z0]; rfl) (tgt := 249) rfl ?_
                                            refine mx_S.ext [] (mx_sub_pos [] rfl (show ([0] : List Nat).Nodup by decide)) ?_
                                            exact j_X9_level_249_ok X hF hL nn h hf
                                          · refine sx_tin hm dX9_level_1 (by omega) (by omega) (off := 248) (by rw [z0]; rfl) (tgt := 249) rfl ?_
                                            refine mx_S.ext [] (mx_sub_pos [] rfl (show ([0] : List Nat).Nodup by decide)) ?_
                                            exact j_X9_level_249_ok X hF hL nn h hf
                                          · refine sx_tin hm dX9_level_1 (by omega) (by omega) (off := 248) (by rw [z0]; rfl) (tgt := 249) rfl ?_
                                            refine mx_S.ext [] (mx_sub_pos [] rfl (show ([0] : List Nat).Nodup by decide)) ?_
                                            exact j_X9_level_249_ok X hF hL nn h hf
                                          · refine sx_tin hm dX9_level_1 (by omega) (by omega) (off := 248) (by rw [z0]; rfl) (tgt := 249) rfl ?_
                                            refine mx_S.ext [] (mx_sub_pos [] rfl (show ([0] : List Nat).Nodup by decide)) ?_
                                            exact j_X9_level_249_ok X hF hL nn h hf
                                          · refine sx_tin hm dX9_level_1 (by omega) (by omega) (off := 248) (by rw [z0]; rfl) (tgt := 249) rfl ?_
                                            refine mx_S.ext [] (mx_sub_pos [] rfl (show ([0] : List Nat).Nodup by decide)) ?_
                                            exact j_X9_level_249_ok X hF hL nn h hf
                                          · refine sx_tin hm dX9_level_1 (by omega) (by omega) (off := 248) (by rw [z0]; rfl) (tgt := 249) rfl ?_
                                            refine mx_S.ext [] (mx_sub_pos [] rfl (show ([0] : List Nat).Nodup by decide)) ?_
                                            exact j_X9_level_249_ok X hF hL nn h hf
                                          · refine sx_tin hm dX9_level_1 (by omega) (by omega) (off := 248) (by rw [z0]; rfl) (tgt := 249) rfl ?_
                                            refine mx_S.ext [] (mx_sub_pos [] rfl (show ([0] : List Nat).Nodup by decide)) ?_
                                            exact j_X9_level_249_ok X hF hL nn h hf
                                          · refine sx_tin hm dX9_level_1 (by omega) (by omega) (off := 248) (by rw [z0]; rfl) (tgt := 249) rfl ?_
                                            refine mx_S.ext [] (mx_sub_pos [] rfl (show ([0] : List Nat).Nodup by decide)) ?_
                                            exact j_X9_level_249_ok X hF hL nn h hf
                                          · refine sx_tin hm dX9_level_1 (by omega) (by omega) (off := 248) (by rw [z0]; rfl) (tgt := 249) rfl ?_
                                            refine mx_S.ext [] (mx_sub_pos [] rfl (show ([0] : List Nat).Nodup by decide)) ?_
                                            exact j_X9_level_249_ok X hF hL nn h hf
                                          · refine sx_tin hm dX9_level_1 (by omega) (by omega) (off := 248) (by rw [z0]; rfl) (tgt := 249) rfl ?_
                                            refine mx_S.ext [] (mx_sub_pos [] rfl (show ([0] : List Nat).Nodup by decide)) ?_
                                            exact j_X9_level_249_ok X hF hL nn h hf
                                          · refine sx_tin hm dX9_level_1 (by omega) (by omega) (off := 248) (by rw [z0]; rfl) (tgt := 249) rfl ?_
                                            refine mx_S.ext [] (mx_sub_pos [] rfl (show ([0] : List Nat).Nodup by decide)) ?_
                                            exact j_X9_level_249_ok X hF hL nn h hf
                                          · refine sx_tin hm dX9_level_1 (by omega) (by omega) (off := 248) (by rw [z0]; rfl) (tgt := 249) rfl ?_
                                            refine mx_S.ext [] (mx_sub_pos [] rfl (show ([0] : List Nat).Nodup by decide)) ?_
                                            exact j_X9_level_249_ok X hF hL nn h hf
                                          · refine sx_tin hm dX9_level_1 (by omega) (by omega) (off := 248) (by rw [z0]; rfl) (tgt := 249) rfl ?_
                                            refine mx_S.ext [] (mx_sub_pos [] rfl (show ([0] : List Nat).Nodup by decide)) ?_
                                            exact j_X9_level_249_ok X hF hL nn h hf
                                          · refine sx_tin hm dX9_level_1 (by omega) (by omega) (off := 248) (by rw [z0]; rfl) (tgt := 249) rfl ?_
                                            refine mx_S.ext [] (mx_sub_pos [] rfl (show ([0] : List Nat).Nodup by decide)) ?_
                                            exact j_X9_level_249_ok X hF hL nn h hf
                                          · refine sx_tin hm dX9_level_1 (by omega) (by omega) (off := 248) (by rw [z0]; rfl) (tgt := 249) rfl ?_
                                            refine mx_S.ext [] (mx_sub_pos [] rfl (show ([0] : List Nat).Nodup by decide)) ?_
                                            exact j_X9_level_249_ok X hF hL nn h hf
                                          · refine sx_tin hm dX9_level_1 (by omega) (by omega) (off := 248) (by rw [z0]; rfl) (tgt := 249) rfl ?_
                                            refine mx_S.ext [] (mx_sub_pos [] rfl (show ([0] : List Nat).Nodup by decide)) ?_
                                            exact j_X9_level_249_ok X hF hL nn h hf
                                          · refine sx_tin hm dX9_level_1 (by omega) (by omega) (off := 248) (by rw [z0]; rfl) (tgt := 249) rfl ?_
                                            refine mx_S.ext [] (mx_sub_pos [] rfl (show ([0] : List Nat).Nodup by decide)) ?_
                                            exact j_X9_level_249_ok X hF hL nn h hf
                                          · refine sx_tin hm dX9_level_1 (by omega) (by omega) (off := 248) (by rw [z0]; rfl) (tgt := 249) rfl ?_
                                            refine mx_S.ext [] (mx_sub_pos [] rfl (show ([0] : List Nat).Nodup by decide)) ?_
                                            exact j_X9_level_249_ok X hF hL nn h hf
                                          · refine sx_tin hm dX9_level_1 (by omega) (by omega) (off := 248) (by rw [z0]; rfl) (tgt := 249) rfl ?_
                                            refine mx_S.ext [] (mx_sub_pos [] rfl (show ([0] : List Nat).Nodup by decide)) ?_
                                            exact j_X9_level_249_ok X hF hL nn h hf
                                          · refine sx_tin hm dX9_level_1 (by omega) (by omega) (off := 248) (by rw [z0]; rfl) (tgt := 249) rfl ?_
                                            refine mx_S.ext [] (mx_sub_pos [] rfl (show ([0] : List Nat).Nodup by decide)) ?_
                                            exact j_X9_level_249_ok X hF hL nn h hf
                                          · refine sx_tin hm dX9_level_1 (by omega) (by omega) (off := 248) (by rw [z0]; rfl) (tgt := 249) rfl ?_
                                            refine mx_S.ext [] (mx_sub_pos [] rfl (show ([0] : List Nat).Nodup by decide)) ?_
                                            exact j_X9_level_249_ok X hF hL nn h hf
                                          · exact absurd (Int32.toInt_inj.mp (z0.trans (by decide : (52 : Int) = (52 : Int32).toInt))) n_1
                                          · exact absurd (Int32.toInt_inj.mp (z0.trans (by decide : (53 : Int) = (53 : Int32).toInt))) n_2
                                          · exact absurd (Int32.toInt_inj.mp (z0.trans (by decide : (54 : Int) = (54 : Int32).toInt))) n_3
                                          · exact absurd (Int32.toInt_inj.mp (z0.trans (by decide : (55 : Int) = (55 : Int32).toInt))) n_4
                                          · exact absurd (Int32.toInt_inj.mp (z0.trans (by decide : (56 : Int) = (56 : Int32).toInt))) n_5
                                          · exact absurd (Int32.toInt_inj.mp (z0.trans (by decide : (57 : Int) = (57 : Int32).toInt))) n_6
                                          · exact absurd (Int32.toInt_inj.mp (z0.trans (by decide : (58 : Int) = (58 : Int32).toInt))) n_7
                                          · exact absurd (Int32.toInt_inj.mp (z0.trans (by decide : (59 : Int) = (59 : Int32).toInt))) n_8
                                          · exact absurd (Int32.toInt_inj.mp (z0.trans (by decide : (60 : Int) = (60 : Int32).toInt))) n_9
                                          · exact absurd (Int32.toInt_inj.mp (z0.trans (by decide : (61 : Int) = (61 : Int32).toInt))) n_10
                                          · exact absurd (Int32.toInt_inj.mp (z0.trans (by decide : (62 : Int) = (62 : Int32).toInt))) n_11
                                          · exact absurd (Int32.toInt_inj.mp (z0.trans (by decide : (63 : Int) = (63 : Int32).toInt))) n_12
                                          · exact absurd (Int32.toInt_inj.mp (z0.trans (by decide : (64 : Int) = (64 : Int32).toInt))) n_13
                                          · exact absurd (Int32.toInt_inj.mp (z0.trans (by decide : (65 : Int) = (65 : Int32).toInt))) n_14
                                          · exact absurd (Int32.toInt_inj.mp (z0.trans (by decide : (66 : Int) = (66 : Int32).toInt))) n_15
                                          · exact absurd (Int32.toInt_inj.mp (z0.trans (by decide : (67 : Int) = (67 : Int32).toInt))) n_16
                                          · exact absurd (Int32.toInt_inj.mp (z0.trans (by decide : (68 : Int) = (68 : Int32).toInt))) n_17
                                          · exact absurd (Int32.toInt_inj.mp (z0.trans (by decide : (69 : Int) = (69 : Int32).toInt))) n_18
                                          · exact absurd (Int32.toInt_inj.mp (z0.trans (by decide : (70 : Int) = (70 : Int32).toInt))) n_19
set_option maxHeartbeats 4000000 in
theorem f_X9_kind_ok (X : Nat × (Nat → Int32)) {F L : Nat} (hF : 0 ≤ F) (hL : 0 ≤ L) (nn : Nat) (a0 : Nat) (h : mx_H) {r : (Int32 × mx_H)} (hf : f_X9_kind nn a0 h = some r) : mx_R X F L 249 [.ref a0] h (some (.int r.1), r.2, 0, 0) := by
  have hm : mx_mt 249 = some (yX9_kind, cX9_kind, 1, (some .int)) := mt_X9_kind
  show mx_S X F L 249 0 [(0, .ref a0)] [] h 0 0 (some (.int r.1), r.2, 0, 0)
  unfold f_X9_kind at hf
  refine mx_S.pu (pc2 := 1) (lv2 := [(0, .ref a0)]) (st2 := [.ref a0]) hm dX9_kind_0 rfl ?_
  replace hf := mx_sv_el hf; obtain ⟨v1, e_v1, hf⟩ := hf
  refine sx_get hm dX9_kind_1 rs_RX9_80 (xgi_el e_v1) ?_
  clear e_v1
  rcases mx_if_el hf with ⟨c10, hf⟩ | ⟨c10, hf⟩
  · refine sb_if_ne hm dX9_kind_4 (tgt := 37) rfl (fun _ => ?_) (fun z => absurd c10 z)
    refine sx_ic (v := 0) hm dX9_kind_37 (by decide) ?_
    cases hf
    exact sx_ire hm dX9_kind_38 rfl rfl
  · refine sb_if_ne hm dX9_kind_4 (tgt := 37) rfl (fun z => absurd z c10) (fun _ => ?_)
    refine mx_S.pu (pc2 := 8) (lv2 := [(0, .ref a0)]) (st2 := [.ref a0]) hm dX9_kind_7 rfl ?_
    replace hf := mx_sv_el hf; obtain ⟨v2, e_v2, hf⟩ := hf
    refine sx_get hm dX9_kind_8 rs_RX9_86 (xgi_el e_v2) ?_
    clear e_v2
    rcases mx_if_el hf with ⟨c9, hf⟩ | ⟨c9, hf⟩
    · refine sb_if_lt hm dX9_kind_11 (tgt := 37) rfl (fun _ => ?_) (fun z => absurd c9 z)
      refine sx_ic (v := 0) hm dX9_kind_37 (by decide) ?_
      cases hf
      exact sx_ire hm dX9_kind_38 rfl rfl
    · refine sb_if_lt hm dX9_kind_11 (tgt := 37) rfl (fun z => absurd z c9) (fun _ => ?_)
      refine mx_S.pu (pc2 := 15) (lv2 := [(0, .ref a0)]) (st2 := [.ref a0]) hm dX9_kind_14 rfl ?_
      replace hf := mx_sv_el hf; obtain ⟨v3, e_v3, hf⟩ := hf
      refine sx_get hm dX9_kind_15 rs_RX9_86 (xgi_el e_v3) ?_
      clear e_v3
      refine mx_S.pu (pc2 := 19) (lv2 := [(0, .ref a0)]) (st2 := [.ref a0, .int v3]) hm dX9_kind_18 rfl ?_
      replace hf := mx_sv_el hf; obtain ⟨v4, e_v4, hf⟩ := hf
      refine sx_get hm dX9_kind_19 rs_RX9_83 (xgi_el e_v4) ?_
      clear e_v4
      rcases mx_if_el hf with ⟨c8, hf⟩ | ⟨c8, hf⟩
      · refine sb_ic_ge hm dX9_kind_22 (tgt := 37) rfl (fun _ => ?_) (fun z => absurd c8 z)
        refine sx_ic (v := 0) hm dX9_kind_37 (by decide) ?_
        cases hf
        exact sx_ire hm dX9_kind_38 rfl rfl
      · refine sb_ic_ge hm dX9_kind_22 (tgt := 37) rfl (fun z => absurd z c8) (fun _ => ?_)
        refine mx_S.pu (pc2 := 26) (lv2 := [(0, .ref a0)]) (st2 := [.ref a0]) hm dX9_kind_25 rfl ?_
        replace hf := mx_sv_el hf; obtain ⟨v5, e_v5, hf⟩ := hf
        refine sx_get hm dX9_kind_26 rs_RX9_15 (xgr_el e_v5) ?_
        clear e_v5
        refine mx_S.pu (pc2 := 30) (lv2 := [(0, .ref a0)]) (st2 := [.ref a0, .ref v5]) hm dX9_kind_29 rfl ?_
        replace hf := mx_sv_el hf; obtain ⟨v6, e_v6, hf⟩ := hf
        refine sx_get hm dX9_kind_30 rs_RX9_86 (xgi_el e_v6) ?_
        clear e_v6
        replace hf := mx_sv_el hf; obtain ⟨v7, e_v7, hf⟩ := hf
        refine sx_ald hm dX9_kind_33 e_v7 ?_
        clear e_v7
        refine mx_S.pu (pc2 := 38) (lv2 := [(0, .ref a0)]) (st2 := [.int v7]) hm dX9_kind_34 rfl ?_
        cases hf
        exact sx_ire hm dX9_kind_38 rfl rfl
set_option maxHeartbeats 4000000 in
theorem f_X9_kindAt_ok (X : Nat × (Nat → Int32)) {F L : Nat} (hF : 0 ≤ F) (hL : 0 ≤ L) (nn : Nat) (a0 : Nat) (a1 : Int32) (h : mx_H) {r : (Int32 × mx_H)} (hf : f_X9_kindAt nn a0 a1 h = some r) : mx_R X F L 247 [.ref a0, .int a1] h (some (.int r.1), r.2, 0, 0) := by
  have hm : mx_mt 247 = some (yX9_kindAt, cX9_kindAt, 2, (some .int)) := mt_X9_kindAt
  show mx_S X F L 247 0 [(0, .ref a0), (1, .int a1)] [] h 0 0 (some (.int r.1), r.2, 0, 0)
  unfold f_X9_kindAt at hf
  refine mx_S.pu (pc2 := 1) (lv2 := [(0, .ref a0), (1, .int a1)]) (st2 := [.int a1]) hm dX9_kindAt_0 rfl ?_
  rcases mx_if_el hf with ⟨c5, hf⟩ | ⟨c5, hf⟩
  · refine sb_if_lt hm dX9_kindAt_1 (tgt := 21) rfl (fun _ => ?_) (fun z => absurd c5 z)
    refine sx_ic (v := 0) hm dX9_kindAt_21 (by decide) ?_
    cases hf
    exact sx_ire hm dX9_kindAt_22 rfl rfl
  · refine sb_if_lt hm dX9_kindAt_1 (tgt := 21) rfl (fun z => absurd z c5) (fun _ => ?_)
    refine mx_S.pu (pc2 := 5) (lv2 := [(0, .ref a0), (1, .int a1)]) (st2 := [.int a1]) hm dX9_kindAt_4 rfl ?_
    refine mx_S.pu (pc2 := 6) (lv2 := [(0, .ref a0), (1, .int a1)]) (st2 := [.ref a0, .int a1]) hm dX9_kindAt_5 rfl ?_
    replace hf := mx_sv_el hf; obtain ⟨v1, e_v1, hf⟩ := hf
    refine sx_get hm dX9_kindAt_6 rs_RX9_83 (xgi_el e_v1) ?_
    clear e_v1
    rcases mx_if_el hf with ⟨c4, hf⟩ | ⟨c4, hf⟩
    · refine sb_ic_ge hm dX9_kindAt_9 (tgt := 21) rfl (fun _ => ?_) (fun z => absurd c4 z)
      refine sx_ic (v := 0) hm dX9_kindAt_21 (by decide) ?_
      cases hf
      exact sx_ire hm dX9_kindAt_22 rfl rfl
    · refine sb_ic_ge hm dX9_kindAt_9 (tgt := 21) rfl (fun z => absurd z c4) (fun _ => ?_)
      refine mx_S.pu (pc2 := 13) (lv2 := [(0, .ref a0), (1, .int a1)]) (st2 := [.ref a0]) hm dX9_kindAt_12 rfl ?_
      replace hf := mx_sv_el hf; obtain ⟨v2, e_v2, hf⟩ := hf
      refine sx_get hm dX9_kindAt_13 rs_RX9_15 (xgr_el e_v2) ?_
      clear e_v2
      refine mx_S.pu (pc2 := 17) (lv2 := [(0, .ref a0), (1, .int a1)]) (st2 := [.int a1, .ref v2]) hm dX9_kindAt_16 rfl ?_
      replace hf := mx_sv_el hf; obtain ⟨v3, e_v3, hf⟩ := hf
      refine sx_ald hm dX9_kindAt_17 e_v3 ?_
      clear e_v3
      refine mx_S.pu (pc2 := 22) (lv2 := [(0, .ref a0), (1, .int a1)]) (st2 := [.int v3]) hm dX9_kindAt_18 rfl ?_
      cases hf
      exact sx_ire hm dX9_kindAt_22 rfl rfl
set_option maxHeartbeats 4000000 in
theorem f_X4_isArray_ok (X : Nat × (Nat → Int32)) {F L : Nat} (hF : 0 ≤ F) (hL : 0 ≤ L) (nn : Nat) (a0 : Int32) (h : mx_H) {r : (Int32 × mx_H)} (hf : f_X4_isArray nn a0 h = some r) : mx_R X F L 135 [.int a0] h (some (.int r.1), r.2, 0, 0) := by
  have hm : mx_mt 135 = some (yX4_isArray, cX4_isArray, 1, (some .boolean)) := mt_X4_isArray
  show mx_S X F L 135 0 [(0, .int a0)] [] h 0 0 (some (.int r.1), r.2, 0, 0)
  unfold f_X4_isArray at hf
  refine mx_S.pu (pc2 := 1) (lv2 := [(0, .int a0)]) (st2 := [.int a0]) hm dX4_isArray_0 rfl ?_
  refine sx_bi (v := 100) hm dX4_isArray_1 (by decide) ?_
  rcases mx_if_el hf with ⟨c2, hf⟩ | ⟨c2, hf⟩
  · refine sb_ic_lt hm dX4_isArray_3 (tgt := 17) rfl (fun _ => ?_) (fun z => absurd c2 z)
    refine sx_ic (v := 0) hm dX4_isArray_17 (by decide) ?_
    cases hf
    exact sx_ire hm dX4_isArray_18 rfl (by decide)
  · refine sb_ic_lt hm dX4_isArray_3 (tgt := 17) rfl (fun z => absurd z c2) (fun _ => ?_)
    refine mx_S.pu (pc2 := 7) (lv2 := [(0, .int a0)]) (st2 := [.int a0]) hm dX4_isArray_6 rfl ?_
    refine sx_si (v := 200) hm dX4_isArray_7 (by decide) ?_
    rcases mx_if_el hf with ⟨c1, hf⟩ | ⟨c1, hf⟩
    · refine sb_ic_gt hm dX4_isArray_10 (tgt := 17) rfl (fun _ => ?_) (fun z => absurd c1 z)
      refine sx_ic (v := 0) hm dX4_isArray_17 (by decide) ?_
      cases hf
      exact sx_ire hm dX4_isArray_18 rfl (by decide)
    · refine sb_ic_gt hm dX4_isArray_10 (tgt := 17) rfl (fun z => absurd z c1) (fun _ => ?_)
      refine sx_ic (v := 1) hm dX4_isArray_13 (by decide) ?_
      refine mx_S.pu (pc2 := 18) (lv2 := [(0, .int a0)]) (st2 := [.int 1]) hm dX4_isArray_14 rfl ?_
      cases hf
      exact sx_ire hm dX4_isArray_18 rfl (by decide)
set_option maxHeartbeats 4000000 in
theorem f_X4_elementOf_ok (X : Nat × (Nat → Int32)) {F L : Nat} (hF : 0 ≤ F) (hL : 0 ≤ L) (nn : Nat) (a0 : Int32) (h : mx_H) {r : (Int32 × mx_H)} (hf : f_X4_elementOf nn a0 h = some r) : mx_R X F L 138 [.int a0] h (some (.int r.1), r.2, 0, 0) := by
  have hm : mx_mt 138 = some (yX4_elementOf, cX4_elementOf, 1, (some .int)) := mt_X4_elementOf
  show mx_S X F L 138 0 [(0, .int a0)] [] h 0 0 (some (.int r.1), r.2, 0, 0)
  unfold f_X4_elementOf at hf
  refine mx_S.pu (pc2 := 1) (lv2 := [(0, .int a0)]) (st2 := [.int a0]) hm dX4_elementOf_0 rfl ?_
  refine sx_si (v := 200) hm dX4_elementOf_1 (by decide) ?_
  rcases mx_if_el hf with ⟨c4, hf⟩ | ⟨c4, hf⟩
  · refine sb_ic_ne hm dX4_elementOf_4 (tgt := 11) rfl (fun _ => ?_) (fun z => absurd c4 z)
    refine mx_S.pu (pc2 := 12) (lv2 := [(0, .int a0)]) (st2 := [.int a0]) hm dX4_elementOf_11 rfl ?_
    refine sx_bi (v := 100) hm dX4_elementOf_12 (by decide) ?_
    rcases mx_if_el hf with ⟨c3, hf⟩ | ⟨c3, hf⟩
    · refine sb_ic_lt hm dX4_elementOf_14 (tgt := 31) rfl (fun _ => ?_) (fun z => absurd c3 z)
      refine sx_si (v := 305) hm dX4_elementOf_31 (by decide) ?_
      cases hf
      exact sx_ire hm dX4_elementOf_34 rfl rfl
    · refine sb_ic_lt hm dX4_elementOf_14 (tgt := 31) rfl (fun z => absurd z c3) (fun _ => ?_)
      refine mx_S.pu (pc2 := 18) (lv2 := [(0, .int a0)]) (st2 := [.int a0]) hm dX4_elementOf_17 rfl ?_
      refine sx_si (v := 200) hm dX4_elementOf_18 (by decide) ?_
      rcases mx_if_el hf with ⟨c2, hf⟩ | ⟨c2, hf⟩
      · refine sb_ic_ge hm dX4_elementOf_21 (tgt := 31) rfl (fun _ => ?_) (fun z => absurd c2 z)
        refine sx_si (v := 305) hm dX4_elementOf_31 (by decide) ?_
        cases hf
        exact sx_ire hm dX4_elementOf_34 rfl rfl
      · refine sb_ic_ge hm dX4_elementOf_21 (tgt := 31) rfl (fun z => absurd z c2) (fun _ => ?_)
        refine mx_S.pu (pc2 := 25) (lv2 := [(0, .int a0)]) (st2 := [.int a0]) hm dX4_elementOf_24 rfl ?_
        refine sx_bi (v := 100) hm dX4_elementOf_25 (by decide) ?_
        replace hf := xl_el hf; obtain ⟨v1, e_v1, hf⟩ := hf
        refine mx_S.pu (pc2 := 28) (lv2 := [(0, .int a0)]) (st2 := [.int v1]) hm dX4_elementOf_27 (by rw [← e_v1]; rfl) ?_
        clear e_v1
        refine mx_S.pu (pc2 := 34) (lv2 := [(0, .int a0)]) (st2 := [.int v1]) hm dX4_elementOf_28 rfl ?_
        cases hf
        exact sx_ire hm dX4_elementOf_34 rfl rfl
  · refine sb_ic_ne hm dX4_elementOf_4 (tgt := 11) rfl (fun z => absurd z c4) (fun _ => ?_)
    refine sx_si (v := 301) hm dX4_elementOf_7 (by decide) ?_
    cases hf
    exact sx_ire hm dX4_elementOf_10 rfl rfl
set_option maxHeartbeats 4000000 in
theorem j_X9_beginsCast_140_ok (X : Nat × (Nat → Int32)) {F L : Nat} (hF : 1 ≤ F) (hL : 21 ≤ L) (nn : Nat) (h : mx_H) {r : (Int32 × mx_H)} (hf : j_X9_beginsCast_140 nn h = some r) : mx_S X F L 269 140 [] [] h 0 0 (some (.int r.1), r.2, 0, 0) := by
  have hm : mx_mt 269 = some (yX9_beginsCast, cX9_beginsCast, 1, (some .boolean)) := mt_X9_beginsCast
  unfold j_X9_beginsCast_140 at hf
  refine sx_ic (v := 1) hm dX9_beginsCast_140 (by decide) ?_
  cases hf
  exact sx_ire hm dX9_beginsCast_141 rfl (by decide)
set_option maxHeartbeats 4000000 in
theorem f_X9_beginsCast_ok (X : Nat × (Nat → Int32)) {F L : Nat} (hF : 1 ≤ F) (hL : 21 ≤ L) (nn : Nat) (a0 : Nat) (h : mx_H) {r : (Int32 × mx_H)} (hf : f_X9_beginsCast nn a0 h = some r) : mx_R X F L 269 [.ref a0] h (some (.int r.1), r.2, 0, 0) := by
  have hm : mx_mt 269 = some (yX9_beginsCast, cX9_beginsCast, 1, (some .boolean)) := mt_X9_beginsCast
  show mx_S X F L 269 0 [(0, .ref a0)] [] h 0 0 (some (.int r.1), r.2, 0, 0)
  unfold f_X9_beginsCast at hf
  refine mx_S.pu (pc2 := 1) (lv2 := [(0, .ref a0)]) (st2 := [.ref a0]) hm dX9_beginsCast_0 rfl ?_
  replace hf := mx_gd_el hf; obtain ⟨c1, hf⟩ := hf
  replace hf := mx_sv_el hf; obtain ⟨u2, e_u2, hf⟩ := hf
  refine sx_cv hm dX9_beginsCast_1 rs_RX9_150 mt_X9_kind [] [] (b := a0) (ci := 9) rfl rfl rfl c1 (Nat.le_of_ble_eq_true rfl) (Nat.le_of_ble_eq_true rfl) (by omega) (by omega) (f_X9_kind_ok X (by omega) (by omega) nn a0 h e_u2) ?_
  clear e_u2
  show mx_S X F L 269 4 [(0, .ref a0)] [.int u2.1] u2.2 0 0 (some (.int r.1), r.2, 0, 0)
  refine sx_bi (v := 40) hm dX9_beginsCast_4 (by decide) ?_
  rcases mx_if_el hf with ⟨c17, hf⟩ | ⟨c17, hf⟩
  · refine sb_ic_ne hm dX9_beginsCast_6 (tgt := 38) rfl (fun _ => ?_) (fun z => absurd c17 z)
    refine sx_ic (v := 0) hm dX9_beginsCast_38 (by decide) ?_
    cases hf
    exact sx_ire hm dX9_beginsCast_39 rfl (by decide)
  · refine sb_ic_ne hm dX9_beginsCast_6 (tgt := 38) rfl (fun z => absurd z c17) (fun _ => ?_)
    refine mx_S.pu (pc2 := 10) (lv2 := [(0, .ref a0)]) (st2 := [.ref a0]) hm dX9_beginsCast_9 rfl ?_
    refine mx_S.pu (pc2 := 11) (lv2 := [(0, .ref a0)]) (st2 := [.ref a0, .ref a0]) hm dX9_beginsCast_10 rfl ?_
    replace hf := mx_sv_el hf; obtain ⟨v3, e_v3, hf⟩ := hf
    refine sx_get hm dX9_beginsCast_11 rs_RX9_86 (xgi_el e_v3) ?_
    clear e_v3
    refine sx_ic (v := 1) hm dX9_beginsCast_14 (by decide) ?_
    replace hf := xl_el hf; obtain ⟨v4, e_v4, hf⟩ := hf
    refine mx_S.pu (pc2 := 16) (lv2 := [(0, .ref a0)]) (st2 := [.int v4, .ref a0]) hm dX9_beginsCast_15 (by rw [← e_v4]; rfl) ?_
    clear e_v4
    replace hf := mx_gd_el hf; obtain ⟨c5, hf⟩ := hf
    replace hf := mx_sv_el hf; obtain ⟨u6, e_u6, hf⟩ := hf
    refine sx_cv hm dX9_beginsCast_16 rs_RX9_153 mt_X9_kindAt [.int v4] [] (b := a0) (ci := 9) rfl rfl rfl c5 (Nat.le_of_ble_eq_true rfl) (Nat.le_of_ble_eq_true rfl) (by omega) (by omega) (f_X9_kindAt_ok X (by omega) (by omega) nn a0 v4 u2.2 e_u6) ?_
    clear e_u6
    show mx_S X F L 269 19 [(0, .ref a0)] [.int u6.1] u6.2 0 0 (some (.int r.1), r.2, 0, 0)
    refine sx_ic (v := 2) hm dX9_beginsCast_19 (by decide) ?_
    rcases mx_if_el hf with ⟨c16, hf⟩ | ⟨c16, hf⟩
    · refine sb_ic_ne hm dX9_beginsCast_20 (tgt := 38) rfl (fun _ => ?_) (fun z => absurd c16 z)
      refine sx_ic (v := 0) hm dX9_beginsCast_38 (by decide) ?_
      cases hf
      exact sx_ire hm dX9_beginsCast_39 rfl (by decide)
    · refine sb_ic_ne hm dX9_beginsCast_20 (tgt := 38) rfl (fun z => absurd z c16) (fun _ => ?_)
      refine mx_S.pu (pc2 := 24) (lv2 := [(0, .ref a0)]) (st2 := [.ref a0]) hm dX9_beginsCast_23 rfl ?_
      refine mx_S.pu (pc2 := 25) (lv2 := [(0, .ref a0)]) (st2 := [.ref a0, .ref a0]) hm dX9_beginsCast_24 rfl ?_
      replace hf := mx_sv_el hf; obtain ⟨v7, e_v7, hf⟩ := hf
      refine sx_get hm dX9_beginsCast_25 rs_RX9_86 (xgi_el e_v7) ?_
      clear e_v7
      refine sx_ic (v := 2) hm dX9_beginsCast_28 (by decide) ?_
      replace hf := xl_el hf; obtain ⟨v8, e_v8, hf⟩ := hf
      refine mx_S.pu (pc2 := 30) (lv2 := [(0, .ref a0)]) (st2 := [.int v8, .ref a0]) hm dX9_beginsCast_29 (by rw [← e_v8]; rfl) ?_
      clear e_v8
      replace hf := mx_gd_el hf; obtain ⟨c9, hf⟩ := hf
      replace hf := mx_sv_el hf; obtain ⟨u10, e_u10, hf⟩ := hf
      refine sx_cv hm dX9_beginsCast_30 rs_RX9_153 mt_X9_kindAt [.int v8] [] (b := a0) (ci := 9) rfl rfl rfl c9 (Nat.le_of_ble_eq_true rfl) (Nat.le_of_ble_eq_true rfl) (by omega) (by omega) (f_X9_kindAt_ok X (by omega) (by omega) nn a0 v8 u6.2 e_u10) ?_
      clear e_u10
      show mx_S X F L 269 33 [(0, .ref a0)] [.int u10.1] u10.2 0 0 (some (.int r.1), r.2, 0, 0)
      refine sx_bi (v := 41) hm dX9_beginsCast_33 (by decide) ?_
      rcases mx_if_el hf with ⟨c15, hf⟩ | ⟨c15, hf⟩
      · refine sb_ic_eq hm dX9_beginsCast_35 (tgt := 40) rfl (fun _ => ?_) (fun z => absurd c15 z)
        refine mx_S.pu (pc2 := 41) (lv2 := [(0, .ref a0)]) (st2 := [.ref a0]) hm dX9_beginsCast_40 rfl ?_
        refine mx_S.pu (pc2 := 42) (lv2 := [(0, .ref a0)]) (st2 := [.ref a0, .ref a0]) hm dX9_beginsCast_41 rfl ?_
        replace hf := mx_sv_el hf; obtain ⟨v11, e_v11, hf⟩ := hf
        refine sx_get hm dX9_beginsCast_42 rs_RX9_86 (xgi_el e_v11) ?_
        clear e_v11
        refine sx_ic (v := 3) hm dX9_beginsCast_45 (by decide) ?_
        replace hf := xl_el hf; obtain ⟨v12, e_v12, hf⟩ := hf
        refine mx_S.pu (pc2 := 47) (lv2 := [(0, .ref a0)]) (st2 := [.int v12, .ref a0]) hm dX9_beginsCast_46 (by rw [← e_v12]; rfl) ?_
        clear e_v12
        replace hf := mx_gd_el hf; obtain ⟨c13, hf⟩ := hf
        replace hf := mx_sv_el hf; obtain ⟨u14, e_u14, hf⟩ := hf
        refine sx_cv hm dX9_beginsCast_47 rs_RX9_153 mt_X9_kindAt [.int v12] [] (b := a0) (ci := 9) rfl rfl rfl c13 (Nat.le_of_ble_eq_true rfl) (Nat.le_of_ble_eq_true rfl) (by omega) (by omega) (f_X9_kindAt_ok X (by omega) (by omega) nn a0 v12 u10.2 e_u14) ?_
        clear e_u14
        show mx_S X F L 269 50 [(0, .ref a0)] [.int u14.1] u14.2 0 0 (some (.int r.1), r.2, 0, 0)
        rcases mx_if_el hf with ⟨n_0, hf⟩ | ⟨n_0, hf⟩
        · refine sx_look hm dX9_beginsCast_50 rfl (off := 90) (by rw [n_0]; rfl) (tgt := 140) rfl ?_
          clear n_0
          refine mx_S.ext [] (mx_sub_pos [] rfl (show ([0] : List Nat).Nodup by decide)) ?_
          exact j_X9_beginsCast_140_ok X hF hL nn u14.2 hf
        · rcases mx_if_el hf with ⟨n_1, hf⟩ | ⟨n_1, hf⟩
          · refine sx_look hm dX9_beginsCast_50 rfl (off := 90) (by rw [n_1]; rfl) (tgt := 140) rfl ?_
            clear n_0 n_1
            refine mx_S.ext [] (mx_sub_pos [] rfl (show ([0] : List Nat).Nodup by decide)) ?_
            exact j_X9_beginsCast_140_ok X hF hL nn u14.2 hf
          · rcases mx_if_el hf with ⟨n_2, hf⟩ | ⟨n_2, hf⟩
            · refine sx_look hm dX9_beginsCast_50 rfl (off := 90) (by rw [n_2]; rfl) (tgt := 140) rfl ?_
              clear n_0 n_1 n_2
              refine mx_S.ext [] (mx_sub_pos [] rfl (show ([0] : List Nat).Nodup by decide)) ?_
              exact j_X9_beginsCast_140_ok X hF hL nn u14.2 hf
            · rcases mx_if_el hf with ⟨n_3, hf⟩ | ⟨n_3, hf⟩
              · refine sx_look hm dX9_beginsCast_50 rfl (off := 90) (by rw [n_3]; rfl) (tgt := 140) rfl ?_
                clear n_0 n_1 n_2 n_3
                refine mx_S.ext [] (mx_sub_pos [] rfl (show ([0] : List Nat).Nodup by decide)) ?_
                exact j_X9_beginsCast_140_ok X hF hL nn u14.2 hf
              · rcases mx_if_el hf with ⟨n_4, hf⟩ | ⟨n_4, hf⟩
                · refine sx_look hm dX9_beginsCast_50 rfl (off := 90) (by rw [n_4]; rfl) (tgt := 140) rfl ?_
                  clear n_0 n_1 n_2 n_3 n_4
                  refine mx_S.ext [] (mx_sub_pos [] rfl (show ([0] : List Nat).Nodup by decide)) ?_
                  exact j_X9_beginsCast_140_ok X hF hL nn u14.2 hf
                · rcases mx_if_el hf with ⟨n_5, hf⟩ | ⟨n_5, hf⟩
                  · refine sx_look hm dX9_beginsCast_50 rfl (off := 90) (by rw [n_5]; rfl) (tgt := 140) rfl ?_
                    clear n_0 n_1 n_2 n_3 n_4 n_5
                    refine mx_S.ext [] (mx_sub_pos [] rfl (show ([0] : List Nat).Nodup by decide)) ?_
                    exact j_X9_beginsCast_140_ok X hF hL nn u14.2 hf
                  · rcases mx_if_el hf with ⟨n_6, hf⟩ | ⟨n_6, hf⟩
                    · refine sx_look hm dX9_beginsCast_50 rfl (off := 90) (by rw [n_6]; rfl) (tgt := 140) rfl ?_
                      clear n_0 n_1 n_2 n_3 n_4 n_5 n_6
                      refine mx_S.ext [] (mx_sub_pos [] rfl (show ([0] : List Nat).Nodup by decide)) ?_
                      exact j_X9_beginsCast_140_ok X hF hL nn u14.2 hf
                    · rcases mx_if_el hf with ⟨n_7, hf⟩ | ⟨n_7, hf⟩
                      · refine sx_look hm dX9_beginsCast_50 rfl (off := 90) (by rw [n_7]; rfl) (tgt := 140) rfl ?_
                        clear n_0 n_1 n_2 n_3 n_4 n_5 n_6 n_7
                        refine mx_S.ext [] (mx_sub_pos [] rfl (show ([0] : List Nat).Nodup by decide)) ?_
                        exact j_X9_beginsCast_140_ok X hF hL nn u14.2 hf
                      · rcases mx_if_el hf with ⟨n_8, hf⟩ | ⟨n_8, hf⟩
                        · refine sx_look hm dX9_beginsCast_50 rfl (off := 90) (by rw [n_8]; rfl) (tgt := 140) rfl ?_
                          clear n_0 n_1 n_2 n_3 n_4 n_5 n_6 n_7 n_8
                          refine mx_S.ext [] (mx_sub_pos [] rfl (show ([0] : List Nat).Nodup by decide)) ?_
                          exact j_X9_beginsCast_140_ok X hF hL nn u14.2 hf
                        · rcases mx_if_el hf with ⟨n_9, hf⟩ | ⟨n_9, hf⟩
                          · refine sx_look hm dX9_beginsCast_50 rfl (off := 90) (by rw [n_9]; rfl) (tgt := 140) rfl ?_
                            clear n_0 n_1 n_2 n_3 n_4 n_5 n_6 n_7 n_8 n_9
                            refine mx_S.ext [] (mx_sub_pos [] rfl (show ([0] : List Nat).Nodup by decide)) ?_
                            exact j_X9_beginsCast_140_ok X hF hL nn u14.2 hf
                          · refine sx_look hm dX9_beginsCast_50 rfl (off := 92) (by show Op.lookupswitch.offset [(2, 90), (3, 90), (17, 90), (21, 90), (22, 90), (26, 90), (28, 90), (40, 90), (71, 90), (72, 90)] 92 u14.1.toInt = _; rw [lv_osw n_0 (by decide), lv_osw n_1 (by decide), lv_osw n_2 (by decide), lv_osw n_3 (by decide), lv_osw n_4 (by decide), lv_osw n_5 (by decide), lv_osw n_6 (by decide), lv_osw n_7 (by decide), lv_osw n_8 (by decide), lv_osw n_9 (by decide)]; rfl) (tgt := 142) rfl ?_
                            refine sx_ic (v := 0) hm dX9_beginsCast_142 (by decide) ?_
                            cases hf
                            exact sx_ire hm dX9_beginsCast_143 rfl (by decide)
      · refine sb_ic_eq hm dX9_beginsCast_35 (tgt := 40) rfl (fun z => absurd z c15) (fun _ => ?_)
        refine sx_ic (v := 0) hm dX9_beginsCast_38 (by decide) ?_
        cases hf
        exact sx_ire hm dX9_beginsCast_39 rfl (by decide)
set_option maxHeartbeats 4000000 in
theorem f_X9_beginsVariable_ok (X : Nat × (Nat → Int32)) {F L : Nat} (hF : 1 ≤ F) (hL : 21 ≤ L) (nn : Nat) (a0 : Nat) (h : mx_H) {r : (Int32 × mx_H)} (hf : f_X9_beginsVariable nn a0 h = some r) : mx_R X F L 268 [.ref a0] h (some (.int r.1), r.2, 0, 0) := by
  have hm : mx_mt 268 = some (yX9_beginsVariable, cX9_beginsVariable, 3, (some .boolean)) := mt_X9_beginsVariable
  show mx_S X F L 268 0 [(0, .ref a0)] [] h 0 0 (some (.int r.1), r.2, 0, 0)
  unfold f_X9_beginsVariable at hf
  refine mx_S.pu (pc2 := 1) (lv2 := [(0, .ref a0)]) (st2 := [.ref a0]) hm dX9_beginsVariable_0 rfl ?_
  replace hf := mx_gd_el hf; obtain ⟨c1, hf⟩ := hf
  replace hf := mx_sv_el hf; obtain ⟨u2, e_u2, hf⟩ := hf
  refine sx_cv hm dX9_beginsVariable_1 rs_RX9_150 mt_X9_kind [] [] (b := a0) (ci := 9) rfl rfl rfl c1 (Nat.le_of_ble_eq_true rfl) (Nat.le_of_ble_eq_true rfl) (by omega) (by omega) (f_X9_kind_ok X (by omega) (by omega) nn a0 h e_u2) ?_
  clear e_u2
  show mx_S X F L 268 4 [(0, .ref a0)] [.int u2.1] u2.2 0 0 (some (.int r.1), r.2, 0, 0)
  refine mx_S.pu (pc2 := 5) (lv2 := [(1, .int u2.1), (0, .ref a0)]) (st2 := []) hm dX9_beginsVariable_4 rfl ?_
  refine mx_S.pu (pc2 := 6) (lv2 := [(1, .int u2.1), (0, .ref a0)]) (st2 := [.int u2.1]) hm dX9_beginsVariable_5 rfl ?_
  refine sx_ic (v := 2) hm dX9_beginsVariable_6 (by decide) ?_
  rcases mx_if_el hf with ⟨c16, hf⟩ | ⟨c16, hf⟩
  · refine sb_ic_eq hm dX9_beginsVariable_7 (tgt := 28) rfl (fun _ => ?_) (fun z => absurd c16 z)
    refine mx_S.pu (pc2 := 29) (lv2 := [(1, .int u2.1), (0, .ref a0)]) (st2 := [.ref a0]) hm dX9_beginsVariable_28 rfl ?_
    refine mx_S.pu (pc2 := 30) (lv2 := [(1, .int u2.1), (0, .ref a0)]) (st2 := [.ref a0, .ref a0]) hm dX9_beginsVariable_29 rfl ?_
    replace hf := mx_sv_el hf; obtain ⟨v3, e_v3, hf⟩ := hf
    refine sx_get hm dX9_beginsVariable_30 rs_RX9_86 (xgi_el e_v3) ?_
    clear e_v3
    refine sx_ic (v := 1) hm dX9_beginsVariable_33 (by decide) ?_
    replace hf := xl_el hf; obtain ⟨v4, e_v4, hf⟩ := hf
    refine mx_S.pu (pc2 := 35) (lv2 := [(1, .int u2.1), (0, .ref a0)]) (st2 := [.int v4, .ref a0]) hm dX9_beginsVariable_34 (by rw [← e_v4]; rfl) ?_
    clear e_v4
    replace hf := mx_gd_el hf; obtain ⟨c5, hf⟩ := hf
    replace hf := mx_sv_el hf; obtain ⟨u6, e_u6, hf⟩ := hf
    refine sx_cv hm dX9_beginsVariable_35 rs_RX9_153 mt_X9_kindAt [.int v4] [] (b := a0) (ci := 9) rfl rfl rfl c5 (Nat.le_of_ble_eq_true rfl) (Nat.le_of_ble_eq_true rfl) (by omega) (by omega) (f_X9_kindAt_ok X (by omega) (by omega) nn a0 v4 u2.2 e_u6) ?_
    clear e_u6
    show mx_S X F L 268 38 [(1, .int u2.1), (0, .ref a0)] [.int u6.1] u6.2 0 0 (some (.int r.1), r.2, 0, 0)
    refine mx_S.pu (pc2 := 39) (lv2 := [(2, .int u6.1), (1, .int u2.1), (0, .ref a0)]) (st2 := []) hm dX9_beginsVariable_38 rfl ?_
    refine mx_S.pu (pc2 := 40) (lv2 := [(2, .int u6.1), (1, .int u2.1), (0, .ref a0)]) (st2 := [.int u6.1]) hm dX9_beginsVariable_39 rfl ?_
    refine sx_ic (v := 2) hm dX9_beginsVariable_40 (by decide) ?_
    rcases mx_if_el hf with ⟨c13, hf⟩ | ⟨c13, hf⟩
    · refine sb_ic_eq hm dX9_beginsVariable_41 (tgt := 65) rfl (fun _ => ?_) (fun z => absurd c13 z)
      refine sx_ic (v := 1) hm dX9_beginsVariable_65 (by decide) ?_
      refine mx_S.pu (pc2 := 70) (lv2 := [(2, .int u6.1), (1, .int u2.1), (0, .ref a0)]) (st2 := [.int 1]) hm dX9_beginsVariable_66 rfl ?_
      cases hf
      exact sx_ire hm dX9_beginsVariable_70 rfl (by decide)
    · refine sb_ic_eq hm dX9_beginsVariable_41 (tgt := 65) rfl (fun z => absurd z c13) (fun _ => ?_)
      refine mx_S.pu (pc2 := 45) (lv2 := [(2, .int u6.1), (1, .int u2.1), (0, .ref a0)]) (st2 := [.int u6.1]) hm dX9_beginsVariable_44 rfl ?_
      refine sx_bi (v := 44) hm dX9_beginsVariable_45 (by decide) ?_
      rcases mx_if_el hf with ⟨c12, hf⟩ | ⟨c12, hf⟩
      · refine sb_ic_ne hm dX9_beginsVariable_47 (tgt := 69) rfl (fun _ => ?_) (fun z => absurd c12 z)
        refine sx_ic (v := 0) hm dX9_beginsVariable_69 (by decide) ?_
        cases hf
        exact sx_ire hm dX9_beginsVariable_70 rfl (by decide)
      · refine sb_ic_ne hm dX9_beginsVariable_47 (tgt := 69) rfl (fun z => absurd z c12) (fun _ => ?_)
        refine mx_S.pu (pc2 := 51) (lv2 := [(2, .int u6.1), (1, .int u2.1), (0, .ref a0)]) (st2 := [.ref a0]) hm dX9_beginsVariable_50 rfl ?_
        refine mx_S.pu (pc2 := 52) (lv2 := [(2, .int u6.1), (1, .int u2.1), (0, .ref a0)]) (st2 := [.ref a0, .ref a0]) hm dX9_beginsVariable_51 rfl ?_
        replace hf := mx_sv_el hf; obtain ⟨v7, e_v7, hf⟩ := hf
        refine sx_get hm dX9_beginsVariable_52 rs_RX9_86 (xgi_el e_v7) ?_
        clear e_v7
        refine sx_ic (v := 2) hm dX9_beginsVariable_55 (by decide) ?_
        replace hf := xl_el hf; obtain ⟨v8, e_v8, hf⟩ := hf
        refine mx_S.pu (pc2 := 57) (lv2 := [(2, .int u6.1), (1, .int u2.1), (0, .ref a0)]) (st2 := [.int v8, .ref a0]) hm dX9_beginsVariable_56 (by rw [← e_v8]; rfl) ?_
        clear e_v8
        replace hf := mx_gd_el hf; obtain ⟨c9, hf⟩ := hf
        replace hf := mx_sv_el hf; obtain ⟨u10, e_u10, hf⟩ := hf
        refine sx_cv hm dX9_beginsVariable_57 rs_RX9_153 mt_X9_kindAt [.int v8] [] (b := a0) (ci := 9) rfl rfl rfl c9 (Nat.le_of_ble_eq_true rfl) (Nat.le_of_ble_eq_true rfl) (by omega) (by omega) (f_X9_kindAt_ok X (by omega) (by omega) nn a0 v8 u6.2 e_u10) ?_
        clear e_u10
        show mx_S X F L 268 60 [(2, .int u6.1), (1, .int u2.1), (0, .ref a0)] [.int u10.1] u10.2 0 0 (some (.int r.1), r.2, 0, 0)
        refine sx_bi (v := 45) hm dX9_beginsVariable_60 (by decide) ?_
        rcases mx_if_el hf with ⟨c11, hf⟩ | ⟨c11, hf⟩
        · refine sb_ic_ne hm dX9_beginsVariable_62 (tgt := 69) rfl (fun _ => ?_) (fun z => absurd c11 z)
          refine sx_ic (v := 0) hm dX9_beginsVariable_69 (by decide) ?_
          cases hf
          exact sx_ire hm dX9_beginsVariable_70 rfl (by decide)
        · refine sb_ic_ne hm dX9_beginsVariable_62 (tgt := 69) rfl (fun z => absurd z c11) (fun _ => ?_)
          refine sx_ic (v := 1) hm dX9_beginsVariable_65 (by decide) ?_
          refine mx_S.pu (pc2 := 70) (lv2 := [(2, .int u6.1), (1, .int u2.1), (0, .ref a0)]) (st2 := [.int 1]) hm dX9_beginsVariable_66 rfl ?_
          cases hf
          exact sx_ire hm dX9_beginsVariable_70 rfl (by decide)
  · refine sb_ic_eq hm dX9_beginsVariable_7 (tgt := 28) rfl (fun z => absurd z c16) (fun _ => ?_)
    refine mx_S.pu (pc2 := 11) (lv2 := [(1, .int u2.1), (0, .ref a0)]) (st2 := [.int u2.1]) hm dX9_beginsVariable_10 rfl ?_
    refine sx_bi (v := 20) hm dX9_beginsVariable_11 (by decide) ?_
    rcases mx_if_el hf with ⟨c15, hf⟩ | ⟨c15, hf⟩
    · refine sb_ic_eq hm dX9_beginsVariable_13 (tgt := 22) rfl (fun _ => ?_) (fun z => absurd c15 z)
      refine sx_ic (v := 1) hm dX9_beginsVariable_22 (by decide) ?_
      refine mx_S.pu (pc2 := 27) (lv2 := [(1, .int u2.1), (0, .ref a0)]) (st2 := [.int 1]) hm dX9_beginsVariable_23 rfl ?_
      cases hf
      exact sx_ire hm dX9_beginsVariable_27 rfl (by decide)
    · refine sb_ic_eq hm dX9_beginsVariable_13 (tgt := 22) rfl (fun z => absurd z c15) (fun _ => ?_)
      refine mx_S.pu (pc2 := 17) (lv2 := [(1, .int u2.1), (0, .ref a0)]) (st2 := [.int u2.1]) hm dX9_beginsVariable_16 rfl ?_
      refine sx_bi (v := 10) hm dX9_beginsVariable_17 (by decide) ?_
      rcases mx_if_el hf with ⟨c14, hf⟩ | ⟨c14, hf⟩
      · refine sb_ic_ne hm dX9_beginsVariable_19 (tgt := 26) rfl (fun _ => ?_) (fun z => absurd c14 z)
        refine sx_ic (v := 0) hm dX9_beginsVariable_26 (by decide) ?_
        cases hf
        exact sx_ire hm dX9_beginsVariable_27 rfl (by decide)
      · refine sb_ic_ne hm dX9_beginsVariable_19 (tgt := 26) rfl (fun z => absurd z c14) (fun _ => ?_)
        refine sx_ic (v := 1) hm dX9_beginsVariable_22 (by decide) ?_
        refine mx_S.pu (pc2 := 27) (lv2 := [(1, .int u2.1), (0, .ref a0)]) (st2 := [.int 1]) hm dX9_beginsVariable_23 rfl ?_
        cases hf
        exact sx_ire hm dX9_beginsVariable_27 rfl (by decide)
set_option maxHeartbeats 4000000 in
theorem f_X4_setAbove_ok (X : Nat × (Nat → Int32)) {F L : Nat} (hF : 1 ≤ F) (hL : 20 ≤ L) (nn : Nat) (a0 : Nat) (a1 : Int32) (a2 : Int32) (h : mx_H) {r : mx_H} (hf : f_X4_setAbove nn a0 a1 a2 h = some r) : mx_R X F L 132 [.ref a0, .int a1, .int a2] h (none, r, 0, 0) := by
  have hm : mx_mt 132 = some (yX4_setAbove, cX4_setAbove, 3, none) := mt_X4_setAbove
  show mx_S X F L 132 0 [(0, .ref a0), (1, .int a1), (2, .int a2)] [] h 0 0 (none, r, 0, 0)
  unfold f_X4_setAbove at hf
  refine mx_S.pu (pc2 := 1) (lv2 := [(0, .ref a0), (1, .int a1), (2, .int a2)]) (st2 := [.int a1]) hm dX4_setAbove_0 rfl ?_
  replace hf := mx_sv_el hf; obtain ⟨u1, e_u1, hf⟩ := hf
  refine sx_cs hm dX4_setAbove_1 rs_RX4_31 mt_X4_isClass [.int a1] [] rfl rfl (Nat.le_of_ble_eq_true rfl) (Nat.le_of_ble_eq_true rfl) (by omega) (by omega) (f_X4_isClass_ok X (by omega) (by omega) nn a1 h e_u1) ?_
  clear e_u1
  show mx_S X F L 132 4 [(0, .ref a0), (1, .int a1), (2, .int a2)] [.int u1.1] u1.2 0 0 (none, r, 0, 0)
  rcases mx_if_el hf with ⟨c4, hf⟩ | ⟨c4, hf⟩
  · refine sb_if_eq hm dX4_setAbove_4 (tgt := 14) rfl (fun _ => ?_) (fun z => absurd c4 z)
    cases hf
    exact sx_ret hm dX4_setAbove_14 rfl
  · refine sb_if_eq hm dX4_setAbove_4 (tgt := 14) rfl (fun z => absurd z c4) (fun _ => ?_)
    refine mx_S.pu (pc2 := 8) (lv2 := [(0, .ref a0), (1, .int a1), (2, .int a2)]) (st2 := [.ref a0]) hm dX4_setAbove_7 rfl ?_
    replace hf := mx_sv_el hf; obtain ⟨v2, e_v2, hf⟩ := hf
    refine sx_get hm dX4_setAbove_8 rs_RX4_11 (xgr_el e_v2) ?_
    clear e_v2
    refine mx_S.pu (pc2 := 12) (lv2 := [(0, .ref a0), (1, .int a1), (2, .int a2)]) (st2 := [.int a1, .ref v2]) hm dX4_setAbove_11 rfl ?_
    refine mx_S.pu (pc2 := 13) (lv2 := [(0, .ref a0), (1, .int a1), (2, .int a2)]) (st2 := [.int a2, .int a1, .ref v2]) hm dX4_setAbove_12 rfl ?_
    replace hf := mx_sv_el hf; obtain ⟨h3, e_h3, hf⟩ := hf
    refine sx_ast hm dX4_setAbove_13 e_h3 ?_
    clear e_h3
    cases hf
    exact sx_ret hm dX4_setAbove_14 rfl
set_option maxHeartbeats 4000000 in
theorem f_X2_addClass_ok (X : Nat × (Nat → Int32)) {F L : Nat} (hF : 0 ≤ F) (hL : 0 ≤ L) (nn : Nat) (a0 : Nat) (a1 : Int32) (h : mx_H) {r : mx_H} (hf : f_X2_addClass nn a0 a1 h = some r) : mx_R X F L 48 [.ref a0, .int a1] h (none, r, 0, 0) := by
  have hm : mx_mt 48 = some (yX2_addClass, cX2_addClass, 2, none) := mt_X2_addClass
  show mx_S X F L 48 0 [(0, .ref a0), (1, .int a1)] [] h 0 0 (none, r, 0, 0)
  unfold f_X2_addClass at hf
  refine mx_S.pu (pc2 := 1) (lv2 := [(0, .ref a0), (1, .int a1)]) (st2 := [.ref a0]) hm dX2_addClass_0 rfl ?_
  replace hf := mx_sv_el hf; obtain ⟨v1, e_v1, hf⟩ := hf
  refine sx_get hm dX2_addClass_1 rs_RX2_78 (xgi_el e_v1) ?_
  clear e_v1
  refine mx_S.pu (pc2 := 5) (lv2 := [(0, .ref a0), (1, .int a1)]) (st2 := [.ref a0, .int v1]) hm dX2_addClass_4 rfl ?_
  replace hf := mx_sv_el hf; obtain ⟨v2, e_v2, hf⟩ := hf
  refine sx_get hm dX2_addClass_5 rs_RX2_20 (xgr_el e_v2) ?_
  clear e_v2
  replace hf := mx_sv_el hf; obtain ⟨v3, e_v3, hf⟩ := hf
  refine sx_len hm dX2_addClass_8 e_v3 ?_
  clear e_v3
  rcases mx_if_el hf with ⟨c10, hf⟩ | ⟨c10, hf⟩
  · refine sb_ic_ge hm dX2_addClass_9 (tgt := 32) rfl (fun _ => ?_) (fun z => absurd c10 z)
    cases hf
    exact sx_ret hm dX2_addClass_32 rfl
  · refine sb_ic_ge hm dX2_addClass_9 (tgt := 32) rfl (fun z => absurd z c10) (fun _ => ?_)
    refine mx_S.pu (pc2 := 13) (lv2 := [(0, .ref a0), (1, .int a1)]) (st2 := [.ref a0]) hm dX2_addClass_12 rfl ?_
    replace hf := mx_sv_el hf; obtain ⟨v4, e_v4, hf⟩ := hf
    refine sx_get hm dX2_addClass_13 rs_RX2_20 (xgr_el e_v4) ?_
    clear e_v4
    refine mx_S.pu (pc2 := 17) (lv2 := [(0, .ref a0), (1, .int a1)]) (st2 := [.ref a0, .ref v4]) hm dX2_addClass_16 rfl ?_
    replace hf := mx_sv_el hf; obtain ⟨v5, e_v5, hf⟩ := hf
    refine sx_get hm dX2_addClass_17 rs_RX2_78 (xgi_el e_v5) ?_
    clear e_v5
    refine mx_S.pu (pc2 := 21) (lv2 := [(0, .ref a0), (1, .int a1)]) (st2 := [.int a1, .int v5, .ref v4]) hm dX2_addClass_20 rfl ?_
    replace hf := mx_sv_el hf; obtain ⟨h6, e_h6, hf⟩ := hf
    refine sx_ast hm dX2_addClass_21 e_h6 ?_
    clear e_h6
    refine mx_S.pu (pc2 := 23) (lv2 := [(0, .ref a0), (1, .int a1)]) (st2 := [.ref a0]) hm dX2_addClass_22 rfl ?_
    refine mx_S.pu (pc2 := 24) (lv2 := [(0, .ref a0), (1, .int a1)]) (st2 := [.ref a0, .ref a0]) hm dX2_addClass_23 rfl ?_
    replace hf := mx_sv_el hf; obtain ⟨v7, e_v7, hf⟩ := hf
    refine sx_get hm dX2_addClass_24 rs_RX2_78 (xgi_el e_v7) ?_
    clear e_v7
    refine sx_ic (v := 1) hm dX2_addClass_27 (by decide) ?_
    replace hf := xl_el hf; obtain ⟨v8, e_v8, hf⟩ := hf
    refine mx_S.pu (pc2 := 29) (lv2 := [(0, .ref a0), (1, .int a1)]) (st2 := [.int v8, .ref a0]) hm dX2_addClass_28 (by rw [← e_v8]; rfl) ?_
    clear e_v8
    replace hf := mx_sv_el hf; obtain ⟨h9, e_h9, hf⟩ := hf
    refine sx_put hm dX2_addClass_29 rs_RX2_78 ft_2_2 ⟨rfl, rfl⟩ (fun z => by cases z) e_h9 ?_
    clear e_h9
    cases hf
    exact sx_ret hm dX2_addClass_32 rfl
