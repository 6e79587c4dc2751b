set_option maxHeartbeats 4000000 in
set_option maxRecDepth 20000 in
theorem f_X5_forget_ok (X : Nat × (Nat → Int32)) {F L : Nat} (hF : 0 ≤ F) (hL : 0 ≤ L) (nn : Nat) (a0 : Nat) (h : mx_H) {r : mx_H} (hf : f_X5_forget nn a0 h = some r) : mx_R X F L 143 [.ref a0] h (none, r, 0, 0) := by
  have hm : mx_mt 143 = some (yX5_forget, cX5_forget, 1, none) := mt_X5_forget
  show mx_S X F L 143 0 [(0, .ref a0)] [] h 0 0 (none, r, 0, 0)
  unfold f_X5_forget at hf
  refine mx_S.pu (pc2 := 1) (lv2 := [(0, .ref a0)]) (st2 := [.ref a0]) hm dX5_forget_0 rfl ?_
  refine sx_ic (v := 0) hm dX5_forget_1 (by decide) ?_
  replace hf := mx_sv_el hf; obtain ⟨h1, e_h1, hf⟩ := hf
  refine sx_put hm dX5_forget_2 rs_RX5_54 ft_5_1 ⟨rfl, rfl⟩ (fun z => by cases z) e_h1 ?_
  clear e_h1
  refine mx_S.pu (pc2 := 6) (lv2 := [(0, .ref a0)]) (st2 := [.ref a0]) hm dX5_forget_5 rfl ?_
  refine sx_ic (v := (-1)) hm dX5_forget_6 (by decide) ?_
  replace hf := mx_sv_el hf; obtain ⟨h2, e_h2, hf⟩ := hf
  refine sx_put hm dX5_forget_7 rs_RX5_50 ft_5_2 ⟨rfl, rfl⟩ (fun z => by cases z) e_h2 ?_
  clear e_h2
  refine mx_S.pu (pc2 := 11) (lv2 := [(0, .ref a0)]) (st2 := [.ref a0]) hm dX5_forget_10 rfl ?_
  refine sx_ic (v := 0) hm dX5_forget_11 (by decide) ?_
  replace hf := mx_sv_el hf; obtain ⟨h3, e_h3, hf⟩ := hf
  refine sx_put hm dX5_forget_12 rs_RX5_57 ft_5_3 ⟨rfl, rfl⟩ (fun z => by cases z) e_h3 ?_
  clear e_h3
  refine mx_S.pu (pc2 := 16) (lv2 := [(0, .ref a0)]) (st2 := [.ref a0]) hm dX5_forget_15 rfl ?_
  refine sx_ic (v := 0) hm dX5_forget_16 (by decide) ?_
  replace hf := mx_sv_el hf; obtain ⟨h4, e_h4, hf⟩ := hf
  refine sx_put hm dX5_forget_17 rs_RX5_60 ft_5_4 ⟨rfl, rfl⟩ (fun z => by cases z) e_h4 ?_
  clear e_h4
  refine mx_S.pu (pc2 := 21) (lv2 := [(0, .ref a0)]) (st2 := [.ref a0]) hm dX5_forget_20 rfl ?_
  refine sx_ic (v := 0) hm dX5_forget_21 (by decide) ?_
  replace hf := mx_sv_el hf; obtain ⟨h5, e_h5, hf⟩ := hf
  refine sx_put hm dX5_forget_22 rs_RX5_63 ft_5_5 ⟨rfl, rfl⟩ (fun z => by cases z) e_h5 ?_
  clear e_h5
  refine mx_S.pu (pc2 := 26) (lv2 := [(0, .ref a0)]) (st2 := [.ref a0]) hm dX5_forget_25 rfl ?_
  refine sx_ic (v := 0) hm dX5_forget_26 (by decide) ?_
  replace hf := mx_sv_el hf; obtain ⟨h6, e_h6, hf⟩ := hf
  refine sx_put hm dX5_forget_27 rs_RX5_66 ft_5_6 ⟨rfl, rfl⟩ (fun z => by cases z) e_h6 ?_
  clear e_h6
  refine mx_S.pu (pc2 := 31) (lv2 := [(0, .ref a0)]) (st2 := [.ref a0]) hm dX5_forget_30 rfl ?_
  refine sx_ic (v := 0) hm dX5_forget_31 (by decide) ?_
  replace hf := mx_sv_el hf; obtain ⟨h7, e_h7, hf⟩ := hf
  refine sx_put hm dX5_forget_32 rs_RX5_69 ft_5_7 ⟨rfl, rfl⟩ (fun z => by cases z) e_h7 ?_
  clear e_h7
  cases hf
  exact sx_ret hm dX5_forget_35 rfl
set_option maxHeartbeats 4000000 in
set_option maxRecDepth 20000 in
theorem w_J7_fill_53178_5_ok (X : Nat × (Nat → Int32)) {F L : Nat} (hF : 0 ≤ F) (hL : 0 ≤ L) (nn : Nat) : ∀ (k : Nat) (l0 : Nat) (l1 : Int32) (l2 : Int32) (l3 : Int32) (h : mx_H) (r : mx_H), w_J7_fill_53178_5 nn k l0 l1 l2 l3 h = some r → mx_S X F L 600 5 [(0, .ref l0), (1, .int l1), (2, .int l2), (3, .int l3)] [] h 0 0 (none, r, 0, 0) := by
  have hm : mx_mt 600 = some (yJ7_fill_53178, cJ7_fill_53178, 4, none) := mt_J7_fill_53178
  intro k
  induction k with
  | zero => intro l0 l1 l2 l3 h r hf; cases hf
  | succ k ih =>
    intro l0 l1 l2 l3 h r hf
    unfold w_J7_fill_53178_5 at hf
    refine mx_S.pu (pc2 := 6) (lv2 := [(0, .ref l0), (1, .int l1), (2, .int l2), (3, .int l3)]) (st2 := [.int l2]) hm dJ7_fill_53178_5 rfl ?_
    refine mx_S.pu (pc2 := 7) (lv2 := [(0, .ref l0), (1, .int l1), (2, .int l2), (3, .int l3)]) (st2 := [.int l3, .int l2]) hm dJ7_fill_53178_6 rfl ?_
    rcases mx_if_el hf with ⟨c3, hf⟩ | ⟨c3, hf⟩
    · refine sb_ic_ge hm dJ7_fill_53178_7 (tgt := 20) rfl (fun _ => ?_) (fun z => absurd c3 z)
      cases hf
      exact sx_ret hm dJ7_fill_53178_20 rfl
    · refine sb_ic_ge hm dJ7_fill_53178_7 (tgt := 20) rfl (fun z => absurd z c3) (fun _ => ?_)
      refine mx_S.pu (pc2 := 11) (lv2 := [(0, .ref l0), (1, .int l1), (2, .int l2), (3, .int l3)]) (st2 := [.ref l0]) hm dJ7_fill_53178_10 rfl ?_
      refine mx_S.pu (pc2 := 12) (lv2 := [(0, .ref l0), (1, .int l1), (2, .int l2), (3, .int l3)]) (st2 := [.int l2, .ref l0]) hm dJ7_fill_53178_11 rfl ?_
      refine mx_S.pu (pc2 := 13) (lv2 := [(0, .ref l0), (1, .int l1), (2, .int l2), (3, .int l3)]) (st2 := [.int l1, .int l2, .ref l0]) hm dJ7_fill_53178_12 rfl ?_
      replace hf := mx_sv_el hf; obtain ⟨h1, e_h1, hf⟩ := hf
      refine sx_ast hm dJ7_fill_53178_13 e_h1 ?_
      clear e_h1
      replace hf := xl_el hf; obtain ⟨v2, e_v2, hf⟩ := hf
      refine mx_S.pu (pc2 := 17) (lv2 := [(2, .int v2), (0, .ref l0), (1, .int l1), (3, .int l3)]) (st2 := []) hm dJ7_fill_53178_14 (by rw [← e_v2]; rfl) ?_
      clear e_v2
      refine mx_S.pu (pc2 := 5) (lv2 := [(2, .int v2), (0, .ref l0), (1, .int l1), (3, .int l3)]) (st2 := []) hm dJ7_fill_53178_17 rfl ?_
      refine mx_S.ext [(0, .ref l0), (1, .int l1), (2, .int v2), (3, .int l3)] (mx_sub_pos [1, 2, 0, 3] rfl (show ([2, 0, 1, 3] : List Nat).Nodup by decide)) ?_
      exact ih l0 l1 v2 l3 h1 _ hf
set_option maxHeartbeats 4000000 in
set_option maxRecDepth 20000 in
theorem f_J7_fill_53178_ok (X : Nat × (Nat → Int32)) {F L : Nat} (hF : 0 ≤ F) (hL : 0 ≤ L) (nn : Nat) (a0 : Nat) (a1 : Int32) (h : mx_H) {r : mx_H} (hf : f_J7_fill_53178 nn a0 a1 h = some r) : mx_R X F L 600 [.ref a0, .int a1] h (none, r, 0, 0) := by
  have hm : mx_mt 600 = some (yJ7_fill_53178, cJ7_fill_53178, 4, none) := mt_J7_fill_53178
  show mx_S X F L 600 0 [(0, .ref a0), (1, .int a1)] [] h 0 0 (none, r, 0, 0)
  unfold f_J7_fill_53178 at hf
  refine sx_ic (v := 0) hm dJ7_fill_53178_0 (by decide) ?_
  refine mx_S.pu (pc2 := 2) (lv2 := [(2, .int 0), (0, .ref a0), (1, .int a1)]) (st2 := []) hm dJ7_fill_53178_1 rfl ?_
  refine mx_S.pu (pc2 := 3) (lv2 := [(2, .int 0), (0, .ref a0), (1, .int a1)]) (st2 := [.ref a0]) hm dJ7_fill_53178_2 rfl ?_
  replace hf := mx_sv_el hf; obtain ⟨v4, e_v4, hf⟩ := hf
  refine sx_len hm dJ7_fill_53178_3 e_v4 ?_
  clear e_v4
  refine mx_S.pu (pc2 := 5) (lv2 := [(3, .int v4), (2, .int 0), (0, .ref a0), (1, .int a1)]) (st2 := []) hm dJ7_fill_53178_4 rfl ?_
  refine mx_S.ext [(0, .ref a0), (1, .int a1), (2, .int 0), (3, .int v4)] (mx_sub_pos [2, 3, 1, 0] rfl (show ([3, 2, 0, 1] : List Nat).Nodup by decide)) ?_
  exact w_J7_fill_53178_5_ok X hF hL nn nn a0 a1 0 v4 h _ hf
set_option maxHeartbeats 4000000 in
set_option maxRecDepth 20000 in
theorem w_X4_settle_38_ok (X : Nat × (Nat → Int32)) {F L : Nat} (hF : 0 ≤ F) (hL : 0 ≤ L) (nn : Nat) {kk_2 : Nat → Int32 → mx_H → Option mx_H} (hk_2 : ∀ (l0 : Nat) (l1 : Int32) (h : mx_H) (r : mx_H), kk_2 l0 l1 h = some r → mx_S X F L 133 2 [(0, .ref l0), (1, .int l1)] [] h 0 0 (none, r, 0, 0)) : ∀ (k : Nat) (l0 : Nat) (l1 : Int32) (l2 : Int32) (l3 : Int32) (h : mx_H) (r : mx_H), w_X4_settle_38 nn kk_2 k l0 l1 l2 l3 h = some r → mx_S X F L 133 38 [(0, .ref l0), (1, .int l1), (2, .int l2), (3, .int l3)] [] h 0 0 (none, r, 0, 0) := by
  have hm : mx_mt 133 = some (yX4_settle, cX4_settle, 4, none) := mt_X4_settle
  intro k
  induction k with
  | zero => intro l0 l1 l2 l3 h r hf; cases hf
  | succ k ih =>
    intro l0 l1 l2 l3 h r hf
    unfold w_X4_settle_38 at hf
    refine mx_S.pu (pc2 := 39) (lv2 := [(0, .ref l0), (1, .int l1), (2, .int l2), (3, .int l3)]) (st2 := [.int l3]) hm dX4_settle_38 rfl ?_
    refine sx_bi (v := 16) hm dX4_settle_39 (by decide) ?_
    rcases mx_if_el hf with ⟨c13, hf⟩ | ⟨c13, hf⟩
    · refine sb_ic_ge hm dX4_settle_41 (tgt := 79) rfl (fun _ => ?_) (fun z => absurd c13 z)
      replace hf := xl_el hf; obtain ⟨v1, e_v1, hf⟩ := hf
      refine mx_S.pu (pc2 := 82) (lv2 := [(1, .int v1), (0, .ref l0), (2, .int l2), (3, .int l3)]) (st2 := []) hm dX4_settle_79 (by rw [← e_v1]; rfl) ?_
      clear e_v1
      refine mx_S.pu (pc2 := 2) (lv2 := [(1, .int v1), (0, .ref l0), (2, .int l2), (3, .int l3)]) (st2 := []) hm dX4_settle_82 rfl ?_
      refine mx_S.ext [(0, .ref l0), (1, .int v1)] (mx_sub_pos [1, 0] rfl (show ([1, 0, 2, 3] : List Nat).Nodup by decide)) ?_
      exact hk_2 l0 v1 h _ hf
    · refine sb_ic_ge hm dX4_settle_41 (tgt := 79) rfl (fun z => absurd z c13) (fun _ => ?_)
      refine mx_S.pu (pc2 := 45) (lv2 := [(0, .ref l0), (1, .int l1), (2, .int l2), (3, .int l3)]) (st2 := [.int l2]) hm dX4_settle_44 rfl ?_
      rcases mx_if_el hf with ⟨c12, hf⟩ | ⟨c12, hf⟩
      · refine sb_if_lt hm dX4_settle_45 (tgt := 79) rfl (fun _ => ?_) (fun z => absurd c12 z)
        replace hf := xl_el hf; obtain ⟨v2, e_v2, hf⟩ := hf
        refine mx_S.pu (pc2 := 82) (lv2 := [(1, .int v2), (0, .ref l0), (2, .int l2), (3, .int l3)]) (st2 := []) hm dX4_settle_79 (by rw [← e_v2]; rfl) ?_
        clear e_v2
        refine mx_S.pu (pc2 := 2) (lv2 := [(1, .int v2), (0, .ref l0), (2, .int l2), (3, .int l3)]) (st2 := []) hm dX4_settle_82 rfl ?_
        refine mx_S.ext [(0, .ref l0), (1, .int v2)] (mx_sub_pos [1, 0] rfl (show ([1, 0, 2, 3] : List Nat).Nodup by decide)) ?_
        exact hk_2 l0 v2 h _ hf
      · refine sb_if_lt hm dX4_settle_45 (tgt := 79) rfl (fun z => absurd z c12) (fun _ => ?_)
        refine mx_S.pu (pc2 := 49) (lv2 := [(0, .ref l0), (1, .int l1), (2, .int l2), (3, .int l3)]) (st2 := [.int l2]) hm dX4_settle_48 rfl ?_
        refine sx_bi (v := 16) hm dX4_settle_49 (by decide) ?_
        rcases mx_if_el hf with ⟨c11, hf⟩ | ⟨c11, hf⟩
        · refine sb_ic_ge hm dX4_settle_51 (tgt := 79) rfl (fun _ => ?_) (fun z => absurd c11 z)
          replace hf := xl_el hf; obtain ⟨v3, e_v3, hf⟩ := hf
          refine mx_S.pu (pc2 := 82) (lv2 := [(1, .int v3), (0, .ref l0), (2, .int l2), (3, .int l3)]) (st2 := []) hm dX4_settle_79 (by rw [← e_v3]; rfl) ?_
          clear e_v3
          refine mx_S.pu (pc2 := 2) (lv2 := [(1, .int v3), (0, .ref l0), (2, .int l2), (3, .int l3)]) (st2 := []) hm dX4_settle_82 rfl ?_
          refine mx_S.ext [(0, .ref l0), (1, .int v3)] (mx_sub_pos [1, 0] rfl (show ([1, 0, 2, 3] : List Nat).Nodup by decide)) ?_
          exact hk_2 l0 v3 h _ hf
        · refine sb_ic_ge hm dX4_settle_51 (tgt := 79) rfl (fun z => absurd z c11) (fun _ => ?_)
          refine mx_S.pu (pc2 := 55) (lv2 := [(0, .ref l0), (1, .int l1), (2, .int l2), (3, .int l3)]) (st2 := [.ref l0]) hm dX4_settle_54 rfl ?_
          replace hf := mx_sv_el hf; obtain ⟨v4, e_v4, hf⟩ := hf
          refine sx_get hm dX4_settle_55 rs_RX4_15 (xgr_el e_v4) ?_
          clear e_v4
          refine mx_S.pu (pc2 := 59) (lv2 := [(0, .ref l0), (1, .int l1), (2, .int l2), (3, .int l3)]) (st2 := [.int l1, .ref v4]) hm dX4_settle_58 rfl ?_
          refine sx_bi (v := 16) hm dX4_settle_59 (by decide) ?_
          replace hf := xl_el hf; obtain ⟨v5, e_v5, hf⟩ := hf
          refine mx_S.pu (pc2 := 62) (lv2 := [(0, .ref l0), (1, .int l1), (2, .int l2), (3, .int l3)]) (st2 := [.int v5, .ref v4]) hm dX4_settle_61 (by rw [← e_v5]; rfl) ?_
          clear e_v5
          refine mx_S.pu (pc2 := 63) (lv2 := [(0, .ref l0), (1, .int l1), (2, .int l2), (3, .int l3)]) (st2 := [.int l2, .int v5, .ref v4]) hm dX4_settle_62 rfl ?_
          replace hf := xl_el hf; obtain ⟨v6, e_v6, hf⟩ := hf
          refine mx_S.pu (pc2 := 64) (lv2 := [(0, .ref l0), (1, .int l1), (2, .int l2), (3, .int l3)]) (st2 := [.int v6, .ref v4]) hm dX4_settle_63 (by rw [← e_v6]; rfl) ?_
          clear e_v6
          refine sx_ic (v := 1) hm dX4_settle_64 (by decide) ?_
          replace hf := mx_sv_el hf; obtain ⟨h7, e_h7, hf⟩ := hf
          refine sx_bst hm dX4_settle_65 e_h7 ?_
          clear e_h7
          refine mx_S.pu (pc2 := 67) (lv2 := [(0, .ref l0), (1, .int l1), (2, .int l2), (3, .int l3)]) (st2 := [.ref l0]) hm dX4_settle_66 rfl ?_
          replace hf := mx_sv_el hf; obtain ⟨v8, e_v8, hf⟩ := hf
          refine sx_get hm dX4_settle_67 rs_RX4_11 (xgr_el e_v8) ?_
          clear e_v8
          refine mx_S.pu (pc2 := 71) (lv2 := [(0, .ref l0), (1, .int l1), (2, .int l2), (3, .int l3)]) (st2 := [.int l2, .ref v8]) hm dX4_settle_70 rfl ?_
          replace hf := mx_sv_el hf; obtain ⟨v9, e_v9, hf⟩ := hf
          refine sx_ald hm dX4_settle_71 e_v9 ?_
          clear e_v9
          refine mx_S.pu (pc2 := 73) (lv2 := [(2, .int v9), (0, .ref l0), (1, .int l1), (3, .int l3)]) (st2 := []) hm dX4_settle_72 rfl ?_
          replace hf := xl_el hf; obtain ⟨v10, e_v10, hf⟩ := hf
          refine mx_S.pu (pc2 := 76) (lv2 := [(3, .int v10), (2, .int v9), (0, .ref l0), (1, .int l1)]) (st2 := []) hm dX4_settle_73 (by rw [← e_v10]; rfl) ?_
          clear e_v10
          refine mx_S.pu (pc2 := 38) (lv2 := [(3, .int v10), (2, .int v9), (0, .ref l0), (1, .int l1)]) (st2 := []) hm dX4_settle_76 rfl ?_
          refine mx_S.ext [(0, .ref l0), (1, .int l1), (2, .int v9), (3, .int v10)] (mx_sub_pos [2, 3, 1, 0] rfl (show ([3, 2, 0, 1] : List Nat).Nodup by decide)) ?_
          exact ih l0 l1 v9 v10 h7 _ hf
set_option maxHeartbeats 4000000 in
set_option maxRecDepth 20000 in
theorem w_X4_settle_10_ok (X : Nat × (Nat → Int32)) {F L : Nat} (hF : 0 ≤ F) (hL : 0 ≤ L) (nn : Nat) {kk_2 : Nat → Int32 → mx_H → Option mx_H} (hk_2 : ∀ (l0 : Nat) (l1 : Int32) (h : mx_H) (r : mx_H), kk_2 l0 l1 h = some r → mx_S X F L 133 2 [(0, .ref l0), (1, .int l1)] [] h 0 0 (none, r, 0, 0)) : ∀ (k : Nat) (l0 : Nat) (l1 : Int32) (l2 : Int32) (h : mx_H) (r : mx_H), w_X4_settle_10 nn kk_2 k l0 l1 l2 h = some r → mx_S X F L 133 10 [(0, .ref l0), (1, .int l1), (2, .int l2)] [] h 0 0 (none, r, 0, 0) := by
  have hm : mx_mt 133 = some (yX4_settle, cX4_settle, 4, none) := mt_X4_settle
  intro k
  induction k with
  | zero => intro l0 l1 l2 h r hf; cases hf
  | succ k ih =>
    intro l0 l1 l2 h r hf
    unfold w_X4_settle_10 at hf
    refine mx_S.pu (pc2 := 11) (lv2 := [(0, .ref l0), (1, .int l1), (2, .int l2)]) (st2 := [.int l2]) hm dX4_settle_10 rfl ?_
    refine sx_bi (v := 16) hm dX4_settle_11 (by decide) ?_
    rcases mx_if_el hf with ⟨c19, hf⟩ | ⟨c19, hf⟩
    · refine sb_ic_ge hm dX4_settle_13 (tgt := 34) rfl (fun _ => ?_) (fun z => absurd c19 z)
      refine mx_S.pu (pc2 := 35) (lv2 := [(0, .ref l0), (1, .int l1), (2, .int l2)]) (st2 := [.int l1]) hm dX4_settle_34 rfl ?_
      refine mx_S.pu (pc2 := 36) (lv2 := [(2, .int l1), (0, .ref l0), (1, .int l1)]) (st2 := []) hm dX4_settle_35 rfl ?_
      refine sx_ic (v := 0) hm dX4_settle_36 (by decide) ?_
      refine mx_S.pu (pc2 := 38) (lv2 := [(3, .int 0), (2, .int l1), (0, .ref l0), (1, .int l1)]) (st2 := []) hm dX4_settle_37 rfl ?_
      refine mx_S.ext [(0, .ref l0), (1, .int l1), (2, .int l1), (3, .int 0)] (mx_sub_pos [2, 3, 1, 0] rfl (show ([3, 2, 0, 1] : List Nat).Nodup by decide)) ?_
      exact w_X4_settle_38_ok X hF hL nn hk_2 nn l0 l1 l1 0 h _ hf
    · refine sb_ic_ge hm dX4_settle_13 (tgt := 34) rfl (fun z => absurd z c19) (fun _ => ?_)
      refine mx_S.pu (pc2 := 17) (lv2 := [(0, .ref l0), (1, .int l1), (2, .int l2)]) (st2 := [.ref l0]) hm dX4_settle_16 rfl ?_
      replace hf := mx_sv_el hf; obtain ⟨v14, e_v14, hf⟩ := hf
      refine sx_get hm dX4_settle_17 rs_RX4_15 (xgr_el e_v14) ?_
      clear e_v14
      refine mx_S.pu (pc2 := 21) (lv2 := [(0, .ref l0), (1, .int l1), (2, .int l2)]) (st2 := [.int l1, .ref v14]) hm dX4_settle_20 rfl ?_
      refine sx_bi (v := 16) hm dX4_settle_21 (by decide) ?_
      replace hf := xl_el hf; obtain ⟨v15, e_v15, hf⟩ := hf
      refine mx_S.pu (pc2 := 24) (lv2 := [(0, .ref l0), (1, .int l1), (2, .int l2)]) (st2 := [.int v15, .ref v14]) hm dX4_settle_23 (by rw [← e_v15]; rfl) ?_
      clear e_v15
      refine mx_S.pu (pc2 := 25) (lv2 := [(0, .ref l0), (1, .int l1), (2, .int l2)]) (st2 := [.int l2, .int v15, .ref v14]) hm dX4_settle_24 rfl ?_
      replace hf := xl_el hf; obtain ⟨v16, e_v16, hf⟩ := hf
      refine mx_S.pu (pc2 := 26) (lv2 := [(0, .ref l0), (1, .int l1), (2, .int l2)]) (st2 := [.int v16, .ref v14]) hm dX4_settle_25 (by rw [← e_v16]; rfl) ?_
      clear e_v16
      refine sx_ic (v := 0) hm dX4_settle_26 (by decide) ?_
      replace hf := mx_sv_el hf; obtain ⟨h17, e_h17, hf⟩ := hf
      refine sx_bst hm dX4_settle_27 e_h17 ?_
      clear e_h17
      replace hf := xl_el hf; obtain ⟨v18, e_v18, hf⟩ := hf
      refine mx_S.pu (pc2 := 31) (lv2 := [(2, .int v18), (0, .ref l0), (1, .int l1)]) (st2 := []) hm dX4_settle_28 (by rw [← e_v18]; rfl) ?_
      clear e_v18
      refine mx_S.pu (pc2 := 10) (lv2 := [(2, .int v18), (0, .ref l0), (1, .int l1)]) (st2 := []) hm dX4_settle_31 rfl ?_
      refine mx_S.ext [(0, .ref l0), (1, .int l1), (2, .int v18)] (mx_sub_pos [1, 2, 0] rfl (show ([2, 0, 1] : List Nat).Nodup by decide)) ?_
      exact ih l0 l1 v18 h17 _ hf
set_option maxHeartbeats 4000000 in
set_option maxRecDepth 20000 in
theorem w_X4_settle_2_ok (X : Nat × (Nat → Int32)) {F L : Nat} (hF : 0 ≤ F) (hL : 0 ≤ L) (nn : Nat) : ∀ (k : Nat) (l0 : Nat) (l1 : Int32) (h : mx_H) (r : mx_H), w_X4_settle_2 nn k l0 l1 h = some r → mx_S X F L 133 2 [(0, .ref l0), (1, .int l1)] [] h 0 0 (none, r, 0, 0) := by
  have hm : mx_mt 133 = some (yX4_settle, cX4_settle, 4, none) := mt_X4_settle
  intro k
  induction k with
  | zero => intro l0 l1 h r hf; cases hf
  | succ k ih =>
    intro l0 l1 h r hf
    unfold w_X4_settle_2 at hf
    refine mx_S.pu (pc2 := 3) (lv2 := [(0, .ref l0), (1, .int l1)]) (st2 := [.int l1]) hm dX4_settle_2 rfl ?_
    refine sx_bi (v := 16) hm dX4_settle_3 (by decide) ?_
    rcases mx_if_el hf with ⟨c20, hf⟩ | ⟨c20, hf⟩
    · refine sb_ic_ge hm dX4_settle_5 (tgt := 85) rfl (fun _ => ?_) (fun z => absurd c20 z)
      cases hf
      exact sx_ret hm dX4_settle_85 rfl
    · refine sb_ic_ge hm dX4_settle_5 (tgt := 85) rfl (fun z => absurd z c20) (fun _ => ?_)
      refine sx_ic (v := 0) hm dX4_settle_8 (by decide) ?_
      refine mx_S.pu (pc2 := 10) (lv2 := [(2, .int 0), (0, .ref l0), (1, .int l1)]) (st2 := []) hm dX4_settle_9 rfl ?_
      refine mx_S.ext [(0, .ref l0), (1, .int l1), (2, .int 0)] (mx_sub_pos [1, 2, 0] rfl (show ([2, 0, 1] : List Nat).Nodup by decide)) ?_
      exact w_X4_settle_10_ok X hF hL nn ih nn l0 l1 0 h _ hf
set_option maxHeartbeats 4000000 in
set_option maxRecDepth 20000 in
theorem f_X4_settle_ok (X : Nat × (Nat → Int32)) {F L : Nat} (hF : 0 ≤ F) (hL : 0 ≤ L) (nn : Nat) (a0 : Nat) (h : mx_H) {r : mx_H} (hf : f_X4_settle nn a0 h = some r) : mx_R X F L 133 [.ref a0] h (none, r, 0, 0) := by
  have hm : mx_mt 133 = some (yX4_settle, cX4_settle, 4, none) := mt_X4_settle
  show mx_S X F L 133 0 [(0, .ref a0)] [] h 0 0 (none, r, 0, 0)
  unfold f_X4_settle at hf
  refine sx_ic (v := 0) hm dX4_settle_0 (by decide) ?_
  refine mx_S.pu (pc2 := 2) (lv2 := [(1, .int 0), (0, .ref a0)]) (st2 := []) hm dX4_settle_1 rfl ?_
  refine mx_S.ext [(0, .ref a0), (1, .int 0)] (mx_sub_pos [1, 0] rfl (show ([1, 0] : List Nat).Nodup by decide)) ?_
  exact w_X4_settle_2_ok X hF hL nn nn a0 0 h _ hf
set_option maxHeartbeats 4000000 in
set_option maxRecDepth 20000 in
theorem w_X4_forget_10_ok (X : Nat × (Nat → Int32)) {F L : Nat} (hF : 1 ≤ F) (hL : 23 ≤ L) (nn : Nat) : ∀ (k : Nat) (l0 : Nat) (l1 : Int32) (h : mx_H) (r : mx_H), w_X4_forget_10 nn k l0 l1 h = some r → mx_S X F L 130 10 [(0, .ref l0), (1, .int l1)] [] h 0 0 (none, r, 0, 0) := by
  have hm : mx_mt 130 = some (yX4_forget, cX4_forget, 2, none) := mt_X4_forget
  intro k
  induction k with
  | zero => intro l0 l1 h r hf; cases hf
  | succ k ih =>
    intro l0 l1 h r hf
    unfold w_X4_forget_10 at hf
    refine mx_S.pu (pc2 := 11) (lv2 := [(0, .ref l0), (1, .int l1)]) (st2 := [.int l1]) hm dX4_forget_10 rfl ?_
    refine sx_bi (v := 8) hm dX4_forget_11 (by decide) ?_
    rcases mx_if_el hf with ⟨c9, hf⟩ | ⟨c9, hf⟩
    · refine sb_ic_ge hm dX4_forget_13 (tgt := 38) rfl (fun _ => ?_) (fun z => absurd c9 z)
      refine mx_S.pu (pc2 := 39) (lv2 := [(0, .ref l0), (1, .int l1)]) (st2 := [.ref l0]) hm dX4_forget_38 rfl ?_
      replace hf := mx_gd_el hf; obtain ⟨c1, hf⟩ := hf
      replace hf := mx_sv_el hf; obtain ⟨u2, e_u2, hf⟩ := hf
      refine sx_cv hm dX4_forget_39 rs_RX4_28 mt_X4_settle [] [] (b := l0) (ci := 4) rfl rfl rfl c1 (Nat.le_of_ble_eq_true rfl) (Nat.le_of_ble_eq_true rfl) (by omega) (by omega) (f_X4_settle_ok X (by omega) (by omega) nn l0 h e_u2) ?_
      clear e_u2
      show mx_S X F L 130 42 [(0, .ref l0), (1, .int l1)] [] u2 0 0 (none, r, 0, 0)
      cases hf
      exact sx_ret hm dX4_forget_42 rfl
    · refine sb_ic_ge hm dX4_forget_13 (tgt := 38) rfl (fun z => absurd z c9) (fun _ => ?_)
      refine mx_S.pu (pc2 := 17) (lv2 := [(0, .ref l0), (1, .int l1)]) (st2 := [.ref l0]) hm dX4_forget_16 rfl ?_
      replace hf := mx_sv_el hf; obtain ⟨v3, e_v3, hf⟩ := hf
      refine sx_get hm dX4_forget_17 rs_RX4_11 (xgr_el e_v3) ?_
      clear e_v3
      refine mx_S.pu (pc2 := 21) (lv2 := [(0, .ref l0), (1, .int l1)]) (st2 := [.int l1, .ref v3]) hm dX4_forget_20 rfl ?_
      refine mx_S.pu (pc2 := 22) (lv2 := [(0, .ref l0), (1, .int l1)]) (st2 := [.int l1, .int l1, .ref v3]) hm dX4_forget_21 rfl ?_
      refine sx_ic (v := 1) hm dX4_forget_22 (by decide) ?_
      rcases mx_if_el hf with ⟨c8, hf⟩ | ⟨c8, hf⟩
      · refine sb_ic_ne hm dX4_forget_23 (tgt := 30) rfl (fun _ => ?_) (fun z => absurd c8 z)
        refine sx_ic (v := 1) hm dX4_forget_30 (by decide) ?_
        replace hf := mx_sv_el hf; obtain ⟨h4, e_h4, hf⟩ := hf
        refine sx_ast hm dX4_forget_31 e_h4 ?_
        clear e_h4
        replace hf := xl_el hf; obtain ⟨v5, e_v5, hf⟩ := hf
        refine mx_S.pu (pc2 := 35) (lv2 := [(1, .int v5), (0, .ref l0)]) (st2 := []) hm dX4_forget_32 (by rw [← e_v5]; rfl) ?_
        clear e_v5
        refine mx_S.pu (pc2 := 10) (lv2 := [(1, .int v5), (0, .ref l0)]) (st2 := []) hm dX4_forget_35 rfl ?_
        refine mx_S.ext [(0, .ref l0), (1, .int v5)] (mx_sub_pos [1, 0] rfl (show ([1, 0] : List Nat).Nodup by decide)) ?_
        exact ih l0 v5 h4 _ hf
      · refine sb_ic_ne hm dX4_forget_23 (tgt := 30) rfl (fun z => absurd z c8) (fun _ => ?_)
        refine sx_ic (v := 0) hm dX4_forget_26 (by decide) ?_
        refine mx_S.pu (pc2 := 31) (lv2 := [(0, .ref l0), (1, .int l1)]) (st2 := [.int 0, .int l1, .ref v3]) hm dX4_forget_27 rfl ?_
        replace hf := mx_sv_el hf; obtain ⟨h6, e_h6, hf⟩ := hf
        refine sx_ast hm dX4_forget_31 e_h6 ?_
        clear e_h6
        replace hf := xl_el hf; obtain ⟨v7, e_v7, hf⟩ := hf
        refine mx_S.pu (pc2 := 35) (lv2 := [(1, .int v7), (0, .ref l0)]) (st2 := []) hm dX4_forget_32 (by rw [← e_v7]; rfl) ?_
        clear e_v7
        refine mx_S.pu (pc2 := 10) (lv2 := [(1, .int v7), (0, .ref l0)]) (st2 := []) hm dX4_forget_35 rfl ?_
        refine mx_S.ext [(0, .ref l0), (1, .int v7)] (mx_sub_pos [1, 0] rfl (show ([1, 0] : List Nat).Nodup by decide)) ?_
        exact ih l0 v7 h6 _ hf
set_option maxHeartbeats 4000000 in
set_option maxRecDepth 20000 in
theorem f_X4_forget_ok (X : Nat × (Nat → Int32)) {F L : Nat} (hF : 1 ≤ F) (hL : 23 ≤ L) (nn : Nat) (a0 : Nat) (h : mx_H) {r : mx_H} (hf : f_X4_forget nn a0 h = some r) : mx_R X F L 130 [.ref a0] h (none, r, 0, 0) := by
  have hm : mx_mt 130 = some (yX4_forget, cX4_forget, 2, none) := mt_X4_forget
  show mx_S X F L 130 0 [(0, .ref a0)] [] h 0 0 (none, r, 0, 0)
  unfold f_X4_forget at hf
  refine mx_S.pu (pc2 := 1) (lv2 := [(0, .ref a0)]) (st2 := [.ref a0]) hm dX4_forget_0 rfl ?_
  replace hf := mx_sv_el hf; obtain ⟨v10, e_v10, hf⟩ := hf
  refine sx_get hm dX4_forget_1 rs_RX4_11 (xgr_el e_v10) ?_
  clear e_v10
  refine sx_ic (v := (-1)) hm dX4_forget_4 (by decide) ?_
  replace hf := mx_sv_el hf; obtain ⟨u11, e_u11, hf⟩ := hf
  refine sx_cs hm dX4_forget_5 rs_RX4_22 mt_J7_fill_53178 [.ref v10, .int (-1)] [] rfl rfl (Nat.le_of_ble_eq_true rfl) (Nat.le_of_ble_eq_true rfl) (by omega) (by omega) (f_J7_fill_53178_ok X (by omega) (by omega) nn v10 (-1) h e_u11) ?_
  clear e_u11
  show mx_S X F L 130 8 [(0, .ref a0)] [] u11 0 0 (none, r, 0, 0)
  refine sx_ic (v := 1) hm dX4_forget_8 (by decide) ?_
  refine mx_S.pu (pc2 := 10) (lv2 := [(1, .int 1), (0, .ref a0)]) (st2 := []) hm dX4_forget_9 rfl ?_
  refine mx_S.ext [(0, .ref a0), (1, .int 1)] (mx_sub_pos [1, 0] rfl (show ([1, 0] : List Nat).Nodup by decide)) ?_
  exact w_X4_forget_10_ok X hF hL nn nn a0 1 u11 _ hf
set_option maxHeartbeats 4000000 in
set_option maxRecDepth 20000 in
theorem f_X7_forget_ok (X : Nat × (Nat → Int32)) {F L : Nat} (hF : 2 ≤ F) (hL : 44 ≤ L) (nn : Nat) (a0 : Nat) (h : mx_H) {r : mx_H} (hf : f_X7_forget nn a0 h = some r) : mx_R X F L 197 [.ref a0] h (none, r, 0, 0) := by
  have hm : mx_mt 197 = some (yX7_forget, cX7_forget, 1, none) := mt_X7_forget
  show mx_S X F L 197 0 [(0, .ref a0)] [] h 0 0 (none, r, 0, 0)
  unfold f_X7_forget at hf
  refine mx_S.pu (pc2 := 1) (lv2 := [(0, .ref a0)]) (st2 := [.ref a0]) hm dX7_forget_0 rfl ?_
  refine sx_ic (v := 0) hm dX7_forget_1 (by decide) ?_
  replace hf := mx_sv_el hf; obtain ⟨h1, e_h1, hf⟩ := hf
  refine sx_put hm dX7_forget_2 rs_RX7_41 ft_7_3 ⟨rfl, rfl⟩ (fun z => by cases z) e_h1 ?_
  clear e_h1
  refine mx_S.pu (pc2 := 6) (lv2 := [(0, .ref a0)]) (st2 := [.ref a0]) hm dX7_forget_5 rfl ?_
  refine sx_ic (v := 0) hm dX7_forget_6 (by decide) ?_
  replace hf := mx_sv_el hf; obtain ⟨h2, e_h2, hf⟩ := hf
  refine sx_put hm dX7_forget_7 rs_RX7_45 ft_7_4 ⟨by decide, by decide⟩ (fun z => by cases z) e_h2 ?_
  clear e_h2
  refine mx_S.pu (pc2 := 11) (lv2 := [(0, .ref a0)]) (st2 := [.ref a0]) hm dX7_forget_10 rfl ?_
  replace hf := mx_sv_el hf; obtain ⟨v3, e_v3, hf⟩ := hf
  refine sx_get hm dX7_forget_11 rs_RX7_16 (xgr_el e_v3) ?_
  clear e_v3
  replace hf := mx_gd_el hf; obtain ⟨c4, hf⟩ := hf
  replace hf := mx_sv_el hf; obtain ⟨u5, e_u5, hf⟩ := hf
  refine sx_cv hm dX7_forget_14 rs_RX7_49 mt_X4_forget [] [] (b := v3) (ci := 4) rfl rfl rfl c4 (Nat.le_of_ble_eq_true rfl) (Nat.le_of_ble_eq_true rfl) (by omega) (by omega) (f_X4_forget_ok X (by omega) (by omega) nn v3 h2 e_u5) ?_
  clear e_u5
  show mx_S X F L 197 17 [(0, .ref a0)] [] u5 0 0 (none, r, 0, 0)
  cases hf
  exact sx_ret hm dX7_forget_17 rfl
set_option maxHeartbeats 4000000 in
set_option maxRecDepth 20000 in
theorem f_X12_clear_ok (X : Nat × (Nat → Int32)) {F L : Nat} (hF : 3 ≤ F) (hL : 64 ≤ L) (nn : Nat) (a0 : Nat) (h : mx_H) {r : mx_H} (hf : f_X12_clear nn a0 h = some r) : mx_R X F L 371 [.ref a0] h (none, r, 0, 0) := by
  have hm : mx_mt 371 = some (yX12_clear, cX12_clear, 1, none) := mt_X12_clear
  show mx_S X F L 371 0 [(0, .ref a0)] [] h 0 0 (none, r, 0, 0)
  unfold f_X12_clear at hf
  refine mx_S.pu (pc2 := 1) (lv2 := [(0, .ref a0)]) (st2 := [.ref a0]) hm dX12_clear_0 rfl ?_
  replace hf := mx_sv_el hf; obtain ⟨v1, e_v1, hf⟩ := hf
  refine sx_get hm dX12_clear_1 rs_RX12_53 (xgr_el e_v1) ?_
  clear e_v1
  replace hf := mx_gd_el hf; obtain ⟨c2, hf⟩ := hf
  replace hf := mx_sv_el hf; obtain ⟨u3, e_u3, hf⟩ := hf
  refine sx_cv hm dX12_clear_4 rs_RX12_158 mt_X7_forget [] [] (b := v1) (ci := 7) rfl rfl rfl c2 (Nat.le_of_ble_eq_true rfl) (Nat.le_of_ble_eq_true rfl) (by omega) (by omega) (f_X7_forget_ok X (by omega) (by omega) nn v1 h e_u3) ?_
  clear e_u3
  show mx_S X F L 371 7 [(0, .ref a0)] [] u3 0 0 (none, r, 0, 0)
  refine mx_S.pu (pc2 := 8) (lv2 := [(0, .ref a0)]) (st2 := [.ref a0]) hm dX12_clear_7 rfl ?_
  replace hf := mx_sv_el hf; obtain ⟨v4, e_v4, hf⟩ := hf
  refine sx_get hm dX12_clear_8 rs_RX12_69 (xgr_el e_v4) ?_
  clear e_v4
  replace hf := mx_gd_el hf; obtain ⟨c5, hf⟩ := hf
  replace hf := mx_sv_el hf; obtain ⟨u6, e_u6, hf⟩ := hf
  refine sx_cv hm dX12_clear_11 rs_RX12_153 mt_X5_forget [] [] (b := v4) (ci := 5) rfl rfl rfl c5 (Nat.le_of_ble_eq_true rfl) (Nat.le_of_ble_eq_true rfl) (by omega) (by omega) (f_X5_forget_ok X (by omega) (by omega) nn v4 u3 e_u6) ?_
  clear e_u6
  show mx_S X F L 371 14 [(0, .ref a0)] [] u6 0 0 (none, r, 0, 0)
  cases hf
  exact sx_ret hm dX12_clear_14 rfl
set_option maxHeartbeats 4000000 in
set_option maxRecDepth 20000 in
theorem f_X2_isOwn_ok (X : Nat × (Nat → Int32)) {F L : Nat} (hF : 0 ≤ F) (hL : 0 ≤ L) (nn : Nat) (a0 : Int32) (h : mx_H) {r : (Int32 × mx_H)} (hf : f_X2_isOwn nn a0 h = some r) : mx_R X F L 73 [.int a0] h (some (.int r.1), r.2, 0, 0) := by
  have hm : mx_mt 73 = some (yX2_isOwn, cX2_isOwn, 1, (some .boolean)) := mt_X2_isOwn
  show mx_S X F L 73 0 [(0, .int a0)] [] h 0 0 (some (.int r.1), r.2, 0, 0)
  unfold f_X2_isOwn at hf
  refine mx_S.pu (pc2 := 1) (lv2 := [(0, .int a0)]) (st2 := [.int a0]) hm dX2_isOwn_0 rfl ?_
  refine sx_bi (v := 8) hm dX2_isOwn_1 (by decide) ?_
  rcases mx_if_el hf with ⟨c2, hf⟩ | ⟨c2, hf⟩
  · refine sb_ic_lt hm dX2_isOwn_3 (tgt := 16) rfl (fun _ => ?_) (fun z => absurd c2 z)
    refine sx_ic (v := 0) hm dX2_isOwn_16 (by decide) ?_
    cases hf
    exact sx_ire hm dX2_isOwn_17 rfl (by decide)
  · refine sb_ic_lt hm dX2_isOwn_3 (tgt := 16) rfl (fun z => absurd z c2) (fun _ => ?_)
    refine mx_S.pu (pc2 := 7) (lv2 := [(0, .int a0)]) (st2 := [.int a0]) hm dX2_isOwn_6 rfl ?_
    refine sx_bi (v := 16) hm dX2_isOwn_7 (by decide) ?_
    rcases mx_if_el hf with ⟨c1, hf⟩ | ⟨c1, hf⟩
    · refine sb_ic_ge hm dX2_isOwn_9 (tgt := 16) rfl (fun _ => ?_) (fun z => absurd c1 z)
      refine sx_ic (v := 0) hm dX2_isOwn_16 (by decide) ?_
      cases hf
      exact sx_ire hm dX2_isOwn_17 rfl (by decide)
    · refine sb_ic_ge hm dX2_isOwn_9 (tgt := 16) rfl (fun z => absurd z c1) (fun _ => ?_)
      refine sx_ic (v := 1) hm dX2_isOwn_12 (by decide) ?_
      refine mx_S.pu (pc2 := 17) (lv2 := [(0, .int a0)]) (st2 := [.int 1]) hm dX2_isOwn_13 rfl ?_
      cases hf
      exact sx_ire hm dX2_isOwn_17 rfl (by decide)
set_option maxHeartbeats 4000000 in
set_option maxRecDepth 20000 in
theorem f_X2_fieldsOf_ok (X : Nat × (Nat → Int32)) {F L : Nat} (hF : 1 ≤ F) (hL : 20 ≤ L) (nn : Nat) (a0 : Nat) (a1 : Int32) (h : mx_H) {r : (Int32 × mx_H)} (hf : f_X2_fieldsOf nn a0 a1 h = some r) : mx_R X F L 76 [.ref a0, .int a1] h (some (.int r.1), r.2, 0, 0) := by
  have hm : mx_mt 76 = some (yX2_fieldsOf, cX2_fieldsOf, 2, (some .int)) := mt_X2_fieldsOf
  show mx_S X F L 76 0 [(0, .ref a0), (1, .int a1)] [] h 0 0 (some (.int r.1), r.2, 0, 0)
  unfold f_X2_fieldsOf at hf
  refine sx_bi (v := 8) hm dX2_fieldsOf_0 (by decide) ?_
  refine mx_S.pu (pc2 := 3) (lv2 := [(0, .ref a0), (1, .int a1)]) (st2 := [.int a1, .int 8]) hm dX2_fieldsOf_2 rfl ?_
  replace hf := xl_el hf; obtain ⟨v1, e_v1, hf⟩ := hf
  refine mx_S.pu (pc2 := 4) (lv2 := [(0, .ref a0), (1, .int a1)]) (st2 := [.int v1]) hm dX2_fieldsOf_3 (by rw [← e_v1]; rfl) ?_
  clear e_v1
  replace hf := mx_sv_el hf; obtain ⟨u2, e_u2, hf⟩ := hf
  refine sx_cs hm dX2_fieldsOf_4 rs_RX2_224 mt_X2_isOwn [.int v1] [] rfl rfl (Nat.le_of_ble_eq_true rfl) (Nat.le_of_ble_eq_true rfl) (by omega) (by omega) (f_X2_isOwn_ok X (by omega) (by omega) nn v1 h e_u2) ?_
  clear e_u2
  show mx_S X F L 76 7 [(0, .ref a0), (1, .int a1)] [.int u2.1] u2.2 0 0 (some (.int r.1), r.2, 0, 0)
  rcases mx_if_el hf with ⟨c5, hf⟩ | ⟨c5, hf⟩
  · refine sb_if_eq hm dX2_fieldsOf_7 (tgt := 19) rfl (fun _ => ?_) (fun z => absurd c5 z)
    refine sx_ic (v := 0) hm dX2_fieldsOf_19 (by decide) ?_
    cases hf
    exact sx_ire hm dX2_fieldsOf_20 rfl rfl
  · refine sb_if_eq hm dX2_fieldsOf_7 (tgt := 19) rfl (fun z => absurd z c5) (fun _ => ?_)
    refine mx_S.pu (pc2 := 11) (lv2 := [(0, .ref a0), (1, .int a1)]) (st2 := [.ref a0]) hm dX2_fieldsOf_10 rfl ?_
    replace hf := mx_sv_el hf; obtain ⟨v3, e_v3, hf⟩ := hf
    refine sx_get hm dX2_fieldsOf_11 rs_RX2_27 (xgr_el e_v3) ?_
    clear e_v3
    refine mx_S.pu (pc2 := 15) (lv2 := [(0, .ref a0), (1, .int a1)]) (st2 := [.int a1, .ref v3]) hm dX2_fieldsOf_14 rfl ?_
    replace hf := mx_sv_el hf; obtain ⟨v4, e_v4, hf⟩ := hf
    refine sx_ald hm dX2_fieldsOf_15 e_v4 ?_
    clear e_v4
    refine mx_S.pu (pc2 := 20) (lv2 := [(0, .ref a0), (1, .int a1)]) (st2 := [.int v4]) hm dX2_fieldsOf_16 rfl ?_
    cases hf
    exact sx_ire hm dX2_fieldsOf_20 rfl rfl
set_option maxHeartbeats 4000000 in
set_option maxRecDepth 20000 in
theorem f_X2_kindOfField_ok (X : Nat × (Nat → Int32)) {F L : Nat} (hF : 0 ≤ F) (hL : 0 ≤ L) (nn : Nat) (a0 : Nat) (a1 : Int32) (h : mx_H) {r : (Int32 × mx_H)} (hf : f_X2_kindOfField nn a0 a1 h = some r) : mx_R X F L 80 [.ref a0, .int a1] h (some (.int r.1), r.2, 0, 0) := by
  have hm : mx_mt 80 = some (yX2_kindOfField, cX2_kindOfField, 2, (some .int)) := mt_X2_kindOfField
  show mx_S X F L 80 0 [(0, .ref a0), (1, .int a1)] [] h 0 0 (some (.int r.1), r.2, 0, 0)
  unfold f_X2_kindOfField at hf
  refine mx_S.pu (pc2 := 1) (lv2 := [(0, .ref a0), (1, .int a1)]) (st2 := [.int a1]) hm dX2_kindOfField_0 rfl ?_
  rcases mx_if_el hf with ⟨c6, hf⟩ | ⟨c6, hf⟩
  · refine sb_if_lt hm dX2_kindOfField_1 (tgt := 22) rfl (fun _ => ?_) (fun z => absurd c6 z)
    refine sx_ic (v := (-1)) hm dX2_kindOfField_22 (by decide) ?_
    cases hf
    exact sx_ire hm dX2_kindOfField_23 rfl rfl
  · refine sb_if_lt hm dX2_kindOfField_1 (tgt := 22) rfl (fun z => absurd z c6) (fun _ => ?_)
    refine mx_S.pu (pc2 := 5) (lv2 := [(0, .ref a0), (1, .int a1)]) (st2 := [.int a1]) hm dX2_kindOfField_4 rfl ?_
    refine mx_S.pu (pc2 := 6) (lv2 := [(0, .ref a0), (1, .int a1)]) (st2 := [.ref a0, .int a1]) hm dX2_kindOfField_5 rfl ?_
    replace hf := mx_sv_el hf; obtain ⟨v1, e_v1, hf⟩ := hf
    refine sx_get hm dX2_kindOfField_6 rs_RX2_36 (xgr_el e_v1) ?_
    clear e_v1
    replace hf := mx_sv_el hf; obtain ⟨v2, e_v2, hf⟩ := hf
    refine sx_len hm dX2_kindOfField_9 e_v2 ?_
    clear e_v2
    rcases mx_if_el hf with ⟨c5, hf⟩ | ⟨c5, hf⟩
    · refine sb_ic_ge hm dX2_kindOfField_10 (tgt := 22) rfl (fun _ => ?_) (fun z => absurd c5 z)
      refine sx_ic (v := (-1)) hm dX2_kindOfField_22 (by decide) ?_
      cases hf
      exact sx_ire hm dX2_kindOfField_23 rfl rfl
    · refine sb_ic_ge hm dX2_kindOfField_10 (tgt := 22) rfl (fun z => absurd z c5) (fun _ => ?_)
      refine mx_S.pu (pc2 := 14) (lv2 := [(0, .ref a0), (1, .int a1)]) (st2 := [.ref a0]) hm dX2_kindOfField_13 rfl ?_
      replace hf := mx_sv_el hf; obtain ⟨v3, e_v3, hf⟩ := hf
      refine sx_get hm dX2_kindOfField_14 rs_RX2_36 (xgr_el e_v3) ?_
      clear e_v3
      refine mx_S.pu (pc2 := 18) (lv2 := [(0, .ref a0), (1, .int a1)]) (st2 := [.int a1, .ref v3]) hm dX2_kindOfField_17 rfl ?_
      replace hf := mx_sv_el hf; obtain ⟨v4, e_v4, hf⟩ := hf
      refine sx_ald hm dX2_kindOfField_18 e_v4 ?_
      clear e_v4
      refine mx_S.pu (pc2 := 23) (lv2 := [(0, .ref a0), (1, .int a1)]) (st2 := [.int v4]) hm dX2_kindOfField_19 rfl ?_
      cases hf
      exact sx_ire hm dX2_kindOfField_23 rfl rfl
set_option maxHeartbeats 4000000 in
set_option maxRecDepth 20000 in
theorem f_X2_methodsOf_ok (X : Nat × (Nat → Int32)) {F L : Nat} (hF : 1 ≤ F) (hL : 20 ≤ L) (nn : Nat) (a0 : Nat) (a1 : Int32) (h : mx_H) {r : (Int32 × mx_H)} (hf : f_X2_methodsOf nn a0 a1 h = some r) : mx_R X F L 77 [.ref a0, .int a1] h (some (.int r.1), r.2, 0, 0) := by
  have hm : mx_mt 77 = some (yX2_methodsOf, cX2_methodsOf, 2, (some .int)) := mt_X2_methodsOf
  show mx_S X F L 77 0 [(0, .ref a0), (1, .int a1)] [] h 0 0 (some (.int r.1), r.2, 0, 0)
  unfold f_X2_methodsOf at hf
  refine sx_bi (v := 8) hm dX2_methodsOf_0 (by decide) ?_
  refine mx_S.pu (pc2 := 3) (lv2 := [(0, .ref a0), (1, .int a1)]) (st2 := [.int a1, .int 8]) hm dX2_methodsOf_2 rfl ?_
  replace hf := xl_el hf; obtain ⟨v1, e_v1, hf⟩ := hf
  refine mx_S.pu (pc2 := 4) (lv2 := [(0, .ref a0), (1, .int a1)]) (st2 := [.int v1]) hm dX2_methodsOf_3 (by rw [← e_v1]; rfl) ?_
  clear e_v1
  replace hf := mx_sv_el hf; obtain ⟨u2, e_u2, hf⟩ := hf
  refine sx_cs hm dX2_methodsOf_4 rs_RX2_224 mt_X2_isOwn [.int v1] [] rfl rfl (Nat.le_of_ble_eq_true rfl) (Nat.le_of_ble_eq_true rfl) (by omega) (by omega) (f_X2_isOwn_ok X (by omega) (by omega) nn v1 h e_u2) ?_
  clear e_u2
  show mx_S X F L 77 7 [(0, .ref a0), (1, .int a1)] [.int u2.1] u2.2 0 0 (some (.int r.1), r.2, 0, 0)
  rcases mx_if_el hf with ⟨c5, hf⟩ | ⟨c5, hf⟩
  · refine sb_if_eq hm dX2_methodsOf_7 (tgt := 19) rfl (fun _ => ?_) (fun z => absurd c5 z)
    refine sx_ic (v := 0) hm dX2_methodsOf_19 (by decide) ?_
    cases hf
    exact sx_ire hm dX2_methodsOf_20 rfl rfl
  · refine sb_if_eq hm dX2_methodsOf_7 (tgt := 19) rfl (fun z => absurd z c5) (fun _ => ?_)
    refine mx_S.pu (pc2 := 11) (lv2 := [(0, .ref a0), (1, .int a1)]) (st2 := [.ref a0]) hm dX2_methodsOf_10 rfl ?_
    replace hf := mx_sv_el hf; obtain ⟨v3, e_v3, hf⟩ := hf
    refine sx_get hm dX2_methodsOf_11 rs_RX2_39 (xgr_el e_v3) ?_
    clear e_v3
    refine mx_S.pu (pc2 := 15) (lv2 := [(0, .ref a0), (1, .int a1)]) (st2 := [.int a1, .ref v3]) hm dX2_methodsOf_14 rfl ?_
    replace hf := mx_sv_el hf; obtain ⟨v4, e_v4, hf⟩ := hf
    refine sx_ald hm dX2_methodsOf_15 e_v4 ?_
    clear e_v4
    refine mx_S.pu (pc2 := 20) (lv2 := [(0, .ref a0), (1, .int a1)]) (st2 := [.int v4]) hm dX2_methodsOf_16 rfl ?_
    cases hf
    exact sx_ire hm dX2_methodsOf_20 rfl rfl
set_option maxHeartbeats 4000000 in
set_option maxRecDepth 20000 in
theorem f_X2_nameOfField_ok (X : Nat × (Nat → Int32)) {F L : Nat} (hF : 0 ≤ F) (hL : 0 ≤ L) (nn : Nat) (a0 : Nat) (a1 : Int32) (h : mx_H) {r : (Int32 × mx_H)} (hf : f_X2_nameOfField nn a0 a1 h = some r) : mx_R X F L 79 [.ref a0, .int a1] h (some (.int r.1), r.2, 0, 0) := by
  have hm : mx_mt 79 = some (yX2_nameOfField, cX2_nameOfField, 2, (some .int)) := mt_X2_nameOfField
  show mx_S X F L 79 0 [(0, .ref a0), (1, .int a1)] [] h 0 0 (some (.int r.1), r.2, 0, 0)
  unfold f_X2_nameOfField at hf
  refine mx_S.pu (pc2 := 1) (lv2 := [(0, .ref a0), (1, .int a1)]) (st2 := [.int a1]) hm dX2_nameOfField_0 rfl ?_
  rcases mx_if_el hf with ⟨c6, hf⟩ | ⟨c6, hf⟩
  · refine sb_if_lt hm dX2_nameOfField_1 (tgt := 22) rfl (fun _ => ?_) (fun z => absurd c6 z)
    refine sx_ic (v := (-1)) hm dX2_nameOfField_22 (by decide) ?_
    cases hf
    exact sx_ire hm dX2_nameOfField_23 rfl rfl
  · refine sb_if_lt hm dX2_nameOfField_1 (tgt := 22) rfl (fun z => absurd z c6) (fun _ => ?_)
    refine mx_S.pu (pc2 := 5) (lv2 := [(0, .ref a0), (1, .int a1)]) (st2 := [.int a1]) hm dX2_nameOfField_4 rfl ?_
    refine mx_S.pu (pc2 := 6) (lv2 := [(0, .ref a0), (1, .int a1)]) (st2 := [.ref a0, .int a1]) hm dX2_nameOfField_5 rfl ?_
    replace hf := mx_sv_el hf; obtain ⟨v1, e_v1, hf⟩ := hf
    refine sx_get hm dX2_nameOfField_6 rs_RX2_30 (xgr_el e_v1) ?_
    clear e_v1
    replace hf := mx_sv_el hf; obtain ⟨v2, e_v2, hf⟩ := hf
    refine sx_len hm dX2_nameOfField_9 e_v2 ?_
    clear e_v2
    rcases mx_if_el hf with ⟨c5, hf⟩ | ⟨c5, hf⟩
    · refine sb_ic_ge hm dX2_nameOfField_10 (tgt := 22) rfl (fun _ => ?_) (fun z => absurd c5 z)
      refine sx_ic (v := (-1)) hm dX2_nameOfField_22 (by decide) ?_
      cases hf
      exact sx_ire hm dX2_nameOfField_23 rfl rfl
    · refine sb_ic_ge hm dX2_nameOfField_10 (tgt := 22) rfl (fun z => absurd z c5) (fun _ => ?_)
      refine mx_S.pu (pc2 := 14) (lv2 := [(0, .ref a0), (1, .int a1)]) (st2 := [.ref a0]) hm dX2_nameOfField_13 rfl ?_
      replace hf := mx_sv_el hf; obtain ⟨v3, e_v3, hf⟩ := hf
      refine sx_get hm dX2_nameOfField_14 rs_RX2_30 (xgr_el e_v3) ?_
      clear e_v3
      refine mx_S.pu (pc2 := 18) (lv2 := [(0, .ref a0), (1, .int a1)]) (st2 := [.int a1, .ref v3]) hm dX2_nameOfField_17 rfl ?_
      replace hf := mx_sv_el hf; obtain ⟨v4, e_v4, hf⟩ := hf
      refine sx_ald hm dX2_nameOfField_18 e_v4 ?_
      clear e_v4
      refine mx_S.pu (pc2 := 23) (lv2 := [(0, .ref a0), (1, .int a1)]) (st2 := [.int v4]) hm dX2_nameOfField_19 rfl ?_
      cases hf
      exact sx_ire hm dX2_nameOfField_23 rfl rfl
set_option maxHeartbeats 4000000 in
set_option maxRecDepth 20000 in
theorem f_X4_isClass_ok (X : Nat × (Nat → Int32)) {F L : Nat} (hF : 0 ≤ F) (hL : 0 ≤ L) (nn : Nat) (a0 : Int32) (h : mx_H) {r : (Int32 × mx_H)} (hf : f_X4_isClass nn a0 h = some r) : mx_R X F L 134 [.int a0] h (some (.int r.1), r.2, 0, 0) := by
  have hm : mx_mt 134 = some (yX4_isClass, cX4_isClass, 1, (some .boolean)) := mt_X4_isClass
  show mx_S X F L 134 0 [(0, .int a0)] [] h 0 0 (some (.int r.1), r.2, 0, 0)
  unfold f_X4_isClass at hf
  refine mx_S.pu (pc2 := 1) (lv2 := [(0, .int a0)]) (st2 := [.int a0]) hm dX4_isClass_0 rfl ?_
  rcases mx_if_el hf with ⟨c2, hf⟩ | ⟨c2, hf⟩
  · refine sb_if_lt hm dX4_isClass_1 (tgt := 14) rfl (fun _ => ?_) (fun z => absurd c2 z)
    refine sx_ic (v := 0) hm dX4_isClass_14 (by decide) ?_
    cases hf
    exact sx_ire hm dX4_isClass_15 rfl (by decide)
  · refine sb_if_lt hm dX4_isClass_1 (tgt := 14) rfl (fun z => absurd z c2) (fun _ => ?_)
    refine mx_S.pu (pc2 := 5) (lv2 := [(0, .int a0)]) (st2 := [.int a0]) hm dX4_isClass_4 rfl ?_
    refine sx_bi (v := 16) hm dX4_isClass_5 (by decide) ?_
    rcases mx_if_el hf with ⟨c1, hf⟩ | ⟨c1, hf⟩
    · refine sb_ic_ge hm dX4_isClass_7 (tgt := 14) rfl (fun _ => ?_) (fun z => absurd c1 z)
      refine sx_ic (v := 0) hm dX4_isClass_14 (by decide) ?_
      cases hf
      exact sx_ire hm dX4_isClass_15 rfl (by decide)
    · refine sb_ic_ge hm dX4_isClass_7 (tgt := 14) rfl (fun z => absurd z c1) (fun _ => ?_)
      refine sx_ic (v := 1) hm dX4_isClass_10 (by decide) ?_
      refine mx_S.pu (pc2 := 15) (lv2 := [(0, .int a0)]) (st2 := [.int 1]) hm dX4_isClass_11 rfl ?_
      cases hf
      exact sx_ire hm dX4_isClass_15 rfl (by decide)
set_option maxHeartbeats 4000000 in
set_option maxRecDepth 20000 in
theorem f_X4_above_ok (X : Nat × (Nat → Int32)) {F L : Nat} (hF : 1 ≤ F) (hL : 20 ≤ L) (nn : Nat) (a0 : Nat) (a1 : Int32) (h : mx_H) {r : (Int32 × mx_H)} (hf : f_X4_above nn a0 a1 h = some r) : mx_R X F L 131 [.ref a0, .int a1] h (some (.int r.1), r.2, 0, 0) := by
  have hm : mx_mt 131 = some (yX4_above, cX4_above, 2, (some .int)) := mt_X4_above
  show mx_S X F L 131 0 [(0, .ref a0), (1, .int a1)] [] h 0 0 (some (.int r.1), r.2, 0, 0)
  unfold f_X4_above at hf
  refine mx_S.pu (pc2 := 1) (lv2 := [(0, .ref a0), (1, .int a1)]) (st2 := [.int a1]) hm dX4_above_0 rfl ?_
  replace hf := mx_sv_el hf; obtain ⟨u1, e_u1, hf⟩ := hf
  refine sx_cs hm dX4_above_1 rs_RX4_31 mt_X4_isClass [.int a1] [] rfl rfl (Nat.le_of_ble_eq_true rfl) (Nat.le_of_ble_eq_true rfl) (by omega) (by omega) (f_X4_isClass_ok X (by omega) (by omega) nn a1 h e_u1) ?_
  clear e_u1
  show mx_S X F L 131 4 [(0, .ref a0), (1, .int a1)] [.int u1.1] u1.2 0 0 (some (.int r.1), r.2, 0, 0)
  rcases mx_if_el hf with ⟨c4, hf⟩ | ⟨c4, hf⟩
  · refine sb_if_eq hm dX4_above_4 (tgt := 16) rfl (fun _ => ?_) (fun z => absurd c4 z)
    refine sx_ic (v := (-1)) hm dX4_above_16 (by decide) ?_
    cases hf
    exact sx_ire hm dX4_above_17 rfl rfl
  · refine sb_if_eq hm dX4_above_4 (tgt := 16) rfl (fun z => absurd z c4) (fun _ => ?_)
    refine mx_S.pu (pc2 := 8) (lv2 := [(0, .ref a0), (1, .int a1)]) (st2 := [.ref a0]) hm dX4_above_7 rfl ?_
    replace hf := mx_sv_el hf; obtain ⟨v2, e_v2, hf⟩ := hf
    refine sx_get hm dX4_above_8 rs_RX4_11 (xgr_el e_v2) ?_
    clear e_v2
    refine mx_S.pu (pc2 := 12) (lv2 := [(0, .ref a0), (1, .int a1)]) (st2 := [.int a1, .ref v2]) hm dX4_above_11 rfl ?_
    replace hf := mx_sv_el hf; obtain ⟨v3, e_v3, hf⟩ := hf
    refine sx_ald hm dX4_above_12 e_v3 ?_
    clear e_v3
    refine mx_S.pu (pc2 := 17) (lv2 := [(0, .ref a0), (1, .int a1)]) (st2 := [.int v3]) hm dX4_above_13 rfl ?_
    cases hf
    exact sx_ire hm dX4_above_17 rfl rfl
set_option maxHeartbeats 4000000 in
set_option maxRecDepth 20000 in
theorem j_X2_nameOfType_34_ok (X : Nat × (Nat → Int32)) {F L : Nat} (hF : 0 ≤ F) (hL : 0 ≤ L) (nn : Nat) (l0 : Nat) (l1 : Int32) (s0 : Int32) (h : mx_H) {r : (Int32 × mx_H)} (hf : j_X2_nameOfType_34 nn l0 l1 s0 h = some r) : mx_S X F L 59 34 [(0, .ref l0), (1, .int l1)] [.int s0] h 0 0 (some (.int r.1), r.2, 0, 0) := by
  have hm : mx_mt 59 = some (yX2_nameOfType, cX2_nameOfType, 3, (some .int)) := mt_X2_nameOfType
  unfold j_X2_nameOfType_34 at hf
  refine mx_S.pu (pc2 := 35) (lv2 := [(2, .int s0), (0, .ref l0), (1, .int l1)]) (st2 := []) hm dX2_nameOfType_34 rfl ?_
  refine mx_S.pu (pc2 := 36) (lv2 := [(2, .int s0), (0, .ref l0), (1, .int l1)]) (st2 := [.int s0]) hm dX2_nameOfType_35 rfl ?_
  rcases mx_if_el hf with ⟨c5, hf⟩ | ⟨c5, hf⟩
  · refine sb_if_eq hm dX2_nameOfType_36 (tgt := 54) rfl (fun _ => ?_) (fun z => absurd c5 z)
    refine sx_bi (v := 31) hm dX2_nameOfType_54 (by decide) ?_
    cases hf
    exact sx_ire hm dX2_nameOfType_56 rfl rfl
  · refine sb_if_eq hm dX2_nameOfType_36 (tgt := 54) rfl (fun z => absurd z c5) (fun _ => ?_)
    refine mx_S.pu (pc2 := 40) (lv2 := [(2, .int s0), (0, .ref l0), (1, .int l1)]) (st2 := [.ref l0]) hm dX2_nameOfType_39 rfl ?_
    replace hf := mx_sv_el hf; obtain ⟨v1, e_v1, hf⟩ := hf
    refine sx_get hm dX2_nameOfType_40 rs_RX2_67 (xgr_el e_v1) ?_
    clear e_v1
    refine sx_bi (v := 16) hm dX2_nameOfType_43 (by decide) ?_
    refine mx_S.pu (pc2 := 46) (lv2 := [(2, .int s0), (0, .ref l0), (1, .int l1)]) (st2 := [.int l1, .int 16, .ref v1]) hm dX2_nameOfType_45 rfl ?_
    replace hf := xl_el hf; obtain ⟨v2, e_v2, hf⟩ := hf
    refine mx_S.pu (pc2 := 47) (lv2 := [(2, .int s0), (0, .ref l0), (1, .int l1)]) (st2 := [.int v2, .ref v1]) hm dX2_nameOfType_46 (by rw [← e_v2]; rfl) ?_
    clear e_v2
    refine sx_bi (v := 100) hm dX2_nameOfType_47 (by decide) ?_
    replace hf := xl_el hf; obtain ⟨v3, e_v3, hf⟩ := hf
    refine mx_S.pu (pc2 := 50) (lv2 := [(2, .int s0), (0, .ref l0), (1, .int l1)]) (st2 := [.int v3, .ref v1]) hm dX2_nameOfType_49 (by rw [← e_v3]; rfl) ?_
    clear e_v3
    replace hf := mx_sv_el hf; obtain ⟨v4, e_v4, hf⟩ := hf
    refine sx_ald hm dX2_nameOfType_50 e_v4 ?_
    clear e_v4
    refine mx_S.pu (pc2 := 56) (lv2 := [(2, .int s0), (0, .ref l0), (1, .int l1)]) (st2 := [.int v4]) hm dX2_nameOfType_51 rfl ?_
    cases hf
    exact sx_ire hm dX2_nameOfType_56 rfl rfl
set_option maxHeartbeats 4000000 in
set_option maxRecDepth 20000 in
theorem j_X2_nameOfType_33_ok (X : Nat × (Nat → Int32)) {F L : Nat} (hF : 0 ≤ F) (hL : 0 ≤ L) (nn : Nat) (l0 : Nat) (l1 : Int32) (h : mx_H) {r : (Int32 × mx_H)} (hf : j_X2_nameOfType_33 nn l0 l1 h = some r) : mx_S X F L 59 33 [(0, .ref l0), (1, .int l1)] [] h 0 0 (some (.int r.1), r.2, 0, 0) := by
  have hm : mx_mt 59 = some (yX2_nameOfType, cX2_nameOfType, 3, (some .int)) := mt_X2_nameOfType
  unfold j_X2_nameOfType_33 at hf
  refine sx_ic (v := 0) hm dX2_nameOfType_33 (by decide) ?_
  exact j_X2_nameOfType_34_ok X hF hL nn l0 l1 0 h hf
set_option maxHeartbeats 4000000 in
set_option maxRecDepth 20000 in
theorem j_X2_nameOfType_17_ok (X : Nat × (Nat → Int32)) {F L : Nat} (hF : 0 ≤ F) (hL : 0 ≤ L) (nn : Nat) (l0 : Nat) (l1 : Int32) (h : mx_H) {r : (Int32 × mx_H)} (hf : j_X2_nameOfType_17 nn l0 l1 h = some r) : mx_S X F L 59 17 [(0, .ref l0), (1, .int l1)] [] h 0 0 (some (.int r.1), r.2, 0, 0) := by
  have hm : mx_mt 59 = some (yX2_nameOfType, cX2_nameOfType, 3, (some .int)) := mt_X2_nameOfType
  unfold j_X2_nameOfType_17 at hf
  refine mx_S.pu (pc2 := 18) (lv2 := [(0, .ref l0), (1, .int l1)]) (st2 := [.int l1]) hm dX2_nameOfType_17 rfl ?_
  refine sx_bi (v := 100) hm dX2_nameOfType_18 (by decide) ?_
  rcases mx_if_el hf with ⟨c7, hf⟩ | ⟨c7, hf⟩
  · refine sb_ic_lt hm dX2_nameOfType_20 (tgt := 33) rfl (fun _ => ?_) (fun z => absurd c7 z)
    exact j_X2_nameOfType_33_ok X hF hL nn l0 l1 h hf
  · refine sb_ic_lt hm dX2_nameOfType_20 (tgt := 33) rfl (fun z => absurd z c7) (fun _ => ?_)
    refine mx_S.pu (pc2 := 24) (lv2 := [(0, .ref l0), (1, .int l1)]) (st2 := [.int l1]) hm dX2_nameOfType_23 rfl ?_
    refine sx_bi (v := 116) hm dX2_nameOfType_24 (by decide) ?_
    rcases mx_if_el hf with ⟨c6, hf⟩ | ⟨c6, hf⟩
    · refine sb_ic_ge hm dX2_nameOfType_26 (tgt := 33) rfl (fun _ => ?_) (fun z => absurd c6 z)
      exact j_X2_nameOfType_33_ok X hF hL nn l0 l1 h hf
    · refine sb_ic_ge hm dX2_nameOfType_26 (tgt := 33) rfl (fun z => absurd z c6) (fun _ => ?_)
      refine sx_ic (v := 1) hm dX2_nameOfType_29 (by decide) ?_
      refine mx_S.pu (pc2 := 34) (lv2 := [(0, .ref l0), (1, .int l1)]) (st2 := [.int 1]) hm dX2_nameOfType_30 rfl ?_
      exact j_X2_nameOfType_34_ok X hF hL nn l0 l1 1 h hf
set_option maxHeartbeats 4000000 in
set_option maxRecDepth 20000 in
theorem f_X2_nameOfType_ok (X : Nat × (Nat → Int32)) {F L : Nat} (hF : 0 ≤ F) (hL : 0 ≤ L) (nn : Nat) (a0 : Nat) (a1 : Int32) (h : mx_H) {r : (Int32 × mx_H)} (hf : f_X2_nameOfType nn a0 a1 h = some r) : mx_R X F L 59 [.ref a0, .int a1] h (some (.int r.1), r.2, 0, 0) := by
  have hm : mx_mt 59 = some (yX2_nameOfType, cX2_nameOfType, 3, (some .int)) := mt_X2_nameOfType
  show mx_S X F L 59 0 [(0, .ref a0), (1, .int a1)] [] h 0 0 (some (.int r.1), r.2, 0, 0)
  unfold f_X2_nameOfType at hf
  refine mx_S.pu (pc2 := 1) (lv2 := [(0, .ref a0), (1, .int a1)]) (st2 := [.int a1]) hm dX2_nameOfType_0 rfl ?_
  rcases mx_if_el hf with ⟨c11, hf⟩ | ⟨c11, hf⟩
  · refine sb_if_lt hm dX2_nameOfType_1 (tgt := 17) rfl (fun _ => ?_) (fun z => absurd c11 z)
    exact j_X2_nameOfType_17_ok X hF hL nn a0 a1 h hf
  · refine sb_if_lt hm dX2_nameOfType_1 (tgt := 17) rfl (fun z => absurd z c11) (fun _ => ?_)
    refine mx_S.pu (pc2 := 5) (lv2 := [(0, .ref a0), (1, .int a1)]) (st2 := [.int a1]) hm dX2_nameOfType_4 rfl ?_
    refine sx_bi (v := 16) hm dX2_nameOfType_5 (by decide) ?_
    rcases mx_if_el hf with ⟨c10, hf⟩ | ⟨c10, hf⟩
    · refine sb_ic_ge hm dX2_nameOfType_7 (tgt := 17) rfl (fun _ => ?_) (fun z => absurd c10 z)
      exact j_X2_nameOfType_17_ok X hF hL nn a0 a1 h hf
    · refine sb_ic_ge hm dX2_nameOfType_7 (tgt := 17) rfl (fun z => absurd z c10) (fun _ => ?_)
      refine mx_S.pu (pc2 := 11) (lv2 := [(0, .ref a0), (1, .int a1)]) (st2 := [.ref a0]) hm dX2_nameOfType_10 rfl ?_
      replace hf := mx_sv_el hf; obtain ⟨v8, e_v8, hf⟩ := hf
      refine sx_get hm dX2_nameOfType_11 rs_RX2_67 (xgr_el e_v8) ?_
      clear e_v8
      refine mx_S.pu (pc2 := 15) (lv2 := [(0, .ref a0), (1, .int a1)]) (st2 := [.int a1, .ref v8]) hm dX2_nameOfType_14 rfl ?_
      replace hf := mx_sv_el hf; obtain ⟨v9, e_v9, hf⟩ := hf
      refine sx_ald hm dX2_nameOfType_15 e_v9 ?_
      clear e_v9
      cases hf
      exact sx_ire hm dX2_nameOfType_16 rfl rfl
set_option maxHeartbeats 4000000 in
set_option maxRecDepth 20000 in
theorem w_X6_constant_2_ok (X : Nat × (Nat → Int32)) {F L : Nat} (hF : 0 ≤ F) (hL : 0 ≤ L) (nn : Nat) : ∀ (k : Nat) (l0 : Nat) (l1 : Int32) (l2 : Int32) (l3 : Int32) (h : mx_H) (r : (Int32 × mx_H)), w_X6_constant_2 nn k l0 l1 l2 l3 h = some r → mx_S X F L 191 2 [(0, .ref l0), (1, .int l1), (2, .int l2), (3, .int l3)] [] h 0 0 (some (.int r.1), r.2, 0, 0) := by
  have hm : mx_mt 191 = some (yX6_constant, cX6_constant, 4, (some .int)) := mt_X6_constant
  intro k
  induction k with
  | zero => intro l0 l1 l2 l3 h r hf; cases hf
  | succ k ih =>
    intro l0 l1 l2 l3 h r hf
    unfold w_X6_constant_2 at hf
    refine mx_S.pu (pc2 := 3) (lv2 := [(0, .ref l0), (1, .int l1), (2, .int l2), (3, .int l3)]) (st2 := [.int l3]) hm dX6_constant_2 rfl ?_
    refine mx_S.pu (pc2 := 4) (lv2 := [(0, .ref l0), (1, .int l1), (2, .int l2), (3, .int l3)]) (st2 := [.ref l0, .int l3]) hm dX6_constant_3 rfl ?_
    replace hf := mx_sv_el hf; obtain ⟨v1, e_v1, hf⟩ := hf
    refine sx_get hm dX6_constant_4 rs_RX6_28 (xgi_el e_v1) ?_
    clear e_v1
    rcases mx_if_el hf with ⟨c23, hf⟩ | ⟨c23, hf⟩
    · refine sb_ic_gt hm dX6_constant_7 (tgt := 38) rfl (fun _ => ?_) (fun z => absurd c23 z)
      refine mx_S.pu (pc2 := 39) (lv2 := [(0, .ref l0), (1, .int l1), (2, .int l2), (3, .int l3)]) (st2 := [.ref l0]) hm dX6_constant_38 rfl ?_
      replace hf := mx_sv_el hf; obtain ⟨v2, e_v2, hf⟩ := hf
      refine sx_get hm dX6_constant_39 rs_RX6_28 (xgi_el e_v2) ?_
      clear e_v2
      refine sx_si (v := 200) hm dX6_constant_42 (by decide) ?_
      rcases mx_if_el hf with ⟨c14, hf⟩ | ⟨c14, hf⟩
      · refine sb_ic_lt hm dX6_constant_45 (tgt := 55) rfl (fun _ => ?_) (fun z => absurd c14 z)
        refine mx_S.pu (pc2 := 56) (lv2 := [(0, .ref l0), (1, .int l1), (2, .int l2), (3, .int l3)]) (st2 := [.ref l0]) hm dX6_constant_55 rfl ?_
        refine mx_S.pu (pc2 := 57) (lv2 := [(0, .ref l0), (1, .int l1), (2, .int l2), (3, .int l3)]) (st2 := [.ref l0, .ref l0]) hm dX6_constant_56 rfl ?_
        replace hf := mx_sv_el hf; obtain ⟨v3, e_v3, hf⟩ := hf
        refine sx_get hm dX6_constant_57 rs_RX6_28 (xgi_el e_v3) ?_
        clear e_v3
        refine sx_ic (v := 1) hm dX6_constant_60 (by decide) ?_
        replace hf := xl_el hf; obtain ⟨v4, e_v4, hf⟩ := hf
        refine mx_S.pu (pc2 := 62) (lv2 := [(0, .ref l0), (1, .int l1), (2, .int l2), (3, .int l3)]) (st2 := [.int v4, .ref l0]) hm dX6_constant_61 (by rw [← e_v4]; rfl) ?_
        clear e_v4
        replace hf := mx_sv_el hf; obtain ⟨h5, e_h5, hf⟩ := hf
        refine sx_put hm dX6_constant_62 rs_RX6_28 ft_6_4 ⟨rfl, rfl⟩ (fun z => by cases z) e_h5 ?_
        clear e_h5
        refine mx_S.pu (pc2 := 66) (lv2 := [(0, .ref l0), (1, .int l1), (2, .int l2), (3, .int l3)]) (st2 := [.ref l0]) hm dX6_constant_65 rfl ?_
        replace hf := mx_sv_el hf; obtain ⟨v6, e_v6, hf⟩ := hf
        refine sx_get hm dX6_constant_66 rs_RX6_9 (xgr_el e_v6) ?_
        clear e_v6
        refine mx_S.pu (pc2 := 70) (lv2 := [(0, .ref l0), (1, .int l1), (2, .int l2), (3, .int l3)]) (st2 := [.ref l0, .ref v6]) hm dX6_constant_69 rfl ?_
        replace hf := mx_sv_el hf; obtain ⟨v7, e_v7, hf⟩ := hf
        refine sx_get hm dX6_constant_70 rs_RX6_28 (xgi_el e_v7) ?_
        clear e_v7
        refine mx_S.pu (pc2 := 74) (lv2 := [(0, .ref l0), (1, .int l1), (2, .int l2), (3, .int l3)]) (st2 := [.int l1, .int v7, .ref v6]) hm dX6_constant_73 rfl ?_
        replace hf := mx_sv_el hf; obtain ⟨h8, e_h8, hf⟩ := hf
        refine sx_ast hm dX6_constant_74 e_h8 ?_
        clear e_h8
        refine mx_S.pu (pc2 := 76) (lv2 := [(0, .ref l0), (1, .int l1), (2, .int l2), (3, .int l3)]) (st2 := [.ref l0]) hm dX6_constant_75 rfl ?_
        replace hf := mx_sv_el hf; obtain ⟨v9, e_v9, hf⟩ := hf
        refine sx_get hm dX6_constant_76 rs_RX6_13 (xgr_el e_v9) ?_
        clear e_v9
        refine mx_S.pu (pc2 := 80) (lv2 := [(0, .ref l0), (1, .int l1), (2, .int l2), (3, .int l3)]) (st2 := [.ref l0, .ref v9]) hm dX6_constant_79 rfl ?_
        replace hf := mx_sv_el hf; obtain ⟨v10, e_v10, hf⟩ := hf
        refine sx_get hm dX6_constant_80 rs_RX6_28 (xgi_el e_v10) ?_
        clear e_v10
        refine mx_S.pu (pc2 := 84) (lv2 := [(0, .ref l0), (1, .int l1), (2, .int l2), (3, .int l3)]) (st2 := [.int l2, .int v10, .ref v9]) hm dX6_constant_83 rfl ?_
        replace hf := mx_sv_el hf; obtain ⟨h11, e_h11, hf⟩ := hf
        refine sx_ast hm dX6_constant_84 e_h11 ?_
        clear e_h11
        refine mx_S.pu (pc2 := 86) (lv2 := [(0, .ref l0), (1, .int l1), (2, .int l2), (3, .int l3)]) (st2 := [.ref l0]) hm dX6_constant_85 rfl ?_
        replace hf := mx_sv_el hf; obtain ⟨v12, e_v12, hf⟩ := hf
        refine sx_get hm dX6_constant_86 rs_RX6_28 (xgi_el e_v12) ?_
        clear e_v12
        cases hf
        exact sx_ire hm dX6_constant_89 rfl rfl
      · refine sb_ic_lt hm dX6_constant_45 (tgt := 55) rfl (fun z => absurd z c14) (fun _ => ?_)
        refine mx_S.pu (pc2 := 49) (lv2 := [(0, .ref l0), (1, .int l1), (2, .int l2), (3, .int l3)]) (st2 := [.ref l0]) hm dX6_constant_48 rfl ?_
        refine sx_ic (v := 1) hm dX6_constant_49 (by decide) ?_
        replace hf := mx_sv_el hf; obtain ⟨h13, e_h13, hf⟩ := hf
        refine sx_put hm dX6_constant_50 rs_RX6_32 ft_6_5 ⟨by decide, by decide⟩ (fun z => by cases z) e_h13 ?_
        clear e_h13
        refine sx_ic (v := 0) hm dX6_constant_53 (by decide) ?_
        cases hf
        exact sx_ire hm dX6_constant_54 rfl rfl
    · refine sb_ic_gt hm dX6_constant_7 (tgt := 38) rfl (fun z => absurd z c23) (fun _ => ?_)
      refine mx_S.pu (pc2 := 11) (lv2 := [(0, .ref l0), (1, .int l1), (2, .int l2), (3, .int l3)]) (st2 := [.ref l0]) hm dX6_constant_10 rfl ?_
      replace hf := mx_sv_el hf; obtain ⟨v15, e_v15, hf⟩ := hf
      refine sx_get hm dX6_constant_11 rs_RX6_9 (xgr_el e_v15) ?_
      clear e_v15
      refine mx_S.pu (pc2 := 15) (lv2 := [(0, .ref l0), (1, .int l1), (2, .int l2), (3, .int l3)]) (st2 := [.int l3, .ref v15]) hm dX6_constant_14 rfl ?_
      replace hf := mx_sv_el hf; obtain ⟨v16, e_v16, hf⟩ := hf
      refine sx_ald hm dX6_constant_15 e_v16 ?_
      clear e_v16
      refine mx_S.pu (pc2 := 17) (lv2 := [(0, .ref l0), (1, .int l1), (2, .int l2), (3, .int l3)]) (st2 := [.int l1, .int v16]) hm dX6_constant_16 rfl ?_
      rcases mx_if_el hf with ⟨c22, hf⟩ | ⟨c22, hf⟩
      · refine sb_ic_ne hm dX6_constant_17 (tgt := 32) rfl (fun _ => ?_) (fun z => absurd c22 z)
        replace hf := xl_el hf; obtain ⟨v17, e_v17, hf⟩ := hf
        refine mx_S.pu (pc2 := 35) (lv2 := [(3, .int v17), (0, .ref l0), (1, .int l1), (2, .int l2)]) (st2 := []) hm dX6_constant_32 (by rw [← e_v17]; rfl) ?_
        clear e_v17
        refine mx_S.pu (pc2 := 2) (lv2 := [(3, .int v17), (0, .ref l0), (1, .int l1), (2, .int l2)]) (st2 := []) hm dX6_constant_35 rfl ?_
        refine mx_S.ext [(0, .ref l0), (1, .int l1), (2, .int l2), (3, .int v17)] (mx_sub_pos [1, 2, 3, 0] rfl (show ([3, 0, 1, 2] : List Nat).Nodup by decide)) ?_
        exact ih l0 l1 l2 v17 h _ hf
      · refine sb_ic_ne hm dX6_constant_17 (tgt := 32) rfl (fun z => absurd z c22) (fun _ => ?_)
        refine mx_S.pu (pc2 := 21) (lv2 := [(0, .ref l0), (1, .int l1), (2, .int l2), (3, .int l3)]) (st2 := [.ref l0]) hm dX6_constant_20 rfl ?_
        replace hf := mx_sv_el hf; obtain ⟨v18, e_v18, hf⟩ := hf
        refine sx_get hm dX6_constant_21 rs_RX6_13 (xgr_el e_v18) ?_
        clear e_v18
        refine mx_S.pu (pc2 := 25) (lv2 := [(0, .ref l0), (1, .int l1), (2, .int l2), (3, .int l3)]) (st2 := [.int l3, .ref v18]) hm dX6_constant_24 rfl ?_
        replace hf := mx_sv_el hf; obtain ⟨v19, e_v19, hf⟩ := hf
        refine sx_ald hm dX6_constant_25 e_v19 ?_
        clear e_v19
        refine mx_S.pu (pc2 := 27) (lv2 := [(0, .ref l0), (1, .int l1), (2, .int l2), (3, .int l3)]) (st2 := [.int l2, .int v19]) hm dX6_constant_26 rfl ?_
        rcases mx_if_el hf with ⟨c21, hf⟩ | ⟨c21, hf⟩
        · refine sb_ic_ne hm dX6_constant_27 (tgt := 32) rfl (fun _ => ?_) (fun z => absurd c21 z)
          replace hf := xl_el hf; obtain ⟨v20, e_v20, hf⟩ := hf
          refine mx_S.pu (pc2 := 35) (lv2 := [(3, .int v20), (0, .ref l0), (1, .int l1), (2, .int l2)]) (st2 := []) hm dX6_constant_32 (by rw [← e_v20]; rfl) ?_
          clear e_v20
          refine mx_S.pu (pc2 := 2) (lv2 := [(3, .int v20), (0, .ref l0), (1, .int l1), (2, .int l2)]) (st2 := []) hm dX6_constant_35 rfl ?_
          refine mx_S.ext [(0, .ref l0), (1, .int l1), (2, .int l2), (3, .int v20)] (mx_sub_pos [1, 2, 3, 0] rfl (show ([3, 0, 1, 2] : List Nat).Nodup by decide)) ?_
          exact ih l0 l1 l2 v20 h _ hf
        · refine sb_ic_ne hm dX6_constant_27 (tgt := 32) rfl (fun z => absurd z c21) (fun _ => ?_)
          refine mx_S.pu (pc2 := 31) (lv2 := [(0, .ref l0), (1, .int l1), (2, .int l2), (3, .int l3)]) (st2 := [.int l3]) hm dX6_constant_30 rfl ?_
          cases hf
          exact sx_ire hm dX6_constant_31 rfl rfl
set_option maxHeartbeats 4000000 in
set_option maxRecDepth 20000 in
theorem f_X6_constant_ok (X : Nat × (Nat → Int32)) {F L : Nat} (hF : 0 ≤ F) (hL : 0 ≤ L) (nn : Nat) (a0 : Nat) (a1 : Int32) (a2 : Int32) (h : mx_H) {r : (Int32 × mx_H)} (hf : f_X6_constant nn a0 a1 a2 h = some r) : mx_R X F L 191 [.ref a0, .int a1, .int a2] h (some (.int r.1), r.2, 0, 0) := by
  have hm : mx_mt 191 = some (yX6_constant, cX6_constant, 4, (some .int)) := mt_X6_constant
  show mx_S X F L 191 0 [(0, .ref a0), (1, .int a1), (2, .int a2)] [] h 0 0 (some (.int r.1), r.2, 0, 0)
  unfold f_X6_constant at hf
  refine sx_ic (v := 1) hm dX6_constant_0 (by decide) ?_
  refine mx_S.pu (pc2 := 2) (lv2 := [(3, .int 1), (0, .ref a0), (1, .int a1), (2, .int a2)]) (st2 := []) hm dX6_constant_1 rfl ?_
  refine mx_S.ext [(0, .ref a0), (1, .int a1), (2, .int a2), (3, .int 1)] (mx_sub_pos [1, 2, 3, 0] rfl (show ([3, 0, 1, 2] : List Nat).Nodup by decide)) ?_
  exact w_X6_constant_2_ok X hF hL nn nn a0 a1 a2 1 h _ hf
set_option maxHeartbeats 4000000 in
set_option maxRecDepth 20000 in
theorem f_X6_classOf_ok (X : Nat × (Nat → Int32)) {F L : Nat} (hF : 1 ≤ F) (hL : 23 ≤ L) (nn : Nat) (a0 : Nat) (a1 : Int32) (h : mx_H) {r : (Int32 × mx_H)} (hf : f_X6_classOf nn a0 a1 h = some r) : mx_R X F L 192 [.ref a0, .int a1] h (some (.int r.1), r.2, 0, 0) := by
  have hm : mx_mt 192 = some (yX6_classOf, cX6_classOf, 2, (some .int)) := mt_X6_classOf
  show mx_S X F L 192 0 [(0, .ref a0), (1, .int a1)] [] h 0 0 (some (.int r.1), r.2, 0, 0)
  unfold f_X6_classOf at hf
  refine mx_S.pu (pc2 := 1) (lv2 := [(0, .ref a0), (1, .int a1)]) (st2 := [.ref a0]) hm dX6_classOf_0 rfl ?_
  refine sx_ic (v := 3) hm dX6_classOf_1 (by decide) ?_
  refine mx_S.pu (pc2 := 3) (lv2 := [(0, .ref a0), (1, .int a1)]) (st2 := [.ref a0, .int 3, .ref a0]) hm dX6_classOf_2 rfl ?_
  refine sx_ic (v := 1) hm dX6_classOf_3 (by decide) ?_
  refine mx_S.pu (pc2 := 5) (lv2 := [(0, .ref a0), (1, .int a1)]) (st2 := [.ref a0, .int 1, .ref a0, .int 3, .ref a0]) hm dX6_classOf_4 rfl ?_
  replace hf := mx_sv_el hf; obtain ⟨v1, e_v1, hf⟩ := hf
  refine sx_get hm dX6_classOf_5 rs_RX6_24 (xgr_el e_v1) ?_
  clear e_v1
  refine mx_S.pu (pc2 := 9) (lv2 := [(0, .ref a0), (1, .int a1)]) (st2 := [.int a1, .ref v1, .int 1, .ref a0, .int 3, .ref a0]) hm dX6_classOf_8 rfl ?_
  replace hf := mx_gd_el hf; obtain ⟨c2, hf⟩ := hf
  replace hf := mx_sv_el hf; obtain ⟨u3, e_u3, hf⟩ := hf
  refine sx_cv hm dX6_classOf_9 rs_RX6_115 mt_X2_nameOfType [.int a1] [.int 1, .ref a0, .int 3, .ref a0] (b := v1) (ci := 2) rfl rfl rfl c2 (Nat.le_of_ble_eq_true rfl) (Nat.le_of_ble_eq_true rfl) (by omega) (by omega) (f_X2_nameOfType_ok X (by omega) (by omega) nn v1 a1 h e_u3) ?_
  clear e_u3
  show mx_S X F L 192 12 [(0, .ref a0), (1, .int a1)] [.int u3.1, .int 1, .ref a0, .int 3, .ref a0] u3.2 0 0 (some (.int r.1), r.2, 0, 0)
  replace hf := mx_gd_el hf; obtain ⟨c4, hf⟩ := hf
  replace hf := mx_sv_el hf; obtain ⟨u5, e_u5, hf⟩ := hf
  refine sx_cv hm dX6_classOf_12 rs_RX6_66 mt_X6_constant [.int 1, .int u3.1] [.int 3, .ref a0] (b := a0) (ci := 6) rfl rfl rfl c4 (Nat.le_of_ble_eq_true rfl) (Nat.le_of_ble_eq_true rfl) (by omega) (by omega) (f_X6_constant_ok X (by omega) (by omega) nn a0 1 u3.1 u3.2 e_u5) ?_
  clear e_u5
  show mx_S X F L 192 15 [(0, .ref a0), (1, .int a1)] [.int u5.1, .int 3, .ref a0] u5.2 0 0 (some (.int r.1), r.2, 0, 0)
  replace hf := mx_gd_el hf; obtain ⟨c6, hf⟩ := hf
  replace hf := mx_sv_el hf; obtain ⟨u7, e_u7, hf⟩ := hf
  refine sx_cv hm dX6_classOf_15 rs_RX6_66 mt_X6_constant [.int 3, .int u5.1] [] (b := a0) (ci := 6) rfl rfl rfl c6 (Nat.le_of_ble_eq_true rfl) (Nat.le_of_ble_eq_true rfl) (by omega) (by omega) (f_X6_constant_ok X (by omega) (by omega) nn a0 3 u5.1 u5.2 e_u7) ?_
  clear e_u7
  show mx_S X F L 192 18 [(0, .ref a0), (1, .int a1)] [.int u7.1] u7.2 0 0 (some (.int r.1), r.2, 0, 0)
  cases hf
  exact sx_ire hm dX6_classOf_18 rfl rfl
set_option maxHeartbeats 4000000 in
set_option maxRecDepth 20000 in
theorem j_X6_put_23_ok (X : Nat × (Nat → Int32)) {F L : Nat} (hF : 0 ≤ F) (hL : 0 ≤ L) (nn : Nat) (l0 : Nat) (h : mx_H) {r : mx_H} (hf : j_X6_put_23 nn l0 h = some r) : mx_S X F L 184 23 [(0, .ref l0)] [] h 0 0 (none, r, 0, 0) := by
  have hm : mx_mt 184 = some (yX6_put, cX6_put, 2, none) := mt_X6_put
  unfold j_X6_put_23 at hf
  refine mx_S.pu (pc2 := 24) (lv2 := [(0, .ref l0)]) (st2 := [.ref l0]) hm dX6_put_23 rfl ?_
  refine mx_S.pu (pc2 := 25) (lv2 := [(0, .ref l0)]) (st2 := [.ref l0, .ref l0]) hm dX6_put_24 rfl ?_
  replace hf := mx_sv_el hf; obtain ⟨v1, e_v1, hf⟩ := hf
  refine sx_get hm dX6_put_25 rs_RX6_36 (xgi_el e_v1) ?_
  clear e_v1
  refine sx_ic (v := 1) hm dX6_put_28 (by decide) ?_
  replace hf := xl_el hf; obtain ⟨v2, e_v2, hf⟩ := hf
  refine mx_S.pu (pc2 := 30) (lv2 := [(0, .ref l0)]) (st2 := [.int v2, .ref l0]) hm dX6_put_29 (by rw [← e_v2]; rfl) ?_
  clear e_v2
  replace hf := mx_sv_el hf; obtain ⟨h3, e_h3, hf⟩ := hf
  refine sx_put hm dX6_put_30 rs_RX6_36 ft_6_7 ⟨rfl, rfl⟩ (fun z => by cases z) e_h3 ?_
  clear e_h3
  cases hf
  exact sx_ret hm dX6_put_33 rfl
set_option maxHeartbeats 4000000 in
set_option maxRecDepth 20000 in
theorem f_X6_put_ok (X : Nat × (Nat → Int32)) {F L : Nat} (hF : 0 ≤ F) (hL : 0 ≤ L) (nn : Nat) (a0 : Nat) (a1 : Int32) (h : mx_H) {r : mx_H} (hf : f_X6_put nn a0 a1 h = some r) : mx_R X F L 184 [.ref a0, .int a1] h (none, r, 0, 0) := by
  have hm : mx_mt 184 = some (yX6_put, cX6_put, 2, none) := mt_X6_put
  show mx_S X F L 184 0 [(0, .ref a0), (1, .int a1)] [] h 0 0 (none, r, 0, 0)
  unfold f_X6_put at hf
  refine mx_S.pu (pc2 := 1) (lv2 := [(0, .ref a0), (1, .int a1)]) (st2 := [.ref a0]) hm dX6_put_0 rfl ?_
  replace hf := mx_sv_el hf; obtain ⟨v4, e_v4, hf⟩ := hf
  refine sx_get hm dX6_put_1 rs_RX6_36 (xgi_el e_v4) ?_
  clear e_v4
  refine mx_S.pu (pc2 := 5) (lv2 := [(0, .ref a0), (1, .int a1)]) (st2 := [.ref a0, .int v4]) hm dX6_put_4 rfl ?_
  replace hf := mx_sv_el hf; obtain ⟨v5, e_v5, hf⟩ := hf
  refine sx_get hm dX6_put_5 rs_RX6_16 (xgr_el e_v5) ?_
  clear e_v5
  replace hf := mx_sv_el hf; obtain ⟨v6, e_v6, hf⟩ := hf
  refine sx_len hm dX6_put_8 e_v6 ?_
  clear e_v6
  rcases mx_if_el hf with ⟨c11, hf⟩ | ⟨c11, hf⟩
  · refine sb_ic_ge hm dX6_put_9 (tgt := 23) rfl (fun _ => ?_) (fun z => absurd c11 z)
    refine mx_S.ext [(0, .ref a0)] (mx_sub_pos [0] rfl (show ([0, 1] : List Nat).Nodup by decide)) ?_
    exact j_X6_put_23_ok X hF hL nn a0 h hf
  · refine sb_ic_ge hm dX6_put_9 (tgt := 23) rfl (fun z => absurd z c11) (fun _ => ?_)
    refine mx_S.pu (pc2 := 13) (lv2 := [(0, .ref a0), (1, .int a1)]) (st2 := [.ref a0]) hm dX6_put_12 rfl ?_
    replace hf := mx_sv_el hf; obtain ⟨v7, e_v7, hf⟩ := hf
    refine sx_get hm dX6_put_13 rs_RX6_16 (xgr_el e_v7) ?_
    clear e_v7
    refine mx_S.pu (pc2 := 17) (lv2 := [(0, .ref a0), (1, .int a1)]) (st2 := [.ref a0, .ref v7]) hm dX6_put_16 rfl ?_
    replace hf := mx_sv_el hf; obtain ⟨v8, e_v8, hf⟩ := hf
    refine sx_get hm dX6_put_17 rs_RX6_36 (xgi_el e_v8) ?_
    clear e_v8
    refine mx_S.pu (pc2 := 21) (lv2 := [(0, .ref a0), (1, .int a1)]) (st2 := [.int a1, .int v8, .ref v7]) hm dX6_put_20 rfl ?_
    replace hf := xl_el hf; obtain ⟨v9, e_v9, hf⟩ := hf
    refine mx_S.pu (pc2 := 22) (lv2 := [(0, .ref a0), (1, .int a1)]) (st2 := [.int v9, .int v8, .ref v7]) hm dX6_put_21 (by rw [← e_v9]; rfl) ?_
    clear e_v9
    replace hf := mx_sv_el hf; obtain ⟨h10, e_h10, hf⟩ := hf
    refine sx_bst hm dX6_put_22 e_h10 ?_
    clear e_h10
    refine mx_S.ext [(0, .ref a0)] (mx_sub_pos [0] rfl (show ([0, 1] : List Nat).Nodup by decide)) ?_
    exact j_X6_put_23_ok X hF hL nn a0 h10 hf
set_option maxHeartbeats 4000000 in
set_option maxRecDepth 20000 in
theorem w_X6_beginClass_62_ok (X : Nat × (Nat → Int32)) {F L : Nat} (hF : 2 ≤ F) (hL : 44 ≤ L) (nn : Nat) : ∀ (k : Nat) (l0 : Nat) (l1 : Int32) (l3 : Int32) (h : mx_H) (r : mx_H), w_X6_beginClass_62 nn k l0 l1 l3 h = some r → mx_S X F L 182 62 [(0, .ref l0), (1, .int l1), (3, .int l3)] [] h 0 0 (none, r, 0, 0) := by
  have hm : mx_mt 182 = some (yX6_beginClass, cX6_beginClass, 5, none) := mt_X6_beginClass
  intro k
  induction k with
  | zero => intro l0 l1 l3 h r hf; cases hf
  | succ k ih =>
    intro l0 l1 l3 h r hf
    unfold w_X6_beginClass_62 at hf
    refine mx_S.pu (pc2 := 63) (lv2 := [(0, .ref l0), (1, .int l1), (3, .int l3)]) (st2 := [.int l3]) hm dX6_beginClass_62 rfl ?_
    refine mx_S.pu (pc2 := 64) (lv2 := [(0, .ref l0), (1, .int l1), (3, .int l3)]) (st2 := [.ref l0, .int l3]) hm dX6_beginClass_63 rfl ?_
    replace hf := mx_sv_el hf; obtain ⟨v1, e_v1, hf⟩ := hf
    refine sx_get hm dX6_beginClass_64 rs_RX6_24 (xgr_el e_v1) ?_
    clear e_v1
    refine mx_S.pu (pc2 := 68) (lv2 := [(0, .ref l0), (1, .int l1), (3, .int l3)]) (st2 := [.int l1, .ref v1, .int l3]) hm dX6_beginClass_67 rfl ?_
    replace hf := mx_gd_el hf; obtain ⟨c2, hf⟩ := hf
    replace hf := mx_sv_el hf; obtain ⟨u3, e_u3, hf⟩ := hf
    refine sx_cv hm dX6_beginClass_68 rs_RX6_58 mt_X2_fieldsOf [.int l1] [.int l3] (b := v1) (ci := 2) rfl rfl rfl c2 (Nat.le_of_ble_eq_true rfl) (Nat.le_of_ble_eq_true rfl) (by omega) (by omega) (f_X2_fieldsOf_ok X (by omega) (by omega) nn v1 l1 h e_u3) ?_
    clear e_u3
    show mx_S X F L 182 71 [(0, .ref l0), (1, .int l1), (3, .int l3)] [.int u3.1, .int l3] u3.2 0 0 (none, r, 0, 0)
    rcases mx_if_el hf with ⟨c26, hf⟩ | ⟨c26, hf⟩
    · refine sb_ic_ge hm dX6_beginClass_71 (tgt := 124) rfl (fun _ => ?_) (fun z => absurd c26 z)
      refine mx_S.pu (pc2 := 125) (lv2 := [(0, .ref l0), (1, .int l1), (3, .int l3)]) (st2 := [.ref l0]) hm dX6_beginClass_124 rfl ?_
      refine mx_S.pu (pc2 := 126) (lv2 := [(0, .ref l0), (1, .int l1), (3, .int l3)]) (st2 := [.ref l0, .ref l0]) hm dX6_beginClass_125 rfl ?_
      replace hf := mx_sv_el hf; obtain ⟨v4, e_v4, hf⟩ := hf
      refine sx_get hm dX6_beginClass_126 rs_RX6_24 (xgr_el e_v4) ?_
      clear e_v4
      refine mx_S.pu (pc2 := 130) (lv2 := [(0, .ref l0), (1, .int l1), (3, .int l3)]) (st2 := [.int l1, .ref v4, .ref l0]) hm dX6_beginClass_129 rfl ?_
      replace hf := mx_gd_el hf; obtain ⟨c5, hf⟩ := hf
      replace hf := mx_sv_el hf; obtain ⟨u6, e_u6, hf⟩ := hf
      refine sx_cv hm dX6_beginClass_130 rs_RX6_73 mt_X2_methodsOf [.int l1] [.ref l0] (b := v4) (ci := 2) rfl rfl rfl c5 (Nat.le_of_ble_eq_true rfl) (Nat.le_of_ble_eq_true rfl) (by omega) (by omega) (f_X2_methodsOf_ok X (by omega) (by omega) nn v4 l1 u3.2 e_u6) ?_
      clear e_u6
      show mx_S X F L 182 133 [(0, .ref l0), (1, .int l1), (3, .int l3)] [.int u6.1, .ref l0] u6.2 0 0 (none, r, 0, 0)
      replace hf := mx_gd_el hf; obtain ⟨c7, hf⟩ := hf
      replace hf := mx_sv_el hf; obtain ⟨u8, e_u8, hf⟩ := hf
      refine sx_cv hm dX6_beginClass_133 rs_RX6_45 mt_X6_put [.int u6.1] [] (b := l0) (ci := 6) rfl rfl rfl c7 (Nat.le_of_ble_eq_true rfl) (Nat.le_of_ble_eq_true rfl) (by omega) (by omega) (f_X6_put_ok X (by omega) (by omega) nn l0 u6.1 u6.2 e_u8) ?_
      clear e_u8
      show mx_S X F L 182 136 [(0, .ref l0), (1, .int l1), (3, .int l3)] [] u8 0 0 (none, r, 0, 0)
      cases hf
      exact sx_ret hm dX6_beginClass_136 rfl
    · refine sb_ic_ge hm dX6_beginClass_71 (tgt := 124) rfl (fun z => absurd z c26) (fun _ => ?_)
      refine mx_S.pu (pc2 := 75) (lv2 := [(0, .ref l0), (1, .int l1), (3, .int l3)]) (st2 := [.int l1]) hm dX6_beginClass_74 rfl ?_
      refine sx_bi (v := 12) hm dX6_beginClass_75 (by decide) ?_
      replace hf := xl_el hf; obtain ⟨v9, e_v9, hf⟩ := hf
      refine mx_S.pu (pc2 := 78) (lv2 := [(0, .ref l0), (1, .int l1), (3, .int l3)]) (st2 := [.int v9]) hm dX6_beginClass_77 (by rw [← e_v9]; rfl) ?_
      clear e_v9
      refine mx_S.pu (pc2 := 79) (lv2 := [(0, .ref l0), (1, .int l1), (3, .int l3)]) (st2 := [.int l3, .int v9]) hm dX6_beginClass_78 rfl ?_
      replace hf := xl_el hf; obtain ⟨v10, e_v10, hf⟩ := hf
      refine mx_S.pu (pc2 := 80) (lv2 := [(0, .ref l0), (1, .int l1), (3, .int l3)]) (st2 := [.int v10]) hm dX6_beginClass_79 (by rw [← e_v10]; rfl) ?_
      clear e_v10
      refine mx_S.pu (pc2 := 82) (lv2 := [(4, .int v10), (0, .ref l0), (1, .int l1), (3, .int l3)]) (st2 := []) hm dX6_beginClass_80 rfl ?_
      refine mx_S.pu (pc2 := 83) (lv2 := [(4, .int v10), (0, .ref l0), (1, .int l1), (3, .int l3)]) (st2 := [.ref l0]) hm dX6_beginClass_82 rfl ?_
      refine mx_S.pu (pc2 := 84) (lv2 := [(4, .int v10), (0, .ref l0), (1, .int l1), (3, .int l3)]) (st2 := [.ref l0, .ref l0]) hm dX6_beginClass_83 rfl ?_
      refine sx_ic (v := 1) hm dX6_beginClass_84 (by decide) ?_
      refine mx_S.pu (pc2 := 86) (lv2 := [(4, .int v10), (0, .ref l0), (1, .int l1), (3, .int l3)]) (st2 := [.ref l0, .int 1, .ref l0, .ref l0]) hm dX6_beginClass_85 rfl ?_
      replace hf := mx_sv_el hf; obtain ⟨v11, e_v11, hf⟩ := hf
      refine sx_get hm dX6_beginClass_86 rs_RX6_24 (xgr_el e_v11) ?_
      clear e_v11
      refine mx_S.pu (pc2 := 91) (lv2 := [(4, .int v10), (0, .ref l0), (1, .int l1), (3, .int l3)]) (st2 := [.int v10, .ref v11, .int 1, .ref l0, .ref l0]) hm dX6_beginClass_89 rfl ?_
      replace hf := mx_gd_el hf; obtain ⟨c12, hf⟩ := hf
      replace hf := mx_sv_el hf; obtain ⟨u13, e_u13, hf⟩ := hf
      refine sx_cv hm dX6_beginClass_91 rs_RX6_63 mt_X2_nameOfField [.int v10] [.int 1, .ref l0, .ref l0] (b := v11) (ci := 2) rfl rfl rfl c12 (Nat.le_of_ble_eq_true rfl) (Nat.le_of_ble_eq_true rfl) (by omega) (by omega) (f_X2_nameOfField_ok X (by omega) (by omega) nn v11 v10 u3.2 e_u13) ?_
      clear e_u13
      show mx_S X F L 182 94 [(4, .int v10), (0, .ref l0), (1, .int l1), (3, .int l3)] [.int u13.1, .int 1, .ref l0, .ref l0] u13.2 0 0 (none, r, 0, 0)
      replace hf := mx_gd_el hf; obtain ⟨c14, hf⟩ := hf
      replace hf := mx_sv_el hf; obtain ⟨u15, e_u15, hf⟩ := hf
      refine sx_cv hm dX6_beginClass_94 rs_RX6_66 mt_X6_constant [.int 1, .int u13.1] [.ref l0] (b := l0) (ci := 6) rfl rfl rfl c14 (Nat.le_of_ble_eq_true rfl) (Nat.le_of_ble_eq_true rfl) (by omega) (by omega) (f_X6_constant_ok X (by omega) (by omega) nn l0 1 u13.1 u13.2 e_u15) ?_
      clear e_u15
      show mx_S X F L 182 97 [(4, .int v10), (0, .ref l0), (1, .int l1), (3, .int l3)] [.int u15.1, .ref l0] u15.2 0 0 (none, r, 0, 0)
      replace hf := mx_gd_el hf; obtain ⟨c16, hf⟩ := hf
      replace hf := mx_sv_el hf; obtain ⟨u17, e_u17, hf⟩ := hf
      refine sx_cv hm dX6_beginClass_97 rs_RX6_45 mt_X6_put [.int u15.1] [] (b := l0) (ci := 6) rfl rfl rfl c16 (Nat.le_of_ble_eq_true rfl) (Nat.le_of_ble_eq_true rfl) (by omega) (by omega) (f_X6_put_ok X (by omega) (by omega) nn l0 u15.1 u15.2 e_u17) ?_
      clear e_u17
      show mx_S X F L 182 100 [(4, .int v10), (0, .ref l0), (1, .int l1), (3, .int l3)] [] u17 0 0 (none, r, 0, 0)
      refine mx_S.pu (pc2 := 101) (lv2 := [(4, .int v10), (0, .ref l0), (1, .int l1), (3, .int l3)]) (st2 := [.ref l0]) hm dX6_beginClass_100 rfl ?_
      refine mx_S.pu (pc2 := 102) (lv2 := [(4, .int v10), (0, .ref l0), (1, .int l1), (3, .int l3)]) (st2 := [.ref l0, .ref l0]) hm dX6_beginClass_101 rfl ?_
      refine sx_ic (v := 1) hm dX6_beginClass_102 (by decide) ?_
      refine mx_S.pu (pc2 := 104) (lv2 := [(4, .int v10), (0, .ref l0), (1, .int l1), (3, .int l3)]) (st2 := [.ref l0, .int 1, .ref l0, .ref l0]) hm dX6_beginClass_103 rfl ?_
      replace hf := mx_sv_el hf; obtain ⟨v18, e_v18, hf⟩ := hf
      refine sx_get hm dX6_beginClass_104 rs_RX6_24 (xgr_el e_v18) ?_
      clear e_v18
      refine mx_S.pu (pc2 := 109) (lv2 := [(4, .int v10), (0, .ref l0), (1, .int l1), (3, .int l3)]) (st2 := [.int v10, .ref v18, .int 1, .ref l0, .ref l0]) hm dX6_beginClass_107 rfl ?_
      replace hf := mx_gd_el hf; obtain ⟨c19, hf⟩ := hf
      replace hf := mx_sv_el hf; obtain ⟨u20, e_u20, hf⟩ := hf
      refine sx_cv hm dX6_beginClass_109 rs_RX6_70 mt_X2_kindOfField [.int v10] [.int 1, .ref l0, .ref l0] (b := v18) (ci := 2) rfl rfl rfl c19 (Nat.le_of_ble_eq_true rfl) (Nat.le_of_ble_eq_true rfl) (by omega) (by omega) (f_X2_kindOfField_ok X (by omega) (by omega) nn v18 v10 u17 e_u20) ?_
      clear e_u20
      show mx_S X F L 182 112 [(4, .int v10), (0, .ref l0), (1, .int l1), (3, .int l3)] [.int u20.1, .int 1, .ref l0, .ref l0] u20.2 0 0 (none, r, 0, 0)
      replace hf := mx_gd_el hf; obtain ⟨c21, hf⟩ := hf
      replace hf := mx_sv_el hf; obtain ⟨u22, e_u22, hf⟩ := hf
      refine sx_cv hm dX6_beginClass_112 rs_RX6_66 mt_X6_constant [.int 1, .int u20.1] [.ref l0] (b := l0) (ci := 6) rfl rfl rfl c21 (Nat.le_of_ble_eq_true rfl) (Nat.le_of_ble_eq_true rfl) (by omega) (by omega) (f_X6_constant_ok X (by omega) (by omega) nn l0 1 u20.1 u20.2 e_u22) ?_
      clear e_u22
      show mx_S X F L 182 115 [(4, .int v10), (0, .ref l0), (1, .int l1), (3, .int l3)] [.int u22.1, .ref l0] u22.2 0 0 (none, r, 0, 0)
      replace hf := mx_gd_el hf; obtain ⟨c23, hf⟩ := hf
      replace hf := mx_sv_el hf; obtain ⟨u24, e_u24, hf⟩ := hf
      refine sx_cv hm dX6_beginClass_115 rs_RX6_45 mt_X6_put [.int u22.1] [] (b := l0) (ci := 6) rfl rfl rfl c23 (Nat.le_of_ble_eq_true rfl) (Nat.le_of_ble_eq_true rfl) (by omega) (by omega) (f_X6_put_ok X (by omega) (by omega) nn l0 u22.1 u22.2 e_u24) ?_
      clear e_u24
      show mx_S X F L 182 118 [(4, .int v10), (0, .ref l0), (1, .int l1), (3, .int l3)] [] u24 0 0 (none, r, 0, 0)
      replace hf := xl_el hf; obtain ⟨v25, e_v25, hf⟩ := hf
      refine mx_S.pu (pc2 := 121) (lv2 := [(3, .int v25), (4, .int v10), (0, .ref l0), (1, .int l1)]) (st2 := []) hm dX6_beginClass_118 (by rw [← e_v25]; rfl) ?_
      clear e_v25
      refine mx_S.pu (pc2 := 62) (lv2 := [(3, .int v25), (4, .int v10), (0, .ref l0), (1, .int l1)]) (st2 := []) hm dX6_beginClass_121 rfl ?_
      refine mx_S.ext [(0, .ref l0), (1, .int l1), (3, .int v25)] (mx_sub_pos [2, 3, 0] rfl (show ([3, 4, 0, 1] : List Nat).Nodup by decide)) ?_
      exact ih l0 l1 v25 u24 _ hf
set_option maxHeartbeats 4000000 in
set_option maxRecDepth 20000 in
theorem f_X6_beginClass_ok (X : Nat × (Nat → Int32)) {F L : Nat} (hF : 2 ≤ F) (hL : 44 ≤ L) (nn : Nat) (a0 : Nat) (a1 : Int32) (h : mx_H) {r : mx_H} (hf : f_X6_beginClass nn a0 a1 h = some r) : mx_R X F L 182 [.ref a0, .int a1] h (none, r, 0, 0) := by
  have hm : mx_mt 182 = some (yX6_beginClass, cX6_beginClass, 5, none) := mt_X6_beginClass
  show mx_S X F L 182 0 [(0, .ref a0), (1, .int a1)] [] h 0 0 (none, r, 0, 0)
  unfold f_X6_beginClass at hf
  refine mx_S.pu (pc2 := 1) (lv2 := [(0, .ref a0), (1, .int a1)]) (st2 := [.ref a0]) hm dX6_beginClass_0 rfl ?_
  refine sx_ic (v := 0) hm dX6_beginClass_1 (by decide) ?_
  replace hf := mx_sv_el hf; obtain ⟨h27, e_h27, hf⟩ := hf
  refine sx_put hm dX6_beginClass_2 rs_RX6_28 ft_6_4 ⟨rfl, rfl⟩ (fun z => by cases z) e_h27 ?_
  clear e_h27
  refine mx_S.pu (pc2 := 6) (lv2 := [(0, .ref a0), (1, .int a1)]) (st2 := [.ref a0]) hm dX6_beginClass_5 rfl ?_
  refine sx_ic (v := 0) hm dX6_beginClass_6 (by decide) ?_
  replace hf := mx_sv_el hf; obtain ⟨h28, e_h28, hf⟩ := hf
  refine sx_put hm dX6_beginClass_7 rs_RX6_32 ft_6_5 ⟨by decide, by decide⟩ (fun z => by cases z) e_h28 ?_
  clear e_h28
  refine mx_S.pu (pc2 := 11) (lv2 := [(0, .ref a0), (1, .int a1)]) (st2 := [.ref a0]) hm dX6_beginClass_10 rfl ?_
  refine sx_ic (v := 0) hm dX6_beginClass_11 (by decide) ?_
  replace hf := mx_sv_el hf; obtain ⟨h29, e_h29, hf⟩ := hf
  refine sx_put hm dX6_beginClass_12 rs_RX6_36 ft_6_7 ⟨rfl, rfl⟩ (fun z => by cases z) e_h29 ?_
  clear e_h29
  refine sx_bi (v := 8) hm dX6_beginClass_15 (by decide) ?_
  refine mx_S.pu (pc2 := 18) (lv2 := [(0, .ref a0), (1, .int a1)]) (st2 := [.int a1, .int 8]) hm dX6_beginClass_17 rfl ?_
  replace hf := xl_el hf; obtain ⟨v30, e_v30, hf⟩ := hf
  refine mx_S.pu (pc2 := 19) (lv2 := [(0, .ref a0), (1, .int a1)]) (st2 := [.int v30]) hm dX6_beginClass_18 (by rw [← e_v30]; rfl) ?_
  clear e_v30
  refine mx_S.pu (pc2 := 20) (lv2 := [(2, .int v30), (0, .ref a0), (1, .int a1)]) (st2 := []) hm dX6_beginClass_19 rfl ?_
  refine mx_S.pu (pc2 := 21) (lv2 := [(2, .int v30), (0, .ref a0), (1, .int a1)]) (st2 := [.ref a0]) hm dX6_beginClass_20 rfl ?_
  refine mx_S.pu (pc2 := 22) (lv2 := [(2, .int v30), (0, .ref a0), (1, .int a1)]) (st2 := [.ref a0, .ref a0]) hm dX6_beginClass_21 rfl ?_
  refine mx_S.pu (pc2 := 23) (lv2 := [(2, .int v30), (0, .ref a0), (1, .int a1)]) (st2 := [.int v30, .ref a0, .ref a0]) hm dX6_beginClass_22 rfl ?_
  replace hf := mx_gd_el hf; obtain ⟨c31, hf⟩ := hf
  replace hf := mx_sv_el hf; obtain ⟨u32, e_u32, hf⟩ := hf
  refine sx_cv hm dX6_beginClass_23 rs_RX6_41 mt_X6_classOf [.int v30] [.ref a0] (b := a0) (ci := 6) rfl rfl rfl c31 (Nat.le_of_ble_eq_true rfl) (Nat.le_of_ble_eq_true rfl) (by omega) (by omega) (f_X6_classOf_ok X (by omega) (by omega) nn a0 v30 h29 e_u32) ?_
  clear e_u32
  show mx_S X F L 182 26 [(2, .int v30), (0, .ref a0), (1, .int a1)] [.int u32.1, .ref a0] u32.2 0 0 (none, r, 0, 0)
  replace hf := mx_gd_el hf; obtain ⟨c33, hf⟩ := hf
  replace hf := mx_sv_el hf; obtain ⟨u34, e_u34, hf⟩ := hf
  refine sx_cv hm dX6_beginClass_26 rs_RX6_45 mt_X6_put [.int u32.1] [] (b := a0) (ci := 6) rfl rfl rfl c33 (Nat.le_of_ble_eq_true rfl) (Nat.le_of_ble_eq_true rfl) (by omega) (by omega) (f_X6_put_ok X (by omega) (by omega) nn a0 u32.1 u32.2 e_u34) ?_
  clear e_u34
  show mx_S X F L 182 29 [(2, .int v30), (0, .ref a0), (1, .int a1)] [] u34 0 0 (none, r, 0, 0)
  refine mx_S.pu (pc2 := 30) (lv2 := [(2, .int v30), (0, .ref a0), (1, .int a1)]) (st2 := [.ref a0]) hm dX6_beginClass_29 rfl ?_
  refine mx_S.pu (pc2 := 31) (lv2 := [(2, .int v30), (0, .ref a0), (1, .int a1)]) (st2 := [.ref a0, .ref a0]) hm dX6_beginClass_30 rfl ?_
  refine mx_S.pu (pc2 := 32) (lv2 := [(2, .int v30), (0, .ref a0), (1, .int a1)]) (st2 := [.ref a0, .ref a0, .ref a0]) hm dX6_beginClass_31 rfl ?_
  replace hf := mx_sv_el hf; obtain ⟨v35, e_v35, hf⟩ := hf
  refine sx_get hm dX6_beginClass_32 rs_RX6_24 (xgr_el e_v35) ?_
  clear e_v35
  replace hf := mx_sv_el hf; obtain ⟨v36, e_v36, hf⟩ := hf
  refine sx_get hm dX6_beginClass_35 rs_RX6_49 (xgr_el e_v36) ?_
  clear e_v36
  refine mx_S.pu (pc2 := 39) (lv2 := [(2, .int v30), (0, .ref a0), (1, .int a1)]) (st2 := [.int v30, .ref v36, .ref a0, .ref a0]) hm dX6_beginClass_38 rfl ?_
  replace hf := mx_gd_el hf; obtain ⟨c37, hf⟩ := hf
  replace hf := mx_sv_el hf; obtain ⟨u38, e_u38, hf⟩ := hf
  refine sx_cv hm dX6_beginClass_39 rs_RX6_55 mt_X4_above [.int v30] [.ref a0, .ref a0] (b := v36) (ci := 4) rfl rfl rfl c37 (Nat.le_of_ble_eq_true rfl) (Nat.le_of_ble_eq_true rfl) (by omega) (by omega) (f_X4_above_ok X (by omega) (by omega) nn v36 v30 u34 e_u38) ?_
  clear e_u38
  show mx_S X F L 182 42 [(2, .int v30), (0, .ref a0), (1, .int a1)] [.int u38.1, .ref a0, .ref a0] u38.2 0 0 (none, r, 0, 0)
  replace hf := mx_gd_el hf; obtain ⟨c39, hf⟩ := hf
  replace hf := mx_sv_el hf; obtain ⟨u40, e_u40, hf⟩ := hf
  refine sx_cv hm dX6_beginClass_42 rs_RX6_41 mt_X6_classOf [.int u38.1] [.ref a0] (b := a0) (ci := 6) rfl rfl rfl c39 (Nat.le_of_ble_eq_true rfl) (Nat.le_of_ble_eq_true rfl) (by omega) (by omega) (f_X6_classOf_ok X (by omega) (by omega) nn a0 u38.1 u38.2 e_u40) ?_
  clear e_u40
  show mx_S X F L 182 45 [(2, .int v30), (0, .ref a0), (1, .int a1)] [.int u40.1, .ref a0] u40.2 0 0 (none, r, 0, 0)
  replace hf := mx_gd_el hf; obtain ⟨c41, hf⟩ := hf
  replace hf := mx_sv_el hf; obtain ⟨u42, e_u42, hf⟩ := hf
  refine sx_cv hm dX6_beginClass_45 rs_RX6_45 mt_X6_put [.int u40.1] [] (b := a0) (ci := 6) rfl rfl rfl c41 (Nat.le_of_ble_eq_true rfl) (Nat.le_of_ble_eq_true rfl) (by omega) (by omega) (f_X6_put_ok X (by omega) (by omega) nn a0 u40.1 u40.2 e_u42) ?_
  clear e_u42
  show mx_S X F L 182 48 [(2, .int v30), (0, .ref a0), (1, .int a1)] [] u42 0 0 (none, r, 0, 0)
  refine mx_S.pu (pc2 := 49) (lv2 := [(2, .int v30), (0, .ref a0), (1, .int a1)]) (st2 := [.ref a0]) hm dX6_beginClass_48 rfl ?_
  refine mx_S.pu (pc2 := 50) (lv2 := [(2, .int v30), (0, .ref a0), (1, .int a1)]) (st2 := [.ref a0, .ref a0]) hm dX6_beginClass_49 rfl ?_
  replace hf := mx_sv_el hf; obtain ⟨v43, e_v43, hf⟩ := hf
  refine sx_get hm dX6_beginClass_50 rs_RX6_24 (xgr_el e_v43) ?_
  clear e_v43
  refine mx_S.pu (pc2 := 54) (lv2 := [(2, .int v30), (0, .ref a0), (1, .int a1)]) (st2 := [.int a1, .ref v43, .ref a0]) hm dX6_beginClass_53 rfl ?_
  replace hf := mx_gd_el hf; obtain ⟨c44, hf⟩ := hf
  replace hf := mx_sv_el hf; obtain ⟨u45, e_u45, hf⟩ := hf
  refine sx_cv hm dX6_beginClass_54 rs_RX6_58 mt_X2_fieldsOf [.int a1] [.ref a0] (b := v43) (ci := 2) rfl rfl rfl c44 (Nat.le_of_ble_eq_true rfl) (Nat.le_of_ble_eq_true rfl) (by omega) (by omega) (f_X2_fieldsOf_ok X (by omega) (by omega) nn v43 a1 u42 e_u45) ?_
  clear e_u45
  show mx_S X F L 182 57 [(2, .int v30), (0, .ref a0), (1, .int a1)] [.int u45.1, .ref a0] u45.2 0 0 (none, r, 0, 0)
  replace hf := mx_gd_el hf; obtain ⟨c46, hf⟩ := hf
  replace hf := mx_sv_el hf; obtain ⟨u47, e_u47, hf⟩ := hf
  refine sx_cv hm dX6_beginClass_57 rs_RX6_45 mt_X6_put [.int u45.1] [] (b := a0) (ci := 6) rfl rfl rfl c46 (Nat.le_of_ble_eq_true rfl) (Nat.le_of_ble_eq_true rfl) (by omega) (by omega) (f_X6_put_ok X (by omega) (by omega) nn a0 u45.1 u45.2 e_u47) ?_
  clear e_u47
  show mx_S X F L 182 60 [(2, .int v30), (0, .ref a0), (1, .int a1)] [] u47 0 0 (none, r, 0, 0)
  refine sx_ic (v := 0) hm dX6_beginClass_60 (by decide) ?_
  refine mx_S.pu (pc2 := 62) (lv2 := [(3, .int 0), (2, .int v30), (0, .ref a0), (1, .int a1)]) (st2 := []) hm dX6_beginClass_61 rfl ?_
  refine mx_S.ext [(0, .ref a0), (1, .int a1), (3, .int 0)] (mx_sub_pos [2, 3, 0] rfl (show ([3, 2, 0, 1] : List Nat).Nodup by decide)) ?_
  exact w_X6_beginClass_62_ok X hF hL nn nn a0 a1 0 u47 _ hf
set_option maxHeartbeats 4000000 in
set_option maxRecDepth 20000 in
theorem f_X0_beginClass_ok (X : Nat × (Nat → Int32)) {F L : Nat} (hF : 3 ≤ F) (hL : 68 ≤ L) (nn : Nat) (a0 : Nat) (a1 : Int32) (h : mx_H) {r : mx_H} (hf : f_X0_beginClass nn a0 a1 h = some r) : mx_R X F L 6 [.ref a0, .int a1] h (none, r, 0, 0) := by
  have hm : mx_mt 6 = some (yX0_beginClass, cX0_beginClass, 2, none) := mt_X0_beginClass
  show mx_S X F L 6 0 [(0, .ref a0), (1, .int a1)] [] h 0 0 (none, r, 0, 0)
  unfold f_X0_beginClass at hf
  refine mx_S.pu (pc2 := 1) (lv2 := [(0, .ref a0), (1, .int a1)]) (st2 := [.ref a0]) hm dX0_beginClass_0 rfl ?_
  replace hf := mx_sv_el hf; obtain ⟨v1, e_v1, hf⟩ := hf
  refine sx_get hm dX0_beginClass_1 rs_RX0_52 (xgr_el e_v1) ?_
  clear e_v1
  refine mx_S.pu (pc2 := 5) (lv2 := [(0, .ref a0), (1, .int a1)]) (st2 := [.int a1, .ref v1]) hm dX0_beginClass_4 rfl ?_
  replace hf := mx_gd_el hf; obtain ⟨c2, hf⟩ := hf
  replace hf := mx_sv_el hf; obtain ⟨u3, e_u3, hf⟩ := hf
  refine sx_cv hm dX0_beginClass_5 rs_RX0_73 mt_X6_beginClass [.int a1] [] (b := v1) (ci := 6) rfl rfl rfl c2 (Nat.le_of_ble_eq_true rfl) (Nat.le_of_ble_eq_true rfl) (by omega) (by omega) (f_X6_beginClass_ok X (by omega) (by omega) nn v1 a1 h e_u3) ?_
  clear e_u3
  show mx_S X F L 6 8 [(0, .ref a0), (1, .int a1)] [] u3 0 0 (none, r, 0, 0)
  cases hf
  exact sx_ret hm dX0_beginClass_8 rfl
set_option maxHeartbeats 4000000 in
set_option maxRecDepth 20000 in
theorem f_X0_beginProgram_ok (X : Nat × (Nat → Int32)) {F L : Nat} (hF : 0 ≤ F) (hL : 0 ≤ L) (nn : Nat) (a0 : Nat) (h : mx_H) {r : mx_H} (hf : f_X0_beginProgram nn a0 h = some r) : mx_R X F L 3 [.ref a0] h (none, r, 0, 0) := by
  have hm : mx_mt 3 = some (yX0_beginProgram, cX0_beginProgram, 1, none) := mt_X0_beginProgram
  show mx_S X F L 3 0 [(0, .ref a0)] [] h 0 0 (none, r, 0, 0)
  unfold f_X0_beginProgram at hf
  refine mx_S.pu (pc2 := 1) (lv2 := [(0, .ref a0)]) (st2 := [.ref a0]) hm dX0_beginProgram_0 rfl ?_
  refine sx_ic (v := (-1)) hm dX0_beginProgram_1 (by decide) ?_
  replace hf := mx_sv_el hf; obtain ⟨h1, e_h1, hf⟩ := hf
  refine sx_put hm dX0_beginProgram_2 rs_RX0_65 ft_0_7 ⟨rfl, rfl⟩ (fun z => by cases z) e_h1 ?_
  clear e_h1
  cases hf
  exact sx_ret hm dX0_beginProgram_5 rfl
set_option maxHeartbeats 4000000 in
set_option maxRecDepth 20000 in
theorem f_X0_noteMuch_ok (X : Nat × (Nat → Int32)) {F L : Nat} (hF : 0 ≤ F) (hL : 0 ≤ L) (nn : Nat) (a0 : Nat) (a1 : Int32) (a2 : Int32) (h : mx_H) {r : mx_H} (hf : f_X0_noteMuch nn a0 a1 a2 h = some r) : mx_R X F L 5 [.ref a0, .int a1, .int a2] h (none, r, 0, 0) := by
  have hm : mx_mt 5 = some (yX0_noteMuch, cX0_noteMuch, 3, none) := mt_X0_noteMuch
  show mx_S X F L 5 0 [(0, .ref a0), (1, .int a1), (2, .int a2)] [] h 0 0 (none, r, 0, 0)
  unfold f_X0_noteMuch at hf
  refine mx_S.pu (pc2 := 1) (lv2 := [(0, .ref a0), (1, .int a1), (2, .int a2)]) (st2 := [.int a1]) hm dX0_noteMuch_0 rfl ?_
  rcases mx_if_el hf with ⟨c4, hf⟩ | ⟨c4, hf⟩
  · refine sb_if_eq hm dX0_noteMuch_1 (tgt := 17) rfl (fun _ => ?_) (fun z => absurd c4 z)
    cases hf
    exact sx_ret hm dX0_noteMuch_17 rfl
  · refine sb_if_eq hm dX0_noteMuch_1 (tgt := 17) rfl (fun z => absurd z c4) (fun _ => ?_)
    refine mx_S.pu (pc2 := 5) (lv2 := [(0, .ref a0), (1, .int a1), (2, .int a2)]) (st2 := [.ref a0]) hm dX0_noteMuch_4 rfl ?_
    replace hf := mx_sv_el hf; obtain ⟨v1, e_v1, hf⟩ := hf
    refine sx_get hm dX0_noteMuch_5 rs_RX0_65 (xgi_el e_v1) ?_
    clear e_v1
    refine sx_ic (v := (-1)) hm dX0_noteMuch_8 (by decide) ?_
    rcases mx_if_el hf with ⟨c3, hf⟩ | ⟨c3, hf⟩
    · refine sb_ic_ne hm dX0_noteMuch_9 (tgt := 17) rfl (fun _ => ?_) (fun z => absurd c3 z)
      cases hf
      exact sx_ret hm dX0_noteMuch_17 rfl
    · refine sb_ic_ne hm dX0_noteMuch_9 (tgt := 17) rfl (fun z => absurd z c3) (fun _ => ?_)
      refine mx_S.pu (pc2 := 13) (lv2 := [(0, .ref a0), (1, .int a1), (2, .int a2)]) (st2 := [.ref a0]) hm dX0_noteMuch_12 rfl ?_
      refine mx_S.pu (pc2 := 14) (lv2 := [(0, .ref a0), (1, .int a1), (2, .int a2)]) (st2 := [.int a2, .ref a0]) hm dX0_noteMuch_13 rfl ?_
      replace hf := mx_sv_el hf; obtain ⟨h2, e_h2, hf⟩ := hf
      refine sx_put hm dX0_noteMuch_14 rs_RX0_65 ft_0_7 ⟨rfl, rfl⟩ (fun z => by cases z) e_h2 ?_
      clear e_h2
      cases hf
      exact sx_ret hm dX0_noteMuch_17 rfl
set_option maxHeartbeats 4000000 in
set_option maxRecDepth 20000 in
theorem f_X2_tokenOfClass_ok (X : Nat × (Nat → Int32)) {F L : Nat} (hF : 0 ≤ F) (hL : 0 ≤ L) (nn : Nat) (a0 : Nat) (a1 : Int32) (h : mx_H) {r : (Int32 × mx_H)} (hf : f_X2_tokenOfClass nn a0 a1 h = some r) : mx_R X F L 60 [.ref a0, .int a1] h (some (.int r.1), r.2, 0, 0) := by
  have hm : mx_mt 60 = some (yX2_tokenOfClass, cX2_tokenOfClass, 2, (some .int)) := mt_X2_tokenOfClass
  show mx_S X F L 60 0 [(0, .ref a0), (1, .int a1)] [] h 0 0 (some (.int r.1), r.2, 0, 0)
  unfold f_X2_tokenOfClass at hf
  refine mx_S.pu (pc2 := 1) (lv2 := [(0, .ref a0), (1, .int a1)]) (st2 := [.int a1]) hm dX2_tokenOfClass_0 rfl ?_
  rcases mx_if_el hf with ⟨c5, hf⟩ | ⟨c5, hf⟩
  · refine sb_if_lt hm dX2_tokenOfClass_1 (tgt := 21) rfl (fun _ => ?_) (fun z => absurd c5 z)
    refine sx_ic (v := (-1)) hm dX2_tokenOfClass_21 (by decide) ?_
    cases hf
    exact sx_ire hm dX2_tokenOfClass_22 rfl rfl
  · refine sb_if_lt hm dX2_tokenOfClass_1 (tgt := 21) rfl (fun z => absurd z c5) (fun _ => ?_)
    refine mx_S.pu (pc2 := 5) (lv2 := [(0, .ref a0), (1, .int a1)]) (st2 := [.int a1]) hm dX2_tokenOfClass_4 rfl ?_
    refine mx_S.pu (pc2 := 6) (lv2 := [(0, .ref a0), (1, .int a1)]) (st2 := [.ref a0, .int a1]) hm dX2_tokenOfClass_5 rfl ?_
    replace hf := mx_sv_el hf; obtain ⟨v1, e_v1, hf⟩ := hf
    refine sx_get hm dX2_tokenOfClass_6 rs_RX2_78 (xgi_el e_v1) ?_
    clear e_v1
    rcases mx_if_el hf with ⟨c4, hf⟩ | ⟨c4, hf⟩
    · refine sb_ic_ge hm dX2_tokenOfClass_9 (tgt := 21) rfl (fun _ => ?_) (fun z => absurd c4 z)
      refine sx_ic (v := (-1)) hm dX2_tokenOfClass_21 (by decide) ?_
      cases hf
      exact sx_ire hm dX2_tokenOfClass_22 rfl rfl
    · refine sb_ic_ge hm dX2_tokenOfClass_9 (tgt := 21) rfl (fun z => absurd z c4) (fun _ => ?_)
      refine mx_S.pu (pc2 := 13) (lv2 := [(0, .ref a0), (1, .int a1)]) (st2 := [.ref a0]) hm dX2_tokenOfClass_12 rfl ?_
      replace hf := mx_sv_el hf; obtain ⟨v2, e_v2, hf⟩ := hf
      refine sx_get hm dX2_tokenOfClass_13 rs_RX2_20 (xgr_el e_v2) ?_
      clear e_v2
      refine mx_S.pu (pc2 := 17) (lv2 := [(0, .ref a0), (1, .int a1)]) (st2 := [.int a1, .ref v2]) hm dX2_tokenOfClass_16 rfl ?_
      replace hf := mx_sv_el hf; obtain ⟨v3, e_v3, hf⟩ := hf
      refine sx_ald hm dX2_tokenOfClass_17 e_v3 ?_
      clear e_v3
      refine mx_S.pu (pc2 := 22) (lv2 := [(0, .ref a0), (1, .int a1)]) (st2 := [.int v3]) hm dX2_tokenOfClass_18 rfl ?_
      cases hf
      exact sx_ire hm dX2_tokenOfClass_22 rfl rfl
set_option maxHeartbeats 4000000 in
set_option maxRecDepth 20000 in
theorem f_X9_nameLength_ok (X : Nat × (Nat → Int32)) {F L : Nat} (hF : 0 ≤ F) (hL : 0 ≤ L) (nn : Nat) (a0 : Nat) (a1 : Int32) (h : mx_H) {r : (Int32 × mx_H)} (hf : f_X9_nameLength nn a0 a1 h = some r) : mx_R X F L 250 [.ref a0, .int a1] h (some (.int r.1), r.2, 0, 0) := by
  have hm : mx_mt 250 = some (yX9_nameLength, cX9_nameLength, 2, (some .int)) := mt_X9_nameLength
  show mx_S X F L 250 0 [(0, .ref a0), (1, .int a1)] [] h 0 0 (some (.int r.1), r.2, 0, 0)
  unfold f_X9_nameLength at hf
  refine mx_S.pu (pc2 := 1) (lv2 := [(0, .ref a0), (1, .int a1)]) (st2 := [.int a1]) hm dX9_nameLength_0 rfl ?_
  rcases mx_if_el hf with ⟨c9, hf⟩ | ⟨c9, hf⟩
  · refine sb_if_lt hm dX9_nameLength_1 (tgt := 30) rfl (fun _ => ?_) (fun z => absurd c9 z)
    refine sx_ic (v := 0) hm dX9_nameLength_30 (by decide) ?_
    cases hf
    exact sx_ire hm dX9_nameLength_31 rfl rfl
  · refine sb_if_lt hm dX9_nameLength_1 (tgt := 30) rfl (fun z => absurd z c9) (fun _ => ?_)
    refine mx_S.pu (pc2 := 5) (lv2 := [(0, .ref a0), (1, .int a1)]) (st2 := [.int a1]) hm dX9_nameLength_4 rfl ?_
    refine mx_S.pu (pc2 := 6) (lv2 := [(0, .ref a0), (1, .int a1)]) (st2 := [.ref a0, .int a1]) hm dX9_nameLength_5 rfl ?_
    replace hf := mx_sv_el hf; obtain ⟨v1, e_v1, hf⟩ := hf
    refine sx_get hm dX9_nameLength_6 rs_RX9_73 (xgi_el e_v1) ?_
    clear e_v1
    rcases mx_if_el hf with ⟨c8, hf⟩ | ⟨c8, hf⟩
    · refine sb_ic_ge hm dX9_nameLength_9 (tgt := 30) rfl (fun _ => ?_) (fun z => absurd c8 z)
      refine sx_ic (v := 0) hm dX9_nameLength_30 (by decide) ?_
      cases hf
      exact sx_ire hm dX9_nameLength_31 rfl rfl
    · refine sb_ic_ge hm dX9_nameLength_9 (tgt := 30) rfl (fun z => absurd z c8) (fun _ => ?_)
      refine mx_S.pu (pc2 := 13) (lv2 := [(0, .ref a0), (1, .int a1)]) (st2 := [.ref a0]) hm dX9_nameLength_12 rfl ?_
      replace hf := mx_sv_el hf; obtain ⟨v2, e_v2, hf⟩ := hf
      refine sx_get hm dX9_nameLength_13 rs_RX9_29 (xgr_el e_v2) ?_
      clear e_v2
      refine mx_S.pu (pc2 := 17) (lv2 := [(0, .ref a0), (1, .int a1)]) (st2 := [.int a1, .ref v2]) hm dX9_nameLength_16 rfl ?_
      refine sx_ic (v := 1) hm dX9_nameLength_17 (by decide) ?_
      replace hf := xl_el hf; obtain ⟨v3, e_v3, hf⟩ := hf
      refine mx_S.pu (pc2 := 19) (lv2 := [(0, .ref a0), (1, .int a1)]) (st2 := [.int v3, .ref v2]) hm dX9_nameLength_18 (by rw [← e_v3]; rfl) ?_
      clear e_v3
      replace hf := mx_sv_el hf; obtain ⟨v4, e_v4, hf⟩ := hf
      refine sx_ald hm dX9_nameLength_19 e_v4 ?_
      clear e_v4
      refine mx_S.pu (pc2 := 21) (lv2 := [(0, .ref a0), (1, .int a1)]) (st2 := [.ref a0, .int v4]) hm dX9_nameLength_20 rfl ?_
      replace hf := mx_sv_el hf; obtain ⟨v5, e_v5, hf⟩ := hf
      refine sx_get hm dX9_nameLength_21 rs_RX9_29 (xgr_el e_v5) ?_
      clear e_v5
      refine mx_S.pu (pc2 := 25) (lv2 := [(0, .ref a0), (1, .int a1)]) (st2 := [.int a1, .ref v5, .int v4]) hm dX9_nameLength_24 rfl ?_
      replace hf := mx_sv_el hf; obtain ⟨v6, e_v6, hf⟩ := hf
      refine sx_ald hm dX9_nameLength_25 e_v6 ?_
      clear e_v6
      replace hf := xl_el hf; obtain ⟨v7, e_v7, hf⟩ := hf
      refine mx_S.pu (pc2 := 27) (lv2 := [(0, .ref a0), (1, .int a1)]) (st2 := [.int v7]) hm dX9_nameLength_26 (by rw [← e_v7]; rfl) ?_
      clear e_v7
      refine mx_S.pu (pc2 := 31) (lv2 := [(0, .ref a0), (1, .int a1)]) (st2 := [.int v7]) hm dX9_nameLength_27 rfl ?_
      cases hf
      exact sx_ire hm dX9_nameLength_31 rfl rfl
set_option maxHeartbeats 4000000 in
set_option maxRecDepth 20000 in
theorem f_X6_bytesOf_ok (X : Nat × (Nat → Int32)) {F L : Nat} (hF : 1 ≤ F) (hL : 21 ≤ L) (nn : Nat) (a0 : Nat) (a1 : Int32) (a2 : Int32) (h : mx_H) {r : (Int32 × mx_H)} (hf : f_X6_bytesOf nn a0 a1 a2 h = some r) : mx_R X F L 189 [.ref a0, .int a1, .int a2] h (some (.int r.1), r.2, 0, 0) := by
  have hm : mx_mt 189 = some (yX6_bytesOf, cX6_bytesOf, 3, (some .int)) := mt_X6_bytesOf
  show mx_S X F L 189 0 [(0, .ref a0), (1, .int a1), (2, .int a2)] [] h 0 0 (some (.int r.1), r.2, 0, 0)
  unfold f_X6_bytesOf at hf
  refine mx_S.pu (pc2 := 1) (lv2 := [(0, .ref a0), (1, .int a1), (2, .int a2)]) (st2 := [.int a1]) hm dX6_bytesOf_0 rfl ?_
  rcases mx_if_el hf with ⟨n_0, hf⟩ | ⟨n_0, hf⟩
  · refine sx_tin hm dX6_bytesOf_1 (by rw [n_0]; decide) (by rw [n_0]; decide) (off := 27) (by rw [n_0]; rfl) (tgt := 28) rfl ?_
    clear n_0
    refine sx_ic (v := 2) hm dX6_bytesOf_28 (by decide) ?_
    refine mx_S.pu (pc2 := 30) (lv2 := [(0, .ref a0), (1, .int a1), (2, .int a2)]) (st2 := [.ref a0, .int 2]) hm dX6_bytesOf_29 rfl ?_
    replace hf := mx_sv_el hf; obtain ⟨v1, e_v1, hf⟩ := hf
    refine sx_get hm dX6_bytesOf_30 rs_RX6_20 (xgr_el e_v1) ?_
    clear e_v1
    refine mx_S.pu (pc2 := 34) (lv2 := [(0, .ref a0), (1, .int a1), (2, .int a2)]) (st2 := [.int a2, .ref v1, .int 2]) hm dX6_bytesOf_33 rfl ?_
    replace hf := mx_gd_el hf; obtain ⟨c2, hf⟩ := hf
    replace hf := mx_sv_el hf; obtain ⟨u3, e_u3, hf⟩ := hf
    refine sx_cv hm dX6_bytesOf_34 rs_RX6_107 mt_X9_nameLength [.int a2] [.int 2] (b := v1) (ci := 9) rfl rfl rfl c2 (Nat.le_of_ble_eq_true rfl) (Nat.le_of_ble_eq_true rfl) (by omega) (by omega) (f_X9_nameLength_ok X (by omega) (by omega) nn v1 a2 h e_u3) ?_
    clear e_u3
    show mx_S X F L 189 37 [(0, .ref a0), (1, .int a1), (2, .int a2)] [.int u3.1, .int 2] u3.2 0 0 (some (.int r.1), r.2, 0, 0)
    replace hf := xl_el hf; obtain ⟨v4, e_v4, hf⟩ := hf
    refine mx_S.pu (pc2 := 38) (lv2 := [(0, .ref a0), (1, .int a1), (2, .int a2)]) (st2 := [.int v4]) hm dX6_bytesOf_37 (by rw [← e_v4]; rfl) ?_
    clear e_v4
    cases hf
    exact sx_ire hm dX6_bytesOf_38 rfl rfl
  · rcases mx_if_el hf with ⟨n_1, hf⟩ | ⟨n_1, hf⟩
    · refine sx_tin hm dX6_bytesOf_1 (by rw [n_1]; decide) (by rw [n_1]; decide) (off := 38) (by rw [n_1]; rfl) (tgt := 39) rfl ?_
      clear n_0 n_1
      refine sx_ic (v := 5) hm dX6_bytesOf_39 (by decide) ?_
      cases hf
      exact sx_ire hm dX6_bytesOf_40 rfl rfl
    · rcases mx_if_el hf with ⟨n_2, hf⟩ | ⟨n_2, hf⟩
      · refine sx_tin hm dX6_bytesOf_1 (by rw [n_2]; decide) (by rw [n_2]; decide) (off := 40) (by rw [n_2]; rfl) (tgt := 41) rfl ?_
        clear n_0 n_1 n_2
        refine sx_ic (v := 2) hm dX6_bytesOf_41 (by decide) ?_
        cases hf
        exact sx_ire hm dX6_bytesOf_42 rfl rfl
      · rcases (show (a1.toInt < 1 ∨ 3 < a1.toInt) ∨ a1.toInt = 1 ∨ a1.toInt = 2 ∨ a1.toInt = 3 by omega) with z0 | z0 | z0 | z0
        · refine sx_tout hm dX6_bytesOf_1 z0 (tgt := 43) rfl ?_
          refine sx_ic (v := 4) hm dX6_bytesOf_43 (by decide) ?_
          cases hf
          exact sx_ire hm dX6_bytesOf_44 rfl rfl
        · exact absurd (Int32.toInt_inj.mp (z0.trans (by decide : (1 : Int) = (1 : Int32).toInt))) n_0
        · exact absurd (Int32.toInt_inj.mp (z0.trans (by decide : (2 : Int) = (2 : Int32).toInt))) n_1
        · exact absurd (Int32.toInt_inj.mp (z0.trans (by decide : (3 : Int) = (3 : Int32).toInt))) n_2
set_option maxHeartbeats 4000000 in
set_option maxRecDepth 20000 in
theorem w_X6_imageSize_9_ok (X : Nat × (Nat → Int32)) {F L : Nat} (hF : 2 ≤ F) (hL : 43 ≤ L) (nn : Nat) : ∀ (k : Nat) (l0 : Nat) (l1 : Int32) (l2 : Int32) (h : mx_H) (r : (Int32 × mx_H)), w_X6_imageSize_9 nn k l0 l1 l2 h = some r → mx_S X F L 187 9 [(0, .ref l0), (1, .int l1), (2, .int l2)] [] h 0 0 (some (.int r.1), r.2, 0, 0) := by
  have hm : mx_mt 187 = some (yX6_imageSize, cX6_imageSize, 3, (some .int)) := mt_X6_imageSize
  intro k
  induction k with
  | zero => intro l0 l1 l2 h r hf; cases hf
  | succ k ih =>
    intro l0 l1 l2 h r hf
    unfold w_X6_imageSize_9 at hf
    refine mx_S.pu (pc2 := 10) (lv2 := [(0, .ref l0), (1, .int l1), (2, .int l2)]) (st2 := [.int l2]) hm dX6_imageSize_9 rfl ?_
    refine mx_S.pu (pc2 := 11) (lv2 := [(0, .ref l0), (1, .int l1), (2, .int l2)]) (st2 := [.ref l0, .int l2]) hm dX6_imageSize_10 rfl ?_
    replace hf := mx_sv_el hf; obtain ⟨v1, e_v1, hf⟩ := hf
    refine sx_get hm dX6_imageSize_11 rs_RX6_28 (xgi_el e_v1) ?_
    clear e_v1
    rcases mx_if_el hf with ⟨c10, hf⟩ | ⟨c10, hf⟩
    · refine sb_ic_gt hm dX6_imageSize_14 (tgt := 42) rfl (fun _ => ?_) (fun z => absurd c10 z)
      refine mx_S.pu (pc2 := 43) (lv2 := [(0, .ref l0), (1, .int l1), (2, .int l2)]) (st2 := [.int l1]) hm dX6_imageSize_42 rfl ?_
      cases hf
      exact sx_ire hm dX6_imageSize_43 rfl rfl
    · refine sb_ic_gt hm dX6_imageSize_14 (tgt := 42) rfl (fun z => absurd z c10) (fun _ => ?_)
      refine mx_S.pu (pc2 := 18) (lv2 := [(0, .ref l0), (1, .int l1), (2, .int l2)]) (st2 := [.int l1]) hm dX6_imageSize_17 rfl ?_
      refine mx_S.pu (pc2 := 19) (lv2 := [(0, .ref l0), (1, .int l1), (2, .int l2)]) (st2 := [.ref l0, .int l1]) hm dX6_imageSize_18 rfl ?_
      refine mx_S.pu (pc2 := 20) (lv2 := [(0, .ref l0), (1, .int l1), (2, .int l2)]) (st2 := [.ref l0, .ref l0, .int l1]) hm dX6_imageSize_19 rfl ?_
      replace hf := mx_sv_el hf; obtain ⟨v2, e_v2, hf⟩ := hf
      refine sx_get hm dX6_imageSize_20 rs_RX6_9 (xgr_el e_v2) ?_
      clear e_v2
      refine mx_S.pu (pc2 := 24) (lv2 := [(0, .ref l0), (1, .int l1), (2, .int l2)]) (st2 := [.int l2, .ref v2, .ref l0, .int l1]) hm dX6_imageSize_23 rfl ?_
      replace hf := mx_sv_el hf; obtain ⟨v3, e_v3, hf⟩ := hf
      refine sx_ald hm dX6_imageSize_24 e_v3 ?_
      clear e_v3
      refine mx_S.pu (pc2 := 26) (lv2 := [(0, .ref l0), (1, .int l1), (2, .int l2)]) (st2 := [.ref l0, .int v3, .ref l0, .int l1]) hm dX6_imageSize_25 rfl ?_
      replace hf := mx_sv_el hf; obtain ⟨v4, e_v4, hf⟩ := hf
      refine sx_get hm dX6_imageSize_26 rs_RX6_13 (xgr_el e_v4) ?_
      clear e_v4
      refine mx_S.pu (pc2 := 30) (lv2 := [(0, .ref l0), (1, .int l1), (2, .int l2)]) (st2 := [.int l2, .ref v4, .int v3, .ref l0, .int l1]) hm dX6_imageSize_29 rfl ?_
      replace hf := mx_sv_el hf; obtain ⟨v5, e_v5, hf⟩ := hf
      refine sx_ald hm dX6_imageSize_30 e_v5 ?_
      clear e_v5
      replace hf := mx_gd_el hf; obtain ⟨c6, hf⟩ := hf
      replace hf := mx_sv_el hf; obtain ⟨u7, e_u7, hf⟩ := hf
      refine sx_cv hm dX6_imageSize_31 rs_RX6_90 mt_X6_bytesOf [.int v3, .int v5] [.int l1] (b := l0) (ci := 6) rfl rfl rfl c6 (Nat.le_of_ble_eq_true rfl) (Nat.le_of_ble_eq_true rfl) (by omega) (by omega) (f_X6_bytesOf_ok X (by omega) (by omega) nn l0 v3 v5 h e_u7) ?_
      clear e_u7
      show mx_S X F L 187 34 [(0, .ref l0), (1, .int l1), (2, .int l2)] [.int u7.1, .int l1] u7.2 0 0 (some (.int r.1), r.2, 0, 0)
      replace hf := xl_el hf; obtain ⟨v8, e_v8, hf⟩ := hf
      refine mx_S.pu (pc2 := 35) (lv2 := [(0, .ref l0), (1, .int l1), (2, .int l2)]) (st2 := [.int v8]) hm dX6_imageSize_34 (by rw [← e_v8]; rfl) ?_
      clear e_v8
      refine mx_S.pu (pc2 := 36) (lv2 := [(1, .int v8), (0, .ref l0), (2, .int l2)]) (st2 := []) hm dX6_imageSize_35 rfl ?_
      replace hf := xl_el hf; obtain ⟨v9, e_v9, hf⟩ := hf
      refine mx_S.pu (pc2 := 39) (lv2 := [(2, .int v9), (1, .int v8), (0, .ref l0)]) (st2 := []) hm dX6_imageSize_36 (by rw [← e_v9]; rfl) ?_
      clear e_v9
      refine mx_S.pu (pc2 := 9) (lv2 := [(2, .int v9), (1, .int v8), (0, .ref l0)]) (st2 := []) hm dX6_imageSize_39 rfl ?_
      refine mx_S.ext [(0, .ref l0), (1, .int v8), (2, .int v9)] (mx_sub_pos [2, 1, 0] rfl (show ([2, 1, 0] : List Nat).Nodup by decide)) ?_
      exact ih l0 v8 v9 u7.2 _ hf
set_option maxHeartbeats 4000000 in
set_option maxRecDepth 20000 in
theorem f_X6_imageSize_ok (X : Nat × (Nat → Int32)) {F L : Nat} (hF : 2 ≤ F) (hL : 43 ≤ L) (nn : Nat) (a0 : Nat) (h : mx_H) {r : (Int32 × mx_H)} (hf : f_X6_imageSize nn a0 h = some r) : mx_R X F L 187 [.ref a0] h (some (.int r.1), r.2, 0, 0) := by
  have hm : mx_mt 187 = some (yX6_imageSize, cX6_imageSize, 3, (some .int)) := mt_X6_imageSize
  show mx_S X F L 187 0 [(0, .ref a0)] [] h 0 0 (some (.int r.1), r.2, 0, 0)
  unfold f_X6_imageSize at hf
  refine sx_ic (v := 3) hm dX6_imageSize_0 (by decide) ?_
  refine mx_S.pu (pc2 := 2) (lv2 := [(0, .ref a0)]) (st2 := [.ref a0, .int 3]) hm dX6_imageSize_1 rfl ?_
  replace hf := mx_sv_el hf; obtain ⟨v11, e_v11, hf⟩ := hf
  refine sx_get hm dX6_imageSize_2 rs_RX6_36 (xgi_el e_v11) ?_
  clear e_v11
  replace hf := xl_el hf; obtain ⟨v12, e_v12, hf⟩ := hf
  refine mx_S.pu (pc2 := 6) (lv2 := [(0, .ref a0)]) (st2 := [.int v12]) hm dX6_imageSize_5 (by rw [← e_v12]; rfl) ?_
  clear e_v12
  refine mx_S.pu (pc2 := 7) (lv2 := [(1, .int v12), (0, .ref a0)]) (st2 := []) hm dX6_imageSize_6 rfl ?_
  refine sx_ic (v := 1) hm dX6_imageSize_7 (by decide) ?_
  refine mx_S.pu (pc2 := 9) (lv2 := [(2, .int 1), (1, .int v12), (0, .ref a0)]) (st2 := []) hm dX6_imageSize_8 rfl ?_
  refine mx_S.ext [(0, .ref a0), (1, .int v12), (2, .int 1)] (mx_sub_pos [2, 1, 0] rfl (show ([2, 1, 0] : List Nat).Nodup by decide)) ?_
  exact w_X6_imageSize_9_ok X hF hL nn nn a0 v12 1 h _ hf
set_option maxHeartbeats 4000000 in
set_option maxRecDepth 20000 in
theorem f_X6_isTooMuch_ok (X : Nat × (Nat → Int32)) {F L : Nat} (hF : 3 ≤ F) (hL : 65 ≤ L) (nn : Nat) (a0 : Nat) (h : mx_H) {r : (Int32 × mx_H)} (hf : f_X6_isTooMuch nn a0 h = some r) : mx_R X F L 186 [.ref a0] h (some (.int r.1), r.2, 0, 0) := by
  have hm : mx_mt 186 = some (yX6_isTooMuch, cX6_isTooMuch, 1, (some .boolean)) := mt_X6_isTooMuch
  show mx_S X F L 186 0 [(0, .ref a0)] [] h 0 0 (some (.int r.1), r.2, 0, 0)
  unfold f_X6_isTooMuch at hf
  refine mx_S.pu (pc2 := 1) (lv2 := [(0, .ref a0)]) (st2 := [.ref a0]) hm dX6_isTooMuch_0 rfl ?_
  replace hf := mx_sv_el hf; obtain ⟨v1, e_v1, hf⟩ := hf
  refine sx_get hm dX6_isTooMuch_1 rs_RX6_32 (xgi_el e_v1) ?_
  clear e_v1
  rcases mx_if_el hf with ⟨c5, hf⟩ | ⟨c5, hf⟩
  · refine sb_if_ne hm dX6_isTooMuch_4 (tgt := 17) rfl (fun _ => ?_) (fun z => absurd c5 z)
    refine sx_ic (v := 1) hm dX6_isTooMuch_17 (by decide) ?_
    refine mx_S.pu (pc2 := 22) (lv2 := [(0, .ref a0)]) (st2 := [.int 1]) hm dX6_isTooMuch_18 rfl ?_
    cases hf
    exact sx_ire hm dX6_isTooMuch_22 rfl (by decide)
  · refine sb_if_ne hm dX6_isTooMuch_4 (tgt := 17) rfl (fun z => absurd z c5) (fun _ => ?_)
    refine mx_S.pu (pc2 := 8) (lv2 := [(0, .ref a0)]) (st2 := [.ref a0]) hm dX6_isTooMuch_7 rfl ?_
    replace hf := mx_gd_el hf; obtain ⟨c2, hf⟩ := hf
    replace hf := mx_sv_el hf; obtain ⟨u3, e_u3, hf⟩ := hf
    refine sx_cv hm dX6_isTooMuch_8 rs_RX6_86 mt_X6_imageSize [] [] (b := a0) (ci := 6) rfl rfl rfl c2 (Nat.le_of_ble_eq_true rfl) (Nat.le_of_ble_eq_true rfl) (by omega) (by omega) (f_X6_imageSize_ok X (by omega) (by omega) nn a0 h e_u3) ?_
    clear e_u3
    show mx_S X F L 186 11 [(0, .ref a0)] [.int u3.1] u3.2 0 0 (some (.int r.1), r.2, 0, 0)
    refine sx_si (v := 6000) hm dX6_isTooMuch_11 (by decide) ?_
    rcases mx_if_el hf with ⟨c4, hf⟩ | ⟨c4, hf⟩
    · refine sb_ic_le hm dX6_isTooMuch_14 (tgt := 21) rfl (fun _ => ?_) (fun z => absurd c4 z)
      refine sx_ic (v := 0) hm dX6_isTooMuch_21 (by decide) ?_
      cases hf
      exact sx_ire hm dX6_isTooMuch_22 rfl (by decide)
    · refine sb_ic_le hm dX6_isTooMuch_14 (tgt := 21) rfl (fun z => absurd z c4) (fun _ => ?_)
      refine sx_ic (v := 1) hm dX6_isTooMuch_17 (by decide) ?_
      refine mx_S.pu (pc2 := 22) (lv2 := [(0, .ref a0)]) (st2 := [.int 1]) hm dX6_isTooMuch_18 rfl ?_
      cases hf
      exact sx_ire hm dX6_isTooMuch_22 rfl (by decide)
set_option maxHeartbeats 4000000 in
set_option maxRecDepth 20000 in
theorem f_X9_copyName_ok (X : Nat × (Nat → Int32)) {F L : Nat} (hF : 1 ≤ F) (hL : 60 ≤ L) (nn : Nat) (a0 : Nat) (a1 : Int32) (a2 : Nat) (a3 : Int32) (h : mx_H) {r : mx_H} (hf : f_X9_copyName nn a0 a1 a2 a3 h = some r) : mx_R X F L 251 [.ref a0, .int a1, .ref a2, .int a3] h (none, r, 0, 0) := by
  have hm : mx_mt 251 = some (yX9_copyName, cX9_copyName, 5, none) := mt_X9_copyName
  show mx_S X F L 251 0 [(0, .ref a0), (1, .int a1), (2, .ref a2), (3, .int a3)] [] h 0 0 (none, r, 0, 0)
  unfold f_X9_copyName at hf
  refine mx_S.pu (pc2 := 1) (lv2 := [(0, .ref a0), (1, .int a1), (2, .ref a2), (3, .int a3)]) (st2 := [.ref a0]) hm dX9_copyName_0 rfl ?_
  refine mx_S.pu (pc2 := 2) (lv2 := [(0, .ref a0), (1, .int a1), (2, .ref a2), (3, .int a3)]) (st2 := [.int a1, .ref a0]) hm dX9_copyName_1 rfl ?_
  replace hf := mx_gd_el hf; obtain ⟨c1, hf⟩ := hf
  replace hf := mx_sv_el hf; obtain ⟨u2, e_u2, hf⟩ := hf
  refine sx_cv hm dX9_copyName_2 rs_RX9_89 mt_X9_nameLength [.int a1] [] (b := a0) (ci := 9) rfl rfl rfl c1 (Nat.le_of_ble_eq_true rfl) (Nat.le_of_ble_eq_true rfl) (by omega) (by omega) (f_X9_nameLength_ok X (by omega) (by omega) nn a0 a1 h e_u2) ?_
  clear e_u2
  show mx_S X F L 251 5 [(0, .ref a0), (1, .int a1), (2, .ref a2), (3, .int a3)] [.int u2.1] u2.2 0 0 (none, r, 0, 0)
  refine mx_S.pu (pc2 := 7) (lv2 := [(4, .int u2.1), (0, .ref a0), (1, .int a1), (2, .ref a2), (3, .int a3)]) (st2 := []) hm dX9_copyName_5 rfl ?_
  refine mx_S.pu (pc2 := 8) (lv2 := [(4, .int u2.1), (0, .ref a0), (1, .int a1), (2, .ref a2), (3, .int a3)]) (st2 := [.int a3]) hm dX9_copyName_7 rfl ?_
  rcases mx_if_el hf with ⟨c11, hf⟩ | ⟨c11, hf⟩
  · refine sb_if_lt hm dX9_copyName_8 (tgt := 42) rfl (fun _ => ?_) (fun z => absurd c11 z)
    cases hf
    exact sx_ret hm dX9_copyName_42 rfl
  · refine sb_if_lt hm dX9_copyName_8 (tgt := 42) rfl (fun z => absurd z c11) (fun _ => ?_)
    refine mx_S.pu (pc2 := 12) (lv2 := [(4, .int u2.1), (0, .ref a0), (1, .int a1), (2, .ref a2), (3, .int a3)]) (st2 := [.int a3]) hm dX9_copyName_11 rfl ?_
    refine mx_S.pu (pc2 := 14) (lv2 := [(4, .int u2.1), (0, .ref a0), (1, .int a1), (2, .ref a2), (3, .int a3)]) (st2 := [.int u2.1, .int a3]) hm dX9_copyName_12 rfl ?_
    replace hf := xl_el hf; obtain ⟨v3, e_v3, hf⟩ := hf
    refine mx_S.pu (pc2 := 15) (lv2 := [(4, .int u2.1), (0, .ref a0), (1, .int a1), (2, .ref a2), (3, .int a3)]) (st2 := [.int v3]) hm dX9_copyName_14 (by rw [← e_v3]; rfl) ?_
    clear e_v3
    refine mx_S.pu (pc2 := 16) (lv2 := [(4, .int u2.1), (0, .ref a0), (1, .int a1), (2, .ref a2), (3, .int a3)]) (st2 := [.ref a2, .int v3]) hm dX9_copyName_15 rfl ?_
    replace hf := mx_sv_el hf; obtain ⟨v4, e_v4, hf⟩ := hf
    refine sx_len hm dX9_copyName_16 e_v4 ?_
    clear e_v4
    rcases mx_if_el hf with ⟨c10, hf⟩ | ⟨c10, hf⟩
    · refine sb_ic_gt hm dX9_copyName_17 (tgt := 42) rfl (fun _ => ?_) (fun z => absurd c10 z)
      cases hf
      exact sx_ret hm dX9_copyName_42 rfl
    · refine sb_ic_gt hm dX9_copyName_17 (tgt := 42) rfl (fun z => absurd z c10) (fun _ => ?_)
      refine mx_S.pu (pc2 := 22) (lv2 := [(4, .int u2.1), (0, .ref a0), (1, .int a1), (2, .ref a2), (3, .int a3)]) (st2 := [.int u2.1]) hm dX9_copyName_20 rfl ?_
      rcases mx_if_el hf with ⟨c9, hf⟩ | ⟨c9, hf⟩
      · refine sb_if_le hm dX9_copyName_22 (tgt := 42) rfl (fun _ => ?_) (fun z => absurd c9 z)
        cases hf
        exact sx_ret hm dX9_copyName_42 rfl
      · refine sb_if_le hm dX9_copyName_22 (tgt := 42) rfl (fun z => absurd z c9) (fun _ => ?_)
        refine mx_S.pu (pc2 := 26) (lv2 := [(4, .int u2.1), (0, .ref a0), (1, .int a1), (2, .ref a2), (3, .int a3)]) (st2 := [.ref a0]) hm dX9_copyName_25 rfl ?_
        replace hf := mx_sv_el hf; obtain ⟨v5, e_v5, hf⟩ := hf
        refine sx_get hm dX9_copyName_26 rs_RX9_25 (xgr_el e_v5) ?_
        clear e_v5
        refine mx_S.pu (pc2 := 30) (lv2 := [(4, .int u2.1), (0, .ref a0), (1, .int a1), (2, .ref a2), (3, .int a3)]) (st2 := [.ref a0, .ref v5]) hm dX9_copyName_29 rfl ?_
        replace hf := mx_sv_el hf; obtain ⟨v6, e_v6, hf⟩ := hf
        refine sx_get hm dX9_copyName_30 rs_RX9_29 (xgr_el e_v6) ?_
        clear e_v6
        refine mx_S.pu (pc2 := 34) (lv2 := [(4, .int u2.1), (0, .ref a0), (1, .int a1), (2, .ref a2), (3, .int a3)]) (st2 := [.int a1, .ref v6, .ref v5]) hm dX9_copyName_33 rfl ?_
        replace hf := mx_sv_el hf; obtain ⟨v7, e_v7, hf⟩ := hf
        refine sx_ald hm dX9_copyName_34 e_v7 ?_
        clear e_v7
        refine mx_S.pu (pc2 := 36) (lv2 := [(4, .int u2.1), (0, .ref a0), (1, .int a1), (2, .ref a2), (3, .int a3)]) (st2 := [.ref a2, .int v7, .ref v5]) hm dX9_copyName_35 rfl ?_
        refine mx_S.pu (pc2 := 37) (lv2 := [(4, .int u2.1), (0, .ref a0), (1, .int a1), (2, .ref a2), (3, .int a3)]) (st2 := [.int a3, .ref a2, .int v7, .ref v5]) hm dX9_copyName_36 rfl ?_
        refine mx_S.pu (pc2 := 39) (lv2 := [(4, .int u2.1), (0, .ref a0), (1, .int a1), (2, .ref a2), (3, .int a3)]) (st2 := [.int u2.1, .int a3, .ref a2, .int v7, .ref v5]) hm dX9_copyName_37 rfl ?_
        replace hf := mx_sv_el hf; obtain ⟨h8, e_h8, hf⟩ := hf
        refine sx_copy hm dX9_copyName_39 rs_RX9_67 e_h8 (by omega) (Nat.le_trans (Nat.le_of_ble_eq_true rfl : _ ≤ 60) (by omega)) ?_
        clear e_h8
        cases hf
        exact sx_ret hm dX9_copyName_42 rfl
set_option maxHeartbeats 4000000 in
set_option maxRecDepth 20000 in
theorem w_X6_writeConstant_83_ok (X : Nat × (Nat → Int32)) {F L : Nat} (hF : 2 ≤ F) (hL : 84 ≤ L) (nn : Nat) : ∀ (k : Nat) (l0 : Nat) (l1 : Int32) (l2 : Nat) (l3 : Int32) (l4 : Int32) (l5 : Int32) (h : mx_H) (r : mx_H), w_X6_writeConstant_83 nn k l0 l1 l2 l3 l4 l5 h = some r → mx_S X F L 190 83 [(0, .ref l0), (1, .int l1), (2, .ref l2), (3, .int l3), (4, .int l4), (5, .int l5)] [] h 0 0 (none, r, 0, 0) := by
  have hm : mx_mt 190 = some (yX6_writeConstant, cX6_writeConstant, 6, none) := mt_X6_writeConstant
  intro k
  induction k with
  | zero => intro l0 l1 l2 l3 l4 l5 h r hf; cases hf
  | succ k ih =>
    intro l0 l1 l2 l3 l4 l5 h r hf
    unfold w_X6_writeConstant_83 at hf
    refine mx_S.pu (pc2 := 85) (lv2 := [(0, .ref l0), (1, .int l1), (2, .ref l2), (3, .int l3), (4, .int l4), (5, .int l5)]) (st2 := [.int l5]) hm dX6_writeConstant_83 rfl ?_
    refine mx_S.pu (pc2 := 87) (lv2 := [(0, .ref l0), (1, .int l1), (2, .ref l2), (3, .int l3), (4, .int l4), (5, .int l5)]) (st2 := [.int l4, .int l5]) hm dX6_writeConstant_85 rfl ?_
    rcases mx_if_el hf with ⟨c11, hf⟩ | ⟨c11, hf⟩
    · refine sb_ic_ge hm dX6_writeConstant_87 (tgt := 120) rfl (fun _ => ?_) (fun z => absurd c11 z)
      cases hf
      exact sx_ret hm dX6_writeConstant_120 rfl
    · refine sb_ic_ge hm dX6_writeConstant_87 (tgt := 120) rfl (fun z => absurd z c11) (fun _ => ?_)
      refine mx_S.pu (pc2 := 91) (lv2 := [(0, .ref l0), (1, .int l1), (2, .ref l2), (3, .int l3), (4, .int l4), (5, .int l5)]) (st2 := [.ref l2]) hm dX6_writeConstant_90 rfl ?_
      refine mx_S.pu (pc2 := 92) (lv2 := [(0, .ref l0), (1, .int l1), (2, .ref l2), (3, .int l3), (4, .int l4), (5, .int l5)]) (st2 := [.int l3, .ref l2]) hm dX6_writeConstant_91 rfl ?_
      refine mx_S.pu (pc2 := 94) (lv2 := [(0, .ref l0), (1, .int l1), (2, .ref l2), (3, .int l3), (4, .int l4), (5, .int l5)]) (st2 := [.int l5, .int l3, .ref l2]) hm dX6_writeConstant_92 rfl ?_
      replace hf := xl_el hf; obtain ⟨v1, e_v1, hf⟩ := hf
      refine mx_S.pu (pc2 := 95) (lv2 := [(0, .ref l0), (1, .int l1), (2, .ref l2), (3, .int l3), (4, .int l4), (5, .int l5)]) (st2 := [.int v1, .ref l2]) hm dX6_writeConstant_94 (by rw [← e_v1]; rfl) ?_
      clear e_v1
      refine mx_S.pu (pc2 := 96) (lv2 := [(0, .ref l0), (1, .int l1), (2, .ref l2), (3, .int l3), (4, .int l4), (5, .int l5)]) (st2 := [.ref l0, .int v1, .ref l2]) hm dX6_writeConstant_95 rfl ?_
      replace hf := mx_sv_el hf; obtain ⟨v2, e_v2, hf⟩ := hf
      refine sx_get hm dX6_writeConstant_96 rs_RX6_13 (xgr_el e_v2) ?_
      clear e_v2
      refine mx_S.pu (pc2 := 100) (lv2 := [(0, .ref l0), (1, .int l1), (2, .ref l2), (3, .int l3), (4, .int l4), (5, .int l5)]) (st2 := [.int l1, .ref v2, .int v1, .ref l2]) hm dX6_writeConstant_99 rfl ?_
      replace hf := mx_sv_el hf; obtain ⟨v3, e_v3, hf⟩ := hf
      refine sx_ald hm dX6_writeConstant_100 e_v3 ?_
      clear e_v3
      refine sx_bi (v := 8) hm dX6_writeConstant_101 (by decide) ?_
      refine mx_S.pu (pc2 := 105) (lv2 := [(0, .ref l0), (1, .int l1), (2, .ref l2), (3, .int l3), (4, .int l4), (5, .int l5)]) (st2 := [.int l4, .int 8, .int v3, .int v1, .ref l2]) hm dX6_writeConstant_103 rfl ?_
      refine sx_ic (v := 1) hm dX6_writeConstant_105 (by decide) ?_
      replace hf := xl_el hf; obtain ⟨v4, e_v4, hf⟩ := hf
      refine mx_S.pu (pc2 := 107) (lv2 := [(0, .ref l0), (1, .int l1), (2, .ref l2), (3, .int l3), (4, .int l4), (5, .int l5)]) (st2 := [.int v4, .int 8, .int v3, .int v1, .ref l2]) hm dX6_writeConstant_106 (by rw [← e_v4]; rfl) ?_
      clear e_v4
      refine mx_S.pu (pc2 := 109) (lv2 := [(0, .ref l0), (1, .int l1), (2, .ref l2), (3, .int l3), (4, .int l4), (5, .int l5)]) (st2 := [.int l5, .int v4, .int 8, .int v3, .int v1, .ref l2]) hm dX6_writeConstant_107 rfl ?_
      replace hf := xl_el hf; obtain ⟨v5, e_v5, hf⟩ := hf
      refine mx_S.pu (pc2 := 110) (lv2 := [(0, .ref l0), (1, .int l1), (2, .ref l2), (3, .int l3), (4, .int l4), (5, .int l5)]) (st2 := [.int v5, .int 8, .int v3, .int v1, .ref l2]) hm dX6_writeConstant_109 (by rw [← e_v5]; rfl) ?_
      clear e_v5
      replace hf := xl_el hf; obtain ⟨v6, e_v6, hf⟩ := hf
      refine mx_S.pu (pc2 := 111) (lv2 := [(0, .ref l0), (1, .int l1), (2, .ref l2), (3, .int l3), (4, .int l4), (5, .int l5)]) (st2 := [.int v6, .int v3, .int v1, .ref l2]) hm dX6_writeConstant_110 (by rw [← e_v6]; rfl) ?_
      clear e_v6
      replace hf := xl_el hf; obtain ⟨v7, e_v7, hf⟩ := hf
      refine mx_S.pu (pc2 := 112) (lv2 := [(0, .ref l0), (1, .int l1), (2, .ref l2), (3, .int l3), (4, .int l4), (5, .int l5)]) (st2 := [.int v7, .int v1, .ref l2]) hm dX6_writeConstant_111 (by rw [← e_v7]; rfl) ?_
      clear e_v7
      replace hf := xl_el hf; obtain ⟨v8, e_v8, hf⟩ := hf
      refine mx_S.pu (pc2 := 113) (lv2 := [(0, .ref l0), (1, .int l1), (2, .ref l2), (3, .int l3), (4, .int l4), (5, .int l5)]) (st2 := [.int v8, .int v1, .ref l2]) hm dX6_writeConstant_112 (by rw [← e_v8]; rfl) ?_
      clear e_v8
      replace hf := mx_sv_el hf; obtain ⟨h9, e_h9, hf⟩ := hf
      refine sx_bst hm dX6_writeConstant_113 e_h9 ?_
      clear e_h9
      replace hf := xl_el hf; obtain ⟨v10, e_v10, hf⟩ := hf
      refine mx_S.pu (pc2 := 117) (lv2 := [(5, .int v10), (0, .ref l0), (1, .int l1), (2, .ref l2), (3, .int l3), (4, .int l4)]) (st2 := []) hm dX6_writeConstant_114 (by rw [← e_v10]; rfl) ?_
      clear e_v10
      refine mx_S.pu (pc2 := 83) (lv2 := [(5, .int v10), (0, .ref l0), (1, .int l1), (2, .ref l2), (3, .int l3), (4, .int l4)]) (st2 := []) hm dX6_writeConstant_117 rfl ?_
      refine mx_S.ext [(0, .ref l0), (1, .int l1), (2, .ref l2), (3, .int l3), (4, .int l4), (5, .int v10)] (mx_sub_pos [1, 2, 3, 4, 5, 0] rfl (show ([5, 0, 1, 2, 3, 4] : List Nat).Nodup by decide)) ?_
      exact ih l0 l1 l2 l3 l4 v10 h9 _ hf
