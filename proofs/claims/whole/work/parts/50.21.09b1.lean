set_option maxHeartbeats 4000000 in
set_option maxRecDepth 20000 in
theorem w_X2_checkOverrides_2_ok (X : Nat × (Nat → Int32)) {F L : Nat} (hF : 4 ≤ F) (hL : 93 ≤ L) (nn : Nat) : ∀ (k : Nat) (l0 : Nat) (l1 : Int32) (h : mx_H) (r : mx_H), w_X2_checkOverrides_2 nn k l0 l1 h = some r → mx_S X F L 51 2 [(0, .ref l0), (1, .int l1)] [] h 0 0 (none, r, 0, 0) := by
  have hm : mx_mt 51 = some (yX2_checkOverrides, cX2_checkOverrides, 2, none) := mt_X2_checkOverrides
  intro k
  induction k with
  | zero => intro l0 l1 h r hf; cases hf
  | succ k ih =>
    intro l0 l1 h r hf
    unfold w_X2_checkOverrides_2 at hf
    refine mx_S.pu (pc2 := 3) (lv2 := [(0, .ref l0), (1, .int l1)]) (st2 := [.int l1]) hm dX2_checkOverrides_2 rfl ?_
    refine mx_S.pu (pc2 := 4) (lv2 := [(0, .ref l0), (1, .int l1)]) (st2 := [.ref l0, .int l1]) hm dX2_checkOverrides_3 rfl ?_
    replace hf := mx_sv_el hf; obtain ⟨v1, e_v1, hf⟩ := hf
    refine sx_get hm dX2_checkOverrides_4 rs_RX2_42 (xgr_el e_v1) ?_
    clear e_v1
    replace hf := mx_sv_el hf; obtain ⟨v2, e_v2, hf⟩ := hf
    refine sx_len hm dX2_checkOverrides_7 e_v2 ?_
    clear e_v2
    rcases mx_if_el hf with ⟨c13, hf⟩ | ⟨c13, hf⟩
    · refine sb_ic_ge hm dX2_checkOverrides_8 (tgt := 40) rfl (fun _ => ?_) (fun z => absurd c13 z)
      cases hf
      exact sx_ret hm dX2_checkOverrides_40 rfl
    · refine sb_ic_ge hm dX2_checkOverrides_8 (tgt := 40) rfl (fun z => absurd z c13) (fun _ => ?_)
      refine mx_S.pu (pc2 := 12) (lv2 := [(0, .ref l0), (1, .int l1)]) (st2 := [.ref l0]) hm dX2_checkOverrides_11 rfl ?_
      replace hf := mx_sv_el hf; obtain ⟨v3, e_v3, hf⟩ := hf
      refine sx_get hm dX2_checkOverrides_12 rs_RX2_74 (xgr_el e_v3) ?_
      clear e_v3
      replace hf := mx_sv_el hf; obtain ⟨v4, e_v4, hf⟩ := hf
      refine sx_get hm dX2_checkOverrides_15 rs_RX2_91 (xgi_el e_v4) ?_
      clear e_v4
      rcases mx_if_el hf with ⟨c12, hf⟩ | ⟨c12, hf⟩
      · refine sb_if_ne hm dX2_checkOverrides_18 (tgt := 40) rfl (fun _ => ?_) (fun z => absurd c12 z)
        cases hf
        exact sx_ret hm dX2_checkOverrides_40 rfl
      · refine sb_if_ne hm dX2_checkOverrides_18 (tgt := 40) rfl (fun z => absurd z c12) (fun _ => ?_)
        refine mx_S.pu (pc2 := 22) (lv2 := [(0, .ref l0), (1, .int l1)]) (st2 := [.ref l0]) hm dX2_checkOverrides_21 rfl ?_
        refine mx_S.pu (pc2 := 23) (lv2 := [(0, .ref l0), (1, .int l1)]) (st2 := [.int l1, .ref l0]) hm dX2_checkOverrides_22 rfl ?_
        replace hf := mx_gd_el hf; obtain ⟨c5, hf⟩ := hf
        replace hf := mx_sv_el hf; obtain ⟨u6, e_u6, hf⟩ := hf
        refine sx_cv hm dX2_checkOverrides_23 rs_RX2_128 mt_X2_isMethod [.int l1] [] (b := l0) (ci := 2) rfl rfl rfl c5 (Nat.le_of_ble_eq_true rfl) (Nat.le_of_ble_eq_true rfl) (by omega) (by omega) (f_X2_isMethod_ok X (by omega) (by omega) nn l0 l1 h e_u6) ?_
        clear e_u6
        show mx_S X F L 51 26 [(0, .ref l0), (1, .int l1)] [.int u6.1] u6.2 0 0 (none, r, 0, 0)
        rcases mx_if_el hf with ⟨c11, hf⟩ | ⟨c11, hf⟩
        · refine sb_if_eq hm dX2_checkOverrides_26 (tgt := 34) rfl (fun _ => ?_) (fun z => absurd c11 z)
          replace hf := xl_el hf; obtain ⟨v7, e_v7, hf⟩ := hf
          refine mx_S.pu (pc2 := 37) (lv2 := [(1, .int v7), (0, .ref l0)]) (st2 := []) hm dX2_checkOverrides_34 (by rw [← e_v7]; rfl) ?_
          clear e_v7
          refine mx_S.pu (pc2 := 2) (lv2 := [(1, .int v7), (0, .ref l0)]) (st2 := []) hm dX2_checkOverrides_37 rfl ?_
          refine mx_S.ext [(0, .ref l0), (1, .int v7)] (mx_sub_pos [1, 0] rfl (show ([1, 0] : List Nat).Nodup by decide)) ?_
          exact ih l0 v7 u6.2 _ hf
        · refine sb_if_eq hm dX2_checkOverrides_26 (tgt := 34) rfl (fun z => absurd z c11) (fun _ => ?_)
          refine mx_S.pu (pc2 := 30) (lv2 := [(0, .ref l0), (1, .int l1)]) (st2 := [.ref l0]) hm dX2_checkOverrides_29 rfl ?_
          refine mx_S.pu (pc2 := 31) (lv2 := [(0, .ref l0), (1, .int l1)]) (st2 := [.int l1, .ref l0]) hm dX2_checkOverrides_30 rfl ?_
          replace hf := mx_gd_el hf; obtain ⟨c8, hf⟩ := hf
          replace hf := mx_sv_el hf; obtain ⟨u9, e_u9, hf⟩ := hf
          refine sx_cv hm dX2_checkOverrides_31 rs_RX2_132 mt_X2_checkOverride [.int l1] [] (b := l0) (ci := 2) rfl rfl rfl c8 (Nat.le_of_ble_eq_true rfl) (Nat.le_of_ble_eq_true rfl) (by omega) (by omega) (f_X2_checkOverride_ok X (by omega) (by omega) nn l0 l1 u6.2 e_u9) ?_
          clear e_u9
          show mx_S X F L 51 34 [(0, .ref l0), (1, .int l1)] [] u9 0 0 (none, r, 0, 0)
          replace hf := xl_el hf; obtain ⟨v10, e_v10, hf⟩ := hf
          refine mx_S.pu (pc2 := 37) (lv2 := [(1, .int v10), (0, .ref l0)]) (st2 := []) hm dX2_checkOverrides_34 (by rw [← e_v10]; rfl) ?_
          clear e_v10
          refine mx_S.pu (pc2 := 2) (lv2 := [(1, .int v10), (0, .ref l0)]) (st2 := []) hm dX2_checkOverrides_37 rfl ?_
          refine mx_S.ext [(0, .ref l0), (1, .int v10)] (mx_sub_pos [1, 0] rfl (show ([1, 0] : List Nat).Nodup by decide)) ?_
          exact ih l0 v10 u9 _ hf
set_option maxHeartbeats 4000000 in
set_option maxRecDepth 20000 in
theorem f_X2_checkOverrides_ok (X : Nat × (Nat → Int32)) {F L : Nat} (hF : 4 ≤ F) (hL : 93 ≤ L) (nn : Nat) (a0 : Nat) (h : mx_H) {r : mx_H} (hf : f_X2_checkOverrides nn a0 h = some r) : mx_R X F L 51 [.ref a0] h (none, r, 0, 0) := by
  have hm : mx_mt 51 = some (yX2_checkOverrides, cX2_checkOverrides, 2, none) := mt_X2_checkOverrides
  show mx_S X F L 51 0 [(0, .ref a0)] [] h 0 0 (none, r, 0, 0)
  unfold f_X2_checkOverrides at hf
  refine sx_ic (v := 0) hm dX2_checkOverrides_0 (by decide) ?_
  refine mx_S.pu (pc2 := 2) (lv2 := [(1, .int 0), (0, .ref a0)]) (st2 := []) hm dX2_checkOverrides_1 rfl ?_
  refine mx_S.ext [(0, .ref a0), (1, .int 0)] (mx_sub_pos [1, 0] rfl (show ([1, 0] : List Nat).Nodup by decide)) ?_
  exact w_X2_checkOverrides_2_ok X hF hL nn nn a0 0 h _ hf
set_option maxHeartbeats 4000000 in
set_option maxRecDepth 20000 in
theorem f_X2_forget_ok (X : Nat × (Nat → Int32)) {F L : Nat} (hF : 2 ≤ F) (hL : 44 ≤ L) (nn : Nat) (a0 : Nat) (h : mx_H) {r : mx_H} (hf : f_X2_forget nn a0 h = some r) : mx_R X F L 47 [.ref a0] h (none, r, 0, 0) := by
  have hm : mx_mt 47 = some (yX2_forget, cX2_forget, 1, none) := mt_X2_forget
  show mx_S X F L 47 0 [(0, .ref a0)] [] h 0 0 (none, r, 0, 0)
  unfold f_X2_forget at hf
  refine mx_S.pu (pc2 := 1) (lv2 := [(0, .ref a0)]) (st2 := [.ref a0]) hm dX2_forget_0 rfl ?_
  refine sx_ic (v := 0) hm dX2_forget_1 (by decide) ?_
  replace hf := mx_sv_el hf; obtain ⟨h1, e_h1, hf⟩ := hf
  refine sx_put hm dX2_forget_2 rs_RX2_78 ft_2_2 ⟨rfl, rfl⟩ (fun z => by cases z) e_h1 ?_
  clear e_h1
  refine mx_S.pu (pc2 := 6) (lv2 := [(0, .ref a0)]) (st2 := [.ref a0]) hm dX2_forget_5 rfl ?_
  replace hf := mx_sv_el hf; obtain ⟨v2, e_v2, hf⟩ := hf
  refine sx_get hm dX2_forget_6 rs_RX2_27 (xgr_el e_v2) ?_
  clear e_v2
  refine sx_ic (v := 0) hm dX2_forget_9 (by decide) ?_
  replace hf := mx_sv_el hf; obtain ⟨u3, e_u3, hf⟩ := hf
  refine sx_cs hm dX2_forget_10 rs_RX2_82 mt_J7_fill_53178 [.ref v2, .int 0] [] rfl rfl (Nat.le_of_ble_eq_true rfl) (Nat.le_of_ble_eq_true rfl) (by omega) (by omega) (f_J7_fill_53178_ok X (by omega) (by omega) nn v2 0 h1 e_u3) ?_
  clear e_u3
  show mx_S X F L 47 13 [(0, .ref a0)] [] u3 0 0 (none, r, 0, 0)
  refine mx_S.pu (pc2 := 14) (lv2 := [(0, .ref a0)]) (st2 := [.ref a0]) hm dX2_forget_13 rfl ?_
  replace hf := mx_sv_el hf; obtain ⟨v4, e_v4, hf⟩ := hf
  refine sx_get hm dX2_forget_14 rs_RX2_39 (xgr_el e_v4) ?_
  clear e_v4
  refine sx_ic (v := 0) hm dX2_forget_17 (by decide) ?_
  replace hf := mx_sv_el hf; obtain ⟨u5, e_u5, hf⟩ := hf
  refine sx_cs hm dX2_forget_18 rs_RX2_82 mt_J7_fill_53178 [.ref v4, .int 0] [] rfl rfl (Nat.le_of_ble_eq_true rfl) (Nat.le_of_ble_eq_true rfl) (by omega) (by omega) (f_J7_fill_53178_ok X (by omega) (by omega) nn v4 0 u3 e_u5) ?_
  clear e_u5
  show mx_S X F L 47 21 [(0, .ref a0)] [] u5 0 0 (none, r, 0, 0)
  refine mx_S.pu (pc2 := 22) (lv2 := [(0, .ref a0)]) (st2 := [.ref a0]) hm dX2_forget_21 rfl ?_
  replace hf := mx_sv_el hf; obtain ⟨v6, e_v6, hf⟩ := hf
  refine sx_get hm dX2_forget_22 rs_RX2_14 (xgr_el e_v6) ?_
  clear e_v6
  replace hf := mx_gd_el hf; obtain ⟨c7, hf⟩ := hf
  replace hf := mx_sv_el hf; obtain ⟨u8, e_u8, hf⟩ := hf
  refine sx_cv hm dX2_forget_25 rs_RX2_88 mt_X4_forget [] [] (b := v6) (ci := 4) rfl rfl rfl c7 (Nat.le_of_ble_eq_true rfl) (Nat.le_of_ble_eq_true rfl) (by omega) (by omega) (f_X4_forget_ok X (by omega) (by omega) nn v6 u5 e_u8) ?_
  clear e_u8
  show mx_S X F L 47 28 [(0, .ref a0)] [] u8 0 0 (none, r, 0, 0)
  cases hf
  exact sx_ret hm dX2_forget_28 rfl
