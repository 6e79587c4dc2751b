set_option maxHeartbeats 4000000 in
set_option maxRecDepth 20000 in
theorem w_X8_readParameters_4_ok (X : Nat × (Nat → Int32)) {F L : Nat} (hF : 3 ≤ F) (hL : 62 ≤ L) (nn : Nat) : ∀ (k : Nat) (l0 : Nat) (l1 : Int32) (l2 : Int32) (h : mx_H) (r : mx_H), w_X8_readParameters_4 nn k l0 l1 l2 h = some r → mx_S X F L 226 4 [(0, .ref l0), (1, .int l1), (2, .int l2)] [] h 0 0 (none, r, 0, 0) := by
  have hm : mx_mt 226 = some (yX8_readParameters, cX8_readParameters, 3, none) := mt_X8_readParameters
  intro k
  induction k with
  | zero => intro l0 l1 l2 h r hf; cases hf
  | succ k ih =>
    intro l0 l1 l2 h r hf
    unfold w_X8_readParameters_4 at hf
    refine mx_S.pu (pc2 := 5) (lv2 := [(0, .ref l0), (1, .int l1), (2, .int l2)]) (st2 := [.int l2]) hm dX8_readParameters_4 rfl ?_
    refine sx_si (v := 3000) hm dX8_readParameters_5 (by decide) ?_
    rcases mx_if_el hf with ⟨c9, hf⟩ | ⟨c9, hf⟩
    · refine sb_ic_ge hm dX8_readParameters_8 (tgt := 37) rfl (fun _ => ?_) (fun z => absurd c9 z)
      cases hf
      exact sx_ret hm dX8_readParameters_37 rfl
    · refine sb_ic_ge hm dX8_readParameters_8 (tgt := 37) rfl (fun z => absurd z c9) (fun _ => ?_)
      refine mx_S.pu (pc2 := 12) (lv2 := [(0, .ref l0), (1, .int l1), (2, .int l2)]) (st2 := [.int l1]) hm dX8_readParameters_11 rfl ?_
      rcases mx_if_el hf with ⟨c8, hf⟩ | ⟨c8, hf⟩
      · refine sb_if_eq hm dX8_readParameters_12 (tgt := 37) rfl (fun _ => ?_) (fun z => absurd c8 z)
        cases hf
        exact sx_ret hm dX8_readParameters_37 rfl
      · refine sb_if_eq hm dX8_readParameters_12 (tgt := 37) rfl (fun z => absurd z c8) (fun _ => ?_)
        refine mx_S.pu (pc2 := 16) (lv2 := [(0, .ref l0), (1, .int l1), (2, .int l2)]) (st2 := [.ref l0]) hm dX8_readParameters_15 rfl ?_
        replace hf := mx_gd_el hf; obtain ⟨c1, hf⟩ := hf
        replace hf := mx_sv_el hf; obtain ⟨u2, e_u2, hf⟩ := hf
        refine sx_cv hm dX8_readParameters_16 rs_RX8_52 mt_X8_readType [] [] (b := l0) (ci := 8) rfl rfl rfl c1 (Nat.le_of_ble_eq_true rfl) (Nat.le_of_ble_eq_true rfl) (by omega) (by omega) (f_X8_readType_ok X (by omega) (by omega) nn l0 h e_u2) ?_
        clear e_u2
        show mx_S X F L 226 19 [(0, .ref l0), (1, .int l1), (2, .int l2)] [] u2 0 0 (none, r, 0, 0)
        refine mx_S.pu (pc2 := 20) (lv2 := [(0, .ref l0), (1, .int l1), (2, .int l2)]) (st2 := [.ref l0]) hm dX8_readParameters_19 rfl ?_
        refine sx_ic (v := 2) hm dX8_readParameters_20 (by decide) ?_
        replace hf := mx_gd_el hf; obtain ⟨c3, hf⟩ := hf
        replace hf := mx_sv_el hf; obtain ⟨u4, e_u4, hf⟩ := hf
        refine sx_cv hm dX8_readParameters_21 rs_RX8_37 mt_X8_need [.int 2] [] (b := l0) (ci := 8) rfl rfl rfl c3 (Nat.le_of_ble_eq_true rfl) (Nat.le_of_ble_eq_true rfl) (by omega) (by omega) (f_X8_need_ok X (by omega) (by omega) nn l0 2 u2 e_u4) ?_
        clear e_u4
        show mx_S X F L 226 24 [(0, .ref l0), (1, .int l1), (2, .int l2)] [] u4 0 0 (none, r, 0, 0)
        refine mx_S.pu (pc2 := 25) (lv2 := [(0, .ref l0), (1, .int l1), (2, .int l2)]) (st2 := [.ref l0]) hm dX8_readParameters_24 rfl ?_
        refine sx_bi (v := 47) hm dX8_readParameters_25 (by decide) ?_
        replace hf := mx_gd_el hf; obtain ⟨c5, hf⟩ := hf
        replace hf := mx_sv_el hf; obtain ⟨u6, e_u6, hf⟩ := hf
        refine sx_cv hm dX8_readParameters_27 rs_RX8_45 mt_X8_accept [.int 47] [] (b := l0) (ci := 8) rfl rfl rfl c5 (Nat.le_of_ble_eq_true rfl) (Nat.le_of_ble_eq_true rfl) (by omega) (by omega) (f_X8_accept_ok X (by omega) (by omega) nn l0 47 u4 e_u6) ?_
        clear e_u6
        show mx_S X F L 226 30 [(0, .ref l0), (1, .int l1), (2, .int l2)] [.int u6.1] u6.2 0 0 (none, r, 0, 0)
        refine mx_S.pu (pc2 := 31) (lv2 := [(1, .int u6.1), (0, .ref l0), (2, .int l2)]) (st2 := []) hm dX8_readParameters_30 rfl ?_
        replace hf := xl_el hf; obtain ⟨v7, e_v7, hf⟩ := hf
        refine mx_S.pu (pc2 := 34) (lv2 := [(2, .int v7), (1, .int u6.1), (0, .ref l0)]) (st2 := []) hm dX8_readParameters_31 (by rw [← e_v7]; rfl) ?_
        clear e_v7
        refine mx_S.pu (pc2 := 4) (lv2 := [(2, .int v7), (1, .int u6.1), (0, .ref l0)]) (st2 := []) hm dX8_readParameters_34 rfl ?_
        refine mx_S.ext [(0, .ref l0), (1, .int u6.1), (2, .int v7)] (mx_sub_pos [2, 1, 0] rfl (show ([2, 1, 0] : List Nat).Nodup by decide)) ?_
        exact ih l0 u6.1 v7 u6.2 _ hf
set_option maxHeartbeats 4000000 in
set_option maxRecDepth 20000 in
theorem f_X8_readParameters_ok (X : Nat × (Nat → Int32)) {F L : Nat} (hF : 3 ≤ F) (hL : 62 ≤ L) (nn : Nat) (a0 : Nat) (h : mx_H) {r : mx_H} (hf : f_X8_readParameters nn a0 h = some r) : mx_R X F L 226 [.ref a0] h (none, r, 0, 0) := by
  have hm : mx_mt 226 = some (yX8_readParameters, cX8_readParameters, 3, none) := mt_X8_readParameters
  show mx_S X F L 226 0 [(0, .ref a0)] [] h 0 0 (none, r, 0, 0)
  unfold f_X8_readParameters at hf
  refine sx_ic (v := 1) hm dX8_readParameters_0 (by decide) ?_
  refine mx_S.pu (pc2 := 2) (lv2 := [(1, .int 1), (0, .ref a0)]) (st2 := []) hm dX8_readParameters_1 rfl ?_
  refine sx_ic (v := 0) hm dX8_readParameters_2 (by decide) ?_
  refine mx_S.pu (pc2 := 4) (lv2 := [(2, .int 0), (1, .int 1), (0, .ref a0)]) (st2 := []) hm dX8_readParameters_3 rfl ?_
  refine mx_S.ext [(0, .ref a0), (1, .int 1), (2, .int 0)] (mx_sub_pos [2, 1, 0] rfl (show ([2, 1, 0] : List Nat).Nodup by decide)) ?_
  exact w_X8_readParameters_4_ok X hF hL nn nn a0 1 0 h _ hf
set_option maxHeartbeats 4000000 in
set_option maxRecDepth 20000 in
theorem j_X8_readMember_66_ok (X : Nat × (Nat → Int32)) {F L : Nat} (hF : 416 ≤ F) (hL : 9409 ≤ L) (nn : Nat) (l0 : Nat) (h : mx_H) {r : mx_H} (hf : j_X8_readMember_66 nn l0 h = some r) : mx_S X F L 225 66 [(0, .ref l0)] [] h 0 0 (none, r, 0, 0) := by
  have hm : mx_mt 225 = some (yX8_readMember, cX8_readMember, 2, none) := mt_X8_readMember
  unfold j_X8_readMember_66 at hf
  refine mx_S.pu (pc2 := 67) (lv2 := [(0, .ref l0)]) (st2 := [.ref l0]) hm dX8_readMember_66 rfl ?_
  refine sx_bi (v := 41) hm dX8_readMember_67 (by decide) ?_
  replace hf := mx_gd_el hf; obtain ⟨c1, hf⟩ := hf
  replace hf := mx_sv_el hf; obtain ⟨u2, e_u2, hf⟩ := hf
  refine sx_cv hm dX8_readMember_69 rs_RX8_37 mt_X8_need [.int 41] [] (b := l0) (ci := 8) rfl rfl rfl c1 (Nat.le_of_ble_eq_true rfl) (Nat.le_of_ble_eq_true rfl) (by omega) (by omega) (f_X8_need_ok X (by omega) (by omega) nn l0 41 h e_u2) ?_
  clear e_u2
  show mx_S X F L 225 72 [(0, .ref l0)] [] u2 0 0 (none, r, 0, 0)
  refine mx_S.pu (pc2 := 73) (lv2 := [(0, .ref l0)]) (st2 := [.ref l0]) hm dX8_readMember_72 rfl ?_
  refine sx_ic (v := 0) hm dX8_readMember_73 (by decide) ?_
  replace hf := mx_gd_el hf; obtain ⟨c3, hf⟩ := hf
  replace hf := mx_sv_el hf; obtain ⟨u4, e_u4, hf⟩ := hf
  refine sx_cv hm dX8_readMember_74 rs_RX8_58 mt_X8_readBlock [.int 0] [] (b := l0) (ci := 8) rfl rfl rfl c3 (Nat.le_of_ble_eq_true rfl) (Nat.le_of_ble_eq_true rfl) (by omega) (by omega) (f_X8_readBlock_ok X (by omega) (by omega) nn l0 0 u2 e_u4) ?_
  clear e_u4
  show mx_S X F L 225 77 [(0, .ref l0)] [] u4 0 0 (none, r, 0, 0)
  cases hf
  exact sx_ret hm dX8_readMember_77 rfl
set_option maxHeartbeats 4000000 in
set_option maxRecDepth 20000 in
theorem j_X8_readMember_44_ok (X : Nat × (Nat → Int32)) {F L : Nat} (hF : 416 ≤ F) (hL : 9409 ≤ L) (nn : Nat) (l0 : Nat) (h : mx_H) {r : mx_H} (hf : j_X8_readMember_44 nn l0 h = some r) : mx_S X F L 225 44 [(0, .ref l0)] [] h 0 0 (none, r, 0, 0) := by
  have hm : mx_mt 225 = some (yX8_readMember, cX8_readMember, 2, none) := mt_X8_readMember
  unfold j_X8_readMember_44 at hf
  refine mx_S.pu (pc2 := 45) (lv2 := [(0, .ref l0)]) (st2 := [.ref l0]) hm dX8_readMember_44 rfl ?_
  refine sx_bi (v := 40) hm dX8_readMember_45 (by decide) ?_
  replace hf := mx_gd_el hf; obtain ⟨c5, hf⟩ := hf
  replace hf := mx_sv_el hf; obtain ⟨u6, e_u6, hf⟩ := hf
  refine sx_cv hm dX8_readMember_47 rs_RX8_37 mt_X8_need [.int 40] [] (b := l0) (ci := 8) rfl rfl rfl c5 (Nat.le_of_ble_eq_true rfl) (Nat.le_of_ble_eq_true rfl) (by omega) (by omega) (f_X8_need_ok X (by omega) (by omega) nn l0 40 h e_u6) ?_
  clear e_u6
  show mx_S X F L 225 50 [(0, .ref l0)] [] u6 0 0 (none, r, 0, 0)
  refine mx_S.pu (pc2 := 51) (lv2 := [(0, .ref l0)]) (st2 := [.ref l0]) hm dX8_readMember_50 rfl ?_
  replace hf := mx_sv_el hf; obtain ⟨v7, e_v7, hf⟩ := hf
  refine sx_get hm dX8_readMember_51 rs_RX8_7 (xgr_el e_v7) ?_
  clear e_v7
  replace hf := mx_gd_el hf; obtain ⟨c8, hf⟩ := hf
  replace hf := mx_sv_el hf; obtain ⟨u9, e_u9, hf⟩ := hf
  refine sx_cv hm dX8_readMember_54 rs_RX8_23 mt_X9_kind [] [] (b := v7) (ci := 9) rfl rfl rfl c8 (Nat.le_of_ble_eq_true rfl) (Nat.le_of_ble_eq_true rfl) (by omega) (by omega) (f_X9_kind_ok X (by omega) (by omega) nn v7 u6 e_u9) ?_
  clear e_u9
  show mx_S X F L 225 57 [(0, .ref l0)] [.int u9.1] u9.2 0 0 (none, r, 0, 0)
  refine sx_bi (v := 41) hm dX8_readMember_57 (by decide) ?_
  rcases mx_if_el hf with ⟨c12, hf⟩ | ⟨c12, hf⟩
  · refine sb_ic_eq hm dX8_readMember_59 (tgt := 66) rfl (fun _ => ?_) (fun z => absurd c12 z)
    exact j_X8_readMember_66_ok X hF hL nn l0 u9.2 hf
  · refine sb_ic_eq hm dX8_readMember_59 (tgt := 66) rfl (fun z => absurd z c12) (fun _ => ?_)
    refine mx_S.pu (pc2 := 63) (lv2 := [(0, .ref l0)]) (st2 := [.ref l0]) hm dX8_readMember_62 rfl ?_
    replace hf := mx_gd_el hf; obtain ⟨c10, hf⟩ := hf
    replace hf := mx_sv_el hf; obtain ⟨u11, e_u11, hf⟩ := hf
    refine sx_cv hm dX8_readMember_63 rs_RX8_55 mt_X8_readParameters [] [] (b := l0) (ci := 8) rfl rfl rfl c10 (Nat.le_of_ble_eq_true rfl) (Nat.le_of_ble_eq_true rfl) (by omega) (by omega) (f_X8_readParameters_ok X (by omega) (by omega) nn l0 u9.2 e_u11) ?_
    clear e_u11
    show mx_S X F L 225 66 [(0, .ref l0)] [] u11 0 0 (none, r, 0, 0)
    exact j_X8_readMember_66_ok X hF hL nn l0 u11 hf
set_option maxHeartbeats 4000000 in
set_option maxRecDepth 20000 in
theorem j_X8_readMember_25_ok (X : Nat × (Nat → Int32)) {F L : Nat} (hF : 416 ≤ F) (hL : 9409 ≤ L) (nn : Nat) (l0 : Nat) (l1 : Int32) (h : mx_H) {r : mx_H} (hf : j_X8_readMember_25 nn l0 l1 h = some r) : mx_S X F L 225 25 [(0, .ref l0), (1, .int l1)] [] h 0 0 (none, r, 0, 0) := by
  have hm : mx_mt 225 = some (yX8_readMember, cX8_readMember, 2, none) := mt_X8_readMember
  unfold j_X8_readMember_25 at hf
  refine mx_S.pu (pc2 := 26) (lv2 := [(0, .ref l0), (1, .int l1)]) (st2 := [.ref l0]) hm dX8_readMember_25 rfl ?_
  refine sx_ic (v := 2) hm dX8_readMember_26 (by decide) ?_
  replace hf := mx_gd_el hf; obtain ⟨c13, hf⟩ := hf
  replace hf := mx_sv_el hf; obtain ⟨u14, e_u14, hf⟩ := hf
  refine sx_cv hm dX8_readMember_27 rs_RX8_37 mt_X8_need [.int 2] [] (b := l0) (ci := 8) rfl rfl rfl c13 (Nat.le_of_ble_eq_true rfl) (Nat.le_of_ble_eq_true rfl) (by omega) (by omega) (f_X8_need_ok X (by omega) (by omega) nn l0 2 h e_u14) ?_
  clear e_u14
  show mx_S X F L 225 30 [(0, .ref l0), (1, .int l1)] [] u14 0 0 (none, r, 0, 0)
  refine mx_S.pu (pc2 := 31) (lv2 := [(0, .ref l0), (1, .int l1)]) (st2 := [.int l1]) hm dX8_readMember_30 rfl ?_
  rcases mx_if_el hf with ⟨c18, hf⟩ | ⟨c18, hf⟩
  · refine sb_if_ne hm dX8_readMember_31 (tgt := 44) rfl (fun _ => ?_) (fun z => absurd c18 z)
    refine mx_S.ext [(0, .ref l0)] (mx_sub_pos [0] rfl (show ([0, 1] : List Nat).Nodup by decide)) ?_
    exact j_X8_readMember_44_ok X hF hL nn l0 u14 hf
  · refine sb_if_ne hm dX8_readMember_31 (tgt := 44) rfl (fun z => absurd z c18) (fun _ => ?_)
    refine mx_S.pu (pc2 := 35) (lv2 := [(0, .ref l0), (1, .int l1)]) (st2 := [.ref l0]) hm dX8_readMember_34 rfl ?_
    refine sx_bi (v := 46) hm dX8_readMember_35 (by decide) ?_
    replace hf := mx_gd_el hf; obtain ⟨c15, hf⟩ := hf
    replace hf := mx_sv_el hf; obtain ⟨u16, e_u16, hf⟩ := hf
    refine sx_cv hm dX8_readMember_37 rs_RX8_45 mt_X8_accept [.int 46] [] (b := l0) (ci := 8) rfl rfl rfl c15 (Nat.le_of_ble_eq_true rfl) (Nat.le_of_ble_eq_true rfl) (by omega) (by omega) (f_X8_accept_ok X (by omega) (by omega) nn l0 46 u14 e_u16) ?_
    clear e_u16
    show mx_S X F L 225 40 [(0, .ref l0), (1, .int l1)] [.int u16.1] u16.2 0 0 (none, r, 0, 0)
    rcases mx_if_el hf with ⟨c17, hf⟩ | ⟨c17, hf⟩
    · refine sb_if_eq hm dX8_readMember_40 (tgt := 44) rfl (fun _ => ?_) (fun z => absurd c17 z)
      refine mx_S.ext [(0, .ref l0)] (mx_sub_pos [0] rfl (show ([0, 1] : List Nat).Nodup by decide)) ?_
      exact j_X8_readMember_44_ok X hF hL nn l0 u16.2 hf
    · refine sb_if_eq hm dX8_readMember_40 (tgt := 44) rfl (fun z => absurd z c17) (fun _ => ?_)
      cases hf
      exact sx_ret hm dX8_readMember_43 rfl
set_option maxHeartbeats 4000000 in
set_option maxRecDepth 20000 in
theorem f_X8_readMember_ok (X : Nat × (Nat → Int32)) {F L : Nat} (hF : 416 ≤ F) (hL : 9409 ≤ L) (nn : Nat) (a0 : Nat) (h : mx_H) {r : mx_H} (hf : f_X8_readMember nn a0 h = some r) : mx_R X F L 225 [.ref a0] h (none, r, 0, 0) := by
  have hm : mx_mt 225 = some (yX8_readMember, cX8_readMember, 2, none) := mt_X8_readMember
  show mx_S X F L 225 0 [(0, .ref a0)] [] h 0 0 (none, r, 0, 0)
  unfold f_X8_readMember at hf
  refine mx_S.pu (pc2 := 1) (lv2 := [(0, .ref a0)]) (st2 := [.ref a0]) hm dX8_readMember_0 rfl ?_
  refine sx_bi (v := 25) hm dX8_readMember_1 (by decide) ?_
  replace hf := mx_gd_el hf; obtain ⟨c19, hf⟩ := hf
  replace hf := mx_sv_el hf; obtain ⟨u20, e_u20, hf⟩ := hf
  refine sx_cv hm dX8_readMember_3 rs_RX8_45 mt_X8_accept [.int 25] [] (b := a0) (ci := 8) rfl rfl rfl c19 (Nat.le_of_ble_eq_true rfl) (Nat.le_of_ble_eq_true rfl) (by omega) (by omega) (f_X8_accept_ok X (by omega) (by omega) nn a0 25 h e_u20) ?_
  clear e_u20
  show mx_S X F L 225 6 [(0, .ref a0)] [.int u20.1] u20.2 0 0 (none, r, 0, 0)
  refine mx_S.pu (pc2 := 7) (lv2 := [(1, .int u20.1), (0, .ref a0)]) (st2 := []) hm dX8_readMember_6 rfl ?_
  refine mx_S.pu (pc2 := 8) (lv2 := [(1, .int u20.1), (0, .ref a0)]) (st2 := [.ref a0]) hm dX8_readMember_7 rfl ?_
  refine sx_bi (v := 30) hm dX8_readMember_8 (by decide) ?_
  replace hf := mx_gd_el hf; obtain ⟨c21, hf⟩ := hf
  replace hf := mx_sv_el hf; obtain ⟨u22, e_u22, hf⟩ := hf
  refine sx_cv hm dX8_readMember_10 rs_RX8_45 mt_X8_accept [.int 30] [] (b := a0) (ci := 8) rfl rfl rfl c21 (Nat.le_of_ble_eq_true rfl) (Nat.le_of_ble_eq_true rfl) (by omega) (by omega) (f_X8_accept_ok X (by omega) (by omega) nn a0 30 u20.2 e_u22) ?_
  clear e_u22
  show mx_S X F L 225 13 [(1, .int u20.1), (0, .ref a0)] [.int u22.1] u22.2 0 0 (none, r, 0, 0)
  rcases mx_if_el hf with ⟨c25, hf⟩ | ⟨c25, hf⟩
  · refine sb_if_eq hm dX8_readMember_13 (tgt := 21) rfl (fun _ => ?_) (fun z => absurd c25 z)
    refine mx_S.pu (pc2 := 22) (lv2 := [(1, .int u20.1), (0, .ref a0)]) (st2 := [.ref a0]) hm dX8_readMember_21 rfl ?_
    replace hf := mx_gd_el hf; obtain ⟨c23, hf⟩ := hf
    replace hf := mx_sv_el hf; obtain ⟨u24, e_u24, hf⟩ := hf
    refine sx_cv hm dX8_readMember_22 rs_RX8_52 mt_X8_readType [] [] (b := a0) (ci := 8) rfl rfl rfl c23 (Nat.le_of_ble_eq_true rfl) (Nat.le_of_ble_eq_true rfl) (by omega) (by omega) (f_X8_readType_ok X (by omega) (by omega) nn a0 u22.2 e_u24) ?_
    clear e_u24
    show mx_S X F L 225 25 [(1, .int u20.1), (0, .ref a0)] [] u24 0 0 (none, r, 0, 0)
    refine mx_S.ext [(0, .ref a0), (1, .int u20.1)] (mx_sub_pos [1, 0] rfl (show ([1, 0] : List Nat).Nodup by decide)) ?_
    exact j_X8_readMember_25_ok X hF hL nn a0 u20.1 u24 hf
  · refine sb_if_eq hm dX8_readMember_13 (tgt := 21) rfl (fun z => absurd z c25) (fun _ => ?_)
    refine sx_ic (v := 1) hm dX8_readMember_16 (by decide) ?_
    refine mx_S.pu (pc2 := 18) (lv2 := [(1, .int 1), (0, .ref a0)]) (st2 := []) hm dX8_readMember_17 rfl ?_
    refine mx_S.pu (pc2 := 25) (lv2 := [(1, .int 1), (0, .ref a0)]) (st2 := []) hm dX8_readMember_18 rfl ?_
    refine mx_S.ext [(0, .ref a0), (1, .int 1)] (mx_sub_pos [1, 0] rfl (show ([1, 0] : List Nat).Nodup by decide)) ?_
    exact j_X8_readMember_25_ok X hF hL nn a0 1 u22.2 hf
set_option maxHeartbeats 4000000 in
set_option maxRecDepth 20000 in
theorem j_X8_readClass_86_ok (X : Nat × (Nat → Int32)) {F L : Nat} (hF : 417 ≤ F) (hL : 9430 ≤ L) (nn : Nat) (l0 : Nat) (h : mx_H) {r : mx_H} (hf : j_X8_readClass_86 nn l0 h = some r) : mx_S X F L 224 86 [(0, .ref l0)] [] h 0 0 (none, r, 0, 0) := by
  have hm : mx_mt 224 = some (yX8_readClass, cX8_readClass, 2, none) := mt_X8_readClass
  unfold j_X8_readClass_86 at hf
  refine mx_S.pu (pc2 := 87) (lv2 := [(0, .ref l0)]) (st2 := [.ref l0]) hm dX8_readClass_86 rfl ?_
  refine sx_bi (v := 43) hm dX8_readClass_87 (by decide) ?_
  replace hf := mx_gd_el hf; obtain ⟨c1, hf⟩ := hf
  replace hf := mx_sv_el hf; obtain ⟨u2, e_u2, hf⟩ := hf
  refine sx_cv hm dX8_readClass_89 rs_RX8_37 mt_X8_need [.int 43] [] (b := l0) (ci := 8) rfl rfl rfl c1 (Nat.le_of_ble_eq_true rfl) (Nat.le_of_ble_eq_true rfl) (by omega) (by omega) (f_X8_need_ok X (by omega) (by omega) nn l0 43 h e_u2) ?_
  clear e_u2
  show mx_S X F L 224 92 [(0, .ref l0)] [] u2 0 0 (none, r, 0, 0)
  cases hf
  exact sx_ret hm dX8_readClass_92 rfl
set_option maxHeartbeats 4000000 in
set_option maxRecDepth 20000 in
theorem w_X8_readClass_47_ok (X : Nat × (Nat → Int32)) {F L : Nat} (hF : 417 ≤ F) (hL : 9430 ≤ L) (nn : Nat) : ∀ (k : Nat) (l0 : Nat) (l1 : Int32) (h : mx_H) (r : mx_H), w_X8_readClass_47 nn k l0 l1 h = some r → mx_S X F L 224 47 [(0, .ref l0), (1, .int l1)] [] h 0 0 (none, r, 0, 0) := by
  have hm : mx_mt 224 = some (yX8_readClass, cX8_readClass, 2, none) := mt_X8_readClass
  intro k
  induction k with
  | zero => intro l0 l1 h r hf; cases hf
  | succ k ih =>
    intro l0 l1 h r hf
    unfold w_X8_readClass_47 at hf
    refine mx_S.pu (pc2 := 48) (lv2 := [(0, .ref l0), (1, .int l1)]) (st2 := [.int l1]) hm dX8_readClass_47 rfl ?_
    refine sx_si (v := 3000) hm dX8_readClass_48 (by decide) ?_
    rcases mx_if_el hf with ⟨c13, hf⟩ | ⟨c13, hf⟩
    · refine sb_ic_ge hm dX8_readClass_51 (tgt := 86) rfl (fun _ => ?_) (fun z => absurd c13 z)
      refine mx_S.ext [(0, .ref l0)] (mx_sub_pos [0] rfl (show ([0, 1] : List Nat).Nodup by decide)) ?_
      exact j_X8_readClass_86_ok X hF hL nn l0 h hf
    · refine sb_ic_ge hm dX8_readClass_51 (tgt := 86) rfl (fun z => absurd z c13) (fun _ => ?_)
      refine mx_S.pu (pc2 := 55) (lv2 := [(0, .ref l0), (1, .int l1)]) (st2 := [.ref l0]) hm dX8_readClass_54 rfl ?_
      replace hf := mx_sv_el hf; obtain ⟨v3, e_v3, hf⟩ := hf
      refine sx_get hm dX8_readClass_55 rs_RX8_7 (xgr_el e_v3) ?_
      clear e_v3
      replace hf := mx_sv_el hf; obtain ⟨v4, e_v4, hf⟩ := hf
      refine sx_get hm dX8_readClass_58 rs_RX8_19 (xgi_el e_v4) ?_
      clear e_v4
      rcases mx_if_el hf with ⟨c12, hf⟩ | ⟨c12, hf⟩
      · refine sb_if_ne hm dX8_readClass_61 (tgt := 86) rfl (fun _ => ?_) (fun z => absurd c12 z)
        refine mx_S.ext [(0, .ref l0)] (mx_sub_pos [0] rfl (show ([0, 1] : List Nat).Nodup by decide)) ?_
        exact j_X8_readClass_86_ok X hF hL nn l0 h hf
      · refine sb_if_ne hm dX8_readClass_61 (tgt := 86) rfl (fun z => absurd z c12) (fun _ => ?_)
        refine mx_S.pu (pc2 := 65) (lv2 := [(0, .ref l0), (1, .int l1)]) (st2 := [.ref l0]) hm dX8_readClass_64 rfl ?_
        replace hf := mx_sv_el hf; obtain ⟨v5, e_v5, hf⟩ := hf
        refine sx_get hm dX8_readClass_65 rs_RX8_7 (xgr_el e_v5) ?_
        clear e_v5
        replace hf := mx_gd_el hf; obtain ⟨c6, hf⟩ := hf
        replace hf := mx_sv_el hf; obtain ⟨u7, e_u7, hf⟩ := hf
        refine sx_cv hm dX8_readClass_68 rs_RX8_23 mt_X9_kind [] [] (b := v5) (ci := 9) rfl rfl rfl c6 (Nat.le_of_ble_eq_true rfl) (Nat.le_of_ble_eq_true rfl) (by omega) (by omega) (f_X9_kind_ok X (by omega) (by omega) nn v5 h e_u7) ?_
        clear e_u7
        show mx_S X F L 224 71 [(0, .ref l0), (1, .int l1)] [.int u7.1] u7.2 0 0 (none, r, 0, 0)
        refine sx_bi (v := 43) hm dX8_readClass_71 (by decide) ?_
        rcases mx_if_el hf with ⟨c11, hf⟩ | ⟨c11, hf⟩
        · refine sb_ic_eq hm dX8_readClass_73 (tgt := 86) rfl (fun _ => ?_) (fun z => absurd c11 z)
          refine mx_S.ext [(0, .ref l0)] (mx_sub_pos [0] rfl (show ([0, 1] : List Nat).Nodup by decide)) ?_
          exact j_X8_readClass_86_ok X hF hL nn l0 u7.2 hf
        · refine sb_ic_eq hm dX8_readClass_73 (tgt := 86) rfl (fun z => absurd z c11) (fun _ => ?_)
          refine mx_S.pu (pc2 := 77) (lv2 := [(0, .ref l0), (1, .int l1)]) (st2 := [.ref l0]) hm dX8_readClass_76 rfl ?_
          replace hf := mx_gd_el hf; obtain ⟨c8, hf⟩ := hf
          replace hf := mx_sv_el hf; obtain ⟨u9, e_u9, hf⟩ := hf
          refine sx_cv hm dX8_readClass_77 rs_RX8_49 mt_X8_readMember [] [] (b := l0) (ci := 8) rfl rfl rfl c8 (Nat.le_of_ble_eq_true rfl) (Nat.le_of_ble_eq_true rfl) (by omega) (by omega) (f_X8_readMember_ok X (by omega) (by omega) nn l0 u7.2 e_u9) ?_
          clear e_u9
          show mx_S X F L 224 80 [(0, .ref l0), (1, .int l1)] [] u9 0 0 (none, r, 0, 0)
          replace hf := xl_el hf; obtain ⟨v10, e_v10, hf⟩ := hf
          refine mx_S.pu (pc2 := 83) (lv2 := [(1, .int v10), (0, .ref l0)]) (st2 := []) hm dX8_readClass_80 (by rw [← e_v10]; rfl) ?_
          clear e_v10
          refine mx_S.pu (pc2 := 47) (lv2 := [(1, .int v10), (0, .ref l0)]) (st2 := []) hm dX8_readClass_83 rfl ?_
          refine mx_S.ext [(0, .ref l0), (1, .int v10)] (mx_sub_pos [1, 0] rfl (show ([1, 0] : List Nat).Nodup by decide)) ?_
          exact ih l0 v10 u9 _ hf
set_option maxHeartbeats 4000000 in
set_option maxRecDepth 20000 in
theorem j_X8_readClass_39_ok (X : Nat × (Nat → Int32)) {F L : Nat} (hF : 417 ≤ F) (hL : 9430 ≤ L) (nn : Nat) (l0 : Nat) (h : mx_H) {r : mx_H} (hf : j_X8_readClass_39 nn l0 h = some r) : mx_S X F L 224 39 [(0, .ref l0)] [] h 0 0 (none, r, 0, 0) := by
  have hm : mx_mt 224 = some (yX8_readClass, cX8_readClass, 2, none) := mt_X8_readClass
  unfold j_X8_readClass_39 at hf
  refine mx_S.pu (pc2 := 40) (lv2 := [(0, .ref l0)]) (st2 := [.ref l0]) hm dX8_readClass_39 rfl ?_
  refine sx_bi (v := 42) hm dX8_readClass_40 (by decide) ?_
  replace hf := mx_gd_el hf; obtain ⟨c14, hf⟩ := hf
  replace hf := mx_sv_el hf; obtain ⟨u15, e_u15, hf⟩ := hf
  refine sx_cv hm dX8_readClass_42 rs_RX8_37 mt_X8_need [.int 42] [] (b := l0) (ci := 8) rfl rfl rfl c14 (Nat.le_of_ble_eq_true rfl) (Nat.le_of_ble_eq_true rfl) (by omega) (by omega) (f_X8_need_ok X (by omega) (by omega) nn l0 42 h e_u15) ?_
  clear e_u15
  show mx_S X F L 224 45 [(0, .ref l0)] [] u15 0 0 (none, r, 0, 0)
  refine sx_ic (v := 0) hm dX8_readClass_45 (by decide) ?_
  refine mx_S.pu (pc2 := 47) (lv2 := [(1, .int 0), (0, .ref l0)]) (st2 := []) hm dX8_readClass_46 rfl ?_
  refine mx_S.ext [(0, .ref l0), (1, .int 0)] (mx_sub_pos [1, 0] rfl (show ([1, 0] : List Nat).Nodup by decide)) ?_
  exact w_X8_readClass_47_ok X hF hL nn nn l0 0 u15 _ hf
set_option maxHeartbeats 4000000 in
set_option maxRecDepth 20000 in
theorem f_X8_readClass_ok (X : Nat × (Nat → Int32)) {F L : Nat} (hF : 417 ≤ F) (hL : 9430 ≤ L) (nn : Nat) (a0 : Nat) (h : mx_H) {r : mx_H} (hf : f_X8_readClass nn a0 h = some r) : mx_R X F L 224 [.ref a0] h (none, r, 0, 0) := by
  have hm : mx_mt 224 = some (yX8_readClass, cX8_readClass, 2, none) := mt_X8_readClass
  show mx_S X F L 224 0 [(0, .ref a0)] [] h 0 0 (none, r, 0, 0)
  unfold f_X8_readClass at hf
  refine mx_S.pu (pc2 := 1) (lv2 := [(0, .ref a0)]) (st2 := [.ref a0]) hm dX8_readClass_0 rfl ?_
  refine sx_bi (v := 13) hm dX8_readClass_1 (by decide) ?_
  replace hf := mx_gd_el hf; obtain ⟨c16, hf⟩ := hf
  replace hf := mx_sv_el hf; obtain ⟨u17, e_u17, hf⟩ := hf
  refine sx_cv hm dX8_readClass_3 rs_RX8_37 mt_X8_need [.int 13] [] (b := a0) (ci := 8) rfl rfl rfl c16 (Nat.le_of_ble_eq_true rfl) (Nat.le_of_ble_eq_true rfl) (by omega) (by omega) (f_X8_need_ok X (by omega) (by omega) nn a0 13 h e_u17) ?_
  clear e_u17
  show mx_S X F L 224 6 [(0, .ref a0)] [] u17 0 0 (none, r, 0, 0)
  refine mx_S.pu (pc2 := 7) (lv2 := [(0, .ref a0)]) (st2 := [.ref a0]) hm dX8_readClass_6 rfl ?_
  replace hf := mx_sv_el hf; obtain ⟨v18, e_v18, hf⟩ := hf
  refine sx_get hm dX8_readClass_7 rs_RX8_13 (xgr_el e_v18) ?_
  clear e_v18
  refine mx_S.pu (pc2 := 11) (lv2 := [(0, .ref a0)]) (st2 := [.ref a0, .ref v18]) hm dX8_readClass_10 rfl ?_
  replace hf := mx_sv_el hf; obtain ⟨v19, e_v19, hf⟩ := hf
  refine sx_get hm dX8_readClass_11 rs_RX8_7 (xgr_el e_v19) ?_
  clear e_v19
  replace hf := mx_sv_el hf; obtain ⟨v20, e_v20, hf⟩ := hf
  refine sx_get hm dX8_readClass_14 rs_RX8_30 (xgi_el e_v20) ?_
  clear e_v20
  replace hf := mx_gd_el hf; obtain ⟨c21, hf⟩ := hf
  replace hf := mx_sv_el hf; obtain ⟨u22, e_u22, hf⟩ := hf
  refine sx_cv hm dX8_readClass_17 rs_RX8_40 mt_X2_addClass [.int v20] [] (b := v18) (ci := 2) rfl rfl rfl c21 (Nat.le_of_ble_eq_true rfl) (Nat.le_of_ble_eq_true rfl) (by omega) (by omega) (f_X2_addClass_ok X (by omega) (by omega) nn v18 v20 u17 e_u22) ?_
  clear e_u22
  show mx_S X F L 224 20 [(0, .ref a0)] [] u22 0 0 (none, r, 0, 0)
  refine mx_S.pu (pc2 := 21) (lv2 := [(0, .ref a0)]) (st2 := [.ref a0]) hm dX8_readClass_20 rfl ?_
  refine sx_ic (v := 2) hm dX8_readClass_21 (by decide) ?_
  replace hf := mx_gd_el hf; obtain ⟨c23, hf⟩ := hf
  replace hf := mx_sv_el hf; obtain ⟨u24, e_u24, hf⟩ := hf
  refine sx_cv hm dX8_readClass_22 rs_RX8_37 mt_X8_need [.int 2] [] (b := a0) (ci := 8) rfl rfl rfl c23 (Nat.le_of_ble_eq_true rfl) (Nat.le_of_ble_eq_true rfl) (by omega) (by omega) (f_X8_need_ok X (by omega) (by omega) nn a0 2 u22 e_u24) ?_
  clear e_u24
  show mx_S X F L 224 25 [(0, .ref a0)] [] u24 0 0 (none, r, 0, 0)
  refine mx_S.pu (pc2 := 26) (lv2 := [(0, .ref a0)]) (st2 := [.ref a0]) hm dX8_readClass_25 rfl ?_
  refine sx_bi (v := 16) hm dX8_readClass_26 (by decide) ?_
  replace hf := mx_gd_el hf; obtain ⟨c25, hf⟩ := hf
  replace hf := mx_sv_el hf; obtain ⟨u26, e_u26, hf⟩ := hf
  refine sx_cv hm dX8_readClass_28 rs_RX8_45 mt_X8_accept [.int 16] [] (b := a0) (ci := 8) rfl rfl rfl c25 (Nat.le_of_ble_eq_true rfl) (Nat.le_of_ble_eq_true rfl) (by omega) (by omega) (f_X8_accept_ok X (by omega) (by omega) nn a0 16 u24 e_u26) ?_
  clear e_u26
  show mx_S X F L 224 31 [(0, .ref a0)] [.int u26.1] u26.2 0 0 (none, r, 0, 0)
  rcases mx_if_el hf with ⟨c29, hf⟩ | ⟨c29, hf⟩
  · refine sb_if_eq hm dX8_readClass_31 (tgt := 39) rfl (fun _ => ?_) (fun z => absurd c29 z)
    exact j_X8_readClass_39_ok X hF hL nn a0 u26.2 hf
  · refine sb_if_eq hm dX8_readClass_31 (tgt := 39) rfl (fun z => absurd z c29) (fun _ => ?_)
    refine mx_S.pu (pc2 := 35) (lv2 := [(0, .ref a0)]) (st2 := [.ref a0]) hm dX8_readClass_34 rfl ?_
    refine sx_ic (v := 2) hm dX8_readClass_35 (by decide) ?_
    replace hf := mx_gd_el hf; obtain ⟨c27, hf⟩ := hf
    replace hf := mx_sv_el hf; obtain ⟨u28, e_u28, hf⟩ := hf
    refine sx_cv hm dX8_readClass_36 rs_RX8_37 mt_X8_need [.int 2] [] (b := a0) (ci := 8) rfl rfl rfl c27 (Nat.le_of_ble_eq_true rfl) (Nat.le_of_ble_eq_true rfl) (by omega) (by omega) (f_X8_need_ok X (by omega) (by omega) nn a0 2 u26.2 e_u28) ?_
    clear e_u28
    show mx_S X F L 224 39 [(0, .ref a0)] [] u28 0 0 (none, r, 0, 0)
    exact j_X8_readClass_39_ok X hF hL nn a0 u28 hf
set_option maxHeartbeats 4000000 in
set_option maxRecDepth 20000 in
theorem j_X8_readProgram_33_ok (X : Nat × (Nat → Int32)) {F L : Nat} (hF : 418 ≤ F) (hL : 9451 ≤ L) (nn : Nat) {kk_2 : Nat → Int32 → mx_H → Option mx_H} (hk_2 : ∀ (l0 : Nat) (l1 : Int32) (h : mx_H) (r : mx_H), kk_2 l0 l1 h = some r → mx_S X F L 220 2 [(0, .ref l0), (1, .int l1)] [] h 0 0 (none, r, 0, 0)) (l0 : Nat) (l1 : Int32) (h : mx_H) {r : mx_H} (hf : j_X8_readProgram_33 nn kk_2 l0 l1 h = some r) : mx_S X F L 220 33 [(0, .ref l0), (1, .int l1)] [] h 0 0 (none, r, 0, 0) := by
  have hm : mx_mt 220 = some (yX8_readProgram, cX8_readProgram, 2, none) := mt_X8_readProgram
  unfold j_X8_readProgram_33 at hf
  refine mx_S.pu (pc2 := 34) (lv2 := [(0, .ref l0), (1, .int l1)]) (st2 := [.ref l0]) hm dX8_readProgram_33 rfl ?_
  replace hf := mx_gd_el hf; obtain ⟨c1, hf⟩ := hf
  replace hf := mx_sv_el hf; obtain ⟨u2, e_u2, hf⟩ := hf
  refine sx_cv hm dX8_readProgram_34 rs_RX8_27 mt_X8_readClass [] [] (b := l0) (ci := 8) rfl rfl rfl c1 (Nat.le_of_ble_eq_true rfl) (Nat.le_of_ble_eq_true rfl) (by omega) (by omega) (f_X8_readClass_ok X (by omega) (by omega) nn l0 h e_u2) ?_
  clear e_u2
  show mx_S X F L 220 37 [(0, .ref l0), (1, .int l1)] [] u2 0 0 (none, r, 0, 0)
  replace hf := xl_el hf; obtain ⟨v3, e_v3, hf⟩ := hf
  refine mx_S.pu (pc2 := 40) (lv2 := [(1, .int v3), (0, .ref l0)]) (st2 := []) hm dX8_readProgram_37 (by rw [← e_v3]; rfl) ?_
  clear e_v3
  refine mx_S.pu (pc2 := 2) (lv2 := [(1, .int v3), (0, .ref l0)]) (st2 := []) hm dX8_readProgram_40 rfl ?_
  refine mx_S.ext [(0, .ref l0), (1, .int v3)] (mx_sub_pos [1, 0] rfl (show ([1, 0] : List Nat).Nodup by decide)) ?_
  exact hk_2 l0 v3 u2 _ hf
set_option maxHeartbeats 4000000 in
set_option maxRecDepth 20000 in
theorem w_X8_readProgram_2_ok (X : Nat × (Nat → Int32)) {F L : Nat} (hF : 418 ≤ F) (hL : 9451 ≤ L) (nn : Nat) : ∀ (k : Nat) (l0 : Nat) (l1 : Int32) (h : mx_H) (r : mx_H), w_X8_readProgram_2 nn k l0 l1 h = some r → mx_S X F L 220 2 [(0, .ref l0), (1, .int l1)] [] h 0 0 (none, r, 0, 0) := by
  have hm : mx_mt 220 = some (yX8_readProgram, cX8_readProgram, 2, none) := mt_X8_readProgram
  intro k
  induction k with
  | zero => intro l0 l1 h r hf; cases hf
  | succ k ih =>
    intro l0 l1 h r hf
    unfold w_X8_readProgram_2 at hf
    refine mx_S.pu (pc2 := 3) (lv2 := [(0, .ref l0), (1, .int l1)]) (st2 := [.int l1]) hm dX8_readProgram_2 rfl ?_
    refine sx_si (v := 3000) hm dX8_readProgram_3 (by decide) ?_
    rcases mx_if_el hf with ⟨c12, hf⟩ | ⟨c12, hf⟩
    · refine sb_ic_ge hm dX8_readProgram_6 (tgt := 43) rfl (fun _ => ?_) (fun z => absurd c12 z)
      cases hf
      exact sx_ret hm dX8_readProgram_43 rfl
    · refine sb_ic_ge hm dX8_readProgram_6 (tgt := 43) rfl (fun z => absurd z c12) (fun _ => ?_)
      refine mx_S.pu (pc2 := 10) (lv2 := [(0, .ref l0), (1, .int l1)]) (st2 := [.ref l0]) hm dX8_readProgram_9 rfl ?_
      replace hf := mx_sv_el hf; obtain ⟨v4, e_v4, hf⟩ := hf
      refine sx_get hm dX8_readProgram_10 rs_RX8_7 (xgr_el e_v4) ?_
      clear e_v4
      replace hf := mx_sv_el hf; obtain ⟨v5, e_v5, hf⟩ := hf
      refine sx_get hm dX8_readProgram_13 rs_RX8_19 (xgi_el e_v5) ?_
      clear e_v5
      rcases mx_if_el hf with ⟨c11, hf⟩ | ⟨c11, hf⟩
      · refine sb_if_ne hm dX8_readProgram_16 (tgt := 43) rfl (fun _ => ?_) (fun z => absurd c11 z)
        cases hf
        exact sx_ret hm dX8_readProgram_43 rfl
      · refine sb_if_ne hm dX8_readProgram_16 (tgt := 43) rfl (fun z => absurd z c11) (fun _ => ?_)
        refine mx_S.pu (pc2 := 20) (lv2 := [(0, .ref l0), (1, .int l1)]) (st2 := [.int l1]) hm dX8_readProgram_19 rfl ?_
        rcases mx_if_el hf with ⟨c10, hf⟩ | ⟨c10, hf⟩
        · refine sb_if_eq hm dX8_readProgram_20 (tgt := 33) rfl (fun _ => ?_) (fun z => absurd c10 z)
          exact j_X8_readProgram_33_ok X hF hL nn ih l0 l1 h hf
        · refine sb_if_eq hm dX8_readProgram_20 (tgt := 33) rfl (fun z => absurd z c10) (fun _ => ?_)
          refine mx_S.pu (pc2 := 24) (lv2 := [(0, .ref l0), (1, .int l1)]) (st2 := [.ref l0]) hm dX8_readProgram_23 rfl ?_
          replace hf := mx_sv_el hf; obtain ⟨v6, e_v6, hf⟩ := hf
          refine sx_get hm dX8_readProgram_24 rs_RX8_7 (xgr_el e_v6) ?_
          clear e_v6
          replace hf := mx_gd_el hf; obtain ⟨c7, hf⟩ := hf
          replace hf := mx_sv_el hf; obtain ⟨u8, e_u8, hf⟩ := hf
          refine sx_cv hm dX8_readProgram_27 rs_RX8_23 mt_X9_kind [] [] (b := v6) (ci := 9) rfl rfl rfl c7 (Nat.le_of_ble_eq_true rfl) (Nat.le_of_ble_eq_true rfl) (by omega) (by omega) (f_X9_kind_ok X (by omega) (by omega) nn v6 h e_u8) ?_
          clear e_u8
          show mx_S X F L 220 30 [(0, .ref l0), (1, .int l1)] [.int u8.1] u8.2 0 0 (none, r, 0, 0)
          rcases mx_if_el hf with ⟨c9, hf⟩ | ⟨c9, hf⟩
          · refine sb_if_eq hm dX8_readProgram_30 (tgt := 43) rfl (fun _ => ?_) (fun z => absurd c9 z)
            cases hf
            exact sx_ret hm dX8_readProgram_43 rfl
          · refine sb_if_eq hm dX8_readProgram_30 (tgt := 43) rfl (fun z => absurd z c9) (fun _ => ?_)
            exact j_X8_readProgram_33_ok X hF hL nn ih l0 l1 u8.2 hf
set_option maxHeartbeats 4000000 in
set_option maxRecDepth 20000 in
theorem f_X8_readProgram_ok (X : Nat × (Nat → Int32)) {F L : Nat} (hF : 418 ≤ F) (hL : 9451 ≤ L) (nn : Nat) (a0 : Nat) (h : mx_H) {r : mx_H} (hf : f_X8_readProgram nn a0 h = some r) : mx_R X F L 220 [.ref a0] h (none, r, 0, 0) := by
  have hm : mx_mt 220 = some (yX8_readProgram, cX8_readProgram, 2, none) := mt_X8_readProgram
  show mx_S X F L 220 0 [(0, .ref a0)] [] h 0 0 (none, r, 0, 0)
  unfold f_X8_readProgram at hf
  refine sx_ic (v := 0) hm dX8_readProgram_0 (by decide) ?_
  refine mx_S.pu (pc2 := 2) (lv2 := [(1, .int 0), (0, .ref a0)]) (st2 := []) hm dX8_readProgram_1 rfl ?_
  refine mx_S.ext [(0, .ref a0), (1, .int 0)] (mx_sub_pos [1, 0] rfl (show ([1, 0] : List Nat).Nodup by decide)) ?_
  exact w_X8_readProgram_2_ok X hF hL nn nn a0 0 h _ hf
set_option maxHeartbeats 4000000 in
set_option maxRecDepth 20000 in
theorem f_X9_refuse_ok (X : Nat × (Nat → Int32)) {F L : Nat} (hF : 0 ≤ F) (hL : 0 ≤ L) (nn : Nat) (a0 : Nat) (a1 : Int32) (a2 : Int32) (h : mx_H) {r : mx_H} (hf : f_X9_refuse nn a0 a1 a2 h = some r) : mx_R X F L 244 [.ref a0, .int a1, .int a2] h (none, r, 0, 0) := by
  have hm : mx_mt 244 = some (yX9_refuse, cX9_refuse, 3, none) := mt_X9_refuse
  show mx_S X F L 244 0 [(0, .ref a0), (1, .int a1), (2, .int a2)] [] h 0 0 (none, r, 0, 0)
  unfold f_X9_refuse at hf
  refine mx_S.pu (pc2 := 1) (lv2 := [(0, .ref a0), (1, .int a1), (2, .int a2)]) (st2 := [.ref a0]) hm dX9_refuse_0 rfl ?_
  refine mx_S.pu (pc2 := 2) (lv2 := [(0, .ref a0), (1, .int a1), (2, .int a2)]) (st2 := [.int a1, .ref a0]) hm dX9_refuse_1 rfl ?_
  replace hf := mx_sv_el hf; obtain ⟨h1, e_h1, hf⟩ := hf
  refine sx_put hm dX9_refuse_2 rs_RX9_80 ft_9_11 ⟨rfl, rfl⟩ (fun z => by cases z) e_h1 ?_
  clear e_h1
  refine mx_S.pu (pc2 := 6) (lv2 := [(0, .ref a0), (1, .int a1), (2, .int a2)]) (st2 := [.ref a0]) hm dX9_refuse_5 rfl ?_
  refine mx_S.pu (pc2 := 7) (lv2 := [(0, .ref a0), (1, .int a1), (2, .int a2)]) (st2 := [.int a2, .ref a0]) hm dX9_refuse_6 rfl ?_
  replace hf := mx_sv_el hf; obtain ⟨h2, e_h2, hf⟩ := hf
  refine sx_put hm dX9_refuse_7 rs_RX9_41 ft_9_12 ⟨rfl, rfl⟩ (fun z => by cases z) e_h2 ?_
  clear e_h2
  cases hf
  exact sx_ret hm dX9_refuse_10 rfl
set_option maxHeartbeats 4000000 in
set_option maxRecDepth 20000 in
theorem f_X9_addToken_ok (X : Nat × (Nat → Int32)) {F L : Nat} (hF : 0 ≤ F) (hL : 0 ≤ L) (nn : Nat) (a0 : Nat) (a1 : Int32) (a2 : Int32) (a3 : Int32) (h : mx_H) {r : mx_H} (hf : f_X9_addToken nn a0 a1 a2 a3 h = some r) : mx_R X F L 253 [.ref a0, .int a1, .int a2, .int a3] h (none, r, 0, 0) := by
  have hm : mx_mt 253 = some (yX9_addToken, cX9_addToken, 4, none) := mt_X9_addToken
  show mx_S X F L 253 0 [(0, .ref a0), (1, .int a1), (2, .int a2), (3, .int a3)] [] h 0 0 (none, r, 0, 0)
  unfold f_X9_addToken at hf
  refine mx_S.pu (pc2 := 1) (lv2 := [(0, .ref a0), (1, .int a1), (2, .int a2), (3, .int a3)]) (st2 := [.ref a0]) hm dX9_addToken_0 rfl ?_
  replace hf := mx_sv_el hf; obtain ⟨v1, e_v1, hf⟩ := hf
  refine sx_get hm dX9_addToken_1 rs_RX9_83 (xgi_el e_v1) ?_
  clear e_v1
  refine mx_S.pu (pc2 := 5) (lv2 := [(0, .ref a0), (1, .int a1), (2, .int a2), (3, .int a3)]) (st2 := [.ref a0, .int v1]) hm dX9_addToken_4 rfl ?_
  replace hf := mx_sv_el hf; obtain ⟨v2, e_v2, hf⟩ := hf
  refine sx_get hm dX9_addToken_5 rs_RX9_15 (xgr_el e_v2) ?_
  clear e_v2
  replace hf := mx_sv_el hf; obtain ⟨v3, e_v3, hf⟩ := hf
  refine sx_len hm dX9_addToken_8 e_v3 ?_
  clear e_v3
  rcases mx_if_el hf with ⟨c16, hf⟩ | ⟨c16, hf⟩
  · refine sb_ic_ge hm dX9_addToken_9 (tgt := 52) rfl (fun _ => ?_) (fun z => absurd c16 z)
    cases hf
    exact sx_ret hm dX9_addToken_52 rfl
  · refine sb_ic_ge hm dX9_addToken_9 (tgt := 52) rfl (fun z => absurd z c16) (fun _ => ?_)
    refine mx_S.pu (pc2 := 13) (lv2 := [(0, .ref a0), (1, .int a1), (2, .int a2), (3, .int a3)]) (st2 := [.ref a0]) hm dX9_addToken_12 rfl ?_
    replace hf := mx_sv_el hf; obtain ⟨v4, e_v4, hf⟩ := hf
    refine sx_get hm dX9_addToken_13 rs_RX9_15 (xgr_el e_v4) ?_
    clear e_v4
    refine mx_S.pu (pc2 := 17) (lv2 := [(0, .ref a0), (1, .int a1), (2, .int a2), (3, .int a3)]) (st2 := [.ref a0, .ref v4]) hm dX9_addToken_16 rfl ?_
    replace hf := mx_sv_el hf; obtain ⟨v5, e_v5, hf⟩ := hf
    refine sx_get hm dX9_addToken_17 rs_RX9_83 (xgi_el e_v5) ?_
    clear e_v5
    refine mx_S.pu (pc2 := 21) (lv2 := [(0, .ref a0), (1, .int a1), (2, .int a2), (3, .int a3)]) (st2 := [.int a1, .int v5, .ref v4]) hm dX9_addToken_20 rfl ?_
    replace hf := mx_sv_el hf; obtain ⟨h6, e_h6, hf⟩ := hf
    refine sx_ast hm dX9_addToken_21 e_h6 ?_
    clear e_h6
    refine mx_S.pu (pc2 := 23) (lv2 := [(0, .ref a0), (1, .int a1), (2, .int a2), (3, .int a3)]) (st2 := [.ref a0]) hm dX9_addToken_22 rfl ?_
    replace hf := mx_sv_el hf; obtain ⟨v7, e_v7, hf⟩ := hf
    refine sx_get hm dX9_addToken_23 rs_RX9_19 (xgr_el e_v7) ?_
    clear e_v7
    refine mx_S.pu (pc2 := 27) (lv2 := [(0, .ref a0), (1, .int a1), (2, .int a2), (3, .int a3)]) (st2 := [.ref a0, .ref v7]) hm dX9_addToken_26 rfl ?_
    replace hf := mx_sv_el hf; obtain ⟨v8, e_v8, hf⟩ := hf
    refine sx_get hm dX9_addToken_27 rs_RX9_83 (xgi_el e_v8) ?_
    clear e_v8
    refine mx_S.pu (pc2 := 31) (lv2 := [(0, .ref a0), (1, .int a1), (2, .int a2), (3, .int a3)]) (st2 := [.int a2, .int v8, .ref v7]) hm dX9_addToken_30 rfl ?_
    replace hf := mx_sv_el hf; obtain ⟨h9, e_h9, hf⟩ := hf
    refine sx_ast hm dX9_addToken_31 e_h9 ?_
    clear e_h9
    refine mx_S.pu (pc2 := 33) (lv2 := [(0, .ref a0), (1, .int a1), (2, .int a2), (3, .int a3)]) (st2 := [.ref a0]) hm dX9_addToken_32 rfl ?_
    replace hf := mx_sv_el hf; obtain ⟨v10, e_v10, hf⟩ := hf
    refine sx_get hm dX9_addToken_33 rs_RX9_22 (xgr_el e_v10) ?_
    clear e_v10
    refine mx_S.pu (pc2 := 37) (lv2 := [(0, .ref a0), (1, .int a1), (2, .int a2), (3, .int a3)]) (st2 := [.ref a0, .ref v10]) hm dX9_addToken_36 rfl ?_
    replace hf := mx_sv_el hf; obtain ⟨v11, e_v11, hf⟩ := hf
    refine sx_get hm dX9_addToken_37 rs_RX9_83 (xgi_el e_v11) ?_
    clear e_v11
    refine mx_S.pu (pc2 := 41) (lv2 := [(0, .ref a0), (1, .int a1), (2, .int a2), (3, .int a3)]) (st2 := [.int a3, .int v11, .ref v10]) hm dX9_addToken_40 rfl ?_
    replace hf := mx_sv_el hf; obtain ⟨h12, e_h12, hf⟩ := hf
    refine sx_ast hm dX9_addToken_41 e_h12 ?_
    clear e_h12
    refine mx_S.pu (pc2 := 43) (lv2 := [(0, .ref a0), (1, .int a1), (2, .int a2), (3, .int a3)]) (st2 := [.ref a0]) hm dX9_addToken_42 rfl ?_
    refine mx_S.pu (pc2 := 44) (lv2 := [(0, .ref a0), (1, .int a1), (2, .int a2), (3, .int a3)]) (st2 := [.ref a0, .ref a0]) hm dX9_addToken_43 rfl ?_
    replace hf := mx_sv_el hf; obtain ⟨v13, e_v13, hf⟩ := hf
    refine sx_get hm dX9_addToken_44 rs_RX9_83 (xgi_el e_v13) ?_
    clear e_v13
    refine sx_ic (v := 1) hm dX9_addToken_47 (by decide) ?_
    replace hf := xl_el hf; obtain ⟨v14, e_v14, hf⟩ := hf
    refine mx_S.pu (pc2 := 49) (lv2 := [(0, .ref a0), (1, .int a1), (2, .int a2), (3, .int a3)]) (st2 := [.int v14, .ref a0]) hm dX9_addToken_48 (by rw [← e_v14]; rfl) ?_
    clear e_v14
    replace hf := mx_sv_el hf; obtain ⟨h15, e_h15, hf⟩ := hf
    refine sx_put hm dX9_addToken_49 rs_RX9_83 ft_9_3 ⟨rfl, rfl⟩ (fun z => by cases z) e_h15 ?_
    clear e_h15
    cases hf
    exact sx_ret hm dX9_addToken_52 rfl
set_option maxHeartbeats 4000000 in
set_option maxRecDepth 20000 in
theorem j_X9_behindBlanks_45_ok (X : Nat × (Nat → Int32)) {F L : Nat} (hF : 0 ≤ F) (hL : 0 ≤ L) (nn : Nat) {kk_5 : Nat → Int32 → Int32 → Int32 → mx_H → Option (Int32 × mx_H)} (hk_5 : ∀ (l0 : Nat) (l1 : Int32) (l3 : Int32) (l4 : Int32) (h : mx_H) (r : (Int32 × mx_H)), kk_5 l0 l1 l3 l4 h = some r → mx_S X F L 254 5 [(0, .ref l0), (1, .int l1), (3, .int l3), (4, .int l4)] [] h 0 0 (some (.int r.1), r.2, 0, 0)) (l0 : Nat) (l1 : Int32) (l3 : Int32) (l4 : Int32) (l5 : Int32) (h : mx_H) {r : (Int32 × mx_H)} (hf : j_X9_behindBlanks_45 nn kk_5 l0 l1 l3 l4 l5 h = some r) : mx_S X F L 254 45 [(0, .ref l0), (1, .int l1), (3, .int l3), (4, .int l4), (5, .int l5)] [] h 0 0 (some (.int r.1), r.2, 0, 0) := by
  have hm : mx_mt 254 = some (yX9_behindBlanks, cX9_behindBlanks, 6, (some .int)) := mt_X9_behindBlanks
  unfold j_X9_behindBlanks_45 at hf
  refine mx_S.pu (pc2 := 47) (lv2 := [(0, .ref l0), (1, .int l1), (3, .int l3), (4, .int l4), (5, .int l5)]) (st2 := [.int l5]) hm dX9_behindBlanks_45 rfl ?_
  refine sx_bi (v := 10) hm dX9_behindBlanks_47 (by decide) ?_
  rcases mx_if_el hf with ⟨c6, hf⟩ | ⟨c6, hf⟩
  · refine sb_ic_ne hm dX9_behindBlanks_49 (tgt := 58) rfl (fun _ => ?_) (fun z => absurd c6 z)
    refine mx_S.pu (pc2 := 60) (lv2 := [(0, .ref l0), (1, .int l1), (3, .int l3), (4, .int l4), (5, .int l5)]) (st2 := [.int l5]) hm dX9_behindBlanks_58 rfl ?_
    refine sx_bi (v := 32) hm dX9_behindBlanks_60 (by decide) ?_
    rcases mx_if_el hf with ⟨c4, hf⟩ | ⟨c4, hf⟩
    · refine sb_ic_eq hm dX9_behindBlanks_62 (tgt := 72) rfl (fun _ => ?_) (fun z => absurd c4 z)
      replace hf := xl_el hf; obtain ⟨v1, e_v1, hf⟩ := hf
      refine mx_S.pu (pc2 := 75) (lv2 := [(3, .int v1), (0, .ref l0), (1, .int l1), (4, .int l4), (5, .int l5)]) (st2 := []) hm dX9_behindBlanks_72 (by rw [← e_v1]; rfl) ?_
      clear e_v1
      refine mx_S.pu (pc2 := 5) (lv2 := [(3, .int v1), (0, .ref l0), (1, .int l1), (4, .int l4), (5, .int l5)]) (st2 := []) hm dX9_behindBlanks_75 rfl ?_
      refine mx_S.ext [(0, .ref l0), (1, .int l1), (3, .int v1), (4, .int l4)] (mx_sub_pos [1, 2, 0, 3] rfl (show ([3, 0, 1, 4, 5] : List Nat).Nodup by decide)) ?_
      exact hk_5 l0 l1 v1 l4 h _ hf
    · refine sb_ic_eq hm dX9_behindBlanks_62 (tgt := 72) rfl (fun z => absurd z c4) (fun _ => ?_)
      refine mx_S.pu (pc2 := 67) (lv2 := [(0, .ref l0), (1, .int l1), (3, .int l3), (4, .int l4), (5, .int l5)]) (st2 := [.int l4]) hm dX9_behindBlanks_65 rfl ?_
      rcases mx_if_el hf with ⟨c3, hf⟩ | ⟨c3, hf⟩
      · refine sb_if_ne hm dX9_behindBlanks_67 (tgt := 72) rfl (fun _ => ?_) (fun z => absurd c3 z)
        replace hf := xl_el hf; obtain ⟨v2, e_v2, hf⟩ := hf
        refine mx_S.pu (pc2 := 75) (lv2 := [(3, .int v2), (0, .ref l0), (1, .int l1), (4, .int l4), (5, .int l5)]) (st2 := []) hm dX9_behindBlanks_72 (by rw [← e_v2]; rfl) ?_
        clear e_v2
        refine mx_S.pu (pc2 := 5) (lv2 := [(3, .int v2), (0, .ref l0), (1, .int l1), (4, .int l4), (5, .int l5)]) (st2 := []) hm dX9_behindBlanks_75 rfl ?_
        refine mx_S.ext [(0, .ref l0), (1, .int l1), (3, .int v2), (4, .int l4)] (mx_sub_pos [1, 2, 0, 3] rfl (show ([3, 0, 1, 4, 5] : List Nat).Nodup by decide)) ?_
        exact hk_5 l0 l1 v2 l4 h _ hf
      · refine sb_if_ne hm dX9_behindBlanks_67 (tgt := 72) rfl (fun z => absurd z c3) (fun _ => ?_)
        refine mx_S.pu (pc2 := 71) (lv2 := [(0, .ref l0), (1, .int l1), (3, .int l3), (4, .int l4), (5, .int l5)]) (st2 := [.int l3]) hm dX9_behindBlanks_70 rfl ?_
        cases hf
        exact sx_ire hm dX9_behindBlanks_71 rfl rfl
  · refine sb_ic_ne hm dX9_behindBlanks_49 (tgt := 58) rfl (fun z => absurd z c6) (fun _ => ?_)
    refine sx_ic (v := 0) hm dX9_behindBlanks_52 (by decide) ?_
    refine mx_S.pu (pc2 := 55) (lv2 := [(4, .int 0), (0, .ref l0), (1, .int l1), (3, .int l3), (5, .int l5)]) (st2 := []) hm dX9_behindBlanks_53 rfl ?_
    refine mx_S.pu (pc2 := 72) (lv2 := [(4, .int 0), (0, .ref l0), (1, .int l1), (3, .int l3), (5, .int l5)]) (st2 := []) hm dX9_behindBlanks_55 rfl ?_
    replace hf := xl_el hf; obtain ⟨v5, e_v5, hf⟩ := hf
    refine mx_S.pu (pc2 := 75) (lv2 := [(3, .int v5), (4, .int 0), (0, .ref l0), (1, .int l1), (5, .int l5)]) (st2 := []) hm dX9_behindBlanks_72 (by rw [← e_v5]; rfl) ?_
    clear e_v5
    refine mx_S.pu (pc2 := 5) (lv2 := [(3, .int v5), (4, .int 0), (0, .ref l0), (1, .int l1), (5, .int l5)]) (st2 := []) hm dX9_behindBlanks_75 rfl ?_
    refine mx_S.ext [(0, .ref l0), (1, .int l1), (3, .int v5), (4, .int 0)] (mx_sub_pos [2, 3, 0, 1] rfl (show ([3, 4, 0, 1, 5] : List Nat).Nodup by decide)) ?_
    exact hk_5 l0 l1 v5 0 h _ hf
set_option maxHeartbeats 4000000 in
set_option maxRecDepth 20000 in
theorem w_X9_behindBlanks_5_ok (X : Nat × (Nat → Int32)) {F L : Nat} (hF : 0 ≤ F) (hL : 0 ≤ L) (nn : Nat) : ∀ (k : Nat) (l0 : Nat) (l1 : Int32) (l3 : Int32) (l4 : Int32) (h : mx_H) (r : (Int32 × mx_H)), w_X9_behindBlanks_5 nn k l0 l1 l3 l4 h = some r → mx_S X F L 254 5 [(0, .ref l0), (1, .int l1), (3, .int l3), (4, .int l4)] [] h 0 0 (some (.int r.1), r.2, 0, 0) := by
  have hm : mx_mt 254 = some (yX9_behindBlanks, cX9_behindBlanks, 6, (some .int)) := mt_X9_behindBlanks
  intro k
  induction k with
  | zero => intro l0 l1 l3 l4 h r hf; cases hf
  | succ k ih =>
    intro l0 l1 l3 l4 h r hf
    unfold w_X9_behindBlanks_5 at hf
    refine mx_S.pu (pc2 := 6) (lv2 := [(0, .ref l0), (1, .int l1), (3, .int l3), (4, .int l4)]) (st2 := [.int l3]) hm dX9_behindBlanks_5 rfl ?_
    refine mx_S.pu (pc2 := 7) (lv2 := [(0, .ref l0), (1, .int l1), (3, .int l3), (4, .int l4)]) (st2 := [.int l1, .int l3]) hm dX9_behindBlanks_6 rfl ?_
    rcases mx_if_el hf with ⟨c15, hf⟩ | ⟨c15, hf⟩
    · refine sb_ic_ge hm dX9_behindBlanks_7 (tgt := 78) rfl (fun _ => ?_) (fun z => absurd c15 z)
      refine mx_S.pu (pc2 := 79) (lv2 := [(0, .ref l0), (1, .int l1), (3, .int l3), (4, .int l4)]) (st2 := [.int l3]) hm dX9_behindBlanks_78 rfl ?_
      cases hf
      exact sx_ire hm dX9_behindBlanks_79 rfl rfl
    · refine sb_ic_ge hm dX9_behindBlanks_7 (tgt := 78) rfl (fun z => absurd z c15) (fun _ => ?_)
      refine mx_S.pu (pc2 := 11) (lv2 := [(0, .ref l0), (1, .int l1), (3, .int l3), (4, .int l4)]) (st2 := [.ref l0]) hm dX9_behindBlanks_10 rfl ?_
      refine mx_S.pu (pc2 := 12) (lv2 := [(0, .ref l0), (1, .int l1), (3, .int l3), (4, .int l4)]) (st2 := [.int l3, .ref l0]) hm dX9_behindBlanks_11 rfl ?_
      replace hf := mx_sv_el hf; obtain ⟨v7, e_v7, hf⟩ := hf
      refine sx_bld hm dX9_behindBlanks_12 e_v7 ?_
      clear e_v7
      refine mx_S.pu (pc2 := 15) (lv2 := [(5, .int v7), (0, .ref l0), (1, .int l1), (3, .int l3), (4, .int l4)]) (st2 := []) hm dX9_behindBlanks_13 rfl ?_
      refine mx_S.pu (pc2 := 17) (lv2 := [(5, .int v7), (0, .ref l0), (1, .int l1), (3, .int l3), (4, .int l4)]) (st2 := [.int v7]) hm dX9_behindBlanks_15 rfl ?_
      refine sx_bi (v := 47) hm dX9_behindBlanks_17 (by decide) ?_
      rcases mx_if_el hf with ⟨c14, hf⟩ | ⟨c14, hf⟩
      · refine sb_ic_ne hm dX9_behindBlanks_19 (tgt := 45) rfl (fun _ => ?_) (fun z => absurd c14 z)
        refine mx_S.ext [(0, .ref l0), (1, .int l1), (3, .int l3), (4, .int l4), (5, .int v7)] (mx_sub_pos [1, 2, 3, 4, 0] rfl (show ([5, 0, 1, 3, 4] : List Nat).Nodup by decide)) ?_
        exact j_X9_behindBlanks_45_ok X hF hL nn ih l0 l1 l3 l4 v7 h hf
      · refine sb_ic_ne hm dX9_behindBlanks_19 (tgt := 45) rfl (fun z => absurd z c14) (fun _ => ?_)
        refine mx_S.pu (pc2 := 23) (lv2 := [(5, .int v7), (0, .ref l0), (1, .int l1), (3, .int l3), (4, .int l4)]) (st2 := [.int l3]) hm dX9_behindBlanks_22 rfl ?_
        refine sx_ic (v := 1) hm dX9_behindBlanks_23 (by decide) ?_
        replace hf := xl_el hf; obtain ⟨v8, e_v8, hf⟩ := hf
        refine mx_S.pu (pc2 := 25) (lv2 := [(5, .int v7), (0, .ref l0), (1, .int l1), (3, .int l3), (4, .int l4)]) (st2 := [.int v8]) hm dX9_behindBlanks_24 (by rw [← e_v8]; rfl) ?_
        clear e_v8
        refine mx_S.pu (pc2 := 26) (lv2 := [(5, .int v7), (0, .ref l0), (1, .int l1), (3, .int l3), (4, .int l4)]) (st2 := [.int l1, .int v8]) hm dX9_behindBlanks_25 rfl ?_
        rcases mx_if_el hf with ⟨c13, hf⟩ | ⟨c13, hf⟩
        · refine sb_ic_ge hm dX9_behindBlanks_26 (tgt := 45) rfl (fun _ => ?_) (fun z => absurd c13 z)
          refine mx_S.ext [(0, .ref l0), (1, .int l1), (3, .int l3), (4, .int l4), (5, .int v7)] (mx_sub_pos [1, 2, 3, 4, 0] rfl (show ([5, 0, 1, 3, 4] : List Nat).Nodup by decide)) ?_
          exact j_X9_behindBlanks_45_ok X hF hL nn ih l0 l1 l3 l4 v7 h hf
        · refine sb_ic_ge hm dX9_behindBlanks_26 (tgt := 45) rfl (fun z => absurd z c13) (fun _ => ?_)
          refine mx_S.pu (pc2 := 30) (lv2 := [(5, .int v7), (0, .ref l0), (1, .int l1), (3, .int l3), (4, .int l4)]) (st2 := [.ref l0]) hm dX9_behindBlanks_29 rfl ?_
          refine mx_S.pu (pc2 := 31) (lv2 := [(5, .int v7), (0, .ref l0), (1, .int l1), (3, .int l3), (4, .int l4)]) (st2 := [.int l3, .ref l0]) hm dX9_behindBlanks_30 rfl ?_
          refine sx_ic (v := 1) hm dX9_behindBlanks_31 (by decide) ?_
          replace hf := xl_el hf; obtain ⟨v9, e_v9, hf⟩ := hf
          refine mx_S.pu (pc2 := 33) (lv2 := [(5, .int v7), (0, .ref l0), (1, .int l1), (3, .int l3), (4, .int l4)]) (st2 := [.int v9, .ref l0]) hm dX9_behindBlanks_32 (by rw [← e_v9]; rfl) ?_
          clear e_v9
          replace hf := mx_sv_el hf; obtain ⟨v10, e_v10, hf⟩ := hf
          refine sx_bld hm dX9_behindBlanks_33 e_v10 ?_
          clear e_v10
          refine sx_bi (v := 47) hm dX9_behindBlanks_34 (by decide) ?_
          rcases mx_if_el hf with ⟨c12, hf⟩ | ⟨c12, hf⟩
          · refine sb_ic_ne hm dX9_behindBlanks_36 (tgt := 45) rfl (fun _ => ?_) (fun z => absurd c12 z)
            refine mx_S.ext [(0, .ref l0), (1, .int l1), (3, .int l3), (4, .int l4), (5, .int v7)] (mx_sub_pos [1, 2, 3, 4, 0] rfl (show ([5, 0, 1, 3, 4] : List Nat).Nodup by decide)) ?_
            exact j_X9_behindBlanks_45_ok X hF hL nn ih l0 l1 l3 l4 v7 h hf
          · refine sb_ic_ne hm dX9_behindBlanks_36 (tgt := 45) rfl (fun z => absurd z c12) (fun _ => ?_)
            refine sx_ic (v := 1) hm dX9_behindBlanks_39 (by decide) ?_
            refine mx_S.pu (pc2 := 42) (lv2 := [(4, .int 1), (5, .int v7), (0, .ref l0), (1, .int l1), (3, .int l3)]) (st2 := []) hm dX9_behindBlanks_40 rfl ?_
            refine mx_S.pu (pc2 := 72) (lv2 := [(4, .int 1), (5, .int v7), (0, .ref l0), (1, .int l1), (3, .int l3)]) (st2 := []) hm dX9_behindBlanks_42 rfl ?_
            replace hf := xl_el hf; obtain ⟨v11, e_v11, hf⟩ := hf
            refine mx_S.pu (pc2 := 75) (lv2 := [(3, .int v11), (4, .int 1), (5, .int v7), (0, .ref l0), (1, .int l1)]) (st2 := []) hm dX9_behindBlanks_72 (by rw [← e_v11]; rfl) ?_
            clear e_v11
            refine mx_S.pu (pc2 := 5) (lv2 := [(3, .int v11), (4, .int 1), (5, .int v7), (0, .ref l0), (1, .int l1)]) (st2 := []) hm dX9_behindBlanks_75 rfl ?_
            refine mx_S.ext [(0, .ref l0), (1, .int l1), (3, .int v11), (4, .int 1)] (mx_sub_pos [3, 4, 0, 1] rfl (show ([3, 4, 5, 0, 1] : List Nat).Nodup by decide)) ?_
            exact ih l0 l1 v11 1 h _ hf
set_option maxHeartbeats 4000000 in
set_option maxRecDepth 20000 in
theorem f_X9_behindBlanks_ok (X : Nat × (Nat → Int32)) {F L : Nat} (hF : 0 ≤ F) (hL : 0 ≤ L) (nn : Nat) (a0 : Nat) (a1 : Int32) (a2 : Int32) (h : mx_H) {r : (Int32 × mx_H)} (hf : f_X9_behindBlanks nn a0 a1 a2 h = some r) : mx_R X F L 254 [.ref a0, .int a1, .int a2] h (some (.int r.1), r.2, 0, 0) := by
  have hm : mx_mt 254 = some (yX9_behindBlanks, cX9_behindBlanks, 6, (some .int)) := mt_X9_behindBlanks
  show mx_S X F L 254 0 [(0, .ref a0), (1, .int a1), (2, .int a2)] [] h 0 0 (some (.int r.1), r.2, 0, 0)
  unfold f_X9_behindBlanks at hf
  refine mx_S.pu (pc2 := 1) (lv2 := [(0, .ref a0), (1, .int a1), (2, .int a2)]) (st2 := [.int a2]) hm dX9_behindBlanks_0 rfl ?_
  refine mx_S.pu (pc2 := 2) (lv2 := [(3, .int a2), (0, .ref a0), (1, .int a1), (2, .int a2)]) (st2 := []) hm dX9_behindBlanks_1 rfl ?_
  refine sx_ic (v := 0) hm dX9_behindBlanks_2 (by decide) ?_
  refine mx_S.pu (pc2 := 5) (lv2 := [(4, .int 0), (3, .int a2), (0, .ref a0), (1, .int a1), (2, .int a2)]) (st2 := []) hm dX9_behindBlanks_3 rfl ?_
  refine mx_S.ext [(0, .ref a0), (1, .int a1), (3, .int a2), (4, .int 0)] (mx_sub_pos [2, 3, 1, 0] rfl (show ([4, 3, 0, 1, 2] : List Nat).Nodup by decide)) ?_
  exact w_X9_behindBlanks_5_ok X hF hL nn nn a0 a1 a2 0 h _ hf
set_option maxHeartbeats 4000000 in
set_option maxRecDepth 20000 in
theorem f_X9_isDigit_ok (X : Nat × (Nat → Int32)) {F L : Nat} (hF : 0 ≤ F) (hL : 0 ≤ L) (nn : Nat) (a0 : Int32) (h : mx_H) {r : (Int32 × mx_H)} (hf : f_X9_isDigit nn a0 h = some r) : mx_R X F L 257 [.int a0] h (some (.int r.1), r.2, 0, 0) := by
  have hm : mx_mt 257 = some (yX9_isDigit, cX9_isDigit, 1, (some .boolean)) := mt_X9_isDigit
  show mx_S X F L 257 0 [(0, .int a0)] [] h 0 0 (some (.int r.1), r.2, 0, 0)
  unfold f_X9_isDigit at hf
  refine mx_S.pu (pc2 := 1) (lv2 := [(0, .int a0)]) (st2 := [.int a0]) hm dX9_isDigit_0 rfl ?_
  refine sx_bi (v := 48) hm dX9_isDigit_1 (by decide) ?_
  rcases mx_if_el hf with ⟨c2, hf⟩ | ⟨c2, hf⟩
  · refine sb_ic_lt hm dX9_isDigit_3 (tgt := 16) rfl (fun _ => ?_) (fun z => absurd c2 z)
    refine sx_ic (v := 0) hm dX9_isDigit_16 (by decide) ?_
    cases hf
    exact sx_ire hm dX9_isDigit_17 rfl (by decide)
  · refine sb_ic_lt hm dX9_isDigit_3 (tgt := 16) rfl (fun z => absurd z c2) (fun _ => ?_)
    refine mx_S.pu (pc2 := 7) (lv2 := [(0, .int a0)]) (st2 := [.int a0]) hm dX9_isDigit_6 rfl ?_
    refine sx_bi (v := 57) hm dX9_isDigit_7 (by decide) ?_
    rcases mx_if_el hf with ⟨c1, hf⟩ | ⟨c1, hf⟩
    · refine sb_ic_gt hm dX9_isDigit_9 (tgt := 16) rfl (fun _ => ?_) (fun z => absurd c1 z)
      refine sx_ic (v := 0) hm dX9_isDigit_16 (by decide) ?_
      cases hf
      exact sx_ire hm dX9_isDigit_17 rfl (by decide)
    · refine sb_ic_gt hm dX9_isDigit_9 (tgt := 16) rfl (fun z => absurd z c1) (fun _ => ?_)
      refine sx_ic (v := 1) hm dX9_isDigit_12 (by decide) ?_
      refine mx_S.pu (pc2 := 17) (lv2 := [(0, .int a0)]) (st2 := [.int 1]) hm dX9_isDigit_13 rfl ?_
      cases hf
      exact sx_ire hm dX9_isDigit_17 rfl (by decide)
set_option maxHeartbeats 4000000 in
set_option maxRecDepth 20000 in
theorem j_X9_isLetter_12_ok (X : Nat × (Nat → Int32)) {F L : Nat} (hF : 0 ≤ F) (hL : 0 ≤ L) (nn : Nat) (l0 : Int32) (h : mx_H) {r : (Int32 × mx_H)} (hf : j_X9_isLetter_12 nn l0 h = some r) : mx_S X F L 256 12 [(0, .int l0)] [] h 0 0 (some (.int r.1), r.2, 0, 0) := by
  have hm : mx_mt 256 = some (yX9_isLetter, cX9_isLetter, 1, (some .boolean)) := mt_X9_isLetter
  unfold j_X9_isLetter_12 at hf
  refine mx_S.pu (pc2 := 13) (lv2 := [(0, .int l0)]) (st2 := [.int l0]) hm dX9_isLetter_12 rfl ?_
  refine sx_bi (v := 65) hm dX9_isLetter_13 (by decide) ?_
  rcases mx_if_el hf with ⟨c2, hf⟩ | ⟨c2, hf⟩
  · refine sb_ic_lt hm dX9_isLetter_15 (tgt := 28) rfl (fun _ => ?_) (fun z => absurd c2 z)
    refine sx_ic (v := 0) hm dX9_isLetter_28 (by decide) ?_
    cases hf
    exact sx_ire hm dX9_isLetter_29 rfl (by decide)
  · refine sb_ic_lt hm dX9_isLetter_15 (tgt := 28) rfl (fun z => absurd z c2) (fun _ => ?_)
    refine mx_S.pu (pc2 := 19) (lv2 := [(0, .int l0)]) (st2 := [.int l0]) hm dX9_isLetter_18 rfl ?_
    refine sx_bi (v := 90) hm dX9_isLetter_19 (by decide) ?_
    rcases mx_if_el hf with ⟨c1, hf⟩ | ⟨c1, hf⟩
    · refine sb_ic_gt hm dX9_isLetter_21 (tgt := 28) rfl (fun _ => ?_) (fun z => absurd c1 z)
      refine sx_ic (v := 0) hm dX9_isLetter_28 (by decide) ?_
      cases hf
      exact sx_ire hm dX9_isLetter_29 rfl (by decide)
    · refine sb_ic_gt hm dX9_isLetter_21 (tgt := 28) rfl (fun z => absurd z c1) (fun _ => ?_)
      refine sx_ic (v := 1) hm dX9_isLetter_24 (by decide) ?_
      refine mx_S.pu (pc2 := 29) (lv2 := [(0, .int l0)]) (st2 := [.int 1]) hm dX9_isLetter_25 rfl ?_
      cases hf
      exact sx_ire hm dX9_isLetter_29 rfl (by decide)
set_option maxHeartbeats 4000000 in
set_option maxRecDepth 20000 in
theorem f_X9_isLetter_ok (X : Nat × (Nat → Int32)) {F L : Nat} (hF : 0 ≤ F) (hL : 0 ≤ L) (nn : Nat) (a0 : Int32) (h : mx_H) {r : (Int32 × mx_H)} (hf : f_X9_isLetter nn a0 h = some r) : mx_R X F L 256 [.int a0] h (some (.int r.1), r.2, 0, 0) := by
  have hm : mx_mt 256 = some (yX9_isLetter, cX9_isLetter, 1, (some .boolean)) := mt_X9_isLetter
  show mx_S X F L 256 0 [(0, .int a0)] [] h 0 0 (some (.int r.1), r.2, 0, 0)
  unfold f_X9_isLetter at hf
  refine mx_S.pu (pc2 := 1) (lv2 := [(0, .int a0)]) (st2 := [.int a0]) hm dX9_isLetter_0 rfl ?_
  refine sx_bi (v := 97) hm dX9_isLetter_1 (by decide) ?_
  rcases mx_if_el hf with ⟨c4, hf⟩ | ⟨c4, hf⟩
  · refine sb_ic_lt hm dX9_isLetter_3 (tgt := 12) rfl (fun _ => ?_) (fun z => absurd c4 z)
    exact j_X9_isLetter_12_ok X hF hL nn a0 h hf
  · refine sb_ic_lt hm dX9_isLetter_3 (tgt := 12) rfl (fun z => absurd z c4) (fun _ => ?_)
    refine mx_S.pu (pc2 := 7) (lv2 := [(0, .int a0)]) (st2 := [.int a0]) hm dX9_isLetter_6 rfl ?_
    refine sx_bi (v := 122) hm dX9_isLetter_7 (by decide) ?_
    rcases mx_if_el hf with ⟨c3, hf⟩ | ⟨c3, hf⟩
    · refine sb_ic_le hm dX9_isLetter_9 (tgt := 24) rfl (fun _ => ?_) (fun z => absurd c3 z)
      refine sx_ic (v := 1) hm dX9_isLetter_24 (by decide) ?_
      refine mx_S.pu (pc2 := 29) (lv2 := [(0, .int a0)]) (st2 := [.int 1]) hm dX9_isLetter_25 rfl ?_
      cases hf
      exact sx_ire hm dX9_isLetter_29 rfl (by decide)
    · refine sb_ic_le hm dX9_isLetter_9 (tgt := 24) rfl (fun z => absurd z c3) (fun _ => ?_)
      exact j_X9_isLetter_12_ok X hF hL nn a0 h hf
set_option maxHeartbeats 4000000 in
set_option maxRecDepth 20000 in
theorem f_X9_isNamePart_ok (X : Nat × (Nat → Int32)) {F L : Nat} (hF : 1 ≤ F) (hL : 20 ≤ L) (nn : Nat) (a0 : Int32) (h : mx_H) {r : (Int32 × mx_H)} (hf : f_X9_isNamePart nn a0 h = some r) : mx_R X F L 258 [.int a0] h (some (.int r.1), r.2, 0, 0) := by
  have hm : mx_mt 258 = some (yX9_isNamePart, cX9_isNamePart, 1, (some .boolean)) := mt_X9_isNamePart
  show mx_S X F L 258 0 [(0, .int a0)] [] h 0 0 (some (.int r.1), r.2, 0, 0)
  unfold f_X9_isNamePart at hf
  refine mx_S.pu (pc2 := 1) (lv2 := [(0, .int a0)]) (st2 := [.int a0]) hm dX9_isNamePart_0 rfl ?_
  replace hf := mx_sv_el hf; obtain ⟨u1, e_u1, hf⟩ := hf
  refine sx_cs hm dX9_isNamePart_1 rs_RX9_103 mt_X9_isLetter [.int a0] [] rfl rfl (Nat.le_of_ble_eq_true rfl) (Nat.le_of_ble_eq_true rfl) (by omega) (by omega) (f_X9_isLetter_ok X (by omega) (by omega) nn a0 h e_u1) ?_
  clear e_u1
  show mx_S X F L 258 4 [(0, .int a0)] [.int u1.1] u1.2 0 0 (some (.int r.1), r.2, 0, 0)
  rcases mx_if_el hf with ⟨c5, hf⟩ | ⟨c5, hf⟩
  · refine sb_if_ne hm dX9_isNamePart_4 (tgt := 20) rfl (fun _ => ?_) (fun z => absurd c5 z)
    refine sx_ic (v := 1) hm dX9_isNamePart_20 (by decide) ?_
    refine mx_S.pu (pc2 := 25) (lv2 := [(0, .int a0)]) (st2 := [.int 1]) hm dX9_isNamePart_21 rfl ?_
    cases hf
    exact sx_ire hm dX9_isNamePart_25 rfl (by decide)
  · refine sb_if_ne hm dX9_isNamePart_4 (tgt := 20) rfl (fun z => absurd z c5) (fun _ => ?_)
    refine mx_S.pu (pc2 := 8) (lv2 := [(0, .int a0)]) (st2 := [.int a0]) hm dX9_isNamePart_7 rfl ?_
    replace hf := mx_sv_el hf; obtain ⟨u2, e_u2, hf⟩ := hf
    refine sx_cs hm dX9_isNamePart_8 rs_RX9_110 mt_X9_isDigit [.int a0] [] rfl rfl (Nat.le_of_ble_eq_true rfl) (Nat.le_of_ble_eq_true rfl) (by omega) (by omega) (f_X9_isDigit_ok X (by omega) (by omega) nn a0 u1.2 e_u2) ?_
    clear e_u2
    show mx_S X F L 258 11 [(0, .int a0)] [.int u2.1] u2.2 0 0 (some (.int r.1), r.2, 0, 0)
    rcases mx_if_el hf with ⟨c4, hf⟩ | ⟨c4, hf⟩
    · refine sb_if_ne hm dX9_isNamePart_11 (tgt := 20) rfl (fun _ => ?_) (fun z => absurd c4 z)
      refine sx_ic (v := 1) hm dX9_isNamePart_20 (by decide) ?_
      refine mx_S.pu (pc2 := 25) (lv2 := [(0, .int a0)]) (st2 := [.int 1]) hm dX9_isNamePart_21 rfl ?_
      cases hf
      exact sx_ire hm dX9_isNamePart_25 rfl (by decide)
    · refine sb_if_ne hm dX9_isNamePart_11 (tgt := 20) rfl (fun z => absurd z c4) (fun _ => ?_)
      refine mx_S.pu (pc2 := 15) (lv2 := [(0, .int a0)]) (st2 := [.int a0]) hm dX9_isNamePart_14 rfl ?_
      refine sx_bi (v := 95) hm dX9_isNamePart_15 (by decide) ?_
      rcases mx_if_el hf with ⟨c3, hf⟩ | ⟨c3, hf⟩
      · refine sb_ic_ne hm dX9_isNamePart_17 (tgt := 24) rfl (fun _ => ?_) (fun z => absurd c3 z)
        refine sx_ic (v := 0) hm dX9_isNamePart_24 (by decide) ?_
        cases hf
        exact sx_ire hm dX9_isNamePart_25 rfl (by decide)
      · refine sb_ic_ne hm dX9_isNamePart_17 (tgt := 24) rfl (fun z => absurd z c3) (fun _ => ?_)
        refine sx_ic (v := 1) hm dX9_isNamePart_20 (by decide) ?_
        refine mx_S.pu (pc2 := 25) (lv2 := [(0, .int a0)]) (st2 := [.int 1]) hm dX9_isNamePart_21 rfl ?_
        cases hf
        exact sx_ire hm dX9_isNamePart_25 rfl (by decide)
set_option maxHeartbeats 4000000 in
set_option maxRecDepth 20000 in
theorem j_X9_scanNumber_96_ok (X : Nat × (Nat → Int32)) {F L : Nat} (hF : 2 ≤ F) (hL : 60 ≤ L) (nn : Nat) (l0 : Nat) (l3 : Int32) (l4 : Int64) (l6 : Int32) (l7 : Int32) (s0 : Int32) (h : mx_H) {r : (Int32 × mx_H)} (hf : j_X9_scanNumber_96 nn l0 l3 l4 l6 l7 s0 h = some r) : mx_S X F L 263 96 [(0, .ref l0), (3, .int l3), (4, .long l4), (6, .int l6), (7, .int l7)] [.int s0] h 0 0 (some (.int r.1), r.2, 0, 0) := by
  have hm : mx_mt 263 = some (yX9_scanNumber, cX9_scanNumber, 9, (some .int)) := mt_X9_scanNumber
  unfold j_X9_scanNumber_96 at hf
  refine mx_S.pu (pc2 := 98) (lv2 := [(8, .int s0), (0, .ref l0), (3, .int l3), (4, .long l4), (6, .int l6), (7, .int l7)]) (st2 := []) hm dX9_scanNumber_96 rfl ?_
  refine mx_S.pu (pc2 := 100) (lv2 := [(8, .int s0), (0, .ref l0), (3, .int l3), (4, .long l4), (6, .int l6), (7, .int l7)]) (st2 := [.int l7]) hm dX9_scanNumber_98 rfl ?_
  rcases mx_if_el hf with ⟨c8, hf⟩ | ⟨c8, hf⟩
  · refine sb_if_ne hm dX9_scanNumber_100 (tgt := 117) rfl (fun _ => ?_) (fun z => absurd c8 z)
    refine sx_ic (v := 0) hm dX9_scanNumber_117 (by decide) ?_
    cases hf
    exact sx_ire hm dX9_scanNumber_118 rfl rfl
  · refine sb_if_ne hm dX9_scanNumber_100 (tgt := 117) rfl (fun z => absurd z c8) (fun _ => ?_)
    refine mx_S.pu (pc2 := 105) (lv2 := [(8, .int s0), (0, .ref l0), (3, .int l3), (4, .long l4), (6, .int l6), (7, .int l7)]) (st2 := [.int s0]) hm dX9_scanNumber_103 rfl ?_
    rcases mx_if_el hf with ⟨c7, hf⟩ | ⟨c7, hf⟩
    · refine sb_if_ne hm dX9_scanNumber_105 (tgt := 117) rfl (fun _ => ?_) (fun z => absurd c7 z)
      refine sx_ic (v := 0) hm dX9_scanNumber_117 (by decide) ?_
      cases hf
      exact sx_ire hm dX9_scanNumber_118 rfl rfl
    · refine sb_if_ne hm dX9_scanNumber_105 (tgt := 117) rfl (fun z => absurd z c7) (fun _ => ?_)
      refine mx_S.pu (pc2 := 110) (lv2 := [(8, .int s0), (0, .ref l0), (3, .int l3), (4, .long l4), (6, .int l6), (7, .int l7)]) (st2 := [.long l4]) hm dX9_scanNumber_108 rfl ?_
      refine sx_ldc2 hm dX9_scanNumber_110 rs_RX9_145 ?_
      replace hf := xl_el hf; obtain ⟨v1, e_v1, hf⟩ := hf
      refine mx_S.pu (pc2 := 114) (lv2 := [(8, .int s0), (0, .ref l0), (3, .int l3), (4, .long l4), (6, .int l6), (7, .int l7)]) (st2 := [.int v1]) hm dX9_scanNumber_113 (by rw [← e_v1]; rfl) ?_
      clear e_v1
      rcases mx_if_el hf with ⟨c6, hf⟩ | ⟨c6, hf⟩
      · refine sb_if_le hm dX9_scanNumber_114 (tgt := 119) rfl (fun _ => ?_) (fun z => absurd c6 z)
        refine mx_S.pu (pc2 := 120) (lv2 := [(8, .int s0), (0, .ref l0), (3, .int l3), (4, .long l4), (6, .int l6), (7, .int l7)]) (st2 := [.ref l0]) hm dX9_scanNumber_119 rfl ?_
        refine sx_ic (v := 3) hm dX9_scanNumber_120 (by decide) ?_
        refine mx_S.pu (pc2 := 122) (lv2 := [(8, .int s0), (0, .ref l0), (3, .int l3), (4, .long l4), (6, .int l6), (7, .int l7)]) (st2 := [.int l3, .int 3, .ref l0]) hm dX9_scanNumber_121 rfl ?_
        refine mx_S.pu (pc2 := 124) (lv2 := [(8, .int s0), (0, .ref l0), (3, .int l3), (4, .long l4), (6, .int l6), (7, .int l7)]) (st2 := [.long l4, .int l3, .int 3, .ref l0]) hm dX9_scanNumber_122 rfl ?_
        replace hf := xl_el hf; obtain ⟨v2, e_v2, hf⟩ := hf
        refine mx_S.pu (pc2 := 125) (lv2 := [(8, .int s0), (0, .ref l0), (3, .int l3), (4, .long l4), (6, .int l6), (7, .int l7)]) (st2 := [.int v2, .int l3, .int 3, .ref l0]) hm dX9_scanNumber_124 (by rw [← e_v2]; rfl) ?_
        clear e_v2
        replace hf := mx_gd_el hf; obtain ⟨c3, hf⟩ := hf
        replace hf := mx_sv_el hf; obtain ⟨u4, e_u4, hf⟩ := hf
        refine sx_cv hm dX9_scanNumber_125 rs_RX9_99 mt_X9_addToken [.int 3, .int l3, .int v2] [] (b := l0) (ci := 9) rfl rfl rfl c3 (Nat.le_of_ble_eq_true rfl) (Nat.le_of_ble_eq_true rfl) (by omega) (by omega) (f_X9_addToken_ok X (by omega) (by omega) nn l0 3 l3 v2 h e_u4) ?_
        clear e_u4
        show mx_S X F L 263 128 [(8, .int s0), (0, .ref l0), (3, .int l3), (4, .long l4), (6, .int l6), (7, .int l7)] [] u4 0 0 (some (.int r.1), r.2, 0, 0)
        refine mx_S.pu (pc2 := 130) (lv2 := [(8, .int s0), (0, .ref l0), (3, .int l3), (4, .long l4), (6, .int l6), (7, .int l7)]) (st2 := [.int l6]) hm dX9_scanNumber_128 rfl ?_
        refine mx_S.pu (pc2 := 131) (lv2 := [(8, .int s0), (0, .ref l0), (3, .int l3), (4, .long l4), (6, .int l6), (7, .int l7)]) (st2 := [.int l3, .int l6]) hm dX9_scanNumber_130 rfl ?_
        replace hf := xl_el hf; obtain ⟨v5, e_v5, hf⟩ := hf
        refine mx_S.pu (pc2 := 132) (lv2 := [(8, .int s0), (0, .ref l0), (3, .int l3), (4, .long l4), (6, .int l6), (7, .int l7)]) (st2 := [.int v5]) hm dX9_scanNumber_131 (by rw [← e_v5]; rfl) ?_
        clear e_v5
        cases hf
        exact sx_ire hm dX9_scanNumber_132 rfl rfl
      · refine sb_if_le hm dX9_scanNumber_114 (tgt := 119) rfl (fun z => absurd z c6) (fun _ => ?_)
        refine sx_ic (v := 0) hm dX9_scanNumber_117 (by decide) ?_
        cases hf
        exact sx_ire hm dX9_scanNumber_118 rfl rfl
set_option maxHeartbeats 4000000 in
set_option maxRecDepth 20000 in
theorem j_X9_scanNumber_95_ok (X : Nat × (Nat → Int32)) {F L : Nat} (hF : 2 ≤ F) (hL : 60 ≤ L) (nn : Nat) (l0 : Nat) (l3 : Int32) (l4 : Int64) (l6 : Int32) (l7 : Int32) (h : mx_H) {r : (Int32 × mx_H)} (hf : j_X9_scanNumber_95 nn l0 l3 l4 l6 l7 h = some r) : mx_S X F L 263 95 [(0, .ref l0), (3, .int l3), (4, .long l4), (6, .int l6), (7, .int l7)] [] h 0 0 (some (.int r.1), r.2, 0, 0) := by
  have hm : mx_mt 263 = some (yX9_scanNumber, cX9_scanNumber, 9, (some .int)) := mt_X9_scanNumber
  unfold j_X9_scanNumber_95 at hf
  refine sx_ic (v := 0) hm dX9_scanNumber_95 (by decide) ?_
  exact j_X9_scanNumber_96_ok X hF hL nn l0 l3 l4 l6 l7 0 h hf
set_option maxHeartbeats 4000000 in
set_option maxRecDepth 20000 in
theorem j_X9_scanNumber_73_ok (X : Nat × (Nat → Int32)) {F L : Nat} (hF : 2 ≤ F) (hL : 60 ≤ L) (nn : Nat) (l0 : Nat) (l1 : Nat) (l2 : Int32) (l3 : Int32) (l4 : Int64) (l6 : Int32) (s0 : Int32) (h : mx_H) {r : (Int32 × mx_H)} (hf : j_X9_scanNumber_73 nn l0 l1 l2 l3 l4 l6 s0 h = some r) : mx_S X F L 263 73 [(0, .ref l0), (1, .ref l1), (2, .int l2), (3, .int l3), (4, .long l4), (6, .int l6)] [.int s0] h 0 0 (some (.int r.1), r.2, 0, 0) := by
  have hm : mx_mt 263 = some (yX9_scanNumber, cX9_scanNumber, 9, (some .int)) := mt_X9_scanNumber
  unfold j_X9_scanNumber_73 at hf
  refine mx_S.pu (pc2 := 75) (lv2 := [(7, .int s0), (0, .ref l0), (1, .ref l1), (2, .int l2), (3, .int l3), (4, .long l4), (6, .int l6)]) (st2 := []) hm dX9_scanNumber_73 rfl ?_
  refine mx_S.pu (pc2 := 77) (lv2 := [(7, .int s0), (0, .ref l0), (1, .ref l1), (2, .int l2), (3, .int l3), (4, .long l4), (6, .int l6)]) (st2 := [.int l6]) hm dX9_scanNumber_75 rfl ?_
  refine mx_S.pu (pc2 := 78) (lv2 := [(7, .int s0), (0, .ref l0), (1, .ref l1), (2, .int l2), (3, .int l3), (4, .long l4), (6, .int l6)]) (st2 := [.int l2, .int l6]) hm dX9_scanNumber_77 rfl ?_
  rcases mx_if_el hf with ⟨c12, hf⟩ | ⟨c12, hf⟩
  · refine sb_ic_ge hm dX9_scanNumber_78 (tgt := 95) rfl (fun _ => ?_) (fun z => absurd c12 z)
    refine mx_S.ext [(0, .ref l0), (3, .int l3), (4, .long l4), (6, .int l6), (7, .int s0)] (mx_sub_pos [1, 4, 5, 6, 0] rfl (show ([7, 0, 1, 2, 3, 4, 6] : List Nat).Nodup by decide)) ?_
    exact j_X9_scanNumber_95_ok X hF hL nn l0 l3 l4 l6 s0 h hf
  · refine sb_ic_ge hm dX9_scanNumber_78 (tgt := 95) rfl (fun z => absurd z c12) (fun _ => ?_)
    refine mx_S.pu (pc2 := 82) (lv2 := [(7, .int s0), (0, .ref l0), (1, .ref l1), (2, .int l2), (3, .int l3), (4, .long l4), (6, .int l6)]) (st2 := [.ref l1]) hm dX9_scanNumber_81 rfl ?_
    refine mx_S.pu (pc2 := 84) (lv2 := [(7, .int s0), (0, .ref l0), (1, .ref l1), (2, .int l2), (3, .int l3), (4, .long l4), (6, .int l6)]) (st2 := [.int l6, .ref l1]) hm dX9_scanNumber_82 rfl ?_
    replace hf := mx_sv_el hf; obtain ⟨v9, e_v9, hf⟩ := hf
    refine sx_bld hm dX9_scanNumber_84 e_v9 ?_
    clear e_v9
    replace hf := mx_sv_el hf; obtain ⟨u10, e_u10, hf⟩ := hf
    refine sx_cs hm dX9_scanNumber_85 rs_RX9_123 mt_X9_isNamePart [.int v9] [] rfl rfl (Nat.le_of_ble_eq_true rfl) (Nat.le_of_ble_eq_true rfl) (by omega) (by omega) (f_X9_isNamePart_ok X (by omega) (by omega) nn v9 h e_u10) ?_
    clear e_u10
    show mx_S X F L 263 88 [(7, .int s0), (0, .ref l0), (1, .ref l1), (2, .int l2), (3, .int l3), (4, .long l4), (6, .int l6)] [.int u10.1] u10.2 0 0 (some (.int r.1), r.2, 0, 0)
    rcases mx_if_el hf with ⟨c11, hf⟩ | ⟨c11, hf⟩
    · refine sb_if_eq hm dX9_scanNumber_88 (tgt := 95) rfl (fun _ => ?_) (fun z => absurd c11 z)
      refine mx_S.ext [(0, .ref l0), (3, .int l3), (4, .long l4), (6, .int l6), (7, .int s0)] (mx_sub_pos [1, 4, 5, 6, 0] rfl (show ([7, 0, 1, 2, 3, 4, 6] : List Nat).Nodup by decide)) ?_
      exact j_X9_scanNumber_95_ok X hF hL nn l0 l3 l4 l6 s0 u10.2 hf
    · refine sb_if_eq hm dX9_scanNumber_88 (tgt := 95) rfl (fun z => absurd z c11) (fun _ => ?_)
      refine sx_ic (v := 1) hm dX9_scanNumber_91 (by decide) ?_
      refine mx_S.pu (pc2 := 96) (lv2 := [(7, .int s0), (0, .ref l0), (1, .ref l1), (2, .int l2), (3, .int l3), (4, .long l4), (6, .int l6)]) (st2 := [.int 1]) hm dX9_scanNumber_92 rfl ?_
      refine mx_S.ext [(0, .ref l0), (3, .int l3), (4, .long l4), (6, .int l6), (7, .int s0)] (mx_sub_pos [1, 4, 5, 6, 0] rfl (show ([7, 0, 1, 2, 3, 4, 6] : List Nat).Nodup by decide)) ?_
      exact j_X9_scanNumber_96_ok X hF hL nn l0 l3 l4 l6 s0 1 u10.2 hf
set_option maxHeartbeats 4000000 in
set_option maxRecDepth 20000 in
theorem j_X9_scanNumber_72_ok (X : Nat × (Nat → Int32)) {F L : Nat} (hF : 2 ≤ F) (hL : 60 ≤ L) (nn : Nat) (l0 : Nat) (l1 : Nat) (l2 : Int32) (l3 : Int32) (l4 : Int64) (l6 : Int32) (h : mx_H) {r : (Int32 × mx_H)} (hf : j_X9_scanNumber_72 nn l0 l1 l2 l3 l4 l6 h = some r) : mx_S X F L 263 72 [(0, .ref l0), (1, .ref l1), (2, .int l2), (3, .int l3), (4, .long l4), (6, .int l6)] [] h 0 0 (some (.int r.1), r.2, 0, 0) := by
  have hm : mx_mt 263 = some (yX9_scanNumber, cX9_scanNumber, 9, (some .int)) := mt_X9_scanNumber
  unfold j_X9_scanNumber_72 at hf
  refine sx_ic (v := 0) hm dX9_scanNumber_72 (by decide) ?_
  exact j_X9_scanNumber_73_ok X hF hL nn l0 l1 l2 l3 l4 l6 0 h hf
set_option maxHeartbeats 4000000 in
set_option maxRecDepth 20000 in
theorem j_X9_scanNumber_52_ok (X : Nat × (Nat → Int32)) {F L : Nat} (hF : 2 ≤ F) (hL : 60 ≤ L) (nn : Nat) (l0 : Nat) (l1 : Nat) (l2 : Int32) (l3 : Int32) (l4 : Int64) (l6 : Int32) (h : mx_H) {r : (Int32 × mx_H)} (hf : j_X9_scanNumber_52 nn l0 l1 l2 l3 l4 l6 h = some r) : mx_S X F L 263 52 [(0, .ref l0), (1, .ref l1), (2, .int l2), (3, .int l3), (4, .long l4), (6, .int l6)] [] h 0 0 (some (.int r.1), r.2, 0, 0) := by
  have hm : mx_mt 263 = some (yX9_scanNumber, cX9_scanNumber, 9, (some .int)) := mt_X9_scanNumber
  unfold j_X9_scanNumber_52 at hf
  refine mx_S.pu (pc2 := 53) (lv2 := [(0, .ref l0), (1, .ref l1), (2, .int l2), (3, .int l3), (4, .long l4), (6, .int l6)]) (st2 := [.ref l1]) hm dX9_scanNumber_52 rfl ?_
  refine mx_S.pu (pc2 := 54) (lv2 := [(0, .ref l0), (1, .ref l1), (2, .int l2), (3, .int l3), (4, .long l4), (6, .int l6)]) (st2 := [.int l3, .ref l1]) hm dX9_scanNumber_53 rfl ?_
  replace hf := mx_sv_el hf; obtain ⟨v13, e_v13, hf⟩ := hf
  refine sx_bld hm dX9_scanNumber_54 e_v13 ?_
  clear e_v13
  refine sx_bi (v := 48) hm dX9_scanNumber_55 (by decide) ?_
  rcases mx_if_el hf with ⟨c16, hf⟩ | ⟨c16, hf⟩
  · refine sb_ic_ne hm dX9_scanNumber_57 (tgt := 72) rfl (fun _ => ?_) (fun z => absurd c16 z)
    exact j_X9_scanNumber_72_ok X hF hL nn l0 l1 l2 l3 l4 l6 h hf
  · refine sb_ic_ne hm dX9_scanNumber_57 (tgt := 72) rfl (fun z => absurd z c16) (fun _ => ?_)
    refine mx_S.pu (pc2 := 62) (lv2 := [(0, .ref l0), (1, .ref l1), (2, .int l2), (3, .int l3), (4, .long l4), (6, .int l6)]) (st2 := [.int l6]) hm dX9_scanNumber_60 rfl ?_
    refine mx_S.pu (pc2 := 63) (lv2 := [(0, .ref l0), (1, .ref l1), (2, .int l2), (3, .int l3), (4, .long l4), (6, .int l6)]) (st2 := [.int l3, .int l6]) hm dX9_scanNumber_62 rfl ?_
    refine sx_ic (v := 1) hm dX9_scanNumber_63 (by decide) ?_
    replace hf := xl_el hf; obtain ⟨v14, e_v14, hf⟩ := hf
    refine mx_S.pu (pc2 := 65) (lv2 := [(0, .ref l0), (1, .ref l1), (2, .int l2), (3, .int l3), (4, .long l4), (6, .int l6)]) (st2 := [.int v14, .int l6]) hm dX9_scanNumber_64 (by rw [← e_v14]; rfl) ?_
    clear e_v14
    rcases mx_if_el hf with ⟨c15, hf⟩ | ⟨c15, hf⟩
    · refine sb_ic_le hm dX9_scanNumber_65 (tgt := 72) rfl (fun _ => ?_) (fun z => absurd c15 z)
      exact j_X9_scanNumber_72_ok X hF hL nn l0 l1 l2 l3 l4 l6 h hf
    · refine sb_ic_le hm dX9_scanNumber_65 (tgt := 72) rfl (fun z => absurd z c15) (fun _ => ?_)
      refine sx_ic (v := 1) hm dX9_scanNumber_68 (by decide) ?_
      refine mx_S.pu (pc2 := 73) (lv2 := [(0, .ref l0), (1, .ref l1), (2, .int l2), (3, .int l3), (4, .long l4), (6, .int l6)]) (st2 := [.int 1]) hm dX9_scanNumber_69 rfl ?_
      exact j_X9_scanNumber_73_ok X hF hL nn l0 l1 l2 l3 l4 l6 1 h hf
set_option maxHeartbeats 4000000 in
set_option maxRecDepth 20000 in
theorem w_X9_scanNumber_6_ok (X : Nat × (Nat → Int32)) {F L : Nat} (hF : 2 ≤ F) (hL : 60 ≤ L) (nn : Nat) : ∀ (k : Nat) (l0 : Nat) (l1 : Nat) (l2 : Int32) (l3 : Int32) (l4 : Int64) (l6 : Int32) (h : mx_H) (r : (Int32 × mx_H)), w_X9_scanNumber_6 nn k l0 l1 l2 l3 l4 l6 h = some r → mx_S X F L 263 6 [(0, .ref l0), (1, .ref l1), (2, .int l2), (3, .int l3), (4, .long l4), (6, .int l6)] [] h 0 0 (some (.int r.1), r.2, 0, 0) := by
  have hm : mx_mt 263 = some (yX9_scanNumber, cX9_scanNumber, 9, (some .int)) := mt_X9_scanNumber
  intro k
  induction k with
  | zero => intro l0 l1 l2 l3 l4 l6 h r hf; cases hf
  | succ k ih =>
    intro l0 l1 l2 l3 l4 l6 h r hf
    unfold w_X9_scanNumber_6 at hf
    refine mx_S.pu (pc2 := 8) (lv2 := [(0, .ref l0), (1, .ref l1), (2, .int l2), (3, .int l3), (4, .long l4), (6, .int l6)]) (st2 := [.int l6]) hm dX9_scanNumber_6 rfl ?_
    refine mx_S.pu (pc2 := 9) (lv2 := [(0, .ref l0), (1, .ref l1), (2, .int l2), (3, .int l3), (4, .long l4), (6, .int l6)]) (st2 := [.int l2, .int l6]) hm dX9_scanNumber_8 rfl ?_
    rcases mx_if_el hf with ⟨c27, hf⟩ | ⟨c27, hf⟩
    · refine sb_ic_ge hm dX9_scanNumber_9 (tgt := 52) rfl (fun _ => ?_) (fun z => absurd c27 z)
      exact j_X9_scanNumber_52_ok X hF hL nn l0 l1 l2 l3 l4 l6 h hf
    · refine sb_ic_ge hm dX9_scanNumber_9 (tgt := 52) rfl (fun z => absurd z c27) (fun _ => ?_)
      refine mx_S.pu (pc2 := 13) (lv2 := [(0, .ref l0), (1, .ref l1), (2, .int l2), (3, .int l3), (4, .long l4), (6, .int l6)]) (st2 := [.ref l1]) hm dX9_scanNumber_12 rfl ?_
      refine mx_S.pu (pc2 := 15) (lv2 := [(0, .ref l0), (1, .ref l1), (2, .int l2), (3, .int l3), (4, .long l4), (6, .int l6)]) (st2 := [.int l6, .ref l1]) hm dX9_scanNumber_13 rfl ?_
      replace hf := mx_sv_el hf; obtain ⟨v17, e_v17, hf⟩ := hf
      refine sx_bld hm dX9_scanNumber_15 e_v17 ?_
      clear e_v17
      replace hf := mx_sv_el hf; obtain ⟨u18, e_u18, hf⟩ := hf
      refine sx_cs hm dX9_scanNumber_16 rs_RX9_110 mt_X9_isDigit [.int v17] [] rfl rfl (Nat.le_of_ble_eq_true rfl) (Nat.le_of_ble_eq_true rfl) (by omega) (by omega) (f_X9_isDigit_ok X (by omega) (by omega) nn v17 h e_u18) ?_
      clear e_u18
      show mx_S X F L 263 19 [(0, .ref l0), (1, .ref l1), (2, .int l2), (3, .int l3), (4, .long l4), (6, .int l6)] [.int u18.1] u18.2 0 0 (some (.int r.1), r.2, 0, 0)
      rcases mx_if_el hf with ⟨c26, hf⟩ | ⟨c26, hf⟩
      · refine sb_if_eq hm dX9_scanNumber_19 (tgt := 52) rfl (fun _ => ?_) (fun z => absurd c26 z)
        exact j_X9_scanNumber_52_ok X hF hL nn l0 l1 l2 l3 l4 l6 u18.2 hf
      · refine sb_if_eq hm dX9_scanNumber_19 (tgt := 52) rfl (fun z => absurd z c26) (fun _ => ?_)
        refine mx_S.pu (pc2 := 24) (lv2 := [(0, .ref l0), (1, .ref l1), (2, .int l2), (3, .int l3), (4, .long l4), (6, .int l6)]) (st2 := [.long l4]) hm dX9_scanNumber_22 rfl ?_
        refine sx_ldc2 hm dX9_scanNumber_24 rs_RX9_133 ?_
        replace hf := xl_el hf; obtain ⟨v19, e_v19, hf⟩ := hf
        refine mx_S.pu (pc2 := 28) (lv2 := [(0, .ref l0), (1, .ref l1), (2, .int l2), (3, .int l3), (4, .long l4), (6, .int l6)]) (st2 := [.long v19]) hm dX9_scanNumber_27 (by rw [← e_v19]; rfl) ?_
        clear e_v19
        refine mx_S.pu (pc2 := 29) (lv2 := [(0, .ref l0), (1, .ref l1), (2, .int l2), (3, .int l3), (4, .long l4), (6, .int l6)]) (st2 := [.ref l1, .long v19]) hm dX9_scanNumber_28 rfl ?_
        refine mx_S.pu (pc2 := 31) (lv2 := [(0, .ref l0), (1, .ref l1), (2, .int l2), (3, .int l3), (4, .long l4), (6, .int l6)]) (st2 := [.int l6, .ref l1, .long v19]) hm dX9_scanNumber_29 rfl ?_
        replace hf := mx_sv_el hf; obtain ⟨v20, e_v20, hf⟩ := hf
        refine sx_bld hm dX9_scanNumber_31 e_v20 ?_
        clear e_v20
        replace hf := xl_el hf; obtain ⟨v21, e_v21, hf⟩ := hf
        refine mx_S.pu (pc2 := 33) (lv2 := [(0, .ref l0), (1, .ref l1), (2, .int l2), (3, .int l3), (4, .long l4), (6, .int l6)]) (st2 := [.long v21, .long v19]) hm dX9_scanNumber_32 (by rw [← e_v21]; rfl) ?_
        clear e_v21
        replace hf := xl_el hf; obtain ⟨v22, e_v22, hf⟩ := hf
        refine mx_S.pu (pc2 := 34) (lv2 := [(0, .ref l0), (1, .ref l1), (2, .int l2), (3, .int l3), (4, .long l4), (6, .int l6)]) (st2 := [.long v22]) hm dX9_scanNumber_33 (by rw [← e_v22]; rfl) ?_
        clear e_v22
        refine sx_ldc2 hm dX9_scanNumber_34 rs_RX9_135 ?_
        replace hf := xl_el hf; obtain ⟨v23, e_v23, hf⟩ := hf
        refine mx_S.pu (pc2 := 38) (lv2 := [(0, .ref l0), (1, .ref l1), (2, .int l2), (3, .int l3), (4, .long l4), (6, .int l6)]) (st2 := [.long v23]) hm dX9_scanNumber_37 (by rw [← e_v23]; rfl) ?_
        clear e_v23
        refine sx_ldc2 hm dX9_scanNumber_38 rs_RX9_137 ?_
        replace hf := xl_el hf; obtain ⟨v24, e_v24, hf⟩ := hf
        refine sx_minl hm dX9_scanNumber_41 rs_RX9_139 (by omega) (Nat.le_trans (Nat.le_of_ble_eq_true rfl : _ ≤ 60) (by omega)) ?_
        rw [e_v24]
        clear e_v24
        refine mx_S.pu (pc2 := 46) (lv2 := [(4, .long v24), (0, .ref l0), (1, .ref l1), (2, .int l2), (3, .int l3), (6, .int l6)]) (st2 := []) hm dX9_scanNumber_44 rfl ?_
        replace hf := xl_el hf; obtain ⟨v25, e_v25, hf⟩ := hf
        refine mx_S.pu (pc2 := 49) (lv2 := [(6, .int v25), (4, .long v24), (0, .ref l0), (1, .ref l1), (2, .int l2), (3, .int l3)]) (st2 := []) hm dX9_scanNumber_46 (by rw [← e_v25]; rfl) ?_
        clear e_v25
        refine mx_S.pu (pc2 := 6) (lv2 := [(6, .int v25), (4, .long v24), (0, .ref l0), (1, .ref l1), (2, .int l2), (3, .int l3)]) (st2 := []) hm dX9_scanNumber_49 rfl ?_
        refine mx_S.ext [(0, .ref l0), (1, .ref l1), (2, .int l2), (3, .int l3), (4, .long v24), (6, .int v25)] (mx_sub_pos [2, 3, 4, 5, 1, 0] rfl (show ([6, 4, 0, 1, 2, 3] : List Nat).Nodup by decide)) ?_
        exact ih l0 l1 l2 l3 v24 v25 u18.2 _ hf
set_option maxHeartbeats 4000000 in
set_option maxRecDepth 20000 in
theorem f_X9_scanNumber_ok (X : Nat × (Nat → Int32)) {F L : Nat} (hF : 2 ≤ F) (hL : 60 ≤ L) (nn : Nat) (a0 : Nat) (a1 : Nat) (a2 : Int32) (a3 : Int32) (h : mx_H) {r : (Int32 × mx_H)} (hf : f_X9_scanNumber nn a0 a1 a2 a3 h = some r) : mx_R X F L 263 [.ref a0, .ref a1, .int a2, .int a3] h (some (.int r.1), r.2, 0, 0) := by
  have hm : mx_mt 263 = some (yX9_scanNumber, cX9_scanNumber, 9, (some .int)) := mt_X9_scanNumber
  show mx_S X F L 263 0 [(0, .ref a0), (1, .ref a1), (2, .int a2), (3, .int a3)] [] h 0 0 (some (.int r.1), r.2, 0, 0)
  unfold f_X9_scanNumber at hf
  refine sx_lc (v := 0) hm dX9_scanNumber_0 (by decide) ?_
  refine mx_S.pu (pc2 := 3) (lv2 := [(4, .long 0), (0, .ref a0), (1, .ref a1), (2, .int a2), (3, .int a3)]) (st2 := []) hm dX9_scanNumber_1 rfl ?_
  refine mx_S.pu (pc2 := 4) (lv2 := [(4, .long 0), (0, .ref a0), (1, .ref a1), (2, .int a2), (3, .int a3)]) (st2 := [.int a3]) hm dX9_scanNumber_3 rfl ?_
  refine mx_S.pu (pc2 := 6) (lv2 := [(6, .int a3), (4, .long 0), (0, .ref a0), (1, .ref a1), (2, .int a2), (3, .int a3)]) (st2 := []) hm dX9_scanNumber_4 rfl ?_
  refine mx_S.ext [(0, .ref a0), (1, .ref a1), (2, .int a2), (3, .int a3), (4, .long 0), (6, .int a3)] (mx_sub_pos [2, 3, 4, 5, 1, 0] rfl (show ([6, 4, 0, 1, 2, 3] : List Nat).Nodup by decide)) ?_
  exact w_X9_scanNumber_6_ok X hF hL nn nn a0 a1 a2 a3 0 a3 h _ hf
set_option maxHeartbeats 4000000 in
set_option maxRecDepth 20000 in
theorem j_X9_scanWord_89_ok (X : Nat × (Nat → Int32)) {F L : Nat} (hF : 3 ≤ F) (hL : 85 ≤ L) (nn : Nat) (l3 : Int32) (l5 : Int32) (l6 : Int32) (s0 : Int32) (s1 : Nat) (h : mx_H) {r : (Int32 × mx_H)} (hf : j_X9_scanWord_89 nn l3 l5 l6 s0 s1 h = some r) : mx_S X F L 260 89 [(3, .int l3), (5, .int l5), (6, .int l6)] [.int s0, .ref s1] h 0 0 (some (.int r.1), r.2, 0, 0) := by
  have hm : mx_mt 260 = some (yX9_scanWord, cX9_scanWord, 8, (some .int)) := mt_X9_scanWord
  unfold j_X9_scanWord_89 at hf
  refine mx_S.pu (pc2 := 90) (lv2 := [(3, .int l3), (5, .int l5), (6, .int l6)]) (st2 := [.int l3, .int s0, .ref s1]) hm dX9_scanWord_89 rfl ?_
  refine mx_S.pu (pc2 := 92) (lv2 := [(3, .int l3), (5, .int l5), (6, .int l6)]) (st2 := [.int l6, .int l3, .int s0, .ref s1]) hm dX9_scanWord_90 rfl ?_
  replace hf := mx_gd_el hf; obtain ⟨c1, hf⟩ := hf
  replace hf := mx_sv_el hf; obtain ⟨u2, e_u2, hf⟩ := hf
  refine sx_cv hm dX9_scanWord_92 rs_RX9_99 mt_X9_addToken [.int s0, .int l3, .int l6] [] (b := s1) (ci := 9) rfl rfl rfl c1 (Nat.le_of_ble_eq_true rfl) (Nat.le_of_ble_eq_true rfl) (by omega) (by omega) (f_X9_addToken_ok X (by omega) (by omega) nn s1 s0 l3 l6 h e_u2) ?_
  clear e_u2
  show mx_S X F L 260 95 [(3, .int l3), (5, .int l5), (6, .int l6)] [] u2 0 0 (some (.int r.1), r.2, 0, 0)
  refine mx_S.pu (pc2 := 97) (lv2 := [(3, .int l3), (5, .int l5), (6, .int l6)]) (st2 := [.int l5]) hm dX9_scanWord_95 rfl ?_
  cases hf
  exact sx_ire hm dX9_scanWord_97 rfl rfl
set_option maxHeartbeats 4000000 in
set_option maxRecDepth 20000 in
theorem j_X9_scanWord_69_ok (X : Nat × (Nat → Int32)) {F L : Nat} (hF : 3 ≤ F) (hL : 85 ≤ L) (nn : Nat) (l0 : Nat) (l3 : Int32) (l5 : Int32) (l6 : Int32) (s0 : Int32) (h : mx_H) {r : (Int32 × mx_H)} (hf : j_X9_scanWord_69 nn l0 l3 l5 l6 s0 h = some r) : mx_S X F L 260 69 [(0, .ref l0), (3, .int l3), (5, .int l5), (6, .int l6)] [.int s0] h 0 0 (some (.int r.1), r.2, 0, 0) := by
  have hm : mx_mt 260 = some (yX9_scanWord, cX9_scanWord, 8, (some .int)) := mt_X9_scanWord
  unfold j_X9_scanWord_69 at hf
  refine mx_S.pu (pc2 := 71) (lv2 := [(7, .int s0), (0, .ref l0), (3, .int l3), (5, .int l5), (6, .int l6)]) (st2 := []) hm dX9_scanWord_69 rfl ?_
  refine mx_S.pu (pc2 := 72) (lv2 := [(7, .int s0), (0, .ref l0), (3, .int l3), (5, .int l5), (6, .int l6)]) (st2 := [.ref l0]) hm dX9_scanWord_71 rfl ?_
  refine mx_S.pu (pc2 := 74) (lv2 := [(7, .int s0), (0, .ref l0), (3, .int l3), (5, .int l5), (6, .int l6)]) (st2 := [.int s0, .ref l0]) hm dX9_scanWord_72 rfl ?_
  rcases mx_if_el hf with ⟨c5, hf⟩ | ⟨c5, hf⟩
  · refine sb_if_eq hm dX9_scanWord_74 (tgt := 88) rfl (fun _ => ?_) (fun z => absurd c5 z)
    refine sx_ic (v := 2) hm dX9_scanWord_88 (by decide) ?_
    refine mx_S.ext [(3, .int l3), (5, .int l5), (6, .int l6)] (mx_sub_pos [2, 3, 4] rfl (show ([7, 0, 3, 5, 6] : List Nat).Nodup by decide)) ?_
    exact j_X9_scanWord_89_ok X hF hL nn l3 l5 l6 2 l0 h hf
  · refine sb_if_eq hm dX9_scanWord_74 (tgt := 88) rfl (fun z => absurd z c5) (fun _ => ?_)
    refine sx_bi (v := 10) hm dX9_scanWord_77 (by decide) ?_
    refine mx_S.pu (pc2 := 81) (lv2 := [(7, .int s0), (0, .ref l0), (3, .int l3), (5, .int l5), (6, .int l6)]) (st2 := [.int l6, .int 10, .ref l0]) hm dX9_scanWord_79 rfl ?_
    replace hf := xl_el hf; obtain ⟨v3, e_v3, hf⟩ := hf
    refine mx_S.pu (pc2 := 82) (lv2 := [(7, .int s0), (0, .ref l0), (3, .int l3), (5, .int l5), (6, .int l6)]) (st2 := [.int v3, .ref l0]) hm dX9_scanWord_81 (by rw [← e_v3]; rfl) ?_
    clear e_v3
    refine sx_bi (v := 9) hm dX9_scanWord_82 (by decide) ?_
    replace hf := xl_el hf; obtain ⟨v4, e_v4, hf⟩ := hf
    refine mx_S.pu (pc2 := 85) (lv2 := [(7, .int s0), (0, .ref l0), (3, .int l3), (5, .int l5), (6, .int l6)]) (st2 := [.int v4, .ref l0]) hm dX9_scanWord_84 (by rw [← e_v4]; rfl) ?_
    clear e_v4
    refine mx_S.pu (pc2 := 89) (lv2 := [(7, .int s0), (0, .ref l0), (3, .int l3), (5, .int l5), (6, .int l6)]) (st2 := [.int v4, .ref l0]) hm dX9_scanWord_85 rfl ?_
    refine mx_S.ext [(3, .int l3), (5, .int l5), (6, .int l6)] (mx_sub_pos [2, 3, 4] rfl (show ([7, 0, 3, 5, 6] : List Nat).Nodup by decide)) ?_
    exact j_X9_scanWord_89_ok X hF hL nn l3 l5 l6 v4 l0 h hf
set_option maxHeartbeats 4000000 in
set_option maxRecDepth 20000 in
theorem j_X9_scanWord_68_ok (X : Nat × (Nat → Int32)) {F L : Nat} (hF : 3 ≤ F) (hL : 85 ≤ L) (nn : Nat) (l0 : Nat) (l3 : Int32) (l5 : Int32) (l6 : Int32) (h : mx_H) {r : (Int32 × mx_H)} (hf : j_X9_scanWord_68 nn l0 l3 l5 l6 h = some r) : mx_S X F L 260 68 [(0, .ref l0), (3, .int l3), (5, .int l5), (6, .int l6)] [] h 0 0 (some (.int r.1), r.2, 0, 0) := by
  have hm : mx_mt 260 = some (yX9_scanWord, cX9_scanWord, 8, (some .int)) := mt_X9_scanWord
  unfold j_X9_scanWord_68 at hf
  refine sx_ic (v := 0) hm dX9_scanWord_68 (by decide) ?_
  exact j_X9_scanWord_69_ok X hF hL nn l0 l3 l5 l6 0 h hf
set_option maxHeartbeats 4000000 in
set_option maxRecDepth 20000 in
theorem j_X9_scanWord_25_ok (X : Nat × (Nat → Int32)) {F L : Nat} (hF : 3 ≤ F) (hL : 85 ≤ L) (nn : Nat) (l0 : Nat) (l1 : Nat) (l3 : Int32) (l4 : Int32) (h : mx_H) {r : (Int32 × mx_H)} (hf : j_X9_scanWord_25 nn l0 l1 l3 l4 h = some r) : mx_S X F L 260 25 [(0, .ref l0), (1, .ref l1), (3, .int l3), (4, .int l4)] [] h 0 0 (some (.int r.1), r.2, 0, 0) := by
  have hm : mx_mt 260 = some (yX9_scanWord, cX9_scanWord, 8, (some .int)) := mt_X9_scanWord
  unfold j_X9_scanWord_25 at hf
  refine mx_S.pu (pc2 := 27) (lv2 := [(0, .ref l0), (1, .ref l1), (3, .int l3), (4, .int l4)]) (st2 := [.int l4]) hm dX9_scanWord_25 rfl ?_
  refine mx_S.pu (pc2 := 28) (lv2 := [(0, .ref l0), (1, .ref l1), (3, .int l3), (4, .int l4)]) (st2 := [.int l3, .int l4]) hm dX9_scanWord_27 rfl ?_
  replace hf := xl_el hf; obtain ⟨v6, e_v6, hf⟩ := hf
  refine mx_S.pu (pc2 := 29) (lv2 := [(0, .ref l0), (1, .ref l1), (3, .int l3), (4, .int l4)]) (st2 := [.int v6]) hm dX9_scanWord_28 (by rw [← e_v6]; rfl) ?_
  clear e_v6
  refine mx_S.pu (pc2 := 31) (lv2 := [(5, .int v6), (0, .ref l0), (1, .ref l1), (3, .int l3), (4, .int l4)]) (st2 := []) hm dX9_scanWord_29 rfl ?_
  refine mx_S.pu (pc2 := 33) (lv2 := [(5, .int v6), (0, .ref l0), (1, .ref l1), (3, .int l3), (4, .int l4)]) (st2 := [.int v6]) hm dX9_scanWord_31 rfl ?_
  refine sx_bi (v := 12) hm dX9_scanWord_33 (by decide) ?_
  rcases mx_if_el hf with ⟨c11, hf⟩ | ⟨c11, hf⟩
  · refine sb_ic_le hm dX9_scanWord_35 (tgt := 40) rfl (fun _ => ?_) (fun z => absurd c11 z)
    refine mx_S.pu (pc2 := 41) (lv2 := [(5, .int v6), (0, .ref l0), (1, .ref l1), (3, .int l3), (4, .int l4)]) (st2 := [.ref l0]) hm dX9_scanWord_40 rfl ?_
    refine mx_S.pu (pc2 := 42) (lv2 := [(5, .int v6), (0, .ref l0), (1, .ref l1), (3, .int l3), (4, .int l4)]) (st2 := [.ref l1, .ref l0]) hm dX9_scanWord_41 rfl ?_
    refine mx_S.pu (pc2 := 43) (lv2 := [(5, .int v6), (0, .ref l0), (1, .ref l1), (3, .int l3), (4, .int l4)]) (st2 := [.int l3, .ref l1, .ref l0]) hm dX9_scanWord_42 rfl ?_
    refine mx_S.pu (pc2 := 45) (lv2 := [(5, .int v6), (0, .ref l0), (1, .ref l1), (3, .int l3), (4, .int l4)]) (st2 := [.int v6, .int l3, .ref l1, .ref l0]) hm dX9_scanWord_43 rfl ?_
    replace hf := mx_gd_el hf; obtain ⟨c7, hf⟩ := hf
    replace hf := mx_sv_el hf; obtain ⟨u8, e_u8, hf⟩ := hf
    refine sx_cv hm dX9_scanWord_45 rs_RX9_126 mt_X9_nameOf [.ref l1, .int l3, .int v6] [] (b := l0) (ci := 9) rfl rfl rfl c7 (Nat.le_of_ble_eq_true rfl) (Nat.le_of_ble_eq_true rfl) (by omega) (by omega) (f_X9_nameOf_ok X (by omega) (by omega) nn l0 l1 l3 v6 h e_u8) ?_
    clear e_u8
    show mx_S X F L 260 48 [(5, .int v6), (0, .ref l0), (1, .ref l1), (3, .int l3), (4, .int l4)] [.int u8.1] u8.2 0 0 (some (.int r.1), r.2, 0, 0)
    refine mx_S.pu (pc2 := 50) (lv2 := [(6, .int u8.1), (5, .int v6), (0, .ref l0), (1, .ref l1), (3, .int l3), (4, .int l4)]) (st2 := []) hm dX9_scanWord_48 rfl ?_
    refine mx_S.pu (pc2 := 52) (lv2 := [(6, .int u8.1), (5, .int v6), (0, .ref l0), (1, .ref l1), (3, .int l3), (4, .int l4)]) (st2 := [.int u8.1]) hm dX9_scanWord_50 rfl ?_
    refine sx_bi (v := 9) hm dX9_scanWord_52 (by decide) ?_
    rcases mx_if_el hf with ⟨c10, hf⟩ | ⟨c10, hf⟩
    · refine sb_ic_lt hm dX9_scanWord_54 (tgt := 68) rfl (fun _ => ?_) (fun z => absurd c10 z)
      refine mx_S.ext [(0, .ref l0), (3, .int l3), (5, .int v6), (6, .int u8.1)] (mx_sub_pos [2, 4, 1, 0] rfl (show ([6, 5, 0, 1, 3, 4] : List Nat).Nodup by decide)) ?_
      exact j_X9_scanWord_68_ok X hF hL nn l0 l3 v6 u8.1 u8.2 hf
    · refine sb_ic_lt hm dX9_scanWord_54 (tgt := 68) rfl (fun z => absurd z c10) (fun _ => ?_)
      refine mx_S.pu (pc2 := 59) (lv2 := [(6, .int u8.1), (5, .int v6), (0, .ref l0), (1, .ref l1), (3, .int l3), (4, .int l4)]) (st2 := [.int u8.1]) hm dX9_scanWord_57 rfl ?_
      refine sx_bi (v := 31) hm dX9_scanWord_59 (by decide) ?_
      rcases mx_if_el hf with ⟨c9, hf⟩ | ⟨c9, hf⟩
      · refine sb_ic_ge hm dX9_scanWord_61 (tgt := 68) rfl (fun _ => ?_) (fun z => absurd c9 z)
        refine mx_S.ext [(0, .ref l0), (3, .int l3), (5, .int v6), (6, .int u8.1)] (mx_sub_pos [2, 4, 1, 0] rfl (show ([6, 5, 0, 1, 3, 4] : List Nat).Nodup by decide)) ?_
        exact j_X9_scanWord_68_ok X hF hL nn l0 l3 v6 u8.1 u8.2 hf
      · refine sb_ic_ge hm dX9_scanWord_61 (tgt := 68) rfl (fun z => absurd z c9) (fun _ => ?_)
        refine sx_ic (v := 1) hm dX9_scanWord_64 (by decide) ?_
        refine mx_S.pu (pc2 := 69) (lv2 := [(6, .int u8.1), (5, .int v6), (0, .ref l0), (1, .ref l1), (3, .int l3), (4, .int l4)]) (st2 := [.int 1]) hm dX9_scanWord_65 rfl ?_
        refine mx_S.ext [(0, .ref l0), (3, .int l3), (5, .int v6), (6, .int u8.1)] (mx_sub_pos [2, 4, 1, 0] rfl (show ([6, 5, 0, 1, 3, 4] : List Nat).Nodup by decide)) ?_
        exact j_X9_scanWord_69_ok X hF hL nn l0 l3 v6 u8.1 1 u8.2 hf
  · refine sb_ic_le hm dX9_scanWord_35 (tgt := 40) rfl (fun z => absurd z c11) (fun _ => ?_)
    refine sx_ic (v := 0) hm dX9_scanWord_38 (by decide) ?_
    cases hf
    exact sx_ire hm dX9_scanWord_39 rfl rfl
set_option maxHeartbeats 4000000 in
set_option maxRecDepth 20000 in
theorem w_X9_scanWord_3_ok (X : Nat × (Nat → Int32)) {F L : Nat} (hF : 3 ≤ F) (hL : 85 ≤ L) (nn : Nat) : ∀ (k : Nat) (l0 : Nat) (l1 : Nat) (l2 : Int32) (l3 : Int32) (l4 : Int32) (h : mx_H) (r : (Int32 × mx_H)), w_X9_scanWord_3 nn k l0 l1 l2 l3 l4 h = some r → mx_S X F L 260 3 [(0, .ref l0), (1, .ref l1), (2, .int l2), (3, .int l3), (4, .int l4)] [] h 0 0 (some (.int r.1), r.2, 0, 0) := by
  have hm : mx_mt 260 = some (yX9_scanWord, cX9_scanWord, 8, (some .int)) := mt_X9_scanWord
  intro k
  induction k with
  | zero => intro l0 l1 l2 l3 l4 h r hf; cases hf
  | succ k ih =>
    intro l0 l1 l2 l3 l4 h r hf
    unfold w_X9_scanWord_3 at hf
    refine mx_S.pu (pc2 := 5) (lv2 := [(0, .ref l0), (1, .ref l1), (2, .int l2), (3, .int l3), (4, .int l4)]) (st2 := [.int l4]) hm dX9_scanWord_3 rfl ?_
    refine mx_S.pu (pc2 := 6) (lv2 := [(0, .ref l0), (1, .ref l1), (2, .int l2), (3, .int l3), (4, .int l4)]) (st2 := [.int l2, .int l4]) hm dX9_scanWord_5 rfl ?_
    rcases mx_if_el hf with ⟨c16, hf⟩ | ⟨c16, hf⟩
    · refine sb_ic_ge hm dX9_scanWord_6 (tgt := 25) rfl (fun _ => ?_) (fun z => absurd c16 z)
      refine mx_S.ext [(0, .ref l0), (1, .ref l1), (3, .int l3), (4, .int l4)] (mx_sub_pos [0, 1, 3, 4] rfl (show ([0, 1, 2, 3, 4] : List Nat).Nodup by decide)) ?_
      exact j_X9_scanWord_25_ok X hF hL nn l0 l1 l3 l4 h hf
    · refine sb_ic_ge hm dX9_scanWord_6 (tgt := 25) rfl (fun z => absurd z c16) (fun _ => ?_)
      refine mx_S.pu (pc2 := 10) (lv2 := [(0, .ref l0), (1, .ref l1), (2, .int l2), (3, .int l3), (4, .int l4)]) (st2 := [.ref l1]) hm dX9_scanWord_9 rfl ?_
      refine mx_S.pu (pc2 := 12) (lv2 := [(0, .ref l0), (1, .ref l1), (2, .int l2), (3, .int l3), (4, .int l4)]) (st2 := [.int l4, .ref l1]) hm dX9_scanWord_10 rfl ?_
      replace hf := mx_sv_el hf; obtain ⟨v12, e_v12, hf⟩ := hf
      refine sx_bld hm dX9_scanWord_12 e_v12 ?_
      clear e_v12
      replace hf := mx_sv_el hf; obtain ⟨u13, e_u13, hf⟩ := hf
      refine sx_cs hm dX9_scanWord_13 rs_RX9_123 mt_X9_isNamePart [.int v12] [] rfl rfl (Nat.le_of_ble_eq_true rfl) (Nat.le_of_ble_eq_true rfl) (by omega) (by omega) (f_X9_isNamePart_ok X (by omega) (by omega) nn v12 h e_u13) ?_
      clear e_u13
      show mx_S X F L 260 16 [(0, .ref l0), (1, .ref l1), (2, .int l2), (3, .int l3), (4, .int l4)] [.int u13.1] u13.2 0 0 (some (.int r.1), r.2, 0, 0)
      rcases mx_if_el hf with ⟨c15, hf⟩ | ⟨c15, hf⟩
      · refine sb_if_eq hm dX9_scanWord_16 (tgt := 25) rfl (fun _ => ?_) (fun z => absurd c15 z)
        refine mx_S.ext [(0, .ref l0), (1, .ref l1), (3, .int l3), (4, .int l4)] (mx_sub_pos [0, 1, 3, 4] rfl (show ([0, 1, 2, 3, 4] : List Nat).Nodup by decide)) ?_
        exact j_X9_scanWord_25_ok X hF hL nn l0 l1 l3 l4 u13.2 hf
      · refine sb_if_eq hm dX9_scanWord_16 (tgt := 25) rfl (fun z => absurd z c15) (fun _ => ?_)
        replace hf := xl_el hf; obtain ⟨v14, e_v14, hf⟩ := hf
        refine mx_S.pu (pc2 := 22) (lv2 := [(4, .int v14), (0, .ref l0), (1, .ref l1), (2, .int l2), (3, .int l3)]) (st2 := []) hm dX9_scanWord_19 (by rw [← e_v14]; rfl) ?_
        clear e_v14
        refine mx_S.pu (pc2 := 3) (lv2 := [(4, .int v14), (0, .ref l0), (1, .ref l1), (2, .int l2), (3, .int l3)]) (st2 := []) hm dX9_scanWord_22 rfl ?_
        refine mx_S.ext [(0, .ref l0), (1, .ref l1), (2, .int l2), (3, .int l3), (4, .int v14)] (mx_sub_pos [1, 2, 3, 4, 0] rfl (show ([4, 0, 1, 2, 3] : List Nat).Nodup by decide)) ?_
        exact ih l0 l1 l2 l3 v14 u13.2 _ hf
set_option maxHeartbeats 4000000 in
set_option maxRecDepth 20000 in
theorem f_X9_scanWord_ok (X : Nat × (Nat → Int32)) {F L : Nat} (hF : 3 ≤ F) (hL : 85 ≤ L) (nn : Nat) (a0 : Nat) (a1 : Nat) (a2 : Int32) (a3 : Int32) (h : mx_H) {r : (Int32 × mx_H)} (hf : f_X9_scanWord nn a0 a1 a2 a3 h = some r) : mx_R X F L 260 [.ref a0, .ref a1, .int a2, .int a3] h (some (.int r.1), r.2, 0, 0) := by
  have hm : mx_mt 260 = some (yX9_scanWord, cX9_scanWord, 8, (some .int)) := mt_X9_scanWord
  show mx_S X F L 260 0 [(0, .ref a0), (1, .ref a1), (2, .int a2), (3, .int a3)] [] h 0 0 (some (.int r.1), r.2, 0, 0)
  unfold f_X9_scanWord at hf
  refine mx_S.pu (pc2 := 1) (lv2 := [(0, .ref a0), (1, .ref a1), (2, .int a2), (3, .int a3)]) (st2 := [.int a3]) hm dX9_scanWord_0 rfl ?_
  refine mx_S.pu (pc2 := 3) (lv2 := [(4, .int a3), (0, .ref a0), (1, .ref a1), (2, .int a2), (3, .int a3)]) (st2 := []) hm dX9_scanWord_1 rfl ?_
  refine mx_S.ext [(0, .ref a0), (1, .ref a1), (2, .int a2), (3, .int a3), (4, .int a3)] (mx_sub_pos [1, 2, 3, 4, 0] rfl (show ([4, 0, 1, 2, 3] : List Nat).Nodup by decide)) ?_
  exact w_X9_scanWord_3_ok X hF hL nn nn a0 a1 a2 a3 a3 h _ hf
set_option maxHeartbeats 4000000 in
set_option maxRecDepth 20000 in
theorem j_X9_signLength_96_ok (X : Nat × (Nat → Int32)) {F L : Nat} (hF : 0 ≤ F) (hL : 0 ≤ L) (nn : Nat) (h : mx_H) {r : (Int32 × mx_H)} (hf : j_X9_signLength_96 nn h = some r) : mx_S X F L 266 96 [] [] h 0 0 (some (.int r.1), r.2, 0, 0) := by
  have hm : mx_mt 266 = some (yX9_signLength, cX9_signLength, 1, (some .int)) := mt_X9_signLength
  unfold j_X9_signLength_96 at hf
  refine sx_ic (v := 2) hm dX9_signLength_96 (by decide) ?_
  cases hf
  exact sx_ire hm dX9_signLength_97 rfl rfl
set_option maxHeartbeats 4000000 in
set_option maxRecDepth 20000 in
theorem f_X9_signLength_ok (X : Nat × (Nat → Int32)) {F L : Nat} (hF : 0 ≤ F) (hL : 0 ≤ L) (nn : Nat) (a0 : Int32) (h : mx_H) {r : (Int32 × mx_H)} (hf : f_X9_signLength nn a0 h = some r) : mx_R X F L 266 [.int a0] h (some (.int r.1), r.2, 0, 0) := by
  have hm : mx_mt 266 = some (yX9_signLength, cX9_signLength, 1, (some .int)) := mt_X9_signLength
  show mx_S X F L 266 0 [(0, .int a0)] [] h 0 0 (some (.int r.1), r.2, 0, 0)
  unfold f_X9_signLength at hf
  refine mx_S.pu (pc2 := 1) (lv2 := [(0, .int a0)]) (st2 := [.int a0]) hm dX9_signLength_0 rfl ?_
  rcases mx_if_el hf with ⟨n_0, hf⟩ | ⟨n_0, hf⟩
  · refine sx_look hm dX9_signLength_1 rfl (off := 91) (by rw [n_0]; rfl) (tgt := 92) rfl ?_
    clear n_0
    refine sx_ic (v := 0) hm dX9_signLength_92 (by decide) ?_
    cases hf
    exact sx_ire hm dX9_signLength_93 rfl rfl
  · rcases mx_if_el hf with ⟨n_1, hf⟩ | ⟨n_1, hf⟩
    · refine sx_look hm dX9_signLength_1 rfl (off := 95) (by rw [n_1]; rfl) (tgt := 96) rfl ?_
      clear n_0 n_1
      refine mx_S.ext [] (mx_sub_pos [] rfl (show ([0] : List Nat).Nodup by decide)) ?_
      exact j_X9_signLength_96_ok X hF hL nn h hf
    · rcases mx_if_el hf with ⟨n_2, hf⟩ | ⟨n_2, hf⟩
      · refine sx_look hm dX9_signLength_1 rfl (off := 95) (by rw [n_2]; rfl) (tgt := 96) rfl ?_
        clear n_0 n_1 n_2
        refine mx_S.ext [] (mx_sub_pos [] rfl (show ([0] : List Nat).Nodup by decide)) ?_
        exact j_X9_signLength_96_ok X hF hL nn h hf
      · rcases mx_if_el hf with ⟨n_3, hf⟩ | ⟨n_3, hf⟩
        · refine sx_look hm dX9_signLength_1 rfl (off := 95) (by rw [n_3]; rfl) (tgt := 96) rfl ?_
          clear n_0 n_1 n_2 n_3
          refine mx_S.ext [] (mx_sub_pos [] rfl (show ([0] : List Nat).Nodup by decide)) ?_
          exact j_X9_signLength_96_ok X hF hL nn h hf
        · rcases mx_if_el hf with ⟨n_4, hf⟩ | ⟨n_4, hf⟩
          · refine sx_look hm dX9_signLength_1 rfl (off := 95) (by rw [n_4]; rfl) (tgt := 96) rfl ?_
            clear n_0 n_1 n_2 n_3 n_4
            refine mx_S.ext [] (mx_sub_pos [] rfl (show ([0] : List Nat).Nodup by decide)) ?_
            exact j_X9_signLength_96_ok X hF hL nn h hf
          · rcases mx_if_el hf with ⟨n_5, hf⟩ | ⟨n_5, hf⟩
            · refine sx_look hm dX9_signLength_1 rfl (off := 95) (by rw [n_5]; rfl) (tgt := 96) rfl ?_
              clear n_0 n_1 n_2 n_3 n_4 n_5
              refine mx_S.ext [] (mx_sub_pos [] rfl (show ([0] : List Nat).Nodup by decide)) ?_
              exact j_X9_signLength_96_ok X hF hL nn h hf
            · rcases mx_if_el hf with ⟨n_6, hf⟩ | ⟨n_6, hf⟩
              · refine sx_look hm dX9_signLength_1 rfl (off := 95) (by rw [n_6]; rfl) (tgt := 96) rfl ?_
                clear n_0 n_1 n_2 n_3 n_4 n_5 n_6
                refine mx_S.ext [] (mx_sub_pos [] rfl (show ([0] : List Nat).Nodup by decide)) ?_
                exact j_X9_signLength_96_ok X hF hL nn h hf
              · rcases mx_if_el hf with ⟨n_7, hf⟩ | ⟨n_7, hf⟩
                · refine sx_look hm dX9_signLength_1 rfl (off := 93) (by rw [n_7]; rfl) (tgt := 94) rfl ?_
                  clear n_0 n_1 n_2 n_3 n_4 n_5 n_6 n_7
                  refine sx_ic (v := 3) hm dX9_signLength_94 (by decide) ?_
                  cases hf
                  exact sx_ire hm dX9_signLength_95 rfl rfl
                · rcases mx_if_el hf with ⟨n_8, hf⟩ | ⟨n_8, hf⟩
                  · refine sx_look hm dX9_signLength_1 rfl (off := 95) (by rw [n_8]; rfl) (tgt := 96) rfl ?_
                    clear n_0 n_1 n_2 n_3 n_4 n_5 n_6 n_7 n_8
                    refine mx_S.ext [] (mx_sub_pos [] rfl (show ([0] : List Nat).Nodup by decide)) ?_
                    exact j_X9_signLength_96_ok X hF hL nn h hf
                  · rcases mx_if_el hf with ⟨n_9, hf⟩ | ⟨n_9, hf⟩
                    · refine sx_look hm dX9_signLength_1 rfl (off := 95) (by rw [n_9]; rfl) (tgt := 96) rfl ?_
                      clear n_0 n_1 n_2 n_3 n_4 n_5 n_6 n_7 n_8 n_9
                      refine mx_S.ext [] (mx_sub_pos [] rfl (show ([0] : List Nat).Nodup by decide)) ?_
                      exact j_X9_signLength_96_ok X hF hL nn h hf
                    · refine sx_look hm dX9_signLength_1 rfl (off := 97) (by show Op.lookupswitch.offset [(0, 91), (52, 95), (53, 95), (55, 95), (57, 95), (58, 95), (59, 95), (60, 93), (67, 95), (69, 95)] 97 a0.toInt = _; rw [lv_osw n_0 (by decide), lv_osw n_1 (by decide), lv_osw n_2 (by decide), lv_osw n_3 (by decide), lv_osw n_4 (by decide), lv_osw n_5 (by decide), lv_osw n_6 (by decide), lv_osw n_7 (by decide), lv_osw n_8 (by decide), lv_osw n_9 (by decide)]; rfl) (tgt := 98) rfl ?_
                      refine sx_ic (v := 1) hm dX9_signLength_98 (by decide) ?_
                      cases hf
                      exact sx_ire hm dX9_signLength_99 rfl rfl
set_option maxHeartbeats 4000000 in
set_option maxRecDepth 20000 in
theorem f_X9_plainSignOf_ok (X : Nat × (Nat → Int32)) {F L : Nat} (hF : 0 ≤ F) (hL : 0 ≤ L) (nn : Nat) (a0 : Int32) (h : mx_H) {r : (Int32 × mx_H)} (hf : f_X9_plainSignOf nn a0 h = some r) : mx_R X F L 265 [.int a0] h (some (.int r.1), r.2, 0, 0) := by
  have hm : mx_mt 265 = some (yX9_plainSignOf, cX9_plainSignOf, 1, (some .int)) := mt_X9_plainSignOf
  show mx_S X F L 265 0 [(0, .int a0)] [] h 0 0 (some (.int r.1), r.2, 0, 0)
  unfold f_X9_plainSignOf at hf
  refine mx_S.pu (pc2 := 1) (lv2 := [(0, .int a0)]) (st2 := [.int a0]) hm dX9_plainSignOf_0 rfl ?_
  rcases mx_if_el hf with ⟨n_0, hf⟩ | ⟨n_0, hf⟩
  · refine sx_look hm dX9_plainSignOf_1 rfl (off := 200) (by rw [n_0]; rfl) (tgt := 201) rfl ?_
    clear n_0
    refine sx_bi (v := 65) hm dX9_plainSignOf_201 (by decide) ?_
    cases hf
    exact sx_ire hm dX9_plainSignOf_203 rfl rfl
  · rcases mx_if_el hf with ⟨n_1, hf⟩ | ⟨n_1, hf⟩
    · refine sx_look hm dX9_plainSignOf_1 rfl (off := 155) (by rw [n_1]; rfl) (tgt := 156) rfl ?_
      clear n_0 n_1
      refine sx_bi (v := 40) hm dX9_plainSignOf_156 (by decide) ?_
      cases hf
      exact sx_ire hm dX9_plainSignOf_158 rfl rfl
    · rcases mx_if_el hf with ⟨n_2, hf⟩ | ⟨n_2, hf⟩
      · refine sx_look hm dX9_plainSignOf_1 rfl (off := 158) (by rw [n_2]; rfl) (tgt := 159) rfl ?_
        clear n_0 n_1 n_2
        refine sx_bi (v := 41) hm dX9_plainSignOf_159 (by decide) ?_
        cases hf
        exact sx_ire hm dX9_plainSignOf_161 rfl rfl
      · rcases mx_if_el hf with ⟨n_3, hf⟩ | ⟨n_3, hf⟩
        · refine sx_look hm dX9_plainSignOf_1 rfl (off := 194) (by rw [n_3]; rfl) (tgt := 195) rfl ?_
          clear n_0 n_1 n_2 n_3
          refine sx_bi (v := 63) hm dX9_plainSignOf_195 (by decide) ?_
          cases hf
          exact sx_ire hm dX9_plainSignOf_197 rfl rfl
        · rcases mx_if_el hf with ⟨n_4, hf⟩ | ⟨n_4, hf⟩
          · refine sx_look hm dX9_plainSignOf_1 rfl (off := 188) (by rw [n_4]; rfl) (tgt := 189) rfl ?_
            clear n_0 n_1 n_2 n_3 n_4
            refine sx_bi (v := 61) hm dX9_plainSignOf_189 (by decide) ?_
            cases hf
            exact sx_ire hm dX9_plainSignOf_191 rfl rfl
          · rcases mx_if_el hf with ⟨n_5, hf⟩ | ⟨n_5, hf⟩
            · refine sx_look hm dX9_plainSignOf_1 rfl (off := 176) (by rw [n_5]; rfl) (tgt := 177) rfl ?_
              clear n_0 n_1 n_2 n_3 n_4 n_5
              refine sx_bi (v := 47) hm dX9_plainSignOf_177 (by decide) ?_
              cases hf
              exact sx_ire hm dX9_plainSignOf_179 rfl rfl
            · rcases mx_if_el hf with ⟨n_6, hf⟩ | ⟨n_6, hf⟩
              · refine sx_look hm dX9_plainSignOf_1 rfl (off := 191) (by rw [n_6]; rfl) (tgt := 192) rfl ?_
                clear n_0 n_1 n_2 n_3 n_4 n_5 n_6
                refine sx_bi (v := 62) hm dX9_plainSignOf_192 (by decide) ?_
                cases hf
                exact sx_ire hm dX9_plainSignOf_194 rfl rfl
              · rcases mx_if_el hf with ⟨n_7, hf⟩ | ⟨n_7, hf⟩
                · refine sx_look hm dX9_plainSignOf_1 rfl (off := 179) (by rw [n_7]; rfl) (tgt := 180) rfl ?_
                  clear n_0 n_1 n_2 n_3 n_4 n_5 n_6 n_7
                  refine sx_bi (v := 48) hm dX9_plainSignOf_180 (by decide) ?_
                  cases hf
                  exact sx_ire hm dX9_plainSignOf_182 rfl rfl
                · rcases mx_if_el hf with ⟨n_8, hf⟩ | ⟨n_8, hf⟩
                  · refine sx_look hm dX9_plainSignOf_1 rfl (off := 197) (by rw [n_8]; rfl) (tgt := 198) rfl ?_
                    clear n_0 n_1 n_2 n_3 n_4 n_5 n_6 n_7 n_8
                    refine sx_bi (v := 64) hm dX9_plainSignOf_198 (by decide) ?_
                    cases hf
                    exact sx_ire hm dX9_plainSignOf_200 rfl rfl
                  · rcases mx_if_el hf with ⟨n_9, hf⟩ | ⟨n_9, hf⟩
                    · refine sx_look hm dX9_plainSignOf_1 rfl (off := 185) (by rw [n_9]; rfl) (tgt := 186) rfl ?_
                      clear n_0 n_1 n_2 n_3 n_4 n_5 n_6 n_7 n_8 n_9
                      refine sx_bi (v := 50) hm dX9_plainSignOf_186 (by decide) ?_
                      cases hf
                      exact sx_ire hm dX9_plainSignOf_188 rfl rfl
                    · rcases mx_if_el hf with ⟨n_10, hf⟩ | ⟨n_10, hf⟩
                      · refine sx_look hm dX9_plainSignOf_1 rfl (off := 173) (by rw [n_10]; rfl) (tgt := 174) rfl ?_
                        clear n_0 n_1 n_2 n_3 n_4 n_5 n_6 n_7 n_8 n_9 n_10
                        refine sx_bi (v := 46) hm dX9_plainSignOf_174 (by decide) ?_
                        cases hf
                        exact sx_ire hm dX9_plainSignOf_176 rfl rfl
                      · rcases mx_if_el hf with ⟨n_11, hf⟩ | ⟨n_11, hf⟩
                        · refine sx_look hm dX9_plainSignOf_1 rfl (off := 182) (by rw [n_11]; rfl) (tgt := 183) rfl ?_
                          clear n_0 n_1 n_2 n_3 n_4 n_5 n_6 n_7 n_8 n_9 n_10 n_11
                          refine sx_bi (v := 49) hm dX9_plainSignOf_183 (by decide) ?_
                          cases hf
                          exact sx_ire hm dX9_plainSignOf_185 rfl rfl
                        · rcases mx_if_el hf with ⟨n_12, hf⟩ | ⟨n_12, hf⟩
                          · refine sx_look hm dX9_plainSignOf_1 rfl (off := 167) (by rw [n_12]; rfl) (tgt := 168) rfl ?_
                            clear n_0 n_1 n_2 n_3 n_4 n_5 n_6 n_7 n_8 n_9 n_10 n_11 n_12
                            refine sx_bi (v := 44) hm dX9_plainSignOf_168 (by decide) ?_
                            cases hf
                            exact sx_ire hm dX9_plainSignOf_170 rfl rfl
                          · rcases mx_if_el hf with ⟨n_13, hf⟩ | ⟨n_13, hf⟩
                            · refine sx_look hm dX9_plainSignOf_1 rfl (off := 170) (by rw [n_13]; rfl) (tgt := 171) rfl ?_
                              clear n_0 n_1 n_2 n_3 n_4 n_5 n_6 n_7 n_8 n_9 n_10 n_11 n_12 n_13
                              refine sx_bi (v := 45) hm dX9_plainSignOf_171 (by decide) ?_
                              cases hf
                              exact sx_ire hm dX9_plainSignOf_173 rfl rfl
                            · rcases mx_if_el hf with ⟨n_14, hf⟩ | ⟨n_14, hf⟩
                              · refine sx_look hm dX9_plainSignOf_1 rfl (off := 203) (by rw [n_14]; rfl) (tgt := 204) rfl ?_
                                clear n_0 n_1 n_2 n_3 n_4 n_5 n_6 n_7 n_8 n_9 n_10 n_11 n_12 n_13 n_14
                                refine sx_bi (v := 70) hm dX9_plainSignOf_204 (by decide) ?_
                                cases hf
                                exact sx_ire hm dX9_plainSignOf_206 rfl rfl
                              · rcases mx_if_el hf with ⟨n_15, hf⟩ | ⟨n_15, hf⟩
                                · refine sx_look hm dX9_plainSignOf_1 rfl (off := 161) (by rw [n_15]; rfl) (tgt := 162) rfl ?_
                                  clear n_0 n_1 n_2 n_3 n_4 n_5 n_6 n_7 n_8 n_9 n_10 n_11 n_12 n_13 n_14 n_15
                                  refine sx_bi (v := 42) hm dX9_plainSignOf_162 (by decide) ?_
                                  cases hf
                                  exact sx_ire hm dX9_plainSignOf_164 rfl rfl
                                · rcases mx_if_el hf with ⟨n_16, hf⟩ | ⟨n_16, hf⟩
                                  · refine sx_look hm dX9_plainSignOf_1 rfl (off := 164) (by rw [n_16]; rfl) (tgt := 165) rfl ?_
                                    clear n_0 n_1 n_2 n_3 n_4 n_5 n_6 n_7 n_8 n_9 n_10 n_11 n_12 n_13 n_14 n_15 n_16
                                    refine sx_bi (v := 43) hm dX9_plainSignOf_165 (by decide) ?_
                                    cases hf
                                    exact sx_ire hm dX9_plainSignOf_167 rfl rfl
                                  · rcases mx_if_el hf with ⟨n_17, hf⟩ | ⟨n_17, hf⟩
                                    · refine sx_look hm dX9_plainSignOf_1 rfl (off := 206) (by rw [n_17]; rfl) (tgt := 207) rfl ?_
                                      clear n_0 n_1 n_2 n_3 n_4 n_5 n_6 n_7 n_8 n_9 n_10 n_11 n_12 n_13 n_14 n_15 n_16 n_17
                                      refine sx_bi (v := 72) hm dX9_plainSignOf_207 (by decide) ?_
                                      cases hf
                                      exact sx_ire hm dX9_plainSignOf_209 rfl rfl
                                    · refine sx_look hm dX9_plainSignOf_1 rfl (off := 209) (by show Op.lookupswitch.offset [(37, 200), (40, 155), (41, 158), (42, 194), (43, 188), (44, 176), (45, 191), (46, 179), (47, 197), (58, 185), (59, 173), (63, 182), (91, 167), (93, 170), (94, 203), (123, 161), (125, 164), (126, 206)] 209 a0.toInt = _; rw [lv_osw n_0 (by decide), lv_osw n_1 (by decide), lv_osw n_2 (by decide), lv_osw n_3 (by decide), lv_osw n_4 (by decide), lv_osw n_5 (by decide), lv_osw n_6 (by decide), lv_osw n_7 (by decide), lv_osw n_8 (by decide), lv_osw n_9 (by decide), lv_osw n_10 (by decide), lv_osw n_11 (by decide), lv_osw n_12 (by decide), lv_osw n_13 (by decide), lv_osw n_14 (by decide), lv_osw n_15 (by decide), lv_osw n_16 (by decide), lv_osw n_17 (by decide)]; rfl) (tgt := 210) rfl ?_
                                      refine sx_ic (v := 0) hm dX9_plainSignOf_210 (by decide) ?_
                                      cases hf
                                      exact sx_ire hm dX9_plainSignOf_211 rfl rfl
set_option maxHeartbeats 4000000 in
set_option maxRecDepth 20000 in
theorem f_X9_signOf_ok (X : Nat × (Nat → Int32)) {F L : Nat} (hF : 1 ≤ F) (hL : 20 ≤ L) (nn : Nat) (a0 : Int32) (a1 : Int32) (h : mx_H) {r : (Int32 × mx_H)} (hf : f_X9_signOf nn a0 a1 h = some r) : mx_R X F L 264 [.int a0, .int a1] h (some (.int r.1), r.2, 0, 0) := by
  have hm : mx_mt 264 = some (yX9_signOf, cX9_signOf, 2, (some .int)) := mt_X9_signOf
  show mx_S X F L 264 0 [(0, .int a0), (1, .int a1)] [] h 0 0 (some (.int r.1), r.2, 0, 0)
  unfold f_X9_signOf at hf
  refine mx_S.pu (pc2 := 1) (lv2 := [(0, .int a0), (1, .int a1)]) (st2 := [.int a0]) hm dX9_signOf_0 rfl ?_
  rcases mx_if_el hf with ⟨n_0, hf⟩ | ⟨n_0, hf⟩
  · refine sx_look hm dX9_signOf_1 rfl (off := 73) (by rw [n_0]; rfl) (tgt := 74) rfl ?_
    clear n_0
    refine mx_S.pu (pc2 := 75) (lv2 := [(0, .int a0), (1, .int a1)]) (st2 := [.int a1]) hm dX9_signOf_74 rfl ?_
    refine sx_bi (v := 61) hm dX9_signOf_75 (by decide) ?_
    rcases mx_if_el hf with ⟨c2, hf⟩ | ⟨c2, hf⟩
    · refine sb_ic_ne hm dX9_signOf_77 (tgt := 85) rfl (fun _ => ?_) (fun z => absurd c2 z)
      refine sx_bi (v := 71) hm dX9_signOf_85 (by decide) ?_
      cases hf
      exact sx_ire hm dX9_signOf_87 rfl rfl
    · refine sb_ic_ne hm dX9_signOf_77 (tgt := 85) rfl (fun z => absurd z c2) (fun _ => ?_)
      refine sx_bi (v := 53) hm dX9_signOf_80 (by decide) ?_
      refine mx_S.pu (pc2 := 87) (lv2 := [(0, .int a0), (1, .int a1)]) (st2 := [.int 53]) hm dX9_signOf_82 rfl ?_
      cases hf
      exact sx_ire hm dX9_signOf_87 rfl rfl
  · rcases mx_if_el hf with ⟨n_1, hf⟩ | ⟨n_1, hf⟩
    · refine sx_look hm dX9_signOf_1 rfl (off := 137) (by rw [n_1]; rfl) (tgt := 138) rfl ?_
      clear n_0 n_1
      refine mx_S.pu (pc2 := 139) (lv2 := [(0, .int a0), (1, .int a1)]) (st2 := [.int a1]) hm dX9_signOf_138 rfl ?_
      refine sx_bi (v := 38) hm dX9_signOf_139 (by decide) ?_
      rcases mx_if_el hf with ⟨c3, hf⟩ | ⟨c3, hf⟩
      · refine sb_ic_ne hm dX9_signOf_141 (tgt := 149) rfl (fun _ => ?_) (fun z => absurd c3 z)
        refine sx_bi (v := 66) hm dX9_signOf_149 (by decide) ?_
        cases hf
        exact sx_ire hm dX9_signOf_151 rfl rfl
      · refine sb_ic_ne hm dX9_signOf_141 (tgt := 149) rfl (fun z => absurd z c3) (fun _ => ?_)
        refine sx_bi (v := 67) hm dX9_signOf_144 (by decide) ?_
        refine mx_S.pu (pc2 := 151) (lv2 := [(0, .int a0), (1, .int a1)]) (st2 := [.int 67]) hm dX9_signOf_146 rfl ?_
        cases hf
        exact sx_ire hm dX9_signOf_151 rfl rfl
    · rcases mx_if_el hf with ⟨n_2, hf⟩ | ⟨n_2, hf⟩
      · refine sx_look hm dX9_signOf_1 rfl (off := 87) (by rw [n_2]; rfl) (tgt := 88) rfl ?_
        clear n_0 n_1 n_2
        refine mx_S.pu (pc2 := 89) (lv2 := [(0, .int a0), (1, .int a1)]) (st2 := [.int a1]) hm dX9_signOf_88 rfl ?_
        refine sx_bi (v := 61) hm dX9_signOf_89 (by decide) ?_
        rcases mx_if_el hf with ⟨c5, hf⟩ | ⟨c5, hf⟩
        · refine sb_ic_ne hm dX9_signOf_91 (tgt := 99) rfl (fun _ => ?_) (fun z => absurd c5 z)
          refine mx_S.pu (pc2 := 100) (lv2 := [(0, .int a0), (1, .int a1)]) (st2 := [.int a1]) hm dX9_signOf_99 rfl ?_
          refine sx_bi (v := 60) hm dX9_signOf_100 (by decide) ?_
          rcases mx_if_el hf with ⟨c4, hf⟩ | ⟨c4, hf⟩
          · refine sb_ic_ne hm dX9_signOf_102 (tgt := 110) rfl (fun _ => ?_) (fun z => absurd c4 z)
            refine sx_bi (v := 54) hm dX9_signOf_110 (by decide) ?_
            cases hf
            exact sx_ire hm dX9_signOf_112 rfl rfl
          · refine sb_ic_ne hm dX9_signOf_102 (tgt := 110) rfl (fun z => absurd z c4) (fun _ => ?_)
            refine sx_bi (v := 58) hm dX9_signOf_105 (by decide) ?_
            refine mx_S.pu (pc2 := 112) (lv2 := [(0, .int a0), (1, .int a1)]) (st2 := [.int 58]) hm dX9_signOf_107 rfl ?_
            cases hf
            exact sx_ire hm dX9_signOf_112 rfl rfl
        · refine sb_ic_ne hm dX9_signOf_91 (tgt := 99) rfl (fun z => absurd z c5) (fun _ => ?_)
          refine sx_bi (v := 55) hm dX9_signOf_94 (by decide) ?_
          refine mx_S.pu (pc2 := 112) (lv2 := [(0, .int a0), (1, .int a1)]) (st2 := [.int 55]) hm dX9_signOf_96 rfl ?_
          cases hf
          exact sx_ire hm dX9_signOf_112 rfl rfl
      · rcases mx_if_el hf with ⟨n_3, hf⟩ | ⟨n_3, hf⟩
        · refine sx_look hm dX9_signOf_1 rfl (off := 59) (by rw [n_3]; rfl) (tgt := 60) rfl ?_
          clear n_0 n_1 n_2 n_3
          refine mx_S.pu (pc2 := 61) (lv2 := [(0, .int a0), (1, .int a1)]) (st2 := [.int a1]) hm dX9_signOf_60 rfl ?_
          refine sx_bi (v := 61) hm dX9_signOf_61 (by decide) ?_
          rcases mx_if_el hf with ⟨c6, hf⟩ | ⟨c6, hf⟩
          · refine sb_ic_ne hm dX9_signOf_63 (tgt := 71) rfl (fun _ => ?_) (fun z => absurd c6 z)
            refine sx_bi (v := 51) hm dX9_signOf_71 (by decide) ?_
            cases hf
            exact sx_ire hm dX9_signOf_73 rfl rfl
          · refine sb_ic_ne hm dX9_signOf_63 (tgt := 71) rfl (fun z => absurd z c6) (fun _ => ?_)
            refine sx_bi (v := 52) hm dX9_signOf_66 (by decide) ?_
            refine mx_S.pu (pc2 := 73) (lv2 := [(0, .int a0), (1, .int a1)]) (st2 := [.int 52]) hm dX9_signOf_68 rfl ?_
            cases hf
            exact sx_ire hm dX9_signOf_73 rfl rfl
        · rcases mx_if_el hf with ⟨n_4, hf⟩ | ⟨n_4, hf⟩
          · refine sx_look hm dX9_signOf_1 rfl (off := 112) (by rw [n_4]; rfl) (tgt := 113) rfl ?_
            clear n_0 n_1 n_2 n_3 n_4
            refine mx_S.pu (pc2 := 114) (lv2 := [(0, .int a0), (1, .int a1)]) (st2 := [.int a1]) hm dX9_signOf_113 rfl ?_
            refine sx_bi (v := 61) hm dX9_signOf_114 (by decide) ?_
            rcases mx_if_el hf with ⟨c8, hf⟩ | ⟨c8, hf⟩
            · refine sb_ic_ne hm dX9_signOf_116 (tgt := 124) rfl (fun _ => ?_) (fun z => absurd c8 z)
              refine mx_S.pu (pc2 := 125) (lv2 := [(0, .int a0), (1, .int a1)]) (st2 := [.int a1]) hm dX9_signOf_124 rfl ?_
              refine sx_bi (v := 62) hm dX9_signOf_125 (by decide) ?_
              rcases mx_if_el hf with ⟨c7, hf⟩ | ⟨c7, hf⟩
              · refine sb_ic_ne hm dX9_signOf_127 (tgt := 135) rfl (fun _ => ?_) (fun z => absurd c7 z)
                refine sx_bi (v := 56) hm dX9_signOf_135 (by decide) ?_
                cases hf
                exact sx_ire hm dX9_signOf_137 rfl rfl
              · refine sb_ic_ne hm dX9_signOf_127 (tgt := 135) rfl (fun z => absurd z c7) (fun _ => ?_)
                refine sx_bi (v := 59) hm dX9_signOf_130 (by decide) ?_
                refine mx_S.pu (pc2 := 137) (lv2 := [(0, .int a0), (1, .int a1)]) (st2 := [.int 59]) hm dX9_signOf_132 rfl ?_
                cases hf
                exact sx_ire hm dX9_signOf_137 rfl rfl
            · refine sb_ic_ne hm dX9_signOf_116 (tgt := 124) rfl (fun z => absurd z c8) (fun _ => ?_)
              refine sx_bi (v := 57) hm dX9_signOf_119 (by decide) ?_
              refine mx_S.pu (pc2 := 137) (lv2 := [(0, .int a0), (1, .int a1)]) (st2 := [.int 57]) hm dX9_signOf_121 rfl ?_
              cases hf
              exact sx_ire hm dX9_signOf_137 rfl rfl
          · rcases mx_if_el hf with ⟨n_5, hf⟩ | ⟨n_5, hf⟩
            · refine sx_look hm dX9_signOf_1 rfl (off := 151) (by rw [n_5]; rfl) (tgt := 152) rfl ?_
              clear n_0 n_1 n_2 n_3 n_4 n_5
              refine mx_S.pu (pc2 := 153) (lv2 := [(0, .int a0), (1, .int a1)]) (st2 := [.int a1]) hm dX9_signOf_152 rfl ?_
              refine sx_bi (v := 124) hm dX9_signOf_153 (by decide) ?_
              rcases mx_if_el hf with ⟨c9, hf⟩ | ⟨c9, hf⟩
              · refine sb_ic_ne hm dX9_signOf_155 (tgt := 163) rfl (fun _ => ?_) (fun z => absurd c9 z)
                refine sx_bi (v := 68) hm dX9_signOf_163 (by decide) ?_
                cases hf
                exact sx_ire hm dX9_signOf_165 rfl rfl
              · refine sb_ic_ne hm dX9_signOf_155 (tgt := 163) rfl (fun z => absurd z c9) (fun _ => ?_)
                refine sx_bi (v := 69) hm dX9_signOf_158 (by decide) ?_
                refine mx_S.pu (pc2 := 165) (lv2 := [(0, .int a0), (1, .int a1)]) (st2 := [.int 69]) hm dX9_signOf_160 rfl ?_
                cases hf
                exact sx_ire hm dX9_signOf_165 rfl rfl
            · refine sx_look hm dX9_signOf_1 rfl (off := 165) (by show Op.lookupswitch.offset [(33, 73), (38, 137), (60, 87), (61, 59), (62, 112), (124, 151)] 165 a0.toInt = _; rw [lv_osw n_0 (by decide), lv_osw n_1 (by decide), lv_osw n_2 (by decide), lv_osw n_3 (by decide), lv_osw n_4 (by decide), lv_osw n_5 (by decide)]; rfl) (tgt := 166) rfl ?_
              refine mx_S.pu (pc2 := 167) (lv2 := [(0, .int a0), (1, .int a1)]) (st2 := [.int a0]) hm dX9_signOf_166 rfl ?_
              replace hf := mx_sv_el hf; obtain ⟨u1, e_u1, hf⟩ := hf
              refine sx_cs hm dX9_signOf_167 rs_RX9_147 mt_X9_plainSignOf [.int a0] [] rfl rfl (Nat.le_of_ble_eq_true rfl) (Nat.le_of_ble_eq_true rfl) (by omega) (by omega) (f_X9_plainSignOf_ok X (by omega) (by omega) nn a0 h e_u1) ?_
              clear e_u1
              show mx_S X F L 264 170 [(0, .int a0), (1, .int a1)] [.int u1.1] u1.2 0 0 (some (.int r.1), r.2, 0, 0)
              cases hf
              exact sx_ire hm dX9_signOf_170 rfl rfl
