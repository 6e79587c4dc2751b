set_option maxHeartbeats 4000000 in
theorem j_X8_readType_24_ok (X : Nat × (Nat → Int32)) {F L : Nat} (hF : 2 ≤ F) (hL : 42 ≤ L) (nn : Nat) (l0 : Nat) (h : mx_H) {r : mx_H} (hf : j_X8_readType_24 nn l0 h = some r) : mx_S X F L 227 24 [(0, .ref l0)] [] h 0 0 (none, r, 0, 0) := by
  have hm : mx_mt 227 = some (yX8_readType, cX8_readType, 1, none) := mt_X8_readType
  unfold j_X8_readType_24 at hf
  refine mx_S.pu (pc2 := 25) (lv2 := [(0, .ref l0)]) (st2 := [.ref l0]) hm dX8_readType_24 rfl ?_
  refine sx_bi (v := 44) hm dX8_readType_25 (by decide) ?_
  replace hf := mx_gd_el hf; obtain ⟨c1, hf⟩ := hf
  replace hf := mx_sv_el hf; obtain ⟨u2, e_u2, hf⟩ := hf
  refine sx_cv hm dX8_readType_27 rs_RX8_45 mt_X8_accept [.int 44] [] (b := l0) (ci := 8) rfl rfl rfl c1 (Nat.le_of_ble_eq_true rfl) (Nat.le_of_ble_eq_true rfl) (by omega) (by omega) (f_X8_accept_ok X (by omega) (by omega) nn l0 44 h e_u2) ?_
  clear e_u2
  show mx_S X F L 227 30 [(0, .ref l0)] [.int u2.1] u2.2 0 0 (none, r, 0, 0)
  rcases mx_if_el hf with ⟨c5, hf⟩ | ⟨c5, hf⟩
  · refine sb_if_eq hm dX8_readType_30 (tgt := 39) rfl (fun _ => ?_) (fun z => absurd c5 z)
    cases hf
    exact sx_ret hm dX8_readType_39 rfl
  · refine sb_if_eq hm dX8_readType_30 (tgt := 39) rfl (fun z => absurd z c5) (fun _ => ?_)
    refine mx_S.pu (pc2 := 34) (lv2 := [(0, .ref l0)]) (st2 := [.ref l0]) hm dX8_readType_33 rfl ?_
    refine sx_bi (v := 45) hm dX8_readType_34 (by decide) ?_
    replace hf := mx_gd_el hf; obtain ⟨c3, hf⟩ := hf
    replace hf := mx_sv_el hf; obtain ⟨u4, e_u4, hf⟩ := hf
    refine sx_cv hm dX8_readType_36 rs_RX8_37 mt_X8_need [.int 45] [] (b := l0) (ci := 8) rfl rfl rfl c3 (Nat.le_of_ble_eq_true rfl) (Nat.le_of_ble_eq_true rfl) (by omega) (by omega) (f_X8_need_ok X (by omega) (by omega) nn l0 45 u2.2 e_u4) ?_
    clear e_u4
    show mx_S X F L 227 39 [(0, .ref l0)] [] u4 0 0 (none, r, 0, 0)
    cases hf
    exact sx_ret hm dX8_readType_39 rfl
set_option maxHeartbeats 4000000 in
theorem f_X8_readType_ok (X : Nat × (Nat → Int32)) {F L : Nat} (hF : 2 ≤ F) (hL : 42 ≤ L) (nn : Nat) (a0 : Nat) (h : mx_H) {r : mx_H} (hf : f_X8_readType nn a0 h = some r) : mx_R X F L 227 [.ref a0] h (none, r, 0, 0) := by
  have hm : mx_mt 227 = some (yX8_readType, cX8_readType, 1, none) := mt_X8_readType
  show mx_S X F L 227 0 [(0, .ref a0)] [] h 0 0 (none, r, 0, 0)
  unfold f_X8_readType at hf
  refine mx_S.pu (pc2 := 1) (lv2 := [(0, .ref a0)]) (st2 := [.ref a0]) hm dX8_readType_0 rfl ?_
  refine sx_bi (v := 10) hm dX8_readType_1 (by decide) ?_
  replace hf := mx_gd_el hf; obtain ⟨c6, hf⟩ := hf
  replace hf := mx_sv_el hf; obtain ⟨u7, e_u7, hf⟩ := hf
  refine sx_cv hm dX8_readType_3 rs_RX8_45 mt_X8_accept [.int 10] [] (b := a0) (ci := 8) rfl rfl rfl c6 (Nat.le_of_ble_eq_true rfl) (Nat.le_of_ble_eq_true rfl) (by omega) (by omega) (f_X8_accept_ok X (by omega) (by omega) nn a0 10 h e_u7) ?_
  clear e_u7
  show mx_S X F L 227 6 [(0, .ref a0)] [.int u7.1] u7.2 0 0 (none, r, 0, 0)
  rcases mx_if_el hf with ⟨c13, hf⟩ | ⟨c13, hf⟩
  · refine sb_if_eq hm dX8_readType_6 (tgt := 10) rfl (fun _ => ?_) (fun z => absurd c13 z)
    refine mx_S.pu (pc2 := 11) (lv2 := [(0, .ref a0)]) (st2 := [.ref a0]) hm dX8_readType_10 rfl ?_
    refine sx_bi (v := 20) hm dX8_readType_11 (by decide) ?_
    replace hf := mx_gd_el hf; obtain ⟨c8, hf⟩ := hf
    replace hf := mx_sv_el hf; obtain ⟨u9, e_u9, hf⟩ := hf
    refine sx_cv hm dX8_readType_13 rs_RX8_45 mt_X8_accept [.int 20] [] (b := a0) (ci := 8) rfl rfl rfl c8 (Nat.le_of_ble_eq_true rfl) (Nat.le_of_ble_eq_true rfl) (by omega) (by omega) (f_X8_accept_ok X (by omega) (by omega) nn a0 20 u7.2 e_u9) ?_
    clear e_u9
    show mx_S X F L 227 16 [(0, .ref a0)] [.int u9.1] u9.2 0 0 (none, r, 0, 0)
    rcases mx_if_el hf with ⟨c12, hf⟩ | ⟨c12, hf⟩
    · refine sb_if_ne hm dX8_readType_16 (tgt := 24) rfl (fun _ => ?_) (fun z => absurd c12 z)
      exact j_X8_readType_24_ok X hF hL nn a0 u9.2 hf
    · refine sb_if_ne hm dX8_readType_16 (tgt := 24) rfl (fun z => absurd z c12) (fun _ => ?_)
      refine mx_S.pu (pc2 := 20) (lv2 := [(0, .ref a0)]) (st2 := [.ref a0]) hm dX8_readType_19 rfl ?_
      refine sx_ic (v := 2) hm dX8_readType_20 (by decide) ?_
      replace hf := mx_gd_el hf; obtain ⟨c10, hf⟩ := hf
      replace hf := mx_sv_el hf; obtain ⟨u11, e_u11, hf⟩ := hf
      refine sx_cv hm dX8_readType_21 rs_RX8_37 mt_X8_need [.int 2] [] (b := a0) (ci := 8) rfl rfl rfl c10 (Nat.le_of_ble_eq_true rfl) (Nat.le_of_ble_eq_true rfl) (by omega) (by omega) (f_X8_need_ok X (by omega) (by omega) nn a0 2 u9.2 e_u11) ?_
      clear e_u11
      show mx_S X F L 227 24 [(0, .ref a0)] [] u11 0 0 (none, r, 0, 0)
      exact j_X8_readType_24_ok X hF hL nn a0 u11 hf
  · refine sb_if_eq hm dX8_readType_6 (tgt := 10) rfl (fun z => absurd z c13) (fun _ => ?_)
    cases hf
    exact sx_ret hm dX8_readType_9 rfl
set_option maxHeartbeats 4000000 in
theorem f_X8_readVariable_ok (X : Nat × (Nat → Int32)) {F L : Nat} (hF : 263 ≤ F) (hL : 6045 ≤ L) (nn : Nat) (a0 : Nat) (a1 : Int32) (h : mx_H) {r : mx_H} (hf : f_X8_readVariable nn a0 a1 h = some r) : mx_R X F L 230 [.ref a0, .int a1] h (none, r, 0, 0) := by
  have hm : mx_mt 230 = some (yX8_readVariable, cX8_readVariable, 2, none) := mt_X8_readVariable
  show mx_S X F L 230 0 [(0, .ref a0), (1, .int a1)] [] h 0 0 (none, r, 0, 0)
  unfold f_X8_readVariable at hf
  refine mx_S.pu (pc2 := 1) (lv2 := [(0, .ref a0), (1, .int a1)]) (st2 := [.ref a0]) hm dX8_readVariable_0 rfl ?_
  replace hf := mx_gd_el hf; obtain ⟨c1, hf⟩ := hf
  replace hf := mx_sv_el hf; obtain ⟨u2, e_u2, hf⟩ := hf
  refine sx_cv hm dX8_readVariable_1 rs_RX8_52 mt_X8_readType [] [] (b := a0) (ci := 8) rfl rfl rfl c1 (Nat.le_of_ble_eq_true rfl) (Nat.le_of_ble_eq_true rfl) (by omega) (by omega) (f_X8_readType_ok X (by omega) (by omega) nn a0 h e_u2) ?_
  clear e_u2
  show mx_S X F L 230 4 [(0, .ref a0), (1, .int a1)] [] u2 0 0 (none, r, 0, 0)
  refine mx_S.pu (pc2 := 5) (lv2 := [(0, .ref a0), (1, .int a1)]) (st2 := [.ref a0]) hm dX8_readVariable_4 rfl ?_
  refine sx_ic (v := 2) hm dX8_readVariable_5 (by decide) ?_
  replace hf := mx_gd_el hf; obtain ⟨c3, hf⟩ := hf
  replace hf := mx_sv_el hf; obtain ⟨u4, e_u4, hf⟩ := hf
  refine sx_cv hm dX8_readVariable_6 rs_RX8_37 mt_X8_need [.int 2] [] (b := a0) (ci := 8) rfl rfl rfl c3 (Nat.le_of_ble_eq_true rfl) (Nat.le_of_ble_eq_true rfl) (by omega) (by omega) (f_X8_need_ok X (by omega) (by omega) nn a0 2 u2 e_u4) ?_
  clear e_u4
  show mx_S X F L 230 9 [(0, .ref a0), (1, .int a1)] [] u4 0 0 (none, r, 0, 0)
  refine mx_S.pu (pc2 := 10) (lv2 := [(0, .ref a0), (1, .int a1)]) (st2 := [.ref a0]) hm dX8_readVariable_9 rfl ?_
  refine sx_bi (v := 51) hm dX8_readVariable_10 (by decide) ?_
  replace hf := mx_gd_el hf; obtain ⟨c5, hf⟩ := hf
  replace hf := mx_sv_el hf; obtain ⟨u6, e_u6, hf⟩ := hf
  refine sx_cv hm dX8_readVariable_12 rs_RX8_37 mt_X8_need [.int 51] [] (b := a0) (ci := 8) rfl rfl rfl c5 (Nat.le_of_ble_eq_true rfl) (Nat.le_of_ble_eq_true rfl) (by omega) (by omega) (f_X8_need_ok X (by omega) (by omega) nn a0 51 u4 e_u6) ?_
  clear e_u6
  show mx_S X F L 230 15 [(0, .ref a0), (1, .int a1)] [] u6 0 0 (none, r, 0, 0)
  refine mx_S.pu (pc2 := 16) (lv2 := [(0, .ref a0), (1, .int a1)]) (st2 := [.ref a0]) hm dX8_readVariable_15 rfl ?_
  refine mx_S.pu (pc2 := 17) (lv2 := [(0, .ref a0), (1, .int a1)]) (st2 := [.int a1, .ref a0]) hm dX8_readVariable_16 rfl ?_
  replace hf := mx_gd_el hf; obtain ⟨c7, hf⟩ := hf
  replace hf := mx_sv_el hf; obtain ⟨u8, e_u8, hf⟩ := hf
  refine sx_cv hm dX8_readVariable_17 rs_RX8_83 mt_X8_readValue [.int a1] [] (b := a0) (ci := 8) rfl rfl rfl c7 (Nat.le_of_ble_eq_true rfl) (Nat.le_of_ble_eq_true rfl) (by omega) (by omega) (f_X8_readValue_ok X (by omega) (by omega) nn a0 a1 u6 e_u8) ?_
  clear e_u8
  show mx_S X F L 230 20 [(0, .ref a0), (1, .int a1)] [] u8 0 0 (none, r, 0, 0)
  cases hf
  exact sx_ret hm dX8_readVariable_20 rfl
def hg_X8_readBlock (X : Nat × (Nat → Int32)) (d : Nat) (rc : tg_X8_readBlock) : Prop := (∀ {F L : Nat}, 265 + d ≤ F → 6087 + d * 22 ≤ L → ∀ (a0 : Nat) (a1 : Int32) (h : mx_H) {r : mx_H}, rc.1 a0 a1 h = some r → mx_R X F L 228 [.ref a0, .int a1] h (none, r, 0, 0)) ∧ (∀ {F L : Nat}, 265 + d ≤ F → 6087 + d * 22 ≤ L → ∀ (a0 : Nat) (a1 : Int32) (h : mx_H) {r : mx_H}, rc.2.1 a0 a1 h = some r → mx_R X F L 229 [.ref a0, .int a1] h (none, r, 0, 0)) ∧ (∀ {F L : Nat}, 265 + d ≤ F → 6087 + d * 22 ≤ L → ∀ (a0 : Nat) (a1 : Int32) (h : mx_H) {r : mx_H}, rc.2.2 a0 a1 h = some r → mx_R X F L 232 [.ref a0, .int a1] h (none, r, 0, 0))
set_option maxHeartbeats 4000000 in
theorem j_X8_readBlock_48_ok (X : Nat × (Nat → Int32)) {F L d : Nat} (hF : 265 + (d + 1) ≤ F) (hL : 6087 + (d + 1) * 22 ≤ L) (nn : Nat) {rc : tg_X8_readBlock} (hrc : hg_X8_readBlock X d rc) (l0 : Nat) (h : mx_H) {r : mx_H} (hf : j_X8_readBlock_48 nn rc l0 h = some r) : mx_S X F L 228 48 [(0, .ref l0)] [] h 0 0 (none, r, 0, 0) := by
  have hm : mx_mt 228 = some (yX8_readBlock, cX8_readBlock, 3, none) := mt_X8_readBlock
  unfold j_X8_readBlock_48 at hf
  refine mx_S.pu (pc2 := 49) (lv2 := [(0, .ref l0)]) (st2 := [.ref l0]) hm dX8_readBlock_48 rfl ?_
  refine sx_bi (v := 43) hm dX8_readBlock_49 (by decide) ?_
  replace hf := mx_gd_el hf; obtain ⟨c1, hf⟩ := hf
  replace hf := mx_sv_el hf; obtain ⟨u2, e_u2, hf⟩ := hf
  refine sx_cv hm dX8_readBlock_51 rs_RX8_37 mt_X8_need [.int 43] [] (b := l0) (ci := 8) rfl rfl rfl c1 (Nat.le_of_ble_eq_true rfl) (Nat.le_of_ble_eq_true rfl) (by omega) (by omega) (f_X8_need_ok X (by omega) (by omega) nn l0 43 h e_u2) ?_
  clear e_u2
  show mx_S X F L 228 54 [(0, .ref l0)] [] u2 0 0 (none, r, 0, 0)
  cases hf
  exact sx_ret hm dX8_readBlock_54 rfl
set_option maxHeartbeats 4000000 in
theorem w_X8_readBlock_8_ok (X : Nat × (Nat → Int32)) {F L d : Nat} (hF : 265 + (d + 1) ≤ F) (hL : 6087 + (d + 1) * 22 ≤ L) (nn : Nat) {rc : tg_X8_readBlock} (hrc : hg_X8_readBlock X d rc) : ∀ (k : Nat) (l0 : Nat) (l1 : Int32) (l2 : Int32) (h : mx_H) (r : mx_H), w_X8_readBlock_8 nn rc k l0 l1 l2 h = some r → mx_S X F L 228 8 [(0, .ref l0), (1, .int l1), (2, .int l2)] [] h 0 0 (none, r, 0, 0) := by
  have hm : mx_mt 228 = some (yX8_readBlock, cX8_readBlock, 3, none) := mt_X8_readBlock
  intro k
  induction k with
  | zero => intro l0 l1 l2 h r hf; cases hf
  | succ k ih =>
    intro l0 l1 l2 h r hf
    unfold w_X8_readBlock_8 at hf
    refine mx_S.pu (pc2 := 9) (lv2 := [(0, .ref l0), (1, .int l1), (2, .int l2)]) (st2 := [.int l2]) hm dX8_readBlock_8 rfl ?_
    refine sx_si (v := 3000) hm dX8_readBlock_9 (by decide) ?_
    rcases mx_if_el hf with ⟨c13, hf⟩ | ⟨c13, hf⟩
    · refine sb_ic_ge hm dX8_readBlock_12 (tgt := 48) rfl (fun _ => ?_) (fun z => absurd c13 z)
      refine mx_S.ext [(0, .ref l0)] (mx_sub_pos [0] rfl (show ([0, 1, 2] : List Nat).Nodup by decide)) ?_
      exact j_X8_readBlock_48_ok X hF hL nn hrc l0 h hf
    · refine sb_ic_ge hm dX8_readBlock_12 (tgt := 48) rfl (fun z => absurd z c13) (fun _ => ?_)
      refine mx_S.pu (pc2 := 16) (lv2 := [(0, .ref l0), (1, .int l1), (2, .int l2)]) (st2 := [.ref l0]) hm dX8_readBlock_15 rfl ?_
      replace hf := mx_sv_el hf; obtain ⟨v3, e_v3, hf⟩ := hf
      refine sx_get hm dX8_readBlock_16 rs_RX8_7 (xgr_el e_v3) ?_
      clear e_v3
      replace hf := mx_sv_el hf; obtain ⟨v4, e_v4, hf⟩ := hf
      refine sx_get hm dX8_readBlock_19 rs_RX8_19 (xgi_el e_v4) ?_
      clear e_v4
      rcases mx_if_el hf with ⟨c12, hf⟩ | ⟨c12, hf⟩
      · refine sb_if_ne hm dX8_readBlock_22 (tgt := 48) rfl (fun _ => ?_) (fun z => absurd c12 z)
        refine mx_S.ext [(0, .ref l0)] (mx_sub_pos [0] rfl (show ([0, 1, 2] : List Nat).Nodup by decide)) ?_
        exact j_X8_readBlock_48_ok X hF hL nn hrc l0 h hf
      · refine sb_if_ne hm dX8_readBlock_22 (tgt := 48) rfl (fun z => absurd z c12) (fun _ => ?_)
        refine mx_S.pu (pc2 := 26) (lv2 := [(0, .ref l0), (1, .int l1), (2, .int l2)]) (st2 := [.ref l0]) hm dX8_readBlock_25 rfl ?_
        replace hf := mx_sv_el hf; obtain ⟨v5, e_v5, hf⟩ := hf
        refine sx_get hm dX8_readBlock_26 rs_RX8_7 (xgr_el e_v5) ?_
        clear e_v5
        replace hf := mx_gd_el hf; obtain ⟨c6, hf⟩ := hf
        replace hf := mx_sv_el hf; obtain ⟨u7, e_u7, hf⟩ := hf
        refine sx_cv hm dX8_readBlock_29 rs_RX8_23 mt_X9_kind [] [] (b := v5) (ci := 9) rfl rfl rfl c6 (Nat.le_of_ble_eq_true rfl) (Nat.le_of_ble_eq_true rfl) (by omega) (by omega) (f_X9_kind_ok X (by omega) (by omega) nn v5 h e_u7) ?_
        clear e_u7
        show mx_S X F L 228 32 [(0, .ref l0), (1, .int l1), (2, .int l2)] [.int u7.1] u7.2 0 0 (none, r, 0, 0)
        refine sx_bi (v := 43) hm dX8_readBlock_32 (by decide) ?_
        rcases mx_if_el hf with ⟨c11, hf⟩ | ⟨c11, hf⟩
        · refine sb_ic_eq hm dX8_readBlock_34 (tgt := 48) rfl (fun _ => ?_) (fun z => absurd c11 z)
          refine mx_S.ext [(0, .ref l0)] (mx_sub_pos [0] rfl (show ([0, 1, 2] : List Nat).Nodup by decide)) ?_
          exact j_X8_readBlock_48_ok X hF hL nn hrc l0 u7.2 hf
        · refine sb_ic_eq hm dX8_readBlock_34 (tgt := 48) rfl (fun z => absurd z c11) (fun _ => ?_)
          refine mx_S.pu (pc2 := 38) (lv2 := [(0, .ref l0), (1, .int l1), (2, .int l2)]) (st2 := [.ref l0]) hm dX8_readBlock_37 rfl ?_
          refine mx_S.pu (pc2 := 39) (lv2 := [(0, .ref l0), (1, .int l1), (2, .int l2)]) (st2 := [.int l1, .ref l0]) hm dX8_readBlock_38 rfl ?_
          replace hf := mx_gd_el hf; obtain ⟨c8, hf⟩ := hf
          replace hf := mx_sv_el hf; obtain ⟨u9, e_u9, hf⟩ := hf
          refine sx_cv hm dX8_readBlock_39 rs_RX8_61 mt_X8_readStatement [.int l1] [] (b := l0) (ci := 8) rfl rfl rfl c8 (Nat.le_of_ble_eq_true rfl) (Nat.le_of_ble_eq_true rfl) (by omega) (by omega) (hrc.2.1 (by omega) (by omega) l0 l1 u7.2 e_u9) ?_
          clear e_u9
          show mx_S X F L 228 42 [(0, .ref l0), (1, .int l1), (2, .int l2)] [] u9 0 0 (none, r, 0, 0)
          replace hf := xl_el hf; obtain ⟨v10, e_v10, hf⟩ := hf
          refine mx_S.pu (pc2 := 45) (lv2 := [(2, .int v10), (0, .ref l0), (1, .int l1)]) (st2 := []) hm dX8_readBlock_42 (by rw [← e_v10]; rfl) ?_
          clear e_v10
          refine mx_S.pu (pc2 := 8) (lv2 := [(2, .int v10), (0, .ref l0), (1, .int l1)]) (st2 := []) hm dX8_readBlock_45 rfl ?_
          refine mx_S.ext [(0, .ref l0), (1, .int l1), (2, .int v10)] (mx_sub_pos [1, 2, 0] rfl (show ([2, 0, 1] : List Nat).Nodup by decide)) ?_
          exact ih l0 l1 v10 u9 _ hf
set_option maxHeartbeats 4000000 in
theorem o_X8_readBlock_ok (X : Nat × (Nat → Int32)) {F L d : Nat} (hF : 265 + (d + 1) ≤ F) (hL : 6087 + (d + 1) * 22 ≤ L) (nn : Nat) {rc : tg_X8_readBlock} (hrc : hg_X8_readBlock X d rc) (a0 : Nat) (a1 : Int32) (h : mx_H) {r : mx_H} (hf : o_X8_readBlock nn rc a0 a1 h = some r) : mx_R X F L 228 [.ref a0, .int a1] h (none, r, 0, 0) := by
  have hm : mx_mt 228 = some (yX8_readBlock, cX8_readBlock, 3, none) := mt_X8_readBlock
  show mx_S X F L 228 0 [(0, .ref a0), (1, .int a1)] [] h 0 0 (none, r, 0, 0)
  unfold o_X8_readBlock at hf
  refine mx_S.pu (pc2 := 1) (lv2 := [(0, .ref a0), (1, .int a1)]) (st2 := [.ref a0]) hm dX8_readBlock_0 rfl ?_
  refine sx_bi (v := 42) hm dX8_readBlock_1 (by decide) ?_
  replace hf := mx_gd_el hf; obtain ⟨c14, hf⟩ := hf
  replace hf := mx_sv_el hf; obtain ⟨u15, e_u15, hf⟩ := hf
  refine sx_cv hm dX8_readBlock_3 rs_RX8_37 mt_X8_need [.int 42] [] (b := a0) (ci := 8) rfl rfl rfl c14 (Nat.le_of_ble_eq_true rfl) (Nat.le_of_ble_eq_true rfl) (by omega) (by omega) (f_X8_need_ok X (by omega) (by omega) nn a0 42 h e_u15) ?_
  clear e_u15
  show mx_S X F L 228 6 [(0, .ref a0), (1, .int a1)] [] u15 0 0 (none, r, 0, 0)
  refine sx_ic (v := 0) hm dX8_readBlock_6 (by decide) ?_
  refine mx_S.pu (pc2 := 8) (lv2 := [(2, .int 0), (0, .ref a0), (1, .int a1)]) (st2 := []) hm dX8_readBlock_7 rfl ?_
  refine mx_S.ext [(0, .ref a0), (1, .int a1), (2, .int 0)] (mx_sub_pos [1, 2, 0] rfl (show ([2, 0, 1] : List Nat).Nodup by decide)) ?_
  exact w_X8_readBlock_8_ok X hF hL nn hrc nn a0 a1 0 u15 _ hf
set_option maxHeartbeats 4000000 in
theorem j_X8_readStatement_157_ok (X : Nat × (Nat → Int32)) {F L d : Nat} (hF : 265 + (d + 1) ≤ F) (hL : 6087 + (d + 1) * 22 ≤ L) (nn : Nat) {rc : tg_X8_readBlock} (hrc : hg_X8_readBlock X d rc) (l0 : Nat) (h : mx_H) {r : mx_H} (hf : j_X8_readStatement_157 nn rc l0 h = some r) : mx_S X F L 229 157 [(0, .ref l0)] [] h 0 0 (none, r, 0, 0) := by
  have hm : mx_mt 229 = some (yX8_readStatement, cX8_readStatement, 2, none) := mt_X8_readStatement
  unfold j_X8_readStatement_157 at hf
  refine mx_S.pu (pc2 := 158) (lv2 := [(0, .ref l0)]) (st2 := [.ref l0]) hm dX8_readStatement_157 rfl ?_
  refine sx_bi (v := 46) hm dX8_readStatement_158 (by decide) ?_
  replace hf := mx_gd_el hf; obtain ⟨c1, hf⟩ := hf
  replace hf := mx_sv_el hf; obtain ⟨u2, e_u2, hf⟩ := hf
  refine sx_cv hm dX8_readStatement_160 rs_RX8_37 mt_X8_need [.int 46] [] (b := l0) (ci := 8) rfl rfl rfl c1 (Nat.le_of_ble_eq_true rfl) (Nat.le_of_ble_eq_true rfl) (by omega) (by omega) (f_X8_need_ok X (by omega) (by omega) nn l0 46 h e_u2) ?_
  clear e_u2
  show mx_S X F L 229 163 [(0, .ref l0)] [] u2 0 0 (none, r, 0, 0)
  cases hf
  exact sx_ret hm dX8_readStatement_163 rfl
set_option maxHeartbeats 4000000 in
theorem o_X8_readStatement_ok (X : Nat × (Nat → Int32)) {F L d : Nat} (hF : 265 + (d + 1) ≤ F) (hL : 6087 + (d + 1) * 22 ≤ L) (nn : Nat) {rc : tg_X8_readBlock} (hrc : hg_X8_readBlock X d rc) (a0 : Nat) (a1 : Int32) (h : mx_H) {r : mx_H} (hf : o_X8_readStatement nn rc a0 a1 h = some r) : mx_R X F L 229 [.ref a0, .int a1] h (none, r, 0, 0) := by
  have hm : mx_mt 229 = some (yX8_readStatement, cX8_readStatement, 2, none) := mt_X8_readStatement
  show mx_S X F L 229 0 [(0, .ref a0), (1, .int a1)] [] h 0 0 (none, r, 0, 0)
  unfold o_X8_readStatement at hf
  refine mx_S.pu (pc2 := 1) (lv2 := [(0, .ref a0), (1, .int a1)]) (st2 := [.ref a0]) hm dX8_readStatement_0 rfl ?_
  refine mx_S.pu (pc2 := 2) (lv2 := [(0, .ref a0), (1, .int a1)]) (st2 := [.int a1, .ref a0]) hm dX8_readStatement_1 rfl ?_
  replace hf := mx_gd_el hf; obtain ⟨c3, hf⟩ := hf
  replace hf := mx_sv_el hf; obtain ⟨u4, e_u4, hf⟩ := hf
  refine sx_cv hm dX8_readStatement_2 rs_RX8_64 mt_X8_tooDeep [.int a1] [] (b := a0) (ci := 8) rfl rfl rfl c3 (Nat.le_of_ble_eq_true rfl) (Nat.le_of_ble_eq_true rfl) (by omega) (by omega) (f_X8_tooDeep_ok X (by omega) (by omega) nn a0 a1 h e_u4) ?_
  clear e_u4
  show mx_S X F L 229 5 [(0, .ref a0), (1, .int a1)] [.int u4.1] u4.2 0 0 (none, r, 0, 0)
  rcases mx_if_el hf with ⟨c42, hf⟩ | ⟨c42, hf⟩
  · refine sb_if_eq hm dX8_readStatement_5 (tgt := 9) rfl (fun _ => ?_) (fun z => absurd c42 z)
    refine mx_S.pu (pc2 := 10) (lv2 := [(0, .ref a0), (1, .int a1)]) (st2 := [.ref a0]) hm dX8_readStatement_9 rfl ?_
    replace hf := mx_sv_el hf; obtain ⟨v5, e_v5, hf⟩ := hf
    refine sx_get hm dX8_readStatement_10 rs_RX8_7 (xgr_el e_v5) ?_
    clear e_v5
    replace hf := mx_gd_el hf; obtain ⟨c6, hf⟩ := hf
    replace hf := mx_sv_el hf; obtain ⟨u7, e_u7, hf⟩ := hf
    refine sx_cv hm dX8_readStatement_13 rs_RX8_23 mt_X9_kind [] [] (b := v5) (ci := 9) rfl rfl rfl c6 (Nat.le_of_ble_eq_true rfl) (Nat.le_of_ble_eq_true rfl) (by omega) (by omega) (f_X9_kind_ok X (by omega) (by omega) nn v5 u4.2 e_u7) ?_
    clear e_u7
    show mx_S X F L 229 16 [(0, .ref a0), (1, .int a1)] [.int u7.1] u7.2 0 0 (none, r, 0, 0)
    rcases mx_if_el hf with ⟨n_0, hf⟩ | ⟨n_0, hf⟩
    · refine sx_look hm dX8_readStatement_16 rfl (off := 54) (by rw [n_0]; rfl) (tgt := 70) rfl ?_
      clear n_0
      refine mx_S.pu (pc2 := 71) (lv2 := [(0, .ref a0), (1, .int a1)]) (st2 := [.ref a0]) hm dX8_readStatement_70 rfl ?_
      refine mx_S.pu (pc2 := 72) (lv2 := [(0, .ref a0), (1, .int a1)]) (st2 := [.int a1, .ref a0]) hm dX8_readStatement_71 rfl ?_
      refine sx_ic (v := 1) hm dX8_readStatement_72 (by decide) ?_
      replace hf := xl_el hf; obtain ⟨v18, e_v18, hf⟩ := hf
      refine mx_S.pu (pc2 := 74) (lv2 := [(0, .ref a0), (1, .int a1)]) (st2 := [.int v18, .ref a0]) hm dX8_readStatement_73 (by rw [← e_v18]; rfl) ?_
      clear e_v18
      replace hf := mx_gd_el hf; obtain ⟨c19, hf⟩ := hf
      replace hf := mx_sv_el hf; obtain ⟨u20, e_u20, hf⟩ := hf
      refine sx_cv hm dX8_readStatement_74 rs_RX8_67 mt_X8_readCondition [.int v18] [] (b := a0) (ci := 8) rfl rfl rfl c19 (Nat.le_of_ble_eq_true rfl) (Nat.le_of_ble_eq_true rfl) (by omega) (by omega) (f_X8_readCondition_ok X (by omega) (by omega) nn a0 v18 u7.2 e_u20) ?_
      clear e_u20
      show mx_S X F L 229 77 [(0, .ref a0), (1, .int a1)] [] u20 0 0 (none, r, 0, 0)
      refine mx_S.pu (pc2 := 78) (lv2 := [(0, .ref a0), (1, .int a1)]) (st2 := [.ref a0]) hm dX8_readStatement_77 rfl ?_
      refine mx_S.pu (pc2 := 79) (lv2 := [(0, .ref a0), (1, .int a1)]) (st2 := [.int a1, .ref a0]) hm dX8_readStatement_78 rfl ?_
      refine sx_ic (v := 1) hm dX8_readStatement_79 (by decide) ?_
      replace hf := xl_el hf; obtain ⟨v21, e_v21, hf⟩ := hf
      refine mx_S.pu (pc2 := 81) (lv2 := [(0, .ref a0), (1, .int a1)]) (st2 := [.int v21, .ref a0]) hm dX8_readStatement_80 (by rw [← e_v21]; rfl) ?_
      clear e_v21
      replace hf := mx_gd_el hf; obtain ⟨c22, hf⟩ := hf
      replace hf := mx_sv_el hf; obtain ⟨u23, e_u23, hf⟩ := hf
      refine sx_cv hm dX8_readStatement_81 rs_RX8_61 mt_X8_readStatement [.int v21] [] (b := a0) (ci := 8) rfl rfl rfl c22 (Nat.le_of_ble_eq_true rfl) (Nat.le_of_ble_eq_true rfl) (by omega) (by omega) (hrc.2.1 (by omega) (by omega) a0 v21 u20 e_u23) ?_
      clear e_u23
      show mx_S X F L 229 84 [(0, .ref a0), (1, .int a1)] [] u23 0 0 (none, r, 0, 0)
      refine mx_S.pu (pc2 := 85) (lv2 := [(0, .ref a0), (1, .int a1)]) (st2 := [.ref a0]) hm dX8_readStatement_84 rfl ?_
      refine sx_bi (v := 15) hm dX8_readStatement_85 (by decide) ?_
      replace hf := mx_gd_el hf; obtain ⟨c24, hf⟩ := hf
      replace hf := mx_sv_el hf; obtain ⟨u25, e_u25, hf⟩ := hf
      refine sx_cv hm dX8_readStatement_87 rs_RX8_45 mt_X8_accept [.int 15] [] (b := a0) (ci := 8) rfl rfl rfl c24 (Nat.le_of_ble_eq_true rfl) (Nat.le_of_ble_eq_true rfl) (by omega) (by omega) (f_X8_accept_ok X (by omega) (by omega) nn a0 15 u23 e_u25) ?_
      clear e_u25
      show mx_S X F L 229 90 [(0, .ref a0), (1, .int a1)] [.int u25.1] u25.2 0 0 (none, r, 0, 0)
      rcases mx_if_el hf with ⟨c29, hf⟩ | ⟨c29, hf⟩
      · refine sb_if_eq hm dX8_readStatement_90 (tgt := 163) rfl (fun _ => ?_) (fun z => absurd c29 z)
        cases hf
        exact sx_ret hm dX8_readStatement_163 rfl
      · refine sb_if_eq hm dX8_readStatement_90 (tgt := 163) rfl (fun z => absurd z c29) (fun _ => ?_)
        refine mx_S.pu (pc2 := 94) (lv2 := [(0, .ref a0), (1, .int a1)]) (st2 := [.ref a0]) hm dX8_readStatement_93 rfl ?_
        refine mx_S.pu (pc2 := 95) (lv2 := [(0, .ref a0), (1, .int a1)]) (st2 := [.int a1, .ref a0]) hm dX8_readStatement_94 rfl ?_
        refine sx_ic (v := 1) hm dX8_readStatement_95 (by decide) ?_
        replace hf := xl_el hf; obtain ⟨v26, e_v26, hf⟩ := hf
        refine mx_S.pu (pc2 := 97) (lv2 := [(0, .ref a0), (1, .int a1)]) (st2 := [.int v26, .ref a0]) hm dX8_readStatement_96 (by rw [← e_v26]; rfl) ?_
        clear e_v26
        replace hf := mx_gd_el hf; obtain ⟨c27, hf⟩ := hf
        replace hf := mx_sv_el hf; obtain ⟨u28, e_u28, hf⟩ := hf
        refine sx_cv hm dX8_readStatement_97 rs_RX8_61 mt_X8_readStatement [.int v26] [] (b := a0) (ci := 8) rfl rfl rfl c27 (Nat.le_of_ble_eq_true rfl) (Nat.le_of_ble_eq_true rfl) (by omega) (by omega) (hrc.2.1 (by omega) (by omega) a0 v26 u25.2 e_u28) ?_
        clear e_u28
        show mx_S X F L 229 100 [(0, .ref a0), (1, .int a1)] [] u28 0 0 (none, r, 0, 0)
        refine mx_S.pu (pc2 := 163) (lv2 := [(0, .ref a0), (1, .int a1)]) (st2 := []) hm dX8_readStatement_100 rfl ?_
        cases hf
        exact sx_ret hm dX8_readStatement_163 rfl
    · rcases mx_if_el hf with ⟨n_1, hf⟩ | ⟨n_1, hf⟩
      · refine sx_look hm dX8_readStatement_16 rfl (off := 104) (by rw [n_1]; rfl) (tgt := 120) rfl ?_
        clear n_0 n_1
        refine mx_S.pu (pc2 := 121) (lv2 := [(0, .ref a0), (1, .int a1)]) (st2 := [.ref a0]) hm dX8_readStatement_120 rfl ?_
        refine mx_S.pu (pc2 := 122) (lv2 := [(0, .ref a0), (1, .int a1)]) (st2 := [.int a1, .ref a0]) hm dX8_readStatement_121 rfl ?_
        refine sx_ic (v := 1) hm dX8_readStatement_122 (by decide) ?_
        replace hf := xl_el hf; obtain ⟨v30, e_v30, hf⟩ := hf
        refine mx_S.pu (pc2 := 124) (lv2 := [(0, .ref a0), (1, .int a1)]) (st2 := [.int v30, .ref a0]) hm dX8_readStatement_123 (by rw [← e_v30]; rfl) ?_
        clear e_v30
        replace hf := mx_gd_el hf; obtain ⟨c31, hf⟩ := hf
        replace hf := mx_sv_el hf; obtain ⟨u32, e_u32, hf⟩ := hf
        refine sx_cv hm dX8_readStatement_124 rs_RX8_70 mt_X8_readTry [.int v30] [] (b := a0) (ci := 8) rfl rfl rfl c31 (Nat.le_of_ble_eq_true rfl) (Nat.le_of_ble_eq_true rfl) (by omega) (by omega) (hrc.2.2 (by omega) (by omega) a0 v30 u7.2 e_u32) ?_
        clear e_u32
        show mx_S X F L 229 127 [(0, .ref a0), (1, .int a1)] [] u32 0 0 (none, r, 0, 0)
        refine mx_S.pu (pc2 := 163) (lv2 := [(0, .ref a0), (1, .int a1)]) (st2 := []) hm dX8_readStatement_127 rfl ?_
        cases hf
        exact sx_ret hm dX8_readStatement_163 rfl
      · rcases mx_if_el hf with ⟨n_2, hf⟩ | ⟨n_2, hf⟩
        · refine sx_look hm dX8_readStatement_16 rfl (off := 87) (by rw [n_2]; rfl) (tgt := 103) rfl ?_
          clear n_0 n_1 n_2
          refine mx_S.pu (pc2 := 104) (lv2 := [(0, .ref a0), (1, .int a1)]) (st2 := [.ref a0]) hm dX8_readStatement_103 rfl ?_
          refine mx_S.pu (pc2 := 105) (lv2 := [(0, .ref a0), (1, .int a1)]) (st2 := [.int a1, .ref a0]) hm dX8_readStatement_104 rfl ?_
          refine sx_ic (v := 1) hm dX8_readStatement_105 (by decide) ?_
          replace hf := xl_el hf; obtain ⟨v33, e_v33, hf⟩ := hf
          refine mx_S.pu (pc2 := 107) (lv2 := [(0, .ref a0), (1, .int a1)]) (st2 := [.int v33, .ref a0]) hm dX8_readStatement_106 (by rw [← e_v33]; rfl) ?_
          clear e_v33
          replace hf := mx_gd_el hf; obtain ⟨c34, hf⟩ := hf
          replace hf := mx_sv_el hf; obtain ⟨u35, e_u35, hf⟩ := hf
          refine sx_cv hm dX8_readStatement_107 rs_RX8_67 mt_X8_readCondition [.int v33] [] (b := a0) (ci := 8) rfl rfl rfl c34 (Nat.le_of_ble_eq_true rfl) (Nat.le_of_ble_eq_true rfl) (by omega) (by omega) (f_X8_readCondition_ok X (by omega) (by omega) nn a0 v33 u7.2 e_u35) ?_
          clear e_u35
          show mx_S X F L 229 110 [(0, .ref a0), (1, .int a1)] [] u35 0 0 (none, r, 0, 0)
          refine mx_S.pu (pc2 := 111) (lv2 := [(0, .ref a0), (1, .int a1)]) (st2 := [.ref a0]) hm dX8_readStatement_110 rfl ?_
          refine mx_S.pu (pc2 := 112) (lv2 := [(0, .ref a0), (1, .int a1)]) (st2 := [.int a1, .ref a0]) hm dX8_readStatement_111 rfl ?_
          refine sx_ic (v := 1) hm dX8_readStatement_112 (by decide) ?_
          replace hf := xl_el hf; obtain ⟨v36, e_v36, hf⟩ := hf
          refine mx_S.pu (pc2 := 114) (lv2 := [(0, .ref a0), (1, .int a1)]) (st2 := [.int v36, .ref a0]) hm dX8_readStatement_113 (by rw [← e_v36]; rfl) ?_
          clear e_v36
          replace hf := mx_gd_el hf; obtain ⟨c37, hf⟩ := hf
          replace hf := mx_sv_el hf; obtain ⟨u38, e_u38, hf⟩ := hf
          refine sx_cv hm dX8_readStatement_114 rs_RX8_61 mt_X8_readStatement [.int v36] [] (b := a0) (ci := 8) rfl rfl rfl c37 (Nat.le_of_ble_eq_true rfl) (Nat.le_of_ble_eq_true rfl) (by omega) (by omega) (hrc.2.1 (by omega) (by omega) a0 v36 u35 e_u38) ?_
          clear e_u38
          show mx_S X F L 229 117 [(0, .ref a0), (1, .int a1)] [] u38 0 0 (none, r, 0, 0)
          refine mx_S.pu (pc2 := 163) (lv2 := [(0, .ref a0), (1, .int a1)]) (st2 := []) hm dX8_readStatement_117 rfl ?_
          cases hf
          exact sx_ret hm dX8_readStatement_163 rfl
        · rcases mx_if_el hf with ⟨n_3, hf⟩ | ⟨n_3, hf⟩
          · refine sx_look hm dX8_readStatement_16 rfl (off := 44) (by rw [n_3]; rfl) (tgt := 60) rfl ?_
            clear n_0 n_1 n_2 n_3
            refine mx_S.pu (pc2 := 61) (lv2 := [(0, .ref a0), (1, .int a1)]) (st2 := [.ref a0]) hm dX8_readStatement_60 rfl ?_
            refine mx_S.pu (pc2 := 62) (lv2 := [(0, .ref a0), (1, .int a1)]) (st2 := [.int a1, .ref a0]) hm dX8_readStatement_61 rfl ?_
            refine sx_ic (v := 1) hm dX8_readStatement_62 (by decide) ?_
            replace hf := xl_el hf; obtain ⟨v39, e_v39, hf⟩ := hf
            refine mx_S.pu (pc2 := 64) (lv2 := [(0, .ref a0), (1, .int a1)]) (st2 := [.int v39, .ref a0]) hm dX8_readStatement_63 (by rw [← e_v39]; rfl) ?_
            clear e_v39
            replace hf := mx_gd_el hf; obtain ⟨c40, hf⟩ := hf
            replace hf := mx_sv_el hf; obtain ⟨u41, e_u41, hf⟩ := hf
            refine sx_cv hm dX8_readStatement_64 rs_RX8_58 mt_X8_readBlock [.int v39] [] (b := a0) (ci := 8) rfl rfl rfl c40 (Nat.le_of_ble_eq_true rfl) (Nat.le_of_ble_eq_true rfl) (by omega) (by omega) (hrc.1 (by omega) (by omega) a0 v39 u7.2 e_u41) ?_
            clear e_u41
            show mx_S X F L 229 67 [(0, .ref a0), (1, .int a1)] [] u41 0 0 (none, r, 0, 0)
            refine mx_S.pu (pc2 := 163) (lv2 := [(0, .ref a0), (1, .int a1)]) (st2 := []) hm dX8_readStatement_67 rfl ?_
            cases hf
            exact sx_ret hm dX8_readStatement_163 rfl
          · refine sx_look hm dX8_readStatement_16 rfl (off := 114) (by show Op.lookupswitch.offset [(18, 54), (29, 104), (31, 87), (42, 44)] 114 u7.1.toInt = _; rw [lv_osw n_0 (by decide), lv_osw n_1 (by decide), lv_osw n_2 (by decide), lv_osw n_3 (by decide)]; rfl) (tgt := 130) rfl ?_
            refine mx_S.pu (pc2 := 131) (lv2 := [(0, .ref a0), (1, .int a1)]) (st2 := [.ref a0]) hm dX8_readStatement_130 rfl ?_
            replace hf := mx_sv_el hf; obtain ⟨v8, e_v8, hf⟩ := hf
            refine sx_get hm dX8_readStatement_131 rs_RX8_7 (xgr_el e_v8) ?_
            clear e_v8
            replace hf := mx_gd_el hf; obtain ⟨c9, hf⟩ := hf
            replace hf := mx_sv_el hf; obtain ⟨u10, e_u10, hf⟩ := hf
            refine sx_cv hm dX8_readStatement_134 rs_RX8_73 mt_X9_beginsVariable [] [] (b := v8) (ci := 9) rfl rfl rfl c9 (Nat.le_of_ble_eq_true rfl) (Nat.le_of_ble_eq_true rfl) (by omega) (by omega) (f_X9_beginsVariable_ok X (by omega) (by omega) nn v8 u7.2 e_u10) ?_
            clear e_u10
            show mx_S X F L 229 137 [(0, .ref a0), (1, .int a1)] [.int u10.1] u10.2 0 0 (none, r, 0, 0)
            rcases mx_if_el hf with ⟨c17, hf⟩ | ⟨c17, hf⟩
            · refine sb_if_eq hm dX8_readStatement_137 (tgt := 150) rfl (fun _ => ?_) (fun z => absurd c17 z)
              refine mx_S.pu (pc2 := 151) (lv2 := [(0, .ref a0), (1, .int a1)]) (st2 := [.ref a0]) hm dX8_readStatement_150 rfl ?_
              refine mx_S.pu (pc2 := 152) (lv2 := [(0, .ref a0), (1, .int a1)]) (st2 := [.int a1, .ref a0]) hm dX8_readStatement_151 rfl ?_
              refine sx_ic (v := 1) hm dX8_readStatement_152 (by decide) ?_
              replace hf := xl_el hf; obtain ⟨v11, e_v11, hf⟩ := hf
              refine mx_S.pu (pc2 := 154) (lv2 := [(0, .ref a0), (1, .int a1)]) (st2 := [.int v11, .ref a0]) hm dX8_readStatement_153 (by rw [← e_v11]; rfl) ?_
              clear e_v11
              replace hf := mx_gd_el hf; obtain ⟨c12, hf⟩ := hf
              replace hf := mx_sv_el hf; obtain ⟨u13, e_u13, hf⟩ := hf
              refine sx_cv hm dX8_readStatement_154 rs_RX8_80 mt_X8_readPlain [.int v11] [] (b := a0) (ci := 8) rfl rfl rfl c12 (Nat.le_of_ble_eq_true rfl) (Nat.le_of_ble_eq_true rfl) (by omega) (by omega) (f_X8_readPlain_ok X (by omega) (by omega) nn a0 v11 u10.2 e_u13) ?_
              clear e_u13
              show mx_S X F L 229 157 [(0, .ref a0), (1, .int a1)] [] u13 0 0 (none, r, 0, 0)
              refine mx_S.ext [(0, .ref a0)] (mx_sub_pos [0] rfl (show ([0, 1] : List Nat).Nodup by decide)) ?_
              exact j_X8_readStatement_157_ok X hF hL nn hrc a0 u13 hf
            · refine sb_if_eq hm dX8_readStatement_137 (tgt := 150) rfl (fun z => absurd z c17) (fun _ => ?_)
              refine mx_S.pu (pc2 := 141) (lv2 := [(0, .ref a0), (1, .int a1)]) (st2 := [.ref a0]) hm dX8_readStatement_140 rfl ?_
              refine mx_S.pu (pc2 := 142) (lv2 := [(0, .ref a0), (1, .int a1)]) (st2 := [.int a1, .ref a0]) hm dX8_readStatement_141 rfl ?_
              refine sx_ic (v := 1) hm dX8_readStatement_142 (by decide) ?_
              replace hf := xl_el hf; obtain ⟨v14, e_v14, hf⟩ := hf
              refine mx_S.pu (pc2 := 144) (lv2 := [(0, .ref a0), (1, .int a1)]) (st2 := [.int v14, .ref a0]) hm dX8_readStatement_143 (by rw [← e_v14]; rfl) ?_
              clear e_v14
              replace hf := mx_gd_el hf; obtain ⟨c15, hf⟩ := hf
              replace hf := mx_sv_el hf; obtain ⟨u16, e_u16, hf⟩ := hf
              refine sx_cv hm dX8_readStatement_144 rs_RX8_77 mt_X8_readVariable [.int v14] [] (b := a0) (ci := 8) rfl rfl rfl c15 (Nat.le_of_ble_eq_true rfl) (Nat.le_of_ble_eq_true rfl) (by omega) (by omega) (f_X8_readVariable_ok X (by omega) (by omega) nn a0 v14 u10.2 e_u16) ?_
              clear e_u16
              show mx_S X F L 229 147 [(0, .ref a0), (1, .int a1)] [] u16 0 0 (none, r, 0, 0)
              refine mx_S.pu (pc2 := 157) (lv2 := [(0, .ref a0), (1, .int a1)]) (st2 := []) hm dX8_readStatement_147 rfl ?_
              refine mx_S.ext [(0, .ref a0)] (mx_sub_pos [0] rfl (show ([0, 1] : List Nat).Nodup by decide)) ?_
              exact j_X8_readStatement_157_ok X hF hL nn hrc a0 u16 hf
  · refine sb_if_eq hm dX8_readStatement_5 (tgt := 9) rfl (fun z => absurd z c42) (fun _ => ?_)
    cases hf
    exact sx_ret hm dX8_readStatement_8 rfl
set_option maxHeartbeats 4000000 in
theorem o_X8_readTry_ok (X : Nat × (Nat → Int32)) {F L d : Nat} (hF : 265 + (d + 1) ≤ F) (hL : 6087 + (d + 1) * 22 ≤ L) (nn : Nat) {rc : tg_X8_readBlock} (hrc : hg_X8_readBlock X d rc) (a0 : Nat) (a1 : Int32) (h : mx_H) {r : mx_H} (hf : o_X8_readTry nn rc a0 a1 h = some r) : mx_R X F L 232 [.ref a0, .int a1] h (none, r, 0, 0) := by
  have hm : mx_mt 232 = some (yX8_readTry, cX8_readTry, 2, none) := mt_X8_readTry
  show mx_S X F L 232 0 [(0, .ref a0), (1, .int a1)] [] h 0 0 (none, r, 0, 0)
  unfold o_X8_readTry at hf
  refine mx_S.pu (pc2 := 1) (lv2 := [(0, .ref a0), (1, .int a1)]) (st2 := [.ref a0]) hm dX8_readTry_0 rfl ?_
  replace hf := mx_sv_el hf; obtain ⟨v1, e_v1, hf⟩ := hf
  refine sx_get hm dX8_readTry_1 rs_RX8_7 (xgr_el e_v1) ?_
  clear e_v1
  refine mx_S.pu (pc2 := 5) (lv2 := [(0, .ref a0), (1, .int a1)]) (st2 := [.ref v1, .ref v1]) hm dX8_readTry_4 rfl ?_
  replace hf := mx_sv_el hf; obtain ⟨v2, e_v2, hf⟩ := hf
  refine sx_get hm dX8_readTry_5 rs_RX8_30 (xgi_el e_v2) ?_
  clear e_v2
  refine sx_ic (v := 1) hm dX8_readTry_8 (by decide) ?_
  replace hf := xl_el hf; obtain ⟨v3, e_v3, hf⟩ := hf
  refine mx_S.pu (pc2 := 10) (lv2 := [(0, .ref a0), (1, .int a1)]) (st2 := [.int v3, .ref v1]) hm dX8_readTry_9 (by rw [← e_v3]; rfl) ?_
  clear e_v3
  replace hf := mx_sv_el hf; obtain ⟨h4, e_h4, hf⟩ := hf
  refine sx_put hm dX8_readTry_10 rs_RX8_30 ft_9_10 ⟨rfl, rfl⟩ (fun z => by cases z) e_h4 ?_
  clear e_h4
  refine mx_S.pu (pc2 := 14) (lv2 := [(0, .ref a0), (1, .int a1)]) (st2 := [.ref a0]) hm dX8_readTry_13 rfl ?_
  refine mx_S.pu (pc2 := 15) (lv2 := [(0, .ref a0), (1, .int a1)]) (st2 := [.int a1, .ref a0]) hm dX8_readTry_14 rfl ?_
  replace hf := mx_gd_el hf; obtain ⟨c5, hf⟩ := hf
  replace hf := mx_sv_el hf; obtain ⟨u6, e_u6, hf⟩ := hf
  refine sx_cv hm dX8_readTry_15 rs_RX8_58 mt_X8_readBlock [.int a1] [] (b := a0) (ci := 8) rfl rfl rfl c5 (Nat.le_of_ble_eq_true rfl) (Nat.le_of_ble_eq_true rfl) (by omega) (by omega) (hrc.1 (by omega) (by omega) a0 a1 h4 e_u6) ?_
  clear e_u6
  show mx_S X F L 232 18 [(0, .ref a0), (1, .int a1)] [] u6 0 0 (none, r, 0, 0)
  refine mx_S.pu (pc2 := 19) (lv2 := [(0, .ref a0), (1, .int a1)]) (st2 := [.ref a0]) hm dX8_readTry_18 rfl ?_
  refine sx_bi (v := 12) hm dX8_readTry_19 (by decide) ?_
  replace hf := mx_gd_el hf; obtain ⟨c7, hf⟩ := hf
  replace hf := mx_sv_el hf; obtain ⟨u8, e_u8, hf⟩ := hf
  refine sx_cv hm dX8_readTry_21 rs_RX8_37 mt_X8_need [.int 12] [] (b := a0) (ci := 8) rfl rfl rfl c7 (Nat.le_of_ble_eq_true rfl) (Nat.le_of_ble_eq_true rfl) (by omega) (by omega) (f_X8_need_ok X (by omega) (by omega) nn a0 12 u6 e_u8) ?_
  clear e_u8
  show mx_S X F L 232 24 [(0, .ref a0), (1, .int a1)] [] u8 0 0 (none, r, 0, 0)
  refine mx_S.pu (pc2 := 25) (lv2 := [(0, .ref a0), (1, .int a1)]) (st2 := [.ref a0]) hm dX8_readTry_24 rfl ?_
  refine sx_bi (v := 40) hm dX8_readTry_25 (by decide) ?_
  replace hf := mx_gd_el hf; obtain ⟨c9, hf⟩ := hf
  replace hf := mx_sv_el hf; obtain ⟨u10, e_u10, hf⟩ := hf
  refine sx_cv hm dX8_readTry_27 rs_RX8_37 mt_X8_need [.int 40] [] (b := a0) (ci := 8) rfl rfl rfl c9 (Nat.le_of_ble_eq_true rfl) (Nat.le_of_ble_eq_true rfl) (by omega) (by omega) (f_X8_need_ok X (by omega) (by omega) nn a0 40 u8 e_u10) ?_
  clear e_u10
  show mx_S X F L 232 30 [(0, .ref a0), (1, .int a1)] [] u10 0 0 (none, r, 0, 0)
  refine mx_S.pu (pc2 := 31) (lv2 := [(0, .ref a0), (1, .int a1)]) (st2 := [.ref a0]) hm dX8_readTry_30 rfl ?_
  refine sx_ic (v := 2) hm dX8_readTry_31 (by decide) ?_
  replace hf := mx_gd_el hf; obtain ⟨c11, hf⟩ := hf
  replace hf := mx_sv_el hf; obtain ⟨u12, e_u12, hf⟩ := hf
  refine sx_cv hm dX8_readTry_32 rs_RX8_37 mt_X8_need [.int 2] [] (b := a0) (ci := 8) rfl rfl rfl c11 (Nat.le_of_ble_eq_true rfl) (Nat.le_of_ble_eq_true rfl) (by omega) (by omega) (f_X8_need_ok X (by omega) (by omega) nn a0 2 u10 e_u12) ?_
  clear e_u12
  show mx_S X F L 232 35 [(0, .ref a0), (1, .int a1)] [] u12 0 0 (none, r, 0, 0)
  refine mx_S.pu (pc2 := 36) (lv2 := [(0, .ref a0), (1, .int a1)]) (st2 := [.ref a0]) hm dX8_readTry_35 rfl ?_
  refine sx_ic (v := 2) hm dX8_readTry_36 (by decide) ?_
  replace hf := mx_gd_el hf; obtain ⟨c13, hf⟩ := hf
  replace hf := mx_sv_el hf; obtain ⟨u14, e_u14, hf⟩ := hf
  refine sx_cv hm dX8_readTry_37 rs_RX8_37 mt_X8_need [.int 2] [] (b := a0) (ci := 8) rfl rfl rfl c13 (Nat.le_of_ble_eq_true rfl) (Nat.le_of_ble_eq_true rfl) (by omega) (by omega) (f_X8_need_ok X (by omega) (by omega) nn a0 2 u12 e_u14) ?_
  clear e_u14
  show mx_S X F L 232 40 [(0, .ref a0), (1, .int a1)] [] u14 0 0 (none, r, 0, 0)
  refine mx_S.pu (pc2 := 41) (lv2 := [(0, .ref a0), (1, .int a1)]) (st2 := [.ref a0]) hm dX8_readTry_40 rfl ?_
  refine sx_bi (v := 41) hm dX8_readTry_41 (by decide) ?_
  replace hf := mx_gd_el hf; obtain ⟨c15, hf⟩ := hf
  replace hf := mx_sv_el hf; obtain ⟨u16, e_u16, hf⟩ := hf
  refine sx_cv hm dX8_readTry_43 rs_RX8_37 mt_X8_need [.int 41] [] (b := a0) (ci := 8) rfl rfl rfl c15 (Nat.le_of_ble_eq_true rfl) (Nat.le_of_ble_eq_true rfl) (by omega) (by omega) (f_X8_need_ok X (by omega) (by omega) nn a0 41 u14 e_u16) ?_
  clear e_u16
  show mx_S X F L 232 46 [(0, .ref a0), (1, .int a1)] [] u16 0 0 (none, r, 0, 0)
  refine mx_S.pu (pc2 := 47) (lv2 := [(0, .ref a0), (1, .int a1)]) (st2 := [.ref a0]) hm dX8_readTry_46 rfl ?_
  refine mx_S.pu (pc2 := 48) (lv2 := [(0, .ref a0), (1, .int a1)]) (st2 := [.int a1, .ref a0]) hm dX8_readTry_47 rfl ?_
  replace hf := mx_gd_el hf; obtain ⟨c17, hf⟩ := hf
  replace hf := mx_sv_el hf; obtain ⟨u18, e_u18, hf⟩ := hf
  refine sx_cv hm dX8_readTry_48 rs_RX8_58 mt_X8_readBlock [.int a1] [] (b := a0) (ci := 8) rfl rfl rfl c17 (Nat.le_of_ble_eq_true rfl) (Nat.le_of_ble_eq_true rfl) (by omega) (by omega) (hrc.1 (by omega) (by omega) a0 a1 u16 e_u18) ?_
  clear e_u18
  show mx_S X F L 232 51 [(0, .ref a0), (1, .int a1)] [] u18 0 0 (none, r, 0, 0)
  cases hf
  exact sx_ret hm dX8_readTry_51 rfl
theorem g_X8_readBlock_ok (X : Nat × (Nat → Int32)) (nn : Nat) : ∀ d, hg_X8_readBlock X d (g_X8_readBlock nn d) := by
  intro d
  induction d with
  | zero => exact ⟨(fun {F L} _ _ a0 a1 h {r} hf => by cases hf), (fun {F L} _ _ a0 a1 h {r} hf => by cases hf), (fun {F L} _ _ a0 a1 h {r} hf => by cases hf)⟩
  | succ d ih => exact ⟨(fun {F L} hF hL a0 a1 h {r} hf => o_X8_readBlock_ok X hF hL nn ih a0 a1 h hf), (fun {F L} hF hL a0 a1 h {r} hf => o_X8_readStatement_ok X hF hL nn ih a0 a1 h hf), (fun {F L} hF hL a0 a1 h {r} hf => o_X8_readTry_ok X hF hL nn ih a0 a1 h hf)⟩
theorem f_X8_readBlock_ok (X : Nat × (Nat → Int32)) {F L : Nat} (hF : 415 ≤ F) (hL : 9387 ≤ L) (nn : Nat) (a0 : Nat) (a1 : Int32) (h : mx_H) {r : mx_H} (hf : f_X8_readBlock nn a0 a1 h = some r) : mx_R X F L 228 [.ref a0, .int a1] h (none, r, 0, 0) := (g_X8_readBlock_ok X nn 150).1 (by omega) (by omega) a0 a1 h hf
theorem f_X8_readStatement_ok (X : Nat × (Nat → Int32)) {F L : Nat} (hF : 415 ≤ F) (hL : 9387 ≤ L) (nn : Nat) (a0 : Nat) (a1 : Int32) (h : mx_H) {r : mx_H} (hf : f_X8_readStatement nn a0 a1 h = some r) : mx_R X F L 229 [.ref a0, .int a1] h (none, r, 0, 0) := (g_X8_readBlock_ok X nn 150).2.1 (by omega) (by omega) a0 a1 h hf
theorem f_X8_readTry_ok (X : Nat × (Nat → Int32)) {F L : Nat} (hF : 415 ≤ F) (hL : 9387 ≤ L) (nn : Nat) (a0 : Nat) (a1 : Int32) (h : mx_H) {r : mx_H} (hf : f_X8_readTry nn a0 a1 h = some r) : mx_R X F L 232 [.ref a0, .int a1] h (none, r, 0, 0) := (g_X8_readBlock_ok X nn 150).2.2 (by omega) (by omega) a0 a1 h hf
set_option maxHeartbeats 4000000 in
theorem w_X8_readParameters_4_ok (X : Nat × (Nat → Int32)) {F L : Nat} (hF : 3 ≤ F) (hL : 62 ≤ L) (nn : Nat) : ∀ (k : Nat) (l0 : Nat) (l1 : Int32) (l2 : Int32) (h : mx_H) (r : mx_H), w_X8_readParameters_4 nn k l0 l1 l2 h = some r → mx_S X F L 226 4 [(0, .ref l0), (1, .int l1), (2, .int l2)] [] h 0 0 (none, r, 0, 0) := by
  have hm : mx_mt 226 = some (yX8_readParameters, cX8_readParameters, 3, none) := mt_X8_readParameters
  intro k
  induction k with
  | zero => intro l0 l1 l2 h r hf; cases hf
  | succ k ih =>
    intro l0 l1 l2 h r hf
    unfold w_X8_readParameters_4 at hf
    refine mx_S.pu (pc2 := 5) (lv2 := [(0, .ref l0), (1, .int l1), (2, .int l2)]) (st2 := [.int l2]) hm dX8_readParameters_4 rfl ?_
    refine sx_si (v := 3000) hm dX8_readParameters_5 (by decide) ?_
    rcases mx_if_el hf with ⟨c9, hf⟩ | ⟨c9, hf⟩
    · refine sb_ic_ge hm dX8_readParameters_8 (tgt := 37) rfl (fun _ => ?_) (fun z => absurd c9 z)
      cases hf
      exact sx_ret hm dX8_readParameters_37 rfl
    · refine sb_ic_ge hm dX8_readParameters_8 (tgt := 37) rfl (fun z => absurd z c9) (fun _ => ?_)
      refine mx_S.pu (pc2 := 12) (lv2 := [(0, .ref l0), (1, .int l1), (2, .int l2)]) (st2 := [.int l1]) hm dX8_readParameters_11 rfl ?_
      rcases mx_if_el hf with ⟨c8, hf⟩ | ⟨c8, hf⟩
      · refine sb_if_eq hm dX8_readParameters_12 (tgt := 37) rfl (fun _ => ?_) (fun z => absurd c8 z)
        cases hf
        exact sx_ret hm dX8_readParameters_37 rfl
      · refine sb_if_eq hm dX8_readParameters_12 (tgt := 37) rfl (fun z => absurd z c8) (fun _ => ?_)
        refine mx_S.pu (pc2 := 16) (lv2 := [(0, .ref l0), (1, .int l1), (2, .int l2)]) (st2 := [.ref l0]) hm dX8_readParameters_15 rfl ?_
        replace hf := mx_gd_el hf; obtain ⟨c1, hf⟩ := hf
        replace hf := mx_sv_el hf; obtain ⟨u2, e_u2, hf⟩ := hf
        refine sx_cv hm dX8_readParameters_16 rs_RX8_52 mt_X8_readType [] [] (b := l0) (ci := 8) rfl rfl rfl c1 (Nat.le_of_ble_eq_true rfl) (Nat.le_of_ble_eq_true rfl) (by omega) (by omega) (f_X8_readType_ok X (by omega) (by omega) nn l0 h e_u2) ?_
        clear e_u2
        show mx_S X F L 226 19 [(0, .ref l0), (1, .int l1), (2, .int l2)] [] u2 0 0 (none, r, 0, 0)
        refine mx_S.pu (pc2 := 20) (lv2 := [(0, .ref l0), (1, .int l1), (2, .int l2)]) (st2 := [.ref l0]) hm dX8_readParameters_19 rfl ?_
        refine sx_ic (v := 2) hm dX8_readParameters_20 (by decide) ?_
        replace hf := mx_gd_el hf; obtain ⟨c3, hf⟩ := hf
        replace hf := mx_sv_el hf; obtain ⟨u4, e_u4, hf⟩ := hf
        refine sx_cv hm dX8_readParameters_21 rs_RX8_37 mt_X8_need [.int 2] [] (b := l0) (ci := 8) rfl rfl rfl c3 (Nat.le_of_ble_eq_true rfl) (Nat.le_of_ble_eq_true rfl) (by omega) (by omega) (f_X8_need_ok X (by omega) (by omega) nn l0 2 u2 e_u4) ?_
        clear e_u4
        show mx_S X F L 226 24 [(0, .ref l0), (1, .int l1), (2, .int l2)] [] u4 0 0 (none, r, 0, 0)
        refine mx_S.pu (pc2 := 25) (lv2 := [(0, .ref l0), (1, .int l1), (2, .int l2)]) (st2 := [.ref l0]) hm dX8_readParameters_24 rfl ?_
        refine sx_bi (v := 47) hm dX8_readParameters_25 (by decide) ?_
        replace hf := mx_gd_el hf; obtain ⟨c5, hf⟩ := hf
        replace hf := mx_sv_el hf; obtain ⟨u6, e_u6, hf⟩ := hf
        refine sx_cv hm dX8_readParameters_27 rs_RX8_45 mt_X8_accept [.int 47] [] (b := l0) (ci := 8) rfl rfl rfl c5 (Nat.le_of_ble_eq_true rfl) (Nat.le_of_ble_eq_true rfl) (by omega) (by omega) (f_X8_accept_ok X (by omega) (by omega) nn l0 47 u4 e_u6) ?_
        clear e_u6
        show mx_S X F L 226 30 [(0, .ref l0), (1, .int l1), (2, .int l2)] [.int u6.1] u6.2 0 0 (none, r, 0, 0)
        refine mx_S.pu (pc2 := 31) (lv2 := [(1, .int u6.1), (0, .ref l0), (2, .int l2)]) (st2 := []) hm dX8_readParameters_30 rfl ?_
        replace hf := xl_el hf; obtain ⟨v7, e_v7, hf⟩ := hf
        refine mx_S.pu (pc2 := 34) (lv2 := [(2, .int v7), (1, .int u6.1), (0, .ref l0)]) (st2 := []) hm dX8_readParameters_31 (by rw [← e_v7]; rfl) ?_
        clear e_v7
        refine mx_S.pu (pc2 := 4) (lv2 := [(2, .int v7), (1, .int u6.1), (0, .ref l0)]) (st2 := []) hm dX8_readParameters_34 rfl ?_
        refine mx_S.ext [(0, .ref l0), (1, .int u6.1), (2, .int v7)] (mx_sub_pos [2, 1, 0] rfl (show ([2, 1, 0] : List Nat).Nodup by decide)) ?_
        exact ih l0 u6.1 v7 u6.2 _ hf
set_option maxHeartbeats 4000000 in
theorem f_X8_readParameters_ok (X : Nat × (Nat → Int32)) {F L : Nat} (hF : 3 ≤ F) (hL : 62 ≤ L) (nn : Nat) (a0 : Nat) (h : mx_H) {r : mx_H} (hf : f_X8_readParameters nn a0 h = some r) : mx_R X F L 226 [.ref a0] h (none, r, 0, 0) := by
  have hm : mx_mt 226 = some (yX8_readParameters, cX8_readParameters, 3, none) := mt_X8_readParameters
  show mx_S X F L 226 0 [(0, .ref a0)] [] h 0 0 (none, r, 0, 0)
  unfold f_X8_readParameters at hf
  refine sx_ic (v := 1) hm dX8_readParameters_0 (by decide) ?_
  refine mx_S.pu (pc2 := 2) (lv2 := [(1, .int 1), (0, .ref a0)]) (st2 := []) hm dX8_readParameters_1 rfl ?_
  refine sx_ic (v := 0) hm dX8_readParameters_2 (by decide) ?_
  refine mx_S.pu (pc2 := 4) (lv2 := [(2, .int 0), (1, .int 1), (0, .ref a0)]) (st2 := []) hm dX8_readParameters_3 rfl ?_
  refine mx_S.ext [(0, .ref a0), (1, .int 1), (2, .int 0)] (mx_sub_pos [2, 1, 0] rfl (show ([2, 1, 0] : List Nat).Nodup by decide)) ?_
  exact w_X8_readParameters_4_ok X hF hL nn nn a0 1 0 h _ hf
set_option maxHeartbeats 4000000 in
theorem j_X8_readMember_66_ok (X : Nat × (Nat → Int32)) {F L : Nat} (hF : 416 ≤ F) (hL : 9409 ≤ L) (nn : Nat) (l0 : Nat) (h : mx_H) {r : mx_H} (hf : j_X8_readMember_66 nn l0 h = some r) : mx_S X F L 225 66 [(0, .ref l0)] [] h 0 0 (none, r, 0, 0) := by
  have hm : mx_mt 225 = some (yX8_readMember, cX8_readMember, 2, none) := mt_X8_readMember
  unfold j_X8_readMember_66 at hf
  refine mx_S.pu (pc2 := 67) (lv2 := [(0, .ref l0)]) (st2 := [.ref l0]) hm dX8_readMember_66 rfl ?_
  refine sx_bi (v := 41) hm dX8_readMember_67 (by decide) ?_
  replace hf := mx_gd_el hf; obtain ⟨c1, hf⟩ := hf
  replace hf := mx_sv_el hf; obtain ⟨u2, e_u2, hf⟩ := hf
  refine sx_cv hm dX8_readMember_69 rs_RX8_37 mt_X8_need [.int 41] [] (b := l0) (ci := 8) rfl rfl rfl c1 (Nat.le_of_ble_eq_true rfl) (Nat.le_of_ble_eq_true rfl) (by omega) (by omega) (f_X8_need_ok X (by omega) (by omega) nn l0 41 h e_u2) ?_
  clear e_u2
  show mx_S X F L 225 72 [(0, .ref l0)] [] u2 0 0 (none, r, 0, 0)
  refine mx_S.pu (pc2 := 73) (lv2 := [(0, .ref l0)]) (st2 := [.ref l0]) hm dX8_readMember_72 rfl ?_
  refine sx_ic (v := 0) hm dX8_readMember_73 (by decide) ?_
  replace hf := mx_gd_el hf; obtain ⟨c3, hf⟩ := hf
  replace hf := mx_sv_el hf; obtain ⟨u4, e_u4, hf⟩ := hf
  refine sx_cv hm dX8_readMember_74 rs_RX8_58 mt_X8_readBlock [.int 0] [] (b := l0) (ci := 8) rfl rfl rfl c3 (Nat.le_of_ble_eq_true rfl) (Nat.le_of_ble_eq_true rfl) (by omega) (by omega) (f_X8_readBlock_ok X (by omega) (by omega) nn l0 0 u2 e_u4) ?_
  clear e_u4
  show mx_S X F L 225 77 [(0, .ref l0)] [] u4 0 0 (none, r, 0, 0)
  cases hf
  exact sx_ret hm dX8_readMember_77 rfl
set_option maxHeartbeats 4000000 in
theorem j_X8_readMember_44_ok (X : Nat × (Nat → Int32)) {F L : Nat} (hF : 416 ≤ F) (hL : 9409 ≤ L) (nn : Nat) (l0 : Nat) (h : mx_H) {r : mx_H} (hf : j_X8_readMember_44 nn l0 h = some r) : mx_S X F L 225 44 [(0, .ref l0)] [] h 0 0 (none, r, 0, 0) := by
  have hm : mx_mt 225 = some (yX8_readMember, cX8_readMember, 2, none) := mt_X8_readMember
  unfold j_X8_readMember_44 at hf
  refine mx_S.pu (pc2 := 45) (lv2 := [(0, .ref l0)]) (st2 := [.ref l0]) hm dX8_readMember_44 rfl ?_
  refine sx_bi (v := 40) hm dX8_readMember_45 (by decide) ?_
  replace hf := mx_gd_el hf; obtain ⟨c5, hf⟩ := hf
  replace hf := mx_sv_el hf; obtain ⟨u6, e_u6, hf⟩ := hf
  refine sx_cv hm dX8_readMember_47 rs_RX8_37 mt_X8_need [.int 40] [] (b := l0) (ci := 8) rfl rfl rfl c5 (Nat.le_of_ble_eq_true rfl) (Nat.le_of_ble_eq_true rfl) (by omega) (by omega) (f_X8_need_ok X (by omega) (by omega) nn l0 40 h e_u6) ?_
  clear e_u6
  show mx_S X F L 225 50 [(0, .ref l0)] [] u6 0 0 (none, r, 0, 0)
  refine mx_S.pu (pc2 := 51) (lv2 := [(0, .ref l0)]) (st2 := [.ref l0]) hm dX8_readMember_50 rfl ?_
  replace hf := mx_sv_el hf; obtain ⟨v7, e_v7, hf⟩ := hf
  refine sx_get hm dX8_readMember_51 rs_RX8_7 (xgr_el e_v7) ?_
  clear e_v7
  replace hf := mx_gd_el hf; obtain ⟨c8, hf⟩ := hf
  replace hf := mx_sv_el hf; obtain ⟨u9, e_u9, hf⟩ := hf
  refine sx_cv hm dX8_readMember_54 rs_RX8_23 mt_X9_kind [] [] (b := v7) (ci := 9) rfl rfl rfl c8 (Nat.le_of_ble_eq_true rfl) (Nat.le_of_ble_eq_true rfl) (by omega) (by omega) (f_X9_kind_ok X (by omega) (by omega) nn v7 u6 e_u9) ?_
  clear e_u9
  show mx_S X F L 225 57 [(0, .ref l0)] [.int u9.1] u9.2 0 0 (none, r, 0, 0)
  refine sx_bi (v := 41) hm dX8_readMember_57 (by decide) ?_
  rcases mx_if_el hf with ⟨c12, hf⟩ | ⟨c12, hf⟩
  · refine sb_ic_eq hm dX8_readMember_59 (tgt := 66) rfl (fun _ => ?_) (fun z => absurd c12 z)
    exact j_X8_readMember_66_ok X hF hL nn l0 u9.2 hf
  · refine sb_ic_eq hm dX8_readMember_59 (tgt := 66) rfl (fun z => absurd z c12) (fun _ => ?_)
    refine mx_S.pu (pc2 := 63) (lv2 := [(0, .ref l0)]) (st2 := [.ref l0]) hm dX8_readMember_62 rfl ?_
    replace hf := mx_gd_el hf; obtain ⟨c10, hf⟩ := hf
    replace hf := mx_sv_el hf; obtain ⟨u11, e_u11, hf⟩ := hf
    refine sx_cv hm dX8_readMember_63 rs_RX8_55 mt_X8_readParameters [] [] (b := l0) (ci := 8) rfl rfl rfl c10 (Nat.le_of_ble_eq_true rfl) (Nat.le_of_ble_eq_true rfl) (by omega) (by omega) (f_X8_readParameters_ok X (by omega) (by omega) nn l0 u9.2 e_u11) ?_
    clear e_u11
    show mx_S X F L 225 66 [(0, .ref l0)] [] u11 0 0 (none, r, 0, 0)
    exact j_X8_readMember_66_ok X hF hL nn l0 u11 hf
set_option maxHeartbeats 4000000 in
theorem j_X8_readMember_25_ok (X : Nat × (Nat → Int32)) {F L : Nat} (hF : 416 ≤ F) (hL : 9409 ≤ L) (nn : Nat) (l0 : Nat) (l1 : Int32) (h : mx_H) {r : mx_H} (hf : j_X8_readMember_25 nn l0 l1 h = some r) : mx_S X F L 225 25 [(0, .ref l0), (1, .int l1)] [] h 0 0 (none, r, 0, 0) := by
  have hm : mx_mt 225 = some (yX8_readMember, cX8_readMember, 2, none) := mt_X8_readMember
  unfold j_X8_readMember_25 at hf
  refine mx_S.pu (pc2 := 26) (lv2 := [(0, .ref l0), (1, .int l1)]) (st2 := [.ref l0]) hm dX8_readMember_25 rfl ?_
  refine sx_ic (v := 2) hm dX8_readMember_26 (by decide) ?_
  replace hf := mx_gd_el hf; obtain ⟨c13, hf⟩ := hf
  replace hf := mx_sv_el hf; obtain ⟨u14, e_u14, hf⟩ := hf
  refine sx_cv hm dX8_readMember_27 rs_RX8_37 mt_X8_need [.int 2] [] (b := l0) (ci := 8) rfl rfl rfl c13 (Nat.le_of_ble_eq_true rfl) (Nat.le_of_ble_eq_true rfl) (by omega) (by omega) (f_X8_need_ok X (by omega) (by omega) nn l0 2 h e_u14) ?_
  clear e_u14
  show mx_S X F L 225 30 [(0, .ref l0), (1, .int l1)] [] u14 0 0 (none, r, 0, 0)
  refine mx_S.pu (pc2 := 31) (lv2 := [(0, .ref l0), (1, .int l1)]) (st2 := [.int l1]) hm dX8_readMember_30 rfl ?_
  rcases mx_if_el hf with ⟨c18, hf⟩ | ⟨c18, hf⟩
  · refine sb_if_ne hm dX8_readMember_31 (tgt := 44) rfl (fun _ => ?_) (fun z => absurd c18 z)
    refine mx_S.ext [(0, .ref l0)] (mx_sub_pos [0] rfl (show ([0, 1] : List Nat).Nodup by decide)) ?_
    exact j_X8_readMember_44_ok X hF hL nn l0 u14 hf
  · refine sb_if_ne hm dX8_readMember_31 (tgt := 44) rfl (fun z => absurd z c18) (fun _ => ?_)
    refine mx_S.pu (pc2 := 35) (lv2 := [(0, .ref l0), (1, .int l1)]) (st2 := [.ref l0]) hm dX8_readMember_34 rfl ?_
    refine sx_bi (v := 46) hm dX8_readMember_35 (by decide) ?_
    replace hf := mx_gd_el hf; obtain ⟨c15, hf⟩ := hf
    replace hf := mx_sv_el hf; obtain ⟨u16, e_u16, hf⟩ := hf
    refine sx_cv hm dX8_readMember_37 rs_RX8_45 mt_X8_accept [.int 46] [] (b := l0) (ci := 8) rfl rfl rfl c15 (Nat.le_of_ble_eq_true rfl) (Nat.le_of_ble_eq_true rfl) (by omega) (by omega) (f_X8_accept_ok X (by omega) (by omega) nn l0 46 u14 e_u16) ?_
    clear e_u16
    show mx_S X F L 225 40 [(0, .ref l0), (1, .int l1)] [.int u16.1] u16.2 0 0 (none, r, 0, 0)
    rcases mx_if_el hf with ⟨c17, hf⟩ | ⟨c17, hf⟩
    · refine sb_if_eq hm dX8_readMember_40 (tgt := 44) rfl (fun _ => ?_) (fun z => absurd c17 z)
      refine mx_S.ext [(0, .ref l0)] (mx_sub_pos [0] rfl (show ([0, 1] : List Nat).Nodup by decide)) ?_
      exact j_X8_readMember_44_ok X hF hL nn l0 u16.2 hf
    · refine sb_if_eq hm dX8_readMember_40 (tgt := 44) rfl (fun z => absurd z c17) (fun _ => ?_)
      cases hf
      exact sx_ret hm dX8_readMember_43 rfl
set_option maxHeartbeats 4000000 in
theorem f_X8_readMember_ok (X : Nat × (Nat → Int32)) {F L : Nat} (hF : 416 ≤ F) (hL : 9409 ≤ L) (nn : Nat) (a0 : Nat) (h : mx_H) {r : mx_H} (hf : f_X8_readMember nn a0 h = some r) : mx_R X F L 225 [.ref a0] h (none, r, 0, 0) := by
  have hm : mx_mt 225 = some (yX8_readMember, cX8_readMember, 2, none) := mt_X8_readMember
  show mx_S X F L 225 0 [(0, .ref a0)] [] h 0 0 (none, r, 0, 0)
  unfold f_X8_readMember at hf
  refine mx_S.pu (pc2 := 1) (lv2 := [(0, .ref a0)]) (st2 := [.ref a0]) hm dX8_readMember_0 rfl ?_
  refine sx_bi (v := 25) hm dX8_readMember_1 (by decide) ?_
  replace hf := mx_gd_el hf; obtain ⟨c19, hf⟩ := hf
  replace hf := mx_sv_el hf; obtain ⟨u20, e_u20, hf⟩ := hf
  refine sx_cv hm dX8_readMember_3 rs_RX8_45 mt_X8_accept [.int 25] [] (b := a0) (ci := 8) rfl rfl rfl c19 (Nat.le_of_ble_eq_true rfl) (Nat.le_of_ble_eq_true rfl) (by omega) (by omega) (f_X8_accept_ok X (by omega) (by omega) nn a0 25 h e_u20) ?_
  clear e_u20
  show mx_S X F L 225 6 [(0, .ref a0)] [.int u20.1] u20.2 0 0 (none, r, 0, 0)
  refine mx_S.pu (pc2 := 7) (lv2 := [(1, .int u20.1), (0, .ref a0)]) (st2 := []) hm dX8_readMember_6 rfl ?_
  refine mx_S.pu (pc2 := 8) (lv2 := [(1, .int u20.1), (0, .ref a0)]) (st2 := [.ref a0]) hm dX8_readMember_7 rfl ?_
  refine sx_bi (v := 30) hm dX8_readMember_8 (by decide) ?_
  replace hf := mx_gd_el hf; obtain ⟨c21, hf⟩ := hf
  replace hf := mx_sv_el hf; obtain ⟨u22, e_u22, hf⟩ := hf
  refine sx_cv hm dX8_readMember_10 rs_RX8_45 mt_X8_accept [.int 30] [] (b := a0) (ci := 8) rfl rfl rfl c21 (Nat.le_of_ble_eq_true rfl) (Nat.le_of_ble_eq_true rfl) (by omega) (by omega) (f_X8_accept_ok X (by omega) (by omega) nn a0 30 u20.2 e_u22) ?_
  clear e_u22
  show mx_S X F L 225 13 [(1, .int u20.1), (0, .ref a0)] [.int u22.1] u22.2 0 0 (none, r, 0, 0)
  rcases mx_if_el hf with ⟨c25, hf⟩ | ⟨c25, hf⟩
  · refine sb_if_eq hm dX8_readMember_13 (tgt := 21) rfl (fun _ => ?_) (fun z => absurd c25 z)
    refine mx_S.pu (pc2 := 22) (lv2 := [(1, .int u20.1), (0, .ref a0)]) (st2 := [.ref a0]) hm dX8_readMember_21 rfl ?_
    replace hf := mx_gd_el hf; obtain ⟨c23, hf⟩ := hf
    replace hf := mx_sv_el hf; obtain ⟨u24, e_u24, hf⟩ := hf
    refine sx_cv hm dX8_readMember_22 rs_RX8_52 mt_X8_readType [] [] (b := a0) (ci := 8) rfl rfl rfl c23 (Nat.le_of_ble_eq_true rfl) (Nat.le_of_ble_eq_true rfl) (by omega) (by omega) (f_X8_readType_ok X (by omega) (by omega) nn a0 u22.2 e_u24) ?_
    clear e_u24
    show mx_S X F L 225 25 [(1, .int u20.1), (0, .ref a0)] [] u24 0 0 (none, r, 0, 0)
    refine mx_S.ext [(0, .ref a0), (1, .int u20.1)] (mx_sub_pos [1, 0] rfl (show ([1, 0] : List Nat).Nodup by decide)) ?_
    exact j_X8_readMember_25_ok X hF hL nn a0 u20.1 u24 hf
  · refine sb_if_eq hm dX8_readMember_13 (tgt := 21) rfl (fun z => absurd z c25) (fun _ => ?_)
    refine sx_ic (v := 1) hm dX8_readMember_16 (by decide) ?_
    refine mx_S.pu (pc2 := 18) (lv2 := [(1, .int 1), (0, .ref a0)]) (st2 := []) hm dX8_readMember_17 rfl ?_
    refine mx_S.pu (pc2 := 25) (lv2 := [(1, .int 1), (0, .ref a0)]) (st2 := []) hm dX8_readMember_18 rfl ?_
    refine mx_S.ext [(0, .ref a0), (1, .int 1)] (mx_sub_pos [1, 0] rfl (show ([1, 0] : List Nat).Nodup by decide)) ?_
    exact j_X8_readMember_25_ok X hF hL nn a0 1 u22.2 hf
set_option maxHeartbeats 4000000 in
theorem j_X8_readClass_86_ok (X : Nat × (Nat → Int32)) {F L : Nat} (hF : 417 ≤ F) (hL : 9430 ≤ L) (nn : Nat) (l0 : Nat) (h : mx_H) {r : mx_H} (hf : j_X8_readClass_86 nn l0 h = some r) : mx_S X F L 224 86 [(0, .ref l0)] [] h 0 0 (none, r, 0, 0) := by
  have hm : mx_mt 224 = some (yX8_readClass, cX8_readClass, 2, none) := mt_X8_readClass
  unfold j_X8_readClass_86 at hf
  refine mx_S.pu (pc2 := 87) (lv2 := [(0, .ref l0)]) (st2 := [.ref l0]) hm dX8_readClass_86 rfl ?_
  refine sx_bi (v := 43) hm dX8_readClass_87 (by decide) ?_
  replace hf := mx_gd_el hf; obtain ⟨c1, hf⟩ := hf
  replace hf := mx_sv_el hf; obtain ⟨u2, e_u2, hf⟩ := hf
  refine sx_cv hm dX8_readClass_89 rs_RX8_37 mt_X8_need [.int 43] [] (b := l0) (ci := 8) rfl rfl rfl c1 (Nat.le_of_ble_eq_true rfl) (Nat.le_of_ble_eq_true rfl) (by omega) (by omega) (f_X8_need_ok X (by omega) (by omega) nn l0 43 h e_u2) ?_
  clear e_u2
  show mx_S X F L 224 92 [(0, .ref l0)] [] u2 0 0 (none, r, 0, 0)
  cases hf
  exact sx_ret hm dX8_readClass_92 rfl
set_option maxHeartbeats 4000000 in
theorem w_X8_readClass_47_ok (X : Nat × (Nat → Int32)) {F L : Nat} (hF : 417 ≤ F) (hL : 9430 ≤ L) (nn : Nat) : ∀ (k : Nat) (l0 : Nat) (l1 : Int32) (h : mx_H) (r : mx_H), w_X8_readClass_47 nn k l0 l1 h = some r → mx_S X F L 224 47 [(0, .ref l0), (1, .int l1)] [] h 0 0 (none, r, 0, 0) := by
  have hm : mx_mt 224 = some (yX8_readClass, cX8_readClass, 2, none) := mt_X8_readClass
  intro k
  induction k with
  | zero => intro l0 l1 h r hf; cases hf
  | succ k ih =>
    intro l0 l1 h r hf
    unfold w_X8_readClass_47 at hf
    refine mx_S.pu (pc2 := 48) (lv2 := [(0, .ref l0), (1, .int l1)]) (st2 := [.int l1]) hm dX8_readClass_47 rfl ?_
    refine sx_si (v := 3000) hm dX8_readClass_48 (by decide) ?_
    rcases mx_if_el hf with ⟨c13, hf⟩ | ⟨c13, hf⟩
    · refine sb_ic_ge hm dX8_readClass_51 (tgt := 86) rfl (fun _ => ?_) (fun z => absurd c13 z)
      refine mx_S.ext [(0, .ref l0)] (mx_sub_pos [0] rfl (show ([0, 1] : List Nat).Nodup by decide)) ?_
      exact j_X8_readClass_86_ok X hF hL nn l0 h hf
    · refine sb_ic_ge hm dX8_readClass_51 (tgt := 86) rfl (fun z => absurd z c13) (fun _ => ?_)
      refine mx_S.pu (pc2 := 55) (lv2 := [(0, .ref l0), (1, .int l1)]) (st2 := [.ref l0]) hm dX8_readClass_54 rfl ?_
      replace hf := mx_sv_el hf; obtain ⟨v3, e_v3, hf⟩ := hf
      refine sx_get hm dX8_readClass_55 rs_RX8_7 (xgr_el e_v3) ?_
      clear e_v3
      replace hf := mx_sv_el hf; obtain ⟨v4, e_v4, hf⟩ := hf
      refine sx_get hm dX8_readClass_58 rs_RX8_19 (xgi_el e_v4) ?_
      clear e_v4
      rcases mx_if_el hf with ⟨c12, hf⟩ | ⟨c12, hf⟩
      · refine sb_if_ne hm dX8_readClass_61 (tgt := 86) rfl (fun _ => ?_) (fun z => absurd c12 z)
        refine mx_S.ext [(0, .ref l0)] (mx_sub_pos [0] rfl (show ([0, 1] : List Nat).Nodup by decide)) ?_
        exact j_X8_readClass_86_ok X hF hL nn l0 h hf
      · refine sb_if_ne hm dX8_readClass_61 (tgt := 86) rfl (fun z => absurd z c12) (fun _ => ?_)
        refine mx_S.pu (pc2 := 65) (lv2 := [(0, .ref l0), (1, .int l1)]) (st2 := [.ref l0]) hm dX8_readClass_64 rfl ?_
        replace hf := mx_sv_el hf; obtain ⟨v5, e_v5, hf⟩ := hf
        refine sx_get hm dX8_readClass_65 rs_RX8_7 (xgr_el e_v5) ?_
        clear e_v5
        replace hf := mx_gd_el hf; obtain ⟨c6, hf⟩ := hf
        replace hf := mx_sv_el hf; obtain ⟨u7, e_u7, hf⟩ := hf
        refine sx_cv hm dX8_readClass_68 rs_RX8_23 mt_X9_kind [] [] (b := v5) (ci := 9) rfl rfl rfl c6 (Nat.le_of_ble_eq_true rfl) (Nat.le_of_ble_eq_true rfl) (by omega) (by omega) (f_X9_kind_ok X (by omega) (by omega) nn v5 h e_u7) ?_
        clear e_u7
        show mx_S X F L 224 71 [(0, .ref l0), (1, .int l1)] [.int u7.1] u7.2 0 0 (none, r, 0, 0)
        refine sx_bi (v := 43) hm dX8_readClass_71 (by decide) ?_
        rcases mx_if_el hf with ⟨c11, hf⟩ | ⟨c11, hf⟩
        · refine sb_ic_eq hm dX8_readClass_73 (tgt := 86) rfl (fun _ => ?_) (fun z => absurd c11 z)
          refine mx_S.ext [(0, .ref l0)] (mx_sub_pos [0] rfl (show ([0, 1] : List Nat).Nodup by decide)) ?_
          exact j_X8_readClass_86_ok X hF hL nn l0 u7.2 hf
        · refine sb_ic_eq hm dX8_readClass_73 (tgt := 86) rfl (fun z => absurd z c11) (fun _ => ?_)
          refine mx_S.pu (pc2 := 77) (lv2 := [(0, .ref l0), (1, .int l1)]) (st2 := [.ref l0]) hm dX8_readClass_76 rfl ?_
          replace hf := mx_gd_el hf; obtain ⟨c8, hf⟩ := hf
          replace hf := mx_sv_el hf; obtain ⟨u9, e_u9, hf⟩ := hf
          refine sx_cv hm dX8_readClass_77 rs_RX8_49 mt_X8_readMember [] [] (b := l0) (ci := 8) rfl rfl rfl c8 (Nat.le_of_ble_eq_true rfl) (Nat.le_of_ble_eq_true rfl) (by omega) (by omega) (f_X8_readMember_ok X (by omega) (by omega) nn l0 u7.2 e_u9) ?_
          clear e_u9
          show mx_S X F L 224 80 [(0, .ref l0), (1, .int l1)] [] u9 0 0 (none, r, 0, 0)
          replace hf := xl_el hf; obtain ⟨v10, e_v10, hf⟩ := hf
          refine mx_S.pu (pc2 := 83) (lv2 := [(1, .int v10), (0, .ref l0)]) (st2 := []) hm dX8_readClass_80 (by rw [← e_v10]; rfl) ?_
          clear e_v10
          refine mx_S.pu (pc2 := 47) (lv2 := [(1, .int v10), (0, .ref l0)]) (st2 := []) hm dX8_readClass_83 rfl ?_
          refine mx_S.ext [(0, .ref l0), (1, .int v10)] (mx_sub_pos [1, 0] rfl (show ([1, 0] : List Nat).Nodup by decide)) ?_
          exact ih l0 v10 u9 _ hf
set_option maxHeartbeats 4000000 in
theorem j_X8_readClass_39_ok (X : Nat × (Nat → Int32)) {F L : Nat} (hF : 417 ≤ F) (hL : 9430 ≤ L) (nn : Nat) (l0 : Nat) (h : mx_H) {r : mx_H} (hf : j_X8_readClass_39 nn l0 h = some r) : mx_S X F L 224 39 [(0, .ref l0)] [] h 0 0 (none, r, 0, 0) := by
  have hm : mx_mt 224 = some (yX8_readClass, cX8_readClass, 2, none) := mt_X8_readClass
  unfold j_X8_readClass_39 at hf
  refine mx_S.pu (pc2 := 40) (lv2 := [(0, .ref l0)]) (st2 := [.ref l0]) hm dX8_readClass_39 rfl ?_
  refine sx_bi (v := 42) hm dX8_readClass_40 (by decide) ?_
  replace hf := mx_gd_el hf; obtain ⟨c14, hf⟩ := hf
  replace hf := mx_sv_el hf; obtain ⟨u15, e_u15, hf⟩ := hf
  refine sx_cv hm dX8_readClass_42 rs_RX8_37 mt_X8_need [.int 42] [] (b := l0) (ci := 8) rfl rfl rfl c14 (Nat.le_of_ble_eq_true rfl) (Nat.le_of_ble_eq_true rfl) (by omega) (by omega) (f_X8_need_ok X (by omega) (by omega) nn l0 42 h e_u15) ?_
  clear e_u15
  show mx_S X F L 224 45 [(0, .ref l0)] [] u15 0 0 (none, r, 0, 0)
  refine sx_ic (v := 0) hm dX8_readClass_45 (by decide) ?_
  refine mx_S.pu (pc2 := 47) (lv2 := [(1, .int 0), (0, .ref l0)]) (st2 := []) hm dX8_readClass_46 rfl ?_
  refine mx_S.ext [(0, .ref l0), (1, .int 0)] (mx_sub_pos [1, 0] rfl (show ([1, 0] : List Nat).Nodup by decide)) ?_
  exact w_X8_readClass_47_ok X hF hL nn nn l0 0 u15 _ hf
set_option maxHeartbeats 4000000 in
theorem f_X8_readClass_ok (X : Nat × (Nat → Int32)) {F L : Nat} (hF : 417 ≤ F) (hL : 9430 ≤ L) (nn : Nat) (a0 : Nat) (h : mx_H) {r : mx_H} (hf : f_X8_readClass nn a0 h = some r) : mx_R X F L 224 [.ref a0] h (none, r, 0, 0) := by
  have hm : mx_mt 224 = some (yX8_readClass, cX8_readClass, 2, none) := mt_X8_readClass
  show mx_S X F L 224 0 [(0, .ref a0)] [] h 0 0 (none, r, 0, 0)
  unfold f_X8_readClass at hf
  refine mx_S.pu (pc2 := 1) (lv2 := [(0, .ref a0)]) (st2 := [.ref a0]) hm dX8_readClass_0 rfl ?_
  refine sx_bi (v := 13) hm dX8_readClass_1 (by decide) ?_
  replace hf := mx_gd_el hf; obtain ⟨c16, hf⟩ := hf
  replace hf := mx_sv_el hf; obtain ⟨u17, e_u17, hf⟩ := hf
  refine sx_cv hm dX8_readClass_3 rs_RX8_37 mt_X8_need [.int 13] [] (b := a0) (ci := 8) rfl rfl rfl c16 (Nat.le_of_ble_eq_true rfl) (Nat.le_of_ble_eq_true rfl) (by omega) (by omega) (f_X8_need_ok X (by omega) (by omega) nn a0 13 h e_u17) ?_
  clear e_u17
  show mx_S X F L 224 6 [(0, .ref a0)] [] u17 0 0 (none, r, 0, 0)
  refine mx_S.pu (pc2 := 7) (lv2 := [(0, .ref a0)]) (st2 := [.ref a0]) hm dX8_readClass_6 rfl ?_
  replace hf := mx_sv_el hf; obtain ⟨v18, e_v18, hf⟩ := hf
  refine sx_get hm dX8_readClass_7 rs_RX8_13 (xgr_el e_v18) ?_
  clear e_v18
  refine mx_S.pu (pc2 := 11) (lv2 := [(0, .ref a0)]) (st2 := [.ref a0, .ref v18]) hm dX8_readClass_10 rfl ?_
  replace hf := mx_sv_el hf; obtain ⟨v19, e_v19, hf⟩ := hf
  refine sx_get hm dX8_readClass_11 rs_RX8_7 (xgr_el e_v19) ?_
  clear e_v19
  replace hf := mx_sv_el hf; obtain ⟨v20, e_v20, hf⟩ := hf
  refine sx_get hm dX8_readClass_14 rs_RX8_30 (xgi_el e_v20) ?_
  clear e_v20
  replace hf := mx_gd_el hf; obtain ⟨c21, hf⟩ := hf
  replace hf := mx_sv_el hf; obtain ⟨u22, e_u22, hf⟩ := hf
  refine sx_cv hm dX8_readClass_17 rs_RX8_40 mt_X2_addClass [.int v20] [] (b := v18) (ci := 2) rfl rfl rfl c21 (Nat.le_of_ble_eq_true rfl) (Nat.le_of_ble_eq_true rfl) (by omega) (by omega) (f_X2_addClass_ok X (by omega) (by omega) nn v18 v20 u17 e_u22) ?_
  clear e_u22
  show mx_S X F L 224 20 [(0, .ref a0)] [] u22 0 0 (none, r, 0, 0)
  refine mx_S.pu (pc2 := 21) (lv2 := [(0, .ref a0)]) (st2 := [.ref a0]) hm dX8_readClass_20 rfl ?_
  refine sx_ic (v := 2) hm dX8_readClass_21 (by decide) ?_
  replace hf := mx_gd_el hf; obtain ⟨c23, hf⟩ := hf
  replace hf := mx_sv_el hf; obtain ⟨u24, e_u24, hf⟩ := hf
  refine sx_cv hm dX8_readClass_22 rs_RX8_37 mt_X8_need [.int 2] [] (b := a0) (ci := 8) rfl rfl rfl c23 (Nat.le_of_ble_eq_true rfl) (Nat.le_of_ble_eq_true rfl) (by omega) (by omega) (f_X8_need_ok X (by omega) (by omega) nn a0 2 u22 e_u24) ?_
  clear e_u24
  show mx_S X F L 224 25 [(0, .ref a0)] [] u24 0 0 (none, r, 0, 0)
  refine mx_S.pu (pc2 := 26) (lv2 := [(0, .ref a0)]) (st2 := [.ref a0]) hm dX8_readClass_25 rfl ?_
  refine sx_bi (v := 16) hm dX8_readClass_26 (by decide) ?_
  replace hf := mx_gd_el hf; obtain ⟨c25, hf⟩ := hf
  replace hf := mx_sv_el hf; obtain ⟨u26, e_u26, hf⟩ := hf
  refine sx_cv hm dX8_readClass_28 rs_RX8_45 mt_X8_accept [.int 16] [] (b := a0) (ci := 8) rfl rfl rfl c25 (Nat.le_of_ble_eq_true rfl) (Nat.le_of_ble_eq_true rfl) (by omega) (by omega) (f_X8_accept_ok X (by omega) (by omega) nn a0 16 u24 e_u26) ?_
  clear e_u26
  show mx_S X F L 224 31 [(0, .ref a0)] [.int u26.1] u26.2 0 0 (none, r, 0, 0)
  rcases mx_if_el hf with ⟨c29, hf⟩ | ⟨c29, hf⟩
  · refine sb_if_eq hm dX8_readClass_31 (tgt := 39) rfl (fun _ => ?_) (fun z => absurd c29 z)
    exact j_X8_readClass_39_ok X hF hL nn a0 u26.2 hf
  · refine sb_if_eq hm dX8_readClass_31 (tgt := 39) rfl (fun z => absurd z c29) (fun _ => ?_)
    refine mx_S.pu (pc2 := 35) (lv2 := [(0, .ref a0)]) (st2 := [.ref a0]) hm dX8_readClass_34 rfl ?_
    refine sx_ic (v := 2) hm dX8_readClass_35 (by decide) ?_
    replace hf := mx_gd_el hf; obtain ⟨c27, hf⟩ := hf
    replace hf := mx_sv_el hf; obtain ⟨u28, e_u28, hf⟩ := hf
    refine sx_cv hm dX8_readClass_36 rs_RX8_37 mt_X8_need [.int 2] [] (b := a0) (ci := 8) rfl rfl rfl c27 (Nat.le_of_ble_eq_true rfl) (Nat.le_of_ble_eq_true rfl) (by omega) (by omega) (f_X8_need_ok X (by omega) (by omega) nn a0 2 u26.2 e_u28) ?_
    clear e_u28
    show mx_S X F L 224 39 [(0, .ref a0)] [] u28 0 0 (none, r, 0, 0)
    exact j_X8_readClass_39_ok X hF hL nn a0 u28 hf
set_option maxHeartbeats 4000000 in
theorem j_X8_readProgram_33_ok (X : Nat × (Nat → Int32)) {F L : Nat} (hF : 418 ≤ F) (hL : 9451 ≤ L) (nn : Nat) {kk_2 : Nat → Int32 → mx_H → Option mx_H} (hk_2 : ∀ (l0 : Nat) (l1 : Int32) (h : mx_H) (r : mx_H), kk_2 l0 l1 h = some r → mx_S X F L 220 2 [(0, .ref l0), (1, .int l1)] [] h 0 0 (none, r, 0, 0)) (l0 : Nat) (l1 : Int32) (h : mx_H) {r : mx_H} (hf : j_X8_readProgram_33 nn kk_2 l0 l1 h = some r) : mx_S X F L 220 33 [(0, .ref l0), (1, .int l1)] [] h 0 0 (none, r, 0, 0) := by
  have hm : mx_mt 220 = some (yX8_readProgram, cX8_readProgram, 2, none) := mt_X8_readProgram
  unfold j_X8_readProgram_33 at hf
  refine mx_S.pu (pc2 := 34) (lv2 := [(0, .ref l0), (1, .int l1)]) (st2 := [.ref l0]) hm dX8_readProgram_33 rfl ?_
  replace hf := mx_gd_el hf; obtain ⟨c1, hf⟩ := hf
  replace hf := mx_sv_el hf; obtain ⟨u2, e_u2, hf⟩ := hf
  refine sx_cv hm dX8_readProgram_34 rs_RX8_27 mt_X8_readClass [] [] (b := l0) (ci := 8) rfl rfl rfl c1 (Nat.le_of_ble_eq_true rfl) (Nat.le_of_ble_eq_true rfl) (by omega) (by omega) (f_X8_readClass_ok X (by omega) (by omega) nn l0 h e_u2) ?_
  clear e_u2
  show mx_S X F L 220 37 [(0, .ref l0), (1, .int l1)] [] u2 0 0 (none, r, 0, 0)
  replace hf := xl_el hf; obtain ⟨v3, e_v3, hf⟩ := hf
  refine mx_S.pu (pc2 := 40) (lv2 := [(1, .int v3), (0, .ref l0)]) (st2 := []) hm dX8_readProgram_37 (by rw [← e_v3]; rfl) ?_
  clear e_v3
  refine mx_S.pu (pc2 := 2) (lv2 := [(1, .int v3), (0, .ref l0)]) (st2 := []) hm dX8_readProgram_40 rfl ?_
  refine mx_S.ext [(0, .ref l0), (1, .int v3)] (mx_sub_pos [1, 0] rfl (show ([1, 0] : List Nat).Nodup by decide)) ?_
  exact hk_2 l0 v3 u2 _ hf
set_option maxHeartbeats 4000000 in
theorem w_X8_readProgram_2_ok (X : Nat × (Nat → Int32)) {F L : Nat} (hF : 418 ≤ F) (hL : 9451 ≤ L) (nn : Nat) : ∀ (k : Nat) (l0 : Nat) (l1 : Int32) (h : mx_H) (r : mx_H), w_X8_readProgram_2 nn k l0 l1 h = some r → mx_S X F L 220 2 [(0, .ref l0), (1, .int l1)] [] h 0 0 (none, r, 0, 0) := by
  have hm : mx_mt 220 = some (yX8_readProgram, cX8_readProgram, 2, none) := mt_X8_readProgram
  intro k
  induction k with
  | zero => intro l0 l1 h r hf; cases hf
  | succ k ih =>
    intro l0 l1 h r hf
    unfold w_X8_readProgram_2 at hf
    refine mx_S.pu (pc2 := 3) (lv2 := [(0, .ref l0), (1, .int l1)]) (st2 := [.int l1]) hm dX8_readProgram_2 rfl ?_
    refine sx_si (v := 3000) hm dX8_readProgram_3 (by decide) ?_
    rcases mx_if_el hf with ⟨c12, hf⟩ | ⟨c12, hf⟩
    · refine sb_ic_ge hm dX8_readProgram_6 (tgt := 43) rfl (fun _ => ?_) (fun z => absurd c12 z)
      cases hf
      exact sx_ret hm dX8_readProgram_43 rfl
    · refine sb_ic_ge hm dX8_readProgram_6 (tgt := 43) rfl (fun z => absurd z c12) (fun _ => ?_)
      refine mx_S.pu (pc2 := 10) (lv2 := [(0, .ref l0), (1, .int l1)]) (st2 := [.ref l0]) hm dX8_readProgram_9 rfl ?_
      replace hf := mx_sv_el hf; obtain ⟨v4, e_v4, hf⟩ := hf
      refine sx_get hm dX8_readProgram_10 rs_RX8_7 (xgr_el e_v4) ?_
      clear e_v4
      replace hf := mx_sv_el hf; obtain ⟨v5, e_v5, hf⟩ := hf
      refine sx_get hm dX8_readProgram_13 rs_RX8_19 (xgi_el e_v5) ?_
      clear e_v5
      rcases mx_if_el hf with ⟨c11, hf⟩ | ⟨c11, hf⟩
      · refine sb_if_ne hm dX8_readProgram_16 (tgt := 43) rfl (fun _ => ?_) (fun z => absurd c11 z)
        cases hf
        exact sx_ret hm dX8_readProgram_43 rfl
      · refine sb_if_ne hm dX8_readProgram_16 (tgt := 43) rfl (fun z => absurd z c11) (fun _ => ?_)
        refine mx_S.pu (pc2 := 20) (lv2 := [(0, .ref l0), (1, .int l1)]) (st2 := [.int l1]) hm dX8_readProgram_19 rfl ?_
        rcases mx_if_el hf with ⟨c10, hf⟩ | ⟨c10, hf⟩
        · refine sb_if_eq hm dX8_readProgram_20 (tgt := 33) rfl (fun _ => ?_) (fun z => absurd c10 z)
          exact j_X8_readProgram_33_ok X hF hL nn ih l0 l1 h hf
        · refine sb_if_eq hm dX8_readProgram_20 (tgt := 33) rfl (fun z => absurd z c10) (fun _ => ?_)
          refine mx_S.pu (pc2 := 24) (lv2 := [(0, .ref l0), (1, .int l1)]) (st2 := [.ref l0]) hm dX8_readProgram_23 rfl ?_
          replace hf := mx_sv_el hf; obtain ⟨v6, e_v6, hf⟩ := hf
          refine sx_get hm dX8_readProgram_24 rs_RX8_7 (xgr_el e_v6) ?_
          clear e_v6
          replace hf := mx_gd_el hf; obtain ⟨c7, hf⟩ := hf
          replace hf := mx_sv_el hf; obtain ⟨u8, e_u8, hf⟩ := hf
          refine sx_cv hm dX8_readProgram_27 rs_RX8_23 mt_X9_kind [] [] (b := v6) (ci := 9) rfl rfl rfl c7 (Nat.le_of_ble_eq_true rfl) (Nat.le_of_ble_eq_true rfl) (by omega) (by omega) (f_X9_kind_ok X (by omega) (by omega) nn v6 h e_u8) ?_
          clear e_u8
          show mx_S X F L 220 30 [(0, .ref l0), (1, .int l1)] [.int u8.1] u8.2 0 0 (none, r, 0, 0)
          rcases mx_if_el hf with ⟨c9, hf⟩ | ⟨c9, hf⟩
          · refine sb_if_eq hm dX8_readProgram_30 (tgt := 43) rfl (fun _ => ?_) (fun z => absurd c9 z)
            cases hf
            exact sx_ret hm dX8_readProgram_43 rfl
          · refine sb_if_eq hm dX8_readProgram_30 (tgt := 43) rfl (fun z => absurd z c9) (fun _ => ?_)
            exact j_X8_readProgram_33_ok X hF hL nn ih l0 l1 u8.2 hf
set_option maxHeartbeats 4000000 in
theorem f_X8_readProgram_ok (X : Nat × (Nat → Int32)) {F L : Nat} (hF : 418 ≤ F) (hL : 9451 ≤ L) (nn : Nat) (a0 : Nat) (h : mx_H) {r : mx_H} (hf : f_X8_readProgram nn a0 h = some r) : mx_R X F L 220 [.ref a0] h (none, r, 0, 0) := by
  have hm : mx_mt 220 = some (yX8_readProgram, cX8_readProgram, 2, none) := mt_X8_readProgram
  show mx_S X F L 220 0 [(0, .ref a0)] [] h 0 0 (none, r, 0, 0)
  unfold f_X8_readProgram at hf
  refine sx_ic (v := 0) hm dX8_readProgram_0 (by decide) ?_
  refine mx_S.pu (pc2 := 2) (lv2 := [(1, .int 0), (0, .ref a0)]) (st2 := []) hm dX8_readProgram_1 rfl ?_
  refine mx_S.ext [(0, .ref a0), (1, .int 0)] (mx_sub_pos [1, 0] rfl (show ([1, 0] : List Nat).Nodup by decide)) ?_
  exact w_X8_readProgram_2_ok X hF hL nn nn a0 0 h _ hf
set_option maxHeartbeats 4000000 in
theorem f_X4_init_ok (X : Nat × (Nat → Int32)) {F L : Nat} (hF : 2 ≤ F) (hL : 60 ≤ L) (nn : Nat) (a0 : Nat) (h : mx_H) {r : (mx_H × Nat × Nat)} (hf : f_X4_init nn a0 h = some r) : mx_R X F L 129 [.ref a0] h (none, r.1, r.2.1, r.2.2) := by
  have hm : mx_mt 129 = some (yX4_init, cX4_init, 1, none) := mt_X4_init
  show mx_S X F L 129 0 [(0, .ref a0)] [] h 0 0 (none, r.1, r.2.1, r.2.2)
  unfold f_X4_init at hf
  refine mx_S.pu (pc2 := 1) (lv2 := [(0, .ref a0)]) (st2 := [.ref a0]) hm dX4_init_0 rfl ?_
  refine sx_oi hm dX4_init_1 rs_RX4_3 (by omega) (Nat.le_trans (Nat.le_of_ble_eq_true rfl : _ ≤ 60) (by omega)) ?_
  refine mx_S.pu (pc2 := 5) (lv2 := [(0, .ref a0)]) (st2 := [.ref a0]) hm dX4_init_4 rfl ?_
  refine sx_bi (v := 16) hm dX4_init_5 (by decide) ?_
  replace hf := mx_gd_el hf; obtain ⟨c1, hf⟩ := hf
  replace hf := mx_sv_el hf; obtain ⟨u2, e_u2, hf⟩ := hf
  refine sx_na hm dX4_init_7 rfl (Or.inl rfl) c1 e_u2 ?_
  clear e_u2
  replace hf := mx_sv_el hf; obtain ⟨h3, e_h3, hf⟩ := hf
  refine sx_put hm dX4_init_9 rs_RX4_11 ft_4_0 ⟨rfl, rfl⟩ (fun _ => ⟨rfl, rfl⟩) e_h3 ?_
  clear e_h3
  refine mx_S.pu (pc2 := 13) (lv2 := [(0, .ref a0)]) (st2 := [.ref a0]) hm dX4_init_12 rfl ?_
  refine sx_si (v := 256) hm dX4_init_13 (by decide) ?_
  replace hf := mx_gd_el hf; obtain ⟨c4, hf⟩ := hf
  replace hf := mx_sv_el hf; obtain ⟨u5, e_u5, hf⟩ := hf
  refine sx_na hm dX4_init_16 rfl (Or.inr (Or.inr rfl)) c4 e_u5 ?_
  clear e_u5
  replace hf := mx_sv_el hf; obtain ⟨h6, e_h6, hf⟩ := hf
  refine sx_put hm dX4_init_18 rs_RX4_15 ft_4_1 ⟨rfl, rfl⟩ (fun _ => ⟨rfl, rfl⟩) e_h6 ?_
  clear e_h6
  refine mx_S.pu (pc2 := 22) (lv2 := [(0, .ref a0)]) (st2 := [.ref a0]) hm dX4_init_21 rfl ?_
  replace hf := mx_gd_el hf; obtain ⟨c7, hf⟩ := hf
  replace hf := mx_sv_el hf; obtain ⟨u8, e_u8, hf⟩ := hf
  refine sx_cv hm dX4_init_22 rs_RX4_19 mt_X4_forget [] [] (b := a0) (ci := 4) rfl rfl rfl c7 (Nat.le_of_ble_eq_true rfl) (Nat.le_of_ble_eq_true rfl) (by omega) (by omega) (f_X4_forget_ok X (by omega) (by omega) nn a0 h6 e_u8) ?_
  clear e_u8
  show mx_S X F L 129 25 [(0, .ref a0)] [] u8 ((0 + 1) + 1) ((0 + (16 : Int32).toNatClampNeg) + (256 : Int32).toNatClampNeg) (none, r.1, r.2.1, r.2.2)
  cases hf
  exact sx_ret hm dX4_init_25 rfl
set_option maxHeartbeats 4000000 in
theorem f_X8_init_ok (X : Nat × (Nat → Int32)) {F L : Nat} (hF : 1 ≤ F) (hL : 60 ≤ L) (nn : Nat) (a0 : Nat) (a1 : Nat) (a2 : Nat) (h : mx_H) {r : mx_H} (hf : f_X8_init nn a0 a1 a2 h = some r) : mx_R X F L 219 [.ref a0, .ref a1, .ref a2] h (none, r, 0, 0) := by
  have hm : mx_mt 219 = some (yX8_init, cX8_init, 3, none) := mt_X8_init
  show mx_S X F L 219 0 [(0, .ref a0), (1, .ref a1), (2, .ref a2)] [] h 0 0 (none, r, 0, 0)
  unfold f_X8_init at hf
  refine mx_S.pu (pc2 := 1) (lv2 := [(0, .ref a0), (1, .ref a1), (2, .ref a2)]) (st2 := [.ref a0]) hm dX8_init_0 rfl ?_
  refine sx_oi hm dX8_init_1 rs_RX8_1 (by omega) (Nat.le_trans (Nat.le_of_ble_eq_true rfl : _ ≤ 60) (by omega)) ?_
  refine mx_S.pu (pc2 := 5) (lv2 := [(0, .ref a0), (1, .ref a1), (2, .ref a2)]) (st2 := [.ref a0]) hm dX8_init_4 rfl ?_
  refine mx_S.pu (pc2 := 6) (lv2 := [(0, .ref a0), (1, .ref a1), (2, .ref a2)]) (st2 := [.ref a1, .ref a0]) hm dX8_init_5 rfl ?_
  replace hf := mx_sv_el hf; obtain ⟨h1, e_h1, hf⟩ := hf
  refine sx_put hm dX8_init_6 rs_RX8_7 ft_8_0 ⟨rfl, rfl⟩ (fun _ => ⟨rfl, rfl⟩) e_h1 ?_
  clear e_h1
  refine mx_S.pu (pc2 := 10) (lv2 := [(0, .ref a0), (1, .ref a1), (2, .ref a2)]) (st2 := [.ref a0]) hm dX8_init_9 rfl ?_
  refine mx_S.pu (pc2 := 11) (lv2 := [(0, .ref a0), (1, .ref a1), (2, .ref a2)]) (st2 := [.ref a2, .ref a0]) hm dX8_init_10 rfl ?_
  replace hf := mx_sv_el hf; obtain ⟨h2, e_h2, hf⟩ := hf
  refine sx_put hm dX8_init_11 rs_RX8_13 ft_8_1 ⟨rfl, rfl⟩ (fun _ => ⟨rfl, rfl⟩) e_h2 ?_
  clear e_h2
  cases hf
  exact sx_ret hm dX8_init_14 rfl
set_option maxHeartbeats 4000000 in
theorem f_J7_copyOf_9075b_ok (X : Nat × (Nat → Int32)) {F L : Nat} (hF : 1 ≤ F) (hL : 60 ≤ L) (nn : Nat) (a0 : Nat) (a1 : Int32) (h : mx_H) {r : (Option Nat × mx_H × Nat × Nat)} (hf : f_J7_copyOf_9075b nn a0 a1 h = some r) : mx_R X F L 602 [.ref a0, .int a1] h (some (va_rf r.1), r.2.1, r.2.2.1, r.2.2.2) := by
  have hm : mx_mt 602 = some (yJ7_copyOf_9075b, cJ7_copyOf_9075b, 3, (some (.array .byte))) := mt_J7_copyOf_9075b
  show mx_S X F L 602 0 [(0, .ref a0), (1, .int a1)] [] h 0 0 (some (va_rf r.1), r.2.1, r.2.2.1, r.2.2.2)
  unfold f_J7_copyOf_9075b at hf
  refine mx_S.pu (pc2 := 1) (lv2 := [(0, .ref a0), (1, .int a1)]) (st2 := [.int a1]) hm dJ7_copyOf_9075b_0 rfl ?_
  refine mx_S.pu (pc2 := 2) (lv2 := [(0, .ref a0), (1, .int a1)]) (st2 := [.ref a0, .int a1]) hm dJ7_copyOf_9075b_1 rfl ?_
  replace hf := mx_sv_el hf; obtain ⟨v1, e_v1, hf⟩ := hf
  refine sx_len hm dJ7_copyOf_9075b_2 e_v1 ?_
  clear e_v1
  rcases mx_if_el hf with ⟨c9, hf⟩ | ⟨c9, hf⟩
  · refine sb_ic_ne hm dJ7_copyOf_9075b_3 (tgt := 14) rfl (fun _ => ?_) (fun z => absurd c9 z)
    refine mx_S.pu (pc2 := 15) (lv2 := [(0, .ref a0), (1, .int a1)]) (st2 := [.int a1]) hm dJ7_copyOf_9075b_14 rfl ?_
    replace hf := mx_gd_el hf; obtain ⟨c2, hf⟩ := hf
    replace hf := mx_sv_el hf; obtain ⟨u3, e_u3, hf⟩ := hf
    refine sx_na hm dJ7_copyOf_9075b_15 rfl (Or.inr (Or.inl rfl)) c2 e_u3 ?_
    clear e_u3
    refine mx_S.pu (pc2 := 18) (lv2 := [(2, .ref u3.1), (0, .ref a0), (1, .int a1)]) (st2 := []) hm dJ7_copyOf_9075b_17 rfl ?_
    refine mx_S.pu (pc2 := 19) (lv2 := [(2, .ref u3.1), (0, .ref a0), (1, .int a1)]) (st2 := [.ref a0]) hm dJ7_copyOf_9075b_18 rfl ?_
    refine sx_ic (v := 0) hm dJ7_copyOf_9075b_19 (by decide) ?_
    refine mx_S.pu (pc2 := 21) (lv2 := [(2, .ref u3.1), (0, .ref a0), (1, .int a1)]) (st2 := [.ref u3.1, .int 0, .ref a0]) hm dJ7_copyOf_9075b_20 rfl ?_
    refine sx_ic (v := 0) hm dJ7_copyOf_9075b_21 (by decide) ?_
    refine mx_S.pu (pc2 := 23) (lv2 := [(2, .ref u3.1), (0, .ref a0), (1, .int a1)]) (st2 := [.ref a0, .int 0, .ref u3.1, .int 0, .ref a0]) hm dJ7_copyOf_9075b_22 rfl ?_
    replace hf := mx_sv_el hf; obtain ⟨v4, e_v4, hf⟩ := hf
    refine sx_len hm dJ7_copyOf_9075b_23 e_v4 ?_
    clear e_v4
    refine mx_S.pu (pc2 := 25) (lv2 := [(2, .ref u3.1), (0, .ref a0), (1, .int a1)]) (st2 := [.int a1, .int v4, .int 0, .ref u3.1, .int 0, .ref a0]) hm dJ7_copyOf_9075b_24 rfl ?_
    replace hf := xl_el hf; obtain ⟨v5, e_v5, hf⟩ := hf
    refine sx_min hm dJ7_copyOf_9075b_25 rs_RJ7_304 (by omega) (Nat.le_trans (Nat.le_of_ble_eq_true rfl : _ ≤ 60) (by omega)) ?_
    rw [e_v5]
    clear e_v5
    replace hf := mx_sv_el hf; obtain ⟨h6, e_h6, hf⟩ := hf
    refine sx_copy hm dJ7_copyOf_9075b_28 rs_RJ7_150 e_h6 (by omega) (Nat.le_trans (Nat.le_of_ble_eq_true rfl : _ ≤ 60) (by omega)) ?_
    clear e_h6
    refine mx_S.pu (pc2 := 32) (lv2 := [(2, .ref u3.1), (0, .ref a0), (1, .int a1)]) (st2 := [.ref u3.1]) hm dJ7_copyOf_9075b_31 rfl ?_
    cases hf
    exact sx_are hm dJ7_copyOf_9075b_32 rfl rfl (v := (some u3.1))
  · refine sb_ic_ne hm dJ7_copyOf_9075b_3 (tgt := 14) rfl (fun z => absurd z c9) (fun _ => ?_)
    refine mx_S.pu (pc2 := 7) (lv2 := [(0, .ref a0), (1, .int a1)]) (st2 := [.ref a0]) hm dJ7_copyOf_9075b_6 rfl ?_
    replace hf := mx_sv_el hf; obtain ⟨u7, e_u7, hf⟩ := hf
    refine sx_cl hm dJ7_copyOf_9075b_7 rs_RJ7_310 (by omega) (Nat.le_trans (Nat.le_of_ble_eq_true rfl : _ ≤ 60) (by omega)) e_u7 ?_
    clear e_u7
    replace hf := mx_sv_el hf; obtain ⟨v8, e_v8, hf⟩ := hf
    refine sx_ct hm dJ7_copyOf_9075b_10 rs_RJ7_200311 e_v8 ?_
    clear e_v8
    cases hf
    exact sx_are hm dJ7_copyOf_9075b_13 rfl rfl (v := (some u7.1))
set_option maxHeartbeats 4000000 in
theorem f_J7_rangeCheck_23922_ok (X : Nat × (Nat → Int32)) {F L : Nat} (hF : 0 ≤ F) (hL : 0 ≤ L) (nn : Nat) (a0 : Int32) (a1 : Int32) (a2 : Int32) (h : mx_H) {r : mx_H} (hf : f_J7_rangeCheck_23922 nn a0 a1 a2 h = some r) : mx_R X F L 599 [.int a0, .int a1, .int a2] h (none, r, 0, 0) := by
  have hm : mx_mt 599 = some (yJ7_rangeCheck_23922, cJ7_rangeCheck_23922, 3, none) := mt_J7_rangeCheck_23922
  show mx_S X F L 599 0 [(0, .int a0), (1, .int a1), (2, .int a2)] [] h 0 0 (none, r, 0, 0)
  unfold f_J7_rangeCheck_23922 at hf
  refine mx_S.pu (pc2 := 1) (lv2 := [(0, .int a0), (1, .int a1), (2, .int a2)]) (st2 := [.int a1]) hm dJ7_rangeCheck_23922_0 rfl ?_
  refine mx_S.pu (pc2 := 2) (lv2 := [(0, .int a0), (1, .int a1), (2, .int a2)]) (st2 := [.int a2, .int a1]) hm dJ7_rangeCheck_23922_1 rfl ?_
  rcases mx_if_el hf with ⟨c3, hf⟩ | ⟨c3, hf⟩
  · refine sb_ic_le hm dJ7_rangeCheck_23922_2 (tgt := 46) rfl (fun _ => ?_) (fun z => absurd c3 z)
    refine mx_S.pu (pc2 := 47) (lv2 := [(0, .int a0), (1, .int a1), (2, .int a2)]) (st2 := [.int a1]) hm dJ7_rangeCheck_23922_46 rfl ?_
    rcases mx_if_el hf with ⟨c2, hf⟩ | ⟨c2, hf⟩
    · refine sb_if_ge hm dJ7_rangeCheck_23922_47 (tgt := 59) rfl (fun _ => ?_) (fun z => absurd c2 z)
      refine mx_S.pu (pc2 := 60) (lv2 := [(0, .int a0), (1, .int a1), (2, .int a2)]) (st2 := [.int a2]) hm dJ7_rangeCheck_23922_59 rfl ?_
      refine mx_S.pu (pc2 := 61) (lv2 := [(0, .int a0), (1, .int a1), (2, .int a2)]) (st2 := [.int a0, .int a2]) hm dJ7_rangeCheck_23922_60 rfl ?_
      rcases mx_if_el hf with ⟨c1, hf⟩ | ⟨c1, hf⟩
      · refine sb_ic_le hm dJ7_rangeCheck_23922_61 (tgt := 73) rfl (fun _ => ?_) (fun z => absurd c1 z)
        cases hf
        exact sx_ret hm dJ7_rangeCheck_23922_73 rfl
      · refine sb_ic_le hm dJ7_rangeCheck_23922_61 (tgt := 73) rfl (fun z => absurd z c1) (fun _ => ?_)
        cases hf
    · refine sb_if_ge hm dJ7_rangeCheck_23922_47 (tgt := 59) rfl (fun z => absurd z c2) (fun _ => ?_)
      cases hf
  · refine sb_ic_le hm dJ7_rangeCheck_23922_2 (tgt := 46) rfl (fun z => absurd z c3) (fun _ => ?_)
    cases hf
set_option maxHeartbeats 4000000 in
theorem w_J7_fill_fda19_10_ok (X : Nat × (Nat → Int32)) {F L : Nat} (hF : 1 ≤ F) (hL : 22 ≤ L) (nn : Nat) : ∀ (k : Nat) (l0 : Nat) (l2 : Int32) (l3 : Int32) (l4 : Int32) (h : mx_H) (r : mx_H), w_J7_fill_fda19_10 nn k l0 l2 l3 l4 h = some r → mx_S X F L 601 10 [(0, .ref l0), (2, .int l2), (3, .int l3), (4, .int l4)] [] h 0 0 (none, r, 0, 0) := by
  have hm : mx_mt 601 = some (yJ7_fill_fda19, cJ7_fill_fda19, 5, none) := mt_J7_fill_fda19
  intro k
  induction k with
  | zero => intro l0 l2 l3 l4 h r hf; cases hf
  | succ k ih =>
    intro l0 l2 l3 l4 h r hf
    unfold w_J7_fill_fda19_10 at hf
    refine mx_S.pu (pc2 := 12) (lv2 := [(0, .ref l0), (2, .int l2), (3, .int l3), (4, .int l4)]) (st2 := [.int l4]) hm dJ7_fill_fda19_10 rfl ?_
    refine mx_S.pu (pc2 := 13) (lv2 := [(0, .ref l0), (2, .int l2), (3, .int l3), (4, .int l4)]) (st2 := [.int l2, .int l4]) hm dJ7_fill_fda19_12 rfl ?_
    rcases mx_if_el hf with ⟨c3, hf⟩ | ⟨c3, hf⟩
    · refine sb_ic_ge hm dJ7_fill_fda19_13 (tgt := 27) rfl (fun _ => ?_) (fun z => absurd c3 z)
      cases hf
      exact sx_ret hm dJ7_fill_fda19_27 rfl
    · refine sb_ic_ge hm dJ7_fill_fda19_13 (tgt := 27) rfl (fun z => absurd z c3) (fun _ => ?_)
      refine mx_S.pu (pc2 := 17) (lv2 := [(0, .ref l0), (2, .int l2), (3, .int l3), (4, .int l4)]) (st2 := [.ref l0]) hm dJ7_fill_fda19_16 rfl ?_
      refine mx_S.pu (pc2 := 19) (lv2 := [(0, .ref l0), (2, .int l2), (3, .int l3), (4, .int l4)]) (st2 := [.int l4, .ref l0]) hm dJ7_fill_fda19_17 rfl ?_
      refine mx_S.pu (pc2 := 20) (lv2 := [(0, .ref l0), (2, .int l2), (3, .int l3), (4, .int l4)]) (st2 := [.int l3, .int l4, .ref l0]) hm dJ7_fill_fda19_19 rfl ?_
      replace hf := mx_sv_el hf; obtain ⟨h1, e_h1, hf⟩ := hf
      refine sx_ast hm dJ7_fill_fda19_20 e_h1 ?_
      clear e_h1
      replace hf := xl_el hf; obtain ⟨v2, e_v2, hf⟩ := hf
      refine mx_S.pu (pc2 := 24) (lv2 := [(4, .int v2), (0, .ref l0), (2, .int l2), (3, .int l3)]) (st2 := []) hm dJ7_fill_fda19_21 (by rw [← e_v2]; rfl) ?_
      clear e_v2
      refine mx_S.pu (pc2 := 10) (lv2 := [(4, .int v2), (0, .ref l0), (2, .int l2), (3, .int l3)]) (st2 := []) hm dJ7_fill_fda19_24 rfl ?_
      refine mx_S.ext [(0, .ref l0), (2, .int l2), (3, .int l3), (4, .int v2)] (mx_sub_pos [1, 2, 3, 0] rfl (show ([4, 0, 2, 3] : List Nat).Nodup by decide)) ?_
      exact ih l0 l2 l3 v2 h1 _ hf
set_option maxHeartbeats 4000000 in
theorem f_J7_fill_fda19_ok (X : Nat × (Nat → Int32)) {F L : Nat} (hF : 1 ≤ F) (hL : 22 ≤ L) (nn : Nat) (a0 : Nat) (a1 : Int32) (a2 : Int32) (a3 : Int32) (h : mx_H) {r : mx_H} (hf : f_J7_fill_fda19 nn a0 a1 a2 a3 h = some r) : mx_R X F L 601 [.ref a0, .int a1, .int a2, .int a3] h (none, r, 0, 0) := by
  have hm : mx_mt 601 = some (yJ7_fill_fda19, cJ7_fill_fda19, 5, none) := mt_J7_fill_fda19
  show mx_S X F L 601 0 [(0, .ref a0), (1, .int a1), (2, .int a2), (3, .int a3)] [] h 0 0 (none, r, 0, 0)
  unfold f_J7_fill_fda19 at hf
  refine mx_S.pu (pc2 := 1) (lv2 := [(0, .ref a0), (1, .int a1), (2, .int a2), (3, .int a3)]) (st2 := [.ref a0]) hm dJ7_fill_fda19_0 rfl ?_
  replace hf := mx_sv_el hf; obtain ⟨v4, e_v4, hf⟩ := hf
  refine sx_len hm dJ7_fill_fda19_1 e_v4 ?_
  clear e_v4
  refine mx_S.pu (pc2 := 3) (lv2 := [(0, .ref a0), (1, .int a1), (2, .int a2), (3, .int a3)]) (st2 := [.int a1, .int v4]) hm dJ7_fill_fda19_2 rfl ?_
  refine mx_S.pu (pc2 := 4) (lv2 := [(0, .ref a0), (1, .int a1), (2, .int a2), (3, .int a3)]) (st2 := [.int a2, .int a1, .int v4]) hm dJ7_fill_fda19_3 rfl ?_
  replace hf := mx_sv_el hf; obtain ⟨u5, e_u5, hf⟩ := hf
  refine sx_cs hm dJ7_fill_fda19_4 rs_RJ7_13 mt_J7_rangeCheck_23922 [.int v4, .int a1, .int a2] [] rfl rfl (Nat.le_of_ble_eq_true rfl) (Nat.le_of_ble_eq_true rfl) (by omega) (by omega) (f_J7_rangeCheck_23922_ok X (by omega) (by omega) nn v4 a1 a2 h e_u5) ?_
  clear e_u5
  show mx_S X F L 601 7 [(0, .ref a0), (1, .int a1), (2, .int a2), (3, .int a3)] [] u5 0 0 (none, r, 0, 0)
  refine mx_S.pu (pc2 := 8) (lv2 := [(0, .ref a0), (1, .int a1), (2, .int a2), (3, .int a3)]) (st2 := [.int a1]) hm dJ7_fill_fda19_7 rfl ?_
  refine mx_S.pu (pc2 := 10) (lv2 := [(4, .int a1), (0, .ref a0), (1, .int a1), (2, .int a2), (3, .int a3)]) (st2 := []) hm dJ7_fill_fda19_8 rfl ?_
  refine mx_S.ext [(0, .ref a0), (2, .int a2), (3, .int a3), (4, .int a1)] (mx_sub_pos [1, 3, 4, 0] rfl (show ([4, 0, 1, 2, 3] : List Nat).Nodup by decide)) ?_
  exact w_J7_fill_fda19_10_ok X hF hL nn nn a0 a2 a3 a1 u5 _ hf
set_option maxHeartbeats 4000000 in
theorem j_X4_endsAbove_33_ok (X : Nat × (Nat → Int32)) {F L : Nat} (hF : 0 ≤ F) (hL : 0 ≤ L) (nn : Nat) (l2 : Int32) (h : mx_H) {r : (Int32 × mx_H)} (hf : j_X4_endsAbove_33 nn l2 h = some r) : mx_S X F L 141 33 [(2, .int l2)] [] h 0 0 (some (.int r.1), r.2, 0, 0) := by
  have hm : mx_mt 141 = some (yX4_endsAbove, cX4_endsAbove, 4, (some .boolean)) := mt_X4_endsAbove
  unfold j_X4_endsAbove_33 at hf
  refine mx_S.pu (pc2 := 34) (lv2 := [(2, .int l2)]) (st2 := [.int l2]) hm dX4_endsAbove_33 rfl ?_
  refine sx_ic (v := (-1)) hm dX4_endsAbove_34 (by decide) ?_
  rcases mx_if_el hf with ⟨c1, hf⟩ | ⟨c1, hf⟩
  · refine sb_ic_ne hm dX4_endsAbove_35 (tgt := 42) rfl (fun _ => ?_) (fun z => absurd c1 z)
    refine sx_ic (v := 0) hm dX4_endsAbove_42 (by decide) ?_
    cases hf
    exact sx_ire hm dX4_endsAbove_43 rfl (by decide)
  · refine sb_ic_ne hm dX4_endsAbove_35 (tgt := 42) rfl (fun z => absurd z c1) (fun _ => ?_)
    refine sx_ic (v := 1) hm dX4_endsAbove_38 (by decide) ?_
    refine mx_S.pu (pc2 := 43) (lv2 := [(2, .int l2)]) (st2 := [.int 1]) hm dX4_endsAbove_39 rfl ?_
    cases hf
    exact sx_ire hm dX4_endsAbove_43 rfl (by decide)
set_option maxHeartbeats 4000000 in
theorem w_X4_endsAbove_4_ok (X : Nat × (Nat → Int32)) {F L : Nat} (hF : 0 ≤ F) (hL : 0 ≤ L) (nn : Nat) : ∀ (k : Nat) (l0 : Nat) (l2 : Int32) (l3 : Int32) (h : mx_H) (r : (Int32 × mx_H)), w_X4_endsAbove_4 nn k l0 l2 l3 h = some r → mx_S X F L 141 4 [(0, .ref l0), (2, .int l2), (3, .int l3)] [] h 0 0 (some (.int r.1), r.2, 0, 0) := by
  have hm : mx_mt 141 = some (yX4_endsAbove, cX4_endsAbove, 4, (some .boolean)) := mt_X4_endsAbove
  intro k
  induction k with
  | zero => intro l0 l2 l3 h r hf; cases hf
  | succ k ih =>
    intro l0 l2 l3 h r hf
    unfold w_X4_endsAbove_4 at hf
    refine mx_S.pu (pc2 := 5) (lv2 := [(0, .ref l0), (2, .int l2), (3, .int l3)]) (st2 := [.int l3]) hm dX4_endsAbove_4 rfl ?_
    refine sx_bi (v := 16) hm dX4_endsAbove_5 (by decide) ?_
    rcases mx_if_el hf with ⟨c7, hf⟩ | ⟨c7, hf⟩
    · refine sb_ic_gt hm dX4_endsAbove_7 (tgt := 33) rfl (fun _ => ?_) (fun z => absurd c7 z)
      refine mx_S.ext [(2, .int l2)] (mx_sub_pos [1] rfl (show ([0, 2, 3] : List Nat).Nodup by decide)) ?_
      exact j_X4_endsAbove_33_ok X hF hL nn l2 h hf
    · refine sb_ic_gt hm dX4_endsAbove_7 (tgt := 33) rfl (fun z => absurd z c7) (fun _ => ?_)
      refine mx_S.pu (pc2 := 11) (lv2 := [(0, .ref l0), (2, .int l2), (3, .int l3)]) (st2 := [.int l2]) hm dX4_endsAbove_10 rfl ?_
      rcases mx_if_el hf with ⟨c6, hf⟩ | ⟨c6, hf⟩
      · refine sb_if_lt hm dX4_endsAbove_11 (tgt := 33) rfl (fun _ => ?_) (fun z => absurd c6 z)
        refine mx_S.ext [(2, .int l2)] (mx_sub_pos [1] rfl (show ([0, 2, 3] : List Nat).Nodup by decide)) ?_
        exact j_X4_endsAbove_33_ok X hF hL nn l2 h hf
      · refine sb_if_lt hm dX4_endsAbove_11 (tgt := 33) rfl (fun z => absurd z c6) (fun _ => ?_)
        refine mx_S.pu (pc2 := 15) (lv2 := [(0, .ref l0), (2, .int l2), (3, .int l3)]) (st2 := [.int l2]) hm dX4_endsAbove_14 rfl ?_
        refine sx_bi (v := 16) hm dX4_endsAbove_15 (by decide) ?_
        rcases mx_if_el hf with ⟨c5, hf⟩ | ⟨c5, hf⟩
        · refine sb_ic_ge hm dX4_endsAbove_17 (tgt := 33) rfl (fun _ => ?_) (fun z => absurd c5 z)
          refine mx_S.ext [(2, .int l2)] (mx_sub_pos [1] rfl (show ([0, 2, 3] : List Nat).Nodup by decide)) ?_
          exact j_X4_endsAbove_33_ok X hF hL nn l2 h hf
        · refine sb_ic_ge hm dX4_endsAbove_17 (tgt := 33) rfl (fun z => absurd z c5) (fun _ => ?_)
          refine mx_S.pu (pc2 := 21) (lv2 := [(0, .ref l0), (2, .int l2), (3, .int l3)]) (st2 := [.ref l0]) hm dX4_endsAbove_20 rfl ?_
          replace hf := mx_sv_el hf; obtain ⟨v2, e_v2, hf⟩ := hf
          refine sx_get hm dX4_endsAbove_21 rs_RX4_11 (xgr_el e_v2) ?_
          clear e_v2
          refine mx_S.pu (pc2 := 25) (lv2 := [(0, .ref l0), (2, .int l2), (3, .int l3)]) (st2 := [.int l2, .ref v2]) hm dX4_endsAbove_24 rfl ?_
          replace hf := mx_sv_el hf; obtain ⟨v3, e_v3, hf⟩ := hf
          refine sx_ald hm dX4_endsAbove_25 e_v3 ?_
          clear e_v3
          refine mx_S.pu (pc2 := 27) (lv2 := [(2, .int v3), (0, .ref l0), (3, .int l3)]) (st2 := []) hm dX4_endsAbove_26 rfl ?_
          replace hf := xl_el hf; obtain ⟨v4, e_v4, hf⟩ := hf
          refine mx_S.pu (pc2 := 30) (lv2 := [(3, .int v4), (2, .int v3), (0, .ref l0)]) (st2 := []) hm dX4_endsAbove_27 (by rw [← e_v4]; rfl) ?_
          clear e_v4
          refine mx_S.pu (pc2 := 4) (lv2 := [(3, .int v4), (2, .int v3), (0, .ref l0)]) (st2 := []) hm dX4_endsAbove_30 rfl ?_
          refine mx_S.ext [(0, .ref l0), (2, .int v3), (3, .int v4)] (mx_sub_pos [2, 1, 0] rfl (show ([3, 2, 0] : List Nat).Nodup by decide)) ?_
          exact ih l0 v3 v4 h _ hf
set_option maxHeartbeats 4000000 in
theorem f_X4_endsAbove_ok (X : Nat × (Nat → Int32)) {F L : Nat} (hF : 0 ≤ F) (hL : 0 ≤ L) (nn : Nat) (a0 : Nat) (a1 : Int32) (h : mx_H) {r : (Int32 × mx_H)} (hf : f_X4_endsAbove nn a0 a1 h = some r) : mx_R X F L 141 [.ref a0, .int a1] h (some (.int r.1), r.2, 0, 0) := by
  have hm : mx_mt 141 = some (yX4_endsAbove, cX4_endsAbove, 4, (some .boolean)) := mt_X4_endsAbove
  show mx_S X F L 141 0 [(0, .ref a0), (1, .int a1)] [] h 0 0 (some (.int r.1), r.2, 0, 0)
  unfold f_X4_endsAbove at hf
  refine mx_S.pu (pc2 := 1) (lv2 := [(0, .ref a0), (1, .int a1)]) (st2 := [.int a1]) hm dX4_endsAbove_0 rfl ?_
  refine mx_S.pu (pc2 := 2) (lv2 := [(2, .int a1), (0, .ref a0), (1, .int a1)]) (st2 := []) hm dX4_endsAbove_1 rfl ?_
  refine sx_ic (v := 0) hm dX4_endsAbove_2 (by decide) ?_
  refine mx_S.pu (pc2 := 4) (lv2 := [(3, .int 0), (2, .int a1), (0, .ref a0), (1, .int a1)]) (st2 := []) hm dX4_endsAbove_3 rfl ?_
  refine mx_S.ext [(0, .ref a0), (2, .int a1), (3, .int 0)] (mx_sub_pos [2, 1, 0] rfl (show ([3, 2, 0, 1] : List Nat).Nodup by decide)) ?_
  exact w_X4_endsAbove_4_ok X hF hL nn nn a0 a1 0 h _ hf
