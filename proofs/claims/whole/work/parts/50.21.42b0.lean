def hg5_X13_block (X : Nat × (Nat → Int32)) (d : Nat) (rc : tg_X13_block) : Prop := (∀ {F L : Nat}, 705 + d ≤ F → 19709 + d * 24 ≤ L → ∀ (a0 : Nat) (a1 : Int32) (h : mx_H) {r : (Int32 × mx_H)}, rc.1 a0 a1 h = some r → mx_R X F L 403 [.ref a0, .int a1] h (some (.int r.1), r.2, 0, 0)) ∧ (∀ {F L : Nat}, 705 + d ≤ F → 19709 + d * 24 ≤ L → ∀ (a0 : Nat) (a1 : Int32) (h : mx_H) {r : (Int32 × mx_H)}, rc.2 a0 a1 h = some r → mx_R X F L 405 [.ref a0, .int a1] h (some (.int r.1), r.2, 0, 0))
set_option maxHeartbeats 4000000 in
set_option maxRecDepth 20000 in
theorem j_X13_block_79_ok (X : Nat × (Nat → Int32)) {F L d : Nat} (hF : 705 + (d + 1) ≤ F) (hL : 19709 + (d + 1) * 24 ≤ L) (nn : Nat) {rc : tg_X13_block} (hrc : hg5_X13_block X d rc) (l0 : Nat) (l2 : Int32) (h : mx_H) {r : (Int32 × mx_H)} (hf : j_X13_block_79 nn rc l0 l2 h = some r) : mx_S X F L 403 79 [(0, .ref l0), (2, .int l2)] [] h 0 0 (some (.int r.1), r.2, 0, 0) := by
  have hm : mx_mt 403 = some (yX13_block, cX13_block, 5, (some .int)) := mt_X13_block
  unfold j_X13_block_79 at hf
  refine mx_S.pu (pc2 := 80) (lv2 := [(0, .ref l0), (2, .int l2)]) (st2 := [.ref l0]) hm dX13_block_79 rfl ?_
  refine sx_bi (v := 125) hm dX13_block_80 (by decide) ?_
  replace hf := mx_gd_el hf; obtain ⟨c1, hf⟩ := hf
  replace hf := mx_sv_el hf; obtain ⟨u2, e_u2, hf⟩ := hf
  refine sx_cv hm dX13_block_82 rs_RX13_406 mt_X13_sign_ [.int 125] [] (b := l0) (ci := 13) rfl rfl rfl c1 (Nat.le_of_ble_eq_true rfl) (Nat.le_of_ble_eq_true rfl) (by omega) (by omega) (f_X13_sign__ok X (by omega) (by omega) nn l0 125 h e_u2) ?_
  clear e_u2
  show mx_S X F L 403 85 [(0, .ref l0), (2, .int l2)] [] u2 0 0 (some (.int r.1), r.2, 0, 0)
  refine mx_S.pu (pc2 := 86) (lv2 := [(0, .ref l0), (2, .int l2)]) (st2 := [.int l2]) hm dX13_block_85 rfl ?_
  cases hf
  exact sx_ire hm dX13_block_86 rfl rfl
set_option maxHeartbeats 4000000 in
set_option maxRecDepth 20000 in
theorem w_X13_block_22_ok (X : Nat × (Nat → Int32)) {F L d : Nat} (hF : 705 + (d + 1) ≤ F) (hL : 19709 + (d + 1) * 24 ≤ L) (nn : Nat) {rc : tg_X13_block} (hrc : hg5_X13_block X d rc) : ∀ (k : Nat) (l0 : Nat) (l1 : Int32) (l2 : Int32) (l3 : Int32) (h : mx_H) (r : (Int32 × mx_H)), w_X13_block_22 nn rc k l0 l1 l2 l3 h = some r → mx_S X F L 403 22 [(0, .ref l0), (1, .int l1), (2, .int l2), (3, .int l3)] [] h 0 0 (some (.int r.1), r.2, 0, 0) := by
  have hm : mx_mt 403 = some (yX13_block, cX13_block, 5, (some .int)) := mt_X13_block
  intro k
  induction k with
  | zero => intro l0 l1 l2 l3 h r hf; cases hf
  | succ k ih =>
    intro l0 l1 l2 l3 h r hf
    unfold w_X13_block_22 at hf
    refine mx_S.pu (pc2 := 23) (lv2 := [(0, .ref l0), (1, .int l1), (2, .int l2), (3, .int l3)]) (st2 := [.ref l0]) hm dX13_block_22 rfl ?_
    replace hf := mx_sv_el hf; obtain ⟨v3, e_v3, hf⟩ := hf
    refine sx_get hm dX13_block_23 rs_RX13_319 (xgi_el e_v3) ?_
    clear e_v3
    rcases mx_if_el hf with ⟨c15, hf⟩ | ⟨c15, hf⟩
    · refine sb_if_ne hm dX13_block_26 (tgt := 79) rfl (fun _ => ?_) (fun z => absurd c15 z)
      refine mx_S.ext [(0, .ref l0), (2, .int l2)] (mx_sub_pos [0, 2] rfl (show ([0, 1, 2, 3] : List Nat).Nodup by decide)) ?_
      exact j_X13_block_79_ok X hF hL nn hrc l0 l2 h hf
    · refine sb_if_ne hm dX13_block_26 (tgt := 79) rfl (fun z => absurd z c15) (fun _ => ?_)
      refine mx_S.pu (pc2 := 30) (lv2 := [(0, .ref l0), (1, .int l1), (2, .int l2), (3, .int l3)]) (st2 := [.ref l0]) hm dX13_block_29 rfl ?_
      refine mx_S.pu (pc2 := 31) (lv2 := [(0, .ref l0), (1, .int l1), (2, .int l2), (3, .int l3)]) (st2 := [.ref l0, .ref l0]) hm dX13_block_30 rfl ?_
      replace hf := mx_sv_el hf; obtain ⟨v4, e_v4, hf⟩ := hf
      refine sx_get hm dX13_block_31 rs_RX13_376 (xgi_el e_v4) ?_
      clear e_v4
      refine sx_bi (v := 125) hm dX13_block_34 (by decide) ?_
      replace hf := mx_gd_el hf; obtain ⟨c5, hf⟩ := hf
      replace hf := mx_sv_el hf; obtain ⟨u6, e_u6, hf⟩ := hf
      refine sx_cv hm dX13_block_36 rs_RX13_383 mt_X13_isSign [.int v4, .int 125] [] (b := l0) (ci := 13) rfl rfl rfl c5 (Nat.le_of_ble_eq_true rfl) (Nat.le_of_ble_eq_true rfl) (by omega) (by omega) (f_X13_isSign_ok X (by omega) (by omega) nn l0 v4 125 h e_u6) ?_
      clear e_u6
      show mx_S X F L 403 39 [(0, .ref l0), (1, .int l1), (2, .int l2), (3, .int l3)] [.int u6.1] u6.2 0 0 (some (.int r.1), r.2, 0, 0)
      rcases mx_if_el hf with ⟨c14, hf⟩ | ⟨c14, hf⟩
      · refine sb_if_ne hm dX13_block_39 (tgt := 79) rfl (fun _ => ?_) (fun z => absurd c14 z)
        refine mx_S.ext [(0, .ref l0), (2, .int l2)] (mx_sub_pos [0, 2] rfl (show ([0, 1, 2, 3] : List Nat).Nodup by decide)) ?_
        exact j_X13_block_79_ok X hF hL nn hrc l0 l2 u6.2 hf
      · refine sb_if_ne hm dX13_block_39 (tgt := 79) rfl (fun z => absurd z c14) (fun _ => ?_)
        refine mx_S.pu (pc2 := 43) (lv2 := [(0, .ref l0), (1, .int l1), (2, .int l2), (3, .int l3)]) (st2 := [.ref l0]) hm dX13_block_42 rfl ?_
        refine mx_S.pu (pc2 := 44) (lv2 := [(0, .ref l0), (1, .int l1), (2, .int l2), (3, .int l3)]) (st2 := [.int l1, .ref l0]) hm dX13_block_43 rfl ?_
        replace hf := mx_gd_el hf; obtain ⟨c7, hf⟩ := hf
        replace hf := mx_sv_el hf; obtain ⟨u8, e_u8, hf⟩ := hf
        refine sx_cv hm dX13_block_44 rs_RX13_434 mt_X13_statement [.int l1] [] (b := l0) (ci := 13) rfl rfl rfl c7 (Nat.le_of_ble_eq_true rfl) (Nat.le_of_ble_eq_true rfl) (by omega) (by omega) (hrc.2 (by omega) (by omega) l0 l1 u6.2 e_u8) ?_
        clear e_u8
        show mx_S X F L 403 47 [(0, .ref l0), (1, .int l1), (2, .int l2), (3, .int l3)] [.int u8.1] u8.2 0 0 (some (.int r.1), r.2, 0, 0)
        refine mx_S.pu (pc2 := 49) (lv2 := [(4, .int u8.1), (0, .ref l0), (1, .int l1), (2, .int l2), (3, .int l3)]) (st2 := []) hm dX13_block_47 rfl ?_
        refine mx_S.pu (pc2 := 50) (lv2 := [(4, .int u8.1), (0, .ref l0), (1, .int l1), (2, .int l2), (3, .int l3)]) (st2 := [.int l3]) hm dX13_block_49 rfl ?_
        refine sx_ic (v := (-1)) hm dX13_block_50 (by decide) ?_
        rcases mx_if_el hf with ⟨c13, hf⟩ | ⟨c13, hf⟩
        · refine sb_ic_ne hm dX13_block_51 (tgt := 65) rfl (fun _ => ?_) (fun z => absurd c13 z)
          refine mx_S.pu (pc2 := 66) (lv2 := [(4, .int u8.1), (0, .ref l0), (1, .int l1), (2, .int l2), (3, .int l3)]) (st2 := [.ref l0]) hm dX13_block_65 rfl ?_
          replace hf := mx_sv_el hf; obtain ⟨v9, e_v9, hf⟩ := hf
          refine sx_get hm dX13_block_66 rs_RX13_46 (xgr_el e_v9) ?_
          clear e_v9
          refine mx_S.pu (pc2 := 70) (lv2 := [(4, .int u8.1), (0, .ref l0), (1, .int l1), (2, .int l2), (3, .int l3)]) (st2 := [.int l3, .ref v9]) hm dX13_block_69 rfl ?_
          refine mx_S.pu (pc2 := 72) (lv2 := [(4, .int u8.1), (0, .ref l0), (1, .int l1), (2, .int l2), (3, .int l3)]) (st2 := [.int u8.1, .int l3, .ref v9]) hm dX13_block_70 rfl ?_
          replace hf := mx_sv_el hf; obtain ⟨h10, e_h10, hf⟩ := hf
          refine sx_ast hm dX13_block_72 e_h10 ?_
          clear e_h10
          refine mx_S.pu (pc2 := 75) (lv2 := [(4, .int u8.1), (0, .ref l0), (1, .int l1), (2, .int l2), (3, .int l3)]) (st2 := [.int u8.1]) hm dX13_block_73 rfl ?_
          refine mx_S.pu (pc2 := 76) (lv2 := [(3, .int u8.1), (4, .int u8.1), (0, .ref l0), (1, .int l1), (2, .int l2)]) (st2 := []) hm dX13_block_75 rfl ?_
          refine mx_S.pu (pc2 := 22) (lv2 := [(3, .int u8.1), (4, .int u8.1), (0, .ref l0), (1, .int l1), (2, .int l2)]) (st2 := []) hm dX13_block_76 rfl ?_
          refine mx_S.ext [(0, .ref l0), (1, .int l1), (2, .int l2), (3, .int u8.1)] (mx_sub_pos [2, 3, 4, 0] rfl (show ([3, 4, 0, 1, 2] : List Nat).Nodup by decide)) ?_
          exact ih l0 l1 l2 u8.1 h10 _ hf
        · refine sb_ic_ne hm dX13_block_51 (tgt := 65) rfl (fun z => absurd z c13) (fun _ => ?_)
          refine mx_S.pu (pc2 := 55) (lv2 := [(4, .int u8.1), (0, .ref l0), (1, .int l1), (2, .int l2), (3, .int l3)]) (st2 := [.ref l0]) hm dX13_block_54 rfl ?_
          replace hf := mx_sv_el hf; obtain ⟨v11, e_v11, hf⟩ := hf
          refine sx_get hm dX13_block_55 rs_RX13_37 (xgr_el e_v11) ?_
          clear e_v11
          refine mx_S.pu (pc2 := 59) (lv2 := [(4, .int u8.1), (0, .ref l0), (1, .int l1), (2, .int l2), (3, .int l3)]) (st2 := [.int l2, .ref v11]) hm dX13_block_58 rfl ?_
          refine mx_S.pu (pc2 := 61) (lv2 := [(4, .int u8.1), (0, .ref l0), (1, .int l1), (2, .int l2), (3, .int l3)]) (st2 := [.int u8.1, .int l2, .ref v11]) hm dX13_block_59 rfl ?_
          replace hf := mx_sv_el hf; obtain ⟨h12, e_h12, hf⟩ := hf
          refine sx_ast hm dX13_block_61 e_h12 ?_
          clear e_h12
          refine mx_S.pu (pc2 := 73) (lv2 := [(4, .int u8.1), (0, .ref l0), (1, .int l1), (2, .int l2), (3, .int l3)]) (st2 := []) hm dX13_block_62 rfl ?_
          refine mx_S.pu (pc2 := 75) (lv2 := [(4, .int u8.1), (0, .ref l0), (1, .int l1), (2, .int l2), (3, .int l3)]) (st2 := [.int u8.1]) hm dX13_block_73 rfl ?_
          refine mx_S.pu (pc2 := 76) (lv2 := [(3, .int u8.1), (4, .int u8.1), (0, .ref l0), (1, .int l1), (2, .int l2)]) (st2 := []) hm dX13_block_75 rfl ?_
          refine mx_S.pu (pc2 := 22) (lv2 := [(3, .int u8.1), (4, .int u8.1), (0, .ref l0), (1, .int l1), (2, .int l2)]) (st2 := []) hm dX13_block_76 rfl ?_
          refine mx_S.ext [(0, .ref l0), (1, .int l1), (2, .int l2), (3, .int u8.1)] (mx_sub_pos [2, 3, 4, 0] rfl (show ([3, 4, 0, 1, 2] : List Nat).Nodup by decide)) ?_
          exact ih l0 l1 l2 u8.1 h12 _ hf
set_option maxHeartbeats 4000000 in
set_option maxRecDepth 20000 in
theorem o_X13_block_ok (X : Nat × (Nat → Int32)) {F L d : Nat} (hF : 705 + (d + 1) ≤ F) (hL : 19709 + (d + 1) * 24 ≤ L) (nn : Nat) {rc : tg_X13_block} (hrc : hg5_X13_block X d rc) (a0 : Nat) (a1 : Int32) (h : mx_H) {r : (Int32 × mx_H)} (hf : o_X13_block nn rc a0 a1 h = some r) : mx_R X F L 403 [.ref a0, .int a1] h (some (.int r.1), r.2, 0, 0) := by
  have hm : mx_mt 403 = some (yX13_block, cX13_block, 5, (some .int)) := mt_X13_block
  show mx_S X F L 403 0 [(0, .ref a0), (1, .int a1)] [] h 0 0 (some (.int r.1), r.2, 0, 0)
  unfold o_X13_block at hf
  refine mx_S.pu (pc2 := 1) (lv2 := [(0, .ref a0), (1, .int a1)]) (st2 := [.ref a0]) hm dX13_block_0 rfl ?_
  refine sx_ic (v := 1) hm dX13_block_1 (by decide) ?_
  refine mx_S.pu (pc2 := 3) (lv2 := [(0, .ref a0), (1, .int a1)]) (st2 := [.ref a0, .int 1, .ref a0]) hm dX13_block_2 rfl ?_
  replace hf := mx_sv_el hf; obtain ⟨v16, e_v16, hf⟩ := hf
  refine sx_get hm dX13_block_3 rs_RX13_376 (xgi_el e_v16) ?_
  clear e_v16
  refine mx_S.pu (pc2 := 7) (lv2 := [(0, .ref a0), (1, .int a1)]) (st2 := [.ref a0, .int v16, .int 1, .ref a0]) hm dX13_block_6 rfl ?_
  replace hf := mx_sv_el hf; obtain ⟨v17, e_v17, hf⟩ := hf
  refine sx_get hm dX13_block_7 rs_RX13_376 (xgi_el e_v17) ?_
  clear e_v17
  replace hf := mx_gd_el hf; obtain ⟨c18, hf⟩ := hf
  replace hf := mx_sv_el hf; obtain ⟨u19, e_u19, hf⟩ := hf
  refine sx_cv hm dX13_block_10 rs_RX13_430 mt_X13_add [.int 1, .int v16, .int v17] [] (b := a0) (ci := 13) rfl rfl rfl c18 (Nat.le_of_ble_eq_true rfl) (Nat.le_of_ble_eq_true rfl) (by omega) (by omega) (f_X13_add_ok X (by omega) (by omega) nn a0 1 v16 v17 h e_u19) ?_
  clear e_u19
  show mx_S X F L 403 13 [(0, .ref a0), (1, .int a1)] [.int u19.1] u19.2 0 0 (some (.int r.1), r.2, 0, 0)
  refine mx_S.pu (pc2 := 14) (lv2 := [(2, .int u19.1), (0, .ref a0), (1, .int a1)]) (st2 := []) hm dX13_block_13 rfl ?_
  refine mx_S.pu (pc2 := 15) (lv2 := [(2, .int u19.1), (0, .ref a0), (1, .int a1)]) (st2 := [.ref a0]) hm dX13_block_14 rfl ?_
  refine sx_bi (v := 123) hm dX13_block_15 (by decide) ?_
  replace hf := mx_gd_el hf; obtain ⟨c20, hf⟩ := hf
  replace hf := mx_sv_el hf; obtain ⟨u21, e_u21, hf⟩ := hf
  refine sx_cv hm dX13_block_17 rs_RX13_406 mt_X13_sign_ [.int 123] [] (b := a0) (ci := 13) rfl rfl rfl c20 (Nat.le_of_ble_eq_true rfl) (Nat.le_of_ble_eq_true rfl) (by omega) (by omega) (f_X13_sign__ok X (by omega) (by omega) nn a0 123 u19.2 e_u21) ?_
  clear e_u21
  show mx_S X F L 403 20 [(2, .int u19.1), (0, .ref a0), (1, .int a1)] [] u21 0 0 (some (.int r.1), r.2, 0, 0)
  refine sx_ic (v := (-1)) hm dX13_block_20 (by decide) ?_
  refine mx_S.pu (pc2 := 22) (lv2 := [(3, .int (-1)), (2, .int u19.1), (0, .ref a0), (1, .int a1)]) (st2 := []) hm dX13_block_21 rfl ?_
  refine mx_S.ext [(0, .ref a0), (1, .int a1), (2, .int u19.1), (3, .int (-1))] (mx_sub_pos [2, 3, 1, 0] rfl (show ([3, 2, 0, 1] : List Nat).Nodup by decide)) ?_
  exact w_X13_block_22_ok X hF hL nn hrc nn a0 a1 u19.1 (-1) u21 _ hf
set_option maxHeartbeats 4000000 in
set_option maxRecDepth 20000 in
theorem j_X13_statement_755_ok (X : Nat × (Nat → Int32)) {F L d : Nat} (hF : 705 + (d + 1) ≤ F) (hL : 19709 + (d + 1) * 24 ≤ L) (nn : Nat) {rc : tg_X13_block} (hrc : hg5_X13_block X d rc) (l0 : Nat) (l1 : Int32) (h : mx_H) {r : (Int32 × mx_H)} (hf : j_X13_statement_755 nn rc l0 l1 h = some r) : mx_S X F L 405 755 [(0, .ref l0), (1, .int l1)] [] h 0 0 (some (.int r.1), r.2, 0, 0) := by
  have hm : mx_mt 405 = some (yX13_statement, cX13_statement, 4, (some .int)) := mt_X13_statement
  unfold j_X13_statement_755 at hf
  refine mx_S.pu (pc2 := 756) (lv2 := [(0, .ref l0), (1, .int l1)]) (st2 := [.ref l0]) hm dX13_statement_755 rfl ?_
  refine mx_S.pu (pc2 := 757) (lv2 := [(0, .ref l0), (1, .int l1)]) (st2 := [.int l1, .ref l0]) hm dX13_statement_756 rfl ?_
  replace hf := mx_gd_el hf; obtain ⟨c1, hf⟩ := hf
  replace hf := mx_sv_el hf; obtain ⟨u2, e_u2, hf⟩ := hf
  refine sx_cv hm dX13_statement_757 rs_RX13_447 mt_X13_plain [.int l1] [] (b := l0) (ci := 13) rfl rfl rfl c1 (Nat.le_of_ble_eq_true rfl) (Nat.le_of_ble_eq_true rfl) (by omega) (by omega) (f_X13_plain_ok X (by omega) (by omega) nn l0 l1 h e_u2) ?_
  clear e_u2
  show mx_S X F L 405 760 [(0, .ref l0), (1, .int l1)] [.int u2.1] u2.2 0 0 (some (.int r.1), r.2, 0, 0)
  cases hf
  exact sx_ire hm dX13_statement_760 rfl rfl
set_option maxHeartbeats 4000000 in
set_option maxRecDepth 20000 in
theorem j_X13_statement_698_ok (X : Nat × (Nat → Int32)) {F L d : Nat} (hF : 705 + (d + 1) ≤ F) (hL : 19709 + (d + 1) * 24 ≤ L) (nn : Nat) {rc : tg_X13_block} (hrc : hg5_X13_block X d rc) (l3 : Int32) (h : mx_H) {r : (Int32 × mx_H)} (hf : j_X13_statement_698 nn rc l3 h = some r) : mx_S X F L 405 698 [(3, .int l3)] [] h 0 0 (some (.int r.1), r.2, 0, 0) := by
  have hm : mx_mt 405 = some (yX13_statement, cX13_statement, 4, (some .int)) := mt_X13_statement
  unfold j_X13_statement_698 at hf
  refine mx_S.pu (pc2 := 699) (lv2 := [(3, .int l3)]) (st2 := [.int l3]) hm dX13_statement_698 rfl ?_
  cases hf
  exact sx_ire hm dX13_statement_699 rfl rfl
set_option maxHeartbeats 4000000 in
set_option maxRecDepth 20000 in
theorem j_X13_statement_562_ok (X : Nat × (Nat → Int32)) {F L d : Nat} (hF : 705 + (d + 1) ≤ F) (hL : 19709 + (d + 1) * 24 ≤ L) (nn : Nat) {rc : tg_X13_block} (hrc : hg5_X13_block X d rc) (l0 : Nat) (l3 : Int32) (h : mx_H) {r : (Int32 × mx_H)} (hf : j_X13_statement_562 nn rc l0 l3 h = some r) : mx_S X F L 405 562 [(0, .ref l0), (3, .int l3)] [] h 0 0 (some (.int r.1), r.2, 0, 0) := by
  have hm : mx_mt 405 = some (yX13_statement, cX13_statement, 4, (some .int)) := mt_X13_statement
  unfold j_X13_statement_562 at hf
  refine mx_S.pu (pc2 := 563) (lv2 := [(0, .ref l0), (3, .int l3)]) (st2 := [.ref l0]) hm dX13_statement_562 rfl ?_
  refine sx_bi (v := 59) hm dX13_statement_563 (by decide) ?_
  replace hf := mx_gd_el hf; obtain ⟨c3, hf⟩ := hf
  replace hf := mx_sv_el hf; obtain ⟨u4, e_u4, hf⟩ := hf
  refine sx_cv hm dX13_statement_565 rs_RX13_406 mt_X13_sign_ [.int 59] [] (b := l0) (ci := 13) rfl rfl rfl c3 (Nat.le_of_ble_eq_true rfl) (Nat.le_of_ble_eq_true rfl) (by omega) (by omega) (f_X13_sign__ok X (by omega) (by omega) nn l0 59 h e_u4) ?_
  clear e_u4
  show mx_S X F L 405 568 [(0, .ref l0), (3, .int l3)] [] u4 0 0 (some (.int r.1), r.2, 0, 0)
  refine mx_S.pu (pc2 := 569) (lv2 := [(0, .ref l0), (3, .int l3)]) (st2 := [.int l3]) hm dX13_statement_568 rfl ?_
  cases hf
  exact sx_ire hm dX13_statement_569 rfl rfl
set_option maxHeartbeats 4000000 in
set_option maxRecDepth 20000 in
theorem j_X13_statement_487_ok (X : Nat × (Nat → Int32)) {F L d : Nat} (hF : 705 + (d + 1) ≤ F) (hL : 19709 + (d + 1) * 24 ≤ L) (nn : Nat) {rc : tg_X13_block} (hrc : hg5_X13_block X d rc) (l0 : Nat) (l2 : Int32) (s0 : Int32) (s1 : Nat) (h : mx_H) {r : (Int32 × mx_H)} (hf : j_X13_statement_487 nn rc l0 l2 s0 s1 h = some r) : mx_S X F L 405 487 [(0, .ref l0), (2, .int l2)] [.int s0, .ref s1] h 0 0 (some (.int r.1), r.2, 0, 0) := by
  have hm : mx_mt 405 = some (yX13_statement, cX13_statement, 4, (some .int)) := mt_X13_statement
  unfold j_X13_statement_487 at hf
  refine mx_S.pu (pc2 := 488) (lv2 := [(0, .ref l0), (2, .int l2)]) (st2 := [.ref l0, .int s0, .ref s1]) hm dX13_statement_487 rfl ?_
  replace hf := mx_sv_el hf; obtain ⟨v5, e_v5, hf⟩ := hf
  refine sx_get hm dX13_statement_488 rs_RX13_376 (xgi_el e_v5) ?_
  clear e_v5
  refine mx_S.pu (pc2 := 492) (lv2 := [(0, .ref l0), (2, .int l2)]) (st2 := [.int l2, .int v5, .int s0, .ref s1]) hm dX13_statement_491 rfl ?_
  replace hf := mx_gd_el hf; obtain ⟨c6, hf⟩ := hf
  replace hf := mx_sv_el hf; obtain ⟨u7, e_u7, hf⟩ := hf
  refine sx_cv hm dX13_statement_492 rs_RX13_430 mt_X13_add [.int s0, .int v5, .int l2] [] (b := s1) (ci := 13) rfl rfl rfl c6 (Nat.le_of_ble_eq_true rfl) (Nat.le_of_ble_eq_true rfl) (by omega) (by omega) (f_X13_add_ok X (by omega) (by omega) nn s1 s0 v5 l2 h e_u7) ?_
  clear e_u7
  show mx_S X F L 405 495 [(0, .ref l0), (2, .int l2)] [.int u7.1] u7.2 0 0 (some (.int r.1), r.2, 0, 0)
  refine mx_S.pu (pc2 := 496) (lv2 := [(3, .int u7.1), (0, .ref l0), (2, .int l2)]) (st2 := []) hm dX13_statement_495 rfl ?_
  refine mx_S.pu (pc2 := 497) (lv2 := [(3, .int u7.1), (0, .ref l0), (2, .int l2)]) (st2 := [.ref l0]) hm dX13_statement_496 rfl ?_
  refine mx_S.pu (pc2 := 498) (lv2 := [(3, .int u7.1), (0, .ref l0), (2, .int l2)]) (st2 := [.ref l0, .ref l0]) hm dX13_statement_497 rfl ?_
  replace hf := mx_sv_el hf; obtain ⟨v8, e_v8, hf⟩ := hf
  refine sx_get hm dX13_statement_498 rs_RX13_376 (xgi_el e_v8) ?_
  clear e_v8
  refine sx_ic (v := 1) hm dX13_statement_501 (by decide) ?_
  replace hf := xl_el hf; obtain ⟨v9, e_v9, hf⟩ := hf
  refine mx_S.pu (pc2 := 503) (lv2 := [(3, .int u7.1), (0, .ref l0), (2, .int l2)]) (st2 := [.int v9, .ref l0]) hm dX13_statement_502 (by rw [← e_v9]; rfl) ?_
  clear e_v9
  replace hf := mx_sv_el hf; obtain ⟨h10, e_h10, hf⟩ := hf
  refine sx_put hm dX13_statement_503 rs_RX13_376 ft_13_23 ⟨rfl, rfl⟩ (fun z => by cases z) e_h10 ?_
  clear e_h10
  refine mx_S.pu (pc2 := 507) (lv2 := [(3, .int u7.1), (0, .ref l0), (2, .int l2)]) (st2 := [.ref l0]) hm dX13_statement_506 rfl ?_
  refine sx_bi (v := 59) hm dX13_statement_507 (by decide) ?_
  replace hf := mx_gd_el hf; obtain ⟨c11, hf⟩ := hf
  replace hf := mx_sv_el hf; obtain ⟨u12, e_u12, hf⟩ := hf
  refine sx_cv hm dX13_statement_509 rs_RX13_406 mt_X13_sign_ [.int 59] [] (b := l0) (ci := 13) rfl rfl rfl c11 (Nat.le_of_ble_eq_true rfl) (Nat.le_of_ble_eq_true rfl) (by omega) (by omega) (f_X13_sign__ok X (by omega) (by omega) nn l0 59 h10 e_u12) ?_
  clear e_u12
  show mx_S X F L 405 512 [(3, .int u7.1), (0, .ref l0), (2, .int l2)] [] u12 0 0 (some (.int r.1), r.2, 0, 0)
  refine mx_S.pu (pc2 := 513) (lv2 := [(3, .int u7.1), (0, .ref l0), (2, .int l2)]) (st2 := [.int u7.1]) hm dX13_statement_512 rfl ?_
  cases hf
  exact sx_ire hm dX13_statement_513 rfl rfl
set_option maxHeartbeats 4000000 in
set_option maxRecDepth 20000 in
theorem j_X13_statement_467_ok (X : Nat × (Nat → Int32)) {F L d : Nat} (hF : 705 + (d + 1) ≤ F) (hL : 19709 + (d + 1) * 24 ≤ L) (nn : Nat) {rc : tg_X13_block} (hrc : hg5_X13_block X d rc) (l0 : Nat) (l2 : Int32) (h : mx_H) {r : (Int32 × mx_H)} (hf : j_X13_statement_467 nn rc l0 l2 h = some r) : mx_S X F L 405 467 [(0, .ref l0), (2, .int l2)] [] h 0 0 (some (.int r.1), r.2, 0, 0) := by
  have hm : mx_mt 405 = some (yX13_statement, cX13_statement, 4, (some .int)) := mt_X13_statement
  unfold j_X13_statement_467 at hf
  refine mx_S.pu (pc2 := 468) (lv2 := [(0, .ref l0), (2, .int l2)]) (st2 := [.ref l0]) hm dX13_statement_467 rfl ?_
  refine mx_S.pu (pc2 := 469) (lv2 := [(0, .ref l0), (2, .int l2)]) (st2 := [.ref l0, .ref l0]) hm dX13_statement_468 rfl ?_
  replace hf := mx_sv_el hf; obtain ⟨v13, e_v13, hf⟩ := hf
  refine sx_get hm dX13_statement_469 rs_RX13_25 (xgr_el e_v13) ?_
  clear e_v13
  refine mx_S.pu (pc2 := 473) (lv2 := [(0, .ref l0), (2, .int l2)]) (st2 := [.ref l0, .ref v13, .ref l0]) hm dX13_statement_472 rfl ?_
  replace hf := mx_sv_el hf; obtain ⟨v14, e_v14, hf⟩ := hf
  refine sx_get hm dX13_statement_473 rs_RX13_376 (xgi_el e_v14) ?_
  clear e_v14
  replace hf := mx_sv_el hf; obtain ⟨v15, e_v15, hf⟩ := hf
  refine sx_ald hm dX13_statement_476 e_v15 ?_
  clear e_v15
  refine sx_ic (v := 1) hm dX13_statement_477 (by decide) ?_
  rcases mx_if_el hf with ⟨c16, hf⟩ | ⟨c16, hf⟩
  · refine sb_ic_ne hm dX13_statement_478 (tgt := 485) rfl (fun _ => ?_) (fun z => absurd c16 z)
    refine sx_bi (v := 6) hm dX13_statement_485 (by decide) ?_
    exact j_X13_statement_487_ok X hF hL nn hrc l0 l2 6 l0 h hf
  · refine sb_ic_ne hm dX13_statement_478 (tgt := 485) rfl (fun z => absurd z c16) (fun _ => ?_)
    refine sx_ic (v := 5) hm dX13_statement_481 (by decide) ?_
    refine mx_S.pu (pc2 := 487) (lv2 := [(0, .ref l0), (2, .int l2)]) (st2 := [.int 5, .ref l0]) hm dX13_statement_482 rfl ?_
    exact j_X13_statement_487_ok X hF hL nn hrc l0 l2 5 l0 h hf
set_option maxHeartbeats 4000000 in
set_option maxRecDepth 20000 in
theorem j_X13_statement_432_ok (X : Nat × (Nat → Int32)) {F L d : Nat} (hF : 705 + (d + 1) ≤ F) (hL : 19709 + (d + 1) * 24 ≤ L) (nn : Nat) {rc : tg_X13_block} (hrc : hg5_X13_block X d rc) (l0 : Nat) (l1 : Int32) (l3 : Int32) (s0 : Int32) (s1 : Int32) (s2 : Nat) (h : mx_H) {r : (Int32 × mx_H)} (hf : j_X13_statement_432 nn rc l0 l1 l3 s0 s1 s2 h = some r) : mx_S X F L 405 432 [(0, .ref l0), (1, .int l1), (3, .int l3)] [.int s0, .int s1, .ref s2] h 0 0 (some (.int r.1), r.2, 0, 0) := by
  have hm : mx_mt 405 = some (yX13_statement, cX13_statement, 4, (some .int)) := mt_X13_statement
  unfold j_X13_statement_432 at hf
  replace hf := mx_sv_el hf; obtain ⟨h17, e_h17, hf⟩ := hf
  refine sx_ast hm dX13_statement_432 e_h17 ?_
  clear e_h17
  refine mx_S.pu (pc2 := 434) (lv2 := [(0, .ref l0), (1, .int l1), (3, .int l3)]) (st2 := [.ref l0]) hm dX13_statement_433 rfl ?_
  replace hf := mx_sv_el hf; obtain ⟨v18, e_v18, hf⟩ := hf
  refine sx_get hm dX13_statement_434 rs_RX13_37 (xgr_el e_v18) ?_
  clear e_v18
  refine mx_S.pu (pc2 := 438) (lv2 := [(0, .ref l0), (1, .int l1), (3, .int l3)]) (st2 := [.int l3, .ref v18]) hm dX13_statement_437 rfl ?_
  refine mx_S.pu (pc2 := 439) (lv2 := [(0, .ref l0), (1, .int l1), (3, .int l3)]) (st2 := [.ref l0, .int l3, .ref v18]) hm dX13_statement_438 rfl ?_
  refine mx_S.pu (pc2 := 440) (lv2 := [(0, .ref l0), (1, .int l1), (3, .int l3)]) (st2 := [.int l1, .ref l0, .int l3, .ref v18]) hm dX13_statement_439 rfl ?_
  refine sx_ic (v := 1) hm dX13_statement_440 (by decide) ?_
  replace hf := xl_el hf; obtain ⟨v19, e_v19, hf⟩ := hf
  refine mx_S.pu (pc2 := 442) (lv2 := [(0, .ref l0), (1, .int l1), (3, .int l3)]) (st2 := [.int v19, .ref l0, .int l3, .ref v18]) hm dX13_statement_441 (by rw [← e_v19]; rfl) ?_
  clear e_v19
  replace hf := mx_gd_el hf; obtain ⟨c20, hf⟩ := hf
  replace hf := mx_sv_el hf; obtain ⟨u21, e_u21, hf⟩ := hf
  refine sx_cv hm dX13_statement_442 rs_RX13_444 mt_X13_expression [.int v19] [.int l3, .ref v18] (b := l0) (ci := 13) rfl rfl rfl c20 (Nat.le_of_ble_eq_true rfl) (Nat.le_of_ble_eq_true rfl) (by omega) (by omega) (f_X13_expression_ok X (by omega) (by omega) nn l0 v19 h17 e_u21) ?_
  clear e_u21
  show mx_S X F L 405 445 [(0, .ref l0), (1, .int l1), (3, .int l3)] [.int u21.1, .int l3, .ref v18] u21.2 0 0 (some (.int r.1), r.2, 0, 0)
  replace hf := mx_sv_el hf; obtain ⟨h22, e_h22, hf⟩ := hf
  refine sx_ast hm dX13_statement_445 e_h22 ?_
  clear e_h22
  refine mx_S.pu (pc2 := 447) (lv2 := [(0, .ref l0), (1, .int l1), (3, .int l3)]) (st2 := [.ref l0]) hm dX13_statement_446 rfl ?_
  refine sx_bi (v := 41) hm dX13_statement_447 (by decide) ?_
  replace hf := mx_gd_el hf; obtain ⟨c23, hf⟩ := hf
  replace hf := mx_sv_el hf; obtain ⟨u24, e_u24, hf⟩ := hf
  refine sx_cv hm dX13_statement_449 rs_RX13_406 mt_X13_sign_ [.int 41] [] (b := l0) (ci := 13) rfl rfl rfl c23 (Nat.le_of_ble_eq_true rfl) (Nat.le_of_ble_eq_true rfl) (by omega) (by omega) (f_X13_sign__ok X (by omega) (by omega) nn l0 41 h22 e_u24) ?_
  clear e_u24
  show mx_S X F L 405 452 [(0, .ref l0), (1, .int l1), (3, .int l3)] [] u24 0 0 (some (.int r.1), r.2, 0, 0)
  refine mx_S.pu (pc2 := 453) (lv2 := [(0, .ref l0), (1, .int l1), (3, .int l3)]) (st2 := [.ref l0]) hm dX13_statement_452 rfl ?_
  replace hf := mx_sv_el hf; obtain ⟨v25, e_v25, hf⟩ := hf
  refine sx_get hm dX13_statement_453 rs_RX13_40 (xgr_el e_v25) ?_
  clear e_v25
  refine mx_S.pu (pc2 := 457) (lv2 := [(0, .ref l0), (1, .int l1), (3, .int l3)]) (st2 := [.int l3, .ref v25]) hm dX13_statement_456 rfl ?_
  refine mx_S.pu (pc2 := 458) (lv2 := [(0, .ref l0), (1, .int l1), (3, .int l3)]) (st2 := [.ref l0, .int l3, .ref v25]) hm dX13_statement_457 rfl ?_
  refine mx_S.pu (pc2 := 459) (lv2 := [(0, .ref l0), (1, .int l1), (3, .int l3)]) (st2 := [.int l1, .ref l0, .int l3, .ref v25]) hm dX13_statement_458 rfl ?_
  refine sx_ic (v := 1) hm dX13_statement_459 (by decide) ?_
  replace hf := xl_el hf; obtain ⟨v26, e_v26, hf⟩ := hf
  refine mx_S.pu (pc2 := 461) (lv2 := [(0, .ref l0), (1, .int l1), (3, .int l3)]) (st2 := [.int v26, .ref l0, .int l3, .ref v25]) hm dX13_statement_460 (by rw [← e_v26]; rfl) ?_
  clear e_v26
  replace hf := mx_gd_el hf; obtain ⟨c27, hf⟩ := hf
  replace hf := mx_sv_el hf; obtain ⟨u28, e_u28, hf⟩ := hf
  refine sx_cv hm dX13_statement_461 rs_RX13_434 mt_X13_statement [.int v26] [.int l3, .ref v25] (b := l0) (ci := 13) rfl rfl rfl c27 (Nat.le_of_ble_eq_true rfl) (Nat.le_of_ble_eq_true rfl) (by omega) (by omega) (hrc.2 (by omega) (by omega) l0 v26 u24 e_u28) ?_
  clear e_u28
  show mx_S X F L 405 464 [(0, .ref l0), (1, .int l1), (3, .int l3)] [.int u28.1, .int l3, .ref v25] u28.2 0 0 (some (.int r.1), r.2, 0, 0)
  replace hf := mx_sv_el hf; obtain ⟨h29, e_h29, hf⟩ := hf
  refine sx_ast hm dX13_statement_464 e_h29 ?_
  clear e_h29
  refine mx_S.pu (pc2 := 466) (lv2 := [(0, .ref l0), (1, .int l1), (3, .int l3)]) (st2 := [.int l3]) hm dX13_statement_465 rfl ?_
  cases hf
  exact sx_ire hm dX13_statement_466 rfl rfl
set_option maxHeartbeats 4000000 in
set_option maxRecDepth 20000 in
theorem j_X13_statement_431_ok (X : Nat × (Nat → Int32)) {F L d : Nat} (hF : 705 + (d + 1) ≤ F) (hL : 19709 + (d + 1) * 24 ≤ L) (nn : Nat) {rc : tg_X13_block} (hrc : hg5_X13_block X d rc) (l0 : Nat) (l1 : Int32) (l3 : Int32) (s0 : Int32) (s1 : Nat) (h : mx_H) {r : (Int32 × mx_H)} (hf : j_X13_statement_431 nn rc l0 l1 l3 s0 s1 h = some r) : mx_S X F L 405 431 [(0, .ref l0), (1, .int l1), (3, .int l3)] [.int s0, .ref s1] h 0 0 (some (.int r.1), r.2, 0, 0) := by
  have hm : mx_mt 405 = some (yX13_statement, cX13_statement, 4, (some .int)) := mt_X13_statement
  unfold j_X13_statement_431 at hf
  refine sx_ic (v := 0) hm dX13_statement_431 (by decide) ?_
  exact j_X13_statement_432_ok X hF hL nn hrc l0 l1 l3 0 s0 s1 h hf
set_option maxHeartbeats 4000000 in
set_option maxRecDepth 20000 in
theorem j_X13_statement_310_ok (X : Nat × (Nat → Int32)) {F L d : Nat} (hF : 705 + (d + 1) ≤ F) (hL : 19709 + (d + 1) * 24 ≤ L) (nn : Nat) {rc : tg_X13_block} (hrc : hg5_X13_block X d rc) (l0 : Nat) (l1 : Int32) (l3 : Int32) (h : mx_H) {r : (Int32 × mx_H)} (hf : j_X13_statement_310 nn rc l0 l1 l3 h = some r) : mx_S X F L 405 310 [(0, .ref l0), (1, .int l1), (3, .int l3)] [] h 0 0 (some (.int r.1), r.2, 0, 0) := by
  have hm : mx_mt 405 = some (yX13_statement, cX13_statement, 4, (some .int)) := mt_X13_statement
  unfold j_X13_statement_310 at hf
  refine mx_S.pu (pc2 := 311) (lv2 := [(0, .ref l0), (1, .int l1), (3, .int l3)]) (st2 := [.ref l0]) hm dX13_statement_310 rfl ?_
  replace hf := mx_sv_el hf; obtain ⟨v30, e_v30, hf⟩ := hf
  refine sx_get hm dX13_statement_311 rs_RX13_40 (xgr_el e_v30) ?_
  clear e_v30
  refine mx_S.pu (pc2 := 315) (lv2 := [(0, .ref l0), (1, .int l1), (3, .int l3)]) (st2 := [.int l3, .ref v30]) hm dX13_statement_314 rfl ?_
  refine mx_S.pu (pc2 := 316) (lv2 := [(0, .ref l0), (1, .int l1), (3, .int l3)]) (st2 := [.ref l0, .int l3, .ref v30]) hm dX13_statement_315 rfl ?_
  refine mx_S.pu (pc2 := 317) (lv2 := [(0, .ref l0), (1, .int l1), (3, .int l3)]) (st2 := [.int l1, .ref l0, .int l3, .ref v30]) hm dX13_statement_316 rfl ?_
  refine sx_ic (v := 1) hm dX13_statement_317 (by decide) ?_
  replace hf := xl_el hf; obtain ⟨v31, e_v31, hf⟩ := hf
  refine mx_S.pu (pc2 := 319) (lv2 := [(0, .ref l0), (1, .int l1), (3, .int l3)]) (st2 := [.int v31, .ref l0, .int l3, .ref v30]) hm dX13_statement_318 (by rw [← e_v31]; rfl) ?_
  clear e_v31
  replace hf := mx_gd_el hf; obtain ⟨c32, hf⟩ := hf
  replace hf := mx_sv_el hf; obtain ⟨u33, e_u33, hf⟩ := hf
  refine sx_cv hm dX13_statement_319 rs_RX13_434 mt_X13_statement [.int v31] [.int l3, .ref v30] (b := l0) (ci := 13) rfl rfl rfl c32 (Nat.le_of_ble_eq_true rfl) (Nat.le_of_ble_eq_true rfl) (by omega) (by omega) (hrc.2 (by omega) (by omega) l0 v31 h e_u33) ?_
  clear e_u33
  show mx_S X F L 405 322 [(0, .ref l0), (1, .int l1), (3, .int l3)] [.int u33.1, .int l3, .ref v30] u33.2 0 0 (some (.int r.1), r.2, 0, 0)
  replace hf := mx_sv_el hf; obtain ⟨h34, e_h34, hf⟩ := hf
  refine sx_ast hm dX13_statement_322 e_h34 ?_
  clear e_h34
  refine mx_S.pu (pc2 := 324) (lv2 := [(0, .ref l0), (1, .int l1), (3, .int l3)]) (st2 := [.ref l0]) hm dX13_statement_323 rfl ?_
  replace hf := mx_sv_el hf; obtain ⟨v35, e_v35, hf⟩ := hf
  refine sx_get hm dX13_statement_324 rs_RX13_319 (xgi_el e_v35) ?_
  clear e_v35
  rcases mx_if_el hf with ⟨c48, hf⟩ | ⟨c48, hf⟩
  · refine sb_if_ne hm dX13_statement_327 (tgt := 365) rfl (fun _ => ?_) (fun z => absurd c48 z)
    refine mx_S.pu (pc2 := 366) (lv2 := [(0, .ref l0), (1, .int l1), (3, .int l3)]) (st2 := [.int l3]) hm dX13_statement_365 rfl ?_
    cases hf
    exact sx_ire hm dX13_statement_366 rfl rfl
  · refine sb_if_ne hm dX13_statement_327 (tgt := 365) rfl (fun z => absurd z c48) (fun _ => ?_)
    refine mx_S.pu (pc2 := 331) (lv2 := [(0, .ref l0), (1, .int l1), (3, .int l3)]) (st2 := [.ref l0]) hm dX13_statement_330 rfl ?_
    refine mx_S.pu (pc2 := 332) (lv2 := [(0, .ref l0), (1, .int l1), (3, .int l3)]) (st2 := [.ref l0, .ref l0]) hm dX13_statement_331 rfl ?_
    replace hf := mx_sv_el hf; obtain ⟨v36, e_v36, hf⟩ := hf
    refine sx_get hm dX13_statement_332 rs_RX13_376 (xgi_el e_v36) ?_
    clear e_v36
    refine sx_ic (v := 5) hm dX13_statement_335 (by decide) ?_
    replace hf := mx_gd_el hf; obtain ⟨c37, hf⟩ := hf
    replace hf := mx_sv_el hf; obtain ⟨u38, e_u38, hf⟩ := hf
    refine sx_cv hm dX13_statement_336 rs_RX13_390 mt_X13_isWord [.int v36, .int 5] [] (b := l0) (ci := 13) rfl rfl rfl c37 (Nat.le_of_ble_eq_true rfl) (Nat.le_of_ble_eq_true rfl) (by omega) (by omega) (f_X13_isWord_ok X (by omega) (by omega) nn l0 v36 5 h34 e_u38) ?_
    clear e_u38
    show mx_S X F L 405 339 [(0, .ref l0), (1, .int l1), (3, .int l3)] [.int u38.1] u38.2 0 0 (some (.int r.1), r.2, 0, 0)
    rcases mx_if_el hf with ⟨c47, hf⟩ | ⟨c47, hf⟩
    · refine sb_if_eq hm dX13_statement_339 (tgt := 365) rfl (fun _ => ?_) (fun z => absurd c47 z)
      refine mx_S.pu (pc2 := 366) (lv2 := [(0, .ref l0), (1, .int l1), (3, .int l3)]) (st2 := [.int l3]) hm dX13_statement_365 rfl ?_
      cases hf
      exact sx_ire hm dX13_statement_366 rfl rfl
    · refine sb_if_eq hm dX13_statement_339 (tgt := 365) rfl (fun z => absurd z c47) (fun _ => ?_)
      refine mx_S.pu (pc2 := 343) (lv2 := [(0, .ref l0), (1, .int l1), (3, .int l3)]) (st2 := [.ref l0]) hm dX13_statement_342 rfl ?_
      refine mx_S.pu (pc2 := 344) (lv2 := [(0, .ref l0), (1, .int l1), (3, .int l3)]) (st2 := [.ref l0, .ref l0]) hm dX13_statement_343 rfl ?_
      replace hf := mx_sv_el hf; obtain ⟨v39, e_v39, hf⟩ := hf
      refine sx_get hm dX13_statement_344 rs_RX13_376 (xgi_el e_v39) ?_
      clear e_v39
      refine sx_ic (v := 1) hm dX13_statement_347 (by decide) ?_
      replace hf := xl_el hf; obtain ⟨v40, e_v40, hf⟩ := hf
      refine mx_S.pu (pc2 := 349) (lv2 := [(0, .ref l0), (1, .int l1), (3, .int l3)]) (st2 := [.int v40, .ref l0]) hm dX13_statement_348 (by rw [← e_v40]; rfl) ?_
      clear e_v40
      replace hf := mx_sv_el hf; obtain ⟨h41, e_h41, hf⟩ := hf
      refine sx_put hm dX13_statement_349 rs_RX13_376 ft_13_23 ⟨rfl, rfl⟩ (fun z => by cases z) e_h41 ?_
      clear e_h41
      refine mx_S.pu (pc2 := 353) (lv2 := [(0, .ref l0), (1, .int l1), (3, .int l3)]) (st2 := [.ref l0]) hm dX13_statement_352 rfl ?_
      replace hf := mx_sv_el hf; obtain ⟨v42, e_v42, hf⟩ := hf
      refine sx_get hm dX13_statement_353 rs_RX13_43 (xgr_el e_v42) ?_
      clear e_v42
      refine mx_S.pu (pc2 := 357) (lv2 := [(0, .ref l0), (1, .int l1), (3, .int l3)]) (st2 := [.int l3, .ref v42]) hm dX13_statement_356 rfl ?_
      refine mx_S.pu (pc2 := 358) (lv2 := [(0, .ref l0), (1, .int l1), (3, .int l3)]) (st2 := [.ref l0, .int l3, .ref v42]) hm dX13_statement_357 rfl ?_
      refine mx_S.pu (pc2 := 359) (lv2 := [(0, .ref l0), (1, .int l1), (3, .int l3)]) (st2 := [.int l1, .ref l0, .int l3, .ref v42]) hm dX13_statement_358 rfl ?_
      refine sx_ic (v := 1) hm dX13_statement_359 (by decide) ?_
      replace hf := xl_el hf; obtain ⟨v43, e_v43, hf⟩ := hf
      refine mx_S.pu (pc2 := 361) (lv2 := [(0, .ref l0), (1, .int l1), (3, .int l3)]) (st2 := [.int v43, .ref l0, .int l3, .ref v42]) hm dX13_statement_360 (by rw [← e_v43]; rfl) ?_
      clear e_v43
      replace hf := mx_gd_el hf; obtain ⟨c44, hf⟩ := hf
      replace hf := mx_sv_el hf; obtain ⟨u45, e_u45, hf⟩ := hf
      refine sx_cv hm dX13_statement_361 rs_RX13_434 mt_X13_statement [.int v43] [.int l3, .ref v42] (b := l0) (ci := 13) rfl rfl rfl c44 (Nat.le_of_ble_eq_true rfl) (Nat.le_of_ble_eq_true rfl) (by omega) (by omega) (hrc.2 (by omega) (by omega) l0 v43 h41 e_u45) ?_
      clear e_u45
      show mx_S X F L 405 364 [(0, .ref l0), (1, .int l1), (3, .int l3)] [.int u45.1, .int l3, .ref v42] u45.2 0 0 (some (.int r.1), r.2, 0, 0)
      replace hf := mx_sv_el hf; obtain ⟨h46, e_h46, hf⟩ := hf
      refine sx_ast hm dX13_statement_364 e_h46 ?_
      clear e_h46
      refine mx_S.pu (pc2 := 366) (lv2 := [(0, .ref l0), (1, .int l1), (3, .int l3)]) (st2 := [.int l3]) hm dX13_statement_365 rfl ?_
      cases hf
      exact sx_ire hm dX13_statement_366 rfl rfl
set_option maxHeartbeats 4000000 in
set_option maxRecDepth 20000 in
theorem j_X13_statement_78_ok (X : Nat × (Nat → Int32)) {F L d : Nat} (hF : 705 + (d + 1) ≤ F) (hL : 19709 + (d + 1) * 24 ≤ L) (nn : Nat) {rc : tg_X13_block} (hrc : hg5_X13_block X d rc) (l0 : Nat) (l1 : Int32) (l3 : Int32) (s0 : Int32) (s1 : Int32) (s2 : Int32) (s3 : Nat) (h : mx_H) {r : (Int32 × mx_H)} (hf : j_X13_statement_78 nn rc l0 l1 l3 s0 s1 s2 s3 h = some r) : mx_S X F L 405 78 [(0, .ref l0), (1, .int l1), (3, .int l3)] [.int s0, .int s1, .int s2, .ref s3] h 0 0 (some (.int r.1), r.2, 0, 0) := by
  have hm : mx_mt 405 = some (yX13_statement, cX13_statement, 4, (some .int)) := mt_X13_statement
  unfold j_X13_statement_78 at hf
  replace hf := xl_el hf; obtain ⟨v49, e_v49, hf⟩ := hf
  refine mx_S.pu (pc2 := 79) (lv2 := [(0, .ref l0), (1, .int l1), (3, .int l3)]) (st2 := [.int v49, .int s2, .ref s3]) hm dX13_statement_78 (by rw [← e_v49]; rfl) ?_
  clear e_v49
  replace hf := mx_sv_el hf; obtain ⟨h50, e_h50, hf⟩ := hf
  refine sx_ast hm dX13_statement_79 e_h50 ?_
  clear e_h50
  refine mx_S.pu (pc2 := 81) (lv2 := [(0, .ref l0), (1, .int l1), (3, .int l3)]) (st2 := [.ref l0]) hm dX13_statement_80 rfl ?_
  replace hf := mx_sv_el hf; obtain ⟨v51, e_v51, hf⟩ := hf
  refine sx_get hm dX13_statement_81 rs_RX13_52 (xgr_el e_v51) ?_
  clear e_v51
  refine mx_S.pu (pc2 := 85) (lv2 := [(0, .ref l0), (1, .int l1), (3, .int l3)]) (st2 := [.int l3, .ref v51]) hm dX13_statement_84 rfl ?_
  refine mx_S.pu (pc2 := 86) (lv2 := [(0, .ref l0), (1, .int l1), (3, .int l3)]) (st2 := [.ref l0, .int l3, .ref v51]) hm dX13_statement_85 rfl ?_
  replace hf := mx_sv_el hf; obtain ⟨v52, e_v52, hf⟩ := hf
  refine sx_get hm dX13_statement_86 rs_RX13_400 (xgi_el e_v52) ?_
  clear e_v52
  replace hf := mx_sv_el hf; obtain ⟨h53, e_h53, hf⟩ := hf
  refine sx_ast hm dX13_statement_89 e_h53 ?_
  clear e_h53
  refine mx_S.pu (pc2 := 91) (lv2 := [(0, .ref l0), (1, .int l1), (3, .int l3)]) (st2 := [.ref l0]) hm dX13_statement_90 rfl ?_
  replace hf := mx_sv_el hf; obtain ⟨v54, e_v54, hf⟩ := hf
  refine sx_get hm dX13_statement_91 rs_RX13_31 (xgr_el e_v54) ?_
  clear e_v54
  refine mx_S.pu (pc2 := 95) (lv2 := [(0, .ref l0), (1, .int l1), (3, .int l3)]) (st2 := [.int l3, .ref v54]) hm dX13_statement_94 rfl ?_
  refine mx_S.pu (pc2 := 96) (lv2 := [(0, .ref l0), (1, .int l1), (3, .int l3)]) (st2 := [.ref l0, .int l3, .ref v54]) hm dX13_statement_95 rfl ?_
  replace hf := mx_gd_el hf; obtain ⟨c55, hf⟩ := hf
  replace hf := mx_sv_el hf; obtain ⟨u56, e_u56, hf⟩ := hf
  refine sx_cv hm dX13_statement_96 rs_RX13_403 mt_X13_name [] [.int l3, .ref v54] (b := l0) (ci := 13) rfl rfl rfl c55 (Nat.le_of_ble_eq_true rfl) (Nat.le_of_ble_eq_true rfl) (by omega) (by omega) (f_X13_name_ok X (by omega) (by omega) nn l0 h53 e_u56) ?_
  clear e_u56
  show mx_S X F L 405 99 [(0, .ref l0), (1, .int l1), (3, .int l3)] [.int u56.1, .int l3, .ref v54] u56.2 0 0 (some (.int r.1), r.2, 0, 0)
  replace hf := mx_sv_el hf; obtain ⟨h57, e_h57, hf⟩ := hf
  refine sx_ast hm dX13_statement_99 e_h57 ?_
  clear e_h57
  refine mx_S.pu (pc2 := 101) (lv2 := [(0, .ref l0), (1, .int l1), (3, .int l3)]) (st2 := [.ref l0]) hm dX13_statement_100 rfl ?_
  replace hf := mx_sv_el hf; obtain ⟨v58, e_v58, hf⟩ := hf
  refine sx_get hm dX13_statement_101 rs_RX13_55 (xgr_el e_v58) ?_
  clear e_v58
  refine mx_S.pu (pc2 := 105) (lv2 := [(0, .ref l0), (1, .int l1), (3, .int l3)]) (st2 := [.int l3, .ref v58]) hm dX13_statement_104 rfl ?_
  refine mx_S.pu (pc2 := 106) (lv2 := [(0, .ref l0), (1, .int l1), (3, .int l3)]) (st2 := [.ref l0, .int l3, .ref v58]) hm dX13_statement_105 rfl ?_
  replace hf := mx_sv_el hf; obtain ⟨v59, e_v59, hf⟩ := hf
  refine sx_get hm dX13_statement_106 rs_RX13_376 (xgi_el e_v59) ?_
  clear e_v59
  replace hf := mx_sv_el hf; obtain ⟨h60, e_h60, hf⟩ := hf
  refine sx_ast hm dX13_statement_109 e_h60 ?_
  clear e_h60
  refine mx_S.pu (pc2 := 111) (lv2 := [(0, .ref l0), (1, .int l1), (3, .int l3)]) (st2 := [.ref l0]) hm dX13_statement_110 rfl ?_
  refine sx_bi (v := 61) hm dX13_statement_111 (by decide) ?_
  replace hf := mx_gd_el hf; obtain ⟨c61, hf⟩ := hf
  replace hf := mx_sv_el hf; obtain ⟨u62, e_u62, hf⟩ := hf
  refine sx_cv hm dX13_statement_113 rs_RX13_406 mt_X13_sign_ [.int 61] [] (b := l0) (ci := 13) rfl rfl rfl c61 (Nat.le_of_ble_eq_true rfl) (Nat.le_of_ble_eq_true rfl) (by omega) (by omega) (f_X13_sign__ok X (by omega) (by omega) nn l0 61 h60 e_u62) ?_
  clear e_u62
  show mx_S X F L 405 116 [(0, .ref l0), (1, .int l1), (3, .int l3)] [] u62 0 0 (some (.int r.1), r.2, 0, 0)
  refine mx_S.pu (pc2 := 117) (lv2 := [(0, .ref l0), (1, .int l1), (3, .int l3)]) (st2 := [.ref l0]) hm dX13_statement_116 rfl ?_
  replace hf := mx_sv_el hf; obtain ⟨v63, e_v63, hf⟩ := hf
  refine sx_get hm dX13_statement_117 rs_RX13_37 (xgr_el e_v63) ?_
  clear e_v63
  refine mx_S.pu (pc2 := 121) (lv2 := [(0, .ref l0), (1, .int l1), (3, .int l3)]) (st2 := [.int l3, .ref v63]) hm dX13_statement_120 rfl ?_
  refine mx_S.pu (pc2 := 122) (lv2 := [(0, .ref l0), (1, .int l1), (3, .int l3)]) (st2 := [.ref l0, .int l3, .ref v63]) hm dX13_statement_121 rfl ?_
  refine mx_S.pu (pc2 := 123) (lv2 := [(0, .ref l0), (1, .int l1), (3, .int l3)]) (st2 := [.int l1, .ref l0, .int l3, .ref v63]) hm dX13_statement_122 rfl ?_
  refine sx_ic (v := 1) hm dX13_statement_123 (by decide) ?_
  replace hf := xl_el hf; obtain ⟨v64, e_v64, hf⟩ := hf
  refine mx_S.pu (pc2 := 125) (lv2 := [(0, .ref l0), (1, .int l1), (3, .int l3)]) (st2 := [.int v64, .ref l0, .int l3, .ref v63]) hm dX13_statement_124 (by rw [← e_v64]; rfl) ?_
  clear e_v64
  replace hf := mx_gd_el hf; obtain ⟨c65, hf⟩ := hf
  replace hf := mx_sv_el hf; obtain ⟨u66, e_u66, hf⟩ := hf
  refine sx_cv hm dX13_statement_125 rs_RX13_444 mt_X13_expression [.int v64] [.int l3, .ref v63] (b := l0) (ci := 13) rfl rfl rfl c65 (Nat.le_of_ble_eq_true rfl) (Nat.le_of_ble_eq_true rfl) (by omega) (by omega) (f_X13_expression_ok X (by omega) (by omega) nn l0 v64 u62 e_u66) ?_
  clear e_u66
  show mx_S X F L 405 128 [(0, .ref l0), (1, .int l1), (3, .int l3)] [.int u66.1, .int l3, .ref v63] u66.2 0 0 (some (.int r.1), r.2, 0, 0)
  replace hf := mx_sv_el hf; obtain ⟨h67, e_h67, hf⟩ := hf
  refine sx_ast hm dX13_statement_128 e_h67 ?_
  clear e_h67
  refine mx_S.pu (pc2 := 130) (lv2 := [(0, .ref l0), (1, .int l1), (3, .int l3)]) (st2 := [.ref l0]) hm dX13_statement_129 rfl ?_
  refine sx_bi (v := 59) hm dX13_statement_130 (by decide) ?_
  replace hf := mx_gd_el hf; obtain ⟨c68, hf⟩ := hf
  replace hf := mx_sv_el hf; obtain ⟨u69, e_u69, hf⟩ := hf
  refine sx_cv hm dX13_statement_132 rs_RX13_406 mt_X13_sign_ [.int 59] [] (b := l0) (ci := 13) rfl rfl rfl c68 (Nat.le_of_ble_eq_true rfl) (Nat.le_of_ble_eq_true rfl) (by omega) (by omega) (f_X13_sign__ok X (by omega) (by omega) nn l0 59 h67 e_u69) ?_
  clear e_u69
  show mx_S X F L 405 135 [(0, .ref l0), (1, .int l1), (3, .int l3)] [] u69 0 0 (some (.int r.1), r.2, 0, 0)
  refine mx_S.pu (pc2 := 136) (lv2 := [(0, .ref l0), (1, .int l1), (3, .int l3)]) (st2 := [.int l3]) hm dX13_statement_135 rfl ?_
  cases hf
  exact sx_ire hm dX13_statement_136 rfl rfl
set_option maxHeartbeats 4000000 in
set_option maxRecDepth 20000 in
theorem o_X13_statement_ok (X : Nat × (Nat → Int32)) {F L d : Nat} (hF : 705 + (d + 1) ≤ F) (hL : 19709 + (d + 1) * 24 ≤ L) (nn : Nat) {rc : tg_X13_block} (hrc : hg5_X13_block X d rc) (a0 : Nat) (a1 : Int32) (h : mx_H) {r : (Int32 × mx_H)} (hf : o_X13_statement nn rc a0 a1 h = some r) : mx_R X F L 405 [.ref a0, .int a1] h (some (.int r.1), r.2, 0, 0) := by
  have hm : mx_mt 405 = some (yX13_statement, cX13_statement, 4, (some .int)) := mt_X13_statement
  show mx_S X F L 405 0 [(0, .ref a0), (1, .int a1)] [] h 0 0 (some (.int r.1), r.2, 0, 0)
  unfold o_X13_statement at hf
  refine mx_S.pu (pc2 := 1) (lv2 := [(0, .ref a0), (1, .int a1)]) (st2 := [.ref a0]) hm dX13_statement_0 rfl ?_
  refine mx_S.pu (pc2 := 2) (lv2 := [(0, .ref a0), (1, .int a1)]) (st2 := [.int a1, .ref a0]) hm dX13_statement_1 rfl ?_
  replace hf := mx_gd_el hf; obtain ⟨c70, hf⟩ := hf
  replace hf := mx_sv_el hf; obtain ⟨u71, e_u71, hf⟩ := hf
  refine sx_cv hm dX13_statement_2 rs_RX13_437 mt_X13_isDeep [.int a1] [] (b := a0) (ci := 13) rfl rfl rfl c70 (Nat.le_of_ble_eq_true rfl) (Nat.le_of_ble_eq_true rfl) (by omega) (by omega) (f_X13_isDeep_ok X (by omega) (by omega) nn a0 a1 h e_u71) ?_
  clear e_u71
  show mx_S X F L 405 5 [(0, .ref a0), (1, .int a1)] [.int u71.1] u71.2 0 0 (some (.int r.1), r.2, 0, 0)
  rcases mx_if_el hf with ⟨c209, hf⟩ | ⟨c209, hf⟩
  · refine sb_if_eq hm dX13_statement_5 (tgt := 10) rfl (fun _ => ?_) (fun z => absurd c209 z)
    refine mx_S.pu (pc2 := 11) (lv2 := [(0, .ref a0), (1, .int a1)]) (st2 := [.ref a0]) hm dX13_statement_10 rfl ?_
    replace hf := mx_sv_el hf; obtain ⟨v72, e_v72, hf⟩ := hf
    refine sx_get hm dX13_statement_11 rs_RX13_376 (xgi_el e_v72) ?_
    clear e_v72
    refine mx_S.pu (pc2 := 15) (lv2 := [(2, .int v72), (0, .ref a0), (1, .int a1)]) (st2 := []) hm dX13_statement_14 rfl ?_
    refine mx_S.pu (pc2 := 16) (lv2 := [(2, .int v72), (0, .ref a0), (1, .int a1)]) (st2 := [.ref a0]) hm dX13_statement_15 rfl ?_
    refine mx_S.pu (pc2 := 17) (lv2 := [(2, .int v72), (0, .ref a0), (1, .int a1)]) (st2 := [.ref a0, .ref a0]) hm dX13_statement_16 rfl ?_
    replace hf := mx_sv_el hf; obtain ⟨v73, e_v73, hf⟩ := hf
    refine sx_get hm dX13_statement_17 rs_RX13_376 (xgi_el e_v73) ?_
    clear e_v73
    refine sx_bi (v := 123) hm dX13_statement_20 (by decide) ?_
    replace hf := mx_gd_el hf; obtain ⟨c74, hf⟩ := hf
    replace hf := mx_sv_el hf; obtain ⟨u75, e_u75, hf⟩ := hf
    refine sx_cv hm dX13_statement_22 rs_RX13_383 mt_X13_isSign [.int v73, .int 123] [] (b := a0) (ci := 13) rfl rfl rfl c74 (Nat.le_of_ble_eq_true rfl) (Nat.le_of_ble_eq_true rfl) (by omega) (by omega) (f_X13_isSign_ok X (by omega) (by omega) nn a0 v73 123 u71.2 e_u75) ?_
    clear e_u75
    show mx_S X F L 405 25 [(2, .int v72), (0, .ref a0), (1, .int a1)] [.int u75.1] u75.2 0 0 (some (.int r.1), r.2, 0, 0)
    rcases mx_if_el hf with ⟨c208, hf⟩ | ⟨c208, hf⟩
    · refine sb_if_eq hm dX13_statement_25 (tgt := 36) rfl (fun _ => ?_) (fun z => absurd c208 z)
      refine mx_S.pu (pc2 := 37) (lv2 := [(2, .int v72), (0, .ref a0), (1, .int a1)]) (st2 := [.ref a0]) hm dX13_statement_36 rfl ?_
      replace hf := mx_gd_el hf; obtain ⟨c76, hf⟩ := hf
      replace hf := mx_sv_el hf; obtain ⟨u77, e_u77, hf⟩ := hf
      refine sx_cv hm dX13_statement_37 rs_RX13_440 mt_X13_isTyped [] [] (b := a0) (ci := 13) rfl rfl rfl c76 (Nat.le_of_ble_eq_true rfl) (Nat.le_of_ble_eq_true rfl) (by omega) (by omega) (f_X13_isTyped_ok X (by omega) (by omega) nn a0 u75.2 e_u77) ?_
      clear e_u77
      show mx_S X F L 405 40 [(2, .int v72), (0, .ref a0), (1, .int a1)] [.int u77.1] u77.2 0 0 (some (.int r.1), r.2, 0, 0)
      rcases mx_if_el hf with ⟨c204, hf⟩ | ⟨c204, hf⟩
      · refine sb_if_eq hm dX13_statement_40 (tgt := 137) rfl (fun _ => ?_) (fun z => absurd c204 z)
        refine mx_S.pu (pc2 := 138) (lv2 := [(2, .int v72), (0, .ref a0), (1, .int a1)]) (st2 := [.ref a0]) hm dX13_statement_137 rfl ?_
        replace hf := mx_sv_el hf; obtain ⟨v78, e_v78, hf⟩ := hf
        refine sx_get hm dX13_statement_138 rs_RX13_16 (xgr_el e_v78) ?_
        clear e_v78
        refine mx_S.pu (pc2 := 142) (lv2 := [(2, .int v72), (0, .ref a0), (1, .int a1)]) (st2 := [.ref a0, .ref v78]) hm dX13_statement_141 rfl ?_
        replace hf := mx_sv_el hf; obtain ⟨v79, e_v79, hf⟩ := hf
        refine sx_get hm dX13_statement_142 rs_RX13_376 (xgi_el e_v79) ?_
        clear e_v79
        replace hf := mx_sv_el hf; obtain ⟨v80, e_v80, hf⟩ := hf
        refine sx_ald hm dX13_statement_145 e_v80 ?_
        clear e_v80
        refine sx_ic (v := 3) hm dX13_statement_146 (by decide) ?_
        rcases mx_if_el hf with ⟨c194, hf⟩ | ⟨c194, hf⟩
        · refine sb_ic_eq hm dX13_statement_147 (tgt := 156) rfl (fun _ => ?_) (fun z => absurd c194 z)
          refine mx_S.pu (pc2 := 157) (lv2 := [(2, .int v72), (0, .ref a0), (1, .int a1)]) (st2 := [.ref a0]) hm dX13_statement_156 rfl ?_
          replace hf := mx_sv_el hf; obtain ⟨v81, e_v81, hf⟩ := hf
          refine sx_get hm dX13_statement_157 rs_RX13_25 (xgr_el e_v81) ?_
          clear e_v81
          refine mx_S.pu (pc2 := 161) (lv2 := [(2, .int v72), (0, .ref a0), (1, .int a1)]) (st2 := [.ref a0, .ref v81]) hm dX13_statement_160 rfl ?_
          replace hf := mx_sv_el hf; obtain ⟨v82, e_v82, hf⟩ := hf
          refine sx_get hm dX13_statement_161 rs_RX13_376 (xgi_el e_v82) ?_
          clear e_v82
          replace hf := mx_sv_el hf; obtain ⟨v83, e_v83, hf⟩ := hf
          refine sx_ald hm dX13_statement_164 e_v83 ?_
          clear e_v83
          rcases mx_if_el hf with ⟨n_0, hf⟩ | ⟨n_0, hf⟩
          · refine sx_tin hm dX13_statement_165 (by rw [n_0]; decide) (by rw [n_0]; decide) (off := 302) (by rw [n_0]; rfl) (tgt := 467) rfl ?_
            clear n_0
            refine mx_S.ext [(0, .ref a0), (2, .int v72)] (mx_sub_pos [1, 0] rfl (show ([2, 0, 1] : List Nat).Nodup by decide)) ?_
            exact j_X13_statement_467_ok X hF hL nn hrc a0 v72 u77.2 hf
          · rcases mx_if_el hf with ⟨n_1, hf⟩ | ⟨n_1, hf⟩
            · refine sx_tin hm dX13_statement_165 (by rw [n_1]; decide) (by rw [n_1]; decide) (off := 302) (by rw [n_1]; rfl) (tgt := 467) rfl ?_
              clear n_0 n_1
              refine mx_S.ext [(0, .ref a0), (2, .int v72)] (mx_sub_pos [1, 0] rfl (show ([2, 0, 1] : List Nat).Nodup by decide)) ?_
              exact j_X13_statement_467_ok X hF hL nn hrc a0 v72 u77.2 hf
            · rcases mx_if_el hf with ⟨n_2, hf⟩ | ⟨n_2, hf⟩
              · refine sx_tin hm dX13_statement_165 (by rw [n_2]; decide) (by rw [n_2]; decide) (off := 99) (by rw [n_2]; rfl) (tgt := 264) rfl ?_
                clear n_0 n_1 n_2
                refine mx_S.pu (pc2 := 265) (lv2 := [(2, .int v72), (0, .ref a0), (1, .int a1)]) (st2 := [.ref a0]) hm dX13_statement_264 rfl ?_
                refine sx_ic (v := 3) hm dX13_statement_265 (by decide) ?_
                refine mx_S.pu (pc2 := 267) (lv2 := [(2, .int v72), (0, .ref a0), (1, .int a1)]) (st2 := [.ref a0, .int 3, .ref a0]) hm dX13_statement_266 rfl ?_
                replace hf := mx_sv_el hf; obtain ⟨v84, e_v84, hf⟩ := hf
                refine sx_get hm dX13_statement_267 rs_RX13_376 (xgi_el e_v84) ?_
                clear e_v84
                refine mx_S.pu (pc2 := 271) (lv2 := [(2, .int v72), (0, .ref a0), (1, .int a1)]) (st2 := [.int v72, .int v84, .int 3, .ref a0]) hm dX13_statement_270 rfl ?_
                replace hf := mx_gd_el hf; obtain ⟨c85, hf⟩ := hf
                replace hf := mx_sv_el hf; obtain ⟨u86, e_u86, hf⟩ := hf
                refine sx_cv hm dX13_statement_271 rs_RX13_430 mt_X13_add [.int 3, .int v84, .int v72] [] (b := a0) (ci := 13) rfl rfl rfl c85 (Nat.le_of_ble_eq_true rfl) (Nat.le_of_ble_eq_true rfl) (by omega) (by omega) (f_X13_add_ok X (by omega) (by omega) nn a0 3 v84 v72 u77.2 e_u86) ?_
                clear e_u86
                show mx_S X F L 405 274 [(2, .int v72), (0, .ref a0), (1, .int a1)] [.int u86.1] u86.2 0 0 (some (.int r.1), r.2, 0, 0)
                refine mx_S.pu (pc2 := 275) (lv2 := [(3, .int u86.1), (2, .int v72), (0, .ref a0), (1, .int a1)]) (st2 := []) hm dX13_statement_274 rfl ?_
                refine mx_S.pu (pc2 := 276) (lv2 := [(3, .int u86.1), (2, .int v72), (0, .ref a0), (1, .int a1)]) (st2 := [.ref a0]) hm dX13_statement_275 rfl ?_
                refine mx_S.pu (pc2 := 277) (lv2 := [(3, .int u86.1), (2, .int v72), (0, .ref a0), (1, .int a1)]) (st2 := [.ref a0, .ref a0]) hm dX13_statement_276 rfl ?_
                replace hf := mx_sv_el hf; obtain ⟨v87, e_v87, hf⟩ := hf
                refine sx_get hm dX13_statement_277 rs_RX13_376 (xgi_el e_v87) ?_
                clear e_v87
                refine sx_ic (v := 1) hm dX13_statement_280 (by decide) ?_
                replace hf := xl_el hf; obtain ⟨v88, e_v88, hf⟩ := hf
                refine mx_S.pu (pc2 := 282) (lv2 := [(3, .int u86.1), (2, .int v72), (0, .ref a0), (1, .int a1)]) (st2 := [.int v88, .ref a0]) hm dX13_statement_281 (by rw [← e_v88]; rfl) ?_
                clear e_v88
                replace hf := mx_sv_el hf; obtain ⟨h89, e_h89, hf⟩ := hf
                refine sx_put hm dX13_statement_282 rs_RX13_376 ft_13_23 ⟨rfl, rfl⟩ (fun z => by cases z) e_h89 ?_
                clear e_h89
                refine mx_S.pu (pc2 := 286) (lv2 := [(3, .int u86.1), (2, .int v72), (0, .ref a0), (1, .int a1)]) (st2 := [.ref a0]) hm dX13_statement_285 rfl ?_
                refine sx_bi (v := 40) hm dX13_statement_286 (by decide) ?_
                replace hf := mx_gd_el hf; obtain ⟨c90, hf⟩ := hf
                replace hf := mx_sv_el hf; obtain ⟨u91, e_u91, hf⟩ := hf
                refine sx_cv hm dX13_statement_288 rs_RX13_406 mt_X13_sign_ [.int 40] [] (b := a0) (ci := 13) rfl rfl rfl c90 (Nat.le_of_ble_eq_true rfl) (Nat.le_of_ble_eq_true rfl) (by omega) (by omega) (f_X13_sign__ok X (by omega) (by omega) nn a0 40 h89 e_u91) ?_
                clear e_u91
                show mx_S X F L 405 291 [(3, .int u86.1), (2, .int v72), (0, .ref a0), (1, .int a1)] [] u91 0 0 (some (.int r.1), r.2, 0, 0)
                refine mx_S.pu (pc2 := 292) (lv2 := [(3, .int u86.1), (2, .int v72), (0, .ref a0), (1, .int a1)]) (st2 := [.ref a0]) hm dX13_statement_291 rfl ?_
                replace hf := mx_sv_el hf; obtain ⟨v92, e_v92, hf⟩ := hf
                refine sx_get hm dX13_statement_292 rs_RX13_37 (xgr_el e_v92) ?_
                clear e_v92
                refine mx_S.pu (pc2 := 296) (lv2 := [(3, .int u86.1), (2, .int v72), (0, .ref a0), (1, .int a1)]) (st2 := [.int u86.1, .ref v92]) hm dX13_statement_295 rfl ?_
                refine mx_S.pu (pc2 := 297) (lv2 := [(3, .int u86.1), (2, .int v72), (0, .ref a0), (1, .int a1)]) (st2 := [.ref a0, .int u86.1, .ref v92]) hm dX13_statement_296 rfl ?_
                refine mx_S.pu (pc2 := 298) (lv2 := [(3, .int u86.1), (2, .int v72), (0, .ref a0), (1, .int a1)]) (st2 := [.int a1, .ref a0, .int u86.1, .ref v92]) hm dX13_statement_297 rfl ?_
                refine sx_ic (v := 1) hm dX13_statement_298 (by decide) ?_
                replace hf := xl_el hf; obtain ⟨v93, e_v93, hf⟩ := hf
                refine mx_S.pu (pc2 := 300) (lv2 := [(3, .int u86.1), (2, .int v72), (0, .ref a0), (1, .int a1)]) (st2 := [.int v93, .ref a0, .int u86.1, .ref v92]) hm dX13_statement_299 (by rw [← e_v93]; rfl) ?_
                clear e_v93
                replace hf := mx_gd_el hf; obtain ⟨c94, hf⟩ := hf
                replace hf := mx_sv_el hf; obtain ⟨u95, e_u95, hf⟩ := hf
                refine sx_cv hm dX13_statement_300 rs_RX13_444 mt_X13_expression [.int v93] [.int u86.1, .ref v92] (b := a0) (ci := 13) rfl rfl rfl c94 (Nat.le_of_ble_eq_true rfl) (Nat.le_of_ble_eq_true rfl) (by omega) (by omega) (f_X13_expression_ok X (by omega) (by omega) nn a0 v93 u91 e_u95) ?_
                clear e_u95
                show mx_S X F L 405 303 [(3, .int u86.1), (2, .int v72), (0, .ref a0), (1, .int a1)] [.int u95.1, .int u86.1, .ref v92] u95.2 0 0 (some (.int r.1), r.2, 0, 0)
                replace hf := mx_sv_el hf; obtain ⟨h96, e_h96, hf⟩ := hf
                refine sx_ast hm dX13_statement_303 e_h96 ?_
                clear e_h96
                refine mx_S.pu (pc2 := 305) (lv2 := [(3, .int u86.1), (2, .int v72), (0, .ref a0), (1, .int a1)]) (st2 := [.ref a0]) hm dX13_statement_304 rfl ?_
                refine sx_bi (v := 41) hm dX13_statement_305 (by decide) ?_
                replace hf := mx_gd_el hf; obtain ⟨c97, hf⟩ := hf
                replace hf := mx_sv_el hf; obtain ⟨u98, e_u98, hf⟩ := hf
                refine sx_cv hm dX13_statement_307 rs_RX13_406 mt_X13_sign_ [.int 41] [] (b := a0) (ci := 13) rfl rfl rfl c97 (Nat.le_of_ble_eq_true rfl) (Nat.le_of_ble_eq_true rfl) (by omega) (by omega) (f_X13_sign__ok X (by omega) (by omega) nn a0 41 h96 e_u98) ?_
                clear e_u98
                show mx_S X F L 405 310 [(3, .int u86.1), (2, .int v72), (0, .ref a0), (1, .int a1)] [] u98 0 0 (some (.int r.1), r.2, 0, 0)
                refine mx_S.ext [(0, .ref a0), (1, .int a1), (3, .int u86.1)] (mx_sub_pos [2, 3, 0] rfl (show ([3, 2, 0, 1] : List Nat).Nodup by decide)) ?_
                exact j_X13_statement_310_ok X hF hL nn hrc a0 a1 u86.1 u98 hf
              · rcases mx_if_el hf with ⟨n_3, hf⟩ | ⟨n_3, hf⟩
                · refine sx_tin hm dX13_statement_165 (by rw [n_3]; decide) (by rw [n_3]; decide) (off := 535) (by rw [n_3]; rfl) (tgt := 700) rfl ?_
                  clear n_0 n_1 n_2 n_3
                  refine mx_S.pu (pc2 := 701) (lv2 := [(2, .int v72), (0, .ref a0), (1, .int a1)]) (st2 := [.ref a0]) hm dX13_statement_700 rfl ?_
                  refine sx_bi (v := 10) hm dX13_statement_701 (by decide) ?_
                  refine mx_S.pu (pc2 := 704) (lv2 := [(2, .int v72), (0, .ref a0), (1, .int a1)]) (st2 := [.ref a0, .int 10, .ref a0]) hm dX13_statement_703 rfl ?_
                  replace hf := mx_sv_el hf; obtain ⟨v99, e_v99, hf⟩ := hf
                  refine sx_get hm dX13_statement_704 rs_RX13_376 (xgi_el e_v99) ?_
                  clear e_v99
                  refine mx_S.pu (pc2 := 708) (lv2 := [(2, .int v72), (0, .ref a0), (1, .int a1)]) (st2 := [.int v72, .int v99, .int 10, .ref a0]) hm dX13_statement_707 rfl ?_
                  replace hf := mx_gd_el hf; obtain ⟨c100, hf⟩ := hf
                  replace hf := mx_sv_el hf; obtain ⟨u101, e_u101, hf⟩ := hf
                  refine sx_cv hm dX13_statement_708 rs_RX13_430 mt_X13_add [.int 10, .int v99, .int v72] [] (b := a0) (ci := 13) rfl rfl rfl c100 (Nat.le_of_ble_eq_true rfl) (Nat.le_of_ble_eq_true rfl) (by omega) (by omega) (f_X13_add_ok X (by omega) (by omega) nn a0 10 v99 v72 u77.2 e_u101) ?_
                  clear e_u101
                  show mx_S X F L 405 711 [(2, .int v72), (0, .ref a0), (1, .int a1)] [.int u101.1] u101.2 0 0 (some (.int r.1), r.2, 0, 0)
                  refine mx_S.pu (pc2 := 712) (lv2 := [(3, .int u101.1), (2, .int v72), (0, .ref a0), (1, .int a1)]) (st2 := []) hm dX13_statement_711 rfl ?_
                  refine mx_S.pu (pc2 := 713) (lv2 := [(3, .int u101.1), (2, .int v72), (0, .ref a0), (1, .int a1)]) (st2 := [.ref a0]) hm dX13_statement_712 rfl ?_
                  refine mx_S.pu (pc2 := 714) (lv2 := [(3, .int u101.1), (2, .int v72), (0, .ref a0), (1, .int a1)]) (st2 := [.ref a0, .ref a0]) hm dX13_statement_713 rfl ?_
                  replace hf := mx_sv_el hf; obtain ⟨v102, e_v102, hf⟩ := hf
                  refine sx_get hm dX13_statement_714 rs_RX13_376 (xgi_el e_v102) ?_
                  clear e_v102
                  refine sx_ic (v := 1) hm dX13_statement_717 (by decide) ?_
                  replace hf := xl_el hf; obtain ⟨v103, e_v103, hf⟩ := hf
                  refine mx_S.pu (pc2 := 719) (lv2 := [(3, .int u101.1), (2, .int v72), (0, .ref a0), (1, .int a1)]) (st2 := [.int v103, .ref a0]) hm dX13_statement_718 (by rw [← e_v103]; rfl) ?_
                  clear e_v103
                  replace hf := mx_sv_el hf; obtain ⟨h104, e_h104, hf⟩ := hf
                  refine sx_put hm dX13_statement_719 rs_RX13_376 ft_13_23 ⟨rfl, rfl⟩ (fun z => by cases z) e_h104 ?_
                  clear e_h104
                  refine mx_S.pu (pc2 := 723) (lv2 := [(3, .int u101.1), (2, .int v72), (0, .ref a0), (1, .int a1)]) (st2 := [.ref a0]) hm dX13_statement_722 rfl ?_
                  refine sx_bi (v := 40) hm dX13_statement_723 (by decide) ?_
                  replace hf := mx_gd_el hf; obtain ⟨c105, hf⟩ := hf
                  replace hf := mx_sv_el hf; obtain ⟨u106, e_u106, hf⟩ := hf
                  refine sx_cv hm dX13_statement_725 rs_RX13_406 mt_X13_sign_ [.int 40] [] (b := a0) (ci := 13) rfl rfl rfl c105 (Nat.le_of_ble_eq_true rfl) (Nat.le_of_ble_eq_true rfl) (by omega) (by omega) (f_X13_sign__ok X (by omega) (by omega) nn a0 40 h104 e_u106) ?_
                  clear e_u106
                  show mx_S X F L 405 728 [(3, .int u101.1), (2, .int v72), (0, .ref a0), (1, .int a1)] [] u106 0 0 (some (.int r.1), r.2, 0, 0)
                  refine mx_S.pu (pc2 := 729) (lv2 := [(3, .int u101.1), (2, .int v72), (0, .ref a0), (1, .int a1)]) (st2 := [.ref a0]) hm dX13_statement_728 rfl ?_
                  replace hf := mx_sv_el hf; obtain ⟨v107, e_v107, hf⟩ := hf
                  refine sx_get hm dX13_statement_729 rs_RX13_37 (xgr_el e_v107) ?_
                  clear e_v107
                  refine mx_S.pu (pc2 := 733) (lv2 := [(3, .int u101.1), (2, .int v72), (0, .ref a0), (1, .int a1)]) (st2 := [.int u101.1, .ref v107]) hm dX13_statement_732 rfl ?_
                  refine mx_S.pu (pc2 := 734) (lv2 := [(3, .int u101.1), (2, .int v72), (0, .ref a0), (1, .int a1)]) (st2 := [.ref a0, .int u101.1, .ref v107]) hm dX13_statement_733 rfl ?_
                  refine mx_S.pu (pc2 := 735) (lv2 := [(3, .int u101.1), (2, .int v72), (0, .ref a0), (1, .int a1)]) (st2 := [.int a1, .ref a0, .int u101.1, .ref v107]) hm dX13_statement_734 rfl ?_
                  refine sx_ic (v := 1) hm dX13_statement_735 (by decide) ?_
                  replace hf := xl_el hf; obtain ⟨v108, e_v108, hf⟩ := hf
                  refine mx_S.pu (pc2 := 737) (lv2 := [(3, .int u101.1), (2, .int v72), (0, .ref a0), (1, .int a1)]) (st2 := [.int v108, .ref a0, .int u101.1, .ref v107]) hm dX13_statement_736 (by rw [← e_v108]; rfl) ?_
                  clear e_v108
                  replace hf := mx_gd_el hf; obtain ⟨c109, hf⟩ := hf
                  replace hf := mx_sv_el hf; obtain ⟨u110, e_u110, hf⟩ := hf
                  refine sx_cv hm dX13_statement_737 rs_RX13_444 mt_X13_expression [.int v108] [.int u101.1, .ref v107] (b := a0) (ci := 13) rfl rfl rfl c109 (Nat.le_of_ble_eq_true rfl) (Nat.le_of_ble_eq_true rfl) (by omega) (by omega) (f_X13_expression_ok X (by omega) (by omega) nn a0 v108 u106 e_u110) ?_
                  clear e_u110
                  show mx_S X F L 405 740 [(3, .int u101.1), (2, .int v72), (0, .ref a0), (1, .int a1)] [.int u110.1, .int u101.1, .ref v107] u110.2 0 0 (some (.int r.1), r.2, 0, 0)
                  replace hf := mx_sv_el hf; obtain ⟨h111, e_h111, hf⟩ := hf
                  refine sx_ast hm dX13_statement_740 e_h111 ?_
                  clear e_h111
                  refine mx_S.pu (pc2 := 742) (lv2 := [(3, .int u101.1), (2, .int v72), (0, .ref a0), (1, .int a1)]) (st2 := [.ref a0]) hm dX13_statement_741 rfl ?_
                  refine sx_bi (v := 41) hm dX13_statement_742 (by decide) ?_
                  replace hf := mx_gd_el hf; obtain ⟨c112, hf⟩ := hf
                  replace hf := mx_sv_el hf; obtain ⟨u113, e_u113, hf⟩ := hf
                  refine sx_cv hm dX13_statement_744 rs_RX13_406 mt_X13_sign_ [.int 41] [] (b := a0) (ci := 13) rfl rfl rfl c112 (Nat.le_of_ble_eq_true rfl) (Nat.le_of_ble_eq_true rfl) (by omega) (by omega) (f_X13_sign__ok X (by omega) (by omega) nn a0 41 h111 e_u113) ?_
                  clear e_u113
                  show mx_S X F L 405 747 [(3, .int u101.1), (2, .int v72), (0, .ref a0), (1, .int a1)] [] u113 0 0 (some (.int r.1), r.2, 0, 0)
                  refine mx_S.pu (pc2 := 748) (lv2 := [(3, .int u101.1), (2, .int v72), (0, .ref a0), (1, .int a1)]) (st2 := [.ref a0]) hm dX13_statement_747 rfl ?_
                  refine sx_bi (v := 59) hm dX13_statement_748 (by decide) ?_
                  replace hf := mx_gd_el hf; obtain ⟨c114, hf⟩ := hf
                  replace hf := mx_sv_el hf; obtain ⟨u115, e_u115, hf⟩ := hf
                  refine sx_cv hm dX13_statement_750 rs_RX13_406 mt_X13_sign_ [.int 59] [] (b := a0) (ci := 13) rfl rfl rfl c114 (Nat.le_of_ble_eq_true rfl) (Nat.le_of_ble_eq_true rfl) (by omega) (by omega) (f_X13_sign__ok X (by omega) (by omega) nn a0 59 u113 e_u115) ?_
                  clear e_u115
                  show mx_S X F L 405 753 [(3, .int u101.1), (2, .int v72), (0, .ref a0), (1, .int a1)] [] u115 0 0 (some (.int r.1), r.2, 0, 0)
                  refine mx_S.pu (pc2 := 754) (lv2 := [(3, .int u101.1), (2, .int v72), (0, .ref a0), (1, .int a1)]) (st2 := [.int u101.1]) hm dX13_statement_753 rfl ?_
                  cases hf
                  exact sx_ire hm dX13_statement_754 rfl rfl
                · rcases mx_if_el hf with ⟨n_4, hf⟩ | ⟨n_4, hf⟩
                  · refine sx_tin hm dX13_statement_165 (by rw [n_4]; decide) (by rw [n_4]; decide) (off := 349) (by rw [n_4]; rfl) (tgt := 514) rfl ?_
                    clear n_0 n_1 n_2 n_3 n_4
                    refine mx_S.pu (pc2 := 515) (lv2 := [(2, .int v72), (0, .ref a0), (1, .int a1)]) (st2 := [.ref a0]) hm dX13_statement_514 rfl ?_
                    refine sx_bi (v := 7) hm dX13_statement_515 (by decide) ?_
                    refine mx_S.pu (pc2 := 518) (lv2 := [(2, .int v72), (0, .ref a0), (1, .int a1)]) (st2 := [.ref a0, .int 7, .ref a0]) hm dX13_statement_517 rfl ?_
                    replace hf := mx_sv_el hf; obtain ⟨v116, e_v116, hf⟩ := hf
                    refine sx_get hm dX13_statement_518 rs_RX13_376 (xgi_el e_v116) ?_
                    clear e_v116
                    refine mx_S.pu (pc2 := 522) (lv2 := [(2, .int v72), (0, .ref a0), (1, .int a1)]) (st2 := [.int v72, .int v116, .int 7, .ref a0]) hm dX13_statement_521 rfl ?_
                    replace hf := mx_gd_el hf; obtain ⟨c117, hf⟩ := hf
                    replace hf := mx_sv_el hf; obtain ⟨u118, e_u118, hf⟩ := hf
                    refine sx_cv hm dX13_statement_522 rs_RX13_430 mt_X13_add [.int 7, .int v116, .int v72] [] (b := a0) (ci := 13) rfl rfl rfl c117 (Nat.le_of_ble_eq_true rfl) (Nat.le_of_ble_eq_true rfl) (by omega) (by omega) (f_X13_add_ok X (by omega) (by omega) nn a0 7 v116 v72 u77.2 e_u118) ?_
                    clear e_u118
                    show mx_S X F L 405 525 [(2, .int v72), (0, .ref a0), (1, .int a1)] [.int u118.1] u118.2 0 0 (some (.int r.1), r.2, 0, 0)
                    refine mx_S.pu (pc2 := 526) (lv2 := [(3, .int u118.1), (2, .int v72), (0, .ref a0), (1, .int a1)]) (st2 := []) hm dX13_statement_525 rfl ?_
                    refine mx_S.pu (pc2 := 527) (lv2 := [(3, .int u118.1), (2, .int v72), (0, .ref a0), (1, .int a1)]) (st2 := [.ref a0]) hm dX13_statement_526 rfl ?_
                    refine mx_S.pu (pc2 := 528) (lv2 := [(3, .int u118.1), (2, .int v72), (0, .ref a0), (1, .int a1)]) (st2 := [.ref a0, .ref a0]) hm dX13_statement_527 rfl ?_
                    replace hf := mx_sv_el hf; obtain ⟨v119, e_v119, hf⟩ := hf
                    refine sx_get hm dX13_statement_528 rs_RX13_376 (xgi_el e_v119) ?_
                    clear e_v119
                    refine sx_ic (v := 1) hm dX13_statement_531 (by decide) ?_
                    replace hf := xl_el hf; obtain ⟨v120, e_v120, hf⟩ := hf
                    refine mx_S.pu (pc2 := 533) (lv2 := [(3, .int u118.1), (2, .int v72), (0, .ref a0), (1, .int a1)]) (st2 := [.int v120, .ref a0]) hm dX13_statement_532 (by rw [← e_v120]; rfl) ?_
                    clear e_v120
                    replace hf := mx_sv_el hf; obtain ⟨h121, e_h121, hf⟩ := hf
                    refine sx_put hm dX13_statement_533 rs_RX13_376 ft_13_23 ⟨rfl, rfl⟩ (fun z => by cases z) e_h121 ?_
                    clear e_h121
                    refine mx_S.pu (pc2 := 537) (lv2 := [(3, .int u118.1), (2, .int v72), (0, .ref a0), (1, .int a1)]) (st2 := [.ref a0]) hm dX13_statement_536 rfl ?_
                    refine mx_S.pu (pc2 := 538) (lv2 := [(3, .int u118.1), (2, .int v72), (0, .ref a0), (1, .int a1)]) (st2 := [.ref a0, .ref a0]) hm dX13_statement_537 rfl ?_
                    replace hf := mx_sv_el hf; obtain ⟨v122, e_v122, hf⟩ := hf
                    refine sx_get hm dX13_statement_538 rs_RX13_376 (xgi_el e_v122) ?_
                    clear e_v122
                    refine sx_bi (v := 59) hm dX13_statement_541 (by decide) ?_
                    replace hf := mx_gd_el hf; obtain ⟨c123, hf⟩ := hf
                    replace hf := mx_sv_el hf; obtain ⟨u124, e_u124, hf⟩ := hf
                    refine sx_cv hm dX13_statement_543 rs_RX13_383 mt_X13_isSign [.int v122, .int 59] [] (b := a0) (ci := 13) rfl rfl rfl c123 (Nat.le_of_ble_eq_true rfl) (Nat.le_of_ble_eq_true rfl) (by omega) (by omega) (f_X13_isSign_ok X (by omega) (by omega) nn a0 v122 59 h121 e_u124) ?_
                    clear e_u124
                    show mx_S X F L 405 546 [(3, .int u118.1), (2, .int v72), (0, .ref a0), (1, .int a1)] [.int u124.1] u124.2 0 0 (some (.int r.1), r.2, 0, 0)
                    rcases mx_if_el hf with ⟨c130, hf⟩ | ⟨c130, hf⟩
                    · refine sb_if_ne hm dX13_statement_546 (tgt := 562) rfl (fun _ => ?_) (fun z => absurd c130 z)
                      refine mx_S.ext [(0, .ref a0), (3, .int u118.1)] (mx_sub_pos [2, 0] rfl (show ([3, 2, 0, 1] : List Nat).Nodup by decide)) ?_
                      exact j_X13_statement_562_ok X hF hL nn hrc a0 u118.1 u124.2 hf
                    · refine sb_if_ne hm dX13_statement_546 (tgt := 562) rfl (fun z => absurd z c130) (fun _ => ?_)
                      refine mx_S.pu (pc2 := 550) (lv2 := [(3, .int u118.1), (2, .int v72), (0, .ref a0), (1, .int a1)]) (st2 := [.ref a0]) hm dX13_statement_549 rfl ?_
                      replace hf := mx_sv_el hf; obtain ⟨v125, e_v125, hf⟩ := hf
                      refine sx_get hm dX13_statement_550 rs_RX13_37 (xgr_el e_v125) ?_
                      clear e_v125
                      refine mx_S.pu (pc2 := 554) (lv2 := [(3, .int u118.1), (2, .int v72), (0, .ref a0), (1, .int a1)]) (st2 := [.int u118.1, .ref v125]) hm dX13_statement_553 rfl ?_
                      refine mx_S.pu (pc2 := 555) (lv2 := [(3, .int u118.1), (2, .int v72), (0, .ref a0), (1, .int a1)]) (st2 := [.ref a0, .int u118.1, .ref v125]) hm dX13_statement_554 rfl ?_
                      refine mx_S.pu (pc2 := 556) (lv2 := [(3, .int u118.1), (2, .int v72), (0, .ref a0), (1, .int a1)]) (st2 := [.int a1, .ref a0, .int u118.1, .ref v125]) hm dX13_statement_555 rfl ?_
                      refine sx_ic (v := 1) hm dX13_statement_556 (by decide) ?_
                      replace hf := xl_el hf; obtain ⟨v126, e_v126, hf⟩ := hf
                      refine mx_S.pu (pc2 := 558) (lv2 := [(3, .int u118.1), (2, .int v72), (0, .ref a0), (1, .int a1)]) (st2 := [.int v126, .ref a0, .int u118.1, .ref v125]) hm dX13_statement_557 (by rw [← e_v126]; rfl) ?_
                      clear e_v126
                      replace hf := mx_gd_el hf; obtain ⟨c127, hf⟩ := hf
                      replace hf := mx_sv_el hf; obtain ⟨u128, e_u128, hf⟩ := hf
                      refine sx_cv hm dX13_statement_558 rs_RX13_444 mt_X13_expression [.int v126] [.int u118.1, .ref v125] (b := a0) (ci := 13) rfl rfl rfl c127 (Nat.le_of_ble_eq_true rfl) (Nat.le_of_ble_eq_true rfl) (by omega) (by omega) (f_X13_expression_ok X (by omega) (by omega) nn a0 v126 u124.2 e_u128) ?_
                      clear e_u128
                      show mx_S X F L 405 561 [(3, .int u118.1), (2, .int v72), (0, .ref a0), (1, .int a1)] [.int u128.1, .int u118.1, .ref v125] u128.2 0 0 (some (.int r.1), r.2, 0, 0)
                      replace hf := mx_sv_el hf; obtain ⟨h129, e_h129, hf⟩ := hf
                      refine sx_ast hm dX13_statement_561 e_h129 ?_
                      clear e_h129
                      refine mx_S.ext [(0, .ref a0), (3, .int u118.1)] (mx_sub_pos [2, 0] rfl (show ([3, 2, 0, 1] : List Nat).Nodup by decide)) ?_
                      exact j_X13_statement_562_ok X hF hL nn hrc a0 u118.1 h129 hf
                  · rcases mx_if_el hf with ⟨n_5, hf⟩ | ⟨n_5, hf⟩
                    · refine sx_tin hm dX13_statement_165 (by rw [n_5]; decide) (by rw [n_5]; decide) (off := 405) (by rw [n_5]; rfl) (tgt := 570) rfl ?_
                      clear n_0 n_1 n_2 n_3 n_4 n_5
                      refine mx_S.pu (pc2 := 571) (lv2 := [(2, .int v72), (0, .ref a0), (1, .int a1)]) (st2 := [.ref a0]) hm dX13_statement_570 rfl ?_
                      refine sx_bi (v := 8) hm dX13_statement_571 (by decide) ?_
                      refine mx_S.pu (pc2 := 574) (lv2 := [(2, .int v72), (0, .ref a0), (1, .int a1)]) (st2 := [.ref a0, .int 8, .ref a0]) hm dX13_statement_573 rfl ?_
                      replace hf := mx_sv_el hf; obtain ⟨v131, e_v131, hf⟩ := hf
                      refine sx_get hm dX13_statement_574 rs_RX13_376 (xgi_el e_v131) ?_
                      clear e_v131
                      refine mx_S.pu (pc2 := 578) (lv2 := [(2, .int v72), (0, .ref a0), (1, .int a1)]) (st2 := [.int v72, .int v131, .int 8, .ref a0]) hm dX13_statement_577 rfl ?_
                      replace hf := mx_gd_el hf; obtain ⟨c132, hf⟩ := hf
                      replace hf := mx_sv_el hf; obtain ⟨u133, e_u133, hf⟩ := hf
                      refine sx_cv hm dX13_statement_578 rs_RX13_430 mt_X13_add [.int 8, .int v131, .int v72] [] (b := a0) (ci := 13) rfl rfl rfl c132 (Nat.le_of_ble_eq_true rfl) (Nat.le_of_ble_eq_true rfl) (by omega) (by omega) (f_X13_add_ok X (by omega) (by omega) nn a0 8 v131 v72 u77.2 e_u133) ?_
                      clear e_u133
                      show mx_S X F L 405 581 [(2, .int v72), (0, .ref a0), (1, .int a1)] [.int u133.1] u133.2 0 0 (some (.int r.1), r.2, 0, 0)
                      refine mx_S.pu (pc2 := 582) (lv2 := [(3, .int u133.1), (2, .int v72), (0, .ref a0), (1, .int a1)]) (st2 := []) hm dX13_statement_581 rfl ?_
                      refine mx_S.pu (pc2 := 583) (lv2 := [(3, .int u133.1), (2, .int v72), (0, .ref a0), (1, .int a1)]) (st2 := [.ref a0]) hm dX13_statement_582 rfl ?_
                      refine mx_S.pu (pc2 := 584) (lv2 := [(3, .int u133.1), (2, .int v72), (0, .ref a0), (1, .int a1)]) (st2 := [.ref a0, .ref a0]) hm dX13_statement_583 rfl ?_
                      replace hf := mx_sv_el hf; obtain ⟨v134, e_v134, hf⟩ := hf
                      refine sx_get hm dX13_statement_584 rs_RX13_376 (xgi_el e_v134) ?_
                      clear e_v134
                      refine sx_ic (v := 1) hm dX13_statement_587 (by decide) ?_
                      replace hf := xl_el hf; obtain ⟨v135, e_v135, hf⟩ := hf
                      refine mx_S.pu (pc2 := 589) (lv2 := [(3, .int u133.1), (2, .int v72), (0, .ref a0), (1, .int a1)]) (st2 := [.int v135, .ref a0]) hm dX13_statement_588 (by rw [← e_v135]; rfl) ?_
                      clear e_v135
                      replace hf := mx_sv_el hf; obtain ⟨h136, e_h136, hf⟩ := hf
                      refine sx_put hm dX13_statement_589 rs_RX13_376 ft_13_23 ⟨rfl, rfl⟩ (fun z => by cases z) e_h136 ?_
                      clear e_h136
                      refine mx_S.pu (pc2 := 593) (lv2 := [(3, .int u133.1), (2, .int v72), (0, .ref a0), (1, .int a1)]) (st2 := [.ref a0]) hm dX13_statement_592 rfl ?_
                      replace hf := mx_sv_el hf; obtain ⟨v137, e_v137, hf⟩ := hf
                      refine sx_get hm dX13_statement_593 rs_RX13_37 (xgr_el e_v137) ?_
                      clear e_v137
                      refine mx_S.pu (pc2 := 597) (lv2 := [(3, .int u133.1), (2, .int v72), (0, .ref a0), (1, .int a1)]) (st2 := [.int u133.1, .ref v137]) hm dX13_statement_596 rfl ?_
                      refine mx_S.pu (pc2 := 598) (lv2 := [(3, .int u133.1), (2, .int v72), (0, .ref a0), (1, .int a1)]) (st2 := [.ref a0, .int u133.1, .ref v137]) hm dX13_statement_597 rfl ?_
                      refine mx_S.pu (pc2 := 599) (lv2 := [(3, .int u133.1), (2, .int v72), (0, .ref a0), (1, .int a1)]) (st2 := [.int a1, .ref a0, .int u133.1, .ref v137]) hm dX13_statement_598 rfl ?_
                      refine sx_ic (v := 1) hm dX13_statement_599 (by decide) ?_
                      replace hf := xl_el hf; obtain ⟨v138, e_v138, hf⟩ := hf
                      refine mx_S.pu (pc2 := 601) (lv2 := [(3, .int u133.1), (2, .int v72), (0, .ref a0), (1, .int a1)]) (st2 := [.int v138, .ref a0, .int u133.1, .ref v137]) hm dX13_statement_600 (by rw [← e_v138]; rfl) ?_
                      clear e_v138
                      replace hf := mx_gd_el hf; obtain ⟨c139, hf⟩ := hf
                      replace hf := mx_sv_el hf; obtain ⟨u140, e_u140, hf⟩ := hf
                      refine sx_cv hm dX13_statement_601 rs_RX13_444 mt_X13_expression [.int v138] [.int u133.1, .ref v137] (b := a0) (ci := 13) rfl rfl rfl c139 (Nat.le_of_ble_eq_true rfl) (Nat.le_of_ble_eq_true rfl) (by omega) (by omega) (f_X13_expression_ok X (by omega) (by omega) nn a0 v138 h136 e_u140) ?_
                      clear e_u140
                      show mx_S X F L 405 604 [(3, .int u133.1), (2, .int v72), (0, .ref a0), (1, .int a1)] [.int u140.1, .int u133.1, .ref v137] u140.2 0 0 (some (.int r.1), r.2, 0, 0)
                      replace hf := mx_sv_el hf; obtain ⟨h141, e_h141, hf⟩ := hf
                      refine sx_ast hm dX13_statement_604 e_h141 ?_
                      clear e_h141
                      refine mx_S.pu (pc2 := 606) (lv2 := [(3, .int u133.1), (2, .int v72), (0, .ref a0), (1, .int a1)]) (st2 := [.ref a0]) hm dX13_statement_605 rfl ?_
                      refine sx_bi (v := 59) hm dX13_statement_606 (by decide) ?_
                      replace hf := mx_gd_el hf; obtain ⟨c142, hf⟩ := hf
                      replace hf := mx_sv_el hf; obtain ⟨u143, e_u143, hf⟩ := hf
                      refine sx_cv hm dX13_statement_608 rs_RX13_406 mt_X13_sign_ [.int 59] [] (b := a0) (ci := 13) rfl rfl rfl c142 (Nat.le_of_ble_eq_true rfl) (Nat.le_of_ble_eq_true rfl) (by omega) (by omega) (f_X13_sign__ok X (by omega) (by omega) nn a0 59 h141 e_u143) ?_
                      clear e_u143
                      show mx_S X F L 405 611 [(3, .int u133.1), (2, .int v72), (0, .ref a0), (1, .int a1)] [] u143 0 0 (some (.int r.1), r.2, 0, 0)
                      refine mx_S.pu (pc2 := 612) (lv2 := [(3, .int u133.1), (2, .int v72), (0, .ref a0), (1, .int a1)]) (st2 := [.int u133.1]) hm dX13_statement_611 rfl ?_
                      cases hf
                      exact sx_ire hm dX13_statement_612 rfl rfl
                    · rcases mx_if_el hf with ⟨n_6, hf⟩ | ⟨n_6, hf⟩
                      · refine sx_tin hm dX13_statement_165 (by rw [n_6]; decide) (by rw [n_6]; decide) (off := 448) (by rw [n_6]; rfl) (tgt := 613) rfl ?_
                        clear n_0 n_1 n_2 n_3 n_4 n_5 n_6
                        refine mx_S.pu (pc2 := 614) (lv2 := [(2, .int v72), (0, .ref a0), (1, .int a1)]) (st2 := [.ref a0]) hm dX13_statement_613 rfl ?_
                        refine sx_bi (v := 9) hm dX13_statement_614 (by decide) ?_
                        refine mx_S.pu (pc2 := 617) (lv2 := [(2, .int v72), (0, .ref a0), (1, .int a1)]) (st2 := [.ref a0, .int 9, .ref a0]) hm dX13_statement_616 rfl ?_
                        replace hf := mx_sv_el hf; obtain ⟨v144, e_v144, hf⟩ := hf
                        refine sx_get hm dX13_statement_617 rs_RX13_376 (xgi_el e_v144) ?_
                        clear e_v144
                        refine mx_S.pu (pc2 := 621) (lv2 := [(2, .int v72), (0, .ref a0), (1, .int a1)]) (st2 := [.int v72, .int v144, .int 9, .ref a0]) hm dX13_statement_620 rfl ?_
                        replace hf := mx_gd_el hf; obtain ⟨c145, hf⟩ := hf
                        replace hf := mx_sv_el hf; obtain ⟨u146, e_u146, hf⟩ := hf
                        refine sx_cv hm dX13_statement_621 rs_RX13_430 mt_X13_add [.int 9, .int v144, .int v72] [] (b := a0) (ci := 13) rfl rfl rfl c145 (Nat.le_of_ble_eq_true rfl) (Nat.le_of_ble_eq_true rfl) (by omega) (by omega) (f_X13_add_ok X (by omega) (by omega) nn a0 9 v144 v72 u77.2 e_u146) ?_
                        clear e_u146
                        show mx_S X F L 405 624 [(2, .int v72), (0, .ref a0), (1, .int a1)] [.int u146.1] u146.2 0 0 (some (.int r.1), r.2, 0, 0)
                        refine mx_S.pu (pc2 := 625) (lv2 := [(3, .int u146.1), (2, .int v72), (0, .ref a0), (1, .int a1)]) (st2 := []) hm dX13_statement_624 rfl ?_
                        refine mx_S.pu (pc2 := 626) (lv2 := [(3, .int u146.1), (2, .int v72), (0, .ref a0), (1, .int a1)]) (st2 := [.ref a0]) hm dX13_statement_625 rfl ?_
                        refine mx_S.pu (pc2 := 627) (lv2 := [(3, .int u146.1), (2, .int v72), (0, .ref a0), (1, .int a1)]) (st2 := [.ref a0, .ref a0]) hm dX13_statement_626 rfl ?_
                        replace hf := mx_sv_el hf; obtain ⟨v147, e_v147, hf⟩ := hf
                        refine sx_get hm dX13_statement_627 rs_RX13_376 (xgi_el e_v147) ?_
                        clear e_v147
                        refine sx_ic (v := 1) hm dX13_statement_630 (by decide) ?_
                        replace hf := xl_el hf; obtain ⟨v148, e_v148, hf⟩ := hf
                        refine mx_S.pu (pc2 := 632) (lv2 := [(3, .int u146.1), (2, .int v72), (0, .ref a0), (1, .int a1)]) (st2 := [.int v148, .ref a0]) hm dX13_statement_631 (by rw [← e_v148]; rfl) ?_
                        clear e_v148
                        replace hf := mx_sv_el hf; obtain ⟨h149, e_h149, hf⟩ := hf
                        refine sx_put hm dX13_statement_632 rs_RX13_376 ft_13_23 ⟨rfl, rfl⟩ (fun z => by cases z) e_h149 ?_
                        clear e_h149
                        refine mx_S.pu (pc2 := 636) (lv2 := [(3, .int u146.1), (2, .int v72), (0, .ref a0), (1, .int a1)]) (st2 := [.ref a0]) hm dX13_statement_635 rfl ?_
                        replace hf := mx_sv_el hf; obtain ⟨v150, e_v150, hf⟩ := hf
                        refine sx_get hm dX13_statement_636 rs_RX13_37 (xgr_el e_v150) ?_
                        clear e_v150
                        refine mx_S.pu (pc2 := 640) (lv2 := [(3, .int u146.1), (2, .int v72), (0, .ref a0), (1, .int a1)]) (st2 := [.int u146.1, .ref v150]) hm dX13_statement_639 rfl ?_
                        refine mx_S.pu (pc2 := 641) (lv2 := [(3, .int u146.1), (2, .int v72), (0, .ref a0), (1, .int a1)]) (st2 := [.ref a0, .int u146.1, .ref v150]) hm dX13_statement_640 rfl ?_
                        refine mx_S.pu (pc2 := 642) (lv2 := [(3, .int u146.1), (2, .int v72), (0, .ref a0), (1, .int a1)]) (st2 := [.int a1, .ref a0, .int u146.1, .ref v150]) hm dX13_statement_641 rfl ?_
                        refine sx_ic (v := 1) hm dX13_statement_642 (by decide) ?_
                        replace hf := xl_el hf; obtain ⟨v151, e_v151, hf⟩ := hf
                        refine mx_S.pu (pc2 := 644) (lv2 := [(3, .int u146.1), (2, .int v72), (0, .ref a0), (1, .int a1)]) (st2 := [.int v151, .ref a0, .int u146.1, .ref v150]) hm dX13_statement_643 (by rw [← e_v151]; rfl) ?_
                        clear e_v151
                        replace hf := mx_gd_el hf; obtain ⟨c152, hf⟩ := hf
                        replace hf := mx_sv_el hf; obtain ⟨u153, e_u153, hf⟩ := hf
                        refine sx_cv hm dX13_statement_644 rs_RX13_427 mt_X13_block [.int v151] [.int u146.1, .ref v150] (b := a0) (ci := 13) rfl rfl rfl c152 (Nat.le_of_ble_eq_true rfl) (Nat.le_of_ble_eq_true rfl) (by omega) (by omega) (hrc.1 (by omega) (by omega) a0 v151 h149 e_u153) ?_
                        clear e_u153
                        show mx_S X F L 405 647 [(3, .int u146.1), (2, .int v72), (0, .ref a0), (1, .int a1)] [.int u153.1, .int u146.1, .ref v150] u153.2 0 0 (some (.int r.1), r.2, 0, 0)
                        replace hf := mx_sv_el hf; obtain ⟨h154, e_h154, hf⟩ := hf
                        refine sx_ast hm dX13_statement_647 e_h154 ?_
                        clear e_h154
                        refine mx_S.pu (pc2 := 649) (lv2 := [(3, .int u146.1), (2, .int v72), (0, .ref a0), (1, .int a1)]) (st2 := [.ref a0]) hm dX13_statement_648 rfl ?_
                        refine sx_ic (v := 2) hm dX13_statement_649 (by decide) ?_
                        replace hf := mx_gd_el hf; obtain ⟨c155, hf⟩ := hf
                        replace hf := mx_sv_el hf; obtain ⟨u156, e_u156, hf⟩ := hf
                        refine sx_cv hm dX13_statement_650 rs_RX13_418 mt_X13_word [.int 2] [] (b := a0) (ci := 13) rfl rfl rfl c155 (Nat.le_of_ble_eq_true rfl) (Nat.le_of_ble_eq_true rfl) (by omega) (by omega) (f_X13_word_ok X (by omega) (by omega) nn a0 2 h154 e_u156) ?_
                        clear e_u156
                        show mx_S X F L 405 653 [(3, .int u146.1), (2, .int v72), (0, .ref a0), (1, .int a1)] [] u156 0 0 (some (.int r.1), r.2, 0, 0)
                        refine mx_S.pu (pc2 := 654) (lv2 := [(3, .int u146.1), (2, .int v72), (0, .ref a0), (1, .int a1)]) (st2 := [.ref a0]) hm dX13_statement_653 rfl ?_
                        refine sx_bi (v := 40) hm dX13_statement_654 (by decide) ?_
                        replace hf := mx_gd_el hf; obtain ⟨c157, hf⟩ := hf
                        replace hf := mx_sv_el hf; obtain ⟨u158, e_u158, hf⟩ := hf
                        refine sx_cv hm dX13_statement_656 rs_RX13_406 mt_X13_sign_ [.int 40] [] (b := a0) (ci := 13) rfl rfl rfl c157 (Nat.le_of_ble_eq_true rfl) (Nat.le_of_ble_eq_true rfl) (by omega) (by omega) (f_X13_sign__ok X (by omega) (by omega) nn a0 40 u156 e_u158) ?_
                        clear e_u158
                        show mx_S X F L 405 659 [(3, .int u146.1), (2, .int v72), (0, .ref a0), (1, .int a1)] [] u158 0 0 (some (.int r.1), r.2, 0, 0)
                        refine mx_S.pu (pc2 := 660) (lv2 := [(3, .int u146.1), (2, .int v72), (0, .ref a0), (1, .int a1)]) (st2 := [.ref a0]) hm dX13_statement_659 rfl ?_
                        replace hf := mx_sv_el hf; obtain ⟨v159, e_v159, hf⟩ := hf
                        refine sx_get hm dX13_statement_660 rs_RX13_31 (xgr_el e_v159) ?_
                        clear e_v159
                        refine mx_S.pu (pc2 := 664) (lv2 := [(3, .int u146.1), (2, .int v72), (0, .ref a0), (1, .int a1)]) (st2 := [.int u146.1, .ref v159]) hm dX13_statement_663 rfl ?_
                        refine mx_S.pu (pc2 := 665) (lv2 := [(3, .int u146.1), (2, .int v72), (0, .ref a0), (1, .int a1)]) (st2 := [.ref a0, .int u146.1, .ref v159]) hm dX13_statement_664 rfl ?_
                        replace hf := mx_gd_el hf; obtain ⟨c160, hf⟩ := hf
                        replace hf := mx_sv_el hf; obtain ⟨u161, e_u161, hf⟩ := hf
                        refine sx_cv hm dX13_statement_665 rs_RX13_403 mt_X13_name [] [.int u146.1, .ref v159] (b := a0) (ci := 13) rfl rfl rfl c160 (Nat.le_of_ble_eq_true rfl) (Nat.le_of_ble_eq_true rfl) (by omega) (by omega) (f_X13_name_ok X (by omega) (by omega) nn a0 u158 e_u161) ?_
                        clear e_u161
                        show mx_S X F L 405 668 [(3, .int u146.1), (2, .int v72), (0, .ref a0), (1, .int a1)] [.int u161.1, .int u146.1, .ref v159] u161.2 0 0 (some (.int r.1), r.2, 0, 0)
                        replace hf := mx_sv_el hf; obtain ⟨h162, e_h162, hf⟩ := hf
                        refine sx_ast hm dX13_statement_668 e_h162 ?_
                        clear e_h162
                        refine mx_S.pu (pc2 := 670) (lv2 := [(3, .int u146.1), (2, .int v72), (0, .ref a0), (1, .int a1)]) (st2 := [.ref a0]) hm dX13_statement_669 rfl ?_
                        replace hf := mx_sv_el hf; obtain ⟨v163, e_v163, hf⟩ := hf
                        refine sx_get hm dX13_statement_670 rs_RX13_55 (xgr_el e_v163) ?_
                        clear e_v163
                        refine mx_S.pu (pc2 := 674) (lv2 := [(3, .int u146.1), (2, .int v72), (0, .ref a0), (1, .int a1)]) (st2 := [.int u146.1, .ref v163]) hm dX13_statement_673 rfl ?_
                        refine mx_S.pu (pc2 := 675) (lv2 := [(3, .int u146.1), (2, .int v72), (0, .ref a0), (1, .int a1)]) (st2 := [.ref a0, .int u146.1, .ref v163]) hm dX13_statement_674 rfl ?_
                        replace hf := mx_gd_el hf; obtain ⟨c164, hf⟩ := hf
                        replace hf := mx_sv_el hf; obtain ⟨u165, e_u165, hf⟩ := hf
                        refine sx_cv hm dX13_statement_675 rs_RX13_403 mt_X13_name [] [.int u146.1, .ref v163] (b := a0) (ci := 13) rfl rfl rfl c164 (Nat.le_of_ble_eq_true rfl) (Nat.le_of_ble_eq_true rfl) (by omega) (by omega) (f_X13_name_ok X (by omega) (by omega) nn a0 h162 e_u165) ?_
                        clear e_u165
                        show mx_S X F L 405 678 [(3, .int u146.1), (2, .int v72), (0, .ref a0), (1, .int a1)] [.int u165.1, .int u146.1, .ref v163] u165.2 0 0 (some (.int r.1), r.2, 0, 0)
                        replace hf := mx_sv_el hf; obtain ⟨h166, e_h166, hf⟩ := hf
                        refine sx_ast hm dX13_statement_678 e_h166 ?_
                        clear e_h166
                        refine mx_S.pu (pc2 := 680) (lv2 := [(3, .int u146.1), (2, .int v72), (0, .ref a0), (1, .int a1)]) (st2 := [.ref a0]) hm dX13_statement_679 rfl ?_
                        refine sx_bi (v := 41) hm dX13_statement_680 (by decide) ?_
                        replace hf := mx_gd_el hf; obtain ⟨c167, hf⟩ := hf
                        replace hf := mx_sv_el hf; obtain ⟨u168, e_u168, hf⟩ := hf
                        refine sx_cv hm dX13_statement_682 rs_RX13_406 mt_X13_sign_ [.int 41] [] (b := a0) (ci := 13) rfl rfl rfl c167 (Nat.le_of_ble_eq_true rfl) (Nat.le_of_ble_eq_true rfl) (by omega) (by omega) (f_X13_sign__ok X (by omega) (by omega) nn a0 41 h166 e_u168) ?_
                        clear e_u168
                        show mx_S X F L 405 685 [(3, .int u146.1), (2, .int v72), (0, .ref a0), (1, .int a1)] [] u168 0 0 (some (.int r.1), r.2, 0, 0)
                        refine mx_S.pu (pc2 := 686) (lv2 := [(3, .int u146.1), (2, .int v72), (0, .ref a0), (1, .int a1)]) (st2 := [.ref a0]) hm dX13_statement_685 rfl ?_
                        replace hf := mx_sv_el hf; obtain ⟨v169, e_v169, hf⟩ := hf
                        refine sx_get hm dX13_statement_686 rs_RX13_40 (xgr_el e_v169) ?_
                        clear e_v169
                        refine mx_S.pu (pc2 := 690) (lv2 := [(3, .int u146.1), (2, .int v72), (0, .ref a0), (1, .int a1)]) (st2 := [.int u146.1, .ref v169]) hm dX13_statement_689 rfl ?_
                        refine mx_S.pu (pc2 := 691) (lv2 := [(3, .int u146.1), (2, .int v72), (0, .ref a0), (1, .int a1)]) (st2 := [.ref a0, .int u146.1, .ref v169]) hm dX13_statement_690 rfl ?_
                        refine mx_S.pu (pc2 := 692) (lv2 := [(3, .int u146.1), (2, .int v72), (0, .ref a0), (1, .int a1)]) (st2 := [.int a1, .ref a0, .int u146.1, .ref v169]) hm dX13_statement_691 rfl ?_
                        refine sx_ic (v := 1) hm dX13_statement_692 (by decide) ?_
                        replace hf := xl_el hf; obtain ⟨v170, e_v170, hf⟩ := hf
                        refine mx_S.pu (pc2 := 694) (lv2 := [(3, .int u146.1), (2, .int v72), (0, .ref a0), (1, .int a1)]) (st2 := [.int v170, .ref a0, .int u146.1, .ref v169]) hm dX13_statement_693 (by rw [← e_v170]; rfl) ?_
                        clear e_v170
                        replace hf := mx_gd_el hf; obtain ⟨c171, hf⟩ := hf
                        replace hf := mx_sv_el hf; obtain ⟨u172, e_u172, hf⟩ := hf
                        refine sx_cv hm dX13_statement_694 rs_RX13_427 mt_X13_block [.int v170] [.int u146.1, .ref v169] (b := a0) (ci := 13) rfl rfl rfl c171 (Nat.le_of_ble_eq_true rfl) (Nat.le_of_ble_eq_true rfl) (by omega) (by omega) (hrc.1 (by omega) (by omega) a0 v170 u168 e_u172) ?_
                        clear e_u172
                        show mx_S X F L 405 697 [(3, .int u146.1), (2, .int v72), (0, .ref a0), (1, .int a1)] [.int u172.1, .int u146.1, .ref v169] u172.2 0 0 (some (.int r.1), r.2, 0, 0)
                        replace hf := mx_sv_el hf; obtain ⟨h173, e_h173, hf⟩ := hf
                        refine sx_ast hm dX13_statement_697 e_h173 ?_
                        clear e_h173
                        refine mx_S.ext [(3, .int u146.1)] (mx_sub_pos [0] rfl (show ([3, 2, 0, 1] : List Nat).Nodup by decide)) ?_
                        exact j_X13_statement_698_ok X hF hL nn hrc u146.1 h173 hf
                      · rcases mx_if_el hf with ⟨n_7, hf⟩ | ⟨n_7, hf⟩
                        · refine sx_tin hm dX13_statement_165 (by rw [n_7]; decide) (by rw [n_7]; decide) (off := 202) (by rw [n_7]; rfl) (tgt := 367) rfl ?_
                          clear n_0 n_1 n_2 n_3 n_4 n_5 n_6 n_7
                          refine mx_S.pu (pc2 := 368) (lv2 := [(2, .int v72), (0, .ref a0), (1, .int a1)]) (st2 := [.ref a0]) hm dX13_statement_367 rfl ?_
                          refine sx_ic (v := 4) hm dX13_statement_368 (by decide) ?_
                          refine mx_S.pu (pc2 := 370) (lv2 := [(2, .int v72), (0, .ref a0), (1, .int a1)]) (st2 := [.ref a0, .int 4, .ref a0]) hm dX13_statement_369 rfl ?_
                          replace hf := mx_sv_el hf; obtain ⟨v174, e_v174, hf⟩ := hf
                          refine sx_get hm dX13_statement_370 rs_RX13_376 (xgi_el e_v174) ?_
                          clear e_v174
                          refine mx_S.pu (pc2 := 374) (lv2 := [(2, .int v72), (0, .ref a0), (1, .int a1)]) (st2 := [.int v72, .int v174, .int 4, .ref a0]) hm dX13_statement_373 rfl ?_
                          replace hf := mx_gd_el hf; obtain ⟨c175, hf⟩ := hf
                          replace hf := mx_sv_el hf; obtain ⟨u176, e_u176, hf⟩ := hf
                          refine sx_cv hm dX13_statement_374 rs_RX13_430 mt_X13_add [.int 4, .int v174, .int v72] [] (b := a0) (ci := 13) rfl rfl rfl c175 (Nat.le_of_ble_eq_true rfl) (Nat.le_of_ble_eq_true rfl) (by omega) (by omega) (f_X13_add_ok X (by omega) (by omega) nn a0 4 v174 v72 u77.2 e_u176) ?_
                          clear e_u176
                          show mx_S X F L 405 377 [(2, .int v72), (0, .ref a0), (1, .int a1)] [.int u176.1] u176.2 0 0 (some (.int r.1), r.2, 0, 0)
                          refine mx_S.pu (pc2 := 378) (lv2 := [(3, .int u176.1), (2, .int v72), (0, .ref a0), (1, .int a1)]) (st2 := []) hm dX13_statement_377 rfl ?_
                          refine mx_S.pu (pc2 := 379) (lv2 := [(3, .int u176.1), (2, .int v72), (0, .ref a0), (1, .int a1)]) (st2 := [.ref a0]) hm dX13_statement_378 rfl ?_
                          refine mx_S.pu (pc2 := 380) (lv2 := [(3, .int u176.1), (2, .int v72), (0, .ref a0), (1, .int a1)]) (st2 := [.ref a0, .ref a0]) hm dX13_statement_379 rfl ?_
                          replace hf := mx_sv_el hf; obtain ⟨v177, e_v177, hf⟩ := hf
                          refine sx_get hm dX13_statement_380 rs_RX13_376 (xgi_el e_v177) ?_
                          clear e_v177
                          refine sx_ic (v := 1) hm dX13_statement_383 (by decide) ?_
                          replace hf := xl_el hf; obtain ⟨v178, e_v178, hf⟩ := hf
                          refine mx_S.pu (pc2 := 385) (lv2 := [(3, .int u176.1), (2, .int v72), (0, .ref a0), (1, .int a1)]) (st2 := [.int v178, .ref a0]) hm dX13_statement_384 (by rw [← e_v178]; rfl) ?_
                          clear e_v178
                          replace hf := mx_sv_el hf; obtain ⟨h179, e_h179, hf⟩ := hf
                          refine sx_put hm dX13_statement_385 rs_RX13_376 ft_13_23 ⟨rfl, rfl⟩ (fun z => by cases z) e_h179 ?_
                          clear e_h179
                          refine mx_S.pu (pc2 := 389) (lv2 := [(3, .int u176.1), (2, .int v72), (0, .ref a0), (1, .int a1)]) (st2 := [.ref a0]) hm dX13_statement_388 rfl ?_
                          refine sx_bi (v := 40) hm dX13_statement_389 (by decide) ?_
                          replace hf := mx_gd_el hf; obtain ⟨c180, hf⟩ := hf
                          replace hf := mx_sv_el hf; obtain ⟨u181, e_u181, hf⟩ := hf
                          refine sx_cv hm dX13_statement_391 rs_RX13_406 mt_X13_sign_ [.int 40] [] (b := a0) (ci := 13) rfl rfl rfl c180 (Nat.le_of_ble_eq_true rfl) (Nat.le_of_ble_eq_true rfl) (by omega) (by omega) (f_X13_sign__ok X (by omega) (by omega) nn a0 40 h179 e_u181) ?_
                          clear e_u181
                          show mx_S X F L 405 394 [(3, .int u176.1), (2, .int v72), (0, .ref a0), (1, .int a1)] [] u181 0 0 (some (.int r.1), r.2, 0, 0)
                          refine mx_S.pu (pc2 := 395) (lv2 := [(3, .int u176.1), (2, .int v72), (0, .ref a0), (1, .int a1)]) (st2 := [.ref a0]) hm dX13_statement_394 rfl ?_
                          replace hf := mx_sv_el hf; obtain ⟨v182, e_v182, hf⟩ := hf
                          refine sx_get hm dX13_statement_395 rs_RX13_52 (xgr_el e_v182) ?_
                          clear e_v182
                          refine mx_S.pu (pc2 := 399) (lv2 := [(3, .int u176.1), (2, .int v72), (0, .ref a0), (1, .int a1)]) (st2 := [.int u176.1, .ref v182]) hm dX13_statement_398 rfl ?_
                          refine mx_S.pu (pc2 := 400) (lv2 := [(3, .int u176.1), (2, .int v72), (0, .ref a0), (1, .int a1)]) (st2 := [.ref a0, .int u176.1, .ref v182]) hm dX13_statement_399 rfl ?_
                          refine mx_S.pu (pc2 := 401) (lv2 := [(3, .int u176.1), (2, .int v72), (0, .ref a0), (1, .int a1)]) (st2 := [.ref a0, .ref a0, .int u176.1, .ref v182]) hm dX13_statement_400 rfl ?_
                          replace hf := mx_sv_el hf; obtain ⟨v183, e_v183, hf⟩ := hf
                          refine sx_get hm dX13_statement_401 rs_RX13_376 (xgi_el e_v183) ?_
                          clear e_v183
                          refine sx_bi (v := 18) hm dX13_statement_404 (by decide) ?_
                          replace hf := mx_gd_el hf; obtain ⟨c184, hf⟩ := hf
                          replace hf := mx_sv_el hf; obtain ⟨u185, e_u185, hf⟩ := hf
                          refine sx_cv hm dX13_statement_406 rs_RX13_390 mt_X13_isWord [.int v183, .int 18] [.int u176.1, .ref v182] (b := a0) (ci := 13) rfl rfl rfl c184 (Nat.le_of_ble_eq_true rfl) (Nat.le_of_ble_eq_true rfl) (by omega) (by omega) (f_X13_isWord_ok X (by omega) (by omega) nn a0 v183 18 u181 e_u185) ?_
                          clear e_u185
                          show mx_S X F L 405 409 [(3, .int u176.1), (2, .int v72), (0, .ref a0), (1, .int a1)] [.int u185.1, .int u176.1, .ref v182] u185.2 0 0 (some (.int r.1), r.2, 0, 0)
                          rcases mx_if_el hf with ⟨c191, hf⟩ | ⟨c191, hf⟩
                          · refine sb_if_eq hm dX13_statement_409 (tgt := 431) rfl (fun _ => ?_) (fun z => absurd c191 z)
                            refine mx_S.ext [(0, .ref a0), (1, .int a1), (3, .int u176.1)] (mx_sub_pos [2, 3, 0] rfl (show ([3, 2, 0, 1] : List Nat).Nodup by decide)) ?_
                            exact j_X13_statement_431_ok X hF hL nn hrc a0 a1 u176.1 u176.1 v182 u185.2 hf
                          · refine sb_if_eq hm dX13_statement_409 (tgt := 431) rfl (fun z => absurd z c191) (fun _ => ?_)
                            refine mx_S.pu (pc2 := 413) (lv2 := [(3, .int u176.1), (2, .int v72), (0, .ref a0), (1, .int a1)]) (st2 := [.ref a0, .int u176.1, .ref v182]) hm dX13_statement_412 rfl ?_
                            refine mx_S.pu (pc2 := 414) (lv2 := [(3, .int u176.1), (2, .int v72), (0, .ref a0), (1, .int a1)]) (st2 := [.ref a0, .ref a0, .int u176.1, .ref v182]) hm dX13_statement_413 rfl ?_
                            replace hf := mx_sv_el hf; obtain ⟨v186, e_v186, hf⟩ := hf
                            refine sx_get hm dX13_statement_414 rs_RX13_376 (xgi_el e_v186) ?_
                            clear e_v186
                            refine sx_ic (v := 1) hm dX13_statement_417 (by decide) ?_
                            replace hf := xl_el hf; obtain ⟨v187, e_v187, hf⟩ := hf
                            refine mx_S.pu (pc2 := 419) (lv2 := [(3, .int u176.1), (2, .int v72), (0, .ref a0), (1, .int a1)]) (st2 := [.int v187, .ref a0, .int u176.1, .ref v182]) hm dX13_statement_418 (by rw [← e_v187]; rfl) ?_
                            clear e_v187
                            refine sx_bi (v := 41) hm dX13_statement_419 (by decide) ?_
                            replace hf := mx_gd_el hf; obtain ⟨c188, hf⟩ := hf
                            replace hf := mx_sv_el hf; obtain ⟨u189, e_u189, hf⟩ := hf
                            refine sx_cv hm dX13_statement_421 rs_RX13_383 mt_X13_isSign [.int v187, .int 41] [.int u176.1, .ref v182] (b := a0) (ci := 13) rfl rfl rfl c188 (Nat.le_of_ble_eq_true rfl) (Nat.le_of_ble_eq_true rfl) (by omega) (by omega) (f_X13_isSign_ok X (by omega) (by omega) nn a0 v187 41 u185.2 e_u189) ?_
                            clear e_u189
                            show mx_S X F L 405 424 [(3, .int u176.1), (2, .int v72), (0, .ref a0), (1, .int a1)] [.int u189.1, .int u176.1, .ref v182] u189.2 0 0 (some (.int r.1), r.2, 0, 0)
                            rcases mx_if_el hf with ⟨c190, hf⟩ | ⟨c190, hf⟩
                            · refine sb_if_eq hm dX13_statement_424 (tgt := 431) rfl (fun _ => ?_) (fun z => absurd c190 z)
                              refine mx_S.ext [(0, .ref a0), (1, .int a1), (3, .int u176.1)] (mx_sub_pos [2, 3, 0] rfl (show ([3, 2, 0, 1] : List Nat).Nodup by decide)) ?_
                              exact j_X13_statement_431_ok X hF hL nn hrc a0 a1 u176.1 u176.1 v182 u189.2 hf
                            · refine sb_if_eq hm dX13_statement_424 (tgt := 431) rfl (fun z => absurd z c190) (fun _ => ?_)
                              refine sx_ic (v := 1) hm dX13_statement_427 (by decide) ?_
                              refine mx_S.pu (pc2 := 432) (lv2 := [(3, .int u176.1), (2, .int v72), (0, .ref a0), (1, .int a1)]) (st2 := [.int 1, .int u176.1, .ref v182]) hm dX13_statement_428 rfl ?_
                              refine mx_S.ext [(0, .ref a0), (1, .int a1), (3, .int u176.1)] (mx_sub_pos [2, 3, 0] rfl (show ([3, 2, 0, 1] : List Nat).Nodup by decide)) ?_
                              exact j_X13_statement_432_ok X hF hL nn hrc a0 a1 u176.1 1 u176.1 v182 u189.2 hf
                        · rcases (show (v83.toInt < 1 ∨ 21 < v83.toInt) ∨ v83.toInt = 1 ∨ v83.toInt = 2 ∨ v83.toInt = 3 ∨ v83.toInt = 4 ∨ v83.toInt = 5 ∨ v83.toInt = 6 ∨ v83.toInt = 7 ∨ v83.toInt = 8 ∨ v83.toInt = 9 ∨ v83.toInt = 10 ∨ v83.toInt = 11 ∨ v83.toInt = 12 ∨ v83.toInt = 13 ∨ v83.toInt = 14 ∨ v83.toInt = 15 ∨ v83.toInt = 16 ∨ v83.toInt = 17 ∨ v83.toInt = 18 ∨ v83.toInt = 19 ∨ v83.toInt = 20 ∨ v83.toInt = 21 by omega) with z0 | z0 | z0 | z0 | z0 | z0 | z0 | z0 | z0 | z0 | z0 | z0 | z0 | z0 | z0 | z0 | z0 | z0 | z0 | z0 | z0 | z0
                          · refine sx_tout hm dX13_statement_165 z0 (tgt := 755) rfl ?_
                            refine mx_S.ext [(0, .ref a0), (1, .int a1)] (mx_sub_pos [1, 2] rfl (show ([2, 0, 1] : List Nat).Nodup by decide)) ?_
                            exact j_X13_statement_755_ok X hF hL nn hrc a0 a1 u77.2 hf
                          · exact absurd (Int32.toInt_inj.mp (z0.trans (by decide : (1 : Int) = (1 : Int32).toInt))) n_0
                          · refine sx_tin hm dX13_statement_165 (by omega) (by omega) (off := 590) (by rw [z0]; rfl) (tgt := 755) rfl ?_
                            refine mx_S.ext [(0, .ref a0), (1, .int a1)] (mx_sub_pos [1, 2] rfl (show ([2, 0, 1] : List Nat).Nodup by decide)) ?_
                            exact j_X13_statement_755_ok X hF hL nn hrc a0 a1 u77.2 hf
                          · refine sx_tin hm dX13_statement_165 (by omega) (by omega) (off := 590) (by rw [z0]; rfl) (tgt := 755) rfl ?_
                            refine mx_S.ext [(0, .ref a0), (1, .int a1)] (mx_sub_pos [1, 2] rfl (show ([2, 0, 1] : List Nat).Nodup by decide)) ?_
                            exact j_X13_statement_755_ok X hF hL nn hrc a0 a1 u77.2 hf
                          · exact absurd (Int32.toInt_inj.mp (z0.trans (by decide : (4 : Int) = (4 : Int32).toInt))) n_1
                          · refine sx_tin hm dX13_statement_165 (by omega) (by omega) (off := 590) (by rw [z0]; rfl) (tgt := 755) rfl ?_
                            refine mx_S.ext [(0, .ref a0), (1, .int a1)] (mx_sub_pos [1, 2] rfl (show ([2, 0, 1] : List Nat).Nodup by decide)) ?_
                            exact j_X13_statement_755_ok X hF hL nn hrc a0 a1 u77.2 hf
                          · refine sx_tin hm dX13_statement_165 (by omega) (by omega) (off := 590) (by rw [z0]; rfl) (tgt := 755) rfl ?_
                            refine mx_S.ext [(0, .ref a0), (1, .int a1)] (mx_sub_pos [1, 2] rfl (show ([2, 0, 1] : List Nat).Nodup by decide)) ?_
                            exact j_X13_statement_755_ok X hF hL nn hrc a0 a1 u77.2 hf
                          · refine sx_tin hm dX13_statement_165 (by omega) (by omega) (off := 590) (by rw [z0]; rfl) (tgt := 755) rfl ?_
                            refine mx_S.ext [(0, .ref a0), (1, .int a1)] (mx_sub_pos [1, 2] rfl (show ([2, 0, 1] : List Nat).Nodup by decide)) ?_
                            exact j_X13_statement_755_ok X hF hL nn hrc a0 a1 u77.2 hf
                          · exact absurd (Int32.toInt_inj.mp (z0.trans (by decide : (8 : Int) = (8 : Int32).toInt))) n_2
                          · refine sx_tin hm dX13_statement_165 (by omega) (by omega) (off := 590) (by rw [z0]; rfl) (tgt := 755) rfl ?_
                            refine mx_S.ext [(0, .ref a0), (1, .int a1)] (mx_sub_pos [1, 2] rfl (show ([2, 0, 1] : List Nat).Nodup by decide)) ?_
                            exact j_X13_statement_755_ok X hF hL nn hrc a0 a1 u77.2 hf
                          · refine sx_tin hm dX13_statement_165 (by omega) (by omega) (off := 590) (by rw [z0]; rfl) (tgt := 755) rfl ?_
                            refine mx_S.ext [(0, .ref a0), (1, .int a1)] (mx_sub_pos [1, 2] rfl (show ([2, 0, 1] : List Nat).Nodup by decide)) ?_
                            exact j_X13_statement_755_ok X hF hL nn hrc a0 a1 u77.2 hf
                          · refine sx_tin hm dX13_statement_165 (by omega) (by omega) (off := 590) (by rw [z0]; rfl) (tgt := 755) rfl ?_
                            refine mx_S.ext [(0, .ref a0), (1, .int a1)] (mx_sub_pos [1, 2] rfl (show ([2, 0, 1] : List Nat).Nodup by decide)) ?_
                            exact j_X13_statement_755_ok X hF hL nn hrc a0 a1 u77.2 hf
                          · refine sx_tin hm dX13_statement_165 (by omega) (by omega) (off := 590) (by rw [z0]; rfl) (tgt := 755) rfl ?_
                            refine mx_S.ext [(0, .ref a0), (1, .int a1)] (mx_sub_pos [1, 2] rfl (show ([2, 0, 1] : List Nat).Nodup by decide)) ?_
                            exact j_X13_statement_755_ok X hF hL nn hrc a0 a1 u77.2 hf
                          · exact absurd (Int32.toInt_inj.mp (z0.trans (by decide : (13 : Int) = (13 : Int32).toInt))) n_3
                          · exact absurd (Int32.toInt_inj.mp (z0.trans (by decide : (14 : Int) = (14 : Int32).toInt))) n_4
                          · refine sx_tin hm dX13_statement_165 (by omega) (by omega) (off := 590) (by rw [z0]; rfl) (tgt := 755) rfl ?_
                            refine mx_S.ext [(0, .ref a0), (1, .int a1)] (mx_sub_pos [1, 2] rfl (show ([2, 0, 1] : List Nat).Nodup by decide)) ?_
                            exact j_X13_statement_755_ok X hF hL nn hrc a0 a1 u77.2 hf
                          · refine sx_tin hm dX13_statement_165 (by omega) (by omega) (off := 590) (by rw [z0]; rfl) (tgt := 755) rfl ?_
                            refine mx_S.ext [(0, .ref a0), (1, .int a1)] (mx_sub_pos [1, 2] rfl (show ([2, 0, 1] : List Nat).Nodup by decide)) ?_
                            exact j_X13_statement_755_ok X hF hL nn hrc a0 a1 u77.2 hf
                          · exact absurd (Int32.toInt_inj.mp (z0.trans (by decide : (17 : Int) = (17 : Int32).toInt))) n_5
                          · refine sx_tin hm dX13_statement_165 (by omega) (by omega) (off := 590) (by rw [z0]; rfl) (tgt := 755) rfl ?_
                            refine mx_S.ext [(0, .ref a0), (1, .int a1)] (mx_sub_pos [1, 2] rfl (show ([2, 0, 1] : List Nat).Nodup by decide)) ?_
                            exact j_X13_statement_755_ok X hF hL nn hrc a0 a1 u77.2 hf
                          · exact absurd (Int32.toInt_inj.mp (z0.trans (by decide : (19 : Int) = (19 : Int32).toInt))) n_6
                          · refine sx_tin hm dX13_statement_165 (by omega) (by omega) (off := 590) (by rw [z0]; rfl) (tgt := 755) rfl ?_
                            refine mx_S.ext [(0, .ref a0), (1, .int a1)] (mx_sub_pos [1, 2] rfl (show ([2, 0, 1] : List Nat).Nodup by decide)) ?_
                            exact j_X13_statement_755_ok X hF hL nn hrc a0 a1 u77.2 hf
                          · exact absurd (Int32.toInt_inj.mp (z0.trans (by decide : (21 : Int) = (21 : Int32).toInt))) n_7
        · refine sb_ic_eq hm dX13_statement_147 (tgt := 156) rfl (fun z => absurd z c194) (fun _ => ?_)
          refine mx_S.pu (pc2 := 151) (lv2 := [(2, .int v72), (0, .ref a0), (1, .int a1)]) (st2 := [.ref a0]) hm dX13_statement_150 rfl ?_
          refine mx_S.pu (pc2 := 152) (lv2 := [(2, .int v72), (0, .ref a0), (1, .int a1)]) (st2 := [.int a1, .ref a0]) hm dX13_statement_151 rfl ?_
          replace hf := mx_gd_el hf; obtain ⟨c192, hf⟩ := hf
          replace hf := mx_sv_el hf; obtain ⟨u193, e_u193, hf⟩ := hf
          refine sx_cv hm dX13_statement_152 rs_RX13_447 mt_X13_plain [.int a1] [] (b := a0) (ci := 13) rfl rfl rfl c192 (Nat.le_of_ble_eq_true rfl) (Nat.le_of_ble_eq_true rfl) (by omega) (by omega) (f_X13_plain_ok X (by omega) (by omega) nn a0 a1 u77.2 e_u193) ?_
          clear e_u193
          show mx_S X F L 405 155 [(2, .int v72), (0, .ref a0), (1, .int a1)] [.int u193.1] u193.2 0 0 (some (.int r.1), r.2, 0, 0)
          cases hf
          exact sx_ire hm dX13_statement_155 rfl rfl
      · refine sb_if_eq hm dX13_statement_40 (tgt := 137) rfl (fun z => absurd z c204) (fun _ => ?_)
        refine mx_S.pu (pc2 := 44) (lv2 := [(2, .int v72), (0, .ref a0), (1, .int a1)]) (st2 := [.ref a0]) hm dX13_statement_43 rfl ?_
        replace hf := mx_gd_el hf; obtain ⟨c195, hf⟩ := hf
        replace hf := mx_sv_el hf; obtain ⟨u196, e_u196, hf⟩ := hf
        refine sx_cv hm dX13_statement_44 rs_RX13_424 mt_X13_type [] [] (b := a0) (ci := 13) rfl rfl rfl c195 (Nat.le_of_ble_eq_true rfl) (Nat.le_of_ble_eq_true rfl) (by omega) (by omega) (f_X13_type_ok X (by omega) (by omega) nn a0 u77.2 e_u196) ?_
        clear e_u196
        show mx_S X F L 405 47 [(2, .int v72), (0, .ref a0), (1, .int a1)] [] u196 0 0 (some (.int r.1), r.2, 0, 0)
        refine mx_S.pu (pc2 := 48) (lv2 := [(2, .int v72), (0, .ref a0), (1, .int a1)]) (st2 := [.ref a0]) hm dX13_statement_47 rfl ?_
        refine sx_ic (v := 2) hm dX13_statement_48 (by decide) ?_
        refine sx_ic (v := 0) hm dX13_statement_49 (by decide) ?_
        refine mx_S.pu (pc2 := 51) (lv2 := [(2, .int v72), (0, .ref a0), (1, .int a1)]) (st2 := [.int v72, .int 0, .int 2, .ref a0]) hm dX13_statement_50 rfl ?_
        replace hf := mx_gd_el hf; obtain ⟨c197, hf⟩ := hf
        replace hf := mx_sv_el hf; obtain ⟨u198, e_u198, hf⟩ := hf
        refine sx_cv hm dX13_statement_51 rs_RX13_430 mt_X13_add [.int 2, .int 0, .int v72] [] (b := a0) (ci := 13) rfl rfl rfl c197 (Nat.le_of_ble_eq_true rfl) (Nat.le_of_ble_eq_true rfl) (by omega) (by omega) (f_X13_add_ok X (by omega) (by omega) nn a0 2 0 v72 u196 e_u198) ?_
        clear e_u198
        show mx_S X F L 405 54 [(2, .int v72), (0, .ref a0), (1, .int a1)] [.int u198.1] u198.2 0 0 (some (.int r.1), r.2, 0, 0)
        refine mx_S.pu (pc2 := 55) (lv2 := [(3, .int u198.1), (2, .int v72), (0, .ref a0), (1, .int a1)]) (st2 := []) hm dX13_statement_54 rfl ?_
        refine mx_S.pu (pc2 := 56) (lv2 := [(3, .int u198.1), (2, .int v72), (0, .ref a0), (1, .int a1)]) (st2 := [.ref a0]) hm dX13_statement_55 rfl ?_
        replace hf := mx_sv_el hf; obtain ⟨v199, e_v199, hf⟩ := hf
        refine sx_get hm dX13_statement_56 rs_RX13_43 (xgr_el e_v199) ?_
        clear e_v199
        refine mx_S.pu (pc2 := 60) (lv2 := [(3, .int u198.1), (2, .int v72), (0, .ref a0), (1, .int a1)]) (st2 := [.int u198.1, .ref v199]) hm dX13_statement_59 rfl ?_
        refine sx_ic (v := 4) hm dX13_statement_60 (by decide) ?_
        refine mx_S.pu (pc2 := 62) (lv2 := [(3, .int u198.1), (2, .int v72), (0, .ref a0), (1, .int a1)]) (st2 := [.ref a0, .int 4, .int u198.1, .ref v199]) hm dX13_statement_61 rfl ?_
        replace hf := mx_sv_el hf; obtain ⟨v200, e_v200, hf⟩ := hf
        refine sx_get hm dX13_statement_62 rs_RX13_393 (xgi_el e_v200) ?_
        clear e_v200
        replace hf := xl_el hf; obtain ⟨v201, e_v201, hf⟩ := hf
        refine mx_S.pu (pc2 := 66) (lv2 := [(3, .int u198.1), (2, .int v72), (0, .ref a0), (1, .int a1)]) (st2 := [.int v201, .int u198.1, .ref v199]) hm dX13_statement_65 (by rw [← e_v201]; rfl) ?_
        clear e_v201
        refine mx_S.pu (pc2 := 67) (lv2 := [(3, .int u198.1), (2, .int v72), (0, .ref a0), (1, .int a1)]) (st2 := [.ref a0, .int v201, .int u198.1, .ref v199]) hm dX13_statement_66 rfl ?_
        replace hf := mx_sv_el hf; obtain ⟨v202, e_v202, hf⟩ := hf
        refine sx_get hm dX13_statement_67 rs_RX13_396 (xgi_el e_v202) ?_
        clear e_v202
        rcases mx_if_el hf with ⟨c203, hf⟩ | ⟨c203, hf⟩
        · refine sb_if_eq hm dX13_statement_70 (tgt := 77) rfl (fun _ => ?_) (fun z => absurd c203 z)
          refine sx_ic (v := 0) hm dX13_statement_77 (by decide) ?_
          refine mx_S.ext [(0, .ref a0), (1, .int a1), (3, .int u198.1)] (mx_sub_pos [2, 3, 0] rfl (show ([3, 2, 0, 1] : List Nat).Nodup by decide)) ?_
          exact j_X13_statement_78_ok X hF hL nn hrc a0 a1 u198.1 0 v201 u198.1 v199 u198.2 hf
        · refine sb_if_eq hm dX13_statement_70 (tgt := 77) rfl (fun z => absurd z c203) (fun _ => ?_)
          refine sx_ic (v := 2) hm dX13_statement_73 (by decide) ?_
          refine mx_S.pu (pc2 := 78) (lv2 := [(3, .int u198.1), (2, .int v72), (0, .ref a0), (1, .int a1)]) (st2 := [.int 2, .int v201, .int u198.1, .ref v199]) hm dX13_statement_74 rfl ?_
          refine mx_S.ext [(0, .ref a0), (1, .int a1), (3, .int u198.1)] (mx_sub_pos [2, 3, 0] rfl (show ([3, 2, 0, 1] : List Nat).Nodup by decide)) ?_
          exact j_X13_statement_78_ok X hF hL nn hrc a0 a1 u198.1 2 v201 u198.1 v199 u198.2 hf
    · refine sb_if_eq hm dX13_statement_25 (tgt := 36) rfl (fun z => absurd z c208) (fun _ => ?_)
      refine mx_S.pu (pc2 := 29) (lv2 := [(2, .int v72), (0, .ref a0), (1, .int a1)]) (st2 := [.ref a0]) hm dX13_statement_28 rfl ?_
      refine mx_S.pu (pc2 := 30) (lv2 := [(2, .int v72), (0, .ref a0), (1, .int a1)]) (st2 := [.int a1, .ref a0]) hm dX13_statement_29 rfl ?_
      refine sx_ic (v := 1) hm dX13_statement_30 (by decide) ?_
      replace hf := xl_el hf; obtain ⟨v205, e_v205, hf⟩ := hf
      refine mx_S.pu (pc2 := 32) (lv2 := [(2, .int v72), (0, .ref a0), (1, .int a1)]) (st2 := [.int v205, .ref a0]) hm dX13_statement_31 (by rw [← e_v205]; rfl) ?_
      clear e_v205
      replace hf := mx_gd_el hf; obtain ⟨c206, hf⟩ := hf
      replace hf := mx_sv_el hf; obtain ⟨u207, e_u207, hf⟩ := hf
      refine sx_cv hm dX13_statement_32 rs_RX13_427 mt_X13_block [.int v205] [] (b := a0) (ci := 13) rfl rfl rfl c206 (Nat.le_of_ble_eq_true rfl) (Nat.le_of_ble_eq_true rfl) (by omega) (by omega) (hrc.1 (by omega) (by omega) a0 v205 u75.2 e_u207) ?_
      clear e_u207
      show mx_S X F L 405 35 [(2, .int v72), (0, .ref a0), (1, .int a1)] [.int u207.1] u207.2 0 0 (some (.int r.1), r.2, 0, 0)
      cases hf
      exact sx_ire hm dX13_statement_35 rfl rfl
  · refine sb_if_eq hm dX13_statement_5 (tgt := 10) rfl (fun z => absurd z c209) (fun _ => ?_)
    refine sx_ic (v := (-1)) hm dX13_statement_8 (by decide) ?_
    cases hf
    exact sx_ire hm dX13_statement_9 rfl rfl
theorem g_X13_block_ok (X : Nat × (Nat → Int32)) (nn : Nat) : ∀ d, hg5_X13_block X d (g_X13_block nn d) := by
  intro d
  induction d with
  | zero => exact ⟨(fun {F L} _ _ a0 a1 h {r} hf => by cases hf), (fun {F L} _ _ a0 a1 h {r} hf => by cases hf)⟩
  | succ d ih => exact ⟨(fun {F L} hF hL a0 a1 h {r} hf => o_X13_block_ok X hF hL nn ih a0 a1 h hf), (fun {F L} hF hL a0 a1 h {r} hf => o_X13_statement_ok X hF hL nn ih a0 a1 h hf)⟩
theorem f_X13_block_ok (X : Nat × (Nat → Int32)) {F L : Nat} (hF : 865 ≤ F) (hL : 23549 ≤ L) (nn : Nat) (a0 : Nat) (a1 : Int32) (h : mx_H) {r : (Int32 × mx_H)} (hf : f_X13_block nn a0 a1 h = some r) : mx_R X F L 403 [.ref a0, .int a1] h (some (.int r.1), r.2, 0, 0) := (g_X13_block_ok X nn 160).1 (by omega) (by omega) a0 a1 h hf
theorem f_X13_statement_ok (X : Nat × (Nat → Int32)) {F L : Nat} (hF : 865 ≤ F) (hL : 23549 ≤ L) (nn : Nat) (a0 : Nat) (a1 : Int32) (h : mx_H) {r : (Int32 × mx_H)} (hf : f_X13_statement nn a0 a1 h = some r) : mx_R X F L 405 [.ref a0, .int a1] h (some (.int r.1), r.2, 0, 0) := (g_X13_block_ok X nn 160).2 (by omega) (by omega) a0 a1 h hf
