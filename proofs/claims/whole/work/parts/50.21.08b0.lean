def hg5_X0_readBlock (X : Nat × (Nat → Int32)) (d : Nat) (rc : tg_X0_readBlock) : Prop := (∀ {F L : Nat}, 428 + d ≤ F → 12825 + d * 29 ≤ L → ∀ (a0 : Nat) (a1 : Int32) (h : mx_H) {r : (Int32 × mx_H)}, rc.1 a0 a1 h = some r → mx_R X F L 9 [.ref a0, .int a1] h (some (.int r.1), r.2, 0, 0)) ∧ (∀ {F L : Nat}, 428 + d ≤ F → 12825 + d * 29 ≤ L → ∀ (a0 : Nat) (a1 : Int32) (h : mx_H) {r : (Int32 × mx_H)}, rc.2.1 a0 a1 h = some r → mx_R X F L 10 [.ref a0, .int a1] h (some (.int r.1), r.2, 0, 0)) ∧ (∀ {F L : Nat}, 428 + d ≤ F → 12825 + d * 29 ≤ L → ∀ (a0 : Nat) (a1 : Int32) (h : mx_H) {r : (Int32 × mx_H)}, rc.2.2.1 a0 a1 h = some r → mx_R X F L 11 [.ref a0, .int a1] h (some (.int r.1), r.2, 0, 0)) ∧ (∀ {F L : Nat}, 428 + d ≤ F → 12825 + d * 29 ≤ L → ∀ (a0 : Nat) (a1 : Int32) (h : mx_H) {r : (Int32 × mx_H)}, rc.2.2.2.1 a0 a1 h = some r → mx_R X F L 12 [.ref a0, .int a1] h (some (.int r.1), r.2, 0, 0)) ∧ (∀ {F L : Nat}, 428 + d ≤ F → 12825 + d * 29 ≤ L → ∀ (a0 : Nat) (a1 : Int32) (h : mx_H) {r : (Int32 × mx_H)}, rc.2.2.2.2.1 a0 a1 h = some r → mx_R X F L 13 [.ref a0, .int a1] h (some (.int r.1), r.2, 0, 0)) ∧ (∀ {F L : Nat}, 428 + d ≤ F → 12825 + d * 29 ≤ L → ∀ (a0 : Nat) (a1 : Int32) (h : mx_H) {r : (Int32 × mx_H)}, rc.2.2.2.2.2 a0 a1 h = some r → mx_R X F L 15 [.ref a0, .int a1] h (some (.int r.1), r.2, 0, 0))
set_option maxHeartbeats 4000000 in
set_option maxRecDepth 20000 in
theorem j_X0_readBlock_88_ok (X : Nat × (Nat → Int32)) {F L d : Nat} (hF : 428 + (d + 1) ≤ F) (hL : 12825 + (d + 1) * 29 ≤ L) (nn : Nat) {rc : tg_X0_readBlock} (hrc : hg5_X0_readBlock X d rc) (l0 : Nat) (l2 : Int32) (l3 : Int32) (h : mx_H) {r : (Int32 × mx_H)} (hf : j_X0_readBlock_88 nn rc l0 l2 l3 h = some r) : mx_S X F L 9 88 [(0, .ref l0), (2, .int l2), (3, .int l3)] [] h 0 0 (some (.int r.1), r.2, 0, 0) := by
  have hm : mx_mt 9 = some (yX0_readBlock, cX0_readBlock, 5, (some .boolean)) := mt_X0_readBlock
  unfold j_X0_readBlock_88 at hf
  refine mx_S.pu (pc2 := 89) (lv2 := [(0, .ref l0), (2, .int l2), (3, .int l3)]) (st2 := [.ref l0]) hm dX0_readBlock_88 rfl ?_
  replace hf := mx_sv_el hf; obtain ⟨v1, e_v1, hf⟩ := hf
  refine sx_get hm dX0_readBlock_89 rs_RX0_34 (xgr_el e_v1) ?_
  clear e_v1
  refine mx_S.pu (pc2 := 93) (lv2 := [(0, .ref l0), (2, .int l2), (3, .int l3)]) (st2 := [.ref v1, .ref v1]) hm dX0_readBlock_92 rfl ?_
  replace hf := mx_sv_el hf; obtain ⟨v2, e_v2, hf⟩ := hf
  refine sx_get hm dX0_readBlock_93 rs_RX0_138 (xgi_el e_v2) ?_
  clear e_v2
  refine sx_ic (v := 1) hm dX0_readBlock_96 (by decide) ?_
  replace hf := xl_el hf; obtain ⟨v3, e_v3, hf⟩ := hf
  refine mx_S.pu (pc2 := 98) (lv2 := [(0, .ref l0), (2, .int l2), (3, .int l3)]) (st2 := [.int v3, .ref v1]) hm dX0_readBlock_97 (by rw [← e_v3]; rfl) ?_
  clear e_v3
  replace hf := mx_sv_el hf; obtain ⟨h4, e_h4, hf⟩ := hf
  refine sx_put hm dX0_readBlock_98 rs_RX0_138 ft_9_10 ⟨rfl, rfl⟩ (fun z => by cases z) e_h4 ?_
  clear e_h4
  refine mx_S.pu (pc2 := 102) (lv2 := [(0, .ref l0), (2, .int l2), (3, .int l3)]) (st2 := [.ref l0]) hm dX0_readBlock_101 rfl ?_
  replace hf := mx_sv_el hf; obtain ⟨v5, e_v5, hf⟩ := hf
  refine sx_get hm dX0_readBlock_102 rs_RX0_16 (xgr_el e_v5) ?_
  clear e_v5
  refine mx_S.pu (pc2 := 106) (lv2 := [(0, .ref l0), (2, .int l2), (3, .int l3)]) (st2 := [.int l2, .ref v5]) hm dX0_readBlock_105 rfl ?_
  replace hf := mx_sv_el hf; obtain ⟨h6, e_h6, hf⟩ := hf
  refine sx_put hm dX0_readBlock_106 rs_RX0_155 ft_1_7 ⟨rfl, rfl⟩ (fun z => by cases z) e_h6 ?_
  clear e_h6
  refine mx_S.pu (pc2 := 110) (lv2 := [(0, .ref l0), (2, .int l2), (3, .int l3)]) (st2 := [.int l3]) hm dX0_readBlock_109 rfl ?_
  replace hf := mx_gd_el hf; obtain ⟨c7, hf⟩ := hf
  cases hf
  exact sx_ire hm dX0_readBlock_110 rfl (xbq_ok c7).1
set_option maxHeartbeats 4000000 in
set_option maxRecDepth 20000 in
theorem j_X0_readBlock_76_ok (X : Nat × (Nat → Int32)) {F L d : Nat} (hF : 428 + (d + 1) ≤ F) (hL : 12825 + (d + 1) * 29 ≤ L) (nn : Nat) {rc : tg_X0_readBlock} (hrc : hg5_X0_readBlock X d rc) {kk_26 : Nat → Int32 → Int32 → Int32 → Int32 → mx_H → Option (Int32 × mx_H)} (hk_26 : ∀ (l0 : Nat) (l1 : Int32) (l2 : Int32) (l3 : Int32) (l4 : Int32) (h : mx_H) (r : (Int32 × mx_H)), kk_26 l0 l1 l2 l3 l4 h = some r → mx_S X F L 9 26 [(0, .ref l0), (1, .int l1), (2, .int l2), (3, .int l3), (4, .int l4)] [] h 0 0 (some (.int r.1), r.2, 0, 0)) (l0 : Nat) (l1 : Int32) (l2 : Int32) (l4 : Int32) (h : mx_H) {r : (Int32 × mx_H)} (hf : j_X0_readBlock_76 nn rc kk_26 l0 l1 l2 l4 h = some r) : mx_S X F L 9 76 [(0, .ref l0), (1, .int l1), (2, .int l2), (4, .int l4)] [] h 0 0 (some (.int r.1), r.2, 0, 0) := by
  have hm : mx_mt 9 = some (yX0_readBlock, cX0_readBlock, 5, (some .boolean)) := mt_X0_readBlock
  unfold j_X0_readBlock_76 at hf
  refine mx_S.pu (pc2 := 77) (lv2 := [(0, .ref l0), (1, .int l1), (2, .int l2), (4, .int l4)]) (st2 := [.ref l0]) hm dX0_readBlock_76 rfl ?_
  refine mx_S.pu (pc2 := 78) (lv2 := [(0, .ref l0), (1, .int l1), (2, .int l2), (4, .int l4)]) (st2 := [.int l1, .ref l0]) hm dX0_readBlock_77 rfl ?_
  replace hf := mx_gd_el hf; obtain ⟨c8, hf⟩ := hf
  replace hf := mx_sv_el hf; obtain ⟨u9, e_u9, hf⟩ := hf
  refine sx_cv hm dX0_readBlock_78 rs_RX0_162 mt_X0_readStatement [.int l1] [] (b := l0) (ci := 0) rfl rfl rfl c8 (Nat.le_of_ble_eq_true rfl) (Nat.le_of_ble_eq_true rfl) (by omega) (by omega) (hrc.2.2.1 (by omega) (by omega) l0 l1 h e_u9) ?_
  clear e_u9
  show mx_S X F L 9 81 [(0, .ref l0), (1, .int l1), (2, .int l2), (4, .int l4)] [.int u9.1] u9.2 0 0 (some (.int r.1), r.2, 0, 0)
  refine mx_S.pu (pc2 := 82) (lv2 := [(3, .int u9.1), (0, .ref l0), (1, .int l1), (2, .int l2), (4, .int l4)]) (st2 := []) hm dX0_readBlock_81 rfl ?_
  replace hf := xl_el hf; obtain ⟨v10, e_v10, hf⟩ := hf
  refine mx_S.pu (pc2 := 85) (lv2 := [(4, .int v10), (3, .int u9.1), (0, .ref l0), (1, .int l1), (2, .int l2)]) (st2 := []) hm dX0_readBlock_82 (by rw [← e_v10]; rfl) ?_
  clear e_v10
  refine mx_S.pu (pc2 := 26) (lv2 := [(4, .int v10), (3, .int u9.1), (0, .ref l0), (1, .int l1), (2, .int l2)]) (st2 := []) hm dX0_readBlock_85 rfl ?_
  refine mx_S.ext [(0, .ref l0), (1, .int l1), (2, .int l2), (3, .int u9.1), (4, .int v10)] (mx_sub_pos [2, 3, 4, 1, 0] rfl (show ([4, 3, 0, 1, 2] : List Nat).Nodup by decide)) ?_
  exact hk_26 l0 l1 l2 u9.1 v10 u9.2 _ hf
set_option maxHeartbeats 4000000 in
set_option maxRecDepth 20000 in
theorem w_X0_readBlock_26_ok (X : Nat × (Nat → Int32)) {F L d : Nat} (hF : 428 + (d + 1) ≤ F) (hL : 12825 + (d + 1) * 29 ≤ L) (nn : Nat) {rc : tg_X0_readBlock} (hrc : hg5_X0_readBlock X d rc) : ∀ (k : Nat) (l0 : Nat) (l1 : Int32) (l2 : Int32) (l3 : Int32) (l4 : Int32) (h : mx_H) (r : (Int32 × mx_H)), w_X0_readBlock_26 nn rc k l0 l1 l2 l3 l4 h = some r → mx_S X F L 9 26 [(0, .ref l0), (1, .int l1), (2, .int l2), (3, .int l3), (4, .int l4)] [] h 0 0 (some (.int r.1), r.2, 0, 0) := by
  have hm : mx_mt 9 = some (yX0_readBlock, cX0_readBlock, 5, (some .boolean)) := mt_X0_readBlock
  intro k
  induction k with
  | zero => intro l0 l1 l2 l3 l4 h r hf; cases hf
  | succ k ih =>
    intro l0 l1 l2 l3 l4 h r hf
    unfold w_X0_readBlock_26 at hf
    refine mx_S.pu (pc2 := 28) (lv2 := [(0, .ref l0), (1, .int l1), (2, .int l2), (3, .int l3), (4, .int l4)]) (st2 := [.int l4]) hm dX0_readBlock_26 rfl ?_
    refine sx_si (v := 3000) hm dX0_readBlock_28 (by decide) ?_
    rcases mx_if_el hf with ⟨c24, hf⟩ | ⟨c24, hf⟩
    · refine sb_ic_ge hm dX0_readBlock_31 (tgt := 88) rfl (fun _ => ?_) (fun z => absurd c24 z)
      refine mx_S.ext [(0, .ref l0), (2, .int l2), (3, .int l3)] (mx_sub_pos [0, 2, 3] rfl (show ([0, 1, 2, 3, 4] : List Nat).Nodup by decide)) ?_
      exact j_X0_readBlock_88_ok X hF hL nn hrc l0 l2 l3 h hf
    · refine sb_ic_ge hm dX0_readBlock_31 (tgt := 88) rfl (fun z => absurd z c24) (fun _ => ?_)
      refine mx_S.pu (pc2 := 35) (lv2 := [(0, .ref l0), (1, .int l1), (2, .int l2), (3, .int l3), (4, .int l4)]) (st2 := [.ref l0]) hm dX0_readBlock_34 rfl ?_
      replace hf := mx_sv_el hf; obtain ⟨v11, e_v11, hf⟩ := hf
      refine sx_get hm dX0_readBlock_35 rs_RX0_34 (xgr_el e_v11) ?_
      clear e_v11
      replace hf := mx_sv_el hf; obtain ⟨v12, e_v12, hf⟩ := hf
      refine sx_get hm dX0_readBlock_38 rs_RX0_89 (xgi_el e_v12) ?_
      clear e_v12
      rcases mx_if_el hf with ⟨c23, hf⟩ | ⟨c23, hf⟩
      · refine sb_if_ne hm dX0_readBlock_41 (tgt := 88) rfl (fun _ => ?_) (fun z => absurd c23 z)
        refine mx_S.ext [(0, .ref l0), (2, .int l2), (3, .int l3)] (mx_sub_pos [0, 2, 3] rfl (show ([0, 1, 2, 3, 4] : List Nat).Nodup by decide)) ?_
        exact j_X0_readBlock_88_ok X hF hL nn hrc l0 l2 l3 h hf
      · refine sb_if_ne hm dX0_readBlock_41 (tgt := 88) rfl (fun z => absurd z c23) (fun _ => ?_)
        refine mx_S.pu (pc2 := 45) (lv2 := [(0, .ref l0), (1, .int l1), (2, .int l2), (3, .int l3), (4, .int l4)]) (st2 := [.ref l0]) hm dX0_readBlock_44 rfl ?_
        replace hf := mx_sv_el hf; obtain ⟨v13, e_v13, hf⟩ := hf
        refine sx_get hm dX0_readBlock_45 rs_RX0_34 (xgr_el e_v13) ?_
        clear e_v13
        replace hf := mx_gd_el hf; obtain ⟨c14, hf⟩ := hf
        replace hf := mx_sv_el hf; obtain ⟨u15, e_u15, hf⟩ := hf
        refine sx_cv hm dX0_readBlock_48 rs_RX0_158 mt_X9_kind [] [] (b := v13) (ci := 9) rfl rfl rfl c14 (Nat.le_of_ble_eq_true rfl) (Nat.le_of_ble_eq_true rfl) (by omega) (by omega) (f_X9_kind_ok X (by omega) (by omega) nn v13 h e_u15) ?_
        clear e_u15
        show mx_S X F L 9 51 [(0, .ref l0), (1, .int l1), (2, .int l2), (3, .int l3), (4, .int l4)] [.int u15.1] u15.2 0 0 (some (.int r.1), r.2, 0, 0)
        refine sx_bi (v := 43) hm dX0_readBlock_51 (by decide) ?_
        rcases mx_if_el hf with ⟨c22, hf⟩ | ⟨c22, hf⟩
        · refine sb_ic_eq hm dX0_readBlock_53 (tgt := 88) rfl (fun _ => ?_) (fun z => absurd c22 z)
          refine mx_S.ext [(0, .ref l0), (2, .int l2), (3, .int l3)] (mx_sub_pos [0, 2, 3] rfl (show ([0, 1, 2, 3, 4] : List Nat).Nodup by decide)) ?_
          exact j_X0_readBlock_88_ok X hF hL nn hrc l0 l2 l3 u15.2 hf
        · refine sb_ic_eq hm dX0_readBlock_53 (tgt := 88) rfl (fun z => absurd z c22) (fun _ => ?_)
          refine mx_S.pu (pc2 := 57) (lv2 := [(0, .ref l0), (1, .int l1), (2, .int l2), (3, .int l3), (4, .int l4)]) (st2 := [.int l3]) hm dX0_readBlock_56 rfl ?_
          rcases mx_if_el hf with ⟨c21, hf⟩ | ⟨c21, hf⟩
          · refine sb_if_ne hm dX0_readBlock_57 (tgt := 76) rfl (fun _ => ?_) (fun z => absurd c21 z)
            refine mx_S.ext [(0, .ref l0), (1, .int l1), (2, .int l2), (4, .int l4)] (mx_sub_pos [0, 1, 2, 4] rfl (show ([0, 1, 2, 3, 4] : List Nat).Nodup by decide)) ?_
            exact j_X0_readBlock_76_ok X hF hL nn hrc ih l0 l1 l2 l4 u15.2 hf
          · refine sb_if_ne hm dX0_readBlock_57 (tgt := 76) rfl (fun z => absurd z c21) (fun _ => ?_)
            refine mx_S.pu (pc2 := 61) (lv2 := [(0, .ref l0), (1, .int l1), (2, .int l2), (3, .int l3), (4, .int l4)]) (st2 := [.ref l0]) hm dX0_readBlock_60 rfl ?_
            replace hf := mx_sv_el hf; obtain ⟨v16, e_v16, hf⟩ := hf
            refine sx_get hm dX0_readBlock_61 rs_RX0_34 (xgr_el e_v16) ?_
            clear e_v16
            refine sx_bi (v := 9) hm dX0_readBlock_64 (by decide) ?_
            refine mx_S.pu (pc2 := 67) (lv2 := [(0, .ref l0), (1, .int l1), (2, .int l2), (3, .int l3), (4, .int l4)]) (st2 := [.ref l0, .int 9, .ref v16]) hm dX0_readBlock_66 rfl ?_
            replace hf := mx_sv_el hf; obtain ⟨v17, e_v17, hf⟩ := hf
            refine sx_get hm dX0_readBlock_67 rs_RX0_34 (xgr_el e_v17) ?_
            clear e_v17
            replace hf := mx_sv_el hf; obtain ⟨v18, e_v18, hf⟩ := hf
            refine sx_get hm dX0_readBlock_70 rs_RX0_138 (xgi_el e_v18) ?_
            clear e_v18
            replace hf := mx_gd_el hf; obtain ⟨c19, hf⟩ := hf
            replace hf := mx_sv_el hf; obtain ⟨u20, e_u20, hf⟩ := hf
            refine sx_cv hm dX0_readBlock_73 rs_RX0_69 mt_X9_tell [.int 9, .int v18] [] (b := v16) (ci := 9) rfl rfl rfl c19 (Nat.le_of_ble_eq_true rfl) (Nat.le_of_ble_eq_true rfl) (by omega) (by omega) (f_X9_tell_ok X (by omega) (by omega) nn v16 9 v18 u15.2 e_u20) ?_
            clear e_u20
            show mx_S X F L 9 76 [(0, .ref l0), (1, .int l1), (2, .int l2), (3, .int l3), (4, .int l4)] [] u20 0 0 (some (.int r.1), r.2, 0, 0)
            refine mx_S.ext [(0, .ref l0), (1, .int l1), (2, .int l2), (4, .int l4)] (mx_sub_pos [0, 1, 2, 4] rfl (show ([0, 1, 2, 3, 4] : List Nat).Nodup by decide)) ?_
            exact j_X0_readBlock_76_ok X hF hL nn hrc ih l0 l1 l2 l4 u20 hf
set_option maxHeartbeats 4000000 in
set_option maxRecDepth 20000 in
theorem o_X0_readBlock_ok (X : Nat × (Nat → Int32)) {F L d : Nat} (hF : 428 + (d + 1) ≤ F) (hL : 12825 + (d + 1) * 29 ≤ L) (nn : Nat) {rc : tg_X0_readBlock} (hrc : hg5_X0_readBlock X d rc) (a0 : Nat) (a1 : Int32) (h : mx_H) {r : (Int32 × mx_H)} (hf : o_X0_readBlock nn rc a0 a1 h = some r) : mx_R X F L 9 [.ref a0, .int a1] h (some (.int r.1), r.2, 0, 0) := by
  have hm : mx_mt 9 = some (yX0_readBlock, cX0_readBlock, 5, (some .boolean)) := mt_X0_readBlock
  show mx_S X F L 9 0 [(0, .ref a0), (1, .int a1)] [] h 0 0 (some (.int r.1), r.2, 0, 0)
  unfold o_X0_readBlock at hf
  refine mx_S.pu (pc2 := 1) (lv2 := [(0, .ref a0), (1, .int a1)]) (st2 := [.ref a0]) hm dX0_readBlock_0 rfl ?_
  replace hf := mx_sv_el hf; obtain ⟨v25, e_v25, hf⟩ := hf
  refine sx_get hm dX0_readBlock_1 rs_RX0_16 (xgr_el e_v25) ?_
  clear e_v25
  replace hf := mx_sv_el hf; obtain ⟨v26, e_v26, hf⟩ := hf
  refine sx_get hm dX0_readBlock_4 rs_RX0_155 (xgi_el e_v26) ?_
  clear e_v26
  refine mx_S.pu (pc2 := 8) (lv2 := [(2, .int v26), (0, .ref a0), (1, .int a1)]) (st2 := []) hm dX0_readBlock_7 rfl ?_
  refine sx_ic (v := 1) hm dX0_readBlock_8 (by decide) ?_
  refine mx_S.pu (pc2 := 10) (lv2 := [(3, .int 1), (2, .int v26), (0, .ref a0), (1, .int a1)]) (st2 := []) hm dX0_readBlock_9 rfl ?_
  refine mx_S.pu (pc2 := 11) (lv2 := [(3, .int 1), (2, .int v26), (0, .ref a0), (1, .int a1)]) (st2 := [.ref a0]) hm dX0_readBlock_10 rfl ?_
  replace hf := mx_sv_el hf; obtain ⟨v27, e_v27, hf⟩ := hf
  refine sx_get hm dX0_readBlock_11 rs_RX0_34 (xgr_el e_v27) ?_
  clear e_v27
  refine mx_S.pu (pc2 := 15) (lv2 := [(3, .int 1), (2, .int v26), (0, .ref a0), (1, .int a1)]) (st2 := [.ref v27, .ref v27]) hm dX0_readBlock_14 rfl ?_
  replace hf := mx_sv_el hf; obtain ⟨v28, e_v28, hf⟩ := hf
  refine sx_get hm dX0_readBlock_15 rs_RX0_138 (xgi_el e_v28) ?_
  clear e_v28
  refine sx_ic (v := 1) hm dX0_readBlock_18 (by decide) ?_
  replace hf := xl_el hf; obtain ⟨v29, e_v29, hf⟩ := hf
  refine mx_S.pu (pc2 := 20) (lv2 := [(3, .int 1), (2, .int v26), (0, .ref a0), (1, .int a1)]) (st2 := [.int v29, .ref v27]) hm dX0_readBlock_19 (by rw [← e_v29]; rfl) ?_
  clear e_v29
  replace hf := mx_sv_el hf; obtain ⟨h30, e_h30, hf⟩ := hf
  refine sx_put hm dX0_readBlock_20 rs_RX0_138 ft_9_10 ⟨rfl, rfl⟩ (fun z => by cases z) e_h30 ?_
  clear e_h30
  refine sx_ic (v := 0) hm dX0_readBlock_23 (by decide) ?_
  refine mx_S.pu (pc2 := 26) (lv2 := [(4, .int 0), (3, .int 1), (2, .int v26), (0, .ref a0), (1, .int a1)]) (st2 := []) hm dX0_readBlock_24 rfl ?_
  refine mx_S.ext [(0, .ref a0), (1, .int a1), (2, .int v26), (3, .int 1), (4, .int 0)] (mx_sub_pos [3, 4, 2, 1, 0] rfl (show ([4, 3, 2, 0, 1] : List Nat).Nodup by decide)) ?_
  exact w_X0_readBlock_26_ok X hF hL nn hrc nn a0 a1 v26 1 0 h30 _ hf
set_option maxHeartbeats 4000000 in
set_option maxRecDepth 20000 in
theorem o_X0_readPart_ok (X : Nat × (Nat → Int32)) {F L d : Nat} (hF : 428 + (d + 1) ≤ F) (hL : 12825 + (d + 1) * 29 ≤ L) (nn : Nat) {rc : tg_X0_readBlock} (hrc : hg5_X0_readBlock X d rc) (a0 : Nat) (a1 : Int32) (h : mx_H) {r : (Int32 × mx_H)} (hf : o_X0_readPart nn rc a0 a1 h = some r) : mx_R X F L 10 [.ref a0, .int a1] h (some (.int r.1), r.2, 0, 0) := by
  have hm : mx_mt 10 = some (yX0_readPart, cX0_readPart, 4, (some .boolean)) := mt_X0_readPart
  show mx_S X F L 10 0 [(0, .ref a0), (1, .int a1)] [] h 0 0 (some (.int r.1), r.2, 0, 0)
  unfold o_X0_readPart at hf
  refine mx_S.pu (pc2 := 1) (lv2 := [(0, .ref a0), (1, .int a1)]) (st2 := [.ref a0]) hm dX0_readPart_0 rfl ?_
  replace hf := mx_sv_el hf; obtain ⟨v1, e_v1, hf⟩ := hf
  refine sx_get hm dX0_readPart_1 rs_RX0_16 (xgr_el e_v1) ?_
  clear e_v1
  replace hf := mx_sv_el hf; obtain ⟨v2, e_v2, hf⟩ := hf
  refine sx_get hm dX0_readPart_4 rs_RX0_155 (xgi_el e_v2) ?_
  clear e_v2
  refine mx_S.pu (pc2 := 8) (lv2 := [(2, .int v2), (0, .ref a0), (1, .int a1)]) (st2 := []) hm dX0_readPart_7 rfl ?_
  refine mx_S.pu (pc2 := 9) (lv2 := [(2, .int v2), (0, .ref a0), (1, .int a1)]) (st2 := [.ref a0]) hm dX0_readPart_8 rfl ?_
  refine mx_S.pu (pc2 := 10) (lv2 := [(2, .int v2), (0, .ref a0), (1, .int a1)]) (st2 := [.int a1, .ref a0]) hm dX0_readPart_9 rfl ?_
  replace hf := mx_gd_el hf; obtain ⟨c3, hf⟩ := hf
  replace hf := mx_sv_el hf; obtain ⟨u4, e_u4, hf⟩ := hf
  refine sx_cv hm dX0_readPart_10 rs_RX0_162 mt_X0_readStatement [.int a1] [] (b := a0) (ci := 0) rfl rfl rfl c3 (Nat.le_of_ble_eq_true rfl) (Nat.le_of_ble_eq_true rfl) (by omega) (by omega) (hrc.2.2.1 (by omega) (by omega) a0 a1 h e_u4) ?_
  clear e_u4
  show mx_S X F L 10 13 [(2, .int v2), (0, .ref a0), (1, .int a1)] [.int u4.1] u4.2 0 0 (some (.int r.1), r.2, 0, 0)
  refine mx_S.pu (pc2 := 14) (lv2 := [(3, .int u4.1), (2, .int v2), (0, .ref a0), (1, .int a1)]) (st2 := []) hm dX0_readPart_13 rfl ?_
  refine mx_S.pu (pc2 := 15) (lv2 := [(3, .int u4.1), (2, .int v2), (0, .ref a0), (1, .int a1)]) (st2 := [.ref a0]) hm dX0_readPart_14 rfl ?_
  replace hf := mx_sv_el hf; obtain ⟨v5, e_v5, hf⟩ := hf
  refine sx_get hm dX0_readPart_15 rs_RX0_16 (xgr_el e_v5) ?_
  clear e_v5
  refine mx_S.pu (pc2 := 19) (lv2 := [(3, .int u4.1), (2, .int v2), (0, .ref a0), (1, .int a1)]) (st2 := [.int v2, .ref v5]) hm dX0_readPart_18 rfl ?_
  replace hf := mx_sv_el hf; obtain ⟨h6, e_h6, hf⟩ := hf
  refine sx_put hm dX0_readPart_19 rs_RX0_155 ft_1_7 ⟨rfl, rfl⟩ (fun z => by cases z) e_h6 ?_
  clear e_h6
  refine mx_S.pu (pc2 := 23) (lv2 := [(3, .int u4.1), (2, .int v2), (0, .ref a0), (1, .int a1)]) (st2 := [.int u4.1]) hm dX0_readPart_22 rfl ?_
  replace hf := mx_gd_el hf; obtain ⟨c7, hf⟩ := hf
  cases hf
  exact sx_ire hm dX0_readPart_23 rfl (xbq_ok c7).1
set_option maxHeartbeats 4000000 in
set_option maxRecDepth 20000 in
theorem j_X0_readStatement_217_ok (X : Nat × (Nat → Int32)) {F L d : Nat} (hF : 428 + (d + 1) ≤ F) (hL : 12825 + (d + 1) * 29 ≤ L) (nn : Nat) {rc : tg_X0_readBlock} (hrc : hg5_X0_readBlock X d rc) (l0 : Nat) (l1 : Int32) (h : mx_H) {r : (Int32 × mx_H)} (hf : j_X0_readStatement_217 nn rc l0 l1 h = some r) : mx_S X F L 11 217 [(0, .ref l0), (1, .int l1)] [] h 0 0 (some (.int r.1), r.2, 0, 0) := by
  have hm : mx_mt 11 = some (yX0_readStatement, cX0_readStatement, 2, (some .boolean)) := mt_X0_readStatement
  unfold j_X0_readStatement_217 at hf
  refine mx_S.pu (pc2 := 218) (lv2 := [(0, .ref l0), (1, .int l1)]) (st2 := [.ref l0]) hm dX0_readStatement_217 rfl ?_
  replace hf := mx_sv_el hf; obtain ⟨v1, e_v1, hf⟩ := hf
  refine sx_get hm dX0_readStatement_218 rs_RX0_34 (xgr_el e_v1) ?_
  clear e_v1
  replace hf := mx_gd_el hf; obtain ⟨c2, hf⟩ := hf
  replace hf := mx_sv_el hf; obtain ⟨u3, e_u3, hf⟩ := hf
  refine sx_cv hm dX0_readStatement_221 rs_RX0_186 mt_X9_beginsVariable [] [] (b := v1) (ci := 9) rfl rfl rfl c2 (Nat.le_of_ble_eq_true rfl) (Nat.le_of_ble_eq_true rfl) (by omega) (by omega) (f_X9_beginsVariable_ok X (by omega) (by omega) nn v1 h e_u3) ?_
  clear e_u3
  show mx_S X F L 11 224 [(0, .ref l0), (1, .int l1)] [.int u3.1] u3.2 0 0 (some (.int r.1), r.2, 0, 0)
  rcases mx_if_el hf with ⟨c12, hf⟩ | ⟨c12, hf⟩
  · refine sb_if_eq hm dX0_readStatement_224 (tgt := 237) rfl (fun _ => ?_) (fun z => absurd c12 z)
    refine mx_S.pu (pc2 := 238) (lv2 := [(0, .ref l0), (1, .int l1)]) (st2 := [.ref l0]) hm dX0_readStatement_237 rfl ?_
    refine mx_S.pu (pc2 := 239) (lv2 := [(0, .ref l0), (1, .int l1)]) (st2 := [.int l1, .ref l0]) hm dX0_readStatement_238 rfl ?_
    refine sx_ic (v := 1) hm dX0_readStatement_239 (by decide) ?_
    replace hf := xl_el hf; obtain ⟨v4, e_v4, hf⟩ := hf
    refine mx_S.pu (pc2 := 241) (lv2 := [(0, .ref l0), (1, .int l1)]) (st2 := [.int v4, .ref l0]) hm dX0_readStatement_240 (by rw [← e_v4]; rfl) ?_
    clear e_v4
    replace hf := mx_gd_el hf; obtain ⟨c5, hf⟩ := hf
    replace hf := mx_sv_el hf; obtain ⟨u6, e_u6, hf⟩ := hf
    refine sx_cv hm dX0_readStatement_241 rs_RX0_192 mt_X0_readPlain [.int v4] [] (b := l0) (ci := 0) rfl rfl rfl c5 (Nat.le_of_ble_eq_true rfl) (Nat.le_of_ble_eq_true rfl) (by omega) (by omega) (f_X0_readPlain_ok X (by omega) (by omega) nn l0 v4 u3.2 e_u6) ?_
    clear e_u6
    show mx_S X F L 11 244 [(0, .ref l0), (1, .int l1)] [.int u6.1] u6.2 0 0 (some (.int r.1), r.2, 0, 0)
    replace hf := mx_gd_el hf; obtain ⟨c7, hf⟩ := hf
    cases hf
    exact sx_ire hm dX0_readStatement_244 rfl (xbq_ok c7).1
  · refine sb_if_eq hm dX0_readStatement_224 (tgt := 237) rfl (fun z => absurd z c12) (fun _ => ?_)
    refine mx_S.pu (pc2 := 228) (lv2 := [(0, .ref l0), (1, .int l1)]) (st2 := [.ref l0]) hm dX0_readStatement_227 rfl ?_
    refine mx_S.pu (pc2 := 229) (lv2 := [(0, .ref l0), (1, .int l1)]) (st2 := [.int l1, .ref l0]) hm dX0_readStatement_228 rfl ?_
    refine sx_ic (v := 1) hm dX0_readStatement_229 (by decide) ?_
    replace hf := xl_el hf; obtain ⟨v8, e_v8, hf⟩ := hf
    refine mx_S.pu (pc2 := 231) (lv2 := [(0, .ref l0), (1, .int l1)]) (st2 := [.int v8, .ref l0]) hm dX0_readStatement_230 (by rw [← e_v8]; rfl) ?_
    clear e_v8
    replace hf := mx_gd_el hf; obtain ⟨c9, hf⟩ := hf
    replace hf := mx_sv_el hf; obtain ⟨u10, e_u10, hf⟩ := hf
    refine sx_cv hm dX0_readStatement_231 rs_RX0_189 mt_X0_readVariable [.int v8] [] (b := l0) (ci := 0) rfl rfl rfl c9 (Nat.le_of_ble_eq_true rfl) (Nat.le_of_ble_eq_true rfl) (by omega) (by omega) (f_X0_readVariable_ok X (by omega) (by omega) nn l0 v8 u3.2 e_u10) ?_
    clear e_u10
    show mx_S X F L 11 234 [(0, .ref l0), (1, .int l1)] [.int u10.1] u10.2 0 0 (some (.int r.1), r.2, 0, 0)
    refine mx_S.pu (pc2 := 244) (lv2 := [(0, .ref l0), (1, .int l1)]) (st2 := [.int u10.1]) hm dX0_readStatement_234 rfl ?_
    replace hf := mx_gd_el hf; obtain ⟨c11, hf⟩ := hf
    cases hf
    exact sx_ire hm dX0_readStatement_244 rfl (xbq_ok c11).1
set_option maxHeartbeats 4000000 in
set_option maxRecDepth 20000 in
theorem j_X0_readStatement_188_ok (X : Nat × (Nat → Int32)) {F L d : Nat} (hF : 428 + (d + 1) ≤ F) (hL : 12825 + (d + 1) * 29 ≤ L) (nn : Nat) {rc : tg_X0_readBlock} (hrc : hg5_X0_readBlock X d rc) (l0 : Nat) (h : mx_H) {r : (Int32 × mx_H)} (hf : j_X0_readStatement_188 nn rc l0 h = some r) : mx_S X F L 11 188 [(0, .ref l0)] [] h 0 0 (some (.int r.1), r.2, 0, 0) := by
  have hm : mx_mt 11 = some (yX0_readStatement, cX0_readStatement, 2, (some .boolean)) := mt_X0_readStatement
  unfold j_X0_readStatement_188 at hf
  refine mx_S.pu (pc2 := 189) (lv2 := [(0, .ref l0)]) (st2 := [.ref l0]) hm dX0_readStatement_188 rfl ?_
  replace hf := mx_gd_el hf; obtain ⟨c13, hf⟩ := hf
  replace hf := mx_sv_el hf; obtain ⟨u14, e_u14, hf⟩ := hf
  refine sx_cv hm dX0_readStatement_189 rs_RX0_174 mt_X0_readLeave [] [] (b := l0) (ci := 0) rfl rfl rfl c13 (Nat.le_of_ble_eq_true rfl) (Nat.le_of_ble_eq_true rfl) (by omega) (by omega) (f_X0_readLeave_ok X (by omega) (by omega) nn l0 h e_u14) ?_
  clear e_u14
  show mx_S X F L 11 192 [(0, .ref l0)] [.int u14.1] u14.2 0 0 (some (.int r.1), r.2, 0, 0)
  replace hf := mx_gd_el hf; obtain ⟨c15, hf⟩ := hf
  cases hf
  exact sx_ire hm dX0_readStatement_192 rfl (xbq_ok c15).1
set_option maxHeartbeats 4000000 in
set_option maxRecDepth 20000 in
theorem o_X0_readStatement_ok (X : Nat × (Nat → Int32)) {F L d : Nat} (hF : 428 + (d + 1) ≤ F) (hL : 12825 + (d + 1) * 29 ≤ L) (nn : Nat) {rc : tg_X0_readBlock} (hrc : hg5_X0_readBlock X d rc) (a0 : Nat) (a1 : Int32) (h : mx_H) {r : (Int32 × mx_H)} (hf : o_X0_readStatement nn rc a0 a1 h = some r) : mx_R X F L 11 [.ref a0, .int a1] h (some (.int r.1), r.2, 0, 0) := by
  have hm : mx_mt 11 = some (yX0_readStatement, cX0_readStatement, 2, (some .boolean)) := mt_X0_readStatement
  show mx_S X F L 11 0 [(0, .ref a0), (1, .int a1)] [] h 0 0 (some (.int r.1), r.2, 0, 0)
  unfold o_X0_readStatement at hf
  refine mx_S.pu (pc2 := 1) (lv2 := [(0, .ref a0), (1, .int a1)]) (st2 := [.int a1]) hm dX0_readStatement_0 rfl ?_
  refine sx_bi (v := 42) hm dX0_readStatement_1 (by decide) ?_
  rcases mx_if_el hf with ⟨c47, hf⟩ | ⟨c47, hf⟩
  · refine sb_ic_le hm dX0_readStatement_3 (tgt := 8) rfl (fun _ => ?_) (fun z => absurd c47 z)
    refine mx_S.pu (pc2 := 9) (lv2 := [(0, .ref a0), (1, .int a1)]) (st2 := [.ref a0]) hm dX0_readStatement_8 rfl ?_
    replace hf := mx_sv_el hf; obtain ⟨v16, e_v16, hf⟩ := hf
    refine sx_get hm dX0_readStatement_9 rs_RX0_34 (xgr_el e_v16) ?_
    clear e_v16
    replace hf := mx_gd_el hf; obtain ⟨c17, hf⟩ := hf
    replace hf := mx_sv_el hf; obtain ⟨u18, e_u18, hf⟩ := hf
    refine sx_cv hm dX0_readStatement_12 rs_RX0_158 mt_X9_kind [] [] (b := v16) (ci := 9) rfl rfl rfl c17 (Nat.le_of_ble_eq_true rfl) (Nat.le_of_ble_eq_true rfl) (by omega) (by omega) (f_X9_kind_ok X (by omega) (by omega) nn v16 h e_u18) ?_
    clear e_u18
    show mx_S X F L 11 15 [(0, .ref a0), (1, .int a1)] [.int u18.1] u18.2 0 0 (some (.int r.1), r.2, 0, 0)
    rcases mx_if_el hf with ⟨n_0, hf⟩ | ⟨n_0, hf⟩
    · refine sx_tin hm dX0_readStatement_15 (by rw [n_0]; decide) (by rw [n_0]; decide) (off := 173) (by rw [n_0]; rfl) (tgt := 188) rfl ?_
      clear n_0
      refine mx_S.ext [(0, .ref a0)] (mx_sub_pos [0] rfl (show ([0, 1] : List Nat).Nodup by decide)) ?_
      exact j_X0_readStatement_188_ok X hF hL nn hrc a0 u18.2 hf
    · rcases mx_if_el hf with ⟨n_1, hf⟩ | ⟨n_1, hf⟩
      · refine sx_tin hm dX0_readStatement_15 (by rw [n_1]; decide) (by rw [n_1]; decide) (off := 173) (by rw [n_1]; rfl) (tgt := 188) rfl ?_
        clear n_0 n_1
        refine mx_S.ext [(0, .ref a0)] (mx_sub_pos [0] rfl (show ([0, 1] : List Nat).Nodup by decide)) ?_
        exact j_X0_readStatement_188_ok X hF hL nn hrc a0 u18.2 hf
      · rcases mx_if_el hf with ⟨n_2, hf⟩ | ⟨n_2, hf⟩
        · refine sx_tin hm dX0_readStatement_15 (by rw [n_2]; decide) (by rw [n_2]; decide) (off := 149) (by rw [n_2]; rfl) (tgt := 164) rfl ?_
          clear n_0 n_1 n_2
          refine mx_S.pu (pc2 := 165) (lv2 := [(0, .ref a0), (1, .int a1)]) (st2 := [.ref a0]) hm dX0_readStatement_164 rfl ?_
          refine mx_S.pu (pc2 := 166) (lv2 := [(0, .ref a0), (1, .int a1)]) (st2 := [.int a1, .ref a0]) hm dX0_readStatement_165 rfl ?_
          refine sx_ic (v := 1) hm dX0_readStatement_166 (by decide) ?_
          replace hf := xl_el hf; obtain ⟨v19, e_v19, hf⟩ := hf
          refine mx_S.pu (pc2 := 168) (lv2 := [(0, .ref a0), (1, .int a1)]) (st2 := [.int v19, .ref a0]) hm dX0_readStatement_167 (by rw [← e_v19]; rfl) ?_
          clear e_v19
          replace hf := mx_gd_el hf; obtain ⟨c20, hf⟩ := hf
          replace hf := mx_sv_el hf; obtain ⟨u21, e_u21, hf⟩ := hf
          refine sx_cv hm dX0_readStatement_168 rs_RX0_165 mt_X0_readIf [.int v19] [] (b := a0) (ci := 0) rfl rfl rfl c20 (Nat.le_of_ble_eq_true rfl) (Nat.le_of_ble_eq_true rfl) (by omega) (by omega) (hrc.2.2.2.1 (by omega) (by omega) a0 v19 u18.2 e_u21) ?_
          clear e_u21
          show mx_S X F L 11 171 [(0, .ref a0), (1, .int a1)] [.int u21.1] u21.2 0 0 (some (.int r.1), r.2, 0, 0)
          replace hf := mx_gd_el hf; obtain ⟨c22, hf⟩ := hf
          cases hf
          exact sx_ire hm dX0_readStatement_171 rfl (xbq_ok c22).1
        · rcases mx_if_el hf with ⟨n_3, hf⟩ | ⟨n_3, hf⟩
          · refine sx_tin hm dX0_readStatement_15 (by rw [n_3]; decide) (by rw [n_3]; decide) (off := 194) (by rw [n_3]; rfl) (tgt := 209) rfl ?_
            clear n_0 n_1 n_2 n_3
            refine mx_S.pu (pc2 := 210) (lv2 := [(0, .ref a0), (1, .int a1)]) (st2 := [.ref a0]) hm dX0_readStatement_209 rfl ?_
            refine mx_S.pu (pc2 := 211) (lv2 := [(0, .ref a0), (1, .int a1)]) (st2 := [.int a1, .ref a0]) hm dX0_readStatement_210 rfl ?_
            refine sx_ic (v := 1) hm dX0_readStatement_211 (by decide) ?_
            replace hf := xl_el hf; obtain ⟨v23, e_v23, hf⟩ := hf
            refine mx_S.pu (pc2 := 213) (lv2 := [(0, .ref a0), (1, .int a1)]) (st2 := [.int v23, .ref a0]) hm dX0_readStatement_212 (by rw [← e_v23]; rfl) ?_
            clear e_v23
            replace hf := mx_gd_el hf; obtain ⟨c24, hf⟩ := hf
            replace hf := mx_sv_el hf; obtain ⟨u25, e_u25, hf⟩ := hf
            refine sx_cv hm dX0_readStatement_213 rs_RX0_183 mt_X0_readPrint [.int v23] [] (b := a0) (ci := 0) rfl rfl rfl c24 (Nat.le_of_ble_eq_true rfl) (Nat.le_of_ble_eq_true rfl) (by omega) (by omega) (f_X0_readPrint_ok X (by omega) (by omega) nn a0 v23 u18.2 e_u25) ?_
            clear e_u25
            show mx_S X F L 11 216 [(0, .ref a0), (1, .int a1)] [.int u25.1] u25.2 0 0 (some (.int r.1), r.2, 0, 0)
            replace hf := mx_gd_el hf; obtain ⟨c26, hf⟩ := hf
            cases hf
            exact sx_ire hm dX0_readStatement_216 rfl (xbq_ok c26).1
          · rcases mx_if_el hf with ⟨n_4, hf⟩ | ⟨n_4, hf⟩
            · refine sx_tin hm dX0_readStatement_15 (by rw [n_4]; decide) (by rw [n_4]; decide) (off := 178) (by rw [n_4]; rfl) (tgt := 193) rfl ?_
              clear n_0 n_1 n_2 n_3 n_4
              refine mx_S.pu (pc2 := 194) (lv2 := [(0, .ref a0), (1, .int a1)]) (st2 := [.ref a0]) hm dX0_readStatement_193 rfl ?_
              refine mx_S.pu (pc2 := 195) (lv2 := [(0, .ref a0), (1, .int a1)]) (st2 := [.int a1, .ref a0]) hm dX0_readStatement_194 rfl ?_
              refine sx_ic (v := 1) hm dX0_readStatement_195 (by decide) ?_
              replace hf := xl_el hf; obtain ⟨v27, e_v27, hf⟩ := hf
              refine mx_S.pu (pc2 := 197) (lv2 := [(0, .ref a0), (1, .int a1)]) (st2 := [.int v27, .ref a0]) hm dX0_readStatement_196 (by rw [← e_v27]; rfl) ?_
              clear e_v27
              replace hf := mx_gd_el hf; obtain ⟨c28, hf⟩ := hf
              replace hf := mx_sv_el hf; obtain ⟨u29, e_u29, hf⟩ := hf
              refine sx_cv hm dX0_readStatement_197 rs_RX0_177 mt_X0_readReturn [.int v27] [] (b := a0) (ci := 0) rfl rfl rfl c28 (Nat.le_of_ble_eq_true rfl) (Nat.le_of_ble_eq_true rfl) (by omega) (by omega) (f_X0_readReturn_ok X (by omega) (by omega) nn a0 v27 u18.2 e_u29) ?_
              clear e_u29
              show mx_S X F L 11 200 [(0, .ref a0), (1, .int a1)] [.int u29.1] u29.2 0 0 (some (.int r.1), r.2, 0, 0)
              replace hf := mx_gd_el hf; obtain ⟨c30, hf⟩ := hf
              cases hf
              exact sx_ire hm dX0_readStatement_200 rfl (xbq_ok c30).1
            · rcases mx_if_el hf with ⟨n_5, hf⟩ | ⟨n_5, hf⟩
              · refine sx_tin hm dX0_readStatement_15 (by rw [n_5]; decide) (by rw [n_5]; decide) (off := 186) (by rw [n_5]; rfl) (tgt := 201) rfl ?_
                clear n_0 n_1 n_2 n_3 n_4 n_5
                refine mx_S.pu (pc2 := 202) (lv2 := [(0, .ref a0), (1, .int a1)]) (st2 := [.ref a0]) hm dX0_readStatement_201 rfl ?_
                refine mx_S.pu (pc2 := 203) (lv2 := [(0, .ref a0), (1, .int a1)]) (st2 := [.int a1, .ref a0]) hm dX0_readStatement_202 rfl ?_
                refine sx_ic (v := 1) hm dX0_readStatement_203 (by decide) ?_
                replace hf := xl_el hf; obtain ⟨v31, e_v31, hf⟩ := hf
                refine mx_S.pu (pc2 := 205) (lv2 := [(0, .ref a0), (1, .int a1)]) (st2 := [.int v31, .ref a0]) hm dX0_readStatement_204 (by rw [← e_v31]; rfl) ?_
                clear e_v31
                replace hf := mx_gd_el hf; obtain ⟨c32, hf⟩ := hf
                replace hf := mx_sv_el hf; obtain ⟨u33, e_u33, hf⟩ := hf
                refine sx_cv hm dX0_readStatement_205 rs_RX0_180 mt_X0_readThrow [.int v31] [] (b := a0) (ci := 0) rfl rfl rfl c32 (Nat.le_of_ble_eq_true rfl) (Nat.le_of_ble_eq_true rfl) (by omega) (by omega) (f_X0_readThrow_ok X (by omega) (by omega) nn a0 v31 u18.2 e_u33) ?_
                clear e_u33
                show mx_S X F L 11 208 [(0, .ref a0), (1, .int a1)] [.int u33.1] u33.2 0 0 (some (.int r.1), r.2, 0, 0)
                replace hf := mx_gd_el hf; obtain ⟨c34, hf⟩ := hf
                cases hf
                exact sx_ire hm dX0_readStatement_208 rfl (xbq_ok c34).1
              · rcases mx_if_el hf with ⟨n_6, hf⟩ | ⟨n_6, hf⟩
                · refine sx_tin hm dX0_readStatement_15 (by rw [n_6]; decide) (by rw [n_6]; decide) (off := 165) (by rw [n_6]; rfl) (tgt := 180) rfl ?_
                  clear n_0 n_1 n_2 n_3 n_4 n_5 n_6
                  refine mx_S.pu (pc2 := 181) (lv2 := [(0, .ref a0), (1, .int a1)]) (st2 := [.ref a0]) hm dX0_readStatement_180 rfl ?_
                  refine mx_S.pu (pc2 := 182) (lv2 := [(0, .ref a0), (1, .int a1)]) (st2 := [.int a1, .ref a0]) hm dX0_readStatement_181 rfl ?_
                  refine sx_ic (v := 1) hm dX0_readStatement_182 (by decide) ?_
                  replace hf := xl_el hf; obtain ⟨v35, e_v35, hf⟩ := hf
                  refine mx_S.pu (pc2 := 184) (lv2 := [(0, .ref a0), (1, .int a1)]) (st2 := [.int v35, .ref a0]) hm dX0_readStatement_183 (by rw [← e_v35]; rfl) ?_
                  clear e_v35
                  replace hf := mx_gd_el hf; obtain ⟨c36, hf⟩ := hf
                  replace hf := mx_sv_el hf; obtain ⟨u37, e_u37, hf⟩ := hf
                  refine sx_cv hm dX0_readStatement_184 rs_RX0_171 mt_X0_readTry [.int v35] [] (b := a0) (ci := 0) rfl rfl rfl c36 (Nat.le_of_ble_eq_true rfl) (Nat.le_of_ble_eq_true rfl) (by omega) (by omega) (hrc.2.2.2.2.2 (by omega) (by omega) a0 v35 u18.2 e_u37) ?_
                  clear e_u37
                  show mx_S X F L 11 187 [(0, .ref a0), (1, .int a1)] [.int u37.1] u37.2 0 0 (some (.int r.1), r.2, 0, 0)
                  replace hf := mx_gd_el hf; obtain ⟨c38, hf⟩ := hf
                  cases hf
                  exact sx_ire hm dX0_readStatement_187 rfl (xbq_ok c38).1
                · rcases mx_if_el hf with ⟨n_7, hf⟩ | ⟨n_7, hf⟩
                  · refine sx_tin hm dX0_readStatement_15 (by rw [n_7]; decide) (by rw [n_7]; decide) (off := 157) (by rw [n_7]; rfl) (tgt := 172) rfl ?_
                    clear n_0 n_1 n_2 n_3 n_4 n_5 n_6 n_7
                    refine mx_S.pu (pc2 := 173) (lv2 := [(0, .ref a0), (1, .int a1)]) (st2 := [.ref a0]) hm dX0_readStatement_172 rfl ?_
                    refine mx_S.pu (pc2 := 174) (lv2 := [(0, .ref a0), (1, .int a1)]) (st2 := [.int a1, .ref a0]) hm dX0_readStatement_173 rfl ?_
                    refine sx_ic (v := 1) hm dX0_readStatement_174 (by decide) ?_
                    replace hf := xl_el hf; obtain ⟨v39, e_v39, hf⟩ := hf
                    refine mx_S.pu (pc2 := 176) (lv2 := [(0, .ref a0), (1, .int a1)]) (st2 := [.int v39, .ref a0]) hm dX0_readStatement_175 (by rw [← e_v39]; rfl) ?_
                    clear e_v39
                    replace hf := mx_gd_el hf; obtain ⟨c40, hf⟩ := hf
                    replace hf := mx_sv_el hf; obtain ⟨u41, e_u41, hf⟩ := hf
                    refine sx_cv hm dX0_readStatement_176 rs_RX0_168 mt_X0_readWhile [.int v39] [] (b := a0) (ci := 0) rfl rfl rfl c40 (Nat.le_of_ble_eq_true rfl) (Nat.le_of_ble_eq_true rfl) (by omega) (by omega) (hrc.2.2.2.2.1 (by omega) (by omega) a0 v39 u18.2 e_u41) ?_
                    clear e_u41
                    show mx_S X F L 11 179 [(0, .ref a0), (1, .int a1)] [.int u41.1] u41.2 0 0 (some (.int r.1), r.2, 0, 0)
                    replace hf := mx_gd_el hf; obtain ⟨c42, hf⟩ := hf
                    cases hf
                    exact sx_ire hm dX0_readStatement_179 rfl (xbq_ok c42).1
                  · rcases mx_if_el hf with ⟨n_8, hf⟩ | ⟨n_8, hf⟩
                    · refine sx_tin hm dX0_readStatement_15 (by rw [n_8]; decide) (by rw [n_8]; decide) (off := 141) (by rw [n_8]; rfl) (tgt := 156) rfl ?_
                      clear n_0 n_1 n_2 n_3 n_4 n_5 n_6 n_7 n_8
                      refine mx_S.pu (pc2 := 157) (lv2 := [(0, .ref a0), (1, .int a1)]) (st2 := [.ref a0]) hm dX0_readStatement_156 rfl ?_
                      refine mx_S.pu (pc2 := 158) (lv2 := [(0, .ref a0), (1, .int a1)]) (st2 := [.int a1, .ref a0]) hm dX0_readStatement_157 rfl ?_
                      refine sx_ic (v := 1) hm dX0_readStatement_158 (by decide) ?_
                      replace hf := xl_el hf; obtain ⟨v43, e_v43, hf⟩ := hf
                      refine mx_S.pu (pc2 := 160) (lv2 := [(0, .ref a0), (1, .int a1)]) (st2 := [.int v43, .ref a0]) hm dX0_readStatement_159 (by rw [← e_v43]; rfl) ?_
                      clear e_v43
                      replace hf := mx_gd_el hf; obtain ⟨c44, hf⟩ := hf
                      replace hf := mx_sv_el hf; obtain ⟨u45, e_u45, hf⟩ := hf
                      refine sx_cv hm dX0_readStatement_160 rs_RX0_141 mt_X0_readBlock [.int v43] [] (b := a0) (ci := 0) rfl rfl rfl c44 (Nat.le_of_ble_eq_true rfl) (Nat.le_of_ble_eq_true rfl) (by omega) (by omega) (hrc.1 (by omega) (by omega) a0 v43 u18.2 e_u45) ?_
                      clear e_u45
                      show mx_S X F L 11 163 [(0, .ref a0), (1, .int a1)] [.int u45.1] u45.2 0 0 (some (.int r.1), r.2, 0, 0)
                      replace hf := mx_gd_el hf; obtain ⟨c46, hf⟩ := hf
                      cases hf
                      exact sx_ire hm dX0_readStatement_163 rfl (xbq_ok c46).1
                    · rcases (show (u18.1.toInt < 11 ∨ 42 < u18.1.toInt) ∨ u18.1.toInt = 11 ∨ u18.1.toInt = 12 ∨ u18.1.toInt = 13 ∨ u18.1.toInt = 14 ∨ u18.1.toInt = 15 ∨ u18.1.toInt = 16 ∨ u18.1.toInt = 17 ∨ u18.1.toInt = 18 ∨ u18.1.toInt = 19 ∨ u18.1.toInt = 20 ∨ u18.1.toInt = 21 ∨ u18.1.toInt = 22 ∨ u18.1.toInt = 23 ∨ u18.1.toInt = 24 ∨ u18.1.toInt = 25 ∨ u18.1.toInt = 26 ∨ u18.1.toInt = 27 ∨ u18.1.toInt = 28 ∨ u18.1.toInt = 29 ∨ u18.1.toInt = 30 ∨ u18.1.toInt = 31 ∨ u18.1.toInt = 32 ∨ u18.1.toInt = 33 ∨ u18.1.toInt = 34 ∨ u18.1.toInt = 35 ∨ u18.1.toInt = 36 ∨ u18.1.toInt = 37 ∨ u18.1.toInt = 38 ∨ u18.1.toInt = 39 ∨ u18.1.toInt = 40 ∨ u18.1.toInt = 41 ∨ u18.1.toInt = 42 by omega) with z0 | z0 | z0 | z0 | z0 | z0 | z0 | z0 | z0 | z0 | z0 | z0 | z0 | z0 | z0 | z0 | z0 | z0 | z0 | z0 | z0 | z0 | z0 | z0 | z0 | z0 | z0 | z0 | z0 | z0 | z0 | z0 | z0
                      · refine sx_tout hm dX0_readStatement_15 z0 (tgt := 217) rfl ?_
                        exact j_X0_readStatement_217_ok X hF hL nn hrc a0 a1 u18.2 hf
                      · exact absurd (Int32.toInt_inj.mp (z0.trans (by decide : (11 : Int) = (11 : Int32).toInt))) n_0
                      · refine sx_tin hm dX0_readStatement_15 (by omega) (by omega) (off := 202) (by rw [z0]; rfl) (tgt := 217) rfl ?_
                        exact j_X0_readStatement_217_ok X hF hL nn hrc a0 a1 u18.2 hf
                      · refine sx_tin hm dX0_readStatement_15 (by omega) (by omega) (off := 202) (by rw [z0]; rfl) (tgt := 217) rfl ?_
                        exact j_X0_readStatement_217_ok X hF hL nn hrc a0 a1 u18.2 hf
                      · exact absurd (Int32.toInt_inj.mp (z0.trans (by decide : (14 : Int) = (14 : Int32).toInt))) n_1
                      · refine sx_tin hm dX0_readStatement_15 (by omega) (by omega) (off := 202) (by rw [z0]; rfl) (tgt := 217) rfl ?_
                        exact j_X0_readStatement_217_ok X hF hL nn hrc a0 a1 u18.2 hf
                      · refine sx_tin hm dX0_readStatement_15 (by omega) (by omega) (off := 202) (by rw [z0]; rfl) (tgt := 217) rfl ?_
                        exact j_X0_readStatement_217_ok X hF hL nn hrc a0 a1 u18.2 hf
                      · refine sx_tin hm dX0_readStatement_15 (by omega) (by omega) (off := 202) (by rw [z0]; rfl) (tgt := 217) rfl ?_
                        exact j_X0_readStatement_217_ok X hF hL nn hrc a0 a1 u18.2 hf
                      · exact absurd (Int32.toInt_inj.mp (z0.trans (by decide : (18 : Int) = (18 : Int32).toInt))) n_2
                      · refine sx_tin hm dX0_readStatement_15 (by omega) (by omega) (off := 202) (by rw [z0]; rfl) (tgt := 217) rfl ?_
                        exact j_X0_readStatement_217_ok X hF hL nn hrc a0 a1 u18.2 hf
                      · refine sx_tin hm dX0_readStatement_15 (by omega) (by omega) (off := 202) (by rw [z0]; rfl) (tgt := 217) rfl ?_
                        exact j_X0_readStatement_217_ok X hF hL nn hrc a0 a1 u18.2 hf
                      · refine sx_tin hm dX0_readStatement_15 (by omega) (by omega) (off := 202) (by rw [z0]; rfl) (tgt := 217) rfl ?_
                        exact j_X0_readStatement_217_ok X hF hL nn hrc a0 a1 u18.2 hf
                      · refine sx_tin hm dX0_readStatement_15 (by omega) (by omega) (off := 202) (by rw [z0]; rfl) (tgt := 217) rfl ?_
                        exact j_X0_readStatement_217_ok X hF hL nn hrc a0 a1 u18.2 hf
                      · exact absurd (Int32.toInt_inj.mp (z0.trans (by decide : (23 : Int) = (23 : Int32).toInt))) n_3
                      · exact absurd (Int32.toInt_inj.mp (z0.trans (by decide : (24 : Int) = (24 : Int32).toInt))) n_4
                      · refine sx_tin hm dX0_readStatement_15 (by omega) (by omega) (off := 202) (by rw [z0]; rfl) (tgt := 217) rfl ?_
                        exact j_X0_readStatement_217_ok X hF hL nn hrc a0 a1 u18.2 hf
                      · refine sx_tin hm dX0_readStatement_15 (by omega) (by omega) (off := 202) (by rw [z0]; rfl) (tgt := 217) rfl ?_
                        exact j_X0_readStatement_217_ok X hF hL nn hrc a0 a1 u18.2 hf
                      · exact absurd (Int32.toInt_inj.mp (z0.trans (by decide : (27 : Int) = (27 : Int32).toInt))) n_5
                      · refine sx_tin hm dX0_readStatement_15 (by omega) (by omega) (off := 202) (by rw [z0]; rfl) (tgt := 217) rfl ?_
                        exact j_X0_readStatement_217_ok X hF hL nn hrc a0 a1 u18.2 hf
                      · exact absurd (Int32.toInt_inj.mp (z0.trans (by decide : (29 : Int) = (29 : Int32).toInt))) n_6
                      · refine sx_tin hm dX0_readStatement_15 (by omega) (by omega) (off := 202) (by rw [z0]; rfl) (tgt := 217) rfl ?_
                        exact j_X0_readStatement_217_ok X hF hL nn hrc a0 a1 u18.2 hf
                      · exact absurd (Int32.toInt_inj.mp (z0.trans (by decide : (31 : Int) = (31 : Int32).toInt))) n_7
                      · refine sx_tin hm dX0_readStatement_15 (by omega) (by omega) (off := 202) (by rw [z0]; rfl) (tgt := 217) rfl ?_
                        exact j_X0_readStatement_217_ok X hF hL nn hrc a0 a1 u18.2 hf
                      · refine sx_tin hm dX0_readStatement_15 (by omega) (by omega) (off := 202) (by rw [z0]; rfl) (tgt := 217) rfl ?_
                        exact j_X0_readStatement_217_ok X hF hL nn hrc a0 a1 u18.2 hf
                      · refine sx_tin hm dX0_readStatement_15 (by omega) (by omega) (off := 202) (by rw [z0]; rfl) (tgt := 217) rfl ?_
                        exact j_X0_readStatement_217_ok X hF hL nn hrc a0 a1 u18.2 hf
                      · refine sx_tin hm dX0_readStatement_15 (by omega) (by omega) (off := 202) (by rw [z0]; rfl) (tgt := 217) rfl ?_
                        exact j_X0_readStatement_217_ok X hF hL nn hrc a0 a1 u18.2 hf
                      · refine sx_tin hm dX0_readStatement_15 (by omega) (by omega) (off := 202) (by rw [z0]; rfl) (tgt := 217) rfl ?_
                        exact j_X0_readStatement_217_ok X hF hL nn hrc a0 a1 u18.2 hf
                      · refine sx_tin hm dX0_readStatement_15 (by omega) (by omega) (off := 202) (by rw [z0]; rfl) (tgt := 217) rfl ?_
                        exact j_X0_readStatement_217_ok X hF hL nn hrc a0 a1 u18.2 hf
                      · refine sx_tin hm dX0_readStatement_15 (by omega) (by omega) (off := 202) (by rw [z0]; rfl) (tgt := 217) rfl ?_
                        exact j_X0_readStatement_217_ok X hF hL nn hrc a0 a1 u18.2 hf
                      · refine sx_tin hm dX0_readStatement_15 (by omega) (by omega) (off := 202) (by rw [z0]; rfl) (tgt := 217) rfl ?_
                        exact j_X0_readStatement_217_ok X hF hL nn hrc a0 a1 u18.2 hf
                      · refine sx_tin hm dX0_readStatement_15 (by omega) (by omega) (off := 202) (by rw [z0]; rfl) (tgt := 217) rfl ?_
                        exact j_X0_readStatement_217_ok X hF hL nn hrc a0 a1 u18.2 hf
                      · refine sx_tin hm dX0_readStatement_15 (by omega) (by omega) (off := 202) (by rw [z0]; rfl) (tgt := 217) rfl ?_
                        exact j_X0_readStatement_217_ok X hF hL nn hrc a0 a1 u18.2 hf
                      · exact absurd (Int32.toInt_inj.mp (z0.trans (by decide : (42 : Int) = (42 : Int32).toInt))) n_8
  · refine sb_ic_le hm dX0_readStatement_3 (tgt := 8) rfl (fun z => absurd z c47) (fun _ => ?_)
    refine sx_ic (v := 0) hm dX0_readStatement_6 (by decide) ?_
    cases hf
    exact sx_ire hm dX0_readStatement_7 rfl (by decide)
set_option maxHeartbeats 4000000 in
set_option maxRecDepth 20000 in
theorem j_X0_readIf_99_ok (X : Nat × (Nat → Int32)) {F L d : Nat} (hF : 428 + (d + 1) ≤ F) (hL : 12825 + (d + 1) * 29 ≤ L) (nn : Nat) {rc : tg_X0_readBlock} (hrc : hg5_X0_readBlock X d rc) (l3 : Int32) (l5 : Int32) (h : mx_H) {r : (Int32 × mx_H)} (hf : j_X0_readIf_99 nn rc l3 l5 h = some r) : mx_S X F L 12 99 [(3, .int l3), (5, .int l5)] [] h 0 0 (some (.int r.1), r.2, 0, 0) := by
  have hm : mx_mt 12 = some (yX0_readIf, cX0_readIf, 6, (some .boolean)) := mt_X0_readIf
  unfold j_X0_readIf_99 at hf
  refine mx_S.pu (pc2 := 100) (lv2 := [(3, .int l3), (5, .int l5)]) (st2 := [.int l3]) hm dX0_readIf_99 rfl ?_
  rcases mx_if_el hf with ⟨c2, hf⟩ | ⟨c2, hf⟩
  · refine sb_if_ne hm dX0_readIf_100 (tgt := 108) rfl (fun _ => ?_) (fun z => absurd c2 z)
    refine sx_ic (v := 1) hm dX0_readIf_108 (by decide) ?_
    refine mx_S.pu (pc2 := 113) (lv2 := [(3, .int l3), (5, .int l5)]) (st2 := [.int 1]) hm dX0_readIf_109 rfl ?_
    cases hf
    exact sx_ire hm dX0_readIf_113 rfl (by decide)
  · refine sb_if_ne hm dX0_readIf_100 (tgt := 108) rfl (fun z => absurd z c2) (fun _ => ?_)
    refine mx_S.pu (pc2 := 105) (lv2 := [(3, .int l3), (5, .int l5)]) (st2 := [.int l5]) hm dX0_readIf_103 rfl ?_
    rcases mx_if_el hf with ⟨c1, hf⟩ | ⟨c1, hf⟩
    · refine sb_if_eq hm dX0_readIf_105 (tgt := 112) rfl (fun _ => ?_) (fun z => absurd c1 z)
      refine sx_ic (v := 0) hm dX0_readIf_112 (by decide) ?_
      cases hf
      exact sx_ire hm dX0_readIf_113 rfl (by decide)
    · refine sb_if_eq hm dX0_readIf_105 (tgt := 112) rfl (fun z => absurd z c1) (fun _ => ?_)
      refine sx_ic (v := 1) hm dX0_readIf_108 (by decide) ?_
      refine mx_S.pu (pc2 := 113) (lv2 := [(3, .int l3), (5, .int l5)]) (st2 := [.int 1]) hm dX0_readIf_109 rfl ?_
      cases hf
      exact sx_ire hm dX0_readIf_113 rfl (by decide)
set_option maxHeartbeats 4000000 in
set_option maxRecDepth 20000 in
theorem j_X0_readIf_69_ok (X : Nat × (Nat → Int32)) {F L d : Nat} (hF : 428 + (d + 1) ≤ F) (hL : 12825 + (d + 1) * 29 ≤ L) (nn : Nat) {rc : tg_X0_readBlock} (hrc : hg5_X0_readBlock X d rc) (l0 : Nat) (l1 : Int32) (l2 : Int32) (l3 : Int32) (s0 : Int32) (h : mx_H) {r : (Int32 × mx_H)} (hf : j_X0_readIf_69 nn rc l0 l1 l2 l3 s0 h = some r) : mx_S X F L 12 69 [(0, .ref l0), (1, .int l1), (2, .int l2), (3, .int l3)] [.int s0] h 0 0 (some (.int r.1), r.2, 0, 0) := by
  have hm : mx_mt 12 = some (yX0_readIf, cX0_readIf, 6, (some .boolean)) := mt_X0_readIf
  unfold j_X0_readIf_69 at hf
  refine mx_S.pu (pc2 := 71) (lv2 := [(4, .int s0), (0, .ref l0), (1, .int l1), (2, .int l2), (3, .int l3)]) (st2 := []) hm dX0_readIf_69 rfl ?_
  refine mx_S.pu (pc2 := 72) (lv2 := [(4, .int s0), (0, .ref l0), (1, .int l1), (2, .int l2), (3, .int l3)]) (st2 := [.ref l0]) hm dX0_readIf_71 rfl ?_
  replace hf := mx_sv_el hf; obtain ⟨v3, e_v3, hf⟩ := hf
  refine sx_get hm dX0_readIf_72 rs_RX0_16 (xgr_el e_v3) ?_
  clear e_v3
  refine mx_S.pu (pc2 := 76) (lv2 := [(4, .int s0), (0, .ref l0), (1, .int l1), (2, .int l2), (3, .int l3)]) (st2 := [.int l2, .ref v3]) hm dX0_readIf_75 rfl ?_
  replace hf := mx_gd_el hf; obtain ⟨c4, hf⟩ := hf
  replace hf := mx_sv_el hf; obtain ⟨u5, e_u5, hf⟩ := hf
  refine sx_cv hm dX0_readIf_76 rs_RX0_201 mt_X1_aimHere [.int l2] [] (b := v3) (ci := 1) rfl rfl rfl c4 (Nat.le_of_ble_eq_true rfl) (Nat.le_of_ble_eq_true rfl) (by omega) (by omega) (f_X1_aimHere_ok X (by omega) (by omega) nn v3 l2 h e_u5) ?_
  clear e_u5
  show mx_S X F L 12 79 [(4, .int s0), (0, .ref l0), (1, .int l1), (2, .int l2), (3, .int l3)] [] u5 0 0 (some (.int r.1), r.2, 0, 0)
  refine mx_S.pu (pc2 := 80) (lv2 := [(4, .int s0), (0, .ref l0), (1, .int l1), (2, .int l2), (3, .int l3)]) (st2 := [.ref l0]) hm dX0_readIf_79 rfl ?_
  refine mx_S.pu (pc2 := 81) (lv2 := [(4, .int s0), (0, .ref l0), (1, .int l1), (2, .int l2), (3, .int l3)]) (st2 := [.int l1, .ref l0]) hm dX0_readIf_80 rfl ?_
  replace hf := mx_gd_el hf; obtain ⟨c6, hf⟩ := hf
  replace hf := mx_sv_el hf; obtain ⟨u7, e_u7, hf⟩ := hf
  refine sx_cv hm dX0_readIf_81 rs_RX0_198 mt_X0_readPart [.int l1] [] (b := l0) (ci := 0) rfl rfl rfl c6 (Nat.le_of_ble_eq_true rfl) (Nat.le_of_ble_eq_true rfl) (by omega) (by omega) (hrc.2.1 (by omega) (by omega) l0 l1 u5 e_u7) ?_
  clear e_u7
  show mx_S X F L 12 84 [(4, .int s0), (0, .ref l0), (1, .int l1), (2, .int l2), (3, .int l3)] [.int u7.1] u7.2 0 0 (some (.int r.1), r.2, 0, 0)
  refine mx_S.pu (pc2 := 86) (lv2 := [(5, .int u7.1), (4, .int s0), (0, .ref l0), (1, .int l1), (2, .int l2), (3, .int l3)]) (st2 := []) hm dX0_readIf_84 rfl ?_
  refine mx_S.pu (pc2 := 87) (lv2 := [(5, .int u7.1), (4, .int s0), (0, .ref l0), (1, .int l1), (2, .int l2), (3, .int l3)]) (st2 := [.int l3]) hm dX0_readIf_86 rfl ?_
  rcases mx_if_el hf with ⟨c11, hf⟩ | ⟨c11, hf⟩
  · refine sb_if_eq hm dX0_readIf_87 (tgt := 99) rfl (fun _ => ?_) (fun z => absurd c11 z)
    refine mx_S.ext [(3, .int l3), (5, .int u7.1)] (mx_sub_pos [5, 0] rfl (show ([5, 4, 0, 1, 2, 3] : List Nat).Nodup by decide)) ?_
    exact j_X0_readIf_99_ok X hF hL nn hrc l3 u7.1 u7.2 hf
  · refine sb_if_eq hm dX0_readIf_87 (tgt := 99) rfl (fun z => absurd z c11) (fun _ => ?_)
    refine mx_S.pu (pc2 := 91) (lv2 := [(5, .int u7.1), (4, .int s0), (0, .ref l0), (1, .int l1), (2, .int l2), (3, .int l3)]) (st2 := [.ref l0]) hm dX0_readIf_90 rfl ?_
    replace hf := mx_sv_el hf; obtain ⟨v8, e_v8, hf⟩ := hf
    refine sx_get hm dX0_readIf_91 rs_RX0_16 (xgr_el e_v8) ?_
    clear e_v8
    refine mx_S.pu (pc2 := 96) (lv2 := [(5, .int u7.1), (4, .int s0), (0, .ref l0), (1, .int l1), (2, .int l2), (3, .int l3)]) (st2 := [.int s0, .ref v8]) hm dX0_readIf_94 rfl ?_
    replace hf := mx_gd_el hf; obtain ⟨c9, hf⟩ := hf
    replace hf := mx_sv_el hf; obtain ⟨u10, e_u10, hf⟩ := hf
    refine sx_cv hm dX0_readIf_96 rs_RX0_201 mt_X1_aimHere [.int s0] [] (b := v8) (ci := 1) rfl rfl rfl c9 (Nat.le_of_ble_eq_true rfl) (Nat.le_of_ble_eq_true rfl) (by omega) (by omega) (f_X1_aimHere_ok X (by omega) (by omega) nn v8 s0 u7.2 e_u10) ?_
    clear e_u10
    show mx_S X F L 12 99 [(5, .int u7.1), (4, .int s0), (0, .ref l0), (1, .int l1), (2, .int l2), (3, .int l3)] [] u10 0 0 (some (.int r.1), r.2, 0, 0)
    refine mx_S.ext [(3, .int l3), (5, .int u7.1)] (mx_sub_pos [5, 0] rfl (show ([5, 4, 0, 1, 2, 3] : List Nat).Nodup by decide)) ?_
    exact j_X0_readIf_99_ok X hF hL nn hrc l3 u7.1 u10 hf
set_option maxHeartbeats 4000000 in
set_option maxRecDepth 20000 in
theorem o_X0_readIf_ok (X : Nat × (Nat → Int32)) {F L d : Nat} (hF : 428 + (d + 1) ≤ F) (hL : 12825 + (d + 1) * 29 ≤ L) (nn : Nat) {rc : tg_X0_readBlock} (hrc : hg5_X0_readBlock X d rc) (a0 : Nat) (a1 : Int32) (h : mx_H) {r : (Int32 × mx_H)} (hf : o_X0_readIf nn rc a0 a1 h = some r) : mx_R X F L 12 [.ref a0, .int a1] h (some (.int r.1), r.2, 0, 0) := by
  have hm : mx_mt 12 = some (yX0_readIf, cX0_readIf, 6, (some .boolean)) := mt_X0_readIf
  show mx_S X F L 12 0 [(0, .ref a0), (1, .int a1)] [] h 0 0 (some (.int r.1), r.2, 0, 0)
  unfold o_X0_readIf at hf
  refine mx_S.pu (pc2 := 1) (lv2 := [(0, .ref a0), (1, .int a1)]) (st2 := [.ref a0]) hm dX0_readIf_0 rfl ?_
  replace hf := mx_sv_el hf; obtain ⟨v12, e_v12, hf⟩ := hf
  refine sx_get hm dX0_readIf_1 rs_RX0_61 (xgr_el e_v12) ?_
  clear e_v12
  refine mx_S.pu (pc2 := 5) (lv2 := [(0, .ref a0), (1, .int a1)]) (st2 := [.int a1, .ref v12]) hm dX0_readIf_4 rfl ?_
  replace hf := mx_gd_el hf; obtain ⟨c13, hf⟩ := hf
  replace hf := mx_sv_el hf; obtain ⟨u14, e_u14, hf⟩ := hf
  refine sx_cv hm dX0_readIf_5 rs_RX0_195 mt_X10_readCondition [.int a1] [] (b := v12) (ci := 10) rfl rfl rfl c13 (Nat.le_of_ble_eq_true rfl) (Nat.le_of_ble_eq_true rfl) (by omega) (by omega) (f_X10_readCondition_ok X (by omega) (by omega) nn v12 a1 h e_u14) ?_
  clear e_u14
  show mx_S X F L 12 8 [(0, .ref a0), (1, .int a1)] [.int u14.1] u14.2 0 0 (some (.int r.1), r.2, 0, 0)
  refine mx_S.pu (pc2 := 9) (lv2 := [(2, .int u14.1), (0, .ref a0), (1, .int a1)]) (st2 := []) hm dX0_readIf_8 rfl ?_
  refine mx_S.pu (pc2 := 10) (lv2 := [(2, .int u14.1), (0, .ref a0), (1, .int a1)]) (st2 := [.ref a0]) hm dX0_readIf_9 rfl ?_
  refine mx_S.pu (pc2 := 11) (lv2 := [(2, .int u14.1), (0, .ref a0), (1, .int a1)]) (st2 := [.int a1, .ref a0]) hm dX0_readIf_10 rfl ?_
  replace hf := mx_gd_el hf; obtain ⟨c15, hf⟩ := hf
  replace hf := mx_sv_el hf; obtain ⟨u16, e_u16, hf⟩ := hf
  refine sx_cv hm dX0_readIf_11 rs_RX0_198 mt_X0_readPart [.int a1] [] (b := a0) (ci := 0) rfl rfl rfl c15 (Nat.le_of_ble_eq_true rfl) (Nat.le_of_ble_eq_true rfl) (by omega) (by omega) (hrc.2.1 (by omega) (by omega) a0 a1 u14.2 e_u16) ?_
  clear e_u16
  show mx_S X F L 12 14 [(2, .int u14.1), (0, .ref a0), (1, .int a1)] [.int u16.1] u16.2 0 0 (some (.int r.1), r.2, 0, 0)
  refine mx_S.pu (pc2 := 15) (lv2 := [(3, .int u16.1), (2, .int u14.1), (0, .ref a0), (1, .int a1)]) (st2 := []) hm dX0_readIf_14 rfl ?_
  refine mx_S.pu (pc2 := 16) (lv2 := [(3, .int u16.1), (2, .int u14.1), (0, .ref a0), (1, .int a1)]) (st2 := [.ref a0]) hm dX0_readIf_15 rfl ?_
  replace hf := mx_sv_el hf; obtain ⟨v17, e_v17, hf⟩ := hf
  refine sx_get hm dX0_readIf_16 rs_RX0_34 (xgr_el e_v17) ?_
  clear e_v17
  replace hf := mx_gd_el hf; obtain ⟨c18, hf⟩ := hf
  replace hf := mx_sv_el hf; obtain ⟨u19, e_u19, hf⟩ := hf
  refine sx_cv hm dX0_readIf_19 rs_RX0_158 mt_X9_kind [] [] (b := v17) (ci := 9) rfl rfl rfl c18 (Nat.le_of_ble_eq_true rfl) (Nat.le_of_ble_eq_true rfl) (by omega) (by omega) (f_X9_kind_ok X (by omega) (by omega) nn v17 u16.2 e_u19) ?_
  clear e_u19
  show mx_S X F L 12 22 [(3, .int u16.1), (2, .int u14.1), (0, .ref a0), (1, .int a1)] [.int u19.1] u19.2 0 0 (some (.int r.1), r.2, 0, 0)
  refine sx_bi (v := 15) hm dX0_readIf_22 (by decide) ?_
  rcases mx_if_el hf with ⟨c31, hf⟩ | ⟨c31, hf⟩
  · refine sb_ic_eq hm dX0_readIf_24 (tgt := 37) rfl (fun _ => ?_) (fun z => absurd c31 z)
    refine mx_S.pu (pc2 := 38) (lv2 := [(3, .int u16.1), (2, .int u14.1), (0, .ref a0), (1, .int a1)]) (st2 := [.ref a0]) hm dX0_readIf_37 rfl ?_
    replace hf := mx_sv_el hf; obtain ⟨v20, e_v20, hf⟩ := hf
    refine sx_get hm dX0_readIf_38 rs_RX0_34 (xgr_el e_v20) ?_
    clear e_v20
    refine mx_S.pu (pc2 := 42) (lv2 := [(3, .int u16.1), (2, .int u14.1), (0, .ref a0), (1, .int a1)]) (st2 := [.ref v20, .ref v20]) hm dX0_readIf_41 rfl ?_
    replace hf := mx_sv_el hf; obtain ⟨v21, e_v21, hf⟩ := hf
    refine sx_get hm dX0_readIf_42 rs_RX0_138 (xgi_el e_v21) ?_
    clear e_v21
    refine sx_ic (v := 1) hm dX0_readIf_45 (by decide) ?_
    replace hf := xl_el hf; obtain ⟨v22, e_v22, hf⟩ := hf
    refine mx_S.pu (pc2 := 47) (lv2 := [(3, .int u16.1), (2, .int u14.1), (0, .ref a0), (1, .int a1)]) (st2 := [.int v22, .ref v20]) hm dX0_readIf_46 (by rw [← e_v22]; rfl) ?_
    clear e_v22
    replace hf := mx_sv_el hf; obtain ⟨h23, e_h23, hf⟩ := hf
    refine sx_put hm dX0_readIf_47 rs_RX0_138 ft_9_10 ⟨rfl, rfl⟩ (fun z => by cases z) e_h23 ?_
    clear e_h23
    refine mx_S.pu (pc2 := 51) (lv2 := [(3, .int u16.1), (2, .int u14.1), (0, .ref a0), (1, .int a1)]) (st2 := [.int u16.1]) hm dX0_readIf_50 rfl ?_
    rcases mx_if_el hf with ⟨c27, hf⟩ | ⟨c27, hf⟩
    · refine sb_if_eq hm dX0_readIf_51 (tgt := 68) rfl (fun _ => ?_) (fun z => absurd c27 z)
      refine sx_ic (v := (-1)) hm dX0_readIf_68 (by decide) ?_
      refine mx_S.ext [(0, .ref a0), (1, .int a1), (2, .int u14.1), (3, .int u16.1)] (mx_sub_pos [2, 3, 1, 0] rfl (show ([3, 2, 0, 1] : List Nat).Nodup by decide)) ?_
      exact j_X0_readIf_69_ok X hF hL nn hrc a0 a1 u14.1 u16.1 (-1) h23 hf
    · refine sb_if_eq hm dX0_readIf_51 (tgt := 68) rfl (fun z => absurd z c27) (fun _ => ?_)
      refine mx_S.pu (pc2 := 55) (lv2 := [(3, .int u16.1), (2, .int u14.1), (0, .ref a0), (1, .int a1)]) (st2 := [.ref a0]) hm dX0_readIf_54 rfl ?_
      replace hf := mx_sv_el hf; obtain ⟨v24, e_v24, hf⟩ := hf
      refine sx_get hm dX0_readIf_55 rs_RX0_16 (xgr_el e_v24) ?_
      clear e_v24
      refine sx_si (v := 167) hm dX0_readIf_58 (by decide) ?_
      refine sx_ic (v := 0) hm dX0_readIf_61 (by decide) ?_
      replace hf := mx_gd_el hf; obtain ⟨c25, hf⟩ := hf
      replace hf := mx_sv_el hf; obtain ⟨u26, e_u26, hf⟩ := hf
      refine sx_cv hm dX0_readIf_62 rs_RX0_204 mt_X1_jump [.int 167, .int 0] [] (b := v24) (ci := 1) rfl rfl rfl c25 (Nat.le_of_ble_eq_true rfl) (Nat.le_of_ble_eq_true rfl) (by omega) (by omega) (f_X1_jump_ok X (by omega) (by omega) nn v24 167 0 h23 e_u26) ?_
      clear e_u26
      show mx_S X F L 12 65 [(3, .int u16.1), (2, .int u14.1), (0, .ref a0), (1, .int a1)] [.int u26.1] u26.2 0 0 (some (.int r.1), r.2, 0, 0)
      refine mx_S.pu (pc2 := 69) (lv2 := [(3, .int u16.1), (2, .int u14.1), (0, .ref a0), (1, .int a1)]) (st2 := [.int u26.1]) hm dX0_readIf_65 rfl ?_
      refine mx_S.ext [(0, .ref a0), (1, .int a1), (2, .int u14.1), (3, .int u16.1)] (mx_sub_pos [2, 3, 1, 0] rfl (show ([3, 2, 0, 1] : List Nat).Nodup by decide)) ?_
      exact j_X0_readIf_69_ok X hF hL nn hrc a0 a1 u14.1 u16.1 u26.1 u26.2 hf
  · refine sb_ic_eq hm dX0_readIf_24 (tgt := 37) rfl (fun z => absurd z c31) (fun _ => ?_)
    refine mx_S.pu (pc2 := 28) (lv2 := [(3, .int u16.1), (2, .int u14.1), (0, .ref a0), (1, .int a1)]) (st2 := [.ref a0]) hm dX0_readIf_27 rfl ?_
    replace hf := mx_sv_el hf; obtain ⟨v28, e_v28, hf⟩ := hf
    refine sx_get hm dX0_readIf_28 rs_RX0_16 (xgr_el e_v28) ?_
    clear e_v28
    refine mx_S.pu (pc2 := 32) (lv2 := [(3, .int u16.1), (2, .int u14.1), (0, .ref a0), (1, .int a1)]) (st2 := [.int u14.1, .ref v28]) hm dX0_readIf_31 rfl ?_
    replace hf := mx_gd_el hf; obtain ⟨c29, hf⟩ := hf
    replace hf := mx_sv_el hf; obtain ⟨u30, e_u30, hf⟩ := hf
    refine sx_cv hm dX0_readIf_32 rs_RX0_201 mt_X1_aimHere [.int u14.1] [] (b := v28) (ci := 1) rfl rfl rfl c29 (Nat.le_of_ble_eq_true rfl) (Nat.le_of_ble_eq_true rfl) (by omega) (by omega) (f_X1_aimHere_ok X (by omega) (by omega) nn v28 u14.1 u19.2 e_u30) ?_
    clear e_u30
    show mx_S X F L 12 35 [(3, .int u16.1), (2, .int u14.1), (0, .ref a0), (1, .int a1)] [] u30 0 0 (some (.int r.1), r.2, 0, 0)
    refine sx_ic (v := 1) hm dX0_readIf_35 (by decide) ?_
    cases hf
    exact sx_ire hm dX0_readIf_36 rfl (by decide)
set_option maxHeartbeats 4000000 in
set_option maxRecDepth 20000 in
theorem j_X0_readWhile_187_ok (X : Nat × (Nat → Int32)) {F L d : Nat} (hF : 428 + (d + 1) ≤ F) (hL : 12825 + (d + 1) * 29 ≤ L) (nn : Nat) {rc : tg_X0_readBlock} (hrc : hg5_X0_readBlock X d rc) (l0 : Nat) (l2 : Int32) (l3 : Int32) (l4 : Int32) (l8 : Int32) (h : mx_H) {r : (Int32 × mx_H)} (hf : j_X0_readWhile_187 nn rc l0 l2 l3 l4 l8 h = some r) : mx_S X F L 13 187 [(0, .ref l0), (2, .int l2), (3, .int l3), (4, .int l4), (8, .int l8)] [] h 0 0 (some (.int r.1), r.2, 0, 0) := by
  have hm : mx_mt 13 = some (yX0_readWhile, cX0_readWhile, 10, (some .boolean)) := mt_X0_readWhile
  unfold j_X0_readWhile_187 at hf
  refine mx_S.pu (pc2 := 188) (lv2 := [(0, .ref l0), (2, .int l2), (3, .int l3), (4, .int l4), (8, .int l8)]) (st2 := [.ref l0]) hm dX0_readWhile_187 rfl ?_
  refine mx_S.pu (pc2 := 190) (lv2 := [(0, .ref l0), (2, .int l2), (3, .int l3), (4, .int l4), (8, .int l8)]) (st2 := [.int l4, .ref l0]) hm dX0_readWhile_188 rfl ?_
  replace hf := mx_sv_el hf; obtain ⟨h1, e_h1, hf⟩ := hf
  refine sx_put hm dX0_readWhile_190 rs_RX0_132 ft_0_12 ⟨rfl, rfl⟩ (fun z => by cases z) e_h1 ?_
  clear e_h1
  refine mx_S.pu (pc2 := 194) (lv2 := [(0, .ref l0), (2, .int l2), (3, .int l3), (4, .int l4), (8, .int l8)]) (st2 := [.ref l0]) hm dX0_readWhile_193 rfl ?_
  refine mx_S.pu (pc2 := 195) (lv2 := [(0, .ref l0), (2, .int l2), (3, .int l3), (4, .int l4), (8, .int l8)]) (st2 := [.int l2, .ref l0]) hm dX0_readWhile_194 rfl ?_
  replace hf := mx_sv_el hf; obtain ⟨h2, e_h2, hf⟩ := hf
  refine sx_put hm dX0_readWhile_195 rs_RX0_129 ft_0_9 ⟨rfl, rfl⟩ (fun z => by cases z) e_h2 ?_
  clear e_h2
  refine mx_S.pu (pc2 := 199) (lv2 := [(0, .ref l0), (2, .int l2), (3, .int l3), (4, .int l4), (8, .int l8)]) (st2 := [.ref l0]) hm dX0_readWhile_198 rfl ?_
  refine mx_S.pu (pc2 := 200) (lv2 := [(0, .ref l0), (2, .int l2), (3, .int l3), (4, .int l4), (8, .int l8)]) (st2 := [.int l3, .ref l0]) hm dX0_readWhile_199 rfl ?_
  replace hf := mx_sv_el hf; obtain ⟨h3, e_h3, hf⟩ := hf
  refine sx_put hm dX0_readWhile_200 rs_RX0_207 ft_0_10 ⟨rfl, rfl⟩ (fun z => by cases z) e_h3 ?_
  clear e_h3
  refine mx_S.pu (pc2 := 205) (lv2 := [(0, .ref l0), (2, .int l2), (3, .int l3), (4, .int l4), (8, .int l8)]) (st2 := [.int l8]) hm dX0_readWhile_203 rfl ?_
  replace hf := mx_gd_el hf; obtain ⟨c4, hf⟩ := hf
  cases hf
  exact sx_ire hm dX0_readWhile_205 rfl (xbq_ok c4).1
set_option maxHeartbeats 4000000 in
set_option maxRecDepth 20000 in
theorem w_X0_readWhile_148_ok (X : Nat × (Nat → Int32)) {F L d : Nat} (hF : 428 + (d + 1) ≤ F) (hL : 12825 + (d + 1) * 29 ≤ L) (nn : Nat) {rc : tg_X0_readBlock} (hrc : hg5_X0_readBlock X d rc) : ∀ (k : Nat) (l0 : Nat) (l2 : Int32) (l3 : Int32) (l4 : Int32) (l8 : Int32) (l9 : Int32) (h : mx_H) (r : (Int32 × mx_H)), w_X0_readWhile_148 nn rc k l0 l2 l3 l4 l8 l9 h = some r → mx_S X F L 13 148 [(0, .ref l0), (2, .int l2), (3, .int l3), (4, .int l4), (8, .int l8), (9, .int l9)] [] h 0 0 (some (.int r.1), r.2, 0, 0) := by
  have hm : mx_mt 13 = some (yX0_readWhile, cX0_readWhile, 10, (some .boolean)) := mt_X0_readWhile
  intro k
  induction k with
  | zero => intro l0 l2 l3 l4 l8 l9 h r hf; cases hf
  | succ k ih =>
    intro l0 l2 l3 l4 l8 l9 h r hf
    unfold w_X0_readWhile_148 at hf
    refine mx_S.pu (pc2 := 150) (lv2 := [(0, .ref l0), (2, .int l2), (3, .int l3), (4, .int l4), (8, .int l8), (9, .int l9)]) (st2 := [.int l9]) hm dX0_readWhile_148 rfl ?_
    refine mx_S.pu (pc2 := 151) (lv2 := [(0, .ref l0), (2, .int l2), (3, .int l3), (4, .int l4), (8, .int l8), (9, .int l9)]) (st2 := [.ref l0, .int l9]) hm dX0_readWhile_150 rfl ?_
    replace hf := mx_sv_el hf; obtain ⟨v5, e_v5, hf⟩ := hf
    refine sx_get hm dX0_readWhile_151 rs_RX0_132 (xgi_el e_v5) ?_
    clear e_v5
    rcases mx_if_el hf with ⟨c15, hf⟩ | ⟨c15, hf⟩
    · refine sb_ic_ge hm dX0_readWhile_154 (tgt := 187) rfl (fun _ => ?_) (fun z => absurd c15 z)
      refine mx_S.ext [(0, .ref l0), (2, .int l2), (3, .int l3), (4, .int l4), (8, .int l8)] (mx_sub_pos [0, 1, 2, 3, 4] rfl (show ([0, 2, 3, 4, 8, 9] : List Nat).Nodup by decide)) ?_
      exact j_X0_readWhile_187_ok X hF hL nn hrc l0 l2 l3 l4 l8 h hf
    · refine sb_ic_ge hm dX0_readWhile_154 (tgt := 187) rfl (fun z => absurd z c15) (fun _ => ?_)
      refine mx_S.pu (pc2 := 159) (lv2 := [(0, .ref l0), (2, .int l2), (3, .int l3), (4, .int l4), (8, .int l8), (9, .int l9)]) (st2 := [.int l9]) hm dX0_readWhile_157 rfl ?_
      refine mx_S.pu (pc2 := 160) (lv2 := [(0, .ref l0), (2, .int l2), (3, .int l3), (4, .int l4), (8, .int l8), (9, .int l9)]) (st2 := [.ref l0, .int l9]) hm dX0_readWhile_159 rfl ?_
      replace hf := mx_sv_el hf; obtain ⟨v6, e_v6, hf⟩ := hf
      refine sx_get hm dX0_readWhile_160 rs_RX0_30 (xgr_el e_v6) ?_
      clear e_v6
      replace hf := mx_sv_el hf; obtain ⟨v7, e_v7, hf⟩ := hf
      refine sx_len hm dX0_readWhile_163 e_v7 ?_
      clear e_v7
      rcases mx_if_el hf with ⟨c14, hf⟩ | ⟨c14, hf⟩
      · refine sb_ic_ge hm dX0_readWhile_164 (tgt := 187) rfl (fun _ => ?_) (fun z => absurd c14 z)
        refine mx_S.ext [(0, .ref l0), (2, .int l2), (3, .int l3), (4, .int l4), (8, .int l8)] (mx_sub_pos [0, 1, 2, 3, 4] rfl (show ([0, 2, 3, 4, 8, 9] : List Nat).Nodup by decide)) ?_
        exact j_X0_readWhile_187_ok X hF hL nn hrc l0 l2 l3 l4 l8 h hf
      · refine sb_ic_ge hm dX0_readWhile_164 (tgt := 187) rfl (fun z => absurd z c14) (fun _ => ?_)
        refine mx_S.pu (pc2 := 168) (lv2 := [(0, .ref l0), (2, .int l2), (3, .int l3), (4, .int l4), (8, .int l8), (9, .int l9)]) (st2 := [.ref l0]) hm dX0_readWhile_167 rfl ?_
        replace hf := mx_sv_el hf; obtain ⟨v8, e_v8, hf⟩ := hf
        refine sx_get hm dX0_readWhile_168 rs_RX0_16 (xgr_el e_v8) ?_
        clear e_v8
        refine mx_S.pu (pc2 := 172) (lv2 := [(0, .ref l0), (2, .int l2), (3, .int l3), (4, .int l4), (8, .int l8), (9, .int l9)]) (st2 := [.ref l0, .ref v8]) hm dX0_readWhile_171 rfl ?_
        replace hf := mx_sv_el hf; obtain ⟨v9, e_v9, hf⟩ := hf
        refine sx_get hm dX0_readWhile_172 rs_RX0_30 (xgr_el e_v9) ?_
        clear e_v9
        refine mx_S.pu (pc2 := 177) (lv2 := [(0, .ref l0), (2, .int l2), (3, .int l3), (4, .int l4), (8, .int l8), (9, .int l9)]) (st2 := [.int l9, .ref v9, .ref v8]) hm dX0_readWhile_175 rfl ?_
        replace hf := mx_sv_el hf; obtain ⟨v10, e_v10, hf⟩ := hf
        refine sx_ald hm dX0_readWhile_177 e_v10 ?_
        clear e_v10
        replace hf := mx_gd_el hf; obtain ⟨c11, hf⟩ := hf
        replace hf := mx_sv_el hf; obtain ⟨u12, e_u12, hf⟩ := hf
        refine sx_cv hm dX0_readWhile_178 rs_RX0_201 mt_X1_aimHere [.int v10] [] (b := v8) (ci := 1) rfl rfl rfl c11 (Nat.le_of_ble_eq_true rfl) (Nat.le_of_ble_eq_true rfl) (by omega) (by omega) (f_X1_aimHere_ok X (by omega) (by omega) nn v8 v10 h e_u12) ?_
        clear e_u12
        show mx_S X F L 13 181 [(0, .ref l0), (2, .int l2), (3, .int l3), (4, .int l4), (8, .int l8), (9, .int l9)] [] u12 0 0 (some (.int r.1), r.2, 0, 0)
        replace hf := xl_el hf; obtain ⟨v13, e_v13, hf⟩ := hf
        refine mx_S.pu (pc2 := 184) (lv2 := [(9, .int v13), (0, .ref l0), (2, .int l2), (3, .int l3), (4, .int l4), (8, .int l8)]) (st2 := []) hm dX0_readWhile_181 (by rw [← e_v13]; rfl) ?_
        clear e_v13
        refine mx_S.pu (pc2 := 148) (lv2 := [(9, .int v13), (0, .ref l0), (2, .int l2), (3, .int l3), (4, .int l4), (8, .int l8)]) (st2 := []) hm dX0_readWhile_184 rfl ?_
        refine mx_S.ext [(0, .ref l0), (2, .int l2), (3, .int l3), (4, .int l4), (8, .int l8), (9, .int v13)] (mx_sub_pos [1, 2, 3, 4, 5, 0] rfl (show ([9, 0, 2, 3, 4, 8] : List Nat).Nodup by decide)) ?_
        exact ih l0 l2 l3 l4 l8 v13 u12 _ hf
set_option maxHeartbeats 4000000 in
set_option maxRecDepth 20000 in
theorem j_X0_readWhile_128_ok (X : Nat × (Nat → Int32)) {F L d : Nat} (hF : 428 + (d + 1) ≤ F) (hL : 12825 + (d + 1) * 29 ≤ L) (nn : Nat) {rc : tg_X0_readBlock} (hrc : hg5_X0_readBlock X d rc) (l0 : Nat) (l2 : Int32) (l3 : Int32) (l4 : Int32) (l5 : Int32) (l7 : Int32) (s0 : Int32) (h : mx_H) {r : (Int32 × mx_H)} (hf : j_X0_readWhile_128 nn rc l0 l2 l3 l4 l5 l7 s0 h = some r) : mx_S X F L 13 128 [(0, .ref l0), (2, .int l2), (3, .int l3), (4, .int l4), (5, .int l5), (7, .int l7)] [.int s0] h 0 0 (some (.int r.1), r.2, 0, 0) := by
  have hm : mx_mt 13 = some (yX0_readWhile, cX0_readWhile, 10, (some .boolean)) := mt_X0_readWhile
  unfold j_X0_readWhile_128 at hf
  refine mx_S.pu (pc2 := 130) (lv2 := [(8, .int s0), (0, .ref l0), (2, .int l2), (3, .int l3), (4, .int l4), (5, .int l5), (7, .int l7)]) (st2 := []) hm dX0_readWhile_128 rfl ?_
  refine mx_S.pu (pc2 := 132) (lv2 := [(8, .int s0), (0, .ref l0), (2, .int l2), (3, .int l3), (4, .int l4), (5, .int l5), (7, .int l7)]) (st2 := [.int l5]) hm dX0_readWhile_130 rfl ?_
  rcases mx_if_el hf with ⟨c19, hf⟩ | ⟨c19, hf⟩
  · refine sb_if_ne hm dX0_readWhile_132 (tgt := 144) rfl (fun _ => ?_) (fun z => absurd c19 z)
    refine mx_S.pu (pc2 := 146) (lv2 := [(8, .int s0), (0, .ref l0), (2, .int l2), (3, .int l3), (4, .int l4), (5, .int l5), (7, .int l7)]) (st2 := [.int l4]) hm dX0_readWhile_144 rfl ?_
    refine mx_S.pu (pc2 := 148) (lv2 := [(9, .int l4), (8, .int s0), (0, .ref l0), (2, .int l2), (3, .int l3), (4, .int l4), (5, .int l5), (7, .int l7)]) (st2 := []) hm dX0_readWhile_146 rfl ?_
    refine mx_S.ext [(0, .ref l0), (2, .int l2), (3, .int l3), (4, .int l4), (8, .int s0), (9, .int l4)] (mx_sub_pos [2, 3, 4, 5, 1, 0] rfl (show ([9, 8, 0, 2, 3, 4, 5, 7] : List Nat).Nodup by decide)) ?_
    exact w_X0_readWhile_148_ok X hF hL nn hrc nn l0 l2 l3 l4 s0 l4 h _ hf
  · refine sb_if_ne hm dX0_readWhile_132 (tgt := 144) rfl (fun z => absurd z c19) (fun _ => ?_)
    refine mx_S.pu (pc2 := 136) (lv2 := [(8, .int s0), (0, .ref l0), (2, .int l2), (3, .int l3), (4, .int l4), (5, .int l5), (7, .int l7)]) (st2 := [.ref l0]) hm dX0_readWhile_135 rfl ?_
    replace hf := mx_sv_el hf; obtain ⟨v16, e_v16, hf⟩ := hf
    refine sx_get hm dX0_readWhile_136 rs_RX0_16 (xgr_el e_v16) ?_
    clear e_v16
    refine mx_S.pu (pc2 := 141) (lv2 := [(8, .int s0), (0, .ref l0), (2, .int l2), (3, .int l3), (4, .int l4), (5, .int l5), (7, .int l7)]) (st2 := [.int l7, .ref v16]) hm dX0_readWhile_139 rfl ?_
    replace hf := mx_gd_el hf; obtain ⟨c17, hf⟩ := hf
    replace hf := mx_sv_el hf; obtain ⟨u18, e_u18, hf⟩ := hf
    refine sx_cv hm dX0_readWhile_141 rs_RX0_201 mt_X1_aimHere [.int l7] [] (b := v16) (ci := 1) rfl rfl rfl c17 (Nat.le_of_ble_eq_true rfl) (Nat.le_of_ble_eq_true rfl) (by omega) (by omega) (f_X1_aimHere_ok X (by omega) (by omega) nn v16 l7 h e_u18) ?_
    clear e_u18
    show mx_S X F L 13 144 [(8, .int s0), (0, .ref l0), (2, .int l2), (3, .int l3), (4, .int l4), (5, .int l5), (7, .int l7)] [] u18 0 0 (some (.int r.1), r.2, 0, 0)
    refine mx_S.pu (pc2 := 146) (lv2 := [(8, .int s0), (0, .ref l0), (2, .int l2), (3, .int l3), (4, .int l4), (5, .int l5), (7, .int l7)]) (st2 := [.int l4]) hm dX0_readWhile_144 rfl ?_
    refine mx_S.pu (pc2 := 148) (lv2 := [(9, .int l4), (8, .int s0), (0, .ref l0), (2, .int l2), (3, .int l3), (4, .int l4), (5, .int l5), (7, .int l7)]) (st2 := []) hm dX0_readWhile_146 rfl ?_
    refine mx_S.ext [(0, .ref l0), (2, .int l2), (3, .int l3), (4, .int l4), (8, .int s0), (9, .int l4)] (mx_sub_pos [2, 3, 4, 5, 1, 0] rfl (show ([9, 8, 0, 2, 3, 4, 5, 7] : List Nat).Nodup by decide)) ?_
    exact w_X0_readWhile_148_ok X hF hL nn hrc nn l0 l2 l3 l4 s0 l4 u18 _ hf
set_option maxHeartbeats 4000000 in
set_option maxRecDepth 20000 in
theorem j_X0_readWhile_123_ok (X : Nat × (Nat → Int32)) {F L d : Nat} (hF : 428 + (d + 1) ≤ F) (hL : 12825 + (d + 1) * 29 ≤ L) (nn : Nat) {rc : tg_X0_readBlock} (hrc : hg5_X0_readBlock X d rc) (l0 : Nat) (l2 : Int32) (l3 : Int32) (l4 : Int32) (l5 : Int32) (l7 : Int32) (h : mx_H) {r : (Int32 × mx_H)} (hf : j_X0_readWhile_123 nn rc l0 l2 l3 l4 l5 l7 h = some r) : mx_S X F L 13 123 [(0, .ref l0), (2, .int l2), (3, .int l3), (4, .int l4), (5, .int l5), (7, .int l7)] [] h 0 0 (some (.int r.1), r.2, 0, 0) := by
  have hm : mx_mt 13 = some (yX0_readWhile, cX0_readWhile, 10, (some .boolean)) := mt_X0_readWhile
  unfold j_X0_readWhile_123 at hf
  refine sx_ic (v := 1) hm dX0_readWhile_123 (by decide) ?_
  refine mx_S.pu (pc2 := 128) (lv2 := [(0, .ref l0), (2, .int l2), (3, .int l3), (4, .int l4), (5, .int l5), (7, .int l7)]) (st2 := [.int 1]) hm dX0_readWhile_124 rfl ?_
  exact j_X0_readWhile_128_ok X hF hL nn hrc l0 l2 l3 l4 l5 l7 1 h hf
set_option maxHeartbeats 4000000 in
set_option maxRecDepth 20000 in
theorem j_X0_readWhile_109_ok (X : Nat × (Nat → Int32)) {F L d : Nat} (hF : 428 + (d + 1) ≤ F) (hL : 12825 + (d + 1) * 29 ≤ L) (nn : Nat) {rc : tg_X0_readBlock} (hrc : hg5_X0_readBlock X d rc) (l0 : Nat) (l2 : Int32) (l3 : Int32) (l4 : Int32) (l5 : Int32) (l7 : Int32) (h : mx_H) {r : (Int32 × mx_H)} (hf : j_X0_readWhile_109 nn rc l0 l2 l3 l4 l5 l7 h = some r) : mx_S X F L 13 109 [(0, .ref l0), (2, .int l2), (3, .int l3), (4, .int l4), (5, .int l5), (7, .int l7)] [] h 0 0 (some (.int r.1), r.2, 0, 0) := by
  have hm : mx_mt 13 = some (yX0_readWhile, cX0_readWhile, 10, (some .boolean)) := mt_X0_readWhile
  unfold j_X0_readWhile_109 at hf
  refine mx_S.pu (pc2 := 111) (lv2 := [(0, .ref l0), (2, .int l2), (3, .int l3), (4, .int l4), (5, .int l5), (7, .int l7)]) (st2 := [.int l5]) hm dX0_readWhile_109 rfl ?_
  rcases mx_if_el hf with ⟨c22, hf⟩ | ⟨c22, hf⟩
  · refine sb_if_eq hm dX0_readWhile_111 (tgt := 123) rfl (fun _ => ?_) (fun z => absurd c22 z)
    exact j_X0_readWhile_123_ok X hF hL nn hrc l0 l2 l3 l4 l5 l7 h hf
  · refine sb_if_eq hm dX0_readWhile_111 (tgt := 123) rfl (fun z => absurd z c22) (fun _ => ?_)
    refine mx_S.pu (pc2 := 115) (lv2 := [(0, .ref l0), (2, .int l2), (3, .int l3), (4, .int l4), (5, .int l5), (7, .int l7)]) (st2 := [.ref l0]) hm dX0_readWhile_114 rfl ?_
    replace hf := mx_sv_el hf; obtain ⟨v20, e_v20, hf⟩ := hf
    refine sx_get hm dX0_readWhile_115 rs_RX0_132 (xgi_el e_v20) ?_
    clear e_v20
    refine mx_S.pu (pc2 := 120) (lv2 := [(0, .ref l0), (2, .int l2), (3, .int l3), (4, .int l4), (5, .int l5), (7, .int l7)]) (st2 := [.int l4, .int v20]) hm dX0_readWhile_118 rfl ?_
    rcases mx_if_el hf with ⟨c21, hf⟩ | ⟨c21, hf⟩
    · refine sb_ic_le hm dX0_readWhile_120 (tgt := 127) rfl (fun _ => ?_) (fun z => absurd c21 z)
      refine sx_ic (v := 0) hm dX0_readWhile_127 (by decide) ?_
      exact j_X0_readWhile_128_ok X hF hL nn hrc l0 l2 l3 l4 l5 l7 0 h hf
    · refine sb_ic_le hm dX0_readWhile_120 (tgt := 127) rfl (fun z => absurd z c21) (fun _ => ?_)
      exact j_X0_readWhile_123_ok X hF hL nn hrc l0 l2 l3 l4 l5 l7 h hf
set_option maxHeartbeats 4000000 in
set_option maxRecDepth 20000 in
theorem j_X0_readWhile_68_ok (X : Nat × (Nat → Int32)) {F L d : Nat} (hF : 428 + (d + 1) ≤ F) (hL : 12825 + (d + 1) * 29 ≤ L) (nn : Nat) {rc : tg_X0_readBlock} (hrc : hg5_X0_readBlock X d rc) (l0 : Nat) (l1 : Int32) (l2 : Int32) (l3 : Int32) (l4 : Int32) (l5 : Int32) (l6 : Int32) (l7 : Int32) (h : mx_H) {r : (Int32 × mx_H)} (hf : j_X0_readWhile_68 nn rc l0 l1 l2 l3 l4 l5 l6 l7 h = some r) : mx_S X F L 13 68 [(0, .ref l0), (1, .int l1), (2, .int l2), (3, .int l3), (4, .int l4), (5, .int l5), (6, .int l6), (7, .int l7)] [] h 0 0 (some (.int r.1), r.2, 0, 0) := by
  have hm : mx_mt 13 = some (yX0_readWhile, cX0_readWhile, 10, (some .boolean)) := mt_X0_readWhile
  unfold j_X0_readWhile_68 at hf
  refine mx_S.pu (pc2 := 69) (lv2 := [(0, .ref l0), (1, .int l1), (2, .int l2), (3, .int l3), (4, .int l4), (5, .int l5), (6, .int l6), (7, .int l7)]) (st2 := [.ref l0]) hm dX0_readWhile_68 rfl ?_
  refine mx_S.pu (pc2 := 71) (lv2 := [(0, .ref l0), (1, .int l1), (2, .int l2), (3, .int l3), (4, .int l4), (5, .int l5), (6, .int l6), (7, .int l7)]) (st2 := [.int l6, .ref l0]) hm dX0_readWhile_69 rfl ?_
  replace hf := mx_sv_el hf; obtain ⟨h23, e_h23, hf⟩ := hf
  refine sx_put hm dX0_readWhile_71 rs_RX0_129 ft_0_9 ⟨rfl, rfl⟩ (fun z => by cases z) e_h23 ?_
  clear e_h23
  refine mx_S.pu (pc2 := 75) (lv2 := [(0, .ref l0), (1, .int l1), (2, .int l2), (3, .int l3), (4, .int l4), (5, .int l5), (6, .int l6), (7, .int l7)]) (st2 := [.ref l0]) hm dX0_readWhile_74 rfl ?_
  refine mx_S.pu (pc2 := 76) (lv2 := [(0, .ref l0), (1, .int l1), (2, .int l2), (3, .int l3), (4, .int l4), (5, .int l5), (6, .int l6), (7, .int l7)]) (st2 := [.ref l0, .ref l0]) hm dX0_readWhile_75 rfl ?_
  replace hf := mx_sv_el hf; obtain ⟨v24, e_v24, hf⟩ := hf
  refine sx_get hm dX0_readWhile_76 rs_RX0_16 (xgr_el e_v24) ?_
  clear e_v24
  replace hf := mx_sv_el hf; obtain ⟨v25, e_v25, hf⟩ := hf
  refine sx_get hm dX0_readWhile_79 rs_RX0_155 (xgi_el e_v25) ?_
  clear e_v25
  replace hf := mx_sv_el hf; obtain ⟨h26, e_h26, hf⟩ := hf
  refine sx_put hm dX0_readWhile_82 rs_RX0_207 ft_0_10 ⟨rfl, rfl⟩ (fun z => by cases z) e_h26 ?_
  clear e_h26
  refine mx_S.pu (pc2 := 86) (lv2 := [(0, .ref l0), (1, .int l1), (2, .int l2), (3, .int l3), (4, .int l4), (5, .int l5), (6, .int l6), (7, .int l7)]) (st2 := [.ref l0]) hm dX0_readWhile_85 rfl ?_
  refine mx_S.pu (pc2 := 87) (lv2 := [(0, .ref l0), (1, .int l1), (2, .int l2), (3, .int l3), (4, .int l4), (5, .int l5), (6, .int l6), (7, .int l7)]) (st2 := [.int l1, .ref l0]) hm dX0_readWhile_86 rfl ?_
  replace hf := mx_gd_el hf; obtain ⟨c27, hf⟩ := hf
  replace hf := mx_sv_el hf; obtain ⟨u28, e_u28, hf⟩ := hf
  refine sx_cv hm dX0_readWhile_87 rs_RX0_198 mt_X0_readPart [.int l1] [] (b := l0) (ci := 0) rfl rfl rfl c27 (Nat.le_of_ble_eq_true rfl) (Nat.le_of_ble_eq_true rfl) (by omega) (by omega) (hrc.2.1 (by omega) (by omega) l0 l1 h26 e_u28) ?_
  clear e_u28
  show mx_S X F L 13 90 [(0, .ref l0), (1, .int l1), (2, .int l2), (3, .int l3), (4, .int l4), (5, .int l5), (6, .int l6), (7, .int l7)] [.int u28.1] u28.2 0 0 (some (.int r.1), r.2, 0, 0)
  rcases mx_if_el hf with ⟨c34, hf⟩ | ⟨c34, hf⟩
  · refine sb_if_eq hm dX0_readWhile_90 (tgt := 109) rfl (fun _ => ?_) (fun z => absurd c34 z)
    refine mx_S.ext [(0, .ref l0), (2, .int l2), (3, .int l3), (4, .int l4), (5, .int l5), (7, .int l7)] (mx_sub_pos [0, 2, 3, 4, 5, 7] rfl (show ([0, 1, 2, 3, 4, 5, 6, 7] : List Nat).Nodup by decide)) ?_
    exact j_X0_readWhile_109_ok X hF hL nn hrc l0 l2 l3 l4 l5 l7 u28.2 hf
  · refine sb_if_eq hm dX0_readWhile_90 (tgt := 109) rfl (fun z => absurd z c34) (fun _ => ?_)
    refine mx_S.pu (pc2 := 94) (lv2 := [(0, .ref l0), (1, .int l1), (2, .int l2), (3, .int l3), (4, .int l4), (5, .int l5), (6, .int l6), (7, .int l7)]) (st2 := [.ref l0]) hm dX0_readWhile_93 rfl ?_
    replace hf := mx_sv_el hf; obtain ⟨v29, e_v29, hf⟩ := hf
    refine sx_get hm dX0_readWhile_94 rs_RX0_16 (xgr_el e_v29) ?_
    clear e_v29
    refine mx_S.pu (pc2 := 99) (lv2 := [(0, .ref l0), (1, .int l1), (2, .int l2), (3, .int l3), (4, .int l4), (5, .int l5), (6, .int l6), (7, .int l7)]) (st2 := [.int l6, .ref v29]) hm dX0_readWhile_97 rfl ?_
    refine mx_S.pu (pc2 := 100) (lv2 := [(0, .ref l0), (1, .int l1), (2, .int l2), (3, .int l3), (4, .int l4), (5, .int l5), (6, .int l6), (7, .int l7)]) (st2 := [.ref l0, .int l6, .ref v29]) hm dX0_readWhile_99 rfl ?_
    replace hf := mx_sv_el hf; obtain ⟨v30, e_v30, hf⟩ := hf
    refine sx_get hm dX0_readWhile_100 rs_RX0_16 (xgr_el e_v30) ?_
    clear e_v30
    replace hf := mx_sv_el hf; obtain ⟨v31, e_v31, hf⟩ := hf
    refine sx_get hm dX0_readWhile_103 rs_RX0_155 (xgi_el e_v31) ?_
    clear e_v31
    replace hf := mx_gd_el hf; obtain ⟨c32, hf⟩ := hf
    replace hf := mx_sv_el hf; obtain ⟨u33, e_u33, hf⟩ := hf
    refine sx_cv hm dX0_readWhile_106 rs_RX0_216 mt_X1_jumpBack [.int l6, .int v31] [] (b := v29) (ci := 1) rfl rfl rfl c32 (Nat.le_of_ble_eq_true rfl) (Nat.le_of_ble_eq_true rfl) (by omega) (by omega) (f_X1_jumpBack_ok X (by omega) (by omega) nn v29 l6 v31 u28.2 e_u33) ?_
    clear e_u33
    show mx_S X F L 13 109 [(0, .ref l0), (1, .int l1), (2, .int l2), (3, .int l3), (4, .int l4), (5, .int l5), (6, .int l6), (7, .int l7)] [] u33 0 0 (some (.int r.1), r.2, 0, 0)
    refine mx_S.ext [(0, .ref l0), (2, .int l2), (3, .int l3), (4, .int l4), (5, .int l5), (7, .int l7)] (mx_sub_pos [0, 2, 3, 4, 5, 7] rfl (show ([0, 1, 2, 3, 4, 5, 6, 7] : List Nat).Nodup by decide)) ?_
    exact j_X0_readWhile_109_ok X hF hL nn hrc l0 l2 l3 l4 l5 l7 u33 hf
set_option maxHeartbeats 4000000 in
set_option maxRecDepth 20000 in
theorem o_X0_readWhile_ok (X : Nat × (Nat → Int32)) {F L d : Nat} (hF : 428 + (d + 1) ≤ F) (hL : 12825 + (d + 1) * 29 ≤ L) (nn : Nat) {rc : tg_X0_readBlock} (hrc : hg5_X0_readBlock X d rc) (a0 : Nat) (a1 : Int32) (h : mx_H) {r : (Int32 × mx_H)} (hf : o_X0_readWhile nn rc a0 a1 h = some r) : mx_R X F L 13 [.ref a0, .int a1] h (some (.int r.1), r.2, 0, 0) := by
  have hm : mx_mt 13 = some (yX0_readWhile, cX0_readWhile, 10, (some .boolean)) := mt_X0_readWhile
  show mx_S X F L 13 0 [(0, .ref a0), (1, .int a1)] [] h 0 0 (some (.int r.1), r.2, 0, 0)
  unfold o_X0_readWhile at hf
  refine mx_S.pu (pc2 := 1) (lv2 := [(0, .ref a0), (1, .int a1)]) (st2 := [.ref a0]) hm dX0_readWhile_0 rfl ?_
  replace hf := mx_sv_el hf; obtain ⟨v35, e_v35, hf⟩ := hf
  refine sx_get hm dX0_readWhile_1 rs_RX0_129 (xgi_el e_v35) ?_
  clear e_v35
  refine mx_S.pu (pc2 := 5) (lv2 := [(2, .int v35), (0, .ref a0), (1, .int a1)]) (st2 := []) hm dX0_readWhile_4 rfl ?_
  refine mx_S.pu (pc2 := 6) (lv2 := [(2, .int v35), (0, .ref a0), (1, .int a1)]) (st2 := [.ref a0]) hm dX0_readWhile_5 rfl ?_
  replace hf := mx_sv_el hf; obtain ⟨v36, e_v36, hf⟩ := hf
  refine sx_get hm dX0_readWhile_6 rs_RX0_207 (xgi_el e_v36) ?_
  clear e_v36
  refine mx_S.pu (pc2 := 10) (lv2 := [(3, .int v36), (2, .int v35), (0, .ref a0), (1, .int a1)]) (st2 := []) hm dX0_readWhile_9 rfl ?_
  refine mx_S.pu (pc2 := 11) (lv2 := [(3, .int v36), (2, .int v35), (0, .ref a0), (1, .int a1)]) (st2 := [.ref a0]) hm dX0_readWhile_10 rfl ?_
  replace hf := mx_sv_el hf; obtain ⟨v37, e_v37, hf⟩ := hf
  refine sx_get hm dX0_readWhile_11 rs_RX0_132 (xgi_el e_v37) ?_
  clear e_v37
  refine mx_S.pu (pc2 := 16) (lv2 := [(4, .int v37), (3, .int v36), (2, .int v35), (0, .ref a0), (1, .int a1)]) (st2 := []) hm dX0_readWhile_14 rfl ?_
  refine mx_S.pu (pc2 := 17) (lv2 := [(4, .int v37), (3, .int v36), (2, .int v35), (0, .ref a0), (1, .int a1)]) (st2 := [.ref a0]) hm dX0_readWhile_16 rfl ?_
  replace hf := mx_sv_el hf; obtain ⟨v38, e_v38, hf⟩ := hf
  refine sx_get hm dX0_readWhile_17 rs_RX0_34 (xgr_el e_v38) ?_
  clear e_v38
  replace hf := mx_gd_el hf; obtain ⟨c39, hf⟩ := hf
  replace hf := mx_sv_el hf; obtain ⟨u40, e_u40, hf⟩ := hf
  refine sx_cv hm dX0_readWhile_20 rs_RX0_210 mt_X9_isWhileTrue [] [] (b := v38) (ci := 9) rfl rfl rfl c39 (Nat.le_of_ble_eq_true rfl) (Nat.le_of_ble_eq_true rfl) (by omega) (by omega) (f_X9_isWhileTrue_ok X (by omega) (by omega) nn v38 h e_u40) ?_
  clear e_u40
  show mx_S X F L 13 23 [(4, .int v37), (3, .int v36), (2, .int v35), (0, .ref a0), (1, .int a1)] [.int u40.1] u40.2 0 0 (some (.int r.1), r.2, 0, 0)
  refine mx_S.pu (pc2 := 25) (lv2 := [(5, .int u40.1), (4, .int v37), (3, .int v36), (2, .int v35), (0, .ref a0), (1, .int a1)]) (st2 := []) hm dX0_readWhile_23 rfl ?_
  refine mx_S.pu (pc2 := 26) (lv2 := [(5, .int u40.1), (4, .int v37), (3, .int v36), (2, .int v35), (0, .ref a0), (1, .int a1)]) (st2 := [.ref a0]) hm dX0_readWhile_25 rfl ?_
  replace hf := mx_sv_el hf; obtain ⟨v41, e_v41, hf⟩ := hf
  refine sx_get hm dX0_readWhile_26 rs_RX0_16 (xgr_el e_v41) ?_
  clear e_v41
  replace hf := mx_sv_el hf; obtain ⟨v42, e_v42, hf⟩ := hf
  refine sx_get hm dX0_readWhile_29 rs_RX0_213 (xgi_el e_v42) ?_
  clear e_v42
  refine mx_S.pu (pc2 := 34) (lv2 := [(6, .int v42), (5, .int u40.1), (4, .int v37), (3, .int v36), (2, .int v35), (0, .ref a0), (1, .int a1)]) (st2 := []) hm dX0_readWhile_32 rfl ?_
  refine sx_ic (v := (-1)) hm dX0_readWhile_34 (by decide) ?_
  refine mx_S.pu (pc2 := 37) (lv2 := [(7, .int (-1)), (6, .int v42), (5, .int u40.1), (4, .int v37), (3, .int v36), (2, .int v35), (0, .ref a0), (1, .int a1)]) (st2 := []) hm dX0_readWhile_35 rfl ?_
  refine mx_S.pu (pc2 := 39) (lv2 := [(7, .int (-1)), (6, .int v42), (5, .int u40.1), (4, .int v37), (3, .int v36), (2, .int v35), (0, .ref a0), (1, .int a1)]) (st2 := [.int u40.1]) hm dX0_readWhile_37 rfl ?_
  rcases mx_if_el hf with ⟨c50, hf⟩ | ⟨c50, hf⟩
  · refine sb_if_eq hm dX0_readWhile_39 (tgt := 58) rfl (fun _ => ?_) (fun z => absurd c50 z)
    refine mx_S.pu (pc2 := 59) (lv2 := [(7, .int (-1)), (6, .int v42), (5, .int u40.1), (4, .int v37), (3, .int v36), (2, .int v35), (0, .ref a0), (1, .int a1)]) (st2 := [.ref a0]) hm dX0_readWhile_58 rfl ?_
    replace hf := mx_sv_el hf; obtain ⟨v43, e_v43, hf⟩ := hf
    refine sx_get hm dX0_readWhile_59 rs_RX0_61 (xgr_el e_v43) ?_
    clear e_v43
    refine mx_S.pu (pc2 := 63) (lv2 := [(7, .int (-1)), (6, .int v42), (5, .int u40.1), (4, .int v37), (3, .int v36), (2, .int v35), (0, .ref a0), (1, .int a1)]) (st2 := [.int a1, .ref v43]) hm dX0_readWhile_62 rfl ?_
    replace hf := mx_gd_el hf; obtain ⟨c44, hf⟩ := hf
    replace hf := mx_sv_el hf; obtain ⟨u45, e_u45, hf⟩ := hf
    refine sx_cv hm dX0_readWhile_63 rs_RX0_195 mt_X10_readCondition [.int a1] [] (b := v43) (ci := 10) rfl rfl rfl c44 (Nat.le_of_ble_eq_true rfl) (Nat.le_of_ble_eq_true rfl) (by omega) (by omega) (f_X10_readCondition_ok X (by omega) (by omega) nn v43 a1 u40.2 e_u45) ?_
    clear e_u45
    show mx_S X F L 13 66 [(7, .int (-1)), (6, .int v42), (5, .int u40.1), (4, .int v37), (3, .int v36), (2, .int v35), (0, .ref a0), (1, .int a1)] [.int u45.1] u45.2 0 0 (some (.int r.1), r.2, 0, 0)
    refine mx_S.pu (pc2 := 68) (lv2 := [(7, .int u45.1), (6, .int v42), (5, .int u40.1), (4, .int v37), (3, .int v36), (2, .int v35), (0, .ref a0), (1, .int a1)]) (st2 := []) hm dX0_readWhile_66 rfl ?_
    refine mx_S.ext [(0, .ref a0), (1, .int a1), (2, .int v35), (3, .int v36), (4, .int v37), (5, .int u40.1), (6, .int v42), (7, .int u45.1)] (mx_sub_pos [6, 7, 5, 4, 3, 2, 1, 0] rfl (show ([7, 6, 5, 4, 3, 2, 0, 1] : List Nat).Nodup by decide)) ?_
    exact j_X0_readWhile_68_ok X hF hL nn hrc a0 a1 v35 v36 v37 u40.1 v42 u45.1 u45.2 hf
  · refine sb_if_eq hm dX0_readWhile_39 (tgt := 58) rfl (fun z => absurd z c50) (fun _ => ?_)
    refine mx_S.pu (pc2 := 43) (lv2 := [(7, .int (-1)), (6, .int v42), (5, .int u40.1), (4, .int v37), (3, .int v36), (2, .int v35), (0, .ref a0), (1, .int a1)]) (st2 := [.ref a0]) hm dX0_readWhile_42 rfl ?_
    replace hf := mx_sv_el hf; obtain ⟨v46, e_v46, hf⟩ := hf
    refine sx_get hm dX0_readWhile_43 rs_RX0_34 (xgr_el e_v46) ?_
    clear e_v46
    refine mx_S.pu (pc2 := 47) (lv2 := [(7, .int (-1)), (6, .int v42), (5, .int u40.1), (4, .int v37), (3, .int v36), (2, .int v35), (0, .ref a0), (1, .int a1)]) (st2 := [.ref v46, .ref v46]) hm dX0_readWhile_46 rfl ?_
    replace hf := mx_sv_el hf; obtain ⟨v47, e_v47, hf⟩ := hf
    refine sx_get hm dX0_readWhile_47 rs_RX0_138 (xgi_el e_v47) ?_
    clear e_v47
    refine sx_ic (v := 4) hm dX0_readWhile_50 (by decide) ?_
    replace hf := xl_el hf; obtain ⟨v48, e_v48, hf⟩ := hf
    refine mx_S.pu (pc2 := 52) (lv2 := [(7, .int (-1)), (6, .int v42), (5, .int u40.1), (4, .int v37), (3, .int v36), (2, .int v35), (0, .ref a0), (1, .int a1)]) (st2 := [.int v48, .ref v46]) hm dX0_readWhile_51 (by rw [← e_v48]; rfl) ?_
    clear e_v48
    replace hf := mx_sv_el hf; obtain ⟨h49, e_h49, hf⟩ := hf
    refine sx_put hm dX0_readWhile_52 rs_RX0_138 ft_9_10 ⟨rfl, rfl⟩ (fun z => by cases z) e_h49 ?_
    clear e_h49
    refine mx_S.pu (pc2 := 68) (lv2 := [(7, .int (-1)), (6, .int v42), (5, .int u40.1), (4, .int v37), (3, .int v36), (2, .int v35), (0, .ref a0), (1, .int a1)]) (st2 := []) hm dX0_readWhile_55 rfl ?_
    refine mx_S.ext [(0, .ref a0), (1, .int a1), (2, .int v35), (3, .int v36), (4, .int v37), (5, .int u40.1), (6, .int v42), (7, .int (-1))] (mx_sub_pos [6, 7, 5, 4, 3, 2, 1, 0] rfl (show ([7, 6, 5, 4, 3, 2, 0, 1] : List Nat).Nodup by decide)) ?_
    exact j_X0_readWhile_68_ok X hF hL nn hrc a0 a1 v35 v36 v37 u40.1 v42 (-1) h49 hf
set_option maxHeartbeats 4000000 in
set_option maxRecDepth 20000 in
theorem j_X0_readTry_228_ok (X : Nat × (Nat → Int32)) {F L d : Nat} (hF : 428 + (d + 1) ≤ F) (hL : 12825 + (d + 1) * 29 ≤ L) (nn : Nat) {rc : tg_X0_readBlock} (hrc : hg5_X0_readBlock X d rc) (l3 : Int32) (l9 : Int32) (h : mx_H) {r : (Int32 × mx_H)} (hf : j_X0_readTry_228 nn rc l3 l9 h = some r) : mx_S X F L 15 228 [(3, .int l3), (9, .int l9)] [] h 0 0 (some (.int r.1), r.2, 0, 0) := by
  have hm : mx_mt 15 = some (yX0_readTry, cX0_readTry, 10, (some .boolean)) := mt_X0_readTry
  unfold j_X0_readTry_228 at hf
  refine mx_S.pu (pc2 := 229) (lv2 := [(3, .int l3), (9, .int l9)]) (st2 := [.int l3]) hm dX0_readTry_228 rfl ?_
  rcases mx_if_el hf with ⟨c2, hf⟩ | ⟨c2, hf⟩
  · refine sb_if_ne hm dX0_readTry_229 (tgt := 237) rfl (fun _ => ?_) (fun z => absurd c2 z)
    refine sx_ic (v := 1) hm dX0_readTry_237 (by decide) ?_
    refine mx_S.pu (pc2 := 242) (lv2 := [(3, .int l3), (9, .int l9)]) (st2 := [.int 1]) hm dX0_readTry_238 rfl ?_
    cases hf
    exact sx_ire hm dX0_readTry_242 rfl (by decide)
  · refine sb_if_ne hm dX0_readTry_229 (tgt := 237) rfl (fun z => absurd z c2) (fun _ => ?_)
    refine mx_S.pu (pc2 := 234) (lv2 := [(3, .int l3), (9, .int l9)]) (st2 := [.int l9]) hm dX0_readTry_232 rfl ?_
    rcases mx_if_el hf with ⟨c1, hf⟩ | ⟨c1, hf⟩
    · refine sb_if_eq hm dX0_readTry_234 (tgt := 241) rfl (fun _ => ?_) (fun z => absurd c1 z)
      refine sx_ic (v := 0) hm dX0_readTry_241 (by decide) ?_
      cases hf
      exact sx_ire hm dX0_readTry_242 rfl (by decide)
    · refine sb_if_eq hm dX0_readTry_234 (tgt := 241) rfl (fun z => absurd z c1) (fun _ => ?_)
      refine sx_ic (v := 1) hm dX0_readTry_237 (by decide) ?_
      refine mx_S.pu (pc2 := 242) (lv2 := [(3, .int l3), (9, .int l9)]) (st2 := [.int 1]) hm dX0_readTry_238 rfl ?_
      cases hf
      exact sx_ire hm dX0_readTry_242 rfl (by decide)
set_option maxHeartbeats 4000000 in
set_option maxRecDepth 20000 in
theorem j_X0_readTry_130_ok (X : Nat × (Nat → Int32)) {F L d : Nat} (hF : 428 + (d + 1) ≤ F) (hL : 12825 + (d + 1) * 29 ≤ L) (nn : Nat) {rc : tg_X0_readBlock} (hrc : hg5_X0_readBlock X d rc) (l0 : Nat) (l1 : Int32) (l2 : Int32) (l3 : Int32) (l4 : Int32) (l5 : Int32) (l6 : Int32) (l7 : Int32) (h : mx_H) {r : (Int32 × mx_H)} (hf : j_X0_readTry_130 nn rc l0 l1 l2 l3 l4 l5 l6 l7 h = some r) : mx_S X F L 15 130 [(0, .ref l0), (1, .int l1), (2, .int l2), (3, .int l3), (4, .int l4), (5, .int l5), (6, .int l6), (7, .int l7)] [] h 0 0 (some (.int r.1), r.2, 0, 0) := by
  have hm : mx_mt 15 = some (yX0_readTry, cX0_readTry, 10, (some .boolean)) := mt_X0_readTry
  unfold j_X0_readTry_130 at hf
  refine mx_S.pu (pc2 := 131) (lv2 := [(0, .ref l0), (1, .int l1), (2, .int l2), (3, .int l3), (4, .int l4), (5, .int l5), (6, .int l6), (7, .int l7)]) (st2 := [.ref l0]) hm dX0_readTry_130 rfl ?_
  refine mx_S.pu (pc2 := 133) (lv2 := [(0, .ref l0), (1, .int l1), (2, .int l2), (3, .int l3), (4, .int l4), (5, .int l5), (6, .int l6), (7, .int l7)]) (st2 := [.int l6, .ref l0]) hm dX0_readTry_131 rfl ?_
  refine sx_ic (v := 1) hm dX0_readTry_133 (by decide) ?_
  replace hf := xl_el hf; obtain ⟨v3, e_v3, hf⟩ := hf
  refine mx_S.pu (pc2 := 135) (lv2 := [(0, .ref l0), (1, .int l1), (2, .int l2), (3, .int l3), (4, .int l4), (5, .int l5), (6, .int l6), (7, .int l7)]) (st2 := [.int v3, .ref l0]) hm dX0_readTry_134 (by rw [← e_v3]; rfl) ?_
  clear e_v3
  replace hf := mx_gd_el hf; obtain ⟨c4, hf⟩ := hf
  replace hf := mx_sv_el hf; obtain ⟨u5, e_u5, hf⟩ := hf
  refine sx_cv hm dX0_readTry_135 rs_RX0_226 mt_X0_checkTwice [.int v3] [] (b := l0) (ci := 0) rfl rfl rfl c4 (Nat.le_of_ble_eq_true rfl) (Nat.le_of_ble_eq_true rfl) (by omega) (by omega) (f_X0_checkTwice_ok X (by omega) (by omega) nn l0 v3 h e_u5) ?_
  clear e_u5
  show mx_S X F L 15 138 [(0, .ref l0), (1, .int l1), (2, .int l2), (3, .int l3), (4, .int l4), (5, .int l5), (6, .int l6), (7, .int l7)] [] u5 0 0 (some (.int r.1), r.2, 0, 0)
  refine mx_S.pu (pc2 := 139) (lv2 := [(0, .ref l0), (1, .int l1), (2, .int l2), (3, .int l3), (4, .int l4), (5, .int l5), (6, .int l6), (7, .int l7)]) (st2 := [.ref l0]) hm dX0_readTry_138 rfl ?_
  replace hf := mx_sv_el hf; obtain ⟨v6, e_v6, hf⟩ := hf
  refine sx_get hm dX0_readTry_139 rs_RX0_16 (xgr_el e_v6) ?_
  clear e_v6
  refine mx_S.pu (pc2 := 143) (lv2 := [(0, .ref l0), (1, .int l1), (2, .int l2), (3, .int l3), (4, .int l4), (5, .int l5), (6, .int l6), (7, .int l7)]) (st2 := [.int l2, .ref v6]) hm dX0_readTry_142 rfl ?_
  refine mx_S.pu (pc2 := 145) (lv2 := [(0, .ref l0), (1, .int l1), (2, .int l2), (3, .int l3), (4, .int l4), (5, .int l5), (6, .int l6), (7, .int l7)]) (st2 := [.int l4, .int l2, .ref v6]) hm dX0_readTry_143 rfl ?_
  refine mx_S.pu (pc2 := 147) (lv2 := [(0, .ref l0), (1, .int l1), (2, .int l2), (3, .int l3), (4, .int l4), (5, .int l5), (6, .int l6), (7, .int l7)]) (st2 := [.int l7, .int l4, .int l2, .ref v6]) hm dX0_readTry_145 rfl ?_
  replace hf := mx_gd_el hf; obtain ⟨c7, hf⟩ := hf
  replace hf := mx_sv_el hf; obtain ⟨u8, e_u8, hf⟩ := hf
  refine sx_cv hm dX0_readTry_147 rs_RX0_229 mt_X1_addHandler [.int l2, .int l4, .int l7] [] (b := v6) (ci := 1) rfl rfl rfl c7 (Nat.le_of_ble_eq_true rfl) (Nat.le_of_ble_eq_true rfl) (by omega) (by omega) (f_X1_addHandler_ok X (by omega) (by omega) nn v6 l2 l4 l7 u5 e_u8) ?_
  clear e_u8
  show mx_S X F L 15 150 [(0, .ref l0), (1, .int l1), (2, .int l2), (3, .int l3), (4, .int l4), (5, .int l5), (6, .int l6), (7, .int l7)] [] u8 0 0 (some (.int r.1), r.2, 0, 0)
  refine mx_S.pu (pc2 := 151) (lv2 := [(0, .ref l0), (1, .int l1), (2, .int l2), (3, .int l3), (4, .int l4), (5, .int l5), (6, .int l6), (7, .int l7)]) (st2 := [.ref l0]) hm dX0_readTry_150 rfl ?_
  replace hf := mx_sv_el hf; obtain ⟨v9, e_v9, hf⟩ := hf
  refine sx_get hm dX0_readTry_151 rs_RX0_16 (xgr_el e_v9) ?_
  clear e_v9
  replace hf := mx_sv_el hf; obtain ⟨v10, e_v10, hf⟩ := hf
  refine sx_get hm dX0_readTry_154 rs_RX0_155 (xgi_el e_v10) ?_
  clear e_v10
  refine mx_S.pu (pc2 := 159) (lv2 := [(8, .int v10), (0, .ref l0), (1, .int l1), (2, .int l2), (3, .int l3), (4, .int l4), (5, .int l5), (6, .int l6), (7, .int l7)]) (st2 := []) hm dX0_readTry_157 rfl ?_
  refine mx_S.pu (pc2 := 160) (lv2 := [(8, .int v10), (0, .ref l0), (1, .int l1), (2, .int l2), (3, .int l3), (4, .int l4), (5, .int l5), (6, .int l6), (7, .int l7)]) (st2 := [.ref l0]) hm dX0_readTry_159 rfl ?_
  replace hf := mx_sv_el hf; obtain ⟨v11, e_v11, hf⟩ := hf
  refine sx_get hm dX0_readTry_160 rs_RX0_16 (xgr_el e_v11) ?_
  clear e_v11
  refine mx_S.pu (pc2 := 164) (lv2 := [(8, .int v10), (0, .ref l0), (1, .int l1), (2, .int l2), (3, .int l3), (4, .int l4), (5, .int l5), (6, .int l6), (7, .int l7)]) (st2 := [.ref l0, .ref v11]) hm dX0_readTry_163 rfl ?_
  replace hf := mx_sv_el hf; obtain ⟨v12, e_v12, hf⟩ := hf
  refine sx_get hm dX0_readTry_164 rs_RX0_16 (xgr_el e_v12) ?_
  clear e_v12
  refine mx_S.pu (pc2 := 168) (lv2 := [(8, .int v10), (0, .ref l0), (1, .int l1), (2, .int l2), (3, .int l3), (4, .int l4), (5, .int l5), (6, .int l6), (7, .int l7)]) (st2 := [.ref l0, .ref v12, .ref v11]) hm dX0_readTry_167 rfl ?_
  replace hf := mx_sv_el hf; obtain ⟨v13, e_v13, hf⟩ := hf
  refine sx_get hm dX0_readTry_168 rs_RX0_34 (xgr_el e_v13) ?_
  clear e_v13
  refine mx_S.pu (pc2 := 173) (lv2 := [(8, .int v10), (0, .ref l0), (1, .int l1), (2, .int l2), (3, .int l3), (4, .int l4), (5, .int l5), (6, .int l6), (7, .int l7)]) (st2 := [.int l6, .ref v13, .ref v12, .ref v11]) hm dX0_readTry_171 rfl ?_
  refine sx_ic (v := 1) hm dX0_readTry_173 (by decide) ?_
  replace hf := xl_el hf; obtain ⟨v14, e_v14, hf⟩ := hf
  refine mx_S.pu (pc2 := 175) (lv2 := [(8, .int v10), (0, .ref l0), (1, .int l1), (2, .int l2), (3, .int l3), (4, .int l4), (5, .int l5), (6, .int l6), (7, .int l7)]) (st2 := [.int v14, .ref v13, .ref v12, .ref v11]) hm dX0_readTry_174 (by rw [← e_v14]; rfl) ?_
  clear e_v14
  replace hf := mx_gd_el hf; obtain ⟨c15, hf⟩ := hf
  replace hf := mx_sv_el hf; obtain ⟨u16, e_u16, hf⟩ := hf
  refine sx_cv hm dX0_readTry_175 rs_RX0_233 mt_X9_valueAt [.int v14] [.ref v12, .ref v11] (b := v13) (ci := 9) rfl rfl rfl c15 (Nat.le_of_ble_eq_true rfl) (Nat.le_of_ble_eq_true rfl) (by omega) (by omega) (f_X9_valueAt_ok X (by omega) (by omega) nn v13 v14 u8 e_u16) ?_
  clear e_u16
  show mx_S X F L 15 178 [(8, .int v10), (0, .ref l0), (1, .int l1), (2, .int l2), (3, .int l3), (4, .int l4), (5, .int l5), (6, .int l6), (7, .int l7)] [.int u16.1, .ref v12, .ref v11] u16.2 0 0 (some (.int r.1), r.2, 0, 0)
  refine mx_S.pu (pc2 := 180) (lv2 := [(8, .int v10), (0, .ref l0), (1, .int l1), (2, .int l2), (3, .int l3), (4, .int l4), (5, .int l5), (6, .int l6), (7, .int l7)]) (st2 := [.int l7, .int u16.1, .ref v12, .ref v11]) hm dX0_readTry_178 rfl ?_
  replace hf := mx_gd_el hf; obtain ⟨c17, hf⟩ := hf
  replace hf := mx_sv_el hf; obtain ⟨u18, e_u18, hf⟩ := hf
  refine sx_cv hm dX0_readTry_180 rs_RX0_110 mt_X1_addLocal [.int u16.1, .int l7] [.ref v11] (b := v12) (ci := 1) rfl rfl rfl c17 (Nat.le_of_ble_eq_true rfl) (Nat.le_of_ble_eq_true rfl) (by omega) (by omega) (f_X1_addLocal_ok X (by omega) (by omega) nn v12 u16.1 l7 u16.2 e_u18) ?_
  clear e_u18
  show mx_S X F L 15 183 [(8, .int v10), (0, .ref l0), (1, .int l1), (2, .int l2), (3, .int l3), (4, .int l4), (5, .int l5), (6, .int l6), (7, .int l7)] [.int u18.1, .ref v11] u18.2 0 0 (some (.int r.1), r.2, 0, 0)
  refine mx_S.pu (pc2 := 185) (lv2 := [(8, .int v10), (0, .ref l0), (1, .int l1), (2, .int l2), (3, .int l3), (4, .int l4), (5, .int l5), (6, .int l6), (7, .int l7)]) (st2 := [.int l7, .int u18.1, .ref v11]) hm dX0_readTry_183 rfl ?_
  replace hf := mx_gd_el hf; obtain ⟨c19, hf⟩ := hf
  replace hf := mx_sv_el hf; obtain ⟨u20, e_u20, hf⟩ := hf
  refine sx_cv hm dX0_readTry_185 rs_RX0_236 mt_X1_store [.int u18.1, .int l7] [] (b := v11) (ci := 1) rfl rfl rfl c19 (Nat.le_of_ble_eq_true rfl) (Nat.le_of_ble_eq_true rfl) (by omega) (by omega) (f_X1_store_ok X (by omega) (by omega) nn v11 u18.1 l7 u18.2 e_u20) ?_
  clear e_u20
  show mx_S X F L 15 188 [(8, .int v10), (0, .ref l0), (1, .int l1), (2, .int l2), (3, .int l3), (4, .int l4), (5, .int l5), (6, .int l6), (7, .int l7)] [] u20 0 0 (some (.int r.1), r.2, 0, 0)
  refine mx_S.pu (pc2 := 189) (lv2 := [(8, .int v10), (0, .ref l0), (1, .int l1), (2, .int l2), (3, .int l3), (4, .int l4), (5, .int l5), (6, .int l6), (7, .int l7)]) (st2 := [.ref l0]) hm dX0_readTry_188 rfl ?_
  replace hf := mx_sv_el hf; obtain ⟨v21, e_v21, hf⟩ := hf
  refine sx_get hm dX0_readTry_189 rs_RX0_34 (xgr_el e_v21) ?_
  clear e_v21
  refine mx_S.pu (pc2 := 194) (lv2 := [(8, .int v10), (0, .ref l0), (1, .int l1), (2, .int l2), (3, .int l3), (4, .int l4), (5, .int l5), (6, .int l6), (7, .int l7)]) (st2 := [.int l6, .ref v21]) hm dX0_readTry_192 rfl ?_
  refine sx_ic (v := 3) hm dX0_readTry_194 (by decide) ?_
  replace hf := xl_el hf; obtain ⟨v22, e_v22, hf⟩ := hf
  refine mx_S.pu (pc2 := 196) (lv2 := [(8, .int v10), (0, .ref l0), (1, .int l1), (2, .int l2), (3, .int l3), (4, .int l4), (5, .int l5), (6, .int l6), (7, .int l7)]) (st2 := [.int v22, .ref v21]) hm dX0_readTry_195 (by rw [← e_v22]; rfl) ?_
  clear e_v22
  replace hf := mx_sv_el hf; obtain ⟨h23, e_h23, hf⟩ := hf
  refine sx_put hm dX0_readTry_196 rs_RX0_138 ft_9_10 ⟨rfl, rfl⟩ (fun z => by cases z) e_h23 ?_
  clear e_h23
  refine mx_S.pu (pc2 := 200) (lv2 := [(8, .int v10), (0, .ref l0), (1, .int l1), (2, .int l2), (3, .int l3), (4, .int l4), (5, .int l5), (6, .int l6), (7, .int l7)]) (st2 := [.ref l0]) hm dX0_readTry_199 rfl ?_
  refine mx_S.pu (pc2 := 201) (lv2 := [(8, .int v10), (0, .ref l0), (1, .int l1), (2, .int l2), (3, .int l3), (4, .int l4), (5, .int l5), (6, .int l6), (7, .int l7)]) (st2 := [.int l1, .ref l0]) hm dX0_readTry_200 rfl ?_
  replace hf := mx_gd_el hf; obtain ⟨c24, hf⟩ := hf
  replace hf := mx_sv_el hf; obtain ⟨u25, e_u25, hf⟩ := hf
  refine sx_cv hm dX0_readTry_201 rs_RX0_141 mt_X0_readBlock [.int l1] [] (b := l0) (ci := 0) rfl rfl rfl c24 (Nat.le_of_ble_eq_true rfl) (Nat.le_of_ble_eq_true rfl) (by omega) (by omega) (hrc.1 (by omega) (by omega) l0 l1 h23 e_u25) ?_
  clear e_u25
  show mx_S X F L 15 204 [(8, .int v10), (0, .ref l0), (1, .int l1), (2, .int l2), (3, .int l3), (4, .int l4), (5, .int l5), (6, .int l6), (7, .int l7)] [.int u25.1] u25.2 0 0 (some (.int r.1), r.2, 0, 0)
  refine mx_S.pu (pc2 := 206) (lv2 := [(9, .int u25.1), (8, .int v10), (0, .ref l0), (1, .int l1), (2, .int l2), (3, .int l3), (4, .int l4), (5, .int l5), (6, .int l6), (7, .int l7)]) (st2 := []) hm dX0_readTry_204 rfl ?_
  refine mx_S.pu (pc2 := 207) (lv2 := [(9, .int u25.1), (8, .int v10), (0, .ref l0), (1, .int l1), (2, .int l2), (3, .int l3), (4, .int l4), (5, .int l5), (6, .int l6), (7, .int l7)]) (st2 := [.ref l0]) hm dX0_readTry_206 rfl ?_
  replace hf := mx_sv_el hf; obtain ⟨v26, e_v26, hf⟩ := hf
  refine sx_get hm dX0_readTry_207 rs_RX0_16 (xgr_el e_v26) ?_
  clear e_v26
  refine mx_S.pu (pc2 := 212) (lv2 := [(9, .int u25.1), (8, .int v10), (0, .ref l0), (1, .int l1), (2, .int l2), (3, .int l3), (4, .int l4), (5, .int l5), (6, .int l6), (7, .int l7)]) (st2 := [.int v10, .ref v26]) hm dX0_readTry_210 rfl ?_
  replace hf := mx_sv_el hf; obtain ⟨h27, e_h27, hf⟩ := hf
  refine sx_put hm dX0_readTry_212 rs_RX0_155 ft_1_7 ⟨rfl, rfl⟩ (fun z => by cases z) e_h27 ?_
  clear e_h27
  refine mx_S.pu (pc2 := 216) (lv2 := [(9, .int u25.1), (8, .int v10), (0, .ref l0), (1, .int l1), (2, .int l2), (3, .int l3), (4, .int l4), (5, .int l5), (6, .int l6), (7, .int l7)]) (st2 := [.int l3]) hm dX0_readTry_215 rfl ?_
  rcases mx_if_el hf with ⟨c31, hf⟩ | ⟨c31, hf⟩
  · refine sb_if_eq hm dX0_readTry_216 (tgt := 228) rfl (fun _ => ?_) (fun z => absurd c31 z)
    refine mx_S.ext [(3, .int l3), (9, .int u25.1)] (mx_sub_pos [5, 0] rfl (show ([9, 8, 0, 1, 2, 3, 4, 5, 6, 7] : List Nat).Nodup by decide)) ?_
    exact j_X0_readTry_228_ok X hF hL nn hrc l3 u25.1 h27 hf
  · refine sb_if_eq hm dX0_readTry_216 (tgt := 228) rfl (fun z => absurd z c31) (fun _ => ?_)
    refine mx_S.pu (pc2 := 220) (lv2 := [(9, .int u25.1), (8, .int v10), (0, .ref l0), (1, .int l1), (2, .int l2), (3, .int l3), (4, .int l4), (5, .int l5), (6, .int l6), (7, .int l7)]) (st2 := [.ref l0]) hm dX0_readTry_219 rfl ?_
    replace hf := mx_sv_el hf; obtain ⟨v28, e_v28, hf⟩ := hf
    refine sx_get hm dX0_readTry_220 rs_RX0_16 (xgr_el e_v28) ?_
    clear e_v28
    refine mx_S.pu (pc2 := 225) (lv2 := [(9, .int u25.1), (8, .int v10), (0, .ref l0), (1, .int l1), (2, .int l2), (3, .int l3), (4, .int l4), (5, .int l5), (6, .int l6), (7, .int l7)]) (st2 := [.int l5, .ref v28]) hm dX0_readTry_223 rfl ?_
    replace hf := mx_gd_el hf; obtain ⟨c29, hf⟩ := hf
    replace hf := mx_sv_el hf; obtain ⟨u30, e_u30, hf⟩ := hf
    refine sx_cv hm dX0_readTry_225 rs_RX0_201 mt_X1_aimHere [.int l5] [] (b := v28) (ci := 1) rfl rfl rfl c29 (Nat.le_of_ble_eq_true rfl) (Nat.le_of_ble_eq_true rfl) (by omega) (by omega) (f_X1_aimHere_ok X (by omega) (by omega) nn v28 l5 h27 e_u30) ?_
    clear e_u30
    show mx_S X F L 15 228 [(9, .int u25.1), (8, .int v10), (0, .ref l0), (1, .int l1), (2, .int l2), (3, .int l3), (4, .int l4), (5, .int l5), (6, .int l6), (7, .int l7)] [] u30 0 0 (some (.int r.1), r.2, 0, 0)
    refine mx_S.ext [(3, .int l3), (9, .int u25.1)] (mx_sub_pos [5, 0] rfl (show ([9, 8, 0, 1, 2, 3, 4, 5, 6, 7] : List Nat).Nodup by decide)) ?_
    exact j_X0_readTry_228_ok X hF hL nn hrc l3 u25.1 u30 hf
set_option maxHeartbeats 4000000 in
set_option maxRecDepth 20000 in
theorem j_X0_readTry_63_ok (X : Nat × (Nat → Int32)) {F L d : Nat} (hF : 428 + (d + 1) ≤ F) (hL : 12825 + (d + 1) * 29 ≤ L) (nn : Nat) {rc : tg_X0_readBlock} (hrc : hg5_X0_readBlock X d rc) (l0 : Nat) (l1 : Int32) (l2 : Int32) (l3 : Int32) (l4 : Int32) (s0 : Int32) (h : mx_H) {r : (Int32 × mx_H)} (hf : j_X0_readTry_63 nn rc l0 l1 l2 l3 l4 s0 h = some r) : mx_S X F L 15 63 [(0, .ref l0), (1, .int l1), (2, .int l2), (3, .int l3), (4, .int l4)] [.int s0] h 0 0 (some (.int r.1), r.2, 0, 0) := by
  have hm : mx_mt 15 = some (yX0_readTry, cX0_readTry, 10, (some .boolean)) := mt_X0_readTry
  unfold j_X0_readTry_63 at hf
  refine mx_S.pu (pc2 := 65) (lv2 := [(5, .int s0), (0, .ref l0), (1, .int l1), (2, .int l2), (3, .int l3), (4, .int l4)]) (st2 := []) hm dX0_readTry_63 rfl ?_
  refine mx_S.pu (pc2 := 66) (lv2 := [(5, .int s0), (0, .ref l0), (1, .int l1), (2, .int l2), (3, .int l3), (4, .int l4)]) (st2 := [.ref l0]) hm dX0_readTry_65 rfl ?_
  replace hf := mx_sv_el hf; obtain ⟨v32, e_v32, hf⟩ := hf
  refine sx_get hm dX0_readTry_66 rs_RX0_34 (xgr_el e_v32) ?_
  clear e_v32
  replace hf := mx_sv_el hf; obtain ⟨v33, e_v33, hf⟩ := hf
  refine sx_get hm dX0_readTry_69 rs_RX0_138 (xgi_el e_v33) ?_
  clear e_v33
  refine sx_ic (v := 2) hm dX0_readTry_72 (by decide) ?_
  replace hf := xl_el hf; obtain ⟨v34, e_v34, hf⟩ := hf
  refine mx_S.pu (pc2 := 74) (lv2 := [(5, .int s0), (0, .ref l0), (1, .int l1), (2, .int l2), (3, .int l3), (4, .int l4)]) (st2 := [.int v34]) hm dX0_readTry_73 (by rw [← e_v34]; rfl) ?_
  clear e_v34
  refine mx_S.pu (pc2 := 76) (lv2 := [(6, .int v34), (5, .int s0), (0, .ref l0), (1, .int l1), (2, .int l2), (3, .int l3), (4, .int l4)]) (st2 := []) hm dX0_readTry_74 rfl ?_
  refine mx_S.pu (pc2 := 77) (lv2 := [(6, .int v34), (5, .int s0), (0, .ref l0), (1, .int l1), (2, .int l2), (3, .int l3), (4, .int l4)]) (st2 := [.ref l0]) hm dX0_readTry_76 rfl ?_
  replace hf := mx_sv_el hf; obtain ⟨v35, e_v35, hf⟩ := hf
  refine sx_get hm dX0_readTry_77 rs_RX0_38 (xgr_el e_v35) ?_
  clear e_v35
  refine mx_S.pu (pc2 := 82) (lv2 := [(6, .int v34), (5, .int s0), (0, .ref l0), (1, .int l1), (2, .int l2), (3, .int l3), (4, .int l4)]) (st2 := [.int v34, .ref v35]) hm dX0_readTry_80 rfl ?_
  replace hf := mx_gd_el hf; obtain ⟨c36, hf⟩ := hf
  replace hf := mx_sv_el hf; obtain ⟨u37, e_u37, hf⟩ := hf
  refine sx_cv hm dX0_readTry_82 rs_RX0_219 mt_X2_classAt [.int v34] [] (b := v35) (ci := 2) rfl rfl rfl c36 (Nat.le_of_ble_eq_true rfl) (Nat.le_of_ble_eq_true rfl) (by omega) (by omega) (f_X2_classAt_ok X (by omega) (by omega) nn v35 v34 h e_u37) ?_
  clear e_u37
  show mx_S X F L 15 85 [(6, .int v34), (5, .int s0), (0, .ref l0), (1, .int l1), (2, .int l2), (3, .int l3), (4, .int l4)] [.int u37.1] u37.2 0 0 (some (.int r.1), r.2, 0, 0)
  refine mx_S.pu (pc2 := 87) (lv2 := [(7, .int u37.1), (6, .int v34), (5, .int s0), (0, .ref l0), (1, .int l1), (2, .int l2), (3, .int l3), (4, .int l4)]) (st2 := []) hm dX0_readTry_85 rfl ?_
  refine mx_S.pu (pc2 := 89) (lv2 := [(7, .int u37.1), (6, .int v34), (5, .int s0), (0, .ref l0), (1, .int l1), (2, .int l2), (3, .int l3), (4, .int l4)]) (st2 := [.int u37.1]) hm dX0_readTry_87 rfl ?_
  refine sx_ic (v := (-1)) hm dX0_readTry_89 (by decide) ?_
  rcases mx_if_el hf with ⟨c48, hf⟩ | ⟨c48, hf⟩
  · refine sb_ic_ne hm dX0_readTry_90 (tgt := 106) rfl (fun _ => ?_) (fun z => absurd c48 z)
    refine mx_S.pu (pc2 := 107) (lv2 := [(7, .int u37.1), (6, .int v34), (5, .int s0), (0, .ref l0), (1, .int l1), (2, .int l2), (3, .int l3), (4, .int l4)]) (st2 := [.ref l0]) hm dX0_readTry_106 rfl ?_
    replace hf := mx_sv_el hf; obtain ⟨v38, e_v38, hf⟩ := hf
    refine sx_get hm dX0_readTry_107 rs_RX0_46 (xgr_el e_v38) ?_
    clear e_v38
    refine mx_S.pu (pc2 := 112) (lv2 := [(7, .int u37.1), (6, .int v34), (5, .int s0), (0, .ref l0), (1, .int l1), (2, .int l2), (3, .int l3), (4, .int l4)]) (st2 := [.int u37.1, .ref v38]) hm dX0_readTry_110 rfl ?_
    refine sx_ic (v := 1) hm dX0_readTry_112 (by decide) ?_
    replace hf := mx_gd_el hf; obtain ⟨c39, hf⟩ := hf
    replace hf := mx_sv_el hf; obtain ⟨u40, e_u40, hf⟩ := hf
    refine sx_cv hm dX0_readTry_113 rs_RX0_222 mt_X4_fits [.int u37.1, .int 1] [] (b := v38) (ci := 4) rfl rfl rfl c39 (Nat.le_of_ble_eq_true rfl) (Nat.le_of_ble_eq_true rfl) (by omega) (by omega) (f_X4_fits_ok X (by omega) (by omega) nn v38 u37.1 1 u37.2 e_u40) ?_
    clear e_u40
    show mx_S X F L 15 116 [(7, .int u37.1), (6, .int v34), (5, .int s0), (0, .ref l0), (1, .int l1), (2, .int l2), (3, .int l3), (4, .int l4)] [.int u40.1] u40.2 0 0 (some (.int r.1), r.2, 0, 0)
    rcases mx_if_el hf with ⟨c44, hf⟩ | ⟨c44, hf⟩
    · refine sb_if_ne hm dX0_readTry_116 (tgt := 130) rfl (fun _ => ?_) (fun z => absurd c44 z)
      refine mx_S.ext [(0, .ref l0), (1, .int l1), (2, .int l2), (3, .int l3), (4, .int l4), (5, .int s0), (6, .int v34), (7, .int u37.1)] (mx_sub_pos [3, 4, 5, 6, 7, 2, 1, 0] rfl (show ([7, 6, 5, 0, 1, 2, 3, 4] : List Nat).Nodup by decide)) ?_
      exact j_X0_readTry_130_ok X hF hL nn hrc l0 l1 l2 l3 l4 s0 v34 u37.1 u40.2 hf
    · refine sb_if_ne hm dX0_readTry_116 (tgt := 130) rfl (fun z => absurd z c44) (fun _ => ?_)
      refine mx_S.pu (pc2 := 120) (lv2 := [(7, .int u37.1), (6, .int v34), (5, .int s0), (0, .ref l0), (1, .int l1), (2, .int l2), (3, .int l3), (4, .int l4)]) (st2 := [.ref l0]) hm dX0_readTry_119 rfl ?_
      replace hf := mx_sv_el hf; obtain ⟨v41, e_v41, hf⟩ := hf
      refine sx_get hm dX0_readTry_120 rs_RX0_34 (xgr_el e_v41) ?_
      clear e_v41
      refine sx_bi (v := 6) hm dX0_readTry_123 (by decide) ?_
      refine mx_S.pu (pc2 := 127) (lv2 := [(7, .int u37.1), (6, .int v34), (5, .int s0), (0, .ref l0), (1, .int l1), (2, .int l2), (3, .int l3), (4, .int l4)]) (st2 := [.int v34, .int 6, .ref v41]) hm dX0_readTry_125 rfl ?_
      replace hf := mx_gd_el hf; obtain ⟨c42, hf⟩ := hf
      replace hf := mx_sv_el hf; obtain ⟨u43, e_u43, hf⟩ := hf
      refine sx_cv hm dX0_readTry_127 rs_RX0_69 mt_X9_tell [.int 6, .int v34] [] (b := v41) (ci := 9) rfl rfl rfl c42 (Nat.le_of_ble_eq_true rfl) (Nat.le_of_ble_eq_true rfl) (by omega) (by omega) (f_X9_tell_ok X (by omega) (by omega) nn v41 6 v34 u40.2 e_u43) ?_
      clear e_u43
      show mx_S X F L 15 130 [(7, .int u37.1), (6, .int v34), (5, .int s0), (0, .ref l0), (1, .int l1), (2, .int l2), (3, .int l3), (4, .int l4)] [] u43 0 0 (some (.int r.1), r.2, 0, 0)
      refine mx_S.ext [(0, .ref l0), (1, .int l1), (2, .int l2), (3, .int l3), (4, .int l4), (5, .int s0), (6, .int v34), (7, .int u37.1)] (mx_sub_pos [3, 4, 5, 6, 7, 2, 1, 0] rfl (show ([7, 6, 5, 0, 1, 2, 3, 4] : List Nat).Nodup by decide)) ?_
      exact j_X0_readTry_130_ok X hF hL nn hrc l0 l1 l2 l3 l4 s0 v34 u37.1 u43 hf
  · refine sb_ic_ne hm dX0_readTry_90 (tgt := 106) rfl (fun z => absurd z c48) (fun _ => ?_)
    refine mx_S.pu (pc2 := 94) (lv2 := [(7, .int u37.1), (6, .int v34), (5, .int s0), (0, .ref l0), (1, .int l1), (2, .int l2), (3, .int l3), (4, .int l4)]) (st2 := [.ref l0]) hm dX0_readTry_93 rfl ?_
    replace hf := mx_sv_el hf; obtain ⟨v45, e_v45, hf⟩ := hf
    refine sx_get hm dX0_readTry_94 rs_RX0_34 (xgr_el e_v45) ?_
    clear e_v45
    refine sx_ic (v := 5) hm dX0_readTry_97 (by decide) ?_
    refine mx_S.pu (pc2 := 100) (lv2 := [(7, .int u37.1), (6, .int v34), (5, .int s0), (0, .ref l0), (1, .int l1), (2, .int l2), (3, .int l3), (4, .int l4)]) (st2 := [.int v34, .int 5, .ref v45]) hm dX0_readTry_98 rfl ?_
    replace hf := mx_gd_el hf; obtain ⟨c46, hf⟩ := hf
    replace hf := mx_sv_el hf; obtain ⟨u47, e_u47, hf⟩ := hf
    refine sx_cv hm dX0_readTry_100 rs_RX0_69 mt_X9_tell [.int 5, .int v34] [] (b := v45) (ci := 9) rfl rfl rfl c46 (Nat.le_of_ble_eq_true rfl) (Nat.le_of_ble_eq_true rfl) (by omega) (by omega) (f_X9_tell_ok X (by omega) (by omega) nn v45 5 v34 u37.2 e_u47) ?_
    clear e_u47
    show mx_S X F L 15 103 [(7, .int u37.1), (6, .int v34), (5, .int s0), (0, .ref l0), (1, .int l1), (2, .int l2), (3, .int l3), (4, .int l4)] [] u47 0 0 (some (.int r.1), r.2, 0, 0)
    refine mx_S.pu (pc2 := 130) (lv2 := [(7, .int u37.1), (6, .int v34), (5, .int s0), (0, .ref l0), (1, .int l1), (2, .int l2), (3, .int l3), (4, .int l4)]) (st2 := []) hm dX0_readTry_103 rfl ?_
    refine mx_S.ext [(0, .ref l0), (1, .int l1), (2, .int l2), (3, .int l3), (4, .int l4), (5, .int s0), (6, .int v34), (7, .int u37.1)] (mx_sub_pos [3, 4, 5, 6, 7, 2, 1, 0] rfl (show ([7, 6, 5, 0, 1, 2, 3, 4] : List Nat).Nodup by decide)) ?_
    exact j_X0_readTry_130_ok X hF hL nn hrc l0 l1 l2 l3 l4 s0 v34 u37.1 u47 hf
set_option maxHeartbeats 4000000 in
set_option maxRecDepth 20000 in
theorem o_X0_readTry_ok (X : Nat × (Nat → Int32)) {F L d : Nat} (hF : 428 + (d + 1) ≤ F) (hL : 12825 + (d + 1) * 29 ≤ L) (nn : Nat) {rc : tg_X0_readBlock} (hrc : hg5_X0_readBlock X d rc) (a0 : Nat) (a1 : Int32) (h : mx_H) {r : (Int32 × mx_H)} (hf : o_X0_readTry nn rc a0 a1 h = some r) : mx_R X F L 15 [.ref a0, .int a1] h (some (.int r.1), r.2, 0, 0) := by
  have hm : mx_mt 15 = some (yX0_readTry, cX0_readTry, 10, (some .boolean)) := mt_X0_readTry
  show mx_S X F L 15 0 [(0, .ref a0), (1, .int a1)] [] h 0 0 (some (.int r.1), r.2, 0, 0)
  unfold o_X0_readTry at hf
  refine mx_S.pu (pc2 := 1) (lv2 := [(0, .ref a0), (1, .int a1)]) (st2 := [.ref a0]) hm dX0_readTry_0 rfl ?_
  replace hf := mx_sv_el hf; obtain ⟨v49, e_v49, hf⟩ := hf
  refine sx_get hm dX0_readTry_1 rs_RX0_16 (xgr_el e_v49) ?_
  clear e_v49
  replace hf := mx_sv_el hf; obtain ⟨v50, e_v50, hf⟩ := hf
  refine sx_get hm dX0_readTry_4 rs_RX0_213 (xgi_el e_v50) ?_
  clear e_v50
  refine mx_S.pu (pc2 := 8) (lv2 := [(2, .int v50), (0, .ref a0), (1, .int a1)]) (st2 := []) hm dX0_readTry_7 rfl ?_
  refine mx_S.pu (pc2 := 9) (lv2 := [(2, .int v50), (0, .ref a0), (1, .int a1)]) (st2 := [.ref a0]) hm dX0_readTry_8 rfl ?_
  replace hf := mx_sv_el hf; obtain ⟨v51, e_v51, hf⟩ := hf
  refine sx_get hm dX0_readTry_9 rs_RX0_34 (xgr_el e_v51) ?_
  clear e_v51
  refine mx_S.pu (pc2 := 13) (lv2 := [(2, .int v50), (0, .ref a0), (1, .int a1)]) (st2 := [.ref v51, .ref v51]) hm dX0_readTry_12 rfl ?_
  replace hf := mx_sv_el hf; obtain ⟨v52, e_v52, hf⟩ := hf
  refine sx_get hm dX0_readTry_13 rs_RX0_138 (xgi_el e_v52) ?_
  clear e_v52
  refine sx_ic (v := 1) hm dX0_readTry_16 (by decide) ?_
  replace hf := xl_el hf; obtain ⟨v53, e_v53, hf⟩ := hf
  refine mx_S.pu (pc2 := 18) (lv2 := [(2, .int v50), (0, .ref a0), (1, .int a1)]) (st2 := [.int v53, .ref v51]) hm dX0_readTry_17 (by rw [← e_v53]; rfl) ?_
  clear e_v53
  replace hf := mx_sv_el hf; obtain ⟨h54, e_h54, hf⟩ := hf
  refine sx_put hm dX0_readTry_18 rs_RX0_138 ft_9_10 ⟨rfl, rfl⟩ (fun z => by cases z) e_h54 ?_
  clear e_h54
  refine mx_S.pu (pc2 := 22) (lv2 := [(2, .int v50), (0, .ref a0), (1, .int a1)]) (st2 := [.ref a0]) hm dX0_readTry_21 rfl ?_
  replace hf := mx_sv_el hf; obtain ⟨v55, e_v55, hf⟩ := hf
  refine sx_get hm dX0_readTry_22 rs_RX0_16 (xgr_el e_v55) ?_
  clear e_v55
  refine sx_ic (v := 0) hm dX0_readTry_25 (by decide) ?_
  replace hf := mx_gd_el hf; obtain ⟨c56, hf⟩ := hf
  replace hf := mx_sv_el hf; obtain ⟨u57, e_u57, hf⟩ := hf
  refine sx_cv hm dX0_readTry_26 rs_RX0_147 mt_X1_op [.int 0] [] (b := v55) (ci := 1) rfl rfl rfl c56 (Nat.le_of_ble_eq_true rfl) (Nat.le_of_ble_eq_true rfl) (by omega) (by omega) (f_X1_op_ok X (by omega) (by omega) nn v55 0 h54 e_u57) ?_
  clear e_u57
  show mx_S X F L 15 29 [(2, .int v50), (0, .ref a0), (1, .int a1)] [] u57 0 0 (some (.int r.1), r.2, 0, 0)
  refine mx_S.pu (pc2 := 30) (lv2 := [(2, .int v50), (0, .ref a0), (1, .int a1)]) (st2 := [.ref a0]) hm dX0_readTry_29 rfl ?_
  refine mx_S.pu (pc2 := 31) (lv2 := [(2, .int v50), (0, .ref a0), (1, .int a1)]) (st2 := [.int a1, .ref a0]) hm dX0_readTry_30 rfl ?_
  replace hf := mx_gd_el hf; obtain ⟨c58, hf⟩ := hf
  replace hf := mx_sv_el hf; obtain ⟨u59, e_u59, hf⟩ := hf
  refine sx_cv hm dX0_readTry_31 rs_RX0_141 mt_X0_readBlock [.int a1] [] (b := a0) (ci := 0) rfl rfl rfl c58 (Nat.le_of_ble_eq_true rfl) (Nat.le_of_ble_eq_true rfl) (by omega) (by omega) (hrc.1 (by omega) (by omega) a0 a1 u57 e_u59) ?_
  clear e_u59
  show mx_S X F L 15 34 [(2, .int v50), (0, .ref a0), (1, .int a1)] [.int u59.1] u59.2 0 0 (some (.int r.1), r.2, 0, 0)
  refine mx_S.pu (pc2 := 35) (lv2 := [(3, .int u59.1), (2, .int v50), (0, .ref a0), (1, .int a1)]) (st2 := []) hm dX0_readTry_34 rfl ?_
  refine mx_S.pu (pc2 := 36) (lv2 := [(3, .int u59.1), (2, .int v50), (0, .ref a0), (1, .int a1)]) (st2 := [.ref a0]) hm dX0_readTry_35 rfl ?_
  replace hf := mx_sv_el hf; obtain ⟨v60, e_v60, hf⟩ := hf
  refine sx_get hm dX0_readTry_36 rs_RX0_16 (xgr_el e_v60) ?_
  clear e_v60
  replace hf := mx_sv_el hf; obtain ⟨v61, e_v61, hf⟩ := hf
  refine sx_get hm dX0_readTry_39 rs_RX0_213 (xgi_el e_v61) ?_
  clear e_v61
  refine mx_S.pu (pc2 := 44) (lv2 := [(4, .int v61), (3, .int u59.1), (2, .int v50), (0, .ref a0), (1, .int a1)]) (st2 := []) hm dX0_readTry_42 rfl ?_
  refine mx_S.pu (pc2 := 45) (lv2 := [(4, .int v61), (3, .int u59.1), (2, .int v50), (0, .ref a0), (1, .int a1)]) (st2 := [.int u59.1]) hm dX0_readTry_44 rfl ?_
  rcases mx_if_el hf with ⟨c65, hf⟩ | ⟨c65, hf⟩
  · refine sb_if_eq hm dX0_readTry_45 (tgt := 62) rfl (fun _ => ?_) (fun z => absurd c65 z)
    refine sx_ic (v := (-1)) hm dX0_readTry_62 (by decide) ?_
    refine mx_S.ext [(0, .ref a0), (1, .int a1), (2, .int v50), (3, .int u59.1), (4, .int v61)] (mx_sub_pos [3, 4, 2, 1, 0] rfl (show ([4, 3, 2, 0, 1] : List Nat).Nodup by decide)) ?_
    exact j_X0_readTry_63_ok X hF hL nn hrc a0 a1 v50 u59.1 v61 (-1) u59.2 hf
  · refine sb_if_eq hm dX0_readTry_45 (tgt := 62) rfl (fun z => absurd z c65) (fun _ => ?_)
    refine mx_S.pu (pc2 := 49) (lv2 := [(4, .int v61), (3, .int u59.1), (2, .int v50), (0, .ref a0), (1, .int a1)]) (st2 := [.ref a0]) hm dX0_readTry_48 rfl ?_
    replace hf := mx_sv_el hf; obtain ⟨v62, e_v62, hf⟩ := hf
    refine sx_get hm dX0_readTry_49 rs_RX0_16 (xgr_el e_v62) ?_
    clear e_v62
    refine sx_si (v := 167) hm dX0_readTry_52 (by decide) ?_
    refine sx_ic (v := 0) hm dX0_readTry_55 (by decide) ?_
    replace hf := mx_gd_el hf; obtain ⟨c63, hf⟩ := hf
    replace hf := mx_sv_el hf; obtain ⟨u64, e_u64, hf⟩ := hf
    refine sx_cv hm dX0_readTry_56 rs_RX0_204 mt_X1_jump [.int 167, .int 0] [] (b := v62) (ci := 1) rfl rfl rfl c63 (Nat.le_of_ble_eq_true rfl) (Nat.le_of_ble_eq_true rfl) (by omega) (by omega) (f_X1_jump_ok X (by omega) (by omega) nn v62 167 0 u59.2 e_u64) ?_
    clear e_u64
    show mx_S X F L 15 59 [(4, .int v61), (3, .int u59.1), (2, .int v50), (0, .ref a0), (1, .int a1)] [.int u64.1] u64.2 0 0 (some (.int r.1), r.2, 0, 0)
    refine mx_S.pu (pc2 := 63) (lv2 := [(4, .int v61), (3, .int u59.1), (2, .int v50), (0, .ref a0), (1, .int a1)]) (st2 := [.int u64.1]) hm dX0_readTry_59 rfl ?_
    refine mx_S.ext [(0, .ref a0), (1, .int a1), (2, .int v50), (3, .int u59.1), (4, .int v61)] (mx_sub_pos [3, 4, 2, 1, 0] rfl (show ([4, 3, 2, 0, 1] : List Nat).Nodup by decide)) ?_
    exact j_X0_readTry_63_ok X hF hL nn hrc a0 a1 v50 u59.1 v61 u64.1 u64.2 hf
theorem g_X0_readBlock_ok (X : Nat × (Nat → Int32)) (nn : Nat) : ∀ d, hg5_X0_readBlock X d (g_X0_readBlock nn d) := by
  intro d
  induction d with
  | zero => exact ⟨(fun {F L} _ _ a0 a1 h {r} hf => by cases hf), (fun {F L} _ _ a0 a1 h {r} hf => by cases hf), (fun {F L} _ _ a0 a1 h {r} hf => by cases hf), (fun {F L} _ _ a0 a1 h {r} hf => by cases hf), (fun {F L} _ _ a0 a1 h {r} hf => by cases hf), (fun {F L} _ _ a0 a1 h {r} hf => by cases hf)⟩
  | succ d ih => exact ⟨(fun {F L} hF hL a0 a1 h {r} hf => o_X0_readBlock_ok X hF hL nn ih a0 a1 h hf), (fun {F L} hF hL a0 a1 h {r} hf => o_X0_readPart_ok X hF hL nn ih a0 a1 h hf), (fun {F L} hF hL a0 a1 h {r} hf => o_X0_readStatement_ok X hF hL nn ih a0 a1 h hf), (fun {F L} hF hL a0 a1 h {r} hf => o_X0_readIf_ok X hF hL nn ih a0 a1 h hf), (fun {F L} hF hL a0 a1 h {r} hf => o_X0_readWhile_ok X hF hL nn ih a0 a1 h hf), (fun {F L} hF hL a0 a1 h {r} hf => o_X0_readTry_ok X hF hL nn ih a0 a1 h hf)⟩
theorem f_X0_readBlock_ok (X : Nat × (Nat → Int32)) {F L : Nat} (hF : 668 ≤ F) (hL : 19785 ≤ L) (nn : Nat) (a0 : Nat) (a1 : Int32) (h : mx_H) {r : (Int32 × mx_H)} (hf : f_X0_readBlock nn a0 a1 h = some r) : mx_R X F L 9 [.ref a0, .int a1] h (some (.int r.1), r.2, 0, 0) := (g_X0_readBlock_ok X nn 240).1 (by omega) (by omega) a0 a1 h hf
theorem f_X0_readPart_ok (X : Nat × (Nat → Int32)) {F L : Nat} (hF : 668 ≤ F) (hL : 19785 ≤ L) (nn : Nat) (a0 : Nat) (a1 : Int32) (h : mx_H) {r : (Int32 × mx_H)} (hf : f_X0_readPart nn a0 a1 h = some r) : mx_R X F L 10 [.ref a0, .int a1] h (some (.int r.1), r.2, 0, 0) := (g_X0_readBlock_ok X nn 240).2.1 (by omega) (by omega) a0 a1 h hf
theorem f_X0_readStatement_ok (X : Nat × (Nat → Int32)) {F L : Nat} (hF : 668 ≤ F) (hL : 19785 ≤ L) (nn : Nat) (a0 : Nat) (a1 : Int32) (h : mx_H) {r : (Int32 × mx_H)} (hf : f_X0_readStatement nn a0 a1 h = some r) : mx_R X F L 11 [.ref a0, .int a1] h (some (.int r.1), r.2, 0, 0) := (g_X0_readBlock_ok X nn 240).2.2.1 (by omega) (by omega) a0 a1 h hf
theorem f_X0_readIf_ok (X : Nat × (Nat → Int32)) {F L : Nat} (hF : 668 ≤ F) (hL : 19785 ≤ L) (nn : Nat) (a0 : Nat) (a1 : Int32) (h : mx_H) {r : (Int32 × mx_H)} (hf : f_X0_readIf nn a0 a1 h = some r) : mx_R X F L 12 [.ref a0, .int a1] h (some (.int r.1), r.2, 0, 0) := (g_X0_readBlock_ok X nn 240).2.2.2.1 (by omega) (by omega) a0 a1 h hf
theorem f_X0_readWhile_ok (X : Nat × (Nat → Int32)) {F L : Nat} (hF : 668 ≤ F) (hL : 19785 ≤ L) (nn : Nat) (a0 : Nat) (a1 : Int32) (h : mx_H) {r : (Int32 × mx_H)} (hf : f_X0_readWhile nn a0 a1 h = some r) : mx_R X F L 13 [.ref a0, .int a1] h (some (.int r.1), r.2, 0, 0) := (g_X0_readBlock_ok X nn 240).2.2.2.2.1 (by omega) (by omega) a0 a1 h hf
theorem f_X0_readTry_ok (X : Nat × (Nat → Int32)) {F L : Nat} (hF : 668 ≤ F) (hL : 19785 ≤ L) (nn : Nat) (a0 : Nat) (a1 : Int32) (h : mx_H) {r : (Int32 × mx_H)} (hf : f_X0_readTry nn a0 a1 h = some r) : mx_R X F L 15 [.ref a0, .int a1] h (some (.int r.1), r.2, 0, 0) := (g_X0_readBlock_ok X nn 240).2.2.2.2.2 (by omega) (by omega) a0 a1 h hf
