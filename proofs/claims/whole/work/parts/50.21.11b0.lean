set_option maxHeartbeats 4000000 in
set_option maxRecDepth 20000 in
theorem j_X2_readClasses_88_ok (X : Nat × (Nat → Int32)) {F L : Nat} (hF : 5 ≤ F) (hL : 110 ≤ L) (nn : Nat) (l0 : Nat) (h : mx_H) {r : mx_H} (hf : j_X2_readClasses_88 nn l0 h = some r) : mx_S X F L 49 88 [(0, .ref l0)] [] h 0 0 (none, r, 0, 0) := by
  have hm : mx_mt 49 = some (yX2_readClasses, cX2_readClasses, 2, none) := mt_X2_readClasses
  unfold j_X2_readClasses_88 at hf
  refine mx_S.pu (pc2 := 89) (lv2 := [(0, .ref l0)]) (st2 := [.ref l0]) hm dX2_readClasses_88 rfl ?_
  replace hf := mx_sv_el hf; obtain ⟨v1, e_v1, hf⟩ := hf
  refine sx_get hm dX2_readClasses_89 rs_RX2_14 (xgr_el e_v1) ?_
  clear e_v1
  replace hf := mx_gd_el hf; obtain ⟨c2, hf⟩ := hf
  replace hf := mx_sv_el hf; obtain ⟨u3, e_u3, hf⟩ := hf
  refine sx_cv hm dX2_readClasses_92 rs_RX2_109 mt_X4_settle [] [] (b := v1) (ci := 4) rfl rfl rfl c2 (Nat.le_of_ble_eq_true rfl) (Nat.le_of_ble_eq_true rfl) (by omega) (by omega) (f_X4_settle_ok X (by omega) (by omega) nn v1 h e_u3) ?_
  clear e_u3
  show mx_S X F L 49 95 [(0, .ref l0)] [] u3 0 0 (none, r, 0, 0)
  cases hf
  exact sx_ret hm dX2_readClasses_95 rfl
set_option maxHeartbeats 4000000 in
set_option maxRecDepth 20000 in
theorem w_X2_readClasses_48_ok (X : Nat × (Nat → Int32)) {F L : Nat} (hF : 5 ≤ F) (hL : 110 ≤ L) (nn : Nat) : ∀ (k : Nat) (l0 : Nat) (l1 : Int32) (h : mx_H) (r : mx_H), w_X2_readClasses_48 nn k l0 l1 h = some r → mx_S X F L 49 48 [(0, .ref l0), (1, .int l1)] [] h 0 0 (none, r, 0, 0) := by
  have hm : mx_mt 49 = some (yX2_readClasses, cX2_readClasses, 2, none) := mt_X2_readClasses
  intro k
  induction k with
  | zero => intro l0 l1 h r hf; cases hf
  | succ k ih =>
    intro l0 l1 h r hf
    unfold w_X2_readClasses_48 at hf
    refine mx_S.pu (pc2 := 49) (lv2 := [(0, .ref l0), (1, .int l1)]) (st2 := [.int l1]) hm dX2_readClasses_48 rfl ?_
    refine mx_S.pu (pc2 := 50) (lv2 := [(0, .ref l0), (1, .int l1)]) (st2 := [.ref l0, .int l1]) hm dX2_readClasses_49 rfl ?_
    replace hf := mx_sv_el hf; obtain ⟨v4, e_v4, hf⟩ := hf
    refine sx_get hm dX2_readClasses_50 rs_RX2_78 (xgi_el e_v4) ?_
    clear e_v4
    rcases mx_if_el hf with ⟨c15, hf⟩ | ⟨c15, hf⟩
    · refine sb_ic_ge hm dX2_readClasses_53 (tgt := 88) rfl (fun _ => ?_) (fun z => absurd c15 z)
      refine mx_S.ext [(0, .ref l0)] (mx_sub_pos [0] rfl (show ([0, 1] : List Nat).Nodup by decide)) ?_
      exact j_X2_readClasses_88_ok X hF hL nn l0 h hf
    · refine sb_ic_ge hm dX2_readClasses_53 (tgt := 88) rfl (fun z => absurd z c15) (fun _ => ?_)
      refine mx_S.pu (pc2 := 57) (lv2 := [(0, .ref l0), (1, .int l1)]) (st2 := [.ref l0]) hm dX2_readClasses_56 rfl ?_
      replace hf := mx_sv_el hf; obtain ⟨v5, e_v5, hf⟩ := hf
      refine sx_get hm dX2_readClasses_57 rs_RX2_74 (xgr_el e_v5) ?_
      clear e_v5
      replace hf := mx_sv_el hf; obtain ⟨v6, e_v6, hf⟩ := hf
      refine sx_get hm dX2_readClasses_60 rs_RX2_91 (xgi_el e_v6) ?_
      clear e_v6
      rcases mx_if_el hf with ⟨c14, hf⟩ | ⟨c14, hf⟩
      · refine sb_if_ne hm dX2_readClasses_63 (tgt := 88) rfl (fun _ => ?_) (fun z => absurd c14 z)
        refine mx_S.ext [(0, .ref l0)] (mx_sub_pos [0] rfl (show ([0, 1] : List Nat).Nodup by decide)) ?_
        exact j_X2_readClasses_88_ok X hF hL nn l0 h hf
      · refine sb_if_ne hm dX2_readClasses_63 (tgt := 88) rfl (fun z => absurd z c14) (fun _ => ?_)
        refine mx_S.pu (pc2 := 67) (lv2 := [(0, .ref l0), (1, .int l1)]) (st2 := [.ref l0]) hm dX2_readClasses_66 rfl ?_
        replace hf := mx_sv_el hf; obtain ⟨v7, e_v7, hf⟩ := hf
        refine sx_get hm dX2_readClasses_67 rs_RX2_14 (xgr_el e_v7) ?_
        clear e_v7
        refine sx_bi (v := 8) hm dX2_readClasses_70 (by decide) ?_
        refine mx_S.pu (pc2 := 73) (lv2 := [(0, .ref l0), (1, .int l1)]) (st2 := [.int l1, .int 8, .ref v7]) hm dX2_readClasses_72 rfl ?_
        replace hf := xl_el hf; obtain ⟨v8, e_v8, hf⟩ := hf
        refine mx_S.pu (pc2 := 74) (lv2 := [(0, .ref l0), (1, .int l1)]) (st2 := [.int v8, .ref v7]) hm dX2_readClasses_73 (by rw [← e_v8]; rfl) ?_
        clear e_v8
        refine mx_S.pu (pc2 := 75) (lv2 := [(0, .ref l0), (1, .int l1)]) (st2 := [.ref l0, .int v8, .ref v7]) hm dX2_readClasses_74 rfl ?_
        refine mx_S.pu (pc2 := 76) (lv2 := [(0, .ref l0), (1, .int l1)]) (st2 := [.int l1, .ref l0, .int v8, .ref v7]) hm dX2_readClasses_75 rfl ?_
        replace hf := mx_gd_el hf; obtain ⟨c9, hf⟩ := hf
        replace hf := mx_sv_el hf; obtain ⟨u10, e_u10, hf⟩ := hf
        refine sx_cv hm dX2_readClasses_76 rs_RX2_101 mt_X2_classAbove [.int l1] [.int v8, .ref v7] (b := l0) (ci := 2) rfl rfl rfl c9 (Nat.le_of_ble_eq_true rfl) (Nat.le_of_ble_eq_true rfl) (by omega) (by omega) (f_X2_classAbove_ok X (by omega) (by omega) nn l0 l1 h e_u10) ?_
        clear e_u10
        show mx_S X F L 49 79 [(0, .ref l0), (1, .int l1)] [.int u10.1, .int v8, .ref v7] u10.2 0 0 (none, r, 0, 0)
        replace hf := mx_gd_el hf; obtain ⟨c11, hf⟩ := hf
        replace hf := mx_sv_el hf; obtain ⟨u12, e_u12, hf⟩ := hf
        refine sx_cv hm dX2_readClasses_79 rs_RX2_105 mt_X4_setAbove [.int v8, .int u10.1] [] (b := v7) (ci := 4) rfl rfl rfl c11 (Nat.le_of_ble_eq_true rfl) (Nat.le_of_ble_eq_true rfl) (by omega) (by omega) (f_X4_setAbove_ok X (by omega) (by omega) nn v7 v8 u10.1 u10.2 e_u12) ?_
        clear e_u12
        show mx_S X F L 49 82 [(0, .ref l0), (1, .int l1)] [] u12 0 0 (none, r, 0, 0)
        replace hf := xl_el hf; obtain ⟨v13, e_v13, hf⟩ := hf
        refine mx_S.pu (pc2 := 85) (lv2 := [(1, .int v13), (0, .ref l0)]) (st2 := []) hm dX2_readClasses_82 (by rw [← e_v13]; rfl) ?_
        clear e_v13
        refine mx_S.pu (pc2 := 48) (lv2 := [(1, .int v13), (0, .ref l0)]) (st2 := []) hm dX2_readClasses_85 rfl ?_
        refine mx_S.ext [(0, .ref l0), (1, .int v13)] (mx_sub_pos [1, 0] rfl (show ([1, 0] : List Nat).Nodup by decide)) ?_
        exact ih l0 v13 u12 _ hf
set_option maxHeartbeats 4000000 in
set_option maxRecDepth 20000 in
theorem w_X2_readClasses_17_ok (X : Nat × (Nat → Int32)) {F L : Nat} (hF : 5 ≤ F) (hL : 110 ≤ L) (nn : Nat) : ∀ (k : Nat) (l0 : Nat) (l1 : Int32) (h : mx_H) (r : mx_H), w_X2_readClasses_17 nn k l0 l1 h = some r → mx_S X F L 49 17 [(0, .ref l0), (1, .int l1)] [] h 0 0 (none, r, 0, 0) := by
  have hm : mx_mt 49 = some (yX2_readClasses, cX2_readClasses, 2, none) := mt_X2_readClasses
  intro k
  induction k with
  | zero => intro l0 l1 h r hf; cases hf
  | succ k ih =>
    intro l0 l1 h r hf
    unfold w_X2_readClasses_17 at hf
    refine mx_S.pu (pc2 := 18) (lv2 := [(0, .ref l0), (1, .int l1)]) (st2 := [.int l1]) hm dX2_readClasses_17 rfl ?_
    refine mx_S.pu (pc2 := 19) (lv2 := [(0, .ref l0), (1, .int l1)]) (st2 := [.ref l0, .int l1]) hm dX2_readClasses_18 rfl ?_
    replace hf := mx_sv_el hf; obtain ⟨v16, e_v16, hf⟩ := hf
    refine sx_get hm dX2_readClasses_19 rs_RX2_78 (xgi_el e_v16) ?_
    clear e_v16
    rcases mx_if_el hf with ⟨c23, hf⟩ | ⟨c23, hf⟩
    · refine sb_ic_ge hm dX2_readClasses_22 (tgt := 46) rfl (fun _ => ?_) (fun z => absurd c23 z)
      refine sx_ic (v := 0) hm dX2_readClasses_46 (by decide) ?_
      refine mx_S.pu (pc2 := 48) (lv2 := [(1, .int 0), (0, .ref l0)]) (st2 := []) hm dX2_readClasses_47 rfl ?_
      refine mx_S.ext [(0, .ref l0), (1, .int 0)] (mx_sub_pos [1, 0] rfl (show ([1, 0] : List Nat).Nodup by decide)) ?_
      exact w_X2_readClasses_48_ok X hF hL nn nn l0 0 h _ hf
    · refine sb_ic_ge hm dX2_readClasses_22 (tgt := 46) rfl (fun z => absurd z c23) (fun _ => ?_)
      refine mx_S.pu (pc2 := 26) (lv2 := [(0, .ref l0), (1, .int l1)]) (st2 := [.ref l0]) hm dX2_readClasses_25 rfl ?_
      replace hf := mx_sv_el hf; obtain ⟨v17, e_v17, hf⟩ := hf
      refine sx_get hm dX2_readClasses_26 rs_RX2_74 (xgr_el e_v17) ?_
      clear e_v17
      replace hf := mx_sv_el hf; obtain ⟨v18, e_v18, hf⟩ := hf
      refine sx_get hm dX2_readClasses_29 rs_RX2_91 (xgi_el e_v18) ?_
      clear e_v18
      rcases mx_if_el hf with ⟨c22, hf⟩ | ⟨c22, hf⟩
      · refine sb_if_ne hm dX2_readClasses_32 (tgt := 46) rfl (fun _ => ?_) (fun z => absurd c22 z)
        refine sx_ic (v := 0) hm dX2_readClasses_46 (by decide) ?_
        refine mx_S.pu (pc2 := 48) (lv2 := [(1, .int 0), (0, .ref l0)]) (st2 := []) hm dX2_readClasses_47 rfl ?_
        refine mx_S.ext [(0, .ref l0), (1, .int 0)] (mx_sub_pos [1, 0] rfl (show ([1, 0] : List Nat).Nodup by decide)) ?_
        exact w_X2_readClasses_48_ok X hF hL nn nn l0 0 h _ hf
      · refine sb_if_ne hm dX2_readClasses_32 (tgt := 46) rfl (fun z => absurd z c22) (fun _ => ?_)
        refine mx_S.pu (pc2 := 36) (lv2 := [(0, .ref l0), (1, .int l1)]) (st2 := [.ref l0]) hm dX2_readClasses_35 rfl ?_
        refine mx_S.pu (pc2 := 37) (lv2 := [(0, .ref l0), (1, .int l1)]) (st2 := [.int l1, .ref l0]) hm dX2_readClasses_36 rfl ?_
        replace hf := mx_gd_el hf; obtain ⟨c19, hf⟩ := hf
        replace hf := mx_sv_el hf; obtain ⟨u20, e_u20, hf⟩ := hf
        refine sx_cv hm dX2_readClasses_37 rs_RX2_97 mt_X2_checkClassHead [.int l1] [] (b := l0) (ci := 2) rfl rfl rfl c19 (Nat.le_of_ble_eq_true rfl) (Nat.le_of_ble_eq_true rfl) (by omega) (by omega) (f_X2_checkClassHead_ok X (by omega) (by omega) nn l0 l1 h e_u20) ?_
        clear e_u20
        show mx_S X F L 49 40 [(0, .ref l0), (1, .int l1)] [] u20 0 0 (none, r, 0, 0)
        replace hf := xl_el hf; obtain ⟨v21, e_v21, hf⟩ := hf
        refine mx_S.pu (pc2 := 43) (lv2 := [(1, .int v21), (0, .ref l0)]) (st2 := []) hm dX2_readClasses_40 (by rw [← e_v21]; rfl) ?_
        clear e_v21
        refine mx_S.pu (pc2 := 17) (lv2 := [(1, .int v21), (0, .ref l0)]) (st2 := []) hm dX2_readClasses_43 rfl ?_
        refine mx_S.ext [(0, .ref l0), (1, .int v21)] (mx_sub_pos [1, 0] rfl (show ([1, 0] : List Nat).Nodup by decide)) ?_
        exact ih l0 v21 u20 _ hf
set_option maxHeartbeats 4000000 in
set_option maxRecDepth 20000 in
theorem f_X2_readClasses_ok (X : Nat × (Nat → Int32)) {F L : Nat} (hF : 5 ≤ F) (hL : 110 ≤ L) (nn : Nat) (a0 : Nat) (h : mx_H) {r : mx_H} (hf : f_X2_readClasses nn a0 h = some r) : mx_R X F L 49 [.ref a0] h (none, r, 0, 0) := by
  have hm : mx_mt 49 = some (yX2_readClasses, cX2_readClasses, 2, none) := mt_X2_readClasses
  show mx_S X F L 49 0 [(0, .ref a0)] [] h 0 0 (none, r, 0, 0)
  unfold f_X2_readClasses at hf
  refine mx_S.pu (pc2 := 1) (lv2 := [(0, .ref a0)]) (st2 := [.ref a0]) hm dX2_readClasses_0 rfl ?_
  replace hf := mx_sv_el hf; obtain ⟨v24, e_v24, hf⟩ := hf
  refine sx_get hm dX2_readClasses_1 rs_RX2_74 (xgr_el e_v24) ?_
  clear e_v24
  replace hf := mx_sv_el hf; obtain ⟨v25, e_v25, hf⟩ := hf
  refine sx_get hm dX2_readClasses_4 rs_RX2_91 (xgi_el e_v25) ?_
  clear e_v25
  rcases mx_if_el hf with ⟨c28, hf⟩ | ⟨c28, hf⟩
  · refine sb_if_eq hm dX2_readClasses_7 (tgt := 11) rfl (fun _ => ?_) (fun z => absurd c28 z)
    refine mx_S.pu (pc2 := 12) (lv2 := [(0, .ref a0)]) (st2 := [.ref a0]) hm dX2_readClasses_11 rfl ?_
    replace hf := mx_gd_el hf; obtain ⟨c26, hf⟩ := hf
    replace hf := mx_sv_el hf; obtain ⟨u27, e_u27, hf⟩ := hf
    refine sx_cv hm dX2_readClasses_12 rs_RX2_94 mt_X2_nameClasses [] [] (b := a0) (ci := 2) rfl rfl rfl c26 (Nat.le_of_ble_eq_true rfl) (Nat.le_of_ble_eq_true rfl) (by omega) (by omega) (f_X2_nameClasses_ok X (by omega) (by omega) nn a0 h e_u27) ?_
    clear e_u27
    show mx_S X F L 49 15 [(0, .ref a0)] [] u27 0 0 (none, r, 0, 0)
    refine sx_ic (v := 0) hm dX2_readClasses_15 (by decide) ?_
    refine mx_S.pu (pc2 := 17) (lv2 := [(1, .int 0), (0, .ref a0)]) (st2 := []) hm dX2_readClasses_16 rfl ?_
    refine mx_S.ext [(0, .ref a0), (1, .int 0)] (mx_sub_pos [1, 0] rfl (show ([1, 0] : List Nat).Nodup by decide)) ?_
    exact w_X2_readClasses_17_ok X hF hL nn nn a0 0 u27 _ hf
  · refine sb_if_eq hm dX2_readClasses_7 (tgt := 11) rfl (fun z => absurd z c28) (fun _ => ?_)
    cases hf
    exact sx_ret hm dX2_readClasses_10 rfl
set_option maxHeartbeats 4000000 in
set_option maxRecDepth 20000 in
theorem j_X2_addField_52_ok (X : Nat × (Nat → Int32)) {F L : Nat} (hF : 1 ≤ F) (hL : 23 ≤ L) (nn : Nat) (l0 : Nat) (l1 : Int32) (l3 : Int32) (l4 : Int32) (h : mx_H) {r : mx_H} (hf : j_X2_addField_52 nn l0 l1 l3 l4 h = some r) : mx_S X F L 66 52 [(0, .ref l0), (1, .int l1), (3, .int l3), (4, .int l4)] [] h 0 0 (none, r, 0, 0) := by
  have hm : mx_mt 66 = some (yX2_addField, cX2_addField, 6, none) := mt_X2_addField
  unfold j_X2_addField_52 at hf
  refine mx_S.pu (pc2 := 53) (lv2 := [(0, .ref l0), (1, .int l1), (3, .int l3), (4, .int l4)]) (st2 := [.int l1]) hm dX2_addField_52 rfl ?_
  refine sx_bi (v := 12) hm dX2_addField_53 (by decide) ?_
  replace hf := xl_el hf; obtain ⟨v1, e_v1, hf⟩ := hf
  refine mx_S.pu (pc2 := 56) (lv2 := [(0, .ref l0), (1, .int l1), (3, .int l3), (4, .int l4)]) (st2 := [.int v1]) hm dX2_addField_55 (by rw [← e_v1]; rfl) ?_
  clear e_v1
  refine mx_S.pu (pc2 := 57) (lv2 := [(0, .ref l0), (1, .int l1), (3, .int l3), (4, .int l4)]) (st2 := [.ref l0, .int v1]) hm dX2_addField_56 rfl ?_
  replace hf := mx_sv_el hf; obtain ⟨v2, e_v2, hf⟩ := hf
  refine sx_get hm dX2_addField_57 rs_RX2_27 (xgr_el e_v2) ?_
  clear e_v2
  refine mx_S.pu (pc2 := 61) (lv2 := [(0, .ref l0), (1, .int l1), (3, .int l3), (4, .int l4)]) (st2 := [.int l1, .ref v2, .int v1]) hm dX2_addField_60 rfl ?_
  replace hf := mx_sv_el hf; obtain ⟨v3, e_v3, hf⟩ := hf
  refine sx_ald hm dX2_addField_61 e_v3 ?_
  clear e_v3
  replace hf := xl_el hf; obtain ⟨v4, e_v4, hf⟩ := hf
  refine mx_S.pu (pc2 := 63) (lv2 := [(0, .ref l0), (1, .int l1), (3, .int l3), (4, .int l4)]) (st2 := [.int v4]) hm dX2_addField_62 (by rw [← e_v4]; rfl) ?_
  clear e_v4
  refine mx_S.pu (pc2 := 65) (lv2 := [(5, .int v4), (0, .ref l0), (1, .int l1), (3, .int l3), (4, .int l4)]) (st2 := []) hm dX2_addField_63 rfl ?_
  refine mx_S.pu (pc2 := 66) (lv2 := [(5, .int v4), (0, .ref l0), (1, .int l1), (3, .int l3), (4, .int l4)]) (st2 := [.ref l0]) hm dX2_addField_65 rfl ?_
  replace hf := mx_sv_el hf; obtain ⟨v5, e_v5, hf⟩ := hf
  refine sx_get hm dX2_addField_66 rs_RX2_30 (xgr_el e_v5) ?_
  clear e_v5
  refine mx_S.pu (pc2 := 71) (lv2 := [(5, .int v4), (0, .ref l0), (1, .int l1), (3, .int l3), (4, .int l4)]) (st2 := [.int v4, .ref v5]) hm dX2_addField_69 rfl ?_
  refine mx_S.pu (pc2 := 73) (lv2 := [(5, .int v4), (0, .ref l0), (1, .int l1), (3, .int l3), (4, .int l4)]) (st2 := [.int l4, .int v4, .ref v5]) hm dX2_addField_71 rfl ?_
  replace hf := mx_sv_el hf; obtain ⟨h6, e_h6, hf⟩ := hf
  refine sx_ast hm dX2_addField_73 e_h6 ?_
  clear e_h6
  refine mx_S.pu (pc2 := 75) (lv2 := [(5, .int v4), (0, .ref l0), (1, .int l1), (3, .int l3), (4, .int l4)]) (st2 := [.ref l0]) hm dX2_addField_74 rfl ?_
  replace hf := mx_sv_el hf; obtain ⟨v7, e_v7, hf⟩ := hf
  refine sx_get hm dX2_addField_75 rs_RX2_33 (xgr_el e_v7) ?_
  clear e_v7
  refine mx_S.pu (pc2 := 80) (lv2 := [(5, .int v4), (0, .ref l0), (1, .int l1), (3, .int l3), (4, .int l4)]) (st2 := [.int v4, .ref v7]) hm dX2_addField_78 rfl ?_
  refine mx_S.pu (pc2 := 81) (lv2 := [(5, .int v4), (0, .ref l0), (1, .int l1), (3, .int l3), (4, .int l4)]) (st2 := [.int l3, .int v4, .ref v7]) hm dX2_addField_80 rfl ?_
  replace hf := mx_sv_el hf; obtain ⟨h8, e_h8, hf⟩ := hf
  refine sx_ast hm dX2_addField_81 e_h8 ?_
  clear e_h8
  refine mx_S.pu (pc2 := 83) (lv2 := [(5, .int v4), (0, .ref l0), (1, .int l1), (3, .int l3), (4, .int l4)]) (st2 := [.ref l0]) hm dX2_addField_82 rfl ?_
  replace hf := mx_sv_el hf; obtain ⟨v9, e_v9, hf⟩ := hf
  refine sx_get hm dX2_addField_83 rs_RX2_27 (xgr_el e_v9) ?_
  clear e_v9
  refine mx_S.pu (pc2 := 87) (lv2 := [(5, .int v4), (0, .ref l0), (1, .int l1), (3, .int l3), (4, .int l4)]) (st2 := [.int l1, .ref v9]) hm dX2_addField_86 rfl ?_
  refine mx_S.pu (pc2 := 88) (lv2 := [(5, .int v4), (0, .ref l0), (1, .int l1), (3, .int l3), (4, .int l4)]) (st2 := [.int l1, .ref v9, .int l1, .ref v9]) hm dX2_addField_87 rfl ?_
  replace hf := mx_sv_el hf; obtain ⟨v10, e_v10, hf⟩ := hf
  refine sx_ald hm dX2_addField_88 e_v10 ?_
  clear e_v10
  refine sx_ic (v := 1) hm dX2_addField_89 (by decide) ?_
  replace hf := xl_el hf; obtain ⟨v11, e_v11, hf⟩ := hf
  refine mx_S.pu (pc2 := 91) (lv2 := [(5, .int v4), (0, .ref l0), (1, .int l1), (3, .int l3), (4, .int l4)]) (st2 := [.int v11, .int l1, .ref v9]) hm dX2_addField_90 (by rw [← e_v11]; rfl) ?_
  clear e_v11
  replace hf := mx_sv_el hf; obtain ⟨h12, e_h12, hf⟩ := hf
  refine sx_ast hm dX2_addField_91 e_h12 ?_
  clear e_h12
  cases hf
  exact sx_ret hm dX2_addField_92 rfl
set_option maxHeartbeats 4000000 in
set_option maxRecDepth 20000 in
theorem f_X2_addField_ok (X : Nat × (Nat → Int32)) {F L : Nat} (hF : 1 ≤ F) (hL : 23 ≤ L) (nn : Nat) (a0 : Nat) (a1 : Int32) (a2 : Int32) (a3 : Int32) (h : mx_H) {r : mx_H} (hf : f_X2_addField nn a0 a1 a2 a3 h = some r) : mx_R X F L 66 [.ref a0, .int a1, .int a2, .int a3] h (none, r, 0, 0) := by
  have hm : mx_mt 66 = some (yX2_addField, cX2_addField, 6, none) := mt_X2_addField
  show mx_S X F L 66 0 [(0, .ref a0), (1, .int a1), (2, .int a2), (3, .int a3)] [] h 0 0 (none, r, 0, 0)
  unfold f_X2_addField at hf
  refine mx_S.pu (pc2 := 1) (lv2 := [(0, .ref a0), (1, .int a1), (2, .int a2), (3, .int a3)]) (st2 := [.ref a0]) hm dX2_addField_0 rfl ?_
  replace hf := mx_sv_el hf; obtain ⟨v13, e_v13, hf⟩ := hf
  refine sx_get hm dX2_addField_1 rs_RX2_27 (xgr_el e_v13) ?_
  clear e_v13
  refine mx_S.pu (pc2 := 5) (lv2 := [(0, .ref a0), (1, .int a1), (2, .int a2), (3, .int a3)]) (st2 := [.int a1, .ref v13]) hm dX2_addField_4 rfl ?_
  replace hf := mx_sv_el hf; obtain ⟨v14, e_v14, hf⟩ := hf
  refine sx_ald hm dX2_addField_5 e_v14 ?_
  clear e_v14
  refine sx_bi (v := 12) hm dX2_addField_6 (by decide) ?_
  rcases mx_if_el hf with ⟨c27, hf⟩ | ⟨c27, hf⟩
  · refine sb_ic_lt hm dX2_addField_8 (tgt := 22) rfl (fun _ => ?_) (fun z => absurd c27 z)
    refine mx_S.pu (pc2 := 23) (lv2 := [(0, .ref a0), (1, .int a1), (2, .int a2), (3, .int a3)]) (st2 := [.ref a0]) hm dX2_addField_22 rfl ?_
    replace hf := mx_sv_el hf; obtain ⟨v15, e_v15, hf⟩ := hf
    refine sx_get hm dX2_addField_23 rs_RX2_74 (xgr_el e_v15) ?_
    clear e_v15
    refine mx_S.pu (pc2 := 27) (lv2 := [(0, .ref a0), (1, .int a1), (2, .int a2), (3, .int a3)]) (st2 := [.int a2, .ref v15]) hm dX2_addField_26 rfl ?_
    replace hf := mx_gd_el hf; obtain ⟨c16, hf⟩ := hf
    replace hf := mx_sv_el hf; obtain ⟨u17, e_u17, hf⟩ := hf
    refine sx_cv hm dX2_addField_27 rs_RX2_135 mt_X9_valueAt [.int a2] [] (b := v15) (ci := 9) rfl rfl rfl c16 (Nat.le_of_ble_eq_true rfl) (Nat.le_of_ble_eq_true rfl) (by omega) (by omega) (f_X9_valueAt_ok X (by omega) (by omega) nn v15 a2 h e_u17) ?_
    clear e_u17
    show mx_S X F L 66 30 [(0, .ref a0), (1, .int a1), (2, .int a2), (3, .int a3)] [.int u17.1] u17.2 0 0 (none, r, 0, 0)
    refine mx_S.pu (pc2 := 32) (lv2 := [(4, .int u17.1), (0, .ref a0), (1, .int a1), (2, .int a2), (3, .int a3)]) (st2 := []) hm dX2_addField_30 rfl ?_
    refine mx_S.pu (pc2 := 33) (lv2 := [(4, .int u17.1), (0, .ref a0), (1, .int a1), (2, .int a2), (3, .int a3)]) (st2 := [.ref a0]) hm dX2_addField_32 rfl ?_
    refine mx_S.pu (pc2 := 34) (lv2 := [(4, .int u17.1), (0, .ref a0), (1, .int a1), (2, .int a2), (3, .int a3)]) (st2 := [.int a1, .ref a0]) hm dX2_addField_33 rfl ?_
    refine mx_S.pu (pc2 := 36) (lv2 := [(4, .int u17.1), (0, .ref a0), (1, .int a1), (2, .int a2), (3, .int a3)]) (st2 := [.int u17.1, .int a1, .ref a0]) hm dX2_addField_34 rfl ?_
    replace hf := mx_gd_el hf; obtain ⟨c18, hf⟩ := hf
    replace hf := mx_sv_el hf; obtain ⟨u19, e_u19, hf⟩ := hf
    refine sx_cv hm dX2_addField_36 rs_RX2_203 mt_X2_fieldIn [.int a1, .int u17.1] [] (b := a0) (ci := 2) rfl rfl rfl c18 (Nat.le_of_ble_eq_true rfl) (Nat.le_of_ble_eq_true rfl) (by omega) (by omega) (f_X2_fieldIn_ok X (by omega) (by omega) nn a0 a1 u17.1 u17.2 e_u19) ?_
    clear e_u19
    show mx_S X F L 66 39 [(4, .int u17.1), (0, .ref a0), (1, .int a1), (2, .int a2), (3, .int a3)] [.int u19.1] u19.2 0 0 (none, r, 0, 0)
    refine sx_ic (v := (-1)) hm dX2_addField_39 (by decide) ?_
    rcases mx_if_el hf with ⟨c23, hf⟩ | ⟨c23, hf⟩
    · refine sb_ic_eq hm dX2_addField_40 (tgt := 52) rfl (fun _ => ?_) (fun z => absurd c23 z)
      refine mx_S.ext [(0, .ref a0), (1, .int a1), (3, .int a3), (4, .int u17.1)] (mx_sub_pos [1, 2, 4, 0] rfl (show ([4, 0, 1, 2, 3] : List Nat).Nodup by decide)) ?_
      exact j_X2_addField_52_ok X hF hL nn a0 a1 a3 u17.1 u19.2 hf
    · refine sb_ic_eq hm dX2_addField_40 (tgt := 52) rfl (fun z => absurd z c23) (fun _ => ?_)
      refine mx_S.pu (pc2 := 44) (lv2 := [(4, .int u17.1), (0, .ref a0), (1, .int a1), (2, .int a2), (3, .int a3)]) (st2 := [.ref a0]) hm dX2_addField_43 rfl ?_
      replace hf := mx_sv_el hf; obtain ⟨v20, e_v20, hf⟩ := hf
      refine sx_get hm dX2_addField_44 rs_RX2_74 (xgr_el e_v20) ?_
      clear e_v20
      refine sx_ic (v := 4) hm dX2_addField_47 (by decide) ?_
      refine mx_S.pu (pc2 := 49) (lv2 := [(4, .int u17.1), (0, .ref a0), (1, .int a1), (2, .int a2), (3, .int a3)]) (st2 := [.int a2, .int 4, .ref v20]) hm dX2_addField_48 rfl ?_
      replace hf := mx_gd_el hf; obtain ⟨c21, hf⟩ := hf
      replace hf := mx_sv_el hf; obtain ⟨u22, e_u22, hf⟩ := hf
      refine sx_cv hm dX2_addField_49 rs_RX2_186 mt_X9_tell [.int 4, .int a2] [] (b := v20) (ci := 9) rfl rfl rfl c21 (Nat.le_of_ble_eq_true rfl) (Nat.le_of_ble_eq_true rfl) (by omega) (by omega) (f_X9_tell_ok X (by omega) (by omega) nn v20 4 a2 u19.2 e_u22) ?_
      clear e_u22
      show mx_S X F L 66 52 [(4, .int u17.1), (0, .ref a0), (1, .int a1), (2, .int a2), (3, .int a3)] [] u22 0 0 (none, r, 0, 0)
      refine mx_S.ext [(0, .ref a0), (1, .int a1), (3, .int a3), (4, .int u17.1)] (mx_sub_pos [1, 2, 4, 0] rfl (show ([4, 0, 1, 2, 3] : List Nat).Nodup by decide)) ?_
      exact j_X2_addField_52_ok X hF hL nn a0 a1 a3 u17.1 u22 hf
  · refine sb_ic_lt hm dX2_addField_8 (tgt := 22) rfl (fun z => absurd z c27) (fun _ => ?_)
    refine mx_S.pu (pc2 := 12) (lv2 := [(0, .ref a0), (1, .int a1), (2, .int a2), (3, .int a3)]) (st2 := [.ref a0]) hm dX2_addField_11 rfl ?_
    replace hf := mx_sv_el hf; obtain ⟨v24, e_v24, hf⟩ := hf
    refine sx_get hm dX2_addField_12 rs_RX2_74 (xgr_el e_v24) ?_
    clear e_v24
    refine sx_bi (v := 11) hm dX2_addField_15 (by decide) ?_
    refine mx_S.pu (pc2 := 18) (lv2 := [(0, .ref a0), (1, .int a1), (2, .int a2), (3, .int a3)]) (st2 := [.int a2, .int 11, .ref v24]) hm dX2_addField_17 rfl ?_
    replace hf := mx_gd_el hf; obtain ⟨c25, hf⟩ := hf
    replace hf := mx_sv_el hf; obtain ⟨u26, e_u26, hf⟩ := hf
    refine sx_cv hm dX2_addField_18 rs_RX2_186 mt_X9_tell [.int 11, .int a2] [] (b := v24) (ci := 9) rfl rfl rfl c25 (Nat.le_of_ble_eq_true rfl) (Nat.le_of_ble_eq_true rfl) (by omega) (by omega) (f_X9_tell_ok X (by omega) (by omega) nn v24 11 a2 h e_u26) ?_
    clear e_u26
    show mx_S X F L 66 21 [(0, .ref a0), (1, .int a1), (2, .int a2), (3, .int a3)] [] u26 0 0 (none, r, 0, 0)
    cases hf
    exact sx_ret hm dX2_addField_21 rfl
set_option maxHeartbeats 4000000 in
set_option maxRecDepth 20000 in
theorem w_X2_addParameter_54_ok (X : Nat × (Nat → Int32)) {F L : Nat} (hF : 3 ≤ F) (hL : 67 ≤ L) (nn : Nat) : ∀ (k : Nat) (l0 : Nat) (l1 : Int32) (l2 : Int32) (l3 : Int32) (l4 : Int32) (l5 : Int32) (l6 : Int32) (h : mx_H) (r : mx_H), w_X2_addParameter_54 nn k l0 l1 l2 l3 l4 l5 l6 h = some r → mx_S X F L 68 54 [(0, .ref l0), (1, .int l1), (2, .int l2), (3, .int l3), (4, .int l4), (5, .int l5), (6, .int l6)] [] h 0 0 (none, r, 0, 0) := by
  have hm : mx_mt 68 = some (yX2_addParameter, cX2_addParameter, 7, none) := mt_X2_addParameter
  intro k
  induction k with
  | zero => intro l0 l1 l2 l3 l4 l5 l6 h r hf; cases hf
  | succ k ih =>
    intro l0 l1 l2 l3 l4 l5 l6 h r hf
    unfold w_X2_addParameter_54 at hf
    refine mx_S.pu (pc2 := 56) (lv2 := [(0, .ref l0), (1, .int l1), (2, .int l2), (3, .int l3), (4, .int l4), (5, .int l5), (6, .int l6)]) (st2 := [.int l6]) hm dX2_addParameter_54 rfl ?_
    refine mx_S.pu (pc2 := 57) (lv2 := [(0, .ref l0), (1, .int l1), (2, .int l2), (3, .int l3), (4, .int l4), (5, .int l5), (6, .int l6)]) (st2 := [.ref l0, .int l6]) hm dX2_addParameter_56 rfl ?_
    replace hf := mx_sv_el hf; obtain ⟨v1, e_v1, hf⟩ := hf
    refine sx_get hm dX2_addParameter_57 rs_RX2_58 (xgr_el e_v1) ?_
    clear e_v1
    refine mx_S.pu (pc2 := 61) (lv2 := [(0, .ref l0), (1, .int l1), (2, .int l2), (3, .int l3), (4, .int l4), (5, .int l5), (6, .int l6)]) (st2 := [.int l1, .ref v1, .int l6]) hm dX2_addParameter_60 rfl ?_
    replace hf := mx_sv_el hf; obtain ⟨v2, e_v2, hf⟩ := hf
    refine sx_ald hm dX2_addParameter_61 e_v2 ?_
    clear e_v2
    rcases mx_if_el hf with ⟨c38, hf⟩ | ⟨c38, hf⟩
    · refine sb_ic_ge hm dX2_addParameter_62 (tgt := 95) rfl (fun _ => ?_) (fun z => absurd c38 z)
      refine mx_S.pu (pc2 := 96) (lv2 := [(0, .ref l0), (1, .int l1), (2, .int l2), (3, .int l3), (4, .int l4), (5, .int l5), (6, .int l6)]) (st2 := [.ref l0]) hm dX2_addParameter_95 rfl ?_
      replace hf := mx_sv_el hf; obtain ⟨v3, e_v3, hf⟩ := hf
      refine sx_get hm dX2_addParameter_96 rs_RX2_61 (xgr_el e_v3) ?_
      clear e_v3
      refine mx_S.pu (pc2 := 101) (lv2 := [(0, .ref l0), (1, .int l1), (2, .int l2), (3, .int l3), (4, .int l4), (5, .int l5), (6, .int l6)]) (st2 := [.int l5, .ref v3]) hm dX2_addParameter_99 rfl ?_
      refine mx_S.pu (pc2 := 102) (lv2 := [(0, .ref l0), (1, .int l1), (2, .int l2), (3, .int l3), (4, .int l4), (5, .int l5), (6, .int l6)]) (st2 := [.ref l0, .int l5, .ref v3]) hm dX2_addParameter_101 rfl ?_
      replace hf := mx_sv_el hf; obtain ⟨v4, e_v4, hf⟩ := hf
      refine sx_get hm dX2_addParameter_102 rs_RX2_58 (xgr_el e_v4) ?_
      clear e_v4
      refine mx_S.pu (pc2 := 106) (lv2 := [(0, .ref l0), (1, .int l1), (2, .int l2), (3, .int l3), (4, .int l4), (5, .int l5), (6, .int l6)]) (st2 := [.int l1, .ref v4, .int l5, .ref v3]) hm dX2_addParameter_105 rfl ?_
      replace hf := mx_sv_el hf; obtain ⟨v5, e_v5, hf⟩ := hf
      refine sx_ald hm dX2_addParameter_106 e_v5 ?_
      clear e_v5
      replace hf := xl_el hf; obtain ⟨v6, e_v6, hf⟩ := hf
      refine mx_S.pu (pc2 := 108) (lv2 := [(0, .ref l0), (1, .int l1), (2, .int l2), (3, .int l3), (4, .int l4), (5, .int l5), (6, .int l6)]) (st2 := [.int v6, .ref v3]) hm dX2_addParameter_107 (by rw [← e_v6]; rfl) ?_
      clear e_v6
      refine mx_S.pu (pc2 := 110) (lv2 := [(0, .ref l0), (1, .int l1), (2, .int l2), (3, .int l3), (4, .int l4), (5, .int l5), (6, .int l6)]) (st2 := [.int l4, .int v6, .ref v3]) hm dX2_addParameter_108 rfl ?_
      replace hf := mx_sv_el hf; obtain ⟨h7, e_h7, hf⟩ := hf
      refine sx_ast hm dX2_addParameter_110 e_h7 ?_
      clear e_h7
      refine mx_S.pu (pc2 := 112) (lv2 := [(0, .ref l0), (1, .int l1), (2, .int l2), (3, .int l3), (4, .int l4), (5, .int l5), (6, .int l6)]) (st2 := [.ref l0]) hm dX2_addParameter_111 rfl ?_
      replace hf := mx_sv_el hf; obtain ⟨v8, e_v8, hf⟩ := hf
      refine sx_get hm dX2_addParameter_112 rs_RX2_64 (xgr_el e_v8) ?_
      clear e_v8
      refine mx_S.pu (pc2 := 117) (lv2 := [(0, .ref l0), (1, .int l1), (2, .int l2), (3, .int l3), (4, .int l4), (5, .int l5), (6, .int l6)]) (st2 := [.int l5, .ref v8]) hm dX2_addParameter_115 rfl ?_
      refine mx_S.pu (pc2 := 118) (lv2 := [(0, .ref l0), (1, .int l1), (2, .int l2), (3, .int l3), (4, .int l4), (5, .int l5), (6, .int l6)]) (st2 := [.ref l0, .int l5, .ref v8]) hm dX2_addParameter_117 rfl ?_
      replace hf := mx_sv_el hf; obtain ⟨v9, e_v9, hf⟩ := hf
      refine sx_get hm dX2_addParameter_118 rs_RX2_58 (xgr_el e_v9) ?_
      clear e_v9
      refine mx_S.pu (pc2 := 122) (lv2 := [(0, .ref l0), (1, .int l1), (2, .int l2), (3, .int l3), (4, .int l4), (5, .int l5), (6, .int l6)]) (st2 := [.int l1, .ref v9, .int l5, .ref v8]) hm dX2_addParameter_121 rfl ?_
      replace hf := mx_sv_el hf; obtain ⟨v10, e_v10, hf⟩ := hf
      refine sx_ald hm dX2_addParameter_122 e_v10 ?_
      clear e_v10
      replace hf := xl_el hf; obtain ⟨v11, e_v11, hf⟩ := hf
      refine mx_S.pu (pc2 := 124) (lv2 := [(0, .ref l0), (1, .int l1), (2, .int l2), (3, .int l3), (4, .int l4), (5, .int l5), (6, .int l6)]) (st2 := [.int v11, .ref v8]) hm dX2_addParameter_123 (by rw [← e_v11]; rfl) ?_
      clear e_v11
      refine mx_S.pu (pc2 := 125) (lv2 := [(0, .ref l0), (1, .int l1), (2, .int l2), (3, .int l3), (4, .int l4), (5, .int l5), (6, .int l6)]) (st2 := [.int l2, .int v11, .ref v8]) hm dX2_addParameter_124 rfl ?_
      replace hf := mx_sv_el hf; obtain ⟨h12, e_h12, hf⟩ := hf
      refine sx_ast hm dX2_addParameter_125 e_h12 ?_
      clear e_h12
      refine mx_S.pu (pc2 := 127) (lv2 := [(0, .ref l0), (1, .int l1), (2, .int l2), (3, .int l3), (4, .int l4), (5, .int l5), (6, .int l6)]) (st2 := [.ref l0]) hm dX2_addParameter_126 rfl ?_
      replace hf := mx_sv_el hf; obtain ⟨v13, e_v13, hf⟩ := hf
      refine sx_get hm dX2_addParameter_127 rs_RX2_58 (xgr_el e_v13) ?_
      clear e_v13
      refine mx_S.pu (pc2 := 131) (lv2 := [(0, .ref l0), (1, .int l1), (2, .int l2), (3, .int l3), (4, .int l4), (5, .int l5), (6, .int l6)]) (st2 := [.int l1, .ref v13]) hm dX2_addParameter_130 rfl ?_
      refine mx_S.pu (pc2 := 132) (lv2 := [(0, .ref l0), (1, .int l1), (2, .int l2), (3, .int l3), (4, .int l4), (5, .int l5), (6, .int l6)]) (st2 := [.int l1, .ref v13, .int l1, .ref v13]) hm dX2_addParameter_131 rfl ?_
      replace hf := mx_sv_el hf; obtain ⟨v14, e_v14, hf⟩ := hf
      refine sx_ald hm dX2_addParameter_132 e_v14 ?_
      clear e_v14
      refine sx_ic (v := 1) hm dX2_addParameter_133 (by decide) ?_
      replace hf := xl_el hf; obtain ⟨v15, e_v15, hf⟩ := hf
      refine mx_S.pu (pc2 := 135) (lv2 := [(0, .ref l0), (1, .int l1), (2, .int l2), (3, .int l3), (4, .int l4), (5, .int l5), (6, .int l6)]) (st2 := [.int v15, .int l1, .ref v13]) hm dX2_addParameter_134 (by rw [← e_v15]; rfl) ?_
      clear e_v15
      replace hf := mx_sv_el hf; obtain ⟨h16, e_h16, hf⟩ := hf
      refine sx_ast hm dX2_addParameter_135 e_h16 ?_
      clear e_h16
      refine mx_S.pu (pc2 := 137) (lv2 := [(0, .ref l0), (1, .int l1), (2, .int l2), (3, .int l3), (4, .int l4), (5, .int l5), (6, .int l6)]) (st2 := [.ref l0]) hm dX2_addParameter_136 rfl ?_
      replace hf := mx_sv_el hf; obtain ⟨v17, e_v17, hf⟩ := hf
      refine sx_get hm dX2_addParameter_137 rs_RX2_74 (xgr_el e_v17) ?_
      clear e_v17
      refine mx_S.pu (pc2 := 141) (lv2 := [(0, .ref l0), (1, .int l1), (2, .int l2), (3, .int l3), (4, .int l4), (5, .int l5), (6, .int l6)]) (st2 := [.ref v17, .ref v17]) hm dX2_addParameter_140 rfl ?_
      replace hf := mx_sv_el hf; obtain ⟨v18, e_v18, hf⟩ := hf
      refine sx_get hm dX2_addParameter_141 rs_RX2_118 (xgi_el e_v18) ?_
      clear e_v18
      refine sx_ic (v := 1) hm dX2_addParameter_144 (by decide) ?_
      replace hf := xl_el hf; obtain ⟨v19, e_v19, hf⟩ := hf
      refine mx_S.pu (pc2 := 146) (lv2 := [(0, .ref l0), (1, .int l1), (2, .int l2), (3, .int l3), (4, .int l4), (5, .int l5), (6, .int l6)]) (st2 := [.int v19, .ref v17]) hm dX2_addParameter_145 (by rw [← e_v19]; rfl) ?_
      clear e_v19
      replace hf := mx_sv_el hf; obtain ⟨h20, e_h20, hf⟩ := hf
      refine sx_put hm dX2_addParameter_146 rs_RX2_118 ft_9_10 ⟨rfl, rfl⟩ (fun z => by cases z) e_h20 ?_
      clear e_h20
      refine mx_S.pu (pc2 := 150) (lv2 := [(0, .ref l0), (1, .int l1), (2, .int l2), (3, .int l3), (4, .int l4), (5, .int l5), (6, .int l6)]) (st2 := [.ref l0]) hm dX2_addParameter_149 rfl ?_
      replace hf := mx_sv_el hf; obtain ⟨v21, e_v21, hf⟩ := hf
      refine sx_get hm dX2_addParameter_150 rs_RX2_74 (xgr_el e_v21) ?_
      clear e_v21
      replace hf := mx_gd_el hf; obtain ⟨c22, hf⟩ := hf
      replace hf := mx_sv_el hf; obtain ⟨u23, e_u23, hf⟩ := hf
      refine sx_cv hm dX2_addParameter_153 rs_RX2_121 mt_X9_kind [] [] (b := v21) (ci := 9) rfl rfl rfl c22 (Nat.le_of_ble_eq_true rfl) (Nat.le_of_ble_eq_true rfl) (by omega) (by omega) (f_X9_kind_ok X (by omega) (by omega) nn v21 h20 e_u23) ?_
      clear e_u23
      show mx_S X F L 68 156 [(0, .ref l0), (1, .int l1), (2, .int l2), (3, .int l3), (4, .int l4), (5, .int l5), (6, .int l6)] [.int u23.1] u23.2 0 0 (none, r, 0, 0)
      refine sx_bi (v := 47) hm dX2_addParameter_156 (by decide) ?_
      rcases mx_if_el hf with ⟨c28, hf⟩ | ⟨c28, hf⟩
      · refine sb_ic_ne hm dX2_addParameter_158 (tgt := 174) rfl (fun _ => ?_) (fun z => absurd c28 z)
        cases hf
        exact sx_ret hm dX2_addParameter_174 rfl
      · refine sb_ic_ne hm dX2_addParameter_158 (tgt := 174) rfl (fun z => absurd z c28) (fun _ => ?_)
        refine mx_S.pu (pc2 := 162) (lv2 := [(0, .ref l0), (1, .int l1), (2, .int l2), (3, .int l3), (4, .int l4), (5, .int l5), (6, .int l6)]) (st2 := [.ref l0]) hm dX2_addParameter_161 rfl ?_
        replace hf := mx_sv_el hf; obtain ⟨v24, e_v24, hf⟩ := hf
        refine sx_get hm dX2_addParameter_162 rs_RX2_74 (xgr_el e_v24) ?_
        clear e_v24
        refine mx_S.pu (pc2 := 166) (lv2 := [(0, .ref l0), (1, .int l1), (2, .int l2), (3, .int l3), (4, .int l4), (5, .int l5), (6, .int l6)]) (st2 := [.ref v24, .ref v24]) hm dX2_addParameter_165 rfl ?_
        replace hf := mx_sv_el hf; obtain ⟨v25, e_v25, hf⟩ := hf
        refine sx_get hm dX2_addParameter_166 rs_RX2_118 (xgi_el e_v25) ?_
        clear e_v25
        refine sx_ic (v := 1) hm dX2_addParameter_169 (by decide) ?_
        replace hf := xl_el hf; obtain ⟨v26, e_v26, hf⟩ := hf
        refine mx_S.pu (pc2 := 171) (lv2 := [(0, .ref l0), (1, .int l1), (2, .int l2), (3, .int l3), (4, .int l4), (5, .int l5), (6, .int l6)]) (st2 := [.int v26, .ref v24]) hm dX2_addParameter_170 (by rw [← e_v26]; rfl) ?_
        clear e_v26
        replace hf := mx_sv_el hf; obtain ⟨h27, e_h27, hf⟩ := hf
        refine sx_put hm dX2_addParameter_171 rs_RX2_118 ft_9_10 ⟨rfl, rfl⟩ (fun z => by cases z) e_h27 ?_
        clear e_h27
        cases hf
        exact sx_ret hm dX2_addParameter_174 rfl
    · refine sb_ic_ge hm dX2_addParameter_62 (tgt := 95) rfl (fun z => absurd z c38) (fun _ => ?_)
      refine mx_S.pu (pc2 := 66) (lv2 := [(0, .ref l0), (1, .int l1), (2, .int l2), (3, .int l3), (4, .int l4), (5, .int l5), (6, .int l6)]) (st2 := [.ref l0]) hm dX2_addParameter_65 rfl ?_
      replace hf := mx_sv_el hf; obtain ⟨v29, e_v29, hf⟩ := hf
      refine sx_get hm dX2_addParameter_66 rs_RX2_61 (xgr_el e_v29) ?_
      clear e_v29
      refine mx_S.pu (pc2 := 71) (lv2 := [(0, .ref l0), (1, .int l1), (2, .int l2), (3, .int l3), (4, .int l4), (5, .int l5), (6, .int l6)]) (st2 := [.int l5, .ref v29]) hm dX2_addParameter_69 rfl ?_
      refine mx_S.pu (pc2 := 73) (lv2 := [(0, .ref l0), (1, .int l1), (2, .int l2), (3, .int l3), (4, .int l4), (5, .int l5), (6, .int l6)]) (st2 := [.int l6, .int l5, .ref v29]) hm dX2_addParameter_71 rfl ?_
      replace hf := xl_el hf; obtain ⟨v30, e_v30, hf⟩ := hf
      refine mx_S.pu (pc2 := 74) (lv2 := [(0, .ref l0), (1, .int l1), (2, .int l2), (3, .int l3), (4, .int l4), (5, .int l5), (6, .int l6)]) (st2 := [.int v30, .ref v29]) hm dX2_addParameter_73 (by rw [← e_v30]; rfl) ?_
      clear e_v30
      replace hf := mx_sv_el hf; obtain ⟨v31, e_v31, hf⟩ := hf
      refine sx_ald hm dX2_addParameter_74 e_v31 ?_
      clear e_v31
      refine mx_S.pu (pc2 := 77) (lv2 := [(0, .ref l0), (1, .int l1), (2, .int l2), (3, .int l3), (4, .int l4), (5, .int l5), (6, .int l6)]) (st2 := [.int l4, .int v31]) hm dX2_addParameter_75 rfl ?_
      rcases mx_if_el hf with ⟨c37, hf⟩ | ⟨c37, hf⟩
      · refine sb_ic_ne hm dX2_addParameter_77 (tgt := 89) rfl (fun _ => ?_) (fun z => absurd c37 z)
        replace hf := xl_el hf; obtain ⟨v32, e_v32, hf⟩ := hf
        refine mx_S.pu (pc2 := 92) (lv2 := [(6, .int v32), (0, .ref l0), (1, .int l1), (2, .int l2), (3, .int l3), (4, .int l4), (5, .int l5)]) (st2 := []) hm dX2_addParameter_89 (by rw [← e_v32]; rfl) ?_
        clear e_v32
        refine mx_S.pu (pc2 := 54) (lv2 := [(6, .int v32), (0, .ref l0), (1, .int l1), (2, .int l2), (3, .int l3), (4, .int l4), (5, .int l5)]) (st2 := []) hm dX2_addParameter_92 rfl ?_
        refine mx_S.ext [(0, .ref l0), (1, .int l1), (2, .int l2), (3, .int l3), (4, .int l4), (5, .int l5), (6, .int v32)] (mx_sub_pos [1, 2, 3, 4, 5, 6, 0] rfl (show ([6, 0, 1, 2, 3, 4, 5] : List Nat).Nodup by decide)) ?_
        exact ih l0 l1 l2 l3 l4 l5 v32 h _ hf
      · refine sb_ic_ne hm dX2_addParameter_77 (tgt := 89) rfl (fun z => absurd z c37) (fun _ => ?_)
        refine mx_S.pu (pc2 := 81) (lv2 := [(0, .ref l0), (1, .int l1), (2, .int l2), (3, .int l3), (4, .int l4), (5, .int l5), (6, .int l6)]) (st2 := [.ref l0]) hm dX2_addParameter_80 rfl ?_
        replace hf := mx_sv_el hf; obtain ⟨v33, e_v33, hf⟩ := hf
        refine sx_get hm dX2_addParameter_81 rs_RX2_74 (xgr_el e_v33) ?_
        clear e_v33
        refine sx_ic (v := 4) hm dX2_addParameter_84 (by decide) ?_
        refine mx_S.pu (pc2 := 86) (lv2 := [(0, .ref l0), (1, .int l1), (2, .int l2), (3, .int l3), (4, .int l4), (5, .int l5), (6, .int l6)]) (st2 := [.int l3, .int 4, .ref v33]) hm dX2_addParameter_85 rfl ?_
        replace hf := mx_gd_el hf; obtain ⟨c34, hf⟩ := hf
        replace hf := mx_sv_el hf; obtain ⟨u35, e_u35, hf⟩ := hf
        refine sx_cv hm dX2_addParameter_86 rs_RX2_186 mt_X9_tell [.int 4, .int l3] [] (b := v33) (ci := 9) rfl rfl rfl c34 (Nat.le_of_ble_eq_true rfl) (Nat.le_of_ble_eq_true rfl) (by omega) (by omega) (f_X9_tell_ok X (by omega) (by omega) nn v33 4 l3 h e_u35) ?_
        clear e_u35
        show mx_S X F L 68 89 [(0, .ref l0), (1, .int l1), (2, .int l2), (3, .int l3), (4, .int l4), (5, .int l5), (6, .int l6)] [] u35 0 0 (none, r, 0, 0)
        replace hf := xl_el hf; obtain ⟨v36, e_v36, hf⟩ := hf
        refine mx_S.pu (pc2 := 92) (lv2 := [(6, .int v36), (0, .ref l0), (1, .int l1), (2, .int l2), (3, .int l3), (4, .int l4), (5, .int l5)]) (st2 := []) hm dX2_addParameter_89 (by rw [← e_v36]; rfl) ?_
        clear e_v36
        refine mx_S.pu (pc2 := 54) (lv2 := [(6, .int v36), (0, .ref l0), (1, .int l1), (2, .int l2), (3, .int l3), (4, .int l4), (5, .int l5)]) (st2 := []) hm dX2_addParameter_92 rfl ?_
        refine mx_S.ext [(0, .ref l0), (1, .int l1), (2, .int l2), (3, .int l3), (4, .int l4), (5, .int l5), (6, .int v36)] (mx_sub_pos [1, 2, 3, 4, 5, 6, 0] rfl (show ([6, 0, 1, 2, 3, 4, 5] : List Nat).Nodup by decide)) ?_
        exact ih l0 l1 l2 l3 l4 l5 v36 u35 _ hf
set_option maxHeartbeats 4000000 in
set_option maxRecDepth 20000 in
theorem f_X2_addParameter_ok (X : Nat × (Nat → Int32)) {F L : Nat} (hF : 3 ≤ F) (hL : 67 ≤ L) (nn : Nat) (a0 : Nat) (a1 : Int32) (h : mx_H) {r : mx_H} (hf : f_X2_addParameter nn a0 a1 h = some r) : mx_R X F L 68 [.ref a0, .int a1] h (none, r, 0, 0) := by
  have hm : mx_mt 68 = some (yX2_addParameter, cX2_addParameter, 7, none) := mt_X2_addParameter
  show mx_S X F L 68 0 [(0, .ref a0), (1, .int a1)] [] h 0 0 (none, r, 0, 0)
  unfold f_X2_addParameter at hf
  refine mx_S.pu (pc2 := 1) (lv2 := [(0, .ref a0), (1, .int a1)]) (st2 := [.ref a0]) hm dX2_addParameter_0 rfl ?_
  replace hf := mx_gd_el hf; obtain ⟨c39, hf⟩ := hf
  replace hf := mx_sv_el hf; obtain ⟨u40, e_u40, hf⟩ := hf
  refine sx_cv hm dX2_addParameter_1 rs_RX2_192 mt_X2_readType [] [] (b := a0) (ci := 2) rfl rfl rfl c39 (Nat.le_of_ble_eq_true rfl) (Nat.le_of_ble_eq_true rfl) (by omega) (by omega) (f_X2_readType_ok X (by omega) (by omega) nn a0 h e_u40) ?_
  clear e_u40
  show mx_S X F L 68 4 [(0, .ref a0), (1, .int a1)] [.int u40.1] u40.2 0 0 (none, r, 0, 0)
  refine mx_S.pu (pc2 := 5) (lv2 := [(2, .int u40.1), (0, .ref a0), (1, .int a1)]) (st2 := []) hm dX2_addParameter_4 rfl ?_
  refine mx_S.pu (pc2 := 6) (lv2 := [(2, .int u40.1), (0, .ref a0), (1, .int a1)]) (st2 := [.ref a0]) hm dX2_addParameter_5 rfl ?_
  replace hf := mx_sv_el hf; obtain ⟨v41, e_v41, hf⟩ := hf
  refine sx_get hm dX2_addParameter_6 rs_RX2_74 (xgr_el e_v41) ?_
  clear e_v41
  replace hf := mx_sv_el hf; obtain ⟨v42, e_v42, hf⟩ := hf
  refine sx_get hm dX2_addParameter_9 rs_RX2_118 (xgi_el e_v42) ?_
  clear e_v42
  refine mx_S.pu (pc2 := 13) (lv2 := [(3, .int v42), (2, .int u40.1), (0, .ref a0), (1, .int a1)]) (st2 := []) hm dX2_addParameter_12 rfl ?_
  refine mx_S.pu (pc2 := 14) (lv2 := [(3, .int v42), (2, .int u40.1), (0, .ref a0), (1, .int a1)]) (st2 := [.ref a0]) hm dX2_addParameter_13 rfl ?_
  replace hf := mx_sv_el hf; obtain ⟨v43, e_v43, hf⟩ := hf
  refine sx_get hm dX2_addParameter_14 rs_RX2_74 (xgr_el e_v43) ?_
  clear e_v43
  refine mx_S.pu (pc2 := 18) (lv2 := [(3, .int v42), (2, .int u40.1), (0, .ref a0), (1, .int a1)]) (st2 := [.int v42, .ref v43]) hm dX2_addParameter_17 rfl ?_
  replace hf := mx_gd_el hf; obtain ⟨c44, hf⟩ := hf
  replace hf := mx_sv_el hf; obtain ⟨u45, e_u45, hf⟩ := hf
  refine sx_cv hm dX2_addParameter_18 rs_RX2_135 mt_X9_valueAt [.int v42] [] (b := v43) (ci := 9) rfl rfl rfl c44 (Nat.le_of_ble_eq_true rfl) (Nat.le_of_ble_eq_true rfl) (by omega) (by omega) (f_X9_valueAt_ok X (by omega) (by omega) nn v43 v42 u40.2 e_u45) ?_
  clear e_u45
  show mx_S X F L 68 21 [(3, .int v42), (2, .int u40.1), (0, .ref a0), (1, .int a1)] [.int u45.1] u45.2 0 0 (none, r, 0, 0)
  refine mx_S.pu (pc2 := 23) (lv2 := [(4, .int u45.1), (3, .int v42), (2, .int u40.1), (0, .ref a0), (1, .int a1)]) (st2 := []) hm dX2_addParameter_21 rfl ?_
  refine mx_S.pu (pc2 := 24) (lv2 := [(4, .int u45.1), (3, .int v42), (2, .int u40.1), (0, .ref a0), (1, .int a1)]) (st2 := [.int a1]) hm dX2_addParameter_23 rfl ?_
  refine sx_bi (v := 6) hm dX2_addParameter_24 (by decide) ?_
  replace hf := xl_el hf; obtain ⟨v46, e_v46, hf⟩ := hf
  refine mx_S.pu (pc2 := 27) (lv2 := [(4, .int u45.1), (3, .int v42), (2, .int u40.1), (0, .ref a0), (1, .int a1)]) (st2 := [.int v46]) hm dX2_addParameter_26 (by rw [← e_v46]; rfl) ?_
  clear e_v46
  refine mx_S.pu (pc2 := 29) (lv2 := [(5, .int v46), (4, .int u45.1), (3, .int v42), (2, .int u40.1), (0, .ref a0), (1, .int a1)]) (st2 := []) hm dX2_addParameter_27 rfl ?_
  refine mx_S.pu (pc2 := 30) (lv2 := [(5, .int v46), (4, .int u45.1), (3, .int v42), (2, .int u40.1), (0, .ref a0), (1, .int a1)]) (st2 := [.ref a0]) hm dX2_addParameter_29 rfl ?_
  replace hf := mx_sv_el hf; obtain ⟨v47, e_v47, hf⟩ := hf
  refine sx_get hm dX2_addParameter_30 rs_RX2_58 (xgr_el e_v47) ?_
  clear e_v47
  refine mx_S.pu (pc2 := 34) (lv2 := [(5, .int v46), (4, .int u45.1), (3, .int v42), (2, .int u40.1), (0, .ref a0), (1, .int a1)]) (st2 := [.int a1, .ref v47]) hm dX2_addParameter_33 rfl ?_
  replace hf := mx_sv_el hf; obtain ⟨v48, e_v48, hf⟩ := hf
  refine sx_ald hm dX2_addParameter_34 e_v48 ?_
  clear e_v48
  refine sx_bi (v := 6) hm dX2_addParameter_35 (by decide) ?_
  rcases mx_if_el hf with ⟨c52, hf⟩ | ⟨c52, hf⟩
  · refine sb_ic_lt hm dX2_addParameter_37 (tgt := 51) rfl (fun _ => ?_) (fun z => absurd c52 z)
    refine sx_ic (v := 0) hm dX2_addParameter_51 (by decide) ?_
    refine mx_S.pu (pc2 := 54) (lv2 := [(6, .int 0), (5, .int v46), (4, .int u45.1), (3, .int v42), (2, .int u40.1), (0, .ref a0), (1, .int a1)]) (st2 := []) hm dX2_addParameter_52 rfl ?_
    refine mx_S.ext [(0, .ref a0), (1, .int a1), (2, .int u40.1), (3, .int v42), (4, .int u45.1), (5, .int v46), (6, .int 0)] (mx_sub_pos [5, 6, 4, 3, 2, 1, 0] rfl (show ([6, 5, 4, 3, 2, 0, 1] : List Nat).Nodup by decide)) ?_
    exact w_X2_addParameter_54_ok X hF hL nn nn a0 a1 u40.1 v42 u45.1 v46 0 u45.2 _ hf
  · refine sb_ic_lt hm dX2_addParameter_37 (tgt := 51) rfl (fun z => absurd z c52) (fun _ => ?_)
    refine mx_S.pu (pc2 := 41) (lv2 := [(5, .int v46), (4, .int u45.1), (3, .int v42), (2, .int u40.1), (0, .ref a0), (1, .int a1)]) (st2 := [.ref a0]) hm dX2_addParameter_40 rfl ?_
    replace hf := mx_sv_el hf; obtain ⟨v49, e_v49, hf⟩ := hf
    refine sx_get hm dX2_addParameter_41 rs_RX2_74 (xgr_el e_v49) ?_
    clear e_v49
    refine sx_bi (v := 11) hm dX2_addParameter_44 (by decide) ?_
    refine mx_S.pu (pc2 := 47) (lv2 := [(5, .int v46), (4, .int u45.1), (3, .int v42), (2, .int u40.1), (0, .ref a0), (1, .int a1)]) (st2 := [.int v42, .int 11, .ref v49]) hm dX2_addParameter_46 rfl ?_
    replace hf := mx_gd_el hf; obtain ⟨c50, hf⟩ := hf
    replace hf := mx_sv_el hf; obtain ⟨u51, e_u51, hf⟩ := hf
    refine sx_cv hm dX2_addParameter_47 rs_RX2_186 mt_X9_tell [.int 11, .int v42] [] (b := v49) (ci := 9) rfl rfl rfl c50 (Nat.le_of_ble_eq_true rfl) (Nat.le_of_ble_eq_true rfl) (by omega) (by omega) (f_X9_tell_ok X (by omega) (by omega) nn v49 11 v42 u45.2 e_u51) ?_
    clear e_u51
    show mx_S X F L 68 50 [(5, .int v46), (4, .int u45.1), (3, .int v42), (2, .int u40.1), (0, .ref a0), (1, .int a1)] [] u51 0 0 (none, r, 0, 0)
    cases hf
    exact sx_ret hm dX2_addParameter_50 rfl
set_option maxHeartbeats 4000000 in
set_option maxRecDepth 20000 in
theorem j_X2_skipBlock_60_ok (X : Nat × (Nat → Int32)) {F L : Nat} (hF : 1 ≤ F) (hL : 20 ≤ L) (nn : Nat) {kk_6 : Nat → Int32 → Int32 → Int32 → mx_H → Option mx_H} (hk_6 : ∀ (l0 : Nat) (l1 : Int32) (l2 : Int32) (l3 : Int32) (h : mx_H) (r : mx_H), kk_6 l0 l1 l2 l3 h = some r → mx_S X F L 69 6 [(0, .ref l0), (1, .int l1), (2, .int l2), (3, .int l3)] [] h 0 0 (none, r, 0, 0)) (l0 : Nat) (l1 : Int32) (l3 : Int32) (h : mx_H) {r : mx_H} (hf : j_X2_skipBlock_60 nn kk_6 l0 l1 l3 h = some r) : mx_S X F L 69 60 [(0, .ref l0), (1, .int l1), (3, .int l3)] [] h 0 0 (none, r, 0, 0) := by
  have hm : mx_mt 69 = some (yX2_skipBlock, cX2_skipBlock, 4, none) := mt_X2_skipBlock
  unfold j_X2_skipBlock_60 at hf
  refine mx_S.pu (pc2 := 61) (lv2 := [(0, .ref l0), (1, .int l1), (3, .int l3)]) (st2 := [.ref l0]) hm dX2_skipBlock_60 rfl ?_
  replace hf := mx_sv_el hf; obtain ⟨v1, e_v1, hf⟩ := hf
  refine sx_get hm dX2_skipBlock_61 rs_RX2_74 (xgr_el e_v1) ?_
  clear e_v1
  refine mx_S.pu (pc2 := 65) (lv2 := [(0, .ref l0), (1, .int l1), (3, .int l3)]) (st2 := [.ref v1, .ref v1]) hm dX2_skipBlock_64 rfl ?_
  replace hf := mx_sv_el hf; obtain ⟨v2, e_v2, hf⟩ := hf
  refine sx_get hm dX2_skipBlock_65 rs_RX2_118 (xgi_el e_v2) ?_
  clear e_v2
  refine sx_ic (v := 1) hm dX2_skipBlock_68 (by decide) ?_
  replace hf := xl_el hf; obtain ⟨v3, e_v3, hf⟩ := hf
  refine mx_S.pu (pc2 := 70) (lv2 := [(0, .ref l0), (1, .int l1), (3, .int l3)]) (st2 := [.int v3, .ref v1]) hm dX2_skipBlock_69 (by rw [← e_v3]; rfl) ?_
  clear e_v3
  replace hf := mx_sv_el hf; obtain ⟨h4, e_h4, hf⟩ := hf
  refine sx_put hm dX2_skipBlock_70 rs_RX2_118 ft_9_10 ⟨rfl, rfl⟩ (fun z => by cases z) e_h4 ?_
  clear e_h4
  refine mx_S.pu (pc2 := 74) (lv2 := [(0, .ref l0), (1, .int l1), (3, .int l3)]) (st2 := [.int l1]) hm dX2_skipBlock_73 rfl ?_
  rcases mx_if_el hf with ⟨c7, hf⟩ | ⟨c7, hf⟩
  · refine sb_if_le hm dX2_skipBlock_74 (tgt := 81) rfl (fun _ => ?_) (fun z => absurd c7 z)
    refine sx_ic (v := 0) hm dX2_skipBlock_81 (by decide) ?_
    refine mx_S.pu (pc2 := 83) (lv2 := [(2, .int 0), (0, .ref l0), (1, .int l1), (3, .int l3)]) (st2 := []) hm dX2_skipBlock_82 rfl ?_
    replace hf := xl_el hf; obtain ⟨v5, e_v5, hf⟩ := hf
    refine mx_S.pu (pc2 := 86) (lv2 := [(3, .int v5), (2, .int 0), (0, .ref l0), (1, .int l1)]) (st2 := []) hm dX2_skipBlock_83 (by rw [← e_v5]; rfl) ?_
    clear e_v5
    refine mx_S.pu (pc2 := 6) (lv2 := [(3, .int v5), (2, .int 0), (0, .ref l0), (1, .int l1)]) (st2 := []) hm dX2_skipBlock_86 rfl ?_
    refine mx_S.ext [(0, .ref l0), (1, .int l1), (2, .int 0), (3, .int v5)] (mx_sub_pos [2, 3, 1, 0] rfl (show ([3, 2, 0, 1] : List Nat).Nodup by decide)) ?_
    exact hk_6 l0 l1 0 v5 h4 _ hf
  · refine sb_if_le hm dX2_skipBlock_74 (tgt := 81) rfl (fun z => absurd z c7) (fun _ => ?_)
    refine sx_ic (v := 1) hm dX2_skipBlock_77 (by decide) ?_
    refine mx_S.pu (pc2 := 82) (lv2 := [(0, .ref l0), (1, .int l1), (3, .int l3)]) (st2 := [.int 1]) hm dX2_skipBlock_78 rfl ?_
    refine mx_S.pu (pc2 := 83) (lv2 := [(2, .int 1), (0, .ref l0), (1, .int l1), (3, .int l3)]) (st2 := []) hm dX2_skipBlock_82 rfl ?_
    replace hf := xl_el hf; obtain ⟨v6, e_v6, hf⟩ := hf
    refine mx_S.pu (pc2 := 86) (lv2 := [(3, .int v6), (2, .int 1), (0, .ref l0), (1, .int l1)]) (st2 := []) hm dX2_skipBlock_83 (by rw [← e_v6]; rfl) ?_
    clear e_v6
    refine mx_S.pu (pc2 := 6) (lv2 := [(3, .int v6), (2, .int 1), (0, .ref l0), (1, .int l1)]) (st2 := []) hm dX2_skipBlock_86 rfl ?_
    refine mx_S.ext [(0, .ref l0), (1, .int l1), (2, .int 1), (3, .int v6)] (mx_sub_pos [2, 3, 1, 0] rfl (show ([3, 2, 0, 1] : List Nat).Nodup by decide)) ?_
    exact hk_6 l0 l1 1 v6 h4 _ hf
set_option maxHeartbeats 4000000 in
set_option maxRecDepth 20000 in
theorem w_X2_skipBlock_6_ok (X : Nat × (Nat → Int32)) {F L : Nat} (hF : 1 ≤ F) (hL : 20 ≤ L) (nn : Nat) : ∀ (k : Nat) (l0 : Nat) (l1 : Int32) (l2 : Int32) (l3 : Int32) (h : mx_H) (r : mx_H), w_X2_skipBlock_6 nn k l0 l1 l2 l3 h = some r → mx_S X F L 69 6 [(0, .ref l0), (1, .int l1), (2, .int l2), (3, .int l3)] [] h 0 0 (none, r, 0, 0) := by
  have hm : mx_mt 69 = some (yX2_skipBlock, cX2_skipBlock, 4, none) := mt_X2_skipBlock
  intro k
  induction k with
  | zero => intro l0 l1 l2 l3 h r hf; cases hf
  | succ k ih =>
    intro l0 l1 l2 l3 h r hf
    unfold w_X2_skipBlock_6 at hf
    refine mx_S.pu (pc2 := 7) (lv2 := [(0, .ref l0), (1, .int l1), (2, .int l2), (3, .int l3)]) (st2 := [.int l3]) hm dX2_skipBlock_6 rfl ?_
    refine sx_si (v := 3000) hm dX2_skipBlock_7 (by decide) ?_
    rcases mx_if_el hf with ⟨c23, hf⟩ | ⟨c23, hf⟩
    · refine sb_ic_ge hm dX2_skipBlock_10 (tgt := 89) rfl (fun _ => ?_) (fun z => absurd c23 z)
      cases hf
      exact sx_ret hm dX2_skipBlock_89 rfl
    · refine sb_ic_ge hm dX2_skipBlock_10 (tgt := 89) rfl (fun z => absurd z c23) (fun _ => ?_)
      refine mx_S.pu (pc2 := 14) (lv2 := [(0, .ref l0), (1, .int l1), (2, .int l2), (3, .int l3)]) (st2 := [.int l2]) hm dX2_skipBlock_13 rfl ?_
      rcases mx_if_el hf with ⟨c22, hf⟩ | ⟨c22, hf⟩
      · refine sb_if_eq hm dX2_skipBlock_14 (tgt := 89) rfl (fun _ => ?_) (fun z => absurd c22 z)
        cases hf
        exact sx_ret hm dX2_skipBlock_89 rfl
      · refine sb_if_eq hm dX2_skipBlock_14 (tgt := 89) rfl (fun z => absurd z c22) (fun _ => ?_)
        refine mx_S.pu (pc2 := 18) (lv2 := [(0, .ref l0), (1, .int l1), (2, .int l2), (3, .int l3)]) (st2 := [.ref l0]) hm dX2_skipBlock_17 rfl ?_
        replace hf := mx_sv_el hf; obtain ⟨v8, e_v8, hf⟩ := hf
        refine sx_get hm dX2_skipBlock_18 rs_RX2_74 (xgr_el e_v8) ?_
        clear e_v8
        replace hf := mx_gd_el hf; obtain ⟨c9, hf⟩ := hf
        replace hf := mx_sv_el hf; obtain ⟨u10, e_u10, hf⟩ := hf
        refine sx_cv hm dX2_skipBlock_21 rs_RX2_121 mt_X9_kind [] [] (b := v8) (ci := 9) rfl rfl rfl c9 (Nat.le_of_ble_eq_true rfl) (Nat.le_of_ble_eq_true rfl) (by omega) (by omega) (f_X9_kind_ok X (by omega) (by omega) nn v8 h e_u10) ?_
        clear e_u10
        show mx_S X F L 69 24 [(0, .ref l0), (1, .int l1), (2, .int l2), (3, .int l3)] [.int u10.1] u10.2 0 0 (none, r, 0, 0)
        rcases mx_if_el hf with ⟨c21, hf⟩ | ⟨c21, hf⟩
        · refine sb_if_eq hm dX2_skipBlock_24 (tgt := 89) rfl (fun _ => ?_) (fun z => absurd c21 z)
          cases hf
          exact sx_ret hm dX2_skipBlock_89 rfl
        · refine sb_if_eq hm dX2_skipBlock_24 (tgt := 89) rfl (fun z => absurd z c21) (fun _ => ?_)
          refine mx_S.pu (pc2 := 28) (lv2 := [(0, .ref l0), (1, .int l1), (2, .int l2), (3, .int l3)]) (st2 := [.ref l0]) hm dX2_skipBlock_27 rfl ?_
          replace hf := mx_sv_el hf; obtain ⟨v11, e_v11, hf⟩ := hf
          refine sx_get hm dX2_skipBlock_28 rs_RX2_74 (xgr_el e_v11) ?_
          clear e_v11
          replace hf := mx_gd_el hf; obtain ⟨c12, hf⟩ := hf
          replace hf := mx_sv_el hf; obtain ⟨u13, e_u13, hf⟩ := hf
          refine sx_cv hm dX2_skipBlock_31 rs_RX2_121 mt_X9_kind [] [] (b := v11) (ci := 9) rfl rfl rfl c12 (Nat.le_of_ble_eq_true rfl) (Nat.le_of_ble_eq_true rfl) (by omega) (by omega) (f_X9_kind_ok X (by omega) (by omega) nn v11 u10.2 e_u13) ?_
          clear e_u13
          show mx_S X F L 69 34 [(0, .ref l0), (1, .int l1), (2, .int l2), (3, .int l3)] [.int u13.1] u13.2 0 0 (none, r, 0, 0)
          refine sx_bi (v := 42) hm dX2_skipBlock_34 (by decide) ?_
          rcases mx_if_el hf with ⟨c20, hf⟩ | ⟨c20, hf⟩
          · refine sb_ic_ne hm dX2_skipBlock_36 (tgt := 45) rfl (fun _ => ?_) (fun z => absurd c20 z)
            refine mx_S.pu (pc2 := 46) (lv2 := [(0, .ref l0), (1, .int l1), (2, .int l2), (3, .int l3)]) (st2 := [.ref l0]) hm dX2_skipBlock_45 rfl ?_
            replace hf := mx_sv_el hf; obtain ⟨v14, e_v14, hf⟩ := hf
            refine sx_get hm dX2_skipBlock_46 rs_RX2_74 (xgr_el e_v14) ?_
            clear e_v14
            replace hf := mx_gd_el hf; obtain ⟨c15, hf⟩ := hf
            replace hf := mx_sv_el hf; obtain ⟨u16, e_u16, hf⟩ := hf
            refine sx_cv hm dX2_skipBlock_49 rs_RX2_121 mt_X9_kind [] [] (b := v14) (ci := 9) rfl rfl rfl c15 (Nat.le_of_ble_eq_true rfl) (Nat.le_of_ble_eq_true rfl) (by omega) (by omega) (f_X9_kind_ok X (by omega) (by omega) nn v14 u13.2 e_u16) ?_
            clear e_u16
            show mx_S X F L 69 52 [(0, .ref l0), (1, .int l1), (2, .int l2), (3, .int l3)] [.int u16.1] u16.2 0 0 (none, r, 0, 0)
            refine sx_bi (v := 43) hm dX2_skipBlock_52 (by decide) ?_
            rcases mx_if_el hf with ⟨c18, hf⟩ | ⟨c18, hf⟩
            · refine sb_ic_ne hm dX2_skipBlock_54 (tgt := 60) rfl (fun _ => ?_) (fun z => absurd c18 z)
              refine mx_S.ext [(0, .ref l0), (1, .int l1), (3, .int l3)] (mx_sub_pos [0, 1, 3] rfl (show ([0, 1, 2, 3] : List Nat).Nodup by decide)) ?_
              exact j_X2_skipBlock_60_ok X hF hL nn ih l0 l1 l3 u16.2 hf
            · refine sb_ic_ne hm dX2_skipBlock_54 (tgt := 60) rfl (fun z => absurd z c18) (fun _ => ?_)
              replace hf := xl_el hf; obtain ⟨v17, e_v17, hf⟩ := hf
              refine mx_S.pu (pc2 := 60) (lv2 := [(1, .int v17), (0, .ref l0), (2, .int l2), (3, .int l3)]) (st2 := []) hm dX2_skipBlock_57 (by rw [← e_v17]; rfl) ?_
              clear e_v17
              refine mx_S.ext [(0, .ref l0), (1, .int v17), (3, .int l3)] (mx_sub_pos [1, 0, 3] rfl (show ([1, 0, 2, 3] : List Nat).Nodup by decide)) ?_
              exact j_X2_skipBlock_60_ok X hF hL nn ih l0 v17 l3 u16.2 hf
          · refine sb_ic_ne hm dX2_skipBlock_36 (tgt := 45) rfl (fun z => absurd z c20) (fun _ => ?_)
            replace hf := xl_el hf; obtain ⟨v19, e_v19, hf⟩ := hf
            refine mx_S.pu (pc2 := 42) (lv2 := [(1, .int v19), (0, .ref l0), (2, .int l2), (3, .int l3)]) (st2 := []) hm dX2_skipBlock_39 (by rw [← e_v19]; rfl) ?_
            clear e_v19
            refine mx_S.pu (pc2 := 60) (lv2 := [(1, .int v19), (0, .ref l0), (2, .int l2), (3, .int l3)]) (st2 := []) hm dX2_skipBlock_42 rfl ?_
            refine mx_S.ext [(0, .ref l0), (1, .int v19), (3, .int l3)] (mx_sub_pos [1, 0, 3] rfl (show ([1, 0, 2, 3] : List Nat).Nodup by decide)) ?_
            exact j_X2_skipBlock_60_ok X hF hL nn ih l0 v19 l3 u13.2 hf
set_option maxHeartbeats 4000000 in
set_option maxRecDepth 20000 in
theorem f_X2_skipBlock_ok (X : Nat × (Nat → Int32)) {F L : Nat} (hF : 1 ≤ F) (hL : 20 ≤ L) (nn : Nat) (a0 : Nat) (h : mx_H) {r : mx_H} (hf : f_X2_skipBlock nn a0 h = some r) : mx_R X F L 69 [.ref a0] h (none, r, 0, 0) := by
  have hm : mx_mt 69 = some (yX2_skipBlock, cX2_skipBlock, 4, none) := mt_X2_skipBlock
  show mx_S X F L 69 0 [(0, .ref a0)] [] h 0 0 (none, r, 0, 0)
  unfold f_X2_skipBlock at hf
  refine sx_ic (v := 0) hm dX2_skipBlock_0 (by decide) ?_
  refine mx_S.pu (pc2 := 2) (lv2 := [(1, .int 0), (0, .ref a0)]) (st2 := []) hm dX2_skipBlock_1 rfl ?_
  refine sx_ic (v := 1) hm dX2_skipBlock_2 (by decide) ?_
  refine mx_S.pu (pc2 := 4) (lv2 := [(2, .int 1), (1, .int 0), (0, .ref a0)]) (st2 := []) hm dX2_skipBlock_3 rfl ?_
  refine sx_ic (v := 0) hm dX2_skipBlock_4 (by decide) ?_
  refine mx_S.pu (pc2 := 6) (lv2 := [(3, .int 0), (2, .int 1), (1, .int 0), (0, .ref a0)]) (st2 := []) hm dX2_skipBlock_5 rfl ?_
  refine mx_S.ext [(0, .ref a0), (1, .int 0), (2, .int 1), (3, .int 0)] (mx_sub_pos [3, 2, 1, 0] rfl (show ([3, 2, 1, 0] : List Nat).Nodup by decide)) ?_
  exact w_X2_skipBlock_6_ok X hF hL nn nn a0 0 1 0 h _ hf
set_option maxHeartbeats 4000000 in
set_option maxRecDepth 20000 in
theorem j_X2_addMethod_162_ok (X : Nat × (Nat → Int32)) {F L : Nat} (hF : 4 ≤ F) (hL : 93 ≤ L) (nn : Nat) (l0 : Nat) (l5 : Int32) (h : mx_H) {r : mx_H} (hf : j_X2_addMethod_162 nn l0 l5 h = some r) : mx_S X F L 67 162 [(0, .ref l0), (5, .int l5)] [] h 0 0 (none, r, 0, 0) := by
  have hm : mx_mt 67 = some (yX2_addMethod, cX2_addMethod, 7, none) := mt_X2_addMethod
  unfold j_X2_addMethod_162 at hf
  refine mx_S.pu (pc2 := 163) (lv2 := [(0, .ref l0), (5, .int l5)]) (st2 := [.ref l0]) hm dX2_addMethod_162 rfl ?_
  replace hf := mx_sv_el hf; obtain ⟨v1, e_v1, hf⟩ := hf
  refine sx_get hm dX2_addMethod_163 rs_RX2_74 (xgr_el e_v1) ?_
  clear e_v1
  refine mx_S.pu (pc2 := 167) (lv2 := [(0, .ref l0), (5, .int l5)]) (st2 := [.ref v1, .ref v1]) hm dX2_addMethod_166 rfl ?_
  replace hf := mx_sv_el hf; obtain ⟨v2, e_v2, hf⟩ := hf
  refine sx_get hm dX2_addMethod_167 rs_RX2_118 (xgi_el e_v2) ?_
  clear e_v2
  refine sx_ic (v := 1) hm dX2_addMethod_170 (by decide) ?_
  replace hf := xl_el hf; obtain ⟨v3, e_v3, hf⟩ := hf
  refine mx_S.pu (pc2 := 172) (lv2 := [(0, .ref l0), (5, .int l5)]) (st2 := [.int v3, .ref v1]) hm dX2_addMethod_171 (by rw [← e_v3]; rfl) ?_
  clear e_v3
  replace hf := mx_sv_el hf; obtain ⟨h4, e_h4, hf⟩ := hf
  refine sx_put hm dX2_addMethod_172 rs_RX2_118 ft_9_10 ⟨rfl, rfl⟩ (fun z => by cases z) e_h4 ?_
  clear e_h4
  refine mx_S.pu (pc2 := 176) (lv2 := [(0, .ref l0), (5, .int l5)]) (st2 := [.ref l0]) hm dX2_addMethod_175 rfl ?_
  replace hf := mx_sv_el hf; obtain ⟨v5, e_v5, hf⟩ := hf
  refine sx_get hm dX2_addMethod_176 rs_RX2_45 (xgr_el e_v5) ?_
  clear e_v5
  refine mx_S.pu (pc2 := 181) (lv2 := [(0, .ref l0), (5, .int l5)]) (st2 := [.int l5, .ref v5]) hm dX2_addMethod_179 rfl ?_
  refine mx_S.pu (pc2 := 182) (lv2 := [(0, .ref l0), (5, .int l5)]) (st2 := [.ref l0, .int l5, .ref v5]) hm dX2_addMethod_181 rfl ?_
  replace hf := mx_sv_el hf; obtain ⟨v6, e_v6, hf⟩ := hf
  refine sx_get hm dX2_addMethod_182 rs_RX2_74 (xgr_el e_v6) ?_
  clear e_v6
  replace hf := mx_sv_el hf; obtain ⟨v7, e_v7, hf⟩ := hf
  refine sx_get hm dX2_addMethod_185 rs_RX2_118 (xgi_el e_v7) ?_
  clear e_v7
  replace hf := mx_sv_el hf; obtain ⟨h8, e_h8, hf⟩ := hf
  refine sx_ast hm dX2_addMethod_188 e_h8 ?_
  clear e_h8
  refine mx_S.pu (pc2 := 190) (lv2 := [(0, .ref l0), (5, .int l5)]) (st2 := [.ref l0]) hm dX2_addMethod_189 rfl ?_
  replace hf := mx_gd_el hf; obtain ⟨c9, hf⟩ := hf
  replace hf := mx_sv_el hf; obtain ⟨u10, e_u10, hf⟩ := hf
  refine sx_cv hm dX2_addMethod_190 rs_RX2_212 mt_X2_skipBlock [] [] (b := l0) (ci := 2) rfl rfl rfl c9 (Nat.le_of_ble_eq_true rfl) (Nat.le_of_ble_eq_true rfl) (by omega) (by omega) (f_X2_skipBlock_ok X (by omega) (by omega) nn l0 h8 e_u10) ?_
  clear e_u10
  show mx_S X F L 67 193 [(0, .ref l0), (5, .int l5)] [] u10 0 0 (none, r, 0, 0)
  cases hf
  exact sx_ret hm dX2_addMethod_193 rfl
set_option maxHeartbeats 4000000 in
set_option maxRecDepth 20000 in
theorem w_X2_addMethod_120_ok (X : Nat × (Nat → Int32)) {F L : Nat} (hF : 4 ≤ F) (hL : 93 ≤ L) (nn : Nat) : ∀ (k : Nat) (l0 : Nat) (l5 : Int32) (l6 : Int32) (h : mx_H) (r : mx_H), w_X2_addMethod_120 nn k l0 l5 l6 h = some r → mx_S X F L 67 120 [(0, .ref l0), (5, .int l5), (6, .int l6)] [] h 0 0 (none, r, 0, 0) := by
  have hm : mx_mt 67 = some (yX2_addMethod, cX2_addMethod, 7, none) := mt_X2_addMethod
  intro k
  induction k with
  | zero => intro l0 l5 l6 h r hf; cases hf
  | succ k ih =>
    intro l0 l5 l6 h r hf
    unfold w_X2_addMethod_120 at hf
    refine mx_S.pu (pc2 := 122) (lv2 := [(0, .ref l0), (5, .int l5), (6, .int l6)]) (st2 := [.int l6]) hm dX2_addMethod_120 rfl ?_
    refine sx_si (v := 3000) hm dX2_addMethod_122 (by decide) ?_
    rcases mx_if_el hf with ⟨c21, hf⟩ | ⟨c21, hf⟩
    · refine sb_ic_ge hm dX2_addMethod_125 (tgt := 162) rfl (fun _ => ?_) (fun z => absurd c21 z)
      refine mx_S.ext [(0, .ref l0), (5, .int l5)] (mx_sub_pos [0, 1] rfl (show ([0, 5, 6] : List Nat).Nodup by decide)) ?_
      exact j_X2_addMethod_162_ok X hF hL nn l0 l5 h hf
    · refine sb_ic_ge hm dX2_addMethod_125 (tgt := 162) rfl (fun z => absurd z c21) (fun _ => ?_)
      refine mx_S.pu (pc2 := 129) (lv2 := [(0, .ref l0), (5, .int l5), (6, .int l6)]) (st2 := [.ref l0]) hm dX2_addMethod_128 rfl ?_
      replace hf := mx_sv_el hf; obtain ⟨v11, e_v11, hf⟩ := hf
      refine sx_get hm dX2_addMethod_129 rs_RX2_74 (xgr_el e_v11) ?_
      clear e_v11
      replace hf := mx_sv_el hf; obtain ⟨v12, e_v12, hf⟩ := hf
      refine sx_get hm dX2_addMethod_132 rs_RX2_91 (xgi_el e_v12) ?_
      clear e_v12
      rcases mx_if_el hf with ⟨c20, hf⟩ | ⟨c20, hf⟩
      · refine sb_if_ne hm dX2_addMethod_135 (tgt := 162) rfl (fun _ => ?_) (fun z => absurd c20 z)
        refine mx_S.ext [(0, .ref l0), (5, .int l5)] (mx_sub_pos [0, 1] rfl (show ([0, 5, 6] : List Nat).Nodup by decide)) ?_
        exact j_X2_addMethod_162_ok X hF hL nn l0 l5 h hf
      · refine sb_if_ne hm dX2_addMethod_135 (tgt := 162) rfl (fun z => absurd z c20) (fun _ => ?_)
        refine mx_S.pu (pc2 := 139) (lv2 := [(0, .ref l0), (5, .int l5), (6, .int l6)]) (st2 := [.ref l0]) hm dX2_addMethod_138 rfl ?_
        replace hf := mx_sv_el hf; obtain ⟨v13, e_v13, hf⟩ := hf
        refine sx_get hm dX2_addMethod_139 rs_RX2_74 (xgr_el e_v13) ?_
        clear e_v13
        replace hf := mx_gd_el hf; obtain ⟨c14, hf⟩ := hf
        replace hf := mx_sv_el hf; obtain ⟨u15, e_u15, hf⟩ := hf
        refine sx_cv hm dX2_addMethod_142 rs_RX2_121 mt_X9_kind [] [] (b := v13) (ci := 9) rfl rfl rfl c14 (Nat.le_of_ble_eq_true rfl) (Nat.le_of_ble_eq_true rfl) (by omega) (by omega) (f_X9_kind_ok X (by omega) (by omega) nn v13 h e_u15) ?_
        clear e_u15
        show mx_S X F L 67 145 [(0, .ref l0), (5, .int l5), (6, .int l6)] [.int u15.1] u15.2 0 0 (none, r, 0, 0)
        refine sx_bi (v := 41) hm dX2_addMethod_145 (by decide) ?_
        rcases mx_if_el hf with ⟨c19, hf⟩ | ⟨c19, hf⟩
        · refine sb_ic_eq hm dX2_addMethod_147 (tgt := 162) rfl (fun _ => ?_) (fun z => absurd c19 z)
          refine mx_S.ext [(0, .ref l0), (5, .int l5)] (mx_sub_pos [0, 1] rfl (show ([0, 5, 6] : List Nat).Nodup by decide)) ?_
          exact j_X2_addMethod_162_ok X hF hL nn l0 l5 u15.2 hf
        · refine sb_ic_eq hm dX2_addMethod_147 (tgt := 162) rfl (fun z => absurd z c19) (fun _ => ?_)
          refine mx_S.pu (pc2 := 151) (lv2 := [(0, .ref l0), (5, .int l5), (6, .int l6)]) (st2 := [.ref l0]) hm dX2_addMethod_150 rfl ?_
          refine mx_S.pu (pc2 := 153) (lv2 := [(0, .ref l0), (5, .int l5), (6, .int l6)]) (st2 := [.int l5, .ref l0]) hm dX2_addMethod_151 rfl ?_
          replace hf := mx_gd_el hf; obtain ⟨c16, hf⟩ := hf
          replace hf := mx_sv_el hf; obtain ⟨u17, e_u17, hf⟩ := hf
          refine sx_cv hm dX2_addMethod_153 rs_RX2_209 mt_X2_addParameter [.int l5] [] (b := l0) (ci := 2) rfl rfl rfl c16 (Nat.le_of_ble_eq_true rfl) (Nat.le_of_ble_eq_true rfl) (by omega) (by omega) (f_X2_addParameter_ok X (by omega) (by omega) nn l0 l5 u15.2 e_u17) ?_
          clear e_u17
          show mx_S X F L 67 156 [(0, .ref l0), (5, .int l5), (6, .int l6)] [] u17 0 0 (none, r, 0, 0)
          replace hf := xl_el hf; obtain ⟨v18, e_v18, hf⟩ := hf
          refine mx_S.pu (pc2 := 159) (lv2 := [(6, .int v18), (0, .ref l0), (5, .int l5)]) (st2 := []) hm dX2_addMethod_156 (by rw [← e_v18]; rfl) ?_
          clear e_v18
          refine mx_S.pu (pc2 := 120) (lv2 := [(6, .int v18), (0, .ref l0), (5, .int l5)]) (st2 := []) hm dX2_addMethod_159 rfl ?_
          refine mx_S.ext [(0, .ref l0), (5, .int l5), (6, .int v18)] (mx_sub_pos [1, 2, 0] rfl (show ([6, 0, 5] : List Nat).Nodup by decide)) ?_
          exact ih l0 l5 v18 u17 _ hf
set_option maxHeartbeats 4000000 in
set_option maxRecDepth 20000 in
theorem j_X2_addMethod_48_ok (X : Nat × (Nat → Int32)) {F L : Nat} (hF : 4 ≤ F) (hL : 93 ≤ L) (nn : Nat) (l0 : Nat) (l1 : Int32) (l2 : Int32) (l3 : Int32) (l4 : Int32) (h : mx_H) {r : mx_H} (hf : j_X2_addMethod_48 nn l0 l1 l2 l3 l4 h = some r) : mx_S X F L 67 48 [(0, .ref l0), (1, .int l1), (2, .int l2), (3, .int l3), (4, .int l4)] [] h 0 0 (none, r, 0, 0) := by
  have hm : mx_mt 67 = some (yX2_addMethod, cX2_addMethod, 7, none) := mt_X2_addMethod
  unfold j_X2_addMethod_48 at hf
  refine mx_S.pu (pc2 := 49) (lv2 := [(0, .ref l0), (1, .int l1), (2, .int l2), (3, .int l3), (4, .int l4)]) (st2 := [.int l1]) hm dX2_addMethod_48 rfl ?_
  refine sx_bi (v := 12) hm dX2_addMethod_49 (by decide) ?_
  replace hf := xl_el hf; obtain ⟨v22, e_v22, hf⟩ := hf
  refine mx_S.pu (pc2 := 52) (lv2 := [(0, .ref l0), (1, .int l1), (2, .int l2), (3, .int l3), (4, .int l4)]) (st2 := [.int v22]) hm dX2_addMethod_51 (by rw [← e_v22]; rfl) ?_
  clear e_v22
  refine mx_S.pu (pc2 := 53) (lv2 := [(0, .ref l0), (1, .int l1), (2, .int l2), (3, .int l3), (4, .int l4)]) (st2 := [.ref l0, .int v22]) hm dX2_addMethod_52 rfl ?_
  replace hf := mx_sv_el hf; obtain ⟨v23, e_v23, hf⟩ := hf
  refine sx_get hm dX2_addMethod_53 rs_RX2_39 (xgr_el e_v23) ?_
  clear e_v23
  refine mx_S.pu (pc2 := 57) (lv2 := [(0, .ref l0), (1, .int l1), (2, .int l2), (3, .int l3), (4, .int l4)]) (st2 := [.int l1, .ref v23, .int v22]) hm dX2_addMethod_56 rfl ?_
  replace hf := mx_sv_el hf; obtain ⟨v24, e_v24, hf⟩ := hf
  refine sx_ald hm dX2_addMethod_57 e_v24 ?_
  clear e_v24
  replace hf := xl_el hf; obtain ⟨v25, e_v25, hf⟩ := hf
  refine mx_S.pu (pc2 := 59) (lv2 := [(0, .ref l0), (1, .int l1), (2, .int l2), (3, .int l3), (4, .int l4)]) (st2 := [.int v25]) hm dX2_addMethod_58 (by rw [← e_v25]; rfl) ?_
  clear e_v25
  refine mx_S.pu (pc2 := 61) (lv2 := [(5, .int v25), (0, .ref l0), (1, .int l1), (2, .int l2), (3, .int l3), (4, .int l4)]) (st2 := []) hm dX2_addMethod_59 rfl ?_
  refine mx_S.pu (pc2 := 62) (lv2 := [(5, .int v25), (0, .ref l0), (1, .int l1), (2, .int l2), (3, .int l3), (4, .int l4)]) (st2 := [.ref l0]) hm dX2_addMethod_61 rfl ?_
  replace hf := mx_sv_el hf; obtain ⟨v26, e_v26, hf⟩ := hf
  refine sx_get hm dX2_addMethod_62 rs_RX2_42 (xgr_el e_v26) ?_
  clear e_v26
  refine mx_S.pu (pc2 := 67) (lv2 := [(5, .int v25), (0, .ref l0), (1, .int l1), (2, .int l2), (3, .int l3), (4, .int l4)]) (st2 := [.int v25, .ref v26]) hm dX2_addMethod_65 rfl ?_
  refine mx_S.pu (pc2 := 68) (lv2 := [(5, .int v25), (0, .ref l0), (1, .int l1), (2, .int l2), (3, .int l3), (4, .int l4)]) (st2 := [.int l2, .int v25, .ref v26]) hm dX2_addMethod_67 rfl ?_
  replace hf := mx_sv_el hf; obtain ⟨h27, e_h27, hf⟩ := hf
  refine sx_ast hm dX2_addMethod_68 e_h27 ?_
  clear e_h27
  refine mx_S.pu (pc2 := 70) (lv2 := [(5, .int v25), (0, .ref l0), (1, .int l1), (2, .int l2), (3, .int l3), (4, .int l4)]) (st2 := [.ref l0]) hm dX2_addMethod_69 rfl ?_
  replace hf := mx_sv_el hf; obtain ⟨v28, e_v28, hf⟩ := hf
  refine sx_get hm dX2_addMethod_70 rs_RX2_48 (xgr_el e_v28) ?_
  clear e_v28
  refine mx_S.pu (pc2 := 75) (lv2 := [(5, .int v25), (0, .ref l0), (1, .int l1), (2, .int l2), (3, .int l3), (4, .int l4)]) (st2 := [.int v25, .ref v28]) hm dX2_addMethod_73 rfl ?_
  refine mx_S.pu (pc2 := 76) (lv2 := [(5, .int v25), (0, .ref l0), (1, .int l1), (2, .int l2), (3, .int l3), (4, .int l4)]) (st2 := [.int l3, .int v25, .ref v28]) hm dX2_addMethod_75 rfl ?_
  replace hf := mx_sv_el hf; obtain ⟨h29, e_h29, hf⟩ := hf
  refine sx_ast hm dX2_addMethod_76 e_h29 ?_
  clear e_h29
  refine mx_S.pu (pc2 := 78) (lv2 := [(5, .int v25), (0, .ref l0), (1, .int l1), (2, .int l2), (3, .int l3), (4, .int l4)]) (st2 := [.ref l0]) hm dX2_addMethod_77 rfl ?_
  replace hf := mx_sv_el hf; obtain ⟨v30, e_v30, hf⟩ := hf
  refine sx_get hm dX2_addMethod_78 rs_RX2_51 (xgr_el e_v30) ?_
  clear e_v30
  refine mx_S.pu (pc2 := 83) (lv2 := [(5, .int v25), (0, .ref l0), (1, .int l1), (2, .int l2), (3, .int l3), (4, .int l4)]) (st2 := [.int v25, .ref v30]) hm dX2_addMethod_81 rfl ?_
  refine mx_S.pu (pc2 := 85) (lv2 := [(5, .int v25), (0, .ref l0), (1, .int l1), (2, .int l2), (3, .int l3), (4, .int l4)]) (st2 := [.int l4, .int v25, .ref v30]) hm dX2_addMethod_83 rfl ?_
  replace hf := mx_sv_el hf; obtain ⟨h31, e_h31, hf⟩ := hf
  refine sx_bst hm dX2_addMethod_85 e_h31 ?_
  clear e_h31
  refine mx_S.pu (pc2 := 87) (lv2 := [(5, .int v25), (0, .ref l0), (1, .int l1), (2, .int l2), (3, .int l3), (4, .int l4)]) (st2 := [.ref l0]) hm dX2_addMethod_86 rfl ?_
  replace hf := mx_sv_el hf; obtain ⟨v32, e_v32, hf⟩ := hf
  refine sx_get hm dX2_addMethod_87 rs_RX2_58 (xgr_el e_v32) ?_
  clear e_v32
  refine mx_S.pu (pc2 := 92) (lv2 := [(5, .int v25), (0, .ref l0), (1, .int l1), (2, .int l2), (3, .int l3), (4, .int l4)]) (st2 := [.int v25, .ref v32]) hm dX2_addMethod_90 rfl ?_
  refine sx_ic (v := 0) hm dX2_addMethod_92 (by decide) ?_
  replace hf := mx_sv_el hf; obtain ⟨h33, e_h33, hf⟩ := hf
  refine sx_ast hm dX2_addMethod_93 e_h33 ?_
  clear e_h33
  refine mx_S.pu (pc2 := 95) (lv2 := [(5, .int v25), (0, .ref l0), (1, .int l1), (2, .int l2), (3, .int l3), (4, .int l4)]) (st2 := [.ref l0]) hm dX2_addMethod_94 rfl ?_
  replace hf := mx_sv_el hf; obtain ⟨v34, e_v34, hf⟩ := hf
  refine sx_get hm dX2_addMethod_95 rs_RX2_39 (xgr_el e_v34) ?_
  clear e_v34
  refine mx_S.pu (pc2 := 99) (lv2 := [(5, .int v25), (0, .ref l0), (1, .int l1), (2, .int l2), (3, .int l3), (4, .int l4)]) (st2 := [.int l1, .ref v34]) hm dX2_addMethod_98 rfl ?_
  refine mx_S.pu (pc2 := 100) (lv2 := [(5, .int v25), (0, .ref l0), (1, .int l1), (2, .int l2), (3, .int l3), (4, .int l4)]) (st2 := [.int l1, .ref v34, .int l1, .ref v34]) hm dX2_addMethod_99 rfl ?_
  replace hf := mx_sv_el hf; obtain ⟨v35, e_v35, hf⟩ := hf
  refine sx_ald hm dX2_addMethod_100 e_v35 ?_
  clear e_v35
  refine sx_ic (v := 1) hm dX2_addMethod_101 (by decide) ?_
  replace hf := xl_el hf; obtain ⟨v36, e_v36, hf⟩ := hf
  refine mx_S.pu (pc2 := 103) (lv2 := [(5, .int v25), (0, .ref l0), (1, .int l1), (2, .int l2), (3, .int l3), (4, .int l4)]) (st2 := [.int v36, .int l1, .ref v34]) hm dX2_addMethod_102 (by rw [← e_v36]; rfl) ?_
  clear e_v36
  replace hf := mx_sv_el hf; obtain ⟨h37, e_h37, hf⟩ := hf
  refine sx_ast hm dX2_addMethod_103 e_h37 ?_
  clear e_h37
  refine mx_S.pu (pc2 := 105) (lv2 := [(5, .int v25), (0, .ref l0), (1, .int l1), (2, .int l2), (3, .int l3), (4, .int l4)]) (st2 := [.ref l0]) hm dX2_addMethod_104 rfl ?_
  replace hf := mx_sv_el hf; obtain ⟨v38, e_v38, hf⟩ := hf
  refine sx_get hm dX2_addMethod_105 rs_RX2_74 (xgr_el e_v38) ?_
  clear e_v38
  refine mx_S.pu (pc2 := 109) (lv2 := [(5, .int v25), (0, .ref l0), (1, .int l1), (2, .int l2), (3, .int l3), (4, .int l4)]) (st2 := [.ref v38, .ref v38]) hm dX2_addMethod_108 rfl ?_
  replace hf := mx_sv_el hf; obtain ⟨v39, e_v39, hf⟩ := hf
  refine sx_get hm dX2_addMethod_109 rs_RX2_118 (xgi_el e_v39) ?_
  clear e_v39
  refine sx_ic (v := 1) hm dX2_addMethod_112 (by decide) ?_
  replace hf := xl_el hf; obtain ⟨v40, e_v40, hf⟩ := hf
  refine mx_S.pu (pc2 := 114) (lv2 := [(5, .int v25), (0, .ref l0), (1, .int l1), (2, .int l2), (3, .int l3), (4, .int l4)]) (st2 := [.int v40, .ref v38]) hm dX2_addMethod_113 (by rw [← e_v40]; rfl) ?_
  clear e_v40
  replace hf := mx_sv_el hf; obtain ⟨h41, e_h41, hf⟩ := hf
  refine sx_put hm dX2_addMethod_114 rs_RX2_118 ft_9_10 ⟨rfl, rfl⟩ (fun z => by cases z) e_h41 ?_
  clear e_h41
  refine sx_ic (v := 0) hm dX2_addMethod_117 (by decide) ?_
  refine mx_S.pu (pc2 := 120) (lv2 := [(6, .int 0), (5, .int v25), (0, .ref l0), (1, .int l1), (2, .int l2), (3, .int l3), (4, .int l4)]) (st2 := []) hm dX2_addMethod_118 rfl ?_
  refine mx_S.ext [(0, .ref l0), (5, .int v25), (6, .int 0)] (mx_sub_pos [2, 1, 0] rfl (show ([6, 5, 0, 1, 2, 3, 4] : List Nat).Nodup by decide)) ?_
  exact w_X2_addMethod_120_ok X hF hL nn nn l0 v25 0 h41 _ hf
set_option maxHeartbeats 4000000 in
set_option maxRecDepth 20000 in
theorem f_X2_addMethod_ok (X : Nat × (Nat → Int32)) {F L : Nat} (hF : 4 ≤ F) (hL : 93 ≤ L) (nn : Nat) (a0 : Nat) (a1 : Int32) (a2 : Int32) (a3 : Int32) (a4 : Int32) (h : mx_H) {r : mx_H} (hf : f_X2_addMethod nn a0 a1 a2 a3 a4 h = some r) : mx_R X F L 67 [.ref a0, .int a1, .int a2, .int a3, .int a4] h (none, r, 0, 0) := by
  have hm : mx_mt 67 = some (yX2_addMethod, cX2_addMethod, 7, none) := mt_X2_addMethod
  show mx_S X F L 67 0 [(0, .ref a0), (1, .int a1), (2, .int a2), (3, .int a3), (4, .int a4)] [] h 0 0 (none, r, 0, 0)
  unfold f_X2_addMethod at hf
  refine mx_S.pu (pc2 := 1) (lv2 := [(0, .ref a0), (1, .int a1), (2, .int a2), (3, .int a3), (4, .int a4)]) (st2 := [.ref a0]) hm dX2_addMethod_0 rfl ?_
  replace hf := mx_sv_el hf; obtain ⟨v42, e_v42, hf⟩ := hf
  refine sx_get hm dX2_addMethod_1 rs_RX2_39 (xgr_el e_v42) ?_
  clear e_v42
  refine mx_S.pu (pc2 := 5) (lv2 := [(0, .ref a0), (1, .int a1), (2, .int a2), (3, .int a3), (4, .int a4)]) (st2 := [.int a1, .ref v42]) hm dX2_addMethod_4 rfl ?_
  replace hf := mx_sv_el hf; obtain ⟨v43, e_v43, hf⟩ := hf
  refine sx_ald hm dX2_addMethod_5 e_v43 ?_
  clear e_v43
  refine sx_bi (v := 12) hm dX2_addMethod_6 (by decide) ?_
  rcases mx_if_el hf with ⟨c56, hf⟩ | ⟨c56, hf⟩
  · refine sb_ic_lt hm dX2_addMethod_8 (tgt := 22) rfl (fun _ => ?_) (fun z => absurd c56 z)
    refine mx_S.pu (pc2 := 23) (lv2 := [(0, .ref a0), (1, .int a1), (2, .int a2), (3, .int a3), (4, .int a4)]) (st2 := [.ref a0]) hm dX2_addMethod_22 rfl ?_
    refine mx_S.pu (pc2 := 24) (lv2 := [(0, .ref a0), (1, .int a1), (2, .int a2), (3, .int a3), (4, .int a4)]) (st2 := [.int a1, .ref a0]) hm dX2_addMethod_23 rfl ?_
    refine mx_S.pu (pc2 := 25) (lv2 := [(0, .ref a0), (1, .int a1), (2, .int a2), (3, .int a3), (4, .int a4)]) (st2 := [.ref a0, .int a1, .ref a0]) hm dX2_addMethod_24 rfl ?_
    replace hf := mx_sv_el hf; obtain ⟨v44, e_v44, hf⟩ := hf
    refine sx_get hm dX2_addMethod_25 rs_RX2_74 (xgr_el e_v44) ?_
    clear e_v44
    refine mx_S.pu (pc2 := 29) (lv2 := [(0, .ref a0), (1, .int a1), (2, .int a2), (3, .int a3), (4, .int a4)]) (st2 := [.int a2, .ref v44, .int a1, .ref a0]) hm dX2_addMethod_28 rfl ?_
    replace hf := mx_gd_el hf; obtain ⟨c45, hf⟩ := hf
    replace hf := mx_sv_el hf; obtain ⟨u46, e_u46, hf⟩ := hf
    refine sx_cv hm dX2_addMethod_29 rs_RX2_135 mt_X9_valueAt [.int a2] [.int a1, .ref a0] (b := v44) (ci := 9) rfl rfl rfl c45 (Nat.le_of_ble_eq_true rfl) (Nat.le_of_ble_eq_true rfl) (by omega) (by omega) (f_X9_valueAt_ok X (by omega) (by omega) nn v44 a2 h e_u46) ?_
    clear e_u46
    show mx_S X F L 67 32 [(0, .ref a0), (1, .int a1), (2, .int a2), (3, .int a3), (4, .int a4)] [.int u46.1, .int a1, .ref a0] u46.2 0 0 (none, r, 0, 0)
    replace hf := mx_gd_el hf; obtain ⟨c47, hf⟩ := hf
    replace hf := mx_sv_el hf; obtain ⟨u48, e_u48, hf⟩ := hf
    refine sx_cv hm dX2_addMethod_32 rs_RX2_206 mt_X2_methodIn [.int a1, .int u46.1] [] (b := a0) (ci := 2) rfl rfl rfl c47 (Nat.le_of_ble_eq_true rfl) (Nat.le_of_ble_eq_true rfl) (by omega) (by omega) (f_X2_methodIn_ok X (by omega) (by omega) nn a0 a1 u46.1 u46.2 e_u48) ?_
    clear e_u48
    show mx_S X F L 67 35 [(0, .ref a0), (1, .int a1), (2, .int a2), (3, .int a3), (4, .int a4)] [.int u48.1] u48.2 0 0 (none, r, 0, 0)
    refine sx_ic (v := (-1)) hm dX2_addMethod_35 (by decide) ?_
    rcases mx_if_el hf with ⟨c52, hf⟩ | ⟨c52, hf⟩
    · refine sb_ic_eq hm dX2_addMethod_36 (tgt := 48) rfl (fun _ => ?_) (fun z => absurd c52 z)
      exact j_X2_addMethod_48_ok X hF hL nn a0 a1 a2 a3 a4 u48.2 hf
    · refine sb_ic_eq hm dX2_addMethod_36 (tgt := 48) rfl (fun z => absurd z c52) (fun _ => ?_)
      refine mx_S.pu (pc2 := 40) (lv2 := [(0, .ref a0), (1, .int a1), (2, .int a2), (3, .int a3), (4, .int a4)]) (st2 := [.ref a0]) hm dX2_addMethod_39 rfl ?_
      replace hf := mx_sv_el hf; obtain ⟨v49, e_v49, hf⟩ := hf
      refine sx_get hm dX2_addMethod_40 rs_RX2_74 (xgr_el e_v49) ?_
      clear e_v49
      refine sx_ic (v := 4) hm dX2_addMethod_43 (by decide) ?_
      refine mx_S.pu (pc2 := 45) (lv2 := [(0, .ref a0), (1, .int a1), (2, .int a2), (3, .int a3), (4, .int a4)]) (st2 := [.int a2, .int 4, .ref v49]) hm dX2_addMethod_44 rfl ?_
      replace hf := mx_gd_el hf; obtain ⟨c50, hf⟩ := hf
      replace hf := mx_sv_el hf; obtain ⟨u51, e_u51, hf⟩ := hf
      refine sx_cv hm dX2_addMethod_45 rs_RX2_186 mt_X9_tell [.int 4, .int a2] [] (b := v49) (ci := 9) rfl rfl rfl c50 (Nat.le_of_ble_eq_true rfl) (Nat.le_of_ble_eq_true rfl) (by omega) (by omega) (f_X9_tell_ok X (by omega) (by omega) nn v49 4 a2 u48.2 e_u51) ?_
      clear e_u51
      show mx_S X F L 67 48 [(0, .ref a0), (1, .int a1), (2, .int a2), (3, .int a3), (4, .int a4)] [] u51 0 0 (none, r, 0, 0)
      exact j_X2_addMethod_48_ok X hF hL nn a0 a1 a2 a3 a4 u51 hf
  · refine sb_ic_lt hm dX2_addMethod_8 (tgt := 22) rfl (fun z => absurd z c56) (fun _ => ?_)
    refine mx_S.pu (pc2 := 12) (lv2 := [(0, .ref a0), (1, .int a1), (2, .int a2), (3, .int a3), (4, .int a4)]) (st2 := [.ref a0]) hm dX2_addMethod_11 rfl ?_
    replace hf := mx_sv_el hf; obtain ⟨v53, e_v53, hf⟩ := hf
    refine sx_get hm dX2_addMethod_12 rs_RX2_74 (xgr_el e_v53) ?_
    clear e_v53
    refine sx_bi (v := 11) hm dX2_addMethod_15 (by decide) ?_
    refine mx_S.pu (pc2 := 18) (lv2 := [(0, .ref a0), (1, .int a1), (2, .int a2), (3, .int a3), (4, .int a4)]) (st2 := [.int a2, .int 11, .ref v53]) hm dX2_addMethod_17 rfl ?_
    replace hf := mx_gd_el hf; obtain ⟨c54, hf⟩ := hf
    replace hf := mx_sv_el hf; obtain ⟨u55, e_u55, hf⟩ := hf
    refine sx_cv hm dX2_addMethod_18 rs_RX2_186 mt_X9_tell [.int 11, .int a2] [] (b := v53) (ci := 9) rfl rfl rfl c54 (Nat.le_of_ble_eq_true rfl) (Nat.le_of_ble_eq_true rfl) (by omega) (by omega) (f_X9_tell_ok X (by omega) (by omega) nn v53 11 a2 h e_u55) ?_
    clear e_u55
    show mx_S X F L 67 21 [(0, .ref a0), (1, .int a1), (2, .int a2), (3, .int a3), (4, .int a4)] [] u55 0 0 (none, r, 0, 0)
    cases hf
    exact sx_ret hm dX2_addMethod_21 rfl
set_option maxHeartbeats 4000000 in
set_option maxRecDepth 20000 in
theorem j_X2_readMember_72_ok (X : Nat × (Nat → Int32)) {F L : Nat} (hF : 5 ≤ F) (hL : 119 ≤ L) (nn : Nat) (l0 : Nat) (l1 : Int32) (l2 : Int32) (l3 : Int32) (h : mx_H) {r : mx_H} (hf : j_X2_readMember_72 nn l0 l1 l2 l3 h = some r) : mx_S X F L 64 72 [(0, .ref l0), (1, .int l1), (2, .int l2), (3, .int l3)] [] h 0 0 (none, r, 0, 0) := by
  have hm : mx_mt 64 = some (yX2_readMember, cX2_readMember, 5, none) := mt_X2_readMember
  unfold j_X2_readMember_72 at hf
  refine mx_S.pu (pc2 := 73) (lv2 := [(0, .ref l0), (1, .int l1), (2, .int l2), (3, .int l3)]) (st2 := [.ref l0]) hm dX2_readMember_72 rfl ?_
  replace hf := mx_sv_el hf; obtain ⟨v1, e_v1, hf⟩ := hf
  refine sx_get hm dX2_readMember_73 rs_RX2_74 (xgr_el e_v1) ?_
  clear e_v1
  replace hf := mx_sv_el hf; obtain ⟨v2, e_v2, hf⟩ := hf
  refine sx_get hm dX2_readMember_76 rs_RX2_118 (xgi_el e_v2) ?_
  clear e_v2
  refine mx_S.pu (pc2 := 81) (lv2 := [(4, .int v2), (0, .ref l0), (1, .int l1), (2, .int l2), (3, .int l3)]) (st2 := []) hm dX2_readMember_79 rfl ?_
  refine mx_S.pu (pc2 := 82) (lv2 := [(4, .int v2), (0, .ref l0), (1, .int l1), (2, .int l2), (3, .int l3)]) (st2 := [.ref l0]) hm dX2_readMember_81 rfl ?_
  replace hf := mx_sv_el hf; obtain ⟨v3, e_v3, hf⟩ := hf
  refine sx_get hm dX2_readMember_82 rs_RX2_74 (xgr_el e_v3) ?_
  clear e_v3
  refine mx_S.pu (pc2 := 86) (lv2 := [(4, .int v2), (0, .ref l0), (1, .int l1), (2, .int l2), (3, .int l3)]) (st2 := [.ref v3, .ref v3]) hm dX2_readMember_85 rfl ?_
  replace hf := mx_sv_el hf; obtain ⟨v4, e_v4, hf⟩ := hf
  refine sx_get hm dX2_readMember_86 rs_RX2_118 (xgi_el e_v4) ?_
  clear e_v4
  refine sx_ic (v := 1) hm dX2_readMember_89 (by decide) ?_
  replace hf := xl_el hf; obtain ⟨v5, e_v5, hf⟩ := hf
  refine mx_S.pu (pc2 := 91) (lv2 := [(4, .int v2), (0, .ref l0), (1, .int l1), (2, .int l2), (3, .int l3)]) (st2 := [.int v5, .ref v3]) hm dX2_readMember_90 (by rw [← e_v5]; rfl) ?_
  clear e_v5
  replace hf := mx_sv_el hf; obtain ⟨h6, e_h6, hf⟩ := hf
  refine sx_put hm dX2_readMember_91 rs_RX2_118 ft_9_10 ⟨rfl, rfl⟩ (fun z => by cases z) e_h6 ?_
  clear e_h6
  refine mx_S.pu (pc2 := 95) (lv2 := [(4, .int v2), (0, .ref l0), (1, .int l1), (2, .int l2), (3, .int l3)]) (st2 := [.ref l0]) hm dX2_readMember_94 rfl ?_
  replace hf := mx_sv_el hf; obtain ⟨v7, e_v7, hf⟩ := hf
  refine sx_get hm dX2_readMember_95 rs_RX2_74 (xgr_el e_v7) ?_
  clear e_v7
  replace hf := mx_gd_el hf; obtain ⟨c8, hf⟩ := hf
  replace hf := mx_sv_el hf; obtain ⟨u9, e_u9, hf⟩ := hf
  refine sx_cv hm dX2_readMember_98 rs_RX2_121 mt_X9_kind [] [] (b := v7) (ci := 9) rfl rfl rfl c8 (Nat.le_of_ble_eq_true rfl) (Nat.le_of_ble_eq_true rfl) (by omega) (by omega) (f_X9_kind_ok X (by omega) (by omega) nn v7 h6 e_u9) ?_
  clear e_u9
  show mx_S X F L 64 101 [(4, .int v2), (0, .ref l0), (1, .int l1), (2, .int l2), (3, .int l3)] [.int u9.1] u9.2 0 0 (none, r, 0, 0)
  refine sx_bi (v := 46) hm dX2_readMember_101 (by decide) ?_
  rcases mx_if_el hf with ⟨c21, hf⟩ | ⟨c21, hf⟩
  · refine sb_ic_ne hm dX2_readMember_103 (tgt := 130) rfl (fun _ => ?_) (fun z => absurd c21 z)
    refine mx_S.pu (pc2 := 131) (lv2 := [(4, .int v2), (0, .ref l0), (1, .int l1), (2, .int l2), (3, .int l3)]) (st2 := [.ref l0]) hm dX2_readMember_130 rfl ?_
    replace hf := mx_sv_el hf; obtain ⟨v10, e_v10, hf⟩ := hf
    refine sx_get hm dX2_readMember_131 rs_RX2_74 (xgr_el e_v10) ?_
    clear e_v10
    replace hf := mx_sv_el hf; obtain ⟨v11, e_v11, hf⟩ := hf
    refine sx_get hm dX2_readMember_134 rs_RX2_91 (xgi_el e_v11) ?_
    clear e_v11
    rcases mx_if_el hf with ⟨c14, hf⟩ | ⟨c14, hf⟩
    · refine sb_if_ne hm dX2_readMember_137 (tgt := 149) rfl (fun _ => ?_) (fun z => absurd c14 z)
      cases hf
      exact sx_ret hm dX2_readMember_149 rfl
    · refine sb_if_ne hm dX2_readMember_137 (tgt := 149) rfl (fun z => absurd z c14) (fun _ => ?_)
      refine mx_S.pu (pc2 := 141) (lv2 := [(4, .int v2), (0, .ref l0), (1, .int l1), (2, .int l2), (3, .int l3)]) (st2 := [.ref l0]) hm dX2_readMember_140 rfl ?_
      refine mx_S.pu (pc2 := 142) (lv2 := [(4, .int v2), (0, .ref l0), (1, .int l1), (2, .int l2), (3, .int l3)]) (st2 := [.int l1, .ref l0]) hm dX2_readMember_141 rfl ?_
      refine mx_S.pu (pc2 := 144) (lv2 := [(4, .int v2), (0, .ref l0), (1, .int l1), (2, .int l2), (3, .int l3)]) (st2 := [.int v2, .int l1, .ref l0]) hm dX2_readMember_142 rfl ?_
      refine mx_S.pu (pc2 := 145) (lv2 := [(4, .int v2), (0, .ref l0), (1, .int l1), (2, .int l2), (3, .int l3)]) (st2 := [.int l3, .int v2, .int l1, .ref l0]) hm dX2_readMember_144 rfl ?_
      refine mx_S.pu (pc2 := 146) (lv2 := [(4, .int v2), (0, .ref l0), (1, .int l1), (2, .int l2), (3, .int l3)]) (st2 := [.int l2, .int l3, .int v2, .int l1, .ref l0]) hm dX2_readMember_145 rfl ?_
      replace hf := mx_gd_el hf; obtain ⟨c12, hf⟩ := hf
      replace hf := mx_sv_el hf; obtain ⟨u13, e_u13, hf⟩ := hf
      refine sx_cv hm dX2_readMember_146 rs_RX2_199 mt_X2_addMethod [.int l1, .int v2, .int l3, .int l2] [] (b := l0) (ci := 2) rfl rfl rfl c12 (Nat.le_of_ble_eq_true rfl) (Nat.le_of_ble_eq_true rfl) (by omega) (by omega) (f_X2_addMethod_ok X (by omega) (by omega) nn l0 l1 v2 l3 l2 u9.2 e_u13) ?_
      clear e_u13
      show mx_S X F L 64 149 [(4, .int v2), (0, .ref l0), (1, .int l1), (2, .int l2), (3, .int l3)] [] u13 0 0 (none, r, 0, 0)
      cases hf
      exact sx_ret hm dX2_readMember_149 rfl
  · refine sb_ic_ne hm dX2_readMember_103 (tgt := 130) rfl (fun z => absurd z c21) (fun _ => ?_)
    refine mx_S.pu (pc2 := 107) (lv2 := [(4, .int v2), (0, .ref l0), (1, .int l1), (2, .int l2), (3, .int l3)]) (st2 := [.ref l0]) hm dX2_readMember_106 rfl ?_
    replace hf := mx_sv_el hf; obtain ⟨v15, e_v15, hf⟩ := hf
    refine sx_get hm dX2_readMember_107 rs_RX2_74 (xgr_el e_v15) ?_
    clear e_v15
    refine mx_S.pu (pc2 := 111) (lv2 := [(4, .int v2), (0, .ref l0), (1, .int l1), (2, .int l2), (3, .int l3)]) (st2 := [.ref v15, .ref v15]) hm dX2_readMember_110 rfl ?_
    replace hf := mx_sv_el hf; obtain ⟨v16, e_v16, hf⟩ := hf
    refine sx_get hm dX2_readMember_111 rs_RX2_118 (xgi_el e_v16) ?_
    clear e_v16
    refine sx_ic (v := 1) hm dX2_readMember_114 (by decide) ?_
    replace hf := xl_el hf; obtain ⟨v17, e_v17, hf⟩ := hf
    refine mx_S.pu (pc2 := 116) (lv2 := [(4, .int v2), (0, .ref l0), (1, .int l1), (2, .int l2), (3, .int l3)]) (st2 := [.int v17, .ref v15]) hm dX2_readMember_115 (by rw [← e_v17]; rfl) ?_
    clear e_v17
    replace hf := mx_sv_el hf; obtain ⟨h18, e_h18, hf⟩ := hf
    refine sx_put hm dX2_readMember_116 rs_RX2_118 ft_9_10 ⟨rfl, rfl⟩ (fun z => by cases z) e_h18 ?_
    clear e_h18
    refine mx_S.pu (pc2 := 120) (lv2 := [(4, .int v2), (0, .ref l0), (1, .int l1), (2, .int l2), (3, .int l3)]) (st2 := [.ref l0]) hm dX2_readMember_119 rfl ?_
    refine mx_S.pu (pc2 := 121) (lv2 := [(4, .int v2), (0, .ref l0), (1, .int l1), (2, .int l2), (3, .int l3)]) (st2 := [.int l1, .ref l0]) hm dX2_readMember_120 rfl ?_
    refine mx_S.pu (pc2 := 123) (lv2 := [(4, .int v2), (0, .ref l0), (1, .int l1), (2, .int l2), (3, .int l3)]) (st2 := [.int v2, .int l1, .ref l0]) hm dX2_readMember_121 rfl ?_
    refine mx_S.pu (pc2 := 124) (lv2 := [(4, .int v2), (0, .ref l0), (1, .int l1), (2, .int l2), (3, .int l3)]) (st2 := [.int l3, .int v2, .int l1, .ref l0]) hm dX2_readMember_123 rfl ?_
    replace hf := mx_gd_el hf; obtain ⟨c19, hf⟩ := hf
    replace hf := mx_sv_el hf; obtain ⟨u20, e_u20, hf⟩ := hf
    refine sx_cv hm dX2_readMember_124 rs_RX2_195 mt_X2_addField [.int l1, .int v2, .int l3] [] (b := l0) (ci := 2) rfl rfl rfl c19 (Nat.le_of_ble_eq_true rfl) (Nat.le_of_ble_eq_true rfl) (by omega) (by omega) (f_X2_addField_ok X (by omega) (by omega) nn l0 l1 v2 l3 h18 e_u20) ?_
    clear e_u20
    show mx_S X F L 64 127 [(4, .int v2), (0, .ref l0), (1, .int l1), (2, .int l2), (3, .int l3)] [] u20 0 0 (none, r, 0, 0)
    refine mx_S.pu (pc2 := 149) (lv2 := [(4, .int v2), (0, .ref l0), (1, .int l1), (2, .int l2), (3, .int l3)]) (st2 := []) hm dX2_readMember_127 rfl ?_
    cases hf
    exact sx_ret hm dX2_readMember_149 rfl
set_option maxHeartbeats 4000000 in
set_option maxRecDepth 20000 in
theorem j_X2_readMember_35_ok (X : Nat × (Nat → Int32)) {F L : Nat} (hF : 5 ≤ F) (hL : 119 ≤ L) (nn : Nat) (l0 : Nat) (l1 : Int32) (l2 : Int32) (h : mx_H) {r : mx_H} (hf : j_X2_readMember_35 nn l0 l1 l2 h = some r) : mx_S X F L 64 35 [(0, .ref l0), (1, .int l1), (2, .int l2)] [] h 0 0 (none, r, 0, 0) := by
  have hm : mx_mt 64 = some (yX2_readMember, cX2_readMember, 5, none) := mt_X2_readMember
  unfold j_X2_readMember_35 at hf
  refine sx_si (v := 303) hm dX2_readMember_35 (by decide) ?_
  refine mx_S.pu (pc2 := 39) (lv2 := [(3, .int 303), (0, .ref l0), (1, .int l1), (2, .int l2)]) (st2 := []) hm dX2_readMember_38 rfl ?_
  refine mx_S.pu (pc2 := 40) (lv2 := [(3, .int 303), (0, .ref l0), (1, .int l1), (2, .int l2)]) (st2 := [.ref l0]) hm dX2_readMember_39 rfl ?_
  replace hf := mx_sv_el hf; obtain ⟨v22, e_v22, hf⟩ := hf
  refine sx_get hm dX2_readMember_40 rs_RX2_74 (xgr_el e_v22) ?_
  clear e_v22
  replace hf := mx_gd_el hf; obtain ⟨c23, hf⟩ := hf
  replace hf := mx_sv_el hf; obtain ⟨u24, e_u24, hf⟩ := hf
  refine sx_cv hm dX2_readMember_43 rs_RX2_121 mt_X9_kind [] [] (b := v22) (ci := 9) rfl rfl rfl c23 (Nat.le_of_ble_eq_true rfl) (Nat.le_of_ble_eq_true rfl) (by omega) (by omega) (f_X9_kind_ok X (by omega) (by omega) nn v22 h e_u24) ?_
  clear e_u24
  show mx_S X F L 64 46 [(3, .int 303), (0, .ref l0), (1, .int l1), (2, .int l2)] [.int u24.1] u24.2 0 0 (none, r, 0, 0)
  refine sx_bi (v := 30) hm dX2_readMember_46 (by decide) ?_
  rcases mx_if_el hf with ⟨c31, hf⟩ | ⟨c31, hf⟩
  · refine sb_ic_ne hm dX2_readMember_48 (tgt := 67) rfl (fun _ => ?_) (fun z => absurd c31 z)
    refine mx_S.pu (pc2 := 68) (lv2 := [(3, .int 303), (0, .ref l0), (1, .int l1), (2, .int l2)]) (st2 := [.ref l0]) hm dX2_readMember_67 rfl ?_
    replace hf := mx_gd_el hf; obtain ⟨c25, hf⟩ := hf
    replace hf := mx_sv_el hf; obtain ⟨u26, e_u26, hf⟩ := hf
    refine sx_cv hm dX2_readMember_68 rs_RX2_192 mt_X2_readType [] [] (b := l0) (ci := 2) rfl rfl rfl c25 (Nat.le_of_ble_eq_true rfl) (Nat.le_of_ble_eq_true rfl) (by omega) (by omega) (f_X2_readType_ok X (by omega) (by omega) nn l0 u24.2 e_u26) ?_
    clear e_u26
    show mx_S X F L 64 71 [(3, .int 303), (0, .ref l0), (1, .int l1), (2, .int l2)] [.int u26.1] u26.2 0 0 (none, r, 0, 0)
    refine mx_S.pu (pc2 := 72) (lv2 := [(3, .int u26.1), (0, .ref l0), (1, .int l1), (2, .int l2)]) (st2 := []) hm dX2_readMember_71 rfl ?_
    refine mx_S.ext [(0, .ref l0), (1, .int l1), (2, .int l2), (3, .int u26.1)] (mx_sub_pos [1, 2, 3, 0] rfl (show ([3, 0, 1, 2] : List Nat).Nodup by decide)) ?_
    exact j_X2_readMember_72_ok X hF hL nn l0 l1 l2 u26.1 u26.2 hf
  · refine sb_ic_ne hm dX2_readMember_48 (tgt := 67) rfl (fun z => absurd z c31) (fun _ => ?_)
    refine mx_S.pu (pc2 := 52) (lv2 := [(3, .int 303), (0, .ref l0), (1, .int l1), (2, .int l2)]) (st2 := [.ref l0]) hm dX2_readMember_51 rfl ?_
    replace hf := mx_sv_el hf; obtain ⟨v27, e_v27, hf⟩ := hf
    refine sx_get hm dX2_readMember_52 rs_RX2_74 (xgr_el e_v27) ?_
    clear e_v27
    refine mx_S.pu (pc2 := 56) (lv2 := [(3, .int 303), (0, .ref l0), (1, .int l1), (2, .int l2)]) (st2 := [.ref v27, .ref v27]) hm dX2_readMember_55 rfl ?_
    replace hf := mx_sv_el hf; obtain ⟨v28, e_v28, hf⟩ := hf
    refine sx_get hm dX2_readMember_56 rs_RX2_118 (xgi_el e_v28) ?_
    clear e_v28
    refine sx_ic (v := 1) hm dX2_readMember_59 (by decide) ?_
    replace hf := xl_el hf; obtain ⟨v29, e_v29, hf⟩ := hf
    refine mx_S.pu (pc2 := 61) (lv2 := [(3, .int 303), (0, .ref l0), (1, .int l1), (2, .int l2)]) (st2 := [.int v29, .ref v27]) hm dX2_readMember_60 (by rw [← e_v29]; rfl) ?_
    clear e_v29
    replace hf := mx_sv_el hf; obtain ⟨h30, e_h30, hf⟩ := hf
    refine sx_put hm dX2_readMember_61 rs_RX2_118 ft_9_10 ⟨rfl, rfl⟩ (fun z => by cases z) e_h30 ?_
    clear e_h30
    refine mx_S.pu (pc2 := 72) (lv2 := [(3, .int 303), (0, .ref l0), (1, .int l1), (2, .int l2)]) (st2 := []) hm dX2_readMember_64 rfl ?_
    refine mx_S.ext [(0, .ref l0), (1, .int l1), (2, .int l2), (3, .int 303)] (mx_sub_pos [1, 2, 3, 0] rfl (show ([3, 0, 1, 2] : List Nat).Nodup by decide)) ?_
    exact j_X2_readMember_72_ok X hF hL nn l0 l1 l2 303 h30 hf
set_option maxHeartbeats 4000000 in
set_option maxRecDepth 20000 in
theorem j_X2_readMember_17_ok (X : Nat × (Nat → Int32)) {F L : Nat} (hF : 5 ≤ F) (hL : 119 ≤ L) (nn : Nat) (l0 : Nat) (l1 : Int32) (s0 : Int32) (h : mx_H) {r : mx_H} (hf : j_X2_readMember_17 nn l0 l1 s0 h = some r) : mx_S X F L 64 17 [(0, .ref l0), (1, .int l1)] [.int s0] h 0 0 (none, r, 0, 0) := by
  have hm : mx_mt 64 = some (yX2_readMember, cX2_readMember, 5, none) := mt_X2_readMember
  unfold j_X2_readMember_17 at hf
  refine mx_S.pu (pc2 := 18) (lv2 := [(2, .int s0), (0, .ref l0), (1, .int l1)]) (st2 := []) hm dX2_readMember_17 rfl ?_
  refine mx_S.pu (pc2 := 19) (lv2 := [(2, .int s0), (0, .ref l0), (1, .int l1)]) (st2 := [.int s0]) hm dX2_readMember_18 rfl ?_
  rcases mx_if_el hf with ⟨c36, hf⟩ | ⟨c36, hf⟩
  · refine sb_if_eq hm dX2_readMember_19 (tgt := 35) rfl (fun _ => ?_) (fun z => absurd c36 z)
    refine mx_S.ext [(0, .ref l0), (1, .int l1), (2, .int s0)] (mx_sub_pos [1, 2, 0] rfl (show ([2, 0, 1] : List Nat).Nodup by decide)) ?_
    exact j_X2_readMember_35_ok X hF hL nn l0 l1 s0 h hf
  · refine sb_if_eq hm dX2_readMember_19 (tgt := 35) rfl (fun z => absurd z c36) (fun _ => ?_)
    refine mx_S.pu (pc2 := 23) (lv2 := [(2, .int s0), (0, .ref l0), (1, .int l1)]) (st2 := [.ref l0]) hm dX2_readMember_22 rfl ?_
    replace hf := mx_sv_el hf; obtain ⟨v32, e_v32, hf⟩ := hf
    refine sx_get hm dX2_readMember_23 rs_RX2_74 (xgr_el e_v32) ?_
    clear e_v32
    refine mx_S.pu (pc2 := 27) (lv2 := [(2, .int s0), (0, .ref l0), (1, .int l1)]) (st2 := [.ref v32, .ref v32]) hm dX2_readMember_26 rfl ?_
    replace hf := mx_sv_el hf; obtain ⟨v33, e_v33, hf⟩ := hf
    refine sx_get hm dX2_readMember_27 rs_RX2_118 (xgi_el e_v33) ?_
    clear e_v33
    refine sx_ic (v := 1) hm dX2_readMember_30 (by decide) ?_
    replace hf := xl_el hf; obtain ⟨v34, e_v34, hf⟩ := hf
    refine mx_S.pu (pc2 := 32) (lv2 := [(2, .int s0), (0, .ref l0), (1, .int l1)]) (st2 := [.int v34, .ref v32]) hm dX2_readMember_31 (by rw [← e_v34]; rfl) ?_
    clear e_v34
    replace hf := mx_sv_el hf; obtain ⟨h35, e_h35, hf⟩ := hf
    refine sx_put hm dX2_readMember_32 rs_RX2_118 ft_9_10 ⟨rfl, rfl⟩ (fun z => by cases z) e_h35 ?_
    clear e_h35
    refine mx_S.ext [(0, .ref l0), (1, .int l1), (2, .int s0)] (mx_sub_pos [1, 2, 0] rfl (show ([2, 0, 1] : List Nat).Nodup by decide)) ?_
    exact j_X2_readMember_35_ok X hF hL nn l0 l1 s0 h35 hf
set_option maxHeartbeats 4000000 in
set_option maxRecDepth 20000 in
theorem f_X2_readMember_ok (X : Nat × (Nat → Int32)) {F L : Nat} (hF : 5 ≤ F) (hL : 119 ≤ L) (nn : Nat) (a0 : Nat) (a1 : Int32) (h : mx_H) {r : mx_H} (hf : f_X2_readMember nn a0 a1 h = some r) : mx_R X F L 64 [.ref a0, .int a1] h (none, r, 0, 0) := by
  have hm : mx_mt 64 = some (yX2_readMember, cX2_readMember, 5, none) := mt_X2_readMember
  show mx_S X F L 64 0 [(0, .ref a0), (1, .int a1)] [] h 0 0 (none, r, 0, 0)
  unfold f_X2_readMember at hf
  refine mx_S.pu (pc2 := 1) (lv2 := [(0, .ref a0), (1, .int a1)]) (st2 := [.ref a0]) hm dX2_readMember_0 rfl ?_
  replace hf := mx_sv_el hf; obtain ⟨v37, e_v37, hf⟩ := hf
  refine sx_get hm dX2_readMember_1 rs_RX2_74 (xgr_el e_v37) ?_
  clear e_v37
  replace hf := mx_gd_el hf; obtain ⟨c38, hf⟩ := hf
  replace hf := mx_sv_el hf; obtain ⟨u39, e_u39, hf⟩ := hf
  refine sx_cv hm dX2_readMember_4 rs_RX2_121 mt_X9_kind [] [] (b := v37) (ci := 9) rfl rfl rfl c38 (Nat.le_of_ble_eq_true rfl) (Nat.le_of_ble_eq_true rfl) (by omega) (by omega) (f_X9_kind_ok X (by omega) (by omega) nn v37 h e_u39) ?_
  clear e_u39
  show mx_S X F L 64 7 [(0, .ref a0), (1, .int a1)] [.int u39.1] u39.2 0 0 (none, r, 0, 0)
  refine sx_bi (v := 25) hm dX2_readMember_7 (by decide) ?_
  rcases mx_if_el hf with ⟨c40, hf⟩ | ⟨c40, hf⟩
  · refine sb_ic_ne hm dX2_readMember_9 (tgt := 16) rfl (fun _ => ?_) (fun z => absurd c40 z)
    refine sx_ic (v := 0) hm dX2_readMember_16 (by decide) ?_
    exact j_X2_readMember_17_ok X hF hL nn a0 a1 0 u39.2 hf
  · refine sb_ic_ne hm dX2_readMember_9 (tgt := 16) rfl (fun z => absurd z c40) (fun _ => ?_)
    refine sx_ic (v := 1) hm dX2_readMember_12 (by decide) ?_
    refine mx_S.pu (pc2 := 17) (lv2 := [(0, .ref a0), (1, .int a1)]) (st2 := [.int 1]) hm dX2_readMember_13 rfl ?_
    exact j_X2_readMember_17_ok X hF hL nn a0 a1 1 u39.2 hf
set_option maxHeartbeats 4000000 in
set_option maxRecDepth 20000 in
theorem w_X2_readMembers_57_ok (X : Nat × (Nat → Int32)) {F L : Nat} (hF : 6 ≤ F) (hL : 143 ≤ L) (nn : Nat) {kk_2 : Nat → Int32 → mx_H → Option mx_H} (hk_2 : ∀ (l0 : Nat) (l1 : Int32) (h : mx_H) (r : mx_H), kk_2 l0 l1 h = some r → mx_S X F L 50 2 [(0, .ref l0), (1, .int l1)] [] h 0 0 (none, r, 0, 0)) : ∀ (k : Nat) (l0 : Nat) (l1 : Int32) (l3 : Int32) (h : mx_H) (r : mx_H), w_X2_readMembers_57 nn kk_2 k l0 l1 l3 h = some r → mx_S X F L 50 57 [(0, .ref l0), (1, .int l1), (3, .int l3)] [] h 0 0 (none, r, 0, 0) := by
  have hm : mx_mt 50 = some (yX2_readMembers, cX2_readMembers, 4, none) := mt_X2_readMembers
  intro k
  induction k with
  | zero => intro l0 l1 l3 h r hf; cases hf
  | succ k ih =>
    intro l0 l1 l3 h r hf
    unfold w_X2_readMembers_57 at hf
    refine mx_S.pu (pc2 := 58) (lv2 := [(0, .ref l0), (1, .int l1), (3, .int l3)]) (st2 := [.int l3]) hm dX2_readMembers_57 rfl ?_
    refine sx_si (v := 3000) hm dX2_readMembers_58 (by decide) ?_
    rcases mx_if_el hf with ⟨c14, hf⟩ | ⟨c14, hf⟩
    · refine sb_ic_ge hm dX2_readMembers_61 (tgt := 97) rfl (fun _ => ?_) (fun z => absurd c14 z)
      replace hf := xl_el hf; obtain ⟨v1, e_v1, hf⟩ := hf
      refine mx_S.pu (pc2 := 100) (lv2 := [(1, .int v1), (0, .ref l0), (3, .int l3)]) (st2 := []) hm dX2_readMembers_97 (by rw [← e_v1]; rfl) ?_
      clear e_v1
      refine mx_S.pu (pc2 := 2) (lv2 := [(1, .int v1), (0, .ref l0), (3, .int l3)]) (st2 := []) hm dX2_readMembers_100 rfl ?_
      refine mx_S.ext [(0, .ref l0), (1, .int v1)] (mx_sub_pos [1, 0] rfl (show ([1, 0, 3] : List Nat).Nodup by decide)) ?_
      exact hk_2 l0 v1 h _ hf
    · refine sb_ic_ge hm dX2_readMembers_61 (tgt := 97) rfl (fun z => absurd z c14) (fun _ => ?_)
      refine mx_S.pu (pc2 := 65) (lv2 := [(0, .ref l0), (1, .int l1), (3, .int l3)]) (st2 := [.ref l0]) hm dX2_readMembers_64 rfl ?_
      replace hf := mx_sv_el hf; obtain ⟨v2, e_v2, hf⟩ := hf
      refine sx_get hm dX2_readMembers_65 rs_RX2_74 (xgr_el e_v2) ?_
      clear e_v2
      replace hf := mx_sv_el hf; obtain ⟨v3, e_v3, hf⟩ := hf
      refine sx_get hm dX2_readMembers_68 rs_RX2_91 (xgi_el e_v3) ?_
      clear e_v3
      rcases mx_if_el hf with ⟨c13, hf⟩ | ⟨c13, hf⟩
      · refine sb_if_ne hm dX2_readMembers_71 (tgt := 97) rfl (fun _ => ?_) (fun z => absurd c13 z)
        replace hf := xl_el hf; obtain ⟨v4, e_v4, hf⟩ := hf
        refine mx_S.pu (pc2 := 100) (lv2 := [(1, .int v4), (0, .ref l0), (3, .int l3)]) (st2 := []) hm dX2_readMembers_97 (by rw [← e_v4]; rfl) ?_
        clear e_v4
        refine mx_S.pu (pc2 := 2) (lv2 := [(1, .int v4), (0, .ref l0), (3, .int l3)]) (st2 := []) hm dX2_readMembers_100 rfl ?_
        refine mx_S.ext [(0, .ref l0), (1, .int v4)] (mx_sub_pos [1, 0] rfl (show ([1, 0, 3] : List Nat).Nodup by decide)) ?_
        exact hk_2 l0 v4 h _ hf
      · refine sb_if_ne hm dX2_readMembers_71 (tgt := 97) rfl (fun z => absurd z c13) (fun _ => ?_)
        refine mx_S.pu (pc2 := 75) (lv2 := [(0, .ref l0), (1, .int l1), (3, .int l3)]) (st2 := [.ref l0]) hm dX2_readMembers_74 rfl ?_
        replace hf := mx_sv_el hf; obtain ⟨v5, e_v5, hf⟩ := hf
        refine sx_get hm dX2_readMembers_75 rs_RX2_74 (xgr_el e_v5) ?_
        clear e_v5
        replace hf := mx_gd_el hf; obtain ⟨c6, hf⟩ := hf
        replace hf := mx_sv_el hf; obtain ⟨u7, e_u7, hf⟩ := hf
        refine sx_cv hm dX2_readMembers_78 rs_RX2_121 mt_X9_kind [] [] (b := v5) (ci := 9) rfl rfl rfl c6 (Nat.le_of_ble_eq_true rfl) (Nat.le_of_ble_eq_true rfl) (by omega) (by omega) (f_X9_kind_ok X (by omega) (by omega) nn v5 h e_u7) ?_
        clear e_u7
        show mx_S X F L 50 81 [(0, .ref l0), (1, .int l1), (3, .int l3)] [.int u7.1] u7.2 0 0 (none, r, 0, 0)
        refine sx_bi (v := 43) hm dX2_readMembers_81 (by decide) ?_
        rcases mx_if_el hf with ⟨c12, hf⟩ | ⟨c12, hf⟩
        · refine sb_ic_eq hm dX2_readMembers_83 (tgt := 97) rfl (fun _ => ?_) (fun z => absurd c12 z)
          replace hf := xl_el hf; obtain ⟨v8, e_v8, hf⟩ := hf
          refine mx_S.pu (pc2 := 100) (lv2 := [(1, .int v8), (0, .ref l0), (3, .int l3)]) (st2 := []) hm dX2_readMembers_97 (by rw [← e_v8]; rfl) ?_
          clear e_v8
          refine mx_S.pu (pc2 := 2) (lv2 := [(1, .int v8), (0, .ref l0), (3, .int l3)]) (st2 := []) hm dX2_readMembers_100 rfl ?_
          refine mx_S.ext [(0, .ref l0), (1, .int v8)] (mx_sub_pos [1, 0] rfl (show ([1, 0, 3] : List Nat).Nodup by decide)) ?_
          exact hk_2 l0 v8 u7.2 _ hf
        · refine sb_ic_eq hm dX2_readMembers_83 (tgt := 97) rfl (fun z => absurd z c12) (fun _ => ?_)
          refine mx_S.pu (pc2 := 87) (lv2 := [(0, .ref l0), (1, .int l1), (3, .int l3)]) (st2 := [.ref l0]) hm dX2_readMembers_86 rfl ?_
          refine mx_S.pu (pc2 := 88) (lv2 := [(0, .ref l0), (1, .int l1), (3, .int l3)]) (st2 := [.int l1, .ref l0]) hm dX2_readMembers_87 rfl ?_
          replace hf := mx_gd_el hf; obtain ⟨c9, hf⟩ := hf
          replace hf := mx_sv_el hf; obtain ⟨u10, e_u10, hf⟩ := hf
          refine sx_cv hm dX2_readMembers_88 rs_RX2_125 mt_X2_readMember [.int l1] [] (b := l0) (ci := 2) rfl rfl rfl c9 (Nat.le_of_ble_eq_true rfl) (Nat.le_of_ble_eq_true rfl) (by omega) (by omega) (f_X2_readMember_ok X (by omega) (by omega) nn l0 l1 u7.2 e_u10) ?_
          clear e_u10
          show mx_S X F L 50 91 [(0, .ref l0), (1, .int l1), (3, .int l3)] [] u10 0 0 (none, r, 0, 0)
          replace hf := xl_el hf; obtain ⟨v11, e_v11, hf⟩ := hf
          refine mx_S.pu (pc2 := 94) (lv2 := [(3, .int v11), (0, .ref l0), (1, .int l1)]) (st2 := []) hm dX2_readMembers_91 (by rw [← e_v11]; rfl) ?_
          clear e_v11
          refine mx_S.pu (pc2 := 57) (lv2 := [(3, .int v11), (0, .ref l0), (1, .int l1)]) (st2 := []) hm dX2_readMembers_94 rfl ?_
          refine mx_S.ext [(0, .ref l0), (1, .int l1), (3, .int v11)] (mx_sub_pos [1, 2, 0] rfl (show ([3, 0, 1] : List Nat).Nodup by decide)) ?_
          exact ih l0 l1 v11 u10 _ hf
set_option maxHeartbeats 4000000 in
set_option maxRecDepth 20000 in
theorem j_X2_readMembers_51_ok (X : Nat × (Nat → Int32)) {F L : Nat} (hF : 6 ≤ F) (hL : 143 ≤ L) (nn : Nat) {kk_2 : Nat → Int32 → mx_H → Option mx_H} (hk_2 : ∀ (l0 : Nat) (l1 : Int32) (h : mx_H) (r : mx_H), kk_2 l0 l1 h = some r → mx_S X F L 50 2 [(0, .ref l0), (1, .int l1)] [] h 0 0 (none, r, 0, 0)) (l0 : Nat) (l1 : Int32) (s0 : Int32) (s1 : Int32) (s2 : Nat) (h : mx_H) {r : mx_H} (hf : j_X2_readMembers_51 nn kk_2 l0 l1 s0 s1 s2 h = some r) : mx_S X F L 50 51 [(0, .ref l0), (1, .int l1)] [.int s0, .int s1, .ref s2] h 0 0 (none, r, 0, 0) := by
  have hm : mx_mt 50 = some (yX2_readMembers, cX2_readMembers, 4, none) := mt_X2_readMembers
  unfold j_X2_readMembers_51 at hf
  replace hf := xl_el hf; obtain ⟨v15, e_v15, hf⟩ := hf
  refine mx_S.pu (pc2 := 52) (lv2 := [(0, .ref l0), (1, .int l1)]) (st2 := [.int v15, .ref s2]) hm dX2_readMembers_51 (by rw [← e_v15]; rfl) ?_
  clear e_v15
  replace hf := mx_sv_el hf; obtain ⟨h16, e_h16, hf⟩ := hf
  refine sx_put hm dX2_readMembers_52 rs_RX2_118 ft_9_10 ⟨rfl, rfl⟩ (fun z => by cases z) e_h16 ?_
  clear e_h16
  refine sx_ic (v := 0) hm dX2_readMembers_55 (by decide) ?_
  refine mx_S.pu (pc2 := 57) (lv2 := [(3, .int 0), (0, .ref l0), (1, .int l1)]) (st2 := []) hm dX2_readMembers_56 rfl ?_
  refine mx_S.ext [(0, .ref l0), (1, .int l1), (3, .int 0)] (mx_sub_pos [1, 2, 0] rfl (show ([3, 0, 1] : List Nat).Nodup by decide)) ?_
  exact w_X2_readMembers_57_ok X hF hL nn hk_2 nn l0 l1 0 h16 _ hf
set_option maxHeartbeats 4000000 in
set_option maxRecDepth 20000 in
theorem w_X2_readMembers_2_ok (X : Nat × (Nat → Int32)) {F L : Nat} (hF : 6 ≤ F) (hL : 143 ≤ L) (nn : Nat) : ∀ (k : Nat) (l0 : Nat) (l1 : Int32) (h : mx_H) (r : mx_H), w_X2_readMembers_2 nn k l0 l1 h = some r → mx_S X F L 50 2 [(0, .ref l0), (1, .int l1)] [] h 0 0 (none, r, 0, 0) := by
  have hm : mx_mt 50 = some (yX2_readMembers, cX2_readMembers, 4, none) := mt_X2_readMembers
  intro k
  induction k with
  | zero => intro l0 l1 h r hf; cases hf
  | succ k ih =>
    intro l0 l1 h r hf
    unfold w_X2_readMembers_2 at hf
    refine mx_S.pu (pc2 := 3) (lv2 := [(0, .ref l0), (1, .int l1)]) (st2 := [.int l1]) hm dX2_readMembers_2 rfl ?_
    refine mx_S.pu (pc2 := 4) (lv2 := [(0, .ref l0), (1, .int l1)]) (st2 := [.ref l0, .int l1]) hm dX2_readMembers_3 rfl ?_
    replace hf := mx_sv_el hf; obtain ⟨v17, e_v17, hf⟩ := hf
    refine sx_get hm dX2_readMembers_4 rs_RX2_78 (xgi_el e_v17) ?_
    clear e_v17
    rcases mx_if_el hf with ⟨c29, hf⟩ | ⟨c29, hf⟩
    · refine sb_ic_ge hm dX2_readMembers_7 (tgt := 103) rfl (fun _ => ?_) (fun z => absurd c29 z)
      cases hf
      exact sx_ret hm dX2_readMembers_103 rfl
    · refine sb_ic_ge hm dX2_readMembers_7 (tgt := 103) rfl (fun z => absurd z c29) (fun _ => ?_)
      refine mx_S.pu (pc2 := 11) (lv2 := [(0, .ref l0), (1, .int l1)]) (st2 := [.ref l0]) hm dX2_readMembers_10 rfl ?_
      replace hf := mx_sv_el hf; obtain ⟨v18, e_v18, hf⟩ := hf
      refine sx_get hm dX2_readMembers_11 rs_RX2_74 (xgr_el e_v18) ?_
      clear e_v18
      replace hf := mx_sv_el hf; obtain ⟨v19, e_v19, hf⟩ := hf
      refine sx_get hm dX2_readMembers_14 rs_RX2_91 (xgi_el e_v19) ?_
      clear e_v19
      rcases mx_if_el hf with ⟨c28, hf⟩ | ⟨c28, hf⟩
      · refine sb_if_ne hm dX2_readMembers_17 (tgt := 103) rfl (fun _ => ?_) (fun z => absurd c28 z)
        cases hf
        exact sx_ret hm dX2_readMembers_103 rfl
      · refine sb_if_ne hm dX2_readMembers_17 (tgt := 103) rfl (fun z => absurd z c28) (fun _ => ?_)
        refine mx_S.pu (pc2 := 21) (lv2 := [(0, .ref l0), (1, .int l1)]) (st2 := [.ref l0]) hm dX2_readMembers_20 rfl ?_
        refine mx_S.pu (pc2 := 22) (lv2 := [(0, .ref l0), (1, .int l1)]) (st2 := [.int l1, .ref l0]) hm dX2_readMembers_21 rfl ?_
        replace hf := mx_gd_el hf; obtain ⟨c20, hf⟩ := hf
        replace hf := mx_sv_el hf; obtain ⟨u21, e_u21, hf⟩ := hf
        refine sx_cv hm dX2_readMembers_22 rs_RX2_112 mt_X2_tokenOfClass [.int l1] [] (b := l0) (ci := 2) rfl rfl rfl c20 (Nat.le_of_ble_eq_true rfl) (Nat.le_of_ble_eq_true rfl) (by omega) (by omega) (f_X2_tokenOfClass_ok X (by omega) (by omega) nn l0 l1 h e_u21) ?_
        clear e_u21
        show mx_S X F L 50 25 [(0, .ref l0), (1, .int l1)] [.int u21.1] u21.2 0 0 (none, r, 0, 0)
        refine mx_S.pu (pc2 := 26) (lv2 := [(2, .int u21.1), (0, .ref l0), (1, .int l1)]) (st2 := []) hm dX2_readMembers_25 rfl ?_
        refine mx_S.pu (pc2 := 27) (lv2 := [(2, .int u21.1), (0, .ref l0), (1, .int l1)]) (st2 := [.ref l0]) hm dX2_readMembers_26 rfl ?_
        replace hf := mx_sv_el hf; obtain ⟨v22, e_v22, hf⟩ := hf
        refine sx_get hm dX2_readMembers_27 rs_RX2_74 (xgr_el e_v22) ?_
        clear e_v22
        refine mx_S.pu (pc2 := 31) (lv2 := [(2, .int u21.1), (0, .ref l0), (1, .int l1)]) (st2 := [.int u21.1, .ref v22]) hm dX2_readMembers_30 rfl ?_
        refine mx_S.pu (pc2 := 32) (lv2 := [(2, .int u21.1), (0, .ref l0), (1, .int l1)]) (st2 := [.ref l0, .int u21.1, .ref v22]) hm dX2_readMembers_31 rfl ?_
        replace hf := mx_sv_el hf; obtain ⟨v23, e_v23, hf⟩ := hf
        refine sx_get hm dX2_readMembers_32 rs_RX2_74 (xgr_el e_v23) ?_
        clear e_v23
        refine mx_S.pu (pc2 := 36) (lv2 := [(2, .int u21.1), (0, .ref l0), (1, .int l1)]) (st2 := [.int u21.1, .ref v23, .int u21.1, .ref v22]) hm dX2_readMembers_35 rfl ?_
        refine sx_ic (v := 1) hm dX2_readMembers_36 (by decide) ?_
        replace hf := xl_el hf; obtain ⟨v24, e_v24, hf⟩ := hf
        refine mx_S.pu (pc2 := 38) (lv2 := [(2, .int u21.1), (0, .ref l0), (1, .int l1)]) (st2 := [.int v24, .ref v23, .int u21.1, .ref v22]) hm dX2_readMembers_37 (by rw [← e_v24]; rfl) ?_
        clear e_v24
        replace hf := mx_gd_el hf; obtain ⟨c25, hf⟩ := hf
        replace hf := mx_sv_el hf; obtain ⟨u26, e_u26, hf⟩ := hf
        refine sx_cv hm dX2_readMembers_38 rs_RX2_115 mt_X9_kindAt [.int v24] [.int u21.1, .ref v22] (b := v23) (ci := 9) rfl rfl rfl c25 (Nat.le_of_ble_eq_true rfl) (Nat.le_of_ble_eq_true rfl) (by omega) (by omega) (f_X9_kindAt_ok X (by omega) (by omega) nn v23 v24 u21.2 e_u26) ?_
        clear e_u26
        show mx_S X F L 50 41 [(2, .int u21.1), (0, .ref l0), (1, .int l1)] [.int u26.1, .int u21.1, .ref v22] u26.2 0 0 (none, r, 0, 0)
        refine sx_bi (v := 16) hm dX2_readMembers_41 (by decide) ?_
        rcases mx_if_el hf with ⟨c27, hf⟩ | ⟨c27, hf⟩
        · refine sb_ic_ne hm dX2_readMembers_43 (tgt := 50) rfl (fun _ => ?_) (fun z => absurd c27 z)
          refine sx_ic (v := 2) hm dX2_readMembers_50 (by decide) ?_
          refine mx_S.ext [(0, .ref l0), (1, .int l1)] (mx_sub_pos [1, 2] rfl (show ([2, 0, 1] : List Nat).Nodup by decide)) ?_
          exact j_X2_readMembers_51_ok X hF hL nn ih l0 l1 2 u21.1 v22 u26.2 hf
        · refine sb_ic_ne hm dX2_readMembers_43 (tgt := 50) rfl (fun z => absurd z c27) (fun _ => ?_)
          refine sx_ic (v := 4) hm dX2_readMembers_46 (by decide) ?_
          refine mx_S.pu (pc2 := 51) (lv2 := [(2, .int u21.1), (0, .ref l0), (1, .int l1)]) (st2 := [.int 4, .int u21.1, .ref v22]) hm dX2_readMembers_47 rfl ?_
          refine mx_S.ext [(0, .ref l0), (1, .int l1)] (mx_sub_pos [1, 2] rfl (show ([2, 0, 1] : List Nat).Nodup by decide)) ?_
          exact j_X2_readMembers_51_ok X hF hL nn ih l0 l1 4 u21.1 v22 u26.2 hf
set_option maxHeartbeats 4000000 in
set_option maxRecDepth 20000 in
theorem f_X2_readMembers_ok (X : Nat × (Nat → Int32)) {F L : Nat} (hF : 6 ≤ F) (hL : 143 ≤ L) (nn : Nat) (a0 : Nat) (h : mx_H) {r : mx_H} (hf : f_X2_readMembers nn a0 h = some r) : mx_R X F L 50 [.ref a0] h (none, r, 0, 0) := by
  have hm : mx_mt 50 = some (yX2_readMembers, cX2_readMembers, 4, none) := mt_X2_readMembers
  show mx_S X F L 50 0 [(0, .ref a0)] [] h 0 0 (none, r, 0, 0)
  unfold f_X2_readMembers at hf
  refine sx_ic (v := 0) hm dX2_readMembers_0 (by decide) ?_
  refine mx_S.pu (pc2 := 2) (lv2 := [(1, .int 0), (0, .ref a0)]) (st2 := []) hm dX2_readMembers_1 rfl ?_
  refine mx_S.ext [(0, .ref a0), (1, .int 0)] (mx_sub_pos [1, 0] rfl (show ([1, 0] : List Nat).Nodup by decide)) ?_
  exact w_X2_readMembers_2_ok X hF hL nn nn a0 0 h _ hf
set_option maxHeartbeats 4000000 in
set_option maxRecDepth 20000 in
theorem f_X2_addClass_ok (X : Nat × (Nat → Int32)) {F L : Nat} (hF : 0 ≤ F) (hL : 0 ≤ L) (nn : Nat) (a0 : Nat) (a1 : Int32) (h : mx_H) {r : mx_H} (hf : f_X2_addClass nn a0 a1 h = some r) : mx_R X F L 48 [.ref a0, .int a1] h (none, r, 0, 0) := by
  have hm : mx_mt 48 = some (yX2_addClass, cX2_addClass, 2, none) := mt_X2_addClass
  show mx_S X F L 48 0 [(0, .ref a0), (1, .int a1)] [] h 0 0 (none, r, 0, 0)
  unfold f_X2_addClass at hf
  refine mx_S.pu (pc2 := 1) (lv2 := [(0, .ref a0), (1, .int a1)]) (st2 := [.ref a0]) hm dX2_addClass_0 rfl ?_
  replace hf := mx_sv_el hf; obtain ⟨v1, e_v1, hf⟩ := hf
  refine sx_get hm dX2_addClass_1 rs_RX2_78 (xgi_el e_v1) ?_
  clear e_v1
  refine mx_S.pu (pc2 := 5) (lv2 := [(0, .ref a0), (1, .int a1)]) (st2 := [.ref a0, .int v1]) hm dX2_addClass_4 rfl ?_
  replace hf := mx_sv_el hf; obtain ⟨v2, e_v2, hf⟩ := hf
  refine sx_get hm dX2_addClass_5 rs_RX2_20 (xgr_el e_v2) ?_
  clear e_v2
  replace hf := mx_sv_el hf; obtain ⟨v3, e_v3, hf⟩ := hf
  refine sx_len hm dX2_addClass_8 e_v3 ?_
  clear e_v3
  rcases mx_if_el hf with ⟨c10, hf⟩ | ⟨c10, hf⟩
  · refine sb_ic_ge hm dX2_addClass_9 (tgt := 32) rfl (fun _ => ?_) (fun z => absurd c10 z)
    cases hf
    exact sx_ret hm dX2_addClass_32 rfl
  · refine sb_ic_ge hm dX2_addClass_9 (tgt := 32) rfl (fun z => absurd z c10) (fun _ => ?_)
    refine mx_S.pu (pc2 := 13) (lv2 := [(0, .ref a0), (1, .int a1)]) (st2 := [.ref a0]) hm dX2_addClass_12 rfl ?_
    replace hf := mx_sv_el hf; obtain ⟨v4, e_v4, hf⟩ := hf
    refine sx_get hm dX2_addClass_13 rs_RX2_20 (xgr_el e_v4) ?_
    clear e_v4
    refine mx_S.pu (pc2 := 17) (lv2 := [(0, .ref a0), (1, .int a1)]) (st2 := [.ref a0, .ref v4]) hm dX2_addClass_16 rfl ?_
    replace hf := mx_sv_el hf; obtain ⟨v5, e_v5, hf⟩ := hf
    refine sx_get hm dX2_addClass_17 rs_RX2_78 (xgi_el e_v5) ?_
    clear e_v5
    refine mx_S.pu (pc2 := 21) (lv2 := [(0, .ref a0), (1, .int a1)]) (st2 := [.int a1, .int v5, .ref v4]) hm dX2_addClass_20 rfl ?_
    replace hf := mx_sv_el hf; obtain ⟨h6, e_h6, hf⟩ := hf
    refine sx_ast hm dX2_addClass_21 e_h6 ?_
    clear e_h6
    refine mx_S.pu (pc2 := 23) (lv2 := [(0, .ref a0), (1, .int a1)]) (st2 := [.ref a0]) hm dX2_addClass_22 rfl ?_
    refine mx_S.pu (pc2 := 24) (lv2 := [(0, .ref a0), (1, .int a1)]) (st2 := [.ref a0, .ref a0]) hm dX2_addClass_23 rfl ?_
    replace hf := mx_sv_el hf; obtain ⟨v7, e_v7, hf⟩ := hf
    refine sx_get hm dX2_addClass_24 rs_RX2_78 (xgi_el e_v7) ?_
    clear e_v7
    refine sx_ic (v := 1) hm dX2_addClass_27 (by decide) ?_
    replace hf := xl_el hf; obtain ⟨v8, e_v8, hf⟩ := hf
    refine mx_S.pu (pc2 := 29) (lv2 := [(0, .ref a0), (1, .int a1)]) (st2 := [.int v8, .ref a0]) hm dX2_addClass_28 (by rw [← e_v8]; rfl) ?_
    clear e_v8
    replace hf := mx_sv_el hf; obtain ⟨h9, e_h9, hf⟩ := hf
    refine sx_put hm dX2_addClass_29 rs_RX2_78 ft_2_2 ⟨rfl, rfl⟩ (fun z => by cases z) e_h9 ?_
    clear e_h9
    cases hf
    exact sx_ret hm dX2_addClass_32 rfl
set_option maxHeartbeats 4000000 in
set_option maxRecDepth 20000 in
theorem f_X8_accept_ok (X : Nat × (Nat → Int32)) {F L : Nat} (hF : 1 ≤ F) (hL : 20 ≤ L) (nn : Nat) (a0 : Nat) (a1 : Int32) (h : mx_H) {r : (Int32 × mx_H)} (hf : f_X8_accept nn a0 a1 h = some r) : mx_R X F L 222 [.ref a0, .int a1] h (some (.int r.1), r.2, 0, 0) := by
  have hm : mx_mt 222 = some (yX8_accept, cX8_accept, 2, (some .boolean)) := mt_X8_accept
  show mx_S X F L 222 0 [(0, .ref a0), (1, .int a1)] [] h 0 0 (some (.int r.1), r.2, 0, 0)
  unfold f_X8_accept at hf
  refine mx_S.pu (pc2 := 1) (lv2 := [(0, .ref a0), (1, .int a1)]) (st2 := [.ref a0]) hm dX8_accept_0 rfl ?_
  replace hf := mx_sv_el hf; obtain ⟨v1, e_v1, hf⟩ := hf
  refine sx_get hm dX8_accept_1 rs_RX8_7 (xgr_el e_v1) ?_
  clear e_v1
  replace hf := mx_gd_el hf; obtain ⟨c2, hf⟩ := hf
  replace hf := mx_sv_el hf; obtain ⟨u3, e_u3, hf⟩ := hf
  refine sx_cv hm dX8_accept_4 rs_RX8_23 mt_X9_kind [] [] (b := v1) (ci := 9) rfl rfl rfl c2 (Nat.le_of_ble_eq_true rfl) (Nat.le_of_ble_eq_true rfl) (by omega) (by omega) (f_X9_kind_ok X (by omega) (by omega) nn v1 h e_u3) ?_
  clear e_u3
  show mx_S X F L 222 7 [(0, .ref a0), (1, .int a1)] [.int u3.1] u3.2 0 0 (some (.int r.1), r.2, 0, 0)
  refine mx_S.pu (pc2 := 8) (lv2 := [(0, .ref a0), (1, .int a1)]) (st2 := [.int a1, .int u3.1]) hm dX8_accept_7 rfl ?_
  rcases mx_if_el hf with ⟨c8, hf⟩ | ⟨c8, hf⟩
  · refine sb_ic_eq hm dX8_accept_8 (tgt := 13) rfl (fun _ => ?_) (fun z => absurd c8 z)
    refine mx_S.pu (pc2 := 14) (lv2 := [(0, .ref a0), (1, .int a1)]) (st2 := [.ref a0]) hm dX8_accept_13 rfl ?_
    replace hf := mx_sv_el hf; obtain ⟨v4, e_v4, hf⟩ := hf
    refine sx_get hm dX8_accept_14 rs_RX8_7 (xgr_el e_v4) ?_
    clear e_v4
    refine mx_S.pu (pc2 := 18) (lv2 := [(0, .ref a0), (1, .int a1)]) (st2 := [.ref v4, .ref v4]) hm dX8_accept_17 rfl ?_
    replace hf := mx_sv_el hf; obtain ⟨v5, e_v5, hf⟩ := hf
    refine sx_get hm dX8_accept_18 rs_RX8_30 (xgi_el e_v5) ?_
    clear e_v5
    refine sx_ic (v := 1) hm dX8_accept_21 (by decide) ?_
    replace hf := xl_el hf; obtain ⟨v6, e_v6, hf⟩ := hf
    refine mx_S.pu (pc2 := 23) (lv2 := [(0, .ref a0), (1, .int a1)]) (st2 := [.int v6, .ref v4]) hm dX8_accept_22 (by rw [← e_v6]; rfl) ?_
    clear e_v6
    replace hf := mx_sv_el hf; obtain ⟨h7, e_h7, hf⟩ := hf
    refine sx_put hm dX8_accept_23 rs_RX8_30 ft_9_10 ⟨rfl, rfl⟩ (fun z => by cases z) e_h7 ?_
    clear e_h7
    refine sx_ic (v := 1) hm dX8_accept_26 (by decide) ?_
    cases hf
    exact sx_ire hm dX8_accept_27 rfl (by decide)
  · refine sb_ic_eq hm dX8_accept_8 (tgt := 13) rfl (fun z => absurd z c8) (fun _ => ?_)
    refine sx_ic (v := 0) hm dX8_accept_11 (by decide) ?_
    cases hf
    exact sx_ire hm dX8_accept_12 rfl (by decide)
