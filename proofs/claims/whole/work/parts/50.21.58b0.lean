set_option maxHeartbeats 4000000 in
set_option maxRecDepth 20000 in
theorem j_X13_calls_129_ok (X : Nat × (Nat → Int32)) {F L : Nat} (hF : 11 ≤ F) (hL : 251 ≤ L) (nn : Nat) (l0 : Nat) (l3 : Int32) (h : mx_H) {r : (Int32 × mx_H)} (hf : j_X13_calls_129 nn l0 l3 h = some r) : mx_S X F L 568 129 [(0, .ref l0), (3, .int l3)] [] h 0 0 (some (.int r.1), r.2, 0, 0) := by
  have hm : mx_mt 568 = some (yX13_calls, cX13_calls, 6, (some .boolean)) := mt_X13_calls
  unfold j_X13_calls_129 at hf
  refine mx_S.pu (pc2 := 130) (lv2 := [(0, .ref l0), (3, .int l3)]) (st2 := [.ref l0]) hm dX13_calls_129 rfl ?_
  refine mx_S.pu (pc2 := 131) (lv2 := [(0, .ref l0), (3, .int l3)]) (st2 := [.int l3, .ref l0]) hm dX13_calls_130 rfl ?_
  refine sx_ic (v := 1) hm dX13_calls_131 (by decide) ?_
  replace hf := xl_el hf; obtain ⟨v1, e_v1, hf⟩ := hf
  refine mx_S.pu (pc2 := 133) (lv2 := [(0, .ref l0), (3, .int l3)]) (st2 := [.int v1, .ref l0]) hm dX13_calls_132 (by rw [← e_v1]; rfl) ?_
  clear e_v1
  replace hf := mx_gd_el hf; obtain ⟨c2, hf⟩ := hf
  replace hf := mx_sv_el hf; obtain ⟨u3, e_u3, hf⟩ := hf
  refine sx_cv hm dX13_calls_133 rs_RX13_885 mt_X13_typeAt [.int v1] [] (b := l0) (ci := 13) rfl rfl rfl c2 (Nat.le_of_ble_eq_true rfl) (Nat.le_of_ble_eq_true rfl) (by omega) (by omega) (f_X13_typeAt_ok X (by omega) (by omega) nn l0 v1 h e_u3) ?_
  clear e_u3
  show mx_S X F L 568 136 [(0, .ref l0), (3, .int l3)] [.int u3.1] u3.2 0 0 (some (.int r.1), r.2, 0, 0)
  refine mx_S.pu (pc2 := 138) (lv2 := [(5, .int u3.1), (0, .ref l0), (3, .int l3)]) (st2 := []) hm dX13_calls_136 rfl ?_
  refine mx_S.pu (pc2 := 140) (lv2 := [(5, .int u3.1), (0, .ref l0), (3, .int l3)]) (st2 := [.int u3.1]) hm dX13_calls_138 rfl ?_
  rcases mx_if_el hf with ⟨c7, hf⟩ | ⟨c7, hf⟩
  · refine sb_if_eq hm dX13_calls_140 (tgt := 152) rfl (fun _ => ?_) (fun z => absurd c7 z)
    refine sx_ic (v := 1) hm dX13_calls_152 (by decide) ?_
    refine mx_S.pu (pc2 := 157) (lv2 := [(5, .int u3.1), (0, .ref l0), (3, .int l3)]) (st2 := [.int 1]) hm dX13_calls_153 rfl ?_
    cases hf
    exact sx_ire hm dX13_calls_157 rfl (by decide)
  · refine sb_if_eq hm dX13_calls_140 (tgt := 152) rfl (fun z => absurd z c7) (fun _ => ?_)
    refine mx_S.pu (pc2 := 144) (lv2 := [(5, .int u3.1), (0, .ref l0), (3, .int l3)]) (st2 := [.ref l0]) hm dX13_calls_143 rfl ?_
    refine mx_S.pu (pc2 := 146) (lv2 := [(5, .int u3.1), (0, .ref l0), (3, .int l3)]) (st2 := [.int u3.1, .ref l0]) hm dX13_calls_144 rfl ?_
    replace hf := mx_gd_el hf; obtain ⟨c4, hf⟩ := hf
    replace hf := mx_sv_el hf; obtain ⟨u5, e_u5, hf⟩ := hf
    refine sx_cv hm dX13_calls_146 rs_RX13_1028 mt_X13_comesBack [.int u3.1] [] (b := l0) (ci := 13) rfl rfl rfl c4 (Nat.le_of_ble_eq_true rfl) (Nat.le_of_ble_eq_true rfl) (by omega) (by omega) (f_X13_comesBack_ok X (by omega) (by omega) nn l0 u3.1 u3.2 e_u5) ?_
    clear e_u5
    show mx_S X F L 568 149 [(5, .int u3.1), (0, .ref l0), (3, .int l3)] [.int u5.1] u5.2 0 0 (some (.int r.1), r.2, 0, 0)
    rcases mx_if_el hf with ⟨c6, hf⟩ | ⟨c6, hf⟩
    · refine sb_if_eq hm dX13_calls_149 (tgt := 156) rfl (fun _ => ?_) (fun z => absurd c6 z)
      refine sx_ic (v := 0) hm dX13_calls_156 (by decide) ?_
      cases hf
      exact sx_ire hm dX13_calls_157 rfl (by decide)
    · refine sb_if_eq hm dX13_calls_149 (tgt := 156) rfl (fun z => absurd z c6) (fun _ => ?_)
      refine sx_ic (v := 1) hm dX13_calls_152 (by decide) ?_
      refine mx_S.pu (pc2 := 157) (lv2 := [(5, .int u3.1), (0, .ref l0), (3, .int l3)]) (st2 := [.int 1]) hm dX13_calls_153 rfl ?_
      cases hf
      exact sx_ire hm dX13_calls_157 rfl (by decide)
set_option maxHeartbeats 4000000 in
set_option maxRecDepth 20000 in
theorem w_X13_calls_75_ok (X : Nat × (Nat → Int32)) {F L : Nat} (hF : 11 ≤ F) (hL : 251 ≤ L) (nn : Nat) : ∀ (k : Nat) (l0 : Nat) (l1 : Int32) (l2 : Int32) (l3 : Int32) (l5 : Int32) (h : mx_H) (r : (Int32 × mx_H)), w_X13_calls_75 nn k l0 l1 l2 l3 l5 h = some r → mx_S X F L 568 75 [(0, .ref l0), (1, .int l1), (2, .int l2), (3, .int l3), (5, .int l5)] [] h 0 0 (some (.int r.1), r.2, 0, 0) := by
  have hm : mx_mt 568 = some (yX13_calls, cX13_calls, 6, (some .boolean)) := mt_X13_calls
  intro k
  induction k with
  | zero => intro l0 l1 l2 l3 l5 h r hf; cases hf
  | succ k ih =>
    intro l0 l1 l2 l3 l5 h r hf
    unfold w_X13_calls_75 at hf
    refine mx_S.pu (pc2 := 77) (lv2 := [(0, .ref l0), (1, .int l1), (2, .int l2), (3, .int l3), (5, .int l5)]) (st2 := [.int l5]) hm dX13_calls_75 rfl ?_
    rcases mx_if_el hf with ⟨c23, hf⟩ | ⟨c23, hf⟩
    · refine sb_if_lt hm dX13_calls_77 (tgt := 102) rfl (fun _ => ?_) (fun z => absurd c23 z)
      refine mx_S.pu (pc2 := 103) (lv2 := [(0, .ref l0), (1, .int l1), (2, .int l2), (3, .int l3), (5, .int l5)]) (st2 := [.int l2]) hm dX13_calls_102 rfl ?_
      rcases mx_if_el hf with ⟨c16, hf⟩ | ⟨c16, hf⟩
      · refine sb_if_ne hm dX13_calls_103 (tgt := 129) rfl (fun _ => ?_) (fun z => absurd c16 z)
        refine mx_S.ext [(0, .ref l0), (3, .int l3)] (mx_sub_pos [0, 3] rfl (show ([0, 1, 2, 3, 5] : List Nat).Nodup by decide)) ?_
        exact j_X13_calls_129_ok X hF hL nn l0 l3 h hf
      · refine sb_if_ne hm dX13_calls_103 (tgt := 129) rfl (fun z => absurd z c16) (fun _ => ?_)
        refine mx_S.pu (pc2 := 107) (lv2 := [(0, .ref l0), (1, .int l1), (2, .int l2), (3, .int l3), (5, .int l5)]) (st2 := [.ref l0]) hm dX13_calls_106 rfl ?_
        refine mx_S.pu (pc2 := 108) (lv2 := [(0, .ref l0), (1, .int l1), (2, .int l2), (3, .int l3), (5, .int l5)]) (st2 := [.ref l0, .ref l0]) hm dX13_calls_107 rfl ?_
        refine mx_S.pu (pc2 := 109) (lv2 := [(0, .ref l0), (1, .int l1), (2, .int l2), (3, .int l3), (5, .int l5)]) (st2 := [.ref l0, .ref l0, .ref l0]) hm dX13_calls_108 rfl ?_
        replace hf := mx_sv_el hf; obtain ⟨v8, e_v8, hf⟩ := hf
        refine sx_get hm dX13_calls_109 rs_RX13_932 (xgi_el e_v8) ?_
        clear e_v8
        refine mx_S.pu (pc2 := 113) (lv2 := [(0, .ref l0), (1, .int l1), (2, .int l2), (3, .int l3), (5, .int l5)]) (st2 := [.ref l0, .int v8, .ref l0, .ref l0]) hm dX13_calls_112 rfl ?_
        refine mx_S.pu (pc2 := 114) (lv2 := [(0, .ref l0), (1, .int l1), (2, .int l2), (3, .int l3), (5, .int l5)]) (st2 := [.int l1, .ref l0, .int v8, .ref l0, .ref l0]) hm dX13_calls_113 rfl ?_
        refine sx_ic (v := 0) hm dX13_calls_114 (by decide) ?_
        replace hf := mx_gd_el hf; obtain ⟨c9, hf⟩ := hf
        replace hf := mx_sv_el hf; obtain ⟨u10, e_u10, hf⟩ := hf
        refine sx_cv hm dX13_calls_115 rs_RX13_1022 mt_X13_partOf [.int l1, .int 0] [.int v8, .ref l0, .ref l0] (b := l0) (ci := 13) rfl rfl rfl c9 (Nat.le_of_ble_eq_true rfl) (Nat.le_of_ble_eq_true rfl) (by omega) (by omega) (f_X13_partOf_ok X (by omega) (by omega) nn l0 l1 0 h e_u10) ?_
        clear e_u10
        show mx_S X F L 568 118 [(0, .ref l0), (1, .int l1), (2, .int l2), (3, .int l3), (5, .int l5)] [.int u10.1, .int v8, .ref l0, .ref l0] u10.2 0 0 (some (.int r.1), r.2, 0, 0)
        replace hf := mx_gd_el hf; obtain ⟨c11, hf⟩ := hf
        replace hf := mx_sv_el hf; obtain ⟨u12, e_u12, hf⟩ := hf
        refine sx_cv hm dX13_calls_118 rs_RX13_952 mt_X13_typeOfClass [.int v8, .int u10.1] [.ref l0] (b := l0) (ci := 13) rfl rfl rfl c11 (Nat.le_of_ble_eq_true rfl) (Nat.le_of_ble_eq_true rfl) (by omega) (by omega) (f_X13_typeOfClass_ok X (by omega) (by omega) nn l0 v8 u10.1 u10.2 e_u12) ?_
        clear e_u12
        show mx_S X F L 568 121 [(0, .ref l0), (1, .int l1), (2, .int l2), (3, .int l3), (5, .int l5)] [.int u12.1, .ref l0] u12.2 0 0 (some (.int r.1), r.2, 0, 0)
        replace hf := mx_gd_el hf; obtain ⟨c13, hf⟩ := hf
        replace hf := mx_sv_el hf; obtain ⟨u14, e_u14, hf⟩ := hf
        refine sx_cv hm dX13_calls_121 rs_RX13_1037 mt_X13_pullFit [.int u12.1] [] (b := l0) (ci := 13) rfl rfl rfl c13 (Nat.le_of_ble_eq_true rfl) (Nat.le_of_ble_eq_true rfl) (by omega) (by omega) (f_X13_pullFit_ok X (by omega) (by omega) nn l0 u12.1 u12.2 e_u14) ?_
        clear e_u14
        show mx_S X F L 568 124 [(0, .ref l0), (1, .int l1), (2, .int l2), (3, .int l3), (5, .int l5)] [.int u14.1] u14.2 0 0 (some (.int r.1), r.2, 0, 0)
        rcases mx_if_el hf with ⟨c15, hf⟩ | ⟨c15, hf⟩
        · refine sb_if_ne hm dX13_calls_124 (tgt := 129) rfl (fun _ => ?_) (fun z => absurd c15 z)
          refine mx_S.ext [(0, .ref l0), (3, .int l3)] (mx_sub_pos [0, 3] rfl (show ([0, 1, 2, 3, 5] : List Nat).Nodup by decide)) ?_
          exact j_X13_calls_129_ok X hF hL nn l0 l3 u14.2 hf
        · refine sb_if_ne hm dX13_calls_124 (tgt := 129) rfl (fun z => absurd z c15) (fun _ => ?_)
          refine sx_ic (v := 0) hm dX13_calls_127 (by decide) ?_
          cases hf
          exact sx_ire hm dX13_calls_128 rfl (by decide)
    · refine sb_if_lt hm dX13_calls_77 (tgt := 102) rfl (fun z => absurd z c23) (fun _ => ?_)
      refine mx_S.pu (pc2 := 81) (lv2 := [(0, .ref l0), (1, .int l1), (2, .int l2), (3, .int l3), (5, .int l5)]) (st2 := [.ref l0]) hm dX13_calls_80 rfl ?_
      refine mx_S.pu (pc2 := 82) (lv2 := [(0, .ref l0), (1, .int l1), (2, .int l2), (3, .int l3), (5, .int l5)]) (st2 := [.ref l0, .ref l0]) hm dX13_calls_81 rfl ?_
      replace hf := mx_sv_el hf; obtain ⟨v17, e_v17, hf⟩ := hf
      refine sx_get hm dX13_calls_82 rs_RX13_276 (xgr_el e_v17) ?_
      clear e_v17
      refine mx_S.pu (pc2 := 87) (lv2 := [(0, .ref l0), (1, .int l1), (2, .int l2), (3, .int l3), (5, .int l5)]) (st2 := [.int l5, .ref v17, .ref l0]) hm dX13_calls_85 rfl ?_
      replace hf := mx_sv_el hf; obtain ⟨v18, e_v18, hf⟩ := hf
      refine sx_ald hm dX13_calls_87 e_v18 ?_
      clear e_v18
      replace hf := mx_gd_el hf; obtain ⟨c19, hf⟩ := hf
      replace hf := mx_sv_el hf; obtain ⟨u20, e_u20, hf⟩ := hf
      refine sx_cv hm dX13_calls_88 rs_RX13_1037 mt_X13_pullFit [.int v18] [] (b := l0) (ci := 13) rfl rfl rfl c19 (Nat.le_of_ble_eq_true rfl) (Nat.le_of_ble_eq_true rfl) (by omega) (by omega) (f_X13_pullFit_ok X (by omega) (by omega) nn l0 v18 h e_u20) ?_
      clear e_u20
      show mx_S X F L 568 91 [(0, .ref l0), (1, .int l1), (2, .int l2), (3, .int l3), (5, .int l5)] [.int u20.1] u20.2 0 0 (some (.int r.1), r.2, 0, 0)
      rcases mx_if_el hf with ⟨c22, hf⟩ | ⟨c22, hf⟩
      · refine sb_if_ne hm dX13_calls_91 (tgt := 96) rfl (fun _ => ?_) (fun z => absurd c22 z)
        replace hf := xl_el hf; obtain ⟨v21, e_v21, hf⟩ := hf
        refine mx_S.pu (pc2 := 99) (lv2 := [(5, .int v21), (0, .ref l0), (1, .int l1), (2, .int l2), (3, .int l3)]) (st2 := []) hm dX13_calls_96 (by rw [← e_v21]; rfl) ?_
        clear e_v21
        refine mx_S.pu (pc2 := 75) (lv2 := [(5, .int v21), (0, .ref l0), (1, .int l1), (2, .int l2), (3, .int l3)]) (st2 := []) hm dX13_calls_99 rfl ?_
        refine mx_S.ext [(0, .ref l0), (1, .int l1), (2, .int l2), (3, .int l3), (5, .int v21)] (mx_sub_pos [1, 2, 3, 4, 0] rfl (show ([5, 0, 1, 2, 3] : List Nat).Nodup by decide)) ?_
        exact ih l0 l1 l2 l3 v21 u20.2 _ hf
      · refine sb_if_ne hm dX13_calls_91 (tgt := 96) rfl (fun z => absurd z c22) (fun _ => ?_)
        refine sx_ic (v := 0) hm dX13_calls_94 (by decide) ?_
        cases hf
        exact sx_ire hm dX13_calls_95 rfl (by decide)
set_option maxHeartbeats 4000000 in
set_option maxRecDepth 20000 in
theorem w_X13_calls_35_ok (X : Nat × (Nat → Int32)) {F L : Nat} (hF : 11 ≤ F) (hL : 251 ≤ L) (nn : Nat) : ∀ (k : Nat) (l0 : Nat) (l1 : Int32) (l2 : Int32) (l3 : Int32) (l4 : Int32) (h : mx_H) (r : (Int32 × mx_H)), w_X13_calls_35 nn k l0 l1 l2 l3 l4 h = some r → mx_S X F L 568 35 [(0, .ref l0), (1, .int l1), (2, .int l2), (3, .int l3), (4, .int l4)] [] h 0 0 (some (.int r.1), r.2, 0, 0) := by
  have hm : mx_mt 568 = some (yX13_calls, cX13_calls, 6, (some .boolean)) := mt_X13_calls
  intro k
  induction k with
  | zero => intro l0 l1 l2 l3 l4 h r hf; cases hf
  | succ k ih =>
    intro l0 l1 l2 l3 l4 h r hf
    unfold w_X13_calls_35 at hf
    refine mx_S.pu (pc2 := 36) (lv2 := [(0, .ref l0), (1, .int l1), (2, .int l2), (3, .int l3), (4, .int l4)]) (st2 := [.ref l0]) hm dX13_calls_35 rfl ?_
    replace hf := mx_sv_el hf; obtain ⟨v24, e_v24, hf⟩ := hf
    refine sx_get hm dX13_calls_36 rs_RX13_209 (xgr_el e_v24) ?_
    clear e_v24
    refine mx_S.pu (pc2 := 40) (lv2 := [(0, .ref l0), (1, .int l1), (2, .int l2), (3, .int l3), (4, .int l4)]) (st2 := [.int l3, .ref v24]) hm dX13_calls_39 rfl ?_
    replace hf := mx_sv_el hf; obtain ⟨v25, e_v25, hf⟩ := hf
    refine sx_ald hm dX13_calls_40 e_v25 ?_
    clear e_v25
    refine sx_bi (v := 41) hm dX13_calls_41 (by decide) ?_
    rcases mx_if_el hf with ⟨c33, hf⟩ | ⟨c33, hf⟩
    · refine sb_ic_eq hm dX13_calls_43 (tgt := 69) rfl (fun _ => ?_) (fun z => absurd c33 z)
      refine mx_S.pu (pc2 := 71) (lv2 := [(0, .ref l0), (1, .int l1), (2, .int l2), (3, .int l3), (4, .int l4)]) (st2 := [.int l4]) hm dX13_calls_69 rfl ?_
      refine sx_ic (v := 1) hm dX13_calls_71 (by decide) ?_
      replace hf := xl_el hf; obtain ⟨v26, e_v26, hf⟩ := hf
      refine mx_S.pu (pc2 := 73) (lv2 := [(0, .ref l0), (1, .int l1), (2, .int l2), (3, .int l3), (4, .int l4)]) (st2 := [.int v26]) hm dX13_calls_72 (by rw [← e_v26]; rfl) ?_
      clear e_v26
      refine mx_S.pu (pc2 := 75) (lv2 := [(5, .int v26), (0, .ref l0), (1, .int l1), (2, .int l2), (3, .int l3), (4, .int l4)]) (st2 := []) hm dX13_calls_73 rfl ?_
      refine mx_S.ext [(0, .ref l0), (1, .int l1), (2, .int l2), (3, .int l3), (5, .int v26)] (mx_sub_pos [1, 2, 3, 4, 0] rfl (show ([5, 0, 1, 2, 3, 4] : List Nat).Nodup by decide)) ?_
      exact w_X13_calls_75_ok X hF hL nn nn l0 l1 l2 l3 v26 h _ hf
    · refine sb_ic_eq hm dX13_calls_43 (tgt := 69) rfl (fun z => absurd z c33) (fun _ => ?_)
      refine mx_S.pu (pc2 := 47) (lv2 := [(0, .ref l0), (1, .int l1), (2, .int l2), (3, .int l3), (4, .int l4)]) (st2 := [.ref l0]) hm dX13_calls_46 rfl ?_
      replace hf := mx_sv_el hf; obtain ⟨v27, e_v27, hf⟩ := hf
      refine sx_get hm dX13_calls_47 rs_RX13_276 (xgr_el e_v27) ?_
      clear e_v27
      refine mx_S.pu (pc2 := 52) (lv2 := [(0, .ref l0), (1, .int l1), (2, .int l2), (3, .int l3), (4, .int l4)]) (st2 := [.int l4, .ref v27]) hm dX13_calls_50 rfl ?_
      refine mx_S.pu (pc2 := 53) (lv2 := [(0, .ref l0), (1, .int l1), (2, .int l2), (3, .int l3), (4, .int l4)]) (st2 := [.ref l0, .int l4, .ref v27]) hm dX13_calls_52 rfl ?_
      refine mx_S.pu (pc2 := 54) (lv2 := [(0, .ref l0), (1, .int l1), (2, .int l2), (3, .int l3), (4, .int l4)]) (st2 := [.int l3, .ref l0, .int l4, .ref v27]) hm dX13_calls_53 rfl ?_
      replace hf := mx_gd_el hf; obtain ⟨c28, hf⟩ := hf
      replace hf := mx_sv_el hf; obtain ⟨u29, e_u29, hf⟩ := hf
      refine sx_cv hm dX13_calls_54 rs_RX13_885 mt_X13_typeAt [.int l3] [.int l4, .ref v27] (b := l0) (ci := 13) rfl rfl rfl c28 (Nat.le_of_ble_eq_true rfl) (Nat.le_of_ble_eq_true rfl) (by omega) (by omega) (f_X13_typeAt_ok X (by omega) (by omega) nn l0 l3 h e_u29) ?_
      clear e_u29
      show mx_S X F L 568 57 [(0, .ref l0), (1, .int l1), (2, .int l2), (3, .int l3), (4, .int l4)] [.int u29.1, .int l4, .ref v27] u29.2 0 0 (some (.int r.1), r.2, 0, 0)
      replace hf := mx_sv_el hf; obtain ⟨h30, e_h30, hf⟩ := hf
      refine sx_ast hm dX13_calls_57 e_h30 ?_
      clear e_h30
      replace hf := xl_el hf; obtain ⟨v31, e_v31, hf⟩ := hf
      refine mx_S.pu (pc2 := 61) (lv2 := [(4, .int v31), (0, .ref l0), (1, .int l1), (2, .int l2), (3, .int l3)]) (st2 := []) hm dX13_calls_58 (by rw [← e_v31]; rfl) ?_
      clear e_v31
      refine mx_S.pu (pc2 := 62) (lv2 := [(4, .int v31), (0, .ref l0), (1, .int l1), (2, .int l2), (3, .int l3)]) (st2 := [.ref l0]) hm dX13_calls_61 rfl ?_
      replace hf := mx_sv_el hf; obtain ⟨v32, e_v32, hf⟩ := hf
      refine sx_get hm dX13_calls_62 rs_RX13_879 (xgi_el e_v32) ?_
      clear e_v32
      refine mx_S.pu (pc2 := 66) (lv2 := [(3, .int v32), (4, .int v31), (0, .ref l0), (1, .int l1), (2, .int l2)]) (st2 := []) hm dX13_calls_65 rfl ?_
      refine mx_S.pu (pc2 := 35) (lv2 := [(3, .int v32), (4, .int v31), (0, .ref l0), (1, .int l1), (2, .int l2)]) (st2 := []) hm dX13_calls_66 rfl ?_
      refine mx_S.ext [(0, .ref l0), (1, .int l1), (2, .int l2), (3, .int v32), (4, .int v31)] (mx_sub_pos [2, 3, 4, 0, 1] rfl (show ([3, 4, 0, 1, 2] : List Nat).Nodup by decide)) ?_
      exact ih l0 l1 l2 v32 v31 h30 _ hf
set_option maxHeartbeats 4000000 in
set_option maxRecDepth 20000 in
theorem f_X13_calls_ok (X : Nat × (Nat → Int32)) {F L : Nat} (hF : 11 ≤ F) (hL : 251 ≤ L) (nn : Nat) (a0 : Nat) (a1 : Int32) (a2 : Int32) (h : mx_H) {r : (Int32 × mx_H)} (hf : f_X13_calls nn a0 a1 a2 h = some r) : mx_R X F L 568 [.ref a0, .int a1, .int a2] h (some (.int r.1), r.2, 0, 0) := by
  have hm : mx_mt 568 = some (yX13_calls, cX13_calls, 6, (some .boolean)) := mt_X13_calls
  show mx_S X F L 568 0 [(0, .ref a0), (1, .int a1), (2, .int a2)] [] h 0 0 (some (.int r.1), r.2, 0, 0)
  unfold f_X13_calls at hf
  refine sx_si (v := 6000) hm dX13_calls_0 (by decide) ?_
  refine mx_S.pu (pc2 := 4) (lv2 := [(0, .ref a0), (1, .int a1), (2, .int a2)]) (st2 := [.ref a0, .int 6000]) hm dX13_calls_3 rfl ?_
  replace hf := mx_sv_el hf; obtain ⟨v34, e_v34, hf⟩ := hf
  refine sx_get hm dX13_calls_4 rs_RX13_932 (xgi_el e_v34) ?_
  clear e_v34
  replace hf := xl_el hf; obtain ⟨v35, e_v35, hf⟩ := hf
  refine mx_S.pu (pc2 := 8) (lv2 := [(0, .ref a0), (1, .int a1), (2, .int a2)]) (st2 := [.int v35]) hm dX13_calls_7 (by rw [← e_v35]; rfl) ?_
  clear e_v35
  refine mx_S.pu (pc2 := 9) (lv2 := [(0, .ref a0), (1, .int a1), (2, .int a2)]) (st2 := [.ref a0, .int v35]) hm dX13_calls_8 rfl ?_
  replace hf := mx_sv_el hf; obtain ⟨v36, e_v36, hf⟩ := hf
  refine sx_get hm dX13_calls_9 rs_RX13_215 (xgr_el e_v36) ?_
  clear e_v36
  refine sx_si (v := 256) hm dX13_calls_12 (by decide) ?_
  refine mx_S.pu (pc2 := 16) (lv2 := [(0, .ref a0), (1, .int a1), (2, .int a2)]) (st2 := [.ref a0, .int 256, .ref v36, .int v35]) hm dX13_calls_15 rfl ?_
  replace hf := mx_sv_el hf; obtain ⟨v37, e_v37, hf⟩ := hf
  refine sx_get hm dX13_calls_16 rs_RX13_932 (xgi_el e_v37) ?_
  clear e_v37
  replace hf := xl_el hf; obtain ⟨v38, e_v38, hf⟩ := hf
  refine mx_S.pu (pc2 := 20) (lv2 := [(0, .ref a0), (1, .int a1), (2, .int a2)]) (st2 := [.int v38, .ref v36, .int v35]) hm dX13_calls_19 (by rw [← e_v38]; rfl) ?_
  clear e_v38
  refine mx_S.pu (pc2 := 21) (lv2 := [(0, .ref a0), (1, .int a1), (2, .int a2)]) (st2 := [.ref a0, .int v38, .ref v36, .int v35]) hm dX13_calls_20 rfl ?_
  refine mx_S.pu (pc2 := 22) (lv2 := [(0, .ref a0), (1, .int a1), (2, .int a2)]) (st2 := [.int a1, .ref a0, .int v38, .ref v36, .int v35]) hm dX13_calls_21 rfl ?_
  refine sx_ic (v := 2) hm dX13_calls_22 (by decide) ?_
  replace hf := mx_gd_el hf; obtain ⟨c39, hf⟩ := hf
  replace hf := mx_sv_el hf; obtain ⟨u40, e_u40, hf⟩ := hf
  refine sx_cv hm dX13_calls_23 rs_RX13_1022 mt_X13_partOf [.int a1, .int 2] [.int v38, .ref v36, .int v35] (b := a0) (ci := 13) rfl rfl rfl c39 (Nat.le_of_ble_eq_true rfl) (Nat.le_of_ble_eq_true rfl) (by omega) (by omega) (f_X13_partOf_ok X (by omega) (by omega) nn a0 a1 2 h e_u40) ?_
  clear e_u40
  show mx_S X F L 568 26 [(0, .ref a0), (1, .int a1), (2, .int a2)] [.int u40.1, .int v38, .ref v36, .int v35] u40.2 0 0 (some (.int r.1), r.2, 0, 0)
  replace hf := xl_el hf; obtain ⟨v41, e_v41, hf⟩ := hf
  refine mx_S.pu (pc2 := 27) (lv2 := [(0, .ref a0), (1, .int a1), (2, .int a2)]) (st2 := [.int v41, .ref v36, .int v35]) hm dX13_calls_26 (by rw [← e_v41]; rfl) ?_
  clear e_v41
  replace hf := mx_sv_el hf; obtain ⟨v42, e_v42, hf⟩ := hf
  refine sx_ald hm dX13_calls_27 e_v42 ?_
  clear e_v42
  replace hf := xl_el hf; obtain ⟨v43, e_v43, hf⟩ := hf
  refine mx_S.pu (pc2 := 29) (lv2 := [(0, .ref a0), (1, .int a1), (2, .int a2)]) (st2 := [.int v43]) hm dX13_calls_28 (by rw [← e_v43]; rfl) ?_
  clear e_v43
  refine sx_ic (v := 3) hm dX13_calls_29 (by decide) ?_
  replace hf := xl_el hf; obtain ⟨v44, e_v44, hf⟩ := hf
  refine mx_S.pu (pc2 := 31) (lv2 := [(0, .ref a0), (1, .int a1), (2, .int a2)]) (st2 := [.int v44]) hm dX13_calls_30 (by rw [← e_v44]; rfl) ?_
  clear e_v44
  refine mx_S.pu (pc2 := 32) (lv2 := [(3, .int v44), (0, .ref a0), (1, .int a1), (2, .int a2)]) (st2 := []) hm dX13_calls_31 rfl ?_
  refine sx_ic (v := 0) hm dX13_calls_32 (by decide) ?_
  refine mx_S.pu (pc2 := 35) (lv2 := [(4, .int 0), (3, .int v44), (0, .ref a0), (1, .int a1), (2, .int a2)]) (st2 := []) hm dX13_calls_33 rfl ?_
  refine mx_S.ext [(0, .ref a0), (1, .int a1), (2, .int a2), (3, .int v44), (4, .int 0)] (mx_sub_pos [2, 3, 4, 1, 0] rfl (show ([4, 3, 0, 1, 2] : List Nat).Nodup by decide)) ?_
  exact w_X13_calls_35_ok X hF hL nn nn a0 a1 a2 v44 0 u40.2 _ hf
set_option maxHeartbeats 4000000 in
set_option maxRecDepth 20000 in
theorem w_X13_pullInts_2_ok (X : Nat × (Nat → Int32)) {F L : Nat} (hF : 1 ≤ F) (hL : 20 ≤ L) (nn : Nat) : ∀ (k : Nat) (l0 : Nat) (l1 : Int32) (l2 : Int32) (h : mx_H) (r : (Int32 × mx_H)), w_X13_pullInts_2 nn k l0 l1 l2 h = some r → mx_S X F L 564 2 [(0, .ref l0), (1, .int l1), (2, .int l2)] [] h 0 0 (some (.int r.1), r.2, 0, 0) := by
  have hm : mx_mt 564 = some (yX13_pullInts, cX13_pullInts, 3, (some .boolean)) := mt_X13_pullInts
  intro k
  induction k with
  | zero => intro l0 l1 l2 h r hf; cases hf
  | succ k ih =>
    intro l0 l1 l2 h r hf
    unfold w_X13_pullInts_2 at hf
    refine mx_S.pu (pc2 := 3) (lv2 := [(0, .ref l0), (1, .int l1), (2, .int l2)]) (st2 := [.int l2]) hm dX13_pullInts_2 rfl ?_
    refine mx_S.pu (pc2 := 4) (lv2 := [(0, .ref l0), (1, .int l1), (2, .int l2)]) (st2 := [.int l1, .int l2]) hm dX13_pullInts_3 rfl ?_
    rcases mx_if_el hf with ⟨c5, hf⟩ | ⟨c5, hf⟩
    · refine sb_ic_ge hm dX13_pullInts_4 (tgt := 23) rfl (fun _ => ?_) (fun z => absurd c5 z)
      refine sx_ic (v := 1) hm dX13_pullInts_23 (by decide) ?_
      cases hf
      exact sx_ire hm dX13_pullInts_24 rfl (by decide)
    · refine sb_ic_ge hm dX13_pullInts_4 (tgt := 23) rfl (fun z => absurd z c5) (fun _ => ?_)
      refine mx_S.pu (pc2 := 8) (lv2 := [(0, .ref l0), (1, .int l1), (2, .int l2)]) (st2 := [.ref l0]) hm dX13_pullInts_7 rfl ?_
      replace hf := mx_gd_el hf; obtain ⟨c1, hf⟩ := hf
      replace hf := mx_sv_el hf; obtain ⟨u2, e_u2, hf⟩ := hf
      refine sx_cv hm dX13_pullInts_8 rs_RX13_1025 mt_X13_pull [] [] (b := l0) (ci := 13) rfl rfl rfl c1 (Nat.le_of_ble_eq_true rfl) (Nat.le_of_ble_eq_true rfl) (by omega) (by omega) (f_X13_pull_ok X (by omega) (by omega) nn l0 h e_u2) ?_
      clear e_u2
      show mx_S X F L 564 11 [(0, .ref l0), (1, .int l1), (2, .int l2)] [.int u2.1] u2.2 0 0 (some (.int r.1), r.2, 0, 0)
      refine sx_ic (v := 1) hm dX13_pullInts_11 (by decide) ?_
      rcases mx_if_el hf with ⟨c4, hf⟩ | ⟨c4, hf⟩
      · refine sb_ic_eq hm dX13_pullInts_12 (tgt := 17) rfl (fun _ => ?_) (fun z => absurd c4 z)
        replace hf := xl_el hf; obtain ⟨v3, e_v3, hf⟩ := hf
        refine mx_S.pu (pc2 := 20) (lv2 := [(2, .int v3), (0, .ref l0), (1, .int l1)]) (st2 := []) hm dX13_pullInts_17 (by rw [← e_v3]; rfl) ?_
        clear e_v3
        refine mx_S.pu (pc2 := 2) (lv2 := [(2, .int v3), (0, .ref l0), (1, .int l1)]) (st2 := []) hm dX13_pullInts_20 rfl ?_
        refine mx_S.ext [(0, .ref l0), (1, .int l1), (2, .int v3)] (mx_sub_pos [1, 2, 0] rfl (show ([2, 0, 1] : List Nat).Nodup by decide)) ?_
        exact ih l0 l1 v3 u2.2 _ hf
      · refine sb_ic_eq hm dX13_pullInts_12 (tgt := 17) rfl (fun z => absurd z c4) (fun _ => ?_)
        refine sx_ic (v := 0) hm dX13_pullInts_15 (by decide) ?_
        cases hf
        exact sx_ire hm dX13_pullInts_16 rfl (by decide)
set_option maxHeartbeats 4000000 in
set_option maxRecDepth 20000 in
theorem f_X13_pullInts_ok (X : Nat × (Nat → Int32)) {F L : Nat} (hF : 1 ≤ F) (hL : 20 ≤ L) (nn : Nat) (a0 : Nat) (a1 : Int32) (h : mx_H) {r : (Int32 × mx_H)} (hf : f_X13_pullInts nn a0 a1 h = some r) : mx_R X F L 564 [.ref a0, .int a1] h (some (.int r.1), r.2, 0, 0) := by
  have hm : mx_mt 564 = some (yX13_pullInts, cX13_pullInts, 3, (some .boolean)) := mt_X13_pullInts
  show mx_S X F L 564 0 [(0, .ref a0), (1, .int a1)] [] h 0 0 (some (.int r.1), r.2, 0, 0)
  unfold f_X13_pullInts at hf
  refine sx_ic (v := 0) hm dX13_pullInts_0 (by decide) ?_
  refine mx_S.pu (pc2 := 2) (lv2 := [(2, .int 0), (0, .ref a0), (1, .int a1)]) (st2 := []) hm dX13_pullInts_1 rfl ?_
  refine mx_S.ext [(0, .ref a0), (1, .int a1), (2, .int 0)] (mx_sub_pos [1, 2, 0] rfl (show ([2, 0, 1] : List Nat).Nodup by decide)) ?_
  exact w_X13_pullInts_2_ok X hF hL nn nn a0 a1 0 h _ hf
set_option maxHeartbeats 4000000 in
set_option maxRecDepth 20000 in
theorem f_X13_pullThing_ok (X : Nat × (Nat → Int32)) {F L : Nat} (hF : 1 ≤ F) (hL : 20 ≤ L) (nn : Nat) (a0 : Nat) (h : mx_H) {r : (Int32 × mx_H)} (hf : f_X13_pullThing nn a0 h = some r) : mx_R X F L 566 [.ref a0] h (some (.int r.1), r.2, 0, 0) := by
  have hm : mx_mt 566 = some (yX13_pullThing, cX13_pullThing, 1, (some .boolean)) := mt_X13_pullThing
  show mx_S X F L 566 0 [(0, .ref a0)] [] h 0 0 (some (.int r.1), r.2, 0, 0)
  unfold f_X13_pullThing at hf
  refine mx_S.pu (pc2 := 1) (lv2 := [(0, .ref a0)]) (st2 := [.ref a0]) hm dX13_pullThing_0 rfl ?_
  replace hf := mx_gd_el hf; obtain ⟨c1, hf⟩ := hf
  replace hf := mx_sv_el hf; obtain ⟨u2, e_u2, hf⟩ := hf
  refine sx_cv hm dX13_pullThing_1 rs_RX13_1025 mt_X13_pull [] [] (b := a0) (ci := 13) rfl rfl rfl c1 (Nat.le_of_ble_eq_true rfl) (Nat.le_of_ble_eq_true rfl) (by omega) (by omega) (f_X13_pull_ok X (by omega) (by omega) nn a0 h e_u2) ?_
  clear e_u2
  show mx_S X F L 566 4 [(0, .ref a0)] [.int u2.1] u2.2 0 0 (some (.int r.1), r.2, 0, 0)
  refine sx_ic (v := 2) hm dX13_pullThing_4 (by decide) ?_
  rcases mx_if_el hf with ⟨c3, hf⟩ | ⟨c3, hf⟩
  · refine sb_ic_lt hm dX13_pullThing_5 (tgt := 12) rfl (fun _ => ?_) (fun z => absurd c3 z)
    refine sx_ic (v := 0) hm dX13_pullThing_12 (by decide) ?_
    cases hf
    exact sx_ire hm dX13_pullThing_13 rfl (by decide)
  · refine sb_ic_lt hm dX13_pullThing_5 (tgt := 12) rfl (fun z => absurd z c3) (fun _ => ?_)
    refine sx_ic (v := 1) hm dX13_pullThing_8 (by decide) ?_
    refine mx_S.pu (pc2 := 13) (lv2 := [(0, .ref a0)]) (st2 := [.int 1]) hm dX13_pullThing_9 rfl ?_
    cases hf
    exact sx_ire hm dX13_pullThing_13 rfl (by decide)
