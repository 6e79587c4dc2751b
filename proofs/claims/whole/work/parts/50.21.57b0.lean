set_option maxHeartbeats 4000000 in
set_option maxRecDepth 20000 in
theorem w_X13_frameFor_22_ok (X : Nat × (Nat → Int32)) {F L : Nat} (hF : 2 ≤ F) (hL : 46 ≤ L) (nn : Nat) : ∀ (k : Nat) (l0 : Nat) (l1 : Int32) (l2 : Int32) (l3 : Int32) (h : mx_H) (r : (Int32 × mx_H)), w_X13_frameFor_22 nn k l0 l1 l2 l3 h = some r → mx_S X F L 548 22 [(0, .ref l0), (1, .int l1), (2, .int l2), (3, .int l3)] [] h 0 0 (some (.int r.1), r.2, 0, 0) := by
  have hm : mx_mt 548 = some (yX13_frameFor, cX13_frameFor, 4, (some .int)) := mt_X13_frameFor
  intro k
  induction k with
  | zero => intro l0 l1 l2 l3 h r hf; cases hf
  | succ k ih =>
    intro l0 l1 l2 l3 h r hf
    unfold w_X13_frameFor_22 at hf
    refine mx_S.pu (pc2 := 23) (lv2 := [(0, .ref l0), (1, .int l1), (2, .int l2), (3, .int l3)]) (st2 := [.int l3]) hm dX13_frameFor_22 rfl ?_
    refine mx_S.pu (pc2 := 24) (lv2 := [(0, .ref l0), (1, .int l1), (2, .int l2), (3, .int l3)]) (st2 := [.ref l0, .int l3]) hm dX13_frameFor_23 rfl ?_
    replace hf := mx_gd_el hf; obtain ⟨c1, hf⟩ := hf
    replace hf := mx_sv_el hf; obtain ⟨u2, e_u2, hf⟩ := hf
    refine sx_cv hm dX13_frameFor_24 rs_RX13_946 mt_X13_frameMany [] [.int l3] (b := l0) (ci := 13) rfl rfl rfl c1 (Nat.le_of_ble_eq_true rfl) (Nat.le_of_ble_eq_true rfl) (by omega) (by omega) (f_X13_frameMany_ok X (by omega) (by omega) nn l0 h e_u2) ?_
    clear e_u2
    show mx_S X F L 548 27 [(0, .ref l0), (1, .int l1), (2, .int l2), (3, .int l3)] [.int u2.1, .int l3] u2.2 0 0 (some (.int r.1), r.2, 0, 0)
    rcases mx_if_el hf with ⟨c12, hf⟩ | ⟨c12, hf⟩
    · refine sb_ic_ge hm dX13_frameFor_27 (tgt := 59) rfl (fun _ => ?_) (fun z => absurd c12 z)
      refine sx_ic (v := (-1)) hm dX13_frameFor_59 (by decide) ?_
      cases hf
      exact sx_ire hm dX13_frameFor_60 rfl rfl
    · refine sb_ic_ge hm dX13_frameFor_27 (tgt := 59) rfl (fun z => absurd z c12) (fun _ => ?_)
      refine mx_S.pu (pc2 := 31) (lv2 := [(0, .ref l0), (1, .int l1), (2, .int l2), (3, .int l3)]) (st2 := [.ref l0]) hm dX13_frameFor_30 rfl ?_
      refine mx_S.pu (pc2 := 32) (lv2 := [(0, .ref l0), (1, .int l1), (2, .int l2), (3, .int l3)]) (st2 := [.int l2, .ref l0]) hm dX13_frameFor_31 rfl ?_
      replace hf := mx_gd_el hf; obtain ⟨c3, hf⟩ := hf
      replace hf := mx_sv_el hf; obtain ⟨u4, e_u4, hf⟩ := hf
      refine sx_cv hm dX13_frameFor_32 rs_RX13_949 mt_X13_pairIn [.int l2] [] (b := l0) (ci := 13) rfl rfl rfl c3 (Nat.le_of_ble_eq_true rfl) (Nat.le_of_ble_eq_true rfl) (by omega) (by omega) (f_X13_pairIn_ok X (by omega) (by omega) nn l0 l2 u2.2 e_u4) ?_
      clear e_u4
      show mx_S X F L 548 35 [(0, .ref l0), (1, .int l1), (2, .int l2), (3, .int l3)] [.int u4.1] u4.2 0 0 (some (.int r.1), r.2, 0, 0)
      refine mx_S.pu (pc2 := 36) (lv2 := [(0, .ref l0), (1, .int l1), (2, .int l2), (3, .int l3)]) (st2 := [.int l1, .int u4.1]) hm dX13_frameFor_35 rfl ?_
      rcases mx_if_el hf with ⟨c11, hf⟩ | ⟨c11, hf⟩
      · refine sb_ic_ne hm dX13_frameFor_36 (tgt := 41) rfl (fun _ => ?_) (fun z => absurd c11 z)
        refine mx_S.pu (pc2 := 42) (lv2 := [(0, .ref l0), (1, .int l1), (2, .int l2), (3, .int l3)]) (st2 := [.ref l0]) hm dX13_frameFor_41 rfl ?_
        refine mx_S.pu (pc2 := 43) (lv2 := [(0, .ref l0), (1, .int l1), (2, .int l2), (3, .int l3)]) (st2 := [.ref l0, .ref l0]) hm dX13_frameFor_42 rfl ?_
        refine mx_S.pu (pc2 := 44) (lv2 := [(0, .ref l0), (1, .int l1), (2, .int l2), (3, .int l3)]) (st2 := [.int l2, .ref l0, .ref l0]) hm dX13_frameFor_43 rfl ?_
        refine sx_ic (v := 2) hm dX13_frameFor_44 (by decide) ?_
        replace hf := xl_el hf; obtain ⟨v5, e_v5, hf⟩ := hf
        refine mx_S.pu (pc2 := 46) (lv2 := [(0, .ref l0), (1, .int l1), (2, .int l2), (3, .int l3)]) (st2 := [.int v5, .ref l0, .ref l0]) hm dX13_frameFor_45 (by rw [← e_v5]; rfl) ?_
        clear e_v5
        replace hf := mx_gd_el hf; obtain ⟨c6, hf⟩ := hf
        replace hf := mx_sv_el hf; obtain ⟨u7, e_u7, hf⟩ := hf
        refine sx_cv hm dX13_frameFor_46 rs_RX13_943 mt_X13_typesEnd [.int v5] [.ref l0] (b := l0) (ci := 13) rfl rfl rfl c6 (Nat.le_of_ble_eq_true rfl) (Nat.le_of_ble_eq_true rfl) (by omega) (by omega) (f_X13_typesEnd_ok X (by omega) (by omega) nn l0 v5 u4.2 e_u7) ?_
        clear e_u7
        show mx_S X F L 548 49 [(0, .ref l0), (1, .int l1), (2, .int l2), (3, .int l3)] [.int u7.1, .ref l0] u7.2 0 0 (some (.int r.1), r.2, 0, 0)
        replace hf := mx_gd_el hf; obtain ⟨c8, hf⟩ := hf
        replace hf := mx_sv_el hf; obtain ⟨u9, e_u9, hf⟩ := hf
        refine sx_cv hm dX13_frameFor_49 rs_RX13_943 mt_X13_typesEnd [.int u7.1] [] (b := l0) (ci := 13) rfl rfl rfl c8 (Nat.le_of_ble_eq_true rfl) (Nat.le_of_ble_eq_true rfl) (by omega) (by omega) (f_X13_typesEnd_ok X (by omega) (by omega) nn l0 u7.1 u7.2 e_u9) ?_
        clear e_u9
        show mx_S X F L 548 52 [(0, .ref l0), (1, .int l1), (2, .int l2), (3, .int l3)] [.int u9.1] u9.2 0 0 (some (.int r.1), r.2, 0, 0)
        refine mx_S.pu (pc2 := 53) (lv2 := [(2, .int u9.1), (0, .ref l0), (1, .int l1), (3, .int l3)]) (st2 := []) hm dX13_frameFor_52 rfl ?_
        replace hf := xl_el hf; obtain ⟨v10, e_v10, hf⟩ := hf
        refine mx_S.pu (pc2 := 56) (lv2 := [(3, .int v10), (2, .int u9.1), (0, .ref l0), (1, .int l1)]) (st2 := []) hm dX13_frameFor_53 (by rw [← e_v10]; rfl) ?_
        clear e_v10
        refine mx_S.pu (pc2 := 22) (lv2 := [(3, .int v10), (2, .int u9.1), (0, .ref l0), (1, .int l1)]) (st2 := []) hm dX13_frameFor_56 rfl ?_
        refine mx_S.ext [(0, .ref l0), (1, .int l1), (2, .int u9.1), (3, .int v10)] (mx_sub_pos [2, 3, 1, 0] rfl (show ([3, 2, 0, 1] : List Nat).Nodup by decide)) ?_
        exact ih l0 l1 u9.1 v10 u9.2 _ hf
      · refine sb_ic_ne hm dX13_frameFor_36 (tgt := 41) rfl (fun z => absurd z c11) (fun _ => ?_)
        refine mx_S.pu (pc2 := 40) (lv2 := [(0, .ref l0), (1, .int l1), (2, .int l2), (3, .int l3)]) (st2 := [.int l2]) hm dX13_frameFor_39 rfl ?_
        cases hf
        exact sx_ire hm dX13_frameFor_40 rfl rfl
set_option maxHeartbeats 4000000 in
set_option maxRecDepth 20000 in
theorem f_X13_frameFor_ok (X : Nat × (Nat → Int32)) {F L : Nat} (hF : 2 ≤ F) (hL : 46 ≤ L) (nn : Nat) (a0 : Nat) (a1 : Int32) (h : mx_H) {r : (Int32 × mx_H)} (hf : f_X13_frameFor nn a0 a1 h = some r) : mx_R X F L 548 [.ref a0, .int a1] h (some (.int r.1), r.2, 0, 0) := by
  have hm : mx_mt 548 = some (yX13_frameFor, cX13_frameFor, 4, (some .int)) := mt_X13_frameFor
  show mx_S X F L 548 0 [(0, .ref a0), (1, .int a1)] [] h 0 0 (some (.int r.1), r.2, 0, 0)
  unfold f_X13_frameFor at hf
  refine mx_S.pu (pc2 := 1) (lv2 := [(0, .ref a0), (1, .int a1)]) (st2 := [.ref a0]) hm dX13_frameFor_0 rfl ?_
  replace hf := mx_sv_el hf; obtain ⟨v13, e_v13, hf⟩ := hf
  refine sx_get hm dX13_frameFor_1 rs_RX13_242 (xgr_el e_v13) ?_
  clear e_v13
  refine sx_bi (v := 12) hm dX13_frameFor_4 (by decide) ?_
  refine mx_S.pu (pc2 := 7) (lv2 := [(0, .ref a0), (1, .int a1)]) (st2 := [.ref a0, .int 12, .ref v13]) hm dX13_frameFor_6 rfl ?_
  replace hf := mx_sv_el hf; obtain ⟨v14, e_v14, hf⟩ := hf
  refine sx_get hm dX13_frameFor_7 rs_RX13_932 (xgi_el e_v14) ?_
  clear e_v14
  replace hf := xl_el hf; obtain ⟨v15, e_v15, hf⟩ := hf
  refine mx_S.pu (pc2 := 11) (lv2 := [(0, .ref a0), (1, .int a1)]) (st2 := [.int v15, .ref v13]) hm dX13_frameFor_10 (by rw [← e_v15]; rfl) ?_
  clear e_v15
  refine mx_S.pu (pc2 := 12) (lv2 := [(0, .ref a0), (1, .int a1)]) (st2 := [.ref a0, .int v15, .ref v13]) hm dX13_frameFor_11 rfl ?_
  replace hf := mx_sv_el hf; obtain ⟨v16, e_v16, hf⟩ := hf
  refine sx_get hm dX13_frameFor_12 rs_RX13_940 (xgi_el e_v16) ?_
  clear e_v16
  replace hf := xl_el hf; obtain ⟨v17, e_v17, hf⟩ := hf
  refine mx_S.pu (pc2 := 16) (lv2 := [(0, .ref a0), (1, .int a1)]) (st2 := [.int v17, .ref v13]) hm dX13_frameFor_15 (by rw [← e_v17]; rfl) ?_
  clear e_v17
  replace hf := mx_sv_el hf; obtain ⟨v18, e_v18, hf⟩ := hf
  refine sx_ald hm dX13_frameFor_16 e_v18 ?_
  clear e_v18
  refine sx_ic (v := 1) hm dX13_frameFor_17 (by decide) ?_
  replace hf := xl_el hf; obtain ⟨v19, e_v19, hf⟩ := hf
  refine mx_S.pu (pc2 := 19) (lv2 := [(0, .ref a0), (1, .int a1)]) (st2 := [.int v19]) hm dX13_frameFor_18 (by rw [← e_v19]; rfl) ?_
  clear e_v19
  refine mx_S.pu (pc2 := 20) (lv2 := [(2, .int v19), (0, .ref a0), (1, .int a1)]) (st2 := []) hm dX13_frameFor_19 rfl ?_
  refine sx_ic (v := 0) hm dX13_frameFor_20 (by decide) ?_
  refine mx_S.pu (pc2 := 22) (lv2 := [(3, .int 0), (2, .int v19), (0, .ref a0), (1, .int a1)]) (st2 := []) hm dX13_frameFor_21 rfl ?_
  refine mx_S.ext [(0, .ref a0), (1, .int a1), (2, .int v19), (3, .int 0)] (mx_sub_pos [2, 3, 1, 0] rfl (show ([3, 2, 0, 1] : List Nat).Nodup by decide)) ?_
  exact w_X13_frameFor_22_ok X hF hL nn nn a0 a1 v19 0 h _ hf
set_option maxHeartbeats 4000000 in
set_option maxRecDepth 20000 in
theorem f_X13_isRow_ok (X : Nat × (Nat → Int32)) {F L : Nat} (hF : 0 ≤ F) (hL : 0 ≤ L) (nn : Nat) (a0 : Int32) (h : mx_H) {r : (Int32 × mx_H)} (hf : f_X13_isRow nn a0 h = some r) : mx_R X F L 529 [.int a0] h (some (.int r.1), r.2, 0, 0) := by
  have hm : mx_mt 529 = some (yX13_isRow, cX13_isRow, 1, (some .boolean)) := mt_X13_isRow
  show mx_S X F L 529 0 [(0, .int a0)] [] h 0 0 (some (.int r.1), r.2, 0, 0)
  unfold f_X13_isRow at hf
  refine mx_S.pu (pc2 := 1) (lv2 := [(0, .int a0)]) (st2 := [.int a0]) hm dX13_isRow_0 rfl ?_
  refine sx_ic (v := 3) hm dX13_isRow_1 (by decide) ?_
  rcases mx_if_el hf with ⟨c4, hf⟩ | ⟨c4, hf⟩
  · refine sb_ic_eq hm dX13_isRow_2 (tgt := 17) rfl (fun _ => ?_) (fun z => absurd c4 z)
    refine sx_ic (v := 1) hm dX13_isRow_17 (by decide) ?_
    refine mx_S.pu (pc2 := 22) (lv2 := [(0, .int a0)]) (st2 := [.int 1]) hm dX13_isRow_18 rfl ?_
    cases hf
    exact sx_ire hm dX13_isRow_22 rfl (by decide)
  · refine sb_ic_eq hm dX13_isRow_2 (tgt := 17) rfl (fun z => absurd z c4) (fun _ => ?_)
    refine mx_S.pu (pc2 := 6) (lv2 := [(0, .int a0)]) (st2 := [.int a0]) hm dX13_isRow_5 rfl ?_
    refine sx_ic (v := 4) hm dX13_isRow_6 (by decide) ?_
    rcases mx_if_el hf with ⟨c3, hf⟩ | ⟨c3, hf⟩
    · refine sb_ic_lt hm dX13_isRow_7 (tgt := 21) rfl (fun _ => ?_) (fun z => absurd c3 z)
      refine sx_ic (v := 0) hm dX13_isRow_21 (by decide) ?_
      cases hf
      exact sx_ire hm dX13_isRow_22 rfl (by decide)
    · refine sb_ic_lt hm dX13_isRow_7 (tgt := 21) rfl (fun z => absurd z c3) (fun _ => ?_)
      refine mx_S.pu (pc2 := 11) (lv2 := [(0, .int a0)]) (st2 := [.int a0]) hm dX13_isRow_10 rfl ?_
      refine sx_ic (v := 2) hm dX13_isRow_11 (by decide) ?_
      replace hf := xl_el hf; obtain ⟨v1, e_v1, hf⟩ := hf
      refine sx_irem (v := v1) hm dX13_isRow_12 (by decide) e_v1 ?_
      clear e_v1
      refine sx_ic (v := 1) hm dX13_isRow_13 (by decide) ?_
      rcases mx_if_el hf with ⟨c2, hf⟩ | ⟨c2, hf⟩
      · refine sb_ic_ne hm dX13_isRow_14 (tgt := 21) rfl (fun _ => ?_) (fun z => absurd c2 z)
        refine sx_ic (v := 0) hm dX13_isRow_21 (by decide) ?_
        cases hf
        exact sx_ire hm dX13_isRow_22 rfl (by decide)
      · refine sb_ic_ne hm dX13_isRow_14 (tgt := 21) rfl (fun z => absurd z c2) (fun _ => ?_)
        refine sx_ic (v := 1) hm dX13_isRow_17 (by decide) ?_
        refine mx_S.pu (pc2 := 22) (lv2 := [(0, .int a0)]) (st2 := [.int 1]) hm dX13_isRow_18 rfl ?_
        cases hf
        exact sx_ire hm dX13_isRow_22 rfl (by decide)
set_option maxHeartbeats 4000000 in
set_option maxRecDepth 20000 in
theorem j_X13_goes_53_ok (X : Nat × (Nat → Int32)) {F L : Nat} (hF : 9 ≤ F) (hL : 205 ≤ L) (nn : Nat) (l0 : Nat) (l1 : Int32) (l2 : Int32) (h : mx_H) {r : (Int32 × mx_H)} (hf : j_X13_goes_53 nn l0 l1 l2 h = some r) : mx_S X F L 530 53 [(0, .ref l0), (1, .int l1), (2, .int l2)] [] h 0 0 (some (.int r.1), r.2, 0, 0) := by
  have hm : mx_mt 530 = some (yX13_goes, cX13_goes, 5, (some .boolean)) := mt_X13_goes
  unfold j_X13_goes_53 at hf
  refine mx_S.pu (pc2 := 54) (lv2 := [(0, .ref l0), (1, .int l1), (2, .int l2)]) (st2 := [.int l1]) hm dX13_goes_53 rfl ?_
  refine sx_ic (v := 4) hm dX13_goes_54 (by decide) ?_
  rcases mx_if_el hf with ⟨c14, hf⟩ | ⟨c14, hf⟩
  · refine sb_ic_lt hm dX13_goes_55 (tgt := 72) rfl (fun _ => ?_) (fun z => absurd c14 z)
    refine sx_ic (v := 0) hm dX13_goes_72 (by decide) ?_
    cases hf
    exact sx_ire hm dX13_goes_73 rfl (by decide)
  · refine sb_ic_lt hm dX13_goes_55 (tgt := 72) rfl (fun z => absurd z c14) (fun _ => ?_)
    refine mx_S.pu (pc2 := 59) (lv2 := [(0, .ref l0), (1, .int l1), (2, .int l2)]) (st2 := [.int l2]) hm dX13_goes_58 rfl ?_
    refine sx_ic (v := 4) hm dX13_goes_59 (by decide) ?_
    rcases mx_if_el hf with ⟨c13, hf⟩ | ⟨c13, hf⟩
    · refine sb_ic_lt hm dX13_goes_60 (tgt := 72) rfl (fun _ => ?_) (fun z => absurd c13 z)
      refine sx_ic (v := 0) hm dX13_goes_72 (by decide) ?_
      cases hf
      exact sx_ire hm dX13_goes_73 rfl (by decide)
    · refine sb_ic_lt hm dX13_goes_60 (tgt := 72) rfl (fun z => absurd z c13) (fun _ => ?_)
      refine mx_S.pu (pc2 := 64) (lv2 := [(0, .ref l0), (1, .int l1), (2, .int l2)]) (st2 := [.int l1]) hm dX13_goes_63 rfl ?_
      refine sx_ic (v := 2) hm dX13_goes_64 (by decide) ?_
      replace hf := xl_el hf; obtain ⟨v1, e_v1, hf⟩ := hf
      refine sx_irem (v := v1) hm dX13_goes_65 (by decide) e_v1 ?_
      clear e_v1
      refine mx_S.pu (pc2 := 67) (lv2 := [(0, .ref l0), (1, .int l1), (2, .int l2)]) (st2 := [.int l2, .int v1]) hm dX13_goes_66 rfl ?_
      refine sx_ic (v := 2) hm dX13_goes_67 (by decide) ?_
      replace hf := xl_el hf; obtain ⟨v2, e_v2, hf⟩ := hf
      refine sx_irem (v := v2) hm dX13_goes_68 (by decide) e_v2 ?_
      clear e_v2
      rcases mx_if_el hf with ⟨c12, hf⟩ | ⟨c12, hf⟩
      · refine sb_ic_eq hm dX13_goes_69 (tgt := 74) rfl (fun _ => ?_) (fun z => absurd c12 z)
        refine mx_S.pu (pc2 := 75) (lv2 := [(0, .ref l0), (1, .int l1), (2, .int l2)]) (st2 := [.int l1]) hm dX13_goes_74 rfl ?_
        refine sx_ic (v := 4) hm dX13_goes_75 (by decide) ?_
        replace hf := xl_el hf; obtain ⟨v3, e_v3, hf⟩ := hf
        refine mx_S.pu (pc2 := 77) (lv2 := [(0, .ref l0), (1, .int l1), (2, .int l2)]) (st2 := [.int v3]) hm dX13_goes_76 (by rw [← e_v3]; rfl) ?_
        clear e_v3
        refine sx_ic (v := 2) hm dX13_goes_77 (by decide) ?_
        replace hf := xl_el hf; obtain ⟨v4, e_v4, hf⟩ := hf
        refine sx_idiv (v := v4) hm dX13_goes_78 (by decide) e_v4 ?_
        clear e_v4
        refine mx_S.pu (pc2 := 80) (lv2 := [(3, .int v4), (0, .ref l0), (1, .int l1), (2, .int l2)]) (st2 := []) hm dX13_goes_79 rfl ?_
        refine mx_S.pu (pc2 := 81) (lv2 := [(3, .int v4), (0, .ref l0), (1, .int l1), (2, .int l2)]) (st2 := [.int l2]) hm dX13_goes_80 rfl ?_
        refine sx_ic (v := 4) hm dX13_goes_81 (by decide) ?_
        replace hf := xl_el hf; obtain ⟨v5, e_v5, hf⟩ := hf
        refine mx_S.pu (pc2 := 83) (lv2 := [(3, .int v4), (0, .ref l0), (1, .int l1), (2, .int l2)]) (st2 := [.int v5]) hm dX13_goes_82 (by rw [← e_v5]; rfl) ?_
        clear e_v5
        refine sx_ic (v := 2) hm dX13_goes_83 (by decide) ?_
        replace hf := xl_el hf; obtain ⟨v6, e_v6, hf⟩ := hf
        refine sx_idiv (v := v6) hm dX13_goes_84 (by decide) e_v6 ?_
        clear e_v6
        refine mx_S.pu (pc2 := 87) (lv2 := [(4, .int v6), (3, .int v4), (0, .ref l0), (1, .int l1), (2, .int l2)]) (st2 := []) hm dX13_goes_85 rfl ?_
        refine mx_S.pu (pc2 := 88) (lv2 := [(4, .int v6), (3, .int v4), (0, .ref l0), (1, .int l1), (2, .int l2)]) (st2 := [.int v4]) hm dX13_goes_87 rfl ?_
        refine sx_bi (v := 16) hm dX13_goes_88 (by decide) ?_
        rcases mx_if_el hf with ⟨c11, hf⟩ | ⟨c11, hf⟩
        · refine sb_ic_ge hm dX13_goes_90 (tgt := 114) rfl (fun _ => ?_) (fun z => absurd c11 z)
          refine sx_ic (v := 0) hm dX13_goes_114 (by decide) ?_
          cases hf
          exact sx_ire hm dX13_goes_115 rfl (by decide)
        · refine sb_ic_ge hm dX13_goes_90 (tgt := 114) rfl (fun z => absurd z c11) (fun _ => ?_)
          refine mx_S.pu (pc2 := 95) (lv2 := [(4, .int v6), (3, .int v4), (0, .ref l0), (1, .int l1), (2, .int l2)]) (st2 := [.int v6]) hm dX13_goes_93 rfl ?_
          refine sx_bi (v := 16) hm dX13_goes_95 (by decide) ?_
          rcases mx_if_el hf with ⟨c10, hf⟩ | ⟨c10, hf⟩
          · refine sb_ic_ge hm dX13_goes_97 (tgt := 114) rfl (fun _ => ?_) (fun z => absurd c10 z)
            refine sx_ic (v := 0) hm dX13_goes_114 (by decide) ?_
            cases hf
            exact sx_ire hm dX13_goes_115 rfl (by decide)
          · refine sb_ic_ge hm dX13_goes_97 (tgt := 114) rfl (fun z => absurd z c10) (fun _ => ?_)
            refine mx_S.pu (pc2 := 101) (lv2 := [(4, .int v6), (3, .int v4), (0, .ref l0), (1, .int l1), (2, .int l2)]) (st2 := [.ref l0]) hm dX13_goes_100 rfl ?_
            refine mx_S.pu (pc2 := 102) (lv2 := [(4, .int v6), (3, .int v4), (0, .ref l0), (1, .int l1), (2, .int l2)]) (st2 := [.int v4, .ref l0]) hm dX13_goes_101 rfl ?_
            refine mx_S.pu (pc2 := 104) (lv2 := [(4, .int v6), (3, .int v4), (0, .ref l0), (1, .int l1), (2, .int l2)]) (st2 := [.int v6, .int v4, .ref l0]) hm dX13_goes_102 rfl ?_
            replace hf := mx_gd_el hf; obtain ⟨c7, hf⟩ := hf
            replace hf := mx_sv_el hf; obtain ⟨u8, e_u8, hf⟩ := hf
            refine sx_cv hm dX13_goes_104 rs_RX13_891 mt_X13_isUnder [.int v4, .int v6] [] (b := l0) (ci := 13) rfl rfl rfl c7 (Nat.le_of_ble_eq_true rfl) (Nat.le_of_ble_eq_true rfl) (by omega) (by omega) (f_X13_isUnder_ok X (by omega) (by omega) nn l0 v4 v6 h e_u8) ?_
            clear e_u8
            show mx_S X F L 530 107 [(4, .int v6), (3, .int v4), (0, .ref l0), (1, .int l1), (2, .int l2)] [.int u8.1] u8.2 0 0 (some (.int r.1), r.2, 0, 0)
            rcases mx_if_el hf with ⟨c9, hf⟩ | ⟨c9, hf⟩
            · refine sb_if_eq hm dX13_goes_107 (tgt := 114) rfl (fun _ => ?_) (fun z => absurd c9 z)
              refine sx_ic (v := 0) hm dX13_goes_114 (by decide) ?_
              cases hf
              exact sx_ire hm dX13_goes_115 rfl (by decide)
            · refine sb_if_eq hm dX13_goes_107 (tgt := 114) rfl (fun z => absurd z c9) (fun _ => ?_)
              refine sx_ic (v := 1) hm dX13_goes_110 (by decide) ?_
              refine mx_S.pu (pc2 := 115) (lv2 := [(4, .int v6), (3, .int v4), (0, .ref l0), (1, .int l1), (2, .int l2)]) (st2 := [.int 1]) hm dX13_goes_111 rfl ?_
              cases hf
              exact sx_ire hm dX13_goes_115 rfl (by decide)
      · refine sb_ic_eq hm dX13_goes_69 (tgt := 74) rfl (fun z => absurd z c12) (fun _ => ?_)
        refine sx_ic (v := 0) hm dX13_goes_72 (by decide) ?_
        cases hf
        exact sx_ire hm dX13_goes_73 rfl (by decide)
set_option maxHeartbeats 4000000 in
set_option maxRecDepth 20000 in
theorem f_X13_goes_ok (X : Nat × (Nat → Int32)) {F L : Nat} (hF : 9 ≤ F) (hL : 205 ≤ L) (nn : Nat) (a0 : Nat) (a1 : Int32) (a2 : Int32) (h : mx_H) {r : (Int32 × mx_H)} (hf : f_X13_goes nn a0 a1 a2 h = some r) : mx_R X F L 530 [.ref a0, .int a1, .int a2] h (some (.int r.1), r.2, 0, 0) := by
  have hm : mx_mt 530 = some (yX13_goes, cX13_goes, 5, (some .boolean)) := mt_X13_goes
  show mx_S X F L 530 0 [(0, .ref a0), (1, .int a1), (2, .int a2)] [] h 0 0 (some (.int r.1), r.2, 0, 0)
  unfold f_X13_goes at hf
  refine mx_S.pu (pc2 := 1) (lv2 := [(0, .ref a0), (1, .int a1), (2, .int a2)]) (st2 := [.int a2]) hm dX13_goes_0 rfl ?_
  rcases mx_if_el hf with ⟨c24, hf⟩ | ⟨c24, hf⟩
  · refine sb_if_eq hm dX13_goes_1 (tgt := 9) rfl (fun _ => ?_) (fun z => absurd c24 z)
    refine sx_ic (v := 1) hm dX13_goes_9 (by decide) ?_
    cases hf
    exact sx_ire hm dX13_goes_10 rfl (by decide)
  · refine sb_if_eq hm dX13_goes_1 (tgt := 9) rfl (fun z => absurd z c24) (fun _ => ?_)
    refine mx_S.pu (pc2 := 5) (lv2 := [(0, .ref a0), (1, .int a1), (2, .int a2)]) (st2 := [.int a1]) hm dX13_goes_4 rfl ?_
    refine mx_S.pu (pc2 := 6) (lv2 := [(0, .ref a0), (1, .int a1), (2, .int a2)]) (st2 := [.int a2, .int a1]) hm dX13_goes_5 rfl ?_
    rcases mx_if_el hf with ⟨c23, hf⟩ | ⟨c23, hf⟩
    · refine sb_ic_ne hm dX13_goes_6 (tgt := 11) rfl (fun _ => ?_) (fun z => absurd c23 z)
      refine mx_S.pu (pc2 := 12) (lv2 := [(0, .ref a0), (1, .int a1), (2, .int a2)]) (st2 := [.int a1]) hm dX13_goes_11 rfl ?_
      rcases mx_if_el hf with ⟨c22, hf⟩ | ⟨c22, hf⟩
      · refine sb_if_eq hm dX13_goes_12 (tgt := 30) rfl (fun _ => ?_) (fun z => absurd c22 z)
        refine sx_ic (v := 0) hm dX13_goes_30 (by decide) ?_
        cases hf
        exact sx_ire hm dX13_goes_31 rfl (by decide)
      · refine sb_if_eq hm dX13_goes_12 (tgt := 30) rfl (fun z => absurd z c22) (fun _ => ?_)
        refine mx_S.pu (pc2 := 16) (lv2 := [(0, .ref a0), (1, .int a1), (2, .int a2)]) (st2 := [.int a1]) hm dX13_goes_15 rfl ?_
        refine sx_ic (v := 1) hm dX13_goes_16 (by decide) ?_
        rcases mx_if_el hf with ⟨c21, hf⟩ | ⟨c21, hf⟩
        · refine sb_ic_eq hm dX13_goes_17 (tgt := 30) rfl (fun _ => ?_) (fun z => absurd c21 z)
          refine sx_ic (v := 0) hm dX13_goes_30 (by decide) ?_
          cases hf
          exact sx_ire hm dX13_goes_31 rfl (by decide)
        · refine sb_ic_eq hm dX13_goes_17 (tgt := 30) rfl (fun z => absurd z c21) (fun _ => ?_)
          refine mx_S.pu (pc2 := 21) (lv2 := [(0, .ref a0), (1, .int a1), (2, .int a2)]) (st2 := [.int a2]) hm dX13_goes_20 rfl ?_
          refine sx_ic (v := 1) hm dX13_goes_21 (by decide) ?_
          rcases mx_if_el hf with ⟨c20, hf⟩ | ⟨c20, hf⟩
          · refine sb_ic_eq hm dX13_goes_22 (tgt := 30) rfl (fun _ => ?_) (fun z => absurd c20 z)
            refine sx_ic (v := 0) hm dX13_goes_30 (by decide) ?_
            cases hf
            exact sx_ire hm dX13_goes_31 rfl (by decide)
          · refine sb_ic_eq hm dX13_goes_22 (tgt := 30) rfl (fun z => absurd z c20) (fun _ => ?_)
            refine mx_S.pu (pc2 := 26) (lv2 := [(0, .ref a0), (1, .int a1), (2, .int a2)]) (st2 := [.int a2]) hm dX13_goes_25 rfl ?_
            refine sx_ic (v := 2) hm dX13_goes_26 (by decide) ?_
            rcases mx_if_el hf with ⟨c19, hf⟩ | ⟨c19, hf⟩
            · refine sb_ic_ne hm dX13_goes_27 (tgt := 32) rfl (fun _ => ?_) (fun z => absurd c19 z)
              refine mx_S.pu (pc2 := 33) (lv2 := [(0, .ref a0), (1, .int a1), (2, .int a2)]) (st2 := [.int a1]) hm dX13_goes_32 rfl ?_
              refine sx_ic (v := 2) hm dX13_goes_33 (by decide) ?_
              rcases mx_if_el hf with ⟨c18, hf⟩ | ⟨c18, hf⟩
              · refine sb_ic_ne hm dX13_goes_34 (tgt := 39) rfl (fun _ => ?_) (fun z => absurd c18 z)
                refine mx_S.pu (pc2 := 40) (lv2 := [(0, .ref a0), (1, .int a1), (2, .int a2)]) (st2 := [.int a1]) hm dX13_goes_39 rfl ?_
                replace hf := mx_sv_el hf; obtain ⟨u15, e_u15, hf⟩ := hf
                refine sx_cs hm dX13_goes_40 rs_RX13_888 mt_X13_isRow [.int a1] [] rfl rfl (Nat.le_of_ble_eq_true rfl) (Nat.le_of_ble_eq_true rfl) (by omega) (by omega) (f_X13_isRow_ok X (by omega) (by omega) nn a1 h e_u15) ?_
                clear e_u15
                show mx_S X F L 530 43 [(0, .ref a0), (1, .int a1), (2, .int a2)] [.int u15.1] u15.2 0 0 (some (.int r.1), r.2, 0, 0)
                rcases mx_if_el hf with ⟨c17, hf⟩ | ⟨c17, hf⟩
                · refine sb_if_eq hm dX13_goes_43 (tgt := 53) rfl (fun _ => ?_) (fun z => absurd c17 z)
                  exact j_X13_goes_53_ok X hF hL nn a0 a1 a2 u15.2 hf
                · refine sb_if_eq hm dX13_goes_43 (tgt := 53) rfl (fun z => absurd z c17) (fun _ => ?_)
                  refine mx_S.pu (pc2 := 47) (lv2 := [(0, .ref a0), (1, .int a1), (2, .int a2)]) (st2 := [.int a2]) hm dX13_goes_46 rfl ?_
                  refine sx_ic (v := 4) hm dX13_goes_47 (by decide) ?_
                  rcases mx_if_el hf with ⟨c16, hf⟩ | ⟨c16, hf⟩
                  · refine sb_ic_ne hm dX13_goes_48 (tgt := 53) rfl (fun _ => ?_) (fun z => absurd c16 z)
                    exact j_X13_goes_53_ok X hF hL nn a0 a1 a2 u15.2 hf
                  · refine sb_ic_ne hm dX13_goes_48 (tgt := 53) rfl (fun z => absurd z c16) (fun _ => ?_)
                    refine sx_ic (v := 1) hm dX13_goes_51 (by decide) ?_
                    cases hf
                    exact sx_ire hm dX13_goes_52 rfl (by decide)
              · refine sb_ic_ne hm dX13_goes_34 (tgt := 39) rfl (fun z => absurd z c18) (fun _ => ?_)
                refine sx_ic (v := 1) hm dX13_goes_37 (by decide) ?_
                cases hf
                exact sx_ire hm dX13_goes_38 rfl (by decide)
            · refine sb_ic_ne hm dX13_goes_27 (tgt := 32) rfl (fun z => absurd z c19) (fun _ => ?_)
              refine sx_ic (v := 0) hm dX13_goes_30 (by decide) ?_
              cases hf
              exact sx_ire hm dX13_goes_31 rfl (by decide)
    · refine sb_ic_ne hm dX13_goes_6 (tgt := 11) rfl (fun z => absurd z c23) (fun _ => ?_)
      refine sx_ic (v := 1) hm dX13_goes_9 (by decide) ?_
      cases hf
      exact sx_ire hm dX13_goes_10 rfl (by decide)
set_option maxHeartbeats 4000000 in
set_option maxRecDepth 20000 in
theorem j_X13_localsFit_66_ok (X : Nat × (Nat → Int32)) {F L : Nat} (hF : 10 ≤ F) (hL : 232 ≤ L) (nn : Nat) {kk_20 : Nat → Int32 → Int32 → Int32 → mx_H → Option (Int32 × mx_H)} (hk_20 : ∀ (l0 : Nat) (l2 : Int32) (l3 : Int32) (l4 : Int32) (h : mx_H) (r : (Int32 × mx_H)), kk_20 l0 l2 l3 l4 h = some r → mx_S X F L 550 20 [(0, .ref l0), (2, .int l2), (3, .int l3), (4, .int l4)] [] h 0 0 (some (.int r.1), r.2, 0, 0)) (l0 : Nat) (l3 : Int32) (l4 : Int32) (s0 : Int32) (s1 : Int32) (h : mx_H) {r : (Int32 × mx_H)} (hf : j_X13_localsFit_66 nn kk_20 l0 l3 l4 s0 s1 h = some r) : mx_S X F L 550 66 [(0, .ref l0), (3, .int l3), (4, .int l4)] [.int s0, .int s1] h 0 0 (some (.int r.1), r.2, 0, 0) := by
  have hm : mx_mt 550 = some (yX13_localsFit, cX13_localsFit, 5, (some .boolean)) := mt_X13_localsFit
  unfold j_X13_localsFit_66 at hf
  replace hf := xl_el hf; obtain ⟨v1, e_v1, hf⟩ := hf
  refine mx_S.pu (pc2 := 67) (lv2 := [(0, .ref l0), (3, .int l3), (4, .int l4)]) (st2 := [.int v1]) hm dX13_localsFit_66 (by rw [← e_v1]; rfl) ?_
  clear e_v1
  refine mx_S.pu (pc2 := 68) (lv2 := [(2, .int v1), (0, .ref l0), (3, .int l3), (4, .int l4)]) (st2 := []) hm dX13_localsFit_67 rfl ?_
  replace hf := xl_el hf; obtain ⟨v2, e_v2, hf⟩ := hf
  refine mx_S.pu (pc2 := 71) (lv2 := [(4, .int v2), (2, .int v1), (0, .ref l0), (3, .int l3)]) (st2 := []) hm dX13_localsFit_68 (by rw [← e_v2]; rfl) ?_
  clear e_v2
  refine mx_S.pu (pc2 := 20) (lv2 := [(4, .int v2), (2, .int v1), (0, .ref l0), (3, .int l3)]) (st2 := []) hm dX13_localsFit_71 rfl ?_
  refine mx_S.ext [(0, .ref l0), (2, .int v1), (3, .int l3), (4, .int v2)] (mx_sub_pos [2, 1, 3, 0] rfl (show ([4, 2, 0, 3] : List Nat).Nodup by decide)) ?_
  exact hk_20 l0 v1 l3 v2 h _ hf
set_option maxHeartbeats 4000000 in
set_option maxRecDepth 20000 in
theorem w_X13_localsFit_20_ok (X : Nat × (Nat → Int32)) {F L : Nat} (hF : 10 ≤ F) (hL : 232 ≤ L) (nn : Nat) : ∀ (k : Nat) (l0 : Nat) (l2 : Int32) (l3 : Int32) (l4 : Int32) (h : mx_H) (r : (Int32 × mx_H)), w_X13_localsFit_20 nn k l0 l2 l3 l4 h = some r → mx_S X F L 550 20 [(0, .ref l0), (2, .int l2), (3, .int l3), (4, .int l4)] [] h 0 0 (some (.int r.1), r.2, 0, 0) := by
  have hm : mx_mt 550 = some (yX13_localsFit, cX13_localsFit, 5, (some .boolean)) := mt_X13_localsFit
  intro k
  induction k with
  | zero => intro l0 l2 l3 l4 h r hf; cases hf
  | succ k ih =>
    intro l0 l2 l3 l4 h r hf
    unfold w_X13_localsFit_20 at hf
    refine mx_S.pu (pc2 := 22) (lv2 := [(0, .ref l0), (2, .int l2), (3, .int l3), (4, .int l4)]) (st2 := [.int l4]) hm dX13_localsFit_20 rfl ?_
    refine mx_S.pu (pc2 := 23) (lv2 := [(0, .ref l0), (2, .int l2), (3, .int l3), (4, .int l4)]) (st2 := [.int l3, .int l4]) hm dX13_localsFit_22 rfl ?_
    rcases mx_if_el hf with ⟨c14, hf⟩ | ⟨c14, hf⟩
    · refine sb_ic_ge hm dX13_localsFit_23 (tgt := 74) rfl (fun _ => ?_) (fun z => absurd c14 z)
      refine sx_ic (v := 1) hm dX13_localsFit_74 (by decide) ?_
      cases hf
      exact sx_ire hm dX13_localsFit_75 rfl (by decide)
    · refine sb_ic_ge hm dX13_localsFit_23 (tgt := 74) rfl (fun z => absurd z c14) (fun _ => ?_)
      refine mx_S.pu (pc2 := 27) (lv2 := [(0, .ref l0), (2, .int l2), (3, .int l3), (4, .int l4)]) (st2 := [.ref l0]) hm dX13_localsFit_26 rfl ?_
      refine mx_S.pu (pc2 := 28) (lv2 := [(0, .ref l0), (2, .int l2), (3, .int l3), (4, .int l4)]) (st2 := [.ref l0, .ref l0]) hm dX13_localsFit_27 rfl ?_
      replace hf := mx_sv_el hf; obtain ⟨v3, e_v3, hf⟩ := hf
      refine sx_get hm dX13_localsFit_28 rs_RX13_270 (xgr_el e_v3) ?_
      clear e_v3
      refine mx_S.pu (pc2 := 33) (lv2 := [(0, .ref l0), (2, .int l2), (3, .int l3), (4, .int l4)]) (st2 := [.int l4, .ref v3, .ref l0]) hm dX13_localsFit_31 rfl ?_
      replace hf := mx_sv_el hf; obtain ⟨v4, e_v4, hf⟩ := hf
      refine sx_ald hm dX13_localsFit_33 e_v4 ?_
      clear e_v4
      refine mx_S.pu (pc2 := 35) (lv2 := [(0, .ref l0), (2, .int l2), (3, .int l3), (4, .int l4)]) (st2 := [.ref l0, .int v4, .ref l0]) hm dX13_localsFit_34 rfl ?_
      refine mx_S.pu (pc2 := 36) (lv2 := [(0, .ref l0), (2, .int l2), (3, .int l3), (4, .int l4)]) (st2 := [.int l2, .ref l0, .int v4, .ref l0]) hm dX13_localsFit_35 rfl ?_
      replace hf := mx_gd_el hf; obtain ⟨c5, hf⟩ := hf
      replace hf := mx_sv_el hf; obtain ⟨u6, e_u6, hf⟩ := hf
      refine sx_cv hm dX13_localsFit_36 rs_RX13_955 mt_X13_framed [.int l2] [.int v4, .ref l0] (b := l0) (ci := 13) rfl rfl rfl c5 (Nat.le_of_ble_eq_true rfl) (Nat.le_of_ble_eq_true rfl) (by omega) (by omega) (f_X13_framed_ok X (by omega) (by omega) nn l0 l2 h e_u6) ?_
      clear e_u6
      show mx_S X F L 550 39 [(0, .ref l0), (2, .int l2), (3, .int l3), (4, .int l4)] [.int u6.1, .int v4, .ref l0] u6.2 0 0 (some (.int r.1), r.2, 0, 0)
      replace hf := mx_gd_el hf; obtain ⟨c7, hf⟩ := hf
      replace hf := mx_sv_el hf; obtain ⟨u8, e_u8, hf⟩ := hf
      refine sx_cv hm dX13_localsFit_39 rs_RX13_958 mt_X13_goes [.int v4, .int u6.1] [] (b := l0) (ci := 13) rfl rfl rfl c7 (Nat.le_of_ble_eq_true rfl) (Nat.le_of_ble_eq_true rfl) (by omega) (by omega) (f_X13_goes_ok X (by omega) (by omega) nn l0 v4 u6.1 u6.2 e_u8) ?_
      clear e_u8
      show mx_S X F L 550 42 [(0, .ref l0), (2, .int l2), (3, .int l3), (4, .int l4)] [.int u8.1] u8.2 0 0 (some (.int r.1), r.2, 0, 0)
      rcases mx_if_el hf with ⟨c13, hf⟩ | ⟨c13, hf⟩
      · refine sb_if_ne hm dX13_localsFit_42 (tgt := 47) rfl (fun _ => ?_) (fun z => absurd c13 z)
        refine mx_S.pu (pc2 := 48) (lv2 := [(0, .ref l0), (2, .int l2), (3, .int l3), (4, .int l4)]) (st2 := [.int l2]) hm dX13_localsFit_47 rfl ?_
        refine mx_S.pu (pc2 := 49) (lv2 := [(0, .ref l0), (2, .int l2), (3, .int l3), (4, .int l4)]) (st2 := [.ref l0, .int l2]) hm dX13_localsFit_48 rfl ?_
        refine mx_S.pu (pc2 := 50) (lv2 := [(0, .ref l0), (2, .int l2), (3, .int l3), (4, .int l4)]) (st2 := [.ref l0, .ref l0, .int l2]) hm dX13_localsFit_49 rfl ?_
        replace hf := mx_sv_el hf; obtain ⟨v9, e_v9, hf⟩ := hf
        refine sx_get hm dX13_localsFit_50 rs_RX13_932 (xgi_el e_v9) ?_
        clear e_v9
        refine mx_S.pu (pc2 := 54) (lv2 := [(0, .ref l0), (2, .int l2), (3, .int l3), (4, .int l4)]) (st2 := [.int l2, .int v9, .ref l0, .int l2]) hm dX13_localsFit_53 rfl ?_
        replace hf := mx_gd_el hf; obtain ⟨c10, hf⟩ := hf
        replace hf := mx_sv_el hf; obtain ⟨u11, e_u11, hf⟩ := hf
        refine sx_cv hm dX13_localsFit_54 rs_RX13_864 mt_X13_byteAt [.int v9, .int l2] [.int l2] (b := l0) (ci := 13) rfl rfl rfl c10 (Nat.le_of_ble_eq_true rfl) (Nat.le_of_ble_eq_true rfl) (by omega) (by omega) (f_X13_byteAt_ok X (by omega) (by omega) nn l0 v9 l2 u8.2 e_u11) ?_
        clear e_u11
        show mx_S X F L 550 57 [(0, .ref l0), (2, .int l2), (3, .int l3), (4, .int l4)] [.int u11.1, .int l2] u11.2 0 0 (some (.int r.1), r.2, 0, 0)
        refine sx_ic (v := 3) hm dX13_localsFit_57 (by decide) ?_
        rcases mx_if_el hf with ⟨c12, hf⟩ | ⟨c12, hf⟩
        · refine sb_ic_ne hm dX13_localsFit_58 (tgt := 65) rfl (fun _ => ?_) (fun z => absurd c12 z)
          refine sx_ic (v := 1) hm dX13_localsFit_65 (by decide) ?_
          refine mx_S.ext [(0, .ref l0), (3, .int l3), (4, .int l4)] (mx_sub_pos [0, 2, 3] rfl (show ([0, 2, 3, 4] : List Nat).Nodup by decide)) ?_
          exact j_X13_localsFit_66_ok X hF hL nn ih l0 l3 l4 1 l2 u11.2 hf
        · refine sb_ic_ne hm dX13_localsFit_58 (tgt := 65) rfl (fun z => absurd z c12) (fun _ => ?_)
          refine sx_ic (v := 2) hm dX13_localsFit_61 (by decide) ?_
          refine mx_S.pu (pc2 := 66) (lv2 := [(0, .ref l0), (2, .int l2), (3, .int l3), (4, .int l4)]) (st2 := [.int 2, .int l2]) hm dX13_localsFit_62 rfl ?_
          refine mx_S.ext [(0, .ref l0), (3, .int l3), (4, .int l4)] (mx_sub_pos [0, 2, 3] rfl (show ([0, 2, 3, 4] : List Nat).Nodup by decide)) ?_
          exact j_X13_localsFit_66_ok X hF hL nn ih l0 l3 l4 2 l2 u11.2 hf
      · refine sb_if_ne hm dX13_localsFit_42 (tgt := 47) rfl (fun z => absurd z c13) (fun _ => ?_)
        refine sx_ic (v := 0) hm dX13_localsFit_45 (by decide) ?_
        cases hf
        exact sx_ire hm dX13_localsFit_46 rfl (by decide)
set_option maxHeartbeats 4000000 in
set_option maxRecDepth 20000 in
theorem f_X13_localsFit_ok (X : Nat × (Nat → Int32)) {F L : Nat} (hF : 10 ≤ F) (hL : 232 ≤ L) (nn : Nat) (a0 : Nat) (a1 : Int32) (h : mx_H) {r : (Int32 × mx_H)} (hf : f_X13_localsFit nn a0 a1 h = some r) : mx_R X F L 550 [.ref a0, .int a1] h (some (.int r.1), r.2, 0, 0) := by
  have hm : mx_mt 550 = some (yX13_localsFit, cX13_localsFit, 5, (some .boolean)) := mt_X13_localsFit
  show mx_S X F L 550 0 [(0, .ref a0), (1, .int a1)] [] h 0 0 (some (.int r.1), r.2, 0, 0)
  unfold f_X13_localsFit at hf
  refine mx_S.pu (pc2 := 1) (lv2 := [(0, .ref a0), (1, .int a1)]) (st2 := [.int a1]) hm dX13_localsFit_0 rfl ?_
  refine sx_ic (v := 2) hm dX13_localsFit_1 (by decide) ?_
  replace hf := xl_el hf; obtain ⟨v15, e_v15, hf⟩ := hf
  refine mx_S.pu (pc2 := 3) (lv2 := [(0, .ref a0), (1, .int a1)]) (st2 := [.int v15]) hm dX13_localsFit_2 (by rw [← e_v15]; rfl) ?_
  clear e_v15
  refine mx_S.pu (pc2 := 4) (lv2 := [(2, .int v15), (0, .ref a0), (1, .int a1)]) (st2 := []) hm dX13_localsFit_3 rfl ?_
  refine mx_S.pu (pc2 := 5) (lv2 := [(2, .int v15), (0, .ref a0), (1, .int a1)]) (st2 := [.ref a0]) hm dX13_localsFit_4 rfl ?_
  refine mx_S.pu (pc2 := 6) (lv2 := [(2, .int v15), (0, .ref a0), (1, .int a1)]) (st2 := [.ref a0, .ref a0]) hm dX13_localsFit_5 rfl ?_
  replace hf := mx_sv_el hf; obtain ⟨v16, e_v16, hf⟩ := hf
  refine sx_get hm dX13_localsFit_6 rs_RX13_932 (xgi_el e_v16) ?_
  clear e_v16
  refine mx_S.pu (pc2 := 10) (lv2 := [(2, .int v15), (0, .ref a0), (1, .int a1)]) (st2 := [.int v15, .int v16, .ref a0]) hm dX13_localsFit_9 rfl ?_
  replace hf := mx_gd_el hf; obtain ⟨c17, hf⟩ := hf
  replace hf := mx_sv_el hf; obtain ⟨u18, e_u18, hf⟩ := hf
  refine sx_cv hm dX13_localsFit_10 rs_RX13_864 mt_X13_byteAt [.int v16, .int v15] [] (b := a0) (ci := 13) rfl rfl rfl c17 (Nat.le_of_ble_eq_true rfl) (Nat.le_of_ble_eq_true rfl) (by omega) (by omega) (f_X13_byteAt_ok X (by omega) (by omega) nn a0 v16 v15 h e_u18) ?_
  clear e_u18
  show mx_S X F L 550 13 [(2, .int v15), (0, .ref a0), (1, .int a1)] [.int u18.1] u18.2 0 0 (some (.int r.1), r.2, 0, 0)
  refine mx_S.pu (pc2 := 14) (lv2 := [(3, .int u18.1), (2, .int v15), (0, .ref a0), (1, .int a1)]) (st2 := []) hm dX13_localsFit_13 rfl ?_
  replace hf := xl_el hf; obtain ⟨v19, e_v19, hf⟩ := hf
  refine mx_S.pu (pc2 := 17) (lv2 := [(2, .int v19), (3, .int u18.1), (0, .ref a0), (1, .int a1)]) (st2 := []) hm dX13_localsFit_14 (by rw [← e_v19]; rfl) ?_
  clear e_v19
  refine sx_ic (v := 0) hm dX13_localsFit_17 (by decide) ?_
  refine mx_S.pu (pc2 := 20) (lv2 := [(4, .int 0), (2, .int v19), (3, .int u18.1), (0, .ref a0), (1, .int a1)]) (st2 := []) hm dX13_localsFit_18 rfl ?_
  refine mx_S.ext [(0, .ref a0), (2, .int v19), (3, .int u18.1), (4, .int 0)] (mx_sub_pos [3, 1, 2, 0] rfl (show ([4, 2, 3, 0, 1] : List Nat).Nodup by decide)) ?_
  exact w_X13_localsFit_20_ok X hF hL nn nn a0 v19 u18.1 0 u18.2 _ hf
set_option maxHeartbeats 4000000 in
set_option maxRecDepth 20000 in
theorem w_X13_handled_20_ok (X : Nat × (Nat → Int32)) {F L : Nat} (hF : 11 ≤ F) (hL : 256 ≤ L) (nn : Nat) : ∀ (k : Nat) (l0 : Nat) (l1 : Int32) (l2 : Int32) (l3 : Int32) (h : mx_H) (r : (Int32 × mx_H)), w_X13_handled_20 nn k l0 l1 l2 l3 h = some r → mx_S X F L 558 20 [(0, .ref l0), (1, .int l1), (2, .int l2), (3, .int l3)] [] h 0 0 (some (.int r.1), r.2, 0, 0) := by
  have hm : mx_mt 558 = some (yX13_handled, cX13_handled, 7, (some .boolean)) := mt_X13_handled
  intro k
  induction k with
  | zero => intro l0 l1 l2 l3 h r hf; cases hf
  | succ k ih =>
    intro l0 l1 l2 l3 h r hf
    unfold w_X13_handled_20 at hf
    refine mx_S.pu (pc2 := 21) (lv2 := [(0, .ref l0), (1, .int l1), (2, .int l2), (3, .int l3)]) (st2 := [.int l3]) hm dX13_handled_20 rfl ?_
    refine mx_S.pu (pc2 := 22) (lv2 := [(0, .ref l0), (1, .int l1), (2, .int l2), (3, .int l3)]) (st2 := [.ref l0, .int l3]) hm dX13_handled_21 rfl ?_
    refine mx_S.pu (pc2 := 23) (lv2 := [(0, .ref l0), (1, .int l1), (2, .int l2), (3, .int l3)]) (st2 := [.ref l0, .ref l0, .int l3]) hm dX13_handled_22 rfl ?_
    replace hf := mx_sv_el hf; obtain ⟨v1, e_v1, hf⟩ := hf
    refine sx_get hm dX13_handled_23 rs_RX13_932 (xgi_el e_v1) ?_
    clear e_v1
    refine mx_S.pu (pc2 := 27) (lv2 := [(0, .ref l0), (1, .int l1), (2, .int l2), (3, .int l3)]) (st2 := [.int l2, .int v1, .ref l0, .int l3]) hm dX13_handled_26 rfl ?_
    replace hf := mx_gd_el hf; obtain ⟨c2, hf⟩ := hf
    replace hf := mx_sv_el hf; obtain ⟨u3, e_u3, hf⟩ := hf
    refine sx_cv hm dX13_handled_27 rs_RX13_864 mt_X13_byteAt [.int v1, .int l2] [.int l3] (b := l0) (ci := 13) rfl rfl rfl c2 (Nat.le_of_ble_eq_true rfl) (Nat.le_of_ble_eq_true rfl) (by omega) (by omega) (f_X13_byteAt_ok X (by omega) (by omega) nn l0 v1 l2 h e_u3) ?_
    clear e_u3
    show mx_S X F L 558 30 [(0, .ref l0), (1, .int l1), (2, .int l2), (3, .int l3)] [.int u3.1, .int l3] u3.2 0 0 (some (.int r.1), r.2, 0, 0)
    rcases mx_if_el hf with ⟨c45, hf⟩ | ⟨c45, hf⟩
    · refine sb_ic_ge hm dX13_handled_30 (tgt := 161) rfl (fun _ => ?_) (fun z => absurd c45 z)
      refine sx_ic (v := 1) hm dX13_handled_161 (by decide) ?_
      cases hf
      exact sx_ire hm dX13_handled_162 rfl (by decide)
    · refine sb_ic_ge hm dX13_handled_30 (tgt := 161) rfl (fun z => absurd z c45) (fun _ => ?_)
      refine mx_S.pu (pc2 := 34) (lv2 := [(0, .ref l0), (1, .int l1), (2, .int l2), (3, .int l3)]) (st2 := [.int l2]) hm dX13_handled_33 rfl ?_
      refine sx_ic (v := 1) hm dX13_handled_34 (by decide) ?_
      replace hf := xl_el hf; obtain ⟨v4, e_v4, hf⟩ := hf
      refine mx_S.pu (pc2 := 36) (lv2 := [(0, .ref l0), (1, .int l1), (2, .int l2), (3, .int l3)]) (st2 := [.int v4]) hm dX13_handled_35 (by rw [← e_v4]; rfl) ?_
      clear e_v4
      refine sx_bi (v := 7) hm dX13_handled_36 (by decide) ?_
      refine mx_S.pu (pc2 := 39) (lv2 := [(0, .ref l0), (1, .int l1), (2, .int l2), (3, .int l3)]) (st2 := [.int l3, .int 7, .int v4]) hm dX13_handled_38 rfl ?_
      replace hf := xl_el hf; obtain ⟨v5, e_v5, hf⟩ := hf
      refine mx_S.pu (pc2 := 40) (lv2 := [(0, .ref l0), (1, .int l1), (2, .int l2), (3, .int l3)]) (st2 := [.int v5, .int v4]) hm dX13_handled_39 (by rw [← e_v5]; rfl) ?_
      clear e_v5
      replace hf := xl_el hf; obtain ⟨v6, e_v6, hf⟩ := hf
      refine mx_S.pu (pc2 := 41) (lv2 := [(0, .ref l0), (1, .int l1), (2, .int l2), (3, .int l3)]) (st2 := [.int v6]) hm dX13_handled_40 (by rw [← e_v6]; rfl) ?_
      clear e_v6
      refine mx_S.pu (pc2 := 43) (lv2 := [(4, .int v6), (0, .ref l0), (1, .int l1), (2, .int l2), (3, .int l3)]) (st2 := []) hm dX13_handled_41 rfl ?_
      refine mx_S.pu (pc2 := 44) (lv2 := [(4, .int v6), (0, .ref l0), (1, .int l1), (2, .int l2), (3, .int l3)]) (st2 := [.int l1]) hm dX13_handled_43 rfl ?_
      refine mx_S.pu (pc2 := 45) (lv2 := [(4, .int v6), (0, .ref l0), (1, .int l1), (2, .int l2), (3, .int l3)]) (st2 := [.ref l0, .int l1]) hm dX13_handled_44 rfl ?_
      refine mx_S.pu (pc2 := 47) (lv2 := [(4, .int v6), (0, .ref l0), (1, .int l1), (2, .int l2), (3, .int l3)]) (st2 := [.int v6, .ref l0, .int l1]) hm dX13_handled_45 rfl ?_
      replace hf := mx_gd_el hf; obtain ⟨c7, hf⟩ := hf
      replace hf := mx_sv_el hf; obtain ⟨u8, e_u8, hf⟩ := hf
      refine sx_cv hm dX13_handled_47 rs_RX13_949 mt_X13_pairIn [.int v6] [.int l1] (b := l0) (ci := 13) rfl rfl rfl c7 (Nat.le_of_ble_eq_true rfl) (Nat.le_of_ble_eq_true rfl) (by omega) (by omega) (f_X13_pairIn_ok X (by omega) (by omega) nn l0 v6 u3.2 e_u8) ?_
      clear e_u8
      show mx_S X F L 558 50 [(4, .int v6), (0, .ref l0), (1, .int l1), (2, .int l2), (3, .int l3)] [.int u8.1, .int l1] u8.2 0 0 (some (.int r.1), r.2, 0, 0)
      rcases mx_if_el hf with ⟨c44, hf⟩ | ⟨c44, hf⟩
      · refine sb_ic_lt hm dX13_handled_50 (tgt := 155) rfl (fun _ => ?_) (fun z => absurd c44 z)
        replace hf := xl_el hf; obtain ⟨v9, e_v9, hf⟩ := hf
        refine mx_S.pu (pc2 := 158) (lv2 := [(3, .int v9), (4, .int v6), (0, .ref l0), (1, .int l1), (2, .int l2)]) (st2 := []) hm dX13_handled_155 (by rw [← e_v9]; rfl) ?_
        clear e_v9
        refine mx_S.pu (pc2 := 20) (lv2 := [(3, .int v9), (4, .int v6), (0, .ref l0), (1, .int l1), (2, .int l2)]) (st2 := []) hm dX13_handled_158 rfl ?_
        refine mx_S.ext [(0, .ref l0), (1, .int l1), (2, .int l2), (3, .int v9)] (mx_sub_pos [2, 3, 4, 0] rfl (show ([3, 4, 0, 1, 2] : List Nat).Nodup by decide)) ?_
        exact ih l0 l1 l2 v9 u8.2 _ hf
      · refine sb_ic_lt hm dX13_handled_50 (tgt := 155) rfl (fun z => absurd z c44) (fun _ => ?_)
        refine mx_S.pu (pc2 := 54) (lv2 := [(4, .int v6), (0, .ref l0), (1, .int l1), (2, .int l2), (3, .int l3)]) (st2 := [.int l1]) hm dX13_handled_53 rfl ?_
        refine mx_S.pu (pc2 := 55) (lv2 := [(4, .int v6), (0, .ref l0), (1, .int l1), (2, .int l2), (3, .int l3)]) (st2 := [.ref l0, .int l1]) hm dX13_handled_54 rfl ?_
        refine mx_S.pu (pc2 := 57) (lv2 := [(4, .int v6), (0, .ref l0), (1, .int l1), (2, .int l2), (3, .int l3)]) (st2 := [.int v6, .ref l0, .int l1]) hm dX13_handled_55 rfl ?_
        refine sx_ic (v := 2) hm dX13_handled_57 (by decide) ?_
        replace hf := xl_el hf; obtain ⟨v10, e_v10, hf⟩ := hf
        refine mx_S.pu (pc2 := 59) (lv2 := [(4, .int v6), (0, .ref l0), (1, .int l1), (2, .int l2), (3, .int l3)]) (st2 := [.int v10, .ref l0, .int l1]) hm dX13_handled_58 (by rw [← e_v10]; rfl) ?_
        clear e_v10
        replace hf := mx_gd_el hf; obtain ⟨c11, hf⟩ := hf
        replace hf := mx_sv_el hf; obtain ⟨u12, e_u12, hf⟩ := hf
        refine sx_cv hm dX13_handled_59 rs_RX13_949 mt_X13_pairIn [.int v10] [.int l1] (b := l0) (ci := 13) rfl rfl rfl c11 (Nat.le_of_ble_eq_true rfl) (Nat.le_of_ble_eq_true rfl) (by omega) (by omega) (f_X13_pairIn_ok X (by omega) (by omega) nn l0 v10 u8.2 e_u12) ?_
        clear e_u12
        show mx_S X F L 558 62 [(4, .int v6), (0, .ref l0), (1, .int l1), (2, .int l2), (3, .int l3)] [.int u12.1, .int l1] u12.2 0 0 (some (.int r.1), r.2, 0, 0)
        rcases mx_if_el hf with ⟨c43, hf⟩ | ⟨c43, hf⟩
        · refine sb_ic_lt hm dX13_handled_62 (tgt := 68) rfl (fun _ => ?_) (fun z => absurd c43 z)
          refine mx_S.pu (pc2 := 69) (lv2 := [(4, .int v6), (0, .ref l0), (1, .int l1), (2, .int l2), (3, .int l3)]) (st2 := [.ref l0]) hm dX13_handled_68 rfl ?_
          refine mx_S.pu (pc2 := 70) (lv2 := [(4, .int v6), (0, .ref l0), (1, .int l1), (2, .int l2), (3, .int l3)]) (st2 := [.ref l0, .ref l0]) hm dX13_handled_69 rfl ?_
          refine mx_S.pu (pc2 := 72) (lv2 := [(4, .int v6), (0, .ref l0), (1, .int l1), (2, .int l2), (3, .int l3)]) (st2 := [.int v6, .ref l0, .ref l0]) hm dX13_handled_70 rfl ?_
          refine sx_ic (v := 4) hm dX13_handled_72 (by decide) ?_
          replace hf := xl_el hf; obtain ⟨v13, e_v13, hf⟩ := hf
          refine mx_S.pu (pc2 := 74) (lv2 := [(4, .int v6), (0, .ref l0), (1, .int l1), (2, .int l2), (3, .int l3)]) (st2 := [.int v13, .ref l0, .ref l0]) hm dX13_handled_73 (by rw [← e_v13]; rfl) ?_
          clear e_v13
          replace hf := mx_gd_el hf; obtain ⟨c14, hf⟩ := hf
          replace hf := mx_sv_el hf; obtain ⟨u15, e_u15, hf⟩ := hf
          refine sx_cv hm dX13_handled_74 rs_RX13_949 mt_X13_pairIn [.int v13] [.ref l0] (b := l0) (ci := 13) rfl rfl rfl c14 (Nat.le_of_ble_eq_true rfl) (Nat.le_of_ble_eq_true rfl) (by omega) (by omega) (f_X13_pairIn_ok X (by omega) (by omega) nn l0 v13 u12.2 e_u15) ?_
          clear e_u15
          show mx_S X F L 558 77 [(4, .int v6), (0, .ref l0), (1, .int l1), (2, .int l2), (3, .int l3)] [.int u15.1, .ref l0] u15.2 0 0 (some (.int r.1), r.2, 0, 0)
          replace hf := mx_gd_el hf; obtain ⟨c16, hf⟩ := hf
          replace hf := mx_sv_el hf; obtain ⟨u17, e_u17, hf⟩ := hf
          refine sx_cv hm dX13_handled_77 rs_RX13_995 mt_X13_frameFor [.int u15.1] [] (b := l0) (ci := 13) rfl rfl rfl c16 (Nat.le_of_ble_eq_true rfl) (Nat.le_of_ble_eq_true rfl) (by omega) (by omega) (f_X13_frameFor_ok X (by omega) (by omega) nn l0 u15.1 u15.2 e_u17) ?_
          clear e_u17
          show mx_S X F L 558 80 [(4, .int v6), (0, .ref l0), (1, .int l1), (2, .int l2), (3, .int l3)] [.int u17.1] u17.2 0 0 (some (.int r.1), r.2, 0, 0)
          refine mx_S.pu (pc2 := 82) (lv2 := [(5, .int u17.1), (4, .int v6), (0, .ref l0), (1, .int l1), (2, .int l2), (3, .int l3)]) (st2 := []) hm dX13_handled_80 rfl ?_
          refine mx_S.pu (pc2 := 83) (lv2 := [(5, .int u17.1), (4, .int v6), (0, .ref l0), (1, .int l1), (2, .int l2), (3, .int l3)]) (st2 := [.ref l0]) hm dX13_handled_82 rfl ?_
          refine mx_S.pu (pc2 := 85) (lv2 := [(5, .int u17.1), (4, .int v6), (0, .ref l0), (1, .int l1), (2, .int l2), (3, .int l3)]) (st2 := [.int u17.1, .ref l0]) hm dX13_handled_83 rfl ?_
          replace hf := mx_gd_el hf; obtain ⟨c18, hf⟩ := hf
          replace hf := mx_sv_el hf; obtain ⟨u19, e_u19, hf⟩ := hf
          refine sx_cv hm dX13_handled_85 rs_RX13_1001 mt_X13_localsFit [.int u17.1] [] (b := l0) (ci := 13) rfl rfl rfl c18 (Nat.le_of_ble_eq_true rfl) (Nat.le_of_ble_eq_true rfl) (by omega) (by omega) (f_X13_localsFit_ok X (by omega) (by omega) nn l0 u17.1 u17.2 e_u19) ?_
          clear e_u19
          show mx_S X F L 558 88 [(5, .int u17.1), (4, .int v6), (0, .ref l0), (1, .int l1), (2, .int l2), (3, .int l3)] [.int u19.1] u19.2 0 0 (some (.int r.1), r.2, 0, 0)
          rcases mx_if_el hf with ⟨c41, hf⟩ | ⟨c41, hf⟩
          · refine sb_if_ne hm dX13_handled_88 (tgt := 93) rfl (fun _ => ?_) (fun z => absurd c41 z)
            refine mx_S.pu (pc2 := 94) (lv2 := [(5, .int u17.1), (4, .int v6), (0, .ref l0), (1, .int l1), (2, .int l2), (3, .int l3)]) (st2 := [.ref l0]) hm dX13_handled_93 rfl ?_
            refine mx_S.pu (pc2 := 96) (lv2 := [(5, .int u17.1), (4, .int v6), (0, .ref l0), (1, .int l1), (2, .int l2), (3, .int l3)]) (st2 := [.int u17.1, .ref l0]) hm dX13_handled_94 rfl ?_
            refine sx_ic (v := 2) hm dX13_handled_96 (by decide) ?_
            replace hf := xl_el hf; obtain ⟨v20, e_v20, hf⟩ := hf
            refine mx_S.pu (pc2 := 98) (lv2 := [(5, .int u17.1), (4, .int v6), (0, .ref l0), (1, .int l1), (2, .int l2), (3, .int l3)]) (st2 := [.int v20, .ref l0]) hm dX13_handled_97 (by rw [← e_v20]; rfl) ?_
            clear e_v20
            replace hf := mx_gd_el hf; obtain ⟨c21, hf⟩ := hf
            replace hf := mx_sv_el hf; obtain ⟨u22, e_u22, hf⟩ := hf
            refine sx_cv hm dX13_handled_98 rs_RX13_943 mt_X13_typesEnd [.int v20] [] (b := l0) (ci := 13) rfl rfl rfl c21 (Nat.le_of_ble_eq_true rfl) (Nat.le_of_ble_eq_true rfl) (by omega) (by omega) (f_X13_typesEnd_ok X (by omega) (by omega) nn l0 v20 u19.2 e_u22) ?_
            clear e_u22
            show mx_S X F L 558 101 [(5, .int u17.1), (4, .int v6), (0, .ref l0), (1, .int l1), (2, .int l2), (3, .int l3)] [.int u22.1] u22.2 0 0 (some (.int r.1), r.2, 0, 0)
            refine mx_S.pu (pc2 := 103) (lv2 := [(6, .int u22.1), (5, .int u17.1), (4, .int v6), (0, .ref l0), (1, .int l1), (2, .int l2), (3, .int l3)]) (st2 := []) hm dX13_handled_101 rfl ?_
            refine mx_S.pu (pc2 := 104) (lv2 := [(6, .int u22.1), (5, .int u17.1), (4, .int v6), (0, .ref l0), (1, .int l1), (2, .int l2), (3, .int l3)]) (st2 := [.ref l0]) hm dX13_handled_103 rfl ?_
            refine mx_S.pu (pc2 := 105) (lv2 := [(6, .int u22.1), (5, .int u17.1), (4, .int v6), (0, .ref l0), (1, .int l1), (2, .int l2), (3, .int l3)]) (st2 := [.ref l0, .ref l0]) hm dX13_handled_104 rfl ?_
            replace hf := mx_sv_el hf; obtain ⟨v23, e_v23, hf⟩ := hf
            refine sx_get hm dX13_handled_105 rs_RX13_932 (xgi_el e_v23) ?_
            clear e_v23
            refine mx_S.pu (pc2 := 110) (lv2 := [(6, .int u22.1), (5, .int u17.1), (4, .int v6), (0, .ref l0), (1, .int l1), (2, .int l2), (3, .int l3)]) (st2 := [.int u22.1, .int v23, .ref l0]) hm dX13_handled_108 rfl ?_
            replace hf := mx_gd_el hf; obtain ⟨c24, hf⟩ := hf
            replace hf := mx_sv_el hf; obtain ⟨u25, e_u25, hf⟩ := hf
            refine sx_cv hm dX13_handled_110 rs_RX13_864 mt_X13_byteAt [.int v23, .int u22.1] [] (b := l0) (ci := 13) rfl rfl rfl c24 (Nat.le_of_ble_eq_true rfl) (Nat.le_of_ble_eq_true rfl) (by omega) (by omega) (f_X13_byteAt_ok X (by omega) (by omega) nn l0 v23 u22.1 u22.2 e_u25) ?_
            clear e_u25
            show mx_S X F L 558 113 [(6, .int u22.1), (5, .int u17.1), (4, .int v6), (0, .ref l0), (1, .int l1), (2, .int l2), (3, .int l3)] [.int u25.1] u25.2 0 0 (some (.int r.1), r.2, 0, 0)
            refine sx_ic (v := 1) hm dX13_handled_113 (by decide) ?_
            rcases mx_if_el hf with ⟨c40, hf⟩ | ⟨c40, hf⟩
            · refine sb_ic_ne hm dX13_handled_114 (tgt := 153) rfl (fun _ => ?_) (fun z => absurd c40 z)
              refine sx_ic (v := 0) hm dX13_handled_153 (by decide) ?_
              cases hf
              exact sx_ire hm dX13_handled_154 rfl (by decide)
            · refine sb_ic_ne hm dX13_handled_114 (tgt := 153) rfl (fun z => absurd z c40) (fun _ => ?_)
              refine mx_S.pu (pc2 := 118) (lv2 := [(6, .int u22.1), (5, .int u17.1), (4, .int v6), (0, .ref l0), (1, .int l1), (2, .int l2), (3, .int l3)]) (st2 := [.ref l0]) hm dX13_handled_117 rfl ?_
              refine mx_S.pu (pc2 := 119) (lv2 := [(6, .int u22.1), (5, .int u17.1), (4, .int v6), (0, .ref l0), (1, .int l1), (2, .int l2), (3, .int l3)]) (st2 := [.ref l0, .ref l0]) hm dX13_handled_118 rfl ?_
              refine mx_S.pu (pc2 := 120) (lv2 := [(6, .int u22.1), (5, .int u17.1), (4, .int v6), (0, .ref l0), (1, .int l1), (2, .int l2), (3, .int l3)]) (st2 := [.ref l0, .ref l0, .ref l0]) hm dX13_handled_119 rfl ?_
              replace hf := mx_sv_el hf; obtain ⟨v26, e_v26, hf⟩ := hf
              refine sx_get hm dX13_handled_120 rs_RX13_932 (xgi_el e_v26) ?_
              clear e_v26
              refine mx_S.pu (pc2 := 124) (lv2 := [(6, .int u22.1), (5, .int u17.1), (4, .int v6), (0, .ref l0), (1, .int l1), (2, .int l2), (3, .int l3)]) (st2 := [.ref l0, .int v26, .ref l0, .ref l0]) hm dX13_handled_123 rfl ?_
              refine mx_S.pu (pc2 := 125) (lv2 := [(6, .int u22.1), (5, .int u17.1), (4, .int v6), (0, .ref l0), (1, .int l1), (2, .int l2), (3, .int l3)]) (st2 := [.ref l0, .ref l0, .int v26, .ref l0, .ref l0]) hm dX13_handled_124 rfl ?_
              replace hf := mx_sv_el hf; obtain ⟨v27, e_v27, hf⟩ := hf
              refine sx_get hm dX13_handled_125 rs_RX13_932 (xgi_el e_v27) ?_
              clear e_v27
              refine mx_S.pu (pc2 := 130) (lv2 := [(6, .int u22.1), (5, .int u17.1), (4, .int v6), (0, .ref l0), (1, .int l1), (2, .int l2), (3, .int l3)]) (st2 := [.int v6, .int v27, .ref l0, .int v26, .ref l0, .ref l0]) hm dX13_handled_128 rfl ?_
              refine sx_bi (v := 6) hm dX13_handled_130 (by decide) ?_
              replace hf := xl_el hf; obtain ⟨v28, e_v28, hf⟩ := hf
              refine mx_S.pu (pc2 := 133) (lv2 := [(6, .int u22.1), (5, .int u17.1), (4, .int v6), (0, .ref l0), (1, .int l1), (2, .int l2), (3, .int l3)]) (st2 := [.int v28, .int v27, .ref l0, .int v26, .ref l0, .ref l0]) hm dX13_handled_132 (by rw [← e_v28]; rfl) ?_
              clear e_v28
              replace hf := mx_gd_el hf; obtain ⟨c29, hf⟩ := hf
              replace hf := mx_sv_el hf; obtain ⟨u30, e_u30, hf⟩ := hf
              refine sx_cv hm dX13_handled_133 rs_RX13_864 mt_X13_byteAt [.int v27, .int v28] [.int v26, .ref l0, .ref l0] (b := l0) (ci := 13) rfl rfl rfl c29 (Nat.le_of_ble_eq_true rfl) (Nat.le_of_ble_eq_true rfl) (by omega) (by omega) (f_X13_byteAt_ok X (by omega) (by omega) nn l0 v27 v28 u25.2 e_u30) ?_
              clear e_u30
              show mx_S X F L 558 136 [(6, .int u22.1), (5, .int u17.1), (4, .int v6), (0, .ref l0), (1, .int l1), (2, .int l2), (3, .int l3)] [.int u30.1, .int v26, .ref l0, .ref l0] u30.2 0 0 (some (.int r.1), r.2, 0, 0)
              replace hf := mx_gd_el hf; obtain ⟨c31, hf⟩ := hf
              replace hf := mx_sv_el hf; obtain ⟨u32, e_u32, hf⟩ := hf
              refine sx_cv hm dX13_handled_136 rs_RX13_952 mt_X13_typeOfClass [.int v26, .int u30.1] [.ref l0] (b := l0) (ci := 13) rfl rfl rfl c31 (Nat.le_of_ble_eq_true rfl) (Nat.le_of_ble_eq_true rfl) (by omega) (by omega) (f_X13_typeOfClass_ok X (by omega) (by omega) nn l0 v26 u30.1 u30.2 e_u32) ?_
              clear e_u32
              show mx_S X F L 558 139 [(6, .int u22.1), (5, .int u17.1), (4, .int v6), (0, .ref l0), (1, .int l1), (2, .int l2), (3, .int l3)] [.int u32.1, .ref l0] u32.2 0 0 (some (.int r.1), r.2, 0, 0)
              refine mx_S.pu (pc2 := 140) (lv2 := [(6, .int u22.1), (5, .int u17.1), (4, .int v6), (0, .ref l0), (1, .int l1), (2, .int l2), (3, .int l3)]) (st2 := [.ref l0, .int u32.1, .ref l0]) hm dX13_handled_139 rfl ?_
              refine mx_S.pu (pc2 := 142) (lv2 := [(6, .int u22.1), (5, .int u17.1), (4, .int v6), (0, .ref l0), (1, .int l1), (2, .int l2), (3, .int l3)]) (st2 := [.int u22.1, .ref l0, .int u32.1, .ref l0]) hm dX13_handled_140 rfl ?_
              refine sx_ic (v := 1) hm dX13_handled_142 (by decide) ?_
              replace hf := xl_el hf; obtain ⟨v33, e_v33, hf⟩ := hf
              refine mx_S.pu (pc2 := 144) (lv2 := [(6, .int u22.1), (5, .int u17.1), (4, .int v6), (0, .ref l0), (1, .int l1), (2, .int l2), (3, .int l3)]) (st2 := [.int v33, .ref l0, .int u32.1, .ref l0]) hm dX13_handled_143 (by rw [← e_v33]; rfl) ?_
              clear e_v33
              replace hf := mx_gd_el hf; obtain ⟨c34, hf⟩ := hf
              replace hf := mx_sv_el hf; obtain ⟨u35, e_u35, hf⟩ := hf
              refine sx_cv hm dX13_handled_144 rs_RX13_955 mt_X13_framed [.int v33] [.int u32.1, .ref l0] (b := l0) (ci := 13) rfl rfl rfl c34 (Nat.le_of_ble_eq_true rfl) (Nat.le_of_ble_eq_true rfl) (by omega) (by omega) (f_X13_framed_ok X (by omega) (by omega) nn l0 v33 u32.2 e_u35) ?_
              clear e_u35
              show mx_S X F L 558 147 [(6, .int u22.1), (5, .int u17.1), (4, .int v6), (0, .ref l0), (1, .int l1), (2, .int l2), (3, .int l3)] [.int u35.1, .int u32.1, .ref l0] u35.2 0 0 (some (.int r.1), r.2, 0, 0)
              replace hf := mx_gd_el hf; obtain ⟨c36, hf⟩ := hf
              replace hf := mx_sv_el hf; obtain ⟨u37, e_u37, hf⟩ := hf
              refine sx_cv hm dX13_handled_147 rs_RX13_958 mt_X13_goes [.int u32.1, .int u35.1] [] (b := l0) (ci := 13) rfl rfl rfl c36 (Nat.le_of_ble_eq_true rfl) (Nat.le_of_ble_eq_true rfl) (by omega) (by omega) (f_X13_goes_ok X (by omega) (by omega) nn l0 u32.1 u35.1 u35.2 e_u37) ?_
              clear e_u37
              show mx_S X F L 558 150 [(6, .int u22.1), (5, .int u17.1), (4, .int v6), (0, .ref l0), (1, .int l1), (2, .int l2), (3, .int l3)] [.int u37.1] u37.2 0 0 (some (.int r.1), r.2, 0, 0)
              rcases mx_if_el hf with ⟨c39, hf⟩ | ⟨c39, hf⟩
              · refine sb_if_ne hm dX13_handled_150 (tgt := 155) rfl (fun _ => ?_) (fun z => absurd c39 z)
                replace hf := xl_el hf; obtain ⟨v38, e_v38, hf⟩ := hf
                refine mx_S.pu (pc2 := 158) (lv2 := [(3, .int v38), (6, .int u22.1), (5, .int u17.1), (4, .int v6), (0, .ref l0), (1, .int l1), (2, .int l2)]) (st2 := []) hm dX13_handled_155 (by rw [← e_v38]; rfl) ?_
                clear e_v38
                refine mx_S.pu (pc2 := 20) (lv2 := [(3, .int v38), (6, .int u22.1), (5, .int u17.1), (4, .int v6), (0, .ref l0), (1, .int l1), (2, .int l2)]) (st2 := []) hm dX13_handled_158 rfl ?_
                refine mx_S.ext [(0, .ref l0), (1, .int l1), (2, .int l2), (3, .int v38)] (mx_sub_pos [4, 5, 6, 0] rfl (show ([3, 6, 5, 4, 0, 1, 2] : List Nat).Nodup by decide)) ?_
                exact ih l0 l1 l2 v38 u37.2 _ hf
              · refine sb_if_ne hm dX13_handled_150 (tgt := 155) rfl (fun z => absurd z c39) (fun _ => ?_)
                refine sx_ic (v := 0) hm dX13_handled_153 (by decide) ?_
                cases hf
                exact sx_ire hm dX13_handled_154 rfl (by decide)
          · refine sb_if_ne hm dX13_handled_88 (tgt := 93) rfl (fun z => absurd z c41) (fun _ => ?_)
            refine sx_ic (v := 0) hm dX13_handled_91 (by decide) ?_
            cases hf
            exact sx_ire hm dX13_handled_92 rfl (by decide)
        · refine sb_ic_lt hm dX13_handled_62 (tgt := 68) rfl (fun z => absurd z c43) (fun _ => ?_)
          refine mx_S.pu (pc2 := 155) (lv2 := [(4, .int v6), (0, .ref l0), (1, .int l1), (2, .int l2), (3, .int l3)]) (st2 := []) hm dX13_handled_65 rfl ?_
          replace hf := xl_el hf; obtain ⟨v42, e_v42, hf⟩ := hf
          refine mx_S.pu (pc2 := 158) (lv2 := [(3, .int v42), (4, .int v6), (0, .ref l0), (1, .int l1), (2, .int l2)]) (st2 := []) hm dX13_handled_155 (by rw [← e_v42]; rfl) ?_
          clear e_v42
          refine mx_S.pu (pc2 := 20) (lv2 := [(3, .int v42), (4, .int v6), (0, .ref l0), (1, .int l1), (2, .int l2)]) (st2 := []) hm dX13_handled_158 rfl ?_
          refine mx_S.ext [(0, .ref l0), (1, .int l1), (2, .int l2), (3, .int v42)] (mx_sub_pos [2, 3, 4, 0] rfl (show ([3, 4, 0, 1, 2] : List Nat).Nodup by decide)) ?_
          exact ih l0 l1 l2 v42 u12.2 _ hf
set_option maxHeartbeats 4000000 in
set_option maxRecDepth 20000 in
theorem f_X13_handled_ok (X : Nat × (Nat → Int32)) {F L : Nat} (hF : 11 ≤ F) (hL : 256 ≤ L) (nn : Nat) (a0 : Nat) (a1 : Int32) (h : mx_H) {r : (Int32 × mx_H)} (hf : f_X13_handled nn a0 a1 h = some r) : mx_R X F L 558 [.ref a0, .int a1] h (some (.int r.1), r.2, 0, 0) := by
  have hm : mx_mt 558 = some (yX13_handled, cX13_handled, 7, (some .boolean)) := mt_X13_handled
  show mx_S X F L 558 0 [(0, .ref a0), (1, .int a1)] [] h 0 0 (some (.int r.1), r.2, 0, 0)
  unfold f_X13_handled at hf
  refine mx_S.pu (pc2 := 1) (lv2 := [(0, .ref a0), (1, .int a1)]) (st2 := [.ref a0]) hm dX13_handled_0 rfl ?_
  replace hf := mx_sv_el hf; obtain ⟨v46, e_v46, hf⟩ := hf
  refine sx_get hm dX13_handled_1 rs_RX13_239 (xgr_el e_v46) ?_
  clear e_v46
  refine sx_bi (v := 12) hm dX13_handled_4 (by decide) ?_
  refine mx_S.pu (pc2 := 7) (lv2 := [(0, .ref a0), (1, .int a1)]) (st2 := [.ref a0, .int 12, .ref v46]) hm dX13_handled_6 rfl ?_
  replace hf := mx_sv_el hf; obtain ⟨v47, e_v47, hf⟩ := hf
  refine sx_get hm dX13_handled_7 rs_RX13_932 (xgi_el e_v47) ?_
  clear e_v47
  replace hf := xl_el hf; obtain ⟨v48, e_v48, hf⟩ := hf
  refine mx_S.pu (pc2 := 11) (lv2 := [(0, .ref a0), (1, .int a1)]) (st2 := [.int v48, .ref v46]) hm dX13_handled_10 (by rw [← e_v48]; rfl) ?_
  clear e_v48
  refine mx_S.pu (pc2 := 12) (lv2 := [(0, .ref a0), (1, .int a1)]) (st2 := [.ref a0, .int v48, .ref v46]) hm dX13_handled_11 rfl ?_
  replace hf := mx_sv_el hf; obtain ⟨v49, e_v49, hf⟩ := hf
  refine sx_get hm dX13_handled_12 rs_RX13_940 (xgi_el e_v49) ?_
  clear e_v49
  replace hf := xl_el hf; obtain ⟨v50, e_v50, hf⟩ := hf
  refine mx_S.pu (pc2 := 16) (lv2 := [(0, .ref a0), (1, .int a1)]) (st2 := [.int v50, .ref v46]) hm dX13_handled_15 (by rw [← e_v50]; rfl) ?_
  clear e_v50
  replace hf := mx_sv_el hf; obtain ⟨v51, e_v51, hf⟩ := hf
  refine sx_ald hm dX13_handled_16 e_v51 ?_
  clear e_v51
  refine mx_S.pu (pc2 := 18) (lv2 := [(2, .int v51), (0, .ref a0), (1, .int a1)]) (st2 := []) hm dX13_handled_17 rfl ?_
  refine sx_ic (v := 0) hm dX13_handled_18 (by decide) ?_
  refine mx_S.pu (pc2 := 20) (lv2 := [(3, .int 0), (2, .int v51), (0, .ref a0), (1, .int a1)]) (st2 := []) hm dX13_handled_19 rfl ?_
  refine mx_S.ext [(0, .ref a0), (1, .int a1), (2, .int v51), (3, .int 0)] (mx_sub_pos [2, 3, 1, 0] rfl (show ([3, 2, 0, 1] : List Nat).Nodup by decide)) ?_
  exact w_X13_handled_20_ok X hF hL nn nn a0 a1 v51 0 h _ hf
set_option maxHeartbeats 4000000 in
set_option maxRecDepth 20000 in
theorem f_X13_isJump_ok (X : Nat × (Nat → Int32)) {F L : Nat} (hF : 0 ≤ F) (hL : 0 ≤ L) (nn : Nat) (a0 : Int32) (h : mx_H) {r : (Int32 × mx_H)} (hf : f_X13_isJump nn a0 h = some r) : mx_R X F L 541 [.int a0] h (some (.int r.1), r.2, 0, 0) := by
  have hm : mx_mt 541 = some (yX13_isJump, cX13_isJump, 1, (some .boolean)) := mt_X13_isJump
  show mx_S X F L 541 0 [(0, .int a0)] [] h 0 0 (some (.int r.1), r.2, 0, 0)
  unfold f_X13_isJump at hf
  refine mx_S.pu (pc2 := 1) (lv2 := [(0, .int a0)]) (st2 := [.int a0]) hm dX13_isJump_0 rfl ?_
  refine sx_si (v := 153) hm dX13_isJump_1 (by decide) ?_
  rcases mx_if_el hf with ⟨c2, hf⟩ | ⟨c2, hf⟩
  · refine sb_ic_lt hm dX13_isJump_4 (tgt := 18) rfl (fun _ => ?_) (fun z => absurd c2 z)
    refine sx_ic (v := 0) hm dX13_isJump_18 (by decide) ?_
    cases hf
    exact sx_ire hm dX13_isJump_19 rfl (by decide)
  · refine sb_ic_lt hm dX13_isJump_4 (tgt := 18) rfl (fun z => absurd z c2) (fun _ => ?_)
    refine mx_S.pu (pc2 := 8) (lv2 := [(0, .int a0)]) (st2 := [.int a0]) hm dX13_isJump_7 rfl ?_
    refine sx_si (v := 167) hm dX13_isJump_8 (by decide) ?_
    rcases mx_if_el hf with ⟨c1, hf⟩ | ⟨c1, hf⟩
    · refine sb_ic_gt hm dX13_isJump_11 (tgt := 18) rfl (fun _ => ?_) (fun z => absurd c1 z)
      refine sx_ic (v := 0) hm dX13_isJump_18 (by decide) ?_
      cases hf
      exact sx_ire hm dX13_isJump_19 rfl (by decide)
    · refine sb_ic_gt hm dX13_isJump_11 (tgt := 18) rfl (fun z => absurd z c1) (fun _ => ?_)
      refine sx_ic (v := 1) hm dX13_isJump_14 (by decide) ?_
      refine mx_S.pu (pc2 := 19) (lv2 := [(0, .int a0)]) (st2 := [.int 1]) hm dX13_isJump_15 rfl ?_
      cases hf
      exact sx_ire hm dX13_isJump_19 rfl (by decide)
set_option maxHeartbeats 4000000 in
set_option maxRecDepth 20000 in
theorem f_X13_partOf_ok (X : Nat × (Nat → Int32)) {F L : Nat} (hF : 1 ≤ F) (hL : 22 ≤ L) (nn : Nat) (a0 : Nat) (a1 : Int32) (a2 : Int32) (h : mx_H) {r : (Int32 × mx_H)} (hf : f_X13_partOf nn a0 a1 a2 h = some r) : mx_R X F L 560 [.ref a0, .int a1, .int a2] h (some (.int r.1), r.2, 0, 0) := by
  have hm : mx_mt 560 = some (yX13_partOf, cX13_partOf, 3, (some .int)) := mt_X13_partOf
  show mx_S X F L 560 0 [(0, .ref a0), (1, .int a1), (2, .int a2)] [] h 0 0 (some (.int r.1), r.2, 0, 0)
  unfold f_X13_partOf at hf
  refine mx_S.pu (pc2 := 1) (lv2 := [(0, .ref a0), (1, .int a1), (2, .int a2)]) (st2 := [.ref a0]) hm dX13_partOf_0 rfl ?_
  refine mx_S.pu (pc2 := 2) (lv2 := [(0, .ref a0), (1, .int a1), (2, .int a2)]) (st2 := [.ref a0, .ref a0]) hm dX13_partOf_1 rfl ?_
  replace hf := mx_sv_el hf; obtain ⟨v1, e_v1, hf⟩ := hf
  refine sx_get hm dX13_partOf_2 rs_RX13_932 (xgi_el e_v1) ?_
  clear e_v1
  refine mx_S.pu (pc2 := 6) (lv2 := [(0, .ref a0), (1, .int a1), (2, .int a2)]) (st2 := [.ref a0, .int v1, .ref a0]) hm dX13_partOf_5 rfl ?_
  replace hf := mx_sv_el hf; obtain ⟨v2, e_v2, hf⟩ := hf
  refine sx_get hm dX13_partOf_6 rs_RX13_215 (xgr_el e_v2) ?_
  clear e_v2
  refine sx_si (v := 256) hm dX13_partOf_9 (by decide) ?_
  refine mx_S.pu (pc2 := 13) (lv2 := [(0, .ref a0), (1, .int a1), (2, .int a2)]) (st2 := [.ref a0, .int 256, .ref v2, .int v1, .ref a0]) hm dX13_partOf_12 rfl ?_
  replace hf := mx_sv_el hf; obtain ⟨v3, e_v3, hf⟩ := hf
  refine sx_get hm dX13_partOf_13 rs_RX13_932 (xgi_el e_v3) ?_
  clear e_v3
  replace hf := xl_el hf; obtain ⟨v4, e_v4, hf⟩ := hf
  refine mx_S.pu (pc2 := 17) (lv2 := [(0, .ref a0), (1, .int a1), (2, .int a2)]) (st2 := [.int v4, .ref v2, .int v1, .ref a0]) hm dX13_partOf_16 (by rw [← e_v4]; rfl) ?_
  clear e_v4
  refine mx_S.pu (pc2 := 18) (lv2 := [(0, .ref a0), (1, .int a1), (2, .int a2)]) (st2 := [.int a1, .int v4, .ref v2, .int v1, .ref a0]) hm dX13_partOf_17 rfl ?_
  replace hf := xl_el hf; obtain ⟨v5, e_v5, hf⟩ := hf
  refine mx_S.pu (pc2 := 19) (lv2 := [(0, .ref a0), (1, .int a1), (2, .int a2)]) (st2 := [.int v5, .ref v2, .int v1, .ref a0]) hm dX13_partOf_18 (by rw [← e_v5]; rfl) ?_
  clear e_v5
  replace hf := mx_sv_el hf; obtain ⟨v6, e_v6, hf⟩ := hf
  refine sx_ald hm dX13_partOf_19 e_v6 ?_
  clear e_v6
  refine sx_ic (v := 1) hm dX13_partOf_20 (by decide) ?_
  replace hf := xl_el hf; obtain ⟨v7, e_v7, hf⟩ := hf
  refine mx_S.pu (pc2 := 22) (lv2 := [(0, .ref a0), (1, .int a1), (2, .int a2)]) (st2 := [.int v7, .int v1, .ref a0]) hm dX13_partOf_21 (by rw [← e_v7]; rfl) ?_
  clear e_v7
  refine mx_S.pu (pc2 := 23) (lv2 := [(0, .ref a0), (1, .int a1), (2, .int a2)]) (st2 := [.int a2, .int v7, .int v1, .ref a0]) hm dX13_partOf_22 rfl ?_
  replace hf := xl_el hf; obtain ⟨v8, e_v8, hf⟩ := hf
  refine mx_S.pu (pc2 := 24) (lv2 := [(0, .ref a0), (1, .int a1), (2, .int a2)]) (st2 := [.int v8, .int v1, .ref a0]) hm dX13_partOf_23 (by rw [← e_v8]; rfl) ?_
  clear e_v8
  replace hf := mx_gd_el hf; obtain ⟨c9, hf⟩ := hf
  replace hf := mx_sv_el hf; obtain ⟨u10, e_u10, hf⟩ := hf
  refine sx_cv hm dX13_partOf_24 rs_RX13_864 mt_X13_byteAt [.int v1, .int v8] [] (b := a0) (ci := 13) rfl rfl rfl c9 (Nat.le_of_ble_eq_true rfl) (Nat.le_of_ble_eq_true rfl) (by omega) (by omega) (f_X13_byteAt_ok X (by omega) (by omega) nn a0 v1 v8 h e_u10) ?_
  clear e_u10
  show mx_S X F L 560 27 [(0, .ref a0), (1, .int a1), (2, .int a2)] [.int u10.1] u10.2 0 0 (some (.int r.1), r.2, 0, 0)
  cases hf
  exact sx_ire hm dX13_partOf_27 rfl rfl
set_option maxHeartbeats 4000000 in
set_option maxRecDepth 20000 in
theorem f_X13_sortOf_ok (X : Nat × (Nat → Int32)) {F L : Nat} (hF : 1 ≤ F) (hL : 22 ≤ L) (nn : Nat) (a0 : Nat) (a1 : Int32) (h : mx_H) {r : (Int32 × mx_H)} (hf : f_X13_sortOf nn a0 a1 h = some r) : mx_R X F L 559 [.ref a0, .int a1] h (some (.int r.1), r.2, 0, 0) := by
  have hm : mx_mt 559 = some (yX13_sortOf, cX13_sortOf, 2, (some .int)) := mt_X13_sortOf
  show mx_S X F L 559 0 [(0, .ref a0), (1, .int a1)] [] h 0 0 (some (.int r.1), r.2, 0, 0)
  unfold f_X13_sortOf at hf
  refine mx_S.pu (pc2 := 1) (lv2 := [(0, .ref a0), (1, .int a1)]) (st2 := [.int a1]) hm dX13_sortOf_0 rfl ?_
  refine sx_ic (v := 1) hm dX13_sortOf_1 (by decide) ?_
  rcases mx_if_el hf with ⟨c13, hf⟩ | ⟨c13, hf⟩
  · refine sb_ic_lt hm dX13_sortOf_2 (tgt := 44) rfl (fun _ => ?_) (fun z => absurd c13 z)
    refine sx_ic (v := 0) hm dX13_sortOf_44 (by decide) ?_
    cases hf
    exact sx_ire hm dX13_sortOf_45 rfl rfl
  · refine sb_ic_lt hm dX13_sortOf_2 (tgt := 44) rfl (fun z => absurd z c13) (fun _ => ?_)
    refine mx_S.pu (pc2 := 6) (lv2 := [(0, .ref a0), (1, .int a1)]) (st2 := [.int a1]) hm dX13_sortOf_5 rfl ?_
    refine mx_S.pu (pc2 := 7) (lv2 := [(0, .ref a0), (1, .int a1)]) (st2 := [.ref a0, .int a1]) hm dX13_sortOf_6 rfl ?_
    replace hf := mx_sv_el hf; obtain ⟨v1, e_v1, hf⟩ := hf
    refine sx_get hm dX13_sortOf_7 rs_RX13_218 (xgr_el e_v1) ?_
    clear e_v1
    refine mx_S.pu (pc2 := 11) (lv2 := [(0, .ref a0), (1, .int a1)]) (st2 := [.ref a0, .ref v1, .int a1]) hm dX13_sortOf_10 rfl ?_
    replace hf := mx_sv_el hf; obtain ⟨v2, e_v2, hf⟩ := hf
    refine sx_get hm dX13_sortOf_11 rs_RX13_932 (xgi_el e_v2) ?_
    clear e_v2
    replace hf := mx_sv_el hf; obtain ⟨v3, e_v3, hf⟩ := hf
    refine sx_ald hm dX13_sortOf_14 e_v3 ?_
    clear e_v3
    rcases mx_if_el hf with ⟨c12, hf⟩ | ⟨c12, hf⟩
    · refine sb_ic_gt hm dX13_sortOf_15 (tgt := 44) rfl (fun _ => ?_) (fun z => absurd c12 z)
      refine sx_ic (v := 0) hm dX13_sortOf_44 (by decide) ?_
      cases hf
      exact sx_ire hm dX13_sortOf_45 rfl rfl
    · refine sb_ic_gt hm dX13_sortOf_15 (tgt := 44) rfl (fun z => absurd z c12) (fun _ => ?_)
      refine mx_S.pu (pc2 := 19) (lv2 := [(0, .ref a0), (1, .int a1)]) (st2 := [.ref a0]) hm dX13_sortOf_18 rfl ?_
      refine mx_S.pu (pc2 := 20) (lv2 := [(0, .ref a0), (1, .int a1)]) (st2 := [.ref a0, .ref a0]) hm dX13_sortOf_19 rfl ?_
      replace hf := mx_sv_el hf; obtain ⟨v4, e_v4, hf⟩ := hf
      refine sx_get hm dX13_sortOf_20 rs_RX13_932 (xgi_el e_v4) ?_
      clear e_v4
      refine mx_S.pu (pc2 := 24) (lv2 := [(0, .ref a0), (1, .int a1)]) (st2 := [.ref a0, .int v4, .ref a0]) hm dX13_sortOf_23 rfl ?_
      replace hf := mx_sv_el hf; obtain ⟨v5, e_v5, hf⟩ := hf
      refine sx_get hm dX13_sortOf_24 rs_RX13_215 (xgr_el e_v5) ?_
      clear e_v5
      refine sx_si (v := 256) hm dX13_sortOf_27 (by decide) ?_
      refine mx_S.pu (pc2 := 31) (lv2 := [(0, .ref a0), (1, .int a1)]) (st2 := [.ref a0, .int 256, .ref v5, .int v4, .ref a0]) hm dX13_sortOf_30 rfl ?_
      replace hf := mx_sv_el hf; obtain ⟨v6, e_v6, hf⟩ := hf
      refine sx_get hm dX13_sortOf_31 rs_RX13_932 (xgi_el e_v6) ?_
      clear e_v6
      replace hf := xl_el hf; obtain ⟨v7, e_v7, hf⟩ := hf
      refine mx_S.pu (pc2 := 35) (lv2 := [(0, .ref a0), (1, .int a1)]) (st2 := [.int v7, .ref v5, .int v4, .ref a0]) hm dX13_sortOf_34 (by rw [← e_v7]; rfl) ?_
      clear e_v7
      refine mx_S.pu (pc2 := 36) (lv2 := [(0, .ref a0), (1, .int a1)]) (st2 := [.int a1, .int v7, .ref v5, .int v4, .ref a0]) hm dX13_sortOf_35 rfl ?_
      replace hf := xl_el hf; obtain ⟨v8, e_v8, hf⟩ := hf
      refine mx_S.pu (pc2 := 37) (lv2 := [(0, .ref a0), (1, .int a1)]) (st2 := [.int v8, .ref v5, .int v4, .ref a0]) hm dX13_sortOf_36 (by rw [← e_v8]; rfl) ?_
      clear e_v8
      replace hf := mx_sv_el hf; obtain ⟨v9, e_v9, hf⟩ := hf
      refine sx_ald hm dX13_sortOf_37 e_v9 ?_
      clear e_v9
      replace hf := mx_gd_el hf; obtain ⟨c10, hf⟩ := hf
      replace hf := mx_sv_el hf; obtain ⟨u11, e_u11, hf⟩ := hf
      refine sx_cv hm dX13_sortOf_38 rs_RX13_864 mt_X13_byteAt [.int v4, .int v9] [] (b := a0) (ci := 13) rfl rfl rfl c10 (Nat.le_of_ble_eq_true rfl) (Nat.le_of_ble_eq_true rfl) (by omega) (by omega) (f_X13_byteAt_ok X (by omega) (by omega) nn a0 v4 v9 h e_u11) ?_
      clear e_u11
      show mx_S X F L 559 41 [(0, .ref a0), (1, .int a1)] [.int u11.1] u11.2 0 0 (some (.int r.1), r.2, 0, 0)
      refine mx_S.pu (pc2 := 45) (lv2 := [(0, .ref a0), (1, .int a1)]) (st2 := [.int u11.1]) hm dX13_sortOf_41 rfl ?_
      cases hf
      exact sx_ire hm dX13_sortOf_45 rfl rfl
set_option maxHeartbeats 4000000 in
set_option maxRecDepth 20000 in
theorem j_X13_right_356_ok (X : Nat × (Nat → Int32)) {F L : Nat} (hF : 9 ≤ F) (hL : 211 ≤ L) (nn : Nat) (s0 : Int32) (s1 : Int32) (h : mx_H) {r : (Int32 × mx_H)} (hf : j_X13_right_356 nn s0 s1 h = some r) : mx_S X F L 561 356 [] [.int s0, .int s1] h 0 0 (some (.int r.1), r.2, 0, 0) := by
  have hm : mx_mt 561 = some (yX13_right, cX13_right, 9, (some .boolean)) := mt_X13_right
  unfold j_X13_right_356 at hf
  rcases mx_if_el hf with ⟨c1, hf⟩ | ⟨c1, hf⟩
  · refine sb_ic_ne hm dX13_right_356 (tgt := 363) rfl (fun _ => ?_) (fun z => absurd c1 z)
    refine sx_ic (v := 0) hm dX13_right_363 (by decide) ?_
    cases hf
    exact sx_ire hm dX13_right_364 rfl (by decide)
  · refine sb_ic_ne hm dX13_right_356 (tgt := 363) rfl (fun z => absurd z c1) (fun _ => ?_)
    refine sx_ic (v := 1) hm dX13_right_359 (by decide) ?_
    refine mx_S.pu (pc2 := 364) (lv2 := []) (st2 := [.int 1]) hm dX13_right_360 rfl ?_
    cases hf
    exact sx_ire hm dX13_right_364 rfl (by decide)
set_option maxHeartbeats 4000000 in
set_option maxRecDepth 20000 in
theorem j_X13_right_244_ok (X : Nat × (Nat → Int32)) {F L : Nat} (hF : 9 ≤ F) (hL : 211 ≤ L) (nn : Nat) (l0 : Nat) (l2 : Int32) (l3 : Int32) (l5 : Int32) (s0 : Int32) (h : mx_H) {r : (Int32 × mx_H)} (hf : j_X13_right_244 nn l0 l2 l3 l5 s0 h = some r) : mx_S X F L 561 244 [(0, .ref l0), (2, .int l2), (3, .int l3), (5, .int l5)] [.int s0] h 0 0 (some (.int r.1), r.2, 0, 0) := by
  have hm : mx_mt 561 = some (yX13_right, cX13_right, 9, (some .boolean)) := mt_X13_right
  unfold j_X13_right_244 at hf
  refine mx_S.pu (pc2 := 246) (lv2 := [(6, .int s0), (0, .ref l0), (2, .int l2), (3, .int l3), (5, .int l5)]) (st2 := []) hm dX13_right_244 rfl ?_
  refine mx_S.pu (pc2 := 247) (lv2 := [(6, .int s0), (0, .ref l0), (2, .int l2), (3, .int l3), (5, .int l5)]) (st2 := [.ref l0]) hm dX13_right_246 rfl ?_
  refine mx_S.pu (pc2 := 249) (lv2 := [(6, .int s0), (0, .ref l0), (2, .int l2), (3, .int l3), (5, .int l5)]) (st2 := [.int l5, .ref l0]) hm dX13_right_247 rfl ?_
  refine sx_ic (v := 4) hm dX13_right_249 (by decide) ?_
  replace hf := xl_el hf; obtain ⟨v2, e_v2, hf⟩ := hf
  refine mx_S.pu (pc2 := 251) (lv2 := [(6, .int s0), (0, .ref l0), (2, .int l2), (3, .int l3), (5, .int l5)]) (st2 := [.int v2, .ref l0]) hm dX13_right_250 (by rw [← e_v2]; rfl) ?_
  clear e_v2
  refine sx_ic (v := 2) hm dX13_right_251 (by decide) ?_
  replace hf := xl_el hf; obtain ⟨v3, e_v3, hf⟩ := hf
  refine sx_idiv (v := v3) hm dX13_right_252 (by decide) e_v3 ?_
  clear e_v3
  refine mx_S.pu (pc2 := 254) (lv2 := [(6, .int s0), (0, .ref l0), (2, .int l2), (3, .int l3), (5, .int l5)]) (st2 := [.ref l0, .int v3, .ref l0]) hm dX13_right_253 rfl ?_
  replace hf := mx_sv_el hf; obtain ⟨v4, e_v4, hf⟩ := hf
  refine sx_get hm dX13_right_254 rs_RX13_932 (xgi_el e_v4) ?_
  clear e_v4
  refine mx_S.pu (pc2 := 258) (lv2 := [(6, .int s0), (0, .ref l0), (2, .int l2), (3, .int l3), (5, .int l5)]) (st2 := [.ref l0, .int v4, .int v3, .ref l0]) hm dX13_right_257 rfl ?_
  refine mx_S.pu (pc2 := 259) (lv2 := [(6, .int s0), (0, .ref l0), (2, .int l2), (3, .int l3), (5, .int l5)]) (st2 := [.int l3, .ref l0, .int v4, .int v3, .ref l0]) hm dX13_right_258 rfl ?_
  refine sx_ic (v := 1) hm dX13_right_259 (by decide) ?_
  replace hf := mx_gd_el hf; obtain ⟨c5, hf⟩ := hf
  replace hf := mx_sv_el hf; obtain ⟨u6, e_u6, hf⟩ := hf
  refine sx_cv hm dX13_right_260 rs_RX13_1022 mt_X13_partOf [.int l3, .int 1] [.int v4, .int v3, .ref l0] (b := l0) (ci := 13) rfl rfl rfl c5 (Nat.le_of_ble_eq_true rfl) (Nat.le_of_ble_eq_true rfl) (by omega) (by omega) (f_X13_partOf_ok X (by omega) (by omega) nn l0 l3 1 h e_u6) ?_
  clear e_u6
  show mx_S X F L 561 263 [(6, .int s0), (0, .ref l0), (2, .int l2), (3, .int l3), (5, .int l5)] [.int u6.1, .int v4, .int v3, .ref l0] u6.2 0 0 (some (.int r.1), r.2, 0, 0)
  refine mx_S.pu (pc2 := 265) (lv2 := [(6, .int s0), (0, .ref l0), (2, .int l2), (3, .int l3), (5, .int l5)]) (st2 := [.int s0, .int u6.1, .int v4, .int v3, .ref l0]) hm dX13_right_263 rfl ?_
  replace hf := mx_gd_el hf; obtain ⟨c7, hf⟩ := hf
  replace hf := mx_sv_el hf; obtain ⟨u8, e_u8, hf⟩ := hf
  refine sx_cv hm dX13_right_265 rs_RX13_928 mt_X13_holder [.int v3, .int v4, .int u6.1, .int s0] [] (b := l0) (ci := 13) rfl rfl rfl c7 (Nat.le_of_ble_eq_true rfl) (Nat.le_of_ble_eq_true rfl) (by omega) (by omega) (f_X13_holder_ok X (by omega) (by omega) nn l0 v3 v4 u6.1 s0 u6.2 e_u8) ?_
  clear e_u8
  show mx_S X F L 561 268 [(6, .int s0), (0, .ref l0), (2, .int l2), (3, .int l3), (5, .int l5)] [.int u8.1] u8.2 0 0 (some (.int r.1), r.2, 0, 0)
  refine mx_S.pu (pc2 := 270) (lv2 := [(7, .int u8.1), (6, .int s0), (0, .ref l0), (2, .int l2), (3, .int l3), (5, .int l5)]) (st2 := []) hm dX13_right_268 rfl ?_
  refine mx_S.pu (pc2 := 272) (lv2 := [(7, .int u8.1), (6, .int s0), (0, .ref l0), (2, .int l2), (3, .int l3), (5, .int l5)]) (st2 := [.int u8.1]) hm dX13_right_270 rfl ?_
  refine sx_ic (v := (-1)) hm dX13_right_272 (by decide) ?_
  rcases mx_if_el hf with ⟨c28, hf⟩ | ⟨c28, hf⟩
  · refine sb_ic_ne hm dX13_right_273 (tgt := 278) rfl (fun _ => ?_) (fun z => absurd c28 z)
    refine mx_S.pu (pc2 := 280) (lv2 := [(7, .int u8.1), (6, .int s0), (0, .ref l0), (2, .int l2), (3, .int l3), (5, .int l5)]) (st2 := [.int u8.1]) hm dX13_right_278 rfl ?_
    refine sx_bi (v := 8) hm dX13_right_280 (by decide) ?_
    replace hf := xl_el hf; obtain ⟨v9, e_v9, hf⟩ := hf
    refine mx_S.pu (pc2 := 283) (lv2 := [(7, .int u8.1), (6, .int s0), (0, .ref l0), (2, .int l2), (3, .int l3), (5, .int l5)]) (st2 := [.int v9]) hm dX13_right_282 (by rw [← e_v9]; rfl) ?_
    clear e_v9
    refine mx_S.pu (pc2 := 285) (lv2 := [(8, .int v9), (7, .int u8.1), (6, .int s0), (0, .ref l0), (2, .int l2), (3, .int l3), (5, .int l5)]) (st2 := []) hm dX13_right_283 rfl ?_
    refine mx_S.pu (pc2 := 286) (lv2 := [(8, .int v9), (7, .int u8.1), (6, .int s0), (0, .ref l0), (2, .int l2), (3, .int l3), (5, .int l5)]) (st2 := [.ref l0]) hm dX13_right_285 rfl ?_
    refine mx_S.pu (pc2 := 288) (lv2 := [(8, .int v9), (7, .int u8.1), (6, .int s0), (0, .ref l0), (2, .int l2), (3, .int l3), (5, .int l5)]) (st2 := [.int v9, .ref l0]) hm dX13_right_286 rfl ?_
    refine mx_S.pu (pc2 := 289) (lv2 := [(8, .int v9), (7, .int u8.1), (6, .int s0), (0, .ref l0), (2, .int l2), (3, .int l3), (5, .int l5)]) (st2 := [.ref l0, .int v9, .ref l0]) hm dX13_right_288 rfl ?_
    refine mx_S.pu (pc2 := 291) (lv2 := [(8, .int v9), (7, .int u8.1), (6, .int s0), (0, .ref l0), (2, .int l2), (3, .int l3), (5, .int l5)]) (st2 := [.int v9, .ref l0, .int v9, .ref l0]) hm dX13_right_289 rfl ?_
    refine mx_S.pu (pc2 := 292) (lv2 := [(8, .int v9), (7, .int u8.1), (6, .int s0), (0, .ref l0), (2, .int l2), (3, .int l3), (5, .int l5)]) (st2 := [.ref l0, .int v9, .ref l0, .int v9, .ref l0]) hm dX13_right_291 rfl ?_
    replace hf := mx_sv_el hf; obtain ⟨v10, e_v10, hf⟩ := hf
    refine sx_get hm dX13_right_292 rs_RX13_898 (xgi_el e_v10) ?_
    clear e_v10
    refine mx_S.pu (pc2 := 297) (lv2 := [(8, .int v9), (7, .int u8.1), (6, .int s0), (0, .ref l0), (2, .int l2), (3, .int l3), (5, .int l5)]) (st2 := [.int s0, .int v10, .int v9, .ref l0, .int v9, .ref l0]) hm dX13_right_295 rfl ?_
    replace hf := mx_gd_el hf; obtain ⟨c11, hf⟩ := hf
    replace hf := mx_sv_el hf; obtain ⟨u12, e_u12, hf⟩ := hf
    refine sx_cv hm dX13_right_297 rs_RX13_910 mt_X13_kindText [.int v9, .int v10, .int s0] [.int v9, .ref l0] (b := l0) (ci := 13) rfl rfl rfl c11 (Nat.le_of_ble_eq_true rfl) (Nat.le_of_ble_eq_true rfl) (by omega) (by omega) (f_X13_kindText_ok X (by omega) (by omega) nn l0 v9 v10 s0 u8.2 e_u12) ?_
    clear e_u12
    show mx_S X F L 561 300 [(8, .int v9), (7, .int u8.1), (6, .int s0), (0, .ref l0), (2, .int l2), (3, .int l3), (5, .int l5)] [.int u12.1, .int v9, .ref l0] u12.2 0 0 (some (.int r.1), r.2, 0, 0)
    refine mx_S.pu (pc2 := 301) (lv2 := [(8, .int v9), (7, .int u8.1), (6, .int s0), (0, .ref l0), (2, .int l2), (3, .int l3), (5, .int l5)]) (st2 := [.ref l0, .int u12.1, .int v9, .ref l0]) hm dX13_right_300 rfl ?_
    replace hf := mx_sv_el hf; obtain ⟨v13, e_v13, hf⟩ := hf
    refine sx_get hm dX13_right_301 rs_RX13_932 (xgi_el e_v13) ?_
    clear e_v13
    refine mx_S.pu (pc2 := 305) (lv2 := [(8, .int v9), (7, .int u8.1), (6, .int s0), (0, .ref l0), (2, .int l2), (3, .int l3), (5, .int l5)]) (st2 := [.ref l0, .int v13, .int u12.1, .int v9, .ref l0]) hm dX13_right_304 rfl ?_
    refine mx_S.pu (pc2 := 306) (lv2 := [(8, .int v9), (7, .int u8.1), (6, .int s0), (0, .ref l0), (2, .int l2), (3, .int l3), (5, .int l5)]) (st2 := [.int l3, .ref l0, .int v13, .int u12.1, .int v9, .ref l0]) hm dX13_right_305 rfl ?_
    refine sx_ic (v := 2) hm dX13_right_306 (by decide) ?_
    replace hf := mx_gd_el hf; obtain ⟨c14, hf⟩ := hf
    replace hf := mx_sv_el hf; obtain ⟨u15, e_u15, hf⟩ := hf
    refine sx_cv hm dX13_right_307 rs_RX13_1022 mt_X13_partOf [.int l3, .int 2] [.int v13, .int u12.1, .int v9, .ref l0] (b := l0) (ci := 13) rfl rfl rfl c14 (Nat.le_of_ble_eq_true rfl) (Nat.le_of_ble_eq_true rfl) (by omega) (by omega) (f_X13_partOf_ok X (by omega) (by omega) nn l0 l3 2 u12.2 e_u15) ?_
    clear e_u15
    show mx_S X F L 561 310 [(8, .int v9), (7, .int u8.1), (6, .int s0), (0, .ref l0), (2, .int l2), (3, .int l3), (5, .int l5)] [.int u15.1, .int v13, .int u12.1, .int v9, .ref l0] u15.2 0 0 (some (.int r.1), r.2, 0, 0)
    replace hf := mx_gd_el hf; obtain ⟨c16, hf⟩ := hf
    replace hf := mx_sv_el hf; obtain ⟨u17, e_u17, hf⟩ := hf
    refine sx_cv hm dX13_right_310 rs_RX13_894 mt_X13_sameText [.int v9, .int u12.1, .int v13, .int u15.1] [] (b := l0) (ci := 13) rfl rfl rfl c16 (Nat.le_of_ble_eq_true rfl) (Nat.le_of_ble_eq_true rfl) (by omega) (by omega) (f_X13_sameText_ok X (by omega) (by omega) nn l0 v9 u12.1 v13 u15.1 u15.2 e_u17) ?_
    clear e_u17
    show mx_S X F L 561 313 [(8, .int v9), (7, .int u8.1), (6, .int s0), (0, .ref l0), (2, .int l2), (3, .int l3), (5, .int l5)] [.int u17.1] u17.2 0 0 (some (.int r.1), r.2, 0, 0)
    rcases mx_if_el hf with ⟨c27, hf⟩ | ⟨c27, hf⟩
    · refine sb_if_ne hm dX13_right_313 (tgt := 318) rfl (fun _ => ?_) (fun z => absurd c27 z)
      refine mx_S.pu (pc2 := 320) (lv2 := [(8, .int v9), (7, .int u8.1), (6, .int s0), (0, .ref l0), (2, .int l2), (3, .int l3), (5, .int l5)]) (st2 := [.int s0]) hm dX13_right_318 rfl ?_
      rcases mx_if_el hf with ⟨c26, hf⟩ | ⟨c26, hf⟩
      · refine sb_if_eq hm dX13_right_320 (tgt := 359) rfl (fun _ => ?_) (fun z => absurd c26 z)
        refine sx_ic (v := 1) hm dX13_right_359 (by decide) ?_
        refine mx_S.pu (pc2 := 364) (lv2 := [(8, .int v9), (7, .int u8.1), (6, .int s0), (0, .ref l0), (2, .int l2), (3, .int l3), (5, .int l5)]) (st2 := [.int 1]) hm dX13_right_360 rfl ?_
        cases hf
        exact sx_ire hm dX13_right_364 rfl (by decide)
      · refine sb_if_eq hm dX13_right_320 (tgt := 359) rfl (fun z => absurd z c26) (fun _ => ?_)
        refine mx_S.pu (pc2 := 324) (lv2 := [(8, .int v9), (7, .int u8.1), (6, .int s0), (0, .ref l0), (2, .int l2), (3, .int l3), (5, .int l5)]) (st2 := [.ref l0]) hm dX13_right_323 rfl ?_
        refine mx_S.pu (pc2 := 326) (lv2 := [(8, .int v9), (7, .int u8.1), (6, .int s0), (0, .ref l0), (2, .int l2), (3, .int l3), (5, .int l5)]) (st2 := [.int v9, .ref l0]) hm dX13_right_324 rfl ?_
        refine mx_S.pu (pc2 := 327) (lv2 := [(8, .int v9), (7, .int u8.1), (6, .int s0), (0, .ref l0), (2, .int l2), (3, .int l3), (5, .int l5)]) (st2 := [.ref l0, .int v9, .ref l0]) hm dX13_right_326 rfl ?_
        replace hf := mx_sv_el hf; obtain ⟨v18, e_v18, hf⟩ := hf
        refine sx_get hm dX13_right_327 rs_RX13_236 (xgr_el e_v18) ?_
        clear e_v18
        refine sx_bi (v := 12) hm dX13_right_330 (by decide) ?_
        refine mx_S.pu (pc2 := 334) (lv2 := [(8, .int v9), (7, .int u8.1), (6, .int s0), (0, .ref l0), (2, .int l2), (3, .int l3), (5, .int l5)]) (st2 := [.int v9, .int 12, .ref v18, .int v9, .ref l0]) hm dX13_right_332 rfl ?_
        replace hf := xl_el hf; obtain ⟨v19, e_v19, hf⟩ := hf
        refine mx_S.pu (pc2 := 335) (lv2 := [(8, .int v9), (7, .int u8.1), (6, .int s0), (0, .ref l0), (2, .int l2), (3, .int l3), (5, .int l5)]) (st2 := [.int v19, .ref v18, .int v9, .ref l0]) hm dX13_right_334 (by rw [← e_v19]; rfl) ?_
        clear e_v19
        refine mx_S.pu (pc2 := 336) (lv2 := [(8, .int v9), (7, .int u8.1), (6, .int s0), (0, .ref l0), (2, .int l2), (3, .int l3), (5, .int l5)]) (st2 := [.ref l0, .int v19, .ref v18, .int v9, .ref l0]) hm dX13_right_335 rfl ?_
        replace hf := mx_sv_el hf; obtain ⟨v20, e_v20, hf⟩ := hf
        refine sx_get hm dX13_right_336 rs_RX13_898 (xgi_el e_v20) ?_
        clear e_v20
        replace hf := xl_el hf; obtain ⟨v21, e_v21, hf⟩ := hf
        refine mx_S.pu (pc2 := 340) (lv2 := [(8, .int v9), (7, .int u8.1), (6, .int s0), (0, .ref l0), (2, .int l2), (3, .int l3), (5, .int l5)]) (st2 := [.int v21, .ref v18, .int v9, .ref l0]) hm dX13_right_339 (by rw [← e_v21]; rfl) ?_
        clear e_v21
        replace hf := mx_sv_el hf; obtain ⟨v22, e_v22, hf⟩ := hf
        refine sx_ald hm dX13_right_340 e_v22 ?_
        clear e_v22
        replace hf := mx_gd_el hf; obtain ⟨c23, hf⟩ := hf
        replace hf := mx_sv_el hf; obtain ⟨u24, e_u24, hf⟩ := hf
        refine sx_cv hm dX13_right_341 rs_RX13_864 mt_X13_byteAt [.int v9, .int v22] [] (b := l0) (ci := 13) rfl rfl rfl c23 (Nat.le_of_ble_eq_true rfl) (Nat.le_of_ble_eq_true rfl) (by omega) (by omega) (f_X13_byteAt_ok X (by omega) (by omega) nn l0 v9 v22 u17.2 e_u24) ?_
        clear e_u24
        show mx_S X F L 561 344 [(8, .int v9), (7, .int u8.1), (6, .int s0), (0, .ref l0), (2, .int l2), (3, .int l3), (5, .int l5)] [.int u24.1] u24.2 0 0 (some (.int r.1), r.2, 0, 0)
        refine mx_S.pu (pc2 := 345) (lv2 := [(8, .int v9), (7, .int u8.1), (6, .int s0), (0, .ref l0), (2, .int l2), (3, .int l3), (5, .int l5)]) (st2 := [.int l2, .int u24.1]) hm dX13_right_344 rfl ?_
        refine sx_si (v := 184) hm dX13_right_345 (by decide) ?_
        rcases mx_if_el hf with ⟨c25, hf⟩ | ⟨c25, hf⟩
        · refine sb_ic_ne hm dX13_right_348 (tgt := 355) rfl (fun _ => ?_) (fun z => absurd c25 z)
          refine sx_ic (v := 0) hm dX13_right_355 (by decide) ?_
          refine mx_S.ext [] (mx_sub_pos [] rfl (show ([8, 7, 6, 0, 2, 3, 5] : List Nat).Nodup by decide)) ?_
          exact j_X13_right_356_ok X hF hL nn 0 u24.1 u24.2 hf
        · refine sb_ic_ne hm dX13_right_348 (tgt := 355) rfl (fun z => absurd z c25) (fun _ => ?_)
          refine sx_ic (v := 1) hm dX13_right_351 (by decide) ?_
          refine mx_S.pu (pc2 := 356) (lv2 := [(8, .int v9), (7, .int u8.1), (6, .int s0), (0, .ref l0), (2, .int l2), (3, .int l3), (5, .int l5)]) (st2 := [.int 1, .int u24.1]) hm dX13_right_352 rfl ?_
          refine mx_S.ext [] (mx_sub_pos [] rfl (show ([8, 7, 6, 0, 2, 3, 5] : List Nat).Nodup by decide)) ?_
          exact j_X13_right_356_ok X hF hL nn 1 u24.1 u24.2 hf
    · refine sb_if_ne hm dX13_right_313 (tgt := 318) rfl (fun z => absurd z c27) (fun _ => ?_)
      refine sx_ic (v := 0) hm dX13_right_316 (by decide) ?_
      cases hf
      exact sx_ire hm dX13_right_317 rfl (by decide)
  · refine sb_ic_ne hm dX13_right_273 (tgt := 278) rfl (fun z => absurd z c28) (fun _ => ?_)
    refine sx_ic (v := 0) hm dX13_right_276 (by decide) ?_
    cases hf
    exact sx_ire hm dX13_right_277 rfl (by decide)
set_option maxHeartbeats 4000000 in
set_option maxRecDepth 20000 in
theorem j_X13_right_187_ok (X : Nat × (Nat → Int32)) {F L : Nat} (hF : 9 ≤ F) (hL : 211 ≤ L) (nn : Nat) (l0 : Nat) (l2 : Int32) (l3 : Int32) (h : mx_H) {r : (Int32 × mx_H)} (hf : j_X13_right_187 nn l0 l2 l3 h = some r) : mx_S X F L 561 187 [(0, .ref l0), (2, .int l2), (3, .int l3)] [] h 0 0 (some (.int r.1), r.2, 0, 0) := by
  have hm : mx_mt 561 = some (yX13_right, cX13_right, 9, (some .boolean)) := mt_X13_right
  unfold j_X13_right_187 at hf
  refine mx_S.pu (pc2 := 188) (lv2 := [(0, .ref l0), (2, .int l2), (3, .int l3)]) (st2 := [.ref l0]) hm dX13_right_187 rfl ?_
  refine mx_S.pu (pc2 := 189) (lv2 := [(0, .ref l0), (2, .int l2), (3, .int l3)]) (st2 := [.int l3, .ref l0]) hm dX13_right_188 rfl ?_
  replace hf := mx_gd_el hf; obtain ⟨c29, hf⟩ := hf
  replace hf := mx_sv_el hf; obtain ⟨u30, e_u30, hf⟩ := hf
  refine sx_cv hm dX13_right_189 rs_RX13_1019 mt_X13_sortOf [.int l3] [] (b := l0) (ci := 13) rfl rfl rfl c29 (Nat.le_of_ble_eq_true rfl) (Nat.le_of_ble_eq_true rfl) (by omega) (by omega) (f_X13_sortOf_ok X (by omega) (by omega) nn l0 l3 h e_u30) ?_
  clear e_u30
  show mx_S X F L 561 192 [(0, .ref l0), (2, .int l2), (3, .int l3)] [.int u30.1] u30.2 0 0 (some (.int r.1), r.2, 0, 0)
  refine sx_ic (v := 4) hm dX13_right_192 (by decide) ?_
  rcases mx_if_el hf with ⟨c41, hf⟩ | ⟨c41, hf⟩
  · refine sb_ic_eq hm dX13_right_193 (tgt := 198) rfl (fun _ => ?_) (fun z => absurd c41 z)
    refine mx_S.pu (pc2 := 199) (lv2 := [(0, .ref l0), (2, .int l2), (3, .int l3)]) (st2 := [.ref l0]) hm dX13_right_198 rfl ?_
    refine mx_S.pu (pc2 := 200) (lv2 := [(0, .ref l0), (2, .int l2), (3, .int l3)]) (st2 := [.ref l0, .ref l0]) hm dX13_right_199 rfl ?_
    replace hf := mx_sv_el hf; obtain ⟨v31, e_v31, hf⟩ := hf
    refine sx_get hm dX13_right_200 rs_RX13_932 (xgi_el e_v31) ?_
    clear e_v31
    refine mx_S.pu (pc2 := 204) (lv2 := [(0, .ref l0), (2, .int l2), (3, .int l3)]) (st2 := [.ref l0, .int v31, .ref l0]) hm dX13_right_203 rfl ?_
    refine mx_S.pu (pc2 := 205) (lv2 := [(0, .ref l0), (2, .int l2), (3, .int l3)]) (st2 := [.int l3, .ref l0, .int v31, .ref l0]) hm dX13_right_204 rfl ?_
    refine sx_ic (v := 0) hm dX13_right_205 (by decide) ?_
    replace hf := mx_gd_el hf; obtain ⟨c32, hf⟩ := hf
    replace hf := mx_sv_el hf; obtain ⟨u33, e_u33, hf⟩ := hf
    refine sx_cv hm dX13_right_206 rs_RX13_1022 mt_X13_partOf [.int l3, .int 0] [.int v31, .ref l0] (b := l0) (ci := 13) rfl rfl rfl c32 (Nat.le_of_ble_eq_true rfl) (Nat.le_of_ble_eq_true rfl) (by omega) (by omega) (f_X13_partOf_ok X (by omega) (by omega) nn l0 l3 0 u30.2 e_u33) ?_
    clear e_u33
    show mx_S X F L 561 209 [(0, .ref l0), (2, .int l2), (3, .int l3)] [.int u33.1, .int v31, .ref l0] u33.2 0 0 (some (.int r.1), r.2, 0, 0)
    replace hf := mx_gd_el hf; obtain ⟨c34, hf⟩ := hf
    replace hf := mx_sv_el hf; obtain ⟨u35, e_u35, hf⟩ := hf
    refine sx_cv hm dX13_right_209 rs_RX13_952 mt_X13_typeOfClass [.int v31, .int u33.1] [] (b := l0) (ci := 13) rfl rfl rfl c34 (Nat.le_of_ble_eq_true rfl) (Nat.le_of_ble_eq_true rfl) (by omega) (by omega) (f_X13_typeOfClass_ok X (by omega) (by omega) nn l0 v31 u33.1 u33.2 e_u35) ?_
    clear e_u35
    show mx_S X F L 561 212 [(0, .ref l0), (2, .int l2), (3, .int l3)] [.int u35.1] u35.2 0 0 (some (.int r.1), r.2, 0, 0)
    refine mx_S.pu (pc2 := 214) (lv2 := [(5, .int u35.1), (0, .ref l0), (2, .int l2), (3, .int l3)]) (st2 := []) hm dX13_right_212 rfl ?_
    refine mx_S.pu (pc2 := 216) (lv2 := [(5, .int u35.1), (0, .ref l0), (2, .int l2), (3, .int l3)]) (st2 := [.int u35.1]) hm dX13_right_214 rfl ?_
    replace hf := mx_sv_el hf; obtain ⟨u36, e_u36, hf⟩ := hf
    refine sx_cs hm dX13_right_216 rs_RX13_888 mt_X13_isRow [.int u35.1] [] rfl rfl (Nat.le_of_ble_eq_true rfl) (Nat.le_of_ble_eq_true rfl) (by omega) (by omega) (f_X13_isRow_ok X (by omega) (by omega) nn u35.1 u35.2 e_u36) ?_
    clear e_u36
    show mx_S X F L 561 219 [(5, .int u35.1), (0, .ref l0), (2, .int l2), (3, .int l3)] [.int u36.1] u36.2 0 0 (some (.int r.1), r.2, 0, 0)
    rcases mx_if_el hf with ⟨c40, hf⟩ | ⟨c40, hf⟩
    · refine sb_if_ne hm dX13_right_219 (tgt := 230) rfl (fun _ => ?_) (fun z => absurd c40 z)
      refine sx_ic (v := 0) hm dX13_right_230 (by decide) ?_
      cases hf
      exact sx_ire hm dX13_right_231 rfl (by decide)
    · refine sb_if_ne hm dX13_right_219 (tgt := 230) rfl (fun z => absurd z c40) (fun _ => ?_)
      refine mx_S.pu (pc2 := 224) (lv2 := [(5, .int u35.1), (0, .ref l0), (2, .int l2), (3, .int l3)]) (st2 := [.int u35.1]) hm dX13_right_222 rfl ?_
      replace hf := mx_sv_el hf; obtain ⟨u37, e_u37, hf⟩ := hf
      refine sx_cs hm dX13_right_224 rs_RX13_916 mt_X13_isThere [.int u35.1] [] rfl rfl (Nat.le_of_ble_eq_true rfl) (Nat.le_of_ble_eq_true rfl) (by omega) (by omega) (f_X13_isThere_ok X (by omega) (by omega) nn u35.1 u36.2 e_u37) ?_
      clear e_u37
      show mx_S X F L 561 227 [(5, .int u35.1), (0, .ref l0), (2, .int l2), (3, .int l3)] [.int u37.1] u37.2 0 0 (some (.int r.1), r.2, 0, 0)
      rcases mx_if_el hf with ⟨c39, hf⟩ | ⟨c39, hf⟩
      · refine sb_if_ne hm dX13_right_227 (tgt := 232) rfl (fun _ => ?_) (fun z => absurd c39 z)
        refine mx_S.pu (pc2 := 233) (lv2 := [(5, .int u35.1), (0, .ref l0), (2, .int l2), (3, .int l3)]) (st2 := [.int l2]) hm dX13_right_232 rfl ?_
        refine sx_si (v := 181) hm dX13_right_233 (by decide) ?_
        rcases mx_if_el hf with ⟨c38, hf⟩ | ⟨c38, hf⟩
        · refine sb_ic_le hm dX13_right_236 (tgt := 243) rfl (fun _ => ?_) (fun z => absurd c38 z)
          refine sx_ic (v := 0) hm dX13_right_243 (by decide) ?_
          refine mx_S.ext [(0, .ref l0), (2, .int l2), (3, .int l3), (5, .int u35.1)] (mx_sub_pos [1, 2, 3, 0] rfl (show ([5, 0, 2, 3] : List Nat).Nodup by decide)) ?_
          exact j_X13_right_244_ok X hF hL nn l0 l2 l3 u35.1 0 u37.2 hf
        · refine sb_ic_le hm dX13_right_236 (tgt := 243) rfl (fun z => absurd z c38) (fun _ => ?_)
          refine sx_ic (v := 1) hm dX13_right_239 (by decide) ?_
          refine mx_S.pu (pc2 := 244) (lv2 := [(5, .int u35.1), (0, .ref l0), (2, .int l2), (3, .int l3)]) (st2 := [.int 1]) hm dX13_right_240 rfl ?_
          refine mx_S.ext [(0, .ref l0), (2, .int l2), (3, .int l3), (5, .int u35.1)] (mx_sub_pos [1, 2, 3, 0] rfl (show ([5, 0, 2, 3] : List Nat).Nodup by decide)) ?_
          exact j_X13_right_244_ok X hF hL nn l0 l2 l3 u35.1 1 u37.2 hf
      · refine sb_if_ne hm dX13_right_227 (tgt := 232) rfl (fun z => absurd z c39) (fun _ => ?_)
        refine sx_ic (v := 0) hm dX13_right_230 (by decide) ?_
        cases hf
        exact sx_ire hm dX13_right_231 rfl (by decide)
  · refine sb_ic_eq hm dX13_right_193 (tgt := 198) rfl (fun z => absurd z c41) (fun _ => ?_)
    refine sx_ic (v := 0) hm dX13_right_196 (by decide) ?_
    cases hf
    exact sx_ire hm dX13_right_197 rfl (by decide)
set_option maxHeartbeats 4000000 in
set_option maxRecDepth 20000 in
theorem j_X13_right_131_ok (X : Nat × (Nat → Int32)) {F L : Nat} (hF : 9 ≤ F) (hL : 211 ≤ L) (nn : Nat) (l0 : Nat) (l3 : Int32) (h : mx_H) {r : (Int32 × mx_H)} (hf : j_X13_right_131 nn l0 l3 h = some r) : mx_S X F L 561 131 [(0, .ref l0), (3, .int l3)] [] h 0 0 (some (.int r.1), r.2, 0, 0) := by
  have hm : mx_mt 561 = some (yX13_right, cX13_right, 9, (some .boolean)) := mt_X13_right
  unfold j_X13_right_131 at hf
  refine mx_S.pu (pc2 := 132) (lv2 := [(0, .ref l0), (3, .int l3)]) (st2 := [.ref l0]) hm dX13_right_131 rfl ?_
  refine mx_S.pu (pc2 := 133) (lv2 := [(0, .ref l0), (3, .int l3)]) (st2 := [.int l3, .ref l0]) hm dX13_right_132 rfl ?_
  replace hf := mx_gd_el hf; obtain ⟨c42, hf⟩ := hf
  replace hf := mx_sv_el hf; obtain ⟨u43, e_u43, hf⟩ := hf
  refine sx_cv hm dX13_right_133 rs_RX13_1019 mt_X13_sortOf [.int l3] [] (b := l0) (ci := 13) rfl rfl rfl c42 (Nat.le_of_ble_eq_true rfl) (Nat.le_of_ble_eq_true rfl) (by omega) (by omega) (f_X13_sortOf_ok X (by omega) (by omega) nn l0 l3 h e_u43) ?_
  clear e_u43
  show mx_S X F L 561 136 [(0, .ref l0), (3, .int l3)] [.int u43.1] u43.2 0 0 (some (.int r.1), r.2, 0, 0)
  refine sx_ic (v := 3) hm dX13_right_136 (by decide) ?_
  rcases mx_if_el hf with ⟨c51, hf⟩ | ⟨c51, hf⟩
  · refine sb_ic_eq hm dX13_right_137 (tgt := 142) rfl (fun _ => ?_) (fun z => absurd c51 z)
    refine mx_S.pu (pc2 := 143) (lv2 := [(0, .ref l0), (3, .int l3)]) (st2 := [.ref l0]) hm dX13_right_142 rfl ?_
    refine mx_S.pu (pc2 := 144) (lv2 := [(0, .ref l0), (3, .int l3)]) (st2 := [.ref l0, .ref l0]) hm dX13_right_143 rfl ?_
    replace hf := mx_sv_el hf; obtain ⟨v44, e_v44, hf⟩ := hf
    refine sx_get hm dX13_right_144 rs_RX13_932 (xgi_el e_v44) ?_
    clear e_v44
    refine mx_S.pu (pc2 := 148) (lv2 := [(0, .ref l0), (3, .int l3)]) (st2 := [.int l3, .int v44, .ref l0]) hm dX13_right_147 rfl ?_
    replace hf := mx_gd_el hf; obtain ⟨c45, hf⟩ := hf
    replace hf := mx_sv_el hf; obtain ⟨u46, e_u46, hf⟩ := hf
    refine sx_cv hm dX13_right_148 rs_RX13_952 mt_X13_typeOfClass [.int v44, .int l3] [] (b := l0) (ci := 13) rfl rfl rfl c45 (Nat.le_of_ble_eq_true rfl) (Nat.le_of_ble_eq_true rfl) (by omega) (by omega) (f_X13_typeOfClass_ok X (by omega) (by omega) nn l0 v44 l3 u43.2 e_u46) ?_
    clear e_u46
    show mx_S X F L 561 151 [(0, .ref l0), (3, .int l3)] [.int u46.1] u46.2 0 0 (some (.int r.1), r.2, 0, 0)
    refine mx_S.pu (pc2 := 153) (lv2 := [(4, .int u46.1), (0, .ref l0), (3, .int l3)]) (st2 := []) hm dX13_right_151 rfl ?_
    refine mx_S.pu (pc2 := 155) (lv2 := [(4, .int u46.1), (0, .ref l0), (3, .int l3)]) (st2 := [.int u46.1]) hm dX13_right_153 rfl ?_
    replace hf := mx_sv_el hf; obtain ⟨u47, e_u47, hf⟩ := hf
    refine sx_cs hm dX13_right_155 rs_RX13_916 mt_X13_isThere [.int u46.1] [] rfl rfl (Nat.le_of_ble_eq_true rfl) (Nat.le_of_ble_eq_true rfl) (by omega) (by omega) (f_X13_isThere_ok X (by omega) (by omega) nn u46.1 u46.2 e_u47) ?_
    clear e_u47
    show mx_S X F L 561 158 [(4, .int u46.1), (0, .ref l0), (3, .int l3)] [.int u47.1] u47.2 0 0 (some (.int r.1), r.2, 0, 0)
    rcases mx_if_el hf with ⟨c50, hf⟩ | ⟨c50, hf⟩
    · refine sb_if_eq hm dX13_right_158 (tgt := 173) rfl (fun _ => ?_) (fun z => absurd c50 z)
      refine sx_ic (v := 0) hm dX13_right_173 (by decide) ?_
      cases hf
      exact sx_ire hm dX13_right_174 rfl (by decide)
    · refine sb_if_eq hm dX13_right_158 (tgt := 173) rfl (fun z => absurd z c50) (fun _ => ?_)
      refine mx_S.pu (pc2 := 163) (lv2 := [(4, .int u46.1), (0, .ref l0), (3, .int l3)]) (st2 := [.int u46.1]) hm dX13_right_161 rfl ?_
      replace hf := mx_sv_el hf; obtain ⟨u48, e_u48, hf⟩ := hf
      refine sx_cs hm dX13_right_163 rs_RX13_888 mt_X13_isRow [.int u46.1] [] rfl rfl (Nat.le_of_ble_eq_true rfl) (Nat.le_of_ble_eq_true rfl) (by omega) (by omega) (f_X13_isRow_ok X (by omega) (by omega) nn u46.1 u47.2 e_u48) ?_
      clear e_u48
      show mx_S X F L 561 166 [(4, .int u46.1), (0, .ref l0), (3, .int l3)] [.int u48.1] u48.2 0 0 (some (.int r.1), r.2, 0, 0)
      rcases mx_if_el hf with ⟨c49, hf⟩ | ⟨c49, hf⟩
      · refine sb_if_ne hm dX13_right_166 (tgt := 173) rfl (fun _ => ?_) (fun z => absurd c49 z)
        refine sx_ic (v := 0) hm dX13_right_173 (by decide) ?_
        cases hf
        exact sx_ire hm dX13_right_174 rfl (by decide)
      · refine sb_if_ne hm dX13_right_166 (tgt := 173) rfl (fun z => absurd z c49) (fun _ => ?_)
        refine sx_ic (v := 1) hm dX13_right_169 (by decide) ?_
        refine mx_S.pu (pc2 := 174) (lv2 := [(4, .int u46.1), (0, .ref l0), (3, .int l3)]) (st2 := [.int 1]) hm dX13_right_170 rfl ?_
        cases hf
        exact sx_ire hm dX13_right_174 rfl (by decide)
  · refine sb_ic_eq hm dX13_right_137 (tgt := 142) rfl (fun z => absurd z c51) (fun _ => ?_)
    refine sx_ic (v := 0) hm dX13_right_140 (by decide) ?_
    cases hf
    exact sx_ire hm dX13_right_141 rfl (by decide)
set_option maxHeartbeats 4000000 in
set_option maxRecDepth 20000 in
theorem j_X13_right_25_ok (X : Nat × (Nat → Int32)) {F L : Nat} (hF : 9 ≤ F) (hL : 211 ≤ L) (nn : Nat) (l0 : Nat) (l2 : Int32) (s0 : Int32) (h : mx_H) {r : (Int32 × mx_H)} (hf : j_X13_right_25 nn l0 l2 s0 h = some r) : mx_S X F L 561 25 [(0, .ref l0), (2, .int l2)] [.int s0] h 0 0 (some (.int r.1), r.2, 0, 0) := by
  have hm : mx_mt 561 = some (yX13_right, cX13_right, 9, (some .boolean)) := mt_X13_right
  unfold j_X13_right_25 at hf
  refine mx_S.pu (pc2 := 26) (lv2 := [(3, .int s0), (0, .ref l0), (2, .int l2)]) (st2 := []) hm dX13_right_25 rfl ?_
  refine mx_S.pu (pc2 := 27) (lv2 := [(3, .int s0), (0, .ref l0), (2, .int l2)]) (st2 := [.int l2]) hm dX13_right_26 rfl ?_
  rcases mx_if_el hf with ⟨n_0, hf⟩ | ⟨n_0, hf⟩
  · refine sx_look hm dX13_right_27 rfl (off := 89) (by rw [n_0]; rfl) (tgt := 116) rfl ?_
    clear n_0
    refine mx_S.pu (pc2 := 117) (lv2 := [(3, .int s0), (0, .ref l0), (2, .int l2)]) (st2 := [.ref l0]) hm dX13_right_116 rfl ?_
    refine mx_S.pu (pc2 := 118) (lv2 := [(3, .int s0), (0, .ref l0), (2, .int l2)]) (st2 := [.int s0, .ref l0]) hm dX13_right_117 rfl ?_
    replace hf := mx_gd_el hf; obtain ⟨c52, hf⟩ := hf
    replace hf := mx_sv_el hf; obtain ⟨u53, e_u53, hf⟩ := hf
    refine sx_cv hm dX13_right_118 rs_RX13_1019 mt_X13_sortOf [.int s0] [] (b := l0) (ci := 13) rfl rfl rfl c52 (Nat.le_of_ble_eq_true rfl) (Nat.le_of_ble_eq_true rfl) (by omega) (by omega) (f_X13_sortOf_ok X (by omega) (by omega) nn l0 s0 h e_u53) ?_
    clear e_u53
    show mx_S X F L 561 121 [(3, .int s0), (0, .ref l0), (2, .int l2)] [.int u53.1] u53.2 0 0 (some (.int r.1), r.2, 0, 0)
    refine sx_ic (v := 2) hm dX13_right_121 (by decide) ?_
    rcases mx_if_el hf with ⟨c54, hf⟩ | ⟨c54, hf⟩
    · refine sb_ic_ne hm dX13_right_122 (tgt := 129) rfl (fun _ => ?_) (fun z => absurd c54 z)
      refine sx_ic (v := 0) hm dX13_right_129 (by decide) ?_
      cases hf
      exact sx_ire hm dX13_right_130 rfl (by decide)
    · refine sb_ic_ne hm dX13_right_122 (tgt := 129) rfl (fun z => absurd z c54) (fun _ => ?_)
      refine sx_ic (v := 1) hm dX13_right_125 (by decide) ?_
      refine mx_S.pu (pc2 := 130) (lv2 := [(3, .int s0), (0, .ref l0), (2, .int l2)]) (st2 := [.int 1]) hm dX13_right_126 rfl ?_
      cases hf
      exact sx_ire hm dX13_right_130 rfl (by decide)
  · rcases mx_if_el hf with ⟨n_1, hf⟩ | ⟨n_1, hf⟩
    · refine sx_look hm dX13_right_27 rfl (off := 160) (by rw [n_1]; rfl) (tgt := 187) rfl ?_
      clear n_0 n_1
      refine mx_S.ext [(0, .ref l0), (2, .int l2), (3, .int s0)] (mx_sub_pos [1, 2, 0] rfl (show ([3, 0, 2] : List Nat).Nodup by decide)) ?_
      exact j_X13_right_187_ok X hF hL nn l0 l2 s0 h hf
    · rcases mx_if_el hf with ⟨n_2, hf⟩ | ⟨n_2, hf⟩
      · refine sx_look hm dX13_right_27 rfl (off := 160) (by rw [n_2]; rfl) (tgt := 187) rfl ?_
        clear n_0 n_1 n_2
        refine mx_S.ext [(0, .ref l0), (2, .int l2), (3, .int s0)] (mx_sub_pos [1, 2, 0] rfl (show ([3, 0, 2] : List Nat).Nodup by decide)) ?_
        exact j_X13_right_187_ok X hF hL nn l0 l2 s0 h hf
      · rcases mx_if_el hf with ⟨n_3, hf⟩ | ⟨n_3, hf⟩
        · refine sx_look hm dX13_right_27 rfl (off := 160) (by rw [n_3]; rfl) (tgt := 187) rfl ?_
          clear n_0 n_1 n_2 n_3
          refine mx_S.ext [(0, .ref l0), (2, .int l2), (3, .int s0)] (mx_sub_pos [1, 2, 0] rfl (show ([3, 0, 2] : List Nat).Nodup by decide)) ?_
          exact j_X13_right_187_ok X hF hL nn l0 l2 s0 h hf
        · rcases mx_if_el hf with ⟨n_4, hf⟩ | ⟨n_4, hf⟩
          · refine sx_look hm dX13_right_27 rfl (off := 160) (by rw [n_4]; rfl) (tgt := 187) rfl ?_
            clear n_0 n_1 n_2 n_3 n_4
            refine mx_S.ext [(0, .ref l0), (2, .int l2), (3, .int s0)] (mx_sub_pos [1, 2, 0] rfl (show ([3, 0, 2] : List Nat).Nodup by decide)) ?_
            exact j_X13_right_187_ok X hF hL nn l0 l2 s0 h hf
          · rcases mx_if_el hf with ⟨n_5, hf⟩ | ⟨n_5, hf⟩
            · refine sx_look hm dX13_right_27 rfl (off := 104) (by rw [n_5]; rfl) (tgt := 131) rfl ?_
              clear n_0 n_1 n_2 n_3 n_4 n_5
              refine mx_S.ext [(0, .ref l0), (3, .int s0)] (mx_sub_pos [1, 0] rfl (show ([3, 0, 2] : List Nat).Nodup by decide)) ?_
              exact j_X13_right_131_ok X hF hL nn l0 s0 h hf
            · rcases mx_if_el hf with ⟨n_6, hf⟩ | ⟨n_6, hf⟩
              · refine sx_look hm dX13_right_27 rfl (off := 148) (by rw [n_6]; rfl) (tgt := 175) rfl ?_
                clear n_0 n_1 n_2 n_3 n_4 n_5 n_6
                refine mx_S.pu (pc2 := 176) (lv2 := [(3, .int s0), (0, .ref l0), (2, .int l2)]) (st2 := [.int s0]) hm dX13_right_175 rfl ?_
                refine sx_bi (v := 10) hm dX13_right_176 (by decide) ?_
                rcases mx_if_el hf with ⟨c55, hf⟩ | ⟨c55, hf⟩
                · refine sb_ic_ne hm dX13_right_178 (tgt := 185) rfl (fun _ => ?_) (fun z => absurd c55 z)
                  refine sx_ic (v := 0) hm dX13_right_185 (by decide) ?_
                  cases hf
                  exact sx_ire hm dX13_right_186 rfl (by decide)
                · refine sb_ic_ne hm dX13_right_178 (tgt := 185) rfl (fun z => absurd z c55) (fun _ => ?_)
                  refine sx_ic (v := 1) hm dX13_right_181 (by decide) ?_
                  refine mx_S.pu (pc2 := 186) (lv2 := [(3, .int s0), (0, .ref l0), (2, .int l2)]) (st2 := [.int 1]) hm dX13_right_182 rfl ?_
                  cases hf
                  exact sx_ire hm dX13_right_186 rfl (by decide)
              · rcases mx_if_el hf with ⟨n_7, hf⟩ | ⟨n_7, hf⟩
                · refine sx_look hm dX13_right_27 rfl (off := 104) (by rw [n_7]; rfl) (tgt := 131) rfl ?_
                  clear n_0 n_1 n_2 n_3 n_4 n_5 n_6 n_7
                  refine mx_S.ext [(0, .ref l0), (3, .int s0)] (mx_sub_pos [1, 0] rfl (show ([3, 0, 2] : List Nat).Nodup by decide)) ?_
                  exact j_X13_right_131_ok X hF hL nn l0 s0 h hf
                · rcases mx_if_el hf with ⟨n_8, hf⟩ | ⟨n_8, hf⟩
                  · refine sx_look hm dX13_right_27 rfl (off := 104) (by rw [n_8]; rfl) (tgt := 131) rfl ?_
                    clear n_0 n_1 n_2 n_3 n_4 n_5 n_6 n_7 n_8
                    refine mx_S.ext [(0, .ref l0), (3, .int s0)] (mx_sub_pos [1, 0] rfl (show ([3, 0, 2] : List Nat).Nodup by decide)) ?_
                    exact j_X13_right_131_ok X hF hL nn l0 s0 h hf
                  · rcases mx_if_el hf with ⟨n_9, hf⟩ | ⟨n_9, hf⟩
                    · refine sx_look hm dX13_right_27 rfl (off := 104) (by rw [n_9]; rfl) (tgt := 131) rfl ?_
                      clear n_0 n_1 n_2 n_3 n_4 n_5 n_6 n_7 n_8 n_9
                      refine mx_S.ext [(0, .ref l0), (3, .int s0)] (mx_sub_pos [1, 0] rfl (show ([3, 0, 2] : List Nat).Nodup by decide)) ?_
                      exact j_X13_right_131_ok X hF hL nn l0 s0 h hf
                    · refine sx_look hm dX13_right_27 rfl (off := 338) (by show Op.lookupswitch.offset [(18, 89), (180, 160), (181, 160), (182, 160), (184, 160), (187, 104), (188, 148), (189, 104), (192, 104), (193, 104)] 338 l2.toInt = _; rw [lv_osw n_0 (by decide), lv_osw n_1 (by decide), lv_osw n_2 (by decide), lv_osw n_3 (by decide), lv_osw n_4 (by decide), lv_osw n_5 (by decide), lv_osw n_6 (by decide), lv_osw n_7 (by decide), lv_osw n_8 (by decide), lv_osw n_9 (by decide)]; rfl) (tgt := 365) rfl ?_
                      refine sx_ic (v := 1) hm dX13_right_365 (by decide) ?_
                      cases hf
                      exact sx_ire hm dX13_right_366 rfl (by decide)
set_option maxHeartbeats 4000000 in
set_option maxRecDepth 20000 in
theorem f_X13_right_ok (X : Nat × (Nat → Int32)) {F L : Nat} (hF : 9 ≤ F) (hL : 211 ≤ L) (nn : Nat) (a0 : Nat) (a1 : Int32) (h : mx_H) {r : (Int32 × mx_H)} (hf : f_X13_right nn a0 a1 h = some r) : mx_R X F L 561 [.ref a0, .int a1] h (some (.int r.1), r.2, 0, 0) := by
  have hm : mx_mt 561 = some (yX13_right, cX13_right, 9, (some .boolean)) := mt_X13_right
  show mx_S X F L 561 0 [(0, .ref a0), (1, .int a1)] [] h 0 0 (some (.int r.1), r.2, 0, 0)
  unfold f_X13_right at hf
  refine mx_S.pu (pc2 := 1) (lv2 := [(0, .ref a0), (1, .int a1)]) (st2 := [.ref a0]) hm dX13_right_0 rfl ?_
  refine mx_S.pu (pc2 := 2) (lv2 := [(0, .ref a0), (1, .int a1)]) (st2 := [.int a1, .ref a0]) hm dX13_right_1 rfl ?_
  replace hf := mx_gd_el hf; obtain ⟨c56, hf⟩ := hf
  replace hf := mx_sv_el hf; obtain ⟨u57, e_u57, hf⟩ := hf
  refine sx_cv hm dX13_right_2 rs_RX13_938 mt_X13_code [.int a1] [] (b := a0) (ci := 13) rfl rfl rfl c56 (Nat.le_of_ble_eq_true rfl) (Nat.le_of_ble_eq_true rfl) (by omega) (by omega) (f_X13_code_ok X (by omega) (by omega) nn a0 a1 h e_u57) ?_
  clear e_u57
  show mx_S X F L 561 5 [(0, .ref a0), (1, .int a1)] [.int u57.1] u57.2 0 0 (some (.int r.1), r.2, 0, 0)
  refine mx_S.pu (pc2 := 6) (lv2 := [(2, .int u57.1), (0, .ref a0), (1, .int a1)]) (st2 := []) hm dX13_right_5 rfl ?_
  refine mx_S.pu (pc2 := 7) (lv2 := [(2, .int u57.1), (0, .ref a0), (1, .int a1)]) (st2 := [.int u57.1]) hm dX13_right_6 rfl ?_
  replace hf := mx_sv_el hf; obtain ⟨u58, e_u58, hf⟩ := hf
  refine sx_cs hm dX13_right_7 rs_RX13_975 mt_X13_widthOf [.int u57.1] [] rfl rfl (Nat.le_of_ble_eq_true rfl) (Nat.le_of_ble_eq_true rfl) (by omega) (by omega) (f_X13_widthOf_ok X (by omega) (by omega) nn u57.1 u57.2 e_u58) ?_
  clear e_u58
  show mx_S X F L 561 10 [(2, .int u57.1), (0, .ref a0), (1, .int a1)] [.int u58.1] u58.2 0 0 (some (.int r.1), r.2, 0, 0)
  refine sx_ic (v := 2) hm dX13_right_10 (by decide) ?_
  rcases mx_if_el hf with ⟨c62, hf⟩ | ⟨c62, hf⟩
  · refine sb_ic_ne hm dX13_right_11 (tgt := 24) rfl (fun _ => ?_) (fun z => absurd c62 z)
    refine sx_ic (v := 0) hm dX13_right_24 (by decide) ?_
    refine mx_S.ext [(0, .ref a0), (2, .int u57.1)] (mx_sub_pos [1, 0] rfl (show ([2, 0, 1] : List Nat).Nodup by decide)) ?_
    exact j_X13_right_25_ok X hF hL nn a0 u57.1 0 u58.2 hf
  · refine sb_ic_ne hm dX13_right_11 (tgt := 24) rfl (fun z => absurd z c62) (fun _ => ?_)
    refine mx_S.pu (pc2 := 15) (lv2 := [(2, .int u57.1), (0, .ref a0), (1, .int a1)]) (st2 := [.ref a0]) hm dX13_right_14 rfl ?_
    refine mx_S.pu (pc2 := 16) (lv2 := [(2, .int u57.1), (0, .ref a0), (1, .int a1)]) (st2 := [.int a1, .ref a0]) hm dX13_right_15 rfl ?_
    refine sx_ic (v := 1) hm dX13_right_16 (by decide) ?_
    replace hf := xl_el hf; obtain ⟨v59, e_v59, hf⟩ := hf
    refine mx_S.pu (pc2 := 18) (lv2 := [(2, .int u57.1), (0, .ref a0), (1, .int a1)]) (st2 := [.int v59, .ref a0]) hm dX13_right_17 (by rw [← e_v59]; rfl) ?_
    clear e_v59
    replace hf := mx_gd_el hf; obtain ⟨c60, hf⟩ := hf
    replace hf := mx_sv_el hf; obtain ⟨u61, e_u61, hf⟩ := hf
    refine sx_cv hm dX13_right_18 rs_RX13_938 mt_X13_code [.int v59] [] (b := a0) (ci := 13) rfl rfl rfl c60 (Nat.le_of_ble_eq_true rfl) (Nat.le_of_ble_eq_true rfl) (by omega) (by omega) (f_X13_code_ok X (by omega) (by omega) nn a0 v59 u58.2 e_u61) ?_
    clear e_u61
    show mx_S X F L 561 21 [(2, .int u57.1), (0, .ref a0), (1, .int a1)] [.int u61.1] u61.2 0 0 (some (.int r.1), r.2, 0, 0)
    refine mx_S.pu (pc2 := 25) (lv2 := [(2, .int u57.1), (0, .ref a0), (1, .int a1)]) (st2 := [.int u61.1]) hm dX13_right_21 rfl ?_
    refine mx_S.ext [(0, .ref a0), (2, .int u57.1)] (mx_sub_pos [1, 0] rfl (show ([2, 0, 1] : List Nat).Nodup by decide)) ?_
    exact j_X13_right_25_ok X hF hL nn a0 u57.1 u61.1 u61.2 hf
set_option maxHeartbeats 4000000 in
set_option maxRecDepth 20000 in
theorem j_X13_stackFits_80_ok (X : Nat × (Nat → Int32)) {F L : Nat} (hF : 10 ≤ F) (hL : 232 ≤ L) (nn : Nat) {kk_34 : Nat → Int32 → Int32 → Int32 → mx_H → Option (Int32 × mx_H)} (hk_34 : ∀ (l0 : Nat) (l2 : Int32) (l3 : Int32) (l4 : Int32) (h : mx_H) (r : (Int32 × mx_H)), kk_34 l0 l2 l3 l4 h = some r → mx_S X F L 551 34 [(0, .ref l0), (2, .int l2), (3, .int l3), (4, .int l4)] [] h 0 0 (some (.int r.1), r.2, 0, 0)) (l0 : Nat) (l3 : Int32) (l4 : Int32) (s0 : Int32) (s1 : Int32) (h : mx_H) {r : (Int32 × mx_H)} (hf : j_X13_stackFits_80 nn kk_34 l0 l3 l4 s0 s1 h = some r) : mx_S X F L 551 80 [(0, .ref l0), (3, .int l3), (4, .int l4)] [.int s0, .int s1] h 0 0 (some (.int r.1), r.2, 0, 0) := by
  have hm : mx_mt 551 = some (yX13_stackFits, cX13_stackFits, 5, (some .boolean)) := mt_X13_stackFits
  unfold j_X13_stackFits_80 at hf
  replace hf := xl_el hf; obtain ⟨v1, e_v1, hf⟩ := hf
  refine mx_S.pu (pc2 := 81) (lv2 := [(0, .ref l0), (3, .int l3), (4, .int l4)]) (st2 := [.int v1]) hm dX13_stackFits_80 (by rw [← e_v1]; rfl) ?_
  clear e_v1
  refine mx_S.pu (pc2 := 82) (lv2 := [(2, .int v1), (0, .ref l0), (3, .int l3), (4, .int l4)]) (st2 := []) hm dX13_stackFits_81 rfl ?_
  replace hf := xl_el hf; obtain ⟨v2, e_v2, hf⟩ := hf
  refine mx_S.pu (pc2 := 85) (lv2 := [(4, .int v2), (2, .int v1), (0, .ref l0), (3, .int l3)]) (st2 := []) hm dX13_stackFits_82 (by rw [← e_v2]; rfl) ?_
  clear e_v2
  refine mx_S.pu (pc2 := 34) (lv2 := [(4, .int v2), (2, .int v1), (0, .ref l0), (3, .int l3)]) (st2 := []) hm dX13_stackFits_85 rfl ?_
  refine mx_S.ext [(0, .ref l0), (2, .int v1), (3, .int l3), (4, .int v2)] (mx_sub_pos [2, 1, 3, 0] rfl (show ([4, 2, 0, 3] : List Nat).Nodup by decide)) ?_
  exact hk_34 l0 v1 l3 v2 h _ hf
set_option maxHeartbeats 4000000 in
set_option maxRecDepth 20000 in
theorem w_X13_stackFits_34_ok (X : Nat × (Nat → Int32)) {F L : Nat} (hF : 10 ≤ F) (hL : 232 ≤ L) (nn : Nat) : ∀ (k : Nat) (l0 : Nat) (l2 : Int32) (l3 : Int32) (l4 : Int32) (h : mx_H) (r : (Int32 × mx_H)), w_X13_stackFits_34 nn k l0 l2 l3 l4 h = some r → mx_S X F L 551 34 [(0, .ref l0), (2, .int l2), (3, .int l3), (4, .int l4)] [] h 0 0 (some (.int r.1), r.2, 0, 0) := by
  have hm : mx_mt 551 = some (yX13_stackFits, cX13_stackFits, 5, (some .boolean)) := mt_X13_stackFits
  intro k
  induction k with
  | zero => intro l0 l2 l3 l4 h r hf; cases hf
  | succ k ih =>
    intro l0 l2 l3 l4 h r hf
    unfold w_X13_stackFits_34 at hf
    refine mx_S.pu (pc2 := 36) (lv2 := [(0, .ref l0), (2, .int l2), (3, .int l3), (4, .int l4)]) (st2 := [.int l4]) hm dX13_stackFits_34 rfl ?_
    refine mx_S.pu (pc2 := 37) (lv2 := [(0, .ref l0), (2, .int l2), (3, .int l3), (4, .int l4)]) (st2 := [.int l3, .int l4]) hm dX13_stackFits_36 rfl ?_
    rcases mx_if_el hf with ⟨c14, hf⟩ | ⟨c14, hf⟩
    · refine sb_ic_ge hm dX13_stackFits_37 (tgt := 88) rfl (fun _ => ?_) (fun z => absurd c14 z)
      refine sx_ic (v := 1) hm dX13_stackFits_88 (by decide) ?_
      cases hf
      exact sx_ire hm dX13_stackFits_89 rfl (by decide)
    · refine sb_ic_ge hm dX13_stackFits_37 (tgt := 88) rfl (fun z => absurd z c14) (fun _ => ?_)
      refine mx_S.pu (pc2 := 41) (lv2 := [(0, .ref l0), (2, .int l2), (3, .int l3), (4, .int l4)]) (st2 := [.ref l0]) hm dX13_stackFits_40 rfl ?_
      refine mx_S.pu (pc2 := 42) (lv2 := [(0, .ref l0), (2, .int l2), (3, .int l3), (4, .int l4)]) (st2 := [.ref l0, .ref l0]) hm dX13_stackFits_41 rfl ?_
      replace hf := mx_sv_el hf; obtain ⟨v3, e_v3, hf⟩ := hf
      refine sx_get hm dX13_stackFits_42 rs_RX13_273 (xgr_el e_v3) ?_
      clear e_v3
      refine mx_S.pu (pc2 := 47) (lv2 := [(0, .ref l0), (2, .int l2), (3, .int l3), (4, .int l4)]) (st2 := [.int l4, .ref v3, .ref l0]) hm dX13_stackFits_45 rfl ?_
      replace hf := mx_sv_el hf; obtain ⟨v4, e_v4, hf⟩ := hf
      refine sx_ald hm dX13_stackFits_47 e_v4 ?_
      clear e_v4
      refine mx_S.pu (pc2 := 49) (lv2 := [(0, .ref l0), (2, .int l2), (3, .int l3), (4, .int l4)]) (st2 := [.ref l0, .int v4, .ref l0]) hm dX13_stackFits_48 rfl ?_
      refine mx_S.pu (pc2 := 50) (lv2 := [(0, .ref l0), (2, .int l2), (3, .int l3), (4, .int l4)]) (st2 := [.int l2, .ref l0, .int v4, .ref l0]) hm dX13_stackFits_49 rfl ?_
      replace hf := mx_gd_el hf; obtain ⟨c5, hf⟩ := hf
      replace hf := mx_sv_el hf; obtain ⟨u6, e_u6, hf⟩ := hf
      refine sx_cv hm dX13_stackFits_50 rs_RX13_955 mt_X13_framed [.int l2] [.int v4, .ref l0] (b := l0) (ci := 13) rfl rfl rfl c5 (Nat.le_of_ble_eq_true rfl) (Nat.le_of_ble_eq_true rfl) (by omega) (by omega) (f_X13_framed_ok X (by omega) (by omega) nn l0 l2 h e_u6) ?_
      clear e_u6
      show mx_S X F L 551 53 [(0, .ref l0), (2, .int l2), (3, .int l3), (4, .int l4)] [.int u6.1, .int v4, .ref l0] u6.2 0 0 (some (.int r.1), r.2, 0, 0)
      replace hf := mx_gd_el hf; obtain ⟨c7, hf⟩ := hf
      replace hf := mx_sv_el hf; obtain ⟨u8, e_u8, hf⟩ := hf
      refine sx_cv hm dX13_stackFits_53 rs_RX13_958 mt_X13_goes [.int v4, .int u6.1] [] (b := l0) (ci := 13) rfl rfl rfl c7 (Nat.le_of_ble_eq_true rfl) (Nat.le_of_ble_eq_true rfl) (by omega) (by omega) (f_X13_goes_ok X (by omega) (by omega) nn l0 v4 u6.1 u6.2 e_u8) ?_
      clear e_u8
      show mx_S X F L 551 56 [(0, .ref l0), (2, .int l2), (3, .int l3), (4, .int l4)] [.int u8.1] u8.2 0 0 (some (.int r.1), r.2, 0, 0)
      rcases mx_if_el hf with ⟨c13, hf⟩ | ⟨c13, hf⟩
      · refine sb_if_ne hm dX13_stackFits_56 (tgt := 61) rfl (fun _ => ?_) (fun z => absurd c13 z)
        refine mx_S.pu (pc2 := 62) (lv2 := [(0, .ref l0), (2, .int l2), (3, .int l3), (4, .int l4)]) (st2 := [.int l2]) hm dX13_stackFits_61 rfl ?_
        refine mx_S.pu (pc2 := 63) (lv2 := [(0, .ref l0), (2, .int l2), (3, .int l3), (4, .int l4)]) (st2 := [.ref l0, .int l2]) hm dX13_stackFits_62 rfl ?_
        refine mx_S.pu (pc2 := 64) (lv2 := [(0, .ref l0), (2, .int l2), (3, .int l3), (4, .int l4)]) (st2 := [.ref l0, .ref l0, .int l2]) hm dX13_stackFits_63 rfl ?_
        replace hf := mx_sv_el hf; obtain ⟨v9, e_v9, hf⟩ := hf
        refine sx_get hm dX13_stackFits_64 rs_RX13_932 (xgi_el e_v9) ?_
        clear e_v9
        refine mx_S.pu (pc2 := 68) (lv2 := [(0, .ref l0), (2, .int l2), (3, .int l3), (4, .int l4)]) (st2 := [.int l2, .int v9, .ref l0, .int l2]) hm dX13_stackFits_67 rfl ?_
        replace hf := mx_gd_el hf; obtain ⟨c10, hf⟩ := hf
        replace hf := mx_sv_el hf; obtain ⟨u11, e_u11, hf⟩ := hf
        refine sx_cv hm dX13_stackFits_68 rs_RX13_864 mt_X13_byteAt [.int v9, .int l2] [.int l2] (b := l0) (ci := 13) rfl rfl rfl c10 (Nat.le_of_ble_eq_true rfl) (Nat.le_of_ble_eq_true rfl) (by omega) (by omega) (f_X13_byteAt_ok X (by omega) (by omega) nn l0 v9 l2 u8.2 e_u11) ?_
        clear e_u11
        show mx_S X F L 551 71 [(0, .ref l0), (2, .int l2), (3, .int l3), (4, .int l4)] [.int u11.1, .int l2] u11.2 0 0 (some (.int r.1), r.2, 0, 0)
        refine sx_ic (v := 3) hm dX13_stackFits_71 (by decide) ?_
        rcases mx_if_el hf with ⟨c12, hf⟩ | ⟨c12, hf⟩
        · refine sb_ic_ne hm dX13_stackFits_72 (tgt := 79) rfl (fun _ => ?_) (fun z => absurd c12 z)
          refine sx_ic (v := 1) hm dX13_stackFits_79 (by decide) ?_
          refine mx_S.ext [(0, .ref l0), (3, .int l3), (4, .int l4)] (mx_sub_pos [0, 2, 3] rfl (show ([0, 2, 3, 4] : List Nat).Nodup by decide)) ?_
          exact j_X13_stackFits_80_ok X hF hL nn ih l0 l3 l4 1 l2 u11.2 hf
        · refine sb_ic_ne hm dX13_stackFits_72 (tgt := 79) rfl (fun z => absurd z c12) (fun _ => ?_)
          refine sx_ic (v := 2) hm dX13_stackFits_75 (by decide) ?_
          refine mx_S.pu (pc2 := 80) (lv2 := [(0, .ref l0), (2, .int l2), (3, .int l3), (4, .int l4)]) (st2 := [.int 2, .int l2]) hm dX13_stackFits_76 rfl ?_
          refine mx_S.ext [(0, .ref l0), (3, .int l3), (4, .int l4)] (mx_sub_pos [0, 2, 3] rfl (show ([0, 2, 3, 4] : List Nat).Nodup by decide)) ?_
          exact j_X13_stackFits_80_ok X hF hL nn ih l0 l3 l4 2 l2 u11.2 hf
      · refine sb_if_ne hm dX13_stackFits_56 (tgt := 61) rfl (fun z => absurd z c13) (fun _ => ?_)
        refine sx_ic (v := 0) hm dX13_stackFits_59 (by decide) ?_
        cases hf
        exact sx_ire hm dX13_stackFits_60 rfl (by decide)
