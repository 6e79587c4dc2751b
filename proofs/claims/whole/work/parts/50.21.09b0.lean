set_option maxHeartbeats 4000000 in
set_option maxRecDepth 20000 in
theorem w_X1_writeTypes_3_ok (X : Nat × (Nat → Int32)) {F L : Nat} (hF : 2 ≤ F) (hL : 44 ≤ L) (nn : Nat) : ∀ (k : Nat) (l0 : Nat) (l1 : Nat) (l2 : Int32) (l3 : Int32) (l4 : Int32) (h : mx_H) (r : mx_H), w_X1_writeTypes_3 nn k l0 l1 l2 l3 l4 h = some r → mx_S X F L 45 3 [(0, .ref l0), (1, .ref l1), (2, .int l2), (3, .int l3), (4, .int l4)] [] h 0 0 (none, r, 0, 0) := by
  have hm : mx_mt 45 = some (yX1_writeTypes, cX1_writeTypes, 6, none) := mt_X1_writeTypes
  intro k
  induction k with
  | zero => intro l0 l1 l2 l3 l4 h r hf; cases hf
  | succ k ih =>
    intro l0 l1 l2 l3 l4 h r hf
    unfold w_X1_writeTypes_3 at hf
    refine mx_S.pu (pc2 := 5) (lv2 := [(0, .ref l0), (1, .ref l1), (2, .int l2), (3, .int l3), (4, .int l4)]) (st2 := [.int l4]) hm dX1_writeTypes_3 rfl ?_
    refine mx_S.pu (pc2 := 6) (lv2 := [(0, .ref l0), (1, .ref l1), (2, .int l2), (3, .int l3), (4, .int l4)]) (st2 := [.int l2, .int l4]) hm dX1_writeTypes_5 rfl ?_
    refine mx_S.pu (pc2 := 7) (lv2 := [(0, .ref l0), (1, .ref l1), (2, .int l2), (3, .int l3), (4, .int l4)]) (st2 := [.int l3, .int l2, .int l4]) hm dX1_writeTypes_6 rfl ?_
    replace hf := xl_el hf; obtain ⟨v1, e_v1, hf⟩ := hf
    refine mx_S.pu (pc2 := 8) (lv2 := [(0, .ref l0), (1, .ref l1), (2, .int l2), (3, .int l3), (4, .int l4)]) (st2 := [.int v1, .int l4]) hm dX1_writeTypes_7 (by rw [← e_v1]; rfl) ?_
    clear e_v1
    rcases mx_if_el hf with ⟨c23, hf⟩ | ⟨c23, hf⟩
    · refine sb_ic_ge hm dX1_writeTypes_8 (tgt := 83) rfl (fun _ => ?_) (fun z => absurd c23 z)
      cases hf
      exact sx_ret hm dX1_writeTypes_83 rfl
    · refine sb_ic_ge hm dX1_writeTypes_8 (tgt := 83) rfl (fun z => absurd z c23) (fun _ => ?_)
      refine mx_S.pu (pc2 := 13) (lv2 := [(0, .ref l0), (1, .ref l1), (2, .int l2), (3, .int l3), (4, .int l4)]) (st2 := [.int l4]) hm dX1_writeTypes_11 rfl ?_
      refine mx_S.pu (pc2 := 14) (lv2 := [(0, .ref l0), (1, .ref l1), (2, .int l2), (3, .int l3), (4, .int l4)]) (st2 := [.ref l0, .int l4]) hm dX1_writeTypes_13 rfl ?_
      replace hf := mx_sv_el hf; obtain ⟨v2, e_v2, hf⟩ := hf
      refine sx_get hm dX1_writeTypes_14 rs_RX1_33 (xgr_el e_v2) ?_
      clear e_v2
      replace hf := mx_sv_el hf; obtain ⟨v3, e_v3, hf⟩ := hf
      refine sx_len hm dX1_writeTypes_17 e_v3 ?_
      clear e_v3
      rcases mx_if_el hf with ⟨c22, hf⟩ | ⟨c22, hf⟩
      · refine sb_ic_ge hm dX1_writeTypes_18 (tgt := 83) rfl (fun _ => ?_) (fun z => absurd c22 z)
        cases hf
        exact sx_ret hm dX1_writeTypes_83 rfl
      · refine sb_ic_ge hm dX1_writeTypes_18 (tgt := 83) rfl (fun z => absurd z c22) (fun _ => ?_)
        refine mx_S.pu (pc2 := 22) (lv2 := [(0, .ref l0), (1, .ref l1), (2, .int l2), (3, .int l3), (4, .int l4)]) (st2 := [.ref l0]) hm dX1_writeTypes_21 rfl ?_
        replace hf := mx_sv_el hf; obtain ⟨v4, e_v4, hf⟩ := hf
        refine sx_get hm dX1_writeTypes_22 rs_RX1_33 (xgr_el e_v4) ?_
        clear e_v4
        refine mx_S.pu (pc2 := 27) (lv2 := [(0, .ref l0), (1, .ref l1), (2, .int l2), (3, .int l3), (4, .int l4)]) (st2 := [.int l4, .ref v4]) hm dX1_writeTypes_25 rfl ?_
        replace hf := mx_sv_el hf; obtain ⟨v5, e_v5, hf⟩ := hf
        refine sx_ald hm dX1_writeTypes_27 e_v5 ?_
        clear e_v5
        refine mx_S.pu (pc2 := 30) (lv2 := [(5, .int v5), (0, .ref l0), (1, .ref l1), (2, .int l2), (3, .int l3), (4, .int l4)]) (st2 := []) hm dX1_writeTypes_28 rfl ?_
        refine mx_S.pu (pc2 := 32) (lv2 := [(5, .int v5), (0, .ref l0), (1, .ref l1), (2, .int l2), (3, .int l3), (4, .int l4)]) (st2 := [.int v5]) hm dX1_writeTypes_30 rfl ?_
        replace hf := mx_sv_el hf; obtain ⟨u6, e_u6, hf⟩ := hf
        refine sx_cs hm dX1_writeTypes_32 rs_RX1_80 mt_X4_isNumber [.int v5] [] rfl rfl (Nat.le_of_ble_eq_true rfl) (Nat.le_of_ble_eq_true rfl) (by omega) (by omega) (f_X4_isNumber_ok X (by omega) (by omega) nn v5 h e_u6) ?_
        clear e_u6
        show mx_S X F L 45 35 [(5, .int v5), (0, .ref l0), (1, .ref l1), (2, .int l2), (3, .int l3), (4, .int l4)] [.int u6.1] u6.2 0 0 (none, r, 0, 0)
        rcases mx_if_el hf with ⟨c21, hf⟩ | ⟨c21, hf⟩
        · refine sb_if_eq hm dX1_writeTypes_35 (tgt := 46) rfl (fun _ => ?_) (fun z => absurd c21 z)
          refine mx_S.pu (pc2 := 48) (lv2 := [(5, .int v5), (0, .ref l0), (1, .ref l1), (2, .int l2), (3, .int l3), (4, .int l4)]) (st2 := [.int v5]) hm dX1_writeTypes_46 rfl ?_
          refine sx_si (v := 300) hm dX1_writeTypes_48 (by decide) ?_
          rcases mx_if_el hf with ⟨c17, hf⟩ | ⟨c17, hf⟩
          · refine sb_ic_ne hm dX1_writeTypes_51 (tgt := 62) rfl (fun _ => ?_) (fun z => absurd c17 z)
            refine mx_S.pu (pc2 := 63) (lv2 := [(5, .int v5), (0, .ref l0), (1, .ref l1), (2, .int l2), (3, .int l3), (4, .int l4)]) (st2 := [.ref l1]) hm dX1_writeTypes_62 rfl ?_
            refine sx_ic (v := 3) hm dX1_writeTypes_63 (by decide) ?_
            replace hf := mx_gd_el hf; obtain ⟨c7, hf⟩ := hf
            replace hf := mx_sv_el hf; obtain ⟨u8, e_u8, hf⟩ := hf
            refine sx_cv hm dX1_writeTypes_64 rs_RX1_116 mt_X6_put [.int 3] [] (b := l1) (ci := 6) rfl rfl rfl c7 (Nat.le_of_ble_eq_true rfl) (Nat.le_of_ble_eq_true rfl) (by omega) (by omega) (f_X6_put_ok X (by omega) (by omega) nn l1 3 u6.2 e_u8) ?_
            clear e_u8
            show mx_S X F L 45 67 [(5, .int v5), (0, .ref l0), (1, .ref l1), (2, .int l2), (3, .int l3), (4, .int l4)] [] u8 0 0 (none, r, 0, 0)
            refine mx_S.pu (pc2 := 68) (lv2 := [(5, .int v5), (0, .ref l0), (1, .ref l1), (2, .int l2), (3, .int l3), (4, .int l4)]) (st2 := [.ref l1]) hm dX1_writeTypes_67 rfl ?_
            refine mx_S.pu (pc2 := 69) (lv2 := [(5, .int v5), (0, .ref l0), (1, .ref l1), (2, .int l2), (3, .int l3), (4, .int l4)]) (st2 := [.ref l1, .ref l1]) hm dX1_writeTypes_68 rfl ?_
            refine mx_S.pu (pc2 := 71) (lv2 := [(5, .int v5), (0, .ref l0), (1, .ref l1), (2, .int l2), (3, .int l3), (4, .int l4)]) (st2 := [.int v5, .ref l1, .ref l1]) hm dX1_writeTypes_69 rfl ?_
            replace hf := mx_gd_el hf; obtain ⟨c9, hf⟩ := hf
            replace hf := mx_sv_el hf; obtain ⟨u10, e_u10, hf⟩ := hf
            refine sx_cv hm dX1_writeTypes_71 rs_RX1_124 mt_X6_classOf [.int v5] [.ref l1] (b := l1) (ci := 6) rfl rfl rfl c9 (Nat.le_of_ble_eq_true rfl) (Nat.le_of_ble_eq_true rfl) (by omega) (by omega) (f_X6_classOf_ok X (by omega) (by omega) nn l1 v5 u8 e_u10) ?_
            clear e_u10
            show mx_S X F L 45 74 [(5, .int v5), (0, .ref l0), (1, .ref l1), (2, .int l2), (3, .int l3), (4, .int l4)] [.int u10.1, .ref l1] u10.2 0 0 (none, r, 0, 0)
            replace hf := mx_gd_el hf; obtain ⟨c11, hf⟩ := hf
            replace hf := mx_sv_el hf; obtain ⟨u12, e_u12, hf⟩ := hf
            refine sx_cv hm dX1_writeTypes_74 rs_RX1_116 mt_X6_put [.int u10.1] [] (b := l1) (ci := 6) rfl rfl rfl c11 (Nat.le_of_ble_eq_true rfl) (Nat.le_of_ble_eq_true rfl) (by omega) (by omega) (f_X6_put_ok X (by omega) (by omega) nn l1 u10.1 u10.2 e_u12) ?_
            clear e_u12
            show mx_S X F L 45 77 [(5, .int v5), (0, .ref l0), (1, .ref l1), (2, .int l2), (3, .int l3), (4, .int l4)] [] u12 0 0 (none, r, 0, 0)
            replace hf := xl_el hf; obtain ⟨v13, e_v13, hf⟩ := hf
            refine mx_S.pu (pc2 := 80) (lv2 := [(4, .int v13), (5, .int v5), (0, .ref l0), (1, .ref l1), (2, .int l2), (3, .int l3)]) (st2 := []) hm dX1_writeTypes_77 (by rw [← e_v13]; rfl) ?_
            clear e_v13
            refine mx_S.pu (pc2 := 3) (lv2 := [(4, .int v13), (5, .int v5), (0, .ref l0), (1, .ref l1), (2, .int l2), (3, .int l3)]) (st2 := []) hm dX1_writeTypes_80 rfl ?_
            refine mx_S.ext [(0, .ref l0), (1, .ref l1), (2, .int l2), (3, .int l3), (4, .int v13)] (mx_sub_pos [2, 3, 4, 5, 0] rfl (show ([4, 5, 0, 1, 2, 3] : List Nat).Nodup by decide)) ?_
            exact ih l0 l1 l2 l3 v13 u12 _ hf
          · refine sb_ic_ne hm dX1_writeTypes_51 (tgt := 62) rfl (fun z => absurd z c17) (fun _ => ?_)
            refine mx_S.pu (pc2 := 55) (lv2 := [(5, .int v5), (0, .ref l0), (1, .ref l1), (2, .int l2), (3, .int l3), (4, .int l4)]) (st2 := [.ref l1]) hm dX1_writeTypes_54 rfl ?_
            refine sx_ic (v := 2) hm dX1_writeTypes_55 (by decide) ?_
            replace hf := mx_gd_el hf; obtain ⟨c14, hf⟩ := hf
            replace hf := mx_sv_el hf; obtain ⟨u15, e_u15, hf⟩ := hf
            refine sx_cv hm dX1_writeTypes_56 rs_RX1_116 mt_X6_put [.int 2] [] (b := l1) (ci := 6) rfl rfl rfl c14 (Nat.le_of_ble_eq_true rfl) (Nat.le_of_ble_eq_true rfl) (by omega) (by omega) (f_X6_put_ok X (by omega) (by omega) nn l1 2 u6.2 e_u15) ?_
            clear e_u15
            show mx_S X F L 45 59 [(5, .int v5), (0, .ref l0), (1, .ref l1), (2, .int l2), (3, .int l3), (4, .int l4)] [] u15 0 0 (none, r, 0, 0)
            refine mx_S.pu (pc2 := 77) (lv2 := [(5, .int v5), (0, .ref l0), (1, .ref l1), (2, .int l2), (3, .int l3), (4, .int l4)]) (st2 := []) hm dX1_writeTypes_59 rfl ?_
            replace hf := xl_el hf; obtain ⟨v16, e_v16, hf⟩ := hf
            refine mx_S.pu (pc2 := 80) (lv2 := [(4, .int v16), (5, .int v5), (0, .ref l0), (1, .ref l1), (2, .int l2), (3, .int l3)]) (st2 := []) hm dX1_writeTypes_77 (by rw [← e_v16]; rfl) ?_
            clear e_v16
            refine mx_S.pu (pc2 := 3) (lv2 := [(4, .int v16), (5, .int v5), (0, .ref l0), (1, .ref l1), (2, .int l2), (3, .int l3)]) (st2 := []) hm dX1_writeTypes_80 rfl ?_
            refine mx_S.ext [(0, .ref l0), (1, .ref l1), (2, .int l2), (3, .int l3), (4, .int v16)] (mx_sub_pos [2, 3, 4, 5, 0] rfl (show ([4, 5, 0, 1, 2, 3] : List Nat).Nodup by decide)) ?_
            exact ih l0 l1 l2 l3 v16 u15 _ hf
        · refine sb_if_eq hm dX1_writeTypes_35 (tgt := 46) rfl (fun z => absurd z c21) (fun _ => ?_)
          refine mx_S.pu (pc2 := 39) (lv2 := [(5, .int v5), (0, .ref l0), (1, .ref l1), (2, .int l2), (3, .int l3), (4, .int l4)]) (st2 := [.ref l1]) hm dX1_writeTypes_38 rfl ?_
          refine sx_ic (v := 1) hm dX1_writeTypes_39 (by decide) ?_
          replace hf := mx_gd_el hf; obtain ⟨c18, hf⟩ := hf
          replace hf := mx_sv_el hf; obtain ⟨u19, e_u19, hf⟩ := hf
          refine sx_cv hm dX1_writeTypes_40 rs_RX1_116 mt_X6_put [.int 1] [] (b := l1) (ci := 6) rfl rfl rfl c18 (Nat.le_of_ble_eq_true rfl) (Nat.le_of_ble_eq_true rfl) (by omega) (by omega) (f_X6_put_ok X (by omega) (by omega) nn l1 1 u6.2 e_u19) ?_
          clear e_u19
          show mx_S X F L 45 43 [(5, .int v5), (0, .ref l0), (1, .ref l1), (2, .int l2), (3, .int l3), (4, .int l4)] [] u19 0 0 (none, r, 0, 0)
          refine mx_S.pu (pc2 := 77) (lv2 := [(5, .int v5), (0, .ref l0), (1, .ref l1), (2, .int l2), (3, .int l3), (4, .int l4)]) (st2 := []) hm dX1_writeTypes_43 rfl ?_
          replace hf := xl_el hf; obtain ⟨v20, e_v20, hf⟩ := hf
          refine mx_S.pu (pc2 := 80) (lv2 := [(4, .int v20), (5, .int v5), (0, .ref l0), (1, .ref l1), (2, .int l2), (3, .int l3)]) (st2 := []) hm dX1_writeTypes_77 (by rw [← e_v20]; rfl) ?_
          clear e_v20
          refine mx_S.pu (pc2 := 3) (lv2 := [(4, .int v20), (5, .int v5), (0, .ref l0), (1, .ref l1), (2, .int l2), (3, .int l3)]) (st2 := []) hm dX1_writeTypes_80 rfl ?_
          refine mx_S.ext [(0, .ref l0), (1, .ref l1), (2, .int l2), (3, .int l3), (4, .int v20)] (mx_sub_pos [2, 3, 4, 5, 0] rfl (show ([4, 5, 0, 1, 2, 3] : List Nat).Nodup by decide)) ?_
          exact ih l0 l1 l2 l3 v20 u19 _ hf
set_option maxHeartbeats 4000000 in
set_option maxRecDepth 20000 in
theorem f_X1_writeTypes_ok (X : Nat × (Nat → Int32)) {F L : Nat} (hF : 2 ≤ F) (hL : 44 ≤ L) (nn : Nat) (a0 : Nat) (a1 : Nat) (a2 : Int32) (a3 : Int32) (h : mx_H) {r : mx_H} (hf : f_X1_writeTypes nn a0 a1 a2 a3 h = some r) : mx_R X F L 45 [.ref a0, .ref a1, .int a2, .int a3] h (none, r, 0, 0) := by
  have hm : mx_mt 45 = some (yX1_writeTypes, cX1_writeTypes, 6, none) := mt_X1_writeTypes
  show mx_S X F L 45 0 [(0, .ref a0), (1, .ref a1), (2, .int a2), (3, .int a3)] [] h 0 0 (none, r, 0, 0)
  unfold f_X1_writeTypes at hf
  refine mx_S.pu (pc2 := 1) (lv2 := [(0, .ref a0), (1, .ref a1), (2, .int a2), (3, .int a3)]) (st2 := [.int a2]) hm dX1_writeTypes_0 rfl ?_
  refine mx_S.pu (pc2 := 3) (lv2 := [(4, .int a2), (0, .ref a0), (1, .ref a1), (2, .int a2), (3, .int a3)]) (st2 := []) hm dX1_writeTypes_1 rfl ?_
  refine mx_S.ext [(0, .ref a0), (1, .ref a1), (2, .int a2), (3, .int a3), (4, .int a2)] (mx_sub_pos [1, 2, 3, 4, 0] rfl (show ([4, 0, 1, 2, 3] : List Nat).Nodup by decide)) ?_
  exact w_X1_writeTypes_3_ok X hF hL nn nn a0 a1 a2 a3 a2 h _ hf
set_option maxHeartbeats 4000000 in
set_option maxRecDepth 20000 in
theorem f_X6_putPair_ok (X : Nat × (Nat → Int32)) {F L : Nat} (hF : 1 ≤ F) (hL : 21 ≤ L) (nn : Nat) (a0 : Nat) (a1 : Int32) (h : mx_H) {r : mx_H} (hf : f_X6_putPair nn a0 a1 h = some r) : mx_R X F L 185 [.ref a0, .int a1] h (none, r, 0, 0) := by
  have hm : mx_mt 185 = some (yX6_putPair, cX6_putPair, 2, none) := mt_X6_putPair
  show mx_S X F L 185 0 [(0, .ref a0), (1, .int a1)] [] h 0 0 (none, r, 0, 0)
  unfold f_X6_putPair at hf
  refine mx_S.pu (pc2 := 1) (lv2 := [(0, .ref a0), (1, .int a1)]) (st2 := [.ref a0]) hm dX6_putPair_0 rfl ?_
  refine mx_S.pu (pc2 := 2) (lv2 := [(0, .ref a0), (1, .int a1)]) (st2 := [.int a1, .ref a0]) hm dX6_putPair_1 rfl ?_
  refine sx_bi (v := 8) hm dX6_putPair_2 (by decide) ?_
  replace hf := xl_el hf; obtain ⟨v1, e_v1, hf⟩ := hf
  refine mx_S.pu (pc2 := 5) (lv2 := [(0, .ref a0), (1, .int a1)]) (st2 := [.int v1, .ref a0]) hm dX6_putPair_4 (by rw [← e_v1]; rfl) ?_
  clear e_v1
  replace hf := mx_gd_el hf; obtain ⟨c2, hf⟩ := hf
  replace hf := mx_sv_el hf; obtain ⟨u3, e_u3, hf⟩ := hf
  refine sx_cv hm dX6_putPair_5 rs_RX6_45 mt_X6_put [.int v1] [] (b := a0) (ci := 6) rfl rfl rfl c2 (Nat.le_of_ble_eq_true rfl) (Nat.le_of_ble_eq_true rfl) (by omega) (by omega) (f_X6_put_ok X (by omega) (by omega) nn a0 v1 h e_u3) ?_
  clear e_u3
  show mx_S X F L 185 8 [(0, .ref a0), (1, .int a1)] [] u3 0 0 (none, r, 0, 0)
  refine mx_S.pu (pc2 := 9) (lv2 := [(0, .ref a0), (1, .int a1)]) (st2 := [.ref a0]) hm dX6_putPair_8 rfl ?_
  refine mx_S.pu (pc2 := 10) (lv2 := [(0, .ref a0), (1, .int a1)]) (st2 := [.int a1, .ref a0]) hm dX6_putPair_9 rfl ?_
  replace hf := mx_gd_el hf; obtain ⟨c4, hf⟩ := hf
  replace hf := mx_sv_el hf; obtain ⟨u5, e_u5, hf⟩ := hf
  refine sx_cv hm dX6_putPair_10 rs_RX6_45 mt_X6_put [.int a1] [] (b := a0) (ci := 6) rfl rfl rfl c4 (Nat.le_of_ble_eq_true rfl) (Nat.le_of_ble_eq_true rfl) (by omega) (by omega) (f_X6_put_ok X (by omega) (by omega) nn a0 a1 u3 e_u5) ?_
  clear e_u5
  show mx_S X F L 185 13 [(0, .ref a0), (1, .int a1)] [] u5 0 0 (none, r, 0, 0)
  cases hf
  exact sx_ret hm dX6_putPair_13 rfl
set_option maxHeartbeats 4000000 in
set_option maxRecDepth 20000 in
theorem f_X1_writeFrame_ok (X : Nat × (Nat → Int32)) {F L : Nat} (hF : 3 ≤ F) (hL : 69 ≤ L) (nn : Nat) (a0 : Nat) (a1 : Nat) (a2 : Int32) (h : mx_H) {r : mx_H} (hf : f_X1_writeFrame nn a0 a1 a2 h = some r) : mx_R X F L 44 [.ref a0, .ref a1, .int a2] h (none, r, 0, 0) := by
  have hm : mx_mt 44 = some (yX1_writeFrame, cX1_writeFrame, 6, none) := mt_X1_writeFrame
  show mx_S X F L 44 0 [(0, .ref a0), (1, .ref a1), (2, .int a2)] [] h 0 0 (none, r, 0, 0)
  unfold f_X1_writeFrame at hf
  refine mx_S.pu (pc2 := 1) (lv2 := [(0, .ref a0), (1, .ref a1), (2, .int a2)]) (st2 := [.int a2]) hm dX1_writeFrame_0 rfl ?_
  refine sx_bi (v := 52) hm dX1_writeFrame_1 (by decide) ?_
  replace hf := xl_el hf; obtain ⟨v1, e_v1, hf⟩ := hf
  refine mx_S.pu (pc2 := 4) (lv2 := [(0, .ref a0), (1, .ref a1), (2, .int a2)]) (st2 := [.int v1]) hm dX1_writeFrame_3 (by rw [← e_v1]; rfl) ?_
  clear e_v1
  refine mx_S.pu (pc2 := 5) (lv2 := [(3, .int v1), (0, .ref a0), (1, .ref a1), (2, .int a2)]) (st2 := []) hm dX1_writeFrame_4 rfl ?_
  refine mx_S.pu (pc2 := 6) (lv2 := [(3, .int v1), (0, .ref a0), (1, .ref a1), (2, .int a2)]) (st2 := [.ref a0]) hm dX1_writeFrame_5 rfl ?_
  replace hf := mx_sv_el hf; obtain ⟨v2, e_v2, hf⟩ := hf
  refine sx_get hm dX1_writeFrame_6 rs_RX1_33 (xgr_el e_v2) ?_
  clear e_v2
  refine mx_S.pu (pc2 := 10) (lv2 := [(3, .int v1), (0, .ref a0), (1, .ref a1), (2, .int a2)]) (st2 := [.int v1, .ref v2]) hm dX1_writeFrame_9 rfl ?_
  replace hf := mx_sv_el hf; obtain ⟨v3, e_v3, hf⟩ := hf
  refine sx_ald hm dX1_writeFrame_10 e_v3 ?_
  clear e_v3
  refine mx_S.pu (pc2 := 13) (lv2 := [(4, .int v3), (3, .int v1), (0, .ref a0), (1, .ref a1), (2, .int a2)]) (st2 := []) hm dX1_writeFrame_11 rfl ?_
  refine mx_S.pu (pc2 := 14) (lv2 := [(4, .int v3), (3, .int v1), (0, .ref a0), (1, .ref a1), (2, .int a2)]) (st2 := [.ref a0]) hm dX1_writeFrame_13 rfl ?_
  replace hf := mx_sv_el hf; obtain ⟨v4, e_v4, hf⟩ := hf
  refine sx_get hm dX1_writeFrame_14 rs_RX1_33 (xgr_el e_v4) ?_
  clear e_v4
  refine mx_S.pu (pc2 := 18) (lv2 := [(4, .int v3), (3, .int v1), (0, .ref a0), (1, .ref a1), (2, .int a2)]) (st2 := [.int v1, .ref v4]) hm dX1_writeFrame_17 rfl ?_
  refine sx_ic (v := 1) hm dX1_writeFrame_18 (by decide) ?_
  replace hf := xl_el hf; obtain ⟨v5, e_v5, hf⟩ := hf
  refine mx_S.pu (pc2 := 20) (lv2 := [(4, .int v3), (3, .int v1), (0, .ref a0), (1, .ref a1), (2, .int a2)]) (st2 := [.int v5, .ref v4]) hm dX1_writeFrame_19 (by rw [← e_v5]; rfl) ?_
  clear e_v5
  replace hf := mx_sv_el hf; obtain ⟨v6, e_v6, hf⟩ := hf
  refine sx_ald hm dX1_writeFrame_20 e_v6 ?_
  clear e_v6
  refine mx_S.pu (pc2 := 23) (lv2 := [(5, .int v6), (4, .int v3), (3, .int v1), (0, .ref a0), (1, .ref a1), (2, .int a2)]) (st2 := []) hm dX1_writeFrame_21 rfl ?_
  refine mx_S.pu (pc2 := 24) (lv2 := [(5, .int v6), (4, .int v3), (3, .int v1), (0, .ref a0), (1, .ref a1), (2, .int a2)]) (st2 := [.ref a1]) hm dX1_writeFrame_23 rfl ?_
  refine mx_S.pu (pc2 := 25) (lv2 := [(5, .int v6), (4, .int v3), (3, .int v1), (0, .ref a0), (1, .ref a1), (2, .int a2)]) (st2 := [.ref a0, .ref a1]) hm dX1_writeFrame_24 rfl ?_
  replace hf := mx_sv_el hf; obtain ⟨v7, e_v7, hf⟩ := hf
  refine sx_get hm dX1_writeFrame_25 rs_RX1_30 (xgr_el e_v7) ?_
  clear e_v7
  refine mx_S.pu (pc2 := 29) (lv2 := [(5, .int v6), (4, .int v3), (3, .int v1), (0, .ref a0), (1, .ref a1), (2, .int a2)]) (st2 := [.int a2, .ref v7, .ref a1]) hm dX1_writeFrame_28 rfl ?_
  replace hf := mx_sv_el hf; obtain ⟨v8, e_v8, hf⟩ := hf
  refine sx_ald hm dX1_writeFrame_29 e_v8 ?_
  clear e_v8
  replace hf := mx_gd_el hf; obtain ⟨c9, hf⟩ := hf
  replace hf := mx_sv_el hf; obtain ⟨u10, e_u10, hf⟩ := hf
  refine sx_cv hm dX1_writeFrame_30 rs_RX1_121 mt_X6_putPair [.int v8] [] (b := a1) (ci := 6) rfl rfl rfl c9 (Nat.le_of_ble_eq_true rfl) (Nat.le_of_ble_eq_true rfl) (by omega) (by omega) (f_X6_putPair_ok X (by omega) (by omega) nn a1 v8 h e_u10) ?_
  clear e_u10
  show mx_S X F L 44 33 [(5, .int v6), (4, .int v3), (3, .int v1), (0, .ref a0), (1, .ref a1), (2, .int a2)] [] u10 0 0 (none, r, 0, 0)
  refine mx_S.pu (pc2 := 34) (lv2 := [(5, .int v6), (4, .int v3), (3, .int v1), (0, .ref a0), (1, .ref a1), (2, .int a2)]) (st2 := [.ref a1]) hm dX1_writeFrame_33 rfl ?_
  refine mx_S.pu (pc2 := 36) (lv2 := [(5, .int v6), (4, .int v3), (3, .int v1), (0, .ref a0), (1, .ref a1), (2, .int a2)]) (st2 := [.int v3, .ref a1]) hm dX1_writeFrame_34 rfl ?_
  replace hf := mx_gd_el hf; obtain ⟨c11, hf⟩ := hf
  replace hf := mx_sv_el hf; obtain ⟨u12, e_u12, hf⟩ := hf
  refine sx_cv hm dX1_writeFrame_36 rs_RX1_116 mt_X6_put [.int v3] [] (b := a1) (ci := 6) rfl rfl rfl c11 (Nat.le_of_ble_eq_true rfl) (Nat.le_of_ble_eq_true rfl) (by omega) (by omega) (f_X6_put_ok X (by omega) (by omega) nn a1 v3 u10 e_u12) ?_
  clear e_u12
  show mx_S X F L 44 39 [(5, .int v6), (4, .int v3), (3, .int v1), (0, .ref a0), (1, .ref a1), (2, .int a2)] [] u12 0 0 (none, r, 0, 0)
  refine mx_S.pu (pc2 := 40) (lv2 := [(5, .int v6), (4, .int v3), (3, .int v1), (0, .ref a0), (1, .ref a1), (2, .int a2)]) (st2 := [.ref a0]) hm dX1_writeFrame_39 rfl ?_
  refine mx_S.pu (pc2 := 41) (lv2 := [(5, .int v6), (4, .int v3), (3, .int v1), (0, .ref a0), (1, .ref a1), (2, .int a2)]) (st2 := [.ref a1, .ref a0]) hm dX1_writeFrame_40 rfl ?_
  refine mx_S.pu (pc2 := 42) (lv2 := [(5, .int v6), (4, .int v3), (3, .int v1), (0, .ref a0), (1, .ref a1), (2, .int a2)]) (st2 := [.int v1, .ref a1, .ref a0]) hm dX1_writeFrame_41 rfl ?_
  refine sx_ic (v := 2) hm dX1_writeFrame_42 (by decide) ?_
  replace hf := xl_el hf; obtain ⟨v13, e_v13, hf⟩ := hf
  refine mx_S.pu (pc2 := 44) (lv2 := [(5, .int v6), (4, .int v3), (3, .int v1), (0, .ref a0), (1, .ref a1), (2, .int a2)]) (st2 := [.int v13, .ref a1, .ref a0]) hm dX1_writeFrame_43 (by rw [← e_v13]; rfl) ?_
  clear e_v13
  refine mx_S.pu (pc2 := 46) (lv2 := [(5, .int v6), (4, .int v3), (3, .int v1), (0, .ref a0), (1, .ref a1), (2, .int a2)]) (st2 := [.int v3, .int v13, .ref a1, .ref a0]) hm dX1_writeFrame_44 rfl ?_
  replace hf := mx_gd_el hf; obtain ⟨c14, hf⟩ := hf
  replace hf := mx_sv_el hf; obtain ⟨u15, e_u15, hf⟩ := hf
  refine sx_cv hm dX1_writeFrame_46 rs_RX1_131 mt_X1_writeTypes [.ref a1, .int v13, .int v3] [] (b := a0) (ci := 1) rfl rfl rfl c14 (Nat.le_of_ble_eq_true rfl) (Nat.le_of_ble_eq_true rfl) (by omega) (by omega) (f_X1_writeTypes_ok X (by omega) (by omega) nn a0 a1 v13 v3 u12 e_u15) ?_
  clear e_u15
  show mx_S X F L 44 49 [(5, .int v6), (4, .int v3), (3, .int v1), (0, .ref a0), (1, .ref a1), (2, .int a2)] [] u15 0 0 (none, r, 0, 0)
  refine mx_S.pu (pc2 := 50) (lv2 := [(5, .int v6), (4, .int v3), (3, .int v1), (0, .ref a0), (1, .ref a1), (2, .int a2)]) (st2 := [.ref a1]) hm dX1_writeFrame_49 rfl ?_
  refine mx_S.pu (pc2 := 52) (lv2 := [(5, .int v6), (4, .int v3), (3, .int v1), (0, .ref a0), (1, .ref a1), (2, .int a2)]) (st2 := [.int v6, .ref a1]) hm dX1_writeFrame_50 rfl ?_
  replace hf := mx_gd_el hf; obtain ⟨c16, hf⟩ := hf
  replace hf := mx_sv_el hf; obtain ⟨u17, e_u17, hf⟩ := hf
  refine sx_cv hm dX1_writeFrame_52 rs_RX1_116 mt_X6_put [.int v6] [] (b := a1) (ci := 6) rfl rfl rfl c16 (Nat.le_of_ble_eq_true rfl) (Nat.le_of_ble_eq_true rfl) (by omega) (by omega) (f_X6_put_ok X (by omega) (by omega) nn a1 v6 u15 e_u17) ?_
  clear e_u17
  show mx_S X F L 44 55 [(5, .int v6), (4, .int v3), (3, .int v1), (0, .ref a0), (1, .ref a1), (2, .int a2)] [] u17 0 0 (none, r, 0, 0)
  refine mx_S.pu (pc2 := 56) (lv2 := [(5, .int v6), (4, .int v3), (3, .int v1), (0, .ref a0), (1, .ref a1), (2, .int a2)]) (st2 := [.ref a0]) hm dX1_writeFrame_55 rfl ?_
  refine mx_S.pu (pc2 := 57) (lv2 := [(5, .int v6), (4, .int v3), (3, .int v1), (0, .ref a0), (1, .ref a1), (2, .int a2)]) (st2 := [.ref a1, .ref a0]) hm dX1_writeFrame_56 rfl ?_
  refine mx_S.pu (pc2 := 58) (lv2 := [(5, .int v6), (4, .int v3), (3, .int v1), (0, .ref a0), (1, .ref a1), (2, .int a2)]) (st2 := [.int v1, .ref a1, .ref a0]) hm dX1_writeFrame_57 rfl ?_
  refine sx_ic (v := 2) hm dX1_writeFrame_58 (by decide) ?_
  replace hf := xl_el hf; obtain ⟨v18, e_v18, hf⟩ := hf
  refine mx_S.pu (pc2 := 60) (lv2 := [(5, .int v6), (4, .int v3), (3, .int v1), (0, .ref a0), (1, .ref a1), (2, .int a2)]) (st2 := [.int v18, .ref a1, .ref a0]) hm dX1_writeFrame_59 (by rw [← e_v18]; rfl) ?_
  clear e_v18
  refine mx_S.pu (pc2 := 62) (lv2 := [(5, .int v6), (4, .int v3), (3, .int v1), (0, .ref a0), (1, .ref a1), (2, .int a2)]) (st2 := [.int v3, .int v18, .ref a1, .ref a0]) hm dX1_writeFrame_60 rfl ?_
  replace hf := xl_el hf; obtain ⟨v19, e_v19, hf⟩ := hf
  refine mx_S.pu (pc2 := 63) (lv2 := [(5, .int v6), (4, .int v3), (3, .int v1), (0, .ref a0), (1, .ref a1), (2, .int a2)]) (st2 := [.int v19, .ref a1, .ref a0]) hm dX1_writeFrame_62 (by rw [← e_v19]; rfl) ?_
  clear e_v19
  refine mx_S.pu (pc2 := 65) (lv2 := [(5, .int v6), (4, .int v3), (3, .int v1), (0, .ref a0), (1, .ref a1), (2, .int a2)]) (st2 := [.int v6, .int v19, .ref a1, .ref a0]) hm dX1_writeFrame_63 rfl ?_
  replace hf := mx_gd_el hf; obtain ⟨c20, hf⟩ := hf
  replace hf := mx_sv_el hf; obtain ⟨u21, e_u21, hf⟩ := hf
  refine sx_cv hm dX1_writeFrame_65 rs_RX1_131 mt_X1_writeTypes [.ref a1, .int v19, .int v6] [] (b := a0) (ci := 1) rfl rfl rfl c20 (Nat.le_of_ble_eq_true rfl) (Nat.le_of_ble_eq_true rfl) (by omega) (by omega) (f_X1_writeTypes_ok X (by omega) (by omega) nn a0 a1 v19 v6 u17 e_u21) ?_
  clear e_u21
  show mx_S X F L 44 68 [(5, .int v6), (4, .int v3), (3, .int v1), (0, .ref a0), (1, .ref a1), (2, .int a2)] [] u21 0 0 (none, r, 0, 0)
  cases hf
  exact sx_ret hm dX1_writeFrame_68 rfl
set_option maxHeartbeats 4000000 in
set_option maxRecDepth 20000 in
theorem w_X1_writeTo_147_ok (X : Nat × (Nat → Int32)) {F L : Nat} (hF : 4 ≤ F) (hL : 94 ≤ L) (nn : Nat) : ∀ (k : Nat) (l0 : Nat) (l1 : Nat) (l2 : Int32) (h : mx_H) (r : mx_H), w_X1_writeTo_147 nn k l0 l1 l2 h = some r → mx_S X F L 43 147 [(0, .ref l0), (1, .ref l1), (2, .int l2)] [] h 0 0 (none, r, 0, 0) := by
  have hm : mx_mt 43 = some (yX1_writeTo, cX1_writeTo, 4, none) := mt_X1_writeTo
  intro k
  induction k with
  | zero => intro l0 l1 l2 h r hf; cases hf
  | succ k ih =>
    intro l0 l1 l2 h r hf
    unfold w_X1_writeTo_147 at hf
    refine mx_S.pu (pc2 := 148) (lv2 := [(0, .ref l0), (1, .ref l1), (2, .int l2)]) (st2 := [.int l2]) hm dX1_writeTo_147 rfl ?_
    refine mx_S.pu (pc2 := 149) (lv2 := [(0, .ref l0), (1, .ref l1), (2, .int l2)]) (st2 := [.ref l0, .int l2]) hm dX1_writeTo_148 rfl ?_
    replace hf := mx_sv_el hf; obtain ⟨v1, e_v1, hf⟩ := hf
    refine sx_get hm dX1_writeTo_149 rs_RX1_58 (xgi_el e_v1) ?_
    clear e_v1
    rcases mx_if_el hf with ⟨c7, hf⟩ | ⟨c7, hf⟩
    · refine sb_ic_ge hm dX1_writeTo_152 (tgt := 172) rfl (fun _ => ?_) (fun z => absurd c7 z)
      cases hf
      exact sx_ret hm dX1_writeTo_172 rfl
    · refine sb_ic_ge hm dX1_writeTo_152 (tgt := 172) rfl (fun z => absurd z c7) (fun _ => ?_)
      refine mx_S.pu (pc2 := 156) (lv2 := [(0, .ref l0), (1, .ref l1), (2, .int l2)]) (st2 := [.ref l0]) hm dX1_writeTo_155 rfl ?_
      refine mx_S.pu (pc2 := 157) (lv2 := [(0, .ref l0), (1, .ref l1), (2, .int l2)]) (st2 := [.ref l1, .ref l0]) hm dX1_writeTo_156 rfl ?_
      refine mx_S.pu (pc2 := 158) (lv2 := [(0, .ref l0), (1, .ref l1), (2, .int l2)]) (st2 := [.ref l0, .ref l1, .ref l0]) hm dX1_writeTo_157 rfl ?_
      replace hf := mx_sv_el hf; obtain ⟨v2, e_v2, hf⟩ := hf
      refine sx_get hm dX1_writeTo_158 rs_RX1_36 (xgr_el e_v2) ?_
      clear e_v2
      refine mx_S.pu (pc2 := 162) (lv2 := [(0, .ref l0), (1, .ref l1), (2, .int l2)]) (st2 := [.int l2, .ref v2, .ref l1, .ref l0]) hm dX1_writeTo_161 rfl ?_
      replace hf := mx_sv_el hf; obtain ⟨v3, e_v3, hf⟩ := hf
      refine sx_ald hm dX1_writeTo_162 e_v3 ?_
      clear e_v3
      replace hf := mx_gd_el hf; obtain ⟨c4, hf⟩ := hf
      replace hf := mx_sv_el hf; obtain ⟨u5, e_u5, hf⟩ := hf
      refine sx_cv hm dX1_writeTo_163 rs_RX1_127 mt_X1_writeFrame [.ref l1, .int v3] [] (b := l0) (ci := 1) rfl rfl rfl c4 (Nat.le_of_ble_eq_true rfl) (Nat.le_of_ble_eq_true rfl) (by omega) (by omega) (f_X1_writeFrame_ok X (by omega) (by omega) nn l0 l1 v3 h e_u5) ?_
      clear e_u5
      show mx_S X F L 43 166 [(0, .ref l0), (1, .ref l1), (2, .int l2)] [] u5 0 0 (none, r, 0, 0)
      replace hf := xl_el hf; obtain ⟨v6, e_v6, hf⟩ := hf
      refine mx_S.pu (pc2 := 169) (lv2 := [(2, .int v6), (0, .ref l0), (1, .ref l1)]) (st2 := []) hm dX1_writeTo_166 (by rw [← e_v6]; rfl) ?_
      clear e_v6
      refine mx_S.pu (pc2 := 147) (lv2 := [(2, .int v6), (0, .ref l0), (1, .ref l1)]) (st2 := []) hm dX1_writeTo_169 rfl ?_
      refine mx_S.ext [(0, .ref l0), (1, .ref l1), (2, .int v6)] (mx_sub_pos [1, 2, 0] rfl (show ([2, 0, 1] : List Nat).Nodup by decide)) ?_
      exact ih l0 l1 v6 u5 _ hf
set_option maxHeartbeats 4000000 in
set_option maxRecDepth 20000 in
theorem w_X1_writeTo_69_ok (X : Nat × (Nat → Int32)) {F L : Nat} (hF : 4 ≤ F) (hL : 94 ≤ L) (nn : Nat) : ∀ (k : Nat) (l0 : Nat) (l1 : Nat) (l2 : Int32) (h : mx_H) (r : mx_H), w_X1_writeTo_69 nn k l0 l1 l2 h = some r → mx_S X F L 43 69 [(0, .ref l0), (1, .ref l1), (2, .int l2)] [] h 0 0 (none, r, 0, 0) := by
  have hm : mx_mt 43 = some (yX1_writeTo, cX1_writeTo, 4, none) := mt_X1_writeTo
  intro k
  induction k with
  | zero => intro l0 l1 l2 h r hf; cases hf
  | succ k ih =>
    intro l0 l1 l2 h r hf
    unfold w_X1_writeTo_69 at hf
    refine mx_S.pu (pc2 := 70) (lv2 := [(0, .ref l0), (1, .ref l1), (2, .int l2)]) (st2 := [.int l2]) hm dX1_writeTo_69 rfl ?_
    refine mx_S.pu (pc2 := 71) (lv2 := [(0, .ref l0), (1, .ref l1), (2, .int l2)]) (st2 := [.ref l0, .int l2]) hm dX1_writeTo_70 rfl ?_
    replace hf := mx_sv_el hf; obtain ⟨v8, e_v8, hf⟩ := hf
    refine sx_get hm dX1_writeTo_71 rs_RX1_55 (xgi_el e_v8) ?_
    clear e_v8
    rcases mx_if_el hf with ⟨c35, hf⟩ | ⟨c35, hf⟩
    · refine sb_ic_ge hm dX1_writeTo_74 (tgt := 137) rfl (fun _ => ?_) (fun z => absurd c35 z)
      refine mx_S.pu (pc2 := 138) (lv2 := [(0, .ref l0), (1, .ref l1), (2, .int l2)]) (st2 := [.ref l1]) hm dX1_writeTo_137 rfl ?_
      refine mx_S.pu (pc2 := 139) (lv2 := [(0, .ref l0), (1, .ref l1), (2, .int l2)]) (st2 := [.ref l0, .ref l1]) hm dX1_writeTo_138 rfl ?_
      replace hf := mx_sv_el hf; obtain ⟨v9, e_v9, hf⟩ := hf
      refine sx_get hm dX1_writeTo_139 rs_RX1_58 (xgi_el e_v9) ?_
      clear e_v9
      replace hf := mx_gd_el hf; obtain ⟨c10, hf⟩ := hf
      replace hf := mx_sv_el hf; obtain ⟨u11, e_u11, hf⟩ := hf
      refine sx_cv hm dX1_writeTo_142 rs_RX1_116 mt_X6_put [.int v9] [] (b := l1) (ci := 6) rfl rfl rfl c10 (Nat.le_of_ble_eq_true rfl) (Nat.le_of_ble_eq_true rfl) (by omega) (by omega) (f_X6_put_ok X (by omega) (by omega) nn l1 v9 h e_u11) ?_
      clear e_u11
      show mx_S X F L 43 145 [(0, .ref l0), (1, .ref l1), (2, .int l2)] [] u11 0 0 (none, r, 0, 0)
      refine sx_ic (v := 0) hm dX1_writeTo_145 (by decide) ?_
      refine mx_S.pu (pc2 := 147) (lv2 := [(2, .int 0), (0, .ref l0), (1, .ref l1)]) (st2 := []) hm dX1_writeTo_146 rfl ?_
      refine mx_S.ext [(0, .ref l0), (1, .ref l1), (2, .int 0)] (mx_sub_pos [1, 2, 0] rfl (show ([2, 0, 1] : List Nat).Nodup by decide)) ?_
      exact w_X1_writeTo_147_ok X hF hL nn nn l0 l1 0 u11 _ hf
    · refine sb_ic_ge hm dX1_writeTo_74 (tgt := 137) rfl (fun z => absurd z c35) (fun _ => ?_)
      refine mx_S.pu (pc2 := 78) (lv2 := [(0, .ref l0), (1, .ref l1), (2, .int l2)]) (st2 := [.int l2]) hm dX1_writeTo_77 rfl ?_
      refine sx_ic (v := 4) hm dX1_writeTo_78 (by decide) ?_
      replace hf := xl_el hf; obtain ⟨v12, e_v12, hf⟩ := hf
      refine mx_S.pu (pc2 := 80) (lv2 := [(0, .ref l0), (1, .ref l1), (2, .int l2)]) (st2 := [.int v12]) hm dX1_writeTo_79 (by rw [← e_v12]; rfl) ?_
      clear e_v12
      refine mx_S.pu (pc2 := 81) (lv2 := [(3, .int v12), (0, .ref l0), (1, .ref l1), (2, .int l2)]) (st2 := []) hm dX1_writeTo_80 rfl ?_
      refine mx_S.pu (pc2 := 82) (lv2 := [(3, .int v12), (0, .ref l0), (1, .ref l1), (2, .int l2)]) (st2 := [.ref l1]) hm dX1_writeTo_81 rfl ?_
      refine mx_S.pu (pc2 := 83) (lv2 := [(3, .int v12), (0, .ref l0), (1, .ref l1), (2, .int l2)]) (st2 := [.ref l0, .ref l1]) hm dX1_writeTo_82 rfl ?_
      replace hf := mx_sv_el hf; obtain ⟨v13, e_v13, hf⟩ := hf
      refine sx_get hm dX1_writeTo_83 rs_RX1_27 (xgr_el e_v13) ?_
      clear e_v13
      refine mx_S.pu (pc2 := 87) (lv2 := [(3, .int v12), (0, .ref l0), (1, .ref l1), (2, .int l2)]) (st2 := [.int v12, .ref v13, .ref l1]) hm dX1_writeTo_86 rfl ?_
      replace hf := mx_sv_el hf; obtain ⟨v14, e_v14, hf⟩ := hf
      refine sx_ald hm dX1_writeTo_87 e_v14 ?_
      clear e_v14
      replace hf := mx_gd_el hf; obtain ⟨c15, hf⟩ := hf
      replace hf := mx_sv_el hf; obtain ⟨u16, e_u16, hf⟩ := hf
      refine sx_cv hm dX1_writeTo_88 rs_RX1_121 mt_X6_putPair [.int v14] [] (b := l1) (ci := 6) rfl rfl rfl c15 (Nat.le_of_ble_eq_true rfl) (Nat.le_of_ble_eq_true rfl) (by omega) (by omega) (f_X6_putPair_ok X (by omega) (by omega) nn l1 v14 h e_u16) ?_
      clear e_u16
      show mx_S X F L 43 91 [(3, .int v12), (0, .ref l0), (1, .ref l1), (2, .int l2)] [] u16 0 0 (none, r, 0, 0)
      refine mx_S.pu (pc2 := 92) (lv2 := [(3, .int v12), (0, .ref l0), (1, .ref l1), (2, .int l2)]) (st2 := [.ref l1]) hm dX1_writeTo_91 rfl ?_
      refine mx_S.pu (pc2 := 93) (lv2 := [(3, .int v12), (0, .ref l0), (1, .ref l1), (2, .int l2)]) (st2 := [.ref l0, .ref l1]) hm dX1_writeTo_92 rfl ?_
      replace hf := mx_sv_el hf; obtain ⟨v17, e_v17, hf⟩ := hf
      refine sx_get hm dX1_writeTo_93 rs_RX1_27 (xgr_el e_v17) ?_
      clear e_v17
      refine mx_S.pu (pc2 := 97) (lv2 := [(3, .int v12), (0, .ref l0), (1, .ref l1), (2, .int l2)]) (st2 := [.int v12, .ref v17, .ref l1]) hm dX1_writeTo_96 rfl ?_
      refine sx_ic (v := 1) hm dX1_writeTo_97 (by decide) ?_
      replace hf := xl_el hf; obtain ⟨v18, e_v18, hf⟩ := hf
      refine mx_S.pu (pc2 := 99) (lv2 := [(3, .int v12), (0, .ref l0), (1, .ref l1), (2, .int l2)]) (st2 := [.int v18, .ref v17, .ref l1]) hm dX1_writeTo_98 (by rw [← e_v18]; rfl) ?_
      clear e_v18
      replace hf := mx_sv_el hf; obtain ⟨v19, e_v19, hf⟩ := hf
      refine sx_ald hm dX1_writeTo_99 e_v19 ?_
      clear e_v19
      replace hf := mx_gd_el hf; obtain ⟨c20, hf⟩ := hf
      replace hf := mx_sv_el hf; obtain ⟨u21, e_u21, hf⟩ := hf
      refine sx_cv hm dX1_writeTo_100 rs_RX1_121 mt_X6_putPair [.int v19] [] (b := l1) (ci := 6) rfl rfl rfl c20 (Nat.le_of_ble_eq_true rfl) (Nat.le_of_ble_eq_true rfl) (by omega) (by omega) (f_X6_putPair_ok X (by omega) (by omega) nn l1 v19 u16 e_u21) ?_
      clear e_u21
      show mx_S X F L 43 103 [(3, .int v12), (0, .ref l0), (1, .ref l1), (2, .int l2)] [] u21 0 0 (none, r, 0, 0)
      refine mx_S.pu (pc2 := 104) (lv2 := [(3, .int v12), (0, .ref l0), (1, .ref l1), (2, .int l2)]) (st2 := [.ref l1]) hm dX1_writeTo_103 rfl ?_
      refine mx_S.pu (pc2 := 105) (lv2 := [(3, .int v12), (0, .ref l0), (1, .ref l1), (2, .int l2)]) (st2 := [.ref l0, .ref l1]) hm dX1_writeTo_104 rfl ?_
      replace hf := mx_sv_el hf; obtain ⟨v22, e_v22, hf⟩ := hf
      refine sx_get hm dX1_writeTo_105 rs_RX1_27 (xgr_el e_v22) ?_
      clear e_v22
      refine mx_S.pu (pc2 := 109) (lv2 := [(3, .int v12), (0, .ref l0), (1, .ref l1), (2, .int l2)]) (st2 := [.int v12, .ref v22, .ref l1]) hm dX1_writeTo_108 rfl ?_
      refine sx_ic (v := 2) hm dX1_writeTo_109 (by decide) ?_
      replace hf := xl_el hf; obtain ⟨v23, e_v23, hf⟩ := hf
      refine mx_S.pu (pc2 := 111) (lv2 := [(3, .int v12), (0, .ref l0), (1, .ref l1), (2, .int l2)]) (st2 := [.int v23, .ref v22, .ref l1]) hm dX1_writeTo_110 (by rw [← e_v23]; rfl) ?_
      clear e_v23
      replace hf := mx_sv_el hf; obtain ⟨v24, e_v24, hf⟩ := hf
      refine sx_ald hm dX1_writeTo_111 e_v24 ?_
      clear e_v24
      replace hf := mx_gd_el hf; obtain ⟨c25, hf⟩ := hf
      replace hf := mx_sv_el hf; obtain ⟨u26, e_u26, hf⟩ := hf
      refine sx_cv hm dX1_writeTo_112 rs_RX1_121 mt_X6_putPair [.int v24] [] (b := l1) (ci := 6) rfl rfl rfl c25 (Nat.le_of_ble_eq_true rfl) (Nat.le_of_ble_eq_true rfl) (by omega) (by omega) (f_X6_putPair_ok X (by omega) (by omega) nn l1 v24 u21 e_u26) ?_
      clear e_u26
      show mx_S X F L 43 115 [(3, .int v12), (0, .ref l0), (1, .ref l1), (2, .int l2)] [] u26 0 0 (none, r, 0, 0)
      refine mx_S.pu (pc2 := 116) (lv2 := [(3, .int v12), (0, .ref l0), (1, .ref l1), (2, .int l2)]) (st2 := [.ref l1]) hm dX1_writeTo_115 rfl ?_
      refine mx_S.pu (pc2 := 117) (lv2 := [(3, .int v12), (0, .ref l0), (1, .ref l1), (2, .int l2)]) (st2 := [.ref l1, .ref l1]) hm dX1_writeTo_116 rfl ?_
      refine mx_S.pu (pc2 := 118) (lv2 := [(3, .int v12), (0, .ref l0), (1, .ref l1), (2, .int l2)]) (st2 := [.ref l0, .ref l1, .ref l1]) hm dX1_writeTo_117 rfl ?_
      replace hf := mx_sv_el hf; obtain ⟨v27, e_v27, hf⟩ := hf
      refine sx_get hm dX1_writeTo_118 rs_RX1_27 (xgr_el e_v27) ?_
      clear e_v27
      refine mx_S.pu (pc2 := 122) (lv2 := [(3, .int v12), (0, .ref l0), (1, .ref l1), (2, .int l2)]) (st2 := [.int v12, .ref v27, .ref l1, .ref l1]) hm dX1_writeTo_121 rfl ?_
      refine sx_ic (v := 3) hm dX1_writeTo_122 (by decide) ?_
      replace hf := xl_el hf; obtain ⟨v28, e_v28, hf⟩ := hf
      refine mx_S.pu (pc2 := 124) (lv2 := [(3, .int v12), (0, .ref l0), (1, .ref l1), (2, .int l2)]) (st2 := [.int v28, .ref v27, .ref l1, .ref l1]) hm dX1_writeTo_123 (by rw [← e_v28]; rfl) ?_
      clear e_v28
      replace hf := mx_sv_el hf; obtain ⟨v29, e_v29, hf⟩ := hf
      refine sx_ald hm dX1_writeTo_124 e_v29 ?_
      clear e_v29
      replace hf := mx_gd_el hf; obtain ⟨c30, hf⟩ := hf
      replace hf := mx_sv_el hf; obtain ⟨u31, e_u31, hf⟩ := hf
      refine sx_cv hm dX1_writeTo_125 rs_RX1_124 mt_X6_classOf [.int v29] [.ref l1] (b := l1) (ci := 6) rfl rfl rfl c30 (Nat.le_of_ble_eq_true rfl) (Nat.le_of_ble_eq_true rfl) (by omega) (by omega) (f_X6_classOf_ok X (by omega) (by omega) nn l1 v29 u26 e_u31) ?_
      clear e_u31
      show mx_S X F L 43 128 [(3, .int v12), (0, .ref l0), (1, .ref l1), (2, .int l2)] [.int u31.1, .ref l1] u31.2 0 0 (none, r, 0, 0)
      replace hf := mx_gd_el hf; obtain ⟨c32, hf⟩ := hf
      replace hf := mx_sv_el hf; obtain ⟨u33, e_u33, hf⟩ := hf
      refine sx_cv hm dX1_writeTo_128 rs_RX1_116 mt_X6_put [.int u31.1] [] (b := l1) (ci := 6) rfl rfl rfl c32 (Nat.le_of_ble_eq_true rfl) (Nat.le_of_ble_eq_true rfl) (by omega) (by omega) (f_X6_put_ok X (by omega) (by omega) nn l1 u31.1 u31.2 e_u33) ?_
      clear e_u33
      show mx_S X F L 43 131 [(3, .int v12), (0, .ref l0), (1, .ref l1), (2, .int l2)] [] u33 0 0 (none, r, 0, 0)
      replace hf := xl_el hf; obtain ⟨v34, e_v34, hf⟩ := hf
      refine mx_S.pu (pc2 := 134) (lv2 := [(2, .int v34), (3, .int v12), (0, .ref l0), (1, .ref l1)]) (st2 := []) hm dX1_writeTo_131 (by rw [← e_v34]; rfl) ?_
      clear e_v34
      refine mx_S.pu (pc2 := 69) (lv2 := [(2, .int v34), (3, .int v12), (0, .ref l0), (1, .ref l1)]) (st2 := []) hm dX1_writeTo_134 rfl ?_
      refine mx_S.ext [(0, .ref l0), (1, .ref l1), (2, .int v34)] (mx_sub_pos [2, 3, 0] rfl (show ([2, 3, 0, 1] : List Nat).Nodup by decide)) ?_
      exact ih l0 l1 v34 u33 _ hf
set_option maxHeartbeats 4000000 in
set_option maxRecDepth 20000 in
theorem j_X1_writeTo_59_ok (X : Nat × (Nat → Int32)) {F L : Nat} (hF : 4 ≤ F) (hL : 94 ≤ L) (nn : Nat) (l0 : Nat) (l1 : Nat) (h : mx_H) {r : mx_H} (hf : j_X1_writeTo_59 nn l0 l1 h = some r) : mx_S X F L 43 59 [(0, .ref l0), (1, .ref l1)] [] h 0 0 (none, r, 0, 0) := by
  have hm : mx_mt 43 = some (yX1_writeTo, cX1_writeTo, 4, none) := mt_X1_writeTo
  unfold j_X1_writeTo_59 at hf
  refine mx_S.pu (pc2 := 60) (lv2 := [(0, .ref l0), (1, .ref l1)]) (st2 := [.ref l1]) hm dX1_writeTo_59 rfl ?_
  refine mx_S.pu (pc2 := 61) (lv2 := [(0, .ref l0), (1, .ref l1)]) (st2 := [.ref l0, .ref l1]) hm dX1_writeTo_60 rfl ?_
  replace hf := mx_sv_el hf; obtain ⟨v36, e_v36, hf⟩ := hf
  refine sx_get hm dX1_writeTo_61 rs_RX1_55 (xgi_el e_v36) ?_
  clear e_v36
  replace hf := mx_gd_el hf; obtain ⟨c37, hf⟩ := hf
  replace hf := mx_sv_el hf; obtain ⟨u38, e_u38, hf⟩ := hf
  refine sx_cv hm dX1_writeTo_64 rs_RX1_116 mt_X6_put [.int v36] [] (b := l1) (ci := 6) rfl rfl rfl c37 (Nat.le_of_ble_eq_true rfl) (Nat.le_of_ble_eq_true rfl) (by omega) (by omega) (f_X6_put_ok X (by omega) (by omega) nn l1 v36 h e_u38) ?_
  clear e_u38
  show mx_S X F L 43 67 [(0, .ref l0), (1, .ref l1)] [] u38 0 0 (none, r, 0, 0)
  refine sx_ic (v := 0) hm dX1_writeTo_67 (by decide) ?_
  refine mx_S.pu (pc2 := 69) (lv2 := [(2, .int 0), (0, .ref l0), (1, .ref l1)]) (st2 := []) hm dX1_writeTo_68 rfl ?_
  refine mx_S.ext [(0, .ref l0), (1, .ref l1), (2, .int 0)] (mx_sub_pos [1, 2, 0] rfl (show ([2, 0, 1] : List Nat).Nodup by decide)) ?_
  exact w_X1_writeTo_69_ok X hF hL nn nn l0 l1 0 u38 _ hf
set_option maxHeartbeats 4000000 in
set_option maxRecDepth 20000 in
theorem w_X1_writeTo_26_ok (X : Nat × (Nat → Int32)) {F L : Nat} (hF : 4 ≤ F) (hL : 94 ≤ L) (nn : Nat) : ∀ (k : Nat) (l0 : Nat) (l1 : Nat) (l2 : Int32) (h : mx_H) (r : mx_H), w_X1_writeTo_26 nn k l0 l1 l2 h = some r → mx_S X F L 43 26 [(0, .ref l0), (1, .ref l1), (2, .int l2)] [] h 0 0 (none, r, 0, 0) := by
  have hm : mx_mt 43 = some (yX1_writeTo, cX1_writeTo, 4, none) := mt_X1_writeTo
  intro k
  induction k with
  | zero => intro l0 l1 l2 h r hf; cases hf
  | succ k ih =>
    intro l0 l1 l2 h r hf
    unfold w_X1_writeTo_26 at hf
    refine mx_S.pu (pc2 := 27) (lv2 := [(0, .ref l0), (1, .ref l1), (2, .int l2)]) (st2 := [.int l2]) hm dX1_writeTo_26 rfl ?_
    refine mx_S.pu (pc2 := 28) (lv2 := [(0, .ref l0), (1, .ref l1), (2, .int l2)]) (st2 := [.ref l0, .int l2]) hm dX1_writeTo_27 rfl ?_
    replace hf := mx_sv_el hf; obtain ⟨v39, e_v39, hf⟩ := hf
    refine sx_get hm dX1_writeTo_28 rs_RX1_39 (xgi_el e_v39) ?_
    clear e_v39
    rcases mx_if_el hf with ⟨c48, hf⟩ | ⟨c48, hf⟩
    · refine sb_ic_ge hm dX1_writeTo_31 (tgt := 59) rfl (fun _ => ?_) (fun z => absurd c48 z)
      refine mx_S.ext [(0, .ref l0), (1, .ref l1)] (mx_sub_pos [0, 1] rfl (show ([0, 1, 2] : List Nat).Nodup by decide)) ?_
      exact j_X1_writeTo_59_ok X hF hL nn l0 l1 h hf
    · refine sb_ic_ge hm dX1_writeTo_31 (tgt := 59) rfl (fun z => absurd z c48) (fun _ => ?_)
      refine mx_S.pu (pc2 := 35) (lv2 := [(0, .ref l0), (1, .ref l1), (2, .int l2)]) (st2 := [.int l2]) hm dX1_writeTo_34 rfl ?_
      refine mx_S.pu (pc2 := 36) (lv2 := [(0, .ref l0), (1, .ref l1), (2, .int l2)]) (st2 := [.ref l0, .int l2]) hm dX1_writeTo_35 rfl ?_
      replace hf := mx_sv_el hf; obtain ⟨v40, e_v40, hf⟩ := hf
      refine sx_get hm dX1_writeTo_36 rs_RX1_13 (xgr_el e_v40) ?_
      clear e_v40
      replace hf := mx_sv_el hf; obtain ⟨v41, e_v41, hf⟩ := hf
      refine sx_len hm dX1_writeTo_39 e_v41 ?_
      clear e_v41
      rcases mx_if_el hf with ⟨c47, hf⟩ | ⟨c47, hf⟩
      · refine sb_ic_ge hm dX1_writeTo_40 (tgt := 59) rfl (fun _ => ?_) (fun z => absurd c47 z)
        refine mx_S.ext [(0, .ref l0), (1, .ref l1)] (mx_sub_pos [0, 1] rfl (show ([0, 1, 2] : List Nat).Nodup by decide)) ?_
        exact j_X1_writeTo_59_ok X hF hL nn l0 l1 h hf
      · refine sb_ic_ge hm dX1_writeTo_40 (tgt := 59) rfl (fun z => absurd z c47) (fun _ => ?_)
        refine mx_S.pu (pc2 := 44) (lv2 := [(0, .ref l0), (1, .ref l1), (2, .int l2)]) (st2 := [.ref l1]) hm dX1_writeTo_43 rfl ?_
        refine mx_S.pu (pc2 := 45) (lv2 := [(0, .ref l0), (1, .ref l1), (2, .int l2)]) (st2 := [.ref l0, .ref l1]) hm dX1_writeTo_44 rfl ?_
        replace hf := mx_sv_el hf; obtain ⟨v42, e_v42, hf⟩ := hf
        refine sx_get hm dX1_writeTo_45 rs_RX1_13 (xgr_el e_v42) ?_
        clear e_v42
        refine mx_S.pu (pc2 := 49) (lv2 := [(0, .ref l0), (1, .ref l1), (2, .int l2)]) (st2 := [.int l2, .ref v42, .ref l1]) hm dX1_writeTo_48 rfl ?_
        replace hf := mx_sv_el hf; obtain ⟨v43, e_v43, hf⟩ := hf
        refine sx_bld hm dX1_writeTo_49 e_v43 ?_
        clear e_v43
        replace hf := mx_gd_el hf; obtain ⟨c44, hf⟩ := hf
        replace hf := mx_sv_el hf; obtain ⟨u45, e_u45, hf⟩ := hf
        refine sx_cv hm dX1_writeTo_50 rs_RX1_116 mt_X6_put [.int v43] [] (b := l1) (ci := 6) rfl rfl rfl c44 (Nat.le_of_ble_eq_true rfl) (Nat.le_of_ble_eq_true rfl) (by omega) (by omega) (f_X6_put_ok X (by omega) (by omega) nn l1 v43 h e_u45) ?_
        clear e_u45
        show mx_S X F L 43 53 [(0, .ref l0), (1, .ref l1), (2, .int l2)] [] u45 0 0 (none, r, 0, 0)
        replace hf := xl_el hf; obtain ⟨v46, e_v46, hf⟩ := hf
        refine mx_S.pu (pc2 := 56) (lv2 := [(2, .int v46), (0, .ref l0), (1, .ref l1)]) (st2 := []) hm dX1_writeTo_53 (by rw [← e_v46]; rfl) ?_
        clear e_v46
        refine mx_S.pu (pc2 := 26) (lv2 := [(2, .int v46), (0, .ref l0), (1, .ref l1)]) (st2 := []) hm dX1_writeTo_56 rfl ?_
        refine mx_S.ext [(0, .ref l0), (1, .ref l1), (2, .int v46)] (mx_sub_pos [1, 2, 0] rfl (show ([2, 0, 1] : List Nat).Nodup by decide)) ?_
        exact ih l0 l1 v46 u45 _ hf
set_option maxHeartbeats 4000000 in
set_option maxRecDepth 20000 in
theorem f_X1_writeTo_ok (X : Nat × (Nat → Int32)) {F L : Nat} (hF : 4 ≤ F) (hL : 94 ≤ L) (nn : Nat) (a0 : Nat) (a1 : Nat) (h : mx_H) {r : mx_H} (hf : f_X1_writeTo nn a0 a1 h = some r) : mx_R X F L 43 [.ref a0, .ref a1] h (none, r, 0, 0) := by
  have hm : mx_mt 43 = some (yX1_writeTo, cX1_writeTo, 4, none) := mt_X1_writeTo
  show mx_S X F L 43 0 [(0, .ref a0), (1, .ref a1)] [] h 0 0 (none, r, 0, 0)
  unfold f_X1_writeTo at hf
  refine mx_S.pu (pc2 := 1) (lv2 := [(0, .ref a0), (1, .ref a1)]) (st2 := [.ref a1]) hm dX1_writeTo_0 rfl ?_
  refine mx_S.pu (pc2 := 2) (lv2 := [(0, .ref a0), (1, .ref a1)]) (st2 := [.ref a0, .ref a1]) hm dX1_writeTo_1 rfl ?_
  replace hf := mx_sv_el hf; obtain ⟨v49, e_v49, hf⟩ := hf
  refine sx_get hm dX1_writeTo_2 rs_RX1_46 (xgi_el e_v49) ?_
  clear e_v49
  replace hf := mx_gd_el hf; obtain ⟨c50, hf⟩ := hf
  replace hf := mx_sv_el hf; obtain ⟨u51, e_u51, hf⟩ := hf
  refine sx_cv hm dX1_writeTo_5 rs_RX1_116 mt_X6_put [.int v49] [] (b := a1) (ci := 6) rfl rfl rfl c50 (Nat.le_of_ble_eq_true rfl) (Nat.le_of_ble_eq_true rfl) (by omega) (by omega) (f_X6_put_ok X (by omega) (by omega) nn a1 v49 h e_u51) ?_
  clear e_u51
  show mx_S X F L 43 8 [(0, .ref a0), (1, .ref a1)] [] u51 0 0 (none, r, 0, 0)
  refine mx_S.pu (pc2 := 9) (lv2 := [(0, .ref a0), (1, .ref a1)]) (st2 := [.ref a1]) hm dX1_writeTo_8 rfl ?_
  refine mx_S.pu (pc2 := 10) (lv2 := [(0, .ref a0), (1, .ref a1)]) (st2 := [.ref a0, .ref a1]) hm dX1_writeTo_9 rfl ?_
  replace hf := mx_sv_el hf; obtain ⟨v52, e_v52, hf⟩ := hf
  refine sx_get hm dX1_writeTo_10 rs_RX1_52 (xgi_el e_v52) ?_
  clear e_v52
  replace hf := mx_gd_el hf; obtain ⟨c53, hf⟩ := hf
  replace hf := mx_sv_el hf; obtain ⟨u54, e_u54, hf⟩ := hf
  refine sx_cv hm dX1_writeTo_13 rs_RX1_116 mt_X6_put [.int v52] [] (b := a1) (ci := 6) rfl rfl rfl c53 (Nat.le_of_ble_eq_true rfl) (Nat.le_of_ble_eq_true rfl) (by omega) (by omega) (f_X6_put_ok X (by omega) (by omega) nn a1 v52 u51 e_u54) ?_
  clear e_u54
  show mx_S X F L 43 16 [(0, .ref a0), (1, .ref a1)] [] u54 0 0 (none, r, 0, 0)
  refine mx_S.pu (pc2 := 17) (lv2 := [(0, .ref a0), (1, .ref a1)]) (st2 := [.ref a1]) hm dX1_writeTo_16 rfl ?_
  refine mx_S.pu (pc2 := 18) (lv2 := [(0, .ref a0), (1, .ref a1)]) (st2 := [.ref a0, .ref a1]) hm dX1_writeTo_17 rfl ?_
  replace hf := mx_sv_el hf; obtain ⟨v55, e_v55, hf⟩ := hf
  refine sx_get hm dX1_writeTo_18 rs_RX1_39 (xgi_el e_v55) ?_
  clear e_v55
  replace hf := mx_gd_el hf; obtain ⟨c56, hf⟩ := hf
  replace hf := mx_sv_el hf; obtain ⟨u57, e_u57, hf⟩ := hf
  refine sx_cv hm dX1_writeTo_21 rs_RX1_121 mt_X6_putPair [.int v55] [] (b := a1) (ci := 6) rfl rfl rfl c56 (Nat.le_of_ble_eq_true rfl) (Nat.le_of_ble_eq_true rfl) (by omega) (by omega) (f_X6_putPair_ok X (by omega) (by omega) nn a1 v55 u54 e_u57) ?_
  clear e_u57
  show mx_S X F L 43 24 [(0, .ref a0), (1, .ref a1)] [] u57 0 0 (none, r, 0, 0)
  refine sx_ic (v := 0) hm dX1_writeTo_24 (by decide) ?_
  refine mx_S.pu (pc2 := 26) (lv2 := [(2, .int 0), (0, .ref a0), (1, .ref a1)]) (st2 := []) hm dX1_writeTo_25 rfl ?_
  refine mx_S.ext [(0, .ref a0), (1, .ref a1), (2, .int 0)] (mx_sub_pos [1, 2, 0] rfl (show ([2, 0, 1] : List Nat).Nodup by decide)) ?_
  exact w_X1_writeTo_26_ok X hF hL nn nn a0 a1 0 u57 _ hf
set_option maxHeartbeats 4000000 in
set_option maxRecDepth 20000 in
theorem f_X2_bodyOf_ok (X : Nat × (Nat → Int32)) {F L : Nat} (hF : 1 ≤ F) (hL : 21 ≤ L) (nn : Nat) (a0 : Nat) (a1 : Int32) (h : mx_H) {r : (Int32 × mx_H)} (hf : f_X2_bodyOf nn a0 a1 h = some r) : mx_R X F L 85 [.ref a0, .int a1] h (some (.int r.1), r.2, 0, 0) := by
  have hm : mx_mt 85 = some (yX2_bodyOf, cX2_bodyOf, 2, (some .int)) := mt_X2_bodyOf
  show mx_S X F L 85 0 [(0, .ref a0), (1, .int a1)] [] h 0 0 (some (.int r.1), r.2, 0, 0)
  unfold f_X2_bodyOf at hf
  refine mx_S.pu (pc2 := 1) (lv2 := [(0, .ref a0), (1, .int a1)]) (st2 := [.ref a0]) hm dX2_bodyOf_0 rfl ?_
  refine mx_S.pu (pc2 := 2) (lv2 := [(0, .ref a0), (1, .int a1)]) (st2 := [.int a1, .ref a0]) hm dX2_bodyOf_1 rfl ?_
  replace hf := mx_gd_el hf; obtain ⟨c1, hf⟩ := hf
  replace hf := mx_sv_el hf; obtain ⟨u2, e_u2, hf⟩ := hf
  refine sx_cv hm dX2_bodyOf_2 rs_RX2_128 mt_X2_isMethod [.int a1] [] (b := a0) (ci := 2) rfl rfl rfl c1 (Nat.le_of_ble_eq_true rfl) (Nat.le_of_ble_eq_true rfl) (by omega) (by omega) (f_X2_isMethod_ok X (by omega) (by omega) nn a0 a1 h e_u2) ?_
  clear e_u2
  show mx_S X F L 85 5 [(0, .ref a0), (1, .int a1)] [.int u2.1] u2.2 0 0 (some (.int r.1), r.2, 0, 0)
  rcases mx_if_el hf with ⟨c5, hf⟩ | ⟨c5, hf⟩
  · refine sb_if_eq hm dX2_bodyOf_5 (tgt := 17) rfl (fun _ => ?_) (fun z => absurd c5 z)
    refine sx_ic (v := (-1)) hm dX2_bodyOf_17 (by decide) ?_
    cases hf
    exact sx_ire hm dX2_bodyOf_18 rfl rfl
  · refine sb_if_eq hm dX2_bodyOf_5 (tgt := 17) rfl (fun z => absurd z c5) (fun _ => ?_)
    refine mx_S.pu (pc2 := 9) (lv2 := [(0, .ref a0), (1, .int a1)]) (st2 := [.ref a0]) hm dX2_bodyOf_8 rfl ?_
    replace hf := mx_sv_el hf; obtain ⟨v3, e_v3, hf⟩ := hf
    refine sx_get hm dX2_bodyOf_9 rs_RX2_45 (xgr_el e_v3) ?_
    clear e_v3
    refine mx_S.pu (pc2 := 13) (lv2 := [(0, .ref a0), (1, .int a1)]) (st2 := [.int a1, .ref v3]) hm dX2_bodyOf_12 rfl ?_
    replace hf := mx_sv_el hf; obtain ⟨v4, e_v4, hf⟩ := hf
    refine sx_ald hm dX2_bodyOf_13 e_v4 ?_
    clear e_v4
    refine mx_S.pu (pc2 := 18) (lv2 := [(0, .ref a0), (1, .int a1)]) (st2 := [.int v4]) hm dX2_bodyOf_14 rfl ?_
    cases hf
    exact sx_ire hm dX2_bodyOf_18 rfl rfl
set_option maxHeartbeats 4000000 in
set_option maxRecDepth 20000 in
theorem f_X2_parameterName_ok (X : Nat × (Nat → Int32)) {F L : Nat} (hF : 2 ≤ F) (hL : 42 ≤ L) (nn : Nat) (a0 : Nat) (a1 : Int32) (a2 : Int32) (h : mx_H) {r : (Int32 × mx_H)} (hf : f_X2_parameterName nn a0 a1 a2 h = some r) : mx_R X F L 90 [.ref a0, .int a1, .int a2] h (some (.int r.1), r.2, 0, 0) := by
  have hm : mx_mt 90 = some (yX2_parameterName, cX2_parameterName, 3, (some .int)) := mt_X2_parameterName
  show mx_S X F L 90 0 [(0, .ref a0), (1, .int a1), (2, .int a2)] [] h 0 0 (some (.int r.1), r.2, 0, 0)
  unfold f_X2_parameterName at hf
  refine mx_S.pu (pc2 := 1) (lv2 := [(0, .ref a0), (1, .int a1), (2, .int a2)]) (st2 := [.int a2]) hm dX2_parameterName_0 rfl ?_
  rcases mx_if_el hf with ⟨c8, hf⟩ | ⟨c8, hf⟩
  · refine sb_if_lt hm dX2_parameterName_1 (tgt := 27) rfl (fun _ => ?_) (fun z => absurd c8 z)
    refine sx_ic (v := (-1)) hm dX2_parameterName_27 (by decide) ?_
    cases hf
    exact sx_ire hm dX2_parameterName_28 rfl rfl
  · refine sb_if_lt hm dX2_parameterName_1 (tgt := 27) rfl (fun z => absurd z c8) (fun _ => ?_)
    refine mx_S.pu (pc2 := 5) (lv2 := [(0, .ref a0), (1, .int a1), (2, .int a2)]) (st2 := [.int a2]) hm dX2_parameterName_4 rfl ?_
    refine mx_S.pu (pc2 := 6) (lv2 := [(0, .ref a0), (1, .int a1), (2, .int a2)]) (st2 := [.ref a0, .int a2]) hm dX2_parameterName_5 rfl ?_
    refine mx_S.pu (pc2 := 7) (lv2 := [(0, .ref a0), (1, .int a1), (2, .int a2)]) (st2 := [.int a1, .ref a0, .int a2]) hm dX2_parameterName_6 rfl ?_
    replace hf := mx_gd_el hf; obtain ⟨c1, hf⟩ := hf
    replace hf := mx_sv_el hf; obtain ⟨u2, e_u2, hf⟩ := hf
    refine sx_cv hm dX2_parameterName_7 rs_RX2_227 mt_X2_parametersOf [.int a1] [.int a2] (b := a0) (ci := 2) rfl rfl rfl c1 (Nat.le_of_ble_eq_true rfl) (Nat.le_of_ble_eq_true rfl) (by omega) (by omega) (f_X2_parametersOf_ok X (by omega) (by omega) nn a0 a1 h e_u2) ?_
    clear e_u2
    show mx_S X F L 90 10 [(0, .ref a0), (1, .int a1), (2, .int a2)] [.int u2.1, .int a2] u2.2 0 0 (some (.int r.1), r.2, 0, 0)
    rcases mx_if_el hf with ⟨c7, hf⟩ | ⟨c7, hf⟩
    · refine sb_ic_ge hm dX2_parameterName_10 (tgt := 27) rfl (fun _ => ?_) (fun z => absurd c7 z)
      refine sx_ic (v := (-1)) hm dX2_parameterName_27 (by decide) ?_
      cases hf
      exact sx_ire hm dX2_parameterName_28 rfl rfl
    · refine sb_ic_ge hm dX2_parameterName_10 (tgt := 27) rfl (fun z => absurd z c7) (fun _ => ?_)
      refine mx_S.pu (pc2 := 14) (lv2 := [(0, .ref a0), (1, .int a1), (2, .int a2)]) (st2 := [.ref a0]) hm dX2_parameterName_13 rfl ?_
      replace hf := mx_sv_el hf; obtain ⟨v3, e_v3, hf⟩ := hf
      refine sx_get hm dX2_parameterName_14 rs_RX2_61 (xgr_el e_v3) ?_
      clear e_v3
      refine mx_S.pu (pc2 := 18) (lv2 := [(0, .ref a0), (1, .int a1), (2, .int a2)]) (st2 := [.int a1, .ref v3]) hm dX2_parameterName_17 rfl ?_
      refine sx_bi (v := 6) hm dX2_parameterName_18 (by decide) ?_
      replace hf := xl_el hf; obtain ⟨v4, e_v4, hf⟩ := hf
      refine mx_S.pu (pc2 := 21) (lv2 := [(0, .ref a0), (1, .int a1), (2, .int a2)]) (st2 := [.int v4, .ref v3]) hm dX2_parameterName_20 (by rw [← e_v4]; rfl) ?_
      clear e_v4
      refine mx_S.pu (pc2 := 22) (lv2 := [(0, .ref a0), (1, .int a1), (2, .int a2)]) (st2 := [.int a2, .int v4, .ref v3]) hm dX2_parameterName_21 rfl ?_
      replace hf := xl_el hf; obtain ⟨v5, e_v5, hf⟩ := hf
      refine mx_S.pu (pc2 := 23) (lv2 := [(0, .ref a0), (1, .int a1), (2, .int a2)]) (st2 := [.int v5, .ref v3]) hm dX2_parameterName_22 (by rw [← e_v5]; rfl) ?_
      clear e_v5
      replace hf := mx_sv_el hf; obtain ⟨v6, e_v6, hf⟩ := hf
      refine sx_ald hm dX2_parameterName_23 e_v6 ?_
      clear e_v6
      refine mx_S.pu (pc2 := 28) (lv2 := [(0, .ref a0), (1, .int a1), (2, .int a2)]) (st2 := [.int v6]) hm dX2_parameterName_24 rfl ?_
      cases hf
      exact sx_ire hm dX2_parameterName_28 rfl rfl
set_option maxHeartbeats 4000000 in
set_option maxRecDepth 20000 in
theorem f_X2_tokenOfMethod_ok (X : Nat × (Nat → Int32)) {F L : Nat} (hF : 1 ≤ F) (hL : 21 ≤ L) (nn : Nat) (a0 : Nat) (a1 : Int32) (h : mx_H) {r : (Int32 × mx_H)} (hf : f_X2_tokenOfMethod nn a0 a1 h = some r) : mx_R X F L 84 [.ref a0, .int a1] h (some (.int r.1), r.2, 0, 0) := by
  have hm : mx_mt 84 = some (yX2_tokenOfMethod, cX2_tokenOfMethod, 2, (some .int)) := mt_X2_tokenOfMethod
  show mx_S X F L 84 0 [(0, .ref a0), (1, .int a1)] [] h 0 0 (some (.int r.1), r.2, 0, 0)
  unfold f_X2_tokenOfMethod at hf
  refine mx_S.pu (pc2 := 1) (lv2 := [(0, .ref a0), (1, .int a1)]) (st2 := [.ref a0]) hm dX2_tokenOfMethod_0 rfl ?_
  refine mx_S.pu (pc2 := 2) (lv2 := [(0, .ref a0), (1, .int a1)]) (st2 := [.int a1, .ref a0]) hm dX2_tokenOfMethod_1 rfl ?_
  replace hf := mx_gd_el hf; obtain ⟨c1, hf⟩ := hf
  replace hf := mx_sv_el hf; obtain ⟨u2, e_u2, hf⟩ := hf
  refine sx_cv hm dX2_tokenOfMethod_2 rs_RX2_128 mt_X2_isMethod [.int a1] [] (b := a0) (ci := 2) rfl rfl rfl c1 (Nat.le_of_ble_eq_true rfl) (Nat.le_of_ble_eq_true rfl) (by omega) (by omega) (f_X2_isMethod_ok X (by omega) (by omega) nn a0 a1 h e_u2) ?_
  clear e_u2
  show mx_S X F L 84 5 [(0, .ref a0), (1, .int a1)] [.int u2.1] u2.2 0 0 (some (.int r.1), r.2, 0, 0)
  rcases mx_if_el hf with ⟨c5, hf⟩ | ⟨c5, hf⟩
  · refine sb_if_eq hm dX2_tokenOfMethod_5 (tgt := 17) rfl (fun _ => ?_) (fun z => absurd c5 z)
    refine sx_ic (v := (-1)) hm dX2_tokenOfMethod_17 (by decide) ?_
    cases hf
    exact sx_ire hm dX2_tokenOfMethod_18 rfl rfl
  · refine sb_if_eq hm dX2_tokenOfMethod_5 (tgt := 17) rfl (fun z => absurd z c5) (fun _ => ?_)
    refine mx_S.pu (pc2 := 9) (lv2 := [(0, .ref a0), (1, .int a1)]) (st2 := [.ref a0]) hm dX2_tokenOfMethod_8 rfl ?_
    replace hf := mx_sv_el hf; obtain ⟨v3, e_v3, hf⟩ := hf
    refine sx_get hm dX2_tokenOfMethod_9 rs_RX2_42 (xgr_el e_v3) ?_
    clear e_v3
    refine mx_S.pu (pc2 := 13) (lv2 := [(0, .ref a0), (1, .int a1)]) (st2 := [.int a1, .ref v3]) hm dX2_tokenOfMethod_12 rfl ?_
    replace hf := mx_sv_el hf; obtain ⟨v4, e_v4, hf⟩ := hf
    refine sx_ald hm dX2_tokenOfMethod_13 e_v4 ?_
    clear e_v4
    refine mx_S.pu (pc2 := 18) (lv2 := [(0, .ref a0), (1, .int a1)]) (st2 := [.int v4]) hm dX2_tokenOfMethod_14 rfl ?_
    cases hf
    exact sx_ire hm dX2_tokenOfMethod_18 rfl rfl
set_option maxHeartbeats 4000000 in
set_option maxRecDepth 20000 in
theorem j_X6_beginMethod_17_ok (X : Nat × (Nat → Int32)) {F L : Nat} (hF : 2 ≤ F) (hL : 42 ≤ L) (nn : Nat) (l0 : Nat) (l1 : Int32) (s0 : Int32) (s1 : Nat) (h : mx_H) {r : mx_H} (hf : j_X6_beginMethod_17 nn l0 l1 s0 s1 h = some r) : mx_S X F L 183 17 [(0, .ref l0), (1, .int l1)] [.int s0, .ref s1] h 0 0 (none, r, 0, 0) := by
  have hm : mx_mt 183 = some (yX6_beginMethod, cX6_beginMethod, 2, none) := mt_X6_beginMethod
  unfold j_X6_beginMethod_17 at hf
  replace hf := mx_gd_el hf; obtain ⟨c1, hf⟩ := hf
  replace hf := mx_sv_el hf; obtain ⟨u2, e_u2, hf⟩ := hf
  refine sx_cv hm dX6_beginMethod_17 rs_RX6_45 mt_X6_put [.int s0] [] (b := s1) (ci := 6) rfl rfl rfl c1 (Nat.le_of_ble_eq_true rfl) (Nat.le_of_ble_eq_true rfl) (by omega) (by omega) (f_X6_put_ok X (by omega) (by omega) nn s1 s0 h e_u2) ?_
  clear e_u2
  show mx_S X F L 183 20 [(0, .ref l0), (1, .int l1)] [] u2 0 0 (none, r, 0, 0)
  refine mx_S.pu (pc2 := 21) (lv2 := [(0, .ref l0), (1, .int l1)]) (st2 := [.ref l0]) hm dX6_beginMethod_20 rfl ?_
  refine mx_S.pu (pc2 := 22) (lv2 := [(0, .ref l0), (1, .int l1)]) (st2 := [.ref l0, .ref l0]) hm dX6_beginMethod_21 rfl ?_
  refine sx_ic (v := 1) hm dX6_beginMethod_22 (by decide) ?_
  refine mx_S.pu (pc2 := 24) (lv2 := [(0, .ref l0), (1, .int l1)]) (st2 := [.ref l0, .int 1, .ref l0, .ref l0]) hm dX6_beginMethod_23 rfl ?_
  replace hf := mx_sv_el hf; obtain ⟨v3, e_v3, hf⟩ := hf
  refine sx_get hm dX6_beginMethod_24 rs_RX6_24 (xgr_el e_v3) ?_
  clear e_v3
  refine mx_S.pu (pc2 := 28) (lv2 := [(0, .ref l0), (1, .int l1)]) (st2 := [.int l1, .ref v3, .int 1, .ref l0, .ref l0]) hm dX6_beginMethod_27 rfl ?_
  replace hf := mx_gd_el hf; obtain ⟨c4, hf⟩ := hf
  replace hf := mx_sv_el hf; obtain ⟨u5, e_u5, hf⟩ := hf
  refine sx_cv hm dX6_beginMethod_28 rs_RX6_80 mt_X2_nameOfMethod [.int l1] [.int 1, .ref l0, .ref l0] (b := v3) (ci := 2) rfl rfl rfl c4 (Nat.le_of_ble_eq_true rfl) (Nat.le_of_ble_eq_true rfl) (by omega) (by omega) (f_X2_nameOfMethod_ok X (by omega) (by omega) nn v3 l1 u2 e_u5) ?_
  clear e_u5
  show mx_S X F L 183 31 [(0, .ref l0), (1, .int l1)] [.int u5.1, .int 1, .ref l0, .ref l0] u5.2 0 0 (none, r, 0, 0)
  replace hf := mx_gd_el hf; obtain ⟨c6, hf⟩ := hf
  replace hf := mx_sv_el hf; obtain ⟨u7, e_u7, hf⟩ := hf
  refine sx_cv hm dX6_beginMethod_31 rs_RX6_66 mt_X6_constant [.int 1, .int u5.1] [.ref l0] (b := l0) (ci := 6) rfl rfl rfl c6 (Nat.le_of_ble_eq_true rfl) (Nat.le_of_ble_eq_true rfl) (by omega) (by omega) (f_X6_constant_ok X (by omega) (by omega) nn l0 1 u5.1 u5.2 e_u7) ?_
  clear e_u7
  show mx_S X F L 183 34 [(0, .ref l0), (1, .int l1)] [.int u7.1, .ref l0] u7.2 0 0 (none, r, 0, 0)
  replace hf := mx_gd_el hf; obtain ⟨c8, hf⟩ := hf
  replace hf := mx_sv_el hf; obtain ⟨u9, e_u9, hf⟩ := hf
  refine sx_cv hm dX6_beginMethod_34 rs_RX6_45 mt_X6_put [.int u7.1] [] (b := l0) (ci := 6) rfl rfl rfl c8 (Nat.le_of_ble_eq_true rfl) (Nat.le_of_ble_eq_true rfl) (by omega) (by omega) (f_X6_put_ok X (by omega) (by omega) nn l0 u7.1 u7.2 e_u9) ?_
  clear e_u9
  show mx_S X F L 183 37 [(0, .ref l0), (1, .int l1)] [] u9 0 0 (none, r, 0, 0)
  refine mx_S.pu (pc2 := 38) (lv2 := [(0, .ref l0), (1, .int l1)]) (st2 := [.ref l0]) hm dX6_beginMethod_37 rfl ?_
  refine mx_S.pu (pc2 := 39) (lv2 := [(0, .ref l0), (1, .int l1)]) (st2 := [.ref l0, .ref l0]) hm dX6_beginMethod_38 rfl ?_
  refine sx_ic (v := 1) hm dX6_beginMethod_39 (by decide) ?_
  refine mx_S.pu (pc2 := 41) (lv2 := [(0, .ref l0), (1, .int l1)]) (st2 := [.ref l0, .int 1, .ref l0, .ref l0]) hm dX6_beginMethod_40 rfl ?_
  replace hf := mx_sv_el hf; obtain ⟨v10, e_v10, hf⟩ := hf
  refine sx_get hm dX6_beginMethod_41 rs_RX6_24 (xgr_el e_v10) ?_
  clear e_v10
  refine mx_S.pu (pc2 := 45) (lv2 := [(0, .ref l0), (1, .int l1)]) (st2 := [.int l1, .ref v10, .int 1, .ref l0, .ref l0]) hm dX6_beginMethod_44 rfl ?_
  replace hf := mx_gd_el hf; obtain ⟨c11, hf⟩ := hf
  replace hf := mx_sv_el hf; obtain ⟨u12, e_u12, hf⟩ := hf
  refine sx_cv hm dX6_beginMethod_45 rs_RX6_83 mt_X2_kindOfMethod [.int l1] [.int 1, .ref l0, .ref l0] (b := v10) (ci := 2) rfl rfl rfl c11 (Nat.le_of_ble_eq_true rfl) (Nat.le_of_ble_eq_true rfl) (by omega) (by omega) (f_X2_kindOfMethod_ok X (by omega) (by omega) nn v10 l1 u9 e_u12) ?_
  clear e_u12
  show mx_S X F L 183 48 [(0, .ref l0), (1, .int l1)] [.int u12.1, .int 1, .ref l0, .ref l0] u12.2 0 0 (none, r, 0, 0)
  replace hf := mx_gd_el hf; obtain ⟨c13, hf⟩ := hf
  replace hf := mx_sv_el hf; obtain ⟨u14, e_u14, hf⟩ := hf
  refine sx_cv hm dX6_beginMethod_48 rs_RX6_66 mt_X6_constant [.int 1, .int u12.1] [.ref l0] (b := l0) (ci := 6) rfl rfl rfl c13 (Nat.le_of_ble_eq_true rfl) (Nat.le_of_ble_eq_true rfl) (by omega) (by omega) (f_X6_constant_ok X (by omega) (by omega) nn l0 1 u12.1 u12.2 e_u14) ?_
  clear e_u14
  show mx_S X F L 183 51 [(0, .ref l0), (1, .int l1)] [.int u14.1, .ref l0] u14.2 0 0 (none, r, 0, 0)
  replace hf := mx_gd_el hf; obtain ⟨c15, hf⟩ := hf
  replace hf := mx_sv_el hf; obtain ⟨u16, e_u16, hf⟩ := hf
  refine sx_cv hm dX6_beginMethod_51 rs_RX6_45 mt_X6_put [.int u14.1] [] (b := l0) (ci := 6) rfl rfl rfl c15 (Nat.le_of_ble_eq_true rfl) (Nat.le_of_ble_eq_true rfl) (by omega) (by omega) (f_X6_put_ok X (by omega) (by omega) nn l0 u14.1 u14.2 e_u16) ?_
  clear e_u16
  show mx_S X F L 183 54 [(0, .ref l0), (1, .int l1)] [] u16 0 0 (none, r, 0, 0)
  cases hf
  exact sx_ret hm dX6_beginMethod_54 rfl
set_option maxHeartbeats 4000000 in
set_option maxRecDepth 20000 in
theorem f_X6_beginMethod_ok (X : Nat × (Nat → Int32)) {F L : Nat} (hF : 2 ≤ F) (hL : 42 ≤ L) (nn : Nat) (a0 : Nat) (a1 : Int32) (h : mx_H) {r : mx_H} (hf : f_X6_beginMethod nn a0 a1 h = some r) : mx_R X F L 183 [.ref a0, .int a1] h (none, r, 0, 0) := by
  have hm : mx_mt 183 = some (yX6_beginMethod, cX6_beginMethod, 2, none) := mt_X6_beginMethod
  show mx_S X F L 183 0 [(0, .ref a0), (1, .int a1)] [] h 0 0 (none, r, 0, 0)
  unfold f_X6_beginMethod at hf
  refine mx_S.pu (pc2 := 1) (lv2 := [(0, .ref a0), (1, .int a1)]) (st2 := [.ref a0]) hm dX6_beginMethod_0 rfl ?_
  refine mx_S.pu (pc2 := 2) (lv2 := [(0, .ref a0), (1, .int a1)]) (st2 := [.ref a0, .ref a0]) hm dX6_beginMethod_1 rfl ?_
  replace hf := mx_sv_el hf; obtain ⟨v17, e_v17, hf⟩ := hf
  refine sx_get hm dX6_beginMethod_2 rs_RX6_24 (xgr_el e_v17) ?_
  clear e_v17
  refine mx_S.pu (pc2 := 6) (lv2 := [(0, .ref a0), (1, .int a1)]) (st2 := [.int a1, .ref v17, .ref a0]) hm dX6_beginMethod_5 rfl ?_
  replace hf := mx_gd_el hf; obtain ⟨c18, hf⟩ := hf
  replace hf := mx_sv_el hf; obtain ⟨u19, e_u19, hf⟩ := hf
  refine sx_cv hm dX6_beginMethod_6 rs_RX6_76 mt_X2_isFixed [.int a1] [.ref a0] (b := v17) (ci := 2) rfl rfl rfl c18 (Nat.le_of_ble_eq_true rfl) (Nat.le_of_ble_eq_true rfl) (by omega) (by omega) (f_X2_isFixed_ok X (by omega) (by omega) nn v17 a1 h e_u19) ?_
  clear e_u19
  show mx_S X F L 183 9 [(0, .ref a0), (1, .int a1)] [.int u19.1, .ref a0] u19.2 0 0 (none, r, 0, 0)
  rcases mx_if_el hf with ⟨c20, hf⟩ | ⟨c20, hf⟩
  · refine sb_if_eq hm dX6_beginMethod_9 (tgt := 16) rfl (fun _ => ?_) (fun z => absurd c20 z)
    refine sx_ic (v := 0) hm dX6_beginMethod_16 (by decide) ?_
    exact j_X6_beginMethod_17_ok X hF hL nn a0 a1 0 a0 u19.2 hf
  · refine sb_if_eq hm dX6_beginMethod_9 (tgt := 16) rfl (fun z => absurd z c20) (fun _ => ?_)
    refine sx_ic (v := 1) hm dX6_beginMethod_12 (by decide) ?_
    refine mx_S.pu (pc2 := 17) (lv2 := [(0, .ref a0), (1, .int a1)]) (st2 := [.int 1, .ref a0]) hm dX6_beginMethod_13 rfl ?_
    exact j_X6_beginMethod_17_ok X hF hL nn a0 a1 1 a0 u19.2 hf
set_option maxHeartbeats 4000000 in
set_option maxRecDepth 20000 in
theorem j_X0_makeMethod_199_ok (X : Nat × (Nat → Int32)) {F L : Nat} (hF : 669 ≤ F) (hL : 19809 ≤ L) (nn : Nat) (l0 : Nat) (l3 : Int32) (h : mx_H) {r : mx_H} (hf : j_X0_makeMethod_199 nn l0 l3 h = some r) : mx_S X F L 8 199 [(0, .ref l0), (3, .int l3)] [] h 0 0 (none, r, 0, 0) := by
  have hm : mx_mt 8 = some (yX0_makeMethod, cX0_makeMethod, 6, none) := mt_X0_makeMethod
  unfold j_X0_makeMethod_199 at hf
  refine mx_S.pu (pc2 := 200) (lv2 := [(0, .ref l0), (3, .int l3)]) (st2 := [.ref l0]) hm dX0_makeMethod_199 rfl ?_
  replace hf := mx_sv_el hf; obtain ⟨v1, e_v1, hf⟩ := hf
  refine sx_get hm dX0_makeMethod_200 rs_RX0_16 (xgr_el e_v1) ?_
  clear e_v1
  refine mx_S.pu (pc2 := 204) (lv2 := [(0, .ref l0), (3, .int l3)]) (st2 := [.ref l0, .ref v1]) hm dX0_makeMethod_203 rfl ?_
  replace hf := mx_sv_el hf; obtain ⟨v2, e_v2, hf⟩ := hf
  refine sx_get hm dX0_makeMethod_204 rs_RX0_52 (xgr_el e_v2) ?_
  clear e_v2
  replace hf := mx_gd_el hf; obtain ⟨c3, hf⟩ := hf
  replace hf := mx_sv_el hf; obtain ⟨u4, e_u4, hf⟩ := hf
  refine sx_cv hm dX0_makeMethod_207 rs_RX0_150 mt_X1_writeTo [.ref v2] [] (b := v1) (ci := 1) rfl rfl rfl c3 (Nat.le_of_ble_eq_true rfl) (Nat.le_of_ble_eq_true rfl) (by omega) (by omega) (f_X1_writeTo_ok X (by omega) (by omega) nn v1 v2 h e_u4) ?_
  clear e_u4
  show mx_S X F L 8 210 [(0, .ref l0), (3, .int l3)] [] u4 0 0 (none, r, 0, 0)
  refine mx_S.pu (pc2 := 211) (lv2 := [(0, .ref l0), (3, .int l3)]) (st2 := [.ref l0]) hm dX0_makeMethod_210 rfl ?_
  refine mx_S.pu (pc2 := 212) (lv2 := [(0, .ref l0), (3, .int l3)]) (st2 := [.ref l0, .ref l0]) hm dX0_makeMethod_211 rfl ?_
  replace hf := mx_sv_el hf; obtain ⟨v5, e_v5, hf⟩ := hf
  refine sx_get hm dX0_makeMethod_212 rs_RX0_16 (xgr_el e_v5) ?_
  clear e_v5
  replace hf := mx_gd_el hf; obtain ⟨c6, hf⟩ := hf
  replace hf := mx_sv_el hf; obtain ⟨u7, e_u7, hf⟩ := hf
  refine sx_cv hm dX0_makeMethod_215 rs_RX0_154 mt_X1_isTooMuch [] [.ref l0] (b := v5) (ci := 1) rfl rfl rfl c6 (Nat.le_of_ble_eq_true rfl) (Nat.le_of_ble_eq_true rfl) (by omega) (by omega) (f_X1_isTooMuch_ok X (by omega) (by omega) nn v5 u4 e_u7) ?_
  clear e_u7
  show mx_S X F L 8 218 [(0, .ref l0), (3, .int l3)] [.int u7.1, .ref l0] u7.2 0 0 (none, r, 0, 0)
  refine mx_S.pu (pc2 := 219) (lv2 := [(0, .ref l0), (3, .int l3)]) (st2 := [.ref l0, .int u7.1, .ref l0]) hm dX0_makeMethod_218 rfl ?_
  replace hf := mx_sv_el hf; obtain ⟨v8, e_v8, hf⟩ := hf
  refine sx_get hm dX0_makeMethod_219 rs_RX0_38 (xgr_el e_v8) ?_
  clear e_v8
  refine mx_S.pu (pc2 := 223) (lv2 := [(0, .ref l0), (3, .int l3)]) (st2 := [.int l3, .ref v8, .int u7.1, .ref l0]) hm dX0_makeMethod_222 rfl ?_
  replace hf := mx_gd_el hf; obtain ⟨c9, hf⟩ := hf
  replace hf := mx_sv_el hf; obtain ⟨u10, e_u10, hf⟩ := hf
  refine sx_cv hm dX0_makeMethod_223 rs_RX0_144 mt_X2_tokenOfMethod [.int l3] [.int u7.1, .ref l0] (b := v8) (ci := 2) rfl rfl rfl c9 (Nat.le_of_ble_eq_true rfl) (Nat.le_of_ble_eq_true rfl) (by omega) (by omega) (f_X2_tokenOfMethod_ok X (by omega) (by omega) nn v8 l3 u7.2 e_u10) ?_
  clear e_u10
  show mx_S X F L 8 226 [(0, .ref l0), (3, .int l3)] [.int u10.1, .int u7.1, .ref l0] u10.2 0 0 (none, r, 0, 0)
  replace hf := mx_gd_el hf; obtain ⟨c11, hf⟩ := hf
  replace hf := mx_sv_el hf; obtain ⟨u12, e_u12, hf⟩ := hf
  refine sx_cv hm dX0_makeMethod_226 rs_RX0_85 mt_X0_noteMuch [.int u7.1, .int u10.1] [] (b := l0) (ci := 0) rfl rfl rfl c11 (Nat.le_of_ble_eq_true rfl) (Nat.le_of_ble_eq_true rfl) (by omega) (by omega) (f_X0_noteMuch_ok X (by omega) (by omega) nn l0 u7.1 u10.1 u10.2 e_u12) ?_
  clear e_u12
  show mx_S X F L 8 229 [(0, .ref l0), (3, .int l3)] [] u12 0 0 (none, r, 0, 0)
  cases hf
  exact sx_ret hm dX0_makeMethod_229 rfl
set_option maxHeartbeats 4000000 in
set_option maxRecDepth 20000 in
theorem j_X0_makeMethod_189_ok (X : Nat × (Nat → Int32)) {F L : Nat} (hF : 669 ≤ F) (hL : 19809 ≤ L) (nn : Nat) (l0 : Nat) (l3 : Int32) (h : mx_H) {r : mx_H} (hf : j_X0_makeMethod_189 nn l0 l3 h = some r) : mx_S X F L 8 189 [(0, .ref l0), (3, .int l3)] [] h 0 0 (none, r, 0, 0) := by
  have hm : mx_mt 8 = some (yX0_makeMethod, cX0_makeMethod, 6, none) := mt_X0_makeMethod
  unfold j_X0_makeMethod_189 at hf
  refine mx_S.pu (pc2 := 190) (lv2 := [(0, .ref l0), (3, .int l3)]) (st2 := [.ref l0]) hm dX0_makeMethod_189 rfl ?_
  replace hf := mx_sv_el hf; obtain ⟨v13, e_v13, hf⟩ := hf
  refine sx_get hm dX0_makeMethod_190 rs_RX0_16 (xgr_el e_v13) ?_
  clear e_v13
  refine sx_si (v := 177) hm dX0_makeMethod_193 (by decide) ?_
  replace hf := mx_gd_el hf; obtain ⟨c14, hf⟩ := hf
  replace hf := mx_sv_el hf; obtain ⟨u15, e_u15, hf⟩ := hf
  refine sx_cv hm dX0_makeMethod_196 rs_RX0_147 mt_X1_op [.int 177] [] (b := v13) (ci := 1) rfl rfl rfl c14 (Nat.le_of_ble_eq_true rfl) (Nat.le_of_ble_eq_true rfl) (by omega) (by omega) (f_X1_op_ok X (by omega) (by omega) nn v13 177 h e_u15) ?_
  clear e_u15
  show mx_S X F L 8 199 [(0, .ref l0), (3, .int l3)] [] u15 0 0 (none, r, 0, 0)
  exact j_X0_makeMethod_199_ok X hF hL nn l0 l3 u15 hf
set_option maxHeartbeats 4000000 in
set_option maxRecDepth 20000 in
theorem w_X0_makeMethod_70_ok (X : Nat × (Nat → Int32)) {F L : Nat} (hF : 669 ≤ F) (hL : 19809 ≤ L) (nn : Nat) : ∀ (k : Nat) (l0 : Nat) (l3 : Int32) (l5 : Int32) (h : mx_H) (r : mx_H), w_X0_makeMethod_70 nn k l0 l3 l5 h = some r → mx_S X F L 8 70 [(0, .ref l0), (3, .int l3), (5, .int l5)] [] h 0 0 (none, r, 0, 0) := by
  have hm : mx_mt 8 = some (yX0_makeMethod, cX0_makeMethod, 6, none) := mt_X0_makeMethod
  intro k
  induction k with
  | zero => intro l0 l3 l5 h r hf; cases hf
  | succ k ih =>
    intro l0 l3 l5 h r hf
    unfold w_X0_makeMethod_70 at hf
    refine mx_S.pu (pc2 := 72) (lv2 := [(0, .ref l0), (3, .int l3), (5, .int l5)]) (st2 := [.int l5]) hm dX0_makeMethod_70 rfl ?_
    refine mx_S.pu (pc2 := 73) (lv2 := [(0, .ref l0), (3, .int l3), (5, .int l5)]) (st2 := [.ref l0, .int l5]) hm dX0_makeMethod_72 rfl ?_
    replace hf := mx_sv_el hf; obtain ⟨v16, e_v16, hf⟩ := hf
    refine sx_get hm dX0_makeMethod_73 rs_RX0_38 (xgr_el e_v16) ?_
    clear e_v16
    refine mx_S.pu (pc2 := 77) (lv2 := [(0, .ref l0), (3, .int l3), (5, .int l5)]) (st2 := [.int l3, .ref v16, .int l5]) hm dX0_makeMethod_76 rfl ?_
    replace hf := mx_gd_el hf; obtain ⟨c17, hf⟩ := hf
    replace hf := mx_sv_el hf; obtain ⟨u18, e_u18, hf⟩ := hf
    refine sx_cv hm dX0_makeMethod_77 rs_RX0_114 mt_X2_parametersOf [.int l3] [.int l5] (b := v16) (ci := 2) rfl rfl rfl c17 (Nat.le_of_ble_eq_true rfl) (Nat.le_of_ble_eq_true rfl) (by omega) (by omega) (f_X2_parametersOf_ok X (by omega) (by omega) nn v16 l3 h e_u18) ?_
    clear e_u18
    show mx_S X F L 8 80 [(0, .ref l0), (3, .int l3), (5, .int l5)] [.int u18.1, .int l5] u18.2 0 0 (none, r, 0, 0)
    rcases mx_if_el hf with ⟨c51, hf⟩ | ⟨c51, hf⟩
    · refine sb_ic_ge hm dX0_makeMethod_80 (tgt := 117) rfl (fun _ => ?_) (fun z => absurd c51 z)
      refine mx_S.pu (pc2 := 118) (lv2 := [(0, .ref l0), (3, .int l3), (5, .int l5)]) (st2 := [.ref l0]) hm dX0_makeMethod_117 rfl ?_
      refine mx_S.pu (pc2 := 119) (lv2 := [(0, .ref l0), (3, .int l3), (5, .int l5)]) (st2 := [.ref l0, .ref l0]) hm dX0_makeMethod_118 rfl ?_
      replace hf := mx_sv_el hf; obtain ⟨v19, e_v19, hf⟩ := hf
      refine sx_get hm dX0_makeMethod_119 rs_RX0_38 (xgr_el e_v19) ?_
      clear e_v19
      refine mx_S.pu (pc2 := 123) (lv2 := [(0, .ref l0), (3, .int l3), (5, .int l5)]) (st2 := [.int l3, .ref v19, .ref l0]) hm dX0_makeMethod_122 rfl ?_
      replace hf := mx_gd_el hf; obtain ⟨c20, hf⟩ := hf
      replace hf := mx_sv_el hf; obtain ⟨u21, e_u21, hf⟩ := hf
      refine sx_cv hm dX0_makeMethod_123 rs_RX0_123 mt_X2_resultOf [.int l3] [.ref l0] (b := v19) (ci := 2) rfl rfl rfl c20 (Nat.le_of_ble_eq_true rfl) (Nat.le_of_ble_eq_true rfl) (by omega) (by omega) (f_X2_resultOf_ok X (by omega) (by omega) nn v19 l3 u18.2 e_u21) ?_
      clear e_u21
      show mx_S X F L 8 126 [(0, .ref l0), (3, .int l3), (5, .int l5)] [.int u21.1, .ref l0] u21.2 0 0 (none, r, 0, 0)
      replace hf := mx_sv_el hf; obtain ⟨h22, e_h22, hf⟩ := hf
      refine sx_put hm dX0_makeMethod_126 rs_RX0_126 ft_0_8 ⟨rfl, rfl⟩ (fun z => by cases z) e_h22 ?_
      clear e_h22
      refine mx_S.pu (pc2 := 130) (lv2 := [(0, .ref l0), (3, .int l3), (5, .int l5)]) (st2 := [.ref l0]) hm dX0_makeMethod_129 rfl ?_
      refine sx_ic (v := (-1)) hm dX0_makeMethod_130 (by decide) ?_
      replace hf := mx_sv_el hf; obtain ⟨h23, e_h23, hf⟩ := hf
      refine sx_put hm dX0_makeMethod_131 rs_RX0_129 ft_0_9 ⟨rfl, rfl⟩ (fun z => by cases z) e_h23 ?_
      clear e_h23
      refine mx_S.pu (pc2 := 135) (lv2 := [(0, .ref l0), (3, .int l3), (5, .int l5)]) (st2 := [.ref l0]) hm dX0_makeMethod_134 rfl ?_
      refine sx_ic (v := 0) hm dX0_makeMethod_135 (by decide) ?_
      replace hf := mx_sv_el hf; obtain ⟨h24, e_h24, hf⟩ := hf
      refine sx_put hm dX0_makeMethod_136 rs_RX0_132 ft_0_12 ⟨rfl, rfl⟩ (fun z => by cases z) e_h24 ?_
      clear e_h24
      refine mx_S.pu (pc2 := 140) (lv2 := [(0, .ref l0), (3, .int l3), (5, .int l5)]) (st2 := [.ref l0]) hm dX0_makeMethod_139 rfl ?_
      replace hf := mx_sv_el hf; obtain ⟨v25, e_v25, hf⟩ := hf
      refine sx_get hm dX0_makeMethod_140 rs_RX0_34 (xgr_el e_v25) ?_
      clear e_v25
      refine mx_S.pu (pc2 := 144) (lv2 := [(0, .ref l0), (3, .int l3), (5, .int l5)]) (st2 := [.ref l0, .ref v25]) hm dX0_makeMethod_143 rfl ?_
      replace hf := mx_sv_el hf; obtain ⟨v26, e_v26, hf⟩ := hf
      refine sx_get hm dX0_makeMethod_144 rs_RX0_38 (xgr_el e_v26) ?_
      clear e_v26
      refine mx_S.pu (pc2 := 148) (lv2 := [(0, .ref l0), (3, .int l3), (5, .int l5)]) (st2 := [.int l3, .ref v26, .ref v25]) hm dX0_makeMethod_147 rfl ?_
      replace hf := mx_gd_el hf; obtain ⟨c27, hf⟩ := hf
      replace hf := mx_sv_el hf; obtain ⟨u28, e_u28, hf⟩ := hf
      refine sx_cv hm dX0_makeMethod_148 rs_RX0_135 mt_X2_bodyOf [.int l3] [.ref v25] (b := v26) (ci := 2) rfl rfl rfl c27 (Nat.le_of_ble_eq_true rfl) (Nat.le_of_ble_eq_true rfl) (by omega) (by omega) (f_X2_bodyOf_ok X (by omega) (by omega) nn v26 l3 h24 e_u28) ?_
      clear e_u28
      show mx_S X F L 8 151 [(0, .ref l0), (3, .int l3), (5, .int l5)] [.int u28.1, .ref v25] u28.2 0 0 (none, r, 0, 0)
      replace hf := mx_sv_el hf; obtain ⟨h29, e_h29, hf⟩ := hf
      refine sx_put hm dX0_makeMethod_151 rs_RX0_138 ft_9_10 ⟨rfl, rfl⟩ (fun z => by cases z) e_h29 ?_
      clear e_h29
      refine mx_S.pu (pc2 := 155) (lv2 := [(0, .ref l0), (3, .int l3), (5, .int l5)]) (st2 := [.ref l0]) hm dX0_makeMethod_154 rfl ?_
      refine sx_ic (v := 0) hm dX0_makeMethod_155 (by decide) ?_
      replace hf := mx_gd_el hf; obtain ⟨c30, hf⟩ := hf
      replace hf := mx_sv_el hf; obtain ⟨u31, e_u31, hf⟩ := hf
      refine sx_cv hm dX0_makeMethod_156 rs_RX0_141 mt_X0_readBlock [.int 0] [] (b := l0) (ci := 0) rfl rfl rfl c30 (Nat.le_of_ble_eq_true rfl) (Nat.le_of_ble_eq_true rfl) (by omega) (by omega) (f_X0_readBlock_ok X (by omega) (by omega) nn l0 0 h29 e_u31) ?_
      clear e_u31
      show mx_S X F L 8 159 [(0, .ref l0), (3, .int l3), (5, .int l5)] [.int u31.1] u31.2 0 0 (none, r, 0, 0)
      rcases mx_if_el hf with ⟨c40, hf⟩ | ⟨c40, hf⟩
      · refine sb_if_eq hm dX0_makeMethod_159 (tgt := 199) rfl (fun _ => ?_) (fun z => absurd c40 z)
        refine mx_S.ext [(0, .ref l0), (3, .int l3)] (mx_sub_pos [0, 1] rfl (show ([0, 3, 5] : List Nat).Nodup by decide)) ?_
        exact j_X0_makeMethod_199_ok X hF hL nn l0 l3 u31.2 hf
      · refine sb_if_eq hm dX0_makeMethod_159 (tgt := 199) rfl (fun z => absurd z c40) (fun _ => ?_)
        refine mx_S.pu (pc2 := 163) (lv2 := [(0, .ref l0), (3, .int l3), (5, .int l5)]) (st2 := [.ref l0]) hm dX0_makeMethod_162 rfl ?_
        replace hf := mx_sv_el hf; obtain ⟨v32, e_v32, hf⟩ := hf
        refine sx_get hm dX0_makeMethod_163 rs_RX0_126 (xgi_el e_v32) ?_
        clear e_v32
        refine sx_si (v := 303) hm dX0_makeMethod_166 (by decide) ?_
        rcases mx_if_el hf with ⟨c39, hf⟩ | ⟨c39, hf⟩
        · refine sb_ic_eq hm dX0_makeMethod_169 (tgt := 189) rfl (fun _ => ?_) (fun z => absurd c39 z)
          refine mx_S.ext [(0, .ref l0), (3, .int l3)] (mx_sub_pos [0, 1] rfl (show ([0, 3, 5] : List Nat).Nodup by decide)) ?_
          exact j_X0_makeMethod_189_ok X hF hL nn l0 l3 u31.2 hf
        · refine sb_ic_eq hm dX0_makeMethod_169 (tgt := 189) rfl (fun z => absurd z c39) (fun _ => ?_)
          refine mx_S.pu (pc2 := 173) (lv2 := [(0, .ref l0), (3, .int l3), (5, .int l5)]) (st2 := [.ref l0]) hm dX0_makeMethod_172 rfl ?_
          replace hf := mx_sv_el hf; obtain ⟨v33, e_v33, hf⟩ := hf
          refine sx_get hm dX0_makeMethod_173 rs_RX0_34 (xgr_el e_v33) ?_
          clear e_v33
          refine sx_bi (v := 8) hm dX0_makeMethod_176 (by decide) ?_
          refine mx_S.pu (pc2 := 179) (lv2 := [(0, .ref l0), (3, .int l3), (5, .int l5)]) (st2 := [.ref l0, .int 8, .ref v33]) hm dX0_makeMethod_178 rfl ?_
          replace hf := mx_sv_el hf; obtain ⟨v34, e_v34, hf⟩ := hf
          refine sx_get hm dX0_makeMethod_179 rs_RX0_38 (xgr_el e_v34) ?_
          clear e_v34
          refine mx_S.pu (pc2 := 183) (lv2 := [(0, .ref l0), (3, .int l3), (5, .int l5)]) (st2 := [.int l3, .ref v34, .int 8, .ref v33]) hm dX0_makeMethod_182 rfl ?_
          replace hf := mx_gd_el hf; obtain ⟨c35, hf⟩ := hf
          replace hf := mx_sv_el hf; obtain ⟨u36, e_u36, hf⟩ := hf
          refine sx_cv hm dX0_makeMethod_183 rs_RX0_144 mt_X2_tokenOfMethod [.int l3] [.int 8, .ref v33] (b := v34) (ci := 2) rfl rfl rfl c35 (Nat.le_of_ble_eq_true rfl) (Nat.le_of_ble_eq_true rfl) (by omega) (by omega) (f_X2_tokenOfMethod_ok X (by omega) (by omega) nn v34 l3 u31.2 e_u36) ?_
          clear e_u36
          show mx_S X F L 8 186 [(0, .ref l0), (3, .int l3), (5, .int l5)] [.int u36.1, .int 8, .ref v33] u36.2 0 0 (none, r, 0, 0)
          replace hf := mx_gd_el hf; obtain ⟨c37, hf⟩ := hf
          replace hf := mx_sv_el hf; obtain ⟨u38, e_u38, hf⟩ := hf
          refine sx_cv hm dX0_makeMethod_186 rs_RX0_69 mt_X9_tell [.int 8, .int u36.1] [] (b := v33) (ci := 9) rfl rfl rfl c37 (Nat.le_of_ble_eq_true rfl) (Nat.le_of_ble_eq_true rfl) (by omega) (by omega) (f_X9_tell_ok X (by omega) (by omega) nn v33 8 u36.1 u36.2 e_u38) ?_
          clear e_u38
          show mx_S X F L 8 189 [(0, .ref l0), (3, .int l3), (5, .int l5)] [] u38 0 0 (none, r, 0, 0)
          refine mx_S.ext [(0, .ref l0), (3, .int l3)] (mx_sub_pos [0, 1] rfl (show ([0, 3, 5] : List Nat).Nodup by decide)) ?_
          exact j_X0_makeMethod_189_ok X hF hL nn l0 l3 u38 hf
    · refine sb_ic_ge hm dX0_makeMethod_80 (tgt := 117) rfl (fun z => absurd z c51) (fun _ => ?_)
      refine mx_S.pu (pc2 := 84) (lv2 := [(0, .ref l0), (3, .int l3), (5, .int l5)]) (st2 := [.ref l0]) hm dX0_makeMethod_83 rfl ?_
      replace hf := mx_sv_el hf; obtain ⟨v41, e_v41, hf⟩ := hf
      refine sx_get hm dX0_makeMethod_84 rs_RX0_16 (xgr_el e_v41) ?_
      clear e_v41
      refine mx_S.pu (pc2 := 88) (lv2 := [(0, .ref l0), (3, .int l3), (5, .int l5)]) (st2 := [.ref l0, .ref v41]) hm dX0_makeMethod_87 rfl ?_
      replace hf := mx_sv_el hf; obtain ⟨v42, e_v42, hf⟩ := hf
      refine sx_get hm dX0_makeMethod_88 rs_RX0_38 (xgr_el e_v42) ?_
      clear e_v42
      refine mx_S.pu (pc2 := 92) (lv2 := [(0, .ref l0), (3, .int l3), (5, .int l5)]) (st2 := [.int l3, .ref v42, .ref v41]) hm dX0_makeMethod_91 rfl ?_
      refine mx_S.pu (pc2 := 94) (lv2 := [(0, .ref l0), (3, .int l3), (5, .int l5)]) (st2 := [.int l5, .int l3, .ref v42, .ref v41]) hm dX0_makeMethod_92 rfl ?_
      replace hf := mx_gd_el hf; obtain ⟨c43, hf⟩ := hf
      replace hf := mx_sv_el hf; obtain ⟨u44, e_u44, hf⟩ := hf
      refine sx_cv hm dX0_makeMethod_94 rs_RX0_117 mt_X2_parameterName [.int l3, .int l5] [.ref v41] (b := v42) (ci := 2) rfl rfl rfl c43 (Nat.le_of_ble_eq_true rfl) (Nat.le_of_ble_eq_true rfl) (by omega) (by omega) (f_X2_parameterName_ok X (by omega) (by omega) nn v42 l3 l5 u18.2 e_u44) ?_
      clear e_u44
      show mx_S X F L 8 97 [(0, .ref l0), (3, .int l3), (5, .int l5)] [.int u44.1, .ref v41] u44.2 0 0 (none, r, 0, 0)
      refine mx_S.pu (pc2 := 98) (lv2 := [(0, .ref l0), (3, .int l3), (5, .int l5)]) (st2 := [.ref l0, .int u44.1, .ref v41]) hm dX0_makeMethod_97 rfl ?_
      replace hf := mx_sv_el hf; obtain ⟨v45, e_v45, hf⟩ := hf
      refine sx_get hm dX0_makeMethod_98 rs_RX0_38 (xgr_el e_v45) ?_
      clear e_v45
      refine mx_S.pu (pc2 := 102) (lv2 := [(0, .ref l0), (3, .int l3), (5, .int l5)]) (st2 := [.int l3, .ref v45, .int u44.1, .ref v41]) hm dX0_makeMethod_101 rfl ?_
      refine mx_S.pu (pc2 := 104) (lv2 := [(0, .ref l0), (3, .int l3), (5, .int l5)]) (st2 := [.int l5, .int l3, .ref v45, .int u44.1, .ref v41]) hm dX0_makeMethod_102 rfl ?_
      replace hf := mx_gd_el hf; obtain ⟨c46, hf⟩ := hf
      replace hf := mx_sv_el hf; obtain ⟨u47, e_u47, hf⟩ := hf
      refine sx_cv hm dX0_makeMethod_104 rs_RX0_120 mt_X2_parameterType [.int l3, .int l5] [.int u44.1, .ref v41] (b := v45) (ci := 2) rfl rfl rfl c46 (Nat.le_of_ble_eq_true rfl) (Nat.le_of_ble_eq_true rfl) (by omega) (by omega) (f_X2_parameterType_ok X (by omega) (by omega) nn v45 l3 l5 u44.2 e_u47) ?_
      clear e_u47
      show mx_S X F L 8 107 [(0, .ref l0), (3, .int l3), (5, .int l5)] [.int u47.1, .int u44.1, .ref v41] u47.2 0 0 (none, r, 0, 0)
      replace hf := mx_gd_el hf; obtain ⟨c48, hf⟩ := hf
      replace hf := mx_sv_el hf; obtain ⟨u49, e_u49, hf⟩ := hf
      refine sx_cv hm dX0_makeMethod_107 rs_RX0_110 mt_X1_addLocal [.int u44.1, .int u47.1] [] (b := v41) (ci := 1) rfl rfl rfl c48 (Nat.le_of_ble_eq_true rfl) (Nat.le_of_ble_eq_true rfl) (by omega) (by omega) (f_X1_addLocal_ok X (by omega) (by omega) nn v41 u44.1 u47.1 u47.2 e_u49) ?_
      clear e_u49
      show mx_S X F L 8 110 [(0, .ref l0), (3, .int l3), (5, .int l5)] [.int u49.1] u49.2 0 0 (none, r, 0, 0)
      refine mx_S.pu (pc2 := 111) (lv2 := [(0, .ref l0), (3, .int l3), (5, .int l5)]) (st2 := []) hm dX0_makeMethod_110 rfl ?_
      replace hf := xl_el hf; obtain ⟨v50, e_v50, hf⟩ := hf
      refine mx_S.pu (pc2 := 114) (lv2 := [(5, .int v50), (0, .ref l0), (3, .int l3)]) (st2 := []) hm dX0_makeMethod_111 (by rw [← e_v50]; rfl) ?_
      clear e_v50
      refine mx_S.pu (pc2 := 70) (lv2 := [(5, .int v50), (0, .ref l0), (3, .int l3)]) (st2 := []) hm dX0_makeMethod_114 rfl ?_
      refine mx_S.ext [(0, .ref l0), (3, .int l3), (5, .int v50)] (mx_sub_pos [1, 2, 0] rfl (show ([5, 0, 3] : List Nat).Nodup by decide)) ?_
      exact ih l0 l3 v50 u49.2 _ hf
set_option maxHeartbeats 4000000 in
set_option maxRecDepth 20000 in
theorem f_X0_makeMethod_ok (X : Nat × (Nat → Int32)) {F L : Nat} (hF : 669 ≤ F) (hL : 19809 ≤ L) (nn : Nat) (a0 : Nat) (a1 : Int32) (a2 : Int32) (h : mx_H) {r : mx_H} (hf : f_X0_makeMethod nn a0 a1 a2 h = some r) : mx_R X F L 8 [.ref a0, .int a1, .int a2] h (none, r, 0, 0) := by
  have hm : mx_mt 8 = some (yX0_makeMethod, cX0_makeMethod, 6, none) := mt_X0_makeMethod
  show mx_S X F L 8 0 [(0, .ref a0), (1, .int a1), (2, .int a2)] [] h 0 0 (none, r, 0, 0)
  unfold f_X0_makeMethod at hf
  refine mx_S.pu (pc2 := 1) (lv2 := [(0, .ref a0), (1, .int a1), (2, .int a2)]) (st2 := [.int a1]) hm dX0_makeMethod_0 rfl ?_
  refine sx_bi (v := 12) hm dX0_makeMethod_1 (by decide) ?_
  replace hf := xl_el hf; obtain ⟨v52, e_v52, hf⟩ := hf
  refine mx_S.pu (pc2 := 4) (lv2 := [(0, .ref a0), (1, .int a1), (2, .int a2)]) (st2 := [.int v52]) hm dX0_makeMethod_3 (by rw [← e_v52]; rfl) ?_
  clear e_v52
  refine mx_S.pu (pc2 := 5) (lv2 := [(0, .ref a0), (1, .int a1), (2, .int a2)]) (st2 := [.int a2, .int v52]) hm dX0_makeMethod_4 rfl ?_
  replace hf := xl_el hf; obtain ⟨v53, e_v53, hf⟩ := hf
  refine mx_S.pu (pc2 := 6) (lv2 := [(0, .ref a0), (1, .int a1), (2, .int a2)]) (st2 := [.int v53]) hm dX0_makeMethod_5 (by rw [← e_v53]; rfl) ?_
  clear e_v53
  refine mx_S.pu (pc2 := 7) (lv2 := [(3, .int v53), (0, .ref a0), (1, .int a1), (2, .int a2)]) (st2 := []) hm dX0_makeMethod_6 rfl ?_
  refine sx_bi (v := 8) hm dX0_makeMethod_7 (by decide) ?_
  refine mx_S.pu (pc2 := 10) (lv2 := [(3, .int v53), (0, .ref a0), (1, .int a1), (2, .int a2)]) (st2 := [.int a1, .int 8]) hm dX0_makeMethod_9 rfl ?_
  replace hf := xl_el hf; obtain ⟨v54, e_v54, hf⟩ := hf
  refine mx_S.pu (pc2 := 11) (lv2 := [(3, .int v53), (0, .ref a0), (1, .int a1), (2, .int a2)]) (st2 := [.int v54]) hm dX0_makeMethod_10 (by rw [← e_v54]; rfl) ?_
  clear e_v54
  refine mx_S.pu (pc2 := 13) (lv2 := [(4, .int v54), (3, .int v53), (0, .ref a0), (1, .int a1), (2, .int a2)]) (st2 := []) hm dX0_makeMethod_11 rfl ?_
  refine mx_S.pu (pc2 := 14) (lv2 := [(4, .int v54), (3, .int v53), (0, .ref a0), (1, .int a1), (2, .int a2)]) (st2 := [.ref a0]) hm dX0_makeMethod_13 rfl ?_
  replace hf := mx_sv_el hf; obtain ⟨v55, e_v55, hf⟩ := hf
  refine sx_get hm dX0_makeMethod_14 rs_RX0_52 (xgr_el e_v55) ?_
  clear e_v55
  refine mx_S.pu (pc2 := 18) (lv2 := [(4, .int v54), (3, .int v53), (0, .ref a0), (1, .int a1), (2, .int a2)]) (st2 := [.int v53, .ref v55]) hm dX0_makeMethod_17 rfl ?_
  replace hf := mx_gd_el hf; obtain ⟨c56, hf⟩ := hf
  replace hf := mx_sv_el hf; obtain ⟨u57, e_u57, hf⟩ := hf
  refine sx_cv hm dX0_makeMethod_18 rs_RX0_98 mt_X6_beginMethod [.int v53] [] (b := v55) (ci := 6) rfl rfl rfl c56 (Nat.le_of_ble_eq_true rfl) (Nat.le_of_ble_eq_true rfl) (by omega) (by omega) (f_X6_beginMethod_ok X (by omega) (by omega) nn v55 v53 h e_u57) ?_
  clear e_u57
  show mx_S X F L 8 21 [(4, .int v54), (3, .int v53), (0, .ref a0), (1, .int a1), (2, .int a2)] [] u57 0 0 (none, r, 0, 0)
  refine mx_S.pu (pc2 := 22) (lv2 := [(4, .int v54), (3, .int v53), (0, .ref a0), (1, .int a1), (2, .int a2)]) (st2 := [.ref a0]) hm dX0_makeMethod_21 rfl ?_
  replace hf := mx_sv_el hf; obtain ⟨v58, e_v58, hf⟩ := hf
  refine sx_get hm dX0_makeMethod_22 rs_RX0_16 (xgr_el e_v58) ?_
  clear e_v58
  replace hf := mx_gd_el hf; obtain ⟨c59, hf⟩ := hf
  replace hf := mx_sv_el hf; obtain ⟨u60, e_u60, hf⟩ := hf
  refine sx_cv hm dX0_makeMethod_25 rs_RX0_101 mt_X1_beginMethod [] [] (b := v58) (ci := 1) rfl rfl rfl c59 (Nat.le_of_ble_eq_true rfl) (Nat.le_of_ble_eq_true rfl) (by omega) (by omega) (f_X1_beginMethod_ok X (by omega) (by omega) nn v58 u57 e_u60) ?_
  clear e_u60
  show mx_S X F L 8 28 [(4, .int v54), (3, .int v53), (0, .ref a0), (1, .int a1), (2, .int a2)] [] u60 0 0 (none, r, 0, 0)
  refine mx_S.pu (pc2 := 29) (lv2 := [(4, .int v54), (3, .int v53), (0, .ref a0), (1, .int a1), (2, .int a2)]) (st2 := [.ref a0]) hm dX0_makeMethod_28 rfl ?_
  replace hf := mx_sv_el hf; obtain ⟨v61, e_v61, hf⟩ := hf
  refine sx_get hm dX0_makeMethod_29 rs_RX0_61 (xgr_el e_v61) ?_
  clear e_v61
  refine mx_S.pu (pc2 := 34) (lv2 := [(4, .int v54), (3, .int v53), (0, .ref a0), (1, .int a1), (2, .int a2)]) (st2 := [.int v54, .ref v61]) hm dX0_makeMethod_32 rfl ?_
  refine mx_S.pu (pc2 := 35) (lv2 := [(4, .int v54), (3, .int v53), (0, .ref a0), (1, .int a1), (2, .int a2)]) (st2 := [.ref a0, .int v54, .ref v61]) hm dX0_makeMethod_34 rfl ?_
  replace hf := mx_sv_el hf; obtain ⟨v62, e_v62, hf⟩ := hf
  refine sx_get hm dX0_makeMethod_35 rs_RX0_38 (xgr_el e_v62) ?_
  clear e_v62
  refine mx_S.pu (pc2 := 39) (lv2 := [(4, .int v54), (3, .int v53), (0, .ref a0), (1, .int a1), (2, .int a2)]) (st2 := [.int v53, .ref v62, .int v54, .ref v61]) hm dX0_makeMethod_38 rfl ?_
  replace hf := mx_gd_el hf; obtain ⟨c63, hf⟩ := hf
  replace hf := mx_sv_el hf; obtain ⟨u64, e_u64, hf⟩ := hf
  refine sx_cv hm dX0_makeMethod_39 rs_RX0_103 mt_X2_isFixed [.int v53] [.int v54, .ref v61] (b := v62) (ci := 2) rfl rfl rfl c63 (Nat.le_of_ble_eq_true rfl) (Nat.le_of_ble_eq_true rfl) (by omega) (by omega) (f_X2_isFixed_ok X (by omega) (by omega) nn v62 v53 u60 e_u64) ?_
  clear e_u64
  show mx_S X F L 8 42 [(4, .int v54), (3, .int v53), (0, .ref a0), (1, .int a1), (2, .int a2)] [.int u64.1, .int v54, .ref v61] u64.2 0 0 (none, r, 0, 0)
  replace hf := mx_gd_el hf; obtain ⟨c65, hf⟩ := hf
  replace hf := mx_sv_el hf; obtain ⟨u66, e_u66, hf⟩ := hf
  refine sx_cv hm dX0_makeMethod_42 rs_RX0_107 mt_X10_beginMethod [.int v54, .int u64.1] [] (b := v61) (ci := 10) rfl rfl rfl c65 (Nat.le_of_ble_eq_true rfl) (Nat.le_of_ble_eq_true rfl) (by omega) (by omega) (f_X10_beginMethod_ok X (by omega) (by omega) nn v61 v54 u64.1 u64.2 e_u66) ?_
  clear e_u66
  show mx_S X F L 8 45 [(4, .int v54), (3, .int v53), (0, .ref a0), (1, .int a1), (2, .int a2)] [] u66 0 0 (none, r, 0, 0)
  refine mx_S.pu (pc2 := 46) (lv2 := [(4, .int v54), (3, .int v53), (0, .ref a0), (1, .int a1), (2, .int a2)]) (st2 := [.ref a0]) hm dX0_makeMethod_45 rfl ?_
  replace hf := mx_sv_el hf; obtain ⟨v67, e_v67, hf⟩ := hf
  refine sx_get hm dX0_makeMethod_46 rs_RX0_38 (xgr_el e_v67) ?_
  clear e_v67
  refine mx_S.pu (pc2 := 50) (lv2 := [(4, .int v54), (3, .int v53), (0, .ref a0), (1, .int a1), (2, .int a2)]) (st2 := [.int v53, .ref v67]) hm dX0_makeMethod_49 rfl ?_
  replace hf := mx_gd_el hf; obtain ⟨c68, hf⟩ := hf
  replace hf := mx_sv_el hf; obtain ⟨u69, e_u69, hf⟩ := hf
  refine sx_cv hm dX0_makeMethod_50 rs_RX0_103 mt_X2_isFixed [.int v53] [] (b := v67) (ci := 2) rfl rfl rfl c68 (Nat.le_of_ble_eq_true rfl) (Nat.le_of_ble_eq_true rfl) (by omega) (by omega) (f_X2_isFixed_ok X (by omega) (by omega) nn v67 v53 u66 e_u69) ?_
  clear e_u69
  show mx_S X F L 8 53 [(4, .int v54), (3, .int v53), (0, .ref a0), (1, .int a1), (2, .int a2)] [.int u69.1] u69.2 0 0 (none, r, 0, 0)
  rcases mx_if_el hf with ⟨c73, hf⟩ | ⟨c73, hf⟩
  · refine sb_if_ne hm dX0_makeMethod_53 (tgt := 67) rfl (fun _ => ?_) (fun z => absurd c73 z)
    refine sx_ic (v := 0) hm dX0_makeMethod_67 (by decide) ?_
    refine mx_S.pu (pc2 := 70) (lv2 := [(5, .int 0), (4, .int v54), (3, .int v53), (0, .ref a0), (1, .int a1), (2, .int a2)]) (st2 := []) hm dX0_makeMethod_68 rfl ?_
    refine mx_S.ext [(0, .ref a0), (3, .int v53), (5, .int 0)] (mx_sub_pos [3, 2, 0] rfl (show ([5, 4, 3, 0, 1, 2] : List Nat).Nodup by decide)) ?_
    exact w_X0_makeMethod_70_ok X hF hL nn nn a0 v53 0 u69.2 _ hf
  · refine sb_if_ne hm dX0_makeMethod_53 (tgt := 67) rfl (fun z => absurd z c73) (fun _ => ?_)
    refine mx_S.pu (pc2 := 57) (lv2 := [(4, .int v54), (3, .int v53), (0, .ref a0), (1, .int a1), (2, .int a2)]) (st2 := [.ref a0]) hm dX0_makeMethod_56 rfl ?_
    replace hf := mx_sv_el hf; obtain ⟨v70, e_v70, hf⟩ := hf
    refine sx_get hm dX0_makeMethod_57 rs_RX0_16 (xgr_el e_v70) ?_
    clear e_v70
    refine sx_ic (v := (-1)) hm dX0_makeMethod_60 (by decide) ?_
    refine mx_S.pu (pc2 := 63) (lv2 := [(4, .int v54), (3, .int v53), (0, .ref a0), (1, .int a1), (2, .int a2)]) (st2 := [.int v54, .int (-1), .ref v70]) hm dX0_makeMethod_61 rfl ?_
    replace hf := mx_gd_el hf; obtain ⟨c71, hf⟩ := hf
    replace hf := mx_sv_el hf; obtain ⟨u72, e_u72, hf⟩ := hf
    refine sx_cv hm dX0_makeMethod_63 rs_RX0_110 mt_X1_addLocal [.int (-1), .int v54] [] (b := v70) (ci := 1) rfl rfl rfl c71 (Nat.le_of_ble_eq_true rfl) (Nat.le_of_ble_eq_true rfl) (by omega) (by omega) (f_X1_addLocal_ok X (by omega) (by omega) nn v70 (-1) v54 u69.2 e_u72) ?_
    clear e_u72
    show mx_S X F L 8 66 [(4, .int v54), (3, .int v53), (0, .ref a0), (1, .int a1), (2, .int a2)] [.int u72.1] u72.2 0 0 (none, r, 0, 0)
    refine mx_S.pu (pc2 := 67) (lv2 := [(4, .int v54), (3, .int v53), (0, .ref a0), (1, .int a1), (2, .int a2)]) (st2 := []) hm dX0_makeMethod_66 rfl ?_
    refine sx_ic (v := 0) hm dX0_makeMethod_67 (by decide) ?_
    refine mx_S.pu (pc2 := 70) (lv2 := [(5, .int 0), (4, .int v54), (3, .int v53), (0, .ref a0), (1, .int a1), (2, .int a2)]) (st2 := []) hm dX0_makeMethod_68 rfl ?_
    refine mx_S.ext [(0, .ref a0), (3, .int v53), (5, .int 0)] (mx_sub_pos [3, 2, 0] rfl (show ([5, 4, 3, 0, 1, 2] : List Nat).Nodup by decide)) ?_
    exact w_X0_makeMethod_70_ok X hF hL nn nn a0 v53 0 u72.2 _ hf
set_option maxHeartbeats 4000000 in
set_option maxRecDepth 20000 in
theorem f_X0_made_ok (X : Nat × (Nat → Int32)) {F L : Nat} (hF : 0 ≤ F) (hL : 0 ≤ L) (nn : Nat) (a0 : Nat) (a1 : Int32) (h : mx_H) {r : (Option Nat × mx_H)} (hf : f_X0_made nn a0 a1 h = some r) : mx_R X F L 2 [.ref a0, .int a1] h (some (va_rf r.1), r.2, 0, 0) := by
  have hm : mx_mt 2 = some (yX0_made, cX0_made, 2, (some (.array .byte))) := mt_X0_made
  show mx_S X F L 2 0 [(0, .ref a0), (1, .int a1)] [] h 0 0 (some (va_rf r.1), r.2, 0, 0)
  unfold f_X0_made at hf
  refine mx_S.pu (pc2 := 1) (lv2 := [(0, .ref a0), (1, .int a1)]) (st2 := [.int a1]) hm dX0_made_0 rfl ?_
  rcases mx_if_el hf with ⟨c6, hf⟩ | ⟨c6, hf⟩
  · refine sb_if_lt hm dX0_made_1 (tgt := 22) rfl (fun _ => ?_) (fun z => absurd c6 z)
    refine mx_S.pu (pc2 := 23) (lv2 := [(0, .ref a0), (1, .int a1)]) (st2 := [va_rf none]) hm dX0_made_22 rfl ?_
    cases hf
    exact sx_are hm dX0_made_23 rfl rfl (v := none)
  · refine sb_if_lt hm dX0_made_1 (tgt := 22) rfl (fun z => absurd z c6) (fun _ => ?_)
    refine mx_S.pu (pc2 := 5) (lv2 := [(0, .ref a0), (1, .int a1)]) (st2 := [.int a1]) hm dX0_made_4 rfl ?_
    refine mx_S.pu (pc2 := 6) (lv2 := [(0, .ref a0), (1, .int a1)]) (st2 := [.ref a0, .int a1]) hm dX0_made_5 rfl ?_
    replace hf := mx_sv_el hf; obtain ⟨v1, e_v1, hf⟩ := hf
    refine sx_get hm dX0_made_6 rs_RX0_26 (xgr_el e_v1) ?_
    clear e_v1
    replace hf := mx_sv_el hf; obtain ⟨v2, e_v2, hf⟩ := hf
    refine sx_len hm dX0_made_9 e_v2 ?_
    clear e_v2
    rcases mx_if_el hf with ⟨c5, hf⟩ | ⟨c5, hf⟩
    · refine sb_ic_ge hm dX0_made_10 (tgt := 22) rfl (fun _ => ?_) (fun z => absurd c5 z)
      refine mx_S.pu (pc2 := 23) (lv2 := [(0, .ref a0), (1, .int a1)]) (st2 := [va_rf none]) hm dX0_made_22 rfl ?_
      cases hf
      exact sx_are hm dX0_made_23 rfl rfl (v := none)
    · refine sb_ic_ge hm dX0_made_10 (tgt := 22) rfl (fun z => absurd z c5) (fun _ => ?_)
      refine mx_S.pu (pc2 := 14) (lv2 := [(0, .ref a0), (1, .int a1)]) (st2 := [.ref a0]) hm dX0_made_13 rfl ?_
      replace hf := mx_sv_el hf; obtain ⟨v3, e_v3, hf⟩ := hf
      refine sx_get hm dX0_made_14 rs_RX0_26 (xgr_el e_v3) ?_
      clear e_v3
      refine mx_S.pu (pc2 := 18) (lv2 := [(0, .ref a0), (1, .int a1)]) (st2 := [.int a1, .ref v3]) hm dX0_made_17 rfl ?_
      replace hf := mx_sv_el hf; obtain ⟨v4, e_v4, hf⟩ := hf
      refine sx_qld hm dX0_made_18 e_v4 ?_
      clear e_v4
      refine mx_S.pu (pc2 := 23) (lv2 := [(0, .ref a0), (1, .int a1)]) (st2 := [va_rf v4]) hm dX0_made_19 rfl ?_
      cases hf
      exact sx_are hm dX0_made_23 rfl rfl (v := v4)
set_option maxHeartbeats 4000000 in
set_option maxRecDepth 20000 in
theorem w_X12_takeImages_13_ok (X : Nat × (Nat → Int32)) {F L : Nat} (hF : 1 ≤ F) (hL : 21 ≤ L) (nn : Nat) : ∀ (k : Nat) (l0 : Nat) (l1 : Int32) (h : mx_H) (r : (Int32 × mx_H)), w_X12_takeImages_13 nn k l0 l1 h = some r → mx_S X F L 364 13 [(0, .ref l0), (1, .int l1)] [] h 0 0 (some (.int r.1), r.2, 0, 0) := by
  have hm : mx_mt 364 = some (yX12_takeImages, cX12_takeImages, 2, (some .int)) := mt_X12_takeImages
  intro k
  induction k with
  | zero => intro l0 l1 h r hf; cases hf
  | succ k ih =>
    intro l0 l1 h r hf
    unfold w_X12_takeImages_13 at hf
    refine mx_S.pu (pc2 := 14) (lv2 := [(0, .ref l0), (1, .int l1)]) (st2 := [.int l1]) hm dX12_takeImages_13 rfl ?_
    refine mx_S.pu (pc2 := 15) (lv2 := [(0, .ref l0), (1, .int l1)]) (st2 := [.ref l0, .int l1]) hm dX12_takeImages_14 rfl ?_
    replace hf := mx_sv_el hf; obtain ⟨v1, e_v1, hf⟩ := hf
    refine sx_get hm dX12_takeImages_15 rs_RX12_136 (xgi_el e_v1) ?_
    clear e_v1
    rcases mx_if_el hf with ⟨c13, hf⟩ | ⟨c13, hf⟩
    · refine sb_ic_ge hm dX12_takeImages_18 (tgt := 50) rfl (fun _ => ?_) (fun z => absurd c13 z)
      refine mx_S.pu (pc2 := 51) (lv2 := [(0, .ref l0), (1, .int l1)]) (st2 := [.ref l0]) hm dX12_takeImages_50 rfl ?_
      replace hf := mx_sv_el hf; obtain ⟨v2, e_v2, hf⟩ := hf
      refine sx_get hm dX12_takeImages_51 rs_RX12_136 (xgi_el e_v2) ?_
      clear e_v2
      cases hf
      exact sx_ire hm dX12_takeImages_54 rfl rfl
    · refine sb_ic_ge hm dX12_takeImages_18 (tgt := 50) rfl (fun z => absurd z c13) (fun _ => ?_)
      refine mx_S.pu (pc2 := 22) (lv2 := [(0, .ref l0), (1, .int l1)]) (st2 := [.int l1]) hm dX12_takeImages_21 rfl ?_
      refine mx_S.pu (pc2 := 23) (lv2 := [(0, .ref l0), (1, .int l1)]) (st2 := [.ref l0, .int l1]) hm dX12_takeImages_22 rfl ?_
      replace hf := mx_sv_el hf; obtain ⟨v3, e_v3, hf⟩ := hf
      refine sx_get hm dX12_takeImages_23 rs_RX12_46 (xgr_el e_v3) ?_
      clear e_v3
      replace hf := mx_sv_el hf; obtain ⟨v4, e_v4, hf⟩ := hf
      refine sx_len hm dX12_takeImages_26 e_v4 ?_
      clear e_v4
      rcases mx_if_el hf with ⟨c12, hf⟩ | ⟨c12, hf⟩
      · refine sb_ic_ge hm dX12_takeImages_27 (tgt := 50) rfl (fun _ => ?_) (fun z => absurd c12 z)
        refine mx_S.pu (pc2 := 51) (lv2 := [(0, .ref l0), (1, .int l1)]) (st2 := [.ref l0]) hm dX12_takeImages_50 rfl ?_
        replace hf := mx_sv_el hf; obtain ⟨v5, e_v5, hf⟩ := hf
        refine sx_get hm dX12_takeImages_51 rs_RX12_136 (xgi_el e_v5) ?_
        clear e_v5
        cases hf
        exact sx_ire hm dX12_takeImages_54 rfl rfl
      · refine sb_ic_ge hm dX12_takeImages_27 (tgt := 50) rfl (fun z => absurd z c12) (fun _ => ?_)
        refine mx_S.pu (pc2 := 31) (lv2 := [(0, .ref l0), (1, .int l1)]) (st2 := [.ref l0]) hm dX12_takeImages_30 rfl ?_
        replace hf := mx_sv_el hf; obtain ⟨v6, e_v6, hf⟩ := hf
        refine sx_get hm dX12_takeImages_31 rs_RX12_46 (xgr_el e_v6) ?_
        clear e_v6
        refine mx_S.pu (pc2 := 35) (lv2 := [(0, .ref l0), (1, .int l1)]) (st2 := [.int l1, .ref v6]) hm dX12_takeImages_34 rfl ?_
        refine mx_S.pu (pc2 := 36) (lv2 := [(0, .ref l0), (1, .int l1)]) (st2 := [.ref l0, .int l1, .ref v6]) hm dX12_takeImages_35 rfl ?_
        replace hf := mx_sv_el hf; obtain ⟨v7, e_v7, hf⟩ := hf
        refine sx_get hm dX12_takeImages_36 rs_RX12_41 (xgr_el e_v7) ?_
        clear e_v7
        refine mx_S.pu (pc2 := 40) (lv2 := [(0, .ref l0), (1, .int l1)]) (st2 := [.int l1, .ref v7, .int l1, .ref v6]) hm dX12_takeImages_39 rfl ?_
        replace hf := mx_gd_el hf; obtain ⟨c8, hf⟩ := hf
        replace hf := mx_sv_el hf; obtain ⟨u9, e_u9, hf⟩ := hf
        refine sx_cv hm dX12_takeImages_40 rs_RX12_139 mt_X0_made [.int l1] [.int l1, .ref v6] (b := v7) (ci := 0) rfl rfl rfl c8 (Nat.le_of_ble_eq_true rfl) (Nat.le_of_ble_eq_true rfl) (by omega) (by omega) (f_X0_made_ok X (by omega) (by omega) nn v7 l1 h e_u9) ?_
        clear e_u9
        show mx_S X F L 364 43 [(0, .ref l0), (1, .int l1)] [va_rf u9.1, .int l1, .ref v6] u9.2 0 0 (some (.int r.1), r.2, 0, 0)
        replace hf := mx_sv_el hf; obtain ⟨h10, e_h10, hf⟩ := hf
        refine sx_qst (x := u9.1) hm dX12_takeImages_43 e_h10 ?_
        clear e_h10
        replace hf := xl_el hf; obtain ⟨v11, e_v11, hf⟩ := hf
        refine mx_S.pu (pc2 := 47) (lv2 := [(1, .int v11), (0, .ref l0)]) (st2 := []) hm dX12_takeImages_44 (by rw [← e_v11]; rfl) ?_
        clear e_v11
        refine mx_S.pu (pc2 := 13) (lv2 := [(1, .int v11), (0, .ref l0)]) (st2 := []) hm dX12_takeImages_47 rfl ?_
        refine mx_S.ext [(0, .ref l0), (1, .int v11)] (mx_sub_pos [1, 0] rfl (show ([1, 0] : List Nat).Nodup by decide)) ?_
        exact ih l0 v11 h10 _ hf
set_option maxHeartbeats 4000000 in
set_option maxRecDepth 20000 in
theorem f_X12_takeImages_ok (X : Nat × (Nat → Int32)) {F L : Nat} (hF : 1 ≤ F) (hL : 21 ≤ L) (nn : Nat) (a0 : Nat) (h : mx_H) {r : (Int32 × mx_H)} (hf : f_X12_takeImages nn a0 h = some r) : mx_R X F L 364 [.ref a0] h (some (.int r.1), r.2, 0, 0) := by
  have hm : mx_mt 364 = some (yX12_takeImages, cX12_takeImages, 2, (some .int)) := mt_X12_takeImages
  show mx_S X F L 364 0 [(0, .ref a0)] [] h 0 0 (some (.int r.1), r.2, 0, 0)
  unfold f_X12_takeImages at hf
  refine mx_S.pu (pc2 := 1) (lv2 := [(0, .ref a0)]) (st2 := [.ref a0]) hm dX12_takeImages_0 rfl ?_
  refine mx_S.pu (pc2 := 2) (lv2 := [(0, .ref a0)]) (st2 := [.ref a0, .ref a0]) hm dX12_takeImages_1 rfl ?_
  replace hf := mx_sv_el hf; obtain ⟨v14, e_v14, hf⟩ := hf
  refine sx_get hm dX12_takeImages_2 rs_RX12_25 (xgr_el e_v14) ?_
  clear e_v14
  replace hf := mx_sv_el hf; obtain ⟨v15, e_v15, hf⟩ := hf
  refine sx_get hm dX12_takeImages_5 rs_RX12_110 (xgi_el e_v15) ?_
  clear e_v15
  replace hf := mx_sv_el hf; obtain ⟨h16, e_h16, hf⟩ := hf
  refine sx_put hm dX12_takeImages_8 rs_RX12_136 ft_12_7 ⟨rfl, rfl⟩ (fun z => by cases z) e_h16 ?_
  clear e_h16
  refine sx_ic (v := 0) hm dX12_takeImages_11 (by decide) ?_
  refine mx_S.pu (pc2 := 13) (lv2 := [(1, .int 0), (0, .ref a0)]) (st2 := []) hm dX12_takeImages_12 rfl ?_
  refine mx_S.ext [(0, .ref a0), (1, .int 0)] (mx_sub_pos [1, 0] rfl (show ([1, 0] : List Nat).Nodup by decide)) ?_
  exact w_X12_takeImages_13_ok X hF hL nn nn a0 0 h16 _ hf
set_option maxHeartbeats 4000000 in
set_option maxRecDepth 20000 in
theorem j_X2_checkOverride_131_ok (X : Nat × (Nat → Int32)) {F L : Nat} (hF : 3 ≤ F) (hL : 69 ≤ L) (nn : Nat) (l0 : Nat) (l1 : Int32) (l3 : Int32) (h : mx_H) {r : mx_H} (hf : j_X2_checkOverride_131 nn l0 l1 l3 h = some r) : mx_S X F L 70 131 [(0, .ref l0), (1, .int l1), (3, .int l3)] [] h 0 0 (none, r, 0, 0) := by
  have hm : mx_mt 70 = some (yX2_checkOverride, cX2_checkOverride, 5, none) := mt_X2_checkOverride
  unfold j_X2_checkOverride_131 at hf
  refine mx_S.pu (pc2 := 132) (lv2 := [(0, .ref l0), (1, .int l1), (3, .int l3)]) (st2 := [.int l3]) hm dX2_checkOverride_131 rfl ?_
  rcases mx_if_el hf with ⟨c6, hf⟩ | ⟨c6, hf⟩
  · refine sb_if_ne hm dX2_checkOverride_132 (tgt := 150) rfl (fun _ => ?_) (fun z => absurd c6 z)
    cases hf
    exact sx_ret hm dX2_checkOverride_150 rfl
  · refine sb_if_ne hm dX2_checkOverride_132 (tgt := 150) rfl (fun z => absurd z c6) (fun _ => ?_)
    refine mx_S.pu (pc2 := 136) (lv2 := [(0, .ref l0), (1, .int l1), (3, .int l3)]) (st2 := [.ref l0]) hm dX2_checkOverride_135 rfl ?_
    replace hf := mx_sv_el hf; obtain ⟨v1, e_v1, hf⟩ := hf
    refine sx_get hm dX2_checkOverride_136 rs_RX2_74 (xgr_el e_v1) ?_
    clear e_v1
    refine sx_bi (v := 10) hm dX2_checkOverride_139 (by decide) ?_
    refine mx_S.pu (pc2 := 142) (lv2 := [(0, .ref l0), (1, .int l1), (3, .int l3)]) (st2 := [.ref l0, .int 10, .ref v1]) hm dX2_checkOverride_141 rfl ?_
    replace hf := mx_sv_el hf; obtain ⟨v2, e_v2, hf⟩ := hf
    refine sx_get hm dX2_checkOverride_142 rs_RX2_42 (xgr_el e_v2) ?_
    clear e_v2
    refine mx_S.pu (pc2 := 146) (lv2 := [(0, .ref l0), (1, .int l1), (3, .int l3)]) (st2 := [.int l1, .ref v2, .int 10, .ref v1]) hm dX2_checkOverride_145 rfl ?_
    replace hf := mx_sv_el hf; obtain ⟨v3, e_v3, hf⟩ := hf
    refine sx_ald hm dX2_checkOverride_146 e_v3 ?_
    clear e_v3
    replace hf := mx_gd_el hf; obtain ⟨c4, hf⟩ := hf
    replace hf := mx_sv_el hf; obtain ⟨u5, e_u5, hf⟩ := hf
    refine sx_cv hm dX2_checkOverride_147 rs_RX2_186 mt_X9_tell [.int 10, .int v3] [] (b := v1) (ci := 9) rfl rfl rfl c4 (Nat.le_of_ble_eq_true rfl) (Nat.le_of_ble_eq_true rfl) (by omega) (by omega) (f_X9_tell_ok X (by omega) (by omega) nn v1 10 v3 h e_u5) ?_
    clear e_u5
    show mx_S X F L 70 150 [(0, .ref l0), (1, .int l1), (3, .int l3)] [] u5 0 0 (none, r, 0, 0)
    cases hf
    exact sx_ret hm dX2_checkOverride_150 rfl
set_option maxHeartbeats 4000000 in
set_option maxRecDepth 20000 in
theorem w_X2_checkOverride_87_ok (X : Nat × (Nat → Int32)) {F L : Nat} (hF : 3 ≤ F) (hL : 69 ≤ L) (nn : Nat) : ∀ (k : Nat) (l0 : Nat) (l1 : Int32) (l2 : Int32) (l3 : Int32) (l4 : Int32) (h : mx_H) (r : mx_H), w_X2_checkOverride_87 nn k l0 l1 l2 l3 l4 h = some r → mx_S X F L 70 87 [(0, .ref l0), (1, .int l1), (2, .int l2), (3, .int l3), (4, .int l4)] [] h 0 0 (none, r, 0, 0) := by
  have hm : mx_mt 70 = some (yX2_checkOverride, cX2_checkOverride, 5, none) := mt_X2_checkOverride
  intro k
  induction k with
  | zero => intro l0 l1 l2 l3 l4 h r hf; cases hf
  | succ k ih =>
    intro l0 l1 l2 l3 l4 h r hf
    unfold w_X2_checkOverride_87 at hf
    refine mx_S.pu (pc2 := 89) (lv2 := [(0, .ref l0), (1, .int l1), (2, .int l2), (3, .int l3), (4, .int l4)]) (st2 := [.int l4]) hm dX2_checkOverride_87 rfl ?_
    refine mx_S.pu (pc2 := 90) (lv2 := [(0, .ref l0), (1, .int l1), (2, .int l2), (3, .int l3), (4, .int l4)]) (st2 := [.ref l0, .int l4]) hm dX2_checkOverride_89 rfl ?_
    replace hf := mx_sv_el hf; obtain ⟨v7, e_v7, hf⟩ := hf
    refine sx_get hm dX2_checkOverride_90 rs_RX2_58 (xgr_el e_v7) ?_
    clear e_v7
    refine mx_S.pu (pc2 := 94) (lv2 := [(0, .ref l0), (1, .int l1), (2, .int l2), (3, .int l3), (4, .int l4)]) (st2 := [.int l1, .ref v7, .int l4]) hm dX2_checkOverride_93 rfl ?_
    replace hf := mx_sv_el hf; obtain ⟨v8, e_v8, hf⟩ := hf
    refine sx_ald hm dX2_checkOverride_94 e_v8 ?_
    clear e_v8
    rcases mx_if_el hf with ⟨c17, hf⟩ | ⟨c17, hf⟩
    · refine sb_ic_ge hm dX2_checkOverride_95 (tgt := 131) rfl (fun _ => ?_) (fun z => absurd c17 z)
      refine mx_S.ext [(0, .ref l0), (1, .int l1), (3, .int l3)] (mx_sub_pos [0, 1, 3] rfl (show ([0, 1, 2, 3, 4] : List Nat).Nodup by decide)) ?_
      exact j_X2_checkOverride_131_ok X hF hL nn l0 l1 l3 h hf
    · refine sb_ic_ge hm dX2_checkOverride_95 (tgt := 131) rfl (fun z => absurd z c17) (fun _ => ?_)
      refine mx_S.pu (pc2 := 99) (lv2 := [(0, .ref l0), (1, .int l1), (2, .int l2), (3, .int l3), (4, .int l4)]) (st2 := [.int l3]) hm dX2_checkOverride_98 rfl ?_
      rcases mx_if_el hf with ⟨c16, hf⟩ | ⟨c16, hf⟩
      · refine sb_if_eq hm dX2_checkOverride_99 (tgt := 131) rfl (fun _ => ?_) (fun z => absurd c16 z)
        refine mx_S.ext [(0, .ref l0), (1, .int l1), (3, .int l3)] (mx_sub_pos [0, 1, 3] rfl (show ([0, 1, 2, 3, 4] : List Nat).Nodup by decide)) ?_
        exact j_X2_checkOverride_131_ok X hF hL nn l0 l1 l3 h hf
      · refine sb_if_eq hm dX2_checkOverride_99 (tgt := 131) rfl (fun z => absurd z c16) (fun _ => ?_)
        refine mx_S.pu (pc2 := 103) (lv2 := [(0, .ref l0), (1, .int l1), (2, .int l2), (3, .int l3), (4, .int l4)]) (st2 := [.ref l0]) hm dX2_checkOverride_102 rfl ?_
        refine mx_S.pu (pc2 := 104) (lv2 := [(0, .ref l0), (1, .int l1), (2, .int l2), (3, .int l3), (4, .int l4)]) (st2 := [.int l1, .ref l0]) hm dX2_checkOverride_103 rfl ?_
        refine mx_S.pu (pc2 := 106) (lv2 := [(0, .ref l0), (1, .int l1), (2, .int l2), (3, .int l3), (4, .int l4)]) (st2 := [.int l4, .int l1, .ref l0]) hm dX2_checkOverride_104 rfl ?_
        replace hf := mx_gd_el hf; obtain ⟨c9, hf⟩ := hf
        replace hf := mx_sv_el hf; obtain ⟨u10, e_u10, hf⟩ := hf
        refine sx_cv hm dX2_checkOverride_106 rs_RX2_157 mt_X2_parameterType [.int l1, .int l4] [] (b := l0) (ci := 2) rfl rfl rfl c9 (Nat.le_of_ble_eq_true rfl) (Nat.le_of_ble_eq_true rfl) (by omega) (by omega) (f_X2_parameterType_ok X (by omega) (by omega) nn l0 l1 l4 h e_u10) ?_
        clear e_u10
        show mx_S X F L 70 109 [(0, .ref l0), (1, .int l1), (2, .int l2), (3, .int l3), (4, .int l4)] [.int u10.1] u10.2 0 0 (none, r, 0, 0)
        refine mx_S.pu (pc2 := 110) (lv2 := [(0, .ref l0), (1, .int l1), (2, .int l2), (3, .int l3), (4, .int l4)]) (st2 := [.ref l0, .int u10.1]) hm dX2_checkOverride_109 rfl ?_
        refine mx_S.pu (pc2 := 111) (lv2 := [(0, .ref l0), (1, .int l1), (2, .int l2), (3, .int l3), (4, .int l4)]) (st2 := [.int l2, .ref l0, .int u10.1]) hm dX2_checkOverride_110 rfl ?_
        refine mx_S.pu (pc2 := 113) (lv2 := [(0, .ref l0), (1, .int l1), (2, .int l2), (3, .int l3), (4, .int l4)]) (st2 := [.int l4, .int l2, .ref l0, .int u10.1]) hm dX2_checkOverride_111 rfl ?_
        replace hf := mx_gd_el hf; obtain ⟨c11, hf⟩ := hf
        replace hf := mx_sv_el hf; obtain ⟨u12, e_u12, hf⟩ := hf
        refine sx_cv hm dX2_checkOverride_113 rs_RX2_157 mt_X2_parameterType [.int l2, .int l4] [.int u10.1] (b := l0) (ci := 2) rfl rfl rfl c11 (Nat.le_of_ble_eq_true rfl) (Nat.le_of_ble_eq_true rfl) (by omega) (by omega) (f_X2_parameterType_ok X (by omega) (by omega) nn l0 l2 l4 u10.2 e_u12) ?_
        clear e_u12
        show mx_S X F L 70 116 [(0, .ref l0), (1, .int l1), (2, .int l2), (3, .int l3), (4, .int l4)] [.int u12.1, .int u10.1] u12.2 0 0 (none, r, 0, 0)
        rcases mx_if_el hf with ⟨c15, hf⟩ | ⟨c15, hf⟩
        · refine sb_ic_ne hm dX2_checkOverride_116 (tgt := 123) rfl (fun _ => ?_) (fun z => absurd c15 z)
          refine sx_ic (v := 0) hm dX2_checkOverride_123 (by decide) ?_
          refine mx_S.pu (pc2 := 125) (lv2 := [(3, .int 0), (0, .ref l0), (1, .int l1), (2, .int l2), (4, .int l4)]) (st2 := []) hm dX2_checkOverride_124 rfl ?_
          replace hf := xl_el hf; obtain ⟨v13, e_v13, hf⟩ := hf
          refine mx_S.pu (pc2 := 128) (lv2 := [(4, .int v13), (3, .int 0), (0, .ref l0), (1, .int l1), (2, .int l2)]) (st2 := []) hm dX2_checkOverride_125 (by rw [← e_v13]; rfl) ?_
          clear e_v13
          refine mx_S.pu (pc2 := 87) (lv2 := [(4, .int v13), (3, .int 0), (0, .ref l0), (1, .int l1), (2, .int l2)]) (st2 := []) hm dX2_checkOverride_128 rfl ?_
          refine mx_S.ext [(0, .ref l0), (1, .int l1), (2, .int l2), (3, .int 0), (4, .int v13)] (mx_sub_pos [2, 3, 4, 1, 0] rfl (show ([4, 3, 0, 1, 2] : List Nat).Nodup by decide)) ?_
          exact ih l0 l1 l2 0 v13 u12.2 _ hf
        · refine sb_ic_ne hm dX2_checkOverride_116 (tgt := 123) rfl (fun z => absurd z c15) (fun _ => ?_)
          refine sx_ic (v := 1) hm dX2_checkOverride_119 (by decide) ?_
          refine mx_S.pu (pc2 := 124) (lv2 := [(0, .ref l0), (1, .int l1), (2, .int l2), (3, .int l3), (4, .int l4)]) (st2 := [.int 1]) hm dX2_checkOverride_120 rfl ?_
          refine mx_S.pu (pc2 := 125) (lv2 := [(3, .int 1), (0, .ref l0), (1, .int l1), (2, .int l2), (4, .int l4)]) (st2 := []) hm dX2_checkOverride_124 rfl ?_
          replace hf := xl_el hf; obtain ⟨v14, e_v14, hf⟩ := hf
          refine mx_S.pu (pc2 := 128) (lv2 := [(4, .int v14), (3, .int 1), (0, .ref l0), (1, .int l1), (2, .int l2)]) (st2 := []) hm dX2_checkOverride_125 (by rw [← e_v14]; rfl) ?_
          clear e_v14
          refine mx_S.pu (pc2 := 87) (lv2 := [(4, .int v14), (3, .int 1), (0, .ref l0), (1, .int l1), (2, .int l2)]) (st2 := []) hm dX2_checkOverride_128 rfl ?_
          refine mx_S.ext [(0, .ref l0), (1, .int l1), (2, .int l2), (3, .int 1), (4, .int v14)] (mx_sub_pos [2, 3, 4, 1, 0] rfl (show ([4, 3, 0, 1, 2] : List Nat).Nodup by decide)) ?_
          exact ih l0 l1 l2 1 v14 u12.2 _ hf
set_option maxHeartbeats 4000000 in
set_option maxRecDepth 20000 in
theorem j_X2_checkOverride_82_ok (X : Nat × (Nat → Int32)) {F L : Nat} (hF : 3 ≤ F) (hL : 69 ≤ L) (nn : Nat) (l0 : Nat) (l1 : Int32) (l2 : Int32) (h : mx_H) {r : mx_H} (hf : j_X2_checkOverride_82 nn l0 l1 l2 h = some r) : mx_S X F L 70 82 [(0, .ref l0), (1, .int l1), (2, .int l2)] [] h 0 0 (none, r, 0, 0) := by
  have hm : mx_mt 70 = some (yX2_checkOverride, cX2_checkOverride, 5, none) := mt_X2_checkOverride
  unfold j_X2_checkOverride_82 at hf
  refine sx_ic (v := 0) hm dX2_checkOverride_82 (by decide) ?_
  refine mx_S.pu (pc2 := 84) (lv2 := [(3, .int 0), (0, .ref l0), (1, .int l1), (2, .int l2)]) (st2 := []) hm dX2_checkOverride_83 rfl ?_
  refine sx_ic (v := 0) hm dX2_checkOverride_84 (by decide) ?_
  refine mx_S.pu (pc2 := 87) (lv2 := [(4, .int 0), (3, .int 0), (0, .ref l0), (1, .int l1), (2, .int l2)]) (st2 := []) hm dX2_checkOverride_85 rfl ?_
  refine mx_S.ext [(0, .ref l0), (1, .int l1), (2, .int l2), (3, .int 0), (4, .int 0)] (mx_sub_pos [2, 3, 4, 1, 0] rfl (show ([4, 3, 0, 1, 2] : List Nat).Nodup by decide)) ?_
  exact w_X2_checkOverride_87_ok X hF hL nn nn l0 l1 l2 0 0 h _ hf
set_option maxHeartbeats 4000000 in
set_option maxRecDepth 20000 in
theorem f_X2_checkOverride_ok (X : Nat × (Nat → Int32)) {F L : Nat} (hF : 3 ≤ F) (hL : 69 ≤ L) (nn : Nat) (a0 : Nat) (a1 : Int32) (h : mx_H) {r : mx_H} (hf : f_X2_checkOverride nn a0 a1 h = some r) : mx_R X F L 70 [.ref a0, .int a1] h (none, r, 0, 0) := by
  have hm : mx_mt 70 = some (yX2_checkOverride, cX2_checkOverride, 5, none) := mt_X2_checkOverride
  show mx_S X F L 70 0 [(0, .ref a0), (1, .int a1)] [] h 0 0 (none, r, 0, 0)
  unfold f_X2_checkOverride at hf
  refine mx_S.pu (pc2 := 1) (lv2 := [(0, .ref a0), (1, .int a1)]) (st2 := [.ref a0]) hm dX2_checkOverride_0 rfl ?_
  refine mx_S.pu (pc2 := 2) (lv2 := [(0, .ref a0), (1, .int a1)]) (st2 := [.ref a0, .ref a0]) hm dX2_checkOverride_1 rfl ?_
  replace hf := mx_sv_el hf; obtain ⟨v18, e_v18, hf⟩ := hf
  refine sx_get hm dX2_checkOverride_2 rs_RX2_14 (xgr_el e_v18) ?_
  clear e_v18
  refine sx_bi (v := 8) hm dX2_checkOverride_5 (by decide) ?_
  refine mx_S.pu (pc2 := 8) (lv2 := [(0, .ref a0), (1, .int a1)]) (st2 := [.int a1, .int 8, .ref v18, .ref a0]) hm dX2_checkOverride_7 rfl ?_
  refine sx_bi (v := 12) hm dX2_checkOverride_8 (by decide) ?_
  replace hf := xl_el hf; obtain ⟨v19, e_v19, hf⟩ := hf
  refine sx_idiv (v := v19) hm dX2_checkOverride_10 (by decide) e_v19 ?_
  clear e_v19
  replace hf := xl_el hf; obtain ⟨v20, e_v20, hf⟩ := hf
  refine mx_S.pu (pc2 := 12) (lv2 := [(0, .ref a0), (1, .int a1)]) (st2 := [.int v20, .ref v18, .ref a0]) hm dX2_checkOverride_11 (by rw [← e_v20]; rfl) ?_
  clear e_v20
  replace hf := mx_gd_el hf; obtain ⟨c21, hf⟩ := hf
  replace hf := mx_sv_el hf; obtain ⟨u22, e_u22, hf⟩ := hf
  refine sx_cv hm dX2_checkOverride_12 rs_RX2_215 mt_X4_above [.int v20] [.ref a0] (b := v18) (ci := 4) rfl rfl rfl c21 (Nat.le_of_ble_eq_true rfl) (Nat.le_of_ble_eq_true rfl) (by omega) (by omega) (f_X4_above_ok X (by omega) (by omega) nn v18 v20 h e_u22) ?_
  clear e_u22
  show mx_S X F L 70 15 [(0, .ref a0), (1, .int a1)] [.int u22.1, .ref a0] u22.2 0 0 (none, r, 0, 0)
  refine mx_S.pu (pc2 := 16) (lv2 := [(0, .ref a0), (1, .int a1)]) (st2 := [.ref a0, .int u22.1, .ref a0]) hm dX2_checkOverride_15 rfl ?_
  refine mx_S.pu (pc2 := 17) (lv2 := [(0, .ref a0), (1, .int a1)]) (st2 := [.int a1, .ref a0, .int u22.1, .ref a0]) hm dX2_checkOverride_16 rfl ?_
  replace hf := mx_gd_el hf; obtain ⟨c23, hf⟩ := hf
  replace hf := mx_sv_el hf; obtain ⟨u24, e_u24, hf⟩ := hf
  refine sx_cv hm dX2_checkOverride_17 rs_RX2_218 mt_X2_nameOfMethod [.int a1] [.int u22.1, .ref a0] (b := a0) (ci := 2) rfl rfl rfl c23 (Nat.le_of_ble_eq_true rfl) (Nat.le_of_ble_eq_true rfl) (by omega) (by omega) (f_X2_nameOfMethod_ok X (by omega) (by omega) nn a0 a1 u22.2 e_u24) ?_
  clear e_u24
  show mx_S X F L 70 20 [(0, .ref a0), (1, .int a1)] [.int u24.1, .int u22.1, .ref a0] u24.2 0 0 (none, r, 0, 0)
  replace hf := mx_gd_el hf; obtain ⟨c25, hf⟩ := hf
  replace hf := mx_sv_el hf; obtain ⟨u26, e_u26, hf⟩ := hf
  refine sx_cv hm dX2_checkOverride_20 rs_RX2_221 mt_X2_methodOf [.int u22.1, .int u24.1] [] (b := a0) (ci := 2) rfl rfl rfl c25 (Nat.le_of_ble_eq_true rfl) (Nat.le_of_ble_eq_true rfl) (by omega) (by omega) (f_X2_methodOf_ok X (by omega) (by omega) nn a0 u22.1 u24.1 u24.2 e_u26) ?_
  clear e_u26
  show mx_S X F L 70 23 [(0, .ref a0), (1, .int a1)] [.int u26.1] u26.2 0 0 (none, r, 0, 0)
  refine mx_S.pu (pc2 := 24) (lv2 := [(2, .int u26.1), (0, .ref a0), (1, .int a1)]) (st2 := []) hm dX2_checkOverride_23 rfl ?_
  refine mx_S.pu (pc2 := 25) (lv2 := [(2, .int u26.1), (0, .ref a0), (1, .int a1)]) (st2 := [.int u26.1]) hm dX2_checkOverride_24 rfl ?_
  refine sx_ic (v := (-1)) hm dX2_checkOverride_25 (by decide) ?_
  rcases mx_if_el hf with ⟨c43, hf⟩ | ⟨c43, hf⟩
  · refine sb_ic_ne hm dX2_checkOverride_26 (tgt := 30) rfl (fun _ => ?_) (fun z => absurd c43 z)
    refine mx_S.pu (pc2 := 31) (lv2 := [(2, .int u26.1), (0, .ref a0), (1, .int a1)]) (st2 := [.ref a0]) hm dX2_checkOverride_30 rfl ?_
    replace hf := mx_sv_el hf; obtain ⟨v27, e_v27, hf⟩ := hf
    refine sx_get hm dX2_checkOverride_31 rs_RX2_51 (xgr_el e_v27) ?_
    clear e_v27
    refine mx_S.pu (pc2 := 35) (lv2 := [(2, .int u26.1), (0, .ref a0), (1, .int a1)]) (st2 := [.int a1, .ref v27]) hm dX2_checkOverride_34 rfl ?_
    replace hf := mx_sv_el hf; obtain ⟨v28, e_v28, hf⟩ := hf
    refine sx_bld hm dX2_checkOverride_35 e_v28 ?_
    clear e_v28
    rcases mx_if_el hf with ⟨c42, hf⟩ | ⟨c42, hf⟩
    · refine sb_if_ne hm dX2_checkOverride_36 (tgt := 82) rfl (fun _ => ?_) (fun z => absurd c42 z)
      refine mx_S.ext [(0, .ref a0), (1, .int a1), (2, .int u26.1)] (mx_sub_pos [1, 2, 0] rfl (show ([2, 0, 1] : List Nat).Nodup by decide)) ?_
      exact j_X2_checkOverride_82_ok X hF hL nn a0 a1 u26.1 u26.2 hf
    · refine sb_if_ne hm dX2_checkOverride_36 (tgt := 82) rfl (fun z => absurd z c42) (fun _ => ?_)
      refine mx_S.pu (pc2 := 40) (lv2 := [(2, .int u26.1), (0, .ref a0), (1, .int a1)]) (st2 := [.ref a0]) hm dX2_checkOverride_39 rfl ?_
      replace hf := mx_sv_el hf; obtain ⟨v29, e_v29, hf⟩ := hf
      refine sx_get hm dX2_checkOverride_40 rs_RX2_51 (xgr_el e_v29) ?_
      clear e_v29
      refine mx_S.pu (pc2 := 44) (lv2 := [(2, .int u26.1), (0, .ref a0), (1, .int a1)]) (st2 := [.int u26.1, .ref v29]) hm dX2_checkOverride_43 rfl ?_
      replace hf := mx_sv_el hf; obtain ⟨v30, e_v30, hf⟩ := hf
      refine sx_bld hm dX2_checkOverride_44 e_v30 ?_
      clear e_v30
      rcases mx_if_el hf with ⟨c41, hf⟩ | ⟨c41, hf⟩
      · refine sb_if_ne hm dX2_checkOverride_45 (tgt := 82) rfl (fun _ => ?_) (fun z => absurd c41 z)
        refine mx_S.ext [(0, .ref a0), (1, .int a1), (2, .int u26.1)] (mx_sub_pos [1, 2, 0] rfl (show ([2, 0, 1] : List Nat).Nodup by decide)) ?_
        exact j_X2_checkOverride_82_ok X hF hL nn a0 a1 u26.1 u26.2 hf
      · refine sb_if_ne hm dX2_checkOverride_45 (tgt := 82) rfl (fun z => absurd z c41) (fun _ => ?_)
        refine mx_S.pu (pc2 := 49) (lv2 := [(2, .int u26.1), (0, .ref a0), (1, .int a1)]) (st2 := [.ref a0]) hm dX2_checkOverride_48 rfl ?_
        replace hf := mx_sv_el hf; obtain ⟨v31, e_v31, hf⟩ := hf
        refine sx_get hm dX2_checkOverride_49 rs_RX2_48 (xgr_el e_v31) ?_
        clear e_v31
        refine mx_S.pu (pc2 := 53) (lv2 := [(2, .int u26.1), (0, .ref a0), (1, .int a1)]) (st2 := [.int a1, .ref v31]) hm dX2_checkOverride_52 rfl ?_
        replace hf := mx_sv_el hf; obtain ⟨v32, e_v32, hf⟩ := hf
        refine sx_ald hm dX2_checkOverride_53 e_v32 ?_
        clear e_v32
        refine mx_S.pu (pc2 := 55) (lv2 := [(2, .int u26.1), (0, .ref a0), (1, .int a1)]) (st2 := [.ref a0, .int v32]) hm dX2_checkOverride_54 rfl ?_
        replace hf := mx_sv_el hf; obtain ⟨v33, e_v33, hf⟩ := hf
        refine sx_get hm dX2_checkOverride_55 rs_RX2_48 (xgr_el e_v33) ?_
        clear e_v33
        refine mx_S.pu (pc2 := 59) (lv2 := [(2, .int u26.1), (0, .ref a0), (1, .int a1)]) (st2 := [.int u26.1, .ref v33, .int v32]) hm dX2_checkOverride_58 rfl ?_
        replace hf := mx_sv_el hf; obtain ⟨v34, e_v34, hf⟩ := hf
        refine sx_ald hm dX2_checkOverride_59 e_v34 ?_
        clear e_v34
        rcases mx_if_el hf with ⟨c40, hf⟩ | ⟨c40, hf⟩
        · refine sb_ic_ne hm dX2_checkOverride_60 (tgt := 82) rfl (fun _ => ?_) (fun z => absurd c40 z)
          refine mx_S.ext [(0, .ref a0), (1, .int a1), (2, .int u26.1)] (mx_sub_pos [1, 2, 0] rfl (show ([2, 0, 1] : List Nat).Nodup by decide)) ?_
          exact j_X2_checkOverride_82_ok X hF hL nn a0 a1 u26.1 u26.2 hf
        · refine sb_ic_ne hm dX2_checkOverride_60 (tgt := 82) rfl (fun z => absurd z c40) (fun _ => ?_)
          refine mx_S.pu (pc2 := 64) (lv2 := [(2, .int u26.1), (0, .ref a0), (1, .int a1)]) (st2 := [.ref a0]) hm dX2_checkOverride_63 rfl ?_
          replace hf := mx_sv_el hf; obtain ⟨v35, e_v35, hf⟩ := hf
          refine sx_get hm dX2_checkOverride_64 rs_RX2_58 (xgr_el e_v35) ?_
          clear e_v35
          refine mx_S.pu (pc2 := 68) (lv2 := [(2, .int u26.1), (0, .ref a0), (1, .int a1)]) (st2 := [.int a1, .ref v35]) hm dX2_checkOverride_67 rfl ?_
          replace hf := mx_sv_el hf; obtain ⟨v36, e_v36, hf⟩ := hf
          refine sx_ald hm dX2_checkOverride_68 e_v36 ?_
          clear e_v36
          refine mx_S.pu (pc2 := 70) (lv2 := [(2, .int u26.1), (0, .ref a0), (1, .int a1)]) (st2 := [.ref a0, .int v36]) hm dX2_checkOverride_69 rfl ?_
          replace hf := mx_sv_el hf; obtain ⟨v37, e_v37, hf⟩ := hf
          refine sx_get hm dX2_checkOverride_70 rs_RX2_58 (xgr_el e_v37) ?_
          clear e_v37
          refine mx_S.pu (pc2 := 74) (lv2 := [(2, .int u26.1), (0, .ref a0), (1, .int a1)]) (st2 := [.int u26.1, .ref v37, .int v36]) hm dX2_checkOverride_73 rfl ?_
          replace hf := mx_sv_el hf; obtain ⟨v38, e_v38, hf⟩ := hf
          refine sx_ald hm dX2_checkOverride_74 e_v38 ?_
          clear e_v38
          rcases mx_if_el hf with ⟨c39, hf⟩ | ⟨c39, hf⟩
          · refine sb_ic_ne hm dX2_checkOverride_75 (tgt := 82) rfl (fun _ => ?_) (fun z => absurd c39 z)
            refine mx_S.ext [(0, .ref a0), (1, .int a1), (2, .int u26.1)] (mx_sub_pos [1, 2, 0] rfl (show ([2, 0, 1] : List Nat).Nodup by decide)) ?_
            exact j_X2_checkOverride_82_ok X hF hL nn a0 a1 u26.1 u26.2 hf
          · refine sb_ic_ne hm dX2_checkOverride_75 (tgt := 82) rfl (fun z => absurd z c39) (fun _ => ?_)
            refine sx_ic (v := 1) hm dX2_checkOverride_78 (by decide) ?_
            refine mx_S.pu (pc2 := 83) (lv2 := [(2, .int u26.1), (0, .ref a0), (1, .int a1)]) (st2 := [.int 1]) hm dX2_checkOverride_79 rfl ?_
            refine mx_S.pu (pc2 := 84) (lv2 := [(3, .int 1), (2, .int u26.1), (0, .ref a0), (1, .int a1)]) (st2 := []) hm dX2_checkOverride_83 rfl ?_
            refine sx_ic (v := 0) hm dX2_checkOverride_84 (by decide) ?_
            refine mx_S.pu (pc2 := 87) (lv2 := [(4, .int 0), (3, .int 1), (2, .int u26.1), (0, .ref a0), (1, .int a1)]) (st2 := []) hm dX2_checkOverride_85 rfl ?_
            refine mx_S.ext [(0, .ref a0), (1, .int a1), (2, .int u26.1), (3, .int 1), (4, .int 0)] (mx_sub_pos [3, 4, 2, 1, 0] rfl (show ([4, 3, 2, 0, 1] : List Nat).Nodup by decide)) ?_
            exact w_X2_checkOverride_87_ok X hF hL nn nn a0 a1 u26.1 1 0 u26.2 _ hf
  · refine sb_ic_ne hm dX2_checkOverride_26 (tgt := 30) rfl (fun z => absurd z c43) (fun _ => ?_)
    cases hf
    exact sx_ret hm dX2_checkOverride_29 rfl
