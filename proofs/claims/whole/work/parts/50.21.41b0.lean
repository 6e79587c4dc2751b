set_option maxHeartbeats 4000000 in
set_option maxRecDepth 20000 in
theorem f_X13_isTyped_ok (X : Nat × (Nat → Int32)) {F L : Nat} (hF : 1 ≤ F) (hL : 22 ≤ L) (nn : Nat) (a0 : Nat) (h : mx_H) {r : (Int32 × mx_H)} (hf : f_X13_isTyped nn a0 h = some r) : mx_R X F L 404 [.ref a0] h (some (.int r.1), r.2, 0, 0) := by
  have hm : mx_mt 404 = some (yX13_isTyped, cX13_isTyped, 1, (some .boolean)) := mt_X13_isTyped
  show mx_S X F L 404 0 [(0, .ref a0)] [] h 0 0 (some (.int r.1), r.2, 0, 0)
  unfold f_X13_isTyped at hf
  refine mx_S.pu (pc2 := 1) (lv2 := [(0, .ref a0)]) (st2 := [.ref a0]) hm dX13_isTyped_0 rfl ?_
  refine mx_S.pu (pc2 := 2) (lv2 := [(0, .ref a0)]) (st2 := [.ref a0, .ref a0]) hm dX13_isTyped_1 rfl ?_
  replace hf := mx_sv_el hf; obtain ⟨v1, e_v1, hf⟩ := hf
  refine sx_get hm dX13_isTyped_2 rs_RX13_376 (xgi_el e_v1) ?_
  clear e_v1
  refine sx_bi (v := 10) hm dX13_isTyped_5 (by decide) ?_
  replace hf := mx_gd_el hf; obtain ⟨c2, hf⟩ := hf
  replace hf := mx_sv_el hf; obtain ⟨u3, e_u3, hf⟩ := hf
  refine sx_cv hm dX13_isTyped_7 rs_RX13_390 mt_X13_isWord [.int v1, .int 10] [] (b := a0) (ci := 13) rfl rfl rfl c2 (Nat.le_of_ble_eq_true rfl) (Nat.le_of_ble_eq_true rfl) (by omega) (by omega) (f_X13_isWord_ok X (by omega) (by omega) nn a0 v1 10 h e_u3) ?_
  clear e_u3
  show mx_S X F L 404 10 [(0, .ref a0)] [.int u3.1] u3.2 0 0 (some (.int r.1), r.2, 0, 0)
  rcases mx_if_el hf with ⟨c27, hf⟩ | ⟨c27, hf⟩
  · refine sb_if_ne hm dX13_isTyped_10 (tgt := 25) rfl (fun _ => ?_) (fun z => absurd c27 z)
    refine sx_ic (v := 1) hm dX13_isTyped_25 (by decide) ?_
    cases hf
    exact sx_ire hm dX13_isTyped_26 rfl (by decide)
  · refine sb_if_ne hm dX13_isTyped_10 (tgt := 25) rfl (fun z => absurd z c27) (fun _ => ?_)
    refine mx_S.pu (pc2 := 14) (lv2 := [(0, .ref a0)]) (st2 := [.ref a0]) hm dX13_isTyped_13 rfl ?_
    refine mx_S.pu (pc2 := 15) (lv2 := [(0, .ref a0)]) (st2 := [.ref a0, .ref a0]) hm dX13_isTyped_14 rfl ?_
    replace hf := mx_sv_el hf; obtain ⟨v4, e_v4, hf⟩ := hf
    refine sx_get hm dX13_isTyped_15 rs_RX13_376 (xgi_el e_v4) ?_
    clear e_v4
    refine sx_ic (v := 0) hm dX13_isTyped_18 (by decide) ?_
    replace hf := mx_gd_el hf; obtain ⟨c5, hf⟩ := hf
    replace hf := mx_sv_el hf; obtain ⟨u6, e_u6, hf⟩ := hf
    refine sx_cv hm dX13_isTyped_19 rs_RX13_390 mt_X13_isWord [.int v4, .int 0] [] (b := a0) (ci := 13) rfl rfl rfl c5 (Nat.le_of_ble_eq_true rfl) (Nat.le_of_ble_eq_true rfl) (by omega) (by omega) (f_X13_isWord_ok X (by omega) (by omega) nn a0 v4 0 u3.2 e_u6) ?_
    clear e_u6
    show mx_S X F L 404 22 [(0, .ref a0)] [.int u6.1] u6.2 0 0 (some (.int r.1), r.2, 0, 0)
    rcases mx_if_el hf with ⟨c26, hf⟩ | ⟨c26, hf⟩
    · refine sb_if_eq hm dX13_isTyped_22 (tgt := 27) rfl (fun _ => ?_) (fun z => absurd c26 z)
      refine mx_S.pu (pc2 := 28) (lv2 := [(0, .ref a0)]) (st2 := [.ref a0]) hm dX13_isTyped_27 rfl ?_
      replace hf := mx_sv_el hf; obtain ⟨v7, e_v7, hf⟩ := hf
      refine sx_get hm dX13_isTyped_28 rs_RX13_16 (xgr_el e_v7) ?_
      clear e_v7
      refine mx_S.pu (pc2 := 32) (lv2 := [(0, .ref a0)]) (st2 := [.ref a0, .ref v7]) hm dX13_isTyped_31 rfl ?_
      replace hf := mx_sv_el hf; obtain ⟨v8, e_v8, hf⟩ := hf
      refine sx_get hm dX13_isTyped_32 rs_RX13_376 (xgi_el e_v8) ?_
      clear e_v8
      replace hf := mx_sv_el hf; obtain ⟨v9, e_v9, hf⟩ := hf
      refine sx_ald hm dX13_isTyped_35 e_v9 ?_
      clear e_v9
      refine sx_ic (v := 1) hm dX13_isTyped_36 (by decide) ?_
      rcases mx_if_el hf with ⟨c25, hf⟩ | ⟨c25, hf⟩
      · refine sb_ic_eq hm dX13_isTyped_37 (tgt := 42) rfl (fun _ => ?_) (fun z => absurd c25 z)
        refine mx_S.pu (pc2 := 43) (lv2 := [(0, .ref a0)]) (st2 := [.ref a0]) hm dX13_isTyped_42 rfl ?_
        replace hf := mx_sv_el hf; obtain ⟨v10, e_v10, hf⟩ := hf
        refine sx_get hm dX13_isTyped_43 rs_RX13_16 (xgr_el e_v10) ?_
        clear e_v10
        refine mx_S.pu (pc2 := 47) (lv2 := [(0, .ref a0)]) (st2 := [.ref a0, .ref v10]) hm dX13_isTyped_46 rfl ?_
        replace hf := mx_sv_el hf; obtain ⟨v11, e_v11, hf⟩ := hf
        refine sx_get hm dX13_isTyped_47 rs_RX13_376 (xgi_el e_v11) ?_
        clear e_v11
        refine sx_ic (v := 1) hm dX13_isTyped_50 (by decide) ?_
        replace hf := xl_el hf; obtain ⟨v12, e_v12, hf⟩ := hf
        refine mx_S.pu (pc2 := 52) (lv2 := [(0, .ref a0)]) (st2 := [.int v12, .ref v10]) hm dX13_isTyped_51 (by rw [← e_v12]; rfl) ?_
        clear e_v12
        replace hf := mx_sv_el hf; obtain ⟨v13, e_v13, hf⟩ := hf
        refine sx_ald hm dX13_isTyped_52 e_v13 ?_
        clear e_v13
        refine sx_ic (v := 1) hm dX13_isTyped_53 (by decide) ?_
        rcases mx_if_el hf with ⟨c24, hf⟩ | ⟨c24, hf⟩
        · refine sb_ic_eq hm dX13_isTyped_54 (tgt := 87) rfl (fun _ => ?_) (fun z => absurd c24 z)
          refine sx_ic (v := 1) hm dX13_isTyped_87 (by decide) ?_
          refine mx_S.pu (pc2 := 92) (lv2 := [(0, .ref a0)]) (st2 := [.int 1]) hm dX13_isTyped_88 rfl ?_
          cases hf
          exact sx_ire hm dX13_isTyped_92 rfl (by decide)
        · refine sb_ic_eq hm dX13_isTyped_54 (tgt := 87) rfl (fun z => absurd z c24) (fun _ => ?_)
          refine mx_S.pu (pc2 := 58) (lv2 := [(0, .ref a0)]) (st2 := [.ref a0]) hm dX13_isTyped_57 rfl ?_
          refine mx_S.pu (pc2 := 59) (lv2 := [(0, .ref a0)]) (st2 := [.ref a0, .ref a0]) hm dX13_isTyped_58 rfl ?_
          replace hf := mx_sv_el hf; obtain ⟨v14, e_v14, hf⟩ := hf
          refine sx_get hm dX13_isTyped_59 rs_RX13_376 (xgi_el e_v14) ?_
          clear e_v14
          refine sx_ic (v := 1) hm dX13_isTyped_62 (by decide) ?_
          replace hf := xl_el hf; obtain ⟨v15, e_v15, hf⟩ := hf
          refine mx_S.pu (pc2 := 64) (lv2 := [(0, .ref a0)]) (st2 := [.int v15, .ref a0]) hm dX13_isTyped_63 (by rw [← e_v15]; rfl) ?_
          clear e_v15
          refine sx_bi (v := 91) hm dX13_isTyped_64 (by decide) ?_
          replace hf := mx_gd_el hf; obtain ⟨c16, hf⟩ := hf
          replace hf := mx_sv_el hf; obtain ⟨u17, e_u17, hf⟩ := hf
          refine sx_cv hm dX13_isTyped_66 rs_RX13_383 mt_X13_isSign [.int v15, .int 91] [] (b := a0) (ci := 13) rfl rfl rfl c16 (Nat.le_of_ble_eq_true rfl) (Nat.le_of_ble_eq_true rfl) (by omega) (by omega) (f_X13_isSign_ok X (by omega) (by omega) nn a0 v15 91 u6.2 e_u17) ?_
          clear e_u17
          show mx_S X F L 404 69 [(0, .ref a0)] [.int u17.1] u17.2 0 0 (some (.int r.1), r.2, 0, 0)
          rcases mx_if_el hf with ⟨c23, hf⟩ | ⟨c23, hf⟩
          · refine sb_if_eq hm dX13_isTyped_69 (tgt := 91) rfl (fun _ => ?_) (fun z => absurd c23 z)
            refine sx_ic (v := 0) hm dX13_isTyped_91 (by decide) ?_
            cases hf
            exact sx_ire hm dX13_isTyped_92 rfl (by decide)
          · refine sb_if_eq hm dX13_isTyped_69 (tgt := 91) rfl (fun z => absurd z c23) (fun _ => ?_)
            refine mx_S.pu (pc2 := 73) (lv2 := [(0, .ref a0)]) (st2 := [.ref a0]) hm dX13_isTyped_72 rfl ?_
            refine mx_S.pu (pc2 := 74) (lv2 := [(0, .ref a0)]) (st2 := [.ref a0, .ref a0]) hm dX13_isTyped_73 rfl ?_
            replace hf := mx_sv_el hf; obtain ⟨v18, e_v18, hf⟩ := hf
            refine sx_get hm dX13_isTyped_74 rs_RX13_376 (xgi_el e_v18) ?_
            clear e_v18
            refine sx_ic (v := 2) hm dX13_isTyped_77 (by decide) ?_
            replace hf := xl_el hf; obtain ⟨v19, e_v19, hf⟩ := hf
            refine mx_S.pu (pc2 := 79) (lv2 := [(0, .ref a0)]) (st2 := [.int v19, .ref a0]) hm dX13_isTyped_78 (by rw [← e_v19]; rfl) ?_
            clear e_v19
            refine sx_bi (v := 93) hm dX13_isTyped_79 (by decide) ?_
            replace hf := mx_gd_el hf; obtain ⟨c20, hf⟩ := hf
            replace hf := mx_sv_el hf; obtain ⟨u21, e_u21, hf⟩ := hf
            refine sx_cv hm dX13_isTyped_81 rs_RX13_383 mt_X13_isSign [.int v19, .int 93] [] (b := a0) (ci := 13) rfl rfl rfl c20 (Nat.le_of_ble_eq_true rfl) (Nat.le_of_ble_eq_true rfl) (by omega) (by omega) (f_X13_isSign_ok X (by omega) (by omega) nn a0 v19 93 u17.2 e_u21) ?_
            clear e_u21
            show mx_S X F L 404 84 [(0, .ref a0)] [.int u21.1] u21.2 0 0 (some (.int r.1), r.2, 0, 0)
            rcases mx_if_el hf with ⟨c22, hf⟩ | ⟨c22, hf⟩
            · refine sb_if_eq hm dX13_isTyped_84 (tgt := 91) rfl (fun _ => ?_) (fun z => absurd c22 z)
              refine sx_ic (v := 0) hm dX13_isTyped_91 (by decide) ?_
              cases hf
              exact sx_ire hm dX13_isTyped_92 rfl (by decide)
            · refine sb_if_eq hm dX13_isTyped_84 (tgt := 91) rfl (fun z => absurd z c22) (fun _ => ?_)
              refine sx_ic (v := 1) hm dX13_isTyped_87 (by decide) ?_
              refine mx_S.pu (pc2 := 92) (lv2 := [(0, .ref a0)]) (st2 := [.int 1]) hm dX13_isTyped_88 rfl ?_
              cases hf
              exact sx_ire hm dX13_isTyped_92 rfl (by decide)
      · refine sb_ic_eq hm dX13_isTyped_37 (tgt := 42) rfl (fun z => absurd z c25) (fun _ => ?_)
        refine sx_ic (v := 0) hm dX13_isTyped_40 (by decide) ?_
        cases hf
        exact sx_ire hm dX13_isTyped_41 rfl (by decide)
    · refine sb_if_eq hm dX13_isTyped_22 (tgt := 27) rfl (fun z => absurd z c26) (fun _ => ?_)
      refine sx_ic (v := 1) hm dX13_isTyped_25 (by decide) ?_
      cases hf
      exact sx_ire hm dX13_isTyped_26 rfl (by decide)
set_option maxHeartbeats 4000000 in
set_option maxRecDepth 20000 in
theorem j_X13_plain_89_ok (X : Nat × (Nat → Int32)) {F L : Nat} (hF : 704 ≤ F) (hL : 19687 ≤ L) (nn : Nat) (l0 : Nat) (l2 : Int32) (h : mx_H) {r : (Int32 × mx_H)} (hf : j_X13_plain_89 nn l0 l2 h = some r) : mx_S X F L 406 89 [(0, .ref l0), (2, .int l2)] [] h 0 0 (some (.int r.1), r.2, 0, 0) := by
  have hm : mx_mt 406 = some (yX13_plain, cX13_plain, 3, (some .int)) := mt_X13_plain
  unfold j_X13_plain_89 at hf
  refine mx_S.pu (pc2 := 90) (lv2 := [(0, .ref l0), (2, .int l2)]) (st2 := [.ref l0]) hm dX13_plain_89 rfl ?_
  refine sx_bi (v := 59) hm dX13_plain_90 (by decide) ?_
  replace hf := mx_gd_el hf; obtain ⟨c1, hf⟩ := hf
  replace hf := mx_sv_el hf; obtain ⟨u2, e_u2, hf⟩ := hf
  refine sx_cv hm dX13_plain_92 rs_RX13_406 mt_X13_sign_ [.int 59] [] (b := l0) (ci := 13) rfl rfl rfl c1 (Nat.le_of_ble_eq_true rfl) (Nat.le_of_ble_eq_true rfl) (by omega) (by omega) (f_X13_sign__ok X (by omega) (by omega) nn l0 59 h e_u2) ?_
  clear e_u2
  show mx_S X F L 406 95 [(0, .ref l0), (2, .int l2)] [] u2 0 0 (some (.int r.1), r.2, 0, 0)
  refine mx_S.pu (pc2 := 96) (lv2 := [(0, .ref l0), (2, .int l2)]) (st2 := [.int l2]) hm dX13_plain_95 rfl ?_
  cases hf
  exact sx_ire hm dX13_plain_96 rfl rfl
set_option maxHeartbeats 4000000 in
set_option maxRecDepth 20000 in
theorem f_X13_plain_ok (X : Nat × (Nat → Int32)) {F L : Nat} (hF : 704 ≤ F) (hL : 19687 ≤ L) (nn : Nat) (a0 : Nat) (a1 : Int32) (h : mx_H) {r : (Int32 × mx_H)} (hf : f_X13_plain nn a0 a1 h = some r) : mx_R X F L 406 [.ref a0, .int a1] h (some (.int r.1), r.2, 0, 0) := by
  have hm : mx_mt 406 = some (yX13_plain, cX13_plain, 3, (some .int)) := mt_X13_plain
  show mx_S X F L 406 0 [(0, .ref a0), (1, .int a1)] [] h 0 0 (some (.int r.1), r.2, 0, 0)
  unfold f_X13_plain at hf
  refine mx_S.pu (pc2 := 1) (lv2 := [(0, .ref a0), (1, .int a1)]) (st2 := [.ref a0]) hm dX13_plain_0 rfl ?_
  refine sx_bi (v := 11) hm dX13_plain_1 (by decide) ?_
  refine mx_S.pu (pc2 := 4) (lv2 := [(0, .ref a0), (1, .int a1)]) (st2 := [.ref a0, .int 11, .ref a0]) hm dX13_plain_3 rfl ?_
  replace hf := mx_sv_el hf; obtain ⟨v3, e_v3, hf⟩ := hf
  refine sx_get hm dX13_plain_4 rs_RX13_376 (xgi_el e_v3) ?_
  clear e_v3
  refine mx_S.pu (pc2 := 8) (lv2 := [(0, .ref a0), (1, .int a1)]) (st2 := [.ref a0, .int v3, .int 11, .ref a0]) hm dX13_plain_7 rfl ?_
  replace hf := mx_sv_el hf; obtain ⟨v4, e_v4, hf⟩ := hf
  refine sx_get hm dX13_plain_8 rs_RX13_376 (xgi_el e_v4) ?_
  clear e_v4
  replace hf := mx_gd_el hf; obtain ⟨c5, hf⟩ := hf
  replace hf := mx_sv_el hf; obtain ⟨u6, e_u6, hf⟩ := hf
  refine sx_cv hm dX13_plain_11 rs_RX13_430 mt_X13_add [.int 11, .int v3, .int v4] [] (b := a0) (ci := 13) rfl rfl rfl c5 (Nat.le_of_ble_eq_true rfl) (Nat.le_of_ble_eq_true rfl) (by omega) (by omega) (f_X13_add_ok X (by omega) (by omega) nn a0 11 v3 v4 h e_u6) ?_
  clear e_u6
  show mx_S X F L 406 14 [(0, .ref a0), (1, .int a1)] [.int u6.1] u6.2 0 0 (some (.int r.1), r.2, 0, 0)
  refine mx_S.pu (pc2 := 15) (lv2 := [(2, .int u6.1), (0, .ref a0), (1, .int a1)]) (st2 := []) hm dX13_plain_14 rfl ?_
  refine mx_S.pu (pc2 := 16) (lv2 := [(2, .int u6.1), (0, .ref a0), (1, .int a1)]) (st2 := [.ref a0]) hm dX13_plain_15 rfl ?_
  replace hf := mx_sv_el hf; obtain ⟨v7, e_v7, hf⟩ := hf
  refine sx_get hm dX13_plain_16 rs_RX13_37 (xgr_el e_v7) ?_
  clear e_v7
  refine mx_S.pu (pc2 := 20) (lv2 := [(2, .int u6.1), (0, .ref a0), (1, .int a1)]) (st2 := [.int u6.1, .ref v7]) hm dX13_plain_19 rfl ?_
  refine mx_S.pu (pc2 := 21) (lv2 := [(2, .int u6.1), (0, .ref a0), (1, .int a1)]) (st2 := [.ref a0, .int u6.1, .ref v7]) hm dX13_plain_20 rfl ?_
  refine mx_S.pu (pc2 := 22) (lv2 := [(2, .int u6.1), (0, .ref a0), (1, .int a1)]) (st2 := [.int a1, .ref a0, .int u6.1, .ref v7]) hm dX13_plain_21 rfl ?_
  refine sx_ic (v := 1) hm dX13_plain_22 (by decide) ?_
  replace hf := xl_el hf; obtain ⟨v8, e_v8, hf⟩ := hf
  refine mx_S.pu (pc2 := 24) (lv2 := [(2, .int u6.1), (0, .ref a0), (1, .int a1)]) (st2 := [.int v8, .ref a0, .int u6.1, .ref v7]) hm dX13_plain_23 (by rw [← e_v8]; rfl) ?_
  clear e_v8
  replace hf := mx_gd_el hf; obtain ⟨c9, hf⟩ := hf
  replace hf := mx_sv_el hf; obtain ⟨u10, e_u10, hf⟩ := hf
  refine sx_cv hm dX13_plain_24 rs_RX13_444 mt_X13_expression [.int v8] [.int u6.1, .ref v7] (b := a0) (ci := 13) rfl rfl rfl c9 (Nat.le_of_ble_eq_true rfl) (Nat.le_of_ble_eq_true rfl) (by omega) (by omega) (f_X13_expression_ok X (by omega) (by omega) nn a0 v8 u6.2 e_u10) ?_
  clear e_u10
  show mx_S X F L 406 27 [(2, .int u6.1), (0, .ref a0), (1, .int a1)] [.int u10.1, .int u6.1, .ref v7] u10.2 0 0 (some (.int r.1), r.2, 0, 0)
  replace hf := mx_sv_el hf; obtain ⟨h11, e_h11, hf⟩ := hf
  refine sx_ast hm dX13_plain_27 e_h11 ?_
  clear e_h11
  refine mx_S.pu (pc2 := 29) (lv2 := [(2, .int u6.1), (0, .ref a0), (1, .int a1)]) (st2 := [.ref a0]) hm dX13_plain_28 rfl ?_
  replace hf := mx_sv_el hf; obtain ⟨v12, e_v12, hf⟩ := hf
  refine sx_get hm dX13_plain_29 rs_RX13_319 (xgi_el e_v12) ?_
  clear e_v12
  rcases mx_if_el hf with ⟨c30, hf⟩ | ⟨c30, hf⟩
  · refine sb_if_ne hm dX13_plain_32 (tgt := 89) rfl (fun _ => ?_) (fun z => absurd c30 z)
    refine mx_S.ext [(0, .ref a0), (2, .int u6.1)] (mx_sub_pos [1, 0] rfl (show ([2, 0, 1] : List Nat).Nodup by decide)) ?_
    exact j_X13_plain_89_ok X hF hL nn a0 u6.1 h11 hf
  · refine sb_if_ne hm dX13_plain_32 (tgt := 89) rfl (fun z => absurd z c30) (fun _ => ?_)
    refine mx_S.pu (pc2 := 36) (lv2 := [(2, .int u6.1), (0, .ref a0), (1, .int a1)]) (st2 := [.ref a0]) hm dX13_plain_35 rfl ?_
    refine mx_S.pu (pc2 := 37) (lv2 := [(2, .int u6.1), (0, .ref a0), (1, .int a1)]) (st2 := [.ref a0, .ref a0]) hm dX13_plain_36 rfl ?_
    replace hf := mx_sv_el hf; obtain ⟨v13, e_v13, hf⟩ := hf
    refine sx_get hm dX13_plain_37 rs_RX13_376 (xgi_el e_v13) ?_
    clear e_v13
    refine sx_bi (v := 61) hm dX13_plain_40 (by decide) ?_
    replace hf := mx_gd_el hf; obtain ⟨c14, hf⟩ := hf
    replace hf := mx_sv_el hf; obtain ⟨u15, e_u15, hf⟩ := hf
    refine sx_cv hm dX13_plain_42 rs_RX13_383 mt_X13_isSign [.int v13, .int 61] [] (b := a0) (ci := 13) rfl rfl rfl c14 (Nat.le_of_ble_eq_true rfl) (Nat.le_of_ble_eq_true rfl) (by omega) (by omega) (f_X13_isSign_ok X (by omega) (by omega) nn a0 v13 61 h11 e_u15) ?_
    clear e_u15
    show mx_S X F L 406 45 [(2, .int u6.1), (0, .ref a0), (1, .int a1)] [.int u15.1] u15.2 0 0 (some (.int r.1), r.2, 0, 0)
    rcases mx_if_el hf with ⟨c29, hf⟩ | ⟨c29, hf⟩
    · refine sb_if_eq hm dX13_plain_45 (tgt := 89) rfl (fun _ => ?_) (fun z => absurd c29 z)
      refine mx_S.ext [(0, .ref a0), (2, .int u6.1)] (mx_sub_pos [1, 0] rfl (show ([2, 0, 1] : List Nat).Nodup by decide)) ?_
      exact j_X13_plain_89_ok X hF hL nn a0 u6.1 u15.2 hf
    · refine sb_if_eq hm dX13_plain_45 (tgt := 89) rfl (fun z => absurd z c29) (fun _ => ?_)
      refine mx_S.pu (pc2 := 49) (lv2 := [(2, .int u6.1), (0, .ref a0), (1, .int a1)]) (st2 := [.ref a0]) hm dX13_plain_48 rfl ?_
      replace hf := mx_sv_el hf; obtain ⟨v16, e_v16, hf⟩ := hf
      refine sx_get hm dX13_plain_49 rs_RX13_28 (xgr_el e_v16) ?_
      clear e_v16
      refine mx_S.pu (pc2 := 53) (lv2 := [(2, .int u6.1), (0, .ref a0), (1, .int a1)]) (st2 := [.int u6.1, .ref v16]) hm dX13_plain_52 rfl ?_
      refine sx_bi (v := 12) hm dX13_plain_53 (by decide) ?_
      replace hf := mx_sv_el hf; obtain ⟨h17, e_h17, hf⟩ := hf
      refine sx_ast hm dX13_plain_55 e_h17 ?_
      clear e_h17
      refine mx_S.pu (pc2 := 57) (lv2 := [(2, .int u6.1), (0, .ref a0), (1, .int a1)]) (st2 := [.ref a0]) hm dX13_plain_56 rfl ?_
      replace hf := mx_sv_el hf; obtain ⟨v18, e_v18, hf⟩ := hf
      refine sx_get hm dX13_plain_57 rs_RX13_31 (xgr_el e_v18) ?_
      clear e_v18
      refine mx_S.pu (pc2 := 61) (lv2 := [(2, .int u6.1), (0, .ref a0), (1, .int a1)]) (st2 := [.int u6.1, .ref v18]) hm dX13_plain_60 rfl ?_
      refine mx_S.pu (pc2 := 62) (lv2 := [(2, .int u6.1), (0, .ref a0), (1, .int a1)]) (st2 := [.ref a0, .int u6.1, .ref v18]) hm dX13_plain_61 rfl ?_
      replace hf := mx_sv_el hf; obtain ⟨v19, e_v19, hf⟩ := hf
      refine sx_get hm dX13_plain_62 rs_RX13_376 (xgi_el e_v19) ?_
      clear e_v19
      replace hf := mx_sv_el hf; obtain ⟨h20, e_h20, hf⟩ := hf
      refine sx_ast hm dX13_plain_65 e_h20 ?_
      clear e_h20
      refine mx_S.pu (pc2 := 67) (lv2 := [(2, .int u6.1), (0, .ref a0), (1, .int a1)]) (st2 := [.ref a0]) hm dX13_plain_66 rfl ?_
      refine mx_S.pu (pc2 := 68) (lv2 := [(2, .int u6.1), (0, .ref a0), (1, .int a1)]) (st2 := [.ref a0, .ref a0]) hm dX13_plain_67 rfl ?_
      replace hf := mx_sv_el hf; obtain ⟨v21, e_v21, hf⟩ := hf
      refine sx_get hm dX13_plain_68 rs_RX13_376 (xgi_el e_v21) ?_
      clear e_v21
      refine sx_ic (v := 1) hm dX13_plain_71 (by decide) ?_
      replace hf := xl_el hf; obtain ⟨v22, e_v22, hf⟩ := hf
      refine mx_S.pu (pc2 := 73) (lv2 := [(2, .int u6.1), (0, .ref a0), (1, .int a1)]) (st2 := [.int v22, .ref a0]) hm dX13_plain_72 (by rw [← e_v22]; rfl) ?_
      clear e_v22
      replace hf := mx_sv_el hf; obtain ⟨h23, e_h23, hf⟩ := hf
      refine sx_put hm dX13_plain_73 rs_RX13_376 ft_13_23 ⟨rfl, rfl⟩ (fun z => by cases z) e_h23 ?_
      clear e_h23
      refine mx_S.pu (pc2 := 77) (lv2 := [(2, .int u6.1), (0, .ref a0), (1, .int a1)]) (st2 := [.ref a0]) hm dX13_plain_76 rfl ?_
      replace hf := mx_sv_el hf; obtain ⟨v24, e_v24, hf⟩ := hf
      refine sx_get hm dX13_plain_77 rs_RX13_40 (xgr_el e_v24) ?_
      clear e_v24
      refine mx_S.pu (pc2 := 81) (lv2 := [(2, .int u6.1), (0, .ref a0), (1, .int a1)]) (st2 := [.int u6.1, .ref v24]) hm dX13_plain_80 rfl ?_
      refine mx_S.pu (pc2 := 82) (lv2 := [(2, .int u6.1), (0, .ref a0), (1, .int a1)]) (st2 := [.ref a0, .int u6.1, .ref v24]) hm dX13_plain_81 rfl ?_
      refine mx_S.pu (pc2 := 83) (lv2 := [(2, .int u6.1), (0, .ref a0), (1, .int a1)]) (st2 := [.int a1, .ref a0, .int u6.1, .ref v24]) hm dX13_plain_82 rfl ?_
      refine sx_ic (v := 1) hm dX13_plain_83 (by decide) ?_
      replace hf := xl_el hf; obtain ⟨v25, e_v25, hf⟩ := hf
      refine mx_S.pu (pc2 := 85) (lv2 := [(2, .int u6.1), (0, .ref a0), (1, .int a1)]) (st2 := [.int v25, .ref a0, .int u6.1, .ref v24]) hm dX13_plain_84 (by rw [← e_v25]; rfl) ?_
      clear e_v25
      replace hf := mx_gd_el hf; obtain ⟨c26, hf⟩ := hf
      replace hf := mx_sv_el hf; obtain ⟨u27, e_u27, hf⟩ := hf
      refine sx_cv hm dX13_plain_85 rs_RX13_444 mt_X13_expression [.int v25] [.int u6.1, .ref v24] (b := a0) (ci := 13) rfl rfl rfl c26 (Nat.le_of_ble_eq_true rfl) (Nat.le_of_ble_eq_true rfl) (by omega) (by omega) (f_X13_expression_ok X (by omega) (by omega) nn a0 v25 h23 e_u27) ?_
      clear e_u27
      show mx_S X F L 406 88 [(2, .int u6.1), (0, .ref a0), (1, .int a1)] [.int u27.1, .int u6.1, .ref v24] u27.2 0 0 (some (.int r.1), r.2, 0, 0)
      replace hf := mx_sv_el hf; obtain ⟨h28, e_h28, hf⟩ := hf
      refine sx_ast hm dX13_plain_88 e_h28 ?_
      clear e_h28
      refine mx_S.ext [(0, .ref a0), (2, .int u6.1)] (mx_sub_pos [1, 0] rfl (show ([2, 0, 1] : List Nat).Nodup by decide)) ?_
      exact j_X13_plain_89_ok X hF hL nn a0 u6.1 h28 hf
set_option maxHeartbeats 4000000 in
set_option maxRecDepth 20000 in
theorem j_X13_type_96_ok (X : Nat × (Nat → Int32)) {F L : Nat} (hF : 3 ≤ F) (hL : 63 ≤ L) (nn : Nat) (l0 : Nat) (h : mx_H) {r : mx_H} (hf : j_X13_type_96 nn l0 h = some r) : mx_S X F L 400 96 [(0, .ref l0)] [] h 0 0 (none, r, 0, 0) := by
  have hm : mx_mt 400 = some (yX13_type, cX13_type, 1, none) := mt_X13_type
  unfold j_X13_type_96 at hf
  refine mx_S.pu (pc2 := 97) (lv2 := [(0, .ref l0)]) (st2 := [.ref l0]) hm dX13_type_96 rfl ?_
  replace hf := mx_sv_el hf; obtain ⟨v1, e_v1, hf⟩ := hf
  refine sx_get hm dX13_type_97 rs_RX13_319 (xgi_el e_v1) ?_
  clear e_v1
  rcases mx_if_el hf with ⟨c12, hf⟩ | ⟨c12, hf⟩
  · refine sb_if_ne hm dX13_type_100 (tgt := 116) rfl (fun _ => ?_) (fun z => absurd c12 z)
    cases hf
    exact sx_ret hm dX13_type_116 rfl
  · refine sb_if_ne hm dX13_type_100 (tgt := 116) rfl (fun z => absurd z c12) (fun _ => ?_)
    refine mx_S.pu (pc2 := 104) (lv2 := [(0, .ref l0)]) (st2 := [.ref l0]) hm dX13_type_103 rfl ?_
    refine mx_S.pu (pc2 := 105) (lv2 := [(0, .ref l0)]) (st2 := [.ref l0, .ref l0]) hm dX13_type_104 rfl ?_
    replace hf := mx_sv_el hf; obtain ⟨v2, e_v2, hf⟩ := hf
    refine sx_get hm dX13_type_105 rs_RX13_376 (xgi_el e_v2) ?_
    clear e_v2
    refine sx_bi (v := 91) hm dX13_type_108 (by decide) ?_
    replace hf := mx_gd_el hf; obtain ⟨c3, hf⟩ := hf
    replace hf := mx_sv_el hf; obtain ⟨u4, e_u4, hf⟩ := hf
    refine sx_cv hm dX13_type_110 rs_RX13_383 mt_X13_isSign [.int v2, .int 91] [] (b := l0) (ci := 13) rfl rfl rfl c3 (Nat.le_of_ble_eq_true rfl) (Nat.le_of_ble_eq_true rfl) (by omega) (by omega) (f_X13_isSign_ok X (by omega) (by omega) nn l0 v2 91 h e_u4) ?_
    clear e_u4
    show mx_S X F L 400 113 [(0, .ref l0)] [.int u4.1] u4.2 0 0 (none, r, 0, 0)
    rcases mx_if_el hf with ⟨c11, hf⟩ | ⟨c11, hf⟩
    · refine sb_if_ne hm dX13_type_113 (tgt := 117) rfl (fun _ => ?_) (fun z => absurd c11 z)
      refine mx_S.pu (pc2 := 118) (lv2 := [(0, .ref l0)]) (st2 := [.ref l0]) hm dX13_type_117 rfl ?_
      refine mx_S.pu (pc2 := 119) (lv2 := [(0, .ref l0)]) (st2 := [.ref l0, .ref l0]) hm dX13_type_118 rfl ?_
      replace hf := mx_sv_el hf; obtain ⟨v5, e_v5, hf⟩ := hf
      refine sx_get hm dX13_type_119 rs_RX13_376 (xgi_el e_v5) ?_
      clear e_v5
      refine sx_ic (v := 1) hm dX13_type_122 (by decide) ?_
      replace hf := xl_el hf; obtain ⟨v6, e_v6, hf⟩ := hf
      refine mx_S.pu (pc2 := 124) (lv2 := [(0, .ref l0)]) (st2 := [.int v6, .ref l0]) hm dX13_type_123 (by rw [← e_v6]; rfl) ?_
      clear e_v6
      replace hf := mx_sv_el hf; obtain ⟨h7, e_h7, hf⟩ := hf
      refine sx_put hm dX13_type_124 rs_RX13_376 ft_13_23 ⟨rfl, rfl⟩ (fun z => by cases z) e_h7 ?_
      clear e_h7
      refine mx_S.pu (pc2 := 128) (lv2 := [(0, .ref l0)]) (st2 := [.ref l0]) hm dX13_type_127 rfl ?_
      refine sx_bi (v := 93) hm dX13_type_128 (by decide) ?_
      replace hf := mx_gd_el hf; obtain ⟨c8, hf⟩ := hf
      replace hf := mx_sv_el hf; obtain ⟨u9, e_u9, hf⟩ := hf
      refine sx_cv hm dX13_type_130 rs_RX13_406 mt_X13_sign_ [.int 93] [] (b := l0) (ci := 13) rfl rfl rfl c8 (Nat.le_of_ble_eq_true rfl) (Nat.le_of_ble_eq_true rfl) (by omega) (by omega) (f_X13_sign__ok X (by omega) (by omega) nn l0 93 h7 e_u9) ?_
      clear e_u9
      show mx_S X F L 400 133 [(0, .ref l0)] [] u9 0 0 (none, r, 0, 0)
      refine mx_S.pu (pc2 := 134) (lv2 := [(0, .ref l0)]) (st2 := [.ref l0]) hm dX13_type_133 rfl ?_
      refine sx_ic (v := 1) hm dX13_type_134 (by decide) ?_
      replace hf := mx_sv_el hf; obtain ⟨h10, e_h10, hf⟩ := hf
      refine sx_put hm dX13_type_135 rs_RX13_396 ft_13_47 ⟨by decide, by decide⟩ (fun z => by cases z) e_h10 ?_
      clear e_h10
      cases hf
      exact sx_ret hm dX13_type_138 rfl
    · refine sb_if_ne hm dX13_type_113 (tgt := 117) rfl (fun z => absurd z c11) (fun _ => ?_)
      cases hf
      exact sx_ret hm dX13_type_116 rfl
set_option maxHeartbeats 4000000 in
set_option maxRecDepth 20000 in
theorem j_X13_type_68_ok (X : Nat × (Nat → Int32)) {F L : Nat} (hF : 3 ≤ F) (hL : 63 ≤ L) (nn : Nat) (l0 : Nat) (s0 : Int32) (s1 : Nat) (h : mx_H) {r : mx_H} (hf : j_X13_type_68 nn l0 s0 s1 h = some r) : mx_S X F L 400 68 [(0, .ref l0)] [.int s0, .ref s1] h 0 0 (none, r, 0, 0) := by
  have hm : mx_mt 400 = some (yX13_type, cX13_type, 1, none) := mt_X13_type
  unfold j_X13_type_68 at hf
  replace hf := mx_sv_el hf; obtain ⟨h13, e_h13, hf⟩ := hf
  refine sx_put hm dX13_type_68 rs_RX13_400 ft_13_45 ⟨rfl, rfl⟩ (fun z => by cases z) e_h13 ?_
  clear e_h13
  refine mx_S.pu (pc2 := 72) (lv2 := [(0, .ref l0)]) (st2 := [.ref l0]) hm dX13_type_71 rfl ?_
  replace hf := mx_sv_el hf; obtain ⟨v14, e_v14, hf⟩ := hf
  refine sx_get hm dX13_type_72 rs_RX13_400 (xgi_el e_v14) ?_
  clear e_v14
  rcases mx_if_el hf with ⟨c20, hf⟩ | ⟨c20, hf⟩
  · refine sb_if_ne hm dX13_type_75 (tgt := 91) rfl (fun _ => ?_) (fun z => absurd c20 z)
    refine mx_S.pu (pc2 := 92) (lv2 := [(0, .ref l0)]) (st2 := [.ref l0]) hm dX13_type_91 rfl ?_
    replace hf := mx_gd_el hf; obtain ⟨c15, hf⟩ := hf
    replace hf := mx_sv_el hf; obtain ⟨u16, e_u16, hf⟩ := hf
    refine sx_cv hm dX13_type_92 rs_RX13_403 mt_X13_name [] [] (b := l0) (ci := 13) rfl rfl rfl c15 (Nat.le_of_ble_eq_true rfl) (Nat.le_of_ble_eq_true rfl) (by omega) (by omega) (f_X13_name_ok X (by omega) (by omega) nn l0 h13 e_u16) ?_
    clear e_u16
    show mx_S X F L 400 95 [(0, .ref l0)] [.int u16.1] u16.2 0 0 (none, r, 0, 0)
    refine mx_S.pu (pc2 := 96) (lv2 := [(0, .ref l0)]) (st2 := []) hm dX13_type_95 rfl ?_
    exact j_X13_type_96_ok X hF hL nn l0 u16.2 hf
  · refine sb_if_ne hm dX13_type_75 (tgt := 91) rfl (fun z => absurd z c20) (fun _ => ?_)
    refine mx_S.pu (pc2 := 79) (lv2 := [(0, .ref l0)]) (st2 := [.ref l0]) hm dX13_type_78 rfl ?_
    refine mx_S.pu (pc2 := 80) (lv2 := [(0, .ref l0)]) (st2 := [.ref l0, .ref l0]) hm dX13_type_79 rfl ?_
    replace hf := mx_sv_el hf; obtain ⟨v17, e_v17, hf⟩ := hf
    refine sx_get hm dX13_type_80 rs_RX13_376 (xgi_el e_v17) ?_
    clear e_v17
    refine sx_ic (v := 1) hm dX13_type_83 (by decide) ?_
    replace hf := xl_el hf; obtain ⟨v18, e_v18, hf⟩ := hf
    refine mx_S.pu (pc2 := 85) (lv2 := [(0, .ref l0)]) (st2 := [.int v18, .ref l0]) hm dX13_type_84 (by rw [← e_v18]; rfl) ?_
    clear e_v18
    replace hf := mx_sv_el hf; obtain ⟨h19, e_h19, hf⟩ := hf
    refine sx_put hm dX13_type_85 rs_RX13_376 ft_13_23 ⟨rfl, rfl⟩ (fun z => by cases z) e_h19 ?_
    clear e_h19
    refine mx_S.pu (pc2 := 96) (lv2 := [(0, .ref l0)]) (st2 := []) hm dX13_type_88 rfl ?_
    exact j_X13_type_96_ok X hF hL nn l0 h19 hf
set_option maxHeartbeats 4000000 in
set_option maxRecDepth 20000 in
theorem f_X13_type_ok (X : Nat × (Nat → Int32)) {F L : Nat} (hF : 3 ≤ F) (hL : 63 ≤ L) (nn : Nat) (a0 : Nat) (h : mx_H) {r : mx_H} (hf : f_X13_type nn a0 h = some r) : mx_R X F L 400 [.ref a0] h (none, r, 0, 0) := by
  have hm : mx_mt 400 = some (yX13_type, cX13_type, 1, none) := mt_X13_type
  show mx_S X F L 400 0 [(0, .ref a0)] [] h 0 0 (none, r, 0, 0)
  unfold f_X13_type at hf
  refine mx_S.pu (pc2 := 1) (lv2 := [(0, .ref a0)]) (st2 := [.ref a0]) hm dX13_type_0 rfl ?_
  replace hf := mx_sv_el hf; obtain ⟨v21, e_v21, hf⟩ := hf
  refine sx_get hm dX13_type_1 rs_RX13_319 (xgi_el e_v21) ?_
  clear e_v21
  rcases mx_if_el hf with ⟨c37, hf⟩ | ⟨c37, hf⟩
  · refine sb_if_eq hm dX13_type_4 (tgt := 8) rfl (fun _ => ?_) (fun z => absurd c37 z)
    refine mx_S.pu (pc2 := 9) (lv2 := [(0, .ref a0)]) (st2 := [.ref a0]) hm dX13_type_8 rfl ?_
    refine mx_S.pu (pc2 := 10) (lv2 := [(0, .ref a0)]) (st2 := [.ref a0, .ref a0]) hm dX13_type_9 rfl ?_
    replace hf := mx_sv_el hf; obtain ⟨v22, e_v22, hf⟩ := hf
    refine sx_get hm dX13_type_10 rs_RX13_376 (xgi_el e_v22) ?_
    clear e_v22
    replace hf := mx_sv_el hf; obtain ⟨h23, e_h23, hf⟩ := hf
    refine sx_put hm dX13_type_13 rs_RX13_393 ft_13_46 ⟨rfl, rfl⟩ (fun z => by cases z) e_h23 ?_
    clear e_h23
    refine mx_S.pu (pc2 := 17) (lv2 := [(0, .ref a0)]) (st2 := [.ref a0]) hm dX13_type_16 rfl ?_
    refine sx_ic (v := 0) hm dX13_type_17 (by decide) ?_
    replace hf := mx_sv_el hf; obtain ⟨h24, e_h24, hf⟩ := hf
    refine sx_put hm dX13_type_18 rs_RX13_396 ft_13_47 ⟨by decide, by decide⟩ (fun z => by cases z) e_h24 ?_
    clear e_h24
    refine mx_S.pu (pc2 := 22) (lv2 := [(0, .ref a0)]) (st2 := [.ref a0]) hm dX13_type_21 rfl ?_
    refine mx_S.pu (pc2 := 23) (lv2 := [(0, .ref a0)]) (st2 := [.ref a0, .ref a0]) hm dX13_type_22 rfl ?_
    replace hf := mx_sv_el hf; obtain ⟨v25, e_v25, hf⟩ := hf
    refine sx_get hm dX13_type_23 rs_RX13_376 (xgi_el e_v25) ?_
    clear e_v25
    refine sx_ic (v := 0) hm dX13_type_26 (by decide) ?_
    replace hf := mx_gd_el hf; obtain ⟨c26, hf⟩ := hf
    replace hf := mx_sv_el hf; obtain ⟨u27, e_u27, hf⟩ := hf
    refine sx_cv hm dX13_type_27 rs_RX13_390 mt_X13_isWord [.int v25, .int 0] [] (b := a0) (ci := 13) rfl rfl rfl c26 (Nat.le_of_ble_eq_true rfl) (Nat.le_of_ble_eq_true rfl) (by omega) (by omega) (f_X13_isWord_ok X (by omega) (by omega) nn a0 v25 0 h24 e_u27) ?_
    clear e_u27
    show mx_S X F L 400 30 [(0, .ref a0)] [.int u27.1] u27.2 0 0 (none, r, 0, 0)
    rcases mx_if_el hf with ⟨c36, hf⟩ | ⟨c36, hf⟩
    · refine sb_if_eq hm dX13_type_30 (tgt := 49) rfl (fun _ => ?_) (fun z => absurd c36 z)
      refine mx_S.pu (pc2 := 50) (lv2 := [(0, .ref a0)]) (st2 := [.ref a0]) hm dX13_type_49 rfl ?_
      refine mx_S.pu (pc2 := 51) (lv2 := [(0, .ref a0)]) (st2 := [.ref a0, .ref a0]) hm dX13_type_50 rfl ?_
      refine mx_S.pu (pc2 := 52) (lv2 := [(0, .ref a0)]) (st2 := [.ref a0, .ref a0, .ref a0]) hm dX13_type_51 rfl ?_
      replace hf := mx_sv_el hf; obtain ⟨v28, e_v28, hf⟩ := hf
      refine sx_get hm dX13_type_52 rs_RX13_376 (xgi_el e_v28) ?_
      clear e_v28
      refine sx_bi (v := 10) hm dX13_type_55 (by decide) ?_
      replace hf := mx_gd_el hf; obtain ⟨c29, hf⟩ := hf
      replace hf := mx_sv_el hf; obtain ⟨u30, e_u30, hf⟩ := hf
      refine sx_cv hm dX13_type_57 rs_RX13_390 mt_X13_isWord [.int v28, .int 10] [.ref a0] (b := a0) (ci := 13) rfl rfl rfl c29 (Nat.le_of_ble_eq_true rfl) (Nat.le_of_ble_eq_true rfl) (by omega) (by omega) (f_X13_isWord_ok X (by omega) (by omega) nn a0 v28 10 u27.2 e_u30) ?_
      clear e_u30
      show mx_S X F L 400 60 [(0, .ref a0)] [.int u30.1, .ref a0] u30.2 0 0 (none, r, 0, 0)
      rcases mx_if_el hf with ⟨c31, hf⟩ | ⟨c31, hf⟩
      · refine sb_if_eq hm dX13_type_60 (tgt := 67) rfl (fun _ => ?_) (fun z => absurd c31 z)
        refine sx_ic (v := 3) hm dX13_type_67 (by decide) ?_
        exact j_X13_type_68_ok X hF hL nn a0 3 a0 u30.2 hf
      · refine sb_if_eq hm dX13_type_60 (tgt := 67) rfl (fun z => absurd z c31) (fun _ => ?_)
        refine sx_ic (v := 0) hm dX13_type_63 (by decide) ?_
        refine mx_S.pu (pc2 := 68) (lv2 := [(0, .ref a0)]) (st2 := [.int 0, .ref a0]) hm dX13_type_64 rfl ?_
        exact j_X13_type_68_ok X hF hL nn a0 0 a0 u30.2 hf
    · refine sb_if_eq hm dX13_type_30 (tgt := 49) rfl (fun z => absurd z c36) (fun _ => ?_)
      refine mx_S.pu (pc2 := 34) (lv2 := [(0, .ref a0)]) (st2 := [.ref a0]) hm dX13_type_33 rfl ?_
      refine sx_ic (v := 1) hm dX13_type_34 (by decide) ?_
      replace hf := mx_sv_el hf; obtain ⟨h32, e_h32, hf⟩ := hf
      refine sx_put hm dX13_type_35 rs_RX13_400 ft_13_45 ⟨rfl, rfl⟩ (fun z => by cases z) e_h32 ?_
      clear e_h32
      refine mx_S.pu (pc2 := 39) (lv2 := [(0, .ref a0)]) (st2 := [.ref a0]) hm dX13_type_38 rfl ?_
      refine mx_S.pu (pc2 := 40) (lv2 := [(0, .ref a0)]) (st2 := [.ref a0, .ref a0]) hm dX13_type_39 rfl ?_
      replace hf := mx_sv_el hf; obtain ⟨v33, e_v33, hf⟩ := hf
      refine sx_get hm dX13_type_40 rs_RX13_376 (xgi_el e_v33) ?_
      clear e_v33
      refine sx_ic (v := 1) hm dX13_type_43 (by decide) ?_
      replace hf := xl_el hf; obtain ⟨v34, e_v34, hf⟩ := hf
      refine mx_S.pu (pc2 := 45) (lv2 := [(0, .ref a0)]) (st2 := [.int v34, .ref a0]) hm dX13_type_44 (by rw [← e_v34]; rfl) ?_
      clear e_v34
      replace hf := mx_sv_el hf; obtain ⟨h35, e_h35, hf⟩ := hf
      refine sx_put hm dX13_type_45 rs_RX13_376 ft_13_23 ⟨rfl, rfl⟩ (fun z => by cases z) e_h35 ?_
      clear e_h35
      cases hf
      exact sx_ret hm dX13_type_48 rfl
  · refine sb_if_eq hm dX13_type_4 (tgt := 8) rfl (fun z => absurd z c37) (fun _ => ?_)
    cases hf
    exact sx_ret hm dX13_type_7 rfl
set_option maxHeartbeats 4000000 in
set_option maxRecDepth 20000 in
theorem f_X13_word_ok (X : Nat × (Nat → Int32)) {F L : Nat} (hF : 2 ≤ F) (hL : 42 ≤ L) (nn : Nat) (a0 : Nat) (a1 : Int32) (h : mx_H) {r : mx_H} (hf : f_X13_word nn a0 a1 h = some r) : mx_R X F L 397 [.ref a0, .int a1] h (none, r, 0, 0) := by
  have hm : mx_mt 397 = some (yX13_word, cX13_word, 2, none) := mt_X13_word
  show mx_S X F L 397 0 [(0, .ref a0), (1, .int a1)] [] h 0 0 (none, r, 0, 0)
  unfold f_X13_word at hf
  refine mx_S.pu (pc2 := 1) (lv2 := [(0, .ref a0), (1, .int a1)]) (st2 := [.ref a0]) hm dX13_word_0 rfl ?_
  replace hf := mx_sv_el hf; obtain ⟨v1, e_v1, hf⟩ := hf
  refine sx_get hm dX13_word_1 rs_RX13_319 (xgi_el e_v1) ?_
  clear e_v1
  rcases mx_if_el hf with ⟨c11, hf⟩ | ⟨c11, hf⟩
  · refine sb_if_eq hm dX13_word_4 (tgt := 8) rfl (fun _ => ?_) (fun z => absurd c11 z)
    refine mx_S.pu (pc2 := 9) (lv2 := [(0, .ref a0), (1, .int a1)]) (st2 := [.ref a0]) hm dX13_word_8 rfl ?_
    refine mx_S.pu (pc2 := 10) (lv2 := [(0, .ref a0), (1, .int a1)]) (st2 := [.ref a0, .ref a0]) hm dX13_word_9 rfl ?_
    replace hf := mx_sv_el hf; obtain ⟨v2, e_v2, hf⟩ := hf
    refine sx_get hm dX13_word_10 rs_RX13_376 (xgi_el e_v2) ?_
    clear e_v2
    refine mx_S.pu (pc2 := 14) (lv2 := [(0, .ref a0), (1, .int a1)]) (st2 := [.int a1, .int v2, .ref a0]) hm dX13_word_13 rfl ?_
    replace hf := mx_gd_el hf; obtain ⟨c3, hf⟩ := hf
    replace hf := mx_sv_el hf; obtain ⟨u4, e_u4, hf⟩ := hf
    refine sx_cv hm dX13_word_14 rs_RX13_390 mt_X13_isWord [.int v2, .int a1] [] (b := a0) (ci := 13) rfl rfl rfl c3 (Nat.le_of_ble_eq_true rfl) (Nat.le_of_ble_eq_true rfl) (by omega) (by omega) (f_X13_isWord_ok X (by omega) (by omega) nn a0 v2 a1 h e_u4) ?_
    clear e_u4
    show mx_S X F L 397 17 [(0, .ref a0), (1, .int a1)] [.int u4.1] u4.2 0 0 (none, r, 0, 0)
    rcases mx_if_el hf with ⟨c10, hf⟩ | ⟨c10, hf⟩
    · refine sb_if_eq hm dX13_word_17 (tgt := 33) rfl (fun _ => ?_) (fun z => absurd c10 z)
      refine mx_S.pu (pc2 := 34) (lv2 := [(0, .ref a0), (1, .int a1)]) (st2 := [.ref a0]) hm dX13_word_33 rfl ?_
      replace hf := mx_gd_el hf; obtain ⟨c5, hf⟩ := hf
      replace hf := mx_sv_el hf; obtain ⟨u6, e_u6, hf⟩ := hf
      refine sx_cv hm dX13_word_34 rs_RX13_387 mt_X13_misplaced [] [] (b := a0) (ci := 13) rfl rfl rfl c5 (Nat.le_of_ble_eq_true rfl) (Nat.le_of_ble_eq_true rfl) (by omega) (by omega) (f_X13_misplaced_ok X (by omega) (by omega) nn a0 u4.2 e_u6) ?_
      clear e_u6
      show mx_S X F L 397 37 [(0, .ref a0), (1, .int a1)] [] u6 0 0 (none, r, 0, 0)
      cases hf
      exact sx_ret hm dX13_word_37 rfl
    · refine sb_if_eq hm dX13_word_17 (tgt := 33) rfl (fun z => absurd z c10) (fun _ => ?_)
      refine mx_S.pu (pc2 := 21) (lv2 := [(0, .ref a0), (1, .int a1)]) (st2 := [.ref a0]) hm dX13_word_20 rfl ?_
      refine mx_S.pu (pc2 := 22) (lv2 := [(0, .ref a0), (1, .int a1)]) (st2 := [.ref a0, .ref a0]) hm dX13_word_21 rfl ?_
      replace hf := mx_sv_el hf; obtain ⟨v7, e_v7, hf⟩ := hf
      refine sx_get hm dX13_word_22 rs_RX13_376 (xgi_el e_v7) ?_
      clear e_v7
      refine sx_ic (v := 1) hm dX13_word_25 (by decide) ?_
      replace hf := xl_el hf; obtain ⟨v8, e_v8, hf⟩ := hf
      refine mx_S.pu (pc2 := 27) (lv2 := [(0, .ref a0), (1, .int a1)]) (st2 := [.int v8, .ref a0]) hm dX13_word_26 (by rw [← e_v8]; rfl) ?_
      clear e_v8
      replace hf := mx_sv_el hf; obtain ⟨h9, e_h9, hf⟩ := hf
      refine sx_put hm dX13_word_27 rs_RX13_376 ft_13_23 ⟨rfl, rfl⟩ (fun z => by cases z) e_h9 ?_
      clear e_h9
      refine mx_S.pu (pc2 := 37) (lv2 := [(0, .ref a0), (1, .int a1)]) (st2 := []) hm dX13_word_30 rfl ?_
      cases hf
      exact sx_ret hm dX13_word_37 rfl
  · refine sb_if_eq hm dX13_word_4 (tgt := 8) rfl (fun z => absurd z c11) (fun _ => ?_)
    cases hf
    exact sx_ret hm dX13_word_7 rfl
