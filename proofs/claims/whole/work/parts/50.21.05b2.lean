set_option maxHeartbeats 4000000 in
set_option maxRecDepth 20000 in
theorem w_X10_readCall_22_ok (X : Nat × (Nat → Int32)) {F L d : Nat} (hF : 5 + (d + 1) ≤ F) (hL : 152 + (d + 1) * 30 ≤ L) (nn : Nat) {rc : tg_X10_readValue} (hrc : hg5_X10_readValue X d rc) : ∀ (k : Nat) (l0 : Nat) (l1 : Int32) (l2 : Int32) (l3 : Int32) (l4 : Int32) (l5 : Int32) (l6 : Int32) (l7 : Int32) (l8 : Int32) (l9 : Int32) (h : mx_H) (r : mx_H), w_X10_readCall_22 nn rc k l0 l1 l2 l3 l4 l5 l6 l7 l8 l9 h = some r → mx_S X F L 304 22 [(0, .ref l0), (1, .int l1), (2, .int l2), (3, .int l3), (4, .int l4), (5, .int l5), (6, .int l6), (7, .int l7), (8, .int l8), (9, .int l9)] [] h 0 0 (none, r, 0, 0) := by
  have hm : mx_mt 304 = some (yX10_readCall, cX10_readCall, 11, none) := mt_X10_readCall
  intro k
  induction k with
  | zero => intro l0 l1 l2 l3 l4 l5 l6 l7 l8 l9 h r hf; cases hf
  | succ k ih =>
    intro l0 l1 l2 l3 l4 l5 l6 l7 l8 l9 h r hf
    unfold w_X10_readCall_22 at hf
    refine mx_S.pu (pc2 := 24) (lv2 := [(0, .ref l0), (1, .int l1), (2, .int l2), (3, .int l3), (4, .int l4), (5, .int l5), (6, .int l6), (7, .int l7), (8, .int l8), (9, .int l9)]) (st2 := [.int l9]) hm dX10_readCall_22 rfl ?_
    refine sx_si (v := 3000) hm dX10_readCall_24 (by decide) ?_
    rcases mx_if_el hf with ⟨c68, hf⟩ | ⟨c68, hf⟩
    · refine sb_ic_ge hm dX10_readCall_27 (tgt := 128) rfl (fun _ => ?_) (fun z => absurd c68 z)
      refine mx_S.ext [(0, .ref l0), (1, .int l1), (2, .int l2), (3, .int l3), (4, .int l4), (5, .int l5), (7, .int l7), (8, .int l8)] (mx_sub_pos [0, 1, 2, 3, 4, 5, 7, 8] rfl (show ([0, 1, 2, 3, 4, 5, 6, 7, 8, 9] : List Nat).Nodup by decide)) ?_
      exact j_X10_readCall_128_ok X hF hL nn hrc l0 l1 l2 l3 l4 l5 l7 l8 h hf
    · refine sb_ic_ge hm dX10_readCall_27 (tgt := 128) rfl (fun z => absurd z c68) (fun _ => ?_)
      refine mx_S.pu (pc2 := 31) (lv2 := [(0, .ref l0), (1, .int l1), (2, .int l2), (3, .int l3), (4, .int l4), (5, .int l5), (6, .int l6), (7, .int l7), (8, .int l8), (9, .int l9)]) (st2 := [.ref l0]) hm dX10_readCall_30 rfl ?_
      replace hf := mx_sv_el hf; obtain ⟨v50, e_v50, hf⟩ := hf
      refine sx_get hm dX10_readCall_31 rs_RX10_31 (xgr_el e_v50) ?_
      clear e_v50
      replace hf := mx_sv_el hf; obtain ⟨v51, e_v51, hf⟩ := hf
      refine sx_get hm dX10_readCall_34 rs_RX10_280 (xgi_el e_v51) ?_
      clear e_v51
      rcases mx_if_el hf with ⟨c67, hf⟩ | ⟨c67, hf⟩
      · refine sb_if_ne hm dX10_readCall_37 (tgt := 128) rfl (fun _ => ?_) (fun z => absurd c67 z)
        refine mx_S.ext [(0, .ref l0), (1, .int l1), (2, .int l2), (3, .int l3), (4, .int l4), (5, .int l5), (7, .int l7), (8, .int l8)] (mx_sub_pos [0, 1, 2, 3, 4, 5, 7, 8] rfl (show ([0, 1, 2, 3, 4, 5, 6, 7, 8, 9] : List Nat).Nodup by decide)) ?_
        exact j_X10_readCall_128_ok X hF hL nn hrc l0 l1 l2 l3 l4 l5 l7 l8 h hf
      · refine sb_if_ne hm dX10_readCall_37 (tgt := 128) rfl (fun z => absurd z c67) (fun _ => ?_)
        refine mx_S.pu (pc2 := 41) (lv2 := [(0, .ref l0), (1, .int l1), (2, .int l2), (3, .int l3), (4, .int l4), (5, .int l5), (6, .int l6), (7, .int l7), (8, .int l8), (9, .int l9)]) (st2 := [.ref l0]) hm dX10_readCall_40 rfl ?_
        replace hf := mx_sv_el hf; obtain ⟨v52, e_v52, hf⟩ := hf
        refine sx_get hm dX10_readCall_41 rs_RX10_31 (xgr_el e_v52) ?_
        clear e_v52
        replace hf := mx_gd_el hf; obtain ⟨c53, hf⟩ := hf
        replace hf := mx_sv_el hf; obtain ⟨u54, e_u54, hf⟩ := hf
        refine sx_cv hm dX10_readCall_44 rs_RX10_93 mt_X9_kind [] [] (b := v52) (ci := 9) rfl rfl rfl c53 (Nat.le_of_ble_eq_true rfl) (Nat.le_of_ble_eq_true rfl) (by omega) (by omega) (f_X9_kind_ok X (by omega) (by omega) nn v52 h e_u54) ?_
        clear e_u54
        show mx_S X F L 304 47 [(0, .ref l0), (1, .int l1), (2, .int l2), (3, .int l3), (4, .int l4), (5, .int l5), (6, .int l6), (7, .int l7), (8, .int l8), (9, .int l9)] [.int u54.1] u54.2 0 0 (none, r, 0, 0)
        refine sx_bi (v := 41) hm dX10_readCall_47 (by decide) ?_
        rcases mx_if_el hf with ⟨c66, hf⟩ | ⟨c66, hf⟩
        · refine sb_ic_eq hm dX10_readCall_49 (tgt := 128) rfl (fun _ => ?_) (fun z => absurd c66 z)
          refine mx_S.ext [(0, .ref l0), (1, .int l1), (2, .int l2), (3, .int l3), (4, .int l4), (5, .int l5), (7, .int l7), (8, .int l8)] (mx_sub_pos [0, 1, 2, 3, 4, 5, 7, 8] rfl (show ([0, 1, 2, 3, 4, 5, 6, 7, 8, 9] : List Nat).Nodup by decide)) ?_
          exact j_X10_readCall_128_ok X hF hL nn hrc l0 l1 l2 l3 l4 l5 l7 l8 u54.2 hf
        · refine sb_ic_eq hm dX10_readCall_49 (tgt := 128) rfl (fun z => absurd z c66) (fun _ => ?_)
          refine mx_S.pu (pc2 := 53) (lv2 := [(0, .ref l0), (1, .int l1), (2, .int l2), (3, .int l3), (4, .int l4), (5, .int l5), (6, .int l6), (7, .int l7), (8, .int l8), (9, .int l9)]) (st2 := [.ref l0]) hm dX10_readCall_52 rfl ?_
          refine mx_S.pu (pc2 := 55) (lv2 := [(0, .ref l0), (1, .int l1), (2, .int l2), (3, .int l3), (4, .int l4), (5, .int l5), (6, .int l6), (7, .int l7), (8, .int l8), (9, .int l9)]) (st2 := [.int l6, .ref l0]) hm dX10_readCall_53 rfl ?_
          replace hf := mx_gd_el hf; obtain ⟨c55, hf⟩ := hf
          replace hf := mx_sv_el hf; obtain ⟨u56, e_u56, hf⟩ := hf
          refine sx_cv hm dX10_readCall_55 rs_RX10_68 mt_X10_readValue [.int l6] [] (b := l0) (ci := 10) rfl rfl rfl c55 (Nat.le_of_ble_eq_true rfl) (Nat.le_of_ble_eq_true rfl) (by omega) (by omega) (hrc.1 (by omega) (by omega) l0 l6 u54.2 e_u56) ?_
          clear e_u56
          show mx_S X F L 304 58 [(0, .ref l0), (1, .int l1), (2, .int l2), (3, .int l3), (4, .int l4), (5, .int l5), (6, .int l6), (7, .int l7), (8, .int l8), (9, .int l9)] [] u56 0 0 (none, r, 0, 0)
          refine mx_S.pu (pc2 := 60) (lv2 := [(0, .ref l0), (1, .int l1), (2, .int l2), (3, .int l3), (4, .int l4), (5, .int l5), (6, .int l6), (7, .int l7), (8, .int l8), (9, .int l9)]) (st2 := [.int l8]) hm dX10_readCall_58 rfl ?_
          rcases mx_if_el hf with ⟨c65, hf⟩ | ⟨c65, hf⟩
          · refine sb_if_eq hm dX10_readCall_60 (tgt := 91) rfl (fun _ => ?_) (fun z => absurd c65 z)
            refine mx_S.ext [(0, .ref l0), (1, .int l1), (2, .int l2), (3, .int l3), (4, .int l4), (5, .int l5), (6, .int l6), (7, .int l7), (9, .int l9)] (mx_sub_pos [0, 1, 2, 3, 4, 5, 6, 7, 9] rfl (show ([0, 1, 2, 3, 4, 5, 6, 7, 8, 9] : List Nat).Nodup by decide)) ?_
            exact j_X10_readCall_91_ok X hF hL nn hrc ih l0 l1 l2 l3 l4 l5 l6 l7 l9 u56 hf
          · refine sb_if_eq hm dX10_readCall_60 (tgt := 91) rfl (fun z => absurd z c65) (fun _ => ?_)
            refine mx_S.pu (pc2 := 64) (lv2 := [(0, .ref l0), (1, .int l1), (2, .int l2), (3, .int l3), (4, .int l4), (5, .int l5), (6, .int l6), (7, .int l7), (8, .int l8), (9, .int l9)]) (st2 := [.ref l0]) hm dX10_readCall_63 rfl ?_
            replace hf := mx_sv_el hf; obtain ⟨v57, e_v57, hf⟩ := hf
            refine sx_get hm dX10_readCall_64 rs_RX10_45 (xgr_el e_v57) ?_
            clear e_v57
            refine mx_S.pu (pc2 := 68) (lv2 := [(0, .ref l0), (1, .int l1), (2, .int l2), (3, .int l3), (4, .int l4), (5, .int l5), (6, .int l6), (7, .int l7), (8, .int l8), (9, .int l9)]) (st2 := [.ref l0, .ref v57]) hm dX10_readCall_67 rfl ?_
            replace hf := mx_sv_el hf; obtain ⟨v58, e_v58, hf⟩ := hf
            refine sx_get hm dX10_readCall_68 rs_RX10_75 (xgi_el e_v58) ?_
            clear e_v58
            refine mx_S.pu (pc2 := 72) (lv2 := [(0, .ref l0), (1, .int l1), (2, .int l2), (3, .int l3), (4, .int l4), (5, .int l5), (6, .int l6), (7, .int l7), (8, .int l8), (9, .int l9)]) (st2 := [.ref l0, .int v58, .ref v57]) hm dX10_readCall_71 rfl ?_
            replace hf := mx_sv_el hf; obtain ⟨v59, e_v59, hf⟩ := hf
            refine sx_get hm dX10_readCall_72 rs_RX10_35 (xgr_el e_v59) ?_
            clear e_v59
            refine mx_S.pu (pc2 := 76) (lv2 := [(0, .ref l0), (1, .int l1), (2, .int l2), (3, .int l3), (4, .int l4), (5, .int l5), (6, .int l6), (7, .int l7), (8, .int l8), (9, .int l9)]) (st2 := [.int l2, .ref v59, .int v58, .ref v57]) hm dX10_readCall_75 rfl ?_
            refine mx_S.pu (pc2 := 78) (lv2 := [(0, .ref l0), (1, .int l1), (2, .int l2), (3, .int l3), (4, .int l4), (5, .int l5), (6, .int l6), (7, .int l7), (8, .int l8), (9, .int l9)]) (st2 := [.int l7, .int l2, .ref v59, .int v58, .ref v57]) hm dX10_readCall_76 rfl ?_
            replace hf := mx_gd_el hf; obtain ⟨c60, hf⟩ := hf
            replace hf := mx_sv_el hf; obtain ⟨u61, e_u61, hf⟩ := hf
            refine sx_cv hm dX10_readCall_78 rs_RX10_283 mt_X2_parameterType [.int l2, .int l7] [.int v58, .ref v57] (b := v59) (ci := 2) rfl rfl rfl c60 (Nat.le_of_ble_eq_true rfl) (Nat.le_of_ble_eq_true rfl) (by omega) (by omega) (f_X2_parameterType_ok X (by omega) (by omega) nn v59 l2 l7 u56 e_u61) ?_
            clear e_u61
            show mx_S X F L 304 81 [(0, .ref l0), (1, .int l1), (2, .int l2), (3, .int l3), (4, .int l4), (5, .int l5), (6, .int l6), (7, .int l7), (8, .int l8), (9, .int l9)] [.int u61.1, .int v58, .ref v57] u61.2 0 0 (none, r, 0, 0)
            replace hf := mx_gd_el hf; obtain ⟨c62, hf⟩ := hf
            replace hf := mx_sv_el hf; obtain ⟨u63, e_u63, hf⟩ := hf
            refine sx_cv hm dX10_readCall_81 rs_RX10_127 mt_X4_fits [.int v58, .int u61.1] [] (b := v57) (ci := 4) rfl rfl rfl c62 (Nat.le_of_ble_eq_true rfl) (Nat.le_of_ble_eq_true rfl) (by omega) (by omega) (f_X4_fits_ok X (by omega) (by omega) nn v57 v58 u61.1 u61.2 e_u63) ?_
            clear e_u63
            show mx_S X F L 304 84 [(0, .ref l0), (1, .int l1), (2, .int l2), (3, .int l3), (4, .int l4), (5, .int l5), (6, .int l6), (7, .int l7), (8, .int l8), (9, .int l9)] [.int u63.1] u63.2 0 0 (none, r, 0, 0)
            rcases mx_if_el hf with ⟨c64, hf⟩ | ⟨c64, hf⟩
            · refine sb_if_eq hm dX10_readCall_84 (tgt := 91) rfl (fun _ => ?_) (fun z => absurd c64 z)
              refine mx_S.ext [(0, .ref l0), (1, .int l1), (2, .int l2), (3, .int l3), (4, .int l4), (5, .int l5), (6, .int l6), (7, .int l7), (9, .int l9)] (mx_sub_pos [0, 1, 2, 3, 4, 5, 6, 7, 9] rfl (show ([0, 1, 2, 3, 4, 5, 6, 7, 8, 9] : List Nat).Nodup by decide)) ?_
              exact j_X10_readCall_91_ok X hF hL nn hrc ih l0 l1 l2 l3 l4 l5 l6 l7 l9 u63.2 hf
            · refine sb_if_eq hm dX10_readCall_84 (tgt := 91) rfl (fun z => absurd z c64) (fun _ => ?_)
              refine sx_ic (v := 1) hm dX10_readCall_87 (by decide) ?_
              refine mx_S.pu (pc2 := 92) (lv2 := [(0, .ref l0), (1, .int l1), (2, .int l2), (3, .int l3), (4, .int l4), (5, .int l5), (6, .int l6), (7, .int l7), (8, .int l8), (9, .int l9)]) (st2 := [.int 1]) hm dX10_readCall_88 rfl ?_
              refine mx_S.ext [(0, .ref l0), (1, .int l1), (2, .int l2), (3, .int l3), (4, .int l4), (5, .int l5), (6, .int l6), (7, .int l7), (9, .int l9)] (mx_sub_pos [0, 1, 2, 3, 4, 5, 6, 7, 9] rfl (show ([0, 1, 2, 3, 4, 5, 6, 7, 8, 9] : List Nat).Nodup by decide)) ?_
              exact j_X10_readCall_92_ok X hF hL nn hrc ih l0 l1 l2 l3 l4 l5 l6 l7 l9 1 u63.2 hf
set_option maxHeartbeats 4000000 in
set_option maxRecDepth 20000 in
theorem o_X10_readCall_ok (X : Nat × (Nat → Int32)) {F L d : Nat} (hF : 5 + (d + 1) ≤ F) (hL : 152 + (d + 1) * 30 ≤ L) (nn : Nat) {rc : tg_X10_readValue} (hrc : hg5_X10_readValue X d rc) (a0 : Nat) (a1 : Int32) (a2 : Int32) (a3 : Int32) (a4 : Int32) (a5 : Int32) (a6 : Int32) (h : mx_H) {r : mx_H} (hf : o_X10_readCall nn rc a0 a1 a2 a3 a4 a5 a6 h = some r) : mx_R X F L 304 [.ref a0, .int a1, .int a2, .int a3, .int a4, .int a5, .int a6] h (none, r, 0, 0) := by
  have hm : mx_mt 304 = some (yX10_readCall, cX10_readCall, 11, none) := mt_X10_readCall
  show mx_S X F L 304 0 [(0, .ref a0), (1, .int a1), (2, .int a2), (3, .int a3), (4, .int a4), (5, .int a5), (6, .int a6)] [] h 0 0 (none, r, 0, 0)
  unfold o_X10_readCall at hf
  refine sx_ic (v := 0) hm dX10_readCall_0 (by decide) ?_
  refine mx_S.pu (pc2 := 3) (lv2 := [(7, .int 0), (0, .ref a0), (1, .int a1), (2, .int a2), (3, .int a3), (4, .int a4), (5, .int a5), (6, .int a6)]) (st2 := []) hm dX10_readCall_1 rfl ?_
  refine sx_ic (v := 1) hm dX10_readCall_3 (by decide) ?_
  refine mx_S.pu (pc2 := 6) (lv2 := [(8, .int 1), (7, .int 0), (0, .ref a0), (1, .int a1), (2, .int a2), (3, .int a3), (4, .int a4), (5, .int a5), (6, .int a6)]) (st2 := []) hm dX10_readCall_4 rfl ?_
  refine mx_S.pu (pc2 := 7) (lv2 := [(8, .int 1), (7, .int 0), (0, .ref a0), (1, .int a1), (2, .int a2), (3, .int a3), (4, .int a4), (5, .int a5), (6, .int a6)]) (st2 := [.ref a0]) hm dX10_readCall_6 rfl ?_
  replace hf := mx_sv_el hf; obtain ⟨v69, e_v69, hf⟩ := hf
  refine sx_get hm dX10_readCall_7 rs_RX10_31 (xgr_el e_v69) ?_
  clear e_v69
  refine mx_S.pu (pc2 := 11) (lv2 := [(8, .int 1), (7, .int 0), (0, .ref a0), (1, .int a1), (2, .int a2), (3, .int a3), (4, .int a4), (5, .int a5), (6, .int a6)]) (st2 := [.ref v69, .ref v69]) hm dX10_readCall_10 rfl ?_
  replace hf := mx_sv_el hf; obtain ⟨v70, e_v70, hf⟩ := hf
  refine sx_get hm dX10_readCall_11 rs_RX10_72 (xgi_el e_v70) ?_
  clear e_v70
  refine sx_ic (v := 1) hm dX10_readCall_14 (by decide) ?_
  replace hf := xl_el hf; obtain ⟨v71, e_v71, hf⟩ := hf
  refine mx_S.pu (pc2 := 16) (lv2 := [(8, .int 1), (7, .int 0), (0, .ref a0), (1, .int a1), (2, .int a2), (3, .int a3), (4, .int a4), (5, .int a5), (6, .int a6)]) (st2 := [.int v71, .ref v69]) hm dX10_readCall_15 (by rw [← e_v71]; rfl) ?_
  clear e_v71
  replace hf := mx_sv_el hf; obtain ⟨h72, e_h72, hf⟩ := hf
  refine sx_put hm dX10_readCall_16 rs_RX10_72 ft_9_10 ⟨rfl, rfl⟩ (fun z => by cases z) e_h72 ?_
  clear e_h72
  refine sx_ic (v := 0) hm dX10_readCall_19 (by decide) ?_
  refine mx_S.pu (pc2 := 22) (lv2 := [(9, .int 0), (8, .int 1), (7, .int 0), (0, .ref a0), (1, .int a1), (2, .int a2), (3, .int a3), (4, .int a4), (5, .int a5), (6, .int a6)]) (st2 := []) hm dX10_readCall_20 rfl ?_
  refine mx_S.ext [(0, .ref a0), (1, .int a1), (2, .int a2), (3, .int a3), (4, .int a4), (5, .int a5), (6, .int a6), (7, .int 0), (8, .int 1), (9, .int 0)] (mx_sub_pos [3, 4, 5, 6, 7, 8, 9, 2, 1, 0] rfl (show ([9, 8, 7, 0, 1, 2, 3, 4, 5, 6] : List Nat).Nodup by decide)) ?_
  exact w_X10_readCall_22_ok X hF hL nn hrc nn a0 a1 a2 a3 a4 a5 a6 0 1 0 h72 _ hf
theorem g_X10_readValue_ok (X : Nat × (Nat → Int32)) (nn : Nat) : ∀ d, hg5_X10_readValue X d (g_X10_readValue nn d) := by
  intro d
  induction d with
  | zero => exact ⟨(fun {F L} _ _ a0 a1 h {r} hf => by cases hf), (fun {F L} _ _ a0 a1 a2 h {r} hf => by cases hf), (fun {F L} _ _ a0 a1 h {r} hf => by cases hf), (fun {F L} _ _ a0 a1 h {r} hf => by cases hf), (fun {F L} _ _ a0 a1 h {r} hf => by cases hf), (fun {F L} _ _ a0 a1 h {r} hf => by cases hf), (fun {F L} _ _ a0 a1 h {r} hf => by cases hf), (fun {F L} _ _ a0 a1 a2 h {r} hf => by cases hf), (fun {F L} _ _ a0 a1 a2 a3 a4 a5 a6 h {r} hf => by cases hf)⟩
  | succ d ih => exact ⟨(fun {F L} hF hL a0 a1 h {r} hf => o_X10_readValue_ok X hF hL nn ih a0 a1 h hf), (fun {F L} hF hL a0 a1 a2 h {r} hf => o_X10_readChoice_ok X hF hL nn ih a0 a1 a2 h hf), (fun {F L} hF hL a0 a1 h {r} hf => o_X10_readUnary_ok X hF hL nn ih a0 a1 h hf), (fun {F L} hF hL a0 a1 h {r} hf => o_X10_readPrimary_ok X hF hL nn ih a0 a1 h hf), (fun {F L} hF hL a0 a1 h {r} hf => o_X10_readNew_ok X hF hL nn ih a0 a1 h hf), (fun {F L} hF hL a0 a1 h {r} hf => o_X10_readElement_ok X hF hL nn ih a0 a1 h hf), (fun {F L} hF hL a0 a1 h {r} hf => o_X10_readNamed_ok X hF hL nn ih a0 a1 h hf), (fun {F L} hF hL a0 a1 a2 h {r} hf => o_X10_readBehindPoint_ok X hF hL nn ih a0 a1 a2 h hf), (fun {F L} hF hL a0 a1 a2 a3 a4 a5 a6 h {r} hf => o_X10_readCall_ok X hF hL nn ih a0 a1 a2 a3 a4 a5 a6 h hf)⟩
theorem f_X10_readValue_ok (X : Nat × (Nat → Int32)) {F L : Nat} (hF : 425 ≤ F) (hL : 12752 ≤ L) (nn : Nat) (a0 : Nat) (a1 : Int32) (h : mx_H) {r : mx_H} (hf : f_X10_readValue nn a0 a1 h = some r) : mx_R X F L 275 [.ref a0, .int a1] h (none, r, 0, 0) := (g_X10_readValue_ok X nn 420).1 (by omega) (by omega) a0 a1 h hf
theorem f_X10_readChoice_ok (X : Nat × (Nat → Int32)) {F L : Nat} (hF : 425 ≤ F) (hL : 12752 ≤ L) (nn : Nat) (a0 : Nat) (a1 : Int32) (a2 : Int32) (h : mx_H) {r : mx_H} (hf : f_X10_readChoice nn a0 a1 a2 h = some r) : mx_R X F L 276 [.ref a0, .int a1, .int a2] h (none, r, 0, 0) := (g_X10_readValue_ok X nn 420).2.1 (by omega) (by omega) a0 a1 a2 h hf
theorem f_X10_readUnary_ok (X : Nat × (Nat → Int32)) {F L : Nat} (hF : 425 ≤ F) (hL : 12752 ≤ L) (nn : Nat) (a0 : Nat) (a1 : Int32) (h : mx_H) {r : mx_H} (hf : f_X10_readUnary nn a0 a1 h = some r) : mx_R X F L 288 [.ref a0, .int a1] h (none, r, 0, 0) := (g_X10_readValue_ok X nn 420).2.2.1 (by omega) (by omega) a0 a1 h hf
theorem f_X10_readPrimary_ok (X : Nat × (Nat → Int32)) {F L : Nat} (hF : 425 ≤ F) (hL : 12752 ≤ L) (nn : Nat) (a0 : Nat) (a1 : Int32) (h : mx_H) {r : mx_H} (hf : f_X10_readPrimary nn a0 a1 h = some r) : mx_R X F L 291 [.ref a0, .int a1] h (none, r, 0, 0) := (g_X10_readValue_ok X nn 420).2.2.2.1 (by omega) (by omega) a0 a1 h hf
theorem f_X10_readNew_ok (X : Nat × (Nat → Int32)) {F L : Nat} (hF : 425 ≤ F) (hL : 12752 ≤ L) (nn : Nat) (a0 : Nat) (a1 : Int32) (h : mx_H) {r : mx_H} (hf : f_X10_readNew nn a0 a1 h = some r) : mx_R X F L 297 [.ref a0, .int a1] h (none, r, 0, 0) := (g_X10_readValue_ok X nn 420).2.2.2.2.1 (by omega) (by omega) a0 a1 h hf
theorem f_X10_readElement_ok (X : Nat × (Nat → Int32)) {F L : Nat} (hF : 425 ≤ F) (hL : 12752 ≤ L) (nn : Nat) (a0 : Nat) (a1 : Int32) (h : mx_H) {r : mx_H} (hf : f_X10_readElement nn a0 a1 h = some r) : mx_R X F L 298 [.ref a0, .int a1] h (none, r, 0, 0) := (g_X10_readValue_ok X nn 420).2.2.2.2.2.1 (by omega) (by omega) a0 a1 h hf
theorem f_X10_readNamed_ok (X : Nat × (Nat → Int32)) {F L : Nat} (hF : 425 ≤ F) (hL : 12752 ≤ L) (nn : Nat) (a0 : Nat) (a1 : Int32) (h : mx_H) {r : mx_H} (hf : f_X10_readNamed nn a0 a1 h = some r) : mx_R X F L 299 [.ref a0, .int a1] h (none, r, 0, 0) := (g_X10_readValue_ok X nn 420).2.2.2.2.2.2.1 (by omega) (by omega) a0 a1 h hf
theorem f_X10_readBehindPoint_ok (X : Nat × (Nat → Int32)) {F L : Nat} (hF : 425 ≤ F) (hL : 12752 ≤ L) (nn : Nat) (a0 : Nat) (a1 : Int32) (a2 : Int32) (h : mx_H) {r : mx_H} (hf : f_X10_readBehindPoint nn a0 a1 a2 h = some r) : mx_R X F L 303 [.ref a0, .int a1, .int a2] h (none, r, 0, 0) := (g_X10_readValue_ok X nn 420).2.2.2.2.2.2.2.1 (by omega) (by omega) a0 a1 a2 h hf
theorem f_X10_readCall_ok (X : Nat × (Nat → Int32)) {F L : Nat} (hF : 425 ≤ F) (hL : 12752 ≤ L) (nn : Nat) (a0 : Nat) (a1 : Int32) (a2 : Int32) (a3 : Int32) (a4 : Int32) (a5 : Int32) (a6 : Int32) (h : mx_H) {r : mx_H} (hf : f_X10_readCall nn a0 a1 a2 a3 a4 a5 a6 h = some r) : mx_R X F L 304 [.ref a0, .int a1, .int a2, .int a3, .int a4, .int a5, .int a6] h (none, r, 0, 0) := (g_X10_readValue_ok X nn 420).2.2.2.2.2.2.2.2 (by omega) (by omega) a0 a1 a2 a3 a4 a5 a6 h hf
