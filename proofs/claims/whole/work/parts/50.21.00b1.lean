set_option maxHeartbeats 4000000 in
set_option maxRecDepth 20000 in
theorem f_X6_writeConstant_ok (X : Nat × (Nat → Int32)) {F L : Nat} (hF : 2 ≤ F) (hL : 84 ≤ L) (nn : Nat) (a0 : Nat) (a1 : Int32) (a2 : Nat) (a3 : Int32) (h : mx_H) {r : mx_H} (hf : f_X6_writeConstant nn a0 a1 a2 a3 h = some r) : mx_R X F L 190 [.ref a0, .int a1, .ref a2, .int a3] h (none, r, 0, 0) := by
  have hm : mx_mt 190 = some (yX6_writeConstant, cX6_writeConstant, 6, none) := mt_X6_writeConstant
  show mx_S X F L 190 0 [(0, .ref a0), (1, .int a1), (2, .ref a2), (3, .int a3)] [] h 0 0 (none, r, 0, 0)
  unfold f_X6_writeConstant at hf
  refine mx_S.pu (pc2 := 1) (lv2 := [(0, .ref a0), (1, .int a1), (2, .ref a2), (3, .int a3)]) (st2 := [.ref a0]) hm dX6_writeConstant_0 rfl ?_
  refine mx_S.pu (pc2 := 2) (lv2 := [(0, .ref a0), (1, .int a1), (2, .ref a2), (3, .int a3)]) (st2 := [.ref a0, .ref a0]) hm dX6_writeConstant_1 rfl ?_
  replace hf := mx_sv_el hf; obtain ⟨v12, e_v12, hf⟩ := hf
  refine sx_get hm dX6_writeConstant_2 rs_RX6_9 (xgr_el e_v12) ?_
  clear e_v12
  refine mx_S.pu (pc2 := 6) (lv2 := [(0, .ref a0), (1, .int a1), (2, .ref a2), (3, .int a3)]) (st2 := [.int a1, .ref v12, .ref a0]) hm dX6_writeConstant_5 rfl ?_
  replace hf := mx_sv_el hf; obtain ⟨v13, e_v13, hf⟩ := hf
  refine sx_ald hm dX6_writeConstant_6 e_v13 ?_
  clear e_v13
  refine mx_S.pu (pc2 := 8) (lv2 := [(0, .ref a0), (1, .int a1), (2, .ref a2), (3, .int a3)]) (st2 := [.ref a0, .int v13, .ref a0]) hm dX6_writeConstant_7 rfl ?_
  replace hf := mx_sv_el hf; obtain ⟨v14, e_v14, hf⟩ := hf
  refine sx_get hm dX6_writeConstant_8 rs_RX6_13 (xgr_el e_v14) ?_
  clear e_v14
  refine mx_S.pu (pc2 := 12) (lv2 := [(0, .ref a0), (1, .int a1), (2, .ref a2), (3, .int a3)]) (st2 := [.int a1, .ref v14, .int v13, .ref a0]) hm dX6_writeConstant_11 rfl ?_
  replace hf := mx_sv_el hf; obtain ⟨v15, e_v15, hf⟩ := hf
  refine sx_ald hm dX6_writeConstant_12 e_v15 ?_
  clear e_v15
  replace hf := mx_gd_el hf; obtain ⟨c16, hf⟩ := hf
  replace hf := mx_sv_el hf; obtain ⟨u17, e_u17, hf⟩ := hf
  refine sx_cv hm dX6_writeConstant_13 rs_RX6_90 mt_X6_bytesOf [.int v13, .int v15] [] (b := a0) (ci := 6) rfl rfl rfl c16 (Nat.le_of_ble_eq_true rfl) (Nat.le_of_ble_eq_true rfl) (by omega) (by omega) (f_X6_bytesOf_ok X (by omega) (by omega) nn a0 v13 v15 h e_u17) ?_
  clear e_u17
  show mx_S X F L 190 16 [(0, .ref a0), (1, .int a1), (2, .ref a2), (3, .int a3)] [.int u17.1] u17.2 0 0 (none, r, 0, 0)
  refine mx_S.pu (pc2 := 18) (lv2 := [(4, .int u17.1), (0, .ref a0), (1, .int a1), (2, .ref a2), (3, .int a3)]) (st2 := []) hm dX6_writeConstant_16 rfl ?_
  refine mx_S.pu (pc2 := 19) (lv2 := [(4, .int u17.1), (0, .ref a0), (1, .int a1), (2, .ref a2), (3, .int a3)]) (st2 := [.int a3]) hm dX6_writeConstant_18 rfl ?_
  rcases mx_if_el hf with ⟨c38, hf⟩ | ⟨c38, hf⟩
  · refine sb_if_lt hm dX6_writeConstant_19 (tgt := 31) rfl (fun _ => ?_) (fun z => absurd c38 z)
    cases hf
    exact sx_ret hm dX6_writeConstant_31 rfl
  · refine sb_if_lt hm dX6_writeConstant_19 (tgt := 31) rfl (fun z => absurd z c38) (fun _ => ?_)
    refine mx_S.pu (pc2 := 23) (lv2 := [(4, .int u17.1), (0, .ref a0), (1, .int a1), (2, .ref a2), (3, .int a3)]) (st2 := [.int a3]) hm dX6_writeConstant_22 rfl ?_
    refine mx_S.pu (pc2 := 25) (lv2 := [(4, .int u17.1), (0, .ref a0), (1, .int a1), (2, .ref a2), (3, .int a3)]) (st2 := [.int u17.1, .int a3]) hm dX6_writeConstant_23 rfl ?_
    replace hf := xl_el hf; obtain ⟨v18, e_v18, hf⟩ := hf
    refine mx_S.pu (pc2 := 26) (lv2 := [(4, .int u17.1), (0, .ref a0), (1, .int a1), (2, .ref a2), (3, .int a3)]) (st2 := [.int v18]) hm dX6_writeConstant_25 (by rw [← e_v18]; rfl) ?_
    clear e_v18
    refine mx_S.pu (pc2 := 27) (lv2 := [(4, .int u17.1), (0, .ref a0), (1, .int a1), (2, .ref a2), (3, .int a3)]) (st2 := [.ref a2, .int v18]) hm dX6_writeConstant_26 rfl ?_
    replace hf := mx_sv_el hf; obtain ⟨v19, e_v19, hf⟩ := hf
    refine sx_len hm dX6_writeConstant_27 e_v19 ?_
    clear e_v19
    rcases mx_if_el hf with ⟨c37, hf⟩ | ⟨c37, hf⟩
    · refine sb_ic_le hm dX6_writeConstant_28 (tgt := 32) rfl (fun _ => ?_) (fun z => absurd c37 z)
      refine mx_S.pu (pc2 := 33) (lv2 := [(4, .int u17.1), (0, .ref a0), (1, .int a1), (2, .ref a2), (3, .int a3)]) (st2 := [.ref a2]) hm dX6_writeConstant_32 rfl ?_
      refine mx_S.pu (pc2 := 34) (lv2 := [(4, .int u17.1), (0, .ref a0), (1, .int a1), (2, .ref a2), (3, .int a3)]) (st2 := [.int a3, .ref a2]) hm dX6_writeConstant_33 rfl ?_
      refine mx_S.pu (pc2 := 35) (lv2 := [(4, .int u17.1), (0, .ref a0), (1, .int a1), (2, .ref a2), (3, .int a3)]) (st2 := [.ref a0, .int a3, .ref a2]) hm dX6_writeConstant_34 rfl ?_
      replace hf := mx_sv_el hf; obtain ⟨v20, e_v20, hf⟩ := hf
      refine sx_get hm dX6_writeConstant_35 rs_RX6_9 (xgr_el e_v20) ?_
      clear e_v20
      refine mx_S.pu (pc2 := 39) (lv2 := [(4, .int u17.1), (0, .ref a0), (1, .int a1), (2, .ref a2), (3, .int a3)]) (st2 := [.int a1, .ref v20, .int a3, .ref a2]) hm dX6_writeConstant_38 rfl ?_
      replace hf := mx_sv_el hf; obtain ⟨v21, e_v21, hf⟩ := hf
      refine sx_ald hm dX6_writeConstant_39 e_v21 ?_
      clear e_v21
      replace hf := xl_el hf; obtain ⟨v22, e_v22, hf⟩ := hf
      refine mx_S.pu (pc2 := 41) (lv2 := [(4, .int u17.1), (0, .ref a0), (1, .int a1), (2, .ref a2), (3, .int a3)]) (st2 := [.int v22, .int a3, .ref a2]) hm dX6_writeConstant_40 (by rw [← e_v22]; rfl) ?_
      clear e_v22
      replace hf := mx_sv_el hf; obtain ⟨h23, e_h23, hf⟩ := hf
      refine sx_bst hm dX6_writeConstant_41 e_h23 ?_
      clear e_h23
      refine mx_S.pu (pc2 := 43) (lv2 := [(4, .int u17.1), (0, .ref a0), (1, .int a1), (2, .ref a2), (3, .int a3)]) (st2 := [.ref a0]) hm dX6_writeConstant_42 rfl ?_
      replace hf := mx_sv_el hf; obtain ⟨v24, e_v24, hf⟩ := hf
      refine sx_get hm dX6_writeConstant_43 rs_RX6_9 (xgr_el e_v24) ?_
      clear e_v24
      refine mx_S.pu (pc2 := 47) (lv2 := [(4, .int u17.1), (0, .ref a0), (1, .int a1), (2, .ref a2), (3, .int a3)]) (st2 := [.int a1, .ref v24]) hm dX6_writeConstant_46 rfl ?_
      replace hf := mx_sv_el hf; obtain ⟨v25, e_v25, hf⟩ := hf
      refine sx_ald hm dX6_writeConstant_47 e_v25 ?_
      clear e_v25
      refine sx_ic (v := 1) hm dX6_writeConstant_48 (by decide) ?_
      rcases mx_if_el hf with ⟨c36, hf⟩ | ⟨c36, hf⟩
      · refine sb_ic_ne hm dX6_writeConstant_49 (tgt := 80) rfl (fun _ => ?_) (fun z => absurd c36 z)
        refine sx_ic (v := 1) hm dX6_writeConstant_80 (by decide) ?_
        refine mx_S.pu (pc2 := 83) (lv2 := [(5, .int 1), (4, .int u17.1), (0, .ref a0), (1, .int a1), (2, .ref a2), (3, .int a3)]) (st2 := []) hm dX6_writeConstant_81 rfl ?_
        refine mx_S.ext [(0, .ref a0), (1, .int a1), (2, .ref a2), (3, .int a3), (4, .int u17.1), (5, .int 1)] (mx_sub_pos [2, 3, 4, 5, 1, 0] rfl (show ([5, 4, 0, 1, 2, 3] : List Nat).Nodup by decide)) ?_
        exact w_X6_writeConstant_83_ok X hF hL nn nn a0 a1 a2 a3 u17.1 1 h23 _ hf
      · refine sb_ic_ne hm dX6_writeConstant_49 (tgt := 80) rfl (fun z => absurd z c36) (fun _ => ?_)
        refine mx_S.pu (pc2 := 53) (lv2 := [(4, .int u17.1), (0, .ref a0), (1, .int a1), (2, .ref a2), (3, .int a3)]) (st2 := [.ref a2]) hm dX6_writeConstant_52 rfl ?_
        refine mx_S.pu (pc2 := 54) (lv2 := [(4, .int u17.1), (0, .ref a0), (1, .int a1), (2, .ref a2), (3, .int a3)]) (st2 := [.int a3, .ref a2]) hm dX6_writeConstant_53 rfl ?_
        refine sx_ic (v := 1) hm dX6_writeConstant_54 (by decide) ?_
        replace hf := xl_el hf; obtain ⟨v26, e_v26, hf⟩ := hf
        refine mx_S.pu (pc2 := 56) (lv2 := [(4, .int u17.1), (0, .ref a0), (1, .int a1), (2, .ref a2), (3, .int a3)]) (st2 := [.int v26, .ref a2]) hm dX6_writeConstant_55 (by rw [← e_v26]; rfl) ?_
        clear e_v26
        refine mx_S.pu (pc2 := 58) (lv2 := [(4, .int u17.1), (0, .ref a0), (1, .int a1), (2, .ref a2), (3, .int a3)]) (st2 := [.int u17.1, .int v26, .ref a2]) hm dX6_writeConstant_56 rfl ?_
        refine sx_ic (v := 2) hm dX6_writeConstant_58 (by decide) ?_
        replace hf := xl_el hf; obtain ⟨v27, e_v27, hf⟩ := hf
        refine mx_S.pu (pc2 := 60) (lv2 := [(4, .int u17.1), (0, .ref a0), (1, .int a1), (2, .ref a2), (3, .int a3)]) (st2 := [.int v27, .int v26, .ref a2]) hm dX6_writeConstant_59 (by rw [← e_v27]; rfl) ?_
        clear e_v27
        replace hf := xl_el hf; obtain ⟨v28, e_v28, hf⟩ := hf
        refine mx_S.pu (pc2 := 61) (lv2 := [(4, .int u17.1), (0, .ref a0), (1, .int a1), (2, .ref a2), (3, .int a3)]) (st2 := [.int v28, .int v26, .ref a2]) hm dX6_writeConstant_60 (by rw [← e_v28]; rfl) ?_
        clear e_v28
        replace hf := mx_sv_el hf; obtain ⟨h29, e_h29, hf⟩ := hf
        refine sx_bst hm dX6_writeConstant_61 e_h29 ?_
        clear e_h29
        refine mx_S.pu (pc2 := 63) (lv2 := [(4, .int u17.1), (0, .ref a0), (1, .int a1), (2, .ref a2), (3, .int a3)]) (st2 := [.ref a0]) hm dX6_writeConstant_62 rfl ?_
        replace hf := mx_sv_el hf; obtain ⟨v30, e_v30, hf⟩ := hf
        refine sx_get hm dX6_writeConstant_63 rs_RX6_20 (xgr_el e_v30) ?_
        clear e_v30
        refine mx_S.pu (pc2 := 67) (lv2 := [(4, .int u17.1), (0, .ref a0), (1, .int a1), (2, .ref a2), (3, .int a3)]) (st2 := [.ref a0, .ref v30]) hm dX6_writeConstant_66 rfl ?_
        replace hf := mx_sv_el hf; obtain ⟨v31, e_v31, hf⟩ := hf
        refine sx_get hm dX6_writeConstant_67 rs_RX6_13 (xgr_el e_v31) ?_
        clear e_v31
        refine mx_S.pu (pc2 := 71) (lv2 := [(4, .int u17.1), (0, .ref a0), (1, .int a1), (2, .ref a2), (3, .int a3)]) (st2 := [.int a1, .ref v31, .ref v30]) hm dX6_writeConstant_70 rfl ?_
        replace hf := mx_sv_el hf; obtain ⟨v32, e_v32, hf⟩ := hf
        refine sx_ald hm dX6_writeConstant_71 e_v32 ?_
        clear e_v32
        refine mx_S.pu (pc2 := 73) (lv2 := [(4, .int u17.1), (0, .ref a0), (1, .int a1), (2, .ref a2), (3, .int a3)]) (st2 := [.ref a2, .int v32, .ref v30]) hm dX6_writeConstant_72 rfl ?_
        refine mx_S.pu (pc2 := 74) (lv2 := [(4, .int u17.1), (0, .ref a0), (1, .int a1), (2, .ref a2), (3, .int a3)]) (st2 := [.int a3, .ref a2, .int v32, .ref v30]) hm dX6_writeConstant_73 rfl ?_
        refine sx_ic (v := 2) hm dX6_writeConstant_74 (by decide) ?_
        replace hf := xl_el hf; obtain ⟨v33, e_v33, hf⟩ := hf
        refine mx_S.pu (pc2 := 76) (lv2 := [(4, .int u17.1), (0, .ref a0), (1, .int a1), (2, .ref a2), (3, .int a3)]) (st2 := [.int v33, .ref a2, .int v32, .ref v30]) hm dX6_writeConstant_75 (by rw [← e_v33]; rfl) ?_
        clear e_v33
        replace hf := mx_gd_el hf; obtain ⟨c34, hf⟩ := hf
        replace hf := mx_sv_el hf; obtain ⟨u35, e_u35, hf⟩ := hf
        refine sx_cv hm dX6_writeConstant_76 rs_RX6_112 mt_X9_copyName [.int v32, .ref a2, .int v33] [] (b := v30) (ci := 9) rfl rfl rfl c34 (Nat.le_of_ble_eq_true rfl) (Nat.le_of_ble_eq_true rfl) (by omega) (by omega) (f_X9_copyName_ok X (by omega) (by omega) nn v30 v32 a2 v33 h29 e_u35) ?_
        clear e_u35
        show mx_S X F L 190 79 [(4, .int u17.1), (0, .ref a0), (1, .int a1), (2, .ref a2), (3, .int a3)] [] u35 0 0 (none, r, 0, 0)
        cases hf
        exact sx_ret hm dX6_writeConstant_79 rfl
    · refine sb_ic_le hm dX6_writeConstant_28 (tgt := 32) rfl (fun z => absurd z c37) (fun _ => ?_)
      cases hf
      exact sx_ret hm dX6_writeConstant_31 rfl
