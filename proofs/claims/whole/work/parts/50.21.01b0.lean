set_option maxHeartbeats 4000000 in
set_option maxRecDepth 20000 in
theorem w_X6_closeImage_40_ok (X : Nat × (Nat → Int32)) {F L : Nat} (hF : 4 ≤ F) (hL : 109 ≤ L) (nn : Nat) : ∀ (k : Nat) (l0 : Nat) (l1 : Nat) (l2 : Int32) (l3 : Int32) (h : mx_H) (c : Nat) (s : Nat) (r : (Option Nat × mx_H × Nat × Nat)), w_X6_closeImage_40 nn k l0 l1 l2 l3 h c s = some r → mx_S X F L 188 40 [(0, .ref l0), (1, .ref l1), (2, .int l2), (3, .int l3)] [] h c s (some (va_rf r.1), r.2.1, r.2.2.1, r.2.2.2) := by
  have hm : mx_mt 188 = some (yX6_closeImage, cX6_closeImage, 4, (some (.array .byte))) := mt_X6_closeImage
  intro k
  induction k with
  | zero => intro l0 l1 l2 l3 h c s r hf; cases hf
  | succ k ih =>
    intro l0 l1 l2 l3 h c s r hf
    unfold w_X6_closeImage_40 at hf
    refine mx_S.pu (pc2 := 41) (lv2 := [(0, .ref l0), (1, .ref l1), (2, .int l2), (3, .int l3)]) (st2 := [.int l3]) hm dX6_closeImage_40 rfl ?_
    refine mx_S.pu (pc2 := 42) (lv2 := [(0, .ref l0), (1, .ref l1), (2, .int l2), (3, .int l3)]) (st2 := [.ref l0, .int l3]) hm dX6_closeImage_41 rfl ?_
    replace hf := mx_sv_el hf; obtain ⟨v1, e_v1, hf⟩ := hf
    refine sx_get hm dX6_closeImage_42 rs_RX6_28 (xgi_el e_v1) ?_
    clear e_v1
    rcases mx_if_el hf with ⟨c15, hf⟩ | ⟨c15, hf⟩
    · refine sb_ic_gt hm dX6_closeImage_45 (tgt := 80) rfl (fun _ => ?_) (fun z => absurd c15 z)
      refine mx_S.pu (pc2 := 81) (lv2 := [(0, .ref l0), (1, .ref l1), (2, .int l2), (3, .int l3)]) (st2 := [.ref l0]) hm dX6_closeImage_80 rfl ?_
      replace hf := mx_sv_el hf; obtain ⟨v2, e_v2, hf⟩ := hf
      refine sx_get hm dX6_closeImage_81 rs_RX6_16 (xgr_el e_v2) ?_
      clear e_v2
      refine sx_ic (v := 0) hm dX6_closeImage_84 (by decide) ?_
      refine mx_S.pu (pc2 := 86) (lv2 := [(0, .ref l0), (1, .ref l1), (2, .int l2), (3, .int l3)]) (st2 := [.ref l1, .int 0, .ref v2]) hm dX6_closeImage_85 rfl ?_
      refine mx_S.pu (pc2 := 87) (lv2 := [(0, .ref l0), (1, .ref l1), (2, .int l2), (3, .int l3)]) (st2 := [.int l2, .ref l1, .int 0, .ref v2]) hm dX6_closeImage_86 rfl ?_
      refine mx_S.pu (pc2 := 88) (lv2 := [(0, .ref l0), (1, .ref l1), (2, .int l2), (3, .int l3)]) (st2 := [.ref l0, .int l2, .ref l1, .int 0, .ref v2]) hm dX6_closeImage_87 rfl ?_
      replace hf := mx_sv_el hf; obtain ⟨v3, e_v3, hf⟩ := hf
      refine sx_get hm dX6_closeImage_88 rs_RX6_36 (xgi_el e_v3) ?_
      clear e_v3
      replace hf := mx_sv_el hf; obtain ⟨h4, e_h4, hf⟩ := hf
      refine sx_copy hm dX6_closeImage_91 rs_RX6_101 e_h4 (by omega) (Nat.le_trans (Nat.le_of_ble_eq_true rfl : _ ≤ 60) (by omega)) ?_
      clear e_h4
      refine mx_S.pu (pc2 := 95) (lv2 := [(0, .ref l0), (1, .ref l1), (2, .int l2), (3, .int l3)]) (st2 := [.ref l1]) hm dX6_closeImage_94 rfl ?_
      cases hf
      exact sx_are hm dX6_closeImage_95 rfl rfl (v := (some l1))
    · refine sb_ic_gt hm dX6_closeImage_45 (tgt := 80) rfl (fun z => absurd z c15) (fun _ => ?_)
      refine mx_S.pu (pc2 := 49) (lv2 := [(0, .ref l0), (1, .ref l1), (2, .int l2), (3, .int l3)]) (st2 := [.ref l0]) hm dX6_closeImage_48 rfl ?_
      refine mx_S.pu (pc2 := 50) (lv2 := [(0, .ref l0), (1, .ref l1), (2, .int l2), (3, .int l3)]) (st2 := [.int l3, .ref l0]) hm dX6_closeImage_49 rfl ?_
      refine mx_S.pu (pc2 := 51) (lv2 := [(0, .ref l0), (1, .ref l1), (2, .int l2), (3, .int l3)]) (st2 := [.ref l1, .int l3, .ref l0]) hm dX6_closeImage_50 rfl ?_
      refine mx_S.pu (pc2 := 52) (lv2 := [(0, .ref l0), (1, .ref l1), (2, .int l2), (3, .int l3)]) (st2 := [.int l2, .ref l1, .int l3, .ref l0]) hm dX6_closeImage_51 rfl ?_
      replace hf := mx_gd_el hf; obtain ⟨c5, hf⟩ := hf
      replace hf := mx_sv_el hf; obtain ⟨u6, e_u6, hf⟩ := hf
      refine sx_cv hm dX6_closeImage_52 rs_RX6_97 mt_X6_writeConstant [.int l3, .ref l1, .int l2] [] (b := l0) (ci := 6) rfl rfl rfl c5 (Nat.le_of_ble_eq_true rfl) (Nat.le_of_ble_eq_true rfl) (by omega) (by omega) (f_X6_writeConstant_ok X (by omega) (by omega) nn l0 l3 l1 l2 h e_u6) ?_
      clear e_u6
      show mx_S X F L 188 55 [(0, .ref l0), (1, .ref l1), (2, .int l2), (3, .int l3)] [] u6 c s (some (va_rf r.1), r.2.1, r.2.2.1, r.2.2.2)
      refine mx_S.pu (pc2 := 56) (lv2 := [(0, .ref l0), (1, .ref l1), (2, .int l2), (3, .int l3)]) (st2 := [.int l2]) hm dX6_closeImage_55 rfl ?_
      refine mx_S.pu (pc2 := 57) (lv2 := [(0, .ref l0), (1, .ref l1), (2, .int l2), (3, .int l3)]) (st2 := [.ref l0, .int l2]) hm dX6_closeImage_56 rfl ?_
      refine mx_S.pu (pc2 := 58) (lv2 := [(0, .ref l0), (1, .ref l1), (2, .int l2), (3, .int l3)]) (st2 := [.ref l0, .ref l0, .int l2]) hm dX6_closeImage_57 rfl ?_
      replace hf := mx_sv_el hf; obtain ⟨v7, e_v7, hf⟩ := hf
      refine sx_get hm dX6_closeImage_58 rs_RX6_9 (xgr_el e_v7) ?_
      clear e_v7
      refine mx_S.pu (pc2 := 62) (lv2 := [(0, .ref l0), (1, .ref l1), (2, .int l2), (3, .int l3)]) (st2 := [.int l3, .ref v7, .ref l0, .int l2]) hm dX6_closeImage_61 rfl ?_
      replace hf := mx_sv_el hf; obtain ⟨v8, e_v8, hf⟩ := hf
      refine sx_ald hm dX6_closeImage_62 e_v8 ?_
      clear e_v8
      refine mx_S.pu (pc2 := 64) (lv2 := [(0, .ref l0), (1, .ref l1), (2, .int l2), (3, .int l3)]) (st2 := [.ref l0, .int v8, .ref l0, .int l2]) hm dX6_closeImage_63 rfl ?_
      replace hf := mx_sv_el hf; obtain ⟨v9, e_v9, hf⟩ := hf
      refine sx_get hm dX6_closeImage_64 rs_RX6_13 (xgr_el e_v9) ?_
      clear e_v9
      refine mx_S.pu (pc2 := 68) (lv2 := [(0, .ref l0), (1, .ref l1), (2, .int l2), (3, .int l3)]) (st2 := [.int l3, .ref v9, .int v8, .ref l0, .int l2]) hm dX6_closeImage_67 rfl ?_
      replace hf := mx_sv_el hf; obtain ⟨v10, e_v10, hf⟩ := hf
      refine sx_ald hm dX6_closeImage_68 e_v10 ?_
      clear e_v10
      replace hf := mx_gd_el hf; obtain ⟨c11, hf⟩ := hf
      replace hf := mx_sv_el hf; obtain ⟨u12, e_u12, hf⟩ := hf
      refine sx_cv hm dX6_closeImage_69 rs_RX6_90 mt_X6_bytesOf [.int v8, .int v10] [.int l2] (b := l0) (ci := 6) rfl rfl rfl c11 (Nat.le_of_ble_eq_true rfl) (Nat.le_of_ble_eq_true rfl) (by omega) (by omega) (f_X6_bytesOf_ok X (by omega) (by omega) nn l0 v8 v10 u6 e_u12) ?_
      clear e_u12
      show mx_S X F L 188 72 [(0, .ref l0), (1, .ref l1), (2, .int l2), (3, .int l3)] [.int u12.1, .int l2] u12.2 c s (some (va_rf r.1), r.2.1, r.2.2.1, r.2.2.2)
      replace hf := xl_el hf; obtain ⟨v13, e_v13, hf⟩ := hf
      refine mx_S.pu (pc2 := 73) (lv2 := [(0, .ref l0), (1, .ref l1), (2, .int l2), (3, .int l3)]) (st2 := [.int v13]) hm dX6_closeImage_72 (by rw [← e_v13]; rfl) ?_
      clear e_v13
      refine mx_S.pu (pc2 := 74) (lv2 := [(2, .int v13), (0, .ref l0), (1, .ref l1), (3, .int l3)]) (st2 := []) hm dX6_closeImage_73 rfl ?_
      replace hf := xl_el hf; obtain ⟨v14, e_v14, hf⟩ := hf
      refine mx_S.pu (pc2 := 77) (lv2 := [(3, .int v14), (2, .int v13), (0, .ref l0), (1, .ref l1)]) (st2 := []) hm dX6_closeImage_74 (by rw [← e_v14]; rfl) ?_
      clear e_v14
      refine mx_S.pu (pc2 := 40) (lv2 := [(3, .int v14), (2, .int v13), (0, .ref l0), (1, .ref l1)]) (st2 := []) hm dX6_closeImage_77 rfl ?_
      refine mx_S.ext [(0, .ref l0), (1, .ref l1), (2, .int v13), (3, .int v14)] (mx_sub_pos [2, 3, 1, 0] rfl (show ([3, 2, 0, 1] : List Nat).Nodup by decide)) ?_
      exact ih l0 l1 v13 v14 u12.2 c s _ hf
set_option maxHeartbeats 4000000 in
set_option maxRecDepth 20000 in
theorem f_X6_closeImage_ok (X : Nat × (Nat → Int32)) {F L : Nat} (hF : 4 ≤ F) (hL : 109 ≤ L) (nn : Nat) (a0 : Nat) (h : mx_H) {r : (Option Nat × mx_H × Nat × Nat)} (hf : f_X6_closeImage nn a0 h = some r) : mx_R X F L 188 [.ref a0] h (some (va_rf r.1), r.2.1, r.2.2.1, r.2.2.2) := by
  have hm : mx_mt 188 = some (yX6_closeImage, cX6_closeImage, 4, (some (.array .byte))) := mt_X6_closeImage
  show mx_S X F L 188 0 [(0, .ref a0)] [] h 0 0 (some (va_rf r.1), r.2.1, r.2.2.1, r.2.2.2)
  unfold f_X6_closeImage at hf
  refine mx_S.pu (pc2 := 1) (lv2 := [(0, .ref a0)]) (st2 := [.ref a0]) hm dX6_closeImage_0 rfl ?_
  replace hf := mx_gd_el hf; obtain ⟨c16, hf⟩ := hf
  replace hf := mx_sv_el hf; obtain ⟨u17, e_u17, hf⟩ := hf
  refine sx_cv hm dX6_closeImage_1 rs_RX6_93 mt_X6_isTooMuch [] [] (b := a0) (ci := 6) rfl rfl rfl c16 (Nat.le_of_ble_eq_true rfl) (Nat.le_of_ble_eq_true rfl) (by omega) (by omega) (f_X6_isTooMuch_ok X (by omega) (by omega) nn a0 h e_u17) ?_
  clear e_u17
  show mx_S X F L 188 4 [(0, .ref a0)] [.int u17.1] u17.2 0 0 (some (va_rf r.1), r.2.1, r.2.2.1, r.2.2.2)
  rcases mx_if_el hf with ⟨c29, hf⟩ | ⟨c29, hf⟩
  · refine sb_if_eq hm dX6_closeImage_4 (tgt := 11) rfl (fun _ => ?_) (fun z => absurd c29 z)
    refine mx_S.pu (pc2 := 12) (lv2 := [(0, .ref a0)]) (st2 := [.ref a0]) hm dX6_closeImage_11 rfl ?_
    replace hf := mx_gd_el hf; obtain ⟨c18, hf⟩ := hf
    replace hf := mx_sv_el hf; obtain ⟨u19, e_u19, hf⟩ := hf
    refine sx_cv hm dX6_closeImage_12 rs_RX6_86 mt_X6_imageSize [] [] (b := a0) (ci := 6) rfl rfl rfl c18 (Nat.le_of_ble_eq_true rfl) (Nat.le_of_ble_eq_true rfl) (by omega) (by omega) (f_X6_imageSize_ok X (by omega) (by omega) nn a0 u17.2 e_u19) ?_
    clear e_u19
    show mx_S X F L 188 15 [(0, .ref a0)] [.int u19.1] u19.2 0 0 (some (va_rf r.1), r.2.1, r.2.2.1, r.2.2.2)
    replace hf := mx_gd_el hf; obtain ⟨c20, hf⟩ := hf
    replace hf := mx_sv_el hf; obtain ⟨u21, e_u21, hf⟩ := hf
    refine sx_na hm dX6_closeImage_15 rfl (Or.inr (Or.inl rfl)) c20 e_u21 ?_
    clear e_u21
    refine mx_S.pu (pc2 := 18) (lv2 := [(1, .ref u21.1), (0, .ref a0)]) (st2 := []) hm dX6_closeImage_17 rfl ?_
    refine mx_S.pu (pc2 := 19) (lv2 := [(1, .ref u21.1), (0, .ref a0)]) (st2 := [.ref u21.1]) hm dX6_closeImage_18 rfl ?_
    refine sx_ic (v := 0) hm dX6_closeImage_19 (by decide) ?_
    refine sx_bi (v := 74) hm dX6_closeImage_20 (by decide) ?_
    replace hf := mx_sv_el hf; obtain ⟨h22, e_h22, hf⟩ := hf
    refine sx_bst hm dX6_closeImage_22 e_h22 ?_
    clear e_h22
    refine mx_S.pu (pc2 := 24) (lv2 := [(1, .ref u21.1), (0, .ref a0)]) (st2 := [.ref u21.1]) hm dX6_closeImage_23 rfl ?_
    refine sx_ic (v := 1) hm dX6_closeImage_24 (by decide) ?_
    refine sx_bi (v := 77) hm dX6_closeImage_25 (by decide) ?_
    replace hf := mx_sv_el hf; obtain ⟨h23, e_h23, hf⟩ := hf
    refine sx_bst hm dX6_closeImage_27 e_h23 ?_
    clear e_h23
    refine mx_S.pu (pc2 := 29) (lv2 := [(1, .ref u21.1), (0, .ref a0)]) (st2 := [.ref u21.1]) hm dX6_closeImage_28 rfl ?_
    refine sx_ic (v := 2) hm dX6_closeImage_29 (by decide) ?_
    refine mx_S.pu (pc2 := 31) (lv2 := [(1, .ref u21.1), (0, .ref a0)]) (st2 := [.ref a0, .int 2, .ref u21.1]) hm dX6_closeImage_30 rfl ?_
    replace hf := mx_sv_el hf; obtain ⟨v24, e_v24, hf⟩ := hf
    refine sx_get hm dX6_closeImage_31 rs_RX6_28 (xgi_el e_v24) ?_
    clear e_v24
    replace hf := xl_el hf; obtain ⟨v25, e_v25, hf⟩ := hf
    refine mx_S.pu (pc2 := 35) (lv2 := [(1, .ref u21.1), (0, .ref a0)]) (st2 := [.int v25, .int 2, .ref u21.1]) hm dX6_closeImage_34 (by rw [← e_v25]; rfl) ?_
    clear e_v25
    replace hf := mx_sv_el hf; obtain ⟨h26, e_h26, hf⟩ := hf
    refine sx_bst hm dX6_closeImage_35 e_h26 ?_
    clear e_h26
    refine sx_ic (v := 3) hm dX6_closeImage_36 (by decide) ?_
    refine mx_S.pu (pc2 := 38) (lv2 := [(2, .int 3), (1, .ref u21.1), (0, .ref a0)]) (st2 := []) hm dX6_closeImage_37 rfl ?_
    refine sx_ic (v := 1) hm dX6_closeImage_38 (by decide) ?_
    refine mx_S.pu (pc2 := 40) (lv2 := [(3, .int 1), (2, .int 3), (1, .ref u21.1), (0, .ref a0)]) (st2 := []) hm dX6_closeImage_39 rfl ?_
    refine mx_S.ext [(0, .ref a0), (1, .ref u21.1), (2, .int 3), (3, .int 1)] (mx_sub_pos [3, 2, 1, 0] rfl (show ([3, 2, 1, 0] : List Nat).Nodup by decide)) ?_
    exact w_X6_closeImage_40_ok X hF hL nn nn a0 u21.1 3 1 h26 (0 + 1) (0 + u19.1.toNatClampNeg) _ hf
  · refine sb_if_eq hm dX6_closeImage_4 (tgt := 11) rfl (fun z => absurd z c29) (fun _ => ?_)
    refine sx_ic (v := 0) hm dX6_closeImage_7 (by decide) ?_
    replace hf := mx_gd_el hf; obtain ⟨c27, hf⟩ := hf
    replace hf := mx_sv_el hf; obtain ⟨u28, e_u28, hf⟩ := hf
    refine sx_na hm dX6_closeImage_8 rfl (Or.inr (Or.inl rfl)) c27 e_u28 ?_
    clear e_u28
    cases hf
    exact sx_are hm dX6_closeImage_10 rfl rfl (v := (some u28.1))
set_option maxHeartbeats 4000000 in
set_option maxRecDepth 20000 in
theorem f_X0_closeClass_ok (X : Nat × (Nat → Int32)) {F L : Nat} (hF : 5 ≤ F) (hL : 132 ≤ L) (nn : Nat) (a0 : Nat) (a1 : Int32) (h : mx_H) {r : (mx_H × Nat × Nat)} (hf : f_X0_closeClass nn a0 a1 h = some r) : mx_R X F L 7 [.ref a0, .int a1] h (none, r.1, r.2.1, r.2.2) := by
  have hm : mx_mt 7 = some (yX0_closeClass, cX0_closeClass, 2, none) := mt_X0_closeClass
  show mx_S X F L 7 0 [(0, .ref a0), (1, .int a1)] [] h 0 0 (none, r.1, r.2.1, r.2.2)
  unfold f_X0_closeClass at hf
  refine mx_S.pu (pc2 := 1) (lv2 := [(0, .ref a0), (1, .int a1)]) (st2 := [.ref a0]) hm dX0_closeClass_0 rfl ?_
  refine mx_S.pu (pc2 := 2) (lv2 := [(0, .ref a0), (1, .int a1)]) (st2 := [.ref a0, .ref a0]) hm dX0_closeClass_1 rfl ?_
  replace hf := mx_sv_el hf; obtain ⟨v1, e_v1, hf⟩ := hf
  refine sx_get hm dX0_closeClass_2 rs_RX0_52 (xgr_el e_v1) ?_
  clear e_v1
  replace hf := mx_gd_el hf; obtain ⟨c2, hf⟩ := hf
  replace hf := mx_sv_el hf; obtain ⟨u3, e_u3, hf⟩ := hf
  refine sx_cv hm dX0_closeClass_5 rs_RX0_77 mt_X6_isTooMuch [] [.ref a0] (b := v1) (ci := 6) rfl rfl rfl c2 (Nat.le_of_ble_eq_true rfl) (Nat.le_of_ble_eq_true rfl) (by omega) (by omega) (f_X6_isTooMuch_ok X (by omega) (by omega) nn v1 h e_u3) ?_
  clear e_u3
  show mx_S X F L 7 8 [(0, .ref a0), (1, .int a1)] [.int u3.1, .ref a0] u3.2 0 0 (none, r.1, r.2.1, r.2.2)
  refine mx_S.pu (pc2 := 9) (lv2 := [(0, .ref a0), (1, .int a1)]) (st2 := [.ref a0, .int u3.1, .ref a0]) hm dX0_closeClass_8 rfl ?_
  replace hf := mx_sv_el hf; obtain ⟨v4, e_v4, hf⟩ := hf
  refine sx_get hm dX0_closeClass_9 rs_RX0_38 (xgr_el e_v4) ?_
  clear e_v4
  refine mx_S.pu (pc2 := 13) (lv2 := [(0, .ref a0), (1, .int a1)]) (st2 := [.int a1, .ref v4, .int u3.1, .ref a0]) hm dX0_closeClass_12 rfl ?_
  replace hf := mx_gd_el hf; obtain ⟨c5, hf⟩ := hf
  replace hf := mx_sv_el hf; obtain ⟨u6, e_u6, hf⟩ := hf
  refine sx_cv hm dX0_closeClass_13 rs_RX0_81 mt_X2_tokenOfClass [.int a1] [.int u3.1, .ref a0] (b := v4) (ci := 2) rfl rfl rfl c5 (Nat.le_of_ble_eq_true rfl) (Nat.le_of_ble_eq_true rfl) (by omega) (by omega) (f_X2_tokenOfClass_ok X (by omega) (by omega) nn v4 a1 u3.2 e_u6) ?_
  clear e_u6
  show mx_S X F L 7 16 [(0, .ref a0), (1, .int a1)] [.int u6.1, .int u3.1, .ref a0] u6.2 0 0 (none, r.1, r.2.1, r.2.2)
  replace hf := mx_gd_el hf; obtain ⟨c7, hf⟩ := hf
  replace hf := mx_sv_el hf; obtain ⟨u8, e_u8, hf⟩ := hf
  refine sx_cv hm dX0_closeClass_16 rs_RX0_85 mt_X0_noteMuch [.int u3.1, .int u6.1] [] (b := a0) (ci := 0) rfl rfl rfl c7 (Nat.le_of_ble_eq_true rfl) (Nat.le_of_ble_eq_true rfl) (by omega) (by omega) (f_X0_noteMuch_ok X (by omega) (by omega) nn a0 u3.1 u6.1 u6.2 e_u8) ?_
  clear e_u8
  show mx_S X F L 7 19 [(0, .ref a0), (1, .int a1)] [] u8 0 0 (none, r.1, r.2.1, r.2.2)
  refine mx_S.pu (pc2 := 20) (lv2 := [(0, .ref a0), (1, .int a1)]) (st2 := [.ref a0]) hm dX0_closeClass_19 rfl ?_
  replace hf := mx_sv_el hf; obtain ⟨v9, e_v9, hf⟩ := hf
  refine sx_get hm dX0_closeClass_20 rs_RX0_34 (xgr_el e_v9) ?_
  clear e_v9
  replace hf := mx_sv_el hf; obtain ⟨v10, e_v10, hf⟩ := hf
  refine sx_get hm dX0_closeClass_23 rs_RX0_89 (xgi_el e_v10) ?_
  clear e_v10
  rcases mx_if_el hf with ⟨c22, hf⟩ | ⟨c22, hf⟩
  · refine sb_if_ne hm dX0_closeClass_26 (tgt := 63) rfl (fun _ => ?_) (fun z => absurd c22 z)
    cases hf
    exact sx_ret hm dX0_closeClass_63 rfl
  · refine sb_if_ne hm dX0_closeClass_26 (tgt := 63) rfl (fun z => absurd z c22) (fun _ => ?_)
    refine mx_S.pu (pc2 := 30) (lv2 := [(0, .ref a0), (1, .int a1)]) (st2 := [.ref a0]) hm dX0_closeClass_29 rfl ?_
    replace hf := mx_sv_el hf; obtain ⟨v11, e_v11, hf⟩ := hf
    refine sx_get hm dX0_closeClass_30 rs_RX0_65 (xgi_el e_v11) ?_
    clear e_v11
    refine sx_ic (v := (-1)) hm dX0_closeClass_33 (by decide) ?_
    rcases mx_if_el hf with ⟨c21, hf⟩ | ⟨c21, hf⟩
    · refine sb_ic_ne hm dX0_closeClass_34 (tgt := 63) rfl (fun _ => ?_) (fun z => absurd c21 z)
      cases hf
      exact sx_ret hm dX0_closeClass_63 rfl
    · refine sb_ic_ne hm dX0_closeClass_34 (tgt := 63) rfl (fun z => absurd z c21) (fun _ => ?_)
      refine mx_S.pu (pc2 := 38) (lv2 := [(0, .ref a0), (1, .int a1)]) (st2 := [.int a1]) hm dX0_closeClass_37 rfl ?_
      rcases mx_if_el hf with ⟨c20, hf⟩ | ⟨c20, hf⟩
      · refine sb_if_lt hm dX0_closeClass_38 (tgt := 63) rfl (fun _ => ?_) (fun z => absurd c20 z)
        cases hf
        exact sx_ret hm dX0_closeClass_63 rfl
      · refine sb_if_lt hm dX0_closeClass_38 (tgt := 63) rfl (fun z => absurd z c20) (fun _ => ?_)
        refine mx_S.pu (pc2 := 42) (lv2 := [(0, .ref a0), (1, .int a1)]) (st2 := [.int a1]) hm dX0_closeClass_41 rfl ?_
        refine mx_S.pu (pc2 := 43) (lv2 := [(0, .ref a0), (1, .int a1)]) (st2 := [.ref a0, .int a1]) hm dX0_closeClass_42 rfl ?_
        replace hf := mx_sv_el hf; obtain ⟨v12, e_v12, hf⟩ := hf
        refine sx_get hm dX0_closeClass_43 rs_RX0_26 (xgr_el e_v12) ?_
        clear e_v12
        replace hf := mx_sv_el hf; obtain ⟨v13, e_v13, hf⟩ := hf
        refine sx_len hm dX0_closeClass_46 e_v13 ?_
        clear e_v13
        rcases mx_if_el hf with ⟨c19, hf⟩ | ⟨c19, hf⟩
        · refine sb_ic_ge hm dX0_closeClass_47 (tgt := 63) rfl (fun _ => ?_) (fun z => absurd c19 z)
          cases hf
          exact sx_ret hm dX0_closeClass_63 rfl
        · refine sb_ic_ge hm dX0_closeClass_47 (tgt := 63) rfl (fun z => absurd z c19) (fun _ => ?_)
          refine mx_S.pu (pc2 := 51) (lv2 := [(0, .ref a0), (1, .int a1)]) (st2 := [.ref a0]) hm dX0_closeClass_50 rfl ?_
          replace hf := mx_sv_el hf; obtain ⟨v14, e_v14, hf⟩ := hf
          refine sx_get hm dX0_closeClass_51 rs_RX0_26 (xgr_el e_v14) ?_
          clear e_v14
          refine mx_S.pu (pc2 := 55) (lv2 := [(0, .ref a0), (1, .int a1)]) (st2 := [.int a1, .ref v14]) hm dX0_closeClass_54 rfl ?_
          refine mx_S.pu (pc2 := 56) (lv2 := [(0, .ref a0), (1, .int a1)]) (st2 := [.ref a0, .int a1, .ref v14]) hm dX0_closeClass_55 rfl ?_
          replace hf := mx_sv_el hf; obtain ⟨v15, e_v15, hf⟩ := hf
          refine sx_get hm dX0_closeClass_56 rs_RX0_52 (xgr_el e_v15) ?_
          clear e_v15
          replace hf := mx_gd_el hf; obtain ⟨c16, hf⟩ := hf
          replace hf := mx_sv_el hf; obtain ⟨u17, e_u17, hf⟩ := hf
          refine sx_cvA hm dX0_closeClass_59 rs_RX0_92 mt_X6_closeImage [] [.int a1, .ref v14] (b := v15) (ci := 6) rfl rfl rfl c16 (Nat.le_of_ble_eq_true rfl) (Nat.le_of_ble_eq_true rfl) (by omega) (by omega) (f_X6_closeImage_ok X (by omega) (by omega) nn v15 u8 e_u17) ?_
          clear e_u17
          show mx_S X F L 7 62 [(0, .ref a0), (1, .int a1)] [va_rf u17.1, .int a1, .ref v14] u17.2.1 (0 + u17.2.2.1) (0 + u17.2.2.2) (none, r.1, r.2.1, r.2.2)
          replace hf := mx_sv_el hf; obtain ⟨h18, e_h18, hf⟩ := hf
          refine sx_qst (x := u17.1) hm dX0_closeClass_62 e_h18 ?_
          clear e_h18
          cases hf
          exact sx_ret hm dX0_closeClass_63 rfl
set_option maxHeartbeats 4000000 in
set_option maxRecDepth 20000 in
theorem f_X9_tell_ok (X : Nat × (Nat → Int32)) {F L : Nat} (hF : 0 ≤ F) (hL : 0 ≤ L) (nn : Nat) (a0 : Nat) (a1 : Int32) (a2 : Int32) (h : mx_H) {r : mx_H} (hf : f_X9_tell nn a0 a1 a2 h = some r) : mx_R X F L 245 [.ref a0, .int a1, .int a2] h (none, r, 0, 0) := by
  have hm : mx_mt 245 = some (yX9_tell, cX9_tell, 3, none) := mt_X9_tell
  show mx_S X F L 245 0 [(0, .ref a0), (1, .int a1), (2, .int a2)] [] h 0 0 (none, r, 0, 0)
  unfold f_X9_tell at hf
  refine mx_S.pu (pc2 := 1) (lv2 := [(0, .ref a0), (1, .int a1), (2, .int a2)]) (st2 := [.ref a0]) hm dX9_tell_0 rfl ?_
  replace hf := mx_sv_el hf; obtain ⟨v1, e_v1, hf⟩ := hf
  refine sx_get hm dX9_tell_1 rs_RX9_80 (xgi_el e_v1) ?_
  clear e_v1
  rcases mx_if_el hf with ⟨c9, hf⟩ | ⟨c9, hf⟩
  · refine sb_if_ne hm dX9_tell_4 (tgt := 34) rfl (fun _ => ?_) (fun z => absurd c9 z)
    cases hf
    exact sx_ret hm dX9_tell_34 rfl
  · refine sb_if_ne hm dX9_tell_4 (tgt := 34) rfl (fun z => absurd z c9) (fun _ => ?_)
    refine mx_S.pu (pc2 := 8) (lv2 := [(0, .ref a0), (1, .int a1), (2, .int a2)]) (st2 := [.int a2]) hm dX9_tell_7 rfl ?_
    rcases mx_if_el hf with ⟨c8, hf⟩ | ⟨c8, hf⟩
    · refine sb_if_lt hm dX9_tell_8 (tgt := 34) rfl (fun _ => ?_) (fun z => absurd c8 z)
      cases hf
      exact sx_ret hm dX9_tell_34 rfl
    · refine sb_if_lt hm dX9_tell_8 (tgt := 34) rfl (fun z => absurd z c8) (fun _ => ?_)
      refine mx_S.pu (pc2 := 12) (lv2 := [(0, .ref a0), (1, .int a1), (2, .int a2)]) (st2 := [.int a2]) hm dX9_tell_11 rfl ?_
      refine mx_S.pu (pc2 := 13) (lv2 := [(0, .ref a0), (1, .int a1), (2, .int a2)]) (st2 := [.ref a0, .int a2]) hm dX9_tell_12 rfl ?_
      replace hf := mx_sv_el hf; obtain ⟨v2, e_v2, hf⟩ := hf
      refine sx_get hm dX9_tell_13 rs_RX9_83 (xgi_el e_v2) ?_
      clear e_v2
      rcases mx_if_el hf with ⟨c7, hf⟩ | ⟨c7, hf⟩
      · refine sb_ic_ge hm dX9_tell_16 (tgt := 34) rfl (fun _ => ?_) (fun z => absurd c7 z)
        cases hf
        exact sx_ret hm dX9_tell_34 rfl
      · refine sb_ic_ge hm dX9_tell_16 (tgt := 34) rfl (fun z => absurd z c7) (fun _ => ?_)
        refine mx_S.pu (pc2 := 20) (lv2 := [(0, .ref a0), (1, .int a1), (2, .int a2)]) (st2 := [.ref a0]) hm dX9_tell_19 rfl ?_
        refine mx_S.pu (pc2 := 21) (lv2 := [(0, .ref a0), (1, .int a1), (2, .int a2)]) (st2 := [.int a1, .ref a0]) hm dX9_tell_20 rfl ?_
        replace hf := mx_sv_el hf; obtain ⟨h3, e_h3, hf⟩ := hf
        refine sx_put hm dX9_tell_21 rs_RX9_80 ft_9_11 ⟨rfl, rfl⟩ (fun z => by cases z) e_h3 ?_
        clear e_h3
        refine mx_S.pu (pc2 := 25) (lv2 := [(0, .ref a0), (1, .int a1), (2, .int a2)]) (st2 := [.ref a0]) hm dX9_tell_24 rfl ?_
        refine mx_S.pu (pc2 := 26) (lv2 := [(0, .ref a0), (1, .int a1), (2, .int a2)]) (st2 := [.ref a0, .ref a0]) hm dX9_tell_25 rfl ?_
        replace hf := mx_sv_el hf; obtain ⟨v4, e_v4, hf⟩ := hf
        refine sx_get hm dX9_tell_26 rs_RX9_19 (xgr_el e_v4) ?_
        clear e_v4
        refine mx_S.pu (pc2 := 30) (lv2 := [(0, .ref a0), (1, .int a1), (2, .int a2)]) (st2 := [.int a2, .ref v4, .ref a0]) hm dX9_tell_29 rfl ?_
        replace hf := mx_sv_el hf; obtain ⟨v5, e_v5, hf⟩ := hf
        refine sx_ald hm dX9_tell_30 e_v5 ?_
        clear e_v5
        replace hf := mx_sv_el hf; obtain ⟨h6, e_h6, hf⟩ := hf
        refine sx_put hm dX9_tell_31 rs_RX9_41 ft_9_12 ⟨rfl, rfl⟩ (fun z => by cases z) e_h6 ?_
        clear e_h6
        cases hf
        exact sx_ret hm dX9_tell_34 rfl
set_option maxHeartbeats 4000000 in
set_option maxRecDepth 20000 in
theorem f_X0_closeProgram_ok (X : Nat × (Nat → Int32)) {F L : Nat} (hF : 1 ≤ F) (hL : 22 ≤ L) (nn : Nat) (a0 : Nat) (h : mx_H) {r : mx_H} (hf : f_X0_closeProgram nn a0 h = some r) : mx_R X F L 4 [.ref a0] h (none, r, 0, 0) := by
  have hm : mx_mt 4 = some (yX0_closeProgram, cX0_closeProgram, 1, none) := mt_X0_closeProgram
  show mx_S X F L 4 0 [(0, .ref a0)] [] h 0 0 (none, r, 0, 0)
  unfold f_X0_closeProgram at hf
  refine mx_S.pu (pc2 := 1) (lv2 := [(0, .ref a0)]) (st2 := [.ref a0]) hm dX0_closeProgram_0 rfl ?_
  replace hf := mx_sv_el hf; obtain ⟨v1, e_v1, hf⟩ := hf
  refine sx_get hm dX0_closeProgram_1 rs_RX0_65 (xgi_el e_v1) ?_
  clear e_v1
  refine sx_ic (v := (-1)) hm dX0_closeProgram_4 (by decide) ?_
  rcases mx_if_el hf with ⟨c6, hf⟩ | ⟨c6, hf⟩
  · refine sb_ic_eq hm dX0_closeProgram_5 (tgt := 21) rfl (fun _ => ?_) (fun z => absurd c6 z)
    cases hf
    exact sx_ret hm dX0_closeProgram_21 rfl
  · refine sb_ic_eq hm dX0_closeProgram_5 (tgt := 21) rfl (fun z => absurd z c6) (fun _ => ?_)
    refine mx_S.pu (pc2 := 9) (lv2 := [(0, .ref a0)]) (st2 := [.ref a0]) hm dX0_closeProgram_8 rfl ?_
    replace hf := mx_sv_el hf; obtain ⟨v2, e_v2, hf⟩ := hf
    refine sx_get hm dX0_closeProgram_9 rs_RX0_34 (xgr_el e_v2) ?_
    clear e_v2
    refine sx_bi (v := 11) hm dX0_closeProgram_12 (by decide) ?_
    refine mx_S.pu (pc2 := 15) (lv2 := [(0, .ref a0)]) (st2 := [.ref a0, .int 11, .ref v2]) hm dX0_closeProgram_14 rfl ?_
    replace hf := mx_sv_el hf; obtain ⟨v3, e_v3, hf⟩ := hf
    refine sx_get hm dX0_closeProgram_15 rs_RX0_65 (xgi_el e_v3) ?_
    clear e_v3
    replace hf := mx_gd_el hf; obtain ⟨c4, hf⟩ := hf
    replace hf := mx_sv_el hf; obtain ⟨u5, e_u5, hf⟩ := hf
    refine sx_cv hm dX0_closeProgram_18 rs_RX0_69 mt_X9_tell [.int 11, .int v3] [] (b := v2) (ci := 9) rfl rfl rfl c4 (Nat.le_of_ble_eq_true rfl) (Nat.le_of_ble_eq_true rfl) (by omega) (by omega) (f_X9_tell_ok X (by omega) (by omega) nn v2 11 v3 h e_u5) ?_
    clear e_u5
    show mx_S X F L 4 21 [(0, .ref a0)] [] u5 0 0 (none, r, 0, 0)
    cases hf
    exact sx_ret hm dX0_closeProgram_21 rfl
set_option maxHeartbeats 4000000 in
set_option maxRecDepth 20000 in
theorem j_X10_arithmeticOp_91_ok (X : Nat × (Nat → Int32)) {F L : Nat} (hF : 0 ≤ F) (hL : 0 ≤ L) (nn : Nat) (h : mx_H) {r : (Int32 × mx_H)} (hf : j_X10_arithmeticOp_91 nn h = some r) : mx_S X F L 284 91 [] [] h 0 0 (some (.int r.1), r.2, 0, 0) := by
  have hm : mx_mt 284 = some (yX10_arithmeticOp, cX10_arithmeticOp, 1, (some .int)) := mt_X10_arithmeticOp
  unfold j_X10_arithmeticOp_91 at hf
  refine sx_si (v := 130) hm dX10_arithmeticOp_91 (by decide) ?_
  cases hf
  exact sx_ire hm dX10_arithmeticOp_94 rfl rfl
set_option maxHeartbeats 4000000 in
set_option maxRecDepth 20000 in
theorem f_X10_arithmeticOp_ok (X : Nat × (Nat → Int32)) {F L : Nat} (hF : 0 ≤ F) (hL : 0 ≤ L) (nn : Nat) (a0 : Int32) (h : mx_H) {r : (Int32 × mx_H)} (hf : f_X10_arithmeticOp nn a0 h = some r) : mx_R X F L 284 [.int a0] h (some (.int r.1), r.2, 0, 0) := by
  have hm : mx_mt 284 = some (yX10_arithmeticOp, cX10_arithmeticOp, 1, (some .int)) := mt_X10_arithmeticOp
  show mx_S X F L 284 0 [(0, .int a0)] [] h 0 0 (some (.int r.1), r.2, 0, 0)
  unfold f_X10_arithmeticOp at hf
  refine mx_S.pu (pc2 := 1) (lv2 := [(0, .int a0)]) (st2 := [.int a0]) hm dX10_arithmeticOp_0 rfl ?_
  rcases mx_if_el hf with ⟨n_0, hf⟩ | ⟨n_0, hf⟩
  · refine sx_tin hm dX10_arithmeticOp_1 (by rw [n_0]; decide) (by rw [n_0]; decide) (off := 74) (by rw [n_0]; rfl) (tgt := 75) rfl ?_
    clear n_0
    refine sx_bi (v := 120) hm dX10_arithmeticOp_75 (by decide) ?_
    cases hf
    exact sx_ire hm dX10_arithmeticOp_77 rfl rfl
  · rcases mx_if_el hf with ⟨n_1, hf⟩ | ⟨n_1, hf⟩
    · refine sx_tin hm dX10_arithmeticOp_1 (by rw [n_1]; decide) (by rw [n_1]; decide) (off := 77) (by rw [n_1]; rfl) (tgt := 78) rfl ?_
      clear n_0 n_1
      refine sx_bi (v := 122) hm dX10_arithmeticOp_78 (by decide) ?_
      cases hf
      exact sx_ire hm dX10_arithmeticOp_80 rfl rfl
    · rcases mx_if_el hf with ⟨n_2, hf⟩ | ⟨n_2, hf⟩
      · refine sx_tin hm dX10_arithmeticOp_1 (by rw [n_2]; decide) (by rw [n_2]; decide) (off := 80) (by rw [n_2]; rfl) (tgt := 81) rfl ?_
        clear n_0 n_1 n_2
        refine sx_bi (v := 124) hm dX10_arithmeticOp_81 (by decide) ?_
        cases hf
        exact sx_ire hm dX10_arithmeticOp_83 rfl rfl
      · rcases mx_if_el hf with ⟨n_3, hf⟩ | ⟨n_3, hf⟩
        · refine sx_tin hm dX10_arithmeticOp_1 (by rw [n_3]; decide) (by rw [n_3]; decide) (off := 59) (by rw [n_3]; rfl) (tgt := 60) rfl ?_
          clear n_0 n_1 n_2 n_3
          refine sx_bi (v := 96) hm dX10_arithmeticOp_60 (by decide) ?_
          cases hf
          exact sx_ire hm dX10_arithmeticOp_62 rfl rfl
        · rcases mx_if_el hf with ⟨n_4, hf⟩ | ⟨n_4, hf⟩
          · refine sx_tin hm dX10_arithmeticOp_1 (by rw [n_4]; decide) (by rw [n_4]; decide) (off := 62) (by rw [n_4]; rfl) (tgt := 63) rfl ?_
            clear n_0 n_1 n_2 n_3 n_4
            refine sx_bi (v := 100) hm dX10_arithmeticOp_63 (by decide) ?_
            cases hf
            exact sx_ire hm dX10_arithmeticOp_65 rfl rfl
          · rcases mx_if_el hf with ⟨n_5, hf⟩ | ⟨n_5, hf⟩
            · refine sx_tin hm dX10_arithmeticOp_1 (by rw [n_5]; decide) (by rw [n_5]; decide) (off := 65) (by rw [n_5]; rfl) (tgt := 66) rfl ?_
              clear n_0 n_1 n_2 n_3 n_4 n_5
              refine sx_bi (v := 104) hm dX10_arithmeticOp_66 (by decide) ?_
              cases hf
              exact sx_ire hm dX10_arithmeticOp_68 rfl rfl
            · rcases mx_if_el hf with ⟨n_6, hf⟩ | ⟨n_6, hf⟩
              · refine sx_tin hm dX10_arithmeticOp_1 (by rw [n_6]; decide) (by rw [n_6]; decide) (off := 68) (by rw [n_6]; rfl) (tgt := 69) rfl ?_
                clear n_0 n_1 n_2 n_3 n_4 n_5 n_6
                refine sx_bi (v := 108) hm dX10_arithmeticOp_69 (by decide) ?_
                cases hf
                exact sx_ire hm dX10_arithmeticOp_71 rfl rfl
              · rcases mx_if_el hf with ⟨n_7, hf⟩ | ⟨n_7, hf⟩
                · refine sx_tin hm dX10_arithmeticOp_1 (by rw [n_7]; decide) (by rw [n_7]; decide) (off := 71) (by rw [n_7]; rfl) (tgt := 72) rfl ?_
                  clear n_0 n_1 n_2 n_3 n_4 n_5 n_6 n_7
                  refine sx_bi (v := 112) hm dX10_arithmeticOp_72 (by decide) ?_
                  cases hf
                  exact sx_ire hm dX10_arithmeticOp_74 rfl rfl
                · rcases mx_if_el hf with ⟨n_8, hf⟩ | ⟨n_8, hf⟩
                  · refine sx_tin hm dX10_arithmeticOp_1 (by rw [n_8]; decide) (by rw [n_8]; decide) (off := 83) (by rw [n_8]; rfl) (tgt := 84) rfl ?_
                    clear n_0 n_1 n_2 n_3 n_4 n_5 n_6 n_7 n_8
                    refine sx_bi (v := 126) hm dX10_arithmeticOp_84 (by decide) ?_
                    cases hf
                    exact sx_ire hm dX10_arithmeticOp_86 rfl rfl
                  · rcases mx_if_el hf with ⟨n_9, hf⟩ | ⟨n_9, hf⟩
                    · refine sx_tin hm dX10_arithmeticOp_1 (by rw [n_9]; decide) (by rw [n_9]; decide) (off := 86) (by rw [n_9]; rfl) (tgt := 87) rfl ?_
                      clear n_0 n_1 n_2 n_3 n_4 n_5 n_6 n_7 n_8 n_9
                      refine sx_si (v := 128) hm dX10_arithmeticOp_87 (by decide) ?_
                      cases hf
                      exact sx_ire hm dX10_arithmeticOp_90 rfl rfl
                    · rcases (show (a0.toInt < 58 ∨ 68 < a0.toInt) ∨ a0.toInt = 58 ∨ a0.toInt = 59 ∨ a0.toInt = 60 ∨ a0.toInt = 61 ∨ a0.toInt = 62 ∨ a0.toInt = 63 ∨ a0.toInt = 64 ∨ a0.toInt = 65 ∨ a0.toInt = 66 ∨ a0.toInt = 67 ∨ a0.toInt = 68 by omega) with z0 | z0 | z0 | z0 | z0 | z0 | z0 | z0 | z0 | z0 | z0 | z0
                      · refine sx_tout hm dX10_arithmeticOp_1 z0 (tgt := 91) rfl ?_
                        refine mx_S.ext [] (mx_sub_pos [] rfl (show ([0] : List Nat).Nodup by decide)) ?_
                        exact j_X10_arithmeticOp_91_ok X hF hL nn h hf
                      · exact absurd (Int32.toInt_inj.mp (z0.trans (by decide : (58 : Int) = (58 : Int32).toInt))) n_0
                      · exact absurd (Int32.toInt_inj.mp (z0.trans (by decide : (59 : Int) = (59 : Int32).toInt))) n_1
                      · exact absurd (Int32.toInt_inj.mp (z0.trans (by decide : (60 : Int) = (60 : Int32).toInt))) n_2
                      · exact absurd (Int32.toInt_inj.mp (z0.trans (by decide : (61 : Int) = (61 : Int32).toInt))) n_3
                      · exact absurd (Int32.toInt_inj.mp (z0.trans (by decide : (62 : Int) = (62 : Int32).toInt))) n_4
                      · exact absurd (Int32.toInt_inj.mp (z0.trans (by decide : (63 : Int) = (63 : Int32).toInt))) n_5
                      · exact absurd (Int32.toInt_inj.mp (z0.trans (by decide : (64 : Int) = (64 : Int32).toInt))) n_6
                      · exact absurd (Int32.toInt_inj.mp (z0.trans (by decide : (65 : Int) = (65 : Int32).toInt))) n_7
                      · exact absurd (Int32.toInt_inj.mp (z0.trans (by decide : (66 : Int) = (66 : Int32).toInt))) n_8
                      · refine sx_tin hm dX10_arithmeticOp_1 (by omega) (by omega) (off := 90) (by rw [z0]; rfl) (tgt := 91) rfl ?_
                        refine mx_S.ext [] (mx_sub_pos [] rfl (show ([0] : List Nat).Nodup by decide)) ?_
                        exact j_X10_arithmeticOp_91_ok X hF hL nn h hf
                      · exact absurd (Int32.toInt_inj.mp (z0.trans (by decide : (68 : Int) = (68 : Int32).toInt))) n_9
set_option maxHeartbeats 4000000 in
set_option maxRecDepth 20000 in
theorem f_X10_wantType_ok (X : Nat × (Nat → Int32)) {F L : Nat} (hF : 1 ≤ F) (hL : 22 ≤ L) (nn : Nat) (a0 : Nat) (a1 : Int32) (a2 : Int32) (h : mx_H) {r : mx_H} (hf : f_X10_wantType nn a0 a1 a2 h = some r) : mx_R X F L 281 [.ref a0, .int a1, .int a2] h (none, r, 0, 0) := by
  have hm : mx_mt 281 = some (yX10_wantType, cX10_wantType, 3, none) := mt_X10_wantType
  show mx_S X F L 281 0 [(0, .ref a0), (1, .int a1), (2, .int a2)] [] h 0 0 (none, r, 0, 0)
  unfold f_X10_wantType at hf
  refine mx_S.pu (pc2 := 1) (lv2 := [(0, .ref a0), (1, .int a1), (2, .int a2)]) (st2 := [.int a1]) hm dX10_wantType_0 rfl ?_
  rcases mx_if_el hf with ⟨c4, hf⟩ | ⟨c4, hf⟩
  · refine sb_if_ne hm dX10_wantType_1 (tgt := 14) rfl (fun _ => ?_) (fun z => absurd c4 z)
    cases hf
    exact sx_ret hm dX10_wantType_14 rfl
  · refine sb_if_ne hm dX10_wantType_1 (tgt := 14) rfl (fun z => absurd z c4) (fun _ => ?_)
    refine mx_S.pu (pc2 := 5) (lv2 := [(0, .ref a0), (1, .int a1), (2, .int a2)]) (st2 := [.ref a0]) hm dX10_wantType_4 rfl ?_
    replace hf := mx_sv_el hf; obtain ⟨v1, e_v1, hf⟩ := hf
    refine sx_get hm dX10_wantType_5 rs_RX10_31 (xgr_el e_v1) ?_
    clear e_v1
    refine sx_bi (v := 6) hm dX10_wantType_8 (by decide) ?_
    refine mx_S.pu (pc2 := 11) (lv2 := [(0, .ref a0), (1, .int a1), (2, .int a2)]) (st2 := [.int a2, .int 6, .ref v1]) hm dX10_wantType_10 rfl ?_
    replace hf := mx_gd_el hf; obtain ⟨c2, hf⟩ := hf
    replace hf := mx_sv_el hf; obtain ⟨u3, e_u3, hf⟩ := hf
    refine sx_cv hm dX10_wantType_11 rs_RX10_165 mt_X9_tell [.int 6, .int a2] [] (b := v1) (ci := 9) rfl rfl rfl c2 (Nat.le_of_ble_eq_true rfl) (Nat.le_of_ble_eq_true rfl) (by omega) (by omega) (f_X9_tell_ok X (by omega) (by omega) nn v1 6 a2 h e_u3) ?_
    clear e_u3
    show mx_S X F L 281 14 [(0, .ref a0), (1, .int a1), (2, .int a2)] [] u3 0 0 (none, r, 0, 0)
    cases hf
    exact sx_ret hm dX10_wantType_14 rfl
set_option maxHeartbeats 4000000 in
set_option maxRecDepth 20000 in
theorem f_X1_aimAt_ok (X : Nat × (Nat → Int32)) {F L : Nat} (hF : 0 ≤ F) (hL : 0 ≤ L) (nn : Nat) (a0 : Nat) (a1 : Int32) (a2 : Int32) (h : mx_H) {r : mx_H} (hf : f_X1_aimAt nn a0 a1 a2 h = some r) : mx_R X F L 38 [.ref a0, .int a1, .int a2] h (none, r, 0, 0) := by
  have hm : mx_mt 38 = some (yX1_aimAt, cX1_aimAt, 4, none) := mt_X1_aimAt
  show mx_S X F L 38 0 [(0, .ref a0), (1, .int a1), (2, .int a2)] [] h 0 0 (none, r, 0, 0)
  unfold f_X1_aimAt at hf
  refine mx_S.pu (pc2 := 1) (lv2 := [(0, .ref a0), (1, .int a1), (2, .int a2)]) (st2 := [.int a2]) hm dX1_aimAt_0 rfl ?_
  refine mx_S.pu (pc2 := 2) (lv2 := [(0, .ref a0), (1, .int a1), (2, .int a2)]) (st2 := [.int a1, .int a2]) hm dX1_aimAt_1 rfl ?_
  replace hf := xl_el hf; obtain ⟨v1, e_v1, hf⟩ := hf
  refine mx_S.pu (pc2 := 3) (lv2 := [(0, .ref a0), (1, .int a1), (2, .int a2)]) (st2 := [.int v1]) hm dX1_aimAt_2 (by rw [← e_v1]; rfl) ?_
  clear e_v1
  refine mx_S.pu (pc2 := 4) (lv2 := [(3, .int v1), (0, .ref a0), (1, .int a1), (2, .int a2)]) (st2 := []) hm dX1_aimAt_3 rfl ?_
  refine mx_S.pu (pc2 := 5) (lv2 := [(3, .int v1), (0, .ref a0), (1, .int a1), (2, .int a2)]) (st2 := [.int a1]) hm dX1_aimAt_4 rfl ?_
  rcases mx_if_el hf with ⟨c15, hf⟩ | ⟨c15, hf⟩
  · refine sb_if_lt hm dX1_aimAt_5 (tgt := 42) rfl (fun _ => ?_) (fun z => absurd c15 z)
    cases hf
    exact sx_ret hm dX1_aimAt_42 rfl
  · refine sb_if_lt hm dX1_aimAt_5 (tgt := 42) rfl (fun z => absurd z c15) (fun _ => ?_)
    refine mx_S.pu (pc2 := 9) (lv2 := [(3, .int v1), (0, .ref a0), (1, .int a1), (2, .int a2)]) (st2 := [.int a1]) hm dX1_aimAt_8 rfl ?_
    refine sx_ic (v := 2) hm dX1_aimAt_9 (by decide) ?_
    replace hf := xl_el hf; obtain ⟨v2, e_v2, hf⟩ := hf
    refine mx_S.pu (pc2 := 11) (lv2 := [(3, .int v1), (0, .ref a0), (1, .int a1), (2, .int a2)]) (st2 := [.int v2]) hm dX1_aimAt_10 (by rw [← e_v2]; rfl) ?_
    clear e_v2
    refine mx_S.pu (pc2 := 12) (lv2 := [(3, .int v1), (0, .ref a0), (1, .int a1), (2, .int a2)]) (st2 := [.ref a0, .int v2]) hm dX1_aimAt_11 rfl ?_
    replace hf := mx_sv_el hf; obtain ⟨v3, e_v3, hf⟩ := hf
    refine sx_get hm dX1_aimAt_12 rs_RX1_13 (xgr_el e_v3) ?_
    clear e_v3
    replace hf := mx_sv_el hf; obtain ⟨v4, e_v4, hf⟩ := hf
    refine sx_len hm dX1_aimAt_15 e_v4 ?_
    clear e_v4
    rcases mx_if_el hf with ⟨c14, hf⟩ | ⟨c14, hf⟩
    · refine sb_ic_ge hm dX1_aimAt_16 (tgt := 42) rfl (fun _ => ?_) (fun z => absurd c14 z)
      cases hf
      exact sx_ret hm dX1_aimAt_42 rfl
    · refine sb_ic_ge hm dX1_aimAt_16 (tgt := 42) rfl (fun z => absurd z c14) (fun _ => ?_)
      refine mx_S.pu (pc2 := 20) (lv2 := [(3, .int v1), (0, .ref a0), (1, .int a1), (2, .int a2)]) (st2 := [.ref a0]) hm dX1_aimAt_19 rfl ?_
      replace hf := mx_sv_el hf; obtain ⟨v5, e_v5, hf⟩ := hf
      refine sx_get hm dX1_aimAt_20 rs_RX1_13 (xgr_el e_v5) ?_
      clear e_v5
      refine mx_S.pu (pc2 := 24) (lv2 := [(3, .int v1), (0, .ref a0), (1, .int a1), (2, .int a2)]) (st2 := [.int a1, .ref v5]) hm dX1_aimAt_23 rfl ?_
      refine sx_ic (v := 1) hm dX1_aimAt_24 (by decide) ?_
      replace hf := xl_el hf; obtain ⟨v6, e_v6, hf⟩ := hf
      refine mx_S.pu (pc2 := 26) (lv2 := [(3, .int v1), (0, .ref a0), (1, .int a1), (2, .int a2)]) (st2 := [.int v6, .ref v5]) hm dX1_aimAt_25 (by rw [← e_v6]; rfl) ?_
      clear e_v6
      refine mx_S.pu (pc2 := 27) (lv2 := [(3, .int v1), (0, .ref a0), (1, .int a1), (2, .int a2)]) (st2 := [.int v1, .int v6, .ref v5]) hm dX1_aimAt_26 rfl ?_
      refine sx_bi (v := 8) hm dX1_aimAt_27 (by decide) ?_
      replace hf := xl_el hf; obtain ⟨v7, e_v7, hf⟩ := hf
      refine mx_S.pu (pc2 := 30) (lv2 := [(3, .int v1), (0, .ref a0), (1, .int a1), (2, .int a2)]) (st2 := [.int v7, .int v6, .ref v5]) hm dX1_aimAt_29 (by rw [← e_v7]; rfl) ?_
      clear e_v7
      replace hf := xl_el hf; obtain ⟨v8, e_v8, hf⟩ := hf
      refine mx_S.pu (pc2 := 31) (lv2 := [(3, .int v1), (0, .ref a0), (1, .int a1), (2, .int a2)]) (st2 := [.int v8, .int v6, .ref v5]) hm dX1_aimAt_30 (by rw [← e_v8]; rfl) ?_
      clear e_v8
      replace hf := mx_sv_el hf; obtain ⟨h9, e_h9, hf⟩ := hf
      refine sx_bst hm dX1_aimAt_31 e_h9 ?_
      clear e_h9
      refine mx_S.pu (pc2 := 33) (lv2 := [(3, .int v1), (0, .ref a0), (1, .int a1), (2, .int a2)]) (st2 := [.ref a0]) hm dX1_aimAt_32 rfl ?_
      replace hf := mx_sv_el hf; obtain ⟨v10, e_v10, hf⟩ := hf
      refine sx_get hm dX1_aimAt_33 rs_RX1_13 (xgr_el e_v10) ?_
      clear e_v10
      refine mx_S.pu (pc2 := 37) (lv2 := [(3, .int v1), (0, .ref a0), (1, .int a1), (2, .int a2)]) (st2 := [.int a1, .ref v10]) hm dX1_aimAt_36 rfl ?_
      refine sx_ic (v := 2) hm dX1_aimAt_37 (by decide) ?_
      replace hf := xl_el hf; obtain ⟨v11, e_v11, hf⟩ := hf
      refine mx_S.pu (pc2 := 39) (lv2 := [(3, .int v1), (0, .ref a0), (1, .int a1), (2, .int a2)]) (st2 := [.int v11, .ref v10]) hm dX1_aimAt_38 (by rw [← e_v11]; rfl) ?_
      clear e_v11
      refine mx_S.pu (pc2 := 40) (lv2 := [(3, .int v1), (0, .ref a0), (1, .int a1), (2, .int a2)]) (st2 := [.int v1, .int v11, .ref v10]) hm dX1_aimAt_39 rfl ?_
      replace hf := xl_el hf; obtain ⟨v12, e_v12, hf⟩ := hf
      refine mx_S.pu (pc2 := 41) (lv2 := [(3, .int v1), (0, .ref a0), (1, .int a1), (2, .int a2)]) (st2 := [.int v12, .int v11, .ref v10]) hm dX1_aimAt_40 (by rw [← e_v12]; rfl) ?_
      clear e_v12
      replace hf := mx_sv_el hf; obtain ⟨h13, e_h13, hf⟩ := hf
      refine sx_bst hm dX1_aimAt_41 e_h13 ?_
      clear e_h13
      cases hf
      exact sx_ret hm dX1_aimAt_42 rfl
set_option maxHeartbeats 4000000 in
set_option maxRecDepth 20000 in
theorem j_X1_fillFrame_23_ok (X : Nat × (Nat → Int32)) {F L : Nat} (hF : 1 ≤ F) (hL : 60 ≤ L) (nn : Nat) (l0 : Nat) (h : mx_H) {r : mx_H} (hf : j_X1_fillFrame_23 nn l0 h = some r) : mx_S X F L 41 23 [(0, .ref l0)] [] h 0 0 (none, r, 0, 0) := by
  have hm : mx_mt 41 = some (yX1_fillFrame, cX1_fillFrame, 5, none) := mt_X1_fillFrame
  unfold j_X1_fillFrame_23 at hf
  refine mx_S.pu (pc2 := 24) (lv2 := [(0, .ref l0)]) (st2 := [.ref l0]) hm dX1_fillFrame_23 rfl ?_
  refine sx_ic (v := 1) hm dX1_fillFrame_24 (by decide) ?_
  replace hf := mx_sv_el hf; obtain ⟨h1, e_h1, hf⟩ := hf
  refine sx_put hm dX1_fillFrame_25 rs_RX1_61 ft_1_15 ⟨by decide, by decide⟩ (fun z => by cases z) e_h1 ?_
  clear e_h1
  cases hf
  exact sx_ret hm dX1_fillFrame_28 rfl
set_option maxHeartbeats 4000000 in
set_option maxRecDepth 20000 in
theorem f_X1_fillFrame_ok (X : Nat × (Nat → Int32)) {F L : Nat} (hF : 1 ≤ F) (hL : 60 ≤ L) (nn : Nat) (a0 : Nat) (a1 : Int32) (a2 : Int32) (a3 : Int32) (h : mx_H) {r : mx_H} (hf : f_X1_fillFrame nn a0 a1 a2 a3 h = some r) : mx_R X F L 41 [.ref a0, .int a1, .int a2, .int a3] h (none, r, 0, 0) := by
  have hm : mx_mt 41 = some (yX1_fillFrame, cX1_fillFrame, 5, none) := mt_X1_fillFrame
  show mx_S X F L 41 0 [(0, .ref a0), (1, .int a1), (2, .int a2), (3, .int a3)] [] h 0 0 (none, r, 0, 0)
  unfold f_X1_fillFrame at hf
  refine mx_S.pu (pc2 := 1) (lv2 := [(0, .ref a0), (1, .int a1), (2, .int a2), (3, .int a3)]) (st2 := [.int a1]) hm dX1_fillFrame_0 rfl ?_
  refine sx_bi (v := 52) hm dX1_fillFrame_1 (by decide) ?_
  replace hf := xl_el hf; obtain ⟨v2, e_v2, hf⟩ := hf
  refine mx_S.pu (pc2 := 4) (lv2 := [(0, .ref a0), (1, .int a1), (2, .int a2), (3, .int a3)]) (st2 := [.int v2]) hm dX1_fillFrame_3 (by rw [← e_v2]; rfl) ?_
  clear e_v2
  refine mx_S.pu (pc2 := 6) (lv2 := [(4, .int v2), (0, .ref a0), (1, .int a1), (2, .int a2), (3, .int a3)]) (st2 := []) hm dX1_fillFrame_4 rfl ?_
  refine mx_S.pu (pc2 := 7) (lv2 := [(4, .int v2), (0, .ref a0), (1, .int a1), (2, .int a2), (3, .int a3)]) (st2 := [.int a1]) hm dX1_fillFrame_6 rfl ?_
  refine sx_ic (v := (-1)) hm dX1_fillFrame_7 (by decide) ?_
  rcases mx_if_el hf with ⟨c19, hf⟩ | ⟨c19, hf⟩
  · refine sb_ic_eq hm dX1_fillFrame_8 (tgt := 23) rfl (fun _ => ?_) (fun z => absurd c19 z)
    refine mx_S.ext [(0, .ref a0)] (mx_sub_pos [1] rfl (show ([4, 0, 1, 2, 3] : List Nat).Nodup by decide)) ?_
    exact j_X1_fillFrame_23_ok X hF hL nn a0 h hf
  · refine sb_ic_eq hm dX1_fillFrame_8 (tgt := 23) rfl (fun z => absurd z c19) (fun _ => ?_)
    refine mx_S.pu (pc2 := 12) (lv2 := [(4, .int v2), (0, .ref a0), (1, .int a1), (2, .int a2), (3, .int a3)]) (st2 := [.int a2]) hm dX1_fillFrame_11 rfl ?_
    refine sx_bi (v := 30) hm dX1_fillFrame_12 (by decide) ?_
    rcases mx_if_el hf with ⟨c18, hf⟩ | ⟨c18, hf⟩
    · refine sb_ic_gt hm dX1_fillFrame_14 (tgt := 23) rfl (fun _ => ?_) (fun z => absurd c18 z)
      refine mx_S.ext [(0, .ref a0)] (mx_sub_pos [1] rfl (show ([4, 0, 1, 2, 3] : List Nat).Nodup by decide)) ?_
      exact j_X1_fillFrame_23_ok X hF hL nn a0 h hf
    · refine sb_ic_gt hm dX1_fillFrame_14 (tgt := 23) rfl (fun z => absurd z c18) (fun _ => ?_)
      refine mx_S.pu (pc2 := 18) (lv2 := [(4, .int v2), (0, .ref a0), (1, .int a1), (2, .int a2), (3, .int a3)]) (st2 := [.int a3]) hm dX1_fillFrame_17 rfl ?_
      refine sx_bi (v := 20) hm dX1_fillFrame_18 (by decide) ?_
      rcases mx_if_el hf with ⟨c17, hf⟩ | ⟨c17, hf⟩
      · refine sb_ic_le hm dX1_fillFrame_20 (tgt := 29) rfl (fun _ => ?_) (fun z => absurd c17 z)
        refine mx_S.pu (pc2 := 30) (lv2 := [(4, .int v2), (0, .ref a0), (1, .int a1), (2, .int a2), (3, .int a3)]) (st2 := [.ref a0]) hm dX1_fillFrame_29 rfl ?_
        replace hf := mx_sv_el hf; obtain ⟨v3, e_v3, hf⟩ := hf
        refine sx_get hm dX1_fillFrame_30 rs_RX1_33 (xgr_el e_v3) ?_
        clear e_v3
        refine mx_S.pu (pc2 := 35) (lv2 := [(4, .int v2), (0, .ref a0), (1, .int a1), (2, .int a2), (3, .int a3)]) (st2 := [.int v2, .ref v3]) hm dX1_fillFrame_33 rfl ?_
        refine mx_S.pu (pc2 := 36) (lv2 := [(4, .int v2), (0, .ref a0), (1, .int a1), (2, .int a2), (3, .int a3)]) (st2 := [.int a2, .int v2, .ref v3]) hm dX1_fillFrame_35 rfl ?_
        replace hf := mx_sv_el hf; obtain ⟨h4, e_h4, hf⟩ := hf
        refine sx_ast hm dX1_fillFrame_36 e_h4 ?_
        clear e_h4
        refine mx_S.pu (pc2 := 38) (lv2 := [(4, .int v2), (0, .ref a0), (1, .int a1), (2, .int a2), (3, .int a3)]) (st2 := [.ref a0]) hm dX1_fillFrame_37 rfl ?_
        replace hf := mx_sv_el hf; obtain ⟨v5, e_v5, hf⟩ := hf
        refine sx_get hm dX1_fillFrame_38 rs_RX1_33 (xgr_el e_v5) ?_
        clear e_v5
        refine mx_S.pu (pc2 := 43) (lv2 := [(4, .int v2), (0, .ref a0), (1, .int a1), (2, .int a2), (3, .int a3)]) (st2 := [.int v2, .ref v5]) hm dX1_fillFrame_41 rfl ?_
        refine sx_ic (v := 1) hm dX1_fillFrame_43 (by decide) ?_
        replace hf := xl_el hf; obtain ⟨v6, e_v6, hf⟩ := hf
        refine mx_S.pu (pc2 := 45) (lv2 := [(4, .int v2), (0, .ref a0), (1, .int a1), (2, .int a2), (3, .int a3)]) (st2 := [.int v6, .ref v5]) hm dX1_fillFrame_44 (by rw [← e_v6]; rfl) ?_
        clear e_v6
        refine mx_S.pu (pc2 := 46) (lv2 := [(4, .int v2), (0, .ref a0), (1, .int a1), (2, .int a2), (3, .int a3)]) (st2 := [.int a3, .int v6, .ref v5]) hm dX1_fillFrame_45 rfl ?_
        replace hf := mx_sv_el hf; obtain ⟨h7, e_h7, hf⟩ := hf
        refine sx_ast hm dX1_fillFrame_46 e_h7 ?_
        clear e_h7
        refine mx_S.pu (pc2 := 48) (lv2 := [(4, .int v2), (0, .ref a0), (1, .int a1), (2, .int a2), (3, .int a3)]) (st2 := [.ref a0]) hm dX1_fillFrame_47 rfl ?_
        replace hf := mx_sv_el hf; obtain ⟨v8, e_v8, hf⟩ := hf
        refine sx_get hm dX1_fillFrame_48 rs_RX1_24 (xgr_el e_v8) ?_
        clear e_v8
        refine sx_ic (v := 0) hm dX1_fillFrame_51 (by decide) ?_
        refine mx_S.pu (pc2 := 53) (lv2 := [(4, .int v2), (0, .ref a0), (1, .int a1), (2, .int a2), (3, .int a3)]) (st2 := [.ref a0, .int 0, .ref v8]) hm dX1_fillFrame_52 rfl ?_
        replace hf := mx_sv_el hf; obtain ⟨v9, e_v9, hf⟩ := hf
        refine sx_get hm dX1_fillFrame_53 rs_RX1_33 (xgr_el e_v9) ?_
        clear e_v9
        refine mx_S.pu (pc2 := 58) (lv2 := [(4, .int v2), (0, .ref a0), (1, .int a1), (2, .int a2), (3, .int a3)]) (st2 := [.int v2, .ref v9, .int 0, .ref v8]) hm dX1_fillFrame_56 rfl ?_
        refine sx_ic (v := 2) hm dX1_fillFrame_58 (by decide) ?_
        replace hf := xl_el hf; obtain ⟨v10, e_v10, hf⟩ := hf
        refine mx_S.pu (pc2 := 60) (lv2 := [(4, .int v2), (0, .ref a0), (1, .int a1), (2, .int a2), (3, .int a3)]) (st2 := [.int v10, .ref v9, .int 0, .ref v8]) hm dX1_fillFrame_59 (by rw [← e_v10]; rfl) ?_
        clear e_v10
        refine mx_S.pu (pc2 := 61) (lv2 := [(4, .int v2), (0, .ref a0), (1, .int a1), (2, .int a2), (3, .int a3)]) (st2 := [.int a2, .int v10, .ref v9, .int 0, .ref v8]) hm dX1_fillFrame_60 rfl ?_
        replace hf := mx_sv_el hf; obtain ⟨h11, e_h11, hf⟩ := hf
        refine sx_copy hm dX1_fillFrame_61 rs_RX1_110 e_h11 (by omega) (Nat.le_trans (Nat.le_of_ble_eq_true rfl : _ ≤ 60) (by omega)) ?_
        clear e_h11
        refine mx_S.pu (pc2 := 65) (lv2 := [(4, .int v2), (0, .ref a0), (1, .int a1), (2, .int a2), (3, .int a3)]) (st2 := [.ref a0]) hm dX1_fillFrame_64 rfl ?_
        replace hf := mx_sv_el hf; obtain ⟨v12, e_v12, hf⟩ := hf
        refine sx_get hm dX1_fillFrame_65 rs_RX1_17 (xgr_el e_v12) ?_
        clear e_v12
        refine sx_ic (v := 0) hm dX1_fillFrame_68 (by decide) ?_
        refine mx_S.pu (pc2 := 70) (lv2 := [(4, .int v2), (0, .ref a0), (1, .int a1), (2, .int a2), (3, .int a3)]) (st2 := [.ref a0, .int 0, .ref v12]) hm dX1_fillFrame_69 rfl ?_
        replace hf := mx_sv_el hf; obtain ⟨v13, e_v13, hf⟩ := hf
        refine sx_get hm dX1_fillFrame_70 rs_RX1_33 (xgr_el e_v13) ?_
        clear e_v13
        refine mx_S.pu (pc2 := 75) (lv2 := [(4, .int v2), (0, .ref a0), (1, .int a1), (2, .int a2), (3, .int a3)]) (st2 := [.int v2, .ref v13, .int 0, .ref v12]) hm dX1_fillFrame_73 rfl ?_
        refine sx_ic (v := 2) hm dX1_fillFrame_75 (by decide) ?_
        replace hf := xl_el hf; obtain ⟨v14, e_v14, hf⟩ := hf
        refine mx_S.pu (pc2 := 77) (lv2 := [(4, .int v2), (0, .ref a0), (1, .int a1), (2, .int a2), (3, .int a3)]) (st2 := [.int v14, .ref v13, .int 0, .ref v12]) hm dX1_fillFrame_76 (by rw [← e_v14]; rfl) ?_
        clear e_v14
        refine mx_S.pu (pc2 := 78) (lv2 := [(4, .int v2), (0, .ref a0), (1, .int a1), (2, .int a2), (3, .int a3)]) (st2 := [.int a2, .int v14, .ref v13, .int 0, .ref v12]) hm dX1_fillFrame_77 rfl ?_
        replace hf := xl_el hf; obtain ⟨v15, e_v15, hf⟩ := hf
        refine mx_S.pu (pc2 := 79) (lv2 := [(4, .int v2), (0, .ref a0), (1, .int a1), (2, .int a2), (3, .int a3)]) (st2 := [.int v15, .ref v13, .int 0, .ref v12]) hm dX1_fillFrame_78 (by rw [← e_v15]; rfl) ?_
        clear e_v15
        refine mx_S.pu (pc2 := 80) (lv2 := [(4, .int v2), (0, .ref a0), (1, .int a1), (2, .int a2), (3, .int a3)]) (st2 := [.int a3, .int v15, .ref v13, .int 0, .ref v12]) hm dX1_fillFrame_79 rfl ?_
        replace hf := mx_sv_el hf; obtain ⟨h16, e_h16, hf⟩ := hf
        refine sx_copy hm dX1_fillFrame_80 rs_RX1_110 e_h16 (by omega) (Nat.le_trans (Nat.le_of_ble_eq_true rfl : _ ≤ 60) (by omega)) ?_
        clear e_h16
        cases hf
        exact sx_ret hm dX1_fillFrame_83 rfl
      · refine sb_ic_le hm dX1_fillFrame_20 (tgt := 29) rfl (fun z => absurd z c17) (fun _ => ?_)
        refine mx_S.ext [(0, .ref a0)] (mx_sub_pos [1] rfl (show ([4, 0, 1, 2, 3] : List Nat).Nodup by decide)) ?_
        exact j_X1_fillFrame_23_ok X hF hL nn a0 h hf
set_option maxHeartbeats 4000000 in
set_option maxRecDepth 20000 in
theorem j_X1_slotOfFrame_62_ok (X : Nat × (Nat → Int32)) {F L : Nat} (hF : 1 ≤ F) (hL : 60 ≤ L) (nn : Nat) (l0 : Nat) (l1 : Int32) (l2 : Int32) (h : mx_H) {r : (Int32 × mx_H)} (hf : j_X1_slotOfFrame_62 nn l0 l1 l2 h = some r) : mx_S X F L 42 62 [(0, .ref l0), (1, .int l1), (2, .int l2)] [] h 0 0 (some (.int r.1), r.2, 0, 0) := by
  have hm : mx_mt 42 = some (yX1_slotOfFrame, cX1_slotOfFrame, 3, (some .int)) := mt_X1_slotOfFrame
  unfold j_X1_slotOfFrame_62 at hf
  refine mx_S.pu (pc2 := 63) (lv2 := [(0, .ref l0), (1, .int l1), (2, .int l2)]) (st2 := [.ref l0]) hm dX1_slotOfFrame_62 rfl ?_
  replace hf := mx_sv_el hf; obtain ⟨v1, e_v1, hf⟩ := hf
  refine sx_get hm dX1_slotOfFrame_63 rs_RX1_58 (xgi_el e_v1) ?_
  clear e_v1
  refine sx_bi (v := 100) hm dX1_slotOfFrame_66 (by decide) ?_
  rcases mx_if_el hf with ⟨c19, hf⟩ | ⟨c19, hf⟩
  · refine sb_ic_lt hm dX1_slotOfFrame_68 (tgt := 73) rfl (fun _ => ?_) (fun z => absurd c19 z)
    refine mx_S.pu (pc2 := 74) (lv2 := [(0, .ref l0), (1, .int l1), (2, .int l2)]) (st2 := [.ref l0]) hm dX1_slotOfFrame_73 rfl ?_
    replace hf := mx_sv_el hf; obtain ⟨v2, e_v2, hf⟩ := hf
    refine sx_get hm dX1_slotOfFrame_74 rs_RX1_36 (xgr_el e_v2) ?_
    clear e_v2
    refine mx_S.pu (pc2 := 78) (lv2 := [(0, .ref l0), (1, .int l1), (2, .int l2)]) (st2 := [.int l2, .ref v2]) hm dX1_slotOfFrame_77 rfl ?_
    refine mx_S.pu (pc2 := 79) (lv2 := [(0, .ref l0), (1, .int l1), (2, .int l2)]) (st2 := [.ref l0, .int l2, .ref v2]) hm dX1_slotOfFrame_78 rfl ?_
    replace hf := mx_sv_el hf; obtain ⟨v3, e_v3, hf⟩ := hf
    refine sx_get hm dX1_slotOfFrame_79 rs_RX1_36 (xgr_el e_v3) ?_
    clear e_v3
    refine mx_S.pu (pc2 := 83) (lv2 := [(0, .ref l0), (1, .int l1), (2, .int l2)]) (st2 := [.int l2, .ref v3, .int l2, .ref v2]) hm dX1_slotOfFrame_82 rfl ?_
    refine sx_ic (v := 1) hm dX1_slotOfFrame_83 (by decide) ?_
    replace hf := xl_el hf; obtain ⟨v4, e_v4, hf⟩ := hf
    refine mx_S.pu (pc2 := 85) (lv2 := [(0, .ref l0), (1, .int l1), (2, .int l2)]) (st2 := [.int v4, .ref v3, .int l2, .ref v2]) hm dX1_slotOfFrame_84 (by rw [← e_v4]; rfl) ?_
    clear e_v4
    refine mx_S.pu (pc2 := 86) (lv2 := [(0, .ref l0), (1, .int l1), (2, .int l2)]) (st2 := [.ref l0, .int v4, .ref v3, .int l2, .ref v2]) hm dX1_slotOfFrame_85 rfl ?_
    replace hf := mx_sv_el hf; obtain ⟨v5, e_v5, hf⟩ := hf
    refine sx_get hm dX1_slotOfFrame_86 rs_RX1_58 (xgi_el e_v5) ?_
    clear e_v5
    refine mx_S.pu (pc2 := 90) (lv2 := [(0, .ref l0), (1, .int l1), (2, .int l2)]) (st2 := [.int l2, .int v5, .int v4, .ref v3, .int l2, .ref v2]) hm dX1_slotOfFrame_89 rfl ?_
    replace hf := xl_el hf; obtain ⟨v6, e_v6, hf⟩ := hf
    refine mx_S.pu (pc2 := 91) (lv2 := [(0, .ref l0), (1, .int l1), (2, .int l2)]) (st2 := [.int v6, .int v4, .ref v3, .int l2, .ref v2]) hm dX1_slotOfFrame_90 (by rw [← e_v6]; rfl) ?_
    clear e_v6
    replace hf := mx_sv_el hf; obtain ⟨h7, e_h7, hf⟩ := hf
    refine sx_copy hm dX1_slotOfFrame_91 rs_RX1_110 e_h7 (by omega) (Nat.le_trans (Nat.le_of_ble_eq_true rfl : _ ≤ 60) (by omega)) ?_
    clear e_h7
    refine mx_S.pu (pc2 := 95) (lv2 := [(0, .ref l0), (1, .int l1), (2, .int l2)]) (st2 := [.ref l0]) hm dX1_slotOfFrame_94 rfl ?_
    replace hf := mx_sv_el hf; obtain ⟨v8, e_v8, hf⟩ := hf
    refine sx_get hm dX1_slotOfFrame_95 rs_RX1_36 (xgr_el e_v8) ?_
    clear e_v8
    refine mx_S.pu (pc2 := 99) (lv2 := [(0, .ref l0), (1, .int l1), (2, .int l2)]) (st2 := [.int l2, .ref v8]) hm dX1_slotOfFrame_98 rfl ?_
    refine mx_S.pu (pc2 := 100) (lv2 := [(0, .ref l0), (1, .int l1), (2, .int l2)]) (st2 := [.ref l0, .int l2, .ref v8]) hm dX1_slotOfFrame_99 rfl ?_
    replace hf := mx_sv_el hf; obtain ⟨v9, e_v9, hf⟩ := hf
    refine sx_get hm dX1_slotOfFrame_100 rs_RX1_58 (xgi_el e_v9) ?_
    clear e_v9
    replace hf := mx_sv_el hf; obtain ⟨h10, e_h10, hf⟩ := hf
    refine sx_ast hm dX1_slotOfFrame_103 e_h10 ?_
    clear e_h10
    refine mx_S.pu (pc2 := 105) (lv2 := [(0, .ref l0), (1, .int l1), (2, .int l2)]) (st2 := [.ref l0]) hm dX1_slotOfFrame_104 rfl ?_
    replace hf := mx_sv_el hf; obtain ⟨v11, e_v11, hf⟩ := hf
    refine sx_get hm dX1_slotOfFrame_105 rs_RX1_30 (xgr_el e_v11) ?_
    clear e_v11
    refine mx_S.pu (pc2 := 109) (lv2 := [(0, .ref l0), (1, .int l1), (2, .int l2)]) (st2 := [.ref l0, .ref v11]) hm dX1_slotOfFrame_108 rfl ?_
    replace hf := mx_sv_el hf; obtain ⟨v12, e_v12, hf⟩ := hf
    refine sx_get hm dX1_slotOfFrame_109 rs_RX1_58 (xgi_el e_v12) ?_
    clear e_v12
    refine mx_S.pu (pc2 := 113) (lv2 := [(0, .ref l0), (1, .int l1), (2, .int l2)]) (st2 := [.int l1, .int v12, .ref v11]) hm dX1_slotOfFrame_112 rfl ?_
    replace hf := mx_sv_el hf; obtain ⟨h13, e_h13, hf⟩ := hf
    refine sx_ast hm dX1_slotOfFrame_113 e_h13 ?_
    clear e_h13
    refine mx_S.pu (pc2 := 115) (lv2 := [(0, .ref l0), (1, .int l1), (2, .int l2)]) (st2 := [.ref l0]) hm dX1_slotOfFrame_114 rfl ?_
    refine mx_S.pu (pc2 := 116) (lv2 := [(0, .ref l0), (1, .int l1), (2, .int l2)]) (st2 := [.ref l0, .ref l0]) hm dX1_slotOfFrame_115 rfl ?_
    replace hf := mx_sv_el hf; obtain ⟨v14, e_v14, hf⟩ := hf
    refine sx_get hm dX1_slotOfFrame_116 rs_RX1_58 (xgi_el e_v14) ?_
    clear e_v14
    refine sx_ic (v := 1) hm dX1_slotOfFrame_119 (by decide) ?_
    replace hf := xl_el hf; obtain ⟨v15, e_v15, hf⟩ := hf
    refine mx_S.pu (pc2 := 121) (lv2 := [(0, .ref l0), (1, .int l1), (2, .int l2)]) (st2 := [.int v15, .ref l0]) hm dX1_slotOfFrame_120 (by rw [← e_v15]; rfl) ?_
    clear e_v15
    replace hf := mx_sv_el hf; obtain ⟨h16, e_h16, hf⟩ := hf
    refine sx_put hm dX1_slotOfFrame_121 rs_RX1_58 ft_1_14 ⟨rfl, rfl⟩ (fun z => by cases z) e_h16 ?_
    clear e_h16
    refine mx_S.pu (pc2 := 125) (lv2 := [(0, .ref l0), (1, .int l1), (2, .int l2)]) (st2 := [.ref l0]) hm dX1_slotOfFrame_124 rfl ?_
    replace hf := mx_sv_el hf; obtain ⟨v17, e_v17, hf⟩ := hf
    refine sx_get hm dX1_slotOfFrame_125 rs_RX1_36 (xgr_el e_v17) ?_
    clear e_v17
    refine mx_S.pu (pc2 := 129) (lv2 := [(0, .ref l0), (1, .int l1), (2, .int l2)]) (st2 := [.int l2, .ref v17]) hm dX1_slotOfFrame_128 rfl ?_
    replace hf := mx_sv_el hf; obtain ⟨v18, e_v18, hf⟩ := hf
    refine sx_ald hm dX1_slotOfFrame_129 e_v18 ?_
    clear e_v18
    cases hf
    exact sx_ire hm dX1_slotOfFrame_130 rfl rfl
  · refine sb_ic_lt hm dX1_slotOfFrame_68 (tgt := 73) rfl (fun z => absurd z c19) (fun _ => ?_)
    refine sx_ic (v := (-1)) hm dX1_slotOfFrame_71 (by decide) ?_
    cases hf
    exact sx_ire hm dX1_slotOfFrame_72 rfl rfl
set_option maxHeartbeats 4000000 in
set_option maxRecDepth 20000 in
theorem j_X1_slotOfFrame_32_ok (X : Nat × (Nat → Int32)) {F L : Nat} (hF : 1 ≤ F) (hL : 60 ≤ L) (nn : Nat) (l0 : Nat) (l1 : Int32) (l2 : Int32) (h : mx_H) {r : (Int32 × mx_H)} (hf : j_X1_slotOfFrame_32 nn l0 l1 l2 h = some r) : mx_S X F L 42 32 [(0, .ref l0), (1, .int l1), (2, .int l2)] [] h 0 0 (some (.int r.1), r.2, 0, 0) := by
  have hm : mx_mt 42 = some (yX1_slotOfFrame, cX1_slotOfFrame, 3, (some .int)) := mt_X1_slotOfFrame
  unfold j_X1_slotOfFrame_32 at hf
  refine mx_S.pu (pc2 := 33) (lv2 := [(0, .ref l0), (1, .int l1), (2, .int l2)]) (st2 := [.int l2]) hm dX1_slotOfFrame_32 rfl ?_
  rcases mx_if_el hf with ⟨c29, hf⟩ | ⟨c29, hf⟩
  · refine sb_if_le hm dX1_slotOfFrame_33 (tgt := 62) rfl (fun _ => ?_) (fun z => absurd c29 z)
    exact j_X1_slotOfFrame_62_ok X hF hL nn l0 l1 l2 h hf
  · refine sb_if_le hm dX1_slotOfFrame_33 (tgt := 62) rfl (fun z => absurd z c29) (fun _ => ?_)
    refine mx_S.pu (pc2 := 37) (lv2 := [(0, .ref l0), (1, .int l1), (2, .int l2)]) (st2 := [.ref l0]) hm dX1_slotOfFrame_36 rfl ?_
    replace hf := mx_sv_el hf; obtain ⟨v20, e_v20, hf⟩ := hf
    refine sx_get hm dX1_slotOfFrame_37 rs_RX1_30 (xgr_el e_v20) ?_
    clear e_v20
    refine mx_S.pu (pc2 := 41) (lv2 := [(0, .ref l0), (1, .int l1), (2, .int l2)]) (st2 := [.ref l0, .ref v20]) hm dX1_slotOfFrame_40 rfl ?_
    replace hf := mx_sv_el hf; obtain ⟨v21, e_v21, hf⟩ := hf
    refine sx_get hm dX1_slotOfFrame_41 rs_RX1_36 (xgr_el e_v21) ?_
    clear e_v21
    refine mx_S.pu (pc2 := 45) (lv2 := [(0, .ref l0), (1, .int l1), (2, .int l2)]) (st2 := [.int l2, .ref v21, .ref v20]) hm dX1_slotOfFrame_44 rfl ?_
    refine sx_ic (v := 1) hm dX1_slotOfFrame_45 (by decide) ?_
    replace hf := xl_el hf; obtain ⟨v22, e_v22, hf⟩ := hf
    refine mx_S.pu (pc2 := 47) (lv2 := [(0, .ref l0), (1, .int l1), (2, .int l2)]) (st2 := [.int v22, .ref v21, .ref v20]) hm dX1_slotOfFrame_46 (by rw [← e_v22]; rfl) ?_
    clear e_v22
    replace hf := mx_sv_el hf; obtain ⟨v23, e_v23, hf⟩ := hf
    refine sx_ald hm dX1_slotOfFrame_47 e_v23 ?_
    clear e_v23
    replace hf := mx_sv_el hf; obtain ⟨v24, e_v24, hf⟩ := hf
    refine sx_ald hm dX1_slotOfFrame_48 e_v24 ?_
    clear e_v24
    refine mx_S.pu (pc2 := 50) (lv2 := [(0, .ref l0), (1, .int l1), (2, .int l2)]) (st2 := [.int l1, .int v24]) hm dX1_slotOfFrame_49 rfl ?_
    rcases mx_if_el hf with ⟨c28, hf⟩ | ⟨c28, hf⟩
    · refine sb_ic_ne hm dX1_slotOfFrame_50 (tgt := 62) rfl (fun _ => ?_) (fun z => absurd c28 z)
      exact j_X1_slotOfFrame_62_ok X hF hL nn l0 l1 l2 h hf
    · refine sb_ic_ne hm dX1_slotOfFrame_50 (tgt := 62) rfl (fun z => absurd z c28) (fun _ => ?_)
      refine mx_S.pu (pc2 := 54) (lv2 := [(0, .ref l0), (1, .int l1), (2, .int l2)]) (st2 := [.ref l0]) hm dX1_slotOfFrame_53 rfl ?_
      replace hf := mx_sv_el hf; obtain ⟨v25, e_v25, hf⟩ := hf
      refine sx_get hm dX1_slotOfFrame_54 rs_RX1_36 (xgr_el e_v25) ?_
      clear e_v25
      refine mx_S.pu (pc2 := 58) (lv2 := [(0, .ref l0), (1, .int l1), (2, .int l2)]) (st2 := [.int l2, .ref v25]) hm dX1_slotOfFrame_57 rfl ?_
      refine sx_ic (v := 1) hm dX1_slotOfFrame_58 (by decide) ?_
      replace hf := xl_el hf; obtain ⟨v26, e_v26, hf⟩ := hf
      refine mx_S.pu (pc2 := 60) (lv2 := [(0, .ref l0), (1, .int l1), (2, .int l2)]) (st2 := [.int v26, .ref v25]) hm dX1_slotOfFrame_59 (by rw [← e_v26]; rfl) ?_
      clear e_v26
      replace hf := mx_sv_el hf; obtain ⟨v27, e_v27, hf⟩ := hf
      refine sx_ald hm dX1_slotOfFrame_60 e_v27 ?_
      clear e_v27
      cases hf
      exact sx_ire hm dX1_slotOfFrame_61 rfl rfl
set_option maxHeartbeats 4000000 in
set_option maxRecDepth 20000 in
theorem w_X1_slotOfFrame_5_ok (X : Nat × (Nat → Int32)) {F L : Nat} (hF : 1 ≤ F) (hL : 60 ≤ L) (nn : Nat) : ∀ (k : Nat) (l0 : Nat) (l1 : Int32) (l2 : Int32) (h : mx_H) (r : (Int32 × mx_H)), w_X1_slotOfFrame_5 nn k l0 l1 l2 h = some r → mx_S X F L 42 5 [(0, .ref l0), (1, .int l1), (2, .int l2)] [] h 0 0 (some (.int r.1), r.2, 0, 0) := by
  have hm : mx_mt 42 = some (yX1_slotOfFrame, cX1_slotOfFrame, 3, (some .int)) := mt_X1_slotOfFrame
  intro k
  induction k with
  | zero => intro l0 l1 l2 h r hf; cases hf
  | succ k ih =>
    intro l0 l1 l2 h r hf
    unfold w_X1_slotOfFrame_5 at hf
    refine mx_S.pu (pc2 := 6) (lv2 := [(0, .ref l0), (1, .int l1), (2, .int l2)]) (st2 := [.int l2]) hm dX1_slotOfFrame_5 rfl ?_
    rcases mx_if_el hf with ⟨c37, hf⟩ | ⟨c37, hf⟩
    · refine sb_if_le hm dX1_slotOfFrame_6 (tgt := 32) rfl (fun _ => ?_) (fun z => absurd c37 z)
      exact j_X1_slotOfFrame_32_ok X hF hL nn l0 l1 l2 h hf
    · refine sb_if_le hm dX1_slotOfFrame_6 (tgt := 32) rfl (fun z => absurd z c37) (fun _ => ?_)
      refine mx_S.pu (pc2 := 10) (lv2 := [(0, .ref l0), (1, .int l1), (2, .int l2)]) (st2 := [.ref l0]) hm dX1_slotOfFrame_9 rfl ?_
      replace hf := mx_sv_el hf; obtain ⟨v30, e_v30, hf⟩ := hf
      refine sx_get hm dX1_slotOfFrame_10 rs_RX1_30 (xgr_el e_v30) ?_
      clear e_v30
      refine mx_S.pu (pc2 := 14) (lv2 := [(0, .ref l0), (1, .int l1), (2, .int l2)]) (st2 := [.ref l0, .ref v30]) hm dX1_slotOfFrame_13 rfl ?_
      replace hf := mx_sv_el hf; obtain ⟨v31, e_v31, hf⟩ := hf
      refine sx_get hm dX1_slotOfFrame_14 rs_RX1_36 (xgr_el e_v31) ?_
      clear e_v31
      refine mx_S.pu (pc2 := 18) (lv2 := [(0, .ref l0), (1, .int l1), (2, .int l2)]) (st2 := [.int l2, .ref v31, .ref v30]) hm dX1_slotOfFrame_17 rfl ?_
      refine sx_ic (v := 1) hm dX1_slotOfFrame_18 (by decide) ?_
      replace hf := xl_el hf; obtain ⟨v32, e_v32, hf⟩ := hf
      refine mx_S.pu (pc2 := 20) (lv2 := [(0, .ref l0), (1, .int l1), (2, .int l2)]) (st2 := [.int v32, .ref v31, .ref v30]) hm dX1_slotOfFrame_19 (by rw [← e_v32]; rfl) ?_
      clear e_v32
      replace hf := mx_sv_el hf; obtain ⟨v33, e_v33, hf⟩ := hf
      refine sx_ald hm dX1_slotOfFrame_20 e_v33 ?_
      clear e_v33
      replace hf := mx_sv_el hf; obtain ⟨v34, e_v34, hf⟩ := hf
      refine sx_ald hm dX1_slotOfFrame_21 e_v34 ?_
      clear e_v34
      refine mx_S.pu (pc2 := 23) (lv2 := [(0, .ref l0), (1, .int l1), (2, .int l2)]) (st2 := [.int l1, .int v34]) hm dX1_slotOfFrame_22 rfl ?_
      rcases mx_if_el hf with ⟨c36, hf⟩ | ⟨c36, hf⟩
      · refine sb_ic_le hm dX1_slotOfFrame_23 (tgt := 32) rfl (fun _ => ?_) (fun z => absurd c36 z)
        exact j_X1_slotOfFrame_32_ok X hF hL nn l0 l1 l2 h hf
      · refine sb_ic_le hm dX1_slotOfFrame_23 (tgt := 32) rfl (fun z => absurd z c36) (fun _ => ?_)
        replace hf := xl_el hf; obtain ⟨v35, e_v35, hf⟩ := hf
        refine mx_S.pu (pc2 := 29) (lv2 := [(2, .int v35), (0, .ref l0), (1, .int l1)]) (st2 := []) hm dX1_slotOfFrame_26 (by rw [← e_v35]; rfl) ?_
        clear e_v35
        refine mx_S.pu (pc2 := 5) (lv2 := [(2, .int v35), (0, .ref l0), (1, .int l1)]) (st2 := []) hm dX1_slotOfFrame_29 rfl ?_
        refine mx_S.ext [(0, .ref l0), (1, .int l1), (2, .int v35)] (mx_sub_pos [1, 2, 0] rfl (show ([2, 0, 1] : List Nat).Nodup by decide)) ?_
        exact ih l0 l1 v35 h _ hf
set_option maxHeartbeats 4000000 in
set_option maxRecDepth 20000 in
theorem f_X1_slotOfFrame_ok (X : Nat × (Nat → Int32)) {F L : Nat} (hF : 1 ≤ F) (hL : 60 ≤ L) (nn : Nat) (a0 : Nat) (a1 : Int32) (h : mx_H) {r : (Int32 × mx_H)} (hf : f_X1_slotOfFrame nn a0 a1 h = some r) : mx_R X F L 42 [.ref a0, .int a1] h (some (.int r.1), r.2, 0, 0) := by
  have hm : mx_mt 42 = some (yX1_slotOfFrame, cX1_slotOfFrame, 3, (some .int)) := mt_X1_slotOfFrame
  show mx_S X F L 42 0 [(0, .ref a0), (1, .int a1)] [] h 0 0 (some (.int r.1), r.2, 0, 0)
  unfold f_X1_slotOfFrame at hf
  refine mx_S.pu (pc2 := 1) (lv2 := [(0, .ref a0), (1, .int a1)]) (st2 := [.ref a0]) hm dX1_slotOfFrame_0 rfl ?_
  replace hf := mx_sv_el hf; obtain ⟨v38, e_v38, hf⟩ := hf
  refine sx_get hm dX1_slotOfFrame_1 rs_RX1_58 (xgi_el e_v38) ?_
  clear e_v38
  refine mx_S.pu (pc2 := 5) (lv2 := [(2, .int v38), (0, .ref a0), (1, .int a1)]) (st2 := []) hm dX1_slotOfFrame_4 rfl ?_
  refine mx_S.ext [(0, .ref a0), (1, .int a1), (2, .int v38)] (mx_sub_pos [1, 2, 0] rfl (show ([2, 0, 1] : List Nat).Nodup by decide)) ?_
  exact w_X1_slotOfFrame_5_ok X hF hL nn nn a0 a1 v38 h _ hf
set_option maxHeartbeats 4000000 in
set_option maxRecDepth 20000 in
theorem f_X1_aimHere_ok (X : Nat × (Nat → Int32)) {F L : Nat} (hF : 2 ≤ F) (hL : 84 ≤ L) (nn : Nat) (a0 : Nat) (a1 : Int32) (h : mx_H) {r : mx_H} (hf : f_X1_aimHere nn a0 a1 h = some r) : mx_R X F L 37 [.ref a0, .int a1] h (none, r, 0, 0) := by
  have hm : mx_mt 37 = some (yX1_aimHere, cX1_aimHere, 2, none) := mt_X1_aimHere
  show mx_S X F L 37 0 [(0, .ref a0), (1, .int a1)] [] h 0 0 (none, r, 0, 0)
  unfold f_X1_aimHere at hf
  refine mx_S.pu (pc2 := 1) (lv2 := [(0, .ref a0), (1, .int a1)]) (st2 := [.ref a0]) hm dX1_aimHere_0 rfl ?_
  refine mx_S.pu (pc2 := 2) (lv2 := [(0, .ref a0), (1, .int a1)]) (st2 := [.int a1, .ref a0]) hm dX1_aimHere_1 rfl ?_
  refine mx_S.pu (pc2 := 3) (lv2 := [(0, .ref a0), (1, .int a1)]) (st2 := [.ref a0, .int a1, .ref a0]) hm dX1_aimHere_2 rfl ?_
  replace hf := mx_sv_el hf; obtain ⟨v1, e_v1, hf⟩ := hf
  refine sx_get hm dX1_aimHere_3 rs_RX1_39 (xgi_el e_v1) ?_
  clear e_v1
  replace hf := mx_gd_el hf; obtain ⟨c2, hf⟩ := hf
  replace hf := mx_sv_el hf; obtain ⟨u3, e_u3, hf⟩ := hf
  refine sx_cv hm dX1_aimHere_6 rs_RX1_93 mt_X1_aimAt [.int a1, .int v1] [] (b := a0) (ci := 1) rfl rfl rfl c2 (Nat.le_of_ble_eq_true rfl) (Nat.le_of_ble_eq_true rfl) (by omega) (by omega) (f_X1_aimAt_ok X (by omega) (by omega) nn a0 a1 v1 h e_u3) ?_
  clear e_u3
  show mx_S X F L 37 9 [(0, .ref a0), (1, .int a1)] [] u3 0 0 (none, r, 0, 0)
  refine mx_S.pu (pc2 := 10) (lv2 := [(0, .ref a0), (1, .int a1)]) (st2 := [.ref a0]) hm dX1_aimHere_9 rfl ?_
  refine mx_S.pu (pc2 := 11) (lv2 := [(0, .ref a0), (1, .int a1)]) (st2 := [.ref a0, .ref a0]) hm dX1_aimHere_10 rfl ?_
  refine mx_S.pu (pc2 := 12) (lv2 := [(0, .ref a0), (1, .int a1)]) (st2 := [.ref a0, .ref a0, .ref a0]) hm dX1_aimHere_11 rfl ?_
  replace hf := mx_sv_el hf; obtain ⟨v4, e_v4, hf⟩ := hf
  refine sx_get hm dX1_aimHere_12 rs_RX1_39 (xgi_el e_v4) ?_
  clear e_v4
  replace hf := mx_gd_el hf; obtain ⟨c5, hf⟩ := hf
  replace hf := mx_sv_el hf; obtain ⟨u6, e_u6, hf⟩ := hf
  refine sx_cv hm dX1_aimHere_15 rs_RX1_96 mt_X1_slotOfFrame [.int v4] [.ref a0] (b := a0) (ci := 1) rfl rfl rfl c5 (Nat.le_of_ble_eq_true rfl) (Nat.le_of_ble_eq_true rfl) (by omega) (by omega) (f_X1_slotOfFrame_ok X (by omega) (by omega) nn a0 v4 u3 e_u6) ?_
  clear e_u6
  show mx_S X F L 37 18 [(0, .ref a0), (1, .int a1)] [.int u6.1, .ref a0] u6.2 0 0 (none, r, 0, 0)
  refine mx_S.pu (pc2 := 19) (lv2 := [(0, .ref a0), (1, .int a1)]) (st2 := [.ref a0, .int u6.1, .ref a0]) hm dX1_aimHere_18 rfl ?_
  replace hf := mx_sv_el hf; obtain ⟨v7, e_v7, hf⟩ := hf
  refine sx_get hm dX1_aimHere_19 rs_RX1_49 (xgi_el e_v7) ?_
  clear e_v7
  refine mx_S.pu (pc2 := 23) (lv2 := [(0, .ref a0), (1, .int a1)]) (st2 := [.ref a0, .int v7, .int u6.1, .ref a0]) hm dX1_aimHere_22 rfl ?_
  replace hf := mx_sv_el hf; obtain ⟨v8, e_v8, hf⟩ := hf
  refine sx_get hm dX1_aimHere_23 rs_RX1_43 (xgi_el e_v8) ?_
  clear e_v8
  replace hf := mx_gd_el hf; obtain ⟨c9, hf⟩ := hf
  replace hf := mx_sv_el hf; obtain ⟨u10, e_u10, hf⟩ := hf
  refine sx_cv hm dX1_aimHere_26 rs_RX1_100 mt_X1_fillFrame [.int u6.1, .int v7, .int v8] [] (b := a0) (ci := 1) rfl rfl rfl c9 (Nat.le_of_ble_eq_true rfl) (Nat.le_of_ble_eq_true rfl) (by omega) (by omega) (f_X1_fillFrame_ok X (by omega) (by omega) nn a0 u6.1 v7 v8 u6.2 e_u10) ?_
  clear e_u10
  show mx_S X F L 37 29 [(0, .ref a0), (1, .int a1)] [] u10 0 0 (none, r, 0, 0)
  cases hf
  exact sx_ret hm dX1_aimHere_29 rfl
set_option maxHeartbeats 4000000 in
set_option maxRecDepth 20000 in
theorem j_X1_op_23_ok (X : Nat × (Nat → Int32)) {F L : Nat} (hF : 0 ≤ F) (hL : 0 ≤ L) (nn : Nat) (l0 : Nat) (h : mx_H) {r : mx_H} (hf : j_X1_op_23 nn l0 h = some r) : mx_S X F L 27 23 [(0, .ref l0)] [] h 0 0 (none, r, 0, 0) := by
  have hm : mx_mt 27 = some (yX1_op, cX1_op, 2, none) := mt_X1_op
  unfold j_X1_op_23 at hf
  refine mx_S.pu (pc2 := 24) (lv2 := [(0, .ref l0)]) (st2 := [.ref l0]) hm dX1_op_23 rfl ?_
  refine mx_S.pu (pc2 := 25) (lv2 := [(0, .ref l0)]) (st2 := [.ref l0, .ref l0]) hm dX1_op_24 rfl ?_
  replace hf := mx_sv_el hf; obtain ⟨v1, e_v1, hf⟩ := hf
  refine sx_get hm dX1_op_25 rs_RX1_39 (xgi_el e_v1) ?_
  clear e_v1
  refine sx_ic (v := 1) hm dX1_op_28 (by decide) ?_
  replace hf := xl_el hf; obtain ⟨v2, e_v2, hf⟩ := hf
  refine mx_S.pu (pc2 := 30) (lv2 := [(0, .ref l0)]) (st2 := [.int v2, .ref l0]) hm dX1_op_29 (by rw [← e_v2]; rfl) ?_
  clear e_v2
  replace hf := mx_sv_el hf; obtain ⟨h3, e_h3, hf⟩ := hf
  refine sx_put hm dX1_op_30 rs_RX1_39 ft_1_1 ⟨rfl, rfl⟩ (fun z => by cases z) e_h3 ?_
  clear e_h3
  cases hf
  exact sx_ret hm dX1_op_33 rfl
set_option maxHeartbeats 4000000 in
set_option maxRecDepth 20000 in
theorem f_X1_op_ok (X : Nat × (Nat → Int32)) {F L : Nat} (hF : 0 ≤ F) (hL : 0 ≤ L) (nn : Nat) (a0 : Nat) (a1 : Int32) (h : mx_H) {r : mx_H} (hf : f_X1_op nn a0 a1 h = some r) : mx_R X F L 27 [.ref a0, .int a1] h (none, r, 0, 0) := by
  have hm : mx_mt 27 = some (yX1_op, cX1_op, 2, none) := mt_X1_op
  show mx_S X F L 27 0 [(0, .ref a0), (1, .int a1)] [] h 0 0 (none, r, 0, 0)
  unfold f_X1_op at hf
  refine mx_S.pu (pc2 := 1) (lv2 := [(0, .ref a0), (1, .int a1)]) (st2 := [.ref a0]) hm dX1_op_0 rfl ?_
  replace hf := mx_sv_el hf; obtain ⟨v4, e_v4, hf⟩ := hf
  refine sx_get hm dX1_op_1 rs_RX1_39 (xgi_el e_v4) ?_
  clear e_v4
  refine mx_S.pu (pc2 := 5) (lv2 := [(0, .ref a0), (1, .int a1)]) (st2 := [.ref a0, .int v4]) hm dX1_op_4 rfl ?_
  replace hf := mx_sv_el hf; obtain ⟨v5, e_v5, hf⟩ := hf
  refine sx_get hm dX1_op_5 rs_RX1_13 (xgr_el e_v5) ?_
  clear e_v5
  replace hf := mx_sv_el hf; obtain ⟨v6, e_v6, hf⟩ := hf
  refine sx_len hm dX1_op_8 e_v6 ?_
  clear e_v6
  rcases mx_if_el hf with ⟨c11, hf⟩ | ⟨c11, hf⟩
  · refine sb_ic_ge hm dX1_op_9 (tgt := 23) rfl (fun _ => ?_) (fun z => absurd c11 z)
    refine mx_S.ext [(0, .ref a0)] (mx_sub_pos [0] rfl (show ([0, 1] : List Nat).Nodup by decide)) ?_
    exact j_X1_op_23_ok X hF hL nn a0 h hf
  · refine sb_ic_ge hm dX1_op_9 (tgt := 23) rfl (fun z => absurd z c11) (fun _ => ?_)
    refine mx_S.pu (pc2 := 13) (lv2 := [(0, .ref a0), (1, .int a1)]) (st2 := [.ref a0]) hm dX1_op_12 rfl ?_
    replace hf := mx_sv_el hf; obtain ⟨v7, e_v7, hf⟩ := hf
    refine sx_get hm dX1_op_13 rs_RX1_13 (xgr_el e_v7) ?_
    clear e_v7
    refine mx_S.pu (pc2 := 17) (lv2 := [(0, .ref a0), (1, .int a1)]) (st2 := [.ref a0, .ref v7]) hm dX1_op_16 rfl ?_
    replace hf := mx_sv_el hf; obtain ⟨v8, e_v8, hf⟩ := hf
    refine sx_get hm dX1_op_17 rs_RX1_39 (xgi_el e_v8) ?_
    clear e_v8
    refine mx_S.pu (pc2 := 21) (lv2 := [(0, .ref a0), (1, .int a1)]) (st2 := [.int a1, .int v8, .ref v7]) hm dX1_op_20 rfl ?_
    replace hf := xl_el hf; obtain ⟨v9, e_v9, hf⟩ := hf
    refine mx_S.pu (pc2 := 22) (lv2 := [(0, .ref a0), (1, .int a1)]) (st2 := [.int v9, .int v8, .ref v7]) hm dX1_op_21 (by rw [← e_v9]; rfl) ?_
    clear e_v9
    replace hf := mx_sv_el hf; obtain ⟨h10, e_h10, hf⟩ := hf
    refine sx_bst hm dX1_op_22 e_h10 ?_
    clear e_h10
    refine mx_S.ext [(0, .ref a0)] (mx_sub_pos [0] rfl (show ([0, 1] : List Nat).Nodup by decide)) ?_
    exact j_X1_op_23_ok X hF hL nn a0 h10 hf
set_option maxHeartbeats 4000000 in
set_option maxRecDepth 20000 in
theorem f_X1_pop_ok (X : Nat × (Nat → Int32)) {F L : Nat} (hF : 1 ≤ F) (hL : 60 ≤ L) (nn : Nat) (a0 : Nat) (a1 : Int32) (h : mx_H) {r : mx_H} (hf : f_X1_pop nn a0 a1 h = some r) : mx_R X F L 30 [.ref a0, .int a1] h (none, r, 0, 0) := by
  have hm : mx_mt 30 = some (yX1_pop, cX1_pop, 2, none) := mt_X1_pop
  show mx_S X F L 30 0 [(0, .ref a0), (1, .int a1)] [] h 0 0 (none, r, 0, 0)
  unfold f_X1_pop at hf
  refine mx_S.pu (pc2 := 1) (lv2 := [(0, .ref a0), (1, .int a1)]) (st2 := [.ref a0]) hm dX1_pop_0 rfl ?_
  refine sx_ic (v := 0) hm dX1_pop_1 (by decide) ?_
  refine mx_S.pu (pc2 := 3) (lv2 := [(0, .ref a0), (1, .int a1)]) (st2 := [.ref a0, .int 0, .ref a0]) hm dX1_pop_2 rfl ?_
  replace hf := mx_sv_el hf; obtain ⟨v1, e_v1, hf⟩ := hf
  refine sx_get hm dX1_pop_3 rs_RX1_43 (xgi_el e_v1) ?_
  clear e_v1
  refine mx_S.pu (pc2 := 7) (lv2 := [(0, .ref a0), (1, .int a1)]) (st2 := [.int a1, .int v1, .int 0, .ref a0]) hm dX1_pop_6 rfl ?_
  replace hf := xl_el hf; obtain ⟨v2, e_v2, hf⟩ := hf
  refine mx_S.pu (pc2 := 8) (lv2 := [(0, .ref a0), (1, .int a1)]) (st2 := [.int v2, .int 0, .ref a0]) hm dX1_pop_7 (by rw [← e_v2]; rfl) ?_
  clear e_v2
  replace hf := xl_el hf; obtain ⟨v3, e_v3, hf⟩ := hf
  refine sx_max hm dX1_pop_8 rs_RX1_69 (by omega) (Nat.le_trans (Nat.le_of_ble_eq_true rfl : _ ≤ 60) (by omega)) ?_
  rw [e_v3]
  clear e_v3
  replace hf := mx_sv_el hf; obtain ⟨h4, e_h4, hf⟩ := hf
  refine sx_put hm dX1_pop_11 rs_RX1_43 ft_1_3 ⟨rfl, rfl⟩ (fun z => by cases z) e_h4 ?_
  clear e_h4
  cases hf
  exact sx_ret hm dX1_pop_14 rfl
set_option maxHeartbeats 4000000 in
set_option maxRecDepth 20000 in
theorem f_X1_jump_ok (X : Nat × (Nat → Int32)) {F L : Nat} (hF : 2 ≤ F) (hL : 81 ≤ L) (nn : Nat) (a0 : Nat) (a1 : Int32) (a2 : Int32) (h : mx_H) {r : (Int32 × mx_H)} (hf : f_X1_jump nn a0 a1 a2 h = some r) : mx_R X F L 35 [.ref a0, .int a1, .int a2] h (some (.int r.1), r.2, 0, 0) := by
  have hm : mx_mt 35 = some (yX1_jump, cX1_jump, 4, (some .int)) := mt_X1_jump
  show mx_S X F L 35 0 [(0, .ref a0), (1, .int a1), (2, .int a2)] [] h 0 0 (some (.int r.1), r.2, 0, 0)
  unfold f_X1_jump at hf
  refine mx_S.pu (pc2 := 1) (lv2 := [(0, .ref a0), (1, .int a1), (2, .int a2)]) (st2 := [.ref a0]) hm dX1_jump_0 rfl ?_
  replace hf := mx_sv_el hf; obtain ⟨v1, e_v1, hf⟩ := hf
  refine sx_get hm dX1_jump_1 rs_RX1_39 (xgi_el e_v1) ?_
  clear e_v1
  refine mx_S.pu (pc2 := 5) (lv2 := [(3, .int v1), (0, .ref a0), (1, .int a1), (2, .int a2)]) (st2 := []) hm dX1_jump_4 rfl ?_
  refine mx_S.pu (pc2 := 6) (lv2 := [(3, .int v1), (0, .ref a0), (1, .int a1), (2, .int a2)]) (st2 := [.ref a0]) hm dX1_jump_5 rfl ?_
  refine mx_S.pu (pc2 := 7) (lv2 := [(3, .int v1), (0, .ref a0), (1, .int a1), (2, .int a2)]) (st2 := [.int a2, .ref a0]) hm dX1_jump_6 rfl ?_
  replace hf := mx_gd_el hf; obtain ⟨c2, hf⟩ := hf
  replace hf := mx_sv_el hf; obtain ⟨u3, e_u3, hf⟩ := hf
  refine sx_cv hm dX1_jump_7 rs_RX1_87 mt_X1_pop [.int a2] [] (b := a0) (ci := 1) rfl rfl rfl c2 (Nat.le_of_ble_eq_true rfl) (Nat.le_of_ble_eq_true rfl) (by omega) (by omega) (f_X1_pop_ok X (by omega) (by omega) nn a0 a2 h e_u3) ?_
  clear e_u3
  show mx_S X F L 35 10 [(3, .int v1), (0, .ref a0), (1, .int a1), (2, .int a2)] [] u3 0 0 (some (.int r.1), r.2, 0, 0)
  refine mx_S.pu (pc2 := 11) (lv2 := [(3, .int v1), (0, .ref a0), (1, .int a1), (2, .int a2)]) (st2 := [.ref a0]) hm dX1_jump_10 rfl ?_
  refine mx_S.pu (pc2 := 12) (lv2 := [(3, .int v1), (0, .ref a0), (1, .int a1), (2, .int a2)]) (st2 := [.int a1, .ref a0]) hm dX1_jump_11 rfl ?_
  replace hf := mx_gd_el hf; obtain ⟨c4, hf⟩ := hf
  replace hf := mx_sv_el hf; obtain ⟨u5, e_u5, hf⟩ := hf
  refine sx_cv hm dX1_jump_12 rs_RX1_65 mt_X1_op [.int a1] [] (b := a0) (ci := 1) rfl rfl rfl c4 (Nat.le_of_ble_eq_true rfl) (Nat.le_of_ble_eq_true rfl) (by omega) (by omega) (f_X1_op_ok X (by omega) (by omega) nn a0 a1 u3 e_u5) ?_
  clear e_u5
  show mx_S X F L 35 15 [(3, .int v1), (0, .ref a0), (1, .int a1), (2, .int a2)] [] u5 0 0 (some (.int r.1), r.2, 0, 0)
  refine mx_S.pu (pc2 := 16) (lv2 := [(3, .int v1), (0, .ref a0), (1, .int a1), (2, .int a2)]) (st2 := [.ref a0]) hm dX1_jump_15 rfl ?_
  refine sx_ic (v := 0) hm dX1_jump_16 (by decide) ?_
  replace hf := mx_gd_el hf; obtain ⟨c6, hf⟩ := hf
  replace hf := mx_sv_el hf; obtain ⟨u7, e_u7, hf⟩ := hf
  refine sx_cv hm dX1_jump_17 rs_RX1_65 mt_X1_op [.int 0] [] (b := a0) (ci := 1) rfl rfl rfl c6 (Nat.le_of_ble_eq_true rfl) (Nat.le_of_ble_eq_true rfl) (by omega) (by omega) (f_X1_op_ok X (by omega) (by omega) nn a0 0 u5 e_u7) ?_
  clear e_u7
  show mx_S X F L 35 20 [(3, .int v1), (0, .ref a0), (1, .int a1), (2, .int a2)] [] u7 0 0 (some (.int r.1), r.2, 0, 0)
  refine mx_S.pu (pc2 := 21) (lv2 := [(3, .int v1), (0, .ref a0), (1, .int a1), (2, .int a2)]) (st2 := [.ref a0]) hm dX1_jump_20 rfl ?_
  refine sx_ic (v := 0) hm dX1_jump_21 (by decide) ?_
  replace hf := mx_gd_el hf; obtain ⟨c8, hf⟩ := hf
  replace hf := mx_sv_el hf; obtain ⟨u9, e_u9, hf⟩ := hf
  refine sx_cv hm dX1_jump_22 rs_RX1_65 mt_X1_op [.int 0] [] (b := a0) (ci := 1) rfl rfl rfl c8 (Nat.le_of_ble_eq_true rfl) (Nat.le_of_ble_eq_true rfl) (by omega) (by omega) (f_X1_op_ok X (by omega) (by omega) nn a0 0 u7 e_u9) ?_
  clear e_u9
  show mx_S X F L 35 25 [(3, .int v1), (0, .ref a0), (1, .int a1), (2, .int a2)] [] u9 0 0 (some (.int r.1), r.2, 0, 0)
  refine mx_S.pu (pc2 := 26) (lv2 := [(3, .int v1), (0, .ref a0), (1, .int a1), (2, .int a2)]) (st2 := [.int v1]) hm dX1_jump_25 rfl ?_
  cases hf
  exact sx_ire hm dX1_jump_26 rfl rfl
set_option maxHeartbeats 4000000 in
set_option maxRecDepth 20000 in
theorem j_X1_push_22_ok (X : Nat × (Nat → Int32)) {F L : Nat} (hF : 1 ≤ F) (hL : 60 ≤ L) (nn : Nat) (l0 : Nat) (h : mx_H) {r : mx_H} (hf : j_X1_push_22 nn l0 h = some r) : mx_S X F L 29 22 [(0, .ref l0)] [] h 0 0 (none, r, 0, 0) := by
  have hm : mx_mt 29 = some (yX1_push, cX1_push, 2, none) := mt_X1_push
  unfold j_X1_push_22 at hf
  refine mx_S.pu (pc2 := 23) (lv2 := [(0, .ref l0)]) (st2 := [.ref l0]) hm dX1_push_22 rfl ?_
  refine mx_S.pu (pc2 := 24) (lv2 := [(0, .ref l0)]) (st2 := [.ref l0, .ref l0]) hm dX1_push_23 rfl ?_
  replace hf := mx_sv_el hf; obtain ⟨v1, e_v1, hf⟩ := hf
  refine sx_get hm dX1_push_24 rs_RX1_43 (xgi_el e_v1) ?_
  clear e_v1
  refine sx_ic (v := 1) hm dX1_push_27 (by decide) ?_
  replace hf := xl_el hf; obtain ⟨v2, e_v2, hf⟩ := hf
  refine mx_S.pu (pc2 := 29) (lv2 := [(0, .ref l0)]) (st2 := [.int v2, .ref l0]) hm dX1_push_28 (by rw [← e_v2]; rfl) ?_
  clear e_v2
  replace hf := mx_sv_el hf; obtain ⟨h3, e_h3, hf⟩ := hf
  refine sx_put hm dX1_push_29 rs_RX1_43 ft_1_3 ⟨rfl, rfl⟩ (fun z => by cases z) e_h3 ?_
  clear e_h3
  refine mx_S.pu (pc2 := 33) (lv2 := [(0, .ref l0)]) (st2 := [.ref l0]) hm dX1_push_32 rfl ?_
  refine mx_S.pu (pc2 := 34) (lv2 := [(0, .ref l0)]) (st2 := [.ref l0, .ref l0]) hm dX1_push_33 rfl ?_
  replace hf := mx_sv_el hf; obtain ⟨v4, e_v4, hf⟩ := hf
  refine sx_get hm dX1_push_34 rs_RX1_46 (xgi_el e_v4) ?_
  clear e_v4
  refine mx_S.pu (pc2 := 38) (lv2 := [(0, .ref l0)]) (st2 := [.ref l0, .int v4, .ref l0]) hm dX1_push_37 rfl ?_
  replace hf := mx_sv_el hf; obtain ⟨v5, e_v5, hf⟩ := hf
  refine sx_get hm dX1_push_38 rs_RX1_43 (xgi_el e_v5) ?_
  clear e_v5
  replace hf := xl_el hf; obtain ⟨v6, e_v6, hf⟩ := hf
  refine sx_max hm dX1_push_41 rs_RX1_69 (by omega) (Nat.le_trans (Nat.le_of_ble_eq_true rfl : _ ≤ 60) (by omega)) ?_
  rw [e_v6]
  clear e_v6
  replace hf := mx_sv_el hf; obtain ⟨h7, e_h7, hf⟩ := hf
  refine sx_put hm dX1_push_44 rs_RX1_46 ft_1_4 ⟨rfl, rfl⟩ (fun z => by cases z) e_h7 ?_
  clear e_h7
  cases hf
  exact sx_ret hm dX1_push_47 rfl
set_option maxHeartbeats 4000000 in
set_option maxRecDepth 20000 in
theorem f_X1_push_ok (X : Nat × (Nat → Int32)) {F L : Nat} (hF : 1 ≤ F) (hL : 60 ≤ L) (nn : Nat) (a0 : Nat) (a1 : Int32) (h : mx_H) {r : mx_H} (hf : f_X1_push nn a0 a1 h = some r) : mx_R X F L 29 [.ref a0, .int a1] h (none, r, 0, 0) := by
  have hm : mx_mt 29 = some (yX1_push, cX1_push, 2, none) := mt_X1_push
  show mx_S X F L 29 0 [(0, .ref a0), (1, .int a1)] [] h 0 0 (none, r, 0, 0)
  unfold f_X1_push at hf
  refine mx_S.pu (pc2 := 1) (lv2 := [(0, .ref a0), (1, .int a1)]) (st2 := [.ref a0]) hm dX1_push_0 rfl ?_
  replace hf := mx_sv_el hf; obtain ⟨v8, e_v8, hf⟩ := hf
  refine sx_get hm dX1_push_1 rs_RX1_43 (xgi_el e_v8) ?_
  clear e_v8
  refine mx_S.pu (pc2 := 5) (lv2 := [(0, .ref a0), (1, .int a1)]) (st2 := [.ref a0, .int v8]) hm dX1_push_4 rfl ?_
  replace hf := mx_sv_el hf; obtain ⟨v9, e_v9, hf⟩ := hf
  refine sx_get hm dX1_push_5 rs_RX1_17 (xgr_el e_v9) ?_
  clear e_v9
  replace hf := mx_sv_el hf; obtain ⟨v10, e_v10, hf⟩ := hf
  refine sx_len hm dX1_push_8 e_v10 ?_
  clear e_v10
  rcases mx_if_el hf with ⟨c14, hf⟩ | ⟨c14, hf⟩
  · refine sb_ic_ge hm dX1_push_9 (tgt := 22) rfl (fun _ => ?_) (fun z => absurd c14 z)
    refine mx_S.ext [(0, .ref a0)] (mx_sub_pos [0] rfl (show ([0, 1] : List Nat).Nodup by decide)) ?_
    exact j_X1_push_22_ok X hF hL nn a0 h hf
  · refine sb_ic_ge hm dX1_push_9 (tgt := 22) rfl (fun z => absurd z c14) (fun _ => ?_)
    refine mx_S.pu (pc2 := 13) (lv2 := [(0, .ref a0), (1, .int a1)]) (st2 := [.ref a0]) hm dX1_push_12 rfl ?_
    replace hf := mx_sv_el hf; obtain ⟨v11, e_v11, hf⟩ := hf
    refine sx_get hm dX1_push_13 rs_RX1_17 (xgr_el e_v11) ?_
    clear e_v11
    refine mx_S.pu (pc2 := 17) (lv2 := [(0, .ref a0), (1, .int a1)]) (st2 := [.ref a0, .ref v11]) hm dX1_push_16 rfl ?_
    replace hf := mx_sv_el hf; obtain ⟨v12, e_v12, hf⟩ := hf
    refine sx_get hm dX1_push_17 rs_RX1_43 (xgi_el e_v12) ?_
    clear e_v12
    refine mx_S.pu (pc2 := 21) (lv2 := [(0, .ref a0), (1, .int a1)]) (st2 := [.int a1, .int v12, .ref v11]) hm dX1_push_20 rfl ?_
    replace hf := mx_sv_el hf; obtain ⟨h13, e_h13, hf⟩ := hf
    refine sx_ast hm dX1_push_21 e_h13 ?_
    clear e_h13
    refine mx_S.ext [(0, .ref a0)] (mx_sub_pos [0] rfl (show ([0, 1] : List Nat).Nodup by decide)) ?_
    exact j_X1_push_22_ok X hF hL nn a0 h13 hf
set_option maxHeartbeats 4000000 in
set_option maxRecDepth 20000 in
theorem j_X10_closeShort_66_ok (X : Nat × (Nat → Int32)) {F L : Nat} (hF : 3 ≤ F) (hL : 105 ≤ L) (nn : Nat) (l0 : Nat) (l3 : Int32) (s0 : Int32) (s1 : Nat) (h : mx_H) {r : mx_H} (hf : j_X10_closeShort_66 nn l0 l3 s0 s1 h = some r) : mx_S X F L 282 66 [(0, .ref l0), (3, .int l3)] [.int s0, .ref s1] h 0 0 (none, r, 0, 0) := by
  have hm : mx_mt 282 = some (yX10_closeShort, cX10_closeShort, 4, none) := mt_X10_closeShort
  unfold j_X10_closeShort_66 at hf
  replace hf := mx_gd_el hf; obtain ⟨c1, hf⟩ := hf
  replace hf := mx_sv_el hf; obtain ⟨u2, e_u2, hf⟩ := hf
  refine sx_cv hm dX10_closeShort_66 rs_RX10_162 mt_X1_op [.int s0] [] (b := s1) (ci := 1) rfl rfl rfl c1 (Nat.le_of_ble_eq_true rfl) (Nat.le_of_ble_eq_true rfl) (by omega) (by omega) (f_X1_op_ok X (by omega) (by omega) nn s1 s0 h e_u2) ?_
  clear e_u2
  show mx_S X F L 282 69 [(0, .ref l0), (3, .int l3)] [] u2 0 0 (none, r, 0, 0)
  refine mx_S.pu (pc2 := 70) (lv2 := [(0, .ref l0), (3, .int l3)]) (st2 := [.ref l0]) hm dX10_closeShort_69 rfl ?_
  replace hf := mx_sv_el hf; obtain ⟨v3, e_v3, hf⟩ := hf
  refine sx_get hm dX10_closeShort_70 rs_RX10_46 (xgr_el e_v3) ?_
  clear e_v3
  refine sx_si (v := 302) hm dX10_closeShort_73 (by decide) ?_
  replace hf := mx_gd_el hf; obtain ⟨c4, hf⟩ := hf
  replace hf := mx_sv_el hf; obtain ⟨u5, e_u5, hf⟩ := hf
  refine sx_cv hm dX10_closeShort_76 rs_RX10_130 mt_X1_push [.int 302] [] (b := v3) (ci := 1) rfl rfl rfl c4 (Nat.le_of_ble_eq_true rfl) (Nat.le_of_ble_eq_true rfl) (by omega) (by omega) (f_X1_push_ok X (by omega) (by omega) nn v3 302 u2 e_u5) ?_
  clear e_u5
  show mx_S X F L 282 79 [(0, .ref l0), (3, .int l3)] [] u5 0 0 (none, r, 0, 0)
  refine mx_S.pu (pc2 := 80) (lv2 := [(0, .ref l0), (3, .int l3)]) (st2 := [.ref l0]) hm dX10_closeShort_79 rfl ?_
  replace hf := mx_sv_el hf; obtain ⟨v6, e_v6, hf⟩ := hf
  refine sx_get hm dX10_closeShort_80 rs_RX10_46 (xgr_el e_v6) ?_
  clear e_v6
  refine mx_S.pu (pc2 := 84) (lv2 := [(0, .ref l0), (3, .int l3)]) (st2 := [.int l3, .ref v6]) hm dX10_closeShort_83 rfl ?_
  replace hf := mx_gd_el hf; obtain ⟨c7, hf⟩ := hf
  replace hf := mx_sv_el hf; obtain ⟨u8, e_u8, hf⟩ := hf
  refine sx_cv hm dX10_closeShort_84 rs_RX10_121 mt_X1_aimHere [.int l3] [] (b := v6) (ci := 1) rfl rfl rfl c7 (Nat.le_of_ble_eq_true rfl) (Nat.le_of_ble_eq_true rfl) (by omega) (by omega) (f_X1_aimHere_ok X (by omega) (by omega) nn v6 l3 u5 e_u8) ?_
  clear e_u8
  show mx_S X F L 282 87 [(0, .ref l0), (3, .int l3)] [] u8 0 0 (none, r, 0, 0)
  refine mx_S.pu (pc2 := 88) (lv2 := [(0, .ref l0), (3, .int l3)]) (st2 := [.ref l0]) hm dX10_closeShort_87 rfl ?_
  refine sx_si (v := 302) hm dX10_closeShort_88 (by decide) ?_
  replace hf := mx_sv_el hf; obtain ⟨h9, e_h9, hf⟩ := hf
  refine sx_put hm dX10_closeShort_91 rs_RX10_75 ft_10_12 ⟨rfl, rfl⟩ (fun z => by cases z) e_h9 ?_
  clear e_h9
  cases hf
  exact sx_ret hm dX10_closeShort_94 rfl
set_option maxHeartbeats 4000000 in
set_option maxRecDepth 20000 in
theorem j_X10_closeShort_16_ok (X : Nat × (Nat → Int32)) {F L : Nat} (hF : 3 ≤ F) (hL : 105 ≤ L) (nn : Nat) (l0 : Nat) (l1 : Int32) (l2 : Int32) (s0 : Int32) (s1 : Nat) (h : mx_H) {r : mx_H} (hf : j_X10_closeShort_16 nn l0 l1 l2 s0 s1 h = some r) : mx_S X F L 282 16 [(0, .ref l0), (1, .int l1), (2, .int l2)] [.int s0, .ref s1] h 0 0 (none, r, 0, 0) := by
  have hm : mx_mt 282 = some (yX10_closeShort, cX10_closeShort, 4, none) := mt_X10_closeShort
  unfold j_X10_closeShort_16 at hf
  refine mx_S.pu (pc2 := 17) (lv2 := [(0, .ref l0), (1, .int l1), (2, .int l2)]) (st2 := [.ref l0, .int s0, .ref s1]) hm dX10_closeShort_16 rfl ?_
  replace hf := mx_sv_el hf; obtain ⟨v10, e_v10, hf⟩ := hf
  refine sx_get hm dX10_closeShort_17 rs_RX10_146 (xgi_el e_v10) ?_
  clear e_v10
  replace hf := mx_gd_el hf; obtain ⟨c11, hf⟩ := hf
  replace hf := mx_sv_el hf; obtain ⟨u12, e_u12, hf⟩ := hf
  refine sx_cv hm dX10_closeShort_20 rs_RX10_80 mt_X10_wantType [.int s0, .int v10] [] (b := s1) (ci := 10) rfl rfl rfl c11 (Nat.le_of_ble_eq_true rfl) (Nat.le_of_ble_eq_true rfl) (by omega) (by omega) (f_X10_wantType_ok X (by omega) (by omega) nn s1 s0 v10 h e_u12) ?_
  clear e_u12
  show mx_S X F L 282 23 [(0, .ref l0), (1, .int l1), (2, .int l2)] [] u12 0 0 (none, r, 0, 0)
  refine mx_S.pu (pc2 := 24) (lv2 := [(0, .ref l0), (1, .int l1), (2, .int l2)]) (st2 := [.ref l0]) hm dX10_closeShort_23 rfl ?_
  replace hf := mx_sv_el hf; obtain ⟨v13, e_v13, hf⟩ := hf
  refine sx_get hm dX10_closeShort_24 rs_RX10_46 (xgr_el e_v13) ?_
  clear e_v13
  refine sx_si (v := 167) hm dX10_closeShort_27 (by decide) ?_
  refine sx_ic (v := 0) hm dX10_closeShort_30 (by decide) ?_
  replace hf := mx_gd_el hf; obtain ⟨c14, hf⟩ := hf
  replace hf := mx_sv_el hf; obtain ⟨u15, e_u15, hf⟩ := hf
  refine sx_cv hm dX10_closeShort_31 rs_RX10_86 mt_X1_jump [.int 167, .int 0] [] (b := v13) (ci := 1) rfl rfl rfl c14 (Nat.le_of_ble_eq_true rfl) (Nat.le_of_ble_eq_true rfl) (by omega) (by omega) (f_X1_jump_ok X (by omega) (by omega) nn v13 167 0 u12 e_u15) ?_
  clear e_u15
  show mx_S X F L 282 34 [(0, .ref l0), (1, .int l1), (2, .int l2)] [.int u15.1] u15.2 0 0 (none, r, 0, 0)
  refine mx_S.pu (pc2 := 35) (lv2 := [(3, .int u15.1), (0, .ref l0), (1, .int l1), (2, .int l2)]) (st2 := []) hm dX10_closeShort_34 rfl ?_
  refine mx_S.pu (pc2 := 36) (lv2 := [(3, .int u15.1), (0, .ref l0), (1, .int l1), (2, .int l2)]) (st2 := [.ref l0]) hm dX10_closeShort_35 rfl ?_
  replace hf := mx_sv_el hf; obtain ⟨v16, e_v16, hf⟩ := hf
  refine sx_get hm dX10_closeShort_36 rs_RX10_46 (xgr_el e_v16) ?_
  clear e_v16
  refine sx_ic (v := 1) hm dX10_closeShort_39 (by decide) ?_
  replace hf := mx_gd_el hf; obtain ⟨c17, hf⟩ := hf
  replace hf := mx_sv_el hf; obtain ⟨u18, e_u18, hf⟩ := hf
  refine sx_cv hm dX10_closeShort_40 rs_RX10_118 mt_X1_pop [.int 1] [] (b := v16) (ci := 1) rfl rfl rfl c17 (Nat.le_of_ble_eq_true rfl) (Nat.le_of_ble_eq_true rfl) (by omega) (by omega) (f_X1_pop_ok X (by omega) (by omega) nn v16 1 u15.2 e_u18) ?_
  clear e_u18
  show mx_S X F L 282 43 [(3, .int u15.1), (0, .ref l0), (1, .int l1), (2, .int l2)] [] u18 0 0 (none, r, 0, 0)
  refine mx_S.pu (pc2 := 44) (lv2 := [(3, .int u15.1), (0, .ref l0), (1, .int l1), (2, .int l2)]) (st2 := [.ref l0]) hm dX10_closeShort_43 rfl ?_
  replace hf := mx_sv_el hf; obtain ⟨v19, e_v19, hf⟩ := hf
  refine sx_get hm dX10_closeShort_44 rs_RX10_46 (xgr_el e_v19) ?_
  clear e_v19
  refine mx_S.pu (pc2 := 48) (lv2 := [(3, .int u15.1), (0, .ref l0), (1, .int l1), (2, .int l2)]) (st2 := [.int l2, .ref v19]) hm dX10_closeShort_47 rfl ?_
  replace hf := mx_gd_el hf; obtain ⟨c20, hf⟩ := hf
  replace hf := mx_sv_el hf; obtain ⟨u21, e_u21, hf⟩ := hf
  refine sx_cv hm dX10_closeShort_48 rs_RX10_121 mt_X1_aimHere [.int l2] [] (b := v19) (ci := 1) rfl rfl rfl c20 (Nat.le_of_ble_eq_true rfl) (Nat.le_of_ble_eq_true rfl) (by omega) (by omega) (f_X1_aimHere_ok X (by omega) (by omega) nn v19 l2 u18 e_u21) ?_
  clear e_u21
  show mx_S X F L 282 51 [(3, .int u15.1), (0, .ref l0), (1, .int l1), (2, .int l2)] [] u21 0 0 (none, r, 0, 0)
  refine mx_S.pu (pc2 := 52) (lv2 := [(3, .int u15.1), (0, .ref l0), (1, .int l1), (2, .int l2)]) (st2 := [.ref l0]) hm dX10_closeShort_51 rfl ?_
  replace hf := mx_sv_el hf; obtain ⟨v22, e_v22, hf⟩ := hf
  refine sx_get hm dX10_closeShort_52 rs_RX10_46 (xgr_el e_v22) ?_
  clear e_v22
  refine mx_S.pu (pc2 := 56) (lv2 := [(3, .int u15.1), (0, .ref l0), (1, .int l1), (2, .int l2)]) (st2 := [.int l1, .ref v22]) hm dX10_closeShort_55 rfl ?_
  refine sx_bi (v := 67) hm dX10_closeShort_56 (by decide) ?_
  rcases mx_if_el hf with ⟨c23, hf⟩ | ⟨c23, hf⟩
  · refine sb_ic_ne hm dX10_closeShort_58 (tgt := 65) rfl (fun _ => ?_) (fun z => absurd c23 z)
    refine sx_ic (v := 4) hm dX10_closeShort_65 (by decide) ?_
    refine mx_S.ext [(0, .ref l0), (3, .int u15.1)] (mx_sub_pos [1, 0] rfl (show ([3, 0, 1, 2] : List Nat).Nodup by decide)) ?_
    exact j_X10_closeShort_66_ok X hF hL nn l0 u15.1 4 v22 u21 hf
  · refine sb_ic_ne hm dX10_closeShort_58 (tgt := 65) rfl (fun z => absurd z c23) (fun _ => ?_)
    refine sx_ic (v := 3) hm dX10_closeShort_61 (by decide) ?_
    refine mx_S.pu (pc2 := 66) (lv2 := [(3, .int u15.1), (0, .ref l0), (1, .int l1), (2, .int l2)]) (st2 := [.int 3, .ref v22]) hm dX10_closeShort_62 rfl ?_
    refine mx_S.ext [(0, .ref l0), (3, .int u15.1)] (mx_sub_pos [1, 0] rfl (show ([3, 0, 1, 2] : List Nat).Nodup by decide)) ?_
    exact j_X10_closeShort_66_ok X hF hL nn l0 u15.1 3 v22 u21 hf
set_option maxHeartbeats 4000000 in
set_option maxRecDepth 20000 in
theorem f_X10_closeShort_ok (X : Nat × (Nat → Int32)) {F L : Nat} (hF : 3 ≤ F) (hL : 105 ≤ L) (nn : Nat) (a0 : Nat) (a1 : Int32) (a2 : Int32) (h : mx_H) {r : mx_H} (hf : f_X10_closeShort nn a0 a1 a2 h = some r) : mx_R X F L 282 [.ref a0, .int a1, .int a2] h (none, r, 0, 0) := by
  have hm : mx_mt 282 = some (yX10_closeShort, cX10_closeShort, 4, none) := mt_X10_closeShort
  show mx_S X F L 282 0 [(0, .ref a0), (1, .int a1), (2, .int a2)] [] h 0 0 (none, r, 0, 0)
  unfold f_X10_closeShort at hf
  refine mx_S.pu (pc2 := 1) (lv2 := [(0, .ref a0), (1, .int a1), (2, .int a2)]) (st2 := [.ref a0]) hm dX10_closeShort_0 rfl ?_
  refine mx_S.pu (pc2 := 2) (lv2 := [(0, .ref a0), (1, .int a1), (2, .int a2)]) (st2 := [.ref a0, .ref a0]) hm dX10_closeShort_1 rfl ?_
  replace hf := mx_sv_el hf; obtain ⟨v24, e_v24, hf⟩ := hf
  refine sx_get hm dX10_closeShort_2 rs_RX10_75 (xgi_el e_v24) ?_
  clear e_v24
  refine sx_si (v := 302) hm dX10_closeShort_5 (by decide) ?_
  rcases mx_if_el hf with ⟨c25, hf⟩ | ⟨c25, hf⟩
  · refine sb_ic_ne hm dX10_closeShort_8 (tgt := 15) rfl (fun _ => ?_) (fun z => absurd c25 z)
    refine sx_ic (v := 0) hm dX10_closeShort_15 (by decide) ?_
    exact j_X10_closeShort_16_ok X hF hL nn a0 a1 a2 0 a0 h hf
  · refine sb_ic_ne hm dX10_closeShort_8 (tgt := 15) rfl (fun z => absurd z c25) (fun _ => ?_)
    refine sx_ic (v := 1) hm dX10_closeShort_11 (by decide) ?_
    refine mx_S.pu (pc2 := 16) (lv2 := [(0, .ref a0), (1, .int a1), (2, .int a2)]) (st2 := [.int 1, .ref a0]) hm dX10_closeShort_12 rfl ?_
    exact j_X10_closeShort_16_ok X hF hL nn a0 a1 a2 1 a0 h hf
set_option maxHeartbeats 4000000 in
set_option maxRecDepth 20000 in
theorem j_X10_compareOp_80_ok (X : Nat × (Nat → Int32)) {F L : Nat} (hF : 0 ≤ F) (hL : 0 ≤ L) (nn : Nat) (h : mx_H) {r : (Int32 × mx_H)} (hf : j_X10_compareOp_80 nn h = some r) : mx_S X F L 283 80 [] [] h 0 0 (some (.int r.1), r.2, 0, 0) := by
  have hm : mx_mt 283 = some (yX10_compareOp, cX10_compareOp, 2, (some .int)) := mt_X10_compareOp
  unfold j_X10_compareOp_80 at hf
  refine sx_si (v := 164) hm dX10_compareOp_80 (by decide) ?_
  cases hf
  exact sx_ire hm dX10_compareOp_83 rfl rfl
set_option maxHeartbeats 4000000 in
set_option maxRecDepth 20000 in
theorem f_X10_compareOp_ok (X : Nat × (Nat → Int32)) {F L : Nat} (hF : 0 ≤ F) (hL : 0 ≤ L) (nn : Nat) (a0 : Int32) (a1 : Int32) (h : mx_H) {r : (Int32 × mx_H)} (hf : f_X10_compareOp nn a0 a1 h = some r) : mx_R X F L 283 [.int a0, .int a1] h (some (.int r.1), r.2, 0, 0) := by
  have hm : mx_mt 283 = some (yX10_compareOp, cX10_compareOp, 2, (some .int)) := mt_X10_compareOp
  show mx_S X F L 283 0 [(0, .int a0), (1, .int a1)] [] h 0 0 (some (.int r.1), r.2, 0, 0)
  unfold f_X10_compareOp at hf
  refine mx_S.pu (pc2 := 1) (lv2 := [(0, .int a0), (1, .int a1)]) (st2 := [.int a0]) hm dX10_compareOp_0 rfl ?_
  rcases mx_if_el hf with ⟨n_0, hf⟩ | ⟨n_0, hf⟩
  · refine sx_tin hm dX10_compareOp_1 (by rw [n_0]; decide) (by rw [n_0]; decide) (off := 39) (by rw [n_0]; rfl) (tgt := 40) rfl ?_
    clear n_0
    refine mx_S.pu (pc2 := 41) (lv2 := [(0, .int a0), (1, .int a1)]) (st2 := [.int a1]) hm dX10_compareOp_40 rfl ?_
    rcases mx_if_el hf with ⟨c1, hf⟩ | ⟨c1, hf⟩
    · refine sb_if_eq hm dX10_compareOp_41 (tgt := 50) rfl (fun _ => ?_) (fun z => absurd c1 z)
      refine sx_si (v := 165) hm dX10_compareOp_50 (by decide) ?_
      cases hf
      exact sx_ire hm dX10_compareOp_53 rfl rfl
    · refine sb_if_eq hm dX10_compareOp_41 (tgt := 50) rfl (fun z => absurd z c1) (fun _ => ?_)
      refine sx_si (v := 159) hm dX10_compareOp_44 (by decide) ?_
      refine mx_S.pu (pc2 := 53) (lv2 := [(0, .int a0), (1, .int a1)]) (st2 := [.int 159]) hm dX10_compareOp_47 rfl ?_
      cases hf
      exact sx_ire hm dX10_compareOp_53 rfl rfl
  · rcases mx_if_el hf with ⟨n_1, hf⟩ | ⟨n_1, hf⟩
    · refine sx_tin hm dX10_compareOp_1 (by rw [n_1]; decide) (by rw [n_1]; decide) (off := 53) (by rw [n_1]; rfl) (tgt := 54) rfl ?_
      clear n_0 n_1
      refine mx_S.pu (pc2 := 55) (lv2 := [(0, .int a0), (1, .int a1)]) (st2 := [.int a1]) hm dX10_compareOp_54 rfl ?_
      rcases mx_if_el hf with ⟨c2, hf⟩ | ⟨c2, hf⟩
      · refine sb_if_eq hm dX10_compareOp_55 (tgt := 64) rfl (fun _ => ?_) (fun z => absurd c2 z)
        refine sx_si (v := 166) hm dX10_compareOp_64 (by decide) ?_
        cases hf
        exact sx_ire hm dX10_compareOp_67 rfl rfl
      · refine sb_if_eq hm dX10_compareOp_55 (tgt := 64) rfl (fun z => absurd z c2) (fun _ => ?_)
        refine sx_si (v := 160) hm dX10_compareOp_58 (by decide) ?_
        refine mx_S.pu (pc2 := 67) (lv2 := [(0, .int a0), (1, .int a1)]) (st2 := [.int 160]) hm dX10_compareOp_61 rfl ?_
        cases hf
        exact sx_ire hm dX10_compareOp_67 rfl rfl
    · rcases mx_if_el hf with ⟨n_2, hf⟩ | ⟨n_2, hf⟩
      · refine sx_tin hm dX10_compareOp_1 (by rw [n_2]; decide) (by rw [n_2]; decide) (off := 67) (by rw [n_2]; rfl) (tgt := 68) rfl ?_
        clear n_0 n_1 n_2
        refine sx_si (v := 161) hm dX10_compareOp_68 (by decide) ?_
        cases hf
        exact sx_ire hm dX10_compareOp_71 rfl rfl
      · rcases mx_if_el hf with ⟨n_3, hf⟩ | ⟨n_3, hf⟩
        · refine sx_tin hm dX10_compareOp_1 (by rw [n_3]; decide) (by rw [n_3]; decide) (off := 75) (by rw [n_3]; rfl) (tgt := 76) rfl ?_
          clear n_0 n_1 n_2 n_3
          refine sx_si (v := 163) hm dX10_compareOp_76 (by decide) ?_
          cases hf
          exact sx_ire hm dX10_compareOp_79 rfl rfl
        · rcases mx_if_el hf with ⟨n_4, hf⟩ | ⟨n_4, hf⟩
          · refine sx_tin hm dX10_compareOp_1 (by rw [n_4]; decide) (by rw [n_4]; decide) (off := 71) (by rw [n_4]; rfl) (tgt := 72) rfl ?_
            clear n_0 n_1 n_2 n_3 n_4
            refine sx_si (v := 162) hm dX10_compareOp_72 (by decide) ?_
            cases hf
            exact sx_ire hm dX10_compareOp_75 rfl rfl
          · rcases (show (a0.toInt < 52 ∨ 57 < a0.toInt) ∨ a0.toInt = 52 ∨ a0.toInt = 53 ∨ a0.toInt = 54 ∨ a0.toInt = 55 ∨ a0.toInt = 56 ∨ a0.toInt = 57 by omega) with z0 | z0 | z0 | z0 | z0 | z0 | z0
            · refine sx_tout hm dX10_compareOp_1 z0 (tgt := 80) rfl ?_
              refine mx_S.ext [] (mx_sub_pos [] rfl (show ([0, 1] : List Nat).Nodup by decide)) ?_
              exact j_X10_compareOp_80_ok X hF hL nn h hf
            · exact absurd (Int32.toInt_inj.mp (z0.trans (by decide : (52 : Int) = (52 : Int32).toInt))) n_0
            · exact absurd (Int32.toInt_inj.mp (z0.trans (by decide : (53 : Int) = (53 : Int32).toInt))) n_1
            · exact absurd (Int32.toInt_inj.mp (z0.trans (by decide : (54 : Int) = (54 : Int32).toInt))) n_2
            · refine sx_tin hm dX10_compareOp_1 (by omega) (by omega) (off := 79) (by rw [z0]; rfl) (tgt := 80) rfl ?_
              refine mx_S.ext [] (mx_sub_pos [] rfl (show ([0, 1] : List Nat).Nodup by decide)) ?_
              exact j_X10_compareOp_80_ok X hF hL nn h hf
            · exact absurd (Int32.toInt_inj.mp (z0.trans (by decide : (56 : Int) = (56 : Int32).toInt))) n_3
            · exact absurd (Int32.toInt_inj.mp (z0.trans (by decide : (57 : Int) = (57 : Int32).toInt))) n_4
set_option maxHeartbeats 4000000 in
set_option maxRecDepth 20000 in
theorem f_X4_isNumber_ok (X : Nat × (Nat → Int32)) {F L : Nat} (hF : 0 ≤ F) (hL : 0 ≤ L) (nn : Nat) (a0 : Int32) (h : mx_H) {r : (Int32 × mx_H)} (hf : f_X4_isNumber nn a0 h = some r) : mx_R X F L 137 [.int a0] h (some (.int r.1), r.2, 0, 0) := by
  have hm : mx_mt 137 = some (yX4_isNumber, cX4_isNumber, 1, (some .boolean)) := mt_X4_isNumber
  show mx_S X F L 137 0 [(0, .int a0)] [] h 0 0 (some (.int r.1), r.2, 0, 0)
  unfold f_X4_isNumber at hf
  refine mx_S.pu (pc2 := 1) (lv2 := [(0, .int a0)]) (st2 := [.int a0]) hm dX4_isNumber_0 rfl ?_
  refine sx_si (v := 301) hm dX4_isNumber_1 (by decide) ?_
  rcases mx_if_el hf with ⟨c2, hf⟩ | ⟨c2, hf⟩
  · refine sb_ic_eq hm dX4_isNumber_4 (tgt := 14) rfl (fun _ => ?_) (fun z => absurd c2 z)
    refine sx_ic (v := 1) hm dX4_isNumber_14 (by decide) ?_
    refine mx_S.pu (pc2 := 19) (lv2 := [(0, .int a0)]) (st2 := [.int 1]) hm dX4_isNumber_15 rfl ?_
    cases hf
    exact sx_ire hm dX4_isNumber_19 rfl (by decide)
  · refine sb_ic_eq hm dX4_isNumber_4 (tgt := 14) rfl (fun z => absurd z c2) (fun _ => ?_)
    refine mx_S.pu (pc2 := 8) (lv2 := [(0, .int a0)]) (st2 := [.int a0]) hm dX4_isNumber_7 rfl ?_
    refine sx_si (v := 302) hm dX4_isNumber_8 (by decide) ?_
    rcases mx_if_el hf with ⟨c1, hf⟩ | ⟨c1, hf⟩
    · refine sb_ic_ne hm dX4_isNumber_11 (tgt := 18) rfl (fun _ => ?_) (fun z => absurd c1 z)
      refine sx_ic (v := 0) hm dX4_isNumber_18 (by decide) ?_
      cases hf
      exact sx_ire hm dX4_isNumber_19 rfl (by decide)
    · refine sb_ic_ne hm dX4_isNumber_11 (tgt := 18) rfl (fun z => absurd z c1) (fun _ => ?_)
      refine sx_ic (v := 1) hm dX4_isNumber_14 (by decide) ?_
      refine mx_S.pu (pc2 := 19) (lv2 := [(0, .int a0)]) (st2 := [.int 1]) hm dX4_isNumber_15 rfl ?_
      cases hf
      exact sx_ire hm dX4_isNumber_19 rfl (by decide)
set_option maxHeartbeats 4000000 in
set_option maxRecDepth 20000 in
theorem f_X4_isReference_ok (X : Nat × (Nat → Int32)) {F L : Nat} (hF : 0 ≤ F) (hL : 0 ≤ L) (nn : Nat) (a0 : Int32) (h : mx_H) {r : (Int32 × mx_H)} (hf : f_X4_isReference nn a0 h = some r) : mx_R X F L 136 [.int a0] h (some (.int r.1), r.2, 0, 0) := by
  have hm : mx_mt 136 = some (yX4_isReference, cX4_isReference, 1, (some .boolean)) := mt_X4_isReference
  show mx_S X F L 136 0 [(0, .int a0)] [] h 0 0 (some (.int r.1), r.2, 0, 0)
  unfold f_X4_isReference at hf
  refine mx_S.pu (pc2 := 1) (lv2 := [(0, .int a0)]) (st2 := [.int a0]) hm dX4_isReference_0 rfl ?_
  refine sx_si (v := 300) hm dX4_isReference_1 (by decide) ?_
  rcases mx_if_el hf with ⟨c3, hf⟩ | ⟨c3, hf⟩
  · refine sb_ic_eq hm dX4_isReference_4 (tgt := 18) rfl (fun _ => ?_) (fun z => absurd c3 z)
    refine sx_ic (v := 1) hm dX4_isReference_18 (by decide) ?_
    refine mx_S.pu (pc2 := 23) (lv2 := [(0, .int a0)]) (st2 := [.int 1]) hm dX4_isReference_19 rfl ?_
    cases hf
    exact sx_ire hm dX4_isReference_23 rfl (by decide)
  · refine sb_ic_eq hm dX4_isReference_4 (tgt := 18) rfl (fun z => absurd z c3) (fun _ => ?_)
    refine mx_S.pu (pc2 := 8) (lv2 := [(0, .int a0)]) (st2 := [.int a0]) hm dX4_isReference_7 rfl ?_
    rcases mx_if_el hf with ⟨c2, hf⟩ | ⟨c2, hf⟩
    · refine sb_if_lt hm dX4_isReference_8 (tgt := 22) rfl (fun _ => ?_) (fun z => absurd c2 z)
      refine sx_ic (v := 0) hm dX4_isReference_22 (by decide) ?_
      cases hf
      exact sx_ire hm dX4_isReference_23 rfl (by decide)
    · refine sb_if_lt hm dX4_isReference_8 (tgt := 22) rfl (fun z => absurd z c2) (fun _ => ?_)
      refine mx_S.pu (pc2 := 12) (lv2 := [(0, .int a0)]) (st2 := [.int a0]) hm dX4_isReference_11 rfl ?_
      refine sx_si (v := 200) hm dX4_isReference_12 (by decide) ?_
      rcases mx_if_el hf with ⟨c1, hf⟩ | ⟨c1, hf⟩
      · refine sb_ic_gt hm dX4_isReference_15 (tgt := 22) rfl (fun _ => ?_) (fun z => absurd c1 z)
        refine sx_ic (v := 0) hm dX4_isReference_22 (by decide) ?_
        cases hf
        exact sx_ire hm dX4_isReference_23 rfl (by decide)
      · refine sb_ic_gt hm dX4_isReference_15 (tgt := 22) rfl (fun z => absurd z c1) (fun _ => ?_)
        refine sx_ic (v := 1) hm dX4_isReference_18 (by decide) ?_
        refine mx_S.pu (pc2 := 23) (lv2 := [(0, .int a0)]) (st2 := [.int 1]) hm dX4_isReference_19 rfl ?_
        cases hf
        exact sx_ire hm dX4_isReference_23 rfl (by decide)
set_option maxHeartbeats 4000000 in
set_option maxRecDepth 20000 in
theorem j_X4_fits_123_ok (X : Nat × (Nat → Int32)) {F L : Nat} (hF : 0 ≤ F) (hL : 0 ≤ L) (nn : Nat) (l0 : Nat) (l1 : Int32) (l2 : Int32) (s0 : Int32) (h : mx_H) {r : (Int32 × mx_H)} (hf : j_X4_fits_123 nn l0 l1 l2 s0 h = some r) : mx_S X F L 139 123 [(0, .ref l0), (1, .int l1), (2, .int l2)] [.int s0] h 0 0 (some (.int r.1), r.2, 0, 0) := by
  have hm : mx_mt 139 = some (yX4_fits, cX4_fits, 4, (some .boolean)) := mt_X4_fits
  unfold j_X4_fits_123 at hf
  refine mx_S.pu (pc2 := 124) (lv2 := [(3, .int s0), (0, .ref l0), (1, .int l1), (2, .int l2)]) (st2 := []) hm dX4_fits_123 rfl ?_
  refine mx_S.pu (pc2 := 125) (lv2 := [(3, .int s0), (0, .ref l0), (1, .int l1), (2, .int l2)]) (st2 := [.int s0]) hm dX4_fits_124 rfl ?_
  rcases mx_if_el hf with ⟨c8, hf⟩ | ⟨c8, hf⟩
  · refine sb_if_eq hm dX4_fits_125 (tgt := 152) rfl (fun _ => ?_) (fun z => absurd c8 z)
    refine sx_ic (v := 0) hm dX4_fits_152 (by decide) ?_
    cases hf
    exact sx_ire hm dX4_fits_153 rfl (by decide)
  · refine sb_if_eq hm dX4_fits_125 (tgt := 152) rfl (fun z => absurd z c8) (fun _ => ?_)
    refine mx_S.pu (pc2 := 129) (lv2 := [(3, .int s0), (0, .ref l0), (1, .int l1), (2, .int l2)]) (st2 := [.ref l0]) hm dX4_fits_128 rfl ?_
    replace hf := mx_sv_el hf; obtain ⟨v1, e_v1, hf⟩ := hf
    refine sx_get hm dX4_fits_129 rs_RX4_15 (xgr_el e_v1) ?_
    clear e_v1
    refine mx_S.pu (pc2 := 133) (lv2 := [(3, .int s0), (0, .ref l0), (1, .int l1), (2, .int l2)]) (st2 := [.int l1, .ref v1]) hm dX4_fits_132 rfl ?_
    refine sx_bi (v := 100) hm dX4_fits_133 (by decide) ?_
    replace hf := xl_el hf; obtain ⟨v2, e_v2, hf⟩ := hf
    refine mx_S.pu (pc2 := 136) (lv2 := [(3, .int s0), (0, .ref l0), (1, .int l1), (2, .int l2)]) (st2 := [.int v2, .ref v1]) hm dX4_fits_135 (by rw [← e_v2]; rfl) ?_
    clear e_v2
    refine sx_bi (v := 16) hm dX4_fits_136 (by decide) ?_
    replace hf := xl_el hf; obtain ⟨v3, e_v3, hf⟩ := hf
    refine mx_S.pu (pc2 := 139) (lv2 := [(3, .int s0), (0, .ref l0), (1, .int l1), (2, .int l2)]) (st2 := [.int v3, .ref v1]) hm dX4_fits_138 (by rw [← e_v3]; rfl) ?_
    clear e_v3
    refine mx_S.pu (pc2 := 140) (lv2 := [(3, .int s0), (0, .ref l0), (1, .int l1), (2, .int l2)]) (st2 := [.int l2, .int v3, .ref v1]) hm dX4_fits_139 rfl ?_
    replace hf := xl_el hf; obtain ⟨v4, e_v4, hf⟩ := hf
    refine mx_S.pu (pc2 := 141) (lv2 := [(3, .int s0), (0, .ref l0), (1, .int l1), (2, .int l2)]) (st2 := [.int v4, .ref v1]) hm dX4_fits_140 (by rw [← e_v4]; rfl) ?_
    clear e_v4
    refine sx_bi (v := 100) hm dX4_fits_141 (by decide) ?_
    replace hf := xl_el hf; obtain ⟨v5, e_v5, hf⟩ := hf
    refine mx_S.pu (pc2 := 144) (lv2 := [(3, .int s0), (0, .ref l0), (1, .int l1), (2, .int l2)]) (st2 := [.int v5, .ref v1]) hm dX4_fits_143 (by rw [← e_v5]; rfl) ?_
    clear e_v5
    replace hf := mx_sv_el hf; obtain ⟨v6, e_v6, hf⟩ := hf
    refine sx_bld hm dX4_fits_144 e_v6 ?_
    clear e_v6
    rcases mx_if_el hf with ⟨c7, hf⟩ | ⟨c7, hf⟩
    · refine sb_if_eq hm dX4_fits_145 (tgt := 152) rfl (fun _ => ?_) (fun z => absurd c7 z)
      refine sx_ic (v := 0) hm dX4_fits_152 (by decide) ?_
      cases hf
      exact sx_ire hm dX4_fits_153 rfl (by decide)
    · refine sb_if_eq hm dX4_fits_145 (tgt := 152) rfl (fun z => absurd z c7) (fun _ => ?_)
      refine sx_ic (v := 1) hm dX4_fits_148 (by decide) ?_
      refine mx_S.pu (pc2 := 153) (lv2 := [(3, .int s0), (0, .ref l0), (1, .int l1), (2, .int l2)]) (st2 := [.int 1]) hm dX4_fits_149 rfl ?_
      cases hf
      exact sx_ire hm dX4_fits_153 rfl (by decide)
set_option maxHeartbeats 4000000 in
set_option maxRecDepth 20000 in
theorem j_X4_fits_122_ok (X : Nat × (Nat → Int32)) {F L : Nat} (hF : 0 ≤ F) (hL : 0 ≤ L) (nn : Nat) (l0 : Nat) (l1 : Int32) (l2 : Int32) (h : mx_H) {r : (Int32 × mx_H)} (hf : j_X4_fits_122 nn l0 l1 l2 h = some r) : mx_S X F L 139 122 [(0, .ref l0), (1, .int l1), (2, .int l2)] [] h 0 0 (some (.int r.1), r.2, 0, 0) := by
  have hm : mx_mt 139 = some (yX4_fits, cX4_fits, 4, (some .boolean)) := mt_X4_fits
  unfold j_X4_fits_122 at hf
  refine sx_ic (v := 0) hm dX4_fits_122 (by decide) ?_
  exact j_X4_fits_123_ok X hF hL nn l0 l1 l2 0 h hf
set_option maxHeartbeats 4000000 in
set_option maxRecDepth 20000 in
theorem j_X4_fits_71_ok (X : Nat × (Nat → Int32)) {F L : Nat} (hF : 0 ≤ F) (hL : 0 ≤ L) (nn : Nat) (l0 : Nat) (l1 : Int32) (l2 : Int32) (h : mx_H) {r : (Int32 × mx_H)} (hf : j_X4_fits_71 nn l0 l1 l2 h = some r) : mx_S X F L 139 71 [(0, .ref l0), (1, .int l1), (2, .int l2)] [] h 0 0 (some (.int r.1), r.2, 0, 0) := by
  have hm : mx_mt 139 = some (yX4_fits, cX4_fits, 4, (some .boolean)) := mt_X4_fits
  unfold j_X4_fits_71 at hf
  refine mx_S.pu (pc2 := 72) (lv2 := [(0, .ref l0), (1, .int l1), (2, .int l2)]) (st2 := [.int l2]) hm dX4_fits_71 rfl ?_
  rcases mx_if_el hf with ⟨c15, hf⟩ | ⟨c15, hf⟩
  · refine sb_if_ne hm dX4_fits_72 (tgt := 94) rfl (fun _ => ?_) (fun z => absurd c15 z)
    refine mx_S.pu (pc2 := 95) (lv2 := [(0, .ref l0), (1, .int l1), (2, .int l2)]) (st2 := [.int l1]) hm dX4_fits_94 rfl ?_
    refine sx_bi (v := 100) hm dX4_fits_95 (by decide) ?_
    rcases mx_if_el hf with ⟨c12, hf⟩ | ⟨c12, hf⟩
    · refine sb_ic_lt hm dX4_fits_97 (tgt := 122) rfl (fun _ => ?_) (fun z => absurd c12 z)
      exact j_X4_fits_122_ok X hF hL nn l0 l1 l2 h hf
    · refine sb_ic_lt hm dX4_fits_97 (tgt := 122) rfl (fun z => absurd z c12) (fun _ => ?_)
      refine mx_S.pu (pc2 := 101) (lv2 := [(0, .ref l0), (1, .int l1), (2, .int l2)]) (st2 := [.int l1]) hm dX4_fits_100 rfl ?_
      refine sx_bi (v := 116) hm dX4_fits_101 (by decide) ?_
      rcases mx_if_el hf with ⟨c11, hf⟩ | ⟨c11, hf⟩
      · refine sb_ic_ge hm dX4_fits_103 (tgt := 122) rfl (fun _ => ?_) (fun z => absurd c11 z)
        exact j_X4_fits_122_ok X hF hL nn l0 l1 l2 h hf
      · refine sb_ic_ge hm dX4_fits_103 (tgt := 122) rfl (fun z => absurd z c11) (fun _ => ?_)
        refine mx_S.pu (pc2 := 107) (lv2 := [(0, .ref l0), (1, .int l1), (2, .int l2)]) (st2 := [.int l2]) hm dX4_fits_106 rfl ?_
        refine sx_bi (v := 100) hm dX4_fits_107 (by decide) ?_
        rcases mx_if_el hf with ⟨c10, hf⟩ | ⟨c10, hf⟩
        · refine sb_ic_lt hm dX4_fits_109 (tgt := 122) rfl (fun _ => ?_) (fun z => absurd c10 z)
          exact j_X4_fits_122_ok X hF hL nn l0 l1 l2 h hf
        · refine sb_ic_lt hm dX4_fits_109 (tgt := 122) rfl (fun z => absurd z c10) (fun _ => ?_)
          refine mx_S.pu (pc2 := 113) (lv2 := [(0, .ref l0), (1, .int l1), (2, .int l2)]) (st2 := [.int l2]) hm dX4_fits_112 rfl ?_
          refine sx_bi (v := 116) hm dX4_fits_113 (by decide) ?_
          rcases mx_if_el hf with ⟨c9, hf⟩ | ⟨c9, hf⟩
          · refine sb_ic_ge hm dX4_fits_115 (tgt := 122) rfl (fun _ => ?_) (fun z => absurd c9 z)
            exact j_X4_fits_122_ok X hF hL nn l0 l1 l2 h hf
          · refine sb_ic_ge hm dX4_fits_115 (tgt := 122) rfl (fun z => absurd z c9) (fun _ => ?_)
            refine sx_ic (v := 1) hm dX4_fits_118 (by decide) ?_
            refine mx_S.pu (pc2 := 123) (lv2 := [(0, .ref l0), (1, .int l1), (2, .int l2)]) (st2 := [.int 1]) hm dX4_fits_119 rfl ?_
            exact j_X4_fits_123_ok X hF hL nn l0 l1 l2 1 h hf
  · refine sb_if_ne hm dX4_fits_72 (tgt := 94) rfl (fun z => absurd z c15) (fun _ => ?_)
    refine mx_S.pu (pc2 := 76) (lv2 := [(0, .ref l0), (1, .int l1), (2, .int l2)]) (st2 := [.int l1]) hm dX4_fits_75 rfl ?_
    refine sx_bi (v := 100) hm dX4_fits_76 (by decide) ?_
    rcases mx_if_el hf with ⟨c14, hf⟩ | ⟨c14, hf⟩
    · refine sb_ic_lt hm dX4_fits_78 (tgt := 92) rfl (fun _ => ?_) (fun z => absurd c14 z)
      refine sx_ic (v := 0) hm dX4_fits_92 (by decide) ?_
      cases hf
      exact sx_ire hm dX4_fits_93 rfl (by decide)
    · refine sb_ic_lt hm dX4_fits_78 (tgt := 92) rfl (fun z => absurd z c14) (fun _ => ?_)
      refine mx_S.pu (pc2 := 82) (lv2 := [(0, .ref l0), (1, .int l1), (2, .int l2)]) (st2 := [.int l1]) hm dX4_fits_81 rfl ?_
      refine sx_si (v := 200) hm dX4_fits_82 (by decide) ?_
      rcases mx_if_el hf with ⟨c13, hf⟩ | ⟨c13, hf⟩
      · refine sb_ic_gt hm dX4_fits_85 (tgt := 92) rfl (fun _ => ?_) (fun z => absurd c13 z)
        refine sx_ic (v := 0) hm dX4_fits_92 (by decide) ?_
        cases hf
        exact sx_ire hm dX4_fits_93 rfl (by decide)
      · refine sb_ic_gt hm dX4_fits_85 (tgt := 92) rfl (fun z => absurd z c13) (fun _ => ?_)
        refine sx_ic (v := 1) hm dX4_fits_88 (by decide) ?_
        refine mx_S.pu (pc2 := 93) (lv2 := [(0, .ref l0), (1, .int l1), (2, .int l2)]) (st2 := [.int 1]) hm dX4_fits_89 rfl ?_
        cases hf
        exact sx_ire hm dX4_fits_93 rfl (by decide)
set_option maxHeartbeats 4000000 in
set_option maxRecDepth 20000 in
theorem f_X4_fits_ok (X : Nat × (Nat → Int32)) {F L : Nat} (hF : 0 ≤ F) (hL : 0 ≤ L) (nn : Nat) (a0 : Nat) (a1 : Int32) (a2 : Int32) (h : mx_H) {r : (Int32 × mx_H)} (hf : f_X4_fits nn a0 a1 a2 h = some r) : mx_R X F L 139 [.ref a0, .int a1, .int a2] h (some (.int r.1), r.2, 0, 0) := by
  have hm : mx_mt 139 = some (yX4_fits, cX4_fits, 4, (some .boolean)) := mt_X4_fits
  show mx_S X F L 139 0 [(0, .ref a0), (1, .int a1), (2, .int a2)] [] h 0 0 (some (.int r.1), r.2, 0, 0)
  unfold f_X4_fits at hf
  refine mx_S.pu (pc2 := 1) (lv2 := [(0, .ref a0), (1, .int a1), (2, .int a2)]) (st2 := [.int a1]) hm dX4_fits_0 rfl ?_
  refine mx_S.pu (pc2 := 2) (lv2 := [(0, .ref a0), (1, .int a1), (2, .int a2)]) (st2 := [.int a2, .int a1]) hm dX4_fits_1 rfl ?_
  rcases mx_if_el hf with ⟨c28, hf⟩ | ⟨c28, hf⟩
  · refine sb_ic_ne hm dX4_fits_2 (tgt := 7) rfl (fun _ => ?_) (fun z => absurd c28 z)
    refine mx_S.pu (pc2 := 8) (lv2 := [(0, .ref a0), (1, .int a1), (2, .int a2)]) (st2 := [.int a1]) hm dX4_fits_7 rfl ?_
    refine sx_si (v := 300) hm dX4_fits_8 (by decide) ?_
    rcases mx_if_el hf with ⟨c27, hf⟩ | ⟨c27, hf⟩
    · refine sb_ic_ne hm dX4_fits_11 (tgt := 31) rfl (fun _ => ?_) (fun z => absurd c27 z)
      refine mx_S.pu (pc2 := 32) (lv2 := [(0, .ref a0), (1, .int a1), (2, .int a2)]) (st2 := [.int a1]) hm dX4_fits_31 rfl ?_
      rcases mx_if_el hf with ⟨c24, hf⟩ | ⟨c24, hf⟩
      · refine sb_if_lt hm dX4_fits_32 (tgt := 71) rfl (fun _ => ?_) (fun z => absurd c24 z)
        exact j_X4_fits_71_ok X hF hL nn a0 a1 a2 h hf
      · refine sb_if_lt hm dX4_fits_32 (tgt := 71) rfl (fun z => absurd z c24) (fun _ => ?_)
        refine mx_S.pu (pc2 := 36) (lv2 := [(0, .ref a0), (1, .int a1), (2, .int a2)]) (st2 := [.int a1]) hm dX4_fits_35 rfl ?_
        refine sx_bi (v := 16) hm dX4_fits_36 (by decide) ?_
        rcases mx_if_el hf with ⟨c23, hf⟩ | ⟨c23, hf⟩
        · refine sb_ic_ge hm dX4_fits_38 (tgt := 71) rfl (fun _ => ?_) (fun z => absurd c23 z)
          exact j_X4_fits_71_ok X hF hL nn a0 a1 a2 h hf
        · refine sb_ic_ge hm dX4_fits_38 (tgt := 71) rfl (fun z => absurd z c23) (fun _ => ?_)
          refine mx_S.pu (pc2 := 42) (lv2 := [(0, .ref a0), (1, .int a1), (2, .int a2)]) (st2 := [.int a2]) hm dX4_fits_41 rfl ?_
          rcases mx_if_el hf with ⟨c22, hf⟩ | ⟨c22, hf⟩
          · refine sb_if_lt hm dX4_fits_42 (tgt := 69) rfl (fun _ => ?_) (fun z => absurd c22 z)
            refine sx_ic (v := 0) hm dX4_fits_69 (by decide) ?_
            cases hf
            exact sx_ire hm dX4_fits_70 rfl (by decide)
          · refine sb_if_lt hm dX4_fits_42 (tgt := 69) rfl (fun z => absurd z c22) (fun _ => ?_)
            refine mx_S.pu (pc2 := 46) (lv2 := [(0, .ref a0), (1, .int a1), (2, .int a2)]) (st2 := [.int a2]) hm dX4_fits_45 rfl ?_
            refine sx_bi (v := 16) hm dX4_fits_46 (by decide) ?_
            rcases mx_if_el hf with ⟨c21, hf⟩ | ⟨c21, hf⟩
            · refine sb_ic_ge hm dX4_fits_48 (tgt := 69) rfl (fun _ => ?_) (fun z => absurd c21 z)
              refine sx_ic (v := 0) hm dX4_fits_69 (by decide) ?_
              cases hf
              exact sx_ire hm dX4_fits_70 rfl (by decide)
            · refine sb_ic_ge hm dX4_fits_48 (tgt := 69) rfl (fun z => absurd z c21) (fun _ => ?_)
              refine mx_S.pu (pc2 := 52) (lv2 := [(0, .ref a0), (1, .int a1), (2, .int a2)]) (st2 := [.ref a0]) hm dX4_fits_51 rfl ?_
              replace hf := mx_sv_el hf; obtain ⟨v16, e_v16, hf⟩ := hf
              refine sx_get hm dX4_fits_52 rs_RX4_15 (xgr_el e_v16) ?_
              clear e_v16
              refine mx_S.pu (pc2 := 56) (lv2 := [(0, .ref a0), (1, .int a1), (2, .int a2)]) (st2 := [.int a1, .ref v16]) hm dX4_fits_55 rfl ?_
              refine sx_bi (v := 16) hm dX4_fits_56 (by decide) ?_
              replace hf := xl_el hf; obtain ⟨v17, e_v17, hf⟩ := hf
              refine mx_S.pu (pc2 := 59) (lv2 := [(0, .ref a0), (1, .int a1), (2, .int a2)]) (st2 := [.int v17, .ref v16]) hm dX4_fits_58 (by rw [← e_v17]; rfl) ?_
              clear e_v17
              refine mx_S.pu (pc2 := 60) (lv2 := [(0, .ref a0), (1, .int a1), (2, .int a2)]) (st2 := [.int a2, .int v17, .ref v16]) hm dX4_fits_59 rfl ?_
              replace hf := xl_el hf; obtain ⟨v18, e_v18, hf⟩ := hf
              refine mx_S.pu (pc2 := 61) (lv2 := [(0, .ref a0), (1, .int a1), (2, .int a2)]) (st2 := [.int v18, .ref v16]) hm dX4_fits_60 (by rw [← e_v18]; rfl) ?_
              clear e_v18
              replace hf := mx_sv_el hf; obtain ⟨v19, e_v19, hf⟩ := hf
              refine sx_bld hm dX4_fits_61 e_v19 ?_
              clear e_v19
              rcases mx_if_el hf with ⟨c20, hf⟩ | ⟨c20, hf⟩
              · refine sb_if_eq hm dX4_fits_62 (tgt := 69) rfl (fun _ => ?_) (fun z => absurd c20 z)
                refine sx_ic (v := 0) hm dX4_fits_69 (by decide) ?_
                cases hf
                exact sx_ire hm dX4_fits_70 rfl (by decide)
              · refine sb_if_eq hm dX4_fits_62 (tgt := 69) rfl (fun z => absurd z c20) (fun _ => ?_)
                refine sx_ic (v := 1) hm dX4_fits_65 (by decide) ?_
                refine mx_S.pu (pc2 := 70) (lv2 := [(0, .ref a0), (1, .int a1), (2, .int a2)]) (st2 := [.int 1]) hm dX4_fits_66 rfl ?_
                cases hf
                exact sx_ire hm dX4_fits_70 rfl (by decide)
    · refine sb_ic_ne hm dX4_fits_11 (tgt := 31) rfl (fun z => absurd z c27) (fun _ => ?_)
      refine mx_S.pu (pc2 := 15) (lv2 := [(0, .ref a0), (1, .int a1), (2, .int a2)]) (st2 := [.int a2]) hm dX4_fits_14 rfl ?_
      rcases mx_if_el hf with ⟨c26, hf⟩ | ⟨c26, hf⟩
      · refine sb_if_lt hm dX4_fits_15 (tgt := 29) rfl (fun _ => ?_) (fun z => absurd c26 z)
        refine sx_ic (v := 0) hm dX4_fits_29 (by decide) ?_
        cases hf
        exact sx_ire hm dX4_fits_30 rfl (by decide)
      · refine sb_if_lt hm dX4_fits_15 (tgt := 29) rfl (fun z => absurd z c26) (fun _ => ?_)
        refine mx_S.pu (pc2 := 19) (lv2 := [(0, .ref a0), (1, .int a1), (2, .int a2)]) (st2 := [.int a2]) hm dX4_fits_18 rfl ?_
        refine sx_si (v := 200) hm dX4_fits_19 (by decide) ?_
        rcases mx_if_el hf with ⟨c25, hf⟩ | ⟨c25, hf⟩
        · refine sb_ic_gt hm dX4_fits_22 (tgt := 29) rfl (fun _ => ?_) (fun z => absurd c25 z)
          refine sx_ic (v := 0) hm dX4_fits_29 (by decide) ?_
          cases hf
          exact sx_ire hm dX4_fits_30 rfl (by decide)
        · refine sb_ic_gt hm dX4_fits_22 (tgt := 29) rfl (fun z => absurd z c25) (fun _ => ?_)
          refine sx_ic (v := 1) hm dX4_fits_25 (by decide) ?_
          refine mx_S.pu (pc2 := 30) (lv2 := [(0, .ref a0), (1, .int a1), (2, .int a2)]) (st2 := [.int 1]) hm dX4_fits_26 rfl ?_
          cases hf
          exact sx_ire hm dX4_fits_30 rfl (by decide)
  · refine sb_ic_ne hm dX4_fits_2 (tgt := 7) rfl (fun z => absurd z c28) (fun _ => ?_)
    refine sx_ic (v := 1) hm dX4_fits_5 (by decide) ?_
    cases hf
    exact sx_ire hm dX4_fits_6 rfl (by decide)
