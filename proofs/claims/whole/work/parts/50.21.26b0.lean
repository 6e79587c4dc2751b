set_option maxHeartbeats 4000000 in
set_option maxRecDepth 20000 in
theorem f_X7_typeOfClass_ok (X : Nat × (Nat → Int32)) {F L : Nat} (hF : 7 ≤ F) (hL : 162 ≤ L) (nn : Nat) (a0 : Nat) (a1 : Nat) (a2 : Int32) (h : mx_H) {r : (Int32 × mx_H)} (hf : f_X7_typeOfClass nn a0 a1 a2 h = some r) : mx_R X F L 206 [.ref a0, .ref a1, .int a2] h (some (.int r.1), r.2, 0, 0) := by
  have hm : mx_mt 206 = some (yX7_typeOfClass, cX7_typeOfClass, 6, (some .int)) := mt_X7_typeOfClass
  show mx_S X F L 206 0 [(0, .ref a0), (1, .ref a1), (2, .int a2)] [] h 0 0 (some (.int r.1), r.2, 0, 0)
  unfold f_X7_typeOfClass at hf
  refine mx_S.pu (pc2 := 1) (lv2 := [(0, .ref a0), (1, .ref a1), (2, .int a2)]) (st2 := [.ref a1]) hm dX7_typeOfClass_0 rfl ?_
  refine mx_S.pu (pc2 := 2) (lv2 := [(0, .ref a0), (1, .ref a1), (2, .int a2)]) (st2 := [.int a2, .ref a1]) hm dX7_typeOfClass_1 rfl ?_
  refine sx_ic (v := 0) hm dX7_typeOfClass_2 (by decide) ?_
  replace hf := mx_gd_el hf; obtain ⟨c1, hf⟩ := hf
  replace hf := mx_sv_el hf; obtain ⟨u2, e_u2, hf⟩ := hf
  refine sx_cv hm dX7_typeOfClass_3 rs_RX7_120 mt_X3_partOf [.int a2, .int 0] [] (b := a1) (ci := 3) rfl rfl rfl c1 (Nat.le_of_ble_eq_true rfl) (Nat.le_of_ble_eq_true rfl) (by omega) (by omega) (f_X3_partOf_ok X (by omega) (by omega) nn a1 a2 0 h e_u2) ?_
  clear e_u2
  show mx_S X F L 206 6 [(0, .ref a0), (1, .ref a1), (2, .int a2)] [.int u2.1] u2.2 0 0 (some (.int r.1), r.2, 0, 0)
  refine mx_S.pu (pc2 := 7) (lv2 := [(3, .int u2.1), (0, .ref a0), (1, .ref a1), (2, .int a2)]) (st2 := []) hm dX7_typeOfClass_6 rfl ?_
  refine mx_S.pu (pc2 := 8) (lv2 := [(3, .int u2.1), (0, .ref a0), (1, .ref a1), (2, .int a2)]) (st2 := [.ref a1]) hm dX7_typeOfClass_7 rfl ?_
  refine mx_S.pu (pc2 := 9) (lv2 := [(3, .int u2.1), (0, .ref a0), (1, .ref a1), (2, .int a2)]) (st2 := [.int u2.1, .ref a1]) hm dX7_typeOfClass_8 rfl ?_
  replace hf := mx_gd_el hf; obtain ⟨c3, hf⟩ := hf
  replace hf := mx_sv_el hf; obtain ⟨u4, e_u4, hf⟩ := hf
  refine sx_cv hm dX7_typeOfClass_9 rs_RX7_59 mt_X3_textAt [.int u2.1] [] (b := a1) (ci := 3) rfl rfl rfl c3 (Nat.le_of_ble_eq_true rfl) (Nat.le_of_ble_eq_true rfl) (by omega) (by omega) (f_X3_textAt_ok X (by omega) (by omega) nn a1 u2.1 u2.2 e_u4) ?_
  clear e_u4
  show mx_S X F L 206 12 [(3, .int u2.1), (0, .ref a0), (1, .ref a1), (2, .int a2)] [.int u4.1] u4.2 0 0 (some (.int r.1), r.2, 0, 0)
  refine mx_S.pu (pc2 := 14) (lv2 := [(4, .int u4.1), (3, .int u2.1), (0, .ref a0), (1, .ref a1), (2, .int a2)]) (st2 := []) hm dX7_typeOfClass_12 rfl ?_
  refine mx_S.pu (pc2 := 15) (lv2 := [(4, .int u4.1), (3, .int u2.1), (0, .ref a0), (1, .ref a1), (2, .int a2)]) (st2 := [.ref a1]) hm dX7_typeOfClass_14 rfl ?_
  refine mx_S.pu (pc2 := 16) (lv2 := [(4, .int u4.1), (3, .int u2.1), (0, .ref a0), (1, .ref a1), (2, .int a2)]) (st2 := [.int u2.1, .ref a1]) hm dX7_typeOfClass_15 rfl ?_
  replace hf := mx_gd_el hf; obtain ⟨c5, hf⟩ := hf
  replace hf := mx_sv_el hf; obtain ⟨u6, e_u6, hf⟩ := hf
  refine sx_cv hm dX7_typeOfClass_16 rs_RX7_63 mt_X3_textEnd [.int u2.1] [] (b := a1) (ci := 3) rfl rfl rfl c5 (Nat.le_of_ble_eq_true rfl) (Nat.le_of_ble_eq_true rfl) (by omega) (by omega) (f_X3_textEnd_ok X (by omega) (by omega) nn a1 u2.1 u4.2 e_u6) ?_
  clear e_u6
  show mx_S X F L 206 19 [(4, .int u4.1), (3, .int u2.1), (0, .ref a0), (1, .ref a1), (2, .int a2)] [.int u6.1] u6.2 0 0 (some (.int r.1), r.2, 0, 0)
  refine mx_S.pu (pc2 := 21) (lv2 := [(5, .int u6.1), (4, .int u4.1), (3, .int u2.1), (0, .ref a0), (1, .ref a1), (2, .int a2)]) (st2 := []) hm dX7_typeOfClass_19 rfl ?_
  refine mx_S.pu (pc2 := 22) (lv2 := [(5, .int u6.1), (4, .int u4.1), (3, .int u2.1), (0, .ref a0), (1, .ref a1), (2, .int a2)]) (st2 := [.ref a1]) hm dX7_typeOfClass_21 rfl ?_
  refine mx_S.pu (pc2 := 24) (lv2 := [(5, .int u6.1), (4, .int u4.1), (3, .int u2.1), (0, .ref a0), (1, .ref a1), (2, .int a2)]) (st2 := [.int u4.1, .ref a1]) hm dX7_typeOfClass_22 rfl ?_
  replace hf := mx_gd_el hf; obtain ⟨c7, hf⟩ := hf
  replace hf := mx_sv_el hf; obtain ⟨u8, e_u8, hf⟩ := hf
  refine sx_cv hm dX7_typeOfClass_24 rs_RX7_117 mt_X3_byteAt [.int u4.1] [] (b := a1) (ci := 3) rfl rfl rfl c7 (Nat.le_of_ble_eq_true rfl) (Nat.le_of_ble_eq_true rfl) (by omega) (by omega) (f_X3_byteAt_ok X (by omega) (by omega) nn a1 u4.1 u6.2 e_u8) ?_
  clear e_u8
  show mx_S X F L 206 27 [(5, .int u6.1), (4, .int u4.1), (3, .int u2.1), (0, .ref a0), (1, .ref a1), (2, .int a2)] [.int u8.1] u8.2 0 0 (some (.int r.1), r.2, 0, 0)
  refine sx_bi (v := 91) hm dX7_typeOfClass_27 (by decide) ?_
  rcases mx_if_el hf with ⟨c13, hf⟩ | ⟨c13, hf⟩
  · refine sb_ic_ne hm dX7_typeOfClass_29 (tgt := 44) rfl (fun _ => ?_) (fun z => absurd c13 z)
    refine mx_S.pu (pc2 := 45) (lv2 := [(5, .int u6.1), (4, .int u4.1), (3, .int u2.1), (0, .ref a0), (1, .ref a1), (2, .int a2)]) (st2 := [.ref a0]) hm dX7_typeOfClass_44 rfl ?_
    refine mx_S.pu (pc2 := 46) (lv2 := [(5, .int u6.1), (4, .int u4.1), (3, .int u2.1), (0, .ref a0), (1, .ref a1), (2, .int a2)]) (st2 := [.ref a1, .ref a0]) hm dX7_typeOfClass_45 rfl ?_
    refine mx_S.pu (pc2 := 48) (lv2 := [(5, .int u6.1), (4, .int u4.1), (3, .int u2.1), (0, .ref a0), (1, .ref a1), (2, .int a2)]) (st2 := [.int u4.1, .ref a1, .ref a0]) hm dX7_typeOfClass_46 rfl ?_
    refine mx_S.pu (pc2 := 50) (lv2 := [(5, .int u6.1), (4, .int u4.1), (3, .int u2.1), (0, .ref a0), (1, .ref a1), (2, .int a2)]) (st2 := [.int u6.1, .int u4.1, .ref a1, .ref a0]) hm dX7_typeOfClass_48 rfl ?_
    replace hf := mx_gd_el hf; obtain ⟨c9, hf⟩ := hf
    replace hf := mx_sv_el hf; obtain ⟨u10, e_u10, hf⟩ := hf
    refine sx_cv hm dX7_typeOfClass_50 rs_RX7_66 mt_X7_classOf [.ref a1, .int u4.1, .int u6.1] [] (b := a0) (ci := 7) rfl rfl rfl c9 (Nat.le_of_ble_eq_true rfl) (Nat.le_of_ble_eq_true rfl) (by omega) (by omega) (f_X7_classOf_ok X (by omega) (by omega) nn a0 a1 u4.1 u6.1 u8.2 e_u10) ?_
    clear e_u10
    show mx_S X F L 206 53 [(5, .int u6.1), (4, .int u4.1), (3, .int u2.1), (0, .ref a0), (1, .ref a1), (2, .int a2)] [.int u10.1] u10.2 0 0 (some (.int r.1), r.2, 0, 0)
    cases hf
    exact sx_ire hm dX7_typeOfClass_53 rfl rfl
  · refine sb_ic_ne hm dX7_typeOfClass_29 (tgt := 44) rfl (fun z => absurd z c13) (fun _ => ?_)
    refine mx_S.pu (pc2 := 33) (lv2 := [(5, .int u6.1), (4, .int u4.1), (3, .int u2.1), (0, .ref a0), (1, .ref a1), (2, .int a2)]) (st2 := [.ref a0]) hm dX7_typeOfClass_32 rfl ?_
    refine mx_S.pu (pc2 := 34) (lv2 := [(5, .int u6.1), (4, .int u4.1), (3, .int u2.1), (0, .ref a0), (1, .ref a1), (2, .int a2)]) (st2 := [.ref a1, .ref a0]) hm dX7_typeOfClass_33 rfl ?_
    refine mx_S.pu (pc2 := 36) (lv2 := [(5, .int u6.1), (4, .int u4.1), (3, .int u2.1), (0, .ref a0), (1, .ref a1), (2, .int a2)]) (st2 := [.int u4.1, .ref a1, .ref a0]) hm dX7_typeOfClass_34 rfl ?_
    refine mx_S.pu (pc2 := 38) (lv2 := [(5, .int u6.1), (4, .int u4.1), (3, .int u2.1), (0, .ref a0), (1, .ref a1), (2, .int a2)]) (st2 := [.int u6.1, .int u4.1, .ref a1, .ref a0]) hm dX7_typeOfClass_36 rfl ?_
    replace hf := mx_gd_el hf; obtain ⟨c11, hf⟩ := hf
    replace hf := mx_sv_el hf; obtain ⟨u12, e_u12, hf⟩ := hf
    refine sx_cv hm dX7_typeOfClass_38 rs_RX7_123 mt_X7_typeOfKind [.ref a1, .int u4.1, .int u6.1] [] (b := a0) (ci := 7) rfl rfl rfl c11 (Nat.le_of_ble_eq_true rfl) (Nat.le_of_ble_eq_true rfl) (by omega) (by omega) (f_X7_typeOfKind_ok X (by omega) (by omega) nn a0 a1 u4.1 u6.1 u8.2 e_u12) ?_
    clear e_u12
    show mx_S X F L 206 41 [(5, .int u6.1), (4, .int u4.1), (3, .int u2.1), (0, .ref a0), (1, .ref a1), (2, .int a2)] [.int u12.1] u12.2 0 0 (some (.int r.1), r.2, 0, 0)
    refine mx_S.pu (pc2 := 53) (lv2 := [(5, .int u6.1), (4, .int u4.1), (3, .int u2.1), (0, .ref a0), (1, .ref a1), (2, .int a2)]) (st2 := [.int u12.1]) hm dX7_typeOfClass_41 rfl ?_
    cases hf
    exact sx_ire hm dX7_typeOfClass_53 rfl rfl
set_option maxHeartbeats 4000000 in
set_option maxRecDepth 20000 in
theorem w_X11_takeConstants_55_ok (X : Nat × (Nat → Int32)) {F L : Nat} (hF : 9 ≤ F) (hL : 217 ≤ L) (nn : Nat) : ∀ (k : Nat) (l0 : Nat) (l1 : Int32) (h : mx_H) (r : mx_H), w_X11_takeConstants_55 nn k l0 l1 h = some r → mx_S X F L 315 55 [(0, .ref l0), (1, .int l1)] [] h 0 0 (none, r, 0, 0) := by
  have hm : mx_mt 315 = some (yX11_takeConstants, cX11_takeConstants, 2, none) := mt_X11_takeConstants
  intro k
  induction k with
  | zero => intro l0 l1 h r hf; cases hf
  | succ k ih =>
    intro l0 l1 h r hf
    unfold w_X11_takeConstants_55 at hf
    refine mx_S.pu (pc2 := 56) (lv2 := [(0, .ref l0), (1, .int l1)]) (st2 := [.int l1]) hm dX11_takeConstants_55 rfl ?_
    refine mx_S.pu (pc2 := 57) (lv2 := [(0, .ref l0), (1, .int l1)]) (st2 := [.ref l0, .int l1]) hm dX11_takeConstants_56 rfl ?_
    replace hf := mx_sv_el hf; obtain ⟨v1, e_v1, hf⟩ := hf
    refine sx_get hm dX11_takeConstants_57 rs_RX11_62 (xgr_el e_v1) ?_
    clear e_v1
    replace hf := mx_sv_el hf; obtain ⟨v2, e_v2, hf⟩ := hf
    refine sx_get hm dX11_takeConstants_60 rs_RX11_164 (xgi_el e_v2) ?_
    clear e_v2
    rcases mx_if_el hf with ⟨c13, hf⟩ | ⟨c13, hf⟩
    · refine sb_ic_gt hm dX11_takeConstants_63 (tgt := 96) rfl (fun _ => ?_) (fun z => absurd c13 z)
      cases hf
      exact sx_ret hm dX11_takeConstants_96 rfl
    · refine sb_ic_gt hm dX11_takeConstants_63 (tgt := 96) rfl (fun z => absurd z c13) (fun _ => ?_)
      refine mx_S.pu (pc2 := 67) (lv2 := [(0, .ref l0), (1, .int l1)]) (st2 := [.ref l0]) hm dX11_takeConstants_66 rfl ?_
      replace hf := mx_sv_el hf; obtain ⟨v3, e_v3, hf⟩ := hf
      refine sx_get hm dX11_takeConstants_67 rs_RX11_27 (xgr_el e_v3) ?_
      clear e_v3
      refine mx_S.pu (pc2 := 71) (lv2 := [(0, .ref l0), (1, .int l1)]) (st2 := [.int l1, .ref v3]) hm dX11_takeConstants_70 rfl ?_
      refine sx_ic (v := (-1)) hm dX11_takeConstants_71 (by decide) ?_
      replace hf := mx_sv_el hf; obtain ⟨h4, e_h4, hf⟩ := hf
      refine sx_ast hm dX11_takeConstants_72 e_h4 ?_
      clear e_h4
      refine mx_S.pu (pc2 := 74) (lv2 := [(0, .ref l0), (1, .int l1)]) (st2 := [.ref l0]) hm dX11_takeConstants_73 rfl ?_
      replace hf := mx_sv_el hf; obtain ⟨v5, e_v5, hf⟩ := hf
      refine sx_get hm dX11_takeConstants_74 rs_RX11_62 (xgr_el e_v5) ?_
      clear e_v5
      refine mx_S.pu (pc2 := 78) (lv2 := [(0, .ref l0), (1, .int l1)]) (st2 := [.int l1, .ref v5]) hm dX11_takeConstants_77 rfl ?_
      replace hf := mx_gd_el hf; obtain ⟨c6, hf⟩ := hf
      replace hf := mx_sv_el hf; obtain ⟨u7, e_u7, hf⟩ := hf
      refine sx_cv hm dX11_takeConstants_78 rs_RX11_167 mt_X3_tagOf [.int l1] [] (b := v5) (ci := 3) rfl rfl rfl c6 (Nat.le_of_ble_eq_true rfl) (Nat.le_of_ble_eq_true rfl) (by omega) (by omega) (f_X3_tagOf_ok X (by omega) (by omega) nn v5 l1 h4 e_u7) ?_
      clear e_u7
      show mx_S X F L 315 81 [(0, .ref l0), (1, .int l1)] [.int u7.1] u7.2 0 0 (none, r, 0, 0)
      refine sx_ic (v := 4) hm dX11_takeConstants_81 (by decide) ?_
      rcases mx_if_el hf with ⟨c12, hf⟩ | ⟨c12, hf⟩
      · refine sb_ic_ne hm dX11_takeConstants_82 (tgt := 90) rfl (fun _ => ?_) (fun z => absurd c12 z)
        replace hf := xl_el hf; obtain ⟨v8, e_v8, hf⟩ := hf
        refine mx_S.pu (pc2 := 93) (lv2 := [(1, .int v8), (0, .ref l0)]) (st2 := []) hm dX11_takeConstants_90 (by rw [← e_v8]; rfl) ?_
        clear e_v8
        refine mx_S.pu (pc2 := 55) (lv2 := [(1, .int v8), (0, .ref l0)]) (st2 := []) hm dX11_takeConstants_93 rfl ?_
        refine mx_S.ext [(0, .ref l0), (1, .int v8)] (mx_sub_pos [1, 0] rfl (show ([1, 0] : List Nat).Nodup by decide)) ?_
        exact ih l0 v8 u7.2 _ hf
      · refine sb_ic_ne hm dX11_takeConstants_82 (tgt := 90) rfl (fun z => absurd z c12) (fun _ => ?_)
        refine mx_S.pu (pc2 := 86) (lv2 := [(0, .ref l0), (1, .int l1)]) (st2 := [.ref l0]) hm dX11_takeConstants_85 rfl ?_
        refine mx_S.pu (pc2 := 87) (lv2 := [(0, .ref l0), (1, .int l1)]) (st2 := [.int l1, .ref l0]) hm dX11_takeConstants_86 rfl ?_
        replace hf := mx_gd_el hf; obtain ⟨c9, hf⟩ := hf
        replace hf := mx_sv_el hf; obtain ⟨u10, e_u10, hf⟩ := hf
        refine sx_cv hm dX11_takeConstants_87 rs_RX11_174 mt_X11_takeMember [.int l1] [] (b := l0) (ci := 11) rfl rfl rfl c9 (Nat.le_of_ble_eq_true rfl) (Nat.le_of_ble_eq_true rfl) (by omega) (by omega) (f_X11_takeMember_ok X (by omega) (by omega) nn l0 l1 u7.2 e_u10) ?_
        clear e_u10
        show mx_S X F L 315 90 [(0, .ref l0), (1, .int l1)] [] u10 0 0 (none, r, 0, 0)
        replace hf := xl_el hf; obtain ⟨v11, e_v11, hf⟩ := hf
        refine mx_S.pu (pc2 := 93) (lv2 := [(1, .int v11), (0, .ref l0)]) (st2 := []) hm dX11_takeConstants_90 (by rw [← e_v11]; rfl) ?_
        clear e_v11
        refine mx_S.pu (pc2 := 55) (lv2 := [(1, .int v11), (0, .ref l0)]) (st2 := []) hm dX11_takeConstants_93 rfl ?_
        refine mx_S.ext [(0, .ref l0), (1, .int v11)] (mx_sub_pos [1, 0] rfl (show ([1, 0] : List Nat).Nodup by decide)) ?_
        exact ih l0 v11 u10 _ hf
set_option maxHeartbeats 4000000 in
set_option maxRecDepth 20000 in
theorem w_X11_takeConstants_2_ok (X : Nat × (Nat → Int32)) {F L : Nat} (hF : 9 ≤ F) (hL : 217 ≤ L) (nn : Nat) : ∀ (k : Nat) (l0 : Nat) (l1 : Int32) (h : mx_H) (r : mx_H), w_X11_takeConstants_2 nn k l0 l1 h = some r → mx_S X F L 315 2 [(0, .ref l0), (1, .int l1)] [] h 0 0 (none, r, 0, 0) := by
  have hm : mx_mt 315 = some (yX11_takeConstants, cX11_takeConstants, 2, none) := mt_X11_takeConstants
  intro k
  induction k with
  | zero => intro l0 l1 h r hf; cases hf
  | succ k ih =>
    intro l0 l1 h r hf
    unfold w_X11_takeConstants_2 at hf
    refine mx_S.pu (pc2 := 3) (lv2 := [(0, .ref l0), (1, .int l1)]) (st2 := [.int l1]) hm dX11_takeConstants_2 rfl ?_
    refine mx_S.pu (pc2 := 4) (lv2 := [(0, .ref l0), (1, .int l1)]) (st2 := [.ref l0, .int l1]) hm dX11_takeConstants_3 rfl ?_
    replace hf := mx_sv_el hf; obtain ⟨v14, e_v14, hf⟩ := hf
    refine sx_get hm dX11_takeConstants_4 rs_RX11_62 (xgr_el e_v14) ?_
    clear e_v14
    replace hf := mx_sv_el hf; obtain ⟨v15, e_v15, hf⟩ := hf
    refine sx_get hm dX11_takeConstants_7 rs_RX11_164 (xgi_el e_v15) ?_
    clear e_v15
    rcases mx_if_el hf with ⟨c29, hf⟩ | ⟨c29, hf⟩
    · refine sb_ic_gt hm dX11_takeConstants_10 (tgt := 53) rfl (fun _ => ?_) (fun z => absurd c29 z)
      refine sx_ic (v := 1) hm dX11_takeConstants_53 (by decide) ?_
      refine mx_S.pu (pc2 := 55) (lv2 := [(1, .int 1), (0, .ref l0)]) (st2 := []) hm dX11_takeConstants_54 rfl ?_
      refine mx_S.ext [(0, .ref l0), (1, .int 1)] (mx_sub_pos [1, 0] rfl (show ([1, 0] : List Nat).Nodup by decide)) ?_
      exact w_X11_takeConstants_55_ok X hF hL nn nn l0 1 h _ hf
    · refine sb_ic_gt hm dX11_takeConstants_10 (tgt := 53) rfl (fun z => absurd z c29) (fun _ => ?_)
      refine mx_S.pu (pc2 := 14) (lv2 := [(0, .ref l0), (1, .int l1)]) (st2 := [.ref l0]) hm dX11_takeConstants_13 rfl ?_
      replace hf := mx_sv_el hf; obtain ⟨v16, e_v16, hf⟩ := hf
      refine sx_get hm dX11_takeConstants_14 rs_RX11_23 (xgr_el e_v16) ?_
      clear e_v16
      refine mx_S.pu (pc2 := 18) (lv2 := [(0, .ref l0), (1, .int l1)]) (st2 := [.int l1, .ref v16]) hm dX11_takeConstants_17 rfl ?_
      refine mx_S.pu (pc2 := 19) (lv2 := [(0, .ref l0), (1, .int l1)]) (st2 := [.ref l0, .int l1, .ref v16]) hm dX11_takeConstants_18 rfl ?_
      replace hf := mx_sv_el hf; obtain ⟨v17, e_v17, hf⟩ := hf
      refine sx_get hm dX11_takeConstants_19 rs_RX11_62 (xgr_el e_v17) ?_
      clear e_v17
      refine mx_S.pu (pc2 := 23) (lv2 := [(0, .ref l0), (1, .int l1)]) (st2 := [.int l1, .ref v17, .int l1, .ref v16]) hm dX11_takeConstants_22 rfl ?_
      replace hf := mx_gd_el hf; obtain ⟨c18, hf⟩ := hf
      replace hf := mx_sv_el hf; obtain ⟨u19, e_u19, hf⟩ := hf
      refine sx_cv hm dX11_takeConstants_23 rs_RX11_167 mt_X3_tagOf [.int l1] [.int l1, .ref v16] (b := v17) (ci := 3) rfl rfl rfl c18 (Nat.le_of_ble_eq_true rfl) (Nat.le_of_ble_eq_true rfl) (by omega) (by omega) (f_X3_tagOf_ok X (by omega) (by omega) nn v17 l1 h e_u19) ?_
      clear e_u19
      show mx_S X F L 315 26 [(0, .ref l0), (1, .int l1)] [.int u19.1, .int l1, .ref v16] u19.2 0 0 (none, r, 0, 0)
      refine sx_ic (v := 3) hm dX11_takeConstants_26 (by decide) ?_
      rcases mx_if_el hf with ⟨c28, hf⟩ | ⟨c28, hf⟩
      · refine sb_ic_ne hm dX11_takeConstants_27 (tgt := 45) rfl (fun _ => ?_) (fun z => absurd c28 z)
        refine sx_ic (v := (-1)) hm dX11_takeConstants_45 (by decide) ?_
        replace hf := mx_sv_el hf; obtain ⟨h20, e_h20, hf⟩ := hf
        refine sx_ast hm dX11_takeConstants_46 e_h20 ?_
        clear e_h20
        replace hf := xl_el hf; obtain ⟨v21, e_v21, hf⟩ := hf
        refine mx_S.pu (pc2 := 50) (lv2 := [(1, .int v21), (0, .ref l0)]) (st2 := []) hm dX11_takeConstants_47 (by rw [← e_v21]; rfl) ?_
        clear e_v21
        refine mx_S.pu (pc2 := 2) (lv2 := [(1, .int v21), (0, .ref l0)]) (st2 := []) hm dX11_takeConstants_50 rfl ?_
        refine mx_S.ext [(0, .ref l0), (1, .int v21)] (mx_sub_pos [1, 0] rfl (show ([1, 0] : List Nat).Nodup by decide)) ?_
        exact ih l0 v21 h20 _ hf
      · refine sb_ic_ne hm dX11_takeConstants_27 (tgt := 45) rfl (fun z => absurd z c28) (fun _ => ?_)
        refine mx_S.pu (pc2 := 31) (lv2 := [(0, .ref l0), (1, .int l1)]) (st2 := [.ref l0, .int l1, .ref v16]) hm dX11_takeConstants_30 rfl ?_
        replace hf := mx_sv_el hf; obtain ⟨v22, e_v22, hf⟩ := hf
        refine sx_get hm dX11_takeConstants_31 rs_RX11_50 (xgr_el e_v22) ?_
        clear e_v22
        refine mx_S.pu (pc2 := 35) (lv2 := [(0, .ref l0), (1, .int l1)]) (st2 := [.ref l0, .ref v22, .int l1, .ref v16]) hm dX11_takeConstants_34 rfl ?_
        replace hf := mx_sv_el hf; obtain ⟨v23, e_v23, hf⟩ := hf
        refine sx_get hm dX11_takeConstants_35 rs_RX11_62 (xgr_el e_v23) ?_
        clear e_v23
        refine mx_S.pu (pc2 := 39) (lv2 := [(0, .ref l0), (1, .int l1)]) (st2 := [.int l1, .ref v23, .ref v22, .int l1, .ref v16]) hm dX11_takeConstants_38 rfl ?_
        replace hf := mx_gd_el hf; obtain ⟨c24, hf⟩ := hf
        replace hf := mx_sv_el hf; obtain ⟨u25, e_u25, hf⟩ := hf
        refine sx_cv hm dX11_takeConstants_39 rs_RX11_170 mt_X7_typeOfClass [.ref v23, .int l1] [.int l1, .ref v16] (b := v22) (ci := 7) rfl rfl rfl c24 (Nat.le_of_ble_eq_true rfl) (Nat.le_of_ble_eq_true rfl) (by omega) (by omega) (f_X7_typeOfClass_ok X (by omega) (by omega) nn v22 v23 l1 u19.2 e_u25) ?_
        clear e_u25
        show mx_S X F L 315 42 [(0, .ref l0), (1, .int l1)] [.int u25.1, .int l1, .ref v16] u25.2 0 0 (none, r, 0, 0)
        refine mx_S.pu (pc2 := 46) (lv2 := [(0, .ref l0), (1, .int l1)]) (st2 := [.int u25.1, .int l1, .ref v16]) hm dX11_takeConstants_42 rfl ?_
        replace hf := mx_sv_el hf; obtain ⟨h26, e_h26, hf⟩ := hf
        refine sx_ast hm dX11_takeConstants_46 e_h26 ?_
        clear e_h26
        replace hf := xl_el hf; obtain ⟨v27, e_v27, hf⟩ := hf
        refine mx_S.pu (pc2 := 50) (lv2 := [(1, .int v27), (0, .ref l0)]) (st2 := []) hm dX11_takeConstants_47 (by rw [← e_v27]; rfl) ?_
        clear e_v27
        refine mx_S.pu (pc2 := 2) (lv2 := [(1, .int v27), (0, .ref l0)]) (st2 := []) hm dX11_takeConstants_50 rfl ?_
        refine mx_S.ext [(0, .ref l0), (1, .int v27)] (mx_sub_pos [1, 0] rfl (show ([1, 0] : List Nat).Nodup by decide)) ?_
        exact ih l0 v27 h26 _ hf
set_option maxHeartbeats 4000000 in
set_option maxRecDepth 20000 in
theorem f_X11_takeConstants_ok (X : Nat × (Nat → Int32)) {F L : Nat} (hF : 9 ≤ F) (hL : 217 ≤ L) (nn : Nat) (a0 : Nat) (h : mx_H) {r : mx_H} (hf : f_X11_takeConstants nn a0 h = some r) : mx_R X F L 315 [.ref a0] h (none, r, 0, 0) := by
  have hm : mx_mt 315 = some (yX11_takeConstants, cX11_takeConstants, 2, none) := mt_X11_takeConstants
  show mx_S X F L 315 0 [(0, .ref a0)] [] h 0 0 (none, r, 0, 0)
  unfold f_X11_takeConstants at hf
  refine sx_ic (v := 1) hm dX11_takeConstants_0 (by decide) ?_
  refine mx_S.pu (pc2 := 2) (lv2 := [(1, .int 1), (0, .ref a0)]) (st2 := []) hm dX11_takeConstants_1 rfl ?_
  refine mx_S.ext [(0, .ref a0), (1, .int 1)] (mx_sub_pos [1, 0] rfl (show ([1, 0] : List Nat).Nodup by decide)) ?_
  exact w_X11_takeConstants_2_ok X hF hL nn nn a0 1 h _ hf
set_option maxHeartbeats 4000000 in
set_option maxRecDepth 20000 in
theorem f_X11_typeOfTag_ok (X : Nat × (Nat → Int32)) {F L : Nat} (hF : 0 ≤ F) (hL : 0 ≤ L) (nn : Nat) (a0 : Nat) (a1 : Int32) (a2 : Int32) (h : mx_H) {r : (Int32 × mx_H)} (hf : f_X11_typeOfTag nn a0 a1 a2 h = some r) : mx_R X F L 331 [.ref a0, .int a1, .int a2] h (some (.int r.1), r.2, 0, 0) := by
  have hm : mx_mt 331 = some (yX11_typeOfTag, cX11_typeOfTag, 3, (some .int)) := mt_X11_typeOfTag
  show mx_S X F L 331 0 [(0, .ref a0), (1, .int a1), (2, .int a2)] [] h 0 0 (some (.int r.1), r.2, 0, 0)
  unfold f_X11_typeOfTag at hf
  refine mx_S.pu (pc2 := 1) (lv2 := [(0, .ref a0), (1, .int a1), (2, .int a2)]) (st2 := [.int a1]) hm dX11_typeOfTag_0 rfl ?_
  rcases mx_if_el hf with ⟨n_0, hf⟩ | ⟨n_0, hf⟩
  · refine sx_tin hm dX11_typeOfTag_1 (by rw [n_0]; decide) (by rw [n_0]; decide) (off := 27) (by rw [n_0]; rfl) (tgt := 28) rfl ?_
    clear n_0
    refine sx_si (v := 304) hm dX11_typeOfTag_28 (by decide) ?_
    cases hf
    exact sx_ire hm dX11_typeOfTag_31 rfl rfl
  · rcases mx_if_el hf with ⟨n_1, hf⟩ | ⟨n_1, hf⟩
    · refine sx_tin hm dX11_typeOfTag_1 (by rw [n_1]; decide) (by rw [n_1]; decide) (off := 31) (by rw [n_1]; rfl) (tgt := 32) rfl ?_
      clear n_0 n_1
      refine sx_si (v := 301) hm dX11_typeOfTag_32 (by decide) ?_
      cases hf
      exact sx_ire hm dX11_typeOfTag_35 rfl rfl
    · rcases mx_if_el hf with ⟨n_2, hf⟩ | ⟨n_2, hf⟩
      · refine sx_tin hm dX11_typeOfTag_1 (by rw [n_2]; decide) (by rw [n_2]; decide) (off := 35) (by rw [n_2]; rfl) (tgt := 36) rfl ?_
        clear n_0 n_1 n_2
        refine sx_si (v := 300) hm dX11_typeOfTag_36 (by decide) ?_
        cases hf
        exact sx_ire hm dX11_typeOfTag_39 rfl rfl
      · rcases (show (a1.toInt < 0 ∨ 2 < a1.toInt) ∨ a1.toInt = 0 ∨ a1.toInt = 1 ∨ a1.toInt = 2 by omega) with z0 | z0 | z0 | z0
        · refine sx_tout hm dX11_typeOfTag_1 z0 (tgt := 40) rfl ?_
          refine mx_S.pu (pc2 := 41) (lv2 := [(0, .ref a0), (1, .int a1), (2, .int a2)]) (st2 := [.ref a0]) hm dX11_typeOfTag_40 rfl ?_
          replace hf := mx_sv_el hf; obtain ⟨v1, e_v1, hf⟩ := hf
          refine sx_get hm dX11_typeOfTag_41 rs_RX11_23 (xgr_el e_v1) ?_
          clear e_v1
          refine mx_S.pu (pc2 := 45) (lv2 := [(0, .ref a0), (1, .int a1), (2, .int a2)]) (st2 := [.int a2, .ref v1]) hm dX11_typeOfTag_44 rfl ?_
          replace hf := mx_sv_el hf; obtain ⟨v2, e_v2, hf⟩ := hf
          refine sx_ald hm dX11_typeOfTag_45 e_v2 ?_
          clear e_v2
          cases hf
          exact sx_ire hm dX11_typeOfTag_46 rfl rfl
        · exact absurd (Int32.toInt_inj.mp (z0.trans (by decide : (0 : Int) = (0 : Int32).toInt))) n_0
        · exact absurd (Int32.toInt_inj.mp (z0.trans (by decide : (1 : Int) = (1 : Int32).toInt))) n_1
        · exact absurd (Int32.toInt_inj.mp (z0.trans (by decide : (2 : Int) = (2 : Int32).toInt))) n_2
set_option maxHeartbeats 4000000 in
set_option maxRecDepth 20000 in
theorem j_X11_takeTypes_80_ok (X : Nat × (Nat → Int32)) {F L : Nat} (hF : 1 ≤ F) (hL : 22 ≤ L) (nn : Nat) {kk_17 : Nat → Int32 → Int32 → Int32 → Int32 → mx_H → Option (Int32 × mx_H)} (hk_17 : ∀ (l0 : Nat) (l2 : Int32) (l3 : Int32) (l4 : Int32) (l5 : Int32) (h : mx_H) (r : (Int32 × mx_H)), kk_17 l0 l2 l3 l4 l5 h = some r → mx_S X F L 330 17 [(0, .ref l0), (2, .int l2), (3, .int l3), (4, .int l4), (5, .int l5)] [] h 0 0 (some (.int r.1), r.2, 0, 0)) (l0 : Nat) (l2 : Int32) (l3 : Int32) (l5 : Int32) (s0 : Int32) (s1 : Int32) (h : mx_H) {r : (Int32 × mx_H)} (hf : j_X11_takeTypes_80 nn kk_17 l0 l2 l3 l5 s0 s1 h = some r) : mx_S X F L 330 80 [(0, .ref l0), (2, .int l2), (3, .int l3), (5, .int l5)] [.int s0, .int s1] h 0 0 (some (.int r.1), r.2, 0, 0) := by
  have hm : mx_mt 330 = some (yX11_takeTypes, cX11_takeTypes, 7, (some .int)) := mt_X11_takeTypes
  unfold j_X11_takeTypes_80 at hf
  replace hf := xl_el hf; obtain ⟨v1, e_v1, hf⟩ := hf
  refine mx_S.pu (pc2 := 81) (lv2 := [(0, .ref l0), (2, .int l2), (3, .int l3), (5, .int l5)]) (st2 := [.int v1]) hm dX11_takeTypes_80 (by rw [← e_v1]; rfl) ?_
  clear e_v1
  refine mx_S.pu (pc2 := 83) (lv2 := [(4, .int v1), (0, .ref l0), (2, .int l2), (3, .int l3), (5, .int l5)]) (st2 := []) hm dX11_takeTypes_81 rfl ?_
  replace hf := xl_el hf; obtain ⟨v2, e_v2, hf⟩ := hf
  refine mx_S.pu (pc2 := 86) (lv2 := [(5, .int v2), (4, .int v1), (0, .ref l0), (2, .int l2), (3, .int l3)]) (st2 := []) hm dX11_takeTypes_83 (by rw [← e_v2]; rfl) ?_
  clear e_v2
  refine mx_S.pu (pc2 := 17) (lv2 := [(5, .int v2), (4, .int v1), (0, .ref l0), (2, .int l2), (3, .int l3)]) (st2 := []) hm dX11_takeTypes_86 rfl ?_
  refine mx_S.ext [(0, .ref l0), (2, .int l2), (3, .int l3), (4, .int v1), (5, .int v2)] (mx_sub_pos [2, 3, 4, 1, 0] rfl (show ([5, 4, 0, 2, 3] : List Nat).Nodup by decide)) ?_
  exact hk_17 l0 l2 l3 v1 v2 h _ hf
set_option maxHeartbeats 4000000 in
set_option maxRecDepth 20000 in
theorem j_X11_takeTypes_67_ok (X : Nat × (Nat → Int32)) {F L : Nat} (hF : 1 ≤ F) (hL : 22 ≤ L) (nn : Nat) {kk_17 : Nat → Int32 → Int32 → Int32 → Int32 → mx_H → Option (Int32 × mx_H)} (hk_17 : ∀ (l0 : Nat) (l2 : Int32) (l3 : Int32) (l4 : Int32) (l5 : Int32) (h : mx_H) (r : (Int32 × mx_H)), kk_17 l0 l2 l3 l4 l5 h = some r → mx_S X F L 330 17 [(0, .ref l0), (2, .int l2), (3, .int l3), (4, .int l4), (5, .int l5)] [] h 0 0 (some (.int r.1), r.2, 0, 0)) (l0 : Nat) (l2 : Int32) (l3 : Int32) (l4 : Int32) (l5 : Int32) (l6 : Int32) (h : mx_H) {r : (Int32 × mx_H)} (hf : j_X11_takeTypes_67 nn kk_17 l0 l2 l3 l4 l5 l6 h = some r) : mx_S X F L 330 67 [(0, .ref l0), (2, .int l2), (3, .int l3), (4, .int l4), (5, .int l5), (6, .int l6)] [] h 0 0 (some (.int r.1), r.2, 0, 0) := by
  have hm : mx_mt 330 = some (yX11_takeTypes, cX11_takeTypes, 7, (some .int)) := mt_X11_takeTypes
  unfold j_X11_takeTypes_67 at hf
  refine mx_S.pu (pc2 := 69) (lv2 := [(0, .ref l0), (2, .int l2), (3, .int l3), (4, .int l4), (5, .int l5), (6, .int l6)]) (st2 := [.int l4]) hm dX11_takeTypes_67 rfl ?_
  refine mx_S.pu (pc2 := 71) (lv2 := [(0, .ref l0), (2, .int l2), (3, .int l3), (4, .int l4), (5, .int l5), (6, .int l6)]) (st2 := [.int l6, .int l4]) hm dX11_takeTypes_69 rfl ?_
  refine sx_ic (v := 3) hm dX11_takeTypes_71 (by decide) ?_
  rcases mx_if_el hf with ⟨c3, hf⟩ | ⟨c3, hf⟩
  · refine sb_ic_ne hm dX11_takeTypes_72 (tgt := 79) rfl (fun _ => ?_) (fun z => absurd c3 z)
    refine sx_ic (v := 1) hm dX11_takeTypes_79 (by decide) ?_
    refine mx_S.ext [(0, .ref l0), (2, .int l2), (3, .int l3), (5, .int l5)] (mx_sub_pos [0, 1, 2, 4] rfl (show ([0, 2, 3, 4, 5, 6] : List Nat).Nodup by decide)) ?_
    exact j_X11_takeTypes_80_ok X hF hL nn hk_17 l0 l2 l3 l5 1 l4 h hf
  · refine sb_ic_ne hm dX11_takeTypes_72 (tgt := 79) rfl (fun z => absurd z c3) (fun _ => ?_)
    refine sx_ic (v := 2) hm dX11_takeTypes_75 (by decide) ?_
    refine mx_S.pu (pc2 := 80) (lv2 := [(0, .ref l0), (2, .int l2), (3, .int l3), (4, .int l4), (5, .int l5), (6, .int l6)]) (st2 := [.int 2, .int l4]) hm dX11_takeTypes_76 rfl ?_
    refine mx_S.ext [(0, .ref l0), (2, .int l2), (3, .int l3), (5, .int l5)] (mx_sub_pos [0, 1, 2, 4] rfl (show ([0, 2, 3, 4, 5, 6] : List Nat).Nodup by decide)) ?_
    exact j_X11_takeTypes_80_ok X hF hL nn hk_17 l0 l2 l3 l5 2 l4 h hf
set_option maxHeartbeats 4000000 in
set_option maxRecDepth 20000 in
theorem w_X11_takeTypes_17_ok (X : Nat × (Nat → Int32)) {F L : Nat} (hF : 1 ≤ F) (hL : 22 ≤ L) (nn : Nat) : ∀ (k : Nat) (l0 : Nat) (l2 : Int32) (l3 : Int32) (l4 : Int32) (l5 : Int32) (h : mx_H) (r : (Int32 × mx_H)), w_X11_takeTypes_17 nn k l0 l2 l3 l4 l5 h = some r → mx_S X F L 330 17 [(0, .ref l0), (2, .int l2), (3, .int l3), (4, .int l4), (5, .int l5)] [] h 0 0 (some (.int r.1), r.2, 0, 0) := by
  have hm : mx_mt 330 = some (yX11_takeTypes, cX11_takeTypes, 7, (some .int)) := mt_X11_takeTypes
  intro k
  induction k with
  | zero => intro l0 l2 l3 l4 l5 h r hf; cases hf
  | succ k ih =>
    intro l0 l2 l3 l4 l5 h r hf
    unfold w_X11_takeTypes_17 at hf
    refine mx_S.pu (pc2 := 19) (lv2 := [(0, .ref l0), (2, .int l2), (3, .int l3), (4, .int l4), (5, .int l5)]) (st2 := [.int l5]) hm dX11_takeTypes_17 rfl ?_
    refine mx_S.pu (pc2 := 20) (lv2 := [(0, .ref l0), (2, .int l2), (3, .int l3), (4, .int l4), (5, .int l5)]) (st2 := [.int l3, .int l5]) hm dX11_takeTypes_19 rfl ?_
    rcases mx_if_el hf with ⟨c17, hf⟩ | ⟨c17, hf⟩
    · refine sb_ic_ge hm dX11_takeTypes_20 (tgt := 89) rfl (fun _ => ?_) (fun z => absurd c17 z)
      refine mx_S.pu (pc2 := 91) (lv2 := [(0, .ref l0), (2, .int l2), (3, .int l3), (4, .int l4), (5, .int l5)]) (st2 := [.int l4]) hm dX11_takeTypes_89 rfl ?_
      cases hf
      exact sx_ire hm dX11_takeTypes_91 rfl rfl
    · refine sb_ic_ge hm dX11_takeTypes_20 (tgt := 89) rfl (fun z => absurd z c17) (fun _ => ?_)
      refine mx_S.pu (pc2 := 24) (lv2 := [(0, .ref l0), (2, .int l2), (3, .int l3), (4, .int l4), (5, .int l5)]) (st2 := [.ref l0]) hm dX11_takeTypes_23 rfl ?_
      replace hf := mx_sv_el hf; obtain ⟨v4, e_v4, hf⟩ := hf
      refine sx_get hm dX11_takeTypes_24 rs_RX11_62 (xgr_el e_v4) ?_
      clear e_v4
      refine mx_S.pu (pc2 := 29) (lv2 := [(0, .ref l0), (2, .int l2), (3, .int l3), (4, .int l4), (5, .int l5)]) (st2 := [.int l4, .ref v4]) hm dX11_takeTypes_27 rfl ?_
      replace hf := mx_gd_el hf; obtain ⟨c5, hf⟩ := hf
      replace hf := mx_sv_el hf; obtain ⟨u6, e_u6, hf⟩ := hf
      refine sx_cv hm dX11_takeTypes_29 rs_RX11_183 mt_X3_byteAt [.int l4] [] (b := v4) (ci := 3) rfl rfl rfl c5 (Nat.le_of_ble_eq_true rfl) (Nat.le_of_ble_eq_true rfl) (by omega) (by omega) (f_X3_byteAt_ok X (by omega) (by omega) nn v4 l4 h e_u6) ?_
      clear e_u6
      show mx_S X F L 330 32 [(0, .ref l0), (2, .int l2), (3, .int l3), (4, .int l4), (5, .int l5)] [.int u6.1] u6.2 0 0 (some (.int r.1), r.2, 0, 0)
      refine mx_S.pu (pc2 := 34) (lv2 := [(6, .int u6.1), (0, .ref l0), (2, .int l2), (3, .int l3), (4, .int l4), (5, .int l5)]) (st2 := []) hm dX11_takeTypes_32 rfl ?_
      refine mx_S.pu (pc2 := 36) (lv2 := [(6, .int u6.1), (0, .ref l0), (2, .int l2), (3, .int l3), (4, .int l4), (5, .int l5)]) (st2 := [.int l5]) hm dX11_takeTypes_34 rfl ?_
      refine sx_bi (v := 30) hm dX11_takeTypes_36 (by decide) ?_
      rcases mx_if_el hf with ⟨c16, hf⟩ | ⟨c16, hf⟩
      · refine sb_ic_ge hm dX11_takeTypes_38 (tgt := 67) rfl (fun _ => ?_) (fun z => absurd c16 z)
        refine mx_S.ext [(0, .ref l0), (2, .int l2), (3, .int l3), (4, .int l4), (5, .int l5), (6, .int u6.1)] (mx_sub_pos [1, 2, 3, 4, 5, 0] rfl (show ([6, 0, 2, 3, 4, 5] : List Nat).Nodup by decide)) ?_
        exact j_X11_takeTypes_67_ok X hF hL nn ih l0 l2 l3 l4 l5 u6.1 u6.2 hf
      · refine sb_ic_ge hm dX11_takeTypes_38 (tgt := 67) rfl (fun z => absurd z c16) (fun _ => ?_)
        refine mx_S.pu (pc2 := 42) (lv2 := [(6, .int u6.1), (0, .ref l0), (2, .int l2), (3, .int l3), (4, .int l4), (5, .int l5)]) (st2 := [.ref l0]) hm dX11_takeTypes_41 rfl ?_
        replace hf := mx_sv_el hf; obtain ⟨v7, e_v7, hf⟩ := hf
        refine sx_get hm dX11_takeTypes_42 rs_RX11_41 (xgr_el e_v7) ?_
        clear e_v7
        refine mx_S.pu (pc2 := 46) (lv2 := [(6, .int u6.1), (0, .ref l0), (2, .int l2), (3, .int l3), (4, .int l4), (5, .int l5)]) (st2 := [.int l2, .ref v7]) hm dX11_takeTypes_45 rfl ?_
        refine mx_S.pu (pc2 := 48) (lv2 := [(6, .int u6.1), (0, .ref l0), (2, .int l2), (3, .int l3), (4, .int l4), (5, .int l5)]) (st2 := [.int l5, .int l2, .ref v7]) hm dX11_takeTypes_46 rfl ?_
        replace hf := xl_el hf; obtain ⟨v8, e_v8, hf⟩ := hf
        refine mx_S.pu (pc2 := 49) (lv2 := [(6, .int u6.1), (0, .ref l0), (2, .int l2), (3, .int l3), (4, .int l4), (5, .int l5)]) (st2 := [.int v8, .ref v7]) hm dX11_takeTypes_48 (by rw [← e_v8]; rfl) ?_
        clear e_v8
        refine mx_S.pu (pc2 := 50) (lv2 := [(6, .int u6.1), (0, .ref l0), (2, .int l2), (3, .int l3), (4, .int l4), (5, .int l5)]) (st2 := [.ref l0, .int v8, .ref v7]) hm dX11_takeTypes_49 rfl ?_
        refine mx_S.pu (pc2 := 52) (lv2 := [(6, .int u6.1), (0, .ref l0), (2, .int l2), (3, .int l3), (4, .int l4), (5, .int l5)]) (st2 := [.int u6.1, .ref l0, .int v8, .ref v7]) hm dX11_takeTypes_50 rfl ?_
        refine mx_S.pu (pc2 := 53) (lv2 := [(6, .int u6.1), (0, .ref l0), (2, .int l2), (3, .int l3), (4, .int l4), (5, .int l5)]) (st2 := [.ref l0, .int u6.1, .ref l0, .int v8, .ref v7]) hm dX11_takeTypes_52 rfl ?_
        replace hf := mx_sv_el hf; obtain ⟨v9, e_v9, hf⟩ := hf
        refine sx_get hm dX11_takeTypes_53 rs_RX11_62 (xgr_el e_v9) ?_
        clear e_v9
        refine mx_S.pu (pc2 := 58) (lv2 := [(6, .int u6.1), (0, .ref l0), (2, .int l2), (3, .int l3), (4, .int l4), (5, .int l5)]) (st2 := [.int l4, .ref v9, .int u6.1, .ref l0, .int v8, .ref v7]) hm dX11_takeTypes_56 rfl ?_
        refine sx_ic (v := 1) hm dX11_takeTypes_58 (by decide) ?_
        replace hf := xl_el hf; obtain ⟨v10, e_v10, hf⟩ := hf
        refine mx_S.pu (pc2 := 60) (lv2 := [(6, .int u6.1), (0, .ref l0), (2, .int l2), (3, .int l3), (4, .int l4), (5, .int l5)]) (st2 := [.int v10, .ref v9, .int u6.1, .ref l0, .int v8, .ref v7]) hm dX11_takeTypes_59 (by rw [← e_v10]; rfl) ?_
        clear e_v10
        replace hf := mx_gd_el hf; obtain ⟨c11, hf⟩ := hf
        replace hf := mx_sv_el hf; obtain ⟨u12, e_u12, hf⟩ := hf
        refine sx_cv hm dX11_takeTypes_60 rs_RX11_183 mt_X3_byteAt [.int v10] [.int u6.1, .ref l0, .int v8, .ref v7] (b := v9) (ci := 3) rfl rfl rfl c11 (Nat.le_of_ble_eq_true rfl) (Nat.le_of_ble_eq_true rfl) (by omega) (by omega) (f_X3_byteAt_ok X (by omega) (by omega) nn v9 v10 u6.2 e_u12) ?_
        clear e_u12
        show mx_S X F L 330 63 [(6, .int u6.1), (0, .ref l0), (2, .int l2), (3, .int l3), (4, .int l4), (5, .int l5)] [.int u12.1, .int u6.1, .ref l0, .int v8, .ref v7] u12.2 0 0 (some (.int r.1), r.2, 0, 0)
        replace hf := mx_gd_el hf; obtain ⟨c13, hf⟩ := hf
        replace hf := mx_sv_el hf; obtain ⟨u14, e_u14, hf⟩ := hf
        refine sx_cv hm dX11_takeTypes_63 rs_RX11_236 mt_X11_typeOfTag [.int u6.1, .int u12.1] [.int v8, .ref v7] (b := l0) (ci := 11) rfl rfl rfl c13 (Nat.le_of_ble_eq_true rfl) (Nat.le_of_ble_eq_true rfl) (by omega) (by omega) (f_X11_typeOfTag_ok X (by omega) (by omega) nn l0 u6.1 u12.1 u12.2 e_u14) ?_
        clear e_u14
        show mx_S X F L 330 66 [(6, .int u6.1), (0, .ref l0), (2, .int l2), (3, .int l3), (4, .int l4), (5, .int l5)] [.int u14.1, .int v8, .ref v7] u14.2 0 0 (some (.int r.1), r.2, 0, 0)
        replace hf := mx_sv_el hf; obtain ⟨h15, e_h15, hf⟩ := hf
        refine sx_ast hm dX11_takeTypes_66 e_h15 ?_
        clear e_h15
        refine mx_S.ext [(0, .ref l0), (2, .int l2), (3, .int l3), (4, .int l4), (5, .int l5), (6, .int u6.1)] (mx_sub_pos [1, 2, 3, 4, 5, 0] rfl (show ([6, 0, 2, 3, 4, 5] : List Nat).Nodup by decide)) ?_
        exact j_X11_takeTypes_67_ok X hF hL nn ih l0 l2 l3 l4 l5 u6.1 h15 hf
set_option maxHeartbeats 4000000 in
set_option maxRecDepth 20000 in
theorem f_X11_takeTypes_ok (X : Nat × (Nat → Int32)) {F L : Nat} (hF : 1 ≤ F) (hL : 22 ≤ L) (nn : Nat) (a0 : Nat) (a1 : Int32) (a2 : Int32) (h : mx_H) {r : (Int32 × mx_H)} (hf : f_X11_takeTypes nn a0 a1 a2 h = some r) : mx_R X F L 330 [.ref a0, .int a1, .int a2] h (some (.int r.1), r.2, 0, 0) := by
  have hm : mx_mt 330 = some (yX11_takeTypes, cX11_takeTypes, 7, (some .int)) := mt_X11_takeTypes
  show mx_S X F L 330 0 [(0, .ref a0), (1, .int a1), (2, .int a2)] [] h 0 0 (some (.int r.1), r.2, 0, 0)
  unfold f_X11_takeTypes at hf
  refine mx_S.pu (pc2 := 1) (lv2 := [(0, .ref a0), (1, .int a1), (2, .int a2)]) (st2 := [.ref a0]) hm dX11_takeTypes_0 rfl ?_
  replace hf := mx_sv_el hf; obtain ⟨v18, e_v18, hf⟩ := hf
  refine sx_get hm dX11_takeTypes_1 rs_RX11_62 (xgr_el e_v18) ?_
  clear e_v18
  refine mx_S.pu (pc2 := 5) (lv2 := [(0, .ref a0), (1, .int a1), (2, .int a2)]) (st2 := [.int a1, .ref v18]) hm dX11_takeTypes_4 rfl ?_
  replace hf := mx_gd_el hf; obtain ⟨c19, hf⟩ := hf
  replace hf := mx_sv_el hf; obtain ⟨u20, e_u20, hf⟩ := hf
  refine sx_cv hm dX11_takeTypes_5 rs_RX11_183 mt_X3_byteAt [.int a1] [] (b := v18) (ci := 3) rfl rfl rfl c19 (Nat.le_of_ble_eq_true rfl) (Nat.le_of_ble_eq_true rfl) (by omega) (by omega) (f_X3_byteAt_ok X (by omega) (by omega) nn v18 a1 h e_u20) ?_
  clear e_u20
  show mx_S X F L 330 8 [(0, .ref a0), (1, .int a1), (2, .int a2)] [.int u20.1] u20.2 0 0 (some (.int r.1), r.2, 0, 0)
  refine mx_S.pu (pc2 := 9) (lv2 := [(3, .int u20.1), (0, .ref a0), (1, .int a1), (2, .int a2)]) (st2 := []) hm dX11_takeTypes_8 rfl ?_
  refine mx_S.pu (pc2 := 10) (lv2 := [(3, .int u20.1), (0, .ref a0), (1, .int a1), (2, .int a2)]) (st2 := [.int a1]) hm dX11_takeTypes_9 rfl ?_
  refine sx_ic (v := 1) hm dX11_takeTypes_10 (by decide) ?_
  replace hf := xl_el hf; obtain ⟨v21, e_v21, hf⟩ := hf
  refine mx_S.pu (pc2 := 12) (lv2 := [(3, .int u20.1), (0, .ref a0), (1, .int a1), (2, .int a2)]) (st2 := [.int v21]) hm dX11_takeTypes_11 (by rw [← e_v21]; rfl) ?_
  clear e_v21
  refine mx_S.pu (pc2 := 14) (lv2 := [(4, .int v21), (3, .int u20.1), (0, .ref a0), (1, .int a1), (2, .int a2)]) (st2 := []) hm dX11_takeTypes_12 rfl ?_
  refine sx_ic (v := 0) hm dX11_takeTypes_14 (by decide) ?_
  refine mx_S.pu (pc2 := 17) (lv2 := [(5, .int 0), (4, .int v21), (3, .int u20.1), (0, .ref a0), (1, .int a1), (2, .int a2)]) (st2 := []) hm dX11_takeTypes_15 rfl ?_
  refine mx_S.ext [(0, .ref a0), (2, .int a2), (3, .int u20.1), (4, .int v21), (5, .int 0)] (mx_sub_pos [3, 5, 2, 1, 0] rfl (show ([5, 4, 3, 0, 1, 2] : List Nat).Nodup by decide)) ?_
  exact w_X11_takeTypes_17_ok X hF hL nn nn a0 a2 u20.1 v21 0 u20.2 _ hf
set_option maxHeartbeats 4000000 in
set_option maxRecDepth 20000 in
theorem w_X11_takeFrames_9_ok (X : Nat × (Nat → Int32)) {F L : Nat} (hF : 2 ≤ F) (hL : 48 ≤ L) (nn : Nat) : ∀ (k : Nat) (l0 : Nat) (l1 : Int32) (l2 : Int32) (l3 : Int32) (h : mx_H) (r : mx_H), w_X11_takeFrames_9 nn k l0 l1 l2 l3 h = some r → mx_S X F L 329 9 [(0, .ref l0), (1, .int l1), (2, .int l2), (3, .int l3)] [] h 0 0 (none, r, 0, 0) := by
  have hm : mx_mt 329 = some (yX11_takeFrames, cX11_takeFrames, 6, none) := mt_X11_takeFrames
  intro k
  induction k with
  | zero => intro l0 l1 l2 l3 h r hf; cases hf
  | succ k ih =>
    intro l0 l1 l2 l3 h r hf
    unfold w_X11_takeFrames_9 at hf
    refine mx_S.pu (pc2 := 10) (lv2 := [(0, .ref l0), (1, .int l1), (2, .int l2), (3, .int l3)]) (st2 := [.int l3]) hm dX11_takeFrames_9 rfl ?_
    refine mx_S.pu (pc2 := 11) (lv2 := [(0, .ref l0), (1, .int l1), (2, .int l2), (3, .int l3)]) (st2 := [.ref l0, .int l3]) hm dX11_takeFrames_10 rfl ?_
    refine sx_bi (v := 9) hm dX11_takeFrames_11 (by decide) ?_
    replace hf := mx_gd_el hf; obtain ⟨c1, hf⟩ := hf
    replace hf := mx_sv_el hf; obtain ⟨u2, e_u2, hf⟩ := hf
    refine sx_cv hm dX11_takeFrames_13 rs_RX11_189 mt_X11_info [.int 9] [.int l3] (b := l0) (ci := 11) rfl rfl rfl c1 (Nat.le_of_ble_eq_true rfl) (Nat.le_of_ble_eq_true rfl) (by omega) (by omega) (f_X11_info_ok X (by omega) (by omega) nn l0 9 h e_u2) ?_
    clear e_u2
    show mx_S X F L 329 16 [(0, .ref l0), (1, .int l1), (2, .int l2), (3, .int l3)] [.int u2.1, .int l3] u2.2 0 0 (none, r, 0, 0)
    rcases mx_if_el hf with ⟨c41, hf⟩ | ⟨c41, hf⟩
    · refine sb_ic_ge hm dX11_takeFrames_16 (tgt := 141) rfl (fun _ => ?_) (fun z => absurd c41 z)
      cases hf
      exact sx_ret hm dX11_takeFrames_141 rfl
    · refine sb_ic_ge hm dX11_takeFrames_16 (tgt := 141) rfl (fun z => absurd z c41) (fun _ => ?_)
      refine mx_S.pu (pc2 := 20) (lv2 := [(0, .ref l0), (1, .int l1), (2, .int l2), (3, .int l3)]) (st2 := [.int l1]) hm dX11_takeFrames_19 rfl ?_
      rcases mx_if_el hf with ⟨c40, hf⟩ | ⟨c40, hf⟩
      · refine sb_if_eq hm dX11_takeFrames_20 (tgt := 141) rfl (fun _ => ?_) (fun z => absurd c40 z)
        cases hf
        exact sx_ret hm dX11_takeFrames_141 rfl
      · refine sb_if_eq hm dX11_takeFrames_20 (tgt := 141) rfl (fun z => absurd z c40) (fun _ => ?_)
        refine mx_S.pu (pc2 := 24) (lv2 := [(0, .ref l0), (1, .int l1), (2, .int l2), (3, .int l3)]) (st2 := [.int l3]) hm dX11_takeFrames_23 rfl ?_
        refine sx_bi (v := 64) hm dX11_takeFrames_24 (by decide) ?_
        replace hf := xl_el hf; obtain ⟨v3, e_v3, hf⟩ := hf
        refine mx_S.pu (pc2 := 27) (lv2 := [(0, .ref l0), (1, .int l1), (2, .int l2), (3, .int l3)]) (st2 := [.int v3]) hm dX11_takeFrames_26 (by rw [← e_v3]; rfl) ?_
        clear e_v3
        refine mx_S.pu (pc2 := 29) (lv2 := [(4, .int v3), (0, .ref l0), (1, .int l1), (2, .int l2), (3, .int l3)]) (st2 := []) hm dX11_takeFrames_27 rfl ?_
        refine mx_S.pu (pc2 := 30) (lv2 := [(4, .int v3), (0, .ref l0), (1, .int l1), (2, .int l2), (3, .int l3)]) (st2 := [.ref l0]) hm dX11_takeFrames_29 rfl ?_
        replace hf := mx_sv_el hf; obtain ⟨v4, e_v4, hf⟩ := hf
        refine sx_get hm dX11_takeFrames_30 rs_RX11_62 (xgr_el e_v4) ?_
        clear e_v4
        refine mx_S.pu (pc2 := 34) (lv2 := [(4, .int v3), (0, .ref l0), (1, .int l1), (2, .int l2), (3, .int l3)]) (st2 := [.int l2, .ref v4]) hm dX11_takeFrames_33 rfl ?_
        replace hf := mx_gd_el hf; obtain ⟨c5, hf⟩ := hf
        replace hf := mx_sv_el hf; obtain ⟨u6, e_u6, hf⟩ := hf
        refine sx_cv hm dX11_takeFrames_34 rs_RX11_230 mt_X3_pairAt [.int l2] [] (b := v4) (ci := 3) rfl rfl rfl c5 (Nat.le_of_ble_eq_true rfl) (Nat.le_of_ble_eq_true rfl) (by omega) (by omega) (f_X3_pairAt_ok X (by omega) (by omega) nn v4 l2 u2.2 e_u6) ?_
        clear e_u6
        show mx_S X F L 329 37 [(4, .int v3), (0, .ref l0), (1, .int l1), (2, .int l2), (3, .int l3)] [.int u6.1] u6.2 0 0 (none, r, 0, 0)
        refine mx_S.pu (pc2 := 39) (lv2 := [(5, .int u6.1), (4, .int v3), (0, .ref l0), (1, .int l1), (2, .int l2), (3, .int l3)]) (st2 := []) hm dX11_takeFrames_37 rfl ?_
        refine mx_S.pu (pc2 := 40) (lv2 := [(5, .int u6.1), (4, .int v3), (0, .ref l0), (1, .int l1), (2, .int l2), (3, .int l3)]) (st2 := [.ref l0]) hm dX11_takeFrames_39 rfl ?_
        replace hf := mx_sv_el hf; obtain ⟨v7, e_v7, hf⟩ := hf
        refine sx_get hm dX11_takeFrames_40 rs_RX11_41 (xgr_el e_v7) ?_
        clear e_v7
        refine mx_S.pu (pc2 := 45) (lv2 := [(5, .int u6.1), (4, .int v3), (0, .ref l0), (1, .int l1), (2, .int l2), (3, .int l3)]) (st2 := [.int v3, .ref v7]) hm dX11_takeFrames_43 rfl ?_
        refine mx_S.pu (pc2 := 47) (lv2 := [(5, .int u6.1), (4, .int v3), (0, .ref l0), (1, .int l1), (2, .int l2), (3, .int l3)]) (st2 := [.int u6.1, .int v3, .ref v7]) hm dX11_takeFrames_45 rfl ?_
        replace hf := mx_sv_el hf; obtain ⟨h8, e_h8, hf⟩ := hf
        refine sx_ast hm dX11_takeFrames_47 e_h8 ?_
        clear e_h8
        refine mx_S.pu (pc2 := 49) (lv2 := [(5, .int u6.1), (4, .int v3), (0, .ref l0), (1, .int l1), (2, .int l2), (3, .int l3)]) (st2 := [.ref l0]) hm dX11_takeFrames_48 rfl ?_
        replace hf := mx_sv_el hf; obtain ⟨v9, e_v9, hf⟩ := hf
        refine sx_get hm dX11_takeFrames_49 rs_RX11_41 (xgr_el e_v9) ?_
        clear e_v9
        refine mx_S.pu (pc2 := 54) (lv2 := [(5, .int u6.1), (4, .int v3), (0, .ref l0), (1, .int l1), (2, .int l2), (3, .int l3)]) (st2 := [.int v3, .ref v9]) hm dX11_takeFrames_52 rfl ?_
        refine sx_ic (v := 1) hm dX11_takeFrames_54 (by decide) ?_
        replace hf := xl_el hf; obtain ⟨v10, e_v10, hf⟩ := hf
        refine mx_S.pu (pc2 := 56) (lv2 := [(5, .int u6.1), (4, .int v3), (0, .ref l0), (1, .int l1), (2, .int l2), (3, .int l3)]) (st2 := [.int v10, .ref v9]) hm dX11_takeFrames_55 (by rw [← e_v10]; rfl) ?_
        clear e_v10
        refine mx_S.pu (pc2 := 57) (lv2 := [(5, .int u6.1), (4, .int v3), (0, .ref l0), (1, .int l1), (2, .int l2), (3, .int l3)]) (st2 := [.ref l0, .int v10, .ref v9]) hm dX11_takeFrames_56 rfl ?_
        replace hf := mx_sv_el hf; obtain ⟨v11, e_v11, hf⟩ := hf
        refine sx_get hm dX11_takeFrames_57 rs_RX11_62 (xgr_el e_v11) ?_
        clear e_v11
        refine mx_S.pu (pc2 := 61) (lv2 := [(5, .int u6.1), (4, .int v3), (0, .ref l0), (1, .int l1), (2, .int l2), (3, .int l3)]) (st2 := [.int l2, .ref v11, .int v10, .ref v9]) hm dX11_takeFrames_60 rfl ?_
        refine sx_ic (v := 2) hm dX11_takeFrames_61 (by decide) ?_
        replace hf := xl_el hf; obtain ⟨v12, e_v12, hf⟩ := hf
        refine mx_S.pu (pc2 := 63) (lv2 := [(5, .int u6.1), (4, .int v3), (0, .ref l0), (1, .int l1), (2, .int l2), (3, .int l3)]) (st2 := [.int v12, .ref v11, .int v10, .ref v9]) hm dX11_takeFrames_62 (by rw [← e_v12]; rfl) ?_
        clear e_v12
        replace hf := mx_gd_el hf; obtain ⟨c13, hf⟩ := hf
        replace hf := mx_sv_el hf; obtain ⟨u14, e_u14, hf⟩ := hf
        refine sx_cv hm dX11_takeFrames_63 rs_RX11_183 mt_X3_byteAt [.int v12] [.int v10, .ref v9] (b := v11) (ci := 3) rfl rfl rfl c13 (Nat.le_of_ble_eq_true rfl) (Nat.le_of_ble_eq_true rfl) (by omega) (by omega) (f_X3_byteAt_ok X (by omega) (by omega) nn v11 v12 h8 e_u14) ?_
        clear e_u14
        show mx_S X F L 329 66 [(5, .int u6.1), (4, .int v3), (0, .ref l0), (1, .int l1), (2, .int l2), (3, .int l3)] [.int u14.1, .int v10, .ref v9] u14.2 0 0 (none, r, 0, 0)
        replace hf := mx_sv_el hf; obtain ⟨h15, e_h15, hf⟩ := hf
        refine sx_ast hm dX11_takeFrames_66 e_h15 ?_
        clear e_h15
        refine mx_S.pu (pc2 := 68) (lv2 := [(5, .int u6.1), (4, .int v3), (0, .ref l0), (1, .int l1), (2, .int l2), (3, .int l3)]) (st2 := [.ref l0]) hm dX11_takeFrames_67 rfl ?_
        refine mx_S.pu (pc2 := 69) (lv2 := [(5, .int u6.1), (4, .int v3), (0, .ref l0), (1, .int l1), (2, .int l2), (3, .int l3)]) (st2 := [.int l2, .ref l0]) hm dX11_takeFrames_68 rfl ?_
        refine sx_ic (v := 2) hm dX11_takeFrames_69 (by decide) ?_
        replace hf := xl_el hf; obtain ⟨v16, e_v16, hf⟩ := hf
        refine mx_S.pu (pc2 := 71) (lv2 := [(5, .int u6.1), (4, .int v3), (0, .ref l0), (1, .int l1), (2, .int l2), (3, .int l3)]) (st2 := [.int v16, .ref l0]) hm dX11_takeFrames_70 (by rw [← e_v16]; rfl) ?_
        clear e_v16
        refine mx_S.pu (pc2 := 73) (lv2 := [(5, .int u6.1), (4, .int v3), (0, .ref l0), (1, .int l1), (2, .int l2), (3, .int l3)]) (st2 := [.int v3, .int v16, .ref l0]) hm dX11_takeFrames_71 rfl ?_
        refine sx_ic (v := 3) hm dX11_takeFrames_73 (by decide) ?_
        replace hf := xl_el hf; obtain ⟨v17, e_v17, hf⟩ := hf
        refine mx_S.pu (pc2 := 75) (lv2 := [(5, .int u6.1), (4, .int v3), (0, .ref l0), (1, .int l1), (2, .int l2), (3, .int l3)]) (st2 := [.int v17, .int v16, .ref l0]) hm dX11_takeFrames_74 (by rw [← e_v17]; rfl) ?_
        clear e_v17
        replace hf := mx_gd_el hf; obtain ⟨c18, hf⟩ := hf
        replace hf := mx_sv_el hf; obtain ⟨u19, e_u19, hf⟩ := hf
        refine sx_cv hm dX11_takeFrames_75 rs_RX11_233 mt_X11_takeTypes [.int v16, .int v17] [] (b := l0) (ci := 11) rfl rfl rfl c18 (Nat.le_of_ble_eq_true rfl) (Nat.le_of_ble_eq_true rfl) (by omega) (by omega) (f_X11_takeTypes_ok X (by omega) (by omega) nn l0 v16 v17 h15 e_u19) ?_
        clear e_u19
        show mx_S X F L 329 78 [(5, .int u6.1), (4, .int v3), (0, .ref l0), (1, .int l1), (2, .int l2), (3, .int l3)] [.int u19.1] u19.2 0 0 (none, r, 0, 0)
        refine mx_S.pu (pc2 := 79) (lv2 := [(2, .int u19.1), (5, .int u6.1), (4, .int v3), (0, .ref l0), (1, .int l1), (3, .int l3)]) (st2 := []) hm dX11_takeFrames_78 rfl ?_
        refine mx_S.pu (pc2 := 80) (lv2 := [(2, .int u19.1), (5, .int u6.1), (4, .int v3), (0, .ref l0), (1, .int l1), (3, .int l3)]) (st2 := [.ref l0]) hm dX11_takeFrames_79 rfl ?_
        replace hf := mx_sv_el hf; obtain ⟨v20, e_v20, hf⟩ := hf
        refine sx_get hm dX11_takeFrames_80 rs_RX11_41 (xgr_el e_v20) ?_
        clear e_v20
        refine mx_S.pu (pc2 := 85) (lv2 := [(2, .int u19.1), (5, .int u6.1), (4, .int v3), (0, .ref l0), (1, .int l1), (3, .int l3)]) (st2 := [.int v3, .ref v20]) hm dX11_takeFrames_83 rfl ?_
        refine sx_ic (v := 2) hm dX11_takeFrames_85 (by decide) ?_
        replace hf := xl_el hf; obtain ⟨v21, e_v21, hf⟩ := hf
        refine mx_S.pu (pc2 := 87) (lv2 := [(2, .int u19.1), (5, .int u6.1), (4, .int v3), (0, .ref l0), (1, .int l1), (3, .int l3)]) (st2 := [.int v21, .ref v20]) hm dX11_takeFrames_86 (by rw [← e_v21]; rfl) ?_
        clear e_v21
        refine mx_S.pu (pc2 := 88) (lv2 := [(2, .int u19.1), (5, .int u6.1), (4, .int v3), (0, .ref l0), (1, .int l1), (3, .int l3)]) (st2 := [.ref l0, .int v21, .ref v20]) hm dX11_takeFrames_87 rfl ?_
        replace hf := mx_sv_el hf; obtain ⟨v22, e_v22, hf⟩ := hf
        refine sx_get hm dX11_takeFrames_88 rs_RX11_62 (xgr_el e_v22) ?_
        clear e_v22
        refine mx_S.pu (pc2 := 92) (lv2 := [(2, .int u19.1), (5, .int u6.1), (4, .int v3), (0, .ref l0), (1, .int l1), (3, .int l3)]) (st2 := [.int u19.1, .ref v22, .int v21, .ref v20]) hm dX11_takeFrames_91 rfl ?_
        replace hf := mx_gd_el hf; obtain ⟨c23, hf⟩ := hf
        replace hf := mx_sv_el hf; obtain ⟨u24, e_u24, hf⟩ := hf
        refine sx_cv hm dX11_takeFrames_92 rs_RX11_183 mt_X3_byteAt [.int u19.1] [.int v21, .ref v20] (b := v22) (ci := 3) rfl rfl rfl c23 (Nat.le_of_ble_eq_true rfl) (Nat.le_of_ble_eq_true rfl) (by omega) (by omega) (f_X3_byteAt_ok X (by omega) (by omega) nn v22 u19.1 u19.2 e_u24) ?_
        clear e_u24
        show mx_S X F L 329 95 [(2, .int u19.1), (5, .int u6.1), (4, .int v3), (0, .ref l0), (1, .int l1), (3, .int l3)] [.int u24.1, .int v21, .ref v20] u24.2 0 0 (none, r, 0, 0)
        replace hf := mx_sv_el hf; obtain ⟨h25, e_h25, hf⟩ := hf
        refine sx_ast hm dX11_takeFrames_95 e_h25 ?_
        clear e_h25
        refine mx_S.pu (pc2 := 97) (lv2 := [(2, .int u19.1), (5, .int u6.1), (4, .int v3), (0, .ref l0), (1, .int l1), (3, .int l3)]) (st2 := [.ref l0]) hm dX11_takeFrames_96 rfl ?_
        refine mx_S.pu (pc2 := 98) (lv2 := [(2, .int u19.1), (5, .int u6.1), (4, .int v3), (0, .ref l0), (1, .int l1), (3, .int l3)]) (st2 := [.int u19.1, .ref l0]) hm dX11_takeFrames_97 rfl ?_
        refine mx_S.pu (pc2 := 100) (lv2 := [(2, .int u19.1), (5, .int u6.1), (4, .int v3), (0, .ref l0), (1, .int l1), (3, .int l3)]) (st2 := [.int v3, .int u19.1, .ref l0]) hm dX11_takeFrames_98 rfl ?_
        refine sx_bi (v := 33) hm dX11_takeFrames_100 (by decide) ?_
        replace hf := xl_el hf; obtain ⟨v26, e_v26, hf⟩ := hf
        refine mx_S.pu (pc2 := 103) (lv2 := [(2, .int u19.1), (5, .int u6.1), (4, .int v3), (0, .ref l0), (1, .int l1), (3, .int l3)]) (st2 := [.int v26, .int u19.1, .ref l0]) hm dX11_takeFrames_102 (by rw [← e_v26]; rfl) ?_
        clear e_v26
        replace hf := mx_gd_el hf; obtain ⟨c27, hf⟩ := hf
        replace hf := mx_sv_el hf; obtain ⟨u28, e_u28, hf⟩ := hf
        refine sx_cv hm dX11_takeFrames_103 rs_RX11_233 mt_X11_takeTypes [.int u19.1, .int v26] [] (b := l0) (ci := 11) rfl rfl rfl c27 (Nat.le_of_ble_eq_true rfl) (Nat.le_of_ble_eq_true rfl) (by omega) (by omega) (f_X11_takeTypes_ok X (by omega) (by omega) nn l0 u19.1 v26 h25 e_u28) ?_
        clear e_u28
        show mx_S X F L 329 106 [(2, .int u19.1), (5, .int u6.1), (4, .int v3), (0, .ref l0), (1, .int l1), (3, .int l3)] [.int u28.1] u28.2 0 0 (none, r, 0, 0)
        refine mx_S.pu (pc2 := 107) (lv2 := [(2, .int u28.1), (5, .int u6.1), (4, .int v3), (0, .ref l0), (1, .int l1), (3, .int l3)]) (st2 := []) hm dX11_takeFrames_106 rfl ?_
        refine mx_S.pu (pc2 := 108) (lv2 := [(2, .int u28.1), (5, .int u6.1), (4, .int v3), (0, .ref l0), (1, .int l1), (3, .int l3)]) (st2 := [.ref l0]) hm dX11_takeFrames_107 rfl ?_
        refine mx_S.pu (pc2 := 110) (lv2 := [(2, .int u28.1), (5, .int u6.1), (4, .int v3), (0, .ref l0), (1, .int l1), (3, .int l3)]) (st2 := [.int u6.1, .ref l0]) hm dX11_takeFrames_108 rfl ?_
        replace hf := mx_gd_el hf; obtain ⟨c29, hf⟩ := hf
        replace hf := mx_sv_el hf; obtain ⟨u30, e_u30, hf⟩ := hf
        refine sx_cv hm dX11_takeFrames_110 rs_RX11_224 mt_X11_begins [.int u6.1] [] (b := l0) (ci := 11) rfl rfl rfl c29 (Nat.le_of_ble_eq_true rfl) (Nat.le_of_ble_eq_true rfl) (by omega) (by omega) (f_X11_begins_ok X (by omega) (by omega) nn l0 u6.1 u28.2 e_u30) ?_
        clear e_u30
        show mx_S X F L 329 113 [(2, .int u28.1), (5, .int u6.1), (4, .int v3), (0, .ref l0), (1, .int l1), (3, .int l3)] [.int u30.1] u30.2 0 0 (none, r, 0, 0)
        rcases mx_if_el hf with ⟨c39, hf⟩ | ⟨c39, hf⟩
        · refine sb_if_eq hm dX11_takeFrames_113 (tgt := 135) rfl (fun _ => ?_) (fun z => absurd c39 z)
          replace hf := xl_el hf; obtain ⟨v31, e_v31, hf⟩ := hf
          refine mx_S.pu (pc2 := 138) (lv2 := [(3, .int v31), (2, .int u28.1), (5, .int u6.1), (4, .int v3), (0, .ref l0), (1, .int l1)]) (st2 := []) hm dX11_takeFrames_135 (by rw [← e_v31]; rfl) ?_
          clear e_v31
          refine mx_S.pu (pc2 := 9) (lv2 := [(3, .int v31), (2, .int u28.1), (5, .int u6.1), (4, .int v3), (0, .ref l0), (1, .int l1)]) (st2 := []) hm dX11_takeFrames_138 rfl ?_
          refine mx_S.ext [(0, .ref l0), (1, .int l1), (2, .int u28.1), (3, .int v31)] (mx_sub_pos [4, 5, 1, 0] rfl (show ([3, 2, 5, 4, 0, 1] : List Nat).Nodup by decide)) ?_
          exact ih l0 l1 u28.1 v31 u30.2 _ hf
        · refine sb_if_eq hm dX11_takeFrames_113 (tgt := 135) rfl (fun z => absurd z c39) (fun _ => ?_)
          refine mx_S.pu (pc2 := 117) (lv2 := [(2, .int u28.1), (5, .int u6.1), (4, .int v3), (0, .ref l0), (1, .int l1), (3, .int l3)]) (st2 := [.ref l0]) hm dX11_takeFrames_116 rfl ?_
          replace hf := mx_sv_el hf; obtain ⟨v32, e_v32, hf⟩ := hf
          refine sx_get hm dX11_takeFrames_117 rs_RX11_38 (xgr_el e_v32) ?_
          clear e_v32
          refine mx_S.pu (pc2 := 122) (lv2 := [(2, .int u28.1), (5, .int u6.1), (4, .int v3), (0, .ref l0), (1, .int l1), (3, .int l3)]) (st2 := [.int u6.1, .ref v32]) hm dX11_takeFrames_120 rfl ?_
          replace hf := mx_sv_el hf; obtain ⟨v33, e_v33, hf⟩ := hf
          refine sx_ald hm dX11_takeFrames_122 e_v33 ?_
          clear e_v33
          refine sx_ic (v := (-1)) hm dX11_takeFrames_123 (by decide) ?_
          rcases mx_if_el hf with ⟨c38, hf⟩ | ⟨c38, hf⟩
          · refine sb_ic_ne hm dX11_takeFrames_124 (tgt := 135) rfl (fun _ => ?_) (fun z => absurd c38 z)
            replace hf := xl_el hf; obtain ⟨v34, e_v34, hf⟩ := hf
            refine mx_S.pu (pc2 := 138) (lv2 := [(3, .int v34), (2, .int u28.1), (5, .int u6.1), (4, .int v3), (0, .ref l0), (1, .int l1)]) (st2 := []) hm dX11_takeFrames_135 (by rw [← e_v34]; rfl) ?_
            clear e_v34
            refine mx_S.pu (pc2 := 9) (lv2 := [(3, .int v34), (2, .int u28.1), (5, .int u6.1), (4, .int v3), (0, .ref l0), (1, .int l1)]) (st2 := []) hm dX11_takeFrames_138 rfl ?_
            refine mx_S.ext [(0, .ref l0), (1, .int l1), (2, .int u28.1), (3, .int v34)] (mx_sub_pos [4, 5, 1, 0] rfl (show ([3, 2, 5, 4, 0, 1] : List Nat).Nodup by decide)) ?_
            exact ih l0 l1 u28.1 v34 u30.2 _ hf
          · refine sb_ic_ne hm dX11_takeFrames_124 (tgt := 135) rfl (fun z => absurd z c38) (fun _ => ?_)
            refine mx_S.pu (pc2 := 128) (lv2 := [(2, .int u28.1), (5, .int u6.1), (4, .int v3), (0, .ref l0), (1, .int l1), (3, .int l3)]) (st2 := [.ref l0]) hm dX11_takeFrames_127 rfl ?_
            replace hf := mx_sv_el hf; obtain ⟨v35, e_v35, hf⟩ := hf
            refine sx_get hm dX11_takeFrames_128 rs_RX11_38 (xgr_el e_v35) ?_
            clear e_v35
            refine mx_S.pu (pc2 := 133) (lv2 := [(2, .int u28.1), (5, .int u6.1), (4, .int v3), (0, .ref l0), (1, .int l1), (3, .int l3)]) (st2 := [.int u6.1, .ref v35]) hm dX11_takeFrames_131 rfl ?_
            refine mx_S.pu (pc2 := 134) (lv2 := [(2, .int u28.1), (5, .int u6.1), (4, .int v3), (0, .ref l0), (1, .int l1), (3, .int l3)]) (st2 := [.int l3, .int u6.1, .ref v35]) hm dX11_takeFrames_133 rfl ?_
            replace hf := mx_sv_el hf; obtain ⟨h36, e_h36, hf⟩ := hf
            refine sx_ast hm dX11_takeFrames_134 e_h36 ?_
            clear e_h36
            replace hf := xl_el hf; obtain ⟨v37, e_v37, hf⟩ := hf
            refine mx_S.pu (pc2 := 138) (lv2 := [(3, .int v37), (2, .int u28.1), (5, .int u6.1), (4, .int v3), (0, .ref l0), (1, .int l1)]) (st2 := []) hm dX11_takeFrames_135 (by rw [← e_v37]; rfl) ?_
            clear e_v37
            refine mx_S.pu (pc2 := 9) (lv2 := [(3, .int v37), (2, .int u28.1), (5, .int u6.1), (4, .int v3), (0, .ref l0), (1, .int l1)]) (st2 := []) hm dX11_takeFrames_138 rfl ?_
            refine mx_S.ext [(0, .ref l0), (1, .int l1), (2, .int u28.1), (3, .int v37)] (mx_sub_pos [4, 5, 1, 0] rfl (show ([3, 2, 5, 4, 0, 1] : List Nat).Nodup by decide)) ?_
            exact ih l0 l1 u28.1 v37 h36 _ hf
set_option maxHeartbeats 4000000 in
set_option maxRecDepth 20000 in
theorem f_X11_takeFrames_ok (X : Nat × (Nat → Int32)) {F L : Nat} (hF : 2 ≤ F) (hL : 48 ≤ L) (nn : Nat) (a0 : Nat) (a1 : Int32) (h : mx_H) {r : mx_H} (hf : f_X11_takeFrames nn a0 a1 h = some r) : mx_R X F L 329 [.ref a0, .int a1] h (none, r, 0, 0) := by
  have hm : mx_mt 329 = some (yX11_takeFrames, cX11_takeFrames, 6, none) := mt_X11_takeFrames
  show mx_S X F L 329 0 [(0, .ref a0), (1, .int a1)] [] h 0 0 (none, r, 0, 0)
  unfold f_X11_takeFrames at hf
  refine mx_S.pu (pc2 := 1) (lv2 := [(0, .ref a0), (1, .int a1)]) (st2 := [.ref a0]) hm dX11_takeFrames_0 rfl ?_
  refine sx_bi (v := 10) hm dX11_takeFrames_1 (by decide) ?_
  replace hf := mx_gd_el hf; obtain ⟨c42, hf⟩ := hf
  replace hf := mx_sv_el hf; obtain ⟨u43, e_u43, hf⟩ := hf
  refine sx_cv hm dX11_takeFrames_3 rs_RX11_189 mt_X11_info [.int 10] [] (b := a0) (ci := 11) rfl rfl rfl c42 (Nat.le_of_ble_eq_true rfl) (Nat.le_of_ble_eq_true rfl) (by omega) (by omega) (f_X11_info_ok X (by omega) (by omega) nn a0 10 h e_u43) ?_
  clear e_u43
  show mx_S X F L 329 6 [(0, .ref a0), (1, .int a1)] [.int u43.1] u43.2 0 0 (none, r, 0, 0)
  refine mx_S.pu (pc2 := 7) (lv2 := [(2, .int u43.1), (0, .ref a0), (1, .int a1)]) (st2 := []) hm dX11_takeFrames_6 rfl ?_
  refine sx_ic (v := 0) hm dX11_takeFrames_7 (by decide) ?_
  refine mx_S.pu (pc2 := 9) (lv2 := [(3, .int 0), (2, .int u43.1), (0, .ref a0), (1, .int a1)]) (st2 := []) hm dX11_takeFrames_8 rfl ?_
  refine mx_S.ext [(0, .ref a0), (1, .int a1), (2, .int u43.1), (3, .int 0)] (mx_sub_pos [2, 3, 1, 0] rfl (show ([3, 2, 0, 1] : List Nat).Nodup by decide)) ?_
  exact w_X11_takeFrames_9_ok X hF hL nn nn a0 a1 u43.1 0 u43.2 _ hf
set_option maxHeartbeats 4000000 in
set_option maxRecDepth 20000 in
theorem j_X11_proveMethods_118_ok (X : Nat × (Nat → Int32)) {F L : Nat} (hF : 10 ≤ F) (hL : 238 ≤ L) (nn : Nat) {kk_3 : Nat → Int32 → mx_H → Option (Int32 × mx_H)} (hk_3 : ∀ (l0 : Nat) (l1 : Int32) (h : mx_H) (r : (Int32 × mx_H)), kk_3 l0 l1 h = some r → mx_S X F L 308 3 [(0, .ref l0), (1, .int l1)] [] h 0 0 (some (.int r.1), r.2, 0, 0)) {kk_28 : Nat → Int32 → Int32 → mx_H → Option (Int32 × mx_H)} (hk_28 : ∀ (l0 : Nat) (l1 : Int32) (l2 : Int32) (h : mx_H) (r : (Int32 × mx_H)), kk_28 l0 l1 l2 h = some r → mx_S X F L 308 28 [(0, .ref l0), (1, .int l1), (2, .int l2)] [] h 0 0 (some (.int r.1), r.2, 0, 0)) (l0 : Nat) (l1 : Int32) (l2 : Int32) (s0 : Int32) (h : mx_H) {r : (Int32 × mx_H)} (hf : j_X11_proveMethods_118 nn kk_3 kk_28 l0 l1 l2 s0 h = some r) : mx_S X F L 308 118 [(0, .ref l0), (1, .int l1), (2, .int l2)] [.int s0] h 0 0 (some (.int r.1), r.2, 0, 0) := by
  have hm : mx_mt 308 = some (yX11_proveMethods, cX11_proveMethods, 4, (some .int)) := mt_X11_proveMethods
  unfold j_X11_proveMethods_118 at hf
  refine mx_S.pu (pc2 := 119) (lv2 := [(3, .int s0), (0, .ref l0), (1, .int l1), (2, .int l2)]) (st2 := []) hm dX11_proveMethods_118 rfl ?_
  refine mx_S.pu (pc2 := 120) (lv2 := [(3, .int s0), (0, .ref l0), (1, .int l1), (2, .int l2)]) (st2 := [.int s0]) hm dX11_proveMethods_119 rfl ?_
  rcases mx_if_el hf with ⟨c5, hf⟩ | ⟨c5, hf⟩
  · refine sb_if_eq hm dX11_proveMethods_120 (tgt := 135) rfl (fun _ => ?_) (fun z => absurd c5 z)
    replace hf := xl_el hf; obtain ⟨v1, e_v1, hf⟩ := hf
    refine mx_S.pu (pc2 := 138) (lv2 := [(2, .int v1), (3, .int s0), (0, .ref l0), (1, .int l1)]) (st2 := []) hm dX11_proveMethods_135 (by rw [← e_v1]; rfl) ?_
    clear e_v1
    refine mx_S.pu (pc2 := 28) (lv2 := [(2, .int v1), (3, .int s0), (0, .ref l0), (1, .int l1)]) (st2 := []) hm dX11_proveMethods_138 rfl ?_
    refine mx_S.ext [(0, .ref l0), (1, .int l1), (2, .int v1)] (mx_sub_pos [2, 3, 0] rfl (show ([2, 3, 0, 1] : List Nat).Nodup by decide)) ?_
    exact hk_28 l0 l1 v1 h _ hf
  · refine sb_if_eq hm dX11_proveMethods_120 (tgt := 135) rfl (fun z => absurd z c5) (fun _ => ?_)
    refine mx_S.pu (pc2 := 124) (lv2 := [(3, .int s0), (0, .ref l0), (1, .int l1), (2, .int l2)]) (st2 := [.ref l0]) hm dX11_proveMethods_123 rfl ?_
    refine mx_S.pu (pc2 := 125) (lv2 := [(3, .int s0), (0, .ref l0), (1, .int l1), (2, .int l2)]) (st2 := [.int s0, .ref l0]) hm dX11_proveMethods_124 rfl ?_
    refine mx_S.pu (pc2 := 126) (lv2 := [(3, .int s0), (0, .ref l0), (1, .int l1), (2, .int l2)]) (st2 := [.int l1, .int s0, .ref l0]) hm dX11_proveMethods_125 rfl ?_
    refine mx_S.pu (pc2 := 127) (lv2 := [(3, .int s0), (0, .ref l0), (1, .int l1), (2, .int l2)]) (st2 := [.int l2, .int l1, .int s0, .ref l0]) hm dX11_proveMethods_126 rfl ?_
    refine mx_S.pu (pc2 := 128) (lv2 := [(3, .int s0), (0, .ref l0), (1, .int l1), (2, .int l2)]) (st2 := [.ref l0, .int l2, .int l1, .int s0, .ref l0]) hm dX11_proveMethods_127 rfl ?_
    replace hf := mx_sv_el hf; obtain ⟨v2, e_v2, hf⟩ := hf
    refine sx_get hm dX11_proveMethods_128 rs_RX11_129 (xgi_el e_v2) ?_
    clear e_v2
    replace hf := mx_gd_el hf; obtain ⟨c3, hf⟩ := hf
    replace hf := mx_sv_el hf; obtain ⟨u4, e_u4, hf⟩ := hf
    refine sx_cv hm dX11_proveMethods_131 rs_RX11_93 mt_X11_tellNumber [.int s0, .int l1, .int l2, .int v2] [] (b := l0) (ci := 11) rfl rfl rfl c3 (Nat.le_of_ble_eq_true rfl) (Nat.le_of_ble_eq_true rfl) (by omega) (by omega) (f_X11_tellNumber_ok X (by omega) (by omega) nn l0 s0 l1 l2 v2 h e_u4) ?_
    clear e_u4
    show mx_S X F L 308 134 [(3, .int s0), (0, .ref l0), (1, .int l1), (2, .int l2)] [.int u4.1] u4.2 0 0 (some (.int r.1), r.2, 0, 0)
    cases hf
    exact sx_ire hm dX11_proveMethods_134 rfl rfl
set_option maxHeartbeats 4000000 in
set_option maxRecDepth 20000 in
theorem j_X11_proveMethods_100_ok (X : Nat × (Nat → Int32)) {F L : Nat} (hF : 10 ≤ F) (hL : 238 ≤ L) (nn : Nat) {kk_3 : Nat → Int32 → mx_H → Option (Int32 × mx_H)} (hk_3 : ∀ (l0 : Nat) (l1 : Int32) (h : mx_H) (r : (Int32 × mx_H)), kk_3 l0 l1 h = some r → mx_S X F L 308 3 [(0, .ref l0), (1, .int l1)] [] h 0 0 (some (.int r.1), r.2, 0, 0)) {kk_28 : Nat → Int32 → Int32 → mx_H → Option (Int32 × mx_H)} (hk_28 : ∀ (l0 : Nat) (l1 : Int32) (l2 : Int32) (h : mx_H) (r : (Int32 × mx_H)), kk_28 l0 l1 l2 h = some r → mx_S X F L 308 28 [(0, .ref l0), (1, .int l1), (2, .int l2)] [] h 0 0 (some (.int r.1), r.2, 0, 0)) (l0 : Nat) (l1 : Int32) (l2 : Int32) (s0 : Int32) (h : mx_H) {r : (Int32 × mx_H)} (hf : j_X11_proveMethods_100 nn kk_3 kk_28 l0 l1 l2 s0 h = some r) : mx_S X F L 308 100 [(0, .ref l0), (1, .int l1), (2, .int l2)] [.int s0] h 0 0 (some (.int r.1), r.2, 0, 0) := by
  have hm : mx_mt 308 = some (yX11_proveMethods, cX11_proveMethods, 4, (some .int)) := mt_X11_proveMethods
  unfold j_X11_proveMethods_100 at hf
  refine mx_S.pu (pc2 := 101) (lv2 := [(3, .int s0), (0, .ref l0), (1, .int l1), (2, .int l2)]) (st2 := []) hm dX11_proveMethods_100 rfl ?_
  refine mx_S.pu (pc2 := 102) (lv2 := [(3, .int s0), (0, .ref l0), (1, .int l1), (2, .int l2)]) (st2 := [.ref l0]) hm dX11_proveMethods_101 rfl ?_
  refine mx_S.pu (pc2 := 103) (lv2 := [(3, .int s0), (0, .ref l0), (1, .int l1), (2, .int l2)]) (st2 := [.int l1, .ref l0]) hm dX11_proveMethods_102 rfl ?_
  replace hf := mx_gd_el hf; obtain ⟨c6, hf⟩ := hf
  replace hf := mx_sv_el hf; obtain ⟨u7, e_u7, hf⟩ := hf
  refine sx_cv hm dX11_proveMethods_103 rs_RX11_123 mt_X11_beginState [.int l1] [] (b := l0) (ci := 11) rfl rfl rfl c6 (Nat.le_of_ble_eq_true rfl) (Nat.le_of_ble_eq_true rfl) (by omega) (by omega) (f_X11_beginState_ok X (by omega) (by omega) nn l0 l1 h e_u7) ?_
  clear e_u7
  show mx_S X F L 308 106 [(3, .int s0), (0, .ref l0), (1, .int l1), (2, .int l2)] [] u7 0 0 (some (.int r.1), r.2, 0, 0)
  refine mx_S.pu (pc2 := 107) (lv2 := [(3, .int s0), (0, .ref l0), (1, .int l1), (2, .int l2)]) (st2 := [.int s0]) hm dX11_proveMethods_106 rfl ?_
  rcases mx_if_el hf with ⟨c10, hf⟩ | ⟨c10, hf⟩
  · refine sb_if_eq hm dX11_proveMethods_107 (tgt := 114) rfl (fun _ => ?_) (fun z => absurd c10 z)
    refine mx_S.pu (pc2 := 115) (lv2 := [(3, .int s0), (0, .ref l0), (1, .int l1), (2, .int l2)]) (st2 := [.ref l0]) hm dX11_proveMethods_114 rfl ?_
    replace hf := mx_gd_el hf; obtain ⟨c8, hf⟩ := hf
    replace hf := mx_sv_el hf; obtain ⟨u9, e_u9, hf⟩ := hf
    refine sx_cv hm dX11_proveMethods_115 rs_RX11_126 mt_X11_proveStates [] [] (b := l0) (ci := 11) rfl rfl rfl c8 (Nat.le_of_ble_eq_true rfl) (Nat.le_of_ble_eq_true rfl) (by omega) (by omega) (f_X11_proveStates_ok X (by omega) (by omega) nn l0 u7 e_u9) ?_
    clear e_u9
    show mx_S X F L 308 118 [(3, .int s0), (0, .ref l0), (1, .int l1), (2, .int l2)] [.int u9.1] u9.2 0 0 (some (.int r.1), r.2, 0, 0)
    refine mx_S.ext [(0, .ref l0), (1, .int l1), (2, .int l2)] (mx_sub_pos [1, 2, 3] rfl (show ([3, 0, 1, 2] : List Nat).Nodup by decide)) ?_
    exact j_X11_proveMethods_118_ok X hF hL nn hk_3 hk_28 l0 l1 l2 u9.1 u9.2 hf
  · refine sb_if_eq hm dX11_proveMethods_107 (tgt := 114) rfl (fun z => absurd z c10) (fun _ => ?_)
    refine mx_S.pu (pc2 := 111) (lv2 := [(3, .int s0), (0, .ref l0), (1, .int l1), (2, .int l2)]) (st2 := [.int s0]) hm dX11_proveMethods_110 rfl ?_
    refine mx_S.pu (pc2 := 118) (lv2 := [(3, .int s0), (0, .ref l0), (1, .int l1), (2, .int l2)]) (st2 := [.int s0]) hm dX11_proveMethods_111 rfl ?_
    refine mx_S.ext [(0, .ref l0), (1, .int l1), (2, .int l2)] (mx_sub_pos [1, 2, 3] rfl (show ([3, 0, 1, 2] : List Nat).Nodup by decide)) ?_
    exact j_X11_proveMethods_118_ok X hF hL nn hk_3 hk_28 l0 l1 l2 s0 u7 hf
set_option maxHeartbeats 4000000 in
set_option maxRecDepth 20000 in
theorem j_X11_proveMethods_87_ok (X : Nat × (Nat → Int32)) {F L : Nat} (hF : 10 ≤ F) (hL : 238 ≤ L) (nn : Nat) {kk_3 : Nat → Int32 → mx_H → Option (Int32 × mx_H)} (hk_3 : ∀ (l0 : Nat) (l1 : Int32) (h : mx_H) (r : (Int32 × mx_H)), kk_3 l0 l1 h = some r → mx_S X F L 308 3 [(0, .ref l0), (1, .int l1)] [] h 0 0 (some (.int r.1), r.2, 0, 0)) {kk_28 : Nat → Int32 → Int32 → mx_H → Option (Int32 × mx_H)} (hk_28 : ∀ (l0 : Nat) (l1 : Int32) (l2 : Int32) (h : mx_H) (r : (Int32 × mx_H)), kk_28 l0 l1 l2 h = some r → mx_S X F L 308 28 [(0, .ref l0), (1, .int l1), (2, .int l2)] [] h 0 0 (some (.int r.1), r.2, 0, 0)) (l0 : Nat) (l1 : Int32) (l2 : Int32) (s0 : Int32) (h : mx_H) {r : (Int32 × mx_H)} (hf : j_X11_proveMethods_87 nn kk_3 kk_28 l0 l1 l2 s0 h = some r) : mx_S X F L 308 87 [(0, .ref l0), (1, .int l1), (2, .int l2)] [.int s0] h 0 0 (some (.int r.1), r.2, 0, 0) := by
  have hm : mx_mt 308 = some (yX11_proveMethods, cX11_proveMethods, 4, (some .int)) := mt_X11_proveMethods
  unfold j_X11_proveMethods_87 at hf
  refine mx_S.pu (pc2 := 88) (lv2 := [(3, .int s0), (0, .ref l0), (1, .int l1), (2, .int l2)]) (st2 := []) hm dX11_proveMethods_87 rfl ?_
  refine mx_S.pu (pc2 := 89) (lv2 := [(3, .int s0), (0, .ref l0), (1, .int l1), (2, .int l2)]) (st2 := [.int s0]) hm dX11_proveMethods_88 rfl ?_
  rcases mx_if_el hf with ⟨c13, hf⟩ | ⟨c13, hf⟩
  · refine sb_if_eq hm dX11_proveMethods_89 (tgt := 96) rfl (fun _ => ?_) (fun z => absurd c13 z)
    refine mx_S.pu (pc2 := 97) (lv2 := [(3, .int s0), (0, .ref l0), (1, .int l1), (2, .int l2)]) (st2 := [.ref l0]) hm dX11_proveMethods_96 rfl ?_
    replace hf := mx_gd_el hf; obtain ⟨c11, hf⟩ := hf
    replace hf := mx_sv_el hf; obtain ⟨u12, e_u12, hf⟩ := hf
    refine sx_cv hm dX11_proveMethods_97 rs_RX11_120 mt_X11_proveFrames [] [] (b := l0) (ci := 11) rfl rfl rfl c11 (Nat.le_of_ble_eq_true rfl) (Nat.le_of_ble_eq_true rfl) (by omega) (by omega) (f_X11_proveFrames_ok X (by omega) (by omega) nn l0 h e_u12) ?_
    clear e_u12
    show mx_S X F L 308 100 [(3, .int s0), (0, .ref l0), (1, .int l1), (2, .int l2)] [.int u12.1] u12.2 0 0 (some (.int r.1), r.2, 0, 0)
    refine mx_S.ext [(0, .ref l0), (1, .int l1), (2, .int l2)] (mx_sub_pos [1, 2, 3] rfl (show ([3, 0, 1, 2] : List Nat).Nodup by decide)) ?_
    exact j_X11_proveMethods_100_ok X hF hL nn hk_3 hk_28 l0 l1 l2 u12.1 u12.2 hf
  · refine sb_if_eq hm dX11_proveMethods_89 (tgt := 96) rfl (fun z => absurd z c13) (fun _ => ?_)
    refine mx_S.pu (pc2 := 93) (lv2 := [(3, .int s0), (0, .ref l0), (1, .int l1), (2, .int l2)]) (st2 := [.int s0]) hm dX11_proveMethods_92 rfl ?_
    refine mx_S.pu (pc2 := 100) (lv2 := [(3, .int s0), (0, .ref l0), (1, .int l1), (2, .int l2)]) (st2 := [.int s0]) hm dX11_proveMethods_93 rfl ?_
    refine mx_S.ext [(0, .ref l0), (1, .int l1), (2, .int l2)] (mx_sub_pos [1, 2, 3] rfl (show ([3, 0, 1, 2] : List Nat).Nodup by decide)) ?_
    exact j_X11_proveMethods_100_ok X hF hL nn hk_3 hk_28 l0 l1 l2 s0 h hf
set_option maxHeartbeats 4000000 in
set_option maxRecDepth 20000 in
theorem j_X11_proveMethods_72_ok (X : Nat × (Nat → Int32)) {F L : Nat} (hF : 10 ≤ F) (hL : 238 ≤ L) (nn : Nat) {kk_3 : Nat → Int32 → mx_H → Option (Int32 × mx_H)} (hk_3 : ∀ (l0 : Nat) (l1 : Int32) (h : mx_H) (r : (Int32 × mx_H)), kk_3 l0 l1 h = some r → mx_S X F L 308 3 [(0, .ref l0), (1, .int l1)] [] h 0 0 (some (.int r.1), r.2, 0, 0)) {kk_28 : Nat → Int32 → Int32 → mx_H → Option (Int32 × mx_H)} (hk_28 : ∀ (l0 : Nat) (l1 : Int32) (l2 : Int32) (h : mx_H) (r : (Int32 × mx_H)), kk_28 l0 l1 l2 h = some r → mx_S X F L 308 28 [(0, .ref l0), (1, .int l1), (2, .int l2)] [] h 0 0 (some (.int r.1), r.2, 0, 0)) (l0 : Nat) (l1 : Int32) (l2 : Int32) (l3 : Int32) (s0 : Int32) (s1 : Nat) (h : mx_H) {r : (Int32 × mx_H)} (hf : j_X11_proveMethods_72 nn kk_3 kk_28 l0 l1 l2 l3 s0 s1 h = some r) : mx_S X F L 308 72 [(0, .ref l0), (1, .int l1), (2, .int l2), (3, .int l3)] [.int s0, .ref s1] h 0 0 (some (.int r.1), r.2, 0, 0) := by
  have hm : mx_mt 308 = some (yX11_proveMethods, cX11_proveMethods, 4, (some .int)) := mt_X11_proveMethods
  unfold j_X11_proveMethods_72 at hf
  replace hf := mx_gd_el hf; obtain ⟨c14, hf⟩ := hf
  replace hf := mx_sv_el hf; obtain ⟨u15, e_u15, hf⟩ := hf
  refine sx_cv hm dX11_proveMethods_72 rs_RX11_113 mt_X11_takeFrames [.int s0] [] (b := s1) (ci := 11) rfl rfl rfl c14 (Nat.le_of_ble_eq_true rfl) (Nat.le_of_ble_eq_true rfl) (by omega) (by omega) (f_X11_takeFrames_ok X (by omega) (by omega) nn s1 s0 h e_u15) ?_
  clear e_u15
  show mx_S X F L 308 75 [(0, .ref l0), (1, .int l1), (2, .int l2), (3, .int l3)] [] u15 0 0 (some (.int r.1), r.2, 0, 0)
  refine mx_S.pu (pc2 := 76) (lv2 := [(0, .ref l0), (1, .int l1), (2, .int l2), (3, .int l3)]) (st2 := [.int l3]) hm dX11_proveMethods_75 rfl ?_
  rcases mx_if_el hf with ⟨c18, hf⟩ | ⟨c18, hf⟩
  · refine sb_if_eq hm dX11_proveMethods_76 (tgt := 83) rfl (fun _ => ?_) (fun z => absurd c18 z)
    refine mx_S.pu (pc2 := 84) (lv2 := [(0, .ref l0), (1, .int l1), (2, .int l2), (3, .int l3)]) (st2 := [.ref l0]) hm dX11_proveMethods_83 rfl ?_
    replace hf := mx_gd_el hf; obtain ⟨c16, hf⟩ := hf
    replace hf := mx_sv_el hf; obtain ⟨u17, e_u17, hf⟩ := hf
    refine sx_cv hm dX11_proveMethods_84 rs_RX11_117 mt_X11_proveHandlers [] [] (b := l0) (ci := 11) rfl rfl rfl c16 (Nat.le_of_ble_eq_true rfl) (Nat.le_of_ble_eq_true rfl) (by omega) (by omega) (f_X11_proveHandlers_ok X (by omega) (by omega) nn l0 u15 e_u17) ?_
    clear e_u17
    show mx_S X F L 308 87 [(0, .ref l0), (1, .int l1), (2, .int l2), (3, .int l3)] [.int u17.1] u17.2 0 0 (some (.int r.1), r.2, 0, 0)
    refine mx_S.ext [(0, .ref l0), (1, .int l1), (2, .int l2)] (mx_sub_pos [0, 1, 2] rfl (show ([0, 1, 2, 3] : List Nat).Nodup by decide)) ?_
    exact j_X11_proveMethods_87_ok X hF hL nn hk_3 hk_28 l0 l1 l2 u17.1 u17.2 hf
  · refine sb_if_eq hm dX11_proveMethods_76 (tgt := 83) rfl (fun z => absurd z c18) (fun _ => ?_)
    refine mx_S.pu (pc2 := 80) (lv2 := [(0, .ref l0), (1, .int l1), (2, .int l2), (3, .int l3)]) (st2 := [.int l3]) hm dX11_proveMethods_79 rfl ?_
    refine mx_S.pu (pc2 := 87) (lv2 := [(0, .ref l0), (1, .int l1), (2, .int l2), (3, .int l3)]) (st2 := [.int l3]) hm dX11_proveMethods_80 rfl ?_
    refine mx_S.ext [(0, .ref l0), (1, .int l1), (2, .int l2)] (mx_sub_pos [0, 1, 2] rfl (show ([0, 1, 2, 3] : List Nat).Nodup by decide)) ?_
    exact j_X11_proveMethods_87_ok X hF hL nn hk_3 hk_28 l0 l1 l2 l3 u15 hf
set_option maxHeartbeats 4000000 in
set_option maxRecDepth 20000 in
theorem j_X11_proveMethods_61_ok (X : Nat × (Nat → Int32)) {F L : Nat} (hF : 10 ≤ F) (hL : 238 ≤ L) (nn : Nat) {kk_3 : Nat → Int32 → mx_H → Option (Int32 × mx_H)} (hk_3 : ∀ (l0 : Nat) (l1 : Int32) (h : mx_H) (r : (Int32 × mx_H)), kk_3 l0 l1 h = some r → mx_S X F L 308 3 [(0, .ref l0), (1, .int l1)] [] h 0 0 (some (.int r.1), r.2, 0, 0)) {kk_28 : Nat → Int32 → Int32 → mx_H → Option (Int32 × mx_H)} (hk_28 : ∀ (l0 : Nat) (l1 : Int32) (l2 : Int32) (h : mx_H) (r : (Int32 × mx_H)), kk_28 l0 l1 l2 h = some r → mx_S X F L 308 28 [(0, .ref l0), (1, .int l1), (2, .int l2)] [] h 0 0 (some (.int r.1), r.2, 0, 0)) (l0 : Nat) (l1 : Int32) (l2 : Int32) (s0 : Int32) (h : mx_H) {r : (Int32 × mx_H)} (hf : j_X11_proveMethods_61 nn kk_3 kk_28 l0 l1 l2 s0 h = some r) : mx_S X F L 308 61 [(0, .ref l0), (1, .int l1), (2, .int l2)] [.int s0] h 0 0 (some (.int r.1), r.2, 0, 0) := by
  have hm : mx_mt 308 = some (yX11_proveMethods, cX11_proveMethods, 4, (some .int)) := mt_X11_proveMethods
  unfold j_X11_proveMethods_61 at hf
  refine mx_S.pu (pc2 := 62) (lv2 := [(3, .int s0), (0, .ref l0), (1, .int l1), (2, .int l2)]) (st2 := []) hm dX11_proveMethods_61 rfl ?_
  refine mx_S.pu (pc2 := 63) (lv2 := [(3, .int s0), (0, .ref l0), (1, .int l1), (2, .int l2)]) (st2 := [.ref l0]) hm dX11_proveMethods_62 rfl ?_
  refine mx_S.pu (pc2 := 64) (lv2 := [(3, .int s0), (0, .ref l0), (1, .int l1), (2, .int l2)]) (st2 := [.int s0, .ref l0]) hm dX11_proveMethods_63 rfl ?_
  rcases mx_if_el hf with ⟨c19, hf⟩ | ⟨c19, hf⟩
  · refine sb_if_ne hm dX11_proveMethods_64 (tgt := 71) rfl (fun _ => ?_) (fun z => absurd c19 z)
    refine sx_ic (v := 0) hm dX11_proveMethods_71 (by decide) ?_
    refine mx_S.ext [(0, .ref l0), (1, .int l1), (2, .int l2), (3, .int s0)] (mx_sub_pos [1, 2, 3, 0] rfl (show ([3, 0, 1, 2] : List Nat).Nodup by decide)) ?_
    exact j_X11_proveMethods_72_ok X hF hL nn hk_3 hk_28 l0 l1 l2 s0 0 l0 h hf
  · refine sb_if_ne hm dX11_proveMethods_64 (tgt := 71) rfl (fun z => absurd z c19) (fun _ => ?_)
    refine sx_ic (v := 1) hm dX11_proveMethods_67 (by decide) ?_
    refine mx_S.pu (pc2 := 72) (lv2 := [(3, .int s0), (0, .ref l0), (1, .int l1), (2, .int l2)]) (st2 := [.int 1, .ref l0]) hm dX11_proveMethods_68 rfl ?_
    refine mx_S.ext [(0, .ref l0), (1, .int l1), (2, .int l2), (3, .int s0)] (mx_sub_pos [1, 2, 3, 0] rfl (show ([3, 0, 1, 2] : List Nat).Nodup by decide)) ?_
    exact j_X11_proveMethods_72_ok X hF hL nn hk_3 hk_28 l0 l1 l2 s0 1 l0 h hf
set_option maxHeartbeats 4000000 in
set_option maxRecDepth 20000 in
theorem w_X11_proveMethods_28_ok (X : Nat × (Nat → Int32)) {F L : Nat} (hF : 10 ≤ F) (hL : 238 ≤ L) (nn : Nat) {kk_3 : Nat → Int32 → mx_H → Option (Int32 × mx_H)} (hk_3 : ∀ (l0 : Nat) (l1 : Int32) (h : mx_H) (r : (Int32 × mx_H)), kk_3 l0 l1 h = some r → mx_S X F L 308 3 [(0, .ref l0), (1, .int l1)] [] h 0 0 (some (.int r.1), r.2, 0, 0)) : ∀ (k : Nat) (l0 : Nat) (l1 : Int32) (l2 : Int32) (h : mx_H) (r : (Int32 × mx_H)), w_X11_proveMethods_28 nn kk_3 k l0 l1 l2 h = some r → mx_S X F L 308 28 [(0, .ref l0), (1, .int l1), (2, .int l2)] [] h 0 0 (some (.int r.1), r.2, 0, 0) := by
  have hm : mx_mt 308 = some (yX11_proveMethods, cX11_proveMethods, 4, (some .int)) := mt_X11_proveMethods
  intro k
  induction k with
  | zero => intro l0 l1 l2 h r hf; cases hf
  | succ k ih =>
    intro l0 l1 l2 h r hf
    unfold w_X11_proveMethods_28 at hf
    refine mx_S.pu (pc2 := 29) (lv2 := [(0, .ref l0), (1, .int l1), (2, .int l2)]) (st2 := [.int l2]) hm dX11_proveMethods_28 rfl ?_
    refine mx_S.pu (pc2 := 30) (lv2 := [(0, .ref l0), (1, .int l1), (2, .int l2)]) (st2 := [.ref l0, .int l2]) hm dX11_proveMethods_29 rfl ?_
    replace hf := mx_sv_el hf; obtain ⟨v20, e_v20, hf⟩ := hf
    refine sx_get hm dX11_proveMethods_30 rs_RX11_62 (xgr_el e_v20) ?_
    clear e_v20
    replace hf := mx_sv_el hf; obtain ⟨v21, e_v21, hf⟩ := hf
    refine sx_get hm dX11_proveMethods_33 rs_RX11_100 (xgi_el e_v21) ?_
    clear e_v21
    rcases mx_if_el hf with ⟨c29, hf⟩ | ⟨c29, hf⟩
    · refine sb_ic_ge hm dX11_proveMethods_36 (tgt := 141) rfl (fun _ => ?_) (fun z => absurd c29 z)
      replace hf := xl_el hf; obtain ⟨v22, e_v22, hf⟩ := hf
      refine mx_S.pu (pc2 := 144) (lv2 := [(1, .int v22), (0, .ref l0), (2, .int l2)]) (st2 := []) hm dX11_proveMethods_141 (by rw [← e_v22]; rfl) ?_
      clear e_v22
      refine mx_S.pu (pc2 := 3) (lv2 := [(1, .int v22), (0, .ref l0), (2, .int l2)]) (st2 := []) hm dX11_proveMethods_144 rfl ?_
      refine mx_S.ext [(0, .ref l0), (1, .int v22)] (mx_sub_pos [1, 0] rfl (show ([1, 0, 2] : List Nat).Nodup by decide)) ?_
      exact hk_3 l0 v22 h _ hf
    · refine sb_ic_ge hm dX11_proveMethods_36 (tgt := 141) rfl (fun z => absurd z c29) (fun _ => ?_)
      refine mx_S.pu (pc2 := 40) (lv2 := [(0, .ref l0), (1, .int l1), (2, .int l2)]) (st2 := [.ref l0]) hm dX11_proveMethods_39 rfl ?_
      refine mx_S.pu (pc2 := 41) (lv2 := [(0, .ref l0), (1, .int l1), (2, .int l2)]) (st2 := [.int l2, .ref l0]) hm dX11_proveMethods_40 rfl ?_
      replace hf := mx_sv_el hf; obtain ⟨h23, e_h23, hf⟩ := hf
      refine sx_put hm dX11_proveMethods_41 rs_RX11_103 ft_11_6 ⟨rfl, rfl⟩ (fun z => by cases z) e_h23 ?_
      clear e_h23
      refine mx_S.pu (pc2 := 45) (lv2 := [(0, .ref l0), (1, .int l1), (2, .int l2)]) (st2 := [.ref l0]) hm dX11_proveMethods_44 rfl ?_
      replace hf := mx_gd_el hf; obtain ⟨c24, hf⟩ := hf
      replace hf := mx_sv_el hf; obtain ⟨u25, e_u25, hf⟩ := hf
      refine sx_cv hm dX11_proveMethods_45 rs_RX11_106 mt_X11_proveInstructions [] [] (b := l0) (ci := 11) rfl rfl rfl c24 (Nat.le_of_ble_eq_true rfl) (Nat.le_of_ble_eq_true rfl) (by omega) (by omega) (f_X11_proveInstructions_ok X (by omega) (by omega) nn l0 h23 e_u25) ?_
      clear e_u25
      show mx_S X F L 308 48 [(0, .ref l0), (1, .int l1), (2, .int l2)] [.int u25.1] u25.2 0 0 (some (.int r.1), r.2, 0, 0)
      refine mx_S.pu (pc2 := 49) (lv2 := [(3, .int u25.1), (0, .ref l0), (1, .int l1), (2, .int l2)]) (st2 := []) hm dX11_proveMethods_48 rfl ?_
      refine mx_S.pu (pc2 := 50) (lv2 := [(3, .int u25.1), (0, .ref l0), (1, .int l1), (2, .int l2)]) (st2 := [.int u25.1]) hm dX11_proveMethods_49 rfl ?_
      rcases mx_if_el hf with ⟨c28, hf⟩ | ⟨c28, hf⟩
      · refine sb_if_eq hm dX11_proveMethods_50 (tgt := 57) rfl (fun _ => ?_) (fun z => absurd c28 z)
        refine mx_S.pu (pc2 := 58) (lv2 := [(3, .int u25.1), (0, .ref l0), (1, .int l1), (2, .int l2)]) (st2 := [.ref l0]) hm dX11_proveMethods_57 rfl ?_
        replace hf := mx_gd_el hf; obtain ⟨c26, hf⟩ := hf
        replace hf := mx_sv_el hf; obtain ⟨u27, e_u27, hf⟩ := hf
        refine sx_cv hm dX11_proveMethods_58 rs_RX11_110 mt_X11_proveJumps [] [] (b := l0) (ci := 11) rfl rfl rfl c26 (Nat.le_of_ble_eq_true rfl) (Nat.le_of_ble_eq_true rfl) (by omega) (by omega) (f_X11_proveJumps_ok X (by omega) (by omega) nn l0 u25.2 e_u27) ?_
        clear e_u27
        show mx_S X F L 308 61 [(3, .int u25.1), (0, .ref l0), (1, .int l1), (2, .int l2)] [.int u27.1] u27.2 0 0 (some (.int r.1), r.2, 0, 0)
        refine mx_S.ext [(0, .ref l0), (1, .int l1), (2, .int l2)] (mx_sub_pos [1, 2, 3] rfl (show ([3, 0, 1, 2] : List Nat).Nodup by decide)) ?_
        exact j_X11_proveMethods_61_ok X hF hL nn hk_3 ih l0 l1 l2 u27.1 u27.2 hf
      · refine sb_if_eq hm dX11_proveMethods_50 (tgt := 57) rfl (fun z => absurd z c28) (fun _ => ?_)
        refine mx_S.pu (pc2 := 54) (lv2 := [(3, .int u25.1), (0, .ref l0), (1, .int l1), (2, .int l2)]) (st2 := [.int u25.1]) hm dX11_proveMethods_53 rfl ?_
        refine mx_S.pu (pc2 := 61) (lv2 := [(3, .int u25.1), (0, .ref l0), (1, .int l1), (2, .int l2)]) (st2 := [.int u25.1]) hm dX11_proveMethods_54 rfl ?_
        refine mx_S.ext [(0, .ref l0), (1, .int l1), (2, .int l2)] (mx_sub_pos [1, 2, 3] rfl (show ([3, 0, 1, 2] : List Nat).Nodup by decide)) ?_
        exact j_X11_proveMethods_61_ok X hF hL nn hk_3 ih l0 l1 l2 u25.1 u25.2 hf
set_option maxHeartbeats 4000000 in
set_option maxRecDepth 20000 in
theorem w_X11_proveMethods_3_ok (X : Nat × (Nat → Int32)) {F L : Nat} (hF : 10 ≤ F) (hL : 238 ≤ L) (nn : Nat) : ∀ (k : Nat) (l0 : Nat) (l1 : Int32) (h : mx_H) (r : (Int32 × mx_H)), w_X11_proveMethods_3 nn k l0 l1 h = some r → mx_S X F L 308 3 [(0, .ref l0), (1, .int l1)] [] h 0 0 (some (.int r.1), r.2, 0, 0) := by
  have hm : mx_mt 308 = some (yX11_proveMethods, cX11_proveMethods, 4, (some .int)) := mt_X11_proveMethods
  intro k
  induction k with
  | zero => intro l0 l1 h r hf; cases hf
  | succ k ih =>
    intro l0 l1 h r hf
    unfold w_X11_proveMethods_3 at hf
    refine mx_S.pu (pc2 := 4) (lv2 := [(0, .ref l0), (1, .int l1)]) (st2 := [.int l1]) hm dX11_proveMethods_3 rfl ?_
    refine sx_bi (v := 8) hm dX11_proveMethods_4 (by decide) ?_
    refine mx_S.pu (pc2 := 7) (lv2 := [(0, .ref l0), (1, .int l1)]) (st2 := [.ref l0, .int 8, .int l1]) hm dX11_proveMethods_6 rfl ?_
    replace hf := mx_sv_el hf; obtain ⟨v30, e_v30, hf⟩ := hf
    refine sx_get hm dX11_proveMethods_7 rs_RX11_50 (xgr_el e_v30) ?_
    clear e_v30
    replace hf := mx_sv_el hf; obtain ⟨v31, e_v31, hf⟩ := hf
    refine sx_get hm dX11_proveMethods_10 rs_RX11_68 (xgi_el e_v31) ?_
    clear e_v31
    replace hf := xl_el hf; obtain ⟨v32, e_v32, hf⟩ := hf
    refine mx_S.pu (pc2 := 14) (lv2 := [(0, .ref l0), (1, .int l1)]) (st2 := [.int v32, .int l1]) hm dX11_proveMethods_13 (by rw [← e_v32]; rfl) ?_
    clear e_v32
    rcases mx_if_el hf with ⟨c37, hf⟩ | ⟨c37, hf⟩
    · refine sb_ic_ge hm dX11_proveMethods_14 (tgt := 147) rfl (fun _ => ?_) (fun z => absurd c37 z)
      refine sx_ic (v := 0) hm dX11_proveMethods_147 (by decide) ?_
      cases hf
      exact sx_ire hm dX11_proveMethods_148 rfl rfl
    · refine sb_ic_ge hm dX11_proveMethods_14 (tgt := 147) rfl (fun z => absurd z c37) (fun _ => ?_)
      refine mx_S.pu (pc2 := 18) (lv2 := [(0, .ref l0), (1, .int l1)]) (st2 := [.ref l0]) hm dX11_proveMethods_17 rfl ?_
      refine mx_S.pu (pc2 := 19) (lv2 := [(0, .ref l0), (1, .int l1)]) (st2 := [.int l1, .ref l0]) hm dX11_proveMethods_18 rfl ?_
      replace hf := mx_gd_el hf; obtain ⟨c33, hf⟩ := hf
      replace hf := mx_sv_el hf; obtain ⟨u34, e_u34, hf⟩ := hf
      refine sx_cv hm dX11_proveMethods_19 rs_RX11_71 mt_X11_takeImage [.int l1] [] (b := l0) (ci := 11) rfl rfl rfl c33 (Nat.le_of_ble_eq_true rfl) (Nat.le_of_ble_eq_true rfl) (by omega) (by omega) (f_X11_takeImage_ok X (by omega) (by omega) nn l0 l1 h e_u34) ?_
      clear e_u34
      show mx_S X F L 308 22 [(0, .ref l0), (1, .int l1)] [] u34 0 0 (some (.int r.1), r.2, 0, 0)
      refine mx_S.pu (pc2 := 23) (lv2 := [(0, .ref l0), (1, .int l1)]) (st2 := [.ref l0]) hm dX11_proveMethods_22 rfl ?_
      replace hf := mx_gd_el hf; obtain ⟨c35, hf⟩ := hf
      replace hf := mx_sv_el hf; obtain ⟨u36, e_u36, hf⟩ := hf
      refine sx_cv hm dX11_proveMethods_23 rs_RX11_97 mt_X11_takeConstants [] [] (b := l0) (ci := 11) rfl rfl rfl c35 (Nat.le_of_ble_eq_true rfl) (Nat.le_of_ble_eq_true rfl) (by omega) (by omega) (f_X11_takeConstants_ok X (by omega) (by omega) nn l0 u34 e_u36) ?_
      clear e_u36
      show mx_S X F L 308 26 [(0, .ref l0), (1, .int l1)] [] u36 0 0 (some (.int r.1), r.2, 0, 0)
      refine sx_ic (v := 0) hm dX11_proveMethods_26 (by decide) ?_
      refine mx_S.pu (pc2 := 28) (lv2 := [(2, .int 0), (0, .ref l0), (1, .int l1)]) (st2 := []) hm dX11_proveMethods_27 rfl ?_
      refine mx_S.ext [(0, .ref l0), (1, .int l1), (2, .int 0)] (mx_sub_pos [1, 2, 0] rfl (show ([2, 0, 1] : List Nat).Nodup by decide)) ?_
      exact w_X11_proveMethods_28_ok X hF hL nn ih nn l0 l1 0 u36 _ hf
set_option maxHeartbeats 4000000 in
set_option maxRecDepth 20000 in
theorem f_X11_proveMethods_ok (X : Nat × (Nat → Int32)) {F L : Nat} (hF : 10 ≤ F) (hL : 238 ≤ L) (nn : Nat) (a0 : Nat) (h : mx_H) {r : (Int32 × mx_H)} (hf : f_X11_proveMethods nn a0 h = some r) : mx_R X F L 308 [.ref a0] h (some (.int r.1), r.2, 0, 0) := by
  have hm : mx_mt 308 = some (yX11_proveMethods, cX11_proveMethods, 4, (some .int)) := mt_X11_proveMethods
  show mx_S X F L 308 0 [(0, .ref a0)] [] h 0 0 (some (.int r.1), r.2, 0, 0)
  unfold f_X11_proveMethods at hf
  refine sx_bi (v := 8) hm dX11_proveMethods_0 (by decide) ?_
  refine mx_S.pu (pc2 := 3) (lv2 := [(1, .int 8), (0, .ref a0)]) (st2 := []) hm dX11_proveMethods_2 rfl ?_
  refine mx_S.ext [(0, .ref a0), (1, .int 8)] (mx_sub_pos [1, 0] rfl (show ([1, 0] : List Nat).Nodup by decide)) ?_
  exact w_X11_proveMethods_3_ok X hF hL nn nn a0 8 h _ hf
set_option maxHeartbeats 4000000 in
set_option maxRecDepth 20000 in
theorem w_X7_cellsAbove_7_ok (X : Nat × (Nat → Int32)) {F L : Nat} (hF : 2 ≤ F) (hL : 41 ≤ L) (nn : Nat) : ∀ (k : Nat) (l0 : Nat) (l2 : Int32) (l3 : Int32) (l4 : Int32) (h : mx_H) (r : (Int32 × mx_H)), w_X7_cellsAbove_7 nn k l0 l2 l3 l4 h = some r → mx_S X F L 213 7 [(0, .ref l0), (2, .int l2), (3, .int l3), (4, .int l4)] [] h 0 0 (some (.int r.1), r.2, 0, 0) := by
  have hm : mx_mt 213 = some (yX7_cellsAbove, cX7_cellsAbove, 6, (some .int)) := mt_X7_cellsAbove
  intro k
  induction k with
  | zero => intro l0 l2 l3 l4 h r hf; cases hf
  | succ k ih =>
    intro l0 l2 l3 l4 h r hf
    unfold w_X7_cellsAbove_7 at hf
    refine mx_S.pu (pc2 := 9) (lv2 := [(0, .ref l0), (2, .int l2), (3, .int l3), (4, .int l4)]) (st2 := [.int l4]) hm dX7_cellsAbove_7 rfl ?_
    refine sx_bi (v := 16) hm dX7_cellsAbove_9 (by decide) ?_
    rcases mx_if_el hf with ⟨c11, hf⟩ | ⟨c11, hf⟩
    · refine sb_ic_ge hm dX7_cellsAbove_11 (tgt := 51) rfl (fun _ => ?_) (fun z => absurd c11 z)
      refine mx_S.pu (pc2 := 52) (lv2 := [(0, .ref l0), (2, .int l2), (3, .int l3), (4, .int l4)]) (st2 := [.int l2]) hm dX7_cellsAbove_51 rfl ?_
      cases hf
      exact sx_ire hm dX7_cellsAbove_52 rfl rfl
    · refine sb_ic_ge hm dX7_cellsAbove_11 (tgt := 51) rfl (fun z => absurd z c11) (fun _ => ?_)
      refine mx_S.pu (pc2 := 15) (lv2 := [(0, .ref l0), (2, .int l2), (3, .int l3), (4, .int l4)]) (st2 := [.ref l0]) hm dX7_cellsAbove_14 rfl ?_
      refine mx_S.pu (pc2 := 16) (lv2 := [(0, .ref l0), (2, .int l2), (3, .int l3), (4, .int l4)]) (st2 := [.int l3, .ref l0]) hm dX7_cellsAbove_15 rfl ?_
      replace hf := mx_gd_el hf; obtain ⟨c1, hf⟩ := hf
      replace hf := mx_sv_el hf; obtain ⟨u2, e_u2, hf⟩ := hf
      refine sx_cv hm dX7_cellsAbove_16 rs_RX7_90 mt_X7_imageOf [.int l3] [] (b := l0) (ci := 7) rfl rfl rfl c1 (Nat.le_of_ble_eq_true rfl) (Nat.le_of_ble_eq_true rfl) (by omega) (by omega) (f_X7_imageOf_ok X (by omega) (by omega) nn l0 l3 h e_u2) ?_
      clear e_u2
      show mx_S X F L 213 19 [(0, .ref l0), (2, .int l2), (3, .int l3), (4, .int l4)] [va_rf u2.1] u2.2 0 0 (some (.int r.1), r.2, 0, 0)
      refine sx_so (lv2 := [(5, va_rf u2.1), (0, .ref l0), (2, .int l2), (3, .int l3), (4, .int l4)]) hm dX7_cellsAbove_19 rfl rfl ?_
      refine sx_ao hm dX7_cellsAbove_21 rfl ?_
      rcases mx_oc_el hf with ⟨c4, hf⟩ | ⟨b3, c4, hf⟩
      · refine sx_ifnonnull_n hm dX7_cellsAbove_23 c4 (tgt := 28) rfl ?_
        refine mx_S.pu (pc2 := 27) (lv2 := [(5, va_rf u2.1), (0, .ref l0), (2, .int l2), (3, .int l3), (4, .int l4)]) (st2 := [.int l2]) hm dX7_cellsAbove_26 rfl ?_
        cases hf
        exact sx_ire hm dX7_cellsAbove_27 rfl rfl
      · refine sx_ifnonnull_s hm dX7_cellsAbove_23 c4 (tgt := 28) rfl ?_
        rw [show va_rf u2.1 = Value.ref b3 by rw [c4]; rfl]
        refine mx_S.pu (pc2 := 29) (lv2 := [(5, .ref b3), (0, .ref l0), (2, .int l2), (3, .int l3), (4, .int l4)]) (st2 := [.int l2]) hm dX7_cellsAbove_28 rfl ?_
        refine mx_S.pu (pc2 := 31) (lv2 := [(5, .ref b3), (0, .ref l0), (2, .int l2), (3, .int l3), (4, .int l4)]) (st2 := [.ref b3, .int l2]) hm dX7_cellsAbove_29 rfl ?_
        replace hf := mx_sv_el hf; obtain ⟨v5, e_v5, hf⟩ := hf
        refine sx_get hm dX7_cellsAbove_31 rs_RX7_129 (xgi_el e_v5) ?_
        clear e_v5
        replace hf := xl_el hf; obtain ⟨v6, e_v6, hf⟩ := hf
        refine mx_S.pu (pc2 := 35) (lv2 := [(5, .ref b3), (0, .ref l0), (2, .int l2), (3, .int l3), (4, .int l4)]) (st2 := [.int v6]) hm dX7_cellsAbove_34 (by rw [← e_v6]; rfl) ?_
        clear e_v6
        refine mx_S.pu (pc2 := 36) (lv2 := [(2, .int v6), (5, .ref b3), (0, .ref l0), (3, .int l3), (4, .int l4)]) (st2 := []) hm dX7_cellsAbove_35 rfl ?_
        refine mx_S.pu (pc2 := 37) (lv2 := [(2, .int v6), (5, .ref b3), (0, .ref l0), (3, .int l3), (4, .int l4)]) (st2 := [.ref l0]) hm dX7_cellsAbove_36 rfl ?_
        replace hf := mx_sv_el hf; obtain ⟨v7, e_v7, hf⟩ := hf
        refine sx_get hm dX7_cellsAbove_37 rs_RX7_16 (xgr_el e_v7) ?_
        clear e_v7
        refine mx_S.pu (pc2 := 41) (lv2 := [(2, .int v6), (5, .ref b3), (0, .ref l0), (3, .int l3), (4, .int l4)]) (st2 := [.int l3, .ref v7]) hm dX7_cellsAbove_40 rfl ?_
        replace hf := mx_gd_el hf; obtain ⟨c8, hf⟩ := hf
        replace hf := mx_sv_el hf; obtain ⟨u9, e_u9, hf⟩ := hf
        refine sx_cv hm dX7_cellsAbove_41 rs_RX7_138 mt_X4_above [.int l3] [] (b := v7) (ci := 4) rfl rfl rfl c8 (Nat.le_of_ble_eq_true rfl) (Nat.le_of_ble_eq_true rfl) (by omega) (by omega) (f_X4_above_ok X (by omega) (by omega) nn v7 l3 u2.2 e_u9) ?_
        clear e_u9
        show mx_S X F L 213 44 [(2, .int v6), (5, .ref b3), (0, .ref l0), (3, .int l3), (4, .int l4)] [.int u9.1] u9.2 0 0 (some (.int r.1), r.2, 0, 0)
        refine mx_S.pu (pc2 := 45) (lv2 := [(3, .int u9.1), (2, .int v6), (5, .ref b3), (0, .ref l0), (4, .int l4)]) (st2 := []) hm dX7_cellsAbove_44 rfl ?_
        replace hf := xl_el hf; obtain ⟨v10, e_v10, hf⟩ := hf
        refine mx_S.pu (pc2 := 48) (lv2 := [(4, .int v10), (3, .int u9.1), (2, .int v6), (5, .ref b3), (0, .ref l0)]) (st2 := []) hm dX7_cellsAbove_45 (by rw [← e_v10]; rfl) ?_
        clear e_v10
        refine mx_S.pu (pc2 := 7) (lv2 := [(4, .int v10), (3, .int u9.1), (2, .int v6), (5, .ref b3), (0, .ref l0)]) (st2 := []) hm dX7_cellsAbove_48 rfl ?_
        refine mx_S.ext [(0, .ref l0), (2, .int v6), (3, .int u9.1), (4, .int v10)] (mx_sub_pos [4, 2, 1, 0] rfl (show ([4, 3, 2, 5, 0] : List Nat).Nodup by decide)) ?_
        exact ih l0 v6 u9.1 v10 u9.2 _ hf
set_option maxHeartbeats 4000000 in
set_option maxRecDepth 20000 in
theorem f_X7_cellsAbove_ok (X : Nat × (Nat → Int32)) {F L : Nat} (hF : 2 ≤ F) (hL : 41 ≤ L) (nn : Nat) (a0 : Nat) (a1 : Int32) (h : mx_H) {r : (Int32 × mx_H)} (hf : f_X7_cellsAbove nn a0 a1 h = some r) : mx_R X F L 213 [.ref a0, .int a1] h (some (.int r.1), r.2, 0, 0) := by
  have hm : mx_mt 213 = some (yX7_cellsAbove, cX7_cellsAbove, 6, (some .int)) := mt_X7_cellsAbove
  show mx_S X F L 213 0 [(0, .ref a0), (1, .int a1)] [] h 0 0 (some (.int r.1), r.2, 0, 0)
  unfold f_X7_cellsAbove at hf
  refine sx_ic (v := 0) hm dX7_cellsAbove_0 (by decide) ?_
  refine mx_S.pu (pc2 := 2) (lv2 := [(2, .int 0), (0, .ref a0), (1, .int a1)]) (st2 := []) hm dX7_cellsAbove_1 rfl ?_
  refine mx_S.pu (pc2 := 3) (lv2 := [(2, .int 0), (0, .ref a0), (1, .int a1)]) (st2 := [.int a1]) hm dX7_cellsAbove_2 rfl ?_
  refine mx_S.pu (pc2 := 4) (lv2 := [(3, .int a1), (2, .int 0), (0, .ref a0), (1, .int a1)]) (st2 := []) hm dX7_cellsAbove_3 rfl ?_
  refine sx_ic (v := 0) hm dX7_cellsAbove_4 (by decide) ?_
  refine mx_S.pu (pc2 := 7) (lv2 := [(4, .int 0), (3, .int a1), (2, .int 0), (0, .ref a0), (1, .int a1)]) (st2 := []) hm dX7_cellsAbove_5 rfl ?_
  refine mx_S.ext [(0, .ref a0), (2, .int 0), (3, .int a1), (4, .int 0)] (mx_sub_pos [3, 2, 1, 0] rfl (show ([4, 3, 2, 0, 1] : List Nat).Nodup by decide)) ?_
  exact w_X7_cellsAbove_7_ok X hF hL nn nn a0 0 a1 0 h _ hf
set_option maxHeartbeats 4000000 in
set_option maxRecDepth 20000 in
theorem w_X7_linkMethods_29_ok (X : Nat × (Nat → Int32)) {F L : Nat} (hF : 3 ≤ F) (hL : 77 ≤ L) (nn : Nat) {kk_7 : Nat → Int32 → Int32 → Int32 → mx_H → Option mx_H} (hk_7 : ∀ (l0 : Nat) (l1 : Int32) (l2 : Int32) (l3 : Int32) (h : mx_H) (r : mx_H), kk_7 l0 l1 l2 l3 h = some r → mx_S X F L 215 7 [(0, .ref l0), (1, .int l1), (2, .int l2), (3, .int l3)] [] h 0 0 (none, r, 0, 0)) : ∀ (k : Nat) (l0 : Nat) (l1 : Int32) (l2 : Int32) (l3 : Int32) (l4 : (Option Nat)) (l5 : Int32) (h : mx_H) (r : mx_H), w_X7_linkMethods_29 nn kk_7 k l0 l1 l2 l3 l4 l5 h = some r → mx_S X F L 215 29 [(0, .ref l0), (1, .int l1), (2, .int l2), (3, .int l3), (4, va_rf l4), (5, .int l5)] [] h 0 0 (none, r, 0, 0) := by
  have hm : mx_mt 215 = some (yX7_linkMethods, cX7_linkMethods, 6, none) := mt_X7_linkMethods
  intro k
  induction k with
  | zero => intro l0 l1 l2 l3 l4 l5 h r hf; cases hf
  | succ k ih =>
    intro l0 l1 l2 l3 l4 l5 h r hf
    unfold w_X7_linkMethods_29 at hf
    refine mx_S.pu (pc2 := 31) (lv2 := [(0, .ref l0), (1, .int l1), (2, .int l2), (3, .int l3), (4, va_rf l4), (5, .int l5)]) (st2 := [.int l5]) hm dX7_linkMethods_29 rfl ?_
    refine sx_ao hm dX7_linkMethods_31 rfl ?_
    replace hf := mx_sv_el hf; obtain ⟨b1, e_b1, hf⟩ := hf
    rw [show va_rf l4 = Value.ref b1 by rw [e_b1]; rfl]
    clear e_b1
    replace hf := mx_sv_el hf; obtain ⟨v2, e_v2, hf⟩ := hf
    refine sx_get hm dX7_linkMethods_33 rs_RX7_141 (xgi_el e_v2) ?_
    clear e_v2
    rcases mx_if_el hf with ⟨c19, hf⟩ | ⟨c19, hf⟩
    · refine sb_ic_ge hm dX7_linkMethods_36 (tgt := 80) rfl (fun _ => ?_) (fun z => absurd c19 z)
      refine mx_S.pu (pc2 := 81) (lv2 := [(0, .ref l0), (1, .int l1), (2, .int l2), (3, .int l3), (4, .ref b1), (5, .int l5)]) (st2 := [.ref l0]) hm dX7_linkMethods_80 rfl ?_
      replace hf := mx_sv_el hf; obtain ⟨v3, e_v3, hf⟩ := hf
      refine sx_get hm dX7_linkMethods_81 rs_RX7_16 (xgr_el e_v3) ?_
      clear e_v3
      refine mx_S.pu (pc2 := 85) (lv2 := [(0, .ref l0), (1, .int l1), (2, .int l2), (3, .int l3), (4, .ref b1), (5, .int l5)]) (st2 := [.int l2, .ref v3]) hm dX7_linkMethods_84 rfl ?_
      replace hf := mx_gd_el hf; obtain ⟨c4, hf⟩ := hf
      replace hf := mx_sv_el hf; obtain ⟨u5, e_u5, hf⟩ := hf
      refine sx_cv hm dX7_linkMethods_85 rs_RX7_138 mt_X4_above [.int l2] [] (b := v3) (ci := 4) rfl rfl rfl c4 (Nat.le_of_ble_eq_true rfl) (Nat.le_of_ble_eq_true rfl) (by omega) (by omega) (f_X4_above_ok X (by omega) (by omega) nn v3 l2 h e_u5) ?_
      clear e_u5
      show mx_S X F L 215 88 [(0, .ref l0), (1, .int l1), (2, .int l2), (3, .int l3), (4, .ref b1), (5, .int l5)] [.int u5.1] u5.2 0 0 (none, r, 0, 0)
      refine mx_S.pu (pc2 := 89) (lv2 := [(2, .int u5.1), (0, .ref l0), (1, .int l1), (3, .int l3), (4, .ref b1), (5, .int l5)]) (st2 := []) hm dX7_linkMethods_88 rfl ?_
      replace hf := xl_el hf; obtain ⟨v6, e_v6, hf⟩ := hf
      refine mx_S.pu (pc2 := 92) (lv2 := [(3, .int v6), (2, .int u5.1), (0, .ref l0), (1, .int l1), (4, .ref b1), (5, .int l5)]) (st2 := []) hm dX7_linkMethods_89 (by rw [← e_v6]; rfl) ?_
      clear e_v6
      refine mx_S.pu (pc2 := 7) (lv2 := [(3, .int v6), (2, .int u5.1), (0, .ref l0), (1, .int l1), (4, .ref b1), (5, .int l5)]) (st2 := []) hm dX7_linkMethods_92 rfl ?_
      refine mx_S.ext [(0, .ref l0), (1, .int l1), (2, .int u5.1), (3, .int v6)] (mx_sub_pos [2, 3, 1, 0] rfl (show ([3, 2, 0, 1, 4, 5] : List Nat).Nodup by decide)) ?_
      exact hk_7 l0 l1 u5.1 v6 u5.2 _ hf
    · refine sb_ic_ge hm dX7_linkMethods_36 (tgt := 80) rfl (fun z => absurd z c19) (fun _ => ?_)
      refine mx_S.pu (pc2 := 40) (lv2 := [(0, .ref l0), (1, .int l1), (2, .int l2), (3, .int l3), (4, .ref b1), (5, .int l5)]) (st2 := [.ref l0]) hm dX7_linkMethods_39 rfl ?_
      replace hf := mx_sv_el hf; obtain ⟨v7, e_v7, hf⟩ := hf
      refine sx_get hm dX7_linkMethods_40 rs_RX7_38 (xgr_el e_v7) ?_
      clear e_v7
      refine mx_S.pu (pc2 := 44) (lv2 := [(0, .ref l0), (1, .int l1), (2, .int l2), (3, .int l3), (4, .ref b1), (5, .int l5)]) (st2 := [.int l1, .ref v7]) hm dX7_linkMethods_43 rfl ?_
      refine sx_bi (v := 96) hm dX7_linkMethods_44 (by decide) ?_
      replace hf := xl_el hf; obtain ⟨v8, e_v8, hf⟩ := hf
      refine mx_S.pu (pc2 := 47) (lv2 := [(0, .ref l0), (1, .int l1), (2, .int l2), (3, .int l3), (4, .ref b1), (5, .int l5)]) (st2 := [.int v8, .ref v7]) hm dX7_linkMethods_46 (by rw [← e_v8]; rfl) ?_
      clear e_v8
      refine mx_S.pu (pc2 := 48) (lv2 := [(0, .ref l0), (1, .int l1), (2, .int l2), (3, .int l3), (4, .ref b1), (5, .int l5)]) (st2 := [.ref l0, .int v8, .ref v7]) hm dX7_linkMethods_47 rfl ?_
      refine mx_S.pu (pc2 := 49) (lv2 := [(0, .ref l0), (1, .int l1), (2, .int l2), (3, .int l3), (4, .ref b1), (5, .int l5)]) (st2 := [.int l2, .ref l0, .int v8, .ref v7]) hm dX7_linkMethods_48 rfl ?_
      refine mx_S.pu (pc2 := 51) (lv2 := [(0, .ref l0), (1, .int l1), (2, .int l2), (3, .int l3), (4, .ref b1), (5, .int l5)]) (st2 := [.int l5, .int l2, .ref l0, .int v8, .ref v7]) hm dX7_linkMethods_49 rfl ?_
      replace hf := mx_gd_el hf; obtain ⟨c9, hf⟩ := hf
      replace hf := mx_sv_el hf; obtain ⟨u10, e_u10, hf⟩ := hf
      refine sx_cv hm dX7_linkMethods_51 rs_RX7_135 mt_X7_numberOf [.int l2, .int l5] [.int v8, .ref v7] (b := l0) (ci := 7) rfl rfl rfl c9 (Nat.le_of_ble_eq_true rfl) (Nat.le_of_ble_eq_true rfl) (by omega) (by omega) (f_X7_numberOf_ok X (by omega) (by omega) nn l0 l2 l5 h e_u10) ?_
      clear e_u10
      show mx_S X F L 215 54 [(0, .ref l0), (1, .int l1), (2, .int l2), (3, .int l3), (4, .ref b1), (5, .int l5)] [.int u10.1, .int v8, .ref v7] u10.2 0 0 (none, r, 0, 0)
      replace hf := xl_el hf; obtain ⟨v11, e_v11, hf⟩ := hf
      refine mx_S.pu (pc2 := 55) (lv2 := [(0, .ref l0), (1, .int l1), (2, .int l2), (3, .int l3), (4, .ref b1), (5, .int l5)]) (st2 := [.int v11, .ref v7]) hm dX7_linkMethods_54 (by rw [← e_v11]; rfl) ?_
      clear e_v11
      refine mx_S.pu (pc2 := 56) (lv2 := [(0, .ref l0), (1, .int l1), (2, .int l2), (3, .int l3), (4, .ref b1), (5, .int l5)]) (st2 := [.ref l0, .int v11, .ref v7]) hm dX7_linkMethods_55 rfl ?_
      refine sx_bi (v := 8) hm dX7_linkMethods_56 (by decide) ?_
      refine mx_S.pu (pc2 := 59) (lv2 := [(0, .ref l0), (1, .int l1), (2, .int l2), (3, .int l3), (4, .ref b1), (5, .int l5)]) (st2 := [.int l1, .int 8, .ref l0, .int v11, .ref v7]) hm dX7_linkMethods_58 rfl ?_
      replace hf := xl_el hf; obtain ⟨v12, e_v12, hf⟩ := hf
      refine mx_S.pu (pc2 := 60) (lv2 := [(0, .ref l0), (1, .int l1), (2, .int l2), (3, .int l3), (4, .ref b1), (5, .int l5)]) (st2 := [.int v12, .ref l0, .int v11, .ref v7]) hm dX7_linkMethods_59 (by rw [← e_v12]; rfl) ?_
      clear e_v12
      refine mx_S.pu (pc2 := 62) (lv2 := [(0, .ref l0), (1, .int l1), (2, .int l2), (3, .int l3), (4, .ref b1), (5, .int l5)]) (st2 := [.ref b1, .int v12, .ref l0, .int v11, .ref v7]) hm dX7_linkMethods_60 rfl ?_
      refine mx_S.pu (pc2 := 64) (lv2 := [(0, .ref l0), (1, .int l1), (2, .int l2), (3, .int l3), (4, .ref b1), (5, .int l5)]) (st2 := [.ref b1, .ref b1, .int v12, .ref l0, .int v11, .ref v7]) hm dX7_linkMethods_62 rfl ?_
      refine mx_S.pu (pc2 := 66) (lv2 := [(0, .ref l0), (1, .int l1), (2, .int l2), (3, .int l3), (4, .ref b1), (5, .int l5)]) (st2 := [.int l5, .ref b1, .ref b1, .int v12, .ref l0, .int v11, .ref v7]) hm dX7_linkMethods_64 rfl ?_
      refine sx_ic (v := 1) hm dX7_linkMethods_66 (by decide) ?_
      replace hf := mx_gd_el hf; obtain ⟨c13, hf⟩ := hf
      replace hf := mx_sv_el hf; obtain ⟨u14, e_u14, hf⟩ := hf
      refine sx_cv hm dX7_linkMethods_67 rs_RX7_144 mt_X3_of [.int l5, .int 1] [.ref b1, .int v12, .ref l0, .int v11, .ref v7] (b := b1) (ci := 3) rfl rfl rfl c13 (Nat.le_of_ble_eq_true rfl) (Nat.le_of_ble_eq_true rfl) (by omega) (by omega) (f_X3_of_ok X (by omega) (by omega) nn b1 l5 1 u10.2 e_u14) ?_
      clear e_u14
      show mx_S X F L 215 70 [(0, .ref l0), (1, .int l1), (2, .int l2), (3, .int l3), (4, .ref b1), (5, .int l5)] [.int u14.1, .ref b1, .int v12, .ref l0, .int v11, .ref v7] u14.2 0 0 (none, r, 0, 0)
      replace hf := mx_gd_el hf; obtain ⟨c15, hf⟩ := hf
      replace hf := mx_sv_el hf; obtain ⟨u16, e_u16, hf⟩ := hf
      refine sx_cv hm dX7_linkMethods_70 rs_RX7_168 mt_X7_methodOf [.int v12, .ref b1, .int u14.1] [.int v11, .ref v7] (b := l0) (ci := 7) rfl rfl rfl c15 (Nat.le_of_ble_eq_true rfl) (Nat.le_of_ble_eq_true rfl) (by omega) (by omega) (f_X7_methodOf_ok X (by omega) (by omega) nn l0 v12 b1 u14.1 u14.2 e_u16) ?_
      clear e_u16
      show mx_S X F L 215 73 [(0, .ref l0), (1, .int l1), (2, .int l2), (3, .int l3), (4, .ref b1), (5, .int l5)] [.int u16.1, .int v11, .ref v7] u16.2 0 0 (none, r, 0, 0)
      replace hf := mx_sv_el hf; obtain ⟨h17, e_h17, hf⟩ := hf
      refine sx_ast hm dX7_linkMethods_73 e_h17 ?_
      clear e_h17
      replace hf := xl_el hf; obtain ⟨v18, e_v18, hf⟩ := hf
      refine mx_S.pu (pc2 := 77) (lv2 := [(5, .int v18), (0, .ref l0), (1, .int l1), (2, .int l2), (3, .int l3), (4, .ref b1)]) (st2 := []) hm dX7_linkMethods_74 (by rw [← e_v18]; rfl) ?_
      clear e_v18
      refine mx_S.pu (pc2 := 29) (lv2 := [(5, .int v18), (0, .ref l0), (1, .int l1), (2, .int l2), (3, .int l3), (4, .ref b1)]) (st2 := []) hm dX7_linkMethods_77 rfl ?_
      refine mx_S.ext [(0, .ref l0), (1, .int l1), (2, .int l2), (3, .int l3), (4, va_rf (some b1)), (5, .int v18)] (mx_sub_pos [1, 2, 3, 4, 5, 0] rfl (show ([5, 0, 1, 2, 3, 4] : List Nat).Nodup by decide)) ?_
      exact ih l0 l1 l2 l3 (some b1) v18 h17 _ hf
set_option maxHeartbeats 4000000 in
set_option maxRecDepth 20000 in
theorem w_X7_linkMethods_7_ok (X : Nat × (Nat → Int32)) {F L : Nat} (hF : 3 ≤ F) (hL : 77 ≤ L) (nn : Nat) : ∀ (k : Nat) (l0 : Nat) (l1 : Int32) (l2 : Int32) (l3 : Int32) (h : mx_H) (r : mx_H), w_X7_linkMethods_7 nn k l0 l1 l2 l3 h = some r → mx_S X F L 215 7 [(0, .ref l0), (1, .int l1), (2, .int l2), (3, .int l3)] [] h 0 0 (none, r, 0, 0) := by
  have hm : mx_mt 215 = some (yX7_linkMethods, cX7_linkMethods, 6, none) := mt_X7_linkMethods
  intro k
  induction k with
  | zero => intro l0 l1 l2 l3 h r hf; cases hf
  | succ k ih =>
    intro l0 l1 l2 l3 h r hf
    unfold w_X7_linkMethods_7 at hf
    refine mx_S.pu (pc2 := 8) (lv2 := [(0, .ref l0), (1, .int l1), (2, .int l2), (3, .int l3)]) (st2 := [.int l3]) hm dX7_linkMethods_7 rfl ?_
    refine sx_bi (v := 16) hm dX7_linkMethods_8 (by decide) ?_
    rcases mx_if_el hf with ⟨c24, hf⟩ | ⟨c24, hf⟩
    · refine sb_ic_ge hm dX7_linkMethods_10 (tgt := 95) rfl (fun _ => ?_) (fun z => absurd c24 z)
      cases hf
      exact sx_ret hm dX7_linkMethods_95 rfl
    · refine sb_ic_ge hm dX7_linkMethods_10 (tgt := 95) rfl (fun z => absurd z c24) (fun _ => ?_)
      refine mx_S.pu (pc2 := 14) (lv2 := [(0, .ref l0), (1, .int l1), (2, .int l2), (3, .int l3)]) (st2 := [.ref l0]) hm dX7_linkMethods_13 rfl ?_
      refine mx_S.pu (pc2 := 15) (lv2 := [(0, .ref l0), (1, .int l1), (2, .int l2), (3, .int l3)]) (st2 := [.int l2, .ref l0]) hm dX7_linkMethods_14 rfl ?_
      replace hf := mx_gd_el hf; obtain ⟨c20, hf⟩ := hf
      replace hf := mx_sv_el hf; obtain ⟨u21, e_u21, hf⟩ := hf
      refine sx_cv hm dX7_linkMethods_15 rs_RX7_90 mt_X7_imageOf [.int l2] [] (b := l0) (ci := 7) rfl rfl rfl c20 (Nat.le_of_ble_eq_true rfl) (Nat.le_of_ble_eq_true rfl) (by omega) (by omega) (f_X7_imageOf_ok X (by omega) (by omega) nn l0 l2 h e_u21) ?_
      clear e_u21
      show mx_S X F L 215 18 [(0, .ref l0), (1, .int l1), (2, .int l2), (3, .int l3)] [va_rf u21.1] u21.2 0 0 (none, r, 0, 0)
      refine sx_so (lv2 := [(4, va_rf u21.1), (0, .ref l0), (1, .int l1), (2, .int l2), (3, .int l3)]) hm dX7_linkMethods_18 rfl rfl ?_
      refine sx_ao hm dX7_linkMethods_20 rfl ?_
      rcases mx_oc_el hf with ⟨c23, hf⟩ | ⟨b22, c23, hf⟩
      · refine sx_ifnonnull_n hm dX7_linkMethods_22 c23 (tgt := 26) rfl ?_
        cases hf
        exact sx_ret hm dX7_linkMethods_25 rfl
      · refine sx_ifnonnull_s hm dX7_linkMethods_22 c23 (tgt := 26) rfl ?_
        rw [show va_rf u21.1 = Value.ref b22 by rw [c23]; rfl]
        refine sx_ic (v := 0) hm dX7_linkMethods_26 (by decide) ?_
        refine mx_S.pu (pc2 := 29) (lv2 := [(5, .int 0), (4, .ref b22), (0, .ref l0), (1, .int l1), (2, .int l2), (3, .int l3)]) (st2 := []) hm dX7_linkMethods_27 rfl ?_
        refine mx_S.ext [(0, .ref l0), (1, .int l1), (2, .int l2), (3, .int l3), (4, va_rf (some b22)), (5, .int 0)] (mx_sub_pos [2, 3, 4, 5, 1, 0] rfl (show ([5, 4, 0, 1, 2, 3] : List Nat).Nodup by decide)) ?_
        exact w_X7_linkMethods_29_ok X hF hL nn ih nn l0 l1 l2 l3 (some b22) 0 u21.2 _ hf
set_option maxHeartbeats 4000000 in
set_option maxRecDepth 20000 in
theorem f_X7_linkMethods_ok (X : Nat × (Nat → Int32)) {F L : Nat} (hF : 3 ≤ F) (hL : 77 ≤ L) (nn : Nat) (a0 : Nat) (a1 : Int32) (h : mx_H) {r : mx_H} (hf : f_X7_linkMethods nn a0 a1 h = some r) : mx_R X F L 215 [.ref a0, .int a1] h (none, r, 0, 0) := by
  have hm : mx_mt 215 = some (yX7_linkMethods, cX7_linkMethods, 6, none) := mt_X7_linkMethods
  show mx_S X F L 215 0 [(0, .ref a0), (1, .int a1)] [] h 0 0 (none, r, 0, 0)
  unfold f_X7_linkMethods at hf
  refine sx_bi (v := 8) hm dX7_linkMethods_0 (by decide) ?_
  refine mx_S.pu (pc2 := 3) (lv2 := [(0, .ref a0), (1, .int a1)]) (st2 := [.int a1, .int 8]) hm dX7_linkMethods_2 rfl ?_
  replace hf := xl_el hf; obtain ⟨v25, e_v25, hf⟩ := hf
  refine mx_S.pu (pc2 := 4) (lv2 := [(0, .ref a0), (1, .int a1)]) (st2 := [.int v25]) hm dX7_linkMethods_3 (by rw [← e_v25]; rfl) ?_
  clear e_v25
  refine mx_S.pu (pc2 := 5) (lv2 := [(2, .int v25), (0, .ref a0), (1, .int a1)]) (st2 := []) hm dX7_linkMethods_4 rfl ?_
  refine sx_ic (v := 0) hm dX7_linkMethods_5 (by decide) ?_
  refine mx_S.pu (pc2 := 7) (lv2 := [(3, .int 0), (2, .int v25), (0, .ref a0), (1, .int a1)]) (st2 := []) hm dX7_linkMethods_6 rfl ?_
  refine mx_S.ext [(0, .ref a0), (1, .int a1), (2, .int v25), (3, .int 0)] (mx_sub_pos [2, 3, 1, 0] rfl (show ([3, 2, 0, 1] : List Nat).Nodup by decide)) ?_
  exact w_X7_linkMethods_7_ok X hF hL nn nn a0 a1 v25 0 h _ hf
set_option maxHeartbeats 4000000 in
set_option maxRecDepth 20000 in
theorem f_X3_numberOf_ok (X : Nat × (Nat → Int32)) {F L : Nat} (hF : 2 ≤ F) (hL : 43 ≤ L) (nn : Nat) (a0 : Nat) (a1 : Int32) (h : mx_H) {r : (Int32 × mx_H)} (hf : f_X3_numberOf nn a0 a1 h = some r) : mx_R X F L 106 [.ref a0, .int a1] h (some (.int r.1), r.2, 0, 0) := by
  have hm : mx_mt 106 = some (yX3_numberOf, cX3_numberOf, 2, (some .int)) := mt_X3_numberOf
  show mx_S X F L 106 0 [(0, .ref a0), (1, .int a1)] [] h 0 0 (some (.int r.1), r.2, 0, 0)
  unfold f_X3_numberOf at hf
  refine mx_S.pu (pc2 := 1) (lv2 := [(0, .ref a0), (1, .int a1)]) (st2 := [.ref a0]) hm dX3_numberOf_0 rfl ?_
  refine mx_S.pu (pc2 := 2) (lv2 := [(0, .ref a0), (1, .int a1)]) (st2 := [.int a1, .ref a0]) hm dX3_numberOf_1 rfl ?_
  refine sx_ic (v := 0) hm dX3_numberOf_2 (by decide) ?_
  replace hf := mx_gd_el hf; obtain ⟨c1, hf⟩ := hf
  replace hf := mx_sv_el hf; obtain ⟨u2, e_u2, hf⟩ := hf
  refine sx_cv hm dX3_numberOf_3 rs_RX3_99 mt_X3_partOf [.int a1, .int 0] [] (b := a0) (ci := 3) rfl rfl rfl c1 (Nat.le_of_ble_eq_true rfl) (Nat.le_of_ble_eq_true rfl) (by omega) (by omega) (f_X3_partOf_ok X (by omega) (by omega) nn a0 a1 0 h e_u2) ?_
  clear e_u2
  show mx_S X F L 106 6 [(0, .ref a0), (1, .int a1)] [.int u2.1] u2.2 0 0 (some (.int r.1), r.2, 0, 0)
  refine sx_bi (v := 24) hm dX3_numberOf_6 (by decide) ?_
  replace hf := xl_el hf; obtain ⟨v3, e_v3, hf⟩ := hf
  refine mx_S.pu (pc2 := 9) (lv2 := [(0, .ref a0), (1, .int a1)]) (st2 := [.int v3]) hm dX3_numberOf_8 (by rw [← e_v3]; rfl) ?_
  clear e_v3
  refine mx_S.pu (pc2 := 10) (lv2 := [(0, .ref a0), (1, .int a1)]) (st2 := [.ref a0, .int v3]) hm dX3_numberOf_9 rfl ?_
  refine mx_S.pu (pc2 := 11) (lv2 := [(0, .ref a0), (1, .int a1)]) (st2 := [.int a1, .ref a0, .int v3]) hm dX3_numberOf_10 rfl ?_
  refine sx_ic (v := 1) hm dX3_numberOf_11 (by decide) ?_
  replace hf := mx_gd_el hf; obtain ⟨c4, hf⟩ := hf
  replace hf := mx_sv_el hf; obtain ⟨u5, e_u5, hf⟩ := hf
  refine sx_cv hm dX3_numberOf_12 rs_RX3_99 mt_X3_partOf [.int a1, .int 1] [.int v3] (b := a0) (ci := 3) rfl rfl rfl c4 (Nat.le_of_ble_eq_true rfl) (Nat.le_of_ble_eq_true rfl) (by omega) (by omega) (f_X3_partOf_ok X (by omega) (by omega) nn a0 a1 1 u2.2 e_u5) ?_
  clear e_u5
  show mx_S X F L 106 15 [(0, .ref a0), (1, .int a1)] [.int u5.1, .int v3] u5.2 0 0 (some (.int r.1), r.2, 0, 0)
  refine sx_bi (v := 16) hm dX3_numberOf_15 (by decide) ?_
  replace hf := xl_el hf; obtain ⟨v6, e_v6, hf⟩ := hf
  refine mx_S.pu (pc2 := 18) (lv2 := [(0, .ref a0), (1, .int a1)]) (st2 := [.int v6, .int v3]) hm dX3_numberOf_17 (by rw [← e_v6]; rfl) ?_
  clear e_v6
  replace hf := xl_el hf; obtain ⟨v7, e_v7, hf⟩ := hf
  refine mx_S.pu (pc2 := 19) (lv2 := [(0, .ref a0), (1, .int a1)]) (st2 := [.int v7]) hm dX3_numberOf_18 (by rw [← e_v7]; rfl) ?_
  clear e_v7
  refine mx_S.pu (pc2 := 20) (lv2 := [(0, .ref a0), (1, .int a1)]) (st2 := [.ref a0, .int v7]) hm dX3_numberOf_19 rfl ?_
  refine mx_S.pu (pc2 := 21) (lv2 := [(0, .ref a0), (1, .int a1)]) (st2 := [.int a1, .ref a0, .int v7]) hm dX3_numberOf_20 rfl ?_
  refine sx_ic (v := 2) hm dX3_numberOf_21 (by decide) ?_
  replace hf := mx_gd_el hf; obtain ⟨c8, hf⟩ := hf
  replace hf := mx_sv_el hf; obtain ⟨u9, e_u9, hf⟩ := hf
  refine sx_cv hm dX3_numberOf_22 rs_RX3_99 mt_X3_partOf [.int a1, .int 2] [.int v7] (b := a0) (ci := 3) rfl rfl rfl c8 (Nat.le_of_ble_eq_true rfl) (Nat.le_of_ble_eq_true rfl) (by omega) (by omega) (f_X3_partOf_ok X (by omega) (by omega) nn a0 a1 2 u5.2 e_u9) ?_
  clear e_u9
  show mx_S X F L 106 25 [(0, .ref a0), (1, .int a1)] [.int u9.1, .int v7] u9.2 0 0 (some (.int r.1), r.2, 0, 0)
  refine sx_bi (v := 8) hm dX3_numberOf_25 (by decide) ?_
  replace hf := xl_el hf; obtain ⟨v10, e_v10, hf⟩ := hf
  refine mx_S.pu (pc2 := 28) (lv2 := [(0, .ref a0), (1, .int a1)]) (st2 := [.int v10, .int v7]) hm dX3_numberOf_27 (by rw [← e_v10]; rfl) ?_
  clear e_v10
  replace hf := xl_el hf; obtain ⟨v11, e_v11, hf⟩ := hf
  refine mx_S.pu (pc2 := 29) (lv2 := [(0, .ref a0), (1, .int a1)]) (st2 := [.int v11]) hm dX3_numberOf_28 (by rw [← e_v11]; rfl) ?_
  clear e_v11
  refine mx_S.pu (pc2 := 30) (lv2 := [(0, .ref a0), (1, .int a1)]) (st2 := [.ref a0, .int v11]) hm dX3_numberOf_29 rfl ?_
  refine mx_S.pu (pc2 := 31) (lv2 := [(0, .ref a0), (1, .int a1)]) (st2 := [.int a1, .ref a0, .int v11]) hm dX3_numberOf_30 rfl ?_
  refine sx_ic (v := 3) hm dX3_numberOf_31 (by decide) ?_
  replace hf := mx_gd_el hf; obtain ⟨c12, hf⟩ := hf
  replace hf := mx_sv_el hf; obtain ⟨u13, e_u13, hf⟩ := hf
  refine sx_cv hm dX3_numberOf_32 rs_RX3_99 mt_X3_partOf [.int a1, .int 3] [.int v11] (b := a0) (ci := 3) rfl rfl rfl c12 (Nat.le_of_ble_eq_true rfl) (Nat.le_of_ble_eq_true rfl) (by omega) (by omega) (f_X3_partOf_ok X (by omega) (by omega) nn a0 a1 3 u9.2 e_u13) ?_
  clear e_u13
  show mx_S X F L 106 35 [(0, .ref a0), (1, .int a1)] [.int u13.1, .int v11] u13.2 0 0 (some (.int r.1), r.2, 0, 0)
  replace hf := xl_el hf; obtain ⟨v14, e_v14, hf⟩ := hf
  refine mx_S.pu (pc2 := 36) (lv2 := [(0, .ref a0), (1, .int a1)]) (st2 := [.int v14]) hm dX3_numberOf_35 (by rw [← e_v14]; rfl) ?_
  clear e_v14
  cases hf
  exact sx_ire hm dX3_numberOf_36 rfl rfl
set_option maxHeartbeats 4000000 in
set_option maxRecDepth 20000 in
theorem f_X7_linkOf_ok (X : Nat × (Nat → Int32)) {F L : Nat} (hF : 8 ≤ F) (hL : 187 ≤ L) (nn : Nat) (a0 : Nat) (a1 : Nat) (a2 : Int32) (h : mx_H) {r : (Int32 × mx_H)} (hf : f_X7_linkOf nn a0 a1 a2 h = some r) : mx_R X F L 214 [.ref a0, .ref a1, .int a2] h (some (.int r.1), r.2, 0, 0) := by
  have hm : mx_mt 214 = some (yX7_linkOf, cX7_linkOf, 7, (some .int)) := mt_X7_linkOf
  show mx_S X F L 214 0 [(0, .ref a0), (1, .ref a1), (2, .int a2)] [] h 0 0 (some (.int r.1), r.2, 0, 0)
  unfold f_X7_linkOf at hf
  refine mx_S.pu (pc2 := 1) (lv2 := [(0, .ref a0), (1, .ref a1), (2, .int a2)]) (st2 := [.ref a1]) hm dX7_linkOf_0 rfl ?_
  refine mx_S.pu (pc2 := 2) (lv2 := [(0, .ref a0), (1, .ref a1), (2, .int a2)]) (st2 := [.int a2, .ref a1]) hm dX7_linkOf_1 rfl ?_
  replace hf := mx_gd_el hf; obtain ⟨c1, hf⟩ := hf
  replace hf := mx_sv_el hf; obtain ⟨u2, e_u2, hf⟩ := hf
  refine sx_cv hm dX7_linkOf_2 rs_RX7_160 mt_X3_tagOf [.int a2] [] (b := a1) (ci := 3) rfl rfl rfl c1 (Nat.le_of_ble_eq_true rfl) (Nat.le_of_ble_eq_true rfl) (by omega) (by omega) (f_X3_tagOf_ok X (by omega) (by omega) nn a1 a2 h e_u2) ?_
  clear e_u2
  show mx_S X F L 214 5 [(0, .ref a0), (1, .ref a1), (2, .int a2)] [.int u2.1] u2.2 0 0 (some (.int r.1), r.2, 0, 0)
  refine mx_S.pu (pc2 := 6) (lv2 := [(3, .int u2.1), (0, .ref a0), (1, .ref a1), (2, .int a2)]) (st2 := []) hm dX7_linkOf_5 rfl ?_
  refine mx_S.pu (pc2 := 7) (lv2 := [(3, .int u2.1), (0, .ref a0), (1, .ref a1), (2, .int a2)]) (st2 := [.int u2.1]) hm dX7_linkOf_6 rfl ?_
  refine sx_ic (v := 2) hm dX7_linkOf_7 (by decide) ?_
  rcases mx_if_el hf with ⟨c38, hf⟩ | ⟨c38, hf⟩
  · refine sb_ic_ne hm dX7_linkOf_8 (tgt := 17) rfl (fun _ => ?_) (fun z => absurd c38 z)
    refine mx_S.pu (pc2 := 18) (lv2 := [(3, .int u2.1), (0, .ref a0), (1, .ref a1), (2, .int a2)]) (st2 := [.int u2.1]) hm dX7_linkOf_17 rfl ?_
    refine sx_ic (v := 3) hm dX7_linkOf_18 (by decide) ?_
    rcases mx_if_el hf with ⟨c35, hf⟩ | ⟨c35, hf⟩
    · refine sb_ic_ne hm dX7_linkOf_19 (tgt := 29) rfl (fun _ => ?_) (fun z => absurd c35 z)
      refine mx_S.pu (pc2 := 30) (lv2 := [(3, .int u2.1), (0, .ref a0), (1, .ref a1), (2, .int a2)]) (st2 := [.int u2.1]) hm dX7_linkOf_29 rfl ?_
      refine sx_ic (v := 4) hm dX7_linkOf_30 (by decide) ?_
      rcases mx_if_el hf with ⟨c32, hf⟩ | ⟨c32, hf⟩
      · refine sb_ic_eq hm dX7_linkOf_31 (tgt := 36) rfl (fun _ => ?_) (fun z => absurd c32 z)
        refine mx_S.pu (pc2 := 37) (lv2 := [(3, .int u2.1), (0, .ref a0), (1, .ref a1), (2, .int a2)]) (st2 := [.ref a0]) hm dX7_linkOf_36 rfl ?_
        refine mx_S.pu (pc2 := 38) (lv2 := [(3, .int u2.1), (0, .ref a0), (1, .ref a1), (2, .int a2)]) (st2 := [.ref a1, .ref a0]) hm dX7_linkOf_37 rfl ?_
        refine mx_S.pu (pc2 := 39) (lv2 := [(3, .int u2.1), (0, .ref a0), (1, .ref a1), (2, .int a2)]) (st2 := [.ref a1, .ref a1, .ref a0]) hm dX7_linkOf_38 rfl ?_
        refine mx_S.pu (pc2 := 40) (lv2 := [(3, .int u2.1), (0, .ref a0), (1, .ref a1), (2, .int a2)]) (st2 := [.int a2, .ref a1, .ref a1, .ref a0]) hm dX7_linkOf_39 rfl ?_
        refine sx_ic (v := 0) hm dX7_linkOf_40 (by decide) ?_
        replace hf := mx_gd_el hf; obtain ⟨c3, hf⟩ := hf
        replace hf := mx_sv_el hf; obtain ⟨u4, e_u4, hf⟩ := hf
        refine sx_cv hm dX7_linkOf_41 rs_RX7_120 mt_X3_partOf [.int a2, .int 0] [.ref a1, .ref a0] (b := a1) (ci := 3) rfl rfl rfl c3 (Nat.le_of_ble_eq_true rfl) (Nat.le_of_ble_eq_true rfl) (by omega) (by omega) (f_X3_partOf_ok X (by omega) (by omega) nn a1 a2 0 u2.2 e_u4) ?_
        clear e_u4
        show mx_S X F L 214 44 [(3, .int u2.1), (0, .ref a0), (1, .ref a1), (2, .int a2)] [.int u4.1, .ref a1, .ref a0] u4.2 0 0 (some (.int r.1), r.2, 0, 0)
        replace hf := mx_gd_el hf; obtain ⟨c5, hf⟩ := hf
        replace hf := mx_sv_el hf; obtain ⟨u6, e_u6, hf⟩ := hf
        refine sx_cv hm dX7_linkOf_44 rs_RX7_165 mt_X7_typeOfClass [.ref a1, .int u4.1] [] (b := a0) (ci := 7) rfl rfl rfl c5 (Nat.le_of_ble_eq_true rfl) (Nat.le_of_ble_eq_true rfl) (by omega) (by omega) (f_X7_typeOfClass_ok X (by omega) (by omega) nn a0 a1 u4.1 u4.2 e_u6) ?_
        clear e_u6
        show mx_S X F L 214 47 [(3, .int u2.1), (0, .ref a0), (1, .ref a1), (2, .int a2)] [.int u6.1] u6.2 0 0 (some (.int r.1), r.2, 0, 0)
        refine mx_S.pu (pc2 := 49) (lv2 := [(4, .int u6.1), (3, .int u2.1), (0, .ref a0), (1, .ref a1), (2, .int a2)]) (st2 := []) hm dX7_linkOf_47 rfl ?_
        refine mx_S.pu (pc2 := 50) (lv2 := [(4, .int u6.1), (3, .int u2.1), (0, .ref a0), (1, .ref a1), (2, .int a2)]) (st2 := [.ref a1]) hm dX7_linkOf_49 rfl ?_
        refine mx_S.pu (pc2 := 51) (lv2 := [(4, .int u6.1), (3, .int u2.1), (0, .ref a0), (1, .ref a1), (2, .int a2)]) (st2 := [.ref a1, .ref a1]) hm dX7_linkOf_50 rfl ?_
        refine mx_S.pu (pc2 := 52) (lv2 := [(4, .int u6.1), (3, .int u2.1), (0, .ref a0), (1, .ref a1), (2, .int a2)]) (st2 := [.ref a1, .ref a1, .ref a1]) hm dX7_linkOf_51 rfl ?_
        refine mx_S.pu (pc2 := 53) (lv2 := [(4, .int u6.1), (3, .int u2.1), (0, .ref a0), (1, .ref a1), (2, .int a2)]) (st2 := [.int a2, .ref a1, .ref a1, .ref a1]) hm dX7_linkOf_52 rfl ?_
        refine sx_ic (v := 2) hm dX7_linkOf_53 (by decide) ?_
        replace hf := mx_gd_el hf; obtain ⟨c7, hf⟩ := hf
        replace hf := mx_sv_el hf; obtain ⟨u8, e_u8, hf⟩ := hf
        refine sx_cv hm dX7_linkOf_54 rs_RX7_120 mt_X3_partOf [.int a2, .int 2] [.ref a1, .ref a1] (b := a1) (ci := 3) rfl rfl rfl c7 (Nat.le_of_ble_eq_true rfl) (Nat.le_of_ble_eq_true rfl) (by omega) (by omega) (f_X3_partOf_ok X (by omega) (by omega) nn a1 a2 2 u6.2 e_u8) ?_
        clear e_u8
        show mx_S X F L 214 57 [(4, .int u6.1), (3, .int u2.1), (0, .ref a0), (1, .ref a1), (2, .int a2)] [.int u8.1, .ref a1, .ref a1] u8.2 0 0 (some (.int r.1), r.2, 0, 0)
        replace hf := mx_gd_el hf; obtain ⟨c9, hf⟩ := hf
        replace hf := mx_sv_el hf; obtain ⟨u10, e_u10, hf⟩ := hf
        refine sx_cv hm dX7_linkOf_57 rs_RX7_59 mt_X3_textAt [.int u8.1] [.ref a1] (b := a1) (ci := 3) rfl rfl rfl c9 (Nat.le_of_ble_eq_true rfl) (Nat.le_of_ble_eq_true rfl) (by omega) (by omega) (f_X3_textAt_ok X (by omega) (by omega) nn a1 u8.1 u8.2 e_u10) ?_
        clear e_u10
        show mx_S X F L 214 60 [(4, .int u6.1), (3, .int u2.1), (0, .ref a0), (1, .ref a1), (2, .int a2)] [.int u10.1, .ref a1] u10.2 0 0 (some (.int r.1), r.2, 0, 0)
        replace hf := mx_gd_el hf; obtain ⟨c11, hf⟩ := hf
        replace hf := mx_sv_el hf; obtain ⟨u12, e_u12, hf⟩ := hf
        refine sx_cv hm dX7_linkOf_60 rs_RX7_117 mt_X3_byteAt [.int u10.1] [] (b := a1) (ci := 3) rfl rfl rfl c11 (Nat.le_of_ble_eq_true rfl) (Nat.le_of_ble_eq_true rfl) (by omega) (by omega) (f_X3_byteAt_ok X (by omega) (by omega) nn a1 u10.1 u10.2 e_u12) ?_
        clear e_u12
        show mx_S X F L 214 63 [(4, .int u6.1), (3, .int u2.1), (0, .ref a0), (1, .ref a1), (2, .int a2)] [.int u12.1] u12.2 0 0 (some (.int r.1), r.2, 0, 0)
        refine sx_bi (v := 40) hm dX7_linkOf_63 (by decide) ?_
        rcases mx_if_el hf with ⟨c31, hf⟩ | ⟨c31, hf⟩
        · refine sb_ic_ne hm dX7_linkOf_65 (tgt := 82) rfl (fun _ => ?_) (fun z => absurd c31 z)
          refine mx_S.pu (pc2 := 83) (lv2 := [(4, .int u6.1), (3, .int u2.1), (0, .ref a0), (1, .ref a1), (2, .int a2)]) (st2 := [.ref a0]) hm dX7_linkOf_82 rfl ?_
          refine mx_S.pu (pc2 := 85) (lv2 := [(4, .int u6.1), (3, .int u2.1), (0, .ref a0), (1, .ref a1), (2, .int a2)]) (st2 := [.int u6.1, .ref a0]) hm dX7_linkOf_83 rfl ?_
          refine mx_S.pu (pc2 := 86) (lv2 := [(4, .int u6.1), (3, .int u2.1), (0, .ref a0), (1, .ref a1), (2, .int a2)]) (st2 := [.ref a1, .int u6.1, .ref a0]) hm dX7_linkOf_85 rfl ?_
          refine mx_S.pu (pc2 := 87) (lv2 := [(4, .int u6.1), (3, .int u2.1), (0, .ref a0), (1, .ref a1), (2, .int a2)]) (st2 := [.ref a1, .ref a1, .int u6.1, .ref a0]) hm dX7_linkOf_86 rfl ?_
          refine mx_S.pu (pc2 := 88) (lv2 := [(4, .int u6.1), (3, .int u2.1), (0, .ref a0), (1, .ref a1), (2, .int a2)]) (st2 := [.int a2, .ref a1, .ref a1, .int u6.1, .ref a0]) hm dX7_linkOf_87 rfl ?_
          refine sx_ic (v := 1) hm dX7_linkOf_88 (by decide) ?_
          replace hf := mx_gd_el hf; obtain ⟨c13, hf⟩ := hf
          replace hf := mx_sv_el hf; obtain ⟨u14, e_u14, hf⟩ := hf
          refine sx_cv hm dX7_linkOf_89 rs_RX7_120 mt_X3_partOf [.int a2, .int 1] [.ref a1, .int u6.1, .ref a0] (b := a1) (ci := 3) rfl rfl rfl c13 (Nat.le_of_ble_eq_true rfl) (Nat.le_of_ble_eq_true rfl) (by omega) (by omega) (f_X3_partOf_ok X (by omega) (by omega) nn a1 a2 1 u12.2 e_u14) ?_
          clear e_u14
          show mx_S X F L 214 92 [(4, .int u6.1), (3, .int u2.1), (0, .ref a0), (1, .ref a1), (2, .int a2)] [.int u14.1, .ref a1, .int u6.1, .ref a0] u14.2 0 0 (some (.int r.1), r.2, 0, 0)
          replace hf := mx_gd_el hf; obtain ⟨c15, hf⟩ := hf
          replace hf := mx_sv_el hf; obtain ⟨u16, e_u16, hf⟩ := hf
          refine sx_cv hm dX7_linkOf_92 rs_RX7_172 mt_X7_fieldOf [.int u6.1, .ref a1, .int u14.1] [] (b := a0) (ci := 7) rfl rfl rfl c15 (Nat.le_of_ble_eq_true rfl) (Nat.le_of_ble_eq_true rfl) (by omega) (by omega) (f_X7_fieldOf_ok X (by omega) (by omega) nn a0 u6.1 a1 u14.1 u14.2 e_u16) ?_
          clear e_u16
          show mx_S X F L 214 95 [(4, .int u6.1), (3, .int u2.1), (0, .ref a0), (1, .ref a1), (2, .int a2)] [.int u16.1] u16.2 0 0 (some (.int r.1), r.2, 0, 0)
          refine mx_S.pu (pc2 := 97) (lv2 := [(5, .int u16.1), (4, .int u6.1), (3, .int u2.1), (0, .ref a0), (1, .ref a1), (2, .int a2)]) (st2 := []) hm dX7_linkOf_95 rfl ?_
          refine mx_S.pu (pc2 := 99) (lv2 := [(5, .int u16.1), (4, .int u6.1), (3, .int u2.1), (0, .ref a0), (1, .ref a1), (2, .int a2)]) (st2 := [.int u16.1]) hm dX7_linkOf_97 rfl ?_
          refine sx_ic (v := (-1)) hm dX7_linkOf_99 (by decide) ?_
          rcases mx_if_el hf with ⟨c26, hf⟩ | ⟨c26, hf⟩
          · refine sb_ic_ne hm dX7_linkOf_100 (tgt := 105) rfl (fun _ => ?_) (fun z => absurd c26 z)
            refine sx_bi (v := 8) hm dX7_linkOf_105 (by decide) ?_
            refine mx_S.pu (pc2 := 109) (lv2 := [(5, .int u16.1), (4, .int u6.1), (3, .int u2.1), (0, .ref a0), (1, .ref a1), (2, .int a2)]) (st2 := [.int u16.1, .int 8]) hm dX7_linkOf_107 rfl ?_
            refine sx_bi (v := 12) hm dX7_linkOf_109 (by decide) ?_
            replace hf := xl_el hf; obtain ⟨v17, e_v17, hf⟩ := hf
            refine sx_idiv (v := v17) hm dX7_linkOf_111 (by decide) e_v17 ?_
            clear e_v17
            replace hf := xl_el hf; obtain ⟨v18, e_v18, hf⟩ := hf
            refine mx_S.pu (pc2 := 113) (lv2 := [(5, .int u16.1), (4, .int u6.1), (3, .int u2.1), (0, .ref a0), (1, .ref a1), (2, .int a2)]) (st2 := [.int v18]) hm dX7_linkOf_112 (by rw [← e_v18]; rfl) ?_
            clear e_v18
            refine mx_S.pu (pc2 := 115) (lv2 := [(6, .int v18), (5, .int u16.1), (4, .int u6.1), (3, .int u2.1), (0, .ref a0), (1, .ref a1), (2, .int a2)]) (st2 := []) hm dX7_linkOf_113 rfl ?_
            refine mx_S.pu (pc2 := 116) (lv2 := [(6, .int v18), (5, .int u16.1), (4, .int u6.1), (3, .int u2.1), (0, .ref a0), (1, .ref a1), (2, .int a2)]) (st2 := [.ref a0]) hm dX7_linkOf_115 rfl ?_
            refine mx_S.pu (pc2 := 117) (lv2 := [(6, .int v18), (5, .int u16.1), (4, .int u6.1), (3, .int u2.1), (0, .ref a0), (1, .ref a1), (2, .int a2)]) (st2 := [.ref a0, .ref a0]) hm dX7_linkOf_116 rfl ?_
            replace hf := mx_sv_el hf; obtain ⟨v19, e_v19, hf⟩ := hf
            refine sx_get hm dX7_linkOf_117 rs_RX7_16 (xgr_el e_v19) ?_
            clear e_v19
            refine mx_S.pu (pc2 := 122) (lv2 := [(6, .int v18), (5, .int u16.1), (4, .int u6.1), (3, .int u2.1), (0, .ref a0), (1, .ref a1), (2, .int a2)]) (st2 := [.int v18, .ref v19, .ref a0]) hm dX7_linkOf_120 rfl ?_
            replace hf := mx_gd_el hf; obtain ⟨c20, hf⟩ := hf
            replace hf := mx_sv_el hf; obtain ⟨u21, e_u21, hf⟩ := hf
            refine sx_cv hm dX7_linkOf_122 rs_RX7_138 mt_X4_above [.int v18] [.ref a0] (b := v19) (ci := 4) rfl rfl rfl c20 (Nat.le_of_ble_eq_true rfl) (Nat.le_of_ble_eq_true rfl) (by omega) (by omega) (f_X4_above_ok X (by omega) (by omega) nn v19 v18 u16.2 e_u21) ?_
            clear e_u21
            show mx_S X F L 214 125 [(6, .int v18), (5, .int u16.1), (4, .int u6.1), (3, .int u2.1), (0, .ref a0), (1, .ref a1), (2, .int a2)] [.int u21.1, .ref a0] u21.2 0 0 (some (.int r.1), r.2, 0, 0)
            replace hf := mx_gd_el hf; obtain ⟨c22, hf⟩ := hf
            replace hf := mx_sv_el hf; obtain ⟨u23, e_u23, hf⟩ := hf
            refine sx_cv hm dX7_linkOf_125 rs_RX7_147 mt_X7_cellsAbove [.int u21.1] [] (b := a0) (ci := 7) rfl rfl rfl c22 (Nat.le_of_ble_eq_true rfl) (Nat.le_of_ble_eq_true rfl) (by omega) (by omega) (f_X7_cellsAbove_ok X (by omega) (by omega) nn a0 u21.1 u21.2 e_u23) ?_
            clear e_u23
            show mx_S X F L 214 128 [(6, .int v18), (5, .int u16.1), (4, .int u6.1), (3, .int u2.1), (0, .ref a0), (1, .ref a1), (2, .int a2)] [.int u23.1] u23.2 0 0 (some (.int r.1), r.2, 0, 0)
            refine mx_S.pu (pc2 := 130) (lv2 := [(6, .int v18), (5, .int u16.1), (4, .int u6.1), (3, .int u2.1), (0, .ref a0), (1, .ref a1), (2, .int a2)]) (st2 := [.int u16.1, .int u23.1]) hm dX7_linkOf_128 rfl ?_
            refine sx_bi (v := 12) hm dX7_linkOf_130 (by decide) ?_
            replace hf := xl_el hf; obtain ⟨v24, e_v24, hf⟩ := hf
            refine sx_irem (v := v24) hm dX7_linkOf_132 (by decide) e_v24 ?_
            clear e_v24
            replace hf := xl_el hf; obtain ⟨v25, e_v25, hf⟩ := hf
            refine mx_S.pu (pc2 := 134) (lv2 := [(6, .int v18), (5, .int u16.1), (4, .int u6.1), (3, .int u2.1), (0, .ref a0), (1, .ref a1), (2, .int a2)]) (st2 := [.int v25]) hm dX7_linkOf_133 (by rw [← e_v25]; rfl) ?_
            clear e_v25
            cases hf
            exact sx_ire hm dX7_linkOf_134 rfl rfl
          · refine sb_ic_ne hm dX7_linkOf_100 (tgt := 105) rfl (fun z => absurd z c26) (fun _ => ?_)
            refine sx_ic (v := (-1)) hm dX7_linkOf_103 (by decide) ?_
            cases hf
            exact sx_ire hm dX7_linkOf_104 rfl rfl
        · refine sb_ic_ne hm dX7_linkOf_65 (tgt := 82) rfl (fun z => absurd z c31) (fun _ => ?_)
          refine mx_S.pu (pc2 := 69) (lv2 := [(4, .int u6.1), (3, .int u2.1), (0, .ref a0), (1, .ref a1), (2, .int a2)]) (st2 := [.ref a0]) hm dX7_linkOf_68 rfl ?_
          refine mx_S.pu (pc2 := 71) (lv2 := [(4, .int u6.1), (3, .int u2.1), (0, .ref a0), (1, .ref a1), (2, .int a2)]) (st2 := [.int u6.1, .ref a0]) hm dX7_linkOf_69 rfl ?_
          refine mx_S.pu (pc2 := 72) (lv2 := [(4, .int u6.1), (3, .int u2.1), (0, .ref a0), (1, .ref a1), (2, .int a2)]) (st2 := [.ref a1, .int u6.1, .ref a0]) hm dX7_linkOf_71 rfl ?_
          refine mx_S.pu (pc2 := 73) (lv2 := [(4, .int u6.1), (3, .int u2.1), (0, .ref a0), (1, .ref a1), (2, .int a2)]) (st2 := [.ref a1, .ref a1, .int u6.1, .ref a0]) hm dX7_linkOf_72 rfl ?_
          refine mx_S.pu (pc2 := 74) (lv2 := [(4, .int u6.1), (3, .int u2.1), (0, .ref a0), (1, .ref a1), (2, .int a2)]) (st2 := [.int a2, .ref a1, .ref a1, .int u6.1, .ref a0]) hm dX7_linkOf_73 rfl ?_
          refine sx_ic (v := 1) hm dX7_linkOf_74 (by decide) ?_
          replace hf := mx_gd_el hf; obtain ⟨c27, hf⟩ := hf
          replace hf := mx_sv_el hf; obtain ⟨u28, e_u28, hf⟩ := hf
          refine sx_cv hm dX7_linkOf_75 rs_RX7_120 mt_X3_partOf [.int a2, .int 1] [.ref a1, .int u6.1, .ref a0] (b := a1) (ci := 3) rfl rfl rfl c27 (Nat.le_of_ble_eq_true rfl) (Nat.le_of_ble_eq_true rfl) (by omega) (by omega) (f_X3_partOf_ok X (by omega) (by omega) nn a1 a2 1 u12.2 e_u28) ?_
          clear e_u28
          show mx_S X F L 214 78 [(4, .int u6.1), (3, .int u2.1), (0, .ref a0), (1, .ref a1), (2, .int a2)] [.int u28.1, .ref a1, .int u6.1, .ref a0] u28.2 0 0 (some (.int r.1), r.2, 0, 0)
          replace hf := mx_gd_el hf; obtain ⟨c29, hf⟩ := hf
          replace hf := mx_sv_el hf; obtain ⟨u30, e_u30, hf⟩ := hf
          refine sx_cv hm dX7_linkOf_78 rs_RX7_168 mt_X7_methodOf [.int u6.1, .ref a1, .int u28.1] [] (b := a0) (ci := 7) rfl rfl rfl c29 (Nat.le_of_ble_eq_true rfl) (Nat.le_of_ble_eq_true rfl) (by omega) (by omega) (f_X7_methodOf_ok X (by omega) (by omega) nn a0 u6.1 a1 u28.1 u28.2 e_u30) ?_
          clear e_u30
          show mx_S X F L 214 81 [(4, .int u6.1), (3, .int u2.1), (0, .ref a0), (1, .ref a1), (2, .int a2)] [.int u30.1] u30.2 0 0 (some (.int r.1), r.2, 0, 0)
          cases hf
          exact sx_ire hm dX7_linkOf_81 rfl rfl
      · refine sb_ic_eq hm dX7_linkOf_31 (tgt := 36) rfl (fun z => absurd z c32) (fun _ => ?_)
        refine sx_ic (v := (-1)) hm dX7_linkOf_34 (by decide) ?_
        cases hf
        exact sx_ire hm dX7_linkOf_35 rfl rfl
    · refine sb_ic_ne hm dX7_linkOf_19 (tgt := 29) rfl (fun z => absurd z c35) (fun _ => ?_)
      refine mx_S.pu (pc2 := 23) (lv2 := [(3, .int u2.1), (0, .ref a0), (1, .ref a1), (2, .int a2)]) (st2 := [.ref a0]) hm dX7_linkOf_22 rfl ?_
      refine mx_S.pu (pc2 := 24) (lv2 := [(3, .int u2.1), (0, .ref a0), (1, .ref a1), (2, .int a2)]) (st2 := [.ref a1, .ref a0]) hm dX7_linkOf_23 rfl ?_
      refine mx_S.pu (pc2 := 25) (lv2 := [(3, .int u2.1), (0, .ref a0), (1, .ref a1), (2, .int a2)]) (st2 := [.int a2, .ref a1, .ref a0]) hm dX7_linkOf_24 rfl ?_
      replace hf := mx_gd_el hf; obtain ⟨c33, hf⟩ := hf
      replace hf := mx_sv_el hf; obtain ⟨u34, e_u34, hf⟩ := hf
      refine sx_cv hm dX7_linkOf_25 rs_RX7_165 mt_X7_typeOfClass [.ref a1, .int a2] [] (b := a0) (ci := 7) rfl rfl rfl c33 (Nat.le_of_ble_eq_true rfl) (Nat.le_of_ble_eq_true rfl) (by omega) (by omega) (f_X7_typeOfClass_ok X (by omega) (by omega) nn a0 a1 a2 u2.2 e_u34) ?_
      clear e_u34
      show mx_S X F L 214 28 [(3, .int u2.1), (0, .ref a0), (1, .ref a1), (2, .int a2)] [.int u34.1] u34.2 0 0 (some (.int r.1), r.2, 0, 0)
      cases hf
      exact sx_ire hm dX7_linkOf_28 rfl rfl
  · refine sb_ic_ne hm dX7_linkOf_8 (tgt := 17) rfl (fun z => absurd z c38) (fun _ => ?_)
    refine mx_S.pu (pc2 := 12) (lv2 := [(3, .int u2.1), (0, .ref a0), (1, .ref a1), (2, .int a2)]) (st2 := [.ref a1]) hm dX7_linkOf_11 rfl ?_
    refine mx_S.pu (pc2 := 13) (lv2 := [(3, .int u2.1), (0, .ref a0), (1, .ref a1), (2, .int a2)]) (st2 := [.int a2, .ref a1]) hm dX7_linkOf_12 rfl ?_
    replace hf := mx_gd_el hf; obtain ⟨c36, hf⟩ := hf
    replace hf := mx_sv_el hf; obtain ⟨u37, e_u37, hf⟩ := hf
    refine sx_cv hm dX7_linkOf_13 rs_RX7_163 mt_X3_numberOf [.int a2] [] (b := a1) (ci := 3) rfl rfl rfl c36 (Nat.le_of_ble_eq_true rfl) (Nat.le_of_ble_eq_true rfl) (by omega) (by omega) (f_X3_numberOf_ok X (by omega) (by omega) nn a1 a2 u2.2 e_u37) ?_
    clear e_u37
    show mx_S X F L 214 16 [(3, .int u2.1), (0, .ref a0), (1, .ref a1), (2, .int a2)] [.int u37.1] u37.2 0 0 (some (.int r.1), r.2, 0, 0)
    cases hf
    exact sx_ire hm dX7_linkOf_16 rfl rfl
