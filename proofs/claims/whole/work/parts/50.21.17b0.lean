set_option maxHeartbeats 4000000 in
set_option maxRecDepth 20000 in
theorem j_X3_readMethod_52_ok (X : Nat × (Nat → Int32)) {F L : Nat} (hF : 4 ≤ F) (hL : 89 ≤ L) (nn : Nat) (l0 : Nat) (l1 : Int32) (l2 : Int32) (l3 : Int32) (h : mx_H) {r : mx_H} (hf : j_X3_readMethod_52 nn l0 l1 l2 l3 h = some r) : mx_S X F L 121 52 [(0, .ref l0), (1, .int l1), (2, .int l2), (3, .int l3)] [] h 0 0 (none, r, 0, 0) := by
  have hm : mx_mt 121 = some (yX3_readMethod, cX3_readMethod, 4, none) := mt_X3_readMethod
  unfold j_X3_readMethod_52 at hf
  refine mx_S.pu (pc2 := 53) (lv2 := [(0, .ref l0), (1, .int l1), (2, .int l2), (3, .int l3)]) (st2 := [.ref l0]) hm dX3_readMethod_52 rfl ?_
  replace hf := mx_sv_el hf; obtain ⟨v1, e_v1, hf⟩ := hf
  refine sx_get hm dX3_readMethod_53 rs_RX3_30 (xgr_el e_v1) ?_
  clear e_v1
  refine mx_S.pu (pc2 := 57) (lv2 := [(0, .ref l0), (1, .int l1), (2, .int l2), (3, .int l3)]) (st2 := [.int l1, .ref v1]) hm dX3_readMethod_56 rfl ?_
  refine sx_ic (v := 2) hm dX3_readMethod_57 (by decide) ?_
  replace hf := xl_el hf; obtain ⟨v2, e_v2, hf⟩ := hf
  refine mx_S.pu (pc2 := 59) (lv2 := [(0, .ref l0), (1, .int l1), (2, .int l2), (3, .int l3)]) (st2 := [.int v2, .ref v1]) hm dX3_readMethod_58 (by rw [← e_v2]; rfl) ?_
  clear e_v2
  refine mx_S.pu (pc2 := 60) (lv2 := [(0, .ref l0), (1, .int l1), (2, .int l2), (3, .int l3)]) (st2 := [.int l2, .int v2, .ref v1]) hm dX3_readMethod_59 rfl ?_
  replace hf := mx_sv_el hf; obtain ⟨h3, e_h3, hf⟩ := hf
  refine sx_ast hm dX3_readMethod_60 e_h3 ?_
  clear e_h3
  refine mx_S.pu (pc2 := 62) (lv2 := [(0, .ref l0), (1, .int l1), (2, .int l2), (3, .int l3)]) (st2 := [.ref l0]) hm dX3_readMethod_61 rfl ?_
  replace hf := mx_sv_el hf; obtain ⟨v4, e_v4, hf⟩ := hf
  refine sx_get hm dX3_readMethod_62 rs_RX3_30 (xgr_el e_v4) ?_
  clear e_v4
  refine mx_S.pu (pc2 := 66) (lv2 := [(0, .ref l0), (1, .int l1), (2, .int l2), (3, .int l3)]) (st2 := [.int l1, .ref v4]) hm dX3_readMethod_65 rfl ?_
  refine sx_bi (v := 11) hm dX3_readMethod_66 (by decide) ?_
  replace hf := xl_el hf; obtain ⟨v5, e_v5, hf⟩ := hf
  refine mx_S.pu (pc2 := 69) (lv2 := [(0, .ref l0), (1, .int l1), (2, .int l2), (3, .int l3)]) (st2 := [.int v5, .ref v4]) hm dX3_readMethod_68 (by rw [← e_v5]; rfl) ?_
  clear e_v5
  refine mx_S.pu (pc2 := 70) (lv2 := [(0, .ref l0), (1, .int l1), (2, .int l2), (3, .int l3)]) (st2 := [.int l3, .int v5, .ref v4]) hm dX3_readMethod_69 rfl ?_
  replace hf := mx_sv_el hf; obtain ⟨h6, e_h6, hf⟩ := hf
  refine sx_ast hm dX3_readMethod_70 e_h6 ?_
  clear e_h6
  refine mx_S.pu (pc2 := 72) (lv2 := [(0, .ref l0), (1, .int l1), (2, .int l2), (3, .int l3)]) (st2 := [.ref l0]) hm dX3_readMethod_71 rfl ?_
  replace hf := mx_sv_el hf; obtain ⟨v7, e_v7, hf⟩ := hf
  refine sx_get hm dX3_readMethod_72 rs_RX3_30 (xgr_el e_v7) ?_
  clear e_v7
  refine mx_S.pu (pc2 := 76) (lv2 := [(0, .ref l0), (1, .int l1), (2, .int l2), (3, .int l3)]) (st2 := [.int l1, .ref v7]) hm dX3_readMethod_75 rfl ?_
  refine sx_ic (v := 3) hm dX3_readMethod_76 (by decide) ?_
  replace hf := xl_el hf; obtain ⟨v8, e_v8, hf⟩ := hf
  refine mx_S.pu (pc2 := 78) (lv2 := [(0, .ref l0), (1, .int l1), (2, .int l2), (3, .int l3)]) (st2 := [.int v8, .ref v7]) hm dX3_readMethod_77 (by rw [← e_v8]; rfl) ?_
  clear e_v8
  refine mx_S.pu (pc2 := 79) (lv2 := [(0, .ref l0), (1, .int l1), (2, .int l2), (3, .int l3)]) (st2 := [.ref l0, .int v8, .ref v7]) hm dX3_readMethod_78 rfl ?_
  refine sx_ic (v := 0) hm dX3_readMethod_79 (by decide) ?_
  refine sx_bi (v := 30) hm dX3_readMethod_80 (by decide) ?_
  replace hf := mx_gd_el hf; obtain ⟨c9, hf⟩ := hf
  replace hf := mx_sv_el hf; obtain ⟨u10, e_u10, hf⟩ := hf
  refine sx_cv hm dX3_readMethod_82 rs_RX3_71 mt_X3_nextUpTo [.int 0, .int 30] [.int v8, .ref v7] (b := l0) (ci := 3) rfl rfl rfl c9 (Nat.le_of_ble_eq_true rfl) (Nat.le_of_ble_eq_true rfl) (by omega) (by omega) (f_X3_nextUpTo_ok X (by omega) (by omega) nn l0 0 30 h6 e_u10) ?_
  clear e_u10
  show mx_S X F L 121 85 [(0, .ref l0), (1, .int l1), (2, .int l2), (3, .int l3)] [.int u10.1, .int v8, .ref v7] u10.2 0 0 (none, r, 0, 0)
  replace hf := mx_sv_el hf; obtain ⟨h11, e_h11, hf⟩ := hf
  refine sx_ast hm dX3_readMethod_85 e_h11 ?_
  clear e_h11
  refine mx_S.pu (pc2 := 87) (lv2 := [(0, .ref l0), (1, .int l1), (2, .int l2), (3, .int l3)]) (st2 := [.ref l0]) hm dX3_readMethod_86 rfl ?_
  replace hf := mx_sv_el hf; obtain ⟨v12, e_v12, hf⟩ := hf
  refine sx_get hm dX3_readMethod_87 rs_RX3_30 (xgr_el e_v12) ?_
  clear e_v12
  refine mx_S.pu (pc2 := 91) (lv2 := [(0, .ref l0), (1, .int l1), (2, .int l2), (3, .int l3)]) (st2 := [.int l1, .ref v12]) hm dX3_readMethod_90 rfl ?_
  refine sx_ic (v := 4) hm dX3_readMethod_91 (by decide) ?_
  replace hf := xl_el hf; obtain ⟨v13, e_v13, hf⟩ := hf
  refine mx_S.pu (pc2 := 93) (lv2 := [(0, .ref l0), (1, .int l1), (2, .int l2), (3, .int l3)]) (st2 := [.int v13, .ref v12]) hm dX3_readMethod_92 (by rw [← e_v13]; rfl) ?_
  clear e_v13
  refine mx_S.pu (pc2 := 94) (lv2 := [(0, .ref l0), (1, .int l1), (2, .int l2), (3, .int l3)]) (st2 := [.ref l0, .int v13, .ref v12]) hm dX3_readMethod_93 rfl ?_
  refine mx_S.pu (pc2 := 95) (lv2 := [(0, .ref l0), (1, .int l1), (2, .int l2), (3, .int l3)]) (st2 := [.int l3, .ref l0, .int v13, .ref v12]) hm dX3_readMethod_94 rfl ?_
  refine sx_ic (v := 1) hm dX3_readMethod_95 (by decide) ?_
  replace hf := xl_el hf; obtain ⟨v14, e_v14, hf⟩ := hf
  refine mx_S.pu (pc2 := 97) (lv2 := [(0, .ref l0), (1, .int l1), (2, .int l2), (3, .int l3)]) (st2 := [.int v14, .ref l0, .int v13, .ref v12]) hm dX3_readMethod_96 (by rw [← e_v14]; rfl) ?_
  clear e_v14
  refine mx_S.pu (pc2 := 98) (lv2 := [(0, .ref l0), (1, .int l1), (2, .int l2), (3, .int l3)]) (st2 := [.ref l0, .int v14, .ref l0, .int v13, .ref v12]) hm dX3_readMethod_97 rfl ?_
  replace hf := mx_sv_el hf; obtain ⟨v15, e_v15, hf⟩ := hf
  refine sx_get hm dX3_readMethod_98 rs_RX3_30 (xgr_el e_v15) ?_
  clear e_v15
  refine mx_S.pu (pc2 := 102) (lv2 := [(0, .ref l0), (1, .int l1), (2, .int l2), (3, .int l3)]) (st2 := [.int l1, .ref v15, .int v14, .ref l0, .int v13, .ref v12]) hm dX3_readMethod_101 rfl ?_
  refine sx_ic (v := 0) hm dX3_readMethod_102 (by decide) ?_
  replace hf := xl_el hf; obtain ⟨v16, e_v16, hf⟩ := hf
  refine mx_S.pu (pc2 := 104) (lv2 := [(0, .ref l0), (1, .int l1), (2, .int l2), (3, .int l3)]) (st2 := [.int v16, .ref v15, .int v14, .ref l0, .int v13, .ref v12]) hm dX3_readMethod_103 (by rw [← e_v16]; rfl) ?_
  clear e_v16
  replace hf := mx_sv_el hf; obtain ⟨v17, e_v17, hf⟩ := hf
  refine sx_ald hm dX3_readMethod_104 e_v17 ?_
  clear e_v17
  replace hf := xl_el hf; obtain ⟨v18, e_v18, hf⟩ := hf
  refine mx_S.pu (pc2 := 106) (lv2 := [(0, .ref l0), (1, .int l1), (2, .int l2), (3, .int l3)]) (st2 := [.int v18, .ref l0, .int v13, .ref v12]) hm dX3_readMethod_105 (by rw [← e_v18]; rfl) ?_
  clear e_v18
  refine sx_bi (v := 30) hm dX3_readMethod_106 (by decide) ?_
  replace hf := mx_gd_el hf; obtain ⟨c19, hf⟩ := hf
  replace hf := mx_sv_el hf; obtain ⟨u20, e_u20, hf⟩ := hf
  refine sx_cv hm dX3_readMethod_108 rs_RX3_71 mt_X3_nextUpTo [.int v18, .int 30] [.int v13, .ref v12] (b := l0) (ci := 3) rfl rfl rfl c19 (Nat.le_of_ble_eq_true rfl) (Nat.le_of_ble_eq_true rfl) (by omega) (by omega) (f_X3_nextUpTo_ok X (by omega) (by omega) nn l0 v18 30 h11 e_u20) ?_
  clear e_u20
  show mx_S X F L 121 111 [(0, .ref l0), (1, .int l1), (2, .int l2), (3, .int l3)] [.int u20.1, .int v13, .ref v12] u20.2 0 0 (none, r, 0, 0)
  replace hf := mx_sv_el hf; obtain ⟨h21, e_h21, hf⟩ := hf
  refine sx_ast hm dX3_readMethod_111 e_h21 ?_
  clear e_h21
  refine mx_S.pu (pc2 := 113) (lv2 := [(0, .ref l0), (1, .int l1), (2, .int l2), (3, .int l3)]) (st2 := [.ref l0]) hm dX3_readMethod_112 rfl ?_
  refine mx_S.pu (pc2 := 114) (lv2 := [(0, .ref l0), (1, .int l1), (2, .int l2), (3, .int l3)]) (st2 := [.int l1, .ref l0]) hm dX3_readMethod_113 rfl ?_
  replace hf := mx_gd_el hf; obtain ⟨c22, hf⟩ := hf
  replace hf := mx_sv_el hf; obtain ⟨u23, e_u23, hf⟩ := hf
  refine sx_cv hm dX3_readMethod_114 rs_RX3_155 mt_X3_readCode [.int l1] [] (b := l0) (ci := 3) rfl rfl rfl c22 (Nat.le_of_ble_eq_true rfl) (Nat.le_of_ble_eq_true rfl) (by omega) (by omega) (f_X3_readCode_ok X (by omega) (by omega) nn l0 l1 h21 e_u23) ?_
  clear e_u23
  show mx_S X F L 121 117 [(0, .ref l0), (1, .int l1), (2, .int l2), (3, .int l3)] [] u23 0 0 (none, r, 0, 0)
  refine mx_S.pu (pc2 := 118) (lv2 := [(0, .ref l0), (1, .int l1), (2, .int l2), (3, .int l3)]) (st2 := [.ref l0]) hm dX3_readMethod_117 rfl ?_
  refine mx_S.pu (pc2 := 119) (lv2 := [(0, .ref l0), (1, .int l1), (2, .int l2), (3, .int l3)]) (st2 := [.int l1, .ref l0]) hm dX3_readMethod_118 rfl ?_
  replace hf := mx_gd_el hf; obtain ⟨c24, hf⟩ := hf
  replace hf := mx_sv_el hf; obtain ⟨u25, e_u25, hf⟩ := hf
  refine sx_cv hm dX3_readMethod_119 rs_RX3_158 mt_X3_readHandlers [.int l1] [] (b := l0) (ci := 3) rfl rfl rfl c24 (Nat.le_of_ble_eq_true rfl) (Nat.le_of_ble_eq_true rfl) (by omega) (by omega) (f_X3_readHandlers_ok X (by omega) (by omega) nn l0 l1 u23 e_u25) ?_
  clear e_u25
  show mx_S X F L 121 122 [(0, .ref l0), (1, .int l1), (2, .int l2), (3, .int l3)] [] u25 0 0 (none, r, 0, 0)
  refine mx_S.pu (pc2 := 123) (lv2 := [(0, .ref l0), (1, .int l1), (2, .int l2), (3, .int l3)]) (st2 := [.ref l0]) hm dX3_readMethod_122 rfl ?_
  refine mx_S.pu (pc2 := 124) (lv2 := [(0, .ref l0), (1, .int l1), (2, .int l2), (3, .int l3)]) (st2 := [.int l1, .ref l0]) hm dX3_readMethod_123 rfl ?_
  replace hf := mx_gd_el hf; obtain ⟨c26, hf⟩ := hf
  replace hf := mx_sv_el hf; obtain ⟨u27, e_u27, hf⟩ := hf
  refine sx_cv hm dX3_readMethod_124 rs_RX3_161 mt_X3_readFrames [.int l1] [] (b := l0) (ci := 3) rfl rfl rfl c26 (Nat.le_of_ble_eq_true rfl) (Nat.le_of_ble_eq_true rfl) (by omega) (by omega) (f_X3_readFrames_ok X (by omega) (by omega) nn l0 l1 u25 e_u27) ?_
  clear e_u27
  show mx_S X F L 121 127 [(0, .ref l0), (1, .int l1), (2, .int l2), (3, .int l3)] [] u27 0 0 (none, r, 0, 0)
  cases hf
  exact sx_ret hm dX3_readMethod_127 rfl
set_option maxHeartbeats 4000000 in
set_option maxRecDepth 20000 in
theorem f_X3_readMethod_ok (X : Nat × (Nat → Int32)) {F L : Nat} (hF : 4 ≤ F) (hL : 89 ≤ L) (nn : Nat) (a0 : Nat) (a1 : Int32) (h : mx_H) {r : mx_H} (hf : f_X3_readMethod nn a0 a1 h = some r) : mx_R X F L 121 [.ref a0, .int a1] h (none, r, 0, 0) := by
  have hm : mx_mt 121 = some (yX3_readMethod, cX3_readMethod, 4, none) := mt_X3_readMethod
  show mx_S X F L 121 0 [(0, .ref a0), (1, .int a1)] [] h 0 0 (none, r, 0, 0)
  unfold f_X3_readMethod at hf
  refine mx_S.pu (pc2 := 1) (lv2 := [(0, .ref a0), (1, .int a1)]) (st2 := [.ref a0]) hm dX3_readMethod_0 rfl ?_
  replace hf := mx_sv_el hf; obtain ⟨v28, e_v28, hf⟩ := hf
  refine sx_get hm dX3_readMethod_1 rs_RX3_30 (xgr_el e_v28) ?_
  clear e_v28
  refine mx_S.pu (pc2 := 5) (lv2 := [(0, .ref a0), (1, .int a1)]) (st2 := [.int a1, .ref v28]) hm dX3_readMethod_4 rfl ?_
  refine sx_ic (v := 0) hm dX3_readMethod_5 (by decide) ?_
  replace hf := xl_el hf; obtain ⟨v29, e_v29, hf⟩ := hf
  refine mx_S.pu (pc2 := 7) (lv2 := [(0, .ref a0), (1, .int a1)]) (st2 := [.int v29, .ref v28]) hm dX3_readMethod_6 (by rw [← e_v29]; rfl) ?_
  clear e_v29
  refine mx_S.pu (pc2 := 8) (lv2 := [(0, .ref a0), (1, .int a1)]) (st2 := [.ref a0, .int v29, .ref v28]) hm dX3_readMethod_7 rfl ?_
  refine sx_ic (v := 0) hm dX3_readMethod_8 (by decide) ?_
  refine sx_ic (v := 1) hm dX3_readMethod_9 (by decide) ?_
  replace hf := mx_gd_el hf; obtain ⟨c30, hf⟩ := hf
  replace hf := mx_sv_el hf; obtain ⟨u31, e_u31, hf⟩ := hf
  refine sx_cv hm dX3_readMethod_10 rs_RX3_71 mt_X3_nextUpTo [.int 0, .int 1] [.int v29, .ref v28] (b := a0) (ci := 3) rfl rfl rfl c30 (Nat.le_of_ble_eq_true rfl) (Nat.le_of_ble_eq_true rfl) (by omega) (by omega) (f_X3_nextUpTo_ok X (by omega) (by omega) nn a0 0 1 h e_u31) ?_
  clear e_u31
  show mx_S X F L 121 13 [(0, .ref a0), (1, .int a1)] [.int u31.1, .int v29, .ref v28] u31.2 0 0 (none, r, 0, 0)
  replace hf := mx_sv_el hf; obtain ⟨h32, e_h32, hf⟩ := hf
  refine sx_ast hm dX3_readMethod_13 e_h32 ?_
  clear e_h32
  refine mx_S.pu (pc2 := 15) (lv2 := [(0, .ref a0), (1, .int a1)]) (st2 := [.ref a0]) hm dX3_readMethod_14 rfl ?_
  replace hf := mx_sv_el hf; obtain ⟨v33, e_v33, hf⟩ := hf
  refine sx_get hm dX3_readMethod_15 rs_RX3_30 (xgr_el e_v33) ?_
  clear e_v33
  refine mx_S.pu (pc2 := 19) (lv2 := [(0, .ref a0), (1, .int a1)]) (st2 := [.int a1, .ref v33]) hm dX3_readMethod_18 rfl ?_
  refine sx_ic (v := 1) hm dX3_readMethod_19 (by decide) ?_
  replace hf := xl_el hf; obtain ⟨v34, e_v34, hf⟩ := hf
  refine mx_S.pu (pc2 := 21) (lv2 := [(0, .ref a0), (1, .int a1)]) (st2 := [.int v34, .ref v33]) hm dX3_readMethod_20 (by rw [← e_v34]; rfl) ?_
  clear e_v34
  refine mx_S.pu (pc2 := 22) (lv2 := [(0, .ref a0), (1, .int a1)]) (st2 := [.ref a0, .int v34, .ref v33]) hm dX3_readMethod_21 rfl ?_
  replace hf := mx_gd_el hf; obtain ⟨c35, hf⟩ := hf
  replace hf := mx_sv_el hf; obtain ⟨u36, e_u36, hf⟩ := hf
  refine sx_cv hm dX3_readMethod_22 rs_RX3_152 mt_X3_nextName [] [.int v34, .ref v33] (b := a0) (ci := 3) rfl rfl rfl c35 (Nat.le_of_ble_eq_true rfl) (Nat.le_of_ble_eq_true rfl) (by omega) (by omega) (f_X3_nextName_ok X (by omega) (by omega) nn a0 h32 e_u36) ?_
  clear e_u36
  show mx_S X F L 121 25 [(0, .ref a0), (1, .int a1)] [.int u36.1, .int v34, .ref v33] u36.2 0 0 (none, r, 0, 0)
  replace hf := mx_sv_el hf; obtain ⟨h37, e_h37, hf⟩ := hf
  refine sx_ast hm dX3_readMethod_25 e_h37 ?_
  clear e_h37
  refine mx_S.pu (pc2 := 27) (lv2 := [(0, .ref a0), (1, .int a1)]) (st2 := [.ref a0]) hm dX3_readMethod_26 rfl ?_
  replace hf := mx_gd_el hf; obtain ⟨c38, hf⟩ := hf
  replace hf := mx_sv_el hf; obtain ⟨u39, e_u39, hf⟩ := hf
  refine sx_cv hm dX3_readMethod_27 rs_RX3_87 mt_X3_next [] [] (b := a0) (ci := 3) rfl rfl rfl c38 (Nat.le_of_ble_eq_true rfl) (Nat.le_of_ble_eq_true rfl) (by omega) (by omega) (f_X3_next_ok X (by omega) (by omega) nn a0 h37 e_u39) ?_
  clear e_u39
  show mx_S X F L 121 30 [(0, .ref a0), (1, .int a1)] [.int u39.1] u39.2 0 0 (none, r, 0, 0)
  refine mx_S.pu (pc2 := 31) (lv2 := [(2, .int u39.1), (0, .ref a0), (1, .int a1)]) (st2 := []) hm dX3_readMethod_30 rfl ?_
  refine mx_S.pu (pc2 := 32) (lv2 := [(2, .int u39.1), (0, .ref a0), (1, .int a1)]) (st2 := [.ref a0]) hm dX3_readMethod_31 rfl ?_
  refine mx_S.pu (pc2 := 33) (lv2 := [(2, .int u39.1), (0, .ref a0), (1, .int a1)]) (st2 := [.int u39.1, .ref a0]) hm dX3_readMethod_32 rfl ?_
  replace hf := mx_gd_el hf; obtain ⟨c40, hf⟩ := hf
  replace hf := mx_sv_el hf; obtain ⟨u41, e_u41, hf⟩ := hf
  refine sx_cv hm dX3_readMethod_33 rs_RX3_116 mt_X3_parametersIn [.int u39.1] [] (b := a0) (ci := 3) rfl rfl rfl c40 (Nat.le_of_ble_eq_true rfl) (Nat.le_of_ble_eq_true rfl) (by omega) (by omega) (f_X3_parametersIn_ok X (by omega) (by omega) nn a0 u39.1 u39.2 e_u41) ?_
  clear e_u41
  show mx_S X F L 121 36 [(2, .int u39.1), (0, .ref a0), (1, .int a1)] [.int u41.1] u41.2 0 0 (none, r, 0, 0)
  refine mx_S.pu (pc2 := 37) (lv2 := [(3, .int u41.1), (2, .int u39.1), (0, .ref a0), (1, .int a1)]) (st2 := []) hm dX3_readMethod_36 rfl ?_
  refine mx_S.pu (pc2 := 38) (lv2 := [(3, .int u41.1), (2, .int u39.1), (0, .ref a0), (1, .int a1)]) (st2 := [.int u41.1]) hm dX3_readMethod_37 rfl ?_
  refine sx_ic (v := (-1)) hm dX3_readMethod_38 (by decide) ?_
  rcases mx_if_el hf with ⟨c46, hf⟩ | ⟨c46, hf⟩
  · refine sb_ic_ne hm dX3_readMethod_39 (tgt := 52) rfl (fun _ => ?_) (fun z => absurd c46 z)
    refine mx_S.ext [(0, .ref a0), (1, .int a1), (2, .int u39.1), (3, .int u41.1)] (mx_sub_pos [2, 3, 1, 0] rfl (show ([3, 2, 0, 1] : List Nat).Nodup by decide)) ?_
    exact j_X3_readMethod_52_ok X hF hL nn a0 a1 u39.1 u41.1 u41.2 hf
  · refine sb_ic_ne hm dX3_readMethod_39 (tgt := 52) rfl (fun z => absurd z c46) (fun _ => ?_)
    refine mx_S.pu (pc2 := 43) (lv2 := [(3, .int u41.1), (2, .int u39.1), (0, .ref a0), (1, .int a1)]) (st2 := [.ref a0]) hm dX3_readMethod_42 rfl ?_
    refine mx_S.pu (pc2 := 44) (lv2 := [(3, .int u41.1), (2, .int u39.1), (0, .ref a0), (1, .int a1)]) (st2 := [.ref a0, .ref a0]) hm dX3_readMethod_43 rfl ?_
    replace hf := mx_sv_el hf; obtain ⟨v42, e_v42, hf⟩ := hf
    refine sx_get hm dX3_readMethod_44 rs_RX3_43 (xgi_el e_v42) ?_
    clear e_v42
    refine sx_ic (v := 1) hm dX3_readMethod_47 (by decide) ?_
    replace hf := xl_el hf; obtain ⟨v43, e_v43, hf⟩ := hf
    refine mx_S.pu (pc2 := 49) (lv2 := [(3, .int u41.1), (2, .int u39.1), (0, .ref a0), (1, .int a1)]) (st2 := [.int v43, .ref a0]) hm dX3_readMethod_48 (by rw [← e_v43]; rfl) ?_
    clear e_v43
    replace hf := mx_gd_el hf; obtain ⟨c44, hf⟩ := hf
    replace hf := mx_sv_el hf; obtain ⟨u45, e_u45, hf⟩ := hf
    refine sx_cv hm dX3_readMethod_49 rs_RX3_78 mt_X3_bad [.int v43] [] (b := a0) (ci := 3) rfl rfl rfl c44 (Nat.le_of_ble_eq_true rfl) (Nat.le_of_ble_eq_true rfl) (by omega) (by omega) (f_X3_bad_ok X (by omega) (by omega) nn a0 v43 u41.2 e_u45) ?_
    clear e_u45
    show mx_S X F L 121 52 [(3, .int u41.1), (2, .int u39.1), (0, .ref a0), (1, .int a1)] [] u45 0 0 (none, r, 0, 0)
    refine mx_S.ext [(0, .ref a0), (1, .int a1), (2, .int u39.1), (3, .int u41.1)] (mx_sub_pos [2, 3, 1, 0] rfl (show ([3, 2, 0, 1] : List Nat).Nodup by decide)) ?_
    exact j_X3_readMethod_52_ok X hF hL nn a0 a1 u39.1 u41.1 u45 hf
set_option maxHeartbeats 4000000 in
set_option maxRecDepth 20000 in
theorem j_X3_read_109_ok (X : Nat × (Nat → Int32)) {F L : Nat} (hF : 5 ≤ F) (hL : 120 ≤ L) (nn : Nat) (l0 : Nat) (h : mx_H) {r : (Int32 × mx_H)} (hf : j_X3_read_109 nn l0 h = some r) : mx_S X F L 92 109 [(0, .ref l0)] [] h 0 0 (some (.int r.1), r.2, 0, 0) := by
  have hm : mx_mt 92 = some (yX3_read, cX3_read, 5, (some .int)) := mt_X3_read
  unfold j_X3_read_109 at hf
  refine mx_S.pu (pc2 := 110) (lv2 := [(0, .ref l0)]) (st2 := [.ref l0]) hm dX3_read_109 rfl ?_
  replace hf := mx_sv_el hf; obtain ⟨v1, e_v1, hf⟩ := hf
  refine sx_get hm dX3_read_110 rs_RX3_43 (xgi_el e_v1) ?_
  clear e_v1
  refine mx_S.pu (pc2 := 114) (lv2 := [(0, .ref l0)]) (st2 := [.ref l0, .int v1]) hm dX3_read_113 rfl ?_
  replace hf := mx_sv_el hf; obtain ⟨v2, e_v2, hf⟩ := hf
  refine sx_get hm dX3_read_114 rs_RX3_39 (xgi_el e_v2) ?_
  clear e_v2
  rcases mx_if_el hf with ⟨c8, hf⟩ | ⟨c8, hf⟩
  · refine sb_ic_ge hm dX3_read_117 (tgt := 128) rfl (fun _ => ?_) (fun z => absurd c8 z)
    refine mx_S.pu (pc2 := 129) (lv2 := [(0, .ref l0)]) (st2 := [.ref l0]) hm dX3_read_128 rfl ?_
    replace hf := mx_sv_el hf; obtain ⟨v3, e_v3, hf⟩ := hf
    refine sx_get hm dX3_read_129 rs_RX3_46 (xgi_el e_v3) ?_
    clear e_v3
    cases hf
    exact sx_ire hm dX3_read_132 rfl rfl
  · refine sb_ic_ge hm dX3_read_117 (tgt := 128) rfl (fun z => absurd z c8) (fun _ => ?_)
    refine mx_S.pu (pc2 := 121) (lv2 := [(0, .ref l0)]) (st2 := [.ref l0]) hm dX3_read_120 rfl ?_
    refine mx_S.pu (pc2 := 122) (lv2 := [(0, .ref l0)]) (st2 := [.ref l0, .ref l0]) hm dX3_read_121 rfl ?_
    replace hf := mx_sv_el hf; obtain ⟨v4, e_v4, hf⟩ := hf
    refine sx_get hm dX3_read_122 rs_RX3_43 (xgi_el e_v4) ?_
    clear e_v4
    replace hf := mx_gd_el hf; obtain ⟨c5, hf⟩ := hf
    replace hf := mx_sv_el hf; obtain ⟨u6, e_u6, hf⟩ := hf
    refine sx_cv hm dX3_read_125 rs_RX3_78 mt_X3_bad [.int v4] [] (b := l0) (ci := 3) rfl rfl rfl c5 (Nat.le_of_ble_eq_true rfl) (Nat.le_of_ble_eq_true rfl) (by omega) (by omega) (f_X3_bad_ok X (by omega) (by omega) nn l0 v4 h e_u6) ?_
    clear e_u6
    show mx_S X F L 92 128 [(0, .ref l0)] [] u6 0 0 (some (.int r.1), r.2, 0, 0)
    refine mx_S.pu (pc2 := 129) (lv2 := [(0, .ref l0)]) (st2 := [.ref l0]) hm dX3_read_128 rfl ?_
    replace hf := mx_sv_el hf; obtain ⟨v7, e_v7, hf⟩ := hf
    refine sx_get hm dX3_read_129 rs_RX3_46 (xgi_el e_v7) ?_
    clear e_v7
    cases hf
    exact sx_ire hm dX3_read_132 rfl rfl
set_option maxHeartbeats 4000000 in
set_option maxRecDepth 20000 in
theorem w_X3_read_70_ok (X : Nat × (Nat → Int32)) {F L : Nat} (hF : 5 ≤ F) (hL : 120 ≤ L) (nn : Nat) : ∀ (k : Nat) (l0 : Nat) (l3 : Int32) (l4 : Int32) (h : mx_H) (r : (Int32 × mx_H)), w_X3_read_70 nn k l0 l3 l4 h = some r → mx_S X F L 92 70 [(0, .ref l0), (3, .int l3), (4, .int l4)] [] h 0 0 (some (.int r.1), r.2, 0, 0) := by
  have hm : mx_mt 92 = some (yX3_read, cX3_read, 5, (some .int)) := mt_X3_read
  intro k
  induction k with
  | zero => intro l0 l3 l4 h r hf; cases hf
  | succ k ih =>
    intro l0 l3 l4 h r hf
    unfold w_X3_read_70 at hf
    refine mx_S.pu (pc2 := 72) (lv2 := [(0, .ref l0), (3, .int l3), (4, .int l4)]) (st2 := [.int l4]) hm dX3_read_70 rfl ?_
    refine mx_S.pu (pc2 := 73) (lv2 := [(0, .ref l0), (3, .int l3), (4, .int l4)]) (st2 := [.int l3, .int l4]) hm dX3_read_72 rfl ?_
    rcases mx_if_el hf with ⟨c18, hf⟩ | ⟨c18, hf⟩
    · refine sb_ic_ge hm dX3_read_73 (tgt := 109) rfl (fun _ => ?_) (fun z => absurd c18 z)
      refine mx_S.ext [(0, .ref l0)] (mx_sub_pos [0] rfl (show ([0, 3, 4] : List Nat).Nodup by decide)) ?_
      exact j_X3_read_109_ok X hF hL nn l0 h hf
    · refine sb_ic_ge hm dX3_read_73 (tgt := 109) rfl (fun z => absurd z c18) (fun _ => ?_)
      refine mx_S.pu (pc2 := 77) (lv2 := [(0, .ref l0), (3, .int l3), (4, .int l4)]) (st2 := [.ref l0]) hm dX3_read_76 rfl ?_
      replace hf := mx_sv_el hf; obtain ⟨v9, e_v9, hf⟩ := hf
      refine sx_get hm dX3_read_77 rs_RX3_46 (xgi_el e_v9) ?_
      clear e_v9
      refine sx_ic (v := (-1)) hm dX3_read_80 (by decide) ?_
      rcases mx_if_el hf with ⟨c17, hf⟩ | ⟨c17, hf⟩
      · refine sb_ic_ne hm dX3_read_81 (tgt := 109) rfl (fun _ => ?_) (fun z => absurd c17 z)
        refine mx_S.ext [(0, .ref l0)] (mx_sub_pos [0] rfl (show ([0, 3, 4] : List Nat).Nodup by decide)) ?_
        exact j_X3_read_109_ok X hF hL nn l0 h hf
      · refine sb_ic_ne hm dX3_read_81 (tgt := 109) rfl (fun z => absurd z c17) (fun _ => ?_)
        refine mx_S.pu (pc2 := 85) (lv2 := [(0, .ref l0), (3, .int l3), (4, .int l4)]) (st2 := [.ref l0]) hm dX3_read_84 rfl ?_
        refine mx_S.pu (pc2 := 87) (lv2 := [(0, .ref l0), (3, .int l3), (4, .int l4)]) (st2 := [.int l4, .ref l0]) hm dX3_read_85 rfl ?_
        refine sx_bi (v := 12) hm dX3_read_87 (by decide) ?_
        replace hf := xl_el hf; obtain ⟨v10, e_v10, hf⟩ := hf
        refine mx_S.pu (pc2 := 90) (lv2 := [(0, .ref l0), (3, .int l3), (4, .int l4)]) (st2 := [.int v10, .ref l0]) hm dX3_read_89 (by rw [← e_v10]; rfl) ?_
        clear e_v10
        replace hf := mx_gd_el hf; obtain ⟨c11, hf⟩ := hf
        replace hf := mx_sv_el hf; obtain ⟨u12, e_u12, hf⟩ := hf
        refine sx_cv hm dX3_read_90 rs_RX3_74 mt_X3_readMethod [.int v10] [] (b := l0) (ci := 3) rfl rfl rfl c11 (Nat.le_of_ble_eq_true rfl) (Nat.le_of_ble_eq_true rfl) (by omega) (by omega) (f_X3_readMethod_ok X (by omega) (by omega) nn l0 v10 h e_u12) ?_
        clear e_u12
        show mx_S X F L 92 93 [(0, .ref l0), (3, .int l3), (4, .int l4)] [] u12 0 0 (some (.int r.1), r.2, 0, 0)
        refine mx_S.pu (pc2 := 94) (lv2 := [(0, .ref l0), (3, .int l3), (4, .int l4)]) (st2 := [.ref l0]) hm dX3_read_93 rfl ?_
        refine mx_S.pu (pc2 := 95) (lv2 := [(0, .ref l0), (3, .int l3), (4, .int l4)]) (st2 := [.ref l0, .ref l0]) hm dX3_read_94 rfl ?_
        replace hf := mx_sv_el hf; obtain ⟨v13, e_v13, hf⟩ := hf
        refine sx_get hm dX3_read_95 rs_RX3_52 (xgi_el e_v13) ?_
        clear e_v13
        refine sx_ic (v := 1) hm dX3_read_98 (by decide) ?_
        replace hf := xl_el hf; obtain ⟨v14, e_v14, hf⟩ := hf
        refine mx_S.pu (pc2 := 100) (lv2 := [(0, .ref l0), (3, .int l3), (4, .int l4)]) (st2 := [.int v14, .ref l0]) hm dX3_read_99 (by rw [← e_v14]; rfl) ?_
        clear e_v14
        replace hf := mx_sv_el hf; obtain ⟨h15, e_h15, hf⟩ := hf
        refine sx_put hm dX3_read_100 rs_RX3_52 ft_3_12 ⟨rfl, rfl⟩ (fun z => by cases z) e_h15 ?_
        clear e_h15
        replace hf := xl_el hf; obtain ⟨v16, e_v16, hf⟩ := hf
        refine mx_S.pu (pc2 := 106) (lv2 := [(4, .int v16), (0, .ref l0), (3, .int l3)]) (st2 := []) hm dX3_read_103 (by rw [← e_v16]; rfl) ?_
        clear e_v16
        refine mx_S.pu (pc2 := 70) (lv2 := [(4, .int v16), (0, .ref l0), (3, .int l3)]) (st2 := []) hm dX3_read_106 rfl ?_
        refine mx_S.ext [(0, .ref l0), (3, .int l3), (4, .int v16)] (mx_sub_pos [1, 2, 0] rfl (show ([4, 0, 3] : List Nat).Nodup by decide)) ?_
        exact ih l0 l3 v16 h15 _ hf
set_option maxHeartbeats 4000000 in
set_option maxRecDepth 20000 in
theorem f_X3_read_ok (X : Nat × (Nat → Int32)) {F L : Nat} (hF : 5 ≤ F) (hL : 120 ≤ L) (nn : Nat) (a0 : Nat) (a1 : Nat) (a2 : Int32) (h : mx_H) {r : (Int32 × mx_H)} (hf : f_X3_read nn a0 a1 a2 h = some r) : mx_R X F L 92 [.ref a0, .ref a1, .int a2] h (some (.int r.1), r.2, 0, 0) := by
  have hm : mx_mt 92 = some (yX3_read, cX3_read, 5, (some .int)) := mt_X3_read
  show mx_S X F L 92 0 [(0, .ref a0), (1, .ref a1), (2, .int a2)] [] h 0 0 (some (.int r.1), r.2, 0, 0)
  unfold f_X3_read at hf
  refine mx_S.pu (pc2 := 1) (lv2 := [(0, .ref a0), (1, .ref a1), (2, .int a2)]) (st2 := [.ref a0]) hm dX3_read_0 rfl ?_
  refine mx_S.pu (pc2 := 2) (lv2 := [(0, .ref a0), (1, .ref a1), (2, .int a2)]) (st2 := [.ref a1, .ref a0]) hm dX3_read_1 rfl ?_
  replace hf := mx_sv_el hf; obtain ⟨h19, e_h19, hf⟩ := hf
  refine sx_put hm dX3_read_2 rs_RX3_9 ft_3_0 ⟨rfl, rfl⟩ (fun z => by cases z) e_h19 ?_
  clear e_h19
  refine mx_S.pu (pc2 := 6) (lv2 := [(0, .ref a0), (1, .ref a1), (2, .int a2)]) (st2 := [.ref a0]) hm dX3_read_5 rfl ?_
  refine mx_S.pu (pc2 := 7) (lv2 := [(0, .ref a0), (1, .ref a1), (2, .int a2)]) (st2 := [.int a2, .ref a0]) hm dX3_read_6 rfl ?_
  refine mx_S.pu (pc2 := 8) (lv2 := [(0, .ref a0), (1, .ref a1), (2, .int a2)]) (st2 := [.ref a1, .int a2, .ref a0]) hm dX3_read_7 rfl ?_
  replace hf := mx_sv_el hf; obtain ⟨v20, e_v20, hf⟩ := hf
  refine sx_len hm dX3_read_8 e_v20 ?_
  clear e_v20
  replace hf := xl_el hf; obtain ⟨v21, e_v21, hf⟩ := hf
  refine sx_min hm dX3_read_9 rs_RX3_33 (by omega) (Nat.le_trans (Nat.le_of_ble_eq_true rfl : _ ≤ 60) (by omega)) ?_
  rw [e_v21]
  clear e_v21
  replace hf := mx_sv_el hf; obtain ⟨h22, e_h22, hf⟩ := hf
  refine sx_put hm dX3_read_12 rs_RX3_39 ft_3_1 ⟨rfl, rfl⟩ (fun z => by cases z) e_h22 ?_
  clear e_h22
  refine mx_S.pu (pc2 := 16) (lv2 := [(0, .ref a0), (1, .ref a1), (2, .int a2)]) (st2 := [.ref a0]) hm dX3_read_15 rfl ?_
  refine sx_ic (v := 0) hm dX3_read_16 (by decide) ?_
  replace hf := mx_sv_el hf; obtain ⟨h23, e_h23, hf⟩ := hf
  refine sx_put hm dX3_read_17 rs_RX3_43 ft_3_2 ⟨rfl, rfl⟩ (fun z => by cases z) e_h23 ?_
  clear e_h23
  refine mx_S.pu (pc2 := 21) (lv2 := [(0, .ref a0), (1, .ref a1), (2, .int a2)]) (st2 := [.ref a0]) hm dX3_read_20 rfl ?_
  refine sx_ic (v := (-1)) hm dX3_read_21 (by decide) ?_
  replace hf := mx_sv_el hf; obtain ⟨h24, e_h24, hf⟩ := hf
  refine sx_put hm dX3_read_22 rs_RX3_46 ft_3_3 ⟨rfl, rfl⟩ (fun z => by cases z) e_h24 ?_
  clear e_h24
  refine mx_S.pu (pc2 := 26) (lv2 := [(0, .ref a0), (1, .ref a1), (2, .int a2)]) (st2 := [.ref a0]) hm dX3_read_25 rfl ?_
  refine sx_ic (v := 0) hm dX3_read_26 (by decide) ?_
  replace hf := mx_sv_el hf; obtain ⟨h25, e_h25, hf⟩ := hf
  refine sx_put hm dX3_read_27 rs_RX3_49 ft_3_10 ⟨rfl, rfl⟩ (fun z => by cases z) e_h25 ?_
  clear e_h25
  refine mx_S.pu (pc2 := 31) (lv2 := [(0, .ref a0), (1, .ref a1), (2, .int a2)]) (st2 := [.ref a0]) hm dX3_read_30 rfl ?_
  refine sx_ic (v := 0) hm dX3_read_31 (by decide) ?_
  replace hf := mx_sv_el hf; obtain ⟨h26, e_h26, hf⟩ := hf
  refine sx_put hm dX3_read_32 rs_RX3_52 ft_3_12 ⟨rfl, rfl⟩ (fun z => by cases z) e_h26 ?_
  clear e_h26
  refine mx_S.pu (pc2 := 36) (lv2 := [(0, .ref a0), (1, .ref a1), (2, .int a2)]) (st2 := [.ref a0]) hm dX3_read_35 rfl ?_
  replace hf := mx_gd_el hf; obtain ⟨c27, hf⟩ := hf
  replace hf := mx_sv_el hf; obtain ⟨u28, e_u28, hf⟩ := hf
  refine sx_cv hm dX3_read_36 rs_RX3_55 mt_X3_readConstants [] [] (b := a0) (ci := 3) rfl rfl rfl c27 (Nat.le_of_ble_eq_true rfl) (Nat.le_of_ble_eq_true rfl) (by omega) (by omega) (f_X3_readConstants_ok X (by omega) (by omega) nn a0 h26 e_u28) ?_
  clear e_u28
  show mx_S X F L 92 39 [(0, .ref a0), (1, .ref a1), (2, .int a2)] [] u28 0 0 (some (.int r.1), r.2, 0, 0)
  refine mx_S.pu (pc2 := 40) (lv2 := [(0, .ref a0), (1, .ref a1), (2, .int a2)]) (st2 := [.ref a0]) hm dX3_read_39 rfl ?_
  refine mx_S.pu (pc2 := 41) (lv2 := [(0, .ref a0), (1, .ref a1), (2, .int a2)]) (st2 := [.ref a0, .ref a0]) hm dX3_read_40 rfl ?_
  replace hf := mx_gd_el hf; obtain ⟨c29, hf⟩ := hf
  replace hf := mx_sv_el hf; obtain ⟨u30, e_u30, hf⟩ := hf
  refine sx_cv hm dX3_read_41 rs_RX3_58 mt_X3_nextPlainClass [] [.ref a0] (b := a0) (ci := 3) rfl rfl rfl c29 (Nat.le_of_ble_eq_true rfl) (Nat.le_of_ble_eq_true rfl) (by omega) (by omega) (f_X3_nextPlainClass_ok X (by omega) (by omega) nn a0 u28 e_u30) ?_
  clear e_u30
  show mx_S X F L 92 44 [(0, .ref a0), (1, .ref a1), (2, .int a2)] [.int u30.1, .ref a0] u30.2 0 0 (some (.int r.1), r.2, 0, 0)
  replace hf := mx_sv_el hf; obtain ⟨h31, e_h31, hf⟩ := hf
  refine sx_put hm dX3_read_44 rs_RX3_62 ft_3_8 ⟨rfl, rfl⟩ (fun z => by cases z) e_h31 ?_
  clear e_h31
  refine mx_S.pu (pc2 := 48) (lv2 := [(0, .ref a0), (1, .ref a1), (2, .int a2)]) (st2 := [.ref a0]) hm dX3_read_47 rfl ?_
  refine mx_S.pu (pc2 := 49) (lv2 := [(0, .ref a0), (1, .ref a1), (2, .int a2)]) (st2 := [.ref a0, .ref a0]) hm dX3_read_48 rfl ?_
  replace hf := mx_gd_el hf; obtain ⟨c32, hf⟩ := hf
  replace hf := mx_sv_el hf; obtain ⟨u33, e_u33, hf⟩ := hf
  refine sx_cv hm dX3_read_49 rs_RX3_58 mt_X3_nextPlainClass [] [.ref a0] (b := a0) (ci := 3) rfl rfl rfl c32 (Nat.le_of_ble_eq_true rfl) (Nat.le_of_ble_eq_true rfl) (by omega) (by omega) (f_X3_nextPlainClass_ok X (by omega) (by omega) nn a0 h31 e_u33) ?_
  clear e_u33
  show mx_S X F L 92 52 [(0, .ref a0), (1, .ref a1), (2, .int a2)] [.int u33.1, .ref a0] u33.2 0 0 (some (.int r.1), r.2, 0, 0)
  replace hf := mx_sv_el hf; obtain ⟨h34, e_h34, hf⟩ := hf
  refine sx_put hm dX3_read_52 rs_RX3_65 ft_3_9 ⟨rfl, rfl⟩ (fun z => by cases z) e_h34 ?_
  clear e_h34
  refine mx_S.pu (pc2 := 56) (lv2 := [(0, .ref a0), (1, .ref a1), (2, .int a2)]) (st2 := [.ref a0]) hm dX3_read_55 rfl ?_
  replace hf := mx_gd_el hf; obtain ⟨c35, hf⟩ := hf
  replace hf := mx_sv_el hf; obtain ⟨u36, e_u36, hf⟩ := hf
  refine sx_cv hm dX3_read_56 rs_RX3_68 mt_X3_readFields [] [] (b := a0) (ci := 3) rfl rfl rfl c35 (Nat.le_of_ble_eq_true rfl) (Nat.le_of_ble_eq_true rfl) (by omega) (by omega) (f_X3_readFields_ok X (by omega) (by omega) nn a0 h34 e_u36) ?_
  clear e_u36
  show mx_S X F L 92 59 [(0, .ref a0), (1, .ref a1), (2, .int a2)] [] u36 0 0 (some (.int r.1), r.2, 0, 0)
  refine mx_S.pu (pc2 := 60) (lv2 := [(0, .ref a0), (1, .ref a1), (2, .int a2)]) (st2 := [.ref a0]) hm dX3_read_59 rfl ?_
  refine sx_ic (v := 0) hm dX3_read_60 (by decide) ?_
  refine sx_bi (v := 12) hm dX3_read_61 (by decide) ?_
  replace hf := mx_gd_el hf; obtain ⟨c37, hf⟩ := hf
  replace hf := mx_sv_el hf; obtain ⟨u38, e_u38, hf⟩ := hf
  refine sx_cv hm dX3_read_63 rs_RX3_71 mt_X3_nextUpTo [.int 0, .int 12] [] (b := a0) (ci := 3) rfl rfl rfl c37 (Nat.le_of_ble_eq_true rfl) (Nat.le_of_ble_eq_true rfl) (by omega) (by omega) (f_X3_nextUpTo_ok X (by omega) (by omega) nn a0 0 12 u36 e_u38) ?_
  clear e_u38
  show mx_S X F L 92 66 [(0, .ref a0), (1, .ref a1), (2, .int a2)] [.int u38.1] u38.2 0 0 (some (.int r.1), r.2, 0, 0)
  refine mx_S.pu (pc2 := 67) (lv2 := [(3, .int u38.1), (0, .ref a0), (1, .ref a1), (2, .int a2)]) (st2 := []) hm dX3_read_66 rfl ?_
  refine sx_ic (v := 0) hm dX3_read_67 (by decide) ?_
  refine mx_S.pu (pc2 := 70) (lv2 := [(4, .int 0), (3, .int u38.1), (0, .ref a0), (1, .ref a1), (2, .int a2)]) (st2 := []) hm dX3_read_68 rfl ?_
  refine mx_S.ext [(0, .ref a0), (3, .int u38.1), (4, .int 0)] (mx_sub_pos [2, 1, 0] rfl (show ([4, 3, 0, 1, 2] : List Nat).Nodup by decide)) ?_
  exact w_X3_read_70_ok X hF hL nn nn a0 u38.1 0 u38.2 _ hf
set_option maxHeartbeats 4000000 in
set_option maxRecDepth 20000 in
theorem f_X3_textAt_ok (X : Nat × (Nat → Int32)) {F L : Nat} (hF : 0 ≤ F) (hL : 0 ≤ L) (nn : Nat) (a0 : Nat) (a1 : Int32) (h : mx_H) {r : (Int32 × mx_H)} (hf : f_X3_textAt nn a0 a1 h = some r) : mx_R X F L 107 [.ref a0, .int a1] h (some (.int r.1), r.2, 0, 0) := by
  have hm : mx_mt 107 = some (yX3_textAt, cX3_textAt, 2, (some .int)) := mt_X3_textAt
  show mx_S X F L 107 0 [(0, .ref a0), (1, .int a1)] [] h 0 0 (some (.int r.1), r.2, 0, 0)
  unfold f_X3_textAt at hf
  refine mx_S.pu (pc2 := 1) (lv2 := [(0, .ref a0), (1, .int a1)]) (st2 := [.int a1]) hm dX3_textAt_0 rfl ?_
  refine sx_ic (v := 1) hm dX3_textAt_1 (by decide) ?_
  rcases mx_if_el hf with ⟨c8, hf⟩ | ⟨c8, hf⟩
  · refine sb_ic_lt hm dX3_textAt_2 (tgt := 31) rfl (fun _ => ?_) (fun z => absurd c8 z)
    refine sx_ic (v := 0) hm dX3_textAt_31 (by decide) ?_
    cases hf
    exact sx_ire hm dX3_textAt_32 rfl rfl
  · refine sb_ic_lt hm dX3_textAt_2 (tgt := 31) rfl (fun z => absurd z c8) (fun _ => ?_)
    refine mx_S.pu (pc2 := 6) (lv2 := [(0, .ref a0), (1, .int a1)]) (st2 := [.int a1]) hm dX3_textAt_5 rfl ?_
    refine mx_S.pu (pc2 := 7) (lv2 := [(0, .ref a0), (1, .int a1)]) (st2 := [.ref a0, .int a1]) hm dX3_textAt_6 rfl ?_
    replace hf := mx_sv_el hf; obtain ⟨v1, e_v1, hf⟩ := hf
    refine sx_get hm dX3_textAt_7 rs_RX3_90 (xgi_el e_v1) ?_
    clear e_v1
    rcases mx_if_el hf with ⟨c7, hf⟩ | ⟨c7, hf⟩
    · refine sb_ic_gt hm dX3_textAt_10 (tgt := 31) rfl (fun _ => ?_) (fun z => absurd c7 z)
      refine sx_ic (v := 0) hm dX3_textAt_31 (by decide) ?_
      cases hf
      exact sx_ire hm dX3_textAt_32 rfl rfl
    · refine sb_ic_gt hm dX3_textAt_10 (tgt := 31) rfl (fun z => absurd z c7) (fun _ => ?_)
      refine mx_S.pu (pc2 := 14) (lv2 := [(0, .ref a0), (1, .int a1)]) (st2 := [.int a1]) hm dX3_textAt_13 rfl ?_
      refine mx_S.pu (pc2 := 15) (lv2 := [(0, .ref a0), (1, .int a1)]) (st2 := [.ref a0, .int a1]) hm dX3_textAt_14 rfl ?_
      replace hf := mx_sv_el hf; obtain ⟨v2, e_v2, hf⟩ := hf
      refine sx_get hm dX3_textAt_15 rs_RX3_19 (xgr_el e_v2) ?_
      clear e_v2
      replace hf := mx_sv_el hf; obtain ⟨v3, e_v3, hf⟩ := hf
      refine sx_len hm dX3_textAt_18 e_v3 ?_
      clear e_v3
      rcases mx_if_el hf with ⟨c6, hf⟩ | ⟨c6, hf⟩
      · refine sb_ic_ge hm dX3_textAt_19 (tgt := 31) rfl (fun _ => ?_) (fun z => absurd c6 z)
        refine sx_ic (v := 0) hm dX3_textAt_31 (by decide) ?_
        cases hf
        exact sx_ire hm dX3_textAt_32 rfl rfl
      · refine sb_ic_ge hm dX3_textAt_19 (tgt := 31) rfl (fun z => absurd z c6) (fun _ => ?_)
        refine mx_S.pu (pc2 := 23) (lv2 := [(0, .ref a0), (1, .int a1)]) (st2 := [.ref a0]) hm dX3_textAt_22 rfl ?_
        replace hf := mx_sv_el hf; obtain ⟨v4, e_v4, hf⟩ := hf
        refine sx_get hm dX3_textAt_23 rs_RX3_19 (xgr_el e_v4) ?_
        clear e_v4
        refine mx_S.pu (pc2 := 27) (lv2 := [(0, .ref a0), (1, .int a1)]) (st2 := [.int a1, .ref v4]) hm dX3_textAt_26 rfl ?_
        replace hf := mx_sv_el hf; obtain ⟨v5, e_v5, hf⟩ := hf
        refine sx_ald hm dX3_textAt_27 e_v5 ?_
        clear e_v5
        refine mx_S.pu (pc2 := 32) (lv2 := [(0, .ref a0), (1, .int a1)]) (st2 := [.int v5]) hm dX3_textAt_28 rfl ?_
        cases hf
        exact sx_ire hm dX3_textAt_32 rfl rfl
set_option maxHeartbeats 4000000 in
set_option maxRecDepth 20000 in
theorem f_X3_textEnd_ok (X : Nat × (Nat → Int32)) {F L : Nat} (hF : 0 ≤ F) (hL : 0 ≤ L) (nn : Nat) (a0 : Nat) (a1 : Int32) (h : mx_H) {r : (Int32 × mx_H)} (hf : f_X3_textEnd nn a0 a1 h = some r) : mx_R X F L 108 [.ref a0, .int a1] h (some (.int r.1), r.2, 0, 0) := by
  have hm : mx_mt 108 = some (yX3_textEnd, cX3_textEnd, 2, (some .int)) := mt_X3_textEnd
  show mx_S X F L 108 0 [(0, .ref a0), (1, .int a1)] [] h 0 0 (some (.int r.1), r.2, 0, 0)
  unfold f_X3_textEnd at hf
  refine mx_S.pu (pc2 := 1) (lv2 := [(0, .ref a0), (1, .int a1)]) (st2 := [.int a1]) hm dX3_textEnd_0 rfl ?_
  refine sx_ic (v := 1) hm dX3_textEnd_1 (by decide) ?_
  rcases mx_if_el hf with ⟨c8, hf⟩ | ⟨c8, hf⟩
  · refine sb_ic_lt hm dX3_textEnd_2 (tgt := 31) rfl (fun _ => ?_) (fun z => absurd c8 z)
    refine sx_ic (v := 0) hm dX3_textEnd_31 (by decide) ?_
    cases hf
    exact sx_ire hm dX3_textEnd_32 rfl rfl
  · refine sb_ic_lt hm dX3_textEnd_2 (tgt := 31) rfl (fun z => absurd z c8) (fun _ => ?_)
    refine mx_S.pu (pc2 := 6) (lv2 := [(0, .ref a0), (1, .int a1)]) (st2 := [.int a1]) hm dX3_textEnd_5 rfl ?_
    refine mx_S.pu (pc2 := 7) (lv2 := [(0, .ref a0), (1, .int a1)]) (st2 := [.ref a0, .int a1]) hm dX3_textEnd_6 rfl ?_
    replace hf := mx_sv_el hf; obtain ⟨v1, e_v1, hf⟩ := hf
    refine sx_get hm dX3_textEnd_7 rs_RX3_90 (xgi_el e_v1) ?_
    clear e_v1
    rcases mx_if_el hf with ⟨c7, hf⟩ | ⟨c7, hf⟩
    · refine sb_ic_gt hm dX3_textEnd_10 (tgt := 31) rfl (fun _ => ?_) (fun z => absurd c7 z)
      refine sx_ic (v := 0) hm dX3_textEnd_31 (by decide) ?_
      cases hf
      exact sx_ire hm dX3_textEnd_32 rfl rfl
    · refine sb_ic_gt hm dX3_textEnd_10 (tgt := 31) rfl (fun z => absurd z c7) (fun _ => ?_)
      refine mx_S.pu (pc2 := 14) (lv2 := [(0, .ref a0), (1, .int a1)]) (st2 := [.int a1]) hm dX3_textEnd_13 rfl ?_
      refine mx_S.pu (pc2 := 15) (lv2 := [(0, .ref a0), (1, .int a1)]) (st2 := [.ref a0, .int a1]) hm dX3_textEnd_14 rfl ?_
      replace hf := mx_sv_el hf; obtain ⟨v2, e_v2, hf⟩ := hf
      refine sx_get hm dX3_textEnd_15 rs_RX3_22 (xgr_el e_v2) ?_
      clear e_v2
      replace hf := mx_sv_el hf; obtain ⟨v3, e_v3, hf⟩ := hf
      refine sx_len hm dX3_textEnd_18 e_v3 ?_
      clear e_v3
      rcases mx_if_el hf with ⟨c6, hf⟩ | ⟨c6, hf⟩
      · refine sb_ic_ge hm dX3_textEnd_19 (tgt := 31) rfl (fun _ => ?_) (fun z => absurd c6 z)
        refine sx_ic (v := 0) hm dX3_textEnd_31 (by decide) ?_
        cases hf
        exact sx_ire hm dX3_textEnd_32 rfl rfl
      · refine sb_ic_ge hm dX3_textEnd_19 (tgt := 31) rfl (fun z => absurd z c6) (fun _ => ?_)
        refine mx_S.pu (pc2 := 23) (lv2 := [(0, .ref a0), (1, .int a1)]) (st2 := [.ref a0]) hm dX3_textEnd_22 rfl ?_
        replace hf := mx_sv_el hf; obtain ⟨v4, e_v4, hf⟩ := hf
        refine sx_get hm dX3_textEnd_23 rs_RX3_22 (xgr_el e_v4) ?_
        clear e_v4
        refine mx_S.pu (pc2 := 27) (lv2 := [(0, .ref a0), (1, .int a1)]) (st2 := [.int a1, .ref v4]) hm dX3_textEnd_26 rfl ?_
        replace hf := mx_sv_el hf; obtain ⟨v5, e_v5, hf⟩ := hf
        refine sx_ald hm dX3_textEnd_27 e_v5 ?_
        clear e_v5
        refine mx_S.pu (pc2 := 32) (lv2 := [(0, .ref a0), (1, .int a1)]) (st2 := [.int v5]) hm dX3_textEnd_28 rfl ?_
        cases hf
        exact sx_ire hm dX3_textEnd_32 rfl rfl
set_option maxHeartbeats 4000000 in
set_option maxRecDepth 20000 in
theorem j_X3_builtIn_86_ok (X : Nat × (Nat → Int32)) {F L : Nat} (hF : 4 ≤ F) (hL : 85 ≤ L) (nn : Nat) {kk_8 : Nat → Int32 → Int32 → Int32 → Int32 → Int32 → mx_H → Option (Int32 × mx_H)} (hk_8 : ∀ (l0 : Nat) (l1 : Int32) (l2 : Int32) (l3 : Int32) (l4 : Int32) (l5 : Int32) (h : mx_H) (r : (Int32 × mx_H)), kk_8 l0 l1 l2 l3 l4 l5 h = some r → mx_S X F L 111 8 [(0, .ref l0), (1, .int l1), (2, .int l2), (3, .int l3), (4, .int l4), (5, .int l5)] [] h 0 0 (some (.int r.1), r.2, 0, 0)) (l0 : Nat) (l1 : Int32) (l2 : Int32) (l3 : Int32) (l5 : Int32) (s0 : Int32) (h : mx_H) {r : (Int32 × mx_H)} (hf : j_X3_builtIn_86 nn kk_8 l0 l1 l2 l3 l5 s0 h = some r) : mx_S X F L 111 86 [(0, .ref l0), (1, .int l1), (2, .int l2), (3, .int l3), (5, .int l5)] [.int s0] h 0 0 (some (.int r.1), r.2, 0, 0) := by
  have hm : mx_mt 111 = some (yX3_builtIn, cX3_builtIn, 8, (some .int)) := mt_X3_builtIn
  unfold j_X3_builtIn_86 at hf
  refine mx_S.pu (pc2 := 88) (lv2 := [(4, .int s0), (0, .ref l0), (1, .int l1), (2, .int l2), (3, .int l3), (5, .int l5)]) (st2 := []) hm dX3_builtIn_86 rfl ?_
  refine mx_S.pu (pc2 := 105) (lv2 := [(4, .int s0), (0, .ref l0), (1, .int l1), (2, .int l2), (3, .int l3), (5, .int l5)]) (st2 := []) hm dX3_builtIn_88 rfl ?_
  replace hf := xl_el hf; obtain ⟨v1, e_v1, hf⟩ := hf
  refine mx_S.pu (pc2 := 108) (lv2 := [(5, .int v1), (4, .int s0), (0, .ref l0), (1, .int l1), (2, .int l2), (3, .int l3)]) (st2 := []) hm dX3_builtIn_105 (by rw [← e_v1]; rfl) ?_
  clear e_v1
  refine mx_S.pu (pc2 := 8) (lv2 := [(5, .int v1), (4, .int s0), (0, .ref l0), (1, .int l1), (2, .int l2), (3, .int l3)]) (st2 := []) hm dX3_builtIn_108 rfl ?_
  refine mx_S.ext [(0, .ref l0), (1, .int l1), (2, .int l2), (3, .int l3), (4, .int s0), (5, .int v1)] (mx_sub_pos [2, 3, 4, 5, 1, 0] rfl (show ([5, 4, 0, 1, 2, 3] : List Nat).Nodup by decide)) ?_
  exact hk_8 l0 l1 l2 l3 s0 v1 h _ hf
set_option maxHeartbeats 4000000 in
set_option maxRecDepth 20000 in
theorem j_X3_builtIn_71_ok (X : Nat × (Nat → Int32)) {F L : Nat} (hF : 4 ≤ F) (hL : 85 ≤ L) (nn : Nat) {kk_8 : Nat → Int32 → Int32 → Int32 → Int32 → Int32 → mx_H → Option (Int32 × mx_H)} (hk_8 : ∀ (l0 : Nat) (l1 : Int32) (l2 : Int32) (l3 : Int32) (l4 : Int32) (l5 : Int32) (h : mx_H) (r : (Int32 × mx_H)), kk_8 l0 l1 l2 l3 l4 l5 h = some r → mx_S X F L 111 8 [(0, .ref l0), (1, .int l1), (2, .int l2), (3, .int l3), (4, .int l4), (5, .int l5)] [] h 0 0 (some (.int r.1), r.2, 0, 0)) (l0 : Nat) (l1 : Int32) (l2 : Int32) (l3 : Int32) (l4 : Int32) (l5 : Int32) (s0 : Int32) (h : mx_H) {r : (Int32 × mx_H)} (hf : j_X3_builtIn_71 nn kk_8 l0 l1 l2 l3 l4 l5 s0 h = some r) : mx_S X F L 111 71 [(0, .ref l0), (1, .int l1), (2, .int l2), (3, .int l3), (4, .int l4), (5, .int l5)] [.int s0] h 0 0 (some (.int r.1), r.2, 0, 0) := by
  have hm : mx_mt 111 = some (yX3_builtIn, cX3_builtIn, 8, (some .int)) := mt_X3_builtIn
  unfold j_X3_builtIn_71 at hf
  refine mx_S.pu (pc2 := 73) (lv2 := [(7, .int s0), (0, .ref l0), (1, .int l1), (2, .int l2), (3, .int l3), (4, .int l4), (5, .int l5)]) (st2 := []) hm dX3_builtIn_71 rfl ?_
  refine mx_S.pu (pc2 := 75) (lv2 := [(7, .int s0), (0, .ref l0), (1, .int l1), (2, .int l2), (3, .int l3), (4, .int l4), (5, .int l5)]) (st2 := [.int s0]) hm dX3_builtIn_73 rfl ?_
  rcases mx_if_el hf with ⟨c3, hf⟩ | ⟨c3, hf⟩
  · refine sb_if_eq hm dX3_builtIn_75 (tgt := 85) rfl (fun _ => ?_) (fun z => absurd c3 z)
    refine sx_ic (v := (-1)) hm dX3_builtIn_85 (by decide) ?_
    refine mx_S.ext [(0, .ref l0), (1, .int l1), (2, .int l2), (3, .int l3), (5, .int l5)] (mx_sub_pos [1, 2, 3, 4, 6] rfl (show ([7, 0, 1, 2, 3, 4, 5] : List Nat).Nodup by decide)) ?_
    exact j_X3_builtIn_86_ok X hF hL nn hk_8 l0 l1 l2 l3 l5 (-1) h hf
  · refine sb_if_eq hm dX3_builtIn_75 (tgt := 85) rfl (fun z => absurd z c3) (fun _ => ?_)
    refine mx_S.pu (pc2 := 80) (lv2 := [(7, .int s0), (0, .ref l0), (1, .int l1), (2, .int l2), (3, .int l3), (4, .int l4), (5, .int l5)]) (st2 := [.int l4]) hm dX3_builtIn_78 rfl ?_
    refine sx_ic (v := 1) hm dX3_builtIn_80 (by decide) ?_
    replace hf := xl_el hf; obtain ⟨v2, e_v2, hf⟩ := hf
    refine mx_S.pu (pc2 := 82) (lv2 := [(7, .int s0), (0, .ref l0), (1, .int l1), (2, .int l2), (3, .int l3), (4, .int l4), (5, .int l5)]) (st2 := [.int v2]) hm dX3_builtIn_81 (by rw [← e_v2]; rfl) ?_
    clear e_v2
    refine mx_S.pu (pc2 := 86) (lv2 := [(7, .int s0), (0, .ref l0), (1, .int l1), (2, .int l2), (3, .int l3), (4, .int l4), (5, .int l5)]) (st2 := [.int v2]) hm dX3_builtIn_82 rfl ?_
    refine mx_S.ext [(0, .ref l0), (1, .int l1), (2, .int l2), (3, .int l3), (5, .int l5)] (mx_sub_pos [1, 2, 3, 4, 6] rfl (show ([7, 0, 1, 2, 3, 4, 5] : List Nat).Nodup by decide)) ?_
    exact j_X3_builtIn_86_ok X hF hL nn hk_8 l0 l1 l2 l3 l5 v2 h hf
set_option maxHeartbeats 4000000 in
set_option maxRecDepth 20000 in
theorem j_X3_builtIn_70_ok (X : Nat × (Nat → Int32)) {F L : Nat} (hF : 4 ≤ F) (hL : 85 ≤ L) (nn : Nat) {kk_8 : Nat → Int32 → Int32 → Int32 → Int32 → Int32 → mx_H → Option (Int32 × mx_H)} (hk_8 : ∀ (l0 : Nat) (l1 : Int32) (l2 : Int32) (l3 : Int32) (l4 : Int32) (l5 : Int32) (h : mx_H) (r : (Int32 × mx_H)), kk_8 l0 l1 l2 l3 l4 l5 h = some r → mx_S X F L 111 8 [(0, .ref l0), (1, .int l1), (2, .int l2), (3, .int l3), (4, .int l4), (5, .int l5)] [] h 0 0 (some (.int r.1), r.2, 0, 0)) (l0 : Nat) (l1 : Int32) (l2 : Int32) (l3 : Int32) (l4 : Int32) (l5 : Int32) (h : mx_H) {r : (Int32 × mx_H)} (hf : j_X3_builtIn_70 nn kk_8 l0 l1 l2 l3 l4 l5 h = some r) : mx_S X F L 111 70 [(0, .ref l0), (1, .int l1), (2, .int l2), (3, .int l3), (4, .int l4), (5, .int l5)] [] h 0 0 (some (.int r.1), r.2, 0, 0) := by
  have hm : mx_mt 111 = some (yX3_builtIn, cX3_builtIn, 8, (some .int)) := mt_X3_builtIn
  unfold j_X3_builtIn_70 at hf
  refine sx_ic (v := 0) hm dX3_builtIn_70 (by decide) ?_
  exact j_X3_builtIn_71_ok X hF hL nn hk_8 l0 l1 l2 l3 l4 l5 0 h hf
set_option maxHeartbeats 4000000 in
set_option maxRecDepth 20000 in
theorem w_X3_builtIn_8_ok (X : Nat × (Nat → Int32)) {F L : Nat} (hF : 4 ≤ F) (hL : 85 ≤ L) (nn : Nat) : ∀ (k : Nat) (l0 : Nat) (l1 : Int32) (l2 : Int32) (l3 : Int32) (l4 : Int32) (l5 : Int32) (h : mx_H) (r : (Int32 × mx_H)), w_X3_builtIn_8 nn k l0 l1 l2 l3 l4 l5 h = some r → mx_S X F L 111 8 [(0, .ref l0), (1, .int l1), (2, .int l2), (3, .int l3), (4, .int l4), (5, .int l5)] [] h 0 0 (some (.int r.1), r.2, 0, 0) := by
  have hm : mx_mt 111 = some (yX3_builtIn, cX3_builtIn, 8, (some .int)) := mt_X3_builtIn
  intro k
  induction k with
  | zero => intro l0 l1 l2 l3 l4 l5 h r hf; cases hf
  | succ k ih =>
    intro l0 l1 l2 l3 l4 l5 h r hf
    unfold w_X3_builtIn_8 at hf
    refine mx_S.pu (pc2 := 10) (lv2 := [(0, .ref l0), (1, .int l1), (2, .int l2), (3, .int l3), (4, .int l4), (5, .int l5)]) (st2 := [.int l5]) hm dX3_builtIn_8 rfl ?_
    refine sx_ldcS hm dX3_builtIn_10 rs_RX3_132 ?_
    replace hf := mx_sv_el hf; obtain ⟨v4, e_v4, hf⟩ := hf
    refine sx_sln hm dX3_builtIn_12 rs_RX3_134 e_v4 (by omega) (by omega) (Nat.le_of_ble_eq_true rfl) ?_
    clear e_v4
    rcases mx_if_el hf with ⟨c17, hf⟩ | ⟨c17, hf⟩
    · refine sb_ic_ge hm dX3_builtIn_15 (tgt := 111) rfl (fun _ => ?_) (fun z => absurd c17 z)
      refine sx_ic (v := (-1)) hm dX3_builtIn_111 (by decide) ?_
      cases hf
      exact sx_ire hm dX3_builtIn_112 rfl rfl
    · refine sb_ic_ge hm dX3_builtIn_15 (tgt := 111) rfl (fun z => absurd z c17) (fun _ => ?_)
      refine sx_ldcS hm dX3_builtIn_18 rs_RX3_132 ?_
      refine mx_S.pu (pc2 := 22) (lv2 := [(0, .ref l0), (1, .int l1), (2, .int l2), (3, .int l3), (4, .int l4), (5, .int l5)]) (st2 := [.int l5, .ref (1000000000 + 1)]) hm dX3_builtIn_20 rfl ?_
      replace hf := mx_sv_el hf; obtain ⟨v5, e_v5, hf⟩ := hf
      refine sx_chr hm dX3_builtIn_22 rs_RX3_139 e_v5 (by omega) (by omega) (Nat.le_of_ble_eq_true rfl) ?_
      clear e_v5
      refine mx_S.pu (pc2 := 27) (lv2 := [(6, .int v5), (0, .ref l0), (1, .int l1), (2, .int l2), (3, .int l3), (4, .int l4), (5, .int l5)]) (st2 := []) hm dX3_builtIn_25 rfl ?_
      refine mx_S.pu (pc2 := 29) (lv2 := [(6, .int v5), (0, .ref l0), (1, .int l1), (2, .int l2), (3, .int l3), (4, .int l4), (5, .int l5)]) (st2 := [.int v5]) hm dX3_builtIn_27 rfl ?_
      refine sx_bi (v := 32) hm dX3_builtIn_29 (by decide) ?_
      rcases mx_if_el hf with ⟨c16, hf⟩ | ⟨c16, hf⟩
      · refine sb_ic_eq hm dX3_builtIn_31 (tgt := 91) rfl (fun _ => ?_) (fun z => absurd c16 z)
        refine mx_S.pu (pc2 := 93) (lv2 := [(6, .int v5), (0, .ref l0), (1, .int l1), (2, .int l2), (3, .int l3), (4, .int l4), (5, .int l5)]) (st2 := [.int l4]) hm dX3_builtIn_91 rfl ?_
        refine mx_S.pu (pc2 := 94) (lv2 := [(6, .int v5), (0, .ref l0), (1, .int l1), (2, .int l2), (3, .int l3), (4, .int l4), (5, .int l5)]) (st2 := [.int l2, .int l4]) hm dX3_builtIn_93 rfl ?_
        rcases mx_if_el hf with ⟨c8, hf⟩ | ⟨c8, hf⟩
        · refine sb_ic_ne hm dX3_builtIn_94 (tgt := 99) rfl (fun _ => ?_) (fun z => absurd c8 z)
          refine mx_S.pu (pc2 := 100) (lv2 := [(6, .int v5), (0, .ref l0), (1, .int l1), (2, .int l2), (3, .int l3), (4, .int l4), (5, .int l5)]) (st2 := [.int l1]) hm dX3_builtIn_99 rfl ?_
          refine mx_S.pu (pc2 := 102) (lv2 := [(4, .int l1), (6, .int v5), (0, .ref l0), (1, .int l1), (2, .int l2), (3, .int l3), (5, .int l5)]) (st2 := []) hm dX3_builtIn_100 rfl ?_
          replace hf := xl_el hf; obtain ⟨v6, e_v6, hf⟩ := hf
          refine mx_S.pu (pc2 := 105) (lv2 := [(3, .int v6), (4, .int l1), (6, .int v5), (0, .ref l0), (1, .int l1), (2, .int l2), (5, .int l5)]) (st2 := []) hm dX3_builtIn_102 (by rw [← e_v6]; rfl) ?_
          clear e_v6
          replace hf := xl_el hf; obtain ⟨v7, e_v7, hf⟩ := hf
          refine mx_S.pu (pc2 := 108) (lv2 := [(5, .int v7), (3, .int v6), (4, .int l1), (6, .int v5), (0, .ref l0), (1, .int l1), (2, .int l2)]) (st2 := []) hm dX3_builtIn_105 (by rw [← e_v7]; rfl) ?_
          clear e_v7
          refine mx_S.pu (pc2 := 8) (lv2 := [(5, .int v7), (3, .int v6), (4, .int l1), (6, .int v5), (0, .ref l0), (1, .int l1), (2, .int l2)]) (st2 := []) hm dX3_builtIn_108 rfl ?_
          refine mx_S.ext [(0, .ref l0), (1, .int l1), (2, .int l2), (3, .int v6), (4, .int l1), (5, .int v7)] (mx_sub_pos [4, 5, 6, 1, 2, 0] rfl (show ([5, 3, 4, 6, 0, 1, 2] : List Nat).Nodup by decide)) ?_
          exact ih l0 l1 l2 v6 l1 v7 h _ hf
        · refine sb_ic_ne hm dX3_builtIn_94 (tgt := 99) rfl (fun z => absurd z c8) (fun _ => ?_)
          refine mx_S.pu (pc2 := 98) (lv2 := [(6, .int v5), (0, .ref l0), (1, .int l1), (2, .int l2), (3, .int l3), (4, .int l4), (5, .int l5)]) (st2 := [.int l3]) hm dX3_builtIn_97 rfl ?_
          cases hf
          exact sx_ire hm dX3_builtIn_98 rfl rfl
      · refine sb_ic_eq hm dX3_builtIn_31 (tgt := 91) rfl (fun z => absurd z c16) (fun _ => ?_)
        refine mx_S.pu (pc2 := 36) (lv2 := [(6, .int v5), (0, .ref l0), (1, .int l1), (2, .int l2), (3, .int l3), (4, .int l4), (5, .int l5)]) (st2 := [.int l4]) hm dX3_builtIn_34 rfl ?_
        rcases mx_if_el hf with ⟨c15, hf⟩ | ⟨c15, hf⟩
        · refine sb_if_lt hm dX3_builtIn_36 (tgt := 70) rfl (fun _ => ?_) (fun z => absurd c15 z)
          refine mx_S.ext [(0, .ref l0), (1, .int l1), (2, .int l2), (3, .int l3), (4, .int l4), (5, .int l5)] (mx_sub_pos [1, 2, 3, 4, 5, 6] rfl (show ([6, 0, 1, 2, 3, 4, 5] : List Nat).Nodup by decide)) ?_
          exact j_X3_builtIn_70_ok X hF hL nn ih l0 l1 l2 l3 l4 l5 h hf
        · refine sb_if_lt hm dX3_builtIn_36 (tgt := 70) rfl (fun z => absurd z c15) (fun _ => ?_)
          refine mx_S.pu (pc2 := 41) (lv2 := [(6, .int v5), (0, .ref l0), (1, .int l1), (2, .int l2), (3, .int l3), (4, .int l4), (5, .int l5)]) (st2 := [.int l4]) hm dX3_builtIn_39 rfl ?_
          refine mx_S.pu (pc2 := 42) (lv2 := [(6, .int v5), (0, .ref l0), (1, .int l1), (2, .int l2), (3, .int l3), (4, .int l4), (5, .int l5)]) (st2 := [.int l2, .int l4]) hm dX3_builtIn_41 rfl ?_
          rcases mx_if_el hf with ⟨c14, hf⟩ | ⟨c14, hf⟩
          · refine sb_ic_ge hm dX3_builtIn_42 (tgt := 70) rfl (fun _ => ?_) (fun z => absurd c14 z)
            refine mx_S.ext [(0, .ref l0), (1, .int l1), (2, .int l2), (3, .int l3), (4, .int l4), (5, .int l5)] (mx_sub_pos [1, 2, 3, 4, 5, 6] rfl (show ([6, 0, 1, 2, 3, 4, 5] : List Nat).Nodup by decide)) ?_
            exact j_X3_builtIn_70_ok X hF hL nn ih l0 l1 l2 l3 l4 l5 h hf
          · refine sb_ic_ge hm dX3_builtIn_42 (tgt := 70) rfl (fun z => absurd z c14) (fun _ => ?_)
            refine mx_S.pu (pc2 := 47) (lv2 := [(6, .int v5), (0, .ref l0), (1, .int l1), (2, .int l2), (3, .int l3), (4, .int l4), (5, .int l5)]) (st2 := [.int l4]) hm dX3_builtIn_45 rfl ?_
            refine mx_S.pu (pc2 := 48) (lv2 := [(6, .int v5), (0, .ref l0), (1, .int l1), (2, .int l2), (3, .int l3), (4, .int l4), (5, .int l5)]) (st2 := [.ref l0, .int l4]) hm dX3_builtIn_47 rfl ?_
            replace hf := mx_sv_el hf; obtain ⟨v9, e_v9, hf⟩ := hf
            refine sx_get hm dX3_builtIn_48 rs_RX3_39 (xgi_el e_v9) ?_
            clear e_v9
            rcases mx_if_el hf with ⟨c13, hf⟩ | ⟨c13, hf⟩
            · refine sb_ic_ge hm dX3_builtIn_51 (tgt := 70) rfl (fun _ => ?_) (fun z => absurd c13 z)
              refine mx_S.ext [(0, .ref l0), (1, .int l1), (2, .int l2), (3, .int l3), (4, .int l4), (5, .int l5)] (mx_sub_pos [1, 2, 3, 4, 5, 6] rfl (show ([6, 0, 1, 2, 3, 4, 5] : List Nat).Nodup by decide)) ?_
              exact j_X3_builtIn_70_ok X hF hL nn ih l0 l1 l2 l3 l4 l5 h hf
            · refine sb_ic_ge hm dX3_builtIn_51 (tgt := 70) rfl (fun z => absurd z c13) (fun _ => ?_)
              refine mx_S.pu (pc2 := 55) (lv2 := [(6, .int v5), (0, .ref l0), (1, .int l1), (2, .int l2), (3, .int l3), (4, .int l4), (5, .int l5)]) (st2 := [.ref l0]) hm dX3_builtIn_54 rfl ?_
              replace hf := mx_sv_el hf; obtain ⟨v10, e_v10, hf⟩ := hf
              refine sx_get hm dX3_builtIn_55 rs_RX3_9 (xgr_el e_v10) ?_
              clear e_v10
              refine mx_S.pu (pc2 := 60) (lv2 := [(6, .int v5), (0, .ref l0), (1, .int l1), (2, .int l2), (3, .int l3), (4, .int l4), (5, .int l5)]) (st2 := [.int l4, .ref v10]) hm dX3_builtIn_58 rfl ?_
              replace hf := mx_sv_el hf; obtain ⟨v11, e_v11, hf⟩ := hf
              refine sx_bld hm dX3_builtIn_60 e_v11 ?_
              clear e_v11
              refine mx_S.pu (pc2 := 63) (lv2 := [(6, .int v5), (0, .ref l0), (1, .int l1), (2, .int l2), (3, .int l3), (4, .int l4), (5, .int l5)]) (st2 := [.int v5, .int v11]) hm dX3_builtIn_61 rfl ?_
              rcases mx_if_el hf with ⟨c12, hf⟩ | ⟨c12, hf⟩
              · refine sb_ic_ne hm dX3_builtIn_63 (tgt := 70) rfl (fun _ => ?_) (fun z => absurd c12 z)
                refine mx_S.ext [(0, .ref l0), (1, .int l1), (2, .int l2), (3, .int l3), (4, .int l4), (5, .int l5)] (mx_sub_pos [1, 2, 3, 4, 5, 6] rfl (show ([6, 0, 1, 2, 3, 4, 5] : List Nat).Nodup by decide)) ?_
                exact j_X3_builtIn_70_ok X hF hL nn ih l0 l1 l2 l3 l4 l5 h hf
              · refine sb_ic_ne hm dX3_builtIn_63 (tgt := 70) rfl (fun z => absurd z c12) (fun _ => ?_)
                refine sx_ic (v := 1) hm dX3_builtIn_66 (by decide) ?_
                refine mx_S.pu (pc2 := 71) (lv2 := [(6, .int v5), (0, .ref l0), (1, .int l1), (2, .int l2), (3, .int l3), (4, .int l4), (5, .int l5)]) (st2 := [.int 1]) hm dX3_builtIn_67 rfl ?_
                refine mx_S.ext [(0, .ref l0), (1, .int l1), (2, .int l2), (3, .int l3), (4, .int l4), (5, .int l5)] (mx_sub_pos [1, 2, 3, 4, 5, 6] rfl (show ([6, 0, 1, 2, 3, 4, 5] : List Nat).Nodup by decide)) ?_
                exact j_X3_builtIn_71_ok X hF hL nn ih l0 l1 l2 l3 l4 l5 1 h hf
set_option maxHeartbeats 4000000 in
set_option maxRecDepth 20000 in
theorem f_X3_builtIn_ok (X : Nat × (Nat → Int32)) {F L : Nat} (hF : 4 ≤ F) (hL : 85 ≤ L) (nn : Nat) (a0 : Nat) (a1 : Int32) (a2 : Int32) (h : mx_H) {r : (Int32 × mx_H)} (hf : f_X3_builtIn nn a0 a1 a2 h = some r) : mx_R X F L 111 [.ref a0, .int a1, .int a2] h (some (.int r.1), r.2, 0, 0) := by
  have hm : mx_mt 111 = some (yX3_builtIn, cX3_builtIn, 8, (some .int)) := mt_X3_builtIn
  show mx_S X F L 111 0 [(0, .ref a0), (1, .int a1), (2, .int a2)] [] h 0 0 (some (.int r.1), r.2, 0, 0)
  unfold f_X3_builtIn at hf
  refine sx_ic (v := 0) hm dX3_builtIn_0 (by decide) ?_
  refine mx_S.pu (pc2 := 2) (lv2 := [(3, .int 0), (0, .ref a0), (1, .int a1), (2, .int a2)]) (st2 := []) hm dX3_builtIn_1 rfl ?_
  refine mx_S.pu (pc2 := 3) (lv2 := [(3, .int 0), (0, .ref a0), (1, .int a1), (2, .int a2)]) (st2 := [.int a1]) hm dX3_builtIn_2 rfl ?_
  refine mx_S.pu (pc2 := 5) (lv2 := [(4, .int a1), (3, .int 0), (0, .ref a0), (1, .int a1), (2, .int a2)]) (st2 := []) hm dX3_builtIn_3 rfl ?_
  refine sx_ic (v := 0) hm dX3_builtIn_5 (by decide) ?_
  refine mx_S.pu (pc2 := 8) (lv2 := [(5, .int 0), (4, .int a1), (3, .int 0), (0, .ref a0), (1, .int a1), (2, .int a2)]) (st2 := []) hm dX3_builtIn_6 rfl ?_
  refine mx_S.ext [(0, .ref a0), (1, .int a1), (2, .int a2), (3, .int 0), (4, .int a1), (5, .int 0)] (mx_sub_pos [3, 4, 5, 2, 1, 0] rfl (show ([5, 4, 3, 0, 1, 2] : List Nat).Nodup by decide)) ?_
  exact w_X3_builtIn_8_ok X hF hL nn nn a0 a1 a2 0 a1 0 h _ hf
set_option maxHeartbeats 4000000 in
set_option maxRecDepth 20000 in
theorem w_X3_sameBytes_47_ok (X : Nat × (Nat → Int32)) {F L : Nat} (hF : 0 ≤ F) (hL : 0 ≤ L) (nn : Nat) : ∀ (k : Nat) (l0 : Nat) (l1 : Int32) (l2 : Int32) (l3 : Nat) (l4 : Int32) (l6 : Int32) (l7 : Int32) (h : mx_H) (r : (Int32 × mx_H)), w_X3_sameBytes_47 nn k l0 l1 l2 l3 l4 l6 l7 h = some r → mx_S X F L 109 47 [(0, .ref l0), (1, .int l1), (2, .int l2), (3, .ref l3), (4, .int l4), (6, .int l6), (7, .int l7)] [] h 0 0 (some (.int r.1), r.2, 0, 0) := by
  have hm : mx_mt 109 = some (yX3_sameBytes, cX3_sameBytes, 8, (some .boolean)) := mt_X3_sameBytes
  intro k
  induction k with
  | zero => intro l0 l1 l2 l3 l4 l6 l7 h r hf; cases hf
  | succ k ih =>
    intro l0 l1 l2 l3 l4 l6 l7 h r hf
    unfold w_X3_sameBytes_47 at hf
    refine mx_S.pu (pc2 := 49) (lv2 := [(0, .ref l0), (1, .int l1), (2, .int l2), (3, .ref l3), (4, .int l4), (6, .int l6), (7, .int l7)]) (st2 := [.int l7]) hm dX3_sameBytes_47 rfl ?_
    refine mx_S.pu (pc2 := 50) (lv2 := [(0, .ref l0), (1, .int l1), (2, .int l2), (3, .ref l3), (4, .int l4), (6, .int l6), (7, .int l7)]) (st2 := [.int l2, .int l7]) hm dX3_sameBytes_49 rfl ?_
    refine mx_S.pu (pc2 := 51) (lv2 := [(0, .ref l0), (1, .int l1), (2, .int l2), (3, .ref l3), (4, .int l4), (6, .int l6), (7, .int l7)]) (st2 := [.int l1, .int l2, .int l7]) hm dX3_sameBytes_50 rfl ?_
    replace hf := xl_el hf; obtain ⟨v1, e_v1, hf⟩ := hf
    refine mx_S.pu (pc2 := 52) (lv2 := [(0, .ref l0), (1, .int l1), (2, .int l2), (3, .ref l3), (4, .int l4), (6, .int l6), (7, .int l7)]) (st2 := [.int v1, .int l7]) hm dX3_sameBytes_51 (by rw [← e_v1]; rfl) ?_
    clear e_v1
    rcases mx_if_el hf with ⟨c14, hf⟩ | ⟨c14, hf⟩
    · refine sb_ic_ge hm dX3_sameBytes_52 (tgt := 95) rfl (fun _ => ?_) (fun z => absurd c14 z)
      refine mx_S.pu (pc2 := 97) (lv2 := [(0, .ref l0), (1, .int l1), (2, .int l2), (3, .ref l3), (4, .int l4), (6, .int l6), (7, .int l7)]) (st2 := [.int l6]) hm dX3_sameBytes_95 rfl ?_
      replace hf := mx_gd_el hf; obtain ⟨c2, hf⟩ := hf
      cases hf
      exact sx_ire hm dX3_sameBytes_97 rfl (xbq_ok c2).1
    · refine sb_ic_ge hm dX3_sameBytes_52 (tgt := 95) rfl (fun z => absurd z c14) (fun _ => ?_)
      refine mx_S.pu (pc2 := 57) (lv2 := [(0, .ref l0), (1, .int l1), (2, .int l2), (3, .ref l3), (4, .int l4), (6, .int l6), (7, .int l7)]) (st2 := [.int l6]) hm dX3_sameBytes_55 rfl ?_
      rcases mx_if_el hf with ⟨c13, hf⟩ | ⟨c13, hf⟩
      · refine sb_if_eq hm dX3_sameBytes_57 (tgt := 95) rfl (fun _ => ?_) (fun z => absurd c13 z)
        refine mx_S.pu (pc2 := 97) (lv2 := [(0, .ref l0), (1, .int l1), (2, .int l2), (3, .ref l3), (4, .int l4), (6, .int l6), (7, .int l7)]) (st2 := [.int l6]) hm dX3_sameBytes_95 rfl ?_
        replace hf := mx_gd_el hf; obtain ⟨c3, hf⟩ := hf
        cases hf
        exact sx_ire hm dX3_sameBytes_97 rfl (xbq_ok c3).1
      · refine sb_if_eq hm dX3_sameBytes_57 (tgt := 95) rfl (fun z => absurd z c13) (fun _ => ?_)
        refine mx_S.pu (pc2 := 61) (lv2 := [(0, .ref l0), (1, .int l1), (2, .int l2), (3, .ref l3), (4, .int l4), (6, .int l6), (7, .int l7)]) (st2 := [.ref l0]) hm dX3_sameBytes_60 rfl ?_
        replace hf := mx_sv_el hf; obtain ⟨v4, e_v4, hf⟩ := hf
        refine sx_get hm dX3_sameBytes_61 rs_RX3_9 (xgr_el e_v4) ?_
        clear e_v4
        refine mx_S.pu (pc2 := 65) (lv2 := [(0, .ref l0), (1, .int l1), (2, .int l2), (3, .ref l3), (4, .int l4), (6, .int l6), (7, .int l7)]) (st2 := [.int l1, .ref v4]) hm dX3_sameBytes_64 rfl ?_
        refine mx_S.pu (pc2 := 67) (lv2 := [(0, .ref l0), (1, .int l1), (2, .int l2), (3, .ref l3), (4, .int l4), (6, .int l6), (7, .int l7)]) (st2 := [.int l7, .int l1, .ref v4]) hm dX3_sameBytes_65 rfl ?_
        replace hf := xl_el hf; obtain ⟨v5, e_v5, hf⟩ := hf
        refine mx_S.pu (pc2 := 68) (lv2 := [(0, .ref l0), (1, .int l1), (2, .int l2), (3, .ref l3), (4, .int l4), (6, .int l6), (7, .int l7)]) (st2 := [.int v5, .ref v4]) hm dX3_sameBytes_67 (by rw [← e_v5]; rfl) ?_
        clear e_v5
        replace hf := mx_sv_el hf; obtain ⟨v6, e_v6, hf⟩ := hf
        refine sx_bld hm dX3_sameBytes_68 e_v6 ?_
        clear e_v6
        refine mx_S.pu (pc2 := 70) (lv2 := [(0, .ref l0), (1, .int l1), (2, .int l2), (3, .ref l3), (4, .int l4), (6, .int l6), (7, .int l7)]) (st2 := [.ref l3, .int v6]) hm dX3_sameBytes_69 rfl ?_
        replace hf := mx_sv_el hf; obtain ⟨v7, e_v7, hf⟩ := hf
        refine sx_get hm dX3_sameBytes_70 rs_RX3_9 (xgr_el e_v7) ?_
        clear e_v7
        refine mx_S.pu (pc2 := 75) (lv2 := [(0, .ref l0), (1, .int l1), (2, .int l2), (3, .ref l3), (4, .int l4), (6, .int l6), (7, .int l7)]) (st2 := [.int l4, .ref v7, .int v6]) hm dX3_sameBytes_73 rfl ?_
        refine mx_S.pu (pc2 := 77) (lv2 := [(0, .ref l0), (1, .int l1), (2, .int l2), (3, .ref l3), (4, .int l4), (6, .int l6), (7, .int l7)]) (st2 := [.int l7, .int l4, .ref v7, .int v6]) hm dX3_sameBytes_75 rfl ?_
        replace hf := xl_el hf; obtain ⟨v8, e_v8, hf⟩ := hf
        refine mx_S.pu (pc2 := 78) (lv2 := [(0, .ref l0), (1, .int l1), (2, .int l2), (3, .ref l3), (4, .int l4), (6, .int l6), (7, .int l7)]) (st2 := [.int v8, .ref v7, .int v6]) hm dX3_sameBytes_77 (by rw [← e_v8]; rfl) ?_
        clear e_v8
        replace hf := mx_sv_el hf; obtain ⟨v9, e_v9, hf⟩ := hf
        refine sx_bld hm dX3_sameBytes_78 e_v9 ?_
        clear e_v9
        rcases mx_if_el hf with ⟨c12, hf⟩ | ⟨c12, hf⟩
        · refine sb_ic_ne hm dX3_sameBytes_79 (tgt := 86) rfl (fun _ => ?_) (fun z => absurd c12 z)
          refine sx_ic (v := 0) hm dX3_sameBytes_86 (by decide) ?_
          refine mx_S.pu (pc2 := 89) (lv2 := [(6, .int 0), (0, .ref l0), (1, .int l1), (2, .int l2), (3, .ref l3), (4, .int l4), (7, .int l7)]) (st2 := []) hm dX3_sameBytes_87 rfl ?_
          replace hf := xl_el hf; obtain ⟨v10, e_v10, hf⟩ := hf
          refine mx_S.pu (pc2 := 92) (lv2 := [(7, .int v10), (6, .int 0), (0, .ref l0), (1, .int l1), (2, .int l2), (3, .ref l3), (4, .int l4)]) (st2 := []) hm dX3_sameBytes_89 (by rw [← e_v10]; rfl) ?_
          clear e_v10
          refine mx_S.pu (pc2 := 47) (lv2 := [(7, .int v10), (6, .int 0), (0, .ref l0), (1, .int l1), (2, .int l2), (3, .ref l3), (4, .int l4)]) (st2 := []) hm dX3_sameBytes_92 rfl ?_
          refine mx_S.ext [(0, .ref l0), (1, .int l1), (2, .int l2), (3, .ref l3), (4, .int l4), (6, .int 0), (7, .int v10)] (mx_sub_pos [2, 3, 4, 5, 6, 1, 0] rfl (show ([7, 6, 0, 1, 2, 3, 4] : List Nat).Nodup by decide)) ?_
          exact ih l0 l1 l2 l3 l4 0 v10 h _ hf
        · refine sb_ic_ne hm dX3_sameBytes_79 (tgt := 86) rfl (fun z => absurd z c12) (fun _ => ?_)
          refine sx_ic (v := 1) hm dX3_sameBytes_82 (by decide) ?_
          refine mx_S.pu (pc2 := 87) (lv2 := [(0, .ref l0), (1, .int l1), (2, .int l2), (3, .ref l3), (4, .int l4), (6, .int l6), (7, .int l7)]) (st2 := [.int 1]) hm dX3_sameBytes_83 rfl ?_
          refine mx_S.pu (pc2 := 89) (lv2 := [(6, .int 1), (0, .ref l0), (1, .int l1), (2, .int l2), (3, .ref l3), (4, .int l4), (7, .int l7)]) (st2 := []) hm dX3_sameBytes_87 rfl ?_
          replace hf := xl_el hf; obtain ⟨v11, e_v11, hf⟩ := hf
          refine mx_S.pu (pc2 := 92) (lv2 := [(7, .int v11), (6, .int 1), (0, .ref l0), (1, .int l1), (2, .int l2), (3, .ref l3), (4, .int l4)]) (st2 := []) hm dX3_sameBytes_89 (by rw [← e_v11]; rfl) ?_
          clear e_v11
          refine mx_S.pu (pc2 := 47) (lv2 := [(7, .int v11), (6, .int 1), (0, .ref l0), (1, .int l1), (2, .int l2), (3, .ref l3), (4, .int l4)]) (st2 := []) hm dX3_sameBytes_92 rfl ?_
          refine mx_S.ext [(0, .ref l0), (1, .int l1), (2, .int l2), (3, .ref l3), (4, .int l4), (6, .int 1), (7, .int v11)] (mx_sub_pos [2, 3, 4, 5, 6, 1, 0] rfl (show ([7, 6, 0, 1, 2, 3, 4] : List Nat).Nodup by decide)) ?_
          exact ih l0 l1 l2 l3 l4 1 v11 h _ hf
set_option maxHeartbeats 4000000 in
set_option maxRecDepth 20000 in
theorem j_X3_sameBytes_41_ok (X : Nat × (Nat → Int32)) {F L : Nat} (hF : 0 ≤ F) (hL : 0 ≤ L) (nn : Nat) (l0 : Nat) (l1 : Int32) (l2 : Int32) (l3 : Nat) (l4 : Int32) (h : mx_H) {r : (Int32 × mx_H)} (hf : j_X3_sameBytes_41 nn l0 l1 l2 l3 l4 h = some r) : mx_S X F L 109 41 [(0, .ref l0), (1, .int l1), (2, .int l2), (3, .ref l3), (4, .int l4)] [] h 0 0 (some (.int r.1), r.2, 0, 0) := by
  have hm : mx_mt 109 = some (yX3_sameBytes, cX3_sameBytes, 8, (some .boolean)) := mt_X3_sameBytes
  unfold j_X3_sameBytes_41 at hf
  refine sx_ic (v := 0) hm dX3_sameBytes_41 (by decide) ?_
  refine mx_S.pu (pc2 := 44) (lv2 := [(6, .int 0), (0, .ref l0), (1, .int l1), (2, .int l2), (3, .ref l3), (4, .int l4)]) (st2 := []) hm dX3_sameBytes_42 rfl ?_
  refine sx_ic (v := 0) hm dX3_sameBytes_44 (by decide) ?_
  refine mx_S.pu (pc2 := 47) (lv2 := [(7, .int 0), (6, .int 0), (0, .ref l0), (1, .int l1), (2, .int l2), (3, .ref l3), (4, .int l4)]) (st2 := []) hm dX3_sameBytes_45 rfl ?_
  refine mx_S.ext [(0, .ref l0), (1, .int l1), (2, .int l2), (3, .ref l3), (4, .int l4), (6, .int 0), (7, .int 0)] (mx_sub_pos [2, 3, 4, 5, 6, 1, 0] rfl (show ([7, 6, 0, 1, 2, 3, 4] : List Nat).Nodup by decide)) ?_
  exact w_X3_sameBytes_47_ok X hF hL nn nn l0 l1 l2 l3 l4 0 0 h _ hf
set_option maxHeartbeats 4000000 in
set_option maxRecDepth 20000 in
theorem f_X3_sameBytes_ok (X : Nat × (Nat → Int32)) {F L : Nat} (hF : 0 ≤ F) (hL : 0 ≤ L) (nn : Nat) (a0 : Nat) (a1 : Int32) (a2 : Int32) (a3 : Nat) (a4 : Int32) (a5 : Int32) (h : mx_H) {r : (Int32 × mx_H)} (hf : f_X3_sameBytes nn a0 a1 a2 a3 a4 a5 h = some r) : mx_R X F L 109 [.ref a0, .int a1, .int a2, .ref a3, .int a4, .int a5] h (some (.int r.1), r.2, 0, 0) := by
  have hm : mx_mt 109 = some (yX3_sameBytes, cX3_sameBytes, 8, (some .boolean)) := mt_X3_sameBytes
  show mx_S X F L 109 0 [(0, .ref a0), (1, .int a1), (2, .int a2), (3, .ref a3), (4, .int a4), (5, .int a5)] [] h 0 0 (some (.int r.1), r.2, 0, 0)
  unfold f_X3_sameBytes at hf
  refine mx_S.pu (pc2 := 1) (lv2 := [(0, .ref a0), (1, .int a1), (2, .int a2), (3, .ref a3), (4, .int a4), (5, .int a5)]) (st2 := [.int a2]) hm dX3_sameBytes_0 rfl ?_
  refine mx_S.pu (pc2 := 2) (lv2 := [(0, .ref a0), (1, .int a1), (2, .int a2), (3, .ref a3), (4, .int a4), (5, .int a5)]) (st2 := [.int a1, .int a2]) hm dX3_sameBytes_1 rfl ?_
  replace hf := xl_el hf; obtain ⟨v15, e_v15, hf⟩ := hf
  refine mx_S.pu (pc2 := 3) (lv2 := [(0, .ref a0), (1, .int a1), (2, .int a2), (3, .ref a3), (4, .int a4), (5, .int a5)]) (st2 := [.int v15]) hm dX3_sameBytes_2 (by rw [← e_v15]; rfl) ?_
  clear e_v15
  refine mx_S.pu (pc2 := 5) (lv2 := [(0, .ref a0), (1, .int a1), (2, .int a2), (3, .ref a3), (4, .int a4), (5, .int a5)]) (st2 := [.int a5, .int v15]) hm dX3_sameBytes_3 rfl ?_
  refine mx_S.pu (pc2 := 7) (lv2 := [(0, .ref a0), (1, .int a1), (2, .int a2), (3, .ref a3), (4, .int a4), (5, .int a5)]) (st2 := [.int a4, .int a5, .int v15]) hm dX3_sameBytes_5 rfl ?_
  replace hf := xl_el hf; obtain ⟨v16, e_v16, hf⟩ := hf
  refine mx_S.pu (pc2 := 8) (lv2 := [(0, .ref a0), (1, .int a1), (2, .int a2), (3, .ref a3), (4, .int a4), (5, .int a5)]) (st2 := [.int v16, .int v15]) hm dX3_sameBytes_7 (by rw [← e_v16]; rfl) ?_
  clear e_v16
  rcases mx_if_el hf with ⟨c23, hf⟩ | ⟨c23, hf⟩
  · refine sb_ic_ne hm dX3_sameBytes_8 (tgt := 41) rfl (fun _ => ?_) (fun z => absurd c23 z)
    refine mx_S.ext [(0, .ref a0), (1, .int a1), (2, .int a2), (3, .ref a3), (4, .int a4)] (mx_sub_pos [0, 1, 2, 3, 4] rfl (show ([0, 1, 2, 3, 4, 5] : List Nat).Nodup by decide)) ?_
    exact j_X3_sameBytes_41_ok X hF hL nn a0 a1 a2 a3 a4 h hf
  · refine sb_ic_ne hm dX3_sameBytes_8 (tgt := 41) rfl (fun z => absurd z c23) (fun _ => ?_)
    refine mx_S.pu (pc2 := 12) (lv2 := [(0, .ref a0), (1, .int a1), (2, .int a2), (3, .ref a3), (4, .int a4), (5, .int a5)]) (st2 := [.int a1]) hm dX3_sameBytes_11 rfl ?_
    rcases mx_if_el hf with ⟨c22, hf⟩ | ⟨c22, hf⟩
    · refine sb_if_lt hm dX3_sameBytes_12 (tgt := 41) rfl (fun _ => ?_) (fun z => absurd c22 z)
      refine mx_S.ext [(0, .ref a0), (1, .int a1), (2, .int a2), (3, .ref a3), (4, .int a4)] (mx_sub_pos [0, 1, 2, 3, 4] rfl (show ([0, 1, 2, 3, 4, 5] : List Nat).Nodup by decide)) ?_
      exact j_X3_sameBytes_41_ok X hF hL nn a0 a1 a2 a3 a4 h hf
    · refine sb_if_lt hm dX3_sameBytes_12 (tgt := 41) rfl (fun z => absurd z c22) (fun _ => ?_)
      refine mx_S.pu (pc2 := 16) (lv2 := [(0, .ref a0), (1, .int a1), (2, .int a2), (3, .ref a3), (4, .int a4), (5, .int a5)]) (st2 := [.int a2]) hm dX3_sameBytes_15 rfl ?_
      refine mx_S.pu (pc2 := 17) (lv2 := [(0, .ref a0), (1, .int a1), (2, .int a2), (3, .ref a3), (4, .int a4), (5, .int a5)]) (st2 := [.ref a0, .int a2]) hm dX3_sameBytes_16 rfl ?_
      replace hf := mx_sv_el hf; obtain ⟨v17, e_v17, hf⟩ := hf
      refine sx_get hm dX3_sameBytes_17 rs_RX3_39 (xgi_el e_v17) ?_
      clear e_v17
      rcases mx_if_el hf with ⟨c21, hf⟩ | ⟨c21, hf⟩
      · refine sb_ic_gt hm dX3_sameBytes_20 (tgt := 41) rfl (fun _ => ?_) (fun z => absurd c21 z)
        refine mx_S.ext [(0, .ref a0), (1, .int a1), (2, .int a2), (3, .ref a3), (4, .int a4)] (mx_sub_pos [0, 1, 2, 3, 4] rfl (show ([0, 1, 2, 3, 4, 5] : List Nat).Nodup by decide)) ?_
        exact j_X3_sameBytes_41_ok X hF hL nn a0 a1 a2 a3 a4 h hf
      · refine sb_ic_gt hm dX3_sameBytes_20 (tgt := 41) rfl (fun z => absurd z c21) (fun _ => ?_)
        refine mx_S.pu (pc2 := 25) (lv2 := [(0, .ref a0), (1, .int a1), (2, .int a2), (3, .ref a3), (4, .int a4), (5, .int a5)]) (st2 := [.int a4]) hm dX3_sameBytes_23 rfl ?_
        rcases mx_if_el hf with ⟨c20, hf⟩ | ⟨c20, hf⟩
        · refine sb_if_lt hm dX3_sameBytes_25 (tgt := 41) rfl (fun _ => ?_) (fun z => absurd c20 z)
          refine mx_S.ext [(0, .ref a0), (1, .int a1), (2, .int a2), (3, .ref a3), (4, .int a4)] (mx_sub_pos [0, 1, 2, 3, 4] rfl (show ([0, 1, 2, 3, 4, 5] : List Nat).Nodup by decide)) ?_
          exact j_X3_sameBytes_41_ok X hF hL nn a0 a1 a2 a3 a4 h hf
        · refine sb_if_lt hm dX3_sameBytes_25 (tgt := 41) rfl (fun z => absurd z c20) (fun _ => ?_)
          refine mx_S.pu (pc2 := 30) (lv2 := [(0, .ref a0), (1, .int a1), (2, .int a2), (3, .ref a3), (4, .int a4), (5, .int a5)]) (st2 := [.int a5]) hm dX3_sameBytes_28 rfl ?_
          refine mx_S.pu (pc2 := 31) (lv2 := [(0, .ref a0), (1, .int a1), (2, .int a2), (3, .ref a3), (4, .int a4), (5, .int a5)]) (st2 := [.ref a3, .int a5]) hm dX3_sameBytes_30 rfl ?_
          replace hf := mx_sv_el hf; obtain ⟨v18, e_v18, hf⟩ := hf
          refine sx_get hm dX3_sameBytes_31 rs_RX3_39 (xgi_el e_v18) ?_
          clear e_v18
          rcases mx_if_el hf with ⟨c19, hf⟩ | ⟨c19, hf⟩
          · refine sb_ic_gt hm dX3_sameBytes_34 (tgt := 41) rfl (fun _ => ?_) (fun z => absurd c19 z)
            refine mx_S.ext [(0, .ref a0), (1, .int a1), (2, .int a2), (3, .ref a3), (4, .int a4)] (mx_sub_pos [0, 1, 2, 3, 4] rfl (show ([0, 1, 2, 3, 4, 5] : List Nat).Nodup by decide)) ?_
            exact j_X3_sameBytes_41_ok X hF hL nn a0 a1 a2 a3 a4 h hf
          · refine sb_ic_gt hm dX3_sameBytes_34 (tgt := 41) rfl (fun z => absurd z c19) (fun _ => ?_)
            refine sx_ic (v := 1) hm dX3_sameBytes_37 (by decide) ?_
            refine mx_S.pu (pc2 := 42) (lv2 := [(0, .ref a0), (1, .int a1), (2, .int a2), (3, .ref a3), (4, .int a4), (5, .int a5)]) (st2 := [.int 1]) hm dX3_sameBytes_38 rfl ?_
            refine mx_S.pu (pc2 := 44) (lv2 := [(6, .int 1), (0, .ref a0), (1, .int a1), (2, .int a2), (3, .ref a3), (4, .int a4), (5, .int a5)]) (st2 := []) hm dX3_sameBytes_42 rfl ?_
            refine sx_ic (v := 0) hm dX3_sameBytes_44 (by decide) ?_
            refine mx_S.pu (pc2 := 47) (lv2 := [(7, .int 0), (6, .int 1), (0, .ref a0), (1, .int a1), (2, .int a2), (3, .ref a3), (4, .int a4), (5, .int a5)]) (st2 := []) hm dX3_sameBytes_45 rfl ?_
            refine mx_S.ext [(0, .ref a0), (1, .int a1), (2, .int a2), (3, .ref a3), (4, .int a4), (6, .int 1), (7, .int 0)] (mx_sub_pos [2, 3, 4, 5, 6, 1, 0] rfl (show ([7, 6, 0, 1, 2, 3, 4, 5] : List Nat).Nodup by decide)) ?_
            exact w_X3_sameBytes_47_ok X hF hL nn nn a0 a1 a2 a3 a4 1 0 h _ hf
set_option maxHeartbeats 4000000 in
set_option maxRecDepth 20000 in
theorem w_X7_classOf_3_ok (X : Nat × (Nat → Int32)) {F L : Nat} (hF : 5 ≤ F) (hL : 112 ≤ L) (nn : Nat) : ∀ (k : Nat) (l0 : Nat) (l1 : Nat) (l2 : Int32) (l3 : Int32) (l4 : Int32) (h : mx_H) (r : (Int32 × mx_H)), w_X7_classOf_3 nn k l0 l1 l2 l3 l4 h = some r → mx_S X F L 204 3 [(0, .ref l0), (1, .ref l1), (2, .int l2), (3, .int l3), (4, .int l4)] [] h 0 0 (some (.int r.1), r.2, 0, 0) := by
  have hm : mx_mt 204 = some (yX7_classOf, cX7_classOf, 6, (some .int)) := mt_X7_classOf
  intro k
  induction k with
  | zero => intro l0 l1 l2 l3 l4 h r hf; cases hf
  | succ k ih =>
    intro l0 l1 l2 l3 l4 h r hf
    unfold w_X7_classOf_3 at hf
    refine mx_S.pu (pc2 := 5) (lv2 := [(0, .ref l0), (1, .ref l1), (2, .int l2), (3, .int l3), (4, .int l4)]) (st2 := [.int l4]) hm dX7_classOf_3 rfl ?_
    refine mx_S.pu (pc2 := 6) (lv2 := [(0, .ref l0), (1, .ref l1), (2, .int l2), (3, .int l3), (4, .int l4)]) (st2 := [.ref l0, .int l4]) hm dX7_classOf_5 rfl ?_
    replace hf := mx_sv_el hf; obtain ⟨v1, e_v1, hf⟩ := hf
    refine sx_get hm dX7_classOf_6 rs_RX7_41 (xgi_el e_v1) ?_
    clear e_v1
    rcases mx_if_el hf with ⟨c26, hf⟩ | ⟨c26, hf⟩
    · refine sb_ic_ge hm dX7_classOf_9 (tgt := 76) rfl (fun _ => ?_) (fun z => absurd c26 z)
      refine mx_S.pu (pc2 := 77) (lv2 := [(0, .ref l0), (1, .ref l1), (2, .int l2), (3, .int l3), (4, .int l4)]) (st2 := [.ref l1]) hm dX7_classOf_76 rfl ?_
      refine mx_S.pu (pc2 := 78) (lv2 := [(0, .ref l0), (1, .ref l1), (2, .int l2), (3, .int l3), (4, .int l4)]) (st2 := [.int l2, .ref l1]) hm dX7_classOf_77 rfl ?_
      refine mx_S.pu (pc2 := 79) (lv2 := [(0, .ref l0), (1, .ref l1), (2, .int l2), (3, .int l3), (4, .int l4)]) (st2 := [.int l3, .int l2, .ref l1]) hm dX7_classOf_78 rfl ?_
      replace hf := mx_gd_el hf; obtain ⟨c2, hf⟩ := hf
      replace hf := mx_sv_el hf; obtain ⟨u3, e_u3, hf⟩ := hf
      refine sx_cv hm dX7_classOf_79 rs_RX7_105 mt_X3_builtIn [.int l2, .int l3] [] (b := l1) (ci := 3) rfl rfl rfl c2 (Nat.le_of_ble_eq_true rfl) (Nat.le_of_ble_eq_true rfl) (by omega) (by omega) (f_X3_builtIn_ok X (by omega) (by omega) nn l1 l2 l3 h e_u3) ?_
      clear e_u3
      show mx_S X F L 204 82 [(0, .ref l0), (1, .ref l1), (2, .int l2), (3, .int l3), (4, .int l4)] [.int u3.1] u3.2 0 0 (some (.int r.1), r.2, 0, 0)
      cases hf
      exact sx_ire hm dX7_classOf_82 rfl rfl
    · refine sb_ic_ge hm dX7_classOf_9 (tgt := 76) rfl (fun z => absurd z c26) (fun _ => ?_)
      refine mx_S.pu (pc2 := 13) (lv2 := [(0, .ref l0), (1, .ref l1), (2, .int l2), (3, .int l3), (4, .int l4)]) (st2 := [.ref l0]) hm dX7_classOf_12 rfl ?_
      replace hf := mx_sv_el hf; obtain ⟨v4, e_v4, hf⟩ := hf
      refine sx_get hm dX7_classOf_13 rs_RX7_22 (xgr_el e_v4) ?_
      clear e_v4
      refine mx_S.pu (pc2 := 18) (lv2 := [(0, .ref l0), (1, .ref l1), (2, .int l2), (3, .int l3), (4, .int l4)]) (st2 := [.int l4, .ref v4]) hm dX7_classOf_16 rfl ?_
      replace hf := mx_sv_el hf; obtain ⟨v5, e_v5, hf⟩ := hf
      refine sx_qld hm dX7_classOf_18 e_v5 ?_
      clear e_v5
      replace hf := mx_sv_el hf; obtain ⟨b6, e_b6, hf⟩ := hf
      rw [show va_rf v5 = Value.ref b6 by rw [e_b6]; rfl]
      clear e_b6
      replace hf := mx_sv_el hf; obtain ⟨v7, e_v7, hf⟩ := hf
      refine sx_get hm dX7_classOf_19 rs_RX7_56 (xgi_el e_v7) ?_
      clear e_v7
      refine mx_S.pu (pc2 := 24) (lv2 := [(5, .int v7), (0, .ref l0), (1, .ref l1), (2, .int l2), (3, .int l3), (4, .int l4)]) (st2 := []) hm dX7_classOf_22 rfl ?_
      refine mx_S.pu (pc2 := 25) (lv2 := [(5, .int v7), (0, .ref l0), (1, .ref l1), (2, .int l2), (3, .int l3), (4, .int l4)]) (st2 := [.ref l0]) hm dX7_classOf_24 rfl ?_
      replace hf := mx_sv_el hf; obtain ⟨v8, e_v8, hf⟩ := hf
      refine sx_get hm dX7_classOf_25 rs_RX7_22 (xgr_el e_v8) ?_
      clear e_v8
      refine mx_S.pu (pc2 := 30) (lv2 := [(5, .int v7), (0, .ref l0), (1, .ref l1), (2, .int l2), (3, .int l3), (4, .int l4)]) (st2 := [.int l4, .ref v8]) hm dX7_classOf_28 rfl ?_
      replace hf := mx_sv_el hf; obtain ⟨v9, e_v9, hf⟩ := hf
      refine sx_qld hm dX7_classOf_30 e_v9 ?_
      clear e_v9
      refine mx_S.pu (pc2 := 32) (lv2 := [(5, .int v7), (0, .ref l0), (1, .ref l1), (2, .int l2), (3, .int l3), (4, .int l4)]) (st2 := [.ref l0, va_rf v9]) hm dX7_classOf_31 rfl ?_
      replace hf := mx_sv_el hf; obtain ⟨v10, e_v10, hf⟩ := hf
      refine sx_get hm dX7_classOf_32 rs_RX7_22 (xgr_el e_v10) ?_
      clear e_v10
      refine mx_S.pu (pc2 := 37) (lv2 := [(5, .int v7), (0, .ref l0), (1, .ref l1), (2, .int l2), (3, .int l3), (4, .int l4)]) (st2 := [.int l4, .ref v10, va_rf v9]) hm dX7_classOf_35 rfl ?_
      replace hf := mx_sv_el hf; obtain ⟨v11, e_v11, hf⟩ := hf
      refine sx_qld hm dX7_classOf_37 e_v11 ?_
      clear e_v11
      refine mx_S.pu (pc2 := 40) (lv2 := [(5, .int v7), (0, .ref l0), (1, .ref l1), (2, .int l2), (3, .int l3), (4, .int l4)]) (st2 := [.int v7, va_rf v11, va_rf v9]) hm dX7_classOf_38 rfl ?_
      replace hf := mx_sv_el hf; obtain ⟨b12, e_b12, hf⟩ := hf
      rw [show va_rf v11 = Value.ref b12 by rw [e_b12]; rfl]
      clear e_b12
      replace hf := mx_gd_el hf; obtain ⟨c13, hf⟩ := hf
      replace hf := mx_sv_el hf; obtain ⟨u14, e_u14, hf⟩ := hf
      refine sx_cv hm dX7_classOf_40 rs_RX7_59 mt_X3_textAt [.int v7] [va_rf v9] (b := b12) (ci := 3) rfl rfl rfl c13 (by generalize v9 = zo0; cases zo0 <;> exact Nat.le_of_ble_eq_true rfl) (Nat.le_of_ble_eq_true rfl) (by omega) (by omega) (f_X3_textAt_ok X (by omega) (by omega) nn b12 v7 h e_u14) ?_
      clear e_u14
      show mx_S X F L 204 43 [(5, .int v7), (0, .ref l0), (1, .ref l1), (2, .int l2), (3, .int l3), (4, .int l4)] [.int u14.1, va_rf v9] u14.2 0 0 (some (.int r.1), r.2, 0, 0)
      refine mx_S.pu (pc2 := 44) (lv2 := [(5, .int v7), (0, .ref l0), (1, .ref l1), (2, .int l2), (3, .int l3), (4, .int l4)]) (st2 := [.ref l0, .int u14.1, va_rf v9]) hm dX7_classOf_43 rfl ?_
      replace hf := mx_sv_el hf; obtain ⟨v15, e_v15, hf⟩ := hf
      refine sx_get hm dX7_classOf_44 rs_RX7_22 (xgr_el e_v15) ?_
      clear e_v15
      refine mx_S.pu (pc2 := 49) (lv2 := [(5, .int v7), (0, .ref l0), (1, .ref l1), (2, .int l2), (3, .int l3), (4, .int l4)]) (st2 := [.int l4, .ref v15, .int u14.1, va_rf v9]) hm dX7_classOf_47 rfl ?_
      replace hf := mx_sv_el hf; obtain ⟨v16, e_v16, hf⟩ := hf
      refine sx_qld hm dX7_classOf_49 e_v16 ?_
      clear e_v16
      refine mx_S.pu (pc2 := 52) (lv2 := [(5, .int v7), (0, .ref l0), (1, .ref l1), (2, .int l2), (3, .int l3), (4, .int l4)]) (st2 := [.int v7, va_rf v16, .int u14.1, va_rf v9]) hm dX7_classOf_50 rfl ?_
      replace hf := mx_sv_el hf; obtain ⟨b17, e_b17, hf⟩ := hf
      rw [show va_rf v16 = Value.ref b17 by rw [e_b17]; rfl]
      clear e_b17
      replace hf := mx_gd_el hf; obtain ⟨c18, hf⟩ := hf
      replace hf := mx_sv_el hf; obtain ⟨u19, e_u19, hf⟩ := hf
      refine sx_cv hm dX7_classOf_52 rs_RX7_63 mt_X3_textEnd [.int v7] [.int u14.1, va_rf v9] (b := b17) (ci := 3) rfl rfl rfl c18 (by generalize v9 = zo0; cases zo0 <;> exact Nat.le_of_ble_eq_true rfl) (Nat.le_of_ble_eq_true rfl) (by omega) (by omega) (f_X3_textEnd_ok X (by omega) (by omega) nn b17 v7 u14.2 e_u19) ?_
      clear e_u19
      show mx_S X F L 204 55 [(5, .int v7), (0, .ref l0), (1, .ref l1), (2, .int l2), (3, .int l3), (4, .int l4)] [.int u19.1, .int u14.1, va_rf v9] u19.2 0 0 (some (.int r.1), r.2, 0, 0)
      refine mx_S.pu (pc2 := 56) (lv2 := [(5, .int v7), (0, .ref l0), (1, .ref l1), (2, .int l2), (3, .int l3), (4, .int l4)]) (st2 := [.ref l1, .int u19.1, .int u14.1, va_rf v9]) hm dX7_classOf_55 rfl ?_
      refine mx_S.pu (pc2 := 57) (lv2 := [(5, .int v7), (0, .ref l0), (1, .ref l1), (2, .int l2), (3, .int l3), (4, .int l4)]) (st2 := [.int l2, .ref l1, .int u19.1, .int u14.1, va_rf v9]) hm dX7_classOf_56 rfl ?_
      refine mx_S.pu (pc2 := 58) (lv2 := [(5, .int v7), (0, .ref l0), (1, .ref l1), (2, .int l2), (3, .int l3), (4, .int l4)]) (st2 := [.int l3, .int l2, .ref l1, .int u19.1, .int u14.1, va_rf v9]) hm dX7_classOf_57 rfl ?_
      replace hf := mx_sv_el hf; obtain ⟨b20, e_b20, hf⟩ := hf
      rw [show va_rf v9 = Value.ref b20 by rw [e_b20]; rfl]
      clear e_b20
      replace hf := mx_gd_el hf; obtain ⟨c21, hf⟩ := hf
      replace hf := mx_sv_el hf; obtain ⟨u22, e_u22, hf⟩ := hf
      refine sx_cv hm dX7_classOf_58 rs_RX7_113 mt_X3_sameBytes [.int u14.1, .int u19.1, .ref l1, .int l2, .int l3] [] (b := b20) (ci := 3) rfl rfl rfl c21 (Nat.le_of_ble_eq_true rfl) (Nat.le_of_ble_eq_true rfl) (by omega) (by omega) (f_X3_sameBytes_ok X (by omega) (by omega) nn b20 u14.1 u19.1 l1 l2 l3 u19.2 e_u22) ?_
      clear e_u22
      show mx_S X F L 204 61 [(5, .int v7), (0, .ref l0), (1, .ref l1), (2, .int l2), (3, .int l3), (4, .int l4)] [.int u22.1] u22.2 0 0 (some (.int r.1), r.2, 0, 0)
      rcases mx_if_el hf with ⟨c25, hf⟩ | ⟨c25, hf⟩
      · refine sb_if_eq hm dX7_classOf_61 (tgt := 70) rfl (fun _ => ?_) (fun z => absurd c25 z)
        replace hf := xl_el hf; obtain ⟨v23, e_v23, hf⟩ := hf
        refine mx_S.pu (pc2 := 73) (lv2 := [(4, .int v23), (5, .int v7), (0, .ref l0), (1, .ref l1), (2, .int l2), (3, .int l3)]) (st2 := []) hm dX7_classOf_70 (by rw [← e_v23]; rfl) ?_
        clear e_v23
        refine mx_S.pu (pc2 := 3) (lv2 := [(4, .int v23), (5, .int v7), (0, .ref l0), (1, .ref l1), (2, .int l2), (3, .int l3)]) (st2 := []) hm dX7_classOf_73 rfl ?_
        refine mx_S.ext [(0, .ref l0), (1, .ref l1), (2, .int l2), (3, .int l3), (4, .int v23)] (mx_sub_pos [2, 3, 4, 5, 0] rfl (show ([4, 5, 0, 1, 2, 3] : List Nat).Nodup by decide)) ?_
        exact ih l0 l1 l2 l3 v23 u22.2 _ hf
      · refine sb_if_eq hm dX7_classOf_61 (tgt := 70) rfl (fun z => absurd z c25) (fun _ => ?_)
        refine sx_bi (v := 8) hm dX7_classOf_64 (by decide) ?_
        refine mx_S.pu (pc2 := 68) (lv2 := [(5, .int v7), (0, .ref l0), (1, .ref l1), (2, .int l2), (3, .int l3), (4, .int l4)]) (st2 := [.int l4, .int 8]) hm dX7_classOf_66 rfl ?_
        replace hf := xl_el hf; obtain ⟨v24, e_v24, hf⟩ := hf
        refine mx_S.pu (pc2 := 69) (lv2 := [(5, .int v7), (0, .ref l0), (1, .ref l1), (2, .int l2), (3, .int l3), (4, .int l4)]) (st2 := [.int v24]) hm dX7_classOf_68 (by rw [← e_v24]; rfl) ?_
        clear e_v24
        cases hf
        exact sx_ire hm dX7_classOf_69 rfl rfl
set_option maxHeartbeats 4000000 in
set_option maxRecDepth 20000 in
theorem f_X7_classOf_ok (X : Nat × (Nat → Int32)) {F L : Nat} (hF : 5 ≤ F) (hL : 112 ≤ L) (nn : Nat) (a0 : Nat) (a1 : Nat) (a2 : Int32) (a3 : Int32) (h : mx_H) {r : (Int32 × mx_H)} (hf : f_X7_classOf nn a0 a1 a2 a3 h = some r) : mx_R X F L 204 [.ref a0, .ref a1, .int a2, .int a3] h (some (.int r.1), r.2, 0, 0) := by
  have hm : mx_mt 204 = some (yX7_classOf, cX7_classOf, 6, (some .int)) := mt_X7_classOf
  show mx_S X F L 204 0 [(0, .ref a0), (1, .ref a1), (2, .int a2), (3, .int a3)] [] h 0 0 (some (.int r.1), r.2, 0, 0)
  unfold f_X7_classOf at hf
  refine sx_ic (v := 0) hm dX7_classOf_0 (by decide) ?_
  refine mx_S.pu (pc2 := 3) (lv2 := [(4, .int 0), (0, .ref a0), (1, .ref a1), (2, .int a2), (3, .int a3)]) (st2 := []) hm dX7_classOf_1 rfl ?_
  refine mx_S.ext [(0, .ref a0), (1, .ref a1), (2, .int a2), (3, .int a3), (4, .int 0)] (mx_sub_pos [1, 2, 3, 4, 0] rfl (show ([4, 0, 1, 2, 3] : List Nat).Nodup by decide)) ?_
  exact w_X7_classOf_3_ok X hF hL nn nn a0 a1 a2 a3 0 h _ hf
set_option maxHeartbeats 4000000 in
set_option maxRecDepth 20000 in
theorem w_X7_relate_14_ok (X : Nat × (Nat → Int32)) {F L : Nat} (hF : 6 ≤ F) (hL : 137 ≤ L) (nn : Nat) : ∀ (k : Nat) (l0 : Nat) (l1 : Int32) (h : mx_H) (r : mx_H), w_X7_relate_14 nn k l0 l1 h = some r → mx_S X F L 201 14 [(0, .ref l0), (1, .int l1)] [] h 0 0 (none, r, 0, 0) := by
  have hm : mx_mt 201 = some (yX7_relate, cX7_relate, 3, none) := mt_X7_relate
  intro k
  induction k with
  | zero => intro l0 l1 h r hf; cases hf
  | succ k ih =>
    intro l0 l1 h r hf
    unfold w_X7_relate_14 at hf
    refine mx_S.pu (pc2 := 15) (lv2 := [(0, .ref l0), (1, .int l1)]) (st2 := [.int l1]) hm dX7_relate_14 rfl ?_
    refine mx_S.pu (pc2 := 16) (lv2 := [(0, .ref l0), (1, .int l1)]) (st2 := [.ref l0, .int l1]) hm dX7_relate_15 rfl ?_
    replace hf := mx_sv_el hf; obtain ⟨v1, e_v1, hf⟩ := hf
    refine sx_get hm dX7_relate_16 rs_RX7_41 (xgi_el e_v1) ?_
    clear e_v1
    rcases mx_if_el hf with ⟨c29, hf⟩ | ⟨c29, hf⟩
    · refine sb_ic_ge hm dX7_relate_19 (tgt := 79) rfl (fun _ => ?_) (fun z => absurd c29 z)
      refine mx_S.pu (pc2 := 80) (lv2 := [(0, .ref l0), (1, .int l1)]) (st2 := [.ref l0]) hm dX7_relate_79 rfl ?_
      replace hf := mx_sv_el hf; obtain ⟨v2, e_v2, hf⟩ := hf
      refine sx_get hm dX7_relate_80 rs_RX7_16 (xgr_el e_v2) ?_
      clear e_v2
      replace hf := mx_gd_el hf; obtain ⟨c3, hf⟩ := hf
      replace hf := mx_sv_el hf; obtain ⟨u4, e_u4, hf⟩ := hf
      refine sx_cv hm dX7_relate_83 rs_RX7_87 mt_X4_settle [] [] (b := v2) (ci := 4) rfl rfl rfl c3 (Nat.le_of_ble_eq_true rfl) (Nat.le_of_ble_eq_true rfl) (by omega) (by omega) (f_X4_settle_ok X (by omega) (by omega) nn v2 h e_u4) ?_
      clear e_u4
      show mx_S X F L 201 86 [(0, .ref l0), (1, .int l1)] [] u4 0 0 (none, r, 0, 0)
      cases hf
      exact sx_ret hm dX7_relate_86 rfl
    · refine sb_ic_ge hm dX7_relate_19 (tgt := 79) rfl (fun z => absurd z c29) (fun _ => ?_)
      refine mx_S.pu (pc2 := 23) (lv2 := [(0, .ref l0), (1, .int l1)]) (st2 := [.ref l0]) hm dX7_relate_22 rfl ?_
      replace hf := mx_sv_el hf; obtain ⟨v5, e_v5, hf⟩ := hf
      refine sx_get hm dX7_relate_23 rs_RX7_22 (xgr_el e_v5) ?_
      clear e_v5
      refine mx_S.pu (pc2 := 27) (lv2 := [(0, .ref l0), (1, .int l1)]) (st2 := [.int l1, .ref v5]) hm dX7_relate_26 rfl ?_
      replace hf := mx_sv_el hf; obtain ⟨v6, e_v6, hf⟩ := hf
      refine sx_qld hm dX7_relate_27 e_v6 ?_
      clear e_v6
      replace hf := mx_sv_el hf; obtain ⟨b7, e_b7, hf⟩ := hf
      rw [show va_rf v6 = Value.ref b7 by rw [e_b7]; rfl]
      clear e_b7
      replace hf := mx_sv_el hf; obtain ⟨v8, e_v8, hf⟩ := hf
      refine sx_get hm dX7_relate_28 rs_RX7_80 (xgi_el e_v8) ?_
      clear e_v8
      refine mx_S.pu (pc2 := 32) (lv2 := [(2, .int v8), (0, .ref l0), (1, .int l1)]) (st2 := []) hm dX7_relate_31 rfl ?_
      refine mx_S.pu (pc2 := 33) (lv2 := [(2, .int v8), (0, .ref l0), (1, .int l1)]) (st2 := [.ref l0]) hm dX7_relate_32 rfl ?_
      replace hf := mx_sv_el hf; obtain ⟨v9, e_v9, hf⟩ := hf
      refine sx_get hm dX7_relate_33 rs_RX7_16 (xgr_el e_v9) ?_
      clear e_v9
      refine sx_bi (v := 8) hm dX7_relate_36 (by decide) ?_
      refine mx_S.pu (pc2 := 39) (lv2 := [(2, .int v8), (0, .ref l0), (1, .int l1)]) (st2 := [.int l1, .int 8, .ref v9]) hm dX7_relate_38 rfl ?_
      replace hf := xl_el hf; obtain ⟨v10, e_v10, hf⟩ := hf
      refine mx_S.pu (pc2 := 40) (lv2 := [(2, .int v8), (0, .ref l0), (1, .int l1)]) (st2 := [.int v10, .ref v9]) hm dX7_relate_39 (by rw [← e_v10]; rfl) ?_
      clear e_v10
      refine mx_S.pu (pc2 := 41) (lv2 := [(2, .int v8), (0, .ref l0), (1, .int l1)]) (st2 := [.ref l0, .int v10, .ref v9]) hm dX7_relate_40 rfl ?_
      refine mx_S.pu (pc2 := 42) (lv2 := [(2, .int v8), (0, .ref l0), (1, .int l1)]) (st2 := [.ref l0, .ref l0, .int v10, .ref v9]) hm dX7_relate_41 rfl ?_
      replace hf := mx_sv_el hf; obtain ⟨v11, e_v11, hf⟩ := hf
      refine sx_get hm dX7_relate_42 rs_RX7_22 (xgr_el e_v11) ?_
      clear e_v11
      refine mx_S.pu (pc2 := 46) (lv2 := [(2, .int v8), (0, .ref l0), (1, .int l1)]) (st2 := [.int l1, .ref v11, .ref l0, .int v10, .ref v9]) hm dX7_relate_45 rfl ?_
      replace hf := mx_sv_el hf; obtain ⟨v12, e_v12, hf⟩ := hf
      refine sx_qld hm dX7_relate_46 e_v12 ?_
      clear e_v12
      refine mx_S.pu (pc2 := 48) (lv2 := [(2, .int v8), (0, .ref l0), (1, .int l1)]) (st2 := [.ref l0, va_rf v12, .ref l0, .int v10, .ref v9]) hm dX7_relate_47 rfl ?_
      replace hf := mx_sv_el hf; obtain ⟨v13, e_v13, hf⟩ := hf
      refine sx_get hm dX7_relate_48 rs_RX7_22 (xgr_el e_v13) ?_
      clear e_v13
      refine mx_S.pu (pc2 := 52) (lv2 := [(2, .int v8), (0, .ref l0), (1, .int l1)]) (st2 := [.int l1, .ref v13, va_rf v12, .ref l0, .int v10, .ref v9]) hm dX7_relate_51 rfl ?_
      replace hf := mx_sv_el hf; obtain ⟨v14, e_v14, hf⟩ := hf
      refine sx_qld hm dX7_relate_52 e_v14 ?_
      clear e_v14
      refine mx_S.pu (pc2 := 54) (lv2 := [(2, .int v8), (0, .ref l0), (1, .int l1)]) (st2 := [.int v8, va_rf v14, va_rf v12, .ref l0, .int v10, .ref v9]) hm dX7_relate_53 rfl ?_
      replace hf := mx_sv_el hf; obtain ⟨b15, e_b15, hf⟩ := hf
      rw [show va_rf v14 = Value.ref b15 by rw [e_b15]; rfl]
      clear e_b15
      replace hf := mx_gd_el hf; obtain ⟨c16, hf⟩ := hf
      replace hf := mx_sv_el hf; obtain ⟨u17, e_u17, hf⟩ := hf
      refine sx_cv hm dX7_relate_54 rs_RX7_59 mt_X3_textAt [.int v8] [va_rf v12, .ref l0, .int v10, .ref v9] (b := b15) (ci := 3) rfl rfl rfl c16 (by generalize v12 = zo0; cases zo0 <;> exact Nat.le_of_ble_eq_true rfl) (Nat.le_of_ble_eq_true rfl) (by omega) (by omega) (f_X3_textAt_ok X (by omega) (by omega) nn b15 v8 h e_u17) ?_
      clear e_u17
      show mx_S X F L 201 57 [(2, .int v8), (0, .ref l0), (1, .int l1)] [.int u17.1, va_rf v12, .ref l0, .int v10, .ref v9] u17.2 0 0 (none, r, 0, 0)
      refine mx_S.pu (pc2 := 58) (lv2 := [(2, .int v8), (0, .ref l0), (1, .int l1)]) (st2 := [.ref l0, .int u17.1, va_rf v12, .ref l0, .int v10, .ref v9]) hm dX7_relate_57 rfl ?_
      replace hf := mx_sv_el hf; obtain ⟨v18, e_v18, hf⟩ := hf
      refine sx_get hm dX7_relate_58 rs_RX7_22 (xgr_el e_v18) ?_
      clear e_v18
      refine mx_S.pu (pc2 := 62) (lv2 := [(2, .int v8), (0, .ref l0), (1, .int l1)]) (st2 := [.int l1, .ref v18, .int u17.1, va_rf v12, .ref l0, .int v10, .ref v9]) hm dX7_relate_61 rfl ?_
      replace hf := mx_sv_el hf; obtain ⟨v19, e_v19, hf⟩ := hf
      refine sx_qld hm dX7_relate_62 e_v19 ?_
      clear e_v19
      refine mx_S.pu (pc2 := 64) (lv2 := [(2, .int v8), (0, .ref l0), (1, .int l1)]) (st2 := [.int v8, va_rf v19, .int u17.1, va_rf v12, .ref l0, .int v10, .ref v9]) hm dX7_relate_63 rfl ?_
      replace hf := mx_sv_el hf; obtain ⟨b20, e_b20, hf⟩ := hf
      rw [show va_rf v19 = Value.ref b20 by rw [e_b20]; rfl]
      clear e_b20
      replace hf := mx_gd_el hf; obtain ⟨c21, hf⟩ := hf
      replace hf := mx_sv_el hf; obtain ⟨u22, e_u22, hf⟩ := hf
      refine sx_cv hm dX7_relate_64 rs_RX7_63 mt_X3_textEnd [.int v8] [.int u17.1, va_rf v12, .ref l0, .int v10, .ref v9] (b := b20) (ci := 3) rfl rfl rfl c21 (by generalize v12 = zo0; cases zo0 <;> exact Nat.le_of_ble_eq_true rfl) (Nat.le_of_ble_eq_true rfl) (by omega) (by omega) (f_X3_textEnd_ok X (by omega) (by omega) nn b20 v8 u17.2 e_u22) ?_
      clear e_u22
      show mx_S X F L 201 67 [(2, .int v8), (0, .ref l0), (1, .int l1)] [.int u22.1, .int u17.1, va_rf v12, .ref l0, .int v10, .ref v9] u22.2 0 0 (none, r, 0, 0)
      replace hf := mx_sv_el hf; obtain ⟨b23, e_b23, hf⟩ := hf
      rw [show va_rf v12 = Value.ref b23 by rw [e_b23]; rfl]
      clear e_b23
      replace hf := mx_gd_el hf; obtain ⟨c24, hf⟩ := hf
      replace hf := mx_sv_el hf; obtain ⟨u25, e_u25, hf⟩ := hf
      refine sx_cv hm dX7_relate_67 rs_RX7_66 mt_X7_classOf [.ref b23, .int u17.1, .int u22.1] [.int v10, .ref v9] (b := l0) (ci := 7) rfl rfl rfl c24 (Nat.le_of_ble_eq_true rfl) (Nat.le_of_ble_eq_true rfl) (by omega) (by omega) (f_X7_classOf_ok X (by omega) (by omega) nn l0 b23 u17.1 u22.1 u22.2 e_u25) ?_
      clear e_u25
      show mx_S X F L 201 70 [(2, .int v8), (0, .ref l0), (1, .int l1)] [.int u25.1, .int v10, .ref v9] u25.2 0 0 (none, r, 0, 0)
      replace hf := mx_gd_el hf; obtain ⟨c26, hf⟩ := hf
      replace hf := mx_sv_el hf; obtain ⟨u27, e_u27, hf⟩ := hf
      refine sx_cv hm dX7_relate_70 rs_RX7_83 mt_X4_setAbove [.int v10, .int u25.1] [] (b := v9) (ci := 4) rfl rfl rfl c26 (Nat.le_of_ble_eq_true rfl) (Nat.le_of_ble_eq_true rfl) (by omega) (by omega) (f_X4_setAbove_ok X (by omega) (by omega) nn v9 v10 u25.1 u25.2 e_u27) ?_
      clear e_u27
      show mx_S X F L 201 73 [(2, .int v8), (0, .ref l0), (1, .int l1)] [] u27 0 0 (none, r, 0, 0)
      replace hf := xl_el hf; obtain ⟨v28, e_v28, hf⟩ := hf
      refine mx_S.pu (pc2 := 76) (lv2 := [(1, .int v28), (2, .int v8), (0, .ref l0)]) (st2 := []) hm dX7_relate_73 (by rw [← e_v28]; rfl) ?_
      clear e_v28
      refine mx_S.pu (pc2 := 14) (lv2 := [(1, .int v28), (2, .int v8), (0, .ref l0)]) (st2 := []) hm dX7_relate_76 rfl ?_
      refine mx_S.ext [(0, .ref l0), (1, .int v28)] (mx_sub_pos [2, 0] rfl (show ([1, 2, 0] : List Nat).Nodup by decide)) ?_
      exact ih l0 v28 u27 _ hf
set_option maxHeartbeats 4000000 in
set_option maxRecDepth 20000 in
theorem f_X7_relate_ok (X : Nat × (Nat → Int32)) {F L : Nat} (hF : 6 ≤ F) (hL : 137 ≤ L) (nn : Nat) (a0 : Nat) (h : mx_H) {r : mx_H} (hf : f_X7_relate nn a0 h = some r) : mx_R X F L 201 [.ref a0] h (none, r, 0, 0) := by
  have hm : mx_mt 201 = some (yX7_relate, cX7_relate, 3, none) := mt_X7_relate
  show mx_S X F L 201 0 [(0, .ref a0)] [] h 0 0 (none, r, 0, 0)
  unfold f_X7_relate at hf
  refine mx_S.pu (pc2 := 1) (lv2 := [(0, .ref a0)]) (st2 := [.ref a0]) hm dX7_relate_0 rfl ?_
  refine sx_ic (v := 0) hm dX7_relate_1 (by decide) ?_
  replace hf := mx_sv_el hf; obtain ⟨h30, e_h30, hf⟩ := hf
  refine sx_put hm dX7_relate_2 rs_RX7_45 ft_7_4 ⟨by decide, by decide⟩ (fun z => by cases z) e_h30 ?_
  clear e_h30
  refine mx_S.pu (pc2 := 6) (lv2 := [(0, .ref a0)]) (st2 := [.ref a0]) hm dX7_relate_5 rfl ?_
  replace hf := mx_sv_el hf; obtain ⟨v31, e_v31, hf⟩ := hf
  refine sx_get hm dX7_relate_6 rs_RX7_16 (xgr_el e_v31) ?_
  clear e_v31
  replace hf := mx_gd_el hf; obtain ⟨c32, hf⟩ := hf
  replace hf := mx_sv_el hf; obtain ⟨u33, e_u33, hf⟩ := hf
  refine sx_cv hm dX7_relate_9 rs_RX7_49 mt_X4_forget [] [] (b := v31) (ci := 4) rfl rfl rfl c32 (Nat.le_of_ble_eq_true rfl) (Nat.le_of_ble_eq_true rfl) (by omega) (by omega) (f_X4_forget_ok X (by omega) (by omega) nn v31 h30 e_u33) ?_
  clear e_u33
  show mx_S X F L 201 12 [(0, .ref a0)] [] u33 0 0 (none, r, 0, 0)
  refine sx_ic (v := 0) hm dX7_relate_12 (by decide) ?_
  refine mx_S.pu (pc2 := 14) (lv2 := [(1, .int 0), (0, .ref a0)]) (st2 := []) hm dX7_relate_13 rfl ?_
  refine mx_S.ext [(0, .ref a0), (1, .int 0)] (mx_sub_pos [1, 0] rfl (show ([1, 0] : List Nat).Nodup by decide)) ?_
  exact w_X7_relate_14_ok X hF hL nn nn a0 0 u33 _ hf
set_option maxHeartbeats 4000000 in
set_option maxRecDepth 20000 in
theorem f_X7_swapSpare_ok (X : Nat × (Nat → Int32)) {F L : Nat} (hF : 0 ≤ F) (hL : 0 ≤ L) (nn : Nat) (a0 : Nat) (a1 : Int32) (h : mx_H) {r : mx_H} (hf : f_X7_swapSpare nn a0 a1 h = some r) : mx_R X F L 200 [.ref a0, .int a1] h (none, r, 0, 0) := by
  have hm : mx_mt 200 = some (yX7_swapSpare, cX7_swapSpare, 3, none) := mt_X7_swapSpare
  show mx_S X F L 200 0 [(0, .ref a0), (1, .int a1)] [] h 0 0 (none, r, 0, 0)
  unfold f_X7_swapSpare at hf
  refine mx_S.pu (pc2 := 1) (lv2 := [(0, .ref a0), (1, .int a1)]) (st2 := [.ref a0]) hm dX7_swapSpare_0 rfl ?_
  replace hf := mx_sv_el hf; obtain ⟨v1, e_v1, hf⟩ := hf
  refine sx_get hm dX7_swapSpare_1 rs_RX7_22 (xgr_el e_v1) ?_
  clear e_v1
  refine mx_S.pu (pc2 := 5) (lv2 := [(0, .ref a0), (1, .int a1)]) (st2 := [.int a1, .ref v1]) hm dX7_swapSpare_4 rfl ?_
  replace hf := mx_sv_el hf; obtain ⟨v2, e_v2, hf⟩ := hf
  refine sx_qld hm dX7_swapSpare_5 e_v2 ?_
  clear e_v2
  refine sx_son (lv2 := [(2, va_rf v2), (0, .ref a0), (1, .int a1)]) hm dX7_swapSpare_6 rfl rfl ?_
  refine mx_S.pu (pc2 := 8) (lv2 := [(2, va_rf v2), (0, .ref a0), (1, .int a1)]) (st2 := [.ref a0]) hm dX7_swapSpare_7 rfl ?_
  replace hf := mx_sv_el hf; obtain ⟨v3, e_v3, hf⟩ := hf
  refine sx_get hm dX7_swapSpare_8 rs_RX7_22 (xgr_el e_v3) ?_
  clear e_v3
  refine mx_S.pu (pc2 := 12) (lv2 := [(2, va_rf v2), (0, .ref a0), (1, .int a1)]) (st2 := [.int a1, .ref v3]) hm dX7_swapSpare_11 rfl ?_
  refine mx_S.pu (pc2 := 13) (lv2 := [(2, va_rf v2), (0, .ref a0), (1, .int a1)]) (st2 := [.ref a0, .int a1, .ref v3]) hm dX7_swapSpare_12 rfl ?_
  replace hf := mx_sv_el hf; obtain ⟨v4, e_v4, hf⟩ := hf
  refine sx_get hm dX7_swapSpare_13 rs_RX7_27 (xgr_el e_v4) ?_
  clear e_v4
  replace hf := mx_sv_el hf; obtain ⟨h5, e_h5, hf⟩ := hf
  refine sx_qst (x := (some v4)) hm dX7_swapSpare_16 e_h5 ?_
  clear e_h5
  refine mx_S.pu (pc2 := 18) (lv2 := [(2, va_rf v2), (0, .ref a0), (1, .int a1)]) (st2 := [.ref a0]) hm dX7_swapSpare_17 rfl ?_
  refine sx_aon hm dX7_swapSpare_18 rfl ?_
  replace hf := mx_sv_el hf; obtain ⟨h6, e_h6, hf⟩ := hf
  refine sx_put hm dX7_swapSpare_19 rs_RX7_27 ft_7_2 (xrf_ok rfl) (fun z => by cases z) e_h6 ?_
  clear e_h6
  cases hf
  exact sx_ret hm dX7_swapSpare_22 rfl
set_option maxHeartbeats 4000000 in
set_option maxRecDepth 20000 in
theorem f_X7_bring_ok (X : Nat × (Nat → Int32)) {F L : Nat} (hF : 7 ≤ F) (hL : 159 ≤ L) (nn : Nat) (a0 : Nat) (a1 : Nat) (a2 : Int32) (h : mx_H) {r : (Int32 × mx_H × Nat × Nat)} (hf : f_X7_bring nn a0 a1 a2 h = some r) : mx_R X F L 199 [.ref a0, .ref a1, .int a2] h (some (.int r.1), r.2.1, r.2.2.1, r.2.2.2) := by
  have hm : mx_mt 199 = some (yX7_bring, cX7_bring, 5, (some .int)) := mt_X7_bring
  show mx_S X F L 199 0 [(0, .ref a0), (1, .ref a1), (2, .int a2)] [] h 0 0 (some (.int r.1), r.2.1, r.2.2.1, r.2.2.2)
  unfold f_X7_bring at hf
  refine mx_S.pu (pc2 := 1) (lv2 := [(0, .ref a0), (1, .ref a1), (2, .int a2)]) (st2 := [.ref a0]) hm dX7_bring_0 rfl ?_
  replace hf := mx_sv_el hf; obtain ⟨v1, e_v1, hf⟩ := hf
  refine sx_get hm dX7_bring_1 rs_RX7_27 (xgr_el e_v1) ?_
  clear e_v1
  refine mx_S.pu (pc2 := 5) (lv2 := [(0, .ref a0), (1, .ref a1), (2, .int a2)]) (st2 := [.ref a1, .ref v1]) hm dX7_bring_4 rfl ?_
  refine mx_S.pu (pc2 := 6) (lv2 := [(0, .ref a0), (1, .ref a1), (2, .int a2)]) (st2 := [.int a2, .ref a1, .ref v1]) hm dX7_bring_5 rfl ?_
  replace hf := mx_gd_el hf; obtain ⟨c2, hf⟩ := hf
  replace hf := mx_sv_el hf; obtain ⟨u3, e_u3, hf⟩ := hf
  refine sx_cv hm dX7_bring_6 rs_RX7_52 mt_X3_read [.ref a1, .int a2] [] (b := v1) (ci := 3) rfl rfl rfl c2 (Nat.le_of_ble_eq_true rfl) (Nat.le_of_ble_eq_true rfl) (by omega) (by omega) (f_X3_read_ok X (by omega) (by omega) nn v1 a1 a2 h e_u3) ?_
  clear e_u3
  show mx_S X F L 199 9 [(0, .ref a0), (1, .ref a1), (2, .int a2)] [.int u3.1] u3.2 0 0 (some (.int r.1), r.2.1, r.2.2.1, r.2.2.2)
  refine mx_S.pu (pc2 := 10) (lv2 := [(3, .int u3.1), (0, .ref a0), (1, .ref a1), (2, .int a2)]) (st2 := []) hm dX7_bring_9 rfl ?_
  refine mx_S.pu (pc2 := 11) (lv2 := [(3, .int u3.1), (0, .ref a0), (1, .ref a1), (2, .int a2)]) (st2 := [.int u3.1]) hm dX7_bring_10 rfl ?_
  refine sx_ic (v := (-1)) hm dX7_bring_11 (by decide) ?_
  rcases mx_if_el hf with ⟨c33, hf⟩ | ⟨c33, hf⟩
  · refine sb_ic_eq hm dX7_bring_12 (tgt := 20) rfl (fun _ => ?_) (fun z => absurd c33 z)
    refine mx_S.pu (pc2 := 21) (lv2 := [(3, .int u3.1), (0, .ref a0), (1, .ref a1), (2, .int a2)]) (st2 := [.ref a0]) hm dX7_bring_20 rfl ?_
    replace hf := mx_sv_el hf; obtain ⟨v4, e_v4, hf⟩ := hf
    refine sx_get hm dX7_bring_21 rs_RX7_27 (xgr_el e_v4) ?_
    clear e_v4
    replace hf := mx_sv_el hf; obtain ⟨v5, e_v5, hf⟩ := hf
    refine sx_get hm dX7_bring_24 rs_RX7_56 (xgi_el e_v5) ?_
    clear e_v5
    refine mx_S.pu (pc2 := 29) (lv2 := [(4, .int v5), (3, .int u3.1), (0, .ref a0), (1, .ref a1), (2, .int a2)]) (st2 := []) hm dX7_bring_27 rfl ?_
    refine mx_S.pu (pc2 := 30) (lv2 := [(4, .int v5), (3, .int u3.1), (0, .ref a0), (1, .ref a1), (2, .int a2)]) (st2 := [.ref a0]) hm dX7_bring_29 rfl ?_
    replace hf := mx_sv_el hf; obtain ⟨v6, e_v6, hf⟩ := hf
    refine sx_get hm dX7_bring_30 rs_RX7_41 (xgi_el e_v6) ?_
    clear e_v6
    refine sx_bi (v := 8) hm dX7_bring_33 (by decide) ?_
    rcases mx_if_el hf with ⟨c31, hf⟩ | ⟨c31, hf⟩
    · refine sb_ic_ge hm dX7_bring_35 (tgt := 68) rfl (fun _ => ?_) (fun z => absurd c31 z)
      refine sx_ic (v := (-1)) hm dX7_bring_68 (by decide) ?_
      cases hf
      exact sx_ire hm dX7_bring_69 rfl rfl
    · refine sb_ic_ge hm dX7_bring_35 (tgt := 68) rfl (fun z => absurd z c31) (fun _ => ?_)
      refine mx_S.pu (pc2 := 39) (lv2 := [(4, .int v5), (3, .int u3.1), (0, .ref a0), (1, .ref a1), (2, .int a2)]) (st2 := [.ref a0]) hm dX7_bring_38 rfl ?_
      refine mx_S.pu (pc2 := 40) (lv2 := [(4, .int v5), (3, .int u3.1), (0, .ref a0), (1, .ref a1), (2, .int a2)]) (st2 := [.ref a0, .ref a0]) hm dX7_bring_39 rfl ?_
      replace hf := mx_sv_el hf; obtain ⟨v7, e_v7, hf⟩ := hf
      refine sx_get hm dX7_bring_40 rs_RX7_27 (xgr_el e_v7) ?_
      clear e_v7
      refine mx_S.pu (pc2 := 44) (lv2 := [(4, .int v5), (3, .int u3.1), (0, .ref a0), (1, .ref a1), (2, .int a2)]) (st2 := [.ref a0, .ref v7, .ref a0]) hm dX7_bring_43 rfl ?_
      replace hf := mx_sv_el hf; obtain ⟨v8, e_v8, hf⟩ := hf
      refine sx_get hm dX7_bring_44 rs_RX7_27 (xgr_el e_v8) ?_
      clear e_v8
      refine mx_S.pu (pc2 := 49) (lv2 := [(4, .int v5), (3, .int u3.1), (0, .ref a0), (1, .ref a1), (2, .int a2)]) (st2 := [.int v5, .ref v8, .ref v7, .ref a0]) hm dX7_bring_47 rfl ?_
      replace hf := mx_gd_el hf; obtain ⟨c9, hf⟩ := hf
      replace hf := mx_sv_el hf; obtain ⟨u10, e_u10, hf⟩ := hf
      refine sx_cv hm dX7_bring_49 rs_RX7_59 mt_X3_textAt [.int v5] [.ref v7, .ref a0] (b := v8) (ci := 3) rfl rfl rfl c9 (Nat.le_of_ble_eq_true rfl) (Nat.le_of_ble_eq_true rfl) (by omega) (by omega) (f_X3_textAt_ok X (by omega) (by omega) nn v8 v5 u3.2 e_u10) ?_
      clear e_u10
      show mx_S X F L 199 52 [(4, .int v5), (3, .int u3.1), (0, .ref a0), (1, .ref a1), (2, .int a2)] [.int u10.1, .ref v7, .ref a0] u10.2 0 0 (some (.int r.1), r.2.1, r.2.2.1, r.2.2.2)
      refine mx_S.pu (pc2 := 53) (lv2 := [(4, .int v5), (3, .int u3.1), (0, .ref a0), (1, .ref a1), (2, .int a2)]) (st2 := [.ref a0, .int u10.1, .ref v7, .ref a0]) hm dX7_bring_52 rfl ?_
      replace hf := mx_sv_el hf; obtain ⟨v11, e_v11, hf⟩ := hf
      refine sx_get hm dX7_bring_53 rs_RX7_27 (xgr_el e_v11) ?_
      clear e_v11
      refine mx_S.pu (pc2 := 58) (lv2 := [(4, .int v5), (3, .int u3.1), (0, .ref a0), (1, .ref a1), (2, .int a2)]) (st2 := [.int v5, .ref v11, .int u10.1, .ref v7, .ref a0]) hm dX7_bring_56 rfl ?_
      replace hf := mx_gd_el hf; obtain ⟨c12, hf⟩ := hf
      replace hf := mx_sv_el hf; obtain ⟨u13, e_u13, hf⟩ := hf
      refine sx_cv hm dX7_bring_58 rs_RX7_63 mt_X3_textEnd [.int v5] [.int u10.1, .ref v7, .ref a0] (b := v11) (ci := 3) rfl rfl rfl c12 (Nat.le_of_ble_eq_true rfl) (Nat.le_of_ble_eq_true rfl) (by omega) (by omega) (f_X3_textEnd_ok X (by omega) (by omega) nn v11 v5 u10.2 e_u13) ?_
      clear e_u13
      show mx_S X F L 199 61 [(4, .int v5), (3, .int u3.1), (0, .ref a0), (1, .ref a1), (2, .int a2)] [.int u13.1, .int u10.1, .ref v7, .ref a0] u13.2 0 0 (some (.int r.1), r.2.1, r.2.2.1, r.2.2.2)
      replace hf := mx_gd_el hf; obtain ⟨c14, hf⟩ := hf
      replace hf := mx_sv_el hf; obtain ⟨u15, e_u15, hf⟩ := hf
      refine sx_cv hm dX7_bring_61 rs_RX7_66 mt_X7_classOf [.ref v7, .int u10.1, .int u13.1] [] (b := a0) (ci := 7) rfl rfl rfl c14 (Nat.le_of_ble_eq_true rfl) (Nat.le_of_ble_eq_true rfl) (by omega) (by omega) (f_X7_classOf_ok X (by omega) (by omega) nn a0 v7 u10.1 u13.1 u13.2 e_u15) ?_
      clear e_u15
      show mx_S X F L 199 64 [(4, .int v5), (3, .int u3.1), (0, .ref a0), (1, .ref a1), (2, .int a2)] [.int u15.1] u15.2 0 0 (some (.int r.1), r.2.1, r.2.2.1, r.2.2.2)
      refine sx_ic (v := (-1)) hm dX7_bring_64 (by decide) ?_
      rcases mx_if_el hf with ⟨c30, hf⟩ | ⟨c30, hf⟩
      · refine sb_ic_eq hm dX7_bring_65 (tgt := 70) rfl (fun _ => ?_) (fun z => absurd c30 z)
        refine mx_S.pu (pc2 := 71) (lv2 := [(4, .int v5), (3, .int u3.1), (0, .ref a0), (1, .ref a1), (2, .int a2)]) (st2 := [.ref a0]) hm dX7_bring_70 rfl ?_
        replace hf := mx_sv_el hf; obtain ⟨v16, e_v16, hf⟩ := hf
        refine sx_get hm dX7_bring_71 rs_RX7_27 (xgr_el e_v16) ?_
        clear e_v16
        replace hf := mx_gd_el hf; obtain ⟨c17, hf⟩ := hf
        replace hf := mx_sv_el hf; obtain ⟨u18, e_u18, hf⟩ := hf
        refine sx_cvA hm dX7_bring_74 rs_RX7_70 mt_X3_keepOwn [] [] (b := v16) (ci := 3) rfl rfl rfl c17 (Nat.le_of_ble_eq_true rfl) (Nat.le_of_ble_eq_true rfl) (by omega) (by omega) (f_X3_keepOwn_ok X (by omega) (by omega) nn v16 u15.2 e_u18) ?_
        clear e_u18
        show mx_S X F L 199 77 [(4, .int v5), (3, .int u3.1), (0, .ref a0), (1, .ref a1), (2, .int a2)] [] u18.1 (0 + u18.2.1) (0 + u18.2.2) (some (.int r.1), r.2.1, r.2.2.1, r.2.2.2)
        refine mx_S.pu (pc2 := 78) (lv2 := [(4, .int v5), (3, .int u3.1), (0, .ref a0), (1, .ref a1), (2, .int a2)]) (st2 := [.ref a0]) hm dX7_bring_77 rfl ?_
        refine mx_S.pu (pc2 := 79) (lv2 := [(4, .int v5), (3, .int u3.1), (0, .ref a0), (1, .ref a1), (2, .int a2)]) (st2 := [.ref a0, .ref a0]) hm dX7_bring_78 rfl ?_
        replace hf := mx_sv_el hf; obtain ⟨v19, e_v19, hf⟩ := hf
        refine sx_get hm dX7_bring_79 rs_RX7_41 (xgi_el e_v19) ?_
        clear e_v19
        replace hf := mx_gd_el hf; obtain ⟨c20, hf⟩ := hf
        replace hf := mx_sv_el hf; obtain ⟨u21, e_u21, hf⟩ := hf
        refine sx_cv hm dX7_bring_82 rs_RX7_73 mt_X7_swapSpare [.int v19] [] (b := a0) (ci := 7) rfl rfl rfl c20 (Nat.le_of_ble_eq_true rfl) (Nat.le_of_ble_eq_true rfl) (by omega) (by omega) (f_X7_swapSpare_ok X (by omega) (by omega) nn a0 v19 u18.1 e_u21) ?_
        clear e_u21
        show mx_S X F L 199 85 [(4, .int v5), (3, .int u3.1), (0, .ref a0), (1, .ref a1), (2, .int a2)] [] u21 (0 + u18.2.1) (0 + u18.2.2) (some (.int r.1), r.2.1, r.2.2.1, r.2.2.2)
        refine mx_S.pu (pc2 := 86) (lv2 := [(4, .int v5), (3, .int u3.1), (0, .ref a0), (1, .ref a1), (2, .int a2)]) (st2 := [.ref a0]) hm dX7_bring_85 rfl ?_
        refine mx_S.pu (pc2 := 87) (lv2 := [(4, .int v5), (3, .int u3.1), (0, .ref a0), (1, .ref a1), (2, .int a2)]) (st2 := [.ref a0, .ref a0]) hm dX7_bring_86 rfl ?_
        replace hf := mx_sv_el hf; obtain ⟨v22, e_v22, hf⟩ := hf
        refine sx_get hm dX7_bring_87 rs_RX7_41 (xgi_el e_v22) ?_
        clear e_v22
        refine sx_ic (v := 1) hm dX7_bring_90 (by decide) ?_
        replace hf := xl_el hf; obtain ⟨v23, e_v23, hf⟩ := hf
        refine mx_S.pu (pc2 := 92) (lv2 := [(4, .int v5), (3, .int u3.1), (0, .ref a0), (1, .ref a1), (2, .int a2)]) (st2 := [.int v23, .ref a0]) hm dX7_bring_91 (by rw [← e_v23]; rfl) ?_
        clear e_v23
        replace hf := mx_sv_el hf; obtain ⟨h24, e_h24, hf⟩ := hf
        refine sx_put hm dX7_bring_92 rs_RX7_41 ft_7_3 ⟨rfl, rfl⟩ (fun z => by cases z) e_h24 ?_
        clear e_h24
        refine mx_S.pu (pc2 := 96) (lv2 := [(4, .int v5), (3, .int u3.1), (0, .ref a0), (1, .ref a1), (2, .int a2)]) (st2 := [.ref a0]) hm dX7_bring_95 rfl ?_
        replace hf := mx_gd_el hf; obtain ⟨c25, hf⟩ := hf
        replace hf := mx_sv_el hf; obtain ⟨u26, e_u26, hf⟩ := hf
        refine sx_cv hm dX7_bring_96 rs_RX7_77 mt_X7_relate [] [] (b := a0) (ci := 7) rfl rfl rfl c25 (Nat.le_of_ble_eq_true rfl) (Nat.le_of_ble_eq_true rfl) (by omega) (by omega) (f_X7_relate_ok X (by omega) (by omega) nn a0 h24 e_u26) ?_
        clear e_u26
        show mx_S X F L 199 99 [(4, .int v5), (3, .int u3.1), (0, .ref a0), (1, .ref a1), (2, .int a2)] [] u26 (0 + u18.2.1) (0 + u18.2.2) (some (.int r.1), r.2.1, r.2.2.1, r.2.2.2)
        refine sx_bi (v := 8) hm dX7_bring_99 (by decide) ?_
        refine mx_S.pu (pc2 := 102) (lv2 := [(4, .int v5), (3, .int u3.1), (0, .ref a0), (1, .ref a1), (2, .int a2)]) (st2 := [.ref a0, .int 8]) hm dX7_bring_101 rfl ?_
        replace hf := mx_sv_el hf; obtain ⟨v27, e_v27, hf⟩ := hf
        refine sx_get hm dX7_bring_102 rs_RX7_41 (xgi_el e_v27) ?_
        clear e_v27
        replace hf := xl_el hf; obtain ⟨v28, e_v28, hf⟩ := hf
        refine mx_S.pu (pc2 := 106) (lv2 := [(4, .int v5), (3, .int u3.1), (0, .ref a0), (1, .ref a1), (2, .int a2)]) (st2 := [.int v28]) hm dX7_bring_105 (by rw [← e_v28]; rfl) ?_
        clear e_v28
        refine sx_ic (v := 1) hm dX7_bring_106 (by decide) ?_
        replace hf := xl_el hf; obtain ⟨v29, e_v29, hf⟩ := hf
        refine mx_S.pu (pc2 := 108) (lv2 := [(4, .int v5), (3, .int u3.1), (0, .ref a0), (1, .ref a1), (2, .int a2)]) (st2 := [.int v29]) hm dX7_bring_107 (by rw [← e_v29]; rfl) ?_
        clear e_v29
        cases hf
        exact sx_ire hm dX7_bring_108 rfl rfl
      · refine sb_ic_eq hm dX7_bring_65 (tgt := 70) rfl (fun z => absurd z c30) (fun _ => ?_)
        refine sx_ic (v := (-1)) hm dX7_bring_68 (by decide) ?_
        cases hf
        exact sx_ire hm dX7_bring_69 rfl rfl
  · refine sb_ic_eq hm dX7_bring_12 (tgt := 20) rfl (fun z => absurd z c33) (fun _ => ?_)
    refine sx_bi (v := (-2)) hm dX7_bring_15 (by decide) ?_
    refine mx_S.pu (pc2 := 18) (lv2 := [(3, .int u3.1), (0, .ref a0), (1, .ref a1), (2, .int a2)]) (st2 := [.int u3.1, .int (-2)]) hm dX7_bring_17 rfl ?_
    replace hf := xl_el hf; obtain ⟨v32, e_v32, hf⟩ := hf
    refine mx_S.pu (pc2 := 19) (lv2 := [(3, .int u3.1), (0, .ref a0), (1, .ref a1), (2, .int a2)]) (st2 := [.int v32]) hm dX7_bring_18 (by rw [← e_v32]; rfl) ?_
    clear e_v32
    cases hf
    exact sx_ire hm dX7_bring_19 rfl rfl
set_option maxHeartbeats 4000000 in
set_option maxRecDepth 20000 in
theorem j_X12_keep_24_ok (X : Nat × (Nat → Int32)) {F L : Nat} (hF : 8 ≤ F) (hL : 183 ≤ L) (nn : Nat) (l0 : Nat) (s0 : Int32) (h : mx_H) (c : Nat) (s : Nat) {r : (Int32 × mx_H × Nat × Nat)} (hf : j_X12_keep_24 nn l0 s0 h c s = some r) : mx_S X F L 369 24 [(0, .ref l0)] [.int s0] h c s (some (.int r.1), r.2.1, r.2.2.1, r.2.2.2) := by
  have hm : mx_mt 369 = some (yX12_keep, cX12_keep, 4, (some .int)) := mt_X12_keep
  unfold j_X12_keep_24 at hf
  refine mx_S.pu (pc2 := 25) (lv2 := [(3, .int s0), (0, .ref l0)]) (st2 := []) hm dX12_keep_24 rfl ?_
  refine mx_S.pu (pc2 := 26) (lv2 := [(3, .int s0), (0, .ref l0)]) (st2 := [.int s0]) hm dX12_keep_25 rfl ?_
  rcases mx_if_el hf with ⟨c4, hf⟩ | ⟨c4, hf⟩
  · refine sb_if_lt hm dX12_keep_26 (tgt := 36) rfl (fun _ => ?_) (fun z => absurd c4 z)
    refine mx_S.pu (pc2 := 37) (lv2 := [(3, .int s0), (0, .ref l0)]) (st2 := [.int s0]) hm dX12_keep_36 rfl ?_
    cases hf
    exact sx_ire hm dX12_keep_37 rfl rfl
  · refine sb_if_lt hm dX12_keep_26 (tgt := 36) rfl (fun z => absurd z c4) (fun _ => ?_)
    refine mx_S.pu (pc2 := 30) (lv2 := [(3, .int s0), (0, .ref l0)]) (st2 := [.ref l0]) hm dX12_keep_29 rfl ?_
    replace hf := mx_sv_el hf; obtain ⟨v1, e_v1, hf⟩ := hf
    refine sx_get hm dX12_keep_30 rs_RX12_69 (xgr_el e_v1) ?_
    clear e_v1
    replace hf := mx_gd_el hf; obtain ⟨c2, hf⟩ := hf
    replace hf := mx_sv_el hf; obtain ⟨u3, e_u3, hf⟩ := hf
    refine sx_cv hm dX12_keep_33 rs_RX12_153 mt_X5_forget [] [] (b := v1) (ci := 5) rfl rfl rfl c2 (Nat.le_of_ble_eq_true rfl) (Nat.le_of_ble_eq_true rfl) (by omega) (by omega) (f_X5_forget_ok X (by omega) (by omega) nn v1 h e_u3) ?_
    clear e_u3
    show mx_S X F L 369 36 [(3, .int s0), (0, .ref l0)] [] u3 c s (some (.int r.1), r.2.1, r.2.2.1, r.2.2.2)
    refine mx_S.pu (pc2 := 37) (lv2 := [(3, .int s0), (0, .ref l0)]) (st2 := [.int s0]) hm dX12_keep_36 rfl ?_
    cases hf
    exact sx_ire hm dX12_keep_37 rfl rfl
set_option maxHeartbeats 4000000 in
set_option maxRecDepth 20000 in
theorem f_X12_keep_ok (X : Nat × (Nat → Int32)) {F L : Nat} (hF : 8 ≤ F) (hL : 183 ≤ L) (nn : Nat) (a0 : Nat) (a1 : Int32) (h : mx_H) {r : (Int32 × mx_H × Nat × Nat)} (hf : f_X12_keep nn a0 a1 h = some r) : mx_R X F L 369 [.ref a0, .int a1] h (some (.int r.1), r.2.1, r.2.2.1, r.2.2.2) := by
  have hm : mx_mt 369 = some (yX12_keep, cX12_keep, 4, (some .int)) := mt_X12_keep
  show mx_S X F L 369 0 [(0, .ref a0), (1, .int a1)] [] h 0 0 (some (.int r.1), r.2.1, r.2.2.1, r.2.2.2)
  unfold f_X12_keep at hf
  refine mx_S.pu (pc2 := 1) (lv2 := [(0, .ref a0), (1, .int a1)]) (st2 := [.ref a0]) hm dX12_keep_0 rfl ?_
  refine mx_S.pu (pc2 := 2) (lv2 := [(0, .ref a0), (1, .int a1)]) (st2 := [.int a1, .ref a0]) hm dX12_keep_1 rfl ?_
  replace hf := mx_gd_el hf; obtain ⟨c5, hf⟩ := hf
  replace hf := mx_sv_el hf; obtain ⟨u6, e_u6, hf⟩ := hf
  refine sx_cv hm dX12_keep_2 rs_RX12_146 mt_X12_imageOf [.int a1] [] (b := a0) (ci := 12) rfl rfl rfl c5 (Nat.le_of_ble_eq_true rfl) (Nat.le_of_ble_eq_true rfl) (by omega) (by omega) (f_X12_imageOf_ok X (by omega) (by omega) nn a0 a1 h e_u6) ?_
  clear e_u6
  show mx_S X F L 369 5 [(0, .ref a0), (1, .int a1)] [va_rf u6.1] u6.2 0 0 (some (.int r.1), r.2.1, r.2.2.1, r.2.2.2)
  refine sx_son (lv2 := [(2, va_rf u6.1), (0, .ref a0), (1, .int a1)]) hm dX12_keep_5 rfl rfl ?_
  refine sx_aon hm dX12_keep_6 rfl ?_
  rcases mx_oc_el hf with ⟨c8, hf⟩ | ⟨b7, c8, hf⟩
  · refine sx_ifnonnull_n hm dX12_keep_7 c8 (tgt := 14) rfl ?_
    refine sx_ic (v := (-1)) hm dX12_keep_10 (by decide) ?_
    refine mx_S.pu (pc2 := 24) (lv2 := [(2, va_rf u6.1), (0, .ref a0), (1, .int a1)]) (st2 := [.int (-1)]) hm dX12_keep_11 rfl ?_
    refine mx_S.ext [(0, .ref a0)] (mx_sub_pos [1] rfl (show ([2, 0, 1] : List Nat).Nodup by decide)) ?_
    exact j_X12_keep_24_ok X hF hL nn a0 (-1) u6.2 0 0 hf
  · refine sx_ifnonnull_s hm dX12_keep_7 c8 (tgt := 14) rfl ?_
    rw [show va_rf u6.1 = Value.ref b7 by rw [c8]; rfl]
    refine mx_S.pu (pc2 := 15) (lv2 := [(2, .ref b7), (0, .ref a0), (1, .int a1)]) (st2 := [.ref a0]) hm dX12_keep_14 rfl ?_
    replace hf := mx_sv_el hf; obtain ⟨v9, e_v9, hf⟩ := hf
    refine sx_get hm dX12_keep_15 rs_RX12_53 (xgr_el e_v9) ?_
    clear e_v9
    refine mx_S.pu (pc2 := 19) (lv2 := [(2, .ref b7), (0, .ref a0), (1, .int a1)]) (st2 := [.ref b7, .ref v9]) hm dX12_keep_18 rfl ?_
    refine mx_S.pu (pc2 := 20) (lv2 := [(2, .ref b7), (0, .ref a0), (1, .int a1)]) (st2 := [.ref b7, .ref b7, .ref v9]) hm dX12_keep_19 rfl ?_
    replace hf := mx_sv_el hf; obtain ⟨v10, e_v10, hf⟩ := hf
    refine sx_len hm dX12_keep_20 e_v10 ?_
    clear e_v10
    replace hf := mx_gd_el hf; obtain ⟨c11, hf⟩ := hf
    replace hf := mx_sv_el hf; obtain ⟨u12, e_u12, hf⟩ := hf
    refine sx_cvA hm dX12_keep_21 rs_RX12_149 mt_X7_bring [.ref b7, .int v10] [] (b := v9) (ci := 7) rfl rfl rfl c11 (Nat.le_of_ble_eq_true rfl) (Nat.le_of_ble_eq_true rfl) (by omega) (by omega) (f_X7_bring_ok X (by omega) (by omega) nn v9 b7 v10 u6.2 e_u12) ?_
    clear e_u12
    show mx_S X F L 369 24 [(2, .ref b7), (0, .ref a0), (1, .int a1)] [.int u12.1] u12.2.1 (0 + u12.2.2.1) (0 + u12.2.2.2) (some (.int r.1), r.2.1, r.2.2.1, r.2.2.2)
    refine mx_S.ext [(0, .ref a0)] (mx_sub_pos [1] rfl (show ([2, 0, 1] : List Nat).Nodup by decide)) ?_
    exact j_X12_keep_24_ok X hF hL nn a0 u12.1 u12.2.1 (0 + u12.2.2.1) (0 + u12.2.2.2) hf
