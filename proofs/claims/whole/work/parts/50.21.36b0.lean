set_option maxHeartbeats 4000000 in
set_option maxRecDepth 20000 in
theorem j_X13_assign_241_ok (X : Nat × (Nat → Int32)) {F L : Nat} (hF : 1459 ≤ F) (hL : 37898 ≤ L) (nn : Nat) (l0 : Nat) (s0 : Int32) (s1 : Nat) (h : mx_H) {r : mx_H} (hf : j_X13_assign_241 nn l0 s0 s1 h = some r) : mx_S X F L 470 241 [(0, .ref l0)] [.int s0, .ref s1] h 0 0 (none, r, 0, 0) := by
  have hm : mx_mt 470 = some (yX13_assign, cX13_assign, 4, none) := mt_X13_assign
  unfold j_X13_assign_241 at hf
  replace hf := mx_gd_el hf; obtain ⟨c1, hf⟩ := hf
  replace hf := mx_sv_el hf; obtain ⟨u2, e_u2, hf⟩ := hf
  refine sx_cv hm dX13_assign_241 rs_RX13_646 mt_X13_put [.int s0] [] (b := s1) (ci := 13) rfl rfl rfl c1 (Nat.le_of_ble_eq_true rfl) (Nat.le_of_ble_eq_true rfl) (by omega) (by omega) (f_X13_put_ok X (by omega) (by omega) nn s1 s0 h e_u2) ?_
  clear e_u2
  show mx_S X F L 470 244 [(0, .ref l0)] [] u2 0 0 (none, r, 0, 0)
  refine mx_S.pu (pc2 := 245) (lv2 := [(0, .ref l0)]) (st2 := [.ref l0]) hm dX13_assign_244 rfl ?_
  refine mx_S.pu (pc2 := 246) (lv2 := [(0, .ref l0)]) (st2 := [.ref l0, .ref l0]) hm dX13_assign_245 rfl ?_
  replace hf := mx_sv_el hf; obtain ⟨v3, e_v3, hf⟩ := hf
  refine sx_get hm dX13_assign_246 rs_RX13_629 (xgi_el e_v3) ?_
  clear e_v3
  refine sx_ic (v := 3) hm dX13_assign_249 (by decide) ?_
  replace hf := xl_el hf; obtain ⟨v4, e_v4, hf⟩ := hf
  refine mx_S.pu (pc2 := 251) (lv2 := [(0, .ref l0)]) (st2 := [.int v4, .ref l0]) hm dX13_assign_250 (by rw [← e_v4]; rfl) ?_
  clear e_v4
  replace hf := mx_sv_el hf; obtain ⟨h5, e_h5, hf⟩ := hf
  refine sx_put hm dX13_assign_251 rs_RX13_629 ft_13_70 ⟨rfl, rfl⟩ (fun z => by cases z) e_h5 ?_
  clear e_h5
  cases hf
  exact sx_ret hm dX13_assign_254 rfl
set_option maxHeartbeats 4000000 in
set_option maxRecDepth 20000 in
theorem j_X13_assign_209_ok (X : Nat × (Nat → Int32)) {F L : Nat} (hF : 1459 ≤ F) (hL : 37898 ≤ L) (nn : Nat) (l0 : Nat) (l1 : Int32) (l2 : Int32) (h : mx_H) {r : mx_H} (hf : j_X13_assign_209 nn l0 l1 l2 h = some r) : mx_S X F L 470 209 [(0, .ref l0), (1, .int l1), (2, .int l2)] [] h 0 0 (none, r, 0, 0) := by
  have hm : mx_mt 470 = some (yX13_assign, cX13_assign, 4, none) := mt_X13_assign
  unfold j_X13_assign_209 at hf
  refine mx_S.pu (pc2 := 210) (lv2 := [(0, .ref l0), (1, .int l1), (2, .int l2)]) (st2 := [.ref l0]) hm dX13_assign_209 rfl ?_
  refine mx_S.pu (pc2 := 211) (lv2 := [(0, .ref l0), (1, .int l1), (2, .int l2)]) (st2 := [.ref l0, .ref l0]) hm dX13_assign_210 rfl ?_
  replace hf := mx_sv_el hf; obtain ⟨v6, e_v6, hf⟩ := hf
  refine sx_get hm dX13_assign_211 rs_RX13_40 (xgr_el e_v6) ?_
  clear e_v6
  refine mx_S.pu (pc2 := 215) (lv2 := [(0, .ref l0), (1, .int l1), (2, .int l2)]) (st2 := [.int l1, .ref v6, .ref l0]) hm dX13_assign_214 rfl ?_
  replace hf := mx_sv_el hf; obtain ⟨v7, e_v7, hf⟩ := hf
  refine sx_ald hm dX13_assign_215 e_v7 ?_
  clear e_v7
  replace hf := mx_gd_el hf; obtain ⟨c8, hf⟩ := hf
  replace hf := mx_sv_el hf; obtain ⟨u9, e_u9, hf⟩ := hf
  refine sx_cv hm dX13_assign_216 rs_RX13_667 mt_X13_work [.int v7] [] (b := l0) (ci := 13) rfl rfl rfl c8 (Nat.le_of_ble_eq_true rfl) (Nat.le_of_ble_eq_true rfl) (by omega) (by omega) (f_X13_work_ok X (by omega) (by omega) nn l0 v7 h e_u9) ?_
  clear e_u9
  show mx_S X F L 470 219 [(0, .ref l0), (1, .int l1), (2, .int l2)] [] u9 0 0 (none, r, 0, 0)
  refine mx_S.pu (pc2 := 220) (lv2 := [(0, .ref l0), (1, .int l1), (2, .int l2)]) (st2 := [.ref l0]) hm dX13_assign_219 rfl ?_
  refine mx_S.pu (pc2 := 221) (lv2 := [(0, .ref l0), (1, .int l1), (2, .int l2)]) (st2 := [.int l2, .ref l0]) hm dX13_assign_220 rfl ?_
  replace hf := mx_gd_el hf; obtain ⟨c10, hf⟩ := hf
  replace hf := mx_sv_el hf; obtain ⟨u11, e_u11, hf⟩ := hf
  refine sx_cv hm dX13_assign_221 rs_RX13_667 mt_X13_work [.int l2] [] (b := l0) (ci := 13) rfl rfl rfl c10 (Nat.le_of_ble_eq_true rfl) (Nat.le_of_ble_eq_true rfl) (by omega) (by omega) (f_X13_work_ok X (by omega) (by omega) nn l0 l2 u9 e_u11) ?_
  clear e_u11
  show mx_S X F L 470 224 [(0, .ref l0), (1, .int l1), (2, .int l2)] [] u11 0 0 (none, r, 0, 0)
  refine mx_S.pu (pc2 := 225) (lv2 := [(0, .ref l0), (1, .int l1), (2, .int l2)]) (st2 := [.ref l0]) hm dX13_assign_224 rfl ?_
  refine mx_S.pu (pc2 := 226) (lv2 := [(0, .ref l0), (1, .int l1), (2, .int l2)]) (st2 := [.ref l0, .ref l0]) hm dX13_assign_225 rfl ?_
  replace hf := mx_sv_el hf; obtain ⟨v12, e_v12, hf⟩ := hf
  refine sx_get hm dX13_assign_226 rs_RX13_49 (xgr_el e_v12) ?_
  clear e_v12
  refine mx_S.pu (pc2 := 230) (lv2 := [(0, .ref l0), (1, .int l1), (2, .int l2)]) (st2 := [.int l1, .ref v12, .ref l0]) hm dX13_assign_229 rfl ?_
  replace hf := mx_sv_el hf; obtain ⟨v13, e_v13, hf⟩ := hf
  refine sx_ald hm dX13_assign_230 e_v13 ?_
  clear e_v13
  rcases mx_if_el hf with ⟨c14, hf⟩ | ⟨c14, hf⟩
  · refine sb_if_ne hm dX13_assign_231 (tgt := 239) rfl (fun _ => ?_) (fun z => absurd c14 z)
    refine sx_bi (v := 83) hm dX13_assign_239 (by decide) ?_
    refine mx_S.ext [(0, .ref l0)] (mx_sub_pos [0] rfl (show ([0, 1, 2] : List Nat).Nodup by decide)) ?_
    exact j_X13_assign_241_ok X hF hL nn l0 83 l0 u11 hf
  · refine sb_if_ne hm dX13_assign_231 (tgt := 239) rfl (fun z => absurd z c14) (fun _ => ?_)
    refine sx_bi (v := 79) hm dX13_assign_234 (by decide) ?_
    refine mx_S.pu (pc2 := 241) (lv2 := [(0, .ref l0), (1, .int l1), (2, .int l2)]) (st2 := [.int 79, .ref l0]) hm dX13_assign_236 rfl ?_
    refine mx_S.ext [(0, .ref l0)] (mx_sub_pos [0] rfl (show ([0, 1, 2] : List Nat).Nodup by decide)) ?_
    exact j_X13_assign_241_ok X hF hL nn l0 79 l0 u11 hf
set_option maxHeartbeats 4000000 in
set_option maxRecDepth 20000 in
theorem j_X13_assign_65_ok (X : Nat × (Nat → Int32)) {F L : Nat} (hF : 1459 ≤ F) (hL : 37898 ≤ L) (nn : Nat) (l0 : Nat) (l1 : Int32) (s0 : Int32) (s1 : Nat) (h : mx_H) {r : mx_H} (hf : j_X13_assign_65 nn l0 l1 s0 s1 h = some r) : mx_S X F L 470 65 [(0, .ref l0), (1, .int l1)] [.int s0, .ref s1] h 0 0 (none, r, 0, 0) := by
  have hm : mx_mt 470 = some (yX13_assign, cX13_assign, 4, none) := mt_X13_assign
  unfold j_X13_assign_65 at hf
  replace hf := mx_gd_el hf; obtain ⟨c15, hf⟩ := hf
  replace hf := mx_sv_el hf; obtain ⟨u16, e_u16, hf⟩ := hf
  refine sx_cv hm dX13_assign_65 rs_RX13_646 mt_X13_put [.int s0] [] (b := s1) (ci := 13) rfl rfl rfl c15 (Nat.le_of_ble_eq_true rfl) (Nat.le_of_ble_eq_true rfl) (by omega) (by omega) (f_X13_put_ok X (by omega) (by omega) nn s1 s0 h e_u16) ?_
  clear e_u16
  show mx_S X F L 470 68 [(0, .ref l0), (1, .int l1)] [] u16 0 0 (none, r, 0, 0)
  refine mx_S.pu (pc2 := 69) (lv2 := [(0, .ref l0), (1, .int l1)]) (st2 := [.ref l0]) hm dX13_assign_68 rfl ?_
  refine mx_S.pu (pc2 := 70) (lv2 := [(0, .ref l0), (1, .int l1)]) (st2 := [.ref l0, .ref l0]) hm dX13_assign_69 rfl ?_
  replace hf := mx_sv_el hf; obtain ⟨v17, e_v17, hf⟩ := hf
  refine sx_get hm dX13_assign_70 rs_RX13_55 (xgr_el e_v17) ?_
  clear e_v17
  refine mx_S.pu (pc2 := 74) (lv2 := [(0, .ref l0), (1, .int l1)]) (st2 := [.int l1, .ref v17, .ref l0]) hm dX13_assign_73 rfl ?_
  replace hf := mx_sv_el hf; obtain ⟨v18, e_v18, hf⟩ := hf
  refine sx_ald hm dX13_assign_74 e_v18 ?_
  clear e_v18
  replace hf := mx_gd_el hf; obtain ⟨c19, hf⟩ := hf
  replace hf := mx_sv_el hf; obtain ⟨u20, e_u20, hf⟩ := hf
  refine sx_cv hm dX13_assign_75 rs_RX13_646 mt_X13_put [.int v18] [] (b := l0) (ci := 13) rfl rfl rfl c19 (Nat.le_of_ble_eq_true rfl) (Nat.le_of_ble_eq_true rfl) (by omega) (by omega) (f_X13_put_ok X (by omega) (by omega) nn l0 v18 u16 e_u20) ?_
  clear e_u20
  show mx_S X F L 470 78 [(0, .ref l0), (1, .int l1)] [] u20 0 0 (none, r, 0, 0)
  refine mx_S.pu (pc2 := 79) (lv2 := [(0, .ref l0), (1, .int l1)]) (st2 := [.ref l0]) hm dX13_assign_78 rfl ?_
  refine mx_S.pu (pc2 := 80) (lv2 := [(0, .ref l0), (1, .int l1)]) (st2 := [.ref l0, .ref l0]) hm dX13_assign_79 rfl ?_
  replace hf := mx_sv_el hf; obtain ⟨v21, e_v21, hf⟩ := hf
  refine sx_get hm dX13_assign_80 rs_RX13_629 (xgi_el e_v21) ?_
  clear e_v21
  refine sx_ic (v := 1) hm dX13_assign_83 (by decide) ?_
  replace hf := xl_el hf; obtain ⟨v22, e_v22, hf⟩ := hf
  refine mx_S.pu (pc2 := 85) (lv2 := [(0, .ref l0), (1, .int l1)]) (st2 := [.int v22, .ref l0]) hm dX13_assign_84 (by rw [← e_v22]; rfl) ?_
  clear e_v22
  replace hf := mx_sv_el hf; obtain ⟨h23, e_h23, hf⟩ := hf
  refine sx_put hm dX13_assign_85 rs_RX13_629 ft_13_70 ⟨rfl, rfl⟩ (fun z => by cases z) e_h23 ?_
  clear e_h23
  cases hf
  exact sx_ret hm dX13_assign_88 rfl
set_option maxHeartbeats 4000000 in
set_option maxRecDepth 20000 in
theorem f_X13_assign_ok (X : Nat × (Nat → Int32)) {F L : Nat} (hF : 1459 ≤ F) (hL : 37898 ≤ L) (nn : Nat) (a0 : Nat) (a1 : Int32) (a2 : Int32) (h : mx_H) {r : mx_H} (hf : f_X13_assign nn a0 a1 a2 h = some r) : mx_R X F L 470 [.ref a0, .int a1, .int a2] h (none, r, 0, 0) := by
  have hm : mx_mt 470 = some (yX13_assign, cX13_assign, 4, none) := mt_X13_assign
  show mx_S X F L 470 0 [(0, .ref a0), (1, .int a1), (2, .int a2)] [] h 0 0 (none, r, 0, 0)
  unfold f_X13_assign at hf
  refine mx_S.pu (pc2 := 1) (lv2 := [(0, .ref a0), (1, .int a1), (2, .int a2)]) (st2 := [.ref a0]) hm dX13_assign_0 rfl ?_
  replace hf := mx_sv_el hf; obtain ⟨v24, e_v24, hf⟩ := hf
  refine sx_get hm dX13_assign_1 rs_RX13_28 (xgr_el e_v24) ?_
  clear e_v24
  refine mx_S.pu (pc2 := 5) (lv2 := [(0, .ref a0), (1, .int a1), (2, .int a2)]) (st2 := [.int a1, .ref v24]) hm dX13_assign_4 rfl ?_
  replace hf := mx_sv_el hf; obtain ⟨v25, e_v25, hf⟩ := hf
  refine sx_ald hm dX13_assign_5 e_v25 ?_
  clear e_v25
  rcases mx_if_el hf with ⟨n_0, hf⟩ | ⟨n_0, hf⟩
  · refine sx_look hm dX13_assign_6 rfl (off := 26) (by rw [n_0]; rfl) (tgt := 32) rfl ?_
    clear n_0
    refine mx_S.pu (pc2 := 33) (lv2 := [(0, .ref a0), (1, .int a1), (2, .int a2)]) (st2 := [.ref a0]) hm dX13_assign_32 rfl ?_
    replace hf := mx_sv_el hf; obtain ⟨v30, e_v30, hf⟩ := hf
    refine sx_get hm dX13_assign_33 rs_RX13_52 (xgr_el e_v30) ?_
    clear e_v30
    refine mx_S.pu (pc2 := 37) (lv2 := [(0, .ref a0), (1, .int a1), (2, .int a2)]) (st2 := [.int a1, .ref v30]) hm dX13_assign_36 rfl ?_
    replace hf := mx_sv_el hf; obtain ⟨v31, e_v31, hf⟩ := hf
    refine sx_ald hm dX13_assign_37 e_v31 ?_
    clear e_v31
    refine sx_ic (v := (-1)) hm dX13_assign_38 (by decide) ?_
    rcases mx_if_el hf with ⟨c53, hf⟩ | ⟨c53, hf⟩
    · refine sb_ic_ne hm dX13_assign_39 (tgt := 89) rfl (fun _ => ?_) (fun z => absurd c53 z)
      refine mx_S.pu (pc2 := 90) (lv2 := [(0, .ref a0), (1, .int a1), (2, .int a2)]) (st2 := [.ref a0]) hm dX13_assign_89 rfl ?_
      replace hf := mx_gd_el hf; obtain ⟨c32, hf⟩ := hf
      replace hf := mx_sv_el hf; obtain ⟨u33, e_u33, hf⟩ := hf
      refine sx_cv hm dX13_assign_90 rs_RX13_697 mt_X13_self [] [] (b := a0) (ci := 13) rfl rfl rfl c32 (Nat.le_of_ble_eq_true rfl) (Nat.le_of_ble_eq_true rfl) (by omega) (by omega) (f_X13_self_ok X (by omega) (by omega) nn a0 h e_u33) ?_
      clear e_u33
      show mx_S X F L 470 93 [(0, .ref a0), (1, .int a1), (2, .int a2)] [] u33 0 0 (none, r, 0, 0)
      refine mx_S.pu (pc2 := 94) (lv2 := [(0, .ref a0), (1, .int a1), (2, .int a2)]) (st2 := [.ref a0]) hm dX13_assign_93 rfl ?_
      refine mx_S.pu (pc2 := 95) (lv2 := [(0, .ref a0), (1, .int a1), (2, .int a2)]) (st2 := [.int a2, .ref a0]) hm dX13_assign_94 rfl ?_
      replace hf := mx_gd_el hf; obtain ⟨c34, hf⟩ := hf
      replace hf := mx_sv_el hf; obtain ⟨u35, e_u35, hf⟩ := hf
      refine sx_cv hm dX13_assign_95 rs_RX13_667 mt_X13_work [.int a2] [] (b := a0) (ci := 13) rfl rfl rfl c34 (Nat.le_of_ble_eq_true rfl) (Nat.le_of_ble_eq_true rfl) (by omega) (by omega) (f_X13_work_ok X (by omega) (by omega) nn a0 a2 u33 e_u35) ?_
      clear e_u35
      show mx_S X F L 470 98 [(0, .ref a0), (1, .int a1), (2, .int a2)] [] u35 0 0 (none, r, 0, 0)
      refine mx_S.pu (pc2 := 99) (lv2 := [(0, .ref a0), (1, .int a1), (2, .int a2)]) (st2 := [.ref a0]) hm dX13_assign_98 rfl ?_
      refine sx_si (v := 181) hm dX13_assign_99 (by decide) ?_
      replace hf := mx_gd_el hf; obtain ⟨c36, hf⟩ := hf
      replace hf := mx_sv_el hf; obtain ⟨u37, e_u37, hf⟩ := hf
      refine sx_cv hm dX13_assign_102 rs_RX13_646 mt_X13_put [.int 181] [] (b := a0) (ci := 13) rfl rfl rfl c36 (Nat.le_of_ble_eq_true rfl) (Nat.le_of_ble_eq_true rfl) (by omega) (by omega) (f_X13_put_ok X (by omega) (by omega) nn a0 181 u35 e_u37) ?_
      clear e_u37
      show mx_S X F L 470 105 [(0, .ref a0), (1, .int a1), (2, .int a2)] [] u37 0 0 (none, r, 0, 0)
      refine mx_S.pu (pc2 := 106) (lv2 := [(0, .ref a0), (1, .int a1), (2, .int a2)]) (st2 := [.ref a0]) hm dX13_assign_105 rfl ?_
      refine mx_S.pu (pc2 := 107) (lv2 := [(0, .ref a0), (1, .int a1), (2, .int a2)]) (st2 := [.ref a0, .ref a0]) hm dX13_assign_106 rfl ?_
      refine mx_S.pu (pc2 := 108) (lv2 := [(0, .ref a0), (1, .int a1), (2, .int a2)]) (st2 := [.ref a0, .ref a0, .ref a0]) hm dX13_assign_107 rfl ?_
      replace hf := mx_sv_el hf; obtain ⟨v38, e_v38, hf⟩ := hf
      refine sx_get hm dX13_assign_108 rs_RX13_519 (xgi_el e_v38) ?_
      clear e_v38
      refine mx_S.pu (pc2 := 112) (lv2 := [(0, .ref a0), (1, .int a1), (2, .int a2)]) (st2 := [.ref a0, .int v38, .ref a0, .ref a0]) hm dX13_assign_111 rfl ?_
      replace hf := mx_sv_el hf; obtain ⟨v39, e_v39, hf⟩ := hf
      refine sx_get hm dX13_assign_112 rs_RX13_52 (xgr_el e_v39) ?_
      clear e_v39
      refine mx_S.pu (pc2 := 116) (lv2 := [(0, .ref a0), (1, .int a1), (2, .int a2)]) (st2 := [.int a1, .ref v39, .int v38, .ref a0, .ref a0]) hm dX13_assign_115 rfl ?_
      replace hf := mx_sv_el hf; obtain ⟨v40, e_v40, hf⟩ := hf
      refine sx_ald hm dX13_assign_116 e_v40 ?_
      clear e_v40
      replace hf := mx_gd_el hf; obtain ⟨c41, hf⟩ := hf
      replace hf := mx_sv_el hf; obtain ⟨u42, e_u42, hf⟩ := hf
      refine sx_cv hm dX13_assign_117 rs_RX13_700 mt_X13_memberConstant [.int v38, .int v40] [.ref a0] (b := a0) (ci := 13) rfl rfl rfl c41 (Nat.le_of_ble_eq_true rfl) (Nat.le_of_ble_eq_true rfl) (by omega) (by omega) (f_X13_memberConstant_ok X (by omega) (by omega) nn a0 v38 v40 u37 e_u42) ?_
      clear e_u42
      show mx_S X F L 470 120 [(0, .ref a0), (1, .int a1), (2, .int a2)] [.int u42.1, .ref a0] u42.2 0 0 (none, r, 0, 0)
      replace hf := mx_gd_el hf; obtain ⟨c43, hf⟩ := hf
      replace hf := mx_sv_el hf; obtain ⟨u44, e_u44, hf⟩ := hf
      refine sx_cv hm dX13_assign_120 rs_RX13_646 mt_X13_put [.int u42.1] [] (b := a0) (ci := 13) rfl rfl rfl c43 (Nat.le_of_ble_eq_true rfl) (Nat.le_of_ble_eq_true rfl) (by omega) (by omega) (f_X13_put_ok X (by omega) (by omega) nn a0 u42.1 u42.2 e_u44) ?_
      clear e_u44
      show mx_S X F L 470 123 [(0, .ref a0), (1, .int a1), (2, .int a2)] [] u44 0 0 (none, r, 0, 0)
      refine mx_S.pu (pc2 := 124) (lv2 := [(0, .ref a0), (1, .int a1), (2, .int a2)]) (st2 := [.ref a0]) hm dX13_assign_123 rfl ?_
      refine mx_S.pu (pc2 := 125) (lv2 := [(0, .ref a0), (1, .int a1), (2, .int a2)]) (st2 := [.ref a0, .ref a0]) hm dX13_assign_124 rfl ?_
      replace hf := mx_sv_el hf; obtain ⟨v45, e_v45, hf⟩ := hf
      refine sx_get hm dX13_assign_125 rs_RX13_629 (xgi_el e_v45) ?_
      clear e_v45
      refine sx_ic (v := 2) hm dX13_assign_128 (by decide) ?_
      replace hf := xl_el hf; obtain ⟨v46, e_v46, hf⟩ := hf
      refine mx_S.pu (pc2 := 130) (lv2 := [(0, .ref a0), (1, .int a1), (2, .int a2)]) (st2 := [.int v46, .ref a0]) hm dX13_assign_129 (by rw [← e_v46]; rfl) ?_
      clear e_v46
      replace hf := mx_sv_el hf; obtain ⟨h47, e_h47, hf⟩ := hf
      refine sx_put hm dX13_assign_130 rs_RX13_629 ft_13_70 ⟨rfl, rfl⟩ (fun z => by cases z) e_h47 ?_
      clear e_h47
      cases hf
      exact sx_ret hm dX13_assign_133 rfl
    · refine sb_ic_ne hm dX13_assign_39 (tgt := 89) rfl (fun z => absurd z c53) (fun _ => ?_)
      refine mx_S.pu (pc2 := 43) (lv2 := [(0, .ref a0), (1, .int a1), (2, .int a2)]) (st2 := [.ref a0]) hm dX13_assign_42 rfl ?_
      refine mx_S.pu (pc2 := 44) (lv2 := [(0, .ref a0), (1, .int a1), (2, .int a2)]) (st2 := [.int a2, .ref a0]) hm dX13_assign_43 rfl ?_
      replace hf := mx_gd_el hf; obtain ⟨c48, hf⟩ := hf
      replace hf := mx_sv_el hf; obtain ⟨u49, e_u49, hf⟩ := hf
      refine sx_cv hm dX13_assign_44 rs_RX13_667 mt_X13_work [.int a2] [] (b := a0) (ci := 13) rfl rfl rfl c48 (Nat.le_of_ble_eq_true rfl) (Nat.le_of_ble_eq_true rfl) (by omega) (by omega) (f_X13_work_ok X (by omega) (by omega) nn a0 a2 h e_u49) ?_
      clear e_u49
      show mx_S X F L 470 47 [(0, .ref a0), (1, .int a1), (2, .int a2)] [] u49 0 0 (none, r, 0, 0)
      refine mx_S.pu (pc2 := 48) (lv2 := [(0, .ref a0), (1, .int a1), (2, .int a2)]) (st2 := [.ref a0]) hm dX13_assign_47 rfl ?_
      refine mx_S.pu (pc2 := 49) (lv2 := [(0, .ref a0), (1, .int a1), (2, .int a2)]) (st2 := [.ref a0, .ref a0]) hm dX13_assign_48 rfl ?_
      replace hf := mx_sv_el hf; obtain ⟨v50, e_v50, hf⟩ := hf
      refine sx_get hm dX13_assign_49 rs_RX13_49 (xgr_el e_v50) ?_
      clear e_v50
      refine mx_S.pu (pc2 := 53) (lv2 := [(0, .ref a0), (1, .int a1), (2, .int a2)]) (st2 := [.int a1, .ref v50, .ref a0]) hm dX13_assign_52 rfl ?_
      replace hf := mx_sv_el hf; obtain ⟨v51, e_v51, hf⟩ := hf
      refine sx_ald hm dX13_assign_53 e_v51 ?_
      clear e_v51
      refine sx_ic (v := 1) hm dX13_assign_54 (by decide) ?_
      rcases mx_if_el hf with ⟨c52, hf⟩ | ⟨c52, hf⟩
      · refine sb_ic_gt hm dX13_assign_55 (tgt := 63) rfl (fun _ => ?_) (fun z => absurd c52 z)
        refine sx_bi (v := 58) hm dX13_assign_63 (by decide) ?_
        refine mx_S.ext [(0, .ref a0), (1, .int a1)] (mx_sub_pos [0, 1] rfl (show ([0, 1, 2] : List Nat).Nodup by decide)) ?_
        exact j_X13_assign_65_ok X hF hL nn a0 a1 58 a0 u49 hf
      · refine sb_ic_gt hm dX13_assign_55 (tgt := 63) rfl (fun z => absurd z c52) (fun _ => ?_)
        refine sx_bi (v := 54) hm dX13_assign_58 (by decide) ?_
        refine mx_S.pu (pc2 := 65) (lv2 := [(0, .ref a0), (1, .int a1), (2, .int a2)]) (st2 := [.int 54, .ref a0]) hm dX13_assign_60 rfl ?_
        refine mx_S.ext [(0, .ref a0), (1, .int a1)] (mx_sub_pos [0, 1] rfl (show ([0, 1, 2] : List Nat).Nodup by decide)) ?_
        exact j_X13_assign_65_ok X hF hL nn a0 a1 54 a0 u49 hf
  · rcases mx_if_el hf with ⟨n_1, hf⟩ | ⟨n_1, hf⟩
    · refine sx_look hm dX13_assign_6 rfl (off := 128) (by rw [n_1]; rfl) (tgt := 134) rfl ?_
      clear n_0 n_1
      refine mx_S.pu (pc2 := 135) (lv2 := [(0, .ref a0), (1, .int a1), (2, .int a2)]) (st2 := [.ref a0]) hm dX13_assign_134 rfl ?_
      refine mx_S.pu (pc2 := 136) (lv2 := [(0, .ref a0), (1, .int a1), (2, .int a2)]) (st2 := [.ref a0, .ref a0]) hm dX13_assign_135 rfl ?_
      replace hf := mx_sv_el hf; obtain ⟨v54, e_v54, hf⟩ := hf
      refine sx_get hm dX13_assign_136 rs_RX13_37 (xgr_el e_v54) ?_
      clear e_v54
      refine mx_S.pu (pc2 := 140) (lv2 := [(0, .ref a0), (1, .int a1), (2, .int a2)]) (st2 := [.int a1, .ref v54, .ref a0]) hm dX13_assign_139 rfl ?_
      replace hf := mx_sv_el hf; obtain ⟨v55, e_v55, hf⟩ := hf
      refine sx_ald hm dX13_assign_140 e_v55 ?_
      clear e_v55
      replace hf := mx_gd_el hf; obtain ⟨c56, hf⟩ := hf
      replace hf := mx_sv_el hf; obtain ⟨u57, e_u57, hf⟩ := hf
      refine sx_cv hm dX13_assign_141 rs_RX13_667 mt_X13_work [.int v55] [] (b := a0) (ci := 13) rfl rfl rfl c56 (Nat.le_of_ble_eq_true rfl) (Nat.le_of_ble_eq_true rfl) (by omega) (by omega) (f_X13_work_ok X (by omega) (by omega) nn a0 v55 h e_u57) ?_
      clear e_u57
      show mx_S X F L 470 144 [(0, .ref a0), (1, .int a1), (2, .int a2)] [] u57 0 0 (none, r, 0, 0)
      refine mx_S.pu (pc2 := 145) (lv2 := [(0, .ref a0), (1, .int a1), (2, .int a2)]) (st2 := [.ref a0]) hm dX13_assign_144 rfl ?_
      replace hf := mx_sv_el hf; obtain ⟨v58, e_v58, hf⟩ := hf
      refine sx_get hm dX13_assign_145 rs_RX13_49 (xgr_el e_v58) ?_
      clear e_v58
      refine mx_S.pu (pc2 := 149) (lv2 := [(0, .ref a0), (1, .int a1), (2, .int a2)]) (st2 := [.ref a0, .ref v58]) hm dX13_assign_148 rfl ?_
      replace hf := mx_sv_el hf; obtain ⟨v59, e_v59, hf⟩ := hf
      refine sx_get hm dX13_assign_149 rs_RX13_37 (xgr_el e_v59) ?_
      clear e_v59
      refine mx_S.pu (pc2 := 153) (lv2 := [(0, .ref a0), (1, .int a1), (2, .int a2)]) (st2 := [.int a1, .ref v59, .ref v58]) hm dX13_assign_152 rfl ?_
      replace hf := mx_sv_el hf; obtain ⟨v60, e_v60, hf⟩ := hf
      refine sx_ald hm dX13_assign_153 e_v60 ?_
      clear e_v60
      replace hf := mx_sv_el hf; obtain ⟨v61, e_v61, hf⟩ := hf
      refine sx_ald hm dX13_assign_154 e_v61 ?_
      clear e_v61
      refine sx_bi (v := 8) hm dX13_assign_155 (by decide) ?_
      replace hf := xl_el hf; obtain ⟨v62, e_v62, hf⟩ := hf
      refine mx_S.pu (pc2 := 158) (lv2 := [(0, .ref a0), (1, .int a1), (2, .int a2)]) (st2 := [.int v62]) hm dX13_assign_157 (by rw [← e_v62]; rfl) ?_
      clear e_v62
      refine sx_ic (v := 2) hm dX13_assign_158 (by decide) ?_
      replace hf := xl_el hf; obtain ⟨v63, e_v63, hf⟩ := hf
      refine sx_idiv (v := v63) hm dX13_assign_159 (by decide) e_v63 ?_
      clear e_v63
      refine mx_S.pu (pc2 := 161) (lv2 := [(3, .int v63), (0, .ref a0), (1, .int a1), (2, .int a2)]) (st2 := []) hm dX13_assign_160 rfl ?_
      refine mx_S.pu (pc2 := 162) (lv2 := [(3, .int v63), (0, .ref a0), (1, .int a1), (2, .int a2)]) (st2 := [.ref a0]) hm dX13_assign_161 rfl ?_
      refine mx_S.pu (pc2 := 163) (lv2 := [(3, .int v63), (0, .ref a0), (1, .int a1), (2, .int a2)]) (st2 := [.int a2, .ref a0]) hm dX13_assign_162 rfl ?_
      replace hf := mx_gd_el hf; obtain ⟨c64, hf⟩ := hf
      replace hf := mx_sv_el hf; obtain ⟨u65, e_u65, hf⟩ := hf
      refine sx_cv hm dX13_assign_163 rs_RX13_667 mt_X13_work [.int a2] [] (b := a0) (ci := 13) rfl rfl rfl c64 (Nat.le_of_ble_eq_true rfl) (Nat.le_of_ble_eq_true rfl) (by omega) (by omega) (f_X13_work_ok X (by omega) (by omega) nn a0 a2 u57 e_u65) ?_
      clear e_u65
      show mx_S X F L 470 166 [(3, .int v63), (0, .ref a0), (1, .int a1), (2, .int a2)] [] u65 0 0 (none, r, 0, 0)
      refine mx_S.pu (pc2 := 167) (lv2 := [(3, .int v63), (0, .ref a0), (1, .int a1), (2, .int a2)]) (st2 := [.ref a0]) hm dX13_assign_166 rfl ?_
      refine sx_si (v := 181) hm dX13_assign_167 (by decide) ?_
      replace hf := mx_gd_el hf; obtain ⟨c66, hf⟩ := hf
      replace hf := mx_sv_el hf; obtain ⟨u67, e_u67, hf⟩ := hf
      refine sx_cv hm dX13_assign_170 rs_RX13_646 mt_X13_put [.int 181] [] (b := a0) (ci := 13) rfl rfl rfl c66 (Nat.le_of_ble_eq_true rfl) (Nat.le_of_ble_eq_true rfl) (by omega) (by omega) (f_X13_put_ok X (by omega) (by omega) nn a0 181 u65 e_u67) ?_
      clear e_u67
      show mx_S X F L 470 173 [(3, .int v63), (0, .ref a0), (1, .int a1), (2, .int a2)] [] u67 0 0 (none, r, 0, 0)
      refine mx_S.pu (pc2 := 174) (lv2 := [(3, .int v63), (0, .ref a0), (1, .int a1), (2, .int a2)]) (st2 := [.ref a0]) hm dX13_assign_173 rfl ?_
      refine mx_S.pu (pc2 := 175) (lv2 := [(3, .int v63), (0, .ref a0), (1, .int a1), (2, .int a2)]) (st2 := [.ref a0, .ref a0]) hm dX13_assign_174 rfl ?_
      refine mx_S.pu (pc2 := 176) (lv2 := [(3, .int v63), (0, .ref a0), (1, .int a1), (2, .int a2)]) (st2 := [.int v63, .ref a0, .ref a0]) hm dX13_assign_175 rfl ?_
      refine mx_S.pu (pc2 := 177) (lv2 := [(3, .int v63), (0, .ref a0), (1, .int a1), (2, .int a2)]) (st2 := [.ref a0, .int v63, .ref a0, .ref a0]) hm dX13_assign_176 rfl ?_
      replace hf := mx_sv_el hf; obtain ⟨v68, e_v68, hf⟩ := hf
      refine sx_get hm dX13_assign_177 rs_RX13_52 (xgr_el e_v68) ?_
      clear e_v68
      refine mx_S.pu (pc2 := 181) (lv2 := [(3, .int v63), (0, .ref a0), (1, .int a1), (2, .int a2)]) (st2 := [.int a1, .ref v68, .int v63, .ref a0, .ref a0]) hm dX13_assign_180 rfl ?_
      replace hf := mx_sv_el hf; obtain ⟨v69, e_v69, hf⟩ := hf
      refine sx_ald hm dX13_assign_181 e_v69 ?_
      clear e_v69
      replace hf := mx_gd_el hf; obtain ⟨c70, hf⟩ := hf
      replace hf := mx_sv_el hf; obtain ⟨u71, e_u71, hf⟩ := hf
      refine sx_cv hm dX13_assign_182 rs_RX13_700 mt_X13_memberConstant [.int v63, .int v69] [.ref a0] (b := a0) (ci := 13) rfl rfl rfl c70 (Nat.le_of_ble_eq_true rfl) (Nat.le_of_ble_eq_true rfl) (by omega) (by omega) (f_X13_memberConstant_ok X (by omega) (by omega) nn a0 v63 v69 u67 e_u71) ?_
      clear e_u71
      show mx_S X F L 470 185 [(3, .int v63), (0, .ref a0), (1, .int a1), (2, .int a2)] [.int u71.1, .ref a0] u71.2 0 0 (none, r, 0, 0)
      replace hf := mx_gd_el hf; obtain ⟨c72, hf⟩ := hf
      replace hf := mx_sv_el hf; obtain ⟨u73, e_u73, hf⟩ := hf
      refine sx_cv hm dX13_assign_185 rs_RX13_646 mt_X13_put [.int u71.1] [] (b := a0) (ci := 13) rfl rfl rfl c72 (Nat.le_of_ble_eq_true rfl) (Nat.le_of_ble_eq_true rfl) (by omega) (by omega) (f_X13_put_ok X (by omega) (by omega) nn a0 u71.1 u71.2 e_u73) ?_
      clear e_u73
      show mx_S X F L 470 188 [(3, .int v63), (0, .ref a0), (1, .int a1), (2, .int a2)] [] u73 0 0 (none, r, 0, 0)
      refine mx_S.pu (pc2 := 189) (lv2 := [(3, .int v63), (0, .ref a0), (1, .int a1), (2, .int a2)]) (st2 := [.ref a0]) hm dX13_assign_188 rfl ?_
      refine mx_S.pu (pc2 := 190) (lv2 := [(3, .int v63), (0, .ref a0), (1, .int a1), (2, .int a2)]) (st2 := [.ref a0, .ref a0]) hm dX13_assign_189 rfl ?_
      replace hf := mx_sv_el hf; obtain ⟨v74, e_v74, hf⟩ := hf
      refine sx_get hm dX13_assign_190 rs_RX13_629 (xgi_el e_v74) ?_
      clear e_v74
      refine sx_ic (v := 2) hm dX13_assign_193 (by decide) ?_
      replace hf := xl_el hf; obtain ⟨v75, e_v75, hf⟩ := hf
      refine mx_S.pu (pc2 := 195) (lv2 := [(3, .int v63), (0, .ref a0), (1, .int a1), (2, .int a2)]) (st2 := [.int v75, .ref a0]) hm dX13_assign_194 (by rw [← e_v75]; rfl) ?_
      clear e_v75
      replace hf := mx_sv_el hf; obtain ⟨h76, e_h76, hf⟩ := hf
      refine sx_put hm dX13_assign_195 rs_RX13_629 ft_13_70 ⟨rfl, rfl⟩ (fun z => by cases z) e_h76 ?_
      clear e_h76
      cases hf
      exact sx_ret hm dX13_assign_198 rfl
    · refine sx_look hm dX13_assign_6 rfl (off := 193) (by show Op.lookupswitch.offset [(25, 26), (30, 128)] 193 v25.toInt = _; rw [lv_osw n_0 (by decide), lv_osw n_1 (by decide)]; rfl) (tgt := 199) rfl ?_
      refine mx_S.pu (pc2 := 200) (lv2 := [(0, .ref a0), (1, .int a1), (2, .int a2)]) (st2 := [.ref a0]) hm dX13_assign_199 rfl ?_
      refine mx_S.pu (pc2 := 201) (lv2 := [(0, .ref a0), (1, .int a1), (2, .int a2)]) (st2 := [.ref a0, .ref a0]) hm dX13_assign_200 rfl ?_
      replace hf := mx_sv_el hf; obtain ⟨v26, e_v26, hf⟩ := hf
      refine sx_get hm dX13_assign_201 rs_RX13_37 (xgr_el e_v26) ?_
      clear e_v26
      refine mx_S.pu (pc2 := 205) (lv2 := [(0, .ref a0), (1, .int a1), (2, .int a2)]) (st2 := [.int a1, .ref v26, .ref a0]) hm dX13_assign_204 rfl ?_
      replace hf := mx_sv_el hf; obtain ⟨v27, e_v27, hf⟩ := hf
      refine sx_ald hm dX13_assign_205 e_v27 ?_
      clear e_v27
      replace hf := mx_gd_el hf; obtain ⟨c28, hf⟩ := hf
      replace hf := mx_sv_el hf; obtain ⟨u29, e_u29, hf⟩ := hf
      refine sx_cv hm dX13_assign_206 rs_RX13_667 mt_X13_work [.int v27] [] (b := a0) (ci := 13) rfl rfl rfl c28 (Nat.le_of_ble_eq_true rfl) (Nat.le_of_ble_eq_true rfl) (by omega) (by omega) (f_X13_work_ok X (by omega) (by omega) nn a0 v27 h e_u29) ?_
      clear e_u29
      show mx_S X F L 470 209 [(0, .ref a0), (1, .int a1), (2, .int a2)] [] u29 0 0 (none, r, 0, 0)
      exact j_X13_assign_209_ok X hF hL nn a0 a1 a2 u29 hf
set_option maxHeartbeats 4000000 in
set_option maxRecDepth 20000 in
theorem j_X13_store_13_ok (X : Nat × (Nat → Int32)) {F L : Nat} (hF : 1 ≤ F) (hL : 21 ≤ L) (nn : Nat) (l0 : Nat) (l2 : Int32) (s0 : Int32) (s1 : Nat) (h : mx_H) {r : mx_H} (hf : j_X13_store_13 nn l0 l2 s0 s1 h = some r) : mx_S X F L 466 13 [(0, .ref l0), (2, .int l2)] [.int s0, .ref s1] h 0 0 (none, r, 0, 0) := by
  have hm : mx_mt 466 = some (yX13_store, cX13_store, 3, none) := mt_X13_store
  unfold j_X13_store_13 at hf
  replace hf := mx_gd_el hf; obtain ⟨c1, hf⟩ := hf
  replace hf := mx_sv_el hf; obtain ⟨u2, e_u2, hf⟩ := hf
  refine sx_cv hm dX13_store_13 rs_RX13_646 mt_X13_put [.int s0] [] (b := s1) (ci := 13) rfl rfl rfl c1 (Nat.le_of_ble_eq_true rfl) (Nat.le_of_ble_eq_true rfl) (by omega) (by omega) (f_X13_put_ok X (by omega) (by omega) nn s1 s0 h e_u2) ?_
  clear e_u2
  show mx_S X F L 466 16 [(0, .ref l0), (2, .int l2)] [] u2 0 0 (none, r, 0, 0)
  refine mx_S.pu (pc2 := 17) (lv2 := [(0, .ref l0), (2, .int l2)]) (st2 := [.ref l0]) hm dX13_store_16 rfl ?_
  refine mx_S.pu (pc2 := 18) (lv2 := [(0, .ref l0), (2, .int l2)]) (st2 := [.ref l0, .ref l0]) hm dX13_store_17 rfl ?_
  refine mx_S.pu (pc2 := 19) (lv2 := [(0, .ref l0), (2, .int l2)]) (st2 := [.int l2, .ref l0, .ref l0]) hm dX13_store_18 rfl ?_
  replace hf := mx_gd_el hf; obtain ⟨c3, hf⟩ := hf
  replace hf := mx_sv_el hf; obtain ⟨u4, e_u4, hf⟩ := hf
  refine sx_cv hm dX13_store_19 rs_RX13_582 mt_X13_local [.int l2] [.ref l0] (b := l0) (ci := 13) rfl rfl rfl c3 (Nat.le_of_ble_eq_true rfl) (Nat.le_of_ble_eq_true rfl) (by omega) (by omega) (f_X13_local_ok X (by omega) (by omega) nn l0 l2 u2 e_u4) ?_
  clear e_u4
  show mx_S X F L 466 22 [(0, .ref l0), (2, .int l2)] [.int u4.1, .ref l0] u4.2 0 0 (none, r, 0, 0)
  replace hf := mx_gd_el hf; obtain ⟨c5, hf⟩ := hf
  replace hf := mx_sv_el hf; obtain ⟨u6, e_u6, hf⟩ := hf
  refine sx_cv hm dX13_store_22 rs_RX13_646 mt_X13_put [.int u4.1] [] (b := l0) (ci := 13) rfl rfl rfl c5 (Nat.le_of_ble_eq_true rfl) (Nat.le_of_ble_eq_true rfl) (by omega) (by omega) (f_X13_put_ok X (by omega) (by omega) nn l0 u4.1 u4.2 e_u6) ?_
  clear e_u6
  show mx_S X F L 466 25 [(0, .ref l0), (2, .int l2)] [] u6 0 0 (none, r, 0, 0)
  refine mx_S.pu (pc2 := 26) (lv2 := [(0, .ref l0), (2, .int l2)]) (st2 := [.ref l0]) hm dX13_store_25 rfl ?_
  refine mx_S.pu (pc2 := 27) (lv2 := [(0, .ref l0), (2, .int l2)]) (st2 := [.ref l0, .ref l0]) hm dX13_store_26 rfl ?_
  replace hf := mx_sv_el hf; obtain ⟨v7, e_v7, hf⟩ := hf
  refine sx_get hm dX13_store_27 rs_RX13_629 (xgi_el e_v7) ?_
  clear e_v7
  refine sx_ic (v := 1) hm dX13_store_30 (by decide) ?_
  replace hf := xl_el hf; obtain ⟨v8, e_v8, hf⟩ := hf
  refine mx_S.pu (pc2 := 32) (lv2 := [(0, .ref l0), (2, .int l2)]) (st2 := [.int v8, .ref l0]) hm dX13_store_31 (by rw [← e_v8]; rfl) ?_
  clear e_v8
  replace hf := mx_sv_el hf; obtain ⟨h9, e_h9, hf⟩ := hf
  refine sx_put hm dX13_store_32 rs_RX13_629 ft_13_70 ⟨rfl, rfl⟩ (fun z => by cases z) e_h9 ?_
  clear e_h9
  cases hf
  exact sx_ret hm dX13_store_35 rfl
set_option maxHeartbeats 4000000 in
set_option maxRecDepth 20000 in
theorem f_X13_store_ok (X : Nat × (Nat → Int32)) {F L : Nat} (hF : 1 ≤ F) (hL : 21 ≤ L) (nn : Nat) (a0 : Nat) (a1 : Int32) (a2 : Int32) (h : mx_H) {r : mx_H} (hf : f_X13_store nn a0 a1 a2 h = some r) : mx_R X F L 466 [.ref a0, .int a1, .int a2] h (none, r, 0, 0) := by
  have hm : mx_mt 466 = some (yX13_store, cX13_store, 3, none) := mt_X13_store
  show mx_S X F L 466 0 [(0, .ref a0), (1, .int a1), (2, .int a2)] [] h 0 0 (none, r, 0, 0)
  unfold f_X13_store at hf
  refine mx_S.pu (pc2 := 1) (lv2 := [(0, .ref a0), (1, .int a1), (2, .int a2)]) (st2 := [.ref a0]) hm dX13_store_0 rfl ?_
  refine mx_S.pu (pc2 := 2) (lv2 := [(0, .ref a0), (1, .int a1), (2, .int a2)]) (st2 := [.int a1, .ref a0]) hm dX13_store_1 rfl ?_
  refine sx_ic (v := 1) hm dX13_store_2 (by decide) ?_
  rcases mx_if_el hf with ⟨c10, hf⟩ | ⟨c10, hf⟩
  · refine sb_ic_gt hm dX13_store_3 (tgt := 11) rfl (fun _ => ?_) (fun z => absurd c10 z)
    refine sx_bi (v := 58) hm dX13_store_11 (by decide) ?_
    refine mx_S.ext [(0, .ref a0), (2, .int a2)] (mx_sub_pos [0, 2] rfl (show ([0, 1, 2] : List Nat).Nodup by decide)) ?_
    exact j_X13_store_13_ok X hF hL nn a0 a2 58 a0 h hf
  · refine sb_ic_gt hm dX13_store_3 (tgt := 11) rfl (fun z => absurd z c10) (fun _ => ?_)
    refine sx_bi (v := 54) hm dX13_store_6 (by decide) ?_
    refine mx_S.pu (pc2 := 13) (lv2 := [(0, .ref a0), (1, .int a1), (2, .int a2)]) (st2 := [.int 54, .ref a0]) hm dX13_store_8 rfl ?_
    refine mx_S.ext [(0, .ref a0), (2, .int a2)] (mx_sub_pos [0, 2] rfl (show ([0, 1, 2] : List Nat).Nodup by decide)) ?_
    exact j_X13_store_13_ok X hF hL nn a0 a2 54 a0 h hf
