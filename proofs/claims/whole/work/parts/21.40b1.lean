set_option maxHeartbeats 4000000 in
theorem o_X13_fresh_ok (X : Nat × (Nat → Int32)) {F L d : Nat} (hF : 3 + (d + 1) ≤ F) (hL : 63 + (d + 1) * 28 ≤ L) (nn : Nat) {rc : tg_X13_expression} (hrc : hg_X13_expression X d rc) (a0 : Nat) (a1 : Int32) (h : mx_H) {r : (Int32 × mx_H)} (hf : o_X13_fresh nn rc a0 a1 h = some r) : mx_R X F L 415 [.ref a0, .int a1] h (some (.int r.1), r.2, 0, 0) := by
  have hm : mx_mt 415 = some (yX13_fresh, cX13_fresh, 5, (some .int)) := mt_X13_fresh
  show mx_S X F L 415 0 [(0, .ref a0), (1, .int a1)] [] h 0 0 (some (.int r.1), r.2, 0, 0)
  unfold o_X13_fresh at hf
  refine mx_S.pu (pc2 := 1) (lv2 := [(0, .ref a0), (1, .int a1)]) (st2 := [.ref a0]) hm dX13_fresh_0 rfl ?_
  replace hf := mx_sv_el hf; obtain ⟨v1, e_v1, hf⟩ := hf
  refine sx_get hm dX13_fresh_1 rs_RX13_376 (xgi_el e_v1) ?_
  clear e_v1
  refine mx_S.pu (pc2 := 5) (lv2 := [(2, .int v1), (0, .ref a0), (1, .int a1)]) (st2 := []) hm dX13_fresh_4 rfl ?_
  refine mx_S.pu (pc2 := 6) (lv2 := [(2, .int v1), (0, .ref a0), (1, .int a1)]) (st2 := [.ref a0]) hm dX13_fresh_5 rfl ?_
  refine mx_S.pu (pc2 := 7) (lv2 := [(2, .int v1), (0, .ref a0), (1, .int a1)]) (st2 := [.ref a0, .ref a0]) hm dX13_fresh_6 rfl ?_
  replace hf := mx_sv_el hf; obtain ⟨v2, e_v2, hf⟩ := hf
  refine sx_get hm dX13_fresh_7 rs_RX13_376 (xgi_el e_v2) ?_
  clear e_v2
  refine sx_ic (v := 1) hm dX13_fresh_10 (by decide) ?_
  replace hf := xl_el hf; obtain ⟨v3, e_v3, hf⟩ := hf
  refine mx_S.pu (pc2 := 12) (lv2 := [(2, .int v1), (0, .ref a0), (1, .int a1)]) (st2 := [.int v3, .ref a0]) hm dX13_fresh_11 (by rw [← e_v3]; rfl) ?_
  clear e_v3
  replace hf := mx_sv_el hf; obtain ⟨h4, e_h4, hf⟩ := hf
  refine sx_put hm dX13_fresh_12 rs_RX13_376 ft_13_23 ⟨rfl, rfl⟩ (fun z => by cases z) e_h4 ?_
  clear e_h4
  refine mx_S.pu (pc2 := 16) (lv2 := [(2, .int v1), (0, .ref a0), (1, .int a1)]) (st2 := [.ref a0]) hm dX13_fresh_15 rfl ?_
  refine mx_S.pu (pc2 := 17) (lv2 := [(2, .int v1), (0, .ref a0), (1, .int a1)]) (st2 := [.ref a0, .ref a0]) hm dX13_fresh_16 rfl ?_
  replace hf := mx_sv_el hf; obtain ⟨v5, e_v5, hf⟩ := hf
  refine sx_get hm dX13_fresh_17 rs_RX13_376 (xgi_el e_v5) ?_
  clear e_v5
  refine sx_bi (v := 10) hm dX13_fresh_20 (by decide) ?_
  replace hf := mx_gd_el hf; obtain ⟨c6, hf⟩ := hf
  replace hf := mx_sv_el hf; obtain ⟨u7, e_u7, hf⟩ := hf
  refine sx_cv hm dX13_fresh_22 rs_RX13_390 mt_X13_isWord [.int v5, .int 10] [] (b := a0) (ci := 13) rfl rfl rfl c6 (Nat.le_of_ble_eq_true rfl) (Nat.le_of_ble_eq_true rfl) (by omega) (by omega) (f_X13_isWord_ok X (by omega) (by omega) nn a0 v5 10 h4 e_u7) ?_
  clear e_u7
  show mx_S X F L 415 25 [(2, .int v1), (0, .ref a0), (1, .int a1)] [.int u7.1] u7.2 0 0 (some (.int r.1), r.2, 0, 0)
  rcases mx_if_el hf with ⟨c50, hf⟩ | ⟨c50, hf⟩
  · refine sb_if_eq hm dX13_fresh_25 (tgt := 75) rfl (fun _ => ?_) (fun z => absurd c50 z)
    refine mx_S.pu (pc2 := 76) (lv2 := [(2, .int v1), (0, .ref a0), (1, .int a1)]) (st2 := [.ref a0]) hm dX13_fresh_75 rfl ?_
    replace hf := mx_gd_el hf; obtain ⟨c8, hf⟩ := hf
    replace hf := mx_sv_el hf; obtain ⟨u9, e_u9, hf⟩ := hf
    refine sx_cv hm dX13_fresh_76 rs_RX13_403 mt_X13_name [] [] (b := a0) (ci := 13) rfl rfl rfl c8 (Nat.le_of_ble_eq_true rfl) (Nat.le_of_ble_eq_true rfl) (by omega) (by omega) (f_X13_name_ok X (by omega) (by omega) nn a0 u7.2 e_u9) ?_
    clear e_u9
    show mx_S X F L 415 79 [(2, .int v1), (0, .ref a0), (1, .int a1)] [.int u9.1] u9.2 0 0 (some (.int r.1), r.2, 0, 0)
    refine mx_S.pu (pc2 := 80) (lv2 := [(3, .int u9.1), (2, .int v1), (0, .ref a0), (1, .int a1)]) (st2 := []) hm dX13_fresh_79 rfl ?_
    refine mx_S.pu (pc2 := 81) (lv2 := [(3, .int u9.1), (2, .int v1), (0, .ref a0), (1, .int a1)]) (st2 := [.ref a0]) hm dX13_fresh_80 rfl ?_
    replace hf := mx_sv_el hf; obtain ⟨v10, e_v10, hf⟩ := hf
    refine sx_get hm dX13_fresh_81 rs_RX13_319 (xgi_el e_v10) ?_
    clear e_v10
    rcases mx_if_el hf with ⟨c35, hf⟩ | ⟨c35, hf⟩
    · refine sb_if_eq hm dX13_fresh_84 (tgt := 89) rfl (fun _ => ?_) (fun z => absurd c35 z)
      refine mx_S.pu (pc2 := 90) (lv2 := [(3, .int u9.1), (2, .int v1), (0, .ref a0), (1, .int a1)]) (st2 := [.ref a0]) hm dX13_fresh_89 rfl ?_
      refine sx_bi (v := 27) hm dX13_fresh_90 (by decide) ?_
      refine mx_S.pu (pc2 := 93) (lv2 := [(3, .int u9.1), (2, .int v1), (0, .ref a0), (1, .int a1)]) (st2 := [.int u9.1, .int 27, .ref a0]) hm dX13_fresh_92 rfl ?_
      refine mx_S.pu (pc2 := 94) (lv2 := [(3, .int u9.1), (2, .int v1), (0, .ref a0), (1, .int a1)]) (st2 := [.int v1, .int u9.1, .int 27, .ref a0]) hm dX13_fresh_93 rfl ?_
      replace hf := mx_gd_el hf; obtain ⟨c11, hf⟩ := hf
      replace hf := mx_sv_el hf; obtain ⟨u12, e_u12, hf⟩ := hf
      refine sx_cv hm dX13_fresh_94 rs_RX13_430 mt_X13_add [.int 27, .int u9.1, .int v1] [] (b := a0) (ci := 13) rfl rfl rfl c11 (Nat.le_of_ble_eq_true rfl) (Nat.le_of_ble_eq_true rfl) (by omega) (by omega) (f_X13_add_ok X (by omega) (by omega) nn a0 27 u9.1 v1 u9.2 e_u12) ?_
      clear e_u12
      show mx_S X F L 415 97 [(3, .int u9.1), (2, .int v1), (0, .ref a0), (1, .int a1)] [.int u12.1] u12.2 0 0 (some (.int r.1), r.2, 0, 0)
      refine mx_S.pu (pc2 := 99) (lv2 := [(4, .int u12.1), (3, .int u9.1), (2, .int v1), (0, .ref a0), (1, .int a1)]) (st2 := []) hm dX13_fresh_97 rfl ?_
      refine mx_S.pu (pc2 := 100) (lv2 := [(4, .int u12.1), (3, .int u9.1), (2, .int v1), (0, .ref a0), (1, .int a1)]) (st2 := [.ref a0]) hm dX13_fresh_99 rfl ?_
      refine mx_S.pu (pc2 := 101) (lv2 := [(4, .int u12.1), (3, .int u9.1), (2, .int v1), (0, .ref a0), (1, .int a1)]) (st2 := [.ref a0, .ref a0]) hm dX13_fresh_100 rfl ?_
      replace hf := mx_sv_el hf; obtain ⟨v13, e_v13, hf⟩ := hf
      refine sx_get hm dX13_fresh_101 rs_RX13_376 (xgi_el e_v13) ?_
      clear e_v13
      refine sx_bi (v := 91) hm dX13_fresh_104 (by decide) ?_
      replace hf := mx_gd_el hf; obtain ⟨c14, hf⟩ := hf
      replace hf := mx_sv_el hf; obtain ⟨u15, e_u15, hf⟩ := hf
      refine sx_cv hm dX13_fresh_106 rs_RX13_383 mt_X13_isSign [.int v13, .int 91] [] (b := a0) (ci := 13) rfl rfl rfl c14 (Nat.le_of_ble_eq_true rfl) (Nat.le_of_ble_eq_true rfl) (by omega) (by omega) (f_X13_isSign_ok X (by omega) (by omega) nn a0 v13 91 u12.2 e_u15) ?_
      clear e_u15
      show mx_S X F L 415 109 [(4, .int u12.1), (3, .int u9.1), (2, .int v1), (0, .ref a0), (1, .int a1)] [.int u15.1] u15.2 0 0 (some (.int r.1), r.2, 0, 0)
      rcases mx_if_el hf with ⟨c34, hf⟩ | ⟨c34, hf⟩
      · refine sb_if_eq hm dX13_fresh_109 (tgt := 163) rfl (fun _ => ?_) (fun z => absurd c34 z)
        refine mx_S.pu (pc2 := 164) (lv2 := [(4, .int u12.1), (3, .int u9.1), (2, .int v1), (0, .ref a0), (1, .int a1)]) (st2 := [.ref a0]) hm dX13_fresh_163 rfl ?_
        refine sx_bi (v := 40) hm dX13_fresh_164 (by decide) ?_
        replace hf := mx_gd_el hf; obtain ⟨c16, hf⟩ := hf
        replace hf := mx_sv_el hf; obtain ⟨u17, e_u17, hf⟩ := hf
        refine sx_cv hm dX13_fresh_166 rs_RX13_406 mt_X13_sign_ [.int 40] [] (b := a0) (ci := 13) rfl rfl rfl c16 (Nat.le_of_ble_eq_true rfl) (Nat.le_of_ble_eq_true rfl) (by omega) (by omega) (f_X13_sign__ok X (by omega) (by omega) nn a0 40 u15.2 e_u17) ?_
        clear e_u17
        show mx_S X F L 415 169 [(4, .int u12.1), (3, .int u9.1), (2, .int v1), (0, .ref a0), (1, .int a1)] [] u17 0 0 (some (.int r.1), r.2, 0, 0)
        refine mx_S.pu (pc2 := 170) (lv2 := [(4, .int u12.1), (3, .int u9.1), (2, .int v1), (0, .ref a0), (1, .int a1)]) (st2 := [.ref a0]) hm dX13_fresh_169 rfl ?_
        refine sx_bi (v := 41) hm dX13_fresh_170 (by decide) ?_
        replace hf := mx_gd_el hf; obtain ⟨c18, hf⟩ := hf
        replace hf := mx_sv_el hf; obtain ⟨u19, e_u19, hf⟩ := hf
        refine sx_cv hm dX13_fresh_172 rs_RX13_406 mt_X13_sign_ [.int 41] [] (b := a0) (ci := 13) rfl rfl rfl c18 (Nat.le_of_ble_eq_true rfl) (Nat.le_of_ble_eq_true rfl) (by omega) (by omega) (f_X13_sign__ok X (by omega) (by omega) nn a0 41 u17 e_u19) ?_
        clear e_u19
        show mx_S X F L 415 175 [(4, .int u12.1), (3, .int u9.1), (2, .int v1), (0, .ref a0), (1, .int a1)] [] u19 0 0 (some (.int r.1), r.2, 0, 0)
        refine mx_S.pu (pc2 := 177) (lv2 := [(4, .int u12.1), (3, .int u9.1), (2, .int v1), (0, .ref a0), (1, .int a1)]) (st2 := [.int u12.1]) hm dX13_fresh_175 rfl ?_
        cases hf
        exact sx_ire hm dX13_fresh_177 rfl rfl
      · refine sb_if_eq hm dX13_fresh_109 (tgt := 163) rfl (fun z => absurd z c34) (fun _ => ?_)
        refine mx_S.pu (pc2 := 113) (lv2 := [(4, .int u12.1), (3, .int u9.1), (2, .int v1), (0, .ref a0), (1, .int a1)]) (st2 := [.ref a0]) hm dX13_fresh_112 rfl ?_
        replace hf := mx_sv_el hf; obtain ⟨v20, e_v20, hf⟩ := hf
        refine sx_get hm dX13_fresh_113 rs_RX13_28 (xgr_el e_v20) ?_
        clear e_v20
        refine mx_S.pu (pc2 := 118) (lv2 := [(4, .int u12.1), (3, .int u9.1), (2, .int v1), (0, .ref a0), (1, .int a1)]) (st2 := [.int u12.1, .ref v20]) hm dX13_fresh_116 rfl ?_
        refine sx_bi (v := 29) hm dX13_fresh_118 (by decide) ?_
        replace hf := mx_sv_el hf; obtain ⟨h21, e_h21, hf⟩ := hf
        refine sx_ast hm dX13_fresh_120 e_h21 ?_
        clear e_h21
        refine mx_S.pu (pc2 := 122) (lv2 := [(4, .int u12.1), (3, .int u9.1), (2, .int v1), (0, .ref a0), (1, .int a1)]) (st2 := [.ref a0]) hm dX13_fresh_121 rfl ?_
        replace hf := mx_sv_el hf; obtain ⟨v22, e_v22, hf⟩ := hf
        refine sx_get hm dX13_fresh_122 rs_RX13_43 (xgr_el e_v22) ?_
        clear e_v22
        refine mx_S.pu (pc2 := 127) (lv2 := [(4, .int u12.1), (3, .int u9.1), (2, .int v1), (0, .ref a0), (1, .int a1)]) (st2 := [.int u12.1, .ref v22]) hm dX13_fresh_125 rfl ?_
        refine mx_S.pu (pc2 := 128) (lv2 := [(4, .int u12.1), (3, .int u9.1), (2, .int v1), (0, .ref a0), (1, .int a1)]) (st2 := [.ref a0, .int u12.1, .ref v22]) hm dX13_fresh_127 rfl ?_
        replace hf := mx_sv_el hf; obtain ⟨v23, e_v23, hf⟩ := hf
        refine sx_get hm dX13_fresh_128 rs_RX13_376 (xgi_el e_v23) ?_
        clear e_v23
        replace hf := mx_sv_el hf; obtain ⟨h24, e_h24, hf⟩ := hf
        refine sx_ast hm dX13_fresh_131 e_h24 ?_
        clear e_h24
        refine mx_S.pu (pc2 := 133) (lv2 := [(4, .int u12.1), (3, .int u9.1), (2, .int v1), (0, .ref a0), (1, .int a1)]) (st2 := [.ref a0]) hm dX13_fresh_132 rfl ?_
        refine mx_S.pu (pc2 := 134) (lv2 := [(4, .int u12.1), (3, .int u9.1), (2, .int v1), (0, .ref a0), (1, .int a1)]) (st2 := [.ref a0, .ref a0]) hm dX13_fresh_133 rfl ?_
        replace hf := mx_sv_el hf; obtain ⟨v25, e_v25, hf⟩ := hf
        refine sx_get hm dX13_fresh_134 rs_RX13_376 (xgi_el e_v25) ?_
        clear e_v25
        refine sx_ic (v := 1) hm dX13_fresh_137 (by decide) ?_
        replace hf := xl_el hf; obtain ⟨v26, e_v26, hf⟩ := hf
        refine mx_S.pu (pc2 := 139) (lv2 := [(4, .int u12.1), (3, .int u9.1), (2, .int v1), (0, .ref a0), (1, .int a1)]) (st2 := [.int v26, .ref a0]) hm dX13_fresh_138 (by rw [← e_v26]; rfl) ?_
        clear e_v26
        replace hf := mx_sv_el hf; obtain ⟨h27, e_h27, hf⟩ := hf
        refine sx_put hm dX13_fresh_139 rs_RX13_376 ft_13_23 ⟨rfl, rfl⟩ (fun z => by cases z) e_h27 ?_
        clear e_h27
        refine mx_S.pu (pc2 := 143) (lv2 := [(4, .int u12.1), (3, .int u9.1), (2, .int v1), (0, .ref a0), (1, .int a1)]) (st2 := [.ref a0]) hm dX13_fresh_142 rfl ?_
        replace hf := mx_sv_el hf; obtain ⟨v28, e_v28, hf⟩ := hf
        refine sx_get hm dX13_fresh_143 rs_RX13_37 (xgr_el e_v28) ?_
        clear e_v28
        refine mx_S.pu (pc2 := 148) (lv2 := [(4, .int u12.1), (3, .int u9.1), (2, .int v1), (0, .ref a0), (1, .int a1)]) (st2 := [.int u12.1, .ref v28]) hm dX13_fresh_146 rfl ?_
        refine mx_S.pu (pc2 := 149) (lv2 := [(4, .int u12.1), (3, .int u9.1), (2, .int v1), (0, .ref a0), (1, .int a1)]) (st2 := [.ref a0, .int u12.1, .ref v28]) hm dX13_fresh_148 rfl ?_
        refine mx_S.pu (pc2 := 150) (lv2 := [(4, .int u12.1), (3, .int u9.1), (2, .int v1), (0, .ref a0), (1, .int a1)]) (st2 := [.int a1, .ref a0, .int u12.1, .ref v28]) hm dX13_fresh_149 rfl ?_
        replace hf := mx_gd_el hf; obtain ⟨c29, hf⟩ := hf
        replace hf := mx_sv_el hf; obtain ⟨u30, e_u30, hf⟩ := hf
        refine sx_cv hm dX13_fresh_150 rs_RX13_444 mt_X13_expression [.int a1] [.int u12.1, .ref v28] (b := a0) (ci := 13) rfl rfl rfl c29 (Nat.le_of_ble_eq_true rfl) (Nat.le_of_ble_eq_true rfl) (by omega) (by omega) (hrc.1 (by omega) (by omega) a0 a1 h27 e_u30) ?_
        clear e_u30
        show mx_S X F L 415 153 [(4, .int u12.1), (3, .int u9.1), (2, .int v1), (0, .ref a0), (1, .int a1)] [.int u30.1, .int u12.1, .ref v28] u30.2 0 0 (some (.int r.1), r.2, 0, 0)
        replace hf := mx_sv_el hf; obtain ⟨h31, e_h31, hf⟩ := hf
        refine sx_ast hm dX13_fresh_153 e_h31 ?_
        clear e_h31
        refine mx_S.pu (pc2 := 155) (lv2 := [(4, .int u12.1), (3, .int u9.1), (2, .int v1), (0, .ref a0), (1, .int a1)]) (st2 := [.ref a0]) hm dX13_fresh_154 rfl ?_
        refine sx_bi (v := 93) hm dX13_fresh_155 (by decide) ?_
        replace hf := mx_gd_el hf; obtain ⟨c32, hf⟩ := hf
        replace hf := mx_sv_el hf; obtain ⟨u33, e_u33, hf⟩ := hf
        refine sx_cv hm dX13_fresh_157 rs_RX13_406 mt_X13_sign_ [.int 93] [] (b := a0) (ci := 13) rfl rfl rfl c32 (Nat.le_of_ble_eq_true rfl) (Nat.le_of_ble_eq_true rfl) (by omega) (by omega) (f_X13_sign__ok X (by omega) (by omega) nn a0 93 h31 e_u33) ?_
        clear e_u33
        show mx_S X F L 415 160 [(4, .int u12.1), (3, .int u9.1), (2, .int v1), (0, .ref a0), (1, .int a1)] [] u33 0 0 (some (.int r.1), r.2, 0, 0)
        refine mx_S.pu (pc2 := 175) (lv2 := [(4, .int u12.1), (3, .int u9.1), (2, .int v1), (0, .ref a0), (1, .int a1)]) (st2 := []) hm dX13_fresh_160 rfl ?_
        refine mx_S.pu (pc2 := 177) (lv2 := [(4, .int u12.1), (3, .int u9.1), (2, .int v1), (0, .ref a0), (1, .int a1)]) (st2 := [.int u12.1]) hm dX13_fresh_175 rfl ?_
        cases hf
        exact sx_ire hm dX13_fresh_177 rfl rfl
    · refine sb_if_eq hm dX13_fresh_84 (tgt := 89) rfl (fun z => absurd z c35) (fun _ => ?_)
      refine sx_ic (v := (-1)) hm dX13_fresh_87 (by decide) ?_
      cases hf
      exact sx_ire hm dX13_fresh_88 rfl rfl
  · refine sb_if_eq hm dX13_fresh_25 (tgt := 75) rfl (fun z => absurd z c50) (fun _ => ?_)
    refine mx_S.pu (pc2 := 29) (lv2 := [(2, .int v1), (0, .ref a0), (1, .int a1)]) (st2 := [.ref a0]) hm dX13_fresh_28 rfl ?_
    refine mx_S.pu (pc2 := 30) (lv2 := [(2, .int v1), (0, .ref a0), (1, .int a1)]) (st2 := [.ref a0, .ref a0]) hm dX13_fresh_29 rfl ?_
    replace hf := mx_sv_el hf; obtain ⟨v36, e_v36, hf⟩ := hf
    refine sx_get hm dX13_fresh_30 rs_RX13_376 (xgi_el e_v36) ?_
    clear e_v36
    refine sx_ic (v := 1) hm dX13_fresh_33 (by decide) ?_
    replace hf := xl_el hf; obtain ⟨v37, e_v37, hf⟩ := hf
    refine mx_S.pu (pc2 := 35) (lv2 := [(2, .int v1), (0, .ref a0), (1, .int a1)]) (st2 := [.int v37, .ref a0]) hm dX13_fresh_34 (by rw [← e_v37]; rfl) ?_
    clear e_v37
    replace hf := mx_sv_el hf; obtain ⟨h38, e_h38, hf⟩ := hf
    refine sx_put hm dX13_fresh_35 rs_RX13_376 ft_13_23 ⟨rfl, rfl⟩ (fun z => by cases z) e_h38 ?_
    clear e_h38
    refine mx_S.pu (pc2 := 39) (lv2 := [(2, .int v1), (0, .ref a0), (1, .int a1)]) (st2 := [.ref a0]) hm dX13_fresh_38 rfl ?_
    refine sx_bi (v := 28) hm dX13_fresh_39 (by decide) ?_
    refine mx_S.pu (pc2 := 42) (lv2 := [(2, .int v1), (0, .ref a0), (1, .int a1)]) (st2 := [.ref a0, .int 28, .ref a0]) hm dX13_fresh_41 rfl ?_
    replace hf := mx_sv_el hf; obtain ⟨v39, e_v39, hf⟩ := hf
    refine sx_get hm dX13_fresh_42 rs_RX13_376 (xgi_el e_v39) ?_
    clear e_v39
    refine mx_S.pu (pc2 := 46) (lv2 := [(2, .int v1), (0, .ref a0), (1, .int a1)]) (st2 := [.int v1, .int v39, .int 28, .ref a0]) hm dX13_fresh_45 rfl ?_
    replace hf := mx_gd_el hf; obtain ⟨c40, hf⟩ := hf
    replace hf := mx_sv_el hf; obtain ⟨u41, e_u41, hf⟩ := hf
    refine sx_cv hm dX13_fresh_46 rs_RX13_430 mt_X13_add [.int 28, .int v39, .int v1] [] (b := a0) (ci := 13) rfl rfl rfl c40 (Nat.le_of_ble_eq_true rfl) (Nat.le_of_ble_eq_true rfl) (by omega) (by omega) (f_X13_add_ok X (by omega) (by omega) nn a0 28 v39 v1 h38 e_u41) ?_
    clear e_u41
    show mx_S X F L 415 49 [(2, .int v1), (0, .ref a0), (1, .int a1)] [.int u41.1] u41.2 0 0 (some (.int r.1), r.2, 0, 0)
    refine mx_S.pu (pc2 := 50) (lv2 := [(3, .int u41.1), (2, .int v1), (0, .ref a0), (1, .int a1)]) (st2 := []) hm dX13_fresh_49 rfl ?_
    refine mx_S.pu (pc2 := 51) (lv2 := [(3, .int u41.1), (2, .int v1), (0, .ref a0), (1, .int a1)]) (st2 := [.ref a0]) hm dX13_fresh_50 rfl ?_
    refine sx_bi (v := 91) hm dX13_fresh_51 (by decide) ?_
    replace hf := mx_gd_el hf; obtain ⟨c42, hf⟩ := hf
    replace hf := mx_sv_el hf; obtain ⟨u43, e_u43, hf⟩ := hf
    refine sx_cv hm dX13_fresh_53 rs_RX13_406 mt_X13_sign_ [.int 91] [] (b := a0) (ci := 13) rfl rfl rfl c42 (Nat.le_of_ble_eq_true rfl) (Nat.le_of_ble_eq_true rfl) (by omega) (by omega) (f_X13_sign__ok X (by omega) (by omega) nn a0 91 u41.2 e_u43) ?_
    clear e_u43
    show mx_S X F L 415 56 [(3, .int u41.1), (2, .int v1), (0, .ref a0), (1, .int a1)] [] u43 0 0 (some (.int r.1), r.2, 0, 0)
    refine mx_S.pu (pc2 := 57) (lv2 := [(3, .int u41.1), (2, .int v1), (0, .ref a0), (1, .int a1)]) (st2 := [.ref a0]) hm dX13_fresh_56 rfl ?_
    replace hf := mx_sv_el hf; obtain ⟨v44, e_v44, hf⟩ := hf
    refine sx_get hm dX13_fresh_57 rs_RX13_37 (xgr_el e_v44) ?_
    clear e_v44
    refine mx_S.pu (pc2 := 61) (lv2 := [(3, .int u41.1), (2, .int v1), (0, .ref a0), (1, .int a1)]) (st2 := [.int u41.1, .ref v44]) hm dX13_fresh_60 rfl ?_
    refine mx_S.pu (pc2 := 62) (lv2 := [(3, .int u41.1), (2, .int v1), (0, .ref a0), (1, .int a1)]) (st2 := [.ref a0, .int u41.1, .ref v44]) hm dX13_fresh_61 rfl ?_
    refine mx_S.pu (pc2 := 63) (lv2 := [(3, .int u41.1), (2, .int v1), (0, .ref a0), (1, .int a1)]) (st2 := [.int a1, .ref a0, .int u41.1, .ref v44]) hm dX13_fresh_62 rfl ?_
    replace hf := mx_gd_el hf; obtain ⟨c45, hf⟩ := hf
    replace hf := mx_sv_el hf; obtain ⟨u46, e_u46, hf⟩ := hf
    refine sx_cv hm dX13_fresh_63 rs_RX13_444 mt_X13_expression [.int a1] [.int u41.1, .ref v44] (b := a0) (ci := 13) rfl rfl rfl c45 (Nat.le_of_ble_eq_true rfl) (Nat.le_of_ble_eq_true rfl) (by omega) (by omega) (hrc.1 (by omega) (by omega) a0 a1 u43 e_u46) ?_
    clear e_u46
    show mx_S X F L 415 66 [(3, .int u41.1), (2, .int v1), (0, .ref a0), (1, .int a1)] [.int u46.1, .int u41.1, .ref v44] u46.2 0 0 (some (.int r.1), r.2, 0, 0)
    replace hf := mx_sv_el hf; obtain ⟨h47, e_h47, hf⟩ := hf
    refine sx_ast hm dX13_fresh_66 e_h47 ?_
    clear e_h47
    refine mx_S.pu (pc2 := 68) (lv2 := [(3, .int u41.1), (2, .int v1), (0, .ref a0), (1, .int a1)]) (st2 := [.ref a0]) hm dX13_fresh_67 rfl ?_
    refine sx_bi (v := 93) hm dX13_fresh_68 (by decide) ?_
    replace hf := mx_gd_el hf; obtain ⟨c48, hf⟩ := hf
    replace hf := mx_sv_el hf; obtain ⟨u49, e_u49, hf⟩ := hf
    refine sx_cv hm dX13_fresh_70 rs_RX13_406 mt_X13_sign_ [.int 93] [] (b := a0) (ci := 13) rfl rfl rfl c48 (Nat.le_of_ble_eq_true rfl) (Nat.le_of_ble_eq_true rfl) (by omega) (by omega) (f_X13_sign__ok X (by omega) (by omega) nn a0 93 h47 e_u49) ?_
    clear e_u49
    show mx_S X F L 415 73 [(3, .int u41.1), (2, .int v1), (0, .ref a0), (1, .int a1)] [] u49 0 0 (some (.int r.1), r.2, 0, 0)
    refine mx_S.pu (pc2 := 74) (lv2 := [(3, .int u41.1), (2, .int v1), (0, .ref a0), (1, .int a1)]) (st2 := [.int u41.1]) hm dX13_fresh_73 rfl ?_
    cases hf
    exact sx_ire hm dX13_fresh_74 rfl rfl
theorem g_X13_expression_ok (X : Nat × (Nat → Int32)) (nn : Nat) : ∀ d, hg_X13_expression X d (g_X13_expression nn d) := by
  intro d
  induction d with
  | zero => exact ⟨(fun {F L} _ _ a0 a1 h {r} hf => by cases hf), (fun {F L} _ _ a0 a1 a2 h {r} hf => by cases hf), (fun {F L} _ _ a0 a1 h {r} hf => by cases hf), (fun {F L} _ _ a0 a1 h {r} hf => by cases hf), (fun {F L} _ _ a0 a1 h {r} hf => by cases hf), (fun {F L} _ _ a0 a1 h {r} hf => by cases hf), (fun {F L} _ _ a0 a1 h {r} hf => by cases hf)⟩
  | succ d ih => exact ⟨(fun {F L} hF hL a0 a1 h {r} hf => o_X13_expression_ok X hF hL nn ih a0 a1 h hf), (fun {F L} hF hL a0 a1 a2 h {r} hf => o_X13_sides_ok X hF hL nn ih a0 a1 a2 h hf), (fun {F L} hF hL a0 a1 h {r} hf => o_X13_unary_ok X hF hL nn ih a0 a1 h hf), (fun {F L} hF hL a0 a1 h {r} hf => o_X13_arguments_ok X hF hL nn ih a0 a1 h hf), (fun {F L} hF hL a0 a1 h {r} hf => o_X13_postfix_ok X hF hL nn ih a0 a1 h hf), (fun {F L} hF hL a0 a1 h {r} hf => o_X13_primary_ok X hF hL nn ih a0 a1 h hf), (fun {F L} hF hL a0 a1 h {r} hf => o_X13_fresh_ok X hF hL nn ih a0 a1 h hf)⟩
theorem f_X13_expression_ok (X : Nat × (Nat → Int32)) {F L : Nat} (hF : 703 ≤ F) (hL : 19663 ≤ L) (nn : Nat) (a0 : Nat) (a1 : Int32) (h : mx_H) {r : (Int32 × mx_H)} (hf : f_X13_expression nn a0 a1 h = some r) : mx_R X F L 407 [.ref a0, .int a1] h (some (.int r.1), r.2, 0, 0) := (g_X13_expression_ok X nn 700).1 (by omega) (by omega) a0 a1 h hf
theorem f_X13_sides_ok (X : Nat × (Nat → Int32)) {F L : Nat} (hF : 703 ≤ F) (hL : 19663 ≤ L) (nn : Nat) (a0 : Nat) (a1 : Int32) (a2 : Int32) (h : mx_H) {r : (Int32 × mx_H)} (hf : f_X13_sides nn a0 a1 a2 h = some r) : mx_R X F L 409 [.ref a0, .int a1, .int a2] h (some (.int r.1), r.2, 0, 0) := (g_X13_expression_ok X nn 700).2.1 (by omega) (by omega) a0 a1 a2 h hf
theorem f_X13_unary_ok (X : Nat × (Nat → Int32)) {F L : Nat} (hF : 703 ≤ F) (hL : 19663 ≤ L) (nn : Nat) (a0 : Nat) (a1 : Int32) (h : mx_H) {r : (Int32 × mx_H)} (hf : f_X13_unary nn a0 a1 h = some r) : mx_R X F L 411 [.ref a0, .int a1] h (some (.int r.1), r.2, 0, 0) := (g_X13_expression_ok X nn 700).2.2.1 (by omega) (by omega) a0 a1 h hf
theorem f_X13_arguments_ok (X : Nat × (Nat → Int32)) {F L : Nat} (hF : 703 ≤ F) (hL : 19663 ≤ L) (nn : Nat) (a0 : Nat) (a1 : Int32) (h : mx_H) {r : (Int32 × mx_H)} (hf : f_X13_arguments nn a0 a1 h = some r) : mx_R X F L 412 [.ref a0, .int a1] h (some (.int r.1), r.2, 0, 0) := (g_X13_expression_ok X nn 700).2.2.2.1 (by omega) (by omega) a0 a1 h hf
theorem f_X13_postfix_ok (X : Nat × (Nat → Int32)) {F L : Nat} (hF : 703 ≤ F) (hL : 19663 ≤ L) (nn : Nat) (a0 : Nat) (a1 : Int32) (h : mx_H) {r : (Int32 × mx_H)} (hf : f_X13_postfix nn a0 a1 h = some r) : mx_R X F L 413 [.ref a0, .int a1] h (some (.int r.1), r.2, 0, 0) := (g_X13_expression_ok X nn 700).2.2.2.2.1 (by omega) (by omega) a0 a1 h hf
theorem f_X13_primary_ok (X : Nat × (Nat → Int32)) {F L : Nat} (hF : 703 ≤ F) (hL : 19663 ≤ L) (nn : Nat) (a0 : Nat) (a1 : Int32) (h : mx_H) {r : (Int32 × mx_H)} (hf : f_X13_primary nn a0 a1 h = some r) : mx_R X F L 414 [.ref a0, .int a1] h (some (.int r.1), r.2, 0, 0) := (g_X13_expression_ok X nn 700).2.2.2.2.2.1 (by omega) (by omega) a0 a1 h hf
theorem f_X13_fresh_ok (X : Nat × (Nat → Int32)) {F L : Nat} (hF : 703 ≤ F) (hL : 19663 ≤ L) (nn : Nat) (a0 : Nat) (a1 : Int32) (h : mx_H) {r : (Int32 × mx_H)} (hf : f_X13_fresh nn a0 a1 h = some r) : mx_R X F L 415 [.ref a0, .int a1] h (some (.int r.1), r.2, 0, 0) := (g_X13_expression_ok X nn 700).2.2.2.2.2.2 (by omega) (by omega) a0 a1 h hf
