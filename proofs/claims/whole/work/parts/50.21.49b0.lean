set_option maxHeartbeats 4000000 in
set_option maxRecDepth 20000 in
theorem j_X13_loaded_138_ok (X : Nat × (Nat → Int32)) {F L : Nat} (hF : 10 ≤ F) (hL : 238 ≤ L) (nn : Nat) (h : mx_H) {r : (Int32 × mx_H)} (hf : j_X13_loaded_138 nn h = some r) : mx_S X F L 513 138 [] [] h 0 0 (some (.int r.1), r.2, 0, 0) := by
  have hm : mx_mt 513 = some (yX13_loaded, cX13_loaded, 3, (some .int)) := mt_X13_loaded
  unfold j_X13_loaded_138 at hf
  refine sx_ic (v := (-1)) hm dX13_loaded_138 (by decide) ?_
  cases hf
  exact sx_ire hm dX13_loaded_139 rfl rfl
set_option maxHeartbeats 4000000 in
set_option maxRecDepth 20000 in
theorem f_X13_loaded_ok (X : Nat × (Nat → Int32)) {F L : Nat} (hF : 10 ≤ F) (hL : 238 ≤ L) (nn : Nat) (a0 : Nat) (h : mx_H) {r : (Int32 × mx_H)} (hf : f_X13_loaded nn a0 h = some r) : mx_R X F L 513 [.ref a0] h (some (.int r.1), r.2, 0, 0) := by
  have hm : mx_mt 513 = some (yX13_loaded, cX13_loaded, 3, (some .int)) := mt_X13_loaded
  show mx_S X F L 513 0 [(0, .ref a0)] [] h 0 0 (some (.int r.1), r.2, 0, 0)
  unfold f_X13_loaded at hf
  refine mx_S.pu (pc2 := 1) (lv2 := [(0, .ref a0)]) (st2 := [.ref a0]) hm dX13_loaded_0 rfl ?_
  replace hf := mx_sv_el hf; obtain ⟨v1, e_v1, hf⟩ := hf
  refine sx_get hm dX13_loaded_1 rs_RX13_833 (xgi_el e_v1) ?_
  clear e_v1
  refine sx_bi (v := 8) hm dX13_loaded_4 (by decide) ?_
  rcases mx_if_el hf with ⟨c50, hf⟩ | ⟨c50, hf⟩
  · refine sb_ic_ne hm dX13_loaded_6 (tgt := 46) rfl (fun _ => ?_) (fun z => absurd c50 z)
    refine mx_S.pu (pc2 := 47) (lv2 := [(0, .ref a0)]) (st2 := [.ref a0]) hm dX13_loaded_46 rfl ?_
    refine mx_S.pu (pc2 := 48) (lv2 := [(0, .ref a0)]) (st2 := [.ref a0, .ref a0]) hm dX13_loaded_47 rfl ?_
    replace hf := mx_sv_el hf; obtain ⟨v2, e_v2, hf⟩ := hf
    refine sx_get hm dX13_loaded_48 rs_RX13_833 (xgi_el e_v2) ?_
    clear e_v2
    replace hf := mx_gd_el hf; obtain ⟨c3, hf⟩ := hf
    replace hf := mx_sv_el hf; obtain ⟨u4, e_u4, hf⟩ := hf
    refine sx_cv hm dX13_loaded_51 rs_RX13_843 mt_X13_scan [.int v2] [] (b := a0) (ci := 13) rfl rfl rfl c3 (Nat.le_of_ble_eq_true rfl) (Nat.le_of_ble_eq_true rfl) (by omega) (by omega) (f_X13_scan_ok X (by omega) (by omega) nn a0 v2 h e_u4) ?_
    clear e_u4
    show mx_S X F L 513 54 [(0, .ref a0)] [] u4 0 0 (some (.int r.1), r.2, 0, 0)
    refine mx_S.pu (pc2 := 55) (lv2 := [(0, .ref a0)]) (st2 := [.ref a0]) hm dX13_loaded_54 rfl ?_
    replace hf := mx_sv_el hf; obtain ⟨v5, e_v5, hf⟩ := hf
    refine sx_get hm dX13_loaded_55 rs_RX13_764 (xgi_el e_v5) ?_
    clear e_v5
    refine sx_ic (v := (-1)) hm dX13_loaded_58 (by decide) ?_
    rcases mx_if_el hf with ⟨c40, hf⟩ | ⟨c40, hf⟩
    · refine sb_ic_eq hm dX13_loaded_59 (tgt := 70) rfl (fun _ => ?_) (fun z => absurd c40 z)
      refine mx_S.pu (pc2 := 71) (lv2 := [(0, .ref a0)]) (st2 := [.ref a0]) hm dX13_loaded_70 rfl ?_
      replace hf := mx_sv_el hf; obtain ⟨v6, e_v6, hf⟩ := hf
      refine sx_get hm dX13_loaded_71 rs_RX13_215 (xgr_el e_v6) ?_
      clear e_v6
      refine sx_si (v := 256) hm dX13_loaded_74 (by decide) ?_
      refine mx_S.pu (pc2 := 78) (lv2 := [(0, .ref a0)]) (st2 := [.ref a0, .int 256, .ref v6]) hm dX13_loaded_77 rfl ?_
      replace hf := mx_sv_el hf; obtain ⟨v7, e_v7, hf⟩ := hf
      refine sx_get hm dX13_loaded_78 rs_RX13_833 (xgi_el e_v7) ?_
      clear e_v7
      replace hf := xl_el hf; obtain ⟨v8, e_v8, hf⟩ := hf
      refine mx_S.pu (pc2 := 82) (lv2 := [(0, .ref a0)]) (st2 := [.int v8, .ref v6]) hm dX13_loaded_81 (by rw [← e_v8]; rfl) ?_
      clear e_v8
      refine mx_S.pu (pc2 := 83) (lv2 := [(0, .ref a0)]) (st2 := [.ref a0, .int v8, .ref v6]) hm dX13_loaded_82 rfl ?_
      replace hf := mx_sv_el hf; obtain ⟨v9, e_v9, hf⟩ := hf
      refine sx_get hm dX13_loaded_83 rs_RX13_245 (xgr_el e_v9) ?_
      clear e_v9
      refine mx_S.pu (pc2 := 87) (lv2 := [(0, .ref a0)]) (st2 := [.ref a0, .ref v9, .int v8, .ref v6]) hm dX13_loaded_86 rfl ?_
      replace hf := mx_sv_el hf; obtain ⟨v10, e_v10, hf⟩ := hf
      refine sx_get hm dX13_loaded_87 rs_RX13_215 (xgr_el e_v10) ?_
      clear e_v10
      refine sx_si (v := 256) hm dX13_loaded_90 (by decide) ?_
      refine mx_S.pu (pc2 := 94) (lv2 := [(0, .ref a0)]) (st2 := [.ref a0, .int 256, .ref v10, .ref v9, .int v8, .ref v6]) hm dX13_loaded_93 rfl ?_
      replace hf := mx_sv_el hf; obtain ⟨v11, e_v11, hf⟩ := hf
      refine sx_get hm dX13_loaded_94 rs_RX13_833 (xgi_el e_v11) ?_
      clear e_v11
      replace hf := xl_el hf; obtain ⟨v12, e_v12, hf⟩ := hf
      refine mx_S.pu (pc2 := 98) (lv2 := [(0, .ref a0)]) (st2 := [.int v12, .ref v10, .ref v9, .int v8, .ref v6]) hm dX13_loaded_97 (by rw [← e_v12]; rfl) ?_
      clear e_v12
      refine mx_S.pu (pc2 := 99) (lv2 := [(0, .ref a0)]) (st2 := [.ref a0, .int v12, .ref v10, .ref v9, .int v8, .ref v6]) hm dX13_loaded_98 rfl ?_
      replace hf := mx_sv_el hf; obtain ⟨v13, e_v13, hf⟩ := hf
      refine sx_get hm dX13_loaded_99 rs_RX13_221 (xgr_el e_v13) ?_
      clear e_v13
      refine mx_S.pu (pc2 := 103) (lv2 := [(0, .ref a0)]) (st2 := [.ref a0, .ref v13, .int v12, .ref v10, .ref v9, .int v8, .ref v6]) hm dX13_loaded_102 rfl ?_
      replace hf := mx_sv_el hf; obtain ⟨v14, e_v14, hf⟩ := hf
      refine sx_get hm dX13_loaded_103 rs_RX13_833 (xgi_el e_v14) ?_
      clear e_v14
      replace hf := mx_sv_el hf; obtain ⟨v15, e_v15, hf⟩ := hf
      refine sx_ald hm dX13_loaded_106 e_v15 ?_
      clear e_v15
      replace hf := xl_el hf; obtain ⟨v16, e_v16, hf⟩ := hf
      refine mx_S.pu (pc2 := 108) (lv2 := [(0, .ref a0)]) (st2 := [.int v16, .ref v10, .ref v9, .int v8, .ref v6]) hm dX13_loaded_107 (by rw [← e_v16]; rfl) ?_
      clear e_v16
      replace hf := mx_sv_el hf; obtain ⟨v17, e_v17, hf⟩ := hf
      refine sx_ald hm dX13_loaded_108 e_v17 ?_
      clear e_v17
      refine sx_ic (v := 1) hm dX13_loaded_109 (by decide) ?_
      replace hf := xl_el hf; obtain ⟨v18, e_v18, hf⟩ := hf
      refine mx_S.pu (pc2 := 111) (lv2 := [(0, .ref a0)]) (st2 := [.int v18, .ref v9, .int v8, .ref v6]) hm dX13_loaded_110 (by rw [← e_v18]; rfl) ?_
      clear e_v18
      replace hf := mx_sv_el hf; obtain ⟨v19, e_v19, hf⟩ := hf
      refine sx_ald hm dX13_loaded_111 e_v19 ?_
      clear e_v19
      replace hf := xl_el hf; obtain ⟨v20, e_v20, hf⟩ := hf
      refine mx_S.pu (pc2 := 113) (lv2 := [(0, .ref a0)]) (st2 := [.int v20, .ref v6]) hm dX13_loaded_112 (by rw [← e_v20]; rfl) ?_
      clear e_v20
      replace hf := mx_sv_el hf; obtain ⟨v21, e_v21, hf⟩ := hf
      refine sx_ald hm dX13_loaded_113 e_v21 ?_
      clear e_v21
      refine mx_S.pu (pc2 := 115) (lv2 := [(1, .int v21), (0, .ref a0)]) (st2 := []) hm dX13_loaded_114 rfl ?_
      refine mx_S.pu (pc2 := 116) (lv2 := [(1, .int v21), (0, .ref a0)]) (st2 := [.ref a0]) hm dX13_loaded_115 rfl ?_
      refine mx_S.pu (pc2 := 117) (lv2 := [(1, .int v21), (0, .ref a0)]) (st2 := [.ref a0, .ref a0]) hm dX13_loaded_116 rfl ?_
      replace hf := mx_sv_el hf; obtain ⟨v22, e_v22, hf⟩ := hf
      refine sx_get hm dX13_loaded_117 rs_RX13_245 (xgr_el e_v22) ?_
      clear e_v22
      refine mx_S.pu (pc2 := 121) (lv2 := [(1, .int v21), (0, .ref a0)]) (st2 := [.int v21, .ref v22, .ref a0]) hm dX13_loaded_120 rfl ?_
      refine sx_ic (v := 2) hm dX13_loaded_121 (by decide) ?_
      replace hf := xl_el hf; obtain ⟨v23, e_v23, hf⟩ := hf
      refine mx_S.pu (pc2 := 123) (lv2 := [(1, .int v21), (0, .ref a0)]) (st2 := [.int v23, .ref v22, .ref a0]) hm dX13_loaded_122 (by rw [← e_v23]; rfl) ?_
      clear e_v23
      refine mx_S.pu (pc2 := 124) (lv2 := [(1, .int v21), (0, .ref a0)]) (st2 := [.ref a0, .int v23, .ref v22, .ref a0]) hm dX13_loaded_123 rfl ?_
      replace hf := mx_sv_el hf; obtain ⟨v24, e_v24, hf⟩ := hf
      refine sx_get hm dX13_loaded_124 rs_RX13_245 (xgr_el e_v24) ?_
      clear e_v24
      refine mx_S.pu (pc2 := 128) (lv2 := [(1, .int v21), (0, .ref a0)]) (st2 := [.int v21, .ref v24, .int v23, .ref v22, .ref a0]) hm dX13_loaded_127 rfl ?_
      refine sx_ic (v := 1) hm dX13_loaded_128 (by decide) ?_
      replace hf := xl_el hf; obtain ⟨v25, e_v25, hf⟩ := hf
      refine mx_S.pu (pc2 := 130) (lv2 := [(1, .int v21), (0, .ref a0)]) (st2 := [.int v25, .ref v24, .int v23, .ref v22, .ref a0]) hm dX13_loaded_129 (by rw [← e_v25]; rfl) ?_
      clear e_v25
      replace hf := mx_sv_el hf; obtain ⟨v26, e_v26, hf⟩ := hf
      refine sx_ald hm dX13_loaded_130 e_v26 ?_
      clear e_v26
      replace hf := mx_gd_el hf; obtain ⟨c27, hf⟩ := hf
      replace hf := mx_sv_el hf; obtain ⟨u28, e_u28, hf⟩ := hf
      refine sx_cv hm dX13_loaded_131 rs_RX13_849 mt_X13_classNamed [.ref v22, .int v23, .int v26] [] (b := a0) (ci := 13) rfl rfl rfl c27 (Nat.le_of_ble_eq_true rfl) (Nat.le_of_ble_eq_true rfl) (by omega) (by omega) (f_X13_classNamed_ok X (by omega) (by omega) nn a0 v22 v23 v26 u4 e_u28) ?_
      clear e_u28
      show mx_S X F L 513 134 [(1, .int v21), (0, .ref a0)] [.int u28.1] u28.2 0 0 (some (.int r.1), r.2, 0, 0)
      refine sx_ic (v := (-1)) hm dX13_loaded_134 (by decide) ?_
      rcases mx_if_el hf with ⟨c37, hf⟩ | ⟨c37, hf⟩
      · refine sb_ic_eq hm dX13_loaded_135 (tgt := 140) rfl (fun _ => ?_) (fun z => absurd c37 z)
        refine mx_S.pu (pc2 := 141) (lv2 := [(1, .int v21), (0, .ref a0)]) (st2 := [.ref a0]) hm dX13_loaded_140 rfl ?_
        refine mx_S.pu (pc2 := 142) (lv2 := [(1, .int v21), (0, .ref a0)]) (st2 := [.ref a0, .ref a0]) hm dX13_loaded_141 rfl ?_
        replace hf := mx_sv_el hf; obtain ⟨v29, e_v29, hf⟩ := hf
        refine sx_get hm dX13_loaded_142 rs_RX13_833 (xgi_el e_v29) ?_
        clear e_v29
        replace hf := mx_gd_el hf; obtain ⟨c30, hf⟩ := hf
        replace hf := mx_sv_el hf; obtain ⟨u31, e_u31, hf⟩ := hf
        refine sx_cv hm dX13_loaded_145 rs_RX13_852 mt_X13_install [.int v29] [] (b := a0) (ci := 13) rfl rfl rfl c30 (Nat.le_of_ble_eq_true rfl) (Nat.le_of_ble_eq_true rfl) (by omega) (by omega) (f_X13_install_ok X (by omega) (by omega) nn a0 v29 u28.2 e_u31) ?_
        clear e_u31
        show mx_S X F L 513 148 [(1, .int v21), (0, .ref a0)] [.int u31.1] u31.2 0 0 (some (.int r.1), r.2, 0, 0)
        refine mx_S.pu (pc2 := 149) (lv2 := [(2, .int u31.1), (1, .int v21), (0, .ref a0)]) (st2 := []) hm dX13_loaded_148 rfl ?_
        refine mx_S.pu (pc2 := 150) (lv2 := [(2, .int u31.1), (1, .int v21), (0, .ref a0)]) (st2 := [.ref a0]) hm dX13_loaded_149 rfl ?_
        refine mx_S.pu (pc2 := 151) (lv2 := [(2, .int u31.1), (1, .int v21), (0, .ref a0)]) (st2 := [.ref a0, .ref a0]) hm dX13_loaded_150 rfl ?_
        replace hf := mx_sv_el hf; obtain ⟨v32, e_v32, hf⟩ := hf
        refine sx_get hm dX13_loaded_151 rs_RX13_833 (xgi_el e_v32) ?_
        clear e_v32
        refine sx_ic (v := 1) hm dX13_loaded_154 (by decide) ?_
        replace hf := xl_el hf; obtain ⟨v33, e_v33, hf⟩ := hf
        refine mx_S.pu (pc2 := 156) (lv2 := [(2, .int u31.1), (1, .int v21), (0, .ref a0)]) (st2 := [.int v33, .ref a0]) hm dX13_loaded_155 (by rw [← e_v33]; rfl) ?_
        clear e_v33
        replace hf := mx_sv_el hf; obtain ⟨h34, e_h34, hf⟩ := hf
        refine sx_put hm dX13_loaded_156 rs_RX13_833 ft_13_98 ⟨rfl, rfl⟩ (fun z => by cases z) e_h34 ?_
        clear e_h34
        refine mx_S.pu (pc2 := 160) (lv2 := [(2, .int u31.1), (1, .int v21), (0, .ref a0)]) (st2 := [.ref a0]) hm dX13_loaded_159 rfl ?_
        refine sx_ic (v := 0) hm dX13_loaded_160 (by decide) ?_
        replace hf := mx_sv_el hf; obtain ⟨h35, e_h35, hf⟩ := hf
        refine sx_put hm dX13_loaded_161 rs_RX13_855 ft_13_99 ⟨by decide, by decide⟩ (fun z => by cases z) e_h35 ?_
        clear e_h35
        refine mx_S.pu (pc2 := 165) (lv2 := [(2, .int u31.1), (1, .int v21), (0, .ref a0)]) (st2 := [.ref a0]) hm dX13_loaded_164 rfl ?_
        refine sx_ic (v := 0) hm dX13_loaded_165 (by decide) ?_
        replace hf := mx_sv_el hf; obtain ⟨h36, e_h36, hf⟩ := hf
        refine sx_put hm dX13_loaded_166 rs_RX13_858 ft_13_138 ⟨rfl, rfl⟩ (fun z => by cases z) e_h36 ?_
        clear e_h36
        refine mx_S.pu (pc2 := 170) (lv2 := [(2, .int u31.1), (1, .int v21), (0, .ref a0)]) (st2 := [.int u31.1]) hm dX13_loaded_169 rfl ?_
        cases hf
        exact sx_ire hm dX13_loaded_170 rfl rfl
      · refine sb_ic_eq hm dX13_loaded_135 (tgt := 140) rfl (fun z => absurd z c37) (fun _ => ?_)
        refine mx_S.ext [] (mx_sub_pos [] rfl (show ([1, 0] : List Nat).Nodup by decide)) ?_
        exact j_X13_loaded_138_ok X hF hL nn u28.2 hf
    · refine sb_ic_eq hm dX13_loaded_59 (tgt := 70) rfl (fun z => absurd z c40) (fun _ => ?_)
      refine sx_bi (v := (-2)) hm dX13_loaded_62 (by decide) ?_
      refine mx_S.pu (pc2 := 65) (lv2 := [(0, .ref a0)]) (st2 := [.ref a0, .int (-2)]) hm dX13_loaded_64 rfl ?_
      replace hf := mx_sv_el hf; obtain ⟨v38, e_v38, hf⟩ := hf
      refine sx_get hm dX13_loaded_65 rs_RX13_764 (xgi_el e_v38) ?_
      clear e_v38
      replace hf := xl_el hf; obtain ⟨v39, e_v39, hf⟩ := hf
      refine mx_S.pu (pc2 := 69) (lv2 := [(0, .ref a0)]) (st2 := [.int v39]) hm dX13_loaded_68 (by rw [← e_v39]; rfl) ?_
      clear e_v39
      cases hf
      exact sx_ire hm dX13_loaded_69 rfl rfl
  · refine sb_ic_ne hm dX13_loaded_6 (tgt := 46) rfl (fun z => absurd z c50) (fun _ => ?_)
    refine mx_S.pu (pc2 := 10) (lv2 := [(0, .ref a0)]) (st2 := [.ref a0]) hm dX13_loaded_9 rfl ?_
    refine sx_bi (v := 7) hm dX13_loaded_10 (by decide) ?_
    replace hf := mx_gd_el hf; obtain ⟨c41, hf⟩ := hf
    replace hf := mx_sv_el hf; obtain ⟨u42, e_u42, hf⟩ := hf
    refine sx_cv hm dX13_loaded_12 rs_RX13_840 mt_X13_aside [.int 7] [] (b := a0) (ci := 13) rfl rfl rfl c41 (Nat.le_of_ble_eq_true rfl) (Nat.le_of_ble_eq_true rfl) (by omega) (by omega) (f_X13_aside_ok X (by omega) (by omega) nn a0 7 h e_u42) ?_
    clear e_u42
    show mx_S X F L 513 15 [(0, .ref a0)] [] u42 0 0 (some (.int r.1), r.2, 0, 0)
    refine mx_S.pu (pc2 := 16) (lv2 := [(0, .ref a0)]) (st2 := [.ref a0]) hm dX13_loaded_15 rfl ?_
    refine sx_bi (v := 7) hm dX13_loaded_16 (by decide) ?_
    replace hf := mx_gd_el hf; obtain ⟨c43, hf⟩ := hf
    replace hf := mx_sv_el hf; obtain ⟨u44, e_u44, hf⟩ := hf
    refine sx_cv hm dX13_loaded_18 rs_RX13_843 mt_X13_scan [.int 7] [] (b := a0) (ci := 13) rfl rfl rfl c43 (Nat.le_of_ble_eq_true rfl) (Nat.le_of_ble_eq_true rfl) (by omega) (by omega) (f_X13_scan_ok X (by omega) (by omega) nn a0 7 u42 e_u44) ?_
    clear e_u44
    show mx_S X F L 513 21 [(0, .ref a0)] [] u44 0 0 (some (.int r.1), r.2, 0, 0)
    refine mx_S.pu (pc2 := 22) (lv2 := [(0, .ref a0)]) (st2 := [.ref a0]) hm dX13_loaded_21 rfl ?_
    replace hf := mx_sv_el hf; obtain ⟨v45, e_v45, hf⟩ := hf
    refine sx_get hm dX13_loaded_22 rs_RX13_764 (xgi_el e_v45) ?_
    clear e_v45
    refine mx_S.pu (pc2 := 26) (lv2 := [(1, .int v45), (0, .ref a0)]) (st2 := []) hm dX13_loaded_25 rfl ?_
    refine mx_S.pu (pc2 := 27) (lv2 := [(1, .int v45), (0, .ref a0)]) (st2 := [.ref a0]) hm dX13_loaded_26 rfl ?_
    refine sx_bi (v := 7) hm dX13_loaded_27 (by decide) ?_
    replace hf := mx_gd_el hf; obtain ⟨c46, hf⟩ := hf
    replace hf := mx_sv_el hf; obtain ⟨u47, e_u47, hf⟩ := hf
    refine sx_cv hm dX13_loaded_29 rs_RX13_846 mt_X13_again [.int 7] [] (b := a0) (ci := 13) rfl rfl rfl c46 (Nat.le_of_ble_eq_true rfl) (Nat.le_of_ble_eq_true rfl) (by omega) (by omega) (f_X13_again_ok X (by omega) (by omega) nn a0 7 u44 e_u47) ?_
    clear e_u47
    show mx_S X F L 513 32 [(1, .int v45), (0, .ref a0)] [] u47 0 0 (some (.int r.1), r.2, 0, 0)
    refine mx_S.pu (pc2 := 33) (lv2 := [(1, .int v45), (0, .ref a0)]) (st2 := [.int v45]) hm dX13_loaded_32 rfl ?_
    refine sx_ic (v := (-1)) hm dX13_loaded_33 (by decide) ?_
    rcases mx_if_el hf with ⟨c49, hf⟩ | ⟨c49, hf⟩
    · refine sb_ic_eq hm dX13_loaded_34 (tgt := 44) rfl (fun _ => ?_) (fun z => absurd c49 z)
      refine sx_ic (v := (-1)) hm dX13_loaded_44 (by decide) ?_
      cases hf
      exact sx_ire hm dX13_loaded_45 rfl rfl
    · refine sb_ic_eq hm dX13_loaded_34 (tgt := 44) rfl (fun z => absurd z c49) (fun _ => ?_)
      refine sx_bi (v := (-2)) hm dX13_loaded_37 (by decide) ?_
      refine mx_S.pu (pc2 := 40) (lv2 := [(1, .int v45), (0, .ref a0)]) (st2 := [.int v45, .int (-2)]) hm dX13_loaded_39 rfl ?_
      replace hf := xl_el hf; obtain ⟨v48, e_v48, hf⟩ := hf
      refine mx_S.pu (pc2 := 41) (lv2 := [(1, .int v45), (0, .ref a0)]) (st2 := [.int v48]) hm dX13_loaded_40 (by rw [← e_v48]; rfl) ?_
      clear e_v48
      refine mx_S.pu (pc2 := 45) (lv2 := [(1, .int v45), (0, .ref a0)]) (st2 := [.int v48]) hm dX13_loaded_41 rfl ?_
      cases hf
      exact sx_ire hm dX13_loaded_45 rfl rfl
set_option maxHeartbeats 4000000 in
set_option maxRecDepth 20000 in
theorem w_X13_keep_26_ok (X : Nat × (Nat → Int32)) {F L : Nat} (hF : 11 ≤ F) (hL : 260 ≤ L) (nn : Nat) : ∀ (k : Nat) (l0 : Nat) (l1 : Int32) (l2 : Int32) (h : mx_H) (r : (Int32 × mx_H)), w_X13_keep_26 nn k l0 l1 l2 h = some r → mx_S X F L 517 26 [(0, .ref l0), (1, .int l1), (2, .int l2)] [] h 0 0 (some (.int r.1), r.2, 0, 0) := by
  have hm : mx_mt 517 = some (yX13_keep, cX13_keep, 3, (some .int)) := mt_X13_keep
  intro k
  induction k with
  | zero => intro l0 l1 l2 h r hf; cases hf
  | succ k ih =>
    intro l0 l1 l2 h r hf
    unfold w_X13_keep_26 at hf
    refine mx_S.pu (pc2 := 27) (lv2 := [(0, .ref l0), (1, .int l1), (2, .int l2)]) (st2 := [.int l2]) hm dX13_keep_26 rfl ?_
    refine mx_S.pu (pc2 := 28) (lv2 := [(0, .ref l0), (1, .int l1), (2, .int l2)]) (st2 := [.ref l0, .int l2]) hm dX13_keep_27 rfl ?_
    replace hf := mx_sv_el hf; obtain ⟨v1, e_v1, hf⟩ := hf
    refine sx_get hm dX13_keep_28 rs_RX13_767 (xgi_el e_v1) ?_
    clear e_v1
    rcases mx_if_el hf with ⟨c11, hf⟩ | ⟨c11, hf⟩
    · refine sb_ic_ge hm dX13_keep_31 (tgt := 58) rfl (fun _ => ?_) (fun z => absurd c11 z)
      refine mx_S.pu (pc2 := 59) (lv2 := [(0, .ref l0), (1, .int l1), (2, .int l2)]) (st2 := [.ref l0]) hm dX13_keep_58 rfl ?_
      replace hf := mx_gd_el hf; obtain ⟨c2, hf⟩ := hf
      replace hf := mx_sv_el hf; obtain ⟨u3, e_u3, hf⟩ := hf
      refine sx_cv hm dX13_keep_59 rs_RX13_861 mt_X13_loaded [] [] (b := l0) (ci := 13) rfl rfl rfl c2 (Nat.le_of_ble_eq_true rfl) (Nat.le_of_ble_eq_true rfl) (by omega) (by omega) (f_X13_loaded_ok X (by omega) (by omega) nn l0 h e_u3) ?_
      clear e_u3
      show mx_S X F L 517 62 [(0, .ref l0), (1, .int l1), (2, .int l2)] [.int u3.1] u3.2 0 0 (some (.int r.1), r.2, 0, 0)
      cases hf
      exact sx_ire hm dX13_keep_62 rfl rfl
    · refine sb_ic_ge hm dX13_keep_31 (tgt := 58) rfl (fun z => absurd z c11) (fun _ => ?_)
      refine mx_S.pu (pc2 := 35) (lv2 := [(0, .ref l0), (1, .int l1), (2, .int l2)]) (st2 := [.ref l0]) hm dX13_keep_34 rfl ?_
      replace hf := mx_sv_el hf; obtain ⟨v4, e_v4, hf⟩ := hf
      refine sx_get hm dX13_keep_35 rs_RX13_245 (xgr_el e_v4) ?_
      clear e_v4
      refine mx_S.pu (pc2 := 39) (lv2 := [(0, .ref l0), (1, .int l1), (2, .int l2)]) (st2 := [.int l2, .ref v4]) hm dX13_keep_38 rfl ?_
      refine mx_S.pu (pc2 := 40) (lv2 := [(0, .ref l0), (1, .int l1), (2, .int l2)]) (st2 := [.ref l0, .int l2, .ref v4]) hm dX13_keep_39 rfl ?_
      replace hf := mx_sv_el hf; obtain ⟨v5, e_v5, hf⟩ := hf
      refine sx_get hm dX13_keep_40 rs_RX13_194 (xgr_el e_v5) ?_
      clear e_v5
      refine sx_si (v := 6000) hm dX13_keep_43 (by decide) ?_
      refine mx_S.pu (pc2 := 47) (lv2 := [(0, .ref l0), (1, .int l1), (2, .int l2)]) (st2 := [.int l1, .int 6000, .ref v5, .int l2, .ref v4]) hm dX13_keep_46 rfl ?_
      replace hf := xl_el hf; obtain ⟨v6, e_v6, hf⟩ := hf
      refine mx_S.pu (pc2 := 48) (lv2 := [(0, .ref l0), (1, .int l1), (2, .int l2)]) (st2 := [.int v6, .ref v5, .int l2, .ref v4]) hm dX13_keep_47 (by rw [← e_v6]; rfl) ?_
      clear e_v6
      refine mx_S.pu (pc2 := 49) (lv2 := [(0, .ref l0), (1, .int l1), (2, .int l2)]) (st2 := [.int l2, .int v6, .ref v5, .int l2, .ref v4]) hm dX13_keep_48 rfl ?_
      replace hf := xl_el hf; obtain ⟨v7, e_v7, hf⟩ := hf
      refine mx_S.pu (pc2 := 50) (lv2 := [(0, .ref l0), (1, .int l1), (2, .int l2)]) (st2 := [.int v7, .ref v5, .int l2, .ref v4]) hm dX13_keep_49 (by rw [← e_v7]; rfl) ?_
      clear e_v7
      replace hf := mx_sv_el hf; obtain ⟨v8, e_v8, hf⟩ := hf
      refine sx_ald hm dX13_keep_50 e_v8 ?_
      clear e_v8
      replace hf := mx_sv_el hf; obtain ⟨h9, e_h9, hf⟩ := hf
      refine sx_ast hm dX13_keep_51 e_h9 ?_
      clear e_h9
      replace hf := xl_el hf; obtain ⟨v10, e_v10, hf⟩ := hf
      refine mx_S.pu (pc2 := 55) (lv2 := [(2, .int v10), (0, .ref l0), (1, .int l1)]) (st2 := []) hm dX13_keep_52 (by rw [← e_v10]; rfl) ?_
      clear e_v10
      refine mx_S.pu (pc2 := 26) (lv2 := [(2, .int v10), (0, .ref l0), (1, .int l1)]) (st2 := []) hm dX13_keep_55 rfl ?_
      refine mx_S.ext [(0, .ref l0), (1, .int l1), (2, .int v10)] (mx_sub_pos [1, 2, 0] rfl (show ([2, 0, 1] : List Nat).Nodup by decide)) ?_
      exact ih l0 l1 v10 h9 _ hf
set_option maxHeartbeats 4000000 in
set_option maxRecDepth 20000 in
theorem f_X13_keep_ok (X : Nat × (Nat → Int32)) {F L : Nat} (hF : 11 ≤ F) (hL : 260 ≤ L) (nn : Nat) (a0 : Nat) (a1 : Int32) (h : mx_H) {r : (Int32 × mx_H)} (hf : f_X13_keep nn a0 a1 h = some r) : mx_R X F L 517 [.ref a0, .int a1] h (some (.int r.1), r.2, 0, 0) := by
  have hm : mx_mt 517 = some (yX13_keep, cX13_keep, 3, (some .int)) := mt_X13_keep
  show mx_S X F L 517 0 [(0, .ref a0), (1, .int a1)] [] h 0 0 (some (.int r.1), r.2, 0, 0)
  unfold f_X13_keep at hf
  refine mx_S.pu (pc2 := 1) (lv2 := [(0, .ref a0), (1, .int a1)]) (st2 := [.int a1]) hm dX13_keep_0 rfl ?_
  rcases mx_if_el hf with ⟨c17, hf⟩ | ⟨c17, hf⟩
  · refine sb_if_lt hm dX13_keep_1 (tgt := 12) rfl (fun _ => ?_) (fun z => absurd c17 z)
    refine sx_ic (v := (-1)) hm dX13_keep_12 (by decide) ?_
    cases hf
    exact sx_ire hm dX13_keep_13 rfl rfl
  · refine sb_if_lt hm dX13_keep_1 (tgt := 12) rfl (fun z => absurd z c17) (fun _ => ?_)
    refine mx_S.pu (pc2 := 5) (lv2 := [(0, .ref a0), (1, .int a1)]) (st2 := [.int a1]) hm dX13_keep_4 rfl ?_
    refine mx_S.pu (pc2 := 6) (lv2 := [(0, .ref a0), (1, .int a1)]) (st2 := [.ref a0, .int a1]) hm dX13_keep_5 rfl ?_
    replace hf := mx_sv_el hf; obtain ⟨v12, e_v12, hf⟩ := hf
    refine sx_get hm dX13_keep_6 rs_RX13_761 (xgi_el e_v12) ?_
    clear e_v12
    rcases mx_if_el hf with ⟨c16, hf⟩ | ⟨c16, hf⟩
    · refine sb_ic_lt hm dX13_keep_9 (tgt := 14) rfl (fun _ => ?_) (fun z => absurd c16 z)
      refine mx_S.pu (pc2 := 15) (lv2 := [(0, .ref a0), (1, .int a1)]) (st2 := [.ref a0]) hm dX13_keep_14 rfl ?_
      refine mx_S.pu (pc2 := 16) (lv2 := [(0, .ref a0), (1, .int a1)]) (st2 := [.ref a0, .ref a0]) hm dX13_keep_15 rfl ?_
      replace hf := mx_sv_el hf; obtain ⟨v13, e_v13, hf⟩ := hf
      refine sx_get hm dX13_keep_16 rs_RX13_197 (xgr_el e_v13) ?_
      clear e_v13
      refine mx_S.pu (pc2 := 20) (lv2 := [(0, .ref a0), (1, .int a1)]) (st2 := [.int a1, .ref v13, .ref a0]) hm dX13_keep_19 rfl ?_
      replace hf := mx_sv_el hf; obtain ⟨v14, e_v14, hf⟩ := hf
      refine sx_ald hm dX13_keep_20 e_v14 ?_
      clear e_v14
      replace hf := mx_sv_el hf; obtain ⟨h15, e_h15, hf⟩ := hf
      refine sx_put hm dX13_keep_21 rs_RX13_767 ft_13_113 ⟨rfl, rfl⟩ (fun z => by cases z) e_h15 ?_
      clear e_h15
      refine sx_ic (v := 0) hm dX13_keep_24 (by decide) ?_
      refine mx_S.pu (pc2 := 26) (lv2 := [(2, .int 0), (0, .ref a0), (1, .int a1)]) (st2 := []) hm dX13_keep_25 rfl ?_
      refine mx_S.ext [(0, .ref a0), (1, .int a1), (2, .int 0)] (mx_sub_pos [1, 2, 0] rfl (show ([2, 0, 1] : List Nat).Nodup by decide)) ?_
      exact w_X13_keep_26_ok X hF hL nn nn a0 a1 0 h15 _ hf
    · refine sb_ic_lt hm dX13_keep_9 (tgt := 14) rfl (fun z => absurd z c16) (fun _ => ?_)
      refine sx_ic (v := (-1)) hm dX13_keep_12 (by decide) ?_
      cases hf
      exact sx_ire hm dX13_keep_13 rfl rfl
set_option maxHeartbeats 4000000 in
set_option maxRecDepth 20000 in
theorem w_X13_load_10_ok (X : Nat × (Nat → Int32)) {F L : Nat} (hF : 11 ≤ F) (hL : 260 ≤ L) (nn : Nat) : ∀ (k : Nat) (l0 : Nat) (l1 : Int32) (h : mx_H) (r : (Int32 × mx_H)), w_X13_load_10 nn k l0 l1 h = some r → mx_S X F L 516 10 [(0, .ref l0), (1, .int l1)] [] h 0 0 (some (.int r.1), r.2, 0, 0) := by
  have hm : mx_mt 516 = some (yX13_load, cX13_load, 2, (some .int)) := mt_X13_load
  intro k
  induction k with
  | zero => intro l0 l1 h r hf; cases hf
  | succ k ih =>
    intro l0 l1 h r hf
    unfold w_X13_load_10 at hf
    refine mx_S.pu (pc2 := 11) (lv2 := [(0, .ref l0), (1, .int l1)]) (st2 := [.int l1]) hm dX13_load_10 rfl ?_
    refine mx_S.pu (pc2 := 12) (lv2 := [(0, .ref l0), (1, .int l1)]) (st2 := [.ref l0, .int l1]) hm dX13_load_11 rfl ?_
    replace hf := mx_sv_el hf; obtain ⟨v1, e_v1, hf⟩ := hf
    refine sx_get hm dX13_load_12 rs_RX13_312 (xgi_el e_v1) ?_
    clear e_v1
    rcases mx_if_el hf with ⟨c10, hf⟩ | ⟨c10, hf⟩
    · refine sb_ic_ge hm dX13_load_15 (tgt := 36) rfl (fun _ => ?_) (fun z => absurd c10 z)
      refine mx_S.pu (pc2 := 37) (lv2 := [(0, .ref l0), (1, .int l1)]) (st2 := [.ref l0]) hm dX13_load_36 rfl ?_
      refine sx_ic (v := 0) hm dX13_load_37 (by decide) ?_
      replace hf := mx_sv_el hf; obtain ⟨h2, e_h2, hf⟩ := hf
      refine sx_put hm dX13_load_38 rs_RX13_312 ft_13_1 ⟨rfl, rfl⟩ (fun z => by cases z) e_h2 ?_
      clear e_h2
      refine mx_S.pu (pc2 := 42) (lv2 := [(0, .ref l0), (1, .int l1)]) (st2 := [.ref l0]) hm dX13_load_41 rfl ?_
      replace hf := mx_gd_el hf; obtain ⟨c3, hf⟩ := hf
      replace hf := mx_sv_el hf; obtain ⟨u4, e_u4, hf⟩ := hf
      refine sx_cv hm dX13_load_42 rs_RX13_861 mt_X13_loaded [] [] (b := l0) (ci := 13) rfl rfl rfl c3 (Nat.le_of_ble_eq_true rfl) (Nat.le_of_ble_eq_true rfl) (by omega) (by omega) (f_X13_loaded_ok X (by omega) (by omega) nn l0 h2 e_u4) ?_
      clear e_u4
      show mx_S X F L 516 45 [(0, .ref l0), (1, .int l1)] [.int u4.1] u4.2 0 0 (some (.int r.1), r.2, 0, 0)
      cases hf
      exact sx_ire hm dX13_load_45 rfl rfl
    · refine sb_ic_ge hm dX13_load_15 (tgt := 36) rfl (fun z => absurd z c10) (fun _ => ?_)
      refine mx_S.pu (pc2 := 19) (lv2 := [(0, .ref l0), (1, .int l1)]) (st2 := [.ref l0]) hm dX13_load_18 rfl ?_
      replace hf := mx_sv_el hf; obtain ⟨v5, e_v5, hf⟩ := hf
      refine sx_get hm dX13_load_19 rs_RX13_245 (xgr_el e_v5) ?_
      clear e_v5
      refine mx_S.pu (pc2 := 23) (lv2 := [(0, .ref l0), (1, .int l1)]) (st2 := [.int l1, .ref v5]) hm dX13_load_22 rfl ?_
      refine mx_S.pu (pc2 := 24) (lv2 := [(0, .ref l0), (1, .int l1)]) (st2 := [.ref l0, .int l1, .ref v5]) hm dX13_load_23 rfl ?_
      replace hf := mx_sv_el hf; obtain ⟨v6, e_v6, hf⟩ := hf
      refine sx_get hm dX13_load_24 rs_RX13_9 (xgr_el e_v6) ?_
      clear e_v6
      refine mx_S.pu (pc2 := 28) (lv2 := [(0, .ref l0), (1, .int l1)]) (st2 := [.int l1, .ref v6, .int l1, .ref v5]) hm dX13_load_27 rfl ?_
      replace hf := mx_sv_el hf; obtain ⟨v7, e_v7, hf⟩ := hf
      refine sx_ald hm dX13_load_28 e_v7 ?_
      clear e_v7
      replace hf := mx_sv_el hf; obtain ⟨h8, e_h8, hf⟩ := hf
      refine sx_ast hm dX13_load_29 e_h8 ?_
      clear e_h8
      replace hf := xl_el hf; obtain ⟨v9, e_v9, hf⟩ := hf
      refine mx_S.pu (pc2 := 33) (lv2 := [(1, .int v9), (0, .ref l0)]) (st2 := []) hm dX13_load_30 (by rw [← e_v9]; rfl) ?_
      clear e_v9
      refine mx_S.pu (pc2 := 10) (lv2 := [(1, .int v9), (0, .ref l0)]) (st2 := []) hm dX13_load_33 rfl ?_
      refine mx_S.ext [(0, .ref l0), (1, .int v9)] (mx_sub_pos [1, 0] rfl (show ([1, 0] : List Nat).Nodup by decide)) ?_
      exact ih l0 v9 h8 _ hf
set_option maxHeartbeats 4000000 in
set_option maxRecDepth 20000 in
theorem f_X13_load_ok (X : Nat × (Nat → Int32)) {F L : Nat} (hF : 11 ≤ F) (hL : 260 ≤ L) (nn : Nat) (a0 : Nat) (h : mx_H) {r : (Int32 × mx_H)} (hf : f_X13_load nn a0 h = some r) : mx_R X F L 516 [.ref a0] h (some (.int r.1), r.2, 0, 0) := by
  have hm : mx_mt 516 = some (yX13_load, cX13_load, 2, (some .int)) := mt_X13_load
  show mx_S X F L 516 0 [(0, .ref a0)] [] h 0 0 (some (.int r.1), r.2, 0, 0)
  unfold f_X13_load at hf
  refine mx_S.pu (pc2 := 1) (lv2 := [(0, .ref a0)]) (st2 := [.ref a0]) hm dX13_load_0 rfl ?_
  refine mx_S.pu (pc2 := 2) (lv2 := [(0, .ref a0)]) (st2 := [.ref a0, .ref a0]) hm dX13_load_1 rfl ?_
  replace hf := mx_sv_el hf; obtain ⟨v11, e_v11, hf⟩ := hf
  refine sx_get hm dX13_load_2 rs_RX13_312 (xgi_el e_v11) ?_
  clear e_v11
  replace hf := mx_sv_el hf; obtain ⟨h12, e_h12, hf⟩ := hf
  refine sx_put hm dX13_load_5 rs_RX13_767 ft_13_113 ⟨rfl, rfl⟩ (fun z => by cases z) e_h12 ?_
  clear e_h12
  refine sx_ic (v := 0) hm dX13_load_8 (by decide) ?_
  refine mx_S.pu (pc2 := 10) (lv2 := [(1, .int 0), (0, .ref a0)]) (st2 := []) hm dX13_load_9 rfl ?_
  refine mx_S.ext [(0, .ref a0), (1, .int 0)] (mx_sub_pos [1, 0] rfl (show ([1, 0] : List Nat).Nodup by decide)) ?_
  exact w_X13_load_10_ok X hF hL nn nn a0 0 h12 _ hf
set_option maxHeartbeats 4000000 in
set_option maxRecDepth 20000 in
theorem j_X13_look_252_ok (X : Nat × (Nat → Int32)) {F L : Nat} (hF : 0 ≤ F) (hL : 0 ≤ L) (nn : Nat) (h : mx_H) {r : (Int32 × mx_H)} (hf : j_X13_look_252 nn h = some r) : mx_S X F L 596 252 [] [] h 0 0 (some (.int r.1), r.2, 0, 0) := by
  have hm : mx_mt 596 = some (yX13_look, cX13_look, 2, (some .int)) := mt_X13_look
  unfold j_X13_look_252 at hf
  refine sx_ic (v := (-1)) hm dX13_look_252 (by decide) ?_
  cases hf
  exact sx_ire hm dX13_look_253 rfl rfl
set_option maxHeartbeats 4000000 in
set_option maxRecDepth 20000 in
theorem j_X13_look_93_ok (X : Nat × (Nat → Int32)) {F L : Nat} (hF : 0 ≤ F) (hL : 0 ≤ L) (nn : Nat) (l0 : Nat) (h : mx_H) {r : (Int32 × mx_H)} (hf : j_X13_look_93 nn l0 h = some r) : mx_S X F L 596 93 [(0, .ref l0)] [] h 0 0 (some (.int r.1), r.2, 0, 0) := by
  have hm : mx_mt 596 = some (yX13_look, cX13_look, 2, (some .int)) := mt_X13_look
  unfold j_X13_look_93 at hf
  refine mx_S.pu (pc2 := 94) (lv2 := [(0, .ref l0)]) (st2 := [.ref l0]) hm dX13_look_93 rfl ?_
  replace hf := mx_sv_el hf; obtain ⟨v1, e_v1, hf⟩ := hf
  refine sx_get hm dX13_look_94 rs_RX13_1043 (xgi_el e_v1) ?_
  clear e_v1
  refine mx_S.pu (pc2 := 101) (lv2 := [(0, .ref l0)]) (st2 := [.int v1]) hm dX13_look_97 rfl ?_
  cases hf
  exact sx_ire hm dX13_look_101 rfl rfl
set_option maxHeartbeats 4000000 in
set_option maxRecDepth 20000 in
theorem f_X13_look_ok (X : Nat × (Nat → Int32)) {F L : Nat} (hF : 0 ≤ F) (hL : 0 ≤ L) (nn : Nat) (a0 : Nat) (a1 : Int32) (h : mx_H) {r : (Int32 × mx_H)} (hf : f_X13_look nn a0 a1 h = some r) : mx_R X F L 596 [.ref a0, .int a1] h (some (.int r.1), r.2, 0, 0) := by
  have hm : mx_mt 596 = some (yX13_look, cX13_look, 2, (some .int)) := mt_X13_look
  show mx_S X F L 596 0 [(0, .ref a0), (1, .int a1)] [] h 0 0 (some (.int r.1), r.2, 0, 0)
  unfold f_X13_look at hf
  refine mx_S.pu (pc2 := 1) (lv2 := [(0, .ref a0), (1, .int a1)]) (st2 := [.int a1]) hm dX13_look_0 rfl ?_
  rcases mx_if_el hf with ⟨n_0, hf⟩ | ⟨n_0, hf⟩
  · refine sx_tin hm dX13_look_1 (by rw [n_0]; decide) (by rw [n_0]; decide) (off := 71) (by rw [n_0]; rfl) (tgt := 72) rfl ?_
    clear n_0
    refine mx_S.pu (pc2 := 73) (lv2 := [(0, .ref a0), (1, .int a1)]) (st2 := [.ref a0]) hm dX13_look_72 rfl ?_
    replace hf := mx_sv_el hf; obtain ⟨v2, e_v2, hf⟩ := hf
    refine sx_get hm dX13_look_73 rs_RX13_858 (xgi_el e_v2) ?_
    clear e_v2
    cases hf
    exact sx_ire hm dX13_look_76 rfl rfl
  · rcases mx_if_el hf with ⟨n_1, hf⟩ | ⟨n_1, hf⟩
    · refine sx_tin hm dX13_look_1 (by rw [n_1]; decide) (by rw [n_1]; decide) (off := 76) (by rw [n_1]; rfl) (tgt := 77) rfl ?_
      clear n_0 n_1
      refine mx_S.pu (pc2 := 78) (lv2 := [(0, .ref a0), (1, .int a1)]) (st2 := [.ref a0]) hm dX13_look_77 rfl ?_
      replace hf := mx_sv_el hf; obtain ⟨v3, e_v3, hf⟩ := hf
      refine sx_get hm dX13_look_78 rs_RX13_858 (xgi_el e_v3) ?_
      clear e_v3
      refine sx_ic (v := 2) hm dX13_look_81 (by decide) ?_
      rcases mx_if_el hf with ⟨c6, hf⟩ | ⟨c6, hf⟩
      · refine sb_ic_eq hm dX13_look_82 (tgt := 93) rfl (fun _ => ?_) (fun z => absurd c6 z)
        refine mx_S.ext [(0, .ref a0)] (mx_sub_pos [0] rfl (show ([0, 1] : List Nat).Nodup by decide)) ?_
        exact j_X13_look_93_ok X hF hL nn a0 h hf
      · refine sb_ic_eq hm dX13_look_82 (tgt := 93) rfl (fun z => absurd z c6) (fun _ => ?_)
        refine mx_S.pu (pc2 := 86) (lv2 := [(0, .ref a0), (1, .int a1)]) (st2 := [.ref a0]) hm dX13_look_85 rfl ?_
        replace hf := mx_sv_el hf; obtain ⟨v4, e_v4, hf⟩ := hf
        refine sx_get hm dX13_look_86 rs_RX13_858 (xgi_el e_v4) ?_
        clear e_v4
        refine sx_ic (v := 3) hm dX13_look_89 (by decide) ?_
        rcases mx_if_el hf with ⟨c5, hf⟩ | ⟨c5, hf⟩
        · refine sb_ic_ne hm dX13_look_90 (tgt := 100) rfl (fun _ => ?_) (fun z => absurd c5 z)
          refine sx_ic (v := (-1)) hm dX13_look_100 (by decide) ?_
          cases hf
          exact sx_ire hm dX13_look_101 rfl rfl
        · refine sb_ic_ne hm dX13_look_90 (tgt := 100) rfl (fun z => absurd z c5) (fun _ => ?_)
          refine mx_S.ext [(0, .ref a0)] (mx_sub_pos [0] rfl (show ([0, 1] : List Nat).Nodup by decide)) ?_
          exact j_X13_look_93_ok X hF hL nn a0 h hf
    · rcases mx_if_el hf with ⟨n_2, hf⟩ | ⟨n_2, hf⟩
      · refine sx_tin hm dX13_look_1 (by rw [n_2]; decide) (by rw [n_2]; decide) (off := 101) (by rw [n_2]; rfl) (tgt := 102) rfl ?_
        clear n_0 n_1 n_2
        refine mx_S.pu (pc2 := 103) (lv2 := [(0, .ref a0), (1, .int a1)]) (st2 := [.ref a0]) hm dX13_look_102 rfl ?_
        replace hf := mx_sv_el hf; obtain ⟨v7, e_v7, hf⟩ := hf
        refine sx_get hm dX13_look_103 rs_RX13_858 (xgi_el e_v7) ?_
        clear e_v7
        rcases mx_if_el hf with ⟨c9, hf⟩ | ⟨c9, hf⟩
        · refine sb_if_ne hm dX13_look_106 (tgt := 113) rfl (fun _ => ?_) (fun z => absurd c9 z)
          refine mx_S.pu (pc2 := 114) (lv2 := [(0, .ref a0), (1, .int a1)]) (st2 := [.ref a0]) hm dX13_look_113 rfl ?_
          replace hf := mx_sv_el hf; obtain ⟨v8, e_v8, hf⟩ := hf
          refine sx_get hm dX13_look_114 rs_RX13_1046 (xgi_el e_v8) ?_
          clear e_v8
          cases hf
          exact sx_ire hm dX13_look_117 rfl rfl
        · refine sb_if_ne hm dX13_look_106 (tgt := 113) rfl (fun z => absurd z c9) (fun _ => ?_)
          refine sx_ic (v := 0) hm dX13_look_109 (by decide) ?_
          refine mx_S.pu (pc2 := 117) (lv2 := [(0, .ref a0), (1, .int a1)]) (st2 := [.int 0]) hm dX13_look_110 rfl ?_
          cases hf
          exact sx_ire hm dX13_look_117 rfl rfl
      · rcases mx_if_el hf with ⟨n_3, hf⟩ | ⟨n_3, hf⟩
        · refine sx_tin hm dX13_look_1 (by rw [n_3]; decide) (by rw [n_3]; decide) (off := 117) (by rw [n_3]; rfl) (tgt := 118) rfl ?_
          clear n_0 n_1 n_2 n_3
          refine mx_S.pu (pc2 := 119) (lv2 := [(0, .ref a0), (1, .int a1)]) (st2 := [.ref a0]) hm dX13_look_118 rfl ?_
          replace hf := mx_sv_el hf; obtain ⟨v10, e_v10, hf⟩ := hf
          refine sx_get hm dX13_look_119 rs_RX13_858 (xgi_el e_v10) ?_
          clear e_v10
          rcases mx_if_el hf with ⟨c12, hf⟩ | ⟨c12, hf⟩
          · refine sb_if_ne hm dX13_look_122 (tgt := 129) rfl (fun _ => ?_) (fun z => absurd c12 z)
            refine mx_S.pu (pc2 := 130) (lv2 := [(0, .ref a0), (1, .int a1)]) (st2 := [.ref a0]) hm dX13_look_129 rfl ?_
            replace hf := mx_sv_el hf; obtain ⟨v11, e_v11, hf⟩ := hf
            refine sx_get hm dX13_look_130 rs_RX13_1049 (xgi_el e_v11) ?_
            clear e_v11
            cases hf
            exact sx_ire hm dX13_look_133 rfl rfl
          · refine sb_if_ne hm dX13_look_122 (tgt := 129) rfl (fun z => absurd z c12) (fun _ => ?_)
            refine sx_ic (v := 0) hm dX13_look_125 (by decide) ?_
            refine mx_S.pu (pc2 := 133) (lv2 := [(0, .ref a0), (1, .int a1)]) (st2 := [.int 0]) hm dX13_look_126 rfl ?_
            cases hf
            exact sx_ire hm dX13_look_133 rfl rfl
        · rcases mx_if_el hf with ⟨n_4, hf⟩ | ⟨n_4, hf⟩
          · refine sx_tin hm dX13_look_1 (by rw [n_4]; decide) (by rw [n_4]; decide) (off := 133) (by rw [n_4]; rfl) (tgt := 134) rfl ?_
            clear n_0 n_1 n_2 n_3 n_4
            refine mx_S.pu (pc2 := 135) (lv2 := [(0, .ref a0), (1, .int a1)]) (st2 := [.ref a0]) hm dX13_look_134 rfl ?_
            replace hf := mx_sv_el hf; obtain ⟨v13, e_v13, hf⟩ := hf
            refine sx_get hm dX13_look_135 rs_RX13_858 (xgi_el e_v13) ?_
            clear e_v13
            rcases mx_if_el hf with ⟨c15, hf⟩ | ⟨c15, hf⟩
            · refine sb_if_ne hm dX13_look_138 (tgt := 145) rfl (fun _ => ?_) (fun z => absurd c15 z)
              refine mx_S.pu (pc2 := 146) (lv2 := [(0, .ref a0), (1, .int a1)]) (st2 := [.ref a0]) hm dX13_look_145 rfl ?_
              replace hf := mx_sv_el hf; obtain ⟨v14, e_v14, hf⟩ := hf
              refine sx_get hm dX13_look_146 rs_RX13_1052 (xgi_el e_v14) ?_
              clear e_v14
              cases hf
              exact sx_ire hm dX13_look_149 rfl rfl
            · refine sb_if_ne hm dX13_look_138 (tgt := 145) rfl (fun z => absurd z c15) (fun _ => ?_)
              refine sx_ic (v := 0) hm dX13_look_141 (by decide) ?_
              refine mx_S.pu (pc2 := 149) (lv2 := [(0, .ref a0), (1, .int a1)]) (st2 := [.int 0]) hm dX13_look_142 rfl ?_
              cases hf
              exact sx_ire hm dX13_look_149 rfl rfl
          · rcases mx_if_el hf with ⟨n_5, hf⟩ | ⟨n_5, hf⟩
            · refine sx_tin hm dX13_look_1 (by rw [n_5]; decide) (by rw [n_5]; decide) (off := 149) (by rw [n_5]; rfl) (tgt := 150) rfl ?_
              clear n_0 n_1 n_2 n_3 n_4 n_5
              refine mx_S.pu (pc2 := 151) (lv2 := [(0, .ref a0), (1, .int a1)]) (st2 := [.ref a0]) hm dX13_look_150 rfl ?_
              replace hf := mx_sv_el hf; obtain ⟨v16, e_v16, hf⟩ := hf
              refine sx_get hm dX13_look_151 rs_RX13_858 (xgi_el e_v16) ?_
              clear e_v16
              rcases mx_if_el hf with ⟨c18, hf⟩ | ⟨c18, hf⟩
              · refine sb_if_ne hm dX13_look_154 (tgt := 161) rfl (fun _ => ?_) (fun z => absurd c18 z)
                refine mx_S.pu (pc2 := 162) (lv2 := [(0, .ref a0), (1, .int a1)]) (st2 := [.ref a0]) hm dX13_look_161 rfl ?_
                replace hf := mx_sv_el hf; obtain ⟨v17, e_v17, hf⟩ := hf
                refine sx_get hm dX13_look_162 rs_RX13_1058 (xgi_el e_v17) ?_
                clear e_v17
                cases hf
                exact sx_ire hm dX13_look_165 rfl rfl
              · refine sb_if_ne hm dX13_look_154 (tgt := 161) rfl (fun z => absurd z c18) (fun _ => ?_)
                refine sx_ic (v := 0) hm dX13_look_157 (by decide) ?_
                refine mx_S.pu (pc2 := 165) (lv2 := [(0, .ref a0), (1, .int a1)]) (st2 := [.int 0]) hm dX13_look_158 rfl ?_
                cases hf
                exact sx_ire hm dX13_look_165 rfl rfl
            · rcases mx_if_el hf with ⟨n_6, hf⟩ | ⟨n_6, hf⟩
              · refine sx_tin hm dX13_look_1 (by rw [n_6]; decide) (by rw [n_6]; decide) (off := 165) (by rw [n_6]; rfl) (tgt := 166) rfl ?_
                clear n_0 n_1 n_2 n_3 n_4 n_5 n_6
                refine mx_S.pu (pc2 := 167) (lv2 := [(0, .ref a0), (1, .int a1)]) (st2 := [.ref a0]) hm dX13_look_166 rfl ?_
                replace hf := mx_sv_el hf; obtain ⟨v19, e_v19, hf⟩ := hf
                refine sx_get hm dX13_look_167 rs_RX13_858 (xgi_el e_v19) ?_
                clear e_v19
                rcases mx_if_el hf with ⟨c21, hf⟩ | ⟨c21, hf⟩
                · refine sb_if_ne hm dX13_look_170 (tgt := 177) rfl (fun _ => ?_) (fun z => absurd c21 z)
                  refine mx_S.pu (pc2 := 178) (lv2 := [(0, .ref a0), (1, .int a1)]) (st2 := [.ref a0]) hm dX13_look_177 rfl ?_
                  replace hf := mx_sv_el hf; obtain ⟨v20, e_v20, hf⟩ := hf
                  refine sx_get hm dX13_look_178 rs_RX13_1055 (xgi_el e_v20) ?_
                  clear e_v20
                  cases hf
                  exact sx_ire hm dX13_look_181 rfl rfl
                · refine sb_if_ne hm dX13_look_170 (tgt := 177) rfl (fun z => absurd z c21) (fun _ => ?_)
                  refine sx_ic (v := 0) hm dX13_look_173 (by decide) ?_
                  refine mx_S.pu (pc2 := 181) (lv2 := [(0, .ref a0), (1, .int a1)]) (st2 := [.int 0]) hm dX13_look_174 rfl ?_
                  cases hf
                  exact sx_ire hm dX13_look_181 rfl rfl
              · rcases mx_if_el hf with ⟨n_7, hf⟩ | ⟨n_7, hf⟩
                · refine sx_tin hm dX13_look_1 (by rw [n_7]; decide) (by rw [n_7]; decide) (off := 181) (by rw [n_7]; rfl) (tgt := 182) rfl ?_
                  clear n_0 n_1 n_2 n_3 n_4 n_5 n_6 n_7
                  refine mx_S.pu (pc2 := 183) (lv2 := [(0, .ref a0), (1, .int a1)]) (st2 := [.ref a0]) hm dX13_look_182 rfl ?_
                  replace hf := mx_sv_el hf; obtain ⟨v22, e_v22, hf⟩ := hf
                  refine sx_get hm dX13_look_183 rs_RX13_858 (xgi_el e_v22) ?_
                  clear e_v22
                  refine sx_ic (v := 1) hm dX13_look_186 (by decide) ?_
                  rcases mx_if_el hf with ⟨c27, hf⟩ | ⟨c27, hf⟩
                  · refine sb_ic_ne hm dX13_look_187 (tgt := 204) rfl (fun _ => ?_) (fun z => absurd c27 z)
                    refine sx_ic (v := (-1)) hm dX13_look_204 (by decide) ?_
                    cases hf
                    exact sx_ire hm dX13_look_205 rfl rfl
                  · refine sb_ic_ne hm dX13_look_187 (tgt := 204) rfl (fun z => absurd z c27) (fun _ => ?_)
                    refine mx_S.pu (pc2 := 191) (lv2 := [(0, .ref a0), (1, .int a1)]) (st2 := [.ref a0]) hm dX13_look_190 rfl ?_
                    replace hf := mx_sv_el hf; obtain ⟨v23, e_v23, hf⟩ := hf
                    refine sx_get hm dX13_look_191 rs_RX13_294 (xgr_el e_v23) ?_
                    clear e_v23
                    refine mx_S.pu (pc2 := 195) (lv2 := [(0, .ref a0), (1, .int a1)]) (st2 := [.ref a0, .ref v23]) hm dX13_look_194 rfl ?_
                    replace hf := mx_sv_el hf; obtain ⟨v24, e_v24, hf⟩ := hf
                    refine sx_get hm dX13_look_195 rs_RX13_1058 (xgi_el e_v24) ?_
                    clear e_v24
                    refine sx_ic (v := 1) hm dX13_look_198 (by decide) ?_
                    replace hf := xl_el hf; obtain ⟨v25, e_v25, hf⟩ := hf
                    refine mx_S.pu (pc2 := 200) (lv2 := [(0, .ref a0), (1, .int a1)]) (st2 := [.int v25, .ref v23]) hm dX13_look_199 (by rw [← e_v25]; rfl) ?_
                    clear e_v25
                    replace hf := mx_sv_el hf; obtain ⟨v26, e_v26, hf⟩ := hf
                    refine sx_ald hm dX13_look_200 e_v26 ?_
                    clear e_v26
                    refine mx_S.pu (pc2 := 205) (lv2 := [(0, .ref a0), (1, .int a1)]) (st2 := [.int v26]) hm dX13_look_201 rfl ?_
                    cases hf
                    exact sx_ire hm dX13_look_205 rfl rfl
                · rcases mx_if_el hf with ⟨n_8, hf⟩ | ⟨n_8, hf⟩
                  · refine sx_tin hm dX13_look_1 (by rw [n_8]; decide) (by rw [n_8]; decide) (off := 205) (by rw [n_8]; rfl) (tgt := 206) rfl ?_
                    clear n_0 n_1 n_2 n_3 n_4 n_5 n_6 n_7 n_8
                    refine mx_S.pu (pc2 := 207) (lv2 := [(0, .ref a0), (1, .int a1)]) (st2 := [.ref a0]) hm dX13_look_206 rfl ?_
                    replace hf := mx_sv_el hf; obtain ⟨v28, e_v28, hf⟩ := hf
                    refine sx_get hm dX13_look_207 rs_RX13_858 (xgi_el e_v28) ?_
                    clear e_v28
                    refine sx_ic (v := 1) hm dX13_look_210 (by decide) ?_
                    rcases mx_if_el hf with ⟨c33, hf⟩ | ⟨c33, hf⟩
                    · refine sb_ic_ne hm dX13_look_211 (tgt := 228) rfl (fun _ => ?_) (fun z => absurd c33 z)
                      refine sx_ic (v := (-1)) hm dX13_look_228 (by decide) ?_
                      cases hf
                      exact sx_ire hm dX13_look_229 rfl rfl
                    · refine sb_ic_ne hm dX13_look_211 (tgt := 228) rfl (fun z => absurd z c33) (fun _ => ?_)
                      refine mx_S.pu (pc2 := 215) (lv2 := [(0, .ref a0), (1, .int a1)]) (st2 := [.ref a0]) hm dX13_look_214 rfl ?_
                      replace hf := mx_sv_el hf; obtain ⟨v29, e_v29, hf⟩ := hf
                      refine sx_get hm dX13_look_215 rs_RX13_297 (xgr_el e_v29) ?_
                      clear e_v29
                      refine mx_S.pu (pc2 := 219) (lv2 := [(0, .ref a0), (1, .int a1)]) (st2 := [.ref a0, .ref v29]) hm dX13_look_218 rfl ?_
                      replace hf := mx_sv_el hf; obtain ⟨v30, e_v30, hf⟩ := hf
                      refine sx_get hm dX13_look_219 rs_RX13_1058 (xgi_el e_v30) ?_
                      clear e_v30
                      refine sx_ic (v := 1) hm dX13_look_222 (by decide) ?_
                      replace hf := xl_el hf; obtain ⟨v31, e_v31, hf⟩ := hf
                      refine mx_S.pu (pc2 := 224) (lv2 := [(0, .ref a0), (1, .int a1)]) (st2 := [.int v31, .ref v29]) hm dX13_look_223 (by rw [← e_v31]; rfl) ?_
                      clear e_v31
                      replace hf := mx_sv_el hf; obtain ⟨v32, e_v32, hf⟩ := hf
                      refine sx_ald hm dX13_look_224 e_v32 ?_
                      clear e_v32
                      refine mx_S.pu (pc2 := 229) (lv2 := [(0, .ref a0), (1, .int a1)]) (st2 := [.int v32]) hm dX13_look_225 rfl ?_
                      cases hf
                      exact sx_ire hm dX13_look_229 rfl rfl
                  · rcases mx_if_el hf with ⟨n_9, hf⟩ | ⟨n_9, hf⟩
                    · refine sx_tin hm dX13_look_1 (by rw [n_9]; decide) (by rw [n_9]; decide) (off := 229) (by rw [n_9]; rfl) (tgt := 230) rfl ?_
                      clear n_0 n_1 n_2 n_3 n_4 n_5 n_6 n_7 n_8 n_9
                      refine mx_S.pu (pc2 := 231) (lv2 := [(0, .ref a0), (1, .int a1)]) (st2 := [.ref a0]) hm dX13_look_230 rfl ?_
                      replace hf := mx_sv_el hf; obtain ⟨v34, e_v34, hf⟩ := hf
                      refine sx_get hm dX13_look_231 rs_RX13_858 (xgi_el e_v34) ?_
                      clear e_v34
                      refine sx_ic (v := 1) hm dX13_look_234 (by decide) ?_
                      rcases mx_if_el hf with ⟨c39, hf⟩ | ⟨c39, hf⟩
                      · refine sb_ic_ne hm dX13_look_235 (tgt := 252) rfl (fun _ => ?_) (fun z => absurd c39 z)
                        refine mx_S.ext [] (mx_sub_pos [] rfl (show ([0, 1] : List Nat).Nodup by decide)) ?_
                        exact j_X13_look_252_ok X hF hL nn h hf
                      · refine sb_ic_ne hm dX13_look_235 (tgt := 252) rfl (fun z => absurd z c39) (fun _ => ?_)
                        refine mx_S.pu (pc2 := 239) (lv2 := [(0, .ref a0), (1, .int a1)]) (st2 := [.ref a0]) hm dX13_look_238 rfl ?_
                        replace hf := mx_sv_el hf; obtain ⟨v35, e_v35, hf⟩ := hf
                        refine sx_get hm dX13_look_239 rs_RX13_300 (xgr_el e_v35) ?_
                        clear e_v35
                        refine mx_S.pu (pc2 := 243) (lv2 := [(0, .ref a0), (1, .int a1)]) (st2 := [.ref a0, .ref v35]) hm dX13_look_242 rfl ?_
                        replace hf := mx_sv_el hf; obtain ⟨v36, e_v36, hf⟩ := hf
                        refine sx_get hm dX13_look_243 rs_RX13_1058 (xgi_el e_v36) ?_
                        clear e_v36
                        refine sx_ic (v := 1) hm dX13_look_246 (by decide) ?_
                        replace hf := xl_el hf; obtain ⟨v37, e_v37, hf⟩ := hf
                        refine mx_S.pu (pc2 := 248) (lv2 := [(0, .ref a0), (1, .int a1)]) (st2 := [.int v37, .ref v35]) hm dX13_look_247 (by rw [← e_v37]; rfl) ?_
                        clear e_v37
                        replace hf := mx_sv_el hf; obtain ⟨v38, e_v38, hf⟩ := hf
                        refine sx_ald hm dX13_look_248 e_v38 ?_
                        clear e_v38
                        refine mx_S.pu (pc2 := 253) (lv2 := [(0, .ref a0), (1, .int a1)]) (st2 := [.int v38]) hm dX13_look_249 rfl ?_
                        cases hf
                        exact sx_ire hm dX13_look_253 rfl rfl
                    · rcases mx_if_el hf with ⟨n_10, hf⟩ | ⟨n_10, hf⟩
                      · refine sx_tin hm dX13_look_1 (by rw [n_10]; decide) (by rw [n_10]; decide) (off := 253) (by rw [n_10]; rfl) (tgt := 254) rfl ?_
                        clear n_0 n_1 n_2 n_3 n_4 n_5 n_6 n_7 n_8 n_9 n_10
                        refine mx_S.pu (pc2 := 255) (lv2 := [(0, .ref a0), (1, .int a1)]) (st2 := [.ref a0]) hm dX13_look_254 rfl ?_
                        replace hf := mx_sv_el hf; obtain ⟨v40, e_v40, hf⟩ := hf
                        refine sx_get hm dX13_look_255 rs_RX13_858 (xgi_el e_v40) ?_
                        clear e_v40
                        refine sx_ic (v := 1) hm dX13_look_258 (by decide) ?_
                        rcases mx_if_el hf with ⟨c45, hf⟩ | ⟨c45, hf⟩
                        · refine sb_ic_ne hm dX13_look_259 (tgt := 276) rfl (fun _ => ?_) (fun z => absurd c45 z)
                          refine sx_ic (v := (-1)) hm dX13_look_276 (by decide) ?_
                          cases hf
                          exact sx_ire hm dX13_look_277 rfl rfl
                        · refine sb_ic_ne hm dX13_look_259 (tgt := 276) rfl (fun z => absurd z c45) (fun _ => ?_)
                          refine mx_S.pu (pc2 := 263) (lv2 := [(0, .ref a0), (1, .int a1)]) (st2 := [.ref a0]) hm dX13_look_262 rfl ?_
                          replace hf := mx_sv_el hf; obtain ⟨v41, e_v41, hf⟩ := hf
                          refine sx_get hm dX13_look_263 rs_RX13_303 (xgr_el e_v41) ?_
                          clear e_v41
                          refine mx_S.pu (pc2 := 267) (lv2 := [(0, .ref a0), (1, .int a1)]) (st2 := [.ref a0, .ref v41]) hm dX13_look_266 rfl ?_
                          replace hf := mx_sv_el hf; obtain ⟨v42, e_v42, hf⟩ := hf
                          refine sx_get hm dX13_look_267 rs_RX13_1058 (xgi_el e_v42) ?_
                          clear e_v42
                          refine sx_ic (v := 1) hm dX13_look_270 (by decide) ?_
                          replace hf := xl_el hf; obtain ⟨v43, e_v43, hf⟩ := hf
                          refine mx_S.pu (pc2 := 272) (lv2 := [(0, .ref a0), (1, .int a1)]) (st2 := [.int v43, .ref v41]) hm dX13_look_271 (by rw [← e_v43]; rfl) ?_
                          clear e_v43
                          replace hf := mx_sv_el hf; obtain ⟨v44, e_v44, hf⟩ := hf
                          refine sx_ald hm dX13_look_272 e_v44 ?_
                          clear e_v44
                          refine mx_S.pu (pc2 := 277) (lv2 := [(0, .ref a0), (1, .int a1)]) (st2 := [.int v44]) hm dX13_look_273 rfl ?_
                          cases hf
                          exact sx_ire hm dX13_look_277 rfl rfl
                      · rcases mx_if_el hf with ⟨n_11, hf⟩ | ⟨n_11, hf⟩
                        · refine sx_tin hm dX13_look_1 (by rw [n_11]; decide) (by rw [n_11]; decide) (off := 277) (by rw [n_11]; rfl) (tgt := 278) rfl ?_
                          clear n_0 n_1 n_2 n_3 n_4 n_5 n_6 n_7 n_8 n_9 n_10 n_11
                          refine mx_S.pu (pc2 := 279) (lv2 := [(0, .ref a0), (1, .int a1)]) (st2 := [.ref a0]) hm dX13_look_278 rfl ?_
                          replace hf := mx_sv_el hf; obtain ⟨v46, e_v46, hf⟩ := hf
                          refine sx_get hm dX13_look_279 rs_RX13_833 (xgi_el e_v46) ?_
                          clear e_v46
                          cases hf
                          exact sx_ire hm dX13_look_282 rfl rfl
                        · rcases mx_if_el hf with ⟨n_12, hf⟩ | ⟨n_12, hf⟩
                          · refine sx_tin hm dX13_look_1 (by rw [n_12]; decide) (by rw [n_12]; decide) (off := 282) (by rw [n_12]; rfl) (tgt := 283) rfl ?_
                            clear n_0 n_1 n_2 n_3 n_4 n_5 n_6 n_7 n_8 n_9 n_10 n_11 n_12
                            refine mx_S.pu (pc2 := 284) (lv2 := [(0, .ref a0), (1, .int a1)]) (st2 := [.ref a0]) hm dX13_look_283 rfl ?_
                            replace hf := mx_sv_el hf; obtain ⟨v47, e_v47, hf⟩ := hf
                            refine sx_get hm dX13_look_284 rs_RX13_855 (xgi_el e_v47) ?_
                            clear e_v47
                            rcases mx_if_el hf with ⟨c48, hf⟩ | ⟨c48, hf⟩
                            · refine sb_if_eq hm dX13_look_287 (tgt := 294) rfl (fun _ => ?_) (fun z => absurd c48 z)
                              refine sx_ic (v := 0) hm dX13_look_294 (by decide) ?_
                              cases hf
                              exact sx_ire hm dX13_look_295 rfl rfl
                            · refine sb_if_eq hm dX13_look_287 (tgt := 294) rfl (fun z => absurd z c48) (fun _ => ?_)
                              refine sx_ic (v := 1) hm dX13_look_290 (by decide) ?_
                              refine mx_S.pu (pc2 := 295) (lv2 := [(0, .ref a0), (1, .int a1)]) (st2 := [.int 1]) hm dX13_look_291 rfl ?_
                              cases hf
                              exact sx_ire hm dX13_look_295 rfl rfl
                          · rcases mx_if_el hf with ⟨n_13, hf⟩ | ⟨n_13, hf⟩
                            · refine sx_tin hm dX13_look_1 (by rw [n_13]; decide) (by rw [n_13]; decide) (off := 295) (by rw [n_13]; rfl) (tgt := 296) rfl ?_
                              clear n_0 n_1 n_2 n_3 n_4 n_5 n_6 n_7 n_8 n_9 n_10 n_11 n_12 n_13
                              refine mx_S.pu (pc2 := 297) (lv2 := [(0, .ref a0), (1, .int a1)]) (st2 := [.ref a0]) hm dX13_look_296 rfl ?_
                              replace hf := mx_sv_el hf; obtain ⟨v49, e_v49, hf⟩ := hf
                              refine sx_get hm dX13_look_297 rs_RX13_312 (xgi_el e_v49) ?_
                              clear e_v49
                              cases hf
                              exact sx_ire hm dX13_look_300 rfl rfl
                            · rcases (show (a1.toInt < 0 ∨ 13 < a1.toInt) ∨ a1.toInt = 0 ∨ a1.toInt = 1 ∨ a1.toInt = 2 ∨ a1.toInt = 3 ∨ a1.toInt = 4 ∨ a1.toInt = 5 ∨ a1.toInt = 6 ∨ a1.toInt = 7 ∨ a1.toInt = 8 ∨ a1.toInt = 9 ∨ a1.toInt = 10 ∨ a1.toInt = 11 ∨ a1.toInt = 12 ∨ a1.toInt = 13 by omega) with z0 | z0 | z0 | z0 | z0 | z0 | z0 | z0 | z0 | z0 | z0 | z0 | z0 | z0 | z0
                              · refine sx_tout hm dX13_look_1 z0 (tgt := 301) rfl ?_
                                refine sx_ic (v := (-1)) hm dX13_look_301 (by decide) ?_
                                cases hf
                                exact sx_ire hm dX13_look_302 rfl rfl
                              · exact absurd (Int32.toInt_inj.mp (z0.trans (by decide : (0 : Int) = (0 : Int32).toInt))) n_0
                              · exact absurd (Int32.toInt_inj.mp (z0.trans (by decide : (1 : Int) = (1 : Int32).toInt))) n_1
                              · exact absurd (Int32.toInt_inj.mp (z0.trans (by decide : (2 : Int) = (2 : Int32).toInt))) n_2
                              · exact absurd (Int32.toInt_inj.mp (z0.trans (by decide : (3 : Int) = (3 : Int32).toInt))) n_3
                              · exact absurd (Int32.toInt_inj.mp (z0.trans (by decide : (4 : Int) = (4 : Int32).toInt))) n_4
                              · exact absurd (Int32.toInt_inj.mp (z0.trans (by decide : (5 : Int) = (5 : Int32).toInt))) n_5
                              · exact absurd (Int32.toInt_inj.mp (z0.trans (by decide : (6 : Int) = (6 : Int32).toInt))) n_6
                              · exact absurd (Int32.toInt_inj.mp (z0.trans (by decide : (7 : Int) = (7 : Int32).toInt))) n_7
                              · exact absurd (Int32.toInt_inj.mp (z0.trans (by decide : (8 : Int) = (8 : Int32).toInt))) n_8
                              · exact absurd (Int32.toInt_inj.mp (z0.trans (by decide : (9 : Int) = (9 : Int32).toInt))) n_9
                              · exact absurd (Int32.toInt_inj.mp (z0.trans (by decide : (10 : Int) = (10 : Int32).toInt))) n_10
                              · exact absurd (Int32.toInt_inj.mp (z0.trans (by decide : (11 : Int) = (11 : Int32).toInt))) n_11
                              · exact absurd (Int32.toInt_inj.mp (z0.trans (by decide : (12 : Int) = (12 : Int32).toInt))) n_12
                              · exact absurd (Int32.toInt_inj.mp (z0.trans (by decide : (13 : Int) = (13 : Int32).toInt))) n_13
set_option maxHeartbeats 4000000 in
set_option maxRecDepth 20000 in
theorem f_X13_out_ok (X : Nat × (Nat → Int32)) {F L : Nat} (hF : 0 ≤ F) (hL : 0 ≤ L) (nn : Nat) (a0 : Nat) (a1 : Int32) (h : mx_H) {r : (Int32 × mx_H)} (hf : f_X13_out nn a0 a1 h = some r) : mx_R X F L 597 [.ref a0, .int a1] h (some (.int r.1), r.2, 0, 0) := by
  have hm : mx_mt 597 = some (yX13_out, cX13_out, 2, (some .int)) := mt_X13_out
  show mx_S X F L 597 0 [(0, .ref a0), (1, .int a1)] [] h 0 0 (some (.int r.1), r.2, 0, 0)
  unfold f_X13_out at hf
  refine mx_S.pu (pc2 := 1) (lv2 := [(0, .ref a0), (1, .int a1)]) (st2 := [.ref a0]) hm dX13_out_0 rfl ?_
  replace hf := mx_sv_el hf; obtain ⟨v1, e_v1, hf⟩ := hf
  refine sx_get hm dX13_out_1 rs_RX13_858 (xgi_el e_v1) ?_
  clear e_v1
  rcases mx_if_el hf with ⟨c8, hf⟩ | ⟨c8, hf⟩
  · refine sb_if_le hm dX13_out_4 (tgt := 35) rfl (fun _ => ?_) (fun z => absurd c8 z)
    refine sx_ic (v := 0) hm dX13_out_35 (by decide) ?_
    cases hf
    exact sx_ire hm dX13_out_36 rfl rfl
  · refine sb_if_le hm dX13_out_4 (tgt := 35) rfl (fun z => absurd z c8) (fun _ => ?_)
    refine mx_S.pu (pc2 := 8) (lv2 := [(0, .ref a0), (1, .int a1)]) (st2 := [.int a1]) hm dX13_out_7 rfl ?_
    rcases mx_if_el hf with ⟨c7, hf⟩ | ⟨c7, hf⟩
    · refine sb_if_lt hm dX13_out_8 (tgt := 35) rfl (fun _ => ?_) (fun z => absurd c7 z)
      refine sx_ic (v := 0) hm dX13_out_35 (by decide) ?_
      cases hf
      exact sx_ire hm dX13_out_36 rfl rfl
    · refine sb_if_lt hm dX13_out_8 (tgt := 35) rfl (fun z => absurd z c7) (fun _ => ?_)
      refine mx_S.pu (pc2 := 12) (lv2 := [(0, .ref a0), (1, .int a1)]) (st2 := [.int a1]) hm dX13_out_11 rfl ?_
      refine mx_S.pu (pc2 := 13) (lv2 := [(0, .ref a0), (1, .int a1)]) (st2 := [.ref a0, .int a1]) hm dX13_out_12 rfl ?_
      replace hf := mx_sv_el hf; obtain ⟨v2, e_v2, hf⟩ := hf
      refine sx_get hm dX13_out_13 rs_RX13_1055 (xgi_el e_v2) ?_
      clear e_v2
      rcases mx_if_el hf with ⟨c6, hf⟩ | ⟨c6, hf⟩
      · refine sb_ic_ge hm dX13_out_16 (tgt := 35) rfl (fun _ => ?_) (fun z => absurd c6 z)
        refine sx_ic (v := 0) hm dX13_out_35 (by decide) ?_
        cases hf
        exact sx_ire hm dX13_out_36 rfl rfl
      · refine sb_ic_ge hm dX13_out_16 (tgt := 35) rfl (fun z => absurd z c6) (fun _ => ?_)
        refine mx_S.pu (pc2 := 20) (lv2 := [(0, .ref a0), (1, .int a1)]) (st2 := [.int a1]) hm dX13_out_19 rfl ?_
        refine sx_si (v := 1000) hm dX13_out_20 (by decide) ?_
        rcases mx_if_el hf with ⟨c5, hf⟩ | ⟨c5, hf⟩
        · refine sb_ic_ge hm dX13_out_23 (tgt := 35) rfl (fun _ => ?_) (fun z => absurd c5 z)
          refine sx_ic (v := 0) hm dX13_out_35 (by decide) ?_
          cases hf
          exact sx_ire hm dX13_out_36 rfl rfl
        · refine sb_ic_ge hm dX13_out_23 (tgt := 35) rfl (fun z => absurd z c5) (fun _ => ?_)
          refine mx_S.pu (pc2 := 27) (lv2 := [(0, .ref a0), (1, .int a1)]) (st2 := [.ref a0]) hm dX13_out_26 rfl ?_
          replace hf := mx_sv_el hf; obtain ⟨v3, e_v3, hf⟩ := hf
          refine sx_get hm dX13_out_27 rs_RX13_291 (xgr_el e_v3) ?_
          clear e_v3
          refine mx_S.pu (pc2 := 31) (lv2 := [(0, .ref a0), (1, .int a1)]) (st2 := [.int a1, .ref v3]) hm dX13_out_30 rfl ?_
          replace hf := mx_sv_el hf; obtain ⟨v4, e_v4, hf⟩ := hf
          refine sx_ald hm dX13_out_31 e_v4 ?_
          clear e_v4
          refine mx_S.pu (pc2 := 36) (lv2 := [(0, .ref a0), (1, .int a1)]) (st2 := [.int v4]) hm dX13_out_32 rfl ?_
          cases hf
          exact sx_ire hm dX13_out_36 rfl rfl
set_option maxHeartbeats 4000000 in
set_option maxRecDepth 20000 in
theorem j_X13_patch_235_ok (X : Nat × (Nat → Int32)) {F L : Nat} (hF : 10 ≤ F) (hL : 238 ≤ L) (nn : Nat) (l0 : Nat) (l4 : Int32) (l5 : Int32) (h : mx_H) {r : (Int32 × mx_H)} (hf : j_X13_patch_235 nn l0 l4 l5 h = some r) : mx_S X F L 518 235 [(0, .ref l0), (4, .int l4), (5, .int l5)] [] h 0 0 (some (.int r.1), r.2, 0, 0) := by
  have hm : mx_mt 518 = some (yX13_patch, cX13_patch, 8, (some .boolean)) := mt_X13_patch
  unfold j_X13_patch_235 at hf
  refine mx_S.pu (pc2 := 237) (lv2 := [(0, .ref l0), (4, .int l4), (5, .int l5)]) (st2 := [.int l5]) hm dX13_patch_235 rfl ?_
  rcases mx_if_el hf with ⟨c7, hf⟩ | ⟨c7, hf⟩
  · refine sb_if_ne hm dX13_patch_237 (tgt := 248) rfl (fun _ => ?_) (fun z => absurd c7 z)
    refine mx_S.pu (pc2 := 249) (lv2 := [(0, .ref l0), (4, .int l4), (5, .int l5)]) (st2 := [.ref l0]) hm dX13_patch_248 rfl ?_
    refine mx_S.pu (pc2 := 251) (lv2 := [(0, .ref l0), (4, .int l4), (5, .int l5)]) (st2 := [.int l4, .ref l0]) hm dX13_patch_249 rfl ?_
    replace hf := mx_gd_el hf; obtain ⟨c1, hf⟩ := hf
    replace hf := mx_sv_el hf; obtain ⟨u2, e_u2, hf⟩ := hf
    refine sx_cv hm dX13_patch_251 rs_RX13_852 mt_X13_install [.int l4] [] (b := l0) (ci := 13) rfl rfl rfl c1 (Nat.le_of_ble_eq_true rfl) (Nat.le_of_ble_eq_true rfl) (by omega) (by omega) (f_X13_install_ok X (by omega) (by omega) nn l0 l4 h e_u2) ?_
    clear e_u2
    show mx_S X F L 518 254 [(0, .ref l0), (4, .int l4), (5, .int l5)] [.int u2.1] u2.2 0 0 (some (.int r.1), r.2, 0, 0)
    refine mx_S.pu (pc2 := 255) (lv2 := [(0, .ref l0), (4, .int l4), (5, .int l5)]) (st2 := []) hm dX13_patch_254 rfl ?_
    refine mx_S.pu (pc2 := 256) (lv2 := [(0, .ref l0), (4, .int l4), (5, .int l5)]) (st2 := [.ref l0]) hm dX13_patch_255 rfl ?_
    refine sx_ic (v := 0) hm dX13_patch_256 (by decide) ?_
    replace hf := mx_sv_el hf; obtain ⟨h3, e_h3, hf⟩ := hf
    refine sx_put hm dX13_patch_257 rs_RX13_855 ft_13_99 ⟨by decide, by decide⟩ (fun z => by cases z) e_h3 ?_
    clear e_h3
    refine mx_S.pu (pc2 := 261) (lv2 := [(0, .ref l0), (4, .int l4), (5, .int l5)]) (st2 := [.ref l0]) hm dX13_patch_260 rfl ?_
    refine sx_ic (v := 0) hm dX13_patch_261 (by decide) ?_
    replace hf := mx_sv_el hf; obtain ⟨h4, e_h4, hf⟩ := hf
    refine sx_put hm dX13_patch_262 rs_RX13_858 ft_13_138 ⟨rfl, rfl⟩ (fun z => by cases z) e_h4 ?_
    clear e_h4
    refine sx_ic (v := 1) hm dX13_patch_265 (by decide) ?_
    cases hf
    exact sx_ire hm dX13_patch_266 rfl (by decide)
  · refine sb_if_ne hm dX13_patch_237 (tgt := 248) rfl (fun z => absurd z c7) (fun _ => ?_)
    refine mx_S.pu (pc2 := 241) (lv2 := [(0, .ref l0), (4, .int l4), (5, .int l5)]) (st2 := [.ref l0]) hm dX13_patch_240 rfl ?_
    refine mx_S.pu (pc2 := 243) (lv2 := [(0, .ref l0), (4, .int l4), (5, .int l5)]) (st2 := [.int l4, .ref l0]) hm dX13_patch_241 rfl ?_
    replace hf := mx_gd_el hf; obtain ⟨c5, hf⟩ := hf
    replace hf := mx_sv_el hf; obtain ⟨u6, e_u6, hf⟩ := hf
    refine sx_cv hm dX13_patch_243 rs_RX13_846 mt_X13_again [.int l4] [] (b := l0) (ci := 13) rfl rfl rfl c5 (Nat.le_of_ble_eq_true rfl) (Nat.le_of_ble_eq_true rfl) (by omega) (by omega) (f_X13_again_ok X (by omega) (by omega) nn l0 l4 h e_u6) ?_
    clear e_u6
    show mx_S X F L 518 246 [(0, .ref l0), (4, .int l4), (5, .int l5)] [] u6 0 0 (some (.int r.1), r.2, 0, 0)
    refine sx_ic (v := 0) hm dX13_patch_246 (by decide) ?_
    cases hf
    exact sx_ire hm dX13_patch_247 rfl (by decide)
set_option maxHeartbeats 4000000 in
set_option maxRecDepth 20000 in
theorem j_X13_patch_222_ok (X : Nat × (Nat → Int32)) {F L : Nat} (hF : 10 ≤ F) (hL : 238 ≤ L) (nn : Nat) {kk_173 : Nat → Int32 → Int32 → Int32 → Int32 → Int32 → mx_H → Option (Int32 × mx_H)} (hk_173 : ∀ (l0 : Nat) (l1 : Int32) (l4 : Int32) (l5 : Int32) (l6 : Int32) (l7 : Int32) (h : mx_H) (r : (Int32 × mx_H)), kk_173 l0 l1 l4 l5 l6 l7 h = some r → mx_S X F L 518 173 [(0, .ref l0), (1, .int l1), (4, .int l4), (5, .int l5), (6, .int l6), (7, .int l7)] [] h 0 0 (some (.int r.1), r.2, 0, 0)) (l0 : Nat) (l1 : Int32) (l4 : Int32) (l6 : Int32) (l7 : Int32) (h : mx_H) {r : (Int32 × mx_H)} (hf : j_X13_patch_222 nn kk_173 l0 l1 l4 l6 l7 h = some r) : mx_S X F L 518 222 [(0, .ref l0), (1, .int l1), (4, .int l4), (6, .int l6), (7, .int l7)] [] h 0 0 (some (.int r.1), r.2, 0, 0) := by
  have hm : mx_mt 518 = some (yX13_patch, cX13_patch, 8, (some .boolean)) := mt_X13_patch
  unfold j_X13_patch_222 at hf
  refine sx_ic (v := 1) hm dX13_patch_222 (by decide) ?_
  refine mx_S.pu (pc2 := 227) (lv2 := [(0, .ref l0), (1, .int l1), (4, .int l4), (6, .int l6), (7, .int l7)]) (st2 := [.int 1]) hm dX13_patch_223 rfl ?_
  refine mx_S.pu (pc2 := 229) (lv2 := [(5, .int 1), (0, .ref l0), (1, .int l1), (4, .int l4), (6, .int l6), (7, .int l7)]) (st2 := []) hm dX13_patch_227 rfl ?_
  replace hf := xl_el hf; obtain ⟨v8, e_v8, hf⟩ := hf
  refine mx_S.pu (pc2 := 232) (lv2 := [(7, .int v8), (5, .int 1), (0, .ref l0), (1, .int l1), (4, .int l4), (6, .int l6)]) (st2 := []) hm dX13_patch_229 (by rw [← e_v8]; rfl) ?_
  clear e_v8
  refine mx_S.pu (pc2 := 173) (lv2 := [(7, .int v8), (5, .int 1), (0, .ref l0), (1, .int l1), (4, .int l4), (6, .int l6)]) (st2 := []) hm dX13_patch_232 rfl ?_
  refine mx_S.ext [(0, .ref l0), (1, .int l1), (4, .int l4), (5, .int 1), (6, .int l6), (7, .int v8)] (mx_sub_pos [2, 3, 4, 1, 5, 0] rfl (show ([7, 5, 0, 1, 4, 6] : List Nat).Nodup by decide)) ?_
  exact hk_173 l0 l1 l4 1 l6 v8 h _ hf
set_option maxHeartbeats 4000000 in
set_option maxRecDepth 20000 in
theorem w_X13_patch_173_ok (X : Nat × (Nat → Int32)) {F L : Nat} (hF : 10 ≤ F) (hL : 238 ≤ L) (nn : Nat) : ∀ (k : Nat) (l0 : Nat) (l1 : Int32) (l4 : Int32) (l5 : Int32) (l6 : Int32) (l7 : Int32) (h : mx_H) (r : (Int32 × mx_H)), w_X13_patch_173 nn k l0 l1 l4 l5 l6 l7 h = some r → mx_S X F L 518 173 [(0, .ref l0), (1, .int l1), (4, .int l4), (5, .int l5), (6, .int l6), (7, .int l7)] [] h 0 0 (some (.int r.1), r.2, 0, 0) := by
  have hm : mx_mt 518 = some (yX13_patch, cX13_patch, 8, (some .boolean)) := mt_X13_patch
  intro k
  induction k with
  | zero => intro l0 l1 l4 l5 l6 l7 h r hf; cases hf
  | succ k ih =>
    intro l0 l1 l4 l5 l6 l7 h r hf
    unfold w_X13_patch_173 at hf
    refine mx_S.pu (pc2 := 175) (lv2 := [(0, .ref l0), (1, .int l1), (4, .int l4), (5, .int l5), (6, .int l6), (7, .int l7)]) (st2 := [.int l7]) hm dX13_patch_173 rfl ?_
    refine sx_bi (v := 8) hm dX13_patch_175 (by decide) ?_
    refine mx_S.pu (pc2 := 178) (lv2 := [(0, .ref l0), (1, .int l1), (4, .int l4), (5, .int l5), (6, .int l6), (7, .int l7)]) (st2 := [.ref l0, .int 8, .int l7]) hm dX13_patch_177 rfl ?_
    replace hf := mx_sv_el hf; obtain ⟨v9, e_v9, hf⟩ := hf
    refine sx_get hm dX13_patch_178 rs_RX13_833 (xgi_el e_v9) ?_
    clear e_v9
    replace hf := xl_el hf; obtain ⟨v10, e_v10, hf⟩ := hf
    refine mx_S.pu (pc2 := 182) (lv2 := [(0, .ref l0), (1, .int l1), (4, .int l4), (5, .int l5), (6, .int l6), (7, .int l7)]) (st2 := [.int v10, .int l7]) hm dX13_patch_181 (by rw [← e_v10]; rfl) ?_
    clear e_v10
    rcases mx_if_el hf with ⟨c22, hf⟩ | ⟨c22, hf⟩
    · refine sb_ic_ge hm dX13_patch_182 (tgt := 235) rfl (fun _ => ?_) (fun z => absurd c22 z)
      refine mx_S.ext [(0, .ref l0), (4, .int l4), (5, .int l5)] (mx_sub_pos [0, 2, 3] rfl (show ([0, 1, 4, 5, 6, 7] : List Nat).Nodup by decide)) ?_
      exact j_X13_patch_235_ok X hF hL nn l0 l4 l5 h hf
    · refine sb_ic_ge hm dX13_patch_182 (tgt := 235) rfl (fun z => absurd z c22) (fun _ => ?_)
      refine mx_S.pu (pc2 := 187) (lv2 := [(0, .ref l0), (1, .int l1), (4, .int l4), (5, .int l5), (6, .int l6), (7, .int l7)]) (st2 := [.int l5]) hm dX13_patch_185 rfl ?_
      rcases mx_if_el hf with ⟨c21, hf⟩ | ⟨c21, hf⟩
      · refine sb_if_eq hm dX13_patch_187 (tgt := 235) rfl (fun _ => ?_) (fun z => absurd c21 z)
        refine mx_S.ext [(0, .ref l0), (4, .int l4), (5, .int l5)] (mx_sub_pos [0, 2, 3] rfl (show ([0, 1, 4, 5, 6, 7] : List Nat).Nodup by decide)) ?_
        exact j_X13_patch_235_ok X hF hL nn l0 l4 l5 h hf
      · refine sb_if_eq hm dX13_patch_187 (tgt := 235) rfl (fun z => absurd z c21) (fun _ => ?_)
        refine mx_S.pu (pc2 := 192) (lv2 := [(0, .ref l0), (1, .int l1), (4, .int l4), (5, .int l5), (6, .int l6), (7, .int l7)]) (st2 := [.int l7]) hm dX13_patch_190 rfl ?_
        refine mx_S.pu (pc2 := 193) (lv2 := [(0, .ref l0), (1, .int l1), (4, .int l4), (5, .int l5), (6, .int l6), (7, .int l7)]) (st2 := [.int l1, .int l7]) hm dX13_patch_192 rfl ?_
        rcases mx_if_el hf with ⟨c20, hf⟩ | ⟨c20, hf⟩
        · refine sb_ic_eq hm dX13_patch_193 (tgt := 222) rfl (fun _ => ?_) (fun z => absurd c20 z)
          refine mx_S.ext [(0, .ref l0), (1, .int l1), (4, .int l4), (6, .int l6), (7, .int l7)] (mx_sub_pos [0, 1, 2, 4, 5] rfl (show ([0, 1, 4, 5, 6, 7] : List Nat).Nodup by decide)) ?_
          exact j_X13_patch_222_ok X hF hL nn ih l0 l1 l4 l6 l7 h hf
        · refine sb_ic_eq hm dX13_patch_193 (tgt := 222) rfl (fun z => absurd z c20) (fun _ => ?_)
          refine mx_S.pu (pc2 := 197) (lv2 := [(0, .ref l0), (1, .int l1), (4, .int l4), (5, .int l5), (6, .int l6), (7, .int l7)]) (st2 := [.ref l0]) hm dX13_patch_196 rfl ?_
          refine mx_S.pu (pc2 := 199) (lv2 := [(0, .ref l0), (1, .int l1), (4, .int l4), (5, .int l5), (6, .int l6), (7, .int l7)]) (st2 := [.int l7, .ref l0]) hm dX13_patch_197 rfl ?_
          refine mx_S.pu (pc2 := 200) (lv2 := [(0, .ref l0), (1, .int l1), (4, .int l4), (5, .int l5), (6, .int l6), (7, .int l7)]) (st2 := [.ref l0, .int l7, .ref l0]) hm dX13_patch_199 rfl ?_
          replace hf := mx_sv_el hf; obtain ⟨v11, e_v11, hf⟩ := hf
          refine sx_get hm dX13_patch_200 rs_RX13_245 (xgr_el e_v11) ?_
          clear e_v11
          refine mx_S.pu (pc2 := 205) (lv2 := [(0, .ref l0), (1, .int l1), (4, .int l4), (5, .int l5), (6, .int l6), (7, .int l7)]) (st2 := [.int l6, .ref v11, .int l7, .ref l0]) hm dX13_patch_203 rfl ?_
          refine sx_ic (v := 2) hm dX13_patch_205 (by decide) ?_
          replace hf := xl_el hf; obtain ⟨v12, e_v12, hf⟩ := hf
          refine mx_S.pu (pc2 := 207) (lv2 := [(0, .ref l0), (1, .int l1), (4, .int l4), (5, .int l5), (6, .int l6), (7, .int l7)]) (st2 := [.int v12, .ref v11, .int l7, .ref l0]) hm dX13_patch_206 (by rw [← e_v12]; rfl) ?_
          clear e_v12
          refine mx_S.pu (pc2 := 208) (lv2 := [(0, .ref l0), (1, .int l1), (4, .int l4), (5, .int l5), (6, .int l6), (7, .int l7)]) (st2 := [.ref l0, .int v12, .ref v11, .int l7, .ref l0]) hm dX13_patch_207 rfl ?_
          replace hf := mx_sv_el hf; obtain ⟨v13, e_v13, hf⟩ := hf
          refine sx_get hm dX13_patch_208 rs_RX13_245 (xgr_el e_v13) ?_
          clear e_v13
          refine mx_S.pu (pc2 := 213) (lv2 := [(0, .ref l0), (1, .int l1), (4, .int l4), (5, .int l5), (6, .int l6), (7, .int l7)]) (st2 := [.int l6, .ref v13, .int v12, .ref v11, .int l7, .ref l0]) hm dX13_patch_211 rfl ?_
          refine sx_ic (v := 1) hm dX13_patch_213 (by decide) ?_
          replace hf := xl_el hf; obtain ⟨v14, e_v14, hf⟩ := hf
          refine mx_S.pu (pc2 := 215) (lv2 := [(0, .ref l0), (1, .int l1), (4, .int l4), (5, .int l5), (6, .int l6), (7, .int l7)]) (st2 := [.int v14, .ref v13, .int v12, .ref v11, .int l7, .ref l0]) hm dX13_patch_214 (by rw [← e_v14]; rfl) ?_
          clear e_v14
          replace hf := mx_sv_el hf; obtain ⟨v15, e_v15, hf⟩ := hf
          refine sx_ald hm dX13_patch_215 e_v15 ?_
          clear e_v15
          replace hf := mx_gd_el hf; obtain ⟨c16, hf⟩ := hf
          replace hf := mx_sv_el hf; obtain ⟨u17, e_u17, hf⟩ := hf
          refine sx_cv hm dX13_patch_216 rs_RX13_836 mt_X13_isNamed [.int l7, .ref v11, .int v12, .int v15] [] (b := l0) (ci := 13) rfl rfl rfl c16 (Nat.le_of_ble_eq_true rfl) (Nat.le_of_ble_eq_true rfl) (by omega) (by omega) (f_X13_isNamed_ok X (by omega) (by omega) nn l0 l7 v11 v12 v15 h e_u17) ?_
          clear e_u17
          show mx_S X F L 518 219 [(0, .ref l0), (1, .int l1), (4, .int l4), (5, .int l5), (6, .int l6), (7, .int l7)] [.int u17.1] u17.2 0 0 (some (.int r.1), r.2, 0, 0)
          rcases mx_if_el hf with ⟨c19, hf⟩ | ⟨c19, hf⟩
          · refine sb_if_ne hm dX13_patch_219 (tgt := 226) rfl (fun _ => ?_) (fun z => absurd c19 z)
            refine sx_ic (v := 0) hm dX13_patch_226 (by decide) ?_
            refine mx_S.pu (pc2 := 229) (lv2 := [(5, .int 0), (0, .ref l0), (1, .int l1), (4, .int l4), (6, .int l6), (7, .int l7)]) (st2 := []) hm dX13_patch_227 rfl ?_
            replace hf := xl_el hf; obtain ⟨v18, e_v18, hf⟩ := hf
            refine mx_S.pu (pc2 := 232) (lv2 := [(7, .int v18), (5, .int 0), (0, .ref l0), (1, .int l1), (4, .int l4), (6, .int l6)]) (st2 := []) hm dX13_patch_229 (by rw [← e_v18]; rfl) ?_
            clear e_v18
            refine mx_S.pu (pc2 := 173) (lv2 := [(7, .int v18), (5, .int 0), (0, .ref l0), (1, .int l1), (4, .int l4), (6, .int l6)]) (st2 := []) hm dX13_patch_232 rfl ?_
            refine mx_S.ext [(0, .ref l0), (1, .int l1), (4, .int l4), (5, .int 0), (6, .int l6), (7, .int v18)] (mx_sub_pos [2, 3, 4, 1, 5, 0] rfl (show ([7, 5, 0, 1, 4, 6] : List Nat).Nodup by decide)) ?_
            exact ih l0 l1 l4 0 l6 v18 u17.2 _ hf
          · refine sb_if_ne hm dX13_patch_219 (tgt := 226) rfl (fun z => absurd z c19) (fun _ => ?_)
            refine mx_S.ext [(0, .ref l0), (1, .int l1), (4, .int l4), (6, .int l6), (7, .int l7)] (mx_sub_pos [0, 1, 2, 4, 5] rfl (show ([0, 1, 4, 5, 6, 7] : List Nat).Nodup by decide)) ?_
            exact j_X13_patch_222_ok X hF hL nn ih l0 l1 l4 l6 l7 u17.2 hf
set_option maxHeartbeats 4000000 in
set_option maxRecDepth 20000 in
theorem j_X13_patch_123_ok (X : Nat × (Nat → Int32)) {F L : Nat} (hF : 10 ≤ F) (hL : 238 ≤ L) (nn : Nat) (l0 : Nat) (l1 : Int32) (l4 : Int32) (s0 : Int32) (h : mx_H) {r : (Int32 × mx_H)} (hf : j_X13_patch_123 nn l0 l1 l4 s0 h = some r) : mx_S X F L 518 123 [(0, .ref l0), (1, .int l1), (4, .int l4)] [.int s0] h 0 0 (some (.int r.1), r.2, 0, 0) := by
  have hm : mx_mt 518 = some (yX13_patch, cX13_patch, 8, (some .boolean)) := mt_X13_patch
  unfold j_X13_patch_123 at hf
  refine mx_S.pu (pc2 := 125) (lv2 := [(5, .int s0), (0, .ref l0), (1, .int l1), (4, .int l4)]) (st2 := []) hm dX13_patch_123 rfl ?_
  refine mx_S.pu (pc2 := 127) (lv2 := [(5, .int s0), (0, .ref l0), (1, .int l1), (4, .int l4)]) (st2 := [.int s0]) hm dX13_patch_125 rfl ?_
  rcases mx_if_el hf with ⟨c36, hf⟩ | ⟨c36, hf⟩
  · refine sb_if_eq hm dX13_patch_127 (tgt := 235) rfl (fun _ => ?_) (fun z => absurd c36 z)
    refine mx_S.ext [(0, .ref l0), (4, .int l4), (5, .int s0)] (mx_sub_pos [1, 3, 0] rfl (show ([5, 0, 1, 4] : List Nat).Nodup by decide)) ?_
    exact j_X13_patch_235_ok X hF hL nn l0 l4 s0 h hf
  · refine sb_if_eq hm dX13_patch_127 (tgt := 235) rfl (fun z => absurd z c36) (fun _ => ?_)
    refine mx_S.pu (pc2 := 131) (lv2 := [(5, .int s0), (0, .ref l0), (1, .int l1), (4, .int l4)]) (st2 := [.ref l0]) hm dX13_patch_130 rfl ?_
    replace hf := mx_sv_el hf; obtain ⟨v23, e_v23, hf⟩ := hf
    refine sx_get hm dX13_patch_131 rs_RX13_215 (xgr_el e_v23) ?_
    clear e_v23
    refine sx_si (v := 256) hm dX13_patch_134 (by decide) ?_
    refine mx_S.pu (pc2 := 139) (lv2 := [(5, .int s0), (0, .ref l0), (1, .int l1), (4, .int l4)]) (st2 := [.int l4, .int 256, .ref v23]) hm dX13_patch_137 rfl ?_
    replace hf := xl_el hf; obtain ⟨v24, e_v24, hf⟩ := hf
    refine mx_S.pu (pc2 := 140) (lv2 := [(5, .int s0), (0, .ref l0), (1, .int l1), (4, .int l4)]) (st2 := [.int v24, .ref v23]) hm dX13_patch_139 (by rw [← e_v24]; rfl) ?_
    clear e_v24
    refine mx_S.pu (pc2 := 141) (lv2 := [(5, .int s0), (0, .ref l0), (1, .int l1), (4, .int l4)]) (st2 := [.ref l0, .int v24, .ref v23]) hm dX13_patch_140 rfl ?_
    replace hf := mx_sv_el hf; obtain ⟨v25, e_v25, hf⟩ := hf
    refine sx_get hm dX13_patch_141 rs_RX13_245 (xgr_el e_v25) ?_
    clear e_v25
    refine mx_S.pu (pc2 := 145) (lv2 := [(5, .int s0), (0, .ref l0), (1, .int l1), (4, .int l4)]) (st2 := [.ref l0, .ref v25, .int v24, .ref v23]) hm dX13_patch_144 rfl ?_
    replace hf := mx_sv_el hf; obtain ⟨v26, e_v26, hf⟩ := hf
    refine sx_get hm dX13_patch_145 rs_RX13_215 (xgr_el e_v26) ?_
    clear e_v26
    refine sx_si (v := 256) hm dX13_patch_148 (by decide) ?_
    refine mx_S.pu (pc2 := 153) (lv2 := [(5, .int s0), (0, .ref l0), (1, .int l1), (4, .int l4)]) (st2 := [.int l4, .int 256, .ref v26, .ref v25, .int v24, .ref v23]) hm dX13_patch_151 rfl ?_
    replace hf := xl_el hf; obtain ⟨v27, e_v27, hf⟩ := hf
    refine mx_S.pu (pc2 := 154) (lv2 := [(5, .int s0), (0, .ref l0), (1, .int l1), (4, .int l4)]) (st2 := [.int v27, .ref v26, .ref v25, .int v24, .ref v23]) hm dX13_patch_153 (by rw [← e_v27]; rfl) ?_
    clear e_v27
    refine mx_S.pu (pc2 := 155) (lv2 := [(5, .int s0), (0, .ref l0), (1, .int l1), (4, .int l4)]) (st2 := [.ref l0, .int v27, .ref v26, .ref v25, .int v24, .ref v23]) hm dX13_patch_154 rfl ?_
    replace hf := mx_sv_el hf; obtain ⟨v28, e_v28, hf⟩ := hf
    refine sx_get hm dX13_patch_155 rs_RX13_221 (xgr_el e_v28) ?_
    clear e_v28
    refine mx_S.pu (pc2 := 160) (lv2 := [(5, .int s0), (0, .ref l0), (1, .int l1), (4, .int l4)]) (st2 := [.int l4, .ref v28, .int v27, .ref v26, .ref v25, .int v24, .ref v23]) hm dX13_patch_158 rfl ?_
    replace hf := mx_sv_el hf; obtain ⟨v29, e_v29, hf⟩ := hf
    refine sx_ald hm dX13_patch_160 e_v29 ?_
    clear e_v29
    replace hf := xl_el hf; obtain ⟨v30, e_v30, hf⟩ := hf
    refine mx_S.pu (pc2 := 162) (lv2 := [(5, .int s0), (0, .ref l0), (1, .int l1), (4, .int l4)]) (st2 := [.int v30, .ref v26, .ref v25, .int v24, .ref v23]) hm dX13_patch_161 (by rw [← e_v30]; rfl) ?_
    clear e_v30
    replace hf := mx_sv_el hf; obtain ⟨v31, e_v31, hf⟩ := hf
    refine sx_ald hm dX13_patch_162 e_v31 ?_
    clear e_v31
    refine sx_ic (v := 1) hm dX13_patch_163 (by decide) ?_
    replace hf := xl_el hf; obtain ⟨v32, e_v32, hf⟩ := hf
    refine mx_S.pu (pc2 := 165) (lv2 := [(5, .int s0), (0, .ref l0), (1, .int l1), (4, .int l4)]) (st2 := [.int v32, .ref v25, .int v24, .ref v23]) hm dX13_patch_164 (by rw [← e_v32]; rfl) ?_
    clear e_v32
    replace hf := mx_sv_el hf; obtain ⟨v33, e_v33, hf⟩ := hf
    refine sx_ald hm dX13_patch_165 e_v33 ?_
    clear e_v33
    replace hf := xl_el hf; obtain ⟨v34, e_v34, hf⟩ := hf
    refine mx_S.pu (pc2 := 167) (lv2 := [(5, .int s0), (0, .ref l0), (1, .int l1), (4, .int l4)]) (st2 := [.int v34, .ref v23]) hm dX13_patch_166 (by rw [← e_v34]; rfl) ?_
    clear e_v34
    replace hf := mx_sv_el hf; obtain ⟨v35, e_v35, hf⟩ := hf
    refine sx_ald hm dX13_patch_167 e_v35 ?_
    clear e_v35
    refine mx_S.pu (pc2 := 170) (lv2 := [(6, .int v35), (5, .int s0), (0, .ref l0), (1, .int l1), (4, .int l4)]) (st2 := []) hm dX13_patch_168 rfl ?_
    refine sx_ic (v := 0) hm dX13_patch_170 (by decide) ?_
    refine mx_S.pu (pc2 := 173) (lv2 := [(7, .int 0), (6, .int v35), (5, .int s0), (0, .ref l0), (1, .int l1), (4, .int l4)]) (st2 := []) hm dX13_patch_171 rfl ?_
    refine mx_S.ext [(0, .ref l0), (1, .int l1), (4, .int l4), (5, .int s0), (6, .int v35), (7, .int 0)] (mx_sub_pos [3, 4, 5, 2, 1, 0] rfl (show ([7, 6, 5, 0, 1, 4] : List Nat).Nodup by decide)) ?_
    exact w_X13_patch_173_ok X hF hL nn nn l0 l1 l4 s0 v35 0 h _ hf
set_option maxHeartbeats 4000000 in
set_option maxRecDepth 20000 in
theorem w_X13_patch_51_ok (X : Nat × (Nat → Int32)) {F L : Nat} (hF : 10 ≤ F) (hL : 238 ≤ L) (nn : Nat) : ∀ (k : Nat) (l0 : Nat) (l1 : Int32) (l2 : Int32) (l3 : Int32) (l4 : Int32) (l5 : Int32) (h : mx_H) (r : (Int32 × mx_H)), w_X13_patch_51 nn k l0 l1 l2 l3 l4 l5 h = some r → mx_S X F L 518 51 [(0, .ref l0), (1, .int l1), (2, .int l2), (3, .int l3), (4, .int l4), (5, .int l5)] [] h 0 0 (some (.int r.1), r.2, 0, 0) := by
  have hm : mx_mt 518 = some (yX13_patch, cX13_patch, 8, (some .boolean)) := mt_X13_patch
  intro k
  induction k with
  | zero => intro l0 l1 l2 l3 l4 l5 h r hf; cases hf
  | succ k ih =>
    intro l0 l1 l2 l3 l4 l5 h r hf
    unfold w_X13_patch_51 at hf
    refine mx_S.pu (pc2 := 53) (lv2 := [(0, .ref l0), (1, .int l1), (2, .int l2), (3, .int l3), (4, .int l4), (5, .int l5)]) (st2 := [.int l5]) hm dX13_patch_51 rfl ?_
    refine mx_S.pu (pc2 := 54) (lv2 := [(0, .ref l0), (1, .int l1), (2, .int l2), (3, .int l3), (4, .int l4), (5, .int l5)]) (st2 := [.ref l0, .int l5]) hm dX13_patch_53 rfl ?_
    replace hf := mx_sv_el hf; obtain ⟨v37, e_v37, hf⟩ := hf
    refine sx_get hm dX13_patch_54 rs_RX13_767 (xgi_el e_v37) ?_
    clear e_v37
    rcases mx_if_el hf with ⟨c54, hf⟩ | ⟨c54, hf⟩
    · refine sb_ic_ge hm dX13_patch_57 (tgt := 87) rfl (fun _ => ?_) (fun z => absurd c54 z)
      refine mx_S.pu (pc2 := 88) (lv2 := [(0, .ref l0), (1, .int l1), (2, .int l2), (3, .int l3), (4, .int l4), (5, .int l5)]) (st2 := [.ref l0]) hm dX13_patch_87 rfl ?_
      replace hf := mx_sv_el hf; obtain ⟨v38, e_v38, hf⟩ := hf
      refine sx_get hm dX13_patch_88 rs_RX13_245 (xgr_el e_v38) ?_
      clear e_v38
      refine mx_S.pu (pc2 := 92) (lv2 := [(0, .ref l0), (1, .int l1), (2, .int l2), (3, .int l3), (4, .int l4), (5, .int l5)]) (st2 := [.int l2, .ref v38]) hm dX13_patch_91 rfl ?_
      refine mx_S.pu (pc2 := 93) (lv2 := [(0, .ref l0), (1, .int l1), (2, .int l2), (3, .int l3), (4, .int l4), (5, .int l5)]) (st2 := [.int l3, .int l2, .ref v38]) hm dX13_patch_92 rfl ?_
      refine sx_si (v := 255) hm dX13_patch_93 (by decide) ?_
      replace hf := xl_el hf; obtain ⟨v39, e_v39, hf⟩ := hf
      refine mx_S.pu (pc2 := 97) (lv2 := [(0, .ref l0), (1, .int l1), (2, .int l2), (3, .int l3), (4, .int l4), (5, .int l5)]) (st2 := [.int v39, .int l2, .ref v38]) hm dX13_patch_96 (by rw [← e_v39]; rfl) ?_
      clear e_v39
      replace hf := mx_sv_el hf; obtain ⟨h40, e_h40, hf⟩ := hf
      refine sx_ast hm dX13_patch_97 e_h40 ?_
      clear e_h40
      refine mx_S.pu (pc2 := 99) (lv2 := [(0, .ref l0), (1, .int l1), (2, .int l2), (3, .int l3), (4, .int l4), (5, .int l5)]) (st2 := [.ref l0]) hm dX13_patch_98 rfl ?_
      refine mx_S.pu (pc2 := 101) (lv2 := [(0, .ref l0), (1, .int l1), (2, .int l2), (3, .int l3), (4, .int l4), (5, .int l5)]) (st2 := [.int l4, .ref l0]) hm dX13_patch_99 rfl ?_
      replace hf := mx_gd_el hf; obtain ⟨c41, hf⟩ := hf
      replace hf := mx_sv_el hf; obtain ⟨u42, e_u42, hf⟩ := hf
      refine sx_cv hm dX13_patch_101 rs_RX13_840 mt_X13_aside [.int l4] [] (b := l0) (ci := 13) rfl rfl rfl c41 (Nat.le_of_ble_eq_true rfl) (Nat.le_of_ble_eq_true rfl) (by omega) (by omega) (f_X13_aside_ok X (by omega) (by omega) nn l0 l4 h40 e_u42) ?_
      clear e_u42
      show mx_S X F L 518 104 [(0, .ref l0), (1, .int l1), (2, .int l2), (3, .int l3), (4, .int l4), (5, .int l5)] [] u42 0 0 (some (.int r.1), r.2, 0, 0)
      refine mx_S.pu (pc2 := 105) (lv2 := [(0, .ref l0), (1, .int l1), (2, .int l2), (3, .int l3), (4, .int l4), (5, .int l5)]) (st2 := [.ref l0]) hm dX13_patch_104 rfl ?_
      refine mx_S.pu (pc2 := 107) (lv2 := [(0, .ref l0), (1, .int l1), (2, .int l2), (3, .int l3), (4, .int l4), (5, .int l5)]) (st2 := [.int l4, .ref l0]) hm dX13_patch_105 rfl ?_
      replace hf := mx_gd_el hf; obtain ⟨c43, hf⟩ := hf
      replace hf := mx_sv_el hf; obtain ⟨u44, e_u44, hf⟩ := hf
      refine sx_cv hm dX13_patch_107 rs_RX13_843 mt_X13_scan [.int l4] [] (b := l0) (ci := 13) rfl rfl rfl c43 (Nat.le_of_ble_eq_true rfl) (Nat.le_of_ble_eq_true rfl) (by omega) (by omega) (f_X13_scan_ok X (by omega) (by omega) nn l0 l4 u42 e_u44) ?_
      clear e_u44
      show mx_S X F L 518 110 [(0, .ref l0), (1, .int l1), (2, .int l2), (3, .int l3), (4, .int l4), (5, .int l5)] [] u44 0 0 (some (.int r.1), r.2, 0, 0)
      refine mx_S.pu (pc2 := 111) (lv2 := [(0, .ref l0), (1, .int l1), (2, .int l2), (3, .int l3), (4, .int l4), (5, .int l5)]) (st2 := [.ref l0]) hm dX13_patch_110 rfl ?_
      replace hf := mx_sv_el hf; obtain ⟨v45, e_v45, hf⟩ := hf
      refine sx_get hm dX13_patch_111 rs_RX13_764 (xgi_el e_v45) ?_
      clear e_v45
      refine sx_ic (v := (-1)) hm dX13_patch_114 (by decide) ?_
      rcases mx_if_el hf with ⟨c46, hf⟩ | ⟨c46, hf⟩
      · refine sb_ic_ne hm dX13_patch_115 (tgt := 122) rfl (fun _ => ?_) (fun z => absurd c46 z)
        refine sx_ic (v := 0) hm dX13_patch_122 (by decide) ?_
        refine mx_S.ext [(0, .ref l0), (1, .int l1), (4, .int l4)] (mx_sub_pos [0, 1, 4] rfl (show ([0, 1, 2, 3, 4, 5] : List Nat).Nodup by decide)) ?_
        exact j_X13_patch_123_ok X hF hL nn l0 l1 l4 0 u44 hf
      · refine sb_ic_ne hm dX13_patch_115 (tgt := 122) rfl (fun z => absurd z c46) (fun _ => ?_)
        refine sx_ic (v := 1) hm dX13_patch_118 (by decide) ?_
        refine mx_S.pu (pc2 := 123) (lv2 := [(0, .ref l0), (1, .int l1), (2, .int l2), (3, .int l3), (4, .int l4), (5, .int l5)]) (st2 := [.int 1]) hm dX13_patch_119 rfl ?_
        refine mx_S.ext [(0, .ref l0), (1, .int l1), (4, .int l4)] (mx_sub_pos [0, 1, 4] rfl (show ([0, 1, 2, 3, 4, 5] : List Nat).Nodup by decide)) ?_
        exact j_X13_patch_123_ok X hF hL nn l0 l1 l4 1 u44 hf
    · refine sb_ic_ge hm dX13_patch_57 (tgt := 87) rfl (fun z => absurd z c54) (fun _ => ?_)
      refine mx_S.pu (pc2 := 61) (lv2 := [(0, .ref l0), (1, .int l1), (2, .int l2), (3, .int l3), (4, .int l4), (5, .int l5)]) (st2 := [.ref l0]) hm dX13_patch_60 rfl ?_
      replace hf := mx_sv_el hf; obtain ⟨v47, e_v47, hf⟩ := hf
      refine sx_get hm dX13_patch_61 rs_RX13_245 (xgr_el e_v47) ?_
      clear e_v47
      refine mx_S.pu (pc2 := 66) (lv2 := [(0, .ref l0), (1, .int l1), (2, .int l2), (3, .int l3), (4, .int l4), (5, .int l5)]) (st2 := [.int l5, .ref v47]) hm dX13_patch_64 rfl ?_
      refine mx_S.pu (pc2 := 67) (lv2 := [(0, .ref l0), (1, .int l1), (2, .int l2), (3, .int l3), (4, .int l4), (5, .int l5)]) (st2 := [.ref l0, .int l5, .ref v47]) hm dX13_patch_66 rfl ?_
      replace hf := mx_sv_el hf; obtain ⟨v48, e_v48, hf⟩ := hf
      refine sx_get hm dX13_patch_67 rs_RX13_209 (xgr_el e_v48) ?_
      clear e_v48
      refine sx_si (v := 6000) hm dX13_patch_70 (by decide) ?_
      refine mx_S.pu (pc2 := 75) (lv2 := [(0, .ref l0), (1, .int l1), (2, .int l2), (3, .int l3), (4, .int l4), (5, .int l5)]) (st2 := [.int l4, .int 6000, .ref v48, .int l5, .ref v47]) hm dX13_patch_73 rfl ?_
      replace hf := xl_el hf; obtain ⟨v49, e_v49, hf⟩ := hf
      refine mx_S.pu (pc2 := 76) (lv2 := [(0, .ref l0), (1, .int l1), (2, .int l2), (3, .int l3), (4, .int l4), (5, .int l5)]) (st2 := [.int v49, .ref v48, .int l5, .ref v47]) hm dX13_patch_75 (by rw [← e_v49]; rfl) ?_
      clear e_v49
      refine mx_S.pu (pc2 := 78) (lv2 := [(0, .ref l0), (1, .int l1), (2, .int l2), (3, .int l3), (4, .int l4), (5, .int l5)]) (st2 := [.int l5, .int v49, .ref v48, .int l5, .ref v47]) hm dX13_patch_76 rfl ?_
      replace hf := xl_el hf; obtain ⟨v50, e_v50, hf⟩ := hf
      refine mx_S.pu (pc2 := 79) (lv2 := [(0, .ref l0), (1, .int l1), (2, .int l2), (3, .int l3), (4, .int l4), (5, .int l5)]) (st2 := [.int v50, .ref v48, .int l5, .ref v47]) hm dX13_patch_78 (by rw [← e_v50]; rfl) ?_
      clear e_v50
      replace hf := mx_sv_el hf; obtain ⟨v51, e_v51, hf⟩ := hf
      refine sx_ald hm dX13_patch_79 e_v51 ?_
      clear e_v51
      replace hf := mx_sv_el hf; obtain ⟨h52, e_h52, hf⟩ := hf
      refine sx_ast hm dX13_patch_80 e_h52 ?_
      clear e_h52
      replace hf := xl_el hf; obtain ⟨v53, e_v53, hf⟩ := hf
      refine mx_S.pu (pc2 := 84) (lv2 := [(5, .int v53), (0, .ref l0), (1, .int l1), (2, .int l2), (3, .int l3), (4, .int l4)]) (st2 := []) hm dX13_patch_81 (by rw [← e_v53]; rfl) ?_
      clear e_v53
      refine mx_S.pu (pc2 := 51) (lv2 := [(5, .int v53), (0, .ref l0), (1, .int l1), (2, .int l2), (3, .int l3), (4, .int l4)]) (st2 := []) hm dX13_patch_84 rfl ?_
      refine mx_S.ext [(0, .ref l0), (1, .int l1), (2, .int l2), (3, .int l3), (4, .int l4), (5, .int v53)] (mx_sub_pos [1, 2, 3, 4, 5, 0] rfl (show ([5, 0, 1, 2, 3, 4] : List Nat).Nodup by decide)) ?_
      exact ih l0 l1 l2 l3 l4 v53 h52 _ hf
set_option maxHeartbeats 4000000 in
set_option maxRecDepth 20000 in
theorem f_X13_patch_ok (X : Nat × (Nat → Int32)) {F L : Nat} (hF : 10 ≤ F) (hL : 238 ≤ L) (nn : Nat) (a0 : Nat) (a1 : Int32) (a2 : Int32) (a3 : Int32) (h : mx_H) {r : (Int32 × mx_H)} (hf : f_X13_patch nn a0 a1 a2 a3 h = some r) : mx_R X F L 518 [.ref a0, .int a1, .int a2, .int a3] h (some (.int r.1), r.2, 0, 0) := by
  have hm : mx_mt 518 = some (yX13_patch, cX13_patch, 8, (some .boolean)) := mt_X13_patch
  show mx_S X F L 518 0 [(0, .ref a0), (1, .int a1), (2, .int a2), (3, .int a3)] [] h 0 0 (some (.int r.1), r.2, 0, 0)
  unfold f_X13_patch at hf
  refine mx_S.pu (pc2 := 1) (lv2 := [(0, .ref a0), (1, .int a1), (2, .int a2), (3, .int a3)]) (st2 := [.int a1]) hm dX13_patch_0 rfl ?_
  refine sx_bi (v := 8) hm dX13_patch_1 (by decide) ?_
  replace hf := xl_el hf; obtain ⟨v55, e_v55, hf⟩ := hf
  refine mx_S.pu (pc2 := 4) (lv2 := [(0, .ref a0), (1, .int a1), (2, .int a2), (3, .int a3)]) (st2 := [.int v55]) hm dX13_patch_3 (by rw [← e_v55]; rfl) ?_
  clear e_v55
  refine mx_S.pu (pc2 := 6) (lv2 := [(4, .int v55), (0, .ref a0), (1, .int a1), (2, .int a2), (3, .int a3)]) (st2 := []) hm dX13_patch_4 rfl ?_
  refine mx_S.pu (pc2 := 8) (lv2 := [(4, .int v55), (0, .ref a0), (1, .int a1), (2, .int a2), (3, .int a3)]) (st2 := [.int v55]) hm dX13_patch_6 rfl ?_
  rcases mx_if_el hf with ⟨c65, hf⟩ | ⟨c65, hf⟩
  · refine sb_if_lt hm dX13_patch_8 (tgt := 35) rfl (fun _ => ?_) (fun z => absurd c65 z)
    refine sx_ic (v := 0) hm dX13_patch_35 (by decide) ?_
    cases hf
    exact sx_ire hm dX13_patch_36 rfl (by decide)
  · refine sb_if_lt hm dX13_patch_8 (tgt := 35) rfl (fun z => absurd z c65) (fun _ => ?_)
    refine mx_S.pu (pc2 := 13) (lv2 := [(4, .int v55), (0, .ref a0), (1, .int a1), (2, .int a2), (3, .int a3)]) (st2 := [.int v55]) hm dX13_patch_11 rfl ?_
    refine mx_S.pu (pc2 := 14) (lv2 := [(4, .int v55), (0, .ref a0), (1, .int a1), (2, .int a2), (3, .int a3)]) (st2 := [.ref a0, .int v55]) hm dX13_patch_13 rfl ?_
    replace hf := mx_sv_el hf; obtain ⟨v56, e_v56, hf⟩ := hf
    refine sx_get hm dX13_patch_14 rs_RX13_833 (xgi_el e_v56) ?_
    clear e_v56
    rcases mx_if_el hf with ⟨c64, hf⟩ | ⟨c64, hf⟩
    · refine sb_ic_ge hm dX13_patch_17 (tgt := 35) rfl (fun _ => ?_) (fun z => absurd c64 z)
      refine sx_ic (v := 0) hm dX13_patch_35 (by decide) ?_
      cases hf
      exact sx_ire hm dX13_patch_36 rfl (by decide)
    · refine sb_ic_ge hm dX13_patch_17 (tgt := 35) rfl (fun z => absurd z c64) (fun _ => ?_)
      refine mx_S.pu (pc2 := 21) (lv2 := [(4, .int v55), (0, .ref a0), (1, .int a1), (2, .int a2), (3, .int a3)]) (st2 := [.int a2]) hm dX13_patch_20 rfl ?_
      rcases mx_if_el hf with ⟨c63, hf⟩ | ⟨c63, hf⟩
      · refine sb_if_lt hm dX13_patch_21 (tgt := 35) rfl (fun _ => ?_) (fun z => absurd c63 z)
        refine sx_ic (v := 0) hm dX13_patch_35 (by decide) ?_
        cases hf
        exact sx_ire hm dX13_patch_36 rfl (by decide)
      · refine sb_if_lt hm dX13_patch_21 (tgt := 35) rfl (fun z => absurd z c63) (fun _ => ?_)
        refine mx_S.pu (pc2 := 25) (lv2 := [(4, .int v55), (0, .ref a0), (1, .int a1), (2, .int a2), (3, .int a3)]) (st2 := [.int a2]) hm dX13_patch_24 rfl ?_
        refine mx_S.pu (pc2 := 26) (lv2 := [(4, .int v55), (0, .ref a0), (1, .int a1), (2, .int a2), (3, .int a3)]) (st2 := [.ref a0, .int a2]) hm dX13_patch_25 rfl ?_
        replace hf := mx_sv_el hf; obtain ⟨v57, e_v57, hf⟩ := hf
        refine sx_get hm dX13_patch_26 rs_RX13_212 (xgr_el e_v57) ?_
        clear e_v57
        refine mx_S.pu (pc2 := 31) (lv2 := [(4, .int v55), (0, .ref a0), (1, .int a1), (2, .int a2), (3, .int a3)]) (st2 := [.int v55, .ref v57, .int a2]) hm dX13_patch_29 rfl ?_
        replace hf := mx_sv_el hf; obtain ⟨v58, e_v58, hf⟩ := hf
        refine sx_ald hm dX13_patch_31 e_v58 ?_
        clear e_v58
        rcases mx_if_el hf with ⟨c62, hf⟩ | ⟨c62, hf⟩
        · refine sb_ic_lt hm dX13_patch_32 (tgt := 37) rfl (fun _ => ?_) (fun z => absurd c62 z)
          refine mx_S.pu (pc2 := 38) (lv2 := [(4, .int v55), (0, .ref a0), (1, .int a1), (2, .int a2), (3, .int a3)]) (st2 := [.ref a0]) hm dX13_patch_37 rfl ?_
          refine mx_S.pu (pc2 := 39) (lv2 := [(4, .int v55), (0, .ref a0), (1, .int a1), (2, .int a2), (3, .int a3)]) (st2 := [.ref a0, .ref a0]) hm dX13_patch_38 rfl ?_
          replace hf := mx_sv_el hf; obtain ⟨v59, e_v59, hf⟩ := hf
          refine sx_get hm dX13_patch_39 rs_RX13_212 (xgr_el e_v59) ?_
          clear e_v59
          refine mx_S.pu (pc2 := 44) (lv2 := [(4, .int v55), (0, .ref a0), (1, .int a1), (2, .int a2), (3, .int a3)]) (st2 := [.int v55, .ref v59, .ref a0]) hm dX13_patch_42 rfl ?_
          replace hf := mx_sv_el hf; obtain ⟨v60, e_v60, hf⟩ := hf
          refine sx_ald hm dX13_patch_44 e_v60 ?_
          clear e_v60
          replace hf := mx_sv_el hf; obtain ⟨h61, e_h61, hf⟩ := hf
          refine sx_put hm dX13_patch_45 rs_RX13_767 ft_13_113 ⟨rfl, rfl⟩ (fun z => by cases z) e_h61 ?_
          clear e_h61
          refine sx_ic (v := 0) hm dX13_patch_48 (by decide) ?_
          refine mx_S.pu (pc2 := 51) (lv2 := [(5, .int 0), (4, .int v55), (0, .ref a0), (1, .int a1), (2, .int a2), (3, .int a3)]) (st2 := []) hm dX13_patch_49 rfl ?_
          refine mx_S.ext [(0, .ref a0), (1, .int a1), (2, .int a2), (3, .int a3), (4, .int v55), (5, .int 0)] (mx_sub_pos [2, 3, 4, 5, 1, 0] rfl (show ([5, 4, 0, 1, 2, 3] : List Nat).Nodup by decide)) ?_
          exact w_X13_patch_51_ok X hF hL nn nn a0 a1 a2 a3 v55 0 h61 _ hf
        · refine sb_ic_lt hm dX13_patch_32 (tgt := 37) rfl (fun z => absurd z c62) (fun _ => ?_)
          refine sx_ic (v := 0) hm dX13_patch_35 (by decide) ?_
          cases hf
          exact sx_ire hm dX13_patch_36 rfl (by decide)
set_option maxHeartbeats 4000000 in
set_option maxRecDepth 20000 in
theorem f_X13_drop_ok (X : Nat × (Nat → Int32)) {F L : Nat} (hF : 0 ≤ F) (hL : 0 ≤ L) (nn : Nat) (a0 : Nat) (h : mx_H) {r : (Int32 × mx_H)} (hf : f_X13_drop nn a0 h = some r) : mx_R X F L 572 [.ref a0] h (some (.int r.1), r.2, 0, 0) := by
  have hm : mx_mt 572 = some (yX13_drop, cX13_drop, 2, (some .int)) := mt_X13_drop
  show mx_S X F L 572 0 [(0, .ref a0)] [] h 0 0 (some (.int r.1), r.2, 0, 0)
  unfold f_X13_drop at hf
  refine mx_S.pu (pc2 := 1) (lv2 := [(0, .ref a0)]) (st2 := [.ref a0]) hm dX13_drop_0 rfl ?_
  replace hf := mx_sv_el hf; obtain ⟨v1, e_v1, hf⟩ := hf
  refine sx_get hm dX13_drop_1 rs_RX13_1058 (xgi_el e_v1) ?_
  clear e_v1
  refine sx_ic (v := 1) hm dX13_drop_4 (by decide) ?_
  replace hf := xl_el hf; obtain ⟨v2, e_v2, hf⟩ := hf
  refine mx_S.pu (pc2 := 6) (lv2 := [(0, .ref a0)]) (st2 := [.int v2]) hm dX13_drop_5 (by rw [← e_v2]; rfl) ?_
  clear e_v2
  refine mx_S.pu (pc2 := 7) (lv2 := [(1, .int v2), (0, .ref a0)]) (st2 := []) hm dX13_drop_6 rfl ?_
  refine mx_S.pu (pc2 := 8) (lv2 := [(1, .int v2), (0, .ref a0)]) (st2 := [.ref a0]) hm dX13_drop_7 rfl ?_
  replace hf := mx_sv_el hf; obtain ⟨v3, e_v3, hf⟩ := hf
  refine sx_get hm dX13_drop_8 rs_RX13_303 (xgr_el e_v3) ?_
  clear e_v3
  refine mx_S.pu (pc2 := 12) (lv2 := [(1, .int v2), (0, .ref a0)]) (st2 := [.int v2, .ref v3]) hm dX13_drop_11 rfl ?_
  refine mx_S.pu (pc2 := 13) (lv2 := [(1, .int v2), (0, .ref a0)]) (st2 := [.int v2, .ref v3, .int v2, .ref v3]) hm dX13_drop_12 rfl ?_
  replace hf := mx_sv_el hf; obtain ⟨v4, e_v4, hf⟩ := hf
  refine sx_ald hm dX13_drop_13 e_v4 ?_
  clear e_v4
  refine sx_ic (v := 1) hm dX13_drop_14 (by decide) ?_
  replace hf := xl_el hf; obtain ⟨v5, e_v5, hf⟩ := hf
  refine mx_S.pu (pc2 := 16) (lv2 := [(1, .int v2), (0, .ref a0)]) (st2 := [.int v5, .int v2, .ref v3]) hm dX13_drop_15 (by rw [← e_v5]; rfl) ?_
  clear e_v5
  replace hf := mx_sv_el hf; obtain ⟨h6, e_h6, hf⟩ := hf
  refine sx_ast hm dX13_drop_16 e_h6 ?_
  clear e_h6
  refine mx_S.pu (pc2 := 18) (lv2 := [(1, .int v2), (0, .ref a0)]) (st2 := [.ref a0]) hm dX13_drop_17 rfl ?_
  replace hf := mx_sv_el hf; obtain ⟨v7, e_v7, hf⟩ := hf
  refine sx_get hm dX13_drop_18 rs_RX13_306 (xgr_el e_v7) ?_
  clear e_v7
  refine sx_bi (v := 60) hm dX13_drop_21 (by decide) ?_
  refine mx_S.pu (pc2 := 24) (lv2 := [(1, .int v2), (0, .ref a0)]) (st2 := [.int v2, .int 60, .ref v7]) hm dX13_drop_23 rfl ?_
  replace hf := xl_el hf; obtain ⟨v8, e_v8, hf⟩ := hf
  refine mx_S.pu (pc2 := 25) (lv2 := [(1, .int v2), (0, .ref a0)]) (st2 := [.int v8, .ref v7]) hm dX13_drop_24 (by rw [← e_v8]; rfl) ?_
  clear e_v8
  refine sx_bi (v := 30) hm dX13_drop_25 (by decide) ?_
  replace hf := xl_el hf; obtain ⟨v9, e_v9, hf⟩ := hf
  refine mx_S.pu (pc2 := 28) (lv2 := [(1, .int v2), (0, .ref a0)]) (st2 := [.int v9, .ref v7]) hm dX13_drop_27 (by rw [← e_v9]; rfl) ?_
  clear e_v9
  refine mx_S.pu (pc2 := 29) (lv2 := [(1, .int v2), (0, .ref a0)]) (st2 := [.ref a0, .int v9, .ref v7]) hm dX13_drop_28 rfl ?_
  replace hf := mx_sv_el hf; obtain ⟨v10, e_v10, hf⟩ := hf
  refine sx_get hm dX13_drop_29 rs_RX13_303 (xgr_el e_v10) ?_
  clear e_v10
  refine mx_S.pu (pc2 := 33) (lv2 := [(1, .int v2), (0, .ref a0)]) (st2 := [.int v2, .ref v10, .int v9, .ref v7]) hm dX13_drop_32 rfl ?_
  replace hf := mx_sv_el hf; obtain ⟨v11, e_v11, hf⟩ := hf
  refine sx_ald hm dX13_drop_33 e_v11 ?_
  clear e_v11
  replace hf := xl_el hf; obtain ⟨v12, e_v12, hf⟩ := hf
  refine mx_S.pu (pc2 := 35) (lv2 := [(1, .int v2), (0, .ref a0)]) (st2 := [.int v12, .ref v7]) hm dX13_drop_34 (by rw [← e_v12]; rfl) ?_
  clear e_v12
  replace hf := mx_sv_el hf; obtain ⟨v13, e_v13, hf⟩ := hf
  refine sx_ald hm dX13_drop_35 e_v13 ?_
  clear e_v13
  cases hf
  exact sx_ire hm dX13_drop_36 rfl rfl
set_option maxHeartbeats 4000000 in
set_option maxRecDepth 20000 in
theorem f_X13_give_ok (X : Nat × (Nat → Int32)) {F L : Nat} (hF : 0 ≤ F) (hL : 0 ≤ L) (nn : Nat) (a0 : Nat) (a1 : Int32) (h : mx_H) {r : mx_H} (hf : f_X13_give nn a0 a1 h = some r) : mx_R X F L 571 [.ref a0, .int a1] h (none, r, 0, 0) := by
  have hm : mx_mt 571 = some (yX13_give, cX13_give, 3, none) := mt_X13_give
  show mx_S X F L 571 0 [(0, .ref a0), (1, .int a1)] [] h 0 0 (none, r, 0, 0)
  unfold f_X13_give at hf
  refine mx_S.pu (pc2 := 1) (lv2 := [(0, .ref a0), (1, .int a1)]) (st2 := [.ref a0]) hm dX13_give_0 rfl ?_
  replace hf := mx_sv_el hf; obtain ⟨v1, e_v1, hf⟩ := hf
  refine sx_get hm dX13_give_1 rs_RX13_1058 (xgi_el e_v1) ?_
  clear e_v1
  refine sx_ic (v := 1) hm dX13_give_4 (by decide) ?_
  replace hf := xl_el hf; obtain ⟨v2, e_v2, hf⟩ := hf
  refine mx_S.pu (pc2 := 6) (lv2 := [(0, .ref a0), (1, .int a1)]) (st2 := [.int v2]) hm dX13_give_5 (by rw [← e_v2]; rfl) ?_
  clear e_v2
  refine mx_S.pu (pc2 := 7) (lv2 := [(2, .int v2), (0, .ref a0), (1, .int a1)]) (st2 := []) hm dX13_give_6 rfl ?_
  refine mx_S.pu (pc2 := 8) (lv2 := [(2, .int v2), (0, .ref a0), (1, .int a1)]) (st2 := [.ref a0]) hm dX13_give_7 rfl ?_
  replace hf := mx_sv_el hf; obtain ⟨v3, e_v3, hf⟩ := hf
  refine sx_get hm dX13_give_8 rs_RX13_306 (xgr_el e_v3) ?_
  clear e_v3
  refine sx_bi (v := 60) hm dX13_give_11 (by decide) ?_
  refine mx_S.pu (pc2 := 14) (lv2 := [(2, .int v2), (0, .ref a0), (1, .int a1)]) (st2 := [.int v2, .int 60, .ref v3]) hm dX13_give_13 rfl ?_
  replace hf := xl_el hf; obtain ⟨v4, e_v4, hf⟩ := hf
  refine mx_S.pu (pc2 := 15) (lv2 := [(2, .int v2), (0, .ref a0), (1, .int a1)]) (st2 := [.int v4, .ref v3]) hm dX13_give_14 (by rw [← e_v4]; rfl) ?_
  clear e_v4
  refine sx_bi (v := 30) hm dX13_give_15 (by decide) ?_
  replace hf := xl_el hf; obtain ⟨v5, e_v5, hf⟩ := hf
  refine mx_S.pu (pc2 := 18) (lv2 := [(2, .int v2), (0, .ref a0), (1, .int a1)]) (st2 := [.int v5, .ref v3]) hm dX13_give_17 (by rw [← e_v5]; rfl) ?_
  clear e_v5
  refine mx_S.pu (pc2 := 19) (lv2 := [(2, .int v2), (0, .ref a0), (1, .int a1)]) (st2 := [.ref a0, .int v5, .ref v3]) hm dX13_give_18 rfl ?_
  replace hf := mx_sv_el hf; obtain ⟨v6, e_v6, hf⟩ := hf
  refine sx_get hm dX13_give_19 rs_RX13_303 (xgr_el e_v6) ?_
  clear e_v6
  refine mx_S.pu (pc2 := 23) (lv2 := [(2, .int v2), (0, .ref a0), (1, .int a1)]) (st2 := [.int v2, .ref v6, .int v5, .ref v3]) hm dX13_give_22 rfl ?_
  replace hf := mx_sv_el hf; obtain ⟨v7, e_v7, hf⟩ := hf
  refine sx_ald hm dX13_give_23 e_v7 ?_
  clear e_v7
  replace hf := xl_el hf; obtain ⟨v8, e_v8, hf⟩ := hf
  refine mx_S.pu (pc2 := 25) (lv2 := [(2, .int v2), (0, .ref a0), (1, .int a1)]) (st2 := [.int v8, .ref v3]) hm dX13_give_24 (by rw [← e_v8]; rfl) ?_
  clear e_v8
  refine mx_S.pu (pc2 := 26) (lv2 := [(2, .int v2), (0, .ref a0), (1, .int a1)]) (st2 := [.int a1, .int v8, .ref v3]) hm dX13_give_25 rfl ?_
  replace hf := mx_sv_el hf; obtain ⟨h9, e_h9, hf⟩ := hf
  refine sx_ast hm dX13_give_26 e_h9 ?_
  clear e_h9
  refine mx_S.pu (pc2 := 28) (lv2 := [(2, .int v2), (0, .ref a0), (1, .int a1)]) (st2 := [.ref a0]) hm dX13_give_27 rfl ?_
  replace hf := mx_sv_el hf; obtain ⟨v10, e_v10, hf⟩ := hf
  refine sx_get hm dX13_give_28 rs_RX13_303 (xgr_el e_v10) ?_
  clear e_v10
  refine mx_S.pu (pc2 := 32) (lv2 := [(2, .int v2), (0, .ref a0), (1, .int a1)]) (st2 := [.int v2, .ref v10]) hm dX13_give_31 rfl ?_
  refine mx_S.pu (pc2 := 33) (lv2 := [(2, .int v2), (0, .ref a0), (1, .int a1)]) (st2 := [.int v2, .ref v10, .int v2, .ref v10]) hm dX13_give_32 rfl ?_
  replace hf := mx_sv_el hf; obtain ⟨v11, e_v11, hf⟩ := hf
  refine sx_ald hm dX13_give_33 e_v11 ?_
  clear e_v11
  refine sx_ic (v := 1) hm dX13_give_34 (by decide) ?_
  replace hf := xl_el hf; obtain ⟨v12, e_v12, hf⟩ := hf
  refine mx_S.pu (pc2 := 36) (lv2 := [(2, .int v2), (0, .ref a0), (1, .int a1)]) (st2 := [.int v12, .int v2, .ref v10]) hm dX13_give_35 (by rw [← e_v12]; rfl) ?_
  clear e_v12
  replace hf := mx_sv_el hf; obtain ⟨h13, e_h13, hf⟩ := hf
  refine sx_ast hm dX13_give_36 e_h13 ?_
  clear e_h13
  cases hf
  exact sx_ret hm dX13_give_37 rfl
set_option maxHeartbeats 4000000 in
set_option maxRecDepth 20000 in
theorem f_X13_on_ok (X : Nat × (Nat → Int32)) {F L : Nat} (hF : 0 ≤ F) (hL : 0 ≤ L) (nn : Nat) (a0 : Nat) (a1 : Int32) (h : mx_H) {r : mx_H} (hf : f_X13_on nn a0 a1 h = some r) : mx_R X F L 580 [.ref a0, .int a1] h (none, r, 0, 0) := by
  have hm : mx_mt 580 = some (yX13_on, cX13_on, 2, none) := mt_X13_on
  show mx_S X F L 580 0 [(0, .ref a0), (1, .int a1)] [] h 0 0 (none, r, 0, 0)
  unfold f_X13_on at hf
  refine mx_S.pu (pc2 := 1) (lv2 := [(0, .ref a0), (1, .int a1)]) (st2 := [.ref a0]) hm dX13_on_0 rfl ?_
  replace hf := mx_sv_el hf; obtain ⟨v1, e_v1, hf⟩ := hf
  refine sx_get hm dX13_on_1 rs_RX13_300 (xgr_el e_v1) ?_
  clear e_v1
  refine mx_S.pu (pc2 := 5) (lv2 := [(0, .ref a0), (1, .int a1)]) (st2 := [.ref a0, .ref v1]) hm dX13_on_4 rfl ?_
  replace hf := mx_sv_el hf; obtain ⟨v2, e_v2, hf⟩ := hf
  refine sx_get hm dX13_on_5 rs_RX13_1058 (xgi_el e_v2) ?_
  clear e_v2
  refine sx_ic (v := 1) hm dX13_on_8 (by decide) ?_
  replace hf := xl_el hf; obtain ⟨v3, e_v3, hf⟩ := hf
  refine mx_S.pu (pc2 := 10) (lv2 := [(0, .ref a0), (1, .int a1)]) (st2 := [.int v3, .ref v1]) hm dX13_on_9 (by rw [← e_v3]; rfl) ?_
  clear e_v3
  refine mx_S.pu (pc2 := 11) (lv2 := [(0, .ref a0), (1, .int a1)]) (st2 := [.int v3, .ref v1, .int v3, .ref v1]) hm dX13_on_10 rfl ?_
  replace hf := mx_sv_el hf; obtain ⟨v4, e_v4, hf⟩ := hf
  refine sx_ald hm dX13_on_11 e_v4 ?_
  clear e_v4
  refine mx_S.pu (pc2 := 13) (lv2 := [(0, .ref a0), (1, .int a1)]) (st2 := [.int a1, .int v4, .int v3, .ref v1]) hm dX13_on_12 rfl ?_
  replace hf := xl_el hf; obtain ⟨v5, e_v5, hf⟩ := hf
  refine mx_S.pu (pc2 := 14) (lv2 := [(0, .ref a0), (1, .int a1)]) (st2 := [.int v5, .int v3, .ref v1]) hm dX13_on_13 (by rw [← e_v5]; rfl) ?_
  clear e_v5
  replace hf := mx_sv_el hf; obtain ⟨h6, e_h6, hf⟩ := hf
  refine sx_ast hm dX13_on_14 e_h6 ?_
  clear e_h6
  cases hf
  exact sx_ret hm dX13_on_15 rfl
set_option maxHeartbeats 4000000 in
set_option maxRecDepth 20000 in
theorem f_X13_told_ok (X : Nat × (Nat → Int32)) {F L : Nat} (hF : 0 ≤ F) (hL : 0 ≤ L) (nn : Nat) (a0 : Nat) (a1 : Int32) (h : mx_H) {r : (Int32 × mx_H)} (hf : f_X13_told nn a0 a1 h = some r) : mx_R X F L 593 [.ref a0, .int a1] h (some (.int r.1), r.2, 0, 0) := by
  have hm : mx_mt 593 = some (yX13_told, cX13_told, 2, (some .int)) := mt_X13_told
  show mx_S X F L 593 0 [(0, .ref a0), (1, .int a1)] [] h 0 0 (some (.int r.1), r.2, 0, 0)
  unfold f_X13_told at hf
  refine mx_S.pu (pc2 := 1) (lv2 := [(0, .ref a0), (1, .int a1)]) (st2 := [.ref a0]) hm dX13_told_0 rfl ?_
  replace hf := mx_sv_el hf; obtain ⟨v1, e_v1, hf⟩ := hf
  refine sx_get hm dX13_told_1 rs_RX13_279 (xgr_el e_v1) ?_
  clear e_v1
  refine mx_S.pu (pc2 := 5) (lv2 := [(0, .ref a0), (1, .int a1)]) (st2 := [.int a1, .ref v1]) hm dX13_told_4 rfl ?_
  replace hf := mx_sv_el hf; obtain ⟨v2, e_v2, hf⟩ := hf
  refine sx_ald hm dX13_told_5 e_v2 ?_
  clear e_v2
  refine sx_bi (v := 99) hm dX13_told_6 (by decide) ?_
  rcases mx_if_el hf with ⟨c5, hf⟩ | ⟨c5, hf⟩
  · refine sb_ic_ne hm dX13_told_8 (tgt := 17) rfl (fun _ => ?_) (fun z => absurd c5 z)
    refine mx_S.pu (pc2 := 18) (lv2 := [(0, .ref a0), (1, .int a1)]) (st2 := [.ref a0]) hm dX13_told_17 rfl ?_
    replace hf := mx_sv_el hf; obtain ⟨v3, e_v3, hf⟩ := hf
    refine sx_get hm dX13_told_18 rs_RX13_279 (xgr_el e_v3) ?_
    clear e_v3
    refine mx_S.pu (pc2 := 22) (lv2 := [(0, .ref a0), (1, .int a1)]) (st2 := [.int a1, .ref v3]) hm dX13_told_21 rfl ?_
    replace hf := mx_sv_el hf; obtain ⟨v4, e_v4, hf⟩ := hf
    refine sx_ald hm dX13_told_22 e_v4 ?_
    clear e_v4
    cases hf
    exact sx_ire hm dX13_told_23 rfl rfl
  · refine sb_ic_ne hm dX13_told_8 (tgt := 17) rfl (fun z => absurd z c5) (fun _ => ?_)
    refine sx_si (v := 200) hm dX13_told_11 (by decide) ?_
    refine mx_S.pu (pc2 := 23) (lv2 := [(0, .ref a0), (1, .int a1)]) (st2 := [.int 200]) hm dX13_told_14 rfl ?_
    cases hf
    exact sx_ire hm dX13_told_23 rfl rfl
set_option maxHeartbeats 4000000 in
set_option maxRecDepth 20000 in
theorem j_X13_back_45_ok (X : Nat × (Nat → Int32)) {F L : Nat} (hF : 1 ≤ F) (hL : 22 ≤ L) (nn : Nat) (l0 : Nat) (h : mx_H) {r : mx_H} (hf : j_X13_back_45 nn l0 h = some r) : mx_S X F L 592 45 [(0, .ref l0)] [] h 0 0 (none, r, 0, 0) := by
  have hm : mx_mt 592 = some (yX13_back, cX13_back, 3, none) := mt_X13_back
  unfold j_X13_back_45 at hf
  refine mx_S.pu (pc2 := 46) (lv2 := [(0, .ref l0)]) (st2 := [.ref l0]) hm dX13_back_45 rfl ?_
  refine sx_ic (v := 2) hm dX13_back_46 (by decide) ?_
  replace hf := mx_gd_el hf; obtain ⟨c1, hf⟩ := hf
  replace hf := mx_sv_el hf; obtain ⟨u2, e_u2, hf⟩ := hf
  refine sx_cv hm dX13_back_47 rs_RX13_1116 mt_X13_on [.int 2] [] (b := l0) (ci := 13) rfl rfl rfl c1 (Nat.le_of_ble_eq_true rfl) (Nat.le_of_ble_eq_true rfl) (by omega) (by omega) (f_X13_on_ok X (by omega) (by omega) nn l0 2 h e_u2) ?_
  clear e_u2
  show mx_S X F L 592 50 [(0, .ref l0)] [] u2 0 0 (none, r, 0, 0)
  cases hf
  exact sx_ret hm dX13_back_50 rfl
set_option maxHeartbeats 4000000 in
set_option maxRecDepth 20000 in
theorem j_X13_back_15_ok (X : Nat × (Nat → Int32)) {F L : Nat} (hF : 1 ≤ F) (hL : 22 ≤ L) (nn : Nat) (l0 : Nat) (l1 : Int32) (s0 : Int32) (h : mx_H) {r : mx_H} (hf : j_X13_back_15 nn l0 l1 s0 h = some r) : mx_S X F L 592 15 [(0, .ref l0), (1, .int l1)] [.int s0] h 0 0 (none, r, 0, 0) := by
  have hm : mx_mt 592 = some (yX13_back, cX13_back, 3, none) := mt_X13_back
  unfold j_X13_back_15 at hf
  refine mx_S.pu (pc2 := 16) (lv2 := [(2, .int s0), (0, .ref l0), (1, .int l1)]) (st2 := []) hm dX13_back_15 rfl ?_
  refine mx_S.pu (pc2 := 17) (lv2 := [(2, .int s0), (0, .ref l0), (1, .int l1)]) (st2 := [.ref l0]) hm dX13_back_16 rfl ?_
  refine mx_S.pu (pc2 := 18) (lv2 := [(2, .int s0), (0, .ref l0), (1, .int l1)]) (st2 := [.ref l0, .ref l0]) hm dX13_back_17 rfl ?_
  replace hf := mx_sv_el hf; obtain ⟨v3, e_v3, hf⟩ := hf
  refine sx_get hm dX13_back_18 rs_RX13_1058 (xgi_el e_v3) ?_
  clear e_v3
  refine sx_ic (v := 1) hm dX13_back_21 (by decide) ?_
  replace hf := xl_el hf; obtain ⟨v4, e_v4, hf⟩ := hf
  refine mx_S.pu (pc2 := 23) (lv2 := [(2, .int s0), (0, .ref l0), (1, .int l1)]) (st2 := [.int v4, .ref l0]) hm dX13_back_22 (by rw [← e_v4]; rfl) ?_
  clear e_v4
  replace hf := mx_sv_el hf; obtain ⟨h5, e_h5, hf⟩ := hf
  refine sx_put hm dX13_back_23 rs_RX13_1058 ft_13_149 ⟨rfl, rfl⟩ (fun z => by cases z) e_h5 ?_
  clear e_h5
  refine mx_S.pu (pc2 := 27) (lv2 := [(2, .int s0), (0, .ref l0), (1, .int l1)]) (st2 := [.ref l0]) hm dX13_back_26 rfl ?_
  replace hf := mx_sv_el hf; obtain ⟨v6, e_v6, hf⟩ := hf
  refine sx_get hm dX13_back_27 rs_RX13_1058 (xgi_el e_v6) ?_
  clear e_v6
  rcases mx_if_el hf with ⟨c18, hf⟩ | ⟨c18, hf⟩
  · refine sb_if_le hm dX13_back_30 (tgt := 51) rfl (fun _ => ?_) (fun z => absurd c18 z)
    refine mx_S.pu (pc2 := 52) (lv2 := [(2, .int s0), (0, .ref l0), (1, .int l1)]) (st2 := [.ref l0]) hm dX13_back_51 rfl ?_
    refine sx_ic (v := 2) hm dX13_back_52 (by decide) ?_
    replace hf := mx_sv_el hf; obtain ⟨h7, e_h7, hf⟩ := hf
    refine sx_put hm dX13_back_53 rs_RX13_858 ft_13_138 ⟨rfl, rfl⟩ (fun z => by cases z) e_h7 ?_
    clear e_h7
    refine mx_S.pu (pc2 := 57) (lv2 := [(2, .int s0), (0, .ref l0), (1, .int l1)]) (st2 := [.int l1]) hm dX13_back_56 rfl ?_
    refine sx_si (v := 172) hm dX13_back_57 (by decide) ?_
    rcases mx_if_el hf with ⟨c14, hf⟩ | ⟨c14, hf⟩
    · refine sb_ic_ne hm dX13_back_60 (tgt := 71) rfl (fun _ => ?_) (fun z => absurd c14 z)
      refine mx_S.pu (pc2 := 72) (lv2 := [(2, .int s0), (0, .ref l0), (1, .int l1)]) (st2 := [.int l1]) hm dX13_back_71 rfl ?_
      refine sx_si (v := 176) hm dX13_back_72 (by decide) ?_
      rcases mx_if_el hf with ⟨c12, hf⟩ | ⟨c12, hf⟩
      · refine sb_ic_ne hm dX13_back_75 (tgt := 91) rfl (fun _ => ?_) (fun z => absurd c12 z)
        cases hf
        exact sx_ret hm dX13_back_91 rfl
      · refine sb_ic_ne hm dX13_back_75 (tgt := 91) rfl (fun z => absurd z c12) (fun _ => ?_)
        refine mx_S.pu (pc2 := 79) (lv2 := [(2, .int s0), (0, .ref l0), (1, .int l1)]) (st2 := [.int s0]) hm dX13_back_78 rfl ?_
        rcases mx_if_el hf with ⟨c11, hf⟩ | ⟨c11, hf⟩
        · refine sb_if_eq hm dX13_back_79 (tgt := 91) rfl (fun _ => ?_) (fun z => absurd c11 z)
          cases hf
          exact sx_ret hm dX13_back_91 rfl
        · refine sb_if_eq hm dX13_back_79 (tgt := 91) rfl (fun z => absurd z c11) (fun _ => ?_)
          refine mx_S.pu (pc2 := 83) (lv2 := [(2, .int s0), (0, .ref l0), (1, .int l1)]) (st2 := [.ref l0]) hm dX13_back_82 rfl ?_
          refine mx_S.pu (pc2 := 84) (lv2 := [(2, .int s0), (0, .ref l0), (1, .int l1)]) (st2 := [.ref l0, .ref l0]) hm dX13_back_83 rfl ?_
          refine mx_S.pu (pc2 := 85) (lv2 := [(2, .int s0), (0, .ref l0), (1, .int l1)]) (st2 := [.int s0, .ref l0, .ref l0]) hm dX13_back_84 rfl ?_
          replace hf := mx_gd_el hf; obtain ⟨c8, hf⟩ := hf
          replace hf := mx_sv_el hf; obtain ⟨u9, e_u9, hf⟩ := hf
          refine sx_cv hm dX13_back_85 rs_RX13_1131 mt_X13_told [.int s0] [.ref l0] (b := l0) (ci := 13) rfl rfl rfl c8 (Nat.le_of_ble_eq_true rfl) (Nat.le_of_ble_eq_true rfl) (by omega) (by omega) (f_X13_told_ok X (by omega) (by omega) nn l0 s0 h7 e_u9) ?_
          clear e_u9
          show mx_S X F L 592 88 [(2, .int s0), (0, .ref l0), (1, .int l1)] [.int u9.1, .ref l0] u9.2 0 0 (none, r, 0, 0)
          replace hf := mx_sv_el hf; obtain ⟨h10, e_h10, hf⟩ := hf
          refine sx_put hm dX13_back_88 rs_RX13_1043 ft_13_139 ⟨rfl, rfl⟩ (fun z => by cases z) e_h10 ?_
          clear e_h10
          cases hf
          exact sx_ret hm dX13_back_91 rfl
    · refine sb_ic_ne hm dX13_back_60 (tgt := 71) rfl (fun z => absurd z c14) (fun _ => ?_)
      refine mx_S.pu (pc2 := 64) (lv2 := [(2, .int s0), (0, .ref l0), (1, .int l1)]) (st2 := [.ref l0]) hm dX13_back_63 rfl ?_
      refine mx_S.pu (pc2 := 65) (lv2 := [(2, .int s0), (0, .ref l0), (1, .int l1)]) (st2 := [.int s0, .ref l0]) hm dX13_back_64 rfl ?_
      replace hf := mx_sv_el hf; obtain ⟨h13, e_h13, hf⟩ := hf
      refine sx_put hm dX13_back_65 rs_RX13_1043 ft_13_139 ⟨rfl, rfl⟩ (fun z => by cases z) e_h13 ?_
      clear e_h13
      refine mx_S.pu (pc2 := 91) (lv2 := [(2, .int s0), (0, .ref l0), (1, .int l1)]) (st2 := []) hm dX13_back_68 rfl ?_
      cases hf
      exact sx_ret hm dX13_back_91 rfl
  · refine sb_if_le hm dX13_back_30 (tgt := 51) rfl (fun z => absurd z c18) (fun _ => ?_)
    refine mx_S.pu (pc2 := 34) (lv2 := [(2, .int s0), (0, .ref l0), (1, .int l1)]) (st2 := [.int l1]) hm dX13_back_33 rfl ?_
    refine sx_si (v := 177) hm dX13_back_34 (by decide) ?_
    rcases mx_if_el hf with ⟨c17, hf⟩ | ⟨c17, hf⟩
    · refine sb_ic_eq hm dX13_back_37 (tgt := 45) rfl (fun _ => ?_) (fun z => absurd c17 z)
      refine mx_S.ext [(0, .ref l0)] (mx_sub_pos [1] rfl (show ([2, 0, 1] : List Nat).Nodup by decide)) ?_
      exact j_X13_back_45_ok X hF hL nn l0 h5 hf
    · refine sb_ic_eq hm dX13_back_37 (tgt := 45) rfl (fun z => absurd z c17) (fun _ => ?_)
      refine mx_S.pu (pc2 := 41) (lv2 := [(2, .int s0), (0, .ref l0), (1, .int l1)]) (st2 := [.ref l0]) hm dX13_back_40 rfl ?_
      refine mx_S.pu (pc2 := 42) (lv2 := [(2, .int s0), (0, .ref l0), (1, .int l1)]) (st2 := [.int s0, .ref l0]) hm dX13_back_41 rfl ?_
      replace hf := mx_gd_el hf; obtain ⟨c15, hf⟩ := hf
      replace hf := mx_sv_el hf; obtain ⟨u16, e_u16, hf⟩ := hf
      refine sx_cv hm dX13_back_42 rs_RX13_1072 mt_X13_give [.int s0] [] (b := l0) (ci := 13) rfl rfl rfl c15 (Nat.le_of_ble_eq_true rfl) (Nat.le_of_ble_eq_true rfl) (by omega) (by omega) (f_X13_give_ok X (by omega) (by omega) nn l0 s0 h5 e_u16) ?_
      clear e_u16
      show mx_S X F L 592 45 [(2, .int s0), (0, .ref l0), (1, .int l1)] [] u16 0 0 (none, r, 0, 0)
      refine mx_S.ext [(0, .ref l0)] (mx_sub_pos [1] rfl (show ([2, 0, 1] : List Nat).Nodup by decide)) ?_
      exact j_X13_back_45_ok X hF hL nn l0 u16 hf
