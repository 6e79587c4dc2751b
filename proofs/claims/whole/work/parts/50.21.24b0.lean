set_option maxHeartbeats 4000000 in
set_option maxRecDepth 20000 in
theorem f_X11_applyArray_ok (X : Nat × (Nat → Int32)) {F L : Nat} (hF : 2 ≤ F) (hL : 45 ≤ L) (nn : Nat) (a0 : Nat) (a1 : Int32) (h : mx_H) {r : mx_H} (hf : f_X11_applyArray nn a0 a1 h = some r) : mx_R X F L 355 [.ref a0, .int a1] h (none, r, 0, 0) := by
  have hm : mx_mt 355 = some (yX11_applyArray, cX11_applyArray, 4, none) := mt_X11_applyArray
  show mx_S X F L 355 0 [(0, .ref a0), (1, .int a1)] [] h 0 0 (none, r, 0, 0)
  unfold f_X11_applyArray at hf
  refine mx_S.pu (pc2 := 1) (lv2 := [(0, .ref a0), (1, .int a1)]) (st2 := [.int a1]) hm dX11_applyArray_0 rfl ?_
  rcases mx_if_el hf with ⟨n_0, hf⟩ | ⟨n_0, hf⟩
  · refine sx_look hm dX11_applyArray_1 rfl (off := 67) (by rw [n_0]; rfl) (tgt := 68) rfl ?_
    clear n_0
    refine mx_S.pu (pc2 := 69) (lv2 := [(0, .ref a0), (1, .int a1)]) (st2 := [.ref a0]) hm dX11_applyArray_68 rfl ?_
    refine sx_si (v := 301) hm dX11_applyArray_69 (by decide) ?_
    replace hf := mx_gd_el hf; obtain ⟨c1, hf⟩ := hf
    replace hf := mx_sv_el hf; obtain ⟨u2, e_u2, hf⟩ := hf
    refine sx_cv hm dX11_applyArray_72 rs_RX11_325 mt_X11_want [.int 301] [] (b := a0) (ci := 11) rfl rfl rfl c1 (Nat.le_of_ble_eq_true rfl) (Nat.le_of_ble_eq_true rfl) (by omega) (by omega) (f_X11_want_ok X (by omega) (by omega) nn a0 301 h e_u2) ?_
    clear e_u2
    show mx_S X F L 355 75 [(0, .ref a0), (1, .int a1)] [] u2 0 0 (none, r, 0, 0)
    refine mx_S.pu (pc2 := 76) (lv2 := [(0, .ref a0), (1, .int a1)]) (st2 := [.ref a0]) hm dX11_applyArray_75 rfl ?_
    refine sx_ic (v := 1) hm dX11_applyArray_76 (by decide) ?_
    refine sx_ic (v := 0) hm dX11_applyArray_77 (by decide) ?_
    replace hf := mx_gd_el hf; obtain ⟨c3, hf⟩ := hf
    replace hf := mx_sv_el hf; obtain ⟨u4, e_u4, hf⟩ := hf
    refine sx_cv hm dX11_applyArray_78 rs_RX11_349 mt_X11_wantArray [.int 1, .int 0] [] (b := a0) (ci := 11) rfl rfl rfl c3 (Nat.le_of_ble_eq_true rfl) (Nat.le_of_ble_eq_true rfl) (by omega) (by omega) (f_X11_wantArray_ok X (by omega) (by omega) nn a0 1 0 u2 e_u4) ?_
    clear e_u4
    show mx_S X F L 355 81 [(0, .ref a0), (1, .int a1)] [.int u4.1] u4.2 0 0 (none, r, 0, 0)
    refine mx_S.pu (pc2 := 82) (lv2 := [(0, .ref a0), (1, .int a1)]) (st2 := []) hm dX11_applyArray_81 rfl ?_
    refine mx_S.pu (pc2 := 83) (lv2 := [(0, .ref a0), (1, .int a1)]) (st2 := [.ref a0]) hm dX11_applyArray_82 rfl ?_
    refine sx_si (v := 301) hm dX11_applyArray_83 (by decide) ?_
    replace hf := mx_gd_el hf; obtain ⟨c5, hf⟩ := hf
    replace hf := mx_sv_el hf; obtain ⟨u6, e_u6, hf⟩ := hf
    refine sx_cv hm dX11_applyArray_86 rs_RX11_322 mt_X11_push [.int 301] [] (b := a0) (ci := 11) rfl rfl rfl c5 (Nat.le_of_ble_eq_true rfl) (Nat.le_of_ble_eq_true rfl) (by omega) (by omega) (f_X11_push_ok X (by omega) (by omega) nn a0 301 u4.2 e_u6) ?_
    clear e_u6
    show mx_S X F L 355 89 [(0, .ref a0), (1, .int a1)] [] u6 0 0 (none, r, 0, 0)
    refine mx_S.pu (pc2 := 219) (lv2 := [(0, .ref a0), (1, .int a1)]) (st2 := []) hm dX11_applyArray_89 rfl ?_
    cases hf
    exact sx_ret hm dX11_applyArray_219 rfl
  · rcases mx_if_el hf with ⟨n_1, hf⟩ | ⟨n_1, hf⟩
    · refine sx_look hm dX11_applyArray_1 rfl (off := 91) (by rw [n_1]; rfl) (tgt := 92) rfl ?_
      clear n_0 n_1
      refine mx_S.pu (pc2 := 93) (lv2 := [(0, .ref a0), (1, .int a1)]) (st2 := [.ref a0]) hm dX11_applyArray_92 rfl ?_
      refine sx_si (v := 301) hm dX11_applyArray_93 (by decide) ?_
      replace hf := mx_gd_el hf; obtain ⟨c7, hf⟩ := hf
      replace hf := mx_sv_el hf; obtain ⟨u8, e_u8, hf⟩ := hf
      refine sx_cv hm dX11_applyArray_96 rs_RX11_325 mt_X11_want [.int 301] [] (b := a0) (ci := 11) rfl rfl rfl c7 (Nat.le_of_ble_eq_true rfl) (Nat.le_of_ble_eq_true rfl) (by omega) (by omega) (f_X11_want_ok X (by omega) (by omega) nn a0 301 h e_u8) ?_
      clear e_u8
      show mx_S X F L 355 99 [(0, .ref a0), (1, .int a1)] [] u8 0 0 (none, r, 0, 0)
      refine mx_S.pu (pc2 := 100) (lv2 := [(0, .ref a0), (1, .int a1)]) (st2 := [.ref a0]) hm dX11_applyArray_99 rfl ?_
      refine sx_ic (v := 0) hm dX11_applyArray_100 (by decide) ?_
      refine sx_ic (v := 1) hm dX11_applyArray_101 (by decide) ?_
      replace hf := mx_gd_el hf; obtain ⟨c9, hf⟩ := hf
      replace hf := mx_sv_el hf; obtain ⟨u10, e_u10, hf⟩ := hf
      refine sx_cv hm dX11_applyArray_102 rs_RX11_349 mt_X11_wantArray [.int 0, .int 1] [] (b := a0) (ci := 11) rfl rfl rfl c9 (Nat.le_of_ble_eq_true rfl) (Nat.le_of_ble_eq_true rfl) (by omega) (by omega) (f_X11_wantArray_ok X (by omega) (by omega) nn a0 0 1 u8 e_u10) ?_
      clear e_u10
      show mx_S X F L 355 105 [(0, .ref a0), (1, .int a1)] [.int u10.1] u10.2 0 0 (none, r, 0, 0)
      refine mx_S.pu (pc2 := 106) (lv2 := [(2, .int u10.1), (0, .ref a0), (1, .int a1)]) (st2 := []) hm dX11_applyArray_105 rfl ?_
      refine mx_S.pu (pc2 := 107) (lv2 := [(2, .int u10.1), (0, .ref a0), (1, .int a1)]) (st2 := [.ref a0]) hm dX11_applyArray_106 rfl ?_
      refine mx_S.pu (pc2 := 108) (lv2 := [(2, .int u10.1), (0, .ref a0), (1, .int a1)]) (st2 := [.int u10.1, .ref a0]) hm dX11_applyArray_107 rfl ?_
      refine sx_si (v := 300) hm dX11_applyArray_108 (by decide) ?_
      rcases mx_if_el hf with ⟨c16, hf⟩ | ⟨c16, hf⟩
      · refine sb_ic_ne hm dX11_applyArray_111 (tgt := 120) rfl (fun _ => ?_) (fun z => absurd c16 z)
        refine mx_S.pu (pc2 := 121) (lv2 := [(2, .int u10.1), (0, .ref a0), (1, .int a1)]) (st2 := [.int u10.1, .ref a0]) hm dX11_applyArray_120 rfl ?_
        replace hf := mx_sv_el hf; obtain ⟨u11, e_u11, hf⟩ := hf
        refine sx_cs hm dX11_applyArray_121 rs_RX11_353 mt_X4_elementOf [.int u10.1] [.ref a0] rfl rfl (Nat.le_of_ble_eq_true rfl) (Nat.le_of_ble_eq_true rfl) (by omega) (by omega) (f_X4_elementOf_ok X (by omega) (by omega) nn u10.1 u10.2 e_u11) ?_
        clear e_u11
        show mx_S X F L 355 124 [(2, .int u10.1), (0, .ref a0), (1, .int a1)] [.int u11.1, .ref a0] u11.2 0 0 (none, r, 0, 0)
        replace hf := mx_gd_el hf; obtain ⟨c12, hf⟩ := hf
        replace hf := mx_sv_el hf; obtain ⟨u13, e_u13, hf⟩ := hf
        refine sx_cv hm dX11_applyArray_124 rs_RX11_322 mt_X11_push [.int u11.1] [] (b := a0) (ci := 11) rfl rfl rfl c12 (Nat.le_of_ble_eq_true rfl) (Nat.le_of_ble_eq_true rfl) (by omega) (by omega) (f_X11_push_ok X (by omega) (by omega) nn a0 u11.1 u11.2 e_u13) ?_
        clear e_u13
        show mx_S X F L 355 127 [(2, .int u10.1), (0, .ref a0), (1, .int a1)] [] u13 0 0 (none, r, 0, 0)
        refine mx_S.pu (pc2 := 219) (lv2 := [(2, .int u10.1), (0, .ref a0), (1, .int a1)]) (st2 := []) hm dX11_applyArray_127 rfl ?_
        cases hf
        exact sx_ret hm dX11_applyArray_219 rfl
      · refine sb_ic_ne hm dX11_applyArray_111 (tgt := 120) rfl (fun z => absurd z c16) (fun _ => ?_)
        refine sx_si (v := 300) hm dX11_applyArray_114 (by decide) ?_
        refine mx_S.pu (pc2 := 124) (lv2 := [(2, .int u10.1), (0, .ref a0), (1, .int a1)]) (st2 := [.int 300, .ref a0]) hm dX11_applyArray_117 rfl ?_
        replace hf := mx_gd_el hf; obtain ⟨c14, hf⟩ := hf
        replace hf := mx_sv_el hf; obtain ⟨u15, e_u15, hf⟩ := hf
        refine sx_cv hm dX11_applyArray_124 rs_RX11_322 mt_X11_push [.int 300] [] (b := a0) (ci := 11) rfl rfl rfl c14 (Nat.le_of_ble_eq_true rfl) (Nat.le_of_ble_eq_true rfl) (by omega) (by omega) (f_X11_push_ok X (by omega) (by omega) nn a0 300 u10.2 e_u15) ?_
        clear e_u15
        show mx_S X F L 355 127 [(2, .int u10.1), (0, .ref a0), (1, .int a1)] [] u15 0 0 (none, r, 0, 0)
        refine mx_S.pu (pc2 := 219) (lv2 := [(2, .int u10.1), (0, .ref a0), (1, .int a1)]) (st2 := []) hm dX11_applyArray_127 rfl ?_
        cases hf
        exact sx_ret hm dX11_applyArray_219 rfl
    · rcases mx_if_el hf with ⟨n_2, hf⟩ | ⟨n_2, hf⟩
      · refine sx_look hm dX11_applyArray_1 rfl (off := 129) (by rw [n_2]; rfl) (tgt := 130) rfl ?_
        clear n_0 n_1 n_2
        refine mx_S.pu (pc2 := 131) (lv2 := [(0, .ref a0), (1, .int a1)]) (st2 := [.ref a0]) hm dX11_applyArray_130 rfl ?_
        refine sx_si (v := 301) hm dX11_applyArray_131 (by decide) ?_
        replace hf := mx_gd_el hf; obtain ⟨c17, hf⟩ := hf
        replace hf := mx_sv_el hf; obtain ⟨u18, e_u18, hf⟩ := hf
        refine sx_cv hm dX11_applyArray_134 rs_RX11_325 mt_X11_want [.int 301] [] (b := a0) (ci := 11) rfl rfl rfl c17 (Nat.le_of_ble_eq_true rfl) (Nat.le_of_ble_eq_true rfl) (by omega) (by omega) (f_X11_want_ok X (by omega) (by omega) nn a0 301 h e_u18) ?_
        clear e_u18
        show mx_S X F L 355 137 [(0, .ref a0), (1, .int a1)] [] u18 0 0 (none, r, 0, 0)
        refine mx_S.pu (pc2 := 138) (lv2 := [(0, .ref a0), (1, .int a1)]) (st2 := [.ref a0]) hm dX11_applyArray_137 rfl ?_
        refine sx_si (v := 301) hm dX11_applyArray_138 (by decide) ?_
        replace hf := mx_gd_el hf; obtain ⟨c19, hf⟩ := hf
        replace hf := mx_sv_el hf; obtain ⟨u20, e_u20, hf⟩ := hf
        refine sx_cv hm dX11_applyArray_141 rs_RX11_325 mt_X11_want [.int 301] [] (b := a0) (ci := 11) rfl rfl rfl c19 (Nat.le_of_ble_eq_true rfl) (Nat.le_of_ble_eq_true rfl) (by omega) (by omega) (f_X11_want_ok X (by omega) (by omega) nn a0 301 u18 e_u20) ?_
        clear e_u20
        show mx_S X F L 355 144 [(0, .ref a0), (1, .int a1)] [] u20 0 0 (none, r, 0, 0)
        refine mx_S.pu (pc2 := 145) (lv2 := [(0, .ref a0), (1, .int a1)]) (st2 := [.ref a0]) hm dX11_applyArray_144 rfl ?_
        refine sx_ic (v := 1) hm dX11_applyArray_145 (by decide) ?_
        refine sx_ic (v := 0) hm dX11_applyArray_146 (by decide) ?_
        replace hf := mx_gd_el hf; obtain ⟨c21, hf⟩ := hf
        replace hf := mx_sv_el hf; obtain ⟨u22, e_u22, hf⟩ := hf
        refine sx_cv hm dX11_applyArray_147 rs_RX11_349 mt_X11_wantArray [.int 1, .int 0] [] (b := a0) (ci := 11) rfl rfl rfl c21 (Nat.le_of_ble_eq_true rfl) (Nat.le_of_ble_eq_true rfl) (by omega) (by omega) (f_X11_wantArray_ok X (by omega) (by omega) nn a0 1 0 u20 e_u22) ?_
        clear e_u22
        show mx_S X F L 355 150 [(0, .ref a0), (1, .int a1)] [.int u22.1] u22.2 0 0 (none, r, 0, 0)
        refine mx_S.pu (pc2 := 151) (lv2 := [(0, .ref a0), (1, .int a1)]) (st2 := []) hm dX11_applyArray_150 rfl ?_
        refine mx_S.pu (pc2 := 219) (lv2 := [(0, .ref a0), (1, .int a1)]) (st2 := []) hm dX11_applyArray_151 rfl ?_
        cases hf
        exact sx_ret hm dX11_applyArray_219 rfl
      · rcases mx_if_el hf with ⟨n_3, hf⟩ | ⟨n_3, hf⟩
        · refine sx_look hm dX11_applyArray_1 rfl (off := 153) (by rw [n_3]; rfl) (tgt := 154) rfl ?_
          clear n_0 n_1 n_2 n_3
          refine mx_S.pu (pc2 := 155) (lv2 := [(0, .ref a0), (1, .int a1)]) (st2 := [.ref a0]) hm dX11_applyArray_154 rfl ?_
          replace hf := mx_gd_el hf; obtain ⟨c23, hf⟩ := hf
          replace hf := mx_sv_el hf; obtain ⟨u24, e_u24, hf⟩ := hf
          refine sx_cv hm dX11_applyArray_155 rs_RX11_346 mt_X11_wantReference [] [] (b := a0) (ci := 11) rfl rfl rfl c23 (Nat.le_of_ble_eq_true rfl) (Nat.le_of_ble_eq_true rfl) (by omega) (by omega) (f_X11_wantReference_ok X (by omega) (by omega) nn a0 h e_u24) ?_
          clear e_u24
          show mx_S X F L 355 158 [(0, .ref a0), (1, .int a1)] [.int u24.1] u24.2 0 0 (none, r, 0, 0)
          refine mx_S.pu (pc2 := 159) (lv2 := [(0, .ref a0), (1, .int a1)]) (st2 := []) hm dX11_applyArray_158 rfl ?_
          refine mx_S.pu (pc2 := 160) (lv2 := [(0, .ref a0), (1, .int a1)]) (st2 := [.ref a0]) hm dX11_applyArray_159 rfl ?_
          refine sx_si (v := 301) hm dX11_applyArray_160 (by decide) ?_
          replace hf := mx_gd_el hf; obtain ⟨c25, hf⟩ := hf
          replace hf := mx_sv_el hf; obtain ⟨u26, e_u26, hf⟩ := hf
          refine sx_cv hm dX11_applyArray_163 rs_RX11_325 mt_X11_want [.int 301] [] (b := a0) (ci := 11) rfl rfl rfl c25 (Nat.le_of_ble_eq_true rfl) (Nat.le_of_ble_eq_true rfl) (by omega) (by omega) (f_X11_want_ok X (by omega) (by omega) nn a0 301 u24.2 e_u26) ?_
          clear e_u26
          show mx_S X F L 355 166 [(0, .ref a0), (1, .int a1)] [] u26 0 0 (none, r, 0, 0)
          refine mx_S.pu (pc2 := 167) (lv2 := [(0, .ref a0), (1, .int a1)]) (st2 := [.ref a0]) hm dX11_applyArray_166 rfl ?_
          refine sx_ic (v := 0) hm dX11_applyArray_167 (by decide) ?_
          refine sx_ic (v := 1) hm dX11_applyArray_168 (by decide) ?_
          replace hf := mx_gd_el hf; obtain ⟨c27, hf⟩ := hf
          replace hf := mx_sv_el hf; obtain ⟨u28, e_u28, hf⟩ := hf
          refine sx_cv hm dX11_applyArray_169 rs_RX11_349 mt_X11_wantArray [.int 0, .int 1] [] (b := a0) (ci := 11) rfl rfl rfl c27 (Nat.le_of_ble_eq_true rfl) (Nat.le_of_ble_eq_true rfl) (by omega) (by omega) (f_X11_wantArray_ok X (by omega) (by omega) nn a0 0 1 u26 e_u28) ?_
          clear e_u28
          show mx_S X F L 355 172 [(0, .ref a0), (1, .int a1)] [.int u28.1] u28.2 0 0 (none, r, 0, 0)
          refine mx_S.pu (pc2 := 173) (lv2 := [(0, .ref a0), (1, .int a1)]) (st2 := []) hm dX11_applyArray_172 rfl ?_
          refine mx_S.pu (pc2 := 219) (lv2 := [(0, .ref a0), (1, .int a1)]) (st2 := []) hm dX11_applyArray_173 rfl ?_
          cases hf
          exact sx_ret hm dX11_applyArray_219 rfl
        · rcases mx_if_el hf with ⟨n_4, hf⟩ | ⟨n_4, hf⟩
          · refine sx_look hm dX11_applyArray_1 rfl (off := 175) (by rw [n_4]; rfl) (tgt := 176) rfl ?_
            clear n_0 n_1 n_2 n_3 n_4
            refine mx_S.pu (pc2 := 177) (lv2 := [(0, .ref a0), (1, .int a1)]) (st2 := [.ref a0]) hm dX11_applyArray_176 rfl ?_
            replace hf := mx_gd_el hf; obtain ⟨c29, hf⟩ := hf
            replace hf := mx_sv_el hf; obtain ⟨u30, e_u30, hf⟩ := hf
            refine sx_cv hm dX11_applyArray_177 rs_RX11_313 mt_X11_pop [] [] (b := a0) (ci := 11) rfl rfl rfl c29 (Nat.le_of_ble_eq_true rfl) (Nat.le_of_ble_eq_true rfl) (by omega) (by omega) (f_X11_pop_ok X (by omega) (by omega) nn a0 h e_u30) ?_
            clear e_u30
            show mx_S X F L 355 180 [(0, .ref a0), (1, .int a1)] [.int u30.1] u30.2 0 0 (none, r, 0, 0)
            refine mx_S.pu (pc2 := 181) (lv2 := [(0, .ref a0), (1, .int a1)]) (st2 := []) hm dX11_applyArray_180 rfl ?_
            refine mx_S.pu (pc2 := 219) (lv2 := [(0, .ref a0), (1, .int a1)]) (st2 := []) hm dX11_applyArray_181 rfl ?_
            cases hf
            exact sx_ret hm dX11_applyArray_219 rfl
          · rcases mx_if_el hf with ⟨n_5, hf⟩ | ⟨n_5, hf⟩
            · refine sx_look hm dX11_applyArray_1 rfl (off := 183) (by rw [n_5]; rfl) (tgt := 184) rfl ?_
              clear n_0 n_1 n_2 n_3 n_4 n_5
              refine mx_S.pu (pc2 := 185) (lv2 := [(0, .ref a0), (1, .int a1)]) (st2 := [.ref a0]) hm dX11_applyArray_184 rfl ?_
              replace hf := mx_gd_el hf; obtain ⟨c31, hf⟩ := hf
              replace hf := mx_sv_el hf; obtain ⟨u32, e_u32, hf⟩ := hf
              refine sx_cv hm dX11_applyArray_185 rs_RX11_313 mt_X11_pop [] [] (b := a0) (ci := 11) rfl rfl rfl c31 (Nat.le_of_ble_eq_true rfl) (Nat.le_of_ble_eq_true rfl) (by omega) (by omega) (f_X11_pop_ok X (by omega) (by omega) nn a0 h e_u32) ?_
              clear e_u32
              show mx_S X F L 355 188 [(0, .ref a0), (1, .int a1)] [.int u32.1] u32.2 0 0 (none, r, 0, 0)
              refine mx_S.pu (pc2 := 189) (lv2 := [(3, .int u32.1), (0, .ref a0), (1, .int a1)]) (st2 := []) hm dX11_applyArray_188 rfl ?_
              refine mx_S.pu (pc2 := 190) (lv2 := [(3, .int u32.1), (0, .ref a0), (1, .int a1)]) (st2 := [.ref a0]) hm dX11_applyArray_189 rfl ?_
              refine mx_S.pu (pc2 := 191) (lv2 := [(3, .int u32.1), (0, .ref a0), (1, .int a1)]) (st2 := [.int u32.1, .ref a0]) hm dX11_applyArray_190 rfl ?_
              replace hf := mx_gd_el hf; obtain ⟨c33, hf⟩ := hf
              replace hf := mx_sv_el hf; obtain ⟨u34, e_u34, hf⟩ := hf
              refine sx_cv hm dX11_applyArray_191 rs_RX11_322 mt_X11_push [.int u32.1] [] (b := a0) (ci := 11) rfl rfl rfl c33 (Nat.le_of_ble_eq_true rfl) (Nat.le_of_ble_eq_true rfl) (by omega) (by omega) (f_X11_push_ok X (by omega) (by omega) nn a0 u32.1 u32.2 e_u34) ?_
              clear e_u34
              show mx_S X F L 355 194 [(3, .int u32.1), (0, .ref a0), (1, .int a1)] [] u34 0 0 (none, r, 0, 0)
              refine mx_S.pu (pc2 := 195) (lv2 := [(3, .int u32.1), (0, .ref a0), (1, .int a1)]) (st2 := [.ref a0]) hm dX11_applyArray_194 rfl ?_
              refine mx_S.pu (pc2 := 196) (lv2 := [(3, .int u32.1), (0, .ref a0), (1, .int a1)]) (st2 := [.int u32.1, .ref a0]) hm dX11_applyArray_195 rfl ?_
              replace hf := mx_gd_el hf; obtain ⟨c35, hf⟩ := hf
              replace hf := mx_sv_el hf; obtain ⟨u36, e_u36, hf⟩ := hf
              refine sx_cv hm dX11_applyArray_196 rs_RX11_322 mt_X11_push [.int u32.1] [] (b := a0) (ci := 11) rfl rfl rfl c35 (Nat.le_of_ble_eq_true rfl) (Nat.le_of_ble_eq_true rfl) (by omega) (by omega) (f_X11_push_ok X (by omega) (by omega) nn a0 u32.1 u34 e_u36) ?_
              clear e_u36
              show mx_S X F L 355 199 [(3, .int u32.1), (0, .ref a0), (1, .int a1)] [] u36 0 0 (none, r, 0, 0)
              refine mx_S.pu (pc2 := 219) (lv2 := [(3, .int u32.1), (0, .ref a0), (1, .int a1)]) (st2 := []) hm dX11_applyArray_199 rfl ?_
              cases hf
              exact sx_ret hm dX11_applyArray_219 rfl
            · rcases mx_if_el hf with ⟨n_6, hf⟩ | ⟨n_6, hf⟩
              · refine sx_look hm dX11_applyArray_1 rfl (off := 201) (by rw [n_6]; rfl) (tgt := 202) rfl ?_
                clear n_0 n_1 n_2 n_3 n_4 n_5 n_6
                refine mx_S.pu (pc2 := 203) (lv2 := [(0, .ref a0), (1, .int a1)]) (st2 := [.ref a0]) hm dX11_applyArray_202 rfl ?_
                refine sx_si (v := 301) hm dX11_applyArray_203 (by decide) ?_
                replace hf := mx_gd_el hf; obtain ⟨c37, hf⟩ := hf
                replace hf := mx_sv_el hf; obtain ⟨u38, e_u38, hf⟩ := hf
                refine sx_cv hm dX11_applyArray_206 rs_RX11_325 mt_X11_want [.int 301] [] (b := a0) (ci := 11) rfl rfl rfl c37 (Nat.le_of_ble_eq_true rfl) (Nat.le_of_ble_eq_true rfl) (by omega) (by omega) (f_X11_want_ok X (by omega) (by omega) nn a0 301 h e_u38) ?_
                clear e_u38
                show mx_S X F L 355 209 [(0, .ref a0), (1, .int a1)] [] u38 0 0 (none, r, 0, 0)
                refine mx_S.pu (pc2 := 210) (lv2 := [(0, .ref a0), (1, .int a1)]) (st2 := [.ref a0]) hm dX11_applyArray_209 rfl ?_
                refine sx_si (v := 301) hm dX11_applyArray_210 (by decide) ?_
                replace hf := mx_gd_el hf; obtain ⟨c39, hf⟩ := hf
                replace hf := mx_sv_el hf; obtain ⟨u40, e_u40, hf⟩ := hf
                refine sx_cv hm dX11_applyArray_213 rs_RX11_322 mt_X11_push [.int 301] [] (b := a0) (ci := 11) rfl rfl rfl c39 (Nat.le_of_ble_eq_true rfl) (Nat.le_of_ble_eq_true rfl) (by omega) (by omega) (f_X11_push_ok X (by omega) (by omega) nn a0 301 u38 e_u40) ?_
                clear e_u40
                show mx_S X F L 355 216 [(0, .ref a0), (1, .int a1)] [] u40 0 0 (none, r, 0, 0)
                refine mx_S.pu (pc2 := 219) (lv2 := [(0, .ref a0), (1, .int a1)]) (st2 := []) hm dX11_applyArray_216 rfl ?_
                cases hf
                exact sx_ret hm dX11_applyArray_219 rfl
              · refine sx_look hm dX11_applyArray_1 rfl (off := 218) (by show Op.lookupswitch.offset [(46, 67), (50, 91), (79, 129), (83, 153), (87, 175), (89, 183), (116, 201)] 218 a1.toInt = _; rw [lv_osw n_0 (by decide), lv_osw n_1 (by decide), lv_osw n_2 (by decide), lv_osw n_3 (by decide), lv_osw n_4 (by decide), lv_osw n_5 (by decide), lv_osw n_6 (by decide)]; rfl) (tgt := 219) rfl ?_
                cases hf
                exact sx_ret hm dX11_applyArray_219 rfl
set_option maxHeartbeats 4000000 in
set_option maxRecDepth 20000 in
theorem j_X11_applyJump_22_ok (X : Nat × (Nat → Int32)) {F L : Nat} (hF : 2 ≤ F) (hL : 45 ≤ L) (nn : Nat) (l0 : Nat) (h : mx_H) {r : mx_H} (hf : j_X11_applyJump_22 nn l0 h = some r) : mx_S X F L 354 22 [(0, .ref l0)] [] h 0 0 (none, r, 0, 0) := by
  have hm : mx_mt 354 = some (yX11_applyJump, cX11_applyJump, 2, none) := mt_X11_applyJump
  unfold j_X11_applyJump_22 at hf
  refine mx_S.pu (pc2 := 23) (lv2 := [(0, .ref l0)]) (st2 := [.ref l0]) hm dX11_applyJump_22 rfl ?_
  replace hf := mx_gd_el hf; obtain ⟨c1, hf⟩ := hf
  replace hf := mx_sv_el hf; obtain ⟨u2, e_u2, hf⟩ := hf
  refine sx_cv hm dX11_applyJump_23 rs_RX11_346 mt_X11_wantReference [] [] (b := l0) (ci := 11) rfl rfl rfl c1 (Nat.le_of_ble_eq_true rfl) (Nat.le_of_ble_eq_true rfl) (by omega) (by omega) (f_X11_wantReference_ok X (by omega) (by omega) nn l0 h e_u2) ?_
  clear e_u2
  show mx_S X F L 354 26 [(0, .ref l0)] [.int u2.1] u2.2 0 0 (none, r, 0, 0)
  refine mx_S.pu (pc2 := 27) (lv2 := [(0, .ref l0)]) (st2 := []) hm dX11_applyJump_26 rfl ?_
  refine mx_S.pu (pc2 := 28) (lv2 := [(0, .ref l0)]) (st2 := [.ref l0]) hm dX11_applyJump_27 rfl ?_
  replace hf := mx_gd_el hf; obtain ⟨c3, hf⟩ := hf
  replace hf := mx_sv_el hf; obtain ⟨u4, e_u4, hf⟩ := hf
  refine sx_cv hm dX11_applyJump_28 rs_RX11_346 mt_X11_wantReference [] [] (b := l0) (ci := 11) rfl rfl rfl c3 (Nat.le_of_ble_eq_true rfl) (Nat.le_of_ble_eq_true rfl) (by omega) (by omega) (f_X11_wantReference_ok X (by omega) (by omega) nn l0 u2.2 e_u4) ?_
  clear e_u4
  show mx_S X F L 354 31 [(0, .ref l0)] [.int u4.1] u4.2 0 0 (none, r, 0, 0)
  refine mx_S.pu (pc2 := 32) (lv2 := [(0, .ref l0)]) (st2 := []) hm dX11_applyJump_31 rfl ?_
  cases hf
  exact sx_ret hm dX11_applyJump_32 rfl
set_option maxHeartbeats 4000000 in
set_option maxRecDepth 20000 in
theorem f_X11_applyJump_ok (X : Nat × (Nat → Int32)) {F L : Nat} (hF : 2 ≤ F) (hL : 45 ≤ L) (nn : Nat) (a0 : Nat) (a1 : Int32) (h : mx_H) {r : mx_H} (hf : f_X11_applyJump nn a0 a1 h = some r) : mx_R X F L 354 [.ref a0, .int a1] h (none, r, 0, 0) := by
  have hm : mx_mt 354 = some (yX11_applyJump, cX11_applyJump, 2, none) := mt_X11_applyJump
  show mx_S X F L 354 0 [(0, .ref a0), (1, .int a1)] [] h 0 0 (none, r, 0, 0)
  unfold f_X11_applyJump at hf
  refine mx_S.pu (pc2 := 1) (lv2 := [(0, .ref a0), (1, .int a1)]) (st2 := [.int a1]) hm dX11_applyJump_0 rfl ?_
  refine sx_si (v := 167) hm dX11_applyJump_1 (by decide) ?_
  rcases mx_if_el hf with ⟨c12, hf⟩ | ⟨c12, hf⟩
  · refine sb_ic_ne hm dX11_applyJump_4 (tgt := 8) rfl (fun _ => ?_) (fun z => absurd c12 z)
    refine mx_S.pu (pc2 := 9) (lv2 := [(0, .ref a0), (1, .int a1)]) (st2 := [.int a1]) hm dX11_applyJump_8 rfl ?_
    refine sx_si (v := 165) hm dX11_applyJump_9 (by decide) ?_
    rcases mx_if_el hf with ⟨c11, hf⟩ | ⟨c11, hf⟩
    · refine sb_ic_eq hm dX11_applyJump_12 (tgt := 22) rfl (fun _ => ?_) (fun z => absurd c11 z)
      refine mx_S.ext [(0, .ref a0)] (mx_sub_pos [0] rfl (show ([0, 1] : List Nat).Nodup by decide)) ?_
      exact j_X11_applyJump_22_ok X hF hL nn a0 h hf
    · refine sb_ic_eq hm dX11_applyJump_12 (tgt := 22) rfl (fun z => absurd z c11) (fun _ => ?_)
      refine mx_S.pu (pc2 := 16) (lv2 := [(0, .ref a0), (1, .int a1)]) (st2 := [.int a1]) hm dX11_applyJump_15 rfl ?_
      refine sx_si (v := 166) hm dX11_applyJump_16 (by decide) ?_
      rcases mx_if_el hf with ⟨c10, hf⟩ | ⟨c10, hf⟩
      · refine sb_ic_ne hm dX11_applyJump_19 (tgt := 33) rfl (fun _ => ?_) (fun z => absurd c10 z)
        refine mx_S.pu (pc2 := 34) (lv2 := [(0, .ref a0), (1, .int a1)]) (st2 := [.ref a0]) hm dX11_applyJump_33 rfl ?_
        refine sx_si (v := 301) hm dX11_applyJump_34 (by decide) ?_
        replace hf := mx_gd_el hf; obtain ⟨c5, hf⟩ := hf
        replace hf := mx_sv_el hf; obtain ⟨u6, e_u6, hf⟩ := hf
        refine sx_cv hm dX11_applyJump_37 rs_RX11_325 mt_X11_want [.int 301] [] (b := a0) (ci := 11) rfl rfl rfl c5 (Nat.le_of_ble_eq_true rfl) (Nat.le_of_ble_eq_true rfl) (by omega) (by omega) (f_X11_want_ok X (by omega) (by omega) nn a0 301 h e_u6) ?_
        clear e_u6
        show mx_S X F L 354 40 [(0, .ref a0), (1, .int a1)] [] u6 0 0 (none, r, 0, 0)
        refine mx_S.pu (pc2 := 41) (lv2 := [(0, .ref a0), (1, .int a1)]) (st2 := [.int a1]) hm dX11_applyJump_40 rfl ?_
        refine sx_si (v := 159) hm dX11_applyJump_41 (by decide) ?_
        rcases mx_if_el hf with ⟨c9, hf⟩ | ⟨c9, hf⟩
        · refine sb_ic_lt hm dX11_applyJump_44 (tgt := 54) rfl (fun _ => ?_) (fun z => absurd c9 z)
          cases hf
          exact sx_ret hm dX11_applyJump_54 rfl
        · refine sb_ic_lt hm dX11_applyJump_44 (tgt := 54) rfl (fun z => absurd z c9) (fun _ => ?_)
          refine mx_S.pu (pc2 := 48) (lv2 := [(0, .ref a0), (1, .int a1)]) (st2 := [.ref a0]) hm dX11_applyJump_47 rfl ?_
          refine sx_si (v := 301) hm dX11_applyJump_48 (by decide) ?_
          replace hf := mx_gd_el hf; obtain ⟨c7, hf⟩ := hf
          replace hf := mx_sv_el hf; obtain ⟨u8, e_u8, hf⟩ := hf
          refine sx_cv hm dX11_applyJump_51 rs_RX11_325 mt_X11_want [.int 301] [] (b := a0) (ci := 11) rfl rfl rfl c7 (Nat.le_of_ble_eq_true rfl) (Nat.le_of_ble_eq_true rfl) (by omega) (by omega) (f_X11_want_ok X (by omega) (by omega) nn a0 301 u6 e_u8) ?_
          clear e_u8
          show mx_S X F L 354 54 [(0, .ref a0), (1, .int a1)] [] u8 0 0 (none, r, 0, 0)
          cases hf
          exact sx_ret hm dX11_applyJump_54 rfl
      · refine sb_ic_ne hm dX11_applyJump_19 (tgt := 33) rfl (fun z => absurd z c10) (fun _ => ?_)
        refine mx_S.ext [(0, .ref a0)] (mx_sub_pos [0] rfl (show ([0, 1] : List Nat).Nodup by decide)) ?_
        exact j_X11_applyJump_22_ok X hF hL nn a0 h hf
  · refine sb_ic_ne hm dX11_applyJump_4 (tgt := 8) rfl (fun z => absurd z c12) (fun _ => ?_)
    cases hf
    exact sx_ret hm dX11_applyJump_7 rfl
set_option maxHeartbeats 4000000 in
set_option maxRecDepth 20000 in
theorem j_X11_applyLocal_91_ok (X : Nat × (Nat → Int32)) {F L : Nat} (hF : 2 ≤ F) (hL : 45 ≤ L) (nn : Nat) (l0 : Nat) (l2 : Int32) (s0 : Int32) (s1 : Nat) (h : mx_H) {r : mx_H} (hf : j_X11_applyLocal_91 nn l0 l2 s0 s1 h = some r) : mx_S X F L 353 91 [(0, .ref l0), (2, .int l2)] [.int s0, .ref s1] h 0 0 (none, r, 0, 0) := by
  have hm : mx_mt 353 = some (yX11_applyLocal, cX11_applyLocal, 4, none) := mt_X11_applyLocal
  unfold j_X11_applyLocal_91 at hf
  replace hf := mx_gd_el hf; obtain ⟨c1, hf⟩ := hf
  replace hf := mx_sv_el hf; obtain ⟨h2, e_h2, hf⟩ := hf
  refine sx_put hm dX11_applyLocal_91 rs_RX11_295 ft_11_19 (xbq_ok c1) (fun z => by cases z) e_h2 ?_
  clear e_h2
  refine mx_S.pu (pc2 := 95) (lv2 := [(0, .ref l0), (2, .int l2)]) (st2 := [.ref l0]) hm dX11_applyLocal_94 rfl ?_
  refine mx_S.pu (pc2 := 96) (lv2 := [(0, .ref l0), (2, .int l2)]) (st2 := [.ref l0, .ref l0]) hm dX11_applyLocal_95 rfl ?_
  replace hf := mx_sv_el hf; obtain ⟨v3, e_v3, hf⟩ := hf
  refine sx_get hm dX11_applyLocal_96 rs_RX11_44 (xgr_el e_v3) ?_
  clear e_v3
  refine mx_S.pu (pc2 := 100) (lv2 := [(0, .ref l0), (2, .int l2)]) (st2 := [.int l2, .ref v3, .ref l0]) hm dX11_applyLocal_99 rfl ?_
  replace hf := mx_sv_el hf; obtain ⟨v4, e_v4, hf⟩ := hf
  refine sx_ald hm dX11_applyLocal_100 e_v4 ?_
  clear e_v4
  replace hf := mx_gd_el hf; obtain ⟨c5, hf⟩ := hf
  replace hf := mx_sv_el hf; obtain ⟨u6, e_u6, hf⟩ := hf
  refine sx_cv hm dX11_applyLocal_101 rs_RX11_322 mt_X11_push [.int v4] [] (b := l0) (ci := 11) rfl rfl rfl c5 (Nat.le_of_ble_eq_true rfl) (Nat.le_of_ble_eq_true rfl) (by omega) (by omega) (f_X11_push_ok X (by omega) (by omega) nn l0 v4 h2 e_u6) ?_
  clear e_u6
  show mx_S X F L 353 104 [(0, .ref l0), (2, .int l2)] [] u6 0 0 (none, r, 0, 0)
  refine mx_S.pu (pc2 := 142) (lv2 := [(0, .ref l0), (2, .int l2)]) (st2 := []) hm dX11_applyLocal_104 rfl ?_
  cases hf
  exact sx_ret hm dX11_applyLocal_142 rfl
set_option maxHeartbeats 4000000 in
set_option maxRecDepth 20000 in
theorem j_X11_applyLocal_90_ok (X : Nat × (Nat → Int32)) {F L : Nat} (hF : 2 ≤ F) (hL : 45 ≤ L) (nn : Nat) (l0 : Nat) (l2 : Int32) (s0 : Nat) (h : mx_H) {r : mx_H} (hf : j_X11_applyLocal_90 nn l0 l2 s0 h = some r) : mx_S X F L 353 90 [(0, .ref l0), (2, .int l2)] [.ref s0] h 0 0 (none, r, 0, 0) := by
  have hm : mx_mt 353 = some (yX11_applyLocal, cX11_applyLocal, 4, none) := mt_X11_applyLocal
  unfold j_X11_applyLocal_90 at hf
  refine sx_ic (v := 0) hm dX11_applyLocal_90 (by decide) ?_
  exact j_X11_applyLocal_91_ok X hF hL nn l0 l2 0 s0 h hf
set_option maxHeartbeats 4000000 in
set_option maxRecDepth 20000 in
theorem j_X11_applyLocal_73_ok (X : Nat × (Nat → Int32)) {F L : Nat} (hF : 2 ≤ F) (hL : 45 ≤ L) (nn : Nat) (l0 : Nat) (l2 : Int32) (s0 : Int32) (h : mx_H) {r : mx_H} (hf : j_X11_applyLocal_73 nn l0 l2 s0 h = some r) : mx_S X F L 353 73 [(0, .ref l0), (2, .int l2)] [.int s0] h 0 0 (none, r, 0, 0) := by
  have hm : mx_mt 353 = some (yX11_applyLocal, cX11_applyLocal, 4, none) := mt_X11_applyLocal
  unfold j_X11_applyLocal_73 at hf
  refine mx_S.pu (pc2 := 74) (lv2 := [(3, .int s0), (0, .ref l0), (2, .int l2)]) (st2 := []) hm dX11_applyLocal_73 rfl ?_
  refine mx_S.pu (pc2 := 75) (lv2 := [(3, .int s0), (0, .ref l0), (2, .int l2)]) (st2 := [.ref l0]) hm dX11_applyLocal_74 rfl ?_
  refine mx_S.pu (pc2 := 76) (lv2 := [(3, .int s0), (0, .ref l0), (2, .int l2)]) (st2 := [.ref l0, .ref l0]) hm dX11_applyLocal_75 rfl ?_
  replace hf := mx_sv_el hf; obtain ⟨v7, e_v7, hf⟩ := hf
  refine sx_get hm dX11_applyLocal_76 rs_RX11_295 (xgi_el e_v7) ?_
  clear e_v7
  rcases mx_if_el hf with ⟨c9, hf⟩ | ⟨c9, hf⟩
  · refine sb_if_eq hm dX11_applyLocal_79 (tgt := 90) rfl (fun _ => ?_) (fun z => absurd c9 z)
    refine mx_S.ext [(0, .ref l0), (2, .int l2)] (mx_sub_pos [1, 2] rfl (show ([3, 0, 2] : List Nat).Nodup by decide)) ?_
    exact j_X11_applyLocal_90_ok X hF hL nn l0 l2 l0 h hf
  · refine sb_if_eq hm dX11_applyLocal_79 (tgt := 90) rfl (fun z => absurd z c9) (fun _ => ?_)
    refine mx_S.pu (pc2 := 83) (lv2 := [(3, .int s0), (0, .ref l0), (2, .int l2)]) (st2 := [.int s0, .ref l0]) hm dX11_applyLocal_82 rfl ?_
    rcases mx_if_el hf with ⟨c8, hf⟩ | ⟨c8, hf⟩
    · refine sb_if_eq hm dX11_applyLocal_83 (tgt := 90) rfl (fun _ => ?_) (fun z => absurd c8 z)
      refine mx_S.ext [(0, .ref l0), (2, .int l2)] (mx_sub_pos [1, 2] rfl (show ([3, 0, 2] : List Nat).Nodup by decide)) ?_
      exact j_X11_applyLocal_90_ok X hF hL nn l0 l2 l0 h hf
    · refine sb_if_eq hm dX11_applyLocal_83 (tgt := 90) rfl (fun z => absurd z c8) (fun _ => ?_)
      refine sx_ic (v := 1) hm dX11_applyLocal_86 (by decide) ?_
      refine mx_S.pu (pc2 := 91) (lv2 := [(3, .int s0), (0, .ref l0), (2, .int l2)]) (st2 := [.int 1, .ref l0]) hm dX11_applyLocal_87 rfl ?_
      refine mx_S.ext [(0, .ref l0), (2, .int l2)] (mx_sub_pos [1, 2] rfl (show ([3, 0, 2] : List Nat).Nodup by decide)) ?_
      exact j_X11_applyLocal_91_ok X hF hL nn l0 l2 1 l0 h hf
set_option maxHeartbeats 4000000 in
set_option maxRecDepth 20000 in
theorem j_X11_applyLocal_38_ok (X : Nat × (Nat → Int32)) {F L : Nat} (hF : 2 ≤ F) (hL : 45 ≤ L) (nn : Nat) (l0 : Nat) (l1 : Int32) (l2 : Int32) (h : mx_H) {r : mx_H} (hf : j_X11_applyLocal_38 nn l0 l1 l2 h = some r) : mx_S X F L 353 38 [(0, .ref l0), (1, .int l1), (2, .int l2)] [] h 0 0 (none, r, 0, 0) := by
  have hm : mx_mt 353 = some (yX11_applyLocal, cX11_applyLocal, 4, none) := mt_X11_applyLocal
  unfold j_X11_applyLocal_38 at hf
  refine mx_S.pu (pc2 := 39) (lv2 := [(0, .ref l0), (1, .int l1), (2, .int l2)]) (st2 := [.int l1]) hm dX11_applyLocal_38 rfl ?_
  refine sx_bi (v := 21) hm dX11_applyLocal_39 (by decide) ?_
  rcases mx_if_el hf with ⟨c16, hf⟩ | ⟨c16, hf⟩
  · refine sb_ic_ne hm dX11_applyLocal_41 (tgt := 64) rfl (fun _ => ?_) (fun z => absurd c16 z)
    refine mx_S.pu (pc2 := 65) (lv2 := [(0, .ref l0), (1, .int l1), (2, .int l2)]) (st2 := [.ref l0]) hm dX11_applyLocal_64 rfl ?_
    replace hf := mx_sv_el hf; obtain ⟨v10, e_v10, hf⟩ := hf
    refine sx_get hm dX11_applyLocal_65 rs_RX11_44 (xgr_el e_v10) ?_
    clear e_v10
    refine mx_S.pu (pc2 := 69) (lv2 := [(0, .ref l0), (1, .int l1), (2, .int l2)]) (st2 := [.int l2, .ref v10]) hm dX11_applyLocal_68 rfl ?_
    replace hf := mx_sv_el hf; obtain ⟨v11, e_v11, hf⟩ := hf
    refine sx_ald hm dX11_applyLocal_69 e_v11 ?_
    clear e_v11
    replace hf := mx_sv_el hf; obtain ⟨u12, e_u12, hf⟩ := hf
    refine sx_cs hm dX11_applyLocal_70 rs_RX11_316 mt_X4_isReference [.int v11] [] rfl rfl (Nat.le_of_ble_eq_true rfl) (Nat.le_of_ble_eq_true rfl) (by omega) (by omega) (f_X4_isReference_ok X (by omega) (by omega) nn v11 h e_u12) ?_
    clear e_u12
    show mx_S X F L 353 73 [(0, .ref l0), (1, .int l1), (2, .int l2)] [.int u12.1] u12.2 0 0 (none, r, 0, 0)
    refine mx_S.ext [(0, .ref l0), (2, .int l2)] (mx_sub_pos [0, 2] rfl (show ([0, 1, 2] : List Nat).Nodup by decide)) ?_
    exact j_X11_applyLocal_73_ok X hF hL nn l0 l2 u12.1 u12.2 hf
  · refine sb_ic_ne hm dX11_applyLocal_41 (tgt := 64) rfl (fun z => absurd z c16) (fun _ => ?_)
    refine mx_S.pu (pc2 := 45) (lv2 := [(0, .ref l0), (1, .int l1), (2, .int l2)]) (st2 := [.ref l0]) hm dX11_applyLocal_44 rfl ?_
    replace hf := mx_sv_el hf; obtain ⟨v13, e_v13, hf⟩ := hf
    refine sx_get hm dX11_applyLocal_45 rs_RX11_44 (xgr_el e_v13) ?_
    clear e_v13
    refine mx_S.pu (pc2 := 49) (lv2 := [(0, .ref l0), (1, .int l1), (2, .int l2)]) (st2 := [.int l2, .ref v13]) hm dX11_applyLocal_48 rfl ?_
    replace hf := mx_sv_el hf; obtain ⟨v14, e_v14, hf⟩ := hf
    refine sx_ald hm dX11_applyLocal_49 e_v14 ?_
    clear e_v14
    refine sx_si (v := 301) hm dX11_applyLocal_50 (by decide) ?_
    rcases mx_if_el hf with ⟨c15, hf⟩ | ⟨c15, hf⟩
    · refine sb_ic_ne hm dX11_applyLocal_53 (tgt := 60) rfl (fun _ => ?_) (fun z => absurd c15 z)
      refine sx_ic (v := 0) hm dX11_applyLocal_60 (by decide) ?_
      refine mx_S.pu (pc2 := 73) (lv2 := [(0, .ref l0), (1, .int l1), (2, .int l2)]) (st2 := [.int 0]) hm dX11_applyLocal_61 rfl ?_
      refine mx_S.ext [(0, .ref l0), (2, .int l2)] (mx_sub_pos [0, 2] rfl (show ([0, 1, 2] : List Nat).Nodup by decide)) ?_
      exact j_X11_applyLocal_73_ok X hF hL nn l0 l2 0 h hf
    · refine sb_ic_ne hm dX11_applyLocal_53 (tgt := 60) rfl (fun z => absurd z c15) (fun _ => ?_)
      refine sx_ic (v := 1) hm dX11_applyLocal_56 (by decide) ?_
      refine mx_S.pu (pc2 := 73) (lv2 := [(0, .ref l0), (1, .int l1), (2, .int l2)]) (st2 := [.int 1]) hm dX11_applyLocal_57 rfl ?_
      refine mx_S.ext [(0, .ref l0), (2, .int l2)] (mx_sub_pos [0, 2] rfl (show ([0, 1, 2] : List Nat).Nodup by decide)) ?_
      exact j_X11_applyLocal_73_ok X hF hL nn l0 l2 1 h hf
set_option maxHeartbeats 4000000 in
set_option maxRecDepth 20000 in
theorem j_X11_applyLocal_18_ok (X : Nat × (Nat → Int32)) {F L : Nat} (hF : 2 ≤ F) (hL : 45 ≤ L) (nn : Nat) (l0 : Nat) (h : mx_H) {r : mx_H} (hf : j_X11_applyLocal_18 nn l0 h = some r) : mx_S X F L 353 18 [(0, .ref l0)] [] h 0 0 (none, r, 0, 0) := by
  have hm : mx_mt 353 = some (yX11_applyLocal, cX11_applyLocal, 4, none) := mt_X11_applyLocal
  unfold j_X11_applyLocal_18 at hf
  refine mx_S.pu (pc2 := 19) (lv2 := [(0, .ref l0)]) (st2 := [.ref l0]) hm dX11_applyLocal_18 rfl ?_
  refine sx_ic (v := 0) hm dX11_applyLocal_19 (by decide) ?_
  replace hf := mx_sv_el hf; obtain ⟨h17, e_h17, hf⟩ := hf
  refine sx_put hm dX11_applyLocal_20 rs_RX11_295 ft_11_19 ⟨by decide, by decide⟩ (fun z => by cases z) e_h17 ?_
  clear e_h17
  refine mx_S.pu (pc2 := 142) (lv2 := [(0, .ref l0)]) (st2 := []) hm dX11_applyLocal_23 rfl ?_
  cases hf
  exact sx_ret hm dX11_applyLocal_142 rfl
set_option maxHeartbeats 4000000 in
set_option maxRecDepth 20000 in
theorem f_X11_applyLocal_ok (X : Nat × (Nat → Int32)) {F L : Nat} (hF : 2 ≤ F) (hL : 45 ≤ L) (nn : Nat) (a0 : Nat) (a1 : Int32) (a2 : Int32) (h : mx_H) {r : mx_H} (hf : f_X11_applyLocal nn a0 a1 a2 h = some r) : mx_R X F L 353 [.ref a0, .int a1, .int a2] h (none, r, 0, 0) := by
  have hm : mx_mt 353 = some (yX11_applyLocal, cX11_applyLocal, 4, none) := mt_X11_applyLocal
  show mx_S X F L 353 0 [(0, .ref a0), (1, .int a1), (2, .int a2)] [] h 0 0 (none, r, 0, 0)
  unfold f_X11_applyLocal at hf
  refine mx_S.pu (pc2 := 1) (lv2 := [(0, .ref a0), (1, .int a1), (2, .int a2)]) (st2 := [.int a2]) hm dX11_applyLocal_0 rfl ?_
  refine mx_S.pu (pc2 := 2) (lv2 := [(0, .ref a0), (1, .int a1), (2, .int a2)]) (st2 := [.ref a0, .int a2]) hm dX11_applyLocal_1 rfl ?_
  refine sx_ic (v := 4) hm dX11_applyLocal_2 (by decide) ?_
  replace hf := mx_gd_el hf; obtain ⟨c18, hf⟩ := hf
  replace hf := mx_sv_el hf; obtain ⟨u19, e_u19, hf⟩ := hf
  refine sx_cv hm dX11_applyLocal_3 rs_RX11_189 mt_X11_info [.int 4] [.int a2] (b := a0) (ci := 11) rfl rfl rfl c18 (Nat.le_of_ble_eq_true rfl) (Nat.le_of_ble_eq_true rfl) (by omega) (by omega) (f_X11_info_ok X (by omega) (by omega) nn a0 4 h e_u19) ?_
  clear e_u19
  show mx_S X F L 353 6 [(0, .ref a0), (1, .int a1), (2, .int a2)] [.int u19.1, .int a2] u19.2 0 0 (none, r, 0, 0)
  rcases mx_if_el hf with ⟨c34, hf⟩ | ⟨c34, hf⟩
  · refine sb_ic_ge hm dX11_applyLocal_6 (tgt := 18) rfl (fun _ => ?_) (fun z => absurd c34 z)
    refine mx_S.ext [(0, .ref a0)] (mx_sub_pos [0] rfl (show ([0, 1, 2] : List Nat).Nodup by decide)) ?_
    exact j_X11_applyLocal_18_ok X hF hL nn a0 u19.2 hf
  · refine sb_ic_ge hm dX11_applyLocal_6 (tgt := 18) rfl (fun z => absurd z c34) (fun _ => ?_)
    refine mx_S.pu (pc2 := 10) (lv2 := [(0, .ref a0), (1, .int a1), (2, .int a2)]) (st2 := [.int a2]) hm dX11_applyLocal_9 rfl ?_
    refine mx_S.pu (pc2 := 11) (lv2 := [(0, .ref a0), (1, .int a1), (2, .int a2)]) (st2 := [.ref a0, .int a2]) hm dX11_applyLocal_10 rfl ?_
    replace hf := mx_sv_el hf; obtain ⟨v20, e_v20, hf⟩ := hf
    refine sx_get hm dX11_applyLocal_11 rs_RX11_44 (xgr_el e_v20) ?_
    clear e_v20
    replace hf := mx_sv_el hf; obtain ⟨v21, e_v21, hf⟩ := hf
    refine sx_len hm dX11_applyLocal_14 e_v21 ?_
    clear e_v21
    rcases mx_if_el hf with ⟨c33, hf⟩ | ⟨c33, hf⟩
    · refine sb_ic_lt hm dX11_applyLocal_15 (tgt := 26) rfl (fun _ => ?_) (fun z => absurd c33 z)
      refine mx_S.pu (pc2 := 27) (lv2 := [(0, .ref a0), (1, .int a1), (2, .int a2)]) (st2 := [.int a1]) hm dX11_applyLocal_26 rfl ?_
      refine sx_bi (v := 21) hm dX11_applyLocal_27 (by decide) ?_
      rcases mx_if_el hf with ⟨c32, hf⟩ | ⟨c32, hf⟩
      · refine sb_ic_eq hm dX11_applyLocal_29 (tgt := 38) rfl (fun _ => ?_) (fun z => absurd c32 z)
        exact j_X11_applyLocal_38_ok X hF hL nn a0 a1 a2 u19.2 hf
      · refine sb_ic_eq hm dX11_applyLocal_29 (tgt := 38) rfl (fun z => absurd z c32) (fun _ => ?_)
        refine mx_S.pu (pc2 := 33) (lv2 := [(0, .ref a0), (1, .int a1), (2, .int a2)]) (st2 := [.int a1]) hm dX11_applyLocal_32 rfl ?_
        refine sx_bi (v := 25) hm dX11_applyLocal_33 (by decide) ?_
        rcases mx_if_el hf with ⟨c31, hf⟩ | ⟨c31, hf⟩
        · refine sb_ic_ne hm dX11_applyLocal_35 (tgt := 107) rfl (fun _ => ?_) (fun z => absurd c31 z)
          refine mx_S.pu (pc2 := 108) (lv2 := [(0, .ref a0), (1, .int a1), (2, .int a2)]) (st2 := [.int a1]) hm dX11_applyLocal_107 rfl ?_
          refine sx_bi (v := 54) hm dX11_applyLocal_108 (by decide) ?_
          rcases mx_if_el hf with ⟨c30, hf⟩ | ⟨c30, hf⟩
          · refine sb_ic_ne hm dX11_applyLocal_110 (tgt := 132) rfl (fun _ => ?_) (fun z => absurd c30 z)
            refine mx_S.pu (pc2 := 133) (lv2 := [(0, .ref a0), (1, .int a1), (2, .int a2)]) (st2 := [.ref a0]) hm dX11_applyLocal_132 rfl ?_
            replace hf := mx_sv_el hf; obtain ⟨v22, e_v22, hf⟩ := hf
            refine sx_get hm dX11_applyLocal_133 rs_RX11_44 (xgr_el e_v22) ?_
            clear e_v22
            refine mx_S.pu (pc2 := 137) (lv2 := [(0, .ref a0), (1, .int a1), (2, .int a2)]) (st2 := [.int a2, .ref v22]) hm dX11_applyLocal_136 rfl ?_
            refine mx_S.pu (pc2 := 138) (lv2 := [(0, .ref a0), (1, .int a1), (2, .int a2)]) (st2 := [.ref a0, .int a2, .ref v22]) hm dX11_applyLocal_137 rfl ?_
            replace hf := mx_gd_el hf; obtain ⟨c23, hf⟩ := hf
            replace hf := mx_sv_el hf; obtain ⟨u24, e_u24, hf⟩ := hf
            refine sx_cv hm dX11_applyLocal_138 rs_RX11_346 mt_X11_wantReference [] [.int a2, .ref v22] (b := a0) (ci := 11) rfl rfl rfl c23 (Nat.le_of_ble_eq_true rfl) (Nat.le_of_ble_eq_true rfl) (by omega) (by omega) (f_X11_wantReference_ok X (by omega) (by omega) nn a0 u19.2 e_u24) ?_
            clear e_u24
            show mx_S X F L 353 141 [(0, .ref a0), (1, .int a1), (2, .int a2)] [.int u24.1, .int a2, .ref v22] u24.2 0 0 (none, r, 0, 0)
            replace hf := mx_sv_el hf; obtain ⟨h25, e_h25, hf⟩ := hf
            refine sx_ast hm dX11_applyLocal_141 e_h25 ?_
            clear e_h25
            cases hf
            exact sx_ret hm dX11_applyLocal_142 rfl
          · refine sb_ic_ne hm dX11_applyLocal_110 (tgt := 132) rfl (fun z => absurd z c30) (fun _ => ?_)
            refine mx_S.pu (pc2 := 114) (lv2 := [(0, .ref a0), (1, .int a1), (2, .int a2)]) (st2 := [.ref a0]) hm dX11_applyLocal_113 rfl ?_
            refine sx_si (v := 301) hm dX11_applyLocal_114 (by decide) ?_
            replace hf := mx_gd_el hf; obtain ⟨c26, hf⟩ := hf
            replace hf := mx_sv_el hf; obtain ⟨u27, e_u27, hf⟩ := hf
            refine sx_cv hm dX11_applyLocal_117 rs_RX11_325 mt_X11_want [.int 301] [] (b := a0) (ci := 11) rfl rfl rfl c26 (Nat.le_of_ble_eq_true rfl) (Nat.le_of_ble_eq_true rfl) (by omega) (by omega) (f_X11_want_ok X (by omega) (by omega) nn a0 301 u19.2 e_u27) ?_
            clear e_u27
            show mx_S X F L 353 120 [(0, .ref a0), (1, .int a1), (2, .int a2)] [] u27 0 0 (none, r, 0, 0)
            refine mx_S.pu (pc2 := 121) (lv2 := [(0, .ref a0), (1, .int a1), (2, .int a2)]) (st2 := [.ref a0]) hm dX11_applyLocal_120 rfl ?_
            replace hf := mx_sv_el hf; obtain ⟨v28, e_v28, hf⟩ := hf
            refine sx_get hm dX11_applyLocal_121 rs_RX11_44 (xgr_el e_v28) ?_
            clear e_v28
            refine mx_S.pu (pc2 := 125) (lv2 := [(0, .ref a0), (1, .int a1), (2, .int a2)]) (st2 := [.int a2, .ref v28]) hm dX11_applyLocal_124 rfl ?_
            refine sx_si (v := 301) hm dX11_applyLocal_125 (by decide) ?_
            replace hf := mx_sv_el hf; obtain ⟨h29, e_h29, hf⟩ := hf
            refine sx_ast hm dX11_applyLocal_128 e_h29 ?_
            clear e_h29
            refine mx_S.pu (pc2 := 142) (lv2 := [(0, .ref a0), (1, .int a1), (2, .int a2)]) (st2 := []) hm dX11_applyLocal_129 rfl ?_
            cases hf
            exact sx_ret hm dX11_applyLocal_142 rfl
        · refine sb_ic_ne hm dX11_applyLocal_35 (tgt := 107) rfl (fun z => absurd z c31) (fun _ => ?_)
          exact j_X11_applyLocal_38_ok X hF hL nn a0 a1 a2 u19.2 hf
    · refine sb_ic_lt hm dX11_applyLocal_15 (tgt := 26) rfl (fun z => absurd z c33) (fun _ => ?_)
      refine mx_S.ext [(0, .ref a0)] (mx_sub_pos [0] rfl (show ([0, 1, 2] : List Nat).Nodup by decide)) ?_
      exact j_X11_applyLocal_18_ok X hF hL nn a0 u19.2 hf
set_option maxHeartbeats 4000000 in
set_option maxRecDepth 20000 in
theorem j_X11_applyMember_131_ok (X : Nat × (Nat → Int32)) {F L : Nat} (hF : 2 ≤ F) (hL : 45 ≤ L) (nn : Nat) (l0 : Nat) (l4 : Int32) (h : mx_H) {r : mx_H} (hf : j_X11_applyMember_131 nn l0 l4 h = some r) : mx_S X F L 357 131 [(0, .ref l0), (4, .int l4)] [] h 0 0 (none, r, 0, 0) := by
  have hm : mx_mt 357 = some (yX11_applyMember, cX11_applyMember, 6, none) := mt_X11_applyMember
  unfold j_X11_applyMember_131 at hf
  refine mx_S.pu (pc2 := 132) (lv2 := [(0, .ref l0), (4, .int l4)]) (st2 := [.ref l0]) hm dX11_applyMember_131 rfl ?_
  replace hf := mx_sv_el hf; obtain ⟨v1, e_v1, hf⟩ := hf
  refine sx_get hm dX11_applyMember_132 rs_RX11_33 (xgr_el e_v1) ?_
  clear e_v1
  refine mx_S.pu (pc2 := 137) (lv2 := [(0, .ref l0), (4, .int l4)]) (st2 := [.int l4, .ref v1]) hm dX11_applyMember_135 rfl ?_
  replace hf := mx_sv_el hf; obtain ⟨v2, e_v2, hf⟩ := hf
  refine sx_ald hm dX11_applyMember_137 e_v2 ?_
  clear e_v2
  refine sx_si (v := 303) hm dX11_applyMember_138 (by decide) ?_
  rcases mx_if_el hf with ⟨c7, hf⟩ | ⟨c7, hf⟩
  · refine sb_ic_eq hm dX11_applyMember_141 (tgt := 155) rfl (fun _ => ?_) (fun z => absurd c7 z)
    cases hf
    exact sx_ret hm dX11_applyMember_155 rfl
  · refine sb_ic_eq hm dX11_applyMember_141 (tgt := 155) rfl (fun z => absurd z c7) (fun _ => ?_)
    refine mx_S.pu (pc2 := 145) (lv2 := [(0, .ref l0), (4, .int l4)]) (st2 := [.ref l0]) hm dX11_applyMember_144 rfl ?_
    refine mx_S.pu (pc2 := 146) (lv2 := [(0, .ref l0), (4, .int l4)]) (st2 := [.ref l0, .ref l0]) hm dX11_applyMember_145 rfl ?_
    replace hf := mx_sv_el hf; obtain ⟨v3, e_v3, hf⟩ := hf
    refine sx_get hm dX11_applyMember_146 rs_RX11_33 (xgr_el e_v3) ?_
    clear e_v3
    refine mx_S.pu (pc2 := 151) (lv2 := [(0, .ref l0), (4, .int l4)]) (st2 := [.int l4, .ref v3, .ref l0]) hm dX11_applyMember_149 rfl ?_
    replace hf := mx_sv_el hf; obtain ⟨v4, e_v4, hf⟩ := hf
    refine sx_ald hm dX11_applyMember_151 e_v4 ?_
    clear e_v4
    replace hf := mx_gd_el hf; obtain ⟨c5, hf⟩ := hf
    replace hf := mx_sv_el hf; obtain ⟨u6, e_u6, hf⟩ := hf
    refine sx_cv hm dX11_applyMember_152 rs_RX11_322 mt_X11_push [.int v4] [] (b := l0) (ci := 11) rfl rfl rfl c5 (Nat.le_of_ble_eq_true rfl) (Nat.le_of_ble_eq_true rfl) (by omega) (by omega) (f_X11_push_ok X (by omega) (by omega) nn l0 v4 h e_u6) ?_
    clear e_u6
    show mx_S X F L 357 155 [(0, .ref l0), (4, .int l4)] [] u6 0 0 (none, r, 0, 0)
    cases hf
    exact sx_ret hm dX11_applyMember_155 rfl
set_option maxHeartbeats 4000000 in
set_option maxRecDepth 20000 in
theorem w_X11_applyMember_94_ok (X : Nat × (Nat → Int32)) {F L : Nat} (hF : 2 ≤ F) (hL : 45 ≤ L) (nn : Nat) : ∀ (k : Nat) (l0 : Nat) (l1 : Int32) (l3 : Int32) (l4 : Int32) (l5 : Int32) (h : mx_H) (r : mx_H), w_X11_applyMember_94 nn k l0 l1 l3 l4 l5 h = some r → mx_S X F L 357 94 [(0, .ref l0), (1, .int l1), (3, .int l3), (4, .int l4), (5, .int l5)] [] h 0 0 (none, r, 0, 0) := by
  have hm : mx_mt 357 = some (yX11_applyMember, cX11_applyMember, 6, none) := mt_X11_applyMember
  intro k
  induction k with
  | zero => intro l0 l1 l3 l4 l5 h r hf; cases hf
  | succ k ih =>
    intro l0 l1 l3 l4 l5 h r hf
    unfold w_X11_applyMember_94 at hf
    refine mx_S.pu (pc2 := 96) (lv2 := [(0, .ref l0), (1, .int l1), (3, .int l3), (4, .int l4), (5, .int l5)]) (st2 := [.int l5]) hm dX11_applyMember_94 rfl ?_
    rcases mx_if_el hf with ⟨c17, hf⟩ | ⟨c17, hf⟩
    · refine sb_if_le hm dX11_applyMember_96 (tgt := 119) rfl (fun _ => ?_) (fun z => absurd c17 z)
      refine mx_S.pu (pc2 := 120) (lv2 := [(0, .ref l0), (1, .int l1), (3, .int l3), (4, .int l4), (5, .int l5)]) (st2 := [.int l1]) hm dX11_applyMember_119 rfl ?_
      refine sx_si (v := 182) hm dX11_applyMember_120 (by decide) ?_
      rcases mx_if_el hf with ⟨c10, hf⟩ | ⟨c10, hf⟩
      · refine sb_ic_ne hm dX11_applyMember_123 (tgt := 131) rfl (fun _ => ?_) (fun z => absurd c10 z)
        refine mx_S.ext [(0, .ref l0), (4, .int l4)] (mx_sub_pos [0, 3] rfl (show ([0, 1, 3, 4, 5] : List Nat).Nodup by decide)) ?_
        exact j_X11_applyMember_131_ok X hF hL nn l0 l4 h hf
      · refine sb_ic_ne hm dX11_applyMember_123 (tgt := 131) rfl (fun z => absurd z c10) (fun _ => ?_)
        refine mx_S.pu (pc2 := 127) (lv2 := [(0, .ref l0), (1, .int l1), (3, .int l3), (4, .int l4), (5, .int l5)]) (st2 := [.ref l0]) hm dX11_applyMember_126 rfl ?_
        refine mx_S.pu (pc2 := 128) (lv2 := [(0, .ref l0), (1, .int l1), (3, .int l3), (4, .int l4), (5, .int l5)]) (st2 := [.int l3, .ref l0]) hm dX11_applyMember_127 rfl ?_
        replace hf := mx_gd_el hf; obtain ⟨c8, hf⟩ := hf
        replace hf := mx_sv_el hf; obtain ⟨u9, e_u9, hf⟩ := hf
        refine sx_cv hm dX11_applyMember_128 rs_RX11_325 mt_X11_want [.int l3] [] (b := l0) (ci := 11) rfl rfl rfl c8 (Nat.le_of_ble_eq_true rfl) (Nat.le_of_ble_eq_true rfl) (by omega) (by omega) (f_X11_want_ok X (by omega) (by omega) nn l0 l3 h e_u9) ?_
        clear e_u9
        show mx_S X F L 357 131 [(0, .ref l0), (1, .int l1), (3, .int l3), (4, .int l4), (5, .int l5)] [] u9 0 0 (none, r, 0, 0)
        refine mx_S.ext [(0, .ref l0), (4, .int l4)] (mx_sub_pos [0, 3] rfl (show ([0, 1, 3, 4, 5] : List Nat).Nodup by decide)) ?_
        exact j_X11_applyMember_131_ok X hF hL nn l0 l4 u9 hf
    · refine sb_if_le hm dX11_applyMember_96 (tgt := 119) rfl (fun z => absurd z c17) (fun _ => ?_)
      refine mx_S.pu (pc2 := 100) (lv2 := [(0, .ref l0), (1, .int l1), (3, .int l3), (4, .int l4), (5, .int l5)]) (st2 := [.ref l0]) hm dX11_applyMember_99 rfl ?_
      refine mx_S.pu (pc2 := 101) (lv2 := [(0, .ref l0), (1, .int l1), (3, .int l3), (4, .int l4), (5, .int l5)]) (st2 := [.ref l0, .ref l0]) hm dX11_applyMember_100 rfl ?_
      replace hf := mx_sv_el hf; obtain ⟨v11, e_v11, hf⟩ := hf
      refine sx_get hm dX11_applyMember_101 rs_RX11_33 (xgr_el e_v11) ?_
      clear e_v11
      refine mx_S.pu (pc2 := 106) (lv2 := [(0, .ref l0), (1, .int l1), (3, .int l3), (4, .int l4), (5, .int l5)]) (st2 := [.int l4, .ref v11, .ref l0]) hm dX11_applyMember_104 rfl ?_
      refine mx_S.pu (pc2 := 108) (lv2 := [(0, .ref l0), (1, .int l1), (3, .int l3), (4, .int l4), (5, .int l5)]) (st2 := [.int l5, .int l4, .ref v11, .ref l0]) hm dX11_applyMember_106 rfl ?_
      replace hf := xl_el hf; obtain ⟨v12, e_v12, hf⟩ := hf
      refine mx_S.pu (pc2 := 109) (lv2 := [(0, .ref l0), (1, .int l1), (3, .int l3), (4, .int l4), (5, .int l5)]) (st2 := [.int v12, .ref v11, .ref l0]) hm dX11_applyMember_108 (by rw [← e_v12]; rfl) ?_
      clear e_v12
      replace hf := mx_sv_el hf; obtain ⟨v13, e_v13, hf⟩ := hf
      refine sx_ald hm dX11_applyMember_109 e_v13 ?_
      clear e_v13
      replace hf := mx_gd_el hf; obtain ⟨c14, hf⟩ := hf
      replace hf := mx_sv_el hf; obtain ⟨u15, e_u15, hf⟩ := hf
      refine sx_cv hm dX11_applyMember_110 rs_RX11_325 mt_X11_want [.int v13] [] (b := l0) (ci := 11) rfl rfl rfl c14 (Nat.le_of_ble_eq_true rfl) (Nat.le_of_ble_eq_true rfl) (by omega) (by omega) (f_X11_want_ok X (by omega) (by omega) nn l0 v13 h e_u15) ?_
      clear e_u15
      show mx_S X F L 357 113 [(0, .ref l0), (1, .int l1), (3, .int l3), (4, .int l4), (5, .int l5)] [] u15 0 0 (none, r, 0, 0)
      replace hf := xl_el hf; obtain ⟨v16, e_v16, hf⟩ := hf
      refine mx_S.pu (pc2 := 116) (lv2 := [(5, .int v16), (0, .ref l0), (1, .int l1), (3, .int l3), (4, .int l4)]) (st2 := []) hm dX11_applyMember_113 (by rw [← e_v16]; rfl) ?_
      clear e_v16
      refine mx_S.pu (pc2 := 94) (lv2 := [(5, .int v16), (0, .ref l0), (1, .int l1), (3, .int l3), (4, .int l4)]) (st2 := []) hm dX11_applyMember_116 rfl ?_
      refine mx_S.ext [(0, .ref l0), (1, .int l1), (3, .int l3), (4, .int l4), (5, .int v16)] (mx_sub_pos [1, 2, 3, 4, 0] rfl (show ([5, 0, 1, 3, 4] : List Nat).Nodup by decide)) ?_
      exact ih l0 l1 l3 l4 v16 u15 _ hf
set_option maxHeartbeats 4000000 in
set_option maxRecDepth 20000 in
theorem f_X11_applyMember_ok (X : Nat × (Nat → Int32)) {F L : Nat} (hF : 2 ≤ F) (hL : 45 ≤ L) (nn : Nat) (a0 : Nat) (a1 : Int32) (a2 : Int32) (h : mx_H) {r : mx_H} (hf : f_X11_applyMember nn a0 a1 a2 h = some r) : mx_R X F L 357 [.ref a0, .int a1, .int a2] h (none, r, 0, 0) := by
  have hm : mx_mt 357 = some (yX11_applyMember, cX11_applyMember, 6, none) := mt_X11_applyMember
  show mx_S X F L 357 0 [(0, .ref a0), (1, .int a1), (2, .int a2)] [] h 0 0 (none, r, 0, 0)
  unfold f_X11_applyMember at hf
  refine mx_S.pu (pc2 := 1) (lv2 := [(0, .ref a0), (1, .int a1), (2, .int a2)]) (st2 := [.ref a0]) hm dX11_applyMember_0 rfl ?_
  replace hf := mx_sv_el hf; obtain ⟨v18, e_v18, hf⟩ := hf
  refine sx_get hm dX11_applyMember_1 rs_RX11_23 (xgr_el e_v18) ?_
  clear e_v18
  refine mx_S.pu (pc2 := 5) (lv2 := [(0, .ref a0), (1, .int a1), (2, .int a2)]) (st2 := [.ref a0, .ref v18]) hm dX11_applyMember_4 rfl ?_
  replace hf := mx_sv_el hf; obtain ⟨v19, e_v19, hf⟩ := hf
  refine sx_get hm dX11_applyMember_5 rs_RX11_62 (xgr_el e_v19) ?_
  clear e_v19
  refine mx_S.pu (pc2 := 9) (lv2 := [(0, .ref a0), (1, .int a1), (2, .int a2)]) (st2 := [.int a2, .ref v19, .ref v18]) hm dX11_applyMember_8 rfl ?_
  refine sx_ic (v := 0) hm dX11_applyMember_9 (by decide) ?_
  replace hf := mx_gd_el hf; obtain ⟨c20, hf⟩ := hf
  replace hf := mx_sv_el hf; obtain ⟨u21, e_u21, hf⟩ := hf
  refine sx_cv hm dX11_applyMember_10 rs_RX11_177 mt_X3_partOf [.int a2, .int 0] [.ref v18] (b := v19) (ci := 3) rfl rfl rfl c20 (Nat.le_of_ble_eq_true rfl) (Nat.le_of_ble_eq_true rfl) (by omega) (by omega) (f_X3_partOf_ok X (by omega) (by omega) nn v19 a2 0 h e_u21) ?_
  clear e_u21
  show mx_S X F L 357 13 [(0, .ref a0), (1, .int a1), (2, .int a2)] [.int u21.1, .ref v18] u21.2 0 0 (none, r, 0, 0)
  replace hf := mx_sv_el hf; obtain ⟨v22, e_v22, hf⟩ := hf
  refine sx_ald hm dX11_applyMember_13 e_v22 ?_
  clear e_v22
  refine mx_S.pu (pc2 := 15) (lv2 := [(3, .int v22), (0, .ref a0), (1, .int a1), (2, .int a2)]) (st2 := []) hm dX11_applyMember_14 rfl ?_
  refine mx_S.pu (pc2 := 16) (lv2 := [(3, .int v22), (0, .ref a0), (1, .int a1), (2, .int a2)]) (st2 := [.int a2]) hm dX11_applyMember_15 rfl ?_
  refine sx_bi (v := 7) hm dX11_applyMember_16 (by decide) ?_
  replace hf := xl_el hf; obtain ⟨v23, e_v23, hf⟩ := hf
  refine mx_S.pu (pc2 := 19) (lv2 := [(3, .int v22), (0, .ref a0), (1, .int a1), (2, .int a2)]) (st2 := [.int v23]) hm dX11_applyMember_18 (by rw [← e_v23]; rfl) ?_
  clear e_v23
  refine mx_S.pu (pc2 := 21) (lv2 := [(4, .int v23), (3, .int v22), (0, .ref a0), (1, .int a1), (2, .int a2)]) (st2 := []) hm dX11_applyMember_19 rfl ?_
  refine mx_S.pu (pc2 := 22) (lv2 := [(4, .int v23), (3, .int v22), (0, .ref a0), (1, .int a1), (2, .int a2)]) (st2 := [.int a1]) hm dX11_applyMember_21 rfl ?_
  rcases mx_if_el hf with ⟨n_0, hf⟩ | ⟨n_0, hf⟩
  · refine sx_look hm dX11_applyMember_22 rfl (off := 26) (by rw [n_0]; rfl) (tgt := 48) rfl ?_
    clear n_0
    refine mx_S.pu (pc2 := 49) (lv2 := [(4, .int v23), (3, .int v22), (0, .ref a0), (1, .int a1), (2, .int a2)]) (st2 := [.ref a0]) hm dX11_applyMember_48 rfl ?_
    refine mx_S.pu (pc2 := 50) (lv2 := [(4, .int v23), (3, .int v22), (0, .ref a0), (1, .int a1), (2, .int a2)]) (st2 := [.int v22, .ref a0]) hm dX11_applyMember_49 rfl ?_
    replace hf := mx_gd_el hf; obtain ⟨c26, hf⟩ := hf
    replace hf := mx_sv_el hf; obtain ⟨u27, e_u27, hf⟩ := hf
    refine sx_cv hm dX11_applyMember_50 rs_RX11_325 mt_X11_want [.int v22] [] (b := a0) (ci := 11) rfl rfl rfl c26 (Nat.le_of_ble_eq_true rfl) (Nat.le_of_ble_eq_true rfl) (by omega) (by omega) (f_X11_want_ok X (by omega) (by omega) nn a0 v22 u21.2 e_u27) ?_
    clear e_u27
    show mx_S X F L 357 53 [(4, .int v23), (3, .int v22), (0, .ref a0), (1, .int a1), (2, .int a2)] [] u27 0 0 (none, r, 0, 0)
    refine mx_S.pu (pc2 := 54) (lv2 := [(4, .int v23), (3, .int v22), (0, .ref a0), (1, .int a1), (2, .int a2)]) (st2 := [.ref a0]) hm dX11_applyMember_53 rfl ?_
    refine mx_S.pu (pc2 := 55) (lv2 := [(4, .int v23), (3, .int v22), (0, .ref a0), (1, .int a1), (2, .int a2)]) (st2 := [.ref a0, .ref a0]) hm dX11_applyMember_54 rfl ?_
    replace hf := mx_sv_el hf; obtain ⟨v28, e_v28, hf⟩ := hf
    refine sx_get hm dX11_applyMember_55 rs_RX11_33 (xgr_el e_v28) ?_
    clear e_v28
    refine mx_S.pu (pc2 := 60) (lv2 := [(4, .int v23), (3, .int v22), (0, .ref a0), (1, .int a1), (2, .int a2)]) (st2 := [.int v23, .ref v28, .ref a0]) hm dX11_applyMember_58 rfl ?_
    replace hf := mx_sv_el hf; obtain ⟨v29, e_v29, hf⟩ := hf
    refine sx_ald hm dX11_applyMember_60 e_v29 ?_
    clear e_v29
    replace hf := mx_gd_el hf; obtain ⟨c30, hf⟩ := hf
    replace hf := mx_sv_el hf; obtain ⟨u31, e_u31, hf⟩ := hf
    refine sx_cv hm dX11_applyMember_61 rs_RX11_322 mt_X11_push [.int v29] [] (b := a0) (ci := 11) rfl rfl rfl c30 (Nat.le_of_ble_eq_true rfl) (Nat.le_of_ble_eq_true rfl) (by omega) (by omega) (f_X11_push_ok X (by omega) (by omega) nn a0 v29 u27 e_u31) ?_
    clear e_u31
    show mx_S X F L 357 64 [(4, .int v23), (3, .int v22), (0, .ref a0), (1, .int a1), (2, .int a2)] [] u31 0 0 (none, r, 0, 0)
    refine mx_S.pu (pc2 := 155) (lv2 := [(4, .int v23), (3, .int v22), (0, .ref a0), (1, .int a1), (2, .int a2)]) (st2 := []) hm dX11_applyMember_64 rfl ?_
    cases hf
    exact sx_ret hm dX11_applyMember_155 rfl
  · rcases mx_if_el hf with ⟨n_1, hf⟩ | ⟨n_1, hf⟩
    · refine sx_look hm dX11_applyMember_22 rfl (off := 45) (by rw [n_1]; rfl) (tgt := 67) rfl ?_
      clear n_0 n_1
      refine mx_S.pu (pc2 := 68) (lv2 := [(4, .int v23), (3, .int v22), (0, .ref a0), (1, .int a1), (2, .int a2)]) (st2 := [.ref a0]) hm dX11_applyMember_67 rfl ?_
      refine mx_S.pu (pc2 := 69) (lv2 := [(4, .int v23), (3, .int v22), (0, .ref a0), (1, .int a1), (2, .int a2)]) (st2 := [.ref a0, .ref a0]) hm dX11_applyMember_68 rfl ?_
      replace hf := mx_sv_el hf; obtain ⟨v32, e_v32, hf⟩ := hf
      refine sx_get hm dX11_applyMember_69 rs_RX11_33 (xgr_el e_v32) ?_
      clear e_v32
      refine mx_S.pu (pc2 := 74) (lv2 := [(4, .int v23), (3, .int v22), (0, .ref a0), (1, .int a1), (2, .int a2)]) (st2 := [.int v23, .ref v32, .ref a0]) hm dX11_applyMember_72 rfl ?_
      replace hf := mx_sv_el hf; obtain ⟨v33, e_v33, hf⟩ := hf
      refine sx_ald hm dX11_applyMember_74 e_v33 ?_
      clear e_v33
      replace hf := mx_gd_el hf; obtain ⟨c34, hf⟩ := hf
      replace hf := mx_sv_el hf; obtain ⟨u35, e_u35, hf⟩ := hf
      refine sx_cv hm dX11_applyMember_75 rs_RX11_325 mt_X11_want [.int v33] [] (b := a0) (ci := 11) rfl rfl rfl c34 (Nat.le_of_ble_eq_true rfl) (Nat.le_of_ble_eq_true rfl) (by omega) (by omega) (f_X11_want_ok X (by omega) (by omega) nn a0 v33 u21.2 e_u35) ?_
      clear e_u35
      show mx_S X F L 357 78 [(4, .int v23), (3, .int v22), (0, .ref a0), (1, .int a1), (2, .int a2)] [] u35 0 0 (none, r, 0, 0)
      refine mx_S.pu (pc2 := 79) (lv2 := [(4, .int v23), (3, .int v22), (0, .ref a0), (1, .int a1), (2, .int a2)]) (st2 := [.ref a0]) hm dX11_applyMember_78 rfl ?_
      refine mx_S.pu (pc2 := 80) (lv2 := [(4, .int v23), (3, .int v22), (0, .ref a0), (1, .int a1), (2, .int a2)]) (st2 := [.int v22, .ref a0]) hm dX11_applyMember_79 rfl ?_
      replace hf := mx_gd_el hf; obtain ⟨c36, hf⟩ := hf
      replace hf := mx_sv_el hf; obtain ⟨u37, e_u37, hf⟩ := hf
      refine sx_cv hm dX11_applyMember_80 rs_RX11_325 mt_X11_want [.int v22] [] (b := a0) (ci := 11) rfl rfl rfl c36 (Nat.le_of_ble_eq_true rfl) (Nat.le_of_ble_eq_true rfl) (by omega) (by omega) (f_X11_want_ok X (by omega) (by omega) nn a0 v22 u35 e_u37) ?_
      clear e_u37
      show mx_S X F L 357 83 [(4, .int v23), (3, .int v22), (0, .ref a0), (1, .int a1), (2, .int a2)] [] u37 0 0 (none, r, 0, 0)
      refine mx_S.pu (pc2 := 155) (lv2 := [(4, .int v23), (3, .int v22), (0, .ref a0), (1, .int a1), (2, .int a2)]) (st2 := []) hm dX11_applyMember_83 rfl ?_
      cases hf
      exact sx_ret hm dX11_applyMember_155 rfl
    · refine sx_look hm dX11_applyMember_22 rfl (off := 64) (by show Op.lookupswitch.offset [(180, 26), (181, 45)] 64 a1.toInt = _; rw [lv_osw n_0 (by decide), lv_osw n_1 (by decide)]; rfl) (tgt := 86) rfl ?_
      refine mx_S.pu (pc2 := 87) (lv2 := [(4, .int v23), (3, .int v22), (0, .ref a0), (1, .int a1), (2, .int a2)]) (st2 := [.ref a0]) hm dX11_applyMember_86 rfl ?_
      replace hf := mx_sv_el hf; obtain ⟨v24, e_v24, hf⟩ := hf
      refine sx_get hm dX11_applyMember_87 rs_RX11_30 (xgr_el e_v24) ?_
      clear e_v24
      refine mx_S.pu (pc2 := 91) (lv2 := [(4, .int v23), (3, .int v22), (0, .ref a0), (1, .int a1), (2, .int a2)]) (st2 := [.int a2, .ref v24]) hm dX11_applyMember_90 rfl ?_
      replace hf := mx_sv_el hf; obtain ⟨v25, e_v25, hf⟩ := hf
      refine sx_ald hm dX11_applyMember_91 e_v25 ?_
      clear e_v25
      refine mx_S.pu (pc2 := 94) (lv2 := [(5, .int v25), (4, .int v23), (3, .int v22), (0, .ref a0), (1, .int a1), (2, .int a2)]) (st2 := []) hm dX11_applyMember_92 rfl ?_
      refine mx_S.ext [(0, .ref a0), (1, .int a1), (3, .int v22), (4, .int v23), (5, .int v25)] (mx_sub_pos [3, 4, 2, 1, 0] rfl (show ([5, 4, 3, 0, 1, 2] : List Nat).Nodup by decide)) ?_
      exact w_X11_applyMember_94_ok X hF hL nn nn a0 a1 v22 v23 v25 u21.2 _ hf
set_option maxHeartbeats 4000000 in
set_option maxRecDepth 20000 in
theorem f_X11_applyObject_ok (X : Nat × (Nat → Int32)) {F L : Nat} (hF : 2 ≤ F) (hL : 45 ≤ L) (nn : Nat) (a0 : Nat) (a1 : Int32) (a2 : Int32) (h : mx_H) {r : mx_H} (hf : f_X11_applyObject nn a0 a1 a2 h = some r) : mx_R X F L 358 [.ref a0, .int a1, .int a2] h (none, r, 0, 0) := by
  have hm : mx_mt 358 = some (yX11_applyObject, cX11_applyObject, 3, none) := mt_X11_applyObject
  show mx_S X F L 358 0 [(0, .ref a0), (1, .int a1), (2, .int a2)] [] h 0 0 (none, r, 0, 0)
  unfold f_X11_applyObject at hf
  refine mx_S.pu (pc2 := 1) (lv2 := [(0, .ref a0), (1, .int a1), (2, .int a2)]) (st2 := [.int a1]) hm dX11_applyObject_0 rfl ?_
  rcases mx_if_el hf with ⟨n_0, hf⟩ | ⟨n_0, hf⟩
  · refine sx_tin hm dX11_applyObject_1 (by rw [n_0]; decide) (by rw [n_0]; decide) (off := 43) (by rw [n_0]; rfl) (tgt := 44) rfl ?_
    clear n_0
    refine mx_S.pu (pc2 := 45) (lv2 := [(0, .ref a0), (1, .int a1), (2, .int a2)]) (st2 := [.ref a0]) hm dX11_applyObject_44 rfl ?_
    refine sx_si (v := 301) hm dX11_applyObject_45 (by decide) ?_
    replace hf := mx_gd_el hf; obtain ⟨c5, hf⟩ := hf
    replace hf := mx_sv_el hf; obtain ⟨u6, e_u6, hf⟩ := hf
    refine sx_cv hm dX11_applyObject_48 rs_RX11_325 mt_X11_want [.int 301] [] (b := a0) (ci := 11) rfl rfl rfl c5 (Nat.le_of_ble_eq_true rfl) (Nat.le_of_ble_eq_true rfl) (by omega) (by omega) (f_X11_want_ok X (by omega) (by omega) nn a0 301 h e_u6) ?_
    clear e_u6
    show mx_S X F L 358 51 [(0, .ref a0), (1, .int a1), (2, .int a2)] [] u6 0 0 (none, r, 0, 0)
    refine mx_S.pu (pc2 := 162) (lv2 := [(0, .ref a0), (1, .int a1), (2, .int a2)]) (st2 := []) hm dX11_applyObject_51 rfl ?_
    cases hf
    exact sx_ret hm dX11_applyObject_162 rfl
  · rcases mx_if_el hf with ⟨n_1, hf⟩ | ⟨n_1, hf⟩
    · refine sx_tin hm dX11_applyObject_1 (by rw [n_1]; decide) (by rw [n_1]; decide) (off := 53) (by rw [n_1]; rfl) (tgt := 54) rfl ?_
      clear n_0 n_1
      refine mx_S.pu (pc2 := 55) (lv2 := [(0, .ref a0), (1, .int a1), (2, .int a2)]) (st2 := [.ref a0]) hm dX11_applyObject_54 rfl ?_
      refine mx_S.pu (pc2 := 56) (lv2 := [(0, .ref a0), (1, .int a1), (2, .int a2)]) (st2 := [.ref a0, .ref a0]) hm dX11_applyObject_55 rfl ?_
      replace hf := mx_sv_el hf; obtain ⟨v7, e_v7, hf⟩ := hf
      refine sx_get hm dX11_applyObject_56 rs_RX11_23 (xgr_el e_v7) ?_
      clear e_v7
      refine mx_S.pu (pc2 := 60) (lv2 := [(0, .ref a0), (1, .int a1), (2, .int a2)]) (st2 := [.int a2, .ref v7, .ref a0]) hm dX11_applyObject_59 rfl ?_
      replace hf := mx_sv_el hf; obtain ⟨v8, e_v8, hf⟩ := hf
      refine sx_ald hm dX11_applyObject_60 e_v8 ?_
      clear e_v8
      replace hf := mx_gd_el hf; obtain ⟨c9, hf⟩ := hf
      replace hf := mx_sv_el hf; obtain ⟨u10, e_u10, hf⟩ := hf
      refine sx_cv hm dX11_applyObject_61 rs_RX11_322 mt_X11_push [.int v8] [] (b := a0) (ci := 11) rfl rfl rfl c9 (Nat.le_of_ble_eq_true rfl) (Nat.le_of_ble_eq_true rfl) (by omega) (by omega) (f_X11_push_ok X (by omega) (by omega) nn a0 v8 h e_u10) ?_
      clear e_u10
      show mx_S X F L 358 64 [(0, .ref a0), (1, .int a1), (2, .int a2)] [] u10 0 0 (none, r, 0, 0)
      refine mx_S.pu (pc2 := 162) (lv2 := [(0, .ref a0), (1, .int a1), (2, .int a2)]) (st2 := []) hm dX11_applyObject_64 rfl ?_
      cases hf
      exact sx_ret hm dX11_applyObject_162 rfl
    · rcases mx_if_el hf with ⟨n_2, hf⟩ | ⟨n_2, hf⟩
      · refine sx_tin hm dX11_applyObject_1 (by rw [n_2]; decide) (by rw [n_2]; decide) (off := 66) (by rw [n_2]; rfl) (tgt := 67) rfl ?_
        clear n_0 n_1 n_2
        refine mx_S.pu (pc2 := 68) (lv2 := [(0, .ref a0), (1, .int a1), (2, .int a2)]) (st2 := [.ref a0]) hm dX11_applyObject_67 rfl ?_
        refine sx_si (v := 301) hm dX11_applyObject_68 (by decide) ?_
        replace hf := mx_gd_el hf; obtain ⟨c11, hf⟩ := hf
        replace hf := mx_sv_el hf; obtain ⟨u12, e_u12, hf⟩ := hf
        refine sx_cv hm dX11_applyObject_71 rs_RX11_325 mt_X11_want [.int 301] [] (b := a0) (ci := 11) rfl rfl rfl c11 (Nat.le_of_ble_eq_true rfl) (Nat.le_of_ble_eq_true rfl) (by omega) (by omega) (f_X11_want_ok X (by omega) (by omega) nn a0 301 h e_u12) ?_
        clear e_u12
        show mx_S X F L 358 74 [(0, .ref a0), (1, .int a1), (2, .int a2)] [] u12 0 0 (none, r, 0, 0)
        refine mx_S.pu (pc2 := 75) (lv2 := [(0, .ref a0), (1, .int a1), (2, .int a2)]) (st2 := [.ref a0]) hm dX11_applyObject_74 rfl ?_
        refine sx_si (v := 200) hm dX11_applyObject_75 (by decide) ?_
        replace hf := mx_gd_el hf; obtain ⟨c13, hf⟩ := hf
        replace hf := mx_sv_el hf; obtain ⟨u14, e_u14, hf⟩ := hf
        refine sx_cv hm dX11_applyObject_78 rs_RX11_322 mt_X11_push [.int 200] [] (b := a0) (ci := 11) rfl rfl rfl c13 (Nat.le_of_ble_eq_true rfl) (Nat.le_of_ble_eq_true rfl) (by omega) (by omega) (f_X11_push_ok X (by omega) (by omega) nn a0 200 u12 e_u14) ?_
        clear e_u14
        show mx_S X F L 358 81 [(0, .ref a0), (1, .int a1), (2, .int a2)] [] u14 0 0 (none, r, 0, 0)
        refine mx_S.pu (pc2 := 162) (lv2 := [(0, .ref a0), (1, .int a1), (2, .int a2)]) (st2 := []) hm dX11_applyObject_81 rfl ?_
        cases hf
        exact sx_ret hm dX11_applyObject_162 rfl
      · rcases mx_if_el hf with ⟨n_3, hf⟩ | ⟨n_3, hf⟩
        · refine sx_tin hm dX11_applyObject_1 (by rw [n_3]; decide) (by rw [n_3]; decide) (off := 83) (by rw [n_3]; rfl) (tgt := 84) rfl ?_
          clear n_0 n_1 n_2 n_3
          refine mx_S.pu (pc2 := 85) (lv2 := [(0, .ref a0), (1, .int a1), (2, .int a2)]) (st2 := [.ref a0]) hm dX11_applyObject_84 rfl ?_
          refine sx_si (v := 301) hm dX11_applyObject_85 (by decide) ?_
          replace hf := mx_gd_el hf; obtain ⟨c15, hf⟩ := hf
          replace hf := mx_sv_el hf; obtain ⟨u16, e_u16, hf⟩ := hf
          refine sx_cv hm dX11_applyObject_88 rs_RX11_325 mt_X11_want [.int 301] [] (b := a0) (ci := 11) rfl rfl rfl c15 (Nat.le_of_ble_eq_true rfl) (Nat.le_of_ble_eq_true rfl) (by omega) (by omega) (f_X11_want_ok X (by omega) (by omega) nn a0 301 h e_u16) ?_
          clear e_u16
          show mx_S X F L 358 91 [(0, .ref a0), (1, .int a1), (2, .int a2)] [] u16 0 0 (none, r, 0, 0)
          refine mx_S.pu (pc2 := 92) (lv2 := [(0, .ref a0), (1, .int a1), (2, .int a2)]) (st2 := [.ref a0]) hm dX11_applyObject_91 rfl ?_
          refine sx_bi (v := 100) hm dX11_applyObject_92 (by decide) ?_
          refine mx_S.pu (pc2 := 95) (lv2 := [(0, .ref a0), (1, .int a1), (2, .int a2)]) (st2 := [.ref a0, .int 100, .ref a0]) hm dX11_applyObject_94 rfl ?_
          replace hf := mx_sv_el hf; obtain ⟨v17, e_v17, hf⟩ := hf
          refine sx_get hm dX11_applyObject_95 rs_RX11_23 (xgr_el e_v17) ?_
          clear e_v17
          refine mx_S.pu (pc2 := 99) (lv2 := [(0, .ref a0), (1, .int a1), (2, .int a2)]) (st2 := [.int a2, .ref v17, .int 100, .ref a0]) hm dX11_applyObject_98 rfl ?_
          replace hf := mx_sv_el hf; obtain ⟨v18, e_v18, hf⟩ := hf
          refine sx_ald hm dX11_applyObject_99 e_v18 ?_
          clear e_v18
          replace hf := xl_el hf; obtain ⟨v19, e_v19, hf⟩ := hf
          refine mx_S.pu (pc2 := 101) (lv2 := [(0, .ref a0), (1, .int a1), (2, .int a2)]) (st2 := [.int v19, .ref a0]) hm dX11_applyObject_100 (by rw [← e_v19]; rfl) ?_
          clear e_v19
          replace hf := mx_gd_el hf; obtain ⟨c20, hf⟩ := hf
          replace hf := mx_sv_el hf; obtain ⟨u21, e_u21, hf⟩ := hf
          refine sx_cv hm dX11_applyObject_101 rs_RX11_322 mt_X11_push [.int v19] [] (b := a0) (ci := 11) rfl rfl rfl c20 (Nat.le_of_ble_eq_true rfl) (Nat.le_of_ble_eq_true rfl) (by omega) (by omega) (f_X11_push_ok X (by omega) (by omega) nn a0 v19 u16 e_u21) ?_
          clear e_u21
          show mx_S X F L 358 104 [(0, .ref a0), (1, .int a1), (2, .int a2)] [] u21 0 0 (none, r, 0, 0)
          refine mx_S.pu (pc2 := 162) (lv2 := [(0, .ref a0), (1, .int a1), (2, .int a2)]) (st2 := []) hm dX11_applyObject_104 rfl ?_
          cases hf
          exact sx_ret hm dX11_applyObject_162 rfl
        · rcases mx_if_el hf with ⟨n_4, hf⟩ | ⟨n_4, hf⟩
          · refine sx_tin hm dX11_applyObject_1 (by rw [n_4]; decide) (by rw [n_4]; decide) (off := 106) (by rw [n_4]; rfl) (tgt := 107) rfl ?_
            clear n_0 n_1 n_2 n_3 n_4
            refine mx_S.pu (pc2 := 108) (lv2 := [(0, .ref a0), (1, .int a1), (2, .int a2)]) (st2 := [.ref a0]) hm dX11_applyObject_107 rfl ?_
            refine sx_ic (v := 1) hm dX11_applyObject_108 (by decide) ?_
            refine sx_ic (v := 1) hm dX11_applyObject_109 (by decide) ?_
            replace hf := mx_gd_el hf; obtain ⟨c22, hf⟩ := hf
            replace hf := mx_sv_el hf; obtain ⟨u23, e_u23, hf⟩ := hf
            refine sx_cv hm dX11_applyObject_110 rs_RX11_349 mt_X11_wantArray [.int 1, .int 1] [] (b := a0) (ci := 11) rfl rfl rfl c22 (Nat.le_of_ble_eq_true rfl) (Nat.le_of_ble_eq_true rfl) (by omega) (by omega) (f_X11_wantArray_ok X (by omega) (by omega) nn a0 1 1 h e_u23) ?_
            clear e_u23
            show mx_S X F L 358 113 [(0, .ref a0), (1, .int a1), (2, .int a2)] [.int u23.1] u23.2 0 0 (none, r, 0, 0)
            refine mx_S.pu (pc2 := 114) (lv2 := [(0, .ref a0), (1, .int a1), (2, .int a2)]) (st2 := []) hm dX11_applyObject_113 rfl ?_
            refine mx_S.pu (pc2 := 115) (lv2 := [(0, .ref a0), (1, .int a1), (2, .int a2)]) (st2 := [.ref a0]) hm dX11_applyObject_114 rfl ?_
            refine sx_si (v := 301) hm dX11_applyObject_115 (by decide) ?_
            replace hf := mx_gd_el hf; obtain ⟨c24, hf⟩ := hf
            replace hf := mx_sv_el hf; obtain ⟨u25, e_u25, hf⟩ := hf
            refine sx_cv hm dX11_applyObject_118 rs_RX11_322 mt_X11_push [.int 301] [] (b := a0) (ci := 11) rfl rfl rfl c24 (Nat.le_of_ble_eq_true rfl) (Nat.le_of_ble_eq_true rfl) (by omega) (by omega) (f_X11_push_ok X (by omega) (by omega) nn a0 301 u23.2 e_u25) ?_
            clear e_u25
            show mx_S X F L 358 121 [(0, .ref a0), (1, .int a1), (2, .int a2)] [] u25 0 0 (none, r, 0, 0)
            refine mx_S.pu (pc2 := 162) (lv2 := [(0, .ref a0), (1, .int a1), (2, .int a2)]) (st2 := []) hm dX11_applyObject_121 rfl ?_
            cases hf
            exact sx_ret hm dX11_applyObject_162 rfl
          · rcases mx_if_el hf with ⟨n_5, hf⟩ | ⟨n_5, hf⟩
            · refine sx_tin hm dX11_applyObject_1 (by rw [n_5]; decide) (by rw [n_5]; decide) (off := 123) (by rw [n_5]; rfl) (tgt := 124) rfl ?_
              clear n_0 n_1 n_2 n_3 n_4 n_5
              refine mx_S.pu (pc2 := 125) (lv2 := [(0, .ref a0), (1, .int a1), (2, .int a2)]) (st2 := [.ref a0]) hm dX11_applyObject_124 rfl ?_
              refine sx_ic (v := 1) hm dX11_applyObject_125 (by decide) ?_
              replace hf := mx_gd_el hf; obtain ⟨c26, hf⟩ := hf
              replace hf := mx_sv_el hf; obtain ⟨u27, e_u27, hf⟩ := hf
              refine sx_cv hm dX11_applyObject_126 rs_RX11_325 mt_X11_want [.int 1] [] (b := a0) (ci := 11) rfl rfl rfl c26 (Nat.le_of_ble_eq_true rfl) (Nat.le_of_ble_eq_true rfl) (by omega) (by omega) (f_X11_want_ok X (by omega) (by omega) nn a0 1 h e_u27) ?_
              clear e_u27
              show mx_S X F L 358 129 [(0, .ref a0), (1, .int a1), (2, .int a2)] [] u27 0 0 (none, r, 0, 0)
              refine mx_S.pu (pc2 := 162) (lv2 := [(0, .ref a0), (1, .int a1), (2, .int a2)]) (st2 := []) hm dX11_applyObject_129 rfl ?_
              cases hf
              exact sx_ret hm dX11_applyObject_162 rfl
            · rcases mx_if_el hf with ⟨n_6, hf⟩ | ⟨n_6, hf⟩
              · refine sx_tin hm dX11_applyObject_1 (by rw [n_6]; decide) (by rw [n_6]; decide) (off := 131) (by rw [n_6]; rfl) (tgt := 132) rfl ?_
                clear n_0 n_1 n_2 n_3 n_4 n_5 n_6
                refine mx_S.pu (pc2 := 133) (lv2 := [(0, .ref a0), (1, .int a1), (2, .int a2)]) (st2 := [.ref a0]) hm dX11_applyObject_132 rfl ?_
                replace hf := mx_gd_el hf; obtain ⟨c28, hf⟩ := hf
                replace hf := mx_sv_el hf; obtain ⟨u29, e_u29, hf⟩ := hf
                refine sx_cv hm dX11_applyObject_133 rs_RX11_346 mt_X11_wantReference [] [] (b := a0) (ci := 11) rfl rfl rfl c28 (Nat.le_of_ble_eq_true rfl) (Nat.le_of_ble_eq_true rfl) (by omega) (by omega) (f_X11_wantReference_ok X (by omega) (by omega) nn a0 h e_u29) ?_
                clear e_u29
                show mx_S X F L 358 136 [(0, .ref a0), (1, .int a1), (2, .int a2)] [.int u29.1] u29.2 0 0 (none, r, 0, 0)
                refine mx_S.pu (pc2 := 137) (lv2 := [(0, .ref a0), (1, .int a1), (2, .int a2)]) (st2 := []) hm dX11_applyObject_136 rfl ?_
                refine mx_S.pu (pc2 := 138) (lv2 := [(0, .ref a0), (1, .int a1), (2, .int a2)]) (st2 := [.ref a0]) hm dX11_applyObject_137 rfl ?_
                refine mx_S.pu (pc2 := 139) (lv2 := [(0, .ref a0), (1, .int a1), (2, .int a2)]) (st2 := [.ref a0, .ref a0]) hm dX11_applyObject_138 rfl ?_
                replace hf := mx_sv_el hf; obtain ⟨v30, e_v30, hf⟩ := hf
                refine sx_get hm dX11_applyObject_139 rs_RX11_23 (xgr_el e_v30) ?_
                clear e_v30
                refine mx_S.pu (pc2 := 143) (lv2 := [(0, .ref a0), (1, .int a1), (2, .int a2)]) (st2 := [.int a2, .ref v30, .ref a0]) hm dX11_applyObject_142 rfl ?_
                replace hf := mx_sv_el hf; obtain ⟨v31, e_v31, hf⟩ := hf
                refine sx_ald hm dX11_applyObject_143 e_v31 ?_
                clear e_v31
                replace hf := mx_gd_el hf; obtain ⟨c32, hf⟩ := hf
                replace hf := mx_sv_el hf; obtain ⟨u33, e_u33, hf⟩ := hf
                refine sx_cv hm dX11_applyObject_144 rs_RX11_322 mt_X11_push [.int v31] [] (b := a0) (ci := 11) rfl rfl rfl c32 (Nat.le_of_ble_eq_true rfl) (Nat.le_of_ble_eq_true rfl) (by omega) (by omega) (f_X11_push_ok X (by omega) (by omega) nn a0 v31 u29.2 e_u33) ?_
                clear e_u33
                show mx_S X F L 358 147 [(0, .ref a0), (1, .int a1), (2, .int a2)] [] u33 0 0 (none, r, 0, 0)
                refine mx_S.pu (pc2 := 162) (lv2 := [(0, .ref a0), (1, .int a1), (2, .int a2)]) (st2 := []) hm dX11_applyObject_147 rfl ?_
                cases hf
                exact sx_ret hm dX11_applyObject_162 rfl
              · rcases (show (a1.toInt < 186 ∨ 192 < a1.toInt) ∨ a1.toInt = 186 ∨ a1.toInt = 187 ∨ a1.toInt = 188 ∨ a1.toInt = 189 ∨ a1.toInt = 190 ∨ a1.toInt = 191 ∨ a1.toInt = 192 by omega) with z0 | z0 | z0 | z0 | z0 | z0 | z0 | z0
                · refine sx_tout hm dX11_applyObject_1 z0 (tgt := 150) rfl ?_
                  refine mx_S.pu (pc2 := 151) (lv2 := [(0, .ref a0), (1, .int a1), (2, .int a2)]) (st2 := [.ref a0]) hm dX11_applyObject_150 rfl ?_
                  replace hf := mx_gd_el hf; obtain ⟨c1, hf⟩ := hf
                  replace hf := mx_sv_el hf; obtain ⟨u2, e_u2, hf⟩ := hf
                  refine sx_cv hm dX11_applyObject_151 rs_RX11_346 mt_X11_wantReference [] [] (b := a0) (ci := 11) rfl rfl rfl c1 (Nat.le_of_ble_eq_true rfl) (Nat.le_of_ble_eq_true rfl) (by omega) (by omega) (f_X11_wantReference_ok X (by omega) (by omega) nn a0 h e_u2) ?_
                  clear e_u2
                  show mx_S X F L 358 154 [(0, .ref a0), (1, .int a1), (2, .int a2)] [.int u2.1] u2.2 0 0 (none, r, 0, 0)
                  refine mx_S.pu (pc2 := 155) (lv2 := [(0, .ref a0), (1, .int a1), (2, .int a2)]) (st2 := []) hm dX11_applyObject_154 rfl ?_
                  refine mx_S.pu (pc2 := 156) (lv2 := [(0, .ref a0), (1, .int a1), (2, .int a2)]) (st2 := [.ref a0]) hm dX11_applyObject_155 rfl ?_
                  refine sx_si (v := 301) hm dX11_applyObject_156 (by decide) ?_
                  replace hf := mx_gd_el hf; obtain ⟨c3, hf⟩ := hf
                  replace hf := mx_sv_el hf; obtain ⟨u4, e_u4, hf⟩ := hf
                  refine sx_cv hm dX11_applyObject_159 rs_RX11_322 mt_X11_push [.int 301] [] (b := a0) (ci := 11) rfl rfl rfl c3 (Nat.le_of_ble_eq_true rfl) (Nat.le_of_ble_eq_true rfl) (by omega) (by omega) (f_X11_push_ok X (by omega) (by omega) nn a0 301 u2.2 e_u4) ?_
                  clear e_u4
                  show mx_S X F L 358 162 [(0, .ref a0), (1, .int a1), (2, .int a2)] [] u4 0 0 (none, r, 0, 0)
                  cases hf
                  exact sx_ret hm dX11_applyObject_162 rfl
                · exact absurd (Int32.toInt_inj.mp (z0.trans (by decide : (186 : Int) = (186 : Int32).toInt))) n_0
                · exact absurd (Int32.toInt_inj.mp (z0.trans (by decide : (187 : Int) = (187 : Int32).toInt))) n_1
                · exact absurd (Int32.toInt_inj.mp (z0.trans (by decide : (188 : Int) = (188 : Int32).toInt))) n_2
                · exact absurd (Int32.toInt_inj.mp (z0.trans (by decide : (189 : Int) = (189 : Int32).toInt))) n_3
                · exact absurd (Int32.toInt_inj.mp (z0.trans (by decide : (190 : Int) = (190 : Int32).toInt))) n_4
                · exact absurd (Int32.toInt_inj.mp (z0.trans (by decide : (191 : Int) = (191 : Int32).toInt))) n_5
                · exact absurd (Int32.toInt_inj.mp (z0.trans (by decide : (192 : Int) = (192 : Int32).toInt))) n_6
set_option maxHeartbeats 4000000 in
set_option maxRecDepth 20000 in
theorem j_X11_applyReturn_65_ok (X : Nat × (Nat → Int32)) {F L : Nat} (hF : 2 ≤ F) (hL : 45 ≤ L) (nn : Nat) (s0 : Nat) (h : mx_H) {r : mx_H} (hf : j_X11_applyReturn_65 nn s0 h = some r) : mx_S X F L 356 65 [] [.ref s0] h 0 0 (none, r, 0, 0) := by
  have hm : mx_mt 356 = some (yX11_applyReturn, cX11_applyReturn, 2, none) := mt_X11_applyReturn
  unfold j_X11_applyReturn_65 at hf
  refine sx_ic (v := 0) hm dX11_applyReturn_65 (by decide) ?_
  replace hf := mx_sv_el hf; obtain ⟨h1, e_h1, hf⟩ := hf
  refine sx_put hm dX11_applyReturn_66 rs_RX11_295 ft_11_19 ⟨by decide, by decide⟩ (fun z => by cases z) e_h1 ?_
  clear e_h1
  refine mx_S.pu (pc2 := 116) (lv2 := []) (st2 := []) hm dX11_applyReturn_69 rfl ?_
  cases hf
  exact sx_ret hm dX11_applyReturn_116 rfl
set_option maxHeartbeats 4000000 in
set_option maxRecDepth 20000 in
theorem f_X11_applyReturn_ok (X : Nat × (Nat → Int32)) {F L : Nat} (hF : 2 ≤ F) (hL : 45 ≤ L) (nn : Nat) (a0 : Nat) (a1 : Int32) (h : mx_H) {r : mx_H} (hf : f_X11_applyReturn nn a0 a1 h = some r) : mx_R X F L 356 [.ref a0, .int a1] h (none, r, 0, 0) := by
  have hm : mx_mt 356 = some (yX11_applyReturn, cX11_applyReturn, 2, none) := mt_X11_applyReturn
  show mx_S X F L 356 0 [(0, .ref a0), (1, .int a1)] [] h 0 0 (none, r, 0, 0)
  unfold f_X11_applyReturn at hf
  refine mx_S.pu (pc2 := 1) (lv2 := [(0, .ref a0), (1, .int a1)]) (st2 := [.int a1]) hm dX11_applyReturn_0 rfl ?_
  refine sx_si (v := 177) hm dX11_applyReturn_1 (by decide) ?_
  rcases mx_if_el hf with ⟨c27, hf⟩ | ⟨c27, hf⟩
  · refine sb_ic_ne hm dX11_applyReturn_4 (tgt := 29) rfl (fun _ => ?_) (fun z => absurd c27 z)
    refine mx_S.pu (pc2 := 30) (lv2 := [(0, .ref a0), (1, .int a1)]) (st2 := [.int a1]) hm dX11_applyReturn_29 rfl ?_
    refine sx_si (v := 172) hm dX11_applyReturn_30 (by decide) ?_
    rcases mx_if_el hf with ⟨c22, hf⟩ | ⟨c22, hf⟩
    · refine sb_ic_ne hm dX11_applyReturn_33 (tgt := 72) rfl (fun _ => ?_) (fun z => absurd c22 z)
      refine mx_S.pu (pc2 := 73) (lv2 := [(0, .ref a0), (1, .int a1)]) (st2 := [.ref a0]) hm dX11_applyReturn_72 rfl ?_
      refine mx_S.pu (pc2 := 74) (lv2 := [(0, .ref a0), (1, .int a1)]) (st2 := [.ref a0, .ref a0]) hm dX11_applyReturn_73 rfl ?_
      replace hf := mx_sv_el hf; obtain ⟨v2, e_v2, hf⟩ := hf
      refine sx_get hm dX11_applyReturn_74 rs_RX11_264 (xgi_el e_v2) ?_
      clear e_v2
      replace hf := mx_gd_el hf; obtain ⟨c3, hf⟩ := hf
      replace hf := mx_sv_el hf; obtain ⟨u4, e_u4, hf⟩ := hf
      refine sx_cv hm dX11_applyReturn_77 rs_RX11_325 mt_X11_want [.int v2] [] (b := a0) (ci := 11) rfl rfl rfl c3 (Nat.le_of_ble_eq_true rfl) (Nat.le_of_ble_eq_true rfl) (by omega) (by omega) (f_X11_want_ok X (by omega) (by omega) nn a0 v2 h e_u4) ?_
      clear e_u4
      show mx_S X F L 356 80 [(0, .ref a0), (1, .int a1)] [] u4 0 0 (none, r, 0, 0)
      refine mx_S.pu (pc2 := 81) (lv2 := [(0, .ref a0), (1, .int a1)]) (st2 := [.ref a0]) hm dX11_applyReturn_80 rfl ?_
      refine mx_S.pu (pc2 := 82) (lv2 := [(0, .ref a0), (1, .int a1)]) (st2 := [.ref a0, .ref a0]) hm dX11_applyReturn_81 rfl ?_
      replace hf := mx_sv_el hf; obtain ⟨v5, e_v5, hf⟩ := hf
      refine sx_get hm dX11_applyReturn_82 rs_RX11_295 (xgi_el e_v5) ?_
      clear e_v5
      rcases mx_if_el hf with ⟨c14, hf⟩ | ⟨c14, hf⟩
      · refine sb_if_eq hm dX11_applyReturn_85 (tgt := 112) rfl (fun _ => ?_) (fun z => absurd c14 z)
        refine sx_ic (v := 0) hm dX11_applyReturn_112 (by decide) ?_
        replace hf := mx_sv_el hf; obtain ⟨h6, e_h6, hf⟩ := hf
        refine sx_put hm dX11_applyReturn_113 rs_RX11_295 ft_11_19 ⟨by decide, by decide⟩ (fun z => by cases z) e_h6 ?_
        clear e_h6
        cases hf
        exact sx_ret hm dX11_applyReturn_116 rfl
      · refine sb_if_eq hm dX11_applyReturn_85 (tgt := 112) rfl (fun z => absurd z c14) (fun _ => ?_)
        refine mx_S.pu (pc2 := 89) (lv2 := [(0, .ref a0), (1, .int a1)]) (st2 := [.ref a0, .ref a0]) hm dX11_applyReturn_88 rfl ?_
        replace hf := mx_sv_el hf; obtain ⟨v7, e_v7, hf⟩ := hf
        refine sx_get hm dX11_applyReturn_89 rs_RX11_264 (xgi_el e_v7) ?_
        clear e_v7
        refine sx_si (v := 301) hm dX11_applyReturn_92 (by decide) ?_
        rcases mx_if_el hf with ⟨c13, hf⟩ | ⟨c13, hf⟩
        · refine sb_ic_eq hm dX11_applyReturn_95 (tgt := 112) rfl (fun _ => ?_) (fun z => absurd c13 z)
          refine sx_ic (v := 0) hm dX11_applyReturn_112 (by decide) ?_
          replace hf := mx_sv_el hf; obtain ⟨h8, e_h8, hf⟩ := hf
          refine sx_put hm dX11_applyReturn_113 rs_RX11_295 ft_11_19 ⟨by decide, by decide⟩ (fun z => by cases z) e_h8 ?_
          clear e_h8
          cases hf
          exact sx_ret hm dX11_applyReturn_116 rfl
        · refine sb_ic_eq hm dX11_applyReturn_95 (tgt := 112) rfl (fun z => absurd z c13) (fun _ => ?_)
          refine mx_S.pu (pc2 := 99) (lv2 := [(0, .ref a0), (1, .int a1)]) (st2 := [.ref a0, .ref a0]) hm dX11_applyReturn_98 rfl ?_
          replace hf := mx_sv_el hf; obtain ⟨v9, e_v9, hf⟩ := hf
          refine sx_get hm dX11_applyReturn_99 rs_RX11_264 (xgi_el e_v9) ?_
          clear e_v9
          refine sx_si (v := 303) hm dX11_applyReturn_102 (by decide) ?_
          rcases mx_if_el hf with ⟨c12, hf⟩ | ⟨c12, hf⟩
          · refine sb_ic_eq hm dX11_applyReturn_105 (tgt := 112) rfl (fun _ => ?_) (fun z => absurd c12 z)
            refine sx_ic (v := 0) hm dX11_applyReturn_112 (by decide) ?_
            replace hf := mx_sv_el hf; obtain ⟨h10, e_h10, hf⟩ := hf
            refine sx_put hm dX11_applyReturn_113 rs_RX11_295 ft_11_19 ⟨by decide, by decide⟩ (fun z => by cases z) e_h10 ?_
            clear e_h10
            cases hf
            exact sx_ret hm dX11_applyReturn_116 rfl
          · refine sb_ic_eq hm dX11_applyReturn_105 (tgt := 112) rfl (fun z => absurd z c12) (fun _ => ?_)
            refine sx_ic (v := 1) hm dX11_applyReturn_108 (by decide) ?_
            refine mx_S.pu (pc2 := 113) (lv2 := [(0, .ref a0), (1, .int a1)]) (st2 := [.int 1, .ref a0]) hm dX11_applyReturn_109 rfl ?_
            replace hf := mx_sv_el hf; obtain ⟨h11, e_h11, hf⟩ := hf
            refine sx_put hm dX11_applyReturn_113 rs_RX11_295 ft_11_19 ⟨by decide, by decide⟩ (fun z => by cases z) e_h11 ?_
            clear e_h11
            cases hf
            exact sx_ret hm dX11_applyReturn_116 rfl
    · refine sb_ic_ne hm dX11_applyReturn_33 (tgt := 72) rfl (fun z => absurd z c22) (fun _ => ?_)
      refine mx_S.pu (pc2 := 37) (lv2 := [(0, .ref a0), (1, .int a1)]) (st2 := [.ref a0]) hm dX11_applyReturn_36 rfl ?_
      refine sx_si (v := 301) hm dX11_applyReturn_37 (by decide) ?_
      replace hf := mx_gd_el hf; obtain ⟨c15, hf⟩ := hf
      replace hf := mx_sv_el hf; obtain ⟨u16, e_u16, hf⟩ := hf
      refine sx_cv hm dX11_applyReturn_40 rs_RX11_325 mt_X11_want [.int 301] [] (b := a0) (ci := 11) rfl rfl rfl c15 (Nat.le_of_ble_eq_true rfl) (Nat.le_of_ble_eq_true rfl) (by omega) (by omega) (f_X11_want_ok X (by omega) (by omega) nn a0 301 h e_u16) ?_
      clear e_u16
      show mx_S X F L 356 43 [(0, .ref a0), (1, .int a1)] [] u16 0 0 (none, r, 0, 0)
      refine mx_S.pu (pc2 := 44) (lv2 := [(0, .ref a0), (1, .int a1)]) (st2 := [.ref a0]) hm dX11_applyReturn_43 rfl ?_
      refine mx_S.pu (pc2 := 45) (lv2 := [(0, .ref a0), (1, .int a1)]) (st2 := [.ref a0, .ref a0]) hm dX11_applyReturn_44 rfl ?_
      replace hf := mx_sv_el hf; obtain ⟨v17, e_v17, hf⟩ := hf
      refine sx_get hm dX11_applyReturn_45 rs_RX11_295 (xgi_el e_v17) ?_
      clear e_v17
      rcases mx_if_el hf with ⟨c21, hf⟩ | ⟨c21, hf⟩
      · refine sb_if_eq hm dX11_applyReturn_48 (tgt := 65) rfl (fun _ => ?_) (fun z => absurd c21 z)
        refine mx_S.ext [] (mx_sub_pos [] rfl (show ([0, 1] : List Nat).Nodup by decide)) ?_
        exact j_X11_applyReturn_65_ok X hF hL nn a0 u16 hf
      · refine sb_if_eq hm dX11_applyReturn_48 (tgt := 65) rfl (fun z => absurd z c21) (fun _ => ?_)
        refine mx_S.pu (pc2 := 52) (lv2 := [(0, .ref a0), (1, .int a1)]) (st2 := [.ref a0, .ref a0]) hm dX11_applyReturn_51 rfl ?_
        replace hf := mx_sv_el hf; obtain ⟨v18, e_v18, hf⟩ := hf
        refine sx_get hm dX11_applyReturn_52 rs_RX11_264 (xgi_el e_v18) ?_
        clear e_v18
        refine sx_si (v := 301) hm dX11_applyReturn_55 (by decide) ?_
        rcases mx_if_el hf with ⟨c20, hf⟩ | ⟨c20, hf⟩
        · refine sb_ic_ne hm dX11_applyReturn_58 (tgt := 65) rfl (fun _ => ?_) (fun z => absurd c20 z)
          refine mx_S.ext [] (mx_sub_pos [] rfl (show ([0, 1] : List Nat).Nodup by decide)) ?_
          exact j_X11_applyReturn_65_ok X hF hL nn a0 u16 hf
        · refine sb_ic_ne hm dX11_applyReturn_58 (tgt := 65) rfl (fun z => absurd z c20) (fun _ => ?_)
          refine sx_ic (v := 1) hm dX11_applyReturn_61 (by decide) ?_
          refine mx_S.pu (pc2 := 66) (lv2 := [(0, .ref a0), (1, .int a1)]) (st2 := [.int 1, .ref a0]) hm dX11_applyReturn_62 rfl ?_
          replace hf := mx_sv_el hf; obtain ⟨h19, e_h19, hf⟩ := hf
          refine sx_put hm dX11_applyReturn_66 rs_RX11_295 ft_11_19 ⟨by decide, by decide⟩ (fun z => by cases z) e_h19 ?_
          clear e_h19
          refine mx_S.pu (pc2 := 116) (lv2 := [(0, .ref a0), (1, .int a1)]) (st2 := []) hm dX11_applyReturn_69 rfl ?_
          cases hf
          exact sx_ret hm dX11_applyReturn_116 rfl
  · refine sb_ic_ne hm dX11_applyReturn_4 (tgt := 29) rfl (fun z => absurd z c27) (fun _ => ?_)
    refine mx_S.pu (pc2 := 8) (lv2 := [(0, .ref a0), (1, .int a1)]) (st2 := [.ref a0]) hm dX11_applyReturn_7 rfl ?_
    refine mx_S.pu (pc2 := 9) (lv2 := [(0, .ref a0), (1, .int a1)]) (st2 := [.ref a0, .ref a0]) hm dX11_applyReturn_8 rfl ?_
    replace hf := mx_sv_el hf; obtain ⟨v23, e_v23, hf⟩ := hf
    refine sx_get hm dX11_applyReturn_9 rs_RX11_264 (xgi_el e_v23) ?_
    clear e_v23
    refine sx_si (v := 303) hm dX11_applyReturn_12 (by decide) ?_
    rcases mx_if_el hf with ⟨c26, hf⟩ | ⟨c26, hf⟩
    · refine sb_ic_ne hm dX11_applyReturn_15 (tgt := 22) rfl (fun _ => ?_) (fun z => absurd c26 z)
      refine sx_ic (v := 0) hm dX11_applyReturn_22 (by decide) ?_
      replace hf := mx_sv_el hf; obtain ⟨h24, e_h24, hf⟩ := hf
      refine sx_put hm dX11_applyReturn_23 rs_RX11_295 ft_11_19 ⟨by decide, by decide⟩ (fun z => by cases z) e_h24 ?_
      clear e_h24
      refine mx_S.pu (pc2 := 116) (lv2 := [(0, .ref a0), (1, .int a1)]) (st2 := []) hm dX11_applyReturn_26 rfl ?_
      cases hf
      exact sx_ret hm dX11_applyReturn_116 rfl
    · refine sb_ic_ne hm dX11_applyReturn_15 (tgt := 22) rfl (fun z => absurd z c26) (fun _ => ?_)
      refine sx_ic (v := 1) hm dX11_applyReturn_18 (by decide) ?_
      refine mx_S.pu (pc2 := 23) (lv2 := [(0, .ref a0), (1, .int a1)]) (st2 := [.int 1, .ref a0]) hm dX11_applyReturn_19 rfl ?_
      replace hf := mx_sv_el hf; obtain ⟨h25, e_h25, hf⟩ := hf
      refine sx_put hm dX11_applyReturn_23 rs_RX11_295 ft_11_19 ⟨by decide, by decide⟩ (fun z => by cases z) e_h25 ?_
      clear e_h25
      refine mx_S.pu (pc2 := 116) (lv2 := [(0, .ref a0), (1, .int a1)]) (st2 := []) hm dX11_applyReturn_26 rfl ?_
      cases hf
      exact sx_ret hm dX11_applyReturn_116 rfl
set_option maxHeartbeats 4000000 in
set_option maxRecDepth 20000 in
theorem j_X11_applySimple_103_ok (X : Nat × (Nat → Int32)) {F L : Nat} (hF : 3 ≤ F) (hL : 70 ≤ L) (nn : Nat) (l0 : Nat) (l1 : Int32) (l2 : Int32) (h : mx_H) {r : mx_H} (hf : j_X11_applySimple_103 nn l0 l1 l2 h = some r) : mx_S X F L 352 103 [(0, .ref l0), (1, .int l1), (2, .int l2)] [] h 0 0 (none, r, 0, 0) := by
  have hm : mx_mt 352 = some (yX11_applySimple, cX11_applySimple, 3, none) := mt_X11_applySimple
  unfold j_X11_applySimple_103 at hf
  refine mx_S.pu (pc2 := 104) (lv2 := [(0, .ref l0), (1, .int l1), (2, .int l2)]) (st2 := [.ref l0]) hm dX11_applySimple_103 rfl ?_
  refine mx_S.pu (pc2 := 105) (lv2 := [(0, .ref l0), (1, .int l1), (2, .int l2)]) (st2 := [.int l1, .ref l0]) hm dX11_applySimple_104 rfl ?_
  refine mx_S.pu (pc2 := 106) (lv2 := [(0, .ref l0), (1, .int l1), (2, .int l2)]) (st2 := [.int l2, .int l1, .ref l0]) hm dX11_applySimple_105 rfl ?_
  replace hf := mx_gd_el hf; obtain ⟨c1, hf⟩ := hf
  replace hf := mx_sv_el hf; obtain ⟨u2, e_u2, hf⟩ := hf
  refine sx_cv hm dX11_applySimple_106 rs_RX11_328 mt_X11_applyLocal [.int l1, .int l2] [] (b := l0) (ci := 11) rfl rfl rfl c1 (Nat.le_of_ble_eq_true rfl) (Nat.le_of_ble_eq_true rfl) (by omega) (by omega) (f_X11_applyLocal_ok X (by omega) (by omega) nn l0 l1 l2 h e_u2) ?_
  clear e_u2
  show mx_S X F L 352 109 [(0, .ref l0), (1, .int l1), (2, .int l2)] [] u2 0 0 (none, r, 0, 0)
  refine mx_S.pu (pc2 := 179) (lv2 := [(0, .ref l0), (1, .int l1), (2, .int l2)]) (st2 := []) hm dX11_applySimple_109 rfl ?_
  cases hf
  exact sx_ret hm dX11_applySimple_179 rfl
set_option maxHeartbeats 4000000 in
set_option maxRecDepth 20000 in
theorem j_X11_applySimple_38_ok (X : Nat × (Nat → Int32)) {F L : Nat} (hF : 3 ≤ F) (hL : 70 ≤ L) (nn : Nat) (l0 : Nat) (h : mx_H) {r : mx_H} (hf : j_X11_applySimple_38 nn l0 h = some r) : mx_S X F L 352 38 [(0, .ref l0)] [] h 0 0 (none, r, 0, 0) := by
  have hm : mx_mt 352 = some (yX11_applySimple, cX11_applySimple, 3, none) := mt_X11_applySimple
  unfold j_X11_applySimple_38 at hf
  refine mx_S.pu (pc2 := 39) (lv2 := [(0, .ref l0)]) (st2 := [.ref l0]) hm dX11_applySimple_38 rfl ?_
  refine sx_si (v := 301) hm dX11_applySimple_39 (by decide) ?_
  replace hf := mx_gd_el hf; obtain ⟨c3, hf⟩ := hf
  replace hf := mx_sv_el hf; obtain ⟨u4, e_u4, hf⟩ := hf
  refine sx_cv hm dX11_applySimple_42 rs_RX11_322 mt_X11_push [.int 301] [] (b := l0) (ci := 11) rfl rfl rfl c3 (Nat.le_of_ble_eq_true rfl) (Nat.le_of_ble_eq_true rfl) (by omega) (by omega) (f_X11_push_ok X (by omega) (by omega) nn l0 301 h e_u4) ?_
  clear e_u4
  show mx_S X F L 352 45 [(0, .ref l0)] [] u4 0 0 (none, r, 0, 0)
  refine mx_S.pu (pc2 := 179) (lv2 := [(0, .ref l0)]) (st2 := []) hm dX11_applySimple_45 rfl ?_
  cases hf
  exact sx_ret hm dX11_applySimple_179 rfl
set_option maxHeartbeats 4000000 in
set_option maxRecDepth 20000 in
theorem j_X11_applySimple_26_ok (X : Nat × (Nat → Int32)) {F L : Nat} (hF : 3 ≤ F) (hL : 70 ≤ L) (nn : Nat) (l0 : Nat) (l1 : Int32) (l2 : Int32) (h : mx_H) {r : mx_H} (hf : j_X11_applySimple_26 nn l0 l1 l2 h = some r) : mx_S X F L 352 26 [(0, .ref l0), (1, .int l1), (2, .int l2)] [] h 0 0 (none, r, 0, 0) := by
  have hm : mx_mt 352 = some (yX11_applySimple, cX11_applySimple, 3, none) := mt_X11_applySimple
  unfold j_X11_applySimple_26 at hf
  refine mx_S.pu (pc2 := 27) (lv2 := [(0, .ref l0), (1, .int l1), (2, .int l2)]) (st2 := [.int l1]) hm dX11_applySimple_26 rfl ?_
  refine sx_bi (v := 16) hm dX11_applySimple_27 (by decide) ?_
  rcases mx_if_el hf with ⟨c33, hf⟩ | ⟨c33, hf⟩
  · refine sb_ic_eq hm dX11_applySimple_29 (tgt := 38) rfl (fun _ => ?_) (fun z => absurd c33 z)
    refine mx_S.ext [(0, .ref l0)] (mx_sub_pos [0] rfl (show ([0, 1, 2] : List Nat).Nodup by decide)) ?_
    exact j_X11_applySimple_38_ok X hF hL nn l0 h hf
  · refine sb_ic_eq hm dX11_applySimple_29 (tgt := 38) rfl (fun z => absurd z c33) (fun _ => ?_)
    refine mx_S.pu (pc2 := 33) (lv2 := [(0, .ref l0), (1, .int l1), (2, .int l2)]) (st2 := [.int l1]) hm dX11_applySimple_32 rfl ?_
    refine sx_bi (v := 18) hm dX11_applySimple_33 (by decide) ?_
    rcases mx_if_el hf with ⟨c32, hf⟩ | ⟨c32, hf⟩
    · refine sb_ic_ne hm dX11_applySimple_35 (tgt := 48) rfl (fun _ => ?_) (fun z => absurd c32 z)
      refine mx_S.pu (pc2 := 49) (lv2 := [(0, .ref l0), (1, .int l1), (2, .int l2)]) (st2 := [.int l1]) hm dX11_applySimple_48 rfl ?_
      replace hf := mx_sv_el hf; obtain ⟨u5, e_u5, hf⟩ := hf
      refine sx_cs hm dX11_applySimple_49 rs_RX11_201 mt_X11_isArithmetic [.int l1] [] rfl rfl (Nat.le_of_ble_eq_true rfl) (Nat.le_of_ble_eq_true rfl) (by omega) (by omega) (f_X11_isArithmetic_ok X (by omega) (by omega) nn l1 h e_u5) ?_
      clear e_u5
      show mx_S X F L 352 52 [(0, .ref l0), (1, .int l1), (2, .int l2)] [.int u5.1] u5.2 0 0 (none, r, 0, 0)
      rcases mx_if_el hf with ⟨c31, hf⟩ | ⟨c31, hf⟩
      · refine sb_if_eq hm dX11_applySimple_52 (tgt := 79) rfl (fun _ => ?_) (fun z => absurd c31 z)
        refine mx_S.pu (pc2 := 80) (lv2 := [(0, .ref l0), (1, .int l1), (2, .int l2)]) (st2 := [.int l1]) hm dX11_applySimple_79 rfl ?_
        refine sx_bi (v := 21) hm dX11_applySimple_80 (by decide) ?_
        rcases mx_if_el hf with ⟨c24, hf⟩ | ⟨c24, hf⟩
        · refine sb_ic_eq hm dX11_applySimple_82 (tgt := 103) rfl (fun _ => ?_) (fun z => absurd c24 z)
          exact j_X11_applySimple_103_ok X hF hL nn l0 l1 l2 u5.2 hf
        · refine sb_ic_eq hm dX11_applySimple_82 (tgt := 103) rfl (fun z => absurd z c24) (fun _ => ?_)
          refine mx_S.pu (pc2 := 86) (lv2 := [(0, .ref l0), (1, .int l1), (2, .int l2)]) (st2 := [.int l1]) hm dX11_applySimple_85 rfl ?_
          refine sx_bi (v := 25) hm dX11_applySimple_86 (by decide) ?_
          rcases mx_if_el hf with ⟨c23, hf⟩ | ⟨c23, hf⟩
          · refine sb_ic_eq hm dX11_applySimple_88 (tgt := 103) rfl (fun _ => ?_) (fun z => absurd c23 z)
            exact j_X11_applySimple_103_ok X hF hL nn l0 l1 l2 u5.2 hf
          · refine sb_ic_eq hm dX11_applySimple_88 (tgt := 103) rfl (fun z => absurd z c23) (fun _ => ?_)
            refine mx_S.pu (pc2 := 92) (lv2 := [(0, .ref l0), (1, .int l1), (2, .int l2)]) (st2 := [.int l1]) hm dX11_applySimple_91 rfl ?_
            refine sx_bi (v := 54) hm dX11_applySimple_92 (by decide) ?_
            rcases mx_if_el hf with ⟨c22, hf⟩ | ⟨c22, hf⟩
            · refine sb_ic_eq hm dX11_applySimple_94 (tgt := 103) rfl (fun _ => ?_) (fun z => absurd c22 z)
              exact j_X11_applySimple_103_ok X hF hL nn l0 l1 l2 u5.2 hf
            · refine sb_ic_eq hm dX11_applySimple_94 (tgt := 103) rfl (fun z => absurd z c22) (fun _ => ?_)
              refine mx_S.pu (pc2 := 98) (lv2 := [(0, .ref l0), (1, .int l1), (2, .int l2)]) (st2 := [.int l1]) hm dX11_applySimple_97 rfl ?_
              refine sx_bi (v := 58) hm dX11_applySimple_98 (by decide) ?_
              rcases mx_if_el hf with ⟨c21, hf⟩ | ⟨c21, hf⟩
              · refine sb_ic_ne hm dX11_applySimple_100 (tgt := 112) rfl (fun _ => ?_) (fun z => absurd c21 z)
                refine mx_S.pu (pc2 := 113) (lv2 := [(0, .ref l0), (1, .int l1), (2, .int l2)]) (st2 := [.int l1]) hm dX11_applySimple_112 rfl ?_
                replace hf := mx_sv_el hf; obtain ⟨u6, e_u6, hf⟩ := hf
                refine sx_cs hm dX11_applySimple_113 rs_RX11_198 mt_X11_isJump [.int l1] [] rfl rfl (Nat.le_of_ble_eq_true rfl) (Nat.le_of_ble_eq_true rfl) (by omega) (by omega) (f_X11_isJump_ok X (by omega) (by omega) nn l1 u5.2 e_u6) ?_
                clear e_u6
                show mx_S X F L 352 116 [(0, .ref l0), (1, .int l1), (2, .int l2)] [.int u6.1] u6.2 0 0 (none, r, 0, 0)
                rcases mx_if_el hf with ⟨c20, hf⟩ | ⟨c20, hf⟩
                · refine sb_if_eq hm dX11_applySimple_116 (tgt := 127) rfl (fun _ => ?_) (fun z => absurd c20 z)
                  refine mx_S.pu (pc2 := 128) (lv2 := [(0, .ref l0), (1, .int l1), (2, .int l2)]) (st2 := [.int l1]) hm dX11_applySimple_127 rfl ?_
                  refine sx_si (v := 172) hm dX11_applySimple_128 (by decide) ?_
                  rcases mx_if_el hf with ⟨c17, hf⟩ | ⟨c17, hf⟩
                  · refine sb_ic_ge hm dX11_applySimple_131 (tgt := 142) rfl (fun _ => ?_) (fun z => absurd c17 z)
                    refine mx_S.pu (pc2 := 143) (lv2 := [(0, .ref l0), (1, .int l1), (2, .int l2)]) (st2 := [.int l1]) hm dX11_applySimple_142 rfl ?_
                    refine sx_si (v := 180) hm dX11_applySimple_143 (by decide) ?_
                    rcases mx_if_el hf with ⟨c14, hf⟩ | ⟨c14, hf⟩
                    · refine sb_ic_ge hm dX11_applySimple_146 (tgt := 157) rfl (fun _ => ?_) (fun z => absurd c14 z)
                      refine mx_S.pu (pc2 := 158) (lv2 := [(0, .ref l0), (1, .int l1), (2, .int l2)]) (st2 := [.int l1]) hm dX11_applySimple_157 rfl ?_
                      refine sx_si (v := 184) hm dX11_applySimple_158 (by decide) ?_
                      rcases mx_if_el hf with ⟨c11, hf⟩ | ⟨c11, hf⟩
                      · refine sb_ic_gt hm dX11_applySimple_161 (tgt := 173) rfl (fun _ => ?_) (fun z => absurd c11 z)
                        refine mx_S.pu (pc2 := 174) (lv2 := [(0, .ref l0), (1, .int l1), (2, .int l2)]) (st2 := [.ref l0]) hm dX11_applySimple_173 rfl ?_
                        refine mx_S.pu (pc2 := 175) (lv2 := [(0, .ref l0), (1, .int l1), (2, .int l2)]) (st2 := [.int l1, .ref l0]) hm dX11_applySimple_174 rfl ?_
                        refine mx_S.pu (pc2 := 176) (lv2 := [(0, .ref l0), (1, .int l1), (2, .int l2)]) (st2 := [.int l2, .int l1, .ref l0]) hm dX11_applySimple_175 rfl ?_
                        replace hf := mx_gd_el hf; obtain ⟨c7, hf⟩ := hf
                        replace hf := mx_sv_el hf; obtain ⟨u8, e_u8, hf⟩ := hf
                        refine sx_cv hm dX11_applySimple_176 rs_RX11_343 mt_X11_applyObject [.int l1, .int l2] [] (b := l0) (ci := 11) rfl rfl rfl c7 (Nat.le_of_ble_eq_true rfl) (Nat.le_of_ble_eq_true rfl) (by omega) (by omega) (f_X11_applyObject_ok X (by omega) (by omega) nn l0 l1 l2 u6.2 e_u8) ?_
                        clear e_u8
                        show mx_S X F L 352 179 [(0, .ref l0), (1, .int l1), (2, .int l2)] [] u8 0 0 (none, r, 0, 0)
                        cases hf
                        exact sx_ret hm dX11_applySimple_179 rfl
                      · refine sb_ic_gt hm dX11_applySimple_161 (tgt := 173) rfl (fun z => absurd z c11) (fun _ => ?_)
                        refine mx_S.pu (pc2 := 165) (lv2 := [(0, .ref l0), (1, .int l1), (2, .int l2)]) (st2 := [.ref l0]) hm dX11_applySimple_164 rfl ?_
                        refine mx_S.pu (pc2 := 166) (lv2 := [(0, .ref l0), (1, .int l1), (2, .int l2)]) (st2 := [.int l1, .ref l0]) hm dX11_applySimple_165 rfl ?_
                        refine mx_S.pu (pc2 := 167) (lv2 := [(0, .ref l0), (1, .int l1), (2, .int l2)]) (st2 := [.int l2, .int l1, .ref l0]) hm dX11_applySimple_166 rfl ?_
                        replace hf := mx_gd_el hf; obtain ⟨c9, hf⟩ := hf
                        replace hf := mx_sv_el hf; obtain ⟨u10, e_u10, hf⟩ := hf
                        refine sx_cv hm dX11_applySimple_167 rs_RX11_340 mt_X11_applyMember [.int l1, .int l2] [] (b := l0) (ci := 11) rfl rfl rfl c9 (Nat.le_of_ble_eq_true rfl) (Nat.le_of_ble_eq_true rfl) (by omega) (by omega) (f_X11_applyMember_ok X (by omega) (by omega) nn l0 l1 l2 u6.2 e_u10) ?_
                        clear e_u10
                        show mx_S X F L 352 170 [(0, .ref l0), (1, .int l1), (2, .int l2)] [] u10 0 0 (none, r, 0, 0)
                        refine mx_S.pu (pc2 := 179) (lv2 := [(0, .ref l0), (1, .int l1), (2, .int l2)]) (st2 := []) hm dX11_applySimple_170 rfl ?_
                        cases hf
                        exact sx_ret hm dX11_applySimple_179 rfl
                    · refine sb_ic_ge hm dX11_applySimple_146 (tgt := 157) rfl (fun z => absurd z c14) (fun _ => ?_)
                      refine mx_S.pu (pc2 := 150) (lv2 := [(0, .ref l0), (1, .int l1), (2, .int l2)]) (st2 := [.ref l0]) hm dX11_applySimple_149 rfl ?_
                      refine mx_S.pu (pc2 := 151) (lv2 := [(0, .ref l0), (1, .int l1), (2, .int l2)]) (st2 := [.int l1, .ref l0]) hm dX11_applySimple_150 rfl ?_
                      replace hf := mx_gd_el hf; obtain ⟨c12, hf⟩ := hf
                      replace hf := mx_sv_el hf; obtain ⟨u13, e_u13, hf⟩ := hf
                      refine sx_cv hm dX11_applySimple_151 rs_RX11_337 mt_X11_applyReturn [.int l1] [] (b := l0) (ci := 11) rfl rfl rfl c12 (Nat.le_of_ble_eq_true rfl) (Nat.le_of_ble_eq_true rfl) (by omega) (by omega) (f_X11_applyReturn_ok X (by omega) (by omega) nn l0 l1 u6.2 e_u13) ?_
                      clear e_u13
                      show mx_S X F L 352 154 [(0, .ref l0), (1, .int l1), (2, .int l2)] [] u13 0 0 (none, r, 0, 0)
                      refine mx_S.pu (pc2 := 179) (lv2 := [(0, .ref l0), (1, .int l1), (2, .int l2)]) (st2 := []) hm dX11_applySimple_154 rfl ?_
                      cases hf
                      exact sx_ret hm dX11_applySimple_179 rfl
                  · refine sb_ic_ge hm dX11_applySimple_131 (tgt := 142) rfl (fun z => absurd z c17) (fun _ => ?_)
                    refine mx_S.pu (pc2 := 135) (lv2 := [(0, .ref l0), (1, .int l1), (2, .int l2)]) (st2 := [.ref l0]) hm dX11_applySimple_134 rfl ?_
                    refine mx_S.pu (pc2 := 136) (lv2 := [(0, .ref l0), (1, .int l1), (2, .int l2)]) (st2 := [.int l1, .ref l0]) hm dX11_applySimple_135 rfl ?_
                    replace hf := mx_gd_el hf; obtain ⟨c15, hf⟩ := hf
                    replace hf := mx_sv_el hf; obtain ⟨u16, e_u16, hf⟩ := hf
                    refine sx_cv hm dX11_applySimple_136 rs_RX11_334 mt_X11_applyArray [.int l1] [] (b := l0) (ci := 11) rfl rfl rfl c15 (Nat.le_of_ble_eq_true rfl) (Nat.le_of_ble_eq_true rfl) (by omega) (by omega) (f_X11_applyArray_ok X (by omega) (by omega) nn l0 l1 u6.2 e_u16) ?_
                    clear e_u16
                    show mx_S X F L 352 139 [(0, .ref l0), (1, .int l1), (2, .int l2)] [] u16 0 0 (none, r, 0, 0)
                    refine mx_S.pu (pc2 := 179) (lv2 := [(0, .ref l0), (1, .int l1), (2, .int l2)]) (st2 := []) hm dX11_applySimple_139 rfl ?_
                    cases hf
                    exact sx_ret hm dX11_applySimple_179 rfl
                · refine sb_if_eq hm dX11_applySimple_116 (tgt := 127) rfl (fun z => absurd z c20) (fun _ => ?_)
                  refine mx_S.pu (pc2 := 120) (lv2 := [(0, .ref l0), (1, .int l1), (2, .int l2)]) (st2 := [.ref l0]) hm dX11_applySimple_119 rfl ?_
                  refine mx_S.pu (pc2 := 121) (lv2 := [(0, .ref l0), (1, .int l1), (2, .int l2)]) (st2 := [.int l1, .ref l0]) hm dX11_applySimple_120 rfl ?_
                  replace hf := mx_gd_el hf; obtain ⟨c18, hf⟩ := hf
                  replace hf := mx_sv_el hf; obtain ⟨u19, e_u19, hf⟩ := hf
                  refine sx_cv hm dX11_applySimple_121 rs_RX11_331 mt_X11_applyJump [.int l1] [] (b := l0) (ci := 11) rfl rfl rfl c18 (Nat.le_of_ble_eq_true rfl) (Nat.le_of_ble_eq_true rfl) (by omega) (by omega) (f_X11_applyJump_ok X (by omega) (by omega) nn l0 l1 u6.2 e_u19) ?_
                  clear e_u19
                  show mx_S X F L 352 124 [(0, .ref l0), (1, .int l1), (2, .int l2)] [] u19 0 0 (none, r, 0, 0)
                  refine mx_S.pu (pc2 := 179) (lv2 := [(0, .ref l0), (1, .int l1), (2, .int l2)]) (st2 := []) hm dX11_applySimple_124 rfl ?_
                  cases hf
                  exact sx_ret hm dX11_applySimple_179 rfl
              · refine sb_ic_ne hm dX11_applySimple_100 (tgt := 112) rfl (fun z => absurd z c21) (fun _ => ?_)
                exact j_X11_applySimple_103_ok X hF hL nn l0 l1 l2 u5.2 hf
      · refine sb_if_eq hm dX11_applySimple_52 (tgt := 79) rfl (fun z => absurd z c31) (fun _ => ?_)
        refine mx_S.pu (pc2 := 56) (lv2 := [(0, .ref l0), (1, .int l1), (2, .int l2)]) (st2 := [.ref l0]) hm dX11_applySimple_55 rfl ?_
        refine sx_si (v := 301) hm dX11_applySimple_56 (by decide) ?_
        replace hf := mx_gd_el hf; obtain ⟨c25, hf⟩ := hf
        replace hf := mx_sv_el hf; obtain ⟨u26, e_u26, hf⟩ := hf
        refine sx_cv hm dX11_applySimple_59 rs_RX11_325 mt_X11_want [.int 301] [] (b := l0) (ci := 11) rfl rfl rfl c25 (Nat.le_of_ble_eq_true rfl) (Nat.le_of_ble_eq_true rfl) (by omega) (by omega) (f_X11_want_ok X (by omega) (by omega) nn l0 301 u5.2 e_u26) ?_
        clear e_u26
        show mx_S X F L 352 62 [(0, .ref l0), (1, .int l1), (2, .int l2)] [] u26 0 0 (none, r, 0, 0)
        refine mx_S.pu (pc2 := 63) (lv2 := [(0, .ref l0), (1, .int l1), (2, .int l2)]) (st2 := [.ref l0]) hm dX11_applySimple_62 rfl ?_
        refine sx_si (v := 301) hm dX11_applySimple_63 (by decide) ?_
        replace hf := mx_gd_el hf; obtain ⟨c27, hf⟩ := hf
        replace hf := mx_sv_el hf; obtain ⟨u28, e_u28, hf⟩ := hf
        refine sx_cv hm dX11_applySimple_66 rs_RX11_325 mt_X11_want [.int 301] [] (b := l0) (ci := 11) rfl rfl rfl c27 (Nat.le_of_ble_eq_true rfl) (Nat.le_of_ble_eq_true rfl) (by omega) (by omega) (f_X11_want_ok X (by omega) (by omega) nn l0 301 u26 e_u28) ?_
        clear e_u28
        show mx_S X F L 352 69 [(0, .ref l0), (1, .int l1), (2, .int l2)] [] u28 0 0 (none, r, 0, 0)
        refine mx_S.pu (pc2 := 70) (lv2 := [(0, .ref l0), (1, .int l1), (2, .int l2)]) (st2 := [.ref l0]) hm dX11_applySimple_69 rfl ?_
        refine sx_si (v := 301) hm dX11_applySimple_70 (by decide) ?_
        replace hf := mx_gd_el hf; obtain ⟨c29, hf⟩ := hf
        replace hf := mx_sv_el hf; obtain ⟨u30, e_u30, hf⟩ := hf
        refine sx_cv hm dX11_applySimple_73 rs_RX11_322 mt_X11_push [.int 301] [] (b := l0) (ci := 11) rfl rfl rfl c29 (Nat.le_of_ble_eq_true rfl) (Nat.le_of_ble_eq_true rfl) (by omega) (by omega) (f_X11_push_ok X (by omega) (by omega) nn l0 301 u28 e_u30) ?_
        clear e_u30
        show mx_S X F L 352 76 [(0, .ref l0), (1, .int l1), (2, .int l2)] [] u30 0 0 (none, r, 0, 0)
        refine mx_S.pu (pc2 := 179) (lv2 := [(0, .ref l0), (1, .int l1), (2, .int l2)]) (st2 := []) hm dX11_applySimple_76 rfl ?_
        cases hf
        exact sx_ret hm dX11_applySimple_179 rfl
    · refine sb_ic_ne hm dX11_applySimple_35 (tgt := 48) rfl (fun z => absurd z c32) (fun _ => ?_)
      refine mx_S.ext [(0, .ref l0)] (mx_sub_pos [0] rfl (show ([0, 1, 2] : List Nat).Nodup by decide)) ?_
      exact j_X11_applySimple_38_ok X hF hL nn l0 h hf
set_option maxHeartbeats 4000000 in
set_option maxRecDepth 20000 in
theorem f_X11_applySimple_ok (X : Nat × (Nat → Int32)) {F L : Nat} (hF : 3 ≤ F) (hL : 70 ≤ L) (nn : Nat) (a0 : Nat) (a1 : Int32) (a2 : Int32) (h : mx_H) {r : mx_H} (hf : f_X11_applySimple nn a0 a1 a2 h = some r) : mx_R X F L 352 [.ref a0, .int a1, .int a2] h (none, r, 0, 0) := by
  have hm : mx_mt 352 = some (yX11_applySimple, cX11_applySimple, 3, none) := mt_X11_applySimple
  show mx_S X F L 352 0 [(0, .ref a0), (1, .int a1), (2, .int a2)] [] h 0 0 (none, r, 0, 0)
  unfold f_X11_applySimple at hf
  refine mx_S.pu (pc2 := 1) (lv2 := [(0, .ref a0), (1, .int a1), (2, .int a2)]) (st2 := [.int a1]) hm dX11_applySimple_0 rfl ?_
  refine sx_ic (v := 1) hm dX11_applySimple_1 (by decide) ?_
  rcases mx_if_el hf with ⟨c38, hf⟩ | ⟨c38, hf⟩
  · refine sb_ic_ne hm dX11_applySimple_2 (tgt := 15) rfl (fun _ => ?_) (fun z => absurd c38 z)
    refine mx_S.pu (pc2 := 16) (lv2 := [(0, .ref a0), (1, .int a1), (2, .int a2)]) (st2 := [.int a1]) hm dX11_applySimple_15 rfl ?_
    refine sx_ic (v := 2) hm dX11_applySimple_16 (by decide) ?_
    rcases mx_if_el hf with ⟨c35, hf⟩ | ⟨c35, hf⟩
    · refine sb_ic_lt hm dX11_applySimple_17 (tgt := 26) rfl (fun _ => ?_) (fun z => absurd c35 z)
      exact j_X11_applySimple_26_ok X hF hL nn a0 a1 a2 h hf
    · refine sb_ic_lt hm dX11_applySimple_17 (tgt := 26) rfl (fun z => absurd z c35) (fun _ => ?_)
      refine mx_S.pu (pc2 := 21) (lv2 := [(0, .ref a0), (1, .int a1), (2, .int a2)]) (st2 := [.int a1]) hm dX11_applySimple_20 rfl ?_
      refine sx_bi (v := 8) hm dX11_applySimple_21 (by decide) ?_
      rcases mx_if_el hf with ⟨c34, hf⟩ | ⟨c34, hf⟩
      · refine sb_ic_le hm dX11_applySimple_23 (tgt := 38) rfl (fun _ => ?_) (fun z => absurd c34 z)
        refine mx_S.ext [(0, .ref a0)] (mx_sub_pos [0] rfl (show ([0, 1, 2] : List Nat).Nodup by decide)) ?_
        exact j_X11_applySimple_38_ok X hF hL nn a0 h hf
      · refine sb_ic_le hm dX11_applySimple_23 (tgt := 38) rfl (fun z => absurd z c34) (fun _ => ?_)
        exact j_X11_applySimple_26_ok X hF hL nn a0 a1 a2 h hf
  · refine sb_ic_ne hm dX11_applySimple_2 (tgt := 15) rfl (fun z => absurd z c38) (fun _ => ?_)
    refine mx_S.pu (pc2 := 6) (lv2 := [(0, .ref a0), (1, .int a1), (2, .int a2)]) (st2 := [.ref a0]) hm dX11_applySimple_5 rfl ?_
    refine sx_si (v := 300) hm dX11_applySimple_6 (by decide) ?_
    replace hf := mx_gd_el hf; obtain ⟨c36, hf⟩ := hf
    replace hf := mx_sv_el hf; obtain ⟨u37, e_u37, hf⟩ := hf
    refine sx_cv hm dX11_applySimple_9 rs_RX11_322 mt_X11_push [.int 300] [] (b := a0) (ci := 11) rfl rfl rfl c36 (Nat.le_of_ble_eq_true rfl) (Nat.le_of_ble_eq_true rfl) (by omega) (by omega) (f_X11_push_ok X (by omega) (by omega) nn a0 300 h e_u37) ?_
    clear e_u37
    show mx_S X F L 352 12 [(0, .ref a0), (1, .int a1), (2, .int a2)] [] u37 0 0 (none, r, 0, 0)
    refine mx_S.pu (pc2 := 179) (lv2 := [(0, .ref a0), (1, .int a1), (2, .int a2)]) (st2 := []) hm dX11_applySimple_12 rfl ?_
    cases hf
    exact sx_ret hm dX11_applySimple_179 rfl
set_option maxHeartbeats 4000000 in
set_option maxRecDepth 20000 in
theorem f_X11_fits_ok (X : Nat × (Nat → Int32)) {F L : Nat} (hF : 1 ≤ F) (hL : 23 ≤ L) (nn : Nat) (a0 : Nat) (a1 : Int32) (a2 : Int32) (h : mx_H) {r : (Int32 × mx_H)} (hf : f_X11_fits nn a0 a1 a2 h = some r) : mx_R X F L 340 [.ref a0, .int a1, .int a2] h (some (.int r.1), r.2, 0, 0) := by
  have hm : mx_mt 340 = some (yX11_fits, cX11_fits, 3, (some .boolean)) := mt_X11_fits
  show mx_S X F L 340 0 [(0, .ref a0), (1, .int a1), (2, .int a2)] [] h 0 0 (some (.int r.1), r.2, 0, 0)
  unfold f_X11_fits at hf
  refine mx_S.pu (pc2 := 1) (lv2 := [(0, .ref a0), (1, .int a1), (2, .int a2)]) (st2 := [.int a2]) hm dX11_fits_0 rfl ?_
  refine sx_si (v := 304) hm dX11_fits_1 (by decide) ?_
  rcases mx_if_el hf with ⟨c5, hf⟩ | ⟨c5, hf⟩
  · refine sb_ic_eq hm dX11_fits_4 (tgt := 19) rfl (fun _ => ?_) (fun z => absurd c5 z)
    refine sx_ic (v := 1) hm dX11_fits_19 (by decide) ?_
    refine mx_S.pu (pc2 := 24) (lv2 := [(0, .ref a0), (1, .int a1), (2, .int a2)]) (st2 := [.int 1]) hm dX11_fits_20 rfl ?_
    cases hf
    exact sx_ire hm dX11_fits_24 rfl (by decide)
  · refine sb_ic_eq hm dX11_fits_4 (tgt := 19) rfl (fun z => absurd z c5) (fun _ => ?_)
    refine mx_S.pu (pc2 := 8) (lv2 := [(0, .ref a0), (1, .int a1), (2, .int a2)]) (st2 := [.ref a0]) hm dX11_fits_7 rfl ?_
    replace hf := mx_sv_el hf; obtain ⟨v1, e_v1, hf⟩ := hf
    refine sx_get hm dX11_fits_8 rs_RX11_60 (xgr_el e_v1) ?_
    clear e_v1
    refine mx_S.pu (pc2 := 12) (lv2 := [(0, .ref a0), (1, .int a1), (2, .int a2)]) (st2 := [.int a1, .ref v1]) hm dX11_fits_11 rfl ?_
    refine mx_S.pu (pc2 := 13) (lv2 := [(0, .ref a0), (1, .int a1), (2, .int a2)]) (st2 := [.int a2, .int a1, .ref v1]) hm dX11_fits_12 rfl ?_
    replace hf := mx_gd_el hf; obtain ⟨c2, hf⟩ := hf
    replace hf := mx_sv_el hf; obtain ⟨u3, e_u3, hf⟩ := hf
    refine sx_cv hm dX11_fits_13 rs_RX11_248 mt_X4_fits [.int a1, .int a2] [] (b := v1) (ci := 4) rfl rfl rfl c2 (Nat.le_of_ble_eq_true rfl) (Nat.le_of_ble_eq_true rfl) (by omega) (by omega) (f_X4_fits_ok X (by omega) (by omega) nn v1 a1 a2 h e_u3) ?_
    clear e_u3
    show mx_S X F L 340 16 [(0, .ref a0), (1, .int a1), (2, .int a2)] [.int u3.1] u3.2 0 0 (some (.int r.1), r.2, 0, 0)
    rcases mx_if_el hf with ⟨c4, hf⟩ | ⟨c4, hf⟩
    · refine sb_if_eq hm dX11_fits_16 (tgt := 23) rfl (fun _ => ?_) (fun z => absurd c4 z)
      refine sx_ic (v := 0) hm dX11_fits_23 (by decide) ?_
      cases hf
      exact sx_ire hm dX11_fits_24 rfl (by decide)
    · refine sb_if_eq hm dX11_fits_16 (tgt := 23) rfl (fun z => absurd z c4) (fun _ => ?_)
      refine sx_ic (v := 1) hm dX11_fits_19 (by decide) ?_
      refine mx_S.pu (pc2 := 24) (lv2 := [(0, .ref a0), (1, .int a1), (2, .int a2)]) (st2 := [.int 1]) hm dX11_fits_20 rfl ?_
      cases hf
      exact sx_ire hm dX11_fits_24 rfl (by decide)
