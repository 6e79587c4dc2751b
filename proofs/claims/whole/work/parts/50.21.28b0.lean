set_option maxHeartbeats 4000000 in
set_option maxRecDepth 20000 in
theorem j_X13_strength_146_ok (X : Nat × (Nat → Int32)) {F L : Nat} (hF : 1 ≤ F) (hL : 22 ≤ L) (nn : Nat) (h : mx_H) {r : (Int32 × mx_H)} (hf : j_X13_strength_146 nn h = some r) : mx_S X F L 408 146 [] [] h 0 0 (some (.int r.1), r.2, 0, 0) := by
  have hm : mx_mt 408 = some (yX13_strength, cX13_strength, 3, (some .int)) := mt_X13_strength
  unfold j_X13_strength_146 at hf
  refine sx_bi (v := 6) hm dX13_strength_146 (by decide) ?_
  cases hf
  exact sx_ire hm dX13_strength_148 rfl rfl
set_option maxHeartbeats 4000000 in
set_option maxRecDepth 20000 in
theorem f_X13_strength_ok (X : Nat × (Nat → Int32)) {F L : Nat} (hF : 1 ≤ F) (hL : 22 ≤ L) (nn : Nat) (a0 : Nat) (a1 : Int32) (h : mx_H) {r : (Int32 × mx_H)} (hf : f_X13_strength nn a0 a1 h = some r) : mx_R X F L 408 [.ref a0, .int a1] h (some (.int r.1), r.2, 0, 0) := by
  have hm : mx_mt 408 = some (yX13_strength, cX13_strength, 3, (some .int)) := mt_X13_strength
  show mx_S X F L 408 0 [(0, .ref a0), (1, .int a1)] [] h 0 0 (some (.int r.1), r.2, 0, 0)
  unfold f_X13_strength at hf
  refine mx_S.pu (pc2 := 1) (lv2 := [(0, .ref a0), (1, .int a1)]) (st2 := [.ref a0]) hm dX13_strength_0 rfl ?_
  refine mx_S.pu (pc2 := 2) (lv2 := [(0, .ref a0), (1, .int a1)]) (st2 := [.int a1, .ref a0]) hm dX13_strength_1 rfl ?_
  refine sx_bi (v := 9) hm dX13_strength_2 (by decide) ?_
  replace hf := mx_gd_el hf; obtain ⟨c1, hf⟩ := hf
  replace hf := mx_sv_el hf; obtain ⟨u2, e_u2, hf⟩ := hf
  refine sx_cv hm dX13_strength_4 rs_RX13_390 mt_X13_isWord [.int a1, .int 9] [] (b := a0) (ci := 13) rfl rfl rfl c1 (Nat.le_of_ble_eq_true rfl) (Nat.le_of_ble_eq_true rfl) (by omega) (by omega) (f_X13_isWord_ok X (by omega) (by omega) nn a0 a1 9 h e_u2) ?_
  clear e_u2
  show mx_S X F L 408 7 [(0, .ref a0), (1, .int a1)] [.int u2.1] u2.2 0 0 (some (.int r.1), r.2, 0, 0)
  rcases mx_if_el hf with ⟨c36, hf⟩ | ⟨c36, hf⟩
  · refine sb_if_eq hm dX13_strength_7 (tgt := 13) rfl (fun _ => ?_) (fun z => absurd c36 z)
    refine mx_S.pu (pc2 := 14) (lv2 := [(0, .ref a0), (1, .int a1)]) (st2 := [.ref a0]) hm dX13_strength_13 rfl ?_
    replace hf := mx_sv_el hf; obtain ⟨v3, e_v3, hf⟩ := hf
    refine sx_get hm dX13_strength_14 rs_RX13_16 (xgr_el e_v3) ?_
    clear e_v3
    refine mx_S.pu (pc2 := 18) (lv2 := [(0, .ref a0), (1, .int a1)]) (st2 := [.int a1, .ref v3]) hm dX13_strength_17 rfl ?_
    replace hf := mx_sv_el hf; obtain ⟨v4, e_v4, hf⟩ := hf
    refine sx_ald hm dX13_strength_18 e_v4 ?_
    clear e_v4
    refine sx_ic (v := 4) hm dX13_strength_19 (by decide) ?_
    rcases mx_if_el hf with ⟨c35, hf⟩ | ⟨c35, hf⟩
    · refine sb_ic_eq hm dX13_strength_20 (tgt := 25) rfl (fun _ => ?_) (fun z => absurd c35 z)
      refine mx_S.pu (pc2 := 26) (lv2 := [(0, .ref a0), (1, .int a1)]) (st2 := [.ref a0]) hm dX13_strength_25 rfl ?_
      replace hf := mx_sv_el hf; obtain ⟨v5, e_v5, hf⟩ := hf
      refine sx_get hm dX13_strength_26 rs_RX13_25 (xgr_el e_v5) ?_
      clear e_v5
      refine mx_S.pu (pc2 := 30) (lv2 := [(0, .ref a0), (1, .int a1)]) (st2 := [.int a1, .ref v5]) hm dX13_strength_29 rfl ?_
      replace hf := mx_sv_el hf; obtain ⟨v6, e_v6, hf⟩ := hf
      refine sx_ald hm dX13_strength_30 e_v6 ?_
      clear e_v6
      refine mx_S.pu (pc2 := 32) (lv2 := [(2, .int v6), (0, .ref a0), (1, .int a1)]) (st2 := []) hm dX13_strength_31 rfl ?_
      refine mx_S.pu (pc2 := 33) (lv2 := [(2, .int v6), (0, .ref a0), (1, .int a1)]) (st2 := [.int v6]) hm dX13_strength_32 rfl ?_
      refine sx_ic (v := 0) hm dX13_strength_33 (by decide) ?_
      refine sx_bi (v := 124) hm dX13_strength_34 (by decide) ?_
      refine sx_bi (v := 124) hm dX13_strength_36 (by decide) ?_
      replace hf := mx_sv_el hf; obtain ⟨u7, e_u7, hf⟩ := hf
      refine sx_cs hm dX13_strength_38 rs_RX13_454 mt_X13_sign [.int 0, .int 124, .int 124] [.int v6] rfl rfl (Nat.le_of_ble_eq_true rfl) (Nat.le_of_ble_eq_true rfl) (by omega) (by omega) (f_X13_sign_ok X (by omega) (by omega) nn 0 124 124 u2.2 e_u7) ?_
      clear e_u7
      show mx_S X F L 408 41 [(2, .int v6), (0, .ref a0), (1, .int a1)] [.int u7.1, .int v6] u7.2 0 0 (some (.int r.1), r.2, 0, 0)
      rcases mx_if_el hf with ⟨c34, hf⟩ | ⟨c34, hf⟩
      · refine sb_ic_ne hm dX13_strength_41 (tgt := 46) rfl (fun _ => ?_) (fun z => absurd c34 z)
        refine mx_S.pu (pc2 := 47) (lv2 := [(2, .int v6), (0, .ref a0), (1, .int a1)]) (st2 := [.int v6]) hm dX13_strength_46 rfl ?_
        refine sx_ic (v := 0) hm dX13_strength_47 (by decide) ?_
        refine sx_bi (v := 38) hm dX13_strength_48 (by decide) ?_
        refine sx_bi (v := 38) hm dX13_strength_50 (by decide) ?_
        replace hf := mx_sv_el hf; obtain ⟨u8, e_u8, hf⟩ := hf
        refine sx_cs hm dX13_strength_52 rs_RX13_454 mt_X13_sign [.int 0, .int 38, .int 38] [.int v6] rfl rfl (Nat.le_of_ble_eq_true rfl) (Nat.le_of_ble_eq_true rfl) (by omega) (by omega) (f_X13_sign_ok X (by omega) (by omega) nn 0 38 38 u7.2 e_u8) ?_
        clear e_u8
        show mx_S X F L 408 55 [(2, .int v6), (0, .ref a0), (1, .int a1)] [.int u8.1, .int v6] u8.2 0 0 (some (.int r.1), r.2, 0, 0)
        rcases mx_if_el hf with ⟨c33, hf⟩ | ⟨c33, hf⟩
        · refine sb_ic_ne hm dX13_strength_55 (tgt := 60) rfl (fun _ => ?_) (fun z => absurd c33 z)
          refine mx_S.pu (pc2 := 61) (lv2 := [(2, .int v6), (0, .ref a0), (1, .int a1)]) (st2 := [.int v6]) hm dX13_strength_60 rfl ?_
          refine sx_bi (v := 124) hm dX13_strength_61 (by decide) ?_
          rcases mx_if_el hf with ⟨c32, hf⟩ | ⟨c32, hf⟩
          · refine sb_ic_ne hm dX13_strength_63 (tgt := 68) rfl (fun _ => ?_) (fun z => absurd c32 z)
            refine mx_S.pu (pc2 := 69) (lv2 := [(2, .int v6), (0, .ref a0), (1, .int a1)]) (st2 := [.int v6]) hm dX13_strength_68 rfl ?_
            refine sx_bi (v := 94) hm dX13_strength_69 (by decide) ?_
            rcases mx_if_el hf with ⟨c31, hf⟩ | ⟨c31, hf⟩
            · refine sb_ic_ne hm dX13_strength_71 (tgt := 76) rfl (fun _ => ?_) (fun z => absurd c31 z)
              refine mx_S.pu (pc2 := 77) (lv2 := [(2, .int v6), (0, .ref a0), (1, .int a1)]) (st2 := [.int v6]) hm dX13_strength_76 rfl ?_
              refine sx_bi (v := 38) hm dX13_strength_77 (by decide) ?_
              rcases mx_if_el hf with ⟨c30, hf⟩ | ⟨c30, hf⟩
              · refine sb_ic_ne hm dX13_strength_79 (tgt := 84) rfl (fun _ => ?_) (fun z => absurd c30 z)
                refine mx_S.pu (pc2 := 85) (lv2 := [(2, .int v6), (0, .ref a0), (1, .int a1)]) (st2 := [.int v6]) hm dX13_strength_84 rfl ?_
                refine sx_ic (v := 0) hm dX13_strength_85 (by decide) ?_
                refine sx_bi (v := 61) hm dX13_strength_86 (by decide) ?_
                refine sx_bi (v := 61) hm dX13_strength_88 (by decide) ?_
                replace hf := mx_sv_el hf; obtain ⟨u9, e_u9, hf⟩ := hf
                refine sx_cs hm dX13_strength_90 rs_RX13_454 mt_X13_sign [.int 0, .int 61, .int 61] [.int v6] rfl rfl (Nat.le_of_ble_eq_true rfl) (Nat.le_of_ble_eq_true rfl) (by omega) (by omega) (f_X13_sign_ok X (by omega) (by omega) nn 0 61 61 u8.2 e_u9) ?_
                clear e_u9
                show mx_S X F L 408 93 [(2, .int v6), (0, .ref a0), (1, .int a1)] [.int u9.1, .int v6] u9.2 0 0 (some (.int r.1), r.2, 0, 0)
                rcases mx_if_el hf with ⟨c29, hf⟩ | ⟨c29, hf⟩
                · refine sb_ic_eq hm dX13_strength_93 (tgt := 108) rfl (fun _ => ?_) (fun z => absurd c29 z)
                  refine sx_ic (v := 5) hm dX13_strength_108 (by decide) ?_
                  cases hf
                  exact sx_ire hm dX13_strength_109 rfl rfl
                · refine sb_ic_eq hm dX13_strength_93 (tgt := 108) rfl (fun z => absurd z c29) (fun _ => ?_)
                  refine mx_S.pu (pc2 := 97) (lv2 := [(2, .int v6), (0, .ref a0), (1, .int a1)]) (st2 := [.int v6]) hm dX13_strength_96 rfl ?_
                  refine sx_ic (v := 0) hm dX13_strength_97 (by decide) ?_
                  refine sx_bi (v := 33) hm dX13_strength_98 (by decide) ?_
                  refine sx_bi (v := 61) hm dX13_strength_100 (by decide) ?_
                  replace hf := mx_sv_el hf; obtain ⟨u10, e_u10, hf⟩ := hf
                  refine sx_cs hm dX13_strength_102 rs_RX13_454 mt_X13_sign [.int 0, .int 33, .int 61] [.int v6] rfl rfl (Nat.le_of_ble_eq_true rfl) (Nat.le_of_ble_eq_true rfl) (by omega) (by omega) (f_X13_sign_ok X (by omega) (by omega) nn 0 33 61 u9.2 e_u10) ?_
                  clear e_u10
                  show mx_S X F L 408 105 [(2, .int v6), (0, .ref a0), (1, .int a1)] [.int u10.1, .int v6] u10.2 0 0 (some (.int r.1), r.2, 0, 0)
                  rcases mx_if_el hf with ⟨c28, hf⟩ | ⟨c28, hf⟩
                  · refine sb_ic_ne hm dX13_strength_105 (tgt := 110) rfl (fun _ => ?_) (fun z => absurd c28 z)
                    refine mx_S.pu (pc2 := 111) (lv2 := [(2, .int v6), (0, .ref a0), (1, .int a1)]) (st2 := [.int v6]) hm dX13_strength_110 rfl ?_
                    refine sx_bi (v := 60) hm dX13_strength_111 (by decide) ?_
                    rcases mx_if_el hf with ⟨c27, hf⟩ | ⟨c27, hf⟩
                    · refine sb_ic_eq hm dX13_strength_113 (tgt := 146) rfl (fun _ => ?_) (fun z => absurd c27 z)
                      refine mx_S.ext [] (mx_sub_pos [] rfl (show ([2, 0, 1] : List Nat).Nodup by decide)) ?_
                      exact j_X13_strength_146_ok X hF hL nn u10.2 hf
                    · refine sb_ic_eq hm dX13_strength_113 (tgt := 146) rfl (fun z => absurd z c27) (fun _ => ?_)
                      refine mx_S.pu (pc2 := 117) (lv2 := [(2, .int v6), (0, .ref a0), (1, .int a1)]) (st2 := [.int v6]) hm dX13_strength_116 rfl ?_
                      refine sx_bi (v := 62) hm dX13_strength_117 (by decide) ?_
                      rcases mx_if_el hf with ⟨c26, hf⟩ | ⟨c26, hf⟩
                      · refine sb_ic_eq hm dX13_strength_119 (tgt := 146) rfl (fun _ => ?_) (fun z => absurd c26 z)
                        refine mx_S.ext [] (mx_sub_pos [] rfl (show ([2, 0, 1] : List Nat).Nodup by decide)) ?_
                        exact j_X13_strength_146_ok X hF hL nn u10.2 hf
                      · refine sb_ic_eq hm dX13_strength_119 (tgt := 146) rfl (fun z => absurd z c26) (fun _ => ?_)
                        refine mx_S.pu (pc2 := 123) (lv2 := [(2, .int v6), (0, .ref a0), (1, .int a1)]) (st2 := [.int v6]) hm dX13_strength_122 rfl ?_
                        refine sx_ic (v := 0) hm dX13_strength_123 (by decide) ?_
                        refine sx_bi (v := 60) hm dX13_strength_124 (by decide) ?_
                        refine sx_bi (v := 61) hm dX13_strength_126 (by decide) ?_
                        replace hf := mx_sv_el hf; obtain ⟨u11, e_u11, hf⟩ := hf
                        refine sx_cs hm dX13_strength_128 rs_RX13_454 mt_X13_sign [.int 0, .int 60, .int 61] [.int v6] rfl rfl (Nat.le_of_ble_eq_true rfl) (Nat.le_of_ble_eq_true rfl) (by omega) (by omega) (f_X13_sign_ok X (by omega) (by omega) nn 0 60 61 u10.2 e_u11) ?_
                        clear e_u11
                        show mx_S X F L 408 131 [(2, .int v6), (0, .ref a0), (1, .int a1)] [.int u11.1, .int v6] u11.2 0 0 (some (.int r.1), r.2, 0, 0)
                        rcases mx_if_el hf with ⟨c25, hf⟩ | ⟨c25, hf⟩
                        · refine sb_ic_eq hm dX13_strength_131 (tgt := 146) rfl (fun _ => ?_) (fun z => absurd c25 z)
                          refine mx_S.ext [] (mx_sub_pos [] rfl (show ([2, 0, 1] : List Nat).Nodup by decide)) ?_
                          exact j_X13_strength_146_ok X hF hL nn u11.2 hf
                        · refine sb_ic_eq hm dX13_strength_131 (tgt := 146) rfl (fun z => absurd z c25) (fun _ => ?_)
                          refine mx_S.pu (pc2 := 135) (lv2 := [(2, .int v6), (0, .ref a0), (1, .int a1)]) (st2 := [.int v6]) hm dX13_strength_134 rfl ?_
                          refine sx_ic (v := 0) hm dX13_strength_135 (by decide) ?_
                          refine sx_bi (v := 62) hm dX13_strength_136 (by decide) ?_
                          refine sx_bi (v := 61) hm dX13_strength_138 (by decide) ?_
                          replace hf := mx_sv_el hf; obtain ⟨u12, e_u12, hf⟩ := hf
                          refine sx_cs hm dX13_strength_140 rs_RX13_454 mt_X13_sign [.int 0, .int 62, .int 61] [.int v6] rfl rfl (Nat.le_of_ble_eq_true rfl) (Nat.le_of_ble_eq_true rfl) (by omega) (by omega) (f_X13_sign_ok X (by omega) (by omega) nn 0 62 61 u11.2 e_u12) ?_
                          clear e_u12
                          show mx_S X F L 408 143 [(2, .int v6), (0, .ref a0), (1, .int a1)] [.int u12.1, .int v6] u12.2 0 0 (some (.int r.1), r.2, 0, 0)
                          rcases mx_if_el hf with ⟨c24, hf⟩ | ⟨c24, hf⟩
                          · refine sb_ic_ne hm dX13_strength_143 (tgt := 149) rfl (fun _ => ?_) (fun z => absurd c24 z)
                            refine mx_S.pu (pc2 := 150) (lv2 := [(2, .int v6), (0, .ref a0), (1, .int a1)]) (st2 := [.int v6]) hm dX13_strength_149 rfl ?_
                            refine sx_ic (v := 0) hm dX13_strength_150 (by decide) ?_
                            refine sx_bi (v := 60) hm dX13_strength_151 (by decide) ?_
                            refine sx_bi (v := 60) hm dX13_strength_153 (by decide) ?_
                            replace hf := mx_sv_el hf; obtain ⟨u13, e_u13, hf⟩ := hf
                            refine sx_cs hm dX13_strength_155 rs_RX13_454 mt_X13_sign [.int 0, .int 60, .int 60] [.int v6] rfl rfl (Nat.le_of_ble_eq_true rfl) (Nat.le_of_ble_eq_true rfl) (by omega) (by omega) (f_X13_sign_ok X (by omega) (by omega) nn 0 60 60 u12.2 e_u13) ?_
                            clear e_u13
                            show mx_S X F L 408 158 [(2, .int v6), (0, .ref a0), (1, .int a1)] [.int u13.1, .int v6] u13.2 0 0 (some (.int r.1), r.2, 0, 0)
                            rcases mx_if_el hf with ⟨c23, hf⟩ | ⟨c23, hf⟩
                            · refine sb_ic_eq hm dX13_strength_158 (tgt := 186) rfl (fun _ => ?_) (fun z => absurd c23 z)
                              refine sx_bi (v := 7) hm dX13_strength_186 (by decide) ?_
                              cases hf
                              exact sx_ire hm dX13_strength_188 rfl rfl
                            · refine sb_ic_eq hm dX13_strength_158 (tgt := 186) rfl (fun z => absurd z c23) (fun _ => ?_)
                              refine mx_S.pu (pc2 := 162) (lv2 := [(2, .int v6), (0, .ref a0), (1, .int a1)]) (st2 := [.int v6]) hm dX13_strength_161 rfl ?_
                              refine sx_ic (v := 0) hm dX13_strength_162 (by decide) ?_
                              refine sx_bi (v := 62) hm dX13_strength_163 (by decide) ?_
                              refine sx_bi (v := 62) hm dX13_strength_165 (by decide) ?_
                              replace hf := mx_sv_el hf; obtain ⟨u14, e_u14, hf⟩ := hf
                              refine sx_cs hm dX13_strength_167 rs_RX13_454 mt_X13_sign [.int 0, .int 62, .int 62] [.int v6] rfl rfl (Nat.le_of_ble_eq_true rfl) (Nat.le_of_ble_eq_true rfl) (by omega) (by omega) (f_X13_sign_ok X (by omega) (by omega) nn 0 62 62 u13.2 e_u14) ?_
                              clear e_u14
                              show mx_S X F L 408 170 [(2, .int v6), (0, .ref a0), (1, .int a1)] [.int u14.1, .int v6] u14.2 0 0 (some (.int r.1), r.2, 0, 0)
                              rcases mx_if_el hf with ⟨c22, hf⟩ | ⟨c22, hf⟩
                              · refine sb_ic_eq hm dX13_strength_170 (tgt := 186) rfl (fun _ => ?_) (fun z => absurd c22 z)
                                refine sx_bi (v := 7) hm dX13_strength_186 (by decide) ?_
                                cases hf
                                exact sx_ire hm dX13_strength_188 rfl rfl
                              · refine sb_ic_eq hm dX13_strength_170 (tgt := 186) rfl (fun z => absurd z c22) (fun _ => ?_)
                                refine mx_S.pu (pc2 := 174) (lv2 := [(2, .int v6), (0, .ref a0), (1, .int a1)]) (st2 := [.int v6]) hm dX13_strength_173 rfl ?_
                                refine sx_bi (v := 62) hm dX13_strength_174 (by decide) ?_
                                refine sx_bi (v := 62) hm dX13_strength_176 (by decide) ?_
                                refine sx_bi (v := 62) hm dX13_strength_178 (by decide) ?_
                                replace hf := mx_sv_el hf; obtain ⟨u15, e_u15, hf⟩ := hf
                                refine sx_cs hm dX13_strength_180 rs_RX13_454 mt_X13_sign [.int 62, .int 62, .int 62] [.int v6] rfl rfl (Nat.le_of_ble_eq_true rfl) (Nat.le_of_ble_eq_true rfl) (by omega) (by omega) (f_X13_sign_ok X (by omega) (by omega) nn 62 62 62 u14.2 e_u15) ?_
                                clear e_u15
                                show mx_S X F L 408 183 [(2, .int v6), (0, .ref a0), (1, .int a1)] [.int u15.1, .int v6] u15.2 0 0 (some (.int r.1), r.2, 0, 0)
                                rcases mx_if_el hf with ⟨c21, hf⟩ | ⟨c21, hf⟩
                                · refine sb_ic_ne hm dX13_strength_183 (tgt := 189) rfl (fun _ => ?_) (fun z => absurd c21 z)
                                  refine mx_S.pu (pc2 := 190) (lv2 := [(2, .int v6), (0, .ref a0), (1, .int a1)]) (st2 := [.int v6]) hm dX13_strength_189 rfl ?_
                                  refine sx_bi (v := 43) hm dX13_strength_190 (by decide) ?_
                                  rcases mx_if_el hf with ⟨c20, hf⟩ | ⟨c20, hf⟩
                                  · refine sb_ic_eq hm dX13_strength_192 (tgt := 201) rfl (fun _ => ?_) (fun z => absurd c20 z)
                                    refine sx_bi (v := 8) hm dX13_strength_201 (by decide) ?_
                                    cases hf
                                    exact sx_ire hm dX13_strength_203 rfl rfl
                                  · refine sb_ic_eq hm dX13_strength_192 (tgt := 201) rfl (fun z => absurd z c20) (fun _ => ?_)
                                    refine mx_S.pu (pc2 := 196) (lv2 := [(2, .int v6), (0, .ref a0), (1, .int a1)]) (st2 := [.int v6]) hm dX13_strength_195 rfl ?_
                                    refine sx_bi (v := 45) hm dX13_strength_196 (by decide) ?_
                                    rcases mx_if_el hf with ⟨c19, hf⟩ | ⟨c19, hf⟩
                                    · refine sb_ic_ne hm dX13_strength_198 (tgt := 204) rfl (fun _ => ?_) (fun z => absurd c19 z)
                                      refine mx_S.pu (pc2 := 205) (lv2 := [(2, .int v6), (0, .ref a0), (1, .int a1)]) (st2 := [.int v6]) hm dX13_strength_204 rfl ?_
                                      refine sx_bi (v := 42) hm dX13_strength_205 (by decide) ?_
                                      rcases mx_if_el hf with ⟨c18, hf⟩ | ⟨c18, hf⟩
                                      · refine sb_ic_eq hm dX13_strength_207 (tgt := 222) rfl (fun _ => ?_) (fun z => absurd c18 z)
                                        refine sx_bi (v := 9) hm dX13_strength_222 (by decide) ?_
                                        refine mx_S.pu (pc2 := 228) (lv2 := [(2, .int v6), (0, .ref a0), (1, .int a1)]) (st2 := [.int 9]) hm dX13_strength_224 rfl ?_
                                        cases hf
                                        exact sx_ire hm dX13_strength_228 rfl rfl
                                      · refine sb_ic_eq hm dX13_strength_207 (tgt := 222) rfl (fun z => absurd z c18) (fun _ => ?_)
                                        refine mx_S.pu (pc2 := 211) (lv2 := [(2, .int v6), (0, .ref a0), (1, .int a1)]) (st2 := [.int v6]) hm dX13_strength_210 rfl ?_
                                        refine sx_bi (v := 47) hm dX13_strength_211 (by decide) ?_
                                        rcases mx_if_el hf with ⟨c17, hf⟩ | ⟨c17, hf⟩
                                        · refine sb_ic_eq hm dX13_strength_213 (tgt := 222) rfl (fun _ => ?_) (fun z => absurd c17 z)
                                          refine sx_bi (v := 9) hm dX13_strength_222 (by decide) ?_
                                          refine mx_S.pu (pc2 := 228) (lv2 := [(2, .int v6), (0, .ref a0), (1, .int a1)]) (st2 := [.int 9]) hm dX13_strength_224 rfl ?_
                                          cases hf
                                          exact sx_ire hm dX13_strength_228 rfl rfl
                                        · refine sb_ic_eq hm dX13_strength_213 (tgt := 222) rfl (fun z => absurd z c17) (fun _ => ?_)
                                          refine mx_S.pu (pc2 := 217) (lv2 := [(2, .int v6), (0, .ref a0), (1, .int a1)]) (st2 := [.int v6]) hm dX13_strength_216 rfl ?_
                                          refine sx_bi (v := 37) hm dX13_strength_217 (by decide) ?_
                                          rcases mx_if_el hf with ⟨c16, hf⟩ | ⟨c16, hf⟩
                                          · refine sb_ic_ne hm dX13_strength_219 (tgt := 227) rfl (fun _ => ?_) (fun z => absurd c16 z)
                                            refine sx_ic (v := (-1)) hm dX13_strength_227 (by decide) ?_
                                            cases hf
                                            exact sx_ire hm dX13_strength_228 rfl rfl
                                          · refine sb_ic_ne hm dX13_strength_219 (tgt := 227) rfl (fun z => absurd z c16) (fun _ => ?_)
                                            refine sx_bi (v := 9) hm dX13_strength_222 (by decide) ?_
                                            refine mx_S.pu (pc2 := 228) (lv2 := [(2, .int v6), (0, .ref a0), (1, .int a1)]) (st2 := [.int 9]) hm dX13_strength_224 rfl ?_
                                            cases hf
                                            exact sx_ire hm dX13_strength_228 rfl rfl
                                    · refine sb_ic_ne hm dX13_strength_198 (tgt := 204) rfl (fun z => absurd z c19) (fun _ => ?_)
                                      refine sx_bi (v := 8) hm dX13_strength_201 (by decide) ?_
                                      cases hf
                                      exact sx_ire hm dX13_strength_203 rfl rfl
                                · refine sb_ic_ne hm dX13_strength_183 (tgt := 189) rfl (fun z => absurd z c21) (fun _ => ?_)
                                  refine sx_bi (v := 7) hm dX13_strength_186 (by decide) ?_
                                  cases hf
                                  exact sx_ire hm dX13_strength_188 rfl rfl
                          · refine sb_ic_ne hm dX13_strength_143 (tgt := 149) rfl (fun z => absurd z c24) (fun _ => ?_)
                            refine mx_S.ext [] (mx_sub_pos [] rfl (show ([2, 0, 1] : List Nat).Nodup by decide)) ?_
                            exact j_X13_strength_146_ok X hF hL nn u12.2 hf
                  · refine sb_ic_ne hm dX13_strength_105 (tgt := 110) rfl (fun z => absurd z c28) (fun _ => ?_)
                    refine sx_ic (v := 5) hm dX13_strength_108 (by decide) ?_
                    cases hf
                    exact sx_ire hm dX13_strength_109 rfl rfl
              · refine sb_ic_ne hm dX13_strength_79 (tgt := 84) rfl (fun z => absurd z c30) (fun _ => ?_)
                refine sx_ic (v := 4) hm dX13_strength_82 (by decide) ?_
                cases hf
                exact sx_ire hm dX13_strength_83 rfl rfl
            · refine sb_ic_ne hm dX13_strength_71 (tgt := 76) rfl (fun z => absurd z c31) (fun _ => ?_)
              refine sx_ic (v := 3) hm dX13_strength_74 (by decide) ?_
              cases hf
              exact sx_ire hm dX13_strength_75 rfl rfl
          · refine sb_ic_ne hm dX13_strength_63 (tgt := 68) rfl (fun z => absurd z c32) (fun _ => ?_)
            refine sx_ic (v := 2) hm dX13_strength_66 (by decide) ?_
            cases hf
            exact sx_ire hm dX13_strength_67 rfl rfl
        · refine sb_ic_ne hm dX13_strength_55 (tgt := 60) rfl (fun z => absurd z c33) (fun _ => ?_)
          refine sx_ic (v := 1) hm dX13_strength_58 (by decide) ?_
          cases hf
          exact sx_ire hm dX13_strength_59 rfl rfl
      · refine sb_ic_ne hm dX13_strength_41 (tgt := 46) rfl (fun z => absurd z c34) (fun _ => ?_)
        refine sx_ic (v := 0) hm dX13_strength_44 (by decide) ?_
        cases hf
        exact sx_ire hm dX13_strength_45 rfl rfl
    · refine sb_ic_eq hm dX13_strength_20 (tgt := 25) rfl (fun z => absurd z c35) (fun _ => ?_)
      refine sx_ic (v := (-1)) hm dX13_strength_23 (by decide) ?_
      cases hf
      exact sx_ire hm dX13_strength_24 rfl rfl
  · refine sb_if_eq hm dX13_strength_7 (tgt := 13) rfl (fun z => absurd z c36) (fun _ => ?_)
    refine sx_bi (v := 6) hm dX13_strength_10 (by decide) ?_
    cases hf
    exact sx_ire hm dX13_strength_12 rfl rfl
set_option maxHeartbeats 4000000 in
set_option maxRecDepth 20000 in
theorem j_X13_among_119_ok (X : Nat × (Nat → Int32)) {F L : Nat} (hF : 4 ≤ F) (hL : 85 ≤ L) (nn : Nat) {kk_6 : Nat → Nat → Int32 → Int32 → Int32 → Int32 → mx_H → Option (Int32 × mx_H)} (hk_6 : ∀ (l0 : Nat) (l1 : Nat) (l2 : Int32) (l3 : Int32) (l4 : Int32) (l5 : Int32) (h : mx_H) (r : (Int32 × mx_H)), kk_6 l0 l1 l2 l3 l4 l5 h = some r → mx_S X F L 387 6 [(0, .ref l0), (1, .ref l1), (2, .int l2), (3, .int l3), (4, .int l4), (5, .int l5)] [] h 0 0 (some (.int r.1), r.2, 0, 0)) (l0 : Nat) (l1 : Nat) (l2 : Int32) (l3 : Int32) (l4 : Int32) (l5 : Int32) (l6 : Int32) (h : mx_H) {r : (Int32 × mx_H)} (hf : j_X13_among_119 nn kk_6 l0 l1 l2 l3 l4 l5 l6 h = some r) : mx_S X F L 387 119 [(0, .ref l0), (1, .ref l1), (2, .int l2), (3, .int l3), (4, .int l4), (5, .int l5), (6, .int l6)] [] h 0 0 (some (.int r.1), r.2, 0, 0) := by
  have hm : mx_mt 387 = some (yX13_among, cX13_among, 8, (some .int)) := mt_X13_among
  unfold j_X13_among_119 at hf
  refine mx_S.pu (pc2 := 121) (lv2 := [(0, .ref l0), (1, .ref l1), (2, .int l2), (3, .int l3), (4, .int l4), (5, .int l5), (6, .int l6)]) (st2 := [.int l6]) hm dX13_among_119 rfl ?_
  rcases mx_if_el hf with ⟨c2, hf⟩ | ⟨c2, hf⟩
  · refine sb_if_eq hm dX13_among_121 (tgt := 127) rfl (fun _ => ?_) (fun z => absurd c2 z)
    replace hf := xl_el hf; obtain ⟨v1, e_v1, hf⟩ := hf
    refine mx_S.pu (pc2 := 130) (lv2 := [(5, .int v1), (0, .ref l0), (1, .ref l1), (2, .int l2), (3, .int l3), (4, .int l4), (6, .int l6)]) (st2 := []) hm dX13_among_127 (by rw [← e_v1]; rfl) ?_
    clear e_v1
    refine mx_S.pu (pc2 := 6) (lv2 := [(5, .int v1), (0, .ref l0), (1, .ref l1), (2, .int l2), (3, .int l3), (4, .int l4), (6, .int l6)]) (st2 := []) hm dX13_among_130 rfl ?_
    refine mx_S.ext [(0, .ref l0), (1, .ref l1), (2, .int l2), (3, .int l3), (4, .int l4), (5, .int v1)] (mx_sub_pos [1, 2, 3, 4, 5, 0] rfl (show ([5, 0, 1, 2, 3, 4, 6] : List Nat).Nodup by decide)) ?_
    exact hk_6 l0 l1 l2 l3 l4 v1 h _ hf
  · refine sb_if_eq hm dX13_among_121 (tgt := 127) rfl (fun z => absurd z c2) (fun _ => ?_)
    refine mx_S.pu (pc2 := 126) (lv2 := [(0, .ref l0), (1, .ref l1), (2, .int l2), (3, .int l3), (4, .int l4), (5, .int l5), (6, .int l6)]) (st2 := [.int l4]) hm dX13_among_124 rfl ?_
    cases hf
    exact sx_ire hm dX13_among_126 rfl rfl
set_option maxHeartbeats 4000000 in
set_option maxRecDepth 20000 in
theorem w_X13_among_72_ok (X : Nat × (Nat → Int32)) {F L : Nat} (hF : 4 ≤ F) (hL : 85 ≤ L) (nn : Nat) {kk_6 : Nat → Nat → Int32 → Int32 → Int32 → Int32 → mx_H → Option (Int32 × mx_H)} (hk_6 : ∀ (l0 : Nat) (l1 : Nat) (l2 : Int32) (l3 : Int32) (l4 : Int32) (l5 : Int32) (h : mx_H) (r : (Int32 × mx_H)), kk_6 l0 l1 l2 l3 l4 l5 h = some r → mx_S X F L 387 6 [(0, .ref l0), (1, .ref l1), (2, .int l2), (3, .int l3), (4, .int l4), (5, .int l5)] [] h 0 0 (some (.int r.1), r.2, 0, 0)) : ∀ (k : Nat) (l0 : Nat) (l1 : Nat) (l2 : Int32) (l3 : Int32) (l4 : Int32) (l5 : Int32) (l6 : Int32) (l7 : Int32) (h : mx_H) (r : (Int32 × mx_H)), w_X13_among_72 nn kk_6 k l0 l1 l2 l3 l4 l5 l6 l7 h = some r → mx_S X F L 387 72 [(0, .ref l0), (1, .ref l1), (2, .int l2), (3, .int l3), (4, .int l4), (5, .int l5), (6, .int l6), (7, .int l7)] [] h 0 0 (some (.int r.1), r.2, 0, 0) := by
  have hm : mx_mt 387 = some (yX13_among, cX13_among, 8, (some .int)) := mt_X13_among
  intro k
  induction k with
  | zero => intro l0 l1 l2 l3 l4 l5 l6 l7 h r hf; cases hf
  | succ k ih =>
    intro l0 l1 l2 l3 l4 l5 l6 l7 h r hf
    unfold w_X13_among_72 at hf
    refine mx_S.pu (pc2 := 74) (lv2 := [(0, .ref l0), (1, .ref l1), (2, .int l2), (3, .int l3), (4, .int l4), (5, .int l5), (6, .int l6), (7, .int l7)]) (st2 := [.int l7]) hm dX13_among_72 rfl ?_
    refine mx_S.pu (pc2 := 75) (lv2 := [(0, .ref l0), (1, .ref l1), (2, .int l2), (3, .int l3), (4, .int l4), (5, .int l5), (6, .int l6), (7, .int l7)]) (st2 := [.int l3, .int l7]) hm dX13_among_74 rfl ?_
    rcases mx_if_el hf with ⟨c13, hf⟩ | ⟨c13, hf⟩
    · refine sb_ic_ge hm dX13_among_75 (tgt := 119) rfl (fun _ => ?_) (fun z => absurd c13 z)
      refine mx_S.ext [(0, .ref l0), (1, .ref l1), (2, .int l2), (3, .int l3), (4, .int l4), (5, .int l5), (6, .int l6)] (mx_sub_pos [0, 1, 2, 3, 4, 5, 6] rfl (show ([0, 1, 2, 3, 4, 5, 6, 7] : List Nat).Nodup by decide)) ?_
      exact j_X13_among_119_ok X hF hL nn hk_6 l0 l1 l2 l3 l4 l5 l6 h hf
    · refine sb_ic_ge hm dX13_among_75 (tgt := 119) rfl (fun z => absurd z c13) (fun _ => ?_)
      refine mx_S.pu (pc2 := 80) (lv2 := [(0, .ref l0), (1, .ref l1), (2, .int l2), (3, .int l3), (4, .int l4), (5, .int l5), (6, .int l6), (7, .int l7)]) (st2 := [.int l6]) hm dX13_among_78 rfl ?_
      rcases mx_if_el hf with ⟨c12, hf⟩ | ⟨c12, hf⟩
      · refine sb_if_eq hm dX13_among_80 (tgt := 119) rfl (fun _ => ?_) (fun z => absurd c12 z)
        refine mx_S.ext [(0, .ref l0), (1, .ref l1), (2, .int l2), (3, .int l3), (4, .int l4), (5, .int l5), (6, .int l6)] (mx_sub_pos [0, 1, 2, 3, 4, 5, 6] rfl (show ([0, 1, 2, 3, 4, 5, 6, 7] : List Nat).Nodup by decide)) ?_
        exact j_X13_among_119_ok X hF hL nn hk_6 l0 l1 l2 l3 l4 l5 l6 h hf
      · refine sb_if_eq hm dX13_among_80 (tgt := 119) rfl (fun z => absurd z c12) (fun _ => ?_)
        refine mx_S.pu (pc2 := 84) (lv2 := [(0, .ref l0), (1, .ref l1), (2, .int l2), (3, .int l3), (4, .int l4), (5, .int l5), (6, .int l6), (7, .int l7)]) (st2 := [.ref l1]) hm dX13_among_83 rfl ?_
        refine mx_S.pu (pc2 := 86) (lv2 := [(0, .ref l0), (1, .ref l1), (2, .int l2), (3, .int l3), (4, .int l4), (5, .int l5), (6, .int l6), (7, .int l7)]) (st2 := [.int l5, .ref l1]) hm dX13_among_84 rfl ?_
        refine sx_ic (v := 1) hm dX13_among_86 (by decide) ?_
        replace hf := xl_el hf; obtain ⟨v3, e_v3, hf⟩ := hf
        refine mx_S.pu (pc2 := 88) (lv2 := [(0, .ref l0), (1, .ref l1), (2, .int l2), (3, .int l3), (4, .int l4), (5, .int l5), (6, .int l6), (7, .int l7)]) (st2 := [.int v3, .ref l1]) hm dX13_among_87 (by rw [← e_v3]; rfl) ?_
        clear e_v3
        refine mx_S.pu (pc2 := 90) (lv2 := [(0, .ref l0), (1, .ref l1), (2, .int l2), (3, .int l3), (4, .int l4), (5, .int l5), (6, .int l6), (7, .int l7)]) (st2 := [.int l7, .int v3, .ref l1]) hm dX13_among_88 rfl ?_
        replace hf := xl_el hf; obtain ⟨v4, e_v4, hf⟩ := hf
        refine mx_S.pu (pc2 := 91) (lv2 := [(0, .ref l0), (1, .ref l1), (2, .int l2), (3, .int l3), (4, .int l4), (5, .int l5), (6, .int l6), (7, .int l7)]) (st2 := [.int v4, .ref l1]) hm dX13_among_90 (by rw [← e_v4]; rfl) ?_
        clear e_v4
        replace hf := mx_sv_el hf; obtain ⟨v5, e_v5, hf⟩ := hf
        refine sx_chr hm dX13_among_91 rs_RX13_334 e_v5 (by omega) (by omega) (Nat.le_of_ble_eq_true rfl) ?_
        clear e_v5
        refine mx_S.pu (pc2 := 95) (lv2 := [(0, .ref l0), (1, .ref l1), (2, .int l2), (3, .int l3), (4, .int l4), (5, .int l5), (6, .int l6), (7, .int l7)]) (st2 := [.ref l0, .int v5]) hm dX13_among_94 rfl ?_
        replace hf := mx_sv_el hf; obtain ⟨v6, e_v6, hf⟩ := hf
        refine sx_get hm dX13_among_95 rs_RX13_13 (xgr_el e_v6) ?_
        clear e_v6
        refine mx_S.pu (pc2 := 99) (lv2 := [(0, .ref l0), (1, .ref l1), (2, .int l2), (3, .int l3), (4, .int l4), (5, .int l5), (6, .int l6), (7, .int l7)]) (st2 := [.int l2, .ref v6, .int v5]) hm dX13_among_98 rfl ?_
        refine mx_S.pu (pc2 := 101) (lv2 := [(0, .ref l0), (1, .ref l1), (2, .int l2), (3, .int l3), (4, .int l4), (5, .int l5), (6, .int l6), (7, .int l7)]) (st2 := [.int l7, .int l2, .ref v6, .int v5]) hm dX13_among_99 rfl ?_
        replace hf := xl_el hf; obtain ⟨v7, e_v7, hf⟩ := hf
        refine mx_S.pu (pc2 := 102) (lv2 := [(0, .ref l0), (1, .ref l1), (2, .int l2), (3, .int l3), (4, .int l4), (5, .int l5), (6, .int l6), (7, .int l7)]) (st2 := [.int v7, .ref v6, .int v5]) hm dX13_among_101 (by rw [← e_v7]; rfl) ?_
        clear e_v7
        replace hf := mx_sv_el hf; obtain ⟨v8, e_v8, hf⟩ := hf
        refine sx_ald hm dX13_among_102 e_v8 ?_
        clear e_v8
        rcases mx_if_el hf with ⟨c11, hf⟩ | ⟨c11, hf⟩
        · refine sb_ic_ne hm dX13_among_103 (tgt := 110) rfl (fun _ => ?_) (fun z => absurd c11 z)
          refine sx_ic (v := 0) hm dX13_among_110 (by decide) ?_
          refine mx_S.pu (pc2 := 113) (lv2 := [(6, .int 0), (0, .ref l0), (1, .ref l1), (2, .int l2), (3, .int l3), (4, .int l4), (5, .int l5), (7, .int l7)]) (st2 := []) hm dX13_among_111 rfl ?_
          replace hf := xl_el hf; obtain ⟨v9, e_v9, hf⟩ := hf
          refine mx_S.pu (pc2 := 116) (lv2 := [(7, .int v9), (6, .int 0), (0, .ref l0), (1, .ref l1), (2, .int l2), (3, .int l3), (4, .int l4), (5, .int l5)]) (st2 := []) hm dX13_among_113 (by rw [← e_v9]; rfl) ?_
          clear e_v9
          refine mx_S.pu (pc2 := 72) (lv2 := [(7, .int v9), (6, .int 0), (0, .ref l0), (1, .ref l1), (2, .int l2), (3, .int l3), (4, .int l4), (5, .int l5)]) (st2 := []) hm dX13_among_116 rfl ?_
          refine mx_S.ext [(0, .ref l0), (1, .ref l1), (2, .int l2), (3, .int l3), (4, .int l4), (5, .int l5), (6, .int 0), (7, .int v9)] (mx_sub_pos [2, 3, 4, 5, 6, 7, 1, 0] rfl (show ([7, 6, 0, 1, 2, 3, 4, 5] : List Nat).Nodup by decide)) ?_
          exact ih l0 l1 l2 l3 l4 l5 0 v9 h _ hf
        · refine sb_ic_ne hm dX13_among_103 (tgt := 110) rfl (fun z => absurd z c11) (fun _ => ?_)
          refine sx_ic (v := 1) hm dX13_among_106 (by decide) ?_
          refine mx_S.pu (pc2 := 111) (lv2 := [(0, .ref l0), (1, .ref l1), (2, .int l2), (3, .int l3), (4, .int l4), (5, .int l5), (6, .int l6), (7, .int l7)]) (st2 := [.int 1]) hm dX13_among_107 rfl ?_
          refine mx_S.pu (pc2 := 113) (lv2 := [(6, .int 1), (0, .ref l0), (1, .ref l1), (2, .int l2), (3, .int l3), (4, .int l4), (5, .int l5), (7, .int l7)]) (st2 := []) hm dX13_among_111 rfl ?_
          replace hf := xl_el hf; obtain ⟨v10, e_v10, hf⟩ := hf
          refine mx_S.pu (pc2 := 116) (lv2 := [(7, .int v10), (6, .int 1), (0, .ref l0), (1, .ref l1), (2, .int l2), (3, .int l3), (4, .int l4), (5, .int l5)]) (st2 := []) hm dX13_among_113 (by rw [← e_v10]; rfl) ?_
          clear e_v10
          refine mx_S.pu (pc2 := 72) (lv2 := [(7, .int v10), (6, .int 1), (0, .ref l0), (1, .ref l1), (2, .int l2), (3, .int l3), (4, .int l4), (5, .int l5)]) (st2 := []) hm dX13_among_116 rfl ?_
          refine mx_S.ext [(0, .ref l0), (1, .ref l1), (2, .int l2), (3, .int l3), (4, .int l4), (5, .int l5), (6, .int 1), (7, .int v10)] (mx_sub_pos [2, 3, 4, 5, 6, 7, 1, 0] rfl (show ([7, 6, 0, 1, 2, 3, 4, 5] : List Nat).Nodup by decide)) ?_
          exact ih l0 l1 l2 l3 l4 l5 1 v10 h _ hf
set_option maxHeartbeats 4000000 in
set_option maxRecDepth 20000 in
theorem j_X13_among_66_ok (X : Nat × (Nat → Int32)) {F L : Nat} (hF : 4 ≤ F) (hL : 85 ≤ L) (nn : Nat) {kk_6 : Nat → Nat → Int32 → Int32 → Int32 → Int32 → mx_H → Option (Int32 × mx_H)} (hk_6 : ∀ (l0 : Nat) (l1 : Nat) (l2 : Int32) (l3 : Int32) (l4 : Int32) (l5 : Int32) (h : mx_H) (r : (Int32 × mx_H)), kk_6 l0 l1 l2 l3 l4 l5 h = some r → mx_S X F L 387 6 [(0, .ref l0), (1, .ref l1), (2, .int l2), (3, .int l3), (4, .int l4), (5, .int l5)] [] h 0 0 (some (.int r.1), r.2, 0, 0)) (l0 : Nat) (l1 : Nat) (l2 : Int32) (l3 : Int32) (l4 : Int32) (l5 : Int32) (h : mx_H) {r : (Int32 × mx_H)} (hf : j_X13_among_66 nn kk_6 l0 l1 l2 l3 l4 l5 h = some r) : mx_S X F L 387 66 [(0, .ref l0), (1, .ref l1), (2, .int l2), (3, .int l3), (4, .int l4), (5, .int l5)] [] h 0 0 (some (.int r.1), r.2, 0, 0) := by
  have hm : mx_mt 387 = some (yX13_among, cX13_among, 8, (some .int)) := mt_X13_among
  unfold j_X13_among_66 at hf
  refine sx_ic (v := 0) hm dX13_among_66 (by decide) ?_
  refine mx_S.pu (pc2 := 69) (lv2 := [(6, .int 0), (0, .ref l0), (1, .ref l1), (2, .int l2), (3, .int l3), (4, .int l4), (5, .int l5)]) (st2 := []) hm dX13_among_67 rfl ?_
  refine sx_ic (v := 0) hm dX13_among_69 (by decide) ?_
  refine mx_S.pu (pc2 := 72) (lv2 := [(7, .int 0), (6, .int 0), (0, .ref l0), (1, .ref l1), (2, .int l2), (3, .int l3), (4, .int l4), (5, .int l5)]) (st2 := []) hm dX13_among_70 rfl ?_
  refine mx_S.ext [(0, .ref l0), (1, .ref l1), (2, .int l2), (3, .int l3), (4, .int l4), (5, .int l5), (6, .int 0), (7, .int 0)] (mx_sub_pos [2, 3, 4, 5, 6, 7, 1, 0] rfl (show ([7, 6, 0, 1, 2, 3, 4, 5] : List Nat).Nodup by decide)) ?_
  exact w_X13_among_72_ok X hF hL nn hk_6 nn l0 l1 l2 l3 l4 l5 0 0 h _ hf
set_option maxHeartbeats 4000000 in
set_option maxRecDepth 20000 in
theorem w_X13_among_6_ok (X : Nat × (Nat → Int32)) {F L : Nat} (hF : 4 ≤ F) (hL : 85 ≤ L) (nn : Nat) : ∀ (k : Nat) (l0 : Nat) (l1 : Nat) (l2 : Int32) (l3 : Int32) (l4 : Int32) (l5 : Int32) (h : mx_H) (r : (Int32 × mx_H)), w_X13_among_6 nn k l0 l1 l2 l3 l4 l5 h = some r → mx_S X F L 387 6 [(0, .ref l0), (1, .ref l1), (2, .int l2), (3, .int l3), (4, .int l4), (5, .int l5)] [] h 0 0 (some (.int r.1), r.2, 0, 0) := by
  have hm : mx_mt 387 = some (yX13_among, cX13_among, 8, (some .int)) := mt_X13_among
  intro k
  induction k with
  | zero => intro l0 l1 l2 l3 l4 l5 h r hf; cases hf
  | succ k ih =>
    intro l0 l1 l2 l3 l4 l5 h r hf
    unfold w_X13_among_6 at hf
    refine mx_S.pu (pc2 := 8) (lv2 := [(0, .ref l0), (1, .ref l1), (2, .int l2), (3, .int l3), (4, .int l4), (5, .int l5)]) (st2 := [.int l5]) hm dX13_among_6 rfl ?_
    refine sx_ic (v := 1) hm dX13_among_8 (by decide) ?_
    replace hf := xl_el hf; obtain ⟨v14, e_v14, hf⟩ := hf
    refine mx_S.pu (pc2 := 10) (lv2 := [(0, .ref l0), (1, .ref l1), (2, .int l2), (3, .int l3), (4, .int l4), (5, .int l5)]) (st2 := [.int v14]) hm dX13_among_9 (by rw [← e_v14]; rfl) ?_
    clear e_v14
    refine mx_S.pu (pc2 := 11) (lv2 := [(0, .ref l0), (1, .ref l1), (2, .int l2), (3, .int l3), (4, .int l4), (5, .int l5)]) (st2 := [.ref l1, .int v14]) hm dX13_among_10 rfl ?_
    replace hf := mx_sv_el hf; obtain ⟨v15, e_v15, hf⟩ := hf
    refine sx_sln hm dX13_among_11 rs_RX13_328 e_v15 (by omega) (by omega) (Nat.le_of_ble_eq_true rfl) ?_
    clear e_v15
    rcases mx_if_el hf with ⟨c28, hf⟩ | ⟨c28, hf⟩
    · refine sb_ic_ge hm dX13_among_14 (tgt := 133) rfl (fun _ => ?_) (fun z => absurd c28 z)
      refine sx_ic (v := (-1)) hm dX13_among_133 (by decide) ?_
      cases hf
      exact sx_ire hm dX13_among_134 rfl rfl
    · refine sb_ic_ge hm dX13_among_14 (tgt := 133) rfl (fun z => absurd z c28) (fun _ => ?_)
      refine mx_S.pu (pc2 := 18) (lv2 := [(0, .ref l0), (1, .ref l1), (2, .int l2), (3, .int l3), (4, .int l4), (5, .int l5)]) (st2 := [.ref l1]) hm dX13_among_17 rfl ?_
      refine mx_S.pu (pc2 := 20) (lv2 := [(0, .ref l0), (1, .ref l1), (2, .int l2), (3, .int l3), (4, .int l4), (5, .int l5)]) (st2 := [.int l5, .ref l1]) hm dX13_among_18 rfl ?_
      replace hf := mx_sv_el hf; obtain ⟨v16, e_v16, hf⟩ := hf
      refine sx_chr hm dX13_among_20 rs_RX13_334 e_v16 (by omega) (by omega) (Nat.le_of_ble_eq_true rfl) ?_
      clear e_v16
      refine sx_bi (v := 32) hm dX13_among_23 (by decide) ?_
      rcases mx_if_el hf with ⟨c27, hf⟩ | ⟨c27, hf⟩
      · refine sb_ic_eq hm dX13_among_25 (tgt := 31) rfl (fun _ => ?_) (fun z => absurd c27 z)
        replace hf := xl_el hf; obtain ⟨v17, e_v17, hf⟩ := hf
        refine mx_S.pu (pc2 := 34) (lv2 := [(4, .int v17), (0, .ref l0), (1, .ref l1), (2, .int l2), (3, .int l3), (5, .int l5)]) (st2 := []) hm dX13_among_31 (by rw [← e_v17]; rfl) ?_
        clear e_v17
        refine mx_S.pu (pc2 := 36) (lv2 := [(4, .int v17), (0, .ref l0), (1, .ref l1), (2, .int l2), (3, .int l3), (5, .int l5)]) (st2 := [.int l5]) hm dX13_among_34 rfl ?_
        refine mx_S.pu (pc2 := 37) (lv2 := [(4, .int v17), (0, .ref l0), (1, .ref l1), (2, .int l2), (3, .int l3), (5, .int l5)]) (st2 := [.int l3, .int l5]) hm dX13_among_36 rfl ?_
        replace hf := xl_el hf; obtain ⟨v18, e_v18, hf⟩ := hf
        refine mx_S.pu (pc2 := 38) (lv2 := [(4, .int v17), (0, .ref l0), (1, .ref l1), (2, .int l2), (3, .int l3), (5, .int l5)]) (st2 := [.int v18]) hm dX13_among_37 (by rw [← e_v18]; rfl) ?_
        clear e_v18
        refine sx_ic (v := 1) hm dX13_among_38 (by decide) ?_
        replace hf := xl_el hf; obtain ⟨v19, e_v19, hf⟩ := hf
        refine mx_S.pu (pc2 := 40) (lv2 := [(4, .int v17), (0, .ref l0), (1, .ref l1), (2, .int l2), (3, .int l3), (5, .int l5)]) (st2 := [.int v19]) hm dX13_among_39 (by rw [← e_v19]; rfl) ?_
        clear e_v19
        refine mx_S.pu (pc2 := 41) (lv2 := [(4, .int v17), (0, .ref l0), (1, .ref l1), (2, .int l2), (3, .int l3), (5, .int l5)]) (st2 := [.ref l1, .int v19]) hm dX13_among_40 rfl ?_
        replace hf := mx_sv_el hf; obtain ⟨v20, e_v20, hf⟩ := hf
        refine sx_sln hm dX13_among_41 rs_RX13_328 e_v20 (by omega) (by omega) (Nat.le_of_ble_eq_true rfl) ?_
        clear e_v20
        rcases mx_if_el hf with ⟨c25, hf⟩ | ⟨c25, hf⟩
        · refine sb_ic_ge hm dX13_among_44 (tgt := 66) rfl (fun _ => ?_) (fun z => absurd c25 z)
          refine mx_S.ext [(0, .ref l0), (1, .ref l1), (2, .int l2), (3, .int l3), (4, .int v17), (5, .int l5)] (mx_sub_pos [1, 2, 3, 4, 0, 5] rfl (show ([4, 0, 1, 2, 3, 5] : List Nat).Nodup by decide)) ?_
          exact j_X13_among_66_ok X hF hL nn ih l0 l1 l2 l3 v17 l5 h hf
        · refine sb_ic_ge hm dX13_among_44 (tgt := 66) rfl (fun z => absurd z c25) (fun _ => ?_)
          refine mx_S.pu (pc2 := 48) (lv2 := [(4, .int v17), (0, .ref l0), (1, .ref l1), (2, .int l2), (3, .int l3), (5, .int l5)]) (st2 := [.ref l1]) hm dX13_among_47 rfl ?_
          refine mx_S.pu (pc2 := 50) (lv2 := [(4, .int v17), (0, .ref l0), (1, .ref l1), (2, .int l2), (3, .int l3), (5, .int l5)]) (st2 := [.int l5, .ref l1]) hm dX13_among_48 rfl ?_
          refine mx_S.pu (pc2 := 51) (lv2 := [(4, .int v17), (0, .ref l0), (1, .ref l1), (2, .int l2), (3, .int l3), (5, .int l5)]) (st2 := [.int l3, .int l5, .ref l1]) hm dX13_among_50 rfl ?_
          replace hf := xl_el hf; obtain ⟨v21, e_v21, hf⟩ := hf
          refine mx_S.pu (pc2 := 52) (lv2 := [(4, .int v17), (0, .ref l0), (1, .ref l1), (2, .int l2), (3, .int l3), (5, .int l5)]) (st2 := [.int v21, .ref l1]) hm dX13_among_51 (by rw [← e_v21]; rfl) ?_
          clear e_v21
          refine sx_ic (v := 1) hm dX13_among_52 (by decide) ?_
          replace hf := xl_el hf; obtain ⟨v22, e_v22, hf⟩ := hf
          refine mx_S.pu (pc2 := 54) (lv2 := [(4, .int v17), (0, .ref l0), (1, .ref l1), (2, .int l2), (3, .int l3), (5, .int l5)]) (st2 := [.int v22, .ref l1]) hm dX13_among_53 (by rw [← e_v22]; rfl) ?_
          clear e_v22
          replace hf := mx_sv_el hf; obtain ⟨v23, e_v23, hf⟩ := hf
          refine sx_chr hm dX13_among_54 rs_RX13_334 e_v23 (by omega) (by omega) (Nat.le_of_ble_eq_true rfl) ?_
          clear e_v23
          refine sx_bi (v := 32) hm dX13_among_57 (by decide) ?_
          rcases mx_if_el hf with ⟨c24, hf⟩ | ⟨c24, hf⟩
          · refine sb_ic_ne hm dX13_among_59 (tgt := 66) rfl (fun _ => ?_) (fun z => absurd c24 z)
            refine mx_S.ext [(0, .ref l0), (1, .ref l1), (2, .int l2), (3, .int l3), (4, .int v17), (5, .int l5)] (mx_sub_pos [1, 2, 3, 4, 0, 5] rfl (show ([4, 0, 1, 2, 3, 5] : List Nat).Nodup by decide)) ?_
            exact j_X13_among_66_ok X hF hL nn ih l0 l1 l2 l3 v17 l5 h hf
          · refine sb_ic_ne hm dX13_among_59 (tgt := 66) rfl (fun z => absurd z c24) (fun _ => ?_)
            refine sx_ic (v := 1) hm dX13_among_62 (by decide) ?_
            refine mx_S.pu (pc2 := 67) (lv2 := [(4, .int v17), (0, .ref l0), (1, .ref l1), (2, .int l2), (3, .int l3), (5, .int l5)]) (st2 := [.int 1]) hm dX13_among_63 rfl ?_
            refine mx_S.pu (pc2 := 69) (lv2 := [(6, .int 1), (4, .int v17), (0, .ref l0), (1, .ref l1), (2, .int l2), (3, .int l3), (5, .int l5)]) (st2 := []) hm dX13_among_67 rfl ?_
            refine sx_ic (v := 0) hm dX13_among_69 (by decide) ?_
            refine mx_S.pu (pc2 := 72) (lv2 := [(7, .int 0), (6, .int 1), (4, .int v17), (0, .ref l0), (1, .ref l1), (2, .int l2), (3, .int l3), (5, .int l5)]) (st2 := []) hm dX13_among_70 rfl ?_
            refine mx_S.ext [(0, .ref l0), (1, .ref l1), (2, .int l2), (3, .int l3), (4, .int v17), (5, .int l5), (6, .int 1), (7, .int 0)] (mx_sub_pos [3, 4, 5, 6, 2, 7, 1, 0] rfl (show ([7, 6, 4, 0, 1, 2, 3, 5] : List Nat).Nodup by decide)) ?_
            exact w_X13_among_72_ok X hF hL nn ih nn l0 l1 l2 l3 v17 l5 1 0 h _ hf
      · refine sb_ic_eq hm dX13_among_25 (tgt := 31) rfl (fun z => absurd z c27) (fun _ => ?_)
        refine mx_S.pu (pc2 := 127) (lv2 := [(0, .ref l0), (1, .ref l1), (2, .int l2), (3, .int l3), (4, .int l4), (5, .int l5)]) (st2 := []) hm dX13_among_28 rfl ?_
        replace hf := xl_el hf; obtain ⟨v26, e_v26, hf⟩ := hf
        refine mx_S.pu (pc2 := 130) (lv2 := [(5, .int v26), (0, .ref l0), (1, .ref l1), (2, .int l2), (3, .int l3), (4, .int l4)]) (st2 := []) hm dX13_among_127 (by rw [← e_v26]; rfl) ?_
        clear e_v26
        refine mx_S.pu (pc2 := 6) (lv2 := [(5, .int v26), (0, .ref l0), (1, .ref l1), (2, .int l2), (3, .int l3), (4, .int l4)]) (st2 := []) hm dX13_among_130 rfl ?_
        refine mx_S.ext [(0, .ref l0), (1, .ref l1), (2, .int l2), (3, .int l3), (4, .int l4), (5, .int v26)] (mx_sub_pos [1, 2, 3, 4, 5, 0] rfl (show ([5, 0, 1, 2, 3, 4] : List Nat).Nodup by decide)) ?_
        exact ih l0 l1 l2 l3 l4 v26 h _ hf
set_option maxHeartbeats 4000000 in
set_option maxRecDepth 20000 in
theorem f_X13_among_ok (X : Nat × (Nat → Int32)) {F L : Nat} (hF : 4 ≤ F) (hL : 85 ≤ L) (nn : Nat) (a0 : Nat) (a1 : Nat) (a2 : Int32) (a3 : Int32) (h : mx_H) {r : (Int32 × mx_H)} (hf : f_X13_among nn a0 a1 a2 a3 h = some r) : mx_R X F L 387 [.ref a0, .ref a1, .int a2, .int a3] h (some (.int r.1), r.2, 0, 0) := by
  have hm : mx_mt 387 = some (yX13_among, cX13_among, 8, (some .int)) := mt_X13_among
  show mx_S X F L 387 0 [(0, .ref a0), (1, .ref a1), (2, .int a2), (3, .int a3)] [] h 0 0 (some (.int r.1), r.2, 0, 0)
  unfold f_X13_among at hf
  refine sx_ic (v := (-1)) hm dX13_among_0 (by decide) ?_
  refine mx_S.pu (pc2 := 3) (lv2 := [(4, .int (-1)), (0, .ref a0), (1, .ref a1), (2, .int a2), (3, .int a3)]) (st2 := []) hm dX13_among_1 rfl ?_
  refine sx_ic (v := 0) hm dX13_among_3 (by decide) ?_
  refine mx_S.pu (pc2 := 6) (lv2 := [(5, .int 0), (4, .int (-1)), (0, .ref a0), (1, .ref a1), (2, .int a2), (3, .int a3)]) (st2 := []) hm dX13_among_4 rfl ?_
  refine mx_S.ext [(0, .ref a0), (1, .ref a1), (2, .int a2), (3, .int a3), (4, .int (-1)), (5, .int 0)] (mx_sub_pos [2, 3, 4, 5, 1, 0] rfl (show ([5, 4, 0, 1, 2, 3] : List Nat).Nodup by decide)) ?_
  exact w_X13_among_6_ok X hF hL nn nn a0 a1 a2 a3 (-1) 0 h _ hf
set_option maxHeartbeats 4000000 in
set_option maxRecDepth 20000 in
theorem w_X13_classOf_28_ok (X : Nat × (Nat → Int32)) {F L : Nat} (hF : 5 ≤ F) (hL : 112 ≤ L) (nn : Nat) : ∀ (k : Nat) (l0 : Nat) (l1 : Int32) (l3 : Int32) (h : mx_H) (r : (Int32 × mx_H)), w_X13_classOf_28 nn k l0 l1 l3 h = some r → mx_S X F L 417 28 [(0, .ref l0), (1, .int l1), (3, .int l3)] [] h 0 0 (some (.int r.1), r.2, 0, 0) := by
  have hm : mx_mt 417 = some (yX13_classOf, cX13_classOf, 4, (some .int)) := mt_X13_classOf
  intro k
  induction k with
  | zero => intro l0 l1 l3 h r hf; cases hf
  | succ k ih =>
    intro l0 l1 l3 h r hf
    unfold w_X13_classOf_28 at hf
    refine mx_S.pu (pc2 := 29) (lv2 := [(0, .ref l0), (1, .int l1), (3, .int l3)]) (st2 := [.int l3]) hm dX13_classOf_28 rfl ?_
    refine mx_S.pu (pc2 := 30) (lv2 := [(0, .ref l0), (1, .int l1), (3, .int l3)]) (st2 := [.ref l0, .int l3]) hm dX13_classOf_29 rfl ?_
    replace hf := mx_sv_el hf; obtain ⟨v1, e_v1, hf⟩ := hf
    refine sx_get hm dX13_classOf_30 rs_RX13_409 (xgi_el e_v1) ?_
    clear e_v1
    rcases mx_if_el hf with ⟨c9, hf⟩ | ⟨c9, hf⟩
    · refine sb_ic_ge hm dX13_classOf_33 (tgt := 61) rfl (fun _ => ?_) (fun z => absurd c9 z)
      refine sx_ic (v := (-1)) hm dX13_classOf_61 (by decide) ?_
      cases hf
      exact sx_ire hm dX13_classOf_62 rfl rfl
    · refine sb_ic_ge hm dX13_classOf_33 (tgt := 61) rfl (fun z => absurd z c9) (fun _ => ?_)
      refine mx_S.pu (pc2 := 37) (lv2 := [(0, .ref l0), (1, .int l1), (3, .int l3)]) (st2 := [.ref l0]) hm dX13_classOf_36 rfl ?_
      refine mx_S.pu (pc2 := 38) (lv2 := [(0, .ref l0), (1, .int l1), (3, .int l3)]) (st2 := [.ref l0, .ref l0]) hm dX13_classOf_37 rfl ?_
      replace hf := mx_sv_el hf; obtain ⟨v2, e_v2, hf⟩ := hf
      refine sx_get hm dX13_classOf_38 rs_RX13_62 (xgr_el e_v2) ?_
      clear e_v2
      refine mx_S.pu (pc2 := 42) (lv2 := [(0, .ref l0), (1, .int l1), (3, .int l3)]) (st2 := [.int l3, .ref v2, .ref l0]) hm dX13_classOf_41 rfl ?_
      replace hf := mx_sv_el hf; obtain ⟨v3, e_v3, hf⟩ := hf
      refine sx_ald hm dX13_classOf_42 e_v3 ?_
      clear e_v3
      refine mx_S.pu (pc2 := 44) (lv2 := [(0, .ref l0), (1, .int l1), (3, .int l3)]) (st2 := [.int l1, .int v3, .ref l0]) hm dX13_classOf_43 rfl ?_
      replace hf := mx_gd_el hf; obtain ⟨c4, hf⟩ := hf
      replace hf := mx_sv_el hf; obtain ⟨u5, e_u5, hf⟩ := hf
      refine sx_cv hm dX13_classOf_44 rs_RX13_479 mt_X13_isLike [.int v3, .int l1] [] (b := l0) (ci := 13) rfl rfl rfl c4 (Nat.le_of_ble_eq_true rfl) (Nat.le_of_ble_eq_true rfl) (by omega) (by omega) (f_X13_isLike_ok X (by omega) (by omega) nn l0 v3 l1 h e_u5) ?_
      clear e_u5
      show mx_S X F L 417 47 [(0, .ref l0), (1, .int l1), (3, .int l3)] [.int u5.1] u5.2 0 0 (some (.int r.1), r.2, 0, 0)
      rcases mx_if_el hf with ⟨c8, hf⟩ | ⟨c8, hf⟩
      · refine sb_if_eq hm dX13_classOf_47 (tgt := 55) rfl (fun _ => ?_) (fun z => absurd c8 z)
        replace hf := xl_el hf; obtain ⟨v6, e_v6, hf⟩ := hf
        refine mx_S.pu (pc2 := 58) (lv2 := [(3, .int v6), (0, .ref l0), (1, .int l1)]) (st2 := []) hm dX13_classOf_55 (by rw [← e_v6]; rfl) ?_
        clear e_v6
        refine mx_S.pu (pc2 := 28) (lv2 := [(3, .int v6), (0, .ref l0), (1, .int l1)]) (st2 := []) hm dX13_classOf_58 rfl ?_
        refine mx_S.ext [(0, .ref l0), (1, .int l1), (3, .int v6)] (mx_sub_pos [1, 2, 0] rfl (show ([3, 0, 1] : List Nat).Nodup by decide)) ?_
        exact ih l0 l1 v6 u5.2 _ hf
      · refine sb_if_eq hm dX13_classOf_47 (tgt := 55) rfl (fun z => absurd z c8) (fun _ => ?_)
        refine sx_bi (v := 8) hm dX13_classOf_50 (by decide) ?_
        refine mx_S.pu (pc2 := 53) (lv2 := [(0, .ref l0), (1, .int l1), (3, .int l3)]) (st2 := [.int l3, .int 8]) hm dX13_classOf_52 rfl ?_
        replace hf := xl_el hf; obtain ⟨v7, e_v7, hf⟩ := hf
        refine mx_S.pu (pc2 := 54) (lv2 := [(0, .ref l0), (1, .int l1), (3, .int l3)]) (st2 := [.int v7]) hm dX13_classOf_53 (by rw [← e_v7]; rfl) ?_
        clear e_v7
        cases hf
        exact sx_ire hm dX13_classOf_54 rfl rfl
set_option maxHeartbeats 4000000 in
set_option maxRecDepth 20000 in
theorem f_X13_classOf_ok (X : Nat × (Nat → Int32)) {F L : Nat} (hF : 5 ≤ F) (hL : 112 ≤ L) (nn : Nat) (a0 : Nat) (a1 : Int32) (h : mx_H) {r : (Int32 × mx_H)} (hf : f_X13_classOf nn a0 a1 h = some r) : mx_R X F L 417 [.ref a0, .int a1] h (some (.int r.1), r.2, 0, 0) := by
  have hm : mx_mt 417 = some (yX13_classOf, cX13_classOf, 4, (some .int)) := mt_X13_classOf
  show mx_S X F L 417 0 [(0, .ref a0), (1, .int a1)] [] h 0 0 (some (.int r.1), r.2, 0, 0)
  unfold f_X13_classOf at hf
  refine mx_S.pu (pc2 := 1) (lv2 := [(0, .ref a0), (1, .int a1)]) (st2 := [.ref a0]) hm dX13_classOf_0 rfl ?_
  refine sx_ldcw hm dX13_classOf_1 rs_RX13_477 ?_
  refine mx_S.pu (pc2 := 5) (lv2 := [(0, .ref a0), (1, .int a1)]) (st2 := [.ref a0, .ref (1000000000 + 3), .ref a0]) hm dX13_classOf_4 rfl ?_
  replace hf := mx_sv_el hf; obtain ⟨v10, e_v10, hf⟩ := hf
  refine sx_get hm dX13_classOf_5 rs_RX13_19 (xgr_el e_v10) ?_
  clear e_v10
  refine mx_S.pu (pc2 := 9) (lv2 := [(0, .ref a0), (1, .int a1)]) (st2 := [.int a1, .ref v10, .ref (1000000000 + 3), .ref a0]) hm dX13_classOf_8 rfl ?_
  replace hf := mx_sv_el hf; obtain ⟨v11, e_v11, hf⟩ := hf
  refine sx_ald hm dX13_classOf_9 e_v11 ?_
  clear e_v11
  refine mx_S.pu (pc2 := 11) (lv2 := [(0, .ref a0), (1, .int a1)]) (st2 := [.ref a0, .int v11, .ref (1000000000 + 3), .ref a0]) hm dX13_classOf_10 rfl ?_
  replace hf := mx_sv_el hf; obtain ⟨v12, e_v12, hf⟩ := hf
  refine sx_get hm dX13_classOf_11 rs_RX13_22 (xgr_el e_v12) ?_
  clear e_v12
  refine mx_S.pu (pc2 := 15) (lv2 := [(0, .ref a0), (1, .int a1)]) (st2 := [.int a1, .ref v12, .int v11, .ref (1000000000 + 3), .ref a0]) hm dX13_classOf_14 rfl ?_
  replace hf := mx_sv_el hf; obtain ⟨v13, e_v13, hf⟩ := hf
  refine sx_ald hm dX13_classOf_15 e_v13 ?_
  clear e_v13
  replace hf := mx_gd_el hf; obtain ⟨c14, hf⟩ := hf
  replace hf := mx_sv_el hf; obtain ⟨u15, e_u15, hf⟩ := hf
  refine sx_cv hm dX13_classOf_16 rs_RX13_354 mt_X13_among [.ref (1000000000 + 3), .int v11, .int v13] [] (b := a0) (ci := 13) rfl rfl rfl c14 (Nat.le_of_ble_eq_true rfl) (Nat.le_of_ble_eq_true rfl) (by omega) (by omega) (f_X13_among_ok X (by omega) (by omega) nn a0 (1000000000 + 3) v11 v13 h e_u15) ?_
  clear e_u15
  show mx_S X F L 417 19 [(0, .ref a0), (1, .int a1)] [.int u15.1] u15.2 0 0 (some (.int r.1), r.2, 0, 0)
  refine mx_S.pu (pc2 := 20) (lv2 := [(2, .int u15.1), (0, .ref a0), (1, .int a1)]) (st2 := []) hm dX13_classOf_19 rfl ?_
  refine mx_S.pu (pc2 := 21) (lv2 := [(2, .int u15.1), (0, .ref a0), (1, .int a1)]) (st2 := [.int u15.1]) hm dX13_classOf_20 rfl ?_
  rcases mx_if_el hf with ⟨c16, hf⟩ | ⟨c16, hf⟩
  · refine sb_if_lt hm dX13_classOf_21 (tgt := 26) rfl (fun _ => ?_) (fun z => absurd c16 z)
    refine sx_ic (v := 0) hm dX13_classOf_26 (by decide) ?_
    refine mx_S.pu (pc2 := 28) (lv2 := [(3, .int 0), (2, .int u15.1), (0, .ref a0), (1, .int a1)]) (st2 := []) hm dX13_classOf_27 rfl ?_
    refine mx_S.ext [(0, .ref a0), (1, .int a1), (3, .int 0)] (mx_sub_pos [2, 3, 0] rfl (show ([3, 2, 0, 1] : List Nat).Nodup by decide)) ?_
    exact w_X13_classOf_28_ok X hF hL nn nn a0 a1 0 u15.2 _ hf
  · refine sb_if_lt hm dX13_classOf_21 (tgt := 26) rfl (fun z => absurd z c16) (fun _ => ?_)
    refine mx_S.pu (pc2 := 25) (lv2 := [(2, .int u15.1), (0, .ref a0), (1, .int a1)]) (st2 := [.int u15.1]) hm dX13_classOf_24 rfl ?_
    cases hf
    exact sx_ire hm dX13_classOf_25 rfl rfl
set_option maxHeartbeats 4000000 in
set_option maxRecDepth 20000 in
theorem f_X13_isThing_ok (X : Nat × (Nat → Int32)) {F L : Nat} (hF : 0 ≤ F) (hL : 0 ≤ L) (nn : Nat) (a0 : Int32) (h : mx_H) {r : (Int32 × mx_H)} (hf : f_X13_isThing nn a0 h = some r) : mx_R X F L 421 [.int a0] h (some (.int r.1), r.2, 0, 0) := by
  have hm : mx_mt 421 = some (yX13_isThing, cX13_isThing, 1, (some .boolean)) := mt_X13_isThing
  show mx_S X F L 421 0 [(0, .int a0)] [] h 0 0 (some (.int r.1), r.2, 0, 0)
  unfold f_X13_isThing at hf
  refine mx_S.pu (pc2 := 1) (lv2 := [(0, .int a0)]) (st2 := [.int a0]) hm dX13_isThing_0 rfl ?_
  refine sx_ic (v := 2) hm dX13_isThing_1 (by decide) ?_
  rcases mx_if_el hf with ⟨c3, hf⟩ | ⟨c3, hf⟩
  · refine sb_ic_eq hm dX13_isThing_2 (tgt := 16) rfl (fun _ => ?_) (fun z => absurd c3 z)
    refine sx_ic (v := 1) hm dX13_isThing_16 (by decide) ?_
    refine mx_S.pu (pc2 := 21) (lv2 := [(0, .int a0)]) (st2 := [.int 1]) hm dX13_isThing_17 rfl ?_
    cases hf
    exact sx_ire hm dX13_isThing_21 rfl (by decide)
  · refine sb_ic_eq hm dX13_isThing_2 (tgt := 16) rfl (fun z => absurd z c3) (fun _ => ?_)
    refine mx_S.pu (pc2 := 6) (lv2 := [(0, .int a0)]) (st2 := [.int a0]) hm dX13_isThing_5 rfl ?_
    refine sx_ic (v := 4) hm dX13_isThing_6 (by decide) ?_
    rcases mx_if_el hf with ⟨c2, hf⟩ | ⟨c2, hf⟩
    · refine sb_ic_eq hm dX13_isThing_7 (tgt := 16) rfl (fun _ => ?_) (fun z => absurd c2 z)
      refine sx_ic (v := 1) hm dX13_isThing_16 (by decide) ?_
      refine mx_S.pu (pc2 := 21) (lv2 := [(0, .int a0)]) (st2 := [.int 1]) hm dX13_isThing_17 rfl ?_
      cases hf
      exact sx_ire hm dX13_isThing_21 rfl (by decide)
    · refine sb_ic_eq hm dX13_isThing_7 (tgt := 16) rfl (fun z => absurd z c2) (fun _ => ?_)
      refine mx_S.pu (pc2 := 11) (lv2 := [(0, .int a0)]) (st2 := [.int a0]) hm dX13_isThing_10 rfl ?_
      refine sx_bi (v := 8) hm dX13_isThing_11 (by decide) ?_
      rcases mx_if_el hf with ⟨c1, hf⟩ | ⟨c1, hf⟩
      · refine sb_ic_lt hm dX13_isThing_13 (tgt := 20) rfl (fun _ => ?_) (fun z => absurd c1 z)
        refine sx_ic (v := 0) hm dX13_isThing_20 (by decide) ?_
        cases hf
        exact sx_ire hm dX13_isThing_21 rfl (by decide)
      · refine sb_ic_lt hm dX13_isThing_13 (tgt := 20) rfl (fun z => absurd z c1) (fun _ => ?_)
        refine sx_ic (v := 1) hm dX13_isThing_16 (by decide) ?_
        refine mx_S.pu (pc2 := 21) (lv2 := [(0, .int a0)]) (st2 := [.int 1]) hm dX13_isThing_17 rfl ?_
        cases hf
        exact sx_ire hm dX13_isThing_21 rfl (by decide)
set_option maxHeartbeats 4000000 in
set_option maxRecDepth 20000 in
theorem j_X13_field_151_ok (X : Nat × (Nat → Int32)) {F L : Nat} (hF : 5 ≤ F) (hL : 112 ≤ L) (nn : Nat) (l0 : Nat) (l1 : Int32) (l3 : Int32) (h : mx_H) {r : (Int32 × mx_H)} (hf : j_X13_field_151 nn l0 l1 l3 h = some r) : mx_S X F L 444 151 [(0, .ref l0), (1, .int l1), (3, .int l3)] [] h 0 0 (some (.int r.1), r.2, 0, 0) := by
  have hm : mx_mt 444 = some (yX13_field, cX13_field, 4, (some .int)) := mt_X13_field
  unfold j_X13_field_151 at hf
  refine mx_S.pu (pc2 := 152) (lv2 := [(0, .ref l0), (1, .int l1), (3, .int l3)]) (st2 := [.ref l0]) hm dX13_field_151 rfl ?_
  replace hf := mx_sv_el hf; obtain ⟨v1, e_v1, hf⟩ := hf
  refine sx_get hm dX13_field_152 rs_RX13_52 (xgr_el e_v1) ?_
  clear e_v1
  refine mx_S.pu (pc2 := 156) (lv2 := [(0, .ref l0), (1, .int l1), (3, .int l3)]) (st2 := [.int l1, .ref v1]) hm dX13_field_155 rfl ?_
  refine mx_S.pu (pc2 := 157) (lv2 := [(0, .ref l0), (1, .int l1), (3, .int l3)]) (st2 := [.int l3, .int l1, .ref v1]) hm dX13_field_156 rfl ?_
  replace hf := mx_sv_el hf; obtain ⟨h2, e_h2, hf⟩ := hf
  refine sx_ast hm dX13_field_157 e_h2 ?_
  clear e_h2
  refine mx_S.pu (pc2 := 159) (lv2 := [(0, .ref l0), (1, .int l1), (3, .int l3)]) (st2 := [.int l3]) hm dX13_field_158 rfl ?_
  refine sx_ic (v := (-1)) hm dX13_field_159 (by decide) ?_
  rcases mx_if_el hf with ⟨c5, hf⟩ | ⟨c5, hf⟩
  · refine sb_ic_ne hm dX13_field_160 (tgt := 167) rfl (fun _ => ?_) (fun z => absurd c5 z)
    refine mx_S.pu (pc2 := 168) (lv2 := [(0, .ref l0), (1, .int l1), (3, .int l3)]) (st2 := [.ref l0]) hm dX13_field_167 rfl ?_
    replace hf := mx_sv_el hf; obtain ⟨v3, e_v3, hf⟩ := hf
    refine sx_get hm dX13_field_168 rs_RX13_89 (xgr_el e_v3) ?_
    clear e_v3
    refine mx_S.pu (pc2 := 172) (lv2 := [(0, .ref l0), (1, .int l1), (3, .int l3)]) (st2 := [.int l3, .ref v3]) hm dX13_field_171 rfl ?_
    replace hf := mx_sv_el hf; obtain ⟨v4, e_v4, hf⟩ := hf
    refine sx_ald hm dX13_field_172 e_v4 ?_
    clear e_v4
    cases hf
    exact sx_ire hm dX13_field_173 rfl rfl
  · refine sb_ic_ne hm dX13_field_160 (tgt := 167) rfl (fun z => absurd z c5) (fun _ => ?_)
    refine sx_ic (v := 0) hm dX13_field_163 (by decide) ?_
    refine mx_S.pu (pc2 := 173) (lv2 := [(0, .ref l0), (1, .int l1), (3, .int l3)]) (st2 := [.int 0]) hm dX13_field_164 rfl ?_
    cases hf
    exact sx_ire hm dX13_field_173 rfl rfl
set_option maxHeartbeats 4000000 in
set_option maxRecDepth 20000 in
theorem j_X13_field_99_ok (X : Nat × (Nat → Int32)) {F L : Nat} (hF : 5 ≤ F) (hL : 112 ≤ L) (nn : Nat) (l0 : Nat) (l1 : Int32) (s0 : Int32) (h : mx_H) {r : (Int32 × mx_H)} (hf : j_X13_field_99 nn l0 l1 s0 h = some r) : mx_S X F L 444 99 [(0, .ref l0), (1, .int l1)] [.int s0] h 0 0 (some (.int r.1), r.2, 0, 0) := by
  have hm : mx_mt 444 = some (yX13_field, cX13_field, 4, (some .int)) := mt_X13_field
  unfold j_X13_field_99 at hf
  refine mx_S.pu (pc2 := 100) (lv2 := [(3, .int s0), (0, .ref l0), (1, .int l1)]) (st2 := []) hm dX13_field_99 rfl ?_
  refine mx_S.pu (pc2 := 101) (lv2 := [(3, .int s0), (0, .ref l0), (1, .int l1)]) (st2 := [.int s0]) hm dX13_field_100 rfl ?_
  rcases mx_if_el hf with ⟨c10, hf⟩ | ⟨c10, hf⟩
  · refine sb_if_ne hm dX13_field_101 (tgt := 115) rfl (fun _ => ?_) (fun z => absurd c10 z)
    refine sx_ic (v := 0) hm dX13_field_115 (by decide) ?_
    cases hf
    exact sx_ire hm dX13_field_116 rfl rfl
  · refine sb_if_ne hm dX13_field_101 (tgt := 115) rfl (fun z => absurd z c10) (fun _ => ?_)
    refine mx_S.pu (pc2 := 105) (lv2 := [(3, .int s0), (0, .ref l0), (1, .int l1)]) (st2 := [.ref l0]) hm dX13_field_104 rfl ?_
    refine sx_ic (v := 5) hm dX13_field_105 (by decide) ?_
    refine mx_S.pu (pc2 := 107) (lv2 := [(3, .int s0), (0, .ref l0), (1, .int l1)]) (st2 := [.ref l0, .int 5, .ref l0]) hm dX13_field_106 rfl ?_
    replace hf := mx_sv_el hf; obtain ⟨v6, e_v6, hf⟩ := hf
    refine sx_get hm dX13_field_107 rs_RX13_31 (xgr_el e_v6) ?_
    clear e_v6
    refine mx_S.pu (pc2 := 111) (lv2 := [(3, .int s0), (0, .ref l0), (1, .int l1)]) (st2 := [.int l1, .ref v6, .int 5, .ref l0]) hm dX13_field_110 rfl ?_
    replace hf := mx_sv_el hf; obtain ⟨v7, e_v7, hf⟩ := hf
    refine sx_ald hm dX13_field_111 e_v7 ?_
    clear e_v7
    replace hf := mx_gd_el hf; obtain ⟨c8, hf⟩ := hf
    replace hf := mx_sv_el hf; obtain ⟨u9, e_u9, hf⟩ := hf
    refine sx_cv hm dX13_field_112 rs_RX13_379 mt_X13_wrong [.int 5, .int v7] [] (b := l0) (ci := 13) rfl rfl rfl c8 (Nat.le_of_ble_eq_true rfl) (Nat.le_of_ble_eq_true rfl) (by omega) (by omega) (f_X13_wrong_ok X (by omega) (by omega) nn l0 5 v7 h e_u9) ?_
    clear e_u9
    show mx_S X F L 444 115 [(3, .int s0), (0, .ref l0), (1, .int l1)] [] u9 0 0 (some (.int r.1), r.2, 0, 0)
    refine sx_ic (v := 0) hm dX13_field_115 (by decide) ?_
    cases hf
    exact sx_ire hm dX13_field_116 rfl rfl
set_option maxHeartbeats 4000000 in
set_option maxRecDepth 20000 in
theorem j_X13_field_98_ok (X : Nat × (Nat → Int32)) {F L : Nat} (hF : 5 ≤ F) (hL : 112 ≤ L) (nn : Nat) (l0 : Nat) (l1 : Int32) (h : mx_H) {r : (Int32 × mx_H)} (hf : j_X13_field_98 nn l0 l1 h = some r) : mx_S X F L 444 98 [(0, .ref l0), (1, .int l1)] [] h 0 0 (some (.int r.1), r.2, 0, 0) := by
  have hm : mx_mt 444 = some (yX13_field, cX13_field, 4, (some .int)) := mt_X13_field
  unfold j_X13_field_98 at hf
  refine sx_ic (v := 0) hm dX13_field_98 (by decide) ?_
  exact j_X13_field_99_ok X hF hL nn l0 l1 0 h hf
set_option maxHeartbeats 4000000 in
set_option maxRecDepth 20000 in
theorem j_X13_field_27_ok (X : Nat × (Nat → Int32)) {F L : Nat} (hF : 5 ≤ F) (hL : 112 ≤ L) (nn : Nat) (l0 : Nat) (l1 : Int32) (h : mx_H) {r : (Int32 × mx_H)} (hf : j_X13_field_27 nn l0 l1 h = some r) : mx_S X F L 444 27 [(0, .ref l0), (1, .int l1)] [] h 0 0 (some (.int r.1), r.2, 0, 0) := by
  have hm : mx_mt 444 = some (yX13_field, cX13_field, 4, (some .int)) := mt_X13_field
  unfold j_X13_field_27 at hf
  refine mx_S.pu (pc2 := 28) (lv2 := [(0, .ref l0), (1, .int l1)]) (st2 := [.ref l0]) hm dX13_field_27 rfl ?_
  refine sx_bi (v := 6) hm dX13_field_28 (by decide) ?_
  refine mx_S.pu (pc2 := 31) (lv2 := [(0, .ref l0), (1, .int l1)]) (st2 := [.ref l0, .int 6, .ref l0]) hm dX13_field_30 rfl ?_
  replace hf := mx_sv_el hf; obtain ⟨v11, e_v11, hf⟩ := hf
  refine sx_get hm dX13_field_31 rs_RX13_43 (xgr_el e_v11) ?_
  clear e_v11
  refine mx_S.pu (pc2 := 35) (lv2 := [(0, .ref l0), (1, .int l1)]) (st2 := [.int l1, .ref v11, .int 6, .ref l0]) hm dX13_field_34 rfl ?_
  replace hf := mx_sv_el hf; obtain ⟨v12, e_v12, hf⟩ := hf
  refine sx_ald hm dX13_field_35 e_v12 ?_
  clear e_v12
  replace hf := mx_gd_el hf; obtain ⟨c13, hf⟩ := hf
  replace hf := mx_sv_el hf; obtain ⟨u14, e_u14, hf⟩ := hf
  refine sx_cv hm dX13_field_36 rs_RX13_379 mt_X13_wrong [.int 6, .int v12] [] (b := l0) (ci := 13) rfl rfl rfl c13 (Nat.le_of_ble_eq_true rfl) (Nat.le_of_ble_eq_true rfl) (by omega) (by omega) (f_X13_wrong_ok X (by omega) (by omega) nn l0 6 v12 h e_u14) ?_
  clear e_u14
  show mx_S X F L 444 39 [(0, .ref l0), (1, .int l1)] [] u14 0 0 (some (.int r.1), r.2, 0, 0)
  refine sx_ic (v := 0) hm dX13_field_39 (by decide) ?_
  cases hf
  exact sx_ire hm dX13_field_40 rfl rfl
set_option maxHeartbeats 4000000 in
set_option maxRecDepth 20000 in
theorem f_X13_field_ok (X : Nat × (Nat → Int32)) {F L : Nat} (hF : 5 ≤ F) (hL : 112 ≤ L) (nn : Nat) (a0 : Nat) (a1 : Int32) (h : mx_H) {r : (Int32 × mx_H)} (hf : f_X13_field nn a0 a1 h = some r) : mx_R X F L 444 [.ref a0, .int a1] h (some (.int r.1), r.2, 0, 0) := by
  have hm : mx_mt 444 = some (yX13_field, cX13_field, 4, (some .int)) := mt_X13_field
  show mx_S X F L 444 0 [(0, .ref a0), (1, .int a1)] [] h 0 0 (some (.int r.1), r.2, 0, 0)
  unfold f_X13_field at hf
  refine mx_S.pu (pc2 := 1) (lv2 := [(0, .ref a0), (1, .int a1)]) (st2 := [.ref a0]) hm dX13_field_0 rfl ?_
  refine mx_S.pu (pc2 := 2) (lv2 := [(0, .ref a0), (1, .int a1)]) (st2 := [.int a1, .ref a0]) hm dX13_field_1 rfl ?_
  replace hf := mx_gd_el hf; obtain ⟨c15, hf⟩ := hf
  replace hf := mx_sv_el hf; obtain ⟨u16, e_u16, hf⟩ := hf
  refine sx_cv hm dX13_field_2 rs_RX13_573 mt_X13_led [.int a1] [] (b := a0) (ci := 13) rfl rfl rfl c15 (Nat.le_of_ble_eq_true rfl) (Nat.le_of_ble_eq_true rfl) (by omega) (by omega) (f_X13_led_ok X (by omega) (by omega) nn a0 a1 h e_u16) ?_
  clear e_u16
  show mx_S X F L 444 5 [(0, .ref a0), (1, .int a1)] [.int u16.1] u16.2 0 0 (some (.int r.1), r.2, 0, 0)
  refine mx_S.pu (pc2 := 6) (lv2 := [(2, .int u16.1), (0, .ref a0), (1, .int a1)]) (st2 := []) hm dX13_field_5 rfl ?_
  refine mx_S.pu (pc2 := 7) (lv2 := [(2, .int u16.1), (0, .ref a0), (1, .int a1)]) (st2 := [.ref a0]) hm dX13_field_6 rfl ?_
  replace hf := mx_sv_el hf; obtain ⟨v17, e_v17, hf⟩ := hf
  refine sx_get hm dX13_field_7 rs_RX13_319 (xgi_el e_v17) ?_
  clear e_v17
  rcases mx_if_el hf with ⟨c48, hf⟩ | ⟨c48, hf⟩
  · refine sb_if_eq hm dX13_field_10 (tgt := 15) rfl (fun _ => ?_) (fun z => absurd c48 z)
    refine mx_S.pu (pc2 := 16) (lv2 := [(2, .int u16.1), (0, .ref a0), (1, .int a1)]) (st2 := [.int u16.1]) hm dX13_field_15 rfl ?_
    refine sx_ic (v := 2) hm dX13_field_16 (by decide) ?_
    rcases mx_if_el hf with ⟨c47, hf⟩ | ⟨c47, hf⟩
    · refine sb_ic_eq hm dX13_field_17 (tgt := 27) rfl (fun _ => ?_) (fun z => absurd c47 z)
      refine mx_S.ext [(0, .ref a0), (1, .int a1)] (mx_sub_pos [1, 2] rfl (show ([2, 0, 1] : List Nat).Nodup by decide)) ?_
      exact j_X13_field_27_ok X hF hL nn a0 a1 u16.2 hf
    · refine sb_ic_eq hm dX13_field_17 (tgt := 27) rfl (fun z => absurd z c47) (fun _ => ?_)
      refine mx_S.pu (pc2 := 21) (lv2 := [(2, .int u16.1), (0, .ref a0), (1, .int a1)]) (st2 := [.int u16.1]) hm dX13_field_20 rfl ?_
      replace hf := mx_sv_el hf; obtain ⟨u18, e_u18, hf⟩ := hf
      refine sx_cs hm dX13_field_21 rs_RX13_543 mt_X13_isThing [.int u16.1] [] rfl rfl (Nat.le_of_ble_eq_true rfl) (Nat.le_of_ble_eq_true rfl) (by omega) (by omega) (f_X13_isThing_ok X (by omega) (by omega) nn u16.1 u16.2 e_u18) ?_
      clear e_u18
      show mx_S X F L 444 24 [(2, .int u16.1), (0, .ref a0), (1, .int a1)] [.int u18.1] u18.2 0 0 (some (.int r.1), r.2, 0, 0)
      rcases mx_if_el hf with ⟨c46, hf⟩ | ⟨c46, hf⟩
      · refine sb_if_ne hm dX13_field_24 (tgt := 41) rfl (fun _ => ?_) (fun z => absurd c46 z)
        refine mx_S.pu (pc2 := 42) (lv2 := [(2, .int u16.1), (0, .ref a0), (1, .int a1)]) (st2 := [.int u16.1]) hm dX13_field_41 rfl ?_
        replace hf := mx_sv_el hf; obtain ⟨u19, e_u19, hf⟩ := hf
        refine sx_cs hm dX13_field_42 rs_RX13_485 mt_X13_isArray [.int u16.1] [] rfl rfl (Nat.le_of_ble_eq_true rfl) (Nat.le_of_ble_eq_true rfl) (by omega) (by omega) (f_X13_isArray_ok X (by omega) (by omega) nn u16.1 u18.2 e_u19) ?_
        clear e_u19
        show mx_S X F L 444 45 [(2, .int u16.1), (0, .ref a0), (1, .int a1)] [.int u19.1] u19.2 0 0 (some (.int r.1), r.2, 0, 0)
        rcases mx_if_el hf with ⟨c45, hf⟩ | ⟨c45, hf⟩
        · refine sb_if_eq hm dX13_field_45 (tgt := 117) rfl (fun _ => ?_) (fun z => absurd c45 z)
          refine mx_S.pu (pc2 := 118) (lv2 := [(2, .int u16.1), (0, .ref a0), (1, .int a1)]) (st2 := [.ref a0]) hm dX13_field_117 rfl ?_
          refine mx_S.pu (pc2 := 119) (lv2 := [(2, .int u16.1), (0, .ref a0), (1, .int a1)]) (st2 := [.int u16.1, .ref a0]) hm dX13_field_118 rfl ?_
          refine sx_bi (v := 8) hm dX13_field_119 (by decide) ?_
          replace hf := xl_el hf; obtain ⟨v20, e_v20, hf⟩ := hf
          refine mx_S.pu (pc2 := 122) (lv2 := [(2, .int u16.1), (0, .ref a0), (1, .int a1)]) (st2 := [.int v20, .ref a0]) hm dX13_field_121 (by rw [← e_v20]; rfl) ?_
          clear e_v20
          refine sx_ic (v := 2) hm dX13_field_122 (by decide) ?_
          replace hf := xl_el hf; obtain ⟨v21, e_v21, hf⟩ := hf
          refine sx_idiv (v := v21) hm dX13_field_123 (by decide) e_v21 ?_
          clear e_v21
          refine mx_S.pu (pc2 := 125) (lv2 := [(2, .int u16.1), (0, .ref a0), (1, .int a1)]) (st2 := [.ref a0, .int v21, .ref a0]) hm dX13_field_124 rfl ?_
          replace hf := mx_sv_el hf; obtain ⟨v22, e_v22, hf⟩ := hf
          refine sx_get hm dX13_field_125 rs_RX13_31 (xgr_el e_v22) ?_
          clear e_v22
          refine mx_S.pu (pc2 := 129) (lv2 := [(2, .int u16.1), (0, .ref a0), (1, .int a1)]) (st2 := [.int a1, .ref v22, .int v21, .ref a0]) hm dX13_field_128 rfl ?_
          replace hf := mx_sv_el hf; obtain ⟨v23, e_v23, hf⟩ := hf
          refine sx_ald hm dX13_field_129 e_v23 ?_
          clear e_v23
          refine sx_ic (v := 0) hm dX13_field_130 (by decide) ?_
          replace hf := mx_gd_el hf; obtain ⟨c24, hf⟩ := hf
          replace hf := mx_sv_el hf; obtain ⟨u25, e_u25, hf⟩ := hf
          refine sx_cv hm dX13_field_131 rs_RX13_507 mt_X13_memberOf [.int v21, .int v23, .int 0] [] (b := a0) (ci := 13) rfl rfl rfl c24 (Nat.le_of_ble_eq_true rfl) (Nat.le_of_ble_eq_true rfl) (by omega) (by omega) (f_X13_memberOf_ok X (by omega) (by omega) nn a0 v21 v23 0 u19.2 e_u25) ?_
          clear e_u25
          show mx_S X F L 444 134 [(2, .int u16.1), (0, .ref a0), (1, .int a1)] [.int u25.1] u25.2 0 0 (some (.int r.1), r.2, 0, 0)
          refine mx_S.pu (pc2 := 135) (lv2 := [(3, .int u25.1), (2, .int u16.1), (0, .ref a0), (1, .int a1)]) (st2 := []) hm dX13_field_134 rfl ?_
          refine mx_S.pu (pc2 := 136) (lv2 := [(3, .int u25.1), (2, .int u16.1), (0, .ref a0), (1, .int a1)]) (st2 := [.int u25.1]) hm dX13_field_135 rfl ?_
          refine sx_ic (v := (-1)) hm dX13_field_136 (by decide) ?_
          rcases mx_if_el hf with ⟨c30, hf⟩ | ⟨c30, hf⟩
          · refine sb_ic_ne hm dX13_field_137 (tgt := 151) rfl (fun _ => ?_) (fun z => absurd c30 z)
            refine mx_S.ext [(0, .ref a0), (1, .int a1), (3, .int u25.1)] (mx_sub_pos [2, 3, 0] rfl (show ([3, 2, 0, 1] : List Nat).Nodup by decide)) ?_
            exact j_X13_field_151_ok X hF hL nn a0 a1 u25.1 u25.2 hf
          · refine sb_ic_ne hm dX13_field_137 (tgt := 151) rfl (fun z => absurd z c30) (fun _ => ?_)
            refine mx_S.pu (pc2 := 141) (lv2 := [(3, .int u25.1), (2, .int u16.1), (0, .ref a0), (1, .int a1)]) (st2 := [.ref a0]) hm dX13_field_140 rfl ?_
            refine sx_ic (v := 5) hm dX13_field_141 (by decide) ?_
            refine mx_S.pu (pc2 := 143) (lv2 := [(3, .int u25.1), (2, .int u16.1), (0, .ref a0), (1, .int a1)]) (st2 := [.ref a0, .int 5, .ref a0]) hm dX13_field_142 rfl ?_
            replace hf := mx_sv_el hf; obtain ⟨v26, e_v26, hf⟩ := hf
            refine sx_get hm dX13_field_143 rs_RX13_31 (xgr_el e_v26) ?_
            clear e_v26
            refine mx_S.pu (pc2 := 147) (lv2 := [(3, .int u25.1), (2, .int u16.1), (0, .ref a0), (1, .int a1)]) (st2 := [.int a1, .ref v26, .int 5, .ref a0]) hm dX13_field_146 rfl ?_
            replace hf := mx_sv_el hf; obtain ⟨v27, e_v27, hf⟩ := hf
            refine sx_ald hm dX13_field_147 e_v27 ?_
            clear e_v27
            replace hf := mx_gd_el hf; obtain ⟨c28, hf⟩ := hf
            replace hf := mx_sv_el hf; obtain ⟨u29, e_u29, hf⟩ := hf
            refine sx_cv hm dX13_field_148 rs_RX13_379 mt_X13_wrong [.int 5, .int v27] [] (b := a0) (ci := 13) rfl rfl rfl c28 (Nat.le_of_ble_eq_true rfl) (Nat.le_of_ble_eq_true rfl) (by omega) (by omega) (f_X13_wrong_ok X (by omega) (by omega) nn a0 5 v27 u25.2 e_u29) ?_
            clear e_u29
            show mx_S X F L 444 151 [(3, .int u25.1), (2, .int u16.1), (0, .ref a0), (1, .int a1)] [] u29 0 0 (some (.int r.1), r.2, 0, 0)
            refine mx_S.ext [(0, .ref a0), (1, .int a1), (3, .int u25.1)] (mx_sub_pos [2, 3, 0] rfl (show ([3, 2, 0, 1] : List Nat).Nodup by decide)) ?_
            exact j_X13_field_151_ok X hF hL nn a0 a1 u25.1 u29 hf
        · refine sb_if_eq hm dX13_field_45 (tgt := 117) rfl (fun z => absurd z c45) (fun _ => ?_)
          refine mx_S.pu (pc2 := 49) (lv2 := [(2, .int u16.1), (0, .ref a0), (1, .int a1)]) (st2 := [.ref a0]) hm dX13_field_48 rfl ?_
          replace hf := mx_sv_el hf; obtain ⟨v31, e_v31, hf⟩ := hf
          refine sx_get hm dX13_field_49 rs_RX13_52 (xgr_el e_v31) ?_
          clear e_v31
          refine mx_S.pu (pc2 := 53) (lv2 := [(2, .int u16.1), (0, .ref a0), (1, .int a1)]) (st2 := [.int a1, .ref v31]) hm dX13_field_52 rfl ?_
          refine sx_ic (v := (-1)) hm dX13_field_53 (by decide) ?_
          replace hf := mx_sv_el hf; obtain ⟨h32, e_h32, hf⟩ := hf
          refine sx_ast hm dX13_field_54 e_h32 ?_
          clear e_h32
          refine mx_S.pu (pc2 := 56) (lv2 := [(2, .int u16.1), (0, .ref a0), (1, .int a1)]) (st2 := [.ref a0]) hm dX13_field_55 rfl ?_
          replace hf := mx_sv_el hf; obtain ⟨v33, e_v33, hf⟩ := hf
          refine sx_get hm dX13_field_56 rs_RX13_22 (xgr_el e_v33) ?_
          clear e_v33
          refine mx_S.pu (pc2 := 60) (lv2 := [(2, .int u16.1), (0, .ref a0), (1, .int a1)]) (st2 := [.ref a0, .ref v33]) hm dX13_field_59 rfl ?_
          replace hf := mx_sv_el hf; obtain ⟨v34, e_v34, hf⟩ := hf
          refine sx_get hm dX13_field_60 rs_RX13_31 (xgr_el e_v34) ?_
          clear e_v34
          refine mx_S.pu (pc2 := 64) (lv2 := [(2, .int u16.1), (0, .ref a0), (1, .int a1)]) (st2 := [.int a1, .ref v34, .ref v33]) hm dX13_field_63 rfl ?_
          replace hf := mx_sv_el hf; obtain ⟨v35, e_v35, hf⟩ := hf
          refine sx_ald hm dX13_field_64 e_v35 ?_
          clear e_v35
          replace hf := mx_sv_el hf; obtain ⟨v36, e_v36, hf⟩ := hf
          refine sx_ald hm dX13_field_65 e_v36 ?_
          clear e_v36
          refine sx_bi (v := 6) hm dX13_field_66 (by decide) ?_
          rcases mx_if_el hf with ⟨c44, hf⟩ | ⟨c44, hf⟩
          · refine sb_ic_ne hm dX13_field_68 (tgt := 98) rfl (fun _ => ?_) (fun z => absurd c44 z)
            refine mx_S.ext [(0, .ref a0), (1, .int a1)] (mx_sub_pos [1, 2] rfl (show ([2, 0, 1] : List Nat).Nodup by decide)) ?_
            exact j_X13_field_98_ok X hF hL nn a0 a1 h32 hf
          · refine sb_ic_ne hm dX13_field_68 (tgt := 98) rfl (fun z => absurd z c44) (fun _ => ?_)
            refine mx_S.pu (pc2 := 72) (lv2 := [(2, .int u16.1), (0, .ref a0), (1, .int a1)]) (st2 := [.ref a0]) hm dX13_field_71 rfl ?_
            refine sx_ldcw hm dX13_field_72 rs_RX13_588 ?_
            refine mx_S.pu (pc2 := 76) (lv2 := [(2, .int u16.1), (0, .ref a0), (1, .int a1)]) (st2 := [.ref a0, .ref (1000000000 + 4), .ref a0]) hm dX13_field_75 rfl ?_
            replace hf := mx_sv_el hf; obtain ⟨v37, e_v37, hf⟩ := hf
            refine sx_get hm dX13_field_76 rs_RX13_19 (xgr_el e_v37) ?_
            clear e_v37
            refine mx_S.pu (pc2 := 80) (lv2 := [(2, .int u16.1), (0, .ref a0), (1, .int a1)]) (st2 := [.ref a0, .ref v37, .ref (1000000000 + 4), .ref a0]) hm dX13_field_79 rfl ?_
            replace hf := mx_sv_el hf; obtain ⟨v38, e_v38, hf⟩ := hf
            refine sx_get hm dX13_field_80 rs_RX13_31 (xgr_el e_v38) ?_
            clear e_v38
            refine mx_S.pu (pc2 := 84) (lv2 := [(2, .int u16.1), (0, .ref a0), (1, .int a1)]) (st2 := [.int a1, .ref v38, .ref v37, .ref (1000000000 + 4), .ref a0]) hm dX13_field_83 rfl ?_
            replace hf := mx_sv_el hf; obtain ⟨v39, e_v39, hf⟩ := hf
            refine sx_ald hm dX13_field_84 e_v39 ?_
            clear e_v39
            replace hf := mx_sv_el hf; obtain ⟨v40, e_v40, hf⟩ := hf
            refine sx_ald hm dX13_field_85 e_v40 ?_
            clear e_v40
            refine sx_bi (v := 6) hm dX13_field_86 (by decide) ?_
            replace hf := mx_gd_el hf; obtain ⟨c41, hf⟩ := hf
            replace hf := mx_sv_el hf; obtain ⟨u42, e_u42, hf⟩ := hf
            refine sx_cv hm dX13_field_88 rs_RX13_354 mt_X13_among [.ref (1000000000 + 4), .int v40, .int 6] [] (b := a0) (ci := 13) rfl rfl rfl c41 (Nat.le_of_ble_eq_true rfl) (Nat.le_of_ble_eq_true rfl) (by omega) (by omega) (f_X13_among_ok X (by omega) (by omega) nn a0 (1000000000 + 4) v40 6 h32 e_u42) ?_
            clear e_u42
            show mx_S X F L 444 91 [(2, .int u16.1), (0, .ref a0), (1, .int a1)] [.int u42.1] u42.2 0 0 (some (.int r.1), r.2, 0, 0)
            rcases mx_if_el hf with ⟨c43, hf⟩ | ⟨c43, hf⟩
            · refine sb_if_ne hm dX13_field_91 (tgt := 98) rfl (fun _ => ?_) (fun z => absurd c43 z)
              refine mx_S.ext [(0, .ref a0), (1, .int a1)] (mx_sub_pos [1, 2] rfl (show ([2, 0, 1] : List Nat).Nodup by decide)) ?_
              exact j_X13_field_98_ok X hF hL nn a0 a1 u42.2 hf
            · refine sb_if_ne hm dX13_field_91 (tgt := 98) rfl (fun z => absurd z c43) (fun _ => ?_)
              refine sx_ic (v := 1) hm dX13_field_94 (by decide) ?_
              refine mx_S.pu (pc2 := 99) (lv2 := [(2, .int u16.1), (0, .ref a0), (1, .int a1)]) (st2 := [.int 1]) hm dX13_field_95 rfl ?_
              refine mx_S.ext [(0, .ref a0), (1, .int a1)] (mx_sub_pos [1, 2] rfl (show ([2, 0, 1] : List Nat).Nodup by decide)) ?_
              exact j_X13_field_99_ok X hF hL nn a0 a1 1 u42.2 hf
      · refine sb_if_ne hm dX13_field_24 (tgt := 41) rfl (fun z => absurd z c46) (fun _ => ?_)
        refine mx_S.ext [(0, .ref a0), (1, .int a1)] (mx_sub_pos [1, 2] rfl (show ([2, 0, 1] : List Nat).Nodup by decide)) ?_
        exact j_X13_field_27_ok X hF hL nn a0 a1 u18.2 hf
  · refine sb_if_eq hm dX13_field_10 (tgt := 15) rfl (fun z => absurd z c48) (fun _ => ?_)
    refine sx_ic (v := 0) hm dX13_field_13 (by decide) ?_
    cases hf
    exact sx_ire hm dX13_field_14 rfl rfl
set_option maxHeartbeats 4000000 in
set_option maxRecDepth 20000 in
theorem f_X13_local_ok (X : Nat × (Nat → Int32)) {F L : Nat} (hF : 0 ≤ F) (hL : 0 ≤ L) (nn : Nat) (a0 : Nat) (a1 : Int32) (h : mx_H) {r : (Int32 × mx_H)} (hf : f_X13_local nn a0 a1 h = some r) : mx_R X F L 429 [.ref a0, .int a1] h (some (.int r.1), r.2, 0, 0) := by
  have hm : mx_mt 429 = some (yX13_local, cX13_local, 2, (some .int)) := mt_X13_local
  show mx_S X F L 429 0 [(0, .ref a0), (1, .int a1)] [] h 0 0 (some (.int r.1), r.2, 0, 0)
  unfold f_X13_local at hf
  refine mx_S.pu (pc2 := 1) (lv2 := [(0, .ref a0), (1, .int a1)]) (st2 := [.ref a0]) hm dX13_local_0 rfl ?_
  replace hf := mx_sv_el hf; obtain ⟨v1, e_v1, hf⟩ := hf
  refine sx_get hm dX13_local_1 rs_RX13_510 (xgi_el e_v1) ?_
  clear e_v1
  rcases mx_if_el hf with ⟨c3, hf⟩ | ⟨c3, hf⟩
  · refine sb_if_eq hm dX13_local_4 (tgt := 11) rfl (fun _ => ?_) (fun z => absurd c3 z)
    refine mx_S.pu (pc2 := 12) (lv2 := [(0, .ref a0), (1, .int a1)]) (st2 := [.int a1]) hm dX13_local_11 rfl ?_
    refine sx_ic (v := 1) hm dX13_local_12 (by decide) ?_
    replace hf := xl_el hf; obtain ⟨v2, e_v2, hf⟩ := hf
    refine mx_S.pu (pc2 := 14) (lv2 := [(0, .ref a0), (1, .int a1)]) (st2 := [.int v2]) hm dX13_local_13 (by rw [← e_v2]; rfl) ?_
    clear e_v2
    cases hf
    exact sx_ire hm dX13_local_14 rfl rfl
  · refine sb_if_eq hm dX13_local_4 (tgt := 11) rfl (fun z => absurd z c3) (fun _ => ?_)
    refine mx_S.pu (pc2 := 8) (lv2 := [(0, .ref a0), (1, .int a1)]) (st2 := [.int a1]) hm dX13_local_7 rfl ?_
    refine mx_S.pu (pc2 := 14) (lv2 := [(0, .ref a0), (1, .int a1)]) (st2 := [.int a1]) hm dX13_local_8 rfl ?_
    cases hf
    exact sx_ire hm dX13_local_14 rfl rfl
set_option maxHeartbeats 4000000 in
set_option maxRecDepth 20000 in
theorem j_X13_named_95_ok (X : Nat × (Nat → Int32)) {F L : Nat} (hF : 2 ≤ F) (hL : 49 ≤ L) (nn : Nat) (l0 : Nat) (l1 : Int32) (l3 : Int32) (h : mx_H) {r : (Int32 × mx_H)} (hf : j_X13_named_95 nn l0 l1 l3 h = some r) : mx_S X F L 442 95 [(0, .ref l0), (1, .int l1), (3, .int l3)] [] h 0 0 (some (.int r.1), r.2, 0, 0) := by
  have hm : mx_mt 442 = some (yX13_named, cX13_named, 4, (some .int)) := mt_X13_named
  unfold j_X13_named_95 at hf
  refine mx_S.pu (pc2 := 96) (lv2 := [(0, .ref l0), (1, .int l1), (3, .int l3)]) (st2 := [.ref l0]) hm dX13_named_95 rfl ?_
  replace hf := mx_sv_el hf; obtain ⟨v1, e_v1, hf⟩ := hf
  refine sx_get hm dX13_named_96 rs_RX13_52 (xgr_el e_v1) ?_
  clear e_v1
  refine mx_S.pu (pc2 := 100) (lv2 := [(0, .ref l0), (1, .int l1), (3, .int l3)]) (st2 := [.int l1, .ref v1]) hm dX13_named_99 rfl ?_
  refine mx_S.pu (pc2 := 101) (lv2 := [(0, .ref l0), (1, .int l1), (3, .int l3)]) (st2 := [.int l3, .int l1, .ref v1]) hm dX13_named_100 rfl ?_
  replace hf := mx_sv_el hf; obtain ⟨h2, e_h2, hf⟩ := hf
  refine sx_ast hm dX13_named_101 e_h2 ?_
  clear e_h2
  refine mx_S.pu (pc2 := 103) (lv2 := [(0, .ref l0), (1, .int l1), (3, .int l3)]) (st2 := [.int l3]) hm dX13_named_102 rfl ?_
  refine sx_ic (v := (-1)) hm dX13_named_103 (by decide) ?_
  rcases mx_if_el hf with ⟨c5, hf⟩ | ⟨c5, hf⟩
  · refine sb_ic_ne hm dX13_named_104 (tgt := 111) rfl (fun _ => ?_) (fun z => absurd c5 z)
    refine mx_S.pu (pc2 := 112) (lv2 := [(0, .ref l0), (1, .int l1), (3, .int l3)]) (st2 := [.ref l0]) hm dX13_named_111 rfl ?_
    replace hf := mx_sv_el hf; obtain ⟨v3, e_v3, hf⟩ := hf
    refine sx_get hm dX13_named_112 rs_RX13_89 (xgr_el e_v3) ?_
    clear e_v3
    refine mx_S.pu (pc2 := 116) (lv2 := [(0, .ref l0), (1, .int l1), (3, .int l3)]) (st2 := [.int l3, .ref v3]) hm dX13_named_115 rfl ?_
    replace hf := mx_sv_el hf; obtain ⟨v4, e_v4, hf⟩ := hf
    refine sx_ald hm dX13_named_116 e_v4 ?_
    clear e_v4
    cases hf
    exact sx_ire hm dX13_named_117 rfl rfl
  · refine sb_ic_ne hm dX13_named_104 (tgt := 111) rfl (fun z => absurd z c5) (fun _ => ?_)
    refine sx_ic (v := 0) hm dX13_named_107 (by decide) ?_
    refine mx_S.pu (pc2 := 117) (lv2 := [(0, .ref l0), (1, .int l1), (3, .int l3)]) (st2 := [.int 0]) hm dX13_named_108 rfl ?_
    cases hf
    exact sx_ire hm dX13_named_117 rfl rfl
set_option maxHeartbeats 4000000 in
set_option maxRecDepth 20000 in
theorem f_X13_named_ok (X : Nat × (Nat → Int32)) {F L : Nat} (hF : 2 ≤ F) (hL : 49 ≤ L) (nn : Nat) (a0 : Nat) (a1 : Int32) (h : mx_H) {r : (Int32 × mx_H)} (hf : f_X13_named nn a0 a1 h = some r) : mx_R X F L 442 [.ref a0, .int a1] h (some (.int r.1), r.2, 0, 0) := by
  have hm : mx_mt 442 = some (yX13_named, cX13_named, 4, (some .int)) := mt_X13_named
  show mx_S X F L 442 0 [(0, .ref a0), (1, .int a1)] [] h 0 0 (some (.int r.1), r.2, 0, 0)
  unfold f_X13_named at hf
  refine mx_S.pu (pc2 := 1) (lv2 := [(0, .ref a0), (1, .int a1)]) (st2 := [.ref a0]) hm dX13_named_0 rfl ?_
  refine mx_S.pu (pc2 := 2) (lv2 := [(0, .ref a0), (1, .int a1)]) (st2 := [.ref a0, .ref a0]) hm dX13_named_1 rfl ?_
  replace hf := mx_sv_el hf; obtain ⟨v6, e_v6, hf⟩ := hf
  refine sx_get hm dX13_named_2 rs_RX13_31 (xgr_el e_v6) ?_
  clear e_v6
  refine mx_S.pu (pc2 := 6) (lv2 := [(0, .ref a0), (1, .int a1)]) (st2 := [.int a1, .ref v6, .ref a0]) hm dX13_named_5 rfl ?_
  replace hf := mx_sv_el hf; obtain ⟨v7, e_v7, hf⟩ := hf
  refine sx_ald hm dX13_named_6 e_v7 ?_
  clear e_v7
  replace hf := mx_gd_el hf; obtain ⟨c8, hf⟩ := hf
  replace hf := mx_sv_el hf; obtain ⟨u9, e_u9, hf⟩ := hf
  refine sx_cv hm dX13_named_7 rs_RX13_534 mt_X13_sightOf [.int v7] [] (b := a0) (ci := 13) rfl rfl rfl c8 (Nat.le_of_ble_eq_true rfl) (Nat.le_of_ble_eq_true rfl) (by omega) (by omega) (f_X13_sightOf_ok X (by omega) (by omega) nn a0 v7 h e_u9) ?_
  clear e_u9
  show mx_S X F L 442 10 [(0, .ref a0), (1, .int a1)] [.int u9.1] u9.2 0 0 (some (.int r.1), r.2, 0, 0)
  refine mx_S.pu (pc2 := 11) (lv2 := [(2, .int u9.1), (0, .ref a0), (1, .int a1)]) (st2 := []) hm dX13_named_10 rfl ?_
  refine mx_S.pu (pc2 := 12) (lv2 := [(2, .int u9.1), (0, .ref a0), (1, .int a1)]) (st2 := [.int u9.1]) hm dX13_named_11 rfl ?_
  refine sx_ic (v := (-1)) hm dX13_named_12 (by decide) ?_
  rcases mx_if_el hf with ⟨c34, hf⟩ | ⟨c34, hf⟩
  · refine sb_ic_eq hm dX13_named_13 (tgt := 41) rfl (fun _ => ?_) (fun z => absurd c34 z)
    refine mx_S.pu (pc2 := 42) (lv2 := [(2, .int u9.1), (0, .ref a0), (1, .int a1)]) (st2 := [.ref a0]) hm dX13_named_41 rfl ?_
    refine mx_S.pu (pc2 := 43) (lv2 := [(2, .int u9.1), (0, .ref a0), (1, .int a1)]) (st2 := [.ref a0, .ref a0]) hm dX13_named_42 rfl ?_
    replace hf := mx_sv_el hf; obtain ⟨v10, e_v10, hf⟩ := hf
    refine sx_get hm dX13_named_43 rs_RX13_519 (xgi_el e_v10) ?_
    clear e_v10
    refine mx_S.pu (pc2 := 47) (lv2 := [(2, .int u9.1), (0, .ref a0), (1, .int a1)]) (st2 := [.ref a0, .int v10, .ref a0]) hm dX13_named_46 rfl ?_
    replace hf := mx_sv_el hf; obtain ⟨v11, e_v11, hf⟩ := hf
    refine sx_get hm dX13_named_47 rs_RX13_31 (xgr_el e_v11) ?_
    clear e_v11
    refine mx_S.pu (pc2 := 51) (lv2 := [(2, .int u9.1), (0, .ref a0), (1, .int a1)]) (st2 := [.int a1, .ref v11, .int v10, .ref a0]) hm dX13_named_50 rfl ?_
    replace hf := mx_sv_el hf; obtain ⟨v12, e_v12, hf⟩ := hf
    refine sx_ald hm dX13_named_51 e_v12 ?_
    clear e_v12
    refine sx_ic (v := 0) hm dX13_named_52 (by decide) ?_
    replace hf := mx_gd_el hf; obtain ⟨c13, hf⟩ := hf
    replace hf := mx_sv_el hf; obtain ⟨u14, e_u14, hf⟩ := hf
    refine sx_cv hm dX13_named_53 rs_RX13_507 mt_X13_memberOf [.int v10, .int v12, .int 0] [] (b := a0) (ci := 13) rfl rfl rfl c13 (Nat.le_of_ble_eq_true rfl) (Nat.le_of_ble_eq_true rfl) (by omega) (by omega) (f_X13_memberOf_ok X (by omega) (by omega) nn a0 v10 v12 0 u9.2 e_u14) ?_
    clear e_u14
    show mx_S X F L 442 56 [(2, .int u9.1), (0, .ref a0), (1, .int a1)] [.int u14.1] u14.2 0 0 (some (.int r.1), r.2, 0, 0)
    refine mx_S.pu (pc2 := 57) (lv2 := [(3, .int u14.1), (2, .int u9.1), (0, .ref a0), (1, .int a1)]) (st2 := []) hm dX13_named_56 rfl ?_
    refine mx_S.pu (pc2 := 58) (lv2 := [(3, .int u14.1), (2, .int u9.1), (0, .ref a0), (1, .int a1)]) (st2 := [.int u14.1]) hm dX13_named_57 rfl ?_
    refine sx_ic (v := (-1)) hm dX13_named_58 (by decide) ?_
    rcases mx_if_el hf with ⟨c25, hf⟩ | ⟨c25, hf⟩
    · refine sb_ic_ne hm dX13_named_59 (tgt := 76) rfl (fun _ => ?_) (fun z => absurd c25 z)
      refine mx_S.pu (pc2 := 77) (lv2 := [(3, .int u14.1), (2, .int u9.1), (0, .ref a0), (1, .int a1)]) (st2 := [.ref a0]) hm dX13_named_76 rfl ?_
      replace hf := mx_sv_el hf; obtain ⟨v15, e_v15, hf⟩ := hf
      refine sx_get hm dX13_named_77 rs_RX13_510 (xgi_el e_v15) ?_
      clear e_v15
      rcases mx_if_el hf with ⟨c20, hf⟩ | ⟨c20, hf⟩
      · refine sb_if_eq hm dX13_named_80 (tgt := 95) rfl (fun _ => ?_) (fun z => absurd c20 z)
        refine mx_S.ext [(0, .ref a0), (1, .int a1), (3, .int u14.1)] (mx_sub_pos [2, 3, 0] rfl (show ([3, 2, 0, 1] : List Nat).Nodup by decide)) ?_
        exact j_X13_named_95_ok X hF hL nn a0 a1 u14.1 u14.2 hf
      · refine sb_if_eq hm dX13_named_80 (tgt := 95) rfl (fun z => absurd z c20) (fun _ => ?_)
        refine mx_S.pu (pc2 := 84) (lv2 := [(3, .int u14.1), (2, .int u9.1), (0, .ref a0), (1, .int a1)]) (st2 := [.ref a0]) hm dX13_named_83 rfl ?_
        refine sx_bi (v := 7) hm dX13_named_84 (by decide) ?_
        refine mx_S.pu (pc2 := 87) (lv2 := [(3, .int u14.1), (2, .int u9.1), (0, .ref a0), (1, .int a1)]) (st2 := [.ref a0, .int 7, .ref a0]) hm dX13_named_86 rfl ?_
        replace hf := mx_sv_el hf; obtain ⟨v16, e_v16, hf⟩ := hf
        refine sx_get hm dX13_named_87 rs_RX13_31 (xgr_el e_v16) ?_
        clear e_v16
        refine mx_S.pu (pc2 := 91) (lv2 := [(3, .int u14.1), (2, .int u9.1), (0, .ref a0), (1, .int a1)]) (st2 := [.int a1, .ref v16, .int 7, .ref a0]) hm dX13_named_90 rfl ?_
        replace hf := mx_sv_el hf; obtain ⟨v17, e_v17, hf⟩ := hf
        refine sx_ald hm dX13_named_91 e_v17 ?_
        clear e_v17
        replace hf := mx_gd_el hf; obtain ⟨c18, hf⟩ := hf
        replace hf := mx_sv_el hf; obtain ⟨u19, e_u19, hf⟩ := hf
        refine sx_cv hm dX13_named_92 rs_RX13_379 mt_X13_wrong [.int 7, .int v17] [] (b := a0) (ci := 13) rfl rfl rfl c18 (Nat.le_of_ble_eq_true rfl) (Nat.le_of_ble_eq_true rfl) (by omega) (by omega) (f_X13_wrong_ok X (by omega) (by omega) nn a0 7 v17 u14.2 e_u19) ?_
        clear e_u19
        show mx_S X F L 442 95 [(3, .int u14.1), (2, .int u9.1), (0, .ref a0), (1, .int a1)] [] u19 0 0 (some (.int r.1), r.2, 0, 0)
        refine mx_S.ext [(0, .ref a0), (1, .int a1), (3, .int u14.1)] (mx_sub_pos [2, 3, 0] rfl (show ([3, 2, 0, 1] : List Nat).Nodup by decide)) ?_
        exact j_X13_named_95_ok X hF hL nn a0 a1 u14.1 u19 hf
    · refine sb_ic_ne hm dX13_named_59 (tgt := 76) rfl (fun z => absurd z c25) (fun _ => ?_)
      refine mx_S.pu (pc2 := 63) (lv2 := [(3, .int u14.1), (2, .int u9.1), (0, .ref a0), (1, .int a1)]) (st2 := [.ref a0]) hm dX13_named_62 rfl ?_
      refine sx_ic (v := 5) hm dX13_named_63 (by decide) ?_
      refine mx_S.pu (pc2 := 65) (lv2 := [(3, .int u14.1), (2, .int u9.1), (0, .ref a0), (1, .int a1)]) (st2 := [.ref a0, .int 5, .ref a0]) hm dX13_named_64 rfl ?_
      replace hf := mx_sv_el hf; obtain ⟨v21, e_v21, hf⟩ := hf
      refine sx_get hm dX13_named_65 rs_RX13_31 (xgr_el e_v21) ?_
      clear e_v21
      refine mx_S.pu (pc2 := 69) (lv2 := [(3, .int u14.1), (2, .int u9.1), (0, .ref a0), (1, .int a1)]) (st2 := [.int a1, .ref v21, .int 5, .ref a0]) hm dX13_named_68 rfl ?_
      replace hf := mx_sv_el hf; obtain ⟨v22, e_v22, hf⟩ := hf
      refine sx_ald hm dX13_named_69 e_v22 ?_
      clear e_v22
      replace hf := mx_gd_el hf; obtain ⟨c23, hf⟩ := hf
      replace hf := mx_sv_el hf; obtain ⟨u24, e_u24, hf⟩ := hf
      refine sx_cv hm dX13_named_70 rs_RX13_379 mt_X13_wrong [.int 5, .int v22] [] (b := a0) (ci := 13) rfl rfl rfl c23 (Nat.le_of_ble_eq_true rfl) (Nat.le_of_ble_eq_true rfl) (by omega) (by omega) (f_X13_wrong_ok X (by omega) (by omega) nn a0 5 v22 u14.2 e_u24) ?_
      clear e_u24
      show mx_S X F L 442 73 [(3, .int u14.1), (2, .int u9.1), (0, .ref a0), (1, .int a1)] [] u24 0 0 (some (.int r.1), r.2, 0, 0)
      refine mx_S.pu (pc2 := 95) (lv2 := [(3, .int u14.1), (2, .int u9.1), (0, .ref a0), (1, .int a1)]) (st2 := []) hm dX13_named_73 rfl ?_
      refine mx_S.ext [(0, .ref a0), (1, .int a1), (3, .int u14.1)] (mx_sub_pos [2, 3, 0] rfl (show ([3, 2, 0, 1] : List Nat).Nodup by decide)) ?_
      exact j_X13_named_95_ok X hF hL nn a0 a1 u14.1 u24 hf
  · refine sb_ic_eq hm dX13_named_13 (tgt := 41) rfl (fun z => absurd z c34) (fun _ => ?_)
    refine mx_S.pu (pc2 := 17) (lv2 := [(2, .int u9.1), (0, .ref a0), (1, .int a1)]) (st2 := [.ref a0]) hm dX13_named_16 rfl ?_
    replace hf := mx_sv_el hf; obtain ⟨v26, e_v26, hf⟩ := hf
    refine sx_get hm dX13_named_17 rs_RX13_52 (xgr_el e_v26) ?_
    clear e_v26
    refine mx_S.pu (pc2 := 21) (lv2 := [(2, .int u9.1), (0, .ref a0), (1, .int a1)]) (st2 := [.int a1, .ref v26]) hm dX13_named_20 rfl ?_
    refine sx_ic (v := (-1)) hm dX13_named_21 (by decide) ?_
    replace hf := mx_sv_el hf; obtain ⟨h27, e_h27, hf⟩ := hf
    refine sx_ast hm dX13_named_22 e_h27 ?_
    clear e_h27
    refine mx_S.pu (pc2 := 24) (lv2 := [(2, .int u9.1), (0, .ref a0), (1, .int a1)]) (st2 := [.ref a0]) hm dX13_named_23 rfl ?_
    replace hf := mx_sv_el hf; obtain ⟨v28, e_v28, hf⟩ := hf
    refine sx_get hm dX13_named_24 rs_RX13_55 (xgr_el e_v28) ?_
    clear e_v28
    refine mx_S.pu (pc2 := 28) (lv2 := [(2, .int u9.1), (0, .ref a0), (1, .int a1)]) (st2 := [.int a1, .ref v28]) hm dX13_named_27 rfl ?_
    refine mx_S.pu (pc2 := 29) (lv2 := [(2, .int u9.1), (0, .ref a0), (1, .int a1)]) (st2 := [.ref a0, .int a1, .ref v28]) hm dX13_named_28 rfl ?_
    refine mx_S.pu (pc2 := 30) (lv2 := [(2, .int u9.1), (0, .ref a0), (1, .int a1)]) (st2 := [.int u9.1, .ref a0, .int a1, .ref v28]) hm dX13_named_29 rfl ?_
    replace hf := mx_gd_el hf; obtain ⟨c29, hf⟩ := hf
    replace hf := mx_sv_el hf; obtain ⟨u30, e_u30, hf⟩ := hf
    refine sx_cv hm dX13_named_30 rs_RX13_582 mt_X13_local [.int u9.1] [.int a1, .ref v28] (b := a0) (ci := 13) rfl rfl rfl c29 (Nat.le_of_ble_eq_true rfl) (Nat.le_of_ble_eq_true rfl) (by omega) (by omega) (f_X13_local_ok X (by omega) (by omega) nn a0 u9.1 h27 e_u30) ?_
    clear e_u30
    show mx_S X F L 442 33 [(2, .int u9.1), (0, .ref a0), (1, .int a1)] [.int u30.1, .int a1, .ref v28] u30.2 0 0 (some (.int r.1), r.2, 0, 0)
    replace hf := mx_sv_el hf; obtain ⟨h31, e_h31, hf⟩ := hf
    refine sx_ast hm dX13_named_33 e_h31 ?_
    clear e_h31
    refine mx_S.pu (pc2 := 35) (lv2 := [(2, .int u9.1), (0, .ref a0), (1, .int a1)]) (st2 := [.ref a0]) hm dX13_named_34 rfl ?_
    replace hf := mx_sv_el hf; obtain ⟨v32, e_v32, hf⟩ := hf
    refine sx_get hm dX13_named_35 rs_RX13_119 (xgr_el e_v32) ?_
    clear e_v32
    refine mx_S.pu (pc2 := 39) (lv2 := [(2, .int u9.1), (0, .ref a0), (1, .int a1)]) (st2 := [.int u9.1, .ref v32]) hm dX13_named_38 rfl ?_
    replace hf := mx_sv_el hf; obtain ⟨v33, e_v33, hf⟩ := hf
    refine sx_ald hm dX13_named_39 e_v33 ?_
    clear e_v33
    cases hf
    exact sx_ire hm dX13_named_40 rfl rfl
