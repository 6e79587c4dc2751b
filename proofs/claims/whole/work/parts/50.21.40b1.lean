set_option maxHeartbeats 4000000 in
set_option maxRecDepth 20000 in
theorem j_X13_primary_138_ok (X : Nat × (Nat → Int32)) {F L d : Nat} (hF : 3 + (d + 1) ≤ F) (hL : 63 + (d + 1) * 28 ≤ L) (nn : Nat) {rc : tg_X13_expression} (hrc : hg5_X13_expression X d rc) (l0 : Nat) (l2 : Int32) (l3 : Int32) (h : mx_H) {r : (Int32 × mx_H)} (hf : j_X13_primary_138 nn rc l0 l2 l3 h = some r) : mx_S X F L 414 138 [(0, .ref l0), (2, .int l2), (3, .int l3)] [] h 0 0 (some (.int r.1), r.2, 0, 0) := by
  have hm : mx_mt 414 = some (yX13_primary, cX13_primary, 5, (some .int)) := mt_X13_primary
  unfold j_X13_primary_138 at hf
  refine mx_S.pu (pc2 := 139) (lv2 := [(0, .ref l0), (2, .int l2), (3, .int l3)]) (st2 := [.ref l0]) hm dX13_primary_138 rfl ?_
  replace hf := mx_sv_el hf; obtain ⟨v11, e_v11, hf⟩ := hf
  refine sx_get hm dX13_primary_139 rs_RX13_319 (xgi_el e_v11) ?_
  clear e_v11
  rcases mx_if_el hf with ⟨c16, hf⟩ | ⟨c16, hf⟩
  · refine sb_if_eq hm dX13_primary_142 (tgt := 147) rfl (fun _ => ?_) (fun z => absurd c16 z)
    refine mx_S.pu (pc2 := 148) (lv2 := [(0, .ref l0), (2, .int l2), (3, .int l3)]) (st2 := [.ref l0]) hm dX13_primary_147 rfl ?_
    replace hf := mx_sv_el hf; obtain ⟨v12, e_v12, hf⟩ := hf
    refine sx_get hm dX13_primary_148 rs_RX13_34 (xgr_el e_v12) ?_
    clear e_v12
    refine mx_S.pu (pc2 := 152) (lv2 := [(0, .ref l0), (2, .int l2), (3, .int l3)]) (st2 := [.int l3, .ref v12]) hm dX13_primary_151 rfl ?_
    refine mx_S.pu (pc2 := 153) (lv2 := [(0, .ref l0), (2, .int l2), (3, .int l3)]) (st2 := [.int l2, .int l3, .ref v12]) hm dX13_primary_152 rfl ?_
    replace hf := mx_sv_el hf; obtain ⟨h13, e_h13, hf⟩ := hf
    refine sx_ast hm dX13_primary_153 e_h13 ?_
    clear e_h13
    refine mx_S.pu (pc2 := 155) (lv2 := [(0, .ref l0), (2, .int l2), (3, .int l3)]) (st2 := [.ref l0]) hm dX13_primary_154 rfl ?_
    replace hf := mx_sv_el hf; obtain ⟨v14, e_v14, hf⟩ := hf
    refine sx_get hm dX13_primary_155 rs_RX13_58 (xgr_el e_v14) ?_
    clear e_v14
    refine mx_S.pu (pc2 := 159) (lv2 := [(0, .ref l0), (2, .int l2), (3, .int l3)]) (st2 := [.int l3, .ref v14]) hm dX13_primary_158 rfl ?_
    refine sx_ic (v := 1) hm dX13_primary_159 (by decide) ?_
    replace hf := mx_sv_el hf; obtain ⟨h15, e_h15, hf⟩ := hf
    refine sx_bst hm dX13_primary_160 e_h15 ?_
    clear e_h15
    refine mx_S.pu (pc2 := 162) (lv2 := [(0, .ref l0), (2, .int l2), (3, .int l3)]) (st2 := [.int l3]) hm dX13_primary_161 rfl ?_
    cases hf
    exact sx_ire hm dX13_primary_162 rfl rfl
  · refine sb_if_eq hm dX13_primary_142 (tgt := 147) rfl (fun z => absurd z c16) (fun _ => ?_)
    refine sx_ic (v := (-1)) hm dX13_primary_145 (by decide) ?_
    cases hf
    exact sx_ire hm dX13_primary_146 rfl rfl
set_option maxHeartbeats 4000000 in
set_option maxRecDepth 20000 in
theorem o_X13_primary_ok (X : Nat × (Nat → Int32)) {F L d : Nat} (hF : 3 + (d + 1) ≤ F) (hL : 63 + (d + 1) * 28 ≤ L) (nn : Nat) {rc : tg_X13_expression} (hrc : hg5_X13_expression X d rc) (a0 : Nat) (a1 : Int32) (h : mx_H) {r : (Int32 × mx_H)} (hf : o_X13_primary nn rc a0 a1 h = some r) : mx_R X F L 414 [.ref a0, .int a1] h (some (.int r.1), r.2, 0, 0) := by
  have hm : mx_mt 414 = some (yX13_primary, cX13_primary, 5, (some .int)) := mt_X13_primary
  show mx_S X F L 414 0 [(0, .ref a0), (1, .int a1)] [] h 0 0 (some (.int r.1), r.2, 0, 0)
  unfold o_X13_primary at hf
  refine mx_S.pu (pc2 := 1) (lv2 := [(0, .ref a0), (1, .int a1)]) (st2 := [.ref a0]) hm dX13_primary_0 rfl ?_
  replace hf := mx_sv_el hf; obtain ⟨v17, e_v17, hf⟩ := hf
  refine sx_get hm dX13_primary_1 rs_RX13_376 (xgi_el e_v17) ?_
  clear e_v17
  refine mx_S.pu (pc2 := 5) (lv2 := [(2, .int v17), (0, .ref a0), (1, .int a1)]) (st2 := []) hm dX13_primary_4 rfl ?_
  refine mx_S.pu (pc2 := 6) (lv2 := [(2, .int v17), (0, .ref a0), (1, .int a1)]) (st2 := [.ref a0]) hm dX13_primary_5 rfl ?_
  replace hf := mx_sv_el hf; obtain ⟨v18, e_v18, hf⟩ := hf
  refine sx_get hm dX13_primary_6 rs_RX13_16 (xgr_el e_v18) ?_
  clear e_v18
  refine mx_S.pu (pc2 := 10) (lv2 := [(2, .int v17), (0, .ref a0), (1, .int a1)]) (st2 := [.ref a0, .ref v18]) hm dX13_primary_9 rfl ?_
  replace hf := mx_sv_el hf; obtain ⟨v19, e_v19, hf⟩ := hf
  refine sx_get hm dX13_primary_10 rs_RX13_376 (xgi_el e_v19) ?_
  clear e_v19
  replace hf := mx_sv_el hf; obtain ⟨v20, e_v20, hf⟩ := hf
  refine sx_ald hm dX13_primary_13 e_v20 ?_
  clear e_v20
  refine sx_ic (v := 2) hm dX13_primary_14 (by decide) ?_
  rcases mx_if_el hf with ⟨c70, hf⟩ | ⟨c70, hf⟩
  · refine sb_ic_ne hm dX13_primary_15 (tgt := 37) rfl (fun _ => ?_) (fun z => absurd c70 z)
    refine mx_S.pu (pc2 := 38) (lv2 := [(2, .int v17), (0, .ref a0), (1, .int a1)]) (st2 := [.ref a0]) hm dX13_primary_37 rfl ?_
    replace hf := mx_sv_el hf; obtain ⟨v21, e_v21, hf⟩ := hf
    refine sx_get hm dX13_primary_38 rs_RX13_16 (xgr_el e_v21) ?_
    clear e_v21
    refine mx_S.pu (pc2 := 42) (lv2 := [(2, .int v17), (0, .ref a0), (1, .int a1)]) (st2 := [.ref a0, .ref v21]) hm dX13_primary_41 rfl ?_
    replace hf := mx_sv_el hf; obtain ⟨v22, e_v22, hf⟩ := hf
    refine sx_get hm dX13_primary_42 rs_RX13_376 (xgi_el e_v22) ?_
    clear e_v22
    replace hf := mx_sv_el hf; obtain ⟨v23, e_v23, hf⟩ := hf
    refine sx_ald hm dX13_primary_45 e_v23 ?_
    clear e_v23
    refine sx_ic (v := 1) hm dX13_primary_46 (by decide) ?_
    rcases mx_if_el hf with ⟨c64, hf⟩ | ⟨c64, hf⟩
    · refine sb_ic_ne hm dX13_primary_47 (tgt := 103) rfl (fun _ => ?_) (fun z => absurd c64 z)
      refine mx_S.pu (pc2 := 104) (lv2 := [(2, .int v17), (0, .ref a0), (1, .int a1)]) (st2 := [.ref a0]) hm dX13_primary_103 rfl ?_
      refine mx_S.pu (pc2 := 105) (lv2 := [(2, .int v17), (0, .ref a0), (1, .int a1)]) (st2 := [.ref a0, .ref a0]) hm dX13_primary_104 rfl ?_
      replace hf := mx_sv_el hf; obtain ⟨v24, e_v24, hf⟩ := hf
      refine sx_get hm dX13_primary_105 rs_RX13_376 (xgi_el e_v24) ?_
      clear e_v24
      refine sx_bi (v := 40) hm dX13_primary_108 (by decide) ?_
      replace hf := mx_gd_el hf; obtain ⟨c25, hf⟩ := hf
      replace hf := mx_sv_el hf; obtain ⟨u26, e_u26, hf⟩ := hf
      refine sx_cv hm dX13_primary_110 rs_RX13_383 mt_X13_isSign [.int v24, .int 40] [] (b := a0) (ci := 13) rfl rfl rfl c25 (Nat.le_of_ble_eq_true rfl) (Nat.le_of_ble_eq_true rfl) (by omega) (by omega) (f_X13_isSign_ok X (by omega) (by omega) nn a0 v24 40 h e_u26) ?_
      clear e_u26
      show mx_S X F L 414 113 [(2, .int v17), (0, .ref a0), (1, .int a1)] [.int u26.1] u26.2 0 0 (some (.int r.1), r.2, 0, 0)
      rcases mx_if_el hf with ⟨c48, hf⟩ | ⟨c48, hf⟩
      · refine sb_if_eq hm dX13_primary_113 (tgt := 163) rfl (fun _ => ?_) (fun z => absurd c48 z)
        refine mx_S.pu (pc2 := 164) (lv2 := [(2, .int v17), (0, .ref a0), (1, .int a1)]) (st2 := [.ref a0]) hm dX13_primary_163 rfl ?_
        replace hf := mx_sv_el hf; obtain ⟨v27, e_v27, hf⟩ := hf
        refine sx_get hm dX13_primary_164 rs_RX13_16 (xgr_el e_v27) ?_
        clear e_v27
        refine mx_S.pu (pc2 := 168) (lv2 := [(2, .int v17), (0, .ref a0), (1, .int a1)]) (st2 := [.ref a0, .ref v27]) hm dX13_primary_167 rfl ?_
        replace hf := mx_sv_el hf; obtain ⟨v28, e_v28, hf⟩ := hf
        refine sx_get hm dX13_primary_168 rs_RX13_376 (xgi_el e_v28) ?_
        clear e_v28
        replace hf := mx_sv_el hf; obtain ⟨v29, e_v29, hf⟩ := hf
        refine sx_ald hm dX13_primary_171 e_v29 ?_
        clear e_v29
        refine sx_ic (v := 3) hm dX13_primary_172 (by decide) ?_
        rcases mx_if_el hf with ⟨c40, hf⟩ | ⟨c40, hf⟩
        · refine sb_ic_ne hm dX13_primary_173 (tgt := 283) rfl (fun _ => ?_) (fun z => absurd c40 z)
          refine mx_S.ext [(0, .ref a0)] (mx_sub_pos [1] rfl (show ([2, 0, 1] : List Nat).Nodup by decide)) ?_
          exact j_X13_primary_283_ok X hF hL nn hrc a0 u26.2 hf
        · refine sb_ic_ne hm dX13_primary_173 (tgt := 283) rfl (fun z => absurd z c40) (fun _ => ?_)
          refine mx_S.pu (pc2 := 177) (lv2 := [(2, .int v17), (0, .ref a0), (1, .int a1)]) (st2 := [.ref a0]) hm dX13_primary_176 rfl ?_
          replace hf := mx_sv_el hf; obtain ⟨v30, e_v30, hf⟩ := hf
          refine sx_get hm dX13_primary_177 rs_RX13_25 (xgr_el e_v30) ?_
          clear e_v30
          refine mx_S.pu (pc2 := 181) (lv2 := [(2, .int v17), (0, .ref a0), (1, .int a1)]) (st2 := [.ref a0, .ref v30]) hm dX13_primary_180 rfl ?_
          replace hf := mx_sv_el hf; obtain ⟨v31, e_v31, hf⟩ := hf
          refine sx_get hm dX13_primary_181 rs_RX13_376 (xgi_el e_v31) ?_
          clear e_v31
          replace hf := mx_sv_el hf; obtain ⟨v32, e_v32, hf⟩ := hf
          refine sx_ald hm dX13_primary_184 e_v32 ?_
          clear e_v32
          refine mx_S.pu (pc2 := 187) (lv2 := [(4, .int v32), (2, .int v17), (0, .ref a0), (1, .int a1)]) (st2 := []) hm dX13_primary_185 rfl ?_
          refine mx_S.pu (pc2 := 189) (lv2 := [(4, .int v32), (2, .int v17), (0, .ref a0), (1, .int a1)]) (st2 := [.int v32]) hm dX13_primary_187 rfl ?_
          refine sx_bi (v := 18) hm dX13_primary_189 (by decide) ?_
          rcases mx_if_el hf with ⟨c39, hf⟩ | ⟨c39, hf⟩
          · refine sb_ic_eq hm dX13_primary_191 (tgt := 215) rfl (fun _ => ?_) (fun z => absurd c39 z)
            refine mx_S.ext [(0, .ref a0), (2, .int v17), (4, .int v32)] (mx_sub_pos [2, 1, 0] rfl (show ([4, 2, 0, 1] : List Nat).Nodup by decide)) ?_
            exact j_X13_primary_215_ok X hF hL nn hrc a0 v17 v32 u26.2 hf
          · refine sb_ic_eq hm dX13_primary_191 (tgt := 215) rfl (fun z => absurd z c39) (fun _ => ?_)
            refine mx_S.pu (pc2 := 196) (lv2 := [(4, .int v32), (2, .int v17), (0, .ref a0), (1, .int a1)]) (st2 := [.int v32]) hm dX13_primary_194 rfl ?_
            refine sx_bi (v := 7) hm dX13_primary_196 (by decide) ?_
            rcases mx_if_el hf with ⟨c38, hf⟩ | ⟨c38, hf⟩
            · refine sb_ic_eq hm dX13_primary_198 (tgt := 215) rfl (fun _ => ?_) (fun z => absurd c38 z)
              refine mx_S.ext [(0, .ref a0), (2, .int v17), (4, .int v32)] (mx_sub_pos [2, 1, 0] rfl (show ([4, 2, 0, 1] : List Nat).Nodup by decide)) ?_
              exact j_X13_primary_215_ok X hF hL nn hrc a0 v17 v32 u26.2 hf
            · refine sb_ic_eq hm dX13_primary_198 (tgt := 215) rfl (fun z => absurd z c38) (fun _ => ?_)
              refine mx_S.pu (pc2 := 203) (lv2 := [(4, .int v32), (2, .int v17), (0, .ref a0), (1, .int a1)]) (st2 := [.int v32]) hm dX13_primary_201 rfl ?_
              refine sx_bi (v := 12) hm dX13_primary_203 (by decide) ?_
              rcases mx_if_el hf with ⟨c37, hf⟩ | ⟨c37, hf⟩
              · refine sb_ic_eq hm dX13_primary_205 (tgt := 215) rfl (fun _ => ?_) (fun z => absurd c37 z)
                refine mx_S.ext [(0, .ref a0), (2, .int v17), (4, .int v32)] (mx_sub_pos [2, 1, 0] rfl (show ([4, 2, 0, 1] : List Nat).Nodup by decide)) ?_
                exact j_X13_primary_215_ok X hF hL nn hrc a0 v17 v32 u26.2 hf
              · refine sb_ic_eq hm dX13_primary_205 (tgt := 215) rfl (fun z => absurd z c37) (fun _ => ?_)
                refine mx_S.pu (pc2 := 210) (lv2 := [(4, .int v32), (2, .int v17), (0, .ref a0), (1, .int a1)]) (st2 := [.int v32]) hm dX13_primary_208 rfl ?_
                refine sx_bi (v := 16) hm dX13_primary_210 (by decide) ?_
                rcases mx_if_el hf with ⟨c36, hf⟩ | ⟨c36, hf⟩
                · refine sb_ic_ne hm dX13_primary_212 (tgt := 270) rfl (fun _ => ?_) (fun z => absurd c36 z)
                  refine mx_S.pu (pc2 := 272) (lv2 := [(4, .int v32), (2, .int v17), (0, .ref a0), (1, .int a1)]) (st2 := [.int v32]) hm dX13_primary_270 rfl ?_
                  refine sx_bi (v := 11) hm dX13_primary_272 (by decide) ?_
                  rcases mx_if_el hf with ⟨c35, hf⟩ | ⟨c35, hf⟩
                  · refine sb_ic_ne hm dX13_primary_274 (tgt := 283) rfl (fun _ => ?_) (fun z => absurd c35 z)
                    refine mx_S.ext [(0, .ref a0)] (mx_sub_pos [2] rfl (show ([4, 2, 0, 1] : List Nat).Nodup by decide)) ?_
                    exact j_X13_primary_283_ok X hF hL nn hrc a0 u26.2 hf
                  · refine sb_ic_ne hm dX13_primary_274 (tgt := 283) rfl (fun z => absurd z c35) (fun _ => ?_)
                    refine mx_S.pu (pc2 := 278) (lv2 := [(4, .int v32), (2, .int v17), (0, .ref a0), (1, .int a1)]) (st2 := [.ref a0]) hm dX13_primary_277 rfl ?_
                    refine mx_S.pu (pc2 := 279) (lv2 := [(4, .int v32), (2, .int v17), (0, .ref a0), (1, .int a1)]) (st2 := [.int a1, .ref a0]) hm dX13_primary_278 rfl ?_
                    replace hf := mx_gd_el hf; obtain ⟨c33, hf⟩ := hf
                    replace hf := mx_sv_el hf; obtain ⟨u34, e_u34, hf⟩ := hf
                    refine sx_cv hm dX13_primary_279 rs_RX13_474 mt_X13_fresh [.int a1] [] (b := a0) (ci := 13) rfl rfl rfl c33 (Nat.le_of_ble_eq_true rfl) (Nat.le_of_ble_eq_true rfl) (by omega) (by omega) (hrc.2.2.2.2.2.2 (by omega) (by omega) a0 a1 u26.2 e_u34) ?_
                    clear e_u34
                    show mx_S X F L 414 282 [(4, .int v32), (2, .int v17), (0, .ref a0), (1, .int a1)] [.int u34.1] u34.2 0 0 (some (.int r.1), r.2, 0, 0)
                    cases hf
                    exact sx_ire hm dX13_primary_282 rfl rfl
                · refine sb_ic_ne hm dX13_primary_212 (tgt := 270) rfl (fun z => absurd z c36) (fun _ => ?_)
                  refine mx_S.ext [(0, .ref a0), (2, .int v17), (4, .int v32)] (mx_sub_pos [2, 1, 0] rfl (show ([4, 2, 0, 1] : List Nat).Nodup by decide)) ?_
                  exact j_X13_primary_215_ok X hF hL nn hrc a0 v17 v32 u26.2 hf
      · refine sb_if_eq hm dX13_primary_113 (tgt := 163) rfl (fun z => absurd z c48) (fun _ => ?_)
        refine mx_S.pu (pc2 := 117) (lv2 := [(2, .int v17), (0, .ref a0), (1, .int a1)]) (st2 := [.ref a0]) hm dX13_primary_116 rfl ?_
        refine mx_S.pu (pc2 := 118) (lv2 := [(2, .int v17), (0, .ref a0), (1, .int a1)]) (st2 := [.ref a0, .ref a0]) hm dX13_primary_117 rfl ?_
        replace hf := mx_sv_el hf; obtain ⟨v41, e_v41, hf⟩ := hf
        refine sx_get hm dX13_primary_118 rs_RX13_376 (xgi_el e_v41) ?_
        clear e_v41
        refine sx_ic (v := 1) hm dX13_primary_121 (by decide) ?_
        replace hf := xl_el hf; obtain ⟨v42, e_v42, hf⟩ := hf
        refine mx_S.pu (pc2 := 123) (lv2 := [(2, .int v17), (0, .ref a0), (1, .int a1)]) (st2 := [.int v42, .ref a0]) hm dX13_primary_122 (by rw [← e_v42]; rfl) ?_
        clear e_v42
        replace hf := mx_sv_el hf; obtain ⟨h43, e_h43, hf⟩ := hf
        refine sx_put hm dX13_primary_123 rs_RX13_376 ft_13_23 ⟨rfl, rfl⟩ (fun z => by cases z) e_h43 ?_
        clear e_h43
        refine mx_S.pu (pc2 := 127) (lv2 := [(2, .int v17), (0, .ref a0), (1, .int a1)]) (st2 := [.ref a0]) hm dX13_primary_126 rfl ?_
        refine mx_S.pu (pc2 := 128) (lv2 := [(2, .int v17), (0, .ref a0), (1, .int a1)]) (st2 := [.int a1, .ref a0]) hm dX13_primary_127 rfl ?_
        replace hf := mx_gd_el hf; obtain ⟨c44, hf⟩ := hf
        replace hf := mx_sv_el hf; obtain ⟨u45, e_u45, hf⟩ := hf
        refine sx_cv hm dX13_primary_128 rs_RX13_444 mt_X13_expression [.int a1] [] (b := a0) (ci := 13) rfl rfl rfl c44 (Nat.le_of_ble_eq_true rfl) (Nat.le_of_ble_eq_true rfl) (by omega) (by omega) (hrc.1 (by omega) (by omega) a0 a1 h43 e_u45) ?_
        clear e_u45
        show mx_S X F L 414 131 [(2, .int v17), (0, .ref a0), (1, .int a1)] [.int u45.1] u45.2 0 0 (some (.int r.1), r.2, 0, 0)
        refine mx_S.pu (pc2 := 132) (lv2 := [(3, .int u45.1), (2, .int v17), (0, .ref a0), (1, .int a1)]) (st2 := []) hm dX13_primary_131 rfl ?_
        refine mx_S.pu (pc2 := 133) (lv2 := [(3, .int u45.1), (2, .int v17), (0, .ref a0), (1, .int a1)]) (st2 := [.ref a0]) hm dX13_primary_132 rfl ?_
        refine sx_bi (v := 41) hm dX13_primary_133 (by decide) ?_
        replace hf := mx_gd_el hf; obtain ⟨c46, hf⟩ := hf
        replace hf := mx_sv_el hf; obtain ⟨u47, e_u47, hf⟩ := hf
        refine sx_cv hm dX13_primary_135 rs_RX13_406 mt_X13_sign_ [.int 41] [] (b := a0) (ci := 13) rfl rfl rfl c46 (Nat.le_of_ble_eq_true rfl) (Nat.le_of_ble_eq_true rfl) (by omega) (by omega) (f_X13_sign__ok X (by omega) (by omega) nn a0 41 u45.2 e_u47) ?_
        clear e_u47
        show mx_S X F L 414 138 [(3, .int u45.1), (2, .int v17), (0, .ref a0), (1, .int a1)] [] u47 0 0 (some (.int r.1), r.2, 0, 0)
        refine mx_S.ext [(0, .ref a0), (2, .int v17), (3, .int u45.1)] (mx_sub_pos [2, 1, 0] rfl (show ([3, 2, 0, 1] : List Nat).Nodup by decide)) ?_
        exact j_X13_primary_138_ok X hF hL nn hrc a0 v17 u45.1 u47 hf
    · refine sb_ic_ne hm dX13_primary_47 (tgt := 103) rfl (fun z => absurd z c64) (fun _ => ?_)
      refine mx_S.pu (pc2 := 51) (lv2 := [(2, .int v17), (0, .ref a0), (1, .int a1)]) (st2 := [.ref a0]) hm dX13_primary_50 rfl ?_
      refine mx_S.pu (pc2 := 52) (lv2 := [(2, .int v17), (0, .ref a0), (1, .int a1)]) (st2 := [.ref a0, .ref a0]) hm dX13_primary_51 rfl ?_
      replace hf := mx_sv_el hf; obtain ⟨v49, e_v49, hf⟩ := hf
      refine sx_get hm dX13_primary_52 rs_RX13_376 (xgi_el e_v49) ?_
      clear e_v49
      refine sx_ic (v := 1) hm dX13_primary_55 (by decide) ?_
      replace hf := xl_el hf; obtain ⟨v50, e_v50, hf⟩ := hf
      refine mx_S.pu (pc2 := 57) (lv2 := [(2, .int v17), (0, .ref a0), (1, .int a1)]) (st2 := [.int v50, .ref a0]) hm dX13_primary_56 (by rw [← e_v50]; rfl) ?_
      clear e_v50
      replace hf := mx_sv_el hf; obtain ⟨h51, e_h51, hf⟩ := hf
      refine sx_put hm dX13_primary_57 rs_RX13_376 ft_13_23 ⟨rfl, rfl⟩ (fun z => by cases z) e_h51 ?_
      clear e_h51
      refine mx_S.pu (pc2 := 61) (lv2 := [(2, .int v17), (0, .ref a0), (1, .int a1)]) (st2 := [.ref a0]) hm dX13_primary_60 rfl ?_
      refine sx_bi (v := 25) hm dX13_primary_61 (by decide) ?_
      refine mx_S.pu (pc2 := 64) (lv2 := [(2, .int v17), (0, .ref a0), (1, .int a1)]) (st2 := [.int v17, .int 25, .ref a0]) hm dX13_primary_63 rfl ?_
      refine mx_S.pu (pc2 := 65) (lv2 := [(2, .int v17), (0, .ref a0), (1, .int a1)]) (st2 := [.int v17, .int v17, .int 25, .ref a0]) hm dX13_primary_64 rfl ?_
      replace hf := mx_gd_el hf; obtain ⟨c52, hf⟩ := hf
      replace hf := mx_sv_el hf; obtain ⟨u53, e_u53, hf⟩ := hf
      refine sx_cv hm dX13_primary_65 rs_RX13_430 mt_X13_add [.int 25, .int v17, .int v17] [] (b := a0) (ci := 13) rfl rfl rfl c52 (Nat.le_of_ble_eq_true rfl) (Nat.le_of_ble_eq_true rfl) (by omega) (by omega) (f_X13_add_ok X (by omega) (by omega) nn a0 25 v17 v17 h51 e_u53) ?_
      clear e_u53
      show mx_S X F L 414 68 [(2, .int v17), (0, .ref a0), (1, .int a1)] [.int u53.1] u53.2 0 0 (some (.int r.1), r.2, 0, 0)
      refine mx_S.pu (pc2 := 69) (lv2 := [(3, .int u53.1), (2, .int v17), (0, .ref a0), (1, .int a1)]) (st2 := []) hm dX13_primary_68 rfl ?_
      refine mx_S.pu (pc2 := 70) (lv2 := [(3, .int u53.1), (2, .int v17), (0, .ref a0), (1, .int a1)]) (st2 := [.ref a0]) hm dX13_primary_69 rfl ?_
      refine mx_S.pu (pc2 := 71) (lv2 := [(3, .int u53.1), (2, .int v17), (0, .ref a0), (1, .int a1)]) (st2 := [.ref a0, .ref a0]) hm dX13_primary_70 rfl ?_
      replace hf := mx_sv_el hf; obtain ⟨v54, e_v54, hf⟩ := hf
      refine sx_get hm dX13_primary_71 rs_RX13_376 (xgi_el e_v54) ?_
      clear e_v54
      refine sx_bi (v := 40) hm dX13_primary_74 (by decide) ?_
      replace hf := mx_gd_el hf; obtain ⟨c55, hf⟩ := hf
      replace hf := mx_sv_el hf; obtain ⟨u56, e_u56, hf⟩ := hf
      refine sx_cv hm dX13_primary_76 rs_RX13_383 mt_X13_isSign [.int v54, .int 40] [] (b := a0) (ci := 13) rfl rfl rfl c55 (Nat.le_of_ble_eq_true rfl) (Nat.le_of_ble_eq_true rfl) (by omega) (by omega) (f_X13_isSign_ok X (by omega) (by omega) nn a0 v54 40 u53.2 e_u56) ?_
      clear e_u56
      show mx_S X F L 414 79 [(3, .int u53.1), (2, .int v17), (0, .ref a0), (1, .int a1)] [.int u56.1] u56.2 0 0 (some (.int r.1), r.2, 0, 0)
      rcases mx_if_el hf with ⟨c63, hf⟩ | ⟨c63, hf⟩
      · refine sb_if_eq hm dX13_primary_79 (tgt := 101) rfl (fun _ => ?_) (fun z => absurd c63 z)
        refine mx_S.pu (pc2 := 102) (lv2 := [(3, .int u53.1), (2, .int v17), (0, .ref a0), (1, .int a1)]) (st2 := [.int u53.1]) hm dX13_primary_101 rfl ?_
        cases hf
        exact sx_ire hm dX13_primary_102 rfl rfl
      · refine sb_if_eq hm dX13_primary_79 (tgt := 101) rfl (fun z => absurd z c63) (fun _ => ?_)
        refine mx_S.pu (pc2 := 83) (lv2 := [(3, .int u53.1), (2, .int v17), (0, .ref a0), (1, .int a1)]) (st2 := [.ref a0]) hm dX13_primary_82 rfl ?_
        replace hf := mx_sv_el hf; obtain ⟨v57, e_v57, hf⟩ := hf
        refine sx_get hm dX13_primary_83 rs_RX13_28 (xgr_el e_v57) ?_
        clear e_v57
        refine mx_S.pu (pc2 := 87) (lv2 := [(3, .int u53.1), (2, .int v17), (0, .ref a0), (1, .int a1)]) (st2 := [.int u53.1, .ref v57]) hm dX13_primary_86 rfl ?_
        refine sx_bi (v := 26) hm dX13_primary_87 (by decide) ?_
        replace hf := mx_sv_el hf; obtain ⟨h58, e_h58, hf⟩ := hf
        refine sx_ast hm dX13_primary_89 e_h58 ?_
        clear e_h58
        refine mx_S.pu (pc2 := 91) (lv2 := [(3, .int u53.1), (2, .int v17), (0, .ref a0), (1, .int a1)]) (st2 := [.ref a0]) hm dX13_primary_90 rfl ?_
        replace hf := mx_sv_el hf; obtain ⟨v59, e_v59, hf⟩ := hf
        refine sx_get hm dX13_primary_91 rs_RX13_40 (xgr_el e_v59) ?_
        clear e_v59
        refine mx_S.pu (pc2 := 95) (lv2 := [(3, .int u53.1), (2, .int v17), (0, .ref a0), (1, .int a1)]) (st2 := [.int u53.1, .ref v59]) hm dX13_primary_94 rfl ?_
        refine mx_S.pu (pc2 := 96) (lv2 := [(3, .int u53.1), (2, .int v17), (0, .ref a0), (1, .int a1)]) (st2 := [.ref a0, .int u53.1, .ref v59]) hm dX13_primary_95 rfl ?_
        refine mx_S.pu (pc2 := 97) (lv2 := [(3, .int u53.1), (2, .int v17), (0, .ref a0), (1, .int a1)]) (st2 := [.int a1, .ref a0, .int u53.1, .ref v59]) hm dX13_primary_96 rfl ?_
        replace hf := mx_gd_el hf; obtain ⟨c60, hf⟩ := hf
        replace hf := mx_sv_el hf; obtain ⟨u61, e_u61, hf⟩ := hf
        refine sx_cv hm dX13_primary_97 rs_RX13_471 mt_X13_arguments [.int a1] [.int u53.1, .ref v59] (b := a0) (ci := 13) rfl rfl rfl c60 (Nat.le_of_ble_eq_true rfl) (Nat.le_of_ble_eq_true rfl) (by omega) (by omega) (hrc.2.2.2.1 (by omega) (by omega) a0 a1 h58 e_u61) ?_
        clear e_u61
        show mx_S X F L 414 100 [(3, .int u53.1), (2, .int v17), (0, .ref a0), (1, .int a1)] [.int u61.1, .int u53.1, .ref v59] u61.2 0 0 (some (.int r.1), r.2, 0, 0)
        replace hf := mx_sv_el hf; obtain ⟨h62, e_h62, hf⟩ := hf
        refine sx_ast hm dX13_primary_100 e_h62 ?_
        clear e_h62
        refine mx_S.pu (pc2 := 102) (lv2 := [(3, .int u53.1), (2, .int v17), (0, .ref a0), (1, .int a1)]) (st2 := [.int u53.1]) hm dX13_primary_101 rfl ?_
        cases hf
        exact sx_ire hm dX13_primary_102 rfl rfl
  · refine sb_ic_ne hm dX13_primary_15 (tgt := 37) rfl (fun z => absurd z c70) (fun _ => ?_)
    refine mx_S.pu (pc2 := 19) (lv2 := [(2, .int v17), (0, .ref a0), (1, .int a1)]) (st2 := [.ref a0]) hm dX13_primary_18 rfl ?_
    refine mx_S.pu (pc2 := 20) (lv2 := [(2, .int v17), (0, .ref a0), (1, .int a1)]) (st2 := [.ref a0, .ref a0]) hm dX13_primary_19 rfl ?_
    replace hf := mx_sv_el hf; obtain ⟨v65, e_v65, hf⟩ := hf
    refine sx_get hm dX13_primary_20 rs_RX13_376 (xgi_el e_v65) ?_
    clear e_v65
    refine sx_ic (v := 1) hm dX13_primary_23 (by decide) ?_
    replace hf := xl_el hf; obtain ⟨v66, e_v66, hf⟩ := hf
    refine mx_S.pu (pc2 := 25) (lv2 := [(2, .int v17), (0, .ref a0), (1, .int a1)]) (st2 := [.int v66, .ref a0]) hm dX13_primary_24 (by rw [← e_v66]; rfl) ?_
    clear e_v66
    replace hf := mx_sv_el hf; obtain ⟨h67, e_h67, hf⟩ := hf
    refine sx_put hm dX13_primary_25 rs_RX13_376 ft_13_23 ⟨rfl, rfl⟩ (fun z => by cases z) e_h67 ?_
    clear e_h67
    refine mx_S.pu (pc2 := 29) (lv2 := [(2, .int v17), (0, .ref a0), (1, .int a1)]) (st2 := [.ref a0]) hm dX13_primary_28 rfl ?_
    refine sx_bi (v := 20) hm dX13_primary_29 (by decide) ?_
    refine mx_S.pu (pc2 := 32) (lv2 := [(2, .int v17), (0, .ref a0), (1, .int a1)]) (st2 := [.int v17, .int 20, .ref a0]) hm dX13_primary_31 rfl ?_
    refine mx_S.pu (pc2 := 33) (lv2 := [(2, .int v17), (0, .ref a0), (1, .int a1)]) (st2 := [.int v17, .int v17, .int 20, .ref a0]) hm dX13_primary_32 rfl ?_
    replace hf := mx_gd_el hf; obtain ⟨c68, hf⟩ := hf
    replace hf := mx_sv_el hf; obtain ⟨u69, e_u69, hf⟩ := hf
    refine sx_cv hm dX13_primary_33 rs_RX13_430 mt_X13_add [.int 20, .int v17, .int v17] [] (b := a0) (ci := 13) rfl rfl rfl c68 (Nat.le_of_ble_eq_true rfl) (Nat.le_of_ble_eq_true rfl) (by omega) (by omega) (f_X13_add_ok X (by omega) (by omega) nn a0 20 v17 v17 h67 e_u69) ?_
    clear e_u69
    show mx_S X F L 414 36 [(2, .int v17), (0, .ref a0), (1, .int a1)] [.int u69.1] u69.2 0 0 (some (.int r.1), r.2, 0, 0)
    cases hf
    exact sx_ire hm dX13_primary_36 rfl rfl
set_option maxHeartbeats 4000000 in
set_option maxRecDepth 20000 in
theorem j_X13_fresh_142_ok (X : Nat × (Nat → Int32)) {F L d : Nat} (hF : 3 + (d + 1) ≤ F) (hL : 63 + (d + 1) * 28 ≤ L) (nn : Nat) {rc : tg_X13_expression} (hrc : hg5_X13_expression X d rc) (l0 : Nat) (l1 : Int32) (l4 : Int32) (h : mx_H) {r : (Int32 × mx_H)} (hf : j_X13_fresh_142 nn rc l0 l1 l4 h = some r) : mx_S X F L 415 142 [(0, .ref l0), (1, .int l1), (4, .int l4)] [] h 0 0 (some (.int r.1), r.2, 0, 0) := by
  have hm : mx_mt 415 = some (yX13_fresh, cX13_fresh, 5, (some .int)) := mt_X13_fresh
  unfold j_X13_fresh_142 at hf
  refine mx_S.pu (pc2 := 143) (lv2 := [(0, .ref l0), (1, .int l1), (4, .int l4)]) (st2 := [.ref l0]) hm dX13_fresh_142 rfl ?_
  replace hf := mx_sv_el hf; obtain ⟨v1, e_v1, hf⟩ := hf
  refine sx_get hm dX13_fresh_143 rs_RX13_37 (xgr_el e_v1) ?_
  clear e_v1
  refine mx_S.pu (pc2 := 148) (lv2 := [(0, .ref l0), (1, .int l1), (4, .int l4)]) (st2 := [.int l4, .ref v1]) hm dX13_fresh_146 rfl ?_
  refine mx_S.pu (pc2 := 149) (lv2 := [(0, .ref l0), (1, .int l1), (4, .int l4)]) (st2 := [.ref l0, .int l4, .ref v1]) hm dX13_fresh_148 rfl ?_
  refine mx_S.pu (pc2 := 150) (lv2 := [(0, .ref l0), (1, .int l1), (4, .int l4)]) (st2 := [.int l1, .ref l0, .int l4, .ref v1]) hm dX13_fresh_149 rfl ?_
  replace hf := mx_gd_el hf; obtain ⟨c2, hf⟩ := hf
  replace hf := mx_sv_el hf; obtain ⟨u3, e_u3, hf⟩ := hf
  refine sx_cv hm dX13_fresh_150 rs_RX13_444 mt_X13_expression [.int l1] [.int l4, .ref v1] (b := l0) (ci := 13) rfl rfl rfl c2 (Nat.le_of_ble_eq_true rfl) (Nat.le_of_ble_eq_true rfl) (by omega) (by omega) (hrc.1 (by omega) (by omega) l0 l1 h e_u3) ?_
  clear e_u3
  show mx_S X F L 415 153 [(0, .ref l0), (1, .int l1), (4, .int l4)] [.int u3.1, .int l4, .ref v1] u3.2 0 0 (some (.int r.1), r.2, 0, 0)
  replace hf := mx_sv_el hf; obtain ⟨h4, e_h4, hf⟩ := hf
  refine sx_ast hm dX13_fresh_153 e_h4 ?_
  clear e_h4
  refine mx_S.pu (pc2 := 155) (lv2 := [(0, .ref l0), (1, .int l1), (4, .int l4)]) (st2 := [.ref l0]) hm dX13_fresh_154 rfl ?_
  refine sx_bi (v := 93) hm dX13_fresh_155 (by decide) ?_
  replace hf := mx_gd_el hf; obtain ⟨c5, hf⟩ := hf
  replace hf := mx_sv_el hf; obtain ⟨u6, e_u6, hf⟩ := hf
  refine sx_cv hm dX13_fresh_157 rs_RX13_406 mt_X13_sign_ [.int 93] [] (b := l0) (ci := 13) rfl rfl rfl c5 (Nat.le_of_ble_eq_true rfl) (Nat.le_of_ble_eq_true rfl) (by omega) (by omega) (f_X13_sign__ok X (by omega) (by omega) nn l0 93 h4 e_u6) ?_
  clear e_u6
  show mx_S X F L 415 160 [(0, .ref l0), (1, .int l1), (4, .int l4)] [] u6 0 0 (some (.int r.1), r.2, 0, 0)
  refine mx_S.pu (pc2 := 175) (lv2 := [(0, .ref l0), (1, .int l1), (4, .int l4)]) (st2 := []) hm dX13_fresh_160 rfl ?_
  refine mx_S.pu (pc2 := 177) (lv2 := [(0, .ref l0), (1, .int l1), (4, .int l4)]) (st2 := [.int l4]) hm dX13_fresh_175 rfl ?_
  cases hf
  exact sx_ire hm dX13_fresh_177 rfl rfl
set_option maxHeartbeats 4000000 in
set_option maxRecDepth 20000 in
theorem o_X13_fresh_ok (X : Nat × (Nat → Int32)) {F L d : Nat} (hF : 3 + (d + 1) ≤ F) (hL : 63 + (d + 1) * 28 ≤ L) (nn : Nat) {rc : tg_X13_expression} (hrc : hg5_X13_expression X d rc) (a0 : Nat) (a1 : Int32) (h : mx_H) {r : (Int32 × mx_H)} (hf : o_X13_fresh nn rc a0 a1 h = some r) : mx_R X F L 415 [.ref a0, .int a1] h (some (.int r.1), r.2, 0, 0) := by
  have hm : mx_mt 415 = some (yX13_fresh, cX13_fresh, 5, (some .int)) := mt_X13_fresh
  show mx_S X F L 415 0 [(0, .ref a0), (1, .int a1)] [] h 0 0 (some (.int r.1), r.2, 0, 0)
  unfold o_X13_fresh at hf
  refine mx_S.pu (pc2 := 1) (lv2 := [(0, .ref a0), (1, .int a1)]) (st2 := [.ref a0]) hm dX13_fresh_0 rfl ?_
  replace hf := mx_sv_el hf; obtain ⟨v7, e_v7, hf⟩ := hf
  refine sx_get hm dX13_fresh_1 rs_RX13_376 (xgi_el e_v7) ?_
  clear e_v7
  refine mx_S.pu (pc2 := 5) (lv2 := [(2, .int v7), (0, .ref a0), (1, .int a1)]) (st2 := []) hm dX13_fresh_4 rfl ?_
  refine mx_S.pu (pc2 := 6) (lv2 := [(2, .int v7), (0, .ref a0), (1, .int a1)]) (st2 := [.ref a0]) hm dX13_fresh_5 rfl ?_
  refine mx_S.pu (pc2 := 7) (lv2 := [(2, .int v7), (0, .ref a0), (1, .int a1)]) (st2 := [.ref a0, .ref a0]) hm dX13_fresh_6 rfl ?_
  replace hf := mx_sv_el hf; obtain ⟨v8, e_v8, hf⟩ := hf
  refine sx_get hm dX13_fresh_7 rs_RX13_376 (xgi_el e_v8) ?_
  clear e_v8
  refine sx_ic (v := 1) hm dX13_fresh_10 (by decide) ?_
  replace hf := xl_el hf; obtain ⟨v9, e_v9, hf⟩ := hf
  refine mx_S.pu (pc2 := 12) (lv2 := [(2, .int v7), (0, .ref a0), (1, .int a1)]) (st2 := [.int v9, .ref a0]) hm dX13_fresh_11 (by rw [← e_v9]; rfl) ?_
  clear e_v9
  replace hf := mx_sv_el hf; obtain ⟨h10, e_h10, hf⟩ := hf
  refine sx_put hm dX13_fresh_12 rs_RX13_376 ft_13_23 ⟨rfl, rfl⟩ (fun z => by cases z) e_h10 ?_
  clear e_h10
  refine mx_S.pu (pc2 := 16) (lv2 := [(2, .int v7), (0, .ref a0), (1, .int a1)]) (st2 := [.ref a0]) hm dX13_fresh_15 rfl ?_
  refine mx_S.pu (pc2 := 17) (lv2 := [(2, .int v7), (0, .ref a0), (1, .int a1)]) (st2 := [.ref a0, .ref a0]) hm dX13_fresh_16 rfl ?_
  replace hf := mx_sv_el hf; obtain ⟨v11, e_v11, hf⟩ := hf
  refine sx_get hm dX13_fresh_17 rs_RX13_376 (xgi_el e_v11) ?_
  clear e_v11
  refine sx_bi (v := 10) hm dX13_fresh_20 (by decide) ?_
  replace hf := mx_gd_el hf; obtain ⟨c12, hf⟩ := hf
  replace hf := mx_sv_el hf; obtain ⟨u13, e_u13, hf⟩ := hf
  refine sx_cv hm dX13_fresh_22 rs_RX13_390 mt_X13_isWord [.int v11, .int 10] [] (b := a0) (ci := 13) rfl rfl rfl c12 (Nat.le_of_ble_eq_true rfl) (Nat.le_of_ble_eq_true rfl) (by omega) (by omega) (f_X13_isWord_ok X (by omega) (by omega) nn a0 v11 10 h10 e_u13) ?_
  clear e_u13
  show mx_S X F L 415 25 [(2, .int v7), (0, .ref a0), (1, .int a1)] [.int u13.1] u13.2 0 0 (some (.int r.1), r.2, 0, 0)
  rcases mx_if_el hf with ⟨c50, hf⟩ | ⟨c50, hf⟩
  · refine sb_if_eq hm dX13_fresh_25 (tgt := 75) rfl (fun _ => ?_) (fun z => absurd c50 z)
    refine mx_S.pu (pc2 := 76) (lv2 := [(2, .int v7), (0, .ref a0), (1, .int a1)]) (st2 := [.ref a0]) hm dX13_fresh_75 rfl ?_
    replace hf := mx_gd_el hf; obtain ⟨c14, hf⟩ := hf
    replace hf := mx_sv_el hf; obtain ⟨u15, e_u15, hf⟩ := hf
    refine sx_cv hm dX13_fresh_76 rs_RX13_403 mt_X13_name [] [] (b := a0) (ci := 13) rfl rfl rfl c14 (Nat.le_of_ble_eq_true rfl) (Nat.le_of_ble_eq_true rfl) (by omega) (by omega) (f_X13_name_ok X (by omega) (by omega) nn a0 u13.2 e_u15) ?_
    clear e_u15
    show mx_S X F L 415 79 [(2, .int v7), (0, .ref a0), (1, .int a1)] [.int u15.1] u15.2 0 0 (some (.int r.1), r.2, 0, 0)
    refine mx_S.pu (pc2 := 80) (lv2 := [(3, .int u15.1), (2, .int v7), (0, .ref a0), (1, .int a1)]) (st2 := []) hm dX13_fresh_79 rfl ?_
    refine mx_S.pu (pc2 := 81) (lv2 := [(3, .int u15.1), (2, .int v7), (0, .ref a0), (1, .int a1)]) (st2 := [.ref a0]) hm dX13_fresh_80 rfl ?_
    replace hf := mx_sv_el hf; obtain ⟨v16, e_v16, hf⟩ := hf
    refine sx_get hm dX13_fresh_81 rs_RX13_319 (xgi_el e_v16) ?_
    clear e_v16
    rcases mx_if_el hf with ⟨c35, hf⟩ | ⟨c35, hf⟩
    · refine sb_if_eq hm dX13_fresh_84 (tgt := 89) rfl (fun _ => ?_) (fun z => absurd c35 z)
      refine mx_S.pu (pc2 := 90) (lv2 := [(3, .int u15.1), (2, .int v7), (0, .ref a0), (1, .int a1)]) (st2 := [.ref a0]) hm dX13_fresh_89 rfl ?_
      refine sx_bi (v := 27) hm dX13_fresh_90 (by decide) ?_
      refine mx_S.pu (pc2 := 93) (lv2 := [(3, .int u15.1), (2, .int v7), (0, .ref a0), (1, .int a1)]) (st2 := [.int u15.1, .int 27, .ref a0]) hm dX13_fresh_92 rfl ?_
      refine mx_S.pu (pc2 := 94) (lv2 := [(3, .int u15.1), (2, .int v7), (0, .ref a0), (1, .int a1)]) (st2 := [.int v7, .int u15.1, .int 27, .ref a0]) hm dX13_fresh_93 rfl ?_
      replace hf := mx_gd_el hf; obtain ⟨c17, hf⟩ := hf
      replace hf := mx_sv_el hf; obtain ⟨u18, e_u18, hf⟩ := hf
      refine sx_cv hm dX13_fresh_94 rs_RX13_430 mt_X13_add [.int 27, .int u15.1, .int v7] [] (b := a0) (ci := 13) rfl rfl rfl c17 (Nat.le_of_ble_eq_true rfl) (Nat.le_of_ble_eq_true rfl) (by omega) (by omega) (f_X13_add_ok X (by omega) (by omega) nn a0 27 u15.1 v7 u15.2 e_u18) ?_
      clear e_u18
      show mx_S X F L 415 97 [(3, .int u15.1), (2, .int v7), (0, .ref a0), (1, .int a1)] [.int u18.1] u18.2 0 0 (some (.int r.1), r.2, 0, 0)
      refine mx_S.pu (pc2 := 99) (lv2 := [(4, .int u18.1), (3, .int u15.1), (2, .int v7), (0, .ref a0), (1, .int a1)]) (st2 := []) hm dX13_fresh_97 rfl ?_
      refine mx_S.pu (pc2 := 100) (lv2 := [(4, .int u18.1), (3, .int u15.1), (2, .int v7), (0, .ref a0), (1, .int a1)]) (st2 := [.ref a0]) hm dX13_fresh_99 rfl ?_
      refine mx_S.pu (pc2 := 101) (lv2 := [(4, .int u18.1), (3, .int u15.1), (2, .int v7), (0, .ref a0), (1, .int a1)]) (st2 := [.ref a0, .ref a0]) hm dX13_fresh_100 rfl ?_
      replace hf := mx_sv_el hf; obtain ⟨v19, e_v19, hf⟩ := hf
      refine sx_get hm dX13_fresh_101 rs_RX13_376 (xgi_el e_v19) ?_
      clear e_v19
      refine sx_bi (v := 91) hm dX13_fresh_104 (by decide) ?_
      replace hf := mx_gd_el hf; obtain ⟨c20, hf⟩ := hf
      replace hf := mx_sv_el hf; obtain ⟨u21, e_u21, hf⟩ := hf
      refine sx_cv hm dX13_fresh_106 rs_RX13_383 mt_X13_isSign [.int v19, .int 91] [] (b := a0) (ci := 13) rfl rfl rfl c20 (Nat.le_of_ble_eq_true rfl) (Nat.le_of_ble_eq_true rfl) (by omega) (by omega) (f_X13_isSign_ok X (by omega) (by omega) nn a0 v19 91 u18.2 e_u21) ?_
      clear e_u21
      show mx_S X F L 415 109 [(4, .int u18.1), (3, .int u15.1), (2, .int v7), (0, .ref a0), (1, .int a1)] [.int u21.1] u21.2 0 0 (some (.int r.1), r.2, 0, 0)
      rcases mx_if_el hf with ⟨c34, hf⟩ | ⟨c34, hf⟩
      · refine sb_if_eq hm dX13_fresh_109 (tgt := 163) rfl (fun _ => ?_) (fun z => absurd c34 z)
        refine mx_S.pu (pc2 := 164) (lv2 := [(4, .int u18.1), (3, .int u15.1), (2, .int v7), (0, .ref a0), (1, .int a1)]) (st2 := [.ref a0]) hm dX13_fresh_163 rfl ?_
        refine sx_bi (v := 40) hm dX13_fresh_164 (by decide) ?_
        replace hf := mx_gd_el hf; obtain ⟨c22, hf⟩ := hf
        replace hf := mx_sv_el hf; obtain ⟨u23, e_u23, hf⟩ := hf
        refine sx_cv hm dX13_fresh_166 rs_RX13_406 mt_X13_sign_ [.int 40] [] (b := a0) (ci := 13) rfl rfl rfl c22 (Nat.le_of_ble_eq_true rfl) (Nat.le_of_ble_eq_true rfl) (by omega) (by omega) (f_X13_sign__ok X (by omega) (by omega) nn a0 40 u21.2 e_u23) ?_
        clear e_u23
        show mx_S X F L 415 169 [(4, .int u18.1), (3, .int u15.1), (2, .int v7), (0, .ref a0), (1, .int a1)] [] u23 0 0 (some (.int r.1), r.2, 0, 0)
        refine mx_S.pu (pc2 := 170) (lv2 := [(4, .int u18.1), (3, .int u15.1), (2, .int v7), (0, .ref a0), (1, .int a1)]) (st2 := [.ref a0]) hm dX13_fresh_169 rfl ?_
        refine sx_bi (v := 41) hm dX13_fresh_170 (by decide) ?_
        replace hf := mx_gd_el hf; obtain ⟨c24, hf⟩ := hf
        replace hf := mx_sv_el hf; obtain ⟨u25, e_u25, hf⟩ := hf
        refine sx_cv hm dX13_fresh_172 rs_RX13_406 mt_X13_sign_ [.int 41] [] (b := a0) (ci := 13) rfl rfl rfl c24 (Nat.le_of_ble_eq_true rfl) (Nat.le_of_ble_eq_true rfl) (by omega) (by omega) (f_X13_sign__ok X (by omega) (by omega) nn a0 41 u23 e_u25) ?_
        clear e_u25
        show mx_S X F L 415 175 [(4, .int u18.1), (3, .int u15.1), (2, .int v7), (0, .ref a0), (1, .int a1)] [] u25 0 0 (some (.int r.1), r.2, 0, 0)
        refine mx_S.pu (pc2 := 177) (lv2 := [(4, .int u18.1), (3, .int u15.1), (2, .int v7), (0, .ref a0), (1, .int a1)]) (st2 := [.int u18.1]) hm dX13_fresh_175 rfl ?_
        cases hf
        exact sx_ire hm dX13_fresh_177 rfl rfl
      · refine sb_if_eq hm dX13_fresh_109 (tgt := 163) rfl (fun z => absurd z c34) (fun _ => ?_)
        refine mx_S.pu (pc2 := 113) (lv2 := [(4, .int u18.1), (3, .int u15.1), (2, .int v7), (0, .ref a0), (1, .int a1)]) (st2 := [.ref a0]) hm dX13_fresh_112 rfl ?_
        replace hf := mx_sv_el hf; obtain ⟨v26, e_v26, hf⟩ := hf
        refine sx_get hm dX13_fresh_113 rs_RX13_28 (xgr_el e_v26) ?_
        clear e_v26
        refine mx_S.pu (pc2 := 118) (lv2 := [(4, .int u18.1), (3, .int u15.1), (2, .int v7), (0, .ref a0), (1, .int a1)]) (st2 := [.int u18.1, .ref v26]) hm dX13_fresh_116 rfl ?_
        refine sx_bi (v := 29) hm dX13_fresh_118 (by decide) ?_
        replace hf := mx_sv_el hf; obtain ⟨h27, e_h27, hf⟩ := hf
        refine sx_ast hm dX13_fresh_120 e_h27 ?_
        clear e_h27
        refine mx_S.pu (pc2 := 122) (lv2 := [(4, .int u18.1), (3, .int u15.1), (2, .int v7), (0, .ref a0), (1, .int a1)]) (st2 := [.ref a0]) hm dX13_fresh_121 rfl ?_
        replace hf := mx_sv_el hf; obtain ⟨v28, e_v28, hf⟩ := hf
        refine sx_get hm dX13_fresh_122 rs_RX13_43 (xgr_el e_v28) ?_
        clear e_v28
        refine mx_S.pu (pc2 := 127) (lv2 := [(4, .int u18.1), (3, .int u15.1), (2, .int v7), (0, .ref a0), (1, .int a1)]) (st2 := [.int u18.1, .ref v28]) hm dX13_fresh_125 rfl ?_
        refine mx_S.pu (pc2 := 128) (lv2 := [(4, .int u18.1), (3, .int u15.1), (2, .int v7), (0, .ref a0), (1, .int a1)]) (st2 := [.ref a0, .int u18.1, .ref v28]) hm dX13_fresh_127 rfl ?_
        replace hf := mx_sv_el hf; obtain ⟨v29, e_v29, hf⟩ := hf
        refine sx_get hm dX13_fresh_128 rs_RX13_376 (xgi_el e_v29) ?_
        clear e_v29
        replace hf := mx_sv_el hf; obtain ⟨h30, e_h30, hf⟩ := hf
        refine sx_ast hm dX13_fresh_131 e_h30 ?_
        clear e_h30
        refine mx_S.pu (pc2 := 133) (lv2 := [(4, .int u18.1), (3, .int u15.1), (2, .int v7), (0, .ref a0), (1, .int a1)]) (st2 := [.ref a0]) hm dX13_fresh_132 rfl ?_
        refine mx_S.pu (pc2 := 134) (lv2 := [(4, .int u18.1), (3, .int u15.1), (2, .int v7), (0, .ref a0), (1, .int a1)]) (st2 := [.ref a0, .ref a0]) hm dX13_fresh_133 rfl ?_
        replace hf := mx_sv_el hf; obtain ⟨v31, e_v31, hf⟩ := hf
        refine sx_get hm dX13_fresh_134 rs_RX13_376 (xgi_el e_v31) ?_
        clear e_v31
        refine sx_ic (v := 1) hm dX13_fresh_137 (by decide) ?_
        replace hf := xl_el hf; obtain ⟨v32, e_v32, hf⟩ := hf
        refine mx_S.pu (pc2 := 139) (lv2 := [(4, .int u18.1), (3, .int u15.1), (2, .int v7), (0, .ref a0), (1, .int a1)]) (st2 := [.int v32, .ref a0]) hm dX13_fresh_138 (by rw [← e_v32]; rfl) ?_
        clear e_v32
        replace hf := mx_sv_el hf; obtain ⟨h33, e_h33, hf⟩ := hf
        refine sx_put hm dX13_fresh_139 rs_RX13_376 ft_13_23 ⟨rfl, rfl⟩ (fun z => by cases z) e_h33 ?_
        clear e_h33
        refine mx_S.ext [(0, .ref a0), (1, .int a1), (4, .int u18.1)] (mx_sub_pos [3, 4, 0] rfl (show ([4, 3, 2, 0, 1] : List Nat).Nodup by decide)) ?_
        exact j_X13_fresh_142_ok X hF hL nn hrc a0 a1 u18.1 h33 hf
    · refine sb_if_eq hm dX13_fresh_84 (tgt := 89) rfl (fun z => absurd z c35) (fun _ => ?_)
      refine sx_ic (v := (-1)) hm dX13_fresh_87 (by decide) ?_
      cases hf
      exact sx_ire hm dX13_fresh_88 rfl rfl
  · refine sb_if_eq hm dX13_fresh_25 (tgt := 75) rfl (fun z => absurd z c50) (fun _ => ?_)
    refine mx_S.pu (pc2 := 29) (lv2 := [(2, .int v7), (0, .ref a0), (1, .int a1)]) (st2 := [.ref a0]) hm dX13_fresh_28 rfl ?_
    refine mx_S.pu (pc2 := 30) (lv2 := [(2, .int v7), (0, .ref a0), (1, .int a1)]) (st2 := [.ref a0, .ref a0]) hm dX13_fresh_29 rfl ?_
    replace hf := mx_sv_el hf; obtain ⟨v36, e_v36, hf⟩ := hf
    refine sx_get hm dX13_fresh_30 rs_RX13_376 (xgi_el e_v36) ?_
    clear e_v36
    refine sx_ic (v := 1) hm dX13_fresh_33 (by decide) ?_
    replace hf := xl_el hf; obtain ⟨v37, e_v37, hf⟩ := hf
    refine mx_S.pu (pc2 := 35) (lv2 := [(2, .int v7), (0, .ref a0), (1, .int a1)]) (st2 := [.int v37, .ref a0]) hm dX13_fresh_34 (by rw [← e_v37]; rfl) ?_
    clear e_v37
    replace hf := mx_sv_el hf; obtain ⟨h38, e_h38, hf⟩ := hf
    refine sx_put hm dX13_fresh_35 rs_RX13_376 ft_13_23 ⟨rfl, rfl⟩ (fun z => by cases z) e_h38 ?_
    clear e_h38
    refine mx_S.pu (pc2 := 39) (lv2 := [(2, .int v7), (0, .ref a0), (1, .int a1)]) (st2 := [.ref a0]) hm dX13_fresh_38 rfl ?_
    refine sx_bi (v := 28) hm dX13_fresh_39 (by decide) ?_
    refine mx_S.pu (pc2 := 42) (lv2 := [(2, .int v7), (0, .ref a0), (1, .int a1)]) (st2 := [.ref a0, .int 28, .ref a0]) hm dX13_fresh_41 rfl ?_
    replace hf := mx_sv_el hf; obtain ⟨v39, e_v39, hf⟩ := hf
    refine sx_get hm dX13_fresh_42 rs_RX13_376 (xgi_el e_v39) ?_
    clear e_v39
    refine mx_S.pu (pc2 := 46) (lv2 := [(2, .int v7), (0, .ref a0), (1, .int a1)]) (st2 := [.int v7, .int v39, .int 28, .ref a0]) hm dX13_fresh_45 rfl ?_
    replace hf := mx_gd_el hf; obtain ⟨c40, hf⟩ := hf
    replace hf := mx_sv_el hf; obtain ⟨u41, e_u41, hf⟩ := hf
    refine sx_cv hm dX13_fresh_46 rs_RX13_430 mt_X13_add [.int 28, .int v39, .int v7] [] (b := a0) (ci := 13) rfl rfl rfl c40 (Nat.le_of_ble_eq_true rfl) (Nat.le_of_ble_eq_true rfl) (by omega) (by omega) (f_X13_add_ok X (by omega) (by omega) nn a0 28 v39 v7 h38 e_u41) ?_
    clear e_u41
    show mx_S X F L 415 49 [(2, .int v7), (0, .ref a0), (1, .int a1)] [.int u41.1] u41.2 0 0 (some (.int r.1), r.2, 0, 0)
    refine mx_S.pu (pc2 := 50) (lv2 := [(3, .int u41.1), (2, .int v7), (0, .ref a0), (1, .int a1)]) (st2 := []) hm dX13_fresh_49 rfl ?_
    refine mx_S.pu (pc2 := 51) (lv2 := [(3, .int u41.1), (2, .int v7), (0, .ref a0), (1, .int a1)]) (st2 := [.ref a0]) hm dX13_fresh_50 rfl ?_
    refine sx_bi (v := 91) hm dX13_fresh_51 (by decide) ?_
    replace hf := mx_gd_el hf; obtain ⟨c42, hf⟩ := hf
    replace hf := mx_sv_el hf; obtain ⟨u43, e_u43, hf⟩ := hf
    refine sx_cv hm dX13_fresh_53 rs_RX13_406 mt_X13_sign_ [.int 91] [] (b := a0) (ci := 13) rfl rfl rfl c42 (Nat.le_of_ble_eq_true rfl) (Nat.le_of_ble_eq_true rfl) (by omega) (by omega) (f_X13_sign__ok X (by omega) (by omega) nn a0 91 u41.2 e_u43) ?_
    clear e_u43
    show mx_S X F L 415 56 [(3, .int u41.1), (2, .int v7), (0, .ref a0), (1, .int a1)] [] u43 0 0 (some (.int r.1), r.2, 0, 0)
    refine mx_S.pu (pc2 := 57) (lv2 := [(3, .int u41.1), (2, .int v7), (0, .ref a0), (1, .int a1)]) (st2 := [.ref a0]) hm dX13_fresh_56 rfl ?_
    replace hf := mx_sv_el hf; obtain ⟨v44, e_v44, hf⟩ := hf
    refine sx_get hm dX13_fresh_57 rs_RX13_37 (xgr_el e_v44) ?_
    clear e_v44
    refine mx_S.pu (pc2 := 61) (lv2 := [(3, .int u41.1), (2, .int v7), (0, .ref a0), (1, .int a1)]) (st2 := [.int u41.1, .ref v44]) hm dX13_fresh_60 rfl ?_
    refine mx_S.pu (pc2 := 62) (lv2 := [(3, .int u41.1), (2, .int v7), (0, .ref a0), (1, .int a1)]) (st2 := [.ref a0, .int u41.1, .ref v44]) hm dX13_fresh_61 rfl ?_
    refine mx_S.pu (pc2 := 63) (lv2 := [(3, .int u41.1), (2, .int v7), (0, .ref a0), (1, .int a1)]) (st2 := [.int a1, .ref a0, .int u41.1, .ref v44]) hm dX13_fresh_62 rfl ?_
    replace hf := mx_gd_el hf; obtain ⟨c45, hf⟩ := hf
    replace hf := mx_sv_el hf; obtain ⟨u46, e_u46, hf⟩ := hf
    refine sx_cv hm dX13_fresh_63 rs_RX13_444 mt_X13_expression [.int a1] [.int u41.1, .ref v44] (b := a0) (ci := 13) rfl rfl rfl c45 (Nat.le_of_ble_eq_true rfl) (Nat.le_of_ble_eq_true rfl) (by omega) (by omega) (hrc.1 (by omega) (by omega) a0 a1 u43 e_u46) ?_
    clear e_u46
    show mx_S X F L 415 66 [(3, .int u41.1), (2, .int v7), (0, .ref a0), (1, .int a1)] [.int u46.1, .int u41.1, .ref v44] u46.2 0 0 (some (.int r.1), r.2, 0, 0)
    replace hf := mx_sv_el hf; obtain ⟨h47, e_h47, hf⟩ := hf
    refine sx_ast hm dX13_fresh_66 e_h47 ?_
    clear e_h47
    refine mx_S.pu (pc2 := 68) (lv2 := [(3, .int u41.1), (2, .int v7), (0, .ref a0), (1, .int a1)]) (st2 := [.ref a0]) hm dX13_fresh_67 rfl ?_
    refine sx_bi (v := 93) hm dX13_fresh_68 (by decide) ?_
    replace hf := mx_gd_el hf; obtain ⟨c48, hf⟩ := hf
    replace hf := mx_sv_el hf; obtain ⟨u49, e_u49, hf⟩ := hf
    refine sx_cv hm dX13_fresh_70 rs_RX13_406 mt_X13_sign_ [.int 93] [] (b := a0) (ci := 13) rfl rfl rfl c48 (Nat.le_of_ble_eq_true rfl) (Nat.le_of_ble_eq_true rfl) (by omega) (by omega) (f_X13_sign__ok X (by omega) (by omega) nn a0 93 h47 e_u49) ?_
    clear e_u49
    show mx_S X F L 415 73 [(3, .int u41.1), (2, .int v7), (0, .ref a0), (1, .int a1)] [] u49 0 0 (some (.int r.1), r.2, 0, 0)
    refine mx_S.pu (pc2 := 74) (lv2 := [(3, .int u41.1), (2, .int v7), (0, .ref a0), (1, .int a1)]) (st2 := [.int u41.1]) hm dX13_fresh_73 rfl ?_
    cases hf
    exact sx_ire hm dX13_fresh_74 rfl rfl
theorem g_X13_expression_ok (X : Nat × (Nat → Int32)) (nn : Nat) : ∀ d, hg5_X13_expression X d (g_X13_expression nn d) := by
  intro d
  induction d with
  | zero => exact ⟨(fun {F L} _ _ a0 a1 h {r} hf => by cases hf), (fun {F L} _ _ a0 a1 a2 h {r} hf => by cases hf), (fun {F L} _ _ a0 a1 h {r} hf => by cases hf), (fun {F L} _ _ a0 a1 h {r} hf => by cases hf), (fun {F L} _ _ a0 a1 h {r} hf => by cases hf), (fun {F L} _ _ a0 a1 h {r} hf => by cases hf), (fun {F L} _ _ a0 a1 h {r} hf => by cases hf)⟩
  | succ d ih => exact ⟨(fun {F L} hF hL a0 a1 h {r} hf => o_X13_expression_ok X hF hL nn ih a0 a1 h hf), (fun {F L} hF hL a0 a1 a2 h {r} hf => o_X13_sides_ok X hF hL nn ih a0 a1 a2 h hf), (fun {F L} hF hL a0 a1 h {r} hf => o_X13_unary_ok X hF hL nn ih a0 a1 h hf), (fun {F L} hF hL a0 a1 h {r} hf => o_X13_arguments_ok X hF hL nn ih a0 a1 h hf), (fun {F L} hF hL a0 a1 h {r} hf => o_X13_postfix_ok X hF hL nn ih a0 a1 h hf), (fun {F L} hF hL a0 a1 h {r} hf => o_X13_primary_ok X hF hL nn ih a0 a1 h hf), (fun {F L} hF hL a0 a1 h {r} hf => o_X13_fresh_ok X hF hL nn ih a0 a1 h hf)⟩
theorem f_X13_expression_ok (X : Nat × (Nat → Int32)) {F L : Nat} (hF : 703 ≤ F) (hL : 19663 ≤ L) (nn : Nat) (a0 : Nat) (a1 : Int32) (h : mx_H) {r : (Int32 × mx_H)} (hf : f_X13_expression nn a0 a1 h = some r) : mx_R X F L 407 [.ref a0, .int a1] h (some (.int r.1), r.2, 0, 0) := (g_X13_expression_ok X nn 700).1 (by omega) (by omega) a0 a1 h hf
theorem f_X13_sides_ok (X : Nat × (Nat → Int32)) {F L : Nat} (hF : 703 ≤ F) (hL : 19663 ≤ L) (nn : Nat) (a0 : Nat) (a1 : Int32) (a2 : Int32) (h : mx_H) {r : (Int32 × mx_H)} (hf : f_X13_sides nn a0 a1 a2 h = some r) : mx_R X F L 409 [.ref a0, .int a1, .int a2] h (some (.int r.1), r.2, 0, 0) := (g_X13_expression_ok X nn 700).2.1 (by omega) (by omega) a0 a1 a2 h hf
theorem f_X13_unary_ok (X : Nat × (Nat → Int32)) {F L : Nat} (hF : 703 ≤ F) (hL : 19663 ≤ L) (nn : Nat) (a0 : Nat) (a1 : Int32) (h : mx_H) {r : (Int32 × mx_H)} (hf : f_X13_unary nn a0 a1 h = some r) : mx_R X F L 411 [.ref a0, .int a1] h (some (.int r.1), r.2, 0, 0) := (g_X13_expression_ok X nn 700).2.2.1 (by omega) (by omega) a0 a1 h hf
theorem f_X13_arguments_ok (X : Nat × (Nat → Int32)) {F L : Nat} (hF : 703 ≤ F) (hL : 19663 ≤ L) (nn : Nat) (a0 : Nat) (a1 : Int32) (h : mx_H) {r : (Int32 × mx_H)} (hf : f_X13_arguments nn a0 a1 h = some r) : mx_R X F L 412 [.ref a0, .int a1] h (some (.int r.1), r.2, 0, 0) := (g_X13_expression_ok X nn 700).2.2.2.1 (by omega) (by omega) a0 a1 h hf
theorem f_X13_postfix_ok (X : Nat × (Nat → Int32)) {F L : Nat} (hF : 703 ≤ F) (hL : 19663 ≤ L) (nn : Nat) (a0 : Nat) (a1 : Int32) (h : mx_H) {r : (Int32 × mx_H)} (hf : f_X13_postfix nn a0 a1 h = some r) : mx_R X F L 413 [.ref a0, .int a1] h (some (.int r.1), r.2, 0, 0) := (g_X13_expression_ok X nn 700).2.2.2.2.1 (by omega) (by omega) a0 a1 h hf
theorem f_X13_primary_ok (X : Nat × (Nat → Int32)) {F L : Nat} (hF : 703 ≤ F) (hL : 19663 ≤ L) (nn : Nat) (a0 : Nat) (a1 : Int32) (h : mx_H) {r : (Int32 × mx_H)} (hf : f_X13_primary nn a0 a1 h = some r) : mx_R X F L 414 [.ref a0, .int a1] h (some (.int r.1), r.2, 0, 0) := (g_X13_expression_ok X nn 700).2.2.2.2.2.1 (by omega) (by omega) a0 a1 h hf
theorem f_X13_fresh_ok (X : Nat × (Nat → Int32)) {F L : Nat} (hF : 703 ≤ F) (hL : 19663 ≤ L) (nn : Nat) (a0 : Nat) (a1 : Int32) (h : mx_H) {r : (Int32 × mx_H)} (hf : f_X13_fresh nn a0 a1 h = some r) : mx_R X F L 415 [.ref a0, .int a1] h (some (.int r.1), r.2, 0, 0) := (g_X13_expression_ok X nn 700).2.2.2.2.2.2 (by omega) (by omega) a0 a1 h hf
