set_option maxHeartbeats 4000000 in
set_option maxRecDepth 20000 in
theorem j_X11_fitsHandlers_106_ok (X : Nat × (Nat → Int32)) {F L : Nat} (hF : 3 ≤ F) (hL : 68 ≤ L) (nn : Nat) {kk_4 : Nat → Int32 → Int32 → Int32 → mx_H → Option (Int32 × mx_H)} (hk_4 : ∀ (l0 : Nat) (l1 : Int32) (l2 : Int32) (l3 : Int32) (h : mx_H) (r : (Int32 × mx_H)), kk_4 l0 l1 l2 l3 h = some r → mx_S X F L 344 4 [(0, .ref l0), (1, .int l1), (2, .int l2), (3, .int l3)] [] h 0 0 (some (.int r.1), r.2, 0, 0)) (l0 : Nat) (l1 : Int32) (l3 : Int32) (h : mx_H) {r : (Int32 × mx_H)} (hf : j_X11_fitsHandlers_106 nn kk_4 l0 l1 l3 h = some r) : mx_S X F L 344 106 [(0, .ref l0), (1, .int l1), (3, .int l3)] [] h 0 0 (some (.int r.1), r.2, 0, 0) := by
  have hm : mx_mt 344 = some (yX11_fitsHandlers, cX11_fitsHandlers, 5, (some .boolean)) := mt_X11_fitsHandlers
  unfold j_X11_fitsHandlers_106 at hf
  refine sx_ic (v := 0) hm dX11_fitsHandlers_106 (by decide) ?_
  refine mx_S.pu (pc2 := 108) (lv2 := [(2, .int 0), (0, .ref l0), (1, .int l1), (3, .int l3)]) (st2 := []) hm dX11_fitsHandlers_107 rfl ?_
  replace hf := xl_el hf; obtain ⟨v1, e_v1, hf⟩ := hf
  refine mx_S.pu (pc2 := 111) (lv2 := [(3, .int v1), (2, .int 0), (0, .ref l0), (1, .int l1)]) (st2 := []) hm dX11_fitsHandlers_108 (by rw [← e_v1]; rfl) ?_
  clear e_v1
  refine mx_S.pu (pc2 := 4) (lv2 := [(3, .int v1), (2, .int 0), (0, .ref l0), (1, .int l1)]) (st2 := []) hm dX11_fitsHandlers_111 rfl ?_
  refine mx_S.ext [(0, .ref l0), (1, .int l1), (2, .int 0), (3, .int v1)] (mx_sub_pos [2, 3, 1, 0] rfl (show ([3, 2, 0, 1] : List Nat).Nodup by decide)) ?_
  exact hk_4 l0 l1 0 v1 h _ hf
set_option maxHeartbeats 4000000 in
set_option maxRecDepth 20000 in
theorem w_X11_fitsHandlers_4_ok (X : Nat × (Nat → Int32)) {F L : Nat} (hF : 3 ≤ F) (hL : 68 ≤ L) (nn : Nat) : ∀ (k : Nat) (l0 : Nat) (l1 : Int32) (l2 : Int32) (l3 : Int32) (h : mx_H) (r : (Int32 × mx_H)), w_X11_fitsHandlers_4 nn k l0 l1 l2 l3 h = some r → mx_S X F L 344 4 [(0, .ref l0), (1, .int l1), (2, .int l2), (3, .int l3)] [] h 0 0 (some (.int r.1), r.2, 0, 0) := by
  have hm : mx_mt 344 = some (yX11_fitsHandlers, cX11_fitsHandlers, 5, (some .boolean)) := mt_X11_fitsHandlers
  intro k
  induction k with
  | zero => intro l0 l1 l2 l3 h r hf; cases hf
  | succ k ih =>
    intro l0 l1 l2 l3 h r hf
    unfold w_X11_fitsHandlers_4 at hf
    refine mx_S.pu (pc2 := 5) (lv2 := [(0, .ref l0), (1, .int l1), (2, .int l2), (3, .int l3)]) (st2 := [.int l3]) hm dX11_fitsHandlers_4 rfl ?_
    refine mx_S.pu (pc2 := 6) (lv2 := [(0, .ref l0), (1, .int l1), (2, .int l2), (3, .int l3)]) (st2 := [.ref l0, .int l3]) hm dX11_fitsHandlers_5 rfl ?_
    refine sx_bi (v := 7) hm dX11_fitsHandlers_6 (by decide) ?_
    replace hf := mx_gd_el hf; obtain ⟨c2, hf⟩ := hf
    replace hf := mx_sv_el hf; obtain ⟨u3, e_u3, hf⟩ := hf
    refine sx_cv hm dX11_fitsHandlers_8 rs_RX11_189 mt_X11_info [.int 7] [.int l3] (b := l0) (ci := 11) rfl rfl rfl c2 (Nat.le_of_ble_eq_true rfl) (Nat.le_of_ble_eq_true rfl) (by omega) (by omega) (f_X11_info_ok X (by omega) (by omega) nn l0 7 h e_u3) ?_
    clear e_u3
    show mx_S X F L 344 11 [(0, .ref l0), (1, .int l1), (2, .int l2), (3, .int l3)] [.int u3.1, .int l3] u3.2 0 0 (some (.int r.1), r.2, 0, 0)
    rcases mx_if_el hf with ⟨c37, hf⟩ | ⟨c37, hf⟩
    · refine sb_ic_ge hm dX11_fitsHandlers_11 (tgt := 114) rfl (fun _ => ?_) (fun z => absurd c37 z)
      refine mx_S.pu (pc2 := 115) (lv2 := [(0, .ref l0), (1, .int l1), (2, .int l2), (3, .int l3)]) (st2 := [.int l2]) hm dX11_fitsHandlers_114 rfl ?_
      replace hf := mx_gd_el hf; obtain ⟨c4, hf⟩ := hf
      cases hf
      exact sx_ire hm dX11_fitsHandlers_115 rfl (xbq_ok c4).1
    · refine sb_ic_ge hm dX11_fitsHandlers_11 (tgt := 114) rfl (fun z => absurd z c37) (fun _ => ?_)
      refine mx_S.pu (pc2 := 15) (lv2 := [(0, .ref l0), (1, .int l1), (2, .int l2), (3, .int l3)]) (st2 := [.int l2]) hm dX11_fitsHandlers_14 rfl ?_
      rcases mx_if_el hf with ⟨c36, hf⟩ | ⟨c36, hf⟩
      · refine sb_if_eq hm dX11_fitsHandlers_15 (tgt := 114) rfl (fun _ => ?_) (fun z => absurd c36 z)
        refine mx_S.pu (pc2 := 115) (lv2 := [(0, .ref l0), (1, .int l1), (2, .int l2), (3, .int l3)]) (st2 := [.int l2]) hm dX11_fitsHandlers_114 rfl ?_
        replace hf := mx_gd_el hf; obtain ⟨c5, hf⟩ := hf
        cases hf
        exact sx_ire hm dX11_fitsHandlers_115 rfl (xbq_ok c5).1
      · refine sb_if_eq hm dX11_fitsHandlers_15 (tgt := 114) rfl (fun z => absurd z c36) (fun _ => ?_)
        refine mx_S.pu (pc2 := 19) (lv2 := [(0, .ref l0), (1, .int l1), (2, .int l2), (3, .int l3)]) (st2 := [.int l1]) hm dX11_fitsHandlers_18 rfl ?_
        refine mx_S.pu (pc2 := 20) (lv2 := [(0, .ref l0), (1, .int l1), (2, .int l2), (3, .int l3)]) (st2 := [.ref l0, .int l1]) hm dX11_fitsHandlers_19 rfl ?_
        refine mx_S.pu (pc2 := 21) (lv2 := [(0, .ref l0), (1, .int l1), (2, .int l2), (3, .int l3)]) (st2 := [.int l3, .ref l0, .int l1]) hm dX11_fitsHandlers_20 rfl ?_
        refine sx_ic (v := 0) hm dX11_fitsHandlers_21 (by decide) ?_
        replace hf := mx_gd_el hf; obtain ⟨c6, hf⟩ := hf
        replace hf := mx_sv_el hf; obtain ⟨u7, e_u7, hf⟩ := hf
        refine sx_cv hm dX11_fitsHandlers_22 rs_RX11_239 mt_X11_handler [.int l3, .int 0] [.int l1] (b := l0) (ci := 11) rfl rfl rfl c6 (Nat.le_of_ble_eq_true rfl) (Nat.le_of_ble_eq_true rfl) (by omega) (by omega) (f_X11_handler_ok X (by omega) (by omega) nn l0 l3 0 u3.2 e_u7) ?_
        clear e_u7
        show mx_S X F L 344 25 [(0, .ref l0), (1, .int l1), (2, .int l2), (3, .int l3)] [.int u7.1, .int l1] u7.2 0 0 (some (.int r.1), r.2, 0, 0)
        rcases mx_if_el hf with ⟨c35, hf⟩ | ⟨c35, hf⟩
        · refine sb_ic_lt hm dX11_fitsHandlers_25 (tgt := 108) rfl (fun _ => ?_) (fun z => absurd c35 z)
          replace hf := xl_el hf; obtain ⟨v8, e_v8, hf⟩ := hf
          refine mx_S.pu (pc2 := 111) (lv2 := [(3, .int v8), (0, .ref l0), (1, .int l1), (2, .int l2)]) (st2 := []) hm dX11_fitsHandlers_108 (by rw [← e_v8]; rfl) ?_
          clear e_v8
          refine mx_S.pu (pc2 := 4) (lv2 := [(3, .int v8), (0, .ref l0), (1, .int l1), (2, .int l2)]) (st2 := []) hm dX11_fitsHandlers_111 rfl ?_
          refine mx_S.ext [(0, .ref l0), (1, .int l1), (2, .int l2), (3, .int v8)] (mx_sub_pos [1, 2, 3, 0] rfl (show ([3, 0, 1, 2] : List Nat).Nodup by decide)) ?_
          exact ih l0 l1 l2 v8 u7.2 _ hf
        · refine sb_ic_lt hm dX11_fitsHandlers_25 (tgt := 108) rfl (fun z => absurd z c35) (fun _ => ?_)
          refine mx_S.pu (pc2 := 29) (lv2 := [(0, .ref l0), (1, .int l1), (2, .int l2), (3, .int l3)]) (st2 := [.int l1]) hm dX11_fitsHandlers_28 rfl ?_
          refine mx_S.pu (pc2 := 30) (lv2 := [(0, .ref l0), (1, .int l1), (2, .int l2), (3, .int l3)]) (st2 := [.ref l0, .int l1]) hm dX11_fitsHandlers_29 rfl ?_
          refine mx_S.pu (pc2 := 31) (lv2 := [(0, .ref l0), (1, .int l1), (2, .int l2), (3, .int l3)]) (st2 := [.int l3, .ref l0, .int l1]) hm dX11_fitsHandlers_30 rfl ?_
          refine sx_ic (v := 2) hm dX11_fitsHandlers_31 (by decide) ?_
          replace hf := mx_gd_el hf; obtain ⟨c9, hf⟩ := hf
          replace hf := mx_sv_el hf; obtain ⟨u10, e_u10, hf⟩ := hf
          refine sx_cv hm dX11_fitsHandlers_32 rs_RX11_239 mt_X11_handler [.int l3, .int 2] [.int l1] (b := l0) (ci := 11) rfl rfl rfl c9 (Nat.le_of_ble_eq_true rfl) (Nat.le_of_ble_eq_true rfl) (by omega) (by omega) (f_X11_handler_ok X (by omega) (by omega) nn l0 l3 2 u7.2 e_u10) ?_
          clear e_u10
          show mx_S X F L 344 35 [(0, .ref l0), (1, .int l1), (2, .int l2), (3, .int l3)] [.int u10.1, .int l1] u10.2 0 0 (some (.int r.1), r.2, 0, 0)
          rcases mx_if_el hf with ⟨c34, hf⟩ | ⟨c34, hf⟩
          · refine sb_ic_ge hm dX11_fitsHandlers_35 (tgt := 108) rfl (fun _ => ?_) (fun z => absurd c34 z)
            replace hf := xl_el hf; obtain ⟨v11, e_v11, hf⟩ := hf
            refine mx_S.pu (pc2 := 111) (lv2 := [(3, .int v11), (0, .ref l0), (1, .int l1), (2, .int l2)]) (st2 := []) hm dX11_fitsHandlers_108 (by rw [← e_v11]; rfl) ?_
            clear e_v11
            refine mx_S.pu (pc2 := 4) (lv2 := [(3, .int v11), (0, .ref l0), (1, .int l1), (2, .int l2)]) (st2 := []) hm dX11_fitsHandlers_111 rfl ?_
            refine mx_S.ext [(0, .ref l0), (1, .int l1), (2, .int l2), (3, .int v11)] (mx_sub_pos [1, 2, 3, 0] rfl (show ([3, 0, 1, 2] : List Nat).Nodup by decide)) ?_
            exact ih l0 l1 l2 v11 u10.2 _ hf
          · refine sb_ic_ge hm dX11_fitsHandlers_35 (tgt := 108) rfl (fun z => absurd z c34) (fun _ => ?_)
            refine mx_S.pu (pc2 := 39) (lv2 := [(0, .ref l0), (1, .int l1), (2, .int l2), (3, .int l3)]) (st2 := [.ref l0]) hm dX11_fitsHandlers_38 rfl ?_
            refine mx_S.pu (pc2 := 40) (lv2 := [(0, .ref l0), (1, .int l1), (2, .int l2), (3, .int l3)]) (st2 := [.ref l0, .ref l0]) hm dX11_fitsHandlers_39 rfl ?_
            refine mx_S.pu (pc2 := 41) (lv2 := [(0, .ref l0), (1, .int l1), (2, .int l2), (3, .int l3)]) (st2 := [.int l3, .ref l0, .ref l0]) hm dX11_fitsHandlers_40 rfl ?_
            refine sx_ic (v := 4) hm dX11_fitsHandlers_41 (by decide) ?_
            replace hf := mx_gd_el hf; obtain ⟨c12, hf⟩ := hf
            replace hf := mx_sv_el hf; obtain ⟨u13, e_u13, hf⟩ := hf
            refine sx_cv hm dX11_fitsHandlers_42 rs_RX11_239 mt_X11_handler [.int l3, .int 4] [.ref l0] (b := l0) (ci := 11) rfl rfl rfl c12 (Nat.le_of_ble_eq_true rfl) (Nat.le_of_ble_eq_true rfl) (by omega) (by omega) (f_X11_handler_ok X (by omega) (by omega) nn l0 l3 4 u10.2 e_u13) ?_
            clear e_u13
            show mx_S X F L 344 45 [(0, .ref l0), (1, .int l1), (2, .int l2), (3, .int l3)] [.int u13.1, .ref l0] u13.2 0 0 (some (.int r.1), r.2, 0, 0)
            replace hf := mx_gd_el hf; obtain ⟨c14, hf⟩ := hf
            replace hf := mx_sv_el hf; obtain ⟨u15, e_u15, hf⟩ := hf
            refine sx_cv hm dX11_fitsHandlers_45 rs_RX11_242 mt_X11_frameAt [.int u13.1] [] (b := l0) (ci := 11) rfl rfl rfl c14 (Nat.le_of_ble_eq_true rfl) (Nat.le_of_ble_eq_true rfl) (by omega) (by omega) (f_X11_frameAt_ok X (by omega) (by omega) nn l0 u13.1 u13.2 e_u15) ?_
            clear e_u15
            show mx_S X F L 344 48 [(0, .ref l0), (1, .int l1), (2, .int l2), (3, .int l3)] [.int u15.1] u15.2 0 0 (some (.int r.1), r.2, 0, 0)
            refine sx_bi (v := 64) hm dX11_fitsHandlers_48 (by decide) ?_
            replace hf := xl_el hf; obtain ⟨v16, e_v16, hf⟩ := hf
            refine mx_S.pu (pc2 := 51) (lv2 := [(0, .ref l0), (1, .int l1), (2, .int l2), (3, .int l3)]) (st2 := [.int v16]) hm dX11_fitsHandlers_50 (by rw [← e_v16]; rfl) ?_
            clear e_v16
            refine mx_S.pu (pc2 := 53) (lv2 := [(4, .int v16), (0, .ref l0), (1, .int l1), (2, .int l2), (3, .int l3)]) (st2 := []) hm dX11_fitsHandlers_51 rfl ?_
            refine mx_S.pu (pc2 := 55) (lv2 := [(4, .int v16), (0, .ref l0), (1, .int l1), (2, .int l2), (3, .int l3)]) (st2 := [.int v16]) hm dX11_fitsHandlers_53 rfl ?_
            rcases mx_if_el hf with ⟨c33, hf⟩ | ⟨c33, hf⟩
            · refine sb_if_lt hm dX11_fitsHandlers_55 (tgt := 106) rfl (fun _ => ?_) (fun z => absurd c33 z)
              refine mx_S.ext [(0, .ref l0), (1, .int l1), (3, .int l3)] (mx_sub_pos [1, 2, 4] rfl (show ([4, 0, 1, 2, 3] : List Nat).Nodup by decide)) ?_
              exact j_X11_fitsHandlers_106_ok X hF hL nn ih l0 l1 l3 u15.2 hf
            · refine sb_if_lt hm dX11_fitsHandlers_55 (tgt := 106) rfl (fun z => absurd z c33) (fun _ => ?_)
              refine mx_S.pu (pc2 := 59) (lv2 := [(4, .int v16), (0, .ref l0), (1, .int l1), (2, .int l2), (3, .int l3)]) (st2 := [.ref l0]) hm dX11_fitsHandlers_58 rfl ?_
              refine mx_S.pu (pc2 := 61) (lv2 := [(4, .int v16), (0, .ref l0), (1, .int l1), (2, .int l2), (3, .int l3)]) (st2 := [.int v16, .ref l0]) hm dX11_fitsHandlers_59 rfl ?_
              replace hf := mx_gd_el hf; obtain ⟨c17, hf⟩ := hf
              replace hf := mx_sv_el hf; obtain ⟨u18, e_u18, hf⟩ := hf
              refine sx_cv hm dX11_fitsHandlers_61 rs_RX11_304 mt_X11_fitsLocals [.int v16] [] (b := l0) (ci := 11) rfl rfl rfl c17 (Nat.le_of_ble_eq_true rfl) (Nat.le_of_ble_eq_true rfl) (by omega) (by omega) (f_X11_fitsLocals_ok X (by omega) (by omega) nn l0 v16 u15.2 e_u18) ?_
              clear e_u18
              show mx_S X F L 344 64 [(4, .int v16), (0, .ref l0), (1, .int l1), (2, .int l2), (3, .int l3)] [.int u18.1] u18.2 0 0 (some (.int r.1), r.2, 0, 0)
              rcases mx_if_el hf with ⟨c32, hf⟩ | ⟨c32, hf⟩
              · refine sb_if_eq hm dX11_fitsHandlers_64 (tgt := 106) rfl (fun _ => ?_) (fun z => absurd c32 z)
                refine mx_S.ext [(0, .ref l0), (1, .int l1), (3, .int l3)] (mx_sub_pos [1, 2, 4] rfl (show ([4, 0, 1, 2, 3] : List Nat).Nodup by decide)) ?_
                exact j_X11_fitsHandlers_106_ok X hF hL nn ih l0 l1 l3 u18.2 hf
              · refine sb_if_eq hm dX11_fitsHandlers_64 (tgt := 106) rfl (fun z => absurd z c32) (fun _ => ?_)
                refine mx_S.pu (pc2 := 68) (lv2 := [(4, .int v16), (0, .ref l0), (1, .int l1), (2, .int l2), (3, .int l3)]) (st2 := [.ref l0]) hm dX11_fitsHandlers_67 rfl ?_
                replace hf := mx_sv_el hf; obtain ⟨v19, e_v19, hf⟩ := hf
                refine sx_get hm dX11_fitsHandlers_68 rs_RX11_41 (xgr_el e_v19) ?_
                clear e_v19
                refine mx_S.pu (pc2 := 73) (lv2 := [(4, .int v16), (0, .ref l0), (1, .int l1), (2, .int l2), (3, .int l3)]) (st2 := [.int v16, .ref v19]) hm dX11_fitsHandlers_71 rfl ?_
                refine sx_ic (v := 2) hm dX11_fitsHandlers_73 (by decide) ?_
                replace hf := xl_el hf; obtain ⟨v20, e_v20, hf⟩ := hf
                refine mx_S.pu (pc2 := 75) (lv2 := [(4, .int v16), (0, .ref l0), (1, .int l1), (2, .int l2), (3, .int l3)]) (st2 := [.int v20, .ref v19]) hm dX11_fitsHandlers_74 (by rw [← e_v20]; rfl) ?_
                clear e_v20
                replace hf := mx_sv_el hf; obtain ⟨v21, e_v21, hf⟩ := hf
                refine sx_ald hm dX11_fitsHandlers_75 e_v21 ?_
                clear e_v21
                refine sx_ic (v := 1) hm dX11_fitsHandlers_76 (by decide) ?_
                rcases mx_if_el hf with ⟨c31, hf⟩ | ⟨c31, hf⟩
                · refine sb_ic_ne hm dX11_fitsHandlers_77 (tgt := 106) rfl (fun _ => ?_) (fun z => absurd c31 z)
                  refine mx_S.ext [(0, .ref l0), (1, .int l1), (3, .int l3)] (mx_sub_pos [1, 2, 4] rfl (show ([4, 0, 1, 2, 3] : List Nat).Nodup by decide)) ?_
                  exact j_X11_fitsHandlers_106_ok X hF hL nn ih l0 l1 l3 u18.2 hf
                · refine sb_ic_ne hm dX11_fitsHandlers_77 (tgt := 106) rfl (fun z => absurd z c31) (fun _ => ?_)
                  refine mx_S.pu (pc2 := 81) (lv2 := [(4, .int v16), (0, .ref l0), (1, .int l1), (2, .int l2), (3, .int l3)]) (st2 := [.ref l0]) hm dX11_fitsHandlers_80 rfl ?_
                  refine mx_S.pu (pc2 := 82) (lv2 := [(4, .int v16), (0, .ref l0), (1, .int l1), (2, .int l2), (3, .int l3)]) (st2 := [.ref l0, .ref l0]) hm dX11_fitsHandlers_81 rfl ?_
                  refine mx_S.pu (pc2 := 83) (lv2 := [(4, .int v16), (0, .ref l0), (1, .int l1), (2, .int l2), (3, .int l3)]) (st2 := [.int l3, .ref l0, .ref l0]) hm dX11_fitsHandlers_82 rfl ?_
                  replace hf := mx_gd_el hf; obtain ⟨c22, hf⟩ := hf
                  replace hf := mx_sv_el hf; obtain ⟨u23, e_u23, hf⟩ := hf
                  refine sx_cv hm dX11_fitsHandlers_83 rs_RX11_245 mt_X11_handlerClass [.int l3] [.ref l0] (b := l0) (ci := 11) rfl rfl rfl c22 (Nat.le_of_ble_eq_true rfl) (Nat.le_of_ble_eq_true rfl) (by omega) (by omega) (f_X11_handlerClass_ok X (by omega) (by omega) nn l0 l3 u18.2 e_u23) ?_
                  clear e_u23
                  show mx_S X F L 344 86 [(4, .int v16), (0, .ref l0), (1, .int l1), (2, .int l2), (3, .int l3)] [.int u23.1, .ref l0] u23.2 0 0 (some (.int r.1), r.2, 0, 0)
                  refine mx_S.pu (pc2 := 87) (lv2 := [(4, .int v16), (0, .ref l0), (1, .int l1), (2, .int l2), (3, .int l3)]) (st2 := [.ref l0, .int u23.1, .ref l0]) hm dX11_fitsHandlers_86 rfl ?_
                  replace hf := mx_sv_el hf; obtain ⟨v24, e_v24, hf⟩ := hf
                  refine sx_get hm dX11_fitsHandlers_87 rs_RX11_41 (xgr_el e_v24) ?_
                  clear e_v24
                  refine mx_S.pu (pc2 := 92) (lv2 := [(4, .int v16), (0, .ref l0), (1, .int l1), (2, .int l2), (3, .int l3)]) (st2 := [.int v16, .ref v24, .int u23.1, .ref l0]) hm dX11_fitsHandlers_90 rfl ?_
                  refine sx_bi (v := 33) hm dX11_fitsHandlers_92 (by decide) ?_
                  replace hf := xl_el hf; obtain ⟨v25, e_v25, hf⟩ := hf
                  refine mx_S.pu (pc2 := 95) (lv2 := [(4, .int v16), (0, .ref l0), (1, .int l1), (2, .int l2), (3, .int l3)]) (st2 := [.int v25, .ref v24, .int u23.1, .ref l0]) hm dX11_fitsHandlers_94 (by rw [← e_v25]; rfl) ?_
                  clear e_v25
                  replace hf := mx_sv_el hf; obtain ⟨v26, e_v26, hf⟩ := hf
                  refine sx_ald hm dX11_fitsHandlers_95 e_v26 ?_
                  clear e_v26
                  replace hf := mx_gd_el hf; obtain ⟨c27, hf⟩ := hf
                  replace hf := mx_sv_el hf; obtain ⟨u28, e_u28, hf⟩ := hf
                  refine sx_cv hm dX11_fitsHandlers_96 rs_RX11_303 mt_X11_fits [.int u23.1, .int v26] [] (b := l0) (ci := 11) rfl rfl rfl c27 (Nat.le_of_ble_eq_true rfl) (Nat.le_of_ble_eq_true rfl) (by omega) (by omega) (f_X11_fits_ok X (by omega) (by omega) nn l0 u23.1 v26 u23.2 e_u28) ?_
                  clear e_u28
                  show mx_S X F L 344 99 [(4, .int v16), (0, .ref l0), (1, .int l1), (2, .int l2), (3, .int l3)] [.int u28.1] u28.2 0 0 (some (.int r.1), r.2, 0, 0)
                  rcases mx_if_el hf with ⟨c30, hf⟩ | ⟨c30, hf⟩
                  · refine sb_if_eq hm dX11_fitsHandlers_99 (tgt := 106) rfl (fun _ => ?_) (fun z => absurd c30 z)
                    refine mx_S.ext [(0, .ref l0), (1, .int l1), (3, .int l3)] (mx_sub_pos [1, 2, 4] rfl (show ([4, 0, 1, 2, 3] : List Nat).Nodup by decide)) ?_
                    exact j_X11_fitsHandlers_106_ok X hF hL nn ih l0 l1 l3 u28.2 hf
                  · refine sb_if_eq hm dX11_fitsHandlers_99 (tgt := 106) rfl (fun z => absurd z c30) (fun _ => ?_)
                    refine sx_ic (v := 1) hm dX11_fitsHandlers_102 (by decide) ?_
                    refine mx_S.pu (pc2 := 107) (lv2 := [(4, .int v16), (0, .ref l0), (1, .int l1), (2, .int l2), (3, .int l3)]) (st2 := [.int 1]) hm dX11_fitsHandlers_103 rfl ?_
                    refine mx_S.pu (pc2 := 108) (lv2 := [(2, .int 1), (4, .int v16), (0, .ref l0), (1, .int l1), (3, .int l3)]) (st2 := []) hm dX11_fitsHandlers_107 rfl ?_
                    replace hf := xl_el hf; obtain ⟨v29, e_v29, hf⟩ := hf
                    refine mx_S.pu (pc2 := 111) (lv2 := [(3, .int v29), (2, .int 1), (4, .int v16), (0, .ref l0), (1, .int l1)]) (st2 := []) hm dX11_fitsHandlers_108 (by rw [← e_v29]; rfl) ?_
                    clear e_v29
                    refine mx_S.pu (pc2 := 4) (lv2 := [(3, .int v29), (2, .int 1), (4, .int v16), (0, .ref l0), (1, .int l1)]) (st2 := []) hm dX11_fitsHandlers_111 rfl ?_
                    refine mx_S.ext [(0, .ref l0), (1, .int l1), (2, .int 1), (3, .int v29)] (mx_sub_pos [3, 4, 1, 0] rfl (show ([3, 2, 4, 0, 1] : List Nat).Nodup by decide)) ?_
                    exact ih l0 l1 1 v29 u28.2 _ hf
set_option maxHeartbeats 4000000 in
set_option maxRecDepth 20000 in
theorem f_X11_fitsHandlers_ok (X : Nat × (Nat → Int32)) {F L : Nat} (hF : 3 ≤ F) (hL : 68 ≤ L) (nn : Nat) (a0 : Nat) (a1 : Int32) (h : mx_H) {r : (Int32 × mx_H)} (hf : f_X11_fitsHandlers nn a0 a1 h = some r) : mx_R X F L 344 [.ref a0, .int a1] h (some (.int r.1), r.2, 0, 0) := by
  have hm : mx_mt 344 = some (yX11_fitsHandlers, cX11_fitsHandlers, 5, (some .boolean)) := mt_X11_fitsHandlers
  show mx_S X F L 344 0 [(0, .ref a0), (1, .int a1)] [] h 0 0 (some (.int r.1), r.2, 0, 0)
  unfold f_X11_fitsHandlers at hf
  refine sx_ic (v := 1) hm dX11_fitsHandlers_0 (by decide) ?_
  refine mx_S.pu (pc2 := 2) (lv2 := [(2, .int 1), (0, .ref a0), (1, .int a1)]) (st2 := []) hm dX11_fitsHandlers_1 rfl ?_
  refine sx_ic (v := 0) hm dX11_fitsHandlers_2 (by decide) ?_
  refine mx_S.pu (pc2 := 4) (lv2 := [(3, .int 0), (2, .int 1), (0, .ref a0), (1, .int a1)]) (st2 := []) hm dX11_fitsHandlers_3 rfl ?_
  refine mx_S.ext [(0, .ref a0), (1, .int a1), (2, .int 1), (3, .int 0)] (mx_sub_pos [2, 3, 1, 0] rfl (show ([3, 2, 0, 1] : List Nat).Nodup by decide)) ?_
  exact w_X11_fitsHandlers_4_ok X hF hL nn nn a0 a1 1 0 h _ hf
set_option maxHeartbeats 4000000 in
set_option maxRecDepth 20000 in
theorem j_X11_isMemberRight_131_ok (X : Nat × (Nat → Int32)) {F L : Nat} (hF : 2 ≤ F) (hL : 43 ≤ L) (nn : Nat) (s0 : Int32) (s1 : Int32) (h : mx_H) {r : (Int32 × mx_H)} (hf : j_X11_isMemberRight_131 nn s0 s1 h = some r) : mx_S X F L 346 131 [] [.int s0, .int s1] h 0 0 (some (.int r.1), r.2, 0, 0) := by
  have hm : mx_mt 346 = some (yX11_isMemberRight, cX11_isMemberRight, 7, (some .boolean)) := mt_X11_isMemberRight
  unfold j_X11_isMemberRight_131 at hf
  rcases mx_if_el hf with ⟨c1, hf⟩ | ⟨c1, hf⟩
  · refine sb_ic_ne hm dX11_isMemberRight_131 (tgt := 138) rfl (fun _ => ?_) (fun z => absurd c1 z)
    refine sx_ic (v := 0) hm dX11_isMemberRight_138 (by decide) ?_
    cases hf
    exact sx_ire hm dX11_isMemberRight_139 rfl (by decide)
  · refine sb_ic_ne hm dX11_isMemberRight_131 (tgt := 138) rfl (fun z => absurd z c1) (fun _ => ?_)
    refine sx_ic (v := 1) hm dX11_isMemberRight_134 (by decide) ?_
    refine mx_S.pu (pc2 := 139) (lv2 := []) (st2 := [.int 1]) hm dX11_isMemberRight_135 rfl ?_
    cases hf
    exact sx_ire hm dX11_isMemberRight_139 rfl (by decide)
set_option maxHeartbeats 4000000 in
set_option maxRecDepth 20000 in
theorem j_X11_isMemberRight_115_ok (X : Nat × (Nat → Int32)) {F L : Nat} (hF : 2 ≤ F) (hL : 43 ≤ L) (nn : Nat) (l1 : Int32) (s0 : Int32) (h : mx_H) {r : (Int32 × mx_H)} (hf : j_X11_isMemberRight_115 nn l1 s0 h = some r) : mx_S X F L 346 115 [(1, .int l1)] [.int s0] h 0 0 (some (.int r.1), r.2, 0, 0) := by
  have hm : mx_mt 346 = some (yX11_isMemberRight, cX11_isMemberRight, 7, (some .boolean)) := mt_X11_isMemberRight
  unfold j_X11_isMemberRight_115 at hf
  refine mx_S.pu (pc2 := 117) (lv2 := [(6, .int s0), (1, .int l1)]) (st2 := []) hm dX11_isMemberRight_115 rfl ?_
  refine mx_S.pu (pc2 := 119) (lv2 := [(6, .int s0), (1, .int l1)]) (st2 := [.int s0]) hm dX11_isMemberRight_117 rfl ?_
  refine mx_S.pu (pc2 := 120) (lv2 := [(6, .int s0), (1, .int l1)]) (st2 := [.int l1, .int s0]) hm dX11_isMemberRight_119 rfl ?_
  refine sx_si (v := 184) hm dX11_isMemberRight_120 (by decide) ?_
  rcases mx_if_el hf with ⟨c2, hf⟩ | ⟨c2, hf⟩
  · refine sb_ic_ne hm dX11_isMemberRight_123 (tgt := 130) rfl (fun _ => ?_) (fun z => absurd c2 z)
    refine sx_ic (v := 0) hm dX11_isMemberRight_130 (by decide) ?_
    refine mx_S.ext [] (mx_sub_pos [] rfl (show ([6, 1] : List Nat).Nodup by decide)) ?_
    exact j_X11_isMemberRight_131_ok X hF hL nn 0 s0 h hf
  · refine sb_ic_ne hm dX11_isMemberRight_123 (tgt := 130) rfl (fun z => absurd z c2) (fun _ => ?_)
    refine sx_ic (v := 1) hm dX11_isMemberRight_126 (by decide) ?_
    refine mx_S.pu (pc2 := 131) (lv2 := [(6, .int s0), (1, .int l1)]) (st2 := [.int 1, .int s0]) hm dX11_isMemberRight_127 rfl ?_
    refine mx_S.ext [] (mx_sub_pos [] rfl (show ([6, 1] : List Nat).Nodup by decide)) ?_
    exact j_X11_isMemberRight_131_ok X hF hL nn 1 s0 h hf
set_option maxHeartbeats 4000000 in
set_option maxRecDepth 20000 in
theorem j_X11_isMemberRight_114_ok (X : Nat × (Nat → Int32)) {F L : Nat} (hF : 2 ≤ F) (hL : 43 ≤ L) (nn : Nat) (l1 : Int32) (h : mx_H) {r : (Int32 × mx_H)} (hf : j_X11_isMemberRight_114 nn l1 h = some r) : mx_S X F L 346 114 [(1, .int l1)] [] h 0 0 (some (.int r.1), r.2, 0, 0) := by
  have hm : mx_mt 346 = some (yX11_isMemberRight, cX11_isMemberRight, 7, (some .boolean)) := mt_X11_isMemberRight
  unfold j_X11_isMemberRight_114 at hf
  refine sx_ic (v := 0) hm dX11_isMemberRight_114 (by decide) ?_
  exact j_X11_isMemberRight_115_ok X hF hL nn l1 0 h hf
set_option maxHeartbeats 4000000 in
set_option maxRecDepth 20000 in
theorem j_X11_isMemberRight_87_ok (X : Nat × (Nat → Int32)) {F L : Nat} (hF : 2 ≤ F) (hL : 43 ≤ L) (nn : Nat) (l1 : Int32) (l3 : Int32) (l4 : Int32) (l5 : (Option Nat)) (s0 : Int32) (s1 : Int32) (h : mx_H) {r : (Int32 × mx_H)} (hf : j_X11_isMemberRight_87 nn l1 l3 l4 l5 s0 s1 h = some r) : mx_S X F L 346 87 [(1, .int l1), (3, .int l3), (4, .int l4), (5, va_rf l5)] [.int s0, .int s1] h 0 0 (some (.int r.1), r.2, 0, 0) := by
  have hm : mx_mt 346 = some (yX11_isMemberRight, cX11_isMemberRight, 7, (some .boolean)) := mt_X11_isMemberRight
  unfold j_X11_isMemberRight_87 at hf
  rcases mx_if_el hf with ⟨c9, hf⟩ | ⟨c9, hf⟩
  · refine sb_ic_eq hm dX11_isMemberRight_87 (tgt := 92) rfl (fun _ => ?_) (fun z => absurd c9 z)
    refine mx_S.pu (pc2 := 93) (lv2 := [(1, .int l1), (3, .int l3), (4, .int l4), (5, va_rf l5)]) (st2 := [.int l3]) hm dX11_isMemberRight_92 rfl ?_
    rcases mx_if_el hf with ⟨c8, hf⟩ | ⟨c8, hf⟩
    · refine sb_if_eq hm dX11_isMemberRight_93 (tgt := 114) rfl (fun _ => ?_) (fun z => absurd c8 z)
      refine mx_S.ext [(1, .int l1)] (mx_sub_pos [0] rfl (show ([1, 3, 4, 5] : List Nat).Nodup by decide)) ?_
      exact j_X11_isMemberRight_114_ok X hF hL nn l1 h hf
    · refine sb_if_eq hm dX11_isMemberRight_93 (tgt := 114) rfl (fun z => absurd z c8) (fun _ => ?_)
      refine sx_ao hm dX11_isMemberRight_96 rfl ?_
      refine mx_S.pu (pc2 := 100) (lv2 := [(1, .int l1), (3, .int l3), (4, .int l4), (5, va_rf l5)]) (st2 := [.int l4, va_rf l5]) hm dX11_isMemberRight_98 rfl ?_
      refine sx_bi (v := 12) hm dX11_isMemberRight_100 (by decide) ?_
      replace hf := xl_el hf; obtain ⟨v3, e_v3, hf⟩ := hf
      refine sx_irem (v := v3) hm dX11_isMemberRight_102 (by decide) e_v3 ?_
      clear e_v3
      refine sx_ic (v := 0) hm dX11_isMemberRight_103 (by decide) ?_
      replace hf := mx_sv_el hf; obtain ⟨b4, e_b4, hf⟩ := hf
      rw [show va_rf l5 = Value.ref b4 by rw [e_b4]; rfl]
      clear e_b4
      replace hf := mx_gd_el hf; obtain ⟨c5, hf⟩ := hf
      replace hf := mx_sv_el hf; obtain ⟨u6, e_u6, hf⟩ := hf
      refine sx_cv hm dX11_isMemberRight_104 rs_RX11_146 mt_X3_of [.int v3, .int 0] [] (b := b4) (ci := 3) rfl rfl rfl c5 (Nat.le_of_ble_eq_true rfl) (Nat.le_of_ble_eq_true rfl) (by omega) (by omega) (f_X3_of_ok X (by omega) (by omega) nn b4 v3 0 h e_u6) ?_
      clear e_u6
      show mx_S X F L 346 107 [(1, .int l1), (3, .int l3), (4, .int l4), (5, .ref b4)] [.int u6.1] u6.2 0 0 (some (.int r.1), r.2, 0, 0)
      rcases mx_if_el hf with ⟨c7, hf⟩ | ⟨c7, hf⟩
      · refine sb_if_eq hm dX11_isMemberRight_107 (tgt := 114) rfl (fun _ => ?_) (fun z => absurd c7 z)
        refine mx_S.ext [(1, .int l1)] (mx_sub_pos [0] rfl (show ([1, 3, 4, 5] : List Nat).Nodup by decide)) ?_
        exact j_X11_isMemberRight_114_ok X hF hL nn l1 u6.2 hf
      · refine sb_if_eq hm dX11_isMemberRight_107 (tgt := 114) rfl (fun z => absurd z c7) (fun _ => ?_)
        refine sx_ic (v := 1) hm dX11_isMemberRight_110 (by decide) ?_
        refine mx_S.pu (pc2 := 115) (lv2 := [(1, .int l1), (3, .int l3), (4, .int l4), (5, .ref b4)]) (st2 := [.int 1]) hm dX11_isMemberRight_111 rfl ?_
        refine mx_S.ext [(1, .int l1)] (mx_sub_pos [0] rfl (show ([1, 3, 4, 5] : List Nat).Nodup by decide)) ?_
        exact j_X11_isMemberRight_115_ok X hF hL nn l1 1 u6.2 hf
  · refine sb_ic_eq hm dX11_isMemberRight_87 (tgt := 92) rfl (fun z => absurd z c9) (fun _ => ?_)
    refine sx_ic (v := 0) hm dX11_isMemberRight_90 (by decide) ?_
    cases hf
    exact sx_ire hm dX11_isMemberRight_91 rfl (by decide)
set_option maxHeartbeats 4000000 in
set_option maxRecDepth 20000 in
theorem j_X11_isMemberRight_56_ok (X : Nat × (Nat → Int32)) {F L : Nat} (hF : 2 ≤ F) (hL : 43 ≤ L) (nn : Nat) (l0 : Nat) (l1 : Int32) (l3 : Int32) (s0 : Int32) (h : mx_H) {r : (Int32 × mx_H)} (hf : j_X11_isMemberRight_56 nn l0 l1 l3 s0 h = some r) : mx_S X F L 346 56 [(0, .ref l0), (1, .int l1), (3, .int l3)] [.int s0] h 0 0 (some (.int r.1), r.2, 0, 0) := by
  have hm : mx_mt 346 = some (yX11_isMemberRight, cX11_isMemberRight, 7, (some .boolean)) := mt_X11_isMemberRight
  unfold j_X11_isMemberRight_56 at hf
  refine mx_S.pu (pc2 := 58) (lv2 := [(4, .int s0), (0, .ref l0), (1, .int l1), (3, .int l3)]) (st2 := []) hm dX11_isMemberRight_56 rfl ?_
  refine mx_S.pu (pc2 := 59) (lv2 := [(4, .int s0), (0, .ref l0), (1, .int l1), (3, .int l3)]) (st2 := [.ref l0]) hm dX11_isMemberRight_58 rfl ?_
  replace hf := mx_sv_el hf; obtain ⟨v10, e_v10, hf⟩ := hf
  refine sx_get hm dX11_isMemberRight_59 rs_RX11_50 (xgr_el e_v10) ?_
  clear e_v10
  refine mx_S.pu (pc2 := 64) (lv2 := [(4, .int s0), (0, .ref l0), (1, .int l1), (3, .int l3)]) (st2 := [.int s0, .ref v10]) hm dX11_isMemberRight_62 rfl ?_
  replace hf := mx_gd_el hf; obtain ⟨c11, hf⟩ := hf
  replace hf := mx_sv_el hf; obtain ⟨u12, e_u12, hf⟩ := hf
  refine sx_cv hm dX11_isMemberRight_64 rs_RX11_161 mt_X7_imageOfMember [.int s0] [] (b := v10) (ci := 7) rfl rfl rfl c11 (Nat.le_of_ble_eq_true rfl) (Nat.le_of_ble_eq_true rfl) (by omega) (by omega) (f_X7_imageOfMember_ok X (by omega) (by omega) nn v10 s0 h e_u12) ?_
  clear e_u12
  show mx_S X F L 346 67 [(4, .int s0), (0, .ref l0), (1, .int l1), (3, .int l3)] [va_rf u12.1] u12.2 0 0 (some (.int r.1), r.2, 0, 0)
  refine sx_so (lv2 := [(5, va_rf u12.1), (4, .int s0), (0, .ref l0), (1, .int l1), (3, .int l3)]) hm dX11_isMemberRight_67 rfl rfl ?_
  refine sx_ao hm dX11_isMemberRight_69 rfl ?_
  rcases mx_oc_el hf with ⟨c14, hf⟩ | ⟨b13, c14, hf⟩
  · refine sx_ifnull_n hm dX11_isMemberRight_71 c14 (tgt := 90) rfl ?_
    refine sx_ic (v := 0) hm dX11_isMemberRight_90 (by decide) ?_
    cases hf
    exact sx_ire hm dX11_isMemberRight_91 rfl (by decide)
  · refine sx_ifnull_s hm dX11_isMemberRight_71 c14 (tgt := 90) rfl ?_
    rw [show va_rf u12.1 = Value.ref b13 by rw [c14]; rfl]
    refine mx_S.pu (pc2 := 75) (lv2 := [(5, .ref b13), (4, .int s0), (0, .ref l0), (1, .int l1), (3, .int l3)]) (st2 := [.int l3]) hm dX11_isMemberRight_74 rfl ?_
    refine mx_S.pu (pc2 := 76) (lv2 := [(5, .ref b13), (4, .int s0), (0, .ref l0), (1, .int l1), (3, .int l3)]) (st2 := [.int l1, .int l3]) hm dX11_isMemberRight_75 rfl ?_
    refine sx_si (v := 182) hm dX11_isMemberRight_76 (by decide) ?_
    rcases mx_if_el hf with ⟨c15, hf⟩ | ⟨c15, hf⟩
    · refine sb_ic_lt hm dX11_isMemberRight_79 (tgt := 86) rfl (fun _ => ?_) (fun z => absurd c15 z)
      refine sx_ic (v := 0) hm dX11_isMemberRight_86 (by decide) ?_
      refine mx_S.ext [(1, .int l1), (3, .int l3), (4, .int s0), (5, va_rf (some b13))] (mx_sub_pos [3, 4, 1, 0] rfl (show ([5, 4, 0, 1, 3] : List Nat).Nodup by decide)) ?_
      exact j_X11_isMemberRight_87_ok X hF hL nn l1 l3 s0 (some b13) 0 l3 u12.2 hf
    · refine sb_ic_lt hm dX11_isMemberRight_79 (tgt := 86) rfl (fun z => absurd z c15) (fun _ => ?_)
      refine sx_ic (v := 1) hm dX11_isMemberRight_82 (by decide) ?_
      refine mx_S.pu (pc2 := 87) (lv2 := [(5, .ref b13), (4, .int s0), (0, .ref l0), (1, .int l1), (3, .int l3)]) (st2 := [.int 1, .int l3]) hm dX11_isMemberRight_83 rfl ?_
      refine mx_S.ext [(1, .int l1), (3, .int l3), (4, .int s0), (5, va_rf (some b13))] (mx_sub_pos [3, 4, 1, 0] rfl (show ([5, 4, 0, 1, 3] : List Nat).Nodup by decide)) ?_
      exact j_X11_isMemberRight_87_ok X hF hL nn l1 l3 s0 (some b13) 1 l3 u12.2 hf
set_option maxHeartbeats 4000000 in
set_option maxRecDepth 20000 in
theorem j_X11_isMemberRight_33_ok (X : Nat × (Nat → Int32)) {F L : Nat} (hF : 2 ≤ F) (hL : 43 ≤ L) (nn : Nat) (l0 : Nat) (l1 : Int32) (l2 : Int32) (s0 : Int32) (h : mx_H) {r : (Int32 × mx_H)} (hf : j_X11_isMemberRight_33 nn l0 l1 l2 s0 h = some r) : mx_S X F L 346 33 [(0, .ref l0), (1, .int l1), (2, .int l2)] [.int s0] h 0 0 (some (.int r.1), r.2, 0, 0) := by
  have hm : mx_mt 346 = some (yX11_isMemberRight, cX11_isMemberRight, 7, (some .boolean)) := mt_X11_isMemberRight
  unfold j_X11_isMemberRight_33 at hf
  refine mx_S.pu (pc2 := 34) (lv2 := [(3, .int s0), (0, .ref l0), (1, .int l1), (2, .int l2)]) (st2 := []) hm dX11_isMemberRight_33 rfl ?_
  refine mx_S.pu (pc2 := 35) (lv2 := [(3, .int s0), (0, .ref l0), (1, .int l1), (2, .int l2)]) (st2 := [.ref l0]) hm dX11_isMemberRight_34 rfl ?_
  replace hf := mx_sv_el hf; obtain ⟨v16, e_v16, hf⟩ := hf
  refine sx_get hm dX11_isMemberRight_35 rs_RX11_62 (xgr_el e_v16) ?_
  clear e_v16
  refine mx_S.pu (pc2 := 39) (lv2 := [(3, .int s0), (0, .ref l0), (1, .int l1), (2, .int l2)]) (st2 := [.int l2, .ref v16]) hm dX11_isMemberRight_38 rfl ?_
  replace hf := mx_gd_el hf; obtain ⟨c17, hf⟩ := hf
  replace hf := mx_sv_el hf; obtain ⟨u18, e_u18, hf⟩ := hf
  refine sx_cv hm dX11_isMemberRight_39 rs_RX11_167 mt_X3_tagOf [.int l2] [] (b := v16) (ci := 3) rfl rfl rfl c17 (Nat.le_of_ble_eq_true rfl) (Nat.le_of_ble_eq_true rfl) (by omega) (by omega) (f_X3_tagOf_ok X (by omega) (by omega) nn v16 l2 h e_u18) ?_
  clear e_u18
  show mx_S X F L 346 42 [(3, .int s0), (0, .ref l0), (1, .int l1), (2, .int l2)] [.int u18.1] u18.2 0 0 (some (.int r.1), r.2, 0, 0)
  refine sx_ic (v := 4) hm dX11_isMemberRight_42 (by decide) ?_
  rcases mx_if_el hf with ⟨c21, hf⟩ | ⟨c21, hf⟩
  · refine sb_ic_ne hm dX11_isMemberRight_43 (tgt := 55) rfl (fun _ => ?_) (fun z => absurd c21 z)
    refine sx_ic (v := (-1)) hm dX11_isMemberRight_55 (by decide) ?_
    refine mx_S.ext [(0, .ref l0), (1, .int l1), (3, .int s0)] (mx_sub_pos [1, 2, 0] rfl (show ([3, 0, 1, 2] : List Nat).Nodup by decide)) ?_
    exact j_X11_isMemberRight_56_ok X hF hL nn l0 l1 s0 (-1) u18.2 hf
  · refine sb_ic_ne hm dX11_isMemberRight_43 (tgt := 55) rfl (fun z => absurd z c21) (fun _ => ?_)
    refine mx_S.pu (pc2 := 47) (lv2 := [(3, .int s0), (0, .ref l0), (1, .int l1), (2, .int l2)]) (st2 := [.ref l0]) hm dX11_isMemberRight_46 rfl ?_
    replace hf := mx_sv_el hf; obtain ⟨v19, e_v19, hf⟩ := hf
    refine sx_get hm dX11_isMemberRight_47 rs_RX11_27 (xgr_el e_v19) ?_
    clear e_v19
    refine mx_S.pu (pc2 := 51) (lv2 := [(3, .int s0), (0, .ref l0), (1, .int l1), (2, .int l2)]) (st2 := [.int l2, .ref v19]) hm dX11_isMemberRight_50 rfl ?_
    replace hf := mx_sv_el hf; obtain ⟨v20, e_v20, hf⟩ := hf
    refine sx_ald hm dX11_isMemberRight_51 e_v20 ?_
    clear e_v20
    refine mx_S.pu (pc2 := 56) (lv2 := [(3, .int s0), (0, .ref l0), (1, .int l1), (2, .int l2)]) (st2 := [.int v20]) hm dX11_isMemberRight_52 rfl ?_
    refine mx_S.ext [(0, .ref l0), (1, .int l1), (3, .int s0)] (mx_sub_pos [1, 2, 0] rfl (show ([3, 0, 1, 2] : List Nat).Nodup by decide)) ?_
    exact j_X11_isMemberRight_56_ok X hF hL nn l0 l1 s0 v20 u18.2 hf
set_option maxHeartbeats 4000000 in
set_option maxRecDepth 20000 in
theorem f_X11_isMemberRight_ok (X : Nat × (Nat → Int32)) {F L : Nat} (hF : 2 ≤ F) (hL : 43 ≤ L) (nn : Nat) (a0 : Nat) (a1 : Int32) (a2 : Int32) (h : mx_H) {r : (Int32 × mx_H)} (hf : f_X11_isMemberRight nn a0 a1 a2 h = some r) : mx_R X F L 346 [.ref a0, .int a1, .int a2] h (some (.int r.1), r.2, 0, 0) := by
  have hm : mx_mt 346 = some (yX11_isMemberRight, cX11_isMemberRight, 7, (some .boolean)) := mt_X11_isMemberRight
  show mx_S X F L 346 0 [(0, .ref a0), (1, .int a1), (2, .int a2)] [] h 0 0 (some (.int r.1), r.2, 0, 0)
  unfold f_X11_isMemberRight at hf
  refine mx_S.pu (pc2 := 1) (lv2 := [(0, .ref a0), (1, .int a1), (2, .int a2)]) (st2 := [.ref a0]) hm dX11_isMemberRight_0 rfl ?_
  replace hf := mx_sv_el hf; obtain ⟨v22, e_v22, hf⟩ := hf
  refine sx_get hm dX11_isMemberRight_1 rs_RX11_62 (xgr_el e_v22) ?_
  clear e_v22
  refine mx_S.pu (pc2 := 5) (lv2 := [(0, .ref a0), (1, .int a1), (2, .int a2)]) (st2 := [.ref a0, .ref v22]) hm dX11_isMemberRight_4 rfl ?_
  replace hf := mx_sv_el hf; obtain ⟨v23, e_v23, hf⟩ := hf
  refine sx_get hm dX11_isMemberRight_5 rs_RX11_62 (xgr_el e_v23) ?_
  clear e_v23
  refine mx_S.pu (pc2 := 9) (lv2 := [(0, .ref a0), (1, .int a1), (2, .int a2)]) (st2 := [.ref a0, .ref v23, .ref v22]) hm dX11_isMemberRight_8 rfl ?_
  replace hf := mx_sv_el hf; obtain ⟨v24, e_v24, hf⟩ := hf
  refine sx_get hm dX11_isMemberRight_9 rs_RX11_62 (xgr_el e_v24) ?_
  clear e_v24
  refine mx_S.pu (pc2 := 13) (lv2 := [(0, .ref a0), (1, .int a1), (2, .int a2)]) (st2 := [.int a2, .ref v24, .ref v23, .ref v22]) hm dX11_isMemberRight_12 rfl ?_
  refine sx_ic (v := 2) hm dX11_isMemberRight_13 (by decide) ?_
  replace hf := mx_gd_el hf; obtain ⟨c25, hf⟩ := hf
  replace hf := mx_sv_el hf; obtain ⟨u26, e_u26, hf⟩ := hf
  refine sx_cv hm dX11_isMemberRight_14 rs_RX11_177 mt_X3_partOf [.int a2, .int 2] [.ref v23, .ref v22] (b := v24) (ci := 3) rfl rfl rfl c25 (Nat.le_of_ble_eq_true rfl) (Nat.le_of_ble_eq_true rfl) (by omega) (by omega) (f_X3_partOf_ok X (by omega) (by omega) nn v24 a2 2 h e_u26) ?_
  clear e_u26
  show mx_S X F L 346 17 [(0, .ref a0), (1, .int a1), (2, .int a2)] [.int u26.1, .ref v23, .ref v22] u26.2 0 0 (some (.int r.1), r.2, 0, 0)
  replace hf := mx_gd_el hf; obtain ⟨c27, hf⟩ := hf
  replace hf := mx_sv_el hf; obtain ⟨u28, e_u28, hf⟩ := hf
  refine sx_cv hm dX11_isMemberRight_17 rs_RX11_180 mt_X3_textAt [.int u26.1] [.ref v22] (b := v23) (ci := 3) rfl rfl rfl c27 (Nat.le_of_ble_eq_true rfl) (Nat.le_of_ble_eq_true rfl) (by omega) (by omega) (f_X3_textAt_ok X (by omega) (by omega) nn v23 u26.1 u26.2 e_u28) ?_
  clear e_u28
  show mx_S X F L 346 20 [(0, .ref a0), (1, .int a1), (2, .int a2)] [.int u28.1, .ref v22] u28.2 0 0 (some (.int r.1), r.2, 0, 0)
  replace hf := mx_gd_el hf; obtain ⟨c29, hf⟩ := hf
  replace hf := mx_sv_el hf; obtain ⟨u30, e_u30, hf⟩ := hf
  refine sx_cv hm dX11_isMemberRight_20 rs_RX11_183 mt_X3_byteAt [.int u28.1] [] (b := v22) (ci := 3) rfl rfl rfl c29 (Nat.le_of_ble_eq_true rfl) (Nat.le_of_ble_eq_true rfl) (by omega) (by omega) (f_X3_byteAt_ok X (by omega) (by omega) nn v22 u28.1 u28.2 e_u30) ?_
  clear e_u30
  show mx_S X F L 346 23 [(0, .ref a0), (1, .int a1), (2, .int a2)] [.int u30.1] u30.2 0 0 (some (.int r.1), r.2, 0, 0)
  refine sx_bi (v := 40) hm dX11_isMemberRight_23 (by decide) ?_
  rcases mx_if_el hf with ⟨c31, hf⟩ | ⟨c31, hf⟩
  · refine sb_ic_ne hm dX11_isMemberRight_25 (tgt := 32) rfl (fun _ => ?_) (fun z => absurd c31 z)
    refine sx_ic (v := 0) hm dX11_isMemberRight_32 (by decide) ?_
    exact j_X11_isMemberRight_33_ok X hF hL nn a0 a1 a2 0 u30.2 hf
  · refine sb_ic_ne hm dX11_isMemberRight_25 (tgt := 32) rfl (fun z => absurd z c31) (fun _ => ?_)
    refine sx_ic (v := 1) hm dX11_isMemberRight_28 (by decide) ?_
    refine mx_S.pu (pc2 := 33) (lv2 := [(0, .ref a0), (1, .int a1), (2, .int a2)]) (st2 := [.int 1]) hm dX11_isMemberRight_29 rfl ?_
    exact j_X11_isMemberRight_33_ok X hF hL nn a0 a1 a2 1 u30.2 hf
set_option maxHeartbeats 4000000 in
set_option maxRecDepth 20000 in
theorem j_X11_isConstantRight_152_ok (X : Nat × (Nat → Int32)) {F L : Nat} (hF : 3 ≤ F) (hL : 69 ≤ L) (nn : Nat) (l0 : Nat) (l1 : Int32) (l2 : Int32) (h : mx_H) {r : (Int32 × mx_H)} (hf : j_X11_isConstantRight_152 nn l0 l1 l2 h = some r) : mx_S X F L 345 152 [(0, .ref l0), (1, .int l1), (2, .int l2)] [] h 0 0 (some (.int r.1), r.2, 0, 0) := by
  have hm : mx_mt 345 = some (yX11_isConstantRight, cX11_isConstantRight, 3, (some .boolean)) := mt_X11_isConstantRight
  unfold j_X11_isConstantRight_152 at hf
  refine mx_S.pu (pc2 := 153) (lv2 := [(0, .ref l0), (1, .int l1), (2, .int l2)]) (st2 := [.ref l0]) hm dX11_isConstantRight_152 rfl ?_
  refine mx_S.pu (pc2 := 154) (lv2 := [(0, .ref l0), (1, .int l1), (2, .int l2)]) (st2 := [.int l1, .ref l0]) hm dX11_isConstantRight_153 rfl ?_
  refine mx_S.pu (pc2 := 155) (lv2 := [(0, .ref l0), (1, .int l1), (2, .int l2)]) (st2 := [.int l2, .int l1, .ref l0]) hm dX11_isConstantRight_154 rfl ?_
  replace hf := mx_gd_el hf; obtain ⟨c1, hf⟩ := hf
  replace hf := mx_sv_el hf; obtain ⟨u2, e_u2, hf⟩ := hf
  refine sx_cv hm dX11_isConstantRight_155 rs_RX11_310 mt_X11_isMemberRight [.int l1, .int l2] [] (b := l0) (ci := 11) rfl rfl rfl c1 (Nat.le_of_ble_eq_true rfl) (Nat.le_of_ble_eq_true rfl) (by omega) (by omega) (f_X11_isMemberRight_ok X (by omega) (by omega) nn l0 l1 l2 h e_u2) ?_
  clear e_u2
  show mx_S X F L 345 158 [(0, .ref l0), (1, .int l1), (2, .int l2)] [.int u2.1] u2.2 0 0 (some (.int r.1), r.2, 0, 0)
  replace hf := mx_gd_el hf; obtain ⟨c3, hf⟩ := hf
  cases hf
  exact sx_ire hm dX11_isConstantRight_158 rfl (xbq_ok c3).1
set_option maxHeartbeats 4000000 in
set_option maxRecDepth 20000 in
theorem j_X11_isConstantRight_110_ok (X : Nat × (Nat → Int32)) {F L : Nat} (hF : 3 ≤ F) (hL : 69 ≤ L) (nn : Nat) (l0 : Nat) (l2 : Int32) (h : mx_H) {r : (Int32 × mx_H)} (hf : j_X11_isConstantRight_110 nn l0 l2 h = some r) : mx_S X F L 345 110 [(0, .ref l0), (2, .int l2)] [] h 0 0 (some (.int r.1), r.2, 0, 0) := by
  have hm : mx_mt 345 = some (yX11_isConstantRight, cX11_isConstantRight, 3, (some .boolean)) := mt_X11_isConstantRight
  unfold j_X11_isConstantRight_110 at hf
  refine mx_S.pu (pc2 := 111) (lv2 := [(0, .ref l0), (2, .int l2)]) (st2 := [.ref l0]) hm dX11_isConstantRight_110 rfl ?_
  replace hf := mx_sv_el hf; obtain ⟨v4, e_v4, hf⟩ := hf
  refine sx_get hm dX11_isConstantRight_111 rs_RX11_62 (xgr_el e_v4) ?_
  clear e_v4
  refine mx_S.pu (pc2 := 115) (lv2 := [(0, .ref l0), (2, .int l2)]) (st2 := [.int l2, .ref v4]) hm dX11_isConstantRight_114 rfl ?_
  replace hf := mx_gd_el hf; obtain ⟨c5, hf⟩ := hf
  replace hf := mx_sv_el hf; obtain ⟨u6, e_u6, hf⟩ := hf
  refine sx_cv hm dX11_isConstantRight_115 rs_RX11_167 mt_X3_tagOf [.int l2] [] (b := v4) (ci := 3) rfl rfl rfl c5 (Nat.le_of_ble_eq_true rfl) (Nat.le_of_ble_eq_true rfl) (by omega) (by omega) (f_X3_tagOf_ok X (by omega) (by omega) nn v4 l2 h e_u6) ?_
  clear e_u6
  show mx_S X F L 345 118 [(0, .ref l0), (2, .int l2)] [.int u6.1] u6.2 0 0 (some (.int r.1), r.2, 0, 0)
  refine sx_ic (v := 3) hm dX11_isConstantRight_118 (by decide) ?_
  rcases mx_if_el hf with ⟨c11, hf⟩ | ⟨c11, hf⟩
  · refine sb_ic_ne hm dX11_isConstantRight_119 (tgt := 138) rfl (fun _ => ?_) (fun z => absurd c11 z)
    refine sx_ic (v := 0) hm dX11_isConstantRight_138 (by decide) ?_
    cases hf
    exact sx_ire hm dX11_isConstantRight_139 rfl (by decide)
  · refine sb_ic_ne hm dX11_isConstantRight_119 (tgt := 138) rfl (fun z => absurd z c11) (fun _ => ?_)
    refine mx_S.pu (pc2 := 123) (lv2 := [(0, .ref l0), (2, .int l2)]) (st2 := [.ref l0]) hm dX11_isConstantRight_122 rfl ?_
    replace hf := mx_sv_el hf; obtain ⟨v7, e_v7, hf⟩ := hf
    refine sx_get hm dX11_isConstantRight_123 rs_RX11_23 (xgr_el e_v7) ?_
    clear e_v7
    refine mx_S.pu (pc2 := 127) (lv2 := [(0, .ref l0), (2, .int l2)]) (st2 := [.int l2, .ref v7]) hm dX11_isConstantRight_126 rfl ?_
    replace hf := mx_sv_el hf; obtain ⟨v8, e_v8, hf⟩ := hf
    refine sx_ald hm dX11_isConstantRight_127 e_v8 ?_
    clear e_v8
    replace hf := mx_sv_el hf; obtain ⟨u9, e_u9, hf⟩ := hf
    refine sx_cs hm dX11_isConstantRight_128 rs_RX11_307 mt_X4_isClass [.int v8] [] rfl rfl (Nat.le_of_ble_eq_true rfl) (Nat.le_of_ble_eq_true rfl) (by omega) (by omega) (f_X4_isClass_ok X (by omega) (by omega) nn v8 u6.2 e_u9) ?_
    clear e_u9
    show mx_S X F L 345 131 [(0, .ref l0), (2, .int l2)] [.int u9.1] u9.2 0 0 (some (.int r.1), r.2, 0, 0)
    rcases mx_if_el hf with ⟨c10, hf⟩ | ⟨c10, hf⟩
    · refine sb_if_eq hm dX11_isConstantRight_131 (tgt := 138) rfl (fun _ => ?_) (fun z => absurd c10 z)
      refine sx_ic (v := 0) hm dX11_isConstantRight_138 (by decide) ?_
      cases hf
      exact sx_ire hm dX11_isConstantRight_139 rfl (by decide)
    · refine sb_if_eq hm dX11_isConstantRight_131 (tgt := 138) rfl (fun z => absurd z c10) (fun _ => ?_)
      refine sx_ic (v := 1) hm dX11_isConstantRight_134 (by decide) ?_
      refine mx_S.pu (pc2 := 139) (lv2 := [(0, .ref l0), (2, .int l2)]) (st2 := [.int 1]) hm dX11_isConstantRight_135 rfl ?_
      cases hf
      exact sx_ire hm dX11_isConstantRight_139 rfl (by decide)
set_option maxHeartbeats 4000000 in
set_option maxRecDepth 20000 in
theorem f_X11_isConstantRight_ok (X : Nat × (Nat → Int32)) {F L : Nat} (hF : 3 ≤ F) (hL : 69 ≤ L) (nn : Nat) (a0 : Nat) (a1 : Int32) (a2 : Int32) (h : mx_H) {r : (Int32 × mx_H)} (hf : f_X11_isConstantRight nn a0 a1 a2 h = some r) : mx_R X F L 345 [.ref a0, .int a1, .int a2] h (some (.int r.1), r.2, 0, 0) := by
  have hm : mx_mt 345 = some (yX11_isConstantRight, cX11_isConstantRight, 3, (some .boolean)) := mt_X11_isConstantRight
  show mx_S X F L 345 0 [(0, .ref a0), (1, .int a1), (2, .int a2)] [] h 0 0 (some (.int r.1), r.2, 0, 0)
  unfold f_X11_isConstantRight at hf
  refine mx_S.pu (pc2 := 1) (lv2 := [(0, .ref a0), (1, .int a1), (2, .int a2)]) (st2 := [.int a1]) hm dX11_isConstantRight_0 rfl ?_
  rcases mx_if_el hf with ⟨n_0, hf⟩ | ⟨n_0, hf⟩
  · refine sx_look hm dX11_isConstantRight_1 rfl (off := 91) (by rw [n_0]; rfl) (tgt := 92) rfl ?_
    clear n_0
    refine mx_S.pu (pc2 := 93) (lv2 := [(0, .ref a0), (1, .int a1), (2, .int a2)]) (st2 := [.ref a0]) hm dX11_isConstantRight_92 rfl ?_
    replace hf := mx_sv_el hf; obtain ⟨v12, e_v12, hf⟩ := hf
    refine sx_get hm dX11_isConstantRight_93 rs_RX11_62 (xgr_el e_v12) ?_
    clear e_v12
    refine mx_S.pu (pc2 := 97) (lv2 := [(0, .ref a0), (1, .int a1), (2, .int a2)]) (st2 := [.int a2, .ref v12]) hm dX11_isConstantRight_96 rfl ?_
    replace hf := mx_gd_el hf; obtain ⟨c13, hf⟩ := hf
    replace hf := mx_sv_el hf; obtain ⟨u14, e_u14, hf⟩ := hf
    refine sx_cv hm dX11_isConstantRight_97 rs_RX11_167 mt_X3_tagOf [.int a2] [] (b := v12) (ci := 3) rfl rfl rfl c13 (Nat.le_of_ble_eq_true rfl) (Nat.le_of_ble_eq_true rfl) (by omega) (by omega) (f_X3_tagOf_ok X (by omega) (by omega) nn v12 a2 h e_u14) ?_
    clear e_u14
    show mx_S X F L 345 100 [(0, .ref a0), (1, .int a1), (2, .int a2)] [.int u14.1] u14.2 0 0 (some (.int r.1), r.2, 0, 0)
    refine sx_ic (v := 2) hm dX11_isConstantRight_100 (by decide) ?_
    rcases mx_if_el hf with ⟨c15, hf⟩ | ⟨c15, hf⟩
    · refine sb_ic_ne hm dX11_isConstantRight_101 (tgt := 108) rfl (fun _ => ?_) (fun z => absurd c15 z)
      refine sx_ic (v := 0) hm dX11_isConstantRight_108 (by decide) ?_
      cases hf
      exact sx_ire hm dX11_isConstantRight_109 rfl (by decide)
    · refine sb_ic_ne hm dX11_isConstantRight_101 (tgt := 108) rfl (fun z => absurd z c15) (fun _ => ?_)
      refine sx_ic (v := 1) hm dX11_isConstantRight_104 (by decide) ?_
      refine mx_S.pu (pc2 := 109) (lv2 := [(0, .ref a0), (1, .int a1), (2, .int a2)]) (st2 := [.int 1]) hm dX11_isConstantRight_105 rfl ?_
      cases hf
      exact sx_ire hm dX11_isConstantRight_109 rfl (by decide)
  · rcases mx_if_el hf with ⟨n_1, hf⟩ | ⟨n_1, hf⟩
    · refine sx_look hm dX11_isConstantRight_1 rfl (off := 151) (by rw [n_1]; rfl) (tgt := 152) rfl ?_
      clear n_0 n_1
      exact j_X11_isConstantRight_152_ok X hF hL nn a0 a1 a2 h hf
    · rcases mx_if_el hf with ⟨n_2, hf⟩ | ⟨n_2, hf⟩
      · refine sx_look hm dX11_isConstantRight_1 rfl (off := 151) (by rw [n_2]; rfl) (tgt := 152) rfl ?_
        clear n_0 n_1 n_2
        exact j_X11_isConstantRight_152_ok X hF hL nn a0 a1 a2 h hf
      · rcases mx_if_el hf with ⟨n_3, hf⟩ | ⟨n_3, hf⟩
        · refine sx_look hm dX11_isConstantRight_1 rfl (off := 151) (by rw [n_3]; rfl) (tgt := 152) rfl ?_
          clear n_0 n_1 n_2 n_3
          exact j_X11_isConstantRight_152_ok X hF hL nn a0 a1 a2 h hf
        · rcases mx_if_el hf with ⟨n_4, hf⟩ | ⟨n_4, hf⟩
          · refine sx_look hm dX11_isConstantRight_1 rfl (off := 151) (by rw [n_4]; rfl) (tgt := 152) rfl ?_
            clear n_0 n_1 n_2 n_3 n_4
            exact j_X11_isConstantRight_152_ok X hF hL nn a0 a1 a2 h hf
          · rcases mx_if_el hf with ⟨n_5, hf⟩ | ⟨n_5, hf⟩
            · refine sx_look hm dX11_isConstantRight_1 rfl (off := 109) (by rw [n_5]; rfl) (tgt := 110) rfl ?_
              clear n_0 n_1 n_2 n_3 n_4 n_5
              refine mx_S.ext [(0, .ref a0), (2, .int a2)] (mx_sub_pos [0, 2] rfl (show ([0, 1, 2] : List Nat).Nodup by decide)) ?_
              exact j_X11_isConstantRight_110_ok X hF hL nn a0 a2 h hf
            · rcases mx_if_el hf with ⟨n_6, hf⟩ | ⟨n_6, hf⟩
              · refine sx_look hm dX11_isConstantRight_1 rfl (off := 139) (by rw [n_6]; rfl) (tgt := 140) rfl ?_
                clear n_0 n_1 n_2 n_3 n_4 n_5 n_6
                refine mx_S.pu (pc2 := 141) (lv2 := [(0, .ref a0), (1, .int a1), (2, .int a2)]) (st2 := [.int a2]) hm dX11_isConstantRight_140 rfl ?_
                refine sx_bi (v := 10) hm dX11_isConstantRight_141 (by decide) ?_
                rcases mx_if_el hf with ⟨c16, hf⟩ | ⟨c16, hf⟩
                · refine sb_ic_ne hm dX11_isConstantRight_143 (tgt := 150) rfl (fun _ => ?_) (fun z => absurd c16 z)
                  refine sx_ic (v := 0) hm dX11_isConstantRight_150 (by decide) ?_
                  cases hf
                  exact sx_ire hm dX11_isConstantRight_151 rfl (by decide)
                · refine sb_ic_ne hm dX11_isConstantRight_143 (tgt := 150) rfl (fun z => absurd z c16) (fun _ => ?_)
                  refine sx_ic (v := 1) hm dX11_isConstantRight_146 (by decide) ?_
                  refine mx_S.pu (pc2 := 151) (lv2 := [(0, .ref a0), (1, .int a1), (2, .int a2)]) (st2 := [.int 1]) hm dX11_isConstantRight_147 rfl ?_
                  cases hf
                  exact sx_ire hm dX11_isConstantRight_151 rfl (by decide)
              · rcases mx_if_el hf with ⟨n_7, hf⟩ | ⟨n_7, hf⟩
                · refine sx_look hm dX11_isConstantRight_1 rfl (off := 109) (by rw [n_7]; rfl) (tgt := 110) rfl ?_
                  clear n_0 n_1 n_2 n_3 n_4 n_5 n_6 n_7
                  refine mx_S.ext [(0, .ref a0), (2, .int a2)] (mx_sub_pos [0, 2] rfl (show ([0, 1, 2] : List Nat).Nodup by decide)) ?_
                  exact j_X11_isConstantRight_110_ok X hF hL nn a0 a2 h hf
                · rcases mx_if_el hf with ⟨n_8, hf⟩ | ⟨n_8, hf⟩
                  · refine sx_look hm dX11_isConstantRight_1 rfl (off := 109) (by rw [n_8]; rfl) (tgt := 110) rfl ?_
                    clear n_0 n_1 n_2 n_3 n_4 n_5 n_6 n_7 n_8
                    refine mx_S.ext [(0, .ref a0), (2, .int a2)] (mx_sub_pos [0, 2] rfl (show ([0, 1, 2] : List Nat).Nodup by decide)) ?_
                    exact j_X11_isConstantRight_110_ok X hF hL nn a0 a2 h hf
                  · rcases mx_if_el hf with ⟨n_9, hf⟩ | ⟨n_9, hf⟩
                    · refine sx_look hm dX11_isConstantRight_1 rfl (off := 109) (by rw [n_9]; rfl) (tgt := 110) rfl ?_
                      clear n_0 n_1 n_2 n_3 n_4 n_5 n_6 n_7 n_8 n_9
                      refine mx_S.ext [(0, .ref a0), (2, .int a2)] (mx_sub_pos [0, 2] rfl (show ([0, 1, 2] : List Nat).Nodup by decide)) ?_
                      exact j_X11_isConstantRight_110_ok X hF hL nn a0 a2 h hf
                    · refine sx_look hm dX11_isConstantRight_1 rfl (off := 158) (by show Op.lookupswitch.offset [(18, 91), (180, 151), (181, 151), (182, 151), (184, 151), (187, 109), (188, 139), (189, 109), (192, 109), (193, 109)] 158 a1.toInt = _; rw [lv_osw n_0 (by decide), lv_osw n_1 (by decide), lv_osw n_2 (by decide), lv_osw n_3 (by decide), lv_osw n_4 (by decide), lv_osw n_5 (by decide), lv_osw n_6 (by decide), lv_osw n_7 (by decide), lv_osw n_8 (by decide), lv_osw n_9 (by decide)]; rfl) (tgt := 159) rfl ?_
                      refine sx_ic (v := 1) hm dX11_isConstantRight_159 (by decide) ?_
                      cases hf
                      exact sx_ire hm dX11_isConstantRight_160 rfl (by decide)
set_option maxHeartbeats 4000000 in
set_option maxRecDepth 20000 in
theorem f_X11_takeFrame_ok (X : Nat × (Nat → Int32)) {F L : Nat} (hF : 1 ≤ F) (hL : 60 ≤ L) (nn : Nat) (a0 : Nat) (a1 : Int32) (h : mx_H) {r : mx_H} (hf : f_X11_takeFrame nn a0 a1 h = some r) : mx_R X F L 343 [.ref a0, .int a1] h (none, r, 0, 0) := by
  have hm : mx_mt 343 = some (yX11_takeFrame, cX11_takeFrame, 3, none) := mt_X11_takeFrame
  show mx_S X F L 343 0 [(0, .ref a0), (1, .int a1)] [] h 0 0 (none, r, 0, 0)
  unfold f_X11_takeFrame at hf
  refine mx_S.pu (pc2 := 1) (lv2 := [(0, .ref a0), (1, .int a1)]) (st2 := [.int a1]) hm dX11_takeFrame_0 rfl ?_
  refine sx_bi (v := 64) hm dX11_takeFrame_1 (by decide) ?_
  replace hf := xl_el hf; obtain ⟨v1, e_v1, hf⟩ := hf
  refine mx_S.pu (pc2 := 4) (lv2 := [(0, .ref a0), (1, .int a1)]) (st2 := [.int v1]) hm dX11_takeFrame_3 (by rw [← e_v1]; rfl) ?_
  clear e_v1
  refine mx_S.pu (pc2 := 5) (lv2 := [(2, .int v1), (0, .ref a0), (1, .int a1)]) (st2 := []) hm dX11_takeFrame_4 rfl ?_
  refine mx_S.pu (pc2 := 6) (lv2 := [(2, .int v1), (0, .ref a0), (1, .int a1)]) (st2 := [.ref a0]) hm dX11_takeFrame_5 rfl ?_
  replace hf := mx_sv_el hf; obtain ⟨v2, e_v2, hf⟩ := hf
  refine sx_get hm dX11_takeFrame_6 rs_RX11_44 (xgr_el e_v2) ?_
  clear e_v2
  refine sx_si (v := 304) hm dX11_takeFrame_9 (by decide) ?_
  replace hf := mx_sv_el hf; obtain ⟨u3, e_u3, hf⟩ := hf
  refine sx_cs hm dX11_takeFrame_12 rs_RX11_258 mt_J7_fill_53178 [.ref v2, .int 304] [] rfl rfl (Nat.le_of_ble_eq_true rfl) (Nat.le_of_ble_eq_true rfl) (by omega) (by omega) (f_J7_fill_53178_ok X (by omega) (by omega) nn v2 304 h e_u3) ?_
  clear e_u3
  show mx_S X F L 343 15 [(2, .int v1), (0, .ref a0), (1, .int a1)] [] u3 0 0 (none, r, 0, 0)
  refine mx_S.pu (pc2 := 16) (lv2 := [(2, .int v1), (0, .ref a0), (1, .int a1)]) (st2 := [.ref a0]) hm dX11_takeFrame_15 rfl ?_
  replace hf := mx_sv_el hf; obtain ⟨v4, e_v4, hf⟩ := hf
  refine sx_get hm dX11_takeFrame_16 rs_RX11_41 (xgr_el e_v4) ?_
  clear e_v4
  refine mx_S.pu (pc2 := 20) (lv2 := [(2, .int v1), (0, .ref a0), (1, .int a1)]) (st2 := [.int v1, .ref v4]) hm dX11_takeFrame_19 rfl ?_
  refine sx_ic (v := 3) hm dX11_takeFrame_20 (by decide) ?_
  replace hf := xl_el hf; obtain ⟨v5, e_v5, hf⟩ := hf
  refine mx_S.pu (pc2 := 22) (lv2 := [(2, .int v1), (0, .ref a0), (1, .int a1)]) (st2 := [.int v5, .ref v4]) hm dX11_takeFrame_21 (by rw [← e_v5]; rfl) ?_
  clear e_v5
  refine mx_S.pu (pc2 := 23) (lv2 := [(2, .int v1), (0, .ref a0), (1, .int a1)]) (st2 := [.ref a0, .int v5, .ref v4]) hm dX11_takeFrame_22 rfl ?_
  replace hf := mx_sv_el hf; obtain ⟨v6, e_v6, hf⟩ := hf
  refine sx_get hm dX11_takeFrame_23 rs_RX11_44 (xgr_el e_v6) ?_
  clear e_v6
  refine sx_ic (v := 0) hm dX11_takeFrame_26 (by decide) ?_
  refine mx_S.pu (pc2 := 28) (lv2 := [(2, .int v1), (0, .ref a0), (1, .int a1)]) (st2 := [.ref a0, .int 0, .ref v6, .int v5, .ref v4]) hm dX11_takeFrame_27 rfl ?_
  replace hf := mx_sv_el hf; obtain ⟨v7, e_v7, hf⟩ := hf
  refine sx_get hm dX11_takeFrame_28 rs_RX11_41 (xgr_el e_v7) ?_
  clear e_v7
  refine mx_S.pu (pc2 := 32) (lv2 := [(2, .int v1), (0, .ref a0), (1, .int a1)]) (st2 := [.int v1, .ref v7, .int 0, .ref v6, .int v5, .ref v4]) hm dX11_takeFrame_31 rfl ?_
  refine sx_ic (v := 1) hm dX11_takeFrame_32 (by decide) ?_
  replace hf := xl_el hf; obtain ⟨v8, e_v8, hf⟩ := hf
  refine mx_S.pu (pc2 := 34) (lv2 := [(2, .int v1), (0, .ref a0), (1, .int a1)]) (st2 := [.int v8, .ref v7, .int 0, .ref v6, .int v5, .ref v4]) hm dX11_takeFrame_33 (by rw [← e_v8]; rfl) ?_
  clear e_v8
  replace hf := mx_sv_el hf; obtain ⟨v9, e_v9, hf⟩ := hf
  refine sx_ald hm dX11_takeFrame_34 e_v9 ?_
  clear e_v9
  replace hf := mx_sv_el hf; obtain ⟨h10, e_h10, hf⟩ := hf
  refine sx_copy hm dX11_takeFrame_35 rs_RX11_267 e_h10 (by omega) (Nat.le_trans (Nat.le_of_ble_eq_true rfl : _ ≤ 60) (by omega)) ?_
  clear e_h10
  refine mx_S.pu (pc2 := 39) (lv2 := [(2, .int v1), (0, .ref a0), (1, .int a1)]) (st2 := [.ref a0]) hm dX11_takeFrame_38 rfl ?_
  refine mx_S.pu (pc2 := 40) (lv2 := [(2, .int v1), (0, .ref a0), (1, .int a1)]) (st2 := [.ref a0, .ref a0]) hm dX11_takeFrame_39 rfl ?_
  replace hf := mx_sv_el hf; obtain ⟨v11, e_v11, hf⟩ := hf
  refine sx_get hm dX11_takeFrame_40 rs_RX11_41 (xgr_el e_v11) ?_
  clear e_v11
  refine mx_S.pu (pc2 := 44) (lv2 := [(2, .int v1), (0, .ref a0), (1, .int a1)]) (st2 := [.int v1, .ref v11, .ref a0]) hm dX11_takeFrame_43 rfl ?_
  refine sx_ic (v := 2) hm dX11_takeFrame_44 (by decide) ?_
  replace hf := xl_el hf; obtain ⟨v12, e_v12, hf⟩ := hf
  refine mx_S.pu (pc2 := 46) (lv2 := [(2, .int v1), (0, .ref a0), (1, .int a1)]) (st2 := [.int v12, .ref v11, .ref a0]) hm dX11_takeFrame_45 (by rw [← e_v12]; rfl) ?_
  clear e_v12
  replace hf := mx_sv_el hf; obtain ⟨v13, e_v13, hf⟩ := hf
  refine sx_ald hm dX11_takeFrame_46 e_v13 ?_
  clear e_v13
  replace hf := mx_sv_el hf; obtain ⟨h14, e_h14, hf⟩ := hf
  refine sx_put hm dX11_takeFrame_47 rs_RX11_255 ft_11_18 ⟨rfl, rfl⟩ (fun z => by cases z) e_h14 ?_
  clear e_h14
  refine mx_S.pu (pc2 := 51) (lv2 := [(2, .int v1), (0, .ref a0), (1, .int a1)]) (st2 := [.ref a0]) hm dX11_takeFrame_50 rfl ?_
  replace hf := mx_sv_el hf; obtain ⟨v15, e_v15, hf⟩ := hf
  refine sx_get hm dX11_takeFrame_51 rs_RX11_41 (xgr_el e_v15) ?_
  clear e_v15
  refine mx_S.pu (pc2 := 55) (lv2 := [(2, .int v1), (0, .ref a0), (1, .int a1)]) (st2 := [.int v1, .ref v15]) hm dX11_takeFrame_54 rfl ?_
  refine sx_bi (v := 33) hm dX11_takeFrame_55 (by decide) ?_
  replace hf := xl_el hf; obtain ⟨v16, e_v16, hf⟩ := hf
  refine mx_S.pu (pc2 := 58) (lv2 := [(2, .int v1), (0, .ref a0), (1, .int a1)]) (st2 := [.int v16, .ref v15]) hm dX11_takeFrame_57 (by rw [← e_v16]; rfl) ?_
  clear e_v16
  refine mx_S.pu (pc2 := 59) (lv2 := [(2, .int v1), (0, .ref a0), (1, .int a1)]) (st2 := [.ref a0, .int v16, .ref v15]) hm dX11_takeFrame_58 rfl ?_
  replace hf := mx_sv_el hf; obtain ⟨v17, e_v17, hf⟩ := hf
  refine sx_get hm dX11_takeFrame_59 rs_RX11_47 (xgr_el e_v17) ?_
  clear e_v17
  refine sx_ic (v := 0) hm dX11_takeFrame_62 (by decide) ?_
  refine mx_S.pu (pc2 := 64) (lv2 := [(2, .int v1), (0, .ref a0), (1, .int a1)]) (st2 := [.ref a0, .int 0, .ref v17, .int v16, .ref v15]) hm dX11_takeFrame_63 rfl ?_
  replace hf := mx_sv_el hf; obtain ⟨v18, e_v18, hf⟩ := hf
  refine sx_get hm dX11_takeFrame_64 rs_RX11_255 (xgi_el e_v18) ?_
  clear e_v18
  replace hf := mx_sv_el hf; obtain ⟨h19, e_h19, hf⟩ := hf
  refine sx_copy hm dX11_takeFrame_67 rs_RX11_267 e_h19 (by omega) (Nat.le_trans (Nat.le_of_ble_eq_true rfl : _ ≤ 60) (by omega)) ?_
  clear e_h19
  cases hf
  exact sx_ret hm dX11_takeFrame_70 rfl
set_option maxHeartbeats 4000000 in
set_option maxRecDepth 20000 in
theorem j_X11_proveState_139_ok (X : Nat × (Nat → Int32)) {F L : Nat} (hF : 4 ≤ F) (hL : 92 ≤ L) (nn : Nat) (l0 : Nat) (h : mx_H) {r : (Int32 × mx_H)} (hf : j_X11_proveState_139 nn l0 h = some r) : mx_S X F L 339 139 [(0, .ref l0)] [] h 0 0 (some (.int r.1), r.2, 0, 0) := by
  have hm : mx_mt 339 = some (yX11_proveState, cX11_proveState, 7, (some .int)) := mt_X11_proveState
  unfold j_X11_proveState_139 at hf
  refine mx_S.pu (pc2 := 140) (lv2 := [(0, .ref l0)]) (st2 := [.ref l0]) hm dX11_proveState_139 rfl ?_
  replace hf := mx_sv_el hf; obtain ⟨v1, e_v1, hf⟩ := hf
  refine sx_get hm dX11_proveState_140 rs_RX11_295 (xgi_el e_v1) ?_
  clear e_v1
  rcases mx_if_el hf with ⟨c2, hf⟩ | ⟨c2, hf⟩
  · refine sb_if_eq hm dX11_proveState_143 (tgt := 150) rfl (fun _ => ?_) (fun z => absurd c2 z)
    refine sx_bi (v := 12) hm dX11_proveState_150 (by decide) ?_
    cases hf
    exact sx_ire hm dX11_proveState_152 rfl rfl
  · refine sb_if_eq hm dX11_proveState_143 (tgt := 150) rfl (fun z => absurd z c2) (fun _ => ?_)
    refine sx_ic (v := 0) hm dX11_proveState_146 (by decide) ?_
    refine mx_S.pu (pc2 := 152) (lv2 := [(0, .ref l0)]) (st2 := [.int 0]) hm dX11_proveState_147 rfl ?_
    cases hf
    exact sx_ire hm dX11_proveState_152 rfl rfl
set_option maxHeartbeats 4000000 in
set_option maxRecDepth 20000 in
theorem j_X11_proveState_136_ok (X : Nat × (Nat → Int32)) {F L : Nat} (hF : 4 ≤ F) (hL : 92 ≤ L) (nn : Nat) (l0 : Nat) (s0 : Int32) (s1 : Nat) (h : mx_H) {r : (Int32 × mx_H)} (hf : j_X11_proveState_136 nn l0 s0 s1 h = some r) : mx_S X F L 339 136 [(0, .ref l0)] [.int s0, .ref s1] h 0 0 (some (.int r.1), r.2, 0, 0) := by
  have hm : mx_mt 339 = some (yX11_proveState, cX11_proveState, 7, (some .int)) := mt_X11_proveState
  unfold j_X11_proveState_136 at hf
  replace hf := mx_gd_el hf; obtain ⟨c3, hf⟩ := hf
  replace hf := mx_sv_el hf; obtain ⟨h4, e_h4, hf⟩ := hf
  refine sx_put hm dX11_proveState_136 rs_RX11_295 ft_11_19 (xbq_ok c3) (fun z => by cases z) e_h4 ?_
  clear e_h4
  exact j_X11_proveState_139_ok X hF hL nn l0 h4 hf
set_option maxHeartbeats 4000000 in
set_option maxRecDepth 20000 in
theorem j_X11_proveState_135_ok (X : Nat × (Nat → Int32)) {F L : Nat} (hF : 4 ≤ F) (hL : 92 ≤ L) (nn : Nat) (l0 : Nat) (s0 : Nat) (h : mx_H) {r : (Int32 × mx_H)} (hf : j_X11_proveState_135 nn l0 s0 h = some r) : mx_S X F L 339 135 [(0, .ref l0)] [.ref s0] h 0 0 (some (.int r.1), r.2, 0, 0) := by
  have hm : mx_mt 339 = some (yX11_proveState, cX11_proveState, 7, (some .int)) := mt_X11_proveState
  unfold j_X11_proveState_135 at hf
  refine sx_ic (v := 0) hm dX11_proveState_135 (by decide) ?_
  exact j_X11_proveState_136_ok X hF hL nn l0 0 s0 h hf
set_option maxHeartbeats 4000000 in
set_option maxRecDepth 20000 in
theorem j_X11_proveState_46_ok (X : Nat × (Nat → Int32)) {F L : Nat} (hF : 4 ≤ F) (hL : 92 ≤ L) (nn : Nat) (l0 : Nat) (l1 : Int32) (l2 : Int32) (h : mx_H) {r : (Int32 × mx_H)} (hf : j_X11_proveState_46 nn l0 l1 l2 h = some r) : mx_S X F L 339 46 [(0, .ref l0), (1, .int l1), (2, .int l2)] [] h 0 0 (some (.int r.1), r.2, 0, 0) := by
  have hm : mx_mt 339 = some (yX11_proveState, cX11_proveState, 7, (some .int)) := mt_X11_proveState
  unfold j_X11_proveState_46 at hf
  refine mx_S.pu (pc2 := 47) (lv2 := [(0, .ref l0), (1, .int l1), (2, .int l2)]) (st2 := [.ref l0]) hm dX11_proveState_46 rfl ?_
  refine mx_S.pu (pc2 := 48) (lv2 := [(0, .ref l0), (1, .int l1), (2, .int l2)]) (st2 := [.int l1, .ref l0]) hm dX11_proveState_47 rfl ?_
  replace hf := mx_gd_el hf; obtain ⟨c5, hf⟩ := hf
  replace hf := mx_sv_el hf; obtain ⟨u6, e_u6, hf⟩ := hf
  refine sx_cv hm dX11_proveState_48 rs_RX11_289 mt_X11_fitsHandlers [.int l1] [] (b := l0) (ci := 11) rfl rfl rfl c5 (Nat.le_of_ble_eq_true rfl) (Nat.le_of_ble_eq_true rfl) (by omega) (by omega) (f_X11_fitsHandlers_ok X (by omega) (by omega) nn l0 l1 h e_u6) ?_
  clear e_u6
  show mx_S X F L 339 51 [(0, .ref l0), (1, .int l1), (2, .int l2)] [.int u6.1] u6.2 0 0 (some (.int r.1), r.2, 0, 0)
  rcases mx_if_el hf with ⟨c28, hf⟩ | ⟨c28, hf⟩
  · refine sb_if_ne hm dX11_proveState_51 (tgt := 57) rfl (fun _ => ?_) (fun z => absurd c28 z)
    refine mx_S.pu (pc2 := 58) (lv2 := [(0, .ref l0), (1, .int l1), (2, .int l2)]) (st2 := [.ref l0]) hm dX11_proveState_57 rfl ?_
    refine mx_S.pu (pc2 := 59) (lv2 := [(0, .ref l0), (1, .int l1), (2, .int l2)]) (st2 := [.int l1, .ref l0]) hm dX11_proveState_58 rfl ?_
    refine sx_ic (v := 1) hm dX11_proveState_59 (by decide) ?_
    replace hf := xl_el hf; obtain ⟨v7, e_v7, hf⟩ := hf
    refine mx_S.pu (pc2 := 61) (lv2 := [(0, .ref l0), (1, .int l1), (2, .int l2)]) (st2 := [.int v7, .ref l0]) hm dX11_proveState_60 (by rw [← e_v7]; rfl) ?_
    clear e_v7
    replace hf := mx_gd_el hf; obtain ⟨c8, hf⟩ := hf
    replace hf := mx_sv_el hf; obtain ⟨u9, e_u9, hf⟩ := hf
    refine sx_cv hm dX11_proveState_61 rs_RX11_192 mt_X11_codeAt [.int v7] [] (b := l0) (ci := 11) rfl rfl rfl c8 (Nat.le_of_ble_eq_true rfl) (Nat.le_of_ble_eq_true rfl) (by omega) (by omega) (f_X11_codeAt_ok X (by omega) (by omega) nn l0 v7 u6.2 e_u9) ?_
    clear e_u9
    show mx_S X F L 339 64 [(0, .ref l0), (1, .int l1), (2, .int l2)] [.int u9.1] u9.2 0 0 (some (.int r.1), r.2, 0, 0)
    refine mx_S.pu (pc2 := 66) (lv2 := [(5, .int u9.1), (0, .ref l0), (1, .int l1), (2, .int l2)]) (st2 := []) hm dX11_proveState_64 rfl ?_
    refine mx_S.pu (pc2 := 67) (lv2 := [(5, .int u9.1), (0, .ref l0), (1, .int l1), (2, .int l2)]) (st2 := [.ref l0]) hm dX11_proveState_66 rfl ?_
    refine mx_S.pu (pc2 := 68) (lv2 := [(5, .int u9.1), (0, .ref l0), (1, .int l1), (2, .int l2)]) (st2 := [.int l2, .ref l0]) hm dX11_proveState_67 rfl ?_
    refine mx_S.pu (pc2 := 70) (lv2 := [(5, .int u9.1), (0, .ref l0), (1, .int l1), (2, .int l2)]) (st2 := [.int u9.1, .int l2, .ref l0]) hm dX11_proveState_68 rfl ?_
    replace hf := mx_gd_el hf; obtain ⟨c10, hf⟩ := hf
    replace hf := mx_sv_el hf; obtain ⟨u11, e_u11, hf⟩ := hf
    refine sx_cv hm dX11_proveState_70 rs_RX11_292 mt_X11_isConstantRight [.int l2, .int u9.1] [] (b := l0) (ci := 11) rfl rfl rfl c10 (Nat.le_of_ble_eq_true rfl) (Nat.le_of_ble_eq_true rfl) (by omega) (by omega) (f_X11_isConstantRight_ok X (by omega) (by omega) nn l0 l2 u9.1 u9.2 e_u11) ?_
    clear e_u11
    show mx_S X F L 339 73 [(5, .int u9.1), (0, .ref l0), (1, .int l1), (2, .int l2)] [.int u11.1] u11.2 0 0 (some (.int r.1), r.2, 0, 0)
    rcases mx_if_el hf with ⟨c27, hf⟩ | ⟨c27, hf⟩
    · refine sb_if_ne hm dX11_proveState_73 (tgt := 79) rfl (fun _ => ?_) (fun z => absurd c27 z)
      refine mx_S.pu (pc2 := 80) (lv2 := [(5, .int u9.1), (0, .ref l0), (1, .int l1), (2, .int l2)]) (st2 := [.ref l0]) hm dX11_proveState_79 rfl ?_
      refine sx_ic (v := 1) hm dX11_proveState_80 (by decide) ?_
      replace hf := mx_sv_el hf; obtain ⟨h12, e_h12, hf⟩ := hf
      refine sx_put hm dX11_proveState_81 rs_RX11_295 ft_11_19 ⟨by decide, by decide⟩ (fun z => by cases z) e_h12 ?_
      clear e_h12
      refine mx_S.pu (pc2 := 85) (lv2 := [(5, .int u9.1), (0, .ref l0), (1, .int l1), (2, .int l2)]) (st2 := [.ref l0]) hm dX11_proveState_84 rfl ?_
      refine mx_S.pu (pc2 := 86) (lv2 := [(5, .int u9.1), (0, .ref l0), (1, .int l1), (2, .int l2)]) (st2 := [.int l2, .ref l0]) hm dX11_proveState_85 rfl ?_
      refine mx_S.pu (pc2 := 88) (lv2 := [(5, .int u9.1), (0, .ref l0), (1, .int l1), (2, .int l2)]) (st2 := [.int u9.1, .int l2, .ref l0]) hm dX11_proveState_86 rfl ?_
      replace hf := mx_gd_el hf; obtain ⟨c13, hf⟩ := hf
      replace hf := mx_sv_el hf; obtain ⟨u14, e_u14, hf⟩ := hf
      refine sx_cv hm dX11_proveState_88 rs_RX11_299 mt_X11_applySimple [.int l2, .int u9.1] [] (b := l0) (ci := 11) rfl rfl rfl c13 (Nat.le_of_ble_eq_true rfl) (Nat.le_of_ble_eq_true rfl) (by omega) (by omega) (f_X11_applySimple_ok X (by omega) (by omega) nn l0 l2 u9.1 h12 e_u14) ?_
      clear e_u14
      show mx_S X F L 339 91 [(5, .int u9.1), (0, .ref l0), (1, .int l1), (2, .int l2)] [] u14 0 0 (some (.int r.1), r.2, 0, 0)
      refine mx_S.pu (pc2 := 92) (lv2 := [(5, .int u9.1), (0, .ref l0), (1, .int l1), (2, .int l2)]) (st2 := [.int l2]) hm dX11_proveState_91 rfl ?_
      replace hf := mx_sv_el hf; obtain ⟨u15, e_u15, hf⟩ := hf
      refine sx_cs hm dX11_proveState_92 rs_RX11_198 mt_X11_isJump [.int l2] [] rfl rfl (Nat.le_of_ble_eq_true rfl) (Nat.le_of_ble_eq_true rfl) (by omega) (by omega) (f_X11_isJump_ok X (by omega) (by omega) nn l2 u14 e_u15) ?_
      clear e_u15
      show mx_S X F L 339 95 [(5, .int u9.1), (0, .ref l0), (1, .int l1), (2, .int l2)] [.int u15.1] u15.2 0 0 (some (.int r.1), r.2, 0, 0)
      rcases mx_if_el hf with ⟨c26, hf⟩ | ⟨c26, hf⟩
      · refine sb_if_eq hm dX11_proveState_95 (tgt := 139) rfl (fun _ => ?_) (fun z => absurd c26 z)
        refine mx_S.ext [(0, .ref l0)] (mx_sub_pos [1] rfl (show ([5, 0, 1, 2] : List Nat).Nodup by decide)) ?_
        exact j_X11_proveState_139_ok X hF hL nn l0 u15.2 hf
      · refine sb_if_eq hm dX11_proveState_95 (tgt := 139) rfl (fun z => absurd z c26) (fun _ => ?_)
        refine mx_S.pu (pc2 := 99) (lv2 := [(5, .int u9.1), (0, .ref l0), (1, .int l1), (2, .int l2)]) (st2 := [.ref l0]) hm dX11_proveState_98 rfl ?_
        replace hf := mx_sv_el hf; obtain ⟨v16, e_v16, hf⟩ := hf
        refine sx_get hm dX11_proveState_99 rs_RX11_295 (xgi_el e_v16) ?_
        clear e_v16
        rcases mx_if_el hf with ⟨c25, hf⟩ | ⟨c25, hf⟩
        · refine sb_if_eq hm dX11_proveState_102 (tgt := 139) rfl (fun _ => ?_) (fun z => absurd c25 z)
          refine mx_S.ext [(0, .ref l0)] (mx_sub_pos [1] rfl (show ([5, 0, 1, 2] : List Nat).Nodup by decide)) ?_
          exact j_X11_proveState_139_ok X hF hL nn l0 u15.2 hf
        · refine sb_if_eq hm dX11_proveState_102 (tgt := 139) rfl (fun z => absurd z c25) (fun _ => ?_)
          refine mx_S.pu (pc2 := 106) (lv2 := [(5, .int u9.1), (0, .ref l0), (1, .int l1), (2, .int l2)]) (st2 := [.ref l0]) hm dX11_proveState_105 rfl ?_
          refine mx_S.pu (pc2 := 107) (lv2 := [(5, .int u9.1), (0, .ref l0), (1, .int l1), (2, .int l2)]) (st2 := [.ref l0, .ref l0]) hm dX11_proveState_106 rfl ?_
          refine mx_S.pu (pc2 := 108) (lv2 := [(5, .int u9.1), (0, .ref l0), (1, .int l1), (2, .int l2)]) (st2 := [.int l1, .ref l0, .ref l0]) hm dX11_proveState_107 rfl ?_
          replace hf := mx_gd_el hf; obtain ⟨c17, hf⟩ := hf
          replace hf := mx_sv_el hf; obtain ⟨u18, e_u18, hf⟩ := hf
          refine sx_cv hm dX11_proveState_108 rs_RX11_227 mt_X11_aimOf [.int l1] [.ref l0] (b := l0) (ci := 11) rfl rfl rfl c17 (Nat.le_of_ble_eq_true rfl) (Nat.le_of_ble_eq_true rfl) (by omega) (by omega) (f_X11_aimOf_ok X (by omega) (by omega) nn l0 l1 u15.2 e_u18) ?_
          clear e_u18
          show mx_S X F L 339 111 [(5, .int u9.1), (0, .ref l0), (1, .int l1), (2, .int l2)] [.int u18.1, .ref l0] u18.2 0 0 (some (.int r.1), r.2, 0, 0)
          replace hf := mx_gd_el hf; obtain ⟨c19, hf⟩ := hf
          replace hf := mx_sv_el hf; obtain ⟨u20, e_u20, hf⟩ := hf
          refine sx_cv hm dX11_proveState_111 rs_RX11_242 mt_X11_frameAt [.int u18.1] [] (b := l0) (ci := 11) rfl rfl rfl c19 (Nat.le_of_ble_eq_true rfl) (Nat.le_of_ble_eq_true rfl) (by omega) (by omega) (f_X11_frameAt_ok X (by omega) (by omega) nn l0 u18.1 u18.2 e_u20) ?_
          clear e_u20
          show mx_S X F L 339 114 [(5, .int u9.1), (0, .ref l0), (1, .int l1), (2, .int l2)] [.int u20.1] u20.2 0 0 (some (.int r.1), r.2, 0, 0)
          refine mx_S.pu (pc2 := 116) (lv2 := [(6, .int u20.1), (5, .int u9.1), (0, .ref l0), (1, .int l1), (2, .int l2)]) (st2 := []) hm dX11_proveState_114 rfl ?_
          refine mx_S.pu (pc2 := 117) (lv2 := [(6, .int u20.1), (5, .int u9.1), (0, .ref l0), (1, .int l1), (2, .int l2)]) (st2 := [.ref l0]) hm dX11_proveState_116 rfl ?_
          refine mx_S.pu (pc2 := 119) (lv2 := [(6, .int u20.1), (5, .int u9.1), (0, .ref l0), (1, .int l1), (2, .int l2)]) (st2 := [.int u20.1, .ref l0]) hm dX11_proveState_117 rfl ?_
          rcases mx_if_el hf with ⟨c24, hf⟩ | ⟨c24, hf⟩
          · refine sb_if_lt hm dX11_proveState_119 (tgt := 135) rfl (fun _ => ?_) (fun z => absurd c24 z)
            refine mx_S.ext [(0, .ref l0)] (mx_sub_pos [2] rfl (show ([6, 5, 0, 1, 2] : List Nat).Nodup by decide)) ?_
            exact j_X11_proveState_135_ok X hF hL nn l0 l0 u20.2 hf
          · refine sb_if_lt hm dX11_proveState_119 (tgt := 135) rfl (fun z => absurd z c24) (fun _ => ?_)
            refine mx_S.pu (pc2 := 123) (lv2 := [(6, .int u20.1), (5, .int u9.1), (0, .ref l0), (1, .int l1), (2, .int l2)]) (st2 := [.ref l0, .ref l0]) hm dX11_proveState_122 rfl ?_
            refine mx_S.pu (pc2 := 125) (lv2 := [(6, .int u20.1), (5, .int u9.1), (0, .ref l0), (1, .int l1), (2, .int l2)]) (st2 := [.int u20.1, .ref l0, .ref l0]) hm dX11_proveState_123 rfl ?_
            replace hf := mx_gd_el hf; obtain ⟨c21, hf⟩ := hf
            replace hf := mx_sv_el hf; obtain ⟨u22, e_u22, hf⟩ := hf
            refine sx_cv hm dX11_proveState_125 rs_RX11_283 mt_X11_fitsFrame [.int u20.1] [.ref l0] (b := l0) (ci := 11) rfl rfl rfl c21 (Nat.le_of_ble_eq_true rfl) (Nat.le_of_ble_eq_true rfl) (by omega) (by omega) (f_X11_fitsFrame_ok X (by omega) (by omega) nn l0 u20.1 u20.2 e_u22) ?_
            clear e_u22
            show mx_S X F L 339 128 [(6, .int u20.1), (5, .int u9.1), (0, .ref l0), (1, .int l1), (2, .int l2)] [.int u22.1, .ref l0] u22.2 0 0 (some (.int r.1), r.2, 0, 0)
            rcases mx_if_el hf with ⟨c23, hf⟩ | ⟨c23, hf⟩
            · refine sb_if_eq hm dX11_proveState_128 (tgt := 135) rfl (fun _ => ?_) (fun z => absurd c23 z)
              refine mx_S.ext [(0, .ref l0)] (mx_sub_pos [2] rfl (show ([6, 5, 0, 1, 2] : List Nat).Nodup by decide)) ?_
              exact j_X11_proveState_135_ok X hF hL nn l0 l0 u22.2 hf
            · refine sb_if_eq hm dX11_proveState_128 (tgt := 135) rfl (fun z => absurd z c23) (fun _ => ?_)
              refine sx_ic (v := 1) hm dX11_proveState_131 (by decide) ?_
              refine mx_S.pu (pc2 := 136) (lv2 := [(6, .int u20.1), (5, .int u9.1), (0, .ref l0), (1, .int l1), (2, .int l2)]) (st2 := [.int 1, .ref l0]) hm dX11_proveState_132 rfl ?_
              refine mx_S.ext [(0, .ref l0)] (mx_sub_pos [2] rfl (show ([6, 5, 0, 1, 2] : List Nat).Nodup by decide)) ?_
              exact j_X11_proveState_136_ok X hF hL nn l0 1 l0 u22.2 hf
    · refine sb_if_ne hm dX11_proveState_73 (tgt := 79) rfl (fun z => absurd z c27) (fun _ => ?_)
      refine sx_bi (v := 11) hm dX11_proveState_76 (by decide) ?_
      cases hf
      exact sx_ire hm dX11_proveState_78 rfl rfl
  · refine sb_if_ne hm dX11_proveState_51 (tgt := 57) rfl (fun z => absurd z c28) (fun _ => ?_)
    refine sx_bi (v := 12) hm dX11_proveState_54 (by decide) ?_
    cases hf
    exact sx_ire hm dX11_proveState_56 rfl rfl
set_option maxHeartbeats 4000000 in
set_option maxRecDepth 20000 in
theorem j_X11_proveState_40_ok (X : Nat × (Nat → Int32)) {F L : Nat} (hF : 4 ≤ F) (hL : 92 ≤ L) (nn : Nat) (l0 : Nat) (l1 : Int32) (l2 : Int32) (l4 : Int32) (h : mx_H) {r : (Int32 × mx_H)} (hf : j_X11_proveState_40 nn l0 l1 l2 l4 h = some r) : mx_S X F L 339 40 [(0, .ref l0), (1, .int l1), (2, .int l2), (4, .int l4)] [] h 0 0 (some (.int r.1), r.2, 0, 0) := by
  have hm : mx_mt 339 = some (yX11_proveState, cX11_proveState, 7, (some .int)) := mt_X11_proveState
  unfold j_X11_proveState_40 at hf
  refine mx_S.pu (pc2 := 41) (lv2 := [(0, .ref l0), (1, .int l1), (2, .int l2), (4, .int l4)]) (st2 := [.ref l0]) hm dX11_proveState_40 rfl ?_
  refine mx_S.pu (pc2 := 43) (lv2 := [(0, .ref l0), (1, .int l1), (2, .int l2), (4, .int l4)]) (st2 := [.int l4, .ref l0]) hm dX11_proveState_41 rfl ?_
  replace hf := mx_gd_el hf; obtain ⟨c29, hf⟩ := hf
  replace hf := mx_sv_el hf; obtain ⟨u30, e_u30, hf⟩ := hf
  refine sx_cv hm dX11_proveState_43 rs_RX11_286 mt_X11_takeFrame [.int l4] [] (b := l0) (ci := 11) rfl rfl rfl c29 (Nat.le_of_ble_eq_true rfl) (Nat.le_of_ble_eq_true rfl) (by omega) (by omega) (f_X11_takeFrame_ok X (by omega) (by omega) nn l0 l4 h e_u30) ?_
  clear e_u30
  show mx_S X F L 339 46 [(0, .ref l0), (1, .int l1), (2, .int l2), (4, .int l4)] [] u30 0 0 (some (.int r.1), r.2, 0, 0)
  refine mx_S.ext [(0, .ref l0), (1, .int l1), (2, .int l2)] (mx_sub_pos [0, 1, 2] rfl (show ([0, 1, 2, 4] : List Nat).Nodup by decide)) ?_
  exact j_X11_proveState_46_ok X hF hL nn l0 l1 l2 u30 hf
set_option maxHeartbeats 4000000 in
set_option maxRecDepth 20000 in
theorem j_X11_proveState_19_ok (X : Nat × (Nat → Int32)) {F L : Nat} (hF : 4 ≤ F) (hL : 92 ≤ L) (nn : Nat) (l0 : Nat) (l1 : Int32) (l2 : Int32) (l3 : Int32) (l4 : Int32) (h : mx_H) {r : (Int32 × mx_H)} (hf : j_X11_proveState_19 nn l0 l1 l2 l3 l4 h = some r) : mx_S X F L 339 19 [(0, .ref l0), (1, .int l1), (2, .int l2), (3, .int l3), (4, .int l4)] [] h 0 0 (some (.int r.1), r.2, 0, 0) := by
  have hm : mx_mt 339 = some (yX11_proveState, cX11_proveState, 7, (some .int)) := mt_X11_proveState
  unfold j_X11_proveState_19 at hf
  refine mx_S.pu (pc2 := 21) (lv2 := [(0, .ref l0), (1, .int l1), (2, .int l2), (3, .int l3), (4, .int l4)]) (st2 := [.int l4]) hm dX11_proveState_19 rfl ?_
  rcases mx_if_el hf with ⟨c35, hf⟩ | ⟨c35, hf⟩
  · refine sb_if_lt hm dX11_proveState_21 (tgt := 46) rfl (fun _ => ?_) (fun z => absurd c35 z)
    refine mx_S.ext [(0, .ref l0), (1, .int l1), (2, .int l2)] (mx_sub_pos [0, 1, 2] rfl (show ([0, 1, 2, 3, 4] : List Nat).Nodup by decide)) ?_
    exact j_X11_proveState_46_ok X hF hL nn l0 l1 l2 h hf
  · refine sb_if_lt hm dX11_proveState_21 (tgt := 46) rfl (fun z => absurd z c35) (fun _ => ?_)
    refine mx_S.pu (pc2 := 25) (lv2 := [(0, .ref l0), (1, .int l1), (2, .int l2), (3, .int l3), (4, .int l4)]) (st2 := [.int l3]) hm dX11_proveState_24 rfl ?_
    rcases mx_if_el hf with ⟨c34, hf⟩ | ⟨c34, hf⟩
    · refine sb_if_eq hm dX11_proveState_25 (tgt := 40) rfl (fun _ => ?_) (fun z => absurd c34 z)
      refine mx_S.ext [(0, .ref l0), (1, .int l1), (2, .int l2), (4, .int l4)] (mx_sub_pos [0, 1, 2, 4] rfl (show ([0, 1, 2, 3, 4] : List Nat).Nodup by decide)) ?_
      exact j_X11_proveState_40_ok X hF hL nn l0 l1 l2 l4 h hf
    · refine sb_if_eq hm dX11_proveState_25 (tgt := 40) rfl (fun z => absurd z c34) (fun _ => ?_)
      refine mx_S.pu (pc2 := 29) (lv2 := [(0, .ref l0), (1, .int l1), (2, .int l2), (3, .int l3), (4, .int l4)]) (st2 := [.ref l0]) hm dX11_proveState_28 rfl ?_
      refine mx_S.pu (pc2 := 31) (lv2 := [(0, .ref l0), (1, .int l1), (2, .int l2), (3, .int l3), (4, .int l4)]) (st2 := [.int l4, .ref l0]) hm dX11_proveState_29 rfl ?_
      replace hf := mx_gd_el hf; obtain ⟨c31, hf⟩ := hf
      replace hf := mx_sv_el hf; obtain ⟨u32, e_u32, hf⟩ := hf
      refine sx_cv hm dX11_proveState_31 rs_RX11_283 mt_X11_fitsFrame [.int l4] [] (b := l0) (ci := 11) rfl rfl rfl c31 (Nat.le_of_ble_eq_true rfl) (Nat.le_of_ble_eq_true rfl) (by omega) (by omega) (f_X11_fitsFrame_ok X (by omega) (by omega) nn l0 l4 h e_u32) ?_
      clear e_u32
      show mx_S X F L 339 34 [(0, .ref l0), (1, .int l1), (2, .int l2), (3, .int l3), (4, .int l4)] [.int u32.1] u32.2 0 0 (some (.int r.1), r.2, 0, 0)
      rcases mx_if_el hf with ⟨c33, hf⟩ | ⟨c33, hf⟩
      · refine sb_if_ne hm dX11_proveState_34 (tgt := 40) rfl (fun _ => ?_) (fun z => absurd c33 z)
        refine mx_S.ext [(0, .ref l0), (1, .int l1), (2, .int l2), (4, .int l4)] (mx_sub_pos [0, 1, 2, 4] rfl (show ([0, 1, 2, 3, 4] : List Nat).Nodup by decide)) ?_
        exact j_X11_proveState_40_ok X hF hL nn l0 l1 l2 l4 u32.2 hf
      · refine sb_if_ne hm dX11_proveState_34 (tgt := 40) rfl (fun z => absurd z c33) (fun _ => ?_)
        refine sx_bi (v := 12) hm dX11_proveState_37 (by decide) ?_
        cases hf
        exact sx_ire hm dX11_proveState_39 rfl rfl
set_option maxHeartbeats 4000000 in
set_option maxRecDepth 20000 in
theorem f_X11_proveState_ok (X : Nat × (Nat → Int32)) {F L : Nat} (hF : 4 ≤ F) (hL : 92 ≤ L) (nn : Nat) (a0 : Nat) (a1 : Int32) (a2 : Int32) (a3 : Int32) (h : mx_H) {r : (Int32 × mx_H)} (hf : f_X11_proveState nn a0 a1 a2 a3 h = some r) : mx_R X F L 339 [.ref a0, .int a1, .int a2, .int a3] h (some (.int r.1), r.2, 0, 0) := by
  have hm : mx_mt 339 = some (yX11_proveState, cX11_proveState, 7, (some .int)) := mt_X11_proveState
  show mx_S X F L 339 0 [(0, .ref a0), (1, .int a1), (2, .int a2), (3, .int a3)] [] h 0 0 (some (.int r.1), r.2, 0, 0)
  unfold f_X11_proveState at hf
  refine mx_S.pu (pc2 := 1) (lv2 := [(0, .ref a0), (1, .int a1), (2, .int a2), (3, .int a3)]) (st2 := [.ref a0]) hm dX11_proveState_0 rfl ?_
  refine mx_S.pu (pc2 := 2) (lv2 := [(0, .ref a0), (1, .int a1), (2, .int a2), (3, .int a3)]) (st2 := [.int a1, .ref a0]) hm dX11_proveState_1 rfl ?_
  replace hf := mx_gd_el hf; obtain ⟨c36, hf⟩ := hf
  replace hf := mx_sv_el hf; obtain ⟨u37, e_u37, hf⟩ := hf
  refine sx_cv hm dX11_proveState_2 rs_RX11_242 mt_X11_frameAt [.int a1] [] (b := a0) (ci := 11) rfl rfl rfl c36 (Nat.le_of_ble_eq_true rfl) (Nat.le_of_ble_eq_true rfl) (by omega) (by omega) (f_X11_frameAt_ok X (by omega) (by omega) nn a0 a1 h e_u37) ?_
  clear e_u37
  show mx_S X F L 339 5 [(0, .ref a0), (1, .int a1), (2, .int a2), (3, .int a3)] [.int u37.1] u37.2 0 0 (some (.int r.1), r.2, 0, 0)
  refine mx_S.pu (pc2 := 7) (lv2 := [(4, .int u37.1), (0, .ref a0), (1, .int a1), (2, .int a2), (3, .int a3)]) (st2 := []) hm dX11_proveState_5 rfl ?_
  refine mx_S.pu (pc2 := 8) (lv2 := [(4, .int u37.1), (0, .ref a0), (1, .int a1), (2, .int a2), (3, .int a3)]) (st2 := [.int a3]) hm dX11_proveState_7 rfl ?_
  rcases mx_if_el hf with ⟨c39, hf⟩ | ⟨c39, hf⟩
  · refine sb_if_ne hm dX11_proveState_8 (tgt := 19) rfl (fun _ => ?_) (fun z => absurd c39 z)
    refine mx_S.ext [(0, .ref a0), (1, .int a1), (2, .int a2), (3, .int a3), (4, .int u37.1)] (mx_sub_pos [1, 2, 3, 4, 0] rfl (show ([4, 0, 1, 2, 3] : List Nat).Nodup by decide)) ?_
    exact j_X11_proveState_19_ok X hF hL nn a0 a1 a2 a3 u37.1 u37.2 hf
  · refine sb_if_ne hm dX11_proveState_8 (tgt := 19) rfl (fun z => absurd z c39) (fun _ => ?_)
    refine mx_S.pu (pc2 := 13) (lv2 := [(4, .int u37.1), (0, .ref a0), (1, .int a1), (2, .int a2), (3, .int a3)]) (st2 := [.int u37.1]) hm dX11_proveState_11 rfl ?_
    rcases mx_if_el hf with ⟨c38, hf⟩ | ⟨c38, hf⟩
    · refine sb_if_ge hm dX11_proveState_13 (tgt := 19) rfl (fun _ => ?_) (fun z => absurd c38 z)
      refine mx_S.ext [(0, .ref a0), (1, .int a1), (2, .int a2), (3, .int a3), (4, .int u37.1)] (mx_sub_pos [1, 2, 3, 4, 0] rfl (show ([4, 0, 1, 2, 3] : List Nat).Nodup by decide)) ?_
      exact j_X11_proveState_19_ok X hF hL nn a0 a1 a2 a3 u37.1 u37.2 hf
    · refine sb_if_ge hm dX11_proveState_13 (tgt := 19) rfl (fun z => absurd z c38) (fun _ => ?_)
      refine sx_bi (v := 10) hm dX11_proveState_16 (by decide) ?_
      cases hf
      exact sx_ire hm dX11_proveState_18 rfl rfl
set_option maxHeartbeats 4000000 in
set_option maxRecDepth 20000 in
theorem j_X11_proveStates_52_ok (X : Nat × (Nat → Int32)) {F L : Nat} (hF : 5 ≤ F) (hL : 118 ≤ L) (nn : Nat) {kk_4 : Nat → Int32 → Int32 → mx_H → Option (Int32 × mx_H)} (hk_4 : ∀ (l0 : Nat) (l1 : Int32) (l2 : Int32) (h : mx_H) (r : (Int32 × mx_H)), kk_4 l0 l1 l2 h = some r → mx_S X F L 338 4 [(0, .ref l0), (1, .int l1), (2, .int l2)] [] h 0 0 (some (.int r.1), r.2, 0, 0)) (l0 : Nat) (l2 : Int32) (l3 : Int32) (s0 : Int32) (h : mx_H) {r : (Int32 × mx_H)} (hf : j_X11_proveStates_52 nn kk_4 l0 l2 l3 s0 h = some r) : mx_S X F L 338 52 [(0, .ref l0), (2, .int l2), (3, .int l3)] [.int s0] h 0 0 (some (.int r.1), r.2, 0, 0) := by
  have hm : mx_mt 338 = some (yX11_proveStates, cX11_proveStates, 5, (some .int)) := mt_X11_proveStates
  unfold j_X11_proveStates_52 at hf
  refine mx_S.pu (pc2 := 53) (lv2 := [(1, .int s0), (0, .ref l0), (2, .int l2), (3, .int l3)]) (st2 := []) hm dX11_proveStates_52 rfl ?_
  refine mx_S.pu (pc2 := 54) (lv2 := [(1, .int s0), (0, .ref l0), (2, .int l2), (3, .int l3)]) (st2 := [.int l2]) hm dX11_proveStates_53 rfl ?_
  refine sx_ic (v := 1) hm dX11_proveStates_54 (by decide) ?_
  refine mx_S.pu (pc2 := 56) (lv2 := [(1, .int s0), (0, .ref l0), (2, .int l2), (3, .int l3)]) (st2 := [.int l3, .int 1, .int l2]) hm dX11_proveStates_55 rfl ?_
  replace hf := mx_sv_el hf; obtain ⟨u1, e_u1, hf⟩ := hf
  refine sx_cs hm dX11_proveStates_56 rs_RX11_218 mt_X11_widthOf [.int l3] [.int 1, .int l2] rfl rfl (Nat.le_of_ble_eq_true rfl) (Nat.le_of_ble_eq_true rfl) (by omega) (by omega) (f_X11_widthOf_ok X (by omega) (by omega) nn l3 h e_u1) ?_
  clear e_u1
  show mx_S X F L 338 59 [(1, .int s0), (0, .ref l0), (2, .int l2), (3, .int l3)] [.int u1.1, .int 1, .int l2] u1.2 0 0 (some (.int r.1), r.2, 0, 0)
  replace hf := xl_el hf; obtain ⟨v2, e_v2, hf⟩ := hf
  refine sx_max hm dX11_proveStates_59 rs_RX11_280 (by omega) (Nat.le_trans (Nat.le_of_ble_eq_true rfl : _ ≤ 60) (by omega)) ?_
  rw [e_v2]
  clear e_v2
  replace hf := xl_el hf; obtain ⟨v3, e_v3, hf⟩ := hf
  refine mx_S.pu (pc2 := 63) (lv2 := [(1, .int s0), (0, .ref l0), (2, .int l2), (3, .int l3)]) (st2 := [.int v3]) hm dX11_proveStates_62 (by rw [← e_v3]; rfl) ?_
  clear e_v3
  refine mx_S.pu (pc2 := 64) (lv2 := [(2, .int v3), (1, .int s0), (0, .ref l0), (3, .int l3)]) (st2 := []) hm dX11_proveStates_63 rfl ?_
  refine mx_S.pu (pc2 := 4) (lv2 := [(2, .int v3), (1, .int s0), (0, .ref l0), (3, .int l3)]) (st2 := []) hm dX11_proveStates_64 rfl ?_
  refine mx_S.ext [(0, .ref l0), (1, .int s0), (2, .int v3)] (mx_sub_pos [2, 1, 0] rfl (show ([2, 1, 0, 3] : List Nat).Nodup by decide)) ?_
  exact hk_4 l0 s0 v3 u1.2 _ hf
set_option maxHeartbeats 4000000 in
set_option maxRecDepth 20000 in
theorem w_X11_proveStates_4_ok (X : Nat × (Nat → Int32)) {F L : Nat} (hF : 5 ≤ F) (hL : 118 ≤ L) (nn : Nat) : ∀ (k : Nat) (l0 : Nat) (l1 : Int32) (l2 : Int32) (h : mx_H) (r : (Int32 × mx_H)), w_X11_proveStates_4 nn k l0 l1 l2 h = some r → mx_S X F L 338 4 [(0, .ref l0), (1, .int l1), (2, .int l2)] [] h 0 0 (some (.int r.1), r.2, 0, 0) := by
  have hm : mx_mt 338 = some (yX11_proveStates, cX11_proveStates, 5, (some .int)) := mt_X11_proveStates
  intro k
  induction k with
  | zero => intro l0 l1 l2 h r hf; cases hf
  | succ k ih =>
    intro l0 l1 l2 h r hf
    unfold w_X11_proveStates_4 at hf
    refine mx_S.pu (pc2 := 5) (lv2 := [(0, .ref l0), (1, .int l1), (2, .int l2)]) (st2 := [.int l2]) hm dX11_proveStates_4 rfl ?_
    refine mx_S.pu (pc2 := 6) (lv2 := [(0, .ref l0), (1, .int l1), (2, .int l2)]) (st2 := [.ref l0, .int l2]) hm dX11_proveStates_5 rfl ?_
    replace hf := mx_sv_el hf; obtain ⟨v4, e_v4, hf⟩ := hf
    refine sx_get hm dX11_proveStates_6 rs_RX11_209 (xgi_el e_v4) ?_
    clear e_v4
    rcases mx_if_el hf with ⟨c18, hf⟩ | ⟨c18, hf⟩
    · refine sb_ic_ge hm dX11_proveStates_9 (tgt := 67) rfl (fun _ => ?_) (fun z => absurd c18 z)
      refine mx_S.pu (pc2 := 68) (lv2 := [(0, .ref l0), (1, .int l1), (2, .int l2)]) (st2 := [.int l1]) hm dX11_proveStates_67 rfl ?_
      rcases mx_if_el hf with ⟨c8, hf⟩ | ⟨c8, hf⟩
      · refine sb_if_eq hm dX11_proveStates_68 (tgt := 84) rfl (fun _ => ?_) (fun z => absurd c8 z)
        refine sx_ic (v := 0) hm dX11_proveStates_84 (by decide) ?_
        cases hf
        exact sx_ire hm dX11_proveStates_85 rfl rfl
      · refine sb_if_eq hm dX11_proveStates_68 (tgt := 84) rfl (fun z => absurd z c8) (fun _ => ?_)
        refine mx_S.pu (pc2 := 72) (lv2 := [(0, .ref l0), (1, .int l1), (2, .int l2)]) (st2 := [.ref l0]) hm dX11_proveStates_71 rfl ?_
        refine sx_bi (v := 10) hm dX11_proveStates_72 (by decide) ?_
        refine mx_S.pu (pc2 := 75) (lv2 := [(0, .ref l0), (1, .int l1), (2, .int l2)]) (st2 := [.ref l0, .int 10, .ref l0]) hm dX11_proveStates_74 rfl ?_
        replace hf := mx_sv_el hf; obtain ⟨v5, e_v5, hf⟩ := hf
        refine sx_get hm dX11_proveStates_75 rs_RX11_209 (xgi_el e_v5) ?_
        clear e_v5
        replace hf := mx_gd_el hf; obtain ⟨c6, hf⟩ := hf
        replace hf := mx_sv_el hf; obtain ⟨u7, e_u7, hf⟩ := hf
        refine sx_cv hm dX11_proveStates_78 rs_RX11_221 mt_X11_at [.int 10, .int v5] [] (b := l0) (ci := 11) rfl rfl rfl c6 (Nat.le_of_ble_eq_true rfl) (Nat.le_of_ble_eq_true rfl) (by omega) (by omega) (f_X11_at_ok X (by omega) (by omega) nn l0 10 v5 h e_u7) ?_
        clear e_u7
        show mx_S X F L 338 81 [(0, .ref l0), (1, .int l1), (2, .int l2)] [.int u7.1] u7.2 0 0 (some (.int r.1), r.2, 0, 0)
        refine mx_S.pu (pc2 := 85) (lv2 := [(0, .ref l0), (1, .int l1), (2, .int l2)]) (st2 := [.int u7.1]) hm dX11_proveStates_81 rfl ?_
        cases hf
        exact sx_ire hm dX11_proveStates_85 rfl rfl
    · refine sb_ic_ge hm dX11_proveStates_9 (tgt := 67) rfl (fun z => absurd z c18) (fun _ => ?_)
      refine mx_S.pu (pc2 := 13) (lv2 := [(0, .ref l0), (1, .int l1), (2, .int l2)]) (st2 := [.ref l0]) hm dX11_proveStates_12 rfl ?_
      refine mx_S.pu (pc2 := 14) (lv2 := [(0, .ref l0), (1, .int l1), (2, .int l2)]) (st2 := [.int l2, .ref l0]) hm dX11_proveStates_13 rfl ?_
      replace hf := mx_gd_el hf; obtain ⟨c9, hf⟩ := hf
      replace hf := mx_sv_el hf; obtain ⟨u10, e_u10, hf⟩ := hf
      refine sx_cv hm dX11_proveStates_14 rs_RX11_192 mt_X11_codeAt [.int l2] [] (b := l0) (ci := 11) rfl rfl rfl c9 (Nat.le_of_ble_eq_true rfl) (Nat.le_of_ble_eq_true rfl) (by omega) (by omega) (f_X11_codeAt_ok X (by omega) (by omega) nn l0 l2 h e_u10) ?_
      clear e_u10
      show mx_S X F L 338 17 [(0, .ref l0), (1, .int l1), (2, .int l2)] [.int u10.1] u10.2 0 0 (some (.int r.1), r.2, 0, 0)
      refine mx_S.pu (pc2 := 18) (lv2 := [(3, .int u10.1), (0, .ref l0), (1, .int l1), (2, .int l2)]) (st2 := []) hm dX11_proveStates_17 rfl ?_
      refine mx_S.pu (pc2 := 19) (lv2 := [(3, .int u10.1), (0, .ref l0), (1, .int l1), (2, .int l2)]) (st2 := [.ref l0]) hm dX11_proveStates_18 rfl ?_
      refine mx_S.pu (pc2 := 20) (lv2 := [(3, .int u10.1), (0, .ref l0), (1, .int l1), (2, .int l2)]) (st2 := [.int l2, .ref l0]) hm dX11_proveStates_19 rfl ?_
      refine mx_S.pu (pc2 := 21) (lv2 := [(3, .int u10.1), (0, .ref l0), (1, .int l1), (2, .int l2)]) (st2 := [.int u10.1, .int l2, .ref l0]) hm dX11_proveStates_20 rfl ?_
      refine mx_S.pu (pc2 := 22) (lv2 := [(3, .int u10.1), (0, .ref l0), (1, .int l1), (2, .int l2)]) (st2 := [.int l1, .int u10.1, .int l2, .ref l0]) hm dX11_proveStates_21 rfl ?_
      replace hf := mx_gd_el hf; obtain ⟨c11, hf⟩ := hf
      replace hf := mx_sv_el hf; obtain ⟨u12, e_u12, hf⟩ := hf
      refine sx_cv hm dX11_proveStates_22 rs_RX11_273 mt_X11_proveState [.int l2, .int u10.1, .int l1] [] (b := l0) (ci := 11) rfl rfl rfl c11 (Nat.le_of_ble_eq_true rfl) (Nat.le_of_ble_eq_true rfl) (by omega) (by omega) (f_X11_proveState_ok X (by omega) (by omega) nn l0 l2 u10.1 l1 u10.2 e_u12) ?_
      clear e_u12
      show mx_S X F L 338 25 [(3, .int u10.1), (0, .ref l0), (1, .int l1), (2, .int l2)] [.int u12.1] u12.2 0 0 (some (.int r.1), r.2, 0, 0)
      refine mx_S.pu (pc2 := 27) (lv2 := [(4, .int u12.1), (3, .int u10.1), (0, .ref l0), (1, .int l1), (2, .int l2)]) (st2 := []) hm dX11_proveStates_25 rfl ?_
      refine mx_S.pu (pc2 := 29) (lv2 := [(4, .int u12.1), (3, .int u10.1), (0, .ref l0), (1, .int l1), (2, .int l2)]) (st2 := [.int u12.1]) hm dX11_proveStates_27 rfl ?_
      rcases mx_if_el hf with ⟨c17, hf⟩ | ⟨c17, hf⟩
      · refine sb_if_eq hm dX11_proveStates_29 (tgt := 40) rfl (fun _ => ?_) (fun z => absurd c17 z)
        refine mx_S.pu (pc2 := 41) (lv2 := [(4, .int u12.1), (3, .int u10.1), (0, .ref l0), (1, .int l1), (2, .int l2)]) (st2 := [.int u10.1]) hm dX11_proveStates_40 rfl ?_
        replace hf := mx_sv_el hf; obtain ⟨u13, e_u13, hf⟩ := hf
        refine sx_cs hm dX11_proveStates_41 rs_RX11_277 mt_X11_isLast [.int u10.1] [] rfl rfl (Nat.le_of_ble_eq_true rfl) (Nat.le_of_ble_eq_true rfl) (by omega) (by omega) (f_X11_isLast_ok X (by omega) (by omega) nn u10.1 u12.2 e_u13) ?_
        clear e_u13
        show mx_S X F L 338 44 [(4, .int u12.1), (3, .int u10.1), (0, .ref l0), (1, .int l1), (2, .int l2)] [.int u13.1] u13.2 0 0 (some (.int r.1), r.2, 0, 0)
        rcases mx_if_el hf with ⟨c14, hf⟩ | ⟨c14, hf⟩
        · refine sb_if_ne hm dX11_proveStates_44 (tgt := 51) rfl (fun _ => ?_) (fun z => absurd c14 z)
          refine sx_ic (v := 0) hm dX11_proveStates_51 (by decide) ?_
          refine mx_S.ext [(0, .ref l0), (2, .int l2), (3, .int u10.1)] (mx_sub_pos [2, 4, 1] rfl (show ([4, 3, 0, 1, 2] : List Nat).Nodup by decide)) ?_
          exact j_X11_proveStates_52_ok X hF hL nn ih l0 l2 u10.1 0 u13.2 hf
        · refine sb_if_ne hm dX11_proveStates_44 (tgt := 51) rfl (fun z => absurd z c14) (fun _ => ?_)
          refine sx_ic (v := 1) hm dX11_proveStates_47 (by decide) ?_
          refine mx_S.pu (pc2 := 52) (lv2 := [(4, .int u12.1), (3, .int u10.1), (0, .ref l0), (1, .int l1), (2, .int l2)]) (st2 := [.int 1]) hm dX11_proveStates_48 rfl ?_
          refine mx_S.ext [(0, .ref l0), (2, .int l2), (3, .int u10.1)] (mx_sub_pos [2, 4, 1] rfl (show ([4, 3, 0, 1, 2] : List Nat).Nodup by decide)) ?_
          exact j_X11_proveStates_52_ok X hF hL nn ih l0 l2 u10.1 1 u13.2 hf
      · refine sb_if_eq hm dX11_proveStates_29 (tgt := 40) rfl (fun z => absurd z c17) (fun _ => ?_)
        refine mx_S.pu (pc2 := 33) (lv2 := [(4, .int u12.1), (3, .int u10.1), (0, .ref l0), (1, .int l1), (2, .int l2)]) (st2 := [.ref l0]) hm dX11_proveStates_32 rfl ?_
        refine mx_S.pu (pc2 := 35) (lv2 := [(4, .int u12.1), (3, .int u10.1), (0, .ref l0), (1, .int l1), (2, .int l2)]) (st2 := [.int u12.1, .ref l0]) hm dX11_proveStates_33 rfl ?_
        refine mx_S.pu (pc2 := 36) (lv2 := [(4, .int u12.1), (3, .int u10.1), (0, .ref l0), (1, .int l1), (2, .int l2)]) (st2 := [.int l2, .int u12.1, .ref l0]) hm dX11_proveStates_35 rfl ?_
        replace hf := mx_gd_el hf; obtain ⟨c15, hf⟩ := hf
        replace hf := mx_sv_el hf; obtain ⟨u16, e_u16, hf⟩ := hf
        refine sx_cv hm dX11_proveStates_36 rs_RX11_221 mt_X11_at [.int u12.1, .int l2] [] (b := l0) (ci := 11) rfl rfl rfl c15 (Nat.le_of_ble_eq_true rfl) (Nat.le_of_ble_eq_true rfl) (by omega) (by omega) (f_X11_at_ok X (by omega) (by omega) nn l0 u12.1 l2 u12.2 e_u16) ?_
        clear e_u16
        show mx_S X F L 338 39 [(4, .int u12.1), (3, .int u10.1), (0, .ref l0), (1, .int l1), (2, .int l2)] [.int u16.1] u16.2 0 0 (some (.int r.1), r.2, 0, 0)
        cases hf
        exact sx_ire hm dX11_proveStates_39 rfl rfl
set_option maxHeartbeats 4000000 in
set_option maxRecDepth 20000 in
theorem f_X11_proveStates_ok (X : Nat × (Nat → Int32)) {F L : Nat} (hF : 5 ≤ F) (hL : 118 ≤ L) (nn : Nat) (a0 : Nat) (h : mx_H) {r : (Int32 × mx_H)} (hf : f_X11_proveStates nn a0 h = some r) : mx_R X F L 338 [.ref a0] h (some (.int r.1), r.2, 0, 0) := by
  have hm : mx_mt 338 = some (yX11_proveStates, cX11_proveStates, 5, (some .int)) := mt_X11_proveStates
  show mx_S X F L 338 0 [(0, .ref a0)] [] h 0 0 (some (.int r.1), r.2, 0, 0)
  unfold f_X11_proveStates at hf
  refine sx_ic (v := 1) hm dX11_proveStates_0 (by decide) ?_
  refine mx_S.pu (pc2 := 2) (lv2 := [(1, .int 1), (0, .ref a0)]) (st2 := []) hm dX11_proveStates_1 rfl ?_
  refine sx_ic (v := 0) hm dX11_proveStates_2 (by decide) ?_
  refine mx_S.pu (pc2 := 4) (lv2 := [(2, .int 0), (1, .int 1), (0, .ref a0)]) (st2 := []) hm dX11_proveStates_3 rfl ?_
  refine mx_S.ext [(0, .ref a0), (1, .int 1), (2, .int 0)] (mx_sub_pos [2, 1, 0] rfl (show ([2, 1, 0] : List Nat).Nodup by decide)) ?_
  exact w_X11_proveStates_4_ok X hF hL nn nn a0 1 0 h _ hf
set_option maxHeartbeats 4000000 in
set_option maxRecDepth 20000 in
theorem w_X7_fieldOf_31_ok (X : Nat × (Nat → Int32)) {F L : Nat} (hF : 2 ≤ F) (hL : 50 ≤ L) (nn : Nat) {kk_6 : Nat → Nat → Int32 → Int32 → Int32 → mx_H → Option (Int32 × mx_H)} (hk_6 : ∀ (l0 : Nat) (l2 : Nat) (l3 : Int32) (l4 : Int32) (l5 : Int32) (h : mx_H) (r : (Int32 × mx_H)), kk_6 l0 l2 l3 l4 l5 h = some r → mx_S X F L 210 6 [(0, .ref l0), (2, .ref l2), (3, .int l3), (4, .int l4), (5, .int l5)] [] h 0 0 (some (.int r.1), r.2, 0, 0)) : ∀ (k : Nat) (l0 : Nat) (l2 : Nat) (l3 : Int32) (l4 : Int32) (l5 : Int32) (l6 : (Option Nat)) (l7 : Int32) (h : mx_H) (r : (Int32 × mx_H)), w_X7_fieldOf_31 nn kk_6 k l0 l2 l3 l4 l5 l6 l7 h = some r → mx_S X F L 210 31 [(0, .ref l0), (2, .ref l2), (3, .int l3), (4, .int l4), (5, .int l5), (6, va_rf l6), (7, .int l7)] [] h 0 0 (some (.int r.1), r.2, 0, 0) := by
  have hm : mx_mt 210 = some (yX7_fieldOf, cX7_fieldOf, 8, (some .int)) := mt_X7_fieldOf
  intro k
  induction k with
  | zero => intro l0 l2 l3 l4 l5 l6 l7 h r hf; cases hf
  | succ k ih =>
    intro l0 l2 l3 l4 l5 l6 l7 h r hf
    unfold w_X7_fieldOf_31 at hf
    refine mx_S.pu (pc2 := 33) (lv2 := [(0, .ref l0), (2, .ref l2), (3, .int l3), (4, .int l4), (5, .int l5), (6, va_rf l6), (7, .int l7)]) (st2 := [.int l7]) hm dX7_fieldOf_31 rfl ?_
    refine sx_ao hm dX7_fieldOf_33 rfl ?_
    replace hf := mx_sv_el hf; obtain ⟨b1, e_b1, hf⟩ := hf
    rw [show va_rf l6 = Value.ref b1 by rw [e_b1]; rfl]
    clear e_b1
    replace hf := mx_sv_el hf; obtain ⟨v2, e_v2, hf⟩ := hf
    refine sx_get hm dX7_fieldOf_35 rs_RX7_129 (xgi_el e_v2) ?_
    clear e_v2
    rcases mx_if_el hf with ⟨c15, hf⟩ | ⟨c15, hf⟩
    · refine sb_ic_ge hm dX7_fieldOf_38 (tgt := 73) rfl (fun _ => ?_) (fun z => absurd c15 z)
      refine mx_S.pu (pc2 := 74) (lv2 := [(0, .ref l0), (2, .ref l2), (3, .int l3), (4, .int l4), (5, .int l5), (6, .ref b1), (7, .int l7)]) (st2 := [.ref l0]) hm dX7_fieldOf_73 rfl ?_
      replace hf := mx_sv_el hf; obtain ⟨v3, e_v3, hf⟩ := hf
      refine sx_get hm dX7_fieldOf_74 rs_RX7_16 (xgr_el e_v3) ?_
      clear e_v3
      refine mx_S.pu (pc2 := 79) (lv2 := [(0, .ref l0), (2, .ref l2), (3, .int l3), (4, .int l4), (5, .int l5), (6, .ref b1), (7, .int l7)]) (st2 := [.int l4, .ref v3]) hm dX7_fieldOf_77 rfl ?_
      replace hf := mx_gd_el hf; obtain ⟨c4, hf⟩ := hf
      replace hf := mx_sv_el hf; obtain ⟨u5, e_u5, hf⟩ := hf
      refine sx_cv hm dX7_fieldOf_79 rs_RX7_138 mt_X4_above [.int l4] [] (b := v3) (ci := 4) rfl rfl rfl c4 (Nat.le_of_ble_eq_true rfl) (Nat.le_of_ble_eq_true rfl) (by omega) (by omega) (f_X4_above_ok X (by omega) (by omega) nn v3 l4 h e_u5) ?_
      clear e_u5
      show mx_S X F L 210 82 [(0, .ref l0), (2, .ref l2), (3, .int l3), (4, .int l4), (5, .int l5), (6, .ref b1), (7, .int l7)] [.int u5.1] u5.2 0 0 (some (.int r.1), r.2, 0, 0)
      refine mx_S.pu (pc2 := 84) (lv2 := [(4, .int u5.1), (0, .ref l0), (2, .ref l2), (3, .int l3), (5, .int l5), (6, .ref b1), (7, .int l7)]) (st2 := []) hm dX7_fieldOf_82 rfl ?_
      replace hf := xl_el hf; obtain ⟨v6, e_v6, hf⟩ := hf
      refine mx_S.pu (pc2 := 87) (lv2 := [(5, .int v6), (4, .int u5.1), (0, .ref l0), (2, .ref l2), (3, .int l3), (6, .ref b1), (7, .int l7)]) (st2 := []) hm dX7_fieldOf_84 (by rw [← e_v6]; rfl) ?_
      clear e_v6
      refine mx_S.pu (pc2 := 6) (lv2 := [(5, .int v6), (4, .int u5.1), (0, .ref l0), (2, .ref l2), (3, .int l3), (6, .ref b1), (7, .int l7)]) (st2 := []) hm dX7_fieldOf_87 rfl ?_
      refine mx_S.ext [(0, .ref l0), (2, .ref l2), (3, .int l3), (4, .int u5.1), (5, .int v6)] (mx_sub_pos [2, 3, 4, 1, 0] rfl (show ([5, 4, 0, 2, 3, 6, 7] : List Nat).Nodup by decide)) ?_
      exact hk_6 l0 l2 l3 u5.1 v6 u5.2 _ hf
    · refine sb_ic_ge hm dX7_fieldOf_38 (tgt := 73) rfl (fun z => absurd z c15) (fun _ => ?_)
      refine mx_S.pu (pc2 := 43) (lv2 := [(0, .ref l0), (2, .ref l2), (3, .int l3), (4, .int l4), (5, .int l5), (6, .ref b1), (7, .int l7)]) (st2 := [.ref b1]) hm dX7_fieldOf_41 rfl ?_
      refine mx_S.pu (pc2 := 45) (lv2 := [(0, .ref l0), (2, .ref l2), (3, .int l3), (4, .int l4), (5, .int l5), (6, .ref b1), (7, .int l7)]) (st2 := [.ref b1, .ref b1]) hm dX7_fieldOf_43 rfl ?_
      refine mx_S.pu (pc2 := 47) (lv2 := [(0, .ref l0), (2, .ref l2), (3, .int l3), (4, .int l4), (5, .int l5), (6, .ref b1), (7, .int l7)]) (st2 := [.int l7, .ref b1, .ref b1]) hm dX7_fieldOf_45 rfl ?_
      replace hf := mx_gd_el hf; obtain ⟨c7, hf⟩ := hf
      replace hf := mx_sv_el hf; obtain ⟨u8, e_u8, hf⟩ := hf
      refine sx_cv hm dX7_fieldOf_47 rs_RX7_132 mt_X3_fieldName [.int l7] [.ref b1] (b := b1) (ci := 3) rfl rfl rfl c7 (Nat.le_of_ble_eq_true rfl) (Nat.le_of_ble_eq_true rfl) (by omega) (by omega) (f_X3_fieldName_ok X (by omega) (by omega) nn b1 l7 h e_u8) ?_
      clear e_u8
      show mx_S X F L 210 50 [(0, .ref l0), (2, .ref l2), (3, .int l3), (4, .int l4), (5, .int l5), (6, .ref b1), (7, .int l7)] [.int u8.1, .ref b1] u8.2 0 0 (some (.int r.1), r.2, 0, 0)
      refine mx_S.pu (pc2 := 51) (lv2 := [(0, .ref l0), (2, .ref l2), (3, .int l3), (4, .int l4), (5, .int l5), (6, .ref b1), (7, .int l7)]) (st2 := [.ref l2, .int u8.1, .ref b1]) hm dX7_fieldOf_50 rfl ?_
      refine mx_S.pu (pc2 := 52) (lv2 := [(0, .ref l0), (2, .ref l2), (3, .int l3), (4, .int l4), (5, .int l5), (6, .ref b1), (7, .int l7)]) (st2 := [.int l3, .ref l2, .int u8.1, .ref b1]) hm dX7_fieldOf_51 rfl ?_
      replace hf := mx_gd_el hf; obtain ⟨c9, hf⟩ := hf
      replace hf := mx_sv_el hf; obtain ⟨u10, e_u10, hf⟩ := hf
      refine sx_cv hm dX7_fieldOf_52 rs_RX7_109 mt_X3_sameText [.int u8.1, .ref l2, .int l3] [] (b := b1) (ci := 3) rfl rfl rfl c9 (Nat.le_of_ble_eq_true rfl) (Nat.le_of_ble_eq_true rfl) (by omega) (by omega) (f_X3_sameText_ok X (by omega) (by omega) nn b1 u8.1 l2 l3 u8.2 e_u10) ?_
      clear e_u10
      show mx_S X F L 210 55 [(0, .ref l0), (2, .ref l2), (3, .int l3), (4, .int l4), (5, .int l5), (6, .ref b1), (7, .int l7)] [.int u10.1] u10.2 0 0 (some (.int r.1), r.2, 0, 0)
      rcases mx_if_el hf with ⟨c14, hf⟩ | ⟨c14, hf⟩
      · refine sb_if_eq hm dX7_fieldOf_55 (tgt := 67) rfl (fun _ => ?_) (fun z => absurd c14 z)
        replace hf := xl_el hf; obtain ⟨v11, e_v11, hf⟩ := hf
        refine mx_S.pu (pc2 := 70) (lv2 := [(7, .int v11), (0, .ref l0), (2, .ref l2), (3, .int l3), (4, .int l4), (5, .int l5), (6, .ref b1)]) (st2 := []) hm dX7_fieldOf_67 (by rw [← e_v11]; rfl) ?_
        clear e_v11
        refine mx_S.pu (pc2 := 31) (lv2 := [(7, .int v11), (0, .ref l0), (2, .ref l2), (3, .int l3), (4, .int l4), (5, .int l5), (6, .ref b1)]) (st2 := []) hm dX7_fieldOf_70 rfl ?_
        refine mx_S.ext [(0, .ref l0), (2, .ref l2), (3, .int l3), (4, .int l4), (5, .int l5), (6, va_rf (some b1)), (7, .int v11)] (mx_sub_pos [1, 2, 3, 4, 5, 6, 0] rfl (show ([7, 0, 2, 3, 4, 5, 6] : List Nat).Nodup by decide)) ?_
        exact ih l0 l2 l3 l4 l5 (some b1) v11 u10.2 _ hf
      · refine sb_if_eq hm dX7_fieldOf_55 (tgt := 67) rfl (fun z => absurd z c14) (fun _ => ?_)
        refine mx_S.pu (pc2 := 59) (lv2 := [(0, .ref l0), (2, .ref l2), (3, .int l3), (4, .int l4), (5, .int l5), (6, .ref b1), (7, .int l7)]) (st2 := [.ref l0]) hm dX7_fieldOf_58 rfl ?_
        refine mx_S.pu (pc2 := 61) (lv2 := [(0, .ref l0), (2, .ref l2), (3, .int l3), (4, .int l4), (5, .int l5), (6, .ref b1), (7, .int l7)]) (st2 := [.int l4, .ref l0]) hm dX7_fieldOf_59 rfl ?_
        refine mx_S.pu (pc2 := 63) (lv2 := [(0, .ref l0), (2, .ref l2), (3, .int l3), (4, .int l4), (5, .int l5), (6, .ref b1), (7, .int l7)]) (st2 := [.int l7, .int l4, .ref l0]) hm dX7_fieldOf_61 rfl ?_
        replace hf := mx_gd_el hf; obtain ⟨c12, hf⟩ := hf
        replace hf := mx_sv_el hf; obtain ⟨u13, e_u13, hf⟩ := hf
        refine sx_cv hm dX7_fieldOf_63 rs_RX7_135 mt_X7_numberOf [.int l4, .int l7] [] (b := l0) (ci := 7) rfl rfl rfl c12 (Nat.le_of_ble_eq_true rfl) (Nat.le_of_ble_eq_true rfl) (by omega) (by omega) (f_X7_numberOf_ok X (by omega) (by omega) nn l0 l4 l7 u10.2 e_u13) ?_
        clear e_u13
        show mx_S X F L 210 66 [(0, .ref l0), (2, .ref l2), (3, .int l3), (4, .int l4), (5, .int l5), (6, .ref b1), (7, .int l7)] [.int u13.1] u13.2 0 0 (some (.int r.1), r.2, 0, 0)
        cases hf
        exact sx_ire hm dX7_fieldOf_66 rfl rfl
set_option maxHeartbeats 4000000 in
set_option maxRecDepth 20000 in
theorem w_X7_fieldOf_6_ok (X : Nat × (Nat → Int32)) {F L : Nat} (hF : 2 ≤ F) (hL : 50 ≤ L) (nn : Nat) : ∀ (k : Nat) (l0 : Nat) (l2 : Nat) (l3 : Int32) (l4 : Int32) (l5 : Int32) (h : mx_H) (r : (Int32 × mx_H)), w_X7_fieldOf_6 nn k l0 l2 l3 l4 l5 h = some r → mx_S X F L 210 6 [(0, .ref l0), (2, .ref l2), (3, .int l3), (4, .int l4), (5, .int l5)] [] h 0 0 (some (.int r.1), r.2, 0, 0) := by
  have hm : mx_mt 210 = some (yX7_fieldOf, cX7_fieldOf, 8, (some .int)) := mt_X7_fieldOf
  intro k
  induction k with
  | zero => intro l0 l2 l3 l4 l5 h r hf; cases hf
  | succ k ih =>
    intro l0 l2 l3 l4 l5 h r hf
    unfold w_X7_fieldOf_6 at hf
    refine mx_S.pu (pc2 := 8) (lv2 := [(0, .ref l0), (2, .ref l2), (3, .int l3), (4, .int l4), (5, .int l5)]) (st2 := [.int l5]) hm dX7_fieldOf_6 rfl ?_
    refine sx_bi (v := 16) hm dX7_fieldOf_8 (by decide) ?_
    rcases mx_if_el hf with ⟨c20, hf⟩ | ⟨c20, hf⟩
    · refine sb_ic_ge hm dX7_fieldOf_10 (tgt := 90) rfl (fun _ => ?_) (fun z => absurd c20 z)
      refine sx_ic (v := (-1)) hm dX7_fieldOf_90 (by decide) ?_
      cases hf
      exact sx_ire hm dX7_fieldOf_91 rfl rfl
    · refine sb_ic_ge hm dX7_fieldOf_10 (tgt := 90) rfl (fun z => absurd z c20) (fun _ => ?_)
      refine mx_S.pu (pc2 := 14) (lv2 := [(0, .ref l0), (2, .ref l2), (3, .int l3), (4, .int l4), (5, .int l5)]) (st2 := [.ref l0]) hm dX7_fieldOf_13 rfl ?_
      refine mx_S.pu (pc2 := 16) (lv2 := [(0, .ref l0), (2, .ref l2), (3, .int l3), (4, .int l4), (5, .int l5)]) (st2 := [.int l4, .ref l0]) hm dX7_fieldOf_14 rfl ?_
      replace hf := mx_gd_el hf; obtain ⟨c16, hf⟩ := hf
      replace hf := mx_sv_el hf; obtain ⟨u17, e_u17, hf⟩ := hf
      refine sx_cv hm dX7_fieldOf_16 rs_RX7_90 mt_X7_imageOf [.int l4] [] (b := l0) (ci := 7) rfl rfl rfl c16 (Nat.le_of_ble_eq_true rfl) (Nat.le_of_ble_eq_true rfl) (by omega) (by omega) (f_X7_imageOf_ok X (by omega) (by omega) nn l0 l4 h e_u17) ?_
      clear e_u17
      show mx_S X F L 210 19 [(0, .ref l0), (2, .ref l2), (3, .int l3), (4, .int l4), (5, .int l5)] [va_rf u17.1] u17.2 0 0 (some (.int r.1), r.2, 0, 0)
      refine sx_so (lv2 := [(6, va_rf u17.1), (0, .ref l0), (2, .ref l2), (3, .int l3), (4, .int l4), (5, .int l5)]) hm dX7_fieldOf_19 rfl rfl ?_
      refine sx_ao hm dX7_fieldOf_21 rfl ?_
      rcases mx_oc_el hf with ⟨c19, hf⟩ | ⟨b18, c19, hf⟩
      · refine sx_ifnonnull_n hm dX7_fieldOf_23 c19 (tgt := 28) rfl ?_
        refine sx_ic (v := (-1)) hm dX7_fieldOf_26 (by decide) ?_
        cases hf
        exact sx_ire hm dX7_fieldOf_27 rfl rfl
      · refine sx_ifnonnull_s hm dX7_fieldOf_23 c19 (tgt := 28) rfl ?_
        rw [show va_rf u17.1 = Value.ref b18 by rw [c19]; rfl]
        refine sx_ic (v := 0) hm dX7_fieldOf_28 (by decide) ?_
        refine mx_S.pu (pc2 := 31) (lv2 := [(7, .int 0), (6, .ref b18), (0, .ref l0), (2, .ref l2), (3, .int l3), (4, .int l4), (5, .int l5)]) (st2 := []) hm dX7_fieldOf_29 rfl ?_
        refine mx_S.ext [(0, .ref l0), (2, .ref l2), (3, .int l3), (4, .int l4), (5, .int l5), (6, va_rf (some b18)), (7, .int 0)] (mx_sub_pos [2, 3, 4, 5, 6, 1, 0] rfl (show ([7, 6, 0, 2, 3, 4, 5] : List Nat).Nodup by decide)) ?_
        exact w_X7_fieldOf_31_ok X hF hL nn ih nn l0 l2 l3 l4 l5 (some b18) 0 u17.2 _ hf
set_option maxHeartbeats 4000000 in
set_option maxRecDepth 20000 in
theorem f_X7_fieldOf_ok (X : Nat × (Nat → Int32)) {F L : Nat} (hF : 2 ≤ F) (hL : 50 ≤ L) (nn : Nat) (a0 : Nat) (a1 : Int32) (a2 : Nat) (a3 : Int32) (h : mx_H) {r : (Int32 × mx_H)} (hf : f_X7_fieldOf nn a0 a1 a2 a3 h = some r) : mx_R X F L 210 [.ref a0, .int a1, .ref a2, .int a3] h (some (.int r.1), r.2, 0, 0) := by
  have hm : mx_mt 210 = some (yX7_fieldOf, cX7_fieldOf, 8, (some .int)) := mt_X7_fieldOf
  show mx_S X F L 210 0 [(0, .ref a0), (1, .int a1), (2, .ref a2), (3, .int a3)] [] h 0 0 (some (.int r.1), r.2, 0, 0)
  unfold f_X7_fieldOf at hf
  refine mx_S.pu (pc2 := 1) (lv2 := [(0, .ref a0), (1, .int a1), (2, .ref a2), (3, .int a3)]) (st2 := [.int a1]) hm dX7_fieldOf_0 rfl ?_
  refine mx_S.pu (pc2 := 3) (lv2 := [(4, .int a1), (0, .ref a0), (1, .int a1), (2, .ref a2), (3, .int a3)]) (st2 := []) hm dX7_fieldOf_1 rfl ?_
  refine sx_ic (v := 0) hm dX7_fieldOf_3 (by decide) ?_
  refine mx_S.pu (pc2 := 6) (lv2 := [(5, .int 0), (4, .int a1), (0, .ref a0), (1, .int a1), (2, .ref a2), (3, .int a3)]) (st2 := []) hm dX7_fieldOf_4 rfl ?_
  refine mx_S.ext [(0, .ref a0), (2, .ref a2), (3, .int a3), (4, .int a1), (5, .int 0)] (mx_sub_pos [2, 4, 5, 1, 0] rfl (show ([5, 4, 0, 1, 2, 3] : List Nat).Nodup by decide)) ?_
  exact w_X7_fieldOf_6_ok X hF hL nn nn a0 a2 a3 a1 0 h _ hf
set_option maxHeartbeats 4000000 in
set_option maxRecDepth 20000 in
theorem j_X11_takeMember_153_ok (X : Nat × (Nat → Int32)) {F L : Nat} (hF : 8 ≤ F) (hL : 190 ≤ L) (nn : Nat) (l0 : Nat) (l1 : Int32) (l3 : Int32) (l5 : Int32) (s0 : Int32) (s1 : (Option Nat)) (h : mx_H) {r : mx_H} (hf : j_X11_takeMember_153 nn l0 l1 l3 l5 s0 s1 h = some r) : mx_S X F L 316 153 [(0, .ref l0), (1, .int l1), (3, .int l3), (5, .int l5)] [.int s0, va_rf s1] h 0 0 (none, r, 0, 0) := by
  have hm : mx_mt 316 = some (yX11_takeMember, cX11_takeMember, 8, none) := mt_X11_takeMember
  unfold j_X11_takeMember_153 at hf
  refine mx_S.pu (pc2 := 154) (lv2 := [(0, .ref l0), (1, .int l1), (3, .int l3), (5, .int l5)]) (st2 := [.ref l0, .int s0, va_rf s1]) hm dX11_takeMember_153 rfl ?_
  replace hf := mx_sv_el hf; obtain ⟨v1, e_v1, hf⟩ := hf
  refine sx_get hm dX11_takeMember_154 rs_RX11_62 (xgr_el e_v1) ?_
  clear e_v1
  refine mx_S.pu (pc2 := 158) (lv2 := [(0, .ref l0), (1, .int l1), (3, .int l3), (5, .int l5)]) (st2 := [.int l3, .ref v1, .int s0, va_rf s1]) hm dX11_takeMember_157 rfl ?_
  replace hf := mx_sv_el hf; obtain ⟨b2, e_b2, hf⟩ := hf
  rw [show va_rf s1 = Value.ref b2 by rw [e_b2]; rfl]
  clear e_b2
  replace hf := mx_gd_el hf; obtain ⟨c3, hf⟩ := hf
  replace hf := mx_sv_el hf; obtain ⟨u4, e_u4, hf⟩ := hf
  refine sx_cv hm dX11_takeMember_158 rs_RX11_153 mt_X3_sameText [.int s0, .ref v1, .int l3] [] (b := b2) (ci := 3) rfl rfl rfl c3 (Nat.le_of_ble_eq_true rfl) (Nat.le_of_ble_eq_true rfl) (by omega) (by omega) (f_X3_sameText_ok X (by omega) (by omega) nn b2 s0 v1 l3 h e_u4) ?_
  clear e_u4
  show mx_S X F L 316 161 [(0, .ref l0), (1, .int l1), (3, .int l3), (5, .int l5)] [.int u4.1] u4.2 0 0 (none, r, 0, 0)
  rcases mx_if_el hf with ⟨c15, hf⟩ | ⟨c15, hf⟩
  · refine sb_if_eq hm dX11_takeMember_161 (tgt := 198) rfl (fun _ => ?_) (fun z => absurd c15 z)
    cases hf
    exact sx_ret hm dX11_takeMember_198 rfl
  · refine sb_if_eq hm dX11_takeMember_161 (tgt := 198) rfl (fun z => absurd z c15) (fun _ => ?_)
    refine mx_S.pu (pc2 := 165) (lv2 := [(0, .ref l0), (1, .int l1), (3, .int l3), (5, .int l5)]) (st2 := [.ref l0]) hm dX11_takeMember_164 rfl ?_
    replace hf := mx_sv_el hf; obtain ⟨v5, e_v5, hf⟩ := hf
    refine sx_get hm dX11_takeMember_165 rs_RX11_27 (xgr_el e_v5) ?_
    clear e_v5
    refine mx_S.pu (pc2 := 169) (lv2 := [(0, .ref l0), (1, .int l1), (3, .int l3), (5, .int l5)]) (st2 := [.int l1, .ref v5]) hm dX11_takeMember_168 rfl ?_
    refine mx_S.pu (pc2 := 171) (lv2 := [(0, .ref l0), (1, .int l1), (3, .int l3), (5, .int l5)]) (st2 := [.int l5, .int l1, .ref v5]) hm dX11_takeMember_169 rfl ?_
    replace hf := mx_sv_el hf; obtain ⟨h6, e_h6, hf⟩ := hf
    refine sx_ast hm dX11_takeMember_171 e_h6 ?_
    clear e_h6
    refine mx_S.pu (pc2 := 173) (lv2 := [(0, .ref l0), (1, .int l1), (3, .int l3), (5, .int l5)]) (st2 := [.ref l0]) hm dX11_takeMember_172 rfl ?_
    replace hf := mx_sv_el hf; obtain ⟨v7, e_v7, hf⟩ := hf
    refine sx_get hm dX11_takeMember_173 rs_RX11_30 (xgr_el e_v7) ?_
    clear e_v7
    refine mx_S.pu (pc2 := 177) (lv2 := [(0, .ref l0), (1, .int l1), (3, .int l3), (5, .int l5)]) (st2 := [.int l1, .ref v7]) hm dX11_takeMember_176 rfl ?_
    refine mx_S.pu (pc2 := 178) (lv2 := [(0, .ref l0), (1, .int l1), (3, .int l3), (5, .int l5)]) (st2 := [.ref l0, .int l1, .ref v7]) hm dX11_takeMember_177 rfl ?_
    replace hf := mx_sv_el hf; obtain ⟨v8, e_v8, hf⟩ := hf
    refine sx_get hm dX11_takeMember_178 rs_RX11_50 (xgr_el e_v8) ?_
    clear e_v8
    refine mx_S.pu (pc2 := 182) (lv2 := [(0, .ref l0), (1, .int l1), (3, .int l3), (5, .int l5)]) (st2 := [.ref l0, .ref v8, .int l1, .ref v7]) hm dX11_takeMember_181 rfl ?_
    replace hf := mx_sv_el hf; obtain ⟨v9, e_v9, hf⟩ := hf
    refine sx_get hm dX11_takeMember_182 rs_RX11_62 (xgr_el e_v9) ?_
    clear e_v9
    refine mx_S.pu (pc2 := 186) (lv2 := [(0, .ref l0), (1, .int l1), (3, .int l3), (5, .int l5)]) (st2 := [.int l3, .ref v9, .ref v8, .int l1, .ref v7]) hm dX11_takeMember_185 rfl ?_
    refine mx_S.pu (pc2 := 187) (lv2 := [(0, .ref l0), (1, .int l1), (3, .int l3), (5, .int l5)]) (st2 := [.ref l0, .int l3, .ref v9, .ref v8, .int l1, .ref v7]) hm dX11_takeMember_186 rfl ?_
    replace hf := mx_sv_el hf; obtain ⟨v10, e_v10, hf⟩ := hf
    refine sx_get hm dX11_takeMember_187 rs_RX11_33 (xgr_el e_v10) ?_
    clear e_v10
    refine mx_S.pu (pc2 := 191) (lv2 := [(0, .ref l0), (1, .int l1), (3, .int l3), (5, .int l5)]) (st2 := [.int l1, .ref v10, .int l3, .ref v9, .ref v8, .int l1, .ref v7]) hm dX11_takeMember_190 rfl ?_
    refine sx_bi (v := 7) hm dX11_takeMember_191 (by decide) ?_
    replace hf := xl_el hf; obtain ⟨v11, e_v11, hf⟩ := hf
    refine mx_S.pu (pc2 := 194) (lv2 := [(0, .ref l0), (1, .int l1), (3, .int l3), (5, .int l5)]) (st2 := [.int v11, .ref v10, .int l3, .ref v9, .ref v8, .int l1, .ref v7]) hm dX11_takeMember_193 (by rw [← e_v11]; rfl) ?_
    clear e_v11
    replace hf := mx_gd_el hf; obtain ⟨c12, hf⟩ := hf
    replace hf := mx_sv_el hf; obtain ⟨u13, e_u13, hf⟩ := hf
    refine sx_cv hm dX11_takeMember_194 rs_RX11_142 mt_X7_readKind [.ref v9, .int l3, .ref v10, .int v11] [.int l1, .ref v7] (b := v8) (ci := 7) rfl rfl rfl c12 (Nat.le_of_ble_eq_true rfl) (Nat.le_of_ble_eq_true rfl) (by omega) (by omega) (f_X7_readKind_ok X (by omega) (by omega) nn v8 v9 l3 v10 v11 h6 e_u13) ?_
    clear e_u13
    show mx_S X F L 316 197 [(0, .ref l0), (1, .int l1), (3, .int l3), (5, .int l5)] [.int u13.1, .int l1, .ref v7] u13.2 0 0 (none, r, 0, 0)
    replace hf := mx_sv_el hf; obtain ⟨h14, e_h14, hf⟩ := hf
    refine sx_ast hm dX11_takeMember_197 e_h14 ?_
    clear e_h14
    cases hf
    exact sx_ret hm dX11_takeMember_198 rfl
