set_option maxHeartbeats 4000000 in
set_option maxRecDepth 20000 in
theorem j_X11_proveFrames_116_ok (X : Nat × (Nat → Int32)) {F L : Nat} (hF : 2 ≤ F) (hL : 44 ≤ L) (nn : Nat) {kk_4 : Nat → Int32 → Int32 → mx_H → Option (Int32 × mx_H)} (hk_4 : ∀ (l0 : Nat) (l1 : Int32) (l2 : Int32) (h : mx_H) (r : (Int32 × mx_H)), kk_4 l0 l1 l2 h = some r → mx_S X F L 335 4 [(0, .ref l0), (1, .int l1), (2, .int l2)] [] h 0 0 (some (.int r.1), r.2, 0, 0)) (l0 : Nat) (l2 : Int32) (l3 : Int32) (s0 : Int32) (h : mx_H) {r : (Int32 × mx_H)} (hf : j_X11_proveFrames_116 nn kk_4 l0 l2 l3 s0 h = some r) : mx_S X F L 335 116 [(0, .ref l0), (2, .int l2), (3, .int l3)] [.int s0] h 0 0 (some (.int r.1), r.2, 0, 0) := by
  have hm : mx_mt 335 = some (yX11_proveFrames, cX11_proveFrames, 5, (some .int)) := mt_X11_proveFrames
  unfold j_X11_proveFrames_116 at hf
  refine mx_S.pu (pc2 := 118) (lv2 := [(4, .int s0), (0, .ref l0), (2, .int l2), (3, .int l3)]) (st2 := []) hm dX11_proveFrames_116 rfl ?_
  refine mx_S.pu (pc2 := 120) (lv2 := [(4, .int s0), (0, .ref l0), (2, .int l2), (3, .int l3)]) (st2 := [.int s0]) hm dX11_proveFrames_118 rfl ?_
  rcases mx_if_el hf with ⟨c6, hf⟩ | ⟨c6, hf⟩
  · refine sb_if_ne hm dX11_proveFrames_120 (tgt := 131) rfl (fun _ => ?_) (fun z => absurd c6 z)
    refine mx_S.pu (pc2 := 132) (lv2 := [(4, .int s0), (0, .ref l0), (2, .int l2), (3, .int l3)]) (st2 := [.ref l0]) hm dX11_proveFrames_131 rfl ?_
    replace hf := mx_sv_el hf; obtain ⟨v1, e_v1, hf⟩ := hf
    refine sx_get hm dX11_proveFrames_132 rs_RX11_41 (xgr_el e_v1) ?_
    clear e_v1
    refine mx_S.pu (pc2 := 136) (lv2 := [(4, .int s0), (0, .ref l0), (2, .int l2), (3, .int l3)]) (st2 := [.int l3, .ref v1]) hm dX11_proveFrames_135 rfl ?_
    replace hf := mx_sv_el hf; obtain ⟨v2, e_v2, hf⟩ := hf
    refine sx_ald hm dX11_proveFrames_136 e_v2 ?_
    clear e_v2
    refine mx_S.pu (pc2 := 138) (lv2 := [(1, .int v2), (4, .int s0), (0, .ref l0), (2, .int l2), (3, .int l3)]) (st2 := []) hm dX11_proveFrames_137 rfl ?_
    replace hf := xl_el hf; obtain ⟨v3, e_v3, hf⟩ := hf
    refine mx_S.pu (pc2 := 141) (lv2 := [(2, .int v3), (1, .int v2), (4, .int s0), (0, .ref l0), (3, .int l3)]) (st2 := []) hm dX11_proveFrames_138 (by rw [← e_v3]; rfl) ?_
    clear e_v3
    refine mx_S.pu (pc2 := 4) (lv2 := [(2, .int v3), (1, .int v2), (4, .int s0), (0, .ref l0), (3, .int l3)]) (st2 := []) hm dX11_proveFrames_141 rfl ?_
    refine mx_S.ext [(0, .ref l0), (1, .int v2), (2, .int v3)] (mx_sub_pos [3, 1, 0] rfl (show ([2, 1, 4, 0, 3] : List Nat).Nodup by decide)) ?_
    exact hk_4 l0 v2 v3 h _ hf
  · refine sb_if_ne hm dX11_proveFrames_120 (tgt := 131) rfl (fun z => absurd z c6) (fun _ => ?_)
    refine mx_S.pu (pc2 := 124) (lv2 := [(4, .int s0), (0, .ref l0), (2, .int l2), (3, .int l3)]) (st2 := [.ref l0]) hm dX11_proveFrames_123 rfl ?_
    refine sx_bi (v := 9) hm dX11_proveFrames_124 (by decide) ?_
    refine mx_S.pu (pc2 := 127) (lv2 := [(4, .int s0), (0, .ref l0), (2, .int l2), (3, .int l3)]) (st2 := [.int l2, .int 9, .ref l0]) hm dX11_proveFrames_126 rfl ?_
    replace hf := mx_gd_el hf; obtain ⟨c4, hf⟩ := hf
    replace hf := mx_sv_el hf; obtain ⟨u5, e_u5, hf⟩ := hf
    refine sx_cv hm dX11_proveFrames_127 rs_RX11_221 mt_X11_at [.int 9, .int l2] [] (b := l0) (ci := 11) rfl rfl rfl c4 (Nat.le_of_ble_eq_true rfl) (Nat.le_of_ble_eq_true rfl) (by omega) (by omega) (f_X11_at_ok X (by omega) (by omega) nn l0 9 l2 h e_u5) ?_
    clear e_u5
    show mx_S X F L 335 130 [(4, .int s0), (0, .ref l0), (2, .int l2), (3, .int l3)] [.int u5.1] u5.2 0 0 (some (.int r.1), r.2, 0, 0)
    cases hf
    exact sx_ire hm dX11_proveFrames_130 rfl rfl
set_option maxHeartbeats 4000000 in
set_option maxRecDepth 20000 in
theorem j_X11_proveFrames_115_ok (X : Nat × (Nat → Int32)) {F L : Nat} (hF : 2 ≤ F) (hL : 44 ≤ L) (nn : Nat) {kk_4 : Nat → Int32 → Int32 → mx_H → Option (Int32 × mx_H)} (hk_4 : ∀ (l0 : Nat) (l1 : Int32) (l2 : Int32) (h : mx_H) (r : (Int32 × mx_H)), kk_4 l0 l1 l2 h = some r → mx_S X F L 335 4 [(0, .ref l0), (1, .int l1), (2, .int l2)] [] h 0 0 (some (.int r.1), r.2, 0, 0)) (l0 : Nat) (l2 : Int32) (l3 : Int32) (h : mx_H) {r : (Int32 × mx_H)} (hf : j_X11_proveFrames_115 nn kk_4 l0 l2 l3 h = some r) : mx_S X F L 335 115 [(0, .ref l0), (2, .int l2), (3, .int l3)] [] h 0 0 (some (.int r.1), r.2, 0, 0) := by
  have hm : mx_mt 335 = some (yX11_proveFrames, cX11_proveFrames, 5, (some .int)) := mt_X11_proveFrames
  unfold j_X11_proveFrames_115 at hf
  refine sx_ic (v := 0) hm dX11_proveFrames_115 (by decide) ?_
  exact j_X11_proveFrames_116_ok X hF hL nn hk_4 l0 l2 l3 0 h hf
set_option maxHeartbeats 4000000 in
set_option maxRecDepth 20000 in
theorem w_X11_proveFrames_4_ok (X : Nat × (Nat → Int32)) {F L : Nat} (hF : 2 ≤ F) (hL : 44 ≤ L) (nn : Nat) : ∀ (k : Nat) (l0 : Nat) (l1 : Int32) (l2 : Int32) (h : mx_H) (r : (Int32 × mx_H)), w_X11_proveFrames_4 nn k l0 l1 l2 h = some r → mx_S X F L 335 4 [(0, .ref l0), (1, .int l1), (2, .int l2)] [] h 0 0 (some (.int r.1), r.2, 0, 0) := by
  have hm : mx_mt 335 = some (yX11_proveFrames, cX11_proveFrames, 5, (some .int)) := mt_X11_proveFrames
  intro k
  induction k with
  | zero => intro l0 l1 l2 h r hf; cases hf
  | succ k ih =>
    intro l0 l1 l2 h r hf
    unfold w_X11_proveFrames_4 at hf
    refine mx_S.pu (pc2 := 5) (lv2 := [(0, .ref l0), (1, .int l1), (2, .int l2)]) (st2 := [.int l2]) hm dX11_proveFrames_4 rfl ?_
    refine mx_S.pu (pc2 := 6) (lv2 := [(0, .ref l0), (1, .int l1), (2, .int l2)]) (st2 := [.ref l0, .int l2]) hm dX11_proveFrames_5 rfl ?_
    refine sx_bi (v := 9) hm dX11_proveFrames_6 (by decide) ?_
    replace hf := mx_gd_el hf; obtain ⟨c7, hf⟩ := hf
    replace hf := mx_sv_el hf; obtain ⟨u8, e_u8, hf⟩ := hf
    refine sx_cv hm dX11_proveFrames_8 rs_RX11_189 mt_X11_info [.int 9] [.int l2] (b := l0) (ci := 11) rfl rfl rfl c7 (Nat.le_of_ble_eq_true rfl) (Nat.le_of_ble_eq_true rfl) (by omega) (by omega) (f_X11_info_ok X (by omega) (by omega) nn l0 9 h e_u8) ?_
    clear e_u8
    show mx_S X F L 335 11 [(0, .ref l0), (1, .int l1), (2, .int l2)] [.int u8.1, .int l2] u8.2 0 0 (some (.int r.1), r.2, 0, 0)
    rcases mx_if_el hf with ⟨c44, hf⟩ | ⟨c44, hf⟩
    · refine sb_ic_ge hm dX11_proveFrames_11 (tgt := 144) rfl (fun _ => ?_) (fun z => absurd c44 z)
      refine sx_ic (v := 0) hm dX11_proveFrames_144 (by decide) ?_
      cases hf
      exact sx_ire hm dX11_proveFrames_145 rfl rfl
    · refine sb_ic_ge hm dX11_proveFrames_11 (tgt := 144) rfl (fun z => absurd z c44) (fun _ => ?_)
      refine mx_S.pu (pc2 := 15) (lv2 := [(0, .ref l0), (1, .int l1), (2, .int l2)]) (st2 := [.int l2]) hm dX11_proveFrames_14 rfl ?_
      refine sx_bi (v := 64) hm dX11_proveFrames_15 (by decide) ?_
      replace hf := xl_el hf; obtain ⟨v9, e_v9, hf⟩ := hf
      refine mx_S.pu (pc2 := 18) (lv2 := [(0, .ref l0), (1, .int l1), (2, .int l2)]) (st2 := [.int v9]) hm dX11_proveFrames_17 (by rw [← e_v9]; rfl) ?_
      clear e_v9
      refine mx_S.pu (pc2 := 19) (lv2 := [(3, .int v9), (0, .ref l0), (1, .int l1), (2, .int l2)]) (st2 := []) hm dX11_proveFrames_18 rfl ?_
      refine mx_S.pu (pc2 := 20) (lv2 := [(3, .int v9), (0, .ref l0), (1, .int l1), (2, .int l2)]) (st2 := [.ref l0]) hm dX11_proveFrames_19 rfl ?_
      refine mx_S.pu (pc2 := 21) (lv2 := [(3, .int v9), (0, .ref l0), (1, .int l1), (2, .int l2)]) (st2 := [.ref l0, .ref l0]) hm dX11_proveFrames_20 rfl ?_
      replace hf := mx_sv_el hf; obtain ⟨v10, e_v10, hf⟩ := hf
      refine sx_get hm dX11_proveFrames_21 rs_RX11_41 (xgr_el e_v10) ?_
      clear e_v10
      refine mx_S.pu (pc2 := 25) (lv2 := [(3, .int v9), (0, .ref l0), (1, .int l1), (2, .int l2)]) (st2 := [.int v9, .ref v10, .ref l0]) hm dX11_proveFrames_24 rfl ?_
      replace hf := mx_sv_el hf; obtain ⟨v11, e_v11, hf⟩ := hf
      refine sx_ald hm dX11_proveFrames_25 e_v11 ?_
      clear e_v11
      replace hf := mx_gd_el hf; obtain ⟨c12, hf⟩ := hf
      replace hf := mx_sv_el hf; obtain ⟨u13, e_u13, hf⟩ := hf
      refine sx_cv hm dX11_proveFrames_26 rs_RX11_224 mt_X11_begins [.int v11] [] (b := l0) (ci := 11) rfl rfl rfl c12 (Nat.le_of_ble_eq_true rfl) (Nat.le_of_ble_eq_true rfl) (by omega) (by omega) (f_X11_begins_ok X (by omega) (by omega) nn l0 v11 u8.2 e_u13) ?_
      clear e_u13
      show mx_S X F L 335 29 [(3, .int v9), (0, .ref l0), (1, .int l1), (2, .int l2)] [.int u13.1] u13.2 0 0 (some (.int r.1), r.2, 0, 0)
      rcases mx_if_el hf with ⟨c43, hf⟩ | ⟨c43, hf⟩
      · refine sb_if_eq hm dX11_proveFrames_29 (tgt := 115) rfl (fun _ => ?_) (fun z => absurd c43 z)
        refine mx_S.ext [(0, .ref l0), (2, .int l2), (3, .int v9)] (mx_sub_pos [1, 3, 0] rfl (show ([3, 0, 1, 2] : List Nat).Nodup by decide)) ?_
        exact j_X11_proveFrames_115_ok X hF hL nn ih l0 l2 v9 u13.2 hf
      · refine sb_if_eq hm dX11_proveFrames_29 (tgt := 115) rfl (fun z => absurd z c43) (fun _ => ?_)
        refine mx_S.pu (pc2 := 33) (lv2 := [(3, .int v9), (0, .ref l0), (1, .int l1), (2, .int l2)]) (st2 := [.ref l0]) hm dX11_proveFrames_32 rfl ?_
        replace hf := mx_sv_el hf; obtain ⟨v14, e_v14, hf⟩ := hf
        refine sx_get hm dX11_proveFrames_33 rs_RX11_41 (xgr_el e_v14) ?_
        clear e_v14
        refine mx_S.pu (pc2 := 37) (lv2 := [(3, .int v9), (0, .ref l0), (1, .int l1), (2, .int l2)]) (st2 := [.int v9, .ref v14]) hm dX11_proveFrames_36 rfl ?_
        replace hf := mx_sv_el hf; obtain ⟨v15, e_v15, hf⟩ := hf
        refine sx_ald hm dX11_proveFrames_37 e_v15 ?_
        clear e_v15
        refine mx_S.pu (pc2 := 39) (lv2 := [(3, .int v9), (0, .ref l0), (1, .int l1), (2, .int l2)]) (st2 := [.int l1, .int v15]) hm dX11_proveFrames_38 rfl ?_
        rcases mx_if_el hf with ⟨c42, hf⟩ | ⟨c42, hf⟩
        · refine sb_ic_le hm dX11_proveFrames_39 (tgt := 115) rfl (fun _ => ?_) (fun z => absurd c42 z)
          refine mx_S.ext [(0, .ref l0), (2, .int l2), (3, .int v9)] (mx_sub_pos [1, 3, 0] rfl (show ([3, 0, 1, 2] : List Nat).Nodup by decide)) ?_
          exact j_X11_proveFrames_115_ok X hF hL nn ih l0 l2 v9 u13.2 hf
        · refine sb_ic_le hm dX11_proveFrames_39 (tgt := 115) rfl (fun z => absurd z c42) (fun _ => ?_)
          refine mx_S.pu (pc2 := 43) (lv2 := [(3, .int v9), (0, .ref l0), (1, .int l1), (2, .int l2)]) (st2 := [.ref l0]) hm dX11_proveFrames_42 rfl ?_
          replace hf := mx_sv_el hf; obtain ⟨v16, e_v16, hf⟩ := hf
          refine sx_get hm dX11_proveFrames_43 rs_RX11_41 (xgr_el e_v16) ?_
          clear e_v16
          refine mx_S.pu (pc2 := 47) (lv2 := [(3, .int v9), (0, .ref l0), (1, .int l1), (2, .int l2)]) (st2 := [.int v9, .ref v16]) hm dX11_proveFrames_46 rfl ?_
          refine sx_ic (v := 1) hm dX11_proveFrames_47 (by decide) ?_
          replace hf := xl_el hf; obtain ⟨v17, e_v17, hf⟩ := hf
          refine mx_S.pu (pc2 := 49) (lv2 := [(3, .int v9), (0, .ref l0), (1, .int l1), (2, .int l2)]) (st2 := [.int v17, .ref v16]) hm dX11_proveFrames_48 (by rw [← e_v17]; rfl) ?_
          clear e_v17
          replace hf := mx_sv_el hf; obtain ⟨v18, e_v18, hf⟩ := hf
          refine sx_ald hm dX11_proveFrames_49 e_v18 ?_
          clear e_v18
          refine mx_S.pu (pc2 := 51) (lv2 := [(3, .int v9), (0, .ref l0), (1, .int l1), (2, .int l2)]) (st2 := [.ref l0, .int v18]) hm dX11_proveFrames_50 rfl ?_
          refine sx_ic (v := 4) hm dX11_proveFrames_51 (by decide) ?_
          replace hf := mx_gd_el hf; obtain ⟨c19, hf⟩ := hf
          replace hf := mx_sv_el hf; obtain ⟨u20, e_u20, hf⟩ := hf
          refine sx_cv hm dX11_proveFrames_52 rs_RX11_189 mt_X11_info [.int 4] [.int v18] (b := l0) (ci := 11) rfl rfl rfl c19 (Nat.le_of_ble_eq_true rfl) (Nat.le_of_ble_eq_true rfl) (by omega) (by omega) (f_X11_info_ok X (by omega) (by omega) nn l0 4 u13.2 e_u20) ?_
          clear e_u20
          show mx_S X F L 335 55 [(3, .int v9), (0, .ref l0), (1, .int l1), (2, .int l2)] [.int u20.1, .int v18] u20.2 0 0 (some (.int r.1), r.2, 0, 0)
          rcases mx_if_el hf with ⟨c41, hf⟩ | ⟨c41, hf⟩
          · refine sb_ic_gt hm dX11_proveFrames_55 (tgt := 115) rfl (fun _ => ?_) (fun z => absurd c41 z)
            refine mx_S.ext [(0, .ref l0), (2, .int l2), (3, .int v9)] (mx_sub_pos [1, 3, 0] rfl (show ([3, 0, 1, 2] : List Nat).Nodup by decide)) ?_
            exact j_X11_proveFrames_115_ok X hF hL nn ih l0 l2 v9 u20.2 hf
          · refine sb_ic_gt hm dX11_proveFrames_55 (tgt := 115) rfl (fun z => absurd z c41) (fun _ => ?_)
            refine mx_S.pu (pc2 := 59) (lv2 := [(3, .int v9), (0, .ref l0), (1, .int l1), (2, .int l2)]) (st2 := [.ref l0]) hm dX11_proveFrames_58 rfl ?_
            replace hf := mx_sv_el hf; obtain ⟨v21, e_v21, hf⟩ := hf
            refine sx_get hm dX11_proveFrames_59 rs_RX11_41 (xgr_el e_v21) ?_
            clear e_v21
            refine mx_S.pu (pc2 := 63) (lv2 := [(3, .int v9), (0, .ref l0), (1, .int l1), (2, .int l2)]) (st2 := [.int v9, .ref v21]) hm dX11_proveFrames_62 rfl ?_
            refine sx_ic (v := 2) hm dX11_proveFrames_63 (by decide) ?_
            replace hf := xl_el hf; obtain ⟨v22, e_v22, hf⟩ := hf
            refine mx_S.pu (pc2 := 65) (lv2 := [(3, .int v9), (0, .ref l0), (1, .int l1), (2, .int l2)]) (st2 := [.int v22, .ref v21]) hm dX11_proveFrames_64 (by rw [← e_v22]; rfl) ?_
            clear e_v22
            replace hf := mx_sv_el hf; obtain ⟨v23, e_v23, hf⟩ := hf
            refine sx_ald hm dX11_proveFrames_65 e_v23 ?_
            clear e_v23
            refine mx_S.pu (pc2 := 67) (lv2 := [(3, .int v9), (0, .ref l0), (1, .int l1), (2, .int l2)]) (st2 := [.ref l0, .int v23]) hm dX11_proveFrames_66 rfl ?_
            refine sx_ic (v := 3) hm dX11_proveFrames_67 (by decide) ?_
            replace hf := mx_gd_el hf; obtain ⟨c24, hf⟩ := hf
            replace hf := mx_sv_el hf; obtain ⟨u25, e_u25, hf⟩ := hf
            refine sx_cv hm dX11_proveFrames_68 rs_RX11_189 mt_X11_info [.int 3] [.int v23] (b := l0) (ci := 11) rfl rfl rfl c24 (Nat.le_of_ble_eq_true rfl) (Nat.le_of_ble_eq_true rfl) (by omega) (by omega) (f_X11_info_ok X (by omega) (by omega) nn l0 3 u20.2 e_u25) ?_
            clear e_u25
            show mx_S X F L 335 71 [(3, .int v9), (0, .ref l0), (1, .int l1), (2, .int l2)] [.int u25.1, .int v23] u25.2 0 0 (some (.int r.1), r.2, 0, 0)
            rcases mx_if_el hf with ⟨c40, hf⟩ | ⟨c40, hf⟩
            · refine sb_ic_gt hm dX11_proveFrames_71 (tgt := 115) rfl (fun _ => ?_) (fun z => absurd c40 z)
              refine mx_S.ext [(0, .ref l0), (2, .int l2), (3, .int v9)] (mx_sub_pos [1, 3, 0] rfl (show ([3, 0, 1, 2] : List Nat).Nodup by decide)) ?_
              exact j_X11_proveFrames_115_ok X hF hL nn ih l0 l2 v9 u25.2 hf
            · refine sb_ic_gt hm dX11_proveFrames_71 (tgt := 115) rfl (fun z => absurd z c40) (fun _ => ?_)
              refine mx_S.pu (pc2 := 75) (lv2 := [(3, .int v9), (0, .ref l0), (1, .int l1), (2, .int l2)]) (st2 := [.ref l0]) hm dX11_proveFrames_74 rfl ?_
              refine mx_S.pu (pc2 := 76) (lv2 := [(3, .int v9), (0, .ref l0), (1, .int l1), (2, .int l2)]) (st2 := [.int v9, .ref l0]) hm dX11_proveFrames_75 rfl ?_
              refine sx_ic (v := 3) hm dX11_proveFrames_76 (by decide) ?_
              replace hf := xl_el hf; obtain ⟨v26, e_v26, hf⟩ := hf
              refine mx_S.pu (pc2 := 78) (lv2 := [(3, .int v9), (0, .ref l0), (1, .int l1), (2, .int l2)]) (st2 := [.int v26, .ref l0]) hm dX11_proveFrames_77 (by rw [← e_v26]; rfl) ?_
              clear e_v26
              refine mx_S.pu (pc2 := 79) (lv2 := [(3, .int v9), (0, .ref l0), (1, .int l1), (2, .int l2)]) (st2 := [.ref l0, .int v26, .ref l0]) hm dX11_proveFrames_78 rfl ?_
              replace hf := mx_sv_el hf; obtain ⟨v27, e_v27, hf⟩ := hf
              refine sx_get hm dX11_proveFrames_79 rs_RX11_41 (xgr_el e_v27) ?_
              clear e_v27
              refine mx_S.pu (pc2 := 83) (lv2 := [(3, .int v9), (0, .ref l0), (1, .int l1), (2, .int l2)]) (st2 := [.int v9, .ref v27, .int v26, .ref l0]) hm dX11_proveFrames_82 rfl ?_
              refine sx_ic (v := 1) hm dX11_proveFrames_83 (by decide) ?_
              replace hf := xl_el hf; obtain ⟨v28, e_v28, hf⟩ := hf
              refine mx_S.pu (pc2 := 85) (lv2 := [(3, .int v9), (0, .ref l0), (1, .int l1), (2, .int l2)]) (st2 := [.int v28, .ref v27, .int v26, .ref l0]) hm dX11_proveFrames_84 (by rw [← e_v28]; rfl) ?_
              clear e_v28
              replace hf := mx_sv_el hf; obtain ⟨v29, e_v29, hf⟩ := hf
              refine sx_ald hm dX11_proveFrames_85 e_v29 ?_
              clear e_v29
              replace hf := mx_gd_el hf; obtain ⟨c30, hf⟩ := hf
              replace hf := mx_sv_el hf; obtain ⟨u31, e_u31, hf⟩ := hf
              refine sx_cv hm dX11_proveFrames_86 rs_RX11_252 mt_X11_areThere [.int v26, .int v29] [] (b := l0) (ci := 11) rfl rfl rfl c30 (Nat.le_of_ble_eq_true rfl) (Nat.le_of_ble_eq_true rfl) (by omega) (by omega) (f_X11_areThere_ok X (by omega) (by omega) nn l0 v26 v29 u25.2 e_u31) ?_
              clear e_u31
              show mx_S X F L 335 89 [(3, .int v9), (0, .ref l0), (1, .int l1), (2, .int l2)] [.int u31.1] u31.2 0 0 (some (.int r.1), r.2, 0, 0)
              rcases mx_if_el hf with ⟨c39, hf⟩ | ⟨c39, hf⟩
              · refine sb_if_eq hm dX11_proveFrames_89 (tgt := 115) rfl (fun _ => ?_) (fun z => absurd c39 z)
                refine mx_S.ext [(0, .ref l0), (2, .int l2), (3, .int v9)] (mx_sub_pos [1, 3, 0] rfl (show ([3, 0, 1, 2] : List Nat).Nodup by decide)) ?_
                exact j_X11_proveFrames_115_ok X hF hL nn ih l0 l2 v9 u31.2 hf
              · refine sb_if_eq hm dX11_proveFrames_89 (tgt := 115) rfl (fun z => absurd z c39) (fun _ => ?_)
                refine mx_S.pu (pc2 := 93) (lv2 := [(3, .int v9), (0, .ref l0), (1, .int l1), (2, .int l2)]) (st2 := [.ref l0]) hm dX11_proveFrames_92 rfl ?_
                refine mx_S.pu (pc2 := 94) (lv2 := [(3, .int v9), (0, .ref l0), (1, .int l1), (2, .int l2)]) (st2 := [.int v9, .ref l0]) hm dX11_proveFrames_93 rfl ?_
                refine sx_bi (v := 33) hm dX11_proveFrames_94 (by decide) ?_
                replace hf := xl_el hf; obtain ⟨v32, e_v32, hf⟩ := hf
                refine mx_S.pu (pc2 := 97) (lv2 := [(3, .int v9), (0, .ref l0), (1, .int l1), (2, .int l2)]) (st2 := [.int v32, .ref l0]) hm dX11_proveFrames_96 (by rw [← e_v32]; rfl) ?_
                clear e_v32
                refine mx_S.pu (pc2 := 98) (lv2 := [(3, .int v9), (0, .ref l0), (1, .int l1), (2, .int l2)]) (st2 := [.ref l0, .int v32, .ref l0]) hm dX11_proveFrames_97 rfl ?_
                replace hf := mx_sv_el hf; obtain ⟨v33, e_v33, hf⟩ := hf
                refine sx_get hm dX11_proveFrames_98 rs_RX11_41 (xgr_el e_v33) ?_
                clear e_v33
                refine mx_S.pu (pc2 := 102) (lv2 := [(3, .int v9), (0, .ref l0), (1, .int l1), (2, .int l2)]) (st2 := [.int v9, .ref v33, .int v32, .ref l0]) hm dX11_proveFrames_101 rfl ?_
                refine sx_ic (v := 2) hm dX11_proveFrames_102 (by decide) ?_
                replace hf := xl_el hf; obtain ⟨v34, e_v34, hf⟩ := hf
                refine mx_S.pu (pc2 := 104) (lv2 := [(3, .int v9), (0, .ref l0), (1, .int l1), (2, .int l2)]) (st2 := [.int v34, .ref v33, .int v32, .ref l0]) hm dX11_proveFrames_103 (by rw [← e_v34]; rfl) ?_
                clear e_v34
                replace hf := mx_sv_el hf; obtain ⟨v35, e_v35, hf⟩ := hf
                refine sx_ald hm dX11_proveFrames_104 e_v35 ?_
                clear e_v35
                replace hf := mx_gd_el hf; obtain ⟨c36, hf⟩ := hf
                replace hf := mx_sv_el hf; obtain ⟨u37, e_u37, hf⟩ := hf
                refine sx_cv hm dX11_proveFrames_105 rs_RX11_252 mt_X11_areThere [.int v32, .int v35] [] (b := l0) (ci := 11) rfl rfl rfl c36 (Nat.le_of_ble_eq_true rfl) (Nat.le_of_ble_eq_true rfl) (by omega) (by omega) (f_X11_areThere_ok X (by omega) (by omega) nn l0 v32 v35 u31.2 e_u37) ?_
                clear e_u37
                show mx_S X F L 335 108 [(3, .int v9), (0, .ref l0), (1, .int l1), (2, .int l2)] [.int u37.1] u37.2 0 0 (some (.int r.1), r.2, 0, 0)
                rcases mx_if_el hf with ⟨c38, hf⟩ | ⟨c38, hf⟩
                · refine sb_if_eq hm dX11_proveFrames_108 (tgt := 115) rfl (fun _ => ?_) (fun z => absurd c38 z)
                  refine mx_S.ext [(0, .ref l0), (2, .int l2), (3, .int v9)] (mx_sub_pos [1, 3, 0] rfl (show ([3, 0, 1, 2] : List Nat).Nodup by decide)) ?_
                  exact j_X11_proveFrames_115_ok X hF hL nn ih l0 l2 v9 u37.2 hf
                · refine sb_if_eq hm dX11_proveFrames_108 (tgt := 115) rfl (fun z => absurd z c38) (fun _ => ?_)
                  refine sx_ic (v := 1) hm dX11_proveFrames_111 (by decide) ?_
                  refine mx_S.pu (pc2 := 116) (lv2 := [(3, .int v9), (0, .ref l0), (1, .int l1), (2, .int l2)]) (st2 := [.int 1]) hm dX11_proveFrames_112 rfl ?_
                  refine mx_S.ext [(0, .ref l0), (2, .int l2), (3, .int v9)] (mx_sub_pos [1, 3, 0] rfl (show ([3, 0, 1, 2] : List Nat).Nodup by decide)) ?_
                  exact j_X11_proveFrames_116_ok X hF hL nn ih l0 l2 v9 1 u37.2 hf
set_option maxHeartbeats 4000000 in
set_option maxRecDepth 20000 in
theorem f_X11_proveFrames_ok (X : Nat × (Nat → Int32)) {F L : Nat} (hF : 2 ≤ F) (hL : 44 ≤ L) (nn : Nat) (a0 : Nat) (h : mx_H) {r : (Int32 × mx_H)} (hf : f_X11_proveFrames nn a0 h = some r) : mx_R X F L 335 [.ref a0] h (some (.int r.1), r.2, 0, 0) := by
  have hm : mx_mt 335 = some (yX11_proveFrames, cX11_proveFrames, 5, (some .int)) := mt_X11_proveFrames
  show mx_S X F L 335 0 [(0, .ref a0)] [] h 0 0 (some (.int r.1), r.2, 0, 0)
  unfold f_X11_proveFrames at hf
  refine sx_ic (v := (-1)) hm dX11_proveFrames_0 (by decide) ?_
  refine mx_S.pu (pc2 := 2) (lv2 := [(1, .int (-1)), (0, .ref a0)]) (st2 := []) hm dX11_proveFrames_1 rfl ?_
  refine sx_ic (v := 0) hm dX11_proveFrames_2 (by decide) ?_
  refine mx_S.pu (pc2 := 4) (lv2 := [(2, .int 0), (1, .int (-1)), (0, .ref a0)]) (st2 := []) hm dX11_proveFrames_3 rfl ?_
  refine mx_S.ext [(0, .ref a0), (1, .int (-1)), (2, .int 0)] (mx_sub_pos [2, 1, 0] rfl (show ([2, 1, 0] : List Nat).Nodup by decide)) ?_
  exact w_X11_proveFrames_4_ok X hF hL nn nn a0 (-1) 0 h _ hf
set_option maxHeartbeats 4000000 in
set_option maxRecDepth 20000 in
theorem f_X11_frameAt_ok (X : Nat × (Nat → Int32)) {F L : Nat} (hF : 1 ≤ F) (hL : 21 ≤ L) (nn : Nat) (a0 : Nat) (a1 : Int32) (h : mx_H) {r : (Int32 × mx_H)} (hf : f_X11_frameAt nn a0 a1 h = some r) : mx_R X F L 327 [.ref a0, .int a1] h (some (.int r.1), r.2, 0, 0) := by
  have hm : mx_mt 327 = some (yX11_frameAt, cX11_frameAt, 2, (some .int)) := mt_X11_frameAt
  show mx_S X F L 327 0 [(0, .ref a0), (1, .int a1)] [] h 0 0 (some (.int r.1), r.2, 0, 0)
  unfold f_X11_frameAt at hf
  refine mx_S.pu (pc2 := 1) (lv2 := [(0, .ref a0), (1, .int a1)]) (st2 := [.ref a0]) hm dX11_frameAt_0 rfl ?_
  refine mx_S.pu (pc2 := 2) (lv2 := [(0, .ref a0), (1, .int a1)]) (st2 := [.int a1, .ref a0]) hm dX11_frameAt_1 rfl ?_
  replace hf := mx_gd_el hf; obtain ⟨c1, hf⟩ := hf
  replace hf := mx_sv_el hf; obtain ⟨u2, e_u2, hf⟩ := hf
  refine sx_cv hm dX11_frameAt_2 rs_RX11_224 mt_X11_begins [.int a1] [] (b := a0) (ci := 11) rfl rfl rfl c1 (Nat.le_of_ble_eq_true rfl) (Nat.le_of_ble_eq_true rfl) (by omega) (by omega) (f_X11_begins_ok X (by omega) (by omega) nn a0 a1 h e_u2) ?_
  clear e_u2
  show mx_S X F L 327 5 [(0, .ref a0), (1, .int a1)] [.int u2.1] u2.2 0 0 (some (.int r.1), r.2, 0, 0)
  rcases mx_if_el hf with ⟨c5, hf⟩ | ⟨c5, hf⟩
  · refine sb_if_eq hm dX11_frameAt_5 (tgt := 17) rfl (fun _ => ?_) (fun z => absurd c5 z)
    refine sx_ic (v := (-1)) hm dX11_frameAt_17 (by decide) ?_
    cases hf
    exact sx_ire hm dX11_frameAt_18 rfl rfl
  · refine sb_if_eq hm dX11_frameAt_5 (tgt := 17) rfl (fun z => absurd z c5) (fun _ => ?_)
    refine mx_S.pu (pc2 := 9) (lv2 := [(0, .ref a0), (1, .int a1)]) (st2 := [.ref a0]) hm dX11_frameAt_8 rfl ?_
    replace hf := mx_sv_el hf; obtain ⟨v3, e_v3, hf⟩ := hf
    refine sx_get hm dX11_frameAt_9 rs_RX11_38 (xgr_el e_v3) ?_
    clear e_v3
    refine mx_S.pu (pc2 := 13) (lv2 := [(0, .ref a0), (1, .int a1)]) (st2 := [.int a1, .ref v3]) hm dX11_frameAt_12 rfl ?_
    replace hf := mx_sv_el hf; obtain ⟨v4, e_v4, hf⟩ := hf
    refine sx_ald hm dX11_frameAt_13 e_v4 ?_
    clear e_v4
    refine mx_S.pu (pc2 := 18) (lv2 := [(0, .ref a0), (1, .int a1)]) (st2 := [.int v4]) hm dX11_frameAt_14 rfl ?_
    cases hf
    exact sx_ire hm dX11_frameAt_18 rfl rfl
set_option maxHeartbeats 4000000 in
set_option maxRecDepth 20000 in
theorem f_X11_handler_ok (X : Nat × (Nat → Int32)) {F L : Nat} (hF : 2 ≤ F) (hL : 44 ≤ L) (nn : Nat) (a0 : Nat) (a1 : Int32) (a2 : Int32) (h : mx_H) {r : (Int32 × mx_H)} (hf : f_X11_handler nn a0 a1 a2 h = some r) : mx_R X F L 333 [.ref a0, .int a1, .int a2] h (some (.int r.1), r.2, 0, 0) := by
  have hm : mx_mt 333 = some (yX11_handler, cX11_handler, 3, (some .int)) := mt_X11_handler
  show mx_S X F L 333 0 [(0, .ref a0), (1, .int a1), (2, .int a2)] [] h 0 0 (some (.int r.1), r.2, 0, 0)
  unfold f_X11_handler at hf
  refine mx_S.pu (pc2 := 1) (lv2 := [(0, .ref a0), (1, .int a1), (2, .int a2)]) (st2 := [.ref a0]) hm dX11_handler_0 rfl ?_
  replace hf := mx_sv_el hf; obtain ⟨v1, e_v1, hf⟩ := hf
  refine sx_get hm dX11_handler_1 rs_RX11_62 (xgr_el e_v1) ?_
  clear e_v1
  refine mx_S.pu (pc2 := 5) (lv2 := [(0, .ref a0), (1, .int a1), (2, .int a2)]) (st2 := [.ref a0, .ref v1]) hm dX11_handler_4 rfl ?_
  refine sx_bi (v := 8) hm dX11_handler_5 (by decide) ?_
  replace hf := mx_gd_el hf; obtain ⟨c2, hf⟩ := hf
  replace hf := mx_sv_el hf; obtain ⟨u3, e_u3, hf⟩ := hf
  refine sx_cv hm dX11_handler_7 rs_RX11_189 mt_X11_info [.int 8] [.ref v1] (b := a0) (ci := 11) rfl rfl rfl c2 (Nat.le_of_ble_eq_true rfl) (Nat.le_of_ble_eq_true rfl) (by omega) (by omega) (f_X11_info_ok X (by omega) (by omega) nn a0 8 h e_u3) ?_
  clear e_u3
  show mx_S X F L 333 10 [(0, .ref a0), (1, .int a1), (2, .int a2)] [.int u3.1, .ref v1] u3.2 0 0 (some (.int r.1), r.2, 0, 0)
  refine mx_S.pu (pc2 := 11) (lv2 := [(0, .ref a0), (1, .int a1), (2, .int a2)]) (st2 := [.int a1, .int u3.1, .ref v1]) hm dX11_handler_10 rfl ?_
  refine sx_bi (v := 7) hm dX11_handler_11 (by decide) ?_
  replace hf := xl_el hf; obtain ⟨v4, e_v4, hf⟩ := hf
  refine mx_S.pu (pc2 := 14) (lv2 := [(0, .ref a0), (1, .int a1), (2, .int a2)]) (st2 := [.int v4, .int u3.1, .ref v1]) hm dX11_handler_13 (by rw [← e_v4]; rfl) ?_
  clear e_v4
  replace hf := xl_el hf; obtain ⟨v5, e_v5, hf⟩ := hf
  refine mx_S.pu (pc2 := 15) (lv2 := [(0, .ref a0), (1, .int a1), (2, .int a2)]) (st2 := [.int v5, .ref v1]) hm dX11_handler_14 (by rw [← e_v5]; rfl) ?_
  clear e_v5
  refine mx_S.pu (pc2 := 16) (lv2 := [(0, .ref a0), (1, .int a1), (2, .int a2)]) (st2 := [.int a2, .int v5, .ref v1]) hm dX11_handler_15 rfl ?_
  replace hf := xl_el hf; obtain ⟨v6, e_v6, hf⟩ := hf
  refine mx_S.pu (pc2 := 17) (lv2 := [(0, .ref a0), (1, .int a1), (2, .int a2)]) (st2 := [.int v6, .ref v1]) hm dX11_handler_16 (by rw [← e_v6]; rfl) ?_
  clear e_v6
  replace hf := mx_gd_el hf; obtain ⟨c7, hf⟩ := hf
  replace hf := mx_sv_el hf; obtain ⟨u8, e_u8, hf⟩ := hf
  refine sx_cv hm dX11_handler_17 rs_RX11_230 mt_X3_pairAt [.int v6] [] (b := v1) (ci := 3) rfl rfl rfl c7 (Nat.le_of_ble_eq_true rfl) (Nat.le_of_ble_eq_true rfl) (by omega) (by omega) (f_X3_pairAt_ok X (by omega) (by omega) nn v1 v6 u3.2 e_u8) ?_
  clear e_u8
  show mx_S X F L 333 20 [(0, .ref a0), (1, .int a1), (2, .int a2)] [.int u8.1] u8.2 0 0 (some (.int r.1), r.2, 0, 0)
  cases hf
  exact sx_ire hm dX11_handler_20 rfl rfl
set_option maxHeartbeats 4000000 in
set_option maxRecDepth 20000 in
theorem f_X11_handlerClass_ok (X : Nat × (Nat → Int32)) {F L : Nat} (hF : 2 ≤ F) (hL : 44 ≤ L) (nn : Nat) (a0 : Nat) (a1 : Int32) (h : mx_H) {r : (Int32 × mx_H)} (hf : f_X11_handlerClass nn a0 a1 h = some r) : mx_R X F L 334 [.ref a0, .int a1] h (some (.int r.1), r.2, 0, 0) := by
  have hm : mx_mt 334 = some (yX11_handlerClass, cX11_handlerClass, 2, (some .int)) := mt_X11_handlerClass
  show mx_S X F L 334 0 [(0, .ref a0), (1, .int a1)] [] h 0 0 (some (.int r.1), r.2, 0, 0)
  unfold f_X11_handlerClass at hf
  refine mx_S.pu (pc2 := 1) (lv2 := [(0, .ref a0), (1, .int a1)]) (st2 := [.ref a0]) hm dX11_handlerClass_0 rfl ?_
  replace hf := mx_sv_el hf; obtain ⟨v1, e_v1, hf⟩ := hf
  refine sx_get hm dX11_handlerClass_1 rs_RX11_23 (xgr_el e_v1) ?_
  clear e_v1
  refine mx_S.pu (pc2 := 5) (lv2 := [(0, .ref a0), (1, .int a1)]) (st2 := [.ref a0, .ref v1]) hm dX11_handlerClass_4 rfl ?_
  replace hf := mx_sv_el hf; obtain ⟨v2, e_v2, hf⟩ := hf
  refine sx_get hm dX11_handlerClass_5 rs_RX11_62 (xgr_el e_v2) ?_
  clear e_v2
  refine mx_S.pu (pc2 := 9) (lv2 := [(0, .ref a0), (1, .int a1)]) (st2 := [.ref a0, .ref v2, .ref v1]) hm dX11_handlerClass_8 rfl ?_
  refine sx_bi (v := 8) hm dX11_handlerClass_9 (by decide) ?_
  replace hf := mx_gd_el hf; obtain ⟨c3, hf⟩ := hf
  replace hf := mx_sv_el hf; obtain ⟨u4, e_u4, hf⟩ := hf
  refine sx_cv hm dX11_handlerClass_11 rs_RX11_189 mt_X11_info [.int 8] [.ref v2, .ref v1] (b := a0) (ci := 11) rfl rfl rfl c3 (Nat.le_of_ble_eq_true rfl) (Nat.le_of_ble_eq_true rfl) (by omega) (by omega) (f_X11_info_ok X (by omega) (by omega) nn a0 8 h e_u4) ?_
  clear e_u4
  show mx_S X F L 334 14 [(0, .ref a0), (1, .int a1)] [.int u4.1, .ref v2, .ref v1] u4.2 0 0 (some (.int r.1), r.2, 0, 0)
  refine mx_S.pu (pc2 := 15) (lv2 := [(0, .ref a0), (1, .int a1)]) (st2 := [.int a1, .int u4.1, .ref v2, .ref v1]) hm dX11_handlerClass_14 rfl ?_
  refine sx_bi (v := 7) hm dX11_handlerClass_15 (by decide) ?_
  replace hf := xl_el hf; obtain ⟨v5, e_v5, hf⟩ := hf
  refine mx_S.pu (pc2 := 18) (lv2 := [(0, .ref a0), (1, .int a1)]) (st2 := [.int v5, .int u4.1, .ref v2, .ref v1]) hm dX11_handlerClass_17 (by rw [← e_v5]; rfl) ?_
  clear e_v5
  replace hf := xl_el hf; obtain ⟨v6, e_v6, hf⟩ := hf
  refine mx_S.pu (pc2 := 19) (lv2 := [(0, .ref a0), (1, .int a1)]) (st2 := [.int v6, .ref v2, .ref v1]) hm dX11_handlerClass_18 (by rw [← e_v6]; rfl) ?_
  clear e_v6
  refine sx_bi (v := 6) hm dX11_handlerClass_19 (by decide) ?_
  replace hf := xl_el hf; obtain ⟨v7, e_v7, hf⟩ := hf
  refine mx_S.pu (pc2 := 22) (lv2 := [(0, .ref a0), (1, .int a1)]) (st2 := [.int v7, .ref v2, .ref v1]) hm dX11_handlerClass_21 (by rw [← e_v7]; rfl) ?_
  clear e_v7
  replace hf := mx_gd_el hf; obtain ⟨c8, hf⟩ := hf
  replace hf := mx_sv_el hf; obtain ⟨u9, e_u9, hf⟩ := hf
  refine sx_cv hm dX11_handlerClass_22 rs_RX11_183 mt_X3_byteAt [.int v7] [.ref v1] (b := v2) (ci := 3) rfl rfl rfl c8 (Nat.le_of_ble_eq_true rfl) (Nat.le_of_ble_eq_true rfl) (by omega) (by omega) (f_X3_byteAt_ok X (by omega) (by omega) nn v2 v7 u4.2 e_u9) ?_
  clear e_u9
  show mx_S X F L 334 25 [(0, .ref a0), (1, .int a1)] [.int u9.1, .ref v1] u9.2 0 0 (some (.int r.1), r.2, 0, 0)
  replace hf := mx_sv_el hf; obtain ⟨v10, e_v10, hf⟩ := hf
  refine sx_ald hm dX11_handlerClass_25 e_v10 ?_
  clear e_v10
  cases hf
  exact sx_ire hm dX11_handlerClass_26 rfl rfl
set_option maxHeartbeats 4000000 in
set_option maxRecDepth 20000 in
theorem j_X11_proveHandlers_100_ok (X : Nat × (Nat → Int32)) {F L : Nat} (hF : 3 ≤ F) (hL : 66 ≤ L) (nn : Nat) (l0 : Nat) (l1 : Int32) (h : mx_H) {r : (Int32 × mx_H)} (hf : j_X11_proveHandlers_100 nn l0 l1 h = some r) : mx_S X F L 332 100 [(0, .ref l0), (1, .int l1)] [] h 0 0 (some (.int r.1), r.2, 0, 0) := by
  have hm : mx_mt 332 = some (yX11_proveHandlers, cX11_proveHandlers, 6, (some .int)) := mt_X11_proveHandlers
  unfold j_X11_proveHandlers_100 at hf
  refine mx_S.pu (pc2 := 101) (lv2 := [(0, .ref l0), (1, .int l1)]) (st2 := [.ref l0]) hm dX11_proveHandlers_100 rfl ?_
  refine sx_bi (v := 8) hm dX11_proveHandlers_101 (by decide) ?_
  refine mx_S.pu (pc2 := 104) (lv2 := [(0, .ref l0), (1, .int l1)]) (st2 := [.int l1, .int 8, .ref l0]) hm dX11_proveHandlers_103 rfl ?_
  replace hf := mx_gd_el hf; obtain ⟨c1, hf⟩ := hf
  replace hf := mx_sv_el hf; obtain ⟨u2, e_u2, hf⟩ := hf
  refine sx_cv hm dX11_proveHandlers_104 rs_RX11_221 mt_X11_at [.int 8, .int l1] [] (b := l0) (ci := 11) rfl rfl rfl c1 (Nat.le_of_ble_eq_true rfl) (Nat.le_of_ble_eq_true rfl) (by omega) (by omega) (f_X11_at_ok X (by omega) (by omega) nn l0 8 l1 h e_u2) ?_
  clear e_u2
  show mx_S X F L 332 107 [(0, .ref l0), (1, .int l1)] [.int u2.1] u2.2 0 0 (some (.int r.1), r.2, 0, 0)
  cases hf
  exact sx_ire hm dX11_proveHandlers_107 rfl rfl
set_option maxHeartbeats 4000000 in
set_option maxRecDepth 20000 in
theorem j_X11_proveHandlers_68_ok (X : Nat × (Nat → Int32)) {F L : Nat} (hF : 3 ≤ F) (hL : 66 ≤ L) (nn : Nat) {kk_2 : Nat → Int32 → mx_H → Option (Int32 × mx_H)} (hk_2 : ∀ (l0 : Nat) (l1 : Int32) (h : mx_H) (r : (Int32 × mx_H)), kk_2 l0 l1 h = some r → mx_S X F L 332 2 [(0, .ref l0), (1, .int l1)] [] h 0 0 (some (.int r.1), r.2, 0, 0)) (l0 : Nat) (l1 : Int32) (l4 : Int32) (s0 : Int32) (h : mx_H) {r : (Int32 × mx_H)} (hf : j_X11_proveHandlers_68 nn kk_2 l0 l1 l4 s0 h = some r) : mx_S X F L 332 68 [(0, .ref l0), (1, .int l1), (4, .int l4)] [.int s0] h 0 0 (some (.int r.1), r.2, 0, 0) := by
  have hm : mx_mt 332 = some (yX11_proveHandlers, cX11_proveHandlers, 6, (some .int)) := mt_X11_proveHandlers
  unfold j_X11_proveHandlers_68 at hf
  refine mx_S.pu (pc2 := 70) (lv2 := [(5, .int s0), (0, .ref l0), (1, .int l1), (4, .int l4)]) (st2 := []) hm dX11_proveHandlers_68 rfl ?_
  refine mx_S.pu (pc2 := 72) (lv2 := [(5, .int s0), (0, .ref l0), (1, .int l1), (4, .int l4)]) (st2 := [.int s0]) hm dX11_proveHandlers_70 rfl ?_
  rcases mx_if_el hf with ⟨c13, hf⟩ | ⟨c13, hf⟩
  · refine sb_if_eq hm dX11_proveHandlers_72 (tgt := 100) rfl (fun _ => ?_) (fun z => absurd c13 z)
    refine mx_S.ext [(0, .ref l0), (1, .int l1)] (mx_sub_pos [1, 2] rfl (show ([5, 0, 1, 4] : List Nat).Nodup by decide)) ?_
    exact j_X11_proveHandlers_100_ok X hF hL nn l0 l1 h hf
  · refine sb_if_eq hm dX11_proveHandlers_72 (tgt := 100) rfl (fun z => absurd z c13) (fun _ => ?_)
    refine mx_S.pu (pc2 := 76) (lv2 := [(5, .int s0), (0, .ref l0), (1, .int l1), (4, .int l4)]) (st2 := [.ref l0]) hm dX11_proveHandlers_75 rfl ?_
    refine mx_S.pu (pc2 := 78) (lv2 := [(5, .int s0), (0, .ref l0), (1, .int l1), (4, .int l4)]) (st2 := [.int l4, .ref l0]) hm dX11_proveHandlers_76 rfl ?_
    replace hf := mx_gd_el hf; obtain ⟨c3, hf⟩ := hf
    replace hf := mx_sv_el hf; obtain ⟨u4, e_u4, hf⟩ := hf
    refine sx_cv hm dX11_proveHandlers_78 rs_RX11_242 mt_X11_frameAt [.int l4] [] (b := l0) (ci := 11) rfl rfl rfl c3 (Nat.le_of_ble_eq_true rfl) (Nat.le_of_ble_eq_true rfl) (by omega) (by omega) (f_X11_frameAt_ok X (by omega) (by omega) nn l0 l4 h e_u4) ?_
    clear e_u4
    show mx_S X F L 332 81 [(5, .int s0), (0, .ref l0), (1, .int l1), (4, .int l4)] [.int u4.1] u4.2 0 0 (some (.int r.1), r.2, 0, 0)
    rcases mx_if_el hf with ⟨c12, hf⟩ | ⟨c12, hf⟩
    · refine sb_if_lt hm dX11_proveHandlers_81 (tgt := 100) rfl (fun _ => ?_) (fun z => absurd c12 z)
      refine mx_S.ext [(0, .ref l0), (1, .int l1)] (mx_sub_pos [1, 2] rfl (show ([5, 0, 1, 4] : List Nat).Nodup by decide)) ?_
      exact j_X11_proveHandlers_100_ok X hF hL nn l0 l1 u4.2 hf
    · refine sb_if_lt hm dX11_proveHandlers_81 (tgt := 100) rfl (fun z => absurd z c12) (fun _ => ?_)
      refine mx_S.pu (pc2 := 85) (lv2 := [(5, .int s0), (0, .ref l0), (1, .int l1), (4, .int l4)]) (st2 := [.ref l0]) hm dX11_proveHandlers_84 rfl ?_
      replace hf := mx_sv_el hf; obtain ⟨v5, e_v5, hf⟩ := hf
      refine sx_get hm dX11_proveHandlers_85 rs_RX11_60 (xgr_el e_v5) ?_
      clear e_v5
      refine mx_S.pu (pc2 := 89) (lv2 := [(5, .int s0), (0, .ref l0), (1, .int l1), (4, .int l4)]) (st2 := [.ref l0, .ref v5]) hm dX11_proveHandlers_88 rfl ?_
      refine mx_S.pu (pc2 := 90) (lv2 := [(5, .int s0), (0, .ref l0), (1, .int l1), (4, .int l4)]) (st2 := [.int l1, .ref l0, .ref v5]) hm dX11_proveHandlers_89 rfl ?_
      replace hf := mx_gd_el hf; obtain ⟨c6, hf⟩ := hf
      replace hf := mx_sv_el hf; obtain ⟨u7, e_u7, hf⟩ := hf
      refine sx_cv hm dX11_proveHandlers_90 rs_RX11_245 mt_X11_handlerClass [.int l1] [.ref v5] (b := l0) (ci := 11) rfl rfl rfl c6 (Nat.le_of_ble_eq_true rfl) (Nat.le_of_ble_eq_true rfl) (by omega) (by omega) (f_X11_handlerClass_ok X (by omega) (by omega) nn l0 l1 u4.2 e_u7) ?_
      clear e_u7
      show mx_S X F L 332 93 [(5, .int s0), (0, .ref l0), (1, .int l1), (4, .int l4)] [.int u7.1, .ref v5] u7.2 0 0 (some (.int r.1), r.2, 0, 0)
      refine sx_ic (v := 1) hm dX11_proveHandlers_93 (by decide) ?_
      replace hf := mx_gd_el hf; obtain ⟨c8, hf⟩ := hf
      replace hf := mx_sv_el hf; obtain ⟨u9, e_u9, hf⟩ := hf
      refine sx_cv hm dX11_proveHandlers_94 rs_RX11_248 mt_X4_fits [.int u7.1, .int 1] [] (b := v5) (ci := 4) rfl rfl rfl c8 (Nat.le_of_ble_eq_true rfl) (Nat.le_of_ble_eq_true rfl) (by omega) (by omega) (f_X4_fits_ok X (by omega) (by omega) nn v5 u7.1 1 u7.2 e_u9) ?_
      clear e_u9
      show mx_S X F L 332 97 [(5, .int s0), (0, .ref l0), (1, .int l1), (4, .int l4)] [.int u9.1] u9.2 0 0 (some (.int r.1), r.2, 0, 0)
      rcases mx_if_el hf with ⟨c11, hf⟩ | ⟨c11, hf⟩
      · refine sb_if_ne hm dX11_proveHandlers_97 (tgt := 108) rfl (fun _ => ?_) (fun z => absurd c11 z)
        replace hf := xl_el hf; obtain ⟨v10, e_v10, hf⟩ := hf
        refine mx_S.pu (pc2 := 111) (lv2 := [(1, .int v10), (5, .int s0), (0, .ref l0), (4, .int l4)]) (st2 := []) hm dX11_proveHandlers_108 (by rw [← e_v10]; rfl) ?_
        clear e_v10
        refine mx_S.pu (pc2 := 2) (lv2 := [(1, .int v10), (5, .int s0), (0, .ref l0), (4, .int l4)]) (st2 := []) hm dX11_proveHandlers_111 rfl ?_
        refine mx_S.ext [(0, .ref l0), (1, .int v10)] (mx_sub_pos [2, 0] rfl (show ([1, 5, 0, 4] : List Nat).Nodup by decide)) ?_
        exact hk_2 l0 v10 u9.2 _ hf
      · refine sb_if_ne hm dX11_proveHandlers_97 (tgt := 108) rfl (fun z => absurd z c11) (fun _ => ?_)
        refine mx_S.ext [(0, .ref l0), (1, .int l1)] (mx_sub_pos [1, 2] rfl (show ([5, 0, 1, 4] : List Nat).Nodup by decide)) ?_
        exact j_X11_proveHandlers_100_ok X hF hL nn l0 l1 u9.2 hf
set_option maxHeartbeats 4000000 in
set_option maxRecDepth 20000 in
theorem j_X11_proveHandlers_67_ok (X : Nat × (Nat → Int32)) {F L : Nat} (hF : 3 ≤ F) (hL : 66 ≤ L) (nn : Nat) {kk_2 : Nat → Int32 → mx_H → Option (Int32 × mx_H)} (hk_2 : ∀ (l0 : Nat) (l1 : Int32) (h : mx_H) (r : (Int32 × mx_H)), kk_2 l0 l1 h = some r → mx_S X F L 332 2 [(0, .ref l0), (1, .int l1)] [] h 0 0 (some (.int r.1), r.2, 0, 0)) (l0 : Nat) (l1 : Int32) (l4 : Int32) (h : mx_H) {r : (Int32 × mx_H)} (hf : j_X11_proveHandlers_67 nn kk_2 l0 l1 l4 h = some r) : mx_S X F L 332 67 [(0, .ref l0), (1, .int l1), (4, .int l4)] [] h 0 0 (some (.int r.1), r.2, 0, 0) := by
  have hm : mx_mt 332 = some (yX11_proveHandlers, cX11_proveHandlers, 6, (some .int)) := mt_X11_proveHandlers
  unfold j_X11_proveHandlers_67 at hf
  refine sx_ic (v := 0) hm dX11_proveHandlers_67 (by decide) ?_
  exact j_X11_proveHandlers_68_ok X hF hL nn hk_2 l0 l1 l4 0 h hf
set_option maxHeartbeats 4000000 in
set_option maxRecDepth 20000 in
theorem j_X11_proveHandlers_58_ok (X : Nat × (Nat → Int32)) {F L : Nat} (hF : 3 ≤ F) (hL : 66 ≤ L) (nn : Nat) {kk_2 : Nat → Int32 → mx_H → Option (Int32 × mx_H)} (hk_2 : ∀ (l0 : Nat) (l1 : Int32) (h : mx_H) (r : (Int32 × mx_H)), kk_2 l0 l1 h = some r → mx_S X F L 332 2 [(0, .ref l0), (1, .int l1)] [] h 0 0 (some (.int r.1), r.2, 0, 0)) (l0 : Nat) (l1 : Int32) (l2 : Int32) (l3 : Int32) (l4 : Int32) (h : mx_H) {r : (Int32 × mx_H)} (hf : j_X11_proveHandlers_58 nn kk_2 l0 l1 l2 l3 l4 h = some r) : mx_S X F L 332 58 [(0, .ref l0), (1, .int l1), (2, .int l2), (3, .int l3), (4, .int l4)] [] h 0 0 (some (.int r.1), r.2, 0, 0) := by
  have hm : mx_mt 332 = some (yX11_proveHandlers, cX11_proveHandlers, 6, (some .int)) := mt_X11_proveHandlers
  unfold j_X11_proveHandlers_58 at hf
  refine mx_S.pu (pc2 := 59) (lv2 := [(0, .ref l0), (1, .int l1), (2, .int l2), (3, .int l3), (4, .int l4)]) (st2 := [.int l2]) hm dX11_proveHandlers_58 rfl ?_
  refine mx_S.pu (pc2 := 60) (lv2 := [(0, .ref l0), (1, .int l1), (2, .int l2), (3, .int l3), (4, .int l4)]) (st2 := [.int l3, .int l2]) hm dX11_proveHandlers_59 rfl ?_
  rcases mx_if_el hf with ⟨c14, hf⟩ | ⟨c14, hf⟩
  · refine sb_ic_ge hm dX11_proveHandlers_60 (tgt := 67) rfl (fun _ => ?_) (fun z => absurd c14 z)
    refine mx_S.ext [(0, .ref l0), (1, .int l1), (4, .int l4)] (mx_sub_pos [0, 1, 4] rfl (show ([0, 1, 2, 3, 4] : List Nat).Nodup by decide)) ?_
    exact j_X11_proveHandlers_67_ok X hF hL nn hk_2 l0 l1 l4 h hf
  · refine sb_ic_ge hm dX11_proveHandlers_60 (tgt := 67) rfl (fun z => absurd z c14) (fun _ => ?_)
    refine sx_ic (v := 1) hm dX11_proveHandlers_63 (by decide) ?_
    refine mx_S.pu (pc2 := 68) (lv2 := [(0, .ref l0), (1, .int l1), (2, .int l2), (3, .int l3), (4, .int l4)]) (st2 := [.int 1]) hm dX11_proveHandlers_64 rfl ?_
    refine mx_S.ext [(0, .ref l0), (1, .int l1), (4, .int l4)] (mx_sub_pos [0, 1, 4] rfl (show ([0, 1, 2, 3, 4] : List Nat).Nodup by decide)) ?_
    exact j_X11_proveHandlers_68_ok X hF hL nn hk_2 l0 l1 l4 1 h hf
set_option maxHeartbeats 4000000 in
set_option maxRecDepth 20000 in
theorem w_X11_proveHandlers_2_ok (X : Nat × (Nat → Int32)) {F L : Nat} (hF : 3 ≤ F) (hL : 66 ≤ L) (nn : Nat) : ∀ (k : Nat) (l0 : Nat) (l1 : Int32) (h : mx_H) (r : (Int32 × mx_H)), w_X11_proveHandlers_2 nn k l0 l1 h = some r → mx_S X F L 332 2 [(0, .ref l0), (1, .int l1)] [] h 0 0 (some (.int r.1), r.2, 0, 0) := by
  have hm : mx_mt 332 = some (yX11_proveHandlers, cX11_proveHandlers, 6, (some .int)) := mt_X11_proveHandlers
  intro k
  induction k with
  | zero => intro l0 l1 h r hf; cases hf
  | succ k ih =>
    intro l0 l1 h r hf
    unfold w_X11_proveHandlers_2 at hf
    refine mx_S.pu (pc2 := 3) (lv2 := [(0, .ref l0), (1, .int l1)]) (st2 := [.int l1]) hm dX11_proveHandlers_2 rfl ?_
    refine mx_S.pu (pc2 := 4) (lv2 := [(0, .ref l0), (1, .int l1)]) (st2 := [.ref l0, .int l1]) hm dX11_proveHandlers_3 rfl ?_
    refine sx_bi (v := 7) hm dX11_proveHandlers_4 (by decide) ?_
    replace hf := mx_gd_el hf; obtain ⟨c15, hf⟩ := hf
    replace hf := mx_sv_el hf; obtain ⟨u16, e_u16, hf⟩ := hf
    refine sx_cv hm dX11_proveHandlers_6 rs_RX11_189 mt_X11_info [.int 7] [.int l1] (b := l0) (ci := 11) rfl rfl rfl c15 (Nat.le_of_ble_eq_true rfl) (Nat.le_of_ble_eq_true rfl) (by omega) (by omega) (f_X11_info_ok X (by omega) (by omega) nn l0 7 h e_u16) ?_
    clear e_u16
    show mx_S X F L 332 9 [(0, .ref l0), (1, .int l1)] [.int u16.1, .int l1] u16.2 0 0 (some (.int r.1), r.2, 0, 0)
    rcases mx_if_el hf with ⟨c31, hf⟩ | ⟨c31, hf⟩
    · refine sb_ic_ge hm dX11_proveHandlers_9 (tgt := 114) rfl (fun _ => ?_) (fun z => absurd c31 z)
      refine sx_ic (v := 0) hm dX11_proveHandlers_114 (by decide) ?_
      cases hf
      exact sx_ire hm dX11_proveHandlers_115 rfl rfl
    · refine sb_ic_ge hm dX11_proveHandlers_9 (tgt := 114) rfl (fun z => absurd z c31) (fun _ => ?_)
      refine mx_S.pu (pc2 := 13) (lv2 := [(0, .ref l0), (1, .int l1)]) (st2 := [.ref l0]) hm dX11_proveHandlers_12 rfl ?_
      refine mx_S.pu (pc2 := 14) (lv2 := [(0, .ref l0), (1, .int l1)]) (st2 := [.int l1, .ref l0]) hm dX11_proveHandlers_13 rfl ?_
      refine sx_ic (v := 0) hm dX11_proveHandlers_14 (by decide) ?_
      replace hf := mx_gd_el hf; obtain ⟨c17, hf⟩ := hf
      replace hf := mx_sv_el hf; obtain ⟨u18, e_u18, hf⟩ := hf
      refine sx_cv hm dX11_proveHandlers_15 rs_RX11_239 mt_X11_handler [.int l1, .int 0] [] (b := l0) (ci := 11) rfl rfl rfl c17 (Nat.le_of_ble_eq_true rfl) (Nat.le_of_ble_eq_true rfl) (by omega) (by omega) (f_X11_handler_ok X (by omega) (by omega) nn l0 l1 0 u16.2 e_u18) ?_
      clear e_u18
      show mx_S X F L 332 18 [(0, .ref l0), (1, .int l1)] [.int u18.1] u18.2 0 0 (some (.int r.1), r.2, 0, 0)
      refine mx_S.pu (pc2 := 19) (lv2 := [(2, .int u18.1), (0, .ref l0), (1, .int l1)]) (st2 := []) hm dX11_proveHandlers_18 rfl ?_
      refine mx_S.pu (pc2 := 20) (lv2 := [(2, .int u18.1), (0, .ref l0), (1, .int l1)]) (st2 := [.ref l0]) hm dX11_proveHandlers_19 rfl ?_
      refine mx_S.pu (pc2 := 21) (lv2 := [(2, .int u18.1), (0, .ref l0), (1, .int l1)]) (st2 := [.int l1, .ref l0]) hm dX11_proveHandlers_20 rfl ?_
      refine sx_ic (v := 2) hm dX11_proveHandlers_21 (by decide) ?_
      replace hf := mx_gd_el hf; obtain ⟨c19, hf⟩ := hf
      replace hf := mx_sv_el hf; obtain ⟨u20, e_u20, hf⟩ := hf
      refine sx_cv hm dX11_proveHandlers_22 rs_RX11_239 mt_X11_handler [.int l1, .int 2] [] (b := l0) (ci := 11) rfl rfl rfl c19 (Nat.le_of_ble_eq_true rfl) (Nat.le_of_ble_eq_true rfl) (by omega) (by omega) (f_X11_handler_ok X (by omega) (by omega) nn l0 l1 2 u18.2 e_u20) ?_
      clear e_u20
      show mx_S X F L 332 25 [(2, .int u18.1), (0, .ref l0), (1, .int l1)] [.int u20.1] u20.2 0 0 (some (.int r.1), r.2, 0, 0)
      refine mx_S.pu (pc2 := 26) (lv2 := [(3, .int u20.1), (2, .int u18.1), (0, .ref l0), (1, .int l1)]) (st2 := []) hm dX11_proveHandlers_25 rfl ?_
      refine mx_S.pu (pc2 := 27) (lv2 := [(3, .int u20.1), (2, .int u18.1), (0, .ref l0), (1, .int l1)]) (st2 := [.ref l0]) hm dX11_proveHandlers_26 rfl ?_
      refine mx_S.pu (pc2 := 28) (lv2 := [(3, .int u20.1), (2, .int u18.1), (0, .ref l0), (1, .int l1)]) (st2 := [.int l1, .ref l0]) hm dX11_proveHandlers_27 rfl ?_
      refine sx_ic (v := 4) hm dX11_proveHandlers_28 (by decide) ?_
      replace hf := mx_gd_el hf; obtain ⟨c21, hf⟩ := hf
      replace hf := mx_sv_el hf; obtain ⟨u22, e_u22, hf⟩ := hf
      refine sx_cv hm dX11_proveHandlers_29 rs_RX11_239 mt_X11_handler [.int l1, .int 4] [] (b := l0) (ci := 11) rfl rfl rfl c21 (Nat.le_of_ble_eq_true rfl) (Nat.le_of_ble_eq_true rfl) (by omega) (by omega) (f_X11_handler_ok X (by omega) (by omega) nn l0 l1 4 u20.2 e_u22) ?_
      clear e_u22
      show mx_S X F L 332 32 [(3, .int u20.1), (2, .int u18.1), (0, .ref l0), (1, .int l1)] [.int u22.1] u22.2 0 0 (some (.int r.1), r.2, 0, 0)
      refine mx_S.pu (pc2 := 34) (lv2 := [(4, .int u22.1), (3, .int u20.1), (2, .int u18.1), (0, .ref l0), (1, .int l1)]) (st2 := []) hm dX11_proveHandlers_32 rfl ?_
      refine mx_S.pu (pc2 := 35) (lv2 := [(4, .int u22.1), (3, .int u20.1), (2, .int u18.1), (0, .ref l0), (1, .int l1)]) (st2 := [.ref l0]) hm dX11_proveHandlers_34 rfl ?_
      refine mx_S.pu (pc2 := 36) (lv2 := [(4, .int u22.1), (3, .int u20.1), (2, .int u18.1), (0, .ref l0), (1, .int l1)]) (st2 := [.int u18.1, .ref l0]) hm dX11_proveHandlers_35 rfl ?_
      replace hf := mx_gd_el hf; obtain ⟨c23, hf⟩ := hf
      replace hf := mx_sv_el hf; obtain ⟨u24, e_u24, hf⟩ := hf
      refine sx_cv hm dX11_proveHandlers_36 rs_RX11_224 mt_X11_begins [.int u18.1] [] (b := l0) (ci := 11) rfl rfl rfl c23 (Nat.le_of_ble_eq_true rfl) (Nat.le_of_ble_eq_true rfl) (by omega) (by omega) (f_X11_begins_ok X (by omega) (by omega) nn l0 u18.1 u22.2 e_u24) ?_
      clear e_u24
      show mx_S X F L 332 39 [(4, .int u22.1), (3, .int u20.1), (2, .int u18.1), (0, .ref l0), (1, .int l1)] [.int u24.1] u24.2 0 0 (some (.int r.1), r.2, 0, 0)
      rcases mx_if_el hf with ⟨c30, hf⟩ | ⟨c30, hf⟩
      · refine sb_if_eq hm dX11_proveHandlers_39 (tgt := 67) rfl (fun _ => ?_) (fun z => absurd c30 z)
        refine mx_S.ext [(0, .ref l0), (1, .int l1), (4, .int u22.1)] (mx_sub_pos [3, 4, 0] rfl (show ([4, 3, 2, 0, 1] : List Nat).Nodup by decide)) ?_
        exact j_X11_proveHandlers_67_ok X hF hL nn ih l0 l1 u22.1 u24.2 hf
      · refine sb_if_eq hm dX11_proveHandlers_39 (tgt := 67) rfl (fun z => absurd z c30) (fun _ => ?_)
        refine mx_S.pu (pc2 := 43) (lv2 := [(4, .int u22.1), (3, .int u20.1), (2, .int u18.1), (0, .ref l0), (1, .int l1)]) (st2 := [.ref l0]) hm dX11_proveHandlers_42 rfl ?_
        refine mx_S.pu (pc2 := 44) (lv2 := [(4, .int u22.1), (3, .int u20.1), (2, .int u18.1), (0, .ref l0), (1, .int l1)]) (st2 := [.int u20.1, .ref l0]) hm dX11_proveHandlers_43 rfl ?_
        replace hf := mx_gd_el hf; obtain ⟨c25, hf⟩ := hf
        replace hf := mx_sv_el hf; obtain ⟨u26, e_u26, hf⟩ := hf
        refine sx_cv hm dX11_proveHandlers_44 rs_RX11_224 mt_X11_begins [.int u20.1] [] (b := l0) (ci := 11) rfl rfl rfl c25 (Nat.le_of_ble_eq_true rfl) (Nat.le_of_ble_eq_true rfl) (by omega) (by omega) (f_X11_begins_ok X (by omega) (by omega) nn l0 u20.1 u24.2 e_u26) ?_
        clear e_u26
        show mx_S X F L 332 47 [(4, .int u22.1), (3, .int u20.1), (2, .int u18.1), (0, .ref l0), (1, .int l1)] [.int u26.1] u26.2 0 0 (some (.int r.1), r.2, 0, 0)
        rcases mx_if_el hf with ⟨c29, hf⟩ | ⟨c29, hf⟩
        · refine sb_if_ne hm dX11_proveHandlers_47 (tgt := 58) rfl (fun _ => ?_) (fun z => absurd c29 z)
          refine mx_S.ext [(0, .ref l0), (1, .int l1), (2, .int u18.1), (3, .int u20.1), (4, .int u22.1)] (mx_sub_pos [3, 4, 2, 1, 0] rfl (show ([4, 3, 2, 0, 1] : List Nat).Nodup by decide)) ?_
          exact j_X11_proveHandlers_58_ok X hF hL nn ih l0 l1 u18.1 u20.1 u22.1 u26.2 hf
        · refine sb_if_ne hm dX11_proveHandlers_47 (tgt := 58) rfl (fun z => absurd z c29) (fun _ => ?_)
          refine mx_S.pu (pc2 := 51) (lv2 := [(4, .int u22.1), (3, .int u20.1), (2, .int u18.1), (0, .ref l0), (1, .int l1)]) (st2 := [.int u20.1]) hm dX11_proveHandlers_50 rfl ?_
          refine mx_S.pu (pc2 := 52) (lv2 := [(4, .int u22.1), (3, .int u20.1), (2, .int u18.1), (0, .ref l0), (1, .int l1)]) (st2 := [.ref l0, .int u20.1]) hm dX11_proveHandlers_51 rfl ?_
          replace hf := mx_sv_el hf; obtain ⟨v27, e_v27, hf⟩ := hf
          refine sx_get hm dX11_proveHandlers_52 rs_RX11_209 (xgi_el e_v27) ?_
          clear e_v27
          rcases mx_if_el hf with ⟨c28, hf⟩ | ⟨c28, hf⟩
          · refine sb_ic_ne hm dX11_proveHandlers_55 (tgt := 67) rfl (fun _ => ?_) (fun z => absurd c28 z)
            refine mx_S.ext [(0, .ref l0), (1, .int l1), (4, .int u22.1)] (mx_sub_pos [3, 4, 0] rfl (show ([4, 3, 2, 0, 1] : List Nat).Nodup by decide)) ?_
            exact j_X11_proveHandlers_67_ok X hF hL nn ih l0 l1 u22.1 u26.2 hf
          · refine sb_ic_ne hm dX11_proveHandlers_55 (tgt := 67) rfl (fun z => absurd z c28) (fun _ => ?_)
            refine mx_S.ext [(0, .ref l0), (1, .int l1), (2, .int u18.1), (3, .int u20.1), (4, .int u22.1)] (mx_sub_pos [3, 4, 2, 1, 0] rfl (show ([4, 3, 2, 0, 1] : List Nat).Nodup by decide)) ?_
            exact j_X11_proveHandlers_58_ok X hF hL nn ih l0 l1 u18.1 u20.1 u22.1 u26.2 hf
set_option maxHeartbeats 4000000 in
set_option maxRecDepth 20000 in
theorem f_X11_proveHandlers_ok (X : Nat × (Nat → Int32)) {F L : Nat} (hF : 3 ≤ F) (hL : 66 ≤ L) (nn : Nat) (a0 : Nat) (h : mx_H) {r : (Int32 × mx_H)} (hf : f_X11_proveHandlers nn a0 h = some r) : mx_R X F L 332 [.ref a0] h (some (.int r.1), r.2, 0, 0) := by
  have hm : mx_mt 332 = some (yX11_proveHandlers, cX11_proveHandlers, 6, (some .int)) := mt_X11_proveHandlers
  show mx_S X F L 332 0 [(0, .ref a0)] [] h 0 0 (some (.int r.1), r.2, 0, 0)
  unfold f_X11_proveHandlers at hf
  refine sx_ic (v := 0) hm dX11_proveHandlers_0 (by decide) ?_
  refine mx_S.pu (pc2 := 2) (lv2 := [(1, .int 0), (0, .ref a0)]) (st2 := []) hm dX11_proveHandlers_1 rfl ?_
  refine mx_S.ext [(0, .ref a0), (1, .int 0)] (mx_sub_pos [1, 0] rfl (show ([1, 0] : List Nat).Nodup by decide)) ?_
  exact w_X11_proveHandlers_2_ok X hF hL nn nn a0 0 h _ hf
set_option maxHeartbeats 4000000 in
set_option maxRecDepth 20000 in
theorem f_X11_codeAt_ok (X : Nat × (Nat → Int32)) {F L : Nat} (hF : 2 ≤ F) (hL : 44 ≤ L) (nn : Nat) (a0 : Nat) (a1 : Int32) (h : mx_H) {r : (Int32 × mx_H)} (hf : f_X11_codeAt nn a0 a1 h = some r) : mx_R X F L 318 [.ref a0, .int a1] h (some (.int r.1), r.2, 0, 0) := by
  have hm : mx_mt 318 = some (yX11_codeAt, cX11_codeAt, 2, (some .int)) := mt_X11_codeAt
  show mx_S X F L 318 0 [(0, .ref a0), (1, .int a1)] [] h 0 0 (some (.int r.1), r.2, 0, 0)
  unfold f_X11_codeAt at hf
  refine mx_S.pu (pc2 := 1) (lv2 := [(0, .ref a0), (1, .int a1)]) (st2 := [.ref a0]) hm dX11_codeAt_0 rfl ?_
  replace hf := mx_sv_el hf; obtain ⟨v1, e_v1, hf⟩ := hf
  refine sx_get hm dX11_codeAt_1 rs_RX11_62 (xgr_el e_v1) ?_
  clear e_v1
  refine mx_S.pu (pc2 := 5) (lv2 := [(0, .ref a0), (1, .int a1)]) (st2 := [.ref a0, .ref v1]) hm dX11_codeAt_4 rfl ?_
  refine sx_bi (v := 6) hm dX11_codeAt_5 (by decide) ?_
  replace hf := mx_gd_el hf; obtain ⟨c2, hf⟩ := hf
  replace hf := mx_sv_el hf; obtain ⟨u3, e_u3, hf⟩ := hf
  refine sx_cv hm dX11_codeAt_7 rs_RX11_189 mt_X11_info [.int 6] [.ref v1] (b := a0) (ci := 11) rfl rfl rfl c2 (Nat.le_of_ble_eq_true rfl) (Nat.le_of_ble_eq_true rfl) (by omega) (by omega) (f_X11_info_ok X (by omega) (by omega) nn a0 6 h e_u3) ?_
  clear e_u3
  show mx_S X F L 318 10 [(0, .ref a0), (1, .int a1)] [.int u3.1, .ref v1] u3.2 0 0 (some (.int r.1), r.2, 0, 0)
  refine mx_S.pu (pc2 := 11) (lv2 := [(0, .ref a0), (1, .int a1)]) (st2 := [.int a1, .int u3.1, .ref v1]) hm dX11_codeAt_10 rfl ?_
  replace hf := xl_el hf; obtain ⟨v4, e_v4, hf⟩ := hf
  refine mx_S.pu (pc2 := 12) (lv2 := [(0, .ref a0), (1, .int a1)]) (st2 := [.int v4, .ref v1]) hm dX11_codeAt_11 (by rw [← e_v4]; rfl) ?_
  clear e_v4
  replace hf := mx_gd_el hf; obtain ⟨c5, hf⟩ := hf
  replace hf := mx_sv_el hf; obtain ⟨u6, e_u6, hf⟩ := hf
  refine sx_cv hm dX11_codeAt_12 rs_RX11_183 mt_X3_byteAt [.int v4] [] (b := v1) (ci := 3) rfl rfl rfl c5 (Nat.le_of_ble_eq_true rfl) (Nat.le_of_ble_eq_true rfl) (by omega) (by omega) (f_X3_byteAt_ok X (by omega) (by omega) nn v1 v4 u3.2 e_u6) ?_
  clear e_u6
  show mx_S X F L 318 15 [(0, .ref a0), (1, .int a1)] [.int u6.1] u6.2 0 0 (some (.int r.1), r.2, 0, 0)
  cases hf
  exact sx_ire hm dX11_codeAt_15 rfl rfl
set_option maxHeartbeats 4000000 in
set_option maxRecDepth 20000 in
theorem j_X11_isBare_116_ok (X : Nat × (Nat → Int32)) {F L : Nat} (hF : 1 ≤ F) (hL : 20 ≤ L) (nn : Nat) (h : mx_H) {r : (Int32 × mx_H)} (hf : j_X11_isBare_116 nn h = some r) : mx_S X F L 323 116 [] [] h 0 0 (some (.int r.1), r.2, 0, 0) := by
  have hm : mx_mt 323 = some (yX11_isBare, cX11_isBare, 1, (some .boolean)) := mt_X11_isBare
  unfold j_X11_isBare_116 at hf
  refine sx_ic (v := 1) hm dX11_isBare_116 (by decide) ?_
  cases hf
  exact sx_ire hm dX11_isBare_117 rfl (by decide)
set_option maxHeartbeats 4000000 in
set_option maxRecDepth 20000 in
theorem f_X11_isBare_ok (X : Nat × (Nat → Int32)) {F L : Nat} (hF : 1 ≤ F) (hL : 20 ≤ L) (nn : Nat) (a0 : Int32) (h : mx_H) {r : (Int32 × mx_H)} (hf : f_X11_isBare nn a0 h = some r) : mx_R X F L 323 [.int a0] h (some (.int r.1), r.2, 0, 0) := by
  have hm : mx_mt 323 = some (yX11_isBare, cX11_isBare, 1, (some .boolean)) := mt_X11_isBare
  show mx_S X F L 323 0 [(0, .int a0)] [] h 0 0 (some (.int r.1), r.2, 0, 0)
  unfold f_X11_isBare at hf
  refine mx_S.pu (pc2 := 1) (lv2 := [(0, .int a0)]) (st2 := [.int a0]) hm dX11_isBare_0 rfl ?_
  rcases mx_if_el hf with ⟨n_0, hf⟩ | ⟨n_0, hf⟩
  · refine sx_look hm dX11_isBare_1 rfl (off := 115) (by rw [n_0]; rfl) (tgt := 116) rfl ?_
    clear n_0
    refine mx_S.ext [] (mx_sub_pos [] rfl (show ([0] : List Nat).Nodup by decide)) ?_
    exact j_X11_isBare_116_ok X hF hL nn h hf
  · rcases mx_if_el hf with ⟨n_1, hf⟩ | ⟨n_1, hf⟩
    · refine sx_look hm dX11_isBare_1 rfl (off := 115) (by rw [n_1]; rfl) (tgt := 116) rfl ?_
      clear n_0 n_1
      refine mx_S.ext [] (mx_sub_pos [] rfl (show ([0] : List Nat).Nodup by decide)) ?_
      exact j_X11_isBare_116_ok X hF hL nn h hf
    · rcases mx_if_el hf with ⟨n_2, hf⟩ | ⟨n_2, hf⟩
      · refine sx_look hm dX11_isBare_1 rfl (off := 115) (by rw [n_2]; rfl) (tgt := 116) rfl ?_
        clear n_0 n_1 n_2
        refine mx_S.ext [] (mx_sub_pos [] rfl (show ([0] : List Nat).Nodup by decide)) ?_
        exact j_X11_isBare_116_ok X hF hL nn h hf
      · rcases mx_if_el hf with ⟨n_3, hf⟩ | ⟨n_3, hf⟩
        · refine sx_look hm dX11_isBare_1 rfl (off := 115) (by rw [n_3]; rfl) (tgt := 116) rfl ?_
          clear n_0 n_1 n_2 n_3
          refine mx_S.ext [] (mx_sub_pos [] rfl (show ([0] : List Nat).Nodup by decide)) ?_
          exact j_X11_isBare_116_ok X hF hL nn h hf
        · rcases mx_if_el hf with ⟨n_4, hf⟩ | ⟨n_4, hf⟩
          · refine sx_look hm dX11_isBare_1 rfl (off := 115) (by rw [n_4]; rfl) (tgt := 116) rfl ?_
            clear n_0 n_1 n_2 n_3 n_4
            refine mx_S.ext [] (mx_sub_pos [] rfl (show ([0] : List Nat).Nodup by decide)) ?_
            exact j_X11_isBare_116_ok X hF hL nn h hf
          · rcases mx_if_el hf with ⟨n_5, hf⟩ | ⟨n_5, hf⟩
            · refine sx_look hm dX11_isBare_1 rfl (off := 115) (by rw [n_5]; rfl) (tgt := 116) rfl ?_
              clear n_0 n_1 n_2 n_3 n_4 n_5
              refine mx_S.ext [] (mx_sub_pos [] rfl (show ([0] : List Nat).Nodup by decide)) ?_
              exact j_X11_isBare_116_ok X hF hL nn h hf
            · rcases mx_if_el hf with ⟨n_6, hf⟩ | ⟨n_6, hf⟩
              · refine sx_look hm dX11_isBare_1 rfl (off := 115) (by rw [n_6]; rfl) (tgt := 116) rfl ?_
                clear n_0 n_1 n_2 n_3 n_4 n_5 n_6
                refine mx_S.ext [] (mx_sub_pos [] rfl (show ([0] : List Nat).Nodup by decide)) ?_
                exact j_X11_isBare_116_ok X hF hL nn h hf
              · rcases mx_if_el hf with ⟨n_7, hf⟩ | ⟨n_7, hf⟩
                · refine sx_look hm dX11_isBare_1 rfl (off := 115) (by rw [n_7]; rfl) (tgt := 116) rfl ?_
                  clear n_0 n_1 n_2 n_3 n_4 n_5 n_6 n_7
                  refine mx_S.ext [] (mx_sub_pos [] rfl (show ([0] : List Nat).Nodup by decide)) ?_
                  exact j_X11_isBare_116_ok X hF hL nn h hf
                · rcases mx_if_el hf with ⟨n_8, hf⟩ | ⟨n_8, hf⟩
                  · refine sx_look hm dX11_isBare_1 rfl (off := 115) (by rw [n_8]; rfl) (tgt := 116) rfl ?_
                    clear n_0 n_1 n_2 n_3 n_4 n_5 n_6 n_7 n_8
                    refine mx_S.ext [] (mx_sub_pos [] rfl (show ([0] : List Nat).Nodup by decide)) ?_
                    exact j_X11_isBare_116_ok X hF hL nn h hf
                  · rcases mx_if_el hf with ⟨n_9, hf⟩ | ⟨n_9, hf⟩
                    · refine sx_look hm dX11_isBare_1 rfl (off := 115) (by rw [n_9]; rfl) (tgt := 116) rfl ?_
                      clear n_0 n_1 n_2 n_3 n_4 n_5 n_6 n_7 n_8 n_9
                      refine mx_S.ext [] (mx_sub_pos [] rfl (show ([0] : List Nat).Nodup by decide)) ?_
                      exact j_X11_isBare_116_ok X hF hL nn h hf
                    · rcases mx_if_el hf with ⟨n_10, hf⟩ | ⟨n_10, hf⟩
                      · refine sx_look hm dX11_isBare_1 rfl (off := 115) (by rw [n_10]; rfl) (tgt := 116) rfl ?_
                        clear n_0 n_1 n_2 n_3 n_4 n_5 n_6 n_7 n_8 n_9 n_10
                        refine mx_S.ext [] (mx_sub_pos [] rfl (show ([0] : List Nat).Nodup by decide)) ?_
                        exact j_X11_isBare_116_ok X hF hL nn h hf
                      · rcases mx_if_el hf with ⟨n_11, hf⟩ | ⟨n_11, hf⟩
                        · refine sx_look hm dX11_isBare_1 rfl (off := 115) (by rw [n_11]; rfl) (tgt := 116) rfl ?_
                          clear n_0 n_1 n_2 n_3 n_4 n_5 n_6 n_7 n_8 n_9 n_10 n_11
                          refine mx_S.ext [] (mx_sub_pos [] rfl (show ([0] : List Nat).Nodup by decide)) ?_
                          exact j_X11_isBare_116_ok X hF hL nn h hf
                        · rcases mx_if_el hf with ⟨n_12, hf⟩ | ⟨n_12, hf⟩
                          · refine sx_look hm dX11_isBare_1 rfl (off := 115) (by rw [n_12]; rfl) (tgt := 116) rfl ?_
                            clear n_0 n_1 n_2 n_3 n_4 n_5 n_6 n_7 n_8 n_9 n_10 n_11 n_12
                            refine mx_S.ext [] (mx_sub_pos [] rfl (show ([0] : List Nat).Nodup by decide)) ?_
                            exact j_X11_isBare_116_ok X hF hL nn h hf
                          · refine sx_look hm dX11_isBare_1 rfl (off := 117) (by show Op.lookupswitch.offset [(46, 115), (50, 115), (79, 115), (83, 115), (87, 115), (89, 115), (116, 115), (172, 115), (176, 115), (177, 115), (186, 115), (190, 115), (191, 115)] 117 a0.toInt = _; rw [lv_osw n_0 (by decide), lv_osw n_1 (by decide), lv_osw n_2 (by decide), lv_osw n_3 (by decide), lv_osw n_4 (by decide), lv_osw n_5 (by decide), lv_osw n_6 (by decide), lv_osw n_7 (by decide), lv_osw n_8 (by decide), lv_osw n_9 (by decide), lv_osw n_10 (by decide), lv_osw n_11 (by decide), lv_osw n_12 (by decide)]; rfl) (tgt := 118) rfl ?_
                            refine mx_S.pu (pc2 := 119) (lv2 := [(0, .int a0)]) (st2 := [.int a0]) hm dX11_isBare_118 rfl ?_
                            replace hf := mx_sv_el hf; obtain ⟨u1, e_u1, hf⟩ := hf
                            refine sx_cs hm dX11_isBare_119 rs_RX11_201 mt_X11_isArithmetic [.int a0] [] rfl rfl (Nat.le_of_ble_eq_true rfl) (Nat.le_of_ble_eq_true rfl) (by omega) (by omega) (f_X11_isArithmetic_ok X (by omega) (by omega) nn a0 h e_u1) ?_
                            clear e_u1
                            show mx_S X F L 323 122 [(0, .int a0)] [.int u1.1] u1.2 0 0 (some (.int r.1), r.2, 0, 0)
                            replace hf := mx_gd_el hf; obtain ⟨c2, hf⟩ := hf
                            cases hf
                            exact sx_ire hm dX11_isBare_122 rfl (xbq_ok c2).1
set_option maxHeartbeats 4000000 in
set_option maxRecDepth 20000 in
theorem j_X11_widthOf_156_ok (X : Nat × (Nat → Int32)) {F L : Nat} (hF : 2 ≤ F) (hL : 40 ≤ L) (nn : Nat) (h : mx_H) {r : (Int32 × mx_H)} (hf : j_X11_widthOf_156 nn h = some r) : mx_S X F L 320 156 [] [] h 0 0 (some (.int r.1), r.2, 0, 0) := by
  have hm : mx_mt 320 = some (yX11_widthOf, cX11_widthOf, 1, (some .int)) := mt_X11_widthOf
  unfold j_X11_widthOf_156 at hf
  refine sx_ic (v := 2) hm dX11_widthOf_156 (by decide) ?_
  cases hf
  exact sx_ire hm dX11_widthOf_157 rfl rfl
set_option maxHeartbeats 4000000 in
set_option maxRecDepth 20000 in
theorem f_X11_widthOf_ok (X : Nat × (Nat → Int32)) {F L : Nat} (hF : 2 ≤ F) (hL : 40 ≤ L) (nn : Nat) (a0 : Int32) (h : mx_H) {r : (Int32 × mx_H)} (hf : f_X11_widthOf nn a0 h = some r) : mx_R X F L 320 [.int a0] h (some (.int r.1), r.2, 0, 0) := by
  have hm : mx_mt 320 = some (yX11_widthOf, cX11_widthOf, 1, (some .int)) := mt_X11_widthOf
  show mx_S X F L 320 0 [(0, .int a0)] [] h 0 0 (some (.int r.1), r.2, 0, 0)
  unfold f_X11_widthOf at hf
  refine mx_S.pu (pc2 := 1) (lv2 := [(0, .int a0)]) (st2 := [.int a0]) hm dX11_widthOf_0 rfl ?_
  refine sx_bi (v := 8) hm dX11_widthOf_1 (by decide) ?_
  rcases mx_if_el hf with ⟨c5, hf⟩ | ⟨c5, hf⟩
  · refine sb_ic_le hm dX11_widthOf_3 (tgt := 13) rfl (fun _ => ?_) (fun z => absurd c5 z)
    refine sx_ic (v := 1) hm dX11_widthOf_13 (by decide) ?_
    cases hf
    exact sx_ire hm dX11_widthOf_14 rfl rfl
  · refine sb_ic_le hm dX11_widthOf_3 (tgt := 13) rfl (fun z => absurd z c5) (fun _ => ?_)
    refine mx_S.pu (pc2 := 7) (lv2 := [(0, .int a0)]) (st2 := [.int a0]) hm dX11_widthOf_6 rfl ?_
    replace hf := mx_sv_el hf; obtain ⟨u1, e_u1, hf⟩ := hf
    refine sx_cs hm dX11_widthOf_7 rs_RX11_195 mt_X11_isBare [.int a0] [] rfl rfl (Nat.le_of_ble_eq_true rfl) (Nat.le_of_ble_eq_true rfl) (by omega) (by omega) (f_X11_isBare_ok X (by omega) (by omega) nn a0 h e_u1) ?_
    clear e_u1
    show mx_S X F L 320 10 [(0, .int a0)] [.int u1.1] u1.2 0 0 (some (.int r.1), r.2, 0, 0)
    rcases mx_if_el hf with ⟨c4, hf⟩ | ⟨c4, hf⟩
    · refine sb_if_eq hm dX11_widthOf_10 (tgt := 15) rfl (fun _ => ?_) (fun z => absurd c4 z)
      refine mx_S.pu (pc2 := 16) (lv2 := [(0, .int a0)]) (st2 := [.int a0]) hm dX11_widthOf_15 rfl ?_
      replace hf := mx_sv_el hf; obtain ⟨u2, e_u2, hf⟩ := hf
      refine sx_cs hm dX11_widthOf_16 rs_RX11_198 mt_X11_isJump [.int a0] [] rfl rfl (Nat.le_of_ble_eq_true rfl) (Nat.le_of_ble_eq_true rfl) (by omega) (by omega) (f_X11_isJump_ok X (by omega) (by omega) nn a0 u1.2 e_u2) ?_
      clear e_u2
      show mx_S X F L 320 19 [(0, .int a0)] [.int u2.1] u2.2 0 0 (some (.int r.1), r.2, 0, 0)
      rcases mx_if_el hf with ⟨c3, hf⟩ | ⟨c3, hf⟩
      · refine sb_if_eq hm dX11_widthOf_19 (tgt := 24) rfl (fun _ => ?_) (fun z => absurd c3 z)
        refine mx_S.pu (pc2 := 25) (lv2 := [(0, .int a0)]) (st2 := [.int a0]) hm dX11_widthOf_24 rfl ?_
        rcases mx_if_el hf with ⟨n_0, hf⟩ | ⟨n_0, hf⟩
        · refine sx_look hm dX11_widthOf_25 rfl (off := 131) (by rw [n_0]; rfl) (tgt := 156) rfl ?_
          clear n_0
          refine mx_S.ext [] (mx_sub_pos [] rfl (show ([0] : List Nat).Nodup by decide)) ?_
          exact j_X11_widthOf_156_ok X hF hL nn u2.2 hf
        · rcases mx_if_el hf with ⟨n_1, hf⟩ | ⟨n_1, hf⟩
          · refine sx_look hm dX11_widthOf_25 rfl (off := 131) (by rw [n_1]; rfl) (tgt := 156) rfl ?_
            clear n_0 n_1
            refine mx_S.ext [] (mx_sub_pos [] rfl (show ([0] : List Nat).Nodup by decide)) ?_
            exact j_X11_widthOf_156_ok X hF hL nn u2.2 hf
          · rcases mx_if_el hf with ⟨n_2, hf⟩ | ⟨n_2, hf⟩
            · refine sx_look hm dX11_widthOf_25 rfl (off := 131) (by rw [n_2]; rfl) (tgt := 156) rfl ?_
              clear n_0 n_1 n_2
              refine mx_S.ext [] (mx_sub_pos [] rfl (show ([0] : List Nat).Nodup by decide)) ?_
              exact j_X11_widthOf_156_ok X hF hL nn u2.2 hf
            · rcases mx_if_el hf with ⟨n_3, hf⟩ | ⟨n_3, hf⟩
              · refine sx_look hm dX11_widthOf_25 rfl (off := 131) (by rw [n_3]; rfl) (tgt := 156) rfl ?_
                clear n_0 n_1 n_2 n_3
                refine mx_S.ext [] (mx_sub_pos [] rfl (show ([0] : List Nat).Nodup by decide)) ?_
                exact j_X11_widthOf_156_ok X hF hL nn u2.2 hf
              · rcases mx_if_el hf with ⟨n_4, hf⟩ | ⟨n_4, hf⟩
                · refine sx_look hm dX11_widthOf_25 rfl (off := 131) (by rw [n_4]; rfl) (tgt := 156) rfl ?_
                  clear n_0 n_1 n_2 n_3 n_4
                  refine mx_S.ext [] (mx_sub_pos [] rfl (show ([0] : List Nat).Nodup by decide)) ?_
                  exact j_X11_widthOf_156_ok X hF hL nn u2.2 hf
                · rcases mx_if_el hf with ⟨n_5, hf⟩ | ⟨n_5, hf⟩
                  · refine sx_look hm dX11_widthOf_25 rfl (off := 131) (by rw [n_5]; rfl) (tgt := 156) rfl ?_
                    clear n_0 n_1 n_2 n_3 n_4 n_5
                    refine mx_S.ext [] (mx_sub_pos [] rfl (show ([0] : List Nat).Nodup by decide)) ?_
                    exact j_X11_widthOf_156_ok X hF hL nn u2.2 hf
                  · rcases mx_if_el hf with ⟨n_6, hf⟩ | ⟨n_6, hf⟩
                    · refine sx_look hm dX11_widthOf_25 rfl (off := 131) (by rw [n_6]; rfl) (tgt := 156) rfl ?_
                      clear n_0 n_1 n_2 n_3 n_4 n_5 n_6
                      refine mx_S.ext [] (mx_sub_pos [] rfl (show ([0] : List Nat).Nodup by decide)) ?_
                      exact j_X11_widthOf_156_ok X hF hL nn u2.2 hf
                    · rcases mx_if_el hf with ⟨n_7, hf⟩ | ⟨n_7, hf⟩
                      · refine sx_look hm dX11_widthOf_25 rfl (off := 131) (by rw [n_7]; rfl) (tgt := 156) rfl ?_
                        clear n_0 n_1 n_2 n_3 n_4 n_5 n_6 n_7
                        refine mx_S.ext [] (mx_sub_pos [] rfl (show ([0] : List Nat).Nodup by decide)) ?_
                        exact j_X11_widthOf_156_ok X hF hL nn u2.2 hf
                      · rcases mx_if_el hf with ⟨n_8, hf⟩ | ⟨n_8, hf⟩
                        · refine sx_look hm dX11_widthOf_25 rfl (off := 131) (by rw [n_8]; rfl) (tgt := 156) rfl ?_
                          clear n_0 n_1 n_2 n_3 n_4 n_5 n_6 n_7 n_8
                          refine mx_S.ext [] (mx_sub_pos [] rfl (show ([0] : List Nat).Nodup by decide)) ?_
                          exact j_X11_widthOf_156_ok X hF hL nn u2.2 hf
                        · rcases mx_if_el hf with ⟨n_9, hf⟩ | ⟨n_9, hf⟩
                          · refine sx_look hm dX11_widthOf_25 rfl (off := 131) (by rw [n_9]; rfl) (tgt := 156) rfl ?_
                            clear n_0 n_1 n_2 n_3 n_4 n_5 n_6 n_7 n_8 n_9
                            refine mx_S.ext [] (mx_sub_pos [] rfl (show ([0] : List Nat).Nodup by decide)) ?_
                            exact j_X11_widthOf_156_ok X hF hL nn u2.2 hf
                          · rcases mx_if_el hf with ⟨n_10, hf⟩ | ⟨n_10, hf⟩
                            · refine sx_look hm dX11_widthOf_25 rfl (off := 131) (by rw [n_10]; rfl) (tgt := 156) rfl ?_
                              clear n_0 n_1 n_2 n_3 n_4 n_5 n_6 n_7 n_8 n_9 n_10
                              refine mx_S.ext [] (mx_sub_pos [] rfl (show ([0] : List Nat).Nodup by decide)) ?_
                              exact j_X11_widthOf_156_ok X hF hL nn u2.2 hf
                            · rcases mx_if_el hf with ⟨n_11, hf⟩ | ⟨n_11, hf⟩
                              · refine sx_look hm dX11_widthOf_25 rfl (off := 131) (by rw [n_11]; rfl) (tgt := 156) rfl ?_
                                clear n_0 n_1 n_2 n_3 n_4 n_5 n_6 n_7 n_8 n_9 n_10 n_11
                                refine mx_S.ext [] (mx_sub_pos [] rfl (show ([0] : List Nat).Nodup by decide)) ?_
                                exact j_X11_widthOf_156_ok X hF hL nn u2.2 hf
                              · rcases mx_if_el hf with ⟨n_12, hf⟩ | ⟨n_12, hf⟩
                                · refine sx_look hm dX11_widthOf_25 rfl (off := 131) (by rw [n_12]; rfl) (tgt := 156) rfl ?_
                                  clear n_0 n_1 n_2 n_3 n_4 n_5 n_6 n_7 n_8 n_9 n_10 n_11 n_12
                                  refine mx_S.ext [] (mx_sub_pos [] rfl (show ([0] : List Nat).Nodup by decide)) ?_
                                  exact j_X11_widthOf_156_ok X hF hL nn u2.2 hf
                                · rcases mx_if_el hf with ⟨n_13, hf⟩ | ⟨n_13, hf⟩
                                  · refine sx_look hm dX11_widthOf_25 rfl (off := 131) (by rw [n_13]; rfl) (tgt := 156) rfl ?_
                                    clear n_0 n_1 n_2 n_3 n_4 n_5 n_6 n_7 n_8 n_9 n_10 n_11 n_12 n_13
                                    refine mx_S.ext [] (mx_sub_pos [] rfl (show ([0] : List Nat).Nodup by decide)) ?_
                                    exact j_X11_widthOf_156_ok X hF hL nn u2.2 hf
                                  · rcases mx_if_el hf with ⟨n_14, hf⟩ | ⟨n_14, hf⟩
                                    · refine sx_look hm dX11_widthOf_25 rfl (off := 131) (by rw [n_14]; rfl) (tgt := 156) rfl ?_
                                      clear n_0 n_1 n_2 n_3 n_4 n_5 n_6 n_7 n_8 n_9 n_10 n_11 n_12 n_13 n_14
                                      refine mx_S.ext [] (mx_sub_pos [] rfl (show ([0] : List Nat).Nodup by decide)) ?_
                                      exact j_X11_widthOf_156_ok X hF hL nn u2.2 hf
                                    · refine sx_look hm dX11_widthOf_25 rfl (off := 133) (by show Op.lookupswitch.offset [(16, 131), (18, 131), (21, 131), (25, 131), (54, 131), (58, 131), (180, 131), (181, 131), (182, 131), (184, 131), (187, 131), (188, 131), (189, 131), (192, 131), (193, 131)] 133 a0.toInt = _; rw [lv_osw n_0 (by decide), lv_osw n_1 (by decide), lv_osw n_2 (by decide), lv_osw n_3 (by decide), lv_osw n_4 (by decide), lv_osw n_5 (by decide), lv_osw n_6 (by decide), lv_osw n_7 (by decide), lv_osw n_8 (by decide), lv_osw n_9 (by decide), lv_osw n_10 (by decide), lv_osw n_11 (by decide), lv_osw n_12 (by decide), lv_osw n_13 (by decide), lv_osw n_14 (by decide)]; rfl) (tgt := 158) rfl ?_
                                      refine sx_ic (v := 0) hm dX11_widthOf_158 (by decide) ?_
                                      cases hf
                                      exact sx_ire hm dX11_widthOf_159 rfl rfl
      · refine sb_if_eq hm dX11_widthOf_19 (tgt := 24) rfl (fun z => absurd z c3) (fun _ => ?_)
        refine sx_ic (v := 3) hm dX11_widthOf_22 (by decide) ?_
        cases hf
        exact sx_ire hm dX11_widthOf_23 rfl rfl
    · refine sb_if_eq hm dX11_widthOf_10 (tgt := 15) rfl (fun z => absurd z c4) (fun _ => ?_)
      refine sx_ic (v := 1) hm dX11_widthOf_13 (by decide) ?_
      cases hf
      exact sx_ire hm dX11_widthOf_14 rfl rfl
set_option maxHeartbeats 4000000 in
set_option maxRecDepth 20000 in
theorem j_X11_proveInstructions_64_ok (X : Nat × (Nat → Int32)) {F L : Nat} (hF : 3 ≤ F) (hL : 65 ≤ L) (nn : Nat) (l0 : Nat) (l1 : Int32) (h : mx_H) {r : (Int32 × mx_H)} (hf : j_X11_proveInstructions_64 nn l0 l1 h = some r) : mx_S X F L 325 64 [(0, .ref l0), (1, .int l1)] [] h 0 0 (some (.int r.1), r.2, 0, 0) := by
  have hm : mx_mt 325 = some (yX11_proveInstructions, cX11_proveInstructions, 3, (some .int)) := mt_X11_proveInstructions
  unfold j_X11_proveInstructions_64 at hf
  refine mx_S.pu (pc2 := 65) (lv2 := [(0, .ref l0), (1, .int l1)]) (st2 := [.ref l0]) hm dX11_proveInstructions_64 rfl ?_
  refine sx_bi (v := 6) hm dX11_proveInstructions_65 (by decide) ?_
  refine mx_S.pu (pc2 := 68) (lv2 := [(0, .ref l0), (1, .int l1)]) (st2 := [.int l1, .int 6, .ref l0]) hm dX11_proveInstructions_67 rfl ?_
  replace hf := mx_gd_el hf; obtain ⟨c1, hf⟩ := hf
  replace hf := mx_sv_el hf; obtain ⟨u2, e_u2, hf⟩ := hf
  refine sx_cv hm dX11_proveInstructions_68 rs_RX11_221 mt_X11_at [.int 6, .int l1] [] (b := l0) (ci := 11) rfl rfl rfl c1 (Nat.le_of_ble_eq_true rfl) (Nat.le_of_ble_eq_true rfl) (by omega) (by omega) (f_X11_at_ok X (by omega) (by omega) nn l0 6 l1 h e_u2) ?_
  clear e_u2
  show mx_S X F L 325 71 [(0, .ref l0), (1, .int l1)] [.int u2.1] u2.2 0 0 (some (.int r.1), r.2, 0, 0)
  cases hf
  exact sx_ire hm dX11_proveInstructions_71 rfl rfl
set_option maxHeartbeats 4000000 in
set_option maxRecDepth 20000 in
theorem w_X11_proveInstructions_33_ok (X : Nat × (Nat → Int32)) {F L : Nat} (hF : 3 ≤ F) (hL : 65 ≤ L) (nn : Nat) : ∀ (k : Nat) (l0 : Nat) (l1 : Int32) (h : mx_H) (r : (Int32 × mx_H)), w_X11_proveInstructions_33 nn k l0 l1 h = some r → mx_S X F L 325 33 [(0, .ref l0), (1, .int l1)] [] h 0 0 (some (.int r.1), r.2, 0, 0) := by
  have hm : mx_mt 325 = some (yX11_proveInstructions, cX11_proveInstructions, 3, (some .int)) := mt_X11_proveInstructions
  intro k
  induction k with
  | zero => intro l0 l1 h r hf; cases hf
  | succ k ih =>
    intro l0 l1 h r hf
    unfold w_X11_proveInstructions_33 at hf
    refine mx_S.pu (pc2 := 34) (lv2 := [(0, .ref l0), (1, .int l1)]) (st2 := [.int l1]) hm dX11_proveInstructions_33 rfl ?_
    refine mx_S.pu (pc2 := 35) (lv2 := [(0, .ref l0), (1, .int l1)]) (st2 := [.ref l0, .int l1]) hm dX11_proveInstructions_34 rfl ?_
    replace hf := mx_sv_el hf; obtain ⟨v3, e_v3, hf⟩ := hf
    refine sx_get hm dX11_proveInstructions_35 rs_RX11_209 (xgi_el e_v3) ?_
    clear e_v3
    rcases mx_if_el hf with ⟨c14, hf⟩ | ⟨c14, hf⟩
    · refine sb_ic_ge hm dX11_proveInstructions_38 (tgt := 86) rfl (fun _ => ?_) (fun z => absurd c14 z)
      refine sx_ic (v := 0) hm dX11_proveInstructions_86 (by decide) ?_
      cases hf
      exact sx_ire hm dX11_proveInstructions_87 rfl rfl
    · refine sb_ic_ge hm dX11_proveInstructions_38 (tgt := 86) rfl (fun z => absurd z c14) (fun _ => ?_)
      refine mx_S.pu (pc2 := 42) (lv2 := [(0, .ref l0), (1, .int l1)]) (st2 := [.ref l0]) hm dX11_proveInstructions_41 rfl ?_
      refine mx_S.pu (pc2 := 43) (lv2 := [(0, .ref l0), (1, .int l1)]) (st2 := [.int l1, .ref l0]) hm dX11_proveInstructions_42 rfl ?_
      replace hf := mx_gd_el hf; obtain ⟨c4, hf⟩ := hf
      replace hf := mx_sv_el hf; obtain ⟨u5, e_u5, hf⟩ := hf
      refine sx_cv hm dX11_proveInstructions_43 rs_RX11_192 mt_X11_codeAt [.int l1] [] (b := l0) (ci := 11) rfl rfl rfl c4 (Nat.le_of_ble_eq_true rfl) (Nat.le_of_ble_eq_true rfl) (by omega) (by omega) (f_X11_codeAt_ok X (by omega) (by omega) nn l0 l1 h e_u5) ?_
      clear e_u5
      show mx_S X F L 325 46 [(0, .ref l0), (1, .int l1)] [.int u5.1] u5.2 0 0 (some (.int r.1), r.2, 0, 0)
      replace hf := mx_sv_el hf; obtain ⟨u6, e_u6, hf⟩ := hf
      refine sx_cs hm dX11_proveInstructions_46 rs_RX11_218 mt_X11_widthOf [.int u5.1] [] rfl rfl (Nat.le_of_ble_eq_true rfl) (Nat.le_of_ble_eq_true rfl) (by omega) (by omega) (f_X11_widthOf_ok X (by omega) (by omega) nn u5.1 u5.2 e_u6) ?_
      clear e_u6
      show mx_S X F L 325 49 [(0, .ref l0), (1, .int l1)] [.int u6.1] u6.2 0 0 (some (.int r.1), r.2, 0, 0)
      refine mx_S.pu (pc2 := 50) (lv2 := [(2, .int u6.1), (0, .ref l0), (1, .int l1)]) (st2 := []) hm dX11_proveInstructions_49 rfl ?_
      refine mx_S.pu (pc2 := 51) (lv2 := [(2, .int u6.1), (0, .ref l0), (1, .int l1)]) (st2 := [.int u6.1]) hm dX11_proveInstructions_50 rfl ?_
      rcases mx_if_el hf with ⟨c13, hf⟩ | ⟨c13, hf⟩
      · refine sb_if_eq hm dX11_proveInstructions_51 (tgt := 64) rfl (fun _ => ?_) (fun z => absurd c13 z)
        refine mx_S.ext [(0, .ref l0), (1, .int l1)] (mx_sub_pos [1, 2] rfl (show ([2, 0, 1] : List Nat).Nodup by decide)) ?_
        exact j_X11_proveInstructions_64_ok X hF hL nn l0 l1 u6.2 hf
      · refine sb_if_eq hm dX11_proveInstructions_51 (tgt := 64) rfl (fun z => absurd z c13) (fun _ => ?_)
        refine mx_S.pu (pc2 := 55) (lv2 := [(2, .int u6.1), (0, .ref l0), (1, .int l1)]) (st2 := [.int l1]) hm dX11_proveInstructions_54 rfl ?_
        refine mx_S.pu (pc2 := 56) (lv2 := [(2, .int u6.1), (0, .ref l0), (1, .int l1)]) (st2 := [.int u6.1, .int l1]) hm dX11_proveInstructions_55 rfl ?_
        replace hf := xl_el hf; obtain ⟨v7, e_v7, hf⟩ := hf
        refine mx_S.pu (pc2 := 57) (lv2 := [(2, .int u6.1), (0, .ref l0), (1, .int l1)]) (st2 := [.int v7]) hm dX11_proveInstructions_56 (by rw [← e_v7]; rfl) ?_
        clear e_v7
        refine mx_S.pu (pc2 := 58) (lv2 := [(2, .int u6.1), (0, .ref l0), (1, .int l1)]) (st2 := [.ref l0, .int v7]) hm dX11_proveInstructions_57 rfl ?_
        replace hf := mx_sv_el hf; obtain ⟨v8, e_v8, hf⟩ := hf
        refine sx_get hm dX11_proveInstructions_58 rs_RX11_209 (xgi_el e_v8) ?_
        clear e_v8
        rcases mx_if_el hf with ⟨c12, hf⟩ | ⟨c12, hf⟩
        · refine sb_ic_le hm dX11_proveInstructions_61 (tgt := 72) rfl (fun _ => ?_) (fun z => absurd c12 z)
          refine mx_S.pu (pc2 := 73) (lv2 := [(2, .int u6.1), (0, .ref l0), (1, .int l1)]) (st2 := [.ref l0]) hm dX11_proveInstructions_72 rfl ?_
          replace hf := mx_sv_el hf; obtain ⟨v9, e_v9, hf⟩ := hf
          refine sx_get hm dX11_proveInstructions_73 rs_RX11_38 (xgr_el e_v9) ?_
          clear e_v9
          refine mx_S.pu (pc2 := 77) (lv2 := [(2, .int u6.1), (0, .ref l0), (1, .int l1)]) (st2 := [.int l1, .ref v9]) hm dX11_proveInstructions_76 rfl ?_
          refine sx_ic (v := (-1)) hm dX11_proveInstructions_77 (by decide) ?_
          replace hf := mx_sv_el hf; obtain ⟨h10, e_h10, hf⟩ := hf
          refine sx_ast hm dX11_proveInstructions_78 e_h10 ?_
          clear e_h10
          refine mx_S.pu (pc2 := 80) (lv2 := [(2, .int u6.1), (0, .ref l0), (1, .int l1)]) (st2 := [.int l1]) hm dX11_proveInstructions_79 rfl ?_
          refine mx_S.pu (pc2 := 81) (lv2 := [(2, .int u6.1), (0, .ref l0), (1, .int l1)]) (st2 := [.int u6.1, .int l1]) hm dX11_proveInstructions_80 rfl ?_
          replace hf := xl_el hf; obtain ⟨v11, e_v11, hf⟩ := hf
          refine mx_S.pu (pc2 := 82) (lv2 := [(2, .int u6.1), (0, .ref l0), (1, .int l1)]) (st2 := [.int v11]) hm dX11_proveInstructions_81 (by rw [← e_v11]; rfl) ?_
          clear e_v11
          refine mx_S.pu (pc2 := 83) (lv2 := [(1, .int v11), (2, .int u6.1), (0, .ref l0)]) (st2 := []) hm dX11_proveInstructions_82 rfl ?_
          refine mx_S.pu (pc2 := 33) (lv2 := [(1, .int v11), (2, .int u6.1), (0, .ref l0)]) (st2 := []) hm dX11_proveInstructions_83 rfl ?_
          refine mx_S.ext [(0, .ref l0), (1, .int v11)] (mx_sub_pos [2, 0] rfl (show ([1, 2, 0] : List Nat).Nodup by decide)) ?_
          exact ih l0 v11 h10 _ hf
        · refine sb_ic_le hm dX11_proveInstructions_61 (tgt := 72) rfl (fun z => absurd z c12) (fun _ => ?_)
          refine mx_S.ext [(0, .ref l0), (1, .int l1)] (mx_sub_pos [1, 2] rfl (show ([2, 0, 1] : List Nat).Nodup by decide)) ?_
          exact j_X11_proveInstructions_64_ok X hF hL nn l0 l1 u6.2 hf
set_option maxHeartbeats 4000000 in
set_option maxRecDepth 20000 in
theorem f_X11_proveInstructions_ok (X : Nat × (Nat → Int32)) {F L : Nat} (hF : 3 ≤ F) (hL : 65 ≤ L) (nn : Nat) (a0 : Nat) (h : mx_H) {r : (Int32 × mx_H)} (hf : f_X11_proveInstructions nn a0 h = some r) : mx_R X F L 325 [.ref a0] h (some (.int r.1), r.2, 0, 0) := by
  have hm : mx_mt 325 = some (yX11_proveInstructions, cX11_proveInstructions, 3, (some .int)) := mt_X11_proveInstructions
  show mx_S X F L 325 0 [(0, .ref a0)] [] h 0 0 (some (.int r.1), r.2, 0, 0)
  unfold f_X11_proveInstructions at hf
  refine mx_S.pu (pc2 := 1) (lv2 := [(0, .ref a0)]) (st2 := [.ref a0]) hm dX11_proveInstructions_0 rfl ?_
  refine mx_S.pu (pc2 := 2) (lv2 := [(0, .ref a0)]) (st2 := [.ref a0, .ref a0]) hm dX11_proveInstructions_1 rfl ?_
  refine sx_ic (v := 5) hm dX11_proveInstructions_2 (by decide) ?_
  replace hf := mx_gd_el hf; obtain ⟨c15, hf⟩ := hf
  replace hf := mx_sv_el hf; obtain ⟨u16, e_u16, hf⟩ := hf
  refine sx_cv hm dX11_proveInstructions_3 rs_RX11_189 mt_X11_info [.int 5] [.ref a0] (b := a0) (ci := 11) rfl rfl rfl c15 (Nat.le_of_ble_eq_true rfl) (Nat.le_of_ble_eq_true rfl) (by omega) (by omega) (f_X11_info_ok X (by omega) (by omega) nn a0 5 h e_u16) ?_
  clear e_u16
  show mx_S X F L 325 6 [(0, .ref a0)] [.int u16.1, .ref a0] u16.2 0 0 (some (.int r.1), r.2, 0, 0)
  refine mx_S.pu (pc2 := 7) (lv2 := [(0, .ref a0)]) (st2 := [.ref a0, .int u16.1, .ref a0]) hm dX11_proveInstructions_6 rfl ?_
  replace hf := mx_sv_el hf; obtain ⟨v17, e_v17, hf⟩ := hf
  refine sx_get hm dX11_proveInstructions_7 rs_RX11_38 (xgr_el e_v17) ?_
  clear e_v17
  replace hf := mx_sv_el hf; obtain ⟨v18, e_v18, hf⟩ := hf
  refine sx_len hm dX11_proveInstructions_10 e_v18 ?_
  clear e_v18
  replace hf := xl_el hf; obtain ⟨v19, e_v19, hf⟩ := hf
  refine sx_min hm dX11_proveInstructions_11 rs_RX11_204 (by omega) (Nat.le_trans (Nat.le_of_ble_eq_true rfl : _ ≤ 60) (by omega)) ?_
  rw [e_v19]
  clear e_v19
  replace hf := mx_sv_el hf; obtain ⟨h20, e_h20, hf⟩ := hf
  refine sx_put hm dX11_proveInstructions_14 rs_RX11_209 ft_11_16 ⟨rfl, rfl⟩ (fun z => by cases z) e_h20 ?_
  clear e_h20
  refine mx_S.pu (pc2 := 18) (lv2 := [(0, .ref a0)]) (st2 := [.ref a0]) hm dX11_proveInstructions_17 rfl ?_
  replace hf := mx_sv_el hf; obtain ⟨v21, e_v21, hf⟩ := hf
  refine sx_get hm dX11_proveInstructions_18 rs_RX11_38 (xgr_el e_v21) ?_
  clear e_v21
  refine sx_ic (v := 0) hm dX11_proveInstructions_21 (by decide) ?_
  refine mx_S.pu (pc2 := 23) (lv2 := [(0, .ref a0)]) (st2 := [.ref a0, .int 0, .ref v21]) hm dX11_proveInstructions_22 rfl ?_
  replace hf := mx_sv_el hf; obtain ⟨v22, e_v22, hf⟩ := hf
  refine sx_get hm dX11_proveInstructions_23 rs_RX11_209 (xgi_el e_v22) ?_
  clear e_v22
  refine sx_bi (v := (-2)) hm dX11_proveInstructions_26 (by decide) ?_
  replace hf := mx_sv_el hf; obtain ⟨u23, e_u23, hf⟩ := hf
  refine sx_cs hm dX11_proveInstructions_28 rs_RX11_212 mt_J7_fill_fda19 [.ref v21, .int 0, .int v22, .int (-2)] [] rfl rfl (Nat.le_of_ble_eq_true rfl) (Nat.le_of_ble_eq_true rfl) (by omega) (by omega) (f_J7_fill_fda19_ok X (by omega) (by omega) nn v21 0 v22 (-2) h20 e_u23) ?_
  clear e_u23
  show mx_S X F L 325 31 [(0, .ref a0)] [] u23 0 0 (some (.int r.1), r.2, 0, 0)
  refine sx_ic (v := 0) hm dX11_proveInstructions_31 (by decide) ?_
  refine mx_S.pu (pc2 := 33) (lv2 := [(1, .int 0), (0, .ref a0)]) (st2 := []) hm dX11_proveInstructions_32 rfl ?_
  refine mx_S.ext [(0, .ref a0), (1, .int 0)] (mx_sub_pos [1, 0] rfl (show ([1, 0] : List Nat).Nodup by decide)) ?_
  exact w_X11_proveInstructions_33_ok X hF hL nn nn a0 0 u23 _ hf
set_option maxHeartbeats 4000000 in
set_option maxRecDepth 20000 in
theorem f_X11_aimOf_ok (X : Nat × (Nat → Int32)) {F L : Nat} (hF : 3 ≤ F) (hL : 65 ≤ L) (nn : Nat) (a0 : Nat) (a1 : Int32) (h : mx_H) {r : (Int32 × mx_H)} (hf : f_X11_aimOf nn a0 a1 h = some r) : mx_R X F L 319 [.ref a0, .int a1] h (some (.int r.1), r.2, 0, 0) := by
  have hm : mx_mt 319 = some (yX11_aimOf, cX11_aimOf, 2, (some .int)) := mt_X11_aimOf
  show mx_S X F L 319 0 [(0, .ref a0), (1, .int a1)] [] h 0 0 (some (.int r.1), r.2, 0, 0)
  unfold f_X11_aimOf at hf
  refine mx_S.pu (pc2 := 1) (lv2 := [(0, .ref a0), (1, .int a1)]) (st2 := [.int a1]) hm dX11_aimOf_0 rfl ?_
  refine mx_S.pu (pc2 := 2) (lv2 := [(0, .ref a0), (1, .int a1)]) (st2 := [.ref a0, .int a1]) hm dX11_aimOf_1 rfl ?_
  refine mx_S.pu (pc2 := 3) (lv2 := [(0, .ref a0), (1, .int a1)]) (st2 := [.int a1, .ref a0, .int a1]) hm dX11_aimOf_2 rfl ?_
  refine sx_ic (v := 1) hm dX11_aimOf_3 (by decide) ?_
  replace hf := xl_el hf; obtain ⟨v1, e_v1, hf⟩ := hf
  refine mx_S.pu (pc2 := 5) (lv2 := [(0, .ref a0), (1, .int a1)]) (st2 := [.int v1, .ref a0, .int a1]) hm dX11_aimOf_4 (by rw [← e_v1]; rfl) ?_
  clear e_v1
  replace hf := mx_gd_el hf; obtain ⟨c2, hf⟩ := hf
  replace hf := mx_sv_el hf; obtain ⟨u3, e_u3, hf⟩ := hf
  refine sx_cv hm dX11_aimOf_5 rs_RX11_192 mt_X11_codeAt [.int v1] [.int a1] (b := a0) (ci := 11) rfl rfl rfl c2 (Nat.le_of_ble_eq_true rfl) (Nat.le_of_ble_eq_true rfl) (by omega) (by omega) (f_X11_codeAt_ok X (by omega) (by omega) nn a0 v1 h e_u3) ?_
  clear e_u3
  show mx_S X F L 319 8 [(0, .ref a0), (1, .int a1)] [.int u3.1, .int a1] u3.2 0 0 (some (.int r.1), r.2, 0, 0)
  refine sx_bi (v := 8) hm dX11_aimOf_8 (by decide) ?_
  replace hf := xl_el hf; obtain ⟨v4, e_v4, hf⟩ := hf
  refine mx_S.pu (pc2 := 11) (lv2 := [(0, .ref a0), (1, .int a1)]) (st2 := [.int v4, .int a1]) hm dX11_aimOf_10 (by rw [← e_v4]; rfl) ?_
  clear e_v4
  refine mx_S.pu (pc2 := 12) (lv2 := [(0, .ref a0), (1, .int a1)]) (st2 := [.ref a0, .int v4, .int a1]) hm dX11_aimOf_11 rfl ?_
  refine mx_S.pu (pc2 := 13) (lv2 := [(0, .ref a0), (1, .int a1)]) (st2 := [.int a1, .ref a0, .int v4, .int a1]) hm dX11_aimOf_12 rfl ?_
  refine sx_ic (v := 2) hm dX11_aimOf_13 (by decide) ?_
  replace hf := xl_el hf; obtain ⟨v5, e_v5, hf⟩ := hf
  refine mx_S.pu (pc2 := 15) (lv2 := [(0, .ref a0), (1, .int a1)]) (st2 := [.int v5, .ref a0, .int v4, .int a1]) hm dX11_aimOf_14 (by rw [← e_v5]; rfl) ?_
  clear e_v5
  replace hf := mx_gd_el hf; obtain ⟨c6, hf⟩ := hf
  replace hf := mx_sv_el hf; obtain ⟨u7, e_u7, hf⟩ := hf
  refine sx_cv hm dX11_aimOf_15 rs_RX11_192 mt_X11_codeAt [.int v5] [.int v4, .int a1] (b := a0) (ci := 11) rfl rfl rfl c6 (Nat.le_of_ble_eq_true rfl) (Nat.le_of_ble_eq_true rfl) (by omega) (by omega) (f_X11_codeAt_ok X (by omega) (by omega) nn a0 v5 u3.2 e_u7) ?_
  clear e_u7
  show mx_S X F L 319 18 [(0, .ref a0), (1, .int a1)] [.int u7.1, .int v4, .int a1] u7.2 0 0 (some (.int r.1), r.2, 0, 0)
  replace hf := xl_el hf; obtain ⟨v8, e_v8, hf⟩ := hf
  refine mx_S.pu (pc2 := 19) (lv2 := [(0, .ref a0), (1, .int a1)]) (st2 := [.int v8, .int a1]) hm dX11_aimOf_18 (by rw [← e_v8]; rfl) ?_
  clear e_v8
  replace hf := xl_el hf; obtain ⟨v9, e_v9, hf⟩ := hf
  refine mx_S.pu (pc2 := 20) (lv2 := [(0, .ref a0), (1, .int a1)]) (st2 := [.int v9, .int a1]) hm dX11_aimOf_19 (by rw [← e_v9]; rfl) ?_
  clear e_v9
  replace hf := xl_el hf; obtain ⟨v10, e_v10, hf⟩ := hf
  refine mx_S.pu (pc2 := 21) (lv2 := [(0, .ref a0), (1, .int a1)]) (st2 := [.int v10]) hm dX11_aimOf_20 (by rw [← e_v10]; rfl) ?_
  clear e_v10
  cases hf
  exact sx_ire hm dX11_aimOf_21 rfl rfl
set_option maxHeartbeats 4000000 in
set_option maxRecDepth 20000 in
theorem w_X11_proveJumps_2_ok (X : Nat × (Nat → Int32)) {F L : Nat} (hF : 4 ≤ F) (hL : 86 ≤ L) (nn : Nat) : ∀ (k : Nat) (l0 : Nat) (l1 : Int32) (h : mx_H) (r : (Int32 × mx_H)), w_X11_proveJumps_2 nn k l0 l1 h = some r → mx_S X F L 328 2 [(0, .ref l0), (1, .int l1)] [] h 0 0 (some (.int r.1), r.2, 0, 0) := by
  have hm : mx_mt 328 = some (yX11_proveJumps, cX11_proveJumps, 2, (some .int)) := mt_X11_proveJumps
  intro k
  induction k with
  | zero => intro l0 l1 h r hf; cases hf
  | succ k ih =>
    intro l0 l1 h r hf
    unfold w_X11_proveJumps_2 at hf
    refine mx_S.pu (pc2 := 3) (lv2 := [(0, .ref l0), (1, .int l1)]) (st2 := [.int l1]) hm dX11_proveJumps_2 rfl ?_
    refine mx_S.pu (pc2 := 4) (lv2 := [(0, .ref l0), (1, .int l1)]) (st2 := [.ref l0, .int l1]) hm dX11_proveJumps_3 rfl ?_
    replace hf := mx_sv_el hf; obtain ⟨v1, e_v1, hf⟩ := hf
    refine sx_get hm dX11_proveJumps_4 rs_RX11_209 (xgi_el e_v1) ?_
    clear e_v1
    rcases mx_if_el hf with ⟨c19, hf⟩ | ⟨c19, hf⟩
    · refine sb_ic_ge hm dX11_proveJumps_7 (tgt := 55) rfl (fun _ => ?_) (fun z => absurd c19 z)
      refine sx_ic (v := 0) hm dX11_proveJumps_55 (by decide) ?_
      cases hf
      exact sx_ire hm dX11_proveJumps_56 rfl rfl
    · refine sb_ic_ge hm dX11_proveJumps_7 (tgt := 55) rfl (fun z => absurd z c19) (fun _ => ?_)
      refine mx_S.pu (pc2 := 11) (lv2 := [(0, .ref l0), (1, .int l1)]) (st2 := [.ref l0]) hm dX11_proveJumps_10 rfl ?_
      refine mx_S.pu (pc2 := 12) (lv2 := [(0, .ref l0), (1, .int l1)]) (st2 := [.int l1, .ref l0]) hm dX11_proveJumps_11 rfl ?_
      replace hf := mx_gd_el hf; obtain ⟨c2, hf⟩ := hf
      replace hf := mx_sv_el hf; obtain ⟨u3, e_u3, hf⟩ := hf
      refine sx_cv hm dX11_proveJumps_12 rs_RX11_224 mt_X11_begins [.int l1] [] (b := l0) (ci := 11) rfl rfl rfl c2 (Nat.le_of_ble_eq_true rfl) (Nat.le_of_ble_eq_true rfl) (by omega) (by omega) (f_X11_begins_ok X (by omega) (by omega) nn l0 l1 h e_u3) ?_
      clear e_u3
      show mx_S X F L 328 15 [(0, .ref l0), (1, .int l1)] [.int u3.1] u3.2 0 0 (some (.int r.1), r.2, 0, 0)
      rcases mx_if_el hf with ⟨c18, hf⟩ | ⟨c18, hf⟩
      · refine sb_if_eq hm dX11_proveJumps_15 (tgt := 49) rfl (fun _ => ?_) (fun z => absurd c18 z)
        replace hf := xl_el hf; obtain ⟨v4, e_v4, hf⟩ := hf
        refine mx_S.pu (pc2 := 52) (lv2 := [(1, .int v4), (0, .ref l0)]) (st2 := []) hm dX11_proveJumps_49 (by rw [← e_v4]; rfl) ?_
        clear e_v4
        refine mx_S.pu (pc2 := 2) (lv2 := [(1, .int v4), (0, .ref l0)]) (st2 := []) hm dX11_proveJumps_52 rfl ?_
        refine mx_S.ext [(0, .ref l0), (1, .int v4)] (mx_sub_pos [1, 0] rfl (show ([1, 0] : List Nat).Nodup by decide)) ?_
        exact ih l0 v4 u3.2 _ hf
      · refine sb_if_eq hm dX11_proveJumps_15 (tgt := 49) rfl (fun z => absurd z c18) (fun _ => ?_)
        refine mx_S.pu (pc2 := 19) (lv2 := [(0, .ref l0), (1, .int l1)]) (st2 := [.ref l0]) hm dX11_proveJumps_18 rfl ?_
        refine mx_S.pu (pc2 := 20) (lv2 := [(0, .ref l0), (1, .int l1)]) (st2 := [.int l1, .ref l0]) hm dX11_proveJumps_19 rfl ?_
        replace hf := mx_gd_el hf; obtain ⟨c5, hf⟩ := hf
        replace hf := mx_sv_el hf; obtain ⟨u6, e_u6, hf⟩ := hf
        refine sx_cv hm dX11_proveJumps_20 rs_RX11_192 mt_X11_codeAt [.int l1] [] (b := l0) (ci := 11) rfl rfl rfl c5 (Nat.le_of_ble_eq_true rfl) (Nat.le_of_ble_eq_true rfl) (by omega) (by omega) (f_X11_codeAt_ok X (by omega) (by omega) nn l0 l1 u3.2 e_u6) ?_
        clear e_u6
        show mx_S X F L 328 23 [(0, .ref l0), (1, .int l1)] [.int u6.1] u6.2 0 0 (some (.int r.1), r.2, 0, 0)
        replace hf := mx_sv_el hf; obtain ⟨u7, e_u7, hf⟩ := hf
        refine sx_cs hm dX11_proveJumps_23 rs_RX11_198 mt_X11_isJump [.int u6.1] [] rfl rfl (Nat.le_of_ble_eq_true rfl) (Nat.le_of_ble_eq_true rfl) (by omega) (by omega) (f_X11_isJump_ok X (by omega) (by omega) nn u6.1 u6.2 e_u7) ?_
        clear e_u7
        show mx_S X F L 328 26 [(0, .ref l0), (1, .int l1)] [.int u7.1] u7.2 0 0 (some (.int r.1), r.2, 0, 0)
        rcases mx_if_el hf with ⟨c17, hf⟩ | ⟨c17, hf⟩
        · refine sb_if_eq hm dX11_proveJumps_26 (tgt := 49) rfl (fun _ => ?_) (fun z => absurd c17 z)
          replace hf := xl_el hf; obtain ⟨v8, e_v8, hf⟩ := hf
          refine mx_S.pu (pc2 := 52) (lv2 := [(1, .int v8), (0, .ref l0)]) (st2 := []) hm dX11_proveJumps_49 (by rw [← e_v8]; rfl) ?_
          clear e_v8
          refine mx_S.pu (pc2 := 2) (lv2 := [(1, .int v8), (0, .ref l0)]) (st2 := []) hm dX11_proveJumps_52 rfl ?_
          refine mx_S.ext [(0, .ref l0), (1, .int v8)] (mx_sub_pos [1, 0] rfl (show ([1, 0] : List Nat).Nodup by decide)) ?_
          exact ih l0 v8 u7.2 _ hf
        · refine sb_if_eq hm dX11_proveJumps_26 (tgt := 49) rfl (fun z => absurd z c17) (fun _ => ?_)
          refine mx_S.pu (pc2 := 30) (lv2 := [(0, .ref l0), (1, .int l1)]) (st2 := [.ref l0]) hm dX11_proveJumps_29 rfl ?_
          refine mx_S.pu (pc2 := 31) (lv2 := [(0, .ref l0), (1, .int l1)]) (st2 := [.ref l0, .ref l0]) hm dX11_proveJumps_30 rfl ?_
          refine mx_S.pu (pc2 := 32) (lv2 := [(0, .ref l0), (1, .int l1)]) (st2 := [.int l1, .ref l0, .ref l0]) hm dX11_proveJumps_31 rfl ?_
          replace hf := mx_gd_el hf; obtain ⟨c9, hf⟩ := hf
          replace hf := mx_sv_el hf; obtain ⟨u10, e_u10, hf⟩ := hf
          refine sx_cv hm dX11_proveJumps_32 rs_RX11_227 mt_X11_aimOf [.int l1] [.ref l0] (b := l0) (ci := 11) rfl rfl rfl c9 (Nat.le_of_ble_eq_true rfl) (Nat.le_of_ble_eq_true rfl) (by omega) (by omega) (f_X11_aimOf_ok X (by omega) (by omega) nn l0 l1 u7.2 e_u10) ?_
          clear e_u10
          show mx_S X F L 328 35 [(0, .ref l0), (1, .int l1)] [.int u10.1, .ref l0] u10.2 0 0 (some (.int r.1), r.2, 0, 0)
          replace hf := mx_gd_el hf; obtain ⟨c11, hf⟩ := hf
          replace hf := mx_sv_el hf; obtain ⟨u12, e_u12, hf⟩ := hf
          refine sx_cv hm dX11_proveJumps_35 rs_RX11_224 mt_X11_begins [.int u10.1] [] (b := l0) (ci := 11) rfl rfl rfl c11 (Nat.le_of_ble_eq_true rfl) (Nat.le_of_ble_eq_true rfl) (by omega) (by omega) (f_X11_begins_ok X (by omega) (by omega) nn l0 u10.1 u10.2 e_u12) ?_
          clear e_u12
          show mx_S X F L 328 38 [(0, .ref l0), (1, .int l1)] [.int u12.1] u12.2 0 0 (some (.int r.1), r.2, 0, 0)
          rcases mx_if_el hf with ⟨c16, hf⟩ | ⟨c16, hf⟩
          · refine sb_if_ne hm dX11_proveJumps_38 (tgt := 49) rfl (fun _ => ?_) (fun z => absurd c16 z)
            replace hf := xl_el hf; obtain ⟨v13, e_v13, hf⟩ := hf
            refine mx_S.pu (pc2 := 52) (lv2 := [(1, .int v13), (0, .ref l0)]) (st2 := []) hm dX11_proveJumps_49 (by rw [← e_v13]; rfl) ?_
            clear e_v13
            refine mx_S.pu (pc2 := 2) (lv2 := [(1, .int v13), (0, .ref l0)]) (st2 := []) hm dX11_proveJumps_52 rfl ?_
            refine mx_S.ext [(0, .ref l0), (1, .int v13)] (mx_sub_pos [1, 0] rfl (show ([1, 0] : List Nat).Nodup by decide)) ?_
            exact ih l0 v13 u12.2 _ hf
          · refine sb_if_ne hm dX11_proveJumps_38 (tgt := 49) rfl (fun z => absurd z c16) (fun _ => ?_)
            refine mx_S.pu (pc2 := 42) (lv2 := [(0, .ref l0), (1, .int l1)]) (st2 := [.ref l0]) hm dX11_proveJumps_41 rfl ?_
            refine sx_bi (v := 7) hm dX11_proveJumps_42 (by decide) ?_
            refine mx_S.pu (pc2 := 45) (lv2 := [(0, .ref l0), (1, .int l1)]) (st2 := [.int l1, .int 7, .ref l0]) hm dX11_proveJumps_44 rfl ?_
            replace hf := mx_gd_el hf; obtain ⟨c14, hf⟩ := hf
            replace hf := mx_sv_el hf; obtain ⟨u15, e_u15, hf⟩ := hf
            refine sx_cv hm dX11_proveJumps_45 rs_RX11_221 mt_X11_at [.int 7, .int l1] [] (b := l0) (ci := 11) rfl rfl rfl c14 (Nat.le_of_ble_eq_true rfl) (Nat.le_of_ble_eq_true rfl) (by omega) (by omega) (f_X11_at_ok X (by omega) (by omega) nn l0 7 l1 u12.2 e_u15) ?_
            clear e_u15
            show mx_S X F L 328 48 [(0, .ref l0), (1, .int l1)] [.int u15.1] u15.2 0 0 (some (.int r.1), r.2, 0, 0)
            cases hf
            exact sx_ire hm dX11_proveJumps_48 rfl rfl
set_option maxHeartbeats 4000000 in
set_option maxRecDepth 20000 in
theorem f_X11_proveJumps_ok (X : Nat × (Nat → Int32)) {F L : Nat} (hF : 4 ≤ F) (hL : 86 ≤ L) (nn : Nat) (a0 : Nat) (h : mx_H) {r : (Int32 × mx_H)} (hf : f_X11_proveJumps nn a0 h = some r) : mx_R X F L 328 [.ref a0] h (some (.int r.1), r.2, 0, 0) := by
  have hm : mx_mt 328 = some (yX11_proveJumps, cX11_proveJumps, 2, (some .int)) := mt_X11_proveJumps
  show mx_S X F L 328 0 [(0, .ref a0)] [] h 0 0 (some (.int r.1), r.2, 0, 0)
  unfold f_X11_proveJumps at hf
  refine sx_ic (v := 0) hm dX11_proveJumps_0 (by decide) ?_
  refine mx_S.pu (pc2 := 2) (lv2 := [(1, .int 0), (0, .ref a0)]) (st2 := []) hm dX11_proveJumps_1 rfl ?_
  refine mx_S.ext [(0, .ref a0), (1, .int 0)] (mx_sub_pos [1, 0] rfl (show ([1, 0] : List Nat).Nodup by decide)) ?_
  exact w_X11_proveJumps_2_ok X hF hL nn nn a0 0 h _ hf
set_option maxHeartbeats 4000000 in
set_option maxRecDepth 20000 in
theorem f_X11_isLast_ok (X : Nat × (Nat → Int32)) {F L : Nat} (hF : 0 ≤ F) (hL : 0 ≤ L) (nn : Nat) (a0 : Int32) (h : mx_H) {r : (Int32 × mx_H)} (hf : f_X11_isLast nn a0 h = some r) : mx_R X F L 324 [.int a0] h (some (.int r.1), r.2, 0, 0) := by
  have hm : mx_mt 324 = some (yX11_isLast, cX11_isLast, 1, (some .boolean)) := mt_X11_isLast
  show mx_S X F L 324 0 [(0, .int a0)] [] h 0 0 (some (.int r.1), r.2, 0, 0)
  unfold f_X11_isLast at hf
  refine mx_S.pu (pc2 := 1) (lv2 := [(0, .int a0)]) (st2 := [.int a0]) hm dX11_isLast_0 rfl ?_
  refine sx_si (v := 167) hm dX11_isLast_1 (by decide) ?_
  rcases mx_if_el hf with ⟨c5, hf⟩ | ⟨c5, hf⟩
  · refine sb_ic_eq hm dX11_isLast_4 (tgt := 35) rfl (fun _ => ?_) (fun z => absurd c5 z)
    refine sx_ic (v := 1) hm dX11_isLast_35 (by decide) ?_
    refine mx_S.pu (pc2 := 40) (lv2 := [(0, .int a0)]) (st2 := [.int 1]) hm dX11_isLast_36 rfl ?_
    cases hf
    exact sx_ire hm dX11_isLast_40 rfl (by decide)
  · refine sb_ic_eq hm dX11_isLast_4 (tgt := 35) rfl (fun z => absurd z c5) (fun _ => ?_)
    refine mx_S.pu (pc2 := 8) (lv2 := [(0, .int a0)]) (st2 := [.int a0]) hm dX11_isLast_7 rfl ?_
    refine sx_si (v := 172) hm dX11_isLast_8 (by decide) ?_
    rcases mx_if_el hf with ⟨c4, hf⟩ | ⟨c4, hf⟩
    · refine sb_ic_eq hm dX11_isLast_11 (tgt := 35) rfl (fun _ => ?_) (fun z => absurd c4 z)
      refine sx_ic (v := 1) hm dX11_isLast_35 (by decide) ?_
      refine mx_S.pu (pc2 := 40) (lv2 := [(0, .int a0)]) (st2 := [.int 1]) hm dX11_isLast_36 rfl ?_
      cases hf
      exact sx_ire hm dX11_isLast_40 rfl (by decide)
    · refine sb_ic_eq hm dX11_isLast_11 (tgt := 35) rfl (fun z => absurd z c4) (fun _ => ?_)
      refine mx_S.pu (pc2 := 15) (lv2 := [(0, .int a0)]) (st2 := [.int a0]) hm dX11_isLast_14 rfl ?_
      refine sx_si (v := 176) hm dX11_isLast_15 (by decide) ?_
      rcases mx_if_el hf with ⟨c3, hf⟩ | ⟨c3, hf⟩
      · refine sb_ic_eq hm dX11_isLast_18 (tgt := 35) rfl (fun _ => ?_) (fun z => absurd c3 z)
        refine sx_ic (v := 1) hm dX11_isLast_35 (by decide) ?_
        refine mx_S.pu (pc2 := 40) (lv2 := [(0, .int a0)]) (st2 := [.int 1]) hm dX11_isLast_36 rfl ?_
        cases hf
        exact sx_ire hm dX11_isLast_40 rfl (by decide)
      · refine sb_ic_eq hm dX11_isLast_18 (tgt := 35) rfl (fun z => absurd z c3) (fun _ => ?_)
        refine mx_S.pu (pc2 := 22) (lv2 := [(0, .int a0)]) (st2 := [.int a0]) hm dX11_isLast_21 rfl ?_
        refine sx_si (v := 177) hm dX11_isLast_22 (by decide) ?_
        rcases mx_if_el hf with ⟨c2, hf⟩ | ⟨c2, hf⟩
        · refine sb_ic_eq hm dX11_isLast_25 (tgt := 35) rfl (fun _ => ?_) (fun z => absurd c2 z)
          refine sx_ic (v := 1) hm dX11_isLast_35 (by decide) ?_
          refine mx_S.pu (pc2 := 40) (lv2 := [(0, .int a0)]) (st2 := [.int 1]) hm dX11_isLast_36 rfl ?_
          cases hf
          exact sx_ire hm dX11_isLast_40 rfl (by decide)
        · refine sb_ic_eq hm dX11_isLast_25 (tgt := 35) rfl (fun z => absurd z c2) (fun _ => ?_)
          refine mx_S.pu (pc2 := 29) (lv2 := [(0, .int a0)]) (st2 := [.int a0]) hm dX11_isLast_28 rfl ?_
          refine sx_si (v := 191) hm dX11_isLast_29 (by decide) ?_
          rcases mx_if_el hf with ⟨c1, hf⟩ | ⟨c1, hf⟩
          · refine sb_ic_ne hm dX11_isLast_32 (tgt := 39) rfl (fun _ => ?_) (fun z => absurd c1 z)
            refine sx_ic (v := 0) hm dX11_isLast_39 (by decide) ?_
            cases hf
            exact sx_ire hm dX11_isLast_40 rfl (by decide)
          · refine sb_ic_ne hm dX11_isLast_32 (tgt := 39) rfl (fun z => absurd z c1) (fun _ => ?_)
            refine sx_ic (v := 1) hm dX11_isLast_35 (by decide) ?_
            refine mx_S.pu (pc2 := 40) (lv2 := [(0, .int a0)]) (st2 := [.int 1]) hm dX11_isLast_36 rfl ?_
            cases hf
            exact sx_ire hm dX11_isLast_40 rfl (by decide)
set_option maxHeartbeats 4000000 in
set_option maxRecDepth 20000 in
theorem f_X11_pop_ok (X : Nat × (Nat → Int32)) {F L : Nat} (hF : 0 ≤ F) (hL : 0 ≤ L) (nn : Nat) (a0 : Nat) (h : mx_H) {r : (Int32 × mx_H)} (hf : f_X11_pop nn a0 h = some r) : mx_R X F L 347 [.ref a0] h (some (.int r.1), r.2, 0, 0) := by
  have hm : mx_mt 347 = some (yX11_pop, cX11_pop, 1, (some .int)) := mt_X11_pop
  show mx_S X F L 347 0 [(0, .ref a0)] [] h 0 0 (some (.int r.1), r.2, 0, 0)
  unfold f_X11_pop at hf
  refine mx_S.pu (pc2 := 1) (lv2 := [(0, .ref a0)]) (st2 := [.ref a0]) hm dX11_pop_0 rfl ?_
  replace hf := mx_sv_el hf; obtain ⟨v1, e_v1, hf⟩ := hf
  refine sx_get hm dX11_pop_1 rs_RX11_255 (xgi_el e_v1) ?_
  clear e_v1
  rcases mx_if_el hf with ⟨c9, hf⟩ | ⟨c9, hf⟩
  · refine sb_if_ne hm dX11_pop_4 (tgt := 16) rfl (fun _ => ?_) (fun z => absurd c9 z)
    refine mx_S.pu (pc2 := 17) (lv2 := [(0, .ref a0)]) (st2 := [.ref a0]) hm dX11_pop_16 rfl ?_
    refine mx_S.pu (pc2 := 18) (lv2 := [(0, .ref a0)]) (st2 := [.ref a0, .ref a0]) hm dX11_pop_17 rfl ?_
    replace hf := mx_sv_el hf; obtain ⟨v2, e_v2, hf⟩ := hf
    refine sx_get hm dX11_pop_18 rs_RX11_255 (xgi_el e_v2) ?_
    clear e_v2
    refine sx_ic (v := 1) hm dX11_pop_21 (by decide) ?_
    replace hf := xl_el hf; obtain ⟨v3, e_v3, hf⟩ := hf
    refine mx_S.pu (pc2 := 23) (lv2 := [(0, .ref a0)]) (st2 := [.int v3, .ref a0]) hm dX11_pop_22 (by rw [← e_v3]; rfl) ?_
    clear e_v3
    replace hf := mx_sv_el hf; obtain ⟨h4, e_h4, hf⟩ := hf
    refine sx_put hm dX11_pop_23 rs_RX11_255 ft_11_18 ⟨rfl, rfl⟩ (fun z => by cases z) e_h4 ?_
    clear e_h4
    refine mx_S.pu (pc2 := 27) (lv2 := [(0, .ref a0)]) (st2 := [.ref a0]) hm dX11_pop_26 rfl ?_
    replace hf := mx_sv_el hf; obtain ⟨v5, e_v5, hf⟩ := hf
    refine sx_get hm dX11_pop_27 rs_RX11_47 (xgr_el e_v5) ?_
    clear e_v5
    refine mx_S.pu (pc2 := 31) (lv2 := [(0, .ref a0)]) (st2 := [.ref a0, .ref v5]) hm dX11_pop_30 rfl ?_
    replace hf := mx_sv_el hf; obtain ⟨v6, e_v6, hf⟩ := hf
    refine sx_get hm dX11_pop_31 rs_RX11_255 (xgi_el e_v6) ?_
    clear e_v6
    replace hf := mx_sv_el hf; obtain ⟨v7, e_v7, hf⟩ := hf
    refine sx_ald hm dX11_pop_34 e_v7 ?_
    clear e_v7
    cases hf
    exact sx_ire hm dX11_pop_35 rfl rfl
  · refine sb_if_ne hm dX11_pop_4 (tgt := 16) rfl (fun z => absurd z c9) (fun _ => ?_)
    refine mx_S.pu (pc2 := 8) (lv2 := [(0, .ref a0)]) (st2 := [.ref a0]) hm dX11_pop_7 rfl ?_
    refine sx_ic (v := 0) hm dX11_pop_8 (by decide) ?_
    replace hf := mx_sv_el hf; obtain ⟨h8, e_h8, hf⟩ := hf
    refine sx_put hm dX11_pop_9 rs_RX11_295 ft_11_19 ⟨by decide, by decide⟩ (fun z => by cases z) e_h8 ?_
    clear e_h8
    refine sx_si (v := 304) hm dX11_pop_12 (by decide) ?_
    cases hf
    exact sx_ire hm dX11_pop_15 rfl rfl
set_option maxHeartbeats 4000000 in
set_option maxRecDepth 20000 in
theorem f_X11_push_ok (X : Nat × (Nat → Int32)) {F L : Nat} (hF : 0 ≤ F) (hL : 0 ≤ L) (nn : Nat) (a0 : Nat) (a1 : Int32) (h : mx_H) {r : mx_H} (hf : f_X11_push nn a0 a1 h = some r) : mx_R X F L 351 [.ref a0, .int a1] h (none, r, 0, 0) := by
  have hm : mx_mt 351 = some (yX11_push, cX11_push, 2, none) := mt_X11_push
  show mx_S X F L 351 0 [(0, .ref a0), (1, .int a1)] [] h 0 0 (none, r, 0, 0)
  unfold f_X11_push at hf
  refine mx_S.pu (pc2 := 1) (lv2 := [(0, .ref a0), (1, .int a1)]) (st2 := [.ref a0]) hm dX11_push_0 rfl ?_
  replace hf := mx_sv_el hf; obtain ⟨v1, e_v1, hf⟩ := hf
  refine sx_get hm dX11_push_1 rs_RX11_255 (xgi_el e_v1) ?_
  clear e_v1
  refine mx_S.pu (pc2 := 5) (lv2 := [(0, .ref a0), (1, .int a1)]) (st2 := [.ref a0, .int v1]) hm dX11_push_4 rfl ?_
  replace hf := mx_sv_el hf; obtain ⟨v2, e_v2, hf⟩ := hf
  refine sx_get hm dX11_push_5 rs_RX11_261 (xgi_el e_v2) ?_
  clear e_v2
  rcases mx_if_el hf with ⟨c10, hf⟩ | ⟨c10, hf⟩
  · refine sb_ic_lt hm dX11_push_8 (tgt := 17) rfl (fun _ => ?_) (fun z => absurd c10 z)
    refine mx_S.pu (pc2 := 18) (lv2 := [(0, .ref a0), (1, .int a1)]) (st2 := [.ref a0]) hm dX11_push_17 rfl ?_
    replace hf := mx_sv_el hf; obtain ⟨v3, e_v3, hf⟩ := hf
    refine sx_get hm dX11_push_18 rs_RX11_47 (xgr_el e_v3) ?_
    clear e_v3
    refine mx_S.pu (pc2 := 22) (lv2 := [(0, .ref a0), (1, .int a1)]) (st2 := [.ref a0, .ref v3]) hm dX11_push_21 rfl ?_
    replace hf := mx_sv_el hf; obtain ⟨v4, e_v4, hf⟩ := hf
    refine sx_get hm dX11_push_22 rs_RX11_255 (xgi_el e_v4) ?_
    clear e_v4
    refine mx_S.pu (pc2 := 26) (lv2 := [(0, .ref a0), (1, .int a1)]) (st2 := [.int a1, .int v4, .ref v3]) hm dX11_push_25 rfl ?_
    replace hf := mx_sv_el hf; obtain ⟨h5, e_h5, hf⟩ := hf
    refine sx_ast hm dX11_push_26 e_h5 ?_
    clear e_h5
    refine mx_S.pu (pc2 := 28) (lv2 := [(0, .ref a0), (1, .int a1)]) (st2 := [.ref a0]) hm dX11_push_27 rfl ?_
    refine mx_S.pu (pc2 := 29) (lv2 := [(0, .ref a0), (1, .int a1)]) (st2 := [.ref a0, .ref a0]) hm dX11_push_28 rfl ?_
    replace hf := mx_sv_el hf; obtain ⟨v6, e_v6, hf⟩ := hf
    refine sx_get hm dX11_push_29 rs_RX11_255 (xgi_el e_v6) ?_
    clear e_v6
    refine sx_ic (v := 1) hm dX11_push_32 (by decide) ?_
    replace hf := xl_el hf; obtain ⟨v7, e_v7, hf⟩ := hf
    refine mx_S.pu (pc2 := 34) (lv2 := [(0, .ref a0), (1, .int a1)]) (st2 := [.int v7, .ref a0]) hm dX11_push_33 (by rw [← e_v7]; rfl) ?_
    clear e_v7
    replace hf := mx_sv_el hf; obtain ⟨h8, e_h8, hf⟩ := hf
    refine sx_put hm dX11_push_34 rs_RX11_255 ft_11_18 ⟨rfl, rfl⟩ (fun z => by cases z) e_h8 ?_
    clear e_h8
    cases hf
    exact sx_ret hm dX11_push_37 rfl
  · refine sb_ic_lt hm dX11_push_8 (tgt := 17) rfl (fun z => absurd z c10) (fun _ => ?_)
    refine mx_S.pu (pc2 := 12) (lv2 := [(0, .ref a0), (1, .int a1)]) (st2 := [.ref a0]) hm dX11_push_11 rfl ?_
    refine sx_ic (v := 0) hm dX11_push_12 (by decide) ?_
    replace hf := mx_sv_el hf; obtain ⟨h9, e_h9, hf⟩ := hf
    refine sx_put hm dX11_push_13 rs_RX11_295 ft_11_19 ⟨by decide, by decide⟩ (fun z => by cases z) e_h9 ?_
    clear e_h9
    cases hf
    exact sx_ret hm dX11_push_16 rfl
set_option maxHeartbeats 4000000 in
set_option maxRecDepth 20000 in
theorem j_X11_want_32_ok (X : Nat × (Nat → Int32)) {F L : Nat} (hF : 1 ≤ F) (hL : 23 ≤ L) (nn : Nat) (s0 : Nat) (h : mx_H) {r : mx_H} (hf : j_X11_want_32 nn s0 h = some r) : mx_S X F L 348 32 [] [.ref s0] h 0 0 (none, r, 0, 0) := by
  have hm : mx_mt 348 = some (yX11_want, cX11_want, 3, none) := mt_X11_want
  unfold j_X11_want_32 at hf
  refine sx_ic (v := 1) hm dX11_want_32 (by decide) ?_
  refine mx_S.pu (pc2 := 37) (lv2 := []) (st2 := [.int 1, .ref s0]) hm dX11_want_33 rfl ?_
  replace hf := mx_sv_el hf; obtain ⟨h1, e_h1, hf⟩ := hf
  refine sx_put hm dX11_want_37 rs_RX11_295 ft_11_19 ⟨by decide, by decide⟩ (fun z => by cases z) e_h1 ?_
  clear e_h1
  cases hf
  exact sx_ret hm dX11_want_40 rfl
set_option maxHeartbeats 4000000 in
set_option maxRecDepth 20000 in
theorem f_X11_want_ok (X : Nat × (Nat → Int32)) {F L : Nat} (hF : 1 ≤ F) (hL : 23 ≤ L) (nn : Nat) (a0 : Nat) (a1 : Int32) (h : mx_H) {r : mx_H} (hf : f_X11_want nn a0 a1 h = some r) : mx_R X F L 348 [.ref a0, .int a1] h (none, r, 0, 0) := by
  have hm : mx_mt 348 = some (yX11_want, cX11_want, 3, none) := mt_X11_want
  show mx_S X F L 348 0 [(0, .ref a0), (1, .int a1)] [] h 0 0 (none, r, 0, 0)
  unfold f_X11_want at hf
  refine mx_S.pu (pc2 := 1) (lv2 := [(0, .ref a0), (1, .int a1)]) (st2 := [.ref a0]) hm dX11_want_0 rfl ?_
  replace hf := mx_gd_el hf; obtain ⟨c2, hf⟩ := hf
  replace hf := mx_sv_el hf; obtain ⟨u3, e_u3, hf⟩ := hf
  refine sx_cv hm dX11_want_1 rs_RX11_313 mt_X11_pop [] [] (b := a0) (ci := 11) rfl rfl rfl c2 (Nat.le_of_ble_eq_true rfl) (Nat.le_of_ble_eq_true rfl) (by omega) (by omega) (f_X11_pop_ok X (by omega) (by omega) nn a0 h e_u3) ?_
  clear e_u3
  show mx_S X F L 348 4 [(0, .ref a0), (1, .int a1)] [.int u3.1] u3.2 0 0 (none, r, 0, 0)
  refine mx_S.pu (pc2 := 5) (lv2 := [(2, .int u3.1), (0, .ref a0), (1, .int a1)]) (st2 := []) hm dX11_want_4 rfl ?_
  refine mx_S.pu (pc2 := 6) (lv2 := [(2, .int u3.1), (0, .ref a0), (1, .int a1)]) (st2 := [.ref a0]) hm dX11_want_5 rfl ?_
  refine mx_S.pu (pc2 := 7) (lv2 := [(2, .int u3.1), (0, .ref a0), (1, .int a1)]) (st2 := [.ref a0, .ref a0]) hm dX11_want_6 rfl ?_
  replace hf := mx_sv_el hf; obtain ⟨v4, e_v4, hf⟩ := hf
  refine sx_get hm dX11_want_7 rs_RX11_295 (xgi_el e_v4) ?_
  clear e_v4
  rcases mx_if_el hf with ⟨c12, hf⟩ | ⟨c12, hf⟩
  · refine sb_if_eq hm dX11_want_10 (tgt := 36) rfl (fun _ => ?_) (fun z => absurd c12 z)
    refine sx_ic (v := 0) hm dX11_want_36 (by decide) ?_
    replace hf := mx_sv_el hf; obtain ⟨h5, e_h5, hf⟩ := hf
    refine sx_put hm dX11_want_37 rs_RX11_295 ft_11_19 ⟨by decide, by decide⟩ (fun z => by cases z) e_h5 ?_
    clear e_h5
    cases hf
    exact sx_ret hm dX11_want_40 rfl
  · refine sb_if_eq hm dX11_want_10 (tgt := 36) rfl (fun z => absurd z c12) (fun _ => ?_)
    refine mx_S.pu (pc2 := 14) (lv2 := [(2, .int u3.1), (0, .ref a0), (1, .int a1)]) (st2 := [.int a1, .ref a0]) hm dX11_want_13 rfl ?_
    refine sx_si (v := 304) hm dX11_want_14 (by decide) ?_
    rcases mx_if_el hf with ⟨c11, hf⟩ | ⟨c11, hf⟩
    · refine sb_ic_eq hm dX11_want_17 (tgt := 32) rfl (fun _ => ?_) (fun z => absurd c11 z)
      refine mx_S.ext [] (mx_sub_pos [] rfl (show ([2, 0, 1] : List Nat).Nodup by decide)) ?_
      exact j_X11_want_32_ok X hF hL nn a0 u3.2 hf
    · refine sb_ic_eq hm dX11_want_17 (tgt := 32) rfl (fun z => absurd z c11) (fun _ => ?_)
      refine mx_S.pu (pc2 := 21) (lv2 := [(2, .int u3.1), (0, .ref a0), (1, .int a1)]) (st2 := [.ref a0, .ref a0]) hm dX11_want_20 rfl ?_
      replace hf := mx_sv_el hf; obtain ⟨v6, e_v6, hf⟩ := hf
      refine sx_get hm dX11_want_21 rs_RX11_60 (xgr_el e_v6) ?_
      clear e_v6
      refine mx_S.pu (pc2 := 25) (lv2 := [(2, .int u3.1), (0, .ref a0), (1, .int a1)]) (st2 := [.int u3.1, .ref v6, .ref a0]) hm dX11_want_24 rfl ?_
      refine mx_S.pu (pc2 := 26) (lv2 := [(2, .int u3.1), (0, .ref a0), (1, .int a1)]) (st2 := [.int a1, .int u3.1, .ref v6, .ref a0]) hm dX11_want_25 rfl ?_
      replace hf := mx_gd_el hf; obtain ⟨c7, hf⟩ := hf
      replace hf := mx_sv_el hf; obtain ⟨u8, e_u8, hf⟩ := hf
      refine sx_cv hm dX11_want_26 rs_RX11_248 mt_X4_fits [.int u3.1, .int a1] [.ref a0] (b := v6) (ci := 4) rfl rfl rfl c7 (Nat.le_of_ble_eq_true rfl) (Nat.le_of_ble_eq_true rfl) (by omega) (by omega) (f_X4_fits_ok X (by omega) (by omega) nn v6 u3.1 a1 u3.2 e_u8) ?_
      clear e_u8
      show mx_S X F L 348 29 [(2, .int u3.1), (0, .ref a0), (1, .int a1)] [.int u8.1, .ref a0] u8.2 0 0 (none, r, 0, 0)
      rcases mx_if_el hf with ⟨c10, hf⟩ | ⟨c10, hf⟩
      · refine sb_if_eq hm dX11_want_29 (tgt := 36) rfl (fun _ => ?_) (fun z => absurd c10 z)
        refine sx_ic (v := 0) hm dX11_want_36 (by decide) ?_
        replace hf := mx_sv_el hf; obtain ⟨h9, e_h9, hf⟩ := hf
        refine sx_put hm dX11_want_37 rs_RX11_295 ft_11_19 ⟨by decide, by decide⟩ (fun z => by cases z) e_h9 ?_
        clear e_h9
        cases hf
        exact sx_ret hm dX11_want_40 rfl
      · refine sb_if_eq hm dX11_want_29 (tgt := 36) rfl (fun z => absurd z c10) (fun _ => ?_)
        refine mx_S.ext [] (mx_sub_pos [] rfl (show ([2, 0, 1] : List Nat).Nodup by decide)) ?_
        exact j_X11_want_32_ok X hF hL nn a0 u8.2 hf
set_option maxHeartbeats 4000000 in
set_option maxRecDepth 20000 in
theorem j_X11_wantArray_61_ok (X : Nat × (Nat → Int32)) {F L : Nat} (hF : 1 ≤ F) (hL : 20 ≤ L) (nn : Nat) (l3 : Int32) (s0 : Nat) (h : mx_H) {r : (Int32 × mx_H)} (hf : j_X11_wantArray_61 nn l3 s0 h = some r) : mx_S X F L 350 61 [(3, .int l3)] [.ref s0] h 0 0 (some (.int r.1), r.2, 0, 0) := by
  have hm : mx_mt 350 = some (yX11_wantArray, cX11_wantArray, 5, (some .int)) := mt_X11_wantArray
  unfold j_X11_wantArray_61 at hf
  refine sx_ic (v := 0) hm dX11_wantArray_61 (by decide) ?_
  replace hf := mx_sv_el hf; obtain ⟨h1, e_h1, hf⟩ := hf
  refine sx_put hm dX11_wantArray_62 rs_RX11_295 ft_11_19 ⟨by decide, by decide⟩ (fun z => by cases z) e_h1 ?_
  clear e_h1
  refine mx_S.pu (pc2 := 66) (lv2 := [(3, .int l3)]) (st2 := [.int l3]) hm dX11_wantArray_65 rfl ?_
  cases hf
  exact sx_ire hm dX11_wantArray_66 rfl rfl
set_option maxHeartbeats 4000000 in
set_option maxRecDepth 20000 in
theorem j_X11_wantArray_42_ok (X : Nat × (Nat → Int32)) {F L : Nat} (hF : 1 ≤ F) (hL : 20 ≤ L) (nn : Nat) (l0 : Nat) (l3 : Int32) (s0 : Int32) (h : mx_H) {r : (Int32 × mx_H)} (hf : j_X11_wantArray_42 nn l0 l3 s0 h = some r) : mx_S X F L 350 42 [(0, .ref l0), (3, .int l3)] [.int s0] h 0 0 (some (.int r.1), r.2, 0, 0) := by
  have hm : mx_mt 350 = some (yX11_wantArray, cX11_wantArray, 5, (some .int)) := mt_X11_wantArray
  unfold j_X11_wantArray_42 at hf
  refine mx_S.pu (pc2 := 44) (lv2 := [(4, .int s0), (0, .ref l0), (3, .int l3)]) (st2 := []) hm dX11_wantArray_42 rfl ?_
  refine mx_S.pu (pc2 := 45) (lv2 := [(4, .int s0), (0, .ref l0), (3, .int l3)]) (st2 := [.ref l0]) hm dX11_wantArray_44 rfl ?_
  refine mx_S.pu (pc2 := 46) (lv2 := [(4, .int s0), (0, .ref l0), (3, .int l3)]) (st2 := [.ref l0, .ref l0]) hm dX11_wantArray_45 rfl ?_
  replace hf := mx_sv_el hf; obtain ⟨v2, e_v2, hf⟩ := hf
  refine sx_get hm dX11_wantArray_46 rs_RX11_295 (xgi_el e_v2) ?_
  clear e_v2
  rcases mx_if_el hf with ⟨c5, hf⟩ | ⟨c5, hf⟩
  · refine sb_if_eq hm dX11_wantArray_49 (tgt := 61) rfl (fun _ => ?_) (fun z => absurd c5 z)
    refine mx_S.ext [(3, .int l3)] (mx_sub_pos [2] rfl (show ([4, 0, 3] : List Nat).Nodup by decide)) ?_
    exact j_X11_wantArray_61_ok X hF hL nn l3 l0 h hf
  · refine sb_if_eq hm dX11_wantArray_49 (tgt := 61) rfl (fun z => absurd z c5) (fun _ => ?_)
    refine mx_S.pu (pc2 := 54) (lv2 := [(4, .int s0), (0, .ref l0), (3, .int l3)]) (st2 := [.int s0, .ref l0]) hm dX11_wantArray_52 rfl ?_
    rcases mx_if_el hf with ⟨c4, hf⟩ | ⟨c4, hf⟩
    · refine sb_if_eq hm dX11_wantArray_54 (tgt := 61) rfl (fun _ => ?_) (fun z => absurd c4 z)
      refine mx_S.ext [(3, .int l3)] (mx_sub_pos [2] rfl (show ([4, 0, 3] : List Nat).Nodup by decide)) ?_
      exact j_X11_wantArray_61_ok X hF hL nn l3 l0 h hf
    · refine sb_if_eq hm dX11_wantArray_54 (tgt := 61) rfl (fun z => absurd z c4) (fun _ => ?_)
      refine sx_ic (v := 1) hm dX11_wantArray_57 (by decide) ?_
      refine mx_S.pu (pc2 := 62) (lv2 := [(4, .int s0), (0, .ref l0), (3, .int l3)]) (st2 := [.int 1, .ref l0]) hm dX11_wantArray_58 rfl ?_
      replace hf := mx_sv_el hf; obtain ⟨h3, e_h3, hf⟩ := hf
      refine sx_put hm dX11_wantArray_62 rs_RX11_295 ft_11_19 ⟨by decide, by decide⟩ (fun z => by cases z) e_h3 ?_
      clear e_h3
      refine mx_S.pu (pc2 := 66) (lv2 := [(4, .int s0), (0, .ref l0), (3, .int l3)]) (st2 := [.int l3]) hm dX11_wantArray_65 rfl ?_
      cases hf
      exact sx_ire hm dX11_wantArray_66 rfl rfl
