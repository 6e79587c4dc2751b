set_option maxHeartbeats 4000000 in
set_option maxRecDepth 20000 in
theorem w_X11_fitsLocals_4_ok (X : Nat × (Nat → Int32)) {F L : Nat} (hF : 2 ≤ F) (hL : 45 ≤ L) (nn : Nat) : ∀ (k : Nat) (l0 : Nat) (l1 : Int32) (l2 : Int32) (l3 : Int32) (h : mx_H) (r : (Int32 × mx_H)), w_X11_fitsLocals_4 nn k l0 l1 l2 l3 h = some r → mx_S X F L 341 4 [(0, .ref l0), (1, .int l1), (2, .int l2), (3, .int l3)] [] h 0 0 (some (.int r.1), r.2, 0, 0) := by
  have hm : mx_mt 341 = some (yX11_fitsLocals, cX11_fitsLocals, 4, (some .boolean)) := mt_X11_fitsLocals
  intro k
  induction k with
  | zero => intro l0 l1 l2 l3 h r hf; cases hf
  | succ k ih =>
    intro l0 l1 l2 l3 h r hf
    unfold w_X11_fitsLocals_4 at hf
    refine mx_S.pu (pc2 := 5) (lv2 := [(0, .ref l0), (1, .int l1), (2, .int l2), (3, .int l3)]) (st2 := [.int l3]) hm dX11_fitsLocals_4 rfl ?_
    refine mx_S.pu (pc2 := 6) (lv2 := [(0, .ref l0), (1, .int l1), (2, .int l2), (3, .int l3)]) (st2 := [.ref l0, .int l3]) hm dX11_fitsLocals_5 rfl ?_
    replace hf := mx_sv_el hf; obtain ⟨v1, e_v1, hf⟩ := hf
    refine sx_get hm dX11_fitsLocals_6 rs_RX11_41 (xgr_el e_v1) ?_
    clear e_v1
    refine mx_S.pu (pc2 := 10) (lv2 := [(0, .ref l0), (1, .int l1), (2, .int l2), (3, .int l3)]) (st2 := [.int l1, .ref v1, .int l3]) hm dX11_fitsLocals_9 rfl ?_
    refine sx_ic (v := 1) hm dX11_fitsLocals_10 (by decide) ?_
    replace hf := xl_el hf; obtain ⟨v2, e_v2, hf⟩ := hf
    refine mx_S.pu (pc2 := 12) (lv2 := [(0, .ref l0), (1, .int l1), (2, .int l2), (3, .int l3)]) (st2 := [.int v2, .ref v1, .int l3]) hm dX11_fitsLocals_11 (by rw [← e_v2]; rfl) ?_
    clear e_v2
    replace hf := mx_sv_el hf; obtain ⟨v3, e_v3, hf⟩ := hf
    refine sx_ald hm dX11_fitsLocals_12 e_v3 ?_
    clear e_v3
    rcases mx_if_el hf with ⟨c16, hf⟩ | ⟨c16, hf⟩
    · refine sb_ic_ge hm dX11_fitsLocals_13 (tgt := 47) rfl (fun _ => ?_) (fun z => absurd c16 z)
      refine mx_S.pu (pc2 := 48) (lv2 := [(0, .ref l0), (1, .int l1), (2, .int l2), (3, .int l3)]) (st2 := [.int l2]) hm dX11_fitsLocals_47 rfl ?_
      replace hf := mx_gd_el hf; obtain ⟨c4, hf⟩ := hf
      cases hf
      exact sx_ire hm dX11_fitsLocals_48 rfl (xbq_ok c4).1
    · refine sb_ic_ge hm dX11_fitsLocals_13 (tgt := 47) rfl (fun z => absurd z c16) (fun _ => ?_)
      refine mx_S.pu (pc2 := 17) (lv2 := [(0, .ref l0), (1, .int l1), (2, .int l2), (3, .int l3)]) (st2 := [.int l2]) hm dX11_fitsLocals_16 rfl ?_
      rcases mx_if_el hf with ⟨c15, hf⟩ | ⟨c15, hf⟩
      · refine sb_if_eq hm dX11_fitsLocals_17 (tgt := 47) rfl (fun _ => ?_) (fun z => absurd c15 z)
        refine mx_S.pu (pc2 := 48) (lv2 := [(0, .ref l0), (1, .int l1), (2, .int l2), (3, .int l3)]) (st2 := [.int l2]) hm dX11_fitsLocals_47 rfl ?_
        replace hf := mx_gd_el hf; obtain ⟨c5, hf⟩ := hf
        cases hf
        exact sx_ire hm dX11_fitsLocals_48 rfl (xbq_ok c5).1
      · refine sb_if_eq hm dX11_fitsLocals_17 (tgt := 47) rfl (fun z => absurd z c15) (fun _ => ?_)
        refine mx_S.pu (pc2 := 21) (lv2 := [(0, .ref l0), (1, .int l1), (2, .int l2), (3, .int l3)]) (st2 := [.ref l0]) hm dX11_fitsLocals_20 rfl ?_
        refine mx_S.pu (pc2 := 22) (lv2 := [(0, .ref l0), (1, .int l1), (2, .int l2), (3, .int l3)]) (st2 := [.ref l0, .ref l0]) hm dX11_fitsLocals_21 rfl ?_
        replace hf := mx_sv_el hf; obtain ⟨v6, e_v6, hf⟩ := hf
        refine sx_get hm dX11_fitsLocals_22 rs_RX11_44 (xgr_el e_v6) ?_
        clear e_v6
        refine mx_S.pu (pc2 := 26) (lv2 := [(0, .ref l0), (1, .int l1), (2, .int l2), (3, .int l3)]) (st2 := [.int l3, .ref v6, .ref l0]) hm dX11_fitsLocals_25 rfl ?_
        replace hf := mx_sv_el hf; obtain ⟨v7, e_v7, hf⟩ := hf
        refine sx_ald hm dX11_fitsLocals_26 e_v7 ?_
        clear e_v7
        refine mx_S.pu (pc2 := 28) (lv2 := [(0, .ref l0), (1, .int l1), (2, .int l2), (3, .int l3)]) (st2 := [.ref l0, .int v7, .ref l0]) hm dX11_fitsLocals_27 rfl ?_
        replace hf := mx_sv_el hf; obtain ⟨v8, e_v8, hf⟩ := hf
        refine sx_get hm dX11_fitsLocals_28 rs_RX11_41 (xgr_el e_v8) ?_
        clear e_v8
        refine mx_S.pu (pc2 := 32) (lv2 := [(0, .ref l0), (1, .int l1), (2, .int l2), (3, .int l3)]) (st2 := [.int l1, .ref v8, .int v7, .ref l0]) hm dX11_fitsLocals_31 rfl ?_
        refine sx_ic (v := 3) hm dX11_fitsLocals_32 (by decide) ?_
        replace hf := xl_el hf; obtain ⟨v9, e_v9, hf⟩ := hf
        refine mx_S.pu (pc2 := 34) (lv2 := [(0, .ref l0), (1, .int l1), (2, .int l2), (3, .int l3)]) (st2 := [.int v9, .ref v8, .int v7, .ref l0]) hm dX11_fitsLocals_33 (by rw [← e_v9]; rfl) ?_
        clear e_v9
        refine mx_S.pu (pc2 := 35) (lv2 := [(0, .ref l0), (1, .int l1), (2, .int l2), (3, .int l3)]) (st2 := [.int l3, .int v9, .ref v8, .int v7, .ref l0]) hm dX11_fitsLocals_34 rfl ?_
        replace hf := xl_el hf; obtain ⟨v10, e_v10, hf⟩ := hf
        refine mx_S.pu (pc2 := 36) (lv2 := [(0, .ref l0), (1, .int l1), (2, .int l2), (3, .int l3)]) (st2 := [.int v10, .ref v8, .int v7, .ref l0]) hm dX11_fitsLocals_35 (by rw [← e_v10]; rfl) ?_
        clear e_v10
        replace hf := mx_sv_el hf; obtain ⟨v11, e_v11, hf⟩ := hf
        refine sx_ald hm dX11_fitsLocals_36 e_v11 ?_
        clear e_v11
        replace hf := mx_gd_el hf; obtain ⟨c12, hf⟩ := hf
        replace hf := mx_sv_el hf; obtain ⟨u13, e_u13, hf⟩ := hf
        refine sx_cv hm dX11_fitsLocals_37 rs_RX11_303 mt_X11_fits [.int v7, .int v11] [] (b := l0) (ci := 11) rfl rfl rfl c12 (Nat.le_of_ble_eq_true rfl) (Nat.le_of_ble_eq_true rfl) (by omega) (by omega) (f_X11_fits_ok X (by omega) (by omega) nn l0 v7 v11 h e_u13) ?_
        clear e_u13
        show mx_S X F L 341 40 [(0, .ref l0), (1, .int l1), (2, .int l2), (3, .int l3)] [.int u13.1] u13.2 0 0 (some (.int r.1), r.2, 0, 0)
        refine mx_S.pu (pc2 := 41) (lv2 := [(2, .int u13.1), (0, .ref l0), (1, .int l1), (3, .int l3)]) (st2 := []) hm dX11_fitsLocals_40 rfl ?_
        replace hf := xl_el hf; obtain ⟨v14, e_v14, hf⟩ := hf
        refine mx_S.pu (pc2 := 44) (lv2 := [(3, .int v14), (2, .int u13.1), (0, .ref l0), (1, .int l1)]) (st2 := []) hm dX11_fitsLocals_41 (by rw [← e_v14]; rfl) ?_
        clear e_v14
        refine mx_S.pu (pc2 := 4) (lv2 := [(3, .int v14), (2, .int u13.1), (0, .ref l0), (1, .int l1)]) (st2 := []) hm dX11_fitsLocals_44 rfl ?_
        refine mx_S.ext [(0, .ref l0), (1, .int l1), (2, .int u13.1), (3, .int v14)] (mx_sub_pos [2, 3, 1, 0] rfl (show ([3, 2, 0, 1] : List Nat).Nodup by decide)) ?_
        exact ih l0 l1 u13.1 v14 u13.2 _ hf
set_option maxHeartbeats 4000000 in
set_option maxRecDepth 20000 in
theorem f_X11_fitsLocals_ok (X : Nat × (Nat → Int32)) {F L : Nat} (hF : 2 ≤ F) (hL : 45 ≤ L) (nn : Nat) (a0 : Nat) (a1 : Int32) (h : mx_H) {r : (Int32 × mx_H)} (hf : f_X11_fitsLocals nn a0 a1 h = some r) : mx_R X F L 341 [.ref a0, .int a1] h (some (.int r.1), r.2, 0, 0) := by
  have hm : mx_mt 341 = some (yX11_fitsLocals, cX11_fitsLocals, 4, (some .boolean)) := mt_X11_fitsLocals
  show mx_S X F L 341 0 [(0, .ref a0), (1, .int a1)] [] h 0 0 (some (.int r.1), r.2, 0, 0)
  unfold f_X11_fitsLocals at hf
  refine sx_ic (v := 1) hm dX11_fitsLocals_0 (by decide) ?_
  refine mx_S.pu (pc2 := 2) (lv2 := [(2, .int 1), (0, .ref a0), (1, .int a1)]) (st2 := []) hm dX11_fitsLocals_1 rfl ?_
  refine sx_ic (v := 0) hm dX11_fitsLocals_2 (by decide) ?_
  refine mx_S.pu (pc2 := 4) (lv2 := [(3, .int 0), (2, .int 1), (0, .ref a0), (1, .int a1)]) (st2 := []) hm dX11_fitsLocals_3 rfl ?_
  refine mx_S.ext [(0, .ref a0), (1, .int a1), (2, .int 1), (3, .int 0)] (mx_sub_pos [2, 3, 1, 0] rfl (show ([3, 2, 0, 1] : List Nat).Nodup by decide)) ?_
  exact w_X11_fitsLocals_4_ok X hF hL nn nn a0 a1 1 0 h _ hf
set_option maxHeartbeats 4000000 in
set_option maxRecDepth 20000 in
theorem w_X11_fitsFrame_37_ok (X : Nat × (Nat → Int32)) {F L : Nat} (hF : 3 ≤ F) (hL : 68 ≤ L) (nn : Nat) : ∀ (k : Nat) (l0 : Nat) (l2 : Int32) (l3 : Int32) (l4 : Int32) (h : mx_H) (r : (Int32 × mx_H)), w_X11_fitsFrame_37 nn k l0 l2 l3 l4 h = some r → mx_S X F L 342 37 [(0, .ref l0), (2, .int l2), (3, .int l3), (4, .int l4)] [] h 0 0 (some (.int r.1), r.2, 0, 0) := by
  have hm : mx_mt 342 = some (yX11_fitsFrame, cX11_fitsFrame, 5, (some .boolean)) := mt_X11_fitsFrame
  intro k
  induction k with
  | zero => intro l0 l2 l3 l4 h r hf; cases hf
  | succ k ih =>
    intro l0 l2 l3 l4 h r hf
    unfold w_X11_fitsFrame_37 at hf
    refine mx_S.pu (pc2 := 39) (lv2 := [(0, .ref l0), (2, .int l2), (3, .int l3), (4, .int l4)]) (st2 := [.int l4]) hm dX11_fitsFrame_37 rfl ?_
    refine mx_S.pu (pc2 := 40) (lv2 := [(0, .ref l0), (2, .int l2), (3, .int l3), (4, .int l4)]) (st2 := [.ref l0, .int l4]) hm dX11_fitsFrame_39 rfl ?_
    replace hf := mx_sv_el hf; obtain ⟨v1, e_v1, hf⟩ := hf
    refine sx_get hm dX11_fitsFrame_40 rs_RX11_255 (xgi_el e_v1) ?_
    clear e_v1
    rcases mx_if_el hf with ⟨c14, hf⟩ | ⟨c14, hf⟩
    · refine sb_ic_ge hm dX11_fitsFrame_43 (tgt := 80) rfl (fun _ => ?_) (fun z => absurd c14 z)
      refine mx_S.pu (pc2 := 81) (lv2 := [(0, .ref l0), (2, .int l2), (3, .int l3), (4, .int l4)]) (st2 := [.int l3]) hm dX11_fitsFrame_80 rfl ?_
      replace hf := mx_gd_el hf; obtain ⟨c2, hf⟩ := hf
      cases hf
      exact sx_ire hm dX11_fitsFrame_81 rfl (xbq_ok c2).1
    · refine sb_ic_ge hm dX11_fitsFrame_43 (tgt := 80) rfl (fun z => absurd z c14) (fun _ => ?_)
      refine mx_S.pu (pc2 := 47) (lv2 := [(0, .ref l0), (2, .int l2), (3, .int l3), (4, .int l4)]) (st2 := [.int l3]) hm dX11_fitsFrame_46 rfl ?_
      rcases mx_if_el hf with ⟨c13, hf⟩ | ⟨c13, hf⟩
      · refine sb_if_eq hm dX11_fitsFrame_47 (tgt := 80) rfl (fun _ => ?_) (fun z => absurd c13 z)
        refine mx_S.pu (pc2 := 81) (lv2 := [(0, .ref l0), (2, .int l2), (3, .int l3), (4, .int l4)]) (st2 := [.int l3]) hm dX11_fitsFrame_80 rfl ?_
        replace hf := mx_gd_el hf; obtain ⟨c3, hf⟩ := hf
        cases hf
        exact sx_ire hm dX11_fitsFrame_81 rfl (xbq_ok c3).1
      · refine sb_if_eq hm dX11_fitsFrame_47 (tgt := 80) rfl (fun z => absurd z c13) (fun _ => ?_)
        refine mx_S.pu (pc2 := 51) (lv2 := [(0, .ref l0), (2, .int l2), (3, .int l3), (4, .int l4)]) (st2 := [.ref l0]) hm dX11_fitsFrame_50 rfl ?_
        refine mx_S.pu (pc2 := 52) (lv2 := [(0, .ref l0), (2, .int l2), (3, .int l3), (4, .int l4)]) (st2 := [.ref l0, .ref l0]) hm dX11_fitsFrame_51 rfl ?_
        replace hf := mx_sv_el hf; obtain ⟨v4, e_v4, hf⟩ := hf
        refine sx_get hm dX11_fitsFrame_52 rs_RX11_47 (xgr_el e_v4) ?_
        clear e_v4
        refine mx_S.pu (pc2 := 57) (lv2 := [(0, .ref l0), (2, .int l2), (3, .int l3), (4, .int l4)]) (st2 := [.int l4, .ref v4, .ref l0]) hm dX11_fitsFrame_55 rfl ?_
        replace hf := mx_sv_el hf; obtain ⟨v5, e_v5, hf⟩ := hf
        refine sx_ald hm dX11_fitsFrame_57 e_v5 ?_
        clear e_v5
        refine mx_S.pu (pc2 := 59) (lv2 := [(0, .ref l0), (2, .int l2), (3, .int l3), (4, .int l4)]) (st2 := [.ref l0, .int v5, .ref l0]) hm dX11_fitsFrame_58 rfl ?_
        replace hf := mx_sv_el hf; obtain ⟨v6, e_v6, hf⟩ := hf
        refine sx_get hm dX11_fitsFrame_59 rs_RX11_41 (xgr_el e_v6) ?_
        clear e_v6
        refine mx_S.pu (pc2 := 63) (lv2 := [(0, .ref l0), (2, .int l2), (3, .int l3), (4, .int l4)]) (st2 := [.int l2, .ref v6, .int v5, .ref l0]) hm dX11_fitsFrame_62 rfl ?_
        refine sx_bi (v := 33) hm dX11_fitsFrame_63 (by decide) ?_
        replace hf := xl_el hf; obtain ⟨v7, e_v7, hf⟩ := hf
        refine mx_S.pu (pc2 := 66) (lv2 := [(0, .ref l0), (2, .int l2), (3, .int l3), (4, .int l4)]) (st2 := [.int v7, .ref v6, .int v5, .ref l0]) hm dX11_fitsFrame_65 (by rw [← e_v7]; rfl) ?_
        clear e_v7
        refine mx_S.pu (pc2 := 68) (lv2 := [(0, .ref l0), (2, .int l2), (3, .int l3), (4, .int l4)]) (st2 := [.int l4, .int v7, .ref v6, .int v5, .ref l0]) hm dX11_fitsFrame_66 rfl ?_
        replace hf := xl_el hf; obtain ⟨v8, e_v8, hf⟩ := hf
        refine mx_S.pu (pc2 := 69) (lv2 := [(0, .ref l0), (2, .int l2), (3, .int l3), (4, .int l4)]) (st2 := [.int v8, .ref v6, .int v5, .ref l0]) hm dX11_fitsFrame_68 (by rw [← e_v8]; rfl) ?_
        clear e_v8
        replace hf := mx_sv_el hf; obtain ⟨v9, e_v9, hf⟩ := hf
        refine sx_ald hm dX11_fitsFrame_69 e_v9 ?_
        clear e_v9
        replace hf := mx_gd_el hf; obtain ⟨c10, hf⟩ := hf
        replace hf := mx_sv_el hf; obtain ⟨u11, e_u11, hf⟩ := hf
        refine sx_cv hm dX11_fitsFrame_70 rs_RX11_303 mt_X11_fits [.int v5, .int v9] [] (b := l0) (ci := 11) rfl rfl rfl c10 (Nat.le_of_ble_eq_true rfl) (Nat.le_of_ble_eq_true rfl) (by omega) (by omega) (f_X11_fits_ok X (by omega) (by omega) nn l0 v5 v9 h e_u11) ?_
        clear e_u11
        show mx_S X F L 342 73 [(0, .ref l0), (2, .int l2), (3, .int l3), (4, .int l4)] [.int u11.1] u11.2 0 0 (some (.int r.1), r.2, 0, 0)
        refine mx_S.pu (pc2 := 74) (lv2 := [(3, .int u11.1), (0, .ref l0), (2, .int l2), (4, .int l4)]) (st2 := []) hm dX11_fitsFrame_73 rfl ?_
        replace hf := xl_el hf; obtain ⟨v12, e_v12, hf⟩ := hf
        refine mx_S.pu (pc2 := 77) (lv2 := [(4, .int v12), (3, .int u11.1), (0, .ref l0), (2, .int l2)]) (st2 := []) hm dX11_fitsFrame_74 (by rw [← e_v12]; rfl) ?_
        clear e_v12
        refine mx_S.pu (pc2 := 37) (lv2 := [(4, .int v12), (3, .int u11.1), (0, .ref l0), (2, .int l2)]) (st2 := []) hm dX11_fitsFrame_77 rfl ?_
        refine mx_S.ext [(0, .ref l0), (2, .int l2), (3, .int u11.1), (4, .int v12)] (mx_sub_pos [2, 3, 1, 0] rfl (show ([4, 3, 0, 2] : List Nat).Nodup by decide)) ?_
        exact ih l0 l2 u11.1 v12 u11.2 _ hf
set_option maxHeartbeats 4000000 in
set_option maxRecDepth 20000 in
theorem j_X11_fitsFrame_32_ok (X : Nat × (Nat → Int32)) {F L : Nat} (hF : 3 ≤ F) (hL : 68 ≤ L) (nn : Nat) (l0 : Nat) (l2 : Int32) (h : mx_H) {r : (Int32 × mx_H)} (hf : j_X11_fitsFrame_32 nn l0 l2 h = some r) : mx_S X F L 342 32 [(0, .ref l0), (2, .int l2)] [] h 0 0 (some (.int r.1), r.2, 0, 0) := by
  have hm : mx_mt 342 = some (yX11_fitsFrame, cX11_fitsFrame, 5, (some .boolean)) := mt_X11_fitsFrame
  unfold j_X11_fitsFrame_32 at hf
  refine sx_ic (v := 0) hm dX11_fitsFrame_32 (by decide) ?_
  refine mx_S.pu (pc2 := 34) (lv2 := [(3, .int 0), (0, .ref l0), (2, .int l2)]) (st2 := []) hm dX11_fitsFrame_33 rfl ?_
  refine sx_ic (v := 0) hm dX11_fitsFrame_34 (by decide) ?_
  refine mx_S.pu (pc2 := 37) (lv2 := [(4, .int 0), (3, .int 0), (0, .ref l0), (2, .int l2)]) (st2 := []) hm dX11_fitsFrame_35 rfl ?_
  refine mx_S.ext [(0, .ref l0), (2, .int l2), (3, .int 0), (4, .int 0)] (mx_sub_pos [2, 3, 1, 0] rfl (show ([4, 3, 0, 2] : List Nat).Nodup by decide)) ?_
  exact w_X11_fitsFrame_37_ok X hF hL nn nn l0 l2 0 0 h _ hf
set_option maxHeartbeats 4000000 in
set_option maxRecDepth 20000 in
theorem f_X11_fitsFrame_ok (X : Nat × (Nat → Int32)) {F L : Nat} (hF : 3 ≤ F) (hL : 68 ≤ L) (nn : Nat) (a0 : Nat) (a1 : Int32) (h : mx_H) {r : (Int32 × mx_H)} (hf : f_X11_fitsFrame nn a0 a1 h = some r) : mx_R X F L 342 [.ref a0, .int a1] h (some (.int r.1), r.2, 0, 0) := by
  have hm : mx_mt 342 = some (yX11_fitsFrame, cX11_fitsFrame, 5, (some .boolean)) := mt_X11_fitsFrame
  show mx_S X F L 342 0 [(0, .ref a0), (1, .int a1)] [] h 0 0 (some (.int r.1), r.2, 0, 0)
  unfold f_X11_fitsFrame at hf
  refine mx_S.pu (pc2 := 1) (lv2 := [(0, .ref a0), (1, .int a1)]) (st2 := [.int a1]) hm dX11_fitsFrame_0 rfl ?_
  refine sx_bi (v := 64) hm dX11_fitsFrame_1 (by decide) ?_
  replace hf := xl_el hf; obtain ⟨v15, e_v15, hf⟩ := hf
  refine mx_S.pu (pc2 := 4) (lv2 := [(0, .ref a0), (1, .int a1)]) (st2 := [.int v15]) hm dX11_fitsFrame_3 (by rw [← e_v15]; rfl) ?_
  clear e_v15
  refine mx_S.pu (pc2 := 5) (lv2 := [(2, .int v15), (0, .ref a0), (1, .int a1)]) (st2 := []) hm dX11_fitsFrame_4 rfl ?_
  refine mx_S.pu (pc2 := 6) (lv2 := [(2, .int v15), (0, .ref a0), (1, .int a1)]) (st2 := [.ref a0]) hm dX11_fitsFrame_5 rfl ?_
  replace hf := mx_sv_el hf; obtain ⟨v16, e_v16, hf⟩ := hf
  refine sx_get hm dX11_fitsFrame_6 rs_RX11_41 (xgr_el e_v16) ?_
  clear e_v16
  refine mx_S.pu (pc2 := 10) (lv2 := [(2, .int v15), (0, .ref a0), (1, .int a1)]) (st2 := [.int v15, .ref v16]) hm dX11_fitsFrame_9 rfl ?_
  refine sx_ic (v := 2) hm dX11_fitsFrame_10 (by decide) ?_
  replace hf := xl_el hf; obtain ⟨v17, e_v17, hf⟩ := hf
  refine mx_S.pu (pc2 := 12) (lv2 := [(2, .int v15), (0, .ref a0), (1, .int a1)]) (st2 := [.int v17, .ref v16]) hm dX11_fitsFrame_11 (by rw [← e_v17]; rfl) ?_
  clear e_v17
  replace hf := mx_sv_el hf; obtain ⟨v18, e_v18, hf⟩ := hf
  refine sx_ald hm dX11_fitsFrame_12 e_v18 ?_
  clear e_v18
  refine mx_S.pu (pc2 := 14) (lv2 := [(2, .int v15), (0, .ref a0), (1, .int a1)]) (st2 := [.ref a0, .int v18]) hm dX11_fitsFrame_13 rfl ?_
  replace hf := mx_sv_el hf; obtain ⟨v19, e_v19, hf⟩ := hf
  refine sx_get hm dX11_fitsFrame_14 rs_RX11_255 (xgi_el e_v19) ?_
  clear e_v19
  rcases mx_if_el hf with ⟨c23, hf⟩ | ⟨c23, hf⟩
  · refine sb_ic_ne hm dX11_fitsFrame_17 (tgt := 32) rfl (fun _ => ?_) (fun z => absurd c23 z)
    refine mx_S.ext [(0, .ref a0), (2, .int v15)] (mx_sub_pos [1, 0] rfl (show ([2, 0, 1] : List Nat).Nodup by decide)) ?_
    exact j_X11_fitsFrame_32_ok X hF hL nn a0 v15 h hf
  · refine sb_ic_ne hm dX11_fitsFrame_17 (tgt := 32) rfl (fun z => absurd z c23) (fun _ => ?_)
    refine mx_S.pu (pc2 := 21) (lv2 := [(2, .int v15), (0, .ref a0), (1, .int a1)]) (st2 := [.ref a0]) hm dX11_fitsFrame_20 rfl ?_
    refine mx_S.pu (pc2 := 22) (lv2 := [(2, .int v15), (0, .ref a0), (1, .int a1)]) (st2 := [.int v15, .ref a0]) hm dX11_fitsFrame_21 rfl ?_
    replace hf := mx_gd_el hf; obtain ⟨c20, hf⟩ := hf
    replace hf := mx_sv_el hf; obtain ⟨u21, e_u21, hf⟩ := hf
    refine sx_cv hm dX11_fitsFrame_22 rs_RX11_304 mt_X11_fitsLocals [.int v15] [] (b := a0) (ci := 11) rfl rfl rfl c20 (Nat.le_of_ble_eq_true rfl) (Nat.le_of_ble_eq_true rfl) (by omega) (by omega) (f_X11_fitsLocals_ok X (by omega) (by omega) nn a0 v15 h e_u21) ?_
    clear e_u21
    show mx_S X F L 342 25 [(2, .int v15), (0, .ref a0), (1, .int a1)] [.int u21.1] u21.2 0 0 (some (.int r.1), r.2, 0, 0)
    rcases mx_if_el hf with ⟨c22, hf⟩ | ⟨c22, hf⟩
    · refine sb_if_eq hm dX11_fitsFrame_25 (tgt := 32) rfl (fun _ => ?_) (fun z => absurd c22 z)
      refine mx_S.ext [(0, .ref a0), (2, .int v15)] (mx_sub_pos [1, 0] rfl (show ([2, 0, 1] : List Nat).Nodup by decide)) ?_
      exact j_X11_fitsFrame_32_ok X hF hL nn a0 v15 u21.2 hf
    · refine sb_if_eq hm dX11_fitsFrame_25 (tgt := 32) rfl (fun z => absurd z c22) (fun _ => ?_)
      refine sx_ic (v := 1) hm dX11_fitsFrame_28 (by decide) ?_
      refine mx_S.pu (pc2 := 33) (lv2 := [(2, .int v15), (0, .ref a0), (1, .int a1)]) (st2 := [.int 1]) hm dX11_fitsFrame_29 rfl ?_
      refine mx_S.pu (pc2 := 34) (lv2 := [(3, .int 1), (2, .int v15), (0, .ref a0), (1, .int a1)]) (st2 := []) hm dX11_fitsFrame_33 rfl ?_
      refine sx_ic (v := 0) hm dX11_fitsFrame_34 (by decide) ?_
      refine mx_S.pu (pc2 := 37) (lv2 := [(4, .int 0), (3, .int 1), (2, .int v15), (0, .ref a0), (1, .int a1)]) (st2 := []) hm dX11_fitsFrame_35 rfl ?_
      refine mx_S.ext [(0, .ref a0), (2, .int v15), (3, .int 1), (4, .int 0)] (mx_sub_pos [3, 2, 1, 0] rfl (show ([4, 3, 2, 0, 1] : List Nat).Nodup by decide)) ?_
      exact w_X11_fitsFrame_37_ok X hF hL nn nn a0 v15 1 0 u21.2 _ hf
