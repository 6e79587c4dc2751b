set_option maxHeartbeats 4000000 in
set_option maxRecDepth 20000 in
theorem w_X7_methodOf_31_ok (X : Nat × (Nat → Int32)) {F L : Nat} (hF : 2 ≤ F) (hL : 50 ≤ L) (nn : Nat) {kk_6 : Nat → Nat → Int32 → Int32 → Int32 → mx_H → Option (Int32 × mx_H)} (hk_6 : ∀ (l0 : Nat) (l2 : Nat) (l3 : Int32) (l4 : Int32) (l5 : Int32) (h : mx_H) (r : (Int32 × mx_H)), kk_6 l0 l2 l3 l4 l5 h = some r → mx_S X F L 211 6 [(0, .ref l0), (2, .ref l2), (3, .int l3), (4, .int l4), (5, .int l5)] [] h 0 0 (some (.int r.1), r.2, 0, 0)) : ∀ (k : Nat) (l0 : Nat) (l2 : Nat) (l3 : Int32) (l4 : Int32) (l5 : Int32) (l6 : (Option Nat)) (l7 : Int32) (h : mx_H) (r : (Int32 × mx_H)), w_X7_methodOf_31 nn kk_6 k l0 l2 l3 l4 l5 l6 l7 h = some r → mx_S X F L 211 31 [(0, .ref l0), (2, .ref l2), (3, .int l3), (4, .int l4), (5, .int l5), (6, va_rf l6), (7, .int l7)] [] h 0 0 (some (.int r.1), r.2, 0, 0) := by
  have hm : mx_mt 211 = some (yX7_methodOf, cX7_methodOf, 8, (some .int)) := mt_X7_methodOf
  intro k
  induction k with
  | zero => intro l0 l2 l3 l4 l5 l6 l7 h r hf; cases hf
  | succ k ih =>
    intro l0 l2 l3 l4 l5 l6 l7 h r hf
    unfold w_X7_methodOf_31 at hf
    refine mx_S.pu (pc2 := 33) (lv2 := [(0, .ref l0), (2, .ref l2), (3, .int l3), (4, .int l4), (5, .int l5), (6, va_rf l6), (7, .int l7)]) (st2 := [.int l7]) hm dX7_methodOf_31 rfl ?_
    refine sx_ao hm dX7_methodOf_33 rfl ?_
    replace hf := mx_sv_el hf; obtain ⟨b1, e_b1, hf⟩ := hf
    rw [show va_rf l6 = Value.ref b1 by rw [e_b1]; rfl]
    clear e_b1
    replace hf := mx_sv_el hf; obtain ⟨v2, e_v2, hf⟩ := hf
    refine sx_get hm dX7_methodOf_35 rs_RX7_141 (xgi_el e_v2) ?_
    clear e_v2
    rcases mx_if_el hf with ⟨c15, hf⟩ | ⟨c15, hf⟩
    · refine sb_ic_ge hm dX7_methodOf_38 (tgt := 74) rfl (fun _ => ?_) (fun z => absurd c15 z)
      refine mx_S.pu (pc2 := 75) (lv2 := [(0, .ref l0), (2, .ref l2), (3, .int l3), (4, .int l4), (5, .int l5), (6, .ref b1), (7, .int l7)]) (st2 := [.ref l0]) hm dX7_methodOf_74 rfl ?_
      replace hf := mx_sv_el hf; obtain ⟨v3, e_v3, hf⟩ := hf
      refine sx_get hm dX7_methodOf_75 rs_RX7_16 (xgr_el e_v3) ?_
      clear e_v3
      refine mx_S.pu (pc2 := 80) (lv2 := [(0, .ref l0), (2, .ref l2), (3, .int l3), (4, .int l4), (5, .int l5), (6, .ref b1), (7, .int l7)]) (st2 := [.int l4, .ref v3]) hm dX7_methodOf_78 rfl ?_
      replace hf := mx_gd_el hf; obtain ⟨c4, hf⟩ := hf
      replace hf := mx_sv_el hf; obtain ⟨u5, e_u5, hf⟩ := hf
      refine sx_cv hm dX7_methodOf_80 rs_RX7_138 mt_X4_above [.int l4] [] (b := v3) (ci := 4) rfl rfl rfl c4 (Nat.le_of_ble_eq_true rfl) (Nat.le_of_ble_eq_true rfl) (by omega) (by omega) (f_X4_above_ok X (by omega) (by omega) nn v3 l4 h e_u5) ?_
      clear e_u5
      show mx_S X F L 211 83 [(0, .ref l0), (2, .ref l2), (3, .int l3), (4, .int l4), (5, .int l5), (6, .ref b1), (7, .int l7)] [.int u5.1] u5.2 0 0 (some (.int r.1), r.2, 0, 0)
      refine mx_S.pu (pc2 := 85) (lv2 := [(4, .int u5.1), (0, .ref l0), (2, .ref l2), (3, .int l3), (5, .int l5), (6, .ref b1), (7, .int l7)]) (st2 := []) hm dX7_methodOf_83 rfl ?_
      replace hf := xl_el hf; obtain ⟨v6, e_v6, hf⟩ := hf
      refine mx_S.pu (pc2 := 88) (lv2 := [(5, .int v6), (4, .int u5.1), (0, .ref l0), (2, .ref l2), (3, .int l3), (6, .ref b1), (7, .int l7)]) (st2 := []) hm dX7_methodOf_85 (by rw [← e_v6]; rfl) ?_
      clear e_v6
      refine mx_S.pu (pc2 := 6) (lv2 := [(5, .int v6), (4, .int u5.1), (0, .ref l0), (2, .ref l2), (3, .int l3), (6, .ref b1), (7, .int l7)]) (st2 := []) hm dX7_methodOf_88 rfl ?_
      refine mx_S.ext [(0, .ref l0), (2, .ref l2), (3, .int l3), (4, .int u5.1), (5, .int v6)] (mx_sub_pos [2, 3, 4, 1, 0] rfl (show ([5, 4, 0, 2, 3, 6, 7] : List Nat).Nodup by decide)) ?_
      exact hk_6 l0 l2 l3 u5.1 v6 u5.2 _ hf
    · refine sb_ic_ge hm dX7_methodOf_38 (tgt := 74) rfl (fun z => absurd z c15) (fun _ => ?_)
      refine mx_S.pu (pc2 := 43) (lv2 := [(0, .ref l0), (2, .ref l2), (3, .int l3), (4, .int l4), (5, .int l5), (6, .ref b1), (7, .int l7)]) (st2 := [.ref b1]) hm dX7_methodOf_41 rfl ?_
      refine mx_S.pu (pc2 := 45) (lv2 := [(0, .ref l0), (2, .ref l2), (3, .int l3), (4, .int l4), (5, .int l5), (6, .ref b1), (7, .int l7)]) (st2 := [.ref b1, .ref b1]) hm dX7_methodOf_43 rfl ?_
      refine mx_S.pu (pc2 := 47) (lv2 := [(0, .ref l0), (2, .ref l2), (3, .int l3), (4, .int l4), (5, .int l5), (6, .ref b1), (7, .int l7)]) (st2 := [.int l7, .ref b1, .ref b1]) hm dX7_methodOf_45 rfl ?_
      refine sx_ic (v := 1) hm dX7_methodOf_47 (by decide) ?_
      replace hf := mx_gd_el hf; obtain ⟨c7, hf⟩ := hf
      replace hf := mx_sv_el hf; obtain ⟨u8, e_u8, hf⟩ := hf
      refine sx_cv hm dX7_methodOf_48 rs_RX7_144 mt_X3_of [.int l7, .int 1] [.ref b1] (b := b1) (ci := 3) rfl rfl rfl c7 (Nat.le_of_ble_eq_true rfl) (Nat.le_of_ble_eq_true rfl) (by omega) (by omega) (f_X3_of_ok X (by omega) (by omega) nn b1 l7 1 h e_u8) ?_
      clear e_u8
      show mx_S X F L 211 51 [(0, .ref l0), (2, .ref l2), (3, .int l3), (4, .int l4), (5, .int l5), (6, .ref b1), (7, .int l7)] [.int u8.1, .ref b1] u8.2 0 0 (some (.int r.1), r.2, 0, 0)
      refine mx_S.pu (pc2 := 52) (lv2 := [(0, .ref l0), (2, .ref l2), (3, .int l3), (4, .int l4), (5, .int l5), (6, .ref b1), (7, .int l7)]) (st2 := [.ref l2, .int u8.1, .ref b1]) hm dX7_methodOf_51 rfl ?_
      refine mx_S.pu (pc2 := 53) (lv2 := [(0, .ref l0), (2, .ref l2), (3, .int l3), (4, .int l4), (5, .int l5), (6, .ref b1), (7, .int l7)]) (st2 := [.int l3, .ref l2, .int u8.1, .ref b1]) hm dX7_methodOf_52 rfl ?_
      replace hf := mx_gd_el hf; obtain ⟨c9, hf⟩ := hf
      replace hf := mx_sv_el hf; obtain ⟨u10, e_u10, hf⟩ := hf
      refine sx_cv hm dX7_methodOf_53 rs_RX7_109 mt_X3_sameText [.int u8.1, .ref l2, .int l3] [] (b := b1) (ci := 3) rfl rfl rfl c9 (Nat.le_of_ble_eq_true rfl) (Nat.le_of_ble_eq_true rfl) (by omega) (by omega) (f_X3_sameText_ok X (by omega) (by omega) nn b1 u8.1 l2 l3 u8.2 e_u10) ?_
      clear e_u10
      show mx_S X F L 211 56 [(0, .ref l0), (2, .ref l2), (3, .int l3), (4, .int l4), (5, .int l5), (6, .ref b1), (7, .int l7)] [.int u10.1] u10.2 0 0 (some (.int r.1), r.2, 0, 0)
      rcases mx_if_el hf with ⟨c14, hf⟩ | ⟨c14, hf⟩
      · refine sb_if_eq hm dX7_methodOf_56 (tgt := 68) rfl (fun _ => ?_) (fun z => absurd c14 z)
        replace hf := xl_el hf; obtain ⟨v11, e_v11, hf⟩ := hf
        refine mx_S.pu (pc2 := 71) (lv2 := [(7, .int v11), (0, .ref l0), (2, .ref l2), (3, .int l3), (4, .int l4), (5, .int l5), (6, .ref b1)]) (st2 := []) hm dX7_methodOf_68 (by rw [← e_v11]; rfl) ?_
        clear e_v11
        refine mx_S.pu (pc2 := 31) (lv2 := [(7, .int v11), (0, .ref l0), (2, .ref l2), (3, .int l3), (4, .int l4), (5, .int l5), (6, .ref b1)]) (st2 := []) hm dX7_methodOf_71 rfl ?_
        refine mx_S.ext [(0, .ref l0), (2, .ref l2), (3, .int l3), (4, .int l4), (5, .int l5), (6, va_rf (some b1)), (7, .int v11)] (mx_sub_pos [1, 2, 3, 4, 5, 6, 0] rfl (show ([7, 0, 2, 3, 4, 5, 6] : List Nat).Nodup by decide)) ?_
        exact ih l0 l2 l3 l4 l5 (some b1) v11 u10.2 _ hf
      · refine sb_if_eq hm dX7_methodOf_56 (tgt := 68) rfl (fun z => absurd z c14) (fun _ => ?_)
        refine mx_S.pu (pc2 := 60) (lv2 := [(0, .ref l0), (2, .ref l2), (3, .int l3), (4, .int l4), (5, .int l5), (6, .ref b1), (7, .int l7)]) (st2 := [.ref l0]) hm dX7_methodOf_59 rfl ?_
        refine mx_S.pu (pc2 := 62) (lv2 := [(0, .ref l0), (2, .ref l2), (3, .int l3), (4, .int l4), (5, .int l5), (6, .ref b1), (7, .int l7)]) (st2 := [.int l4, .ref l0]) hm dX7_methodOf_60 rfl ?_
        refine mx_S.pu (pc2 := 64) (lv2 := [(0, .ref l0), (2, .ref l2), (3, .int l3), (4, .int l4), (5, .int l5), (6, .ref b1), (7, .int l7)]) (st2 := [.int l7, .int l4, .ref l0]) hm dX7_methodOf_62 rfl ?_
        replace hf := mx_gd_el hf; obtain ⟨c12, hf⟩ := hf
        replace hf := mx_sv_el hf; obtain ⟨u13, e_u13, hf⟩ := hf
        refine sx_cv hm dX7_methodOf_64 rs_RX7_135 mt_X7_numberOf [.int l4, .int l7] [] (b := l0) (ci := 7) rfl rfl rfl c12 (Nat.le_of_ble_eq_true rfl) (Nat.le_of_ble_eq_true rfl) (by omega) (by omega) (f_X7_numberOf_ok X (by omega) (by omega) nn l0 l4 l7 u10.2 e_u13) ?_
        clear e_u13
        show mx_S X F L 211 67 [(0, .ref l0), (2, .ref l2), (3, .int l3), (4, .int l4), (5, .int l5), (6, .ref b1), (7, .int l7)] [.int u13.1] u13.2 0 0 (some (.int r.1), r.2, 0, 0)
        cases hf
        exact sx_ire hm dX7_methodOf_67 rfl rfl
set_option maxHeartbeats 4000000 in
set_option maxRecDepth 20000 in
theorem w_X7_methodOf_6_ok (X : Nat × (Nat → Int32)) {F L : Nat} (hF : 2 ≤ F) (hL : 50 ≤ L) (nn : Nat) : ∀ (k : Nat) (l0 : Nat) (l2 : Nat) (l3 : Int32) (l4 : Int32) (l5 : Int32) (h : mx_H) (r : (Int32 × mx_H)), w_X7_methodOf_6 nn k l0 l2 l3 l4 l5 h = some r → mx_S X F L 211 6 [(0, .ref l0), (2, .ref l2), (3, .int l3), (4, .int l4), (5, .int l5)] [] h 0 0 (some (.int r.1), r.2, 0, 0) := by
  have hm : mx_mt 211 = some (yX7_methodOf, cX7_methodOf, 8, (some .int)) := mt_X7_methodOf
  intro k
  induction k with
  | zero => intro l0 l2 l3 l4 l5 h r hf; cases hf
  | succ k ih =>
    intro l0 l2 l3 l4 l5 h r hf
    unfold w_X7_methodOf_6 at hf
    refine mx_S.pu (pc2 := 8) (lv2 := [(0, .ref l0), (2, .ref l2), (3, .int l3), (4, .int l4), (5, .int l5)]) (st2 := [.int l5]) hm dX7_methodOf_6 rfl ?_
    refine sx_bi (v := 16) hm dX7_methodOf_8 (by decide) ?_
    rcases mx_if_el hf with ⟨c20, hf⟩ | ⟨c20, hf⟩
    · refine sb_ic_ge hm dX7_methodOf_10 (tgt := 91) rfl (fun _ => ?_) (fun z => absurd c20 z)
      refine sx_ic (v := (-1)) hm dX7_methodOf_91 (by decide) ?_
      cases hf
      exact sx_ire hm dX7_methodOf_92 rfl rfl
    · refine sb_ic_ge hm dX7_methodOf_10 (tgt := 91) rfl (fun z => absurd z c20) (fun _ => ?_)
      refine mx_S.pu (pc2 := 14) (lv2 := [(0, .ref l0), (2, .ref l2), (3, .int l3), (4, .int l4), (5, .int l5)]) (st2 := [.ref l0]) hm dX7_methodOf_13 rfl ?_
      refine mx_S.pu (pc2 := 16) (lv2 := [(0, .ref l0), (2, .ref l2), (3, .int l3), (4, .int l4), (5, .int l5)]) (st2 := [.int l4, .ref l0]) hm dX7_methodOf_14 rfl ?_
      replace hf := mx_gd_el hf; obtain ⟨c16, hf⟩ := hf
      replace hf := mx_sv_el hf; obtain ⟨u17, e_u17, hf⟩ := hf
      refine sx_cv hm dX7_methodOf_16 rs_RX7_90 mt_X7_imageOf [.int l4] [] (b := l0) (ci := 7) rfl rfl rfl c16 (Nat.le_of_ble_eq_true rfl) (Nat.le_of_ble_eq_true rfl) (by omega) (by omega) (f_X7_imageOf_ok X (by omega) (by omega) nn l0 l4 h e_u17) ?_
      clear e_u17
      show mx_S X F L 211 19 [(0, .ref l0), (2, .ref l2), (3, .int l3), (4, .int l4), (5, .int l5)] [va_rf u17.1] u17.2 0 0 (some (.int r.1), r.2, 0, 0)
      refine sx_so (lv2 := [(6, va_rf u17.1), (0, .ref l0), (2, .ref l2), (3, .int l3), (4, .int l4), (5, .int l5)]) hm dX7_methodOf_19 rfl rfl ?_
      refine sx_ao hm dX7_methodOf_21 rfl ?_
      rcases mx_oc_el hf with ⟨c19, hf⟩ | ⟨b18, c19, hf⟩
      · refine sx_ifnonnull_n hm dX7_methodOf_23 c19 (tgt := 28) rfl ?_
        refine sx_ic (v := (-1)) hm dX7_methodOf_26 (by decide) ?_
        cases hf
        exact sx_ire hm dX7_methodOf_27 rfl rfl
      · refine sx_ifnonnull_s hm dX7_methodOf_23 c19 (tgt := 28) rfl ?_
        rw [show va_rf u17.1 = Value.ref b18 by rw [c19]; rfl]
        refine sx_ic (v := 0) hm dX7_methodOf_28 (by decide) ?_
        refine mx_S.pu (pc2 := 31) (lv2 := [(7, .int 0), (6, .ref b18), (0, .ref l0), (2, .ref l2), (3, .int l3), (4, .int l4), (5, .int l5)]) (st2 := []) hm dX7_methodOf_29 rfl ?_
        refine mx_S.ext [(0, .ref l0), (2, .ref l2), (3, .int l3), (4, .int l4), (5, .int l5), (6, va_rf (some b18)), (7, .int 0)] (mx_sub_pos [2, 3, 4, 5, 6, 1, 0] rfl (show ([7, 6, 0, 2, 3, 4, 5] : List Nat).Nodup by decide)) ?_
        exact w_X7_methodOf_31_ok X hF hL nn ih nn l0 l2 l3 l4 l5 (some b18) 0 u17.2 _ hf
set_option maxHeartbeats 4000000 in
set_option maxRecDepth 20000 in
theorem f_X7_methodOf_ok (X : Nat × (Nat → Int32)) {F L : Nat} (hF : 2 ≤ F) (hL : 50 ≤ L) (nn : Nat) (a0 : Nat) (a1 : Int32) (a2 : Nat) (a3 : Int32) (h : mx_H) {r : (Int32 × mx_H)} (hf : f_X7_methodOf nn a0 a1 a2 a3 h = some r) : mx_R X F L 211 [.ref a0, .int a1, .ref a2, .int a3] h (some (.int r.1), r.2, 0, 0) := by
  have hm : mx_mt 211 = some (yX7_methodOf, cX7_methodOf, 8, (some .int)) := mt_X7_methodOf
  show mx_S X F L 211 0 [(0, .ref a0), (1, .int a1), (2, .ref a2), (3, .int a3)] [] h 0 0 (some (.int r.1), r.2, 0, 0)
  unfold f_X7_methodOf at hf
  refine mx_S.pu (pc2 := 1) (lv2 := [(0, .ref a0), (1, .int a1), (2, .ref a2), (3, .int a3)]) (st2 := [.int a1]) hm dX7_methodOf_0 rfl ?_
  refine mx_S.pu (pc2 := 3) (lv2 := [(4, .int a1), (0, .ref a0), (1, .int a1), (2, .ref a2), (3, .int a3)]) (st2 := []) hm dX7_methodOf_1 rfl ?_
  refine sx_ic (v := 0) hm dX7_methodOf_3 (by decide) ?_
  refine mx_S.pu (pc2 := 6) (lv2 := [(5, .int 0), (4, .int a1), (0, .ref a0), (1, .int a1), (2, .ref a2), (3, .int a3)]) (st2 := []) hm dX7_methodOf_4 rfl ?_
  refine mx_S.ext [(0, .ref a0), (2, .ref a2), (3, .int a3), (4, .int a1), (5, .int 0)] (mx_sub_pos [2, 4, 5, 1, 0] rfl (show ([5, 4, 0, 1, 2, 3] : List Nat).Nodup by decide)) ?_
  exact w_X7_methodOf_6_ok X hF hL nn nn a0 a2 a3 a1 0 h _ hf
set_option maxHeartbeats 4000000 in
set_option maxRecDepth 20000 in
theorem j_X11_hasOtherAbove_124_ok (X : Nat × (Nat → Int32)) {F L : Nat} (hF : 3 ≤ F) (hL : 77 ≤ L) (nn : Nat) {kk_4 : Nat → Int32 → Int32 → Int32 → mx_H → Option (Int32 × mx_H)} (hk_4 : ∀ (l0 : Nat) (l1 : Int32) (l2 : Int32) (l3 : Int32) (h : mx_H) (r : (Int32 × mx_H)), kk_4 l0 l1 l2 l3 h = some r → mx_S X F L 314 4 [(0, .ref l0), (1, .int l1), (2, .int l2), (3, .int l3)] [] h 0 0 (some (.int r.1), r.2, 0, 0)) (l0 : Nat) (l1 : Int32) (l3 : Int32) (h : mx_H) {r : (Int32 × mx_H)} (hf : j_X11_hasOtherAbove_124 nn kk_4 l0 l1 l3 h = some r) : mx_S X F L 314 124 [(0, .ref l0), (1, .int l1), (3, .int l3)] [] h 0 0 (some (.int r.1), r.2, 0, 0) := by
  have hm : mx_mt 314 = some (yX11_hasOtherAbove, cX11_hasOtherAbove, 7, (some .boolean)) := mt_X11_hasOtherAbove
  unfold j_X11_hasOtherAbove_124 at hf
  refine sx_ic (v := 1) hm dX11_hasOtherAbove_124 (by decide) ?_
  refine mx_S.pu (pc2 := 129) (lv2 := [(0, .ref l0), (1, .int l1), (3, .int l3)]) (st2 := [.int 1]) hm dX11_hasOtherAbove_125 rfl ?_
  refine mx_S.pu (pc2 := 130) (lv2 := [(2, .int 1), (0, .ref l0), (1, .int l1), (3, .int l3)]) (st2 := []) hm dX11_hasOtherAbove_129 rfl ?_
  replace hf := xl_el hf; obtain ⟨v1, e_v1, hf⟩ := hf
  refine mx_S.pu (pc2 := 133) (lv2 := [(3, .int v1), (2, .int 1), (0, .ref l0), (1, .int l1)]) (st2 := []) hm dX11_hasOtherAbove_130 (by rw [← e_v1]; rfl) ?_
  clear e_v1
  refine mx_S.pu (pc2 := 4) (lv2 := [(3, .int v1), (2, .int 1), (0, .ref l0), (1, .int l1)]) (st2 := []) hm dX11_hasOtherAbove_133 rfl ?_
  refine mx_S.ext [(0, .ref l0), (1, .int l1), (2, .int 1), (3, .int v1)] (mx_sub_pos [2, 3, 1, 0] rfl (show ([3, 2, 0, 1] : List Nat).Nodup by decide)) ?_
  exact hk_4 l0 l1 1 v1 h _ hf
set_option maxHeartbeats 4000000 in
set_option maxRecDepth 20000 in
theorem w_X11_hasOtherAbove_4_ok (X : Nat × (Nat → Int32)) {F L : Nat} (hF : 3 ≤ F) (hL : 77 ≤ L) (nn : Nat) : ∀ (k : Nat) (l0 : Nat) (l1 : Int32) (l2 : Int32) (l3 : Int32) (h : mx_H) (r : (Int32 × mx_H)), w_X11_hasOtherAbove_4 nn k l0 l1 l2 l3 h = some r → mx_S X F L 314 4 [(0, .ref l0), (1, .int l1), (2, .int l2), (3, .int l3)] [] h 0 0 (some (.int r.1), r.2, 0, 0) := by
  have hm : mx_mt 314 = some (yX11_hasOtherAbove, cX11_hasOtherAbove, 7, (some .boolean)) := mt_X11_hasOtherAbove
  intro k
  induction k with
  | zero => intro l0 l1 l2 l3 h r hf; cases hf
  | succ k ih =>
    intro l0 l1 l2 l3 h r hf
    unfold w_X11_hasOtherAbove_4 at hf
    refine mx_S.pu (pc2 := 5) (lv2 := [(0, .ref l0), (1, .int l1), (2, .int l2), (3, .int l3)]) (st2 := [.int l3]) hm dX11_hasOtherAbove_4 rfl ?_
    refine mx_S.pu (pc2 := 6) (lv2 := [(0, .ref l0), (1, .int l1), (2, .int l2), (3, .int l3)]) (st2 := [.ref l0, .int l3]) hm dX11_hasOtherAbove_5 rfl ?_
    replace hf := mx_sv_el hf; obtain ⟨v2, e_v2, hf⟩ := hf
    refine sx_get hm dX11_hasOtherAbove_6 rs_RX11_62 (xgr_el e_v2) ?_
    clear e_v2
    replace hf := mx_sv_el hf; obtain ⟨v3, e_v3, hf⟩ := hf
    refine sx_get hm dX11_hasOtherAbove_9 rs_RX11_100 (xgi_el e_v3) ?_
    clear e_v3
    rcases mx_if_el hf with ⟨c41, hf⟩ | ⟨c41, hf⟩
    · refine sb_ic_ge hm dX11_hasOtherAbove_12 (tgt := 136) rfl (fun _ => ?_) (fun z => absurd c41 z)
      refine mx_S.pu (pc2 := 137) (lv2 := [(0, .ref l0), (1, .int l1), (2, .int l2), (3, .int l3)]) (st2 := [.int l2]) hm dX11_hasOtherAbove_136 rfl ?_
      replace hf := mx_gd_el hf; obtain ⟨c4, hf⟩ := hf
      cases hf
      exact sx_ire hm dX11_hasOtherAbove_137 rfl (xbq_ok c4).1
    · refine sb_ic_ge hm dX11_hasOtherAbove_12 (tgt := 136) rfl (fun z => absurd z c41) (fun _ => ?_)
      refine mx_S.pu (pc2 := 16) (lv2 := [(0, .ref l0), (1, .int l1), (2, .int l2), (3, .int l3)]) (st2 := [.int l2]) hm dX11_hasOtherAbove_15 rfl ?_
      rcases mx_if_el hf with ⟨c40, hf⟩ | ⟨c40, hf⟩
      · refine sb_if_ne hm dX11_hasOtherAbove_16 (tgt := 136) rfl (fun _ => ?_) (fun z => absurd c40 z)
        refine mx_S.pu (pc2 := 137) (lv2 := [(0, .ref l0), (1, .int l1), (2, .int l2), (3, .int l3)]) (st2 := [.int l2]) hm dX11_hasOtherAbove_136 rfl ?_
        replace hf := mx_gd_el hf; obtain ⟨c5, hf⟩ := hf
        cases hf
        exact sx_ire hm dX11_hasOtherAbove_137 rfl (xbq_ok c5).1
      · refine sb_if_ne hm dX11_hasOtherAbove_16 (tgt := 136) rfl (fun z => absurd z c40) (fun _ => ?_)
        refine mx_S.pu (pc2 := 20) (lv2 := [(0, .ref l0), (1, .int l1), (2, .int l2), (3, .int l3)]) (st2 := [.ref l0]) hm dX11_hasOtherAbove_19 rfl ?_
        replace hf := mx_sv_el hf; obtain ⟨v6, e_v6, hf⟩ := hf
        refine sx_get hm dX11_hasOtherAbove_20 rs_RX11_50 (xgr_el e_v6) ?_
        clear e_v6
        refine mx_S.pu (pc2 := 24) (lv2 := [(0, .ref l0), (1, .int l1), (2, .int l2), (3, .int l3)]) (st2 := [.ref l0, .ref v6]) hm dX11_hasOtherAbove_23 rfl ?_
        replace hf := mx_sv_el hf; obtain ⟨v7, e_v7, hf⟩ := hf
        refine sx_get hm dX11_hasOtherAbove_24 rs_RX11_60 (xgr_el e_v7) ?_
        clear e_v7
        refine mx_S.pu (pc2 := 28) (lv2 := [(0, .ref l0), (1, .int l1), (2, .int l2), (3, .int l3)]) (st2 := [.int l1, .ref v7, .ref v6]) hm dX11_hasOtherAbove_27 rfl ?_
        replace hf := mx_gd_el hf; obtain ⟨c8, hf⟩ := hf
        replace hf := mx_sv_el hf; obtain ⟨u9, e_u9, hf⟩ := hf
        refine sx_cv hm dX11_hasOtherAbove_28 rs_RX11_75 mt_X4_above [.int l1] [.ref v6] (b := v7) (ci := 4) rfl rfl rfl c8 (Nat.le_of_ble_eq_true rfl) (Nat.le_of_ble_eq_true rfl) (by omega) (by omega) (f_X4_above_ok X (by omega) (by omega) nn v7 l1 h e_u9) ?_
        clear e_u9
        show mx_S X F L 314 31 [(0, .ref l0), (1, .int l1), (2, .int l2), (3, .int l3)] [.int u9.1, .ref v6] u9.2 0 0 (some (.int r.1), r.2, 0, 0)
        refine mx_S.pu (pc2 := 32) (lv2 := [(0, .ref l0), (1, .int l1), (2, .int l2), (3, .int l3)]) (st2 := [.ref l0, .int u9.1, .ref v6]) hm dX11_hasOtherAbove_31 rfl ?_
        replace hf := mx_sv_el hf; obtain ⟨v10, e_v10, hf⟩ := hf
        refine sx_get hm dX11_hasOtherAbove_32 rs_RX11_62 (xgr_el e_v10) ?_
        clear e_v10
        refine mx_S.pu (pc2 := 36) (lv2 := [(0, .ref l0), (1, .int l1), (2, .int l2), (3, .int l3)]) (st2 := [.ref l0, .ref v10, .int u9.1, .ref v6]) hm dX11_hasOtherAbove_35 rfl ?_
        replace hf := mx_sv_el hf; obtain ⟨v11, e_v11, hf⟩ := hf
        refine sx_get hm dX11_hasOtherAbove_36 rs_RX11_62 (xgr_el e_v11) ?_
        clear e_v11
        refine mx_S.pu (pc2 := 40) (lv2 := [(0, .ref l0), (1, .int l1), (2, .int l2), (3, .int l3)]) (st2 := [.int l3, .ref v11, .ref v10, .int u9.1, .ref v6]) hm dX11_hasOtherAbove_39 rfl ?_
        refine sx_ic (v := 1) hm dX11_hasOtherAbove_40 (by decide) ?_
        replace hf := mx_gd_el hf; obtain ⟨c12, hf⟩ := hf
        replace hf := mx_sv_el hf; obtain ⟨u13, e_u13, hf⟩ := hf
        refine sx_cv hm dX11_hasOtherAbove_41 rs_RX11_146 mt_X3_of [.int l3, .int 1] [.ref v10, .int u9.1, .ref v6] (b := v11) (ci := 3) rfl rfl rfl c12 (Nat.le_of_ble_eq_true rfl) (Nat.le_of_ble_eq_true rfl) (by omega) (by omega) (f_X3_of_ok X (by omega) (by omega) nn v11 l3 1 u9.2 e_u13) ?_
        clear e_u13
        show mx_S X F L 314 44 [(0, .ref l0), (1, .int l1), (2, .int l2), (3, .int l3)] [.int u13.1, .ref v10, .int u9.1, .ref v6] u13.2 0 0 (some (.int r.1), r.2, 0, 0)
        replace hf := mx_gd_el hf; obtain ⟨c14, hf⟩ := hf
        replace hf := mx_sv_el hf; obtain ⟨u15, e_u15, hf⟩ := hf
        refine sx_cv hm dX11_hasOtherAbove_44 rs_RX11_157 mt_X7_methodOf [.int u9.1, .ref v10, .int u13.1] [] (b := v6) (ci := 7) rfl rfl rfl c14 (Nat.le_of_ble_eq_true rfl) (Nat.le_of_ble_eq_true rfl) (by omega) (by omega) (f_X7_methodOf_ok X (by omega) (by omega) nn v6 u9.1 v10 u13.1 u13.2 e_u15) ?_
        clear e_u15
        show mx_S X F L 314 47 [(0, .ref l0), (1, .int l1), (2, .int l2), (3, .int l3)] [.int u15.1] u15.2 0 0 (some (.int r.1), r.2, 0, 0)
        refine mx_S.pu (pc2 := 49) (lv2 := [(4, .int u15.1), (0, .ref l0), (1, .int l1), (2, .int l2), (3, .int l3)]) (st2 := []) hm dX11_hasOtherAbove_47 rfl ?_
        refine mx_S.pu (pc2 := 50) (lv2 := [(4, .int u15.1), (0, .ref l0), (1, .int l1), (2, .int l2), (3, .int l3)]) (st2 := [.ref l0]) hm dX11_hasOtherAbove_49 rfl ?_
        replace hf := mx_sv_el hf; obtain ⟨v16, e_v16, hf⟩ := hf
        refine sx_get hm dX11_hasOtherAbove_50 rs_RX11_50 (xgr_el e_v16) ?_
        clear e_v16
        refine mx_S.pu (pc2 := 55) (lv2 := [(4, .int u15.1), (0, .ref l0), (1, .int l1), (2, .int l2), (3, .int l3)]) (st2 := [.int u15.1, .ref v16]) hm dX11_hasOtherAbove_53 rfl ?_
        replace hf := mx_gd_el hf; obtain ⟨c17, hf⟩ := hf
        replace hf := mx_sv_el hf; obtain ⟨u18, e_u18, hf⟩ := hf
        refine sx_cv hm dX11_hasOtherAbove_55 rs_RX11_161 mt_X7_imageOfMember [.int u15.1] [] (b := v16) (ci := 7) rfl rfl rfl c17 (Nat.le_of_ble_eq_true rfl) (Nat.le_of_ble_eq_true rfl) (by omega) (by omega) (f_X7_imageOfMember_ok X (by omega) (by omega) nn v16 u15.1 u15.2 e_u18) ?_
        clear e_u18
        show mx_S X F L 314 58 [(4, .int u15.1), (0, .ref l0), (1, .int l1), (2, .int l2), (3, .int l3)] [va_rf u18.1] u18.2 0 0 (some (.int r.1), r.2, 0, 0)
        refine sx_so (lv2 := [(5, va_rf u18.1), (4, .int u15.1), (0, .ref l0), (1, .int l1), (2, .int l2), (3, .int l3)]) hm dX11_hasOtherAbove_58 rfl rfl ?_
        refine sx_ao hm dX11_hasOtherAbove_60 rfl ?_
        rcases mx_oc_el hf with ⟨c20, hf⟩ | ⟨b19, c20, hf⟩
        · refine sx_ifnull_n hm dX11_hasOtherAbove_62 c20 (tgt := 130) rfl ?_
          replace hf := xl_el hf; obtain ⟨v21, e_v21, hf⟩ := hf
          refine mx_S.pu (pc2 := 133) (lv2 := [(3, .int v21), (5, va_rf u18.1), (4, .int u15.1), (0, .ref l0), (1, .int l1), (2, .int l2)]) (st2 := []) hm dX11_hasOtherAbove_130 (by rw [← e_v21]; rfl) ?_
          clear e_v21
          refine mx_S.pu (pc2 := 4) (lv2 := [(3, .int v21), (5, va_rf u18.1), (4, .int u15.1), (0, .ref l0), (1, .int l1), (2, .int l2)]) (st2 := []) hm dX11_hasOtherAbove_133 rfl ?_
          refine mx_S.ext [(0, .ref l0), (1, .int l1), (2, .int l2), (3, .int v21)] (mx_sub_pos [3, 4, 5, 0] rfl (show ([3, 5, 4, 0, 1, 2] : List Nat).Nodup by decide)) ?_
          exact ih l0 l1 l2 v21 u18.2 _ hf
        · refine sx_ifnull_s hm dX11_hasOtherAbove_62 c20 (tgt := 130) rfl ?_
          rw [show va_rf u18.1 = Value.ref b19 by rw [c20]; rfl]
          refine mx_S.pu (pc2 := 67) (lv2 := [(5, .ref b19), (4, .int u15.1), (0, .ref l0), (1, .int l1), (2, .int l2), (3, .int l3)]) (st2 := [.int u15.1]) hm dX11_hasOtherAbove_65 rfl ?_
          refine sx_bi (v := 12) hm dX11_hasOtherAbove_67 (by decide) ?_
          replace hf := xl_el hf; obtain ⟨v22, e_v22, hf⟩ := hf
          refine sx_irem (v := v22) hm dX11_hasOtherAbove_69 (by decide) e_v22 ?_
          clear e_v22
          refine mx_S.pu (pc2 := 72) (lv2 := [(6, .int v22), (5, .ref b19), (4, .int u15.1), (0, .ref l0), (1, .int l1), (2, .int l2), (3, .int l3)]) (st2 := []) hm dX11_hasOtherAbove_70 rfl ?_
          refine mx_S.pu (pc2 := 73) (lv2 := [(6, .int v22), (5, .ref b19), (4, .int u15.1), (0, .ref l0), (1, .int l1), (2, .int l2), (3, .int l3)]) (st2 := [.ref l0]) hm dX11_hasOtherAbove_72 rfl ?_
          replace hf := mx_sv_el hf; obtain ⟨v23, e_v23, hf⟩ := hf
          refine sx_get hm dX11_hasOtherAbove_73 rs_RX11_62 (xgr_el e_v23) ?_
          clear e_v23
          refine mx_S.pu (pc2 := 77) (lv2 := [(6, .int v22), (5, .ref b19), (4, .int u15.1), (0, .ref l0), (1, .int l1), (2, .int l2), (3, .int l3)]) (st2 := [.int l3, .ref v23]) hm dX11_hasOtherAbove_76 rfl ?_
          refine sx_ic (v := 0) hm dX11_hasOtherAbove_77 (by decide) ?_
          replace hf := mx_gd_el hf; obtain ⟨c24, hf⟩ := hf
          replace hf := mx_sv_el hf; obtain ⟨u25, e_u25, hf⟩ := hf
          refine sx_cv hm dX11_hasOtherAbove_78 rs_RX11_146 mt_X3_of [.int l3, .int 0] [] (b := v23) (ci := 3) rfl rfl rfl c24 (Nat.le_of_ble_eq_true rfl) (Nat.le_of_ble_eq_true rfl) (by omega) (by omega) (f_X3_of_ok X (by omega) (by omega) nn v23 l3 0 u18.2 e_u25) ?_
          clear e_u25
          show mx_S X F L 314 81 [(6, .int v22), (5, .ref b19), (4, .int u15.1), (0, .ref l0), (1, .int l1), (2, .int l2), (3, .int l3)] [.int u25.1] u25.2 0 0 (some (.int r.1), r.2, 0, 0)
          rcases mx_if_el hf with ⟨c39, hf⟩ | ⟨c39, hf⟩
          · refine sb_if_ne hm dX11_hasOtherAbove_81 (tgt := 124) rfl (fun _ => ?_) (fun z => absurd c39 z)
            refine mx_S.ext [(0, .ref l0), (1, .int l1), (3, .int l3)] (mx_sub_pos [3, 4, 6] rfl (show ([6, 5, 4, 0, 1, 2, 3] : List Nat).Nodup by decide)) ?_
            exact j_X11_hasOtherAbove_124_ok X hF hL nn ih l0 l1 l3 u25.2 hf
          · refine sb_if_ne hm dX11_hasOtherAbove_81 (tgt := 124) rfl (fun z => absurd z c39) (fun _ => ?_)
            refine mx_S.pu (pc2 := 86) (lv2 := [(6, .int v22), (5, .ref b19), (4, .int u15.1), (0, .ref l0), (1, .int l1), (2, .int l2), (3, .int l3)]) (st2 := [.ref b19]) hm dX11_hasOtherAbove_84 rfl ?_
            refine mx_S.pu (pc2 := 88) (lv2 := [(6, .int v22), (5, .ref b19), (4, .int u15.1), (0, .ref l0), (1, .int l1), (2, .int l2), (3, .int l3)]) (st2 := [.int v22, .ref b19]) hm dX11_hasOtherAbove_86 rfl ?_
            refine sx_ic (v := 0) hm dX11_hasOtherAbove_88 (by decide) ?_
            replace hf := mx_gd_el hf; obtain ⟨c26, hf⟩ := hf
            replace hf := mx_sv_el hf; obtain ⟨u27, e_u27, hf⟩ := hf
            refine sx_cv hm dX11_hasOtherAbove_89 rs_RX11_146 mt_X3_of [.int v22, .int 0] [] (b := b19) (ci := 3) rfl rfl rfl c26 (Nat.le_of_ble_eq_true rfl) (Nat.le_of_ble_eq_true rfl) (by omega) (by omega) (f_X3_of_ok X (by omega) (by omega) nn b19 v22 0 u25.2 e_u27) ?_
            clear e_u27
            show mx_S X F L 314 92 [(6, .int v22), (5, .ref b19), (4, .int u15.1), (0, .ref l0), (1, .int l1), (2, .int l2), (3, .int l3)] [.int u27.1] u27.2 0 0 (some (.int r.1), r.2, 0, 0)
            rcases mx_if_el hf with ⟨c38, hf⟩ | ⟨c38, hf⟩
            · refine sb_if_ne hm dX11_hasOtherAbove_92 (tgt := 124) rfl (fun _ => ?_) (fun z => absurd c38 z)
              refine mx_S.ext [(0, .ref l0), (1, .int l1), (3, .int l3)] (mx_sub_pos [3, 4, 6] rfl (show ([6, 5, 4, 0, 1, 2, 3] : List Nat).Nodup by decide)) ?_
              exact j_X11_hasOtherAbove_124_ok X hF hL nn ih l0 l1 l3 u27.2 hf
            · refine sb_if_ne hm dX11_hasOtherAbove_92 (tgt := 124) rfl (fun z => absurd z c38) (fun _ => ?_)
              refine mx_S.pu (pc2 := 96) (lv2 := [(6, .int v22), (5, .ref b19), (4, .int u15.1), (0, .ref l0), (1, .int l1), (2, .int l2), (3, .int l3)]) (st2 := [.ref l0]) hm dX11_hasOtherAbove_95 rfl ?_
              replace hf := mx_sv_el hf; obtain ⟨v28, e_v28, hf⟩ := hf
              refine sx_get hm dX11_hasOtherAbove_96 rs_RX11_62 (xgr_el e_v28) ?_
              clear e_v28
              refine mx_S.pu (pc2 := 100) (lv2 := [(6, .int v22), (5, .ref b19), (4, .int u15.1), (0, .ref l0), (1, .int l1), (2, .int l2), (3, .int l3)]) (st2 := [.ref l0, .ref v28]) hm dX11_hasOtherAbove_99 rfl ?_
              replace hf := mx_sv_el hf; obtain ⟨v29, e_v29, hf⟩ := hf
              refine sx_get hm dX11_hasOtherAbove_100 rs_RX11_62 (xgr_el e_v29) ?_
              clear e_v29
              refine mx_S.pu (pc2 := 104) (lv2 := [(6, .int v22), (5, .ref b19), (4, .int u15.1), (0, .ref l0), (1, .int l1), (2, .int l2), (3, .int l3)]) (st2 := [.int l3, .ref v29, .ref v28]) hm dX11_hasOtherAbove_103 rfl ?_
              refine sx_ic (v := 2) hm dX11_hasOtherAbove_104 (by decide) ?_
              replace hf := mx_gd_el hf; obtain ⟨c30, hf⟩ := hf
              replace hf := mx_sv_el hf; obtain ⟨u31, e_u31, hf⟩ := hf
              refine sx_cv hm dX11_hasOtherAbove_105 rs_RX11_146 mt_X3_of [.int l3, .int 2] [.ref v28] (b := v29) (ci := 3) rfl rfl rfl c30 (Nat.le_of_ble_eq_true rfl) (Nat.le_of_ble_eq_true rfl) (by omega) (by omega) (f_X3_of_ok X (by omega) (by omega) nn v29 l3 2 u27.2 e_u31) ?_
              clear e_u31
              show mx_S X F L 314 108 [(6, .int v22), (5, .ref b19), (4, .int u15.1), (0, .ref l0), (1, .int l1), (2, .int l2), (3, .int l3)] [.int u31.1, .ref v28] u31.2 0 0 (some (.int r.1), r.2, 0, 0)
              refine mx_S.pu (pc2 := 110) (lv2 := [(6, .int v22), (5, .ref b19), (4, .int u15.1), (0, .ref l0), (1, .int l1), (2, .int l2), (3, .int l3)]) (st2 := [.ref b19, .int u31.1, .ref v28]) hm dX11_hasOtherAbove_108 rfl ?_
              refine mx_S.pu (pc2 := 112) (lv2 := [(6, .int v22), (5, .ref b19), (4, .int u15.1), (0, .ref l0), (1, .int l1), (2, .int l2), (3, .int l3)]) (st2 := [.ref b19, .ref b19, .int u31.1, .ref v28]) hm dX11_hasOtherAbove_110 rfl ?_
              refine mx_S.pu (pc2 := 114) (lv2 := [(6, .int v22), (5, .ref b19), (4, .int u15.1), (0, .ref l0), (1, .int l1), (2, .int l2), (3, .int l3)]) (st2 := [.int v22, .ref b19, .ref b19, .int u31.1, .ref v28]) hm dX11_hasOtherAbove_112 rfl ?_
              refine sx_ic (v := 2) hm dX11_hasOtherAbove_114 (by decide) ?_
              replace hf := mx_gd_el hf; obtain ⟨c32, hf⟩ := hf
              replace hf := mx_sv_el hf; obtain ⟨u33, e_u33, hf⟩ := hf
              refine sx_cv hm dX11_hasOtherAbove_115 rs_RX11_146 mt_X3_of [.int v22, .int 2] [.ref b19, .int u31.1, .ref v28] (b := b19) (ci := 3) rfl rfl rfl c32 (Nat.le_of_ble_eq_true rfl) (Nat.le_of_ble_eq_true rfl) (by omega) (by omega) (f_X3_of_ok X (by omega) (by omega) nn b19 v22 2 u31.2 e_u33) ?_
              clear e_u33
              show mx_S X F L 314 118 [(6, .int v22), (5, .ref b19), (4, .int u15.1), (0, .ref l0), (1, .int l1), (2, .int l2), (3, .int l3)] [.int u33.1, .ref b19, .int u31.1, .ref v28] u33.2 0 0 (some (.int r.1), r.2, 0, 0)
              replace hf := mx_gd_el hf; obtain ⟨c34, hf⟩ := hf
              replace hf := mx_sv_el hf; obtain ⟨u35, e_u35, hf⟩ := hf
              refine sx_cv hm dX11_hasOtherAbove_118 rs_RX11_153 mt_X3_sameText [.int u31.1, .ref b19, .int u33.1] [] (b := v28) (ci := 3) rfl rfl rfl c34 (Nat.le_of_ble_eq_true rfl) (Nat.le_of_ble_eq_true rfl) (by omega) (by omega) (f_X3_sameText_ok X (by omega) (by omega) nn v28 u31.1 b19 u33.1 u33.2 e_u35) ?_
              clear e_u35
              show mx_S X F L 314 121 [(6, .int v22), (5, .ref b19), (4, .int u15.1), (0, .ref l0), (1, .int l1), (2, .int l2), (3, .int l3)] [.int u35.1] u35.2 0 0 (some (.int r.1), r.2, 0, 0)
              rcases mx_if_el hf with ⟨c37, hf⟩ | ⟨c37, hf⟩
              · refine sb_if_ne hm dX11_hasOtherAbove_121 (tgt := 128) rfl (fun _ => ?_) (fun z => absurd c37 z)
                refine sx_ic (v := 0) hm dX11_hasOtherAbove_128 (by decide) ?_
                refine mx_S.pu (pc2 := 130) (lv2 := [(2, .int 0), (6, .int v22), (5, .ref b19), (4, .int u15.1), (0, .ref l0), (1, .int l1), (3, .int l3)]) (st2 := []) hm dX11_hasOtherAbove_129 rfl ?_
                replace hf := xl_el hf; obtain ⟨v36, e_v36, hf⟩ := hf
                refine mx_S.pu (pc2 := 133) (lv2 := [(3, .int v36), (2, .int 0), (6, .int v22), (5, .ref b19), (4, .int u15.1), (0, .ref l0), (1, .int l1)]) (st2 := []) hm dX11_hasOtherAbove_130 (by rw [← e_v36]; rfl) ?_
                clear e_v36
                refine mx_S.pu (pc2 := 4) (lv2 := [(3, .int v36), (2, .int 0), (6, .int v22), (5, .ref b19), (4, .int u15.1), (0, .ref l0), (1, .int l1)]) (st2 := []) hm dX11_hasOtherAbove_133 rfl ?_
                refine mx_S.ext [(0, .ref l0), (1, .int l1), (2, .int 0), (3, .int v36)] (mx_sub_pos [5, 6, 1, 0] rfl (show ([3, 2, 6, 5, 4, 0, 1] : List Nat).Nodup by decide)) ?_
                exact ih l0 l1 0 v36 u35.2 _ hf
              · refine sb_if_ne hm dX11_hasOtherAbove_121 (tgt := 128) rfl (fun z => absurd z c37) (fun _ => ?_)
                refine mx_S.ext [(0, .ref l0), (1, .int l1), (3, .int l3)] (mx_sub_pos [3, 4, 6] rfl (show ([6, 5, 4, 0, 1, 2, 3] : List Nat).Nodup by decide)) ?_
                exact j_X11_hasOtherAbove_124_ok X hF hL nn ih l0 l1 l3 u35.2 hf
set_option maxHeartbeats 4000000 in
set_option maxRecDepth 20000 in
theorem f_X11_hasOtherAbove_ok (X : Nat × (Nat → Int32)) {F L : Nat} (hF : 3 ≤ F) (hL : 77 ≤ L) (nn : Nat) (a0 : Nat) (a1 : Int32) (h : mx_H) {r : (Int32 × mx_H)} (hf : f_X11_hasOtherAbove nn a0 a1 h = some r) : mx_R X F L 314 [.ref a0, .int a1] h (some (.int r.1), r.2, 0, 0) := by
  have hm : mx_mt 314 = some (yX11_hasOtherAbove, cX11_hasOtherAbove, 7, (some .boolean)) := mt_X11_hasOtherAbove
  show mx_S X F L 314 0 [(0, .ref a0), (1, .int a1)] [] h 0 0 (some (.int r.1), r.2, 0, 0)
  unfold f_X11_hasOtherAbove at hf
  refine sx_ic (v := 0) hm dX11_hasOtherAbove_0 (by decide) ?_
  refine mx_S.pu (pc2 := 2) (lv2 := [(2, .int 0), (0, .ref a0), (1, .int a1)]) (st2 := []) hm dX11_hasOtherAbove_1 rfl ?_
  refine sx_ic (v := 0) hm dX11_hasOtherAbove_2 (by decide) ?_
  refine mx_S.pu (pc2 := 4) (lv2 := [(3, .int 0), (2, .int 0), (0, .ref a0), (1, .int a1)]) (st2 := []) hm dX11_hasOtherAbove_3 rfl ?_
  refine mx_S.ext [(0, .ref a0), (1, .int a1), (2, .int 0), (3, .int 0)] (mx_sub_pos [2, 3, 1, 0] rfl (show ([3, 2, 0, 1] : List Nat).Nodup by decide)) ?_
  exact w_X11_hasOtherAbove_4_ok X hF hL nn nn a0 a1 0 0 h _ hf
set_option maxHeartbeats 4000000 in
set_option maxRecDepth 20000 in
theorem f_X3_fieldName_ok (X : Nat × (Nat → Int32)) {F L : Nat} (hF : 0 ≤ F) (hL : 0 ≤ L) (nn : Nat) (a0 : Nat) (a1 : Int32) (h : mx_H) {r : (Int32 × mx_H)} (hf : f_X3_fieldName nn a0 a1 h = some r) : mx_R X F L 127 [.ref a0, .int a1] h (some (.int r.1), r.2, 0, 0) := by
  have hm : mx_mt 127 = some (yX3_fieldName, cX3_fieldName, 2, (some .int)) := mt_X3_fieldName
  show mx_S X F L 127 0 [(0, .ref a0), (1, .int a1)] [] h 0 0 (some (.int r.1), r.2, 0, 0)
  unfold f_X3_fieldName at hf
  refine mx_S.pu (pc2 := 1) (lv2 := [(0, .ref a0), (1, .int a1)]) (st2 := [.int a1]) hm dX3_fieldName_0 rfl ?_
  rcases mx_if_el hf with ⟨c6, hf⟩ | ⟨c6, hf⟩
  · refine sb_if_lt hm dX3_fieldName_1 (tgt := 23) rfl (fun _ => ?_) (fun z => absurd c6 z)
    refine sx_ic (v := 0) hm dX3_fieldName_23 (by decide) ?_
    cases hf
    exact sx_ire hm dX3_fieldName_24 rfl rfl
  · refine sb_if_lt hm dX3_fieldName_1 (tgt := 23) rfl (fun z => absurd z c6) (fun _ => ?_)
    refine mx_S.pu (pc2 := 5) (lv2 := [(0, .ref a0), (1, .int a1)]) (st2 := [.int a1]) hm dX3_fieldName_4 rfl ?_
    refine mx_S.pu (pc2 := 6) (lv2 := [(0, .ref a0), (1, .int a1)]) (st2 := [.ref a0, .int a1]) hm dX3_fieldName_5 rfl ?_
    replace hf := mx_sv_el hf; obtain ⟨v1, e_v1, hf⟩ := hf
    refine sx_get hm dX3_fieldName_6 rs_RX3_49 (xgi_el e_v1) ?_
    clear e_v1
    rcases mx_if_el hf with ⟨c5, hf⟩ | ⟨c5, hf⟩
    · refine sb_ic_ge hm dX3_fieldName_9 (tgt := 23) rfl (fun _ => ?_) (fun z => absurd c5 z)
      refine sx_ic (v := 0) hm dX3_fieldName_23 (by decide) ?_
      cases hf
      exact sx_ire hm dX3_fieldName_24 rfl rfl
    · refine sb_ic_ge hm dX3_fieldName_9 (tgt := 23) rfl (fun z => absurd z c5) (fun _ => ?_)
      refine mx_S.pu (pc2 := 13) (lv2 := [(0, .ref a0), (1, .int a1)]) (st2 := [.ref a0]) hm dX3_fieldName_12 rfl ?_
      replace hf := mx_sv_el hf; obtain ⟨v2, e_v2, hf⟩ := hf
      refine sx_get hm dX3_fieldName_13 rs_RX3_27 (xgr_el e_v2) ?_
      clear e_v2
      refine mx_S.pu (pc2 := 17) (lv2 := [(0, .ref a0), (1, .int a1)]) (st2 := [.int a1, .ref v2]) hm dX3_fieldName_16 rfl ?_
      refine sx_ic (v := 2) hm dX3_fieldName_17 (by decide) ?_
      replace hf := xl_el hf; obtain ⟨v3, e_v3, hf⟩ := hf
      refine mx_S.pu (pc2 := 19) (lv2 := [(0, .ref a0), (1, .int a1)]) (st2 := [.int v3, .ref v2]) hm dX3_fieldName_18 (by rw [← e_v3]; rfl) ?_
      clear e_v3
      replace hf := mx_sv_el hf; obtain ⟨v4, e_v4, hf⟩ := hf
      refine sx_ald hm dX3_fieldName_19 e_v4 ?_
      clear e_v4
      refine mx_S.pu (pc2 := 24) (lv2 := [(0, .ref a0), (1, .int a1)]) (st2 := [.int v4]) hm dX3_fieldName_20 rfl ?_
      cases hf
      exact sx_ire hm dX3_fieldName_24 rfl rfl
set_option maxHeartbeats 4000000 in
set_option maxRecDepth 20000 in
theorem j_X11_hasTwins_130_ok (X : Nat × (Nat → Int32)) {F L : Nat} (hF : 2 ≤ F) (hL : 50 ≤ L) (nn : Nat) {kk_76 : Nat → Int32 → Int32 → mx_H → Option (Int32 × mx_H)} (hk_76 : ∀ (l0 : Nat) (l1 : Int32) (l2 : Int32) (h : mx_H) (r : (Int32 × mx_H)), kk_76 l0 l1 l2 h = some r → mx_S X F L 313 76 [(0, .ref l0), (1, .int l1), (2, .int l2)] [] h 0 0 (some (.int r.1), r.2, 0, 0)) {kk_89 : Nat → Int32 → Int32 → Int32 → mx_H → Option (Int32 × mx_H)} (hk_89 : ∀ (l0 : Nat) (l1 : Int32) (l2 : Int32) (l3 : Int32) (h : mx_H) (r : (Int32 × mx_H)), kk_89 l0 l1 l2 l3 h = some r → mx_S X F L 313 89 [(0, .ref l0), (1, .int l1), (2, .int l2), (3, .int l3)] [] h 0 0 (some (.int r.1), r.2, 0, 0)) (l0 : Nat) (l2 : Int32) (l3 : Int32) (h : mx_H) {r : (Int32 × mx_H)} (hf : j_X11_hasTwins_130 nn kk_76 kk_89 l0 l2 l3 h = some r) : mx_S X F L 313 130 [(0, .ref l0), (2, .int l2), (3, .int l3)] [] h 0 0 (some (.int r.1), r.2, 0, 0) := by
  have hm : mx_mt 313 = some (yX11_hasTwins, cX11_hasTwins, 4, (some .boolean)) := mt_X11_hasTwins
  unfold j_X11_hasTwins_130 at hf
  refine sx_ic (v := 1) hm dX11_hasTwins_130 (by decide) ?_
  refine mx_S.pu (pc2 := 135) (lv2 := [(0, .ref l0), (2, .int l2), (3, .int l3)]) (st2 := [.int 1]) hm dX11_hasTwins_131 rfl ?_
  refine mx_S.pu (pc2 := 136) (lv2 := [(1, .int 1), (0, .ref l0), (2, .int l2), (3, .int l3)]) (st2 := []) hm dX11_hasTwins_135 rfl ?_
  replace hf := xl_el hf; obtain ⟨v1, e_v1, hf⟩ := hf
  refine mx_S.pu (pc2 := 139) (lv2 := [(3, .int v1), (1, .int 1), (0, .ref l0), (2, .int l2)]) (st2 := []) hm dX11_hasTwins_136 (by rw [← e_v1]; rfl) ?_
  clear e_v1
  refine mx_S.pu (pc2 := 89) (lv2 := [(3, .int v1), (1, .int 1), (0, .ref l0), (2, .int l2)]) (st2 := []) hm dX11_hasTwins_139 rfl ?_
  refine mx_S.ext [(0, .ref l0), (1, .int 1), (2, .int l2), (3, .int v1)] (mx_sub_pos [2, 1, 3, 0] rfl (show ([3, 1, 0, 2] : List Nat).Nodup by decide)) ?_
  exact hk_89 l0 1 l2 v1 h _ hf
set_option maxHeartbeats 4000000 in
set_option maxRecDepth 20000 in
theorem w_X11_hasTwins_89_ok (X : Nat × (Nat → Int32)) {F L : Nat} (hF : 2 ≤ F) (hL : 50 ≤ L) (nn : Nat) {kk_76 : Nat → Int32 → Int32 → mx_H → Option (Int32 × mx_H)} (hk_76 : ∀ (l0 : Nat) (l1 : Int32) (l2 : Int32) (h : mx_H) (r : (Int32 × mx_H)), kk_76 l0 l1 l2 h = some r → mx_S X F L 313 76 [(0, .ref l0), (1, .int l1), (2, .int l2)] [] h 0 0 (some (.int r.1), r.2, 0, 0)) : ∀ (k : Nat) (l0 : Nat) (l1 : Int32) (l2 : Int32) (l3 : Int32) (h : mx_H) (r : (Int32 × mx_H)), w_X11_hasTwins_89 nn kk_76 k l0 l1 l2 l3 h = some r → mx_S X F L 313 89 [(0, .ref l0), (1, .int l1), (2, .int l2), (3, .int l3)] [] h 0 0 (some (.int r.1), r.2, 0, 0) := by
  have hm : mx_mt 313 = some (yX11_hasTwins, cX11_hasTwins, 4, (some .boolean)) := mt_X11_hasTwins
  intro k
  induction k with
  | zero => intro l0 l1 l2 l3 h r hf; cases hf
  | succ k ih =>
    intro l0 l1 l2 l3 h r hf
    unfold w_X11_hasTwins_89 at hf
    refine mx_S.pu (pc2 := 90) (lv2 := [(0, .ref l0), (1, .int l1), (2, .int l2), (3, .int l3)]) (st2 := [.int l3]) hm dX11_hasTwins_89 rfl ?_
    refine mx_S.pu (pc2 := 91) (lv2 := [(0, .ref l0), (1, .int l1), (2, .int l2), (3, .int l3)]) (st2 := [.int l2, .int l3]) hm dX11_hasTwins_90 rfl ?_
    rcases mx_if_el hf with ⟨c16, hf⟩ | ⟨c16, hf⟩
    · refine sb_ic_ge hm dX11_hasTwins_91 (tgt := 142) rfl (fun _ => ?_) (fun z => absurd c16 z)
      replace hf := xl_el hf; obtain ⟨v2, e_v2, hf⟩ := hf
      refine mx_S.pu (pc2 := 145) (lv2 := [(2, .int v2), (0, .ref l0), (1, .int l1), (3, .int l3)]) (st2 := []) hm dX11_hasTwins_142 (by rw [← e_v2]; rfl) ?_
      clear e_v2
      refine mx_S.pu (pc2 := 76) (lv2 := [(2, .int v2), (0, .ref l0), (1, .int l1), (3, .int l3)]) (st2 := []) hm dX11_hasTwins_145 rfl ?_
      refine mx_S.ext [(0, .ref l0), (1, .int l1), (2, .int v2)] (mx_sub_pos [1, 2, 0] rfl (show ([2, 0, 1, 3] : List Nat).Nodup by decide)) ?_
      exact hk_76 l0 l1 v2 h _ hf
    · refine sb_ic_ge hm dX11_hasTwins_91 (tgt := 142) rfl (fun z => absurd z c16) (fun _ => ?_)
      refine mx_S.pu (pc2 := 95) (lv2 := [(0, .ref l0), (1, .int l1), (2, .int l2), (3, .int l3)]) (st2 := [.int l1]) hm dX11_hasTwins_94 rfl ?_
      rcases mx_if_el hf with ⟨c15, hf⟩ | ⟨c15, hf⟩
      · refine sb_if_ne hm dX11_hasTwins_95 (tgt := 130) rfl (fun _ => ?_) (fun z => absurd c15 z)
        refine mx_S.ext [(0, .ref l0), (2, .int l2), (3, .int l3)] (mx_sub_pos [0, 2, 3] rfl (show ([0, 1, 2, 3] : List Nat).Nodup by decide)) ?_
        exact j_X11_hasTwins_130_ok X hF hL nn hk_76 ih l0 l2 l3 h hf
      · refine sb_if_ne hm dX11_hasTwins_95 (tgt := 130) rfl (fun z => absurd z c15) (fun _ => ?_)
        refine mx_S.pu (pc2 := 99) (lv2 := [(0, .ref l0), (1, .int l1), (2, .int l2), (3, .int l3)]) (st2 := [.ref l0]) hm dX11_hasTwins_98 rfl ?_
        replace hf := mx_sv_el hf; obtain ⟨v3, e_v3, hf⟩ := hf
        refine sx_get hm dX11_hasTwins_99 rs_RX11_62 (xgr_el e_v3) ?_
        clear e_v3
        refine mx_S.pu (pc2 := 103) (lv2 := [(0, .ref l0), (1, .int l1), (2, .int l2), (3, .int l3)]) (st2 := [.ref l0, .ref v3]) hm dX11_hasTwins_102 rfl ?_
        replace hf := mx_sv_el hf; obtain ⟨v4, e_v4, hf⟩ := hf
        refine sx_get hm dX11_hasTwins_103 rs_RX11_62 (xgr_el e_v4) ?_
        clear e_v4
        refine mx_S.pu (pc2 := 107) (lv2 := [(0, .ref l0), (1, .int l1), (2, .int l2), (3, .int l3)]) (st2 := [.int l2, .ref v4, .ref v3]) hm dX11_hasTwins_106 rfl ?_
        refine sx_ic (v := 1) hm dX11_hasTwins_107 (by decide) ?_
        replace hf := mx_gd_el hf; obtain ⟨c5, hf⟩ := hf
        replace hf := mx_sv_el hf; obtain ⟨u6, e_u6, hf⟩ := hf
        refine sx_cv hm dX11_hasTwins_108 rs_RX11_146 mt_X3_of [.int l2, .int 1] [.ref v3] (b := v4) (ci := 3) rfl rfl rfl c5 (Nat.le_of_ble_eq_true rfl) (Nat.le_of_ble_eq_true rfl) (by omega) (by omega) (f_X3_of_ok X (by omega) (by omega) nn v4 l2 1 h e_u6) ?_
        clear e_u6
        show mx_S X F L 313 111 [(0, .ref l0), (1, .int l1), (2, .int l2), (3, .int l3)] [.int u6.1, .ref v3] u6.2 0 0 (some (.int r.1), r.2, 0, 0)
        refine mx_S.pu (pc2 := 112) (lv2 := [(0, .ref l0), (1, .int l1), (2, .int l2), (3, .int l3)]) (st2 := [.ref l0, .int u6.1, .ref v3]) hm dX11_hasTwins_111 rfl ?_
        replace hf := mx_sv_el hf; obtain ⟨v7, e_v7, hf⟩ := hf
        refine sx_get hm dX11_hasTwins_112 rs_RX11_62 (xgr_el e_v7) ?_
        clear e_v7
        refine mx_S.pu (pc2 := 116) (lv2 := [(0, .ref l0), (1, .int l1), (2, .int l2), (3, .int l3)]) (st2 := [.ref l0, .ref v7, .int u6.1, .ref v3]) hm dX11_hasTwins_115 rfl ?_
        replace hf := mx_sv_el hf; obtain ⟨v8, e_v8, hf⟩ := hf
        refine sx_get hm dX11_hasTwins_116 rs_RX11_62 (xgr_el e_v8) ?_
        clear e_v8
        refine mx_S.pu (pc2 := 120) (lv2 := [(0, .ref l0), (1, .int l1), (2, .int l2), (3, .int l3)]) (st2 := [.int l3, .ref v8, .ref v7, .int u6.1, .ref v3]) hm dX11_hasTwins_119 rfl ?_
        refine sx_ic (v := 1) hm dX11_hasTwins_120 (by decide) ?_
        replace hf := mx_gd_el hf; obtain ⟨c9, hf⟩ := hf
        replace hf := mx_sv_el hf; obtain ⟨u10, e_u10, hf⟩ := hf
        refine sx_cv hm dX11_hasTwins_121 rs_RX11_146 mt_X3_of [.int l3, .int 1] [.ref v7, .int u6.1, .ref v3] (b := v8) (ci := 3) rfl rfl rfl c9 (Nat.le_of_ble_eq_true rfl) (Nat.le_of_ble_eq_true rfl) (by omega) (by omega) (f_X3_of_ok X (by omega) (by omega) nn v8 l3 1 u6.2 e_u10) ?_
        clear e_u10
        show mx_S X F L 313 124 [(0, .ref l0), (1, .int l1), (2, .int l2), (3, .int l3)] [.int u10.1, .ref v7, .int u6.1, .ref v3] u10.2 0 0 (some (.int r.1), r.2, 0, 0)
        replace hf := mx_gd_el hf; obtain ⟨c11, hf⟩ := hf
        replace hf := mx_sv_el hf; obtain ⟨u12, e_u12, hf⟩ := hf
        refine sx_cv hm dX11_hasTwins_124 rs_RX11_153 mt_X3_sameText [.int u6.1, .ref v7, .int u10.1] [] (b := v3) (ci := 3) rfl rfl rfl c11 (Nat.le_of_ble_eq_true rfl) (Nat.le_of_ble_eq_true rfl) (by omega) (by omega) (f_X3_sameText_ok X (by omega) (by omega) nn v3 u6.1 v7 u10.1 u10.2 e_u12) ?_
        clear e_u12
        show mx_S X F L 313 127 [(0, .ref l0), (1, .int l1), (2, .int l2), (3, .int l3)] [.int u12.1] u12.2 0 0 (some (.int r.1), r.2, 0, 0)
        rcases mx_if_el hf with ⟨c14, hf⟩ | ⟨c14, hf⟩
        · refine sb_if_eq hm dX11_hasTwins_127 (tgt := 134) rfl (fun _ => ?_) (fun z => absurd c14 z)
          refine sx_ic (v := 0) hm dX11_hasTwins_134 (by decide) ?_
          refine mx_S.pu (pc2 := 136) (lv2 := [(1, .int 0), (0, .ref l0), (2, .int l2), (3, .int l3)]) (st2 := []) hm dX11_hasTwins_135 rfl ?_
          replace hf := xl_el hf; obtain ⟨v13, e_v13, hf⟩ := hf
          refine mx_S.pu (pc2 := 139) (lv2 := [(3, .int v13), (1, .int 0), (0, .ref l0), (2, .int l2)]) (st2 := []) hm dX11_hasTwins_136 (by rw [← e_v13]; rfl) ?_
          clear e_v13
          refine mx_S.pu (pc2 := 89) (lv2 := [(3, .int v13), (1, .int 0), (0, .ref l0), (2, .int l2)]) (st2 := []) hm dX11_hasTwins_139 rfl ?_
          refine mx_S.ext [(0, .ref l0), (1, .int 0), (2, .int l2), (3, .int v13)] (mx_sub_pos [2, 1, 3, 0] rfl (show ([3, 1, 0, 2] : List Nat).Nodup by decide)) ?_
          exact ih l0 0 l2 v13 u12.2 _ hf
        · refine sb_if_eq hm dX11_hasTwins_127 (tgt := 134) rfl (fun z => absurd z c14) (fun _ => ?_)
          refine mx_S.ext [(0, .ref l0), (2, .int l2), (3, .int l3)] (mx_sub_pos [0, 2, 3] rfl (show ([0, 1, 2, 3] : List Nat).Nodup by decide)) ?_
          exact j_X11_hasTwins_130_ok X hF hL nn hk_76 ih l0 l2 l3 u12.2 hf
set_option maxHeartbeats 4000000 in
set_option maxRecDepth 20000 in
theorem w_X11_hasTwins_76_ok (X : Nat × (Nat → Int32)) {F L : Nat} (hF : 2 ≤ F) (hL : 50 ≤ L) (nn : Nat) : ∀ (k : Nat) (l0 : Nat) (l1 : Int32) (l2 : Int32) (h : mx_H) (r : (Int32 × mx_H)), w_X11_hasTwins_76 nn k l0 l1 l2 h = some r → mx_S X F L 313 76 [(0, .ref l0), (1, .int l1), (2, .int l2)] [] h 0 0 (some (.int r.1), r.2, 0, 0) := by
  have hm : mx_mt 313 = some (yX11_hasTwins, cX11_hasTwins, 4, (some .boolean)) := mt_X11_hasTwins
  intro k
  induction k with
  | zero => intro l0 l1 l2 h r hf; cases hf
  | succ k ih =>
    intro l0 l1 l2 h r hf
    unfold w_X11_hasTwins_76 at hf
    refine mx_S.pu (pc2 := 77) (lv2 := [(0, .ref l0), (1, .int l1), (2, .int l2)]) (st2 := [.int l2]) hm dX11_hasTwins_76 rfl ?_
    refine mx_S.pu (pc2 := 78) (lv2 := [(0, .ref l0), (1, .int l1), (2, .int l2)]) (st2 := [.ref l0, .int l2]) hm dX11_hasTwins_77 rfl ?_
    replace hf := mx_sv_el hf; obtain ⟨v17, e_v17, hf⟩ := hf
    refine sx_get hm dX11_hasTwins_78 rs_RX11_62 (xgr_el e_v17) ?_
    clear e_v17
    replace hf := mx_sv_el hf; obtain ⟨v18, e_v18, hf⟩ := hf
    refine sx_get hm dX11_hasTwins_81 rs_RX11_100 (xgi_el e_v18) ?_
    clear e_v18
    rcases mx_if_el hf with ⟨c20, hf⟩ | ⟨c20, hf⟩
    · refine sb_ic_ge hm dX11_hasTwins_84 (tgt := 148) rfl (fun _ => ?_) (fun z => absurd c20 z)
      refine mx_S.pu (pc2 := 149) (lv2 := [(0, .ref l0), (1, .int l1), (2, .int l2)]) (st2 := [.int l1]) hm dX11_hasTwins_148 rfl ?_
      replace hf := mx_gd_el hf; obtain ⟨c19, hf⟩ := hf
      cases hf
      exact sx_ire hm dX11_hasTwins_149 rfl (xbq_ok c19).1
    · refine sb_ic_ge hm dX11_hasTwins_84 (tgt := 148) rfl (fun z => absurd z c20) (fun _ => ?_)
      refine sx_ic (v := 0) hm dX11_hasTwins_87 (by decide) ?_
      refine mx_S.pu (pc2 := 89) (lv2 := [(3, .int 0), (0, .ref l0), (1, .int l1), (2, .int l2)]) (st2 := []) hm dX11_hasTwins_88 rfl ?_
      refine mx_S.ext [(0, .ref l0), (1, .int l1), (2, .int l2), (3, .int 0)] (mx_sub_pos [1, 2, 3, 0] rfl (show ([3, 0, 1, 2] : List Nat).Nodup by decide)) ?_
      exact w_X11_hasTwins_89_ok X hF hL nn ih nn l0 l1 l2 0 h _ hf
set_option maxHeartbeats 4000000 in
set_option maxRecDepth 20000 in
theorem j_X11_hasTwins_56_ok (X : Nat × (Nat → Int32)) {F L : Nat} (hF : 2 ≤ F) (hL : 50 ≤ L) (nn : Nat) {kk_4 : Nat → Int32 → Int32 → mx_H → Option (Int32 × mx_H)} (hk_4 : ∀ (l0 : Nat) (l1 : Int32) (l2 : Int32) (h : mx_H) (r : (Int32 × mx_H)), kk_4 l0 l1 l2 h = some r → mx_S X F L 313 4 [(0, .ref l0), (1, .int l1), (2, .int l2)] [] h 0 0 (some (.int r.1), r.2, 0, 0)) {kk_17 : Nat → Int32 → Int32 → Int32 → mx_H → Option (Int32 × mx_H)} (hk_17 : ∀ (l0 : Nat) (l1 : Int32) (l2 : Int32) (l3 : Int32) (h : mx_H) (r : (Int32 × mx_H)), kk_17 l0 l1 l2 l3 h = some r → mx_S X F L 313 17 [(0, .ref l0), (1, .int l1), (2, .int l2), (3, .int l3)] [] h 0 0 (some (.int r.1), r.2, 0, 0)) (l0 : Nat) (l2 : Int32) (l3 : Int32) (h : mx_H) {r : (Int32 × mx_H)} (hf : j_X11_hasTwins_56 nn kk_4 kk_17 l0 l2 l3 h = some r) : mx_S X F L 313 56 [(0, .ref l0), (2, .int l2), (3, .int l3)] [] h 0 0 (some (.int r.1), r.2, 0, 0) := by
  have hm : mx_mt 313 = some (yX11_hasTwins, cX11_hasTwins, 4, (some .boolean)) := mt_X11_hasTwins
  unfold j_X11_hasTwins_56 at hf
  refine sx_ic (v := 1) hm dX11_hasTwins_56 (by decide) ?_
  refine mx_S.pu (pc2 := 61) (lv2 := [(0, .ref l0), (2, .int l2), (3, .int l3)]) (st2 := [.int 1]) hm dX11_hasTwins_57 rfl ?_
  refine mx_S.pu (pc2 := 62) (lv2 := [(1, .int 1), (0, .ref l0), (2, .int l2), (3, .int l3)]) (st2 := []) hm dX11_hasTwins_61 rfl ?_
  replace hf := xl_el hf; obtain ⟨v21, e_v21, hf⟩ := hf
  refine mx_S.pu (pc2 := 65) (lv2 := [(3, .int v21), (1, .int 1), (0, .ref l0), (2, .int l2)]) (st2 := []) hm dX11_hasTwins_62 (by rw [← e_v21]; rfl) ?_
  clear e_v21
  refine mx_S.pu (pc2 := 17) (lv2 := [(3, .int v21), (1, .int 1), (0, .ref l0), (2, .int l2)]) (st2 := []) hm dX11_hasTwins_65 rfl ?_
  refine mx_S.ext [(0, .ref l0), (1, .int 1), (2, .int l2), (3, .int v21)] (mx_sub_pos [2, 1, 3, 0] rfl (show ([3, 1, 0, 2] : List Nat).Nodup by decide)) ?_
  exact hk_17 l0 1 l2 v21 h _ hf
set_option maxHeartbeats 4000000 in
set_option maxRecDepth 20000 in
theorem w_X11_hasTwins_17_ok (X : Nat × (Nat → Int32)) {F L : Nat} (hF : 2 ≤ F) (hL : 50 ≤ L) (nn : Nat) {kk_4 : Nat → Int32 → Int32 → mx_H → Option (Int32 × mx_H)} (hk_4 : ∀ (l0 : Nat) (l1 : Int32) (l2 : Int32) (h : mx_H) (r : (Int32 × mx_H)), kk_4 l0 l1 l2 h = some r → mx_S X F L 313 4 [(0, .ref l0), (1, .int l1), (2, .int l2)] [] h 0 0 (some (.int r.1), r.2, 0, 0)) : ∀ (k : Nat) (l0 : Nat) (l1 : Int32) (l2 : Int32) (l3 : Int32) (h : mx_H) (r : (Int32 × mx_H)), w_X11_hasTwins_17 nn kk_4 k l0 l1 l2 l3 h = some r → mx_S X F L 313 17 [(0, .ref l0), (1, .int l1), (2, .int l2), (3, .int l3)] [] h 0 0 (some (.int r.1), r.2, 0, 0) := by
  have hm : mx_mt 313 = some (yX11_hasTwins, cX11_hasTwins, 4, (some .boolean)) := mt_X11_hasTwins
  intro k
  induction k with
  | zero => intro l0 l1 l2 l3 h r hf; cases hf
  | succ k ih =>
    intro l0 l1 l2 l3 h r hf
    unfold w_X11_hasTwins_17 at hf
    refine mx_S.pu (pc2 := 18) (lv2 := [(0, .ref l0), (1, .int l1), (2, .int l2), (3, .int l3)]) (st2 := [.int l3]) hm dX11_hasTwins_17 rfl ?_
    refine mx_S.pu (pc2 := 19) (lv2 := [(0, .ref l0), (1, .int l1), (2, .int l2), (3, .int l3)]) (st2 := [.int l2, .int l3]) hm dX11_hasTwins_18 rfl ?_
    rcases mx_if_el hf with ⟨c36, hf⟩ | ⟨c36, hf⟩
    · refine sb_ic_ge hm dX11_hasTwins_19 (tgt := 68) rfl (fun _ => ?_) (fun z => absurd c36 z)
      replace hf := xl_el hf; obtain ⟨v22, e_v22, hf⟩ := hf
      refine mx_S.pu (pc2 := 71) (lv2 := [(2, .int v22), (0, .ref l0), (1, .int l1), (3, .int l3)]) (st2 := []) hm dX11_hasTwins_68 (by rw [← e_v22]; rfl) ?_
      clear e_v22
      refine mx_S.pu (pc2 := 4) (lv2 := [(2, .int v22), (0, .ref l0), (1, .int l1), (3, .int l3)]) (st2 := []) hm dX11_hasTwins_71 rfl ?_
      refine mx_S.ext [(0, .ref l0), (1, .int l1), (2, .int v22)] (mx_sub_pos [1, 2, 0] rfl (show ([2, 0, 1, 3] : List Nat).Nodup by decide)) ?_
      exact hk_4 l0 l1 v22 h _ hf
    · refine sb_ic_ge hm dX11_hasTwins_19 (tgt := 68) rfl (fun z => absurd z c36) (fun _ => ?_)
      refine mx_S.pu (pc2 := 23) (lv2 := [(0, .ref l0), (1, .int l1), (2, .int l2), (3, .int l3)]) (st2 := [.int l1]) hm dX11_hasTwins_22 rfl ?_
      rcases mx_if_el hf with ⟨c35, hf⟩ | ⟨c35, hf⟩
      · refine sb_if_ne hm dX11_hasTwins_23 (tgt := 56) rfl (fun _ => ?_) (fun z => absurd c35 z)
        refine mx_S.ext [(0, .ref l0), (2, .int l2), (3, .int l3)] (mx_sub_pos [0, 2, 3] rfl (show ([0, 1, 2, 3] : List Nat).Nodup by decide)) ?_
        exact j_X11_hasTwins_56_ok X hF hL nn hk_4 ih l0 l2 l3 h hf
      · refine sb_if_ne hm dX11_hasTwins_23 (tgt := 56) rfl (fun z => absurd z c35) (fun _ => ?_)
        refine mx_S.pu (pc2 := 27) (lv2 := [(0, .ref l0), (1, .int l1), (2, .int l2), (3, .int l3)]) (st2 := [.ref l0]) hm dX11_hasTwins_26 rfl ?_
        replace hf := mx_sv_el hf; obtain ⟨v23, e_v23, hf⟩ := hf
        refine sx_get hm dX11_hasTwins_27 rs_RX11_62 (xgr_el e_v23) ?_
        clear e_v23
        refine mx_S.pu (pc2 := 31) (lv2 := [(0, .ref l0), (1, .int l1), (2, .int l2), (3, .int l3)]) (st2 := [.ref l0, .ref v23]) hm dX11_hasTwins_30 rfl ?_
        replace hf := mx_sv_el hf; obtain ⟨v24, e_v24, hf⟩ := hf
        refine sx_get hm dX11_hasTwins_31 rs_RX11_62 (xgr_el e_v24) ?_
        clear e_v24
        refine mx_S.pu (pc2 := 35) (lv2 := [(0, .ref l0), (1, .int l1), (2, .int l2), (3, .int l3)]) (st2 := [.int l2, .ref v24, .ref v23]) hm dX11_hasTwins_34 rfl ?_
        replace hf := mx_gd_el hf; obtain ⟨c25, hf⟩ := hf
        replace hf := mx_sv_el hf; obtain ⟨u26, e_u26, hf⟩ := hf
        refine sx_cv hm dX11_hasTwins_35 rs_RX11_150 mt_X3_fieldName [.int l2] [.ref v23] (b := v24) (ci := 3) rfl rfl rfl c25 (Nat.le_of_ble_eq_true rfl) (Nat.le_of_ble_eq_true rfl) (by omega) (by omega) (f_X3_fieldName_ok X (by omega) (by omega) nn v24 l2 h e_u26) ?_
        clear e_u26
        show mx_S X F L 313 38 [(0, .ref l0), (1, .int l1), (2, .int l2), (3, .int l3)] [.int u26.1, .ref v23] u26.2 0 0 (some (.int r.1), r.2, 0, 0)
        refine mx_S.pu (pc2 := 39) (lv2 := [(0, .ref l0), (1, .int l1), (2, .int l2), (3, .int l3)]) (st2 := [.ref l0, .int u26.1, .ref v23]) hm dX11_hasTwins_38 rfl ?_
        replace hf := mx_sv_el hf; obtain ⟨v27, e_v27, hf⟩ := hf
        refine sx_get hm dX11_hasTwins_39 rs_RX11_62 (xgr_el e_v27) ?_
        clear e_v27
        refine mx_S.pu (pc2 := 43) (lv2 := [(0, .ref l0), (1, .int l1), (2, .int l2), (3, .int l3)]) (st2 := [.ref l0, .ref v27, .int u26.1, .ref v23]) hm dX11_hasTwins_42 rfl ?_
        replace hf := mx_sv_el hf; obtain ⟨v28, e_v28, hf⟩ := hf
        refine sx_get hm dX11_hasTwins_43 rs_RX11_62 (xgr_el e_v28) ?_
        clear e_v28
        refine mx_S.pu (pc2 := 47) (lv2 := [(0, .ref l0), (1, .int l1), (2, .int l2), (3, .int l3)]) (st2 := [.int l3, .ref v28, .ref v27, .int u26.1, .ref v23]) hm dX11_hasTwins_46 rfl ?_
        replace hf := mx_gd_el hf; obtain ⟨c29, hf⟩ := hf
        replace hf := mx_sv_el hf; obtain ⟨u30, e_u30, hf⟩ := hf
        refine sx_cv hm dX11_hasTwins_47 rs_RX11_150 mt_X3_fieldName [.int l3] [.ref v27, .int u26.1, .ref v23] (b := v28) (ci := 3) rfl rfl rfl c29 (Nat.le_of_ble_eq_true rfl) (Nat.le_of_ble_eq_true rfl) (by omega) (by omega) (f_X3_fieldName_ok X (by omega) (by omega) nn v28 l3 u26.2 e_u30) ?_
        clear e_u30
        show mx_S X F L 313 50 [(0, .ref l0), (1, .int l1), (2, .int l2), (3, .int l3)] [.int u30.1, .ref v27, .int u26.1, .ref v23] u30.2 0 0 (some (.int r.1), r.2, 0, 0)
        replace hf := mx_gd_el hf; obtain ⟨c31, hf⟩ := hf
        replace hf := mx_sv_el hf; obtain ⟨u32, e_u32, hf⟩ := hf
        refine sx_cv hm dX11_hasTwins_50 rs_RX11_153 mt_X3_sameText [.int u26.1, .ref v27, .int u30.1] [] (b := v23) (ci := 3) rfl rfl rfl c31 (Nat.le_of_ble_eq_true rfl) (Nat.le_of_ble_eq_true rfl) (by omega) (by omega) (f_X3_sameText_ok X (by omega) (by omega) nn v23 u26.1 v27 u30.1 u30.2 e_u32) ?_
        clear e_u32
        show mx_S X F L 313 53 [(0, .ref l0), (1, .int l1), (2, .int l2), (3, .int l3)] [.int u32.1] u32.2 0 0 (some (.int r.1), r.2, 0, 0)
        rcases mx_if_el hf with ⟨c34, hf⟩ | ⟨c34, hf⟩
        · refine sb_if_eq hm dX11_hasTwins_53 (tgt := 60) rfl (fun _ => ?_) (fun z => absurd c34 z)
          refine sx_ic (v := 0) hm dX11_hasTwins_60 (by decide) ?_
          refine mx_S.pu (pc2 := 62) (lv2 := [(1, .int 0), (0, .ref l0), (2, .int l2), (3, .int l3)]) (st2 := []) hm dX11_hasTwins_61 rfl ?_
          replace hf := xl_el hf; obtain ⟨v33, e_v33, hf⟩ := hf
          refine mx_S.pu (pc2 := 65) (lv2 := [(3, .int v33), (1, .int 0), (0, .ref l0), (2, .int l2)]) (st2 := []) hm dX11_hasTwins_62 (by rw [← e_v33]; rfl) ?_
          clear e_v33
          refine mx_S.pu (pc2 := 17) (lv2 := [(3, .int v33), (1, .int 0), (0, .ref l0), (2, .int l2)]) (st2 := []) hm dX11_hasTwins_65 rfl ?_
          refine mx_S.ext [(0, .ref l0), (1, .int 0), (2, .int l2), (3, .int v33)] (mx_sub_pos [2, 1, 3, 0] rfl (show ([3, 1, 0, 2] : List Nat).Nodup by decide)) ?_
          exact ih l0 0 l2 v33 u32.2 _ hf
        · refine sb_if_eq hm dX11_hasTwins_53 (tgt := 60) rfl (fun z => absurd z c34) (fun _ => ?_)
          refine mx_S.ext [(0, .ref l0), (2, .int l2), (3, .int l3)] (mx_sub_pos [0, 2, 3] rfl (show ([0, 1, 2, 3] : List Nat).Nodup by decide)) ?_
          exact j_X11_hasTwins_56_ok X hF hL nn hk_4 ih l0 l2 l3 u32.2 hf
set_option maxHeartbeats 4000000 in
set_option maxRecDepth 20000 in
theorem w_X11_hasTwins_4_ok (X : Nat × (Nat → Int32)) {F L : Nat} (hF : 2 ≤ F) (hL : 50 ≤ L) (nn : Nat) : ∀ (k : Nat) (l0 : Nat) (l1 : Int32) (l2 : Int32) (h : mx_H) (r : (Int32 × mx_H)), w_X11_hasTwins_4 nn k l0 l1 l2 h = some r → mx_S X F L 313 4 [(0, .ref l0), (1, .int l1), (2, .int l2)] [] h 0 0 (some (.int r.1), r.2, 0, 0) := by
  have hm : mx_mt 313 = some (yX11_hasTwins, cX11_hasTwins, 4, (some .boolean)) := mt_X11_hasTwins
  intro k
  induction k with
  | zero => intro l0 l1 l2 h r hf; cases hf
  | succ k ih =>
    intro l0 l1 l2 h r hf
    unfold w_X11_hasTwins_4 at hf
    refine mx_S.pu (pc2 := 5) (lv2 := [(0, .ref l0), (1, .int l1), (2, .int l2)]) (st2 := [.int l2]) hm dX11_hasTwins_4 rfl ?_
    refine mx_S.pu (pc2 := 6) (lv2 := [(0, .ref l0), (1, .int l1), (2, .int l2)]) (st2 := [.ref l0, .int l2]) hm dX11_hasTwins_5 rfl ?_
    replace hf := mx_sv_el hf; obtain ⟨v37, e_v37, hf⟩ := hf
    refine sx_get hm dX11_hasTwins_6 rs_RX11_62 (xgr_el e_v37) ?_
    clear e_v37
    replace hf := mx_sv_el hf; obtain ⟨v38, e_v38, hf⟩ := hf
    refine sx_get hm dX11_hasTwins_9 rs_RX11_136 (xgi_el e_v38) ?_
    clear e_v38
    rcases mx_if_el hf with ⟨c39, hf⟩ | ⟨c39, hf⟩
    · refine sb_ic_ge hm dX11_hasTwins_12 (tgt := 74) rfl (fun _ => ?_) (fun z => absurd c39 z)
      refine sx_ic (v := 0) hm dX11_hasTwins_74 (by decide) ?_
      refine mx_S.pu (pc2 := 76) (lv2 := [(2, .int 0), (0, .ref l0), (1, .int l1)]) (st2 := []) hm dX11_hasTwins_75 rfl ?_
      refine mx_S.ext [(0, .ref l0), (1, .int l1), (2, .int 0)] (mx_sub_pos [1, 2, 0] rfl (show ([2, 0, 1] : List Nat).Nodup by decide)) ?_
      exact w_X11_hasTwins_76_ok X hF hL nn nn l0 l1 0 h _ hf
    · refine sb_ic_ge hm dX11_hasTwins_12 (tgt := 74) rfl (fun z => absurd z c39) (fun _ => ?_)
      refine sx_ic (v := 0) hm dX11_hasTwins_15 (by decide) ?_
      refine mx_S.pu (pc2 := 17) (lv2 := [(3, .int 0), (0, .ref l0), (1, .int l1), (2, .int l2)]) (st2 := []) hm dX11_hasTwins_16 rfl ?_
      refine mx_S.ext [(0, .ref l0), (1, .int l1), (2, .int l2), (3, .int 0)] (mx_sub_pos [1, 2, 3, 0] rfl (show ([3, 0, 1, 2] : List Nat).Nodup by decide)) ?_
      exact w_X11_hasTwins_17_ok X hF hL nn ih nn l0 l1 l2 0 h _ hf
set_option maxHeartbeats 4000000 in
set_option maxRecDepth 20000 in
theorem f_X11_hasTwins_ok (X : Nat × (Nat → Int32)) {F L : Nat} (hF : 2 ≤ F) (hL : 50 ≤ L) (nn : Nat) (a0 : Nat) (h : mx_H) {r : (Int32 × mx_H)} (hf : f_X11_hasTwins nn a0 h = some r) : mx_R X F L 313 [.ref a0] h (some (.int r.1), r.2, 0, 0) := by
  have hm : mx_mt 313 = some (yX11_hasTwins, cX11_hasTwins, 4, (some .boolean)) := mt_X11_hasTwins
  show mx_S X F L 313 0 [(0, .ref a0)] [] h 0 0 (some (.int r.1), r.2, 0, 0)
  unfold f_X11_hasTwins at hf
  refine sx_ic (v := 0) hm dX11_hasTwins_0 (by decide) ?_
  refine mx_S.pu (pc2 := 2) (lv2 := [(1, .int 0), (0, .ref a0)]) (st2 := []) hm dX11_hasTwins_1 rfl ?_
  refine sx_ic (v := 0) hm dX11_hasTwins_2 (by decide) ?_
  refine mx_S.pu (pc2 := 4) (lv2 := [(2, .int 0), (1, .int 0), (0, .ref a0)]) (st2 := []) hm dX11_hasTwins_3 rfl ?_
  refine mx_S.ext [(0, .ref a0), (1, .int 0), (2, .int 0)] (mx_sub_pos [2, 1, 0] rfl (show ([2, 1, 0] : List Nat).Nodup by decide)) ?_
  exact w_X11_hasTwins_4_ok X hF hL nn nn a0 0 0 h _ hf
set_option maxHeartbeats 4000000 in
set_option maxRecDepth 20000 in
theorem f_X11_takeImage_ok (X : Nat × (Nat → Int32)) {F L : Nat} (hF : 1 ≤ F) (hL : 21 ≤ L) (nn : Nat) (a0 : Nat) (a1 : Int32) (h : mx_H) {r : mx_H} (hf : f_X11_takeImage nn a0 a1 h = some r) : mx_R X F L 311 [.ref a0, .int a1] h (none, r, 0, 0) := by
  have hm : mx_mt 311 = some (yX11_takeImage, cX11_takeImage, 3, none) := mt_X11_takeImage
  show mx_S X F L 311 0 [(0, .ref a0), (1, .int a1)] [] h 0 0 (none, r, 0, 0)
  unfold f_X11_takeImage at hf
  refine mx_S.pu (pc2 := 1) (lv2 := [(0, .ref a0), (1, .int a1)]) (st2 := [.ref a0]) hm dX11_takeImage_0 rfl ?_
  replace hf := mx_sv_el hf; obtain ⟨v1, e_v1, hf⟩ := hf
  refine sx_get hm dX11_takeImage_1 rs_RX11_50 (xgr_el e_v1) ?_
  clear e_v1
  refine mx_S.pu (pc2 := 5) (lv2 := [(0, .ref a0), (1, .int a1)]) (st2 := [.int a1, .ref v1]) hm dX11_takeImage_4 rfl ?_
  replace hf := mx_gd_el hf; obtain ⟨c2, hf⟩ := hf
  replace hf := mx_sv_el hf; obtain ⟨u3, e_u3, hf⟩ := hf
  refine sx_cv hm dX11_takeImage_5 rs_RX11_132 mt_X7_imageOf [.int a1] [] (b := v1) (ci := 7) rfl rfl rfl c2 (Nat.le_of_ble_eq_true rfl) (Nat.le_of_ble_eq_true rfl) (by omega) (by omega) (f_X7_imageOf_ok X (by omega) (by omega) nn v1 a1 h e_u3) ?_
  clear e_u3
  show mx_S X F L 311 8 [(0, .ref a0), (1, .int a1)] [va_rf u3.1] u3.2 0 0 (none, r, 0, 0)
  refine sx_son (lv2 := [(2, va_rf u3.1), (0, .ref a0), (1, .int a1)]) hm dX11_takeImage_8 rfl rfl ?_
  refine sx_aon hm dX11_takeImage_9 rfl ?_
  rcases mx_oc_el hf with ⟨c5, hf⟩ | ⟨b4, c5, hf⟩
  · refine sx_ifnull_n hm dX11_takeImage_10 c5 (tgt := 18) rfl ?_
    cases hf
    exact sx_ret hm dX11_takeImage_18 rfl
  · refine sx_ifnull_s hm dX11_takeImage_10 c5 (tgt := 18) rfl ?_
    rw [show va_rf u3.1 = Value.ref b4 by rw [c5]; rfl]
    refine mx_S.pu (pc2 := 14) (lv2 := [(2, .ref b4), (0, .ref a0), (1, .int a1)]) (st2 := [.ref a0]) hm dX11_takeImage_13 rfl ?_
    refine mx_S.pu (pc2 := 15) (lv2 := [(2, .ref b4), (0, .ref a0), (1, .int a1)]) (st2 := [.ref b4, .ref a0]) hm dX11_takeImage_14 rfl ?_
    replace hf := mx_sv_el hf; obtain ⟨h6, e_h6, hf⟩ := hf
    refine sx_put hm dX11_takeImage_15 rs_RX11_62 ft_11_5 ⟨rfl, rfl⟩ (fun z => by cases z) e_h6 ?_
    clear e_h6
    cases hf
    exact sx_ret hm dX11_takeImage_18 rfl
set_option maxHeartbeats 4000000 in
set_option maxRecDepth 20000 in
theorem f_X11_tellNumber_ok (X : Nat × (Nat → Int32)) {F L : Nat} (hF : 0 ≤ F) (hL : 0 ≤ L) (nn : Nat) (a0 : Nat) (a1 : Int32) (a2 : Int32) (a3 : Int32) (a4 : Int32) (h : mx_H) {r : (Int32 × mx_H)} (hf : f_X11_tellNumber nn a0 a1 a2 a3 a4 h = some r) : mx_R X F L 309 [.ref a0, .int a1, .int a2, .int a3, .int a4] h (some (.int r.1), r.2, 0, 0) := by
  have hm : mx_mt 309 = some (yX11_tellNumber, cX11_tellNumber, 5, (some .int)) := mt_X11_tellNumber
  show mx_S X F L 309 0 [(0, .ref a0), (1, .int a1), (2, .int a2), (3, .int a3), (4, .int a4)] [] h 0 0 (some (.int r.1), r.2, 0, 0)
  unfold f_X11_tellNumber at hf
  refine mx_S.pu (pc2 := 1) (lv2 := [(0, .ref a0), (1, .int a1), (2, .int a2), (3, .int a3), (4, .int a4)]) (st2 := [.ref a0]) hm dX11_tellNumber_0 rfl ?_
  refine mx_S.pu (pc2 := 2) (lv2 := [(0, .ref a0), (1, .int a1), (2, .int a2), (3, .int a3), (4, .int a4)]) (st2 := [.int a2, .ref a0]) hm dX11_tellNumber_1 rfl ?_
  replace hf := mx_sv_el hf; obtain ⟨h1, e_h1, hf⟩ := hf
  refine sx_put hm dX11_tellNumber_2 rs_RX11_11 ft_11_2 ⟨rfl, rfl⟩ (fun z => by cases z) e_h1 ?_
  clear e_h1
  refine mx_S.pu (pc2 := 6) (lv2 := [(0, .ref a0), (1, .int a1), (2, .int a2), (3, .int a3), (4, .int a4)]) (st2 := [.ref a0]) hm dX11_tellNumber_5 rfl ?_
  refine mx_S.pu (pc2 := 7) (lv2 := [(0, .ref a0), (1, .int a1), (2, .int a2), (3, .int a3), (4, .int a4)]) (st2 := [.int a3, .ref a0]) hm dX11_tellNumber_6 rfl ?_
  replace hf := mx_sv_el hf; obtain ⟨h2, e_h2, hf⟩ := hf
  refine sx_put hm dX11_tellNumber_7 rs_RX11_17 ft_11_3 ⟨rfl, rfl⟩ (fun z => by cases z) e_h2 ?_
  clear e_h2
  refine mx_S.pu (pc2 := 11) (lv2 := [(0, .ref a0), (1, .int a1), (2, .int a2), (3, .int a3), (4, .int a4)]) (st2 := [.ref a0]) hm dX11_tellNumber_10 rfl ?_
  refine mx_S.pu (pc2 := 13) (lv2 := [(0, .ref a0), (1, .int a1), (2, .int a2), (3, .int a3), (4, .int a4)]) (st2 := [.int a4, .ref a0]) hm dX11_tellNumber_11 rfl ?_
  replace hf := mx_sv_el hf; obtain ⟨h3, e_h3, hf⟩ := hf
  refine sx_put hm dX11_tellNumber_13 rs_RX11_20 ft_11_4 ⟨rfl, rfl⟩ (fun z => by cases z) e_h3 ?_
  clear e_h3
  refine mx_S.pu (pc2 := 17) (lv2 := [(0, .ref a0), (1, .int a1), (2, .int a2), (3, .int a3), (4, .int a4)]) (st2 := [.int a1]) hm dX11_tellNumber_16 rfl ?_
  cases hf
  exact sx_ire hm dX11_tellNumber_17 rfl rfl
set_option maxHeartbeats 4000000 in
set_option maxRecDepth 20000 in
theorem j_X4_endsAbove_33_ok (X : Nat × (Nat → Int32)) {F L : Nat} (hF : 0 ≤ F) (hL : 0 ≤ L) (nn : Nat) (l2 : Int32) (h : mx_H) {r : (Int32 × mx_H)} (hf : j_X4_endsAbove_33 nn l2 h = some r) : mx_S X F L 141 33 [(2, .int l2)] [] h 0 0 (some (.int r.1), r.2, 0, 0) := by
  have hm : mx_mt 141 = some (yX4_endsAbove, cX4_endsAbove, 4, (some .boolean)) := mt_X4_endsAbove
  unfold j_X4_endsAbove_33 at hf
  refine mx_S.pu (pc2 := 34) (lv2 := [(2, .int l2)]) (st2 := [.int l2]) hm dX4_endsAbove_33 rfl ?_
  refine sx_ic (v := (-1)) hm dX4_endsAbove_34 (by decide) ?_
  rcases mx_if_el hf with ⟨c1, hf⟩ | ⟨c1, hf⟩
  · refine sb_ic_ne hm dX4_endsAbove_35 (tgt := 42) rfl (fun _ => ?_) (fun z => absurd c1 z)
    refine sx_ic (v := 0) hm dX4_endsAbove_42 (by decide) ?_
    cases hf
    exact sx_ire hm dX4_endsAbove_43 rfl (by decide)
  · refine sb_ic_ne hm dX4_endsAbove_35 (tgt := 42) rfl (fun z => absurd z c1) (fun _ => ?_)
    refine sx_ic (v := 1) hm dX4_endsAbove_38 (by decide) ?_
    refine mx_S.pu (pc2 := 43) (lv2 := [(2, .int l2)]) (st2 := [.int 1]) hm dX4_endsAbove_39 rfl ?_
    cases hf
    exact sx_ire hm dX4_endsAbove_43 rfl (by decide)
set_option maxHeartbeats 4000000 in
set_option maxRecDepth 20000 in
theorem w_X4_endsAbove_4_ok (X : Nat × (Nat → Int32)) {F L : Nat} (hF : 0 ≤ F) (hL : 0 ≤ L) (nn : Nat) : ∀ (k : Nat) (l0 : Nat) (l2 : Int32) (l3 : Int32) (h : mx_H) (r : (Int32 × mx_H)), w_X4_endsAbove_4 nn k l0 l2 l3 h = some r → mx_S X F L 141 4 [(0, .ref l0), (2, .int l2), (3, .int l3)] [] h 0 0 (some (.int r.1), r.2, 0, 0) := by
  have hm : mx_mt 141 = some (yX4_endsAbove, cX4_endsAbove, 4, (some .boolean)) := mt_X4_endsAbove
  intro k
  induction k with
  | zero => intro l0 l2 l3 h r hf; cases hf
  | succ k ih =>
    intro l0 l2 l3 h r hf
    unfold w_X4_endsAbove_4 at hf
    refine mx_S.pu (pc2 := 5) (lv2 := [(0, .ref l0), (2, .int l2), (3, .int l3)]) (st2 := [.int l3]) hm dX4_endsAbove_4 rfl ?_
    refine sx_bi (v := 16) hm dX4_endsAbove_5 (by decide) ?_
    rcases mx_if_el hf with ⟨c7, hf⟩ | ⟨c7, hf⟩
    · refine sb_ic_gt hm dX4_endsAbove_7 (tgt := 33) rfl (fun _ => ?_) (fun z => absurd c7 z)
      refine mx_S.ext [(2, .int l2)] (mx_sub_pos [1] rfl (show ([0, 2, 3] : List Nat).Nodup by decide)) ?_
      exact j_X4_endsAbove_33_ok X hF hL nn l2 h hf
    · refine sb_ic_gt hm dX4_endsAbove_7 (tgt := 33) rfl (fun z => absurd z c7) (fun _ => ?_)
      refine mx_S.pu (pc2 := 11) (lv2 := [(0, .ref l0), (2, .int l2), (3, .int l3)]) (st2 := [.int l2]) hm dX4_endsAbove_10 rfl ?_
      rcases mx_if_el hf with ⟨c6, hf⟩ | ⟨c6, hf⟩
      · refine sb_if_lt hm dX4_endsAbove_11 (tgt := 33) rfl (fun _ => ?_) (fun z => absurd c6 z)
        refine mx_S.ext [(2, .int l2)] (mx_sub_pos [1] rfl (show ([0, 2, 3] : List Nat).Nodup by decide)) ?_
        exact j_X4_endsAbove_33_ok X hF hL nn l2 h hf
      · refine sb_if_lt hm dX4_endsAbove_11 (tgt := 33) rfl (fun z => absurd z c6) (fun _ => ?_)
        refine mx_S.pu (pc2 := 15) (lv2 := [(0, .ref l0), (2, .int l2), (3, .int l3)]) (st2 := [.int l2]) hm dX4_endsAbove_14 rfl ?_
        refine sx_bi (v := 16) hm dX4_endsAbove_15 (by decide) ?_
        rcases mx_if_el hf with ⟨c5, hf⟩ | ⟨c5, hf⟩
        · refine sb_ic_ge hm dX4_endsAbove_17 (tgt := 33) rfl (fun _ => ?_) (fun z => absurd c5 z)
          refine mx_S.ext [(2, .int l2)] (mx_sub_pos [1] rfl (show ([0, 2, 3] : List Nat).Nodup by decide)) ?_
          exact j_X4_endsAbove_33_ok X hF hL nn l2 h hf
        · refine sb_ic_ge hm dX4_endsAbove_17 (tgt := 33) rfl (fun z => absurd z c5) (fun _ => ?_)
          refine mx_S.pu (pc2 := 21) (lv2 := [(0, .ref l0), (2, .int l2), (3, .int l3)]) (st2 := [.ref l0]) hm dX4_endsAbove_20 rfl ?_
          replace hf := mx_sv_el hf; obtain ⟨v2, e_v2, hf⟩ := hf
          refine sx_get hm dX4_endsAbove_21 rs_RX4_11 (xgr_el e_v2) ?_
          clear e_v2
          refine mx_S.pu (pc2 := 25) (lv2 := [(0, .ref l0), (2, .int l2), (3, .int l3)]) (st2 := [.int l2, .ref v2]) hm dX4_endsAbove_24 rfl ?_
          replace hf := mx_sv_el hf; obtain ⟨v3, e_v3, hf⟩ := hf
          refine sx_ald hm dX4_endsAbove_25 e_v3 ?_
          clear e_v3
          refine mx_S.pu (pc2 := 27) (lv2 := [(2, .int v3), (0, .ref l0), (3, .int l3)]) (st2 := []) hm dX4_endsAbove_26 rfl ?_
          replace hf := xl_el hf; obtain ⟨v4, e_v4, hf⟩ := hf
          refine mx_S.pu (pc2 := 30) (lv2 := [(3, .int v4), (2, .int v3), (0, .ref l0)]) (st2 := []) hm dX4_endsAbove_27 (by rw [← e_v4]; rfl) ?_
          clear e_v4
          refine mx_S.pu (pc2 := 4) (lv2 := [(3, .int v4), (2, .int v3), (0, .ref l0)]) (st2 := []) hm dX4_endsAbove_30 rfl ?_
          refine mx_S.ext [(0, .ref l0), (2, .int v3), (3, .int v4)] (mx_sub_pos [2, 1, 0] rfl (show ([3, 2, 0] : List Nat).Nodup by decide)) ?_
          exact ih l0 v3 v4 h _ hf
set_option maxHeartbeats 4000000 in
set_option maxRecDepth 20000 in
theorem f_X4_endsAbove_ok (X : Nat × (Nat → Int32)) {F L : Nat} (hF : 0 ≤ F) (hL : 0 ≤ L) (nn : Nat) (a0 : Nat) (a1 : Int32) (h : mx_H) {r : (Int32 × mx_H)} (hf : f_X4_endsAbove nn a0 a1 h = some r) : mx_R X F L 141 [.ref a0, .int a1] h (some (.int r.1), r.2, 0, 0) := by
  have hm : mx_mt 141 = some (yX4_endsAbove, cX4_endsAbove, 4, (some .boolean)) := mt_X4_endsAbove
  show mx_S X F L 141 0 [(0, .ref a0), (1, .int a1)] [] h 0 0 (some (.int r.1), r.2, 0, 0)
  unfold f_X4_endsAbove at hf
  refine mx_S.pu (pc2 := 1) (lv2 := [(0, .ref a0), (1, .int a1)]) (st2 := [.int a1]) hm dX4_endsAbove_0 rfl ?_
  refine mx_S.pu (pc2 := 2) (lv2 := [(2, .int a1), (0, .ref a0), (1, .int a1)]) (st2 := []) hm dX4_endsAbove_1 rfl ?_
  refine sx_ic (v := 0) hm dX4_endsAbove_2 (by decide) ?_
  refine mx_S.pu (pc2 := 4) (lv2 := [(3, .int 0), (2, .int a1), (0, .ref a0), (1, .int a1)]) (st2 := []) hm dX4_endsAbove_3 rfl ?_
  refine mx_S.ext [(0, .ref a0), (2, .int a1), (3, .int 0)] (mx_sub_pos [2, 1, 0] rfl (show ([3, 2, 0, 1] : List Nat).Nodup by decide)) ?_
  exact w_X4_endsAbove_4_ok X hF hL nn nn a0 a1 0 h _ hf
set_option maxHeartbeats 4000000 in
set_option maxRecDepth 20000 in
theorem j_X11_proveHeads_81_ok (X : Nat × (Nat → Int32)) {F L : Nat} (hF : 9 ≤ F) (hL : 214 ≤ L) (nn : Nat) {kk_3 : Nat → Int32 → mx_H → Option (Int32 × mx_H)} (hk_3 : ∀ (l0 : Nat) (l1 : Int32) (h : mx_H) (r : (Int32 × mx_H)), kk_3 l0 l1 h = some r → mx_S X F L 307 3 [(0, .ref l0), (1, .int l1)] [] h 0 0 (some (.int r.1), r.2, 0, 0)) (l0 : Nat) (l1 : Int32) (l2 : Int32) (h : mx_H) {r : (Int32 × mx_H)} (hf : j_X11_proveHeads_81 nn kk_3 l0 l1 l2 h = some r) : mx_S X F L 307 81 [(0, .ref l0), (1, .int l1), (2, .int l2)] [] h 0 0 (some (.int r.1), r.2, 0, 0) := by
  have hm : mx_mt 307 = some (yX11_proveHeads, cX11_proveHeads, 3, (some .int)) := mt_X11_proveHeads
  unfold j_X11_proveHeads_81 at hf
  refine mx_S.pu (pc2 := 82) (lv2 := [(0, .ref l0), (1, .int l1), (2, .int l2)]) (st2 := [.int l2]) hm dX11_proveHeads_81 rfl ?_
  rcases mx_if_el hf with ⟨c4, hf⟩ | ⟨c4, hf⟩
  · refine sb_if_eq hm dX11_proveHeads_82 (tgt := 94) rfl (fun _ => ?_) (fun z => absurd c4 z)
    replace hf := xl_el hf; obtain ⟨v1, e_v1, hf⟩ := hf
    refine mx_S.pu (pc2 := 97) (lv2 := [(1, .int v1), (0, .ref l0), (2, .int l2)]) (st2 := []) hm dX11_proveHeads_94 (by rw [← e_v1]; rfl) ?_
    clear e_v1
    refine mx_S.pu (pc2 := 3) (lv2 := [(1, .int v1), (0, .ref l0), (2, .int l2)]) (st2 := []) hm dX11_proveHeads_97 rfl ?_
    refine mx_S.ext [(0, .ref l0), (1, .int v1)] (mx_sub_pos [1, 0] rfl (show ([1, 0, 2] : List Nat).Nodup by decide)) ?_
    exact hk_3 l0 v1 h _ hf
  · refine sb_if_eq hm dX11_proveHeads_82 (tgt := 94) rfl (fun z => absurd z c4) (fun _ => ?_)
    refine mx_S.pu (pc2 := 86) (lv2 := [(0, .ref l0), (1, .int l1), (2, .int l2)]) (st2 := [.ref l0]) hm dX11_proveHeads_85 rfl ?_
    refine mx_S.pu (pc2 := 87) (lv2 := [(0, .ref l0), (1, .int l1), (2, .int l2)]) (st2 := [.int l2, .ref l0]) hm dX11_proveHeads_86 rfl ?_
    refine mx_S.pu (pc2 := 88) (lv2 := [(0, .ref l0), (1, .int l1), (2, .int l2)]) (st2 := [.int l1, .int l2, .ref l0]) hm dX11_proveHeads_87 rfl ?_
    refine sx_ic (v := (-1)) hm dX11_proveHeads_88 (by decide) ?_
    refine sx_ic (v := (-1)) hm dX11_proveHeads_89 (by decide) ?_
    replace hf := mx_gd_el hf; obtain ⟨c2, hf⟩ := hf
    replace hf := mx_sv_el hf; obtain ⟨u3, e_u3, hf⟩ := hf
    refine sx_cv hm dX11_proveHeads_90 rs_RX11_93 mt_X11_tellNumber [.int l2, .int l1, .int (-1), .int (-1)] [] (b := l0) (ci := 11) rfl rfl rfl c2 (Nat.le_of_ble_eq_true rfl) (Nat.le_of_ble_eq_true rfl) (by omega) (by omega) (f_X11_tellNumber_ok X (by omega) (by omega) nn l0 l2 l1 (-1) (-1) h e_u3) ?_
    clear e_u3
    show mx_S X F L 307 93 [(0, .ref l0), (1, .int l1), (2, .int l2)] [.int u3.1] u3.2 0 0 (some (.int r.1), r.2, 0, 0)
    cases hf
    exact sx_ire hm dX11_proveHeads_93 rfl rfl
set_option maxHeartbeats 4000000 in
set_option maxRecDepth 20000 in
theorem j_X11_proveHeads_54_ok (X : Nat × (Nat → Int32)) {F L : Nat} (hF : 9 ≤ F) (hL : 214 ≤ L) (nn : Nat) {kk_3 : Nat → Int32 → mx_H → Option (Int32 × mx_H)} (hk_3 : ∀ (l0 : Nat) (l1 : Int32) (h : mx_H) (r : (Int32 × mx_H)), kk_3 l0 l1 h = some r → mx_S X F L 307 3 [(0, .ref l0), (1, .int l1)] [] h 0 0 (some (.int r.1), r.2, 0, 0)) (l0 : Nat) (l1 : Int32) (h : mx_H) {r : (Int32 × mx_H)} (hf : j_X11_proveHeads_54 nn kk_3 l0 l1 h = some r) : mx_S X F L 307 54 [(0, .ref l0), (1, .int l1)] [] h 0 0 (some (.int r.1), r.2, 0, 0) := by
  have hm : mx_mt 307 = some (yX11_proveHeads, cX11_proveHeads, 3, (some .int)) := mt_X11_proveHeads
  unfold j_X11_proveHeads_54 at hf
  refine sx_ic (v := 3) hm dX11_proveHeads_54 (by decide) ?_
  refine mx_S.pu (pc2 := 56) (lv2 := [(2, .int 3), (0, .ref l0), (1, .int l1)]) (st2 := []) hm dX11_proveHeads_55 rfl ?_
  refine mx_S.pu (pc2 := 81) (lv2 := [(2, .int 3), (0, .ref l0), (1, .int l1)]) (st2 := []) hm dX11_proveHeads_56 rfl ?_
  refine mx_S.ext [(0, .ref l0), (1, .int l1), (2, .int 3)] (mx_sub_pos [1, 2, 0] rfl (show ([2, 0, 1] : List Nat).Nodup by decide)) ?_
  exact j_X11_proveHeads_81_ok X hF hL nn hk_3 l0 l1 3 h hf
set_option maxHeartbeats 4000000 in
set_option maxRecDepth 20000 in
theorem w_X11_proveHeads_3_ok (X : Nat × (Nat → Int32)) {F L : Nat} (hF : 9 ≤ F) (hL : 214 ≤ L) (nn : Nat) : ∀ (k : Nat) (l0 : Nat) (l1 : Int32) (h : mx_H) (r : (Int32 × mx_H)), w_X11_proveHeads_3 nn k l0 l1 h = some r → mx_S X F L 307 3 [(0, .ref l0), (1, .int l1)] [] h 0 0 (some (.int r.1), r.2, 0, 0) := by
  have hm : mx_mt 307 = some (yX11_proveHeads, cX11_proveHeads, 3, (some .int)) := mt_X11_proveHeads
  intro k
  induction k with
  | zero => intro l0 l1 h r hf; cases hf
  | succ k ih =>
    intro l0 l1 h r hf
    unfold w_X11_proveHeads_3 at hf
    refine mx_S.pu (pc2 := 4) (lv2 := [(0, .ref l0), (1, .int l1)]) (st2 := [.int l1]) hm dX11_proveHeads_3 rfl ?_
    refine sx_bi (v := 8) hm dX11_proveHeads_4 (by decide) ?_
    refine mx_S.pu (pc2 := 7) (lv2 := [(0, .ref l0), (1, .int l1)]) (st2 := [.ref l0, .int 8, .int l1]) hm dX11_proveHeads_6 rfl ?_
    replace hf := mx_sv_el hf; obtain ⟨v5, e_v5, hf⟩ := hf
    refine sx_get hm dX11_proveHeads_7 rs_RX11_50 (xgr_el e_v5) ?_
    clear e_v5
    replace hf := mx_sv_el hf; obtain ⟨v6, e_v6, hf⟩ := hf
    refine sx_get hm dX11_proveHeads_10 rs_RX11_68 (xgi_el e_v6) ?_
    clear e_v6
    replace hf := xl_el hf; obtain ⟨v7, e_v7, hf⟩ := hf
    refine mx_S.pu (pc2 := 14) (lv2 := [(0, .ref l0), (1, .int l1)]) (st2 := [.int v7, .int l1]) hm dX11_proveHeads_13 (by rw [← e_v7]; rfl) ?_
    clear e_v7
    rcases mx_if_el hf with ⟨c27, hf⟩ | ⟨c27, hf⟩
    · refine sb_ic_ge hm dX11_proveHeads_14 (tgt := 100) rfl (fun _ => ?_) (fun z => absurd c27 z)
      refine sx_ic (v := 0) hm dX11_proveHeads_100 (by decide) ?_
      cases hf
      exact sx_ire hm dX11_proveHeads_101 rfl rfl
    · refine sb_ic_ge hm dX11_proveHeads_14 (tgt := 100) rfl (fun z => absurd z c27) (fun _ => ?_)
      refine mx_S.pu (pc2 := 18) (lv2 := [(0, .ref l0), (1, .int l1)]) (st2 := [.ref l0]) hm dX11_proveHeads_17 rfl ?_
      refine mx_S.pu (pc2 := 19) (lv2 := [(0, .ref l0), (1, .int l1)]) (st2 := [.int l1, .ref l0]) hm dX11_proveHeads_18 rfl ?_
      replace hf := mx_gd_el hf; obtain ⟨c8, hf⟩ := hf
      replace hf := mx_sv_el hf; obtain ⟨u9, e_u9, hf⟩ := hf
      refine sx_cv hm dX11_proveHeads_19 rs_RX11_71 mt_X11_takeImage [.int l1] [] (b := l0) (ci := 11) rfl rfl rfl c8 (Nat.le_of_ble_eq_true rfl) (Nat.le_of_ble_eq_true rfl) (by omega) (by omega) (f_X11_takeImage_ok X (by omega) (by omega) nn l0 l1 h e_u9) ?_
      clear e_u9
      show mx_S X F L 307 22 [(0, .ref l0), (1, .int l1)] [] u9 0 0 (some (.int r.1), r.2, 0, 0)
      refine sx_ic (v := 0) hm dX11_proveHeads_22 (by decide) ?_
      refine mx_S.pu (pc2 := 24) (lv2 := [(2, .int 0), (0, .ref l0), (1, .int l1)]) (st2 := []) hm dX11_proveHeads_23 rfl ?_
      refine mx_S.pu (pc2 := 25) (lv2 := [(2, .int 0), (0, .ref l0), (1, .int l1)]) (st2 := [.ref l0]) hm dX11_proveHeads_24 rfl ?_
      replace hf := mx_sv_el hf; obtain ⟨v10, e_v10, hf⟩ := hf
      refine sx_get hm dX11_proveHeads_25 rs_RX11_60 (xgr_el e_v10) ?_
      clear e_v10
      refine mx_S.pu (pc2 := 29) (lv2 := [(2, .int 0), (0, .ref l0), (1, .int l1)]) (st2 := [.int l1, .ref v10]) hm dX11_proveHeads_28 rfl ?_
      replace hf := mx_gd_el hf; obtain ⟨c11, hf⟩ := hf
      replace hf := mx_sv_el hf; obtain ⟨u12, e_u12, hf⟩ := hf
      refine sx_cv hm dX11_proveHeads_29 rs_RX11_75 mt_X4_above [.int l1] [] (b := v10) (ci := 4) rfl rfl rfl c11 (Nat.le_of_ble_eq_true rfl) (Nat.le_of_ble_eq_true rfl) (by omega) (by omega) (f_X4_above_ok X (by omega) (by omega) nn v10 l1 u9 e_u12) ?_
      clear e_u12
      show mx_S X F L 307 32 [(2, .int 0), (0, .ref l0), (1, .int l1)] [.int u12.1] u12.2 0 0 (some (.int r.1), r.2, 0, 0)
      refine sx_ic (v := (-1)) hm dX11_proveHeads_32 (by decide) ?_
      rcases mx_if_el hf with ⟨c26, hf⟩ | ⟨c26, hf⟩
      · refine sb_ic_eq hm dX11_proveHeads_33 (tgt := 54) rfl (fun _ => ?_) (fun z => absurd c26 z)
        refine mx_S.ext [(0, .ref l0), (1, .int l1)] (mx_sub_pos [1, 2] rfl (show ([2, 0, 1] : List Nat).Nodup by decide)) ?_
        exact j_X11_proveHeads_54_ok X hF hL nn ih l0 l1 u12.2 hf
      · refine sb_ic_eq hm dX11_proveHeads_33 (tgt := 54) rfl (fun z => absurd z c26) (fun _ => ?_)
        refine mx_S.pu (pc2 := 37) (lv2 := [(2, .int 0), (0, .ref l0), (1, .int l1)]) (st2 := [.ref l0]) hm dX11_proveHeads_36 rfl ?_
        replace hf := mx_gd_el hf; obtain ⟨c13, hf⟩ := hf
        replace hf := mx_sv_el hf; obtain ⟨u14, e_u14, hf⟩ := hf
        refine sx_cv hm dX11_proveHeads_37 rs_RX11_79 mt_X11_areKindsThere [] [] (b := l0) (ci := 11) rfl rfl rfl c13 (Nat.le_of_ble_eq_true rfl) (Nat.le_of_ble_eq_true rfl) (by omega) (by omega) (f_X11_areKindsThere_ok X (by omega) (by omega) nn l0 u12.2 e_u14) ?_
        clear e_u14
        show mx_S X F L 307 40 [(2, .int 0), (0, .ref l0), (1, .int l1)] [.int u14.1] u14.2 0 0 (some (.int r.1), r.2, 0, 0)
        rcases mx_if_el hf with ⟨c25, hf⟩ | ⟨c25, hf⟩
        · refine sb_if_eq hm dX11_proveHeads_40 (tgt := 54) rfl (fun _ => ?_) (fun z => absurd c25 z)
          refine mx_S.ext [(0, .ref l0), (1, .int l1)] (mx_sub_pos [1, 2] rfl (show ([2, 0, 1] : List Nat).Nodup by decide)) ?_
          exact j_X11_proveHeads_54_ok X hF hL nn ih l0 l1 u14.2 hf
        · refine sb_if_eq hm dX11_proveHeads_40 (tgt := 54) rfl (fun z => absurd z c25) (fun _ => ?_)
          refine mx_S.pu (pc2 := 44) (lv2 := [(2, .int 0), (0, .ref l0), (1, .int l1)]) (st2 := [.ref l0]) hm dX11_proveHeads_43 rfl ?_
          replace hf := mx_sv_el hf; obtain ⟨v15, e_v15, hf⟩ := hf
          refine sx_get hm dX11_proveHeads_44 rs_RX11_60 (xgr_el e_v15) ?_
          clear e_v15
          refine mx_S.pu (pc2 := 48) (lv2 := [(2, .int 0), (0, .ref l0), (1, .int l1)]) (st2 := [.int l1, .ref v15]) hm dX11_proveHeads_47 rfl ?_
          replace hf := mx_gd_el hf; obtain ⟨c16, hf⟩ := hf
          replace hf := mx_sv_el hf; obtain ⟨u17, e_u17, hf⟩ := hf
          refine sx_cv hm dX11_proveHeads_48 rs_RX11_83 mt_X4_endsAbove [.int l1] [] (b := v15) (ci := 4) rfl rfl rfl c16 (Nat.le_of_ble_eq_true rfl) (Nat.le_of_ble_eq_true rfl) (by omega) (by omega) (f_X4_endsAbove_ok X (by omega) (by omega) nn v15 l1 u14.2 e_u17) ?_
          clear e_u17
          show mx_S X F L 307 51 [(2, .int 0), (0, .ref l0), (1, .int l1)] [.int u17.1] u17.2 0 0 (some (.int r.1), r.2, 0, 0)
          rcases mx_if_el hf with ⟨c24, hf⟩ | ⟨c24, hf⟩
          · refine sb_if_ne hm dX11_proveHeads_51 (tgt := 59) rfl (fun _ => ?_) (fun z => absurd c24 z)
            refine mx_S.pu (pc2 := 60) (lv2 := [(2, .int 0), (0, .ref l0), (1, .int l1)]) (st2 := [.ref l0]) hm dX11_proveHeads_59 rfl ?_
            replace hf := mx_gd_el hf; obtain ⟨c18, hf⟩ := hf
            replace hf := mx_sv_el hf; obtain ⟨u19, e_u19, hf⟩ := hf
            refine sx_cv hm dX11_proveHeads_60 rs_RX11_87 mt_X11_hasTwins [] [] (b := l0) (ci := 11) rfl rfl rfl c18 (Nat.le_of_ble_eq_true rfl) (Nat.le_of_ble_eq_true rfl) (by omega) (by omega) (f_X11_hasTwins_ok X (by omega) (by omega) nn l0 u17.2 e_u19) ?_
            clear e_u19
            show mx_S X F L 307 63 [(2, .int 0), (0, .ref l0), (1, .int l1)] [.int u19.1] u19.2 0 0 (some (.int r.1), r.2, 0, 0)
            rcases mx_if_el hf with ⟨c23, hf⟩ | ⟨c23, hf⟩
            · refine sb_if_eq hm dX11_proveHeads_63 (tgt := 71) rfl (fun _ => ?_) (fun z => absurd c23 z)
              refine mx_S.pu (pc2 := 72) (lv2 := [(2, .int 0), (0, .ref l0), (1, .int l1)]) (st2 := [.ref l0]) hm dX11_proveHeads_71 rfl ?_
              refine mx_S.pu (pc2 := 73) (lv2 := [(2, .int 0), (0, .ref l0), (1, .int l1)]) (st2 := [.int l1, .ref l0]) hm dX11_proveHeads_72 rfl ?_
              replace hf := mx_gd_el hf; obtain ⟨c20, hf⟩ := hf
              replace hf := mx_sv_el hf; obtain ⟨u21, e_u21, hf⟩ := hf
              refine sx_cv hm dX11_proveHeads_73 rs_RX11_90 mt_X11_hasOtherAbove [.int l1] [] (b := l0) (ci := 11) rfl rfl rfl c20 (Nat.le_of_ble_eq_true rfl) (Nat.le_of_ble_eq_true rfl) (by omega) (by omega) (f_X11_hasOtherAbove_ok X (by omega) (by omega) nn l0 l1 u19.2 e_u21) ?_
              clear e_u21
              show mx_S X F L 307 76 [(2, .int 0), (0, .ref l0), (1, .int l1)] [.int u21.1] u21.2 0 0 (some (.int r.1), r.2, 0, 0)
              rcases mx_if_el hf with ⟨c22, hf⟩ | ⟨c22, hf⟩
              · refine sb_if_eq hm dX11_proveHeads_76 (tgt := 81) rfl (fun _ => ?_) (fun z => absurd c22 z)
                refine mx_S.ext [(0, .ref l0), (1, .int l1), (2, .int 0)] (mx_sub_pos [1, 2, 0] rfl (show ([2, 0, 1] : List Nat).Nodup by decide)) ?_
                exact j_X11_proveHeads_81_ok X hF hL nn ih l0 l1 0 u21.2 hf
              · refine sb_if_eq hm dX11_proveHeads_76 (tgt := 81) rfl (fun z => absurd z c22) (fun _ => ?_)
                refine sx_ic (v := 5) hm dX11_proveHeads_79 (by decide) ?_
                refine mx_S.pu (pc2 := 81) (lv2 := [(2, .int 5), (0, .ref l0), (1, .int l1)]) (st2 := []) hm dX11_proveHeads_80 rfl ?_
                refine mx_S.ext [(0, .ref l0), (1, .int l1), (2, .int 5)] (mx_sub_pos [1, 2, 0] rfl (show ([2, 0, 1] : List Nat).Nodup by decide)) ?_
                exact j_X11_proveHeads_81_ok X hF hL nn ih l0 l1 5 u21.2 hf
            · refine sb_if_eq hm dX11_proveHeads_63 (tgt := 71) rfl (fun z => absurd z c23) (fun _ => ?_)
              refine sx_ic (v := 4) hm dX11_proveHeads_66 (by decide) ?_
              refine mx_S.pu (pc2 := 68) (lv2 := [(2, .int 4), (0, .ref l0), (1, .int l1)]) (st2 := []) hm dX11_proveHeads_67 rfl ?_
              refine mx_S.pu (pc2 := 81) (lv2 := [(2, .int 4), (0, .ref l0), (1, .int l1)]) (st2 := []) hm dX11_proveHeads_68 rfl ?_
              refine mx_S.ext [(0, .ref l0), (1, .int l1), (2, .int 4)] (mx_sub_pos [1, 2, 0] rfl (show ([2, 0, 1] : List Nat).Nodup by decide)) ?_
              exact j_X11_proveHeads_81_ok X hF hL nn ih l0 l1 4 u19.2 hf
          · refine sb_if_ne hm dX11_proveHeads_51 (tgt := 59) rfl (fun z => absurd z c24) (fun _ => ?_)
            refine mx_S.ext [(0, .ref l0), (1, .int l1)] (mx_sub_pos [1, 2] rfl (show ([2, 0, 1] : List Nat).Nodup by decide)) ?_
            exact j_X11_proveHeads_54_ok X hF hL nn ih l0 l1 u17.2 hf
set_option maxHeartbeats 4000000 in
set_option maxRecDepth 20000 in
theorem f_X11_proveHeads_ok (X : Nat × (Nat → Int32)) {F L : Nat} (hF : 9 ≤ F) (hL : 214 ≤ L) (nn : Nat) (a0 : Nat) (h : mx_H) {r : (Int32 × mx_H)} (hf : f_X11_proveHeads nn a0 h = some r) : mx_R X F L 307 [.ref a0] h (some (.int r.1), r.2, 0, 0) := by
  have hm : mx_mt 307 = some (yX11_proveHeads, cX11_proveHeads, 3, (some .int)) := mt_X11_proveHeads
  show mx_S X F L 307 0 [(0, .ref a0)] [] h 0 0 (some (.int r.1), r.2, 0, 0)
  unfold f_X11_proveHeads at hf
  refine sx_bi (v := 8) hm dX11_proveHeads_0 (by decide) ?_
  refine mx_S.pu (pc2 := 3) (lv2 := [(1, .int 8), (0, .ref a0)]) (st2 := []) hm dX11_proveHeads_2 rfl ?_
  refine mx_S.ext [(0, .ref a0), (1, .int 8)] (mx_sub_pos [1, 0] rfl (show ([1, 0] : List Nat).Nodup by decide)) ?_
  exact w_X11_proveHeads_3_ok X hF hL nn nn a0 8 h _ hf
set_option maxHeartbeats 4000000 in
set_option maxRecDepth 20000 in
theorem f_X11_info_ok (X : Nat × (Nat → Int32)) {F L : Nat} (hF : 1 ≤ F) (hL : 23 ≤ L) (nn : Nat) (a0 : Nat) (a1 : Int32) (h : mx_H) {r : (Int32 × mx_H)} (hf : f_X11_info nn a0 a1 h = some r) : mx_R X F L 317 [.ref a0, .int a1] h (some (.int r.1), r.2, 0, 0) := by
  have hm : mx_mt 317 = some (yX11_info, cX11_info, 2, (some .int)) := mt_X11_info
  show mx_S X F L 317 0 [(0, .ref a0), (1, .int a1)] [] h 0 0 (some (.int r.1), r.2, 0, 0)
  unfold f_X11_info at hf
  refine mx_S.pu (pc2 := 1) (lv2 := [(0, .ref a0), (1, .int a1)]) (st2 := [.ref a0]) hm dX11_info_0 rfl ?_
  replace hf := mx_sv_el hf; obtain ⟨v1, e_v1, hf⟩ := hf
  refine sx_get hm dX11_info_1 rs_RX11_62 (xgr_el e_v1) ?_
  clear e_v1
  refine mx_S.pu (pc2 := 5) (lv2 := [(0, .ref a0), (1, .int a1)]) (st2 := [.ref a0, .ref v1]) hm dX11_info_4 rfl ?_
  replace hf := mx_sv_el hf; obtain ⟨v2, e_v2, hf⟩ := hf
  refine sx_get hm dX11_info_5 rs_RX11_103 (xgi_el e_v2) ?_
  clear e_v2
  refine mx_S.pu (pc2 := 9) (lv2 := [(0, .ref a0), (1, .int a1)]) (st2 := [.int a1, .int v2, .ref v1]) hm dX11_info_8 rfl ?_
  replace hf := mx_gd_el hf; obtain ⟨c3, hf⟩ := hf
  replace hf := mx_sv_el hf; obtain ⟨u4, e_u4, hf⟩ := hf
  refine sx_cv hm dX11_info_9 rs_RX11_146 mt_X3_of [.int v2, .int a1] [] (b := v1) (ci := 3) rfl rfl rfl c3 (Nat.le_of_ble_eq_true rfl) (Nat.le_of_ble_eq_true rfl) (by omega) (by omega) (f_X3_of_ok X (by omega) (by omega) nn v1 v2 a1 h e_u4) ?_
  clear e_u4
  show mx_S X F L 317 12 [(0, .ref a0), (1, .int a1)] [.int u4.1] u4.2 0 0 (some (.int r.1), r.2, 0, 0)
  cases hf
  exact sx_ire hm dX11_info_12 rfl rfl
set_option maxHeartbeats 4000000 in
set_option maxRecDepth 20000 in
theorem j_X11_beginState_83_ok (X : Nat × (Nat → Int32)) {F L : Nat} (hF : 8 ≤ F) (hL : 190 ≤ L) (nn : Nat) (l0 : Nat) (l2 : Int32) (l3 : Int32) (h : mx_H) {r : mx_H} (hf : j_X11_beginState_83 nn l0 l2 l3 h = some r) : mx_S X F L 337 83 [(0, .ref l0), (2, .int l2), (3, .int l3)] [] h 0 0 (none, r, 0, 0) := by
  have hm : mx_mt 337 = some (yX11_beginState, cX11_beginState, 4, none) := mt_X11_beginState
  unfold j_X11_beginState_83 at hf
  refine mx_S.pu (pc2 := 84) (lv2 := [(0, .ref l0), (2, .int l2), (3, .int l3)]) (st2 := [.ref l0]) hm dX11_beginState_83 rfl ?_
  replace hf := mx_sv_el hf; obtain ⟨v1, e_v1, hf⟩ := hf
  refine sx_get hm dX11_beginState_84 rs_RX11_33 (xgr_el e_v1) ?_
  clear e_v1
  refine sx_ic (v := 1) hm dX11_beginState_87 (by decide) ?_
  refine mx_S.pu (pc2 := 89) (lv2 := [(0, .ref l0), (2, .int l2), (3, .int l3)]) (st2 := [.ref l0, .int 1, .ref v1]) hm dX11_beginState_88 rfl ?_
  replace hf := mx_sv_el hf; obtain ⟨v2, e_v2, hf⟩ := hf
  refine sx_get hm dX11_beginState_89 rs_RX11_44 (xgr_el e_v2) ?_
  clear e_v2
  refine mx_S.pu (pc2 := 93) (lv2 := [(0, .ref l0), (2, .int l2), (3, .int l3)]) (st2 := [.int l3, .ref v2, .int 1, .ref v1]) hm dX11_beginState_92 rfl ?_
  refine mx_S.pu (pc2 := 94) (lv2 := [(0, .ref l0), (2, .int l2), (3, .int l3)]) (st2 := [.int l2, .int l3, .ref v2, .int 1, .ref v1]) hm dX11_beginState_93 rfl ?_
  replace hf := mx_sv_el hf; obtain ⟨h3, e_h3, hf⟩ := hf
  refine sx_copy hm dX11_beginState_94 rs_RX11_267 e_h3 (by omega) (Nat.le_trans (Nat.le_of_ble_eq_true rfl : _ ≤ 60) (by omega)) ?_
  clear e_h3
  cases hf
  exact sx_ret hm dX11_beginState_97 rfl
set_option maxHeartbeats 4000000 in
set_option maxRecDepth 20000 in
theorem f_X11_beginState_ok (X : Nat × (Nat → Int32)) {F L : Nat} (hF : 8 ≤ F) (hL : 190 ≤ L) (nn : Nat) (a0 : Nat) (a1 : Int32) (h : mx_H) {r : mx_H} (hf : f_X11_beginState nn a0 a1 h = some r) : mx_R X F L 337 [.ref a0, .int a1] h (none, r, 0, 0) := by
  have hm : mx_mt 337 = some (yX11_beginState, cX11_beginState, 4, none) := mt_X11_beginState
  show mx_S X F L 337 0 [(0, .ref a0), (1, .int a1)] [] h 0 0 (none, r, 0, 0)
  unfold f_X11_beginState at hf
  refine mx_S.pu (pc2 := 1) (lv2 := [(0, .ref a0), (1, .int a1)]) (st2 := [.ref a0]) hm dX11_beginState_0 rfl ?_
  refine sx_ic (v := 0) hm dX11_beginState_1 (by decide) ?_
  replace hf := mx_sv_el hf; obtain ⟨h4, e_h4, hf⟩ := hf
  refine sx_put hm dX11_beginState_2 rs_RX11_255 ft_11_18 ⟨rfl, rfl⟩ (fun z => by cases z) e_h4 ?_
  clear e_h4
  refine mx_S.pu (pc2 := 6) (lv2 := [(0, .ref a0), (1, .int a1)]) (st2 := [.ref a0]) hm dX11_beginState_5 rfl ?_
  replace hf := mx_sv_el hf; obtain ⟨v5, e_v5, hf⟩ := hf
  refine sx_get hm dX11_beginState_6 rs_RX11_44 (xgr_el e_v5) ?_
  clear e_v5
  refine sx_si (v := 304) hm dX11_beginState_9 (by decide) ?_
  replace hf := mx_sv_el hf; obtain ⟨u6, e_u6, hf⟩ := hf
  refine sx_cs hm dX11_beginState_12 rs_RX11_258 mt_J7_fill_53178 [.ref v5, .int 304] [] rfl rfl (Nat.le_of_ble_eq_true rfl) (Nat.le_of_ble_eq_true rfl) (by omega) (by omega) (f_J7_fill_53178_ok X (by omega) (by omega) nn v5 304 h4 e_u6) ?_
  clear e_u6
  show mx_S X F L 337 15 [(0, .ref a0), (1, .int a1)] [] u6 0 0 (none, r, 0, 0)
  refine mx_S.pu (pc2 := 16) (lv2 := [(0, .ref a0), (1, .int a1)]) (st2 := [.ref a0]) hm dX11_beginState_15 rfl ?_
  refine mx_S.pu (pc2 := 17) (lv2 := [(0, .ref a0), (1, .int a1)]) (st2 := [.ref a0, .ref a0]) hm dX11_beginState_16 rfl ?_
  refine sx_ic (v := 3) hm dX11_beginState_17 (by decide) ?_
  replace hf := mx_gd_el hf; obtain ⟨c7, hf⟩ := hf
  replace hf := mx_sv_el hf; obtain ⟨u8, e_u8, hf⟩ := hf
  refine sx_cv hm dX11_beginState_18 rs_RX11_189 mt_X11_info [.int 3] [.ref a0] (b := a0) (ci := 11) rfl rfl rfl c7 (Nat.le_of_ble_eq_true rfl) (Nat.le_of_ble_eq_true rfl) (by omega) (by omega) (f_X11_info_ok X (by omega) (by omega) nn a0 3 u6 e_u8) ?_
  clear e_u8
  show mx_S X F L 337 21 [(0, .ref a0), (1, .int a1)] [.int u8.1, .ref a0] u8.2 0 0 (none, r, 0, 0)
  refine mx_S.pu (pc2 := 22) (lv2 := [(0, .ref a0), (1, .int a1)]) (st2 := [.ref a0, .int u8.1, .ref a0]) hm dX11_beginState_21 rfl ?_
  replace hf := mx_sv_el hf; obtain ⟨v9, e_v9, hf⟩ := hf
  refine sx_get hm dX11_beginState_22 rs_RX11_47 (xgr_el e_v9) ?_
  clear e_v9
  replace hf := mx_sv_el hf; obtain ⟨v10, e_v10, hf⟩ := hf
  refine sx_len hm dX11_beginState_25 e_v10 ?_
  clear e_v10
  replace hf := xl_el hf; obtain ⟨v11, e_v11, hf⟩ := hf
  refine sx_min hm dX11_beginState_26 rs_RX11_204 (by omega) (Nat.le_trans (Nat.le_of_ble_eq_true rfl : _ ≤ 60) (by omega)) ?_
  rw [e_v11]
  clear e_v11
  replace hf := mx_sv_el hf; obtain ⟨h12, e_h12, hf⟩ := hf
  refine sx_put hm dX11_beginState_29 rs_RX11_261 ft_11_17 ⟨rfl, rfl⟩ (fun z => by cases z) e_h12 ?_
  clear e_h12
  refine mx_S.pu (pc2 := 33) (lv2 := [(0, .ref a0), (1, .int a1)]) (st2 := [.ref a0]) hm dX11_beginState_32 rfl ?_
  replace hf := mx_sv_el hf; obtain ⟨v13, e_v13, hf⟩ := hf
  refine sx_get hm dX11_beginState_33 rs_RX11_50 (xgr_el e_v13) ?_
  clear e_v13
  refine mx_S.pu (pc2 := 37) (lv2 := [(0, .ref a0), (1, .int a1)]) (st2 := [.ref a0, .ref v13]) hm dX11_beginState_36 rfl ?_
  replace hf := mx_sv_el hf; obtain ⟨v14, e_v14, hf⟩ := hf
  refine sx_get hm dX11_beginState_37 rs_RX11_62 (xgr_el e_v14) ?_
  clear e_v14
  refine mx_S.pu (pc2 := 41) (lv2 := [(0, .ref a0), (1, .int a1)]) (st2 := [.ref a0, .ref v14, .ref v13]) hm dX11_beginState_40 rfl ?_
  refine sx_ic (v := 2) hm dX11_beginState_41 (by decide) ?_
  replace hf := mx_gd_el hf; obtain ⟨c15, hf⟩ := hf
  replace hf := mx_sv_el hf; obtain ⟨u16, e_u16, hf⟩ := hf
  refine sx_cv hm dX11_beginState_42 rs_RX11_189 mt_X11_info [.int 2] [.ref v14, .ref v13] (b := a0) (ci := 11) rfl rfl rfl c15 (Nat.le_of_ble_eq_true rfl) (Nat.le_of_ble_eq_true rfl) (by omega) (by omega) (f_X11_info_ok X (by omega) (by omega) nn a0 2 h12 e_u16) ?_
  clear e_u16
  show mx_S X F L 337 45 [(0, .ref a0), (1, .int a1)] [.int u16.1, .ref v14, .ref v13] u16.2 0 0 (none, r, 0, 0)
  refine mx_S.pu (pc2 := 46) (lv2 := [(0, .ref a0), (1, .int a1)]) (st2 := [.ref a0, .int u16.1, .ref v14, .ref v13]) hm dX11_beginState_45 rfl ?_
  replace hf := mx_sv_el hf; obtain ⟨v17, e_v17, hf⟩ := hf
  refine sx_get hm dX11_beginState_46 rs_RX11_33 (xgr_el e_v17) ?_
  clear e_v17
  refine sx_ic (v := 0) hm dX11_beginState_49 (by decide) ?_
  replace hf := mx_gd_el hf; obtain ⟨c18, hf⟩ := hf
  replace hf := mx_sv_el hf; obtain ⟨u19, e_u19, hf⟩ := hf
  refine sx_cv hm dX11_beginState_50 rs_RX11_142 mt_X7_readKind [.ref v14, .int u16.1, .ref v17, .int 0] [] (b := v13) (ci := 7) rfl rfl rfl c18 (Nat.le_of_ble_eq_true rfl) (Nat.le_of_ble_eq_true rfl) (by omega) (by omega) (f_X7_readKind_ok X (by omega) (by omega) nn v13 v14 u16.1 v17 0 u16.2 e_u19) ?_
  clear e_u19
  show mx_S X F L 337 53 [(0, .ref a0), (1, .int a1)] [.int u19.1] u19.2 0 0 (none, r, 0, 0)
  refine mx_S.pu (pc2 := 54) (lv2 := [(2, .int u19.1), (0, .ref a0), (1, .int a1)]) (st2 := []) hm dX11_beginState_53 rfl ?_
  refine mx_S.pu (pc2 := 55) (lv2 := [(2, .int u19.1), (0, .ref a0), (1, .int a1)]) (st2 := [.ref a0]) hm dX11_beginState_54 rfl ?_
  refine mx_S.pu (pc2 := 56) (lv2 := [(2, .int u19.1), (0, .ref a0), (1, .int a1)]) (st2 := [.ref a0, .ref a0]) hm dX11_beginState_55 rfl ?_
  replace hf := mx_sv_el hf; obtain ⟨v20, e_v20, hf⟩ := hf
  refine sx_get hm dX11_beginState_56 rs_RX11_33 (xgr_el e_v20) ?_
  clear e_v20
  refine sx_ic (v := 0) hm dX11_beginState_59 (by decide) ?_
  replace hf := mx_sv_el hf; obtain ⟨v21, e_v21, hf⟩ := hf
  refine sx_ald hm dX11_beginState_60 e_v21 ?_
  clear e_v21
  replace hf := mx_sv_el hf; obtain ⟨h22, e_h22, hf⟩ := hf
  refine sx_put hm dX11_beginState_61 rs_RX11_264 ft_11_20 ⟨rfl, rfl⟩ (fun z => by cases z) e_h22 ?_
  clear e_h22
  refine sx_ic (v := 0) hm dX11_beginState_64 (by decide) ?_
  refine mx_S.pu (pc2 := 66) (lv2 := [(3, .int 0), (2, .int u19.1), (0, .ref a0), (1, .int a1)]) (st2 := []) hm dX11_beginState_65 rfl ?_
  refine mx_S.pu (pc2 := 67) (lv2 := [(3, .int 0), (2, .int u19.1), (0, .ref a0), (1, .int a1)]) (st2 := [.ref a0]) hm dX11_beginState_66 rfl ?_
  refine sx_ic (v := 0) hm dX11_beginState_67 (by decide) ?_
  replace hf := mx_gd_el hf; obtain ⟨c23, hf⟩ := hf
  replace hf := mx_sv_el hf; obtain ⟨u24, e_u24, hf⟩ := hf
  refine sx_cv hm dX11_beginState_68 rs_RX11_189 mt_X11_info [.int 0] [] (b := a0) (ci := 11) rfl rfl rfl c23 (Nat.le_of_ble_eq_true rfl) (Nat.le_of_ble_eq_true rfl) (by omega) (by omega) (f_X11_info_ok X (by omega) (by omega) nn a0 0 h22 e_u24) ?_
  clear e_u24
  show mx_S X F L 337 71 [(3, .int 0), (2, .int u19.1), (0, .ref a0), (1, .int a1)] [.int u24.1] u24.2 0 0 (none, r, 0, 0)
  rcases mx_if_el hf with ⟨c27, hf⟩ | ⟨c27, hf⟩
  · refine sb_if_ne hm dX11_beginState_71 (tgt := 83) rfl (fun _ => ?_) (fun z => absurd c27 z)
    refine mx_S.ext [(0, .ref a0), (2, .int u19.1), (3, .int 0)] (mx_sub_pos [2, 1, 0] rfl (show ([3, 2, 0, 1] : List Nat).Nodup by decide)) ?_
    exact j_X11_beginState_83_ok X hF hL nn a0 u19.1 0 u24.2 hf
  · refine sb_if_ne hm dX11_beginState_71 (tgt := 83) rfl (fun z => absurd z c27) (fun _ => ?_)
    refine mx_S.pu (pc2 := 75) (lv2 := [(3, .int 0), (2, .int u19.1), (0, .ref a0), (1, .int a1)]) (st2 := [.ref a0]) hm dX11_beginState_74 rfl ?_
    replace hf := mx_sv_el hf; obtain ⟨v25, e_v25, hf⟩ := hf
    refine sx_get hm dX11_beginState_75 rs_RX11_44 (xgr_el e_v25) ?_
    clear e_v25
    refine sx_ic (v := 0) hm dX11_beginState_78 (by decide) ?_
    refine mx_S.pu (pc2 := 80) (lv2 := [(3, .int 0), (2, .int u19.1), (0, .ref a0), (1, .int a1)]) (st2 := [.int a1, .int 0, .ref v25]) hm dX11_beginState_79 rfl ?_
    replace hf := mx_sv_el hf; obtain ⟨h26, e_h26, hf⟩ := hf
    refine sx_ast hm dX11_beginState_80 e_h26 ?_
    clear e_h26
    refine sx_ic (v := 1) hm dX11_beginState_81 (by decide) ?_
    refine mx_S.pu (pc2 := 83) (lv2 := [(3, .int 1), (2, .int u19.1), (0, .ref a0), (1, .int a1)]) (st2 := []) hm dX11_beginState_82 rfl ?_
    refine mx_S.ext [(0, .ref a0), (2, .int u19.1), (3, .int 1)] (mx_sub_pos [2, 1, 0] rfl (show ([3, 2, 0, 1] : List Nat).Nodup by decide)) ?_
    exact j_X11_beginState_83_ok X hF hL nn a0 u19.1 1 h26 hf
set_option maxHeartbeats 4000000 in
set_option maxRecDepth 20000 in
theorem j_X11_areThere_41_ok (X : Nat × (Nat → Int32)) {F L : Nat} (hF : 0 ≤ F) (hL : 0 ≤ L) (nn : Nat) {kk_5 : Nat → Int32 → Int32 → Int32 → Int32 → mx_H → Option (Int32 × mx_H)} (hk_5 : ∀ (l0 : Nat) (l1 : Int32) (l2 : Int32) (l3 : Int32) (l4 : Int32) (h : mx_H) (r : (Int32 × mx_H)), kk_5 l0 l1 l2 l3 l4 h = some r → mx_S X F L 336 5 [(0, .ref l0), (1, .int l1), (2, .int l2), (3, .int l3), (4, .int l4)] [] h 0 0 (some (.int r.1), r.2, 0, 0)) (l0 : Nat) (l1 : Int32) (l2 : Int32) (l4 : Int32) (h : mx_H) {r : (Int32 × mx_H)} (hf : j_X11_areThere_41 nn kk_5 l0 l1 l2 l4 h = some r) : mx_S X F L 336 41 [(0, .ref l0), (1, .int l1), (2, .int l2), (4, .int l4)] [] h 0 0 (some (.int r.1), r.2, 0, 0) := by
  have hm : mx_mt 336 = some (yX11_areThere, cX11_areThere, 5, (some .boolean)) := mt_X11_areThere
  unfold j_X11_areThere_41 at hf
  refine sx_ic (v := 0) hm dX11_areThere_41 (by decide) ?_
  refine mx_S.pu (pc2 := 43) (lv2 := [(3, .int 0), (0, .ref l0), (1, .int l1), (2, .int l2), (4, .int l4)]) (st2 := []) hm dX11_areThere_42 rfl ?_
  replace hf := xl_el hf; obtain ⟨v1, e_v1, hf⟩ := hf
  refine mx_S.pu (pc2 := 46) (lv2 := [(4, .int v1), (3, .int 0), (0, .ref l0), (1, .int l1), (2, .int l2)]) (st2 := []) hm dX11_areThere_43 (by rw [← e_v1]; rfl) ?_
  clear e_v1
  refine mx_S.pu (pc2 := 5) (lv2 := [(4, .int v1), (3, .int 0), (0, .ref l0), (1, .int l1), (2, .int l2)]) (st2 := []) hm dX11_areThere_46 rfl ?_
  refine mx_S.ext [(0, .ref l0), (1, .int l1), (2, .int l2), (3, .int 0), (4, .int v1)] (mx_sub_pos [2, 3, 4, 1, 0] rfl (show ([4, 3, 0, 1, 2] : List Nat).Nodup by decide)) ?_
  exact hk_5 l0 l1 l2 0 v1 h _ hf
set_option maxHeartbeats 4000000 in
set_option maxRecDepth 20000 in
theorem w_X11_areThere_5_ok (X : Nat × (Nat → Int32)) {F L : Nat} (hF : 0 ≤ F) (hL : 0 ≤ L) (nn : Nat) : ∀ (k : Nat) (l0 : Nat) (l1 : Int32) (l2 : Int32) (l3 : Int32) (l4 : Int32) (h : mx_H) (r : (Int32 × mx_H)), w_X11_areThere_5 nn k l0 l1 l2 l3 l4 h = some r → mx_S X F L 336 5 [(0, .ref l0), (1, .int l1), (2, .int l2), (3, .int l3), (4, .int l4)] [] h 0 0 (some (.int r.1), r.2, 0, 0) := by
  have hm : mx_mt 336 = some (yX11_areThere, cX11_areThere, 5, (some .boolean)) := mt_X11_areThere
  intro k
  induction k with
  | zero => intro l0 l1 l2 l3 l4 h r hf; cases hf
  | succ k ih =>
    intro l0 l1 l2 l3 l4 h r hf
    unfold w_X11_areThere_5 at hf
    refine mx_S.pu (pc2 := 7) (lv2 := [(0, .ref l0), (1, .int l1), (2, .int l2), (3, .int l3), (4, .int l4)]) (st2 := [.int l4]) hm dX11_areThere_5 rfl ?_
    refine mx_S.pu (pc2 := 8) (lv2 := [(0, .ref l0), (1, .int l1), (2, .int l2), (3, .int l3), (4, .int l4)]) (st2 := [.int l1, .int l4]) hm dX11_areThere_7 rfl ?_
    refine mx_S.pu (pc2 := 9) (lv2 := [(0, .ref l0), (1, .int l1), (2, .int l2), (3, .int l3), (4, .int l4)]) (st2 := [.int l2, .int l1, .int l4]) hm dX11_areThere_8 rfl ?_
    replace hf := xl_el hf; obtain ⟨v2, e_v2, hf⟩ := hf
    refine mx_S.pu (pc2 := 10) (lv2 := [(0, .ref l0), (1, .int l1), (2, .int l2), (3, .int l3), (4, .int l4)]) (st2 := [.int v2, .int l4]) hm dX11_areThere_9 (by rw [← e_v2]; rfl) ?_
    clear e_v2
    rcases mx_if_el hf with ⟨c12, hf⟩ | ⟨c12, hf⟩
    · refine sb_ic_ge hm dX11_areThere_10 (tgt := 49) rfl (fun _ => ?_) (fun z => absurd c12 z)
      refine mx_S.pu (pc2 := 50) (lv2 := [(0, .ref l0), (1, .int l1), (2, .int l2), (3, .int l3), (4, .int l4)]) (st2 := [.int l3]) hm dX11_areThere_49 rfl ?_
      replace hf := mx_gd_el hf; obtain ⟨c3, hf⟩ := hf
      cases hf
      exact sx_ire hm dX11_areThere_50 rfl (xbq_ok c3).1
    · refine sb_ic_ge hm dX11_areThere_10 (tgt := 49) rfl (fun z => absurd z c12) (fun _ => ?_)
      refine mx_S.pu (pc2 := 15) (lv2 := [(0, .ref l0), (1, .int l1), (2, .int l2), (3, .int l3), (4, .int l4)]) (st2 := [.int l4]) hm dX11_areThere_13 rfl ?_
      refine mx_S.pu (pc2 := 16) (lv2 := [(0, .ref l0), (1, .int l1), (2, .int l2), (3, .int l3), (4, .int l4)]) (st2 := [.int l1, .int l4]) hm dX11_areThere_15 rfl ?_
      refine sx_bi (v := 30) hm dX11_areThere_16 (by decide) ?_
      replace hf := xl_el hf; obtain ⟨v4, e_v4, hf⟩ := hf
      refine mx_S.pu (pc2 := 19) (lv2 := [(0, .ref l0), (1, .int l1), (2, .int l2), (3, .int l3), (4, .int l4)]) (st2 := [.int v4, .int l4]) hm dX11_areThere_18 (by rw [← e_v4]; rfl) ?_
      clear e_v4
      rcases mx_if_el hf with ⟨c11, hf⟩ | ⟨c11, hf⟩
      · refine sb_ic_ge hm dX11_areThere_19 (tgt := 49) rfl (fun _ => ?_) (fun z => absurd c11 z)
        refine mx_S.pu (pc2 := 50) (lv2 := [(0, .ref l0), (1, .int l1), (2, .int l2), (3, .int l3), (4, .int l4)]) (st2 := [.int l3]) hm dX11_areThere_49 rfl ?_
        replace hf := mx_gd_el hf; obtain ⟨c5, hf⟩ := hf
        cases hf
        exact sx_ire hm dX11_areThere_50 rfl (xbq_ok c5).1
      · refine sb_ic_ge hm dX11_areThere_19 (tgt := 49) rfl (fun z => absurd z c11) (fun _ => ?_)
        refine mx_S.pu (pc2 := 23) (lv2 := [(0, .ref l0), (1, .int l1), (2, .int l2), (3, .int l3), (4, .int l4)]) (st2 := [.int l3]) hm dX11_areThere_22 rfl ?_
        rcases mx_if_el hf with ⟨c10, hf⟩ | ⟨c10, hf⟩
        · refine sb_if_eq hm dX11_areThere_23 (tgt := 41) rfl (fun _ => ?_) (fun z => absurd c10 z)
          refine mx_S.ext [(0, .ref l0), (1, .int l1), (2, .int l2), (4, .int l4)] (mx_sub_pos [0, 1, 2, 4] rfl (show ([0, 1, 2, 3, 4] : List Nat).Nodup by decide)) ?_
          exact j_X11_areThere_41_ok X hF hL nn ih l0 l1 l2 l4 h hf
        · refine sb_if_eq hm dX11_areThere_23 (tgt := 41) rfl (fun z => absurd z c10) (fun _ => ?_)
          refine mx_S.pu (pc2 := 27) (lv2 := [(0, .ref l0), (1, .int l1), (2, .int l2), (3, .int l3), (4, .int l4)]) (st2 := [.ref l0]) hm dX11_areThere_26 rfl ?_
          replace hf := mx_sv_el hf; obtain ⟨v6, e_v6, hf⟩ := hf
          refine sx_get hm dX11_areThere_27 rs_RX11_41 (xgr_el e_v6) ?_
          clear e_v6
          refine mx_S.pu (pc2 := 32) (lv2 := [(0, .ref l0), (1, .int l1), (2, .int l2), (3, .int l3), (4, .int l4)]) (st2 := [.int l4, .ref v6]) hm dX11_areThere_30 rfl ?_
          replace hf := mx_sv_el hf; obtain ⟨v7, e_v7, hf⟩ := hf
          refine sx_ald hm dX11_areThere_32 e_v7 ?_
          clear e_v7
          refine sx_ic (v := (-1)) hm dX11_areThere_33 (by decide) ?_
          rcases mx_if_el hf with ⟨c9, hf⟩ | ⟨c9, hf⟩
          · refine sb_ic_eq hm dX11_areThere_34 (tgt := 41) rfl (fun _ => ?_) (fun z => absurd c9 z)
            refine mx_S.ext [(0, .ref l0), (1, .int l1), (2, .int l2), (4, .int l4)] (mx_sub_pos [0, 1, 2, 4] rfl (show ([0, 1, 2, 3, 4] : List Nat).Nodup by decide)) ?_
            exact j_X11_areThere_41_ok X hF hL nn ih l0 l1 l2 l4 h hf
          · refine sb_ic_eq hm dX11_areThere_34 (tgt := 41) rfl (fun z => absurd z c9) (fun _ => ?_)
            refine sx_ic (v := 1) hm dX11_areThere_37 (by decide) ?_
            refine mx_S.pu (pc2 := 42) (lv2 := [(0, .ref l0), (1, .int l1), (2, .int l2), (3, .int l3), (4, .int l4)]) (st2 := [.int 1]) hm dX11_areThere_38 rfl ?_
            refine mx_S.pu (pc2 := 43) (lv2 := [(3, .int 1), (0, .ref l0), (1, .int l1), (2, .int l2), (4, .int l4)]) (st2 := []) hm dX11_areThere_42 rfl ?_
            replace hf := xl_el hf; obtain ⟨v8, e_v8, hf⟩ := hf
            refine mx_S.pu (pc2 := 46) (lv2 := [(4, .int v8), (3, .int 1), (0, .ref l0), (1, .int l1), (2, .int l2)]) (st2 := []) hm dX11_areThere_43 (by rw [← e_v8]; rfl) ?_
            clear e_v8
            refine mx_S.pu (pc2 := 5) (lv2 := [(4, .int v8), (3, .int 1), (0, .ref l0), (1, .int l1), (2, .int l2)]) (st2 := []) hm dX11_areThere_46 rfl ?_
            refine mx_S.ext [(0, .ref l0), (1, .int l1), (2, .int l2), (3, .int 1), (4, .int v8)] (mx_sub_pos [2, 3, 4, 1, 0] rfl (show ([4, 3, 0, 1, 2] : List Nat).Nodup by decide)) ?_
            exact ih l0 l1 l2 1 v8 h _ hf
set_option maxHeartbeats 4000000 in
set_option maxRecDepth 20000 in
theorem f_X11_areThere_ok (X : Nat × (Nat → Int32)) {F L : Nat} (hF : 0 ≤ F) (hL : 0 ≤ L) (nn : Nat) (a0 : Nat) (a1 : Int32) (a2 : Int32) (h : mx_H) {r : (Int32 × mx_H)} (hf : f_X11_areThere nn a0 a1 a2 h = some r) : mx_R X F L 336 [.ref a0, .int a1, .int a2] h (some (.int r.1), r.2, 0, 0) := by
  have hm : mx_mt 336 = some (yX11_areThere, cX11_areThere, 5, (some .boolean)) := mt_X11_areThere
  show mx_S X F L 336 0 [(0, .ref a0), (1, .int a1), (2, .int a2)] [] h 0 0 (some (.int r.1), r.2, 0, 0)
  unfold f_X11_areThere at hf
  refine sx_ic (v := 1) hm dX11_areThere_0 (by decide) ?_
  refine mx_S.pu (pc2 := 2) (lv2 := [(3, .int 1), (0, .ref a0), (1, .int a1), (2, .int a2)]) (st2 := []) hm dX11_areThere_1 rfl ?_
  refine mx_S.pu (pc2 := 3) (lv2 := [(3, .int 1), (0, .ref a0), (1, .int a1), (2, .int a2)]) (st2 := [.int a1]) hm dX11_areThere_2 rfl ?_
  refine mx_S.pu (pc2 := 5) (lv2 := [(4, .int a1), (3, .int 1), (0, .ref a0), (1, .int a1), (2, .int a2)]) (st2 := []) hm dX11_areThere_3 rfl ?_
  refine mx_S.ext [(0, .ref a0), (1, .int a1), (2, .int a2), (3, .int 1), (4, .int a1)] (mx_sub_pos [2, 3, 4, 1, 0] rfl (show ([4, 3, 0, 1, 2] : List Nat).Nodup by decide)) ?_
  exact w_X11_areThere_5_ok X hF hL nn nn a0 a1 a2 1 a1 h _ hf
set_option maxHeartbeats 4000000 in
set_option maxRecDepth 20000 in
theorem f_X11_at_ok (X : Nat × (Nat → Int32)) {F L : Nat} (hF : 0 ≤ F) (hL : 0 ≤ L) (nn : Nat) (a0 : Nat) (a1 : Int32) (a2 : Int32) (h : mx_H) {r : (Int32 × mx_H)} (hf : f_X11_at nn a0 a1 a2 h = some r) : mx_R X F L 310 [.ref a0, .int a1, .int a2] h (some (.int r.1), r.2, 0, 0) := by
  have hm : mx_mt 310 = some (yX11_at, cX11_at, 3, (some .int)) := mt_X11_at
  show mx_S X F L 310 0 [(0, .ref a0), (1, .int a1), (2, .int a2)] [] h 0 0 (some (.int r.1), r.2, 0, 0)
  unfold f_X11_at at hf
  refine mx_S.pu (pc2 := 1) (lv2 := [(0, .ref a0), (1, .int a1), (2, .int a2)]) (st2 := [.ref a0]) hm dX11_at_0 rfl ?_
  refine mx_S.pu (pc2 := 2) (lv2 := [(0, .ref a0), (1, .int a1), (2, .int a2)]) (st2 := [.int a2, .ref a0]) hm dX11_at_1 rfl ?_
  replace hf := mx_sv_el hf; obtain ⟨h1, e_h1, hf⟩ := hf
  refine sx_put hm dX11_at_2 rs_RX11_129 ft_11_7 ⟨rfl, rfl⟩ (fun z => by cases z) e_h1 ?_
  clear e_h1
  refine mx_S.pu (pc2 := 6) (lv2 := [(0, .ref a0), (1, .int a1), (2, .int a2)]) (st2 := [.int a1]) hm dX11_at_5 rfl ?_
  cases hf
  exact sx_ire hm dX11_at_6 rfl rfl
set_option maxHeartbeats 4000000 in
set_option maxRecDepth 20000 in
theorem f_X11_begins_ok (X : Nat × (Nat → Int32)) {F L : Nat} (hF : 0 ≤ F) (hL : 0 ≤ L) (nn : Nat) (a0 : Nat) (a1 : Int32) (h : mx_H) {r : (Int32 × mx_H)} (hf : f_X11_begins nn a0 a1 h = some r) : mx_R X F L 326 [.ref a0, .int a1] h (some (.int r.1), r.2, 0, 0) := by
  have hm : mx_mt 326 = some (yX11_begins, cX11_begins, 2, (some .boolean)) := mt_X11_begins
  show mx_S X F L 326 0 [(0, .ref a0), (1, .int a1)] [] h 0 0 (some (.int r.1), r.2, 0, 0)
  unfold f_X11_begins at hf
  refine mx_S.pu (pc2 := 1) (lv2 := [(0, .ref a0), (1, .int a1)]) (st2 := [.int a1]) hm dX11_begins_0 rfl ?_
  rcases mx_if_el hf with ⟨c6, hf⟩ | ⟨c6, hf⟩
  · refine sb_if_lt hm dX11_begins_1 (tgt := 27) rfl (fun _ => ?_) (fun z => absurd c6 z)
    refine sx_ic (v := 0) hm dX11_begins_27 (by decide) ?_
    cases hf
    exact sx_ire hm dX11_begins_28 rfl (by decide)
  · refine sb_if_lt hm dX11_begins_1 (tgt := 27) rfl (fun z => absurd z c6) (fun _ => ?_)
    refine mx_S.pu (pc2 := 5) (lv2 := [(0, .ref a0), (1, .int a1)]) (st2 := [.int a1]) hm dX11_begins_4 rfl ?_
    refine mx_S.pu (pc2 := 6) (lv2 := [(0, .ref a0), (1, .int a1)]) (st2 := [.ref a0, .int a1]) hm dX11_begins_5 rfl ?_
    replace hf := mx_sv_el hf; obtain ⟨v1, e_v1, hf⟩ := hf
    refine sx_get hm dX11_begins_6 rs_RX11_209 (xgi_el e_v1) ?_
    clear e_v1
    rcases mx_if_el hf with ⟨c5, hf⟩ | ⟨c5, hf⟩
    · refine sb_ic_ge hm dX11_begins_9 (tgt := 27) rfl (fun _ => ?_) (fun z => absurd c5 z)
      refine sx_ic (v := 0) hm dX11_begins_27 (by decide) ?_
      cases hf
      exact sx_ire hm dX11_begins_28 rfl (by decide)
    · refine sb_ic_ge hm dX11_begins_9 (tgt := 27) rfl (fun z => absurd z c5) (fun _ => ?_)
      refine mx_S.pu (pc2 := 13) (lv2 := [(0, .ref a0), (1, .int a1)]) (st2 := [.ref a0]) hm dX11_begins_12 rfl ?_
      replace hf := mx_sv_el hf; obtain ⟨v2, e_v2, hf⟩ := hf
      refine sx_get hm dX11_begins_13 rs_RX11_38 (xgr_el e_v2) ?_
      clear e_v2
      refine mx_S.pu (pc2 := 17) (lv2 := [(0, .ref a0), (1, .int a1)]) (st2 := [.int a1, .ref v2]) hm dX11_begins_16 rfl ?_
      replace hf := mx_sv_el hf; obtain ⟨v3, e_v3, hf⟩ := hf
      refine sx_ald hm dX11_begins_17 e_v3 ?_
      clear e_v3
      refine sx_bi (v := (-2)) hm dX11_begins_18 (by decide) ?_
      rcases mx_if_el hf with ⟨c4, hf⟩ | ⟨c4, hf⟩
      · refine sb_ic_eq hm dX11_begins_20 (tgt := 27) rfl (fun _ => ?_) (fun z => absurd c4 z)
        refine sx_ic (v := 0) hm dX11_begins_27 (by decide) ?_
        cases hf
        exact sx_ire hm dX11_begins_28 rfl (by decide)
      · refine sb_ic_eq hm dX11_begins_20 (tgt := 27) rfl (fun z => absurd z c4) (fun _ => ?_)
        refine sx_ic (v := 1) hm dX11_begins_23 (by decide) ?_
        refine mx_S.pu (pc2 := 28) (lv2 := [(0, .ref a0), (1, .int a1)]) (st2 := [.int 1]) hm dX11_begins_24 rfl ?_
        cases hf
        exact sx_ire hm dX11_begins_28 rfl (by decide)
