set_option maxHeartbeats 4000000 in
set_option maxRecDepth 20000 in
theorem j_X11_wantArray_41_ok (X : Nat × (Nat → Int32)) {F L : Nat} (hF : 1 ≤ F) (hL : 20 ≤ L) (nn : Nat) (l0 : Nat) (l3 : Int32) (h : mx_H) {r : (Int32 × mx_H)} (hf : j_X11_wantArray_41 nn l0 l3 h = some r) : mx_S X F L 350 41 [(0, .ref l0), (3, .int l3)] [] h 0 0 (some (.int r.1), r.2, 0, 0) := by
  have hm : mx_mt 350 = some (yX11_wantArray, cX11_wantArray, 5, (some .int)) := mt_X11_wantArray
  unfold j_X11_wantArray_41 at hf
  refine sx_ic (v := 0) hm dX11_wantArray_41 (by decide) ?_
  exact j_X11_wantArray_42_ok X hF hL nn l0 l3 0 h hf
set_option maxHeartbeats 4000000 in
set_option maxRecDepth 20000 in
theorem j_X11_wantArray_37_ok (X : Nat × (Nat → Int32)) {F L : Nat} (hF : 1 ≤ F) (hL : 20 ≤ L) (nn : Nat) (l0 : Nat) (l3 : Int32) (h : mx_H) {r : (Int32 × mx_H)} (hf : j_X11_wantArray_37 nn l0 l3 h = some r) : mx_S X F L 350 37 [(0, .ref l0), (3, .int l3)] [] h 0 0 (some (.int r.1), r.2, 0, 0) := by
  have hm : mx_mt 350 = some (yX11_wantArray, cX11_wantArray, 5, (some .int)) := mt_X11_wantArray
  unfold j_X11_wantArray_37 at hf
  refine sx_ic (v := 1) hm dX11_wantArray_37 (by decide) ?_
  refine mx_S.pu (pc2 := 42) (lv2 := [(0, .ref l0), (3, .int l3)]) (st2 := [.int 1]) hm dX11_wantArray_38 rfl ?_
  exact j_X11_wantArray_42_ok X hF hL nn l0 l3 1 h hf
set_option maxHeartbeats 4000000 in
set_option maxRecDepth 20000 in
theorem f_X11_wantArray_ok (X : Nat × (Nat → Int32)) {F L : Nat} (hF : 1 ≤ F) (hL : 20 ≤ L) (nn : Nat) (a0 : Nat) (a1 : Int32) (a2 : Int32) (h : mx_H) {r : (Int32 × mx_H)} (hf : f_X11_wantArray nn a0 a1 a2 h = some r) : mx_R X F L 350 [.ref a0, .int a1, .int a2] h (some (.int r.1), r.2, 0, 0) := by
  have hm : mx_mt 350 = some (yX11_wantArray, cX11_wantArray, 5, (some .int)) := mt_X11_wantArray
  show mx_S X F L 350 0 [(0, .ref a0), (1, .int a1), (2, .int a2)] [] h 0 0 (some (.int r.1), r.2, 0, 0)
  unfold f_X11_wantArray at hf
  refine mx_S.pu (pc2 := 1) (lv2 := [(0, .ref a0), (1, .int a1), (2, .int a2)]) (st2 := [.ref a0]) hm dX11_wantArray_0 rfl ?_
  replace hf := mx_gd_el hf; obtain ⟨c6, hf⟩ := hf
  replace hf := mx_sv_el hf; obtain ⟨u7, e_u7, hf⟩ := hf
  refine sx_cv hm dX11_wantArray_1 rs_RX11_313 mt_X11_pop [] [] (b := a0) (ci := 11) rfl rfl rfl c6 (Nat.le_of_ble_eq_true rfl) (Nat.le_of_ble_eq_true rfl) (by omega) (by omega) (f_X11_pop_ok X (by omega) (by omega) nn a0 h e_u7) ?_
  clear e_u7
  show mx_S X F L 350 4 [(0, .ref a0), (1, .int a1), (2, .int a2)] [.int u7.1] u7.2 0 0 (some (.int r.1), r.2, 0, 0)
  refine mx_S.pu (pc2 := 5) (lv2 := [(3, .int u7.1), (0, .ref a0), (1, .int a1), (2, .int a2)]) (st2 := []) hm dX11_wantArray_4 rfl ?_
  refine mx_S.pu (pc2 := 6) (lv2 := [(3, .int u7.1), (0, .ref a0), (1, .int a1), (2, .int a2)]) (st2 := [.int u7.1]) hm dX11_wantArray_5 rfl ?_
  refine sx_si (v := 300) hm dX11_wantArray_6 (by decide) ?_
  rcases mx_if_el hf with ⟨c13, hf⟩ | ⟨c13, hf⟩
  · refine sb_ic_eq hm dX11_wantArray_9 (tgt := 37) rfl (fun _ => ?_) (fun z => absurd c13 z)
    refine mx_S.ext [(0, .ref a0), (3, .int u7.1)] (mx_sub_pos [1, 0] rfl (show ([3, 0, 1, 2] : List Nat).Nodup by decide)) ?_
    exact j_X11_wantArray_37_ok X hF hL nn a0 u7.1 u7.2 hf
  · refine sb_ic_eq hm dX11_wantArray_9 (tgt := 37) rfl (fun z => absurd z c13) (fun _ => ?_)
    refine mx_S.pu (pc2 := 13) (lv2 := [(3, .int u7.1), (0, .ref a0), (1, .int a1), (2, .int a2)]) (st2 := [.int u7.1]) hm dX11_wantArray_12 rfl ?_
    refine sx_si (v := 200) hm dX11_wantArray_13 (by decide) ?_
    rcases mx_if_el hf with ⟨c12, hf⟩ | ⟨c12, hf⟩
    · refine sb_ic_ne hm dX11_wantArray_16 (tgt := 26) rfl (fun _ => ?_) (fun z => absurd c12 z)
      refine mx_S.pu (pc2 := 27) (lv2 := [(3, .int u7.1), (0, .ref a0), (1, .int a1), (2, .int a2)]) (st2 := [.int a2]) hm dX11_wantArray_26 rfl ?_
      rcases mx_if_el hf with ⟨c10, hf⟩ | ⟨c10, hf⟩
      · refine sb_if_eq hm dX11_wantArray_27 (tgt := 41) rfl (fun _ => ?_) (fun z => absurd c10 z)
        refine mx_S.ext [(0, .ref a0), (3, .int u7.1)] (mx_sub_pos [1, 0] rfl (show ([3, 0, 1, 2] : List Nat).Nodup by decide)) ?_
        exact j_X11_wantArray_41_ok X hF hL nn a0 u7.1 u7.2 hf
      · refine sb_if_eq hm dX11_wantArray_27 (tgt := 41) rfl (fun z => absurd z c10) (fun _ => ?_)
        refine mx_S.pu (pc2 := 31) (lv2 := [(3, .int u7.1), (0, .ref a0), (1, .int a1), (2, .int a2)]) (st2 := [.int u7.1]) hm dX11_wantArray_30 rfl ?_
        replace hf := mx_sv_el hf; obtain ⟨u8, e_u8, hf⟩ := hf
        refine sx_cs hm dX11_wantArray_31 rs_RX11_319 mt_X4_isArray [.int u7.1] [] rfl rfl (Nat.le_of_ble_eq_true rfl) (Nat.le_of_ble_eq_true rfl) (by omega) (by omega) (f_X4_isArray_ok X (by omega) (by omega) nn u7.1 u7.2 e_u8) ?_
        clear e_u8
        show mx_S X F L 350 34 [(3, .int u7.1), (0, .ref a0), (1, .int a1), (2, .int a2)] [.int u8.1] u8.2 0 0 (some (.int r.1), r.2, 0, 0)
        rcases mx_if_el hf with ⟨c9, hf⟩ | ⟨c9, hf⟩
        · refine sb_if_eq hm dX11_wantArray_34 (tgt := 41) rfl (fun _ => ?_) (fun z => absurd c9 z)
          refine mx_S.ext [(0, .ref a0), (3, .int u7.1)] (mx_sub_pos [1, 0] rfl (show ([3, 0, 1, 2] : List Nat).Nodup by decide)) ?_
          exact j_X11_wantArray_41_ok X hF hL nn a0 u7.1 u8.2 hf
        · refine sb_if_eq hm dX11_wantArray_34 (tgt := 41) rfl (fun z => absurd z c9) (fun _ => ?_)
          refine mx_S.ext [(0, .ref a0), (3, .int u7.1)] (mx_sub_pos [1, 0] rfl (show ([3, 0, 1, 2] : List Nat).Nodup by decide)) ?_
          exact j_X11_wantArray_37_ok X hF hL nn a0 u7.1 u8.2 hf
    · refine sb_ic_ne hm dX11_wantArray_16 (tgt := 26) rfl (fun z => absurd z c12) (fun _ => ?_)
      refine mx_S.pu (pc2 := 20) (lv2 := [(3, .int u7.1), (0, .ref a0), (1, .int a1), (2, .int a2)]) (st2 := [.int a1]) hm dX11_wantArray_19 rfl ?_
      rcases mx_if_el hf with ⟨c11, hf⟩ | ⟨c11, hf⟩
      · refine sb_if_eq hm dX11_wantArray_20 (tgt := 41) rfl (fun _ => ?_) (fun z => absurd c11 z)
        refine mx_S.ext [(0, .ref a0), (3, .int u7.1)] (mx_sub_pos [1, 0] rfl (show ([3, 0, 1, 2] : List Nat).Nodup by decide)) ?_
        exact j_X11_wantArray_41_ok X hF hL nn a0 u7.1 u7.2 hf
      · refine sb_if_eq hm dX11_wantArray_20 (tgt := 41) rfl (fun z => absurd z c11) (fun _ => ?_)
        refine mx_S.pu (pc2 := 37) (lv2 := [(3, .int u7.1), (0, .ref a0), (1, .int a1), (2, .int a2)]) (st2 := []) hm dX11_wantArray_23 rfl ?_
        refine mx_S.ext [(0, .ref a0), (3, .int u7.1)] (mx_sub_pos [1, 0] rfl (show ([3, 0, 1, 2] : List Nat).Nodup by decide)) ?_
        exact j_X11_wantArray_37_ok X hF hL nn a0 u7.1 u7.2 hf
set_option maxHeartbeats 4000000 in
set_option maxRecDepth 20000 in
theorem j_X11_wantReference_24_ok (X : Nat × (Nat → Int32)) {F L : Nat} (hF : 1 ≤ F) (hL : 20 ≤ L) (nn : Nat) (l1 : Int32) (s0 : Nat) (h : mx_H) {r : (Int32 × mx_H)} (hf : j_X11_wantReference_24 nn l1 s0 h = some r) : mx_S X F L 349 24 [(1, .int l1)] [.ref s0] h 0 0 (some (.int r.1), r.2, 0, 0) := by
  have hm : mx_mt 349 = some (yX11_wantReference, cX11_wantReference, 2, (some .int)) := mt_X11_wantReference
  unfold j_X11_wantReference_24 at hf
  refine sx_ic (v := 0) hm dX11_wantReference_24 (by decide) ?_
  replace hf := mx_sv_el hf; obtain ⟨h1, e_h1, hf⟩ := hf
  refine sx_put hm dX11_wantReference_25 rs_RX11_295 ft_11_19 ⟨by decide, by decide⟩ (fun z => by cases z) e_h1 ?_
  clear e_h1
  refine mx_S.pu (pc2 := 29) (lv2 := [(1, .int l1)]) (st2 := [.int l1]) hm dX11_wantReference_28 rfl ?_
  cases hf
  exact sx_ire hm dX11_wantReference_29 rfl rfl
set_option maxHeartbeats 4000000 in
set_option maxRecDepth 20000 in
theorem f_X11_wantReference_ok (X : Nat × (Nat → Int32)) {F L : Nat} (hF : 1 ≤ F) (hL : 20 ≤ L) (nn : Nat) (a0 : Nat) (h : mx_H) {r : (Int32 × mx_H)} (hf : f_X11_wantReference nn a0 h = some r) : mx_R X F L 349 [.ref a0] h (some (.int r.1), r.2, 0, 0) := by
  have hm : mx_mt 349 = some (yX11_wantReference, cX11_wantReference, 2, (some .int)) := mt_X11_wantReference
  show mx_S X F L 349 0 [(0, .ref a0)] [] h 0 0 (some (.int r.1), r.2, 0, 0)
  unfold f_X11_wantReference at hf
  refine mx_S.pu (pc2 := 1) (lv2 := [(0, .ref a0)]) (st2 := [.ref a0]) hm dX11_wantReference_0 rfl ?_
  replace hf := mx_gd_el hf; obtain ⟨c2, hf⟩ := hf
  replace hf := mx_sv_el hf; obtain ⟨u3, e_u3, hf⟩ := hf
  refine sx_cv hm dX11_wantReference_1 rs_RX11_313 mt_X11_pop [] [] (b := a0) (ci := 11) rfl rfl rfl c2 (Nat.le_of_ble_eq_true rfl) (Nat.le_of_ble_eq_true rfl) (by omega) (by omega) (f_X11_pop_ok X (by omega) (by omega) nn a0 h e_u3) ?_
  clear e_u3
  show mx_S X F L 349 4 [(0, .ref a0)] [.int u3.1] u3.2 0 0 (some (.int r.1), r.2, 0, 0)
  refine mx_S.pu (pc2 := 5) (lv2 := [(1, .int u3.1), (0, .ref a0)]) (st2 := []) hm dX11_wantReference_4 rfl ?_
  refine mx_S.pu (pc2 := 6) (lv2 := [(1, .int u3.1), (0, .ref a0)]) (st2 := [.ref a0]) hm dX11_wantReference_5 rfl ?_
  refine mx_S.pu (pc2 := 7) (lv2 := [(1, .int u3.1), (0, .ref a0)]) (st2 := [.ref a0, .ref a0]) hm dX11_wantReference_6 rfl ?_
  replace hf := mx_sv_el hf; obtain ⟨v4, e_v4, hf⟩ := hf
  refine sx_get hm dX11_wantReference_7 rs_RX11_295 (xgi_el e_v4) ?_
  clear e_v4
  rcases mx_if_el hf with ⟨c8, hf⟩ | ⟨c8, hf⟩
  · refine sb_if_eq hm dX11_wantReference_10 (tgt := 24) rfl (fun _ => ?_) (fun z => absurd c8 z)
    refine mx_S.ext [(1, .int u3.1)] (mx_sub_pos [0] rfl (show ([1, 0] : List Nat).Nodup by decide)) ?_
    exact j_X11_wantReference_24_ok X hF hL nn u3.1 a0 u3.2 hf
  · refine sb_if_eq hm dX11_wantReference_10 (tgt := 24) rfl (fun z => absurd z c8) (fun _ => ?_)
    refine mx_S.pu (pc2 := 14) (lv2 := [(1, .int u3.1), (0, .ref a0)]) (st2 := [.int u3.1, .ref a0]) hm dX11_wantReference_13 rfl ?_
    replace hf := mx_sv_el hf; obtain ⟨u5, e_u5, hf⟩ := hf
    refine sx_cs hm dX11_wantReference_14 rs_RX11_316 mt_X4_isReference [.int u3.1] [.ref a0] rfl rfl (Nat.le_of_ble_eq_true rfl) (Nat.le_of_ble_eq_true rfl) (by omega) (by omega) (f_X4_isReference_ok X (by omega) (by omega) nn u3.1 u3.2 e_u5) ?_
    clear e_u5
    show mx_S X F L 349 17 [(1, .int u3.1), (0, .ref a0)] [.int u5.1, .ref a0] u5.2 0 0 (some (.int r.1), r.2, 0, 0)
    rcases mx_if_el hf with ⟨c7, hf⟩ | ⟨c7, hf⟩
    · refine sb_if_eq hm dX11_wantReference_17 (tgt := 24) rfl (fun _ => ?_) (fun z => absurd c7 z)
      refine mx_S.ext [(1, .int u3.1)] (mx_sub_pos [0] rfl (show ([1, 0] : List Nat).Nodup by decide)) ?_
      exact j_X11_wantReference_24_ok X hF hL nn u3.1 a0 u5.2 hf
    · refine sb_if_eq hm dX11_wantReference_17 (tgt := 24) rfl (fun z => absurd z c7) (fun _ => ?_)
      refine sx_ic (v := 1) hm dX11_wantReference_20 (by decide) ?_
      refine mx_S.pu (pc2 := 25) (lv2 := [(1, .int u3.1), (0, .ref a0)]) (st2 := [.int 1, .ref a0]) hm dX11_wantReference_21 rfl ?_
      replace hf := mx_sv_el hf; obtain ⟨h6, e_h6, hf⟩ := hf
      refine sx_put hm dX11_wantReference_25 rs_RX11_295 ft_11_19 ⟨by decide, by decide⟩ (fun z => by cases z) e_h6 ?_
      clear e_h6
      refine mx_S.pu (pc2 := 29) (lv2 := [(1, .int u3.1), (0, .ref a0)]) (st2 := [.int u3.1]) hm dX11_wantReference_28 rfl ?_
      cases hf
      exact sx_ire hm dX11_wantReference_29 rfl rfl
