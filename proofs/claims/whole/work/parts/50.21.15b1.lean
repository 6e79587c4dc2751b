set_option maxHeartbeats 4000000 in
set_option maxRecDepth 20000 in
theorem j_X3_behindKind_44_ok (X : Nat × (Nat → Int32)) {F L : Nat} (hF : 1 ≤ F) (hL : 26 ≤ L) (nn : Nat) (l0 : Nat) (l2 : Int32) (s0 : Int32) (h : mx_H) {r : (Int32 × mx_H)} (hf : j_X3_behindKind_44 nn l0 l2 s0 h = some r) : mx_S X F L 115 44 [(0, .ref l0), (2, .int l2)] [.int s0] h 0 0 (some (.int r.1), r.2, 0, 0) := by
  have hm : mx_mt 115 = some (yX3_behindKind, cX3_behindKind, 6, (some .int)) := mt_X3_behindKind
  unfold j_X3_behindKind_44 at hf
  refine mx_S.pu (pc2 := 46) (lv2 := [(4, .int s0), (0, .ref l0), (2, .int l2)]) (st2 := []) hm dX3_behindKind_44 rfl ?_
  refine mx_S.pu (pc2 := 48) (lv2 := [(4, .int s0), (0, .ref l0), (2, .int l2)]) (st2 := [.int s0]) hm dX3_behindKind_46 rfl ?_
  refine mx_S.pu (pc2 := 49) (lv2 := [(4, .int s0), (0, .ref l0), (2, .int l2)]) (st2 := [.int l2, .int s0]) hm dX3_behindKind_48 rfl ?_
  rcases mx_if_el hf with ⟨c18, hf⟩ | ⟨c18, hf⟩
  · refine sb_ic_ge hm dX3_behindKind_49 (tgt := 61) rfl (fun _ => ?_) (fun z => absurd c18 z)
    refine sx_ic (v := 0) hm dX3_behindKind_61 (by decide) ?_
    refine mx_S.ext [(0, .ref l0), (2, .int l2), (4, .int s0)] (mx_sub_pos [1, 2, 0] rfl (show ([4, 0, 2] : List Nat).Nodup by decide)) ?_
    exact j_X3_behindKind_62_ok X hF hL nn l0 l2 s0 0 h hf
  · refine sb_ic_ge hm dX3_behindKind_49 (tgt := 61) rfl (fun z => absurd z c18) (fun _ => ?_)
    refine mx_S.pu (pc2 := 53) (lv2 := [(4, .int s0), (0, .ref l0), (2, .int l2)]) (st2 := [.ref l0]) hm dX3_behindKind_52 rfl ?_
    refine mx_S.pu (pc2 := 55) (lv2 := [(4, .int s0), (0, .ref l0), (2, .int l2)]) (st2 := [.int s0, .ref l0]) hm dX3_behindKind_53 rfl ?_
    replace hf := mx_gd_el hf; obtain ⟨c16, hf⟩ := hf
    replace hf := mx_sv_el hf; obtain ⟨u17, e_u17, hf⟩ := hf
    refine sx_cv hm dX3_behindKind_55 rs_RX3_119 mt_X3_byteAt [.int s0] [] (b := l0) (ci := 3) rfl rfl rfl c16 (Nat.le_of_ble_eq_true rfl) (Nat.le_of_ble_eq_true rfl) (by omega) (by omega) (f_X3_byteAt_ok X (by omega) (by omega) nn l0 s0 h e_u17) ?_
    clear e_u17
    show mx_S X F L 115 58 [(4, .int s0), (0, .ref l0), (2, .int l2)] [.int u17.1] u17.2 0 0 (some (.int r.1), r.2, 0, 0)
    refine mx_S.pu (pc2 := 62) (lv2 := [(4, .int s0), (0, .ref l0), (2, .int l2)]) (st2 := [.int u17.1]) hm dX3_behindKind_58 rfl ?_
    refine mx_S.ext [(0, .ref l0), (2, .int l2), (4, .int s0)] (mx_sub_pos [1, 2, 0] rfl (show ([4, 0, 2] : List Nat).Nodup by decide)) ?_
    exact j_X3_behindKind_62_ok X hF hL nn l0 l2 s0 u17.1 u17.2 hf
set_option maxHeartbeats 4000000 in
set_option maxRecDepth 20000 in
theorem j_X3_behindKind_27_ok (X : Nat × (Nat → Int32)) {F L : Nat} (hF : 1 ≤ F) (hL : 26 ≤ L) (nn : Nat) (l1 : Int32) (h : mx_H) {r : (Int32 × mx_H)} (hf : j_X3_behindKind_27 nn l1 h = some r) : mx_S X F L 115 27 [(1, .int l1)] [] h 0 0 (some (.int r.1), r.2, 0, 0) := by
  have hm : mx_mt 115 = some (yX3_behindKind, cX3_behindKind, 6, (some .int)) := mt_X3_behindKind
  unfold j_X3_behindKind_27 at hf
  refine mx_S.pu (pc2 := 28) (lv2 := [(1, .int l1)]) (st2 := [.int l1]) hm dX3_behindKind_27 rfl ?_
  refine sx_ic (v := 1) hm dX3_behindKind_28 (by decide) ?_
  replace hf := xl_el hf; obtain ⟨v19, e_v19, hf⟩ := hf
  refine mx_S.pu (pc2 := 30) (lv2 := [(1, .int l1)]) (st2 := [.int v19]) hm dX3_behindKind_29 (by rw [← e_v19]; rfl) ?_
  clear e_v19
  cases hf
  exact sx_ire hm dX3_behindKind_30 rfl rfl
set_option maxHeartbeats 4000000 in
set_option maxRecDepth 20000 in
theorem j_X3_behindKind_14_ok (X : Nat × (Nat → Int32)) {F L : Nat} (hF : 1 ≤ F) (hL : 26 ≤ L) (nn : Nat) (l0 : Nat) (l1 : Int32) (l2 : Int32) (s0 : Int32) (h : mx_H) {r : (Int32 × mx_H)} (hf : j_X3_behindKind_14 nn l0 l1 l2 s0 h = some r) : mx_S X F L 115 14 [(0, .ref l0), (1, .int l1), (2, .int l2)] [.int s0] h 0 0 (some (.int r.1), r.2, 0, 0) := by
  have hm : mx_mt 115 = some (yX3_behindKind, cX3_behindKind, 6, (some .int)) := mt_X3_behindKind
  unfold j_X3_behindKind_14 at hf
  refine mx_S.pu (pc2 := 15) (lv2 := [(3, .int s0), (0, .ref l0), (1, .int l1), (2, .int l2)]) (st2 := []) hm dX3_behindKind_14 rfl ?_
  refine mx_S.pu (pc2 := 16) (lv2 := [(3, .int s0), (0, .ref l0), (1, .int l1), (2, .int l2)]) (st2 := [.int s0]) hm dX3_behindKind_15 rfl ?_
  refine sx_bi (v := 73) hm dX3_behindKind_16 (by decide) ?_
  rcases mx_if_el hf with ⟨c23, hf⟩ | ⟨c23, hf⟩
  · refine sb_ic_eq hm dX3_behindKind_18 (tgt := 27) rfl (fun _ => ?_) (fun z => absurd c23 z)
    refine mx_S.ext [(1, .int l1)] (mx_sub_pos [2] rfl (show ([3, 0, 1, 2] : List Nat).Nodup by decide)) ?_
    exact j_X3_behindKind_27_ok X hF hL nn l1 h hf
  · refine sb_ic_eq hm dX3_behindKind_18 (tgt := 27) rfl (fun z => absurd z c23) (fun _ => ?_)
    refine mx_S.pu (pc2 := 22) (lv2 := [(3, .int s0), (0, .ref l0), (1, .int l1), (2, .int l2)]) (st2 := [.int s0]) hm dX3_behindKind_21 rfl ?_
    refine sx_bi (v := 90) hm dX3_behindKind_22 (by decide) ?_
    rcases mx_if_el hf with ⟨c22, hf⟩ | ⟨c22, hf⟩
    · refine sb_ic_ne hm dX3_behindKind_24 (tgt := 31) rfl (fun _ => ?_) (fun z => absurd c22 z)
      refine mx_S.pu (pc2 := 32) (lv2 := [(3, .int s0), (0, .ref l0), (1, .int l1), (2, .int l2)]) (st2 := [.int s0]) hm dX3_behindKind_31 rfl ?_
      refine sx_bi (v := 91) hm dX3_behindKind_32 (by decide) ?_
      rcases mx_if_el hf with ⟨c21, hf⟩ | ⟨c21, hf⟩
      · refine sb_ic_ne hm dX3_behindKind_34 (tgt := 43) rfl (fun _ => ?_) (fun z => absurd c21 z)
        refine mx_S.pu (pc2 := 44) (lv2 := [(3, .int s0), (0, .ref l0), (1, .int l1), (2, .int l2)]) (st2 := [.int l1]) hm dX3_behindKind_43 rfl ?_
        refine mx_S.ext [(0, .ref l0), (2, .int l2)] (mx_sub_pos [1, 3] rfl (show ([3, 0, 1, 2] : List Nat).Nodup by decide)) ?_
        exact j_X3_behindKind_44_ok X hF hL nn l0 l2 l1 h hf
      · refine sb_ic_ne hm dX3_behindKind_34 (tgt := 43) rfl (fun z => absurd z c21) (fun _ => ?_)
        refine mx_S.pu (pc2 := 38) (lv2 := [(3, .int s0), (0, .ref l0), (1, .int l1), (2, .int l2)]) (st2 := [.int l1]) hm dX3_behindKind_37 rfl ?_
        refine sx_ic (v := 1) hm dX3_behindKind_38 (by decide) ?_
        replace hf := xl_el hf; obtain ⟨v20, e_v20, hf⟩ := hf
        refine mx_S.pu (pc2 := 40) (lv2 := [(3, .int s0), (0, .ref l0), (1, .int l1), (2, .int l2)]) (st2 := [.int v20]) hm dX3_behindKind_39 (by rw [← e_v20]; rfl) ?_
        clear e_v20
        refine mx_S.pu (pc2 := 44) (lv2 := [(3, .int s0), (0, .ref l0), (1, .int l1), (2, .int l2)]) (st2 := [.int v20]) hm dX3_behindKind_40 rfl ?_
        refine mx_S.ext [(0, .ref l0), (2, .int l2)] (mx_sub_pos [1, 3] rfl (show ([3, 0, 1, 2] : List Nat).Nodup by decide)) ?_
        exact j_X3_behindKind_44_ok X hF hL nn l0 l2 v20 h hf
    · refine sb_ic_ne hm dX3_behindKind_24 (tgt := 31) rfl (fun z => absurd z c22) (fun _ => ?_)
      refine mx_S.ext [(1, .int l1)] (mx_sub_pos [2] rfl (show ([3, 0, 1, 2] : List Nat).Nodup by decide)) ?_
      exact j_X3_behindKind_27_ok X hF hL nn l1 h hf
set_option maxHeartbeats 4000000 in
set_option maxRecDepth 20000 in
theorem f_X3_behindKind_ok (X : Nat × (Nat → Int32)) {F L : Nat} (hF : 1 ≤ F) (hL : 26 ≤ L) (nn : Nat) (a0 : Nat) (a1 : Int32) (a2 : Int32) (h : mx_H) {r : (Int32 × mx_H)} (hf : f_X3_behindKind nn a0 a1 a2 h = some r) : mx_R X F L 115 [.ref a0, .int a1, .int a2] h (some (.int r.1), r.2, 0, 0) := by
  have hm : mx_mt 115 = some (yX3_behindKind, cX3_behindKind, 6, (some .int)) := mt_X3_behindKind
  show mx_S X F L 115 0 [(0, .ref a0), (1, .int a1), (2, .int a2)] [] h 0 0 (some (.int r.1), r.2, 0, 0)
  unfold f_X3_behindKind at hf
  refine mx_S.pu (pc2 := 1) (lv2 := [(0, .ref a0), (1, .int a1), (2, .int a2)]) (st2 := [.int a1]) hm dX3_behindKind_0 rfl ?_
  refine mx_S.pu (pc2 := 2) (lv2 := [(0, .ref a0), (1, .int a1), (2, .int a2)]) (st2 := [.int a2, .int a1]) hm dX3_behindKind_1 rfl ?_
  rcases mx_if_el hf with ⟨c26, hf⟩ | ⟨c26, hf⟩
  · refine sb_ic_ge hm dX3_behindKind_2 (tgt := 13) rfl (fun _ => ?_) (fun z => absurd c26 z)
    refine sx_ic (v := 0) hm dX3_behindKind_13 (by decide) ?_
    exact j_X3_behindKind_14_ok X hF hL nn a0 a1 a2 0 h hf
  · refine sb_ic_ge hm dX3_behindKind_2 (tgt := 13) rfl (fun z => absurd z c26) (fun _ => ?_)
    refine mx_S.pu (pc2 := 6) (lv2 := [(0, .ref a0), (1, .int a1), (2, .int a2)]) (st2 := [.ref a0]) hm dX3_behindKind_5 rfl ?_
    refine mx_S.pu (pc2 := 7) (lv2 := [(0, .ref a0), (1, .int a1), (2, .int a2)]) (st2 := [.int a1, .ref a0]) hm dX3_behindKind_6 rfl ?_
    replace hf := mx_gd_el hf; obtain ⟨c24, hf⟩ := hf
    replace hf := mx_sv_el hf; obtain ⟨u25, e_u25, hf⟩ := hf
    refine sx_cv hm dX3_behindKind_7 rs_RX3_119 mt_X3_byteAt [.int a1] [] (b := a0) (ci := 3) rfl rfl rfl c24 (Nat.le_of_ble_eq_true rfl) (Nat.le_of_ble_eq_true rfl) (by omega) (by omega) (f_X3_byteAt_ok X (by omega) (by omega) nn a0 a1 h e_u25) ?_
    clear e_u25
    show mx_S X F L 115 10 [(0, .ref a0), (1, .int a1), (2, .int a2)] [.int u25.1] u25.2 0 0 (some (.int r.1), r.2, 0, 0)
    refine mx_S.pu (pc2 := 14) (lv2 := [(0, .ref a0), (1, .int a1), (2, .int a2)]) (st2 := [.int u25.1]) hm dX3_behindKind_10 rfl ?_
    exact j_X3_behindKind_14_ok X hF hL nn a0 a1 a2 u25.1 u25.2 hf
set_option maxHeartbeats 4000000 in
set_option maxRecDepth 20000 in
theorem f_X3_isFieldKind_ok (X : Nat × (Nat → Int32)) {F L : Nat} (hF : 2 ≤ F) (hL : 51 ≤ L) (nn : Nat) (a0 : Nat) (a1 : Int32) (h : mx_H) {r : (Int32 × mx_H)} (hf : f_X3_isFieldKind nn a0 a1 h = some r) : mx_R X F L 114 [.ref a0, .int a1] h (some (.int r.1), r.2, 0, 0) := by
  have hm : mx_mt 114 = some (yX3_isFieldKind, cX3_isFieldKind, 2, (some .boolean)) := mt_X3_isFieldKind
  show mx_S X F L 114 0 [(0, .ref a0), (1, .int a1)] [] h 0 0 (some (.int r.1), r.2, 0, 0)
  unfold f_X3_isFieldKind at hf
  refine mx_S.pu (pc2 := 1) (lv2 := [(0, .ref a0), (1, .int a1)]) (st2 := [.ref a0]) hm dX3_isFieldKind_0 rfl ?_
  refine mx_S.pu (pc2 := 2) (lv2 := [(0, .ref a0), (1, .int a1)]) (st2 := [.int a1, .ref a0]) hm dX3_isFieldKind_1 rfl ?_
  replace hf := mx_gd_el hf; obtain ⟨c1, hf⟩ := hf
  replace hf := mx_sv_el hf; obtain ⟨u2, e_u2, hf⟩ := hf
  refine sx_cv hm dX3_isFieldKind_2 rs_RX3_112 mt_X3_tagOf [.int a1] [] (b := a0) (ci := 3) rfl rfl rfl c1 (Nat.le_of_ble_eq_true rfl) (Nat.le_of_ble_eq_true rfl) (by omega) (by omega) (f_X3_tagOf_ok X (by omega) (by omega) nn a0 a1 h e_u2) ?_
  clear e_u2
  show mx_S X F L 114 5 [(0, .ref a0), (1, .int a1)] [.int u2.1] u2.2 0 0 (some (.int r.1), r.2, 0, 0)
  refine sx_ic (v := 1) hm dX3_isFieldKind_5 (by decide) ?_
  rcases mx_if_el hf with ⟨c12, hf⟩ | ⟨c12, hf⟩
  · refine sb_ic_ne hm dX3_isFieldKind_6 (tgt := 38) rfl (fun _ => ?_) (fun z => absurd c12 z)
    refine sx_ic (v := 0) hm dX3_isFieldKind_38 (by decide) ?_
    cases hf
    exact sx_ire hm dX3_isFieldKind_39 rfl (by decide)
  · refine sb_ic_ne hm dX3_isFieldKind_6 (tgt := 38) rfl (fun z => absurd z c12) (fun _ => ?_)
    refine mx_S.pu (pc2 := 10) (lv2 := [(0, .ref a0), (1, .int a1)]) (st2 := [.ref a0]) hm dX3_isFieldKind_9 rfl ?_
    refine mx_S.pu (pc2 := 11) (lv2 := [(0, .ref a0), (1, .int a1)]) (st2 := [.ref a0, .ref a0]) hm dX3_isFieldKind_10 rfl ?_
    replace hf := mx_sv_el hf; obtain ⟨v3, e_v3, hf⟩ := hf
    refine sx_get hm dX3_isFieldKind_11 rs_RX3_19 (xgr_el e_v3) ?_
    clear e_v3
    refine mx_S.pu (pc2 := 15) (lv2 := [(0, .ref a0), (1, .int a1)]) (st2 := [.int a1, .ref v3, .ref a0]) hm dX3_isFieldKind_14 rfl ?_
    replace hf := mx_sv_el hf; obtain ⟨v4, e_v4, hf⟩ := hf
    refine sx_ald hm dX3_isFieldKind_15 e_v4 ?_
    clear e_v4
    refine mx_S.pu (pc2 := 17) (lv2 := [(0, .ref a0), (1, .int a1)]) (st2 := [.ref a0, .int v4, .ref a0]) hm dX3_isFieldKind_16 rfl ?_
    replace hf := mx_sv_el hf; obtain ⟨v5, e_v5, hf⟩ := hf
    refine sx_get hm dX3_isFieldKind_17 rs_RX3_22 (xgr_el e_v5) ?_
    clear e_v5
    refine mx_S.pu (pc2 := 21) (lv2 := [(0, .ref a0), (1, .int a1)]) (st2 := [.int a1, .ref v5, .int v4, .ref a0]) hm dX3_isFieldKind_20 rfl ?_
    replace hf := mx_sv_el hf; obtain ⟨v6, e_v6, hf⟩ := hf
    refine sx_ald hm dX3_isFieldKind_21 e_v6 ?_
    clear e_v6
    replace hf := mx_gd_el hf; obtain ⟨c7, hf⟩ := hf
    replace hf := mx_sv_el hf; obtain ⟨u8, e_u8, hf⟩ := hf
    refine sx_cv hm dX3_isFieldKind_22 rs_RX3_149 mt_X3_behindKind [.int v4, .int v6] [] (b := a0) (ci := 3) rfl rfl rfl c7 (Nat.le_of_ble_eq_true rfl) (Nat.le_of_ble_eq_true rfl) (by omega) (by omega) (f_X3_behindKind_ok X (by omega) (by omega) nn a0 v4 v6 u2.2 e_u8) ?_
    clear e_u8
    show mx_S X F L 114 25 [(0, .ref a0), (1, .int a1)] [.int u8.1] u8.2 0 0 (some (.int r.1), r.2, 0, 0)
    refine mx_S.pu (pc2 := 26) (lv2 := [(0, .ref a0), (1, .int a1)]) (st2 := [.ref a0, .int u8.1]) hm dX3_isFieldKind_25 rfl ?_
    replace hf := mx_sv_el hf; obtain ⟨v9, e_v9, hf⟩ := hf
    refine sx_get hm dX3_isFieldKind_26 rs_RX3_22 (xgr_el e_v9) ?_
    clear e_v9
    refine mx_S.pu (pc2 := 30) (lv2 := [(0, .ref a0), (1, .int a1)]) (st2 := [.int a1, .ref v9, .int u8.1]) hm dX3_isFieldKind_29 rfl ?_
    replace hf := mx_sv_el hf; obtain ⟨v10, e_v10, hf⟩ := hf
    refine sx_ald hm dX3_isFieldKind_30 e_v10 ?_
    clear e_v10
    rcases mx_if_el hf with ⟨c11, hf⟩ | ⟨c11, hf⟩
    · refine sb_ic_ne hm dX3_isFieldKind_31 (tgt := 38) rfl (fun _ => ?_) (fun z => absurd c11 z)
      refine sx_ic (v := 0) hm dX3_isFieldKind_38 (by decide) ?_
      cases hf
      exact sx_ire hm dX3_isFieldKind_39 rfl (by decide)
    · refine sb_ic_ne hm dX3_isFieldKind_31 (tgt := 38) rfl (fun z => absurd z c11) (fun _ => ?_)
      refine sx_ic (v := 1) hm dX3_isFieldKind_34 (by decide) ?_
      refine mx_S.pu (pc2 := 39) (lv2 := [(0, .ref a0), (1, .int a1)]) (st2 := [.int 1]) hm dX3_isFieldKind_35 rfl ?_
      cases hf
      exact sx_ire hm dX3_isFieldKind_39 rfl (by decide)
set_option maxHeartbeats 4000000 in
set_option maxRecDepth 20000 in
theorem f_X3_isNameText_ok (X : Nat × (Nat → Int32)) {F L : Nat} (hF : 1 ≤ F) (hL : 26 ≤ L) (nn : Nat) (a0 : Nat) (a1 : Int32) (h : mx_H) {r : (Int32 × mx_H)} (hf : f_X3_isNameText nn a0 a1 h = some r) : mx_R X F L 112 [.ref a0, .int a1] h (some (.int r.1), r.2, 0, 0) := by
  have hm : mx_mt 112 = some (yX3_isNameText, cX3_isNameText, 2, (some .boolean)) := mt_X3_isNameText
  show mx_S X F L 112 0 [(0, .ref a0), (1, .int a1)] [] h 0 0 (some (.int r.1), r.2, 0, 0)
  unfold f_X3_isNameText at hf
  refine mx_S.pu (pc2 := 1) (lv2 := [(0, .ref a0), (1, .int a1)]) (st2 := [.ref a0]) hm dX3_isNameText_0 rfl ?_
  refine mx_S.pu (pc2 := 2) (lv2 := [(0, .ref a0), (1, .int a1)]) (st2 := [.int a1, .ref a0]) hm dX3_isNameText_1 rfl ?_
  replace hf := mx_gd_el hf; obtain ⟨c1, hf⟩ := hf
  replace hf := mx_sv_el hf; obtain ⟨u2, e_u2, hf⟩ := hf
  refine sx_cv hm dX3_isNameText_2 rs_RX3_112 mt_X3_tagOf [.int a1] [] (b := a0) (ci := 3) rfl rfl rfl c1 (Nat.le_of_ble_eq_true rfl) (Nat.le_of_ble_eq_true rfl) (by omega) (by omega) (f_X3_tagOf_ok X (by omega) (by omega) nn a0 a1 h e_u2) ?_
  clear e_u2
  show mx_S X F L 112 5 [(0, .ref a0), (1, .int a1)] [.int u2.1] u2.2 0 0 (some (.int r.1), r.2, 0, 0)
  refine sx_ic (v := 1) hm dX3_isNameText_5 (by decide) ?_
  rcases mx_if_el hf with ⟨c10, hf⟩ | ⟨c10, hf⟩
  · refine sb_ic_ne hm dX3_isNameText_6 (tgt := 35) rfl (fun _ => ?_) (fun z => absurd c10 z)
    refine sx_ic (v := 0) hm dX3_isNameText_35 (by decide) ?_
    cases hf
    exact sx_ire hm dX3_isNameText_36 rfl (by decide)
  · refine sb_ic_ne hm dX3_isNameText_6 (tgt := 35) rfl (fun z => absurd z c10) (fun _ => ?_)
    refine mx_S.pu (pc2 := 10) (lv2 := [(0, .ref a0), (1, .int a1)]) (st2 := [.ref a0]) hm dX3_isNameText_9 rfl ?_
    replace hf := mx_sv_el hf; obtain ⟨v3, e_v3, hf⟩ := hf
    refine sx_get hm dX3_isNameText_10 rs_RX3_9 (xgr_el e_v3) ?_
    clear e_v3
    refine mx_S.pu (pc2 := 14) (lv2 := [(0, .ref a0), (1, .int a1)]) (st2 := [.ref a0, .ref v3]) hm dX3_isNameText_13 rfl ?_
    replace hf := mx_sv_el hf; obtain ⟨v4, e_v4, hf⟩ := hf
    refine sx_get hm dX3_isNameText_14 rs_RX3_19 (xgr_el e_v4) ?_
    clear e_v4
    refine mx_S.pu (pc2 := 18) (lv2 := [(0, .ref a0), (1, .int a1)]) (st2 := [.int a1, .ref v4, .ref v3]) hm dX3_isNameText_17 rfl ?_
    replace hf := mx_sv_el hf; obtain ⟨v5, e_v5, hf⟩ := hf
    refine sx_ald hm dX3_isNameText_18 e_v5 ?_
    clear e_v5
    refine mx_S.pu (pc2 := 20) (lv2 := [(0, .ref a0), (1, .int a1)]) (st2 := [.ref a0, .int v5, .ref v3]) hm dX3_isNameText_19 rfl ?_
    replace hf := mx_sv_el hf; obtain ⟨v6, e_v6, hf⟩ := hf
    refine sx_get hm dX3_isNameText_20 rs_RX3_22 (xgr_el e_v6) ?_
    clear e_v6
    refine mx_S.pu (pc2 := 24) (lv2 := [(0, .ref a0), (1, .int a1)]) (st2 := [.int a1, .ref v6, .int v5, .ref v3]) hm dX3_isNameText_23 rfl ?_
    replace hf := mx_sv_el hf; obtain ⟨v7, e_v7, hf⟩ := hf
    refine sx_ald hm dX3_isNameText_24 e_v7 ?_
    clear e_v7
    replace hf := mx_sv_el hf; obtain ⟨u8, e_u8, hf⟩ := hf
    refine sx_cs hm dX3_isNameText_25 rs_RX3_143 mt_X9_isName [.ref v3, .int v5, .int v7] [] rfl rfl (Nat.le_of_ble_eq_true rfl) (Nat.le_of_ble_eq_true rfl) (by omega) (by omega) (f_X9_isName_ok X (by omega) (by omega) nn v3 v5 v7 u2.2 e_u8) ?_
    clear e_u8
    show mx_S X F L 112 28 [(0, .ref a0), (1, .int a1)] [.int u8.1] u8.2 0 0 (some (.int r.1), r.2, 0, 0)
    rcases mx_if_el hf with ⟨c9, hf⟩ | ⟨c9, hf⟩
    · refine sb_if_eq hm dX3_isNameText_28 (tgt := 35) rfl (fun _ => ?_) (fun z => absurd c9 z)
      refine sx_ic (v := 0) hm dX3_isNameText_35 (by decide) ?_
      cases hf
      exact sx_ire hm dX3_isNameText_36 rfl (by decide)
    · refine sb_if_eq hm dX3_isNameText_28 (tgt := 35) rfl (fun z => absurd z c9) (fun _ => ?_)
      refine sx_ic (v := 1) hm dX3_isNameText_31 (by decide) ?_
      refine mx_S.pu (pc2 := 36) (lv2 := [(0, .ref a0), (1, .int a1)]) (st2 := [.int 1]) hm dX3_isNameText_32 rfl ?_
      cases hf
      exact sx_ire hm dX3_isNameText_36 rfl (by decide)
