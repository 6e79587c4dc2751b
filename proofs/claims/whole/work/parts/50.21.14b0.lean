set_option maxHeartbeats 4000000 in
set_option maxRecDepth 20000 in
theorem j_X9_scanToken_110_ok (X : Nat × (Nat → Int32)) {F L : Nat} (hF : 4 ≤ F) (hL : 112 ≤ L) (nn : Nat) (l0 : Nat) (l3 : Int32) (s0 : Int32) (h : mx_H) {r : (Int32 × mx_H)} (hf : j_X9_scanToken_110 nn l0 l3 s0 h = some r) : mx_S X F L 255 110 [(0, .ref l0), (3, .int l3)] [.int s0] h 0 0 (some (.int r.1), r.2, 0, 0) := by
  have hm : mx_mt 255 = some (yX9_scanToken, cX9_scanToken, 8, (some .int)) := mt_X9_scanToken
  unfold j_X9_scanToken_110 at hf
  refine mx_S.pu (pc2 := 112) (lv2 := [(7, .int s0), (0, .ref l0), (3, .int l3)]) (st2 := []) hm dX9_scanToken_110 rfl ?_
  refine mx_S.pu (pc2 := 114) (lv2 := [(7, .int s0), (0, .ref l0), (3, .int l3)]) (st2 := [.int s0]) hm dX9_scanToken_112 rfl ?_
  rcases mx_if_el hf with ⟨c5, hf⟩ | ⟨c5, hf⟩
  · refine sb_if_eq hm dX9_scanToken_114 (tgt := 125) rfl (fun _ => ?_) (fun z => absurd c5 z)
    refine mx_S.pu (pc2 := 127) (lv2 := [(7, .int s0), (0, .ref l0), (3, .int l3)]) (st2 := [.int s0]) hm dX9_scanToken_125 rfl ?_
    replace hf := mx_sv_el hf; obtain ⟨u1, e_u1, hf⟩ := hf
    refine sx_cs hm dX9_scanToken_127 rs_RX9_120 mt_X9_signLength [.int s0] [] rfl rfl (Nat.le_of_ble_eq_true rfl) (Nat.le_of_ble_eq_true rfl) (by omega) (by omega) (f_X9_signLength_ok X (by omega) (by omega) nn s0 h e_u1) ?_
    clear e_u1
    show mx_S X F L 255 130 [(7, .int s0), (0, .ref l0), (3, .int l3)] [.int u1.1] u1.2 0 0 (some (.int r.1), r.2, 0, 0)
    cases hf
    exact sx_ire hm dX9_scanToken_130 rfl rfl
  · refine sb_if_eq hm dX9_scanToken_114 (tgt := 125) rfl (fun z => absurd z c5) (fun _ => ?_)
    refine mx_S.pu (pc2 := 118) (lv2 := [(7, .int s0), (0, .ref l0), (3, .int l3)]) (st2 := [.ref l0]) hm dX9_scanToken_117 rfl ?_
    refine mx_S.pu (pc2 := 120) (lv2 := [(7, .int s0), (0, .ref l0), (3, .int l3)]) (st2 := [.int s0, .ref l0]) hm dX9_scanToken_118 rfl ?_
    refine mx_S.pu (pc2 := 121) (lv2 := [(7, .int s0), (0, .ref l0), (3, .int l3)]) (st2 := [.int l3, .int s0, .ref l0]) hm dX9_scanToken_120 rfl ?_
    refine sx_ic (v := 0) hm dX9_scanToken_121 (by decide) ?_
    replace hf := mx_gd_el hf; obtain ⟨c2, hf⟩ := hf
    replace hf := mx_sv_el hf; obtain ⟨u3, e_u3, hf⟩ := hf
    refine sx_cv hm dX9_scanToken_122 rs_RX9_99 mt_X9_addToken [.int s0, .int l3, .int 0] [] (b := l0) (ci := 9) rfl rfl rfl c2 (Nat.le_of_ble_eq_true rfl) (Nat.le_of_ble_eq_true rfl) (by omega) (by omega) (f_X9_addToken_ok X (by omega) (by omega) nn l0 s0 l3 0 h e_u3) ?_
    clear e_u3
    show mx_S X F L 255 125 [(7, .int s0), (0, .ref l0), (3, .int l3)] [] u3 0 0 (some (.int r.1), r.2, 0, 0)
    refine mx_S.pu (pc2 := 127) (lv2 := [(7, .int s0), (0, .ref l0), (3, .int l3)]) (st2 := [.int s0]) hm dX9_scanToken_125 rfl ?_
    replace hf := mx_sv_el hf; obtain ⟨u4, e_u4, hf⟩ := hf
    refine sx_cs hm dX9_scanToken_127 rs_RX9_120 mt_X9_signLength [.int s0] [] rfl rfl (Nat.le_of_ble_eq_true rfl) (Nat.le_of_ble_eq_true rfl) (by omega) (by omega) (f_X9_signLength_ok X (by omega) (by omega) nn s0 u3 e_u4) ?_
    clear e_u4
    show mx_S X F L 255 130 [(7, .int s0), (0, .ref l0), (3, .int l3)] [.int u4.1] u4.2 0 0 (some (.int r.1), r.2, 0, 0)
    cases hf
    exact sx_ire hm dX9_scanToken_130 rfl rfl
set_option maxHeartbeats 4000000 in
set_option maxRecDepth 20000 in
theorem j_X9_scanToken_103_ok (X : Nat × (Nat → Int32)) {F L : Nat} (hF : 4 ≤ F) (hL : 112 ≤ L) (nn : Nat) (l0 : Nat) (l3 : Int32) (l4 : Int32) (l5 : Int32) (h : mx_H) {r : (Int32 × mx_H)} (hf : j_X9_scanToken_103 nn l0 l3 l4 l5 h = some r) : mx_S X F L 255 103 [(0, .ref l0), (3, .int l3), (4, .int l4), (5, .int l5)] [] h 0 0 (some (.int r.1), r.2, 0, 0) := by
  have hm : mx_mt 255 = some (yX9_scanToken, cX9_scanToken, 8, (some .int)) := mt_X9_scanToken
  unfold j_X9_scanToken_103 at hf
  refine mx_S.pu (pc2 := 105) (lv2 := [(0, .ref l0), (3, .int l3), (4, .int l4), (5, .int l5)]) (st2 := [.int l4]) hm dX9_scanToken_103 rfl ?_
  refine mx_S.pu (pc2 := 107) (lv2 := [(0, .ref l0), (3, .int l3), (4, .int l4), (5, .int l5)]) (st2 := [.int l5, .int l4]) hm dX9_scanToken_105 rfl ?_
  replace hf := mx_sv_el hf; obtain ⟨u6, e_u6, hf⟩ := hf
  refine sx_cs hm dX9_scanToken_107 rs_RX9_116 mt_X9_signOf [.int l4, .int l5] [] rfl rfl (Nat.le_of_ble_eq_true rfl) (Nat.le_of_ble_eq_true rfl) (by omega) (by omega) (f_X9_signOf_ok X (by omega) (by omega) nn l4 l5 h e_u6) ?_
  clear e_u6
  show mx_S X F L 255 110 [(0, .ref l0), (3, .int l3), (4, .int l4), (5, .int l5)] [.int u6.1] u6.2 0 0 (some (.int r.1), r.2, 0, 0)
  refine mx_S.ext [(0, .ref l0), (3, .int l3)] (mx_sub_pos [0, 1] rfl (show ([0, 3, 4, 5] : List Nat).Nodup by decide)) ?_
  exact j_X9_scanToken_110_ok X hF hL nn l0 l3 u6.1 u6.2 hf
set_option maxHeartbeats 4000000 in
set_option maxRecDepth 20000 in
theorem j_X9_scanToken_84_ok (X : Nat × (Nat → Int32)) {F L : Nat} (hF : 4 ≤ F) (hL : 112 ≤ L) (nn : Nat) (l0 : Nat) (l3 : Int32) (l4 : Int32) (l5 : Int32) (s0 : Int32) (h : mx_H) {r : (Int32 × mx_H)} (hf : j_X9_scanToken_84 nn l0 l3 l4 l5 s0 h = some r) : mx_S X F L 255 84 [(0, .ref l0), (3, .int l3), (4, .int l4), (5, .int l5)] [.int s0] h 0 0 (some (.int r.1), r.2, 0, 0) := by
  have hm : mx_mt 255 = some (yX9_scanToken, cX9_scanToken, 8, (some .int)) := mt_X9_scanToken
  unfold j_X9_scanToken_84 at hf
  refine mx_S.pu (pc2 := 86) (lv2 := [(6, .int s0), (0, .ref l0), (3, .int l3), (4, .int l4), (5, .int l5)]) (st2 := []) hm dX9_scanToken_84 rfl ?_
  refine mx_S.pu (pc2 := 88) (lv2 := [(6, .int s0), (0, .ref l0), (3, .int l3), (4, .int l4), (5, .int l5)]) (st2 := [.int l4]) hm dX9_scanToken_86 rfl ?_
  refine sx_bi (v := 62) hm dX9_scanToken_88 (by decide) ?_
  rcases mx_if_el hf with ⟨c8, hf⟩ | ⟨c8, hf⟩
  · refine sb_ic_ne hm dX9_scanToken_90 (tgt := 103) rfl (fun _ => ?_) (fun z => absurd c8 z)
    refine mx_S.ext [(0, .ref l0), (3, .int l3), (4, .int l4), (5, .int l5)] (mx_sub_pos [1, 2, 3, 4] rfl (show ([6, 0, 3, 4, 5] : List Nat).Nodup by decide)) ?_
    exact j_X9_scanToken_103_ok X hF hL nn l0 l3 l4 l5 h hf
  · refine sb_ic_ne hm dX9_scanToken_90 (tgt := 103) rfl (fun z => absurd z c8) (fun _ => ?_)
    refine mx_S.pu (pc2 := 95) (lv2 := [(6, .int s0), (0, .ref l0), (3, .int l3), (4, .int l4), (5, .int l5)]) (st2 := [.int s0]) hm dX9_scanToken_93 rfl ?_
    rcases mx_if_el hf with ⟨c7, hf⟩ | ⟨c7, hf⟩
    · refine sb_if_eq hm dX9_scanToken_95 (tgt := 103) rfl (fun _ => ?_) (fun z => absurd c7 z)
      refine mx_S.ext [(0, .ref l0), (3, .int l3), (4, .int l4), (5, .int l5)] (mx_sub_pos [1, 2, 3, 4] rfl (show ([6, 0, 3, 4, 5] : List Nat).Nodup by decide)) ?_
      exact j_X9_scanToken_103_ok X hF hL nn l0 l3 l4 l5 h hf
    · refine sb_if_eq hm dX9_scanToken_95 (tgt := 103) rfl (fun z => absurd z c7) (fun _ => ?_)
      refine sx_bi (v := 60) hm dX9_scanToken_98 (by decide) ?_
      refine mx_S.pu (pc2 := 110) (lv2 := [(6, .int s0), (0, .ref l0), (3, .int l3), (4, .int l4), (5, .int l5)]) (st2 := [.int 60]) hm dX9_scanToken_100 rfl ?_
      refine mx_S.ext [(0, .ref l0), (3, .int l3)] (mx_sub_pos [1, 2] rfl (show ([6, 0, 3, 4, 5] : List Nat).Nodup by decide)) ?_
      exact j_X9_scanToken_110_ok X hF hL nn l0 l3 60 h hf
set_option maxHeartbeats 4000000 in
set_option maxRecDepth 20000 in
theorem j_X9_scanToken_83_ok (X : Nat × (Nat → Int32)) {F L : Nat} (hF : 4 ≤ F) (hL : 112 ≤ L) (nn : Nat) (l0 : Nat) (l3 : Int32) (l4 : Int32) (l5 : Int32) (h : mx_H) {r : (Int32 × mx_H)} (hf : j_X9_scanToken_83 nn l0 l3 l4 l5 h = some r) : mx_S X F L 255 83 [(0, .ref l0), (3, .int l3), (4, .int l4), (5, .int l5)] [] h 0 0 (some (.int r.1), r.2, 0, 0) := by
  have hm : mx_mt 255 = some (yX9_scanToken, cX9_scanToken, 8, (some .int)) := mt_X9_scanToken
  unfold j_X9_scanToken_83 at hf
  refine sx_ic (v := 0) hm dX9_scanToken_83 (by decide) ?_
  exact j_X9_scanToken_84_ok X hF hL nn l0 l3 l4 l5 0 h hf
set_option maxHeartbeats 4000000 in
set_option maxRecDepth 20000 in
theorem j_X9_scanToken_53_ok (X : Nat × (Nat → Int32)) {F L : Nat} (hF : 4 ≤ F) (hL : 112 ≤ L) (nn : Nat) (l0 : Nat) (l1 : Nat) (l2 : Int32) (l3 : Int32) (l4 : Int32) (s0 : Int32) (h : mx_H) {r : (Int32 × mx_H)} (hf : j_X9_scanToken_53 nn l0 l1 l2 l3 l4 s0 h = some r) : mx_S X F L 255 53 [(0, .ref l0), (1, .ref l1), (2, .int l2), (3, .int l3), (4, .int l4)] [.int s0] h 0 0 (some (.int r.1), r.2, 0, 0) := by
  have hm : mx_mt 255 = some (yX9_scanToken, cX9_scanToken, 8, (some .int)) := mt_X9_scanToken
  unfold j_X9_scanToken_53 at hf
  refine mx_S.pu (pc2 := 55) (lv2 := [(5, .int s0), (0, .ref l0), (1, .ref l1), (2, .int l2), (3, .int l3), (4, .int l4)]) (st2 := []) hm dX9_scanToken_53 rfl ?_
  refine mx_S.pu (pc2 := 57) (lv2 := [(5, .int s0), (0, .ref l0), (1, .ref l1), (2, .int l2), (3, .int l3), (4, .int l4)]) (st2 := [.int s0]) hm dX9_scanToken_55 rfl ?_
  refine sx_bi (v := 62) hm dX9_scanToken_57 (by decide) ?_
  rcases mx_if_el hf with ⟨c14, hf⟩ | ⟨c14, hf⟩
  · refine sb_ic_ne hm dX9_scanToken_59 (tgt := 83) rfl (fun _ => ?_) (fun z => absurd c14 z)
    refine mx_S.ext [(0, .ref l0), (3, .int l3), (4, .int l4), (5, .int s0)] (mx_sub_pos [1, 4, 5, 0] rfl (show ([5, 0, 1, 2, 3, 4] : List Nat).Nodup by decide)) ?_
    exact j_X9_scanToken_83_ok X hF hL nn l0 l3 l4 s0 h hf
  · refine sb_ic_ne hm dX9_scanToken_59 (tgt := 83) rfl (fun z => absurd z c14) (fun _ => ?_)
    refine mx_S.pu (pc2 := 63) (lv2 := [(5, .int s0), (0, .ref l0), (1, .ref l1), (2, .int l2), (3, .int l3), (4, .int l4)]) (st2 := [.int l3]) hm dX9_scanToken_62 rfl ?_
    refine sx_ic (v := 2) hm dX9_scanToken_63 (by decide) ?_
    replace hf := xl_el hf; obtain ⟨v9, e_v9, hf⟩ := hf
    refine mx_S.pu (pc2 := 65) (lv2 := [(5, .int s0), (0, .ref l0), (1, .ref l1), (2, .int l2), (3, .int l3), (4, .int l4)]) (st2 := [.int v9]) hm dX9_scanToken_64 (by rw [← e_v9]; rfl) ?_
    clear e_v9
    refine mx_S.pu (pc2 := 66) (lv2 := [(5, .int s0), (0, .ref l0), (1, .ref l1), (2, .int l2), (3, .int l3), (4, .int l4)]) (st2 := [.int l2, .int v9]) hm dX9_scanToken_65 rfl ?_
    rcases mx_if_el hf with ⟨c13, hf⟩ | ⟨c13, hf⟩
    · refine sb_ic_ge hm dX9_scanToken_66 (tgt := 83) rfl (fun _ => ?_) (fun z => absurd c13 z)
      refine mx_S.ext [(0, .ref l0), (3, .int l3), (4, .int l4), (5, .int s0)] (mx_sub_pos [1, 4, 5, 0] rfl (show ([5, 0, 1, 2, 3, 4] : List Nat).Nodup by decide)) ?_
      exact j_X9_scanToken_83_ok X hF hL nn l0 l3 l4 s0 h hf
    · refine sb_ic_ge hm dX9_scanToken_66 (tgt := 83) rfl (fun z => absurd z c13) (fun _ => ?_)
      refine mx_S.pu (pc2 := 70) (lv2 := [(5, .int s0), (0, .ref l0), (1, .ref l1), (2, .int l2), (3, .int l3), (4, .int l4)]) (st2 := [.ref l1]) hm dX9_scanToken_69 rfl ?_
      refine mx_S.pu (pc2 := 71) (lv2 := [(5, .int s0), (0, .ref l0), (1, .ref l1), (2, .int l2), (3, .int l3), (4, .int l4)]) (st2 := [.int l3, .ref l1]) hm dX9_scanToken_70 rfl ?_
      refine sx_ic (v := 2) hm dX9_scanToken_71 (by decide) ?_
      replace hf := xl_el hf; obtain ⟨v10, e_v10, hf⟩ := hf
      refine mx_S.pu (pc2 := 73) (lv2 := [(5, .int s0), (0, .ref l0), (1, .ref l1), (2, .int l2), (3, .int l3), (4, .int l4)]) (st2 := [.int v10, .ref l1]) hm dX9_scanToken_72 (by rw [← e_v10]; rfl) ?_
      clear e_v10
      replace hf := mx_sv_el hf; obtain ⟨v11, e_v11, hf⟩ := hf
      refine sx_bld hm dX9_scanToken_73 e_v11 ?_
      clear e_v11
      refine sx_bi (v := 62) hm dX9_scanToken_74 (by decide) ?_
      rcases mx_if_el hf with ⟨c12, hf⟩ | ⟨c12, hf⟩
      · refine sb_ic_ne hm dX9_scanToken_76 (tgt := 83) rfl (fun _ => ?_) (fun z => absurd c12 z)
        refine mx_S.ext [(0, .ref l0), (3, .int l3), (4, .int l4), (5, .int s0)] (mx_sub_pos [1, 4, 5, 0] rfl (show ([5, 0, 1, 2, 3, 4] : List Nat).Nodup by decide)) ?_
        exact j_X9_scanToken_83_ok X hF hL nn l0 l3 l4 s0 h hf
      · refine sb_ic_ne hm dX9_scanToken_76 (tgt := 83) rfl (fun z => absurd z c12) (fun _ => ?_)
        refine sx_ic (v := 1) hm dX9_scanToken_79 (by decide) ?_
        refine mx_S.pu (pc2 := 84) (lv2 := [(5, .int s0), (0, .ref l0), (1, .ref l1), (2, .int l2), (3, .int l3), (4, .int l4)]) (st2 := [.int 1]) hm dX9_scanToken_80 rfl ?_
        refine mx_S.ext [(0, .ref l0), (3, .int l3), (4, .int l4), (5, .int s0)] (mx_sub_pos [1, 4, 5, 0] rfl (show ([5, 0, 1, 2, 3, 4] : List Nat).Nodup by decide)) ?_
        exact j_X9_scanToken_84_ok X hF hL nn l0 l3 l4 s0 1 h hf
set_option maxHeartbeats 4000000 in
set_option maxRecDepth 20000 in
theorem f_X9_scanToken_ok (X : Nat × (Nat → Int32)) {F L : Nat} (hF : 4 ≤ F) (hL : 112 ≤ L) (nn : Nat) (a0 : Nat) (a1 : Nat) (a2 : Int32) (a3 : Int32) (h : mx_H) {r : (Int32 × mx_H)} (hf : f_X9_scanToken nn a0 a1 a2 a3 h = some r) : mx_R X F L 255 [.ref a0, .ref a1, .int a2, .int a3] h (some (.int r.1), r.2, 0, 0) := by
  have hm : mx_mt 255 = some (yX9_scanToken, cX9_scanToken, 8, (some .int)) := mt_X9_scanToken
  show mx_S X F L 255 0 [(0, .ref a0), (1, .ref a1), (2, .int a2), (3, .int a3)] [] h 0 0 (some (.int r.1), r.2, 0, 0)
  unfold f_X9_scanToken at hf
  refine mx_S.pu (pc2 := 1) (lv2 := [(0, .ref a0), (1, .ref a1), (2, .int a2), (3, .int a3)]) (st2 := [.ref a1]) hm dX9_scanToken_0 rfl ?_
  refine mx_S.pu (pc2 := 2) (lv2 := [(0, .ref a0), (1, .ref a1), (2, .int a2), (3, .int a3)]) (st2 := [.int a3, .ref a1]) hm dX9_scanToken_1 rfl ?_
  replace hf := mx_sv_el hf; obtain ⟨v15, e_v15, hf⟩ := hf
  refine sx_bld hm dX9_scanToken_2 e_v15 ?_
  clear e_v15
  refine mx_S.pu (pc2 := 5) (lv2 := [(4, .int v15), (0, .ref a0), (1, .ref a1), (2, .int a2), (3, .int a3)]) (st2 := []) hm dX9_scanToken_3 rfl ?_
  refine mx_S.pu (pc2 := 7) (lv2 := [(4, .int v15), (0, .ref a0), (1, .ref a1), (2, .int a2), (3, .int a3)]) (st2 := [.int v15]) hm dX9_scanToken_5 rfl ?_
  replace hf := mx_sv_el hf; obtain ⟨u16, e_u16, hf⟩ := hf
  refine sx_cs hm dX9_scanToken_7 rs_RX9_103 mt_X9_isLetter [.int v15] [] rfl rfl (Nat.le_of_ble_eq_true rfl) (Nat.le_of_ble_eq_true rfl) (by omega) (by omega) (f_X9_isLetter_ok X (by omega) (by omega) nn v15 h e_u16) ?_
  clear e_u16
  show mx_S X F L 255 10 [(4, .int v15), (0, .ref a0), (1, .ref a1), (2, .int a2), (3, .int a3)] [.int u16.1] u16.2 0 0 (some (.int r.1), r.2, 0, 0)
  rcases mx_if_el hf with ⟨c27, hf⟩ | ⟨c27, hf⟩
  · refine sb_if_eq hm dX9_scanToken_10 (tgt := 21) rfl (fun _ => ?_) (fun z => absurd c27 z)
    refine mx_S.pu (pc2 := 23) (lv2 := [(4, .int v15), (0, .ref a0), (1, .ref a1), (2, .int a2), (3, .int a3)]) (st2 := [.int v15]) hm dX9_scanToken_21 rfl ?_
    replace hf := mx_sv_el hf; obtain ⟨u17, e_u17, hf⟩ := hf
    refine sx_cs hm dX9_scanToken_23 rs_RX9_110 mt_X9_isDigit [.int v15] [] rfl rfl (Nat.le_of_ble_eq_true rfl) (Nat.le_of_ble_eq_true rfl) (by omega) (by omega) (f_X9_isDigit_ok X (by omega) (by omega) nn v15 u16.2 e_u17) ?_
    clear e_u17
    show mx_S X F L 255 26 [(4, .int v15), (0, .ref a0), (1, .ref a1), (2, .int a2), (3, .int a3)] [.int u17.1] u17.2 0 0 (some (.int r.1), r.2, 0, 0)
    rcases mx_if_el hf with ⟨c24, hf⟩ | ⟨c24, hf⟩
    · refine sb_if_eq hm dX9_scanToken_26 (tgt := 37) rfl (fun _ => ?_) (fun z => absurd c24 z)
      refine mx_S.pu (pc2 := 38) (lv2 := [(4, .int v15), (0, .ref a0), (1, .ref a1), (2, .int a2), (3, .int a3)]) (st2 := [.int a3]) hm dX9_scanToken_37 rfl ?_
      refine sx_ic (v := 1) hm dX9_scanToken_38 (by decide) ?_
      replace hf := xl_el hf; obtain ⟨v18, e_v18, hf⟩ := hf
      refine mx_S.pu (pc2 := 40) (lv2 := [(4, .int v15), (0, .ref a0), (1, .ref a1), (2, .int a2), (3, .int a3)]) (st2 := [.int v18]) hm dX9_scanToken_39 (by rw [← e_v18]; rfl) ?_
      clear e_v18
      refine mx_S.pu (pc2 := 41) (lv2 := [(4, .int v15), (0, .ref a0), (1, .ref a1), (2, .int a2), (3, .int a3)]) (st2 := [.int a2, .int v18]) hm dX9_scanToken_40 rfl ?_
      rcases mx_if_el hf with ⟨c21, hf⟩ | ⟨c21, hf⟩
      · refine sb_ic_ge hm dX9_scanToken_41 (tgt := 52) rfl (fun _ => ?_) (fun z => absurd c21 z)
        refine sx_ic (v := 0) hm dX9_scanToken_52 (by decide) ?_
        refine mx_S.ext [(0, .ref a0), (1, .ref a1), (2, .int a2), (3, .int a3), (4, .int v15)] (mx_sub_pos [1, 2, 3, 4, 0] rfl (show ([4, 0, 1, 2, 3] : List Nat).Nodup by decide)) ?_
        exact j_X9_scanToken_53_ok X hF hL nn a0 a1 a2 a3 v15 0 u17.2 hf
      · refine sb_ic_ge hm dX9_scanToken_41 (tgt := 52) rfl (fun z => absurd z c21) (fun _ => ?_)
        refine mx_S.pu (pc2 := 45) (lv2 := [(4, .int v15), (0, .ref a0), (1, .ref a1), (2, .int a2), (3, .int a3)]) (st2 := [.ref a1]) hm dX9_scanToken_44 rfl ?_
        refine mx_S.pu (pc2 := 46) (lv2 := [(4, .int v15), (0, .ref a0), (1, .ref a1), (2, .int a2), (3, .int a3)]) (st2 := [.int a3, .ref a1]) hm dX9_scanToken_45 rfl ?_
        refine sx_ic (v := 1) hm dX9_scanToken_46 (by decide) ?_
        replace hf := xl_el hf; obtain ⟨v19, e_v19, hf⟩ := hf
        refine mx_S.pu (pc2 := 48) (lv2 := [(4, .int v15), (0, .ref a0), (1, .ref a1), (2, .int a2), (3, .int a3)]) (st2 := [.int v19, .ref a1]) hm dX9_scanToken_47 (by rw [← e_v19]; rfl) ?_
        clear e_v19
        replace hf := mx_sv_el hf; obtain ⟨v20, e_v20, hf⟩ := hf
        refine sx_bld hm dX9_scanToken_48 e_v20 ?_
        clear e_v20
        refine mx_S.pu (pc2 := 53) (lv2 := [(4, .int v15), (0, .ref a0), (1, .ref a1), (2, .int a2), (3, .int a3)]) (st2 := [.int v20]) hm dX9_scanToken_49 rfl ?_
        refine mx_S.ext [(0, .ref a0), (1, .ref a1), (2, .int a2), (3, .int a3), (4, .int v15)] (mx_sub_pos [1, 2, 3, 4, 0] rfl (show ([4, 0, 1, 2, 3] : List Nat).Nodup by decide)) ?_
        exact j_X9_scanToken_53_ok X hF hL nn a0 a1 a2 a3 v15 v20 u17.2 hf
    · refine sb_if_eq hm dX9_scanToken_26 (tgt := 37) rfl (fun z => absurd z c24) (fun _ => ?_)
      refine mx_S.pu (pc2 := 30) (lv2 := [(4, .int v15), (0, .ref a0), (1, .ref a1), (2, .int a2), (3, .int a3)]) (st2 := [.ref a0]) hm dX9_scanToken_29 rfl ?_
      refine mx_S.pu (pc2 := 31) (lv2 := [(4, .int v15), (0, .ref a0), (1, .ref a1), (2, .int a2), (3, .int a3)]) (st2 := [.ref a1, .ref a0]) hm dX9_scanToken_30 rfl ?_
      refine mx_S.pu (pc2 := 32) (lv2 := [(4, .int v15), (0, .ref a0), (1, .ref a1), (2, .int a2), (3, .int a3)]) (st2 := [.int a2, .ref a1, .ref a0]) hm dX9_scanToken_31 rfl ?_
      refine mx_S.pu (pc2 := 33) (lv2 := [(4, .int v15), (0, .ref a0), (1, .ref a1), (2, .int a2), (3, .int a3)]) (st2 := [.int a3, .int a2, .ref a1, .ref a0]) hm dX9_scanToken_32 rfl ?_
      replace hf := mx_gd_el hf; obtain ⟨c22, hf⟩ := hf
      replace hf := mx_sv_el hf; obtain ⟨u23, e_u23, hf⟩ := hf
      refine sx_cv hm dX9_scanToken_33 rs_RX9_113 mt_X9_scanNumber [.ref a1, .int a2, .int a3] [] (b := a0) (ci := 9) rfl rfl rfl c22 (Nat.le_of_ble_eq_true rfl) (Nat.le_of_ble_eq_true rfl) (by omega) (by omega) (f_X9_scanNumber_ok X (by omega) (by omega) nn a0 a1 a2 a3 u17.2 e_u23) ?_
      clear e_u23
      show mx_S X F L 255 36 [(4, .int v15), (0, .ref a0), (1, .ref a1), (2, .int a2), (3, .int a3)] [.int u23.1] u23.2 0 0 (some (.int r.1), r.2, 0, 0)
      cases hf
      exact sx_ire hm dX9_scanToken_36 rfl rfl
  · refine sb_if_eq hm dX9_scanToken_10 (tgt := 21) rfl (fun z => absurd z c27) (fun _ => ?_)
    refine mx_S.pu (pc2 := 14) (lv2 := [(4, .int v15), (0, .ref a0), (1, .ref a1), (2, .int a2), (3, .int a3)]) (st2 := [.ref a0]) hm dX9_scanToken_13 rfl ?_
    refine mx_S.pu (pc2 := 15) (lv2 := [(4, .int v15), (0, .ref a0), (1, .ref a1), (2, .int a2), (3, .int a3)]) (st2 := [.ref a1, .ref a0]) hm dX9_scanToken_14 rfl ?_
    refine mx_S.pu (pc2 := 16) (lv2 := [(4, .int v15), (0, .ref a0), (1, .ref a1), (2, .int a2), (3, .int a3)]) (st2 := [.int a2, .ref a1, .ref a0]) hm dX9_scanToken_15 rfl ?_
    refine mx_S.pu (pc2 := 17) (lv2 := [(4, .int v15), (0, .ref a0), (1, .ref a1), (2, .int a2), (3, .int a3)]) (st2 := [.int a3, .int a2, .ref a1, .ref a0]) hm dX9_scanToken_16 rfl ?_
    replace hf := mx_gd_el hf; obtain ⟨c25, hf⟩ := hf
    replace hf := mx_sv_el hf; obtain ⟨u26, e_u26, hf⟩ := hf
    refine sx_cv hm dX9_scanToken_17 rs_RX9_107 mt_X9_scanWord [.ref a1, .int a2, .int a3] [] (b := a0) (ci := 9) rfl rfl rfl c25 (Nat.le_of_ble_eq_true rfl) (Nat.le_of_ble_eq_true rfl) (by omega) (by omega) (f_X9_scanWord_ok X (by omega) (by omega) nn a0 a1 a2 a3 u16.2 e_u26) ?_
    clear e_u26
    show mx_S X F L 255 20 [(4, .int v15), (0, .ref a0), (1, .ref a1), (2, .int a2), (3, .int a3)] [.int u26.1] u26.2 0 0 (some (.int r.1), r.2, 0, 0)
    cases hf
    exact sx_ire hm dX9_scanToken_20 rfl rfl
set_option maxHeartbeats 4000000 in
set_option maxRecDepth 20000 in
theorem j_X9_scan_102_ok (X : Nat × (Nat → Int32)) {F L : Nat} (hF : 5 ≤ F) (hL : 139 ≤ L) (nn : Nat) (l0 : Nat) (l2 : Int32) (h : mx_H) {r : mx_H} (hf : j_X9_scan_102 nn l0 l2 h = some r) : mx_S X F L 252 102 [(0, .ref l0), (2, .int l2)] [] h 0 0 (none, r, 0, 0) := by
  have hm : mx_mt 252 = some (yX9_scan, cX9_scan, 6, none) := mt_X9_scan
  unfold j_X9_scan_102 at hf
  refine mx_S.pu (pc2 := 103) (lv2 := [(0, .ref l0), (2, .int l2)]) (st2 := [.ref l0]) hm dX9_scan_102 rfl ?_
  refine sx_ic (v := 0) hm dX9_scan_103 (by decide) ?_
  refine mx_S.pu (pc2 := 105) (lv2 := [(0, .ref l0), (2, .int l2)]) (st2 := [.int l2, .int 0, .ref l0]) hm dX9_scan_104 rfl ?_
  refine sx_ic (v := 0) hm dX9_scan_105 (by decide) ?_
  replace hf := mx_gd_el hf; obtain ⟨c1, hf⟩ := hf
  replace hf := mx_sv_el hf; obtain ⟨u2, e_u2, hf⟩ := hf
  refine sx_cv hm dX9_scan_106 rs_RX9_99 mt_X9_addToken [.int 0, .int l2, .int 0] [] (b := l0) (ci := 9) rfl rfl rfl c1 (Nat.le_of_ble_eq_true rfl) (Nat.le_of_ble_eq_true rfl) (by omega) (by omega) (f_X9_addToken_ok X (by omega) (by omega) nn l0 0 l2 0 h e_u2) ?_
  clear e_u2
  show mx_S X F L 252 109 [(0, .ref l0), (2, .int l2)] [] u2 0 0 (none, r, 0, 0)
  cases hf
  exact sx_ret hm dX9_scan_109 rfl
set_option maxHeartbeats 4000000 in
set_option maxRecDepth 20000 in
theorem w_X9_scan_51_ok (X : Nat × (Nat → Int32)) {F L : Nat} (hF : 5 ≤ F) (hL : 139 ≤ L) (nn : Nat) : ∀ (k : Nat) (l0 : Nat) (l1 : Nat) (l2 : Int32) (l3 : Int32) (l4 : Int32) (h : mx_H) (r : mx_H), w_X9_scan_51 nn k l0 l1 l2 l3 l4 h = some r → mx_S X F L 252 51 [(0, .ref l0), (1, .ref l1), (2, .int l2), (3, .int l3), (4, .int l4)] [] h 0 0 (none, r, 0, 0) := by
  have hm : mx_mt 252 = some (yX9_scan, cX9_scan, 6, none) := mt_X9_scan
  intro k
  induction k with
  | zero => intro l0 l1 l2 l3 l4 h r hf; cases hf
  | succ k ih =>
    intro l0 l1 l2 l3 l4 h r hf
    unfold w_X9_scan_51 at hf
    refine mx_S.pu (pc2 := 53) (lv2 := [(0, .ref l0), (1, .ref l1), (2, .int l2), (3, .int l3), (4, .int l4)]) (st2 := [.int l4]) hm dX9_scan_51 rfl ?_
    refine sx_si (v := 3000) hm dX9_scan_53 (by decide) ?_
    rcases mx_if_el hf with ⟨c12, hf⟩ | ⟨c12, hf⟩
    · refine sb_ic_ge hm dX9_scan_56 (tgt := 102) rfl (fun _ => ?_) (fun z => absurd c12 z)
      refine mx_S.ext [(0, .ref l0), (2, .int l2)] (mx_sub_pos [0, 2] rfl (show ([0, 1, 2, 3, 4] : List Nat).Nodup by decide)) ?_
      exact j_X9_scan_102_ok X hF hL nn l0 l2 h hf
    · refine sb_ic_ge hm dX9_scan_56 (tgt := 102) rfl (fun z => absurd z c12) (fun _ => ?_)
      refine mx_S.pu (pc2 := 60) (lv2 := [(0, .ref l0), (1, .ref l1), (2, .int l2), (3, .int l3), (4, .int l4)]) (st2 := [.int l3]) hm dX9_scan_59 rfl ?_
      refine mx_S.pu (pc2 := 61) (lv2 := [(0, .ref l0), (1, .ref l1), (2, .int l2), (3, .int l3), (4, .int l4)]) (st2 := [.int l2, .int l3]) hm dX9_scan_60 rfl ?_
      rcases mx_if_el hf with ⟨c11, hf⟩ | ⟨c11, hf⟩
      · refine sb_ic_ge hm dX9_scan_61 (tgt := 102) rfl (fun _ => ?_) (fun z => absurd c11 z)
        refine mx_S.ext [(0, .ref l0), (2, .int l2)] (mx_sub_pos [0, 2] rfl (show ([0, 1, 2, 3, 4] : List Nat).Nodup by decide)) ?_
        exact j_X9_scan_102_ok X hF hL nn l0 l2 h hf
      · refine sb_ic_ge hm dX9_scan_61 (tgt := 102) rfl (fun z => absurd z c11) (fun _ => ?_)
        refine mx_S.pu (pc2 := 65) (lv2 := [(0, .ref l0), (1, .ref l1), (2, .int l2), (3, .int l3), (4, .int l4)]) (st2 := [.ref l0]) hm dX9_scan_64 rfl ?_
        refine mx_S.pu (pc2 := 66) (lv2 := [(0, .ref l0), (1, .ref l1), (2, .int l2), (3, .int l3), (4, .int l4)]) (st2 := [.ref l1, .ref l0]) hm dX9_scan_65 rfl ?_
        refine mx_S.pu (pc2 := 67) (lv2 := [(0, .ref l0), (1, .ref l1), (2, .int l2), (3, .int l3), (4, .int l4)]) (st2 := [.int l2, .ref l1, .ref l0]) hm dX9_scan_66 rfl ?_
        refine mx_S.pu (pc2 := 68) (lv2 := [(0, .ref l0), (1, .ref l1), (2, .int l2), (3, .int l3), (4, .int l4)]) (st2 := [.int l3, .int l2, .ref l1, .ref l0]) hm dX9_scan_67 rfl ?_
        replace hf := mx_gd_el hf; obtain ⟨c3, hf⟩ := hf
        replace hf := mx_sv_el hf; obtain ⟨u4, e_u4, hf⟩ := hf
        refine sx_cv hm dX9_scan_68 rs_RX9_96 mt_X9_scanToken [.ref l1, .int l2, .int l3] [] (b := l0) (ci := 9) rfl rfl rfl c3 (Nat.le_of_ble_eq_true rfl) (Nat.le_of_ble_eq_true rfl) (by omega) (by omega) (f_X9_scanToken_ok X (by omega) (by omega) nn l0 l1 l2 l3 h e_u4) ?_
        clear e_u4
        show mx_S X F L 252 71 [(0, .ref l0), (1, .ref l1), (2, .int l2), (3, .int l3), (4, .int l4)] [.int u4.1] u4.2 0 0 (none, r, 0, 0)
        refine mx_S.pu (pc2 := 73) (lv2 := [(5, .int u4.1), (0, .ref l0), (1, .ref l1), (2, .int l2), (3, .int l3), (4, .int l4)]) (st2 := []) hm dX9_scan_71 rfl ?_
        refine mx_S.pu (pc2 := 75) (lv2 := [(5, .int u4.1), (0, .ref l0), (1, .ref l1), (2, .int l2), (3, .int l3), (4, .int l4)]) (st2 := [.int u4.1]) hm dX9_scan_73 rfl ?_
        rcases mx_if_el hf with ⟨c10, hf⟩ | ⟨c10, hf⟩
        · refine sb_if_ne hm dX9_scan_75 (tgt := 86) rfl (fun _ => ?_) (fun z => absurd c10 z)
          refine mx_S.pu (pc2 := 87) (lv2 := [(5, .int u4.1), (0, .ref l0), (1, .ref l1), (2, .int l2), (3, .int l3), (4, .int l4)]) (st2 := [.ref l1]) hm dX9_scan_86 rfl ?_
          refine mx_S.pu (pc2 := 88) (lv2 := [(5, .int u4.1), (0, .ref l0), (1, .ref l1), (2, .int l2), (3, .int l3), (4, .int l4)]) (st2 := [.int l2, .ref l1]) hm dX9_scan_87 rfl ?_
          refine mx_S.pu (pc2 := 89) (lv2 := [(5, .int u4.1), (0, .ref l0), (1, .ref l1), (2, .int l2), (3, .int l3), (4, .int l4)]) (st2 := [.int l3, .int l2, .ref l1]) hm dX9_scan_88 rfl ?_
          refine mx_S.pu (pc2 := 91) (lv2 := [(5, .int u4.1), (0, .ref l0), (1, .ref l1), (2, .int l2), (3, .int l3), (4, .int l4)]) (st2 := [.int u4.1, .int l3, .int l2, .ref l1]) hm dX9_scan_89 rfl ?_
          replace hf := xl_el hf; obtain ⟨v5, e_v5, hf⟩ := hf
          refine mx_S.pu (pc2 := 92) (lv2 := [(5, .int u4.1), (0, .ref l0), (1, .ref l1), (2, .int l2), (3, .int l3), (4, .int l4)]) (st2 := [.int v5, .int l2, .ref l1]) hm dX9_scan_91 (by rw [← e_v5]; rfl) ?_
          clear e_v5
          replace hf := mx_sv_el hf; obtain ⟨u6, e_u6, hf⟩ := hf
          refine sx_cs hm dX9_scan_92 rs_RX9_93 mt_X9_behindBlanks [.ref l1, .int l2, .int v5] [] rfl rfl (Nat.le_of_ble_eq_true rfl) (Nat.le_of_ble_eq_true rfl) (by omega) (by omega) (f_X9_behindBlanks_ok X (by omega) (by omega) nn l1 l2 v5 u4.2 e_u6) ?_
          clear e_u6
          show mx_S X F L 252 95 [(5, .int u4.1), (0, .ref l0), (1, .ref l1), (2, .int l2), (3, .int l3), (4, .int l4)] [.int u6.1] u6.2 0 0 (none, r, 0, 0)
          refine mx_S.pu (pc2 := 96) (lv2 := [(3, .int u6.1), (5, .int u4.1), (0, .ref l0), (1, .ref l1), (2, .int l2), (4, .int l4)]) (st2 := []) hm dX9_scan_95 rfl ?_
          replace hf := xl_el hf; obtain ⟨v7, e_v7, hf⟩ := hf
          refine mx_S.pu (pc2 := 99) (lv2 := [(4, .int v7), (3, .int u6.1), (5, .int u4.1), (0, .ref l0), (1, .ref l1), (2, .int l2)]) (st2 := []) hm dX9_scan_96 (by rw [← e_v7]; rfl) ?_
          clear e_v7
          refine mx_S.pu (pc2 := 51) (lv2 := [(4, .int v7), (3, .int u6.1), (5, .int u4.1), (0, .ref l0), (1, .ref l1), (2, .int l2)]) (st2 := []) hm dX9_scan_99 rfl ?_
          refine mx_S.ext [(0, .ref l0), (1, .ref l1), (2, .int l2), (3, .int u6.1), (4, .int v7)] (mx_sub_pos [3, 4, 5, 1, 0] rfl (show ([4, 3, 5, 0, 1, 2] : List Nat).Nodup by decide)) ?_
          exact ih l0 l1 l2 u6.1 v7 u6.2 _ hf
        · refine sb_if_ne hm dX9_scan_75 (tgt := 86) rfl (fun z => absurd z c10) (fun _ => ?_)
          refine mx_S.pu (pc2 := 79) (lv2 := [(5, .int u4.1), (0, .ref l0), (1, .ref l1), (2, .int l2), (3, .int l3), (4, .int l4)]) (st2 := [.ref l0]) hm dX9_scan_78 rfl ?_
          refine sx_ic (v := 1) hm dX9_scan_79 (by decide) ?_
          refine mx_S.pu (pc2 := 81) (lv2 := [(5, .int u4.1), (0, .ref l0), (1, .ref l1), (2, .int l2), (3, .int l3), (4, .int l4)]) (st2 := [.int l3, .int 1, .ref l0]) hm dX9_scan_80 rfl ?_
          refine sx_ic (v := 0) hm dX9_scan_81 (by decide) ?_
          replace hf := mx_gd_el hf; obtain ⟨c8, hf⟩ := hf
          replace hf := mx_sv_el hf; obtain ⟨u9, e_u9, hf⟩ := hf
          refine sx_cv hm dX9_scan_82 rs_RX9_99 mt_X9_addToken [.int 1, .int l3, .int 0] [] (b := l0) (ci := 9) rfl rfl rfl c8 (Nat.le_of_ble_eq_true rfl) (Nat.le_of_ble_eq_true rfl) (by omega) (by omega) (f_X9_addToken_ok X (by omega) (by omega) nn l0 1 l3 0 u4.2 e_u9) ?_
          clear e_u9
          show mx_S X F L 252 85 [(5, .int u4.1), (0, .ref l0), (1, .ref l1), (2, .int l2), (3, .int l3), (4, .int l4)] [] u9 0 0 (none, r, 0, 0)
          cases hf
          exact sx_ret hm dX9_scan_85 rfl
set_option maxHeartbeats 4000000 in
set_option maxRecDepth 20000 in
theorem f_X9_scan_ok (X : Nat × (Nat → Int32)) {F L : Nat} (hF : 5 ≤ F) (hL : 139 ≤ L) (nn : Nat) (a0 : Nat) (a1 : Nat) (a2 : Int32) (h : mx_H) {r : mx_H} (hf : f_X9_scan nn a0 a1 a2 h = some r) : mx_R X F L 252 [.ref a0, .ref a1, .int a2] h (none, r, 0, 0) := by
  have hm : mx_mt 252 = some (yX9_scan, cX9_scan, 6, none) := mt_X9_scan
  show mx_S X F L 252 0 [(0, .ref a0), (1, .ref a1), (2, .int a2)] [] h 0 0 (none, r, 0, 0)
  unfold f_X9_scan at hf
  refine mx_S.pu (pc2 := 1) (lv2 := [(0, .ref a0), (1, .ref a1), (2, .int a2)]) (st2 := [.ref a0]) hm dX9_scan_0 rfl ?_
  refine sx_bi (v := 32) hm dX9_scan_1 (by decide) ?_
  replace hf := mx_sv_el hf; obtain ⟨h13, e_h13, hf⟩ := hf
  refine sx_put hm dX9_scan_3 rs_RX9_73 ft_9_9 ⟨rfl, rfl⟩ (fun z => by cases z) e_h13 ?_
  clear e_h13
  refine mx_S.pu (pc2 := 7) (lv2 := [(0, .ref a0), (1, .ref a1), (2, .int a2)]) (st2 := [.ref a0]) hm dX9_scan_6 rfl ?_
  replace hf := mx_sv_el hf; obtain ⟨v14, e_v14, hf⟩ := hf
  refine sx_get hm dX9_scan_7 rs_RX9_38 (xgr_el e_v14) ?_
  clear e_v14
  refine sx_ic (v := 0) hm dX9_scan_10 (by decide) ?_
  refine mx_S.pu (pc2 := 12) (lv2 := [(0, .ref a0), (1, .ref a1), (2, .int a2)]) (st2 := [.ref a0, .int 0, .ref v14]) hm dX9_scan_11 rfl ?_
  replace hf := mx_sv_el hf; obtain ⟨v15, e_v15, hf⟩ := hf
  refine sx_get hm dX9_scan_12 rs_RX9_35 (xgr_el e_v15) ?_
  clear e_v15
  refine sx_ic (v := 0) hm dX9_scan_15 (by decide) ?_
  refine sx_bi (v := 64) hm dX9_scan_16 (by decide) ?_
  replace hf := mx_sv_el hf; obtain ⟨h16, e_h16, hf⟩ := hf
  refine sx_copy hm dX9_scan_18 rs_RX9_67 e_h16 (by omega) (Nat.le_trans (Nat.le_of_ble_eq_true rfl : _ ≤ 60) (by omega)) ?_
  clear e_h16
  refine mx_S.pu (pc2 := 22) (lv2 := [(0, .ref a0), (1, .ref a1), (2, .int a2)]) (st2 := [.ref a0]) hm dX9_scan_21 rfl ?_
  refine sx_ic (v := 0) hm dX9_scan_22 (by decide) ?_
  replace hf := mx_sv_el hf; obtain ⟨h17, e_h17, hf⟩ := hf
  refine sx_put hm dX9_scan_23 rs_RX9_83 ft_9_3 ⟨rfl, rfl⟩ (fun z => by cases z) e_h17 ?_
  clear e_h17
  refine mx_S.pu (pc2 := 27) (lv2 := [(0, .ref a0), (1, .ref a1), (2, .int a2)]) (st2 := [.ref a0]) hm dX9_scan_26 rfl ?_
  refine sx_ic (v := 0) hm dX9_scan_27 (by decide) ?_
  replace hf := mx_sv_el hf; obtain ⟨h18, e_h18, hf⟩ := hf
  refine sx_put hm dX9_scan_28 rs_RX9_86 ft_9_10 ⟨rfl, rfl⟩ (fun z => by cases z) e_h18 ?_
  clear e_h18
  refine mx_S.pu (pc2 := 32) (lv2 := [(0, .ref a0), (1, .ref a1), (2, .int a2)]) (st2 := [.ref a0]) hm dX9_scan_31 rfl ?_
  refine sx_ic (v := 0) hm dX9_scan_32 (by decide) ?_
  replace hf := mx_sv_el hf; obtain ⟨h19, e_h19, hf⟩ := hf
  refine sx_put hm dX9_scan_33 rs_RX9_80 ft_9_11 ⟨rfl, rfl⟩ (fun z => by cases z) e_h19 ?_
  clear e_h19
  refine mx_S.pu (pc2 := 37) (lv2 := [(0, .ref a0), (1, .ref a1), (2, .int a2)]) (st2 := [.ref a0]) hm dX9_scan_36 rfl ?_
  refine sx_ic (v := (-1)) hm dX9_scan_37 (by decide) ?_
  replace hf := mx_sv_el hf; obtain ⟨h20, e_h20, hf⟩ := hf
  refine sx_put hm dX9_scan_38 rs_RX9_41 ft_9_12 ⟨rfl, rfl⟩ (fun z => by cases z) e_h20 ?_
  clear e_h20
  refine mx_S.pu (pc2 := 42) (lv2 := [(0, .ref a0), (1, .ref a1), (2, .int a2)]) (st2 := [.ref a1]) hm dX9_scan_41 rfl ?_
  refine mx_S.pu (pc2 := 43) (lv2 := [(0, .ref a0), (1, .ref a1), (2, .int a2)]) (st2 := [.int a2, .ref a1]) hm dX9_scan_42 rfl ?_
  refine sx_ic (v := 0) hm dX9_scan_43 (by decide) ?_
  replace hf := mx_sv_el hf; obtain ⟨u21, e_u21, hf⟩ := hf
  refine sx_cs hm dX9_scan_44 rs_RX9_93 mt_X9_behindBlanks [.ref a1, .int a2, .int 0] [] rfl rfl (Nat.le_of_ble_eq_true rfl) (Nat.le_of_ble_eq_true rfl) (by omega) (by omega) (f_X9_behindBlanks_ok X (by omega) (by omega) nn a1 a2 0 h20 e_u21) ?_
  clear e_u21
  show mx_S X F L 252 47 [(0, .ref a0), (1, .ref a1), (2, .int a2)] [.int u21.1] u21.2 0 0 (none, r, 0, 0)
  refine mx_S.pu (pc2 := 48) (lv2 := [(3, .int u21.1), (0, .ref a0), (1, .ref a1), (2, .int a2)]) (st2 := []) hm dX9_scan_47 rfl ?_
  refine sx_ic (v := 0) hm dX9_scan_48 (by decide) ?_
  refine mx_S.pu (pc2 := 51) (lv2 := [(4, .int 0), (3, .int u21.1), (0, .ref a0), (1, .ref a1), (2, .int a2)]) (st2 := []) hm dX9_scan_49 rfl ?_
  refine mx_S.ext [(0, .ref a0), (1, .ref a1), (2, .int a2), (3, .int u21.1), (4, .int 0)] (mx_sub_pos [2, 3, 4, 1, 0] rfl (show ([4, 3, 0, 1, 2] : List Nat).Nodup by decide)) ?_
  exact w_X9_scan_51_ok X hF hL nn nn a0 a1 a2 u21.1 0 u21.2 _ hf
set_option maxHeartbeats 4000000 in
set_option maxRecDepth 20000 in
theorem j_X12_compile_175_ok (X : Nat × (Nat → Int32)) {F L : Nat} (hF : 670 ≤ F) (hL : 19834 ≤ L) (nn : Nat) (l0 : Nat) (h : mx_H) (c : Nat) (s : Nat) {r : (Int32 × mx_H × Nat × Nat)} (hf : j_X12_compile_175 nn l0 h c s = some r) : mx_S X F L 363 175 [(0, .ref l0)] [] h c s (some (.int r.1), r.2.1, r.2.2.1, r.2.2.2) := by
  have hm : mx_mt 363 = some (yX12_compile, cX12_compile, 4, (some .int)) := mt_X12_compile
  unfold j_X12_compile_175 at hf
  refine mx_S.pu (pc2 := 176) (lv2 := [(0, .ref l0)]) (st2 := [.ref l0]) hm dX12_compile_175 rfl ?_
  replace hf := mx_sv_el hf; obtain ⟨v1, e_v1, hf⟩ := hf
  refine sx_get hm dX12_compile_176 rs_RX12_41 (xgr_el e_v1) ?_
  clear e_v1
  replace hf := mx_gd_el hf; obtain ⟨c2, hf⟩ := hf
  replace hf := mx_sv_el hf; obtain ⟨u3, e_u3, hf⟩ := hf
  refine sx_cv hm dX12_compile_179 rs_RX12_129 mt_X0_closeProgram [] [] (b := v1) (ci := 0) rfl rfl rfl c2 (Nat.le_of_ble_eq_true rfl) (Nat.le_of_ble_eq_true rfl) (by omega) (by omega) (f_X0_closeProgram_ok X (by omega) (by omega) nn v1 h e_u3) ?_
  clear e_u3
  show mx_S X F L 363 182 [(0, .ref l0)] [] u3 c s (some (.int r.1), r.2.1, r.2.2.1, r.2.2.2)
  refine mx_S.pu (pc2 := 183) (lv2 := [(0, .ref l0)]) (st2 := [.ref l0]) hm dX12_compile_182 rfl ?_
  replace hf := mx_sv_el hf; obtain ⟨v4, e_v4, hf⟩ := hf
  refine sx_get hm dX12_compile_183 rs_RX12_16 (xgr_el e_v4) ?_
  clear e_v4
  replace hf := mx_sv_el hf; obtain ⟨v5, e_v5, hf⟩ := hf
  refine sx_get hm dX12_compile_186 rs_RX12_113 (xgi_el e_v5) ?_
  clear e_v5
  rcases mx_if_el hf with ⟨c8, hf⟩ | ⟨c8, hf⟩
  · refine sb_if_ne hm dX12_compile_189 (tgt := 199) rfl (fun _ => ?_) (fun z => absurd c8 z)
    refine sx_ic (v := (-1)) hm dX12_compile_199 (by decide) ?_
    cases hf
    exact sx_ire hm dX12_compile_200 rfl rfl
  · refine sb_if_ne hm dX12_compile_189 (tgt := 199) rfl (fun z => absurd z c8) (fun _ => ?_)
    refine mx_S.pu (pc2 := 193) (lv2 := [(0, .ref l0)]) (st2 := [.ref l0]) hm dX12_compile_192 rfl ?_
    replace hf := mx_gd_el hf; obtain ⟨c6, hf⟩ := hf
    replace hf := mx_sv_el hf; obtain ⟨u7, e_u7, hf⟩ := hf
    refine sx_cv hm dX12_compile_193 rs_RX12_132 mt_X12_takeImages [] [] (b := l0) (ci := 12) rfl rfl rfl c6 (Nat.le_of_ble_eq_true rfl) (Nat.le_of_ble_eq_true rfl) (by omega) (by omega) (f_X12_takeImages_ok X (by omega) (by omega) nn l0 u3 e_u7) ?_
    clear e_u7
    show mx_S X F L 363 196 [(0, .ref l0)] [.int u7.1] u7.2 c s (some (.int r.1), r.2.1, r.2.2.1, r.2.2.2)
    refine mx_S.pu (pc2 := 200) (lv2 := [(0, .ref l0)]) (st2 := [.int u7.1]) hm dX12_compile_196 rfl ?_
    cases hf
    exact sx_ire hm dX12_compile_200 rfl rfl
set_option maxHeartbeats 4000000 in
set_option maxRecDepth 20000 in
theorem j_X12_compile_161_ok (X : Nat × (Nat → Int32)) {F L : Nat} (hF : 670 ≤ F) (hL : 19834 ≤ L) (nn : Nat) {kk_93 : Nat → Int32 → mx_H → Nat → Nat → Option (Int32 × mx_H × Nat × Nat)} (hk_93 : ∀ (l0 : Nat) (l2 : Int32) (h : mx_H) (c : Nat) (s : Nat) (r : (Int32 × mx_H × Nat × Nat)), kk_93 l0 l2 h c s = some r → mx_S X F L 363 93 [(0, .ref l0), (2, .int l2)] [] h c s (some (.int r.1), r.2.1, r.2.2.1, r.2.2.2)) (l0 : Nat) (l2 : Int32) (h : mx_H) (c : Nat) (s : Nat) {r : (Int32 × mx_H × Nat × Nat)} (hf : j_X12_compile_161 nn kk_93 l0 l2 h c s = some r) : mx_S X F L 363 161 [(0, .ref l0), (2, .int l2)] [] h c s (some (.int r.1), r.2.1, r.2.2.1, r.2.2.2) := by
  have hm : mx_mt 363 = some (yX12_compile, cX12_compile, 4, (some .int)) := mt_X12_compile
  unfold j_X12_compile_161 at hf
  refine mx_S.pu (pc2 := 162) (lv2 := [(0, .ref l0), (2, .int l2)]) (st2 := [.ref l0]) hm dX12_compile_161 rfl ?_
  replace hf := mx_sv_el hf; obtain ⟨v9, e_v9, hf⟩ := hf
  refine sx_get hm dX12_compile_162 rs_RX12_41 (xgr_el e_v9) ?_
  clear e_v9
  refine mx_S.pu (pc2 := 166) (lv2 := [(0, .ref l0), (2, .int l2)]) (st2 := [.int l2, .ref v9]) hm dX12_compile_165 rfl ?_
  replace hf := mx_gd_el hf; obtain ⟨c10, hf⟩ := hf
  replace hf := mx_sv_el hf; obtain ⟨u11, e_u11, hf⟩ := hf
  refine sx_cvA hm dX12_compile_166 rs_RX12_126 mt_X0_closeClass [.int l2] [] (b := v9) (ci := 0) rfl rfl rfl c10 (Nat.le_of_ble_eq_true rfl) (Nat.le_of_ble_eq_true rfl) (by omega) (by omega) (f_X0_closeClass_ok X (by omega) (by omega) nn v9 l2 h e_u11) ?_
  clear e_u11
  show mx_S X F L 363 169 [(0, .ref l0), (2, .int l2)] [] u11.1 (c + u11.2.1) (s + u11.2.2) (some (.int r.1), r.2.1, r.2.2.1, r.2.2.2)
  replace hf := xl_el hf; obtain ⟨v12, e_v12, hf⟩ := hf
  refine mx_S.pu (pc2 := 172) (lv2 := [(2, .int v12), (0, .ref l0)]) (st2 := []) hm dX12_compile_169 (by rw [← e_v12]; rfl) ?_
  clear e_v12
  refine mx_S.pu (pc2 := 93) (lv2 := [(2, .int v12), (0, .ref l0)]) (st2 := []) hm dX12_compile_172 rfl ?_
  refine mx_S.ext [(0, .ref l0), (2, .int v12)] (mx_sub_pos [1, 0] rfl (show ([2, 0] : List Nat).Nodup by decide)) ?_
  exact hk_93 l0 v12 u11.1 (c + u11.2.1) (s + u11.2.2) _ hf
set_option maxHeartbeats 4000000 in
set_option maxRecDepth 20000 in
theorem w_X12_compile_124_ok (X : Nat × (Nat → Int32)) {F L : Nat} (hF : 670 ≤ F) (hL : 19834 ≤ L) (nn : Nat) {kk_93 : Nat → Int32 → mx_H → Nat → Nat → Option (Int32 × mx_H × Nat × Nat)} (hk_93 : ∀ (l0 : Nat) (l2 : Int32) (h : mx_H) (c : Nat) (s : Nat) (r : (Int32 × mx_H × Nat × Nat)), kk_93 l0 l2 h c s = some r → mx_S X F L 363 93 [(0, .ref l0), (2, .int l2)] [] h c s (some (.int r.1), r.2.1, r.2.2.1, r.2.2.2)) : ∀ (k : Nat) (l0 : Nat) (l2 : Int32) (l3 : Int32) (h : mx_H) (c : Nat) (s : Nat) (r : (Int32 × mx_H × Nat × Nat)), w_X12_compile_124 nn kk_93 k l0 l2 l3 h c s = some r → mx_S X F L 363 124 [(0, .ref l0), (2, .int l2), (3, .int l3)] [] h c s (some (.int r.1), r.2.1, r.2.2.1, r.2.2.2) := by
  have hm : mx_mt 363 = some (yX12_compile, cX12_compile, 4, (some .int)) := mt_X12_compile
  intro k
  induction k with
  | zero => intro l0 l2 l3 h c s r hf; cases hf
  | succ k ih =>
    intro l0 l2 l3 h c s r hf
    unfold w_X12_compile_124 at hf
    refine mx_S.pu (pc2 := 125) (lv2 := [(0, .ref l0), (2, .int l2), (3, .int l3)]) (st2 := [.int l3]) hm dX12_compile_124 rfl ?_
    refine mx_S.pu (pc2 := 126) (lv2 := [(0, .ref l0), (2, .int l2), (3, .int l3)]) (st2 := [.ref l0, .int l3]) hm dX12_compile_125 rfl ?_
    replace hf := mx_sv_el hf; obtain ⟨v13, e_v13, hf⟩ := hf
    refine sx_get hm dX12_compile_126 rs_RX12_25 (xgr_el e_v13) ?_
    clear e_v13
    refine mx_S.pu (pc2 := 130) (lv2 := [(0, .ref l0), (2, .int l2), (3, .int l3)]) (st2 := [.int l2, .ref v13, .int l3]) hm dX12_compile_129 rfl ?_
    replace hf := mx_gd_el hf; obtain ⟨c14, hf⟩ := hf
    replace hf := mx_sv_el hf; obtain ⟨u15, e_u15, hf⟩ := hf
    refine sx_cv hm dX12_compile_130 rs_RX12_119 mt_X2_methodsOf [.int l2] [.int l3] (b := v13) (ci := 2) rfl rfl rfl c14 (Nat.le_of_ble_eq_true rfl) (Nat.le_of_ble_eq_true rfl) (by omega) (by omega) (f_X2_methodsOf_ok X (by omega) (by omega) nn v13 l2 h e_u15) ?_
    clear e_u15
    show mx_S X F L 363 133 [(0, .ref l0), (2, .int l2), (3, .int l3)] [.int u15.1, .int l3] u15.2 c s (some (.int r.1), r.2.1, r.2.2.1, r.2.2.2)
    rcases mx_if_el hf with ⟨c23, hf⟩ | ⟨c23, hf⟩
    · refine sb_ic_ge hm dX12_compile_133 (tgt := 161) rfl (fun _ => ?_) (fun z => absurd c23 z)
      refine mx_S.ext [(0, .ref l0), (2, .int l2)] (mx_sub_pos [0, 1] rfl (show ([0, 2, 3] : List Nat).Nodup by decide)) ?_
      exact j_X12_compile_161_ok X hF hL nn hk_93 l0 l2 u15.2 c s hf
    · refine sb_ic_ge hm dX12_compile_133 (tgt := 161) rfl (fun z => absurd z c23) (fun _ => ?_)
      refine mx_S.pu (pc2 := 137) (lv2 := [(0, .ref l0), (2, .int l2), (3, .int l3)]) (st2 := [.ref l0]) hm dX12_compile_136 rfl ?_
      replace hf := mx_sv_el hf; obtain ⟨v16, e_v16, hf⟩ := hf
      refine sx_get hm dX12_compile_137 rs_RX12_16 (xgr_el e_v16) ?_
      clear e_v16
      replace hf := mx_sv_el hf; obtain ⟨v17, e_v17, hf⟩ := hf
      refine sx_get hm dX12_compile_140 rs_RX12_113 (xgi_el e_v17) ?_
      clear e_v17
      rcases mx_if_el hf with ⟨c22, hf⟩ | ⟨c22, hf⟩
      · refine sb_if_ne hm dX12_compile_143 (tgt := 161) rfl (fun _ => ?_) (fun z => absurd c22 z)
        refine mx_S.ext [(0, .ref l0), (2, .int l2)] (mx_sub_pos [0, 1] rfl (show ([0, 2, 3] : List Nat).Nodup by decide)) ?_
        exact j_X12_compile_161_ok X hF hL nn hk_93 l0 l2 u15.2 c s hf
      · refine sb_if_ne hm dX12_compile_143 (tgt := 161) rfl (fun z => absurd z c22) (fun _ => ?_)
        refine mx_S.pu (pc2 := 147) (lv2 := [(0, .ref l0), (2, .int l2), (3, .int l3)]) (st2 := [.ref l0]) hm dX12_compile_146 rfl ?_
        replace hf := mx_sv_el hf; obtain ⟨v18, e_v18, hf⟩ := hf
        refine sx_get hm dX12_compile_147 rs_RX12_41 (xgr_el e_v18) ?_
        clear e_v18
        refine mx_S.pu (pc2 := 151) (lv2 := [(0, .ref l0), (2, .int l2), (3, .int l3)]) (st2 := [.int l2, .ref v18]) hm dX12_compile_150 rfl ?_
        refine mx_S.pu (pc2 := 152) (lv2 := [(0, .ref l0), (2, .int l2), (3, .int l3)]) (st2 := [.int l3, .int l2, .ref v18]) hm dX12_compile_151 rfl ?_
        replace hf := mx_gd_el hf; obtain ⟨c19, hf⟩ := hf
        replace hf := mx_sv_el hf; obtain ⟨u20, e_u20, hf⟩ := hf
        refine sx_cv hm dX12_compile_152 rs_RX12_123 mt_X0_makeMethod [.int l2, .int l3] [] (b := v18) (ci := 0) rfl rfl rfl c19 (Nat.le_of_ble_eq_true rfl) (Nat.le_of_ble_eq_true rfl) (by omega) (by omega) (f_X0_makeMethod_ok X (by omega) (by omega) nn v18 l2 l3 u15.2 e_u20) ?_
        clear e_u20
        show mx_S X F L 363 155 [(0, .ref l0), (2, .int l2), (3, .int l3)] [] u20 c s (some (.int r.1), r.2.1, r.2.2.1, r.2.2.2)
        replace hf := xl_el hf; obtain ⟨v21, e_v21, hf⟩ := hf
        refine mx_S.pu (pc2 := 158) (lv2 := [(3, .int v21), (0, .ref l0), (2, .int l2)]) (st2 := []) hm dX12_compile_155 (by rw [← e_v21]; rfl) ?_
        clear e_v21
        refine mx_S.pu (pc2 := 124) (lv2 := [(3, .int v21), (0, .ref l0), (2, .int l2)]) (st2 := []) hm dX12_compile_158 rfl ?_
        refine mx_S.ext [(0, .ref l0), (2, .int l2), (3, .int v21)] (mx_sub_pos [1, 2, 0] rfl (show ([3, 0, 2] : List Nat).Nodup by decide)) ?_
        exact ih l0 l2 v21 u20 c s _ hf
set_option maxHeartbeats 4000000 in
set_option maxRecDepth 20000 in
theorem w_X12_compile_93_ok (X : Nat × (Nat → Int32)) {F L : Nat} (hF : 670 ≤ F) (hL : 19834 ≤ L) (nn : Nat) : ∀ (k : Nat) (l0 : Nat) (l2 : Int32) (h : mx_H) (c : Nat) (s : Nat) (r : (Int32 × mx_H × Nat × Nat)), w_X12_compile_93 nn k l0 l2 h c s = some r → mx_S X F L 363 93 [(0, .ref l0), (2, .int l2)] [] h c s (some (.int r.1), r.2.1, r.2.2.1, r.2.2.2) := by
  have hm : mx_mt 363 = some (yX12_compile, cX12_compile, 4, (some .int)) := mt_X12_compile
  intro k
  induction k with
  | zero => intro l0 l2 h c s r hf; cases hf
  | succ k ih =>
    intro l0 l2 h c s r hf
    unfold w_X12_compile_93 at hf
    refine mx_S.pu (pc2 := 94) (lv2 := [(0, .ref l0), (2, .int l2)]) (st2 := [.int l2]) hm dX12_compile_93 rfl ?_
    refine mx_S.pu (pc2 := 95) (lv2 := [(0, .ref l0), (2, .int l2)]) (st2 := [.ref l0, .int l2]) hm dX12_compile_94 rfl ?_
    replace hf := mx_sv_el hf; obtain ⟨v24, e_v24, hf⟩ := hf
    refine sx_get hm dX12_compile_95 rs_RX12_25 (xgr_el e_v24) ?_
    clear e_v24
    replace hf := mx_sv_el hf; obtain ⟨v25, e_v25, hf⟩ := hf
    refine sx_get hm dX12_compile_98 rs_RX12_110 (xgi_el e_v25) ?_
    clear e_v25
    rcases mx_if_el hf with ⟨c32, hf⟩ | ⟨c32, hf⟩
    · refine sb_ic_ge hm dX12_compile_101 (tgt := 175) rfl (fun _ => ?_) (fun z => absurd c32 z)
      refine mx_S.ext [(0, .ref l0)] (mx_sub_pos [0] rfl (show ([0, 2] : List Nat).Nodup by decide)) ?_
      exact j_X12_compile_175_ok X hF hL nn l0 h c s hf
    · refine sb_ic_ge hm dX12_compile_101 (tgt := 175) rfl (fun z => absurd z c32) (fun _ => ?_)
      refine mx_S.pu (pc2 := 105) (lv2 := [(0, .ref l0), (2, .int l2)]) (st2 := [.ref l0]) hm dX12_compile_104 rfl ?_
      replace hf := mx_sv_el hf; obtain ⟨v26, e_v26, hf⟩ := hf
      refine sx_get hm dX12_compile_105 rs_RX12_16 (xgr_el e_v26) ?_
      clear e_v26
      replace hf := mx_sv_el hf; obtain ⟨v27, e_v27, hf⟩ := hf
      refine sx_get hm dX12_compile_108 rs_RX12_113 (xgi_el e_v27) ?_
      clear e_v27
      rcases mx_if_el hf with ⟨c31, hf⟩ | ⟨c31, hf⟩
      · refine sb_if_ne hm dX12_compile_111 (tgt := 175) rfl (fun _ => ?_) (fun z => absurd c31 z)
        refine mx_S.ext [(0, .ref l0)] (mx_sub_pos [0] rfl (show ([0, 2] : List Nat).Nodup by decide)) ?_
        exact j_X12_compile_175_ok X hF hL nn l0 h c s hf
      · refine sb_if_ne hm dX12_compile_111 (tgt := 175) rfl (fun z => absurd z c31) (fun _ => ?_)
        refine mx_S.pu (pc2 := 115) (lv2 := [(0, .ref l0), (2, .int l2)]) (st2 := [.ref l0]) hm dX12_compile_114 rfl ?_
        replace hf := mx_sv_el hf; obtain ⟨v28, e_v28, hf⟩ := hf
        refine sx_get hm dX12_compile_115 rs_RX12_41 (xgr_el e_v28) ?_
        clear e_v28
        refine mx_S.pu (pc2 := 119) (lv2 := [(0, .ref l0), (2, .int l2)]) (st2 := [.int l2, .ref v28]) hm dX12_compile_118 rfl ?_
        replace hf := mx_gd_el hf; obtain ⟨c29, hf⟩ := hf
        replace hf := mx_sv_el hf; obtain ⟨u30, e_u30, hf⟩ := hf
        refine sx_cv hm dX12_compile_119 rs_RX12_116 mt_X0_beginClass [.int l2] [] (b := v28) (ci := 0) rfl rfl rfl c29 (Nat.le_of_ble_eq_true rfl) (Nat.le_of_ble_eq_true rfl) (by omega) (by omega) (f_X0_beginClass_ok X (by omega) (by omega) nn v28 l2 h e_u30) ?_
        clear e_u30
        show mx_S X F L 363 122 [(0, .ref l0), (2, .int l2)] [] u30 c s (some (.int r.1), r.2.1, r.2.2.1, r.2.2.2)
        refine sx_ic (v := 0) hm dX12_compile_122 (by decide) ?_
        refine mx_S.pu (pc2 := 124) (lv2 := [(3, .int 0), (0, .ref l0), (2, .int l2)]) (st2 := []) hm dX12_compile_123 rfl ?_
        refine mx_S.ext [(0, .ref l0), (2, .int l2), (3, .int 0)] (mx_sub_pos [1, 2, 0] rfl (show ([3, 0, 2] : List Nat).Nodup by decide)) ?_
        exact w_X12_compile_124_ok X hF hL nn ih nn l0 l2 0 u30 c s _ hf
set_option maxHeartbeats 4000000 in
set_option maxRecDepth 20000 in
theorem f_X12_compile_ok (X : Nat × (Nat → Int32)) {F L : Nat} (hF : 670 ≤ F) (hL : 19834 ≤ L) (nn : Nat) (a0 : Nat) (h : mx_H) {r : (Int32 × mx_H × Nat × Nat)} (hf : f_X12_compile nn a0 h = some r) : mx_R X F L 363 [.ref a0] h (some (.int r.1), r.2.1, r.2.2.1, r.2.2.2) := by
  have hm : mx_mt 363 = some (yX12_compile, cX12_compile, 4, (some .int)) := mt_X12_compile
  show mx_S X F L 363 0 [(0, .ref a0)] [] h 0 0 (some (.int r.1), r.2.1, r.2.2.1, r.2.2.2)
  unfold f_X12_compile at hf
  refine mx_S.pu (pc2 := 1) (lv2 := [(0, .ref a0)]) (st2 := [.ref a0]) hm dX12_compile_0 rfl ?_
  replace hf := mx_sv_el hf; obtain ⟨v33, e_v33, hf⟩ := hf
  refine sx_get hm dX12_compile_1 rs_RX12_73 (xgi_el e_v33) ?_
  clear e_v33
  refine mx_S.pu (pc2 := 5) (lv2 := [(1, .int v33), (0, .ref a0)]) (st2 := []) hm dX12_compile_4 rfl ?_
  refine mx_S.pu (pc2 := 6) (lv2 := [(1, .int v33), (0, .ref a0)]) (st2 := [.ref a0]) hm dX12_compile_5 rfl ?_
  refine sx_ic (v := 0) hm dX12_compile_6 (by decide) ?_
  replace hf := mx_sv_el hf; obtain ⟨h34, e_h34, hf⟩ := hf
  refine sx_put hm dX12_compile_7 rs_RX12_73 ft_12_1 ⟨rfl, rfl⟩ (fun z => by cases z) e_h34 ?_
  clear e_h34
  refine mx_S.pu (pc2 := 11) (lv2 := [(1, .int v33), (0, .ref a0)]) (st2 := [.int v33]) hm dX12_compile_10 rfl ?_
  refine sx_si (v := 3000) hm dX12_compile_11 (by decide) ?_
  rcases mx_if_el hf with ⟨c63, hf⟩ | ⟨c63, hf⟩
  · refine sb_ic_le hm dX12_compile_14 (tgt := 30) rfl (fun _ => ?_) (fun z => absurd c63 z)
    refine mx_S.pu (pc2 := 31) (lv2 := [(1, .int v33), (0, .ref a0)]) (st2 := [.ref a0]) hm dX12_compile_30 rfl ?_
    replace hf := mx_sv_el hf; obtain ⟨v35, e_v35, hf⟩ := hf
    refine sx_get hm dX12_compile_31 rs_RX12_16 (xgr_el e_v35) ?_
    clear e_v35
    refine mx_S.pu (pc2 := 35) (lv2 := [(1, .int v33), (0, .ref a0)]) (st2 := [.ref a0, .ref v35]) hm dX12_compile_34 rfl ?_
    replace hf := mx_sv_el hf; obtain ⟨v36, e_v36, hf⟩ := hf
    refine sx_get hm dX12_compile_35 rs_RX12_9 (xgr_el e_v36) ?_
    clear e_v36
    refine mx_S.pu (pc2 := 39) (lv2 := [(1, .int v33), (0, .ref a0)]) (st2 := [.int v33, .ref v36, .ref v35]) hm dX12_compile_38 rfl ?_
    replace hf := mx_gd_el hf; obtain ⟨c37, hf⟩ := hf
    replace hf := mx_sv_el hf; obtain ⟨u38, e_u38, hf⟩ := hf
    refine sx_cv hm dX12_compile_39 rs_RX12_85 mt_X9_scan [.ref v36, .int v33] [] (b := v35) (ci := 9) rfl rfl rfl c37 (Nat.le_of_ble_eq_true rfl) (Nat.le_of_ble_eq_true rfl) (by omega) (by omega) (f_X9_scan_ok X (by omega) (by omega) nn v35 v36 v33 h34 e_u38) ?_
    clear e_u38
    show mx_S X F L 363 42 [(1, .int v33), (0, .ref a0)] [] u38 0 0 (some (.int r.1), r.2.1, r.2.2.1, r.2.2.2)
    refine mx_S.pu (pc2 := 43) (lv2 := [(1, .int v33), (0, .ref a0)]) (st2 := [.ref a0]) hm dX12_compile_42 rfl ?_
    replace hf := mx_sv_el hf; obtain ⟨v39, e_v39, hf⟩ := hf
    refine sx_get hm dX12_compile_43 rs_RX12_25 (xgr_el e_v39) ?_
    clear e_v39
    replace hf := mx_gd_el hf; obtain ⟨c40, hf⟩ := hf
    replace hf := mx_sv_el hf; obtain ⟨u41, e_u41, hf⟩ := hf
    refine sx_cv hm dX12_compile_46 rs_RX12_89 mt_X2_forget [] [] (b := v39) (ci := 2) rfl rfl rfl c40 (Nat.le_of_ble_eq_true rfl) (Nat.le_of_ble_eq_true rfl) (by omega) (by omega) (f_X2_forget_ok X (by omega) (by omega) nn v39 u38 e_u41) ?_
    clear e_u41
    show mx_S X F L 363 49 [(1, .int v33), (0, .ref a0)] [] u41 0 0 (some (.int r.1), r.2.1, r.2.2.1, r.2.2.2)
    refine mx_S.pu (pc2 := 50) (lv2 := [(1, .int v33), (0, .ref a0)]) (st2 := [.ref a0]) hm dX12_compile_49 rfl ?_
    replace hf := mx_sv_el hf; obtain ⟨v42, e_v42, hf⟩ := hf
    refine sx_get hm dX12_compile_50 rs_RX12_34 (xgr_el e_v42) ?_
    clear e_v42
    replace hf := mx_gd_el hf; obtain ⟨c43, hf⟩ := hf
    replace hf := mx_sv_el hf; obtain ⟨u44, e_u44, hf⟩ := hf
    refine sx_cv hm dX12_compile_53 rs_RX12_92 mt_X8_readProgram [] [] (b := v42) (ci := 8) rfl rfl rfl c43 (Nat.le_of_ble_eq_true rfl) (Nat.le_of_ble_eq_true rfl) (by omega) (by omega) (f_X8_readProgram_ok X (by omega) (by omega) nn v42 u41 e_u44) ?_
    clear e_u44
    show mx_S X F L 363 56 [(1, .int v33), (0, .ref a0)] [] u44 0 0 (some (.int r.1), r.2.1, r.2.2.1, r.2.2.2)
    refine mx_S.pu (pc2 := 57) (lv2 := [(1, .int v33), (0, .ref a0)]) (st2 := [.ref a0]) hm dX12_compile_56 rfl ?_
    replace hf := mx_sv_el hf; obtain ⟨v45, e_v45, hf⟩ := hf
    refine sx_get hm dX12_compile_57 rs_RX12_25 (xgr_el e_v45) ?_
    clear e_v45
    replace hf := mx_gd_el hf; obtain ⟨c46, hf⟩ := hf
    replace hf := mx_sv_el hf; obtain ⟨u47, e_u47, hf⟩ := hf
    refine sx_cv hm dX12_compile_60 rs_RX12_95 mt_X2_readClasses [] [] (b := v45) (ci := 2) rfl rfl rfl c46 (Nat.le_of_ble_eq_true rfl) (Nat.le_of_ble_eq_true rfl) (by omega) (by omega) (f_X2_readClasses_ok X (by omega) (by omega) nn v45 u44 e_u47) ?_
    clear e_u47
    show mx_S X F L 363 63 [(1, .int v33), (0, .ref a0)] [] u47 0 0 (some (.int r.1), r.2.1, r.2.2.1, r.2.2.2)
    refine mx_S.pu (pc2 := 64) (lv2 := [(1, .int v33), (0, .ref a0)]) (st2 := [.ref a0]) hm dX12_compile_63 rfl ?_
    replace hf := mx_sv_el hf; obtain ⟨v48, e_v48, hf⟩ := hf
    refine sx_get hm dX12_compile_64 rs_RX12_25 (xgr_el e_v48) ?_
    clear e_v48
    replace hf := mx_gd_el hf; obtain ⟨c49, hf⟩ := hf
    replace hf := mx_sv_el hf; obtain ⟨u50, e_u50, hf⟩ := hf
    refine sx_cv hm dX12_compile_67 rs_RX12_98 mt_X2_readMembers [] [] (b := v48) (ci := 2) rfl rfl rfl c49 (Nat.le_of_ble_eq_true rfl) (Nat.le_of_ble_eq_true rfl) (by omega) (by omega) (f_X2_readMembers_ok X (by omega) (by omega) nn v48 u47 e_u50) ?_
    clear e_u50
    show mx_S X F L 363 70 [(1, .int v33), (0, .ref a0)] [] u50 0 0 (some (.int r.1), r.2.1, r.2.2.1, r.2.2.2)
    refine mx_S.pu (pc2 := 71) (lv2 := [(1, .int v33), (0, .ref a0)]) (st2 := [.ref a0]) hm dX12_compile_70 rfl ?_
    replace hf := mx_sv_el hf; obtain ⟨v51, e_v51, hf⟩ := hf
    refine sx_get hm dX12_compile_71 rs_RX12_25 (xgr_el e_v51) ?_
    clear e_v51
    replace hf := mx_gd_el hf; obtain ⟨c52, hf⟩ := hf
    replace hf := mx_sv_el hf; obtain ⟨u53, e_u53, hf⟩ := hf
    refine sx_cv hm dX12_compile_74 rs_RX12_101 mt_X2_checkOverrides [] [] (b := v51) (ci := 2) rfl rfl rfl c52 (Nat.le_of_ble_eq_true rfl) (Nat.le_of_ble_eq_true rfl) (by omega) (by omega) (f_X2_checkOverrides_ok X (by omega) (by omega) nn v51 u50 e_u53) ?_
    clear e_u53
    show mx_S X F L 363 77 [(1, .int v33), (0, .ref a0)] [] u53 0 0 (some (.int r.1), r.2.1, r.2.2.1, r.2.2.2)
    refine mx_S.pu (pc2 := 78) (lv2 := [(1, .int v33), (0, .ref a0)]) (st2 := [.ref a0]) hm dX12_compile_77 rfl ?_
    replace hf := mx_sv_el hf; obtain ⟨v54, e_v54, hf⟩ := hf
    refine sx_get hm dX12_compile_78 rs_RX12_25 (xgr_el e_v54) ?_
    clear e_v54
    replace hf := mx_gd_el hf; obtain ⟨c55, hf⟩ := hf
    replace hf := mx_sv_el hf; obtain ⟨u56, e_u56, hf⟩ := hf
    refine sx_cv hm dX12_compile_81 rs_RX12_104 mt_X2_nameKinds [] [] (b := v54) (ci := 2) rfl rfl rfl c55 (Nat.le_of_ble_eq_true rfl) (Nat.le_of_ble_eq_true rfl) (by omega) (by omega) (f_X2_nameKinds_ok X (by omega) (by omega) nn v54 u53 e_u56) ?_
    clear e_u56
    show mx_S X F L 363 84 [(1, .int v33), (0, .ref a0)] [] u56 0 0 (some (.int r.1), r.2.1, r.2.2.1, r.2.2.2)
    refine mx_S.pu (pc2 := 85) (lv2 := [(1, .int v33), (0, .ref a0)]) (st2 := [.ref a0]) hm dX12_compile_84 rfl ?_
    replace hf := mx_sv_el hf; obtain ⟨v57, e_v57, hf⟩ := hf
    refine sx_get hm dX12_compile_85 rs_RX12_41 (xgr_el e_v57) ?_
    clear e_v57
    replace hf := mx_gd_el hf; obtain ⟨c58, hf⟩ := hf
    replace hf := mx_sv_el hf; obtain ⟨u59, e_u59, hf⟩ := hf
    refine sx_cv hm dX12_compile_88 rs_RX12_107 mt_X0_beginProgram [] [] (b := v57) (ci := 0) rfl rfl rfl c58 (Nat.le_of_ble_eq_true rfl) (Nat.le_of_ble_eq_true rfl) (by omega) (by omega) (f_X0_beginProgram_ok X (by omega) (by omega) nn v57 u56 e_u59) ?_
    clear e_u59
    show mx_S X F L 363 91 [(1, .int v33), (0, .ref a0)] [] u59 0 0 (some (.int r.1), r.2.1, r.2.2.1, r.2.2.2)
    refine sx_ic (v := 0) hm dX12_compile_91 (by decide) ?_
    refine mx_S.pu (pc2 := 93) (lv2 := [(2, .int 0), (1, .int v33), (0, .ref a0)]) (st2 := []) hm dX12_compile_92 rfl ?_
    refine mx_S.ext [(0, .ref a0), (2, .int 0)] (mx_sub_pos [2, 0] rfl (show ([2, 1, 0] : List Nat).Nodup by decide)) ?_
    exact w_X12_compile_93_ok X hF hL nn nn a0 0 u59 0 0 _ hf
  · refine sb_ic_le hm dX12_compile_14 (tgt := 30) rfl (fun z => absurd z c63) (fun _ => ?_)
    refine mx_S.pu (pc2 := 18) (lv2 := [(1, .int v33), (0, .ref a0)]) (st2 := [.ref a0]) hm dX12_compile_17 rfl ?_
    replace hf := mx_sv_el hf; obtain ⟨v60, e_v60, hf⟩ := hf
    refine sx_get hm dX12_compile_18 rs_RX12_16 (xgr_el e_v60) ?_
    clear e_v60
    refine sx_ic (v := 1) hm dX12_compile_21 (by decide) ?_
    refine sx_si (v := 3000) hm dX12_compile_22 (by decide) ?_
    replace hf := mx_gd_el hf; obtain ⟨c61, hf⟩ := hf
    replace hf := mx_sv_el hf; obtain ⟨u62, e_u62, hf⟩ := hf
    refine sx_cv hm dX12_compile_25 rs_RX12_81 mt_X9_refuse [.int 1, .int 3000] [] (b := v60) (ci := 9) rfl rfl rfl c61 (Nat.le_of_ble_eq_true rfl) (Nat.le_of_ble_eq_true rfl) (by omega) (by omega) (f_X9_refuse_ok X (by omega) (by omega) nn v60 1 3000 h34 e_u62) ?_
    clear e_u62
    show mx_S X F L 363 28 [(1, .int v33), (0, .ref a0)] [] u62 0 0 (some (.int r.1), r.2.1, r.2.2.1, r.2.2.2)
    refine sx_ic (v := (-1)) hm dX12_compile_28 (by decide) ?_
    cases hf
    exact sx_ire hm dX12_compile_29 rfl rfl
set_option maxHeartbeats 4000000 in
set_option maxRecDepth 20000 in
theorem f_X12_end_ok (X : Nat × (Nat → Int32)) {F L : Nat} (hF : 0 ≤ F) (hL : 0 ≤ L) (nn : Nat) (a0 : Nat) (a1 : Int32) (h : mx_H) {r : (Int32 × mx_H)} (hf : f_X12_end nn a0 a1 h = some r) : mx_R X F L 362 [.ref a0, .int a1] h (some (.int r.1), r.2, 0, 0) := by
  have hm : mx_mt 362 = some (yX12_end, cX12_end, 2, (some .boolean)) := mt_X12_end
  show mx_S X F L 362 0 [(0, .ref a0), (1, .int a1)] [] h 0 0 (some (.int r.1), r.2, 0, 0)
  unfold f_X12_end at hf
  refine mx_S.pu (pc2 := 1) (lv2 := [(0, .ref a0), (1, .int a1)]) (st2 := [.int a1]) hm dX12_end_0 rfl ?_
  rcases mx_if_el hf with ⟨c4, hf⟩ | ⟨c4, hf⟩
  · refine sb_if_lt hm dX12_end_1 (tgt := 12) rfl (fun _ => ?_) (fun z => absurd c4 z)
    refine sx_ic (v := 0) hm dX12_end_12 (by decide) ?_
    cases hf
    exact sx_ire hm dX12_end_13 rfl (by decide)
  · refine sb_if_lt hm dX12_end_1 (tgt := 12) rfl (fun z => absurd z c4) (fun _ => ?_)
    refine mx_S.pu (pc2 := 5) (lv2 := [(0, .ref a0), (1, .int a1)]) (st2 := [.int a1]) hm dX12_end_4 rfl ?_
    refine mx_S.pu (pc2 := 6) (lv2 := [(0, .ref a0), (1, .int a1)]) (st2 := [.ref a0, .int a1]) hm dX12_end_5 rfl ?_
    replace hf := mx_sv_el hf; obtain ⟨v1, e_v1, hf⟩ := hf
    refine sx_get hm dX12_end_6 rs_RX12_73 (xgi_el e_v1) ?_
    clear e_v1
    rcases mx_if_el hf with ⟨c3, hf⟩ | ⟨c3, hf⟩
    · refine sb_ic_le hm dX12_end_9 (tgt := 14) rfl (fun _ => ?_) (fun z => absurd c3 z)
      refine mx_S.pu (pc2 := 15) (lv2 := [(0, .ref a0), (1, .int a1)]) (st2 := [.ref a0]) hm dX12_end_14 rfl ?_
      refine mx_S.pu (pc2 := 16) (lv2 := [(0, .ref a0), (1, .int a1)]) (st2 := [.int a1, .ref a0]) hm dX12_end_15 rfl ?_
      replace hf := mx_sv_el hf; obtain ⟨h2, e_h2, hf⟩ := hf
      refine sx_put hm dX12_end_16 rs_RX12_73 ft_12_1 ⟨rfl, rfl⟩ (fun z => by cases z) e_h2 ?_
      clear e_h2
      refine sx_ic (v := 1) hm dX12_end_19 (by decide) ?_
      cases hf
      exact sx_ire hm dX12_end_20 rfl (by decide)
    · refine sb_ic_le hm dX12_end_9 (tgt := 14) rfl (fun z => absurd z c3) (fun _ => ?_)
      refine sx_ic (v := 0) hm dX12_end_12 (by decide) ?_
      cases hf
      exact sx_ire hm dX12_end_13 rfl (by decide)
set_option maxHeartbeats 4000000 in
set_option maxRecDepth 20000 in
theorem f_X12_fault_ok (X : Nat × (Nat → Int32)) {F L : Nat} (hF : 0 ≤ F) (hL : 0 ≤ L) (nn : Nat) (a0 : Nat) (a1 : Int32) (h : mx_H) {r : (Int32 × mx_H)} (hf : f_X12_fault nn a0 a1 h = some r) : mx_R X F L 365 [.ref a0, .int a1] h (some (.int r.1), r.2, 0, 0) := by
  have hm : mx_mt 365 = some (yX12_fault, cX12_fault, 2, (some .int)) := mt_X12_fault
  show mx_S X F L 365 0 [(0, .ref a0), (1, .int a1)] [] h 0 0 (some (.int r.1), r.2, 0, 0)
  unfold f_X12_fault at hf
  refine mx_S.pu (pc2 := 1) (lv2 := [(0, .ref a0), (1, .int a1)]) (st2 := [.int a1]) hm dX12_fault_0 rfl ?_
  rcases mx_if_el hf with ⟨c9, hf⟩ | ⟨c9, hf⟩
  · refine sb_if_ne hm dX12_fault_1 (tgt := 12) rfl (fun _ => ?_) (fun z => absurd c9 z)
    refine mx_S.pu (pc2 := 13) (lv2 := [(0, .ref a0), (1, .int a1)]) (st2 := [.int a1]) hm dX12_fault_12 rfl ?_
    refine sx_ic (v := 1) hm dX12_fault_13 (by decide) ?_
    rcases mx_if_el hf with ⟨c6, hf⟩ | ⟨c6, hf⟩
    · refine sb_ic_ne hm dX12_fault_14 (tgt := 37) rfl (fun _ => ?_) (fun z => absurd c6 z)
      refine sx_ic (v := (-1)) hm dX12_fault_37 (by decide) ?_
      cases hf
      exact sx_ire hm dX12_fault_38 rfl rfl
    · refine sb_ic_ne hm dX12_fault_14 (tgt := 37) rfl (fun z => absurd z c6) (fun _ => ?_)
      refine mx_S.pu (pc2 := 18) (lv2 := [(0, .ref a0), (1, .int a1)]) (st2 := [.ref a0]) hm dX12_fault_17 rfl ?_
      replace hf := mx_sv_el hf; obtain ⟨v1, e_v1, hf⟩ := hf
      refine sx_get hm dX12_fault_18 rs_RX12_16 (xgr_el e_v1) ?_
      clear e_v1
      replace hf := mx_sv_el hf; obtain ⟨v2, e_v2, hf⟩ := hf
      refine sx_get hm dX12_fault_21 rs_RX12_113 (xgi_el e_v2) ?_
      clear e_v2
      rcases mx_if_el hf with ⟨c5, hf⟩ | ⟨c5, hf⟩
      · refine sb_if_eq hm dX12_fault_24 (tgt := 37) rfl (fun _ => ?_) (fun z => absurd c5 z)
        refine sx_ic (v := (-1)) hm dX12_fault_37 (by decide) ?_
        cases hf
        exact sx_ire hm dX12_fault_38 rfl rfl
      · refine sb_if_eq hm dX12_fault_24 (tgt := 37) rfl (fun z => absurd z c5) (fun _ => ?_)
        refine mx_S.pu (pc2 := 28) (lv2 := [(0, .ref a0), (1, .int a1)]) (st2 := [.ref a0]) hm dX12_fault_27 rfl ?_
        replace hf := mx_sv_el hf; obtain ⟨v3, e_v3, hf⟩ := hf
        refine sx_get hm dX12_fault_28 rs_RX12_16 (xgr_el e_v3) ?_
        clear e_v3
        replace hf := mx_sv_el hf; obtain ⟨v4, e_v4, hf⟩ := hf
        refine sx_get hm dX12_fault_31 rs_RX12_143 (xgi_el e_v4) ?_
        clear e_v4
        refine mx_S.pu (pc2 := 38) (lv2 := [(0, .ref a0), (1, .int a1)]) (st2 := [.int v4]) hm dX12_fault_34 rfl ?_
        cases hf
        exact sx_ire hm dX12_fault_38 rfl rfl
  · refine sb_if_ne hm dX12_fault_1 (tgt := 12) rfl (fun z => absurd z c9) (fun _ => ?_)
    refine mx_S.pu (pc2 := 5) (lv2 := [(0, .ref a0), (1, .int a1)]) (st2 := [.ref a0]) hm dX12_fault_4 rfl ?_
    replace hf := mx_sv_el hf; obtain ⟨v7, e_v7, hf⟩ := hf
    refine sx_get hm dX12_fault_5 rs_RX12_16 (xgr_el e_v7) ?_
    clear e_v7
    replace hf := mx_sv_el hf; obtain ⟨v8, e_v8, hf⟩ := hf
    refine sx_get hm dX12_fault_8 rs_RX12_113 (xgi_el e_v8) ?_
    clear e_v8
    cases hf
    exact sx_ire hm dX12_fault_11 rfl rfl
set_option maxHeartbeats 4000000 in
set_option maxRecDepth 20000 in
theorem w_X12_putNumber_3_ok (X : Nat × (Nat → Int32)) {F L : Nat} (hF : 0 ≤ F) (hL : 0 ≤ L) (nn : Nat) : ∀ (k : Nat) (l0 : Nat) (l1 : Int32) (l2 : Int32) (h : mx_H) (r : mx_H), w_X12_putNumber_3 nn k l0 l1 l2 h = some r → mx_S X F L 361 3 [(0, .ref l0), (1, .int l1), (2, .int l2)] [] h 0 0 (none, r, 0, 0) := by
  have hm : mx_mt 361 = some (yX12_putNumber, cX12_putNumber, 3, none) := mt_X12_putNumber
  intro k
  induction k with
  | zero => intro l0 l1 l2 h r hf; cases hf
  | succ k ih =>
    intro l0 l1 l2 h r hf
    unfold w_X12_putNumber_3 at hf
    refine mx_S.pu (pc2 := 4) (lv2 := [(0, .ref l0), (1, .int l1), (2, .int l2)]) (st2 := [.int l2]) hm dX12_putNumber_3 rfl ?_
    rcases mx_if_el hf with ⟨c15, hf⟩ | ⟨c15, hf⟩
    · refine sb_if_lt hm dX12_putNumber_4 (tgt := 48) rfl (fun _ => ?_) (fun z => absurd c15 z)
      cases hf
      exact sx_ret hm dX12_putNumber_48 rfl
    · refine sb_if_lt hm dX12_putNumber_4 (tgt := 48) rfl (fun z => absurd z c15) (fun _ => ?_)
      refine mx_S.pu (pc2 := 8) (lv2 := [(0, .ref l0), (1, .int l1), (2, .int l2)]) (st2 := [.ref l0]) hm dX12_putNumber_7 rfl ?_
      replace hf := mx_sv_el hf; obtain ⟨v1, e_v1, hf⟩ := hf
      refine sx_get hm dX12_putNumber_8 rs_RX12_73 (xgi_el e_v1) ?_
      clear e_v1
      refine mx_S.pu (pc2 := 12) (lv2 := [(0, .ref l0), (1, .int l1), (2, .int l2)]) (st2 := [.ref l0, .int v1]) hm dX12_putNumber_11 rfl ?_
      replace hf := mx_sv_el hf; obtain ⟨v2, e_v2, hf⟩ := hf
      refine sx_get hm dX12_putNumber_12 rs_RX12_9 (xgr_el e_v2) ?_
      clear e_v2
      replace hf := mx_sv_el hf; obtain ⟨v3, e_v3, hf⟩ := hf
      refine sx_len hm dX12_putNumber_15 e_v3 ?_
      clear e_v3
      rcases mx_if_el hf with ⟨c14, hf⟩ | ⟨c14, hf⟩
      · refine sb_ic_ge hm dX12_putNumber_16 (tgt := 42) rfl (fun _ => ?_) (fun z => absurd c14 z)
        replace hf := xl_el hf; obtain ⟨v4, e_v4, hf⟩ := hf
        refine mx_S.pu (pc2 := 45) (lv2 := [(2, .int v4), (0, .ref l0), (1, .int l1)]) (st2 := []) hm dX12_putNumber_42 (by rw [← e_v4]; rfl) ?_
        clear e_v4
        refine mx_S.pu (pc2 := 3) (lv2 := [(2, .int v4), (0, .ref l0), (1, .int l1)]) (st2 := []) hm dX12_putNumber_45 rfl ?_
        refine mx_S.ext [(0, .ref l0), (1, .int l1), (2, .int v4)] (mx_sub_pos [1, 2, 0] rfl (show ([2, 0, 1] : List Nat).Nodup by decide)) ?_
        exact ih l0 l1 v4 h _ hf
      · refine sb_ic_ge hm dX12_putNumber_16 (tgt := 42) rfl (fun z => absurd z c14) (fun _ => ?_)
        refine mx_S.pu (pc2 := 20) (lv2 := [(0, .ref l0), (1, .int l1), (2, .int l2)]) (st2 := [.ref l0]) hm dX12_putNumber_19 rfl ?_
        replace hf := mx_sv_el hf; obtain ⟨v5, e_v5, hf⟩ := hf
        refine sx_get hm dX12_putNumber_20 rs_RX12_9 (xgr_el e_v5) ?_
        clear e_v5
        refine mx_S.pu (pc2 := 24) (lv2 := [(0, .ref l0), (1, .int l1), (2, .int l2)]) (st2 := [.ref l0, .ref v5]) hm dX12_putNumber_23 rfl ?_
        replace hf := mx_sv_el hf; obtain ⟨v6, e_v6, hf⟩ := hf
        refine sx_get hm dX12_putNumber_24 rs_RX12_73 (xgi_el e_v6) ?_
        clear e_v6
        refine mx_S.pu (pc2 := 28) (lv2 := [(0, .ref l0), (1, .int l1), (2, .int l2)]) (st2 := [.int l1, .int v6, .ref v5]) hm dX12_putNumber_27 rfl ?_
        refine mx_S.pu (pc2 := 29) (lv2 := [(0, .ref l0), (1, .int l1), (2, .int l2)]) (st2 := [.int l2, .int l1, .int v6, .ref v5]) hm dX12_putNumber_28 rfl ?_
        replace hf := xl_el hf; obtain ⟨v7, e_v7, hf⟩ := hf
        refine mx_S.pu (pc2 := 30) (lv2 := [(0, .ref l0), (1, .int l1), (2, .int l2)]) (st2 := [.int v7, .int v6, .ref v5]) hm dX12_putNumber_29 (by rw [← e_v7]; rfl) ?_
        clear e_v7
        replace hf := xl_el hf; obtain ⟨v8, e_v8, hf⟩ := hf
        refine mx_S.pu (pc2 := 31) (lv2 := [(0, .ref l0), (1, .int l1), (2, .int l2)]) (st2 := [.int v8, .int v6, .ref v5]) hm dX12_putNumber_30 (by rw [← e_v8]; rfl) ?_
        clear e_v8
        replace hf := mx_sv_el hf; obtain ⟨h9, e_h9, hf⟩ := hf
        refine sx_bst hm dX12_putNumber_31 e_h9 ?_
        clear e_h9
        refine mx_S.pu (pc2 := 33) (lv2 := [(0, .ref l0), (1, .int l1), (2, .int l2)]) (st2 := [.ref l0]) hm dX12_putNumber_32 rfl ?_
        refine mx_S.pu (pc2 := 34) (lv2 := [(0, .ref l0), (1, .int l1), (2, .int l2)]) (st2 := [.ref l0, .ref l0]) hm dX12_putNumber_33 rfl ?_
        replace hf := mx_sv_el hf; obtain ⟨v10, e_v10, hf⟩ := hf
        refine sx_get hm dX12_putNumber_34 rs_RX12_73 (xgi_el e_v10) ?_
        clear e_v10
        refine sx_ic (v := 1) hm dX12_putNumber_37 (by decide) ?_
        replace hf := xl_el hf; obtain ⟨v11, e_v11, hf⟩ := hf
        refine mx_S.pu (pc2 := 39) (lv2 := [(0, .ref l0), (1, .int l1), (2, .int l2)]) (st2 := [.int v11, .ref l0]) hm dX12_putNumber_38 (by rw [← e_v11]; rfl) ?_
        clear e_v11
        replace hf := mx_sv_el hf; obtain ⟨h12, e_h12, hf⟩ := hf
        refine sx_put hm dX12_putNumber_39 rs_RX12_73 ft_12_1 ⟨rfl, rfl⟩ (fun z => by cases z) e_h12 ?_
        clear e_h12
        replace hf := xl_el hf; obtain ⟨v13, e_v13, hf⟩ := hf
        refine mx_S.pu (pc2 := 45) (lv2 := [(2, .int v13), (0, .ref l0), (1, .int l1)]) (st2 := []) hm dX12_putNumber_42 (by rw [← e_v13]; rfl) ?_
        clear e_v13
        refine mx_S.pu (pc2 := 3) (lv2 := [(2, .int v13), (0, .ref l0), (1, .int l1)]) (st2 := []) hm dX12_putNumber_45 rfl ?_
        refine mx_S.ext [(0, .ref l0), (1, .int l1), (2, .int v13)] (mx_sub_pos [1, 2, 0] rfl (show ([2, 0, 1] : List Nat).Nodup by decide)) ?_
        exact ih l0 l1 v13 h12 _ hf
set_option maxHeartbeats 4000000 in
set_option maxRecDepth 20000 in
theorem f_X12_putNumber_ok (X : Nat × (Nat → Int32)) {F L : Nat} (hF : 0 ≤ F) (hL : 0 ≤ L) (nn : Nat) (a0 : Nat) (a1 : Int32) (h : mx_H) {r : mx_H} (hf : f_X12_putNumber nn a0 a1 h = some r) : mx_R X F L 361 [.ref a0, .int a1] h (none, r, 0, 0) := by
  have hm : mx_mt 361 = some (yX12_putNumber, cX12_putNumber, 3, none) := mt_X12_putNumber
  show mx_S X F L 361 0 [(0, .ref a0), (1, .int a1)] [] h 0 0 (none, r, 0, 0)
  unfold f_X12_putNumber at hf
  refine sx_bi (v := 24) hm dX12_putNumber_0 (by decide) ?_
  refine mx_S.pu (pc2 := 3) (lv2 := [(2, .int 24), (0, .ref a0), (1, .int a1)]) (st2 := []) hm dX12_putNumber_2 rfl ?_
  refine mx_S.ext [(0, .ref a0), (1, .int a1), (2, .int 24)] (mx_sub_pos [1, 2, 0] rfl (show ([2, 0, 1] : List Nat).Nodup by decide)) ?_
  exact w_X12_putNumber_3_ok X hF hL nn nn a0 a1 24 h _ hf
set_option maxHeartbeats 4000000 in
set_option maxRecDepth 20000 in
theorem f_X12_feed_ok (X : Nat × (Nat → Int32)) {F L : Nat} (hF : 1 ≤ F) (hL : 22 ≤ L) (nn : Nat) (a0 : Nat) (a1 : Int32) (a2 : Int32) (a3 : Int32) (a4 : Int32) (a5 : Int32) (h : mx_H) {r : (Int32 × mx_H)} (hf : f_X12_feed nn a0 a1 a2 a3 a4 a5 h = some r) : mx_R X F L 360 [.ref a0, .int a1, .int a2, .int a3, .int a4, .int a5] h (some (.int r.1), r.2, 0, 0) := by
  have hm : mx_mt 360 = some (yX12_feed, cX12_feed, 6, (some .int)) := mt_X12_feed
  show mx_S X F L 360 0 [(0, .ref a0), (1, .int a1), (2, .int a2), (3, .int a3), (4, .int a4), (5, .int a5)] [] h 0 0 (some (.int r.1), r.2, 0, 0)
  unfold f_X12_feed at hf
  refine mx_S.pu (pc2 := 1) (lv2 := [(0, .ref a0), (1, .int a1), (2, .int a2), (3, .int a3), (4, .int a4), (5, .int a5)]) (st2 := [.ref a0]) hm dX12_feed_0 rfl ?_
  replace hf := mx_sv_el hf; obtain ⟨v1, e_v1, hf⟩ := hf
  refine sx_get hm dX12_feed_1 rs_RX12_73 (xgi_el e_v1) ?_
  clear e_v1
  refine sx_bi (v := 20) hm dX12_feed_4 (by decide) ?_
  replace hf := xl_el hf; obtain ⟨v2, e_v2, hf⟩ := hf
  refine mx_S.pu (pc2 := 7) (lv2 := [(0, .ref a0), (1, .int a1), (2, .int a2), (3, .int a3), (4, .int a4), (5, .int a5)]) (st2 := [.int v2]) hm dX12_feed_6 (by rw [← e_v2]; rfl) ?_
  clear e_v2
  refine sx_si (v := 6000) hm dX12_feed_7 (by decide) ?_
  rcases mx_if_el hf with ⟨c14, hf⟩ | ⟨c14, hf⟩
  · refine sb_ic_le hm dX12_feed_10 (tgt := 15) rfl (fun _ => ?_) (fun z => absurd c14 z)
    refine mx_S.pu (pc2 := 16) (lv2 := [(0, .ref a0), (1, .int a1), (2, .int a2), (3, .int a3), (4, .int a4), (5, .int a5)]) (st2 := [.ref a0]) hm dX12_feed_15 rfl ?_
    refine mx_S.pu (pc2 := 17) (lv2 := [(0, .ref a0), (1, .int a1), (2, .int a2), (3, .int a3), (4, .int a4), (5, .int a5)]) (st2 := [.int a1, .ref a0]) hm dX12_feed_16 rfl ?_
    replace hf := mx_gd_el hf; obtain ⟨c3, hf⟩ := hf
    replace hf := mx_sv_el hf; obtain ⟨u4, e_u4, hf⟩ := hf
    refine sx_cv hm dX12_feed_17 rs_RX12_77 mt_X12_putNumber [.int a1] [] (b := a0) (ci := 12) rfl rfl rfl c3 (Nat.le_of_ble_eq_true rfl) (Nat.le_of_ble_eq_true rfl) (by omega) (by omega) (f_X12_putNumber_ok X (by omega) (by omega) nn a0 a1 h e_u4) ?_
    clear e_u4
    show mx_S X F L 360 20 [(0, .ref a0), (1, .int a1), (2, .int a2), (3, .int a3), (4, .int a4), (5, .int a5)] [] u4 0 0 (some (.int r.1), r.2, 0, 0)
    refine mx_S.pu (pc2 := 21) (lv2 := [(0, .ref a0), (1, .int a1), (2, .int a2), (3, .int a3), (4, .int a4), (5, .int a5)]) (st2 := [.ref a0]) hm dX12_feed_20 rfl ?_
    refine mx_S.pu (pc2 := 22) (lv2 := [(0, .ref a0), (1, .int a1), (2, .int a2), (3, .int a3), (4, .int a4), (5, .int a5)]) (st2 := [.int a2, .ref a0]) hm dX12_feed_21 rfl ?_
    replace hf := mx_gd_el hf; obtain ⟨c5, hf⟩ := hf
    replace hf := mx_sv_el hf; obtain ⟨u6, e_u6, hf⟩ := hf
    refine sx_cv hm dX12_feed_22 rs_RX12_77 mt_X12_putNumber [.int a2] [] (b := a0) (ci := 12) rfl rfl rfl c5 (Nat.le_of_ble_eq_true rfl) (Nat.le_of_ble_eq_true rfl) (by omega) (by omega) (f_X12_putNumber_ok X (by omega) (by omega) nn a0 a2 u4 e_u6) ?_
    clear e_u6
    show mx_S X F L 360 25 [(0, .ref a0), (1, .int a1), (2, .int a2), (3, .int a3), (4, .int a4), (5, .int a5)] [] u6 0 0 (some (.int r.1), r.2, 0, 0)
    refine mx_S.pu (pc2 := 26) (lv2 := [(0, .ref a0), (1, .int a1), (2, .int a2), (3, .int a3), (4, .int a4), (5, .int a5)]) (st2 := [.ref a0]) hm dX12_feed_25 rfl ?_
    refine mx_S.pu (pc2 := 27) (lv2 := [(0, .ref a0), (1, .int a1), (2, .int a2), (3, .int a3), (4, .int a4), (5, .int a5)]) (st2 := [.int a3, .ref a0]) hm dX12_feed_26 rfl ?_
    replace hf := mx_gd_el hf; obtain ⟨c7, hf⟩ := hf
    replace hf := mx_sv_el hf; obtain ⟨u8, e_u8, hf⟩ := hf
    refine sx_cv hm dX12_feed_27 rs_RX12_77 mt_X12_putNumber [.int a3] [] (b := a0) (ci := 12) rfl rfl rfl c7 (Nat.le_of_ble_eq_true rfl) (Nat.le_of_ble_eq_true rfl) (by omega) (by omega) (f_X12_putNumber_ok X (by omega) (by omega) nn a0 a3 u6 e_u8) ?_
    clear e_u8
    show mx_S X F L 360 30 [(0, .ref a0), (1, .int a1), (2, .int a2), (3, .int a3), (4, .int a4), (5, .int a5)] [] u8 0 0 (some (.int r.1), r.2, 0, 0)
    refine mx_S.pu (pc2 := 31) (lv2 := [(0, .ref a0), (1, .int a1), (2, .int a2), (3, .int a3), (4, .int a4), (5, .int a5)]) (st2 := [.ref a0]) hm dX12_feed_30 rfl ?_
    refine mx_S.pu (pc2 := 33) (lv2 := [(0, .ref a0), (1, .int a1), (2, .int a2), (3, .int a3), (4, .int a4), (5, .int a5)]) (st2 := [.int a4, .ref a0]) hm dX12_feed_31 rfl ?_
    replace hf := mx_gd_el hf; obtain ⟨c9, hf⟩ := hf
    replace hf := mx_sv_el hf; obtain ⟨u10, e_u10, hf⟩ := hf
    refine sx_cv hm dX12_feed_33 rs_RX12_77 mt_X12_putNumber [.int a4] [] (b := a0) (ci := 12) rfl rfl rfl c9 (Nat.le_of_ble_eq_true rfl) (Nat.le_of_ble_eq_true rfl) (by omega) (by omega) (f_X12_putNumber_ok X (by omega) (by omega) nn a0 a4 u8 e_u10) ?_
    clear e_u10
    show mx_S X F L 360 36 [(0, .ref a0), (1, .int a1), (2, .int a2), (3, .int a3), (4, .int a4), (5, .int a5)] [] u10 0 0 (some (.int r.1), r.2, 0, 0)
    refine mx_S.pu (pc2 := 37) (lv2 := [(0, .ref a0), (1, .int a1), (2, .int a2), (3, .int a3), (4, .int a4), (5, .int a5)]) (st2 := [.ref a0]) hm dX12_feed_36 rfl ?_
    refine mx_S.pu (pc2 := 39) (lv2 := [(0, .ref a0), (1, .int a1), (2, .int a2), (3, .int a3), (4, .int a4), (5, .int a5)]) (st2 := [.int a5, .ref a0]) hm dX12_feed_37 rfl ?_
    replace hf := mx_gd_el hf; obtain ⟨c11, hf⟩ := hf
    replace hf := mx_sv_el hf; obtain ⟨u12, e_u12, hf⟩ := hf
    refine sx_cv hm dX12_feed_39 rs_RX12_77 mt_X12_putNumber [.int a5] [] (b := a0) (ci := 12) rfl rfl rfl c11 (Nat.le_of_ble_eq_true rfl) (Nat.le_of_ble_eq_true rfl) (by omega) (by omega) (f_X12_putNumber_ok X (by omega) (by omega) nn a0 a5 u10 e_u12) ?_
    clear e_u12
    show mx_S X F L 360 42 [(0, .ref a0), (1, .int a1), (2, .int a2), (3, .int a3), (4, .int a4), (5, .int a5)] [] u12 0 0 (some (.int r.1), r.2, 0, 0)
    refine mx_S.pu (pc2 := 43) (lv2 := [(0, .ref a0), (1, .int a1), (2, .int a2), (3, .int a3), (4, .int a4), (5, .int a5)]) (st2 := [.ref a0]) hm dX12_feed_42 rfl ?_
    replace hf := mx_sv_el hf; obtain ⟨v13, e_v13, hf⟩ := hf
    refine sx_get hm dX12_feed_43 rs_RX12_73 (xgi_el e_v13) ?_
    clear e_v13
    cases hf
    exact sx_ire hm dX12_feed_46 rfl rfl
  · refine sb_ic_le hm dX12_feed_10 (tgt := 15) rfl (fun z => absurd z c14) (fun _ => ?_)
    refine sx_ic (v := (-1)) hm dX12_feed_13 (by decide) ?_
    cases hf
    exact sx_ire hm dX12_feed_14 rfl rfl
set_option maxHeartbeats 4000000 in
set_option maxRecDepth 20000 in
theorem f_X12_imageOf_ok (X : Nat × (Nat → Int32)) {F L : Nat} (hF : 0 ≤ F) (hL : 0 ≤ L) (nn : Nat) (a0 : Nat) (a1 : Int32) (h : mx_H) {r : (Option Nat × mx_H)} (hf : f_X12_imageOf nn a0 a1 h = some r) : mx_R X F L 366 [.ref a0, .int a1] h (some (va_rf r.1), r.2, 0, 0) := by
  have hm : mx_mt 366 = some (yX12_imageOf, cX12_imageOf, 2, (some (.array .byte))) := mt_X12_imageOf
  show mx_S X F L 366 0 [(0, .ref a0), (1, .int a1)] [] h 0 0 (some (va_rf r.1), r.2, 0, 0)
  unfold f_X12_imageOf at hf
  refine mx_S.pu (pc2 := 1) (lv2 := [(0, .ref a0), (1, .int a1)]) (st2 := [.int a1]) hm dX12_imageOf_0 rfl ?_
  rcases mx_if_el hf with ⟨c8, hf⟩ | ⟨c8, hf⟩
  · refine sb_if_lt hm dX12_imageOf_1 (tgt := 30) rfl (fun _ => ?_) (fun z => absurd c8 z)
    refine mx_S.pu (pc2 := 31) (lv2 := [(0, .ref a0), (1, .int a1)]) (st2 := [va_rf none]) hm dX12_imageOf_30 rfl ?_
    cases hf
    exact sx_are hm dX12_imageOf_31 rfl rfl (v := none)
  · refine sb_if_lt hm dX12_imageOf_1 (tgt := 30) rfl (fun z => absurd z c8) (fun _ => ?_)
    refine mx_S.pu (pc2 := 5) (lv2 := [(0, .ref a0), (1, .int a1)]) (st2 := [.int a1]) hm dX12_imageOf_4 rfl ?_
    refine mx_S.pu (pc2 := 6) (lv2 := [(0, .ref a0), (1, .int a1)]) (st2 := [.ref a0, .int a1]) hm dX12_imageOf_5 rfl ?_
    replace hf := mx_sv_el hf; obtain ⟨v1, e_v1, hf⟩ := hf
    refine sx_get hm dX12_imageOf_6 rs_RX12_136 (xgi_el e_v1) ?_
    clear e_v1
    rcases mx_if_el hf with ⟨c7, hf⟩ | ⟨c7, hf⟩
    · refine sb_ic_ge hm dX12_imageOf_9 (tgt := 30) rfl (fun _ => ?_) (fun z => absurd c7 z)
      refine mx_S.pu (pc2 := 31) (lv2 := [(0, .ref a0), (1, .int a1)]) (st2 := [va_rf none]) hm dX12_imageOf_30 rfl ?_
      cases hf
      exact sx_are hm dX12_imageOf_31 rfl rfl (v := none)
    · refine sb_ic_ge hm dX12_imageOf_9 (tgt := 30) rfl (fun z => absurd z c7) (fun _ => ?_)
      refine mx_S.pu (pc2 := 13) (lv2 := [(0, .ref a0), (1, .int a1)]) (st2 := [.int a1]) hm dX12_imageOf_12 rfl ?_
      refine mx_S.pu (pc2 := 14) (lv2 := [(0, .ref a0), (1, .int a1)]) (st2 := [.ref a0, .int a1]) hm dX12_imageOf_13 rfl ?_
      replace hf := mx_sv_el hf; obtain ⟨v2, e_v2, hf⟩ := hf
      refine sx_get hm dX12_imageOf_14 rs_RX12_46 (xgr_el e_v2) ?_
      clear e_v2
      replace hf := mx_sv_el hf; obtain ⟨v3, e_v3, hf⟩ := hf
      refine sx_len hm dX12_imageOf_17 e_v3 ?_
      clear e_v3
      rcases mx_if_el hf with ⟨c6, hf⟩ | ⟨c6, hf⟩
      · refine sb_ic_ge hm dX12_imageOf_18 (tgt := 30) rfl (fun _ => ?_) (fun z => absurd c6 z)
        refine mx_S.pu (pc2 := 31) (lv2 := [(0, .ref a0), (1, .int a1)]) (st2 := [va_rf none]) hm dX12_imageOf_30 rfl ?_
        cases hf
        exact sx_are hm dX12_imageOf_31 rfl rfl (v := none)
      · refine sb_ic_ge hm dX12_imageOf_18 (tgt := 30) rfl (fun z => absurd z c6) (fun _ => ?_)
        refine mx_S.pu (pc2 := 22) (lv2 := [(0, .ref a0), (1, .int a1)]) (st2 := [.ref a0]) hm dX12_imageOf_21 rfl ?_
        replace hf := mx_sv_el hf; obtain ⟨v4, e_v4, hf⟩ := hf
        refine sx_get hm dX12_imageOf_22 rs_RX12_46 (xgr_el e_v4) ?_
        clear e_v4
        refine mx_S.pu (pc2 := 26) (lv2 := [(0, .ref a0), (1, .int a1)]) (st2 := [.int a1, .ref v4]) hm dX12_imageOf_25 rfl ?_
        replace hf := mx_sv_el hf; obtain ⟨v5, e_v5, hf⟩ := hf
        refine sx_qld hm dX12_imageOf_26 e_v5 ?_
        clear e_v5
        refine mx_S.pu (pc2 := 31) (lv2 := [(0, .ref a0), (1, .int a1)]) (st2 := [va_rf v5]) hm dX12_imageOf_27 rfl ?_
        cases hf
        exact sx_are hm dX12_imageOf_31 rfl rfl (v := v5)
set_option maxHeartbeats 4000000 in
set_option maxRecDepth 20000 in
theorem f_X12_image_ok (X : Nat × (Nat → Int32)) {F L : Nat} (hF : 1 ≤ F) (hL : 21 ≤ L) (nn : Nat) (a0 : Nat) (a1 : Int32) (a2 : Int32) (h : mx_H) {r : (Int32 × mx_H)} (hf : f_X12_image nn a0 a1 a2 h = some r) : mx_R X F L 367 [.ref a0, .int a1, .int a2] h (some (.int r.1), r.2, 0, 0) := by
  have hm : mx_mt 367 = some (yX12_image, cX12_image, 4, (some .int)) := mt_X12_image
  show mx_S X F L 367 0 [(0, .ref a0), (1, .int a1), (2, .int a2)] [] h 0 0 (some (.int r.1), r.2, 0, 0)
  unfold f_X12_image at hf
  refine mx_S.pu (pc2 := 1) (lv2 := [(0, .ref a0), (1, .int a1), (2, .int a2)]) (st2 := [.ref a0]) hm dX12_image_0 rfl ?_
  refine mx_S.pu (pc2 := 2) (lv2 := [(0, .ref a0), (1, .int a1), (2, .int a2)]) (st2 := [.int a1, .ref a0]) hm dX12_image_1 rfl ?_
  replace hf := mx_gd_el hf; obtain ⟨c1, hf⟩ := hf
  replace hf := mx_sv_el hf; obtain ⟨u2, e_u2, hf⟩ := hf
  refine sx_cv hm dX12_image_2 rs_RX12_146 mt_X12_imageOf [.int a1] [] (b := a0) (ci := 12) rfl rfl rfl c1 (Nat.le_of_ble_eq_true rfl) (Nat.le_of_ble_eq_true rfl) (by omega) (by omega) (f_X12_imageOf_ok X (by omega) (by omega) nn a0 a1 h e_u2) ?_
  clear e_u2
  show mx_S X F L 367 5 [(0, .ref a0), (1, .int a1), (2, .int a2)] [va_rf u2.1] u2.2 0 0 (some (.int r.1), r.2, 0, 0)
  refine sx_son (lv2 := [(3, va_rf u2.1), (0, .ref a0), (1, .int a1), (2, .int a2)]) hm dX12_image_5 rfl rfl ?_
  refine sx_aon hm dX12_image_6 rfl ?_
  rcases mx_oc_el hf with ⟨c4, hf⟩ | ⟨b3, c4, hf⟩
  · refine sx_ifnonnull_n hm dX12_image_7 c4 (tgt := 12) rfl ?_
    refine sx_ic (v := (-1)) hm dX12_image_10 (by decide) ?_
    cases hf
    exact sx_ire hm dX12_image_11 rfl rfl
  · refine sx_ifnonnull_s hm dX12_image_7 c4 (tgt := 12) rfl ?_
    rw [show va_rf u2.1 = Value.ref b3 by rw [c4]; rfl]
    refine mx_S.pu (pc2 := 13) (lv2 := [(3, .ref b3), (0, .ref a0), (1, .int a1), (2, .int a2)]) (st2 := [.int a2]) hm dX12_image_12 rfl ?_
    refine sx_ic (v := (-1)) hm dX12_image_13 (by decide) ?_
    rcases mx_if_el hf with ⟨c11, hf⟩ | ⟨c11, hf⟩
    · refine sb_ic_ne hm dX12_image_14 (tgt := 20) rfl (fun _ => ?_) (fun z => absurd c11 z)
      refine mx_S.pu (pc2 := 21) (lv2 := [(3, .ref b3), (0, .ref a0), (1, .int a1), (2, .int a2)]) (st2 := [.int a2]) hm dX12_image_20 rfl ?_
      rcases mx_if_el hf with ⟨c9, hf⟩ | ⟨c9, hf⟩
      · refine sb_if_lt hm dX12_image_21 (tgt := 40) rfl (fun _ => ?_) (fun z => absurd c9 z)
        refine sx_ic (v := (-1)) hm dX12_image_40 (by decide) ?_
        cases hf
        exact sx_ire hm dX12_image_41 rfl rfl
      · refine sb_if_lt hm dX12_image_21 (tgt := 40) rfl (fun z => absurd z c9) (fun _ => ?_)
        refine mx_S.pu (pc2 := 25) (lv2 := [(3, .ref b3), (0, .ref a0), (1, .int a1), (2, .int a2)]) (st2 := [.int a2]) hm dX12_image_24 rfl ?_
        refine mx_S.pu (pc2 := 26) (lv2 := [(3, .ref b3), (0, .ref a0), (1, .int a1), (2, .int a2)]) (st2 := [.ref b3, .int a2]) hm dX12_image_25 rfl ?_
        replace hf := mx_sv_el hf; obtain ⟨v5, e_v5, hf⟩ := hf
        refine sx_len hm dX12_image_26 e_v5 ?_
        clear e_v5
        rcases mx_if_el hf with ⟨c8, hf⟩ | ⟨c8, hf⟩
        · refine sb_ic_ge hm dX12_image_27 (tgt := 40) rfl (fun _ => ?_) (fun z => absurd c8 z)
          refine sx_ic (v := (-1)) hm dX12_image_40 (by decide) ?_
          cases hf
          exact sx_ire hm dX12_image_41 rfl rfl
        · refine sb_ic_ge hm dX12_image_27 (tgt := 40) rfl (fun z => absurd z c8) (fun _ => ?_)
          refine mx_S.pu (pc2 := 31) (lv2 := [(3, .ref b3), (0, .ref a0), (1, .int a1), (2, .int a2)]) (st2 := [.ref b3]) hm dX12_image_30 rfl ?_
          refine mx_S.pu (pc2 := 32) (lv2 := [(3, .ref b3), (0, .ref a0), (1, .int a1), (2, .int a2)]) (st2 := [.int a2, .ref b3]) hm dX12_image_31 rfl ?_
          replace hf := mx_sv_el hf; obtain ⟨v6, e_v6, hf⟩ := hf
          refine sx_bld hm dX12_image_32 e_v6 ?_
          clear e_v6
          refine sx_si (v := 255) hm dX12_image_33 (by decide) ?_
          replace hf := xl_el hf; obtain ⟨v7, e_v7, hf⟩ := hf
          refine mx_S.pu (pc2 := 37) (lv2 := [(3, .ref b3), (0, .ref a0), (1, .int a1), (2, .int a2)]) (st2 := [.int v7]) hm dX12_image_36 (by rw [← e_v7]; rfl) ?_
          clear e_v7
          refine mx_S.pu (pc2 := 41) (lv2 := [(3, .ref b3), (0, .ref a0), (1, .int a1), (2, .int a2)]) (st2 := [.int v7]) hm dX12_image_37 rfl ?_
          cases hf
          exact sx_ire hm dX12_image_41 rfl rfl
    · refine sb_ic_ne hm dX12_image_14 (tgt := 20) rfl (fun z => absurd z c11) (fun _ => ?_)
      refine mx_S.pu (pc2 := 18) (lv2 := [(3, .ref b3), (0, .ref a0), (1, .int a1), (2, .int a2)]) (st2 := [.ref b3]) hm dX12_image_17 rfl ?_
      replace hf := mx_sv_el hf; obtain ⟨v10, e_v10, hf⟩ := hf
      refine sx_len hm dX12_image_18 e_v10 ?_
      clear e_v10
      cases hf
      exact sx_ire hm dX12_image_19 rfl rfl
set_option maxHeartbeats 4000000 in
set_option maxRecDepth 20000 in
theorem f_X10_init_ok (X : Nat × (Nat → Int32)) {F L : Nat} (hF : 1 ≤ F) (hL : 60 ≤ L) (nn : Nat) (a0 : Nat) (a1 : Nat) (a2 : Nat) (a3 : Nat) (a4 : Nat) (h : mx_H) {r : (mx_H × Nat × Nat)} (hf : f_X10_init nn a0 a1 a2 a3 a4 h = some r) : mx_R X F L 271 [.ref a0, .ref a1, .ref a2, .ref a3, .ref a4] h (none, r.1, r.2.1, r.2.2) := by
  have hm : mx_mt 271 = some (yX10_init, cX10_init, 5, none) := mt_X10_init
  show mx_S X F L 271 0 [(0, .ref a0), (1, .ref a1), (2, .ref a2), (3, .ref a3), (4, .ref a4)] [] h 0 0 (none, r.1, r.2.1, r.2.2)
  unfold f_X10_init at hf
  refine mx_S.pu (pc2 := 1) (lv2 := [(0, .ref a0), (1, .ref a1), (2, .ref a2), (3, .ref a3), (4, .ref a4)]) (st2 := [.ref a0]) hm dX10_init_0 rfl ?_
  refine sx_oi hm dX10_init_1 rs_RX10_9 (by omega) (Nat.le_trans (Nat.le_of_ble_eq_true rfl : _ ≤ 60) (by omega)) ?_
  refine mx_S.pu (pc2 := 5) (lv2 := [(0, .ref a0), (1, .ref a1), (2, .ref a2), (3, .ref a3), (4, .ref a4)]) (st2 := [.ref a0]) hm dX10_init_4 rfl ?_
  refine sx_si (v := 420) hm dX10_init_5 (by decide) ?_
  replace hf := mx_gd_el hf; obtain ⟨c1, hf⟩ := hf
  replace hf := mx_sv_el hf; obtain ⟨u2, e_u2, hf⟩ := hf
  refine sx_na hm dX10_init_8 rfl (Or.inl rfl) c1 e_u2 ?_
  clear e_u2
  replace hf := mx_sv_el hf; obtain ⟨h3, e_h3, hf⟩ := hf
  refine sx_put hm dX10_init_10 rs_RX10_15 ft_10_5 ⟨rfl, rfl⟩ (fun _ => ⟨rfl, rfl⟩) e_h3 ?_
  clear e_h3
  refine mx_S.pu (pc2 := 14) (lv2 := [(0, .ref a0), (1, .ref a1), (2, .ref a2), (3, .ref a3), (4, .ref a4)]) (st2 := [.ref a0]) hm dX10_init_13 rfl ?_
  refine sx_si (v := 420) hm dX10_init_14 (by decide) ?_
  replace hf := mx_gd_el hf; obtain ⟨c4, hf⟩ := hf
  replace hf := mx_sv_el hf; obtain ⟨u5, e_u5, hf⟩ := hf
  refine sx_na hm dX10_init_17 rfl (Or.inl rfl) c4 e_u5 ?_
  clear e_u5
  replace hf := mx_sv_el hf; obtain ⟨h6, e_h6, hf⟩ := hf
  refine sx_put hm dX10_init_19 rs_RX10_19 ft_10_6 ⟨rfl, rfl⟩ (fun _ => ⟨rfl, rfl⟩) e_h6 ?_
  clear e_h6
  refine mx_S.pu (pc2 := 23) (lv2 := [(0, .ref a0), (1, .ref a1), (2, .ref a2), (3, .ref a3), (4, .ref a4)]) (st2 := [.ref a0]) hm dX10_init_22 rfl ?_
  refine sx_si (v := 420) hm dX10_init_23 (by decide) ?_
  replace hf := mx_gd_el hf; obtain ⟨c7, hf⟩ := hf
  replace hf := mx_sv_el hf; obtain ⟨u8, e_u8, hf⟩ := hf
  refine sx_na hm dX10_init_26 rfl (Or.inl rfl) c7 e_u8 ?_
  clear e_u8
  replace hf := mx_sv_el hf; obtain ⟨h9, e_h9, hf⟩ := hf
  refine sx_put hm dX10_init_28 rs_RX10_22 ft_10_7 ⟨rfl, rfl⟩ (fun _ => ⟨rfl, rfl⟩) e_h9 ?_
  clear e_h9
  refine mx_S.pu (pc2 := 32) (lv2 := [(0, .ref a0), (1, .ref a1), (2, .ref a2), (3, .ref a3), (4, .ref a4)]) (st2 := [.ref a0]) hm dX10_init_31 rfl ?_
  refine sx_si (v := 420) hm dX10_init_32 (by decide) ?_
  replace hf := mx_gd_el hf; obtain ⟨c10, hf⟩ := hf
  replace hf := mx_sv_el hf; obtain ⟨u11, e_u11, hf⟩ := hf
  refine sx_na hm dX10_init_35 rfl (Or.inl rfl) c10 e_u11 ?_
  clear e_u11
  replace hf := mx_sv_el hf; obtain ⟨h12, e_h12, hf⟩ := hf
  refine sx_put hm dX10_init_37 rs_RX10_25 ft_10_8 ⟨rfl, rfl⟩ (fun _ => ⟨rfl, rfl⟩) e_h12 ?_
  clear e_h12
  refine mx_S.pu (pc2 := 41) (lv2 := [(0, .ref a0), (1, .ref a1), (2, .ref a2), (3, .ref a3), (4, .ref a4)]) (st2 := [.ref a0]) hm dX10_init_40 rfl ?_
  refine sx_si (v := 420) hm dX10_init_41 (by decide) ?_
  replace hf := mx_gd_el hf; obtain ⟨c13, hf⟩ := hf
  replace hf := mx_sv_el hf; obtain ⟨u14, e_u14, hf⟩ := hf
  refine sx_na hm dX10_init_44 rfl (Or.inl rfl) c13 e_u14 ?_
  clear e_u14
  replace hf := mx_sv_el hf; obtain ⟨h15, e_h15, hf⟩ := hf
  refine sx_put hm dX10_init_46 rs_RX10_28 ft_10_9 ⟨rfl, rfl⟩ (fun _ => ⟨rfl, rfl⟩) e_h15 ?_
  clear e_h15
  refine mx_S.pu (pc2 := 50) (lv2 := [(0, .ref a0), (1, .ref a1), (2, .ref a2), (3, .ref a3), (4, .ref a4)]) (st2 := [.ref a0]) hm dX10_init_49 rfl ?_
  refine mx_S.pu (pc2 := 51) (lv2 := [(0, .ref a0), (1, .ref a1), (2, .ref a2), (3, .ref a3), (4, .ref a4)]) (st2 := [.ref a1, .ref a0]) hm dX10_init_50 rfl ?_
  replace hf := mx_sv_el hf; obtain ⟨h16, e_h16, hf⟩ := hf
  refine sx_put hm dX10_init_51 rs_RX10_31 ft_10_0 ⟨rfl, rfl⟩ (fun _ => ⟨rfl, rfl⟩) e_h16 ?_
  clear e_h16
  refine mx_S.pu (pc2 := 55) (lv2 := [(0, .ref a0), (1, .ref a1), (2, .ref a2), (3, .ref a3), (4, .ref a4)]) (st2 := [.ref a0]) hm dX10_init_54 rfl ?_
  refine mx_S.pu (pc2 := 56) (lv2 := [(0, .ref a0), (1, .ref a1), (2, .ref a2), (3, .ref a3), (4, .ref a4)]) (st2 := [.ref a2, .ref a0]) hm dX10_init_55 rfl ?_
  replace hf := mx_sv_el hf; obtain ⟨h17, e_h17, hf⟩ := hf
  refine sx_put hm dX10_init_56 rs_RX10_35 ft_10_1 ⟨rfl, rfl⟩ (fun _ => ⟨rfl, rfl⟩) e_h17 ?_
  clear e_h17
  refine mx_S.pu (pc2 := 60) (lv2 := [(0, .ref a0), (1, .ref a1), (2, .ref a2), (3, .ref a3), (4, .ref a4)]) (st2 := [.ref a0]) hm dX10_init_59 rfl ?_
  refine mx_S.pu (pc2 := 61) (lv2 := [(0, .ref a0), (1, .ref a1), (2, .ref a2), (3, .ref a3), (4, .ref a4)]) (st2 := [.ref a2, .ref a0]) hm dX10_init_60 rfl ?_
  replace hf := mx_sv_el hf; obtain ⟨v18, e_v18, hf⟩ := hf
  refine sx_get hm dX10_init_61 rs_RX10_39 (xgr_el e_v18) ?_
  clear e_v18
  replace hf := mx_sv_el hf; obtain ⟨h19, e_h19, hf⟩ := hf
  refine sx_put hm dX10_init_64 rs_RX10_45 ft_10_2 ⟨rfl, rfl⟩ (fun _ => ⟨rfl, rfl⟩) e_h19 ?_
  clear e_h19
  refine mx_S.pu (pc2 := 68) (lv2 := [(0, .ref a0), (1, .ref a1), (2, .ref a2), (3, .ref a3), (4, .ref a4)]) (st2 := [.ref a0]) hm dX10_init_67 rfl ?_
  refine mx_S.pu (pc2 := 69) (lv2 := [(0, .ref a0), (1, .ref a1), (2, .ref a2), (3, .ref a3), (4, .ref a4)]) (st2 := [.ref a3, .ref a0]) hm dX10_init_68 rfl ?_
  replace hf := mx_sv_el hf; obtain ⟨h20, e_h20, hf⟩ := hf
  refine sx_put hm dX10_init_69 rs_RX10_46 ft_10_3 ⟨rfl, rfl⟩ (fun _ => ⟨rfl, rfl⟩) e_h20 ?_
  clear e_h20
  refine mx_S.pu (pc2 := 73) (lv2 := [(0, .ref a0), (1, .ref a1), (2, .ref a2), (3, .ref a3), (4, .ref a4)]) (st2 := [.ref a0]) hm dX10_init_72 rfl ?_
  refine mx_S.pu (pc2 := 75) (lv2 := [(0, .ref a0), (1, .ref a1), (2, .ref a2), (3, .ref a3), (4, .ref a4)]) (st2 := [.ref a4, .ref a0]) hm dX10_init_73 rfl ?_
  replace hf := mx_sv_el hf; obtain ⟨h21, e_h21, hf⟩ := hf
  refine sx_put hm dX10_init_75 rs_RX10_50 ft_10_4 ⟨rfl, rfl⟩ (fun _ => ⟨rfl, rfl⟩) e_h21 ?_
  clear e_h21
  cases hf
  exact sx_ret hm dX10_init_78 rfl
set_option maxHeartbeats 4000000 in
set_option maxRecDepth 20000 in
theorem f_X1_init_ok (X : Nat × (Nat → Int32)) {F L : Nat} (hF : 1 ≤ F) (hL : 60 ≤ L) (nn : Nat) (a0 : Nat) (h : mx_H) {r : (mx_H × Nat × Nat)} (hf : f_X1_init nn a0 h = some r) : mx_R X F L 24 [.ref a0] h (none, r.1, r.2.1, r.2.2) := by
  have hm : mx_mt 24 = some (yX1_init, cX1_init, 1, none) := mt_X1_init
  show mx_S X F L 24 0 [(0, .ref a0)] [] h 0 0 (none, r.1, r.2.1, r.2.2)
  unfold f_X1_init at hf
  refine mx_S.pu (pc2 := 1) (lv2 := [(0, .ref a0)]) (st2 := [.ref a0]) hm dX1_init_0 rfl ?_
  refine sx_oi hm dX1_init_1 rs_RX1_7 (by omega) (Nat.le_trans (Nat.le_of_ble_eq_true rfl : _ ≤ 60) (by omega)) ?_
  refine mx_S.pu (pc2 := 5) (lv2 := [(0, .ref a0)]) (st2 := [.ref a0]) hm dX1_init_4 rfl ?_
  refine sx_si (v := 1500) hm dX1_init_5 (by decide) ?_
  replace hf := mx_gd_el hf; obtain ⟨c1, hf⟩ := hf
  replace hf := mx_sv_el hf; obtain ⟨u2, e_u2, hf⟩ := hf
  refine sx_na hm dX1_init_8 rfl (Or.inr (Or.inl rfl)) c1 e_u2 ?_
  clear e_u2
  replace hf := mx_sv_el hf; obtain ⟨h3, e_h3, hf⟩ := hf
  refine sx_put hm dX1_init_10 rs_RX1_13 ft_1_0 ⟨rfl, rfl⟩ (fun _ => ⟨rfl, rfl⟩) e_h3 ?_
  clear e_h3
  refine mx_S.pu (pc2 := 14) (lv2 := [(0, .ref a0)]) (st2 := [.ref a0]) hm dX1_init_13 rfl ?_
  refine sx_bi (v := 20) hm dX1_init_14 (by decide) ?_
  replace hf := mx_gd_el hf; obtain ⟨c4, hf⟩ := hf
  replace hf := mx_sv_el hf; obtain ⟨u5, e_u5, hf⟩ := hf
  refine sx_na hm dX1_init_16 rfl (Or.inl rfl) c4 e_u5 ?_
  clear e_u5
  replace hf := mx_sv_el hf; obtain ⟨h6, e_h6, hf⟩ := hf
  refine sx_put hm dX1_init_18 rs_RX1_17 ft_1_2 ⟨rfl, rfl⟩ (fun _ => ⟨rfl, rfl⟩) e_h6 ?_
  clear e_h6
  refine mx_S.pu (pc2 := 22) (lv2 := [(0, .ref a0)]) (st2 := [.ref a0]) hm dX1_init_21 rfl ?_
  refine sx_si (v := 750) hm dX1_init_22 (by decide) ?_
  replace hf := mx_gd_el hf; obtain ⟨c7, hf⟩ := hf
  replace hf := mx_sv_el hf; obtain ⟨u8, e_u8, hf⟩ := hf
  refine sx_na hm dX1_init_25 rfl (Or.inl rfl) c7 e_u8 ?_
  clear e_u8
  replace hf := mx_sv_el hf; obtain ⟨h9, e_h9, hf⟩ := hf
  refine sx_put hm dX1_init_27 rs_RX1_21 ft_1_5 ⟨rfl, rfl⟩ (fun _ => ⟨rfl, rfl⟩) e_h9 ?_
  clear e_h9
  refine mx_S.pu (pc2 := 31) (lv2 := [(0, .ref a0)]) (st2 := [.ref a0]) hm dX1_init_30 rfl ?_
  refine sx_si (v := 750) hm dX1_init_31 (by decide) ?_
  replace hf := mx_gd_el hf; obtain ⟨c10, hf⟩ := hf
  replace hf := mx_sv_el hf; obtain ⟨u11, e_u11, hf⟩ := hf
  refine sx_na hm dX1_init_34 rfl (Or.inl rfl) c10 e_u11 ?_
  clear e_u11
  replace hf := mx_sv_el hf; obtain ⟨h12, e_h12, hf⟩ := hf
  refine sx_put hm dX1_init_36 rs_RX1_24 ft_1_6 ⟨rfl, rfl⟩ (fun _ => ⟨rfl, rfl⟩) e_h12 ?_
  clear e_h12
  refine mx_S.pu (pc2 := 40) (lv2 := [(0, .ref a0)]) (st2 := [.ref a0]) hm dX1_init_39 rfl ?_
  refine sx_bi (v := 80) hm dX1_init_40 (by decide) ?_
  replace hf := mx_gd_el hf; obtain ⟨c13, hf⟩ := hf
  replace hf := mx_sv_el hf; obtain ⟨u14, e_u14, hf⟩ := hf
  refine sx_na hm dX1_init_42 rfl (Or.inl rfl) c13 e_u14 ?_
  clear e_u14
  replace hf := mx_sv_el hf; obtain ⟨h15, e_h15, hf⟩ := hf
  refine sx_put hm dX1_init_44 rs_RX1_27 ft_1_9 ⟨rfl, rfl⟩ (fun _ => ⟨rfl, rfl⟩) e_h15 ?_
  clear e_h15
  refine mx_S.pu (pc2 := 48) (lv2 := [(0, .ref a0)]) (st2 := [.ref a0]) hm dX1_init_47 rfl ?_
  refine sx_bi (v := 100) hm dX1_init_48 (by decide) ?_
  replace hf := mx_gd_el hf; obtain ⟨c16, hf⟩ := hf
  replace hf := mx_sv_el hf; obtain ⟨u17, e_u17, hf⟩ := hf
  refine sx_na hm dX1_init_50 rfl (Or.inl rfl) c16 e_u17 ?_
  clear e_u17
  replace hf := mx_sv_el hf; obtain ⟨h18, e_h18, hf⟩ := hf
  refine sx_put hm dX1_init_52 rs_RX1_30 ft_1_11 ⟨rfl, rfl⟩ (fun _ => ⟨rfl, rfl⟩) e_h18 ?_
  clear e_h18
  refine mx_S.pu (pc2 := 56) (lv2 := [(0, .ref a0)]) (st2 := [.ref a0]) hm dX1_init_55 rfl ?_
  refine sx_si (v := 5200) hm dX1_init_56 (by decide) ?_
  replace hf := mx_gd_el hf; obtain ⟨c19, hf⟩ := hf
  replace hf := mx_sv_el hf; obtain ⟨u20, e_u20, hf⟩ := hf
  refine sx_na hm dX1_init_59 rfl (Or.inl rfl) c19 e_u20 ?_
  clear e_u20
  replace hf := mx_sv_el hf; obtain ⟨h21, e_h21, hf⟩ := hf
  refine sx_put hm dX1_init_61 rs_RX1_33 ft_1_12 ⟨rfl, rfl⟩ (fun _ => ⟨rfl, rfl⟩) e_h21 ?_
  clear e_h21
  refine mx_S.pu (pc2 := 65) (lv2 := [(0, .ref a0)]) (st2 := [.ref a0]) hm dX1_init_64 rfl ?_
  refine sx_bi (v := 100) hm dX1_init_65 (by decide) ?_
  replace hf := mx_gd_el hf; obtain ⟨c22, hf⟩ := hf
  replace hf := mx_sv_el hf; obtain ⟨u23, e_u23, hf⟩ := hf
  refine sx_na hm dX1_init_67 rfl (Or.inl rfl) c22 e_u23 ?_
  clear e_u23
  replace hf := mx_sv_el hf; obtain ⟨h24, e_h24, hf⟩ := hf
  refine sx_put hm dX1_init_69 rs_RX1_36 ft_1_13 ⟨rfl, rfl⟩ (fun _ => ⟨rfl, rfl⟩) e_h24 ?_
  clear e_h24
  cases hf
  exact sx_ret hm dX1_init_72 rfl
set_option maxHeartbeats 4000000 in
set_option maxRecDepth 20000 in
theorem f_X6_init_ok (X : Nat × (Nat → Int32)) {F L : Nat} (hF : 1 ≤ F) (hL : 60 ≤ L) (nn : Nat) (a0 : Nat) (a1 : Nat) (a2 : Nat) (h : mx_H) {r : (mx_H × Nat × Nat)} (hf : f_X6_init nn a0 a1 a2 h = some r) : mx_R X F L 181 [.ref a0, .ref a1, .ref a2] h (none, r.1, r.2.1, r.2.2) := by
  have hm : mx_mt 181 = some (yX6_init, cX6_init, 3, none) := mt_X6_init
  show mx_S X F L 181 0 [(0, .ref a0), (1, .ref a1), (2, .ref a2)] [] h 0 0 (none, r.1, r.2.1, r.2.2)
  unfold f_X6_init at hf
  refine mx_S.pu (pc2 := 1) (lv2 := [(0, .ref a0), (1, .ref a1), (2, .ref a2)]) (st2 := [.ref a0]) hm dX6_init_0 rfl ?_
  refine sx_oi hm dX6_init_1 rs_RX6_1 (by omega) (Nat.le_trans (Nat.le_of_ble_eq_true rfl : _ ≤ 60) (by omega)) ?_
  refine mx_S.pu (pc2 := 5) (lv2 := [(0, .ref a0), (1, .ref a1), (2, .ref a2)]) (st2 := [.ref a0]) hm dX6_init_4 rfl ?_
  refine sx_si (v := 201) hm dX6_init_5 (by decide) ?_
  replace hf := mx_gd_el hf; obtain ⟨c1, hf⟩ := hf
  replace hf := mx_sv_el hf; obtain ⟨u2, e_u2, hf⟩ := hf
  refine sx_na hm dX6_init_8 rfl (Or.inl rfl) c1 e_u2 ?_
  clear e_u2
  replace hf := mx_sv_el hf; obtain ⟨h3, e_h3, hf⟩ := hf
  refine sx_put hm dX6_init_10 rs_RX6_9 ft_6_2 ⟨rfl, rfl⟩ (fun _ => ⟨rfl, rfl⟩) e_h3 ?_
  clear e_h3
  refine mx_S.pu (pc2 := 14) (lv2 := [(0, .ref a0), (1, .ref a1), (2, .ref a2)]) (st2 := [.ref a0]) hm dX6_init_13 rfl ?_
  refine sx_si (v := 201) hm dX6_init_14 (by decide) ?_
  replace hf := mx_gd_el hf; obtain ⟨c4, hf⟩ := hf
  replace hf := mx_sv_el hf; obtain ⟨u5, e_u5, hf⟩ := hf
  refine sx_na hm dX6_init_17 rfl (Or.inl rfl) c4 e_u5 ?_
  clear e_u5
  replace hf := mx_sv_el hf; obtain ⟨h6, e_h6, hf⟩ := hf
  refine sx_put hm dX6_init_19 rs_RX6_13 ft_6_3 ⟨rfl, rfl⟩ (fun _ => ⟨rfl, rfl⟩) e_h6 ?_
  clear e_h6
  refine mx_S.pu (pc2 := 23) (lv2 := [(0, .ref a0), (1, .ref a1), (2, .ref a2)]) (st2 := [.ref a0]) hm dX6_init_22 rfl ?_
  refine sx_si (v := 6000) hm dX6_init_23 (by decide) ?_
  replace hf := mx_gd_el hf; obtain ⟨c7, hf⟩ := hf
  replace hf := mx_sv_el hf; obtain ⟨u8, e_u8, hf⟩ := hf
  refine sx_na hm dX6_init_26 rfl (Or.inr (Or.inl rfl)) c7 e_u8 ?_
  clear e_u8
  replace hf := mx_sv_el hf; obtain ⟨h9, e_h9, hf⟩ := hf
  refine sx_put hm dX6_init_28 rs_RX6_16 ft_6_6 ⟨rfl, rfl⟩ (fun _ => ⟨rfl, rfl⟩) e_h9 ?_
  clear e_h9
  refine mx_S.pu (pc2 := 32) (lv2 := [(0, .ref a0), (1, .ref a1), (2, .ref a2)]) (st2 := [.ref a0]) hm dX6_init_31 rfl ?_
  refine mx_S.pu (pc2 := 33) (lv2 := [(0, .ref a0), (1, .ref a1), (2, .ref a2)]) (st2 := [.ref a1, .ref a0]) hm dX6_init_32 rfl ?_
  replace hf := mx_sv_el hf; obtain ⟨h10, e_h10, hf⟩ := hf
  refine sx_put hm dX6_init_33 rs_RX6_20 ft_6_0 ⟨rfl, rfl⟩ (fun _ => ⟨rfl, rfl⟩) e_h10 ?_
  clear e_h10
  refine mx_S.pu (pc2 := 37) (lv2 := [(0, .ref a0), (1, .ref a1), (2, .ref a2)]) (st2 := [.ref a0]) hm dX6_init_36 rfl ?_
  refine mx_S.pu (pc2 := 38) (lv2 := [(0, .ref a0), (1, .ref a1), (2, .ref a2)]) (st2 := [.ref a2, .ref a0]) hm dX6_init_37 rfl ?_
  replace hf := mx_sv_el hf; obtain ⟨h11, e_h11, hf⟩ := hf
  refine sx_put hm dX6_init_38 rs_RX6_24 ft_6_1 ⟨rfl, rfl⟩ (fun _ => ⟨rfl, rfl⟩) e_h11 ?_
  clear e_h11
  cases hf
  exact sx_ret hm dX6_init_41 rfl
set_option maxHeartbeats 4000000 in
set_option maxRecDepth 20000 in
theorem f_X0_init_ok (X : Nat × (Nat → Int32)) {F L : Nat} (hF : 2 ≤ F) (hL : 84 ≤ L) (nn : Nat) (a0 : Nat) (a1 : Nat) (a2 : Nat) (h : mx_H) {r : (mx_H × Nat × Nat)} (hf : f_X0_init nn a0 a1 a2 h = some r) : mx_R X F L 1 [.ref a0, .ref a1, .ref a2] h (none, r.1, r.2.1, r.2.2) := by
  have hm : mx_mt 1 = some (yX0_init, cX0_init, 3, none) := mt_X0_init
  show mx_S X F L 1 0 [(0, .ref a0), (1, .ref a1), (2, .ref a2)] [] h 0 0 (none, r.1, r.2.1, r.2.2)
  unfold f_X0_init at hf
  refine mx_S.pu (pc2 := 1) (lv2 := [(0, .ref a0), (1, .ref a1), (2, .ref a2)]) (st2 := [.ref a0]) hm dX0_init_0 rfl ?_
  refine sx_oi hm dX0_init_1 rs_RX0_7 (by omega) (Nat.le_trans (Nat.le_of_ble_eq_true rfl : _ ≤ 60) (by omega)) ?_
  refine mx_S.pu (pc2 := 5) (lv2 := [(0, .ref a0), (1, .ref a1), (2, .ref a2)]) (st2 := [.ref a0]) hm dX0_init_4 rfl ?_
  replace hf := mx_sv_el hf; obtain ⟨u1, e_u1, hf⟩ := hf
  refine sx_no hm dX0_init_5 rs_RX0_13 (dx_1 X) e_u1 ?_
  clear e_u1
  refine mx_S.pu (pc2 := 9) (lv2 := [(0, .ref a0), (1, .ref a1), (2, .ref a2)]) (st2 := [.ref u1.1, .ref u1.1, .ref a0]) hm dX0_init_8 rfl ?_
  replace hf := mx_sv_el hf; obtain ⟨u2, e_u2, hf⟩ := hf
  refine sx_ci hm dX0_init_9 (t := 4) (by decide) rs_RX0_15 mt_X1_init [] [.ref u1.1, .ref a0] (b := u1.1) rfl rfl (Nat.le_of_ble_eq_true rfl) (Nat.le_of_ble_eq_true rfl) (by omega) (by omega) (f_X1_init_ok X (by omega) (by omega) nn u1.1 u1.2 e_u2) ?_
  clear e_u2
  show mx_S X F L 1 12 [(0, .ref a0), (1, .ref a1), (2, .ref a2)] [.ref u1.1, .ref a0] u2.1 ((0 + 1) + u2.2.1) ((0 + 16) + u2.2.2) (none, r.1, r.2.1, r.2.2)
  replace hf := mx_sv_el hf; obtain ⟨h3, e_h3, hf⟩ := hf
  refine sx_put hm dX0_init_12 rs_RX0_16 ft_0_4 ⟨rfl, rfl⟩ (fun _ => ⟨rfl, rfl⟩) e_h3 ?_
  clear e_h3
  refine mx_S.pu (pc2 := 16) (lv2 := [(0, .ref a0), (1, .ref a1), (2, .ref a2)]) (st2 := [.ref a0]) hm dX0_init_15 rfl ?_
  refine sx_bi (v := 8) hm dX0_init_16 (by decide) ?_
  replace hf := mx_gd_el hf; obtain ⟨c4, hf⟩ := hf
  replace hf := mx_sv_el hf; obtain ⟨u5, e_u5, hf⟩ := hf
  refine sx_nb hm dX0_init_18 rs_RX0_100024 c4 e_u5 ?_
  clear e_u5
  replace hf := mx_sv_el hf; obtain ⟨h6, e_h6, hf⟩ := hf
  refine sx_put hm dX0_init_21 rs_RX0_26 ft_0_6 ⟨rfl, rfl⟩ (fun _ => ⟨rfl, rfl⟩) e_h6 ?_
  clear e_h6
  refine mx_S.pu (pc2 := 25) (lv2 := [(0, .ref a0), (1, .ref a1), (2, .ref a2)]) (st2 := [.ref a0]) hm dX0_init_24 rfl ?_
  refine sx_si (v := 500) hm dX0_init_25 (by decide) ?_
  replace hf := mx_gd_el hf; obtain ⟨c7, hf⟩ := hf
  replace hf := mx_sv_el hf; obtain ⟨u8, e_u8, hf⟩ := hf
  refine sx_na hm dX0_init_28 rfl (Or.inl rfl) c7 e_u8 ?_
  clear e_u8
  replace hf := mx_sv_el hf; obtain ⟨h9, e_h9, hf⟩ := hf
  refine sx_put hm dX0_init_30 rs_RX0_30 ft_0_11 ⟨rfl, rfl⟩ (fun _ => ⟨rfl, rfl⟩) e_h9 ?_
  clear e_h9
  refine mx_S.pu (pc2 := 34) (lv2 := [(0, .ref a0), (1, .ref a1), (2, .ref a2)]) (st2 := [.ref a0]) hm dX0_init_33 rfl ?_
  refine mx_S.pu (pc2 := 35) (lv2 := [(0, .ref a0), (1, .ref a1), (2, .ref a2)]) (st2 := [.ref a1, .ref a0]) hm dX0_init_34 rfl ?_
  replace hf := mx_sv_el hf; obtain ⟨h10, e_h10, hf⟩ := hf
  refine sx_put hm dX0_init_35 rs_RX0_34 ft_0_0 ⟨rfl, rfl⟩ (fun _ => ⟨rfl, rfl⟩) e_h10 ?_
  clear e_h10
  refine mx_S.pu (pc2 := 39) (lv2 := [(0, .ref a0), (1, .ref a1), (2, .ref a2)]) (st2 := [.ref a0]) hm dX0_init_38 rfl ?_
  refine mx_S.pu (pc2 := 40) (lv2 := [(0, .ref a0), (1, .ref a1), (2, .ref a2)]) (st2 := [.ref a2, .ref a0]) hm dX0_init_39 rfl ?_
  replace hf := mx_sv_el hf; obtain ⟨h11, e_h11, hf⟩ := hf
  refine sx_put hm dX0_init_40 rs_RX0_38 ft_0_1 ⟨rfl, rfl⟩ (fun _ => ⟨rfl, rfl⟩) e_h11 ?_
  clear e_h11
  refine mx_S.pu (pc2 := 44) (lv2 := [(0, .ref a0), (1, .ref a1), (2, .ref a2)]) (st2 := [.ref a0]) hm dX0_init_43 rfl ?_
  refine mx_S.pu (pc2 := 45) (lv2 := [(0, .ref a0), (1, .ref a1), (2, .ref a2)]) (st2 := [.ref a2, .ref a0]) hm dX0_init_44 rfl ?_
  replace hf := mx_sv_el hf; obtain ⟨v12, e_v12, hf⟩ := hf
  refine sx_get hm dX0_init_45 rs_RX0_42 (xgr_el e_v12) ?_
  clear e_v12
  replace hf := mx_sv_el hf; obtain ⟨h13, e_h13, hf⟩ := hf
  refine sx_put hm dX0_init_48 rs_RX0_46 ft_0_2 ⟨rfl, rfl⟩ (fun _ => ⟨rfl, rfl⟩) e_h13 ?_
  clear e_h13
  refine mx_S.pu (pc2 := 52) (lv2 := [(0, .ref a0), (1, .ref a1), (2, .ref a2)]) (st2 := [.ref a0]) hm dX0_init_51 rfl ?_
  replace hf := mx_sv_el hf; obtain ⟨u14, e_u14, hf⟩ := hf
  refine sx_no hm dX0_init_52 rs_RX0_47 (dx_6 X) e_u14 ?_
  clear e_u14
  refine mx_S.pu (pc2 := 56) (lv2 := [(0, .ref a0), (1, .ref a1), (2, .ref a2)]) (st2 := [.ref u14.1, .ref u14.1, .ref a0]) hm dX0_init_55 rfl ?_
  refine mx_S.pu (pc2 := 57) (lv2 := [(0, .ref a0), (1, .ref a1), (2, .ref a2)]) (st2 := [.ref a1, .ref u14.1, .ref u14.1, .ref a0]) hm dX0_init_56 rfl ?_
  refine mx_S.pu (pc2 := 58) (lv2 := [(0, .ref a0), (1, .ref a1), (2, .ref a2)]) (st2 := [.ref a2, .ref a1, .ref u14.1, .ref u14.1, .ref a0]) hm dX0_init_57 rfl ?_
  replace hf := mx_sv_el hf; obtain ⟨u15, e_u15, hf⟩ := hf
  refine sx_ci hm dX0_init_58 (t := 3) (by decide) rs_RX0_49 mt_X6_init [.ref a1, .ref a2] [.ref u14.1, .ref a0] (b := u14.1) rfl rfl (Nat.le_of_ble_eq_true rfl) (Nat.le_of_ble_eq_true rfl) (by omega) (by omega) (f_X6_init_ok X (by omega) (by omega) nn u14.1 a1 a2 u14.2 e_u15) ?_
  clear e_u15
  show mx_S X F L 1 61 [(0, .ref a0), (1, .ref a1), (2, .ref a2)] [.ref u14.1, .ref a0] u15.1 ((((((0 + 1) + u2.2.1) + 1) + 1) + 1) + u15.2.1) ((((((0 + 16) + u2.2.2) + (8 : Int32).toNatClampNeg) + (500 : Int32).toNatClampNeg) + 8) + u15.2.2) (none, r.1, r.2.1, r.2.2)
  replace hf := mx_sv_el hf; obtain ⟨h16, e_h16, hf⟩ := hf
  refine sx_put hm dX0_init_61 rs_RX0_52 ft_0_3 ⟨rfl, rfl⟩ (fun _ => ⟨rfl, rfl⟩) e_h16 ?_
  clear e_h16
  refine mx_S.pu (pc2 := 65) (lv2 := [(0, .ref a0), (1, .ref a1), (2, .ref a2)]) (st2 := [.ref a0]) hm dX0_init_64 rfl ?_
  replace hf := mx_sv_el hf; obtain ⟨u17, e_u17, hf⟩ := hf
  refine sx_no hm dX0_init_65 rs_RX0_56 (dx_10 X) e_u17 ?_
  clear e_u17
  refine mx_S.pu (pc2 := 69) (lv2 := [(0, .ref a0), (1, .ref a1), (2, .ref a2)]) (st2 := [.ref u17.1, .ref u17.1, .ref a0]) hm dX0_init_68 rfl ?_
  refine mx_S.pu (pc2 := 70) (lv2 := [(0, .ref a0), (1, .ref a1), (2, .ref a2)]) (st2 := [.ref a1, .ref u17.1, .ref u17.1, .ref a0]) hm dX0_init_69 rfl ?_
  refine mx_S.pu (pc2 := 71) (lv2 := [(0, .ref a0), (1, .ref a1), (2, .ref a2)]) (st2 := [.ref a2, .ref a1, .ref u17.1, .ref u17.1, .ref a0]) hm dX0_init_70 rfl ?_
  refine mx_S.pu (pc2 := 72) (lv2 := [(0, .ref a0), (1, .ref a1), (2, .ref a2)]) (st2 := [.ref a0, .ref a2, .ref a1, .ref u17.1, .ref u17.1, .ref a0]) hm dX0_init_71 rfl ?_
  replace hf := mx_sv_el hf; obtain ⟨v18, e_v18, hf⟩ := hf
  refine sx_get hm dX0_init_72 rs_RX0_16 (xgr_el e_v18) ?_
  clear e_v18
  refine mx_S.pu (pc2 := 76) (lv2 := [(0, .ref a0), (1, .ref a1), (2, .ref a2)]) (st2 := [.ref a0, .ref v18, .ref a2, .ref a1, .ref u17.1, .ref u17.1, .ref a0]) hm dX0_init_75 rfl ?_
  replace hf := mx_sv_el hf; obtain ⟨v19, e_v19, hf⟩ := hf
  refine sx_get hm dX0_init_76 rs_RX0_52 (xgr_el e_v19) ?_
  clear e_v19
  replace hf := mx_sv_el hf; obtain ⟨u20, e_u20, hf⟩ := hf
  refine sx_ci hm dX0_init_79 (t := 3) (by decide) rs_RX0_58 mt_X10_init [.ref a1, .ref a2, .ref v18, .ref v19] [.ref u17.1, .ref a0] (b := u17.1) rfl rfl (Nat.le_of_ble_eq_true rfl) (Nat.le_of_ble_eq_true rfl) (by omega) (by omega) (f_X10_init_ok X (by omega) (by omega) nn u17.1 a1 a2 v18 v19 u17.2 e_u20) ?_
  clear e_u20
  show mx_S X F L 1 82 [(0, .ref a0), (1, .ref a1), (2, .ref a2)] [.ref u17.1, .ref a0] u20.1 ((((((((0 + 1) + u2.2.1) + 1) + 1) + 1) + u15.2.1) + 1) + u20.2.1) ((((((((0 + 16) + u2.2.2) + (8 : Int32).toNatClampNeg) + (500 : Int32).toNatClampNeg) + 8) + u15.2.2) + 19) + u20.2.2) (none, r.1, r.2.1, r.2.2)
  replace hf := mx_sv_el hf; obtain ⟨h21, e_h21, hf⟩ := hf
  refine sx_put hm dX0_init_82 rs_RX0_61 ft_0_5 ⟨rfl, rfl⟩ (fun _ => ⟨rfl, rfl⟩) e_h21 ?_
  clear e_h21
  cases hf
  exact sx_ret hm dX0_init_85 rfl
set_option maxHeartbeats 4000000 in
set_option maxRecDepth 20000 in
theorem f_X3_init_ok (X : Nat × (Nat → Int32)) {F L : Nat} (hF : 1 ≤ F) (hL : 60 ≤ L) (nn : Nat) (a0 : Nat) (h : mx_H) {r : (mx_H × Nat × Nat)} (hf : f_X3_init nn a0 h = some r) : mx_R X F L 91 [.ref a0] h (none, r.1, r.2.1, r.2.2) := by
  have hm : mx_mt 91 = some (yX3_init, cX3_init, 1, none) := mt_X3_init
  show mx_S X F L 91 0 [(0, .ref a0)] [] h 0 0 (none, r.1, r.2.1, r.2.2)
  unfold f_X3_init at hf
  refine mx_S.pu (pc2 := 1) (lv2 := [(0, .ref a0)]) (st2 := [.ref a0]) hm dX3_init_0 rfl ?_
  refine sx_oi hm dX3_init_1 rs_RX3_3 (by omega) (Nat.le_trans (Nat.le_of_ble_eq_true rfl : _ ≤ 60) (by omega)) ?_
  refine mx_S.pu (pc2 := 5) (lv2 := [(0, .ref a0)]) (st2 := [.ref a0]) hm dX3_init_4 rfl ?_
  refine sx_ic (v := 0) hm dX3_init_5 (by decide) ?_
  replace hf := mx_gd_el hf; obtain ⟨c1, hf⟩ := hf
  replace hf := mx_sv_el hf; obtain ⟨u2, e_u2, hf⟩ := hf
  refine sx_na hm dX3_init_6 rfl (Or.inr (Or.inl rfl)) c1 e_u2 ?_
  clear e_u2
  replace hf := mx_sv_el hf; obtain ⟨h3, e_h3, hf⟩ := hf
  refine sx_put hm dX3_init_8 rs_RX3_9 ft_3_0 ⟨rfl, rfl⟩ (fun z => by cases z) e_h3 ?_
  clear e_h3
  refine mx_S.pu (pc2 := 12) (lv2 := [(0, .ref a0)]) (st2 := [.ref a0]) hm dX3_init_11 rfl ?_
  refine sx_si (v := 256) hm dX3_init_12 (by decide) ?_
  replace hf := mx_gd_el hf; obtain ⟨c4, hf⟩ := hf
  replace hf := mx_sv_el hf; obtain ⟨u5, e_u5, hf⟩ := hf
  refine sx_na hm dX3_init_15 rfl (Or.inl rfl) c4 e_u5 ?_
  clear e_u5
  replace hf := mx_sv_el hf; obtain ⟨h6, e_h6, hf⟩ := hf
  refine sx_put hm dX3_init_17 rs_RX3_15 ft_3_4 ⟨rfl, rfl⟩ (fun _ => ⟨rfl, rfl⟩) e_h6 ?_
  clear e_h6
  refine mx_S.pu (pc2 := 21) (lv2 := [(0, .ref a0)]) (st2 := [.ref a0]) hm dX3_init_20 rfl ?_
  refine sx_si (v := 256) hm dX3_init_21 (by decide) ?_
  replace hf := mx_gd_el hf; obtain ⟨c7, hf⟩ := hf
  replace hf := mx_sv_el hf; obtain ⟨u8, e_u8, hf⟩ := hf
  refine sx_na hm dX3_init_24 rfl (Or.inl rfl) c7 e_u8 ?_
  clear e_u8
  replace hf := mx_sv_el hf; obtain ⟨h9, e_h9, hf⟩ := hf
  refine sx_put hm dX3_init_26 rs_RX3_19 ft_3_5 ⟨rfl, rfl⟩ (fun _ => ⟨rfl, rfl⟩) e_h9 ?_
  clear e_h9
  refine mx_S.pu (pc2 := 30) (lv2 := [(0, .ref a0)]) (st2 := [.ref a0]) hm dX3_init_29 rfl ?_
  refine sx_si (v := 256) hm dX3_init_30 (by decide) ?_
  replace hf := mx_gd_el hf; obtain ⟨c10, hf⟩ := hf
  replace hf := mx_sv_el hf; obtain ⟨u11, e_u11, hf⟩ := hf
  refine sx_na hm dX3_init_33 rfl (Or.inl rfl) c10 e_u11 ?_
  clear e_u11
  replace hf := mx_sv_el hf; obtain ⟨h12, e_h12, hf⟩ := hf
  refine sx_put hm dX3_init_35 rs_RX3_22 ft_3_6 ⟨rfl, rfl⟩ (fun _ => ⟨rfl, rfl⟩) e_h12 ?_
  clear e_h12
  refine mx_S.pu (pc2 := 39) (lv2 := [(0, .ref a0)]) (st2 := [.ref a0]) hm dX3_init_38 rfl ?_
  refine sx_bi (v := 24) hm dX3_init_39 (by decide) ?_
  replace hf := mx_gd_el hf; obtain ⟨c13, hf⟩ := hf
  replace hf := mx_sv_el hf; obtain ⟨u14, e_u14, hf⟩ := hf
  refine sx_na hm dX3_init_41 rfl (Or.inl rfl) c13 e_u14 ?_
  clear e_u14
  replace hf := mx_sv_el hf; obtain ⟨h15, e_h15, hf⟩ := hf
  refine sx_put hm dX3_init_43 rs_RX3_27 ft_3_11 ⟨rfl, rfl⟩ (fun _ => ⟨rfl, rfl⟩) e_h15 ?_
  clear e_h15
  refine mx_S.pu (pc2 := 47) (lv2 := [(0, .ref a0)]) (st2 := [.ref a0]) hm dX3_init_46 rfl ?_
  refine sx_si (v := 144) hm dX3_init_47 (by decide) ?_
  replace hf := mx_gd_el hf; obtain ⟨c16, hf⟩ := hf
  replace hf := mx_sv_el hf; obtain ⟨u17, e_u17, hf⟩ := hf
  refine sx_na hm dX3_init_50 rfl (Or.inl rfl) c16 e_u17 ?_
  clear e_u17
  replace hf := mx_sv_el hf; obtain ⟨h18, e_h18, hf⟩ := hf
  refine sx_put hm dX3_init_52 rs_RX3_30 ft_3_13 ⟨rfl, rfl⟩ (fun _ => ⟨rfl, rfl⟩) e_h18 ?_
  clear e_h18
  cases hf
  exact sx_ret hm dX3_init_55 rfl
set_option maxHeartbeats 4000000 in
set_option maxRecDepth 20000 in
theorem f_X11_init_ok (X : Nat × (Nat → Int32)) {F L : Nat} (hF : 2 ≤ F) (hL : 80 ≤ L) (nn : Nat) (a0 : Nat) (a1 : Nat) (h : mx_H) {r : (mx_H × Nat × Nat)} (hf : f_X11_init nn a0 a1 h = some r) : mx_R X F L 306 [.ref a0, .ref a1] h (none, r.1, r.2.1, r.2.2) := by
  have hm : mx_mt 306 = some (yX11_init, cX11_init, 2, none) := mt_X11_init
  show mx_S X F L 306 0 [(0, .ref a0), (1, .ref a1)] [] h 0 0 (none, r.1, r.2.1, r.2.2)
  unfold f_X11_init at hf
  refine mx_S.pu (pc2 := 1) (lv2 := [(0, .ref a0), (1, .ref a1)]) (st2 := [.ref a0]) hm dX11_init_0 rfl ?_
  refine sx_oi hm dX11_init_1 rs_RX11_5 (by omega) (Nat.le_trans (Nat.le_of_ble_eq_true rfl : _ ≤ 60) (by omega)) ?_
  refine mx_S.pu (pc2 := 5) (lv2 := [(0, .ref a0), (1, .ref a1)]) (st2 := [.ref a0]) hm dX11_init_4 rfl ?_
  refine sx_ic (v := (-1)) hm dX11_init_5 (by decide) ?_
  replace hf := mx_sv_el hf; obtain ⟨h1, e_h1, hf⟩ := hf
  refine sx_put hm dX11_init_6 rs_RX11_11 ft_11_2 ⟨rfl, rfl⟩ (fun z => by cases z) e_h1 ?_
  clear e_h1
  refine mx_S.pu (pc2 := 10) (lv2 := [(0, .ref a0), (1, .ref a1)]) (st2 := [.ref a0]) hm dX11_init_9 rfl ?_
  refine sx_ic (v := (-1)) hm dX11_init_10 (by decide) ?_
  replace hf := mx_sv_el hf; obtain ⟨h2, e_h2, hf⟩ := hf
  refine sx_put hm dX11_init_11 rs_RX11_17 ft_11_3 ⟨rfl, rfl⟩ (fun z => by cases z) e_h2 ?_
  clear e_h2
  refine mx_S.pu (pc2 := 15) (lv2 := [(0, .ref a0), (1, .ref a1)]) (st2 := [.ref a0]) hm dX11_init_14 rfl ?_
  refine sx_ic (v := (-1)) hm dX11_init_15 (by decide) ?_
  replace hf := mx_sv_el hf; obtain ⟨h3, e_h3, hf⟩ := hf
  refine sx_put hm dX11_init_16 rs_RX11_20 ft_11_4 ⟨rfl, rfl⟩ (fun z => by cases z) e_h3 ?_
  clear e_h3
  refine mx_S.pu (pc2 := 20) (lv2 := [(0, .ref a0), (1, .ref a1)]) (st2 := [.ref a0]) hm dX11_init_19 rfl ?_
  refine sx_si (v := 256) hm dX11_init_20 (by decide) ?_
  replace hf := mx_gd_el hf; obtain ⟨c4, hf⟩ := hf
  replace hf := mx_sv_el hf; obtain ⟨u5, e_u5, hf⟩ := hf
  refine sx_na hm dX11_init_23 rfl (Or.inl rfl) c4 e_u5 ?_
  clear e_u5
  replace hf := mx_sv_el hf; obtain ⟨h6, e_h6, hf⟩ := hf
  refine sx_put hm dX11_init_25 rs_RX11_23 ft_11_8 ⟨rfl, rfl⟩ (fun _ => ⟨rfl, rfl⟩) e_h6 ?_
  clear e_h6
  refine mx_S.pu (pc2 := 29) (lv2 := [(0, .ref a0), (1, .ref a1)]) (st2 := [.ref a0]) hm dX11_init_28 rfl ?_
  refine sx_si (v := 256) hm dX11_init_29 (by decide) ?_
  replace hf := mx_gd_el hf; obtain ⟨c7, hf⟩ := hf
  replace hf := mx_sv_el hf; obtain ⟨u8, e_u8, hf⟩ := hf
  refine sx_na hm dX11_init_32 rfl (Or.inl rfl) c7 e_u8 ?_
  clear e_u8
  replace hf := mx_sv_el hf; obtain ⟨h9, e_h9, hf⟩ := hf
  refine sx_put hm dX11_init_34 rs_RX11_27 ft_11_9 ⟨rfl, rfl⟩ (fun _ => ⟨rfl, rfl⟩) e_h9 ?_
  clear e_h9
  refine mx_S.pu (pc2 := 38) (lv2 := [(0, .ref a0), (1, .ref a1)]) (st2 := [.ref a0]) hm dX11_init_37 rfl ?_
  refine sx_si (v := 256) hm dX11_init_38 (by decide) ?_
  replace hf := mx_gd_el hf; obtain ⟨c10, hf⟩ := hf
  replace hf := mx_sv_el hf; obtain ⟨u11, e_u11, hf⟩ := hf
  refine sx_na hm dX11_init_41 rfl (Or.inl rfl) c10 e_u11 ?_
  clear e_u11
  replace hf := mx_sv_el hf; obtain ⟨h12, e_h12, hf⟩ := hf
  refine sx_put hm dX11_init_43 rs_RX11_30 ft_11_10 ⟨rfl, rfl⟩ (fun _ => ⟨rfl, rfl⟩) e_h12 ?_
  clear e_h12
  refine mx_S.pu (pc2 := 47) (lv2 := [(0, .ref a0), (1, .ref a1)]) (st2 := [.ref a0]) hm dX11_init_46 rfl ?_
  refine sx_si (v := 1799) hm dX11_init_47 (by decide) ?_
  replace hf := mx_gd_el hf; obtain ⟨c13, hf⟩ := hf
  replace hf := mx_sv_el hf; obtain ⟨u14, e_u14, hf⟩ := hf
  refine sx_na hm dX11_init_50 rfl (Or.inl rfl) c13 e_u14 ?_
  clear e_u14
  replace hf := mx_sv_el hf; obtain ⟨h15, e_h15, hf⟩ := hf
  refine sx_put hm dX11_init_52 rs_RX11_33 ft_11_11 ⟨rfl, rfl⟩ (fun _ => ⟨rfl, rfl⟩) e_h15 ?_
  clear e_h15
  refine mx_S.pu (pc2 := 56) (lv2 := [(0, .ref a0), (1, .ref a1)]) (st2 := [.ref a0]) hm dX11_init_55 rfl ?_
  refine sx_si (v := 1500) hm dX11_init_56 (by decide) ?_
  replace hf := mx_gd_el hf; obtain ⟨c16, hf⟩ := hf
  replace hf := mx_sv_el hf; obtain ⟨u17, e_u17, hf⟩ := hf
  refine sx_na hm dX11_init_59 rfl (Or.inl rfl) c16 e_u17 ?_
  clear e_u17
  replace hf := mx_sv_el hf; obtain ⟨h18, e_h18, hf⟩ := hf
  refine sx_put hm dX11_init_61 rs_RX11_38 ft_11_12 ⟨rfl, rfl⟩ (fun _ => ⟨rfl, rfl⟩) e_h18 ?_
  clear e_h18
  refine mx_S.pu (pc2 := 65) (lv2 := [(0, .ref a0), (1, .ref a1)]) (st2 := [.ref a0]) hm dX11_init_64 rfl ?_
  refine sx_si (v := 6400) hm dX11_init_65 (by decide) ?_
  replace hf := mx_gd_el hf; obtain ⟨c19, hf⟩ := hf
  replace hf := mx_sv_el hf; obtain ⟨u20, e_u20, hf⟩ := hf
  refine sx_na hm dX11_init_68 rfl (Or.inl rfl) c19 e_u20 ?_
  clear e_u20
  replace hf := mx_sv_el hf; obtain ⟨h21, e_h21, hf⟩ := hf
  refine sx_put hm dX11_init_70 rs_RX11_41 ft_11_13 ⟨rfl, rfl⟩ (fun _ => ⟨rfl, rfl⟩) e_h21 ?_
  clear e_h21
  refine mx_S.pu (pc2 := 74) (lv2 := [(0, .ref a0), (1, .ref a1)]) (st2 := [.ref a0]) hm dX11_init_73 rfl ?_
  refine sx_bi (v := 30) hm dX11_init_74 (by decide) ?_
  replace hf := mx_gd_el hf; obtain ⟨c22, hf⟩ := hf
  replace hf := mx_sv_el hf; obtain ⟨u23, e_u23, hf⟩ := hf
  refine sx_na hm dX11_init_76 rfl (Or.inl rfl) c22 e_u23 ?_
  clear e_u23
  replace hf := mx_sv_el hf; obtain ⟨h24, e_h24, hf⟩ := hf
  refine sx_put hm dX11_init_78 rs_RX11_44 ft_11_14 ⟨rfl, rfl⟩ (fun _ => ⟨rfl, rfl⟩) e_h24 ?_
  clear e_h24
  refine mx_S.pu (pc2 := 82) (lv2 := [(0, .ref a0), (1, .ref a1)]) (st2 := [.ref a0]) hm dX11_init_81 rfl ?_
  refine sx_bi (v := 30) hm dX11_init_82 (by decide) ?_
  replace hf := mx_gd_el hf; obtain ⟨c25, hf⟩ := hf
  replace hf := mx_sv_el hf; obtain ⟨u26, e_u26, hf⟩ := hf
  refine sx_na hm dX11_init_84 rfl (Or.inl rfl) c25 e_u26 ?_
  clear e_u26
  replace hf := mx_sv_el hf; obtain ⟨h27, e_h27, hf⟩ := hf
  refine sx_put hm dX11_init_86 rs_RX11_47 ft_11_15 ⟨rfl, rfl⟩ (fun _ => ⟨rfl, rfl⟩) e_h27 ?_
  clear e_h27
  refine mx_S.pu (pc2 := 90) (lv2 := [(0, .ref a0), (1, .ref a1)]) (st2 := [.ref a0]) hm dX11_init_89 rfl ?_
  refine mx_S.pu (pc2 := 91) (lv2 := [(0, .ref a0), (1, .ref a1)]) (st2 := [.ref a1, .ref a0]) hm dX11_init_90 rfl ?_
  replace hf := mx_sv_el hf; obtain ⟨h28, e_h28, hf⟩ := hf
  refine sx_put hm dX11_init_91 rs_RX11_50 ft_11_0 ⟨rfl, rfl⟩ (fun _ => ⟨rfl, rfl⟩) e_h28 ?_
  clear e_h28
  refine mx_S.pu (pc2 := 95) (lv2 := [(0, .ref a0), (1, .ref a1)]) (st2 := [.ref a0]) hm dX11_init_94 rfl ?_
  refine mx_S.pu (pc2 := 96) (lv2 := [(0, .ref a0), (1, .ref a1)]) (st2 := [.ref a1, .ref a0]) hm dX11_init_95 rfl ?_
  replace hf := mx_sv_el hf; obtain ⟨v29, e_v29, hf⟩ := hf
  refine sx_get hm dX11_init_96 rs_RX11_54 (xgr_el e_v29) ?_
  clear e_v29
  replace hf := mx_sv_el hf; obtain ⟨h30, e_h30, hf⟩ := hf
  refine sx_put hm dX11_init_99 rs_RX11_60 ft_11_1 ⟨rfl, rfl⟩ (fun _ => ⟨rfl, rfl⟩) e_h30 ?_
  clear e_h30
  refine mx_S.pu (pc2 := 103) (lv2 := [(0, .ref a0), (1, .ref a1)]) (st2 := [.ref a0]) hm dX11_init_102 rfl ?_
  replace hf := mx_sv_el hf; obtain ⟨u31, e_u31, hf⟩ := hf
  refine sx_no hm dX11_init_103 rs_RX11_36 (dx_3 X) e_u31 ?_
  clear e_u31
  refine mx_S.pu (pc2 := 107) (lv2 := [(0, .ref a0), (1, .ref a1)]) (st2 := [.ref u31.1, .ref u31.1, .ref a0]) hm dX11_init_106 rfl ?_
  replace hf := mx_sv_el hf; obtain ⟨u32, e_u32, hf⟩ := hf
  refine sx_ci hm dX11_init_107 (t := 4) (by decide) rs_RX11_61 mt_X3_init [] [.ref u31.1, .ref a0] (b := u31.1) rfl rfl (Nat.le_of_ble_eq_true rfl) (Nat.le_of_ble_eq_true rfl) (by omega) (by omega) (f_X3_init_ok X (by omega) (by omega) nn u31.1 u31.2 e_u32) ?_
  clear e_u32
  show mx_S X F L 306 110 [(0, .ref a0), (1, .ref a1)] [.ref u31.1, .ref a0] u32.1 ((((((((((0 + 1) + 1) + 1) + 1) + 1) + 1) + 1) + 1) + 1) + u32.2.1) ((((((((((0 + (256 : Int32).toNatClampNeg) + (256 : Int32).toNatClampNeg) + (256 : Int32).toNatClampNeg) + (1799 : Int32).toNatClampNeg) + (1500 : Int32).toNatClampNeg) + (6400 : Int32).toNatClampNeg) + (30 : Int32).toNatClampNeg) + (30 : Int32).toNatClampNeg) + 14) + u32.2.2) (none, r.1, r.2.1, r.2.2)
  replace hf := mx_sv_el hf; obtain ⟨h33, e_h33, hf⟩ := hf
  refine sx_put hm dX11_init_110 rs_RX11_62 ft_11_5 ⟨rfl, rfl⟩ (fun z => by cases z) e_h33 ?_
  clear e_h33
  cases hf
  exact sx_ret hm dX11_init_113 rfl
