set_option maxHeartbeats 4000000 in
set_option maxRecDepth 20000 in
theorem f_X1_addLocal_ok (X : Nat × (Nat → Int32)) {F L : Nat} (hF : 1 ≤ F) (hL : 60 ≤ L) (nn : Nat) (a0 : Nat) (a1 : Int32) (a2 : Int32) (h : mx_H) {r : (Int32 × mx_H)} (hf : f_X1_addLocal nn a0 a1 a2 h = some r) : mx_R X F L 31 [.ref a0, .int a1, .int a2] h (some (.int r.1), r.2, 0, 0) := by
  have hm : mx_mt 31 = some (yX1_addLocal, cX1_addLocal, 4, (some .int)) := mt_X1_addLocal
  show mx_S X F L 31 0 [(0, .ref a0), (1, .int a1), (2, .int a2)] [] h 0 0 (some (.int r.1), r.2, 0, 0)
  unfold f_X1_addLocal at hf
  refine mx_S.pu (pc2 := 1) (lv2 := [(0, .ref a0), (1, .int a1), (2, .int a2)]) (st2 := [.ref a0]) hm dX1_addLocal_0 rfl ?_
  replace hf := mx_sv_el hf; obtain ⟨v8, e_v8, hf⟩ := hf
  refine sx_get hm dX1_addLocal_1 rs_RX1_49 (xgi_el e_v8) ?_
  clear e_v8
  refine mx_S.pu (pc2 := 5) (lv2 := [(3, .int v8), (0, .ref a0), (1, .int a1), (2, .int a2)]) (st2 := []) hm dX1_addLocal_4 rfl ?_
  refine mx_S.pu (pc2 := 6) (lv2 := [(3, .int v8), (0, .ref a0), (1, .int a1), (2, .int a2)]) (st2 := [.int v8]) hm dX1_addLocal_5 rfl ?_
  refine mx_S.pu (pc2 := 7) (lv2 := [(3, .int v8), (0, .ref a0), (1, .int a1), (2, .int a2)]) (st2 := [.ref a0, .int v8]) hm dX1_addLocal_6 rfl ?_
  replace hf := mx_sv_el hf; obtain ⟨v9, e_v9, hf⟩ := hf
  refine sx_get hm dX1_addLocal_7 rs_RX1_21 (xgr_el e_v9) ?_
  clear e_v9
  replace hf := mx_sv_el hf; obtain ⟨v10, e_v10, hf⟩ := hf
  refine sx_len hm dX1_addLocal_10 e_v10 ?_
  clear e_v10
  rcases mx_if_el hf with ⟨c15, hf⟩ | ⟨c15, hf⟩
  · refine sb_ic_ge hm dX1_addLocal_11 (tgt := 28) rfl (fun _ => ?_) (fun z => absurd c15 z)
    refine mx_S.ext [(0, .ref a0), (3, .int v8)] (mx_sub_pos [1, 0] rfl (show ([3, 0, 1, 2] : List Nat).Nodup by decide)) ?_
    exact j_X1_addLocal_28_ok X hF hL nn a0 v8 h hf
  · refine sb_ic_ge hm dX1_addLocal_11 (tgt := 28) rfl (fun z => absurd z c15) (fun _ => ?_)
    refine mx_S.pu (pc2 := 15) (lv2 := [(3, .int v8), (0, .ref a0), (1, .int a1), (2, .int a2)]) (st2 := [.ref a0]) hm dX1_addLocal_14 rfl ?_
    replace hf := mx_sv_el hf; obtain ⟨v11, e_v11, hf⟩ := hf
    refine sx_get hm dX1_addLocal_15 rs_RX1_21 (xgr_el e_v11) ?_
    clear e_v11
    refine mx_S.pu (pc2 := 19) (lv2 := [(3, .int v8), (0, .ref a0), (1, .int a1), (2, .int a2)]) (st2 := [.int v8, .ref v11]) hm dX1_addLocal_18 rfl ?_
    refine mx_S.pu (pc2 := 20) (lv2 := [(3, .int v8), (0, .ref a0), (1, .int a1), (2, .int a2)]) (st2 := [.int a1, .int v8, .ref v11]) hm dX1_addLocal_19 rfl ?_
    replace hf := mx_sv_el hf; obtain ⟨h12, e_h12, hf⟩ := hf
    refine sx_ast hm dX1_addLocal_20 e_h12 ?_
    clear e_h12
    refine mx_S.pu (pc2 := 22) (lv2 := [(3, .int v8), (0, .ref a0), (1, .int a1), (2, .int a2)]) (st2 := [.ref a0]) hm dX1_addLocal_21 rfl ?_
    replace hf := mx_sv_el hf; obtain ⟨v13, e_v13, hf⟩ := hf
    refine sx_get hm dX1_addLocal_22 rs_RX1_24 (xgr_el e_v13) ?_
    clear e_v13
    refine mx_S.pu (pc2 := 26) (lv2 := [(3, .int v8), (0, .ref a0), (1, .int a1), (2, .int a2)]) (st2 := [.int v8, .ref v13]) hm dX1_addLocal_25 rfl ?_
    refine mx_S.pu (pc2 := 27) (lv2 := [(3, .int v8), (0, .ref a0), (1, .int a1), (2, .int a2)]) (st2 := [.int a2, .int v8, .ref v13]) hm dX1_addLocal_26 rfl ?_
    replace hf := mx_sv_el hf; obtain ⟨h14, e_h14, hf⟩ := hf
    refine sx_ast hm dX1_addLocal_27 e_h14 ?_
    clear e_h14
    refine mx_S.ext [(0, .ref a0), (3, .int v8)] (mx_sub_pos [1, 0] rfl (show ([3, 0, 1, 2] : List Nat).Nodup by decide)) ?_
    exact j_X1_addLocal_28_ok X hF hL nn a0 v8 h14 hf
set_option maxHeartbeats 4000000 in
set_option maxRecDepth 20000 in
theorem j_X2_readType_109_ok (X : Nat × (Nat → Int32)) {F L : Nat} (hF : 2 ≤ F) (hL : 43 ≤ L) (nn : Nat) (l1 : Int32) (l3 : Int32) (l4 : Int32) (h : mx_H) {r : (Int32 × mx_H)} (hf : j_X2_readType_109 nn l1 l3 l4 h = some r) : mx_S X F L 65 109 [(1, .int l1), (3, .int l3), (4, .int l4)] [] h 0 0 (some (.int r.1), r.2, 0, 0) := by
  have hm : mx_mt 65 = some (yX2_readType, cX2_readType, 5, (some .int)) := mt_X2_readType
  unfold j_X2_readType_109 at hf
  refine mx_S.pu (pc2 := 110) (lv2 := [(1, .int l1), (3, .int l3), (4, .int l4)]) (st2 := [.int l1]) hm dX2_readType_109 rfl ?_
  refine sx_bi (v := 20) hm dX2_readType_110 (by decide) ?_
  rcases mx_if_el hf with ⟨c4, hf⟩ | ⟨c4, hf⟩
  · refine sb_ic_ne hm dX2_readType_112 (tgt := 130) rfl (fun _ => ?_) (fun z => absurd c4 z)
    refine mx_S.pu (pc2 := 132) (lv2 := [(1, .int l1), (3, .int l3), (4, .int l4)]) (st2 := [.int l4]) hm dX2_readType_130 rfl ?_
    rcases mx_if_el hf with ⟨c2, hf⟩ | ⟨c2, hf⟩
    · refine sb_if_eq hm dX2_readType_132 (tgt := 142) rfl (fun _ => ?_) (fun z => absurd c2 z)
      refine mx_S.pu (pc2 := 143) (lv2 := [(1, .int l1), (3, .int l3), (4, .int l4)]) (st2 := [.int l3]) hm dX2_readType_142 rfl ?_
      cases hf
      exact sx_ire hm dX2_readType_143 rfl rfl
    · refine sb_if_eq hm dX2_readType_132 (tgt := 142) rfl (fun z => absurd z c2) (fun _ => ?_)
      refine sx_bi (v := 100) hm dX2_readType_135 (by decide) ?_
      refine mx_S.pu (pc2 := 138) (lv2 := [(1, .int l1), (3, .int l3), (4, .int l4)]) (st2 := [.int l3, .int 100]) hm dX2_readType_137 rfl ?_
      replace hf := xl_el hf; obtain ⟨v1, e_v1, hf⟩ := hf
      refine mx_S.pu (pc2 := 139) (lv2 := [(1, .int l1), (3, .int l3), (4, .int l4)]) (st2 := [.int v1]) hm dX2_readType_138 (by rw [← e_v1]; rfl) ?_
      clear e_v1
      refine mx_S.pu (pc2 := 143) (lv2 := [(1, .int l1), (3, .int l3), (4, .int l4)]) (st2 := [.int v1]) hm dX2_readType_139 rfl ?_
      cases hf
      exact sx_ire hm dX2_readType_143 rfl rfl
  · refine sb_ic_ne hm dX2_readType_112 (tgt := 130) rfl (fun z => absurd z c4) (fun _ => ?_)
    refine mx_S.pu (pc2 := 117) (lv2 := [(1, .int l1), (3, .int l3), (4, .int l4)]) (st2 := [.int l4]) hm dX2_readType_115 rfl ?_
    rcases mx_if_el hf with ⟨c3, hf⟩ | ⟨c3, hf⟩
    · refine sb_if_eq hm dX2_readType_117 (tgt := 126) rfl (fun _ => ?_) (fun z => absurd c3 z)
      refine sx_si (v := 301) hm dX2_readType_126 (by decide) ?_
      cases hf
      exact sx_ire hm dX2_readType_129 rfl rfl
    · refine sb_if_eq hm dX2_readType_117 (tgt := 126) rfl (fun z => absurd z c3) (fun _ => ?_)
      refine sx_si (v := 200) hm dX2_readType_120 (by decide) ?_
      refine mx_S.pu (pc2 := 129) (lv2 := [(1, .int l1), (3, .int l3), (4, .int l4)]) (st2 := [.int 200]) hm dX2_readType_123 rfl ?_
      cases hf
      exact sx_ire hm dX2_readType_129 rfl rfl
set_option maxHeartbeats 4000000 in
set_option maxRecDepth 20000 in
theorem j_X2_readType_89_ok (X : Nat × (Nat → Int32)) {F L : Nat} (hF : 2 ≤ F) (hL : 43 ≤ L) (nn : Nat) (l0 : Nat) (l1 : Int32) (l3 : Int32) (s0 : Int32) (h : mx_H) {r : (Int32 × mx_H)} (hf : j_X2_readType_89 nn l0 l1 l3 s0 h = some r) : mx_S X F L 65 89 [(0, .ref l0), (1, .int l1), (3, .int l3)] [.int s0] h 0 0 (some (.int r.1), r.2, 0, 0) := by
  have hm : mx_mt 65 = some (yX2_readType, cX2_readType, 5, (some .int)) := mt_X2_readType
  unfold j_X2_readType_89 at hf
  refine mx_S.pu (pc2 := 91) (lv2 := [(4, .int s0), (0, .ref l0), (1, .int l1), (3, .int l3)]) (st2 := []) hm dX2_readType_89 rfl ?_
  refine mx_S.pu (pc2 := 93) (lv2 := [(4, .int s0), (0, .ref l0), (1, .int l1), (3, .int l3)]) (st2 := [.int s0]) hm dX2_readType_91 rfl ?_
  rcases mx_if_el hf with ⟨c9, hf⟩ | ⟨c9, hf⟩
  · refine sb_if_eq hm dX2_readType_93 (tgt := 109) rfl (fun _ => ?_) (fun z => absurd c9 z)
    refine mx_S.ext [(1, .int l1), (3, .int l3), (4, .int s0)] (mx_sub_pos [2, 3, 0] rfl (show ([4, 0, 1, 3] : List Nat).Nodup by decide)) ?_
    exact j_X2_readType_109_ok X hF hL nn l1 l3 s0 h hf
  · refine sb_if_eq hm dX2_readType_93 (tgt := 109) rfl (fun z => absurd z c9) (fun _ => ?_)
    refine mx_S.pu (pc2 := 97) (lv2 := [(4, .int s0), (0, .ref l0), (1, .int l1), (3, .int l3)]) (st2 := [.ref l0]) hm dX2_readType_96 rfl ?_
    replace hf := mx_sv_el hf; obtain ⟨v5, e_v5, hf⟩ := hf
    refine sx_get hm dX2_readType_97 rs_RX2_74 (xgr_el e_v5) ?_
    clear e_v5
    refine mx_S.pu (pc2 := 101) (lv2 := [(4, .int s0), (0, .ref l0), (1, .int l1), (3, .int l3)]) (st2 := [.ref v5, .ref v5]) hm dX2_readType_100 rfl ?_
    replace hf := mx_sv_el hf; obtain ⟨v6, e_v6, hf⟩ := hf
    refine sx_get hm dX2_readType_101 rs_RX2_118 (xgi_el e_v6) ?_
    clear e_v6
    refine sx_ic (v := 2) hm dX2_readType_104 (by decide) ?_
    replace hf := xl_el hf; obtain ⟨v7, e_v7, hf⟩ := hf
    refine mx_S.pu (pc2 := 106) (lv2 := [(4, .int s0), (0, .ref l0), (1, .int l1), (3, .int l3)]) (st2 := [.int v7, .ref v5]) hm dX2_readType_105 (by rw [← e_v7]; rfl) ?_
    clear e_v7
    replace hf := mx_sv_el hf; obtain ⟨h8, e_h8, hf⟩ := hf
    refine sx_put hm dX2_readType_106 rs_RX2_118 ft_9_10 ⟨rfl, rfl⟩ (fun z => by cases z) e_h8 ?_
    clear e_h8
    refine mx_S.ext [(1, .int l1), (3, .int l3), (4, .int s0)] (mx_sub_pos [2, 3, 0] rfl (show ([4, 0, 1, 3] : List Nat).Nodup by decide)) ?_
    exact j_X2_readType_109_ok X hF hL nn l1 l3 s0 h8 hf
set_option maxHeartbeats 4000000 in
set_option maxRecDepth 20000 in
theorem j_X2_readType_53_ok (X : Nat × (Nat → Int32)) {F L : Nat} (hF : 2 ≤ F) (hL : 43 ≤ L) (nn : Nat) (l0 : Nat) (l1 : Int32) (l2 : Int32) (s0 : Int32) (h : mx_H) {r : (Int32 × mx_H)} (hf : j_X2_readType_53 nn l0 l1 l2 s0 h = some r) : mx_S X F L 65 53 [(0, .ref l0), (1, .int l1), (2, .int l2)] [.int s0] h 0 0 (some (.int r.1), r.2, 0, 0) := by
  have hm : mx_mt 65 = some (yX2_readType, cX2_readType, 5, (some .int)) := mt_X2_readType
  unfold j_X2_readType_53 at hf
  refine mx_S.pu (pc2 := 54) (lv2 := [(3, .int s0), (0, .ref l0), (1, .int l1), (2, .int l2)]) (st2 := []) hm dX2_readType_53 rfl ?_
  refine mx_S.pu (pc2 := 55) (lv2 := [(3, .int s0), (0, .ref l0), (1, .int l1), (2, .int l2)]) (st2 := [.int s0]) hm dX2_readType_54 rfl ?_
  refine sx_ic (v := (-1)) hm dX2_readType_55 (by decide) ?_
  rcases mx_if_el hf with ⟨c17, hf⟩ | ⟨c17, hf⟩
  · refine sb_ic_ne hm dX2_readType_56 (tgt := 72) rfl (fun _ => ?_) (fun z => absurd c17 z)
    refine mx_S.pu (pc2 := 73) (lv2 := [(3, .int s0), (0, .ref l0), (1, .int l1), (2, .int l2)]) (st2 := [.ref l0]) hm dX2_readType_72 rfl ?_
    replace hf := mx_sv_el hf; obtain ⟨v10, e_v10, hf⟩ := hf
    refine sx_get hm dX2_readType_73 rs_RX2_74 (xgr_el e_v10) ?_
    clear e_v10
    replace hf := mx_gd_el hf; obtain ⟨c11, hf⟩ := hf
    replace hf := mx_sv_el hf; obtain ⟨u12, e_u12, hf⟩ := hf
    refine sx_cv hm dX2_readType_76 rs_RX2_121 mt_X9_kind [] [] (b := v10) (ci := 9) rfl rfl rfl c11 (Nat.le_of_ble_eq_true rfl) (Nat.le_of_ble_eq_true rfl) (by omega) (by omega) (f_X9_kind_ok X (by omega) (by omega) nn v10 h e_u12) ?_
    clear e_u12
    show mx_S X F L 65 79 [(3, .int s0), (0, .ref l0), (1, .int l1), (2, .int l2)] [.int u12.1] u12.2 0 0 (some (.int r.1), r.2, 0, 0)
    refine sx_bi (v := 44) hm dX2_readType_79 (by decide) ?_
    rcases mx_if_el hf with ⟨c13, hf⟩ | ⟨c13, hf⟩
    · refine sb_ic_ne hm dX2_readType_81 (tgt := 88) rfl (fun _ => ?_) (fun z => absurd c13 z)
      refine sx_ic (v := 0) hm dX2_readType_88 (by decide) ?_
      refine mx_S.ext [(0, .ref l0), (1, .int l1), (3, .int s0)] (mx_sub_pos [1, 2, 0] rfl (show ([3, 0, 1, 2] : List Nat).Nodup by decide)) ?_
      exact j_X2_readType_89_ok X hF hL nn l0 l1 s0 0 u12.2 hf
    · refine sb_ic_ne hm dX2_readType_81 (tgt := 88) rfl (fun z => absurd z c13) (fun _ => ?_)
      refine sx_ic (v := 1) hm dX2_readType_84 (by decide) ?_
      refine mx_S.pu (pc2 := 89) (lv2 := [(3, .int s0), (0, .ref l0), (1, .int l1), (2, .int l2)]) (st2 := [.int 1]) hm dX2_readType_85 rfl ?_
      refine mx_S.ext [(0, .ref l0), (1, .int l1), (3, .int s0)] (mx_sub_pos [1, 2, 0] rfl (show ([3, 0, 1, 2] : List Nat).Nodup by decide)) ?_
      exact j_X2_readType_89_ok X hF hL nn l0 l1 s0 1 u12.2 hf
  · refine sb_ic_ne hm dX2_readType_56 (tgt := 72) rfl (fun z => absurd z c17) (fun _ => ?_)
    refine mx_S.pu (pc2 := 60) (lv2 := [(3, .int s0), (0, .ref l0), (1, .int l1), (2, .int l2)]) (st2 := [.ref l0]) hm dX2_readType_59 rfl ?_
    replace hf := mx_sv_el hf; obtain ⟨v14, e_v14, hf⟩ := hf
    refine sx_get hm dX2_readType_60 rs_RX2_74 (xgr_el e_v14) ?_
    clear e_v14
    refine sx_ic (v := 5) hm dX2_readType_63 (by decide) ?_
    refine mx_S.pu (pc2 := 65) (lv2 := [(3, .int s0), (0, .ref l0), (1, .int l1), (2, .int l2)]) (st2 := [.int l2, .int 5, .ref v14]) hm dX2_readType_64 rfl ?_
    replace hf := mx_gd_el hf; obtain ⟨c15, hf⟩ := hf
    replace hf := mx_sv_el hf; obtain ⟨u16, e_u16, hf⟩ := hf
    refine sx_cv hm dX2_readType_65 rs_RX2_186 mt_X9_tell [.int 5, .int l2] [] (b := v14) (ci := 9) rfl rfl rfl c15 (Nat.le_of_ble_eq_true rfl) (Nat.le_of_ble_eq_true rfl) (by omega) (by omega) (f_X9_tell_ok X (by omega) (by omega) nn v14 5 l2 h e_u16) ?_
    clear e_u16
    show mx_S X F L 65 68 [(3, .int s0), (0, .ref l0), (1, .int l1), (2, .int l2)] [] u16 0 0 (some (.int r.1), r.2, 0, 0)
    refine sx_si (v := 305) hm dX2_readType_68 (by decide) ?_
    cases hf
    exact sx_ire hm dX2_readType_71 rfl rfl
set_option maxHeartbeats 4000000 in
set_option maxRecDepth 20000 in
theorem f_X2_readType_ok (X : Nat × (Nat → Int32)) {F L : Nat} (hF : 2 ≤ F) (hL : 43 ≤ L) (nn : Nat) (a0 : Nat) (h : mx_H) {r : (Int32 × mx_H)} (hf : f_X2_readType nn a0 h = some r) : mx_R X F L 65 [.ref a0] h (some (.int r.1), r.2, 0, 0) := by
  have hm : mx_mt 65 = some (yX2_readType, cX2_readType, 5, (some .int)) := mt_X2_readType
  show mx_S X F L 65 0 [(0, .ref a0)] [] h 0 0 (some (.int r.1), r.2, 0, 0)
  unfold f_X2_readType at hf
  refine mx_S.pu (pc2 := 1) (lv2 := [(0, .ref a0)]) (st2 := [.ref a0]) hm dX2_readType_0 rfl ?_
  replace hf := mx_sv_el hf; obtain ⟨v18, e_v18, hf⟩ := hf
  refine sx_get hm dX2_readType_1 rs_RX2_74 (xgr_el e_v18) ?_
  clear e_v18
  replace hf := mx_gd_el hf; obtain ⟨c19, hf⟩ := hf
  replace hf := mx_sv_el hf; obtain ⟨u20, e_u20, hf⟩ := hf
  refine sx_cv hm dX2_readType_4 rs_RX2_121 mt_X9_kind [] [] (b := v18) (ci := 9) rfl rfl rfl c19 (Nat.le_of_ble_eq_true rfl) (Nat.le_of_ble_eq_true rfl) (by omega) (by omega) (f_X9_kind_ok X (by omega) (by omega) nn v18 h e_u20) ?_
  clear e_u20
  show mx_S X F L 65 7 [(0, .ref a0)] [.int u20.1] u20.2 0 0 (some (.int r.1), r.2, 0, 0)
  refine mx_S.pu (pc2 := 8) (lv2 := [(1, .int u20.1), (0, .ref a0)]) (st2 := []) hm dX2_readType_7 rfl ?_
  refine mx_S.pu (pc2 := 9) (lv2 := [(1, .int u20.1), (0, .ref a0)]) (st2 := [.ref a0]) hm dX2_readType_8 rfl ?_
  replace hf := mx_sv_el hf; obtain ⟨v21, e_v21, hf⟩ := hf
  refine sx_get hm dX2_readType_9 rs_RX2_74 (xgr_el e_v21) ?_
  clear e_v21
  replace hf := mx_sv_el hf; obtain ⟨v22, e_v22, hf⟩ := hf
  refine sx_get hm dX2_readType_12 rs_RX2_118 (xgi_el e_v22) ?_
  clear e_v22
  refine mx_S.pu (pc2 := 16) (lv2 := [(2, .int v22), (1, .int u20.1), (0, .ref a0)]) (st2 := []) hm dX2_readType_15 rfl ?_
  refine mx_S.pu (pc2 := 17) (lv2 := [(2, .int v22), (1, .int u20.1), (0, .ref a0)]) (st2 := [.ref a0]) hm dX2_readType_16 rfl ?_
  replace hf := mx_sv_el hf; obtain ⟨v23, e_v23, hf⟩ := hf
  refine sx_get hm dX2_readType_17 rs_RX2_74 (xgr_el e_v23) ?_
  clear e_v23
  refine mx_S.pu (pc2 := 21) (lv2 := [(2, .int v22), (1, .int u20.1), (0, .ref a0)]) (st2 := [.ref v23, .ref v23]) hm dX2_readType_20 rfl ?_
  replace hf := mx_sv_el hf; obtain ⟨v24, e_v24, hf⟩ := hf
  refine sx_get hm dX2_readType_21 rs_RX2_118 (xgi_el e_v24) ?_
  clear e_v24
  refine sx_ic (v := 1) hm dX2_readType_24 (by decide) ?_
  replace hf := xl_el hf; obtain ⟨v25, e_v25, hf⟩ := hf
  refine mx_S.pu (pc2 := 26) (lv2 := [(2, .int v22), (1, .int u20.1), (0, .ref a0)]) (st2 := [.int v25, .ref v23]) hm dX2_readType_25 (by rw [← e_v25]; rfl) ?_
  clear e_v25
  replace hf := mx_sv_el hf; obtain ⟨h26, e_h26, hf⟩ := hf
  refine sx_put hm dX2_readType_26 rs_RX2_118 ft_9_10 ⟨rfl, rfl⟩ (fun z => by cases z) e_h26 ?_
  clear e_h26
  refine mx_S.pu (pc2 := 30) (lv2 := [(2, .int v22), (1, .int u20.1), (0, .ref a0)]) (st2 := [.int u20.1]) hm dX2_readType_29 rfl ?_
  refine sx_bi (v := 10) hm dX2_readType_30 (by decide) ?_
  rcases mx_if_el hf with ⟨c30, hf⟩ | ⟨c30, hf⟩
  · refine sb_ic_ne hm dX2_readType_32 (tgt := 39) rfl (fun _ => ?_) (fun z => absurd c30 z)
    refine mx_S.pu (pc2 := 40) (lv2 := [(2, .int v22), (1, .int u20.1), (0, .ref a0)]) (st2 := [.int u20.1]) hm dX2_readType_39 rfl ?_
    refine sx_ic (v := 2) hm dX2_readType_40 (by decide) ?_
    rcases mx_if_el hf with ⟨c29, hf⟩ | ⟨c29, hf⟩
    · refine sb_ic_ne hm dX2_readType_41 (tgt := 52) rfl (fun _ => ?_) (fun z => absurd c29 z)
      refine sx_ic (v := 0) hm dX2_readType_52 (by decide) ?_
      refine mx_S.ext [(0, .ref a0), (1, .int u20.1), (2, .int v22)] (mx_sub_pos [2, 1, 0] rfl (show ([2, 1, 0] : List Nat).Nodup by decide)) ?_
      exact j_X2_readType_53_ok X hF hL nn a0 u20.1 v22 0 h26 hf
    · refine sb_ic_ne hm dX2_readType_41 (tgt := 52) rfl (fun z => absurd z c29) (fun _ => ?_)
      refine mx_S.pu (pc2 := 45) (lv2 := [(2, .int v22), (1, .int u20.1), (0, .ref a0)]) (st2 := [.ref a0]) hm dX2_readType_44 rfl ?_
      refine mx_S.pu (pc2 := 46) (lv2 := [(2, .int v22), (1, .int u20.1), (0, .ref a0)]) (st2 := [.int v22, .ref a0]) hm dX2_readType_45 rfl ?_
      replace hf := mx_gd_el hf; obtain ⟨c27, hf⟩ := hf
      replace hf := mx_sv_el hf; obtain ⟨u28, e_u28, hf⟩ := hf
      refine sx_cv hm dX2_readType_46 rs_RX2_184 mt_X2_classAt [.int v22] [] (b := a0) (ci := 2) rfl rfl rfl c27 (Nat.le_of_ble_eq_true rfl) (Nat.le_of_ble_eq_true rfl) (by omega) (by omega) (f_X2_classAt_ok X (by omega) (by omega) nn a0 v22 h26 e_u28) ?_
      clear e_u28
      show mx_S X F L 65 49 [(2, .int v22), (1, .int u20.1), (0, .ref a0)] [.int u28.1] u28.2 0 0 (some (.int r.1), r.2, 0, 0)
      refine mx_S.pu (pc2 := 53) (lv2 := [(2, .int v22), (1, .int u20.1), (0, .ref a0)]) (st2 := [.int u28.1]) hm dX2_readType_49 rfl ?_
      refine mx_S.ext [(0, .ref a0), (1, .int u20.1), (2, .int v22)] (mx_sub_pos [2, 1, 0] rfl (show ([2, 1, 0] : List Nat).Nodup by decide)) ?_
      exact j_X2_readType_53_ok X hF hL nn a0 u20.1 v22 u28.1 u28.2 hf
  · refine sb_ic_ne hm dX2_readType_32 (tgt := 39) rfl (fun z => absurd z c30) (fun _ => ?_)
    refine sx_si (v := 302) hm dX2_readType_35 (by decide) ?_
    cases hf
    exact sx_ire hm dX2_readType_38 rfl rfl
