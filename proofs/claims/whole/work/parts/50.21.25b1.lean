set_option maxHeartbeats 4000000 in
set_option maxRecDepth 20000 in
theorem j_X11_takeMember_102_ok (X : Nat × (Nat → Int32)) {F L : Nat} (hF : 8 ≤ F) (hL : 190 ≤ L) (nn : Nat) (l0 : Nat) (l1 : Int32) (l3 : Int32) (l4 : Int32) (s0 : Int32) (h : mx_H) {r : mx_H} (hf : j_X11_takeMember_102 nn l0 l1 l3 l4 s0 h = some r) : mx_S X F L 316 102 [(0, .ref l0), (1, .int l1), (3, .int l3), (4, .int l4)] [.int s0] h 0 0 (none, r, 0, 0) := by
  have hm : mx_mt 316 = some (yX11_takeMember, cX11_takeMember, 8, none) := mt_X11_takeMember
  unfold j_X11_takeMember_102 at hf
  refine mx_S.pu (pc2 := 104) (lv2 := [(5, .int s0), (0, .ref l0), (1, .int l1), (3, .int l3), (4, .int l4)]) (st2 := []) hm dX11_takeMember_102 rfl ?_
  refine mx_S.pu (pc2 := 105) (lv2 := [(5, .int s0), (0, .ref l0), (1, .int l1), (3, .int l3), (4, .int l4)]) (st2 := [.ref l0]) hm dX11_takeMember_104 rfl ?_
  replace hf := mx_sv_el hf; obtain ⟨v16, e_v16, hf⟩ := hf
  refine sx_get hm dX11_takeMember_105 rs_RX11_50 (xgr_el e_v16) ?_
  clear e_v16
  refine mx_S.pu (pc2 := 110) (lv2 := [(5, .int s0), (0, .ref l0), (1, .int l1), (3, .int l3), (4, .int l4)]) (st2 := [.int s0, .ref v16]) hm dX11_takeMember_108 rfl ?_
  replace hf := mx_gd_el hf; obtain ⟨c17, hf⟩ := hf
  replace hf := mx_sv_el hf; obtain ⟨u18, e_u18, hf⟩ := hf
  refine sx_cv hm dX11_takeMember_110 rs_RX11_161 mt_X7_imageOfMember [.int s0] [] (b := v16) (ci := 7) rfl rfl rfl c17 (Nat.le_of_ble_eq_true rfl) (Nat.le_of_ble_eq_true rfl) (by omega) (by omega) (f_X7_imageOfMember_ok X (by omega) (by omega) nn v16 s0 h e_u18) ?_
  clear e_u18
  show mx_S X F L 316 113 [(5, .int s0), (0, .ref l0), (1, .int l1), (3, .int l3), (4, .int l4)] [va_rf u18.1] u18.2 0 0 (none, r, 0, 0)
  refine sx_so (lv2 := [(6, va_rf u18.1), (5, .int s0), (0, .ref l0), (1, .int l1), (3, .int l3), (4, .int l4)]) hm dX11_takeMember_113 rfl rfl ?_
  refine sx_ao hm dX11_takeMember_115 rfl ?_
  rcases mx_oc_el hf with ⟨c20, hf⟩ | ⟨b19, c20, hf⟩
  · refine sx_ifnonnull_n hm dX11_takeMember_117 c20 (tgt := 121) rfl ?_
    cases hf
    exact sx_ret hm dX11_takeMember_120 rfl
  · refine sx_ifnonnull_s hm dX11_takeMember_117 c20 (tgt := 121) rfl ?_
    rw [show va_rf u18.1 = Value.ref b19 by rw [c20]; rfl]
    refine mx_S.pu (pc2 := 123) (lv2 := [(6, .ref b19), (5, .int s0), (0, .ref l0), (1, .int l1), (3, .int l3), (4, .int l4)]) (st2 := [.int s0]) hm dX11_takeMember_121 rfl ?_
    refine sx_bi (v := 12) hm dX11_takeMember_123 (by decide) ?_
    replace hf := xl_el hf; obtain ⟨v21, e_v21, hf⟩ := hf
    refine sx_irem (v := v21) hm dX11_takeMember_125 (by decide) e_v21 ?_
    clear e_v21
    refine mx_S.pu (pc2 := 128) (lv2 := [(7, .int v21), (6, .ref b19), (5, .int s0), (0, .ref l0), (1, .int l1), (3, .int l3), (4, .int l4)]) (st2 := []) hm dX11_takeMember_126 rfl ?_
    refine mx_S.pu (pc2 := 130) (lv2 := [(7, .int v21), (6, .ref b19), (5, .int s0), (0, .ref l0), (1, .int l1), (3, .int l3), (4, .int l4)]) (st2 := [.ref b19]) hm dX11_takeMember_128 rfl ?_
    refine mx_S.pu (pc2 := 132) (lv2 := [(7, .int v21), (6, .ref b19), (5, .int s0), (0, .ref l0), (1, .int l1), (3, .int l3), (4, .int l4)]) (st2 := [.int l4, .ref b19]) hm dX11_takeMember_130 rfl ?_
    rcases mx_if_el hf with ⟨c26, hf⟩ | ⟨c26, hf⟩
    · refine sb_if_eq hm dX11_takeMember_132 (tgt := 146) rfl (fun _ => ?_) (fun z => absurd c26 z)
      refine mx_S.pu (pc2 := 148) (lv2 := [(7, .int v21), (6, .ref b19), (5, .int s0), (0, .ref l0), (1, .int l1), (3, .int l3), (4, .int l4)]) (st2 := [.ref b19, .ref b19]) hm dX11_takeMember_146 rfl ?_
      refine mx_S.pu (pc2 := 150) (lv2 := [(7, .int v21), (6, .ref b19), (5, .int s0), (0, .ref l0), (1, .int l1), (3, .int l3), (4, .int l4)]) (st2 := [.int v21, .ref b19, .ref b19]) hm dX11_takeMember_148 rfl ?_
      replace hf := mx_gd_el hf; obtain ⟨c22, hf⟩ := hf
      replace hf := mx_sv_el hf; obtain ⟨u23, e_u23, hf⟩ := hf
      refine sx_cv hm dX11_takeMember_150 rs_RX11_139 mt_X3_fieldKind [.int v21] [.ref b19] (b := b19) (ci := 3) rfl rfl rfl c22 (Nat.le_of_ble_eq_true rfl) (Nat.le_of_ble_eq_true rfl) (by omega) (by omega) (f_X3_fieldKind_ok X (by omega) (by omega) nn b19 v21 u18.2 e_u23) ?_
      clear e_u23
      show mx_S X F L 316 153 [(7, .int v21), (6, .ref b19), (5, .int s0), (0, .ref l0), (1, .int l1), (3, .int l3), (4, .int l4)] [.int u23.1, .ref b19] u23.2 0 0 (none, r, 0, 0)
      refine mx_S.ext [(0, .ref l0), (1, .int l1), (3, .int l3), (5, .int s0)] (mx_sub_pos [3, 4, 5, 2] rfl (show ([7, 6, 5, 0, 1, 3, 4] : List Nat).Nodup by decide)) ?_
      exact j_X11_takeMember_153_ok X hF hL nn l0 l1 l3 s0 u23.1 (some b19) u23.2 hf
    · refine sb_if_eq hm dX11_takeMember_132 (tgt := 146) rfl (fun z => absurd z c26) (fun _ => ?_)
      refine mx_S.pu (pc2 := 137) (lv2 := [(7, .int v21), (6, .ref b19), (5, .int s0), (0, .ref l0), (1, .int l1), (3, .int l3), (4, .int l4)]) (st2 := [.ref b19, .ref b19]) hm dX11_takeMember_135 rfl ?_
      refine mx_S.pu (pc2 := 139) (lv2 := [(7, .int v21), (6, .ref b19), (5, .int s0), (0, .ref l0), (1, .int l1), (3, .int l3), (4, .int l4)]) (st2 := [.int v21, .ref b19, .ref b19]) hm dX11_takeMember_137 rfl ?_
      refine sx_ic (v := 2) hm dX11_takeMember_139 (by decide) ?_
      replace hf := mx_gd_el hf; obtain ⟨c24, hf⟩ := hf
      replace hf := mx_sv_el hf; obtain ⟨u25, e_u25, hf⟩ := hf
      refine sx_cv hm dX11_takeMember_140 rs_RX11_146 mt_X3_of [.int v21, .int 2] [.ref b19] (b := b19) (ci := 3) rfl rfl rfl c24 (Nat.le_of_ble_eq_true rfl) (Nat.le_of_ble_eq_true rfl) (by omega) (by omega) (f_X3_of_ok X (by omega) (by omega) nn b19 v21 2 u18.2 e_u25) ?_
      clear e_u25
      show mx_S X F L 316 143 [(7, .int v21), (6, .ref b19), (5, .int s0), (0, .ref l0), (1, .int l1), (3, .int l3), (4, .int l4)] [.int u25.1, .ref b19] u25.2 0 0 (none, r, 0, 0)
      refine mx_S.pu (pc2 := 153) (lv2 := [(7, .int v21), (6, .ref b19), (5, .int s0), (0, .ref l0), (1, .int l1), (3, .int l3), (4, .int l4)]) (st2 := [.int u25.1, .ref b19]) hm dX11_takeMember_143 rfl ?_
      refine mx_S.ext [(0, .ref l0), (1, .int l1), (3, .int l3), (5, .int s0)] (mx_sub_pos [3, 4, 5, 2] rfl (show ([7, 6, 5, 0, 1, 3, 4] : List Nat).Nodup by decide)) ?_
      exact j_X11_takeMember_153_ok X hF hL nn l0 l1 l3 s0 u25.1 (some b19) u25.2 hf
set_option maxHeartbeats 4000000 in
set_option maxRecDepth 20000 in
theorem j_X11_takeMember_50_ok (X : Nat × (Nat → Int32)) {F L : Nat} (hF : 8 ≤ F) (hL : 190 ≤ L) (nn : Nat) (l0 : Nat) (l1 : Int32) (l2 : Int32) (l3 : Int32) (s0 : Int32) (h : mx_H) {r : mx_H} (hf : j_X11_takeMember_50 nn l0 l1 l2 l3 s0 h = some r) : mx_S X F L 316 50 [(0, .ref l0), (1, .int l1), (2, .int l2), (3, .int l3)] [.int s0] h 0 0 (none, r, 0, 0) := by
  have hm : mx_mt 316 = some (yX11_takeMember, cX11_takeMember, 8, none) := mt_X11_takeMember
  unfold j_X11_takeMember_50 at hf
  refine mx_S.pu (pc2 := 52) (lv2 := [(4, .int s0), (0, .ref l0), (1, .int l1), (2, .int l2), (3, .int l3)]) (st2 := []) hm dX11_takeMember_50 rfl ?_
  refine mx_S.pu (pc2 := 54) (lv2 := [(4, .int s0), (0, .ref l0), (1, .int l1), (2, .int l2), (3, .int l3)]) (st2 := [.int s0]) hm dX11_takeMember_52 rfl ?_
  rcases mx_if_el hf with ⟨c41, hf⟩ | ⟨c41, hf⟩
  · refine sb_if_eq hm dX11_takeMember_54 (tgt := 81) rfl (fun _ => ?_) (fun z => absurd c41 z)
    refine mx_S.pu (pc2 := 82) (lv2 := [(4, .int s0), (0, .ref l0), (1, .int l1), (2, .int l2), (3, .int l3)]) (st2 := [.ref l0]) hm dX11_takeMember_81 rfl ?_
    replace hf := mx_sv_el hf; obtain ⟨v27, e_v27, hf⟩ := hf
    refine sx_get hm dX11_takeMember_82 rs_RX11_50 (xgr_el e_v27) ?_
    clear e_v27
    refine mx_S.pu (pc2 := 86) (lv2 := [(4, .int s0), (0, .ref l0), (1, .int l1), (2, .int l2), (3, .int l3)]) (st2 := [.int l2, .ref v27]) hm dX11_takeMember_85 rfl ?_
    refine mx_S.pu (pc2 := 87) (lv2 := [(4, .int s0), (0, .ref l0), (1, .int l1), (2, .int l2), (3, .int l3)]) (st2 := [.ref l0, .int l2, .ref v27]) hm dX11_takeMember_86 rfl ?_
    replace hf := mx_sv_el hf; obtain ⟨v28, e_v28, hf⟩ := hf
    refine sx_get hm dX11_takeMember_87 rs_RX11_62 (xgr_el e_v28) ?_
    clear e_v28
    refine mx_S.pu (pc2 := 91) (lv2 := [(4, .int s0), (0, .ref l0), (1, .int l1), (2, .int l2), (3, .int l3)]) (st2 := [.ref l0, .ref v28, .int l2, .ref v27]) hm dX11_takeMember_90 rfl ?_
    replace hf := mx_sv_el hf; obtain ⟨v29, e_v29, hf⟩ := hf
    refine sx_get hm dX11_takeMember_91 rs_RX11_62 (xgr_el e_v29) ?_
    clear e_v29
    refine mx_S.pu (pc2 := 95) (lv2 := [(4, .int s0), (0, .ref l0), (1, .int l1), (2, .int l2), (3, .int l3)]) (st2 := [.int l1, .ref v29, .ref v28, .int l2, .ref v27]) hm dX11_takeMember_94 rfl ?_
    refine sx_ic (v := 1) hm dX11_takeMember_95 (by decide) ?_
    replace hf := mx_gd_el hf; obtain ⟨c30, hf⟩ := hf
    replace hf := mx_sv_el hf; obtain ⟨u31, e_u31, hf⟩ := hf
    refine sx_cv hm dX11_takeMember_96 rs_RX11_177 mt_X3_partOf [.int l1, .int 1] [.ref v28, .int l2, .ref v27] (b := v29) (ci := 3) rfl rfl rfl c30 (Nat.le_of_ble_eq_true rfl) (Nat.le_of_ble_eq_true rfl) (by omega) (by omega) (f_X3_partOf_ok X (by omega) (by omega) nn v29 l1 1 h e_u31) ?_
    clear e_u31
    show mx_S X F L 316 99 [(4, .int s0), (0, .ref l0), (1, .int l1), (2, .int l2), (3, .int l3)] [.int u31.1, .ref v28, .int l2, .ref v27] u31.2 0 0 (none, r, 0, 0)
    replace hf := mx_gd_el hf; obtain ⟨c32, hf⟩ := hf
    replace hf := mx_sv_el hf; obtain ⟨u33, e_u33, hf⟩ := hf
    refine sx_cv hm dX11_takeMember_99 rs_RX11_186 mt_X7_fieldOf [.int l2, .ref v28, .int u31.1] [] (b := v27) (ci := 7) rfl rfl rfl c32 (Nat.le_of_ble_eq_true rfl) (Nat.le_of_ble_eq_true rfl) (by omega) (by omega) (f_X7_fieldOf_ok X (by omega) (by omega) nn v27 l2 v28 u31.1 u31.2 e_u33) ?_
    clear e_u33
    show mx_S X F L 316 102 [(4, .int s0), (0, .ref l0), (1, .int l1), (2, .int l2), (3, .int l3)] [.int u33.1] u33.2 0 0 (none, r, 0, 0)
    refine mx_S.ext [(0, .ref l0), (1, .int l1), (3, .int l3), (4, .int s0)] (mx_sub_pos [1, 2, 4, 0] rfl (show ([4, 0, 1, 2, 3] : List Nat).Nodup by decide)) ?_
    exact j_X11_takeMember_102_ok X hF hL nn l0 l1 l3 s0 u33.1 u33.2 hf
  · refine sb_if_eq hm dX11_takeMember_54 (tgt := 81) rfl (fun z => absurd z c41) (fun _ => ?_)
    refine mx_S.pu (pc2 := 58) (lv2 := [(4, .int s0), (0, .ref l0), (1, .int l1), (2, .int l2), (3, .int l3)]) (st2 := [.ref l0]) hm dX11_takeMember_57 rfl ?_
    replace hf := mx_sv_el hf; obtain ⟨v34, e_v34, hf⟩ := hf
    refine sx_get hm dX11_takeMember_58 rs_RX11_50 (xgr_el e_v34) ?_
    clear e_v34
    refine mx_S.pu (pc2 := 62) (lv2 := [(4, .int s0), (0, .ref l0), (1, .int l1), (2, .int l2), (3, .int l3)]) (st2 := [.int l2, .ref v34]) hm dX11_takeMember_61 rfl ?_
    refine mx_S.pu (pc2 := 63) (lv2 := [(4, .int s0), (0, .ref l0), (1, .int l1), (2, .int l2), (3, .int l3)]) (st2 := [.ref l0, .int l2, .ref v34]) hm dX11_takeMember_62 rfl ?_
    replace hf := mx_sv_el hf; obtain ⟨v35, e_v35, hf⟩ := hf
    refine sx_get hm dX11_takeMember_63 rs_RX11_62 (xgr_el e_v35) ?_
    clear e_v35
    refine mx_S.pu (pc2 := 67) (lv2 := [(4, .int s0), (0, .ref l0), (1, .int l1), (2, .int l2), (3, .int l3)]) (st2 := [.ref l0, .ref v35, .int l2, .ref v34]) hm dX11_takeMember_66 rfl ?_
    replace hf := mx_sv_el hf; obtain ⟨v36, e_v36, hf⟩ := hf
    refine sx_get hm dX11_takeMember_67 rs_RX11_62 (xgr_el e_v36) ?_
    clear e_v36
    refine mx_S.pu (pc2 := 71) (lv2 := [(4, .int s0), (0, .ref l0), (1, .int l1), (2, .int l2), (3, .int l3)]) (st2 := [.int l1, .ref v36, .ref v35, .int l2, .ref v34]) hm dX11_takeMember_70 rfl ?_
    refine sx_ic (v := 1) hm dX11_takeMember_71 (by decide) ?_
    replace hf := mx_gd_el hf; obtain ⟨c37, hf⟩ := hf
    replace hf := mx_sv_el hf; obtain ⟨u38, e_u38, hf⟩ := hf
    refine sx_cv hm dX11_takeMember_72 rs_RX11_177 mt_X3_partOf [.int l1, .int 1] [.ref v35, .int l2, .ref v34] (b := v36) (ci := 3) rfl rfl rfl c37 (Nat.le_of_ble_eq_true rfl) (Nat.le_of_ble_eq_true rfl) (by omega) (by omega) (f_X3_partOf_ok X (by omega) (by omega) nn v36 l1 1 h e_u38) ?_
    clear e_u38
    show mx_S X F L 316 75 [(4, .int s0), (0, .ref l0), (1, .int l1), (2, .int l2), (3, .int l3)] [.int u38.1, .ref v35, .int l2, .ref v34] u38.2 0 0 (none, r, 0, 0)
    replace hf := mx_gd_el hf; obtain ⟨c39, hf⟩ := hf
    replace hf := mx_sv_el hf; obtain ⟨u40, e_u40, hf⟩ := hf
    refine sx_cv hm dX11_takeMember_75 rs_RX11_157 mt_X7_methodOf [.int l2, .ref v35, .int u38.1] [] (b := v34) (ci := 7) rfl rfl rfl c39 (Nat.le_of_ble_eq_true rfl) (Nat.le_of_ble_eq_true rfl) (by omega) (by omega) (f_X7_methodOf_ok X (by omega) (by omega) nn v34 l2 v35 u38.1 u38.2 e_u40) ?_
    clear e_u40
    show mx_S X F L 316 78 [(4, .int s0), (0, .ref l0), (1, .int l1), (2, .int l2), (3, .int l3)] [.int u40.1] u40.2 0 0 (none, r, 0, 0)
    refine mx_S.pu (pc2 := 102) (lv2 := [(4, .int s0), (0, .ref l0), (1, .int l1), (2, .int l2), (3, .int l3)]) (st2 := [.int u40.1]) hm dX11_takeMember_78 rfl ?_
    refine mx_S.ext [(0, .ref l0), (1, .int l1), (3, .int l3), (4, .int s0)] (mx_sub_pos [1, 2, 4, 0] rfl (show ([4, 0, 1, 2, 3] : List Nat).Nodup by decide)) ?_
    exact j_X11_takeMember_102_ok X hF hL nn l0 l1 l3 s0 u40.1 u40.2 hf
set_option maxHeartbeats 4000000 in
set_option maxRecDepth 20000 in
theorem f_X11_takeMember_ok (X : Nat × (Nat → Int32)) {F L : Nat} (hF : 8 ≤ F) (hL : 190 ≤ L) (nn : Nat) (a0 : Nat) (a1 : Int32) (h : mx_H) {r : mx_H} (hf : f_X11_takeMember nn a0 a1 h = some r) : mx_R X F L 316 [.ref a0, .int a1] h (none, r, 0, 0) := by
  have hm : mx_mt 316 = some (yX11_takeMember, cX11_takeMember, 8, none) := mt_X11_takeMember
  show mx_S X F L 316 0 [(0, .ref a0), (1, .int a1)] [] h 0 0 (none, r, 0, 0)
  unfold f_X11_takeMember at hf
  refine mx_S.pu (pc2 := 1) (lv2 := [(0, .ref a0), (1, .int a1)]) (st2 := [.ref a0]) hm dX11_takeMember_0 rfl ?_
  replace hf := mx_sv_el hf; obtain ⟨v42, e_v42, hf⟩ := hf
  refine sx_get hm dX11_takeMember_1 rs_RX11_23 (xgr_el e_v42) ?_
  clear e_v42
  refine mx_S.pu (pc2 := 5) (lv2 := [(0, .ref a0), (1, .int a1)]) (st2 := [.ref a0, .ref v42]) hm dX11_takeMember_4 rfl ?_
  replace hf := mx_sv_el hf; obtain ⟨v43, e_v43, hf⟩ := hf
  refine sx_get hm dX11_takeMember_5 rs_RX11_62 (xgr_el e_v43) ?_
  clear e_v43
  refine mx_S.pu (pc2 := 9) (lv2 := [(0, .ref a0), (1, .int a1)]) (st2 := [.int a1, .ref v43, .ref v42]) hm dX11_takeMember_8 rfl ?_
  refine sx_ic (v := 0) hm dX11_takeMember_9 (by decide) ?_
  replace hf := mx_gd_el hf; obtain ⟨c44, hf⟩ := hf
  replace hf := mx_sv_el hf; obtain ⟨u45, e_u45, hf⟩ := hf
  refine sx_cv hm dX11_takeMember_10 rs_RX11_177 mt_X3_partOf [.int a1, .int 0] [.ref v42] (b := v43) (ci := 3) rfl rfl rfl c44 (Nat.le_of_ble_eq_true rfl) (Nat.le_of_ble_eq_true rfl) (by omega) (by omega) (f_X3_partOf_ok X (by omega) (by omega) nn v43 a1 0 h e_u45) ?_
  clear e_u45
  show mx_S X F L 316 13 [(0, .ref a0), (1, .int a1)] [.int u45.1, .ref v42] u45.2 0 0 (none, r, 0, 0)
  replace hf := mx_sv_el hf; obtain ⟨v46, e_v46, hf⟩ := hf
  refine sx_ald hm dX11_takeMember_13 e_v46 ?_
  clear e_v46
  refine mx_S.pu (pc2 := 15) (lv2 := [(2, .int v46), (0, .ref a0), (1, .int a1)]) (st2 := []) hm dX11_takeMember_14 rfl ?_
  refine mx_S.pu (pc2 := 16) (lv2 := [(2, .int v46), (0, .ref a0), (1, .int a1)]) (st2 := [.ref a0]) hm dX11_takeMember_15 rfl ?_
  replace hf := mx_sv_el hf; obtain ⟨v47, e_v47, hf⟩ := hf
  refine sx_get hm dX11_takeMember_16 rs_RX11_62 (xgr_el e_v47) ?_
  clear e_v47
  refine mx_S.pu (pc2 := 20) (lv2 := [(2, .int v46), (0, .ref a0), (1, .int a1)]) (st2 := [.int a1, .ref v47]) hm dX11_takeMember_19 rfl ?_
  refine sx_ic (v := 2) hm dX11_takeMember_20 (by decide) ?_
  replace hf := mx_gd_el hf; obtain ⟨c48, hf⟩ := hf
  replace hf := mx_sv_el hf; obtain ⟨u49, e_u49, hf⟩ := hf
  refine sx_cv hm dX11_takeMember_21 rs_RX11_177 mt_X3_partOf [.int a1, .int 2] [] (b := v47) (ci := 3) rfl rfl rfl c48 (Nat.le_of_ble_eq_true rfl) (Nat.le_of_ble_eq_true rfl) (by omega) (by omega) (f_X3_partOf_ok X (by omega) (by omega) nn v47 a1 2 u45.2 e_u49) ?_
  clear e_u49
  show mx_S X F L 316 24 [(2, .int v46), (0, .ref a0), (1, .int a1)] [.int u49.1] u49.2 0 0 (none, r, 0, 0)
  refine mx_S.pu (pc2 := 25) (lv2 := [(3, .int u49.1), (2, .int v46), (0, .ref a0), (1, .int a1)]) (st2 := []) hm dX11_takeMember_24 rfl ?_
  refine mx_S.pu (pc2 := 26) (lv2 := [(3, .int u49.1), (2, .int v46), (0, .ref a0), (1, .int a1)]) (st2 := [.ref a0]) hm dX11_takeMember_25 rfl ?_
  replace hf := mx_sv_el hf; obtain ⟨v50, e_v50, hf⟩ := hf
  refine sx_get hm dX11_takeMember_26 rs_RX11_62 (xgr_el e_v50) ?_
  clear e_v50
  refine mx_S.pu (pc2 := 30) (lv2 := [(3, .int u49.1), (2, .int v46), (0, .ref a0), (1, .int a1)]) (st2 := [.ref a0, .ref v50]) hm dX11_takeMember_29 rfl ?_
  replace hf := mx_sv_el hf; obtain ⟨v51, e_v51, hf⟩ := hf
  refine sx_get hm dX11_takeMember_30 rs_RX11_62 (xgr_el e_v51) ?_
  clear e_v51
  refine mx_S.pu (pc2 := 34) (lv2 := [(3, .int u49.1), (2, .int v46), (0, .ref a0), (1, .int a1)]) (st2 := [.int u49.1, .ref v51, .ref v50]) hm dX11_takeMember_33 rfl ?_
  replace hf := mx_gd_el hf; obtain ⟨c52, hf⟩ := hf
  replace hf := mx_sv_el hf; obtain ⟨u53, e_u53, hf⟩ := hf
  refine sx_cv hm dX11_takeMember_34 rs_RX11_180 mt_X3_textAt [.int u49.1] [.ref v50] (b := v51) (ci := 3) rfl rfl rfl c52 (Nat.le_of_ble_eq_true rfl) (Nat.le_of_ble_eq_true rfl) (by omega) (by omega) (f_X3_textAt_ok X (by omega) (by omega) nn v51 u49.1 u49.2 e_u53) ?_
  clear e_u53
  show mx_S X F L 316 37 [(3, .int u49.1), (2, .int v46), (0, .ref a0), (1, .int a1)] [.int u53.1, .ref v50] u53.2 0 0 (none, r, 0, 0)
  replace hf := mx_gd_el hf; obtain ⟨c54, hf⟩ := hf
  replace hf := mx_sv_el hf; obtain ⟨u55, e_u55, hf⟩ := hf
  refine sx_cv hm dX11_takeMember_37 rs_RX11_183 mt_X3_byteAt [.int u53.1] [] (b := v50) (ci := 3) rfl rfl rfl c54 (Nat.le_of_ble_eq_true rfl) (Nat.le_of_ble_eq_true rfl) (by omega) (by omega) (f_X3_byteAt_ok X (by omega) (by omega) nn v50 u53.1 u53.2 e_u55) ?_
  clear e_u55
  show mx_S X F L 316 40 [(3, .int u49.1), (2, .int v46), (0, .ref a0), (1, .int a1)] [.int u55.1] u55.2 0 0 (none, r, 0, 0)
  refine sx_bi (v := 40) hm dX11_takeMember_40 (by decide) ?_
  rcases mx_if_el hf with ⟨c56, hf⟩ | ⟨c56, hf⟩
  · refine sb_ic_ne hm dX11_takeMember_42 (tgt := 49) rfl (fun _ => ?_) (fun z => absurd c56 z)
    refine sx_ic (v := 0) hm dX11_takeMember_49 (by decide) ?_
    refine mx_S.ext [(0, .ref a0), (1, .int a1), (2, .int v46), (3, .int u49.1)] (mx_sub_pos [2, 3, 1, 0] rfl (show ([3, 2, 0, 1] : List Nat).Nodup by decide)) ?_
    exact j_X11_takeMember_50_ok X hF hL nn a0 a1 v46 u49.1 0 u55.2 hf
  · refine sb_ic_ne hm dX11_takeMember_42 (tgt := 49) rfl (fun z => absurd z c56) (fun _ => ?_)
    refine sx_ic (v := 1) hm dX11_takeMember_45 (by decide) ?_
    refine mx_S.pu (pc2 := 50) (lv2 := [(3, .int u49.1), (2, .int v46), (0, .ref a0), (1, .int a1)]) (st2 := [.int 1]) hm dX11_takeMember_46 rfl ?_
    refine mx_S.ext [(0, .ref a0), (1, .int a1), (2, .int v46), (3, .int u49.1)] (mx_sub_pos [2, 3, 1, 0] rfl (show ([3, 2, 0, 1] : List Nat).Nodup by decide)) ?_
    exact j_X11_takeMember_50_ok X hF hL nn a0 a1 v46 u49.1 1 u55.2 hf
