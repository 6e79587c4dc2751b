def hg5_X13_ruled (X : Nat × (Nat → Int32)) (d : Nat) (rc : tg_X13_ruled) : Prop := (∀ {F L : Nat}, 1607 + d ≤ F → 43358 + d * 27 ≤ L → ∀ (a0 : Nat) (a1 : Int32) (h : mx_H) {r : (Int32 × mx_H)}, rc a0 a1 h = some r → mx_R X F L 433 [.ref a0, .int a1] h (some (.int r.1), r.2, 0, 0))
set_option maxHeartbeats 4000000 in
set_option maxRecDepth 20000 in
theorem j_X13_ruled_954_ok (X : Nat × (Nat → Int32)) {F L d : Nat} (hF : 1607 + (d + 1) ≤ F) (hL : 43358 + (d + 1) * 27 ≤ L) (nn : Nat) {rc : tg_X13_ruled} (hrc : hg5_X13_ruled X d rc) (l0 : Nat) (l1 : Int32) (h : mx_H) {r : (Int32 × mx_H)} (hf : j_X13_ruled_954 nn rc l0 l1 h = some r) : mx_S X F L 433 954 [(0, .ref l0), (1, .int l1)] [] h 0 0 (some (.int r.1), r.2, 0, 0) := by
  have hm : mx_mt 433 = some (yX13_ruled, cX13_ruled, 8, (some .boolean)) := mt_X13_ruled
  unfold j_X13_ruled_954 at hf
  refine mx_S.pu (pc2 := 955) (lv2 := [(0, .ref l0), (1, .int l1)]) (st2 := [.ref l0]) hm dX13_ruled_954 rfl ?_
  refine sx_bi (v := 6) hm dX13_ruled_955 (by decide) ?_
  refine mx_S.pu (pc2 := 958) (lv2 := [(0, .ref l0), (1, .int l1)]) (st2 := [.ref l0, .int 6, .ref l0]) hm dX13_ruled_957 rfl ?_
  replace hf := mx_sv_el hf; obtain ⟨v1, e_v1, hf⟩ := hf
  refine sx_get hm dX13_ruled_958 rs_RX13_31 (xgr_el e_v1) ?_
  clear e_v1
  refine mx_S.pu (pc2 := 962) (lv2 := [(0, .ref l0), (1, .int l1)]) (st2 := [.int l1, .ref v1, .int 6, .ref l0]) hm dX13_ruled_961 rfl ?_
  replace hf := mx_sv_el hf; obtain ⟨v2, e_v2, hf⟩ := hf
  refine sx_ald hm dX13_ruled_962 e_v2 ?_
  clear e_v2
  replace hf := mx_gd_el hf; obtain ⟨c3, hf⟩ := hf
  replace hf := mx_sv_el hf; obtain ⟨u4, e_u4, hf⟩ := hf
  refine sx_cv hm dX13_ruled_963 rs_RX13_379 mt_X13_wrong [.int 6, .int v2] [] (b := l0) (ci := 13) rfl rfl rfl c3 (Nat.le_of_ble_eq_true rfl) (Nat.le_of_ble_eq_true rfl) (by omega) (by omega) (f_X13_wrong_ok X (by omega) (by omega) nn l0 6 v2 h e_u4) ?_
  clear e_u4
  show mx_S X F L 433 966 [(0, .ref l0), (1, .int l1)] [] u4 0 0 (some (.int r.1), r.2, 0, 0)
  refine sx_ic (v := 1) hm dX13_ruled_966 (by decide) ?_
  cases hf
  exact sx_ire hm dX13_ruled_967 rfl (by decide)
set_option maxHeartbeats 4000000 in
set_option maxRecDepth 20000 in
theorem j_X13_ruled_887_ok (X : Nat × (Nat → Int32)) {F L d : Nat} (hF : 1607 + (d + 1) ≤ F) (hL : 43358 + (d + 1) * 27 ≤ L) (nn : Nat) {rc : tg_X13_ruled} (hrc : hg5_X13_ruled X d rc) (l0 : Nat) (l1 : Int32) (h : mx_H) {r : (Int32 × mx_H)} (hf : j_X13_ruled_887 nn rc l0 l1 h = some r) : mx_S X F L 433 887 [(0, .ref l0), (1, .int l1)] [] h 0 0 (some (.int r.1), r.2, 0, 0) := by
  have hm : mx_mt 433 = some (yX13_ruled, cX13_ruled, 8, (some .boolean)) := mt_X13_ruled
  unfold j_X13_ruled_887 at hf
  refine mx_S.pu (pc2 := 888) (lv2 := [(0, .ref l0), (1, .int l1)]) (st2 := [.ref l0]) hm dX13_ruled_887 rfl ?_
  refine sx_bi (v := 6) hm dX13_ruled_888 (by decide) ?_
  refine mx_S.pu (pc2 := 891) (lv2 := [(0, .ref l0), (1, .int l1)]) (st2 := [.ref l0, .int 6, .ref l0]) hm dX13_ruled_890 rfl ?_
  replace hf := mx_sv_el hf; obtain ⟨v5, e_v5, hf⟩ := hf
  refine sx_get hm dX13_ruled_891 rs_RX13_34 (xgr_el e_v5) ?_
  clear e_v5
  refine mx_S.pu (pc2 := 895) (lv2 := [(0, .ref l0), (1, .int l1)]) (st2 := [.ref l0, .ref v5, .int 6, .ref l0]) hm dX13_ruled_894 rfl ?_
  replace hf := mx_sv_el hf; obtain ⟨v6, e_v6, hf⟩ := hf
  refine sx_get hm dX13_ruled_895 rs_RX13_37 (xgr_el e_v6) ?_
  clear e_v6
  refine mx_S.pu (pc2 := 899) (lv2 := [(0, .ref l0), (1, .int l1)]) (st2 := [.int l1, .ref v6, .ref v5, .int 6, .ref l0]) hm dX13_ruled_898 rfl ?_
  replace hf := mx_sv_el hf; obtain ⟨v7, e_v7, hf⟩ := hf
  refine sx_ald hm dX13_ruled_899 e_v7 ?_
  clear e_v7
  replace hf := mx_sv_el hf; obtain ⟨v8, e_v8, hf⟩ := hf
  refine sx_ald hm dX13_ruled_900 e_v8 ?_
  clear e_v8
  replace hf := mx_gd_el hf; obtain ⟨c9, hf⟩ := hf
  replace hf := mx_sv_el hf; obtain ⟨u10, e_u10, hf⟩ := hf
  refine sx_cv hm dX13_ruled_901 rs_RX13_379 mt_X13_wrong [.int 6, .int v8] [] (b := l0) (ci := 13) rfl rfl rfl c9 (Nat.le_of_ble_eq_true rfl) (Nat.le_of_ble_eq_true rfl) (by omega) (by omega) (f_X13_wrong_ok X (by omega) (by omega) nn l0 6 v8 h e_u10) ?_
  clear e_u10
  show mx_S X F L 433 904 [(0, .ref l0), (1, .int l1)] [] u10 0 0 (some (.int r.1), r.2, 0, 0)
  refine sx_ic (v := 1) hm dX13_ruled_904 (by decide) ?_
  cases hf
  exact sx_ire hm dX13_ruled_905 rfl (by decide)
set_option maxHeartbeats 4000000 in
set_option maxRecDepth 20000 in
theorem j_X13_ruled_840_ok (X : Nat × (Nat → Int32)) {F L d : Nat} (hF : 1607 + (d + 1) ≤ F) (hL : 43358 + (d + 1) * 27 ≤ L) (nn : Nat) {rc : tg_X13_ruled} (hrc : hg5_X13_ruled X d rc) (l0 : Nat) (l1 : Int32) (s0 : Int32) (s1 : Int32) (s2 : Nat) (h : mx_H) {r : (Int32 × mx_H)} (hf : j_X13_ruled_840 nn rc l0 l1 s0 s1 s2 h = some r) : mx_S X F L 433 840 [(0, .ref l0), (1, .int l1)] [.int s0, .int s1, .ref s2] h 0 0 (some (.int r.1), r.2, 0, 0) := by
  have hm : mx_mt 433 = some (yX13_ruled, cX13_ruled, 8, (some .boolean)) := mt_X13_ruled
  unfold j_X13_ruled_840 at hf
  replace hf := mx_sv_el hf; obtain ⟨h11, e_h11, hf⟩ := hf
  refine sx_ast hm dX13_ruled_840 e_h11 ?_
  clear e_h11
  refine mx_S.pu (pc2 := 842) (lv2 := [(0, .ref l0), (1, .int l1)]) (st2 := [.ref l0]) hm dX13_ruled_841 rfl ?_
  replace hf := mx_sv_el hf; obtain ⟨v12, e_v12, hf⟩ := hf
  refine sx_get hm dX13_ruled_842 rs_RX13_58 (xgr_el e_v12) ?_
  clear e_v12
  refine mx_S.pu (pc2 := 846) (lv2 := [(0, .ref l0), (1, .int l1)]) (st2 := [.ref l0, .ref v12]) hm dX13_ruled_845 rfl ?_
  replace hf := mx_sv_el hf; obtain ⟨v13, e_v13, hf⟩ := hf
  refine sx_get hm dX13_ruled_846 rs_RX13_37 (xgr_el e_v13) ?_
  clear e_v13
  refine mx_S.pu (pc2 := 850) (lv2 := [(0, .ref l0), (1, .int l1)]) (st2 := [.int l1, .ref v13, .ref v12]) hm dX13_ruled_849 rfl ?_
  replace hf := mx_sv_el hf; obtain ⟨v14, e_v14, hf⟩ := hf
  refine sx_ald hm dX13_ruled_850 e_v14 ?_
  clear e_v14
  replace hf := mx_sv_el hf; obtain ⟨v15, e_v15, hf⟩ := hf
  refine sx_bld hm dX13_ruled_851 e_v15 ?_
  clear e_v15
  rcases mx_if_el hf with ⟨c26, hf⟩ | ⟨c26, hf⟩
  · refine sb_if_ne hm dX13_ruled_852 (tgt := 887) rfl (fun _ => ?_) (fun z => absurd c26 z)
    exact j_X13_ruled_887_ok X hF hL nn hrc l0 l1 h11 hf
  · refine sb_if_ne hm dX13_ruled_852 (tgt := 887) rfl (fun z => absurd z c26) (fun _ => ?_)
    refine mx_S.pu (pc2 := 856) (lv2 := [(0, .ref l0), (1, .int l1)]) (st2 := [.ref l0]) hm dX13_ruled_855 rfl ?_
    replace hf := mx_sv_el hf; obtain ⟨v16, e_v16, hf⟩ := hf
    refine sx_get hm dX13_ruled_856 rs_RX13_28 (xgr_el e_v16) ?_
    clear e_v16
    refine mx_S.pu (pc2 := 860) (lv2 := [(0, .ref l0), (1, .int l1)]) (st2 := [.ref l0, .ref v16]) hm dX13_ruled_859 rfl ?_
    replace hf := mx_sv_el hf; obtain ⟨v17, e_v17, hf⟩ := hf
    refine sx_get hm dX13_ruled_860 rs_RX13_37 (xgr_el e_v17) ?_
    clear e_v17
    refine mx_S.pu (pc2 := 864) (lv2 := [(0, .ref l0), (1, .int l1)]) (st2 := [.int l1, .ref v17, .ref v16]) hm dX13_ruled_863 rfl ?_
    replace hf := mx_sv_el hf; obtain ⟨v18, e_v18, hf⟩ := hf
    refine sx_ald hm dX13_ruled_864 e_v18 ?_
    clear e_v18
    replace hf := mx_sv_el hf; obtain ⟨v19, e_v19, hf⟩ := hf
    refine sx_ald hm dX13_ruled_865 e_v19 ?_
    clear e_v19
    refine sx_bi (v := 26) hm dX13_ruled_866 (by decide) ?_
    rcases mx_if_el hf with ⟨c25, hf⟩ | ⟨c25, hf⟩
    · refine sb_ic_eq hm dX13_ruled_868 (tgt := 904) rfl (fun _ => ?_) (fun z => absurd c25 z)
      refine sx_ic (v := 1) hm dX13_ruled_904 (by decide) ?_
      cases hf
      exact sx_ire hm dX13_ruled_905 rfl (by decide)
    · refine sb_ic_eq hm dX13_ruled_868 (tgt := 904) rfl (fun z => absurd z c25) (fun _ => ?_)
      refine mx_S.pu (pc2 := 872) (lv2 := [(0, .ref l0), (1, .int l1)]) (st2 := [.ref l0]) hm dX13_ruled_871 rfl ?_
      replace hf := mx_sv_el hf; obtain ⟨v20, e_v20, hf⟩ := hf
      refine sx_get hm dX13_ruled_872 rs_RX13_28 (xgr_el e_v20) ?_
      clear e_v20
      refine mx_S.pu (pc2 := 876) (lv2 := [(0, .ref l0), (1, .int l1)]) (st2 := [.ref l0, .ref v20]) hm dX13_ruled_875 rfl ?_
      replace hf := mx_sv_el hf; obtain ⟨v21, e_v21, hf⟩ := hf
      refine sx_get hm dX13_ruled_876 rs_RX13_37 (xgr_el e_v21) ?_
      clear e_v21
      refine mx_S.pu (pc2 := 880) (lv2 := [(0, .ref l0), (1, .int l1)]) (st2 := [.int l1, .ref v21, .ref v20]) hm dX13_ruled_879 rfl ?_
      replace hf := mx_sv_el hf; obtain ⟨v22, e_v22, hf⟩ := hf
      refine sx_ald hm dX13_ruled_880 e_v22 ?_
      clear e_v22
      replace hf := mx_sv_el hf; obtain ⟨v23, e_v23, hf⟩ := hf
      refine sx_ald hm dX13_ruled_881 e_v23 ?_
      clear e_v23
      refine sx_bi (v := 31) hm dX13_ruled_882 (by decide) ?_
      rcases mx_if_el hf with ⟨c24, hf⟩ | ⟨c24, hf⟩
      · refine sb_ic_eq hm dX13_ruled_884 (tgt := 904) rfl (fun _ => ?_) (fun z => absurd c24 z)
        refine sx_ic (v := 1) hm dX13_ruled_904 (by decide) ?_
        cases hf
        exact sx_ire hm dX13_ruled_905 rfl (by decide)
      · refine sb_ic_eq hm dX13_ruled_884 (tgt := 904) rfl (fun z => absurd z c24) (fun _ => ?_)
        exact j_X13_ruled_887_ok X hF hL nn hrc l0 l1 h11 hf
set_option maxHeartbeats 4000000 in
set_option maxRecDepth 20000 in
theorem j_X13_ruled_738_ok (X : Nat × (Nat → Int32)) {F L d : Nat} (hF : 1607 + (d + 1) ≤ F) (hL : 43358 + (d + 1) * 27 ≤ L) (nn : Nat) {rc : tg_X13_ruled} (hrc : hg5_X13_ruled X d rc) (l0 : Nat) (l1 : Int32) (l2 : Int32) (l3 : Int32) (h : mx_H) {r : (Int32 × mx_H)} (hf : j_X13_ruled_738 nn rc l0 l1 l2 l3 h = some r) : mx_S X F L 433 738 [(0, .ref l0), (1, .int l1), (2, .int l2), (3, .int l3)] [] h 0 0 (some (.int r.1), r.2, 0, 0) := by
  have hm : mx_mt 433 = some (yX13_ruled, cX13_ruled, 8, (some .boolean)) := mt_X13_ruled
  unfold j_X13_ruled_738 at hf
  refine mx_S.pu (pc2 := 739) (lv2 := [(0, .ref l0), (1, .int l1), (2, .int l2), (3, .int l3)]) (st2 := [.ref l0]) hm dX13_ruled_738 rfl ?_
  refine mx_S.pu (pc2 := 740) (lv2 := [(0, .ref l0), (1, .int l1), (2, .int l2), (3, .int l3)]) (st2 := [.ref l0, .ref l0]) hm dX13_ruled_739 rfl ?_
  replace hf := mx_sv_el hf; obtain ⟨v27, e_v27, hf⟩ := hf
  refine sx_get hm dX13_ruled_740 rs_RX13_40 (xgr_el e_v27) ?_
  clear e_v27
  refine mx_S.pu (pc2 := 744) (lv2 := [(0, .ref l0), (1, .int l1), (2, .int l2), (3, .int l3)]) (st2 := [.int l1, .ref v27, .ref l0]) hm dX13_ruled_743 rfl ?_
  replace hf := mx_sv_el hf; obtain ⟨v28, e_v28, hf⟩ := hf
  refine sx_ald hm dX13_ruled_744 e_v28 ?_
  clear e_v28
  replace hf := mx_gd_el hf; obtain ⟨c29, hf⟩ := hf
  replace hf := mx_sv_el hf; obtain ⟨u30, e_u30, hf⟩ := hf
  refine sx_cv hm dX13_ruled_745 rs_RX13_531 mt_X13_ruled [.int v28] [] (b := l0) (ci := 13) rfl rfl rfl c29 (Nat.le_of_ble_eq_true rfl) (Nat.le_of_ble_eq_true rfl) (by omega) (by omega) (hrc (by omega) (by omega) l0 v28 h e_u30) ?_
  clear e_u30
  show mx_S X F L 433 748 [(0, .ref l0), (1, .int l1), (2, .int l2), (3, .int l3)] [.int u30.1] u30.2 0 0 (some (.int r.1), r.2, 0, 0)
  refine mx_S.pu (pc2 := 750) (lv2 := [(4, .int u30.1), (0, .ref l0), (1, .int l1), (2, .int l2), (3, .int l3)]) (st2 := []) hm dX13_ruled_748 rfl ?_
  refine mx_S.pu (pc2 := 751) (lv2 := [(4, .int u30.1), (0, .ref l0), (1, .int l1), (2, .int l2), (3, .int l3)]) (st2 := [.ref l0]) hm dX13_ruled_750 rfl ?_
  refine mx_S.pu (pc2 := 752) (lv2 := [(4, .int u30.1), (0, .ref l0), (1, .int l1), (2, .int l2), (3, .int l3)]) (st2 := [.int l2, .ref l0]) hm dX13_ruled_751 rfl ?_
  replace hf := mx_sv_el hf; obtain ⟨h31, e_h31, hf⟩ := hf
  refine sx_put hm dX13_ruled_752 rs_RX13_513 ft_13_50 ⟨rfl, rfl⟩ (fun z => by cases z) e_h31 ?_
  clear e_h31
  refine mx_S.pu (pc2 := 756) (lv2 := [(4, .int u30.1), (0, .ref l0), (1, .int l1), (2, .int l2), (3, .int l3)]) (st2 := [.int l3]) hm dX13_ruled_755 rfl ?_
  rcases mx_if_el hf with ⟨c33, hf⟩ | ⟨c33, hf⟩
  · refine sb_if_ne hm dX13_ruled_756 (tgt := 764) rfl (fun _ => ?_) (fun z => absurd c33 z)
    refine sx_ic (v := 1) hm dX13_ruled_764 (by decide) ?_
    refine mx_S.pu (pc2 := 769) (lv2 := [(4, .int u30.1), (0, .ref l0), (1, .int l1), (2, .int l2), (3, .int l3)]) (st2 := [.int 1]) hm dX13_ruled_765 rfl ?_
    cases hf
    exact sx_ire hm dX13_ruled_769 rfl (by decide)
  · refine sb_if_ne hm dX13_ruled_756 (tgt := 764) rfl (fun z => absurd z c33) (fun _ => ?_)
    refine mx_S.pu (pc2 := 761) (lv2 := [(4, .int u30.1), (0, .ref l0), (1, .int l1), (2, .int l2), (3, .int l3)]) (st2 := [.int u30.1]) hm dX13_ruled_759 rfl ?_
    rcases mx_if_el hf with ⟨c32, hf⟩ | ⟨c32, hf⟩
    · refine sb_if_eq hm dX13_ruled_761 (tgt := 768) rfl (fun _ => ?_) (fun z => absurd c32 z)
      refine sx_ic (v := 0) hm dX13_ruled_768 (by decide) ?_
      cases hf
      exact sx_ire hm dX13_ruled_769 rfl (by decide)
    · refine sb_if_eq hm dX13_ruled_761 (tgt := 768) rfl (fun z => absurd z c32) (fun _ => ?_)
      refine sx_ic (v := 1) hm dX13_ruled_764 (by decide) ?_
      refine mx_S.pu (pc2 := 769) (lv2 := [(4, .int u30.1), (0, .ref l0), (1, .int l1), (2, .int l2), (3, .int l3)]) (st2 := [.int 1]) hm dX13_ruled_765 rfl ?_
      cases hf
      exact sx_ire hm dX13_ruled_769 rfl (by decide)
set_option maxHeartbeats 4000000 in
set_option maxRecDepth 20000 in
theorem j_X13_ruled_711_ok (X : Nat × (Nat → Int32)) {F L d : Nat} (hF : 1607 + (d + 1) ≤ F) (hL : 43358 + (d + 1) * 27 ≤ L) (nn : Nat) {rc : tg_X13_ruled} (hrc : hg5_X13_ruled X d rc) (l0 : Nat) (l1 : Int32) (l2 : Int32) (l3 : Int32) (l5 : Int32) (h : mx_H) {r : (Int32 × mx_H)} (hf : j_X13_ruled_711 nn rc l0 l1 l2 l3 l5 h = some r) : mx_S X F L 433 711 [(0, .ref l0), (1, .int l1), (2, .int l2), (3, .int l3), (5, .int l5)] [] h 0 0 (some (.int r.1), r.2, 0, 0) := by
  have hm : mx_mt 433 = some (yX13_ruled, cX13_ruled, 8, (some .boolean)) := mt_X13_ruled
  unfold j_X13_ruled_711 at hf
  refine mx_S.pu (pc2 := 712) (lv2 := [(0, .ref l0), (1, .int l1), (2, .int l2), (3, .int l3), (5, .int l5)]) (st2 := [.ref l0]) hm dX13_ruled_711 rfl ?_
  replace hf := mx_sv_el hf; obtain ⟨v34, e_v34, hf⟩ := hf
  refine sx_get hm dX13_ruled_712 rs_RX13_49 (xgr_el e_v34) ?_
  clear e_v34
  refine mx_S.pu (pc2 := 716) (lv2 := [(0, .ref l0), (1, .int l1), (2, .int l2), (3, .int l3), (5, .int l5)]) (st2 := [.int l1, .ref v34]) hm dX13_ruled_715 rfl ?_
  refine mx_S.pu (pc2 := 718) (lv2 := [(0, .ref l0), (1, .int l1), (2, .int l2), (3, .int l3), (5, .int l5)]) (st2 := [.int l5, .int l1, .ref v34]) hm dX13_ruled_716 rfl ?_
  replace hf := mx_sv_el hf; obtain ⟨h35, e_h35, hf⟩ := hf
  refine sx_ast hm dX13_ruled_718 e_h35 ?_
  clear e_h35
  refine mx_S.pu (pc2 := 720) (lv2 := [(0, .ref l0), (1, .int l1), (2, .int l2), (3, .int l3), (5, .int l5)]) (st2 := [.ref l0]) hm dX13_ruled_719 rfl ?_
  replace hf := mx_sv_el hf; obtain ⟨v36, e_v36, hf⟩ := hf
  refine sx_get hm dX13_ruled_720 rs_RX13_319 (xgi_el e_v36) ?_
  clear e_v36
  rcases mx_if_el hf with ⟨c41, hf⟩ | ⟨c41, hf⟩
  · refine sb_if_ne hm dX13_ruled_723 (tgt := 738) rfl (fun _ => ?_) (fun z => absurd c41 z)
    refine mx_S.ext [(0, .ref l0), (1, .int l1), (2, .int l2), (3, .int l3)] (mx_sub_pos [0, 1, 2, 3] rfl (show ([0, 1, 2, 3, 5] : List Nat).Nodup by decide)) ?_
    exact j_X13_ruled_738_ok X hF hL nn hrc l0 l1 l2 l3 h35 hf
  · refine sb_if_ne hm dX13_ruled_723 (tgt := 738) rfl (fun z => absurd z c41) (fun _ => ?_)
    refine mx_S.pu (pc2 := 727) (lv2 := [(0, .ref l0), (1, .int l1), (2, .int l2), (3, .int l3), (5, .int l5)]) (st2 := [.ref l0]) hm dX13_ruled_726 rfl ?_
    refine mx_S.pu (pc2 := 728) (lv2 := [(0, .ref l0), (1, .int l1), (2, .int l2), (3, .int l3), (5, .int l5)]) (st2 := [.ref l0, .ref l0]) hm dX13_ruled_727 rfl ?_
    replace hf := mx_sv_el hf; obtain ⟨v37, e_v37, hf⟩ := hf
    refine sx_get hm dX13_ruled_728 rs_RX13_55 (xgr_el e_v37) ?_
    clear e_v37
    refine mx_S.pu (pc2 := 732) (lv2 := [(0, .ref l0), (1, .int l1), (2, .int l2), (3, .int l3), (5, .int l5)]) (st2 := [.int l1, .ref v37, .ref l0]) hm dX13_ruled_731 rfl ?_
    replace hf := mx_sv_el hf; obtain ⟨v38, e_v38, hf⟩ := hf
    refine sx_ald hm dX13_ruled_732 e_v38 ?_
    clear e_v38
    refine mx_S.pu (pc2 := 735) (lv2 := [(0, .ref l0), (1, .int l1), (2, .int l2), (3, .int l3), (5, .int l5)]) (st2 := [.int l5, .int v38, .ref l0]) hm dX13_ruled_733 rfl ?_
    replace hf := mx_gd_el hf; obtain ⟨c39, hf⟩ := hf
    replace hf := mx_sv_el hf; obtain ⟨u40, e_u40, hf⟩ := hf
    refine sx_cv hm dX13_ruled_735 rs_RX13_528 mt_X13_come [.int v38, .int l5] [] (b := l0) (ci := 13) rfl rfl rfl c39 (Nat.le_of_ble_eq_true rfl) (Nat.le_of_ble_eq_true rfl) (by omega) (by omega) (f_X13_come_ok X (by omega) (by omega) nn l0 v38 l5 h35 e_u40) ?_
    clear e_u40
    show mx_S X F L 433 738 [(0, .ref l0), (1, .int l1), (2, .int l2), (3, .int l3), (5, .int l5)] [] u40 0 0 (some (.int r.1), r.2, 0, 0)
    refine mx_S.ext [(0, .ref l0), (1, .int l1), (2, .int l2), (3, .int l3)] (mx_sub_pos [0, 1, 2, 3] rfl (show ([0, 1, 2, 3, 5] : List Nat).Nodup by decide)) ?_
    exact j_X13_ruled_738_ok X hF hL nn hrc l0 l1 l2 l3 u40 hf
set_option maxHeartbeats 4000000 in
set_option maxRecDepth 20000 in
theorem j_X13_ruled_679_ok (X : Nat × (Nat → Int32)) {F L d : Nat} (hF : 1607 + (d + 1) ≤ F) (hL : 43358 + (d + 1) * 27 ≤ L) (nn : Nat) {rc : tg_X13_ruled} (hrc : hg5_X13_ruled X d rc) (l0 : Nat) (l1 : Int32) (l2 : Int32) (l3 : Int32) (l5 : Int32) (h : mx_H) {r : (Int32 × mx_H)} (hf : j_X13_ruled_679 nn rc l0 l1 l2 l3 l5 h = some r) : mx_S X F L 433 679 [(0, .ref l0), (1, .int l1), (2, .int l2), (3, .int l3), (5, .int l5)] [] h 0 0 (some (.int r.1), r.2, 0, 0) := by
  have hm : mx_mt 433 = some (yX13_ruled, cX13_ruled, 8, (some .boolean)) := mt_X13_ruled
  unfold j_X13_ruled_679 at hf
  refine mx_S.pu (pc2 := 680) (lv2 := [(0, .ref l0), (1, .int l1), (2, .int l2), (3, .int l3), (5, .int l5)]) (st2 := [.ref l0]) hm dX13_ruled_679 rfl ?_
  replace hf := mx_sv_el hf; obtain ⟨v42, e_v42, hf⟩ := hf
  refine sx_get hm dX13_ruled_680 rs_RX13_319 (xgi_el e_v42) ?_
  clear e_v42
  rcases mx_if_el hf with ⟨c52, hf⟩ | ⟨c52, hf⟩
  · refine sb_if_ne hm dX13_ruled_683 (tgt := 711) rfl (fun _ => ?_) (fun z => absurd c52 z)
    exact j_X13_ruled_711_ok X hF hL nn hrc l0 l1 l2 l3 l5 h hf
  · refine sb_if_ne hm dX13_ruled_683 (tgt := 711) rfl (fun z => absurd z c52) (fun _ => ?_)
    refine mx_S.pu (pc2 := 687) (lv2 := [(0, .ref l0), (1, .int l1), (2, .int l2), (3, .int l3), (5, .int l5)]) (st2 := [.ref l0]) hm dX13_ruled_686 rfl ?_
    refine mx_S.pu (pc2 := 688) (lv2 := [(0, .ref l0), (1, .int l1), (2, .int l2), (3, .int l3), (5, .int l5)]) (st2 := [.ref l0, .ref l0]) hm dX13_ruled_687 rfl ?_
    replace hf := mx_sv_el hf; obtain ⟨v43, e_v43, hf⟩ := hf
    refine sx_get hm dX13_ruled_688 rs_RX13_55 (xgr_el e_v43) ?_
    clear e_v43
    refine mx_S.pu (pc2 := 692) (lv2 := [(0, .ref l0), (1, .int l1), (2, .int l2), (3, .int l3), (5, .int l5)]) (st2 := [.int l1, .ref v43, .ref l0]) hm dX13_ruled_691 rfl ?_
    replace hf := mx_sv_el hf; obtain ⟨v44, e_v44, hf⟩ := hf
    refine sx_ald hm dX13_ruled_692 e_v44 ?_
    clear e_v44
    replace hf := mx_gd_el hf; obtain ⟨c45, hf⟩ := hf
    replace hf := mx_sv_el hf; obtain ⟨u46, e_u46, hf⟩ := hf
    refine sx_cv hm dX13_ruled_693 rs_RX13_534 mt_X13_sightOf [.int v44] [] (b := l0) (ci := 13) rfl rfl rfl c45 (Nat.le_of_ble_eq_true rfl) (Nat.le_of_ble_eq_true rfl) (by omega) (by omega) (f_X13_sightOf_ok X (by omega) (by omega) nn l0 v44 h e_u46) ?_
    clear e_u46
    show mx_S X F L 433 696 [(0, .ref l0), (1, .int l1), (2, .int l2), (3, .int l3), (5, .int l5)] [.int u46.1] u46.2 0 0 (some (.int r.1), r.2, 0, 0)
    refine sx_ic (v := (-1)) hm dX13_ruled_696 (by decide) ?_
    rcases mx_if_el hf with ⟨c51, hf⟩ | ⟨c51, hf⟩
    · refine sb_ic_eq hm dX13_ruled_697 (tgt := 711) rfl (fun _ => ?_) (fun z => absurd c51 z)
      exact j_X13_ruled_711_ok X hF hL nn hrc l0 l1 l2 l3 l5 u46.2 hf
    · refine sb_ic_eq hm dX13_ruled_697 (tgt := 711) rfl (fun z => absurd z c51) (fun _ => ?_)
      refine mx_S.pu (pc2 := 701) (lv2 := [(0, .ref l0), (1, .int l1), (2, .int l2), (3, .int l3), (5, .int l5)]) (st2 := [.ref l0]) hm dX13_ruled_700 rfl ?_
      refine sx_ic (v := 4) hm dX13_ruled_701 (by decide) ?_
      refine mx_S.pu (pc2 := 703) (lv2 := [(0, .ref l0), (1, .int l1), (2, .int l2), (3, .int l3), (5, .int l5)]) (st2 := [.ref l0, .int 4, .ref l0]) hm dX13_ruled_702 rfl ?_
      replace hf := mx_sv_el hf; obtain ⟨v47, e_v47, hf⟩ := hf
      refine sx_get hm dX13_ruled_703 rs_RX13_55 (xgr_el e_v47) ?_
      clear e_v47
      refine mx_S.pu (pc2 := 707) (lv2 := [(0, .ref l0), (1, .int l1), (2, .int l2), (3, .int l3), (5, .int l5)]) (st2 := [.int l1, .ref v47, .int 4, .ref l0]) hm dX13_ruled_706 rfl ?_
      replace hf := mx_sv_el hf; obtain ⟨v48, e_v48, hf⟩ := hf
      refine sx_ald hm dX13_ruled_707 e_v48 ?_
      clear e_v48
      replace hf := mx_gd_el hf; obtain ⟨c49, hf⟩ := hf
      replace hf := mx_sv_el hf; obtain ⟨u50, e_u50, hf⟩ := hf
      refine sx_cv hm dX13_ruled_708 rs_RX13_379 mt_X13_wrong [.int 4, .int v48] [] (b := l0) (ci := 13) rfl rfl rfl c49 (Nat.le_of_ble_eq_true rfl) (Nat.le_of_ble_eq_true rfl) (by omega) (by omega) (f_X13_wrong_ok X (by omega) (by omega) nn l0 4 v48 u46.2 e_u50) ?_
      clear e_u50
      show mx_S X F L 433 711 [(0, .ref l0), (1, .int l1), (2, .int l2), (3, .int l3), (5, .int l5)] [] u50 0 0 (some (.int r.1), r.2, 0, 0)
      exact j_X13_ruled_711_ok X hF hL nn hrc l0 l1 l2 l3 l5 u50 hf
set_option maxHeartbeats 4000000 in
set_option maxRecDepth 20000 in
theorem j_X13_ruled_617_ok (X : Nat × (Nat → Int32)) {F L d : Nat} (hF : 1607 + (d + 1) ≤ F) (hL : 43358 + (d + 1) * 27 ≤ L) (nn : Nat) {rc : tg_X13_ruled} (hrc : hg5_X13_ruled X d rc) (l0 : Nat) (l1 : Int32) (h : mx_H) {r : (Int32 × mx_H)} (hf : j_X13_ruled_617 nn rc l0 l1 h = some r) : mx_S X F L 433 617 [(0, .ref l0), (1, .int l1)] [] h 0 0 (some (.int r.1), r.2, 0, 0) := by
  have hm : mx_mt 433 = some (yX13_ruled, cX13_ruled, 8, (some .boolean)) := mt_X13_ruled
  unfold j_X13_ruled_617 at hf
  refine mx_S.pu (pc2 := 618) (lv2 := [(0, .ref l0), (1, .int l1)]) (st2 := [.ref l0]) hm dX13_ruled_617 rfl ?_
  refine sx_bi (v := 6) hm dX13_ruled_618 (by decide) ?_
  refine mx_S.pu (pc2 := 621) (lv2 := [(0, .ref l0), (1, .int l1)]) (st2 := [.ref l0, .int 6, .ref l0]) hm dX13_ruled_620 rfl ?_
  replace hf := mx_sv_el hf; obtain ⟨v53, e_v53, hf⟩ := hf
  refine sx_get hm dX13_ruled_621 rs_RX13_31 (xgr_el e_v53) ?_
  clear e_v53
  refine mx_S.pu (pc2 := 625) (lv2 := [(0, .ref l0), (1, .int l1)]) (st2 := [.int l1, .ref v53, .int 6, .ref l0]) hm dX13_ruled_624 rfl ?_
  replace hf := mx_sv_el hf; obtain ⟨v54, e_v54, hf⟩ := hf
  refine sx_ald hm dX13_ruled_625 e_v54 ?_
  clear e_v54
  replace hf := mx_gd_el hf; obtain ⟨c55, hf⟩ := hf
  replace hf := mx_sv_el hf; obtain ⟨u56, e_u56, hf⟩ := hf
  refine sx_cv hm dX13_ruled_626 rs_RX13_379 mt_X13_wrong [.int 6, .int v54] [] (b := l0) (ci := 13) rfl rfl rfl c55 (Nat.le_of_ble_eq_true rfl) (Nat.le_of_ble_eq_true rfl) (by omega) (by omega) (f_X13_wrong_ok X (by omega) (by omega) nn l0 6 v54 h e_u56) ?_
  clear e_u56
  show mx_S X F L 433 629 [(0, .ref l0), (1, .int l1)] [] u56 0 0 (some (.int r.1), r.2, 0, 0)
  refine sx_ic (v := 0) hm dX13_ruled_629 (by decide) ?_
  cases hf
  exact sx_ire hm dX13_ruled_630 rfl (by decide)
set_option maxHeartbeats 4000000 in
set_option maxRecDepth 20000 in
theorem j_X13_ruled_536_ok (X : Nat × (Nat → Int32)) {F L d : Nat} (hF : 1607 + (d + 1) ≤ F) (hL : 43358 + (d + 1) * 27 ≤ L) (nn : Nat) {rc : tg_X13_ruled} (hrc : hg5_X13_ruled X d rc) (l0 : Nat) (l1 : Int32) (h : mx_H) {r : (Int32 × mx_H)} (hf : j_X13_ruled_536 nn rc l0 l1 h = some r) : mx_S X F L 433 536 [(0, .ref l0), (1, .int l1)] [] h 0 0 (some (.int r.1), r.2, 0, 0) := by
  have hm : mx_mt 433 = some (yX13_ruled, cX13_ruled, 8, (some .boolean)) := mt_X13_ruled
  unfold j_X13_ruled_536 at hf
  refine mx_S.pu (pc2 := 537) (lv2 := [(0, .ref l0), (1, .int l1)]) (st2 := [.ref l0]) hm dX13_ruled_536 rfl ?_
  replace hf := mx_sv_el hf; obtain ⟨v57, e_v57, hf⟩ := hf
  refine sx_get hm dX13_ruled_537 rs_RX13_37 (xgr_el e_v57) ?_
  clear e_v57
  refine mx_S.pu (pc2 := 541) (lv2 := [(0, .ref l0), (1, .int l1)]) (st2 := [.int l1, .ref v57]) hm dX13_ruled_540 rfl ?_
  replace hf := mx_sv_el hf; obtain ⟨v58, e_v58, hf⟩ := hf
  refine sx_ald hm dX13_ruled_541 e_v58 ?_
  clear e_v58
  refine sx_ic (v := (-1)) hm dX13_ruled_542 (by decide) ?_
  rcases mx_if_el hf with ⟨c73, hf⟩ | ⟨c73, hf⟩
  · refine sb_ic_eq hm dX13_ruled_543 (tgt := 584) rfl (fun _ => ?_) (fun z => absurd c73 z)
    refine sx_ic (v := 0) hm dX13_ruled_584 (by decide) ?_
    cases hf
    exact sx_ire hm dX13_ruled_585 rfl (by decide)
  · refine sb_ic_eq hm dX13_ruled_543 (tgt := 584) rfl (fun z => absurd z c73) (fun _ => ?_)
    refine mx_S.pu (pc2 := 547) (lv2 := [(0, .ref l0), (1, .int l1)]) (st2 := [.ref l0]) hm dX13_ruled_546 rfl ?_
    refine mx_S.pu (pc2 := 548) (lv2 := [(0, .ref l0), (1, .int l1)]) (st2 := [.ref l0, .ref l0]) hm dX13_ruled_547 rfl ?_
    refine mx_S.pu (pc2 := 549) (lv2 := [(0, .ref l0), (1, .int l1)]) (st2 := [.ref l0, .ref l0, .ref l0]) hm dX13_ruled_548 rfl ?_
    replace hf := mx_sv_el hf; obtain ⟨v59, e_v59, hf⟩ := hf
    refine sx_get hm dX13_ruled_549 rs_RX13_37 (xgr_el e_v59) ?_
    clear e_v59
    refine mx_S.pu (pc2 := 553) (lv2 := [(0, .ref l0), (1, .int l1)]) (st2 := [.int l1, .ref v59, .ref l0, .ref l0]) hm dX13_ruled_552 rfl ?_
    replace hf := mx_sv_el hf; obtain ⟨v60, e_v60, hf⟩ := hf
    refine sx_ald hm dX13_ruled_553 e_v60 ?_
    clear e_v60
    replace hf := mx_gd_el hf; obtain ⟨c61, hf⟩ := hf
    replace hf := mx_sv_el hf; obtain ⟨u62, e_u62, hf⟩ := hf
    refine sx_cv hm dX13_ruled_554 rs_RX13_537 mt_X13_given [.int v60] [.ref l0] (b := l0) (ci := 13) rfl rfl rfl c61 (Nat.le_of_ble_eq_true rfl) (Nat.le_of_ble_eq_true rfl) (by omega) (by omega) (f_X13_given_ok X (by omega) (by omega) nn l0 v60 h e_u62) ?_
    clear e_u62
    show mx_S X F L 433 557 [(0, .ref l0), (1, .int l1)] [.int u62.1, .ref l0] u62.2 0 0 (some (.int r.1), r.2, 0, 0)
    refine mx_S.pu (pc2 := 558) (lv2 := [(0, .ref l0), (1, .int l1)]) (st2 := [.ref l0, .int u62.1, .ref l0]) hm dX13_ruled_557 rfl ?_
    replace hf := mx_sv_el hf; obtain ⟨v63, e_v63, hf⟩ := hf
    refine sx_get hm dX13_ruled_558 rs_RX13_89 (xgr_el e_v63) ?_
    clear e_v63
    refine mx_S.pu (pc2 := 562) (lv2 := [(0, .ref l0), (1, .int l1)]) (st2 := [.ref l0, .ref v63, .int u62.1, .ref l0]) hm dX13_ruled_561 rfl ?_
    replace hf := mx_sv_el hf; obtain ⟨v64, e_v64, hf⟩ := hf
    refine sx_get hm dX13_ruled_562 rs_RX13_516 (xgi_el e_v64) ?_
    clear e_v64
    replace hf := mx_sv_el hf; obtain ⟨v65, e_v65, hf⟩ := hf
    refine sx_ald hm dX13_ruled_565 e_v65 ?_
    clear e_v65
    replace hf := mx_gd_el hf; obtain ⟨c66, hf⟩ := hf
    replace hf := mx_sv_el hf; obtain ⟨u67, e_u67, hf⟩ := hf
    refine sx_cv hm dX13_ruled_566 rs_RX13_491 mt_X13_fits [.int u62.1, .int v65] [] (b := l0) (ci := 13) rfl rfl rfl c66 (Nat.le_of_ble_eq_true rfl) (Nat.le_of_ble_eq_true rfl) (by omega) (by omega) (f_X13_fits_ok X (by omega) (by omega) nn l0 u62.1 v65 u62.2 e_u67) ?_
    clear e_u67
    show mx_S X F L 433 569 [(0, .ref l0), (1, .int l1)] [.int u67.1] u67.2 0 0 (some (.int r.1), r.2, 0, 0)
    rcases mx_if_el hf with ⟨c72, hf⟩ | ⟨c72, hf⟩
    · refine sb_if_ne hm dX13_ruled_569 (tgt := 584) rfl (fun _ => ?_) (fun z => absurd c72 z)
      refine sx_ic (v := 0) hm dX13_ruled_584 (by decide) ?_
      cases hf
      exact sx_ire hm dX13_ruled_585 rfl (by decide)
    · refine sb_if_ne hm dX13_ruled_569 (tgt := 584) rfl (fun z => absurd z c72) (fun _ => ?_)
      refine mx_S.pu (pc2 := 573) (lv2 := [(0, .ref l0), (1, .int l1)]) (st2 := [.ref l0]) hm dX13_ruled_572 rfl ?_
      refine sx_bi (v := 6) hm dX13_ruled_573 (by decide) ?_
      refine mx_S.pu (pc2 := 576) (lv2 := [(0, .ref l0), (1, .int l1)]) (st2 := [.ref l0, .int 6, .ref l0]) hm dX13_ruled_575 rfl ?_
      replace hf := mx_sv_el hf; obtain ⟨v68, e_v68, hf⟩ := hf
      refine sx_get hm dX13_ruled_576 rs_RX13_31 (xgr_el e_v68) ?_
      clear e_v68
      refine mx_S.pu (pc2 := 580) (lv2 := [(0, .ref l0), (1, .int l1)]) (st2 := [.int l1, .ref v68, .int 6, .ref l0]) hm dX13_ruled_579 rfl ?_
      replace hf := mx_sv_el hf; obtain ⟨v69, e_v69, hf⟩ := hf
      refine sx_ald hm dX13_ruled_580 e_v69 ?_
      clear e_v69
      replace hf := mx_gd_el hf; obtain ⟨c70, hf⟩ := hf
      replace hf := mx_sv_el hf; obtain ⟨u71, e_u71, hf⟩ := hf
      refine sx_cv hm dX13_ruled_581 rs_RX13_379 mt_X13_wrong [.int 6, .int v69] [] (b := l0) (ci := 13) rfl rfl rfl c70 (Nat.le_of_ble_eq_true rfl) (Nat.le_of_ble_eq_true rfl) (by omega) (by omega) (f_X13_wrong_ok X (by omega) (by omega) nn l0 6 v69 u67.2 e_u71) ?_
      clear e_u71
      show mx_S X F L 433 584 [(0, .ref l0), (1, .int l1)] [] u71 0 0 (some (.int r.1), r.2, 0, 0)
      refine sx_ic (v := 0) hm dX13_ruled_584 (by decide) ?_
      cases hf
      exact sx_ire hm dX13_ruled_585 rfl (by decide)
set_option maxHeartbeats 4000000 in
set_option maxRecDepth 20000 in
theorem j_X13_ruled_521_ok (X : Nat × (Nat → Int32)) {F L d : Nat} (hF : 1607 + (d + 1) ≤ F) (hL : 43358 + (d + 1) * 27 ≤ L) (nn : Nat) {rc : tg_X13_ruled} (hrc : hg5_X13_ruled X d rc) (l0 : Nat) (l1 : Int32) (s0 : Int32) (s1 : Int32) (h : mx_H) {r : (Int32 × mx_H)} (hf : j_X13_ruled_521 nn rc l0 l1 s0 s1 h = some r) : mx_S X F L 433 521 [(0, .ref l0), (1, .int l1)] [.int s0, .int s1] h 0 0 (some (.int r.1), r.2, 0, 0) := by
  have hm : mx_mt 433 = some (yX13_ruled, cX13_ruled, 8, (some .boolean)) := mt_X13_ruled
  unfold j_X13_ruled_521 at hf
  rcases mx_if_el hf with ⟨c78, hf⟩ | ⟨c78, hf⟩
  · refine sb_ic_ne hm dX13_ruled_521 (tgt := 536) rfl (fun _ => ?_) (fun z => absurd c78 z)
    exact j_X13_ruled_536_ok X hF hL nn hrc l0 l1 h hf
  · refine sb_ic_ne hm dX13_ruled_521 (tgt := 536) rfl (fun z => absurd z c78) (fun _ => ?_)
    refine mx_S.pu (pc2 := 525) (lv2 := [(0, .ref l0), (1, .int l1)]) (st2 := [.ref l0]) hm dX13_ruled_524 rfl ?_
    refine sx_bi (v := 7) hm dX13_ruled_525 (by decide) ?_
    refine mx_S.pu (pc2 := 528) (lv2 := [(0, .ref l0), (1, .int l1)]) (st2 := [.ref l0, .int 7, .ref l0]) hm dX13_ruled_527 rfl ?_
    replace hf := mx_sv_el hf; obtain ⟨v74, e_v74, hf⟩ := hf
    refine sx_get hm dX13_ruled_528 rs_RX13_31 (xgr_el e_v74) ?_
    clear e_v74
    refine mx_S.pu (pc2 := 532) (lv2 := [(0, .ref l0), (1, .int l1)]) (st2 := [.int l1, .ref v74, .int 7, .ref l0]) hm dX13_ruled_531 rfl ?_
    replace hf := mx_sv_el hf; obtain ⟨v75, e_v75, hf⟩ := hf
    refine sx_ald hm dX13_ruled_532 e_v75 ?_
    clear e_v75
    replace hf := mx_gd_el hf; obtain ⟨c76, hf⟩ := hf
    replace hf := mx_sv_el hf; obtain ⟨u77, e_u77, hf⟩ := hf
    refine sx_cv hm dX13_ruled_533 rs_RX13_379 mt_X13_wrong [.int 7, .int v75] [] (b := l0) (ci := 13) rfl rfl rfl c76 (Nat.le_of_ble_eq_true rfl) (Nat.le_of_ble_eq_true rfl) (by omega) (by omega) (f_X13_wrong_ok X (by omega) (by omega) nn l0 7 v75 h e_u77) ?_
    clear e_u77
    show mx_S X F L 433 536 [(0, .ref l0), (1, .int l1)] [] u77 0 0 (some (.int r.1), r.2, 0, 0)
    exact j_X13_ruled_536_ok X hF hL nn hrc l0 l1 u77 hf
set_option maxHeartbeats 4000000 in
set_option maxRecDepth 20000 in
theorem j_X13_ruled_503_ok (X : Nat × (Nat → Int32)) {F L d : Nat} (hF : 1607 + (d + 1) ≤ F) (hL : 43358 + (d + 1) * 27 ≤ L) (nn : Nat) {rc : tg_X13_ruled} (hrc : hg5_X13_ruled X d rc) (l0 : Nat) (l1 : Int32) (s0 : Int32) (h : mx_H) {r : (Int32 × mx_H)} (hf : j_X13_ruled_503 nn rc l0 l1 s0 h = some r) : mx_S X F L 433 503 [(0, .ref l0), (1, .int l1)] [.int s0] h 0 0 (some (.int r.1), r.2, 0, 0) := by
  have hm : mx_mt 433 = some (yX13_ruled, cX13_ruled, 8, (some .boolean)) := mt_X13_ruled
  unfold j_X13_ruled_503 at hf
  refine mx_S.pu (pc2 := 504) (lv2 := [(0, .ref l0), (1, .int l1)]) (st2 := [.ref l0, .int s0]) hm dX13_ruled_503 rfl ?_
  replace hf := mx_sv_el hf; obtain ⟨v79, e_v79, hf⟩ := hf
  refine sx_get hm dX13_ruled_504 rs_RX13_89 (xgr_el e_v79) ?_
  clear e_v79
  refine mx_S.pu (pc2 := 508) (lv2 := [(0, .ref l0), (1, .int l1)]) (st2 := [.ref l0, .ref v79, .int s0]) hm dX13_ruled_507 rfl ?_
  replace hf := mx_sv_el hf; obtain ⟨v80, e_v80, hf⟩ := hf
  refine sx_get hm dX13_ruled_508 rs_RX13_516 (xgi_el e_v80) ?_
  clear e_v80
  replace hf := mx_sv_el hf; obtain ⟨v81, e_v81, hf⟩ := hf
  refine sx_ald hm dX13_ruled_511 e_v81 ?_
  clear e_v81
  refine sx_ic (v := 3) hm dX13_ruled_512 (by decide) ?_
  rcases mx_if_el hf with ⟨c82, hf⟩ | ⟨c82, hf⟩
  · refine sb_ic_eq hm dX13_ruled_513 (tgt := 520) rfl (fun _ => ?_) (fun z => absurd c82 z)
    refine sx_ic (v := 0) hm dX13_ruled_520 (by decide) ?_
    exact j_X13_ruled_521_ok X hF hL nn hrc l0 l1 0 s0 h hf
  · refine sb_ic_eq hm dX13_ruled_513 (tgt := 520) rfl (fun z => absurd z c82) (fun _ => ?_)
    refine sx_ic (v := 1) hm dX13_ruled_516 (by decide) ?_
    refine mx_S.pu (pc2 := 521) (lv2 := [(0, .ref l0), (1, .int l1)]) (st2 := [.int 1, .int s0]) hm dX13_ruled_517 rfl ?_
    exact j_X13_ruled_521_ok X hF hL nn hrc l0 l1 1 s0 h hf
set_option maxHeartbeats 4000000 in
set_option maxRecDepth 20000 in
theorem j_X13_ruled_444_ok (X : Nat × (Nat → Int32)) {F L d : Nat} (hF : 1607 + (d + 1) ≤ F) (hL : 43358 + (d + 1) * 27 ≤ L) (nn : Nat) {rc : tg_X13_ruled} (hrc : hg5_X13_ruled X d rc) (l0 : Nat) (l1 : Int32) (h : mx_H) {r : (Int32 × mx_H)} (hf : j_X13_ruled_444 nn rc l0 l1 h = some r) : mx_S X F L 433 444 [(0, .ref l0), (1, .int l1)] [] h 0 0 (some (.int r.1), r.2, 0, 0) := by
  have hm : mx_mt 433 = some (yX13_ruled, cX13_ruled, 8, (some .boolean)) := mt_X13_ruled
  unfold j_X13_ruled_444 at hf
  refine mx_S.pu (pc2 := 445) (lv2 := [(0, .ref l0), (1, .int l1)]) (st2 := [.ref l0]) hm dX13_ruled_444 rfl ?_
  replace hf := mx_sv_el hf; obtain ⟨v83, e_v83, hf⟩ := hf
  refine sx_get hm dX13_ruled_445 rs_RX13_522 (xgi_el e_v83) ?_
  clear e_v83
  rcases mx_if_el hf with ⟨c94, hf⟩ | ⟨c94, hf⟩
  · refine sb_if_ne hm dX13_ruled_448 (tgt := 466) rfl (fun _ => ?_) (fun z => absurd c94 z)
    refine mx_S.pu (pc2 := 467) (lv2 := [(0, .ref l0), (1, .int l1)]) (st2 := [.ref l0]) hm dX13_ruled_466 rfl ?_
    replace hf := mx_sv_el hf; obtain ⟨v84, e_v84, hf⟩ := hf
    refine sx_get hm dX13_ruled_467 rs_RX13_28 (xgr_el e_v84) ?_
    clear e_v84
    refine mx_S.pu (pc2 := 471) (lv2 := [(0, .ref l0), (1, .int l1)]) (st2 := [.int l1, .ref v84]) hm dX13_ruled_470 rfl ?_
    replace hf := mx_sv_el hf; obtain ⟨v85, e_v85, hf⟩ := hf
    refine sx_ald hm dX13_ruled_471 e_v85 ?_
    clear e_v85
    refine sx_ic (v := 5) hm dX13_ruled_472 (by decide) ?_
    rcases mx_if_el hf with ⟨c89, hf⟩ | ⟨c89, hf⟩
    · refine sb_ic_ne hm dX13_ruled_473 (tgt := 486) rfl (fun _ => ?_) (fun z => absurd c89 z)
      refine sx_ic (v := 0) hm dX13_ruled_486 (by decide) ?_
      cases hf
      exact sx_ire hm dX13_ruled_487 rfl (by decide)
    · refine sb_ic_ne hm dX13_ruled_473 (tgt := 486) rfl (fun z => absurd z c89) (fun _ => ?_)
      refine mx_S.pu (pc2 := 477) (lv2 := [(0, .ref l0), (1, .int l1)]) (st2 := [.ref l0]) hm dX13_ruled_476 rfl ?_
      replace hf := mx_sv_el hf; obtain ⟨v86, e_v86, hf⟩ := hf
      refine sx_get hm dX13_ruled_477 rs_RX13_122 (xgr_el e_v86) ?_
      clear e_v86
      refine mx_S.pu (pc2 := 481) (lv2 := [(0, .ref l0), (1, .int l1)]) (st2 := [.ref l0, .ref v86]) hm dX13_ruled_480 rfl ?_
      replace hf := mx_sv_el hf; obtain ⟨v87, e_v87, hf⟩ := hf
      refine sx_get hm dX13_ruled_481 rs_RX13_522 (xgi_el e_v87) ?_
      clear e_v87
      refine sx_ic (v := 1) hm dX13_ruled_484 (by decide) ?_
      replace hf := mx_sv_el hf; obtain ⟨h88, e_h88, hf⟩ := hf
      refine sx_bst hm dX13_ruled_485 e_h88 ?_
      clear e_h88
      refine sx_ic (v := 0) hm dX13_ruled_486 (by decide) ?_
      cases hf
      exact sx_ire hm dX13_ruled_487 rfl (by decide)
  · refine sb_if_ne hm dX13_ruled_448 (tgt := 466) rfl (fun z => absurd z c94) (fun _ => ?_)
    refine mx_S.pu (pc2 := 452) (lv2 := [(0, .ref l0), (1, .int l1)]) (st2 := [.ref l0]) hm dX13_ruled_451 rfl ?_
    refine sx_bi (v := 7) hm dX13_ruled_452 (by decide) ?_
    refine mx_S.pu (pc2 := 455) (lv2 := [(0, .ref l0), (1, .int l1)]) (st2 := [.ref l0, .int 7, .ref l0]) hm dX13_ruled_454 rfl ?_
    replace hf := mx_sv_el hf; obtain ⟨v90, e_v90, hf⟩ := hf
    refine sx_get hm dX13_ruled_455 rs_RX13_31 (xgr_el e_v90) ?_
    clear e_v90
    refine mx_S.pu (pc2 := 459) (lv2 := [(0, .ref l0), (1, .int l1)]) (st2 := [.int l1, .ref v90, .int 7, .ref l0]) hm dX13_ruled_458 rfl ?_
    replace hf := mx_sv_el hf; obtain ⟨v91, e_v91, hf⟩ := hf
    refine sx_ald hm dX13_ruled_459 e_v91 ?_
    clear e_v91
    replace hf := mx_gd_el hf; obtain ⟨c92, hf⟩ := hf
    replace hf := mx_sv_el hf; obtain ⟨u93, e_u93, hf⟩ := hf
    refine sx_cv hm dX13_ruled_460 rs_RX13_379 mt_X13_wrong [.int 7, .int v91] [] (b := l0) (ci := 13) rfl rfl rfl c92 (Nat.le_of_ble_eq_true rfl) (Nat.le_of_ble_eq_true rfl) (by omega) (by omega) (f_X13_wrong_ok X (by omega) (by omega) nn l0 7 v91 h e_u93) ?_
    clear e_u93
    show mx_S X F L 433 463 [(0, .ref l0), (1, .int l1)] [] u93 0 0 (some (.int r.1), r.2, 0, 0)
    refine mx_S.pu (pc2 := 486) (lv2 := [(0, .ref l0), (1, .int l1)]) (st2 := []) hm dX13_ruled_463 rfl ?_
    refine sx_ic (v := 0) hm dX13_ruled_486 (by decide) ?_
    cases hf
    exact sx_ire hm dX13_ruled_487 rfl (by decide)
set_option maxHeartbeats 4000000 in
set_option maxRecDepth 20000 in
theorem j_X13_ruled_431_ok (X : Nat × (Nat → Int32)) {F L d : Nat} (hF : 1607 + (d + 1) ≤ F) (hL : 43358 + (d + 1) * 27 ≤ L) (nn : Nat) {rc : tg_X13_ruled} (hrc : hg5_X13_ruled X d rc) (l0 : Nat) (l3 : Int32) (s0 : Int32) (s1 : Int32) (s2 : Nat) (h : mx_H) {r : (Int32 × mx_H)} (hf : j_X13_ruled_431 nn rc l0 l3 s0 s1 s2 h = some r) : mx_S X F L 433 431 [(0, .ref l0), (3, .int l3)] [.int s0, .int s1, .ref s2] h 0 0 (some (.int r.1), r.2, 0, 0) := by
  have hm : mx_mt 433 = some (yX13_ruled, cX13_ruled, 8, (some .boolean)) := mt_X13_ruled
  unfold j_X13_ruled_431 at hf
  replace hf := mx_sv_el hf; obtain ⟨h95, e_h95, hf⟩ := hf
  refine sx_ast hm dX13_ruled_431 e_h95 ?_
  clear e_h95
  refine mx_S.pu (pc2 := 433) (lv2 := [(0, .ref l0), (3, .int l3)]) (st2 := [.ref l0]) hm dX13_ruled_432 rfl ?_
  refine mx_S.pu (pc2 := 434) (lv2 := [(0, .ref l0), (3, .int l3)]) (st2 := [.ref l0, .ref l0]) hm dX13_ruled_433 rfl ?_
  replace hf := mx_sv_el hf; obtain ⟨v96, e_v96, hf⟩ := hf
  refine sx_get hm dX13_ruled_434 rs_RX13_522 (xgi_el e_v96) ?_
  clear e_v96
  refine sx_ic (v := 1) hm dX13_ruled_437 (by decide) ?_
  replace hf := xl_el hf; obtain ⟨v97, e_v97, hf⟩ := hf
  refine mx_S.pu (pc2 := 439) (lv2 := [(0, .ref l0), (3, .int l3)]) (st2 := [.int v97, .ref l0]) hm dX13_ruled_438 (by rw [← e_v97]; rfl) ?_
  clear e_v97
  replace hf := mx_sv_el hf; obtain ⟨h98, e_h98, hf⟩ := hf
  refine sx_put hm dX13_ruled_439 rs_RX13_522 ft_13_54 ⟨rfl, rfl⟩ (fun z => by cases z) e_h98 ?_
  clear e_h98
  refine mx_S.pu (pc2 := 443) (lv2 := [(0, .ref l0), (3, .int l3)]) (st2 := [.int l3]) hm dX13_ruled_442 rfl ?_
  replace hf := mx_gd_el hf; obtain ⟨c99, hf⟩ := hf
  cases hf
  exact sx_ire hm dX13_ruled_443 rfl (xbq_ok c99).1
set_option maxHeartbeats 4000000 in
set_option maxRecDepth 20000 in
theorem j_X13_ruled_408_ok (X : Nat × (Nat → Int32)) {F L d : Nat} (hF : 1607 + (d + 1) ≤ F) (hL : 43358 + (d + 1) * 27 ≤ L) (nn : Nat) {rc : tg_X13_ruled} (hrc : hg5_X13_ruled X d rc) (l0 : Nat) (l1 : Int32) (s0 : Int32) (h : mx_H) {r : (Int32 × mx_H)} (hf : j_X13_ruled_408 nn rc l0 l1 s0 h = some r) : mx_S X F L 433 408 [(0, .ref l0), (1, .int l1)] [.int s0] h 0 0 (some (.int r.1), r.2, 0, 0) := by
  have hm : mx_mt 433 = some (yX13_ruled, cX13_ruled, 8, (some .boolean)) := mt_X13_ruled
  unfold j_X13_ruled_408 at hf
  refine mx_S.pu (pc2 := 409) (lv2 := [(3, .int s0), (0, .ref l0), (1, .int l1)]) (st2 := []) hm dX13_ruled_408 rfl ?_
  refine mx_S.pu (pc2 := 410) (lv2 := [(3, .int s0), (0, .ref l0), (1, .int l1)]) (st2 := [.ref l0]) hm dX13_ruled_409 rfl ?_
  replace hf := mx_sv_el hf; obtain ⟨v100, e_v100, hf⟩ := hf
  refine sx_get hm dX13_ruled_410 rs_RX13_55 (xgr_el e_v100) ?_
  clear e_v100
  refine mx_S.pu (pc2 := 414) (lv2 := [(3, .int s0), (0, .ref l0), (1, .int l1)]) (st2 := [.int l1, .ref v100]) hm dX13_ruled_413 rfl ?_
  refine mx_S.pu (pc2 := 415) (lv2 := [(3, .int s0), (0, .ref l0), (1, .int l1)]) (st2 := [.ref l0, .int l1, .ref v100]) hm dX13_ruled_414 rfl ?_
  replace hf := mx_sv_el hf; obtain ⟨v101, e_v101, hf⟩ := hf
  refine sx_get hm dX13_ruled_415 rs_RX13_122 (xgr_el e_v101) ?_
  clear e_v101
  refine mx_S.pu (pc2 := 419) (lv2 := [(3, .int s0), (0, .ref l0), (1, .int l1)]) (st2 := [.ref l0, .ref v101, .int l1, .ref v100]) hm dX13_ruled_418 rfl ?_
  replace hf := mx_sv_el hf; obtain ⟨v102, e_v102, hf⟩ := hf
  refine sx_get hm dX13_ruled_419 rs_RX13_522 (xgi_el e_v102) ?_
  clear e_v102
  replace hf := mx_sv_el hf; obtain ⟨v103, e_v103, hf⟩ := hf
  refine sx_bld hm dX13_ruled_422 e_v103 ?_
  clear e_v103
  rcases mx_if_el hf with ⟨c104, hf⟩ | ⟨c104, hf⟩
  · refine sb_if_eq hm dX13_ruled_423 (tgt := 430) rfl (fun _ => ?_) (fun z => absurd c104 z)
    refine sx_ic (v := 0) hm dX13_ruled_430 (by decide) ?_
    refine mx_S.ext [(0, .ref l0), (3, .int s0)] (mx_sub_pos [1, 0] rfl (show ([3, 0, 1] : List Nat).Nodup by decide)) ?_
    exact j_X13_ruled_431_ok X hF hL nn hrc l0 s0 0 l1 v100 h hf
  · refine sb_if_eq hm dX13_ruled_423 (tgt := 430) rfl (fun z => absurd z c104) (fun _ => ?_)
    refine sx_ic (v := 1) hm dX13_ruled_426 (by decide) ?_
    refine mx_S.pu (pc2 := 431) (lv2 := [(3, .int s0), (0, .ref l0), (1, .int l1)]) (st2 := [.int 1, .int l1, .ref v100]) hm dX13_ruled_427 rfl ?_
    refine mx_S.ext [(0, .ref l0), (3, .int s0)] (mx_sub_pos [1, 0] rfl (show ([3, 0, 1] : List Nat).Nodup by decide)) ?_
    exact j_X13_ruled_431_ok X hF hL nn hrc l0 s0 1 l1 v100 h hf
set_option maxHeartbeats 4000000 in
set_option maxRecDepth 20000 in
theorem j_X13_ruled_403_ok (X : Nat × (Nat → Int32)) {F L d : Nat} (hF : 1607 + (d + 1) ≤ F) (hL : 43358 + (d + 1) * 27 ≤ L) (nn : Nat) {rc : tg_X13_ruled} (hrc : hg5_X13_ruled X d rc) (l0 : Nat) (l1 : Int32) (h : mx_H) {r : (Int32 × mx_H)} (hf : j_X13_ruled_403 nn rc l0 l1 h = some r) : mx_S X F L 433 403 [(0, .ref l0), (1, .int l1)] [] h 0 0 (some (.int r.1), r.2, 0, 0) := by
  have hm : mx_mt 433 = some (yX13_ruled, cX13_ruled, 8, (some .boolean)) := mt_X13_ruled
  unfold j_X13_ruled_403 at hf
  refine sx_ic (v := 1) hm dX13_ruled_403 (by decide) ?_
  refine mx_S.pu (pc2 := 408) (lv2 := [(0, .ref l0), (1, .int l1)]) (st2 := [.int 1]) hm dX13_ruled_404 rfl ?_
  exact j_X13_ruled_408_ok X hF hL nn hrc l0 l1 1 h hf
set_option maxHeartbeats 4000000 in
set_option maxRecDepth 20000 in
theorem j_X13_ruled_377_ok (X : Nat × (Nat → Int32)) {F L d : Nat} (hF : 1607 + (d + 1) ≤ F) (hL : 43358 + (d + 1) * 27 ≤ L) (nn : Nat) {rc : tg_X13_ruled} (hrc : hg5_X13_ruled X d rc) (l0 : Nat) (l1 : Int32) (l2 : Int32) (h : mx_H) {r : (Int32 × mx_H)} (hf : j_X13_ruled_377 nn rc l0 l1 l2 h = some r) : mx_S X F L 433 377 [(0, .ref l0), (1, .int l1), (2, .int l2)] [] h 0 0 (some (.int r.1), r.2, 0, 0) := by
  have hm : mx_mt 433 = some (yX13_ruled, cX13_ruled, 8, (some .boolean)) := mt_X13_ruled
  unfold j_X13_ruled_377 at hf
  refine mx_S.pu (pc2 := 378) (lv2 := [(0, .ref l0), (1, .int l1), (2, .int l2)]) (st2 := [.ref l0]) hm dX13_ruled_377 rfl ?_
  refine mx_S.pu (pc2 := 379) (lv2 := [(0, .ref l0), (1, .int l1), (2, .int l2)]) (st2 := [.int l2, .ref l0]) hm dX13_ruled_378 rfl ?_
  replace hf := mx_sv_el hf; obtain ⟨h105, e_h105, hf⟩ := hf
  refine sx_put hm dX13_ruled_379 rs_RX13_513 ft_13_50 ⟨rfl, rfl⟩ (fun z => by cases z) e_h105 ?_
  clear e_h105
  refine mx_S.pu (pc2 := 383) (lv2 := [(0, .ref l0), (1, .int l1), (2, .int l2)]) (st2 := [.ref l0]) hm dX13_ruled_382 rfl ?_
  replace hf := mx_sv_el hf; obtain ⟨v106, e_v106, hf⟩ := hf
  refine sx_get hm dX13_ruled_383 rs_RX13_52 (xgr_el e_v106) ?_
  clear e_v106
  refine mx_S.pu (pc2 := 387) (lv2 := [(0, .ref l0), (1, .int l1), (2, .int l2)]) (st2 := [.int l1, .ref v106]) hm dX13_ruled_386 rfl ?_
  replace hf := mx_sv_el hf; obtain ⟨v107, e_v107, hf⟩ := hf
  refine sx_ald hm dX13_ruled_387 e_v107 ?_
  clear e_v107
  rcases mx_if_el hf with ⟨c112, hf⟩ | ⟨c112, hf⟩
  · refine sb_if_eq hm dX13_ruled_388 (tgt := 403) rfl (fun _ => ?_) (fun z => absurd c112 z)
    refine mx_S.ext [(0, .ref l0), (1, .int l1)] (mx_sub_pos [0, 1] rfl (show ([0, 1, 2] : List Nat).Nodup by decide)) ?_
    exact j_X13_ruled_403_ok X hF hL nn hrc l0 l1 h105 hf
  · refine sb_if_eq hm dX13_ruled_388 (tgt := 403) rfl (fun z => absurd z c112) (fun _ => ?_)
    refine mx_S.pu (pc2 := 392) (lv2 := [(0, .ref l0), (1, .int l1), (2, .int l2)]) (st2 := [.ref l0]) hm dX13_ruled_391 rfl ?_
    replace hf := mx_sv_el hf; obtain ⟨v108, e_v108, hf⟩ := hf
    refine sx_get hm dX13_ruled_392 rs_RX13_122 (xgr_el e_v108) ?_
    clear e_v108
    refine mx_S.pu (pc2 := 396) (lv2 := [(0, .ref l0), (1, .int l1), (2, .int l2)]) (st2 := [.ref l0, .ref v108]) hm dX13_ruled_395 rfl ?_
    replace hf := mx_sv_el hf; obtain ⟨v109, e_v109, hf⟩ := hf
    refine sx_get hm dX13_ruled_396 rs_RX13_522 (xgi_el e_v109) ?_
    clear e_v109
    replace hf := mx_sv_el hf; obtain ⟨v110, e_v110, hf⟩ := hf
    refine sx_bld hm dX13_ruled_399 e_v110 ?_
    clear e_v110
    rcases mx_if_el hf with ⟨c111, hf⟩ | ⟨c111, hf⟩
    · refine sb_if_eq hm dX13_ruled_400 (tgt := 407) rfl (fun _ => ?_) (fun z => absurd c111 z)
      refine sx_ic (v := 0) hm dX13_ruled_407 (by decide) ?_
      refine mx_S.ext [(0, .ref l0), (1, .int l1)] (mx_sub_pos [0, 1] rfl (show ([0, 1, 2] : List Nat).Nodup by decide)) ?_
      exact j_X13_ruled_408_ok X hF hL nn hrc l0 l1 0 h105 hf
    · refine sb_if_eq hm dX13_ruled_400 (tgt := 407) rfl (fun z => absurd z c111) (fun _ => ?_)
      refine mx_S.ext [(0, .ref l0), (1, .int l1)] (mx_sub_pos [0, 1] rfl (show ([0, 1, 2] : List Nat).Nodup by decide)) ?_
      exact j_X13_ruled_403_ok X hF hL nn hrc l0 l1 h105 hf
set_option maxHeartbeats 4000000 in
set_option maxRecDepth 20000 in
theorem j_X13_ruled_244_ok (X : Nat × (Nat → Int32)) {F L d : Nat} (hF : 1607 + (d + 1) ≤ F) (hL : 43358 + (d + 1) * 27 ≤ L) (nn : Nat) {rc : tg_X13_ruled} (hrc : hg5_X13_ruled X d rc) (l0 : Nat) (l1 : Int32) (l5 : Int32) (h : mx_H) {r : (Int32 × mx_H)} (hf : j_X13_ruled_244 nn rc l0 l1 l5 h = some r) : mx_S X F L 433 244 [(0, .ref l0), (1, .int l1), (5, .int l5)] [] h 0 0 (some (.int r.1), r.2, 0, 0) := by
  have hm : mx_mt 433 = some (yX13_ruled, cX13_ruled, 8, (some .boolean)) := mt_X13_ruled
  unfold j_X13_ruled_244 at hf
  refine mx_S.pu (pc2 := 245) (lv2 := [(0, .ref l0), (1, .int l1), (5, .int l5)]) (st2 := [.ref l0]) hm dX13_ruled_244 rfl ?_
  replace hf := mx_sv_el hf; obtain ⟨v113, e_v113, hf⟩ := hf
  refine sx_get hm dX13_ruled_245 rs_RX13_49 (xgr_el e_v113) ?_
  clear e_v113
  refine mx_S.pu (pc2 := 249) (lv2 := [(0, .ref l0), (1, .int l1), (5, .int l5)]) (st2 := [.int l1, .ref v113]) hm dX13_ruled_248 rfl ?_
  refine mx_S.pu (pc2 := 251) (lv2 := [(0, .ref l0), (1, .int l1), (5, .int l5)]) (st2 := [.int l5, .int l1, .ref v113]) hm dX13_ruled_249 rfl ?_
  replace hf := mx_sv_el hf; obtain ⟨h114, e_h114, hf⟩ := hf
  refine sx_ast hm dX13_ruled_251 e_h114 ?_
  clear e_h114
  refine mx_S.pu (pc2 := 253) (lv2 := [(0, .ref l0), (1, .int l1), (5, .int l5)]) (st2 := [.ref l0]) hm dX13_ruled_252 rfl ?_
  refine mx_S.pu (pc2 := 254) (lv2 := [(0, .ref l0), (1, .int l1), (5, .int l5)]) (st2 := [.ref l0, .ref l0]) hm dX13_ruled_253 rfl ?_
  replace hf := mx_sv_el hf; obtain ⟨v115, e_v115, hf⟩ := hf
  refine sx_get hm dX13_ruled_254 rs_RX13_31 (xgr_el e_v115) ?_
  clear e_v115
  refine mx_S.pu (pc2 := 258) (lv2 := [(0, .ref l0), (1, .int l1), (5, .int l5)]) (st2 := [.int l1, .ref v115, .ref l0]) hm dX13_ruled_257 rfl ?_
  replace hf := mx_sv_el hf; obtain ⟨v116, e_v116, hf⟩ := hf
  refine sx_ald hm dX13_ruled_258 e_v116 ?_
  clear e_v116
  refine mx_S.pu (pc2 := 261) (lv2 := [(0, .ref l0), (1, .int l1), (5, .int l5)]) (st2 := [.int l5, .int v116, .ref l0]) hm dX13_ruled_259 rfl ?_
  replace hf := mx_gd_el hf; obtain ⟨c117, hf⟩ := hf
  replace hf := mx_sv_el hf; obtain ⟨u118, e_u118, hf⟩ := hf
  refine sx_cv hm dX13_ruled_261 rs_RX13_528 mt_X13_come [.int v116, .int l5] [] (b := l0) (ci := 13) rfl rfl rfl c117 (Nat.le_of_ble_eq_true rfl) (Nat.le_of_ble_eq_true rfl) (by omega) (by omega) (f_X13_come_ok X (by omega) (by omega) nn l0 v116 l5 h114 e_u118) ?_
  clear e_u118
  show mx_S X F L 433 264 [(0, .ref l0), (1, .int l1), (5, .int l5)] [] u118 0 0 (some (.int r.1), r.2, 0, 0)
  refine sx_ic (v := 1) hm dX13_ruled_264 (by decide) ?_
  cases hf
  exact sx_ire hm dX13_ruled_265 rfl (by decide)
set_option maxHeartbeats 4000000 in
set_option maxRecDepth 20000 in
theorem j_X13_ruled_209_ok (X : Nat × (Nat → Int32)) {F L d : Nat} (hF : 1607 + (d + 1) ≤ F) (hL : 43358 + (d + 1) * 27 ≤ L) (nn : Nat) {rc : tg_X13_ruled} (hrc : hg5_X13_ruled X d rc) (l0 : Nat) (l1 : Int32) (l5 : Int32) (h : mx_H) {r : (Int32 × mx_H)} (hf : j_X13_ruled_209 nn rc l0 l1 l5 h = some r) : mx_S X F L 433 209 [(0, .ref l0), (1, .int l1), (5, .int l5)] [] h 0 0 (some (.int r.1), r.2, 0, 0) := by
  have hm : mx_mt 433 = some (yX13_ruled, cX13_ruled, 8, (some .boolean)) := mt_X13_ruled
  unfold j_X13_ruled_209 at hf
  refine mx_S.pu (pc2 := 210) (lv2 := [(0, .ref l0), (1, .int l1), (5, .int l5)]) (st2 := [.ref l0]) hm dX13_ruled_209 rfl ?_
  refine mx_S.pu (pc2 := 211) (lv2 := [(0, .ref l0), (1, .int l1), (5, .int l5)]) (st2 := [.ref l0, .ref l0]) hm dX13_ruled_210 rfl ?_
  replace hf := mx_sv_el hf; obtain ⟨v119, e_v119, hf⟩ := hf
  refine sx_get hm dX13_ruled_211 rs_RX13_37 (xgr_el e_v119) ?_
  clear e_v119
  refine mx_S.pu (pc2 := 215) (lv2 := [(0, .ref l0), (1, .int l1), (5, .int l5)]) (st2 := [.int l1, .ref v119, .ref l0]) hm dX13_ruled_214 rfl ?_
  replace hf := mx_sv_el hf; obtain ⟨v120, e_v120, hf⟩ := hf
  refine sx_ald hm dX13_ruled_215 e_v120 ?_
  clear e_v120
  replace hf := mx_gd_el hf; obtain ⟨c121, hf⟩ := hf
  replace hf := mx_sv_el hf; obtain ⟨u122, e_u122, hf⟩ := hf
  refine sx_cv hm dX13_ruled_216 rs_RX13_537 mt_X13_given [.int v120] [] (b := l0) (ci := 13) rfl rfl rfl c121 (Nat.le_of_ble_eq_true rfl) (Nat.le_of_ble_eq_true rfl) (by omega) (by omega) (f_X13_given_ok X (by omega) (by omega) nn l0 v120 h e_u122) ?_
  clear e_u122
  show mx_S X F L 433 219 [(0, .ref l0), (1, .int l1), (5, .int l5)] [.int u122.1] u122.2 0 0 (some (.int r.1), r.2, 0, 0)
  refine mx_S.pu (pc2 := 221) (lv2 := [(6, .int u122.1), (0, .ref l0), (1, .int l1), (5, .int l5)]) (st2 := []) hm dX13_ruled_219 rfl ?_
  refine mx_S.pu (pc2 := 222) (lv2 := [(6, .int u122.1), (0, .ref l0), (1, .int l1), (5, .int l5)]) (st2 := [.ref l0]) hm dX13_ruled_221 rfl ?_
  refine mx_S.pu (pc2 := 224) (lv2 := [(6, .int u122.1), (0, .ref l0), (1, .int l1), (5, .int l5)]) (st2 := [.int u122.1, .ref l0]) hm dX13_ruled_222 rfl ?_
  refine mx_S.pu (pc2 := 226) (lv2 := [(6, .int u122.1), (0, .ref l0), (1, .int l1), (5, .int l5)]) (st2 := [.int l5, .int u122.1, .ref l0]) hm dX13_ruled_224 rfl ?_
  replace hf := mx_gd_el hf; obtain ⟨c123, hf⟩ := hf
  replace hf := mx_sv_el hf; obtain ⟨u124, e_u124, hf⟩ := hf
  refine sx_cv hm dX13_ruled_226 rs_RX13_491 mt_X13_fits [.int u122.1, .int l5] [] (b := l0) (ci := 13) rfl rfl rfl c123 (Nat.le_of_ble_eq_true rfl) (Nat.le_of_ble_eq_true rfl) (by omega) (by omega) (f_X13_fits_ok X (by omega) (by omega) nn l0 u122.1 l5 u122.2 e_u124) ?_
  clear e_u124
  show mx_S X F L 433 229 [(6, .int u122.1), (0, .ref l0), (1, .int l1), (5, .int l5)] [.int u124.1] u124.2 0 0 (some (.int r.1), r.2, 0, 0)
  rcases mx_if_el hf with ⟨c129, hf⟩ | ⟨c129, hf⟩
  · refine sb_if_ne hm dX13_ruled_229 (tgt := 244) rfl (fun _ => ?_) (fun z => absurd c129 z)
    refine mx_S.ext [(0, .ref l0), (1, .int l1), (5, .int l5)] (mx_sub_pos [1, 2, 3] rfl (show ([6, 0, 1, 5] : List Nat).Nodup by decide)) ?_
    exact j_X13_ruled_244_ok X hF hL nn hrc l0 l1 l5 u124.2 hf
  · refine sb_if_ne hm dX13_ruled_229 (tgt := 244) rfl (fun z => absurd z c129) (fun _ => ?_)
    refine mx_S.pu (pc2 := 233) (lv2 := [(6, .int u122.1), (0, .ref l0), (1, .int l1), (5, .int l5)]) (st2 := [.ref l0]) hm dX13_ruled_232 rfl ?_
    refine sx_bi (v := 6) hm dX13_ruled_233 (by decide) ?_
    refine mx_S.pu (pc2 := 236) (lv2 := [(6, .int u122.1), (0, .ref l0), (1, .int l1), (5, .int l5)]) (st2 := [.ref l0, .int 6, .ref l0]) hm dX13_ruled_235 rfl ?_
    replace hf := mx_sv_el hf; obtain ⟨v125, e_v125, hf⟩ := hf
    refine sx_get hm dX13_ruled_236 rs_RX13_55 (xgr_el e_v125) ?_
    clear e_v125
    refine mx_S.pu (pc2 := 240) (lv2 := [(6, .int u122.1), (0, .ref l0), (1, .int l1), (5, .int l5)]) (st2 := [.int l1, .ref v125, .int 6, .ref l0]) hm dX13_ruled_239 rfl ?_
    replace hf := mx_sv_el hf; obtain ⟨v126, e_v126, hf⟩ := hf
    refine sx_ald hm dX13_ruled_240 e_v126 ?_
    clear e_v126
    replace hf := mx_gd_el hf; obtain ⟨c127, hf⟩ := hf
    replace hf := mx_sv_el hf; obtain ⟨u128, e_u128, hf⟩ := hf
    refine sx_cv hm dX13_ruled_241 rs_RX13_379 mt_X13_wrong [.int 6, .int v126] [] (b := l0) (ci := 13) rfl rfl rfl c127 (Nat.le_of_ble_eq_true rfl) (Nat.le_of_ble_eq_true rfl) (by omega) (by omega) (f_X13_wrong_ok X (by omega) (by omega) nn l0 6 v126 u124.2 e_u128) ?_
    clear e_u128
    show mx_S X F L 433 244 [(6, .int u122.1), (0, .ref l0), (1, .int l1), (5, .int l5)] [] u128 0 0 (some (.int r.1), r.2, 0, 0)
    refine mx_S.ext [(0, .ref l0), (1, .int l1), (5, .int l5)] (mx_sub_pos [1, 2, 3] rfl (show ([6, 0, 1, 5] : List Nat).Nodup by decide)) ?_
    exact j_X13_ruled_244_ok X hF hL nn hrc l0 l1 l5 u128 hf
set_option maxHeartbeats 4000000 in
set_option maxRecDepth 20000 in
theorem j_X13_ruled_179_ok (X : Nat × (Nat → Int32)) {F L d : Nat} (hF : 1607 + (d + 1) ≤ F) (hL : 43358 + (d + 1) * 27 ≤ L) (nn : Nat) {rc : tg_X13_ruled} (hrc : hg5_X13_ruled X d rc) (l0 : Nat) (l1 : Int32) (s0 : Int32) (s1 : Int32) (s2 : Int32) (s3 : Nat) (h : mx_H) {r : (Int32 × mx_H)} (hf : j_X13_ruled_179 nn rc l0 l1 s0 s1 s2 s3 h = some r) : mx_S X F L 433 179 [(0, .ref l0), (1, .int l1)] [.int s0, .int s1, .int s2, .ref s3] h 0 0 (some (.int r.1), r.2, 0, 0) := by
  have hm : mx_mt 433 = some (yX13_ruled, cX13_ruled, 8, (some .boolean)) := mt_X13_ruled
  unfold j_X13_ruled_179 at hf
  replace hf := mx_gd_el hf; obtain ⟨c130, hf⟩ := hf
  replace hf := mx_sv_el hf; obtain ⟨u131, e_u131, hf⟩ := hf
  refine sx_cv hm dX13_ruled_179 rs_RX13_503 mt_X13_typeOf [.int s2, .int s1, .int s0] [] (b := s3) (ci := 13) rfl rfl rfl c130 (Nat.le_of_ble_eq_true rfl) (Nat.le_of_ble_eq_true rfl) (by omega) (by omega) (f_X13_typeOf_ok X (by omega) (by omega) nn s3 s2 s1 s0 h e_u131) ?_
  clear e_u131
  show mx_S X F L 433 182 [(0, .ref l0), (1, .int l1)] [.int u131.1] u131.2 0 0 (some (.int r.1), r.2, 0, 0)
  refine mx_S.pu (pc2 := 184) (lv2 := [(5, .int u131.1), (0, .ref l0), (1, .int l1)]) (st2 := []) hm dX13_ruled_182 rfl ?_
  refine mx_S.pu (pc2 := 185) (lv2 := [(5, .int u131.1), (0, .ref l0), (1, .int l1)]) (st2 := [.ref l0]) hm dX13_ruled_184 rfl ?_
  refine mx_S.pu (pc2 := 186) (lv2 := [(5, .int u131.1), (0, .ref l0), (1, .int l1)]) (st2 := [.ref l0, .ref l0]) hm dX13_ruled_185 rfl ?_
  replace hf := mx_sv_el hf; obtain ⟨v132, e_v132, hf⟩ := hf
  refine sx_get hm dX13_ruled_186 rs_RX13_31 (xgr_el e_v132) ?_
  clear e_v132
  refine mx_S.pu (pc2 := 190) (lv2 := [(5, .int u131.1), (0, .ref l0), (1, .int l1)]) (st2 := [.int l1, .ref v132, .ref l0]) hm dX13_ruled_189 rfl ?_
  replace hf := mx_sv_el hf; obtain ⟨v133, e_v133, hf⟩ := hf
  refine sx_ald hm dX13_ruled_190 e_v133 ?_
  clear e_v133
  replace hf := mx_gd_el hf; obtain ⟨c134, hf⟩ := hf
  replace hf := mx_sv_el hf; obtain ⟨u135, e_u135, hf⟩ := hf
  refine sx_cv hm dX13_ruled_191 rs_RX13_534 mt_X13_sightOf [.int v133] [] (b := l0) (ci := 13) rfl rfl rfl c134 (Nat.le_of_ble_eq_true rfl) (Nat.le_of_ble_eq_true rfl) (by omega) (by omega) (f_X13_sightOf_ok X (by omega) (by omega) nn l0 v133 u131.2 e_u135) ?_
  clear e_u135
  show mx_S X F L 433 194 [(5, .int u131.1), (0, .ref l0), (1, .int l1)] [.int u135.1] u135.2 0 0 (some (.int r.1), r.2, 0, 0)
  refine sx_ic (v := (-1)) hm dX13_ruled_194 (by decide) ?_
  rcases mx_if_el hf with ⟨c140, hf⟩ | ⟨c140, hf⟩
  · refine sb_ic_eq hm dX13_ruled_195 (tgt := 209) rfl (fun _ => ?_) (fun z => absurd c140 z)
    refine mx_S.ext [(0, .ref l0), (1, .int l1), (5, .int u131.1)] (mx_sub_pos [1, 2, 0] rfl (show ([5, 0, 1] : List Nat).Nodup by decide)) ?_
    exact j_X13_ruled_209_ok X hF hL nn hrc l0 l1 u131.1 u135.2 hf
  · refine sb_ic_eq hm dX13_ruled_195 (tgt := 209) rfl (fun z => absurd z c140) (fun _ => ?_)
    refine mx_S.pu (pc2 := 199) (lv2 := [(5, .int u131.1), (0, .ref l0), (1, .int l1)]) (st2 := [.ref l0]) hm dX13_ruled_198 rfl ?_
    refine sx_ic (v := 4) hm dX13_ruled_199 (by decide) ?_
    refine mx_S.pu (pc2 := 201) (lv2 := [(5, .int u131.1), (0, .ref l0), (1, .int l1)]) (st2 := [.ref l0, .int 4, .ref l0]) hm dX13_ruled_200 rfl ?_
    replace hf := mx_sv_el hf; obtain ⟨v136, e_v136, hf⟩ := hf
    refine sx_get hm dX13_ruled_201 rs_RX13_31 (xgr_el e_v136) ?_
    clear e_v136
    refine mx_S.pu (pc2 := 205) (lv2 := [(5, .int u131.1), (0, .ref l0), (1, .int l1)]) (st2 := [.int l1, .ref v136, .int 4, .ref l0]) hm dX13_ruled_204 rfl ?_
    replace hf := mx_sv_el hf; obtain ⟨v137, e_v137, hf⟩ := hf
    refine sx_ald hm dX13_ruled_205 e_v137 ?_
    clear e_v137
    replace hf := mx_gd_el hf; obtain ⟨c138, hf⟩ := hf
    replace hf := mx_sv_el hf; obtain ⟨u139, e_u139, hf⟩ := hf
    refine sx_cv hm dX13_ruled_206 rs_RX13_379 mt_X13_wrong [.int 4, .int v137] [] (b := l0) (ci := 13) rfl rfl rfl c138 (Nat.le_of_ble_eq_true rfl) (Nat.le_of_ble_eq_true rfl) (by omega) (by omega) (f_X13_wrong_ok X (by omega) (by omega) nn l0 4 v137 u135.2 e_u139) ?_
    clear e_u139
    show mx_S X F L 433 209 [(5, .int u131.1), (0, .ref l0), (1, .int l1)] [] u139 0 0 (some (.int r.1), r.2, 0, 0)
    refine mx_S.ext [(0, .ref l0), (1, .int l1), (5, .int u131.1)] (mx_sub_pos [1, 2, 0] rfl (show ([5, 0, 1] : List Nat).Nodup by decide)) ?_
    exact j_X13_ruled_209_ok X hF hL nn hrc l0 l1 u131.1 u139 hf
set_option maxHeartbeats 4000000 in
set_option maxRecDepth 20000 in
theorem j_X13_ruled_140_ok (X : Nat × (Nat → Int32)) {F L d : Nat} (hF : 1607 + (d + 1) ≤ F) (hL : 43358 + (d + 1) * 27 ≤ L) (nn : Nat) {rc : tg_X13_ruled} (hrc : hg5_X13_ruled X d rc) (l0 : Nat) (l2 : Int32) (l3 : Int32) (h : mx_H) {r : (Int32 × mx_H)} (hf : j_X13_ruled_140 nn rc l0 l2 l3 h = some r) : mx_S X F L 433 140 [(0, .ref l0), (2, .int l2), (3, .int l3)] [] h 0 0 (some (.int r.1), r.2, 0, 0) := by
  have hm : mx_mt 433 = some (yX13_ruled, cX13_ruled, 8, (some .boolean)) := mt_X13_ruled
  unfold j_X13_ruled_140 at hf
  refine mx_S.pu (pc2 := 141) (lv2 := [(0, .ref l0), (2, .int l2), (3, .int l3)]) (st2 := [.ref l0]) hm dX13_ruled_140 rfl ?_
  refine mx_S.pu (pc2 := 142) (lv2 := [(0, .ref l0), (2, .int l2), (3, .int l3)]) (st2 := [.int l2, .ref l0]) hm dX13_ruled_141 rfl ?_
  replace hf := mx_sv_el hf; obtain ⟨h141, e_h141, hf⟩ := hf
  refine sx_put hm dX13_ruled_142 rs_RX13_513 ft_13_50 ⟨rfl, rfl⟩ (fun z => by cases z) e_h141 ?_
  clear e_h141
  refine mx_S.pu (pc2 := 146) (lv2 := [(0, .ref l0), (2, .int l2), (3, .int l3)]) (st2 := [.int l3]) hm dX13_ruled_145 rfl ?_
  replace hf := mx_gd_el hf; obtain ⟨c142, hf⟩ := hf
  cases hf
  exact sx_ire hm dX13_ruled_146 rfl (xbq_ok c142).1
set_option maxHeartbeats 4000000 in
set_option maxRecDepth 20000 in
theorem j_X13_ruled_128_ok (X : Nat × (Nat → Int32)) {F L d : Nat} (hF : 1607 + (d + 1) ≤ F) (hL : 43358 + (d + 1) * 27 ≤ L) (nn : Nat) {rc : tg_X13_ruled} (hrc : hg5_X13_ruled X d rc) {kk_88 : Nat → Int32 → Int32 → Int32 → mx_H → Option (Int32 × mx_H)} (hk_88 : ∀ (l0 : Nat) (l2 : Int32) (l3 : Int32) (l6 : Int32) (h : mx_H) (r : (Int32 × mx_H)), kk_88 l0 l2 l3 l6 h = some r → mx_S X F L 433 88 [(0, .ref l0), (2, .int l2), (3, .int l3), (6, .int l6)] [] h 0 0 (some (.int r.1), r.2, 0, 0)) (l0 : Nat) (l2 : Int32) (l3 : Int32) (l6 : Int32) (h : mx_H) {r : (Int32 × mx_H)} (hf : j_X13_ruled_128 nn rc kk_88 l0 l2 l3 l6 h = some r) : mx_S X F L 433 128 [(0, .ref l0), (2, .int l2), (3, .int l3), (6, .int l6)] [] h 0 0 (some (.int r.1), r.2, 0, 0) := by
  have hm : mx_mt 433 = some (yX13_ruled, cX13_ruled, 8, (some .boolean)) := mt_X13_ruled
  unfold j_X13_ruled_128 at hf
  refine mx_S.pu (pc2 := 129) (lv2 := [(0, .ref l0), (2, .int l2), (3, .int l3), (6, .int l6)]) (st2 := [.ref l0]) hm dX13_ruled_128 rfl ?_
  replace hf := mx_sv_el hf; obtain ⟨v143, e_v143, hf⟩ := hf
  refine sx_get hm dX13_ruled_129 rs_RX13_46 (xgr_el e_v143) ?_
  clear e_v143
  refine mx_S.pu (pc2 := 134) (lv2 := [(0, .ref l0), (2, .int l2), (3, .int l3), (6, .int l6)]) (st2 := [.int l6, .ref v143]) hm dX13_ruled_132 rfl ?_
  replace hf := mx_sv_el hf; obtain ⟨v144, e_v144, hf⟩ := hf
  refine sx_ald hm dX13_ruled_134 e_v144 ?_
  clear e_v144
  refine mx_S.pu (pc2 := 137) (lv2 := [(6, .int v144), (0, .ref l0), (2, .int l2), (3, .int l3)]) (st2 := []) hm dX13_ruled_135 rfl ?_
  refine mx_S.pu (pc2 := 88) (lv2 := [(6, .int v144), (0, .ref l0), (2, .int l2), (3, .int l3)]) (st2 := []) hm dX13_ruled_137 rfl ?_
  refine mx_S.ext [(0, .ref l0), (2, .int l2), (3, .int l3), (6, .int v144)] (mx_sub_pos [1, 2, 3, 0] rfl (show ([6, 0, 2, 3] : List Nat).Nodup by decide)) ?_
  exact hk_88 l0 l2 l3 v144 h _ hf
set_option maxHeartbeats 4000000 in
set_option maxRecDepth 20000 in
theorem w_X13_ruled_88_ok (X : Nat × (Nat → Int32)) {F L d : Nat} (hF : 1607 + (d + 1) ≤ F) (hL : 43358 + (d + 1) * 27 ≤ L) (nn : Nat) {rc : tg_X13_ruled} (hrc : hg5_X13_ruled X d rc) : ∀ (k : Nat) (l0 : Nat) (l2 : Int32) (l3 : Int32) (l6 : Int32) (h : mx_H) (r : (Int32 × mx_H)), w_X13_ruled_88 nn rc k l0 l2 l3 l6 h = some r → mx_S X F L 433 88 [(0, .ref l0), (2, .int l2), (3, .int l3), (6, .int l6)] [] h 0 0 (some (.int r.1), r.2, 0, 0) := by
  have hm : mx_mt 433 = some (yX13_ruled, cX13_ruled, 8, (some .boolean)) := mt_X13_ruled
  intro k
  induction k with
  | zero => intro l0 l2 l3 l6 h r hf; cases hf
  | succ k ih =>
    intro l0 l2 l3 l6 h r hf
    unfold w_X13_ruled_88 at hf
    refine mx_S.pu (pc2 := 90) (lv2 := [(0, .ref l0), (2, .int l2), (3, .int l3), (6, .int l6)]) (st2 := [.int l6]) hm dX13_ruled_88 rfl ?_
    refine sx_ic (v := (-1)) hm dX13_ruled_90 (by decide) ?_
    rcases mx_if_el hf with ⟨c154, hf⟩ | ⟨c154, hf⟩
    · refine sb_ic_eq hm dX13_ruled_91 (tgt := 140) rfl (fun _ => ?_) (fun z => absurd c154 z)
      refine mx_S.ext [(0, .ref l0), (2, .int l2), (3, .int l3)] (mx_sub_pos [0, 1, 2] rfl (show ([0, 2, 3, 6] : List Nat).Nodup by decide)) ?_
      exact j_X13_ruled_140_ok X hF hL nn hrc l0 l2 l3 h hf
    · refine sb_ic_eq hm dX13_ruled_91 (tgt := 140) rfl (fun z => absurd z c154) (fun _ => ?_)
      refine mx_S.pu (pc2 := 95) (lv2 := [(0, .ref l0), (2, .int l2), (3, .int l3), (6, .int l6)]) (st2 := [.ref l0]) hm dX13_ruled_94 rfl ?_
      replace hf := mx_sv_el hf; obtain ⟨v145, e_v145, hf⟩ := hf
      refine sx_get hm dX13_ruled_95 rs_RX13_319 (xgi_el e_v145) ?_
      clear e_v145
      rcases mx_if_el hf with ⟨c153, hf⟩ | ⟨c153, hf⟩
      · refine sb_if_ne hm dX13_ruled_98 (tgt := 140) rfl (fun _ => ?_) (fun z => absurd c153 z)
        refine mx_S.ext [(0, .ref l0), (2, .int l2), (3, .int l3)] (mx_sub_pos [0, 1, 2] rfl (show ([0, 2, 3, 6] : List Nat).Nodup by decide)) ?_
        exact j_X13_ruled_140_ok X hF hL nn hrc l0 l2 l3 h hf
      · refine sb_if_ne hm dX13_ruled_98 (tgt := 140) rfl (fun z => absurd z c153) (fun _ => ?_)
        refine mx_S.pu (pc2 := 102) (lv2 := [(0, .ref l0), (2, .int l2), (3, .int l3), (6, .int l6)]) (st2 := [.int l3]) hm dX13_ruled_101 rfl ?_
        rcases mx_if_el hf with ⟨c152, hf⟩ | ⟨c152, hf⟩
        · refine sb_if_ne hm dX13_ruled_102 (tgt := 121) rfl (fun _ => ?_) (fun z => absurd c152 z)
          refine mx_S.pu (pc2 := 122) (lv2 := [(0, .ref l0), (2, .int l2), (3, .int l3), (6, .int l6)]) (st2 := [.ref l0]) hm dX13_ruled_121 rfl ?_
          refine mx_S.pu (pc2 := 124) (lv2 := [(0, .ref l0), (2, .int l2), (3, .int l3), (6, .int l6)]) (st2 := [.int l6, .ref l0]) hm dX13_ruled_122 rfl ?_
          replace hf := mx_gd_el hf; obtain ⟨c146, hf⟩ := hf
          replace hf := mx_sv_el hf; obtain ⟨u147, e_u147, hf⟩ := hf
          refine sx_cv hm dX13_ruled_124 rs_RX13_531 mt_X13_ruled [.int l6] [] (b := l0) (ci := 13) rfl rfl rfl c146 (Nat.le_of_ble_eq_true rfl) (Nat.le_of_ble_eq_true rfl) (by omega) (by omega) (hrc (by omega) (by omega) l0 l6 h e_u147) ?_
          clear e_u147
          show mx_S X F L 433 127 [(0, .ref l0), (2, .int l2), (3, .int l3), (6, .int l6)] [.int u147.1] u147.2 0 0 (some (.int r.1), r.2, 0, 0)
          refine mx_S.pu (pc2 := 128) (lv2 := [(3, .int u147.1), (0, .ref l0), (2, .int l2), (6, .int l6)]) (st2 := []) hm dX13_ruled_127 rfl ?_
          refine mx_S.ext [(0, .ref l0), (2, .int l2), (3, .int u147.1), (6, .int l6)] (mx_sub_pos [1, 2, 0, 3] rfl (show ([3, 0, 2, 6] : List Nat).Nodup by decide)) ?_
          exact j_X13_ruled_128_ok X hF hL nn hrc ih l0 l2 u147.1 l6 u147.2 hf
        · refine sb_if_ne hm dX13_ruled_102 (tgt := 121) rfl (fun z => absurd z c152) (fun _ => ?_)
          refine mx_S.pu (pc2 := 106) (lv2 := [(0, .ref l0), (2, .int l2), (3, .int l3), (6, .int l6)]) (st2 := [.ref l0]) hm dX13_ruled_105 rfl ?_
          refine sx_bi (v := 9) hm dX13_ruled_106 (by decide) ?_
          refine mx_S.pu (pc2 := 109) (lv2 := [(0, .ref l0), (2, .int l2), (3, .int l3), (6, .int l6)]) (st2 := [.ref l0, .int 9, .ref l0]) hm dX13_ruled_108 rfl ?_
          replace hf := mx_sv_el hf; obtain ⟨v148, e_v148, hf⟩ := hf
          refine sx_get hm dX13_ruled_109 rs_RX13_34 (xgr_el e_v148) ?_
          clear e_v148
          refine mx_S.pu (pc2 := 114) (lv2 := [(0, .ref l0), (2, .int l2), (3, .int l3), (6, .int l6)]) (st2 := [.int l6, .ref v148, .int 9, .ref l0]) hm dX13_ruled_112 rfl ?_
          replace hf := mx_sv_el hf; obtain ⟨v149, e_v149, hf⟩ := hf
          refine sx_ald hm dX13_ruled_114 e_v149 ?_
          clear e_v149
          replace hf := mx_gd_el hf; obtain ⟨c150, hf⟩ := hf
          replace hf := mx_sv_el hf; obtain ⟨u151, e_u151, hf⟩ := hf
          refine sx_cv hm dX13_ruled_115 rs_RX13_379 mt_X13_wrong [.int 9, .int v149] [] (b := l0) (ci := 13) rfl rfl rfl c150 (Nat.le_of_ble_eq_true rfl) (Nat.le_of_ble_eq_true rfl) (by omega) (by omega) (f_X13_wrong_ok X (by omega) (by omega) nn l0 9 v149 h e_u151) ?_
          clear e_u151
          show mx_S X F L 433 118 [(0, .ref l0), (2, .int l2), (3, .int l3), (6, .int l6)] [] u151 0 0 (some (.int r.1), r.2, 0, 0)
          refine mx_S.pu (pc2 := 128) (lv2 := [(0, .ref l0), (2, .int l2), (3, .int l3), (6, .int l6)]) (st2 := []) hm dX13_ruled_118 rfl ?_
          exact j_X13_ruled_128_ok X hF hL nn hrc ih l0 l2 l3 l6 u151 hf
set_option maxHeartbeats 4000000 in
set_option maxRecDepth 20000 in
theorem o_X13_ruled_ok (X : Nat × (Nat → Int32)) {F L d : Nat} (hF : 1607 + (d + 1) ≤ F) (hL : 43358 + (d + 1) * 27 ≤ L) (nn : Nat) {rc : tg_X13_ruled} (hrc : hg5_X13_ruled X d rc) (a0 : Nat) (a1 : Int32) (h : mx_H) {r : (Int32 × mx_H)} (hf : o_X13_ruled nn rc a0 a1 h = some r) : mx_R X F L 433 [.ref a0, .int a1] h (some (.int r.1), r.2, 0, 0) := by
  have hm : mx_mt 433 = some (yX13_ruled, cX13_ruled, 8, (some .boolean)) := mt_X13_ruled
  show mx_S X F L 433 0 [(0, .ref a0), (1, .int a1)] [] h 0 0 (some (.int r.1), r.2, 0, 0)
  unfold o_X13_ruled at hf
  refine mx_S.pu (pc2 := 1) (lv2 := [(0, .ref a0), (1, .int a1)]) (st2 := [.ref a0]) hm dX13_ruled_0 rfl ?_
  replace hf := mx_sv_el hf; obtain ⟨v155, e_v155, hf⟩ := hf
  refine sx_get hm dX13_ruled_1 rs_RX13_319 (xgi_el e_v155) ?_
  clear e_v155
  rcases mx_if_el hf with ⟨c269, hf⟩ | ⟨c269, hf⟩
  · refine sb_if_eq hm dX13_ruled_4 (tgt := 9) rfl (fun _ => ?_) (fun z => absurd c269 z)
    refine mx_S.pu (pc2 := 10) (lv2 := [(0, .ref a0), (1, .int a1)]) (st2 := [.ref a0]) hm dX13_ruled_9 rfl ?_
    replace hf := mx_sv_el hf; obtain ⟨v156, e_v156, hf⟩ := hf
    refine sx_get hm dX13_ruled_10 rs_RX13_513 (xgi_el e_v156) ?_
    clear e_v156
    refine mx_S.pu (pc2 := 14) (lv2 := [(2, .int v156), (0, .ref a0), (1, .int a1)]) (st2 := []) hm dX13_ruled_13 rfl ?_
    refine sx_ic (v := 1) hm dX13_ruled_14 (by decide) ?_
    refine mx_S.pu (pc2 := 16) (lv2 := [(3, .int 1), (2, .int v156), (0, .ref a0), (1, .int a1)]) (st2 := []) hm dX13_ruled_15 rfl ?_
    refine mx_S.pu (pc2 := 17) (lv2 := [(3, .int 1), (2, .int v156), (0, .ref a0), (1, .int a1)]) (st2 := [.ref a0]) hm dX13_ruled_16 rfl ?_
    replace hf := mx_sv_el hf; obtain ⟨v157, e_v157, hf⟩ := hf
    refine sx_get hm dX13_ruled_17 rs_RX13_28 (xgr_el e_v157) ?_
    clear e_v157
    refine mx_S.pu (pc2 := 21) (lv2 := [(3, .int 1), (2, .int v156), (0, .ref a0), (1, .int a1)]) (st2 := [.int a1, .ref v157]) hm dX13_ruled_20 rfl ?_
    replace hf := mx_sv_el hf; obtain ⟨v158, e_v158, hf⟩ := hf
    refine sx_ald hm dX13_ruled_21 e_v158 ?_
    clear e_v158
    rcases mx_if_el hf with ⟨n_0, hf⟩ | ⟨n_0, hf⟩
    · refine sx_tin hm dX13_ruled_22 (by rw [n_0]; decide) (by rw [n_0]; decide) (off := 58) (by rw [n_0]; rfl) (tgt := 80) rfl ?_
      clear n_0
      refine mx_S.pu (pc2 := 81) (lv2 := [(3, .int 1), (2, .int v156), (0, .ref a0), (1, .int a1)]) (st2 := [.ref a0]) hm dX13_ruled_80 rfl ?_
      replace hf := mx_sv_el hf; obtain ⟨v175, e_v175, hf⟩ := hf
      refine sx_get hm dX13_ruled_81 rs_RX13_37 (xgr_el e_v175) ?_
      clear e_v175
      refine mx_S.pu (pc2 := 85) (lv2 := [(3, .int 1), (2, .int v156), (0, .ref a0), (1, .int a1)]) (st2 := [.int a1, .ref v175]) hm dX13_ruled_84 rfl ?_
      replace hf := mx_sv_el hf; obtain ⟨v176, e_v176, hf⟩ := hf
      refine sx_ald hm dX13_ruled_85 e_v176 ?_
      clear e_v176
      refine mx_S.pu (pc2 := 88) (lv2 := [(6, .int v176), (3, .int 1), (2, .int v156), (0, .ref a0), (1, .int a1)]) (st2 := []) hm dX13_ruled_86 rfl ?_
      refine mx_S.ext [(0, .ref a0), (2, .int v156), (3, .int 1), (6, .int v176)] (mx_sub_pos [3, 2, 1, 0] rfl (show ([6, 3, 2, 0, 1] : List Nat).Nodup by decide)) ?_
      exact w_X13_ruled_88_ok X hF hL nn hrc nn a0 v156 1 v176 h _ hf
    · rcases mx_if_el hf with ⟨n_1, hf⟩ | ⟨n_1, hf⟩
      · refine sx_tin hm dX13_ruled_22 (by rw [n_1]; decide) (by rw [n_1]; decide) (off := 125) (by rw [n_1]; rfl) (tgt := 147) rfl ?_
        clear n_0 n_1
        refine mx_S.pu (pc2 := 148) (lv2 := [(3, .int 1), (2, .int v156), (0, .ref a0), (1, .int a1)]) (st2 := [.ref a0]) hm dX13_ruled_147 rfl ?_
        refine mx_S.pu (pc2 := 149) (lv2 := [(3, .int 1), (2, .int v156), (0, .ref a0), (1, .int a1)]) (st2 := [.ref a0, .ref a0]) hm dX13_ruled_148 rfl ?_
        replace hf := mx_sv_el hf; obtain ⟨v177, e_v177, hf⟩ := hf
        refine sx_get hm dX13_ruled_149 rs_RX13_52 (xgr_el e_v177) ?_
        clear e_v177
        refine mx_S.pu (pc2 := 153) (lv2 := [(3, .int 1), (2, .int v156), (0, .ref a0), (1, .int a1)]) (st2 := [.int a1, .ref v177, .ref a0]) hm dX13_ruled_152 rfl ?_
        replace hf := mx_sv_el hf; obtain ⟨v178, e_v178, hf⟩ := hf
        refine sx_ald hm dX13_ruled_153 e_v178 ?_
        clear e_v178
        refine mx_S.pu (pc2 := 155) (lv2 := [(3, .int 1), (2, .int v156), (0, .ref a0), (1, .int a1)]) (st2 := [.ref a0, .int v178, .ref a0]) hm dX13_ruled_154 rfl ?_
        replace hf := mx_sv_el hf; obtain ⟨v179, e_v179, hf⟩ := hf
        refine sx_get hm dX13_ruled_155 rs_RX13_43 (xgr_el e_v179) ?_
        clear e_v179
        refine mx_S.pu (pc2 := 159) (lv2 := [(3, .int 1), (2, .int v156), (0, .ref a0), (1, .int a1)]) (st2 := [.int a1, .ref v179, .int v178, .ref a0]) hm dX13_ruled_158 rfl ?_
        replace hf := mx_sv_el hf; obtain ⟨v180, e_v180, hf⟩ := hf
        refine sx_ald hm dX13_ruled_159 e_v180 ?_
        clear e_v180
        refine sx_ic (v := 4) hm dX13_ruled_160 (by decide) ?_
        replace hf := xl_el hf; obtain ⟨v181, e_v181, hf⟩ := hf
        refine sx_idiv (v := v181) hm dX13_ruled_161 (by decide) e_v181 ?_
        clear e_v181
        refine mx_S.pu (pc2 := 163) (lv2 := [(3, .int 1), (2, .int v156), (0, .ref a0), (1, .int a1)]) (st2 := [.ref a0, .int v181, .int v178, .ref a0]) hm dX13_ruled_162 rfl ?_
        replace hf := mx_sv_el hf; obtain ⟨v182, e_v182, hf⟩ := hf
        refine sx_get hm dX13_ruled_163 rs_RX13_43 (xgr_el e_v182) ?_
        clear e_v182
        refine mx_S.pu (pc2 := 167) (lv2 := [(3, .int 1), (2, .int v156), (0, .ref a0), (1, .int a1)]) (st2 := [.int a1, .ref v182, .int v181, .int v178, .ref a0]) hm dX13_ruled_166 rfl ?_
        replace hf := mx_sv_el hf; obtain ⟨v183, e_v183, hf⟩ := hf
        refine sx_ald hm dX13_ruled_167 e_v183 ?_
        clear e_v183
        refine sx_ic (v := 4) hm dX13_ruled_168 (by decide) ?_
        replace hf := xl_el hf; obtain ⟨v184, e_v184, hf⟩ := hf
        refine sx_irem (v := v184) hm dX13_ruled_169 (by decide) e_v184 ?_
        clear e_v184
        refine sx_ic (v := 2) hm dX13_ruled_170 (by decide) ?_
        rcases mx_if_el hf with ⟨c185, hf⟩ | ⟨c185, hf⟩
        · refine sb_ic_ne hm dX13_ruled_171 (tgt := 178) rfl (fun _ => ?_) (fun z => absurd c185 z)
          refine sx_ic (v := 0) hm dX13_ruled_178 (by decide) ?_
          refine mx_S.ext [(0, .ref a0), (1, .int a1)] (mx_sub_pos [2, 3] rfl (show ([3, 2, 0, 1] : List Nat).Nodup by decide)) ?_
          exact j_X13_ruled_179_ok X hF hL nn hrc a0 a1 0 v181 v178 a0 h hf
        · refine sb_ic_ne hm dX13_ruled_171 (tgt := 178) rfl (fun z => absurd z c185) (fun _ => ?_)
          refine sx_ic (v := 1) hm dX13_ruled_174 (by decide) ?_
          refine mx_S.pu (pc2 := 179) (lv2 := [(3, .int 1), (2, .int v156), (0, .ref a0), (1, .int a1)]) (st2 := [.int 1, .int v181, .int v178, .ref a0]) hm dX13_ruled_175 rfl ?_
          refine mx_S.ext [(0, .ref a0), (1, .int a1)] (mx_sub_pos [2, 3] rfl (show ([3, 2, 0, 1] : List Nat).Nodup by decide)) ?_
          exact j_X13_ruled_179_ok X hF hL nn hrc a0 a1 1 v181 v178 a0 h hf
      · rcases mx_if_el hf with ⟨n_2, hf⟩ | ⟨n_2, hf⟩
        · refine sx_tin hm dX13_ruled_22 (by rw [n_2]; decide) (by rw [n_2]; decide) (off := 244) (by rw [n_2]; rfl) (tgt := 266) rfl ?_
          clear n_0 n_1 n_2
          refine mx_S.pu (pc2 := 267) (lv2 := [(3, .int 1), (2, .int v156), (0, .ref a0), (1, .int a1)]) (st2 := [.ref a0]) hm dX13_ruled_266 rfl ?_
          refine mx_S.pu (pc2 := 268) (lv2 := [(3, .int 1), (2, .int v156), (0, .ref a0), (1, .int a1)]) (st2 := [.ref a0, .ref a0]) hm dX13_ruled_267 rfl ?_
          replace hf := mx_sv_el hf; obtain ⟨v186, e_v186, hf⟩ := hf
          refine sx_get hm dX13_ruled_268 rs_RX13_37 (xgr_el e_v186) ?_
          clear e_v186
          refine mx_S.pu (pc2 := 272) (lv2 := [(3, .int 1), (2, .int v156), (0, .ref a0), (1, .int a1)]) (st2 := [.int a1, .ref v186, .ref a0]) hm dX13_ruled_271 rfl ?_
          replace hf := mx_sv_el hf; obtain ⟨v187, e_v187, hf⟩ := hf
          refine sx_ald hm dX13_ruled_272 e_v187 ?_
          clear e_v187
          replace hf := mx_gd_el hf; obtain ⟨c188, hf⟩ := hf
          replace hf := mx_sv_el hf; obtain ⟨u189, e_u189, hf⟩ := hf
          refine sx_cv hm dX13_ruled_273 rs_RX13_540 mt_X13_condition [.int v187] [] (b := a0) (ci := 13) rfl rfl rfl c188 (Nat.le_of_ble_eq_true rfl) (Nat.le_of_ble_eq_true rfl) (by omega) (by omega) (f_X13_condition_ok X (by omega) (by omega) nn a0 v187 h e_u189) ?_
          clear e_u189
          show mx_S X F L 433 276 [(3, .int 1), (2, .int v156), (0, .ref a0), (1, .int a1)] [] u189 0 0 (some (.int r.1), r.2, 0, 0)
          refine mx_S.pu (pc2 := 277) (lv2 := [(3, .int 1), (2, .int v156), (0, .ref a0), (1, .int a1)]) (st2 := [.ref a0]) hm dX13_ruled_276 rfl ?_
          refine mx_S.pu (pc2 := 278) (lv2 := [(3, .int 1), (2, .int v156), (0, .ref a0), (1, .int a1)]) (st2 := [.ref a0, .ref a0]) hm dX13_ruled_277 rfl ?_
          replace hf := mx_sv_el hf; obtain ⟨v190, e_v190, hf⟩ := hf
          refine sx_get hm dX13_ruled_278 rs_RX13_40 (xgr_el e_v190) ?_
          clear e_v190
          refine mx_S.pu (pc2 := 282) (lv2 := [(3, .int 1), (2, .int v156), (0, .ref a0), (1, .int a1)]) (st2 := [.int a1, .ref v190, .ref a0]) hm dX13_ruled_281 rfl ?_
          replace hf := mx_sv_el hf; obtain ⟨v191, e_v191, hf⟩ := hf
          refine sx_ald hm dX13_ruled_282 e_v191 ?_
          clear e_v191
          replace hf := mx_gd_el hf; obtain ⟨c192, hf⟩ := hf
          replace hf := mx_sv_el hf; obtain ⟨u193, e_u193, hf⟩ := hf
          refine sx_cv hm dX13_ruled_283 rs_RX13_531 mt_X13_ruled [.int v191] [] (b := a0) (ci := 13) rfl rfl rfl c192 (Nat.le_of_ble_eq_true rfl) (Nat.le_of_ble_eq_true rfl) (by omega) (by omega) (hrc (by omega) (by omega) a0 v191 u189 e_u193) ?_
          clear e_u193
          show mx_S X F L 433 286 [(3, .int 1), (2, .int v156), (0, .ref a0), (1, .int a1)] [.int u193.1] u193.2 0 0 (some (.int r.1), r.2, 0, 0)
          refine mx_S.pu (pc2 := 287) (lv2 := [(3, .int u193.1), (2, .int v156), (0, .ref a0), (1, .int a1)]) (st2 := []) hm dX13_ruled_286 rfl ?_
          refine mx_S.pu (pc2 := 288) (lv2 := [(3, .int u193.1), (2, .int v156), (0, .ref a0), (1, .int a1)]) (st2 := [.ref a0]) hm dX13_ruled_287 rfl ?_
          refine mx_S.pu (pc2 := 289) (lv2 := [(3, .int u193.1), (2, .int v156), (0, .ref a0), (1, .int a1)]) (st2 := [.int v156, .ref a0]) hm dX13_ruled_288 rfl ?_
          replace hf := mx_sv_el hf; obtain ⟨h194, e_h194, hf⟩ := hf
          refine sx_put hm dX13_ruled_289 rs_RX13_513 ft_13_50 ⟨rfl, rfl⟩ (fun z => by cases z) e_h194 ?_
          clear e_h194
          refine mx_S.pu (pc2 := 293) (lv2 := [(3, .int u193.1), (2, .int v156), (0, .ref a0), (1, .int a1)]) (st2 := [.ref a0]) hm dX13_ruled_292 rfl ?_
          replace hf := mx_sv_el hf; obtain ⟨v195, e_v195, hf⟩ := hf
          refine sx_get hm dX13_ruled_293 rs_RX13_43 (xgr_el e_v195) ?_
          clear e_v195
          refine mx_S.pu (pc2 := 297) (lv2 := [(3, .int u193.1), (2, .int v156), (0, .ref a0), (1, .int a1)]) (st2 := [.int a1, .ref v195]) hm dX13_ruled_296 rfl ?_
          replace hf := mx_sv_el hf; obtain ⟨v196, e_v196, hf⟩ := hf
          refine sx_ald hm dX13_ruled_297 e_v196 ?_
          clear e_v196
          refine sx_ic (v := (-1)) hm dX13_ruled_298 (by decide) ?_
          rcases mx_if_el hf with ⟨c204, hf⟩ | ⟨c204, hf⟩
          · refine sb_ic_ne hm dX13_ruled_299 (tgt := 304) rfl (fun _ => ?_) (fun z => absurd c204 z)
            refine mx_S.pu (pc2 := 305) (lv2 := [(3, .int u193.1), (2, .int v156), (0, .ref a0), (1, .int a1)]) (st2 := [.ref a0]) hm dX13_ruled_304 rfl ?_
            refine mx_S.pu (pc2 := 306) (lv2 := [(3, .int u193.1), (2, .int v156), (0, .ref a0), (1, .int a1)]) (st2 := [.ref a0, .ref a0]) hm dX13_ruled_305 rfl ?_
            replace hf := mx_sv_el hf; obtain ⟨v197, e_v197, hf⟩ := hf
            refine sx_get hm dX13_ruled_306 rs_RX13_43 (xgr_el e_v197) ?_
            clear e_v197
            refine mx_S.pu (pc2 := 310) (lv2 := [(3, .int u193.1), (2, .int v156), (0, .ref a0), (1, .int a1)]) (st2 := [.int a1, .ref v197, .ref a0]) hm dX13_ruled_309 rfl ?_
            replace hf := mx_sv_el hf; obtain ⟨v198, e_v198, hf⟩ := hf
            refine sx_ald hm dX13_ruled_310 e_v198 ?_
            clear e_v198
            replace hf := mx_gd_el hf; obtain ⟨c199, hf⟩ := hf
            replace hf := mx_sv_el hf; obtain ⟨u200, e_u200, hf⟩ := hf
            refine sx_cv hm dX13_ruled_311 rs_RX13_531 mt_X13_ruled [.int v198] [] (b := a0) (ci := 13) rfl rfl rfl c199 (Nat.le_of_ble_eq_true rfl) (Nat.le_of_ble_eq_true rfl) (by omega) (by omega) (hrc (by omega) (by omega) a0 v198 h194 e_u200) ?_
            clear e_u200
            show mx_S X F L 433 314 [(3, .int u193.1), (2, .int v156), (0, .ref a0), (1, .int a1)] [.int u200.1] u200.2 0 0 (some (.int r.1), r.2, 0, 0)
            refine mx_S.pu (pc2 := 316) (lv2 := [(4, .int u200.1), (3, .int u193.1), (2, .int v156), (0, .ref a0), (1, .int a1)]) (st2 := []) hm dX13_ruled_314 rfl ?_
            refine mx_S.pu (pc2 := 317) (lv2 := [(4, .int u200.1), (3, .int u193.1), (2, .int v156), (0, .ref a0), (1, .int a1)]) (st2 := [.ref a0]) hm dX13_ruled_316 rfl ?_
            refine mx_S.pu (pc2 := 318) (lv2 := [(4, .int u200.1), (3, .int u193.1), (2, .int v156), (0, .ref a0), (1, .int a1)]) (st2 := [.int v156, .ref a0]) hm dX13_ruled_317 rfl ?_
            replace hf := mx_sv_el hf; obtain ⟨h201, e_h201, hf⟩ := hf
            refine sx_put hm dX13_ruled_318 rs_RX13_513 ft_13_50 ⟨rfl, rfl⟩ (fun z => by cases z) e_h201 ?_
            clear e_h201
            refine mx_S.pu (pc2 := 322) (lv2 := [(4, .int u200.1), (3, .int u193.1), (2, .int v156), (0, .ref a0), (1, .int a1)]) (st2 := [.int u193.1]) hm dX13_ruled_321 rfl ?_
            rcases mx_if_el hf with ⟨c203, hf⟩ | ⟨c203, hf⟩
            · refine sb_if_ne hm dX13_ruled_322 (tgt := 330) rfl (fun _ => ?_) (fun z => absurd c203 z)
              refine sx_ic (v := 1) hm dX13_ruled_330 (by decide) ?_
              refine mx_S.pu (pc2 := 335) (lv2 := [(4, .int u200.1), (3, .int u193.1), (2, .int v156), (0, .ref a0), (1, .int a1)]) (st2 := [.int 1]) hm dX13_ruled_331 rfl ?_
              cases hf
              exact sx_ire hm dX13_ruled_335 rfl (by decide)
            · refine sb_if_ne hm dX13_ruled_322 (tgt := 330) rfl (fun z => absurd z c203) (fun _ => ?_)
              refine mx_S.pu (pc2 := 327) (lv2 := [(4, .int u200.1), (3, .int u193.1), (2, .int v156), (0, .ref a0), (1, .int a1)]) (st2 := [.int u200.1]) hm dX13_ruled_325 rfl ?_
              rcases mx_if_el hf with ⟨c202, hf⟩ | ⟨c202, hf⟩
              · refine sb_if_eq hm dX13_ruled_327 (tgt := 334) rfl (fun _ => ?_) (fun z => absurd c202 z)
                refine sx_ic (v := 0) hm dX13_ruled_334 (by decide) ?_
                cases hf
                exact sx_ire hm dX13_ruled_335 rfl (by decide)
              · refine sb_if_eq hm dX13_ruled_327 (tgt := 334) rfl (fun z => absurd z c202) (fun _ => ?_)
                refine sx_ic (v := 1) hm dX13_ruled_330 (by decide) ?_
                refine mx_S.pu (pc2 := 335) (lv2 := [(4, .int u200.1), (3, .int u193.1), (2, .int v156), (0, .ref a0), (1, .int a1)]) (st2 := [.int 1]) hm dX13_ruled_331 rfl ?_
                cases hf
                exact sx_ire hm dX13_ruled_335 rfl (by decide)
          · refine sb_ic_ne hm dX13_ruled_299 (tgt := 304) rfl (fun z => absurd z c204) (fun _ => ?_)
            refine sx_ic (v := 1) hm dX13_ruled_302 (by decide) ?_
            cases hf
            exact sx_ire hm dX13_ruled_303 rfl (by decide)
        · rcases mx_if_el hf with ⟨n_3, hf⟩ | ⟨n_3, hf⟩
          · refine sx_tin hm dX13_ruled_22 (by rw [n_3]; decide) (by rw [n_3]; decide) (off := 314) (by rw [n_3]; rfl) (tgt := 336) rfl ?_
            clear n_0 n_1 n_2 n_3
            refine mx_S.pu (pc2 := 337) (lv2 := [(3, .int 1), (2, .int v156), (0, .ref a0), (1, .int a1)]) (st2 := [.ref a0]) hm dX13_ruled_336 rfl ?_
            refine mx_S.pu (pc2 := 338) (lv2 := [(3, .int 1), (2, .int v156), (0, .ref a0), (1, .int a1)]) (st2 := [.ref a0, .ref a0]) hm dX13_ruled_337 rfl ?_
            replace hf := mx_sv_el hf; obtain ⟨v205, e_v205, hf⟩ := hf
            refine sx_get hm dX13_ruled_338 rs_RX13_37 (xgr_el e_v205) ?_
            clear e_v205
            refine mx_S.pu (pc2 := 342) (lv2 := [(3, .int 1), (2, .int v156), (0, .ref a0), (1, .int a1)]) (st2 := [.int a1, .ref v205, .ref a0]) hm dX13_ruled_341 rfl ?_
            replace hf := mx_sv_el hf; obtain ⟨v206, e_v206, hf⟩ := hf
            refine sx_ald hm dX13_ruled_342 e_v206 ?_
            clear e_v206
            replace hf := mx_gd_el hf; obtain ⟨c207, hf⟩ := hf
            replace hf := mx_sv_el hf; obtain ⟨u208, e_u208, hf⟩ := hf
            refine sx_cv hm dX13_ruled_343 rs_RX13_540 mt_X13_condition [.int v206] [] (b := a0) (ci := 13) rfl rfl rfl c207 (Nat.le_of_ble_eq_true rfl) (Nat.le_of_ble_eq_true rfl) (by omega) (by omega) (f_X13_condition_ok X (by omega) (by omega) nn a0 v206 h e_u208) ?_
            clear e_u208
            show mx_S X F L 433 346 [(3, .int 1), (2, .int v156), (0, .ref a0), (1, .int a1)] [] u208 0 0 (some (.int r.1), r.2, 0, 0)
            refine mx_S.pu (pc2 := 347) (lv2 := [(3, .int 1), (2, .int v156), (0, .ref a0), (1, .int a1)]) (st2 := [.ref a0]) hm dX13_ruled_346 rfl ?_
            refine mx_S.pu (pc2 := 348) (lv2 := [(3, .int 1), (2, .int v156), (0, .ref a0), (1, .int a1)]) (st2 := [.ref a0, .ref a0]) hm dX13_ruled_347 rfl ?_
            replace hf := mx_sv_el hf; obtain ⟨v209, e_v209, hf⟩ := hf
            refine sx_get hm dX13_ruled_348 rs_RX13_522 (xgi_el e_v209) ?_
            clear e_v209
            refine sx_ic (v := 1) hm dX13_ruled_351 (by decide) ?_
            replace hf := xl_el hf; obtain ⟨v210, e_v210, hf⟩ := hf
            refine mx_S.pu (pc2 := 353) (lv2 := [(3, .int 1), (2, .int v156), (0, .ref a0), (1, .int a1)]) (st2 := [.int v210, .ref a0]) hm dX13_ruled_352 (by rw [← e_v210]; rfl) ?_
            clear e_v210
            replace hf := mx_sv_el hf; obtain ⟨h211, e_h211, hf⟩ := hf
            refine sx_put hm dX13_ruled_353 rs_RX13_522 ft_13_54 ⟨rfl, rfl⟩ (fun z => by cases z) e_h211 ?_
            clear e_h211
            refine mx_S.pu (pc2 := 357) (lv2 := [(3, .int 1), (2, .int v156), (0, .ref a0), (1, .int a1)]) (st2 := [.ref a0]) hm dX13_ruled_356 rfl ?_
            replace hf := mx_sv_el hf; obtain ⟨v212, e_v212, hf⟩ := hf
            refine sx_get hm dX13_ruled_357 rs_RX13_122 (xgr_el e_v212) ?_
            clear e_v212
            refine mx_S.pu (pc2 := 361) (lv2 := [(3, .int 1), (2, .int v156), (0, .ref a0), (1, .int a1)]) (st2 := [.ref a0, .ref v212]) hm dX13_ruled_360 rfl ?_
            replace hf := mx_sv_el hf; obtain ⟨v213, e_v213, hf⟩ := hf
            refine sx_get hm dX13_ruled_361 rs_RX13_522 (xgi_el e_v213) ?_
            clear e_v213
            refine sx_ic (v := 0) hm dX13_ruled_364 (by decide) ?_
            replace hf := mx_sv_el hf; obtain ⟨h214, e_h214, hf⟩ := hf
            refine sx_bst hm dX13_ruled_365 e_h214 ?_
            clear e_h214
            refine mx_S.pu (pc2 := 367) (lv2 := [(3, .int 1), (2, .int v156), (0, .ref a0), (1, .int a1)]) (st2 := [.ref a0]) hm dX13_ruled_366 rfl ?_
            refine mx_S.pu (pc2 := 368) (lv2 := [(3, .int 1), (2, .int v156), (0, .ref a0), (1, .int a1)]) (st2 := [.ref a0, .ref a0]) hm dX13_ruled_367 rfl ?_
            replace hf := mx_sv_el hf; obtain ⟨v215, e_v215, hf⟩ := hf
            refine sx_get hm dX13_ruled_368 rs_RX13_40 (xgr_el e_v215) ?_
            clear e_v215
            refine mx_S.pu (pc2 := 372) (lv2 := [(3, .int 1), (2, .int v156), (0, .ref a0), (1, .int a1)]) (st2 := [.int a1, .ref v215, .ref a0]) hm dX13_ruled_371 rfl ?_
            replace hf := mx_sv_el hf; obtain ⟨v216, e_v216, hf⟩ := hf
            refine sx_ald hm dX13_ruled_372 e_v216 ?_
            clear e_v216
            replace hf := mx_gd_el hf; obtain ⟨c217, hf⟩ := hf
            replace hf := mx_sv_el hf; obtain ⟨u218, e_u218, hf⟩ := hf
            refine sx_cv hm dX13_ruled_373 rs_RX13_531 mt_X13_ruled [.int v216] [] (b := a0) (ci := 13) rfl rfl rfl c217 (Nat.le_of_ble_eq_true rfl) (Nat.le_of_ble_eq_true rfl) (by omega) (by omega) (hrc (by omega) (by omega) a0 v216 h214 e_u218) ?_
            clear e_u218
            show mx_S X F L 433 376 [(3, .int 1), (2, .int v156), (0, .ref a0), (1, .int a1)] [.int u218.1] u218.2 0 0 (some (.int r.1), r.2, 0, 0)
            refine mx_S.pu (pc2 := 377) (lv2 := [(3, .int 1), (2, .int v156), (0, .ref a0), (1, .int a1)]) (st2 := []) hm dX13_ruled_376 rfl ?_
            refine mx_S.ext [(0, .ref a0), (1, .int a1), (2, .int v156)] (mx_sub_pos [2, 3, 1] rfl (show ([3, 2, 0, 1] : List Nat).Nodup by decide)) ?_
            exact j_X13_ruled_377_ok X hF hL nn hrc a0 a1 v156 u218.2 hf
          · rcases mx_if_el hf with ⟨n_4, hf⟩ | ⟨n_4, hf⟩
            · refine sx_tin hm dX13_ruled_22 (by rw [n_4]; decide) (by rw [n_4]; decide) (off := 422) (by rw [n_4]; rfl) (tgt := 444) rfl ?_
              clear n_0 n_1 n_2 n_3 n_4
              refine mx_S.ext [(0, .ref a0), (1, .int a1)] (mx_sub_pos [2, 3] rfl (show ([3, 2, 0, 1] : List Nat).Nodup by decide)) ?_
              exact j_X13_ruled_444_ok X hF hL nn hrc a0 a1 h hf
            · rcases mx_if_el hf with ⟨n_5, hf⟩ | ⟨n_5, hf⟩
              · refine sx_tin hm dX13_ruled_22 (by rw [n_5]; decide) (by rw [n_5]; decide) (off := 422) (by rw [n_5]; rfl) (tgt := 444) rfl ?_
                clear n_0 n_1 n_2 n_3 n_4 n_5
                refine mx_S.ext [(0, .ref a0), (1, .int a1)] (mx_sub_pos [2, 3] rfl (show ([3, 2, 0, 1] : List Nat).Nodup by decide)) ?_
                exact j_X13_ruled_444_ok X hF hL nn hrc a0 a1 h hf
              · rcases mx_if_el hf with ⟨n_6, hf⟩ | ⟨n_6, hf⟩
                · refine sx_tin hm dX13_ruled_22 (by rw [n_6]; decide) (by rw [n_6]; decide) (off := 466) (by rw [n_6]; rfl) (tgt := 488) rfl ?_
                  clear n_0 n_1 n_2 n_3 n_4 n_5 n_6
                  refine mx_S.pu (pc2 := 489) (lv2 := [(3, .int 1), (2, .int v156), (0, .ref a0), (1, .int a1)]) (st2 := [.ref a0]) hm dX13_ruled_488 rfl ?_
                  replace hf := mx_sv_el hf; obtain ⟨v219, e_v219, hf⟩ := hf
                  refine sx_get hm dX13_ruled_489 rs_RX13_37 (xgr_el e_v219) ?_
                  clear e_v219
                  refine mx_S.pu (pc2 := 493) (lv2 := [(3, .int 1), (2, .int v156), (0, .ref a0), (1, .int a1)]) (st2 := [.int a1, .ref v219]) hm dX13_ruled_492 rfl ?_
                  replace hf := mx_sv_el hf; obtain ⟨v220, e_v220, hf⟩ := hf
                  refine sx_ald hm dX13_ruled_493 e_v220 ?_
                  clear e_v220
                  refine sx_ic (v := (-1)) hm dX13_ruled_494 (by decide) ?_
                  rcases mx_if_el hf with ⟨c221, hf⟩ | ⟨c221, hf⟩
                  · refine sb_ic_ne hm dX13_ruled_495 (tgt := 502) rfl (fun _ => ?_) (fun z => absurd c221 z)
                    refine sx_ic (v := 0) hm dX13_ruled_502 (by decide) ?_
                    refine mx_S.ext [(0, .ref a0), (1, .int a1)] (mx_sub_pos [2, 3] rfl (show ([3, 2, 0, 1] : List Nat).Nodup by decide)) ?_
                    exact j_X13_ruled_503_ok X hF hL nn hrc a0 a1 0 h hf
                  · refine sb_ic_ne hm dX13_ruled_495 (tgt := 502) rfl (fun z => absurd z c221) (fun _ => ?_)
                    refine sx_ic (v := 1) hm dX13_ruled_498 (by decide) ?_
                    refine mx_S.pu (pc2 := 503) (lv2 := [(3, .int 1), (2, .int v156), (0, .ref a0), (1, .int a1)]) (st2 := [.int 1]) hm dX13_ruled_499 rfl ?_
                    refine mx_S.ext [(0, .ref a0), (1, .int a1)] (mx_sub_pos [2, 3] rfl (show ([3, 2, 0, 1] : List Nat).Nodup by decide)) ?_
                    exact j_X13_ruled_503_ok X hF hL nn hrc a0 a1 1 h hf
                · rcases mx_if_el hf with ⟨n_7, hf⟩ | ⟨n_7, hf⟩
                  · refine sx_tin hm dX13_ruled_22 (by rw [n_7]; decide) (by rw [n_7]; decide) (off := 564) (by rw [n_7]; rfl) (tgt := 586) rfl ?_
                    clear n_0 n_1 n_2 n_3 n_4 n_5 n_6 n_7
                    refine mx_S.pu (pc2 := 587) (lv2 := [(3, .int 1), (2, .int v156), (0, .ref a0), (1, .int a1)]) (st2 := [.ref a0]) hm dX13_ruled_586 rfl ?_
                    refine mx_S.pu (pc2 := 588) (lv2 := [(3, .int 1), (2, .int v156), (0, .ref a0), (1, .int a1)]) (st2 := [.ref a0, .ref a0]) hm dX13_ruled_587 rfl ?_
                    replace hf := mx_sv_el hf; obtain ⟨v222, e_v222, hf⟩ := hf
                    refine sx_get hm dX13_ruled_588 rs_RX13_37 (xgr_el e_v222) ?_
                    clear e_v222
                    refine mx_S.pu (pc2 := 592) (lv2 := [(3, .int 1), (2, .int v156), (0, .ref a0), (1, .int a1)]) (st2 := [.int a1, .ref v222, .ref a0]) hm dX13_ruled_591 rfl ?_
                    replace hf := mx_sv_el hf; obtain ⟨v223, e_v223, hf⟩ := hf
                    refine sx_ald hm dX13_ruled_592 e_v223 ?_
                    clear e_v223
                    replace hf := mx_gd_el hf; obtain ⟨c224, hf⟩ := hf
                    replace hf := mx_sv_el hf; obtain ⟨u225, e_u225, hf⟩ := hf
                    refine sx_cv hm dX13_ruled_593 rs_RX13_537 mt_X13_given [.int v223] [] (b := a0) (ci := 13) rfl rfl rfl c224 (Nat.le_of_ble_eq_true rfl) (Nat.le_of_ble_eq_true rfl) (by omega) (by omega) (f_X13_given_ok X (by omega) (by omega) nn a0 v223 h e_u225) ?_
                    clear e_u225
                    show mx_S X F L 433 596 [(3, .int 1), (2, .int v156), (0, .ref a0), (1, .int a1)] [.int u225.1] u225.2 0 0 (some (.int r.1), r.2, 0, 0)
                    refine mx_S.pu (pc2 := 598) (lv2 := [(5, .int u225.1), (3, .int 1), (2, .int v156), (0, .ref a0), (1, .int a1)]) (st2 := []) hm dX13_ruled_596 rfl ?_
                    refine mx_S.pu (pc2 := 600) (lv2 := [(5, .int u225.1), (3, .int 1), (2, .int v156), (0, .ref a0), (1, .int a1)]) (st2 := [.int u225.1]) hm dX13_ruled_598 rfl ?_
                    replace hf := mx_sv_el hf; obtain ⟨u226, e_u226, hf⟩ := hf
                    refine sx_cs hm dX13_ruled_600 rs_RX13_543 mt_X13_isThing [.int u225.1] [] rfl rfl (Nat.le_of_ble_eq_true rfl) (Nat.le_of_ble_eq_true rfl) (by omega) (by omega) (f_X13_isThing_ok X (by omega) (by omega) nn u225.1 u225.2 e_u226) ?_
                    clear e_u226
                    show mx_S X F L 433 603 [(5, .int u225.1), (3, .int 1), (2, .int v156), (0, .ref a0), (1, .int a1)] [.int u226.1] u226.2 0 0 (some (.int r.1), r.2, 0, 0)
                    rcases mx_if_el hf with ⟨c230, hf⟩ | ⟨c230, hf⟩
                    · refine sb_if_eq hm dX13_ruled_603 (tgt := 617) rfl (fun _ => ?_) (fun z => absurd c230 z)
                      refine mx_S.ext [(0, .ref a0), (1, .int a1)] (mx_sub_pos [3, 4] rfl (show ([5, 3, 2, 0, 1] : List Nat).Nodup by decide)) ?_
                      exact j_X13_ruled_617_ok X hF hL nn hrc a0 a1 u226.2 hf
                    · refine sb_if_eq hm dX13_ruled_603 (tgt := 617) rfl (fun z => absurd z c230) (fun _ => ?_)
                      refine mx_S.pu (pc2 := 607) (lv2 := [(5, .int u225.1), (3, .int 1), (2, .int v156), (0, .ref a0), (1, .int a1)]) (st2 := [.ref a0]) hm dX13_ruled_606 rfl ?_
                      refine mx_S.pu (pc2 := 609) (lv2 := [(5, .int u225.1), (3, .int 1), (2, .int v156), (0, .ref a0), (1, .int a1)]) (st2 := [.int u225.1, .ref a0]) hm dX13_ruled_607 rfl ?_
                      refine sx_bi (v := 10) hm dX13_ruled_609 (by decide) ?_
                      replace hf := mx_gd_el hf; obtain ⟨c227, hf⟩ := hf
                      replace hf := mx_sv_el hf; obtain ⟨u228, e_u228, hf⟩ := hf
                      refine sx_cv hm dX13_ruled_611 rs_RX13_491 mt_X13_fits [.int u225.1, .int 10] [] (b := a0) (ci := 13) rfl rfl rfl c227 (Nat.le_of_ble_eq_true rfl) (Nat.le_of_ble_eq_true rfl) (by omega) (by omega) (f_X13_fits_ok X (by omega) (by omega) nn a0 u225.1 10 u226.2 e_u228) ?_
                      clear e_u228
                      show mx_S X F L 433 614 [(5, .int u225.1), (3, .int 1), (2, .int v156), (0, .ref a0), (1, .int a1)] [.int u228.1] u228.2 0 0 (some (.int r.1), r.2, 0, 0)
                      rcases mx_if_el hf with ⟨c229, hf⟩ | ⟨c229, hf⟩
                      · refine sb_if_ne hm dX13_ruled_614 (tgt := 629) rfl (fun _ => ?_) (fun z => absurd c229 z)
                        refine sx_ic (v := 0) hm dX13_ruled_629 (by decide) ?_
                        cases hf
                        exact sx_ire hm dX13_ruled_630 rfl (by decide)
                      · refine sb_if_ne hm dX13_ruled_614 (tgt := 629) rfl (fun z => absurd z c229) (fun _ => ?_)
                        refine mx_S.ext [(0, .ref a0), (1, .int a1)] (mx_sub_pos [3, 4] rfl (show ([5, 3, 2, 0, 1] : List Nat).Nodup by decide)) ?_
                        exact j_X13_ruled_617_ok X hF hL nn hrc a0 a1 u228.2 hf
                  · rcases mx_if_el hf with ⟨n_8, hf⟩ | ⟨n_8, hf⟩
                    · refine sx_tin hm dX13_ruled_22 (by rw [n_8]; decide) (by rw [n_8]; decide) (off := 609) (by rw [n_8]; rfl) (tgt := 631) rfl ?_
                      clear n_0 n_1 n_2 n_3 n_4 n_5 n_6 n_7 n_8
                      refine mx_S.pu (pc2 := 632) (lv2 := [(3, .int 1), (2, .int v156), (0, .ref a0), (1, .int a1)]) (st2 := [.ref a0]) hm dX13_ruled_631 rfl ?_
                      refine mx_S.pu (pc2 := 633) (lv2 := [(3, .int 1), (2, .int v156), (0, .ref a0), (1, .int a1)]) (st2 := [.ref a0, .ref a0]) hm dX13_ruled_632 rfl ?_
                      replace hf := mx_sv_el hf; obtain ⟨v231, e_v231, hf⟩ := hf
                      refine sx_get hm dX13_ruled_633 rs_RX13_37 (xgr_el e_v231) ?_
                      clear e_v231
                      refine mx_S.pu (pc2 := 637) (lv2 := [(3, .int 1), (2, .int v156), (0, .ref a0), (1, .int a1)]) (st2 := [.int a1, .ref v231, .ref a0]) hm dX13_ruled_636 rfl ?_
                      replace hf := mx_sv_el hf; obtain ⟨v232, e_v232, hf⟩ := hf
                      refine sx_ald hm dX13_ruled_637 e_v232 ?_
                      clear e_v232
                      replace hf := mx_gd_el hf; obtain ⟨c233, hf⟩ := hf
                      replace hf := mx_sv_el hf; obtain ⟨u234, e_u234, hf⟩ := hf
                      refine sx_cv hm dX13_ruled_638 rs_RX13_531 mt_X13_ruled [.int v232] [] (b := a0) (ci := 13) rfl rfl rfl c233 (Nat.le_of_ble_eq_true rfl) (Nat.le_of_ble_eq_true rfl) (by omega) (by omega) (hrc (by omega) (by omega) a0 v232 h e_u234) ?_
                      clear e_u234
                      show mx_S X F L 433 641 [(3, .int 1), (2, .int v156), (0, .ref a0), (1, .int a1)] [.int u234.1] u234.2 0 0 (some (.int r.1), r.2, 0, 0)
                      refine mx_S.pu (pc2 := 642) (lv2 := [(3, .int u234.1), (2, .int v156), (0, .ref a0), (1, .int a1)]) (st2 := []) hm dX13_ruled_641 rfl ?_
                      refine mx_S.pu (pc2 := 643) (lv2 := [(3, .int u234.1), (2, .int v156), (0, .ref a0), (1, .int a1)]) (st2 := [.ref a0]) hm dX13_ruled_642 rfl ?_
                      refine sx_ic (v := 3) hm dX13_ruled_643 (by decide) ?_
                      refine mx_S.pu (pc2 := 645) (lv2 := [(3, .int u234.1), (2, .int v156), (0, .ref a0), (1, .int a1)]) (st2 := [.ref a0, .int 3, .ref a0]) hm dX13_ruled_644 rfl ?_
                      replace hf := mx_sv_el hf; obtain ⟨v235, e_v235, hf⟩ := hf
                      refine sx_get hm dX13_ruled_645 rs_RX13_31 (xgr_el e_v235) ?_
                      clear e_v235
                      refine mx_S.pu (pc2 := 649) (lv2 := [(3, .int u234.1), (2, .int v156), (0, .ref a0), (1, .int a1)]) (st2 := [.int a1, .ref v235, .int 3, .ref a0]) hm dX13_ruled_648 rfl ?_
                      replace hf := mx_sv_el hf; obtain ⟨v236, e_v236, hf⟩ := hf
                      refine sx_ald hm dX13_ruled_649 e_v236 ?_
                      clear e_v236
                      refine sx_ic (v := 0) hm dX13_ruled_650 (by decide) ?_
                      replace hf := mx_gd_el hf; obtain ⟨c237, hf⟩ := hf
                      replace hf := mx_sv_el hf; obtain ⟨u238, e_u238, hf⟩ := hf
                      refine sx_cv hm dX13_ruled_651 rs_RX13_503 mt_X13_typeOf [.int 3, .int v236, .int 0] [] (b := a0) (ci := 13) rfl rfl rfl c237 (Nat.le_of_ble_eq_true rfl) (Nat.le_of_ble_eq_true rfl) (by omega) (by omega) (f_X13_typeOf_ok X (by omega) (by omega) nn a0 3 v236 0 u234.2 e_u238) ?_
                      clear e_u238
                      show mx_S X F L 433 654 [(3, .int u234.1), (2, .int v156), (0, .ref a0), (1, .int a1)] [.int u238.1] u238.2 0 0 (some (.int r.1), r.2, 0, 0)
                      refine mx_S.pu (pc2 := 656) (lv2 := [(5, .int u238.1), (3, .int u234.1), (2, .int v156), (0, .ref a0), (1, .int a1)]) (st2 := []) hm dX13_ruled_654 rfl ?_
                      refine mx_S.pu (pc2 := 657) (lv2 := [(5, .int u238.1), (3, .int u234.1), (2, .int v156), (0, .ref a0), (1, .int a1)]) (st2 := [.ref a0]) hm dX13_ruled_656 rfl ?_
                      refine mx_S.pu (pc2 := 659) (lv2 := [(5, .int u238.1), (3, .int u234.1), (2, .int v156), (0, .ref a0), (1, .int a1)]) (st2 := [.int u238.1, .ref a0]) hm dX13_ruled_657 rfl ?_
                      refine sx_bi (v := 10) hm dX13_ruled_659 (by decide) ?_
                      replace hf := mx_gd_el hf; obtain ⟨c239, hf⟩ := hf
                      replace hf := mx_sv_el hf; obtain ⟨u240, e_u240, hf⟩ := hf
                      refine sx_cv hm dX13_ruled_661 rs_RX13_491 mt_X13_fits [.int u238.1, .int 10] [] (b := a0) (ci := 13) rfl rfl rfl c239 (Nat.le_of_ble_eq_true rfl) (Nat.le_of_ble_eq_true rfl) (by omega) (by omega) (f_X13_fits_ok X (by omega) (by omega) nn a0 u238.1 10 u238.2 e_u240) ?_
                      clear e_u240
                      show mx_S X F L 433 664 [(5, .int u238.1), (3, .int u234.1), (2, .int v156), (0, .ref a0), (1, .int a1)] [.int u240.1] u240.2 0 0 (some (.int r.1), r.2, 0, 0)
                      rcases mx_if_el hf with ⟨c245, hf⟩ | ⟨c245, hf⟩
                      · refine sb_if_ne hm dX13_ruled_664 (tgt := 679) rfl (fun _ => ?_) (fun z => absurd c245 z)
                        refine mx_S.ext [(0, .ref a0), (1, .int a1), (2, .int v156), (3, .int u234.1), (5, .int u238.1)] (mx_sub_pos [3, 4, 2, 1, 0] rfl (show ([5, 3, 2, 0, 1] : List Nat).Nodup by decide)) ?_
                        exact j_X13_ruled_679_ok X hF hL nn hrc a0 a1 v156 u234.1 u238.1 u240.2 hf
                      · refine sb_if_ne hm dX13_ruled_664 (tgt := 679) rfl (fun z => absurd z c245) (fun _ => ?_)
                        refine mx_S.pu (pc2 := 668) (lv2 := [(5, .int u238.1), (3, .int u234.1), (2, .int v156), (0, .ref a0), (1, .int a1)]) (st2 := [.ref a0]) hm dX13_ruled_667 rfl ?_
                        refine sx_bi (v := 6) hm dX13_ruled_668 (by decide) ?_
                        refine mx_S.pu (pc2 := 671) (lv2 := [(5, .int u238.1), (3, .int u234.1), (2, .int v156), (0, .ref a0), (1, .int a1)]) (st2 := [.ref a0, .int 6, .ref a0]) hm dX13_ruled_670 rfl ?_
                        replace hf := mx_sv_el hf; obtain ⟨v241, e_v241, hf⟩ := hf
                        refine sx_get hm dX13_ruled_671 rs_RX13_31 (xgr_el e_v241) ?_
                        clear e_v241
                        refine mx_S.pu (pc2 := 675) (lv2 := [(5, .int u238.1), (3, .int u234.1), (2, .int v156), (0, .ref a0), (1, .int a1)]) (st2 := [.int a1, .ref v241, .int 6, .ref a0]) hm dX13_ruled_674 rfl ?_
                        replace hf := mx_sv_el hf; obtain ⟨v242, e_v242, hf⟩ := hf
                        refine sx_ald hm dX13_ruled_675 e_v242 ?_
                        clear e_v242
                        replace hf := mx_gd_el hf; obtain ⟨c243, hf⟩ := hf
                        replace hf := mx_sv_el hf; obtain ⟨u244, e_u244, hf⟩ := hf
                        refine sx_cv hm dX13_ruled_676 rs_RX13_379 mt_X13_wrong [.int 6, .int v242] [] (b := a0) (ci := 13) rfl rfl rfl c243 (Nat.le_of_ble_eq_true rfl) (Nat.le_of_ble_eq_true rfl) (by omega) (by omega) (f_X13_wrong_ok X (by omega) (by omega) nn a0 6 v242 u240.2 e_u244) ?_
                        clear e_u244
                        show mx_S X F L 433 679 [(5, .int u238.1), (3, .int u234.1), (2, .int v156), (0, .ref a0), (1, .int a1)] [] u244 0 0 (some (.int r.1), r.2, 0, 0)
                        refine mx_S.ext [(0, .ref a0), (1, .int a1), (2, .int v156), (3, .int u234.1), (5, .int u238.1)] (mx_sub_pos [3, 4, 2, 1, 0] rfl (show ([5, 3, 2, 0, 1] : List Nat).Nodup by decide)) ?_
                        exact j_X13_ruled_679_ok X hF hL nn hrc a0 a1 v156 u234.1 u238.1 u244 hf
                    · rcases mx_if_el hf with ⟨n_9, hf⟩ | ⟨n_9, hf⟩
                      · refine sx_tin hm dX13_ruled_22 (by rw [n_9]; decide) (by rw [n_9]; decide) (off := 748) (by rw [n_9]; rfl) (tgt := 770) rfl ?_
                        clear n_0 n_1 n_2 n_3 n_4 n_5 n_6 n_7 n_8 n_9
                        refine mx_S.pu (pc2 := 771) (lv2 := [(3, .int 1), (2, .int v156), (0, .ref a0), (1, .int a1)]) (st2 := [.ref a0]) hm dX13_ruled_770 rfl ?_
                        refine mx_S.pu (pc2 := 772) (lv2 := [(3, .int 1), (2, .int v156), (0, .ref a0), (1, .int a1)]) (st2 := [.ref a0, .ref a0]) hm dX13_ruled_771 rfl ?_
                        replace hf := mx_sv_el hf; obtain ⟨v246, e_v246, hf⟩ := hf
                        refine sx_get hm dX13_ruled_772 rs_RX13_37 (xgr_el e_v246) ?_
                        clear e_v246
                        refine mx_S.pu (pc2 := 776) (lv2 := [(3, .int 1), (2, .int v156), (0, .ref a0), (1, .int a1)]) (st2 := [.int a1, .ref v246, .ref a0]) hm dX13_ruled_775 rfl ?_
                        replace hf := mx_sv_el hf; obtain ⟨v247, e_v247, hf⟩ := hf
                        refine sx_ald hm dX13_ruled_776 e_v247 ?_
                        clear e_v247
                        replace hf := mx_gd_el hf; obtain ⟨c248, hf⟩ := hf
                        replace hf := mx_sv_el hf; obtain ⟨u249, e_u249, hf⟩ := hf
                        refine sx_cv hm dX13_ruled_777 rs_RX13_537 mt_X13_given [.int v247] [] (b := a0) (ci := 13) rfl rfl rfl c248 (Nat.le_of_ble_eq_true rfl) (Nat.le_of_ble_eq_true rfl) (by omega) (by omega) (f_X13_given_ok X (by omega) (by omega) nn a0 v247 h e_u249) ?_
                        clear e_u249
                        show mx_S X F L 433 780 [(3, .int 1), (2, .int v156), (0, .ref a0), (1, .int a1)] [.int u249.1] u249.2 0 0 (some (.int r.1), r.2, 0, 0)
                        refine sx_ic (v := 1) hm dX13_ruled_780 (by decide) ?_
                        rcases mx_if_el hf with ⟨c254, hf⟩ | ⟨c254, hf⟩
                        · refine sb_ic_le hm dX13_ruled_781 (tgt := 796) rfl (fun _ => ?_) (fun z => absurd c254 z)
                          refine sx_ic (v := 1) hm dX13_ruled_796 (by decide) ?_
                          cases hf
                          exact sx_ire hm dX13_ruled_797 rfl (by decide)
                        · refine sb_ic_le hm dX13_ruled_781 (tgt := 796) rfl (fun z => absurd z c254) (fun _ => ?_)
                          refine mx_S.pu (pc2 := 785) (lv2 := [(3, .int 1), (2, .int v156), (0, .ref a0), (1, .int a1)]) (st2 := [.ref a0]) hm dX13_ruled_784 rfl ?_
                          refine sx_bi (v := 6) hm dX13_ruled_785 (by decide) ?_
                          refine mx_S.pu (pc2 := 788) (lv2 := [(3, .int 1), (2, .int v156), (0, .ref a0), (1, .int a1)]) (st2 := [.ref a0, .int 6, .ref a0]) hm dX13_ruled_787 rfl ?_
                          replace hf := mx_sv_el hf; obtain ⟨v250, e_v250, hf⟩ := hf
                          refine sx_get hm dX13_ruled_788 rs_RX13_31 (xgr_el e_v250) ?_
                          clear e_v250
                          refine mx_S.pu (pc2 := 792) (lv2 := [(3, .int 1), (2, .int v156), (0, .ref a0), (1, .int a1)]) (st2 := [.int a1, .ref v250, .int 6, .ref a0]) hm dX13_ruled_791 rfl ?_
                          replace hf := mx_sv_el hf; obtain ⟨v251, e_v251, hf⟩ := hf
                          refine sx_ald hm dX13_ruled_792 e_v251 ?_
                          clear e_v251
                          replace hf := mx_gd_el hf; obtain ⟨c252, hf⟩ := hf
                          replace hf := mx_sv_el hf; obtain ⟨u253, e_u253, hf⟩ := hf
                          refine sx_cv hm dX13_ruled_793 rs_RX13_379 mt_X13_wrong [.int 6, .int v251] [] (b := a0) (ci := 13) rfl rfl rfl c252 (Nat.le_of_ble_eq_true rfl) (Nat.le_of_ble_eq_true rfl) (by omega) (by omega) (f_X13_wrong_ok X (by omega) (by omega) nn a0 6 v251 u249.2 e_u253) ?_
                          clear e_u253
                          show mx_S X F L 433 796 [(3, .int 1), (2, .int v156), (0, .ref a0), (1, .int a1)] [] u253 0 0 (some (.int r.1), r.2, 0, 0)
                          refine sx_ic (v := 1) hm dX13_ruled_796 (by decide) ?_
                          cases hf
                          exact sx_ire hm dX13_ruled_797 rfl (by decide)
                      · rcases mx_if_el hf with ⟨n_10, hf⟩ | ⟨n_10, hf⟩
                        · refine sx_tin hm dX13_ruled_22 (by rw [n_10]; decide) (by rw [n_10]; decide) (off := 776) (by rw [n_10]; rfl) (tgt := 798) rfl ?_
                          clear n_0 n_1 n_2 n_3 n_4 n_5 n_6 n_7 n_8 n_9 n_10
                          refine mx_S.pu (pc2 := 799) (lv2 := [(3, .int 1), (2, .int v156), (0, .ref a0), (1, .int a1)]) (st2 := [.ref a0]) hm dX13_ruled_798 rfl ?_
                          replace hf := mx_sv_el hf; obtain ⟨v255, e_v255, hf⟩ := hf
                          refine sx_get hm dX13_ruled_799 rs_RX13_49 (xgr_el e_v255) ?_
                          clear e_v255
                          refine mx_S.pu (pc2 := 803) (lv2 := [(3, .int 1), (2, .int v156), (0, .ref a0), (1, .int a1)]) (st2 := [.int a1, .ref v255]) hm dX13_ruled_802 rfl ?_
                          refine mx_S.pu (pc2 := 804) (lv2 := [(3, .int 1), (2, .int v156), (0, .ref a0), (1, .int a1)]) (st2 := [.ref a0, .int a1, .ref v255]) hm dX13_ruled_803 rfl ?_
                          replace hf := mx_sv_el hf; obtain ⟨v256, e_v256, hf⟩ := hf
                          refine sx_get hm dX13_ruled_804 rs_RX13_58 (xgr_el e_v256) ?_
                          clear e_v256
                          refine mx_S.pu (pc2 := 808) (lv2 := [(3, .int 1), (2, .int v156), (0, .ref a0), (1, .int a1)]) (st2 := [.ref a0, .ref v256, .int a1, .ref v255]) hm dX13_ruled_807 rfl ?_
                          replace hf := mx_sv_el hf; obtain ⟨v257, e_v257, hf⟩ := hf
                          refine sx_get hm dX13_ruled_808 rs_RX13_37 (xgr_el e_v257) ?_
                          clear e_v257
                          refine mx_S.pu (pc2 := 812) (lv2 := [(3, .int 1), (2, .int v156), (0, .ref a0), (1, .int a1)]) (st2 := [.int a1, .ref v257, .ref v256, .int a1, .ref v255]) hm dX13_ruled_811 rfl ?_
                          replace hf := mx_sv_el hf; obtain ⟨v258, e_v258, hf⟩ := hf
                          refine sx_ald hm dX13_ruled_812 e_v258 ?_
                          clear e_v258
                          replace hf := mx_sv_el hf; obtain ⟨v259, e_v259, hf⟩ := hf
                          refine sx_bld hm dX13_ruled_813 e_v259 ?_
                          clear e_v259
                          rcases mx_if_el hf with ⟨c268, hf⟩ | ⟨c268, hf⟩
                          · refine sb_if_eq hm dX13_ruled_814 (tgt := 830) rfl (fun _ => ?_) (fun z => absurd c268 z)
                            refine mx_S.pu (pc2 := 831) (lv2 := [(3, .int 1), (2, .int v156), (0, .ref a0), (1, .int a1)]) (st2 := [.ref a0, .int a1, .ref v255]) hm dX13_ruled_830 rfl ?_
                            refine mx_S.pu (pc2 := 832) (lv2 := [(3, .int 1), (2, .int v156), (0, .ref a0), (1, .int a1)]) (st2 := [.ref a0, .ref a0, .int a1, .ref v255]) hm dX13_ruled_831 rfl ?_
                            replace hf := mx_sv_el hf; obtain ⟨v260, e_v260, hf⟩ := hf
                            refine sx_get hm dX13_ruled_832 rs_RX13_37 (xgr_el e_v260) ?_
                            clear e_v260
                            refine mx_S.pu (pc2 := 836) (lv2 := [(3, .int 1), (2, .int v156), (0, .ref a0), (1, .int a1)]) (st2 := [.int a1, .ref v260, .ref a0, .int a1, .ref v255]) hm dX13_ruled_835 rfl ?_
                            replace hf := mx_sv_el hf; obtain ⟨v261, e_v261, hf⟩ := hf
                            refine sx_ald hm dX13_ruled_836 e_v261 ?_
                            clear e_v261
                            replace hf := mx_gd_el hf; obtain ⟨c262, hf⟩ := hf
                            replace hf := mx_sv_el hf; obtain ⟨u263, e_u263, hf⟩ := hf
                            refine sx_cv hm dX13_ruled_837 rs_RX13_546 mt_X13_worked [.int v261] [.int a1, .ref v255] (b := a0) (ci := 13) rfl rfl rfl c262 (Nat.le_of_ble_eq_true rfl) (Nat.le_of_ble_eq_true rfl) (by omega) (by omega) (f_X13_worked_ok X (by omega) (by omega) nn a0 v261 h e_u263) ?_
                            clear e_u263
                            show mx_S X F L 433 840 [(3, .int 1), (2, .int v156), (0, .ref a0), (1, .int a1)] [.int u263.1, .int a1, .ref v255] u263.2 0 0 (some (.int r.1), r.2, 0, 0)
                            refine mx_S.ext [(0, .ref a0), (1, .int a1)] (mx_sub_pos [2, 3] rfl (show ([3, 2, 0, 1] : List Nat).Nodup by decide)) ?_
                            exact j_X13_ruled_840_ok X hF hL nn hrc a0 a1 u263.1 a1 v255 u263.2 hf
                          · refine sb_if_eq hm dX13_ruled_814 (tgt := 830) rfl (fun z => absurd z c268) (fun _ => ?_)
                            refine mx_S.pu (pc2 := 818) (lv2 := [(3, .int 1), (2, .int v156), (0, .ref a0), (1, .int a1)]) (st2 := [.ref a0, .int a1, .ref v255]) hm dX13_ruled_817 rfl ?_
                            refine mx_S.pu (pc2 := 819) (lv2 := [(3, .int 1), (2, .int v156), (0, .ref a0), (1, .int a1)]) (st2 := [.ref a0, .ref a0, .int a1, .ref v255]) hm dX13_ruled_818 rfl ?_
                            replace hf := mx_sv_el hf; obtain ⟨v264, e_v264, hf⟩ := hf
                            refine sx_get hm dX13_ruled_819 rs_RX13_37 (xgr_el e_v264) ?_
                            clear e_v264
                            refine mx_S.pu (pc2 := 823) (lv2 := [(3, .int 1), (2, .int v156), (0, .ref a0), (1, .int a1)]) (st2 := [.int a1, .ref v264, .ref a0, .int a1, .ref v255]) hm dX13_ruled_822 rfl ?_
                            replace hf := mx_sv_el hf; obtain ⟨v265, e_v265, hf⟩ := hf
                            refine sx_ald hm dX13_ruled_823 e_v265 ?_
                            clear e_v265
                            replace hf := mx_gd_el hf; obtain ⟨c266, hf⟩ := hf
                            replace hf := mx_sv_el hf; obtain ⟨u267, e_u267, hf⟩ := hf
                            refine sx_cv hm dX13_ruled_824 rs_RX13_537 mt_X13_given [.int v265] [.int a1, .ref v255] (b := a0) (ci := 13) rfl rfl rfl c266 (Nat.le_of_ble_eq_true rfl) (Nat.le_of_ble_eq_true rfl) (by omega) (by omega) (f_X13_given_ok X (by omega) (by omega) nn a0 v265 h e_u267) ?_
                            clear e_u267
                            show mx_S X F L 433 827 [(3, .int 1), (2, .int v156), (0, .ref a0), (1, .int a1)] [.int u267.1, .int a1, .ref v255] u267.2 0 0 (some (.int r.1), r.2, 0, 0)
                            refine mx_S.pu (pc2 := 840) (lv2 := [(3, .int 1), (2, .int v156), (0, .ref a0), (1, .int a1)]) (st2 := [.int u267.1, .int a1, .ref v255]) hm dX13_ruled_827 rfl ?_
                            refine mx_S.ext [(0, .ref a0), (1, .int a1)] (mx_sub_pos [2, 3] rfl (show ([3, 2, 0, 1] : List Nat).Nodup by decide)) ?_
                            exact j_X13_ruled_840_ok X hF hL nn hrc a0 a1 u267.1 a1 v255 u267.2 hf
                        · rcases (show (v158.toInt < 1 ∨ 11 < v158.toInt) ∨ v158.toInt = 1 ∨ v158.toInt = 2 ∨ v158.toInt = 3 ∨ v158.toInt = 4 ∨ v158.toInt = 5 ∨ v158.toInt = 6 ∨ v158.toInt = 7 ∨ v158.toInt = 8 ∨ v158.toInt = 9 ∨ v158.toInt = 10 ∨ v158.toInt = 11 by omega) with z0 | z0 | z0 | z0 | z0 | z0 | z0 | z0 | z0 | z0 | z0 | z0
                          · refine sx_tout hm dX13_ruled_22 z0 (tgt := 906) rfl ?_
                            refine mx_S.pu (pc2 := 907) (lv2 := [(3, .int 1), (2, .int v156), (0, .ref a0), (1, .int a1)]) (st2 := [.ref a0]) hm dX13_ruled_906 rfl ?_
                            refine mx_S.pu (pc2 := 908) (lv2 := [(3, .int 1), (2, .int v156), (0, .ref a0), (1, .int a1)]) (st2 := [.ref a0, .ref a0]) hm dX13_ruled_907 rfl ?_
                            replace hf := mx_sv_el hf; obtain ⟨v159, e_v159, hf⟩ := hf
                            refine sx_get hm dX13_ruled_908 rs_RX13_37 (xgr_el e_v159) ?_
                            clear e_v159
                            refine mx_S.pu (pc2 := 912) (lv2 := [(3, .int 1), (2, .int v156), (0, .ref a0), (1, .int a1)]) (st2 := [.int a1, .ref v159, .ref a0]) hm dX13_ruled_911 rfl ?_
                            replace hf := mx_sv_el hf; obtain ⟨v160, e_v160, hf⟩ := hf
                            refine sx_ald hm dX13_ruled_912 e_v160 ?_
                            clear e_v160
                            replace hf := mx_gd_el hf; obtain ⟨c161, hf⟩ := hf
                            replace hf := mx_sv_el hf; obtain ⟨u162, e_u162, hf⟩ := hf
                            refine sx_cv hm dX13_ruled_913 rs_RX13_537 mt_X13_given [.int v160] [] (b := a0) (ci := 13) rfl rfl rfl c161 (Nat.le_of_ble_eq_true rfl) (Nat.le_of_ble_eq_true rfl) (by omega) (by omega) (f_X13_given_ok X (by omega) (by omega) nn a0 v160 h e_u162) ?_
                            clear e_u162
                            show mx_S X F L 433 916 [(3, .int 1), (2, .int v156), (0, .ref a0), (1, .int a1)] [.int u162.1] u162.2 0 0 (some (.int r.1), r.2, 0, 0)
                            refine mx_S.pu (pc2 := 918) (lv2 := [(5, .int u162.1), (3, .int 1), (2, .int v156), (0, .ref a0), (1, .int a1)]) (st2 := []) hm dX13_ruled_916 rfl ?_
                            refine mx_S.pu (pc2 := 919) (lv2 := [(5, .int u162.1), (3, .int 1), (2, .int v156), (0, .ref a0), (1, .int a1)]) (st2 := [.ref a0]) hm dX13_ruled_918 rfl ?_
                            refine mx_S.pu (pc2 := 920) (lv2 := [(5, .int u162.1), (3, .int 1), (2, .int v156), (0, .ref a0), (1, .int a1)]) (st2 := [.ref a0, .ref a0]) hm dX13_ruled_919 rfl ?_
                            replace hf := mx_sv_el hf; obtain ⟨v163, e_v163, hf⟩ := hf
                            refine sx_get hm dX13_ruled_920 rs_RX13_40 (xgr_el e_v163) ?_
                            clear e_v163
                            refine mx_S.pu (pc2 := 924) (lv2 := [(5, .int u162.1), (3, .int 1), (2, .int v156), (0, .ref a0), (1, .int a1)]) (st2 := [.int a1, .ref v163, .ref a0]) hm dX13_ruled_923 rfl ?_
                            replace hf := mx_sv_el hf; obtain ⟨v164, e_v164, hf⟩ := hf
                            refine sx_ald hm dX13_ruled_924 e_v164 ?_
                            clear e_v164
                            replace hf := mx_gd_el hf; obtain ⟨c165, hf⟩ := hf
                            replace hf := mx_sv_el hf; obtain ⟨u166, e_u166, hf⟩ := hf
                            refine sx_cv hm dX13_ruled_925 rs_RX13_537 mt_X13_given [.int v164] [] (b := a0) (ci := 13) rfl rfl rfl c165 (Nat.le_of_ble_eq_true rfl) (Nat.le_of_ble_eq_true rfl) (by omega) (by omega) (f_X13_given_ok X (by omega) (by omega) nn a0 v164 u162.2 e_u166) ?_
                            clear e_u166
                            show mx_S X F L 433 928 [(5, .int u162.1), (3, .int 1), (2, .int v156), (0, .ref a0), (1, .int a1)] [.int u166.1] u166.2 0 0 (some (.int r.1), r.2, 0, 0)
                            refine mx_S.pu (pc2 := 930) (lv2 := [(7, .int u166.1), (5, .int u162.1), (3, .int 1), (2, .int v156), (0, .ref a0), (1, .int a1)]) (st2 := []) hm dX13_ruled_928 rfl ?_
                            refine mx_S.pu (pc2 := 931) (lv2 := [(7, .int u166.1), (5, .int u162.1), (3, .int 1), (2, .int v156), (0, .ref a0), (1, .int a1)]) (st2 := [.ref a0]) hm dX13_ruled_930 rfl ?_
                            refine mx_S.pu (pc2 := 932) (lv2 := [(7, .int u166.1), (5, .int u162.1), (3, .int 1), (2, .int v156), (0, .ref a0), (1, .int a1)]) (st2 := [.ref a0, .ref a0]) hm dX13_ruled_931 rfl ?_
                            replace hf := mx_sv_el hf; obtain ⟨v167, e_v167, hf⟩ := hf
                            refine sx_get hm dX13_ruled_932 rs_RX13_37 (xgr_el e_v167) ?_
                            clear e_v167
                            refine mx_S.pu (pc2 := 936) (lv2 := [(7, .int u166.1), (5, .int u162.1), (3, .int 1), (2, .int v156), (0, .ref a0), (1, .int a1)]) (st2 := [.int a1, .ref v167, .ref a0]) hm dX13_ruled_935 rfl ?_
                            replace hf := mx_sv_el hf; obtain ⟨v168, e_v168, hf⟩ := hf
                            refine sx_ald hm dX13_ruled_936 e_v168 ?_
                            clear e_v168
                            replace hf := mx_gd_el hf; obtain ⟨c169, hf⟩ := hf
                            replace hf := mx_sv_el hf; obtain ⟨u170, e_u170, hf⟩ := hf
                            refine sx_cv hm dX13_ruled_937 rs_RX13_549 mt_X13_canTake [.int v168] [] (b := a0) (ci := 13) rfl rfl rfl c169 (Nat.le_of_ble_eq_true rfl) (Nat.le_of_ble_eq_true rfl) (by omega) (by omega) (f_X13_canTake_ok X (by omega) (by omega) nn a0 v168 u166.2 e_u170) ?_
                            clear e_u170
                            show mx_S X F L 433 940 [(7, .int u166.1), (5, .int u162.1), (3, .int 1), (2, .int v156), (0, .ref a0), (1, .int a1)] [.int u170.1] u170.2 0 0 (some (.int r.1), r.2, 0, 0)
                            rcases mx_if_el hf with ⟨c174, hf⟩ | ⟨c174, hf⟩
                            · refine sb_if_eq hm dX13_ruled_940 (tgt := 954) rfl (fun _ => ?_) (fun z => absurd c174 z)
                              refine mx_S.ext [(0, .ref a0), (1, .int a1)] (mx_sub_pos [4, 5] rfl (show ([7, 5, 3, 2, 0, 1] : List Nat).Nodup by decide)) ?_
                              exact j_X13_ruled_954_ok X hF hL nn hrc a0 a1 u170.2 hf
                            · refine sb_if_eq hm dX13_ruled_940 (tgt := 954) rfl (fun z => absurd z c174) (fun _ => ?_)
                              refine mx_S.pu (pc2 := 944) (lv2 := [(7, .int u166.1), (5, .int u162.1), (3, .int 1), (2, .int v156), (0, .ref a0), (1, .int a1)]) (st2 := [.ref a0]) hm dX13_ruled_943 rfl ?_
                              refine mx_S.pu (pc2 := 946) (lv2 := [(7, .int u166.1), (5, .int u162.1), (3, .int 1), (2, .int v156), (0, .ref a0), (1, .int a1)]) (st2 := [.int u166.1, .ref a0]) hm dX13_ruled_944 rfl ?_
                              refine mx_S.pu (pc2 := 948) (lv2 := [(7, .int u166.1), (5, .int u162.1), (3, .int 1), (2, .int v156), (0, .ref a0), (1, .int a1)]) (st2 := [.int u162.1, .int u166.1, .ref a0]) hm dX13_ruled_946 rfl ?_
                              replace hf := mx_gd_el hf; obtain ⟨c171, hf⟩ := hf
                              replace hf := mx_sv_el hf; obtain ⟨u172, e_u172, hf⟩ := hf
                              refine sx_cv hm dX13_ruled_948 rs_RX13_491 mt_X13_fits [.int u166.1, .int u162.1] [] (b := a0) (ci := 13) rfl rfl rfl c171 (Nat.le_of_ble_eq_true rfl) (Nat.le_of_ble_eq_true rfl) (by omega) (by omega) (f_X13_fits_ok X (by omega) (by omega) nn a0 u166.1 u162.1 u170.2 e_u172) ?_
                              clear e_u172
                              show mx_S X F L 433 951 [(7, .int u166.1), (5, .int u162.1), (3, .int 1), (2, .int v156), (0, .ref a0), (1, .int a1)] [.int u172.1] u172.2 0 0 (some (.int r.1), r.2, 0, 0)
                              rcases mx_if_el hf with ⟨c173, hf⟩ | ⟨c173, hf⟩
                              · refine sb_if_ne hm dX13_ruled_951 (tgt := 966) rfl (fun _ => ?_) (fun z => absurd c173 z)
                                refine sx_ic (v := 1) hm dX13_ruled_966 (by decide) ?_
                                cases hf
                                exact sx_ire hm dX13_ruled_967 rfl (by decide)
                              · refine sb_if_ne hm dX13_ruled_951 (tgt := 966) rfl (fun z => absurd z c173) (fun _ => ?_)
                                refine mx_S.ext [(0, .ref a0), (1, .int a1)] (mx_sub_pos [4, 5] rfl (show ([7, 5, 3, 2, 0, 1] : List Nat).Nodup by decide)) ?_
                                exact j_X13_ruled_954_ok X hF hL nn hrc a0 a1 u172.2 hf
                          · exact absurd (Int32.toInt_inj.mp (z0.trans (by decide : (1 : Int) = (1 : Int32).toInt))) n_0
                          · exact absurd (Int32.toInt_inj.mp (z0.trans (by decide : (2 : Int) = (2 : Int32).toInt))) n_1
                          · exact absurd (Int32.toInt_inj.mp (z0.trans (by decide : (3 : Int) = (3 : Int32).toInt))) n_2
                          · exact absurd (Int32.toInt_inj.mp (z0.trans (by decide : (4 : Int) = (4 : Int32).toInt))) n_3
                          · exact absurd (Int32.toInt_inj.mp (z0.trans (by decide : (5 : Int) = (5 : Int32).toInt))) n_4
                          · exact absurd (Int32.toInt_inj.mp (z0.trans (by decide : (6 : Int) = (6 : Int32).toInt))) n_5
                          · exact absurd (Int32.toInt_inj.mp (z0.trans (by decide : (7 : Int) = (7 : Int32).toInt))) n_6
                          · exact absurd (Int32.toInt_inj.mp (z0.trans (by decide : (8 : Int) = (8 : Int32).toInt))) n_7
                          · exact absurd (Int32.toInt_inj.mp (z0.trans (by decide : (9 : Int) = (9 : Int32).toInt))) n_8
                          · exact absurd (Int32.toInt_inj.mp (z0.trans (by decide : (10 : Int) = (10 : Int32).toInt))) n_9
                          · exact absurd (Int32.toInt_inj.mp (z0.trans (by decide : (11 : Int) = (11 : Int32).toInt))) n_10
  · refine sb_if_eq hm dX13_ruled_4 (tgt := 9) rfl (fun z => absurd z c269) (fun _ => ?_)
    refine sx_ic (v := 1) hm dX13_ruled_7 (by decide) ?_
    cases hf
    exact sx_ire hm dX13_ruled_8 rfl (by decide)
theorem g_X13_ruled_ok (X : Nat × (Nat → Int32)) (nn : Nat) : ∀ d, hg5_X13_ruled X d (g_X13_ruled nn d) := by
  intro d
  induction d with
  | zero => exact (fun {F L} _ _ a0 a1 h {r} hf => by cases hf)
  | succ d ih => exact (fun {F L} hF hL a0 a1 h {r} hf => o_X13_ruled_ok X hF hL nn ih a0 a1 h hf)
theorem f_X13_ruled_ok (X : Nat × (Nat → Int32)) {F L : Nat} (hF : 1807 ≤ F) (hL : 48758 ≤ L) (nn : Nat) (a0 : Nat) (a1 : Int32) (h : mx_H) {r : (Int32 × mx_H)} (hf : f_X13_ruled nn a0 a1 h = some r) : mx_R X F L 433 [.ref a0, .int a1] h (some (.int r.1), r.2, 0, 0) := (g_X13_ruled_ok X nn 200) (by omega) (by omega) a0 a1 h hf
