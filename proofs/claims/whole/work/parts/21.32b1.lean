set_option maxHeartbeats 4000000 in
theorem f_X13_heads_ok (X : Nat × (Nat → Int32)) {F L : Nat} (hF : 8 ≤ F) (hL : 185 ≤ L) (nn : Nat) (a0 : Nat) (h : mx_H) {r : mx_H} (hf : f_X13_heads nn a0 h = some r) : mx_R X F L 426 [.ref a0] h (none, r, 0, 0) := by
  have hm : mx_mt 426 = some (yX13_heads, cX13_heads, 4, none) := mt_X13_heads
  show mx_S X F L 426 0 [(0, .ref a0)] [] h 0 0 (none, r, 0, 0)
  unfold f_X13_heads at hf
  refine sx_ic (v := 0) hm dX13_heads_0 (by decide) ?_
  refine mx_S.pu (pc2 := 2) (lv2 := [(1, .int 0), (0, .ref a0)]) (st2 := []) hm dX13_heads_1 rfl ?_
  refine mx_S.ext [(0, .ref a0), (1, .int 0)] (mx_sub_pos [1, 0] rfl (show ([1, 0] : List Nat).Nodup by decide)) ?_
  exact w_X13_heads_2_ok X hF hL nn nn a0 0 h _ hf
set_option maxHeartbeats 4000000 in
theorem j_X13_constant_71_ok (X : Nat × (Nat → Int32)) {F L : Nat} (hF : 0 ≤ F) (hL : 0 ≤ L) (nn : Nat) (l0 : Nat) (l1 : Int32) (l2 : Int32) (l3 : Int32) (l4 : Int32) (h : mx_H) {r : (Int32 × mx_H)} (hf : j_X13_constant_71 nn l0 l1 l2 l3 l4 h = some r) : mx_S X F L 453 71 [(0, .ref l0), (1, .int l1), (2, .int l2), (3, .int l3), (4, .int l4)] [] h 0 0 (some (.int r.1), r.2, 0, 0) := by
  have hm : mx_mt 453 = some (yX13_constant, cX13_constant, 6, (some .int)) := mt_X13_constant
  unfold j_X13_constant_71 at hf
  refine mx_S.pu (pc2 := 72) (lv2 := [(0, .ref l0), (1, .int l1), (2, .int l2), (3, .int l3), (4, .int l4)]) (st2 := [.ref l0]) hm dX13_constant_71 rfl ?_
  refine mx_S.pu (pc2 := 73) (lv2 := [(0, .ref l0), (1, .int l1), (2, .int l2), (3, .int l3), (4, .int l4)]) (st2 := [.ref l0, .ref l0]) hm dX13_constant_72 rfl ?_
  replace hf := mx_sv_el hf; obtain ⟨v1, e_v1, hf⟩ := hf
  refine sx_get hm dX13_constant_73 rs_RX13_602 (xgi_el e_v1) ?_
  clear e_v1
  refine sx_ic (v := 1) hm dX13_constant_76 (by decide) ?_
  replace hf := xl_el hf; obtain ⟨v2, e_v2, hf⟩ := hf
  refine mx_S.pu (pc2 := 78) (lv2 := [(0, .ref l0), (1, .int l1), (2, .int l2), (3, .int l3), (4, .int l4)]) (st2 := [.int v2, .ref l0]) hm dX13_constant_77 (by rw [← e_v2]; rfl) ?_
  clear e_v2
  replace hf := mx_sv_el hf; obtain ⟨h3, e_h3, hf⟩ := hf
  refine sx_put hm dX13_constant_78 rs_RX13_602 ft_13_62 ⟨rfl, rfl⟩ (fun z => by cases z) e_h3 ?_
  clear e_h3
  refine mx_S.pu (pc2 := 82) (lv2 := [(0, .ref l0), (1, .int l1), (2, .int l2), (3, .int l3), (4, .int l4)]) (st2 := [.ref l0]) hm dX13_constant_81 rfl ?_
  replace hf := mx_sv_el hf; obtain ⟨v4, e_v4, hf⟩ := hf
  refine sx_get hm dX13_constant_82 rs_RX13_128 (xgr_el e_v4) ?_
  clear e_v4
  refine mx_S.pu (pc2 := 86) (lv2 := [(0, .ref l0), (1, .int l1), (2, .int l2), (3, .int l3), (4, .int l4)]) (st2 := [.ref l0, .ref v4]) hm dX13_constant_85 rfl ?_
  replace hf := mx_sv_el hf; obtain ⟨v5, e_v5, hf⟩ := hf
  refine sx_get hm dX13_constant_86 rs_RX13_602 (xgi_el e_v5) ?_
  clear e_v5
  refine mx_S.pu (pc2 := 90) (lv2 := [(0, .ref l0), (1, .int l1), (2, .int l2), (3, .int l3), (4, .int l4)]) (st2 := [.int l1, .int v5, .ref v4]) hm dX13_constant_89 rfl ?_
  replace hf := mx_sv_el hf; obtain ⟨h6, e_h6, hf⟩ := hf
  refine sx_ast hm dX13_constant_90 e_h6 ?_
  clear e_h6
  refine mx_S.pu (pc2 := 92) (lv2 := [(0, .ref l0), (1, .int l1), (2, .int l2), (3, .int l3), (4, .int l4)]) (st2 := [.ref l0]) hm dX13_constant_91 rfl ?_
  replace hf := mx_sv_el hf; obtain ⟨v7, e_v7, hf⟩ := hf
  refine sx_get hm dX13_constant_92 rs_RX13_131 (xgr_el e_v7) ?_
  clear e_v7
  refine mx_S.pu (pc2 := 96) (lv2 := [(0, .ref l0), (1, .int l1), (2, .int l2), (3, .int l3), (4, .int l4)]) (st2 := [.ref l0, .ref v7]) hm dX13_constant_95 rfl ?_
  replace hf := mx_sv_el hf; obtain ⟨v8, e_v8, hf⟩ := hf
  refine sx_get hm dX13_constant_96 rs_RX13_602 (xgi_el e_v8) ?_
  clear e_v8
  refine mx_S.pu (pc2 := 100) (lv2 := [(0, .ref l0), (1, .int l1), (2, .int l2), (3, .int l3), (4, .int l4)]) (st2 := [.int l2, .int v8, .ref v7]) hm dX13_constant_99 rfl ?_
  replace hf := mx_sv_el hf; obtain ⟨h9, e_h9, hf⟩ := hf
  refine sx_ast hm dX13_constant_100 e_h9 ?_
  clear e_h9
  refine mx_S.pu (pc2 := 102) (lv2 := [(0, .ref l0), (1, .int l1), (2, .int l2), (3, .int l3), (4, .int l4)]) (st2 := [.ref l0]) hm dX13_constant_101 rfl ?_
  replace hf := mx_sv_el hf; obtain ⟨v10, e_v10, hf⟩ := hf
  refine sx_get hm dX13_constant_102 rs_RX13_134 (xgr_el e_v10) ?_
  clear e_v10
  refine mx_S.pu (pc2 := 106) (lv2 := [(0, .ref l0), (1, .int l1), (2, .int l2), (3, .int l3), (4, .int l4)]) (st2 := [.ref l0, .ref v10]) hm dX13_constant_105 rfl ?_
  replace hf := mx_sv_el hf; obtain ⟨v11, e_v11, hf⟩ := hf
  refine sx_get hm dX13_constant_106 rs_RX13_602 (xgi_el e_v11) ?_
  clear e_v11
  refine mx_S.pu (pc2 := 110) (lv2 := [(0, .ref l0), (1, .int l1), (2, .int l2), (3, .int l3), (4, .int l4)]) (st2 := [.int l3, .int v11, .ref v10]) hm dX13_constant_109 rfl ?_
  replace hf := mx_sv_el hf; obtain ⟨h12, e_h12, hf⟩ := hf
  refine sx_ast hm dX13_constant_110 e_h12 ?_
  clear e_h12
  refine mx_S.pu (pc2 := 112) (lv2 := [(0, .ref l0), (1, .int l1), (2, .int l2), (3, .int l3), (4, .int l4)]) (st2 := [.ref l0]) hm dX13_constant_111 rfl ?_
  replace hf := mx_sv_el hf; obtain ⟨v13, e_v13, hf⟩ := hf
  refine sx_get hm dX13_constant_112 rs_RX13_137 (xgr_el e_v13) ?_
  clear e_v13
  refine mx_S.pu (pc2 := 116) (lv2 := [(0, .ref l0), (1, .int l1), (2, .int l2), (3, .int l3), (4, .int l4)]) (st2 := [.ref l0, .ref v13]) hm dX13_constant_115 rfl ?_
  replace hf := mx_sv_el hf; obtain ⟨v14, e_v14, hf⟩ := hf
  refine sx_get hm dX13_constant_116 rs_RX13_602 (xgi_el e_v14) ?_
  clear e_v14
  refine mx_S.pu (pc2 := 121) (lv2 := [(0, .ref l0), (1, .int l1), (2, .int l2), (3, .int l3), (4, .int l4)]) (st2 := [.int l4, .int v14, .ref v13]) hm dX13_constant_119 rfl ?_
  replace hf := mx_sv_el hf; obtain ⟨h15, e_h15, hf⟩ := hf
  refine sx_ast hm dX13_constant_121 e_h15 ?_
  clear e_h15
  refine mx_S.pu (pc2 := 123) (lv2 := [(0, .ref l0), (1, .int l1), (2, .int l2), (3, .int l3), (4, .int l4)]) (st2 := [.ref l0]) hm dX13_constant_122 rfl ?_
  replace hf := mx_sv_el hf; obtain ⟨v16, e_v16, hf⟩ := hf
  refine sx_get hm dX13_constant_123 rs_RX13_602 (xgi_el e_v16) ?_
  clear e_v16
  cases hf
  exact sx_ire hm dX13_constant_126 rfl rfl
set_option maxHeartbeats 4000000 in
theorem w_X13_constant_8_ok (X : Nat × (Nat → Int32)) {F L : Nat} (hF : 0 ≤ F) (hL : 0 ≤ L) (nn : Nat) : ∀ (k : Nat) (l0 : Nat) (l1 : Int32) (l2 : Int32) (l3 : Int32) (l4 : Int32) (l5 : Int32) (h : mx_H) (r : (Int32 × mx_H)), w_X13_constant_8 nn k l0 l1 l2 l3 l4 l5 h = some r → mx_S X F L 453 8 [(0, .ref l0), (1, .int l1), (2, .int l2), (3, .int l3), (4, .int l4), (5, .int l5)] [] h 0 0 (some (.int r.1), r.2, 0, 0) := by
  have hm : mx_mt 453 = some (yX13_constant, cX13_constant, 6, (some .int)) := mt_X13_constant
  intro k
  induction k with
  | zero => intro l0 l1 l2 l3 l4 l5 h r hf; cases hf
  | succ k ih =>
    intro l0 l1 l2 l3 l4 l5 h r hf
    unfold w_X13_constant_8 at hf
    refine mx_S.pu (pc2 := 10) (lv2 := [(0, .ref l0), (1, .int l1), (2, .int l2), (3, .int l3), (4, .int l4), (5, .int l5)]) (st2 := [.int l5]) hm dX13_constant_8 rfl ?_
    refine mx_S.pu (pc2 := 11) (lv2 := [(0, .ref l0), (1, .int l1), (2, .int l2), (3, .int l3), (4, .int l4), (5, .int l5)]) (st2 := [.ref l0, .int l5]) hm dX13_constant_10 rfl ?_
    replace hf := mx_sv_el hf; obtain ⟨v17, e_v17, hf⟩ := hf
    refine sx_get hm dX13_constant_11 rs_RX13_602 (xgi_el e_v17) ?_
    clear e_v17
    rcases mx_if_el hf with ⟨c34, hf⟩ | ⟨c34, hf⟩
    · refine sb_ic_gt hm dX13_constant_14 (tgt := 71) rfl (fun _ => ?_) (fun z => absurd c34 z)
      refine mx_S.ext [(0, .ref l0), (1, .int l1), (2, .int l2), (3, .int l3), (4, .int l4)] (mx_sub_pos [0, 1, 2, 3, 4] rfl (show ([0, 1, 2, 3, 4, 5] : List Nat).Nodup by decide)) ?_
      exact j_X13_constant_71_ok X hF hL nn l0 l1 l2 l3 l4 h hf
    · refine sb_ic_gt hm dX13_constant_14 (tgt := 71) rfl (fun z => absurd z c34) (fun _ => ?_)
      refine mx_S.pu (pc2 := 18) (lv2 := [(0, .ref l0), (1, .int l1), (2, .int l2), (3, .int l3), (4, .int l4), (5, .int l5)]) (st2 := [.ref l0]) hm dX13_constant_17 rfl ?_
      replace hf := mx_sv_el hf; obtain ⟨v18, e_v18, hf⟩ := hf
      refine sx_get hm dX13_constant_18 rs_RX13_128 (xgr_el e_v18) ?_
      clear e_v18
      refine mx_S.pu (pc2 := 23) (lv2 := [(0, .ref l0), (1, .int l1), (2, .int l2), (3, .int l3), (4, .int l4), (5, .int l5)]) (st2 := [.int l5, .ref v18]) hm dX13_constant_21 rfl ?_
      replace hf := mx_sv_el hf; obtain ⟨v19, e_v19, hf⟩ := hf
      refine sx_ald hm dX13_constant_23 e_v19 ?_
      clear e_v19
      refine mx_S.pu (pc2 := 25) (lv2 := [(0, .ref l0), (1, .int l1), (2, .int l2), (3, .int l3), (4, .int l4), (5, .int l5)]) (st2 := [.int l1, .int v19]) hm dX13_constant_24 rfl ?_
      rcases mx_if_el hf with ⟨c33, hf⟩ | ⟨c33, hf⟩
      · refine sb_ic_ne hm dX13_constant_25 (tgt := 65) rfl (fun _ => ?_) (fun z => absurd c33 z)
        replace hf := xl_el hf; obtain ⟨v20, e_v20, hf⟩ := hf
        refine mx_S.pu (pc2 := 68) (lv2 := [(5, .int v20), (0, .ref l0), (1, .int l1), (2, .int l2), (3, .int l3), (4, .int l4)]) (st2 := []) hm dX13_constant_65 (by rw [← e_v20]; rfl) ?_
        clear e_v20
        refine mx_S.pu (pc2 := 8) (lv2 := [(5, .int v20), (0, .ref l0), (1, .int l1), (2, .int l2), (3, .int l3), (4, .int l4)]) (st2 := []) hm dX13_constant_68 rfl ?_
        refine mx_S.ext [(0, .ref l0), (1, .int l1), (2, .int l2), (3, .int l3), (4, .int l4), (5, .int v20)] (mx_sub_pos [1, 2, 3, 4, 5, 0] rfl (show ([5, 0, 1, 2, 3, 4] : List Nat).Nodup by decide)) ?_
        exact ih l0 l1 l2 l3 l4 v20 h _ hf
      · refine sb_ic_ne hm dX13_constant_25 (tgt := 65) rfl (fun z => absurd z c33) (fun _ => ?_)
        refine mx_S.pu (pc2 := 29) (lv2 := [(0, .ref l0), (1, .int l1), (2, .int l2), (3, .int l3), (4, .int l4), (5, .int l5)]) (st2 := [.ref l0]) hm dX13_constant_28 rfl ?_
        replace hf := mx_sv_el hf; obtain ⟨v21, e_v21, hf⟩ := hf
        refine sx_get hm dX13_constant_29 rs_RX13_131 (xgr_el e_v21) ?_
        clear e_v21
        refine mx_S.pu (pc2 := 34) (lv2 := [(0, .ref l0), (1, .int l1), (2, .int l2), (3, .int l3), (4, .int l4), (5, .int l5)]) (st2 := [.int l5, .ref v21]) hm dX13_constant_32 rfl ?_
        replace hf := mx_sv_el hf; obtain ⟨v22, e_v22, hf⟩ := hf
        refine sx_ald hm dX13_constant_34 e_v22 ?_
        clear e_v22
        refine mx_S.pu (pc2 := 36) (lv2 := [(0, .ref l0), (1, .int l1), (2, .int l2), (3, .int l3), (4, .int l4), (5, .int l5)]) (st2 := [.int l2, .int v22]) hm dX13_constant_35 rfl ?_
        rcases mx_if_el hf with ⟨c32, hf⟩ | ⟨c32, hf⟩
        · refine sb_ic_ne hm dX13_constant_36 (tgt := 65) rfl (fun _ => ?_) (fun z => absurd c32 z)
          replace hf := xl_el hf; obtain ⟨v23, e_v23, hf⟩ := hf
          refine mx_S.pu (pc2 := 68) (lv2 := [(5, .int v23), (0, .ref l0), (1, .int l1), (2, .int l2), (3, .int l3), (4, .int l4)]) (st2 := []) hm dX13_constant_65 (by rw [← e_v23]; rfl) ?_
          clear e_v23
          refine mx_S.pu (pc2 := 8) (lv2 := [(5, .int v23), (0, .ref l0), (1, .int l1), (2, .int l2), (3, .int l3), (4, .int l4)]) (st2 := []) hm dX13_constant_68 rfl ?_
          refine mx_S.ext [(0, .ref l0), (1, .int l1), (2, .int l2), (3, .int l3), (4, .int l4), (5, .int v23)] (mx_sub_pos [1, 2, 3, 4, 5, 0] rfl (show ([5, 0, 1, 2, 3, 4] : List Nat).Nodup by decide)) ?_
          exact ih l0 l1 l2 l3 l4 v23 h _ hf
        · refine sb_ic_ne hm dX13_constant_36 (tgt := 65) rfl (fun z => absurd z c32) (fun _ => ?_)
          refine mx_S.pu (pc2 := 40) (lv2 := [(0, .ref l0), (1, .int l1), (2, .int l2), (3, .int l3), (4, .int l4), (5, .int l5)]) (st2 := [.ref l0]) hm dX13_constant_39 rfl ?_
          replace hf := mx_sv_el hf; obtain ⟨v24, e_v24, hf⟩ := hf
          refine sx_get hm dX13_constant_40 rs_RX13_134 (xgr_el e_v24) ?_
          clear e_v24
          refine mx_S.pu (pc2 := 45) (lv2 := [(0, .ref l0), (1, .int l1), (2, .int l2), (3, .int l3), (4, .int l4), (5, .int l5)]) (st2 := [.int l5, .ref v24]) hm dX13_constant_43 rfl ?_
          replace hf := mx_sv_el hf; obtain ⟨v25, e_v25, hf⟩ := hf
          refine sx_ald hm dX13_constant_45 e_v25 ?_
          clear e_v25
          refine mx_S.pu (pc2 := 47) (lv2 := [(0, .ref l0), (1, .int l1), (2, .int l2), (3, .int l3), (4, .int l4), (5, .int l5)]) (st2 := [.int l3, .int v25]) hm dX13_constant_46 rfl ?_
          rcases mx_if_el hf with ⟨c31, hf⟩ | ⟨c31, hf⟩
          · refine sb_ic_ne hm dX13_constant_47 (tgt := 65) rfl (fun _ => ?_) (fun z => absurd c31 z)
            replace hf := xl_el hf; obtain ⟨v26, e_v26, hf⟩ := hf
            refine mx_S.pu (pc2 := 68) (lv2 := [(5, .int v26), (0, .ref l0), (1, .int l1), (2, .int l2), (3, .int l3), (4, .int l4)]) (st2 := []) hm dX13_constant_65 (by rw [← e_v26]; rfl) ?_
            clear e_v26
            refine mx_S.pu (pc2 := 8) (lv2 := [(5, .int v26), (0, .ref l0), (1, .int l1), (2, .int l2), (3, .int l3), (4, .int l4)]) (st2 := []) hm dX13_constant_68 rfl ?_
            refine mx_S.ext [(0, .ref l0), (1, .int l1), (2, .int l2), (3, .int l3), (4, .int l4), (5, .int v26)] (mx_sub_pos [1, 2, 3, 4, 5, 0] rfl (show ([5, 0, 1, 2, 3, 4] : List Nat).Nodup by decide)) ?_
            exact ih l0 l1 l2 l3 l4 v26 h _ hf
          · refine sb_ic_ne hm dX13_constant_47 (tgt := 65) rfl (fun z => absurd z c31) (fun _ => ?_)
            refine mx_S.pu (pc2 := 51) (lv2 := [(0, .ref l0), (1, .int l1), (2, .int l2), (3, .int l3), (4, .int l4), (5, .int l5)]) (st2 := [.ref l0]) hm dX13_constant_50 rfl ?_
            replace hf := mx_sv_el hf; obtain ⟨v27, e_v27, hf⟩ := hf
            refine sx_get hm dX13_constant_51 rs_RX13_137 (xgr_el e_v27) ?_
            clear e_v27
            refine mx_S.pu (pc2 := 56) (lv2 := [(0, .ref l0), (1, .int l1), (2, .int l2), (3, .int l3), (4, .int l4), (5, .int l5)]) (st2 := [.int l5, .ref v27]) hm dX13_constant_54 rfl ?_
            replace hf := mx_sv_el hf; obtain ⟨v28, e_v28, hf⟩ := hf
            refine sx_ald hm dX13_constant_56 e_v28 ?_
            clear e_v28
            refine mx_S.pu (pc2 := 59) (lv2 := [(0, .ref l0), (1, .int l1), (2, .int l2), (3, .int l3), (4, .int l4), (5, .int l5)]) (st2 := [.int l4, .int v28]) hm dX13_constant_57 rfl ?_
            rcases mx_if_el hf with ⟨c30, hf⟩ | ⟨c30, hf⟩
            · refine sb_ic_ne hm dX13_constant_59 (tgt := 65) rfl (fun _ => ?_) (fun z => absurd c30 z)
              replace hf := xl_el hf; obtain ⟨v29, e_v29, hf⟩ := hf
              refine mx_S.pu (pc2 := 68) (lv2 := [(5, .int v29), (0, .ref l0), (1, .int l1), (2, .int l2), (3, .int l3), (4, .int l4)]) (st2 := []) hm dX13_constant_65 (by rw [← e_v29]; rfl) ?_
              clear e_v29
              refine mx_S.pu (pc2 := 8) (lv2 := [(5, .int v29), (0, .ref l0), (1, .int l1), (2, .int l2), (3, .int l3), (4, .int l4)]) (st2 := []) hm dX13_constant_68 rfl ?_
              refine mx_S.ext [(0, .ref l0), (1, .int l1), (2, .int l2), (3, .int l3), (4, .int l4), (5, .int v29)] (mx_sub_pos [1, 2, 3, 4, 5, 0] rfl (show ([5, 0, 1, 2, 3, 4] : List Nat).Nodup by decide)) ?_
              exact ih l0 l1 l2 l3 l4 v29 h _ hf
            · refine sb_ic_ne hm dX13_constant_59 (tgt := 65) rfl (fun z => absurd z c30) (fun _ => ?_)
              refine mx_S.pu (pc2 := 64) (lv2 := [(0, .ref l0), (1, .int l1), (2, .int l2), (3, .int l3), (4, .int l4), (5, .int l5)]) (st2 := [.int l5]) hm dX13_constant_62 rfl ?_
              cases hf
              exact sx_ire hm dX13_constant_64 rfl rfl
set_option maxHeartbeats 4000000 in
theorem f_X13_constant_ok (X : Nat × (Nat → Int32)) {F L : Nat} (hF : 0 ≤ F) (hL : 0 ≤ L) (nn : Nat) (a0 : Nat) (a1 : Int32) (a2 : Int32) (a3 : Int32) (a4 : Int32) (h : mx_H) {r : (Int32 × mx_H)} (hf : f_X13_constant nn a0 a1 a2 a3 a4 h = some r) : mx_R X F L 453 [.ref a0, .int a1, .int a2, .int a3, .int a4] h (some (.int r.1), r.2, 0, 0) := by
  have hm : mx_mt 453 = some (yX13_constant, cX13_constant, 6, (some .int)) := mt_X13_constant
  show mx_S X F L 453 0 [(0, .ref a0), (1, .int a1), (2, .int a2), (3, .int a3), (4, .int a4)] [] h 0 0 (some (.int r.1), r.2, 0, 0)
  unfold f_X13_constant at hf
  refine mx_S.pu (pc2 := 1) (lv2 := [(0, .ref a0), (1, .int a1), (2, .int a2), (3, .int a3), (4, .int a4)]) (st2 := [.int a1]) hm dX13_constant_0 rfl ?_
  refine sx_ic (v := 1) hm dX13_constant_1 (by decide) ?_
  rcases mx_if_el hf with ⟨c35, hf⟩ | ⟨c35, hf⟩
  · refine sb_ic_le hm dX13_constant_2 (tgt := 71) rfl (fun _ => ?_) (fun z => absurd c35 z)
    exact j_X13_constant_71_ok X hF hL nn a0 a1 a2 a3 a4 h hf
  · refine sb_ic_le hm dX13_constant_2 (tgt := 71) rfl (fun z => absurd z c35) (fun _ => ?_)
    refine sx_ic (v := 1) hm dX13_constant_5 (by decide) ?_
    refine mx_S.pu (pc2 := 8) (lv2 := [(5, .int 1), (0, .ref a0), (1, .int a1), (2, .int a2), (3, .int a3), (4, .int a4)]) (st2 := []) hm dX13_constant_6 rfl ?_
    refine mx_S.ext [(0, .ref a0), (1, .int a1), (2, .int a2), (3, .int a3), (4, .int a4), (5, .int 1)] (mx_sub_pos [1, 2, 3, 4, 5, 0] rfl (show ([5, 0, 1, 2, 3, 4] : List Nat).Nodup by decide)) ?_
    exact w_X13_constant_8_ok X hF hL nn nn a0 a1 a2 a3 a4 1 h _ hf
