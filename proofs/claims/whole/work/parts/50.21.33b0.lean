set_option maxHeartbeats 4000000 in
set_option maxRecDepth 20000 in
theorem j_X13_constant_71_ok (X : Nat × (Nat → Int32)) {F L : Nat} (hF : 0 ≤ F) (hL : 0 ≤ L) (nn : Nat) (l0 : Nat) (l1 : Int32) (l2 : Int32) (l3 : Int32) (l4 : Int32) (h : mx_H) {r : (Int32 × mx_H)} (hf : j_X13_constant_71 nn l0 l1 l2 l3 l4 h = some r) : mx_S X F L 453 71 [(0, .ref l0), (1, .int l1), (2, .int l2), (3, .int l3), (4, .int l4)] [] h 0 0 (some (.int r.1), r.2, 0, 0) := by
  have hm : mx_mt 453 = some (yX13_constant, cX13_constant, 6, (some .int)) := mt_X13_constant
  unfold j_X13_constant_71 at hf
  refine mx_S.pu (pc2 := 72) (lv2 := [(0, .ref l0), (1, .int l1), (2, .int l2), (3, .int l3), (4, .int l4)]) (st2 := [.ref l0]) hm dX13_constant_71 rfl ?_
  refine mx_S.pu (pc2 := 73) (lv2 := [(0, .ref l0), (1, .int l1), (2, .int l2), (3, .int l3), (4, .int l4)]) (st2 := [.ref l0, .ref l0]) hm dX13_constant_72 rfl ?_
  replace hf := mx_sv_el hf; obtain ⟨v1, e_v1, hf⟩ := hf
  refine sx_get hm dX13_constant_73 rs_RX13_602 (xgi_el e_v1) ?_
  clear e_v1
  refine sx_ic (v := 1) hm dX13_constant_76 (by decide) ?_
  replace hf := xl_el hf; obtain ⟨v2, e_v2, hf⟩ := hf
  refine mx_S.pu (pc2 := 78) (lv2 := [(0, .ref l0), (1, .int l1), (2, .int l2), (3, .int l3), (4, .int l4)]) (st2 := [.int v2, .ref l0]) hm dX13_constant_77 (by rw [← e_v2]; rfl) ?_
  clear e_v2
  replace hf := mx_sv_el hf; obtain ⟨h3, e_h3, hf⟩ := hf
  refine sx_put hm dX13_constant_78 rs_RX13_602 ft_13_62 ⟨rfl, rfl⟩ (fun z => by cases z) e_h3 ?_
  clear e_h3
  refine mx_S.pu (pc2 := 82) (lv2 := [(0, .ref l0), (1, .int l1), (2, .int l2), (3, .int l3), (4, .int l4)]) (st2 := [.ref l0]) hm dX13_constant_81 rfl ?_
  replace hf := mx_sv_el hf; obtain ⟨v4, e_v4, hf⟩ := hf
  refine sx_get hm dX13_constant_82 rs_RX13_128 (xgr_el e_v4) ?_
  clear e_v4
  refine mx_S.pu (pc2 := 86) (lv2 := [(0, .ref l0), (1, .int l1), (2, .int l2), (3, .int l3), (4, .int l4)]) (st2 := [.ref l0, .ref v4]) hm dX13_constant_85 rfl ?_
  replace hf := mx_sv_el hf; obtain ⟨v5, e_v5, hf⟩ := hf
  refine sx_get hm dX13_constant_86 rs_RX13_602 (xgi_el e_v5) ?_
  clear e_v5
  refine mx_S.pu (pc2 := 90) (lv2 := [(0, .ref l0), (1, .int l1), (2, .int l2), (3, .int l3), (4, .int l4)]) (st2 := [.int l1, .int v5, .ref v4]) hm dX13_constant_89 rfl ?_
  replace hf := mx_sv_el hf; obtain ⟨h6, e_h6, hf⟩ := hf
  refine sx_ast hm dX13_constant_90 e_h6 ?_
  clear e_h6
  refine mx_S.pu (pc2 := 92) (lv2 := [(0, .ref l0), (1, .int l1), (2, .int l2), (3, .int l3), (4, .int l4)]) (st2 := [.ref l0]) hm dX13_constant_91 rfl ?_
  replace hf := mx_sv_el hf; obtain ⟨v7, e_v7, hf⟩ := hf
  refine sx_get hm dX13_constant_92 rs_RX13_131 (xgr_el e_v7) ?_
  clear e_v7
  refine mx_S.pu (pc2 := 96) (lv2 := [(0, .ref l0), (1, .int l1), (2, .int l2), (3, .int l3), (4, .int l4)]) (st2 := [.ref l0, .ref v7]) hm dX13_constant_95 rfl ?_
  replace hf := mx_sv_el hf; obtain ⟨v8, e_v8, hf⟩ := hf
  refine sx_get hm dX13_constant_96 rs_RX13_602 (xgi_el e_v8) ?_
  clear e_v8
  refine mx_S.pu (pc2 := 100) (lv2 := [(0, .ref l0), (1, .int l1), (2, .int l2), (3, .int l3), (4, .int l4)]) (st2 := [.int l2, .int v8, .ref v7]) hm dX13_constant_99 rfl ?_
  replace hf := mx_sv_el hf; obtain ⟨h9, e_h9, hf⟩ := hf
  refine sx_ast hm dX13_constant_100 e_h9 ?_
  clear e_h9
  refine mx_S.pu (pc2 := 102) (lv2 := [(0, .ref l0), (1, .int l1), (2, .int l2), (3, .int l3), (4, .int l4)]) (st2 := [.ref l0]) hm dX13_constant_101 rfl ?_
  replace hf := mx_sv_el hf; obtain ⟨v10, e_v10, hf⟩ := hf
  refine sx_get hm dX13_constant_102 rs_RX13_134 (xgr_el e_v10) ?_
  clear e_v10
  refine mx_S.pu (pc2 := 106) (lv2 := [(0, .ref l0), (1, .int l1), (2, .int l2), (3, .int l3), (4, .int l4)]) (st2 := [.ref l0, .ref v10]) hm dX13_constant_105 rfl ?_
  replace hf := mx_sv_el hf; obtain ⟨v11, e_v11, hf⟩ := hf
  refine sx_get hm dX13_constant_106 rs_RX13_602 (xgi_el e_v11) ?_
  clear e_v11
  refine mx_S.pu (pc2 := 110) (lv2 := [(0, .ref l0), (1, .int l1), (2, .int l2), (3, .int l3), (4, .int l4)]) (st2 := [.int l3, .int v11, .ref v10]) hm dX13_constant_109 rfl ?_
  replace hf := mx_sv_el hf; obtain ⟨h12, e_h12, hf⟩ := hf
  refine sx_ast hm dX13_constant_110 e_h12 ?_
  clear e_h12
  refine mx_S.pu (pc2 := 112) (lv2 := [(0, .ref l0), (1, .int l1), (2, .int l2), (3, .int l3), (4, .int l4)]) (st2 := [.ref l0]) hm dX13_constant_111 rfl ?_
  replace hf := mx_sv_el hf; obtain ⟨v13, e_v13, hf⟩ := hf
  refine sx_get hm dX13_constant_112 rs_RX13_137 (xgr_el e_v13) ?_
  clear e_v13
  refine mx_S.pu (pc2 := 116) (lv2 := [(0, .ref l0), (1, .int l1), (2, .int l2), (3, .int l3), (4, .int l4)]) (st2 := [.ref l0, .ref v13]) hm dX13_constant_115 rfl ?_
  replace hf := mx_sv_el hf; obtain ⟨v14, e_v14, hf⟩ := hf
  refine sx_get hm dX13_constant_116 rs_RX13_602 (xgi_el e_v14) ?_
  clear e_v14
  refine mx_S.pu (pc2 := 121) (lv2 := [(0, .ref l0), (1, .int l1), (2, .int l2), (3, .int l3), (4, .int l4)]) (st2 := [.int l4, .int v14, .ref v13]) hm dX13_constant_119 rfl ?_
  replace hf := mx_sv_el hf; obtain ⟨h15, e_h15, hf⟩ := hf
  refine sx_ast hm dX13_constant_121 e_h15 ?_
  clear e_h15
  refine mx_S.pu (pc2 := 123) (lv2 := [(0, .ref l0), (1, .int l1), (2, .int l2), (3, .int l3), (4, .int l4)]) (st2 := [.ref l0]) hm dX13_constant_122 rfl ?_
  replace hf := mx_sv_el hf; obtain ⟨v16, e_v16, hf⟩ := hf
  refine sx_get hm dX13_constant_123 rs_RX13_602 (xgi_el e_v16) ?_
  clear e_v16
  cases hf
  exact sx_ire hm dX13_constant_126 rfl rfl
set_option maxHeartbeats 4000000 in
set_option maxRecDepth 20000 in
theorem w_X13_constant_8_ok (X : Nat × (Nat → Int32)) {F L : Nat} (hF : 0 ≤ F) (hL : 0 ≤ L) (nn : Nat) : ∀ (k : Nat) (l0 : Nat) (l1 : Int32) (l2 : Int32) (l3 : Int32) (l4 : Int32) (l5 : Int32) (h : mx_H) (r : (Int32 × mx_H)), w_X13_constant_8 nn k l0 l1 l2 l3 l4 l5 h = some r → mx_S X F L 453 8 [(0, .ref l0), (1, .int l1), (2, .int l2), (3, .int l3), (4, .int l4), (5, .int l5)] [] h 0 0 (some (.int r.1), r.2, 0, 0) := by
  have hm : mx_mt 453 = some (yX13_constant, cX13_constant, 6, (some .int)) := mt_X13_constant
  intro k
  induction k with
  | zero => intro l0 l1 l2 l3 l4 l5 h r hf; cases hf
  | succ k ih =>
    intro l0 l1 l2 l3 l4 l5 h r hf
    unfold w_X13_constant_8 at hf
    refine mx_S.pu (pc2 := 10) (lv2 := [(0, .ref l0), (1, .int l1), (2, .int l2), (3, .int l3), (4, .int l4), (5, .int l5)]) (st2 := [.int l5]) hm dX13_constant_8 rfl ?_
    refine mx_S.pu (pc2 := 11) (lv2 := [(0, .ref l0), (1, .int l1), (2, .int l2), (3, .int l3), (4, .int l4), (5, .int l5)]) (st2 := [.ref l0, .int l5]) hm dX13_constant_10 rfl ?_
    replace hf := mx_sv_el hf; obtain ⟨v17, e_v17, hf⟩ := hf
    refine sx_get hm dX13_constant_11 rs_RX13_602 (xgi_el e_v17) ?_
    clear e_v17
    rcases mx_if_el hf with ⟨c34, hf⟩ | ⟨c34, hf⟩
    · refine sb_ic_gt hm dX13_constant_14 (tgt := 71) rfl (fun _ => ?_) (fun z => absurd c34 z)
      refine mx_S.ext [(0, .ref l0), (1, .int l1), (2, .int l2), (3, .int l3), (4, .int l4)] (mx_sub_pos [0, 1, 2, 3, 4] rfl (show ([0, 1, 2, 3, 4, 5] : List Nat).Nodup by decide)) ?_
      exact j_X13_constant_71_ok X hF hL nn l0 l1 l2 l3 l4 h hf
    · refine sb_ic_gt hm dX13_constant_14 (tgt := 71) rfl (fun z => absurd z c34) (fun _ => ?_)
      refine mx_S.pu (pc2 := 18) (lv2 := [(0, .ref l0), (1, .int l1), (2, .int l2), (3, .int l3), (4, .int l4), (5, .int l5)]) (st2 := [.ref l0]) hm dX13_constant_17 rfl ?_
      replace hf := mx_sv_el hf; obtain ⟨v18, e_v18, hf⟩ := hf
      refine sx_get hm dX13_constant_18 rs_RX13_128 (xgr_el e_v18) ?_
      clear e_v18
      refine mx_S.pu (pc2 := 23) (lv2 := [(0, .ref l0), (1, .int l1), (2, .int l2), (3, .int l3), (4, .int l4), (5, .int l5)]) (st2 := [.int l5, .ref v18]) hm dX13_constant_21 rfl ?_
      replace hf := mx_sv_el hf; obtain ⟨v19, e_v19, hf⟩ := hf
      refine sx_ald hm dX13_constant_23 e_v19 ?_
      clear e_v19
      refine mx_S.pu (pc2 := 25) (lv2 := [(0, .ref l0), (1, .int l1), (2, .int l2), (3, .int l3), (4, .int l4), (5, .int l5)]) (st2 := [.int l1, .int v19]) hm dX13_constant_24 rfl ?_
      rcases mx_if_el hf with ⟨c33, hf⟩ | ⟨c33, hf⟩
      · refine sb_ic_ne hm dX13_constant_25 (tgt := 65) rfl (fun _ => ?_) (fun z => absurd c33 z)
        replace hf := xl_el hf; obtain ⟨v20, e_v20, hf⟩ := hf
        refine mx_S.pu (pc2 := 68) (lv2 := [(5, .int v20), (0, .ref l0), (1, .int l1), (2, .int l2), (3, .int l3), (4, .int l4)]) (st2 := []) hm dX13_constant_65 (by rw [← e_v20]; rfl) ?_
        clear e_v20
        refine mx_S.pu (pc2 := 8) (lv2 := [(5, .int v20), (0, .ref l0), (1, .int l1), (2, .int l2), (3, .int l3), (4, .int l4)]) (st2 := []) hm dX13_constant_68 rfl ?_
        refine mx_S.ext [(0, .ref l0), (1, .int l1), (2, .int l2), (3, .int l3), (4, .int l4), (5, .int v20)] (mx_sub_pos [1, 2, 3, 4, 5, 0] rfl (show ([5, 0, 1, 2, 3, 4] : List Nat).Nodup by decide)) ?_
        exact ih l0 l1 l2 l3 l4 v20 h _ hf
      · refine sb_ic_ne hm dX13_constant_25 (tgt := 65) rfl (fun z => absurd z c33) (fun _ => ?_)
        refine mx_S.pu (pc2 := 29) (lv2 := [(0, .ref l0), (1, .int l1), (2, .int l2), (3, .int l3), (4, .int l4), (5, .int l5)]) (st2 := [.ref l0]) hm dX13_constant_28 rfl ?_
        replace hf := mx_sv_el hf; obtain ⟨v21, e_v21, hf⟩ := hf
        refine sx_get hm dX13_constant_29 rs_RX13_131 (xgr_el e_v21) ?_
        clear e_v21
        refine mx_S.pu (pc2 := 34) (lv2 := [(0, .ref l0), (1, .int l1), (2, .int l2), (3, .int l3), (4, .int l4), (5, .int l5)]) (st2 := [.int l5, .ref v21]) hm dX13_constant_32 rfl ?_
        replace hf := mx_sv_el hf; obtain ⟨v22, e_v22, hf⟩ := hf
        refine sx_ald hm dX13_constant_34 e_v22 ?_
        clear e_v22
        refine mx_S.pu (pc2 := 36) (lv2 := [(0, .ref l0), (1, .int l1), (2, .int l2), (3, .int l3), (4, .int l4), (5, .int l5)]) (st2 := [.int l2, .int v22]) hm dX13_constant_35 rfl ?_
        rcases mx_if_el hf with ⟨c32, hf⟩ | ⟨c32, hf⟩
        · refine sb_ic_ne hm dX13_constant_36 (tgt := 65) rfl (fun _ => ?_) (fun z => absurd c32 z)
          replace hf := xl_el hf; obtain ⟨v23, e_v23, hf⟩ := hf
          refine mx_S.pu (pc2 := 68) (lv2 := [(5, .int v23), (0, .ref l0), (1, .int l1), (2, .int l2), (3, .int l3), (4, .int l4)]) (st2 := []) hm dX13_constant_65 (by rw [← e_v23]; rfl) ?_
          clear e_v23
          refine mx_S.pu (pc2 := 8) (lv2 := [(5, .int v23), (0, .ref l0), (1, .int l1), (2, .int l2), (3, .int l3), (4, .int l4)]) (st2 := []) hm dX13_constant_68 rfl ?_
          refine mx_S.ext [(0, .ref l0), (1, .int l1), (2, .int l2), (3, .int l3), (4, .int l4), (5, .int v23)] (mx_sub_pos [1, 2, 3, 4, 5, 0] rfl (show ([5, 0, 1, 2, 3, 4] : List Nat).Nodup by decide)) ?_
          exact ih l0 l1 l2 l3 l4 v23 h _ hf
        · refine sb_ic_ne hm dX13_constant_36 (tgt := 65) rfl (fun z => absurd z c32) (fun _ => ?_)
          refine mx_S.pu (pc2 := 40) (lv2 := [(0, .ref l0), (1, .int l1), (2, .int l2), (3, .int l3), (4, .int l4), (5, .int l5)]) (st2 := [.ref l0]) hm dX13_constant_39 rfl ?_
          replace hf := mx_sv_el hf; obtain ⟨v24, e_v24, hf⟩ := hf
          refine sx_get hm dX13_constant_40 rs_RX13_134 (xgr_el e_v24) ?_
          clear e_v24
          refine mx_S.pu (pc2 := 45) (lv2 := [(0, .ref l0), (1, .int l1), (2, .int l2), (3, .int l3), (4, .int l4), (5, .int l5)]) (st2 := [.int l5, .ref v24]) hm dX13_constant_43 rfl ?_
          replace hf := mx_sv_el hf; obtain ⟨v25, e_v25, hf⟩ := hf
          refine sx_ald hm dX13_constant_45 e_v25 ?_
          clear e_v25
          refine mx_S.pu (pc2 := 47) (lv2 := [(0, .ref l0), (1, .int l1), (2, .int l2), (3, .int l3), (4, .int l4), (5, .int l5)]) (st2 := [.int l3, .int v25]) hm dX13_constant_46 rfl ?_
          rcases mx_if_el hf with ⟨c31, hf⟩ | ⟨c31, hf⟩
          · refine sb_ic_ne hm dX13_constant_47 (tgt := 65) rfl (fun _ => ?_) (fun z => absurd c31 z)
            replace hf := xl_el hf; obtain ⟨v26, e_v26, hf⟩ := hf
            refine mx_S.pu (pc2 := 68) (lv2 := [(5, .int v26), (0, .ref l0), (1, .int l1), (2, .int l2), (3, .int l3), (4, .int l4)]) (st2 := []) hm dX13_constant_65 (by rw [← e_v26]; rfl) ?_
            clear e_v26
            refine mx_S.pu (pc2 := 8) (lv2 := [(5, .int v26), (0, .ref l0), (1, .int l1), (2, .int l2), (3, .int l3), (4, .int l4)]) (st2 := []) hm dX13_constant_68 rfl ?_
            refine mx_S.ext [(0, .ref l0), (1, .int l1), (2, .int l2), (3, .int l3), (4, .int l4), (5, .int v26)] (mx_sub_pos [1, 2, 3, 4, 5, 0] rfl (show ([5, 0, 1, 2, 3, 4] : List Nat).Nodup by decide)) ?_
            exact ih l0 l1 l2 l3 l4 v26 h _ hf
          · refine sb_ic_ne hm dX13_constant_47 (tgt := 65) rfl (fun z => absurd z c31) (fun _ => ?_)
            refine mx_S.pu (pc2 := 51) (lv2 := [(0, .ref l0), (1, .int l1), (2, .int l2), (3, .int l3), (4, .int l4), (5, .int l5)]) (st2 := [.ref l0]) hm dX13_constant_50 rfl ?_
            replace hf := mx_sv_el hf; obtain ⟨v27, e_v27, hf⟩ := hf
            refine sx_get hm dX13_constant_51 rs_RX13_137 (xgr_el e_v27) ?_
            clear e_v27
            refine mx_S.pu (pc2 := 56) (lv2 := [(0, .ref l0), (1, .int l1), (2, .int l2), (3, .int l3), (4, .int l4), (5, .int l5)]) (st2 := [.int l5, .ref v27]) hm dX13_constant_54 rfl ?_
            replace hf := mx_sv_el hf; obtain ⟨v28, e_v28, hf⟩ := hf
            refine sx_ald hm dX13_constant_56 e_v28 ?_
            clear e_v28
            refine mx_S.pu (pc2 := 59) (lv2 := [(0, .ref l0), (1, .int l1), (2, .int l2), (3, .int l3), (4, .int l4), (5, .int l5)]) (st2 := [.int l4, .int v28]) hm dX13_constant_57 rfl ?_
            rcases mx_if_el hf with ⟨c30, hf⟩ | ⟨c30, hf⟩
            · refine sb_ic_ne hm dX13_constant_59 (tgt := 65) rfl (fun _ => ?_) (fun z => absurd c30 z)
              replace hf := xl_el hf; obtain ⟨v29, e_v29, hf⟩ := hf
              refine mx_S.pu (pc2 := 68) (lv2 := [(5, .int v29), (0, .ref l0), (1, .int l1), (2, .int l2), (3, .int l3), (4, .int l4)]) (st2 := []) hm dX13_constant_65 (by rw [← e_v29]; rfl) ?_
              clear e_v29
              refine mx_S.pu (pc2 := 8) (lv2 := [(5, .int v29), (0, .ref l0), (1, .int l1), (2, .int l2), (3, .int l3), (4, .int l4)]) (st2 := []) hm dX13_constant_68 rfl ?_
              refine mx_S.ext [(0, .ref l0), (1, .int l1), (2, .int l2), (3, .int l3), (4, .int l4), (5, .int v29)] (mx_sub_pos [1, 2, 3, 4, 5, 0] rfl (show ([5, 0, 1, 2, 3, 4] : List Nat).Nodup by decide)) ?_
              exact ih l0 l1 l2 l3 l4 v29 h _ hf
            · refine sb_ic_ne hm dX13_constant_59 (tgt := 65) rfl (fun z => absurd z c30) (fun _ => ?_)
              refine mx_S.pu (pc2 := 64) (lv2 := [(0, .ref l0), (1, .int l1), (2, .int l2), (3, .int l3), (4, .int l4), (5, .int l5)]) (st2 := [.int l5]) hm dX13_constant_62 rfl ?_
              cases hf
              exact sx_ire hm dX13_constant_64 rfl rfl
set_option maxHeartbeats 4000000 in
set_option maxRecDepth 20000 in
theorem f_X13_constant_ok (X : Nat × (Nat → Int32)) {F L : Nat} (hF : 0 ≤ F) (hL : 0 ≤ L) (nn : Nat) (a0 : Nat) (a1 : Int32) (a2 : Int32) (a3 : Int32) (a4 : Int32) (h : mx_H) {r : (Int32 × mx_H)} (hf : f_X13_constant nn a0 a1 a2 a3 a4 h = some r) : mx_R X F L 453 [.ref a0, .int a1, .int a2, .int a3, .int a4] h (some (.int r.1), r.2, 0, 0) := by
  have hm : mx_mt 453 = some (yX13_constant, cX13_constant, 6, (some .int)) := mt_X13_constant
  show mx_S X F L 453 0 [(0, .ref a0), (1, .int a1), (2, .int a2), (3, .int a3), (4, .int a4)] [] h 0 0 (some (.int r.1), r.2, 0, 0)
  unfold f_X13_constant at hf
  refine mx_S.pu (pc2 := 1) (lv2 := [(0, .ref a0), (1, .int a1), (2, .int a2), (3, .int a3), (4, .int a4)]) (st2 := [.int a1]) hm dX13_constant_0 rfl ?_
  refine sx_ic (v := 1) hm dX13_constant_1 (by decide) ?_
  rcases mx_if_el hf with ⟨c35, hf⟩ | ⟨c35, hf⟩
  · refine sb_ic_le hm dX13_constant_2 (tgt := 71) rfl (fun _ => ?_) (fun z => absurd c35 z)
    exact j_X13_constant_71_ok X hF hL nn a0 a1 a2 a3 a4 h hf
  · refine sb_ic_le hm dX13_constant_2 (tgt := 71) rfl (fun z => absurd z c35) (fun _ => ?_)
    refine sx_ic (v := 1) hm dX13_constant_5 (by decide) ?_
    refine mx_S.pu (pc2 := 8) (lv2 := [(5, .int 1), (0, .ref a0), (1, .int a1), (2, .int a2), (3, .int a3), (4, .int a4)]) (st2 := []) hm dX13_constant_6 rfl ?_
    refine mx_S.ext [(0, .ref a0), (1, .int a1), (2, .int a2), (3, .int a3), (4, .int a4), (5, .int 1)] (mx_sub_pos [1, 2, 3, 4, 5, 0] rfl (show ([5, 0, 1, 2, 3, 4] : List Nat).Nodup by decide)) ?_
    exact w_X13_constant_8_ok X hF hL nn nn a0 a1 a2 a3 a4 1 h _ hf
set_option maxHeartbeats 4000000 in
set_option maxRecDepth 20000 in
theorem f_X13_spell_ok (X : Nat × (Nat → Int32)) {F L : Nat} (hF : 0 ≤ F) (hL : 0 ≤ L) (nn : Nat) (a0 : Nat) (a1 : Int32) (h : mx_H) {r : mx_H} (hf : f_X13_spell nn a0 a1 h = some r) : mx_R X F L 448 [.ref a0, .int a1] h (none, r, 0, 0) := by
  have hm : mx_mt 448 = some (yX13_spell, cX13_spell, 2, none) := mt_X13_spell
  show mx_S X F L 448 0 [(0, .ref a0), (1, .int a1)] [] h 0 0 (none, r, 0, 0)
  unfold f_X13_spell at hf
  refine mx_S.pu (pc2 := 1) (lv2 := [(0, .ref a0), (1, .int a1)]) (st2 := [.ref a0]) hm dX13_spell_0 rfl ?_
  replace hf := mx_sv_el hf; obtain ⟨v1, e_v1, hf⟩ := hf
  refine sx_get hm dX13_spell_1 rs_RX13_144 (xgr_el e_v1) ?_
  clear e_v1
  refine mx_S.pu (pc2 := 5) (lv2 := [(0, .ref a0), (1, .int a1)]) (st2 := [.ref a0, .ref v1]) hm dX13_spell_4 rfl ?_
  replace hf := mx_sv_el hf; obtain ⟨v2, e_v2, hf⟩ := hf
  refine sx_get hm dX13_spell_5 rs_RX13_590 (xgi_el e_v2) ?_
  clear e_v2
  refine mx_S.pu (pc2 := 9) (lv2 := [(0, .ref a0), (1, .int a1)]) (st2 := [.int a1, .int v2, .ref v1]) hm dX13_spell_8 rfl ?_
  replace hf := mx_sv_el hf; obtain ⟨h3, e_h3, hf⟩ := hf
  refine sx_ast hm dX13_spell_9 e_h3 ?_
  clear e_h3
  refine mx_S.pu (pc2 := 11) (lv2 := [(0, .ref a0), (1, .int a1)]) (st2 := [.ref a0]) hm dX13_spell_10 rfl ?_
  refine mx_S.pu (pc2 := 12) (lv2 := [(0, .ref a0), (1, .int a1)]) (st2 := [.ref a0, .ref a0]) hm dX13_spell_11 rfl ?_
  replace hf := mx_sv_el hf; obtain ⟨v4, e_v4, hf⟩ := hf
  refine sx_get hm dX13_spell_12 rs_RX13_590 (xgi_el e_v4) ?_
  clear e_v4
  refine sx_ic (v := 1) hm dX13_spell_15 (by decide) ?_
  replace hf := xl_el hf; obtain ⟨v5, e_v5, hf⟩ := hf
  refine mx_S.pu (pc2 := 17) (lv2 := [(0, .ref a0), (1, .int a1)]) (st2 := [.int v5, .ref a0]) hm dX13_spell_16 (by rw [← e_v5]; rfl) ?_
  clear e_v5
  replace hf := mx_sv_el hf; obtain ⟨h6, e_h6, hf⟩ := hf
  refine sx_put hm dX13_spell_17 rs_RX13_590 ft_13_66 ⟨rfl, rfl⟩ (fun z => by cases z) e_h6 ?_
  clear e_h6
  cases hf
  exact sx_ret hm dX13_spell_20 rfl
set_option maxHeartbeats 4000000 in
set_option maxRecDepth 20000 in
theorem w_X13_spellToken_2_ok (X : Nat × (Nat → Int32)) {F L : Nat} (hF : 1 ≤ F) (hL : 21 ≤ L) (nn : Nat) : ∀ (k : Nat) (l0 : Nat) (l1 : Int32) (l2 : Int32) (h : mx_H) (r : mx_H), w_X13_spellToken_2 nn k l0 l1 l2 h = some r → mx_S X F L 449 2 [(0, .ref l0), (1, .int l1), (2, .int l2)] [] h 0 0 (none, r, 0, 0) := by
  have hm : mx_mt 449 = some (yX13_spellToken, cX13_spellToken, 3, none) := mt_X13_spellToken
  intro k
  induction k with
  | zero => intro l0 l1 l2 h r hf; cases hf
  | succ k ih =>
    intro l0 l1 l2 h r hf
    unfold w_X13_spellToken_2 at hf
    refine mx_S.pu (pc2 := 3) (lv2 := [(0, .ref l0), (1, .int l1), (2, .int l2)]) (st2 := [.int l2]) hm dX13_spellToken_2 rfl ?_
    refine mx_S.pu (pc2 := 4) (lv2 := [(0, .ref l0), (1, .int l1), (2, .int l2)]) (st2 := [.ref l0, .int l2]) hm dX13_spellToken_3 rfl ?_
    replace hf := mx_sv_el hf; obtain ⟨v1, e_v1, hf⟩ := hf
    refine sx_get hm dX13_spellToken_4 rs_RX13_22 (xgr_el e_v1) ?_
    clear e_v1
    refine mx_S.pu (pc2 := 8) (lv2 := [(0, .ref l0), (1, .int l1), (2, .int l2)]) (st2 := [.int l1, .ref v1, .int l2]) hm dX13_spellToken_7 rfl ?_
    replace hf := mx_sv_el hf; obtain ⟨v2, e_v2, hf⟩ := hf
    refine sx_ald hm dX13_spellToken_8 e_v2 ?_
    clear e_v2
    rcases mx_if_el hf with ⟨c11, hf⟩ | ⟨c11, hf⟩
    · refine sb_ic_ge hm dX13_spellToken_9 (tgt := 35) rfl (fun _ => ?_) (fun z => absurd c11 z)
      cases hf
      exact sx_ret hm dX13_spellToken_35 rfl
    · refine sb_ic_ge hm dX13_spellToken_9 (tgt := 35) rfl (fun z => absurd z c11) (fun _ => ?_)
      refine mx_S.pu (pc2 := 13) (lv2 := [(0, .ref l0), (1, .int l1), (2, .int l2)]) (st2 := [.ref l0]) hm dX13_spellToken_12 rfl ?_
      refine mx_S.pu (pc2 := 14) (lv2 := [(0, .ref l0), (1, .int l1), (2, .int l2)]) (st2 := [.ref l0, .ref l0]) hm dX13_spellToken_13 rfl ?_
      replace hf := mx_sv_el hf; obtain ⟨v3, e_v3, hf⟩ := hf
      refine sx_get hm dX13_spellToken_14 rs_RX13_13 (xgr_el e_v3) ?_
      clear e_v3
      refine mx_S.pu (pc2 := 18) (lv2 := [(0, .ref l0), (1, .int l1), (2, .int l2)]) (st2 := [.ref l0, .ref v3, .ref l0]) hm dX13_spellToken_17 rfl ?_
      replace hf := mx_sv_el hf; obtain ⟨v4, e_v4, hf⟩ := hf
      refine sx_get hm dX13_spellToken_18 rs_RX13_19 (xgr_el e_v4) ?_
      clear e_v4
      refine mx_S.pu (pc2 := 22) (lv2 := [(0, .ref l0), (1, .int l1), (2, .int l2)]) (st2 := [.int l1, .ref v4, .ref v3, .ref l0]) hm dX13_spellToken_21 rfl ?_
      replace hf := mx_sv_el hf; obtain ⟨v5, e_v5, hf⟩ := hf
      refine sx_ald hm dX13_spellToken_22 e_v5 ?_
      clear e_v5
      refine mx_S.pu (pc2 := 24) (lv2 := [(0, .ref l0), (1, .int l1), (2, .int l2)]) (st2 := [.int l2, .int v5, .ref v3, .ref l0]) hm dX13_spellToken_23 rfl ?_
      replace hf := xl_el hf; obtain ⟨v6, e_v6, hf⟩ := hf
      refine mx_S.pu (pc2 := 25) (lv2 := [(0, .ref l0), (1, .int l1), (2, .int l2)]) (st2 := [.int v6, .ref v3, .ref l0]) hm dX13_spellToken_24 (by rw [← e_v6]; rfl) ?_
      clear e_v6
      replace hf := mx_sv_el hf; obtain ⟨v7, e_v7, hf⟩ := hf
      refine sx_ald hm dX13_spellToken_25 e_v7 ?_
      clear e_v7
      replace hf := mx_gd_el hf; obtain ⟨c8, hf⟩ := hf
      replace hf := mx_sv_el hf; obtain ⟨u9, e_u9, hf⟩ := hf
      refine sx_cv hm dX13_spellToken_26 rs_RX13_593 mt_X13_spell [.int v7] [] (b := l0) (ci := 13) rfl rfl rfl c8 (Nat.le_of_ble_eq_true rfl) (Nat.le_of_ble_eq_true rfl) (by omega) (by omega) (f_X13_spell_ok X (by omega) (by omega) nn l0 v7 h e_u9) ?_
      clear e_u9
      show mx_S X F L 449 29 [(0, .ref l0), (1, .int l1), (2, .int l2)] [] u9 0 0 (none, r, 0, 0)
      replace hf := xl_el hf; obtain ⟨v10, e_v10, hf⟩ := hf
      refine mx_S.pu (pc2 := 32) (lv2 := [(2, .int v10), (0, .ref l0), (1, .int l1)]) (st2 := []) hm dX13_spellToken_29 (by rw [← e_v10]; rfl) ?_
      clear e_v10
      refine mx_S.pu (pc2 := 2) (lv2 := [(2, .int v10), (0, .ref l0), (1, .int l1)]) (st2 := []) hm dX13_spellToken_32 rfl ?_
      refine mx_S.ext [(0, .ref l0), (1, .int l1), (2, .int v10)] (mx_sub_pos [1, 2, 0] rfl (show ([2, 0, 1] : List Nat).Nodup by decide)) ?_
      exact ih l0 l1 v10 u9 _ hf
set_option maxHeartbeats 4000000 in
set_option maxRecDepth 20000 in
theorem f_X13_spellToken_ok (X : Nat × (Nat → Int32)) {F L : Nat} (hF : 1 ≤ F) (hL : 21 ≤ L) (nn : Nat) (a0 : Nat) (a1 : Int32) (h : mx_H) {r : mx_H} (hf : f_X13_spellToken nn a0 a1 h = some r) : mx_R X F L 449 [.ref a0, .int a1] h (none, r, 0, 0) := by
  have hm : mx_mt 449 = some (yX13_spellToken, cX13_spellToken, 3, none) := mt_X13_spellToken
  show mx_S X F L 449 0 [(0, .ref a0), (1, .int a1)] [] h 0 0 (none, r, 0, 0)
  unfold f_X13_spellToken at hf
  refine sx_ic (v := 0) hm dX13_spellToken_0 (by decide) ?_
  refine mx_S.pu (pc2 := 2) (lv2 := [(2, .int 0), (0, .ref a0), (1, .int a1)]) (st2 := []) hm dX13_spellToken_1 rfl ?_
  refine mx_S.ext [(0, .ref a0), (1, .int a1), (2, .int 0)] (mx_sub_pos [1, 2, 0] rfl (show ([2, 0, 1] : List Nat).Nodup by decide)) ?_
  exact w_X13_spellToken_2_ok X hF hL nn nn a0 a1 0 h _ hf
set_option maxHeartbeats 4000000 in
set_option maxRecDepth 20000 in
theorem w_X13_spellClass_24_ok (X : Nat × (Nat → Int32)) {F L : Nat} (hF : 4 ≤ F) (hL : 85 ≤ L) (nn : Nat) : ∀ (k : Nat) (l0 : Nat) (l1 : Int32) (l2 : Int32) (l3 : Int32) (h : mx_H) (r : mx_H), w_X13_spellClass_24 nn k l0 l1 l2 l3 h = some r → mx_S X F L 450 24 [(0, .ref l0), (1, .int l1), (2, .int l2), (3, .int l3)] [] h 0 0 (none, r, 0, 0) := by
  have hm : mx_mt 450 = some (yX13_spellClass, cX13_spellClass, 4, none) := mt_X13_spellClass
  intro k
  induction k with
  | zero => intro l0 l1 l2 l3 h r hf; cases hf
  | succ k ih =>
    intro l0 l1 l2 l3 h r hf
    unfold w_X13_spellClass_24 at hf
    refine mx_S.pu (pc2 := 25) (lv2 := [(0, .ref l0), (1, .int l1), (2, .int l2), (3, .int l3)]) (st2 := [.int l3]) hm dX13_spellClass_24 rfl ?_
    refine sx_ldcw hm dX13_spellClass_25 rs_RX13_477 ?_
    replace hf := mx_sv_el hf; obtain ⟨v1, e_v1, hf⟩ := hf
    refine sx_sln hm dX13_spellClass_28 rs_RX13_328 e_v1 (by omega) (by omega) (Nat.le_of_ble_eq_true rfl) ?_
    clear e_v1
    rcases mx_if_el hf with ⟨c12, hf⟩ | ⟨c12, hf⟩
    · refine sb_ic_ge hm dX13_spellClass_31 (tgt := 74) rfl (fun _ => ?_) (fun z => absurd c12 z)
      cases hf
      exact sx_ret hm dX13_spellClass_74 rfl
    · refine sb_ic_ge hm dX13_spellClass_31 (tgt := 74) rfl (fun z => absurd z c12) (fun _ => ?_)
      refine sx_ldcw hm dX13_spellClass_34 rs_RX13_477 ?_
      refine mx_S.pu (pc2 := 38) (lv2 := [(0, .ref l0), (1, .int l1), (2, .int l2), (3, .int l3)]) (st2 := [.int l3, .ref (1000000000 + 3)]) hm dX13_spellClass_37 rfl ?_
      replace hf := mx_sv_el hf; obtain ⟨v2, e_v2, hf⟩ := hf
      refine sx_chr hm dX13_spellClass_38 rs_RX13_334 e_v2 (by omega) (by omega) (Nat.le_of_ble_eq_true rfl) ?_
      clear e_v2
      refine sx_bi (v := 32) hm dX13_spellClass_41 (by decide) ?_
      rcases mx_if_el hf with ⟨c11, hf⟩ | ⟨c11, hf⟩
      · refine sb_ic_ne hm dX13_spellClass_43 (tgt := 52) rfl (fun _ => ?_) (fun z => absurd c11 z)
        refine mx_S.pu (pc2 := 53) (lv2 := [(0, .ref l0), (1, .int l1), (2, .int l2), (3, .int l3)]) (st2 := [.int l2]) hm dX13_spellClass_52 rfl ?_
        refine mx_S.pu (pc2 := 54) (lv2 := [(0, .ref l0), (1, .int l1), (2, .int l2), (3, .int l3)]) (st2 := [.int l1, .int l2]) hm dX13_spellClass_53 rfl ?_
        rcases mx_if_el hf with ⟨c8, hf⟩ | ⟨c8, hf⟩
        · refine sb_ic_ne hm dX13_spellClass_54 (tgt := 68) rfl (fun _ => ?_) (fun z => absurd c8 z)
          replace hf := xl_el hf; obtain ⟨v3, e_v3, hf⟩ := hf
          refine mx_S.pu (pc2 := 71) (lv2 := [(3, .int v3), (0, .ref l0), (1, .int l1), (2, .int l2)]) (st2 := []) hm dX13_spellClass_68 (by rw [← e_v3]; rfl) ?_
          clear e_v3
          refine mx_S.pu (pc2 := 24) (lv2 := [(3, .int v3), (0, .ref l0), (1, .int l1), (2, .int l2)]) (st2 := []) hm dX13_spellClass_71 rfl ?_
          refine mx_S.ext [(0, .ref l0), (1, .int l1), (2, .int l2), (3, .int v3)] (mx_sub_pos [1, 2, 3, 0] rfl (show ([3, 0, 1, 2] : List Nat).Nodup by decide)) ?_
          exact ih l0 l1 l2 v3 h _ hf
        · refine sb_ic_ne hm dX13_spellClass_54 (tgt := 68) rfl (fun z => absurd z c8) (fun _ => ?_)
          refine mx_S.pu (pc2 := 58) (lv2 := [(0, .ref l0), (1, .int l1), (2, .int l2), (3, .int l3)]) (st2 := [.ref l0]) hm dX13_spellClass_57 rfl ?_
          refine sx_ldcw hm dX13_spellClass_58 rs_RX13_477 ?_
          refine mx_S.pu (pc2 := 62) (lv2 := [(0, .ref l0), (1, .int l1), (2, .int l2), (3, .int l3)]) (st2 := [.int l3, .ref (1000000000 + 3), .ref l0]) hm dX13_spellClass_61 rfl ?_
          replace hf := mx_sv_el hf; obtain ⟨v4, e_v4, hf⟩ := hf
          refine sx_chr hm dX13_spellClass_62 rs_RX13_334 e_v4 (by omega) (by omega) (Nat.le_of_ble_eq_true rfl) ?_
          clear e_v4
          replace hf := mx_gd_el hf; obtain ⟨c5, hf⟩ := hf
          replace hf := mx_sv_el hf; obtain ⟨u6, e_u6, hf⟩ := hf
          refine sx_cv hm dX13_spellClass_65 rs_RX13_593 mt_X13_spell [.int v4] [] (b := l0) (ci := 13) rfl rfl rfl c5 (Nat.le_of_ble_eq_true rfl) (Nat.le_of_ble_eq_true rfl) (by omega) (by omega) (f_X13_spell_ok X (by omega) (by omega) nn l0 v4 h e_u6) ?_
          clear e_u6
          show mx_S X F L 450 68 [(0, .ref l0), (1, .int l1), (2, .int l2), (3, .int l3)] [] u6 0 0 (none, r, 0, 0)
          replace hf := xl_el hf; obtain ⟨v7, e_v7, hf⟩ := hf
          refine mx_S.pu (pc2 := 71) (lv2 := [(3, .int v7), (0, .ref l0), (1, .int l1), (2, .int l2)]) (st2 := []) hm dX13_spellClass_68 (by rw [← e_v7]; rfl) ?_
          clear e_v7
          refine mx_S.pu (pc2 := 24) (lv2 := [(3, .int v7), (0, .ref l0), (1, .int l1), (2, .int l2)]) (st2 := []) hm dX13_spellClass_71 rfl ?_
          refine mx_S.ext [(0, .ref l0), (1, .int l1), (2, .int l2), (3, .int v7)] (mx_sub_pos [1, 2, 3, 0] rfl (show ([3, 0, 1, 2] : List Nat).Nodup by decide)) ?_
          exact ih l0 l1 l2 v7 u6 _ hf
      · refine sb_ic_ne hm dX13_spellClass_43 (tgt := 52) rfl (fun z => absurd z c11) (fun _ => ?_)
        replace hf := xl_el hf; obtain ⟨v9, e_v9, hf⟩ := hf
        refine mx_S.pu (pc2 := 49) (lv2 := [(2, .int v9), (0, .ref l0), (1, .int l1), (3, .int l3)]) (st2 := []) hm dX13_spellClass_46 (by rw [← e_v9]; rfl) ?_
        clear e_v9
        refine mx_S.pu (pc2 := 68) (lv2 := [(2, .int v9), (0, .ref l0), (1, .int l1), (3, .int l3)]) (st2 := []) hm dX13_spellClass_49 rfl ?_
        replace hf := xl_el hf; obtain ⟨v10, e_v10, hf⟩ := hf
        refine mx_S.pu (pc2 := 71) (lv2 := [(3, .int v10), (2, .int v9), (0, .ref l0), (1, .int l1)]) (st2 := []) hm dX13_spellClass_68 (by rw [← e_v10]; rfl) ?_
        clear e_v10
        refine mx_S.pu (pc2 := 24) (lv2 := [(3, .int v10), (2, .int v9), (0, .ref l0), (1, .int l1)]) (st2 := []) hm dX13_spellClass_71 rfl ?_
        refine mx_S.ext [(0, .ref l0), (1, .int l1), (2, .int v9), (3, .int v10)] (mx_sub_pos [2, 3, 1, 0] rfl (show ([3, 2, 0, 1] : List Nat).Nodup by decide)) ?_
        exact ih l0 l1 v9 v10 h _ hf
set_option maxHeartbeats 4000000 in
set_option maxRecDepth 20000 in
theorem f_X13_spellClass_ok (X : Nat × (Nat → Int32)) {F L : Nat} (hF : 4 ≤ F) (hL : 85 ≤ L) (nn : Nat) (a0 : Nat) (a1 : Int32) (h : mx_H) {r : mx_H} (hf : f_X13_spellClass nn a0 a1 h = some r) : mx_R X F L 450 [.ref a0, .int a1] h (none, r, 0, 0) := by
  have hm : mx_mt 450 = some (yX13_spellClass, cX13_spellClass, 4, none) := mt_X13_spellClass
  show mx_S X F L 450 0 [(0, .ref a0), (1, .int a1)] [] h 0 0 (none, r, 0, 0)
  unfold f_X13_spellClass at hf
  refine mx_S.pu (pc2 := 1) (lv2 := [(0, .ref a0), (1, .int a1)]) (st2 := [.int a1]) hm dX13_spellClass_0 rfl ?_
  refine sx_bi (v := 8) hm dX13_spellClass_1 (by decide) ?_
  rcases mx_if_el hf with ⟨c18, hf⟩ | ⟨c18, hf⟩
  · refine sb_ic_lt hm dX13_spellClass_3 (tgt := 20) rfl (fun _ => ?_) (fun z => absurd c18 z)
    refine sx_ic (v := (-1)) hm dX13_spellClass_20 (by decide) ?_
    refine mx_S.pu (pc2 := 22) (lv2 := [(2, .int (-1)), (0, .ref a0), (1, .int a1)]) (st2 := []) hm dX13_spellClass_21 rfl ?_
    refine sx_ic (v := 0) hm dX13_spellClass_22 (by decide) ?_
    refine mx_S.pu (pc2 := 24) (lv2 := [(3, .int 0), (2, .int (-1)), (0, .ref a0), (1, .int a1)]) (st2 := []) hm dX13_spellClass_23 rfl ?_
    refine mx_S.ext [(0, .ref a0), (1, .int a1), (2, .int (-1)), (3, .int 0)] (mx_sub_pos [2, 3, 1, 0] rfl (show ([3, 2, 0, 1] : List Nat).Nodup by decide)) ?_
    exact w_X13_spellClass_24_ok X hF hL nn nn a0 a1 (-1) 0 h _ hf
  · refine sb_ic_lt hm dX13_spellClass_3 (tgt := 20) rfl (fun z => absurd z c18) (fun _ => ?_)
    refine mx_S.pu (pc2 := 7) (lv2 := [(0, .ref a0), (1, .int a1)]) (st2 := [.ref a0]) hm dX13_spellClass_6 rfl ?_
    refine mx_S.pu (pc2 := 8) (lv2 := [(0, .ref a0), (1, .int a1)]) (st2 := [.ref a0, .ref a0]) hm dX13_spellClass_7 rfl ?_
    replace hf := mx_sv_el hf; obtain ⟨v13, e_v13, hf⟩ := hf
    refine sx_get hm dX13_spellClass_8 rs_RX13_62 (xgr_el e_v13) ?_
    clear e_v13
    refine mx_S.pu (pc2 := 12) (lv2 := [(0, .ref a0), (1, .int a1)]) (st2 := [.int a1, .ref v13, .ref a0]) hm dX13_spellClass_11 rfl ?_
    refine sx_bi (v := 8) hm dX13_spellClass_12 (by decide) ?_
    replace hf := xl_el hf; obtain ⟨v14, e_v14, hf⟩ := hf
    refine mx_S.pu (pc2 := 15) (lv2 := [(0, .ref a0), (1, .int a1)]) (st2 := [.int v14, .ref v13, .ref a0]) hm dX13_spellClass_14 (by rw [← e_v14]; rfl) ?_
    clear e_v14
    replace hf := mx_sv_el hf; obtain ⟨v15, e_v15, hf⟩ := hf
    refine sx_ald hm dX13_spellClass_15 e_v15 ?_
    clear e_v15
    replace hf := mx_gd_el hf; obtain ⟨c16, hf⟩ := hf
    replace hf := mx_sv_el hf; obtain ⟨u17, e_u17, hf⟩ := hf
    refine sx_cv hm dX13_spellClass_16 rs_RX13_596 mt_X13_spellToken [.int v15] [] (b := a0) (ci := 13) rfl rfl rfl c16 (Nat.le_of_ble_eq_true rfl) (Nat.le_of_ble_eq_true rfl) (by omega) (by omega) (f_X13_spellToken_ok X (by omega) (by omega) nn a0 v15 h e_u17) ?_
    clear e_u17
    show mx_S X F L 450 19 [(0, .ref a0), (1, .int a1)] [] u17 0 0 (none, r, 0, 0)
    cases hf
    exact sx_ret hm dX13_spellClass_19 rfl
set_option maxHeartbeats 4000000 in
set_option maxRecDepth 20000 in
theorem j_X13_spellKind_54_ok (X : Nat × (Nat → Int32)) {F L : Nat} (hF : 5 ≤ F) (hL : 108 ≤ L) (nn : Nat) (l0 : Nat) (l1 : Int32) (h : mx_H) {r : mx_H} (hf : j_X13_spellKind_54 nn l0 l1 h = some r) : mx_S X F L 451 54 [(0, .ref l0), (1, .int l1)] [] h 0 0 (none, r, 0, 0) := by
  have hm : mx_mt 451 = some (yX13_spellKind, cX13_spellKind, 2, none) := mt_X13_spellKind
  unfold j_X13_spellKind_54 at hf
  refine mx_S.pu (pc2 := 55) (lv2 := [(0, .ref l0), (1, .int l1)]) (st2 := [.int l1]) hm dX13_spellKind_54 rfl ?_
  refine sx_ic (v := 4) hm dX13_spellKind_55 (by decide) ?_
  rcases mx_if_el hf with ⟨c11, hf⟩ | ⟨c11, hf⟩
  · refine sb_ic_ne hm dX13_spellKind_56 (tgt := 66) rfl (fun _ => ?_) (fun z => absurd c11 z)
    refine mx_S.pu (pc2 := 67) (lv2 := [(0, .ref l0), (1, .int l1)]) (st2 := [.ref l0]) hm dX13_spellKind_66 rfl ?_
    refine sx_bi (v := 76) hm dX13_spellKind_67 (by decide) ?_
    replace hf := mx_gd_el hf; obtain ⟨c1, hf⟩ := hf
    replace hf := mx_sv_el hf; obtain ⟨u2, e_u2, hf⟩ := hf
    refine sx_cv hm dX13_spellKind_69 rs_RX13_593 mt_X13_spell [.int 76] [] (b := l0) (ci := 13) rfl rfl rfl c1 (Nat.le_of_ble_eq_true rfl) (Nat.le_of_ble_eq_true rfl) (by omega) (by omega) (f_X13_spell_ok X (by omega) (by omega) nn l0 76 h e_u2) ?_
    clear e_u2
    show mx_S X F L 451 72 [(0, .ref l0), (1, .int l1)] [] u2 0 0 (none, r, 0, 0)
    refine mx_S.pu (pc2 := 73) (lv2 := [(0, .ref l0), (1, .int l1)]) (st2 := [.ref l0]) hm dX13_spellKind_72 rfl ?_
    refine mx_S.pu (pc2 := 74) (lv2 := [(0, .ref l0), (1, .int l1)]) (st2 := [.int l1, .ref l0]) hm dX13_spellKind_73 rfl ?_
    refine sx_bi (v := 8) hm dX13_spellKind_74 (by decide) ?_
    replace hf := xl_el hf; obtain ⟨v3, e_v3, hf⟩ := hf
    refine mx_S.pu (pc2 := 77) (lv2 := [(0, .ref l0), (1, .int l1)]) (st2 := [.int v3, .ref l0]) hm dX13_spellKind_76 (by rw [← e_v3]; rfl) ?_
    clear e_v3
    refine sx_ic (v := 2) hm dX13_spellKind_77 (by decide) ?_
    replace hf := xl_el hf; obtain ⟨v4, e_v4, hf⟩ := hf
    refine sx_idiv (v := v4) hm dX13_spellKind_78 (by decide) e_v4 ?_
    clear e_v4
    replace hf := mx_gd_el hf; obtain ⟨c5, hf⟩ := hf
    replace hf := mx_sv_el hf; obtain ⟨u6, e_u6, hf⟩ := hf
    refine sx_cv hm dX13_spellKind_79 rs_RX13_599 mt_X13_spellClass [.int v4] [] (b := l0) (ci := 13) rfl rfl rfl c5 (Nat.le_of_ble_eq_true rfl) (Nat.le_of_ble_eq_true rfl) (by omega) (by omega) (f_X13_spellClass_ok X (by omega) (by omega) nn l0 v4 u2 e_u6) ?_
    clear e_u6
    show mx_S X F L 451 82 [(0, .ref l0), (1, .int l1)] [] u6 0 0 (none, r, 0, 0)
    refine mx_S.pu (pc2 := 83) (lv2 := [(0, .ref l0), (1, .int l1)]) (st2 := [.ref l0]) hm dX13_spellKind_82 rfl ?_
    refine sx_bi (v := 59) hm dX13_spellKind_83 (by decide) ?_
    replace hf := mx_gd_el hf; obtain ⟨c7, hf⟩ := hf
    replace hf := mx_sv_el hf; obtain ⟨u8, e_u8, hf⟩ := hf
    refine sx_cv hm dX13_spellKind_85 rs_RX13_593 mt_X13_spell [.int 59] [] (b := l0) (ci := 13) rfl rfl rfl c7 (Nat.le_of_ble_eq_true rfl) (Nat.le_of_ble_eq_true rfl) (by omega) (by omega) (f_X13_spell_ok X (by omega) (by omega) nn l0 59 u6 e_u8) ?_
    clear e_u8
    show mx_S X F L 451 88 [(0, .ref l0), (1, .int l1)] [] u8 0 0 (none, r, 0, 0)
    cases hf
    exact sx_ret hm dX13_spellKind_88 rfl
  · refine sb_ic_ne hm dX13_spellKind_56 (tgt := 66) rfl (fun z => absurd z c11) (fun _ => ?_)
    refine mx_S.pu (pc2 := 60) (lv2 := [(0, .ref l0), (1, .int l1)]) (st2 := [.ref l0]) hm dX13_spellKind_59 rfl ?_
    refine sx_bi (v := 73) hm dX13_spellKind_60 (by decide) ?_
    replace hf := mx_gd_el hf; obtain ⟨c9, hf⟩ := hf
    replace hf := mx_sv_el hf; obtain ⟨u10, e_u10, hf⟩ := hf
    refine sx_cv hm dX13_spellKind_62 rs_RX13_593 mt_X13_spell [.int 73] [] (b := l0) (ci := 13) rfl rfl rfl c9 (Nat.le_of_ble_eq_true rfl) (Nat.le_of_ble_eq_true rfl) (by omega) (by omega) (f_X13_spell_ok X (by omega) (by omega) nn l0 73 h e_u10) ?_
    clear e_u10
    show mx_S X F L 451 65 [(0, .ref l0), (1, .int l1)] [] u10 0 0 (none, r, 0, 0)
    cases hf
    exact sx_ret hm dX13_spellKind_65 rfl
set_option maxHeartbeats 4000000 in
set_option maxRecDepth 20000 in
theorem f_X13_spellKind_ok (X : Nat × (Nat → Int32)) {F L : Nat} (hF : 5 ≤ F) (hL : 108 ≤ L) (nn : Nat) (a0 : Nat) (a1 : Int32) (h : mx_H) {r : mx_H} (hf : f_X13_spellKind nn a0 a1 h = some r) : mx_R X F L 451 [.ref a0, .int a1] h (none, r, 0, 0) := by
  have hm : mx_mt 451 = some (yX13_spellKind, cX13_spellKind, 2, none) := mt_X13_spellKind
  show mx_S X F L 451 0 [(0, .ref a0), (1, .int a1)] [] h 0 0 (none, r, 0, 0)
  unfold f_X13_spellKind at hf
  refine mx_S.pu (pc2 := 1) (lv2 := [(0, .ref a0), (1, .int a1)]) (st2 := [.int a1]) hm dX13_spellKind_0 rfl ?_
  rcases mx_if_el hf with ⟨c24, hf⟩ | ⟨c24, hf⟩
  · refine sb_if_ne hm dX13_spellKind_1 (tgt := 13) rfl (fun _ => ?_) (fun z => absurd c24 z)
    refine mx_S.pu (pc2 := 14) (lv2 := [(0, .ref a0), (1, .int a1)]) (st2 := [.int a1]) hm dX13_spellKind_13 rfl ?_
    refine sx_ic (v := 1) hm dX13_spellKind_14 (by decide) ?_
    rcases mx_if_el hf with ⟨c21, hf⟩ | ⟨c21, hf⟩
    · refine sb_ic_ne hm dX13_spellKind_15 (tgt := 27) rfl (fun _ => ?_) (fun z => absurd c21 z)
      refine mx_S.pu (pc2 := 28) (lv2 := [(0, .ref a0), (1, .int a1)]) (st2 := [.int a1]) hm dX13_spellKind_27 rfl ?_
      refine sx_ic (v := 3) hm dX13_spellKind_28 (by decide) ?_
      rcases mx_if_el hf with ⟨c18, hf⟩ | ⟨c18, hf⟩
      · refine sb_ic_ne hm dX13_spellKind_29 (tgt := 41) rfl (fun _ => ?_) (fun z => absurd c18 z)
        refine mx_S.pu (pc2 := 42) (lv2 := [(0, .ref a0), (1, .int a1)]) (st2 := [.int a1]) hm dX13_spellKind_41 rfl ?_
        replace hf := mx_sv_el hf; obtain ⟨u12, e_u12, hf⟩ := hf
        refine sx_cs hm dX13_spellKind_42 rs_RX13_485 mt_X13_isArray [.int a1] [] rfl rfl (Nat.le_of_ble_eq_true rfl) (Nat.le_of_ble_eq_true rfl) (by omega) (by omega) (f_X13_isArray_ok X (by omega) (by omega) nn a1 h e_u12) ?_
        clear e_u12
        show mx_S X F L 451 45 [(0, .ref a0), (1, .int a1)] [.int u12.1] u12.2 0 0 (none, r, 0, 0)
        rcases mx_if_el hf with ⟨c15, hf⟩ | ⟨c15, hf⟩
        · refine sb_if_eq hm dX13_spellKind_45 (tgt := 54) rfl (fun _ => ?_) (fun z => absurd c15 z)
          exact j_X13_spellKind_54_ok X hF hL nn a0 a1 u12.2 hf
        · refine sb_if_eq hm dX13_spellKind_45 (tgt := 54) rfl (fun z => absurd z c15) (fun _ => ?_)
          refine mx_S.pu (pc2 := 49) (lv2 := [(0, .ref a0), (1, .int a1)]) (st2 := [.ref a0]) hm dX13_spellKind_48 rfl ?_
          refine sx_bi (v := 91) hm dX13_spellKind_49 (by decide) ?_
          replace hf := mx_gd_el hf; obtain ⟨c13, hf⟩ := hf
          replace hf := mx_sv_el hf; obtain ⟨u14, e_u14, hf⟩ := hf
          refine sx_cv hm dX13_spellKind_51 rs_RX13_593 mt_X13_spell [.int 91] [] (b := a0) (ci := 13) rfl rfl rfl c13 (Nat.le_of_ble_eq_true rfl) (Nat.le_of_ble_eq_true rfl) (by omega) (by omega) (f_X13_spell_ok X (by omega) (by omega) nn a0 91 u12.2 e_u14) ?_
          clear e_u14
          show mx_S X F L 451 54 [(0, .ref a0), (1, .int a1)] [] u14 0 0 (none, r, 0, 0)
          exact j_X13_spellKind_54_ok X hF hL nn a0 a1 u14 hf
      · refine sb_ic_ne hm dX13_spellKind_29 (tgt := 41) rfl (fun z => absurd z c18) (fun _ => ?_)
        refine mx_S.pu (pc2 := 33) (lv2 := [(0, .ref a0), (1, .int a1)]) (st2 := [.ref a0]) hm dX13_spellKind_32 rfl ?_
        refine sx_bi (v := 86) hm dX13_spellKind_33 (by decide) ?_
        replace hf := mx_gd_el hf; obtain ⟨c16, hf⟩ := hf
        replace hf := mx_sv_el hf; obtain ⟨u17, e_u17, hf⟩ := hf
        refine sx_cv hm dX13_spellKind_35 rs_RX13_593 mt_X13_spell [.int 86] [] (b := a0) (ci := 13) rfl rfl rfl c16 (Nat.le_of_ble_eq_true rfl) (Nat.le_of_ble_eq_true rfl) (by omega) (by omega) (f_X13_spell_ok X (by omega) (by omega) nn a0 86 h e_u17) ?_
        clear e_u17
        show mx_S X F L 451 38 [(0, .ref a0), (1, .int a1)] [] u17 0 0 (none, r, 0, 0)
        refine mx_S.pu (pc2 := 88) (lv2 := [(0, .ref a0), (1, .int a1)]) (st2 := []) hm dX13_spellKind_38 rfl ?_
        cases hf
        exact sx_ret hm dX13_spellKind_88 rfl
    · refine sb_ic_ne hm dX13_spellKind_15 (tgt := 27) rfl (fun z => absurd z c21) (fun _ => ?_)
      refine mx_S.pu (pc2 := 19) (lv2 := [(0, .ref a0), (1, .int a1)]) (st2 := [.ref a0]) hm dX13_spellKind_18 rfl ?_
      refine sx_bi (v := 90) hm dX13_spellKind_19 (by decide) ?_
      replace hf := mx_gd_el hf; obtain ⟨c19, hf⟩ := hf
      replace hf := mx_sv_el hf; obtain ⟨u20, e_u20, hf⟩ := hf
      refine sx_cv hm dX13_spellKind_21 rs_RX13_593 mt_X13_spell [.int 90] [] (b := a0) (ci := 13) rfl rfl rfl c19 (Nat.le_of_ble_eq_true rfl) (Nat.le_of_ble_eq_true rfl) (by omega) (by omega) (f_X13_spell_ok X (by omega) (by omega) nn a0 90 h e_u20) ?_
      clear e_u20
      show mx_S X F L 451 24 [(0, .ref a0), (1, .int a1)] [] u20 0 0 (none, r, 0, 0)
      refine mx_S.pu (pc2 := 88) (lv2 := [(0, .ref a0), (1, .int a1)]) (st2 := []) hm dX13_spellKind_24 rfl ?_
      cases hf
      exact sx_ret hm dX13_spellKind_88 rfl
  · refine sb_if_ne hm dX13_spellKind_1 (tgt := 13) rfl (fun z => absurd z c24) (fun _ => ?_)
    refine mx_S.pu (pc2 := 5) (lv2 := [(0, .ref a0), (1, .int a1)]) (st2 := [.ref a0]) hm dX13_spellKind_4 rfl ?_
    refine sx_bi (v := 73) hm dX13_spellKind_5 (by decide) ?_
    replace hf := mx_gd_el hf; obtain ⟨c22, hf⟩ := hf
    replace hf := mx_sv_el hf; obtain ⟨u23, e_u23, hf⟩ := hf
    refine sx_cv hm dX13_spellKind_7 rs_RX13_593 mt_X13_spell [.int 73] [] (b := a0) (ci := 13) rfl rfl rfl c22 (Nat.le_of_ble_eq_true rfl) (Nat.le_of_ble_eq_true rfl) (by omega) (by omega) (f_X13_spell_ok X (by omega) (by omega) nn a0 73 h e_u23) ?_
    clear e_u23
    show mx_S X F L 451 10 [(0, .ref a0), (1, .int a1)] [] u23 0 0 (none, r, 0, 0)
    refine mx_S.pu (pc2 := 88) (lv2 := [(0, .ref a0), (1, .int a1)]) (st2 := []) hm dX13_spellKind_10 rfl ?_
    cases hf
    exact sx_ret hm dX13_spellKind_88 rfl
set_option maxHeartbeats 4000000 in
set_option maxRecDepth 20000 in
theorem w_X13_spelling_109_ok (X : Nat × (Nat → Int32)) {F L : Nat} (hF : 1 ≤ F) (hL : 25 ≤ L) (nn : Nat) : ∀ (k : Nat) (l0 : Nat) (l1 : Int32) (l2 : Int32) (h : mx_H) (r : (Int32 × mx_H)), w_X13_spelling_109 nn k l0 l1 l2 h = some r → mx_S X F L 452 109 [(0, .ref l0), (1, .int l1), (2, .int l2)] [] h 0 0 (some (.int r.1), r.2, 0, 0) := by
  have hm : mx_mt 452 = some (yX13_spelling, cX13_spelling, 5, (some .int)) := mt_X13_spelling
  intro k
  induction k with
  | zero => intro l0 l1 l2 h r hf; cases hf
  | succ k ih =>
    intro l0 l1 l2 h r hf
    unfold w_X13_spelling_109 at hf
    refine mx_S.pu (pc2 := 110) (lv2 := [(0, .ref l0), (1, .int l1), (2, .int l2)]) (st2 := [.int l2]) hm dX13_spelling_109 rfl ?_
    refine mx_S.pu (pc2 := 111) (lv2 := [(0, .ref l0), (1, .int l1), (2, .int l2)]) (st2 := [.int l1, .int l2]) hm dX13_spelling_110 rfl ?_
    rcases mx_if_el hf with ⟨c14, hf⟩ | ⟨c14, hf⟩
    · refine sb_ic_ge hm dX13_spelling_111 (tgt := 137) rfl (fun _ => ?_) (fun z => absurd c14 z)
      refine mx_S.pu (pc2 := 138) (lv2 := [(0, .ref l0), (1, .int l1), (2, .int l2)]) (st2 := [.ref l0]) hm dX13_spelling_137 rfl ?_
      refine sx_ic (v := 1) hm dX13_spelling_138 (by decide) ?_
      refine mx_S.pu (pc2 := 140) (lv2 := [(0, .ref l0), (1, .int l1), (2, .int l2)]) (st2 := [.ref l0, .int 1, .ref l0]) hm dX13_spelling_139 rfl ?_
      replace hf := mx_sv_el hf; obtain ⟨v1, e_v1, hf⟩ := hf
      refine sx_get hm dX13_spelling_140 rs_RX13_605 (xgi_el e_v1) ?_
      clear e_v1
      refine mx_S.pu (pc2 := 144) (lv2 := [(0, .ref l0), (1, .int l1), (2, .int l2)]) (st2 := [.int l1, .int v1, .int 1, .ref l0]) hm dX13_spelling_143 rfl ?_
      refine sx_ic (v := 0) hm dX13_spelling_144 (by decide) ?_
      replace hf := mx_gd_el hf; obtain ⟨c2, hf⟩ := hf
      replace hf := mx_sv_el hf; obtain ⟨u3, e_u3, hf⟩ := hf
      refine sx_cv hm dX13_spelling_145 rs_RX13_608 mt_X13_constant [.int 1, .int v1, .int l1, .int 0] [] (b := l0) (ci := 13) rfl rfl rfl c2 (Nat.le_of_ble_eq_true rfl) (Nat.le_of_ble_eq_true rfl) (by omega) (by omega) (f_X13_constant_ok X (by omega) (by omega) nn l0 1 v1 l1 0 h e_u3) ?_
      clear e_u3
      show mx_S X F L 452 148 [(0, .ref l0), (1, .int l1), (2, .int l2)] [.int u3.1] u3.2 0 0 (some (.int r.1), r.2, 0, 0)
      refine mx_S.pu (pc2 := 149) (lv2 := [(2, .int u3.1), (0, .ref l0), (1, .int l1)]) (st2 := []) hm dX13_spelling_148 rfl ?_
      refine mx_S.pu (pc2 := 150) (lv2 := [(2, .int u3.1), (0, .ref l0), (1, .int l1)]) (st2 := [.ref l0]) hm dX13_spelling_149 rfl ?_
      refine mx_S.pu (pc2 := 151) (lv2 := [(2, .int u3.1), (0, .ref l0), (1, .int l1)]) (st2 := [.ref l0, .ref l0]) hm dX13_spelling_150 rfl ?_
      replace hf := mx_sv_el hf; obtain ⟨v4, e_v4, hf⟩ := hf
      refine sx_get hm dX13_spelling_151 rs_RX13_605 (xgi_el e_v4) ?_
      clear e_v4
      refine mx_S.pu (pc2 := 155) (lv2 := [(2, .int u3.1), (0, .ref l0), (1, .int l1)]) (st2 := [.int l1, .int v4, .ref l0]) hm dX13_spelling_154 rfl ?_
      replace hf := xl_el hf; obtain ⟨v5, e_v5, hf⟩ := hf
      refine mx_S.pu (pc2 := 156) (lv2 := [(2, .int u3.1), (0, .ref l0), (1, .int l1)]) (st2 := [.int v5, .ref l0]) hm dX13_spelling_155 (by rw [← e_v5]; rfl) ?_
      clear e_v5
      replace hf := mx_sv_el hf; obtain ⟨h6, e_h6, hf⟩ := hf
      refine sx_put hm dX13_spelling_156 rs_RX13_605 ft_13_64 ⟨rfl, rfl⟩ (fun z => by cases z) e_h6 ?_
      clear e_h6
      refine mx_S.pu (pc2 := 160) (lv2 := [(2, .int u3.1), (0, .ref l0), (1, .int l1)]) (st2 := [.int u3.1]) hm dX13_spelling_159 rfl ?_
      cases hf
      exact sx_ire hm dX13_spelling_160 rfl rfl
    · refine sb_ic_ge hm dX13_spelling_111 (tgt := 137) rfl (fun z => absurd z c14) (fun _ => ?_)
      refine mx_S.pu (pc2 := 115) (lv2 := [(0, .ref l0), (1, .int l1), (2, .int l2)]) (st2 := [.ref l0]) hm dX13_spelling_114 rfl ?_
      replace hf := mx_sv_el hf; obtain ⟨v7, e_v7, hf⟩ := hf
      refine sx_get hm dX13_spelling_115 rs_RX13_141 (xgr_el e_v7) ?_
      clear e_v7
      refine mx_S.pu (pc2 := 119) (lv2 := [(0, .ref l0), (1, .int l1), (2, .int l2)]) (st2 := [.ref l0, .ref v7]) hm dX13_spelling_118 rfl ?_
      replace hf := mx_sv_el hf; obtain ⟨v8, e_v8, hf⟩ := hf
      refine sx_get hm dX13_spelling_119 rs_RX13_605 (xgi_el e_v8) ?_
      clear e_v8
      refine mx_S.pu (pc2 := 123) (lv2 := [(0, .ref l0), (1, .int l1), (2, .int l2)]) (st2 := [.int l2, .int v8, .ref v7]) hm dX13_spelling_122 rfl ?_
      replace hf := xl_el hf; obtain ⟨v9, e_v9, hf⟩ := hf
      refine mx_S.pu (pc2 := 124) (lv2 := [(0, .ref l0), (1, .int l1), (2, .int l2)]) (st2 := [.int v9, .ref v7]) hm dX13_spelling_123 (by rw [← e_v9]; rfl) ?_
      clear e_v9
      refine mx_S.pu (pc2 := 125) (lv2 := [(0, .ref l0), (1, .int l1), (2, .int l2)]) (st2 := [.ref l0, .int v9, .ref v7]) hm dX13_spelling_124 rfl ?_
      replace hf := mx_sv_el hf; obtain ⟨v10, e_v10, hf⟩ := hf
      refine sx_get hm dX13_spelling_125 rs_RX13_144 (xgr_el e_v10) ?_
      clear e_v10
      refine mx_S.pu (pc2 := 129) (lv2 := [(0, .ref l0), (1, .int l1), (2, .int l2)]) (st2 := [.int l2, .ref v10, .int v9, .ref v7]) hm dX13_spelling_128 rfl ?_
      replace hf := mx_sv_el hf; obtain ⟨v11, e_v11, hf⟩ := hf
      refine sx_ald hm dX13_spelling_129 e_v11 ?_
      clear e_v11
      replace hf := mx_sv_el hf; obtain ⟨h12, e_h12, hf⟩ := hf
      refine sx_ast hm dX13_spelling_130 e_h12 ?_
      clear e_h12
      replace hf := xl_el hf; obtain ⟨v13, e_v13, hf⟩ := hf
      refine mx_S.pu (pc2 := 134) (lv2 := [(2, .int v13), (0, .ref l0), (1, .int l1)]) (st2 := []) hm dX13_spelling_131 (by rw [← e_v13]; rfl) ?_
      clear e_v13
      refine mx_S.pu (pc2 := 109) (lv2 := [(2, .int v13), (0, .ref l0), (1, .int l1)]) (st2 := []) hm dX13_spelling_134 rfl ?_
      refine mx_S.ext [(0, .ref l0), (1, .int l1), (2, .int v13)] (mx_sub_pos [1, 2, 0] rfl (show ([2, 0, 1] : List Nat).Nodup by decide)) ?_
      exact ih l0 l1 v13 h12 _ hf
set_option maxHeartbeats 4000000 in
set_option maxRecDepth 20000 in
theorem j_X13_spelling_95_ok (X : Nat × (Nat → Int32)) {F L : Nat} (hF : 1 ≤ F) (hL : 25 ≤ L) (nn : Nat) {kk_12 : Nat → Int32 → Int32 → mx_H → Option (Int32 × mx_H)} (hk_12 : ∀ (l0 : Nat) (l1 : Int32) (l2 : Int32) (h : mx_H) (r : (Int32 × mx_H)), kk_12 l0 l1 l2 h = some r → mx_S X F L 452 12 [(0, .ref l0), (1, .int l1), (2, .int l2)] [] h 0 0 (some (.int r.1), r.2, 0, 0)) (l0 : Nat) (l1 : Int32) (l2 : Int32) (l3 : Int32) (h : mx_H) {r : (Int32 × mx_H)} (hf : j_X13_spelling_95 nn kk_12 l0 l1 l2 l3 h = some r) : mx_S X F L 452 95 [(0, .ref l0), (1, .int l1), (2, .int l2), (3, .int l3)] [] h 0 0 (some (.int r.1), r.2, 0, 0) := by
  have hm : mx_mt 452 = some (yX13_spelling, cX13_spelling, 5, (some .int)) := mt_X13_spelling
  unfold j_X13_spelling_95 at hf
  refine mx_S.pu (pc2 := 96) (lv2 := [(0, .ref l0), (1, .int l1), (2, .int l2), (3, .int l3)]) (st2 := [.int l3]) hm dX13_spelling_95 rfl ?_
  rcases mx_if_el hf with ⟨c16, hf⟩ | ⟨c16, hf⟩
  · refine sb_if_eq hm dX13_spelling_96 (tgt := 101) rfl (fun _ => ?_) (fun z => absurd c16 z)
    replace hf := xl_el hf; obtain ⟨v15, e_v15, hf⟩ := hf
    refine mx_S.pu (pc2 := 104) (lv2 := [(2, .int v15), (0, .ref l0), (1, .int l1), (3, .int l3)]) (st2 := []) hm dX13_spelling_101 (by rw [← e_v15]; rfl) ?_
    clear e_v15
    refine mx_S.pu (pc2 := 12) (lv2 := [(2, .int v15), (0, .ref l0), (1, .int l1), (3, .int l3)]) (st2 := []) hm dX13_spelling_104 rfl ?_
    refine mx_S.ext [(0, .ref l0), (1, .int l1), (2, .int v15)] (mx_sub_pos [1, 2, 0] rfl (show ([2, 0, 1, 3] : List Nat).Nodup by decide)) ?_
    exact hk_12 l0 l1 v15 h _ hf
  · refine sb_if_eq hm dX13_spelling_96 (tgt := 101) rfl (fun z => absurd z c16) (fun _ => ?_)
    refine mx_S.pu (pc2 := 100) (lv2 := [(0, .ref l0), (1, .int l1), (2, .int l2), (3, .int l3)]) (st2 := [.int l2]) hm dX13_spelling_99 rfl ?_
    cases hf
    exact sx_ire hm dX13_spelling_100 rfl rfl
set_option maxHeartbeats 4000000 in
set_option maxRecDepth 20000 in
theorem w_X13_spelling_49_ok (X : Nat × (Nat → Int32)) {F L : Nat} (hF : 1 ≤ F) (hL : 25 ≤ L) (nn : Nat) {kk_12 : Nat → Int32 → Int32 → mx_H → Option (Int32 × mx_H)} (hk_12 : ∀ (l0 : Nat) (l1 : Int32) (l2 : Int32) (h : mx_H) (r : (Int32 × mx_H)), kk_12 l0 l1 l2 h = some r → mx_S X F L 452 12 [(0, .ref l0), (1, .int l1), (2, .int l2)] [] h 0 0 (some (.int r.1), r.2, 0, 0)) : ∀ (k : Nat) (l0 : Nat) (l1 : Int32) (l2 : Int32) (l3 : Int32) (l4 : Int32) (h : mx_H) (r : (Int32 × mx_H)), w_X13_spelling_49 nn kk_12 k l0 l1 l2 l3 l4 h = some r → mx_S X F L 452 49 [(0, .ref l0), (1, .int l1), (2, .int l2), (3, .int l3), (4, .int l4)] [] h 0 0 (some (.int r.1), r.2, 0, 0) := by
  have hm : mx_mt 452 = some (yX13_spelling, cX13_spelling, 5, (some .int)) := mt_X13_spelling
  intro k
  induction k with
  | zero => intro l0 l1 l2 l3 l4 h r hf; cases hf
  | succ k ih =>
    intro l0 l1 l2 l3 l4 h r hf
    unfold w_X13_spelling_49 at hf
    refine mx_S.pu (pc2 := 51) (lv2 := [(0, .ref l0), (1, .int l1), (2, .int l2), (3, .int l3), (4, .int l4)]) (st2 := [.int l4]) hm dX13_spelling_49 rfl ?_
    refine mx_S.pu (pc2 := 52) (lv2 := [(0, .ref l0), (1, .int l1), (2, .int l2), (3, .int l3), (4, .int l4)]) (st2 := [.int l1, .int l4]) hm dX13_spelling_51 rfl ?_
    rcases mx_if_el hf with ⟨c28, hf⟩ | ⟨c28, hf⟩
    · refine sb_ic_ge hm dX13_spelling_52 (tgt := 95) rfl (fun _ => ?_) (fun z => absurd c28 z)
      refine mx_S.ext [(0, .ref l0), (1, .int l1), (2, .int l2), (3, .int l3)] (mx_sub_pos [0, 1, 2, 3] rfl (show ([0, 1, 2, 3, 4] : List Nat).Nodup by decide)) ?_
      exact j_X13_spelling_95_ok X hF hL nn hk_12 l0 l1 l2 l3 h hf
    · refine sb_ic_ge hm dX13_spelling_52 (tgt := 95) rfl (fun z => absurd z c28) (fun _ => ?_)
      refine mx_S.pu (pc2 := 56) (lv2 := [(0, .ref l0), (1, .int l1), (2, .int l2), (3, .int l3), (4, .int l4)]) (st2 := [.int l3]) hm dX13_spelling_55 rfl ?_
      rcases mx_if_el hf with ⟨c27, hf⟩ | ⟨c27, hf⟩
      · refine sb_if_eq hm dX13_spelling_56 (tgt := 95) rfl (fun _ => ?_) (fun z => absurd c27 z)
        refine mx_S.ext [(0, .ref l0), (1, .int l1), (2, .int l2), (3, .int l3)] (mx_sub_pos [0, 1, 2, 3] rfl (show ([0, 1, 2, 3, 4] : List Nat).Nodup by decide)) ?_
        exact j_X13_spelling_95_ok X hF hL nn hk_12 l0 l1 l2 l3 h hf
      · refine sb_if_eq hm dX13_spelling_56 (tgt := 95) rfl (fun z => absurd z c27) (fun _ => ?_)
        refine mx_S.pu (pc2 := 60) (lv2 := [(0, .ref l0), (1, .int l1), (2, .int l2), (3, .int l3), (4, .int l4)]) (st2 := [.ref l0]) hm dX13_spelling_59 rfl ?_
        replace hf := mx_sv_el hf; obtain ⟨v17, e_v17, hf⟩ := hf
        refine sx_get hm dX13_spelling_60 rs_RX13_141 (xgr_el e_v17) ?_
        clear e_v17
        refine mx_S.pu (pc2 := 64) (lv2 := [(0, .ref l0), (1, .int l1), (2, .int l2), (3, .int l3), (4, .int l4)]) (st2 := [.ref l0, .ref v17]) hm dX13_spelling_63 rfl ?_
        replace hf := mx_sv_el hf; obtain ⟨v18, e_v18, hf⟩ := hf
        refine sx_get hm dX13_spelling_64 rs_RX13_131 (xgr_el e_v18) ?_
        clear e_v18
        refine mx_S.pu (pc2 := 68) (lv2 := [(0, .ref l0), (1, .int l1), (2, .int l2), (3, .int l3), (4, .int l4)]) (st2 := [.int l2, .ref v18, .ref v17]) hm dX13_spelling_67 rfl ?_
        replace hf := mx_sv_el hf; obtain ⟨v19, e_v19, hf⟩ := hf
        refine sx_ald hm dX13_spelling_68 e_v19 ?_
        clear e_v19
        refine mx_S.pu (pc2 := 71) (lv2 := [(0, .ref l0), (1, .int l1), (2, .int l2), (3, .int l3), (4, .int l4)]) (st2 := [.int l4, .int v19, .ref v17]) hm dX13_spelling_69 rfl ?_
        replace hf := xl_el hf; obtain ⟨v20, e_v20, hf⟩ := hf
        refine mx_S.pu (pc2 := 72) (lv2 := [(0, .ref l0), (1, .int l1), (2, .int l2), (3, .int l3), (4, .int l4)]) (st2 := [.int v20, .ref v17]) hm dX13_spelling_71 (by rw [← e_v20]; rfl) ?_
        clear e_v20
        replace hf := mx_sv_el hf; obtain ⟨v21, e_v21, hf⟩ := hf
        refine sx_ald hm dX13_spelling_72 e_v21 ?_
        clear e_v21
        refine mx_S.pu (pc2 := 74) (lv2 := [(0, .ref l0), (1, .int l1), (2, .int l2), (3, .int l3), (4, .int l4)]) (st2 := [.ref l0, .int v21]) hm dX13_spelling_73 rfl ?_
        replace hf := mx_sv_el hf; obtain ⟨v22, e_v22, hf⟩ := hf
        refine sx_get hm dX13_spelling_74 rs_RX13_144 (xgr_el e_v22) ?_
        clear e_v22
        refine mx_S.pu (pc2 := 79) (lv2 := [(0, .ref l0), (1, .int l1), (2, .int l2), (3, .int l3), (4, .int l4)]) (st2 := [.int l4, .ref v22, .int v21]) hm dX13_spelling_77 rfl ?_
        replace hf := mx_sv_el hf; obtain ⟨v23, e_v23, hf⟩ := hf
        refine sx_ald hm dX13_spelling_79 e_v23 ?_
        clear e_v23
        rcases mx_if_el hf with ⟨c26, hf⟩ | ⟨c26, hf⟩
        · refine sb_ic_ne hm dX13_spelling_80 (tgt := 87) rfl (fun _ => ?_) (fun z => absurd c26 z)
          refine sx_ic (v := 0) hm dX13_spelling_87 (by decide) ?_
          refine mx_S.pu (pc2 := 89) (lv2 := [(3, .int 0), (0, .ref l0), (1, .int l1), (2, .int l2), (4, .int l4)]) (st2 := []) hm dX13_spelling_88 rfl ?_
          replace hf := xl_el hf; obtain ⟨v24, e_v24, hf⟩ := hf
          refine mx_S.pu (pc2 := 92) (lv2 := [(4, .int v24), (3, .int 0), (0, .ref l0), (1, .int l1), (2, .int l2)]) (st2 := []) hm dX13_spelling_89 (by rw [← e_v24]; rfl) ?_
          clear e_v24
          refine mx_S.pu (pc2 := 49) (lv2 := [(4, .int v24), (3, .int 0), (0, .ref l0), (1, .int l1), (2, .int l2)]) (st2 := []) hm dX13_spelling_92 rfl ?_
          refine mx_S.ext [(0, .ref l0), (1, .int l1), (2, .int l2), (3, .int 0), (4, .int v24)] (mx_sub_pos [2, 3, 4, 1, 0] rfl (show ([4, 3, 0, 1, 2] : List Nat).Nodup by decide)) ?_
          exact ih l0 l1 l2 0 v24 h _ hf
        · refine sb_ic_ne hm dX13_spelling_80 (tgt := 87) rfl (fun z => absurd z c26) (fun _ => ?_)
          refine sx_ic (v := 1) hm dX13_spelling_83 (by decide) ?_
          refine mx_S.pu (pc2 := 88) (lv2 := [(0, .ref l0), (1, .int l1), (2, .int l2), (3, .int l3), (4, .int l4)]) (st2 := [.int 1]) hm dX13_spelling_84 rfl ?_
          refine mx_S.pu (pc2 := 89) (lv2 := [(3, .int 1), (0, .ref l0), (1, .int l1), (2, .int l2), (4, .int l4)]) (st2 := []) hm dX13_spelling_88 rfl ?_
          replace hf := xl_el hf; obtain ⟨v25, e_v25, hf⟩ := hf
          refine mx_S.pu (pc2 := 92) (lv2 := [(4, .int v25), (3, .int 1), (0, .ref l0), (1, .int l1), (2, .int l2)]) (st2 := []) hm dX13_spelling_89 (by rw [← e_v25]; rfl) ?_
          clear e_v25
          refine mx_S.pu (pc2 := 49) (lv2 := [(4, .int v25), (3, .int 1), (0, .ref l0), (1, .int l1), (2, .int l2)]) (st2 := []) hm dX13_spelling_92 rfl ?_
          refine mx_S.ext [(0, .ref l0), (1, .int l1), (2, .int l2), (3, .int 1), (4, .int v25)] (mx_sub_pos [2, 3, 4, 1, 0] rfl (show ([4, 3, 0, 1, 2] : List Nat).Nodup by decide)) ?_
          exact ih l0 l1 l2 1 v25 h _ hf
set_option maxHeartbeats 4000000 in
set_option maxRecDepth 20000 in
theorem j_X13_spelling_44_ok (X : Nat × (Nat → Int32)) {F L : Nat} (hF : 1 ≤ F) (hL : 25 ≤ L) (nn : Nat) {kk_12 : Nat → Int32 → Int32 → mx_H → Option (Int32 × mx_H)} (hk_12 : ∀ (l0 : Nat) (l1 : Int32) (l2 : Int32) (h : mx_H) (r : (Int32 × mx_H)), kk_12 l0 l1 l2 h = some r → mx_S X F L 452 12 [(0, .ref l0), (1, .int l1), (2, .int l2)] [] h 0 0 (some (.int r.1), r.2, 0, 0)) (l0 : Nat) (l1 : Int32) (l2 : Int32) (h : mx_H) {r : (Int32 × mx_H)} (hf : j_X13_spelling_44 nn kk_12 l0 l1 l2 h = some r) : mx_S X F L 452 44 [(0, .ref l0), (1, .int l1), (2, .int l2)] [] h 0 0 (some (.int r.1), r.2, 0, 0) := by
  have hm : mx_mt 452 = some (yX13_spelling, cX13_spelling, 5, (some .int)) := mt_X13_spelling
  unfold j_X13_spelling_44 at hf
  refine sx_ic (v := 0) hm dX13_spelling_44 (by decide) ?_
  refine mx_S.pu (pc2 := 46) (lv2 := [(3, .int 0), (0, .ref l0), (1, .int l1), (2, .int l2)]) (st2 := []) hm dX13_spelling_45 rfl ?_
  refine sx_ic (v := 0) hm dX13_spelling_46 (by decide) ?_
  refine mx_S.pu (pc2 := 49) (lv2 := [(4, .int 0), (3, .int 0), (0, .ref l0), (1, .int l1), (2, .int l2)]) (st2 := []) hm dX13_spelling_47 rfl ?_
  refine mx_S.ext [(0, .ref l0), (1, .int l1), (2, .int l2), (3, .int 0), (4, .int 0)] (mx_sub_pos [2, 3, 4, 1, 0] rfl (show ([4, 3, 0, 1, 2] : List Nat).Nodup by decide)) ?_
  exact w_X13_spelling_49_ok X hF hL nn hk_12 nn l0 l1 l2 0 0 h _ hf
set_option maxHeartbeats 4000000 in
set_option maxRecDepth 20000 in
theorem w_X13_spelling_12_ok (X : Nat × (Nat → Int32)) {F L : Nat} (hF : 1 ≤ F) (hL : 25 ≤ L) (nn : Nat) : ∀ (k : Nat) (l0 : Nat) (l1 : Int32) (l2 : Int32) (h : mx_H) (r : (Int32 × mx_H)), w_X13_spelling_12 nn k l0 l1 l2 h = some r → mx_S X F L 452 12 [(0, .ref l0), (1, .int l1), (2, .int l2)] [] h 0 0 (some (.int r.1), r.2, 0, 0) := by
  have hm : mx_mt 452 = some (yX13_spelling, cX13_spelling, 5, (some .int)) := mt_X13_spelling
  intro k
  induction k with
  | zero => intro l0 l1 l2 h r hf; cases hf
  | succ k ih =>
    intro l0 l1 l2 h r hf
    unfold w_X13_spelling_12 at hf
    refine mx_S.pu (pc2 := 13) (lv2 := [(0, .ref l0), (1, .int l1), (2, .int l2)]) (st2 := [.int l2]) hm dX13_spelling_12 rfl ?_
    refine mx_S.pu (pc2 := 14) (lv2 := [(0, .ref l0), (1, .int l1), (2, .int l2)]) (st2 := [.ref l0, .int l2]) hm dX13_spelling_13 rfl ?_
    replace hf := mx_sv_el hf; obtain ⟨v29, e_v29, hf⟩ := hf
    refine sx_get hm dX13_spelling_14 rs_RX13_602 (xgi_el e_v29) ?_
    clear e_v29
    rcases mx_if_el hf with ⟨c36, hf⟩ | ⟨c36, hf⟩
    · refine sb_ic_gt hm dX13_spelling_17 (tgt := 107) rfl (fun _ => ?_) (fun z => absurd c36 z)
      refine sx_ic (v := 0) hm dX13_spelling_107 (by decide) ?_
      refine mx_S.pu (pc2 := 109) (lv2 := [(2, .int 0), (0, .ref l0), (1, .int l1)]) (st2 := []) hm dX13_spelling_108 rfl ?_
      refine mx_S.ext [(0, .ref l0), (1, .int l1), (2, .int 0)] (mx_sub_pos [1, 2, 0] rfl (show ([2, 0, 1] : List Nat).Nodup by decide)) ?_
      exact w_X13_spelling_109_ok X hF hL nn nn l0 l1 0 h _ hf
    · refine sb_ic_gt hm dX13_spelling_17 (tgt := 107) rfl (fun z => absurd z c36) (fun _ => ?_)
      refine mx_S.pu (pc2 := 21) (lv2 := [(0, .ref l0), (1, .int l1), (2, .int l2)]) (st2 := [.ref l0]) hm dX13_spelling_20 rfl ?_
      replace hf := mx_sv_el hf; obtain ⟨v30, e_v30, hf⟩ := hf
      refine sx_get hm dX13_spelling_21 rs_RX13_128 (xgr_el e_v30) ?_
      clear e_v30
      refine mx_S.pu (pc2 := 25) (lv2 := [(0, .ref l0), (1, .int l1), (2, .int l2)]) (st2 := [.int l2, .ref v30]) hm dX13_spelling_24 rfl ?_
      replace hf := mx_sv_el hf; obtain ⟨v31, e_v31, hf⟩ := hf
      refine sx_ald hm dX13_spelling_25 e_v31 ?_
      clear e_v31
      refine sx_ic (v := 1) hm dX13_spelling_26 (by decide) ?_
      rcases mx_if_el hf with ⟨c35, hf⟩ | ⟨c35, hf⟩
      · refine sb_ic_ne hm dX13_spelling_27 (tgt := 44) rfl (fun _ => ?_) (fun z => absurd c35 z)
        exact j_X13_spelling_44_ok X hF hL nn ih l0 l1 l2 h hf
      · refine sb_ic_ne hm dX13_spelling_27 (tgt := 44) rfl (fun z => absurd z c35) (fun _ => ?_)
        refine mx_S.pu (pc2 := 31) (lv2 := [(0, .ref l0), (1, .int l1), (2, .int l2)]) (st2 := [.ref l0]) hm dX13_spelling_30 rfl ?_
        replace hf := mx_sv_el hf; obtain ⟨v32, e_v32, hf⟩ := hf
        refine sx_get hm dX13_spelling_31 rs_RX13_134 (xgr_el e_v32) ?_
        clear e_v32
        refine mx_S.pu (pc2 := 35) (lv2 := [(0, .ref l0), (1, .int l1), (2, .int l2)]) (st2 := [.int l2, .ref v32]) hm dX13_spelling_34 rfl ?_
        replace hf := mx_sv_el hf; obtain ⟨v33, e_v33, hf⟩ := hf
        refine sx_ald hm dX13_spelling_35 e_v33 ?_
        clear e_v33
        refine mx_S.pu (pc2 := 37) (lv2 := [(0, .ref l0), (1, .int l1), (2, .int l2)]) (st2 := [.int l1, .int v33]) hm dX13_spelling_36 rfl ?_
        rcases mx_if_el hf with ⟨c34, hf⟩ | ⟨c34, hf⟩
        · refine sb_ic_ne hm dX13_spelling_37 (tgt := 44) rfl (fun _ => ?_) (fun z => absurd c34 z)
          exact j_X13_spelling_44_ok X hF hL nn ih l0 l1 l2 h hf
        · refine sb_ic_ne hm dX13_spelling_37 (tgt := 44) rfl (fun z => absurd z c34) (fun _ => ?_)
          refine sx_ic (v := 1) hm dX13_spelling_40 (by decide) ?_
          refine mx_S.pu (pc2 := 45) (lv2 := [(0, .ref l0), (1, .int l1), (2, .int l2)]) (st2 := [.int 1]) hm dX13_spelling_41 rfl ?_
          refine mx_S.pu (pc2 := 46) (lv2 := [(3, .int 1), (0, .ref l0), (1, .int l1), (2, .int l2)]) (st2 := []) hm dX13_spelling_45 rfl ?_
          refine sx_ic (v := 0) hm dX13_spelling_46 (by decide) ?_
          refine mx_S.pu (pc2 := 49) (lv2 := [(4, .int 0), (3, .int 1), (0, .ref l0), (1, .int l1), (2, .int l2)]) (st2 := []) hm dX13_spelling_47 rfl ?_
          refine mx_S.ext [(0, .ref l0), (1, .int l1), (2, .int l2), (3, .int 1), (4, .int 0)] (mx_sub_pos [2, 3, 4, 1, 0] rfl (show ([4, 3, 0, 1, 2] : List Nat).Nodup by decide)) ?_
          exact w_X13_spelling_49_ok X hF hL nn ih nn l0 l1 l2 1 0 h _ hf
set_option maxHeartbeats 4000000 in
set_option maxRecDepth 20000 in
theorem f_X13_spelling_ok (X : Nat × (Nat → Int32)) {F L : Nat} (hF : 1 ≤ F) (hL : 25 ≤ L) (nn : Nat) (a0 : Nat) (h : mx_H) {r : (Int32 × mx_H)} (hf : f_X13_spelling nn a0 h = some r) : mx_R X F L 452 [.ref a0] h (some (.int r.1), r.2, 0, 0) := by
  have hm : mx_mt 452 = some (yX13_spelling, cX13_spelling, 5, (some .int)) := mt_X13_spelling
  show mx_S X F L 452 0 [(0, .ref a0)] [] h 0 0 (some (.int r.1), r.2, 0, 0)
  unfold f_X13_spelling at hf
  refine mx_S.pu (pc2 := 1) (lv2 := [(0, .ref a0)]) (st2 := [.ref a0]) hm dX13_spelling_0 rfl ?_
  replace hf := mx_sv_el hf; obtain ⟨v37, e_v37, hf⟩ := hf
  refine sx_get hm dX13_spelling_1 rs_RX13_590 (xgi_el e_v37) ?_
  clear e_v37
  refine mx_S.pu (pc2 := 5) (lv2 := [(1, .int v37), (0, .ref a0)]) (st2 := []) hm dX13_spelling_4 rfl ?_
  refine mx_S.pu (pc2 := 6) (lv2 := [(1, .int v37), (0, .ref a0)]) (st2 := [.ref a0]) hm dX13_spelling_5 rfl ?_
  refine sx_ic (v := 0) hm dX13_spelling_6 (by decide) ?_
  replace hf := mx_sv_el hf; obtain ⟨h38, e_h38, hf⟩ := hf
  refine sx_put hm dX13_spelling_7 rs_RX13_590 ft_13_66 ⟨rfl, rfl⟩ (fun z => by cases z) e_h38 ?_
  clear e_h38
  refine sx_ic (v := 1) hm dX13_spelling_10 (by decide) ?_
  refine mx_S.pu (pc2 := 12) (lv2 := [(2, .int 1), (1, .int v37), (0, .ref a0)]) (st2 := []) hm dX13_spelling_11 rfl ?_
  refine mx_S.ext [(0, .ref a0), (1, .int v37), (2, .int 1)] (mx_sub_pos [2, 1, 0] rfl (show ([2, 1, 0] : List Nat).Nodup by decide)) ?_
  exact w_X13_spelling_12_ok X hF hL nn nn a0 v37 1 h38 _ hf
set_option maxHeartbeats 4000000 in
set_option maxRecDepth 20000 in
theorem j_X13_classConstant_38_ok (X : Nat × (Nat → Int32)) {F L : Nat} (hF : 6 ≤ F) (hL : 129 ≤ L) (nn : Nat) (l0 : Nat) (h : mx_H) {r : (Int32 × mx_H)} (hf : j_X13_classConstant_38 nn l0 h = some r) : mx_S X F L 454 38 [(0, .ref l0)] [] h 0 0 (some (.int r.1), r.2, 0, 0) := by
  have hm : mx_mt 454 = some (yX13_classConstant, cX13_classConstant, 2, (some .int)) := mt_X13_classConstant
  unfold j_X13_classConstant_38 at hf
  refine mx_S.pu (pc2 := 39) (lv2 := [(0, .ref l0)]) (st2 := [.ref l0]) hm dX13_classConstant_38 rfl ?_
  refine sx_ic (v := 3) hm dX13_classConstant_39 (by decide) ?_
  refine mx_S.pu (pc2 := 41) (lv2 := [(0, .ref l0)]) (st2 := [.ref l0, .int 3, .ref l0]) hm dX13_classConstant_40 rfl ?_
  replace hf := mx_gd_el hf; obtain ⟨c1, hf⟩ := hf
  replace hf := mx_sv_el hf; obtain ⟨u2, e_u2, hf⟩ := hf
  refine sx_cv hm dX13_classConstant_41 rs_RX13_615 mt_X13_spelling [] [.int 3, .ref l0] (b := l0) (ci := 13) rfl rfl rfl c1 (Nat.le_of_ble_eq_true rfl) (Nat.le_of_ble_eq_true rfl) (by omega) (by omega) (f_X13_spelling_ok X (by omega) (by omega) nn l0 h e_u2) ?_
  clear e_u2
  show mx_S X F L 454 44 [(0, .ref l0)] [.int u2.1, .int 3, .ref l0] u2.2 0 0 (some (.int r.1), r.2, 0, 0)
  refine sx_ic (v := 0) hm dX13_classConstant_44 (by decide) ?_
  refine sx_ic (v := 0) hm dX13_classConstant_45 (by decide) ?_
  replace hf := mx_gd_el hf; obtain ⟨c3, hf⟩ := hf
  replace hf := mx_sv_el hf; obtain ⟨u4, e_u4, hf⟩ := hf
  refine sx_cv hm dX13_classConstant_46 rs_RX13_608 mt_X13_constant [.int 3, .int u2.1, .int 0, .int 0] [] (b := l0) (ci := 13) rfl rfl rfl c3 (Nat.le_of_ble_eq_true rfl) (Nat.le_of_ble_eq_true rfl) (by omega) (by omega) (f_X13_constant_ok X (by omega) (by omega) nn l0 3 u2.1 0 0 u2.2 e_u4) ?_
  clear e_u4
  show mx_S X F L 454 49 [(0, .ref l0)] [.int u4.1] u4.2 0 0 (some (.int r.1), r.2, 0, 0)
  cases hf
  exact sx_ire hm dX13_classConstant_49 rfl rfl
set_option maxHeartbeats 4000000 in
set_option maxRecDepth 20000 in
theorem f_X13_classConstant_ok (X : Nat × (Nat → Int32)) {F L : Nat} (hF : 6 ≤ F) (hL : 129 ≤ L) (nn : Nat) (a0 : Nat) (a1 : Int32) (h : mx_H) {r : (Int32 × mx_H)} (hf : f_X13_classConstant nn a0 a1 h = some r) : mx_R X F L 454 [.ref a0, .int a1] h (some (.int r.1), r.2, 0, 0) := by
  have hm : mx_mt 454 = some (yX13_classConstant, cX13_classConstant, 2, (some .int)) := mt_X13_classConstant
  show mx_S X F L 454 0 [(0, .ref a0), (1, .int a1)] [] h 0 0 (some (.int r.1), r.2, 0, 0)
  unfold f_X13_classConstant at hf
  refine mx_S.pu (pc2 := 1) (lv2 := [(0, .ref a0), (1, .int a1)]) (st2 := [.int a1]) hm dX13_classConstant_0 rfl ?_
  refine sx_ic (v := 4) hm dX13_classConstant_1 (by decide) ?_
  rcases mx_if_el hf with ⟨c15, hf⟩ | ⟨c15, hf⟩
  · refine sb_ic_ne hm dX13_classConstant_2 (tgt := 13) rfl (fun _ => ?_) (fun z => absurd c15 z)
    refine mx_S.pu (pc2 := 14) (lv2 := [(0, .ref a0), (1, .int a1)]) (st2 := [.int a1]) hm dX13_classConstant_13 rfl ?_
    replace hf := mx_sv_el hf; obtain ⟨u5, e_u5, hf⟩ := hf
    refine sx_cs hm dX13_classConstant_14 rs_RX13_485 mt_X13_isArray [.int a1] [] rfl rfl (Nat.le_of_ble_eq_true rfl) (Nat.le_of_ble_eq_true rfl) (by omega) (by omega) (f_X13_isArray_ok X (by omega) (by omega) nn a1 h e_u5) ?_
    clear e_u5
    show mx_S X F L 454 17 [(0, .ref a0), (1, .int a1)] [.int u5.1] u5.2 0 0 (some (.int r.1), r.2, 0, 0)
    rcases mx_if_el hf with ⟨c12, hf⟩ | ⟨c12, hf⟩
    · refine sb_if_eq hm dX13_classConstant_17 (tgt := 28) rfl (fun _ => ?_) (fun z => absurd c12 z)
      refine mx_S.pu (pc2 := 29) (lv2 := [(0, .ref a0), (1, .int a1)]) (st2 := [.ref a0]) hm dX13_classConstant_28 rfl ?_
      refine mx_S.pu (pc2 := 30) (lv2 := [(0, .ref a0), (1, .int a1)]) (st2 := [.int a1, .ref a0]) hm dX13_classConstant_29 rfl ?_
      refine sx_bi (v := 8) hm dX13_classConstant_30 (by decide) ?_
      replace hf := xl_el hf; obtain ⟨v6, e_v6, hf⟩ := hf
      refine mx_S.pu (pc2 := 33) (lv2 := [(0, .ref a0), (1, .int a1)]) (st2 := [.int v6, .ref a0]) hm dX13_classConstant_32 (by rw [← e_v6]; rfl) ?_
      clear e_v6
      refine sx_ic (v := 2) hm dX13_classConstant_33 (by decide) ?_
      replace hf := xl_el hf; obtain ⟨v7, e_v7, hf⟩ := hf
      refine sx_idiv (v := v7) hm dX13_classConstant_34 (by decide) e_v7 ?_
      clear e_v7
      replace hf := mx_gd_el hf; obtain ⟨c8, hf⟩ := hf
      replace hf := mx_sv_el hf; obtain ⟨u9, e_u9, hf⟩ := hf
      refine sx_cv hm dX13_classConstant_35 rs_RX13_599 mt_X13_spellClass [.int v7] [] (b := a0) (ci := 13) rfl rfl rfl c8 (Nat.le_of_ble_eq_true rfl) (Nat.le_of_ble_eq_true rfl) (by omega) (by omega) (f_X13_spellClass_ok X (by omega) (by omega) nn a0 v7 u5.2 e_u9) ?_
      clear e_u9
      show mx_S X F L 454 38 [(0, .ref a0), (1, .int a1)] [] u9 0 0 (some (.int r.1), r.2, 0, 0)
      refine mx_S.ext [(0, .ref a0)] (mx_sub_pos [0] rfl (show ([0, 1] : List Nat).Nodup by decide)) ?_
      exact j_X13_classConstant_38_ok X hF hL nn a0 u9 hf
    · refine sb_if_eq hm dX13_classConstant_17 (tgt := 28) rfl (fun z => absurd z c12) (fun _ => ?_)
      refine mx_S.pu (pc2 := 21) (lv2 := [(0, .ref a0), (1, .int a1)]) (st2 := [.ref a0]) hm dX13_classConstant_20 rfl ?_
      refine mx_S.pu (pc2 := 22) (lv2 := [(0, .ref a0), (1, .int a1)]) (st2 := [.int a1, .ref a0]) hm dX13_classConstant_21 rfl ?_
      replace hf := mx_gd_el hf; obtain ⟨c10, hf⟩ := hf
      replace hf := mx_sv_el hf; obtain ⟨u11, e_u11, hf⟩ := hf
      refine sx_cv hm dX13_classConstant_22 rs_RX13_612 mt_X13_spellKind [.int a1] [] (b := a0) (ci := 13) rfl rfl rfl c10 (Nat.le_of_ble_eq_true rfl) (Nat.le_of_ble_eq_true rfl) (by omega) (by omega) (f_X13_spellKind_ok X (by omega) (by omega) nn a0 a1 u5.2 e_u11) ?_
      clear e_u11
      show mx_S X F L 454 25 [(0, .ref a0), (1, .int a1)] [] u11 0 0 (some (.int r.1), r.2, 0, 0)
      refine mx_S.pu (pc2 := 38) (lv2 := [(0, .ref a0), (1, .int a1)]) (st2 := []) hm dX13_classConstant_25 rfl ?_
      refine mx_S.ext [(0, .ref a0)] (mx_sub_pos [0] rfl (show ([0, 1] : List Nat).Nodup by decide)) ?_
      exact j_X13_classConstant_38_ok X hF hL nn a0 u11 hf
  · refine sb_ic_ne hm dX13_classConstant_2 (tgt := 13) rfl (fun z => absurd z c15) (fun _ => ?_)
    refine mx_S.pu (pc2 := 6) (lv2 := [(0, .ref a0), (1, .int a1)]) (st2 := [.ref a0]) hm dX13_classConstant_5 rfl ?_
    refine mx_S.pu (pc2 := 7) (lv2 := [(0, .ref a0), (1, .int a1)]) (st2 := [.int a1, .ref a0]) hm dX13_classConstant_6 rfl ?_
    replace hf := mx_gd_el hf; obtain ⟨c13, hf⟩ := hf
    replace hf := mx_sv_el hf; obtain ⟨u14, e_u14, hf⟩ := hf
    refine sx_cv hm dX13_classConstant_7 rs_RX13_612 mt_X13_spellKind [.int a1] [] (b := a0) (ci := 13) rfl rfl rfl c13 (Nat.le_of_ble_eq_true rfl) (Nat.le_of_ble_eq_true rfl) (by omega) (by omega) (f_X13_spellKind_ok X (by omega) (by omega) nn a0 a1 h e_u14) ?_
    clear e_u14
    show mx_S X F L 454 10 [(0, .ref a0), (1, .int a1)] [] u14 0 0 (some (.int r.1), r.2, 0, 0)
    refine mx_S.pu (pc2 := 38) (lv2 := [(0, .ref a0), (1, .int a1)]) (st2 := []) hm dX13_classConstant_10 rfl ?_
    refine mx_S.ext [(0, .ref a0)] (mx_sub_pos [0] rfl (show ([0, 1] : List Nat).Nodup by decide)) ?_
    exact j_X13_classConstant_38_ok X hF hL nn a0 u14 hf
set_option maxHeartbeats 4000000 in
set_option maxRecDepth 20000 in
theorem j_X13_kindOf_56_ok (X : Nat × (Nat → Int32)) {F L : Nat} (hF : 6 ≤ F) (hL : 129 ≤ L) (nn : Nat) (l0 : Nat) (l1 : Int32) (h : mx_H) {r : (Int32 × mx_H)} (hf : j_X13_kindOf_56 nn l0 l1 h = some r) : mx_S X F L 456 56 [(0, .ref l0), (1, .int l1)] [] h 0 0 (some (.int r.1), r.2, 0, 0) := by
  have hm : mx_mt 456 = some (yX13_kindOf, cX13_kindOf, 3, (some .int)) := mt_X13_kindOf
  unfold j_X13_kindOf_56 at hf
  refine mx_S.pu (pc2 := 57) (lv2 := [(0, .ref l0), (1, .int l1)]) (st2 := [.ref l0]) hm dX13_kindOf_56 rfl ?_
  refine mx_S.pu (pc2 := 58) (lv2 := [(0, .ref l0), (1, .int l1)]) (st2 := [.ref l0, .ref l0]) hm dX13_kindOf_57 rfl ?_
  replace hf := mx_sv_el hf; obtain ⟨v1, e_v1, hf⟩ := hf
  refine sx_get hm dX13_kindOf_58 rs_RX13_89 (xgr_el e_v1) ?_
  clear e_v1
  refine mx_S.pu (pc2 := 62) (lv2 := [(0, .ref l0), (1, .int l1)]) (st2 := [.int l1, .ref v1, .ref l0]) hm dX13_kindOf_61 rfl ?_
  replace hf := mx_sv_el hf; obtain ⟨v2, e_v2, hf⟩ := hf
  refine sx_ald hm dX13_kindOf_62 e_v2 ?_
  clear e_v2
  replace hf := mx_gd_el hf; obtain ⟨c3, hf⟩ := hf
  replace hf := mx_sv_el hf; obtain ⟨u4, e_u4, hf⟩ := hf
  refine sx_cv hm dX13_kindOf_63 rs_RX13_612 mt_X13_spellKind [.int v2] [] (b := l0) (ci := 13) rfl rfl rfl c3 (Nat.le_of_ble_eq_true rfl) (Nat.le_of_ble_eq_true rfl) (by omega) (by omega) (f_X13_spellKind_ok X (by omega) (by omega) nn l0 v2 h e_u4) ?_
  clear e_u4
  show mx_S X F L 456 66 [(0, .ref l0), (1, .int l1)] [] u4 0 0 (some (.int r.1), r.2, 0, 0)
  refine mx_S.pu (pc2 := 67) (lv2 := [(0, .ref l0), (1, .int l1)]) (st2 := [.ref l0]) hm dX13_kindOf_66 rfl ?_
  replace hf := mx_gd_el hf; obtain ⟨c5, hf⟩ := hf
  replace hf := mx_sv_el hf; obtain ⟨u6, e_u6, hf⟩ := hf
  refine sx_cv hm dX13_kindOf_67 rs_RX13_615 mt_X13_spelling [] [] (b := l0) (ci := 13) rfl rfl rfl c5 (Nat.le_of_ble_eq_true rfl) (Nat.le_of_ble_eq_true rfl) (by omega) (by omega) (f_X13_spelling_ok X (by omega) (by omega) nn l0 u4 e_u6) ?_
  clear e_u6
  show mx_S X F L 456 70 [(0, .ref l0), (1, .int l1)] [.int u6.1] u6.2 0 0 (some (.int r.1), r.2, 0, 0)
  cases hf
  exact sx_ire hm dX13_kindOf_70 rfl rfl
set_option maxHeartbeats 4000000 in
set_option maxRecDepth 20000 in
theorem w_X13_kindOf_17_ok (X : Nat × (Nat → Int32)) {F L : Nat} (hF : 6 ≤ F) (hL : 129 ≤ L) (nn : Nat) : ∀ (k : Nat) (l0 : Nat) (l1 : Int32) (l2 : Int32) (h : mx_H) (r : (Int32 × mx_H)), w_X13_kindOf_17 nn k l0 l1 l2 h = some r → mx_S X F L 456 17 [(0, .ref l0), (1, .int l1), (2, .int l2)] [] h 0 0 (some (.int r.1), r.2, 0, 0) := by
  have hm : mx_mt 456 = some (yX13_kindOf, cX13_kindOf, 3, (some .int)) := mt_X13_kindOf
  intro k
  induction k with
  | zero => intro l0 l1 l2 h r hf; cases hf
  | succ k ih =>
    intro l0 l1 l2 h r hf
    unfold w_X13_kindOf_17 at hf
    refine mx_S.pu (pc2 := 18) (lv2 := [(0, .ref l0), (1, .int l1), (2, .int l2)]) (st2 := [.int l2]) hm dX13_kindOf_17 rfl ?_
    refine mx_S.pu (pc2 := 19) (lv2 := [(0, .ref l0), (1, .int l1), (2, .int l2)]) (st2 := [.ref l0, .int l2]) hm dX13_kindOf_18 rfl ?_
    replace hf := mx_sv_el hf; obtain ⟨v7, e_v7, hf⟩ := hf
    refine sx_get hm dX13_kindOf_19 rs_RX13_95 (xgr_el e_v7) ?_
    clear e_v7
    refine mx_S.pu (pc2 := 23) (lv2 := [(0, .ref l0), (1, .int l1), (2, .int l2)]) (st2 := [.int l1, .ref v7, .int l2]) hm dX13_kindOf_22 rfl ?_
    replace hf := mx_sv_el hf; obtain ⟨v8, e_v8, hf⟩ := hf
    refine sx_ald hm dX13_kindOf_23 e_v8 ?_
    clear e_v8
    rcases mx_if_el hf with ⟨c19, hf⟩ | ⟨c19, hf⟩
    · refine sb_ic_ge hm dX13_kindOf_24 (tgt := 50) rfl (fun _ => ?_) (fun z => absurd c19 z)
      refine mx_S.pu (pc2 := 51) (lv2 := [(0, .ref l0), (1, .int l1), (2, .int l2)]) (st2 := [.ref l0]) hm dX13_kindOf_50 rfl ?_
      refine sx_bi (v := 41) hm dX13_kindOf_51 (by decide) ?_
      replace hf := mx_gd_el hf; obtain ⟨c9, hf⟩ := hf
      replace hf := mx_sv_el hf; obtain ⟨u10, e_u10, hf⟩ := hf
      refine sx_cv hm dX13_kindOf_53 rs_RX13_593 mt_X13_spell [.int 41] [] (b := l0) (ci := 13) rfl rfl rfl c9 (Nat.le_of_ble_eq_true rfl) (Nat.le_of_ble_eq_true rfl) (by omega) (by omega) (f_X13_spell_ok X (by omega) (by omega) nn l0 41 h e_u10) ?_
      clear e_u10
      show mx_S X F L 456 56 [(0, .ref l0), (1, .int l1), (2, .int l2)] [] u10 0 0 (some (.int r.1), r.2, 0, 0)
      refine mx_S.ext [(0, .ref l0), (1, .int l1)] (mx_sub_pos [0, 1] rfl (show ([0, 1, 2] : List Nat).Nodup by decide)) ?_
      exact j_X13_kindOf_56_ok X hF hL nn l0 l1 u10 hf
    · refine sb_ic_ge hm dX13_kindOf_24 (tgt := 50) rfl (fun z => absurd z c19) (fun _ => ?_)
      refine mx_S.pu (pc2 := 28) (lv2 := [(0, .ref l0), (1, .int l1), (2, .int l2)]) (st2 := [.ref l0]) hm dX13_kindOf_27 rfl ?_
      refine mx_S.pu (pc2 := 29) (lv2 := [(0, .ref l0), (1, .int l1), (2, .int l2)]) (st2 := [.ref l0, .ref l0]) hm dX13_kindOf_28 rfl ?_
      replace hf := mx_sv_el hf; obtain ⟨v11, e_v11, hf⟩ := hf
      refine sx_get hm dX13_kindOf_29 rs_RX13_113 (xgr_el e_v11) ?_
      clear e_v11
      refine mx_S.pu (pc2 := 33) (lv2 := [(0, .ref l0), (1, .int l1), (2, .int l2)]) (st2 := [.ref l0, .ref v11, .ref l0]) hm dX13_kindOf_32 rfl ?_
      replace hf := mx_sv_el hf; obtain ⟨v12, e_v12, hf⟩ := hf
      refine sx_get hm dX13_kindOf_33 rs_RX13_92 (xgr_el e_v12) ?_
      clear e_v12
      refine mx_S.pu (pc2 := 37) (lv2 := [(0, .ref l0), (1, .int l1), (2, .int l2)]) (st2 := [.int l1, .ref v12, .ref v11, .ref l0]) hm dX13_kindOf_36 rfl ?_
      replace hf := mx_sv_el hf; obtain ⟨v13, e_v13, hf⟩ := hf
      refine sx_ald hm dX13_kindOf_37 e_v13 ?_
      clear e_v13
      refine mx_S.pu (pc2 := 39) (lv2 := [(0, .ref l0), (1, .int l1), (2, .int l2)]) (st2 := [.int l2, .int v13, .ref v11, .ref l0]) hm dX13_kindOf_38 rfl ?_
      replace hf := xl_el hf; obtain ⟨v14, e_v14, hf⟩ := hf
      refine mx_S.pu (pc2 := 40) (lv2 := [(0, .ref l0), (1, .int l1), (2, .int l2)]) (st2 := [.int v14, .ref v11, .ref l0]) hm dX13_kindOf_39 (by rw [← e_v14]; rfl) ?_
      clear e_v14
      replace hf := mx_sv_el hf; obtain ⟨v15, e_v15, hf⟩ := hf
      refine sx_ald hm dX13_kindOf_40 e_v15 ?_
      clear e_v15
      replace hf := mx_gd_el hf; obtain ⟨c16, hf⟩ := hf
      replace hf := mx_sv_el hf; obtain ⟨u17, e_u17, hf⟩ := hf
      refine sx_cv hm dX13_kindOf_41 rs_RX13_612 mt_X13_spellKind [.int v15] [] (b := l0) (ci := 13) rfl rfl rfl c16 (Nat.le_of_ble_eq_true rfl) (Nat.le_of_ble_eq_true rfl) (by omega) (by omega) (f_X13_spellKind_ok X (by omega) (by omega) nn l0 v15 h e_u17) ?_
      clear e_u17
      show mx_S X F L 456 44 [(0, .ref l0), (1, .int l1), (2, .int l2)] [] u17 0 0 (some (.int r.1), r.2, 0, 0)
      replace hf := xl_el hf; obtain ⟨v18, e_v18, hf⟩ := hf
      refine mx_S.pu (pc2 := 47) (lv2 := [(2, .int v18), (0, .ref l0), (1, .int l1)]) (st2 := []) hm dX13_kindOf_44 (by rw [← e_v18]; rfl) ?_
      clear e_v18
      refine mx_S.pu (pc2 := 17) (lv2 := [(2, .int v18), (0, .ref l0), (1, .int l1)]) (st2 := []) hm dX13_kindOf_47 rfl ?_
      refine mx_S.ext [(0, .ref l0), (1, .int l1), (2, .int v18)] (mx_sub_pos [1, 2, 0] rfl (show ([2, 0, 1] : List Nat).Nodup by decide)) ?_
      exact ih l0 l1 v18 u17 _ hf
set_option maxHeartbeats 4000000 in
set_option maxRecDepth 20000 in
theorem f_X13_kindOf_ok (X : Nat × (Nat → Int32)) {F L : Nat} (hF : 6 ≤ F) (hL : 129 ≤ L) (nn : Nat) (a0 : Nat) (a1 : Int32) (h : mx_H) {r : (Int32 × mx_H)} (hf : f_X13_kindOf nn a0 a1 h = some r) : mx_R X F L 456 [.ref a0, .int a1] h (some (.int r.1), r.2, 0, 0) := by
  have hm : mx_mt 456 = some (yX13_kindOf, cX13_kindOf, 3, (some .int)) := mt_X13_kindOf
  show mx_S X F L 456 0 [(0, .ref a0), (1, .int a1)] [] h 0 0 (some (.int r.1), r.2, 0, 0)
  unfold f_X13_kindOf at hf
  refine mx_S.pu (pc2 := 1) (lv2 := [(0, .ref a0), (1, .int a1)]) (st2 := [.ref a0]) hm dX13_kindOf_0 rfl ?_
  replace hf := mx_sv_el hf; obtain ⟨v20, e_v20, hf⟩ := hf
  refine sx_get hm dX13_kindOf_1 rs_RX13_74 (xgr_el e_v20) ?_
  clear e_v20
  refine mx_S.pu (pc2 := 5) (lv2 := [(0, .ref a0), (1, .int a1)]) (st2 := [.int a1, .ref v20]) hm dX13_kindOf_4 rfl ?_
  replace hf := mx_sv_el hf; obtain ⟨v21, e_v21, hf⟩ := hf
  refine sx_ald hm dX13_kindOf_5 e_v21 ?_
  clear e_v21
  rcases mx_if_el hf with ⟨c24, hf⟩ | ⟨c24, hf⟩
  · refine sb_if_le hm dX13_kindOf_6 (tgt := 56) rfl (fun _ => ?_) (fun z => absurd c24 z)
    exact j_X13_kindOf_56_ok X hF hL nn a0 a1 h hf
  · refine sb_if_le hm dX13_kindOf_6 (tgt := 56) rfl (fun z => absurd z c24) (fun _ => ?_)
    refine mx_S.pu (pc2 := 10) (lv2 := [(0, .ref a0), (1, .int a1)]) (st2 := [.ref a0]) hm dX13_kindOf_9 rfl ?_
    refine sx_bi (v := 40) hm dX13_kindOf_10 (by decide) ?_
    replace hf := mx_gd_el hf; obtain ⟨c22, hf⟩ := hf
    replace hf := mx_sv_el hf; obtain ⟨u23, e_u23, hf⟩ := hf
    refine sx_cv hm dX13_kindOf_12 rs_RX13_593 mt_X13_spell [.int 40] [] (b := a0) (ci := 13) rfl rfl rfl c22 (Nat.le_of_ble_eq_true rfl) (Nat.le_of_ble_eq_true rfl) (by omega) (by omega) (f_X13_spell_ok X (by omega) (by omega) nn a0 40 h e_u23) ?_
    clear e_u23
    show mx_S X F L 456 15 [(0, .ref a0), (1, .int a1)] [] u23 0 0 (some (.int r.1), r.2, 0, 0)
    refine sx_ic (v := 0) hm dX13_kindOf_15 (by decide) ?_
    refine mx_S.pu (pc2 := 17) (lv2 := [(2, .int 0), (0, .ref a0), (1, .int a1)]) (st2 := []) hm dX13_kindOf_16 rfl ?_
    refine mx_S.ext [(0, .ref a0), (1, .int a1), (2, .int 0)] (mx_sub_pos [1, 2, 0] rfl (show ([2, 0, 1] : List Nat).Nodup by decide)) ?_
    exact w_X13_kindOf_17_ok X hF hL nn nn a0 a1 0 u23 _ hf
set_option maxHeartbeats 4000000 in
set_option maxRecDepth 20000 in
theorem f_X13_comes_ok (X : Nat × (Nat → Int32)) {F L : Nat} (hF : 1 ≤ F) (hL : 60 ≤ L) (nn : Nat) (a0 : Nat) (a1 : Int32) (a2 : Int32) (h : mx_H) {r : mx_H} (hf : f_X13_comes nn a0 a1 a2 h = some r) : mx_R X F L 465 [.ref a0, .int a1, .int a2] h (none, r, 0, 0) := by
  have hm : mx_mt 465 = some (yX13_comes, cX13_comes, 3, none) := mt_X13_comes
  show mx_S X F L 465 0 [(0, .ref a0), (1, .int a1), (2, .int a2)] [] h 0 0 (none, r, 0, 0)
  unfold f_X13_comes at hf
  refine mx_S.pu (pc2 := 1) (lv2 := [(0, .ref a0), (1, .int a1), (2, .int a2)]) (st2 := [.ref a0]) hm dX13_comes_0 rfl ?_
  refine mx_S.pu (pc2 := 2) (lv2 := [(0, .ref a0), (1, .int a1), (2, .int a2)]) (st2 := [.int a1, .ref a0]) hm dX13_comes_1 rfl ?_
  refine mx_S.pu (pc2 := 3) (lv2 := [(0, .ref a0), (1, .int a1), (2, .int a2)]) (st2 := [.int a2, .int a1, .ref a0]) hm dX13_comes_2 rfl ?_
  replace hf := mx_gd_el hf; obtain ⟨c1, hf⟩ := hf
  replace hf := mx_sv_el hf; obtain ⟨u2, e_u2, hf⟩ := hf
  refine sx_cv hm dX13_comes_3 rs_RX13_528 mt_X13_come [.int a1, .int a2] [] (b := a0) (ci := 13) rfl rfl rfl c1 (Nat.le_of_ble_eq_true rfl) (Nat.le_of_ble_eq_true rfl) (by omega) (by omega) (f_X13_come_ok X (by omega) (by omega) nn a0 a1 a2 h e_u2) ?_
  clear e_u2
  show mx_S X F L 465 6 [(0, .ref a0), (1, .int a1), (2, .int a2)] [] u2 0 0 (none, r, 0, 0)
  refine mx_S.pu (pc2 := 7) (lv2 := [(0, .ref a0), (1, .int a1), (2, .int a2)]) (st2 := [.ref a0]) hm dX13_comes_6 rfl ?_
  refine mx_S.pu (pc2 := 8) (lv2 := [(0, .ref a0), (1, .int a1), (2, .int a2)]) (st2 := [.ref a0, .ref a0]) hm dX13_comes_7 rfl ?_
  replace hf := mx_sv_el hf; obtain ⟨v3, e_v3, hf⟩ := hf
  refine sx_get hm dX13_comes_8 rs_RX13_661 (xgi_el e_v3) ?_
  clear e_v3
  refine mx_S.pu (pc2 := 12) (lv2 := [(0, .ref a0), (1, .int a1), (2, .int a2)]) (st2 := [.ref a0, .int v3, .ref a0]) hm dX13_comes_11 rfl ?_
  replace hf := mx_sv_el hf; obtain ⟨v4, e_v4, hf⟩ := hf
  refine sx_get hm dX13_comes_12 rs_RX13_513 (xgi_el e_v4) ?_
  clear e_v4
  replace hf := xl_el hf; obtain ⟨v5, e_v5, hf⟩ := hf
  refine sx_max hm dX13_comes_15 rs_RX13_635 (by omega) (Nat.le_trans (Nat.le_of_ble_eq_true rfl : _ ≤ 60) (by omega)) ?_
  rw [e_v5]
  clear e_v5
  replace hf := mx_sv_el hf; obtain ⟨h6, e_h6, hf⟩ := hf
  refine sx_put hm dX13_comes_18 rs_RX13_661 ft_13_72 ⟨rfl, rfl⟩ (fun z => by cases z) e_h6 ?_
  clear e_h6
  cases hf
  exact sx_ret hm dX13_comes_21 rfl
set_option maxHeartbeats 4000000 in
set_option maxRecDepth 20000 in
theorem f_X13_textOf_ok (X : Nat × (Nat → Int32)) {F L : Nat} (hF : 2 ≤ F) (hL : 49 ≤ L) (nn : Nat) (a0 : Nat) (a1 : Int32) (h : mx_H) {r : (Int32 × mx_H)} (hf : f_X13_textOf nn a0 a1 h = some r) : mx_R X F L 455 [.ref a0, .int a1] h (some (.int r.1), r.2, 0, 0) := by
  have hm : mx_mt 455 = some (yX13_textOf, cX13_textOf, 2, (some .int)) := mt_X13_textOf
  show mx_S X F L 455 0 [(0, .ref a0), (1, .int a1)] [] h 0 0 (some (.int r.1), r.2, 0, 0)
  unfold f_X13_textOf at hf
  refine mx_S.pu (pc2 := 1) (lv2 := [(0, .ref a0), (1, .int a1)]) (st2 := [.ref a0]) hm dX13_textOf_0 rfl ?_
  refine mx_S.pu (pc2 := 2) (lv2 := [(0, .ref a0), (1, .int a1)]) (st2 := [.int a1, .ref a0]) hm dX13_textOf_1 rfl ?_
  replace hf := mx_gd_el hf; obtain ⟨c1, hf⟩ := hf
  replace hf := mx_sv_el hf; obtain ⟨u2, e_u2, hf⟩ := hf
  refine sx_cv hm dX13_textOf_2 rs_RX13_596 mt_X13_spellToken [.int a1] [] (b := a0) (ci := 13) rfl rfl rfl c1 (Nat.le_of_ble_eq_true rfl) (Nat.le_of_ble_eq_true rfl) (by omega) (by omega) (f_X13_spellToken_ok X (by omega) (by omega) nn a0 a1 h e_u2) ?_
  clear e_u2
  show mx_S X F L 455 5 [(0, .ref a0), (1, .int a1)] [] u2 0 0 (some (.int r.1), r.2, 0, 0)
  refine mx_S.pu (pc2 := 6) (lv2 := [(0, .ref a0), (1, .int a1)]) (st2 := [.ref a0]) hm dX13_textOf_5 rfl ?_
  replace hf := mx_gd_el hf; obtain ⟨c3, hf⟩ := hf
  replace hf := mx_sv_el hf; obtain ⟨u4, e_u4, hf⟩ := hf
  refine sx_cv hm dX13_textOf_6 rs_RX13_615 mt_X13_spelling [] [] (b := a0) (ci := 13) rfl rfl rfl c3 (Nat.le_of_ble_eq_true rfl) (Nat.le_of_ble_eq_true rfl) (by omega) (by omega) (f_X13_spelling_ok X (by omega) (by omega) nn a0 u2 e_u4) ?_
  clear e_u4
  show mx_S X F L 455 9 [(0, .ref a0), (1, .int a1)] [.int u4.1] u4.2 0 0 (some (.int r.1), r.2, 0, 0)
  cases hf
  exact sx_ire hm dX13_textOf_9 rfl rfl
set_option maxHeartbeats 4000000 in
set_option maxRecDepth 20000 in
theorem f_X13_memberConstant_ok (X : Nat × (Nat → Int32)) {F L : Nat} (hF : 7 ≤ F) (hL : 151 ≤ L) (nn : Nat) (a0 : Nat) (a1 : Int32) (a2 : Int32) (h : mx_H) {r : (Int32 × mx_H)} (hf : f_X13_memberConstant nn a0 a1 a2 h = some r) : mx_R X F L 457 [.ref a0, .int a1, .int a2] h (some (.int r.1), r.2, 0, 0) := by
  have hm : mx_mt 457 = some (yX13_memberConstant, cX13_memberConstant, 5, (some .int)) := mt_X13_memberConstant
  show mx_S X F L 457 0 [(0, .ref a0), (1, .int a1), (2, .int a2)] [] h 0 0 (some (.int r.1), r.2, 0, 0)
  unfold f_X13_memberConstant at hf
  refine mx_S.pu (pc2 := 1) (lv2 := [(0, .ref a0), (1, .int a1), (2, .int a2)]) (st2 := [.ref a0]) hm dX13_memberConstant_0 rfl ?_
  refine sx_bi (v := 8) hm dX13_memberConstant_1 (by decide) ?_
  refine sx_ic (v := 2) hm dX13_memberConstant_3 (by decide) ?_
  refine mx_S.pu (pc2 := 5) (lv2 := [(0, .ref a0), (1, .int a1), (2, .int a2)]) (st2 := [.int a1, .int 2, .int 8, .ref a0]) hm dX13_memberConstant_4 rfl ?_
  replace hf := xl_el hf; obtain ⟨v1, e_v1, hf⟩ := hf
  refine mx_S.pu (pc2 := 6) (lv2 := [(0, .ref a0), (1, .int a1), (2, .int a2)]) (st2 := [.int v1, .int 8, .ref a0]) hm dX13_memberConstant_5 (by rw [← e_v1]; rfl) ?_
  clear e_v1
  replace hf := xl_el hf; obtain ⟨v2, e_v2, hf⟩ := hf
  refine mx_S.pu (pc2 := 7) (lv2 := [(0, .ref a0), (1, .int a1), (2, .int a2)]) (st2 := [.int v2, .ref a0]) hm dX13_memberConstant_6 (by rw [← e_v2]; rfl) ?_
  clear e_v2
  replace hf := mx_gd_el hf; obtain ⟨c3, hf⟩ := hf
  replace hf := mx_sv_el hf; obtain ⟨u4, e_u4, hf⟩ := hf
  refine sx_cv hm dX13_memberConstant_7 rs_RX13_618 mt_X13_classConstant [.int v2] [] (b := a0) (ci := 13) rfl rfl rfl c3 (Nat.le_of_ble_eq_true rfl) (Nat.le_of_ble_eq_true rfl) (by omega) (by omega) (f_X13_classConstant_ok X (by omega) (by omega) nn a0 v2 h e_u4) ?_
  clear e_u4
  show mx_S X F L 457 10 [(0, .ref a0), (1, .int a1), (2, .int a2)] [.int u4.1] u4.2 0 0 (some (.int r.1), r.2, 0, 0)
  refine mx_S.pu (pc2 := 11) (lv2 := [(3, .int u4.1), (0, .ref a0), (1, .int a1), (2, .int a2)]) (st2 := []) hm dX13_memberConstant_10 rfl ?_
  refine mx_S.pu (pc2 := 12) (lv2 := [(3, .int u4.1), (0, .ref a0), (1, .int a1), (2, .int a2)]) (st2 := [.ref a0]) hm dX13_memberConstant_11 rfl ?_
  refine mx_S.pu (pc2 := 13) (lv2 := [(3, .int u4.1), (0, .ref a0), (1, .int a1), (2, .int a2)]) (st2 := [.ref a0, .ref a0]) hm dX13_memberConstant_12 rfl ?_
  replace hf := mx_sv_el hf; obtain ⟨v5, e_v5, hf⟩ := hf
  refine sx_get hm dX13_memberConstant_13 rs_RX13_86 (xgr_el e_v5) ?_
  clear e_v5
  refine mx_S.pu (pc2 := 17) (lv2 := [(3, .int u4.1), (0, .ref a0), (1, .int a1), (2, .int a2)]) (st2 := [.int a2, .ref v5, .ref a0]) hm dX13_memberConstant_16 rfl ?_
  replace hf := mx_sv_el hf; obtain ⟨v6, e_v6, hf⟩ := hf
  refine sx_ald hm dX13_memberConstant_17 e_v6 ?_
  clear e_v6
  replace hf := mx_gd_el hf; obtain ⟨c7, hf⟩ := hf
  replace hf := mx_sv_el hf; obtain ⟨u8, e_u8, hf⟩ := hf
  refine sx_cv hm dX13_memberConstant_18 rs_RX13_621 mt_X13_textOf [.int v6] [] (b := a0) (ci := 13) rfl rfl rfl c7 (Nat.le_of_ble_eq_true rfl) (Nat.le_of_ble_eq_true rfl) (by omega) (by omega) (f_X13_textOf_ok X (by omega) (by omega) nn a0 v6 u4.2 e_u8) ?_
  clear e_u8
  show mx_S X F L 457 21 [(3, .int u4.1), (0, .ref a0), (1, .int a1), (2, .int a2)] [.int u8.1] u8.2 0 0 (some (.int r.1), r.2, 0, 0)
  refine mx_S.pu (pc2 := 23) (lv2 := [(4, .int u8.1), (3, .int u4.1), (0, .ref a0), (1, .int a1), (2, .int a2)]) (st2 := []) hm dX13_memberConstant_21 rfl ?_
  refine mx_S.pu (pc2 := 24) (lv2 := [(4, .int u8.1), (3, .int u4.1), (0, .ref a0), (1, .int a1), (2, .int a2)]) (st2 := [.ref a0]) hm dX13_memberConstant_23 rfl ?_
  refine sx_ic (v := 4) hm dX13_memberConstant_24 (by decide) ?_
  refine mx_S.pu (pc2 := 26) (lv2 := [(4, .int u8.1), (3, .int u4.1), (0, .ref a0), (1, .int a1), (2, .int a2)]) (st2 := [.int u4.1, .int 4, .ref a0]) hm dX13_memberConstant_25 rfl ?_
  refine mx_S.pu (pc2 := 28) (lv2 := [(4, .int u8.1), (3, .int u4.1), (0, .ref a0), (1, .int a1), (2, .int a2)]) (st2 := [.int u8.1, .int u4.1, .int 4, .ref a0]) hm dX13_memberConstant_26 rfl ?_
  refine mx_S.pu (pc2 := 29) (lv2 := [(4, .int u8.1), (3, .int u4.1), (0, .ref a0), (1, .int a1), (2, .int a2)]) (st2 := [.ref a0, .int u8.1, .int u4.1, .int 4, .ref a0]) hm dX13_memberConstant_28 rfl ?_
  refine mx_S.pu (pc2 := 30) (lv2 := [(4, .int u8.1), (3, .int u4.1), (0, .ref a0), (1, .int a1), (2, .int a2)]) (st2 := [.int a2, .ref a0, .int u8.1, .int u4.1, .int 4, .ref a0]) hm dX13_memberConstant_29 rfl ?_
  replace hf := mx_gd_el hf; obtain ⟨c9, hf⟩ := hf
  replace hf := mx_sv_el hf; obtain ⟨u10, e_u10, hf⟩ := hf
  refine sx_cv hm dX13_memberConstant_30 rs_RX13_624 mt_X13_kindOf [.int a2] [.int u8.1, .int u4.1, .int 4, .ref a0] (b := a0) (ci := 13) rfl rfl rfl c9 (Nat.le_of_ble_eq_true rfl) (Nat.le_of_ble_eq_true rfl) (by omega) (by omega) (f_X13_kindOf_ok X (by omega) (by omega) nn a0 a2 u8.2 e_u10) ?_
  clear e_u10
  show mx_S X F L 457 33 [(4, .int u8.1), (3, .int u4.1), (0, .ref a0), (1, .int a1), (2, .int a2)] [.int u10.1, .int u8.1, .int u4.1, .int 4, .ref a0] u10.2 0 0 (some (.int r.1), r.2, 0, 0)
  replace hf := mx_gd_el hf; obtain ⟨c11, hf⟩ := hf
  replace hf := mx_sv_el hf; obtain ⟨u12, e_u12, hf⟩ := hf
  refine sx_cv hm dX13_memberConstant_33 rs_RX13_608 mt_X13_constant [.int 4, .int u4.1, .int u8.1, .int u10.1] [] (b := a0) (ci := 13) rfl rfl rfl c11 (Nat.le_of_ble_eq_true rfl) (Nat.le_of_ble_eq_true rfl) (by omega) (by omega) (f_X13_constant_ok X (by omega) (by omega) nn a0 4 u4.1 u8.1 u10.1 u10.2 e_u12) ?_
  clear e_u12
  show mx_S X F L 457 36 [(4, .int u8.1), (3, .int u4.1), (0, .ref a0), (1, .int a1), (2, .int a2)] [.int u12.1] u12.2 0 0 (some (.int r.1), r.2, 0, 0)
  cases hf
  exact sx_ire hm dX13_memberConstant_36 rfl rfl
set_option maxHeartbeats 4000000 in
set_option maxRecDepth 20000 in
theorem j_X13_put_24_ok (X : Nat × (Nat → Int32)) {F L : Nat} (hF : 0 ≤ F) (hL : 0 ≤ L) (nn : Nat) (l0 : Nat) (h : mx_H) {r : mx_H} (hf : j_X13_put_24 nn l0 h = some r) : mx_S X F L 458 24 [(0, .ref l0)] [] h 0 0 (none, r, 0, 0) := by
  have hm : mx_mt 458 = some (yX13_put, cX13_put, 2, none) := mt_X13_put
  unfold j_X13_put_24 at hf
  refine mx_S.pu (pc2 := 25) (lv2 := [(0, .ref l0)]) (st2 := [.ref l0]) hm dX13_put_24 rfl ?_
  refine mx_S.pu (pc2 := 26) (lv2 := [(0, .ref l0)]) (st2 := [.ref l0, .ref l0]) hm dX13_put_25 rfl ?_
  replace hf := mx_sv_el hf; obtain ⟨v1, e_v1, hf⟩ := hf
  refine sx_get hm dX13_put_26 rs_RX13_627 (xgi_el e_v1) ?_
  clear e_v1
  refine sx_ic (v := 1) hm dX13_put_29 (by decide) ?_
  replace hf := xl_el hf; obtain ⟨v2, e_v2, hf⟩ := hf
  refine mx_S.pu (pc2 := 31) (lv2 := [(0, .ref l0)]) (st2 := [.int v2, .ref l0]) hm dX13_put_30 (by rw [← e_v2]; rfl) ?_
  clear e_v2
  replace hf := mx_sv_el hf; obtain ⟨h3, e_h3, hf⟩ := hf
  refine sx_put hm dX13_put_31 rs_RX13_627 ft_13_68 ⟨rfl, rfl⟩ (fun z => by cases z) e_h3 ?_
  clear e_h3
  cases hf
  exact sx_ret hm dX13_put_34 rfl
set_option maxHeartbeats 4000000 in
set_option maxRecDepth 20000 in
theorem f_X13_put_ok (X : Nat × (Nat → Int32)) {F L : Nat} (hF : 0 ≤ F) (hL : 0 ≤ L) (nn : Nat) (a0 : Nat) (a1 : Int32) (h : mx_H) {r : mx_H} (hf : f_X13_put nn a0 a1 h = some r) : mx_R X F L 458 [.ref a0, .int a1] h (none, r, 0, 0) := by
  have hm : mx_mt 458 = some (yX13_put, cX13_put, 2, none) := mt_X13_put
  show mx_S X F L 458 0 [(0, .ref a0), (1, .int a1)] [] h 0 0 (none, r, 0, 0)
  unfold f_X13_put at hf
  refine mx_S.pu (pc2 := 1) (lv2 := [(0, .ref a0), (1, .int a1)]) (st2 := [.ref a0]) hm dX13_put_0 rfl ?_
  replace hf := mx_sv_el hf; obtain ⟨v4, e_v4, hf⟩ := hf
  refine sx_get hm dX13_put_1 rs_RX13_627 (xgi_el e_v4) ?_
  clear e_v4
  refine sx_si (v := 12000) hm dX13_put_4 (by decide) ?_
  rcases mx_if_el hf with ⟨c9, hf⟩ | ⟨c9, hf⟩
  · refine sb_ic_ge hm dX13_put_7 (tgt := 24) rfl (fun _ => ?_) (fun z => absurd c9 z)
    refine mx_S.ext [(0, .ref a0)] (mx_sub_pos [0] rfl (show ([0, 1] : List Nat).Nodup by decide)) ?_
    exact j_X13_put_24_ok X hF hL nn a0 h hf
  · refine sb_ic_ge hm dX13_put_7 (tgt := 24) rfl (fun z => absurd z c9) (fun _ => ?_)
    refine mx_S.pu (pc2 := 11) (lv2 := [(0, .ref a0), (1, .int a1)]) (st2 := [.ref a0]) hm dX13_put_10 rfl ?_
    replace hf := mx_sv_el hf; obtain ⟨v5, e_v5, hf⟩ := hf
    refine sx_get hm dX13_put_11 rs_RX13_147 (xgr_el e_v5) ?_
    clear e_v5
    refine mx_S.pu (pc2 := 15) (lv2 := [(0, .ref a0), (1, .int a1)]) (st2 := [.ref a0, .ref v5]) hm dX13_put_14 rfl ?_
    replace hf := mx_sv_el hf; obtain ⟨v6, e_v6, hf⟩ := hf
    refine sx_get hm dX13_put_15 rs_RX13_627 (xgi_el e_v6) ?_
    clear e_v6
    refine mx_S.pu (pc2 := 19) (lv2 := [(0, .ref a0), (1, .int a1)]) (st2 := [.int a1, .int v6, .ref v5]) hm dX13_put_18 rfl ?_
    refine sx_si (v := 255) hm dX13_put_19 (by decide) ?_
    replace hf := xl_el hf; obtain ⟨v7, e_v7, hf⟩ := hf
    refine mx_S.pu (pc2 := 23) (lv2 := [(0, .ref a0), (1, .int a1)]) (st2 := [.int v7, .int v6, .ref v5]) hm dX13_put_22 (by rw [← e_v7]; rfl) ?_
    clear e_v7
    replace hf := mx_sv_el hf; obtain ⟨h8, e_h8, hf⟩ := hf
    refine sx_ast hm dX13_put_23 e_h8 ?_
    clear e_h8
    refine mx_S.ext [(0, .ref a0)] (mx_sub_pos [0] rfl (show ([0, 1] : List Nat).Nodup by decide)) ?_
    exact j_X13_put_24_ok X hF hL nn a0 h8 hf
set_option maxHeartbeats 4000000 in
set_option maxRecDepth 20000 in
theorem f_X13_push_ok (X : Nat × (Nat → Int32)) {F L : Nat} (hF : 1 ≤ F) (hL : 60 ≤ L) (nn : Nat) (a0 : Nat) (a1 : Int32) (h : mx_H) {r : mx_H} (hf : f_X13_push nn a0 a1 h = some r) : mx_R X F L 459 [.ref a0, .int a1] h (none, r, 0, 0) := by
  have hm : mx_mt 459 = some (yX13_push, cX13_push, 2, none) := mt_X13_push
  show mx_S X F L 459 0 [(0, .ref a0), (1, .int a1)] [] h 0 0 (none, r, 0, 0)
  unfold f_X13_push at hf
  refine mx_S.pu (pc2 := 1) (lv2 := [(0, .ref a0), (1, .int a1)]) (st2 := [.ref a0]) hm dX13_push_0 rfl ?_
  replace hf := mx_sv_el hf; obtain ⟨v1, e_v1, hf⟩ := hf
  refine sx_get hm dX13_push_1 rs_RX13_150 (xgr_el e_v1) ?_
  clear e_v1
  refine mx_S.pu (pc2 := 5) (lv2 := [(0, .ref a0), (1, .int a1)]) (st2 := [.ref a0, .ref v1]) hm dX13_push_4 rfl ?_
  replace hf := mx_sv_el hf; obtain ⟨v2, e_v2, hf⟩ := hf
  refine sx_get hm dX13_push_5 rs_RX13_629 (xgi_el e_v2) ?_
  clear e_v2
  refine mx_S.pu (pc2 := 9) (lv2 := [(0, .ref a0), (1, .int a1)]) (st2 := [.int a1, .int v2, .ref v1]) hm dX13_push_8 rfl ?_
  replace hf := mx_sv_el hf; obtain ⟨h3, e_h3, hf⟩ := hf
  refine sx_ast hm dX13_push_9 e_h3 ?_
  clear e_h3
  refine mx_S.pu (pc2 := 11) (lv2 := [(0, .ref a0), (1, .int a1)]) (st2 := [.ref a0]) hm dX13_push_10 rfl ?_
  refine mx_S.pu (pc2 := 12) (lv2 := [(0, .ref a0), (1, .int a1)]) (st2 := [.ref a0, .ref a0]) hm dX13_push_11 rfl ?_
  replace hf := mx_sv_el hf; obtain ⟨v4, e_v4, hf⟩ := hf
  refine sx_get hm dX13_push_12 rs_RX13_629 (xgi_el e_v4) ?_
  clear e_v4
  refine sx_ic (v := 1) hm dX13_push_15 (by decide) ?_
  replace hf := xl_el hf; obtain ⟨v5, e_v5, hf⟩ := hf
  refine mx_S.pu (pc2 := 17) (lv2 := [(0, .ref a0), (1, .int a1)]) (st2 := [.int v5, .ref a0]) hm dX13_push_16 (by rw [← e_v5]; rfl) ?_
  clear e_v5
  replace hf := mx_sv_el hf; obtain ⟨h6, e_h6, hf⟩ := hf
  refine sx_put hm dX13_push_17 rs_RX13_629 ft_13_70 ⟨rfl, rfl⟩ (fun z => by cases z) e_h6 ?_
  clear e_h6
  refine mx_S.pu (pc2 := 21) (lv2 := [(0, .ref a0), (1, .int a1)]) (st2 := [.ref a0]) hm dX13_push_20 rfl ?_
  refine mx_S.pu (pc2 := 22) (lv2 := [(0, .ref a0), (1, .int a1)]) (st2 := [.ref a0, .ref a0]) hm dX13_push_21 rfl ?_
  replace hf := mx_sv_el hf; obtain ⟨v7, e_v7, hf⟩ := hf
  refine sx_get hm dX13_push_22 rs_RX13_632 (xgi_el e_v7) ?_
  clear e_v7
  refine mx_S.pu (pc2 := 26) (lv2 := [(0, .ref a0), (1, .int a1)]) (st2 := [.ref a0, .int v7, .ref a0]) hm dX13_push_25 rfl ?_
  replace hf := mx_sv_el hf; obtain ⟨v8, e_v8, hf⟩ := hf
  refine sx_get hm dX13_push_26 rs_RX13_629 (xgi_el e_v8) ?_
  clear e_v8
  replace hf := xl_el hf; obtain ⟨v9, e_v9, hf⟩ := hf
  refine sx_max hm dX13_push_29 rs_RX13_635 (by omega) (Nat.le_trans (Nat.le_of_ble_eq_true rfl : _ ≤ 60) (by omega)) ?_
  rw [e_v9]
  clear e_v9
  replace hf := mx_sv_el hf; obtain ⟨h10, e_h10, hf⟩ := hf
  refine sx_put hm dX13_push_32 rs_RX13_632 ft_13_71 ⟨rfl, rfl⟩ (fun z => by cases z) e_h10 ?_
  clear e_h10
  cases hf
  exact sx_ret hm dX13_push_35 rfl
set_option maxHeartbeats 4000000 in
set_option maxRecDepth 20000 in
theorem f_X13_self_ok (X : Nat × (Nat → Int32)) {F L : Nat} (hF : 2 ≤ F) (hL : 81 ≤ L) (nn : Nat) (a0 : Nat) (h : mx_H) {r : mx_H} (hf : f_X13_self nn a0 h = some r) : mx_R X F L 471 [.ref a0] h (none, r, 0, 0) := by
  have hm : mx_mt 471 = some (yX13_self, cX13_self, 1, none) := mt_X13_self
  show mx_S X F L 471 0 [(0, .ref a0)] [] h 0 0 (none, r, 0, 0)
  unfold f_X13_self at hf
  refine mx_S.pu (pc2 := 1) (lv2 := [(0, .ref a0)]) (st2 := [.ref a0]) hm dX13_self_0 rfl ?_
  refine sx_bi (v := 25) hm dX13_self_1 (by decide) ?_
  replace hf := mx_gd_el hf; obtain ⟨c1, hf⟩ := hf
  replace hf := mx_sv_el hf; obtain ⟨u2, e_u2, hf⟩ := hf
  refine sx_cv hm dX13_self_3 rs_RX13_646 mt_X13_put [.int 25] [] (b := a0) (ci := 13) rfl rfl rfl c1 (Nat.le_of_ble_eq_true rfl) (Nat.le_of_ble_eq_true rfl) (by omega) (by omega) (f_X13_put_ok X (by omega) (by omega) nn a0 25 h e_u2) ?_
  clear e_u2
  show mx_S X F L 471 6 [(0, .ref a0)] [] u2 0 0 (none, r, 0, 0)
  refine mx_S.pu (pc2 := 7) (lv2 := [(0, .ref a0)]) (st2 := [.ref a0]) hm dX13_self_6 rfl ?_
  refine sx_ic (v := 0) hm dX13_self_7 (by decide) ?_
  replace hf := mx_gd_el hf; obtain ⟨c3, hf⟩ := hf
  replace hf := mx_sv_el hf; obtain ⟨u4, e_u4, hf⟩ := hf
  refine sx_cv hm dX13_self_8 rs_RX13_646 mt_X13_put [.int 0] [] (b := a0) (ci := 13) rfl rfl rfl c3 (Nat.le_of_ble_eq_true rfl) (Nat.le_of_ble_eq_true rfl) (by omega) (by omega) (f_X13_put_ok X (by omega) (by omega) nn a0 0 u2 e_u4) ?_
  clear e_u4
  show mx_S X F L 471 11 [(0, .ref a0)] [] u4 0 0 (none, r, 0, 0)
  refine mx_S.pu (pc2 := 12) (lv2 := [(0, .ref a0)]) (st2 := [.ref a0]) hm dX13_self_11 rfl ?_
  refine sx_bi (v := 8) hm dX13_self_12 (by decide) ?_
  refine sx_ic (v := 2) hm dX13_self_14 (by decide) ?_
  refine mx_S.pu (pc2 := 16) (lv2 := [(0, .ref a0)]) (st2 := [.ref a0, .int 2, .int 8, .ref a0]) hm dX13_self_15 rfl ?_
  replace hf := mx_sv_el hf; obtain ⟨v5, e_v5, hf⟩ := hf
  refine sx_get hm dX13_self_16 rs_RX13_519 (xgi_el e_v5) ?_
  clear e_v5
  replace hf := xl_el hf; obtain ⟨v6, e_v6, hf⟩ := hf
  refine mx_S.pu (pc2 := 20) (lv2 := [(0, .ref a0)]) (st2 := [.int v6, .int 8, .ref a0]) hm dX13_self_19 (by rw [← e_v6]; rfl) ?_
  clear e_v6
  replace hf := xl_el hf; obtain ⟨v7, e_v7, hf⟩ := hf
  refine mx_S.pu (pc2 := 21) (lv2 := [(0, .ref a0)]) (st2 := [.int v7, .ref a0]) hm dX13_self_20 (by rw [← e_v7]; rfl) ?_
  clear e_v7
  replace hf := mx_gd_el hf; obtain ⟨c8, hf⟩ := hf
  replace hf := mx_sv_el hf; obtain ⟨u9, e_u9, hf⟩ := hf
  refine sx_cv hm dX13_self_21 rs_RX13_640 mt_X13_push [.int v7] [] (b := a0) (ci := 13) rfl rfl rfl c8 (Nat.le_of_ble_eq_true rfl) (Nat.le_of_ble_eq_true rfl) (by omega) (by omega) (f_X13_push_ok X (by omega) (by omega) nn a0 v7 u4 e_u9) ?_
  clear e_u9
  show mx_S X F L 471 24 [(0, .ref a0)] [] u9 0 0 (none, r, 0, 0)
  cases hf
  exact sx_ret hm dX13_self_24 rfl
set_option maxHeartbeats 4000000 in
set_option maxRecDepth 20000 in
theorem f_X13_isLedInWords_ok (X : Nat × (Nat → Int32)) {F L : Nat} (hF : 0 ≤ F) (hL : 0 ≤ L) (nn : Nat) (a0 : Nat) (a1 : Int32) (h : mx_H) {r : (Int32 × mx_H)} (hf : f_X13_isLedInWords nn a0 a1 h = some r) : mx_R X F L 473 [.ref a0, .int a1] h (some (.int r.1), r.2, 0, 0) := by
  have hm : mx_mt 473 = some (yX13_isLedInWords, cX13_isLedInWords, 3, (some .boolean)) := mt_X13_isLedInWords
  show mx_S X F L 473 0 [(0, .ref a0), (1, .int a1)] [] h 0 0 (some (.int r.1), r.2, 0, 0)
  unfold f_X13_isLedInWords at hf
  refine mx_S.pu (pc2 := 1) (lv2 := [(0, .ref a0), (1, .int a1)]) (st2 := [.ref a0]) hm dX13_isLedInWords_0 rfl ?_
  replace hf := mx_sv_el hf; obtain ⟨v1, e_v1, hf⟩ := hf
  refine sx_get hm dX13_isLedInWords_1 rs_RX13_28 (xgr_el e_v1) ?_
  clear e_v1
  refine mx_S.pu (pc2 := 5) (lv2 := [(0, .ref a0), (1, .int a1)]) (st2 := [.int a1, .ref v1]) hm dX13_isLedInWords_4 rfl ?_
  replace hf := mx_sv_el hf; obtain ⟨v2, e_v2, hf⟩ := hf
  refine sx_ald hm dX13_isLedInWords_5 e_v2 ?_
  clear e_v2
  refine mx_S.pu (pc2 := 7) (lv2 := [(2, .int v2), (0, .ref a0), (1, .int a1)]) (st2 := []) hm dX13_isLedInWords_6 rfl ?_
  refine mx_S.pu (pc2 := 8) (lv2 := [(2, .int v2), (0, .ref a0), (1, .int a1)]) (st2 := [.int v2]) hm dX13_isLedInWords_7 rfl ?_
  refine sx_bi (v := 37) hm dX13_isLedInWords_8 (by decide) ?_
  rcases mx_if_el hf with ⟨c10, hf⟩ | ⟨c10, hf⟩
  · refine sb_ic_eq hm dX13_isLedInWords_10 (tgt := 47) rfl (fun _ => ?_) (fun z => absurd c10 z)
    refine sx_ic (v := 1) hm dX13_isLedInWords_47 (by decide) ?_
    refine mx_S.pu (pc2 := 52) (lv2 := [(2, .int v2), (0, .ref a0), (1, .int a1)]) (st2 := [.int 1]) hm dX13_isLedInWords_48 rfl ?_
    cases hf
    exact sx_ire hm dX13_isLedInWords_52 rfl (by decide)
  · refine sb_ic_eq hm dX13_isLedInWords_10 (tgt := 47) rfl (fun z => absurd z c10) (fun _ => ?_)
    refine mx_S.pu (pc2 := 14) (lv2 := [(2, .int v2), (0, .ref a0), (1, .int a1)]) (st2 := [.int v2]) hm dX13_isLedInWords_13 rfl ?_
    refine sx_bi (v := 38) hm dX13_isLedInWords_14 (by decide) ?_
    rcases mx_if_el hf with ⟨c9, hf⟩ | ⟨c9, hf⟩
    · refine sb_ic_eq hm dX13_isLedInWords_16 (tgt := 47) rfl (fun _ => ?_) (fun z => absurd c9 z)
      refine sx_ic (v := 1) hm dX13_isLedInWords_47 (by decide) ?_
      refine mx_S.pu (pc2 := 52) (lv2 := [(2, .int v2), (0, .ref a0), (1, .int a1)]) (st2 := [.int 1]) hm dX13_isLedInWords_48 rfl ?_
      cases hf
      exact sx_ire hm dX13_isLedInWords_52 rfl (by decide)
    · refine sb_ic_eq hm dX13_isLedInWords_16 (tgt := 47) rfl (fun z => absurd z c9) (fun _ => ?_)
      refine mx_S.pu (pc2 := 20) (lv2 := [(2, .int v2), (0, .ref a0), (1, .int a1)]) (st2 := [.int v2]) hm dX13_isLedInWords_19 rfl ?_
      refine sx_bi (v := 30) hm dX13_isLedInWords_20 (by decide) ?_
      rcases mx_if_el hf with ⟨c8, hf⟩ | ⟨c8, hf⟩
      · refine sb_ic_eq hm dX13_isLedInWords_22 (tgt := 47) rfl (fun _ => ?_) (fun z => absurd c8 z)
        refine sx_ic (v := 1) hm dX13_isLedInWords_47 (by decide) ?_
        refine mx_S.pu (pc2 := 52) (lv2 := [(2, .int v2), (0, .ref a0), (1, .int a1)]) (st2 := [.int 1]) hm dX13_isLedInWords_48 rfl ?_
        cases hf
        exact sx_ire hm dX13_isLedInWords_52 rfl (by decide)
      · refine sb_ic_eq hm dX13_isLedInWords_22 (tgt := 47) rfl (fun z => absurd z c8) (fun _ => ?_)
        refine mx_S.pu (pc2 := 26) (lv2 := [(2, .int v2), (0, .ref a0), (1, .int a1)]) (st2 := [.int v2]) hm dX13_isLedInWords_25 rfl ?_
        refine sx_bi (v := 32) hm dX13_isLedInWords_26 (by decide) ?_
        rcases mx_if_el hf with ⟨c7, hf⟩ | ⟨c7, hf⟩
        · refine sb_ic_eq hm dX13_isLedInWords_28 (tgt := 47) rfl (fun _ => ?_) (fun z => absurd c7 z)
          refine sx_ic (v := 1) hm dX13_isLedInWords_47 (by decide) ?_
          refine mx_S.pu (pc2 := 52) (lv2 := [(2, .int v2), (0, .ref a0), (1, .int a1)]) (st2 := [.int 1]) hm dX13_isLedInWords_48 rfl ?_
          cases hf
          exact sx_ire hm dX13_isLedInWords_52 rfl (by decide)
        · refine sb_ic_eq hm dX13_isLedInWords_28 (tgt := 47) rfl (fun z => absurd z c7) (fun _ => ?_)
          refine mx_S.pu (pc2 := 32) (lv2 := [(2, .int v2), (0, .ref a0), (1, .int a1)]) (st2 := [.int v2]) hm dX13_isLedInWords_31 rfl ?_
          refine sx_bi (v := 31) hm dX13_isLedInWords_32 (by decide) ?_
          rcases mx_if_el hf with ⟨c6, hf⟩ | ⟨c6, hf⟩
          · refine sb_ic_ne hm dX13_isLedInWords_34 (tgt := 51) rfl (fun _ => ?_) (fun z => absurd c6 z)
            refine sx_ic (v := 0) hm dX13_isLedInWords_51 (by decide) ?_
            cases hf
            exact sx_ire hm dX13_isLedInWords_52 rfl (by decide)
          · refine sb_ic_ne hm dX13_isLedInWords_34 (tgt := 51) rfl (fun z => absurd z c6) (fun _ => ?_)
            refine mx_S.pu (pc2 := 38) (lv2 := [(2, .int v2), (0, .ref a0), (1, .int a1)]) (st2 := [.ref a0]) hm dX13_isLedInWords_37 rfl ?_
            replace hf := mx_sv_el hf; obtain ⟨v3, e_v3, hf⟩ := hf
            refine sx_get hm dX13_isLedInWords_38 rs_RX13_55 (xgr_el e_v3) ?_
            clear e_v3
            refine mx_S.pu (pc2 := 42) (lv2 := [(2, .int v2), (0, .ref a0), (1, .int a1)]) (st2 := [.int a1, .ref v3]) hm dX13_isLedInWords_41 rfl ?_
            replace hf := mx_sv_el hf; obtain ⟨v4, e_v4, hf⟩ := hf
            refine sx_ald hm dX13_isLedInWords_42 e_v4 ?_
            clear e_v4
            refine sx_ic (v := (-1)) hm dX13_isLedInWords_43 (by decide) ?_
            rcases mx_if_el hf with ⟨c5, hf⟩ | ⟨c5, hf⟩
            · refine sb_ic_ne hm dX13_isLedInWords_44 (tgt := 51) rfl (fun _ => ?_) (fun z => absurd c5 z)
              refine sx_ic (v := 0) hm dX13_isLedInWords_51 (by decide) ?_
              cases hf
              exact sx_ire hm dX13_isLedInWords_52 rfl (by decide)
            · refine sb_ic_ne hm dX13_isLedInWords_44 (tgt := 51) rfl (fun z => absurd z c5) (fun _ => ?_)
              refine sx_ic (v := 1) hm dX13_isLedInWords_47 (by decide) ?_
              refine mx_S.pu (pc2 := 52) (lv2 := [(2, .int v2), (0, .ref a0), (1, .int a1)]) (st2 := [.int 1]) hm dX13_isLedInWords_48 rfl ?_
              cases hf
              exact sx_ire hm dX13_isLedInWords_52 rfl (by decide)
set_option maxHeartbeats 4000000 in
set_option maxRecDepth 20000 in
theorem f_X13_jump_ok (X : Nat × (Nat → Int32)) {F L : Nat} (hF : 1 ≤ F) (hL : 21 ≤ L) (nn : Nat) (a0 : Nat) (a1 : Int32) (a2 : Int32) (h : mx_H) {r : mx_H} (hf : f_X13_jump nn a0 a1 a2 h = some r) : mx_R X F L 461 [.ref a0, .int a1, .int a2] h (none, r, 0, 0) := by
  have hm : mx_mt 461 = some (yX13_jump, cX13_jump, 3, none) := mt_X13_jump
  show mx_S X F L 461 0 [(0, .ref a0), (1, .int a1), (2, .int a2)] [] h 0 0 (none, r, 0, 0)
  unfold f_X13_jump at hf
  refine mx_S.pu (pc2 := 1) (lv2 := [(0, .ref a0), (1, .int a1), (2, .int a2)]) (st2 := [.ref a0]) hm dX13_jump_0 rfl ?_
  replace hf := mx_sv_el hf; obtain ⟨v1, e_v1, hf⟩ := hf
  refine sx_get hm dX13_jump_1 rs_RX13_181 (xgr_el e_v1) ?_
  clear e_v1
  refine mx_S.pu (pc2 := 5) (lv2 := [(0, .ref a0), (1, .int a1), (2, .int a2)]) (st2 := [.ref a0, .ref v1]) hm dX13_jump_4 rfl ?_
  replace hf := mx_sv_el hf; obtain ⟨v2, e_v2, hf⟩ := hf
  refine sx_get hm dX13_jump_5 rs_RX13_643 (xgi_el e_v2) ?_
  clear e_v2
  refine mx_S.pu (pc2 := 9) (lv2 := [(0, .ref a0), (1, .int a1), (2, .int a2)]) (st2 := [.ref a0, .int v2, .ref v1]) hm dX13_jump_8 rfl ?_
  replace hf := mx_sv_el hf; obtain ⟨v3, e_v3, hf⟩ := hf
  refine sx_get hm dX13_jump_9 rs_RX13_627 (xgi_el e_v3) ?_
  clear e_v3
  replace hf := mx_sv_el hf; obtain ⟨h4, e_h4, hf⟩ := hf
  refine sx_ast hm dX13_jump_12 e_h4 ?_
  clear e_h4
  refine mx_S.pu (pc2 := 14) (lv2 := [(0, .ref a0), (1, .int a1), (2, .int a2)]) (st2 := [.ref a0]) hm dX13_jump_13 rfl ?_
  replace hf := mx_sv_el hf; obtain ⟨v5, e_v5, hf⟩ := hf
  refine sx_get hm dX13_jump_14 rs_RX13_184 (xgr_el e_v5) ?_
  clear e_v5
  refine mx_S.pu (pc2 := 18) (lv2 := [(0, .ref a0), (1, .int a1), (2, .int a2)]) (st2 := [.ref a0, .ref v5]) hm dX13_jump_17 rfl ?_
  replace hf := mx_sv_el hf; obtain ⟨v6, e_v6, hf⟩ := hf
  refine sx_get hm dX13_jump_18 rs_RX13_643 (xgi_el e_v6) ?_
  clear e_v6
  refine mx_S.pu (pc2 := 22) (lv2 := [(0, .ref a0), (1, .int a1), (2, .int a2)]) (st2 := [.int a2, .int v6, .ref v5]) hm dX13_jump_21 rfl ?_
  replace hf := mx_sv_el hf; obtain ⟨h7, e_h7, hf⟩ := hf
  refine sx_ast hm dX13_jump_22 e_h7 ?_
  clear e_h7
  refine mx_S.pu (pc2 := 24) (lv2 := [(0, .ref a0), (1, .int a1), (2, .int a2)]) (st2 := [.ref a0]) hm dX13_jump_23 rfl ?_
  refine mx_S.pu (pc2 := 25) (lv2 := [(0, .ref a0), (1, .int a1), (2, .int a2)]) (st2 := [.ref a0, .ref a0]) hm dX13_jump_24 rfl ?_
  replace hf := mx_sv_el hf; obtain ⟨v8, e_v8, hf⟩ := hf
  refine sx_get hm dX13_jump_25 rs_RX13_643 (xgi_el e_v8) ?_
  clear e_v8
  refine sx_ic (v := 1) hm dX13_jump_28 (by decide) ?_
  replace hf := xl_el hf; obtain ⟨v9, e_v9, hf⟩ := hf
  refine mx_S.pu (pc2 := 30) (lv2 := [(0, .ref a0), (1, .int a1), (2, .int a2)]) (st2 := [.int v9, .ref a0]) hm dX13_jump_29 (by rw [← e_v9]; rfl) ?_
  clear e_v9
  replace hf := mx_sv_el hf; obtain ⟨h10, e_h10, hf⟩ := hf
  refine sx_put hm dX13_jump_30 rs_RX13_643 ft_13_87 ⟨rfl, rfl⟩ (fun z => by cases z) e_h10 ?_
  clear e_h10
  refine mx_S.pu (pc2 := 34) (lv2 := [(0, .ref a0), (1, .int a1), (2, .int a2)]) (st2 := [.ref a0]) hm dX13_jump_33 rfl ?_
  refine mx_S.pu (pc2 := 35) (lv2 := [(0, .ref a0), (1, .int a1), (2, .int a2)]) (st2 := [.int a1, .ref a0]) hm dX13_jump_34 rfl ?_
  replace hf := mx_gd_el hf; obtain ⟨c11, hf⟩ := hf
  replace hf := mx_sv_el hf; obtain ⟨u12, e_u12, hf⟩ := hf
  refine sx_cv hm dX13_jump_35 rs_RX13_646 mt_X13_put [.int a1] [] (b := a0) (ci := 13) rfl rfl rfl c11 (Nat.le_of_ble_eq_true rfl) (Nat.le_of_ble_eq_true rfl) (by omega) (by omega) (f_X13_put_ok X (by omega) (by omega) nn a0 a1 h10 e_u12) ?_
  clear e_u12
  show mx_S X F L 461 38 [(0, .ref a0), (1, .int a1), (2, .int a2)] [] u12 0 0 (none, r, 0, 0)
  refine mx_S.pu (pc2 := 39) (lv2 := [(0, .ref a0), (1, .int a1), (2, .int a2)]) (st2 := [.ref a0]) hm dX13_jump_38 rfl ?_
  refine sx_ic (v := 0) hm dX13_jump_39 (by decide) ?_
  replace hf := mx_gd_el hf; obtain ⟨c13, hf⟩ := hf
  replace hf := mx_sv_el hf; obtain ⟨u14, e_u14, hf⟩ := hf
  refine sx_cv hm dX13_jump_40 rs_RX13_646 mt_X13_put [.int 0] [] (b := a0) (ci := 13) rfl rfl rfl c13 (Nat.le_of_ble_eq_true rfl) (Nat.le_of_ble_eq_true rfl) (by omega) (by omega) (f_X13_put_ok X (by omega) (by omega) nn a0 0 u12 e_u14) ?_
  clear e_u14
  show mx_S X F L 461 43 [(0, .ref a0), (1, .int a1), (2, .int a2)] [] u14 0 0 (none, r, 0, 0)
  refine mx_S.pu (pc2 := 44) (lv2 := [(0, .ref a0), (1, .int a1), (2, .int a2)]) (st2 := [.ref a0]) hm dX13_jump_43 rfl ?_
  refine sx_ic (v := 0) hm dX13_jump_44 (by decide) ?_
  replace hf := mx_gd_el hf; obtain ⟨c15, hf⟩ := hf
  replace hf := mx_sv_el hf; obtain ⟨u16, e_u16, hf⟩ := hf
  refine sx_cv hm dX13_jump_45 rs_RX13_646 mt_X13_put [.int 0] [] (b := a0) (ci := 13) rfl rfl rfl c15 (Nat.le_of_ble_eq_true rfl) (Nat.le_of_ble_eq_true rfl) (by omega) (by omega) (f_X13_put_ok X (by omega) (by omega) nn a0 0 u14 e_u16) ?_
  clear e_u16
  show mx_S X F L 461 48 [(0, .ref a0), (1, .int a1), (2, .int a2)] [] u16 0 0 (none, r, 0, 0)
  cases hf
  exact sx_ret hm dX13_jump_48 rfl
