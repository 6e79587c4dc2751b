set_option maxRecDepth 4000 in
theorem vj_X11_applySimple_103 {nn : Nat} (hn : 1000000 ≤ nn) {l1 : Int} {l2 : Int} {h : ms_M} (a_l1 : 21 ≤ l1) (b_l1 : l1 ≤ 58) (a_l2 : 0 ≤ l2) (b_l2 : l2 ≤ 255) (V_h : VS_ h)  : Ok_ (qj_X11_applySimple_103 nn l1 l2 h) QV_ := by
  unfold qj_X11_applySimple_103
  refine ok_cV (vf_X11_applyLocal hn (by omega) (by omega) (by omega) (by omega) V_h) ?_; intro u2 E_u2 V_u2
  exact ok_rV V_u2
set_option maxRecDepth 4000 in
theorem vj_X11_applySimple_38 {nn : Nat} (hn : 1000000 ≤ nn) {h : ms_M} (V_h : VS_ h)  : Ok_ (qj_X11_applySimple_38 nn h) QV_ := by
  unfold qj_X11_applySimple_38
  refine ok_cV (vf_X11_push hn (by omega) (by omega) V_h) ?_; intro u4 E_u4 V_u4
  exact ok_rV V_u4
set_option maxRecDepth 4000 in
theorem vj_X11_applySimple_26 {nn : Nat} (hn : 1000000 ≤ nn) {l1 : Int} {l2 : Int} {h : ms_M} (a_l1 : 0 ≤ l1) (b_l1 : l1 ≤ 255) (a_l2 : 0 ≤ l2) (b_l2 : l2 ≤ 255) (V_h : VS_ h)  : Ok_ (qj_X11_applySimple_26 nn l1 l2 h) QV_ := by
  unfold qj_X11_applySimple_26
  refine ok_if ?_ ?_
  · intro C0
    exact vj_X11_applySimple_38 hn V_h
  · intro C0
    refine ok_if ?_ ?_
    · intro C1
      refine ok_cP (vf_X11_isArithmetic hn (by omega) (by omega) V_h) ?_; intro u5 e_u5 a_u5 b_u5
      refine ok_if ?_ ?_
      · intro C2
        refine ok_if ?_ ?_
        · intro C3
          exact vj_X11_applySimple_103 hn (by omega) (by omega) (by omega) (by omega) V_h
        · intro C3
          refine ok_if ?_ ?_
          · intro C4
            exact vj_X11_applySimple_103 hn (by omega) (by omega) (by omega) (by omega) V_h
          · intro C4
            refine ok_if ?_ ?_
            · intro C5
              exact vj_X11_applySimple_103 hn (by omega) (by omega) (by omega) (by omega) V_h
            · intro C5
              refine ok_if ?_ ?_
              · intro C6
                refine ok_cP (vf_X11_isJump hn (by omega) (by omega) V_h) ?_; intro u6 e_u6 a_u6 b_u6
                refine ok_if ?_ ?_
                · intro C7
                  refine ok_if ?_ ?_
                  · intro C8
                    refine ok_if ?_ ?_
                    · intro C9
                      refine ok_if ?_ ?_
                      · intro C10
                        refine ok_cV (vf_X11_applyObject hn (by omega) (by omega) (by omega) (by omega) V_h) ?_; intro u8 E_u8 V_u8
                        exact ok_rV V_u8
                      · intro C10
                        refine ok_cV (vf_X11_applyMember hn (by omega) (by omega) (by omega) (by omega) V_h) ?_; intro u10 E_u10 V_u10
                        exact ok_rV V_u10
                    · intro C9
                      refine ok_cV (vf_X11_applyReturn hn (by omega) (by omega) V_h) ?_; intro u13 E_u13 V_u13
                      exact ok_rV V_u13
                  · intro C8
                    refine ok_cV (vf_X11_applyArray hn (by omega) (by omega) V_h) ?_; intro u16 E_u16 V_u16
                    exact ok_rV V_u16
                · intro C7
                  refine ok_cV (vf_X11_applyJump hn (by omega) (by omega) V_h) ?_; intro u19 E_u19 V_u19
                  exact ok_rV V_u19
              · intro C6
                exact vj_X11_applySimple_103 hn (by omega) (by omega) (by omega) (by omega) V_h
      · intro C2
        refine ok_cV (vf_X11_want hn (by omega) (by omega) V_h) ?_; intro u26 E_u26 V_u26
        refine ok_cV (vf_X11_want hn (by omega) (by omega) V_u26) ?_; intro u28 E_u28 V_u28
        refine ok_cV (vf_X11_push hn (by omega) (by omega) V_u28) ?_; intro u30 E_u30 V_u30
        exact ok_rV V_u30
    · intro C1
      exact vj_X11_applySimple_38 hn V_h
set_option maxRecDepth 4000 in
theorem vf_X11_applySimple {nn : Nat} (hn : 1000000 ≤ nn) {a1 : Int} {a2 : Int} {h : ms_M} (a_a1 : 0 ≤ a1) (b_a1 : a1 ≤ 255) (a_a2 : 0 ≤ a2) (b_a2 : a2 ≤ 255) (V_h : VS_ h)  : Ok_ (qf_X11_applySimple nn a1 a2 h) QV_ := by
  unfold qf_X11_applySimple
  refine ok_if ?_ ?_
  · intro C0
    refine ok_if ?_ ?_
    · intro C1
      exact vj_X11_applySimple_26 hn (by omega) (by omega) (by omega) (by omega) V_h
    · intro C1
      refine ok_if ?_ ?_
      · intro C2
        exact vj_X11_applySimple_38 hn V_h
      · intro C2
        exact vj_X11_applySimple_26 hn (by omega) (by omega) (by omega) (by omega) V_h
  · intro C0
    refine ok_cV (vf_X11_push hn (by omega) (by omega) V_h) ?_; intro u37 E_u37 V_u37
    exact ok_rV V_u37
set_option maxRecDepth 4000 in
theorem vf_X11_fits {nn : Nat} (hn : 1000000 ≤ nn) {a1 : Int} {a2 : Int} {h : ms_M} (a_a1 : (-2147483648) ≤ a1) (b_a1 : a1 ≤ 2147483647) (a_a2 : (-1) ≤ a2) (b_a2 : a2 ≤ 65535) (V_h : VS_ h)  : Ok_ (qf_X11_fits nn a1 a2 h) (QP_ 0 1) := by
  unfold qf_X11_fits
  refine ok_if ?_ ?_
  · intro C0
    exact ok_rP (by omega) (by omega)
  · intro C0
    refine ok_cP (vf_X4_fits hn rfl (by omega) (by omega) (by omega) (by omega) V_h) ?_; intro u3 e_u3 a_u3 b_u3
    refine ok_if ?_ ?_
    · intro C1
      exact ok_rP (by omega) (by omega)
    · intro C1
      exact ok_rP (by omega) (by omega)
set_option maxRecDepth 4000 in
theorem vj_X11_isMemberRight_131 {nn : Nat} (hn : 1000000 ≤ nn) {s0 : Int} {s1 : Int} {h : ms_M} (a_s0 : 0 ≤ s0) (b_s0 : s0 ≤ 1) (a_s1 : 0 ≤ s1) (b_s1 : s1 ≤ 1) (V_h : VS_ h)  : Ok_ (qj_X11_isMemberRight_131 nn s0 s1 h) (QP_ 0 1) := by
  unfold qj_X11_isMemberRight_131
  refine ok_if ?_ ?_
  · intro C0
    exact ok_rP (by omega) (by omega)
  · intro C0
    exact ok_rP (by omega) (by omega)
set_option maxRecDepth 4000 in
theorem vj_X11_isMemberRight_115 {nn : Nat} (hn : 1000000 ≤ nn) {l1 : Int} {s0 : Int} {h : ms_M} (a_l1 : 180 ≤ l1) (b_l1 : l1 ≤ 184) (a_s0 : 0 ≤ s0) (b_s0 : s0 ≤ 1) (V_h : VS_ h)  : Ok_ (qj_X11_isMemberRight_115 nn l1 s0 h) (QP_ 0 1) := by
  unfold qj_X11_isMemberRight_115
  refine ok_if ?_ ?_
  · intro C0
    exact vj_X11_isMemberRight_131 hn (by omega) (by omega) (by omega) (by omega) V_h
  · intro C0
    exact vj_X11_isMemberRight_131 hn (by omega) (by omega) (by omega) (by omega) V_h
set_option maxRecDepth 4000 in
theorem vj_X11_isMemberRight_114 {nn : Nat} (hn : 1000000 ≤ nn) {l1 : Int} {h : ms_M} (a_l1 : 180 ≤ l1) (b_l1 : l1 ≤ 184) (V_h : VS_ h)  : Ok_ (qj_X11_isMemberRight_114 nn l1 h) (QP_ 0 1) := by
  unfold qj_X11_isMemberRight_114
  exact vj_X11_isMemberRight_115 hn (by omega) (by omega) (by omega) (by omega) V_h
set_option maxRecDepth 4000 in
theorem vj_X11_isMemberRight_87 {nn : Nat} (hn : 1000000 ≤ nn) {l1 : Int} {l3 : Int} {l4 : Int} {l5 : Int} {s0 : Int} {s1 : Int} {h : ms_M} (a_l1 : 180 ≤ l1) (b_l1 : l1 ≤ 184) (a_l3 : 0 ≤ l3) (b_l3 : l3 ≤ 1) (a_l4 : 0 ≤ l4) (b_l4 : l4 ≤ 95) (n_l5 : 0 ≤ l5) (k_l5 : kc_O (l5).toNat = 3) (a_s0 : 0 ≤ s0) (b_s0 : s0 ≤ 1) (a_s1 : 0 ≤ s1) (b_s1 : s1 ≤ 1) (V_h : VS_ h)  : Ok_ (qj_X11_isMemberRight_87 nn l1 l3 l4 l5 s0 s1 h) (QP_ 0 1) := by
  unfold qj_X11_isMemberRight_87
  refine ok_if ?_ ?_
  · intro C0
    refine ok_if ?_ ?_
    · intro C1
      exact vj_X11_isMemberRight_114 hn (by omega) (by omega) V_h
    · intro C1
      refine ok_rem (n := 12) (by omega) ?_; intro v3 e_v3
      refine ok_ck n_l5 ?_
      have hb1 : kc_O (l5).toNat = 3 := k_l5
      refine ok_ck hb1 ?_
      refine ok_cP (vf_X3_of hn hb1 (by omega) (by omega) (by omega) (by omega) V_h) ?_; intro u6 e_u6 a_u6 b_u6
      refine ok_if ?_ ?_
      · intro C2
        exact vj_X11_isMemberRight_114 hn (by omega) (by omega) V_h
      · intro C2
        exact vj_X11_isMemberRight_115 hn (by omega) (by omega) (by omega) (by omega) V_h
  · intro C0
    exact ok_rP (by omega) (by omega)
set_option maxRecDepth 4000 in
theorem vj_X11_isMemberRight_56 {nn : Nat} (hn : 1000000 ≤ nn) {l1 : Int} {l3 : Int} {s0 : Int} {h : ms_M} (a_l1 : 180 ≤ l1) (b_l1 : l1 ≤ 184) (a_l3 : 0 ≤ l3) (b_l3 : l3 ≤ 1) (a_s0 : (-1) ≤ s0) (b_s0 : s0 ≤ 95) (V_h : VS_ h)  : Ok_ (qj_X11_isMemberRight_56 nn l1 l3 s0 h) (QP_ 0 1) := by
  unfold qj_X11_isMemberRight_56
  refine ok_cO (vf_X7_imageOfMember hn (by omega) (by omega) V_h) ?_; intro u12 e_u12 o_u12
  have T1 := po_X7_imageOfMember V_h e_u12
  refine ok_if ?_ ?_
  · intro C1
    exact ok_rP (by omega) (by omega)
  · intro C1
    refine ok_if ?_ ?_
    · intro C2
      exact vj_X11_isMemberRight_87 hn (by omega) (by omega) (by omega) (by omega) (by omega) (by omega) (by omega) (o_u12.resolve_left C1) (by omega) (by omega) (by omega) (by omega) V_h
    · intro C2
      exact vj_X11_isMemberRight_87 hn (by omega) (by omega) (by omega) (by omega) (by omega) (by omega) (by omega) (o_u12.resolve_left C1) (by omega) (by omega) (by omega) (by omega) V_h
set_option maxRecDepth 4000 in
theorem vj_X11_isMemberRight_33 {nn : Nat} (hn : 1000000 ≤ nn) {l1 : Int} {l2 : Int} {s0 : Int} {h : ms_M} (a_l1 : 180 ≤ l1) (b_l1 : l1 ≤ 184) (a_l2 : 0 ≤ l2) (b_l2 : l2 ≤ 255) (a_s0 : 0 ≤ s0) (b_s0 : s0 ≤ 1) (V_h : VS_ h)  : Ok_ (qj_X11_isMemberRight_33 nn l1 l2 s0 h) (QP_ 0 1) := by
  unfold qj_X11_isMemberRight_33
  refine ok_ck (vi_r V_h).2.1.1 ?_
  have hb1 : kc_O (h 127 5).toNat = 3 := (vi_r V_h).2.1.2
  refine ok_ck hb1 ?_
  refine ok_cP (vf_X3_tagOf hn hb1 (by omega) (by omega) V_h) ?_; intro u18 e_u18 a_u18 b_u18
  refine ok_if ?_ ?_
  · intro C0
    exact vj_X11_isMemberRight_56 hn (by omega) (by omega) (by omega) (by omega) (by omega) (by omega) V_h
  · intro C0
    refine ok_rd (by omega) (gA_129 V_h) ?_; intro v20 e_v20 a_v20 b_v20
    exact vj_X11_isMemberRight_56 hn (by omega) (by omega) (by omega) (by omega) (by omega) (by omega) V_h
set_option maxRecDepth 4000 in
theorem vf_X11_isMemberRight {nn : Nat} (hn : 1000000 ≤ nn) {a1 : Int} {a2 : Int} {h : ms_M} (a_a1 : 180 ≤ a1) (b_a1 : a1 ≤ 184) (a_a2 : 0 ≤ a2) (b_a2 : a2 ≤ 255) (V_h : VS_ h)  : Ok_ (qf_X11_isMemberRight nn a1 a2 h) (QP_ 0 1) := by
  unfold qf_X11_isMemberRight
  refine ok_ck (vi_r V_h).2.1.1 ?_
  refine ok_ck (vi_r V_h).2.1.1 ?_
  refine ok_ck (vi_r V_h).2.1.1 ?_
  have hb1 : kc_O (h 127 5).toNat = 3 := (vi_r V_h).2.1.2
  refine ok_ck hb1 ?_
  refine ok_cP (vf_X3_partOf hn hb1 (by omega) (by omega) (by omega) (by omega) V_h) ?_; intro u26 e_u26 a_u26 b_u26
  refine ok_cP (vf_X3_textAt hn hb1 (by omega) (by omega) V_h) ?_; intro u28 e_u28 a_u28 b_u28
  refine ok_cP (vf_X3_byteAt hn hb1 (by omega) (by omega) V_h) ?_; intro u30 e_u30 a_u30 b_u30
  refine ok_if ?_ ?_
  · intro C0
    exact vj_X11_isMemberRight_33 hn (by omega) (by omega) (by omega) (by omega) (by omega) (by omega) V_h
  · intro C0
    exact vj_X11_isMemberRight_33 hn (by omega) (by omega) (by omega) (by omega) (by omega) (by omega) V_h
set_option maxRecDepth 4000 in
theorem vj_X11_isConstantRight_152 {nn : Nat} (hn : 1000000 ≤ nn) {l1 : Int} {l2 : Int} {h : ms_M} (a_l1 : 180 ≤ l1) (b_l1 : l1 ≤ 184) (a_l2 : 0 ≤ l2) (b_l2 : l2 ≤ 255) (V_h : VS_ h)  : Ok_ (qj_X11_isConstantRight_152 nn l1 l2 h) (QP_ 0 1) := by
  unfold qj_X11_isConstantRight_152
  refine ok_cP (vf_X11_isMemberRight hn (by omega) (by omega) (by omega) (by omega) V_h) ?_; intro u2 e_u2 a_u2 b_u2
  refine ok_ck (by omega) ?_
  exact ok_rP (by omega) (by omega)
set_option maxRecDepth 4000 in
theorem vj_X11_isConstantRight_110 {nn : Nat} (hn : 1000000 ≤ nn) {l2 : Int} {h : ms_M} (a_l2 : 0 ≤ l2) (b_l2 : l2 ≤ 255) (V_h : VS_ h)  : Ok_ (qj_X11_isConstantRight_110 nn l2 h) (QP_ 0 1) := by
  unfold qj_X11_isConstantRight_110
  refine ok_ck (vi_r V_h).2.1.1 ?_
  have hb1 : kc_O (h 127 5).toNat = 3 := (vi_r V_h).2.1.2
  refine ok_ck hb1 ?_
  refine ok_cP (vf_X3_tagOf hn hb1 (by omega) (by omega) V_h) ?_; intro u6 e_u6 a_u6 b_u6
  refine ok_if ?_ ?_
  · intro C0
    exact ok_rP (by omega) (by omega)
  · intro C0
    refine ok_rd (by omega) (gA_128 V_h) ?_; intro v8 e_v8 a_v8 b_v8
    refine ok_cP (vf_X4_isClass hn (by omega) (by omega) V_h) ?_; intro u9 e_u9 a_u9 b_u9
    have T2 := pr_X4_isClass e_u9
    refine ok_if ?_ ?_
    · intro C2
      exact ok_rP (by omega) (by omega)
    · intro C2
      exact ok_rP (by omega) (by omega)
set_option maxRecDepth 4000 in
theorem vf_X11_isConstantRight {nn : Nat} (hn : 1000000 ≤ nn) {a1 : Int} {a2 : Int} {h : ms_M} (a_a1 : 0 ≤ a1) (b_a1 : a1 ≤ 255) (a_a2 : 0 ≤ a2) (b_a2 : a2 ≤ 255) (V_h : VS_ h)  : Ok_ (qf_X11_isConstantRight nn a1 a2 h) (QP_ 0 1) := by
  unfold qf_X11_isConstantRight
  refine ok_if ?_ ?_
  · intro C0
    refine ok_ck (vi_r V_h).2.1.1 ?_
    have hb1 : kc_O (h 127 5).toNat = 3 := (vi_r V_h).2.1.2
    refine ok_ck hb1 ?_
    refine ok_cP (vf_X3_tagOf hn hb1 (by omega) (by omega) V_h) ?_; intro u14 e_u14 a_u14 b_u14
    refine ok_if ?_ ?_
    · intro C1
      exact ok_rP (by omega) (by omega)
    · intro C1
      exact ok_rP (by omega) (by omega)
  · intro C0
    refine ok_if ?_ ?_
    · intro C2
      exact vj_X11_isConstantRight_152 hn (by omega) (by omega) (by omega) (by omega) V_h
    · intro C2
      refine ok_if ?_ ?_
      · intro C3
        exact vj_X11_isConstantRight_152 hn (by omega) (by omega) (by omega) (by omega) V_h
      · intro C3
        refine ok_if ?_ ?_
        · intro C4
          exact vj_X11_isConstantRight_152 hn (by omega) (by omega) (by omega) (by omega) V_h
        · intro C4
          refine ok_if ?_ ?_
          · intro C5
            exact vj_X11_isConstantRight_152 hn (by omega) (by omega) (by omega) (by omega) V_h
          · intro C5
            refine ok_if ?_ ?_
            · intro C6
              exact vj_X11_isConstantRight_110 hn (by omega) (by omega) V_h
            · intro C6
              refine ok_if ?_ ?_
              · intro C7
                refine ok_if ?_ ?_
                · intro C8
                  exact ok_rP (by omega) (by omega)
                · intro C8
                  exact ok_rP (by omega) (by omega)
              · intro C7
                refine ok_if ?_ ?_
                · intro C9
                  exact vj_X11_isConstantRight_110 hn (by omega) (by omega) V_h
                · intro C9
                  refine ok_if ?_ ?_
                  · intro C10
                    exact vj_X11_isConstantRight_110 hn (by omega) (by omega) V_h
                  · intro C10
                    refine ok_if ?_ ?_
                    · intro C11
                      exact vj_X11_isConstantRight_110 hn (by omega) (by omega) V_h
                    · intro C11
                      exact ok_rP (by omega) (by omega)
set_option maxRecDepth 4000 in
theorem vw_X7_fieldOf_31 {nn : Nat} (hn : 1000000 ≤ nn) {qkk_6 : Nat → Int → Int → Int → ms_M → Option Int} {K_kk_6 : Int} (hk_kk_6 : ∀ {l2 : Nat} {l3 : Int} {l4 : Int} {l5 : Int} {h : ms_M} (i_l2 : kc_O l2 = 3) (a_l3 : 0 ≤ l3) (b_l3 : l3 ≤ 255) (a_l4 : (-1) ≤ l4) (b_l4 : l4 ≤ 341) (a_l5 : 0 ≤ l5) (b_l5 : l5 ≤ 16) (V_h : VS_ h) (_ : 17 - l5 < K_kk_6), Ok_ (qkk_6 l2 l3 l4 l5 h) (QP_ (-1) 95)) : ∀ (k : Nat) {l2 : Nat} {l3 : Int} {l4 : Int} {l5 : Int} {l6 : Int} {l7 : Int} {h : ms_M} (i_l2 : kc_O l2 = 3) (a_l3 : 0 ≤ l3) (b_l3 : l3 ≤ 255) (a_l4 : 8 ≤ l4) (b_l4 : l4 ≤ 15) (a_l5 : 0 ≤ l5) (b_l5 : l5 ≤ 15) (n_l6 : 0 ≤ l6) (k_l6 : kc_O (l6).toNat = 3) (a_l7 : 0 ≤ l7) (b_l7 : l7 ≤ 12) (V_h : VS_ h) (hm_kk_6 : 17 - l5 + 0 ≤ K_kk_6) (hm : 13 - l7 < (k : Int)), Ok_ (qw_X7_fieldOf_31 nn qkk_6 k l2 l3 l4 l5 l6 l7 h) (QP_ (-1) 95) := by
  intro k
  induction k with
  | zero => intros; exfalso; omega
  | succ k ih =>
    intro l2 l3 l4 l5 l6 l7 h i_l2 a_l3 b_l3 a_l4 b_l4 a_l5 b_l5 n_l6 k_l6 a_l7 b_l7 V_h hm_kk_6 hm
    unfold qw_X7_fieldOf_31
    refine ok_ck n_l6 ?_
    have hb1 : kc_O (l6).toNat = 3 := k_l6
    refine ok_ck hb1 ?_
    have T1 := gI_10 V_h hb1
    refine ok_if ?_ ?_
    · intro C1
      refine ok_cP (vf_X4_above hn rfl (by omega) (by omega) V_h) ?_; intro u5 e_u5 a_u5 b_u5
      refine ok_add (by omega) ?_; intro v6 e_v6
      exact hk_kk_6 i_l2 (by omega) (by omega) (by omega) (by omega) (by omega) (by omega) V_h (by omega)
    · intro C1
      refine ok_cP (vf_X3_fieldName hn hb1 (by omega) (by omega) V_h) ?_; intro u8 e_u8 a_u8 b_u8
      refine ok_cP (vf_X3_sameText hn hb1 (by omega) (by omega) i_l2 (by omega) (by omega) V_h) ?_; intro u10 e_u10 a_u10 b_u10
      refine ok_if ?_ ?_
      · intro C2
        refine ok_add (by omega) ?_; intro v11 e_v11
        exact ih i_l2 (by omega) (by omega) (by omega) (by omega) (by omega) (by omega) (by omega) hb1 (by omega) (by omega) V_h (by omega) (by omega)
      · intro C2
        refine ok_cP (vf_X7_numberOf hn (by omega) (by omega) (by omega) (by omega) V_h) ?_; intro u13 e_u13 a_u13 b_u13
        exact ok_rP (by omega) (by omega)
set_option maxRecDepth 4000 in
theorem vw_X7_fieldOf_6 {nn : Nat} (hn : 1000000 ≤ nn) : ∀ (k : Nat) {l2 : Nat} {l3 : Int} {l4 : Int} {l5 : Int} {h : ms_M} (i_l2 : kc_O l2 = 3) (a_l3 : 0 ≤ l3) (b_l3 : l3 ≤ 255) (a_l4 : (-1) ≤ l4) (b_l4 : l4 ≤ 341) (a_l5 : 0 ≤ l5) (b_l5 : l5 ≤ 16) (V_h : VS_ h)  (hm : 17 - l5 < (k : Int)), Ok_ (qw_X7_fieldOf_6 nn k l2 l3 l4 l5 h) (QP_ (-1) 95) := by
  intro k
  induction k with
  | zero => intros; exfalso; omega
  | succ k ih =>
    intro l2 l3 l4 l5 h i_l2 a_l3 b_l3 a_l4 b_l4 a_l5 b_l5 V_h hm
    unfold qw_X7_fieldOf_6
    refine ok_if ?_ ?_
    · intro C0
      exact ok_rP (by omega) (by omega)
    · intro C0
      refine ok_cO (vf_X7_imageOf hn (by omega) (by omega) V_h) ?_; intro u17 e_u17 o_u17
      have T2 := po_X7_imageOf V_h e_u17
      refine ok_if ?_ ?_
      · intro C2
        exact ok_rP (by omega) (by omega)
      · intro C2
        exact vw_X7_fieldOf_31 hn ih _ i_l2 (by omega) (by omega) (by omega) (by omega) (by omega) (by omega) (by omega) (o_u17.resolve_left C2) (by omega) (by omega) V_h (by omega) (by omega)
set_option maxRecDepth 4000 in
theorem vf_X7_fieldOf {nn : Nat} (hn : 1000000 ≤ nn) {a1 : Int} {a2 : Nat} {a3 : Int} {h : ms_M} (a_a1 : (-1) ≤ a1) (b_a1 : a1 ≤ 303) (i_a2 : kc_O a2 = 3) (a_a3 : 0 ≤ a3) (b_a3 : a3 ≤ 255) (V_h : VS_ h)  : Ok_ (qf_X7_fieldOf nn a1 a2 a3 h) (QP_ (-1) 95) := by
  unfold qf_X7_fieldOf
  exact vw_X7_fieldOf_6 hn _ i_a2 (by omega) (by omega) (by omega) (by omega) (by omega) (by omega) V_h (by omega)
set_option maxRecDepth 4000 in
theorem vj_X11_takeMember_153 {nn : Nat} (hn : 1000000 ≤ nn) {l1 : Int} {l3 : Int} {l5 : Int} {s0 : Int} {s1 : Int} {h : ms_M} (a_l1 : 1 ≤ l1) (b_l1 : l1 ≤ 255) (a_l3 : 0 ≤ l3) (b_l3 : l3 ≤ 255) (a_l5 : 0 ≤ l5) (b_l5 : l5 ≤ 95) (a_s0 : (-1) ≤ s0) (b_s0 : s0 ≤ 65535) (n_s1 : 0 ≤ s1) (k_s1 : kc_O (s1).toNat = 3) (V_h : VS_ h)  : Ok_ (qj_X11_takeMember_153 nn l1 l3 l5 s0 s1 h) QV_ := by
  unfold qj_X11_takeMember_153
  refine ok_ck (vi_r V_h).2.1.1 ?_
  refine ok_ck n_s1 ?_
  have hb1 : kc_O (s1).toNat = 3 := k_s1
  refine ok_ck hb1 ?_
  refine ok_cP (vf_X3_sameText hn hb1 (by omega) (by omega) (vi_r V_h).2.1.2 (by omega) (by omega) V_h) ?_; intro u4 e_u4 a_u4 b_u4
  refine ok_if ?_ ?_
  · intro C0
    exact ok_rV V_h
  · intro C0
    refine ok_wA (by omega) ?_; intro h6 E_h6; have V_h6 : VS_ h6 := by rw [E_h6]; exact wA_129 V_h (by omega)
    refine ok_ck (vi_r V_h6).2.1.1 ?_
    refine ok_mul (by omega) ?_; intro v11 e_v11
    refine ok_cI (vf_X7_readKind hn (vi_r V_h6).2.1.2 (by omega) (by omega) (by omega) (by omega) V_h6) ?_; intro u13 E_u13 V_u13 a_u13 b_u13
    refine ok_wA (by omega) ?_; intro h14 E_h14; have V_h14 : VS_ h14 := by rw [E_h14]; exact wA_130 V_u13 (by omega)
    exact ok_rV V_h14
set_option maxRecDepth 4000 in
theorem vj_X11_takeMember_102 {nn : Nat} (hn : 1000000 ≤ nn) {l1 : Int} {l3 : Int} {l4 : Int} {s0 : Int} {h : ms_M} (a_l1 : 1 ≤ l1) (b_l1 : l1 ≤ 255) (a_l3 : 0 ≤ l3) (b_l3 : l3 ≤ 255) (a_l4 : 0 ≤ l4) (b_l4 : l4 ≤ 1) (a_s0 : (-1) ≤ s0) (b_s0 : s0 ≤ 95) (V_h : VS_ h)  : Ok_ (qj_X11_takeMember_102 nn l1 l3 l4 s0 h) QV_ := by
  unfold qj_X11_takeMember_102
  refine ok_cO (vf_X7_imageOfMember hn (by omega) (by omega) V_h) ?_; intro u18 e_u18 o_u18
  have T1 := po_X7_imageOfMember V_h e_u18
  refine ok_if ?_ ?_
  · intro C1
    exact ok_rV V_h
  · intro C1
    refine ok_rem (n := 12) (by omega) ?_; intro v21 e_v21
    refine ok_if ?_ ?_
    · intro C2
      have hb1 : kc_O (u18).toNat = 3 := (o_u18.resolve_left C1)
      refine ok_ck hb1 ?_
      refine ok_cP (vf_X3_fieldKind hn hb1 (by omega) (by omega) V_h) ?_; intro u23 e_u23 a_u23 b_u23
      exact vj_X11_takeMember_153 hn (by omega) (by omega) (by omega) (by omega) (by omega) (by omega) (by omega) (by omega) (by omega) hb1 V_h
    · intro C2
      have hb2 : kc_O (u18).toNat = 3 := (o_u18.resolve_left C1)
      refine ok_ck hb2 ?_
      refine ok_cP (vf_X3_of hn hb2 (by omega) (by omega) (by omega) (by omega) V_h) ?_; intro u25 e_u25 a_u25 b_u25
      exact vj_X11_takeMember_153 hn (by omega) (by omega) (by omega) (by omega) (by omega) (by omega) (by omega) (by omega) (by omega) hb2 V_h
set_option maxRecDepth 4000 in
theorem vj_X11_takeMember_50 {nn : Nat} (hn : 1000000 ≤ nn) {l1 : Int} {l2 : Int} {l3 : Int} {s0 : Int} {h : ms_M} (a_l1 : 1 ≤ l1) (b_l1 : l1 ≤ 255) (a_l2 : (-1) ≤ l2) (b_l2 : l2 ≤ 303) (a_l3 : 0 ≤ l3) (b_l3 : l3 ≤ 255) (a_s0 : 0 ≤ s0) (b_s0 : s0 ≤ 1) (V_h : VS_ h)  : Ok_ (qj_X11_takeMember_50 nn l1 l2 l3 s0 h) QV_ := by
  unfold qj_X11_takeMember_50
  refine ok_if ?_ ?_
  · intro C0
    refine ok_ck (vi_r V_h).2.1.1 ?_
    refine ok_ck (vi_r V_h).2.1.1 ?_
    have hb1 : kc_O (h 127 5).toNat = 3 := (vi_r V_h).2.1.2
    refine ok_ck hb1 ?_
    refine ok_cP (vf_X3_partOf hn hb1 (by omega) (by omega) (by omega) (by omega) V_h) ?_; intro u31 e_u31 a_u31 b_u31
    refine ok_cP (vf_X7_fieldOf hn (by omega) (by omega) hb1 (by omega) (by omega) V_h) ?_; intro u33 e_u33 a_u33 b_u33
    exact vj_X11_takeMember_102 hn (by omega) (by omega) (by omega) (by omega) (by omega) (by omega) (by omega) (by omega) V_h
  · intro C0
    refine ok_ck (vi_r V_h).2.1.1 ?_
    refine ok_ck (vi_r V_h).2.1.1 ?_
    have hb2 : kc_O (h 127 5).toNat = 3 := (vi_r V_h).2.1.2
    refine ok_ck hb2 ?_
    refine ok_cP (vf_X3_partOf hn hb2 (by omega) (by omega) (by omega) (by omega) V_h) ?_; intro u38 e_u38 a_u38 b_u38
    refine ok_cP (vf_X7_methodOf hn (by omega) (by omega) hb2 (by omega) (by omega) V_h) ?_; intro u40 e_u40 a_u40 b_u40
    exact vj_X11_takeMember_102 hn (by omega) (by omega) (by omega) (by omega) (by omega) (by omega) (by omega) (by omega) V_h
set_option maxRecDepth 4000 in
theorem vf_X11_takeMember {nn : Nat} (hn : 1000000 ≤ nn) {a1 : Int} {h : ms_M} (a_a1 : 1 ≤ a1) (b_a1 : a1 ≤ 255) (V_h : VS_ h)  : Ok_ (qf_X11_takeMember nn a1 h) QV_ := by
  unfold qf_X11_takeMember
  refine ok_ck (vi_r V_h).2.1.1 ?_
  have hb1 : kc_O (h 127 5).toNat = 3 := (vi_r V_h).2.1.2
  refine ok_ck hb1 ?_
  refine ok_cP (vf_X3_partOf hn hb1 (by omega) (by omega) (by omega) (by omega) V_h) ?_; intro u45 e_u45 a_u45 b_u45
  refine ok_rd (by omega) (gA_128 V_h) ?_; intro v46 e_v46 a_v46 b_v46
  refine ok_ck (vi_r V_h).2.1.1 ?_
  refine ok_cP (vf_X3_partOf hn hb1 (by omega) (by omega) (by omega) (by omega) V_h) ?_; intro u49 e_u49 a_u49 b_u49
  refine ok_ck (vi_r V_h).2.1.1 ?_
  refine ok_ck (vi_r V_h).2.1.1 ?_
  refine ok_cP (vf_X3_textAt hn hb1 (by omega) (by omega) V_h) ?_; intro u53 e_u53 a_u53 b_u53
  refine ok_cP (vf_X3_byteAt hn hb1 (by omega) (by omega) V_h) ?_; intro u55 e_u55 a_u55 b_u55
  refine ok_if ?_ ?_
  · intro C0
    exact vj_X11_takeMember_50 hn (by omega) (by omega) (by omega) (by omega) (by omega) (by omega) (by omega) (by omega) V_h
  · intro C0
    exact vj_X11_takeMember_50 hn (by omega) (by omega) (by omega) (by omega) (by omega) (by omega) (by omega) (by omega) V_h
set_option maxRecDepth 4000 in
theorem vf_X7_typeOfClass {nn : Nat} (hn : 1000000 ≤ nn) {a1 : Nat} {a2 : Int} {h : ms_M} (i_a1 : kc_O a1 = 3) (a_a2 : 0 ≤ a2) (b_a2 : a2 ≤ 255) (V_h : VS_ h)  : Ok_ (qf_X7_typeOfClass nn a1 a2 h) (QP_ (-1) 303) := by
  unfold qf_X7_typeOfClass
  have hb1 : kc_O a1 = 3 := i_a1
  refine ok_ck hb1 ?_
  refine ok_cP (vf_X3_partOf hn hb1 (by omega) (by omega) (by omega) (by omega) V_h) ?_; intro u2 e_u2 a_u2 b_u2
  refine ok_cP (vf_X3_textAt hn hb1 (by omega) (by omega) V_h) ?_; intro u4 e_u4 a_u4 b_u4
  refine ok_cP (vf_X3_textEnd hn hb1 (by omega) (by omega) V_h) ?_; intro u6 e_u6 a_u6 b_u6
  refine ok_cP (vf_X3_byteAt hn hb1 (by omega) (by omega) V_h) ?_; intro u8 e_u8 a_u8 b_u8
  refine ok_if ?_ ?_
  · intro C0
    refine ok_cP (vf_X7_classOf hn hb1 (by omega) (by omega) (by omega) (by omega) V_h) ?_; intro u10 e_u10 a_u10 b_u10
    exact ok_rP (by omega) (by omega)
  · intro C0
    refine ok_cP (vf_X7_typeOfKind hn hb1 (by omega) (by omega) (by omega) (by omega) V_h) ?_; intro u12 e_u12 a_u12 b_u12
    exact ok_rP (by omega) (by omega)
set_option maxRecDepth 4000 in
theorem vw_X11_takeConstants_55 {nn : Nat} (hn : 1000000 ≤ nn) : ∀ (k : Nat) {l1 : Int} {h : ms_M} (a_l1 : 1 ≤ l1) (b_l1 : l1 ≤ 256) (V_h : VS_ h)  (hm : 257 - l1 < (k : Int)), Ok_ (qw_X11_takeConstants_55 nn k l1 h) QV_ := by
  intro k
  induction k with
  | zero => intros; exfalso; omega
  | succ k ih =>
    intro l1 h a_l1 b_l1 V_h hm
    unfold qw_X11_takeConstants_55
    refine ok_ck (vi_r V_h).2.1.1 ?_
    have hb1 : kc_O (h 127 5).toNat = 3 := (vi_r V_h).2.1.2
    refine ok_ck hb1 ?_
    have T1 := gI_7 V_h hb1
    refine ok_if ?_ ?_
    · intro C1
      exact ok_rV V_h
    · intro C1
      refine ok_wA (by omega) ?_; intro h4 E_h4; have V_h4 : VS_ h4 := by rw [E_h4]; exact wA_129 V_h (by omega)
      refine ok_ck (vi_r V_h4).2.1.1 ?_
      have hb2 : kc_O (h4 127 5).toNat = 3 := (vi_r V_h4).2.1.2
      refine ok_ck hb2 ?_
      refine ok_cP (vf_X3_tagOf hn hb2 (by omega) (by omega) V_h4) ?_; intro u7 e_u7 a_u7 b_u7
      refine ok_if ?_ ?_
      · intro C2
        refine ok_add (by omega) ?_; intro v8 e_v8
        exact ih (by omega) (by omega) V_h4 (by omega)
      · intro C2
        refine ok_cV (vf_X11_takeMember hn (by omega) (by omega) V_h4) ?_; intro u10 E_u10 V_u10
        refine ok_add (by omega) ?_; intro v11 e_v11
        exact ih (by omega) (by omega) V_u10 (by omega)
set_option maxRecDepth 4000 in
theorem vw_X11_takeConstants_2 {nn : Nat} (hn : 1000000 ≤ nn) : ∀ (k : Nat) {l1 : Int} {h : ms_M} (a_l1 : 1 ≤ l1) (b_l1 : l1 ≤ 256) (V_h : VS_ h)  (hm : 257 - l1 < (k : Int)), Ok_ (qw_X11_takeConstants_2 nn k l1 h) QV_ := by
  intro k
  induction k with
  | zero => intros; exfalso; omega
  | succ k ih =>
    intro l1 h a_l1 b_l1 V_h hm
    unfold qw_X11_takeConstants_2
    refine ok_ck (vi_r V_h).2.1.1 ?_
    have hb1 : kc_O (h 127 5).toNat = 3 := (vi_r V_h).2.1.2
    refine ok_ck hb1 ?_
    have T1 := gI_7 V_h hb1
    refine ok_if ?_ ?_
    · intro C1
      exact vw_X11_takeConstants_55 hn _ (by omega) (by omega) V_h (by omega)
    · intro C1
      refine ok_ck (vi_r V_h).2.1.1 ?_
      refine ok_cP (vf_X3_tagOf hn hb1 (by omega) (by omega) V_h) ?_; intro u19 e_u19 a_u19 b_u19
      refine ok_if ?_ ?_
      · intro C2
        refine ok_wA (by omega) ?_; intro h20 E_h20; have V_h20 : VS_ h20 := by rw [E_h20]; exact wA_128 V_h (by omega)
        refine ok_add (by omega) ?_; intro v21 e_v21
        exact ih (by omega) (by omega) V_h20 (by omega)
      · intro C2
        refine ok_ck (vi_r V_h).2.1.1 ?_
        refine ok_cP (vf_X7_typeOfClass hn hb1 (by omega) (by omega) V_h) ?_; intro u25 e_u25 a_u25 b_u25
        refine ok_wA (by omega) ?_; intro h26 E_h26; have V_h26 : VS_ h26 := by rw [E_h26]; exact wA_128 V_h (by omega)
        refine ok_add (by omega) ?_; intro v27 e_v27
        exact ih (by omega) (by omega) V_h26 (by omega)
set_option maxRecDepth 4000 in
theorem vf_X11_takeConstants {nn : Nat} (hn : 1000000 ≤ nn) {h : ms_M} (V_h : VS_ h)  : Ok_ (qf_X11_takeConstants nn h) QV_ := by
  unfold qf_X11_takeConstants
  exact vw_X11_takeConstants_2 hn _ (by omega) (by omega) V_h (by omega)
set_option maxRecDepth 4000 in
theorem vf_X11_typeOfTag {nn : Nat} (hn : 1000000 ≤ nn) {a1 : Int} {a2 : Int} {h : ms_M} (a_a1 : 0 ≤ a1) (b_a1 : a1 ≤ 255) (a_a2 : 0 ≤ a2) (b_a2 : a2 ≤ 255) (V_h : VS_ h)  : Ok_ (qf_X11_typeOfTag nn a1 a2 h) (QP_ (-1) 304) := by
  unfold qf_X11_typeOfTag
  refine ok_if ?_ ?_
  · intro C0
    exact ok_rP (by omega) (by omega)
  · intro C0
    refine ok_if ?_ ?_
    · intro C1
      exact ok_rP (by omega) (by omega)
    · intro C1
      refine ok_if ?_ ?_
      · intro C2
        exact ok_rP (by omega) (by omega)
      · intro C2
        refine ok_rd (by omega) (gA_128 V_h) ?_; intro v2 e_v2 a_v2 b_v2
        exact ok_rP (by omega) (by omega)
set_option maxRecDepth 4000 in
theorem vj_X11_takeTypes_80 {nn : Nat} (hn : 1000000 ≤ nn) {qkk_17 : Int → Int → Int → Int → ms_M → Option (Int × ms_M)} {K_kk_17 : Int} (hk_kk_17 : ∀ {l2 : Int} {l3 : Int} {l4 : Int} {l5 : Int} {h : ms_M} (a_l2 : 3 ≤ l2) (b_l2 : l2 ≤ 6369) (a_l3 : 0 ≤ l3) (b_l3 : l3 ≤ 255) (a_l4 : (-2147483648) ≤ l4) (b_l4 : l4 ≤ 2147483647) (a_l5 : 0 ≤ l5) (b_l5 : l5 ≤ 255) (V_h : VS_ h) (_ : 256 - l5 < K_kk_17), Ok_ (qkk_17 l2 l3 l4 l5 h) (QI_ (-2147483648) 2147483647)) {l2 : Int} {l3 : Int} {l5 : Int} {s0 : Int} {s1 : Int} {h : ms_M} (a_l2 : 3 ≤ l2) (b_l2 : l2 ≤ 6369) (a_l3 : 0 ≤ l3) (b_l3 : l3 ≤ 255) (a_l5 : 0 ≤ l5) (b_l5 : l5 ≤ 254) (a_s0 : 1 ≤ s0) (b_s0 : s0 ≤ 2) (a_s1 : (-2147483648) ≤ s1) (b_s1 : s1 ≤ 2147483647) (V_h : VS_ h) (hm_kk_17 : 256 - l5 + 0 ≤ K_kk_17) : Ok_ (qj_X11_takeTypes_80 nn qkk_17 l2 l3 l5 s0 s1 h) (QI_ (-2147483648) 2147483647) := by
  unfold qj_X11_takeTypes_80
  refine ok_addW (by omega) ?_; intro v1 a_v1 b_v1 w_v1
  refine ok_add (by omega) ?_; intro v2 e_v2
  exact hk_kk_17 (by omega) (by omega) (by omega) (by omega) (by omega) (by omega) (by omega) (by omega) V_h (by omega)
set_option maxRecDepth 4000 in
theorem vj_X11_takeTypes_67 {nn : Nat} (hn : 1000000 ≤ nn) {qkk_17 : Int → Int → Int → Int → ms_M → Option (Int × ms_M)} {K_kk_17 : Int} (hk_kk_17 : ∀ {l2 : Int} {l3 : Int} {l4 : Int} {l5 : Int} {h : ms_M} (a_l2 : 3 ≤ l2) (b_l2 : l2 ≤ 6369) (a_l3 : 0 ≤ l3) (b_l3 : l3 ≤ 255) (a_l4 : (-2147483648) ≤ l4) (b_l4 : l4 ≤ 2147483647) (a_l5 : 0 ≤ l5) (b_l5 : l5 ≤ 255) (V_h : VS_ h) (_ : 256 - l5 < K_kk_17), Ok_ (qkk_17 l2 l3 l4 l5 h) (QI_ (-2147483648) 2147483647)) {l2 : Int} {l3 : Int} {l4 : Int} {l5 : Int} {l6 : Int} {h : ms_M} (a_l2 : 3 ≤ l2) (b_l2 : l2 ≤ 6369) (a_l3 : 0 ≤ l3) (b_l3 : l3 ≤ 255) (a_l4 : (-2147483648) ≤ l4) (b_l4 : l4 ≤ 2147483647) (a_l5 : 0 ≤ l5) (b_l5 : l5 ≤ 254) (a_l6 : 0 ≤ l6) (b_l6 : l6 ≤ 255) (V_h : VS_ h) (hm_kk_17 : 256 - l5 + 0 ≤ K_kk_17) : Ok_ (qj_X11_takeTypes_67 nn qkk_17 l2 l3 l4 l5 l6 h) (QI_ (-2147483648) 2147483647) := by
  unfold qj_X11_takeTypes_67
  refine ok_if ?_ ?_
  · intro C0
    exact vj_X11_takeTypes_80 hn hk_kk_17 (by omega) (by omega) (by omega) (by omega) (by omega) (by omega) (by omega) (by omega) (by omega) (by omega) V_h (by omega)
  · intro C0
    exact vj_X11_takeTypes_80 hn hk_kk_17 (by omega) (by omega) (by omega) (by omega) (by omega) (by omega) (by omega) (by omega) (by omega) (by omega) V_h (by omega)
set_option maxRecDepth 4000 in
theorem vw_X11_takeTypes_17 {nn : Nat} (hn : 1000000 ≤ nn) : ∀ (k : Nat) {l2 : Int} {l3 : Int} {l4 : Int} {l5 : Int} {h : ms_M} (a_l2 : 3 ≤ l2) (b_l2 : l2 ≤ 6369) (a_l3 : 0 ≤ l3) (b_l3 : l3 ≤ 255) (a_l4 : (-2147483648) ≤ l4) (b_l4 : l4 ≤ 2147483647) (a_l5 : 0 ≤ l5) (b_l5 : l5 ≤ 255) (V_h : VS_ h)  (hm : 256 - l5 < (k : Int)), Ok_ (qw_X11_takeTypes_17 nn k l2 l3 l4 l5 h) (QI_ (-2147483648) 2147483647) := by
  intro k
  induction k with
  | zero => intros; exfalso; omega
  | succ k ih =>
    intro l2 l3 l4 l5 h a_l2 b_l2 a_l3 b_l3 a_l4 b_l4 a_l5 b_l5 V_h hm
    unfold qw_X11_takeTypes_17
    refine ok_if ?_ ?_
    · intro C0
      exact ok_rI V_h (by omega) (by omega)
    · intro C0
      refine ok_ck (vi_r V_h).2.1.1 ?_
      have hb1 : kc_O (h 127 5).toNat = 3 := (vi_r V_h).2.1.2
      refine ok_ck hb1 ?_
      refine ok_cP (vf_X3_byteAt hn hb1 (by omega) (by omega) V_h) ?_; intro u6 e_u6 a_u6 b_u6
      refine ok_if ?_ ?_
      · intro C1
        exact vj_X11_takeTypes_67 hn ih (by omega) (by omega) (by omega) (by omega) (by omega) (by omega) (by omega) (by omega) (by omega) (by omega) V_h (by omega)
      · intro C1
        refine ok_add (by omega) ?_; intro v8 e_v8
        refine ok_ck (vi_r V_h).2.1.1 ?_
        refine ok_addW (by omega) ?_; intro v10 a_v10 b_v10 w_v10
        refine ok_cP (vf_X3_byteAt hn hb1 (by omega) (by omega) V_h) ?_; intro u12 e_u12 a_u12 b_u12
        refine ok_cP (vf_X11_typeOfTag hn (by omega) (by omega) (by omega) (by omega) V_h) ?_; intro u14 e_u14 a_u14 b_u14
        refine ok_wA (by omega) ?_; intro h15 E_h15; have V_h15 : VS_ h15 := by rw [E_h15]; exact wA_133 V_h (by omega)
        exact vj_X11_takeTypes_67 hn ih (by omega) (by omega) (by omega) (by omega) (by omega) (by omega) (by omega) (by omega) (by omega) (by omega) V_h15 (by omega)
set_option maxRecDepth 4000 in
theorem vf_X11_takeTypes {nn : Nat} (hn : 1000000 ≤ nn) {a1 : Int} {a2 : Int} {h : ms_M} (a_a1 : (-2147483648) ≤ a1) (b_a1 : a1 ≤ 2147483647) (a_a2 : 3 ≤ a2) (b_a2 : a2 ≤ 6369) (V_h : VS_ h)  : Ok_ (qf_X11_takeTypes nn a1 a2 h) (QI_ (-2147483648) 2147483647) := by
  unfold qf_X11_takeTypes
  refine ok_ck (vi_r V_h).2.1.1 ?_
  have hb1 : kc_O (h 127 5).toNat = 3 := (vi_r V_h).2.1.2
  refine ok_ck hb1 ?_
  refine ok_cP (vf_X3_byteAt hn hb1 (by omega) (by omega) V_h) ?_; intro u20 e_u20 a_u20 b_u20
  refine ok_addW (by omega) ?_; intro v21 a_v21 b_v21 w_v21
  exact vw_X11_takeTypes_17 hn _ (by omega) (by omega) (by omega) (by omega) (by omega) (by omega) (by omega) (by omega) V_h (by omega)
set_option maxRecDepth 4000 in
theorem vw_X7_cellsAbove_7 {nn : Nat} (hn : 1000000 ≤ nn) : ∀ (k : Nat) {l2 : Int} {l3 : Int} {l4 : Int} {h : ms_M} (a_l2 : 0 ≤ l2) (b_l2 : l2 ≤ 192) (a_l3 : (-1) ≤ l3) (b_l3 : l3 ≤ 341) (a_l4 : 0 ≤ l4) (b_l4 : l4 ≤ 16) (V_h : VS_ h) (x_0 : l2 ≤ 12 * l4)  (hm : 17 - l4 < (k : Int)), Ok_ (qw_X7_cellsAbove_7 nn k l2 l3 l4 h) (QP_ 0 192) := by
  intro k
  induction k with
  | zero => intros; exfalso; omega
  | succ k ih =>
    intro l2 l3 l4 h a_l2 b_l2 a_l3 b_l3 a_l4 b_l4 V_h x_0 hm
    unfold qw_X7_cellsAbove_7
    refine ok_if ?_ ?_
    · intro C0
      exact ok_rP (by omega) (by omega)
    · intro C0
      refine ok_cO (vf_X7_imageOf hn (by omega) (by omega) V_h) ?_; intro u2 e_u2 o_u2
      have T2 := po_X7_imageOf V_h e_u2
      refine ok_if ?_ ?_
      · intro C2
        exact ok_rP (by omega) (by omega)
      · intro C2
        have hb1 : kc_O (u2).toNat = 3 := (o_u2.resolve_left C2)
        refine ok_ck hb1 ?_
        have T4 := gI_10 V_h hb1
        refine ok_add (by omega) ?_; intro v6 e_v6
        refine ok_cP (vf_X4_above hn rfl (by omega) (by omega) V_h) ?_; intro u9 e_u9 a_u9 b_u9
        refine ok_add (by omega) ?_; intro v10 e_v10
        exact ih (by omega) (by omega) (by omega) (by omega) (by omega) (by omega) V_h (by omega) (by omega)
set_option maxRecDepth 4000 in
theorem vf_X7_cellsAbove {nn : Nat} (hn : 1000000 ≤ nn) {a1 : Int} {h : ms_M} (a_a1 : (-1) ≤ a1) (b_a1 : a1 ≤ 341) (V_h : VS_ h)  : Ok_ (qf_X7_cellsAbove nn a1 h) (QP_ 0 192) := by
  unfold qf_X7_cellsAbove
  exact vw_X7_cellsAbove_7 hn _ (by omega) (by omega) (by omega) (by omega) (by omega) (by omega) V_h (by omega) (by omega)
set_option maxRecDepth 4000 in
theorem vw_X7_linkMethods_29 {nn : Nat} (hn : 1000000 ≤ nn) {qkk_7 : Int → Int → Int → ms_M → Option ms_M} {K_kk_7 : Int} (hk_kk_7 : ∀ {l1 : Int} {l2 : Int} {l3 : Int} {h : ms_M} (a_l1 : 0 ≤ l1) (b_l1 : l1 ≤ 7) (a_l2 : (-1) ≤ l2) (b_l2 : l2 ≤ 341) (a_l3 : 0 ≤ l3) (b_l3 : l3 ≤ 16) (V_h : VS_ h) (_ : 17 - l3 < K_kk_7), Ok_ (qkk_7 l1 l2 l3 h) QV_) : ∀ (k : Nat) {l1 : Int} {l2 : Int} {l3 : Int} {l4 : Int} {l5 : Int} {h : ms_M} (a_l1 : 0 ≤ l1) (b_l1 : l1 ≤ 7) (a_l2 : 8 ≤ l2) (b_l2 : l2 ≤ 15) (a_l3 : 0 ≤ l3) (b_l3 : l3 ≤ 15) (n_l4 : 0 ≤ l4) (k_l4 : kc_O (l4).toNat = 3) (a_l5 : 0 ≤ l5) (b_l5 : l5 ≤ 12) (V_h : VS_ h) (hm_kk_7 : 17 - l3 + 0 ≤ K_kk_7) (hm : 13 - l5 < (k : Int)), Ok_ (qw_X7_linkMethods_29 nn qkk_7 k l1 l2 l3 l4 l5 h) QV_ := by
  intro k
  induction k with
  | zero => intros; exfalso; omega
  | succ k ih =>
    intro l1 l2 l3 l4 l5 h a_l1 b_l1 a_l2 b_l2 a_l3 b_l3 n_l4 k_l4 a_l5 b_l5 V_h hm_kk_7 hm
    unfold qw_X7_linkMethods_29
    refine ok_ck n_l4 ?_
    have hb1 : kc_O (l4).toNat = 3 := k_l4
    refine ok_ck hb1 ?_
    have T1 := gI_12 V_h hb1
    refine ok_if ?_ ?_
    · intro C1
      refine ok_cP (vf_X4_above hn rfl (by omega) (by omega) V_h) ?_; intro u5 e_u5 a_u5 b_u5
      refine ok_add (by omega) ?_; intro v6 e_v6
      exact hk_kk_7 (by omega) (by omega) (by omega) (by omega) (by omega) (by omega) V_h (by omega)
    · intro C1
      refine ok_mul (by omega) ?_; intro v8 e_v8
      refine ok_cP (vf_X7_numberOf hn (by omega) (by omega) (by omega) (by omega) V_h) ?_; intro u10 e_u10 a_u10 b_u10
      refine ok_add (by omega) ?_; intro v11 e_v11
      refine ok_add (by omega) ?_; intro v12 e_v12
      refine ok_cP (vf_X3_of hn hb1 (by omega) (by omega) (by omega) (by omega) V_h) ?_; intro u14 e_u14 a_u14 b_u14
      refine ok_cP (vf_X7_methodOf hn (by omega) (by omega) hb1 (by omega) (by omega) V_h) ?_; intro u16 e_u16 a_u16 b_u16
      refine ok_wA (by omega) ?_; intro h17 E_h17; have V_h17 : VS_ h17 := by rw [E_h17]; exact wA_70 V_h (by omega)
      refine ok_add (by omega) ?_; intro v18 e_v18
      exact ih (by omega) (by omega) (by omega) (by omega) (by omega) (by omega) (by omega) hb1 (by omega) (by omega) V_h17 (by omega) (by omega)
set_option maxRecDepth 4000 in
theorem vw_X7_linkMethods_7 {nn : Nat} (hn : 1000000 ≤ nn) : ∀ (k : Nat) {l1 : Int} {l2 : Int} {l3 : Int} {h : ms_M} (a_l1 : 0 ≤ l1) (b_l1 : l1 ≤ 7) (a_l2 : (-1) ≤ l2) (b_l2 : l2 ≤ 341) (a_l3 : 0 ≤ l3) (b_l3 : l3 ≤ 16) (V_h : VS_ h)  (hm : 17 - l3 < (k : Int)), Ok_ (qw_X7_linkMethods_7 nn k l1 l2 l3 h) QV_ := by
  intro k
  induction k with
  | zero => intros; exfalso; omega
  | succ k ih =>
    intro l1 l2 l3 h a_l1 b_l1 a_l2 b_l2 a_l3 b_l3 V_h hm
    unfold qw_X7_linkMethods_7
    refine ok_if ?_ ?_
    · intro C0
      exact ok_rV V_h
    · intro C0
      refine ok_cO (vf_X7_imageOf hn (by omega) (by omega) V_h) ?_; intro u21 e_u21 o_u21
      have T2 := po_X7_imageOf V_h e_u21
      refine ok_if ?_ ?_
      · intro C2
        exact ok_rV V_h
      · intro C2
        exact vw_X7_linkMethods_29 hn ih _ (by omega) (by omega) (by omega) (by omega) (by omega) (by omega) (by omega) (o_u21.resolve_left C2) (by omega) (by omega) V_h (by omega) (by omega)
set_option maxRecDepth 4000 in
theorem vf_X7_linkMethods {nn : Nat} (hn : 1000000 ≤ nn) {a1 : Int} {h : ms_M} (a_a1 : 0 ≤ a1) (b_a1 : a1 ≤ 7) (V_h : VS_ h)  : Ok_ (qf_X7_linkMethods nn a1 h) QV_ := by
  unfold qf_X7_linkMethods
  refine ok_add (by omega) ?_; intro v25 e_v25
  exact vw_X7_linkMethods_7 hn _ (by omega) (by omega) (by omega) (by omega) (by omega) (by omega) V_h (by omega)
set_option maxRecDepth 4000 in
theorem vf_X3_numberOf {nn : Nat} (hn : 1000000 ≤ nn) {a0 : Nat} {a1 : Int} {h : ms_M} (hb_a0 : kc_O a0 = 3) (a_a1 : 1 ≤ a1) (b_a1 : a1 ≤ 255) (V_h : VS_ h)  : Ok_ (qf_X3_numberOf nn a0 a1 h) (QP_ (-2147483648) 2147483647) := by
  unfold qf_X3_numberOf
  refine ok_cP (vf_X3_partOf hn hb_a0 (by omega) (by omega) (by omega) (by omega) V_h) ?_; intro u2 e_u2 a_u2 b_u2
  refine ok_i32 ?_; intro v3 a_v3 b_v3
  refine ok_cP (vf_X3_partOf hn hb_a0 (by omega) (by omega) (by omega) (by omega) V_h) ?_; intro u5 e_u5 a_u5 b_u5
  refine ok_i32 ?_; intro v6 a_v6 b_v6
  refine ok_i32 ?_; intro v7 a_v7 b_v7
  refine ok_cP (vf_X3_partOf hn hb_a0 (by omega) (by omega) (by omega) (by omega) V_h) ?_; intro u9 e_u9 a_u9 b_u9
  refine ok_shl8 (by omega) ?_; intro v10 e_v10
  refine ok_i32 ?_; intro v11 a_v11 b_v11
  refine ok_cP (vf_X3_partOf hn hb_a0 (by omega) (by omega) (by omega) (by omega) V_h) ?_; intro u13 e_u13 a_u13 b_u13
  refine ok_i32 ?_; intro v14 a_v14 b_v14
  exact ok_rP (by omega) (by omega)
set_option maxRecDepth 4000 in
theorem vf_X7_linkOf {nn : Nat} (hn : 1000000 ≤ nn) {a1 : Nat} {a2 : Int} {h : ms_M} (i_a1 : kc_O a1 = 3) (a_a2 : 1 ≤ a2) (b_a2 : a2 ≤ 255) (V_h : VS_ h)  : Ok_ (qf_X7_linkOf nn a1 a2 h) (QP_ (-2147483648) 2147483647) := by
  unfold qf_X7_linkOf
  have hb1 : kc_O a1 = 3 := i_a1
  refine ok_ck hb1 ?_
  refine ok_cP (vf_X3_tagOf hn hb1 (by omega) (by omega) V_h) ?_; intro u2 e_u2 a_u2 b_u2
  refine ok_if ?_ ?_
  · intro C0
    refine ok_if ?_ ?_
    · intro C1
      refine ok_if ?_ ?_
      · intro C2
        refine ok_cP (vf_X3_partOf hn hb1 (by omega) (by omega) (by omega) (by omega) V_h) ?_; intro u4 e_u4 a_u4 b_u4
        refine ok_cP (vf_X7_typeOfClass hn hb1 (by omega) (by omega) V_h) ?_; intro u6 e_u6 a_u6 b_u6
        refine ok_cP (vf_X3_partOf hn hb1 (by omega) (by omega) (by omega) (by omega) V_h) ?_; intro u8 e_u8 a_u8 b_u8
        refine ok_cP (vf_X3_textAt hn hb1 (by omega) (by omega) V_h) ?_; intro u10 e_u10 a_u10 b_u10
        refine ok_cP (vf_X3_byteAt hn hb1 (by omega) (by omega) V_h) ?_; intro u12 e_u12 a_u12 b_u12
        refine ok_if ?_ ?_
        · intro C3
          refine ok_cP (vf_X3_partOf hn hb1 (by omega) (by omega) (by omega) (by omega) V_h) ?_; intro u14 e_u14 a_u14 b_u14
          refine ok_cP (vf_X7_fieldOf hn (by omega) (by omega) hb1 (by omega) (by omega) V_h) ?_; intro u16 e_u16 a_u16 b_u16
          refine ok_if ?_ ?_
          · intro C4
            refine ok_div (n := 12) (by omega) ?_; intro v17 e_v17
            refine ok_add (by omega) ?_; intro v18 e_v18
            refine ok_cP (vf_X4_above hn rfl (by omega) (by omega) V_h) ?_; intro u21 e_u21 a_u21 b_u21
            refine ok_cP (vf_X7_cellsAbove hn (by omega) (by omega) V_h) ?_; intro u23 e_u23 a_u23 b_u23
            refine ok_rem (n := 12) (by omega) ?_; intro v24 e_v24
            refine ok_add (by omega) ?_; intro v25 e_v25
            exact ok_rP (by omega) (by omega)
          · intro C4
            exact ok_rP (by omega) (by omega)
        · intro C3
          refine ok_cP (vf_X3_partOf hn hb1 (by omega) (by omega) (by omega) (by omega) V_h) ?_; intro u28 e_u28 a_u28 b_u28
          refine ok_cP (vf_X7_methodOf hn (by omega) (by omega) hb1 (by omega) (by omega) V_h) ?_; intro u30 e_u30 a_u30 b_u30
          exact ok_rP (by omega) (by omega)
      · intro C2
        exact ok_rP (by omega) (by omega)
    · intro C1
      refine ok_cP (vf_X7_typeOfClass hn hb1 (by omega) (by omega) V_h) ?_; intro u34 e_u34 a_u34 b_u34
      exact ok_rP (by omega) (by omega)
  · intro C0
    refine ok_cP (vf_X3_numberOf hn hb1 (by omega) (by omega) V_h) ?_; intro u37 e_u37 a_u37 b_u37
    exact ok_rP (by omega) (by omega)
set_option maxRecDepth 4000 in
theorem vw_X7_linkAll_42 {nn : Nat} (hn : 1000000 ≤ nn) {qkk_32 : Int → ms_M → Option ms_M} {K_kk_32 : Int} (hk_kk_32 : ∀ {l1 : Int} {h : ms_M} (a_l1 : 0 ≤ l1) (b_l1 : l1 ≤ 8) (V_h : VS_ h) (_ : 9 - l1 < K_kk_32), Ok_ (qkk_32 l1 h) QV_) : ∀ (k : Nat) {l1 : Int} {l2 : Int} {h : ms_M} (a_l1 : 0 ≤ l1) (b_l1 : l1 ≤ 7) (a_l2 : 1 ≤ l2) (b_l2 : l2 ≤ 256) (V_h : VS_ h) (hm_kk_32 : 9 - l1 + 0 ≤ K_kk_32) (hm : 257 - l2 < (k : Int)), Ok_ (qw_X7_linkAll_42 nn qkk_32 k l1 l2 h) QV_ := by
  intro k
  induction k with
  | zero => intros; exfalso; omega
  | succ k ih =>
    intro l1 l2 h a_l1 b_l1 a_l2 b_l2 V_h hm_kk_32 hm
    unfold qw_X7_linkAll_42
    refine ok_rd60 V_h (by omega) ?_; intro v2 n_v2 k_v2
    refine ok_ck n_v2 ?_
    have hb1 : kc_O (v2).toNat = 3 := k_v2
    refine ok_ck hb1 ?_
    have T1 := gI_7 V_h hb1
    refine ok_if ?_ ?_
    · intro C1
      refine ok_cV (vf_X7_linkMethods hn (by omega) (by omega) V_h) ?_; intro u6 E_u6 V_u6
      refine ok_add (by omega) ?_; intro v7 e_v7
      exact hk_kk_32 (by omega) (by omega) V_u6 (by omega)
    · intro C1
      refine ok_mul (by omega) ?_; intro v9 e_v9
      refine ok_add (by omega) ?_; intro v10 e_v10
      refine ok_rd60 V_h (by omega) ?_; intro v12 n_v12 k_v12
      refine ok_ck n_v12 ?_
      refine ok_cP (vf_X7_linkOf hn k_v12 (by omega) (by omega) V_h) ?_; intro u15 e_u15 a_u15 b_u15
      refine ok_wA (by omega) ?_; intro h16 E_h16; have V_h16 : VS_ h16 := by rw [E_h16]; exact wA_68 V_h (by omega)
      refine ok_add (by omega) ?_; intro v17 e_v17
      exact ih (by omega) (by omega) (by omega) (by omega) V_h16 (by omega) (by omega)
set_option maxRecDepth 4000 in
theorem vw_X7_linkAll_32 {nn : Nat} (hn : 1000000 ≤ nn) : ∀ (k : Nat) {l1 : Int} {h : ms_M} (a_l1 : 0 ≤ l1) (b_l1 : l1 ≤ 8) (V_h : VS_ h)  (hm : 9 - l1 < (k : Int)), Ok_ (qw_X7_linkAll_32 nn k l1 h) QV_ := by
  intro k
  induction k with
  | zero => intros; exfalso; omega
  | succ k ih =>
    intro l1 h a_l1 b_l1 V_h hm
    unfold qw_X7_linkAll_32
    have T1 := gF_56_3 V_h
    refine ok_if ?_ ?_
    · intro C1
      exact ok_rV V_h
    · intro C1
      exact vw_X7_linkAll_42 hn ih _ (by omega) (by omega) (by omega) (by omega) V_h (by omega) (by omega)
set_option maxRecDepth 4000 in
theorem vw_X7_linkAll_2 {nn : Nat} (hn : 1000000 ≤ nn) : ∀ (k : Nat) {l1 : Int} {h : ms_M} (a_l1 : 0 ≤ l1) (b_l1 : l1 ≤ 16) (V_h : VS_ h)  (hm : 17 - l1 < (k : Int)), Ok_ (qw_X7_linkAll_2 nn k l1 h) QV_ := by
  intro k
  induction k with
  | zero => intros; exfalso; omega
  | succ k ih =>
    intro l1 h a_l1 b_l1 V_h hm
    unfold qw_X7_linkAll_2
    have T1 := gF_56_3 V_h
    refine ok_add (by omega) ?_; intro v22 e_v22
    refine ok_if ?_ ?_
    · intro C1
      exact vw_X7_linkAll_32 hn _ (by omega) (by omega) V_h (by omega)
    · intro C1
      refine ok_cP (vf_X7_cellsAbove hn (by omega) (by omega) V_h) ?_; intro u25 e_u25 a_u25 b_u25
      refine ok_wA (by omega) ?_; intro h26 E_h26; have V_h26 : VS_ h26 := by rw [E_h26]; exact wA_69 V_h (by omega)
      refine ok_add (by omega) ?_; intro v27 e_v27
      exact ih (by omega) (by omega) V_h26 (by omega)
set_option maxRecDepth 4000 in
theorem vf_X7_linkAll {nn : Nat} (hn : 1000000 ≤ nn) {h : ms_M} (V_h : VS_ h)  : Ok_ (qf_X7_linkAll nn h) QV_ := by
  unfold qf_X7_linkAll
  exact vw_X7_linkAll_2 hn _ (by omega) (by omega) V_h (by omega)
set_option maxRecDepth 4000 in
theorem vf_X12_where {nn : Nat} (hn : 1000000 ≤ nn) {a1 : Int} {h : ms_M} (a_a1 : (-2147483648) ≤ a1) (b_a1 : a1 ≤ 2147483647) (V_h : VS_ h)  : Ok_ (qf_X12_where nn a1 h) (QP_ (-1) 65534) := by
  unfold qf_X12_where
  refine ok_if ?_ ?_
  · intro C0
    have T2 := gF_127_2 V_h
    exact ok_rP (by omega) (by omega)
  · intro C0
    refine ok_if ?_ ?_
    · intro C2
      have T4 := gF_127_3 V_h
      exact ok_rP (by omega) (by omega)
    · intro C2
      refine ok_if ?_ ?_
      · intro C4
        have T6 := gF_127_4 V_h
        exact ok_rP (by omega) (by omega)
      · intro C4
        exact ok_rP (by omega) (by omega)
