section
set_option maxRecDepth 4000 in
theorem vj_X11_applySimple_103 {nn : Nat} (hn : 1000000 ≤ nn) {l1 : Int} {l2 : Int} {h : ms_M} (a_l1 : 21 ≤ l1) (b_l1 : l1 ≤ 58) (a_l2 : 0 ≤ l2) (b_l2 : l2 ≤ 255) (V_h : VS_ h)  : Ok_ (qj_X11_applySimple_103 nn l1 l2 h) QV_ := by
  unfold qj_X11_applySimple_103
  refine ok_cV (vf_X11_applyLocal hn (by omega) (by omega) (by omega) (by omega) V_h) ?_; intro u2 E_u2 V_u2
  exact ok_rV V_u2
set_option maxRecDepth 4000 in
theorem vj_X11_applySimple_38 {nn : Nat} (hn : 1000000 ≤ nn) {h : ms_M} (V_h : VS_ h)  : Ok_ (qj_X11_applySimple_38 nn h) QV_ := by
  unfold qj_X11_applySimple_38
  refine ok_cV (vf_X11_push hn (by omega) (by omega) V_h) ?_; intro u4 E_u4 V_u4
  exact ok_rV V_u4
set_option maxRecDepth 4000 in
theorem vj_X11_applySimple_26 {nn : Nat} (hn : 1000000 ≤ nn) {l1 : Int} {l2 : Int} {h : ms_M} (a_l1 : 0 ≤ l1) (b_l1 : l1 ≤ 255) (a_l2 : 0 ≤ l2) (b_l2 : l2 ≤ 255) (V_h : VS_ h)  : Ok_ (qj_X11_applySimple_26 nn l1 l2 h) QV_ := by
  unfold qj_X11_applySimple_26
  refine ok_if ?_ ?_
  · intro C0
    exact vj_X11_applySimple_38 hn V_h
  · intro C0
    refine ok_if ?_ ?_
    · intro C1
      refine ok_cP (vf_X11_isArithmetic hn (by omega) (by omega) V_h) ?_; intro u5 e_u5 a_u5 b_u5
      refine ok_if ?_ ?_
      · intro C2
        refine ok_if ?_ ?_
        · intro C3
          exact vj_X11_applySimple_103 hn (by omega) (by omega) (by omega) (by omega) V_h
        · intro C3
          refine ok_if ?_ ?_
          · intro C4
            exact vj_X11_applySimple_103 hn (by omega) (by omega) (by omega) (by omega) V_h
          · intro C4
            refine ok_if ?_ ?_
            · intro C5
              exact vj_X11_applySimple_103 hn (by omega) (by omega) (by omega) (by omega) V_h
            · intro C5
              refine ok_if ?_ ?_
              · intro C6
                refine ok_cP (vf_X11_isJump hn (by omega) (by omega) V_h) ?_; intro u6 e_u6 a_u6 b_u6
                refine ok_if ?_ ?_
                · intro C7
                  refine ok_if ?_ ?_
                  · intro C8
                    refine ok_if ?_ ?_
                    · intro C9
                      refine ok_if ?_ ?_
                      · intro C10
                        refine ok_cV (vf_X11_applyObject hn (by omega) (by omega) (by omega) (by omega) V_h) ?_; intro u8 E_u8 V_u8
                        exact ok_rV V_u8
                      · intro C10
                        refine ok_cV (vf_X11_applyMember hn (by omega) (by omega) (by omega) (by omega) V_h) ?_; intro u10 E_u10 V_u10
                        exact ok_rV V_u10
                    · intro C9
                      refine ok_cV (vf_X11_applyReturn hn (by omega) (by omega) V_h) ?_; intro u13 E_u13 V_u13
                      exact ok_rV V_u13
                  · intro C8
                    refine ok_cV (vf_X11_applyArray hn (by omega) (by omega) V_h) ?_; intro u16 E_u16 V_u16
                    exact ok_rV V_u16
                · intro C7
                  refine ok_cV (vf_X11_applyJump hn (by omega) (by omega) V_h) ?_; intro u19 E_u19 V_u19
                  exact ok_rV V_u19
              · intro C6
                exact vj_X11_applySimple_103 hn (by omega) (by omega) (by omega) (by omega) V_h
      · intro C2
        refine ok_cV (vf_X11_want hn (by omega) (by omega) V_h) ?_; intro u26 E_u26 V_u26
        refine ok_cV (vf_X11_want hn (by omega) (by omega) V_u26) ?_; intro u28 E_u28 V_u28
        refine ok_cV (vf_X11_push hn (by omega) (by omega) V_u28) ?_; intro u30 E_u30 V_u30
        exact ok_rV V_u30
    · intro C1
      exact vj_X11_applySimple_38 hn V_h
set_option maxRecDepth 4000 in
theorem vf_X11_applySimple {nn : Nat} (hn : 1000000 ≤ nn) {a1 : Int} {a2 : Int} {h : ms_M} (a_a1 : 0 ≤ a1) (b_a1 : a1 ≤ 255) (a_a2 : 0 ≤ a2) (b_a2 : a2 ≤ 255) (V_h : VS_ h)  : Ok_ (qf_X11_applySimple nn a1 a2 h) QV_ := by
  unfold qf_X11_applySimple
  refine ok_if ?_ ?_
  · intro C0
    refine ok_if ?_ ?_
    · intro C1
      exact vj_X11_applySimple_26 hn (by omega) (by omega) (by omega) (by omega) V_h
    · intro C1
      refine ok_if ?_ ?_
      · intro C2
        exact vj_X11_applySimple_38 hn V_h
      · intro C2
        exact vj_X11_applySimple_26 hn (by omega) (by omega) (by omega) (by omega) V_h
  · intro C0
    refine ok_cV (vf_X11_push hn (by omega) (by omega) V_h) ?_; intro u37 E_u37 V_u37
    exact ok_rV V_u37
set_option maxRecDepth 4000 in
theorem vf_X11_fits {nn : Nat} (hn : 1000000 ≤ nn) {a1 : Int} {a2 : Int} {h : ms_M} (a_a1 : (-2147483648) ≤ a1) (b_a1 : a1 ≤ 2147483647) (a_a2 : (-1) ≤ a2) (b_a2 : a2 ≤ 65535) (V_h : VS_ h)  : Ok_ (qf_X11_fits nn a1 a2 h) (QP_ 0 1) := by
  unfold qf_X11_fits
  refine ok_if ?_ ?_
  · intro C0
    exact ok_rP (by omega) (by omega)
  · intro C0
    refine ok_cP (vf_X4_fits hn rfl (by omega) (by omega) (by omega) (by omega) V_h) ?_; intro u3 e_u3 a_u3 b_u3
    refine ok_if ?_ ?_
    · intro C1
      exact ok_rP (by omega) (by omega)
    · intro C1
      exact ok_rP (by omega) (by omega)
set_option maxRecDepth 4000 in
theorem vw_X11_fitsLocals_4 {nn : Nat} (hn : 1000000 ≤ nn) : ∀ (k : Nat) {l1 : Int} {l2 : Int} {l3 : Int} {h : ms_M} (a_l1 : 0 ≤ l1) (b_l1 : l1 ≤ 6336) (a_l2 : 0 ≤ l2) (b_l2 : l2 ≤ 1) (a_l3 : 0 ≤ l3) (b_l3 : l3 ≤ 30) (V_h : VS_ h) (x_0 : 0 ≤ h 133 (l1 + 1).toNat ∧ h 133 (l1 + 1).toNat ≤ 30)  (hm : 31 - l3 < (k : Int)), Ok_ (qw_X11_fitsLocals_4 nn k l1 l2 l3 h) (QP_ 0 1) := by
  intro k
  induction k with
  | zero => intros; exfalso; omega
  | succ k ih =>
    intro l1 l2 l3 h a_l1 b_l1 a_l2 b_l2 a_l3 b_l3 V_h x_0 hm
    unfold qw_X11_fitsLocals_4
    refine ok_add (by omega) ?_; intro v2 e_v2
    refine ok_rd (by omega) (gA_133 V_h) ?_; intro v3 e_v3 a_v3 b_v3
    have z3 : v3 ≤ 30 := by rw [e_v3, e_v2]; exact x_0.2
    refine ok_if ?_ ?_
    · intro C0
      refine ok_ck (by omega) ?_
      exact ok_rP (by omega) (by omega)
    · intro C0
      refine ok_if ?_ ?_
      · intro C1
        refine ok_ck (by omega) ?_
        exact ok_rP (by omega) (by omega)
      · intro C1
        refine ok_rd (by omega) (gA_134 V_h) ?_; intro v7 e_v7 a_v7 b_v7
        refine ok_add (by omega) ?_; intro v9 e_v9
        refine ok_add (by omega) ?_; intro v10 e_v10
        refine ok_rd (by omega) (gA_133 V_h) ?_; intro v11 e_v11 a_v11 b_v11
        refine ok_cP (vf_X11_fits hn (by omega) (by omega) (by omega) (by omega) V_h) ?_; intro u13 e_u13 a_u13 b_u13
        refine ok_add (by omega) ?_; intro v14 e_v14
        exact ih (by omega) (by omega) (by omega) (by omega) (by omega) (by omega) V_h (by omega) (by omega)
set_option maxRecDepth 4000 in
theorem vf_X11_fitsLocals {nn : Nat} (hn : 1000000 ≤ nn) {a1 : Int} {h : ms_M} (a_a1 : 0 ≤ a1) (b_a1 : a1 ≤ 6336) (V_h : VS_ h) (x_0 : 0 ≤ h 133 (a1 + 1).toNat ∧ h 133 (a1 + 1).toNat ≤ 30)  : Ok_ (qf_X11_fitsLocals nn a1 h) (QP_ 0 1) := by
  unfold qf_X11_fitsLocals
  exact vw_X11_fitsLocals_4 hn _ (by omega) (by omega) (by omega) (by omega) (by omega) (by omega) V_h (by omega) (by omega)
set_option maxRecDepth 4000 in
theorem vw_X11_fitsFrame_37 {nn : Nat} (hn : 1000000 ≤ nn) : ∀ (k : Nat) {l2 : Int} {l3 : Int} {l4 : Int} {h : ms_M} (a_l2 : 0 ≤ l2) (b_l2 : l2 ≤ 6336) (a_l3 : 0 ≤ l3) (b_l3 : l3 ≤ 1) (a_l4 : 0 ≤ l4) (b_l4 : l4 ≤ 30) (V_h : VS_ h)  (hm : 31 - l4 < (k : Int)), Ok_ (qw_X11_fitsFrame_37 nn k l2 l3 l4 h) (QP_ 0 1) := by
  intro k
  induction k with
  | zero => intros; exfalso; omega
  | succ k ih =>
    intro l2 l3 l4 h a_l2 b_l2 a_l3 b_l3 a_l4 b_l4 V_h hm
    unfold qw_X11_fitsFrame_37
    have T1 := gF_127_18 V_h
    refine ok_if ?_ ?_
    · intro C1
      refine ok_ck (by omega) ?_
      exact ok_rP (by omega) (by omega)
    · intro C1
      refine ok_if ?_ ?_
      · intro C2
        refine ok_ck (by omega) ?_
        exact ok_rP (by omega) (by omega)
      · intro C2
        refine ok_rd (by omega) (gA_135 V_h) ?_; intro v5 e_v5 a_v5 b_v5
        refine ok_add (by omega) ?_; intro v7 e_v7
        refine ok_add (by omega) ?_; intro v8 e_v8
        refine ok_rd (by omega) (gA_133 V_h) ?_; intro v9 e_v9 a_v9 b_v9
        refine ok_cP (vf_X11_fits hn (by omega) (by omega) (by omega) (by omega) V_h) ?_; intro u11 e_u11 a_u11 b_u11
        refine ok_add (by omega) ?_; intro v12 e_v12
        exact ih (by omega) (by omega) (by omega) (by omega) (by omega) (by omega) V_h (by omega)
set_option maxRecDepth 4000 in
theorem vj_X11_fitsFrame_32 {nn : Nat} (hn : 1000000 ≤ nn) {l2 : Int} {h : ms_M} (a_l2 : 0 ≤ l2) (b_l2 : l2 ≤ 6336) (V_h : VS_ h)  : Ok_ (qj_X11_fitsFrame_32 nn l2 h) (QP_ 0 1) := by
  unfold qj_X11_fitsFrame_32
  exact vw_X11_fitsFrame_37 hn _ (by omega) (by omega) (by omega) (by omega) (by omega) (by omega) V_h (by omega)
set_option maxRecDepth 4000 in
theorem vf_X11_fitsFrame {nn : Nat} (hn : 1000000 ≤ nn) {a1 : Int} {h : ms_M} (a_a1 : 0 ≤ a1) (b_a1 : a1 ≤ 99) (V_h : VS_ h) (x_0 : 0 ≤ h 133 (a1 * 64 + 1).toNat ∧ h 133 (a1 * 64 + 1).toNat ≤ 30) (x_1 : 0 ≤ h 133 (a1 * 64 + 2).toNat ∧ h 133 (a1 * 64 + 2).toNat ≤ 30)  : Ok_ (qf_X11_fitsFrame nn a1 h) (QP_ 0 1) := by
  unfold qf_X11_fitsFrame
  refine ok_mul (by omega) ?_; intro v15 e_v15
  refine ok_add (by omega) ?_; intro v17 e_v17
  refine ok_rd (by omega) (gA_133 V_h) ?_; intro v18 e_v18 a_v18 b_v18
  have T1 := gF_127_18 V_h
  refine ok_if ?_ ?_
  · intro C1
    exact vj_X11_fitsFrame_32 hn (by omega) (by omega) V_h
  · intro C1
    refine ok_cP (vf_X11_fitsLocals hn (by omega) (by omega) V_h (by rw [e_v15]; exact x_0)) ?_; intro u21 e_u21 a_u21 b_u21
    refine ok_if ?_ ?_
    · intro C2
      exact vj_X11_fitsFrame_32 hn (by omega) (by omega) V_h
    · intro C2
      exact vw_X11_fitsFrame_37 hn _ (by omega) (by omega) (by omega) (by omega) (by omega) (by omega) V_h (by omega)
set_option maxRecDepth 4000 in
theorem vj_X11_fitsHandlers_106 {nn : Nat} (hn : 1000000 ≤ nn) {qkk_4 : Int → Int → Int → ms_M → Option Int} {K_kk_4 : Int} (hk_kk_4 : ∀ {l1 : Int} {l2 : Int} {l3 : Int} {h : ms_M} (a_l1 : 0 ≤ l1) (b_l1 : l1 ≤ 1499) (a_l2 : 0 ≤ l2) (b_l2 : l2 ≤ 1) (a_l3 : 0 ≤ l3) (b_l3 : l3 ≤ 65535) (V_h : VS_ h) (N_h : VF_ h) (_ : 65536 - l3 < K_kk_4), Ok_ (qkk_4 l1 l2 l3 h) (QP_ 0 1)) {l1 : Int} {l3 : Int} {h : ms_M} (a_l1 : 0 ≤ l1) (b_l1 : l1 ≤ 1499) (a_l3 : 0 ≤ l3) (b_l3 : l3 ≤ 65534) (V_h : VS_ h) (N_h : VF_ h) (hm_kk_4 : 65536 - l3 + 0 ≤ K_kk_4) : Ok_ (qj_X11_fitsHandlers_106 nn qkk_4 l1 l3 h) (QP_ 0 1) := by
  unfold qj_X11_fitsHandlers_106
  refine ok_add (by omega) ?_; intro v1 e_v1
  exact hk_kk_4 (by omega) (by omega) (by omega) (by omega) (by omega) (by omega) V_h N_h (by omega)
set_option maxRecDepth 4000 in
theorem vw_X11_fitsHandlers_4 {nn : Nat} (hn : 1000000 ≤ nn) : ∀ (k : Nat) {l1 : Int} {l2 : Int} {l3 : Int} {h : ms_M} (a_l1 : 0 ≤ l1) (b_l1 : l1 ≤ 1499) (a_l2 : 0 ≤ l2) (b_l2 : l2 ≤ 1) (a_l3 : 0 ≤ l3) (b_l3 : l3 ≤ 65535) (V_h : VS_ h) (N_h : VF_ h)  (hm : 65536 - l3 < (k : Int)), Ok_ (qw_X11_fitsHandlers_4 nn k l1 l2 l3 h) (QP_ 0 1) := by
  intro k
  induction k with
  | zero => intros; exfalso; omega
  | succ k ih =>
    intro l1 l2 l3 h a_l1 b_l1 a_l2 b_l2 a_l3 b_l3 V_h N_h hm
    unfold qw_X11_fitsHandlers_4
    refine ok_cP (vf_X11_info hn (by omega) (by omega) V_h) ?_; intro u3 e_u3 a_u3 b_u3
    have T1 := lm_info7 V_h N_h.1 e_u3
    refine ok_if ?_ ?_
    · intro C1
      refine ok_ck (by omega) ?_
      exact ok_rP (by omega) (by omega)
    · intro C1
      refine ok_if ?_ ?_
      · intro C2
        refine ok_ck (by omega) ?_
        exact ok_rP (by omega) (by omega)
      · intro C2
        refine ok_cP (vf_X11_handler hn (by omega) (by omega) (by omega) (by omega) V_h) ?_; intro u7 e_u7 a_u7 b_u7
        refine ok_if ?_ ?_
        · intro C3
          refine ok_add (by omega) ?_; intro v8 e_v8
          exact ih (by omega) (by omega) (by omega) (by omega) (by omega) (by omega) V_h N_h (by omega)
        · intro C3
          refine ok_cP (vf_X11_handler hn (by omega) (by omega) (by omega) (by omega) V_h) ?_; intro u10 e_u10 a_u10 b_u10
          refine ok_if ?_ ?_
          · intro C4
            refine ok_add (by omega) ?_; intro v11 e_v11
            exact ih (by omega) (by omega) (by omega) (by omega) (by omega) (by omega) V_h N_h (by omega)
          · intro C4
            refine ok_cP (vf_X11_handler hn (by omega) (by omega) (by omega) (by omega) V_h) ?_; intro u13 e_u13 a_u13 b_u13
            refine ok_cP (vf_X11_frameAt hn (by omega) (by omega) V_h) ?_; intro u15 e_u15 a_u15 b_u15
            have T6 := lm_frameAt V_h N_h.2 e_u15
            refine ok_mul (by omega) ?_; intro v16 e_v16
            have z16 := lm_frameAt V_h N_h.2 e_u15
            have z17 : 0 ≤ v16 → 0 ≤ h 133 (v16 + 1).toNat ∧ h 133 (v16 + 1).toNat ≤ 30 := fun q => by rw [e_v16]; omega
            refine ok_if ?_ ?_
            · intro C6
              exact vj_X11_fitsHandlers_106 hn ih (by omega) (by omega) (by omega) (by omega) V_h N_h (by omega)
            · intro C6
              refine ok_cP (vf_X11_fitsLocals hn (by omega) (by omega) V_h (z17 (by omega))) ?_; intro u18 e_u18 a_u18 b_u18
              refine ok_if ?_ ?_
              · intro C7
                exact vj_X11_fitsHandlers_106 hn ih (by omega) (by omega) (by omega) (by omega) V_h N_h (by omega)
              · intro C7
                refine ok_add (by omega) ?_; intro v20 e_v20
                refine ok_rd (by omega) (gA_133 V_h) ?_; intro v21 e_v21 a_v21 b_v21
                refine ok_if ?_ ?_
                · intro C8
                  exact vj_X11_fitsHandlers_106 hn ih (by omega) (by omega) (by omega) (by omega) V_h N_h (by omega)
                · intro C8
                  refine ok_cP (vf_X11_handlerClass hn (by omega) (by omega) V_h) ?_; intro u23 e_u23 a_u23 b_u23
                  refine ok_add (by omega) ?_; intro v25 e_v25
                  refine ok_rd (by omega) (gA_133 V_h) ?_; intro v26 e_v26 a_v26 b_v26
                  refine ok_cP (vf_X11_fits hn (by omega) (by omega) (by omega) (by omega) V_h) ?_; intro u28 e_u28 a_u28 b_u28
                  refine ok_if ?_ ?_
                  · intro C9
                    exact vj_X11_fitsHandlers_106 hn ih (by omega) (by omega) (by omega) (by omega) V_h N_h (by omega)
                  · intro C9
                    refine ok_add (by omega) ?_; intro v29 e_v29
                    exact ih (by omega) (by omega) (by omega) (by omega) (by omega) (by omega) V_h N_h (by omega)
set_option maxRecDepth 4000 in
theorem vf_X11_fitsHandlers {nn : Nat} (hn : 1000000 ≤ nn) {a1 : Int} {h : ms_M} (a_a1 : 0 ≤ a1) (b_a1 : a1 ≤ 1499) (V_h : VS_ h) (N_h : VF_ h)  : Ok_ (qf_X11_fitsHandlers nn a1 h) (QP_ 0 1) := by
  unfold qf_X11_fitsHandlers
  exact vw_X11_fitsHandlers_4 hn _ (by omega) (by omega) (by omega) (by omega) (by omega) (by omega) V_h N_h (by omega)
set_option maxRecDepth 4000 in
theorem vj_X11_isMemberRight_131 {nn : Nat} (hn : 1000000 ≤ nn) {s0 : Int} {s1 : Int} {h : ms_M} (a_s0 : 0 ≤ s0) (b_s0 : s0 ≤ 1) (a_s1 : 0 ≤ s1) (b_s1 : s1 ≤ 1) (V_h : VS_ h)  : Ok_ (qj_X11_isMemberRight_131 nn s0 s1 h) (QP_ 0 1) := by
  unfold qj_X11_isMemberRight_131
  refine ok_if ?_ ?_
  · intro C0
    exact ok_rP (by omega) (by omega)
  · intro C0
    exact ok_rP (by omega) (by omega)
set_option maxRecDepth 4000 in
theorem vj_X11_isMemberRight_115 {nn : Nat} (hn : 1000000 ≤ nn) {l1 : Int} {s0 : Int} {h : ms_M} (a_l1 : 180 ≤ l1) (b_l1 : l1 ≤ 184) (a_s0 : 0 ≤ s0) (b_s0 : s0 ≤ 1) (V_h : VS_ h)  : Ok_ (qj_X11_isMemberRight_115 nn l1 s0 h) (QP_ 0 1) := by
  unfold qj_X11_isMemberRight_115
  refine ok_if ?_ ?_
  · intro C0
    exact vj_X11_isMemberRight_131 hn (by omega) (by omega) (by omega) (by omega) V_h
  · intro C0
    exact vj_X11_isMemberRight_131 hn (by omega) (by omega) (by omega) (by omega) V_h
set_option maxRecDepth 4000 in
theorem vj_X11_isMemberRight_114 {nn : Nat} (hn : 1000000 ≤ nn) {l1 : Int} {h : ms_M} (a_l1 : 180 ≤ l1) (b_l1 : l1 ≤ 184) (V_h : VS_ h)  : Ok_ (qj_X11_isMemberRight_114 nn l1 h) (QP_ 0 1) := by
  unfold qj_X11_isMemberRight_114
  exact vj_X11_isMemberRight_115 hn (by omega) (by omega) (by omega) (by omega) V_h
set_option maxRecDepth 4000 in
theorem vj_X11_isMemberRight_87 {nn : Nat} (hn : 1000000 ≤ nn) {l1 : Int} {l3 : Int} {l4 : Int} {l5 : Int} {s0 : Int} {s1 : Int} {h : ms_M} (a_l1 : 180 ≤ l1) (b_l1 : l1 ≤ 184) (a_l3 : 0 ≤ l3) (b_l3 : l3 ≤ 1) (a_l4 : 0 ≤ l4) (b_l4 : l4 ≤ 95) (n_l5 : 0 ≤ l5) (k_l5 : kc_O (l5).toNat = 3) (a_s0 : 0 ≤ s0) (b_s0 : s0 ≤ 1) (a_s1 : 0 ≤ s1) (b_s1 : s1 ≤ 1) (V_h : VS_ h)  : Ok_ (qj_X11_isMemberRight_87 nn l1 l3 l4 l5 s0 s1 h) (QP_ 0 1) := by
  unfold qj_X11_isMemberRight_87
  refine ok_if ?_ ?_
  · intro C0
    refine ok_if ?_ ?_
    · intro C1
      exact vj_X11_isMemberRight_114 hn (by omega) (by omega) V_h
    · intro C1
      refine ok_rem (n := 12) (by omega) ?_; intro v3 e_v3
      refine ok_ck n_l5 ?_
      have hb1 : kc_O (l5).toNat = 3 := k_l5
      refine ok_ck hb1 ?_
      refine ok_cP (vf_X3_of hn hb1 (by omega) (by omega) (by omega) (by omega) V_h) ?_; intro u6 e_u6 a_u6 b_u6
      refine ok_if ?_ ?_
      · intro C2
        exact vj_X11_isMemberRight_114 hn (by omega) (by omega) V_h
      · intro C2
        exact vj_X11_isMemberRight_115 hn (by omega) (by omega) (by omega) (by omega) V_h
  · intro C0
    exact ok_rP (by omega) (by omega)
set_option maxRecDepth 4000 in
theorem vj_X11_isMemberRight_56 {nn : Nat} (hn : 1000000 ≤ nn) {l1 : Int} {l3 : Int} {s0 : Int} {h : ms_M} (a_l1 : 180 ≤ l1) (b_l1 : l1 ≤ 184) (a_l3 : 0 ≤ l3) (b_l3 : l3 ≤ 1) (a_s0 : (-1) ≤ s0) (b_s0 : s0 ≤ 95) (V_h : VS_ h)  : Ok_ (qj_X11_isMemberRight_56 nn l1 l3 s0 h) (QP_ 0 1) := by
  unfold qj_X11_isMemberRight_56
  refine ok_cO (vf_X7_imageOfMember hn (by omega) (by omega) V_h) ?_; intro u12 e_u12 o_u12
  have T1 := po_X7_imageOfMember V_h e_u12
  refine ok_if ?_ ?_
  · intro C1
    exact ok_rP (by omega) (by omega)
  · intro C1
    refine ok_if ?_ ?_
    · intro C2
      exact vj_X11_isMemberRight_87 hn (by omega) (by omega) (by omega) (by omega) (by omega) (by omega) (by omega) (o_u12.resolve_left C1) (by omega) (by omega) (by omega) (by omega) V_h
    · intro C2
      exact vj_X11_isMemberRight_87 hn (by omega) (by omega) (by omega) (by omega) (by omega) (by omega) (by omega) (o_u12.resolve_left C1) (by omega) (by omega) (by omega) (by omega) V_h
set_option maxRecDepth 4000 in
theorem vj_X11_isMemberRight_33 {nn : Nat} (hn : 1000000 ≤ nn) {l1 : Int} {l2 : Int} {s0 : Int} {h : ms_M} (a_l1 : 180 ≤ l1) (b_l1 : l1 ≤ 184) (a_l2 : 0 ≤ l2) (b_l2 : l2 ≤ 255) (a_s0 : 0 ≤ s0) (b_s0 : s0 ≤ 1) (V_h : VS_ h)  : Ok_ (qj_X11_isMemberRight_33 nn l1 l2 s0 h) (QP_ 0 1) := by
  unfold qj_X11_isMemberRight_33
  refine ok_ck (vi_r V_h).2.1.1 ?_
  have hb1 : kc_O (h 127 5).toNat = 3 := (vi_r V_h).2.1.2
  refine ok_ck hb1 ?_
  refine ok_cP (vf_X3_tagOf hn hb1 (by omega) (by omega) V_h) ?_; intro u18 e_u18 a_u18 b_u18
  refine ok_if ?_ ?_
  · intro C0
    exact vj_X11_isMemberRight_56 hn (by omega) (by omega) (by omega) (by omega) (by omega) (by omega) V_h
  · intro C0
    refine ok_rd (by omega) (gA_129 V_h) ?_; intro v20 e_v20 a_v20 b_v20
    exact vj_X11_isMemberRight_56 hn (by omega) (by omega) (by omega) (by omega) (by omega) (by omega) V_h
set_option maxRecDepth 4000 in
theorem vf_X11_isMemberRight {nn : Nat} (hn : 1000000 ≤ nn) {a1 : Int} {a2 : Int} {h : ms_M} (a_a1 : 180 ≤ a1) (b_a1 : a1 ≤ 184) (a_a2 : 0 ≤ a2) (b_a2 : a2 ≤ 255) (V_h : VS_ h)  : Ok_ (qf_X11_isMemberRight nn a1 a2 h) (QP_ 0 1) := by
  unfold qf_X11_isMemberRight
  refine ok_ck (vi_r V_h).2.1.1 ?_
  refine ok_ck (vi_r V_h).2.1.1 ?_
  refine ok_ck (vi_r V_h).2.1.1 ?_
  have hb1 : kc_O (h 127 5).toNat = 3 := (vi_r V_h).2.1.2
  refine ok_ck hb1 ?_
  refine ok_cP (vf_X3_partOf hn hb1 (by omega) (by omega) (by omega) (by omega) V_h) ?_; intro u26 e_u26 a_u26 b_u26
  refine ok_cP (vf_X3_textAt hn hb1 (by omega) (by omega) V_h) ?_; intro u28 e_u28 a_u28 b_u28
  refine ok_cP (vf_X3_byteAt hn hb1 (by omega) (by omega) V_h) ?_; intro u30 e_u30 a_u30 b_u30
  refine ok_if ?_ ?_
  · intro C0
    exact vj_X11_isMemberRight_33 hn (by omega) (by omega) (by omega) (by omega) (by omega) (by omega) V_h
  · intro C0
    exact vj_X11_isMemberRight_33 hn (by omega) (by omega) (by omega) (by omega) (by omega) (by omega) V_h
set_option maxRecDepth 4000 in
theorem vj_X11_isConstantRight_152 {nn : Nat} (hn : 1000000 ≤ nn) {l1 : Int} {l2 : Int} {h : ms_M} (a_l1 : 180 ≤ l1) (b_l1 : l1 ≤ 184) (a_l2 : 0 ≤ l2) (b_l2 : l2 ≤ 255) (V_h : VS_ h)  : Ok_ (qj_X11_isConstantRight_152 nn l1 l2 h) (QP_ 0 1) := by
  unfold qj_X11_isConstantRight_152
  refine ok_cP (vf_X11_isMemberRight hn (by omega) (by omega) (by omega) (by omega) V_h) ?_; intro u2 e_u2 a_u2 b_u2
  refine ok_ck (by omega) ?_
  exact ok_rP (by omega) (by omega)
set_option maxRecDepth 4000 in
theorem vj_X11_isConstantRight_110 {nn : Nat} (hn : 1000000 ≤ nn) {l2 : Int} {h : ms_M} (a_l2 : 0 ≤ l2) (b_l2 : l2 ≤ 255) (V_h : VS_ h)  : Ok_ (qj_X11_isConstantRight_110 nn l2 h) (QP_ 0 1) := by
  unfold qj_X11_isConstantRight_110
  refine ok_ck (vi_r V_h).2.1.1 ?_
  have hb1 : kc_O (h 127 5).toNat = 3 := (vi_r V_h).2.1.2
  refine ok_ck hb1 ?_
  refine ok_cP (vf_X3_tagOf hn hb1 (by omega) (by omega) V_h) ?_; intro u6 e_u6 a_u6 b_u6
  refine ok_if ?_ ?_
  · intro C0
    exact ok_rP (by omega) (by omega)
  · intro C0
    refine ok_rd (by omega) (gA_128 V_h) ?_; intro v8 e_v8 a_v8 b_v8
    refine ok_cP (vf_X4_isClass hn (by omega) (by omega) V_h) ?_; intro u9 e_u9 a_u9 b_u9
    have T2 := pr_X4_isClass e_u9
    refine ok_if ?_ ?_
    · intro C2
      exact ok_rP (by omega) (by omega)
    · intro C2
      exact ok_rP (by omega) (by omega)
set_option maxRecDepth 4000 in
theorem vf_X11_isConstantRight {nn : Nat} (hn : 1000000 ≤ nn) {a1 : Int} {a2 : Int} {h : ms_M} (a_a1 : 0 ≤ a1) (b_a1 : a1 ≤ 255) (a_a2 : 0 ≤ a2) (b_a2 : a2 ≤ 255) (V_h : VS_ h)  : Ok_ (qf_X11_isConstantRight nn a1 a2 h) (QP_ 0 1) := by
  unfold qf_X11_isConstantRight
  refine ok_if ?_ ?_
  · intro C0
    refine ok_ck (vi_r V_h).2.1.1 ?_
    have hb1 : kc_O (h 127 5).toNat = 3 := (vi_r V_h).2.1.2
    refine ok_ck hb1 ?_
    refine ok_cP (vf_X3_tagOf hn hb1 (by omega) (by omega) V_h) ?_; intro u14 e_u14 a_u14 b_u14
    refine ok_if ?_ ?_
    · intro C1
      exact ok_rP (by omega) (by omega)
    · intro C1
      exact ok_rP (by omega) (by omega)
  · intro C0
    refine ok_if ?_ ?_
    · intro C2
      exact vj_X11_isConstantRight_152 hn (by omega) (by omega) (by omega) (by omega) V_h
    · intro C2
      refine ok_if ?_ ?_
      · intro C3
        exact vj_X11_isConstantRight_152 hn (by omega) (by omega) (by omega) (by omega) V_h
      · intro C3
        refine ok_if ?_ ?_
        · intro C4
          exact vj_X11_isConstantRight_152 hn (by omega) (by omega) (by omega) (by omega) V_h
        · intro C4
          refine ok_if ?_ ?_
          · intro C5
            exact vj_X11_isConstantRight_152 hn (by omega) (by omega) (by omega) (by omega) V_h
          · intro C5
            refine ok_if ?_ ?_
            · intro C6
              exact vj_X11_isConstantRight_110 hn (by omega) (by omega) V_h
            · intro C6
              refine ok_if ?_ ?_
              · intro C7
                refine ok_if ?_ ?_
                · intro C8
                  exact ok_rP (by omega) (by omega)
                · intro C8
                  exact ok_rP (by omega) (by omega)
              · intro C7
                refine ok_if ?_ ?_
                · intro C9
                  exact vj_X11_isConstantRight_110 hn (by omega) (by omega) V_h
                · intro C9
                  refine ok_if ?_ ?_
                  · intro C10
                    exact vj_X11_isConstantRight_110 hn (by omega) (by omega) V_h
                  · intro C10
                    refine ok_if ?_ ?_
                    · intro C11
                      exact vj_X11_isConstantRight_110 hn (by omega) (by omega) V_h
                    · intro C11
                      exact ok_rP (by omega) (by omega)
set_option maxRecDepth 4000 in
theorem vf_X11_takeFrame {nn : Nat} (hn : 1000000 ≤ nn) {a1 : Int} {h : ms_M} (a_a1 : 0 ≤ a1) (b_a1 : a1 ≤ 99) (V_h : VS_ h) (x_0 : 0 ≤ h 133 (a1 * 64 + 1).toNat ∧ h 133 (a1 * 64 + 1).toNat ≤ 30) (x_1 : 0 ≤ h 133 (a1 * 64 + 2).toNat ∧ h 133 (a1 * 64 + 2).toNat ≤ 30)  : Ok_ (qf_X11_takeFrame nn a1 h) QV_ := by
  unfold qf_X11_takeFrame
  refine ok_mul (by omega) ?_; intro v1 e_v1
  refine ok_cV (vfill hn V_h (show 134 < 256 by decide) rfl (show 30 ≤ 100000 by decide) (fun _ _ z => wA_134 z (by omega))) ?_; intro u3 E_u3 V_u3
  refine ok_add (by omega) ?_; intro v5 e_v5
  refine ok_add (by omega) ?_; intro v8 e_v8
  refine ok_rd (by omega) (gA_133 V_u3) ?_; intro v9 e_v9 a_v9 b_v9
  have z9 : 0 ≤ v9 ∧ v9 ≤ 30 := by rw [e_v9, e_v8, e_v1, show u3 133 (a1 * 64 + 1).toNat = h 133 (a1 * 64 + 1).toNat from (ff_J7_fill_53178 nn) _ E_u3 133 _ (show 133 ≠ 134 by decide)]; exact x_0
  refine ok_cp V_u3 (gA_133 V_u3) rfl (show _ ∧ _ ∧ _ ∧ _ + _ ≤ (6400 : Int) ∧ _ + _ ≤ (30 : Int) by omega) (fun z y => wA_134 z (by omega)) ?_; intro h10 V_h10 F_h10
  refine ok_add (by omega) ?_; intro v12 e_v12
  refine ok_rd (by omega) (gA_133 V_h10) ?_; intro v13 e_v13 a_v13 b_v13
  have z13 : 0 ≤ v13 ∧ v13 ≤ 30 := by rw [e_v13, e_v12, e_v1, F_h10 _ _ (by decide), show u3 133 (a1 * 64 + 2).toNat = h 133 (a1 * 64 + 2).toNat from (ff_J7_fill_53178 nn) _ E_u3 133 _ (show 133 ≠ 134 by decide)]; exact x_1
  refine ok_xl ?_; intro h14 E_h14; have V_h14 : VS_ h14 := by rw [E_h14]; exact wF_127_18 V_h10 (by omega)
  have T1 : h14 127 18 = v13 := by rw [E_h14]; exact up_s
  refine ok_add (by omega) ?_; intro v16 e_v16
  refine ok_cp V_h14 (gA_133 V_h14) rfl (show _ ∧ _ ∧ _ ∧ _ + _ ≤ (6400 : Int) ∧ _ + _ ≤ (30 : Int) by omega) (fun z y => wA_135 z (by omega)) ?_; intro h19 V_h19 F_h19
  exact ok_rV V_h19
set_option maxRecDepth 4000 in
theorem vj_X11_proveState_139 {nn : Nat} (hn : 1000000 ≤ nn) {h : ms_M} (V_h : VS_ h) (N_h : VF_ h)  : Ok_ (qj_X11_proveState_139 nn h) (QI_ 0 12) := by
  unfold qj_X11_proveState_139
  have T1 := gF_127_19 V_h
  refine ok_if ?_ ?_
  · intro C1
    exact ok_rI V_h (by omega) (by omega)
  · intro C1
    exact ok_rI V_h (by omega) (by omega)
set_option maxRecDepth 4000 in
theorem vj_X11_proveState_136 {nn : Nat} (hn : 1000000 ≤ nn) {s0 : Int} {h : ms_M} (a_s0 : 0 ≤ s0) (b_s0 : s0 ≤ 1) (V_h : VS_ h) (N_h : VF_ h)  : Ok_ (qj_X11_proveState_136 nn s0 h) (QI_ 0 12) := by
  unfold qj_X11_proveState_136
  refine ok_ck (by omega) ?_
  refine ok_xl ?_; intro h4 E_h4; have V_h4 : VS_ h4 := by rw [E_h4]; exact wF_127_19 V_h (by omega)
  have N_h4 : VF_ h4 := by rw [E_h4]; exact vf_up V_h N_h rfl
  exact vj_X11_proveState_139 hn V_h4 N_h4
set_option maxRecDepth 4000 in
theorem vj_X11_proveState_135 {nn : Nat} (hn : 1000000 ≤ nn) {h : ms_M} (V_h : VS_ h) (N_h : VF_ h)  : Ok_ (qj_X11_proveState_135 nn h) (QI_ 0 12) := by
  unfold qj_X11_proveState_135
  exact vj_X11_proveState_136 hn (by omega) (by omega) V_h N_h
set_option maxRecDepth 4000 in
theorem vj_X11_proveState_46 {nn : Nat} (hn : 1000000 ≤ nn) {l1 : Int} {l2 : Int} {h : ms_M} (a_l1 : 0 ≤ l1) (b_l1 : l1 ≤ 1499) (a_l2 : 0 ≤ l2) (b_l2 : l2 ≤ 255) (V_h : VS_ h) (N_h : VF_ h)  : Ok_ (qj_X11_proveState_46 nn l1 l2 h) (QI_ 0 12) := by
  unfold qj_X11_proveState_46
  refine ok_cP (vf_X11_fitsHandlers hn (by omega) (by omega) V_h N_h) ?_; intro u6 e_u6 a_u6 b_u6
  refine ok_if ?_ ?_
  · intro C0
    refine ok_add (by omega) ?_; intro v7 e_v7
    refine ok_cP (vf_X11_codeAt hn (by omega) (by omega) V_h) ?_; intro u9 e_u9 a_u9 b_u9
    refine ok_cP (vf_X11_isConstantRight hn (by omega) (by omega) (by omega) (by omega) V_h) ?_; intro u11 e_u11 a_u11 b_u11
    refine ok_if ?_ ?_
    · intro C1
      refine ok_xl ?_; intro h12 E_h12; have V_h12 : VS_ h12 := by rw [E_h12]; exact wF_127_19 V_h (by omega)
      have N_h12 : VF_ h12 := by rw [E_h12]; exact vf_up V_h N_h rfl
      have T3 : h12 127 19 = 1 := by rw [E_h12]; exact up_s
      refine ok_cV (vf_X11_applySimple hn (by omega) (by omega) (by omega) (by omega) V_h12) ?_; intro u14 E_u14 V_u14
      have N_u14 : VF_ u14 := vf_fr V_h12 N_h12 (fun c k z => (ff_X11_applySimple nn) _ E_u14 c k z) rfl
      refine ok_cP (vf_X11_isJump hn (by omega) (by omega) V_u14) ?_; intro u15 e_u15 a_u15 b_u15
      refine ok_if ?_ ?_
      · intro C3
        exact vj_X11_proveState_139 hn V_u14 N_u14
      · intro C3
        have T5 := gF_127_19 V_u14
        refine ok_if ?_ ?_
        · intro C5
          exact vj_X11_proveState_139 hn V_u14 N_u14
        · intro C5
          refine ok_cP (vf_X11_aimOf hn (by omega) (by omega) V_u14) ?_; intro u18 e_u18 a_u18 b_u18
          refine ok_cP (vf_X11_frameAt hn (by omega) (by omega) V_u14) ?_; intro u20 e_u20 a_u20 b_u20
          have T7 := lm_frameAt V_u14 N_u14.2 e_u20
          refine ok_if ?_ ?_
          · intro C7
            exact vj_X11_proveState_135 hn V_u14 N_u14
          · intro C7
            refine ok_cP (vf_X11_fitsFrame hn (by omega) (by omega) V_u14 (by omega) (by omega)) ?_; intro u22 e_u22 a_u22 b_u22
            refine ok_if ?_ ?_
            · intro C8
              exact vj_X11_proveState_135 hn V_u14 N_u14
            · intro C8
              exact vj_X11_proveState_136 hn (by omega) (by omega) V_u14 N_u14
    · intro C1
      exact ok_rI V_h (by omega) (by omega)
  · intro C0
    exact ok_rI V_h (by omega) (by omega)
set_option maxRecDepth 4000 in
theorem vj_X11_proveState_40 {nn : Nat} (hn : 1000000 ≤ nn) {l1 : Int} {l2 : Int} {l4 : Int} {h : ms_M} (a_l1 : 0 ≤ l1) (b_l1 : l1 ≤ 1499) (a_l2 : 0 ≤ l2) (b_l2 : l2 ≤ 255) (a_l4 : 0 ≤ l4) (b_l4 : l4 ≤ 99) (V_h : VS_ h) (x_0 : l4 < 0 ∨ ((0 ≤ h 133 (l4 * 64 + 1).toNat ∧ h 133 (l4 * 64 + 1).toNat ≤ 30) ∧ (0 ≤ h 133 (l4 * 64 + 2).toNat ∧ h 133 (l4 * 64 + 2).toNat ≤ 30))) (N_h : VF_ h)  : Ok_ (qj_X11_proveState_40 nn l1 l2 l4 h) (QI_ 0 12) := by
  unfold qj_X11_proveState_40
  refine ok_cV (vf_X11_takeFrame hn (by omega) (by omega) V_h (by omega) (by omega)) ?_; intro u30 E_u30 V_u30
  have N_u30 : VF_ u30 := vf_fr V_h N_h (fun c k z => (ff_X11_takeFrame nn) _ E_u30 c k z) rfl
  have T1 : u30 133 (l4 * 64 + 1).toNat = h 133 (l4 * 64 + 1).toNat := (ff_X11_takeFrame nn) _ E_u30 133 (l4 * 64 + 1).toNat (nw_ar rfl _)
  have T2 : u30 133 (l4 * 64 + 2).toNat = h 133 (l4 * 64 + 2).toNat := (ff_X11_takeFrame nn) _ E_u30 133 (l4 * 64 + 2).toNat (nw_ar rfl _)
  exact vj_X11_proveState_46 hn (by omega) (by omega) (by omega) (by omega) V_u30 N_u30
set_option maxRecDepth 4000 in
theorem vj_X11_proveState_19 {nn : Nat} (hn : 1000000 ≤ nn) {l1 : Int} {l2 : Int} {l3 : Int} {l4 : Int} {h : ms_M} (a_l1 : 0 ≤ l1) (b_l1 : l1 ≤ 1499) (a_l2 : 0 ≤ l2) (b_l2 : l2 ≤ 255) (a_l3 : 0 ≤ l3) (b_l3 : l3 ≤ 1) (a_l4 : (-2) ≤ l4) (b_l4 : l4 ≤ 99) (V_h : VS_ h) (x_0 : l4 < 0 ∨ ((0 ≤ h 133 (l4 * 64 + 1).toNat ∧ h 133 (l4 * 64 + 1).toNat ≤ 30) ∧ (0 ≤ h 133 (l4 * 64 + 2).toNat ∧ h 133 (l4 * 64 + 2).toNat ≤ 30))) (N_h : VF_ h)  : Ok_ (qj_X11_proveState_19 nn l1 l2 l3 l4 h) (QI_ 0 12) := by
  unfold qj_X11_proveState_19
  refine ok_if ?_ ?_
  · intro C0
    exact vj_X11_proveState_46 hn (by omega) (by omega) (by omega) (by omega) V_h N_h
  · intro C0
    refine ok_if ?_ ?_
    · intro C1
      exact vj_X11_proveState_40 hn (by omega) (by omega) (by omega) (by omega) (by omega) (by omega) V_h (by omega) N_h
    · intro C1
      refine ok_cP (vf_X11_fitsFrame hn (by omega) (by omega) V_h (by omega) (by omega)) ?_; intro u32 e_u32 a_u32 b_u32
      refine ok_if ?_ ?_
      · intro C2
        exact vj_X11_proveState_40 hn (by omega) (by omega) (by omega) (by omega) (by omega) (by omega) V_h (by omega) N_h
      · intro C2
        exact ok_rI V_h (by omega) (by omega)
set_option maxRecDepth 4000 in
theorem vf_X11_proveState {nn : Nat} (hn : 1000000 ≤ nn) {a1 : Int} {a2 : Int} {a3 : Int} {h : ms_M} (a_a1 : 0 ≤ a1) (b_a1 : a1 ≤ 1499) (a_a2 : 0 ≤ a2) (b_a2 : a2 ≤ 255) (a_a3 : 0 ≤ a3) (b_a3 : a3 ≤ 1) (V_h : VS_ h) (N_h : VF_ h)  : Ok_ (qf_X11_proveState nn a1 a2 a3 h) (QI_ 0 12) := by
  unfold qf_X11_proveState
  refine ok_cP (vf_X11_frameAt hn (by omega) (by omega) V_h) ?_; intro u37 e_u37 a_u37 b_u37
  have T1 := lm_frameAt V_h N_h.2 e_u37
  refine ok_if ?_ ?_
  · intro C1
    exact vj_X11_proveState_19 hn (by omega) (by omega) (by omega) (by omega) (by omega) (by omega) (by omega) (by omega) V_h (by omega) N_h
  · intro C1
    refine ok_if ?_ ?_
    · intro C2
      exact vj_X11_proveState_19 hn (by omega) (by omega) (by omega) (by omega) (by omega) (by omega) (by omega) (by omega) V_h (by omega) N_h
    · intro C2
      exact ok_rI V_h (by omega) (by omega)
set_option maxRecDepth 4000 in
theorem vj_X11_proveStates_52 {nn : Nat} (hn : 1000000 ≤ nn) {qkk_4 : Int → Int → ms_M → Option (Int × ms_M)} {K_kk_4 : Int} (hk_kk_4 : ∀ {l1 : Int} {l2 : Int} {h : ms_M} (a_l1 : 0 ≤ l1) (b_l1 : l1 ≤ 1) (a_l2 : 0 ≤ l2) (b_l2 : l2 ≤ 1503) (V_h : VS_ h) (N_h : VF_ h) (_ : 1504 - l2 < K_kk_4), Ok_ (qkk_4 l1 l2 h) (QI_ 0 12)) {l2 : Int} {l3 : Int} {s0 : Int} {h : ms_M} (a_l2 : 0 ≤ l2) (b_l2 : l2 ≤ 1499) (a_l3 : 0 ≤ l3) (b_l3 : l3 ≤ 255) (a_s0 : 0 ≤ s0) (b_s0 : s0 ≤ 1) (V_h : VS_ h) (N_h : VF_ h) (hm_kk_4 : 1504 - l2 + 0 ≤ K_kk_4) : Ok_ (qj_X11_proveStates_52 nn qkk_4 l2 l3 s0 h) (QI_ 0 12) := by
  unfold qj_X11_proveStates_52
  refine ok_cP (vf_X11_widthOf hn (by omega) (by omega) V_h) ?_; intro u1 e_u1 a_u1 b_u1
  refine ok_ite ?_; intro v2 e_v2
  refine ok_add (by omega) ?_; intro v3 e_v3
  exact hk_kk_4 (by omega) (by omega) (by omega) (by omega) V_h N_h (by omega)
set_option maxRecDepth 4000 in
theorem vw_X11_proveStates_4 {nn : Nat} (hn : 1000000 ≤ nn) : ∀ (k : Nat) {l1 : Int} {l2 : Int} {h : ms_M} (a_l1 : 0 ≤ l1) (b_l1 : l1 ≤ 1) (a_l2 : 0 ≤ l2) (b_l2 : l2 ≤ 1503) (V_h : VS_ h) (N_h : VF_ h)  (hm : 1504 - l2 < (k : Int)), Ok_ (qw_X11_proveStates_4 nn k l1 l2 h) (QI_ 0 12) := by
  intro k
  induction k with
  | zero => intros; exfalso; omega
  | succ k ih =>
    intro l1 l2 h a_l1 b_l1 a_l2 b_l2 V_h N_h hm
    unfold qw_X11_proveStates_4
    have T1 := gF_127_16 V_h
    refine ok_if ?_ ?_
    · intro C1
      refine ok_if ?_ ?_
      · intro C2
        exact ok_rI V_h (by omega) (by omega)
      · intro C2
        refine ok_cI (vf_X11_at hn (by omega) (by omega) (by omega) (by omega) V_h) ?_; intro u7 E_u7 V_u7 a_u7 b_u7
        have N_u7_2 : VF_ u7.2 := vf_fr V_h N_h (fun c k z => (ff_X11_at nn) _ E_u7 c k z) rfl
        exact ok_rI V_u7 (by omega) (by omega)
    · intro C1
      refine ok_cP (vf_X11_codeAt hn (by omega) (by omega) V_h) ?_; intro u10 e_u10 a_u10 b_u10
      refine ok_cI (vf_X11_proveState hn (by omega) (by omega) (by omega) (by omega) (by omega) (by omega) V_h N_h) ?_; intro u12 E_u12 V_u12 a_u12 b_u12
      have N_u12_2 : VF_ u12.2 := vf_fr V_h N_h (fun c k z => (ff_X11_proveState nn) _ E_u12 c k z) rfl
      refine ok_if ?_ ?_
      · intro C3
        refine ok_cP (vf_X11_isLast hn (by omega) (by omega) V_u12) ?_; intro u13 e_u13 a_u13 b_u13
        refine ok_if ?_ ?_
        · intro C4
          exact vj_X11_proveStates_52 hn ih (by omega) (by omega) (by omega) (by omega) (by omega) (by omega) V_u12 N_u12_2 (by omega)
        · intro C4
          exact vj_X11_proveStates_52 hn ih (by omega) (by omega) (by omega) (by omega) (by omega) (by omega) V_u12 N_u12_2 (by omega)
      · intro C3
        refine ok_cI (vf_X11_at hn (by omega) (by omega) (by omega) (by omega) V_u12) ?_; intro u16 E_u16 V_u16 a_u16 b_u16
        have N_u16_2 : VF_ u16.2 := vf_fr V_u12 N_u12_2 (fun c k z => (ff_X11_at nn) _ E_u16 c k z) rfl
        exact ok_rI V_u16 (by omega) (by omega)
set_option maxRecDepth 4000 in
theorem vf_X11_proveStates {nn : Nat} (hn : 1000000 ≤ nn) {h : ms_M} (V_h : VS_ h) (N_h : VF_ h)  : Ok_ (qf_X11_proveStates nn h) (QI_ 0 12) := by
  unfold qf_X11_proveStates
  exact vw_X11_proveStates_4 hn _ (by omega) (by omega) (by omega) (by omega) V_h N_h (by omega)
set_option maxRecDepth 4000 in
theorem vw_X7_fieldOf_31 {nn : Nat} (hn : 1000000 ≤ nn) {qkk_6 : Nat → Int → Int → Int → ms_M → Option Int} {K_kk_6 : Int} (hk_kk_6 : ∀ {l2 : Nat} {l3 : Int} {l4 : Int} {l5 : Int} {h : ms_M} (i_l2 : kc_O l2 = 3) (a_l3 : 0 ≤ l3) (b_l3 : l3 ≤ 255) (a_l4 : (-1) ≤ l4) (b_l4 : l4 ≤ 341) (a_l5 : 0 ≤ l5) (b_l5 : l5 ≤ 16) (V_h : VS_ h) (_ : 17 - l5 < K_kk_6), Ok_ (qkk_6 l2 l3 l4 l5 h) (QP_ (-1) 95)) : ∀ (k : Nat) {l2 : Nat} {l3 : Int} {l4 : Int} {l5 : Int} {l6 : Int} {l7 : Int} {h : ms_M} (i_l2 : kc_O l2 = 3) (a_l3 : 0 ≤ l3) (b_l3 : l3 ≤ 255) (a_l4 : 8 ≤ l4) (b_l4 : l4 ≤ 15) (a_l5 : 0 ≤ l5) (b_l5 : l5 ≤ 15) (n_l6 : 0 ≤ l6) (k_l6 : kc_O (l6).toNat = 3) (a_l7 : 0 ≤ l7) (b_l7 : l7 ≤ 12) (V_h : VS_ h) (hm_kk_6 : 17 - l5 + 0 ≤ K_kk_6) (hm : 13 - l7 < (k : Int)), Ok_ (qw_X7_fieldOf_31 nn qkk_6 k l2 l3 l4 l5 l6 l7 h) (QP_ (-1) 95) := by
  intro k
  induction k with
  | zero => intros; exfalso; omega
  | succ k ih =>
    intro l2 l3 l4 l5 l6 l7 h i_l2 a_l3 b_l3 a_l4 b_l4 a_l5 b_l5 n_l6 k_l6 a_l7 b_l7 V_h hm_kk_6 hm
    unfold qw_X7_fieldOf_31
    refine ok_ck n_l6 ?_
    have hb1 : kc_O (l6).toNat = 3 := k_l6
    refine ok_ck hb1 ?_
    have T1 := gI_10 V_h hb1
    refine ok_if ?_ ?_
    · intro C1
      refine ok_cP (vf_X4_above hn rfl (by omega) (by omega) V_h) ?_; intro u5 e_u5 a_u5 b_u5
      refine ok_add (by omega) ?_; intro v6 e_v6
      exact hk_kk_6 i_l2 (by omega) (by omega) (by omega) (by omega) (by omega) (by omega) V_h (by omega)
    · intro C1
      refine ok_cP (vf_X3_fieldName hn hb1 (by omega) (by omega) V_h) ?_; intro u8 e_u8 a_u8 b_u8
      refine ok_cP (vf_X3_sameText hn hb1 (by omega) (by omega) i_l2 (by omega) (by omega) V_h) ?_; intro u10 e_u10 a_u10 b_u10
      refine ok_if ?_ ?_
      · intro C2
        refine ok_add (by omega) ?_; intro v11 e_v11
        exact ih i_l2 (by omega) (by omega) (by omega) (by omega) (by omega) (by omega) (by omega) hb1 (by omega) (by omega) V_h (by omega) (by omega)
      · intro C2
        refine ok_cP (vf_X7_numberOf hn (by omega) (by omega) (by omega) (by omega) V_h) ?_; intro u13 e_u13 a_u13 b_u13
        exact ok_rP (by omega) (by omega)
set_option maxRecDepth 4000 in
theorem vw_X7_fieldOf_6 {nn : Nat} (hn : 1000000 ≤ nn) : ∀ (k : Nat) {l2 : Nat} {l3 : Int} {l4 : Int} {l5 : Int} {h : ms_M} (i_l2 : kc_O l2 = 3) (a_l3 : 0 ≤ l3) (b_l3 : l3 ≤ 255) (a_l4 : (-1) ≤ l4) (b_l4 : l4 ≤ 341) (a_l5 : 0 ≤ l5) (b_l5 : l5 ≤ 16) (V_h : VS_ h)  (hm : 17 - l5 < (k : Int)), Ok_ (qw_X7_fieldOf_6 nn k l2 l3 l4 l5 h) (QP_ (-1) 95) := by
  intro k
  induction k with
  | zero => intros; exfalso; omega
  | succ k ih =>
    intro l2 l3 l4 l5 h i_l2 a_l3 b_l3 a_l4 b_l4 a_l5 b_l5 V_h hm
    unfold qw_X7_fieldOf_6
    refine ok_if ?_ ?_
    · intro C0
      exact ok_rP (by omega) (by omega)
    · intro C0
      refine ok_cO (vf_X7_imageOf hn (by omega) (by omega) V_h) ?_; intro u17 e_u17 o_u17
      have T2 := po_X7_imageOf V_h e_u17
      refine ok_if ?_ ?_
      · intro C2
        exact ok_rP (by omega) (by omega)
      · intro C2
        exact vw_X7_fieldOf_31 hn ih _ i_l2 (by omega) (by omega) (by omega) (by omega) (by omega) (by omega) (by omega) (o_u17.resolve_left C2) (by omega) (by omega) V_h (by omega) (by omega)
set_option maxRecDepth 4000 in
theorem vf_X7_fieldOf {nn : Nat} (hn : 1000000 ≤ nn) {a1 : Int} {a2 : Nat} {a3 : Int} {h : ms_M} (a_a1 : (-1) ≤ a1) (b_a1 : a1 ≤ 303) (i_a2 : kc_O a2 = 3) (a_a3 : 0 ≤ a3) (b_a3 : a3 ≤ 255) (V_h : VS_ h)  : Ok_ (qf_X7_fieldOf nn a1 a2 a3 h) (QP_ (-1) 95) := by
  unfold qf_X7_fieldOf
  exact vw_X7_fieldOf_6 hn _ i_a2 (by omega) (by omega) (by omega) (by omega) (by omega) (by omega) V_h (by omega)
set_option maxRecDepth 4000 in
theorem vj_X11_takeMember_153 {nn : Nat} (hn : 1000000 ≤ nn) {l1 : Int} {l3 : Int} {l5 : Int} {s0 : Int} {s1 : Int} {h : ms_M} (a_l1 : 1 ≤ l1) (b_l1 : l1 ≤ 255) (a_l3 : 0 ≤ l3) (b_l3 : l3 ≤ 255) (a_l5 : 0 ≤ l5) (b_l5 : l5 ≤ 95) (a_s0 : (-1) ≤ s0) (b_s0 : s0 ≤ 65535) (n_s1 : 0 ≤ s1) (k_s1 : kc_O (s1).toNat = 3) (V_h : VS_ h)  : Ok_ (qj_X11_takeMember_153 nn l1 l3 l5 s0 s1 h) QV_ := by
  unfold qj_X11_takeMember_153
  refine ok_ck (vi_r V_h).2.1.1 ?_
  refine ok_ck n_s1 ?_
  have hb1 : kc_O (s1).toNat = 3 := k_s1
  refine ok_ck hb1 ?_
  refine ok_cP (vf_X3_sameText hn hb1 (by omega) (by omega) (vi_r V_h).2.1.2 (by omega) (by omega) V_h) ?_; intro u4 e_u4 a_u4 b_u4
  refine ok_if ?_ ?_
  · intro C0
    exact ok_rV V_h
  · intro C0
    refine ok_wA (by omega) ?_; intro h6 E_h6; have V_h6 : VS_ h6 := by rw [E_h6]; exact wA_129 V_h (by omega)
    refine ok_ck (vi_r V_h6).2.1.1 ?_
    refine ok_mul (by omega) ?_; intro v11 e_v11
    refine ok_cI (vf_X7_readKind hn (vi_r V_h6).2.1.2 (by omega) (by omega) (by omega) (by omega) V_h6) ?_; intro u13 E_u13 V_u13 a_u13 b_u13
    refine ok_wA (by omega) ?_; intro h14 E_h14; have V_h14 : VS_ h14 := by rw [E_h14]; exact wA_130 V_u13 (by omega)
    exact ok_rV V_h14
set_option maxRecDepth 4000 in
theorem vj_X11_takeMember_102 {nn : Nat} (hn : 1000000 ≤ nn) {l1 : Int} {l3 : Int} {l4 : Int} {s0 : Int} {h : ms_M} (a_l1 : 1 ≤ l1) (b_l1 : l1 ≤ 255) (a_l3 : 0 ≤ l3) (b_l3 : l3 ≤ 255) (a_l4 : 0 ≤ l4) (b_l4 : l4 ≤ 1) (a_s0 : (-1) ≤ s0) (b_s0 : s0 ≤ 95) (V_h : VS_ h)  : Ok_ (qj_X11_takeMember_102 nn l1 l3 l4 s0 h) QV_ := by
  unfold qj_X11_takeMember_102
  refine ok_cO (vf_X7_imageOfMember hn (by omega) (by omega) V_h) ?_; intro u18 e_u18 o_u18
  have T1 := po_X7_imageOfMember V_h e_u18
  refine ok_if ?_ ?_
  · intro C1
    exact ok_rV V_h
  · intro C1
    refine ok_rem (n := 12) (by omega) ?_; intro v21 e_v21
    refine ok_if ?_ ?_
    · intro C2
      have hb1 : kc_O (u18).toNat = 3 := (o_u18.resolve_left C1)
      refine ok_ck hb1 ?_
      refine ok_cP (vf_X3_fieldKind hn hb1 (by omega) (by omega) V_h) ?_; intro u23 e_u23 a_u23 b_u23
      exact vj_X11_takeMember_153 hn (by omega) (by omega) (by omega) (by omega) (by omega) (by omega) (by omega) (by omega) (by omega) hb1 V_h
    · intro C2
      have hb2 : kc_O (u18).toNat = 3 := (o_u18.resolve_left C1)
      refine ok_ck hb2 ?_
      refine ok_cP (vf_X3_of hn hb2 (by omega) (by omega) (by omega) (by omega) V_h) ?_; intro u25 e_u25 a_u25 b_u25
      exact vj_X11_takeMember_153 hn (by omega) (by omega) (by omega) (by omega) (by omega) (by omega) (by omega) (by omega) (by omega) hb2 V_h
set_option maxRecDepth 4000 in
theorem vj_X11_takeMember_50 {nn : Nat} (hn : 1000000 ≤ nn) {l1 : Int} {l2 : Int} {l3 : Int} {s0 : Int} {h : ms_M} (a_l1 : 1 ≤ l1) (b_l1 : l1 ≤ 255) (a_l2 : (-1) ≤ l2) (b_l2 : l2 ≤ 303) (a_l3 : 0 ≤ l3) (b_l3 : l3 ≤ 255) (a_s0 : 0 ≤ s0) (b_s0 : s0 ≤ 1) (V_h : VS_ h)  : Ok_ (qj_X11_takeMember_50 nn l1 l2 l3 s0 h) QV_ := by
  unfold qj_X11_takeMember_50
  refine ok_if ?_ ?_
  · intro C0
    refine ok_ck (vi_r V_h).2.1.1 ?_
    refine ok_ck (vi_r V_h).2.1.1 ?_
    have hb1 : kc_O (h 127 5).toNat = 3 := (vi_r V_h).2.1.2
    refine ok_ck hb1 ?_
    refine ok_cP (vf_X3_partOf hn hb1 (by omega) (by omega) (by omega) (by omega) V_h) ?_; intro u31 e_u31 a_u31 b_u31
    refine ok_cP (vf_X7_fieldOf hn (by omega) (by omega) hb1 (by omega) (by omega) V_h) ?_; intro u33 e_u33 a_u33 b_u33
    exact vj_X11_takeMember_102 hn (by omega) (by omega) (by omega) (by omega) (by omega) (by omega) (by omega) (by omega) V_h
  · intro C0
    refine ok_ck (vi_r V_h).2.1.1 ?_
    refine ok_ck (vi_r V_h).2.1.1 ?_
    have hb2 : kc_O (h 127 5).toNat = 3 := (vi_r V_h).2.1.2
    refine ok_ck hb2 ?_
    refine ok_cP (vf_X3_partOf hn hb2 (by omega) (by omega) (by omega) (by omega) V_h) ?_; intro u38 e_u38 a_u38 b_u38
    refine ok_cP (vf_X7_methodOf hn (by omega) (by omega) hb2 (by omega) (by omega) V_h) ?_; intro u40 e_u40 a_u40 b_u40
    exact vj_X11_takeMember_102 hn (by omega) (by omega) (by omega) (by omega) (by omega) (by omega) (by omega) (by omega) V_h
set_option maxRecDepth 4000 in
theorem vf_X11_takeMember {nn : Nat} (hn : 1000000 ≤ nn) {a1 : Int} {h : ms_M} (a_a1 : 1 ≤ a1) (b_a1 : a1 ≤ 255) (V_h : VS_ h)  : Ok_ (qf_X11_takeMember nn a1 h) QV_ := by
  unfold qf_X11_takeMember
  refine ok_ck (vi_r V_h).2.1.1 ?_
  have hb1 : kc_O (h 127 5).toNat = 3 := (vi_r V_h).2.1.2
  refine ok_ck hb1 ?_
  refine ok_cP (vf_X3_partOf hn hb1 (by omega) (by omega) (by omega) (by omega) V_h) ?_; intro u45 e_u45 a_u45 b_u45
  refine ok_rd (by omega) (gA_128 V_h) ?_; intro v46 e_v46 a_v46 b_v46
  refine ok_ck (vi_r V_h).2.1.1 ?_
  refine ok_cP (vf_X3_partOf hn hb1 (by omega) (by omega) (by omega) (by omega) V_h) ?_; intro u49 e_u49 a_u49 b_u49
  refine ok_ck (vi_r V_h).2.1.1 ?_
  refine ok_ck (vi_r V_h).2.1.1 ?_
  refine ok_cP (vf_X3_textAt hn hb1 (by omega) (by omega) V_h) ?_; intro u53 e_u53 a_u53 b_u53
  refine ok_cP (vf_X3_byteAt hn hb1 (by omega) (by omega) V_h) ?_; intro u55 e_u55 a_u55 b_u55
  refine ok_if ?_ ?_
  · intro C0
    exact vj_X11_takeMember_50 hn (by omega) (by omega) (by omega) (by omega) (by omega) (by omega) (by omega) (by omega) V_h
  · intro C0
    exact vj_X11_takeMember_50 hn (by omega) (by omega) (by omega) (by omega) (by omega) (by omega) (by omega) (by omega) V_h
set_option maxRecDepth 4000 in
theorem vf_X7_typeOfClass {nn : Nat} (hn : 1000000 ≤ nn) {a1 : Nat} {a2 : Int} {h : ms_M} (i_a1 : kc_O a1 = 3) (a_a2 : 0 ≤ a2) (b_a2 : a2 ≤ 255) (V_h : VS_ h)  : Ok_ (qf_X7_typeOfClass nn a1 a2 h) (QP_ (-1) 303) := by
  unfold qf_X7_typeOfClass
  have hb1 : kc_O a1 = 3 := i_a1
  refine ok_ck hb1 ?_
  refine ok_cP (vf_X3_partOf hn hb1 (by omega) (by omega) (by omega) (by omega) V_h) ?_; intro u2 e_u2 a_u2 b_u2
  refine ok_cP (vf_X3_textAt hn hb1 (by omega) (by omega) V_h) ?_; intro u4 e_u4 a_u4 b_u4
  refine ok_cP (vf_X3_textEnd hn hb1 (by omega) (by omega) V_h) ?_; intro u6 e_u6 a_u6 b_u6
  refine ok_cP (vf_X3_byteAt hn hb1 (by omega) (by omega) V_h) ?_; intro u8 e_u8 a_u8 b_u8
  refine ok_if ?_ ?_
  · intro C0
    refine ok_cP (vf_X7_classOf hn hb1 (by omega) (by omega) (by omega) (by omega) V_h) ?_; intro u10 e_u10 a_u10 b_u10
    exact ok_rP (by omega) (by omega)
  · intro C0
    refine ok_cP (vf_X7_typeOfKind hn hb1 (by omega) (by omega) (by omega) (by omega) V_h) ?_; intro u12 e_u12 a_u12 b_u12
    exact ok_rP (by omega) (by omega)
set_option maxRecDepth 4000 in
theorem vw_X11_takeConstants_55 {nn : Nat} (hn : 1000000 ≤ nn) : ∀ (k : Nat) {l1 : Int} {h : ms_M} (a_l1 : 1 ≤ l1) (b_l1 : l1 ≤ 256) (V_h : VS_ h)  (hm : 257 - l1 < (k : Int)), Ok_ (qw_X11_takeConstants_55 nn k l1 h) QV_ := by
  intro k
  induction k with
  | zero => intros; exfalso; omega
  | succ k ih =>
    intro l1 h a_l1 b_l1 V_h hm
    unfold qw_X11_takeConstants_55
    refine ok_ck (vi_r V_h).2.1.1 ?_
    have hb1 : kc_O (h 127 5).toNat = 3 := (vi_r V_h).2.1.2
    refine ok_ck hb1 ?_
    have T1 := gI_7 V_h hb1
    refine ok_if ?_ ?_
    · intro C1
      exact ok_rV V_h
    · intro C1
      refine ok_wA (by omega) ?_; intro h4 E_h4; have V_h4 : VS_ h4 := by rw [E_h4]; exact wA_129 V_h (by omega)
      refine ok_ck (vi_r V_h4).2.1.1 ?_
      have hb2 : kc_O (h4 127 5).toNat = 3 := (vi_r V_h4).2.1.2
      refine ok_ck hb2 ?_
      refine ok_cP (vf_X3_tagOf hn hb2 (by omega) (by omega) V_h4) ?_; intro u7 e_u7 a_u7 b_u7
      refine ok_if ?_ ?_
      · intro C2
        refine ok_add (by omega) ?_; intro v8 e_v8
        exact ih (by omega) (by omega) V_h4 (by omega)
      · intro C2
        refine ok_cV (vf_X11_takeMember hn (by omega) (by omega) V_h4) ?_; intro u10 E_u10 V_u10
        refine ok_add (by omega) ?_; intro v11 e_v11
        exact ih (by omega) (by omega) V_u10 (by omega)
set_option maxRecDepth 4000 in
theorem vw_X11_takeConstants_2 {nn : Nat} (hn : 1000000 ≤ nn) : ∀ (k : Nat) {l1 : Int} {h : ms_M} (a_l1 : 1 ≤ l1) (b_l1 : l1 ≤ 256) (V_h : VS_ h)  (hm : 257 - l1 < (k : Int)), Ok_ (qw_X11_takeConstants_2 nn k l1 h) QV_ := by
  intro k
  induction k with
  | zero => intros; exfalso; omega
  | succ k ih =>
    intro l1 h a_l1 b_l1 V_h hm
    unfold qw_X11_takeConstants_2
    refine ok_ck (vi_r V_h).2.1.1 ?_
    have hb1 : kc_O (h 127 5).toNat = 3 := (vi_r V_h).2.1.2
    refine ok_ck hb1 ?_
    have T1 := gI_7 V_h hb1
    refine ok_if ?_ ?_
    · intro C1
      exact vw_X11_takeConstants_55 hn _ (by omega) (by omega) V_h (by omega)
    · intro C1
      refine ok_ck (vi_r V_h).2.1.1 ?_
      refine ok_cP (vf_X3_tagOf hn hb1 (by omega) (by omega) V_h) ?_; intro u19 e_u19 a_u19 b_u19
      refine ok_if ?_ ?_
      · intro C2
        refine ok_wA (by omega) ?_; intro h20 E_h20; have V_h20 : VS_ h20 := by rw [E_h20]; exact wA_128 V_h (by omega)
        refine ok_add (by omega) ?_; intro v21 e_v21
        exact ih (by omega) (by omega) V_h20 (by omega)
      · intro C2
        refine ok_ck (vi_r V_h).2.1.1 ?_
        refine ok_cP (vf_X7_typeOfClass hn hb1 (by omega) (by omega) V_h) ?_; intro u25 e_u25 a_u25 b_u25
        refine ok_wA (by omega) ?_; intro h26 E_h26; have V_h26 : VS_ h26 := by rw [E_h26]; exact wA_128 V_h (by omega)
        refine ok_add (by omega) ?_; intro v27 e_v27
        exact ih (by omega) (by omega) V_h26 (by omega)
set_option maxRecDepth 4000 in
theorem vf_X11_takeConstants {nn : Nat} (hn : 1000000 ≤ nn) {h : ms_M} (V_h : VS_ h)  : Ok_ (qf_X11_takeConstants nn h) QV_ := by
  unfold qf_X11_takeConstants
  exact vw_X11_takeConstants_2 hn _ (by omega) (by omega) V_h (by omega)
set_option maxRecDepth 4000 in
theorem vf_X11_typeOfTag {nn : Nat} (hn : 1000000 ≤ nn) {a1 : Int} {a2 : Int} {h : ms_M} (a_a1 : 0 ≤ a1) (b_a1 : a1 ≤ 255) (a_a2 : 0 ≤ a2) (b_a2 : a2 ≤ 255) (V_h : VS_ h)  : Ok_ (qf_X11_typeOfTag nn a1 a2 h) (QP_ (-1) 304) := by
  unfold qf_X11_typeOfTag
  refine ok_if ?_ ?_
  · intro C0
    exact ok_rP (by omega) (by omega)
  · intro C0
    refine ok_if ?_ ?_
    · intro C1
      exact ok_rP (by omega) (by omega)
    · intro C1
      refine ok_if ?_ ?_
      · intro C2
        exact ok_rP (by omega) (by omega)
      · intro C2
        refine ok_rd (by omega) (gA_128 V_h) ?_; intro v2 e_v2 a_v2 b_v2
        exact ok_rP (by omega) (by omega)
set_option maxRecDepth 4000 in
theorem vj_X11_takeTypes_80 {nn : Nat} (hn : 1000000 ≤ nn) {qkk_17 : Int → Int → Int → Int → ms_M → Option (Int × ms_M)} {K_kk_17 : Int} (hk_kk_17 : ∀ {l2 : Int} {l3 : Int} {l4 : Int} {l5 : Int} {h : ms_M} (a_l2 : 0 ≤ l2) (b_l2 : l2 ≤ 6369) (a_l3 : 0 ≤ l3) (b_l3 : l3 ≤ 255) (a_l4 : 0 ≤ l4) (b_l4 : l4 ≤ 210000) (a_l5 : 0 ≤ l5) (b_l5 : l5 ≤ 255) (V_h : VS_ h) (x_0 : l4 ≤ 200020 + 2 * l5) (_ : 256 - l5 < K_kk_17), Ok_ (qkk_17 l2 l3 l4 l5 h) (QIR_ 0 210000 (fun u r => (u ≤ l4 + 2 * (255 - l5))))) {l2 : Int} {l3 : Int} {l5 : Int} {s0 : Int} {s1 : Int} {h : ms_M} (a_l2 : 0 ≤ l2) (b_l2 : l2 ≤ 6369) (a_l3 : 0 ≤ l3) (b_l3 : l3 ≤ 255) (a_l5 : 0 ≤ l5) (b_l5 : l5 ≤ 254) (a_s0 : 1 ≤ s0) (b_s0 : s0 ≤ 2) (a_s1 : 0 ≤ s1) (b_s1 : s1 ≤ 210000) (V_h : VS_ h) (x_0 : l5 ≤ 254) (x_1 : s1 ≤ 200020 + 2 * l5) (hm_kk_17 : 256 - l5 + 0 ≤ K_kk_17) : Ok_ (qj_X11_takeTypes_80 nn qkk_17 l2 l3 l5 s0 s1 h) (QIR_ 0 210000 (fun u r => (u ≤ s1 + s0 + 2 * (254 - l5)))) := by
  unfold qj_X11_takeTypes_80
  refine ok_add (by omega) ?_; intro v1 e_v1
  refine ok_add (by omega) ?_; intro v2 e_v2
  exact ok_mI (hk_kk_17 (by omega) (by omega) (by omega) (by omega) (by omega) (by omega) (by omega) (by omega) V_h (by omega) (by omega)) (fun _ _ V_r R_r => by omega)
set_option maxRecDepth 4000 in
theorem vj_X11_takeTypes_67 {nn : Nat} (hn : 1000000 ≤ nn) {qkk_17 : Int → Int → Int → Int → ms_M → Option (Int × ms_M)} {K_kk_17 : Int} (hk_kk_17 : ∀ {l2 : Int} {l3 : Int} {l4 : Int} {l5 : Int} {h : ms_M} (a_l2 : 0 ≤ l2) (b_l2 : l2 ≤ 6369) (a_l3 : 0 ≤ l3) (b_l3 : l3 ≤ 255) (a_l4 : 0 ≤ l4) (b_l4 : l4 ≤ 210000) (a_l5 : 0 ≤ l5) (b_l5 : l5 ≤ 255) (V_h : VS_ h) (x_0 : l4 ≤ 200020 + 2 * l5) (_ : 256 - l5 < K_kk_17), Ok_ (qkk_17 l2 l3 l4 l5 h) (QIR_ 0 210000 (fun u r => (u ≤ l4 + 2 * (255 - l5))))) {l2 : Int} {l3 : Int} {l4 : Int} {l5 : Int} {l6 : Int} {h : ms_M} (a_l2 : 0 ≤ l2) (b_l2 : l2 ≤ 6369) (a_l3 : 0 ≤ l3) (b_l3 : l3 ≤ 255) (a_l4 : 0 ≤ l4) (b_l4 : l4 ≤ 210000) (a_l5 : 0 ≤ l5) (b_l5 : l5 ≤ 254) (a_l6 : 0 ≤ l6) (b_l6 : l6 ≤ 255) (V_h : VS_ h) (x_0 : l5 ≤ 254) (x_1 : l4 ≤ 200020 + 2 * l5) (hm_kk_17 : 256 - l5 + 0 ≤ K_kk_17) : Ok_ (qj_X11_takeTypes_67 nn qkk_17 l2 l3 l4 l5 l6 h) (QIR_ 0 210000 (fun u r => (u ≤ l4 + 2 + 2 * (254 - l5)))) := by
  unfold qj_X11_takeTypes_67
  refine ok_if ?_ ?_
  · intro C0
    exact ok_mI (vj_X11_takeTypes_80 hn hk_kk_17 (by omega) (by omega) (by omega) (by omega) (by omega) (by omega) (by omega) (by omega) (by omega) (by omega) V_h (by omega) (by omega) (by omega)) (fun _ _ V_r R_r => by omega)
  · intro C0
    exact ok_mI (vj_X11_takeTypes_80 hn hk_kk_17 (by omega) (by omega) (by omega) (by omega) (by omega) (by omega) (by omega) (by omega) (by omega) (by omega) V_h (by omega) (by omega) (by omega)) (fun _ _ V_r R_r => by omega)
set_option maxRecDepth 4000 in
theorem vw_X11_takeTypes_17 {nn : Nat} (hn : 1000000 ≤ nn) : ∀ (k : Nat) {l2 : Int} {l3 : Int} {l4 : Int} {l5 : Int} {h : ms_M} (a_l2 : 0 ≤ l2) (b_l2 : l2 ≤ 6369) (a_l3 : 0 ≤ l3) (b_l3 : l3 ≤ 255) (a_l4 : 0 ≤ l4) (b_l4 : l4 ≤ 210000) (a_l5 : 0 ≤ l5) (b_l5 : l5 ≤ 255) (V_h : VS_ h) (x_0 : l4 ≤ 200020 + 2 * l5)  (hm : 256 - l5 < (k : Int)), Ok_ (qw_X11_takeTypes_17 nn k l2 l3 l4 l5 h) (QIR_ 0 210000 (fun u r => (u ≤ l4 + 2 * (255 - l5)))) := by
  intro k
  induction k with
  | zero => intros; exfalso; omega
  | succ k ih =>
    intro l2 l3 l4 l5 h a_l2 b_l2 a_l3 b_l3 a_l4 b_l4 a_l5 b_l5 V_h x_0 hm
    unfold qw_X11_takeTypes_17
    refine ok_if ?_ ?_
    · intro C0
      exact ok_rIR V_h (by omega) (by omega) (by omega)
    · intro C0
      refine ok_ck (vi_r V_h).2.1.1 ?_
      have hb1 : kc_O (h 127 5).toNat = 3 := (vi_r V_h).2.1.2
      refine ok_ck hb1 ?_
      refine ok_cP (vf_X3_byteAt hn hb1 (by omega) (by omega) V_h) ?_; intro u6 e_u6 a_u6 b_u6
      refine ok_if ?_ ?_
      · intro C1
        exact ok_mI (vj_X11_takeTypes_67 hn ih (by omega) (by omega) (by omega) (by omega) (by omega) (by omega) (by omega) (by omega) (by omega) (by omega) V_h (by omega) (by omega) (by omega)) (fun _ _ V_r R_r => by omega)
      · intro C1
        refine ok_add (by omega) ?_; intro v8 e_v8
        refine ok_ck (vi_r V_h).2.1.1 ?_
        refine ok_add (by omega) ?_; intro v10 e_v10
        refine ok_cP (vf_X3_byteAt hn hb1 (by omega) (by omega) V_h) ?_; intro u12 e_u12 a_u12 b_u12
        refine ok_cP (vf_X11_typeOfTag hn (by omega) (by omega) (by omega) (by omega) V_h) ?_; intro u14 e_u14 a_u14 b_u14
        refine ok_wA (by omega) ?_; intro h15 E_h15; have V_h15 : VS_ h15 := by rw [E_h15]; exact wA_133 V_h (by omega)
        exact ok_mI (vj_X11_takeTypes_67 hn ih (by omega) (by omega) (by omega) (by omega) (by omega) (by omega) (by omega) (by omega) (by omega) (by omega) V_h15 (by omega) (by omega) (by omega)) (fun _ _ V_r R_r => by omega)
set_option maxRecDepth 4000 in
theorem vf_X11_takeTypes {nn : Nat} (hn : 1000000 ≤ nn) {a1 : Int} {a2 : Int} {h : ms_M} (a_a1 : 0 ≤ a1) (b_a1 : a1 ≤ 200010) (a_a2 : 0 ≤ a2) (b_a2 : a2 ≤ 6369) (V_h : VS_ h)  : Ok_ (qf_X11_takeTypes nn a1 a2 h) (QIR_ 0 210000 (fun u r => (u ≤ a1 + 511))) := by
  unfold qf_X11_takeTypes
  refine ok_ck (vi_r V_h).2.1.1 ?_
  have hb1 : kc_O (h 127 5).toNat = 3 := (vi_r V_h).2.1.2
  refine ok_ck hb1 ?_
  refine ok_cP (vf_X3_byteAt hn hb1 (by omega) (by omega) V_h) ?_; intro u20 e_u20 a_u20 b_u20
  refine ok_add (by omega) ?_; intro v21 e_v21
  exact ok_mI (vw_X11_takeTypes_17 hn _ (by omega) (by omega) (by omega) (by omega) (by omega) (by omega) (by omega) (by omega) V_h (by omega) (by omega)) (fun _ _ V_r R_r => by omega)
set_option maxRecDepth 4000 in
theorem vw_X11_takeFrames_9 {nn : Nat} (hn : 1000000 ≤ nn) : ∀ (k : Nat) {l1 : Int} {l2 : Int} {l3 : Int} {h : ms_M} (a_l1 : 0 ≤ l1) (b_l1 : l1 ≤ 1) (a_l2 : (-1) ≤ l2) (b_l2 : l2 ≤ 200000) (a_l3 : 0 ≤ l3) (b_l3 : l3 ≤ 100) (V_h : VS_ h) (x_0 : l2 ≤ 70000 + 1100 * l3) (N_h : VG_ h)  (hm : 101 - l3 < (k : Int)), Ok_ (qw_X11_takeFrames_9 nn k l1 l2 l3 h) QV_ := by
  intro k
  induction k with
  | zero => intros; exfalso; omega
  | succ k ih =>
    intro l1 l2 l3 h a_l1 b_l1 a_l2 b_l2 a_l3 b_l3 V_h x_0 N_h hm
    unfold qw_X11_takeFrames_9
    refine ok_cP (vf_X11_info hn (by omega) (by omega) V_h) ?_; intro u2 e_u2 a_u2 b_u2
    have T1 := lm_info9 V_h N_h e_u2
    refine ok_if ?_ ?_
    · intro C1
      exact ok_rV V_h
    · intro C1
      refine ok_if ?_ ?_
      · intro C2
        exact ok_rV V_h
      · intro C2
        refine ok_mul (by omega) ?_; intro v3 e_v3
        refine ok_ck (vi_r V_h).2.1.1 ?_
        have hb1 : kc_O (h 127 5).toNat = 3 := (vi_r V_h).2.1.2
        refine ok_ck hb1 ?_
        refine ok_cP (vf_X3_pairAt hn hb1 (by omega) (by omega) V_h) ?_; intro u6 e_u6 a_u6 b_u6
        refine ok_wA (by omega) ?_; intro h8 E_h8; have V_h8 : VS_ h8 := by rw [E_h8]; exact wA_133 V_h (by omega)
        have N_h8 : VG_ h8 := by rw [E_h8]; exact vg_ua V_h N_h rfl
        refine ok_add (by omega) ?_; intro v10 e_v10
        refine ok_ck (vi_r V_h8).2.1.1 ?_
        refine ok_add (by omega) ?_; intro v12 e_v12
        have hb2 : kc_O (h8 127 5).toNat = 3 := (vi_r V_h8).2.1.2
        refine ok_ck hb2 ?_
        refine ok_cP (vf_X3_byteAt hn hb2 (by omega) (by omega) V_h8) ?_; intro u14 e_u14 a_u14 b_u14
        refine ok_wA (by omega) ?_; intro h15 E_h15; have V_h15 : VS_ h15 := by rw [E_h15]; exact wA_133 V_h8 (by omega)
        have N_h15 : VG_ h15 := by rw [E_h15]; exact vg_ua V_h8 N_h8 rfl
        refine ok_add (by omega) ?_; intro v16 e_v16
        refine ok_add (by omega) ?_; intro v17 e_v17
        refine ok_cIR (vf_X11_takeTypes hn (by omega) (by omega) (by omega) (by omega) V_h15) ?_; intro u19 E_u19 V_u19 a_u19 b_u19 R_u19
        have N_u19_2 : VG_ u19.2 := vg_fr V_h15 N_h15 (fun c k z => (ff_X11_takeTypes nn) _ E_u19 c k z) rfl
        refine ok_add (by omega) ?_; intro v21 e_v21
        refine ok_ck (vi_r V_u19).2.1.1 ?_
        have hb3 : kc_O (u19.2 127 5).toNat = 3 := (vi_r V_u19).2.1.2
        refine ok_ck hb3 ?_
        refine ok_cP (vf_X3_byteAt hn hb3 (by omega) (by omega) V_u19) ?_; intro u24 e_u24 a_u24 b_u24
        refine ok_wA (by omega) ?_; intro h25 E_h25; have V_h25 : VS_ h25 := by rw [E_h25]; exact wA_133 V_u19 (by omega)
        have N_h25 : VG_ h25 := by rw [E_h25]; exact vg_ua V_u19 N_u19_2 rfl
        refine ok_add (by omega) ?_; intro v26 e_v26
        refine ok_cIR (vf_X11_takeTypes hn (by omega) (by omega) (by omega) (by omega) V_h25) ?_; intro u28 E_u28 V_u28 a_u28 b_u28 R_u28
        have N_u28_2 : VG_ u28.2 := vg_fr V_h25 N_h25 (fun c k z => (ff_X11_takeTypes nn) _ E_u28 c k z) rfl
        refine ok_cP (vf_X11_begins hn (by omega) (by omega) V_u28) ?_; intro u30 e_u30 a_u30 b_u30
        have T4 := pr_X11_begins e_u30
        refine ok_if ?_ ?_
        · intro C4
          refine ok_add (by omega) ?_; intro v31 e_v31
          exact ih (by omega) (by omega) (by omega) (by omega) (by omega) (by omega) V_u28 (by omega) N_u28_2 (by omega)
        · intro C4
          refine ok_rd (by omega) (gA_132 V_u28) ?_; intro v33 e_v33 a_v33 b_v33
          refine ok_if ?_ ?_
          · intro C5
            refine ok_add (by omega) ?_; intro v34 e_v34
            exact ih (by omega) (by omega) (by omega) (by omega) (by omega) (by omega) V_u28 (by omega) N_u28_2 (by omega)
          · intro C5
            refine ok_wA (by omega) ?_; intro h36 E_h36; have V_h36 : VS_ h36 := by rw [E_h36]; exact wA_132 V_u28 (by omega)
            have N_h36 : VG_ h36 := by rw [E_h36]; exact vg_ua V_u28 N_u28_2 rfl
            refine ok_add (by omega) ?_; intro v37 e_v37
            exact ih (by omega) (by omega) (by omega) (by omega) (by omega) (by omega) V_h36 (by omega) N_h36 (by omega)
set_option maxRecDepth 4000 in
theorem vf_X11_takeFrames {nn : Nat} (hn : 1000000 ≤ nn) {a1 : Int} {h : ms_M} (a_a1 : 0 ≤ a1) (b_a1 : a1 ≤ 1) (V_h : VS_ h) (N_h : VG_ h)  : Ok_ (qf_X11_takeFrames nn a1 h) QV_ := by
  unfold qf_X11_takeFrames
  refine ok_cP (vf_X11_info hn (by omega) (by omega) V_h) ?_; intro u43 e_u43 a_u43 b_u43
  exact vw_X11_takeFrames_9 hn _ (by omega) (by omega) (by omega) (by omega) (by omega) (by omega) V_h (by omega) N_h (by omega)
set_option maxRecDepth 4000 in
theorem vw_X7_cellsAbove_7 {nn : Nat} (hn : 1000000 ≤ nn) : ∀ (k : Nat) {l2 : Int} {l3 : Int} {l4 : Int} {h : ms_M} (a_l2 : 0 ≤ l2) (b_l2 : l2 ≤ 192) (a_l3 : (-1) ≤ l3) (b_l3 : l3 ≤ 341) (a_l4 : 0 ≤ l4) (b_l4 : l4 ≤ 16) (V_h : VS_ h) (x_0 : l2 ≤ 12 * l4)  (hm : 17 - l4 < (k : Int)), Ok_ (qw_X7_cellsAbove_7 nn k l2 l3 l4 h) (QP_ 0 192) := by
  intro k
  induction k with
  | zero => intros; exfalso; omega
  | succ k ih =>
    intro l2 l3 l4 h a_l2 b_l2 a_l3 b_l3 a_l4 b_l4 V_h x_0 hm
    unfold qw_X7_cellsAbove_7
    refine ok_if ?_ ?_
    · intro C0
      exact ok_rP (by omega) (by omega)
    · intro C0
      refine ok_cO (vf_X7_imageOf hn (by omega) (by omega) V_h) ?_; intro u2 e_u2 o_u2
      have T2 := po_X7_imageOf V_h e_u2
      refine ok_if ?_ ?_
      · intro C2
        exact ok_rP (by omega) (by omega)
      · intro C2
        have hb1 : kc_O (u2).toNat = 3 := (o_u2.resolve_left C2)
        refine ok_ck hb1 ?_
        have T4 := gI_10 V_h hb1
        refine ok_add (by omega) ?_; intro v6 e_v6
        refine ok_cP (vf_X4_above hn rfl (by omega) (by omega) V_h) ?_; intro u9 e_u9 a_u9 b_u9
        refine ok_add (by omega) ?_; intro v10 e_v10
        exact ih (by omega) (by omega) (by omega) (by omega) (by omega) (by omega) V_h (by omega) (by omega)
set_option maxRecDepth 4000 in
theorem vf_X7_cellsAbove {nn : Nat} (hn : 1000000 ≤ nn) {a1 : Int} {h : ms_M} (a_a1 : (-1) ≤ a1) (b_a1 : a1 ≤ 341) (V_h : VS_ h)  : Ok_ (qf_X7_cellsAbove nn a1 h) (QP_ 0 192) := by
  unfold qf_X7_cellsAbove
  exact vw_X7_cellsAbove_7 hn _ (by omega) (by omega) (by omega) (by omega) (by omega) (by omega) V_h (by omega) (by omega)
set_option maxRecDepth 4000 in
theorem vw_X7_linkMethods_29 {nn : Nat} (hn : 1000000 ≤ nn) {qkk_7 : Int → Int → Int → ms_M → Option ms_M} {K_kk_7 : Int} (hk_kk_7 : ∀ {l1 : Int} {l2 : Int} {l3 : Int} {h : ms_M} (a_l1 : 0 ≤ l1) (b_l1 : l1 ≤ 7) (a_l2 : (-1) ≤ l2) (b_l2 : l2 ≤ 341) (a_l3 : 0 ≤ l3) (b_l3 : l3 ≤ 16) (V_h : VS_ h) (_ : 17 - l3 < K_kk_7), Ok_ (qkk_7 l1 l2 l3 h) QV_) : ∀ (k : Nat) {l1 : Int} {l2 : Int} {l3 : Int} {l4 : Int} {l5 : Int} {h : ms_M} (a_l1 : 0 ≤ l1) (b_l1 : l1 ≤ 7) (a_l2 : 8 ≤ l2) (b_l2 : l2 ≤ 15) (a_l3 : 0 ≤ l3) (b_l3 : l3 ≤ 15) (n_l4 : 0 ≤ l4) (k_l4 : kc_O (l4).toNat = 3) (a_l5 : 0 ≤ l5) (b_l5 : l5 ≤ 12) (V_h : VS_ h) (hm_kk_7 : 17 - l3 + 0 ≤ K_kk_7) (hm : 13 - l5 < (k : Int)), Ok_ (qw_X7_linkMethods_29 nn qkk_7 k l1 l2 l3 l4 l5 h) QV_ := by
  intro k
  induction k with
  | zero => intros; exfalso; omega
  | succ k ih =>
    intro l1 l2 l3 l4 l5 h a_l1 b_l1 a_l2 b_l2 a_l3 b_l3 n_l4 k_l4 a_l5 b_l5 V_h hm_kk_7 hm
    unfold qw_X7_linkMethods_29
    refine ok_ck n_l4 ?_
    have hb1 : kc_O (l4).toNat = 3 := k_l4
    refine ok_ck hb1 ?_
    have T1 := gI_12 V_h hb1
    refine ok_if ?_ ?_
    · intro C1
      refine ok_cP (vf_X4_above hn rfl (by omega) (by omega) V_h) ?_; intro u5 e_u5 a_u5 b_u5
      refine ok_add (by omega) ?_; intro v6 e_v6
      exact hk_kk_7 (by omega) (by omega) (by omega) (by omega) (by omega) (by omega) V_h (by omega)
    · intro C1
      refine ok_mul (by omega) ?_; intro v8 e_v8
      refine ok_cP (vf_X7_numberOf hn (by omega) (by omega) (by omega) (by omega) V_h) ?_; intro u10 e_u10 a_u10 b_u10
      refine ok_add (by omega) ?_; intro v11 e_v11
      refine ok_add (by omega) ?_; intro v12 e_v12
      refine ok_cP (vf_X3_of hn hb1 (by omega) (by omega) (by omega) (by omega) V_h) ?_; intro u14 e_u14 a_u14 b_u14
      refine ok_cP (vf_X7_methodOf hn (by omega) (by omega) hb1 (by omega) (by omega) V_h) ?_; intro u16 e_u16 a_u16 b_u16
      refine ok_wA (by omega) ?_; intro h17 E_h17; have V_h17 : VS_ h17 := by rw [E_h17]; exact wA_70 V_h (by omega)
      refine ok_add (by omega) ?_; intro v18 e_v18
      exact ih (by omega) (by omega) (by omega) (by omega) (by omega) (by omega) (by omega) hb1 (by omega) (by omega) V_h17 (by omega) (by omega)
set_option maxRecDepth 4000 in
theorem vw_X7_linkMethods_7 {nn : Nat} (hn : 1000000 ≤ nn) : ∀ (k : Nat) {l1 : Int} {l2 : Int} {l3 : Int} {h : ms_M} (a_l1 : 0 ≤ l1) (b_l1 : l1 ≤ 7) (a_l2 : (-1) ≤ l2) (b_l2 : l2 ≤ 341) (a_l3 : 0 ≤ l3) (b_l3 : l3 ≤ 16) (V_h : VS_ h)  (hm : 17 - l3 < (k : Int)), Ok_ (qw_X7_linkMethods_7 nn k l1 l2 l3 h) QV_ := by
  intro k
  induction k with
  | zero => intros; exfalso; omega
  | succ k ih =>
    intro l1 l2 l3 h a_l1 b_l1 a_l2 b_l2 a_l3 b_l3 V_h hm
    unfold qw_X7_linkMethods_7
    refine ok_if ?_ ?_
    · intro C0
      exact ok_rV V_h
    · intro C0
      refine ok_cO (vf_X7_imageOf hn (by omega) (by omega) V_h) ?_; intro u21 e_u21 o_u21
      have T2 := po_X7_imageOf V_h e_u21
      refine ok_if ?_ ?_
      · intro C2
        exact ok_rV V_h
      · intro C2
        exact vw_X7_linkMethods_29 hn ih _ (by omega) (by omega) (by omega) (by omega) (by omega) (by omega) (by omega) (o_u21.resolve_left C2) (by omega) (by omega) V_h (by omega) (by omega)
set_option maxRecDepth 4000 in
theorem vf_X7_linkMethods {nn : Nat} (hn : 1000000 ≤ nn) {a1 : Int} {h : ms_M} (a_a1 : 0 ≤ a1) (b_a1 : a1 ≤ 7) (V_h : VS_ h)  : Ok_ (qf_X7_linkMethods nn a1 h) QV_ := by
  unfold qf_X7_linkMethods
  refine ok_add (by omega) ?_; intro v25 e_v25
  exact vw_X7_linkMethods_7 hn _ (by omega) (by omega) (by omega) (by omega) (by omega) (by omega) V_h (by omega)
end
section
set_option maxRecDepth 4000 in
theorem vf_X3_numberOf {nn : Nat} (hn : 1000000 ≤ nn) {a0 : Nat} {a1 : Int} {h : ms_M} (hb_a0 : kc_O a0 = 3) (a_a1 : 1 ≤ a1) (b_a1 : a1 ≤ 255) (V_h : VS_ h)  : Ok_ (qf_X3_numberOf nn a0 a1 h) (QP_ (-2147483648) 2147483647) := by
  unfold qf_X3_numberOf
  refine ok_cP (vf_X3_partOf hn hb_a0 (by omega) (by omega) (by omega) (by omega) V_h) ?_; intro u2 e_u2 a_u2 b_u2
  refine ok_i32 ?_; intro v3 a_v3 b_v3
  refine ok_cP (vf_X3_partOf hn hb_a0 (by omega) (by omega) (by omega) (by omega) V_h) ?_; intro u5 e_u5 a_u5 b_u5
  refine ok_i32 ?_; intro v6 a_v6 b_v6
  refine ok_i32 ?_; intro v7 a_v7 b_v7
  refine ok_cP (vf_X3_partOf hn hb_a0 (by omega) (by omega) (by omega) (by omega) V_h) ?_; intro u9 e_u9 a_u9 b_u9
  refine ok_shl8 (by omega) ?_; intro v10 e_v10
  refine ok_i32 ?_; intro v11 a_v11 b_v11
  refine ok_cP (vf_X3_partOf hn hb_a0 (by omega) (by omega) (by omega) (by omega) V_h) ?_; intro u13 e_u13 a_u13 b_u13
  refine ok_i32 ?_; intro v14 a_v14 b_v14
  exact ok_rP (by omega) (by omega)
set_option maxRecDepth 4000 in
theorem vf_X7_linkOf {nn : Nat} (hn : 1000000 ≤ nn) {a1 : Nat} {a2 : Int} {h : ms_M} (i_a1 : kc_O a1 = 3) (a_a2 : 1 ≤ a2) (b_a2 : a2 ≤ 255) (V_h : VS_ h)  : Ok_ (qf_X7_linkOf nn a1 a2 h) (QP_ (-2147483648) 2147483647) := by
  unfold qf_X7_linkOf
  have hb1 : kc_O a1 = 3 := i_a1
  refine ok_ck hb1 ?_
  refine ok_cP (vf_X3_tagOf hn hb1 (by omega) (by omega) V_h) ?_; intro u2 e_u2 a_u2 b_u2
  refine ok_if ?_ ?_
  · intro C0
    refine ok_if ?_ ?_
    · intro C1
      refine ok_if ?_ ?_
      · intro C2
        refine ok_cP (vf_X3_partOf hn hb1 (by omega) (by omega) (by omega) (by omega) V_h) ?_; intro u4 e_u4 a_u4 b_u4
        refine ok_cP (vf_X7_typeOfClass hn hb1 (by omega) (by omega) V_h) ?_; intro u6 e_u6 a_u6 b_u6
        refine ok_cP (vf_X3_partOf hn hb1 (by omega) (by omega) (by omega) (by omega) V_h) ?_; intro u8 e_u8 a_u8 b_u8
        refine ok_cP (vf_X3_textAt hn hb1 (by omega) (by omega) V_h) ?_; intro u10 e_u10 a_u10 b_u10
        refine ok_cP (vf_X3_byteAt hn hb1 (by omega) (by omega) V_h) ?_; intro u12 e_u12 a_u12 b_u12
        refine ok_if ?_ ?_
        · intro C3
          refine ok_cP (vf_X3_partOf hn hb1 (by omega) (by omega) (by omega) (by omega) V_h) ?_; intro u14 e_u14 a_u14 b_u14
          refine ok_cP (vf_X7_fieldOf hn (by omega) (by omega) hb1 (by omega) (by omega) V_h) ?_; intro u16 e_u16 a_u16 b_u16
          refine ok_if ?_ ?_
          · intro C4
            refine ok_div (n := 12) (by omega) ?_; intro v17 e_v17
            refine ok_add (by omega) ?_; intro v18 e_v18
            refine ok_cP (vf_X4_above hn rfl (by omega) (by omega) V_h) ?_; intro u21 e_u21 a_u21 b_u21
            refine ok_cP (vf_X7_cellsAbove hn (by omega) (by omega) V_h) ?_; intro u23 e_u23 a_u23 b_u23
            refine ok_rem (n := 12) (by omega) ?_; intro v24 e_v24
            refine ok_add (by omega) ?_; intro v25 e_v25
            exact ok_rP (by omega) (by omega)
          · intro C4
            exact ok_rP (by omega) (by omega)
        · intro C3
          refine ok_cP (vf_X3_partOf hn hb1 (by omega) (by omega) (by omega) (by omega) V_h) ?_; intro u28 e_u28 a_u28 b_u28
          refine ok_cP (vf_X7_methodOf hn (by omega) (by omega) hb1 (by omega) (by omega) V_h) ?_; intro u30 e_u30 a_u30 b_u30
          exact ok_rP (by omega) (by omega)
      · intro C2
        exact ok_rP (by omega) (by omega)
    · intro C1
      refine ok_cP (vf_X7_typeOfClass hn hb1 (by omega) (by omega) V_h) ?_; intro u34 e_u34 a_u34 b_u34
      exact ok_rP (by omega) (by omega)
  · intro C0
    refine ok_cP (vf_X3_numberOf hn hb1 (by omega) (by omega) V_h) ?_; intro u37 e_u37 a_u37 b_u37
    exact ok_rP (by omega) (by omega)
set_option maxRecDepth 4000 in
theorem vw_X7_linkAll_42 {nn : Nat} (hn : 1000000 ≤ nn) {qkk_32 : Int → ms_M → Option ms_M} {K_kk_32 : Int} (hk_kk_32 : ∀ {l1 : Int} {h : ms_M} (a_l1 : 0 ≤ l1) (b_l1 : l1 ≤ 8) (V_h : VS_ h) (_ : 9 - l1 < K_kk_32), Ok_ (qkk_32 l1 h) QV_) : ∀ (k : Nat) {l1 : Int} {l2 : Int} {h : ms_M} (a_l1 : 0 ≤ l1) (b_l1 : l1 ≤ 7) (a_l2 : 1 ≤ l2) (b_l2 : l2 ≤ 256) (V_h : VS_ h) (hm_kk_32 : 9 - l1 + 0 ≤ K_kk_32) (hm : 257 - l2 < (k : Int)), Ok_ (qw_X7_linkAll_42 nn qkk_32 k l1 l2 h) QV_ := by
  intro k
  induction k with
  | zero => intros; exfalso; omega
  | succ k ih =>
    intro l1 l2 h a_l1 b_l1 a_l2 b_l2 V_h hm_kk_32 hm
    unfold qw_X7_linkAll_42
    refine ok_rd60 V_h (by omega) ?_; intro v2 n_v2 k_v2
    refine ok_ck n_v2 ?_
    have hb1 : kc_O (v2).toNat = 3 := k_v2
    refine ok_ck hb1 ?_
    have T1 := gI_7 V_h hb1
    refine ok_if ?_ ?_
    · intro C1
      refine ok_cV (vf_X7_linkMethods hn (by omega) (by omega) V_h) ?_; intro u6 E_u6 V_u6
      refine ok_add (by omega) ?_; intro v7 e_v7
      exact hk_kk_32 (by omega) (by omega) V_u6 (by omega)
    · intro C1
      refine ok_mul (by omega) ?_; intro v9 e_v9
      refine ok_add (by omega) ?_; intro v10 e_v10
      refine ok_rd60 V_h (by omega) ?_; intro v12 n_v12 k_v12
      refine ok_ck n_v12 ?_
      refine ok_cP (vf_X7_linkOf hn k_v12 (by omega) (by omega) V_h) ?_; intro u15 e_u15 a_u15 b_u15
      refine ok_wA (by omega) ?_; intro h16 E_h16; have V_h16 : VS_ h16 := by rw [E_h16]; exact wA_68 V_h (by omega)
      refine ok_add (by omega) ?_; intro v17 e_v17
      exact ih (by omega) (by omega) (by omega) (by omega) V_h16 (by omega) (by omega)
set_option maxRecDepth 4000 in
theorem vw_X7_linkAll_32 {nn : Nat} (hn : 1000000 ≤ nn) : ∀ (k : Nat) {l1 : Int} {h : ms_M} (a_l1 : 0 ≤ l1) (b_l1 : l1 ≤ 8) (V_h : VS_ h)  (hm : 9 - l1 < (k : Int)), Ok_ (qw_X7_linkAll_32 nn k l1 h) QV_ := by
  intro k
  induction k with
  | zero => intros; exfalso; omega
  | succ k ih =>
    intro l1 h a_l1 b_l1 V_h hm
    unfold qw_X7_linkAll_32
    have T1 := gF_56_3 V_h
    refine ok_if ?_ ?_
    · intro C1
      exact ok_rV V_h
    · intro C1
      exact vw_X7_linkAll_42 hn ih _ (by omega) (by omega) (by omega) (by omega) V_h (by omega) (by omega)
set_option maxRecDepth 4000 in
theorem vw_X7_linkAll_2 {nn : Nat} (hn : 1000000 ≤ nn) : ∀ (k : Nat) {l1 : Int} {h : ms_M} (a_l1 : 0 ≤ l1) (b_l1 : l1 ≤ 16) (V_h : VS_ h)  (hm : 17 - l1 < (k : Int)), Ok_ (qw_X7_linkAll_2 nn k l1 h) QV_ := by
  intro k
  induction k with
  | zero => intros; exfalso; omega
  | succ k ih =>
    intro l1 h a_l1 b_l1 V_h hm
    unfold qw_X7_linkAll_2
    have T1 := gF_56_3 V_h
    refine ok_add (by omega) ?_; intro v22 e_v22
    refine ok_if ?_ ?_
    · intro C1
      exact vw_X7_linkAll_32 hn _ (by omega) (by omega) V_h (by omega)
    · intro C1
      refine ok_cP (vf_X7_cellsAbove hn (by omega) (by omega) V_h) ?_; intro u25 e_u25 a_u25 b_u25
      refine ok_wA (by omega) ?_; intro h26 E_h26; have V_h26 : VS_ h26 := by rw [E_h26]; exact wA_69 V_h (by omega)
      refine ok_add (by omega) ?_; intro v27 e_v27
      exact ih (by omega) (by omega) V_h26 (by omega)
set_option maxRecDepth 4000 in
theorem vf_X7_linkAll {nn : Nat} (hn : 1000000 ≤ nn) {h : ms_M} (V_h : VS_ h)  : Ok_ (qf_X7_linkAll nn h) QV_ := by
  unfold qf_X7_linkAll
  exact vw_X7_linkAll_2 hn _ (by omega) (by omega) V_h (by omega)
set_option maxRecDepth 4000 in
theorem vf_X12_where {nn : Nat} (hn : 1000000 ≤ nn) {a1 : Int} {h : ms_M} (a_a1 : (-2147483648) ≤ a1) (b_a1 : a1 ≤ 2147483647) (V_h : VS_ h)  : Ok_ (qf_X12_where nn a1 h) (QP_ (-1) 65534) := by
  unfold qf_X12_where
  refine ok_if ?_ ?_
  · intro C0
    have T2 := gF_127_2 V_h
    exact ok_rP (by omega) (by omega)
  · intro C0
    refine ok_if ?_ ?_
    · intro C2
      have T4 := gF_127_3 V_h
      exact ok_rP (by omega) (by omega)
    · intro C2
      refine ok_if ?_ ?_
      · intro C4
        have T6 := gF_127_4 V_h
        exact ok_rP (by omega) (by omega)
      · intro C4
        exact ok_rP (by omega) (by omega)
end
section
/-- what a piece of the reading leaves: FORM that is told stays told, the methods' row outside lo .. hi, the number of methods -/
def St_ (b lo hi : Nat) (h r : ms_M) : Prop := (r b 3 = -1 → h b 3 = -1) ∧ (∀ k, k < lo ∨ hi ≤ k → r (b + 6) k = h (b + 6) k) ∧ r b 12 = h b 12
theorem st_t {b l1 h1 l2 h2 l i : Nat} {M N P : ms_M} (A : St_ b l1 h1 M N) (B : St_ b l2 h2 N P) (q : ∀ k, k < l ∨ i ≤ k → (k < l1 ∨ h1 ≤ k) ∧ (k < l2 ∨ h2 ≤ k)) : St_ b l i M P := by
  refine ⟨fun z => A.1 (B.1 z), fun k hk => ?_, by rw [B.2.2, A.2.2]⟩
  rw [B.2.1 k (q k hk).2, A.2.1 k (q k hk).1]
theorem st_w {b l i j : Nat} {v : Int} {M : ms_M} (hj : l ≤ j ∧ j < i) : St_ b l i M (up_M M (b + 6) j v) := by
  refine ⟨fun z => ?_, fun k hk => up_n (by omega), up_n (by omega)⟩
  rw [up_n (by omega)] at z; exact z
theorem st_bad {nn b : Nat} {a : Int} {h r : ms_M} (e : qf_X3_bad nn b a h = some r) : St_ b 0 0 h r := by
  unfold qf_X3_bad at e
  split at e
  · cases e; exact ⟨id, fun _ _ => rfl, rfl⟩
  · rename_i q
    rw [xl_eq] at e
    cases e
    exact ⟨fun _ => Decidable.not_not.1 q, fun k _ => up_n (by omega), up_n (by omega)⟩
theorem st_next {nn b : Nat} {h : ms_M} {r : Int × ms_M} (e : qf_X3_next nn b h = some r) : St_ b 0 0 h r.2 := by
  unfold qf_X3_next at e
  split at e
  · rw [xl_eq, xl_eq] at e
    obtain ⟨-, e⟩ := ck_i e
    rw [xl_eq] at e
    have e := rt_i e
    rw [xl_eq] at e
    cases e
    refine ⟨fun z => ?_, fun k _ => up_n (by omega), up_n (by omega)⟩
    have z2 : up_M h b 2 (oq_add (h b 2) 1) b 3 = -1 := z
    rw [up_n (by omega)] at z2; exact z2
  · split at e
    · rename_i q
      rw [xl_eq] at e
      cases e
      refine ⟨fun z => ?_, fun k _ => up_n (by omega), up_n (by omega)⟩
      have z2 : up_M h b 3 (h b 3) b 3 = -1 := z
      rw [up_s] at z2; exact z2
    · rename_i q
      rw [xl_eq] at e
      cases e
      exact ⟨fun _ => Decidable.not_not.1 q, fun k _ => up_n (by omega), up_n (by omega)⟩
theorem st_z {b : Nat} {M N P : ms_M} (A : St_ b 0 0 M N) (B : St_ b 0 0 N P) : St_ b 0 0 M P := st_t A B (fun _ _ => by omega)
theorem st_nextUpTo {nn b : Nat} {lo hi : Int} {h : ms_M} {r : Int × ms_M} (e : qf_X3_nextUpTo nn b lo hi h = some r) : St_ b 0 0 h r.2 := by
  unfold qf_X3_nextUpTo at e
  obtain ⟨w, e1, e⟩ := sv_i e
  have A := st_next e1
  have bad : ∀ {r : Int × ms_M}, qj_X3_nextUpTo_15 nn b w.1 w.2 = some r → St_ b 0 0 h r.2 := by
    intro r e
    unfold qj_X3_nextUpTo_15 at e
    rw [xl_eq] at e
    obtain ⟨x, e2, e⟩ := sv_i e
    cases e
    exact st_z A (st_bad e2)
  split at e
  · exact bad e
  · split at e
    · cases e; exact A
    · exact bad e
theorem st_nextName {nn b : Nat} {h : ms_M} {r : Int × ms_M} (e : qf_X3_nextName nn b h = some r) : St_ b 0 0 h r.2 := by
  unfold qf_X3_nextName at e
  obtain ⟨w, e1, e⟩ := sv_i e
  obtain ⟨x, _, e⟩ := sv_i e
  split at e
  · cases e; exact st_next e1
  · rw [xl_eq] at e
    obtain ⟨y, e2, e⟩ := sv_i e
    cases e
    exact st_z (st_next e1) (st_bad e2)
theorem st_nextClass {nn b : Nat} {h r : ms_M} (e : qf_X3_nextClass nn b h = some r) : St_ b 0 0 h r := by
  unfold qf_X3_nextClass at e
  obtain ⟨w, e1, e⟩ := sv_i e
  obtain ⟨x, _, e⟩ := sv_i e
  split at e
  · cases e; exact st_next e1
  · rw [xl_eq] at e
    obtain ⟨y, e2, e⟩ := sv_i e
    cases e
    exact st_z (st_next e1) (st_bad e2)
theorem st_rfl {b : Nat} {h : ms_M} : St_ b 0 0 h h := ⟨id, fun _ _ => rfl, rfl⟩
theorem st_sp2 {nn b : Nat} : ∀ (k : Nat) (l1 l2 : Int) {h r : ms_M}, qw_X3_skipPairs_2 nn k b l1 l2 h = some r → St_ b 0 0 h r := by
  intro k
  induction k with
  | zero => intro l1 l2 h r e; cases e
  | succ k ih =>
    intro l1 l2 h r e
    unfold qw_X3_skipPairs_2 at e
    rw [xl_eq] at e
    split at e
    · cases e; exact st_rfl
    · obtain ⟨w, e1, e⟩ := sv_i e
      rw [xl_eq] at e
      exact st_z (st_next e1) (ih _ _ e)
theorem st_skipPairs {nn b : Nat} {a : Int} {h r : ms_M} (e : qf_X3_skipPairs nn b a h = some r) : St_ b 0 0 h r := st_sp2 _ _ _ e
theorem st_ft7 {nn b : Nat} : ∀ (k : Nat) (l1 l2 : Int) {h r : ms_M}, qw_X3_readFrameTypes_7 nn k b l1 l2 h = some r → St_ b 0 0 h r := by
  intro k
  induction k with
  | zero => intro l1 l2 h r e; cases e
  | succ k ih =>
    intro l1 l2 h r e
    unfold qw_X3_readFrameTypes_7 at e
    split at e
    · cases e; exact st_rfl
    · split at e
      · cases e; exact st_rfl
      · obtain ⟨w, e1, e⟩ := sv_i e
        split at e
        · rw [xl_eq] at e
          exact st_z (st_nextUpTo e1) (ih _ _ e)
        · obtain ⟨x, e2, e⟩ := sv_i e
          rw [xl_eq] at e
          exact st_z (st_nextUpTo e1) (st_z (st_nextClass e2) (ih _ _ e))
theorem st_readFrameTypes {nn b : Nat} {h r : ms_M} (e : qf_X3_readFrameTypes nn b h = some r) : St_ b 0 0 h r := by
  unfold qf_X3_readFrameTypes at e
  obtain ⟨w, e1, e⟩ := sv_i e
  exact st_z (st_next e1) (st_ft7 _ _ _ e)
theorem st_rF33 {nn b : Nat} : ∀ (k : Nat) (l1 l2 : Int) {h r : ms_M}, qw_X3_readFrames_33 nn k b l1 l2 h = some r → St_ b 0 0 h r := by
  intro k
  induction k with
  | zero => intro l1 l2 h r e; cases e
  | succ k ih =>
    intro l1 l2 h r e
    unfold qw_X3_readFrames_33 at e
    split at e
    · cases e; exact st_rfl
    · split at e
      · cases e; exact st_rfl
      · obtain ⟨w, e1, e⟩ := sv_i e
        obtain ⟨x, e2, e⟩ := sv_i e
        obtain ⟨y, e3, e⟩ := sv_i e
        rw [xl_eq] at e
        exact st_z (st_skipPairs e1) (st_z (st_readFrameTypes e2) (st_z (st_readFrameTypes e3) (ih _ _ e)))
theorem st_rH33 {nn b : Nat} : ∀ (k : Nat) (l1 l2 : Int) {h r : ms_M}, qw_X3_readHandlers_33 nn k b l1 l2 h = some r → St_ b 0 0 h r := by
  intro k
  induction k with
  | zero => intro l1 l2 h r e; cases e
  | succ k ih =>
    intro l1 l2 h r e
    unfold qw_X3_readHandlers_33 at e
    split at e
    · cases e; exact st_rfl
    · split at e
      · cases e; exact st_rfl
      · obtain ⟨w, e1, e⟩ := sv_i e
        obtain ⟨x, e2, e⟩ := sv_i e
        rw [xl_eq] at e
        exact st_z (st_skipPairs e1) (st_z (st_nextClass e2) (ih _ _ e))
theorem st_cd {nn b : Nat} {l4 : Int} {h r : ms_M} (e : qj_X3_readCode_85 nn b l4 h = some r) : St_ b 0 0 h r := by
  unfold qj_X3_readCode_85 at e
  rw [xl_eq, xl_eq, xl_eq] at e
  cases e
  refine ⟨fun z => ?_, fun k _ => up_n (by omega), up_n (by omega)⟩
  rw [up_n (by omega)] at z; exact z
theorem st_c40 {nn b m : Nat} {l4 : Int} {h r : ms_M} (hm : m ≤ 11) (e : qj_X3_readCode_40 nn b (12 * (m : Int)) l4 h = some r) : St_ b (12 * m + 5) (12 * m + 7) h r ∧ r (b + 6) (12 * m + 5) = l4 := by
  unfold qj_X3_readCode_40 at e
  rw [xl_eq, oq_add_eq (by omega) (by omega) (by omega)] at e
  have e := wa_i e
  rw [xl_eq, oq_add_eq (by omega) (by omega) (by omega)] at e
  have e := wa_i e
  rw [xl_eq] at e
  rw [show (12 * (m : Int) + 5).toNat = 12 * m + 5 by omega, show (12 * (m : Int) + 6).toNat = 12 * m + 6 by omega] at e
  have A : St_ b (12 * m + 5) (12 * m + 7) h (up_M h (b + 6) (12 * m + 5) l4) := st_w (by omega)
  have a : up_M h (b + 6) (12 * m + 5) l4 (b + 6) (12 * m + 5) = l4 := up_s
  generalize up_M h (b + 6) (12 * m + 5) l4 = h1 at *
  have B : St_ b (12 * m + 6) (12 * m + 7) h1 (up_M h1 (b + 6) (12 * m + 6) (h1 b 2)) := st_w (by omega)
  generalize up_M h1 (b + 6) (12 * m + 6) (h1 b 2) = h2 at *
  have C := st_t A B (l := 12 * m + 5) (i := 12 * m + 7) (fun _ _ => by omega)
  have c : h2 (b + 6) (12 * m + 5) = l4 := by rw [B.2.1 _ (by omega), a]
  split at e
  · exact ⟨st_t C (st_cd e) (fun _ _ => by omega), by rw [(st_cd e).2.1 _ (by omega), c]⟩
  · obtain ⟨x, e1, e⟩ := sv_i e
    exact ⟨st_t C (st_z (st_bad e1) (st_cd e)) (fun _ _ => by omega), by rw [(st_cd e).2.1 _ (by omega), (st_bad e1).2.1 _ (by omega), c]⟩
theorem st_readCode {nn b m : Nat} {h r : ms_M} (hn : 1000000 ≤ nn) (V : VS_ h) (hb : kc_O b = 3) (hm : m ≤ 11) (e : qf_X3_readCode nn b (12 * (m : Int)) h = some r) : St_ b (12 * m + 5) (12 * m + 7) h r ∧ 0 ≤ r (b + 6) (12 * m + 5) := by
  unfold qf_X3_readCode at e
  obtain ⟨w, e1, e⟩ := sv_i e
  rw [xl_eq] at e
  obtain ⟨x, e2, e⟩ := sv_i e
  rw [xl_eq] at e
  have Q1 := okof (vf_X3_next hn hb V) e1
  have Q2 := okof (vf_X3_next hn hb Q1.1) e2
  have q1 : 0 ≤ w.1 ∧ w.1 ≤ 255 := Q1.2
  have q2 : 0 ≤ x.1 ∧ x.1 ≤ 255 := Q2.2
  have p : 0 ≤ oq_or (oq_shl w.1 8) x.1 := by
    rw [oq_shl_8 q1]
    exact (oq_or_rg (by omega) (by omega)).1
  generalize oq_or (oq_shl w.1 8) x.1 = y at *
  have A := st_z (st_next e1) (st_next e2)
  have bad : ∀ {l2 : Int} {r : ms_M}, qj_X3_readCode_35 nn b (12 * (m : Int)) l2 y x.2 = some r → St_ b (12 * m + 5) (12 * m + 7) h r ∧ 0 ≤ r (b + 6) (12 * m + 5) := by
    intro l2 r e
    unfold qj_X3_readCode_35 at e
    obtain ⟨y, e3, e⟩ := sv_i e
    have K := st_c40 hm e
    exact ⟨st_t (st_z A (st_bad e3)) K.1 (fun _ _ => by omega), by rw [K.2]; exact p⟩
  split at e
  · exact bad e
  · split at e
    · have K := st_c40 hm e
      exact ⟨st_t A K.1 (fun _ _ => by omega), by rw [K.2]; exact p⟩
    · exact bad e
theorem ig_readHandlers {nn b m : Nat} {h r : ms_M} (V : VS_ h) (hb : kc_O b = 3) (hm : m ≤ 11) (e : qf_X3_readHandlers nn b (12 * (m : Int)) h = some r) : St_ b (12 * m + 7) (12 * m + 9) h r ∧ (r b 3 = -1 → 0 ≤ r (b + 6) (12 * m + 7) ∧ r (b + 6) (12 * m + 7) ≤ 20) := by
  unfold qf_X3_readHandlers at e
  obtain ⟨w, e1, e⟩ := sv_i e
  have L := lm_X3_nextUpTo V hb e1
  rw [xl_eq, oq_add_eq (by omega) (by omega) (by omega)] at e
  have e := wa_i e
  rw [xl_eq, oq_add_eq (by omega) (by omega) (by omega)] at e
  have e := wa_i e
  rw [show (12 * (m : Int) + 7).toNat = 12 * m + 7 by omega, show (12 * (m : Int) + 8).toNat = 12 * m + 8 by omega] at e
  have A : St_ b (12 * m + 7) (12 * m + 9) w.2 (up_M w.2 (b + 6) (12 * m + 7) w.1) := st_w (by omega)
  have a : up_M w.2 (b + 6) (12 * m + 7) w.1 (b + 6) (12 * m + 7) = w.1 := up_s
  generalize up_M w.2 (b + 6) (12 * m + 7) w.1 = h1 at *
  have B : St_ b (12 * m + 8) (12 * m + 9) h1 (up_M h1 (b + 6) (12 * m + 8) (h1 b 2)) := st_w (by omega)
  generalize up_M h1 (b + 6) (12 * m + 8) (h1 b 2) = h2 at *
  have C := st_rH33 _ _ _ e
  refine ⟨st_t (st_t (st_nextUpTo e1) A (l := 12 * m + 7) (i := 12 * m + 9) (fun _ _ => by omega)) (st_t B C (l := 12 * m + 8) (i := 12 * m + 9) (fun _ _ => by omega)) (fun _ _ => by omega), fun z => ?_⟩
  rw [C.2.1 _ (by omega), B.2.1 _ (by omega), a]
  have := A.1 (B.1 (C.1 z))
  omega
theorem ig_readFrames {nn b m : Nat} {h r : ms_M} (V : VS_ h) (hb : kc_O b = 3) (hm : m ≤ 11) (e : qf_X3_readFrames nn b (12 * (m : Int)) h = some r) : St_ b (12 * m + 9) (12 * m + 11) h r ∧ (r b 3 = -1 → 0 ≤ r (b + 6) (12 * m + 9) ∧ r (b + 6) (12 * m + 9) ≤ 100) := by
  unfold qf_X3_readFrames at e
  obtain ⟨w, e1, e⟩ := sv_i e
  have L := lm_X3_nextUpTo V hb e1
  rw [xl_eq, oq_add_eq (by omega) (by omega) (by omega)] at e
  have e := wa_i e
  rw [xl_eq, oq_add_eq (by omega) (by omega) (by omega)] at e
  have e := wa_i e
  rw [show (12 * (m : Int) + 9).toNat = 12 * m + 9 by omega, show (12 * (m : Int) + 10).toNat = 12 * m + 10 by omega] at e
  have A : St_ b (12 * m + 9) (12 * m + 11) w.2 (up_M w.2 (b + 6) (12 * m + 9) w.1) := st_w (by omega)
  have a : up_M w.2 (b + 6) (12 * m + 9) w.1 (b + 6) (12 * m + 9) = w.1 := up_s
  generalize up_M w.2 (b + 6) (12 * m + 9) w.1 = h1 at *
  have B : St_ b (12 * m + 10) (12 * m + 11) h1 (up_M h1 (b + 6) (12 * m + 10) (h1 b 2)) := st_w (by omega)
  generalize up_M h1 (b + 6) (12 * m + 10) (h1 b 2) = h2 at *
  have C := st_rF33 _ _ _ e
  refine ⟨st_t (st_t (st_nextUpTo e1) A (l := 12 * m + 9) (i := 12 * m + 11) (fun _ _ => by omega)) (st_t B C (l := 12 * m + 10) (i := 12 * m + 11) (fun _ _ => by omega)) (fun _ _ => by omega), fun z => ?_⟩
  rw [C.2.1 _ (by omega), B.2.1 _ (by omega), a]
  have := A.1 (B.1 (C.1 z))
  omega
theorem ig_52 {nn b m : Nat} {l2 l3 : Int} {h r : ms_M} (hn : 1000000 ≤ nn) (V : VS_ h) (hb : kc_O b = 3) (hm : m ≤ 11) (h2 : 0 ≤ l2 ∧ l2 ≤ 255) (h3 : -1 ≤ l3 ∧ l3 ≤ 6) (hl : l3 = -1 → ¬ h b 3 = -1) (e : qj_X3_readMethod_52 nn b (12 * (m : Int)) l2 l3 h = some r) : St_ b (12 * m) (12 * m + 12) h r ∧ (r b 3 = -1 → IGm_ r b m) := by
  unfold qj_X3_readMethod_52 at e
  rw [xl_eq, oq_add_eq (by omega) (by omega) (by omega)] at e
  have e := wa_i e
  rw [xl_eq, oq_add_eq (by omega) (by omega) (by omega)] at e
  have e := wa_i e
  rw [xl_eq, oq_add_eq (by omega) (by omega) (by omega)] at e
  rw [show (12 * (m : Int) + 2).toNat = 12 * m + 2 by omega, show (12 * (m : Int) + 11).toNat = 12 * m + 11 by omega] at e
  have A1 : St_ b (12 * m + 2) (12 * m + 3) h (up_M h (b + 6) (12 * m + 2) l2) := st_w (by omega)
  have V1 : VS_ (up_M h (b + 6) (12 * m + 2) l2) := wIA_6 V hb (by omega)
  generalize up_M h (b + 6) (12 * m + 2) l2 = g1 at *
  have A2 : St_ b (12 * m + 11) (12 * m + 12) g1 (up_M g1 (b + 6) (12 * m + 11) l3) := st_w (by omega)
  have a2 : up_M g1 (b + 6) (12 * m + 11) l3 (b + 6) (12 * m + 11) = l3 := up_s
  have V2 : VS_ (up_M g1 (b + 6) (12 * m + 11) l3) := wIA_6 V1 hb (by omega)
  generalize up_M g1 (b + 6) (12 * m + 11) l3 = g2 at *
  obtain ⟨u10, e10, e⟩ := sv_i e
  have L3 := lm_X3_nextUpTo V2 hb e10
  have Q3 := okof (vf_X3_nextUpTo hn hb (by omega) (by omega) (by omega) (by omega) V2) e10
  have S3 := st_nextUpTo e10
  have e := wa_i e
  rw [show (12 * (m : Int) + 3).toNat = 12 * m + 3 by omega] at e
  have A4 : St_ b (12 * m + 3) (12 * m + 4) u10.2 (up_M u10.2 (b + 6) (12 * m + 3) u10.1) := st_w (by omega)
  have a4 : up_M u10.2 (b + 6) (12 * m + 3) u10.1 (b + 6) (12 * m + 3) = u10.1 := up_s
  have V4 : VS_ (up_M u10.2 (b + 6) (12 * m + 3) u10.1) := wIA_6 Q3.1 hb (by have := Q3.2; omega)
  generalize up_M u10.2 (b + 6) (12 * m + 3) u10.1 = g4 at *
  rw [xl_eq, xl_eq, xl_eq] at e
  have w4 : oq_add (12 * (m : Int)) 4 = 12 * (m : Int) + 4 := oq_add_eq (by omega) (by omega) (by omega)
  have w1 : oq_add l3 1 = l3 + 1 := oq_add_eq (by omega) (by omega) (by omega)
  have w0 : oq_add (12 * (m : Int)) 0 = 12 * (m : Int) + 0 := oq_add_eq (by omega) (by omega) (by omega)
  rw [w4, w1, w0] at e
  have e := rd_i e
  rw [xl_eq] at e
  obtain ⟨u20, e20, e⟩ := sv_i e
  have hr := gIA_6 V4 hb (12 * (m : Int) + 0).toNat (by omega)
  rw [oq_sub_eq (by omega) (by omega) (by omega)] at e20
  have L5 := lm_X3_nextUpTo V4 hb e20
  have Q5 := okof (vf_X3_nextUpTo hn hb (by omega) (by omega) (by omega) (by omega) V4) e20
  have S5 := st_nextUpTo e20
  have e := wa_i e
  rw [show (12 * (m : Int) + 4).toNat = 12 * m + 4 by omega] at e
  have A6 : St_ b (12 * m + 4) (12 * m + 5) u20.2 (up_M u20.2 (b + 6) (12 * m + 4) u20.1) := st_w (by omega)
  have a6 : up_M u20.2 (b + 6) (12 * m + 4) u20.1 (b + 6) (12 * m + 4) = u20.1 := up_s
  have V6 : VS_ (up_M u20.2 (b + 6) (12 * m + 4) u20.1) := wIA_6 Q5.1 hb (by have := Q5.2; omega)
  generalize up_M u20.2 (b + 6) (12 * m + 4) u20.1 = g6 at *
  obtain ⟨u23, e23, e⟩ := sv_i e
  have S7a := st_readCode hn V6 hb hm e23
  have S7 := S7a.1
  have V7 := okof (vf_X3_readCode hn hb (by omega) (by omega) V6) e23
  obtain ⟨u25, e25, e⟩ := sv_i e
  have S8 := ig_readHandlers V7 hb hm e25
  have V8 := okof (vf_X3_readHandlers hn hb (by omega) (by omega) V7) e25
  obtain ⟨u27, e27, e⟩ := sv_i e
  have S9 := ig_readFrames V8 hb hm e27
  cases e
  refine ⟨⟨fun z => ?_, fun k hk => ?_, ?_⟩, fun z => ?_⟩
  · exact A1.1 (A2.1 (S3.1 (A4.1 (S5.1 (A6.1 (S7.1 (S8.1.1 (S9.1.1 z))))))))
  · rw [S9.1.2.1 k (by omega), S8.1.2.1 k (by omega), S7.2.1 k (by omega), A6.2.1 k (by omega), S5.2.1 k (by omega), A4.2.1 k (by omega), S3.2.1 k (by omega), A2.2.1 k (by omega), A1.2.1 k (by omega)]
  · rw [S9.1.2.2, S8.1.2.2, S7.2.2, A6.2.2, S5.2.2, A4.2.2, S3.2.2, A2.2.2, A1.2.2]
  · have z8 := S9.1.1 z
    have z7 := S8.1.1 z8
    have z6 := S7.1 z7
    have z5 := A6.1 z6
    have z4 := S5.1 z5
    have z3 := A4.1 z4
    have z2 := S3.1 z3
    have z0 := A1.1 (A2.1 z2)
    have f9 := S9.2 z
    have f7 := S8.2 z8
    unfold IGm_
    refine ⟨?_, ?_, ?_, f9, ?_, ?_⟩
    · rw [S9.1.2.1 _ (by omega), S8.1.2.1 _ (by omega), S7.2.1 _ (by omega), A6.2.1 _ (by omega), S5.2.1 _ (by omega), a4]; omega
    · rw [S9.1.2.1 _ (by omega), S8.1.2.1 _ (by omega), S7.2.1 _ (by omega), a6]; omega
    · rw [S9.1.2.1 _ (by omega)]; exact f7
    · rw [S9.1.2.1 _ (by omega), S8.1.2.1 _ (by omega), S7.2.1 _ (by omega), A6.2.1 _ (by omega), S5.2.1 _ (by omega), A4.2.1 _ (by omega), S3.2.1 _ (by omega), a2]
      have : ¬ l3 = -1 := fun q => hl q z0
      omega
    · rw [S9.1.2.1 _ (by omega), S8.1.2.1 _ (by omega)]; exact S7a.2
theorem lm_bad1 {nn b : Nat} {g : ms_M} {w : Int × ms_M} {r : ms_M} (V : VS_ g) (hb : kc_O b = 3) (e1 : qf_X3_next nn b g = some w) (e : qf_X3_bad nn b (oq_sub (w.2 b 2) 1) w.2 = some r) : ¬ r b 3 = -1 := by
  have g2 := gI_2 V hb
  have hw := lm_X3_next V hb e1
  rw [bad_ok] at e
  have e := Option.some.inj e
  rw [← e]
  by_cases q : w.2 b 3 = -1
  · rw [if_pos q]
    show ¬ up_M w.2 b 3 (oq_sub (w.2 b 2) 1) b 3 = -1
    rw [up_s]
    rcases hw with ⟨h1, h2⟩ | ⟨h1, h2⟩
    · rw [oq_sub_eq (by omega) (by omega) (by omega)]; omega
    · exact absurd q h2
  · rw [if_neg q]; exact q
theorem ig_readMethod {nn b m : Nat} {h r : ms_M} (hn : 1000000 ≤ nn) (V : VS_ h) (hb : kc_O b = 3) (hm : m ≤ 11) (e : qf_X3_readMethod nn b (12 * (m : Int)) h = some r) : St_ b (12 * m) (12 * m + 12) h r ∧ (r b 3 = -1 → IGm_ r b m) := by
  unfold qf_X3_readMethod at e
  rw [xl_eq, oq_add_eq (by omega) (by omega) (by omega)] at e
  obtain ⟨u31, e31, e⟩ := sv_i e
  have Q1 := okof (vf_X3_nextUpTo hn hb (by omega) (by omega) (by omega) (by omega) V) e31
  have S1 := st_nextUpTo e31
  have e := wa_i e
  rw [show (12 * (m : Int) + 0).toNat = 12 * m by omega] at e
  have A2 : St_ b (12 * m) (12 * m + 1) u31.2 (up_M u31.2 (b + 6) (12 * m) u31.1) := st_w (by omega)
  have V2 : VS_ (up_M u31.2 (b + 6) (12 * m) u31.1) := wIA_6 Q1.1 hb (by have := Q1.2; omega)
  generalize up_M u31.2 (b + 6) (12 * m) u31.1 = g2 at *
  rw [xl_eq, oq_add_eq (by omega) (by omega) (by omega)] at e
  obtain ⟨u36, e36, e⟩ := sv_i e
  have Q3 := okof (vf_X3_nextName hn hb V2) e36
  have S3 := st_nextName e36
  have e := wa_i e
  rw [show (12 * (m : Int) + 1).toNat = 12 * m + 1 by omega] at e
  have A4 : St_ b (12 * m + 1) (12 * m + 2) u36.2 (up_M u36.2 (b + 6) (12 * m + 1) u36.1) := st_w (by omega)
  have V4 : VS_ (up_M u36.2 (b + 6) (12 * m + 1) u36.1) := wIA_6 Q3.1 hb (by have := Q3.2; omega)
  generalize up_M u36.2 (b + 6) (12 * m + 1) u36.1 = g4 at *
  obtain ⟨u39, e39, e⟩ := sv_i e
  have Q5 := okof (vf_X3_next hn hb V4) e39
  have S5 := st_next e39
  obtain ⟨u41, e41, e⟩ := sv_i e
  have P6 := okof (vf_X3_parametersIn hn hb (by have := Q5.2; omega) (by have := Q5.2; omega) Q5.1) e41
  have P6a : -1 ≤ u41 ∧ u41 ≤ 6 := P6
  have T : St_ b (12 * m) (12 * m + 12) h u39.2 := st_t (st_t (st_t S1 A2 (l := 12 * m) (i := 12 * m + 12) (fun _ _ => by omega)) (st_t S3 A4 (l := 12 * m) (i := 12 * m + 12) (fun _ _ => by omega)) (l := 12 * m) (i := 12 * m + 12) (fun _ _ => by omega)) S5 (fun _ _ => by omega)
  have q1 : 0 ≤ u39.1 ∧ u39.1 ≤ 255 := Q5.2
  split at e
  · have R := ig_52 hn Q5.1 hb hm q1 P6a (fun z => absurd z (by assumption)) e
    exact ⟨st_t T R.1 (fun _ _ => by omega), R.2⟩
  · rw [xl_eq] at e
    obtain ⟨u45, e45, e⟩ := sv_i e
    have nb := lm_bad1 V4 hb e39 e45
    have gp := gI_2 Q5.1 hb
    have V45 := okof (vf_X3_bad hn hb (by rw [oq_sub_eq (by omega) (by omega) (by omega)]; omega) (by rw [oq_sub_eq (by omega) (by omega) (by omega)]; omega) Q5.1) e45
    have R := ig_52 hn V45 hb hm q1 P6a (fun _ => nb) e
    exact ⟨st_t T (st_t (st_bad e45) R.1 (l := 12 * m) (i := 12 * m + 12) (fun _ _ => by omega)) (fun _ _ => by omega), R.2⟩
theorem ig_109 {nn b : Nat} {h : ms_M} {r : Int × ms_M} (I : h b 3 = -1 → IG_ h b) (e : qj_X3_read_109 nn b h = some r) : r.1 = -1 → IG_ r.2 b := by
  unfold qj_X3_read_109 at e
  split at e
  · cases e; exact I
  · obtain ⟨w, e1, e⟩ := sv_i e
    cases e
    intro z
    have S := st_bad e1
    exact ig_eq (I (S.1 z)) S.2.2 (fun k => S.2.1 k (by omega))
theorem ig_70 {nn b : Nat} (hn : 1000000 ≤ nn) (hb : kc_O b = 3) : ∀ (k : Nat) (l3 : Int) (m : Nat) {h : ms_M} {r : Int × ms_M}, VS_ h → h b 12 = (m : Int) → (l3 ≤ 12 ∨ ¬ h b 3 = -1) → (h b 3 = -1 → IG_ h b) → qw_X3_read_70 nn k b l3 (m : Int) h = some r → r.1 = -1 → IG_ r.2 b := by
  intro k
  induction k with
  | zero => intro l3 m h r V hm hl I e; cases e
  | succ k ih =>
    intro l3 m h r V hm hl I e
    unfold qw_X3_read_70 at e
    split at e
    · exact ig_109 I e
    · split at e
      · exact ig_109 I e
      · have g12 := gI_12 V hb
        rename_i c1 c2
        have c2 : h b 3 = -1 := Decidable.not_not.1 c2
        have m11 : m ≤ 11 := by omega
        rw [xl_eq, show oq_mul (m : Int) 12 = 12 * (m : Int) by rw [oq_mul_eq (by omega) (by omega) (by omega)]; omega] at e
        obtain ⟨u12, e12, e⟩ := sv_i e
        have R := ig_readMethod hn V hb m11 e12
        have V12 := okof (vf_X3_readMethod hn hb (by omega) (by omega) V) e12
        rw [xl_eq, R.1.2.2, hm, oq_add_eq (by omega) (by omega) (by omega), xl_eq, xl_eq] at e
        have V15 : VS_ (up_M u12 b 12 ((m : Int) + 1)) := wI_12 V12 hb (by omega)
        refine ih l3 (m + 1) V15 (by rw [up_s]; omega) ?_ ?_ e
        · rw [up_n (by omega)]
          by_cases q : u12 b 3 = -1
          · left; omega
          · exact .inr q
        · rw [up_n (by omega)]
          intro z m2 hm2
          rw [up_s] at hm2
          by_cases q : m2 = m
          · subst q
            have := R.2 z
            unfold IGm_ at this ⊢
            rw [up_n (by omega), up_n (by omega), up_n (by omega), up_n (by omega), up_n (by omega), up_n (by omega)]
            exact this
          · have := I c2 m2 (by omega)
            unfold IGm_ at this ⊢
            rw [up_n (by omega), up_n (by omega), up_n (by omega), up_n (by omega), up_n (by omega), up_n (by omega)]
            rw [R.1.2.1 _ (by omega), R.1.2.1 _ (by omega), R.1.2.1 _ (by omega), R.1.2.1 _ (by omega), R.1.2.1 _ (by omega), R.1.2.1 _ (by omega)]
            exact this
theorem ig_read {nn b a1 : Nat} {a2 : Int} {h : ms_M} {r : Int × ms_M} (hn : 1000000 ≤ nn) (V : VS_ h) (hb : kc_O b = 3) (ta : a1 < cn_M h ∧ ly_T a1 = 1) (ha : 0 ≤ a2 ∧ a2 ≤ 6000) (e : qf_X3_read nn b a1 a2 h = some r) : r.1 = -1 → IG_ r.2 b := by
  have hM := V.2.1
  have l2 : 0 ≤ ln_I h a1 := by
    unfold ln_I
    by_cases w : a1 < 256
    · rw [if_pos w]; omega
    · rw [if_neg w]; exact V.2.1.2 a1
  have l1 : ∀ v, ln_I (up_M h b 0 v) a1 = ln_I h a1 := fun v => by unfold ln_I; rw [up_n (by have := kc_lt hb (by decide); omega)]
  unfold qf_X3_read wr_R at e
  split at e
  · unfold ln_S at e
    dsimp only at e
    split at e
    · rw [l1, xl_eq, xl_eq] at e
      have s1 : 0 ≤ (if ln_I h a1 < a2 then ln_I h a1 else a2) ∧ (if ln_I h a1 < a2 then ln_I h a1 else a2) ≤ 6000 ∧ (if ln_I h a1 < a2 then ln_I h a1 else a2) ≤ ln_I h a1 := by split <;> omega
      have V22 : VS_ (up_M (up_M h b 0 ((a1 : Nat) : Int)) b 1 (if ln_I h a1 < a2 then ln_I h a1 else a2)) := vs_rd V hb ta ⟨s1.1, s1.2.1⟩ s1.2.2
      generalize up_M (up_M h b 0 ((a1 : Nat) : Int)) b 1 (if ln_I h a1 < a2 then ln_I h a1 else a2) = h22 at *
      rw [xl_eq] at e
      have V23 : VS_ (up_M h22 b 2 0) := wI_2 V22 hb (by omega)
      generalize up_M h22 b 2 0 = h23 at *
      rw [xl_eq] at e
      have V24 : VS_ (up_M h23 b 3 (-1)) := wI_3 V23 hb (by omega)
      generalize up_M h23 b 3 (-1) = h24 at *
      rw [xl_eq] at e
      have V25 : VS_ (up_M h24 b 10 0) := wI_10 V24 hb (by omega)
      have t25 : up_M h24 b 10 0 b 10 = 0 := up_s
      generalize up_M h24 b 10 0 = h25 at *
      rw [xl_eq] at e
      have V26 : VS_ (up_M h25 b 12 0) := wI_12 V25 hb (by omega)
      have t26 : up_M h25 b 12 0 b 12 = 0 := up_s
      have s26 : up_M h25 b 12 0 b 10 = 0 := by rw [up_n (by omega)]; exact t25
      generalize up_M h25 b 12 0 = h26 at *
      obtain ⟨u28, e28, e⟩ := sv_i e
      have V28 := okof (vf_X3_readConstants hn hb V26) e28
      have t28 : u28 b 12 = h26 b 12 := (pf_X3_readConstants nn hb) _ e28 b 12 ⟨rfl, rfl⟩
      have s28 : u28 b 10 = h26 b 10 := (pf_X3_readConstants nn hb) _ e28 b 10 ⟨rfl, rfl⟩
      obtain ⟨u30, e30, e⟩ := sv_i e
      have V30 := okof (vf_X3_nextPlainClass hn hb V28) e30
      have t30 : u30.2 b 12 = u28 b 12 := (pf_X3_nextPlainClass nn hb) _ e30 b 12 ⟨rfl, rfl⟩
      have s30 : u30.2 b 10 = u28 b 10 := (pf_X3_nextPlainClass nn hb) _ e30 b 10 ⟨rfl, rfl⟩
      rw [xl_eq] at e
      have V31 : VS_ (up_M u30.2 b 8 u30.1) := wI_8 V30.1 hb (by have := V30.2; omega)
      have t31 : up_M u30.2 b 8 u30.1 b 12 = u30.2 b 12 := up_n (by omega)
      have s31 : up_M u30.2 b 8 u30.1 b 10 = u30.2 b 10 := up_n (by omega)
      generalize up_M u30.2 b 8 u30.1 = h31 at *
      obtain ⟨u33, e33, e⟩ := sv_i e
      have V33 := okof (vf_X3_nextPlainClass hn hb V31) e33
      have t33 : u33.2 b 12 = h31 b 12 := (pf_X3_nextPlainClass nn hb) _ e33 b 12 ⟨rfl, rfl⟩
      have s33 : u33.2 b 10 = h31 b 10 := (pf_X3_nextPlainClass nn hb) _ e33 b 10 ⟨rfl, rfl⟩
      rw [xl_eq] at e
      have V34 : VS_ (up_M u33.2 b 9 u33.1) := wI_9 V33.1 hb (by have := V33.2; omega)
      have t34 : up_M u33.2 b 9 u33.1 b 12 = u33.2 b 12 := up_n (by omega)
      have s34 : up_M u33.2 b 9 u33.1 b 10 = u33.2 b 10 := up_n (by omega)
      generalize up_M u33.2 b 9 u33.1 = h34 at *
      obtain ⟨u36, e36, e⟩ := sv_i e
      have V36 := okof (vf_X3_readFields hn hb V34 (by omega)) e36
      have t36 : u36 b 12 = h34 b 12 := (pf_X3_readFields nn hb) _ e36 b 12 ⟨rfl, rfl⟩
      obtain ⟨u38, e38, e⟩ := sv_i e
      have V38 := okof (vf_X3_nextUpTo hn hb (by omega) (by omega) (by omega) (by omega) V36) e38
      have t38 : u38.2 b 12 = u36 b 12 := (pf_X3_nextUpTo nn hb) _ e38 b 12 ⟨rfl, rfl⟩
      have L := lm_X3_nextUpTo V36 hb e38
      refine ig_70 hn hb nn u38.1 0 V38.1 (by rw [t38, t36, t34, t33, t31, t30, t28, t26]; rfl) (by omega) ?_ e
      intro _ m hm
      rw [t38, t36, t34, t33, t31, t30, t28, t26] at hm
      omega
    · cases e
  · cases e
end
section
theorem vs_w60 {M : ms_M} (h : VS_ M) {k : Nat} {y : Int} (h0 : 0 ≤ y) (hy : kc_O y.toNat = 3) : VS_ (up_M M 60 k y) := by
  obtain ⟨h1, h2, h3, h4, h5, h6, h7, h8⟩ := h
  have hl := kc_lt hy (by decide)
  have A : ∀ c2, c2 ≠ 60 → up_M M 60 k y c2 = M c2 := fun c2 z => up_ne c2 z
  have e9 : up_M M 60 k y 900000 = M 900000 := A _ (by omega)
  have e8 : up_M M 60 k y 900001 = M 900001 := A _ (by omega)
  have ec : cn_M (up_M M 60 k y) = cn_M M := by unfold cn_M; rw [e9]
  have el : ∀ d, ln_I (up_M M 60 k y) d = ln_I M d := by intro d; unfold ln_I; rw [e8]
  refine ⟨?_, ?_, ?_, ?_, ?_, ?_, ?_, ?_⟩
  · intro c2 k2 hc2 hk2
    by_cases w : c2 = 60 ∧ k2 = k
    · obtain ⟨rfl, rfl⟩ := w
      rw [up_s]; show -2147483648 ≤ y ∧ y ≤ 2147483647; omega
    · rw [up_n w]; exact h1 c2 k2 hc2 hk2
  · rw [e9, e8]; exact h2
  · intro b hb; rw [A b (fun e => nI_ hb (c := 60) rfl e), ec, el]; exact h3 b hb
  · intro d j hd hd2 hj
    rw [el] at hj
    rw [A d (by omega)]; exact h4 d j hd hd2 hj
  · intro j hj
    by_cases w : j = k
    · subst w; rw [up_s]; exact ⟨h0, hy⟩
    · rw [up_n (by omega)]; exact h5 j hj
  · rw [A 56 (by decide), A 127 (by decide), A 143 (by decide)]; exact h6
  · intro j hj; rw [A 43 (by decide), ec, el]; exact h7 j hj
  · intro j hj; rw [A 55 (by decide), ec, el]; exact h8 j hj
theorem vf_X7_swapSpare {nn : Nat} {a1 : Int} {h : ms_M} (a_a1 : 0 ≤ a1) (b_a1 : a1 ≤ 7) (V_h : VS_ h) : Ok_ (qf_X7_swapSpare nn a1 h) QV_ := by
  unfold qf_X7_swapSpare
  refine ok_rd60 V_h (by omega) ?_; intro v2 n_v2 k_v2
  refine ok_ck (vi_r V_h).1.1 ?_
  unfold wr_QI
  rw [if_pos ⟨⟨by omega, (vi_r V_h).1.2⟩, by omega⟩]
  dsimp only
  refine ok_wR (c := 56) (k := 2) (vs_w60 V_h (Int.natCast_nonneg _) (vi_r V_h).1.2) (.inl ⟨rfl, rfl⟩) n_v2 k_v2 ?_; intro z E_z V_z
  exact ok_rV V_z
theorem vs_nw {M : ms_M} (h : VS_ M) {y : Int} {f : Nat → Int} (hc : M 900000 0 < 700000) (hy : 0 ≤ y) (hf : ∀ k : Nat, (k : Int) < y → -128 ≤ f k ∧ f k ≤ 127) : VS_ (nw_M M y f) ∧ cn_M (nw_M M y f) = cn_M M + 1 ∧ (∀ d, d ≠ cn_M M → d < 900000 → nw_M M y f d = M d) ∧ (∀ d, d ≠ cn_M M → ln_I (nw_M M y f) d = ln_I M d) ∧ ln_I (nw_M M y f) (cn_M M) = y := by
  obtain ⟨h1, ⟨⟨h2a, h2b⟩, h2c⟩, h3, h4, h5, h6, h7, h8⟩ := h
  have hn : (cn_M M : Int) = M 900000 0 := by unfold cn_M; omega
  have A : ∀ d, d ≠ cn_M M → d < 900000 → nw_M M y f d = M d := by
    intro d hd hd9
    funext k
    unfold nw_M
    rw [if_neg hd, if_neg (by omega), if_neg (by omega)]
  have e9 : nw_M M y f 900000 0 = M 900000 0 + 1 := by
    unfold nw_M; rw [if_neg (by omega), if_pos ⟨rfl, rfl⟩]
  have e8 : ∀ k, nw_M M y f 900001 k = if k = cn_M M then y else M 900001 k := by
    intro k
    unfold nw_M
    rw [if_neg (by omega), if_neg (by omega)]
    by_cases w : k = cn_M M
    · rw [if_pos ⟨rfl, w⟩, if_pos w]
    · rw [if_neg (fun z => w z.2), if_neg w]
  have ec : cn_M (nw_M M y f) = cn_M M + 1 := by unfold cn_M; rw [e9]; omega
  have el : ∀ d, d ≠ cn_M M → ln_I (nw_M M y f) d = ln_I M d := by
    intro d hd; unfold ln_I; rw [e8, if_neg hd]
  have el2 : ln_I (nw_M M y f) (cn_M M) = y := by
    unfold ln_I; rw [if_neg (by omega), e8, if_pos rfl]
  have eN : ∀ k, nw_M M y f (cn_M M) k = f k := by intro k; unfold nw_M; rw [if_pos rfl]
  have S : ∀ d, d < 256 → nw_M M y f d = M d := fun d hd => A d (by omega) (by omega)
  refine ⟨⟨?_, ?_, ?_, ?_, ?_, ?_, ?_, ?_⟩, ec, A, el, el2⟩
  · intro c2 k2 hc2 hk2; rw [S c2 hc2]; exact h1 c2 k2 hc2 hk2
  · refine ⟨by rw [e9]; omega, fun c => ?_⟩
    rw [e8]; split
    · exact hy
    · exact h2c c
  · intro b hb
    obtain ⟨⟨g1, g2, g3⟩, g4⟩ := h3 b hb
    rw [S b (kc_lt hb (by decide)), ec, el _ (by omega)]
    exact ⟨⟨g1, by omega, g3⟩, g4⟩
  · intro d j hd hd2 hj
    by_cases w : d = cn_M M
    · subst w; rw [el2] at hj; rw [eN]; exact hf j hj
    · rw [el d w] at hj; rw [A d w hd2]; exact h4 d j hd hd2 hj
  · intro j hj; rw [S 60 (by decide)]; exact h5 j hj
  · rw [S 56 (by decide), S 127 (by decide), S 143 (by decide)]; exact h6
  · intro j hj q; rw [S 43 (by decide)] at q ⊢; have := h7 j hj q; rw [ec, el _ (by omega)]; exact ⟨by omega, this.2⟩
  · intro j hj q; rw [S 55 (by decide)] at q ⊢; have := h8 j hj q; rw [ec, el _ (by omega)]; exact ⟨by omega, this.2⟩
theorem vs_b0 {M : ms_M} (h : VS_ M) {b a : Nat} (hb : kc_O b = 3) (ha : a < cn_M M ∧ ly_T a = 1) (hl : M b 1 ≤ ln_I M a) : VS_ (up_M M b 0 ((a : Nat) : Int)) := by
  have g1 := gI_1 h hb
  have := vs_rd h hb ha g1 hl
  have e : up_M (up_M M b 0 ((a : Nat) : Int)) b 1 (M b 1) = up_M M b 0 ((a : Nat) : Int) := by
    funext c k
    by_cases w : c = b ∧ k = 1
    · obtain ⟨rfl, rfl⟩ := w; rw [up_s, up_n (by omega)]
    · rw [up_n w]
  rw [e] at this; exact this
theorem vf_X3_keepOwn {nn : Nat} {b : Nat} {h : ms_M} (hb : kc_O b = 3) (V : VS_ h) (hc : h 900000 0 < 700000) : Ok_ (qf_X3_keepOwn nn b h) (fun r => VS_ r.1 ∧ r.1 900000 0 = h 900000 0 + 1 ∧ (∀ c k, c < 256 → ¬ (c = b ∧ k = 0) → r.1 c k = h c k) ∧ r.2.1 ≤ 1 ∧ r.2.2 ≤ 6000) := by
  obtain ⟨⟨d1, d2, d3⟩, d4⟩ := vi_b V hb
  have g1 := gI_1 V hb
  have hM := V.2.1.1
  have hb2 := kc_lt hb (by decide)
  unfold qf_X3_keepOwn
  refine ok_ck d1 ?_
  unfold qf_J7_copyOf_9075b
  rw [if_pos ⟨⟨d2, d3⟩, ⟨hM.1, hc⟩, by omega, by omega⟩, mx_svs]
  obtain ⟨n1, n2, n3, n4, n5⟩ := vs_nw V (y := h b 1) (f := fun i => if h b 1 = ln_I h (h b 0).toNat ∨ (i : Int) < h b 1 ∧ (i : Int) < ln_I h (h b 0).toNat then h (h b 0).toNat i else 0) hc g1.1 (by
    intro k hk
    show _ ≤ (if _ then _ else (0 : Int)) ∧ (if _ then _ else (0 : Int)) ≤ _
    split
    · exact vi_y V d2 d3 (by omega)
    · omega)
  have hcn : (cn_M h : Int) = h 900000 0 := by unfold cn_M; omega
  have e1 : nw_M h (h b 1) (fun i => if h b 1 = ln_I h (h b 0).toNat ∨ (i : Int) < h b 1 ∧ (i : Int) < ln_I h (h b 0).toNat then h (h b 0).toNat i else 0) b 1 = h b 1 := by rw [n3 b (by omega) (by omega)]
  have e9 : nw_M h (h b 1) (fun i => if h b 1 = ln_I h (h b 0).toNat ∨ (i : Int) < h b 1 ∧ (i : Int) < ln_I h (h b 0).toNat then h (h b 0).toNat i else 0) 900000 0 = h 900000 0 + 1 := by
    unfold nw_M; rw [if_neg (by omega), if_pos ⟨rfl, rfl⟩]
  have hV := vs_b0 n1 hb (a := cn_M h) ⟨by omega, ly_Tbig (by omega)⟩ (by rw [n5, e1]; omega)
  unfold wr_R
  rw [if_pos (by show -2147483648 ≤ ((cn_M h : Nat) : Int) ∧ ((cn_M h : Nat) : Int) ≤ 2147483647; omega)]
  refine ok_ret ⟨hV, ?_, ?_, ?_, ?_⟩
  · show up_M (nw_M h (h b 1) (fun i => if h b 1 = ln_I h (h b 0).toNat ∨ (i : Int) < h b 1 ∧ (i : Int) < ln_I h (h b 0).toNat then h (h b 0).toNat i else 0)) b 0 _ 900000 0 = _
    rw [up_n (by omega)]; exact e9
  · intro c k hc2 hck
    show up_M (nw_M h (h b 1) (fun i => if h b 1 = ln_I h (h b 0).toNat ∨ (i : Int) < h b 1 ∧ (i : Int) < ln_I h (h b 0).toNat then h (h b 0).toNat i else 0)) b 0 _ c k = _
    rw [up_n hck, n3 c (by omega) (by omega)]
  · show 0 + (0 + 1) ≤ 1; omega
  · show 0 + (0 + (h b 1).toNat) ≤ 6000; omega
theorem c1_keep {nn b : Nat} {h : ms_M} {u : ms_M × Nat × Nat} (e : qf_X3_keepOwn nn b h = some u) : u.2.1 = 1 := by
  unfold qf_X3_keepOwn at e
  obtain ⟨-, e⟩ := ck_i e
  obtain ⟨w, e1, e⟩ := sv_i e
  unfold qf_J7_copyOf_9075b at e1
  split at e1
  · have e1 := Option.some.inj e1
    unfold wr_R at e
    split at e
    · have e := Option.some.inj e
      subst e1; subst e; rfl
    · cases e
  · cases e1
/-- what bring gives: an answer, at most one new row of at most 6000 bytes -/
def QB_ (n0 : Int) : Int × ms_M × Nat × Nat → Prop := fun r => VS_ r.2.1 ∧ (-6302 ≤ r.1 ∧ r.1 ≤ 15) ∧ (n0 ≤ r.2.1 900000 0 ∧ r.2.1 900000 0 ≤ n0 + (r.2.2.1 : Int)) ∧ r.2.2.1 ≤ 1 ∧ r.2.2.2 ≤ 6000
theorem vf_X7_bring {nn : Nat} (hn : 1000000 ≤ nn) {a1 : Nat} {a2 : Int} {h : ms_M} (r_a2 : 0 ≤ a2 ∧ a2 ≤ 6000) (V_h : VS_ h) (t_a1 : a1 < cn_M h ∧ ly_T a1 = 1) (hc : h 900000 0 < 700000) : Ok_ (qf_X7_bring nn a1 a2 h) (QB_ (h 900000 0)) := by
  unfold qf_X7_bring
  refine ok_ck (vi_r V_h).1.1 ?_
  have hb := (vi_r V_h).1.2
  refine ok_ck hb ?_
  refine ok_cI (vf_X3_read hn hb (by omega) (by omega) V_h t_a1 r_a2) ?_; intro u3 E_u3 V_u3 a_u3 b_u3
  have n3 : u3.2 900000 0 = h 900000 0 := (ff_X3_read nn hb) _ E_u3 900000 0 rfl
  have g3 := gF_56_3 V_u3
  refine ok_if ?_ ?_
  · intro C1
    refine ok_ck (vi_r V_u3).1.1 ?_
    have hb3 := (vi_r V_u3).1.2
    refine ok_ck hb3 ?_
    refine ok_if ?_ ?_
    · intro C2
      exact ok_ret ⟨V_u3, by show -6302 ≤ (-1 : Int) ∧ (-1 : Int) ≤ 15; omega, by show h 900000 0 ≤ u3.2 900000 0 ∧ u3.2 900000 0 ≤ h 900000 0 + ((0 : Nat) : Int); omega, Nat.zero_le _, Nat.zero_le _⟩
    · intro C2
      refine ok_ck (vi_r V_u3).1.1 ?_
      refine ok_ck (vi_r V_u3).1.1 ?_
      have s8 := gI_8 V_u3 hb3
      refine ok_cP (vf_X3_textAt hn hb3 (by omega) (by omega) V_u3) ?_; intro u10 e_u10 a_u10 b_u10
      refine ok_ck (vi_r V_u3).1.1 ?_
      refine ok_cP (vf_X3_textEnd hn hb3 (by omega) (by omega) V_u3) ?_; intro u13 e_u13 a_u13 b_u13
      refine ok_cP (vf_X7_classOf hn hb3 (by omega) (by omega) (by omega) (by omega) V_u3) ?_; intro u15 e_u15 a_u15 b_u15
      refine ok_if ?_ ?_
      · intro C3
        refine ok_ck (vi_r V_u3).1.1 ?_
        obtain ⟨u18, E_u18, V_u18, n18, f18, c18, s18⟩ := vf_X3_keepOwn (nn := nn) hb3 V_u3 (by omega)
        rw [E_u18, mx_svs]
        have q18 : u18.1 56 3 = u3.2 56 3 := f18 56 3 (by decide) (fun z => absurd z.2 (by decide))
        refine ok_cV (vf_X7_swapSpare (by omega) (by omega) V_u18) ?_; intro u21 E_u21 V_u21
        have q21 : u21 56 3 = u18.1 56 3 := (ff_X7_swapSpare nn) _ E_u21 56 3 rfl
        have n21 : u21 900000 0 = u18.1 900000 0 := (ff_X7_swapSpare nn) _ E_u21 900000 0 rfl
        refine ok_add (by omega) ?_; intro v23 e_v23
        refine ok_xl ?_; intro h24 E_h24; have V_h24 : VS_ h24 := by rw [E_h24]; exact wF_56_3 V_u21 (by omega)
        have q24 : h24 56 3 = v23 := by rw [E_h24]; exact up_s
        have n24 : h24 900000 0 = u21 900000 0 := by rw [E_h24]; exact up_n (by omega)
        refine ok_cV (vf_X7_relate hn V_h24) ?_; intro u26 E_u26 V_u26
        have q26 : u26 56 3 = h24 56 3 := (ff_X7_relate nn) _ E_u26 56 3 rfl
        have n26 : u26 900000 0 = h24 900000 0 := (ff_X7_relate nn) _ E_u26 900000 0 rfl
        refine ok_add (by omega) ?_; intro v28 e_v28
        refine ok_sub (by omega) ?_; intro v29 e_v29
        refine ok_ret ⟨V_u26, by show -6302 ≤ v29 ∧ v29 ≤ 15; omega, ?_, by show 0 + u18.2.1 ≤ 1; omega, by show 0 + u18.2.2 ≤ 6000; omega⟩
        show h 900000 0 ≤ u26 900000 0 ∧ u26 900000 0 ≤ h 900000 0 + ((0 + u18.2.1 : Nat) : Int)
        have : u18.2.1 = 1 := c1_keep E_u18
        omega
      · intro C3
        exact ok_ret ⟨V_u3, by show -6302 ≤ (-1 : Int) ∧ (-1 : Int) ≤ 15; omega, by show h 900000 0 ≤ u3.2 900000 0 ∧ u3.2 900000 0 ≤ h 900000 0 + ((0 : Nat) : Int); omega, Nat.zero_le _, Nat.zero_le _⟩
  · intro C1
    refine ok_sub (by omega) ?_; intro v32 e_v32
    exact ok_ret ⟨V_u3, by show -6302 ≤ v32 ∧ v32 ≤ 15; omega, by show h 900000 0 ≤ u3.2 900000 0 ∧ u3.2 900000 0 ≤ h 900000 0 + ((0 : Nat) : Int); omega, Nat.zero_le _, Nat.zero_le _⟩
theorem ok_cB {α : Type} {Q : α → Prop} {n0 : Int} {x : Option (Int × ms_M × Nat × Nat)} {F : Int × ms_M × Nat × Nat → Option α} (hx : Ok_ x (QB_ n0)) (h : ∀ a, x = some a → QB_ n0 a → Ok_ (F a) Q) : Ok_ (mx_sv x F) Q := by
  obtain ⟨a, e, hq⟩ := hx
  rw [e, mx_svs]; exact h a e hq
theorem vf_X12_load {nn : Nat} (hn : 1000000 ≤ nn) {h : ms_M} (V_h : VS_ h) (hc : h 900000 0 < 700000) : Ok_ (qf_X12_load nn h) (QB_ (h 900000 0)) := by
  have g1 := gF_0_1 V_h
  unfold qf_X12_load
  refine ok_cB (vf_X7_bring hn g1 V_h ⟨Nat.lt_of_lt_of_le (by decide) (vi_c V_h), rfl⟩ hc) ?_
  rintro u5 E_u5 ⟨V_u5, r5, n5, c5, s5⟩
  refine ok_xl ?_; intro h6 E_h6; have V_h6 : VS_ h6 := by rw [E_h6]; exact wF_0_1 V_u5 (by omega)
  have n6 : h6 900000 0 = u5.2.1 900000 0 := by rw [E_h6]; exact up_n (by omega)
  refine ok_if ?_ ?_
  · intro C1
    refine ok_ret ⟨V_h6, r5, ?_, ?_, ?_⟩
    · show h 900000 0 ≤ h6 900000 0 ∧ h6 900000 0 ≤ h 900000 0 + ((0 + u5.2.2.1 : Nat) : Int); omega
    · show 0 + u5.2.2.1 ≤ 1; omega
    · show 0 + u5.2.2.2 ≤ 6000; omega
  · intro C1
    refine ok_cV (vf_X5_forget hn V_h6) ?_; intro u9 E_u9 V_u9
    have n9 : u9 900000 0 = h6 900000 0 := (ff_X5_forget nn) _ E_u9 900000 0 rfl
    refine ok_ret ⟨V_u9, r5, ?_, ?_, ?_⟩
    · show h 900000 0 ≤ u9 900000 0 ∧ u9 900000 0 ≤ h 900000 0 + ((0 + u5.2.2.1 : Nat) : Int); omega
    · show 0 + u5.2.2.1 ≤ 1; omega
    · show 0 + u5.2.2.2 ≤ 6000; omega
theorem vf_X7_change {nn : Nat} (hn : 1000000 ≤ nn) {a1 a2 a3 : Int} {h : ms_M} (r1 : -2147483648 ≤ a1 ∧ a1 ≤ 2147483647) (V_h : VS_ h) : Ok_ (qf_X7_change nn a1 a2 a3 h) (QI_ 0 1) := by
  unfold qf_X7_change
  refine ok_cO (vf_X7_imageOf hn (by omega) (by omega) V_h) ?_; intro u4 e_u4 o_u4
  refine ok_if (fun _ => ok_rI V_h (by omega) (by omega)) ?_
  intro C1
  refine ok_if (fun _ => ok_rI V_h (by omega) (by omega)) ?_
  intro C2
  have hb := o_u4.resolve_left C1
  refine ok_ck hb ?_
  have s1 := gI_1 V_h hb
  obtain ⟨⟨d1, d2, d3⟩, d4⟩ := vi_b V_h hb
  refine ok_if ?_ (fun _ => ok_rI V_h (by omega) (by omega))
  intro C3
  have a8 : 8 ≤ a1 ∧ a1 ≤ 15 := by
    have g3 := gF_56_3 V_h
    unfold qf_X7_imageOf at e_u4
    split at e_u4
    · cases e_u4; omega
    · rw [xl_eq, oq_add_eq (by omega) (by omega) (by omega)] at e_u4
      split at e_u4
      · cases e_u4; omega
      · omega
  have eo : qf_X3_ownBytes nn u4.toNat h = some (((h u4.toNat 0).toNat : Nat) : Int) := by unfold qf_X3_ownBytes ck_B; rw [if_pos d1]
  rw [eo, mx_svs]
  refine ok_ck (Int.natCast_nonneg _) ?_
  refine ok_rT V_h (c := (h u4.toNat 0).toNat) ⟨d2, d3⟩ (by omega) ?_; intro v11 e_v11 a_v11 b_v11
  refine ok_b ?_; intro v12 a_v12 b_v12
  refine ok_wT V_h (c := (h u4.toNat 0).toNat) ⟨d2, d3⟩ (by omega) ?_; intro h13 E_h13 V_h13
  have nT : ∀ c, ly_T c ≠ 1 → h13 c = h c := fun c hcT => by rw [E_h13]; exact up_ne c (fun e => hcT (e ▸ d3))
  have c13 : cn_M h13 = cn_M h := by rw [E_h13]; exact cn_up (by have := V_h.2.1.1; unfold cn_M at d2; omega)
  have l13 : ∀ c, ln_I h13 c = ln_I h c := fun c => by
    unfold ln_I
    have : h13 900001 = h 900001 := by rw [E_h13]; exact up_ne _ (by have := V_h.2.1.1; unfold cn_M at d2; omega)
    rw [this]
  have e13 : h13 u4.toNat = h u4.toNat := nT _ (by rw [T_img hb]; decide)
  refine ok_ck (vi_r V_h13).1.1 ?_
  have hb13 := (vi_r V_h13).1.2
  refine ok_ck hb13 ?_
  refine ok_cI (vf_X3_read hn hb13 (by rw [e13]; omega) (by rw [e13]; omega) V_h13 ⟨by rw [c13]; exact d2, d3⟩ (by rw [e13]; omega)) ?_; intro u17 E_u17 V_u17 a_u17 b_u17
  have c17 : cn_M u17.2 = cn_M h13 := by
    have z : u17.2 900000 0 = h13 900000 0 := (ff_X3_read nn hb13) _ E_u17 900000 0 rfl
    unfold cn_M; rw [z]
  have l17 : ln_I u17.2 (h u4.toNat 0).toNat = ln_I h13 (h u4.toNat 0).toNat := by
    have z : u17.2 900001 (h u4.toNat 0).toNat = h13 900001 (h u4.toNat 0).toNat := (ff_X3_read nn hb13) _ E_u17 900001 _ rfl
    unfold ln_I; rw [z]
  have back : Ok_ (qj_X7_change_72 nn a2 (((h u4.toNat 0).toNat : Nat) : Int) v11 u17.2) (QI_ 0 1) := by
    unfold qj_X7_change_72
    refine ok_ck (Int.natCast_nonneg _) ?_
    refine ok_wT V_u17 (c := (h u4.toNat 0).toNat) ⟨by rw [c17, c13]; exact d2, d3⟩ (by rw [l17, l13]; omega) ?_; intro h2 E_h2 V_h2
    exact ok_rI V_h2 (by omega) (by omega)
  refine ok_if (fun _ => back) ?_
  intro C4
  refine ok_cP (vf_X7_isNamedAsOther hn (by omega) (by omega) V_u17) ?_; intro u19 e_u19 a_u19 b_u19
  refine ok_if ?_ (fun _ => back)
  intro C5
  refine ok_sub (by omega) ?_; intro v20 e_v20
  refine ok_cV (vf_X7_swapSpare (by omega) (by omega) V_u17) ?_; intro u22 E_u22 V_u22
  refine ok_cV (vf_X7_relate hn V_u22) ?_; intro u24 E_u24 V_u24
  exact ok_rI V_u24 (by omega) (by omega)
theorem vf_X12_patch {nn : Nat} (hn : 1000000 ≤ nn) {a1 a2 a3 : Int} {h : ms_M} (r1 : -2147483648 ≤ a1 ∧ a1 ≤ 2147483647) (V_h : VS_ h) : Ok_ (qf_X12_patch nn a1 a2 a3 h) (QI_ 0 1) := by
  unfold qf_X12_patch
  refine ok_cI (vf_X7_change hn r1 V_h) ?_; intro u3 E_u3 V_u3 a_u3 b_u3
  refine ok_if ?_ ?_
  · intro C1
    refine ok_ck (by omega) ?_
    exact ok_rI V_u3 (by omega) (by omega)
  · intro C1
    refine ok_cV (vf_X5_forget hn V_u3) ?_; intro u7 E_u7 V_u7
    refine ok_ck (by omega) ?_
    exact ok_rI V_u7 (by omega) (by omega)
theorem vf_X12_imageOf {nn : Nat} {a1 : Int} {h : ms_M} (V_h : VS_ h) : Ok_ (qf_X12_imageOf nn a1 h) (fun r => r < 0 ∨ (r.toNat < cn_M h ∧ ly_T r.toNat = 1 ∧ ln_I h r.toNat ≤ 6000)) := by
  unfold qf_X12_imageOf
  refine ok_if (fun _ => ok_ret (.inl (by decide))) ?_
  intro C1
  refine ok_if (fun _ => ok_ret (.inl (by decide))) ?_
  intro C2
  refine ok_if (fun _ => ok_ret (.inl (by decide))) ?_
  intro C3
  unfold rd_A
  rw [if_pos (by omega)]
  refine ok_ret ?_
  by_cases w : h 55 a1.toNat < 0
  · exact .inl w
  · exact .inr (V_h.2.2.2.2.2.2.2 a1.toNat (by omega) (by omega))
theorem vf_X12_keep {nn : Nat} (hn : 1000000 ≤ nn) {a1 : Int} {h : ms_M} (V_h : VS_ h) (hc : h 900000 0 < 700000) : Ok_ (qf_X12_keep nn a1 h) (QB_ (h 900000 0)) := by
  have K : ∀ {s0 : Int} {g : ms_M} {c s : Nat}, VS_ g → -6302 ≤ s0 ∧ s0 ≤ 15 → (h 900000 0 ≤ g 900000 0 ∧ g 900000 0 ≤ h 900000 0 + (c : Int)) → c ≤ 1 → s ≤ 6000 → Ok_ (qj_X12_keep_24 nn s0 g c s) (QB_ (h 900000 0)) := by
    intro s0 g c s V_g r n hc1 hs
    unfold qj_X12_keep_24
    refine ok_if (fun _ => ok_ret ⟨V_g, r, n, hc1, hs⟩) ?_
    intro C1
    refine ok_cV (vf_X5_forget hn V_g) ?_; intro u3 E_u3 V_u3
    have n3 : u3 900000 0 = g 900000 0 := (ff_X5_forget nn) _ E_u3 900000 0 rfl
    exact ok_ret ⟨V_u3, r, by show h 900000 0 ≤ u3 900000 0 ∧ u3 900000 0 ≤ h 900000 0 + (c : Int); omega, hc1, hs⟩
  unfold qf_X12_keep
  obtain ⟨u6, E_u6, q6⟩ := vf_X12_imageOf (nn := nn) (a1 := a1) V_h
  rw [E_u6, mx_svs]
  refine ok_if (fun _ => K V_h (by omega) (by omega) (by omega) (by omega)) ?_
  intro C1
  obtain ⟨t1, t2, t3⟩ := q6.resolve_left C1
  have l0 : 0 ≤ ln_I h u6.toNat := by
    unfold ln_I
    by_cases w : u6.toNat < 256
    · rw [if_pos w]; omega
    · rw [if_neg w]; exact V_h.2.1.2 _
  refine ok_lS ⟨t1, t2⟩ ?_; intro v10 e_v10
  refine ok_cB (vf_X7_bring hn (by omega) V_h ⟨t1, t2⟩ hc) ?_
  rintro u12 E_u12 ⟨V_u12, r12, n12, c12, s12⟩
  exact K V_u12 r12 (by omega) (by omega) (by omega)
theorem vf_X12_image {nn : Nat} {a1 a2 : Int} {h : ms_M} (V_h : VS_ h) : Ok_ (qf_X12_image nn a1 a2 h) (QP_ (-1) 6000) := by
  unfold qf_X12_image
  obtain ⟨u2, E_u2, q2⟩ := vf_X12_imageOf (nn := nn) (a1 := a1) V_h
  rw [E_u2, mx_svs]
  refine ok_if (fun _ => ok_rP (by omega) (by omega)) ?_
  intro C1
  obtain ⟨t1, t2, t3⟩ := q2.resolve_left C1
  have l0 : 0 ≤ ln_I h u2.toNat := by
    unfold ln_I
    by_cases w : u2.toNat < 256
    · rw [if_pos w]; omega
    · rw [if_neg w]; exact V_h.2.1.2 _
  refine ok_if ?_ ?_
  · intro C2
    refine ok_if (fun _ => ok_rP (by omega) (by omega)) ?_
    intro C3
    refine ok_lS ⟨t1, t2⟩ ?_; intro v5 e_v5
    refine ok_if (fun _ => ok_rP (by omega) (by omega)) ?_
    intro C4
    refine ok_rT V_h ⟨t1, t2⟩ (by omega) ?_; intro v6 e_v6 a_v6 b_v6
    refine ok_and (by omega) ?_; intro v7 a_v7 b_v7
    exact ok_rP (by omega) (by omega)
  · intro C2
    refine ok_lS ⟨t1, t2⟩ ?_; intro v10 e_v10
    exact ok_rP (by omega) (by omega)
end
