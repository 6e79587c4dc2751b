set_option maxRecDepth 4000 in
theorem vj_X11_applySimple_103 {nn : Nat} (hn : 1000000 ≤ nn) {l1 : Int} {l2 : Int} {h : ms_M} (a_l1 : 21 ≤ l1) (b_l1 : l1 ≤ 58) (a_l2 : 0 ≤ l2) (b_l2 : l2 ≤ 255) (V_h : VS_ h)  : Ok_ (qj_X11_applySimple_103 nn l1 l2 h) QV_ := by
  unfold qj_X11_applySimple_103
  refine ok_cV (vf_X11_applyLocal hn (by omega) (by omega) (by omega) (by omega) V_h) ?_; intro u2 E_u2 V_u2
  exact ok_rV V_u2
set_option maxRecDepth 4000 in
theorem vj_X11_applySimple_38 {nn : Nat} (hn : 1000000 ≤ nn) {h : ms_M} (V_h : VS_ h)  : Ok_ (qj_X11_applySimple_38 nn h) QV_ := by
  unfold qj_X11_applySimple_38
  refine ok_cV (vf_X11_push hn (by omega) (by omega) V_h) ?_; intro u4 E_u4 V_u4
  exact ok_rV V_u4
set_option maxRecDepth 4000 in
theorem vj_X11_applySimple_26 {nn : Nat} (hn : 1000000 ≤ nn) {l1 : Int} {l2 : Int} {h : ms_M} (a_l1 : 0 ≤ l1) (b_l1 : l1 ≤ 255) (a_l2 : 0 ≤ l2) (b_l2 : l2 ≤ 255) (V_h : VS_ h)  : Ok_ (qj_X11_applySimple_26 nn l1 l2 h) QV_ := by
  unfold qj_X11_applySimple_26
  refine ok_if ?_ ?_
  · intro C0
    exact vj_X11_applySimple_38 hn V_h
  · intro C0
    refine ok_if ?_ ?_
    · intro C1
      refine ok_cP (vf_X11_isArithmetic hn (by omega) (by omega) V_h) ?_; intro u5 e_u5 a_u5 b_u5
      refine ok_if ?_ ?_
      · intro C2
        refine ok_if ?_ ?_
        · intro C3
          exact vj_X11_applySimple_103 hn (by omega) (by omega) (by omega) (by omega) V_h
        · intro C3
          refine ok_if ?_ ?_
          · intro C4
            exact vj_X11_applySimple_103 hn (by omega) (by omega) (by omega) (by omega) V_h
          · intro C4
            refine ok_if ?_ ?_
            · intro C5
              exact vj_X11_applySimple_103 hn (by omega) (by omega) (by omega) (by omega) V_h
            · intro C5
              refine ok_if ?_ ?_
              · intro C6
                refine ok_cP (vf_X11_isJump hn (by omega) (by omega) V_h) ?_; intro u6 e_u6 a_u6 b_u6
                refine ok_if ?_ ?_
                · intro C7
                  refine ok_if ?_ ?_
                  · intro C8
                    refine ok_if ?_ ?_
                    · intro C9
                      refine ok_if ?_ ?_
                      · intro C10
                        refine ok_cV (vf_X11_applyObject hn (by omega) (by omega) (by omega) (by omega) V_h) ?_; intro u8 E_u8 V_u8
                        exact ok_rV V_u8
                      · intro C10
                        refine ok_cV (vf_X11_applyMember hn (by omega) (by omega) (by omega) (by omega) V_h) ?_; intro u10 E_u10 V_u10
                        exact ok_rV V_u10
                    · intro C9
                      refine ok_cV (vf_X11_applyReturn hn (by omega) (by omega) V_h) ?_; intro u13 E_u13 V_u13
                      exact ok_rV V_u13
                  · intro C8
                    refine ok_cV (vf_X11_applyArray hn (by omega) (by omega) V_h) ?_; intro u16 E_u16 V_u16
                    exact ok_rV V_u16
                · intro C7
                  refine ok_cV (vf_X11_applyJump hn (by omega) (by omega) V_h) ?_; intro u19 E_u19 V_u19
                  exact ok_rV V_u19
              · intro C6
                exact vj_X11_applySimple_103 hn (by omega) (by omega) (by omega) (by omega) V_h
      · intro C2
        refine ok_cV (vf_X11_want hn (by omega) (by omega) V_h) ?_; intro u26 E_u26 V_u26
        refine ok_cV (vf_X11_want hn (by omega) (by omega) V_u26) ?_; intro u28 E_u28 V_u28
        refine ok_cV (vf_X11_push hn (by omega) (by omega) V_u28) ?_; intro u30 E_u30 V_u30
        exact ok_rV V_u30
    · intro C1
      exact vj_X11_applySimple_38 hn V_h
set_option maxRecDepth 4000 in
theorem vf_X11_applySimple {nn : Nat} (hn : 1000000 ≤ nn) {a1 : Int} {a2 : Int} {h : ms_M} (a_a1 : 0 ≤ a1) (b_a1 : a1 ≤ 255) (a_a2 : 0 ≤ a2) (b_a2 : a2 ≤ 255) (V_h : VS_ h)  : Ok_ (qf_X11_applySimple nn a1 a2 h) QV_ := by
  unfold qf_X11_applySimple
  refine ok_if ?_ ?_
  · intro C0
    refine ok_if ?_ ?_
    · intro C1
      exact vj_X11_applySimple_26 hn (by omega) (by omega) (by omega) (by omega) V_h
    · intro C1
      refine ok_if ?_ ?_
      · intro C2
        exact vj_X11_applySimple_38 hn V_h
      · intro C2
        exact vj_X11_applySimple_26 hn (by omega) (by omega) (by omega) (by omega) V_h
  · intro C0
    refine ok_cV (vf_X11_push hn (by omega) (by omega) V_h) ?_; intro u37 E_u37 V_u37
    exact ok_rV V_u37
set_option maxRecDepth 4000 in
theorem vf_X11_fits {nn : Nat} (hn : 1000000 ≤ nn) {a1 : Int} {a2 : Int} {h : ms_M} (a_a1 : (-2147483648) ≤ a1) (b_a1 : a1 ≤ 2147483647) (a_a2 : (-1) ≤ a2) (b_a2 : a2 ≤ 65535) (V_h : VS_ h)  : Ok_ (qf_X11_fits nn a1 a2 h) (QP_ 0 1) := by
  unfold qf_X11_fits
  refine ok_if ?_ ?_
  · intro C0
    exact ok_rP (by omega) (by omega)
  · intro C0
    refine ok_cP (vf_X4_fits hn rfl (by omega) (by omega) (by omega) (by omega) V_h) ?_; intro u3 e_u3 a_u3 b_u3
    refine ok_if ?_ ?_
    · intro C1
      exact ok_rP (by omega) (by omega)
    · intro C1
      exact ok_rP (by omega) (by omega)
set_option maxRecDepth 4000 in
theorem vw_X11_fitsLocals_4 {nn : Nat} (hn : 1000000 ≤ nn) : ∀ (k : Nat) {l1 : Int} {l2 : Int} {l3 : Int} {h : ms_M} (a_l1 : 0 ≤ l1) (b_l1 : l1 ≤ 6336) (a_l2 : 0 ≤ l2) (b_l2 : l2 ≤ 1) (a_l3 : 0 ≤ l3) (b_l3 : l3 ≤ 30) (V_h : VS_ h) (x_0 : 0 ≤ h 133 (l1 + 1).toNat ∧ h 133 (l1 + 1).toNat ≤ 30)  (hm : 31 - l3 < (k : Int)), Ok_ (qw_X11_fitsLocals_4 nn k l1 l2 l3 h) (QP_ 0 1) := by
  intro k
  induction k with
  | zero => intros; exfalso; omega
  | succ k ih =>
    intro l1 l2 l3 h a_l1 b_l1 a_l2 b_l2 a_l3 b_l3 V_h x_0 hm
    unfold qw_X11_fitsLocals_4
    refine ok_add (by omega) ?_; intro v2 e_v2
    refine ok_rd (by omega) (gA_133 V_h) ?_; intro v3 e_v3 a_v3 b_v3
    have z3 : v3 ≤ 30 := by rw [e_v3, e_v2]; exact x_0.2
    refine ok_if ?_ ?_
    · intro C0
      refine ok_ck (by omega) ?_
      exact ok_rP (by omega) (by omega)
    · intro C0
      refine ok_if ?_ ?_
      · intro C1
        refine ok_ck (by omega) ?_
        exact ok_rP (by omega) (by omega)
      · intro C1
        refine ok_rd (by omega) (gA_134 V_h) ?_; intro v7 e_v7 a_v7 b_v7
        refine ok_add (by omega) ?_; intro v9 e_v9
        refine ok_add (by omega) ?_; intro v10 e_v10
        refine ok_rd (by omega) (gA_133 V_h) ?_; intro v11 e_v11 a_v11 b_v11
        refine ok_cP (vf_X11_fits hn (by omega) (by omega) (by omega) (by omega) V_h) ?_; intro u13 e_u13 a_u13 b_u13
        refine ok_add (by omega) ?_; intro v14 e_v14
        exact ih (by omega) (by omega) (by omega) (by omega) (by omega) (by omega) V_h (by omega) (by omega)
set_option maxRecDepth 4000 in
theorem vf_X11_fitsLocals {nn : Nat} (hn : 1000000 ≤ nn) {a1 : Int} {h : ms_M} (a_a1 : 0 ≤ a1) (b_a1 : a1 ≤ 6336) (V_h : VS_ h) (x_0 : 0 ≤ h 133 (a1 + 1).toNat ∧ h 133 (a1 + 1).toNat ≤ 30)  : Ok_ (qf_X11_fitsLocals nn a1 h) (QP_ 0 1) := by
  unfold qf_X11_fitsLocals
  exact vw_X11_fitsLocals_4 hn _ (by omega) (by omega) (by omega) (by omega) (by omega) (by omega) V_h (by omega) (by omega)
set_option maxRecDepth 4000 in
theorem vw_X11_fitsFrame_37 {nn : Nat} (hn : 1000000 ≤ nn) : ∀ (k : Nat) {l2 : Int} {l3 : Int} {l4 : Int} {h : ms_M} (a_l2 : 0 ≤ l2) (b_l2 : l2 ≤ 6336) (a_l3 : 0 ≤ l3) (b_l3 : l3 ≤ 1) (a_l4 : 0 ≤ l4) (b_l4 : l4 ≤ 30) (V_h : VS_ h)  (hm : 31 - l4 < (k : Int)), Ok_ (qw_X11_fitsFrame_37 nn k l2 l3 l4 h) (QP_ 0 1) := by
  intro k
  induction k with
  | zero => intros; exfalso; omega
  | succ k ih =>
    intro l2 l3 l4 h a_l2 b_l2 a_l3 b_l3 a_l4 b_l4 V_h hm
    unfold qw_X11_fitsFrame_37
    have T1 := gF_127_18 V_h
    refine ok_if ?_ ?_
    · intro C1
      refine ok_ck (by omega) ?_
      exact ok_rP (by omega) (by omega)
    · intro C1
      refine ok_if ?_ ?_
      · intro C2
        refine ok_ck (by omega) ?_
        exact ok_rP (by omega) (by omega)
      · intro C2
        refine ok_rd (by omega) (gA_135 V_h) ?_; intro v5 e_v5 a_v5 b_v5
        refine ok_add (by omega) ?_; intro v7 e_v7
        refine ok_add (by omega) ?_; intro v8 e_v8
        refine ok_rd (by omega) (gA_133 V_h) ?_; intro v9 e_v9 a_v9 b_v9
        refine ok_cP (vf_X11_fits hn (by omega) (by omega) (by omega) (by omega) V_h) ?_; intro u11 e_u11 a_u11 b_u11
        refine ok_add (by omega) ?_; intro v12 e_v12
        exact ih (by omega) (by omega) (by omega) (by omega) (by omega) (by omega) V_h (by omega)
set_option maxRecDepth 4000 in
theorem vj_X11_fitsFrame_32 {nn : Nat} (hn : 1000000 ≤ nn) {l2 : Int} {h : ms_M} (a_l2 : 0 ≤ l2) (b_l2 : l2 ≤ 6336) (V_h : VS_ h)  : Ok_ (qj_X11_fitsFrame_32 nn l2 h) (QP_ 0 1) := by
  unfold qj_X11_fitsFrame_32
  exact vw_X11_fitsFrame_37 hn _ (by omega) (by omega) (by omega) (by omega) (by omega) (by omega) V_h (by omega)
set_option maxRecDepth 4000 in
theorem vf_X11_fitsFrame {nn : Nat} (hn : 1000000 ≤ nn) {a1 : Int} {h : ms_M} (a_a1 : 0 ≤ a1) (b_a1 : a1 ≤ 99) (V_h : VS_ h) (x_0 : 0 ≤ h 133 (a1 * 64 + 1).toNat ∧ h 133 (a1 * 64 + 1).toNat ≤ 30) (x_1 : 0 ≤ h 133 (a1 * 64 + 2).toNat ∧ h 133 (a1 * 64 + 2).toNat ≤ 30)  : Ok_ (qf_X11_fitsFrame nn a1 h) (QP_ 0 1) := by
  unfold qf_X11_fitsFrame
  refine ok_mul (by omega) ?_; intro v15 e_v15
  refine ok_add (by omega) ?_; intro v17 e_v17
  refine ok_rd (by omega) (gA_133 V_h) ?_; intro v18 e_v18 a_v18 b_v18
  have T1 := gF_127_18 V_h
  refine ok_if ?_ ?_
  · intro C1
    exact vj_X11_fitsFrame_32 hn (by omega) (by omega) V_h
  · intro C1
    refine ok_cP (vf_X11_fitsLocals hn (by omega) (by omega) V_h (by rw [e_v15]; exact x_0)) ?_; intro u21 e_u21 a_u21 b_u21
    refine ok_if ?_ ?_
    · intro C2
      exact vj_X11_fitsFrame_32 hn (by omega) (by omega) V_h
    · intro C2
      exact vw_X11_fitsFrame_37 hn _ (by omega) (by omega) (by omega) (by omega) (by omega) (by omega) V_h (by omega)
set_option maxRecDepth 4000 in
theorem vj_X11_fitsHandlers_106 {nn : Nat} (hn : 1000000 ≤ nn) {qkk_4 : Int → Int → Int → ms_M → Option Int} {K_kk_4 : Int} (hk_kk_4 : ∀ {l1 : Int} {l2 : Int} {l3 : Int} {h : ms_M} (a_l1 : 0 ≤ l1) (b_l1 : l1 ≤ 1499) (a_l2 : 0 ≤ l2) (b_l2 : l2 ≤ 1) (a_l3 : 0 ≤ l3) (b_l3 : l3 ≤ 65535) (V_h : VS_ h) (N_h : VF_ h) (_ : 65536 - l3 < K_kk_4), Ok_ (qkk_4 l1 l2 l3 h) (QP_ 0 1)) {l1 : Int} {l3 : Int} {h : ms_M} (a_l1 : 0 ≤ l1) (b_l1 : l1 ≤ 1499) (a_l3 : 0 ≤ l3) (b_l3 : l3 ≤ 65534) (V_h : VS_ h) (N_h : VF_ h) (hm_kk_4 : 65536 - l3 + 0 ≤ K_kk_4) : Ok_ (qj_X11_fitsHandlers_106 nn qkk_4 l1 l3 h) (QP_ 0 1) := by
  unfold qj_X11_fitsHandlers_106
  refine ok_add (by omega) ?_; intro v1 e_v1
  exact hk_kk_4 (by omega) (by omega) (by omega) (by omega) (by omega) (by omega) V_h N_h (by omega)
set_option maxRecDepth 4000 in
theorem vw_X11_fitsHandlers_4 {nn : Nat} (hn : 1000000 ≤ nn) : ∀ (k : Nat) {l1 : Int} {l2 : Int} {l3 : Int} {h : ms_M} (a_l1 : 0 ≤ l1) (b_l1 : l1 ≤ 1499) (a_l2 : 0 ≤ l2) (b_l2 : l2 ≤ 1) (a_l3 : 0 ≤ l3) (b_l3 : l3 ≤ 65535) (V_h : VS_ h) (N_h : VF_ h)  (hm : 65536 - l3 < (k : Int)), Ok_ (qw_X11_fitsHandlers_4 nn k l1 l2 l3 h) (QP_ 0 1) := by
  intro k
  induction k with
  | zero => intros; exfalso; omega
  | succ k ih =>
    intro l1 l2 l3 h a_l1 b_l1 a_l2 b_l2 a_l3 b_l3 V_h N_h hm
    unfold qw_X11_fitsHandlers_4
    refine ok_cP (vf_X11_info hn (by omega) (by omega) V_h) ?_; intro u3 e_u3 a_u3 b_u3
    have T1 := lm_info7 V_h N_h.1 e_u3
    refine ok_if ?_ ?_
    · intro C1
      refine ok_ck (by omega) ?_
      exact ok_rP (by omega) (by omega)
    · intro C1
      refine ok_if ?_ ?_
      · intro C2
        refine ok_ck (by omega) ?_
        exact ok_rP (by omega) (by omega)
      · intro C2
        refine ok_cP (vf_X11_handler hn (by omega) (by omega) (by omega) (by omega) V_h) ?_; intro u7 e_u7 a_u7 b_u7
        refine ok_if ?_ ?_
        · intro C3
          refine ok_add (by omega) ?_; intro v8 e_v8
          exact ih (by omega) (by omega) (by omega) (by omega) (by omega) (by omega) V_h N_h (by omega)
        · intro C3
          refine ok_cP (vf_X11_handler hn (by omega) (by omega) (by omega) (by omega) V_h) ?_; intro u10 e_u10 a_u10 b_u10
          refine ok_if ?_ ?_
          · intro C4
            refine ok_add (by omega) ?_; intro v11 e_v11
            exact ih (by omega) (by omega) (by omega) (by omega) (by omega) (by omega) V_h N_h (by omega)
          · intro C4
            refine ok_cP (vf_X11_handler hn (by omega) (by omega) (by omega) (by omega) V_h) ?_; intro u13 e_u13 a_u13 b_u13
            refine ok_cP (vf_X11_frameAt hn (by omega) (by omega) V_h) ?_; intro u15 e_u15 a_u15 b_u15
            have T6 := lm_frameAt V_h N_h.2 e_u15
            refine ok_mul (by omega) ?_; intro v16 e_v16
            have z16 := lm_frameAt V_h N_h.2 e_u15
            have z17 : 0 ≤ v16 → 0 ≤ h 133 (v16 + 1).toNat ∧ h 133 (v16 + 1).toNat ≤ 30 := fun q => by rw [e_v16]; omega
            refine ok_if ?_ ?_
            · intro C6
              exact vj_X11_fitsHandlers_106 hn ih (by omega) (by omega) (by omega) (by omega) V_h N_h (by omega)
            · intro C6
              refine ok_cP (vf_X11_fitsLocals hn (by omega) (by omega) V_h (z17 (by omega))) ?_; intro u18 e_u18 a_u18 b_u18
              refine ok_if ?_ ?_
              · intro C7
                exact vj_X11_fitsHandlers_106 hn ih (by omega) (by omega) (by omega) (by omega) V_h N_h (by omega)
              · intro C7
                refine ok_add (by omega) ?_; intro v20 e_v20
                refine ok_rd (by omega) (gA_133 V_h) ?_; intro v21 e_v21 a_v21 b_v21
                refine ok_if ?_ ?_
                · intro C8
                  exact vj_X11_fitsHandlers_106 hn ih (by omega) (by omega) (by omega) (by omega) V_h N_h (by omega)
                · intro C8
                  refine ok_cP (vf_X11_handlerClass hn (by omega) (by omega) V_h) ?_; intro u23 e_u23 a_u23 b_u23
                  refine ok_add (by omega) ?_; intro v25 e_v25
                  refine ok_rd (by omega) (gA_133 V_h) ?_; intro v26 e_v26 a_v26 b_v26
                  refine ok_cP (vf_X11_fits hn (by omega) (by omega) (by omega) (by omega) V_h) ?_; intro u28 e_u28 a_u28 b_u28
                  refine ok_if ?_ ?_
                  · intro C9
                    exact vj_X11_fitsHandlers_106 hn ih (by omega) (by omega) (by omega) (by omega) V_h N_h (by omega)
                  · intro C9
                    refine ok_add (by omega) ?_; intro v29 e_v29
                    exact ih (by omega) (by omega) (by omega) (by omega) (by omega) (by omega) V_h N_h (by omega)
set_option maxRecDepth 4000 in
theorem vf_X11_fitsHandlers {nn : Nat} (hn : 1000000 ≤ nn) {a1 : Int} {h : ms_M} (a_a1 : 0 ≤ a1) (b_a1 : a1 ≤ 1499) (V_h : VS_ h) (N_h : VF_ h)  : Ok_ (qf_X11_fitsHandlers nn a1 h) (QP_ 0 1) := by
  unfold qf_X11_fitsHandlers
  exact vw_X11_fitsHandlers_4 hn _ (by omega) (by omega) (by omega) (by omega) (by omega) (by omega) V_h N_h (by omega)
set_option maxRecDepth 4000 in
theorem vj_X11_isMemberRight_131 {nn : Nat} (hn : 1000000 ≤ nn) {s0 : Int} {s1 : Int} {h : ms_M} (a_s0 : 0 ≤ s0) (b_s0 : s0 ≤ 1) (a_s1 : 0 ≤ s1) (b_s1 : s1 ≤ 1) (V_h : VS_ h)  : Ok_ (qj_X11_isMemberRight_131 nn s0 s1 h) (QP_ 0 1) := by
  unfold qj_X11_isMemberRight_131
  refine ok_if ?_ ?_
  · intro C0
    exact ok_rP (by omega) (by omega)
  · intro C0
    exact ok_rP (by omega) (by omega)
set_option maxRecDepth 4000 in
theorem vj_X11_isMemberRight_115 {nn : Nat} (hn : 1000000 ≤ nn) {l1 : Int} {s0 : Int} {h : ms_M} (a_l1 : 180 ≤ l1) (b_l1 : l1 ≤ 184) (a_s0 : 0 ≤ s0) (b_s0 : s0 ≤ 1) (V_h : VS_ h)  : Ok_ (qj_X11_isMemberRight_115 nn l1 s0 h) (QP_ 0 1) := by
  unfold qj_X11_isMemberRight_115
  refine ok_if ?_ ?_
  · intro C0
    exact vj_X11_isMemberRight_131 hn (by omega) (by omega) (by omega) (by omega) V_h
  · intro C0
    exact vj_X11_isMemberRight_131 hn (by omega) (by omega) (by omega) (by omega) V_h
set_option maxRecDepth 4000 in
theorem vj_X11_isMemberRight_114 {nn : Nat} (hn : 1000000 ≤ nn) {l1 : Int} {h : ms_M} (a_l1 : 180 ≤ l1) (b_l1 : l1 ≤ 184) (V_h : VS_ h)  : Ok_ (qj_X11_isMemberRight_114 nn l1 h) (QP_ 0 1) := by
  unfold qj_X11_isMemberRight_114
  exact vj_X11_isMemberRight_115 hn (by omega) (by omega) (by omega) (by omega) V_h
set_option maxRecDepth 4000 in
theorem vj_X11_isMemberRight_87 {nn : Nat} (hn : 1000000 ≤ nn) {l1 : Int} {l3 : Int} {l4 : Int} {l5 : Int} {s0 : Int} {s1 : Int} {h : ms_M} (a_l1 : 180 ≤ l1) (b_l1 : l1 ≤ 184) (a_l3 : 0 ≤ l3) (b_l3 : l3 ≤ 1) (a_l4 : 0 ≤ l4) (b_l4 : l4 ≤ 95) (n_l5 : 0 ≤ l5) (k_l5 : kc_O (l5).toNat = 3) (a_s0 : 0 ≤ s0) (b_s0 : s0 ≤ 1) (a_s1 : 0 ≤ s1) (b_s1 : s1 ≤ 1) (V_h : VS_ h)  : Ok_ (qj_X11_isMemberRight_87 nn l1 l3 l4 l5 s0 s1 h) (QP_ 0 1) := by
  unfold qj_X11_isMemberRight_87
  refine ok_if ?_ ?_
  · intro C0
    refine ok_if ?_ ?_
    · intro C1
      exact vj_X11_isMemberRight_114 hn (by omega) (by omega) V_h
    · intro C1
      refine ok_rem (n := 12) (by omega) ?_; intro v3 e_v3
      refine ok_ck n_l5 ?_
      have hb1 : kc_O (l5).toNat = 3 := k_l5
      refine ok_ck hb1 ?_
      refine ok_cP (vf_X3_of hn hb1 (by omega) (by omega) (by omega) (by omega) V_h) ?_; intro u6 e_u6 a_u6 b_u6
      refine ok_if ?_ ?_
      · intro C2
        exact vj_X11_isMemberRight_114 hn (by omega) (by omega) V_h
      · intro C2
        exact vj_X11_isMemberRight_115 hn (by omega) (by omega) (by omega) (by omega) V_h
  · intro C0
    exact ok_rP (by omega) (by omega)
set_option maxRecDepth 4000 in
theorem vj_X11_isMemberRight_56 {nn : Nat} (hn : 1000000 ≤ nn) {l1 : Int} {l3 : Int} {s0 : Int} {h : ms_M} (a_l1 : 180 ≤ l1) (b_l1 : l1 ≤ 184) (a_l3 : 0 ≤ l3) (b_l3 : l3 ≤ 1) (a_s0 : (-1) ≤ s0) (b_s0 : s0 ≤ 95) (V_h : VS_ h)  : Ok_ (qj_X11_isMemberRight_56 nn l1 l3 s0 h) (QP_ 0 1) := by
  unfold qj_X11_isMemberRight_56
  refine ok_cO (vf_X7_imageOfMember hn (by omega) (by omega) V_h) ?_; intro u12 e_u12 o_u12
  have T1 := po_X7_imageOfMember V_h e_u12
  refine ok_if ?_ ?_
  · intro C1
    exact ok_rP (by omega) (by omega)
  · intro C1
    refine ok_if ?_ ?_
    · intro C2
      exact vj_X11_isMemberRight_87 hn (by omega) (by omega) (by omega) (by omega) (by omega) (by omega) (by omega) (o_u12.resolve_left C1) (by omega) (by omega) (by omega) (by omega) V_h
    · intro C2
      exact vj_X11_isMemberRight_87 hn (by omega) (by omega) (by omega) (by omega) (by omega) (by omega) (by omega) (o_u12.resolve_left C1) (by omega) (by omega) (by omega) (by omega) V_h
set_option maxRecDepth 4000 in
theorem vj_X11_isMemberRight_33 {nn : Nat} (hn : 1000000 ≤ nn) {l1 : Int} {l2 : Int} {s0 : Int} {h : ms_M} (a_l1 : 180 ≤ l1) (b_l1 : l1 ≤ 184) (a_l2 : 0 ≤ l2) (b_l2 : l2 ≤ 255) (a_s0 : 0 ≤ s0) (b_s0 : s0 ≤ 1) (V_h : VS_ h)  : Ok_ (qj_X11_isMemberRight_33 nn l1 l2 s0 h) (QP_ 0 1) := by
  unfold qj_X11_isMemberRight_33
  refine ok_ck (vi_r V_h).2.1.1 ?_
  have hb1 : kc_O (h 127 5).toNat = 3 := (vi_r V_h).2.1.2
  refine ok_ck hb1 ?_
  refine ok_cP (vf_X3_tagOf hn hb1 (by omega) (by omega) V_h) ?_; intro u18 e_u18 a_u18 b_u18
  refine ok_if ?_ ?_
  · intro C0
    exact vj_X11_isMemberRight_56 hn (by omega) (by omega) (by omega) (by omega) (by omega) (by omega) V_h
  · intro C0
    refine ok_rd (by omega) (gA_129 V_h) ?_; intro v20 e_v20 a_v20 b_v20
    exact vj_X11_isMemberRight_56 hn (by omega) (by omega) (by omega) (by omega) (by omega) (by omega) V_h
set_option maxRecDepth 4000 in
theorem vf_X11_isMemberRight {nn : Nat} (hn : 1000000 ≤ nn) {a1 : Int} {a2 : Int} {h : ms_M} (a_a1 : 180 ≤ a1) (b_a1 : a1 ≤ 184) (a_a2 : 0 ≤ a2) (b_a2 : a2 ≤ 255) (V_h : VS_ h)  : Ok_ (qf_X11_isMemberRight nn a1 a2 h) (QP_ 0 1) := by
  unfold qf_X11_isMemberRight
  refine ok_ck (vi_r V_h).2.1.1 ?_
  refine ok_ck (vi_r V_h).2.1.1 ?_
  refine ok_ck (vi_r V_h).2.1.1 ?_
  have hb1 : kc_O (h 127 5).toNat = 3 := (vi_r V_h).2.1.2
  refine ok_ck hb1 ?_
  refine ok_cP (vf_X3_partOf hn hb1 (by omega) (by omega) (by omega) (by omega) V_h) ?_; intro u26 e_u26 a_u26 b_u26
  refine ok_cP (vf_X3_textAt hn hb1 (by omega) (by omega) V_h) ?_; intro u28 e_u28 a_u28 b_u28
  refine ok_cP (vf_X3_byteAt hn hb1 (by omega) (by omega) V_h) ?_; intro u30 e_u30 a_u30 b_u30
  refine ok_if ?_ ?_
  · intro C0
    exact vj_X11_isMemberRight_33 hn (by omega) (by omega) (by omega) (by omega) (by omega) (by omega) V_h
  · intro C0
    exact vj_X11_isMemberRight_33 hn (by omega) (by omega) (by omega) (by omega) (by omega) (by omega) V_h
set_option maxRecDepth 4000 in
theorem vj_X11_isConstantRight_152 {nn : Nat} (hn : 1000000 ≤ nn) {l1 : Int} {l2 : Int} {h : ms_M} (a_l1 : 180 ≤ l1) (b_l1 : l1 ≤ 184) (a_l2 : 0 ≤ l2) (b_l2 : l2 ≤ 255) (V_h : VS_ h)  : Ok_ (qj_X11_isConstantRight_152 nn l1 l2 h) (QP_ 0 1) := by
  unfold qj_X11_isConstantRight_152
  refine ok_cP (vf_X11_isMemberRight hn (by omega) (by omega) (by omega) (by omega) V_h) ?_; intro u2 e_u2 a_u2 b_u2
  refine ok_ck (by omega) ?_
  exact ok_rP (by omega) (by omega)
set_option maxRecDepth 4000 in
theorem vj_X11_isConstantRight_110 {nn : Nat} (hn : 1000000 ≤ nn) {l2 : Int} {h : ms_M} (a_l2 : 0 ≤ l2) (b_l2 : l2 ≤ 255) (V_h : VS_ h)  : Ok_ (qj_X11_isConstantRight_110 nn l2 h) (QP_ 0 1) := by
  unfold qj_X11_isConstantRight_110
  refine ok_ck (vi_r V_h).2.1.1 ?_
  have hb1 : kc_O (h 127 5).toNat = 3 := (vi_r V_h).2.1.2
  refine ok_ck hb1 ?_
  refine ok_cP (vf_X3_tagOf hn hb1 (by omega) (by omega) V_h) ?_; intro u6 e_u6 a_u6 b_u6
  refine ok_if ?_ ?_
  · intro C0
    exact ok_rP (by omega) (by omega)
  · intro C0
    refine ok_rd (by omega) (gA_128 V_h) ?_; intro v8 e_v8 a_v8 b_v8
    refine ok_cP (vf_X4_isClass hn (by omega) (by omega) V_h) ?_; intro u9 e_u9 a_u9 b_u9
    have T2 := pr_X4_isClass e_u9
    refine ok_if ?_ ?_
    · intro C2
      exact ok_rP (by omega) (by omega)
    · intro C2
      exact ok_rP (by omega) (by omega)
set_option maxRecDepth 4000 in
theorem vf_X11_isConstantRight {nn : Nat} (hn : 1000000 ≤ nn) {a1 : Int} {a2 : Int} {h : ms_M} (a_a1 : 0 ≤ a1) (b_a1 : a1 ≤ 255) (a_a2 : 0 ≤ a2) (b_a2 : a2 ≤ 255) (V_h : VS_ h)  : Ok_ (qf_X11_isConstantRight nn a1 a2 h) (QP_ 0 1) := by
  unfold qf_X11_isConstantRight
  refine ok_if ?_ ?_
  · intro C0
    refine ok_ck (vi_r V_h).2.1.1 ?_
    have hb1 : kc_O (h 127 5).toNat = 3 := (vi_r V_h).2.1.2
    refine ok_ck hb1 ?_
    refine ok_cP (vf_X3_tagOf hn hb1 (by omega) (by omega) V_h) ?_; intro u14 e_u14 a_u14 b_u14
    refine ok_if ?_ ?_
    · intro C1
      exact ok_rP (by omega) (by omega)
    · intro C1
      exact ok_rP (by omega) (by omega)
  · intro C0
    refine ok_if ?_ ?_
    · intro C2
      exact vj_X11_isConstantRight_152 hn (by omega) (by omega) (by omega) (by omega) V_h
    · intro C2
      refine ok_if ?_ ?_
      · intro C3
        exact vj_X11_isConstantRight_152 hn (by omega) (by omega) (by omega) (by omega) V_h
      · intro C3
        refine ok_if ?_ ?_
        · intro C4
          exact vj_X11_isConstantRight_152 hn (by omega) (by omega) (by omega) (by omega) V_h
        · intro C4
          refine ok_if ?_ ?_
          · intro C5
            exact vj_X11_isConstantRight_152 hn (by omega) (by omega) (by omega) (by omega) V_h
          · intro C5
            refine ok_if ?_ ?_
            · intro C6
              exact vj_X11_isConstantRight_110 hn (by omega) (by omega) V_h
            · intro C6
              refine ok_if ?_ ?_
              · intro C7
                refine ok_if ?_ ?_
                · intro C8
                  exact ok_rP (by omega) (by omega)
                · intro C8
                  exact ok_rP (by omega) (by omega)
              · intro C7
                refine ok_if ?_ ?_
                · intro C9
                  exact vj_X11_isConstantRight_110 hn (by omega) (by omega) V_h
                · intro C9
                  refine ok_if ?_ ?_
                  · intro C10
                    exact vj_X11_isConstantRight_110 hn (by omega) (by omega) V_h
                  · intro C10
                    refine ok_if ?_ ?_
                    · intro C11
                      exact vj_X11_isConstantRight_110 hn (by omega) (by omega) V_h
                    · intro C11
                      exact ok_rP (by omega) (by omega)
set_option maxRecDepth 4000 in
theorem vf_X11_takeFrame {nn : Nat} (hn : 1000000 ≤ nn) {a1 : Int} {h : ms_M} (a_a1 : 0 ≤ a1) (b_a1 : a1 ≤ 99) (V_h : VS_ h) (x_0 : 0 ≤ h 133 (a1 * 64 + 1).toNat ∧ h 133 (a1 * 64 + 1).toNat ≤ 30) (x_1 : 0 ≤ h 133 (a1 * 64 + 2).toNat ∧ h 133 (a1 * 64 + 2).toNat ≤ 30)  : Ok_ (qf_X11_takeFrame nn a1 h) QV_ := by
  unfold qf_X11_takeFrame
  refine ok_mul (by omega) ?_; intro v1 e_v1
  refine ok_cV (vfill hn V_h (show 134 < 256 by decide) rfl (show 30 ≤ 100000 by decide) (fun _ _ z => wA_134 z (by omega))) ?_; intro u3 E_u3 V_u3
  refine ok_add (by omega) ?_; intro v5 e_v5
  refine ok_add (by omega) ?_; intro v8 e_v8
  refine ok_rd (by omega) (gA_133 V_u3) ?_; intro v9 e_v9 a_v9 b_v9
  have z9 : 0 ≤ v9 ∧ v9 ≤ 30 := by rw [e_v9, e_v8, e_v1, show u3 133 (a1 * 64 + 1).toNat = h 133 (a1 * 64 + 1).toNat from (ff_J7_fill_53178 nn) _ E_u3 133 _ (show 133 ≠ 134 by decide)]; exact x_0
  refine ok_cp V_u3 (gA_133 V_u3) rfl (show _ ∧ _ ∧ _ ∧ _ + _ ≤ (6400 : Int) ∧ _ + _ ≤ (30 : Int) by omega) (fun z y => wA_134 z (by omega)) ?_; intro h10 V_h10 F_h10
  refine ok_add (by omega) ?_; intro v12 e_v12
  refine ok_rd (by omega) (gA_133 V_h10) ?_; intro v13 e_v13 a_v13 b_v13
  have z13 : 0 ≤ v13 ∧ v13 ≤ 30 := by rw [e_v13, e_v12, e_v1, F_h10 _ _ (by decide), show u3 133 (a1 * 64 + 2).toNat = h 133 (a1 * 64 + 2).toNat from (ff_J7_fill_53178 nn) _ E_u3 133 _ (show 133 ≠ 134 by decide)]; exact x_1
  refine ok_xl ?_; intro h14 E_h14; have V_h14 : VS_ h14 := by rw [E_h14]; exact wF_127_18 V_h10 (by omega)
  have T1 : h14 127 18 = v13 := by rw [E_h14]; exact up_s
  refine ok_add (by omega) ?_; intro v16 e_v16
  refine ok_cp V_h14 (gA_133 V_h14) rfl (show _ ∧ _ ∧ _ ∧ _ + _ ≤ (6400 : Int) ∧ _ + _ ≤ (30 : Int) by omega) (fun z y => wA_135 z (by omega)) ?_; intro h19 V_h19 F_h19
  exact ok_rV V_h19
set_option maxRecDepth 4000 in
theorem vj_X11_proveState_139 {nn : Nat} (hn : 1000000 ≤ nn) {h : ms_M} (V_h : VS_ h) (N_h : VF_ h)  : Ok_ (qj_X11_proveState_139 nn h) (QI_ 0 12) := by
  unfold qj_X11_proveState_139
  have T1 := gF_127_19 V_h
  refine ok_if ?_ ?_
  · intro C1
    exact ok_rI V_h (by omega) (by omega)
  · intro C1
    exact ok_rI V_h (by omega) (by omega)
set_option maxRecDepth 4000 in
theorem vj_X11_proveState_136 {nn : Nat} (hn : 1000000 ≤ nn) {s0 : Int} {h : ms_M} (a_s0 : 0 ≤ s0) (b_s0 : s0 ≤ 1) (V_h : VS_ h) (N_h : VF_ h)  : Ok_ (qj_X11_proveState_136 nn s0 h) (QI_ 0 12) := by
  unfold qj_X11_proveState_136
  refine ok_ck (by omega) ?_
  refine ok_xl ?_; intro h4 E_h4; have V_h4 : VS_ h4 := by rw [E_h4]; exact wF_127_19 V_h (by omega)
  have N_h4 : VF_ h4 := by rw [E_h4]; exact vf_up V_h N_h rfl
  exact vj_X11_proveState_139 hn V_h4 N_h4
set_option maxRecDepth 4000 in
theorem vj_X11_proveState_135 {nn : Nat} (hn : 1000000 ≤ nn) {h : ms_M} (V_h : VS_ h) (N_h : VF_ h)  : Ok_ (qj_X11_proveState_135 nn h) (QI_ 0 12) := by
  unfold qj_X11_proveState_135
  exact vj_X11_proveState_136 hn (by omega) (by omega) V_h N_h
set_option maxRecDepth 4000 in
theorem vj_X11_proveState_46 {nn : Nat} (hn : 1000000 ≤ nn) {l1 : Int} {l2 : Int} {h : ms_M} (a_l1 : 0 ≤ l1) (b_l1 : l1 ≤ 1499) (a_l2 : 0 ≤ l2) (b_l2 : l2 ≤ 255) (V_h : VS_ h) (N_h : VF_ h)  : Ok_ (qj_X11_proveState_46 nn l1 l2 h) (QI_ 0 12) := by
  unfold qj_X11_proveState_46
  refine ok_cP (vf_X11_fitsHandlers hn (by omega) (by omega) V_h N_h) ?_; intro u6 e_u6 a_u6 b_u6
  refine ok_if ?_ ?_
  · intro C0
    refine ok_add (by omega) ?_; intro v7 e_v7
    refine ok_cP (vf_X11_codeAt hn (by omega) (by omega) V_h) ?_; intro u9 e_u9 a_u9 b_u9
    refine ok_cP (vf_X11_isConstantRight hn (by omega) (by omega) (by omega) (by omega) V_h) ?_; intro u11 e_u11 a_u11 b_u11
    refine ok_if ?_ ?_
    · intro C1
      refine ok_xl ?_; intro h12 E_h12; have V_h12 : VS_ h12 := by rw [E_h12]; exact wF_127_19 V_h (by omega)
      have N_h12 : VF_ h12 := by rw [E_h12]; exact vf_up V_h N_h rfl
      have T3 : h12 127 19 = 1 := by rw [E_h12]; exact up_s
      refine ok_cV (vf_X11_applySimple hn (by omega) (by omega) (by omega) (by omega) V_h12) ?_; intro u14 E_u14 V_u14
      have N_u14 : VF_ u14 := vf_fr V_h12 N_h12 (fun c k z => (ff_X11_applySimple nn) _ E_u14 c k z) rfl
      refine ok_cP (vf_X11_isJump hn (by omega) (by omega) V_u14) ?_; intro u15 e_u15 a_u15 b_u15
      refine ok_if ?_ ?_
      · intro C3
        exact vj_X11_proveState_139 hn V_u14 N_u14
      · intro C3
        have T5 := gF_127_19 V_u14
        refine ok_if ?_ ?_
        · intro C5
          exact vj_X11_proveState_139 hn V_u14 N_u14
        · intro C5
          refine ok_cP (vf_X11_aimOf hn (by omega) (by omega) V_u14) ?_; intro u18 e_u18 a_u18 b_u18
          refine ok_cP (vf_X11_frameAt hn (by omega) (by omega) V_u14) ?_; intro u20 e_u20 a_u20 b_u20
          have T7 := lm_frameAt V_u14 N_u14.2 e_u20
          refine ok_if ?_ ?_
          · intro C7
            exact vj_X11_proveState_135 hn V_u14 N_u14
          · intro C7
            refine ok_cP (vf_X11_fitsFrame hn (by omega) (by omega) V_u14 (by omega) (by omega)) ?_; intro u22 e_u22 a_u22 b_u22
            refine ok_if ?_ ?_
            · intro C8
              exact vj_X11_proveState_135 hn V_u14 N_u14
            · intro C8
              exact vj_X11_proveState_136 hn (by omega) (by omega) V_u14 N_u14
    · intro C1
      exact ok_rI V_h (by omega) (by omega)
  · intro C0
    exact ok_rI V_h (by omega) (by omega)
set_option maxRecDepth 4000 in
theorem vj_X11_proveState_40 {nn : Nat} (hn : 1000000 ≤ nn) {l1 : Int} {l2 : Int} {l4 : Int} {h : ms_M} (a_l1 : 0 ≤ l1) (b_l1 : l1 ≤ 1499) (a_l2 : 0 ≤ l2) (b_l2 : l2 ≤ 255) (a_l4 : 0 ≤ l4) (b_l4 : l4 ≤ 99) (V_h : VS_ h) (x_0 : l4 < 0 ∨ ((0 ≤ h 133 (l4 * 64 + 1).toNat ∧ h 133 (l4 * 64 + 1).toNat ≤ 30) ∧ (0 ≤ h 133 (l4 * 64 + 2).toNat ∧ h 133 (l4 * 64 + 2).toNat ≤ 30))) (N_h : VF_ h)  : Ok_ (qj_X11_proveState_40 nn l1 l2 l4 h) (QI_ 0 12) := by
  unfold qj_X11_proveState_40
  refine ok_cV (vf_X11_takeFrame hn (by omega) (by omega) V_h (by omega) (by omega)) ?_; intro u30 E_u30 V_u30
  have N_u30 : VF_ u30 := vf_fr V_h N_h (fun c k z => (ff_X11_takeFrame nn) _ E_u30 c k z) rfl
  have T1 : u30 133 (l4 * 64 + 1).toNat = h 133 (l4 * 64 + 1).toNat := (ff_X11_takeFrame nn) _ E_u30 133 (l4 * 64 + 1).toNat (nw_ar rfl _)
  have T2 : u30 133 (l4 * 64 + 2).toNat = h 133 (l4 * 64 + 2).toNat := (ff_X11_takeFrame nn) _ E_u30 133 (l4 * 64 + 2).toNat (nw_ar rfl _)
  exact vj_X11_proveState_46 hn (by omega) (by omega) (by omega) (by omega) V_u30 N_u30
set_option maxRecDepth 4000 in
theorem vj_X11_proveState_19 {nn : Nat} (hn : 1000000 ≤ nn) {l1 : Int} {l2 : Int} {l3 : Int} {l4 : Int} {h : ms_M} (a_l1 : 0 ≤ l1) (b_l1 : l1 ≤ 1499) (a_l2 : 0 ≤ l2) (b_l2 : l2 ≤ 255) (a_l3 : 0 ≤ l3) (b_l3 : l3 ≤ 1) (a_l4 : (-2) ≤ l4) (b_l4 : l4 ≤ 99) (V_h : VS_ h) (x_0 : l4 < 0 ∨ ((0 ≤ h 133 (l4 * 64 + 1).toNat ∧ h 133 (l4 * 64 + 1).toNat ≤ 30) ∧ (0 ≤ h 133 (l4 * 64 + 2).toNat ∧ h 133 (l4 * 64 + 2).toNat ≤ 30))) (N_h : VF_ h)  : Ok_ (qj_X11_proveState_19 nn l1 l2 l3 l4 h) (QI_ 0 12) := by
  unfold qj_X11_proveState_19
  refine ok_if ?_ ?_
  · intro C0
    exact vj_X11_proveState_46 hn (by omega) (by omega) (by omega) (by omega) V_h N_h
  · intro C0
    refine ok_if ?_ ?_
    · intro C1
      exact vj_X11_proveState_40 hn (by omega) (by omega) (by omega) (by omega) (by omega) (by omega) V_h (by omega) N_h
    · intro C1
      refine ok_cP (vf_X11_fitsFrame hn (by omega) (by omega) V_h (by omega) (by omega)) ?_; intro u32 e_u32 a_u32 b_u32
      refine ok_if ?_ ?_
      · intro C2
        exact vj_X11_proveState_40 hn (by omega) (by omega) (by omega) (by omega) (by omega) (by omega) V_h (by omega) N_h
      · intro C2
        exact ok_rI V_h (by omega) (by omega)
set_option maxRecDepth 4000 in
theorem vf_X11_proveState {nn : Nat} (hn : 1000000 ≤ nn) {a1 : Int} {a2 : Int} {a3 : Int} {h : ms_M} (a_a1 : 0 ≤ a1) (b_a1 : a1 ≤ 1499) (a_a2 : 0 ≤ a2) (b_a2 : a2 ≤ 255) (a_a3 : 0 ≤ a3) (b_a3 : a3 ≤ 1) (V_h : VS_ h) (N_h : VF_ h)  : Ok_ (qf_X11_proveState nn a1 a2 a3 h) (QI_ 0 12) := by
  unfold qf_X11_proveState
  refine ok_cP (vf_X11_frameAt hn (by omega) (by omega) V_h) ?_; intro u37 e_u37 a_u37 b_u37
  have T1 := lm_frameAt V_h N_h.2 e_u37
  refine ok_if ?_ ?_
  · intro C1
    exact vj_X11_proveState_19 hn (by omega) (by omega) (by omega) (by omega) (by omega) (by omega) (by omega) (by omega) V_h (by omega) N_h
  · intro C1
    refine ok_if ?_ ?_
    · intro C2
      exact vj_X11_proveState_19 hn (by omega) (by omega) (by omega) (by omega) (by omega) (by omega) (by omega) (by omega) V_h (by omega) N_h
    · intro C2
      exact ok_rI V_h (by omega) (by omega)
set_option maxRecDepth 4000 in
theorem vj_X11_proveStates_52 {nn : Nat} (hn : 1000000 ≤ nn) {qkk_4 : Int → Int → ms_M → Option (Int × ms_M)} {K_kk_4 : Int} (hk_kk_4 : ∀ {l1 : Int} {l2 : Int} {h : ms_M} (a_l1 : 0 ≤ l1) (b_l1 : l1 ≤ 1) (a_l2 : 0 ≤ l2) (b_l2 : l2 ≤ 1503) (V_h : VS_ h) (N_h : VF_ h) (_ : 1504 - l2 < K_kk_4), Ok_ (qkk_4 l1 l2 h) (QI_ 0 12)) {l2 : Int} {l3 : Int} {s0 : Int} {h : ms_M} (a_l2 : 0 ≤ l2) (b_l2 : l2 ≤ 1499) (a_l3 : 0 ≤ l3) (b_l3 : l3 ≤ 255) (a_s0 : 0 ≤ s0) (b_s0 : s0 ≤ 1) (V_h : VS_ h) (N_h : VF_ h) (hm_kk_4 : 1504 - l2 + 0 ≤ K_kk_4) : Ok_ (qj_X11_proveStates_52 nn qkk_4 l2 l3 s0 h) (QI_ 0 12) := by
  unfold qj_X11_proveStates_52
  refine ok_cP (vf_X11_widthOf hn (by omega) (by omega) V_h) ?_; intro u1 e_u1 a_u1 b_u1
  refine ok_ite ?_; intro v2 e_v2
  refine ok_add (by omega) ?_; intro v3 e_v3
  exact hk_kk_4 (by omega) (by omega) (by omega) (by omega) V_h N_h (by omega)
set_option maxRecDepth 4000 in
theorem vw_X11_proveStates_4 {nn : Nat} (hn : 1000000 ≤ nn) : ∀ (k : Nat) {l1 : Int} {l2 : Int} {h : ms_M} (a_l1 : 0 ≤ l1) (b_l1 : l1 ≤ 1) (a_l2 : 0 ≤ l2) (b_l2 : l2 ≤ 1503) (V_h : VS_ h) (N_h : VF_ h)  (hm : 1504 - l2 < (k : Int)), Ok_ (qw_X11_proveStates_4 nn k l1 l2 h) (QI_ 0 12) := by
  intro k
  induction k with
  | zero => intros; exfalso; omega
  | succ k ih =>
    intro l1 l2 h a_l1 b_l1 a_l2 b_l2 V_h N_h hm
    unfold qw_X11_proveStates_4
    have T1 := gF_127_16 V_h
    refine ok_if ?_ ?_
    · intro C1
      refine ok_if ?_ ?_
      · intro C2
        exact ok_rI V_h (by omega) (by omega)
      · intro C2
        refine ok_cI (vf_X11_at hn (by omega) (by omega) (by omega) (by omega) V_h) ?_; intro u7 E_u7 V_u7 a_u7 b_u7
        have N_u7_2 : VF_ u7.2 := vf_fr V_h N_h (fun c k z => (ff_X11_at nn) _ E_u7 c k z) rfl
        exact ok_rI V_u7 (by omega) (by omega)
    · intro C1
      refine ok_cP (vf_X11_codeAt hn (by omega) (by omega) V_h) ?_; intro u10 e_u10 a_u10 b_u10
      refine ok_cI (vf_X11_proveState hn (by omega) (by omega) (by omega) (by omega) (by omega) (by omega) V_h N_h) ?_; intro u12 E_u12 V_u12 a_u12 b_u12
      have N_u12_2 : VF_ u12.2 := vf_fr V_h N_h (fun c k z => (ff_X11_proveState nn) _ E_u12 c k z) rfl
      refine ok_if ?_ ?_
      · intro C3
        refine ok_cP (vf_X11_isLast hn (by omega) (by omega) V_u12) ?_; intro u13 e_u13 a_u13 b_u13
        refine ok_if ?_ ?_
        · intro C4
          exact vj_X11_proveStates_52 hn ih (by omega) (by omega) (by omega) (by omega) (by omega) (by omega) V_u12 N_u12_2 (by omega)
        · intro C4
          exact vj_X11_proveStates_52 hn ih (by omega) (by omega) (by omega) (by omega) (by omega) (by omega) V_u12 N_u12_2 (by omega)
      · intro C3
        refine ok_cI (vf_X11_at hn (by omega) (by omega) (by omega) (by omega) V_u12) ?_; intro u16 E_u16 V_u16 a_u16 b_u16
        have N_u16_2 : VF_ u16.2 := vf_fr V_u12 N_u12_2 (fun c k z => (ff_X11_at nn) _ E_u16 c k z) rfl
        exact ok_rI V_u16 (by omega) (by omega)
set_option maxRecDepth 4000 in
theorem vf_X11_proveStates {nn : Nat} (hn : 1000000 ≤ nn) {h : ms_M} (V_h : VS_ h) (N_h : VF_ h)  : Ok_ (qf_X11_proveStates nn h) (QI_ 0 12) := by
  unfold qf_X11_proveStates
  exact vw_X11_proveStates_4 hn _ (by omega) (by omega) (by omega) (by omega) V_h N_h (by omega)
set_option maxRecDepth 4000 in
theorem vw_X7_fieldOf_31 {nn : Nat} (hn : 1000000 ≤ nn) {qkk_6 : Nat → Int → Int → Int → ms_M → Option Int} {K_kk_6 : Int} (hk_kk_6 : ∀ {l2 : Nat} {l3 : Int} {l4 : Int} {l5 : Int} {h : ms_M} (i_l2 : kc_O l2 = 3) (a_l3 : 0 ≤ l3) (b_l3 : l3 ≤ 255) (a_l4 : (-1) ≤ l4) (b_l4 : l4 ≤ 341) (a_l5 : 0 ≤ l5) (b_l5 : l5 ≤ 16) (V_h : VS_ h) (_ : 17 - l5 < K_kk_6), Ok_ (qkk_6 l2 l3 l4 l5 h) (QP_ (-1) 95)) : ∀ (k : Nat) {l2 : Nat} {l3 : Int} {l4 : Int} {l5 : Int} {l6 : Int} {l7 : Int} {h : ms_M} (i_l2 : kc_O l2 = 3) (a_l3 : 0 ≤ l3) (b_l3 : l3 ≤ 255) (a_l4 : 8 ≤ l4) (b_l4 : l4 ≤ 15) (a_l5 : 0 ≤ l5) (b_l5 : l5 ≤ 15) (n_l6 : 0 ≤ l6) (k_l6 : kc_O (l6).toNat = 3) (a_l7 : 0 ≤ l7) (b_l7 : l7 ≤ 12) (V_h : VS_ h) (hm_kk_6 : 17 - l5 + 0 ≤ K_kk_6) (hm : 13 - l7 < (k : Int)), Ok_ (qw_X7_fieldOf_31 nn qkk_6 k l2 l3 l4 l5 l6 l7 h) (QP_ (-1) 95) := by
  intro k
  induction k with
  | zero => intros; exfalso; omega
  | succ k ih =>
    intro l2 l3 l4 l5 l6 l7 h i_l2 a_l3 b_l3 a_l4 b_l4 a_l5 b_l5 n_l6 k_l6 a_l7 b_l7 V_h hm_kk_6 hm
    unfold qw_X7_fieldOf_31
    refine ok_ck n_l6 ?_
    have hb1 : kc_O (l6).toNat = 3 := k_l6
    refine ok_ck hb1 ?_
    have T1 := gI_10 V_h hb1
    refine ok_if ?_ ?_
    · intro C1
      refine ok_cP (vf_X4_above hn rfl (by omega) (by omega) V_h) ?_; intro u5 e_u5 a_u5 b_u5
      refine ok_add (by omega) ?_; intro v6 e_v6
      exact hk_kk_6 i_l2 (by omega) (by omega) (by omega) (by omega) (by omega) (by omega) V_h (by omega)
    · intro C1
      refine ok_cP (vf_X3_fieldName hn hb1 (by omega) (by omega) V_h) ?_; intro u8 e_u8 a_u8 b_u8
      refine ok_cP (vf_X3_sameText hn hb1 (by omega) (by omega) i_l2 (by omega) (by omega) V_h) ?_; intro u10 e_u10 a_u10 b_u10
      refine ok_if ?_ ?_
      · intro C2
        refine ok_add (by omega) ?_; intro v11 e_v11
        exact ih i_l2 (by omega) (by omega) (by omega) (by omega) (by omega) (by omega) (by omega) hb1 (by omega) (by omega) V_h (by omega) (by omega)
      · intro C2
        refine ok_cP (vf_X7_numberOf hn (by omega) (by omega) (by omega) (by omega) V_h) ?_; intro u13 e_u13 a_u13 b_u13
        exact ok_rP (by omega) (by omega)
set_option maxRecDepth 4000 in
theorem vw_X7_fieldOf_6 {nn : Nat} (hn : 1000000 ≤ nn) : ∀ (k : Nat) {l2 : Nat} {l3 : Int} {l4 : Int} {l5 : Int} {h : ms_M} (i_l2 : kc_O l2 = 3) (a_l3 : 0 ≤ l3) (b_l3 : l3 ≤ 255) (a_l4 : (-1) ≤ l4) (b_l4 : l4 ≤ 341) (a_l5 : 0 ≤ l5) (b_l5 : l5 ≤ 16) (V_h : VS_ h)  (hm : 17 - l5 < (k : Int)), Ok_ (qw_X7_fieldOf_6 nn k l2 l3 l4 l5 h) (QP_ (-1) 95) := by
  intro k
  induction k with
  | zero => intros; exfalso; omega
  | succ k ih =>
    intro l2 l3 l4 l5 h i_l2 a_l3 b_l3 a_l4 b_l4 a_l5 b_l5 V_h hm
    unfold qw_X7_fieldOf_6
    refine ok_if ?_ ?_
    · intro C0
      exact ok_rP (by omega) (by omega)
    · intro C0
      refine ok_cO (vf_X7_imageOf hn (by omega) (by omega) V_h) ?_; intro u17 e_u17 o_u17
      have T2 := po_X7_imageOf V_h e_u17
      refine ok_if ?_ ?_
      · intro C2
        exact ok_rP (by omega) (by omega)
      · intro C2
        exact vw_X7_fieldOf_31 hn ih _ i_l2 (by omega) (by omega) (by omega) (by omega) (by omega) (by omega) (by omega) (o_u17.resolve_left C2) (by omega) (by omega) V_h (by omega) (by omega)
set_option maxRecDepth 4000 in
theorem vf_X7_fieldOf {nn : Nat} (hn : 1000000 ≤ nn) {a1 : Int} {a2 : Nat} {a3 : Int} {h : ms_M} (a_a1 : (-1) ≤ a1) (b_a1 : a1 ≤ 303) (i_a2 : kc_O a2 = 3) (a_a3 : 0 ≤ a3) (b_a3 : a3 ≤ 255) (V_h : VS_ h)  : Ok_ (qf_X7_fieldOf nn a1 a2 a3 h) (QP_ (-1) 95) := by
  unfold qf_X7_fieldOf
  exact vw_X7_fieldOf_6 hn _ i_a2 (by omega) (by omega) (by omega) (by omega) (by omega) (by omega) V_h (by omega)
set_option maxRecDepth 4000 in
theorem vj_X11_takeMember_153 {nn : Nat} (hn : 1000000 ≤ nn) {l1 : Int} {l3 : Int} {l5 : Int} {s0 : Int} {s1 : Int} {h : ms_M} (a_l1 : 1 ≤ l1) (b_l1 : l1 ≤ 255) (a_l3 : 0 ≤ l3) (b_l3 : l3 ≤ 255) (a_l5 : 0 ≤ l5) (b_l5 : l5 ≤ 95) (a_s0 : (-1) ≤ s0) (b_s0 : s0 ≤ 65535) (n_s1 : 0 ≤ s1) (k_s1 : kc_O (s1).toNat = 3) (V_h : VS_ h)  : Ok_ (qj_X11_takeMember_153 nn l1 l3 l5 s0 s1 h) QV_ := by
  unfold qj_X11_takeMember_153
  refine ok_ck (vi_r V_h).2.1.1 ?_
  refine ok_ck n_s1 ?_
  have hb1 : kc_O (s1).toNat = 3 := k_s1
  refine ok_ck hb1 ?_
  refine ok_cP (vf_X3_sameText hn hb1 (by omega) (by omega) (vi_r V_h).2.1.2 (by omega) (by omega) V_h) ?_; intro u4 e_u4 a_u4 b_u4
  refine ok_if ?_ ?_
  · intro C0
    exact ok_rV V_h
  · intro C0
    refine ok_wA (by omega) ?_; intro h6 E_h6; have V_h6 : VS_ h6 := by rw [E_h6]; exact wA_129 V_h (by omega)
    refine ok_ck (vi_r V_h6).2.1.1 ?_
    refine ok_mul (by omega) ?_; intro v11 e_v11
    refine ok_cI (vf_X7_readKind hn (vi_r V_h6).2.1.2 (by omega) (by omega) (by omega) (by omega) V_h6) ?_; intro u13 E_u13 V_u13 a_u13 b_u13
    refine ok_wA (by omega) ?_; intro h14 E_h14; have V_h14 : VS_ h14 := by rw [E_h14]; exact wA_130 V_u13 (by omega)
    exact ok_rV V_h14
set_option maxRecDepth 4000 in
theorem vj_X11_takeMember_102 {nn : Nat} (hn : 1000000 ≤ nn) {l1 : Int} {l3 : Int} {l4 : Int} {s0 : Int} {h : ms_M} (a_l1 : 1 ≤ l1) (b_l1 : l1 ≤ 255) (a_l3 : 0 ≤ l3) (b_l3 : l3 ≤ 255) (a_l4 : 0 ≤ l4) (b_l4 : l4 ≤ 1) (a_s0 : (-1) ≤ s0) (b_s0 : s0 ≤ 95) (V_h : VS_ h)  : Ok_ (qj_X11_takeMember_102 nn l1 l3 l4 s0 h) QV_ := by
  unfold qj_X11_takeMember_102
  refine ok_cO (vf_X7_imageOfMember hn (by omega) (by omega) V_h) ?_; intro u18 e_u18 o_u18
  have T1 := po_X7_imageOfMember V_h e_u18
  refine ok_if ?_ ?_
  · intro C1
    exact ok_rV V_h
  · intro C1
    refine ok_rem (n := 12) (by omega) ?_; intro v21 e_v21
    refine ok_if ?_ ?_
    · intro C2
      have hb1 : kc_O (u18).toNat = 3 := (o_u18.resolve_left C1)
      refine ok_ck hb1 ?_
      refine ok_cP (vf_X3_fieldKind hn hb1 (by omega) (by omega) V_h) ?_; intro u23 e_u23 a_u23 b_u23
      exact vj_X11_takeMember_153 hn (by omega) (by omega) (by omega) (by omega) (by omega) (by omega) (by omega) (by omega) (by omega) hb1 V_h
    · intro C2
      have hb2 : kc_O (u18).toNat = 3 := (o_u18.resolve_left C1)
      refine ok_ck hb2 ?_
      refine ok_cP (vf_X3_of hn hb2 (by omega) (by omega) (by omega) (by omega) V_h) ?_; intro u25 e_u25 a_u25 b_u25
      exact vj_X11_takeMember_153 hn (by omega) (by omega) (by omega) (by omega) (by omega) (by omega) (by omega) (by omega) (by omega) hb2 V_h
set_option maxRecDepth 4000 in
theorem vj_X11_takeMember_50 {nn : Nat} (hn : 1000000 ≤ nn) {l1 : Int} {l2 : Int} {l3 : Int} {s0 : Int} {h : ms_M} (a_l1 : 1 ≤ l1) (b_l1 : l1 ≤ 255) (a_l2 : (-1) ≤ l2) (b_l2 : l2 ≤ 303) (a_l3 : 0 ≤ l3) (b_l3 : l3 ≤ 255) (a_s0 : 0 ≤ s0) (b_s0 : s0 ≤ 1) (V_h : VS_ h)  : Ok_ (qj_X11_takeMember_50 nn l1 l2 l3 s0 h) QV_ := by
  unfold qj_X11_takeMember_50
  refine ok_if ?_ ?_
  · intro C0
    refine ok_ck (vi_r V_h).2.1.1 ?_
    refine ok_ck (vi_r V_h).2.1.1 ?_
    have hb1 : kc_O (h 127 5).toNat = 3 := (vi_r V_h).2.1.2
    refine ok_ck hb1 ?_
    refine ok_cP (vf_X3_partOf hn hb1 (by omega) (by omega) (by omega) (by omega) V_h) ?_; intro u31 e_u31 a_u31 b_u31
    refine ok_cP (vf_X7_fieldOf hn (by omega) (by omega) hb1 (by omega) (by omega) V_h) ?_; intro u33 e_u33 a_u33 b_u33
    exact vj_X11_takeMember_102 hn (by omega) (by omega) (by omega) (by omega) (by omega) (by omega) (by omega) (by omega) V_h
  · intro C0
    refine ok_ck (vi_r V_h).2.1.1 ?_
    refine ok_ck (vi_r V_h).2.1.1 ?_
    have hb2 : kc_O (h 127 5).toNat = 3 := (vi_r V_h).2.1.2
    refine ok_ck hb2 ?_
    refine ok_cP (vf_X3_partOf hn hb2 (by omega) (by omega) (by omega) (by omega) V_h) ?_; intro u38 e_u38 a_u38 b_u38
    refine ok_cP (vf_X7_methodOf hn (by omega) (by omega) hb2 (by omega) (by omega) V_h) ?_; intro u40 e_u40 a_u40 b_u40
    exact vj_X11_takeMember_102 hn (by omega) (by omega) (by omega) (by omega) (by omega) (by omega) (by omega) (by omega) V_h
set_option maxRecDepth 4000 in
theorem vf_X11_takeMember {nn : Nat} (hn : 1000000 ≤ nn) {a1 : Int} {h : ms_M} (a_a1 : 1 ≤ a1) (b_a1 : a1 ≤ 255) (V_h : VS_ h)  : Ok_ (qf_X11_takeMember nn a1 h) QV_ := by
  unfold qf_X11_takeMember
  refine ok_ck (vi_r V_h).2.1.1 ?_
  have hb1 : kc_O (h 127 5).toNat = 3 := (vi_r V_h).2.1.2
  refine ok_ck hb1 ?_
  refine ok_cP (vf_X3_partOf hn hb1 (by omega) (by omega) (by omega) (by omega) V_h) ?_; intro u45 e_u45 a_u45 b_u45
  refine ok_rd (by omega) (gA_128 V_h) ?_; intro v46 e_v46 a_v46 b_v46
  refine ok_ck (vi_r V_h).2.1.1 ?_
  refine ok_cP (vf_X3_partOf hn hb1 (by omega) (by omega) (by omega) (by omega) V_h) ?_; intro u49 e_u49 a_u49 b_u49
  refine ok_ck (vi_r V_h).2.1.1 ?_
  refine ok_ck (vi_r V_h).2.1.1 ?_
  refine ok_cP (vf_X3_textAt hn hb1 (by omega) (by omega) V_h) ?_; intro u53 e_u53 a_u53 b_u53
  refine ok_cP (vf_X3_byteAt hn hb1 (by omega) (by omega) V_h) ?_; intro u55 e_u55 a_u55 b_u55
  refine ok_if ?_ ?_
  · intro C0
    exact vj_X11_takeMember_50 hn (by omega) (by omega) (by omega) (by omega) (by omega) (by omega) (by omega) (by omega) V_h
  · intro C0
    exact vj_X11_takeMember_50 hn (by omega) (by omega) (by omega) (by omega) (by omega) (by omega) (by omega) (by omega) V_h
set_option maxRecDepth 4000 in
theorem vf_X7_typeOfClass {nn : Nat} (hn : 1000000 ≤ nn) {a1 : Nat} {a2 : Int} {h : ms_M} (i_a1 : kc_O a1 = 3) (a_a2 : 0 ≤ a2) (b_a2 : a2 ≤ 255) (V_h : VS_ h)  : Ok_ (qf_X7_typeOfClass nn a1 a2 h) (QP_ (-1) 303) := by
  unfold qf_X7_typeOfClass
  have hb1 : kc_O a1 = 3 := i_a1
  refine ok_ck hb1 ?_
  refine ok_cP (vf_X3_partOf hn hb1 (by omega) (by omega) (by omega) (by omega) V_h) ?_; intro u2 e_u2 a_u2 b_u2
  refine ok_cP (vf_X3_textAt hn hb1 (by omega) (by omega) V_h) ?_; intro u4 e_u4 a_u4 b_u4
  refine ok_cP (vf_X3_textEnd hn hb1 (by omega) (by omega) V_h) ?_; intro u6 e_u6 a_u6 b_u6
  refine ok_cP (vf_X3_byteAt hn hb1 (by omega) (by omega) V_h) ?_; intro u8 e_u8 a_u8 b_u8
  refine ok_if ?_ ?_
  · intro C0
    refine ok_cP (vf_X7_classOf hn hb1 (by omega) (by omega) (by omega) (by omega) V_h) ?_; intro u10 e_u10 a_u10 b_u10
    exact ok_rP (by omega) (by omega)
  · intro C0
    refine ok_cP (vf_X7_typeOfKind hn hb1 (by omega) (by omega) (by omega) (by omega) V_h) ?_; intro u12 e_u12 a_u12 b_u12
    exact ok_rP (by omega) (by omega)
set_option maxRecDepth 4000 in
theorem vw_X11_takeConstants_55 {nn : Nat} (hn : 1000000 ≤ nn) : ∀ (k : Nat) {l1 : Int} {h : ms_M} (a_l1 : 1 ≤ l1) (b_l1 : l1 ≤ 256) (V_h : VS_ h)  (hm : 257 - l1 < (k : Int)), Ok_ (qw_X11_takeConstants_55 nn k l1 h) QV_ := by
  intro k
  induction k with
  | zero => intros; exfalso; omega
  | succ k ih =>
    intro l1 h a_l1 b_l1 V_h hm
    unfold qw_X11_takeConstants_55
    refine ok_ck (vi_r V_h).2.1.1 ?_
    have hb1 : kc_O (h 127 5).toNat = 3 := (vi_r V_h).2.1.2
    refine ok_ck hb1 ?_
    have T1 := gI_7 V_h hb1
    refine ok_if ?_ ?_
    · intro C1
      exact ok_rV V_h
    · intro C1
      refine ok_wA (by omega) ?_; intro h4 E_h4; have V_h4 : VS_ h4 := by rw [E_h4]; exact wA_129 V_h (by omega)
      refine ok_ck (vi_r V_h4).2.1.1 ?_
      have hb2 : kc_O (h4 127 5).toNat = 3 := (vi_r V_h4).2.1.2
      refine ok_ck hb2 ?_
      refine ok_cP (vf_X3_tagOf hn hb2 (by omega) (by omega) V_h4) ?_; intro u7 e_u7 a_u7 b_u7
      refine ok_if ?_ ?_
      · intro C2
        refine ok_add (by omega) ?_; intro v8 e_v8
        exact ih (by omega) (by omega) V_h4 (by omega)
      · intro C2
        refine ok_cV (vf_X11_takeMember hn (by omega) (by omega) V_h4) ?_; intro u10 E_u10 V_u10
        refine ok_add (by omega) ?_; intro v11 e_v11
        exact ih (by omega) (by omega) V_u10 (by omega)
set_option maxRecDepth 4000 in
theorem vw_X11_takeConstants_2 {nn : Nat} (hn : 1000000 ≤ nn) : ∀ (k : Nat) {l1 : Int} {h : ms_M} (a_l1 : 1 ≤ l1) (b_l1 : l1 ≤ 256) (V_h : VS_ h)  (hm : 257 - l1 < (k : Int)), Ok_ (qw_X11_takeConstants_2 nn k l1 h) QV_ := by
  intro k
  induction k with
  | zero => intros; exfalso; omega
  | succ k ih =>
    intro l1 h a_l1 b_l1 V_h hm
    unfold qw_X11_takeConstants_2
    refine ok_ck (vi_r V_h).2.1.1 ?_
    have hb1 : kc_O (h 127 5).toNat = 3 := (vi_r V_h).2.1.2
    refine ok_ck hb1 ?_
    have T1 := gI_7 V_h hb1
    refine ok_if ?_ ?_
    · intro C1
      exact vw_X11_takeConstants_55 hn _ (by omega) (by omega) V_h (by omega)
    · intro C1
      refine ok_ck (vi_r V_h).2.1.1 ?_
      refine ok_cP (vf_X3_tagOf hn hb1 (by omega) (by omega) V_h) ?_; intro u19 e_u19 a_u19 b_u19
      refine ok_if ?_ ?_
      · intro C2
        refine ok_wA (by omega) ?_; intro h20 E_h20; have V_h20 : VS_ h20 := by rw [E_h20]; exact wA_128 V_h (by omega)
        refine ok_add (by omega) ?_; intro v21 e_v21
        exact ih (by omega) (by omega) V_h20 (by omega)
      · intro C2
        refine ok_ck (vi_r V_h).2.1.1 ?_
        refine ok_cP (vf_X7_typeOfClass hn hb1 (by omega) (by omega) V_h) ?_; intro u25 e_u25 a_u25 b_u25
        refine ok_wA (by omega) ?_; intro h26 E_h26; have V_h26 : VS_ h26 := by rw [E_h26]; exact wA_128 V_h (by omega)
        refine ok_add (by omega) ?_; intro v27 e_v27
        exact ih (by omega) (by omega) V_h26 (by omega)
set_option maxRecDepth 4000 in
theorem vf_X11_takeConstants {nn : Nat} (hn : 1000000 ≤ nn) {h : ms_M} (V_h : VS_ h)  : Ok_ (qf_X11_takeConstants nn h) QV_ := by
  unfold qf_X11_takeConstants
  exact vw_X11_takeConstants_2 hn _ (by omega) (by omega) V_h (by omega)
set_option maxRecDepth 4000 in
theorem vf_X11_typeOfTag {nn : Nat} (hn : 1000000 ≤ nn) {a1 : Int} {a2 : Int} {h : ms_M} (a_a1 : 0 ≤ a1) (b_a1 : a1 ≤ 255) (a_a2 : 0 ≤ a2) (b_a2 : a2 ≤ 255) (V_h : VS_ h)  : Ok_ (qf_X11_typeOfTag nn a1 a2 h) (QP_ (-1) 304) := by
  unfold qf_X11_typeOfTag
  refine ok_if ?_ ?_
  · intro C0
    exact ok_rP (by omega) (by omega)
  · intro C0
    refine ok_if ?_ ?_
    · intro C1
      exact ok_rP (by omega) (by omega)
    · intro C1
      refine ok_if ?_ ?_
      · intro C2
        exact ok_rP (by omega) (by omega)
      · intro C2
        refine ok_rd (by omega) (gA_128 V_h) ?_; intro v2 e_v2 a_v2 b_v2
        exact ok_rP (by omega) (by omega)
set_option maxRecDepth 4000 in
theorem vj_X11_takeTypes_80 {nn : Nat} (hn : 1000000 ≤ nn) {qkk_17 : Int → Int → Int → Int → ms_M → Option (Int × ms_M)} {K_kk_17 : Int} (hk_kk_17 : ∀ {l2 : Int} {l3 : Int} {l4 : Int} {l5 : Int} {h : ms_M} (a_l2 : 0 ≤ l2) (b_l2 : l2 ≤ 6369) (a_l3 : 0 ≤ l3) (b_l3 : l3 ≤ 255) (a_l4 : 0 ≤ l4) (b_l4 : l4 ≤ 210000) (a_l5 : 0 ≤ l5) (b_l5 : l5 ≤ 255) (V_h : VS_ h) (x_0 : l4 ≤ 200020 + 2 * l5) (_ : 256 - l5 < K_kk_17), Ok_ (qkk_17 l2 l3 l4 l5 h) (QIR_ 0 210000 (fun u r => (u ≤ l4 + 2 * (255 - l5))))) {l2 : Int} {l3 : Int} {l5 : Int} {s0 : Int} {s1 : Int} {h : ms_M} (a_l2 : 0 ≤ l2) (b_l2 : l2 ≤ 6369) (a_l3 : 0 ≤ l3) (b_l3 : l3 ≤ 255) (a_l5 : 0 ≤ l5) (b_l5 : l5 ≤ 254) (a_s0 : 1 ≤ s0) (b_s0 : s0 ≤ 2) (a_s1 : 0 ≤ s1) (b_s1 : s1 ≤ 210000) (V_h : VS_ h) (x_0 : l5 ≤ 254) (x_1 : s1 ≤ 200020 + 2 * l5) (hm_kk_17 : 256 - l5 + 0 ≤ K_kk_17) : Ok_ (qj_X11_takeTypes_80 nn qkk_17 l2 l3 l5 s0 s1 h) (QIR_ 0 210000 (fun u r => (u ≤ s1 + s0 + 2 * (254 - l5)))) := by
  unfold qj_X11_takeTypes_80
  refine ok_add (by omega) ?_; intro v1 e_v1
  refine ok_add (by omega) ?_; intro v2 e_v2
  exact ok_mI (hk_kk_17 (by omega) (by omega) (by omega) (by omega) (by omega) (by omega) (by omega) (by omega) V_h (by omega) (by omega)) (fun _ _ V_r R_r => by omega)
set_option maxRecDepth 4000 in
theorem vj_X11_takeTypes_67 {nn : Nat} (hn : 1000000 ≤ nn) {qkk_17 : Int → Int → Int → Int → ms_M → Option (Int × ms_M)} {K_kk_17 : Int} (hk_kk_17 : ∀ {l2 : Int} {l3 : Int} {l4 : Int} {l5 : Int} {h : ms_M} (a_l2 : 0 ≤ l2) (b_l2 : l2 ≤ 6369) (a_l3 : 0 ≤ l3) (b_l3 : l3 ≤ 255) (a_l4 : 0 ≤ l4) (b_l4 : l4 ≤ 210000) (a_l5 : 0 ≤ l5) (b_l5 : l5 ≤ 255) (V_h : VS_ h) (x_0 : l4 ≤ 200020 + 2 * l5) (_ : 256 - l5 < K_kk_17), Ok_ (qkk_17 l2 l3 l4 l5 h) (QIR_ 0 210000 (fun u r => (u ≤ l4 + 2 * (255 - l5))))) {l2 : Int} {l3 : Int} {l4 : Int} {l5 : Int} {l6 : Int} {h : ms_M} (a_l2 : 0 ≤ l2) (b_l2 : l2 ≤ 6369) (a_l3 : 0 ≤ l3) (b_l3 : l3 ≤ 255) (a_l4 : 0 ≤ l4) (b_l4 : l4 ≤ 210000) (a_l5 : 0 ≤ l5) (b_l5 : l5 ≤ 254) (a_l6 : 0 ≤ l6) (b_l6 : l6 ≤ 255) (V_h : VS_ h) (x_0 : l5 ≤ 254) (x_1 : l4 ≤ 200020 + 2 * l5) (hm_kk_17 : 256 - l5 + 0 ≤ K_kk_17) : Ok_ (qj_X11_takeTypes_67 nn qkk_17 l2 l3 l4 l5 l6 h) (QIR_ 0 210000 (fun u r => (u ≤ l4 + 2 + 2 * (254 - l5)))) := by
  unfold qj_X11_takeTypes_67
  refine ok_if ?_ ?_
  · intro C0
    exact ok_mI (vj_X11_takeTypes_80 hn hk_kk_17 (by omega) (by omega) (by omega) (by omega) (by omega) (by omega) (by omega) (by omega) (by omega) (by omega) V_h (by omega) (by omega) (by omega)) (fun _ _ V_r R_r => by omega)
  · intro C0
    exact ok_mI (vj_X11_takeTypes_80 hn hk_kk_17 (by omega) (by omega) (by omega) (by omega) (by omega) (by omega) (by omega) (by omega) (by omega) (by omega) V_h (by omega) (by omega) (by omega)) (fun _ _ V_r R_r => by omega)
set_option maxRecDepth 4000 in
theorem vw_X11_takeTypes_17 {nn : Nat} (hn : 1000000 ≤ nn) : ∀ (k : Nat) {l2 : Int} {l3 : Int} {l4 : Int} {l5 : Int} {h : ms_M} (a_l2 : 0 ≤ l2) (b_l2 : l2 ≤ 6369) (a_l3 : 0 ≤ l3) (b_l3 : l3 ≤ 255) (a_l4 : 0 ≤ l4) (b_l4 : l4 ≤ 210000) (a_l5 : 0 ≤ l5) (b_l5 : l5 ≤ 255) (V_h : VS_ h) (x_0 : l4 ≤ 200020 + 2 * l5)  (hm : 256 - l5 < (k : Int)), Ok_ (qw_X11_takeTypes_17 nn k l2 l3 l4 l5 h) (QIR_ 0 210000 (fun u r => (u ≤ l4 + 2 * (255 - l5)))) := by
  intro k
  induction k with
  | zero => intros; exfalso; omega
  | succ k ih =>
    intro l2 l3 l4 l5 h a_l2 b_l2 a_l3 b_l3 a_l4 b_l4 a_l5 b_l5 V_h x_0 hm
    unfold qw_X11_takeTypes_17
    refine ok_if ?_ ?_
    · intro C0
      exact ok_rIR V_h (by omega) (by omega) (by omega)
    · intro C0
      refine ok_ck (vi_r V_h).2.1.1 ?_
      have hb1 : kc_O (h 127 5).toNat = 3 := (vi_r V_h).2.1.2
      refine ok_ck hb1 ?_
      refine ok_cP (vf_X3_byteAt hn hb1 (by omega) (by omega) V_h) ?_; intro u6 e_u6 a_u6 b_u6
      refine ok_if ?_ ?_
      · intro C1
        exact ok_mI (vj_X11_takeTypes_67 hn ih (by omega) (by omega) (by omega) (by omega) (by omega) (by omega) (by omega) (by omega) (by omega) (by omega) V_h (by omega) (by omega) (by omega)) (fun _ _ V_r R_r => by omega)
      · intro C1
        refine ok_add (by omega) ?_; intro v8 e_v8
        refine ok_ck (vi_r V_h).2.1.1 ?_
        refine ok_add (by omega) ?_; intro v10 e_v10
        refine ok_cP (vf_X3_byteAt hn hb1 (by omega) (by omega) V_h) ?_; intro u12 e_u12 a_u12 b_u12
        refine ok_cP (vf_X11_typeOfTag hn (by omega) (by omega) (by omega) (by omega) V_h) ?_; intro u14 e_u14 a_u14 b_u14
        refine ok_wA (by omega) ?_; intro h15 E_h15; have V_h15 : VS_ h15 := by rw [E_h15]; exact wA_133 V_h (by omega)
        exact ok_mI (vj_X11_takeTypes_67 hn ih (by omega) (by omega) (by omega) (by omega) (by omega) (by omega) (by omega) (by omega) (by omega) (by omega) V_h15 (by omega) (by omega) (by omega)) (fun _ _ V_r R_r => by omega)
set_option maxRecDepth 4000 in
theorem vf_X11_takeTypes {nn : Nat} (hn : 1000000 ≤ nn) {a1 : Int} {a2 : Int} {h : ms_M} (a_a1 : 0 ≤ a1) (b_a1 : a1 ≤ 200010) (a_a2 : 0 ≤ a2) (b_a2 : a2 ≤ 6369) (V_h : VS_ h)  : Ok_ (qf_X11_takeTypes nn a1 a2 h) (QIR_ 0 210000 (fun u r => (u ≤ a1 + 511))) := by
  unfold qf_X11_takeTypes
  refine ok_ck (vi_r V_h).2.1.1 ?_
  have hb1 : kc_O (h 127 5).toNat = 3 := (vi_r V_h).2.1.2
  refine ok_ck hb1 ?_
  refine ok_cP (vf_X3_byteAt hn hb1 (by omega) (by omega) V_h) ?_; intro u20 e_u20 a_u20 b_u20
  refine ok_add (by omega) ?_; intro v21 e_v21
  exact ok_mI (vw_X11_takeTypes_17 hn _ (by omega) (by omega) (by omega) (by omega) (by omega) (by omega) (by omega) (by omega) V_h (by omega) (by omega)) (fun _ _ V_r R_r => by omega)
set_option maxRecDepth 4000 in
theorem vw_X11_takeFrames_9 {nn : Nat} (hn : 1000000 ≤ nn) : ∀ (k : Nat) {l1 : Int} {l2 : Int} {l3 : Int} {h : ms_M} (a_l1 : 0 ≤ l1) (b_l1 : l1 ≤ 1) (a_l2 : (-1) ≤ l2) (b_l2 : l2 ≤ 200000) (a_l3 : 0 ≤ l3) (b_l3 : l3 ≤ 100) (V_h : VS_ h) (x_0 : l2 ≤ 70000 + 1100 * l3) (N_h : VG_ h)  (hm : 101 - l3 < (k : Int)), Ok_ (qw_X11_takeFrames_9 nn k l1 l2 l3 h) QV_ := by
  intro k
  induction k with
  | zero => intros; exfalso; omega
  | succ k ih =>
    intro l1 l2 l3 h a_l1 b_l1 a_l2 b_l2 a_l3 b_l3 V_h x_0 N_h hm
    unfold qw_X11_takeFrames_9
    refine ok_cP (vf_X11_info hn (by omega) (by omega) V_h) ?_; intro u2 e_u2 a_u2 b_u2
    have T1 := lm_info9 V_h N_h e_u2
    refine ok_if ?_ ?_
    · intro C1
      exact ok_rV V_h
    · intro C1
      refine ok_if ?_ ?_
      · intro C2
        exact ok_rV V_h
      · intro C2
        refine ok_mul (by omega) ?_; intro v3 e_v3
        refine ok_ck (vi_r V_h).2.1.1 ?_
        have hb1 : kc_O (h 127 5).toNat = 3 := (vi_r V_h).2.1.2
        refine ok_ck hb1 ?_
        refine ok_cP (vf_X3_pairAt hn hb1 (by omega) (by omega) V_h) ?_; intro u6 e_u6 a_u6 b_u6
        refine ok_wA (by omega) ?_; intro h8 E_h8; have V_h8 : VS_ h8 := by rw [E_h8]; exact wA_133 V_h (by omega)
        have N_h8 : VG_ h8 := by rw [E_h8]; exact vg_ua V_h N_h rfl
        refine ok_add (by omega) ?_; intro v10 e_v10
        refine ok_ck (vi_r V_h8).2.1.1 ?_
        refine ok_add (by omega) ?_; intro v12 e_v12
        have hb2 : kc_O (h8 127 5).toNat = 3 := (vi_r V_h8).2.1.2
        refine ok_ck hb2 ?_
        refine ok_cP (vf_X3_byteAt hn hb2 (by omega) (by omega) V_h8) ?_; intro u14 e_u14 a_u14 b_u14
        refine ok_wA (by omega) ?_; intro h15 E_h15; have V_h15 : VS_ h15 := by rw [E_h15]; exact wA_133 V_h8 (by omega)
        have N_h15 : VG_ h15 := by rw [E_h15]; exact vg_ua V_h8 N_h8 rfl
        refine ok_add (by omega) ?_; intro v16 e_v16
        refine ok_add (by omega) ?_; intro v17 e_v17
        refine ok_cIR (vf_X11_takeTypes hn (by omega) (by omega) (by omega) (by omega) V_h15) ?_; intro u19 E_u19 V_u19 a_u19 b_u19 R_u19
        have N_u19_2 : VG_ u19.2 := vg_fr V_h15 N_h15 (fun c k z => (ff_X11_takeTypes nn) _ E_u19 c k z) rfl
        refine ok_add (by omega) ?_; intro v21 e_v21
        refine ok_ck (vi_r V_u19).2.1.1 ?_
        have hb3 : kc_O (u19.2 127 5).toNat = 3 := (vi_r V_u19).2.1.2
        refine ok_ck hb3 ?_
        refine ok_cP (vf_X3_byteAt hn hb3 (by omega) (by omega) V_u19) ?_; intro u24 e_u24 a_u24 b_u24
        refine ok_wA (by omega) ?_; intro h25 E_h25; have V_h25 : VS_ h25 := by rw [E_h25]; exact wA_133 V_u19 (by omega)
        have N_h25 : VG_ h25 := by rw [E_h25]; exact vg_ua V_u19 N_u19_2 rfl
        refine ok_add (by omega) ?_; intro v26 e_v26
        refine ok_cIR (vf_X11_takeTypes hn (by omega) (by omega) (by omega) (by omega) V_h25) ?_; intro u28 E_u28 V_u28 a_u28 b_u28 R_u28
        have N_u28_2 : VG_ u28.2 := vg_fr V_h25 N_h25 (fun c k z => (ff_X11_takeTypes nn) _ E_u28 c k z) rfl
        refine ok_cP (vf_X11_begins hn (by omega) (by omega) V_u28) ?_; intro u30 e_u30 a_u30 b_u30
        have T4 := pr_X11_begins e_u30
        refine ok_if ?_ ?_
        · intro C4
          refine ok_add (by omega) ?_; intro v31 e_v31
          exact ih (by omega) (by omega) (by omega) (by omega) (by omega) (by omega) V_u28 (by omega) N_u28_2 (by omega)
        · intro C4
          refine ok_rd (by omega) (gA_132 V_u28) ?_; intro v33 e_v33 a_v33 b_v33
          refine ok_if ?_ ?_
          · intro C5
            refine ok_add (by omega) ?_; intro v34 e_v34
            exact ih (by omega) (by omega) (by omega) (by omega) (by omega) (by omega) V_u28 (by omega) N_u28_2 (by omega)
          · intro C5
            refine ok_wA (by omega) ?_; intro h36 E_h36; have V_h36 : VS_ h36 := by rw [E_h36]; exact wA_132 V_u28 (by omega)
            have N_h36 : VG_ h36 := by rw [E_h36]; exact vg_ua V_u28 N_u28_2 rfl
            refine ok_add (by omega) ?_; intro v37 e_v37
            exact ih (by omega) (by omega) (by omega) (by omega) (by omega) (by omega) V_h36 (by omega) N_h36 (by omega)
set_option maxRecDepth 4000 in
theorem vf_X11_takeFrames {nn : Nat} (hn : 1000000 ≤ nn) {a1 : Int} {h : ms_M} (a_a1 : 0 ≤ a1) (b_a1 : a1 ≤ 1) (V_h : VS_ h) (N_h : VG_ h)  : Ok_ (qf_X11_takeFrames nn a1 h) QV_ := by
  unfold qf_X11_takeFrames
  refine ok_cP (vf_X11_info hn (by omega) (by omega) V_h) ?_; intro u43 e_u43 a_u43 b_u43
  exact vw_X11_takeFrames_9 hn _ (by omega) (by omega) (by omega) (by omega) (by omega) (by omega) V_h (by omega) N_h (by omega)
set_option maxRecDepth 4000 in
theorem vw_X7_cellsAbove_7 {nn : Nat} (hn : 1000000 ≤ nn) : ∀ (k : Nat) {l2 : Int} {l3 : Int} {l4 : Int} {h : ms_M} (a_l2 : 0 ≤ l2) (b_l2 : l2 ≤ 192) (a_l3 : (-1) ≤ l3) (b_l3 : l3 ≤ 341) (a_l4 : 0 ≤ l4) (b_l4 : l4 ≤ 16) (V_h : VS_ h) (x_0 : l2 ≤ 12 * l4)  (hm : 17 - l4 < (k : Int)), Ok_ (qw_X7_cellsAbove_7 nn k l2 l3 l4 h) (QP_ 0 192) := by
  intro k
  induction k with
  | zero => intros; exfalso; omega
  | succ k ih =>
    intro l2 l3 l4 h a_l2 b_l2 a_l3 b_l3 a_l4 b_l4 V_h x_0 hm
    unfold qw_X7_cellsAbove_7
    refine ok_if ?_ ?_
    · intro C0
      exact ok_rP (by omega) (by omega)
    · intro C0
      refine ok_cO (vf_X7_imageOf hn (by omega) (by omega) V_h) ?_; intro u2 e_u2 o_u2
      have T2 := po_X7_imageOf V_h e_u2
      refine ok_if ?_ ?_
      · intro C2
        exact ok_rP (by omega) (by omega)
      · intro C2
        have hb1 : kc_O (u2).toNat = 3 := (o_u2.resolve_left C2)
        refine ok_ck hb1 ?_
        have T4 := gI_10 V_h hb1
        refine ok_add (by omega) ?_; intro v6 e_v6
        refine ok_cP (vf_X4_above hn rfl (by omega) (by omega) V_h) ?_; intro u9 e_u9 a_u9 b_u9
        refine ok_add (by omega) ?_; intro v10 e_v10
        exact ih (by omega) (by omega) (by omega) (by omega) (by omega) (by omega) V_h (by omega) (by omega)
set_option maxRecDepth 4000 in
theorem vf_X7_cellsAbove {nn : Nat} (hn : 1000000 ≤ nn) {a1 : Int} {h : ms_M} (a_a1 : (-1) ≤ a1) (b_a1 : a1 ≤ 341) (V_h : VS_ h)  : Ok_ (qf_X7_cellsAbove nn a1 h) (QP_ 0 192) := by
  unfold qf_X7_cellsAbove
  exact vw_X7_cellsAbove_7 hn _ (by omega) (by omega) (by omega) (by omega) (by omega) (by omega) V_h (by omega) (by omega)
set_option maxRecDepth 4000 in
theorem vw_X7_linkMethods_29 {nn : Nat} (hn : 1000000 ≤ nn) {qkk_7 : Int → Int → Int → ms_M → Option ms_M} {K_kk_7 : Int} (hk_kk_7 : ∀ {l1 : Int} {l2 : Int} {l3 : Int} {h : ms_M} (a_l1 : 0 ≤ l1) (b_l1 : l1 ≤ 7) (a_l2 : (-1) ≤ l2) (b_l2 : l2 ≤ 341) (a_l3 : 0 ≤ l3) (b_l3 : l3 ≤ 16) (V_h : VS_ h) (_ : 17 - l3 < K_kk_7), Ok_ (qkk_7 l1 l2 l3 h) QV_) : ∀ (k : Nat) {l1 : Int} {l2 : Int} {l3 : Int} {l4 : Int} {l5 : Int} {h : ms_M} (a_l1 : 0 ≤ l1) (b_l1 : l1 ≤ 7) (a_l2 : 8 ≤ l2) (b_l2 : l2 ≤ 15) (a_l3 : 0 ≤ l3) (b_l3 : l3 ≤ 15) (n_l4 : 0 ≤ l4) (k_l4 : kc_O (l4).toNat = 3) (a_l5 : 0 ≤ l5) (b_l5 : l5 ≤ 12) (V_h : VS_ h) (hm_kk_7 : 17 - l3 + 0 ≤ K_kk_7) (hm : 13 - l5 < (k : Int)), Ok_ (qw_X7_linkMethods_29 nn qkk_7 k l1 l2 l3 l4 l5 h) QV_ := by
  intro k
  induction k with
  | zero => intros; exfalso; omega
  | succ k ih =>
    intro l1 l2 l3 l4 l5 h a_l1 b_l1 a_l2 b_l2 a_l3 b_l3 n_l4 k_l4 a_l5 b_l5 V_h hm_kk_7 hm
    unfold qw_X7_linkMethods_29
    refine ok_ck n_l4 ?_
    have hb1 : kc_O (l4).toNat = 3 := k_l4
    refine ok_ck hb1 ?_
    have T1 := gI_12 V_h hb1
    refine ok_if ?_ ?_
    · intro C1
      refine ok_cP (vf_X4_above hn rfl (by omega) (by omega) V_h) ?_; intro u5 e_u5 a_u5 b_u5
      refine ok_add (by omega) ?_; intro v6 e_v6
      exact hk_kk_7 (by omega) (by omega) (by omega) (by omega) (by omega) (by omega) V_h (by omega)
    · intro C1
      refine ok_mul (by omega) ?_; intro v8 e_v8
      refine ok_cP (vf_X7_numberOf hn (by omega) (by omega) (by omega) (by omega) V_h) ?_; intro u10 e_u10 a_u10 b_u10
      refine ok_add (by omega) ?_; intro v11 e_v11
      refine ok_add (by omega) ?_; intro v12 e_v12
      refine ok_cP (vf_X3_of hn hb1 (by omega) (by omega) (by omega) (by omega) V_h) ?_; intro u14 e_u14 a_u14 b_u14
      refine ok_cP (vf_X7_methodOf hn (by omega) (by omega) hb1 (by omega) (by omega) V_h) ?_; intro u16 e_u16 a_u16 b_u16
      refine ok_wA (by omega) ?_; intro h17 E_h17; have V_h17 : VS_ h17 := by rw [E_h17]; exact wA_70 V_h (by omega)
      refine ok_add (by omega) ?_; intro v18 e_v18
      exact ih (by omega) (by omega) (by omega) (by omega) (by omega) (by omega) (by omega) hb1 (by omega) (by omega) V_h17 (by omega) (by omega)
set_option maxRecDepth 4000 in
theorem vw_X7_linkMethods_7 {nn : Nat} (hn : 1000000 ≤ nn) : ∀ (k : Nat) {l1 : Int} {l2 : Int} {l3 : Int} {h : ms_M} (a_l1 : 0 ≤ l1) (b_l1 : l1 ≤ 7) (a_l2 : (-1) ≤ l2) (b_l2 : l2 ≤ 341) (a_l3 : 0 ≤ l3) (b_l3 : l3 ≤ 16) (V_h : VS_ h)  (hm : 17 - l3 < (k : Int)), Ok_ (qw_X7_linkMethods_7 nn k l1 l2 l3 h) QV_ := by
  intro k
  induction k with
  | zero => intros; exfalso; omega
  | succ k ih =>
    intro l1 l2 l3 h a_l1 b_l1 a_l2 b_l2 a_l3 b_l3 V_h hm
    unfold qw_X7_linkMethods_7
    refine ok_if ?_ ?_
    · intro C0
      exact ok_rV V_h
    · intro C0
      refine ok_cO (vf_X7_imageOf hn (by omega) (by omega) V_h) ?_; intro u21 e_u21 o_u21
      have T2 := po_X7_imageOf V_h e_u21
      refine ok_if ?_ ?_
      · intro C2
        exact ok_rV V_h
      · intro C2
        exact vw_X7_linkMethods_29 hn ih _ (by omega) (by omega) (by omega) (by omega) (by omega) (by omega) (by omega) (o_u21.resolve_left C2) (by omega) (by omega) V_h (by omega) (by omega)
set_option maxRecDepth 4000 in
theorem vf_X7_linkMethods {nn : Nat} (hn : 1000000 ≤ nn) {a1 : Int} {h : ms_M} (a_a1 : 0 ≤ a1) (b_a1 : a1 ≤ 7) (V_h : VS_ h)  : Ok_ (qf_X7_linkMethods nn a1 h) QV_ := by
  unfold qf_X7_linkMethods
  refine ok_add (by omega) ?_; intro v25 e_v25
  exact vw_X7_linkMethods_7 hn _ (by omega) (by omega) (by omega) (by omega) (by omega) (by omega) V_h (by omega)
