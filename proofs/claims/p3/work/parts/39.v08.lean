set_option maxRecDepth 4000 in
theorem vj_X9_signLength_96 {nn : Nat} (hn : 1000000 ≤ nn) {h : ms_M} (V_h : VS_ h)  : Ok_ (qj_X9_signLength_96 nn h) (QP_ 0 3) := by
  unfold qj_X9_signLength_96
  exact ok_rP (by omega) (by omega)
set_option maxRecDepth 4000 in
theorem vf_X9_signLength {nn : Nat} (hn : 1000000 ≤ nn) {a0 : Int} {h : ms_M} (a_a0 : 0 ≤ a0) (b_a0 : a0 ≤ 72) (V_h : VS_ h)  : Ok_ (qf_X9_signLength nn a0 h) (QP_ 0 3) := by
  unfold qf_X9_signLength
  refine ok_if ?_ ?_
  · intro C0
    exact ok_rP (by omega) (by omega)
  · intro C0
    refine ok_if ?_ ?_
    · intro C1
      exact vj_X9_signLength_96 hn V_h
    · intro C1
      refine ok_if ?_ ?_
      · intro C2
        exact vj_X9_signLength_96 hn V_h
      · intro C2
        refine ok_if ?_ ?_
        · intro C3
          exact vj_X9_signLength_96 hn V_h
        · intro C3
          refine ok_if ?_ ?_
          · intro C4
            exact vj_X9_signLength_96 hn V_h
          · intro C4
            refine ok_if ?_ ?_
            · intro C5
              exact vj_X9_signLength_96 hn V_h
            · intro C5
              refine ok_if ?_ ?_
              · intro C6
                exact vj_X9_signLength_96 hn V_h
              · intro C6
                refine ok_if ?_ ?_
                · intro C7
                  exact ok_rP (by omega) (by omega)
                · intro C7
                  refine ok_if ?_ ?_
                  · intro C8
                    exact vj_X9_signLength_96 hn V_h
                  · intro C8
                    refine ok_if ?_ ?_
                    · intro C9
                      exact vj_X9_signLength_96 hn V_h
                    · intro C9
                      exact ok_rP (by omega) (by omega)
set_option maxRecDepth 4000 in
theorem vf_X9_plainSignOf {nn : Nat} (hn : 1000000 ≤ nn) {a0 : Int} {h : ms_M} (a_a0 : (-128) ≤ a0) (b_a0 : a0 ≤ 127) (V_h : VS_ h)  : Ok_ (qf_X9_plainSignOf nn a0 h) (QP_ 0 72) := by
  unfold qf_X9_plainSignOf
  refine ok_if ?_ ?_
  · intro C0
    exact ok_rP (by omega) (by omega)
  · intro C0
    refine ok_if ?_ ?_
    · intro C1
      exact ok_rP (by omega) (by omega)
    · intro C1
      refine ok_if ?_ ?_
      · intro C2
        exact ok_rP (by omega) (by omega)
      · intro C2
        refine ok_if ?_ ?_
        · intro C3
          exact ok_rP (by omega) (by omega)
        · intro C3
          refine ok_if ?_ ?_
          · intro C4
            exact ok_rP (by omega) (by omega)
          · intro C4
            refine ok_if ?_ ?_
            · intro C5
              exact ok_rP (by omega) (by omega)
            · intro C5
              refine ok_if ?_ ?_
              · intro C6
                exact ok_rP (by omega) (by omega)
              · intro C6
                refine ok_if ?_ ?_
                · intro C7
                  exact ok_rP (by omega) (by omega)
                · intro C7
                  refine ok_if ?_ ?_
                  · intro C8
                    exact ok_rP (by omega) (by omega)
                  · intro C8
                    refine ok_if ?_ ?_
                    · intro C9
                      exact ok_rP (by omega) (by omega)
                    · intro C9
                      refine ok_if ?_ ?_
                      · intro C10
                        exact ok_rP (by omega) (by omega)
                      · intro C10
                        refine ok_if ?_ ?_
                        · intro C11
                          exact ok_rP (by omega) (by omega)
                        · intro C11
                          refine ok_if ?_ ?_
                          · intro C12
                            exact ok_rP (by omega) (by omega)
                          · intro C12
                            refine ok_if ?_ ?_
                            · intro C13
                              exact ok_rP (by omega) (by omega)
                            · intro C13
                              refine ok_if ?_ ?_
                              · intro C14
                                exact ok_rP (by omega) (by omega)
                              · intro C14
                                refine ok_if ?_ ?_
                                · intro C15
                                  exact ok_rP (by omega) (by omega)
                                · intro C15
                                  refine ok_if ?_ ?_
                                  · intro C16
                                    exact ok_rP (by omega) (by omega)
                                  · intro C16
                                    refine ok_if ?_ ?_
                                    · intro C17
                                      exact ok_rP (by omega) (by omega)
                                    · intro C17
                                      exact ok_rP (by omega) (by omega)
set_option maxRecDepth 4000 in
theorem vf_X9_signOf {nn : Nat} (hn : 1000000 ≤ nn) {a0 : Int} {a1 : Int} {h : ms_M} (a_a0 : (-128) ≤ a0) (b_a0 : a0 ≤ 127) (a_a1 : (-128) ≤ a1) (b_a1 : a1 ≤ 127) (V_h : VS_ h)  : Ok_ (qf_X9_signOf nn a0 a1 h) (QP_ 0 72) := by
  unfold qf_X9_signOf
  refine ok_if ?_ ?_
  · intro C0
    refine ok_if ?_ ?_
    · intro C1
      exact ok_rP (by omega) (by omega)
    · intro C1
      exact ok_rP (by omega) (by omega)
  · intro C0
    refine ok_if ?_ ?_
    · intro C2
      refine ok_if ?_ ?_
      · intro C3
        exact ok_rP (by omega) (by omega)
      · intro C3
        exact ok_rP (by omega) (by omega)
    · intro C2
      refine ok_if ?_ ?_
      · intro C4
        refine ok_if ?_ ?_
        · intro C5
          refine ok_if ?_ ?_
          · intro C6
            exact ok_rP (by omega) (by omega)
          · intro C6
            exact ok_rP (by omega) (by omega)
        · intro C5
          exact ok_rP (by omega) (by omega)
      · intro C4
        refine ok_if ?_ ?_
        · intro C7
          refine ok_if ?_ ?_
          · intro C8
            exact ok_rP (by omega) (by omega)
          · intro C8
            exact ok_rP (by omega) (by omega)
        · intro C7
          refine ok_if ?_ ?_
          · intro C9
            refine ok_if ?_ ?_
            · intro C10
              refine ok_if ?_ ?_
              · intro C11
                exact ok_rP (by omega) (by omega)
              · intro C11
                exact ok_rP (by omega) (by omega)
            · intro C10
              exact ok_rP (by omega) (by omega)
          · intro C9
            refine ok_if ?_ ?_
            · intro C12
              refine ok_if ?_ ?_
              · intro C13
                exact ok_rP (by omega) (by omega)
              · intro C13
                exact ok_rP (by omega) (by omega)
            · intro C12
              refine ok_cP (vf_X9_plainSignOf hn (by omega) (by omega) V_h) ?_; intro u1 e_u1 a_u1 b_u1
              exact ok_rP (by omega) (by omega)
set_option maxRecDepth 4000 in
theorem vj_X9_scanToken_110 {nn : Nat} (hn : 1000000 ≤ nn) {l3 : Int} {s0 : Int} {h : ms_M} (a_l3 : 0 ≤ l3) (b_l3 : l3 ≤ 2999) (a_s0 : 0 ≤ s0) (b_s0 : s0 ≤ 72) (V_h : VS_ h) (N_h : NM_ h)  : Ok_ (qj_X9_scanToken_110 nn l3 s0 h) (QIR_ 0 6000 (fun u r => (NM_ r) ∧ (h 2 3 ≤ r 2 3 ∧ r 2 3 ≤ h 2 3 + 1))) := by
  unfold qj_X9_scanToken_110
  have T1 := gF_2_3 V_h
  refine ok_if ?_ ?_
  · intro C1
    refine ok_cP (vf_X9_signLength hn (by omega) (by omega) V_h) ?_; intro u1 e_u1 a_u1 b_u1
    exact ok_rIR V_h (by omega) (by omega) ⟨N_h, by omega⟩
  · intro C1
    refine ok_cVR (vf_X9_addToken hn (by omega) (by omega) (by omega) (by omega) (by omega) (by omega) V_h) ?_; intro u3 E_u3 V_u3 R_u3
    have T3 := lm_X9_addToken V_h E_u3
    have N_u3 : NM_ u3 := nm_eq N_h (fun k => (ff_X9_addToken nn) _ E_u3 7 k (nw_ar rfl k)) ((ff_X9_addToken nn) _ E_u3 2 9 rfl)
    have T4 := gF_2_3 V_u3
    refine ok_cP (vf_X9_signLength hn (by omega) (by omega) V_u3) ?_; intro u4 e_u4 a_u4 b_u4
    exact ok_rIR V_u3 (by omega) (by omega) ⟨N_u3, by omega⟩
set_option maxRecDepth 4000 in
theorem vj_X9_scanToken_103 {nn : Nat} (hn : 1000000 ≤ nn) {l3 : Int} {l4 : Int} {l5 : Int} {h : ms_M} (a_l3 : 0 ≤ l3) (b_l3 : l3 ≤ 2999) (a_l4 : (-128) ≤ l4) (b_l4 : l4 ≤ 127) (a_l5 : (-128) ≤ l5) (b_l5 : l5 ≤ 127) (V_h : VS_ h) (N_h : NM_ h)  : Ok_ (qj_X9_scanToken_103 nn l3 l4 l5 h) (QIR_ 0 6000 (fun u r => (NM_ r) ∧ (h 2 3 ≤ r 2 3 ∧ r 2 3 ≤ h 2 3 + 1))) := by
  unfold qj_X9_scanToken_103
  have T1 := gF_2_3 V_h
  refine ok_cP (vf_X9_signOf hn (by omega) (by omega) (by omega) (by omega) V_h) ?_; intro u6 e_u6 a_u6 b_u6
  exact ok_mI (vj_X9_scanToken_110 hn (by omega) (by omega) (by omega) (by omega) V_h N_h) (fun _ _ V_r R_r => ⟨R_r.1, by have := R_r.2; have := gF_2_3 V_r; omega⟩)
set_option maxRecDepth 4000 in
theorem vj_X9_scanToken_84 {nn : Nat} (hn : 1000000 ≤ nn) {l3 : Int} {l4 : Int} {l5 : Int} {s0 : Int} {h : ms_M} (a_l3 : 0 ≤ l3) (b_l3 : l3 ≤ 2999) (a_l4 : (-128) ≤ l4) (b_l4 : l4 ≤ 127) (a_l5 : (-128) ≤ l5) (b_l5 : l5 ≤ 127) (a_s0 : 0 ≤ s0) (b_s0 : s0 ≤ 1) (V_h : VS_ h) (N_h : NM_ h)  : Ok_ (qj_X9_scanToken_84 nn l3 l4 l5 s0 h) (QIR_ 0 6000 (fun u r => (NM_ r) ∧ (h 2 3 ≤ r 2 3 ∧ r 2 3 ≤ h 2 3 + 1))) := by
  unfold qj_X9_scanToken_84
  have T1 := gF_2_3 V_h
  refine ok_if ?_ ?_
  · intro C1
    exact ok_mI (vj_X9_scanToken_103 hn (by omega) (by omega) (by omega) (by omega) (by omega) (by omega) V_h N_h) (fun _ _ V_r R_r => ⟨R_r.1, by have := R_r.2; have := gF_2_3 V_r; omega⟩)
  · intro C1
    refine ok_if ?_ ?_
    · intro C2
      exact ok_mI (vj_X9_scanToken_103 hn (by omega) (by omega) (by omega) (by omega) (by omega) (by omega) V_h N_h) (fun _ _ V_r R_r => ⟨R_r.1, by have := R_r.2; have := gF_2_3 V_r; omega⟩)
    · intro C2
      exact ok_mI (vj_X9_scanToken_110 hn (by omega) (by omega) (by omega) (by omega) V_h N_h) (fun _ _ V_r R_r => ⟨R_r.1, by have := R_r.2; have := gF_2_3 V_r; omega⟩)
set_option maxRecDepth 4000 in
theorem vj_X9_scanToken_83 {nn : Nat} (hn : 1000000 ≤ nn) {l3 : Int} {l4 : Int} {l5 : Int} {h : ms_M} (a_l3 : 0 ≤ l3) (b_l3 : l3 ≤ 2999) (a_l4 : (-128) ≤ l4) (b_l4 : l4 ≤ 127) (a_l5 : (-128) ≤ l5) (b_l5 : l5 ≤ 127) (V_h : VS_ h) (N_h : NM_ h)  : Ok_ (qj_X9_scanToken_83 nn l3 l4 l5 h) (QIR_ 0 6000 (fun u r => (NM_ r) ∧ (h 2 3 ≤ r 2 3 ∧ r 2 3 ≤ h 2 3 + 1))) := by
  unfold qj_X9_scanToken_83
  have T1 := gF_2_3 V_h
  exact ok_mI (vj_X9_scanToken_84 hn (by omega) (by omega) (by omega) (by omega) (by omega) (by omega) (by omega) (by omega) V_h N_h) (fun _ _ V_r R_r => ⟨R_r.1, by have := R_r.2; have := gF_2_3 V_r; omega⟩)
set_option maxRecDepth 4000 in
theorem vj_X9_scanToken_53 {nn : Nat} (hn : 1000000 ≤ nn) {l2 : Int} {l3 : Int} {l4 : Int} {s0 : Int} {h : ms_M} (a_l2 : 1 ≤ l2) (b_l2 : l2 ≤ 3000) (a_l3 : 0 ≤ l3) (b_l3 : l3 ≤ 2999) (a_l4 : (-128) ≤ l4) (b_l4 : l4 ≤ 127) (a_s0 : (-128) ≤ s0) (b_s0 : s0 ≤ 127) (V_h : VS_ h) (N_h : NM_ h)  : Ok_ (qj_X9_scanToken_53 nn l2 l3 l4 s0 h) (QIR_ 0 6000 (fun u r => (NM_ r) ∧ (h 2 3 ≤ r 2 3 ∧ r 2 3 ≤ h 2 3 + 1))) := by
  unfold qj_X9_scanToken_53
  have T1 := gF_2_3 V_h
  refine ok_if ?_ ?_
  · intro C1
    exact ok_mI (vj_X9_scanToken_83 hn (by omega) (by omega) (by omega) (by omega) (by omega) (by omega) V_h N_h) (fun _ _ V_r R_r => ⟨R_r.1, by have := R_r.2; have := gF_2_3 V_r; omega⟩)
  · intro C1
    refine ok_add (by omega) ?_; intro v9 e_v9
    refine ok_if ?_ ?_
    · intro C2
      exact ok_mI (vj_X9_scanToken_83 hn (by omega) (by omega) (by omega) (by omega) (by omega) (by omega) V_h N_h) (fun _ _ V_r R_r => ⟨R_r.1, by have := R_r.2; have := gF_2_3 V_r; omega⟩)
    · intro C2
      refine ok_add (by omega) ?_; intro v10 e_v10
      refine ok_rd (by omega) (gA_1 V_h) ?_; intro v11 e_v11 a_v11 b_v11
      refine ok_if ?_ ?_
      · intro C3
        exact ok_mI (vj_X9_scanToken_83 hn (by omega) (by omega) (by omega) (by omega) (by omega) (by omega) V_h N_h) (fun _ _ V_r R_r => ⟨R_r.1, by have := R_r.2; have := gF_2_3 V_r; omega⟩)
      · intro C3
        exact ok_mI (vj_X9_scanToken_84 hn (by omega) (by omega) (by omega) (by omega) (by omega) (by omega) (by omega) (by omega) V_h N_h) (fun _ _ V_r R_r => ⟨R_r.1, by have := R_r.2; have := gF_2_3 V_r; omega⟩)
set_option maxRecDepth 4000 in
theorem vf_X9_scanToken {nn : Nat} (hn : 1000000 ≤ nn) {a2 : Int} {a3 : Int} {h : ms_M} (a_a2 : 1 ≤ a2) (b_a2 : a2 ≤ 3000) (a_a3 : 0 ≤ a3) (b_a3 : a3 ≤ 2999) (V_h : VS_ h) (N_h : NM_ h)  : Ok_ (qf_X9_scanToken nn a2 a3 h) (QIR_ 0 6000 (fun u r => (NM_ r) ∧ (h 2 3 ≤ r 2 3 ∧ r 2 3 ≤ h 2 3 + 1))) := by
  unfold qf_X9_scanToken
  have T1 := gF_2_3 V_h
  refine ok_rd (by omega) (gA_1 V_h) ?_; intro v15 e_v15 a_v15 b_v15
  refine ok_cP (vf_X9_isLetter hn (by omega) (by omega) V_h) ?_; intro u16 e_u16 a_u16 b_u16
  refine ok_if ?_ ?_
  · intro C1
    refine ok_cP (vf_X9_isDigit hn (by omega) (by omega) V_h) ?_; intro u17 e_u17 a_u17 b_u17
    have T3 := pr_X9_isDigit e_u17
    refine ok_if ?_ ?_
    · intro C3
      refine ok_add (by omega) ?_; intro v18 e_v18
      refine ok_if ?_ ?_
      · intro C4
        exact ok_mI (vj_X9_scanToken_53 hn (by omega) (by omega) (by omega) (by omega) (by omega) (by omega) (by omega) (by omega) V_h N_h) (fun _ _ V_r R_r => ⟨R_r.1, by have := R_r.2; have := gF_2_3 V_r; omega⟩)
      · intro C4
        refine ok_add (by omega) ?_; intro v19 e_v19
        refine ok_rd (by omega) (gA_1 V_h) ?_; intro v20 e_v20 a_v20 b_v20
        exact ok_mI (vj_X9_scanToken_53 hn (by omega) (by omega) (by omega) (by omega) (by omega) (by omega) (by omega) (by omega) V_h N_h) (fun _ _ V_r R_r => ⟨R_r.1, by have := R_r.2; have := gF_2_3 V_r; omega⟩)
    · intro C3
      refine ok_cIR (vf_X9_scanNumber hn (by omega) (by omega) (by omega) (by omega) V_h) ?_; intro u23 E_u23 V_u23 a_u23 b_u23 R_u23
      have N_u23_2 : NM_ u23.2 := nm_eq N_h (fun k => (ff_X9_scanNumber nn) _ E_u23 7 k (nw_ar rfl k)) ((ff_X9_scanNumber nn) _ E_u23 2 9 rfl)
      have T6 := gF_2_3 V_u23
      exact ok_rIR V_u23 (by omega) (by omega) ⟨N_u23_2, by omega⟩
  · intro C1
    refine ok_cIR (vf_X9_scanWord hn (by omega) (by omega) (by omega) (by omega) V_h N_h) ?_; intro u26 E_u26 V_u26 a_u26 b_u26 R_u26
    have N_u26_2 : NM_ u26.2 := R_u26.1
    have T7 := gF_2_3 V_u26
    exact ok_rIR V_u26 (by omega) (by omega) ⟨N_u26_2, by omega⟩
set_option maxRecDepth 4000 in
theorem vj_X9_scan_102 {nn : Nat} (hn : 1000000 ≤ nn) {l2 : Int} {h : ms_M} (a_l2 : 0 ≤ l2) (b_l2 : l2 ≤ 3000) (V_h : VS_ h) (x_0 : h 2 3 ≤ 3000) (x_1 : h 2 10 = 0 ∧ h 2 11 = 0) (N_h : NM_ h)  : Ok_ (qj_X9_scan_102 nn l2 h) (QVR_ (fun r => (NM_ r) ∧ (1 ≤ r 2 3 ∧ r 3 (r 2 3 - 1).toNat ≤ 1) ∧ (r 2 10 = 0 ∧ r 2 11 = 0))) := by
  unfold qj_X9_scan_102
  have T1 := gF_2_3 V_h
  have T2 := gF_2_10 V_h
  have T3 := gF_2_11 V_h
  refine ok_cVR (vf_X9_addToken hn (by omega) (by omega) (by omega) (by omega) (by omega) (by omega) V_h) ?_; intro u2 E_u2 V_u2 R_u2
  have T4 := lm_X9_addToken V_h E_u2
  have N_u2 : NM_ u2 := nm_eq N_h (fun k => (ff_X9_addToken nn) _ E_u2 7 k (nw_ar rfl k)) ((ff_X9_addToken nn) _ E_u2 2 9 rfl)
  have T5 : u2 2 10 = h 2 10 := (ff_X9_addToken nn) _ E_u2 2 10 rfl
  have T6 : u2 2 11 = h 2 11 := (ff_X9_addToken nn) _ E_u2 2 11 rfl
  have T7 := gF_2_3 V_u2
  exact ok_rVR V_u2 ⟨N_u2, by omega⟩
set_option maxRecDepth 4000 in
theorem vw_X9_scan_51 {nn : Nat} (hn : 1000000 ≤ nn) : ∀ (k : Nat) {l2 : Int} {l3 : Int} {l4 : Int} {h : ms_M} (a_l2 : 0 ≤ l2) (b_l2 : l2 ≤ 3000) (a_l3 : 0 ≤ l3) (b_l3 : l3 ≤ 12000) (a_l4 : 0 ≤ l4) (b_l4 : l4 ≤ 3000) (V_h : VS_ h) (x_0 : h 2 3 ≤ l4) (x_1 : h 2 10 = 0 ∧ h 2 11 = 0) (N_h : NM_ h)  (hm : 3001 - l4 < (k : Int)), Ok_ (qw_X9_scan_51 nn k l2 l3 l4 h) (QVR_ (fun r => (NM_ r) ∧ (1 ≤ r 2 3 ∧ r 3 (r 2 3 - 1).toNat ≤ 1) ∧ (r 2 10 = 0 ∧ r 2 11 = 0))) := by
  intro k
  induction k with
  | zero => intros; exfalso; omega
  | succ k ih =>
    intro l2 l3 l4 h a_l2 b_l2 a_l3 b_l3 a_l4 b_l4 V_h x_0 x_1 N_h hm
    unfold qw_X9_scan_51
    have T1 := gF_2_3 V_h
    have T2 := gF_2_10 V_h
    have T3 := gF_2_11 V_h
    refine ok_if ?_ ?_
    · intro C3
      exact ok_mV (vj_X9_scan_102 hn (by omega) (by omega) V_h (by omega) (by omega) N_h) (fun _ V_r R_r => ⟨R_r.1, by have := R_r.2; have := gF_2_3 V_r; have := gF_2_10 V_r; have := gF_2_11 V_r; omega⟩)
    · intro C3
      refine ok_if ?_ ?_
      · intro C4
        exact ok_mV (vj_X9_scan_102 hn (by omega) (by omega) V_h (by omega) (by omega) N_h) (fun _ V_r R_r => ⟨R_r.1, by have := R_r.2; have := gF_2_3 V_r; have := gF_2_10 V_r; have := gF_2_11 V_r; omega⟩)
      · intro C4
        refine ok_cIR (vf_X9_scanToken hn (by omega) (by omega) (by omega) (by omega) V_h N_h) ?_; intro u4 E_u4 V_u4 a_u4 b_u4 R_u4
        have N_u4_2 : NM_ u4.2 := R_u4.1
        have T6 : u4.2 2 10 = h 2 10 := (ff_X9_scanToken nn) _ E_u4 2 10 rfl
        have T7 : u4.2 2 11 = h 2 11 := (ff_X9_scanToken nn) _ E_u4 2 11 rfl
        have T8 := gF_2_3 V_u4
        refine ok_if ?_ ?_
        · intro C8
          refine ok_add (by omega) ?_; intro v5 e_v5
          refine ok_cP (vf_X9_behindBlanks hn (by omega) (by omega) (by omega) (by omega) V_u4) ?_; intro u6 e_u6 a_u6 b_u6
          refine ok_add (by omega) ?_; intro v7 e_v7
          exact ok_mV (ih (by omega) (by omega) (by omega) (by omega) (by omega) (by omega) V_u4 (by omega) (by omega) N_u4_2 (by omega)) (fun _ V_r R_r => ⟨R_r.1, by have := R_r.2; have := gF_2_3 V_r; have := gF_2_10 V_r; have := gF_2_11 V_r; omega⟩)
        · intro C8
          refine ok_cVR (vf_X9_addToken hn (by omega) (by omega) (by omega) (by omega) (by omega) (by omega) V_u4) ?_; intro u9 E_u9 V_u9 R_u9
          have T10 := lm_X9_addToken V_u4 E_u9
          have N_u9 : NM_ u9 := nm_eq N_u4_2 (fun k => (ff_X9_addToken nn) _ E_u9 7 k (nw_ar rfl k)) ((ff_X9_addToken nn) _ E_u9 2 9 rfl)
          have T11 : u9 2 10 = u4.2 2 10 := (ff_X9_addToken nn) _ E_u9 2 10 rfl
          have T12 : u9 2 11 = u4.2 2 11 := (ff_X9_addToken nn) _ E_u9 2 11 rfl
          have T13 := gF_2_3 V_u9
          exact ok_rVR V_u9 ⟨N_u9, by omega⟩
set_option maxRecDepth 4000 in
theorem vf_X9_scan {nn : Nat} (hn : 1000000 ≤ nn) {a2 : Int} {h : ms_M} (a_a2 : 0 ≤ a2) (b_a2 : a2 ≤ 3000) (V_h : VS_ h) (N_h : NM_ h)  : Ok_ (qf_X9_scan nn a2 h) (QVR_ (fun r => (NM_ r) ∧ (1 ≤ r 2 3 ∧ r 3 (r 2 3 - 1).toNat ≤ 1) ∧ (r 2 10 = 0 ∧ r 2 11 = 0))) := by
  unfold qf_X9_scan
  have T1 := gF_2_3 V_h
  have T2 := gF_2_10 V_h
  have T3 := gF_2_11 V_h
  refine ok_xl ?_; intro h13 E_h13; have V_h13 : VS_ h13 := by rw [E_h13]; exact wF_2_9 V_h (by omega)
  have N_h13 : NM_ h13 := by rw [E_h13]; exact nm_K N_h
  have T4 : h13 2 3 = h 2 3 := by rw [E_h13]; exact up_n (by decide)
  have T5 : h13 2 10 = h 2 10 := by rw [E_h13]; exact up_n (by decide)
  have T6 : h13 2 11 = h 2 11 := by rw [E_h13]; exact up_n (by decide)
  refine ok_cp V_h13 (gA_10 V_h13) rfl (show _ ∧ _ ∧ _ ∧ _ + _ ≤ (64 : Int) ∧ _ + _ ≤ (64 : Int) by omega) (fun z y => wA_9 z (by omega)) ?_; intro h16 V_h16 F_h16
  have N_h16 : NM_ h16 := nm_eq N_h13 (fun k => F_h16 7 k (by decide)) (F_h16 2 9 (by decide))
  have T7 : h16 2 3 = h13 2 3 := F_h16 _ _ (by decide)
  have T8 : h16 2 10 = h13 2 10 := F_h16 _ _ (by decide)
  have T9 : h16 2 11 = h13 2 11 := F_h16 _ _ (by decide)
  refine ok_xl ?_; intro h17 E_h17; have V_h17 : VS_ h17 := by rw [E_h17]; exact wF_2_3 V_h16 (by omega)
  have N_h17 : NM_ h17 := by rw [E_h17]; exact nm_uf N_h16 (by decide)
  have T10 : h17 2 10 = h16 2 10 := by rw [E_h17]; exact up_n (by decide)
  have T11 : h17 2 11 = h16 2 11 := by rw [E_h17]; exact up_n (by decide)
  have T12 : h17 2 3 = 0 := by rw [E_h17]; exact up_s
  refine ok_xl ?_; intro h18 E_h18; have V_h18 : VS_ h18 := by rw [E_h18]; exact wF_2_10 V_h17 (by omega)
  have N_h18 : NM_ h18 := by rw [E_h18]; exact nm_uf N_h17 (by decide)
  have T13 : h18 2 11 = h17 2 11 := by rw [E_h18]; exact up_n (by decide)
  have T14 : h18 2 3 = h17 2 3 := by rw [E_h18]; exact up_n (by decide)
  have T15 : h18 2 10 = 0 := by rw [E_h18]; exact up_s
  refine ok_xl ?_; intro h19 E_h19; have V_h19 : VS_ h19 := by rw [E_h19]; exact wF_2_11 V_h18 (by omega)
  have N_h19 : NM_ h19 := by rw [E_h19]; exact nm_uf N_h18 (by decide)
  have T16 : h19 2 3 = h18 2 3 := by rw [E_h19]; exact up_n (by decide)
  have T17 : h19 2 10 = h18 2 10 := by rw [E_h19]; exact up_n (by decide)
  have T18 : h19 2 11 = 0 := by rw [E_h19]; exact up_s
  refine ok_xl ?_; intro h20 E_h20; have V_h20 : VS_ h20 := by rw [E_h20]; exact wF_2_12 V_h19 (by omega)
  have N_h20 : NM_ h20 := by rw [E_h20]; exact nm_uf N_h19 (by decide)
  have T19 : h20 2 3 = h19 2 3 := by rw [E_h20]; exact up_n (by decide)
  have T20 : h20 2 10 = h19 2 10 := by rw [E_h20]; exact up_n (by decide)
  have T21 : h20 2 11 = h19 2 11 := by rw [E_h20]; exact up_n (by decide)
  refine ok_cP (vf_X9_behindBlanks hn (by omega) (by omega) (by omega) (by omega) V_h20) ?_; intro u21 e_u21 a_u21 b_u21
  exact ok_mV (vw_X9_scan_51 hn _ (by omega) (by omega) (by omega) (by omega) (by omega) (by omega) V_h20 (by omega) (by omega) N_h20 (by omega)) (fun _ V_r R_r => ⟨R_r.1, by have := R_r.2; have := gF_2_3 V_r; have := gF_2_10 V_r; have := gF_2_11 V_r; omega⟩)
set_option maxRecDepth 4000 in
theorem vf_X12_end {nn : Nat} (hn : 1000000 ≤ nn) {a1 : Int} {h : ms_M} (a_a1 : (-2147483648) ≤ a1) (b_a1 : a1 ≤ 2147483647) (V_h : VS_ h)  : Ok_ (qf_X12_end nn a1 h) (QI_ 0 1) := by
  unfold qf_X12_end
  refine ok_if ?_ ?_
  · intro C0
    exact ok_rI V_h (by omega) (by omega)
  · intro C0
    have T2 := gF_0_1 V_h
    refine ok_if ?_ ?_
    · intro C2
      refine ok_xl ?_; intro h2 E_h2; have V_h2 : VS_ h2 := by rw [E_h2]; exact wF_0_1 V_h (by omega)
      exact ok_rI V_h2 (by omega) (by omega)
    · intro C2
      exact ok_rI V_h (by omega) (by omega)
set_option maxRecDepth 4000 in
theorem vf_X12_fault {nn : Nat} (hn : 1000000 ≤ nn) {a1 : Int} {h : ms_M} (a_a1 : (-2147483648) ≤ a1) (b_a1 : a1 ≤ 2147483647) (V_h : VS_ h)  : Ok_ (qf_X12_fault nn a1 h) (QP_ (-1) 3000) := by
  unfold qf_X12_fault
  refine ok_if ?_ ?_
  · intro C0
    refine ok_if ?_ ?_
    · intro C1
      exact ok_rP (by omega) (by omega)
    · intro C1
      have T3 := gF_2_11 V_h
      refine ok_if ?_ ?_
      · intro C3
        exact ok_rP (by omega) (by omega)
      · intro C3
        have T5 := gF_2_12 V_h
        exact ok_rP (by omega) (by omega)
  · intro C0
    have T6 := gF_2_11 V_h
    exact ok_rP (by omega) (by omega)
set_option maxRecDepth 4000 in
theorem vw_X12_putNumber_3 {nn : Nat} (hn : 1000000 ≤ nn) : ∀ (k : Nat) {l1 : Int} {l2 : Int} {h : ms_M} (a_l1 : (-2147483648) ≤ l1) (b_l1 : l1 ≤ 2147483647) (a_l2 : (-8) ≤ l2) (b_l2 : l2 ≤ 24) (V_h : VS_ h)  (hm : l2 - (-9) < (k : Int)), Ok_ (qw_X12_putNumber_3 nn k l1 l2 h) QV_ := by
  intro k
  induction k with
  | zero => intros; exfalso; omega
  | succ k ih =>
    intro l1 l2 h a_l1 b_l1 a_l2 b_l2 V_h hm
    unfold qw_X12_putNumber_3
    refine ok_if ?_ ?_
    · intro C0
      exact ok_rV V_h
    · intro C0
      have T2 := gF_0_1 V_h
      refine ok_if ?_ ?_
      · intro C2
        refine ok_add (by omega) ?_; intro v4 e_v4
        exact ih (by omega) (by omega) (by omega) (by omega) V_h (by omega)
      · intro C2
        refine ok_i32 ?_; intro v7 a_v7 b_v7
        refine ok_b ?_; intro v8 a_v8 b_v8
        refine ok_wB (by omega) ?_; intro h9 E_h9; have V_h9 : VS_ h9 := by rw [E_h9]; exact wA_1 V_h oq_b_rh
        have T4 : h9 0 1 = h 0 1 := by rw [E_h9]; exact up_n (fun z => absurd z.1 (by decide))
        refine ok_add (by omega) ?_; intro v11 e_v11
        refine ok_xl ?_; intro h12 E_h12; have V_h12 : VS_ h12 := by rw [E_h12]; exact wF_0_1 V_h9 (by omega)
        refine ok_add (by omega) ?_; intro v13 e_v13
        exact ih (by omega) (by omega) (by omega) (by omega) V_h12 (by omega)
set_option maxRecDepth 4000 in
theorem vf_X12_putNumber {nn : Nat} (hn : 1000000 ≤ nn) {a1 : Int} {h : ms_M} (a_a1 : (-2147483648) ≤ a1) (b_a1 : a1 ≤ 2147483647) (V_h : VS_ h)  : Ok_ (qf_X12_putNumber nn a1 h) QV_ := by
  unfold qf_X12_putNumber
  exact vw_X12_putNumber_3 hn _ (by omega) (by omega) (by omega) (by omega) V_h (by omega)
set_option maxRecDepth 4000 in
theorem vf_X12_feed {nn : Nat} (hn : 1000000 ≤ nn) {a1 : Int} {a2 : Int} {a3 : Int} {a4 : Int} {a5 : Int} {h : ms_M} (a_a1 : (-2147483648) ≤ a1) (b_a1 : a1 ≤ 2147483647) (a_a2 : (-2147483648) ≤ a2) (b_a2 : a2 ≤ 2147483647) (a_a3 : (-2147483648) ≤ a3) (b_a3 : a3 ≤ 2147483647) (a_a4 : (-2147483648) ≤ a4) (b_a4 : a4 ≤ 2147483647) (a_a5 : (-2147483648) ≤ a5) (b_a5 : a5 ≤ 2147483647) (V_h : VS_ h)  : Ok_ (qf_X12_feed nn a1 a2 a3 a4 a5 h) (QI_ (-1) 6000) := by
  unfold qf_X12_feed
  have T1 := gF_0_1 V_h
  refine ok_add (by omega) ?_; intro v2 e_v2
  refine ok_if ?_ ?_
  · intro C1
    refine ok_cV (vf_X12_putNumber hn (by omega) (by omega) V_h) ?_; intro u4 E_u4 V_u4
    refine ok_cV (vf_X12_putNumber hn (by omega) (by omega) V_u4) ?_; intro u6 E_u6 V_u6
    refine ok_cV (vf_X12_putNumber hn (by omega) (by omega) V_u6) ?_; intro u8 E_u8 V_u8
    refine ok_cV (vf_X12_putNumber hn (by omega) (by omega) V_u8) ?_; intro u10 E_u10 V_u10
    refine ok_cV (vf_X12_putNumber hn (by omega) (by omega) V_u10) ?_; intro u12 E_u12 V_u12
    have T3 := gF_0_1 V_u12
    exact ok_rI V_u12 (by omega) (by omega)
  · intro C1
    exact ok_rI V_h (by omega) (by omega)
set_option maxRecDepth 4000 in
theorem vf_X3_bad {nn : Nat} (hn : 1000000 ≤ nn) {a0 : Nat} {a1 : Int} {h : ms_M} (hb_a0 : kc_O a0 = 3) (a_a1 : (-1) ≤ a1) (b_a1 : a1 ≤ 6002) (V_h : VS_ h)  : Ok_ (qf_X3_bad nn a0 a1 h) QV_ := by
  unfold qf_X3_bad
  have T1 := gI_3 V_h hb_a0
  refine ok_if ?_ ?_
  · intro C1
    exact ok_rV V_h
  · intro C1
    refine ok_xl ?_; intro h2 E_h2; have V_h2 : VS_ h2 := by rw [E_h2]; exact wI_3 V_h hb_a0 (by omega)
    exact ok_rV V_h2
set_option maxRecDepth 4000 in
theorem vf_X3_byteAt {nn : Nat} (hn : 1000000 ≤ nn) {a0 : Nat} {a1 : Int} {h : ms_M} (hb_a0 : kc_O a0 = 3) (a_a1 : (-2147483648) ≤ a1) (b_a1 : a1 ≤ 2147483647) (V_h : VS_ h)  : Ok_ (qf_X3_byteAt nn a0 a1 h) (QP_ 0 255) := by
  unfold qf_X3_byteAt
  refine ok_if ?_ ?_
  · intro C0
    exact ok_rP (by omega) (by omega)
  · intro C0
    have T2 := gI_1 V_h hb_a0
    refine ok_if ?_ ?_
    · intro C2
      exact ok_rP (by omega) (by omega)
    · intro C2
      have T4 := vi_b V_h (b := a0) hb_a0
      have T5 := T4.2
      refine ok_ck T4.1.1 ?_
      refine ok_rT V_h T4.1.2 (by omega) ?_; intro v3 e_v3 a_v3 b_v3
      refine ok_and (by omega) ?_; intro v4 a_v4 b_v4
      exact ok_rP (by omega) (by omega)
set_option maxRecDepth 4000 in
theorem vf_X3_tagOf {nn : Nat} (hn : 1000000 ≤ nn) {a0 : Nat} {a1 : Int} {h : ms_M} (hb_a0 : kc_O a0 = 3) (a_a1 : 0 ≤ a1) (b_a1 : a1 ≤ 255) (V_h : VS_ h)  : Ok_ (qf_X3_tagOf nn a0 a1 h) (QP_ 0 255) := by
  unfold qf_X3_tagOf
  refine ok_if ?_ ?_
  · intro C0
    exact ok_rP (by omega) (by omega)
  · intro C0
    have T2 := gI_7 V_h hb_a0
    refine ok_if ?_ ?_
    · intro C2
      exact ok_rP (by omega) (by omega)
    · intro C2
      refine ok_if ?_ ?_
      · intro C3
        exfalso; omega
      · intro C3
        refine ok_rd (by omega) (gIA_2 V_h hb_a0) ?_; intro v5 e_v5 a_v5 b_v5
        exact ok_rP (by omega) (by omega)
set_option maxRecDepth 4000 in
theorem vf_X3_isArrayText {nn : Nat} (hn : 1000000 ≤ nn) {a0 : Nat} {a1 : Int} {h : ms_M} (hb_a0 : kc_O a0 = 3) (a_a1 : 0 ≤ a1) (b_a1 : a1 ≤ 255) (V_h : VS_ h)  : Ok_ (qf_X3_isArrayText nn a0 a1 h) (QP_ 0 1) := by
  unfold qf_X3_isArrayText
  refine ok_cP (vf_X3_tagOf hn hb_a0 (by omega) (by omega) V_h) ?_; intro u2 e_u2 a_u2 b_u2
  refine ok_if ?_ ?_
  · intro C0
    exact ok_rP (by omega) (by omega)
  · intro C0
    refine ok_rd (by omega) (gIA_3 V_h hb_a0) ?_; intro v4 e_v4 a_v4 b_v4
    refine ok_cP (vf_X3_byteAt hn hb_a0 (by omega) (by omega) V_h) ?_; intro u6 e_u6 a_u6 b_u6
    refine ok_if ?_ ?_
    · intro C1
      exact ok_rP (by omega) (by omega)
    · intro C1
      exact ok_rP (by omega) (by omega)
set_option maxRecDepth 4000 in
theorem vf_X3_next {nn : Nat} (hn : 1000000 ≤ nn) {a0 : Nat} {h : ms_M} (hb_a0 : kc_O a0 = 3) (V_h : VS_ h)  : Ok_ (qf_X3_next nn a0 h) (QI_ 0 255) := by
  unfold qf_X3_next
  have T1 := gI_2 V_h hb_a0
  have T2 := gI_1 V_h hb_a0
  refine ok_if ?_ ?_
  · intro C2
    refine ok_add (by omega) ?_; intro v4 e_v4
    refine ok_xl ?_; intro h5 E_h5; have V_h5 : VS_ h5 := by rw [E_h5]; exact wI_2 V_h hb_a0 (by omega)
    have T4 : h5 a0 1 = h a0 1 := by rw [E_h5]; exact up_n (fun z => absurd z.2 (by decide))
    have T5 : h5 a0 2 = v4 := by rw [E_h5]; exact up_s
    have T6 := vi_b V_h5 (b := a0) hb_a0
    have T7 := T6.2
    refine ok_ck T6.1.1 ?_
    refine ok_sub (by omega) ?_; intro v8 e_v8
    refine ok_rT V_h5 T6.1.2 (by omega) ?_; intro v9 e_v9 a_v9 b_v9
    refine ok_and (by omega) ?_; intro v10 a_v10 b_v10
    exact ok_rI V_h5 (by omega) (by omega)
  · intro C2
    have T8 := gI_3 V_h hb_a0
    refine ok_if ?_ ?_
    · intro C8
      refine ok_xl ?_; intro h13 E_h13; have V_h13 : VS_ h13 := by rw [E_h13]; exact wI_3 V_h hb_a0 (by omega)
      exact ok_rI V_h13 (by omega) (by omega)
    · intro C8
      refine ok_xl ?_; intro h15 E_h15; have V_h15 : VS_ h15 := by rw [E_h15]; exact wI_3 V_h hb_a0 (by omega)
      exact ok_rI V_h15 (by omega) (by omega)
set_option maxRecDepth 4000 in
theorem vf_X3_partOf {nn : Nat} (hn : 1000000 ≤ nn) {a0 : Nat} {a1 : Int} {a2 : Int} {h : ms_M} (hb_a0 : kc_O a0 = 3) (a_a1 : 0 ≤ a1) (b_a1 : a1 ≤ 255) (a_a2 : 0 ≤ a2) (b_a2 : a2 ≤ 3) (V_h : VS_ h)  : Ok_ (qf_X3_partOf nn a0 a1 a2 h) (QP_ 0 255) := by
  unfold qf_X3_partOf
  refine ok_if ?_ ?_
  · intro C0
    exact ok_rP (by omega) (by omega)
  · intro C0
    have T2 := gI_7 V_h hb_a0
    refine ok_if ?_ ?_
    · intro C2
      exact ok_rP (by omega) (by omega)
    · intro C2
      refine ok_if ?_ ?_
      · intro C3
        exfalso; omega
      · intro C3
        refine ok_rd (by omega) (gIA_3 V_h hb_a0) ?_; intro v5 e_v5 a_v5 b_v5
        refine ok_add (by omega) ?_; intro v6 e_v6
        refine ok_cP (vf_X3_byteAt hn hb_a0 (by omega) (by omega) V_h) ?_; intro u8 e_u8 a_u8 b_u8
        exact ok_rP (by omega) (by omega)
set_option maxRecDepth 4000 in
theorem vj_X3_nextPlainClass_29 {nn : Nat} (hn : 1000000 ≤ nn) {l0 : Nat} {l2 : Int} {h : ms_M} (hb_l0 : kc_O l0 = 3) (a_l2 : 0 ≤ l2) (b_l2 : l2 ≤ 255) (V_h : VS_ h)  : Ok_ (qj_X3_nextPlainClass_29 nn l0 l2 h) (QI_ 0 255) := by
  unfold qj_X3_nextPlainClass_29
  have T1 := gI_2 V_h hb_l0
  refine ok_sub (by omega) ?_; intro v2 e_v2
  refine ok_cV (vf_X3_bad hn hb_l0 (by omega) (by omega) V_h) ?_; intro u4 E_u4 V_u4
  exact ok_rI V_u4 (by omega) (by omega)
set_option maxRecDepth 4000 in
theorem vf_X3_nextPlainClass {nn : Nat} (hn : 1000000 ≤ nn) {a0 : Nat} {h : ms_M} (hb_a0 : kc_O a0 = 3) (V_h : VS_ h)  : Ok_ (qf_X3_nextPlainClass nn a0 h) (QI_ 0 255) := by
  unfold qf_X3_nextPlainClass
  refine ok_cI (vf_X3_next hn hb_a0 V_h) ?_; intro u6 E_u6 V_u6 a_u6 b_u6
  refine ok_cP (vf_X3_partOf hn hb_a0 (by omega) (by omega) (by omega) (by omega) V_u6) ?_; intro u8 e_u8 a_u8 b_u8
  refine ok_cP (vf_X3_tagOf hn hb_a0 (by omega) (by omega) V_u6) ?_; intro u10 e_u10 a_u10 b_u10
  refine ok_if ?_ ?_
  · intro C0
    exact vj_X3_nextPlainClass_29 hn hb_a0 (by omega) (by omega) V_u6
  · intro C0
    refine ok_cP (vf_X3_isArrayText hn hb_a0 (by omega) (by omega) V_u6) ?_; intro u12 e_u12 a_u12 b_u12
    refine ok_if ?_ ?_
    · intro C1
      exact ok_rI V_u6 (by omega) (by omega)
    · intro C1
      exact vj_X3_nextPlainClass_29 hn hb_a0 (by omega) (by omega) V_u6
set_option maxRecDepth 4000 in
theorem vj_X3_nextUpTo_15 {nn : Nat} (hn : 1000000 ≤ nn) {l0 : Nat} {l3 : Int} {h : ms_M} (hb_l0 : kc_O l0 = 3) (a_l3 : 0 ≤ l3) (b_l3 : l3 ≤ 255) (V_h : VS_ h)  : Ok_ (qj_X3_nextUpTo_15 nn l0 l3 h) (QI_ 0 255) := by
  unfold qj_X3_nextUpTo_15
  have T1 := gI_2 V_h hb_l0
  refine ok_sub (by omega) ?_; intro v2 e_v2
  refine ok_cV (vf_X3_bad hn hb_l0 (by omega) (by omega) V_h) ?_; intro u4 E_u4 V_u4
  exact ok_rI V_u4 (by omega) (by omega)
set_option maxRecDepth 4000 in
theorem vf_X3_nextUpTo {nn : Nat} (hn : 1000000 ≤ nn) {a0 : Nat} {a1 : Int} {a2 : Int} {h : ms_M} (hb_a0 : kc_O a0 = 3) (a_a1 : (-65535) ≤ a1) (b_a1 : a1 ≤ 77) (a_a2 : 1 ≤ a2) (b_a2 : a2 ≤ 126) (V_h : VS_ h)  : Ok_ (qf_X3_nextUpTo nn a0 a1 a2 h) (QI_ 0 255) := by
  unfold qf_X3_nextUpTo
  refine ok_cI (vf_X3_next hn hb_a0 V_h) ?_; intro u6 E_u6 V_u6 a_u6 b_u6
  refine ok_if ?_ ?_
  · intro C0
    exact vj_X3_nextUpTo_15 hn hb_a0 (by omega) (by omega) V_u6
  · intro C0
    refine ok_if ?_ ?_
    · intro C1
      exact ok_rI V_u6 (by omega) (by omega)
    · intro C1
      exact vj_X3_nextUpTo_15 hn hb_a0 (by omega) (by omega) V_u6
set_option maxRecDepth 4000 in
theorem vj_X9_isName_119 {nn : Nat} (hn : 1000000 ≤ nn) {qkk_32 : Nat → Int → Int → Int → Int → ms_M → Option Int} {K_kk_32 : Int} (hk_kk_32 : ∀ {l0 : Nat} {l1 : Int} {l2 : Int} {l3 : Int} {l4 : Int} {h : ms_M} (a_l1 : 0 ≤ l1) (b_l1 : l1 ≤ 6257) (a_l2 : 0 ≤ l2) (b_l2 : l2 ≤ 6255) (a_l3 : 0 ≤ l3) (b_l3 : l3 ≤ 1) (a_l4 : 0 ≤ l4) (b_l4 : l4 ≤ 6257) (V_h : VS_ h) (t_l0 : l0 < cn_M h ∧ ly_T l0 = 1) (x_0 : l3 = 0 ∨ (0 ≤ l1 ∧ l2 ≤ ln_I h l0 ∧ l2 - l1 ≤ 12 ∧ l1 ≤ l4)) (_ : 6258 - l4 < K_kk_32), Ok_ (qkk_32 l0 l1 l2 l3 l4 h) (QP_ 0 1)) {l0 : Nat} {l1 : Int} {l2 : Int} {l4 : Int} {h : ms_M} (a_l1 : 0 ≤ l1) (b_l1 : l1 ≤ 6257) (a_l2 : 0 ≤ l2) (b_l2 : l2 ≤ 6255) (a_l4 : 0 ≤ l4) (b_l4 : l4 ≤ 6254) (V_h : VS_ h) (t_l0 : l0 < cn_M h ∧ ly_T l0 = 1) (x_0 : 0 ≤ l1 ∧ l2 ≤ ln_I h l0 ∧ l2 - l1 ≤ 12 ∧ l1 ≤ l4) (hm_kk_32 : 6258 - l4 + 0 ≤ K_kk_32) : Ok_ (qj_X9_isName_119 nn qkk_32 l0 l1 l2 l4 h) (QP_ 0 1) := by
  unfold qj_X9_isName_119
  refine ok_add (by omega) ?_; intro v1 e_v1
  exact hk_kk_32 (by omega) (by omega) (by omega) (by omega) (by omega) (by omega) (by omega) (by omega) V_h t_l0 (by omega) (by omega)
set_option maxRecDepth 4000 in
theorem vj_X9_isName_115 {nn : Nat} (hn : 1000000 ≤ nn) {qkk_32 : Nat → Int → Int → Int → Int → ms_M → Option Int} {K_kk_32 : Int} (hk_kk_32 : ∀ {l0 : Nat} {l1 : Int} {l2 : Int} {l3 : Int} {l4 : Int} {h : ms_M} (a_l1 : 0 ≤ l1) (b_l1 : l1 ≤ 6257) (a_l2 : 0 ≤ l2) (b_l2 : l2 ≤ 6255) (a_l3 : 0 ≤ l3) (b_l3 : l3 ≤ 1) (a_l4 : 0 ≤ l4) (b_l4 : l4 ≤ 6257) (V_h : VS_ h) (t_l0 : l0 < cn_M h ∧ ly_T l0 = 1) (x_0 : l3 = 0 ∨ (0 ≤ l1 ∧ l2 ≤ ln_I h l0 ∧ l2 - l1 ≤ 12 ∧ l1 ≤ l4)) (_ : 6258 - l4 < K_kk_32), Ok_ (qkk_32 l0 l1 l2 l3 l4 h) (QP_ 0 1)) {l0 : Nat} {l1 : Int} {l2 : Int} {l4 : Int} {h : ms_M} (a_l1 : 0 ≤ l1) (b_l1 : l1 ≤ 6257) (a_l2 : 0 ≤ l2) (b_l2 : l2 ≤ 6255) (a_l4 : 0 ≤ l4) (b_l4 : l4 ≤ 6254) (V_h : VS_ h) (t_l0 : l0 < cn_M h ∧ ly_T l0 = 1) (x_0 : 0 ≤ l1 ∧ l2 ≤ ln_I h l0 ∧ l2 - l1 ≤ 12 ∧ l1 ≤ l4) (hm_kk_32 : 6258 - l4 + 0 ≤ K_kk_32) : Ok_ (qj_X9_isName_115 nn qkk_32 l0 l1 l2 l4 h) (QP_ 0 1) := by
  unfold qj_X9_isName_115
  refine ok_add (by omega) ?_; intro v2 e_v2
  exact hk_kk_32 (by omega) (by omega) (by omega) (by omega) (by omega) (by omega) (by omega) (by omega) V_h t_l0 (by omega) (by omega)
set_option maxRecDepth 4000 in
theorem vj_X9_isName_108 {nn : Nat} (hn : 1000000 ≤ nn) {qkk_32 : Nat → Int → Int → Int → Int → ms_M → Option Int} {K_kk_32 : Int} (hk_kk_32 : ∀ {l0 : Nat} {l1 : Int} {l2 : Int} {l3 : Int} {l4 : Int} {h : ms_M} (a_l1 : 0 ≤ l1) (b_l1 : l1 ≤ 6257) (a_l2 : 0 ≤ l2) (b_l2 : l2 ≤ 6255) (a_l3 : 0 ≤ l3) (b_l3 : l3 ≤ 1) (a_l4 : 0 ≤ l4) (b_l4 : l4 ≤ 6257) (V_h : VS_ h) (t_l0 : l0 < cn_M h ∧ ly_T l0 = 1) (x_0 : l3 = 0 ∨ (0 ≤ l1 ∧ l2 ≤ ln_I h l0 ∧ l2 - l1 ≤ 12 ∧ l1 ≤ l4)) (_ : 6258 - l4 < K_kk_32), Ok_ (qkk_32 l0 l1 l2 l3 l4 h) (QP_ 0 1)) {l0 : Nat} {l1 : Int} {l2 : Int} {l4 : Int} {l5 : Int} {h : ms_M} (a_l1 : 0 ≤ l1) (b_l1 : l1 ≤ 6257) (a_l2 : 0 ≤ l2) (b_l2 : l2 ≤ 6255) (a_l4 : 1 ≤ l4) (b_l4 : l4 ≤ 6254) (a_l5 : (-128) ≤ l5) (b_l5 : l5 ≤ 127) (V_h : VS_ h) (t_l0 : l0 < cn_M h ∧ ly_T l0 = 1) (x_0 : 0 ≤ l1 ∧ l2 ≤ ln_I h l0 ∧ l2 - l1 ≤ 12 ∧ l1 ≤ l4) (hm_kk_32 : 6258 - l4 + 0 ≤ K_kk_32) : Ok_ (qj_X9_isName_108 nn qkk_32 l0 l1 l2 l4 l5 h) (QP_ 0 1) := by
  unfold qj_X9_isName_108
  refine ok_if ?_ ?_
  · intro C0
    exact vj_X9_isName_119 hn hk_kk_32 (by omega) (by omega) (by omega) (by omega) (by omega) (by omega) V_h t_l0 (by omega) (by omega)
  · intro C0
    exact vj_X9_isName_115 hn hk_kk_32 (by omega) (by omega) (by omega) (by omega) (by omega) (by omega) V_h t_l0 (by omega) (by omega)
set_option maxRecDepth 4000 in
theorem vj_X9_isName_81 {nn : Nat} (hn : 1000000 ≤ nn) {qkk_32 : Nat → Int → Int → Int → Int → ms_M → Option Int} {K_kk_32 : Int} (hk_kk_32 : ∀ {l0 : Nat} {l1 : Int} {l2 : Int} {l3 : Int} {l4 : Int} {h : ms_M} (a_l1 : 0 ≤ l1) (b_l1 : l1 ≤ 6257) (a_l2 : 0 ≤ l2) (b_l2 : l2 ≤ 6255) (a_l3 : 0 ≤ l3) (b_l3 : l3 ≤ 1) (a_l4 : 0 ≤ l4) (b_l4 : l4 ≤ 6257) (V_h : VS_ h) (t_l0 : l0 < cn_M h ∧ ly_T l0 = 1) (x_0 : l3 = 0 ∨ (0 ≤ l1 ∧ l2 ≤ ln_I h l0 ∧ l2 - l1 ≤ 12 ∧ l1 ≤ l4)) (_ : 6258 - l4 < K_kk_32), Ok_ (qkk_32 l0 l1 l2 l3 l4 h) (QP_ 0 1)) {l0 : Nat} {l1 : Int} {l2 : Int} {l4 : Int} {l5 : Int} {s0 : Int} {h : ms_M} (a_l1 : 0 ≤ l1) (b_l1 : l1 ≤ 6257) (a_l2 : 0 ≤ l2) (b_l2 : l2 ≤ 6255) (a_l4 : 0 ≤ l4) (b_l4 : l4 ≤ 6254) (a_l5 : (-128) ≤ l5) (b_l5 : l5 ≤ 127) (a_s0 : 0 ≤ s0) (b_s0 : s0 ≤ 1) (V_h : VS_ h) (t_l0 : l0 < cn_M h ∧ ly_T l0 = 1) (x_0 : 0 ≤ l1 ∧ l2 ≤ ln_I h l0 ∧ l2 - l1 ≤ 12 ∧ l1 ≤ l4) (hm_kk_32 : 6258 - l4 + 0 ≤ K_kk_32) : Ok_ (qj_X9_isName_81 nn qkk_32 l0 l1 l2 l4 l5 s0 h) (QP_ 0 1) := by
  unfold qj_X9_isName_81
  refine ok_if ?_ ?_
  · intro C0
    exact vj_X9_isName_115 hn hk_kk_32 (by omega) (by omega) (by omega) (by omega) (by omega) (by omega) V_h t_l0 (by omega) (by omega)
  · intro C0
    refine ok_if ?_ ?_
    · intro C1
      exact vj_X9_isName_119 hn hk_kk_32 (by omega) (by omega) (by omega) (by omega) (by omega) (by omega) V_h t_l0 (by omega) (by omega)
    · intro C1
      refine ok_if ?_ ?_
      · intro C2
        exact vj_X9_isName_108 hn hk_kk_32 (by omega) (by omega) (by omega) (by omega) (by omega) (by omega) (by omega) (by omega) V_h t_l0 (by omega) (by omega)
      · intro C2
        refine ok_if ?_ ?_
        · intro C3
          exact vj_X9_isName_115 hn hk_kk_32 (by omega) (by omega) (by omega) (by omega) (by omega) (by omega) V_h t_l0 (by omega) (by omega)
        · intro C3
          exact vj_X9_isName_108 hn hk_kk_32 (by omega) (by omega) (by omega) (by omega) (by omega) (by omega) (by omega) (by omega) V_h t_l0 (by omega) (by omega)
set_option maxRecDepth 4000 in
theorem vj_X9_isName_80 {nn : Nat} (hn : 1000000 ≤ nn) {qkk_32 : Nat → Int → Int → Int → Int → ms_M → Option Int} {K_kk_32 : Int} (hk_kk_32 : ∀ {l0 : Nat} {l1 : Int} {l2 : Int} {l3 : Int} {l4 : Int} {h : ms_M} (a_l1 : 0 ≤ l1) (b_l1 : l1 ≤ 6257) (a_l2 : 0 ≤ l2) (b_l2 : l2 ≤ 6255) (a_l3 : 0 ≤ l3) (b_l3 : l3 ≤ 1) (a_l4 : 0 ≤ l4) (b_l4 : l4 ≤ 6257) (V_h : VS_ h) (t_l0 : l0 < cn_M h ∧ ly_T l0 = 1) (x_0 : l3 = 0 ∨ (0 ≤ l1 ∧ l2 ≤ ln_I h l0 ∧ l2 - l1 ≤ 12 ∧ l1 ≤ l4)) (_ : 6258 - l4 < K_kk_32), Ok_ (qkk_32 l0 l1 l2 l3 l4 h) (QP_ 0 1)) {l0 : Nat} {l1 : Int} {l2 : Int} {l4 : Int} {l5 : Int} {h : ms_M} (a_l1 : 0 ≤ l1) (b_l1 : l1 ≤ 6257) (a_l2 : 0 ≤ l2) (b_l2 : l2 ≤ 6255) (a_l4 : 0 ≤ l4) (b_l4 : l4 ≤ 6254) (a_l5 : (-128) ≤ l5) (b_l5 : l5 ≤ 127) (V_h : VS_ h) (t_l0 : l0 < cn_M h ∧ ly_T l0 = 1) (x_0 : 0 ≤ l1 ∧ l2 ≤ ln_I h l0 ∧ l2 - l1 ≤ 12 ∧ l1 ≤ l4) (hm_kk_32 : 6258 - l4 + 0 ≤ K_kk_32) : Ok_ (qj_X9_isName_80 nn qkk_32 l0 l1 l2 l4 l5 h) (QP_ 0 1) := by
  unfold qj_X9_isName_80
  exact vj_X9_isName_81 hn hk_kk_32 (by omega) (by omega) (by omega) (by omega) (by omega) (by omega) (by omega) (by omega) (by omega) (by omega) V_h t_l0 (by omega) (by omega)
set_option maxRecDepth 4000 in
theorem vj_X9_isName_76 {nn : Nat} (hn : 1000000 ≤ nn) {qkk_32 : Nat → Int → Int → Int → Int → ms_M → Option Int} {K_kk_32 : Int} (hk_kk_32 : ∀ {l0 : Nat} {l1 : Int} {l2 : Int} {l3 : Int} {l4 : Int} {h : ms_M} (a_l1 : 0 ≤ l1) (b_l1 : l1 ≤ 6257) (a_l2 : 0 ≤ l2) (b_l2 : l2 ≤ 6255) (a_l3 : 0 ≤ l3) (b_l3 : l3 ≤ 1) (a_l4 : 0 ≤ l4) (b_l4 : l4 ≤ 6257) (V_h : VS_ h) (t_l0 : l0 < cn_M h ∧ ly_T l0 = 1) (x_0 : l3 = 0 ∨ (0 ≤ l1 ∧ l2 ≤ ln_I h l0 ∧ l2 - l1 ≤ 12 ∧ l1 ≤ l4)) (_ : 6258 - l4 < K_kk_32), Ok_ (qkk_32 l0 l1 l2 l3 l4 h) (QP_ 0 1)) {l0 : Nat} {l1 : Int} {l2 : Int} {l4 : Int} {l5 : Int} {h : ms_M} (a_l1 : 0 ≤ l1) (b_l1 : l1 ≤ 6257) (a_l2 : 0 ≤ l2) (b_l2 : l2 ≤ 6255) (a_l4 : 0 ≤ l4) (b_l4 : l4 ≤ 6254) (a_l5 : 65 ≤ l5) (b_l5 : l5 ≤ 122) (V_h : VS_ h) (t_l0 : l0 < cn_M h ∧ ly_T l0 = 1) (x_0 : 0 ≤ l1 ∧ l2 ≤ ln_I h l0 ∧ l2 - l1 ≤ 12 ∧ l1 ≤ l4) (hm_kk_32 : 6258 - l4 + 0 ≤ K_kk_32) : Ok_ (qj_X9_isName_76 nn qkk_32 l0 l1 l2 l4 l5 h) (QP_ 0 1) := by
  unfold qj_X9_isName_76
  exact vj_X9_isName_81 hn hk_kk_32 (by omega) (by omega) (by omega) (by omega) (by omega) (by omega) (by omega) (by omega) (by omega) (by omega) V_h t_l0 (by omega) (by omega)
set_option maxRecDepth 4000 in
theorem vj_X9_isName_62 {nn : Nat} (hn : 1000000 ≤ nn) {qkk_32 : Nat → Int → Int → Int → Int → ms_M → Option Int} {K_kk_32 : Int} (hk_kk_32 : ∀ {l0 : Nat} {l1 : Int} {l2 : Int} {l3 : Int} {l4 : Int} {h : ms_M} (a_l1 : 0 ≤ l1) (b_l1 : l1 ≤ 6257) (a_l2 : 0 ≤ l2) (b_l2 : l2 ≤ 6255) (a_l3 : 0 ≤ l3) (b_l3 : l3 ≤ 1) (a_l4 : 0 ≤ l4) (b_l4 : l4 ≤ 6257) (V_h : VS_ h) (t_l0 : l0 < cn_M h ∧ ly_T l0 = 1) (x_0 : l3 = 0 ∨ (0 ≤ l1 ∧ l2 ≤ ln_I h l0 ∧ l2 - l1 ≤ 12 ∧ l1 ≤ l4)) (_ : 6258 - l4 < K_kk_32), Ok_ (qkk_32 l0 l1 l2 l3 l4 h) (QP_ 0 1)) {l0 : Nat} {l1 : Int} {l2 : Int} {l4 : Int} {l5 : Int} {h : ms_M} (a_l1 : 0 ≤ l1) (b_l1 : l1 ≤ 6257) (a_l2 : 0 ≤ l2) (b_l2 : l2 ≤ 6255) (a_l4 : 0 ≤ l4) (b_l4 : l4 ≤ 6254) (a_l5 : (-128) ≤ l5) (b_l5 : l5 ≤ 127) (V_h : VS_ h) (t_l0 : l0 < cn_M h ∧ ly_T l0 = 1) (x_0 : 0 ≤ l1 ∧ l2 ≤ ln_I h l0 ∧ l2 - l1 ≤ 12 ∧ l1 ≤ l4) (hm_kk_32 : 6258 - l4 + 0 ≤ K_kk_32) : Ok_ (qj_X9_isName_62 nn qkk_32 l0 l1 l2 l4 l5 h) (QP_ 0 1) := by
  unfold qj_X9_isName_62
  refine ok_if ?_ ?_
  · intro C0
    exact vj_X9_isName_80 hn hk_kk_32 (by omega) (by omega) (by omega) (by omega) (by omega) (by omega) (by omega) (by omega) V_h t_l0 (by omega) (by omega)
  · intro C0
    refine ok_if ?_ ?_
    · intro C1
      exact vj_X9_isName_80 hn hk_kk_32 (by omega) (by omega) (by omega) (by omega) (by omega) (by omega) (by omega) (by omega) V_h t_l0 (by omega) (by omega)
    · intro C1
      exact vj_X9_isName_76 hn hk_kk_32 (by omega) (by omega) (by omega) (by omega) (by omega) (by omega) (by omega) (by omega) V_h t_l0 (by omega) (by omega)
set_option maxRecDepth 4000 in
theorem vw_X9_isName_32 {nn : Nat} (hn : 1000000 ≤ nn) : ∀ (k : Nat) {l0 : Nat} {l1 : Int} {l2 : Int} {l3 : Int} {l4 : Int} {h : ms_M} (a_l1 : 0 ≤ l1) (b_l1 : l1 ≤ 6257) (a_l2 : 0 ≤ l2) (b_l2 : l2 ≤ 6255) (a_l3 : 0 ≤ l3) (b_l3 : l3 ≤ 1) (a_l4 : 0 ≤ l4) (b_l4 : l4 ≤ 6257) (V_h : VS_ h) (t_l0 : l0 < cn_M h ∧ ly_T l0 = 1) (x_0 : l3 = 0 ∨ (0 ≤ l1 ∧ l2 ≤ ln_I h l0 ∧ l2 - l1 ≤ 12 ∧ l1 ≤ l4))  (hm : 6258 - l4 < (k : Int)), Ok_ (qw_X9_isName_32 nn k l0 l1 l2 l3 l4 h) (QP_ 0 1) := by
  intro k
  induction k with
  | zero => intros; exfalso; omega
  | succ k ih =>
    intro l0 l1 l2 l3 l4 h a_l1 b_l1 a_l2 b_l2 a_l3 b_l3 a_l4 b_l4 V_h t_l0 x_0 hm
    unfold qw_X9_isName_32
    refine ok_if ?_ ?_
    · intro C0
      refine ok_ck (by omega) ?_
      exact ok_rP (by omega) (by omega)
    · intro C0
      refine ok_if ?_ ?_
      · intro C1
        refine ok_ck (by omega) ?_
        exact ok_rP (by omega) (by omega)
      · intro C1
        refine ok_rT V_h t_l0 (by omega) ?_; intro v12 e_v12 a_v12 b_v12
        refine ok_if ?_ ?_
        · intro C2
          exact vj_X9_isName_62 hn ih (by omega) (by omega) (by omega) (by omega) (by omega) (by omega) (by omega) (by omega) V_h t_l0 (by omega) (by omega)
        · intro C2
          refine ok_if ?_ ?_
          · intro C3
            exact vj_X9_isName_76 hn ih (by omega) (by omega) (by omega) (by omega) (by omega) (by omega) (by omega) (by omega) V_h t_l0 (by omega) (by omega)
          · intro C3
            exact vj_X9_isName_62 hn ih (by omega) (by omega) (by omega) (by omega) (by omega) (by omega) (by omega) (by omega) V_h t_l0 (by omega) (by omega)
set_option maxRecDepth 4000 in
theorem vj_X9_isName_27 {nn : Nat} (hn : 1000000 ≤ nn) {l0 : Nat} {l1 : Int} {l2 : Int} {h : ms_M} (a_l1 : 0 ≤ l1) (b_l1 : l1 ≤ 6257) (a_l2 : 0 ≤ l2) (b_l2 : l2 ≤ 6255) (V_h : VS_ h) (t_l0 : l0 < cn_M h ∧ ly_T l0 = 1)  : Ok_ (qj_X9_isName_27 nn l0 l1 l2 h) (QP_ 0 1) := by
  unfold qj_X9_isName_27
  exact vw_X9_isName_32 hn _ (by omega) (by omega) (by omega) (by omega) (by omega) (by omega) (by omega) (by omega) V_h t_l0 (by omega) (by omega)
set_option maxRecDepth 4000 in
theorem vf_X9_isName {nn : Nat} (hn : 1000000 ≤ nn) {a0 : Nat} {a1 : Int} {a2 : Int} {h : ms_M} (a_a1 : 0 ≤ a1) (b_a1 : a1 ≤ 6257) (a_a2 : 0 ≤ a2) (b_a2 : a2 ≤ 6255) (V_h : VS_ h) (t_a0 : a0 < cn_M h ∧ ly_T a0 = 1)  : Ok_ (qf_X9_isName nn a0 a1 a2 h) (QP_ 0 1) := by
  unfold qf_X9_isName
  refine ok_if ?_ ?_
  · intro C0
    exfalso; omega
  · intro C0
    refine ok_if ?_ ?_
    · intro C1
      exact vj_X9_isName_27 hn (by omega) (by omega) (by omega) (by omega) V_h t_a0
    · intro C1
      refine ok_lS t_a0 ?_; intro v17 e_v17
      refine ok_if ?_ ?_
      · intro C2
        exact vj_X9_isName_27 hn (by omega) (by omega) (by omega) (by omega) V_h t_a0
      · intro C2
        refine ok_sub (by omega) ?_; intro v18 e_v18
        refine ok_if ?_ ?_
        · intro C3
          exact vj_X9_isName_27 hn (by omega) (by omega) (by omega) (by omega) V_h t_a0
        · intro C3
          exact vw_X9_isName_32 hn _ (by omega) (by omega) (by omega) (by omega) (by omega) (by omega) (by omega) (by omega) V_h t_a0 (by omega) (by omega)
set_option maxRecDepth 4000 in
theorem vj_X3_behindKind_111 {nn : Nat} (hn : 1000000 ≤ nn) {l0 : Nat} {l2 : Int} {l4 : Int} {l5 : Int} {h : ms_M} (hb_l0 : kc_O l0 = 3) (a_l2 : 0 ≤ l2) (b_l2 : l2 ≤ 6255) (a_l4 : 0 ≤ l4) (b_l4 : l4 ≤ 6256) (a_l5 : 1 ≤ l5) (b_l5 : l5 ≤ 6257) (V_h : VS_ h)  : Ok_ (qj_X3_behindKind_111 nn l0 l2 l4 l5 h) (QP_ (-1) 6257) := by
  unfold qj_X3_behindKind_111
  refine ok_if ?_ ?_
  · intro C0
    exact ok_rP (by omega) (by omega)
  · intro C0
    have T2 := gI_1 V_h hb_l0
    have T3 := vi_b V_h (b := l0) hb_l0
    have T4 := T3.2
    refine ok_ck T3.1.1 ?_
    refine ok_add (by omega) ?_; intro v2 e_v2
    refine ok_cP (vf_X9_isName hn (by omega) (by omega) (by omega) (by omega) V_h T3.1.2) ?_; intro u3 e_u3 a_u3 b_u3
    refine ok_if ?_ ?_
    · intro C4
      exact ok_rP (by omega) (by omega)
    · intro C4
      refine ok_add (by omega) ?_; intro v4 e_v4
      exact ok_rP (by omega) (by omega)
set_option maxRecDepth 4000 in
theorem vw_X3_behindKind_88 {nn : Nat} (hn : 1000000 ≤ nn) : ∀ (k : Nat) {l0 : Nat} {l2 : Int} {l4 : Int} {l5 : Int} {h : ms_M} (hb_l0 : kc_O l0 = 3) (a_l2 : 0 ≤ l2) (b_l2 : l2 ≤ 6255) (a_l4 : 0 ≤ l4) (b_l4 : l4 ≤ 6256) (a_l5 : 1 ≤ l5) (b_l5 : l5 ≤ 6257) (V_h : VS_ h)  (hm : 6258 - l5 < (k : Int)), Ok_ (qw_X3_behindKind_88 nn k l0 l2 l4 l5 h) (QP_ (-1) 6257) := by
  intro k
  induction k with
  | zero => intros; exfalso; omega
  | succ k ih =>
    intro l0 l2 l4 l5 h hb_l0 a_l2 b_l2 a_l4 b_l4 a_l5 b_l5 V_h hm
    unfold qw_X3_behindKind_88
    refine ok_if ?_ ?_
    · intro C0
      exact vj_X3_behindKind_111 hn hb_l0 (by omega) (by omega) (by omega) (by omega) (by omega) (by omega) V_h
    · intro C0
      refine ok_cP (vf_X3_byteAt hn hb_l0 (by omega) (by omega) V_h) ?_; intro u8 e_u8 a_u8 b_u8
      refine ok_if ?_ ?_
      · intro C1
        exact vj_X3_behindKind_111 hn hb_l0 (by omega) (by omega) (by omega) (by omega) (by omega) (by omega) V_h
      · intro C1
        refine ok_add (by omega) ?_; intro v9 e_v9
        exact ih hb_l0 (by omega) (by omega) (by omega) (by omega) (by omega) (by omega) V_h (by omega)
set_option maxRecDepth 4000 in
theorem vj_X3_behindKind_62 {nn : Nat} (hn : 1000000 ≤ nn) {l0 : Nat} {l2 : Int} {l4 : Int} {s0 : Int} {h : ms_M} (hb_l0 : kc_O l0 = 3) (a_l2 : 0 ≤ l2) (b_l2 : l2 ≤ 6255) (a_l4 : 0 ≤ l4) (b_l4 : l4 ≤ 6256) (a_s0 : 0 ≤ s0) (b_s0 : s0 ≤ 255) (V_h : VS_ h)  : Ok_ (qj_X3_behindKind_62 nn l0 l2 l4 s0 h) (QP_ (-1) 6257) := by
  unfold qj_X3_behindKind_62
  refine ok_if ?_ ?_
  · intro C0
    refine ok_if ?_ ?_
    · intro C1
      refine ok_add (by omega) ?_; intro v12 e_v12
      exact vw_X3_behindKind_88 hn _ hb_l0 (by omega) (by omega) (by omega) (by omega) (by omega) (by omega) V_h (by omega)
    · intro C1
      exact ok_rP (by omega) (by omega)
  · intro C0
    refine ok_add (by omega) ?_; intro v14 e_v14
    exact ok_rP (by omega) (by omega)
set_option maxRecDepth 4000 in
theorem vj_X3_behindKind_44 {nn : Nat} (hn : 1000000 ≤ nn) {l0 : Nat} {l2 : Int} {s0 : Int} {h : ms_M} (hb_l0 : kc_O l0 = 3) (a_l2 : 0 ≤ l2) (b_l2 : l2 ≤ 6255) (a_s0 : 0 ≤ s0) (b_s0 : s0 ≤ 6256) (V_h : VS_ h)  : Ok_ (qj_X3_behindKind_44 nn l0 l2 s0 h) (QP_ (-1) 6257) := by
  unfold qj_X3_behindKind_44
  refine ok_if ?_ ?_
  · intro C0
    exact vj_X3_behindKind_62 hn hb_l0 (by omega) (by omega) (by omega) (by omega) (by omega) (by omega) V_h
  · intro C0
    refine ok_cP (vf_X3_byteAt hn hb_l0 (by omega) (by omega) V_h) ?_; intro u17 e_u17 a_u17 b_u17
    exact vj_X3_behindKind_62 hn hb_l0 (by omega) (by omega) (by omega) (by omega) (by omega) (by omega) V_h
set_option maxRecDepth 4000 in
theorem vj_X3_behindKind_27 {nn : Nat} (hn : 1000000 ≤ nn) {l1 : Int} {h : ms_M} (a_l1 : 0 ≤ l1) (b_l1 : l1 ≤ 6255) (V_h : VS_ h)  : Ok_ (qj_X3_behindKind_27 nn l1 h) (QP_ (-1) 6257) := by
  unfold qj_X3_behindKind_27
  refine ok_add (by omega) ?_; intro v19 e_v19
  exact ok_rP (by omega) (by omega)
set_option maxRecDepth 4000 in
theorem vj_X3_behindKind_14 {nn : Nat} (hn : 1000000 ≤ nn) {l0 : Nat} {l1 : Int} {l2 : Int} {s0 : Int} {h : ms_M} (hb_l0 : kc_O l0 = 3) (a_l1 : 0 ≤ l1) (b_l1 : l1 ≤ 6255) (a_l2 : 0 ≤ l2) (b_l2 : l2 ≤ 6255) (a_s0 : 0 ≤ s0) (b_s0 : s0 ≤ 255) (V_h : VS_ h)  : Ok_ (qj_X3_behindKind_14 nn l0 l1 l2 s0 h) (QP_ (-1) 6257) := by
  unfold qj_X3_behindKind_14
  refine ok_if ?_ ?_
  · intro C0
    exact vj_X3_behindKind_27 hn (by omega) (by omega) V_h
  · intro C0
    refine ok_if ?_ ?_
    · intro C1
      refine ok_if ?_ ?_
      · intro C2
        exact vj_X3_behindKind_44 hn hb_l0 (by omega) (by omega) (by omega) (by omega) V_h
      · intro C2
        refine ok_add (by omega) ?_; intro v20 e_v20
        exact vj_X3_behindKind_44 hn hb_l0 (by omega) (by omega) (by omega) (by omega) V_h
    · intro C1
      exact vj_X3_behindKind_27 hn (by omega) (by omega) V_h
set_option maxRecDepth 4000 in
theorem vf_X3_behindKind {nn : Nat} (hn : 1000000 ≤ nn) {a0 : Nat} {a1 : Int} {a2 : Int} {h : ms_M} (hb_a0 : kc_O a0 = 3) (a_a1 : 0 ≤ a1) (b_a1 : a1 ≤ 6255) (a_a2 : 0 ≤ a2) (b_a2 : a2 ≤ 6255) (V_h : VS_ h)  : Ok_ (qf_X3_behindKind nn a0 a1 a2 h) (QP_ (-1) 6257) := by
  unfold qf_X3_behindKind
  refine ok_if ?_ ?_
  · intro C0
    exact vj_X3_behindKind_14 hn hb_a0 (by omega) (by omega) (by omega) (by omega) (by omega) (by omega) V_h
  · intro C0
    refine ok_cP (vf_X3_byteAt hn hb_a0 (by omega) (by omega) V_h) ?_; intro u25 e_u25 a_u25 b_u25
    exact vj_X3_behindKind_14 hn hb_a0 (by omega) (by omega) (by omega) (by omega) (by omega) (by omega) V_h
set_option maxRecDepth 4000 in
theorem vf_X3_isFieldKind {nn : Nat} (hn : 1000000 ≤ nn) {a0 : Nat} {a1 : Int} {h : ms_M} (hb_a0 : kc_O a0 = 3) (a_a1 : 0 ≤ a1) (b_a1 : a1 ≤ 255) (V_h : VS_ h)  : Ok_ (qf_X3_isFieldKind nn a0 a1 h) (QP_ 0 1) := by
  unfold qf_X3_isFieldKind
  refine ok_cP (vf_X3_tagOf hn hb_a0 (by omega) (by omega) V_h) ?_; intro u2 e_u2 a_u2 b_u2
  refine ok_if ?_ ?_
  · intro C0
    exact ok_rP (by omega) (by omega)
  · intro C0
    refine ok_rd (by omega) (gIA_3 V_h hb_a0) ?_; intro v4 e_v4 a_v4 b_v4
    refine ok_rd (by omega) (gIA_4 V_h hb_a0) ?_; intro v6 e_v6 a_v6 b_v6
    refine ok_cP (vf_X3_behindKind hn hb_a0 (by omega) (by omega) (by omega) (by omega) V_h) ?_; intro u8 e_u8 a_u8 b_u8
    refine ok_rd (by omega) (gIA_4 V_h hb_a0) ?_; intro v10 e_v10 a_v10 b_v10
    refine ok_if ?_ ?_
    · intro C1
      exact ok_rP (by omega) (by omega)
    · intro C1
      exact ok_rP (by omega) (by omega)
set_option maxRecDepth 4000 in
theorem vf_X3_isNameText {nn : Nat} (hn : 1000000 ≤ nn) {a0 : Nat} {a1 : Int} {h : ms_M} (hb_a0 : kc_O a0 = 3) (a_a1 : 0 ≤ a1) (b_a1 : a1 ≤ 255) (V_h : VS_ h)  : Ok_ (qf_X3_isNameText nn a0 a1 h) (QP_ 0 1) := by
  unfold qf_X3_isNameText
  refine ok_cP (vf_X3_tagOf hn hb_a0 (by omega) (by omega) V_h) ?_; intro u2 e_u2 a_u2 b_u2
  refine ok_if ?_ ?_
  · intro C0
    exact ok_rP (by omega) (by omega)
  · intro C0
    have T2 := gI_1 V_h hb_a0
    have T3 := vi_b V_h (b := a0) hb_a0
    have T4 := T3.2
    refine ok_ck T3.1.1 ?_
    refine ok_rd (by omega) (gIA_3 V_h hb_a0) ?_; intro v5 e_v5 a_v5 b_v5
    refine ok_rd (by omega) (gIA_4 V_h hb_a0) ?_; intro v7 e_v7 a_v7 b_v7
    refine ok_cP (vf_X9_isName hn (by omega) (by omega) (by omega) (by omega) V_h T3.1.2) ?_; intro u8 e_u8 a_u8 b_u8
    refine ok_if ?_ ?_
    · intro C4
      exact ok_rP (by omega) (by omega)
    · intro C4
      exact ok_rP (by omega) (by omega)
set_option maxRecDepth 4000 in
theorem vj_X3_parametersIn_128 {nn : Nat} (hn : 1000000 ≤ nn) {l0 : Nat} {l2 : Int} {l3 : Int} {l4 : Int} {s0 : Int} {h : ms_M} (hb_l0 : kc_O l0 = 3) (a_l2 : 1 ≤ l2) (b_l2 : l2 ≤ 6255) (a_l3 : 0 ≤ l3) (b_l3 : l3 ≤ 6254) (a_l4 : 0 ≤ l4) (b_l4 : l4 ≤ 6) (a_s0 : 0 ≤ s0) (b_s0 : s0 ≤ 1) (V_h : VS_ h)  : Ok_ (qj_X3_parametersIn_128 nn l0 l2 l3 l4 s0 h) (QP_ (-1) 6) := by
  unfold qj_X3_parametersIn_128
  refine ok_if ?_ ?_
  · intro C0
    exact ok_rP (by omega) (by omega)
  · intro C0
    refine ok_add (by omega) ?_; intro v1 e_v1
    refine ok_cP (vf_X3_behindKind hn hb_l0 (by omega) (by omega) (by omega) (by omega) V_h) ?_; intro u3 e_u3 a_u3 b_u3
    refine ok_if ?_ ?_
    · intro C1
      exact ok_rP (by omega) (by omega)
    · intro C1
      exact ok_rP (by omega) (by omega)
set_option maxRecDepth 4000 in
theorem vj_X3_parametersIn_127 {nn : Nat} (hn : 1000000 ≤ nn) {l0 : Nat} {l2 : Int} {l3 : Int} {l4 : Int} {h : ms_M} (hb_l0 : kc_O l0 = 3) (a_l2 : 1 ≤ l2) (b_l2 : l2 ≤ 6255) (a_l3 : 0 ≤ l3) (b_l3 : l3 ≤ 6254) (a_l4 : 0 ≤ l4) (b_l4 : l4 ≤ 6) (V_h : VS_ h)  : Ok_ (qj_X3_parametersIn_127 nn l0 l2 l3 l4 h) (QP_ (-1) 6) := by
  unfold qj_X3_parametersIn_127
  exact vj_X3_parametersIn_128 hn hb_l0 (by omega) (by omega) (by omega) (by omega) (by omega) (by omega) (by omega) (by omega) V_h
set_option maxRecDepth 4000 in
theorem vj_X3_parametersIn_85 {nn : Nat} (hn : 1000000 ≤ nn) {l0 : Nat} {l2 : Int} {l3 : Int} {l4 : Int} {h : ms_M} (hb_l0 : kc_O l0 = 3) (a_l2 : 0 ≤ l2) (b_l2 : l2 ≤ 6255) (a_l3 : (-1) ≤ l3) (b_l3 : l3 ≤ 6257) (a_l4 : 0 ≤ l4) (b_l4 : l4 ≤ 7) (V_h : VS_ h)  : Ok_ (qj_X3_parametersIn_85 nn l0 l2 l3 l4 h) (QP_ (-1) 6) := by
  unfold qj_X3_parametersIn_85
  refine ok_if ?_ ?_
  · intro C0
    exact ok_rP (by omega) (by omega)
  · intro C0
    refine ok_if ?_ ?_
    · intro C1
      exact ok_rP (by omega) (by omega)
    · intro C1
      refine ok_if ?_ ?_
      · intro C2
        refine ok_add (by omega) ?_; intro v6 e_v6
        refine ok_if ?_ ?_
        · intro C3
          exact vj_X3_parametersIn_127 hn hb_l0 (by omega) (by omega) (by omega) (by omega) (by omega) (by omega) V_h
        · intro C3
          refine ok_add (by omega) ?_; intro v7 e_v7
          refine ok_cP (vf_X3_byteAt hn hb_l0 (by omega) (by omega) V_h) ?_; intro u9 e_u9 a_u9 b_u9
          refine ok_if ?_ ?_
          · intro C4
            exact vj_X3_parametersIn_127 hn hb_l0 (by omega) (by omega) (by omega) (by omega) (by omega) (by omega) V_h
          · intro C4
            exact vj_X3_parametersIn_128 hn hb_l0 (by omega) (by omega) (by omega) (by omega) (by omega) (by omega) (by omega) (by omega) V_h
      · intro C2
        exact ok_rP (by omega) (by omega)
set_option maxRecDepth 4000 in
theorem vw_X3_parametersIn_45 {nn : Nat} (hn : 1000000 ≤ nn) : ∀ (k : Nat) {l0 : Nat} {l2 : Int} {l3 : Int} {l4 : Int} {h : ms_M} (hb_l0 : kc_O l0 = 3) (a_l2 : 0 ≤ l2) (b_l2 : l2 ≤ 6255) (a_l3 : (-1) ≤ l3) (b_l3 : l3 ≤ 6257) (a_l4 : 0 ≤ l4) (b_l4 : l4 ≤ 7) (V_h : VS_ h)  (hm : 8 - l4 < (k : Int)), Ok_ (qw_X3_parametersIn_45 nn k l0 l2 l3 l4 h) (QP_ (-1) 6) := by
  intro k
  induction k with
  | zero => intros; exfalso; omega
  | succ k ih =>
    intro l0 l2 l3 l4 h hb_l0 a_l2 b_l2 a_l3 b_l3 a_l4 b_l4 V_h hm
    unfold qw_X3_parametersIn_45
    refine ok_if ?_ ?_
    · intro C0
      exact vj_X3_parametersIn_85 hn hb_l0 (by omega) (by omega) (by omega) (by omega) (by omega) (by omega) V_h
    · intro C0
      refine ok_if ?_ ?_
      · intro C1
        exact vj_X3_parametersIn_85 hn hb_l0 (by omega) (by omega) (by omega) (by omega) (by omega) (by omega) V_h
      · intro C1
        refine ok_if ?_ ?_
        · intro C2
          exact vj_X3_parametersIn_85 hn hb_l0 (by omega) (by omega) (by omega) (by omega) (by omega) (by omega) V_h
        · intro C2
          refine ok_cP (vf_X3_byteAt hn hb_l0 (by omega) (by omega) V_h) ?_; intro u16 e_u16 a_u16 b_u16
          refine ok_if ?_ ?_
          · intro C3
            exact vj_X3_parametersIn_85 hn hb_l0 (by omega) (by omega) (by omega) (by omega) (by omega) (by omega) V_h
          · intro C3
            refine ok_cP (vf_X3_behindKind hn hb_l0 (by omega) (by omega) (by omega) (by omega) V_h) ?_; intro u18 e_u18 a_u18 b_u18
            refine ok_add (by omega) ?_; intro v19 e_v19
            exact ih hb_l0 (by omega) (by omega) (by omega) (by omega) (by omega) (by omega) V_h (by omega)
set_option maxRecDepth 4000 in
theorem vf_X3_parametersIn {nn : Nat} (hn : 1000000 ≤ nn) {a0 : Nat} {a1 : Int} {h : ms_M} (hb_a0 : kc_O a0 = 3) (a_a1 : 0 ≤ a1) (b_a1 : a1 ≤ 255) (V_h : VS_ h)  : Ok_ (qf_X3_parametersIn nn a0 a1 h) (QP_ (-1) 6) := by
  unfold qf_X3_parametersIn
  refine ok_cP (vf_X3_tagOf hn hb_a0 (by omega) (by omega) V_h) ?_; intro u25 e_u25 a_u25 b_u25
  refine ok_if ?_ ?_
  · intro C0
    exact ok_rP (by omega) (by omega)
  · intro C0
    refine ok_rd (by omega) (gIA_3 V_h hb_a0) ?_; intro v27 e_v27 a_v27 b_v27
    refine ok_cP (vf_X3_byteAt hn hb_a0 (by omega) (by omega) V_h) ?_; intro u29 e_u29 a_u29 b_u29
    refine ok_if ?_ ?_
    · intro C1
      refine ok_rd (by omega) (gIA_4 V_h hb_a0) ?_; intro v31 e_v31 a_v31 b_v31
      refine ok_rd (by omega) (gIA_3 V_h hb_a0) ?_; intro v33 e_v33 a_v33 b_v33
      refine ok_add (by omega) ?_; intro v34 e_v34
      exact vw_X3_parametersIn_45 hn _ hb_a0 (by omega) (by omega) (by omega) (by omega) (by omega) (by omega) V_h (by omega)
    · intro C1
      exact ok_rP (by omega) (by omega)
set_option maxRecDepth 4000 in
theorem vj_X3_checkConstant_109 {nn : Nat} (hn : 1000000 ≤ nn) {l0 : Nat} {l2 : Int} {l3 : Int} {h : ms_M} (hb_l0 : kc_O l0 = 3) (a_l2 : 0 ≤ l2) (b_l2 : l2 ≤ 6000) (a_l3 : 0 ≤ l3) (b_l3 : l3 ≤ 255) (V_h : VS_ h)  : Ok_ (qj_X3_checkConstant_109 nn l0 l2 l3 h) QV_ := by
  unfold qj_X3_checkConstant_109
  refine ok_cP (vf_X3_isFieldKind hn hb_l0 (by omega) (by omega) V_h) ?_; intro u2 e_u2 a_u2 b_u2
  refine ok_if ?_ ?_
  · intro C0
    exact ok_rV V_h
  · intro C0
    refine ok_cP (vf_X3_parametersIn hn hb_l0 (by omega) (by omega) V_h) ?_; intro u4 e_u4 a_u4 b_u4
    refine ok_if ?_ ?_
    · intro C1
      exact ok_rV V_h
    · intro C1
      refine ok_add (by omega) ?_; intro v5 e_v5
      refine ok_cV (vf_X3_bad hn hb_l0 (by omega) (by omega) V_h) ?_; intro u7 E_u7 V_u7
      exact ok_rV V_u7
set_option maxRecDepth 4000 in
theorem vj_X3_checkConstant_89 {nn : Nat} (hn : 1000000 ≤ nn) {l0 : Nat} {l1 : Int} {l2 : Int} {l3 : Int} {h : ms_M} (hb_l0 : kc_O l0 = 3) (a_l1 : 1 ≤ l1) (b_l1 : l1 ≤ 255) (a_l2 : 0 ≤ l2) (b_l2 : l2 ≤ 6000) (a_l3 : 0 ≤ l3) (b_l3 : l3 ≤ 255) (V_h : VS_ h)  : Ok_ (qj_X3_checkConstant_89 nn l0 l1 l2 l3 h) QV_ := by
  unfold qj_X3_checkConstant_89
  refine ok_cP (vf_X3_partOf hn hb_l0 (by omega) (by omega) (by omega) (by omega) V_h) ?_; intro u11 e_u11 a_u11 b_u11
  refine ok_cP (vf_X3_isNameText hn hb_l0 (by omega) (by omega) V_h) ?_; intro u13 e_u13 a_u13 b_u13
  refine ok_if ?_ ?_
  · intro C0
    exact vj_X3_checkConstant_109 hn hb_l0 (by omega) (by omega) (by omega) (by omega) V_h
  · intro C0
    refine ok_add (by omega) ?_; intro v14 e_v14
    refine ok_cV (vf_X3_bad hn hb_l0 (by omega) (by omega) V_h) ?_; intro u16 E_u16 V_u16
    exact vj_X3_checkConstant_109 hn hb_l0 (by omega) (by omega) (by omega) (by omega) V_u16
set_option maxRecDepth 4000 in
theorem vj_X3_checkConstant_53 {nn : Nat} (hn : 1000000 ≤ nn) {l0 : Nat} {l1 : Int} {l2 : Int} {h : ms_M} (hb_l0 : kc_O l0 = 3) (a_l1 : 1 ≤ l1) (b_l1 : l1 ≤ 255) (a_l2 : 0 ≤ l2) (b_l2 : l2 ≤ 6000) (V_h : VS_ h)  : Ok_ (qj_X3_checkConstant_53 nn l0 l1 l2 h) QV_ := by
  unfold qj_X3_checkConstant_53
  refine ok_rd (by omega) (gIA_2 V_h hb_l0) ?_; intro v19 e_v19 a_v19 b_v19
  refine ok_if ?_ ?_
  · intro C0
    exact ok_rV V_h
  · intro C0
    refine ok_cP (vf_X3_partOf hn hb_l0 (by omega) (by omega) (by omega) (by omega) V_h) ?_; intro u21 e_u21 a_u21 b_u21
    refine ok_cP (vf_X3_partOf hn hb_l0 (by omega) (by omega) (by omega) (by omega) V_h) ?_; intro u23 e_u23 a_u23 b_u23
    refine ok_cP (vf_X3_tagOf hn hb_l0 (by omega) (by omega) V_h) ?_; intro u25 e_u25 a_u25 b_u25
    refine ok_if ?_ ?_
    · intro C1
      exact vj_X3_checkConstant_89 hn hb_l0 (by omega) (by omega) (by omega) (by omega) (by omega) (by omega) V_h
    · intro C1
      refine ok_cV (vf_X3_bad hn hb_l0 (by omega) (by omega) V_h) ?_; intro u27 E_u27 V_u27
      exact vj_X3_checkConstant_89 hn hb_l0 (by omega) (by omega) (by omega) (by omega) (by omega) (by omega) V_u27
set_option maxRecDepth 4000 in
theorem vj_X3_checkConstant_48 {nn : Nat} (hn : 1000000 ≤ nn) {l0 : Nat} {l1 : Int} {l2 : Int} {h : ms_M} (hb_l0 : kc_O l0 = 3) (a_l1 : 1 ≤ l1) (b_l1 : l1 ≤ 255) (a_l2 : 0 ≤ l2) (b_l2 : l2 ≤ 6000) (V_h : VS_ h)  : Ok_ (qj_X3_checkConstant_48 nn l0 l1 l2 h) QV_ := by
  unfold qj_X3_checkConstant_48
  refine ok_cV (vf_X3_bad hn hb_l0 (by omega) (by omega) V_h) ?_; intro u31 E_u31 V_u31
  exact vj_X3_checkConstant_53 hn hb_l0 (by omega) (by omega) (by omega) (by omega) V_u31
set_option maxRecDepth 4000 in
theorem vf_X3_checkConstant {nn : Nat} (hn : 1000000 ≤ nn) {a0 : Nat} {a1 : Int} {h : ms_M} (hb_a0 : kc_O a0 = 3) (a_a1 : 1 ≤ a1) (b_a1 : a1 ≤ 255) (V_h : VS_ h)  : Ok_ (qf_X3_checkConstant nn a0 a1 h) QV_ := by
  unfold qf_X3_checkConstant
  refine ok_rd (by omega) (gIA_3 V_h hb_a0) ?_; intro v33 e_v33 a_v33 b_v33
  refine ok_rd (by omega) (gIA_2 V_h hb_a0) ?_; intro v35 e_v35 a_v35 b_v35
  refine ok_if ?_ ?_
  · intro C0
    exact vj_X3_checkConstant_53 hn hb_a0 (by omega) (by omega) (by omega) (by omega) V_h
  · intro C0
    refine ok_cP (vf_X3_partOf hn hb_a0 (by omega) (by omega) (by omega) (by omega) V_h) ?_; intro u37 e_u37 a_u37 b_u37
    refine ok_cP (vf_X3_isNameText hn hb_a0 (by omega) (by omega) V_h) ?_; intro u39 e_u39 a_u39 b_u39
    refine ok_if ?_ ?_
    · intro C1
      exact vj_X3_checkConstant_53 hn hb_a0 (by omega) (by omega) (by omega) (by omega) V_h
    · intro C1
      refine ok_cP (vf_X3_isArrayText hn hb_a0 (by omega) (by omega) V_h) ?_; intro u41 e_u41 a_u41 b_u41
      refine ok_if ?_ ?_
      · intro C2
        exact vj_X3_checkConstant_48 hn hb_a0 (by omega) (by omega) (by omega) (by omega) V_h
      · intro C2
        refine ok_cP (vf_X3_isFieldKind hn hb_a0 (by omega) (by omega) V_h) ?_; intro u43 e_u43 a_u43 b_u43
        refine ok_if ?_ ?_
        · intro C3
          exact vj_X3_checkConstant_53 hn hb_a0 (by omega) (by omega) (by omega) (by omega) V_h
        · intro C3
          exact vj_X3_checkConstant_48 hn hb_a0 (by omega) (by omega) (by omega) (by omega) V_h
