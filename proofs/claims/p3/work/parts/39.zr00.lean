set_option maxRecDepth 4000 in
theorem vf_X13_clear {nn : Nat} (hn : 1000000 ≤ nn) {h : ms_M} (V_h : VS_ h)  : Ok_ (qf_X13_clear nn h) QV_ := by
  unfold qf_X13_clear
  refine ok_xl ?_; intro h1 E_h1; have V_h1 : VS_ h1 := by rw [E_h1]; exact wF_160_98 V_h (by omega)
  refine ok_xl ?_; intro h2 E_h2; have V_h2 : VS_ h2 := by rw [E_h2]; exact wF_160_99 V_h1 (by omega)
  refine ok_xl ?_; intro h3 E_h3; have V_h3 : VS_ h3 := by rw [E_h3]; exact wF_160_138 V_h2 (by omega)
  exact ok_rV V_h3
set_option maxRecDepth 4000 in
theorem vf_X13_come {nn : Nat} (hn : 1000000 ≤ nn) {a1 : Int} {a2 : Int} {h : ms_M} (a_a1 : 0 ≤ a1) (b_a1 : a1 ≤ 3000) (a_a2 : (-1) ≤ a2) (b_a2 : a2 ≤ 900) (V_h : VS_ h) (x_0 : h 160 50 ≤ 2999)  : Ok_ (qf_X13_come nn a1 a2 h) (QVR_ (fun r => (r 160 50 = h 160 50 + 1))) := by
  unfold qf_X13_come
  have T1 := gF_160_50 V_h
  refine ok_wA (by omega) ?_; intro h3 E_h3; have V_h3 : VS_ h3 := by rw [E_h3]; exact wA_196 V_h (by omega)
  have T2 : h3 160 50 = h 160 50 := by rw [E_h3]; exact up_n (fun z => absurd z.1 (by decide))
  refine ok_wA (by omega) ?_; intro h6 E_h6; have V_h6 : VS_ h6 := by rw [E_h6]; exact wA_197 V_h3 (by omega)
  have T3 : h6 160 50 = h3 160 50 := by rw [E_h6]; exact up_n (fun z => absurd z.1 (by decide))
  refine ok_add (by omega) ?_; intro v8 e_v8
  refine ok_xl ?_; intro h9 E_h9; have V_h9 : VS_ h9 := by rw [E_h9]; exact wF_160_50 V_h6 (by omega)
  have T4 : h9 160 50 = v8 := by rw [E_h9]; exact up_s
  exact ok_rVR V_h9 (by omega)
set_option maxRecDepth 4000 in
theorem vf_X13_upperOf {nn : Nat} (hn : 1000000 ≤ nn) {a1 : Int} {h : ms_M} (a_a1 : 0 ≤ a1) (b_a1 : a1 ≤ 407) (V_h : VS_ h)  : Ok_ (qf_X13_upperOf nn a1 h) (QP_ (-1) 407) := by
  unfold qf_X13_upperOf
  refine ok_if ?_ ?_
  · intro C0
    refine ok_if ?_ ?_
    · intro C1
      refine ok_if ?_ ?_
      · intro C2
        refine ok_sub (by omega) ?_; intro v2 e_v2
        refine ok_rd (by omega) (gA_180 V_h) ?_; intro v3 e_v3 a_v3 b_v3
        exact ok_rP (by omega) (by omega)
      · intro C2
        exact ok_rP (by omega) (by omega)
    · intro C1
      exact ok_rP (by omega) (by omega)
  · intro C0
    exact ok_rP (by omega) (by omega)
set_option maxRecDepth 4000 in
theorem vw_X13_sightOf_7 {nn : Nat} (hn : 1000000 ≤ nn) : ∀ (k : Nat) {l1 : Int} {l2 : Int} {h : ms_M} (a_l1 : 0 ≤ l1) (b_l1 : l1 ≤ 3001) (a_l2 : (-1) ≤ l2) (b_l2 : l2 ≤ 2999) (V_h : VS_ h) (N_h : HW_ h)  (hm : l2 - (-2) < (k : Int)), Ok_ (qw_X13_sightOf_7 nn k l1 l2 h) (QP_ (-1) 2999) := by
  intro k
  induction k with
  | zero => intros; exfalso; omega
  | succ k ih =>
    intro l1 l2 h a_l1 b_l1 a_l2 b_l2 V_h N_h hm
    unfold qw_X13_sightOf_7
    refine ok_if ?_ ?_
    · intro C0
      exact ok_rP (by omega) (by omega)
    · intro C0
      refine ok_rd (by omega) (gA_196 V_h) ?_; intro v2 e_v2 a_v2 b_v2
      refine ok_cP (vf_X13_isLike hn (by omega) (by omega) (by omega) (by omega) V_h N_h) ?_; intro u4 e_u4 a_u4 b_u4
      refine ok_if ?_ ?_
      · intro C1
        refine ok_add (by omega) ?_; intro v5 e_v5
        exact ih (by omega) (by omega) (by omega) (by omega) V_h N_h (by omega)
      · intro C1
        exact ok_rP (by omega) (by omega)
set_option maxRecDepth 4000 in
theorem vf_X13_sightOf {nn : Nat} (hn : 1000000 ≤ nn) {a1 : Int} {h : ms_M} (a_a1 : 0 ≤ a1) (b_a1 : a1 ≤ 3001) (V_h : VS_ h) (N_h : HW_ h)  : Ok_ (qf_X13_sightOf nn a1 h) (QP_ (-1) 2999) := by
  unfold qf_X13_sightOf
  have T1 := gF_160_50 V_h
  refine ok_sub (by omega) ?_; intro v9 e_v9
  exact vw_X13_sightOf_7 hn _ (by omega) (by omega) (by omega) (by omega) V_h N_h (by omega)
set_option maxRecDepth 4000 in
theorem vf_X13_isArray {nn : Nat} (hn : 1000000 ≤ nn) {a0 : Int} {h : ms_M} (a_a0 : (-2) ≤ a0) (b_a0 : a0 ≤ 6010) (V_h : VS_ h)  : Ok_ (qf_X13_isArray nn a0 h) (QP_ 0 1) := by
  unfold qf_X13_isArray
  refine ok_if ?_ ?_
  · intro C0
    exact ok_rP (by omega) (by omega)
  · intro C0
    refine ok_if ?_ ?_
    · intro C1
      exact ok_rP (by omega) (by omega)
    · intro C1
      refine ok_rem (n := 2) (by omega) ?_; intro v1 e_v1
      refine ok_if ?_ ?_
      · intro C2
        exact ok_rP (by omega) (by omega)
      · intro C2
        exact ok_rP (by omega) (by omega)
set_option maxRecDepth 4000 in
theorem vf_X13_wrong {nn : Nat} (hn : 1000000 ≤ nn) {a1 : Int} {a2 : Int} {h : ms_M} (a_a1 : 1 ≤ a1) (b_a1 : a1 ≤ 11) (a_a2 : 0 ≤ a2) (b_a2 : a2 ≤ 3001) (V_h : VS_ h)  : Ok_ (qf_X13_wrong nn a1 a2 h) (QVR_ (fun r => (¬ r 160 9 = 0))) := by
  unfold qf_X13_wrong
  have T1 := gF_160_9 V_h
  refine ok_if ?_ ?_
  · intro C1
    refine ok_xl ?_; intro h2 E_h2; have V_h2 : VS_ h2 := by rw [E_h2]; exact wF_160_9 V_h (by omega)
    have T3 : h2 160 9 = a1 := by rw [E_h2]; exact up_s
    refine ok_rd (by omega) (gA_164 V_h2) ?_; intro v4 e_v4 a_v4 b_v4
    refine ok_xl ?_; intro h5 E_h5; have V_h5 : VS_ h5 := by rw [E_h5]; exact wF_160_10 V_h2 (by omega)
    have T4 : h5 160 9 = h2 160 9 := by rw [E_h5]; exact up_n (by decide)
    exact ok_rVR V_h5 (by omega)
  · intro C1
    exact ok_rVR V_h (by omega)
set_option maxRecDepth 4000 in
theorem vf_X13_sign {nn : Nat} (hn : 1000000 ≤ nn) {a0 : Int} {a1 : Int} {a2 : Int} {h : ms_M} (a_a0 : 0 ≤ a0) (b_a0 : a0 ≤ 62) (a_a1 : 33 ≤ a1) (b_a1 : a1 ≤ 124) (a_a2 : 38 ≤ a2) (b_a2 : a2 ≤ 124) (V_h : VS_ h)  : Ok_ (qf_X13_sign nn a0 a1 a2 h) (QP_ 4262 1031804) := by
  unfold qf_X13_sign
  refine ok_mul (by omega) ?_; intro v1 e_v1
  refine ok_add (by omega) ?_; intro v2 e_v2
  refine ok_mul (by omega) ?_; intro v3 e_v3
  refine ok_add (by omega) ?_; intro v4 e_v4
  exact ok_rP (by omega) (by omega)
set_option maxRecDepth 4000 in
theorem vf_X13_isWord {nn : Nat} (hn : 1000000 ≤ nn) {a1 : Int} {a2 : Int} {h : ms_M} (a_a1 : 0 ≤ a1) (b_a1 : a1 ≤ 3001) (a_a2 : 0 ≤ a2) (b_a2 : a2 ≤ 20) (V_h : VS_ h)  : Ok_ (qf_X13_isWord nn a1 a2 h) (QP_ 0 1) := by
  unfold qf_X13_isWord
  refine ok_rd (by omega) (gA_163 V_h) ?_; intro v2 e_v2 a_v2 b_v2
  refine ok_if ?_ ?_
  · intro C0
    exact ok_rP (by omega) (by omega)
  · intro C0
    refine ok_rd (by omega) (gA_166 V_h) ?_; intro v4 e_v4 a_v4 b_v4
    refine ok_if ?_ ?_
    · intro C1
      exact ok_rP (by omega) (by omega)
    · intro C1
      exact ok_rP (by omega) (by omega)
set_option maxRecDepth 4000 in
theorem vj_X13_strength_146 {nn : Nat} (hn : 1000000 ≤ nn) {h : ms_M} (V_h : VS_ h)  : Ok_ (qj_X13_strength_146 nn h) (QP_ (-1) 9) := by
  unfold qj_X13_strength_146
  exact ok_rP (by omega) (by omega)
set_option maxRecDepth 4000 in
theorem vf_X13_strength {nn : Nat} (hn : 1000000 ≤ nn) {a1 : Int} {h : ms_M} (a_a1 : 0 ≤ a1) (b_a1 : a1 ≤ 3001) (V_h : VS_ h)  : Ok_ (qf_X13_strength nn a1 h) (QP_ (-1) 9) := by
  unfold qf_X13_strength
  refine ok_cP (vf_X13_isWord hn (by omega) (by omega) (by omega) (by omega) V_h) ?_; intro u2 e_u2 a_u2 b_u2
  refine ok_if ?_ ?_
  · intro C0
    refine ok_rd (by omega) (gA_163 V_h) ?_; intro v4 e_v4 a_v4 b_v4
    refine ok_if ?_ ?_
    · intro C1
      refine ok_rd (by omega) (gA_166 V_h) ?_; intro v6 e_v6 a_v6 b_v6
      refine ok_cP (vf_X13_sign hn (by omega) (by omega) (by omega) (by omega) (by omega) (by omega) V_h) ?_; intro u7 e_u7 a_u7 b_u7
      refine ok_if ?_ ?_
      · intro C2
        refine ok_cP (vf_X13_sign hn (by omega) (by omega) (by omega) (by omega) (by omega) (by omega) V_h) ?_; intro u8 e_u8 a_u8 b_u8
        refine ok_if ?_ ?_
        · intro C3
          refine ok_if ?_ ?_
          · intro C4
            refine ok_if ?_ ?_
            · intro C5
              refine ok_if ?_ ?_
              · intro C6
                refine ok_cP (vf_X13_sign hn (by omega) (by omega) (by omega) (by omega) (by omega) (by omega) V_h) ?_; intro u9 e_u9 a_u9 b_u9
                refine ok_if ?_ ?_
                · intro C7
                  exact ok_rP (by omega) (by omega)
                · intro C7
                  refine ok_cP (vf_X13_sign hn (by omega) (by omega) (by omega) (by omega) (by omega) (by omega) V_h) ?_; intro u10 e_u10 a_u10 b_u10
                  refine ok_if ?_ ?_
                  · intro C8
                    refine ok_if ?_ ?_
                    · intro C9
                      exact vj_X13_strength_146 hn V_h
                    · intro C9
                      refine ok_if ?_ ?_
                      · intro C10
                        exact vj_X13_strength_146 hn V_h
                      · intro C10
                        refine ok_cP (vf_X13_sign hn (by omega) (by omega) (by omega) (by omega) (by omega) (by omega) V_h) ?_; intro u11 e_u11 a_u11 b_u11
                        refine ok_if ?_ ?_
                        · intro C11
                          exact vj_X13_strength_146 hn V_h
                        · intro C11
                          refine ok_cP (vf_X13_sign hn (by omega) (by omega) (by omega) (by omega) (by omega) (by omega) V_h) ?_; intro u12 e_u12 a_u12 b_u12
                          refine ok_if ?_ ?_
                          · intro C12
                            refine ok_cP (vf_X13_sign hn (by omega) (by omega) (by omega) (by omega) (by omega) (by omega) V_h) ?_; intro u13 e_u13 a_u13 b_u13
                            refine ok_if ?_ ?_
                            · intro C13
                              exact ok_rP (by omega) (by omega)
                            · intro C13
                              refine ok_cP (vf_X13_sign hn (by omega) (by omega) (by omega) (by omega) (by omega) (by omega) V_h) ?_; intro u14 e_u14 a_u14 b_u14
                              refine ok_if ?_ ?_
                              · intro C14
                                exact ok_rP (by omega) (by omega)
                              · intro C14
                                refine ok_cP (vf_X13_sign hn (by omega) (by omega) (by omega) (by omega) (by omega) (by omega) V_h) ?_; intro u15 e_u15 a_u15 b_u15
                                refine ok_if ?_ ?_
                                · intro C15
                                  refine ok_if ?_ ?_
                                  · intro C16
                                    exact ok_rP (by omega) (by omega)
                                  · intro C16
                                    refine ok_if ?_ ?_
                                    · intro C17
                                      refine ok_if ?_ ?_
                                      · intro C18
                                        exact ok_rP (by omega) (by omega)
                                      · intro C18
                                        refine ok_if ?_ ?_
                                        · intro C19
                                          exact ok_rP (by omega) (by omega)
                                        · intro C19
                                          refine ok_if ?_ ?_
                                          · intro C20
                                            exact ok_rP (by omega) (by omega)
                                          · intro C20
                                            exact ok_rP (by omega) (by omega)
                                    · intro C17
                                      exact ok_rP (by omega) (by omega)
                                · intro C15
                                  exact ok_rP (by omega) (by omega)
                          · intro C12
                            exact vj_X13_strength_146 hn V_h
                  · intro C8
                    exact ok_rP (by omega) (by omega)
              · intro C6
                exact ok_rP (by omega) (by omega)
            · intro C5
              exact ok_rP (by omega) (by omega)
          · intro C4
            exact ok_rP (by omega) (by omega)
        · intro C3
          exact ok_rP (by omega) (by omega)
      · intro C2
        exact ok_rP (by omega) (by omega)
    · intro C1
      exact ok_rP (by omega) (by omega)
  · intro C0
    exact ok_rP (by omega) (by omega)
set_option maxRecDepth 4000 in
theorem vf_X13_isThing {nn : Nat} (hn : 1000000 ≤ nn) {a0 : Int} {h : ms_M} (a_a0 : (-1) ≤ a0) (b_a0 : a0 ≤ 900) (V_h : VS_ h)  : Ok_ (qf_X13_isThing nn a0 h) (QP_ 0 1) := by
  unfold qf_X13_isThing
  refine ok_if ?_ ?_
  · intro C0
    exact ok_rP (by omega) (by omega)
  · intro C0
    refine ok_if ?_ ?_
    · intro C1
      exact ok_rP (by omega) (by omega)
    · intro C1
      refine ok_if ?_ ?_
      · intro C2
        exact ok_rP (by omega) (by omega)
      · intro C2
        exact ok_rP (by omega) (by omega)
set_option maxRecDepth 4000 in
theorem vf_X13_local {nn : Nat} (hn : 1000000 ≤ nn) {a1 : Int} {h : ms_M} (a_a1 : 0 ≤ a1) (b_a1 : a1 ≤ 3000) (V_h : VS_ h)  : Ok_ (qf_X13_local nn a1 h) (QP_ 0 3001) := by
  unfold qf_X13_local
  have T1 := gF_160_53 V_h
  refine ok_if ?_ ?_
  · intro C1
    refine ok_add (by omega) ?_; intro v2 e_v2
    exact ok_rP (by omega) (by omega)
  · intro C1
    exact ok_rP (by omega) (by omega)
set_option maxRecDepth 4000 in
theorem vj_X13_typeOf_56 {nn : Nat} (hn : 1000000 ≤ nn) {l3 : Int} {l4 : Int} {h : ms_M} (a_l3 : 0 ≤ l3) (b_l3 : l3 ≤ 1) (a_l4 : (-1) ≤ l4) (b_l4 : l4 ≤ 407) (V_h : VS_ h) (N_h : HW_ h)  : Ok_ (qj_X13_typeOf_56 nn l3 l4 h) (QIR_ 0 900 (fun u r => (h 160 9 = 0 ∨ ¬ r 160 9 = 0))) := by
  unfold qj_X13_typeOf_56
  have T1 := gF_160_9 V_h
  refine ok_mul (by omega) ?_; intro v1 e_v1
  refine ok_add (by omega) ?_; intro v2 e_v2
  refine ok_if ?_ ?_
  · intro C1
    refine ok_add (by omega) ?_; intro v3 e_v3
    exact ok_rIR V_h (by omega) (by omega) (by omega)
  · intro C1
    refine ok_add (by omega) ?_; intro v4 e_v4
    exact ok_rIR V_h (by omega) (by omega) (by omega)
set_option maxRecDepth 4000 in
theorem vf_X13_typeOf {nn : Nat} (hn : 1000000 ≤ nn) {a1 : Int} {a2 : Int} {a3 : Int} {h : ms_M} (a_a1 : 0 ≤ a1) (b_a1 : a1 ≤ 3) (a_a2 : 0 ≤ a2) (b_a2 : a2 ≤ 3001) (a_a3 : 0 ≤ a3) (b_a3 : a3 ≤ 1) (V_h : VS_ h) (N_h : HW_ h)  : Ok_ (qf_X13_typeOf nn a1 a2 a3 h) (QIR_ 0 900 (fun u r => (h 160 9 = 0 ∨ ¬ r 160 9 = 0))) := by
  unfold qf_X13_typeOf
  have T1 := gF_160_9 V_h
  refine ok_if ?_ ?_
  · intro C1
    refine ok_if ?_ ?_
    · intro C2
      refine ok_if ?_ ?_
      · intro C3
        refine ok_if ?_ ?_
        · intro C4
          refine ok_cP (vf_X13_classOf hn (by omega) (by omega) V_h N_h) ?_; intro u8 e_u8 a_u8 b_u8
          refine ok_if ?_ ?_
          · intro C5
            exact ok_mI (vj_X13_typeOf_56 hn (by omega) (by omega) (by omega) (by omega) V_h N_h) (fun _ _ V_r R_r => by have := gF_160_9 V_r; omega)
          · intro C5
            refine ok_cVR (vf_X13_wrong hn (by omega) (by omega) (by omega) (by omega) V_h) ?_; intro u10 E_u10 V_u10 R_u10
            have N_u10 : HW_ u10 := hw_fr V_h N_h (fun c k z => (ff_X13_wrong nn) _ E_u10 c k z) rfl
            have T7 := gF_160_9 V_u10
            exact ok_mI (vj_X13_typeOf_56 hn (by omega) (by omega) (by omega) (by omega) V_u10 N_u10) (fun _ _ V_r R_r => by have := gF_160_9 V_r; omega)
        · intro C4
          exact ok_rIR V_h (by omega) (by omega) (by omega)
      · intro C3
        exact ok_rIR V_h (by omega) (by omega) (by omega)
    · intro C2
      refine ok_if ?_ ?_
      · intro C7
        exact ok_rIR V_h (by omega) (by omega) (by omega)
      · intro C7
        exact ok_rIR V_h (by omega) (by omega) (by omega)
  · intro C1
    exact ok_rIR V_h (by omega) (by omega) (by omega)
set_option maxRecDepth 4000 in
theorem vw_X13_memberHead_239 {nn : Nat} (hn : 1000000 ≤ nn) {qkk_157 : Int → Int → ms_M → Option ms_M} {K_kk_157 : Int} (hk_kk_157 : ∀ {l1 : Int} {l4 : Int} {h : ms_M} (a_l1 : 0 ≤ l1) (b_l1 : l1 ≤ 799) (a_l4 : 0 ≤ l4) (b_l4 : l4 ≤ 1500) (V_h : VS_ h) (N_h : HW_ h) (_ : 1501 - l4 < K_kk_157), Ok_ (qkk_157 l1 l4 h) QV_) : ∀ (k : Nat) {l1 : Int} {l4 : Int} {l5 : Int} {l6 : Int} {h : ms_M} (a_l1 : 0 ≤ l1) (b_l1 : l1 ≤ 799) (a_l4 : 0 ≤ l4) (b_l4 : l4 ≤ 1499) (a_l5 : 0 ≤ l5) (b_l5 : l5 ≤ 1499) (a_l6 : 0 ≤ l6) (b_l6 : l6 ≤ 1500) (V_h : VS_ h) (N_h : HW_ h) (hm_kk_157 : 1501 - l4 + 0 ≤ K_kk_157) (hm : 1501 - l6 < (k : Int)), Ok_ (qw_X13_memberHead_239 nn qkk_157 k l1 l4 l5 l6 h) QV_ := by
  intro k
  induction k with
  | zero => intros; exfalso; omega
  | succ k ih =>
    intro l1 l4 l5 l6 h a_l1 b_l1 a_l4 b_l4 a_l5 b_l5 a_l6 b_l6 V_h N_h hm_kk_157 hm
    unfold qw_X13_memberHead_239
    refine ok_if ?_ ?_
    · intro C0
      refine ok_add (by omega) ?_; intro v1 e_v1
      exact hk_kk_157 (by omega) (by omega) (by omega) (by omega) V_h N_h (by omega)
    · intro C0
      refine ok_rd (by omega) (gA_194 V_h) ?_; intro v3 e_v3 a_v3 b_v3
      refine ok_rd (by omega) (gA_194 V_h) ?_; intro v5 e_v5 a_v5 b_v5
      refine ok_cP (vf_X13_isLike hn (by omega) (by omega) (by omega) (by omega) V_h N_h) ?_; intro u7 e_u7 a_u7 b_u7
      refine ok_if ?_ ?_
      · intro C1
        refine ok_add (by omega) ?_; intro v8 e_v8
        exact ih (by omega) (by omega) (by omega) (by omega) (by omega) (by omega) (by omega) (by omega) V_h N_h (by omega) (by omega)
      · intro C1
        refine ok_rd (by omega) (gA_194 V_h) ?_; intro v10 e_v10 a_v10 b_v10
        refine ok_cVR (vf_X13_wrong hn (by omega) (by omega) (by omega) (by omega) V_h) ?_; intro u12 E_u12 V_u12 R_u12
        have N_u12 : HW_ u12 := hw_fr V_h N_h (fun c k z => (ff_X13_wrong nn) _ E_u12 c k z) rfl
        refine ok_add (by omega) ?_; intro v13 e_v13
        exact ih (by omega) (by omega) (by omega) (by omega) (by omega) (by omega) (by omega) (by omega) V_u12 N_u12 (by omega) (by omega)
set_option maxRecDepth 4000 in
theorem vj_X13_memberHead_231 {nn : Nat} (hn : 1000000 ≤ nn) {qkk_157 : Int → Int → ms_M → Option ms_M} {K_kk_157 : Int} (hk_kk_157 : ∀ {l1 : Int} {l4 : Int} {h : ms_M} (a_l1 : 0 ≤ l1) (b_l1 : l1 ≤ 799) (a_l4 : 0 ≤ l4) (b_l4 : l4 ≤ 1500) (V_h : VS_ h) (N_h : HW_ h) (_ : 1501 - l4 < K_kk_157), Ok_ (qkk_157 l1 l4 h) QV_) {l1 : Int} {l4 : Int} {l5 : Int} {h : ms_M} (a_l1 : 0 ≤ l1) (b_l1 : l1 ≤ 799) (a_l4 : 0 ≤ l4) (b_l4 : l4 ≤ 1499) (a_l5 : 0 ≤ l5) (b_l5 : l5 ≤ 1499) (V_h : VS_ h) (N_h : HW_ h) (hm_kk_157 : 1501 - l4 + 0 ≤ K_kk_157) : Ok_ (qj_X13_memberHead_231 nn qkk_157 l1 l4 l5 h) QV_ := by
  unfold qj_X13_memberHead_231
  refine ok_rd (by omega) (gA_188 V_h) ?_; intro v17 e_v17 a_v17 b_v17
  exact vw_X13_memberHead_239 hn hk_kk_157 _ (by omega) (by omega) (by omega) (by omega) (by omega) (by omega) (by omega) (by omega) V_h N_h (by omega) (by omega)
set_option maxRecDepth 4000 in
theorem vw_X13_memberHead_157 {nn : Nat} (hn : 1000000 ≤ nn) : ∀ (k : Nat) {l1 : Int} {l4 : Int} {h : ms_M} (a_l1 : 0 ≤ l1) (b_l1 : l1 ≤ 799) (a_l4 : 0 ≤ l4) (b_l4 : l4 ≤ 1500) (V_h : VS_ h) (N_h : HW_ h)  (hm : 1501 - l4 < (k : Int)), Ok_ (qw_X13_memberHead_157 nn k l1 l4 h) QV_ := by
  intro k
  induction k with
  | zero => intros; exfalso; omega
  | succ k ih =>
    intro l1 l4 h a_l1 b_l1 a_l4 b_l4 V_h N_h hm
    unfold qw_X13_memberHead_157
    refine ok_rd (by omega) (gA_189 V_h) ?_; intro v19 e_v19 a_v19 b_v19
    have z0 := N_h.2 (l1).toNat (by omega)
    refine ok_if ?_ ?_
    · intro C0
      exact ok_rV V_h
    · intro C0
      refine ok_rd (by omega) (gA_188 V_h) ?_; intro v21 e_v21 a_v21 b_v21
      refine ok_add (by omega) ?_; intro v22 e_v22
      refine ok_rd (by omega) (gA_191 V_h) ?_; intro v25 e_v25 a_v25 b_v25
      refine ok_rd (by omega) (gA_192 V_h) ?_; intro v27 e_v27 a_v27 b_v27
      refine ok_rd (by omega) (gA_193 V_h) ?_; intro v29 e_v29 a_v29 b_v29
      refine ok_cIR (vf_X13_typeOf hn (by omega) (by omega) (by omega) (by omega) (by omega) (by omega) V_h N_h) ?_; intro u31 E_u31 V_u31 a_u31 b_u31 R_u31
      have N_u31_2 : HW_ u31.2 := hw_fr V_h N_h (fun c k z => (ff_X13_typeOf nn) _ E_u31 c k z) rfl
      refine ok_wA (by omega) ?_; intro h32 E_h32; have V_h32 : VS_ h32 := by rw [E_h32]; exact wA_195 V_u31 (by omega)
      have N_h32 : HW_ h32 := by rw [E_h32]; exact hw_ua V_u31 N_u31_2 rfl
      refine ok_if ?_ ?_
      · intro C1
        exact vj_X13_memberHead_231 hn ih (by omega) (by omega) (by omega) (by omega) (by omega) (by omega) V_h32 N_h32 (by omega)
      · intro C1
        refine ok_rd (by omega) (gA_194 V_h32) ?_; intro v34 e_v34 a_v34 b_v34
        refine ok_cVR (vf_X13_wrong hn (by omega) (by omega) (by omega) (by omega) V_h32) ?_; intro u36 E_u36 V_u36 R_u36
        have N_u36 : HW_ u36 := hw_fr V_h32 N_h32 (fun c k z => (ff_X13_wrong nn) _ E_u36 c k z) rfl
        exact vj_X13_memberHead_231 hn ih (by omega) (by omega) (by omega) (by omega) (by omega) (by omega) V_u36 N_u36 (by omega)
set_option maxRecDepth 4000 in
theorem vj_X13_memberHead_139 {nn : Nat} (hn : 1000000 ≤ nn) {l1 : Int} {l3 : Int} {h : ms_M} (a_l1 : 0 ≤ l1) (b_l1 : l1 ≤ 799) (a_l3 : 0 ≤ l3) (b_l3 : l3 ≤ 65535) (V_h : VS_ h) (N_h : HW_ h)  : Ok_ (qj_X13_memberHead_139 nn l1 l3 h) QV_ := by
  unfold qj_X13_memberHead_139
  refine ok_if ?_ ?_
  · intro C0
    exact vw_X13_memberHead_157 hn _ (by omega) (by omega) (by omega) (by omega) V_h N_h (by omega)
  · intro C0
    refine ok_rd (by omega) (gA_186 V_h) ?_; intro v40 e_v40 a_v40 b_v40
    refine ok_cVR (vf_X13_wrong hn (by omega) (by omega) (by omega) (by omega) V_h) ?_; intro u42 E_u42 V_u42 R_u42
    have N_u42 : HW_ u42 := hw_fr V_h N_h (fun c k z => (ff_X13_wrong nn) _ E_u42 c k z) rfl
    exact vw_X13_memberHead_157 hn _ (by omega) (by omega) (by omega) (by omega) V_u42 N_u42 (by omega)
set_option maxRecDepth 4000 in
theorem vj_X13_memberHead_86 {nn : Nat} (hn : 1000000 ≤ nn) {qkk_35 : Int → Int → Int → Int → ms_M → Option ms_M} {K_kk_35 : Int} (hk_kk_35 : ∀ {l1 : Int} {l2 : Int} {l3 : Int} {l4 : Int} {h : ms_M} (a_l1 : 0 ≤ l1) (b_l1 : l1 ≤ 799) (a_l2 : 0 ≤ l2) (b_l2 : l2 ≤ 800) (a_l3 : 0 ≤ l3) (b_l3 : l3 ≤ 65535) (a_l4 : 0 ≤ l4) (b_l4 : l4 ≤ 799) (V_h : VS_ h) (x_0 : l2 ≤ l4 ∧ l4 ≤ l1) (N_h : HW_ h) (_ : 800 - l4 < K_kk_35), Ok_ (qkk_35 l1 l2 l3 l4 h) QV_) {l1 : Int} {l2 : Int} {l3 : Int} {l4 : Int} {s0 : Int} {s1 : Int} {h : ms_M} (a_l1 : 0 ≤ l1) (b_l1 : l1 ≤ 799) (a_l2 : 0 ≤ l2) (b_l2 : l2 ≤ 799) (a_l3 : 0 ≤ l3) (b_l3 : l3 ≤ 65535) (a_l4 : 0 ≤ l4) (b_l4 : l4 ≤ 798) (a_s0 : 0 ≤ s0) (b_s0 : s0 ≤ 1) (a_s1 : 0 ≤ s1) (b_s1 : s1 ≤ 1) (V_h : VS_ h) (x_0 : l2 ≤ l4 ∧ l4 < l1) (N_h : HW_ h) (hm_kk_35 : 800 - l4 + 0 ≤ K_kk_35) : Ok_ (qj_X13_memberHead_86 nn qkk_35 l1 l2 l3 l4 s0 s1 h) QV_ := by
  unfold qj_X13_memberHead_86
  refine ok_if ?_ ?_
  · intro C0
    refine ok_add (by omega) ?_; intro v44 e_v44
    refine ok_rd (by omega) (gA_186 V_h) ?_; intro v46 e_v46 a_v46 b_v46
    refine ok_rd (by omega) (gA_186 V_h) ?_; intro v48 e_v48 a_v48 b_v48
    refine ok_cP (vf_X13_isLike hn (by omega) (by omega) (by omega) (by omega) V_h N_h) ?_; intro u50 e_u50 a_u50 b_u50
    refine ok_or (by omega) (by omega) ?_; intro v51 a_v51 b_v51
    refine ok_add (by omega) ?_; intro v52 e_v52
    exact hk_kk_35 (by omega) (by omega) (by omega) (by omega) (by omega) (by omega) (by omega) (by omega) V_h (by omega) N_h (by omega)
  · intro C0
    refine ok_add (by omega) ?_; intro v53 e_v53
    exact hk_kk_35 (by omega) (by omega) (by omega) (by omega) (by omega) (by omega) (by omega) (by omega) V_h (by omega) N_h (by omega)
set_option maxRecDepth 4000 in
theorem vj_X13_memberHead_72 {nn : Nat} (hn : 1000000 ≤ nn) {qkk_35 : Int → Int → Int → Int → ms_M → Option ms_M} {K_kk_35 : Int} (hk_kk_35 : ∀ {l1 : Int} {l2 : Int} {l3 : Int} {l4 : Int} {h : ms_M} (a_l1 : 0 ≤ l1) (b_l1 : l1 ≤ 799) (a_l2 : 0 ≤ l2) (b_l2 : l2 ≤ 800) (a_l3 : 0 ≤ l3) (b_l3 : l3 ≤ 65535) (a_l4 : 0 ≤ l4) (b_l4 : l4 ≤ 799) (V_h : VS_ h) (x_0 : l2 ≤ l4 ∧ l4 ≤ l1) (N_h : HW_ h) (_ : 800 - l4 < K_kk_35), Ok_ (qkk_35 l1 l2 l3 l4 h) QV_) {l1 : Int} {l2 : Int} {l3 : Int} {l4 : Int} {s0 : Int} {h : ms_M} (a_l1 : 0 ≤ l1) (b_l1 : l1 ≤ 799) (a_l2 : 0 ≤ l2) (b_l2 : l2 ≤ 799) (a_l3 : 0 ≤ l3) (b_l3 : l3 ≤ 65535) (a_l4 : 0 ≤ l4) (b_l4 : l4 ≤ 798) (a_s0 : 0 ≤ s0) (b_s0 : s0 ≤ 1) (V_h : VS_ h) (x_0 : l2 ≤ l4 ∧ l4 < l1) (N_h : HW_ h) (hm_kk_35 : 800 - l4 + 0 ≤ K_kk_35) : Ok_ (qj_X13_memberHead_72 nn qkk_35 l1 l2 l3 l4 s0 h) QV_ := by
  unfold qj_X13_memberHead_72
  refine ok_rd (by omega) (gA_182 V_h) ?_; intro v56 e_v56 a_v56 b_v56
  refine ok_if ?_ ?_
  · intro C0
    exact vj_X13_memberHead_86 hn hk_kk_35 (by omega) (by omega) (by omega) (by omega) (by omega) (by omega) (by omega) (by omega) (by omega) (by omega) (by omega) (by omega) V_h (by omega) N_h (by omega)
  · intro C0
    exact vj_X13_memberHead_86 hn hk_kk_35 (by omega) (by omega) (by omega) (by omega) (by omega) (by omega) (by omega) (by omega) (by omega) (by omega) (by omega) (by omega) V_h (by omega) N_h (by omega)
set_option maxRecDepth 4000 in
theorem vw_X13_memberHead_35 {nn : Nat} (hn : 1000000 ≤ nn) : ∀ (k : Nat) {l1 : Int} {l2 : Int} {l3 : Int} {l4 : Int} {h : ms_M} (a_l1 : 0 ≤ l1) (b_l1 : l1 ≤ 799) (a_l2 : 0 ≤ l2) (b_l2 : l2 ≤ 800) (a_l3 : 0 ≤ l3) (b_l3 : l3 ≤ 65535) (a_l4 : 0 ≤ l4) (b_l4 : l4 ≤ 799) (V_h : VS_ h) (x_0 : l2 ≤ l4 ∧ l4 ≤ l1) (N_h : HW_ h)  (hm : 800 - l4 < (k : Int)), Ok_ (qw_X13_memberHead_35 nn k l1 l2 l3 l4 h) QV_ := by
  intro k
  induction k with
  | zero => intros; exfalso; omega
  | succ k ih =>
    intro l1 l2 l3 l4 h a_l1 b_l1 a_l2 b_l2 a_l3 b_l3 a_l4 b_l4 V_h x_0 N_h hm
    unfold qw_X13_memberHead_35
    refine ok_if ?_ ?_
    · intro C0
      refine ok_if ?_ ?_
      · intro C1
        exact vj_X13_memberHead_139 hn (by omega) (by omega) (by omega) (by omega) V_h N_h
      · intro C1
        refine ok_rd (by omega) (gA_186 V_h) ?_; intro v59 e_v59 a_v59 b_v59
        refine ok_cVR (vf_X13_wrong hn (by omega) (by omega) (by omega) (by omega) V_h) ?_; intro u61 E_u61 V_u61 R_u61
        have N_u61 : HW_ u61 := hw_fr V_h N_h (fun c k z => (ff_X13_wrong nn) _ E_u61 c k z) rfl
        exact vj_X13_memberHead_139 hn (by omega) (by omega) (by omega) (by omega) V_u61 N_u61
    · intro C0
      refine ok_rd (by omega) (gA_181 V_h) ?_; intro v64 e_v64 a_v64 b_v64
      refine ok_rd (by omega) (gA_181 V_h) ?_; intro v66 e_v66 a_v66 b_v66
      refine ok_if ?_ ?_
      · intro C2
        refine ok_add (by omega) ?_; intro v67 e_v67
        exact ih (by omega) (by omega) (by omega) (by omega) (by omega) (by omega) (by omega) (by omega) V_h (by omega) N_h (by omega)
      · intro C2
        refine ok_rd (by omega) (gA_182 V_h) ?_; intro v69 e_v69 a_v69 b_v69
        refine ok_if ?_ ?_
        · intro C3
          exact vj_X13_memberHead_72 hn ih (by omega) (by omega) (by omega) (by omega) (by omega) (by omega) (by omega) (by omega) (by omega) (by omega) V_h (by omega) N_h (by omega)
        · intro C3
          exact vj_X13_memberHead_72 hn ih (by omega) (by omega) (by omega) (by omega) (by omega) (by omega) (by omega) (by omega) (by omega) (by omega) V_h (by omega) N_h (by omega)
set_option maxRecDepth 4000 in
theorem vf_X13_memberHead {nn : Nat} (hn : 1000000 ≤ nn) {a1 : Int} {h : ms_M} (a_a1 : 0 ≤ a1) (b_a1 : a1 ≤ 799) (V_h : VS_ h) (N_h : HW_ h)  : Ok_ (qf_X13_memberHead nn a1 h) QV_ := by
  unfold qf_X13_memberHead
  refine ok_rd (by omega) (gA_183 V_h) ?_; intro v75 e_v75 a_v75 b_v75
  refine ok_rd (by omega) (gA_184 V_h) ?_; intro v77 e_v77 a_v77 b_v77
  refine ok_rd (by omega) (gA_185 V_h) ?_; intro v79 e_v79 a_v79 b_v79
  refine ok_cIR (vf_X13_typeOf hn (by omega) (by omega) (by omega) (by omega) (by omega) (by omega) V_h N_h) ?_; intro u81 E_u81 V_u81 a_u81 b_u81 R_u81
  have N_u81_2 : HW_ u81.2 := hw_fr V_h N_h (fun c k z => (ff_X13_typeOf nn) _ E_u81 c k z) rfl
  refine ok_wA (by omega) ?_; intro h82 E_h82; have V_h82 : VS_ h82 := by rw [E_h82]; exact wA_187 V_u81 (by omega)
  have N_h82 : HW_ h82 := by rw [E_h82]; exact hw_ua V_u81 N_u81_2 rfl
  exact vw_X13_memberHead_35 hn _ (by omega) (by omega) (by omega) (by omega) (by omega) (by omega) (by omega) (by omega) V_h82 (by omega) N_h82 (by omega)
set_option maxRecDepth 4000 in
theorem vf_X13_spell {nn : Nat} (hn : 1000000 ≤ nn) {a1 : Int} {h : ms_M} (a_a1 : 0 ≤ a1) (b_a1 : a1 ≤ 255) (V_h : VS_ h) (x_0 : h 160 66 ≤ 199)  : Ok_ (qf_X13_spell nn a1 h) (QVR_ (fun r => (r 160 66 = h 160 66 + 1))) := by
  unfold qf_X13_spell
  have T1 := gF_160_66 V_h
  refine ok_wA (by omega) ?_; intro h3 E_h3; have V_h3 : VS_ h3 := by rw [E_h3]; exact wA_205 V_h (by omega)
  have T2 : h3 160 66 = h 160 66 := by rw [E_h3]; exact up_n (fun z => absurd z.1 (by decide))
  refine ok_add (by omega) ?_; intro v5 e_v5
  refine ok_xl ?_; intro h6 E_h6; have V_h6 : VS_ h6 := by rw [E_h6]; exact wF_160_66 V_h3 (by omega)
  have T3 : h6 160 66 = v5 := by rw [E_h6]; exact up_s
  exact ok_rVR V_h6 (by omega)
set_option maxRecDepth 4000 in
theorem vj_X13_put_24 {nn : Nat} (hn : 1000000 ≤ nn) {h : ms_M} (V_h : VS_ h) (x_0 : h 160 68 ≤ 900000000)  : Ok_ (qj_X13_put_24 nn h) (QVR_ (fun r => (r 160 68 = h 160 68 + 1))) := by
  unfold qj_X13_put_24
  have T1 := gF_160_68 V_h
  refine ok_add (by omega) ?_; intro v2 e_v2
  refine ok_xl ?_; intro h3 E_h3; have V_h3 : VS_ h3 := by rw [E_h3]; exact wF_160_68 V_h (by omega)
  have T2 : h3 160 68 = v2 := by rw [E_h3]; exact up_s
  exact ok_rVR V_h3 (by omega)
set_option maxRecDepth 4000 in
theorem vf_X13_put {nn : Nat} (hn : 1000000 ≤ nn) {a1 : Int} {h : ms_M} (a_a1 : (-2147483645) ≤ a1) (b_a1 : a1 ≤ 3001) (V_h : VS_ h) (x_0 : h 160 68 ≤ 900000000)  : Ok_ (qf_X13_put nn a1 h) (QVR_ (fun r => (r 160 68 = h 160 68 + 1))) := by
  unfold qf_X13_put
  have T1 := gF_160_68 V_h
  refine ok_if ?_ ?_
  · intro C1
    exact ok_mV (vj_X13_put_24 hn V_h (by omega)) (fun _ V_r R_r => by have := gF_160_68 V_r; omega)
  · intro C1
    refine ok_and (by omega) ?_; intro v7 a_v7 b_v7
    refine ok_wA (by omega) ?_; intro h8 E_h8; have V_h8 : VS_ h8 := by rw [E_h8]; exact wA_206 V_h (by omega)
    have T3 : h8 160 68 = h 160 68 := by rw [E_h8]; exact up_n (fun z => absurd z.1 (by decide))
    exact ok_mV (vj_X13_put_24 hn V_h8 (by omega)) (fun _ V_r R_r => by have := gF_160_68 V_r; omega)
set_option maxRecDepth 4000 in
theorem vf_X13_jump {nn : Nat} (hn : 1000000 ≤ nn) {a1 : Int} {a2 : Int} {h : ms_M} (a_a1 : 153 ≤ a1) (b_a1 : a1 ≤ 167) (a_a2 : 0 ≤ a2) (b_a2 : a2 ≤ 2147483647) (V_h : VS_ h) (x_0 : h 160 68 ≤ 800000000) (x_1 : h 160 87 ≤ 2999)  : Ok_ (qf_X13_jump nn a1 a2 h) (QVR_ (fun r => (r 160 68 = h 160 68 + 3) ∧ (r 160 87 = h 160 87 + 1))) := by
  unfold qf_X13_jump
  have T1 := gF_160_68 V_h
  have T2 := gF_160_87 V_h
  refine ok_wA (by omega) ?_; intro h4 E_h4; have V_h4 : VS_ h4 := by rw [E_h4]; exact wA_217 V_h (by omega)
  have T3 : h4 160 68 = h 160 68 := by rw [E_h4]; exact up_n (fun z => absurd z.1 (by decide))
  have T4 : h4 160 87 = h 160 87 := by rw [E_h4]; exact up_n (fun z => absurd z.1 (by decide))
  refine ok_wA (by omega) ?_; intro h7 E_h7; have V_h7 : VS_ h7 := by rw [E_h7]; exact wA_218 V_h4 (by omega)
  have T5 : h7 160 68 = h4 160 68 := by rw [E_h7]; exact up_n (fun z => absurd z.1 (by decide))
  have T6 : h7 160 87 = h4 160 87 := by rw [E_h7]; exact up_n (fun z => absurd z.1 (by decide))
  refine ok_add (by omega) ?_; intro v9 e_v9
  refine ok_xl ?_; intro h10 E_h10; have V_h10 : VS_ h10 := by rw [E_h10]; exact wF_160_87 V_h7 (by omega)
  have T7 : h10 160 68 = h7 160 68 := by rw [E_h10]; exact up_n (by decide)
  have T8 : h10 160 87 = v9 := by rw [E_h10]; exact up_s
  refine ok_cVR (vf_X13_put hn (by omega) (by omega) V_h10 (by omega)) ?_; intro u12 E_u12 V_u12 R_u12
  have T9 : u12 160 87 = h10 160 87 := (ff_X13_put nn) _ E_u12 160 87 rfl
  have T10 := gF_160_68 V_u12
  refine ok_cVR (vf_X13_put hn (by omega) (by omega) V_u12 (by omega)) ?_; intro u14 E_u14 V_u14 R_u14
  have T11 : u14 160 87 = u12 160 87 := (ff_X13_put nn) _ E_u14 160 87 rfl
  have T12 := gF_160_68 V_u14
  refine ok_cVR (vf_X13_put hn (by omega) (by omega) V_u14 (by omega)) ?_; intro u16 E_u16 V_u16 R_u16
  have T13 : u16 160 87 = u14 160 87 := (ff_X13_put nn) _ E_u16 160 87 rfl
  have T14 := gF_160_68 V_u16
  exact ok_rVR V_u16 (by omega)
set_option maxRecDepth 4000 in
theorem vf_X13_label {nn : Nat} (hn : 1000000 ≤ nn) {h : ms_M} (V_h : VS_ h) (x_0 : h 160 88 ≤ 2000000000)  : Ok_ (qf_X13_label nn h) (QIR_ (-2147483648) 2147483647 (fun u r => (r 160 88 = h 160 88 + 1))) := by
  unfold qf_X13_label
  have T1 := gF_160_88 V_h
  refine ok_addW (by omega) ?_; intro v2 a_v2 b_v2 w_v2
  refine ok_xl ?_; intro h3 E_h3; have V_h3 : VS_ h3 := by rw [E_h3]; exact wF_160_88 V_h (by omega)
  have T2 : h3 160 88 = v2 := by rw [E_h3]; exact up_s
  exact ok_rIR V_h3 (by omega) (by omega) (by omega)
set_option maxRecDepth 4000 in
theorem vf_X13_operation {nn : Nat} (hn : 1000000 ≤ nn) {a0 : Int} {h : ms_M} (a_a0 : (-2147483648) ≤ a0) (b_a0 : a0 ≤ 2147483647) (V_h : VS_ h)  : Ok_ (qf_X13_operation nn a0 h) (QP_ 96 130) := by
  unfold qf_X13_operation
  refine ok_if ?_ ?_
  · intro C0
    refine ok_if ?_ ?_
    · intro C1
      refine ok_if ?_ ?_
      · intro C2
        refine ok_if ?_ ?_
        · intro C3
          refine ok_if ?_ ?_
          · intro C4
            refine ok_if ?_ ?_
            · intro C5
              refine ok_if ?_ ?_
              · intro C6
                refine ok_if ?_ ?_
                · intro C7
                  refine ok_cP (vf_X13_sign hn (by omega) (by omega) (by omega) (by omega) (by omega) (by omega) V_h) ?_; intro u1 e_u1 a_u1 b_u1
                  refine ok_if ?_ ?_
                  · intro C8
                    refine ok_cP (vf_X13_sign hn (by omega) (by omega) (by omega) (by omega) (by omega) (by omega) V_h) ?_; intro u2 e_u2 a_u2 b_u2
                    refine ok_if ?_ ?_
                    · intro C9
                      exact ok_rP (by omega) (by omega)
                    · intro C9
                      exact ok_rP (by omega) (by omega)
                  · intro C8
                    exact ok_rP (by omega) (by omega)
                · intro C7
                  exact ok_rP (by omega) (by omega)
              · intro C6
                exact ok_rP (by omega) (by omega)
            · intro C5
              exact ok_rP (by omega) (by omega)
          · intro C4
            exact ok_rP (by omega) (by omega)
        · intro C3
          exact ok_rP (by omega) (by omega)
      · intro C2
        exact ok_rP (by omega) (by omega)
    · intro C1
      exact ok_rP (by omega) (by omega)
  · intro C0
    exact ok_rP (by omega) (by omega)
set_option maxRecDepth 4000 in
theorem vj_X13_tell_26 {nn : Nat} (hn : 1000000 ≤ nn) {h : ms_M} (V_h : VS_ h) (x_0 : h 160 97 ≤ 900000000)  : Ok_ (qj_X13_tell_26 nn h) (QVR_ (fun r => (r 160 97 = h 160 97 + 1))) := by
  unfold qj_X13_tell_26
  have T1 := gF_160_97 V_h
  refine ok_add (by omega) ?_; intro v2 e_v2
  refine ok_xl ?_; intro h3 E_h3; have V_h3 : VS_ h3 := by rw [E_h3]; exact wF_160_97 V_h (by omega)
  have T2 : h3 160 97 = v2 := by rw [E_h3]; exact up_s
  exact ok_rVR V_h3 (by omega)
set_option maxRecDepth 4000 in
theorem vf_X13_tell {nn : Nat} (hn : 1000000 ≤ nn) {a1 : Int} {h : ms_M} (a_a1 : (-2147483648) ≤ a1) (b_a1 : a1 ≤ 2147483647) (V_h : VS_ h) (x_0 : h 160 97 ≤ 900000000)  : Ok_ (qf_X13_tell nn a1 h) (QVR_ (fun r => (r 160 97 = h 160 97 + 1))) := by
  unfold qf_X13_tell
  have T1 := gF_160_97 V_h
  refine ok_if ?_ ?_
  · intro C1
    exact ok_mV (vj_X13_tell_26 hn V_h (by omega)) (fun _ V_r R_r => by have := gF_160_97 V_r; omega)
  · intro C1
    refine ok_and (by omega) ?_; intro v9 a_v9 b_v9
    refine ok_wA (by omega) ?_; intro h10 E_h10; have V_h10 : VS_ h10 := by rw [E_h10]; exact wA_225 V_h (by omega)
    have T3 : h10 160 97 = h 160 97 := by rw [E_h10]; exact up_n (fun z => absurd z.1 (by decide))
    exact ok_mV (vj_X13_tell_26 hn V_h10 (by omega)) (fun _ V_r R_r => by have := gF_160_97 V_r; omega)
set_option maxRecDepth 4000 in
theorem vf_X13_tellPair {nn : Nat} (hn : 1000000 ≤ nn) {a1 : Int} {h : ms_M} (a_a1 : 0 ≤ a1) (b_a1 : a1 ≤ 1000000000) (V_h : VS_ h) (x_0 : h 160 97 ≤ 890000000)  : Ok_ (qf_X13_tellPair nn a1 h) (QVR_ (fun r => (r 160 97 = h 160 97 + 2))) := by
  unfold qf_X13_tellPair
  have T1 := gF_160_97 V_h
  refine ok_i32 ?_; intro v1 a_v1 b_v1
  refine ok_cVR (vf_X13_tell hn (by omega) (by omega) V_h (by omega)) ?_; intro u3 E_u3 V_u3 R_u3
  have T2 := gF_160_97 V_u3
  refine ok_cVR (vf_X13_tell hn (by omega) (by omega) V_u3 (by omega)) ?_; intro u5 E_u5 V_u5 R_u5
  have T3 := gF_160_97 V_u5
  exact ok_rVR V_u5 (by omega)
set_option maxRecDepth 4000 in
theorem vf_X13_isSign {nn : Nat} (hn : 1000000 ≤ nn) {a1 : Int} {a2 : Int} {h : ms_M} (a_a1 : 0 ≤ a1) (b_a1 : a1 ≤ 3001) (a_a2 : 33 ≤ a2) (b_a2 : a2 ≤ 126) (V_h : VS_ h)  : Ok_ (qf_X13_isSign nn a1 a2 h) (QP_ 0 1) := by
  unfold qf_X13_isSign
  refine ok_rd (by omega) (gA_163 V_h) ?_; intro v2 e_v2 a_v2 b_v2
  refine ok_if ?_ ?_
  · intro C0
    exact ok_rP (by omega) (by omega)
  · intro C0
    refine ok_rd (by omega) (gA_166 V_h) ?_; intro v4 e_v4 a_v4 b_v4
    refine ok_if ?_ ?_
    · intro C1
      exact ok_rP (by omega) (by omega)
    · intro C1
      exact ok_rP (by omega) (by omega)
set_option maxRecDepth 4000 in
theorem vf_X13_add {nn : Nat} (hn : 1000000 ≤ nn) {a1 : Int} {a2 : Int} {a3 : Int} {h : ms_M} (a_a1 : 1 ≤ a1) (b_a1 : a1 ≤ 39) (a_a2 : 0 ≤ a2) (b_a2 : a2 ≤ 3000) (a_a3 : 0 ≤ a3) (b_a3 : a3 ≤ 3000) (V_h : VS_ h) (x_0 : h 160 22 ≤ 8999)  : Ok_ (qf_X13_add nn a1 a2 a3 h) (QIR_ 0 8999 (fun u r => (u = h 160 22) ∧ (r 160 22 = h 160 22 + 1))) := by
  unfold qf_X13_add
  have T1 := gF_160_22 V_h
  refine ok_wA (by omega) ?_; intro h3 E_h3; have V_h3 : VS_ h3 := by rw [E_h3]; exact wA_167 V_h (by omega)
  have T2 : h3 160 22 = h 160 22 := by rw [E_h3]; exact up_n (fun z => absurd z.1 (by decide))
  refine ok_wA (by omega) ?_; intro h6 E_h6; have V_h6 : VS_ h6 := by rw [E_h6]; exact wA_168 V_h3 (by omega)
  have T3 : h6 160 22 = h3 160 22 := by rw [E_h6]; exact up_n (fun z => absurd z.1 (by decide))
  refine ok_wA (by omega) ?_; intro h9 E_h9; have V_h9 : VS_ h9 := by rw [E_h9]; exact wA_169 V_h6 (by omega)
  have T4 : h9 160 22 = h6 160 22 := by rw [E_h9]; exact up_n (fun z => absurd z.1 (by decide))
  refine ok_wA (by omega) ?_; intro h12 E_h12; have V_h12 : VS_ h12 := by rw [E_h12]; exact wA_170 V_h9 (by omega)
  have T5 : h12 160 22 = h9 160 22 := by rw [E_h12]; exact up_n (fun z => absurd z.1 (by decide))
  refine ok_wA (by omega) ?_; intro h15 E_h15; have V_h15 : VS_ h15 := by rw [E_h15]; exact wA_171 V_h12 (by omega)
  have T6 : h15 160 22 = h12 160 22 := by rw [E_h15]; exact up_n (fun z => absurd z.1 (by decide))
  refine ok_wA (by omega) ?_; intro h18 E_h18; have V_h18 : VS_ h18 := by rw [E_h18]; exact wA_172 V_h15 (by omega)
  have T7 : h18 160 22 = h15 160 22 := by rw [E_h18]; exact up_n (fun z => absurd z.1 (by decide))
  refine ok_wA (by omega) ?_; intro h21 E_h21; have V_h21 : VS_ h21 := by rw [E_h21]; exact wA_173 V_h18 (by omega)
  have T8 : h21 160 22 = h18 160 22 := by rw [E_h21]; exact up_n (fun z => absurd z.1 (by decide))
  refine ok_wA (by omega) ?_; intro h24 E_h24; have V_h24 : VS_ h24 := by rw [E_h24]; exact wA_174 V_h21 (by omega)
  have T9 : h24 160 22 = h21 160 22 := by rw [E_h24]; exact up_n (fun z => absurd z.1 (by decide))
  refine ok_wA (by omega) ?_; intro h27 E_h27; have V_h27 : VS_ h27 := by rw [E_h27]; exact wA_175 V_h24 (by omega)
  have T10 : h27 160 22 = h24 160 22 := by rw [E_h27]; exact up_n (fun z => absurd z.1 (by decide))
  refine ok_wA (by omega) ?_; intro h30 E_h30; have V_h30 : VS_ h30 := by rw [E_h30]; exact wA_176 V_h27 (by omega)
  have T11 : h30 160 22 = h27 160 22 := by rw [E_h30]; exact up_n (fun z => absurd z.1 (by decide))
  refine ok_wZ (by omega) (by omega) ?_; intro h33 E_h33; have V_h33 : VS_ h33 := by rw [E_h33]; exact wA_177 V_h30 (by omega)
  have T12 : h33 160 22 = h30 160 22 := by rw [E_h33]; exact up_n (fun z => absurd z.1 (by decide))
  refine ok_add (by omega) ?_; intro v35 e_v35
  refine ok_xl ?_; intro h36 E_h36; have V_h36 : VS_ h36 := by rw [E_h36]; exact wF_160_22 V_h33 (by omega)
  have T13 : h36 160 22 = v35 := by rw [E_h36]; exact up_s
  refine ok_sub (by omega) ?_; intro v38 e_v38
  exact ok_rIR V_h36 (by omega) (by omega) (by omega)
set_option maxRecDepth 4000 in
theorem vj_X13_misplaced_20 {nn : Nat} (hn : 1000000 ≤ nn) {s0 : Int} {h : ms_M} (a_s0 : 1 ≤ s0) (b_s0 : s0 ≤ 2) (V_h : VS_ h) (x_0 : h 160 23 + 1 ≤ h 160 8) (N_h : EK_ h)  : Ok_ (qj_X13_misplaced_20 nn s0 h) (QVR_ (fun r => (¬ r 160 9 = 0))) := by
  unfold qj_X13_misplaced_20
  have T1 := gF_160_8 V_h
  have T2 := gF_160_9 V_h
  have T3 := gF_160_23 V_h
  refine ok_cVR (vf_X13_wrong hn (by omega) (by omega) (by omega) (by omega) V_h) ?_; intro u3 E_u3 V_u3 R_u3
  have N_u3 : EK_ u3 := ek_fr V_h N_h (fun c k z => (ff_X13_wrong nn) _ E_u3 c k z) rfl
  have T4 : u3 160 8 = h 160 8 := (ff_X13_wrong nn) _ E_u3 160 8 rfl
  have T5 : u3 160 23 = h 160 23 := (ff_X13_wrong nn) _ E_u3 160 23 rfl
  have T6 := gF_160_9 V_u3
  exact ok_rVR V_u3 (by omega)
set_option maxRecDepth 4000 in
theorem vf_X13_misplaced {nn : Nat} (hn : 1000000 ≤ nn) {h : ms_M} (V_h : VS_ h) (x_0 : h 160 23 + 1 ≤ h 160 8) (N_h : EK_ h)  : Ok_ (qf_X13_misplaced nn h) (QVR_ (fun r => (¬ r 160 9 = 0))) := by
  unfold qf_X13_misplaced
  have T1 := gF_160_8 V_h
  have T2 := gF_160_9 V_h
  have T3 := gF_160_23 V_h
  refine ok_rd (by omega) (gA_163 V_h) ?_; intro v6 e_v6 a_v6 b_v6
  have T4 := ek_rd N_h (by omega) e_v6
  refine ok_if ?_ ?_
  · intro C4
    exact ok_mV (vj_X13_misplaced_20 hn (by omega) (by omega) V_h (by omega) N_h) (fun _ V_r R_r => by have := gF_160_8 V_r; have := gF_160_9 V_r; have := gF_160_23 V_r; omega)
  · intro C4
    exact ok_mV (vj_X13_misplaced_20 hn (by omega) (by omega) V_h (by omega) N_h) (fun _ V_r R_r => by have := gF_160_8 V_r; have := gF_160_9 V_r; have := gF_160_23 V_r; omega)
set_option maxRecDepth 4000 in
theorem vf_X13_sign_ {nn : Nat} (hn : 1000000 ≤ nn) {a1 : Int} {h : ms_M} (a_a1 : 40 ≤ a1) (b_a1 : a1 ≤ 125) (V_h : VS_ h) (x_0 : h 160 23 + 1 ≤ h 160 8) (N_h : EK_ h)  : Ok_ (qf_X13_sign_ nn a1 h) (QVR_ (fun r => ((h 160 9 = 0 ∧ r 160 9 = 0 ∧ r 160 23 = h 160 23 + 1 ∧ r 160 23 + 1 ≤ h 160 8) ∨ (¬ r 160 9 = 0 ∧ r 160 23 = h 160 23)))) := by
  unfold qf_X13_sign_
  have T1 := gF_160_8 V_h
  have T2 := gF_160_9 V_h
  have T3 := gF_160_23 V_h
  refine ok_if ?_ ?_
  · intro C3
    refine ok_cP (vf_X13_isSign hn (by omega) (by omega) (by omega) (by omega) V_h) ?_; intro u4 e_u4 a_u4 b_u4
    have T5 := lm_ek_isSign N_h (by omega) e_u4
    refine ok_if ?_ ?_
    · intro C5
      refine ok_cVR (vf_X13_misplaced hn V_h (by omega) N_h) ?_; intro u6 E_u6 V_u6 R_u6
      have N_u6 : EK_ u6 := ek_fr V_h N_h (fun c k z => (ff_X13_misplaced nn) _ E_u6 c k z) rfl
      have T7 : u6 160 8 = h 160 8 := (ff_X13_misplaced nn) _ E_u6 160 8 rfl
      have T8 : u6 160 23 = h 160 23 := (ff_X13_misplaced nn) _ E_u6 160 23 rfl
      have T9 := gF_160_9 V_u6
      exact ok_rVR V_u6 (by omega)
    · intro C5
      refine ok_add (by omega) ?_; intro v8 e_v8
      refine ok_xl ?_; intro h9 E_h9; have V_h9 : VS_ h9 := by rw [E_h9]; exact wF_160_23 V_h (by omega)
      have N_h9 : EK_ h9 := by rw [E_h9]; exact ek_up V_h N_h rfl
      have T10 : h9 160 8 = h 160 8 := by rw [E_h9]; exact up_n (by decide)
      have T11 : h9 160 9 = h 160 9 := by rw [E_h9]; exact up_n (by decide)
      have T12 : h9 160 23 = v8 := by rw [E_h9]; exact up_s
      exact ok_rVR V_h9 (by omega)
  · intro C3
    exact ok_rVR V_h (by omega)
set_option maxRecDepth 4000 in
theorem vj_X13_isDeep_37 {nn : Nat} (hn : 1000000 ≤ nn) {s0 : Int} {h : ms_M} (a_s0 : 1 ≤ s0) (b_s0 : s0 ≤ 3) (V_h : VS_ h) (x_0 : h 160 23 + 1 ≤ h 160 8) (N_h : EK_ h)  : Ok_ (qj_X13_isDeep_37 nn s0 h) (QIR_ 0 1 (fun u r => (r 160 23 = h 160 23) ∧ (u = 1 ∧ ¬ r 160 9 = 0))) := by
  unfold qj_X13_isDeep_37
  have T1 := gF_160_8 V_h
  have T2 := gF_160_9 V_h
  have T3 := gF_160_23 V_h
  refine ok_cVR (vf_X13_wrong hn (by omega) (by omega) (by omega) (by omega) V_h) ?_; intro u3 E_u3 V_u3 R_u3
  have N_u3 : EK_ u3 := ek_fr V_h N_h (fun c k z => (ff_X13_wrong nn) _ E_u3 c k z) rfl
  have T4 : u3 160 8 = h 160 8 := (ff_X13_wrong nn) _ E_u3 160 8 rfl
  have T5 : u3 160 23 = h 160 23 := (ff_X13_wrong nn) _ E_u3 160 23 rfl
  have T6 := gF_160_9 V_u3
  exact ok_rIR V_u3 (by omega) (by omega) (by omega)
set_option maxRecDepth 4000 in
theorem vf_X13_isDeep {nn : Nat} (hn : 1000000 ≤ nn) {a1 : Int} {h : ms_M} (a_a1 : 0 ≤ a1) (b_a1 : a1 ≤ 41) (V_h : VS_ h) (x_0 : h 160 23 + 1 ≤ h 160 8) (N_h : EK_ h)  : Ok_ (qf_X13_isDeep nn a1 h) (QIR_ 0 1 (fun u r => (r 160 23 = h 160 23) ∧ ((u = 0 ∧ h 160 9 = 0 ∧ r 160 9 = 0 ∧ a1 ≤ 39) ∨ (u = 1 ∧ ¬ r 160 9 = 0)))) := by
  unfold qf_X13_isDeep
  have T1 := gF_160_8 V_h
  have T2 := gF_160_9 V_h
  have T3 := gF_160_23 V_h
  refine ok_if ?_ ?_
  · intro C3
    refine ok_if ?_ ?_
    · intro C4
      refine ok_rd (by omega) (gA_163 V_h) ?_; intro v7 e_v7 a_v7 b_v7
      have T6 := ek_rd N_h (by omega) e_v7
      refine ok_if ?_ ?_
      · intro C6
        exact ok_mI (vj_X13_isDeep_37 hn (by omega) (by omega) V_h (by omega) N_h) (fun _ _ V_r R_r => by have := gF_160_8 V_r; have := gF_160_9 V_r; have := gF_160_23 V_r; omega)
      · intro C6
        exact ok_mI (vj_X13_isDeep_37 hn (by omega) (by omega) V_h (by omega) N_h) (fun _ _ V_r R_r => by have := gF_160_8 V_r; have := gF_160_9 V_r; have := gF_160_23 V_r; omega)
    · intro C4
      exact ok_rIR V_h (by omega) (by omega) (by omega)
  · intro C3
    exact ok_rIR V_h (by omega) (by omega) (by omega)
set_option maxRecDepth 4000 in
theorem vf_X13_name {nn : Nat} (hn : 1000000 ≤ nn) {h : ms_M} (V_h : VS_ h) (x_0 : h 160 23 + 1 ≤ h 160 8) (N_h : EK_ h)  : Ok_ (qf_X13_name nn h) (QIR_ 0 3000 (fun u r => ((h 160 9 = 0 ∧ r 160 9 = 0 ∧ r 160 23 = h 160 23 + 1 ∧ r 160 23 + 1 ≤ h 160 8) ∨ (¬ r 160 9 = 0 ∧ r 160 23 = h 160 23)))) := by
  unfold qf_X13_name
  have T1 := gF_160_8 V_h
  have T2 := gF_160_9 V_h
  have T3 := gF_160_23 V_h
  refine ok_if ?_ ?_
  · intro C3
    refine ok_rd (by omega) (gA_163 V_h) ?_; intro v4 e_v4 a_v4 b_v4
    have T5 := ek_rd N_h (by omega) e_v4
    refine ok_if ?_ ?_
    · intro C5
      refine ok_add (by omega) ?_; intro v6 e_v6
      refine ok_xl ?_; intro h7 E_h7; have V_h7 : VS_ h7 := by rw [E_h7]; exact wF_160_23 V_h (by omega)
      have N_h7 : EK_ h7 := by rw [E_h7]; exact ek_up V_h N_h rfl
      have T7 : h7 160 8 = h 160 8 := by rw [E_h7]; exact up_n (by decide)
      have T8 : h7 160 9 = h 160 9 := by rw [E_h7]; exact up_n (by decide)
      have T9 : h7 160 23 = v6 := by rw [E_h7]; exact up_s
      refine ok_sub (by omega) ?_; intro v9 e_v9
      exact ok_rIR V_h7 (by omega) (by omega) (by omega)
    · intro C5
      refine ok_cVR (vf_X13_misplaced hn V_h (by omega) N_h) ?_; intro u11 E_u11 V_u11 R_u11
      have N_u11 : EK_ u11 := ek_fr V_h N_h (fun c k z => (ff_X13_misplaced nn) _ E_u11 c k z) rfl
      have T10 : u11 160 8 = h 160 8 := (ff_X13_misplaced nn) _ E_u11 160 8 rfl
      have T11 : u11 160 23 = h 160 23 := (ff_X13_misplaced nn) _ E_u11 160 23 rfl
      have T12 := gF_160_9 V_u11
      exact ok_rIR V_u11 (by omega) (by omega) (by omega)
  · intro C3
    exact ok_rIR V_h (by omega) (by omega) (by omega)
set_option maxRecDepth 4000 in
theorem vj_X13_isCast_154 {nn : Nat} (hn : 1000000 ≤ nn) {h : ms_M} (V_h : VS_ h) (x_0 : h 160 23 + 1 ≤ h 160 8) (N_h : EK_ h)  : Ok_ (qj_X13_isCast_154 nn h) (QP_ 0 1) := by
  unfold qj_X13_isCast_154
  have T1 := gF_160_23 V_h
  have T2 := gF_160_8 V_h
  exact ok_rP (by omega) (by omega)
set_option maxRecDepth 4000 in
theorem vf_X13_isCast {nn : Nat} (hn : 1000000 ≤ nn) {h : ms_M} (V_h : VS_ h) (x_0 : h 160 23 + 1 ≤ h 160 8) (N_h : EK_ h)  : Ok_ (qf_X13_isCast nn h) (QP_ 0 1) := by
  unfold qf_X13_isCast
  have T1 := gF_160_23 V_h
  have T2 := gF_160_8 V_h
  refine ok_cP (vf_X13_isSign hn (by omega) (by omega) (by omega) (by omega) V_h) ?_; intro u3 e_u3 a_u3 b_u3
  have T3 := lm_ek_isSign N_h (by omega) e_u3
  refine ok_if ?_ ?_
  · intro C3
    exact ok_rP (by omega) (by omega)
  · intro C3
    refine ok_add (by omega) ?_; intro v6 e_v6
    refine ok_rd (by omega) (gA_163 V_h) ?_; intro v7 e_v7 a_v7 b_v7
    have T5 := ek_rd N_h (by omega) e_v7
    refine ok_if ?_ ?_
    · intro C5
      exact ok_rP (by omega) (by omega)
    · intro C5
      refine ok_add (by omega) ?_; intro v9 e_v9
      refine ok_cP (vf_X13_isSign hn (by omega) (by omega) (by omega) (by omega) V_h) ?_; intro u11 e_u11 a_u11 b_u11
      have T7 := lm_ek_isSign N_h (by omega) e_u11
      refine ok_if ?_ ?_
      · intro C7
        refine ok_add (by omega) ?_; intro v13 e_v13
        refine ok_rd (by omega) (gA_163 V_h) ?_; intro v15 e_v15 a_v15 b_v15
        have T9 := ek_rd N_h (by omega) e_v15
        refine ok_if ?_ ?_
        · intro C9
          exact ok_rP (by omega) (by omega)
        · intro C9
          refine ok_rd (by omega) (gA_163 V_h) ?_; intro v17 e_v17 a_v17 b_v17
          have T11 := ek_rd N_h (by omega) e_v17
          refine ok_if ?_ ?_
          · intro C11
            refine ok_cP (vf_X13_isSign hn (by omega) (by omega) (by omega) (by omega) V_h) ?_; intro u19 e_u19 a_u19 b_u19
            have T13 := lm_ek_isSign N_h (by omega) e_u19
            refine ok_if ?_ ?_
            · intro C13
              exact vj_X13_isCast_154 hn V_h (by omega) N_h
            · intro C13
              refine ok_cP (vf_X13_isSign hn (by omega) (by omega) (by omega) (by omega) V_h) ?_; intro u21 e_u21 a_u21 b_u21
              have T15 := lm_ek_isSign N_h (by omega) e_u21
              refine ok_if ?_ ?_
              · intro C15
                exact vj_X13_isCast_154 hn V_h (by omega) N_h
              · intro C15
                refine ok_cP (vf_X13_isSign hn (by omega) (by omega) (by omega) (by omega) V_h) ?_; intro u23 e_u23 a_u23 b_u23
                have T17 := lm_ek_isSign N_h (by omega) e_u23
                refine ok_if ?_ ?_
                · intro C17
                  exact vj_X13_isCast_154 hn V_h (by omega) N_h
                · intro C17
                  refine ok_cP (vf_X13_isWord hn (by omega) (by omega) (by omega) (by omega) V_h) ?_; intro u25 e_u25 a_u25 b_u25
                  have T19 := lm_ek_isWord N_h (by omega) e_u25
                  refine ok_if ?_ ?_
                  · intro C19
                    exact vj_X13_isCast_154 hn V_h (by omega) N_h
                  · intro C19
                    refine ok_cP (vf_X13_isWord hn (by omega) (by omega) (by omega) (by omega) V_h) ?_; intro u27 e_u27 a_u27 b_u27
                    have T21 := lm_ek_isWord N_h (by omega) e_u27
                    refine ok_if ?_ ?_
                    · intro C21
                      exact vj_X13_isCast_154 hn V_h (by omega) N_h
                    · intro C21
                      refine ok_cP (vf_X13_isWord hn (by omega) (by omega) (by omega) (by omega) V_h) ?_; intro u29 e_u29 a_u29 b_u29
                      have T23 := lm_ek_isWord N_h (by omega) e_u29
                      refine ok_if ?_ ?_
                      · intro C23
                        exact vj_X13_isCast_154 hn V_h (by omega) N_h
                      · intro C23
                        refine ok_cP (vf_X13_isWord hn (by omega) (by omega) (by omega) (by omega) V_h) ?_; intro u31 e_u31 a_u31 b_u31
                        have T25 := lm_ek_isWord N_h (by omega) e_u31
                        refine ok_if ?_ ?_
                        · intro C25
                          exact vj_X13_isCast_154 hn V_h (by omega) N_h
                        · intro C25
                          refine ok_cP (vf_X13_isWord hn (by omega) (by omega) (by omega) (by omega) V_h) ?_; intro u33 e_u33 a_u33 b_u33
                          have T27 := lm_ek_isWord N_h (by omega) e_u33
                          refine ok_if ?_ ?_
                          · intro C27
                            exact ok_rP (by omega) (by omega)
                          · intro C27
                            exact vj_X13_isCast_154 hn V_h (by omega) N_h
          · intro C11
            exact ok_rP (by omega) (by omega)
      · intro C7
        exact ok_rP (by omega) (by omega)
set_option maxRecDepth 4000 in
def GH_X13_expression (g : Int) (rc : tq_X13_expression) : Prop := (∀ {a1 : Int} {h : ms_M} (a_a1 : 0 ≤ a1) (b_a1 : a1 ≤ 40) (V_h : VS_ h) (x_0 : 16 * (40 - a1) + 1 ≤ g) (x_1 : h 160 23 + 1 ≤ h 160 8) (x_2 : h 160 22 ≤ 2 * h 160 23 + 100) (N_h : EK_ h), Ok_ (rc.1 a1 h) (QIR_ (-1) 8999 (fun u r => (EK_ r) ∧ (r 160 8 = h 160 8) ∧ (h 160 9 = 0 ∨ ¬ r 160 9 = 0) ∧ (h 160 23 ≤ r 160 23) ∧ (r 160 23 + 1 ≤ h 160 8) ∧ (h 160 22 ≤ r 160 22) ∧ (r 160 22 + 2 * h 160 23 ≤ h 160 22 + 2 * r 160 23 + 0) ∧ (¬ r 160 9 = 0 ∨ (0 ≤ u ∧ u < r 160 22 ∧ r 160 22 + 2 * h 160 23 + 1 ≤ h 160 22 + 2 * r 160 23))))) ∧
  (∀ {a1 : Int} {a2 : Int} {h : ms_M} (a_a1 : 0 ≤ a1) (b_a1 : a1 ≤ 10) (a_a2 : 0 ≤ a2) (b_a2 : a2 ≤ 40) (V_h : VS_ h) (x_0 : 16 * (40 - a2) + 16 - a1 ≤ g) (x_1 : h 160 23 + 1 ≤ h 160 8) (x_2 : h 160 22 ≤ 2 * h 160 23 + 100) (N_h : EK_ h), Ok_ (rc.2.1 a1 a2 h) (QIR_ (-1) 8999 (fun u r => (EK_ r) ∧ (r 160 8 = h 160 8) ∧ (h 160 9 = 0 ∨ ¬ r 160 9 = 0) ∧ (h 160 23 ≤ r 160 23) ∧ (r 160 23 + 1 ≤ h 160 8) ∧ (h 160 22 ≤ r 160 22) ∧ (r 160 22 + 2 * h 160 23 ≤ h 160 22 + 2 * r 160 23 + 0) ∧ (¬ r 160 9 = 0 ∨ (0 ≤ u ∧ u < r 160 22 ∧ r 160 22 + 2 * h 160 23 + 1 ≤ h 160 22 + 2 * r 160 23))))) ∧
  (∀ {a1 : Int} {h : ms_M} (a_a1 : 0 ≤ a1) (b_a1 : a1 ≤ 40) (V_h : VS_ h) (x_0 : 16 * (40 - a1) + 5 ≤ g) (x_1 : h 160 23 + 1 ≤ h 160 8) (x_2 : h 160 22 ≤ 2 * h 160 23 + 100) (N_h : EK_ h), Ok_ (rc.2.2.1 a1 h) (QIR_ (-1) 8999 (fun u r => (EK_ r) ∧ (r 160 8 = h 160 8) ∧ (h 160 9 = 0 ∨ ¬ r 160 9 = 0) ∧ (h 160 23 ≤ r 160 23) ∧ (r 160 23 + 1 ≤ h 160 8) ∧ (h 160 22 ≤ r 160 22) ∧ (r 160 22 + 2 * h 160 23 ≤ h 160 22 + 2 * r 160 23 + 0) ∧ (¬ r 160 9 = 0 ∨ (0 ≤ u ∧ u < r 160 22 ∧ r 160 22 + 2 * h 160 23 + 1 ≤ h 160 22 + 2 * r 160 23))))) ∧
  (∀ {a1 : Int} {h : ms_M} (a_a1 : 0 ≤ a1) (b_a1 : a1 ≤ 40) (V_h : VS_ h) (x_0 : 16 * (40 - a1) + 2 ≤ g) (x_1 : h 160 23 + 1 ≤ h 160 8) (x_2 : h 160 22 ≤ 2 * h 160 23 + 100) (N_h : EK_ h), Ok_ (rc.2.2.2.1 a1 h) (QIR_ (-1) 8999 (fun u r => (EK_ r) ∧ (r 160 8 = h 160 8) ∧ (h 160 9 = 0 ∨ ¬ r 160 9 = 0) ∧ (h 160 23 ≤ r 160 23) ∧ (r 160 23 + 1 ≤ h 160 8) ∧ (h 160 22 ≤ r 160 22) ∧ (r 160 22 + 2 * h 160 23 ≤ h 160 22 + 2 * r 160 23 + 0)))) ∧
  (∀ {a1 : Int} {h : ms_M} (a_a1 : 0 ≤ a1) (b_a1 : a1 ≤ 40) (V_h : VS_ h) (x_0 : 16 * (40 - a1) + 4 ≤ g) (x_1 : h 160 23 + 1 ≤ h 160 8) (x_2 : h 160 22 ≤ 2 * h 160 23 + 100) (x_3 : h 160 9 = 0) (N_h : EK_ h), Ok_ (rc.2.2.2.2.1 a1 h) (QIR_ (-1) 8999 (fun u r => (EK_ r) ∧ (r 160 8 = h 160 8) ∧ (h 160 9 = 0 ∨ ¬ r 160 9 = 0) ∧ (h 160 23 ≤ r 160 23) ∧ (r 160 23 + 1 ≤ h 160 8) ∧ (h 160 22 ≤ r 160 22) ∧ (r 160 22 + 2 * h 160 23 ≤ h 160 22 + 2 * r 160 23 + 0) ∧ (¬ r 160 9 = 0 ∨ (0 ≤ u ∧ u < r 160 22 ∧ r 160 22 + 2 * h 160 23 + 1 ≤ h 160 22 + 2 * r 160 23))))) ∧
  (∀ {a1 : Int} {h : ms_M} (a_a1 : 0 ≤ a1) (b_a1 : a1 ≤ 40) (V_h : VS_ h) (x_0 : 16 * (40 - a1) + 3 ≤ g) (x_1 : h 160 23 + 1 ≤ h 160 8) (x_2 : h 160 22 ≤ 2 * h 160 23 + 100) (x_3 : h 160 9 = 0) (N_h : EK_ h), Ok_ (rc.2.2.2.2.2.1 a1 h) (QIR_ (-1) 8999 (fun u r => (EK_ r) ∧ (r 160 8 = h 160 8) ∧ (h 160 9 = 0 ∨ ¬ r 160 9 = 0) ∧ (h 160 23 ≤ r 160 23) ∧ (r 160 23 + 1 ≤ h 160 8) ∧ (h 160 22 ≤ r 160 22) ∧ (r 160 22 + 2 * h 160 23 ≤ h 160 22 + 2 * r 160 23 + 0) ∧ (¬ r 160 9 = 0 ∨ (0 ≤ u ∧ u < r 160 22 ∧ r 160 22 + 2 * h 160 23 + 1 ≤ h 160 22 + 2 * r 160 23))))) ∧
  (∀ {a1 : Int} {h : ms_M} (a_a1 : 0 ≤ a1) (b_a1 : a1 ≤ 40) (V_h : VS_ h) (x_0 : 16 * (40 - a1) + 2 ≤ g) (x_1 : h 160 23 + 2 ≤ h 160 8) (x_2 : h 160 22 ≤ 2 * h 160 23 + 100) (x_3 : h 160 9 = 0) (N_h : EK_ h), Ok_ (rc.2.2.2.2.2.2 a1 h) (QIR_ (-1) 8999 (fun u r => (EK_ r) ∧ (r 160 8 = h 160 8) ∧ (h 160 9 = 0 ∨ ¬ r 160 9 = 0) ∧ (h 160 23 ≤ r 160 23) ∧ (r 160 23 + 1 ≤ h 160 8) ∧ (h 160 22 ≤ r 160 22) ∧ (r 160 22 + 2 * h 160 23 ≤ h 160 22 + 2 * r 160 23 + 0) ∧ (¬ r 160 9 = 0 ∨ (0 ≤ u ∧ u < r 160 22 ∧ r 160 22 + 2 * h 160 23 + 1 ≤ h 160 22 + 2 * r 160 23)))))
set_option maxRecDepth 4000 in
theorem vo_X13_expression {nn : Nat} (hn : 1000000 ≤ nn) {g : Int} {rc : tq_X13_expression} (hg : GH_X13_expression g rc) {a1 : Int} {h : ms_M} (a_a1 : 0 ≤ a1) (b_a1 : a1 ≤ 40) (V_h : VS_ h) (x_0 : 16 * (40 - a1) + 1 ≤ (g + 1)) (x_1 : h 160 23 + 1 ≤ h 160 8) (x_2 : h 160 22 ≤ 2 * h 160 23 + 100) (N_h : EK_ h)  : Ok_ (qo_X13_expression nn rc a1 h) (QIR_ (-1) 8999 (fun u r => (EK_ r) ∧ (r 160 8 = h 160 8) ∧ (h 160 9 = 0 ∨ ¬ r 160 9 = 0) ∧ (h 160 23 ≤ r 160 23) ∧ (r 160 23 + 1 ≤ h 160 8) ∧ (h 160 22 ≤ r 160 22) ∧ (r 160 22 + 2 * h 160 23 ≤ h 160 22 + 2 * r 160 23 + 0) ∧ (¬ r 160 9 = 0 ∨ (0 ≤ u ∧ u < r 160 22 ∧ r 160 22 + 2 * h 160 23 + 1 ≤ h 160 22 + 2 * r 160 23)))) := by
  unfold qo_X13_expression
  have T1 := gF_160_8 V_h
  have T2 := gF_160_9 V_h
  have T3 := gF_160_22 V_h
  have T4 := gF_160_23 V_h
  refine ok_cIR (vf_X13_isDeep hn (by omega) (by omega) V_h (by omega) N_h) ?_; intro u2 E_u2 V_u2 a_u2 b_u2 R_u2
  have N_u2_2 : EK_ u2.2 := ek_fr V_h N_h (fun c k z => (ff_X13_isDeep nn) _ E_u2 c k z) rfl
  have T5 : u2.2 160 8 = h 160 8 := (ff_X13_isDeep nn) _ E_u2 160 8 rfl
  have T6 : u2.2 160 22 = h 160 22 := (ff_X13_isDeep nn) _ E_u2 160 22 rfl
  have T7 : u2.2 160 23 = h 160 23 := (ff_X13_isDeep nn) _ E_u2 160 23 rfl
  have T8 := gF_160_9 V_u2
  refine ok_if ?_ ?_
  · intro C8
    refine ok_add (by omega) ?_; intro v4 e_v4
    refine ok_cIR (hg.2.1 (by omega) (by omega) (by omega) (by omega) V_u2 (by omega) (by omega) (by omega) N_u2_2) ?_; intro u6 E_u6 V_u6 a_u6 b_u6 R_u6
    have N_u6_2 : EK_ u6.2 := R_u6.1
    have T10 := gF_160_8 V_u6
    have T11 := gF_160_9 V_u6
    have T12 := gF_160_22 V_u6
    have T13 := gF_160_23 V_u6
    refine ok_if ?_ ?_
    · intro C13
      exact ok_rIR V_u6 (by omega) (by omega) ⟨N_u6_2, by omega⟩
    · intro C13
      refine ok_cP (vf_X13_isSign hn (by omega) (by omega) (by omega) (by omega) V_u6) ?_; intro u10 e_u10 a_u10 b_u10
      have T15 := lm_ek_isSign N_u6_2 (by omega) e_u10
      refine ok_if ?_ ?_
      · intro C15
        refine ok_cIR (vf_X13_add hn (by omega) (by omega) (by omega) (by omega) (by omega) (by omega) V_u6 (by omega)) ?_; intro u13 E_u13 V_u13 a_u13 b_u13 R_u13
        have N_u13_2 : EK_ u13.2 := ek_fr V_u6 N_u6_2 (fun c k z => (ff_X13_add nn) _ E_u13 c k z) rfl
        have T17 : u13.2 160 8 = u6.2 160 8 := (ff_X13_add nn) _ E_u13 160 8 rfl
        have T18 : u13.2 160 9 = u6.2 160 9 := (ff_X13_add nn) _ E_u13 160 9 rfl
        have T19 : u13.2 160 23 = u6.2 160 23 := (ff_X13_add nn) _ E_u13 160 23 rfl
        have T20 := gF_160_22 V_u13
        refine ok_add (by omega) ?_; intro v15 e_v15
        refine ok_xl ?_; intro h16 E_h16; have V_h16 : VS_ h16 := by rw [E_h16]; exact wF_160_23 V_u13 (by omega)
        have N_h16 : EK_ h16 := by rw [E_h16]; exact ek_up V_u13 N_u13_2 rfl
        have T21 : h16 160 8 = u13.2 160 8 := by rw [E_h16]; exact up_n (by decide)
        have T22 : h16 160 9 = u13.2 160 9 := by rw [E_h16]; exact up_n (by decide)
        have T23 : h16 160 22 = u13.2 160 22 := by rw [E_h16]; exact up_n (by decide)
        have T24 : h16 160 23 = v15 := by rw [E_h16]; exact up_s
        refine ok_wA (by omega) ?_; intro h18 E_h18; have V_h18 : VS_ h18 := by rw [E_h18]; exact wA_170 V_h16 (by omega)
        have N_h18 : EK_ h18 := by rw [E_h18]; exact ek_ua V_h16 N_h16 rfl
        have T25 : h18 160 8 = h16 160 8 := by rw [E_h18]; exact up_n (fun z => absurd z.1 (by decide))
        have T26 : h18 160 9 = h16 160 9 := by rw [E_h18]; exact up_n (fun z => absurd z.1 (by decide))
        have T27 : h18 160 22 = h16 160 22 := by rw [E_h18]; exact up_n (fun z => absurd z.1 (by decide))
        have T28 : h18 160 23 = h16 160 23 := by rw [E_h18]; exact up_n (fun z => absurd z.1 (by decide))
        refine ok_add (by omega) ?_; intro v20 e_v20
        refine ok_cIR (hg.1 (by omega) (by omega) V_h18 (by omega) (by omega) (by omega) N_h18) ?_; intro u22 E_u22 V_u22 a_u22 b_u22 R_u22
        have N_u22_2 : EK_ u22.2 := R_u22.1
        have T29 := gF_160_8 V_u22
        have T30 := gF_160_9 V_u22
        have T31 := gF_160_22 V_u22
        have T32 := gF_160_23 V_u22
        refine ok_wA (by omega) ?_; intro h23 E_h23; have V_h23 : VS_ h23 := by rw [E_h23]; exact wA_171 V_u22 (by omega)
        have N_h23 : EK_ h23 := by rw [E_h23]; exact ek_ua V_u22 N_u22_2 rfl
        have T33 : h23 160 8 = u22.2 160 8 := by rw [E_h23]; exact up_n (fun z => absurd z.1 (by decide))
        have T34 : h23 160 9 = u22.2 160 9 := by rw [E_h23]; exact up_n (fun z => absurd z.1 (by decide))
        have T35 : h23 160 22 = u22.2 160 22 := by rw [E_h23]; exact up_n (fun z => absurd z.1 (by decide))
        have T36 : h23 160 23 = u22.2 160 23 := by rw [E_h23]; exact up_n (fun z => absurd z.1 (by decide))
        refine ok_cVR (vf_X13_sign_ hn (by omega) (by omega) V_h23 (by omega) N_h23) ?_; intro u25 E_u25 V_u25 R_u25
        have N_u25 : EK_ u25 := ek_fr V_h23 N_h23 (fun c k z => (ff_X13_sign_ nn) _ E_u25 c k z) rfl
        have T37 : u25 160 8 = h23 160 8 := (ff_X13_sign_ nn) _ E_u25 160 8 rfl
        have T38 : u25 160 22 = h23 160 22 := (ff_X13_sign_ nn) _ E_u25 160 22 rfl
        have T39 := gF_160_9 V_u25
        have T40 := gF_160_23 V_u25
        refine ok_add (by omega) ?_; intro v27 e_v27
        refine ok_cIR (hg.1 (by omega) (by omega) V_u25 (by omega) (by omega) (by omega) N_u25) ?_; intro u29 E_u29 V_u29 a_u29 b_u29 R_u29
        have N_u29_2 : EK_ u29.2 := R_u29.1
        have T41 := gF_160_8 V_u29
        have T42 := gF_160_9 V_u29
        have T43 := gF_160_22 V_u29
        have T44 := gF_160_23 V_u29
        refine ok_wA (by omega) ?_; intro h30 E_h30; have V_h30 : VS_ h30 := by rw [E_h30]; exact wA_172 V_u29 (by omega)
        have N_h30 : EK_ h30 := by rw [E_h30]; exact ek_ua V_u29 N_u29_2 rfl
        have T45 : h30 160 8 = u29.2 160 8 := by rw [E_h30]; exact up_n (fun z => absurd z.1 (by decide))
        have T46 : h30 160 9 = u29.2 160 9 := by rw [E_h30]; exact up_n (fun z => absurd z.1 (by decide))
        have T47 : h30 160 22 = u29.2 160 22 := by rw [E_h30]; exact up_n (fun z => absurd z.1 (by decide))
        have T48 : h30 160 23 = u29.2 160 23 := by rw [E_h30]; exact up_n (fun z => absurd z.1 (by decide))
        exact ok_rIR V_h30 (by omega) (by omega) ⟨N_h30, by omega⟩
      · intro C15
        exact ok_rIR V_u6 (by omega) (by omega) ⟨N_u6_2, by omega⟩
  · intro C8
    exact ok_rIR V_u2 (by omega) (by omega) ⟨N_u2_2, by omega⟩
set_option maxRecDepth 4000 in
theorem vj_X13_sides_157 {nn : Nat} (hn : 1000000 ≤ nn) {g : Int} {rc : tq_X13_expression} (hg : GH_X13_expression g rc) {qkk_37 : Int → Int → Int → Int → Int → Int → ms_M → Option (Int × ms_M)} {K_kk_37 : Int} (hk_kk_37 : ∀ {l1 : Int} {l2 : Int} {l3 : Int} {l4 : Int} {l5 : Int} {l6 : Int} {h : ms_M} (a_l1 : 0 ≤ l1) (b_l1 : l1 ≤ 10) (a_l2 : 0 ≤ l2) (b_l2 : l2 ≤ 40) (a_l3 : 0 ≤ l3) (b_l3 : l3 ≤ 3000) (a_l4 : (-1) ≤ l4) (b_l4 : l4 ≤ 8999) (a_l5 : (-1) ≤ l5) (b_l5 : l5 ≤ 9) (a_l6 : 0 ≤ l6) (b_l6 : l6 ≤ 9) (V_h : VS_ h) (x_0 : 16 * (40 - l2) + 16 - l1 ≤ (g + 1)) (x_1 : h 160 23 + 1 ≤ h 160 8) (x_2 : h 160 22 ≤ 2 * h 160 23 + 100) (x_3 : l5 = -1 ∨ h 160 23 + 2 ≤ h 160 8) (x_4 : ¬ h 160 9 = 0 ∨ (0 ≤ l4 ∧ l4 < h 160 22)) (N_h : EK_ h) (_ : 3001 - h 160 23 < K_kk_37), Ok_ (qkk_37 l1 l2 l3 l4 l5 l6 h) (QIR_ (-1) 8999 (fun u r => (EK_ r) ∧ (r 160 8 = h 160 8) ∧ (h 160 9 = 0 ∨ ¬ r 160 9 = 0) ∧ (h 160 23 ≤ r 160 23) ∧ (r 160 23 + 1 ≤ h 160 8) ∧ (h 160 22 ≤ r 160 22) ∧ (r 160 22 + 2 * h 160 23 ≤ h 160 22 + 2 * r 160 23 + 0) ∧ (¬ r 160 9 = 0 ∨ (0 ≤ u ∧ u < r 160 22))))) {l1 : Int} {l2 : Int} {l3 : Int} {l4 : Int} {l6 : Int} {h : ms_M} (a_l1 : 0 ≤ l1) (b_l1 : l1 ≤ 10) (a_l2 : 0 ≤ l2) (b_l2 : l2 ≤ 40) (a_l3 : 0 ≤ l3) (b_l3 : l3 ≤ 3000) (a_l4 : (-1) ≤ l4) (b_l4 : l4 ≤ 8999) (a_l6 : 0 ≤ l6) (b_l6 : l6 ≤ 9) (V_h : VS_ h) (x_0 : 16 * (40 - l2) + 16 - l1 ≤ (g + 1)) (x_1 : h 160 23 + 1 ≤ h 160 8) (x_2 : h 160 22 ≤ 2 * h 160 23 + 100) (x_3 : ¬ h 160 9 = 0 ∨ (0 ≤ l4 ∧ l4 < h 160 22)) (N_h : EK_ h) (hm_kk_37 : 3001 - h 160 23 + 1 ≤ K_kk_37) : Ok_ (qj_X13_sides_157 nn rc qkk_37 l1 l2 l3 l4 l6 h) (QIR_ (-1) 8999 (fun u r => (EK_ r) ∧ (r 160 8 = h 160 8) ∧ (h 160 9 = 0 ∨ ¬ r 160 9 = 0) ∧ (h 160 23 ≤ r 160 23) ∧ (r 160 23 + 1 ≤ h 160 8) ∧ (h 160 22 ≤ r 160 22) ∧ (r 160 22 + 2 * h 160 23 ≤ h 160 22 + 2 * r 160 23 + 0) ∧ (¬ r 160 9 = 0 ∨ (0 ≤ u ∧ u < r 160 22)))) := by
  unfold qj_X13_sides_157
  have T1 := gF_160_8 V_h
  have T2 := gF_160_9 V_h
  have T3 := gF_160_22 V_h
  have T4 := gF_160_23 V_h
  refine ok_if ?_ ?_
  · intro C4
    exact ok_mI (hk_kk_37 (by omega) (by omega) (by omega) (by omega) (by omega) (by omega) (by omega) (by omega) (by omega) (by omega) (by omega) (by omega) V_h (by omega) (by omega) (by omega) (by omega) (by omega) N_h (by omega)) (fun _ _ V_r R_r => ⟨R_r.1, by have := R_r.2; have := gF_160_8 V_r; have := gF_160_9 V_r; have := gF_160_22 V_r; have := gF_160_23 V_r; omega⟩)
  · intro C4
    refine ok_cP (vf_X13_strength hn (by omega) (by omega) V_h) ?_; intro u4 e_u4 a_u4 b_u4
    have T6 := lm_ek_strength N_h (by omega) e_u4
    exact ok_mI (hk_kk_37 (by omega) (by omega) (by omega) (by omega) (by omega) (by omega) (by omega) (by omega) (by omega) (by omega) (by omega) (by omega) V_h (by omega) (by omega) (by omega) (by omega) (by omega) N_h (by omega)) (fun _ _ V_r R_r => ⟨R_r.1, by have := R_r.2; have := gF_160_8 V_r; have := gF_160_9 V_r; have := gF_160_22 V_r; have := gF_160_23 V_r; omega⟩)
set_option maxRecDepth 4000 in
theorem vw_X13_sides_37 {nn : Nat} (hn : 1000000 ≤ nn) {g : Int} {rc : tq_X13_expression} (hg : GH_X13_expression g rc) : ∀ (k : Nat) {l1 : Int} {l2 : Int} {l3 : Int} {l4 : Int} {l5 : Int} {l6 : Int} {h : ms_M} (a_l1 : 0 ≤ l1) (b_l1 : l1 ≤ 10) (a_l2 : 0 ≤ l2) (b_l2 : l2 ≤ 40) (a_l3 : 0 ≤ l3) (b_l3 : l3 ≤ 3000) (a_l4 : (-1) ≤ l4) (b_l4 : l4 ≤ 8999) (a_l5 : (-1) ≤ l5) (b_l5 : l5 ≤ 9) (a_l6 : 0 ≤ l6) (b_l6 : l6 ≤ 9) (V_h : VS_ h) (x_0 : 16 * (40 - l2) + 16 - l1 ≤ (g + 1)) (x_1 : h 160 23 + 1 ≤ h 160 8) (x_2 : h 160 22 ≤ 2 * h 160 23 + 100) (x_3 : l5 = -1 ∨ h 160 23 + 2 ≤ h 160 8) (x_4 : ¬ h 160 9 = 0 ∨ (0 ≤ l4 ∧ l4 < h 160 22)) (N_h : EK_ h)  (hm : 3001 - h 160 23 < (k : Int)), Ok_ (qw_X13_sides_37 nn rc k l1 l2 l3 l4 l5 l6 h) (QIR_ (-1) 8999 (fun u r => (EK_ r) ∧ (r 160 8 = h 160 8) ∧ (h 160 9 = 0 ∨ ¬ r 160 9 = 0) ∧ (h 160 23 ≤ r 160 23) ∧ (r 160 23 + 1 ≤ h 160 8) ∧ (h 160 22 ≤ r 160 22) ∧ (r 160 22 + 2 * h 160 23 ≤ h 160 22 + 2 * r 160 23 + 0) ∧ (¬ r 160 9 = 0 ∨ (0 ≤ u ∧ u < r 160 22)))) := by
  intro k
  induction k with
  | zero => intro l1 l2 l3 l4 l5 l6 h a_l1 b_l1 a_l2 b_l2 a_l3 b_l3 a_l4 b_l4 a_l5 b_l5 a_l6 b_l6 V_h x_0 x_1 x_2 x_3 x_4 N_h hm; have := gF_160_23 V_h; have := gF_160_9 V_h; exfalso; omega
  | succ k ih =>
    intro l1 l2 l3 l4 l5 l6 h a_l1 b_l1 a_l2 b_l2 a_l3 b_l3 a_l4 b_l4 a_l5 b_l5 a_l6 b_l6 V_h x_0 x_1 x_2 x_3 x_4 N_h hm
    unfold qw_X13_sides_37
    have T1 := gF_160_8 V_h
    have T2 := gF_160_9 V_h
    have T3 := gF_160_22 V_h
    have T4 := gF_160_23 V_h
    refine ok_if ?_ ?_
    · intro C4
      exact ok_rIR V_h (by omega) (by omega) ⟨N_h, by omega⟩
    · intro C4
      refine ok_if ?_ ?_
      · intro C5
        exact ok_rIR V_h (by omega) (by omega) ⟨N_h, by omega⟩
      · intro C5
        refine ok_if ?_ ?_
        · intro C6
          exact ok_rIR V_h (by omega) (by omega) ⟨N_h, by omega⟩
        · intro C6
          refine ok_add (by omega) ?_; intro v9 e_v9
          refine ok_xl ?_; intro h10 E_h10; have V_h10 : VS_ h10 := by rw [E_h10]; exact wF_160_23 V_h (by omega)
          have N_h10 : EK_ h10 := by rw [E_h10]; exact ek_up V_h N_h rfl
          have T8 : h10 160 8 = h 160 8 := by rw [E_h10]; exact up_n (by decide)
          have T9 : h10 160 9 = h 160 9 := by rw [E_h10]; exact up_n (by decide)
          have T10 : h10 160 22 = h 160 22 := by rw [E_h10]; exact up_n (by decide)
          have T11 : h10 160 23 = v9 := by rw [E_h10]; exact up_s
          refine ok_cP (vf_X13_isWord hn (by omega) (by omega) (by omega) (by omega) V_h10) ?_; intro u12 e_u12 a_u12 b_u12
          have T12 := lm_ek_isWord N_h10 (by omega) e_u12
          refine ok_if ?_ ?_
          · intro C12
            refine ok_cIR (vf_X13_add hn (by omega) (by omega) (by omega) (by omega) (by omega) (by omega) V_h10 (by omega)) ?_; intro u14 E_u14 V_u14 a_u14 b_u14 R_u14
            have N_u14_2 : EK_ u14.2 := ek_fr V_h10 N_h10 (fun c k z => (ff_X13_add nn) _ E_u14 c k z) rfl
            have T14 : u14.2 160 8 = h10 160 8 := (ff_X13_add nn) _ E_u14 160 8 rfl
            have T15 : u14.2 160 9 = h10 160 9 := (ff_X13_add nn) _ E_u14 160 9 rfl
            have T16 : u14.2 160 23 = h10 160 23 := (ff_X13_add nn) _ E_u14 160 23 rfl
            have T17 := gF_160_22 V_u14
            refine ok_wA (by omega) ?_; intro h16 E_h16; have V_h16 : VS_ h16 := by rw [E_h16]; exact wA_170 V_u14 (by omega)
            have N_h16 : EK_ h16 := by rw [E_h16]; exact ek_ua V_u14 N_u14_2 rfl
            have T18 : h16 160 8 = u14.2 160 8 := by rw [E_h16]; exact up_n (fun z => absurd z.1 (by decide))
            have T19 : h16 160 9 = u14.2 160 9 := by rw [E_h16]; exact up_n (fun z => absurd z.1 (by decide))
            have T20 : h16 160 23 = u14.2 160 23 := by rw [E_h16]; exact up_n (fun z => absurd z.1 (by decide))
            have T21 : h16 160 22 = u14.2 160 22 := by rw [E_h16]; exact up_n (fun z => absurd z.1 (by decide))
            refine ok_add (by omega) ?_; intro v18 e_v18
            refine ok_cIR (hg.2.1 (by omega) (by omega) (by omega) (by omega) V_h16 (by omega) (by omega) (by omega) N_h16) ?_; intro u20 E_u20 V_u20 a_u20 b_u20 R_u20
            have N_u20_2 : EK_ u20.2 := R_u20.1
            have T22 := gF_160_8 V_u20
            have T23 := gF_160_9 V_u20
            have T24 := gF_160_22 V_u20
            have T25 := gF_160_23 V_u20
            refine ok_wA (by omega) ?_; intro h21 E_h21; have V_h21 : VS_ h21 := by rw [E_h21]; exact wA_171 V_u20 (by omega)
            have N_h21 : EK_ h21 := by rw [E_h21]; exact ek_ua V_u20 N_u20_2 rfl
            have T26 : h21 160 8 = u20.2 160 8 := by rw [E_h21]; exact up_n (fun z => absurd z.1 (by decide))
            have T27 : h21 160 9 = u20.2 160 9 := by rw [E_h21]; exact up_n (fun z => absurd z.1 (by decide))
            have T28 : h21 160 22 = u20.2 160 22 := by rw [E_h21]; exact up_n (fun z => absurd z.1 (by decide))
            have T29 : h21 160 23 = u20.2 160 23 := by rw [E_h21]; exact up_n (fun z => absurd z.1 (by decide))
            exact ok_mI (vj_X13_sides_157 hn hg ih (by omega) (by omega) (by omega) (by omega) (by omega) (by omega) (by omega) (by omega) (by omega) (by omega) V_h21 (by omega) (by omega) (by omega) (by omega) N_h21 (by omega)) (fun _ _ V_r R_r => ⟨R_r.1, by have := R_r.2; have := gF_160_8 V_r; have := gF_160_9 V_r; have := gF_160_22 V_r; have := gF_160_23 V_r; omega⟩)
          · intro C12
            refine ok_cIR (vf_X13_name hn V_h10 (by omega) N_h10) ?_; intro u23 E_u23 V_u23 a_u23 b_u23 R_u23
            have N_u23_2 : EK_ u23.2 := ek_fr V_h10 N_h10 (fun c k z => (ff_X13_name nn) _ E_u23 c k z) rfl
            have T30 : u23.2 160 8 = h10 160 8 := (ff_X13_name nn) _ E_u23 160 8 rfl
            have T31 : u23.2 160 22 = h10 160 22 := (ff_X13_name nn) _ E_u23 160 22 rfl
            have T32 := gF_160_9 V_u23
            have T33 := gF_160_23 V_u23
            refine ok_cIR (vf_X13_add hn (by omega) (by omega) (by omega) (by omega) (by omega) (by omega) V_u23 (by omega)) ?_; intro u25 E_u25 V_u25 a_u25 b_u25 R_u25
            have N_u25_2 : EK_ u25.2 := ek_fr V_u23 N_u23_2 (fun c k z => (ff_X13_add nn) _ E_u25 c k z) rfl
            have T34 : u25.2 160 8 = u23.2 160 8 := (ff_X13_add nn) _ E_u25 160 8 rfl
            have T35 : u25.2 160 9 = u23.2 160 9 := (ff_X13_add nn) _ E_u25 160 9 rfl
            have T36 : u25.2 160 23 = u23.2 160 23 := (ff_X13_add nn) _ E_u25 160 23 rfl
            have T37 := gF_160_22 V_u25
            refine ok_wA (by omega) ?_; intro h27 E_h27; have V_h27 : VS_ h27 := by rw [E_h27]; exact wA_170 V_u25 (by omega)
            have N_h27 : EK_ h27 := by rw [E_h27]; exact ek_ua V_u25 N_u25_2 rfl
            have T38 : h27 160 8 = u25.2 160 8 := by rw [E_h27]; exact up_n (fun z => absurd z.1 (by decide))
            have T39 : h27 160 9 = u25.2 160 9 := by rw [E_h27]; exact up_n (fun z => absurd z.1 (by decide))
            have T40 : h27 160 23 = u25.2 160 23 := by rw [E_h27]; exact up_n (fun z => absurd z.1 (by decide))
            have T41 : h27 160 22 = u25.2 160 22 := by rw [E_h27]; exact up_n (fun z => absurd z.1 (by decide))
            exact ok_mI (vj_X13_sides_157 hn hg ih (by omega) (by omega) (by omega) (by omega) (by omega) (by omega) (by omega) (by omega) (by omega) (by omega) V_h27 (by omega) (by omega) (by omega) (by omega) N_h27 (by omega)) (fun _ _ V_r R_r => ⟨R_r.1, by have := R_r.2; have := gF_160_8 V_r; have := gF_160_9 V_r; have := gF_160_22 V_r; have := gF_160_23 V_r; omega⟩)
set_option maxRecDepth 4000 in
theorem vo_X13_sides {nn : Nat} (hn : 1000000 ≤ nn) {g : Int} {rc : tq_X13_expression} (hg : GH_X13_expression g rc) {a1 : Int} {a2 : Int} {h : ms_M} (a_a1 : 0 ≤ a1) (b_a1 : a1 ≤ 10) (a_a2 : 0 ≤ a2) (b_a2 : a2 ≤ 40) (V_h : VS_ h) (x_0 : 16 * (40 - a2) + 16 - a1 ≤ (g + 1)) (x_1 : h 160 23 + 1 ≤ h 160 8) (x_2 : h 160 22 ≤ 2 * h 160 23 + 100) (N_h : EK_ h)  : Ok_ (qo_X13_sides nn rc a1 a2 h) (QIR_ (-1) 8999 (fun u r => (EK_ r) ∧ (r 160 8 = h 160 8) ∧ (h 160 9 = 0 ∨ ¬ r 160 9 = 0) ∧ (h 160 23 ≤ r 160 23) ∧ (r 160 23 + 1 ≤ h 160 8) ∧ (h 160 22 ≤ r 160 22) ∧ (r 160 22 + 2 * h 160 23 ≤ h 160 22 + 2 * r 160 23 + 0) ∧ (¬ r 160 9 = 0 ∨ (0 ≤ u ∧ u < r 160 22 ∧ r 160 22 + 2 * h 160 23 + 1 ≤ h 160 22 + 2 * r 160 23)))) := by
  unfold qo_X13_sides
  have T1 := gF_160_8 V_h
  have T2 := gF_160_9 V_h
  have T3 := gF_160_22 V_h
  have T4 := gF_160_23 V_h
  refine ok_cIR (hg.2.2.1 (by omega) (by omega) V_h (by omega) (by omega) (by omega) N_h) ?_; intro u34 E_u34 V_u34 a_u34 b_u34 R_u34
  have N_u34_2 : EK_ u34.2 := R_u34.1
  have T5 := gF_160_8 V_u34
  have T6 := gF_160_9 V_u34
  have T7 := gF_160_22 V_u34
  have T8 := gF_160_23 V_u34
  refine ok_if ?_ ?_
  · intro C8
    exact ok_mI (vw_X13_sides_37 hn hg _ (by omega) (by omega) (by omega) (by omega) (by omega) (by omega) (by omega) (by omega) (by omega) (by omega) (by omega) (by omega) V_u34 (by omega) (by omega) (by omega) (by omega) (by omega) N_u34_2 (by omega)) (fun _ _ V_r R_r => ⟨R_r.1, by have := R_r.2; have := gF_160_8 V_r; have := gF_160_9 V_r; have := gF_160_22 V_r; have := gF_160_23 V_r; omega⟩)
  · intro C8
    refine ok_cP (vf_X13_strength hn (by omega) (by omega) V_u34) ?_; intro u38 e_u38 a_u38 b_u38
    have T10 := lm_ek_strength N_u34_2 (by omega) e_u38
    exact ok_mI (vw_X13_sides_37 hn hg _ (by omega) (by omega) (by omega) (by omega) (by omega) (by omega) (by omega) (by omega) (by omega) (by omega) (by omega) (by omega) V_u34 (by omega) (by omega) (by omega) (by omega) (by omega) N_u34_2 (by omega)) (fun _ _ V_r R_r => ⟨R_r.1, by have := R_r.2; have := gF_160_8 V_r; have := gF_160_9 V_r; have := gF_160_22 V_r; have := gF_160_23 V_r; omega⟩)
set_option maxRecDepth 4000 in
theorem vj_X13_unary_141 {nn : Nat} (hn : 1000000 ≤ nn) {g : Int} {rc : tq_X13_expression} (hg : GH_X13_expression g rc) {l1 : Int} {l4 : Int} {s0 : Int} {s1 : Int} {h : ms_M} (a_l1 : 0 ≤ l1) (b_l1 : l1 ≤ 40) (a_l4 : 0 ≤ l4) (b_l4 : l4 ≤ 8999) (a_s0 : 1 ≤ s0) (b_s0 : s0 ≤ 3) (a_s1 : 0 ≤ s1) (b_s1 : s1 ≤ 3000) (V_h : VS_ h) (x_0 : 16 * (40 - l1) + 5 ≤ (g + 1)) (x_1 : h 160 22 ≤ 2 * h 160 23 + 101) (x_2 : h 160 9 = 0) (x_3 : s1 = h 160 23) (x_4 : s1 + s0 + 1 ≤ h 160 8) (x_5 : l1 ≤ 39) (x_6 : l4 < h 160 22) (N_h : EK_ h)  : Ok_ (qj_X13_unary_141 nn rc l1 l4 s0 s1 h) (QIR_ (-1) 8999 (fun u r => (EK_ r) ∧ (r 160 8 = h 160 8) ∧ (h 160 9 = 0 ∨ ¬ r 160 9 = 0) ∧ (h 160 23 ≤ r 160 23) ∧ (r 160 23 + 1 ≤ h 160 8) ∧ (h 160 22 ≤ r 160 22) ∧ (r 160 22 + 2 * h 160 23 + 2 ≤ h 160 22 + 2 * r 160 23) ∧ (¬ r 160 9 = 0 ∨ (0 ≤ u ∧ u < r 160 22)))) := by
  unfold qj_X13_unary_141
  have T1 := gF_160_8 V_h
  have T2 := gF_160_9 V_h
  have T3 := gF_160_22 V_h
  have T4 := gF_160_23 V_h
  refine ok_add (by omega) ?_; intro v1 e_v1
  refine ok_xl ?_; intro h2 E_h2; have V_h2 : VS_ h2 := by rw [E_h2]; exact wF_160_23 V_h (by omega)
  have N_h2 : EK_ h2 := by rw [E_h2]; exact ek_up V_h N_h rfl
  have T5 : h2 160 8 = h 160 8 := by rw [E_h2]; exact up_n (by decide)
  have T6 : h2 160 9 = h 160 9 := by rw [E_h2]; exact up_n (by decide)
  have T7 : h2 160 22 = h 160 22 := by rw [E_h2]; exact up_n (by decide)
  have T8 : h2 160 23 = v1 := by rw [E_h2]; exact up_s
  refine ok_add (by omega) ?_; intro v4 e_v4
  refine ok_cIR (hg.2.2.1 (by omega) (by omega) V_h2 (by omega) (by omega) (by omega) N_h2) ?_; intro u6 E_u6 V_u6 a_u6 b_u6 R_u6
  have N_u6_2 : EK_ u6.2 := R_u6.1
  have T9 := gF_160_8 V_u6
  have T10 := gF_160_9 V_u6
  have T11 := gF_160_22 V_u6
  have T12 := gF_160_23 V_u6
  refine ok_wA (by omega) ?_; intro h7 E_h7; have V_h7 : VS_ h7 := by rw [E_h7]; exact wA_170 V_u6 (by omega)
  have N_h7 : EK_ h7 := by rw [E_h7]; exact ek_ua V_u6 N_u6_2 rfl
  have T13 : h7 160 8 = u6.2 160 8 := by rw [E_h7]; exact up_n (fun z => absurd z.1 (by decide))
  have T14 : h7 160 9 = u6.2 160 9 := by rw [E_h7]; exact up_n (fun z => absurd z.1 (by decide))
  have T15 : h7 160 22 = u6.2 160 22 := by rw [E_h7]; exact up_n (fun z => absurd z.1 (by decide))
  have T16 : h7 160 23 = u6.2 160 23 := by rw [E_h7]; exact up_n (fun z => absurd z.1 (by decide))
  exact ok_rIR V_h7 (by omega) (by omega) ⟨N_h7, by omega⟩
set_option maxRecDepth 4000 in
theorem vj_X13_unary_118 {nn : Nat} (hn : 1000000 ≤ nn) {g : Int} {rc : tq_X13_expression} (hg : GH_X13_expression g rc) {l1 : Int} {l2 : Int} {s0 : Int} {s1 : Int} {h : ms_M} (a_l1 : 0 ≤ l1) (b_l1 : l1 ≤ 40) (a_l2 : 0 ≤ l2) (b_l2 : l2 ≤ 1) (a_s0 : 0 ≤ s0) (b_s0 : s0 ≤ 3000) (a_s1 : 1 ≤ s1) (b_s1 : s1 ≤ 39) (V_h : VS_ h) (x_0 : 16 * (40 - l1) + 5 ≤ (g + 1)) (x_1 : h 160 23 + 1 ≤ h 160 8) (x_2 : h 160 22 ≤ 2 * h 160 23 + 100) (x_3 : h 160 9 = 0) (x_4 : (l2 = 0 ∧ h 160 23 + 2 ≤ h 160 8) ∨ (¬ l2 = 0 ∧ h 160 23 + 4 ≤ h 160 8)) (x_5 : l1 ≤ 39) (N_h : EK_ h)  : Ok_ (qj_X13_unary_118 nn rc l1 l2 s0 s1 h) (QIR_ (-1) 8999 (fun u r => (EK_ r) ∧ (r 160 8 = h 160 8) ∧ (h 160 9 = 0 ∨ ¬ r 160 9 = 0) ∧ (h 160 23 ≤ r 160 23) ∧ (r 160 23 + 1 ≤ h 160 8) ∧ (h 160 22 ≤ r 160 22) ∧ (r 160 22 + 2 * h 160 23 ≤ h 160 22 + 2 * r 160 23 + 0) ∧ (¬ r 160 9 = 0 ∨ (0 ≤ u ∧ u < r 160 22 ∧ r 160 22 + 2 * h 160 23 + 1 ≤ h 160 22 + 2 * r 160 23)))) := by
  unfold qj_X13_unary_118
  have T1 := gF_160_8 V_h
  have T2 := gF_160_9 V_h
  have T3 := gF_160_22 V_h
  have T4 := gF_160_23 V_h
  refine ok_cIR (vf_X13_add hn (by omega) (by omega) (by omega) (by omega) (by omega) (by omega) V_h (by omega)) ?_; intro u10 E_u10 V_u10 a_u10 b_u10 R_u10
  have N_u10_2 : EK_ u10.2 := ek_fr V_h N_h (fun c k z => (ff_X13_add nn) _ E_u10 c k z) rfl
  have T5 : u10.2 160 8 = h 160 8 := (ff_X13_add nn) _ E_u10 160 8 rfl
  have T6 : u10.2 160 9 = h 160 9 := (ff_X13_add nn) _ E_u10 160 9 rfl
  have T7 : u10.2 160 23 = h 160 23 := (ff_X13_add nn) _ E_u10 160 23 rfl
  have T8 := gF_160_22 V_u10
  refine ok_if ?_ ?_
  · intro C8
    exact ok_mI (vj_X13_unary_141 hn hg (by omega) (by omega) (by omega) (by omega) (by omega) (by omega) (by omega) (by omega) V_u10 (by omega) (by omega) (by omega) (by omega) (by omega) (by omega) (by omega) N_u10_2) (fun _ _ V_r R_r => ⟨R_r.1, by have := R_r.2; have := gF_160_8 V_r; have := gF_160_9 V_r; have := gF_160_22 V_r; have := gF_160_23 V_r; omega⟩)
  · intro C8
    exact ok_mI (vj_X13_unary_141 hn hg (by omega) (by omega) (by omega) (by omega) (by omega) (by omega) (by omega) (by omega) V_u10 (by omega) (by omega) (by omega) (by omega) (by omega) (by omega) (by omega) N_u10_2) (fun _ _ V_r R_r => ⟨R_r.1, by have := R_r.2; have := gF_160_8 V_r; have := gF_160_9 V_r; have := gF_160_22 V_r; have := gF_160_23 V_r; omega⟩)
set_option maxRecDepth 4000 in
theorem vj_X13_unary_78 {nn : Nat} (hn : 1000000 ≤ nn) {g : Int} {rc : tq_X13_expression} (hg : GH_X13_expression g rc) {l1 : Int} {l2 : Int} {s0 : Int} {h : ms_M} (a_l1 : 0 ≤ l1) (b_l1 : l1 ≤ 40) (a_l2 : 0 ≤ l2) (b_l2 : l2 ≤ 1) (a_s0 : 0 ≤ s0) (b_s0 : s0 ≤ 39) (V_h : VS_ h) (x_0 : 16 * (40 - l1) + 5 ≤ (g + 1)) (x_1 : h 160 23 + 1 ≤ h 160 8) (x_2 : h 160 22 ≤ 2 * h 160 23 + 100) (x_3 : h 160 9 = 0) (x_4 : s0 = 0 ∨ (l2 = 0 ∧ h 160 23 + 2 ≤ h 160 8) ∨ (¬ l2 = 0 ∧ h 160 23 + 4 ≤ h 160 8)) (N_h : EK_ h)  : Ok_ (qj_X13_unary_78 nn rc l1 l2 s0 h) (QIR_ (-1) 8999 (fun u r => (EK_ r) ∧ (r 160 8 = h 160 8) ∧ (h 160 9 = 0 ∨ ¬ r 160 9 = 0) ∧ (h 160 23 ≤ r 160 23) ∧ (r 160 23 + 1 ≤ h 160 8) ∧ (h 160 22 ≤ r 160 22) ∧ (r 160 22 + 2 * h 160 23 ≤ h 160 22 + 2 * r 160 23 + 0) ∧ (¬ r 160 9 = 0 ∨ (0 ≤ u ∧ u < r 160 22 ∧ r 160 22 + 2 * h 160 23 + 1 ≤ h 160 22 + 2 * r 160 23)))) := by
  unfold qj_X13_unary_78
  have T1 := gF_160_8 V_h
  have T2 := gF_160_9 V_h
  have T3 := gF_160_22 V_h
  have T4 := gF_160_23 V_h
  refine ok_if ?_ ?_
  · intro C4
    refine ok_cIR (vf_X13_isDeep hn (by omega) (by omega) V_h (by omega) N_h) ?_; intro u14 E_u14 V_u14 a_u14 b_u14 R_u14
    have N_u14_2 : EK_ u14.2 := ek_fr V_h N_h (fun c k z => (ff_X13_isDeep nn) _ E_u14 c k z) rfl
    have T6 : u14.2 160 8 = h 160 8 := (ff_X13_isDeep nn) _ E_u14 160 8 rfl
    have T7 : u14.2 160 22 = h 160 22 := (ff_X13_isDeep nn) _ E_u14 160 22 rfl
    have T8 : u14.2 160 23 = h 160 23 := (ff_X13_isDeep nn) _ E_u14 160 23 rfl
    have T9 := gF_160_9 V_u14
    refine ok_if ?_ ?_
    · intro C9
      refine ok_if ?_ ?_
      · intro C10
        exact ok_mI (vj_X13_unary_118 hn hg (by omega) (by omega) (by omega) (by omega) (by omega) (by omega) (by omega) (by omega) V_u14 (by omega) (by omega) (by omega) (by omega) (by omega) (by omega) N_u14_2) (fun _ _ V_r R_r => ⟨R_r.1, by have := R_r.2; have := gF_160_8 V_r; have := gF_160_9 V_r; have := gF_160_22 V_r; have := gF_160_23 V_r; omega⟩)
      · intro C10
        refine ok_add (by omega) ?_; intro v17 e_v17
        exact ok_mI (vj_X13_unary_118 hn hg (by omega) (by omega) (by omega) (by omega) (by omega) (by omega) (by omega) (by omega) V_u14 (by omega) (by omega) (by omega) (by omega) (by omega) (by omega) N_u14_2) (fun _ _ V_r R_r => ⟨R_r.1, by have := R_r.2; have := gF_160_8 V_r; have := gF_160_9 V_r; have := gF_160_22 V_r; have := gF_160_23 V_r; omega⟩)
    · intro C9
      exact ok_rIR V_u14 (by omega) (by omega) ⟨N_u14_2, by omega⟩
  · intro C4
    refine ok_cIR (hg.2.2.2.2.1 (by omega) (by omega) V_h (by omega) (by omega) (by omega) (by omega) N_h) ?_; intro u21 E_u21 V_u21 a_u21 b_u21 R_u21
    have N_u21_2 : EK_ u21.2 := R_u21.1
    have T12 := gF_160_8 V_u21
    have T13 := gF_160_9 V_u21
    have T14 := gF_160_22 V_u21
    have T15 := gF_160_23 V_u21
    exact ok_rIR V_u21 (by omega) (by omega) ⟨N_u21_2, by omega⟩
set_option maxRecDepth 4000 in
theorem vo_X13_unary {nn : Nat} (hn : 1000000 ≤ nn) {g : Int} {rc : tq_X13_expression} (hg : GH_X13_expression g rc) {a1 : Int} {h : ms_M} (a_a1 : 0 ≤ a1) (b_a1 : a1 ≤ 40) (V_h : VS_ h) (x_0 : 16 * (40 - a1) + 5 ≤ (g + 1)) (x_1 : h 160 23 + 1 ≤ h 160 8) (x_2 : h 160 22 ≤ 2 * h 160 23 + 100) (N_h : EK_ h)  : Ok_ (qo_X13_unary nn rc a1 h) (QIR_ (-1) 8999 (fun u r => (EK_ r) ∧ (r 160 8 = h 160 8) ∧ (h 160 9 = 0 ∨ ¬ r 160 9 = 0) ∧ (h 160 23 ≤ r 160 23) ∧ (r 160 23 + 1 ≤ h 160 8) ∧ (h 160 22 ≤ r 160 22) ∧ (r 160 22 + 2 * h 160 23 ≤ h 160 22 + 2 * r 160 23 + 0) ∧ (¬ r 160 9 = 0 ∨ (0 ≤ u ∧ u < r 160 22 ∧ r 160 22 + 2 * h 160 23 + 1 ≤ h 160 22 + 2 * r 160 23)))) := by
  unfold qo_X13_unary
  have T1 := gF_160_8 V_h
  have T2 := gF_160_9 V_h
  have T3 := gF_160_22 V_h
  have T4 := gF_160_23 V_h
  refine ok_if ?_ ?_
  · intro C4
    refine ok_cP (vf_X13_isCast hn V_h (by omega) N_h) ?_; intro u25 e_u25 a_u25 b_u25
    have T6 := lm_ek_isCast V_h N_h (by omega) e_u25
    refine ok_cP (vf_X13_isSign hn (by omega) (by omega) (by omega) (by omega) V_h) ?_; intro u28 e_u28 a_u28 b_u28
    have T7 := lm_ek_isSign N_h (by omega) e_u28
    refine ok_if ?_ ?_
    · intro C7
      refine ok_cP (vf_X13_isSign hn (by omega) (by omega) (by omega) (by omega) V_h) ?_; intro u31 e_u31 a_u31 b_u31
      have T9 := lm_ek_isSign N_h (by omega) e_u31
      refine ok_if ?_ ?_
      · intro C9
        refine ok_cP (vf_X13_isSign hn (by omega) (by omega) (by omega) (by omega) V_h) ?_; intro u34 e_u34 a_u34 b_u34
        have T11 := lm_ek_isSign N_h (by omega) e_u34
        refine ok_if ?_ ?_
        · intro C11
          refine ok_if ?_ ?_
          · intro C12
            exact ok_mI (vj_X13_unary_78 hn hg (by omega) (by omega) (by omega) (by omega) (by omega) (by omega) V_h (by omega) (by omega) (by omega) (by omega) (by omega) N_h) (fun _ _ V_r R_r => ⟨R_r.1, by have := R_r.2; have := gF_160_8 V_r; have := gF_160_9 V_r; have := gF_160_22 V_r; have := gF_160_23 V_r; omega⟩)
          · intro C12
            exact ok_mI (vj_X13_unary_78 hn hg (by omega) (by omega) (by omega) (by omega) (by omega) (by omega) V_h (by omega) (by omega) (by omega) (by omega) (by omega) N_h) (fun _ _ V_r R_r => ⟨R_r.1, by have := R_r.2; have := gF_160_8 V_r; have := gF_160_9 V_r; have := gF_160_22 V_r; have := gF_160_23 V_r; omega⟩)
        · intro C11
          exact ok_mI (vj_X13_unary_78 hn hg (by omega) (by omega) (by omega) (by omega) (by omega) (by omega) V_h (by omega) (by omega) (by omega) (by omega) (by omega) N_h) (fun _ _ V_r R_r => ⟨R_r.1, by have := R_r.2; have := gF_160_8 V_r; have := gF_160_9 V_r; have := gF_160_22 V_r; have := gF_160_23 V_r; omega⟩)
      · intro C9
        exact ok_mI (vj_X13_unary_78 hn hg (by omega) (by omega) (by omega) (by omega) (by omega) (by omega) V_h (by omega) (by omega) (by omega) (by omega) (by omega) N_h) (fun _ _ V_r R_r => ⟨R_r.1, by have := R_r.2; have := gF_160_8 V_r; have := gF_160_9 V_r; have := gF_160_22 V_r; have := gF_160_23 V_r; omega⟩)
    · intro C7
      exact ok_mI (vj_X13_unary_78 hn hg (by omega) (by omega) (by omega) (by omega) (by omega) (by omega) V_h (by omega) (by omega) (by omega) (by omega) (by omega) N_h) (fun _ _ V_r R_r => ⟨R_r.1, by have := R_r.2; have := gF_160_8 V_r; have := gF_160_9 V_r; have := gF_160_22 V_r; have := gF_160_23 V_r; omega⟩)
  · intro C4
    exact ok_rIR V_h (by omega) (by omega) ⟨N_h, by omega⟩
set_option maxRecDepth 4000 in
theorem vj_X13_arguments_113 {nn : Nat} (hn : 1000000 ≤ nn) {g : Int} {rc : tq_X13_expression} (hg : GH_X13_expression g rc) {l2 : Int} {h : ms_M} (a_l2 : (-1) ≤ l2) (b_l2 : l2 ≤ 8999) (V_h : VS_ h) (x_0 : h 160 23 + 1 ≤ h 160 8) (x_1 : h 160 22 ≤ 2 * h 160 23 + 100) (N_h : EK_ h)  : Ok_ (qj_X13_arguments_113 nn rc l2 h) (QIR_ (-1) 8999 (fun u r => (EK_ r) ∧ (r 160 8 = h 160 8) ∧ (h 160 9 = 0 ∨ ¬ r 160 9 = 0) ∧ (h 160 23 ≤ r 160 23) ∧ (r 160 23 + 1 ≤ h 160 8) ∧ (h 160 22 ≤ r 160 22) ∧ (r 160 22 + 2 * h 160 23 ≤ h 160 22 + 2 * r 160 23 + 0))) := by
  unfold qj_X13_arguments_113
  have T1 := gF_160_8 V_h
  have T2 := gF_160_9 V_h
  have T3 := gF_160_22 V_h
  have T4 := gF_160_23 V_h
  refine ok_cVR (vf_X13_sign_ hn (by omega) (by omega) V_h (by omega) N_h) ?_; intro u2 E_u2 V_u2 R_u2
  have N_u2 : EK_ u2 := ek_fr V_h N_h (fun c k z => (ff_X13_sign_ nn) _ E_u2 c k z) rfl
  have T5 : u2 160 8 = h 160 8 := (ff_X13_sign_ nn) _ E_u2 160 8 rfl
  have T6 : u2 160 22 = h 160 22 := (ff_X13_sign_ nn) _ E_u2 160 22 rfl
  have T7 := gF_160_9 V_u2
  have T8 := gF_160_23 V_u2
  exact ok_rIR V_u2 (by omega) (by omega) ⟨N_u2, by omega⟩
set_option maxRecDepth 4000 in
theorem vj_X13_arguments_41 {nn : Nat} (hn : 1000000 ≤ nn) {g : Int} {rc : tq_X13_expression} (hg : GH_X13_expression g rc) {qkk_10 : Int → Int → Int → ms_M → Option (Int × ms_M)} {K_kk_10 : Int} (hk_kk_10 : ∀ {l1 : Int} {l2 : Int} {l3 : Int} {h : ms_M} (a_l1 : 0 ≤ l1) (b_l1 : l1 ≤ 40) (a_l2 : (-1) ≤ l2) (b_l2 : l2 ≤ 8999) (a_l3 : (-1) ≤ l3) (b_l3 : l3 ≤ 8999) (V_h : VS_ h) (x_0 : 16 * (40 - l1) + 2 ≤ (g + 1)) (x_1 : h 160 23 + 1 ≤ h 160 8) (x_2 : h 160 22 ≤ 2 * h 160 23 + 100) (x_3 : l2 = -1 ∨ (0 ≤ l3 ∧ l3 < h 160 22)) (N_h : EK_ h) (_ : 3001 - h 160 23 < K_kk_10), Ok_ (qkk_10 l1 l2 l3 h) (QIR_ (-1) 8999 (fun u r => (EK_ r) ∧ (r 160 8 = h 160 8) ∧ (h 160 9 = 0 ∨ ¬ r 160 9 = 0) ∧ (h 160 23 ≤ r 160 23) ∧ (r 160 23 + 1 ≤ h 160 8) ∧ (h 160 22 ≤ r 160 22) ∧ (r 160 22 + 2 * h 160 23 ≤ h 160 22 + 2 * r 160 23 + 0)))) {l1 : Int} {l2 : Int} {l3 : Int} {h : ms_M} (a_l1 : 0 ≤ l1) (b_l1 : l1 ≤ 40) (a_l2 : (-1) ≤ l2) (b_l2 : l2 ≤ 8999) (a_l3 : (-1) ≤ l3) (b_l3 : l3 ≤ 8999) (V_h : VS_ h) (x_0 : 16 * (40 - l1) + 2 ≤ (g + 1)) (x_1 : h 160 23 + 1 ≤ h 160 8) (x_2 : h 160 22 ≤ 2 * h 160 23 + 100) (x_3 : l2 = -1 ∨ (0 ≤ l3 ∧ l3 < h 160 22)) (N_h : EK_ h) (hm_kk_10 : 3001 - h 160 23 + 0 ≤ K_kk_10) : Ok_ (qj_X13_arguments_41 nn rc qkk_10 l1 l2 l3 h) (QIR_ (-1) 8999 (fun u r => (EK_ r) ∧ (r 160 8 = h 160 8) ∧ (h 160 9 = 0 ∨ ¬ r 160 9 = 0) ∧ (h 160 23 ≤ r 160 23) ∧ (r 160 23 + 1 ≤ h 160 8) ∧ (h 160 22 ≤ r 160 22) ∧ (r 160 22 + 2 * h 160 23 ≤ h 160 22 + 2 * r 160 23 + 0))) := by
  unfold qj_X13_arguments_41
  have T1 := gF_160_8 V_h
  have T2 := gF_160_9 V_h
  have T3 := gF_160_22 V_h
  have T4 := gF_160_23 V_h
  refine ok_cIR (hg.1 (by omega) (by omega) V_h (by omega) (by omega) (by omega) N_h) ?_; intro u4 E_u4 V_u4 a_u4 b_u4 R_u4
  have N_u4_2 : EK_ u4.2 := R_u4.1
  have T5 := gF_160_8 V_u4
  have T6 := gF_160_9 V_u4
  have T7 := gF_160_22 V_u4
  have T8 := gF_160_23 V_u4
  refine ok_if ?_ ?_
  · intro C8
    refine ok_rd (by omega) (gA_169 V_u4) ?_; intro v7 e_v7 a_v7 b_v7
    refine ok_rd (by omega) (gA_169 V_u4) ?_; intro v9 e_v9 a_v9 b_v9
    refine ok_cIR (vf_X13_add hn (by omega) (by omega) (by omega) (by omega) (by omega) (by omega) V_u4 (by omega)) ?_; intro u11 E_u11 V_u11 a_u11 b_u11 R_u11
    have N_u11_2 : EK_ u11.2 := ek_fr V_u4 N_u4_2 (fun c k z => (ff_X13_add nn) _ E_u11 c k z) rfl
    have T10 : u11.2 160 8 = u4.2 160 8 := (ff_X13_add nn) _ E_u11 160 8 rfl
    have T11 : u11.2 160 9 = u4.2 160 9 := (ff_X13_add nn) _ E_u11 160 9 rfl
    have T12 : u11.2 160 23 = u4.2 160 23 := (ff_X13_add nn) _ E_u11 160 23 rfl
    have T13 := gF_160_22 V_u11
    refine ok_wA (by omega) ?_; intro h13 E_h13; have V_h13 : VS_ h13 := by rw [E_h13]; exact wA_170 V_u11 (by omega)
    have N_h13 : EK_ h13 := by rw [E_h13]; exact ek_ua V_u11 N_u11_2 rfl
    have T14 : h13 160 8 = u11.2 160 8 := by rw [E_h13]; exact up_n (fun z => absurd z.1 (by decide))
    have T15 : h13 160 9 = u11.2 160 9 := by rw [E_h13]; exact up_n (fun z => absurd z.1 (by decide))
    have T16 : h13 160 23 = u11.2 160 23 := by rw [E_h13]; exact up_n (fun z => absurd z.1 (by decide))
    have T17 : h13 160 22 = u11.2 160 22 := by rw [E_h13]; exact up_n (fun z => absurd z.1 (by decide))
    refine ok_if ?_ ?_
    · intro C17
      refine ok_wA (by omega) ?_; intro h15 E_h15; have V_h15 : VS_ h15 := by rw [E_h15]; exact wA_173 V_h13 (by omega)
      have N_h15 : EK_ h15 := by rw [E_h15]; exact ek_ua V_h13 N_h13 rfl
      have T19 : h15 160 8 = h13 160 8 := by rw [E_h15]; exact up_n (fun z => absurd z.1 (by decide))
      have T20 : h15 160 9 = h13 160 9 := by rw [E_h15]; exact up_n (fun z => absurd z.1 (by decide))
      have T21 : h15 160 23 = h13 160 23 := by rw [E_h15]; exact up_n (fun z => absurd z.1 (by decide))
      have T22 : h15 160 22 = h13 160 22 := by rw [E_h15]; exact up_n (fun z => absurd z.1 (by decide))
      exact ok_mI (hk_kk_10 (by omega) (by omega) (by omega) (by omega) (by omega) (by omega) V_h15 (by omega) (by omega) (by omega) (by omega) N_h15 (by omega)) (fun _ _ V_r R_r => ⟨R_r.1, by have := R_r.2; have := gF_160_8 V_r; have := gF_160_9 V_r; have := gF_160_22 V_r; have := gF_160_23 V_r; omega⟩)
    · intro C17
      exact ok_mI (hk_kk_10 (by omega) (by omega) (by omega) (by omega) (by omega) (by omega) V_h13 (by omega) (by omega) (by omega) (by omega) N_h13 (by omega)) (fun _ _ V_r R_r => ⟨R_r.1, by have := R_r.2; have := gF_160_8 V_r; have := gF_160_9 V_r; have := gF_160_22 V_r; have := gF_160_23 V_r; omega⟩)
  · intro C8
    exact ok_rIR V_u4 (by omega) (by omega) ⟨N_u4_2, by omega⟩
set_option maxRecDepth 4000 in
theorem vw_X13_arguments_10 {nn : Nat} (hn : 1000000 ≤ nn) {g : Int} {rc : tq_X13_expression} (hg : GH_X13_expression g rc) : ∀ (k : Nat) {l1 : Int} {l2 : Int} {l3 : Int} {h : ms_M} (a_l1 : 0 ≤ l1) (b_l1 : l1 ≤ 40) (a_l2 : (-1) ≤ l2) (b_l2 : l2 ≤ 8999) (a_l3 : (-1) ≤ l3) (b_l3 : l3 ≤ 8999) (V_h : VS_ h) (x_0 : 16 * (40 - l1) + 2 ≤ (g + 1)) (x_1 : h 160 23 + 1 ≤ h 160 8) (x_2 : h 160 22 ≤ 2 * h 160 23 + 100) (x_3 : l2 = -1 ∨ (0 ≤ l3 ∧ l3 < h 160 22)) (N_h : EK_ h)  (hm : 3001 - h 160 23 < (k : Int)), Ok_ (qw_X13_arguments_10 nn rc k l1 l2 l3 h) (QIR_ (-1) 8999 (fun u r => (EK_ r) ∧ (r 160 8 = h 160 8) ∧ (h 160 9 = 0 ∨ ¬ r 160 9 = 0) ∧ (h 160 23 ≤ r 160 23) ∧ (r 160 23 + 1 ≤ h 160 8) ∧ (h 160 22 ≤ r 160 22) ∧ (r 160 22 + 2 * h 160 23 ≤ h 160 22 + 2 * r 160 23 + 0))) := by
  intro k
  induction k with
  | zero => intro l1 l2 l3 h a_l1 b_l1 a_l2 b_l2 a_l3 b_l3 V_h x_0 x_1 x_2 x_3 N_h hm; have := gF_160_23 V_h; have := gF_160_9 V_h; exfalso; omega
  | succ k ih =>
    intro l1 l2 l3 h a_l1 b_l1 a_l2 b_l2 a_l3 b_l3 V_h x_0 x_1 x_2 x_3 N_h hm
    unfold qw_X13_arguments_10
    have T1 := gF_160_8 V_h
    have T2 := gF_160_9 V_h
    have T3 := gF_160_22 V_h
    have T4 := gF_160_23 V_h
    refine ok_if ?_ ?_
    · intro C4
      exact ok_mI (vj_X13_arguments_113 hn hg (by omega) (by omega) V_h (by omega) (by omega) N_h) (fun _ _ V_r R_r => ⟨R_r.1, by have := R_r.2; have := gF_160_8 V_r; have := gF_160_9 V_r; have := gF_160_22 V_r; have := gF_160_23 V_r; omega⟩)
    · intro C4
      refine ok_cP (vf_X13_isSign hn (by omega) (by omega) (by omega) (by omega) V_h) ?_; intro u21 e_u21 a_u21 b_u21
      have T6 := lm_ek_isSign N_h (by omega) e_u21
      refine ok_if ?_ ?_
      · intro C6
        exact ok_mI (vj_X13_arguments_113 hn hg (by omega) (by omega) V_h (by omega) (by omega) N_h) (fun _ _ V_r R_r => ⟨R_r.1, by have := R_r.2; have := gF_160_8 V_r; have := gF_160_9 V_r; have := gF_160_22 V_r; have := gF_160_23 V_r; omega⟩)
      · intro C6
        refine ok_if ?_ ?_
        · intro C7
          exact ok_mI (vj_X13_arguments_41 hn hg ih (by omega) (by omega) (by omega) (by omega) (by omega) (by omega) V_h (by omega) (by omega) (by omega) (by omega) N_h (by omega)) (fun _ _ V_r R_r => ⟨R_r.1, by have := R_r.2; have := gF_160_8 V_r; have := gF_160_9 V_r; have := gF_160_22 V_r; have := gF_160_23 V_r; omega⟩)
        · intro C7
          refine ok_cVR (vf_X13_sign_ hn (by omega) (by omega) V_h (by omega) N_h) ?_; intro u23 E_u23 V_u23 R_u23
          have N_u23 : EK_ u23 := ek_fr V_h N_h (fun c k z => (ff_X13_sign_ nn) _ E_u23 c k z) rfl
          have T9 : u23 160 8 = h 160 8 := (ff_X13_sign_ nn) _ E_u23 160 8 rfl
          have T10 : u23 160 22 = h 160 22 := (ff_X13_sign_ nn) _ E_u23 160 22 rfl
          have T11 := gF_160_9 V_u23
          have T12 := gF_160_23 V_u23
          exact ok_mI (vj_X13_arguments_41 hn hg ih (by omega) (by omega) (by omega) (by omega) (by omega) (by omega) V_u23 (by omega) (by omega) (by omega) (by omega) N_u23 (by omega)) (fun _ _ V_r R_r => ⟨R_r.1, by have := R_r.2; have := gF_160_8 V_r; have := gF_160_9 V_r; have := gF_160_22 V_r; have := gF_160_23 V_r; omega⟩)
set_option maxRecDepth 4000 in
theorem vo_X13_arguments {nn : Nat} (hn : 1000000 ≤ nn) {g : Int} {rc : tq_X13_expression} (hg : GH_X13_expression g rc) {a1 : Int} {h : ms_M} (a_a1 : 0 ≤ a1) (b_a1 : a1 ≤ 40) (V_h : VS_ h) (x_0 : 16 * (40 - a1) + 2 ≤ (g + 1)) (x_1 : h 160 23 + 1 ≤ h 160 8) (x_2 : h 160 22 ≤ 2 * h 160 23 + 100) (N_h : EK_ h)  : Ok_ (qo_X13_arguments nn rc a1 h) (QIR_ (-1) 8999 (fun u r => (EK_ r) ∧ (r 160 8 = h 160 8) ∧ (h 160 9 = 0 ∨ ¬ r 160 9 = 0) ∧ (h 160 23 ≤ r 160 23) ∧ (r 160 23 + 1 ≤ h 160 8) ∧ (h 160 22 ≤ r 160 22) ∧ (r 160 22 + 2 * h 160 23 ≤ h 160 22 + 2 * r 160 23 + 0))) := by
  unfold qo_X13_arguments
  have T1 := gF_160_8 V_h
  have T2 := gF_160_9 V_h
  have T3 := gF_160_22 V_h
  have T4 := gF_160_23 V_h
  refine ok_cVR (vf_X13_sign_ hn (by omega) (by omega) V_h (by omega) N_h) ?_; intro u28 E_u28 V_u28 R_u28
  have N_u28 : EK_ u28 := ek_fr V_h N_h (fun c k z => (ff_X13_sign_ nn) _ E_u28 c k z) rfl
  have T5 : u28 160 8 = h 160 8 := (ff_X13_sign_ nn) _ E_u28 160 8 rfl
  have T6 : u28 160 22 = h 160 22 := (ff_X13_sign_ nn) _ E_u28 160 22 rfl
  have T7 := gF_160_9 V_u28
  have T8 := gF_160_23 V_u28
  exact ok_mI (vw_X13_arguments_10 hn hg _ (by omega) (by omega) (by omega) (by omega) (by omega) (by omega) V_u28 (by omega) (by omega) (by omega) (by omega) N_u28 (by omega)) (fun _ _ V_r R_r => ⟨R_r.1, by have := R_r.2; have := gF_160_8 V_r; have := gF_160_9 V_r; have := gF_160_22 V_r; have := gF_160_23 V_r; omega⟩)
set_option maxRecDepth 4000 in
theorem vj_X13_postfix_194 {nn : Nat} (hn : 1000000 ≤ nn) {g : Int} {rc : tq_X13_expression} (hg : GH_X13_expression g rc) {qkk_11 : Int → Int → Int → ms_M → Option (Int × ms_M)} {K_kk_11 : Int} (hk_kk_11 : ∀ {l1 : Int} {l2 : Int} {l3 : Int} {h : ms_M} (a_l1 : 0 ≤ l1) (b_l1 : l1 ≤ 40) (a_l2 : 0 ≤ l2) (b_l2 : l2 ≤ 3000) (a_l3 : (-1) ≤ l3) (b_l3 : l3 ≤ 8999) (V_h : VS_ h) (x_0 : 16 * (40 - l1) + 4 ≤ (g + 1)) (x_1 : h 160 23 + 1 ≤ h 160 8) (x_2 : h 160 22 ≤ 2 * h 160 23 + 100) (x_3 : ¬ h 160 9 = 0 ∨ (0 ≤ l3 ∧ l3 < h 160 22)) (N_h : EK_ h) (_ : 3001 - h 160 23 < K_kk_11), Ok_ (qkk_11 l1 l2 l3 h) (QIR_ (-1) 8999 (fun u r => (EK_ r) ∧ (r 160 8 = h 160 8) ∧ (h 160 9 = 0 ∨ ¬ r 160 9 = 0) ∧ (h 160 23 ≤ r 160 23) ∧ (r 160 23 + 1 ≤ h 160 8) ∧ (h 160 22 ≤ r 160 22) ∧ (r 160 22 + 2 * h 160 23 ≤ h 160 22 + 2 * r 160 23 + 0) ∧ (¬ r 160 9 = 0 ∨ (0 ≤ u ∧ u < r 160 22))))) {l1 : Int} {l2 : Int} {l4 : Int} {h : ms_M} (a_l1 : 0 ≤ l1) (b_l1 : l1 ≤ 40) (a_l2 : 0 ≤ l2) (b_l2 : l2 ≤ 3000) (a_l4 : (-1) ≤ l4) (b_l4 : l4 ≤ 8999) (V_h : VS_ h) (x_0 : 16 * (40 - l1) + 4 ≤ (g + 1)) (x_1 : h 160 23 + 1 ≤ h 160 8) (x_2 : h 160 22 ≤ 2 * h 160 23 + 100) (x_3 : ¬ h 160 9 = 0 ∨ (0 ≤ l4 ∧ l4 < h 160 22)) (N_h : EK_ h) (hm_kk_11 : 3001 - h 160 23 + 1 ≤ K_kk_11) : Ok_ (qj_X13_postfix_194 nn rc qkk_11 l1 l2 l4 h) (QIR_ (-1) 8999 (fun u r => (EK_ r) ∧ (r 160 8 = h 160 8) ∧ (h 160 9 = 0 ∨ ¬ r 160 9 = 0) ∧ (h 160 23 ≤ r 160 23) ∧ (r 160 23 + 1 ≤ h 160 8) ∧ (h 160 22 ≤ r 160 22) ∧ (r 160 22 + 2 * h 160 23 ≤ h 160 22 + 2 * r 160 23 + 0) ∧ (¬ r 160 9 = 0 ∨ (0 ≤ u ∧ u < r 160 22)))) := by
  unfold qj_X13_postfix_194
  have T1 := gF_160_8 V_h
  have T2 := gF_160_9 V_h
  have T3 := gF_160_22 V_h
  have T4 := gF_160_23 V_h
  refine ok_cVR (vf_X13_sign_ hn (by omega) (by omega) V_h (by omega) N_h) ?_; intro u2 E_u2 V_u2 R_u2
  have N_u2 : EK_ u2 := ek_fr V_h N_h (fun c k z => (ff_X13_sign_ nn) _ E_u2 c k z) rfl
  have T5 : u2 160 8 = h 160 8 := (ff_X13_sign_ nn) _ E_u2 160 8 rfl
  have T6 : u2 160 22 = h 160 22 := (ff_X13_sign_ nn) _ E_u2 160 22 rfl
  have T7 := gF_160_9 V_u2
  have T8 := gF_160_23 V_u2
  exact ok_mI (hk_kk_11 (by omega) (by omega) (by omega) (by omega) (by omega) (by omega) V_u2 (by omega) (by omega) (by omega) (by omega) N_u2 (by omega)) (fun _ _ V_r R_r => ⟨R_r.1, by have := R_r.2; have := gF_160_8 V_r; have := gF_160_9 V_r; have := gF_160_22 V_r; have := gF_160_23 V_r; omega⟩)
set_option maxRecDepth 4000 in
theorem vj_X13_postfix_44 {nn : Nat} (hn : 1000000 ≤ nn) {g : Int} {rc : tq_X13_expression} (hg : GH_X13_expression g rc) {qkk_11 : Int → Int → Int → ms_M → Option (Int × ms_M)} {K_kk_11 : Int} (hk_kk_11 : ∀ {l1 : Int} {l2 : Int} {l3 : Int} {h : ms_M} (a_l1 : 0 ≤ l1) (b_l1 : l1 ≤ 40) (a_l2 : 0 ≤ l2) (b_l2 : l2 ≤ 3000) (a_l3 : (-1) ≤ l3) (b_l3 : l3 ≤ 8999) (V_h : VS_ h) (x_0 : 16 * (40 - l1) + 4 ≤ (g + 1)) (x_1 : h 160 23 + 1 ≤ h 160 8) (x_2 : h 160 22 ≤ 2 * h 160 23 + 100) (x_3 : ¬ h 160 9 = 0 ∨ (0 ≤ l3 ∧ l3 < h 160 22)) (N_h : EK_ h) (_ : 3001 - h 160 23 < K_kk_11), Ok_ (qkk_11 l1 l2 l3 h) (QIR_ (-1) 8999 (fun u r => (EK_ r) ∧ (r 160 8 = h 160 8) ∧ (h 160 9 = 0 ∨ ¬ r 160 9 = 0) ∧ (h 160 23 ≤ r 160 23) ∧ (r 160 23 + 1 ≤ h 160 8) ∧ (h 160 22 ≤ r 160 22) ∧ (r 160 22 + 2 * h 160 23 ≤ h 160 22 + 2 * r 160 23 + 0) ∧ (¬ r 160 9 = 0 ∨ (0 ≤ u ∧ u < r 160 22))))) {l1 : Int} {l2 : Int} {l3 : Int} {h : ms_M} (a_l1 : 0 ≤ l1) (b_l1 : l1 ≤ 40) (a_l2 : 0 ≤ l2) (b_l2 : l2 ≤ 3000) (a_l3 : (-1) ≤ l3) (b_l3 : l3 ≤ 8999) (V_h : VS_ h) (x_0 : 16 * (40 - l1) + 4 ≤ (g + 1)) (x_1 : h 160 23 + 2 ≤ h 160 8) (x_2 : h 160 22 ≤ 2 * h 160 23 + 100) (x_3 : h 160 9 = 0) (x_4 : 0 ≤ l3 ∧ l3 < h 160 22) (N_h : EK_ h) (hm_kk_11 : 3001 - h 160 23 + 0 ≤ K_kk_11) : Ok_ (qj_X13_postfix_44 nn rc qkk_11 l1 l2 l3 h) (QIR_ (-1) 8999 (fun u r => (EK_ r) ∧ (r 160 8 = h 160 8) ∧ (h 160 9 = 0 ∨ ¬ r 160 9 = 0) ∧ (h 160 23 ≤ r 160 23) ∧ (r 160 23 + 1 ≤ h 160 8) ∧ (h 160 22 ≤ r 160 22) ∧ (r 160 22 + 2 * h 160 23 ≤ h 160 22 + 2 * r 160 23 + 0) ∧ (¬ r 160 9 = 0 ∨ (0 ≤ u ∧ u < r 160 22)))) := by
  unfold qj_X13_postfix_44
  have T1 := gF_160_8 V_h
  have T2 := gF_160_9 V_h
  have T3 := gF_160_22 V_h
  have T4 := gF_160_23 V_h
  refine ok_cP (vf_X13_isSign hn (by omega) (by omega) (by omega) (by omega) V_h) ?_; intro u5 e_u5 a_u5 b_u5
  have T5 := lm_ek_isSign N_h (by omega) e_u5
  refine ok_if ?_ ?_
  · intro C5
    refine ok_cIR (vf_X13_add hn (by omega) (by omega) (by omega) (by omega) (by omega) (by omega) V_h (by omega)) ?_; intro u8 E_u8 V_u8 a_u8 b_u8 R_u8
    have N_u8_2 : EK_ u8.2 := ek_fr V_h N_h (fun c k z => (ff_X13_add nn) _ E_u8 c k z) rfl
    have T7 : u8.2 160 8 = h 160 8 := (ff_X13_add nn) _ E_u8 160 8 rfl
    have T8 : u8.2 160 9 = h 160 9 := (ff_X13_add nn) _ E_u8 160 9 rfl
    have T9 : u8.2 160 23 = h 160 23 := (ff_X13_add nn) _ E_u8 160 23 rfl
    have T10 := gF_160_22 V_u8
    refine ok_add (by omega) ?_; intro v10 e_v10
    refine ok_xl ?_; intro h11 E_h11; have V_h11 : VS_ h11 := by rw [E_h11]; exact wF_160_23 V_u8 (by omega)
    have N_h11 : EK_ h11 := by rw [E_h11]; exact ek_up V_u8 N_u8_2 rfl
    have T11 : h11 160 8 = u8.2 160 8 := by rw [E_h11]; exact up_n (by decide)
    have T12 : h11 160 9 = u8.2 160 9 := by rw [E_h11]; exact up_n (by decide)
    have T13 : h11 160 22 = u8.2 160 22 := by rw [E_h11]; exact up_n (by decide)
    have T14 : h11 160 23 = v10 := by rw [E_h11]; exact up_s
    refine ok_wA (by omega) ?_; intro h13 E_h13; have V_h13 : VS_ h13 := by rw [E_h13]; exact wA_170 V_h11 (by omega)
    have N_h13 : EK_ h13 := by rw [E_h13]; exact ek_ua V_h11 N_h11 rfl
    have T15 : h13 160 8 = h11 160 8 := by rw [E_h13]; exact up_n (fun z => absurd z.1 (by decide))
    have T16 : h13 160 9 = h11 160 9 := by rw [E_h13]; exact up_n (fun z => absurd z.1 (by decide))
    have T17 : h13 160 22 = h11 160 22 := by rw [E_h13]; exact up_n (fun z => absurd z.1 (by decide))
    have T18 : h13 160 23 = h11 160 23 := by rw [E_h13]; exact up_n (fun z => absurd z.1 (by decide))
    refine ok_cIR (hg.1 (by omega) (by omega) V_h13 (by omega) (by omega) (by omega) N_h13) ?_; intro u16 E_u16 V_u16 a_u16 b_u16 R_u16
    have N_u16_2 : EK_ u16.2 := R_u16.1
    have T19 := gF_160_8 V_u16
    have T20 := gF_160_9 V_u16
    have T21 := gF_160_22 V_u16
    have T22 := gF_160_23 V_u16
    refine ok_wA (by omega) ?_; intro h17 E_h17; have V_h17 : VS_ h17 := by rw [E_h17]; exact wA_171 V_u16 (by omega)
    have N_h17 : EK_ h17 := by rw [E_h17]; exact ek_ua V_u16 N_u16_2 rfl
    have T23 : h17 160 8 = u16.2 160 8 := by rw [E_h17]; exact up_n (fun z => absurd z.1 (by decide))
    have T24 : h17 160 9 = u16.2 160 9 := by rw [E_h17]; exact up_n (fun z => absurd z.1 (by decide))
    have T25 : h17 160 22 = u16.2 160 22 := by rw [E_h17]; exact up_n (fun z => absurd z.1 (by decide))
    have T26 : h17 160 23 = u16.2 160 23 := by rw [E_h17]; exact up_n (fun z => absurd z.1 (by decide))
    exact ok_mI (vj_X13_postfix_194 hn hg hk_kk_11 (by omega) (by omega) (by omega) (by omega) (by omega) (by omega) V_h17 (by omega) (by omega) (by omega) (by omega) N_h17 (by omega)) (fun _ _ V_r R_r => ⟨R_r.1, by have := R_r.2; have := gF_160_8 V_r; have := gF_160_9 V_r; have := gF_160_22 V_r; have := gF_160_23 V_r; omega⟩)
  · intro C5
    refine ok_cIR (vf_X13_add hn (by omega) (by omega) (by omega) (by omega) (by omega) (by omega) V_h (by omega)) ?_; intro u19 E_u19 V_u19 a_u19 b_u19 R_u19
    have N_u19_2 : EK_ u19.2 := ek_fr V_h N_h (fun c k z => (ff_X13_add nn) _ E_u19 c k z) rfl
    have T27 : u19.2 160 8 = h 160 8 := (ff_X13_add nn) _ E_u19 160 8 rfl
    have T28 : u19.2 160 9 = h 160 9 := (ff_X13_add nn) _ E_u19 160 9 rfl
    have T29 : u19.2 160 23 = h 160 23 := (ff_X13_add nn) _ E_u19 160 23 rfl
    have T30 := gF_160_22 V_u19
    refine ok_wA (by omega) ?_; intro h22 E_h22; have V_h22 : VS_ h22 := by rw [E_h22]; exact wA_172 V_u19 (by omega)
    have N_h22 : EK_ h22 := by rw [E_h22]; exact ek_ua V_u19 N_u19_2 rfl
    have T31 : h22 160 8 = u19.2 160 8 := by rw [E_h22]; exact up_n (fun z => absurd z.1 (by decide))
    have T32 : h22 160 9 = u19.2 160 9 := by rw [E_h22]; exact up_n (fun z => absurd z.1 (by decide))
    have T33 : h22 160 23 = u19.2 160 23 := by rw [E_h22]; exact up_n (fun z => absurd z.1 (by decide))
    have T34 : h22 160 22 = u19.2 160 22 := by rw [E_h22]; exact up_n (fun z => absurd z.1 (by decide))
    refine ok_add (by omega) ?_; intro v24 e_v24
    refine ok_xl ?_; intro h25 E_h25; have V_h25 : VS_ h25 := by rw [E_h25]; exact wF_160_23 V_h22 (by omega)
    have N_h25 : EK_ h25 := by rw [E_h25]; exact ek_up V_h22 N_h22 rfl
    have T35 : h25 160 8 = h22 160 8 := by rw [E_h25]; exact up_n (by decide)
    have T36 : h25 160 9 = h22 160 9 := by rw [E_h25]; exact up_n (by decide)
    have T37 : h25 160 22 = h22 160 22 := by rw [E_h25]; exact up_n (by decide)
    have T38 : h25 160 23 = v24 := by rw [E_h25]; exact up_s
    refine ok_cIR (vf_X13_name hn V_h25 (by omega) N_h25) ?_; intro u28 E_u28 V_u28 a_u28 b_u28 R_u28
    have N_u28_2 : EK_ u28.2 := ek_fr V_h25 N_h25 (fun c k z => (ff_X13_name nn) _ E_u28 c k z) rfl
    have T39 : u28.2 160 8 = h25 160 8 := (ff_X13_name nn) _ E_u28 160 8 rfl
    have T40 : u28.2 160 22 = h25 160 22 := (ff_X13_name nn) _ E_u28 160 22 rfl
    have T41 := gF_160_9 V_u28
    have T42 := gF_160_23 V_u28
    refine ok_wA (by omega) ?_; intro h29 E_h29; have V_h29 : VS_ h29 := by rw [E_h29]; exact wA_168 V_u28 (by omega)
    have N_h29 : EK_ h29 := by rw [E_h29]; exact ek_ua V_u28 N_u28_2 rfl
    have T43 : h29 160 8 = u28.2 160 8 := by rw [E_h29]; exact up_n (fun z => absurd z.1 (by decide))
    have T44 : h29 160 22 = u28.2 160 22 := by rw [E_h29]; exact up_n (fun z => absurd z.1 (by decide))
    have T45 : h29 160 9 = u28.2 160 9 := by rw [E_h29]; exact up_n (fun z => absurd z.1 (by decide))
    have T46 : h29 160 23 = u28.2 160 23 := by rw [E_h29]; exact up_n (fun z => absurd z.1 (by decide))
    refine ok_wA (by omega) ?_; intro h31 E_h31; have V_h31 : VS_ h31 := by rw [E_h31]; exact wA_170 V_h29 (by omega)
    have N_h31 : EK_ h31 := by rw [E_h31]; exact ek_ua V_h29 N_h29 rfl
    have T47 : h31 160 8 = h29 160 8 := by rw [E_h31]; exact up_n (fun z => absurd z.1 (by decide))
    have T48 : h31 160 22 = h29 160 22 := by rw [E_h31]; exact up_n (fun z => absurd z.1 (by decide))
    have T49 : h31 160 9 = h29 160 9 := by rw [E_h31]; exact up_n (fun z => absurd z.1 (by decide))
    have T50 : h31 160 23 = h29 160 23 := by rw [E_h31]; exact up_n (fun z => absurd z.1 (by decide))
    refine ok_if ?_ ?_
    · intro C50
      exact ok_mI (hk_kk_11 (by omega) (by omega) (by omega) (by omega) (by omega) (by omega) V_h31 (by omega) (by omega) (by omega) (by omega) N_h31 (by omega)) (fun _ _ V_r R_r => ⟨R_r.1, by have := R_r.2; have := gF_160_8 V_r; have := gF_160_9 V_r; have := gF_160_22 V_r; have := gF_160_23 V_r; omega⟩)
    · intro C50
      refine ok_cP (vf_X13_isSign hn (by omega) (by omega) (by omega) (by omega) V_h31) ?_; intro u35 e_u35 a_u35 b_u35
      have T52 := lm_ek_isSign N_h31 (by omega) e_u35
      refine ok_if ?_ ?_
      · intro C52
        exact ok_mI (hk_kk_11 (by omega) (by omega) (by omega) (by omega) (by omega) (by omega) V_h31 (by omega) (by omega) (by omega) (by omega) N_h31 (by omega)) (fun _ _ V_r R_r => ⟨R_r.1, by have := R_r.2; have := gF_160_8 V_r; have := gF_160_9 V_r; have := gF_160_22 V_r; have := gF_160_23 V_r; omega⟩)
      · intro C52
        refine ok_wA (by omega) ?_; intro h37 E_h37; have V_h37 : VS_ h37 := by rw [E_h37]; exact wA_167 V_h31 (by omega)
        have N_h37 : EK_ h37 := by rw [E_h37]; exact ek_ua V_h31 N_h31 rfl
        have T54 : h37 160 8 = h31 160 8 := by rw [E_h37]; exact up_n (fun z => absurd z.1 (by decide))
        have T55 : h37 160 22 = h31 160 22 := by rw [E_h37]; exact up_n (fun z => absurd z.1 (by decide))
        have T56 : h37 160 9 = h31 160 9 := by rw [E_h37]; exact up_n (fun z => absurd z.1 (by decide))
        have T57 : h37 160 23 = h31 160 23 := by rw [E_h37]; exact up_n (fun z => absurd z.1 (by decide))
        refine ok_cIR (hg.2.2.2.1 (by omega) (by omega) V_h37 (by omega) (by omega) (by omega) N_h37) ?_; intro u40 E_u40 V_u40 a_u40 b_u40 R_u40
        have N_u40_2 : EK_ u40.2 := R_u40.1
        have T58 := gF_160_8 V_u40
        have T59 := gF_160_9 V_u40
        have T60 := gF_160_22 V_u40
        have T61 := gF_160_23 V_u40
        refine ok_wA (by omega) ?_; intro h41 E_h41; have V_h41 : VS_ h41 := by rw [E_h41]; exact wA_171 V_u40 (by omega)
        have N_h41 : EK_ h41 := by rw [E_h41]; exact ek_ua V_u40 N_u40_2 rfl
        have T62 : h41 160 8 = u40.2 160 8 := by rw [E_h41]; exact up_n (fun z => absurd z.1 (by decide))
        have T63 : h41 160 9 = u40.2 160 9 := by rw [E_h41]; exact up_n (fun z => absurd z.1 (by decide))
        have T64 : h41 160 22 = u40.2 160 22 := by rw [E_h41]; exact up_n (fun z => absurd z.1 (by decide))
        have T65 : h41 160 23 = u40.2 160 23 := by rw [E_h41]; exact up_n (fun z => absurd z.1 (by decide))
        exact ok_mI (hk_kk_11 (by omega) (by omega) (by omega) (by omega) (by omega) (by omega) V_h41 (by omega) (by omega) (by omega) (by omega) N_h41 (by omega)) (fun _ _ V_r R_r => ⟨R_r.1, by have := R_r.2; have := gF_160_8 V_r; have := gF_160_9 V_r; have := gF_160_22 V_r; have := gF_160_23 V_r; omega⟩)
set_option maxRecDepth 4000 in
theorem vw_X13_postfix_11 {nn : Nat} (hn : 1000000 ≤ nn) {g : Int} {rc : tq_X13_expression} (hg : GH_X13_expression g rc) : ∀ (k : Nat) {l1 : Int} {l2 : Int} {l3 : Int} {h : ms_M} (a_l1 : 0 ≤ l1) (b_l1 : l1 ≤ 40) (a_l2 : 0 ≤ l2) (b_l2 : l2 ≤ 3000) (a_l3 : (-1) ≤ l3) (b_l3 : l3 ≤ 8999) (V_h : VS_ h) (x_0 : 16 * (40 - l1) + 4 ≤ (g + 1)) (x_1 : h 160 23 + 1 ≤ h 160 8) (x_2 : h 160 22 ≤ 2 * h 160 23 + 100) (x_3 : ¬ h 160 9 = 0 ∨ (0 ≤ l3 ∧ l3 < h 160 22)) (N_h : EK_ h)  (hm : 3001 - h 160 23 < (k : Int)), Ok_ (qw_X13_postfix_11 nn rc k l1 l2 l3 h) (QIR_ (-1) 8999 (fun u r => (EK_ r) ∧ (r 160 8 = h 160 8) ∧ (h 160 9 = 0 ∨ ¬ r 160 9 = 0) ∧ (h 160 23 ≤ r 160 23) ∧ (r 160 23 + 1 ≤ h 160 8) ∧ (h 160 22 ≤ r 160 22) ∧ (r 160 22 + 2 * h 160 23 ≤ h 160 22 + 2 * r 160 23 + 0) ∧ (¬ r 160 9 = 0 ∨ (0 ≤ u ∧ u < r 160 22)))) := by
  intro k
  induction k with
  | zero => intro l1 l2 l3 h a_l1 b_l1 a_l2 b_l2 a_l3 b_l3 V_h x_0 x_1 x_2 x_3 N_h hm; have := gF_160_23 V_h; have := gF_160_9 V_h; exfalso; omega
  | succ k ih =>
    intro l1 l2 l3 h a_l1 b_l1 a_l2 b_l2 a_l3 b_l3 V_h x_0 x_1 x_2 x_3 N_h hm
    unfold qw_X13_postfix_11
    have T1 := gF_160_8 V_h
    have T2 := gF_160_9 V_h
    have T3 := gF_160_22 V_h
    have T4 := gF_160_23 V_h
    refine ok_if ?_ ?_
    · intro C4
      exact ok_rIR V_h (by omega) (by omega) ⟨N_h, by omega⟩
    · intro C4
      refine ok_cP (vf_X13_isSign hn (by omega) (by omega) (by omega) (by omega) V_h) ?_; intro u48 e_u48 a_u48 b_u48
      have T6 := lm_ek_isSign N_h (by omega) e_u48
      refine ok_if ?_ ?_
      · intro C6
        exact ok_mI (vj_X13_postfix_44 hn hg ih (by omega) (by omega) (by omega) (by omega) (by omega) (by omega) V_h (by omega) (by omega) (by omega) (by omega) (by omega) N_h (by omega)) (fun _ _ V_r R_r => ⟨R_r.1, by have := R_r.2; have := gF_160_8 V_r; have := gF_160_9 V_r; have := gF_160_22 V_r; have := gF_160_23 V_r; omega⟩)
      · intro C6
        refine ok_cP (vf_X13_isSign hn (by omega) (by omega) (by omega) (by omega) V_h) ?_; intro u51 e_u51 a_u51 b_u51
        have T8 := lm_ek_isSign N_h (by omega) e_u51
        refine ok_if ?_ ?_
        · intro C8
          exact ok_rIR V_h (by omega) (by omega) ⟨N_h, by omega⟩
        · intro C8
          exact ok_mI (vj_X13_postfix_44 hn hg ih (by omega) (by omega) (by omega) (by omega) (by omega) (by omega) V_h (by omega) (by omega) (by omega) (by omega) (by omega) N_h (by omega)) (fun _ _ V_r R_r => ⟨R_r.1, by have := R_r.2; have := gF_160_8 V_r; have := gF_160_9 V_r; have := gF_160_22 V_r; have := gF_160_23 V_r; omega⟩)
set_option maxRecDepth 4000 in
theorem vo_X13_postfix {nn : Nat} (hn : 1000000 ≤ nn) {g : Int} {rc : tq_X13_expression} (hg : GH_X13_expression g rc) {a1 : Int} {h : ms_M} (a_a1 : 0 ≤ a1) (b_a1 : a1 ≤ 40) (V_h : VS_ h) (x_0 : 16 * (40 - a1) + 4 ≤ (g + 1)) (x_1 : h 160 23 + 1 ≤ h 160 8) (x_2 : h 160 22 ≤ 2 * h 160 23 + 100) (x_3 : h 160 9 = 0) (N_h : EK_ h)  : Ok_ (qo_X13_postfix nn rc a1 h) (QIR_ (-1) 8999 (fun u r => (EK_ r) ∧ (r 160 8 = h 160 8) ∧ (h 160 9 = 0 ∨ ¬ r 160 9 = 0) ∧ (h 160 23 ≤ r 160 23) ∧ (r 160 23 + 1 ≤ h 160 8) ∧ (h 160 22 ≤ r 160 22) ∧ (r 160 22 + 2 * h 160 23 ≤ h 160 22 + 2 * r 160 23 + 0) ∧ (¬ r 160 9 = 0 ∨ (0 ≤ u ∧ u < r 160 22 ∧ r 160 22 + 2 * h 160 23 + 1 ≤ h 160 22 + 2 * r 160 23)))) := by
  unfold qo_X13_postfix
  have T1 := gF_160_8 V_h
  have T2 := gF_160_9 V_h
  have T3 := gF_160_22 V_h
  have T4 := gF_160_23 V_h
  refine ok_cIR (hg.2.2.2.2.2.1 (by omega) (by omega) V_h (by omega) (by omega) (by omega) (by omega) N_h) ?_; intro u57 E_u57 V_u57 a_u57 b_u57 R_u57
  have N_u57_2 : EK_ u57.2 := R_u57.1
  have T5 := gF_160_8 V_u57
  have T6 := gF_160_9 V_u57
  have T7 := gF_160_22 V_u57
  have T8 := gF_160_23 V_u57
  exact ok_mI (vw_X13_postfix_11 hn hg _ (by omega) (by omega) (by omega) (by omega) (by omega) (by omega) V_u57 (by omega) (by omega) (by omega) (by omega) N_u57_2 (by omega)) (fun _ _ V_r R_r => ⟨R_r.1, by have := R_r.2; have := gF_160_8 V_r; have := gF_160_9 V_r; have := gF_160_22 V_r; have := gF_160_23 V_r; omega⟩)
set_option maxRecDepth 4000 in
theorem vj_X13_primary_283 {nn : Nat} (hn : 1000000 ≤ nn) {g : Int} {rc : tq_X13_expression} (hg : GH_X13_expression g rc) {h : ms_M} (V_h : VS_ h) (x_0 : h 160 23 + 1 ≤ h 160 8) (x_1 : h 160 22 ≤ 2 * h 160 23 + 100) (N_h : EK_ h)  : Ok_ (qj_X13_primary_283 nn rc h) (QIR_ (-1) 8999 (fun u r => (EK_ r) ∧ (r 160 8 = h 160 8) ∧ (h 160 9 = 0 ∨ ¬ r 160 9 = 0) ∧ (h 160 23 ≤ r 160 23) ∧ (r 160 23 + 1 ≤ h 160 8) ∧ (h 160 22 ≤ r 160 22) ∧ (r 160 22 + 2 * h 160 23 ≤ h 160 22 + 2 * r 160 23 + 0) ∧ (¬ r 160 9 = 0 ∨ (0 ≤ u ∧ u < r 160 22 ∧ r 160 22 + 2 * h 160 23 + 1 ≤ h 160 22 + 2 * r 160 23)))) := by
  unfold qj_X13_primary_283
  have T1 := gF_160_8 V_h
  have T2 := gF_160_9 V_h
  have T3 := gF_160_22 V_h
  have T4 := gF_160_23 V_h
  refine ok_cVR (vf_X13_misplaced hn V_h (by omega) N_h) ?_; intro u2 E_u2 V_u2 R_u2
  have N_u2 : EK_ u2 := ek_fr V_h N_h (fun c k z => (ff_X13_misplaced nn) _ E_u2 c k z) rfl
  have T5 : u2 160 8 = h 160 8 := (ff_X13_misplaced nn) _ E_u2 160 8 rfl
  have T6 : u2 160 22 = h 160 22 := (ff_X13_misplaced nn) _ E_u2 160 22 rfl
  have T7 : u2 160 23 = h 160 23 := (ff_X13_misplaced nn) _ E_u2 160 23 rfl
  have T8 := gF_160_9 V_u2
  exact ok_rIR V_u2 (by omega) (by omega) ⟨N_u2, by omega⟩
set_option maxRecDepth 4000 in
theorem vj_X13_primary_264 {nn : Nat} (hn : 1000000 ≤ nn) {g : Int} {rc : tq_X13_expression} (hg : GH_X13_expression g rc) {l2 : Int} {s0 : Int} {h : ms_M} (a_l2 : 0 ≤ l2) (b_l2 : l2 ≤ 3000) (a_s0 : 21 ≤ s0) (b_s0 : s0 ≤ 24) (V_h : VS_ h) (x_0 : h 160 23 + 1 ≤ h 160 8) (x_1 : h 160 22 ≤ 2 * h 160 23 + 100) (N_h : EK_ h)  : Ok_ (qj_X13_primary_264 nn rc l2 s0 h) (QIR_ (-1) 8999 (fun u r => (EK_ r) ∧ (r 160 8 = h 160 8) ∧ (h 160 9 = 0 ∨ ¬ r 160 9 = 0) ∧ (h 160 23 ≤ r 160 23) ∧ (r 160 23 + 1 ≤ h 160 8) ∧ (h 160 22 ≤ r 160 22) ∧ (r 160 22 + 2 * h 160 23 ≤ h 160 22 + 2 * r 160 23 + 1) ∧ (¬ r 160 9 = 0 ∨ (0 ≤ u ∧ u < r 160 22)))) := by
  unfold qj_X13_primary_264
  have T1 := gF_160_8 V_h
  have T2 := gF_160_9 V_h
  have T3 := gF_160_22 V_h
  have T4 := gF_160_23 V_h
  refine ok_cIR (vf_X13_add hn (by omega) (by omega) (by omega) (by omega) (by omega) (by omega) V_h (by omega)) ?_; intro u4 E_u4 V_u4 a_u4 b_u4 R_u4
  have N_u4_2 : EK_ u4.2 := ek_fr V_h N_h (fun c k z => (ff_X13_add nn) _ E_u4 c k z) rfl
  have T5 : u4.2 160 8 = h 160 8 := (ff_X13_add nn) _ E_u4 160 8 rfl
  have T6 : u4.2 160 9 = h 160 9 := (ff_X13_add nn) _ E_u4 160 9 rfl
  have T7 : u4.2 160 23 = h 160 23 := (ff_X13_add nn) _ E_u4 160 23 rfl
  have T8 := gF_160_22 V_u4
  exact ok_rIR V_u4 (by omega) (by omega) ⟨N_u4_2, by omega⟩
set_option maxRecDepth 4000 in
theorem vj_X13_primary_215 {nn : Nat} (hn : 1000000 ≤ nn) {g : Int} {rc : tq_X13_expression} (hg : GH_X13_expression g rc) {l2 : Int} {l4 : Int} {h : ms_M} (a_l2 : 0 ≤ l2) (b_l2 : l2 ≤ 3000) (a_l4 : 7 ≤ l4) (b_l4 : l4 ≤ 18) (V_h : VS_ h) (x_0 : h 160 23 + 2 ≤ h 160 8) (x_1 : h 160 22 ≤ 2 * h 160 23 + 100) (N_h : EK_ h)  : Ok_ (qj_X13_primary_215 nn rc l2 l4 h) (QIR_ (-1) 8999 (fun u r => (EK_ r) ∧ (r 160 8 = h 160 8) ∧ (h 160 9 = 0 ∨ ¬ r 160 9 = 0) ∧ (h 160 23 ≤ r 160 23) ∧ (r 160 23 + 1 ≤ h 160 8) ∧ (h 160 22 ≤ r 160 22) ∧ (r 160 22 + 2 * h 160 23 ≤ h 160 22 + 2 * r 160 23 + 0) ∧ (¬ r 160 9 = 0 ∨ (0 ≤ u ∧ u < r 160 22 ∧ r 160 22 + 2 * h 160 23 + 1 ≤ h 160 22 + 2 * r 160 23)))) := by
  unfold qj_X13_primary_215
  have T1 := gF_160_8 V_h
  have T2 := gF_160_9 V_h
  have T3 := gF_160_22 V_h
  have T4 := gF_160_23 V_h
  refine ok_add (by omega) ?_; intro v6 e_v6
  refine ok_xl ?_; intro h7 E_h7; have V_h7 : VS_ h7 := by rw [E_h7]; exact wF_160_23 V_h (by omega)
  have N_h7 : EK_ h7 := by rw [E_h7]; exact ek_up V_h N_h rfl
  have T5 : h7 160 8 = h 160 8 := by rw [E_h7]; exact up_n (by decide)
  have T6 : h7 160 9 = h 160 9 := by rw [E_h7]; exact up_n (by decide)
  have T7 : h7 160 22 = h 160 22 := by rw [E_h7]; exact up_n (by decide)
  have T8 : h7 160 23 = v6 := by rw [E_h7]; exact up_s
  refine ok_if ?_ ?_
  · intro C8
    refine ok_if ?_ ?_
    · intro C9
      refine ok_if ?_ ?_
      · intro C10
        exact ok_mI (vj_X13_primary_264 hn hg (by omega) (by omega) (by omega) (by omega) V_h7 (by omega) (by omega) N_h7) (fun _ _ V_r R_r => ⟨R_r.1, by have := R_r.2; have := gF_160_8 V_r; have := gF_160_9 V_r; have := gF_160_22 V_r; have := gF_160_23 V_r; omega⟩)
      · intro C10
        exact ok_mI (vj_X13_primary_264 hn hg (by omega) (by omega) (by omega) (by omega) V_h7 (by omega) (by omega) N_h7) (fun _ _ V_r R_r => ⟨R_r.1, by have := R_r.2; have := gF_160_8 V_r; have := gF_160_9 V_r; have := gF_160_22 V_r; have := gF_160_23 V_r; omega⟩)
    · intro C9
      exact ok_mI (vj_X13_primary_264 hn hg (by omega) (by omega) (by omega) (by omega) V_h7 (by omega) (by omega) N_h7) (fun _ _ V_r R_r => ⟨R_r.1, by have := R_r.2; have := gF_160_8 V_r; have := gF_160_9 V_r; have := gF_160_22 V_r; have := gF_160_23 V_r; omega⟩)
  · intro C8
    exact ok_mI (vj_X13_primary_264 hn hg (by omega) (by omega) (by omega) (by omega) V_h7 (by omega) (by omega) N_h7) (fun _ _ V_r R_r => ⟨R_r.1, by have := R_r.2; have := gF_160_8 V_r; have := gF_160_9 V_r; have := gF_160_22 V_r; have := gF_160_23 V_r; omega⟩)
set_option maxRecDepth 4000 in
theorem vj_X13_primary_138 {nn : Nat} (hn : 1000000 ≤ nn) {g : Int} {rc : tq_X13_expression} (hg : GH_X13_expression g rc) {l2 : Int} {l3 : Int} {h : ms_M} (a_l2 : 0 ≤ l2) (b_l2 : l2 ≤ 3000) (a_l3 : (-1) ≤ l3) (b_l3 : l3 ≤ 8999) (V_h : VS_ h) (x_0 : h 160 23 + 1 ≤ h 160 8) (x_1 : h 160 22 ≤ 2 * h 160 23 + 100) (x_2 : ¬ h 160 9 = 0 ∨ (0 ≤ l3 ∧ l3 < h 160 22)) (N_h : EK_ h)  : Ok_ (qj_X13_primary_138 nn rc l2 l3 h) (QIR_ (-1) 8999 (fun u r => (EK_ r) ∧ (r 160 8 = h 160 8) ∧ (h 160 9 = 0 ∨ ¬ r 160 9 = 0) ∧ (h 160 23 ≤ r 160 23) ∧ (r 160 23 + 1 ≤ h 160 8) ∧ (h 160 22 ≤ r 160 22) ∧ (r 160 22 + 2 * h 160 23 ≤ h 160 22 + 2 * r 160 23 + 0) ∧ (¬ r 160 9 = 0 ∨ (0 ≤ u ∧ u < r 160 22)))) := by
  unfold qj_X13_primary_138
  have T1 := gF_160_8 V_h
  have T2 := gF_160_9 V_h
  have T3 := gF_160_22 V_h
  have T4 := gF_160_23 V_h
  refine ok_if ?_ ?_
  · intro C4
    refine ok_wA (by omega) ?_; intro h13 E_h13; have V_h13 : VS_ h13 := by rw [E_h13]; exact wA_169 V_h (by omega)
    have N_h13 : EK_ h13 := by rw [E_h13]; exact ek_ua V_h N_h rfl
    have T6 : h13 160 8 = h 160 8 := by rw [E_h13]; exact up_n (fun z => absurd z.1 (by decide))
    have T7 : h13 160 9 = h 160 9 := by rw [E_h13]; exact up_n (fun z => absurd z.1 (by decide))
    have T8 : h13 160 22 = h 160 22 := by rw [E_h13]; exact up_n (fun z => absurd z.1 (by decide))
    have T9 : h13 160 23 = h 160 23 := by rw [E_h13]; exact up_n (fun z => absurd z.1 (by decide))
    refine ok_wZ (by omega) (by omega) ?_; intro h15 E_h15; have V_h15 : VS_ h15 := by rw [E_h15]; exact wA_177 V_h13 (by omega)
    have N_h15 : EK_ h15 := by rw [E_h15]; exact ek_ua V_h13 N_h13 rfl
    have T10 : h15 160 8 = h13 160 8 := by rw [E_h15]; exact up_n (fun z => absurd z.1 (by decide))
    have T11 : h15 160 9 = h13 160 9 := by rw [E_h15]; exact up_n (fun z => absurd z.1 (by decide))
    have T12 : h15 160 22 = h13 160 22 := by rw [E_h15]; exact up_n (fun z => absurd z.1 (by decide))
    have T13 : h15 160 23 = h13 160 23 := by rw [E_h15]; exact up_n (fun z => absurd z.1 (by decide))
    exact ok_rIR V_h15 (by omega) (by omega) ⟨N_h15, by omega⟩
  · intro C4
    exact ok_rIR V_h (by omega) (by omega) ⟨N_h, by omega⟩
set_option maxRecDepth 4000 in
theorem vo_X13_primary {nn : Nat} (hn : 1000000 ≤ nn) {g : Int} {rc : tq_X13_expression} (hg : GH_X13_expression g rc) {a1 : Int} {h : ms_M} (a_a1 : 0 ≤ a1) (b_a1 : a1 ≤ 40) (V_h : VS_ h) (x_0 : 16 * (40 - a1) + 3 ≤ (g + 1)) (x_1 : h 160 23 + 1 ≤ h 160 8) (x_2 : h 160 22 ≤ 2 * h 160 23 + 100) (x_3 : h 160 9 = 0) (N_h : EK_ h)  : Ok_ (qo_X13_primary nn rc a1 h) (QIR_ (-1) 8999 (fun u r => (EK_ r) ∧ (r 160 8 = h 160 8) ∧ (h 160 9 = 0 ∨ ¬ r 160 9 = 0) ∧ (h 160 23 ≤ r 160 23) ∧ (r 160 23 + 1 ≤ h 160 8) ∧ (h 160 22 ≤ r 160 22) ∧ (r 160 22 + 2 * h 160 23 ≤ h 160 22 + 2 * r 160 23 + 0) ∧ (¬ r 160 9 = 0 ∨ (0 ≤ u ∧ u < r 160 22 ∧ r 160 22 + 2 * h 160 23 + 1 ≤ h 160 22 + 2 * r 160 23)))) := by
  unfold qo_X13_primary
  have T1 := gF_160_8 V_h
  have T2 := gF_160_9 V_h
  have T3 := gF_160_22 V_h
  have T4 := gF_160_23 V_h
  refine ok_rd (by omega) (gA_163 V_h) ?_; intro v20 e_v20 a_v20 b_v20
  have T5 := ek_rd N_h (by omega) e_v20
  refine ok_if ?_ ?_
  · intro C5
    refine ok_rd (by omega) (gA_163 V_h) ?_; intro v23 e_v23 a_v23 b_v23
    have T7 := ek_rd N_h (by omega) e_v23
    refine ok_if ?_ ?_
    · intro C7
      refine ok_cP (vf_X13_isSign hn (by omega) (by omega) (by omega) (by omega) V_h) ?_; intro u26 e_u26 a_u26 b_u26
      have T9 := lm_ek_isSign N_h (by omega) e_u26
      refine ok_if ?_ ?_
      · intro C9
        refine ok_rd (by omega) (gA_163 V_h) ?_; intro v29 e_v29 a_v29 b_v29
        have T11 := ek_rd N_h (by omega) e_v29
        refine ok_if ?_ ?_
        · intro C11
          exact ok_mI (vj_X13_primary_283 hn hg V_h (by omega) (by omega) N_h) (fun _ _ V_r R_r => ⟨R_r.1, by have := R_r.2; have := gF_160_8 V_r; have := gF_160_9 V_r; have := gF_160_22 V_r; have := gF_160_23 V_r; omega⟩)
        · intro C11
          refine ok_rd (by omega) (gA_166 V_h) ?_; intro v32 e_v32 a_v32 b_v32
          refine ok_if ?_ ?_
          · intro C12
            exact ok_mI (vj_X13_primary_215 hn hg (by omega) (by omega) (by omega) (by omega) V_h (by omega) (by omega) N_h) (fun _ _ V_r R_r => ⟨R_r.1, by have := R_r.2; have := gF_160_8 V_r; have := gF_160_9 V_r; have := gF_160_22 V_r; have := gF_160_23 V_r; omega⟩)
          · intro C12
            refine ok_if ?_ ?_
            · intro C13
              exact ok_mI (vj_X13_primary_215 hn hg (by omega) (by omega) (by omega) (by omega) V_h (by omega) (by omega) N_h) (fun _ _ V_r R_r => ⟨R_r.1, by have := R_r.2; have := gF_160_8 V_r; have := gF_160_9 V_r; have := gF_160_22 V_r; have := gF_160_23 V_r; omega⟩)
            · intro C13
              refine ok_if ?_ ?_
              · intro C14
                exact ok_mI (vj_X13_primary_215 hn hg (by omega) (by omega) (by omega) (by omega) V_h (by omega) (by omega) N_h) (fun _ _ V_r R_r => ⟨R_r.1, by have := R_r.2; have := gF_160_8 V_r; have := gF_160_9 V_r; have := gF_160_22 V_r; have := gF_160_23 V_r; omega⟩)
              · intro C14
                refine ok_if ?_ ?_
                · intro C15
                  refine ok_if ?_ ?_
                  · intro C16
                    exact ok_mI (vj_X13_primary_283 hn hg V_h (by omega) (by omega) N_h) (fun _ _ V_r R_r => ⟨R_r.1, by have := R_r.2; have := gF_160_8 V_r; have := gF_160_9 V_r; have := gF_160_22 V_r; have := gF_160_23 V_r; omega⟩)
                  · intro C16
                    refine ok_cIR (hg.2.2.2.2.2.2 (by omega) (by omega) V_h (by omega) (by omega) (by omega) (by omega) N_h) ?_; intro u34 E_u34 V_u34 a_u34 b_u34 R_u34
                    have N_u34_2 : EK_ u34.2 := R_u34.1
                    have T18 := gF_160_8 V_u34
                    have T19 := gF_160_9 V_u34
                    have T20 := gF_160_22 V_u34
                    have T21 := gF_160_23 V_u34
                    exact ok_rIR V_u34 (by omega) (by omega) ⟨N_u34_2, by omega⟩
                · intro C15
                  exact ok_mI (vj_X13_primary_215 hn hg (by omega) (by omega) (by omega) (by omega) V_h (by omega) (by omega) N_h) (fun _ _ V_r R_r => ⟨R_r.1, by have := R_r.2; have := gF_160_8 V_r; have := gF_160_9 V_r; have := gF_160_22 V_r; have := gF_160_23 V_r; omega⟩)
      · intro C9
        refine ok_add (by omega) ?_; intro v42 e_v42
        refine ok_xl ?_; intro h43 E_h43; have V_h43 : VS_ h43 := by rw [E_h43]; exact wF_160_23 V_h (by omega)
        have N_h43 : EK_ h43 := by rw [E_h43]; exact ek_up V_h N_h rfl
        have T22 : h43 160 8 = h 160 8 := by rw [E_h43]; exact up_n (by decide)
        have T23 : h43 160 9 = h 160 9 := by rw [E_h43]; exact up_n (by decide)
        have T24 : h43 160 22 = h 160 22 := by rw [E_h43]; exact up_n (by decide)
        have T25 : h43 160 23 = v42 := by rw [E_h43]; exact up_s
        refine ok_cIR (hg.1 (by omega) (by omega) V_h43 (by omega) (by omega) (by omega) N_h43) ?_; intro u45 E_u45 V_u45 a_u45 b_u45 R_u45
        have N_u45_2 : EK_ u45.2 := R_u45.1
        have T26 := gF_160_8 V_u45
        have T27 := gF_160_9 V_u45
        have T28 := gF_160_22 V_u45
        have T29 := gF_160_23 V_u45
        refine ok_cVR (vf_X13_sign_ hn (by omega) (by omega) V_u45 (by omega) N_u45_2) ?_; intro u47 E_u47 V_u47 R_u47
        have N_u47 : EK_ u47 := ek_fr V_u45 N_u45_2 (fun c k z => (ff_X13_sign_ nn) _ E_u47 c k z) rfl
        have T30 : u47 160 8 = u45.2 160 8 := (ff_X13_sign_ nn) _ E_u47 160 8 rfl
        have T31 : u47 160 22 = u45.2 160 22 := (ff_X13_sign_ nn) _ E_u47 160 22 rfl
        have T32 := gF_160_9 V_u47
        have T33 := gF_160_23 V_u47
        exact ok_mI (vj_X13_primary_138 hn hg (by omega) (by omega) (by omega) (by omega) V_u47 (by omega) (by omega) (by omega) N_u47) (fun _ _ V_r R_r => ⟨R_r.1, by have := R_r.2; have := gF_160_8 V_r; have := gF_160_9 V_r; have := gF_160_22 V_r; have := gF_160_23 V_r; omega⟩)
    · intro C7
      refine ok_add (by omega) ?_; intro v50 e_v50
      refine ok_xl ?_; intro h51 E_h51; have V_h51 : VS_ h51 := by rw [E_h51]; exact wF_160_23 V_h (by omega)
      have N_h51 : EK_ h51 := by rw [E_h51]; exact ek_up V_h N_h rfl
      have T34 : h51 160 8 = h 160 8 := by rw [E_h51]; exact up_n (by decide)
      have T35 : h51 160 9 = h 160 9 := by rw [E_h51]; exact up_n (by decide)
      have T36 : h51 160 22 = h 160 22 := by rw [E_h51]; exact up_n (by decide)
      have T37 : h51 160 23 = v50 := by rw [E_h51]; exact up_s
      refine ok_cIR (vf_X13_add hn (by omega) (by omega) (by omega) (by omega) (by omega) (by omega) V_h51 (by omega)) ?_; intro u53 E_u53 V_u53 a_u53 b_u53 R_u53
      have N_u53_2 : EK_ u53.2 := ek_fr V_h51 N_h51 (fun c k z => (ff_X13_add nn) _ E_u53 c k z) rfl
      have T38 : u53.2 160 8 = h51 160 8 := (ff_X13_add nn) _ E_u53 160 8 rfl
      have T39 : u53.2 160 9 = h51 160 9 := (ff_X13_add nn) _ E_u53 160 9 rfl
      have T40 : u53.2 160 23 = h51 160 23 := (ff_X13_add nn) _ E_u53 160 23 rfl
      have T41 := gF_160_22 V_u53
      refine ok_cP (vf_X13_isSign hn (by omega) (by omega) (by omega) (by omega) V_u53) ?_; intro u56 e_u56 a_u56 b_u56
      have T42 := lm_ek_isSign N_u53_2 (by omega) e_u56
      refine ok_if ?_ ?_
      · intro C42
        exact ok_rIR V_u53 (by omega) (by omega) ⟨N_u53_2, by omega⟩
      · intro C42
        refine ok_wA (by omega) ?_; intro h58 E_h58; have V_h58 : VS_ h58 := by rw [E_h58]; exact wA_167 V_u53 (by omega)
        have N_h58 : EK_ h58 := by rw [E_h58]; exact ek_ua V_u53 N_u53_2 rfl
        have T44 : h58 160 8 = u53.2 160 8 := by rw [E_h58]; exact up_n (fun z => absurd z.1 (by decide))
        have T45 : h58 160 9 = u53.2 160 9 := by rw [E_h58]; exact up_n (fun z => absurd z.1 (by decide))
        have T46 : h58 160 23 = u53.2 160 23 := by rw [E_h58]; exact up_n (fun z => absurd z.1 (by decide))
        have T47 : h58 160 22 = u53.2 160 22 := by rw [E_h58]; exact up_n (fun z => absurd z.1 (by decide))
        refine ok_cIR (hg.2.2.2.1 (by omega) (by omega) V_h58 (by omega) (by omega) (by omega) N_h58) ?_; intro u61 E_u61 V_u61 a_u61 b_u61 R_u61
        have N_u61_2 : EK_ u61.2 := R_u61.1
        have T48 := gF_160_8 V_u61
        have T49 := gF_160_9 V_u61
        have T50 := gF_160_22 V_u61
        have T51 := gF_160_23 V_u61
        refine ok_wA (by omega) ?_; intro h62 E_h62; have V_h62 : VS_ h62 := by rw [E_h62]; exact wA_171 V_u61 (by omega)
        have N_h62 : EK_ h62 := by rw [E_h62]; exact ek_ua V_u61 N_u61_2 rfl
        have T52 : h62 160 8 = u61.2 160 8 := by rw [E_h62]; exact up_n (fun z => absurd z.1 (by decide))
        have T53 : h62 160 9 = u61.2 160 9 := by rw [E_h62]; exact up_n (fun z => absurd z.1 (by decide))
        have T54 : h62 160 22 = u61.2 160 22 := by rw [E_h62]; exact up_n (fun z => absurd z.1 (by decide))
        have T55 : h62 160 23 = u61.2 160 23 := by rw [E_h62]; exact up_n (fun z => absurd z.1 (by decide))
        exact ok_rIR V_h62 (by omega) (by omega) ⟨N_h62, by omega⟩
  · intro C5
    refine ok_add (by omega) ?_; intro v66 e_v66
    refine ok_xl ?_; intro h67 E_h67; have V_h67 : VS_ h67 := by rw [E_h67]; exact wF_160_23 V_h (by omega)
    have N_h67 : EK_ h67 := by rw [E_h67]; exact ek_up V_h N_h rfl
    have T56 : h67 160 8 = h 160 8 := by rw [E_h67]; exact up_n (by decide)
    have T57 : h67 160 9 = h 160 9 := by rw [E_h67]; exact up_n (by decide)
    have T58 : h67 160 22 = h 160 22 := by rw [E_h67]; exact up_n (by decide)
    have T59 : h67 160 23 = v66 := by rw [E_h67]; exact up_s
    refine ok_cIR (vf_X13_add hn (by omega) (by omega) (by omega) (by omega) (by omega) (by omega) V_h67 (by omega)) ?_; intro u69 E_u69 V_u69 a_u69 b_u69 R_u69
    have N_u69_2 : EK_ u69.2 := ek_fr V_h67 N_h67 (fun c k z => (ff_X13_add nn) _ E_u69 c k z) rfl
    have T60 : u69.2 160 8 = h67 160 8 := (ff_X13_add nn) _ E_u69 160 8 rfl
    have T61 : u69.2 160 9 = h67 160 9 := (ff_X13_add nn) _ E_u69 160 9 rfl
    have T62 : u69.2 160 23 = h67 160 23 := (ff_X13_add nn) _ E_u69 160 23 rfl
    have T63 := gF_160_22 V_u69
    exact ok_rIR V_u69 (by omega) (by omega) ⟨N_u69_2, by omega⟩
set_option maxRecDepth 4000 in
theorem vj_X13_fresh_142 {nn : Nat} (hn : 1000000 ≤ nn) {g : Int} {rc : tq_X13_expression} (hg : GH_X13_expression g rc) {l1 : Int} {l4 : Int} {h : ms_M} (a_l1 : 0 ≤ l1) (b_l1 : l1 ≤ 40) (a_l4 : 0 ≤ l4) (b_l4 : l4 ≤ 8999) (V_h : VS_ h) (x_0 : 16 * (40 - l1) + 2 ≤ (g + 1)) (x_1 : h 160 23 + 1 ≤ h 160 8) (x_2 : h 160 22 ≤ 2 * h 160 23 + 100) (x_3 : 0 ≤ l4 ∧ l4 < h 160 22) (N_h : EK_ h)  : Ok_ (qj_X13_fresh_142 nn rc l1 l4 h) (QIR_ (-1) 8999 (fun u r => (EK_ r) ∧ (r 160 8 = h 160 8) ∧ (h 160 9 = 0 ∨ ¬ r 160 9 = 0) ∧ (h 160 23 ≤ r 160 23) ∧ (r 160 23 + 1 ≤ h 160 8) ∧ (h 160 22 ≤ r 160 22) ∧ (r 160 22 + 2 * h 160 23 ≤ h 160 22 + 2 * r 160 23 + 0) ∧ (¬ r 160 9 = 0 ∨ (0 ≤ u ∧ u < r 160 22)))) := by
  unfold qj_X13_fresh_142
  have T1 := gF_160_8 V_h
  have T2 := gF_160_9 V_h
  have T3 := gF_160_22 V_h
  have T4 := gF_160_23 V_h
  refine ok_cIR (hg.1 (by omega) (by omega) V_h (by omega) (by omega) (by omega) N_h) ?_; intro u3 E_u3 V_u3 a_u3 b_u3 R_u3
  have N_u3_2 : EK_ u3.2 := R_u3.1
  have T5 := gF_160_8 V_u3
  have T6 := gF_160_9 V_u3
  have T7 := gF_160_22 V_u3
  have T8 := gF_160_23 V_u3
  refine ok_wA (by omega) ?_; intro h4 E_h4; have V_h4 : VS_ h4 := by rw [E_h4]; exact wA_170 V_u3 (by omega)
  have N_h4 : EK_ h4 := by rw [E_h4]; exact ek_ua V_u3 N_u3_2 rfl
  have T9 : h4 160 8 = u3.2 160 8 := by rw [E_h4]; exact up_n (fun z => absurd z.1 (by decide))
  have T10 : h4 160 9 = u3.2 160 9 := by rw [E_h4]; exact up_n (fun z => absurd z.1 (by decide))
  have T11 : h4 160 22 = u3.2 160 22 := by rw [E_h4]; exact up_n (fun z => absurd z.1 (by decide))
  have T12 : h4 160 23 = u3.2 160 23 := by rw [E_h4]; exact up_n (fun z => absurd z.1 (by decide))
  refine ok_cVR (vf_X13_sign_ hn (by omega) (by omega) V_h4 (by omega) N_h4) ?_; intro u6 E_u6 V_u6 R_u6
  have N_u6 : EK_ u6 := ek_fr V_h4 N_h4 (fun c k z => (ff_X13_sign_ nn) _ E_u6 c k z) rfl
  have T13 : u6 160 8 = h4 160 8 := (ff_X13_sign_ nn) _ E_u6 160 8 rfl
  have T14 : u6 160 22 = h4 160 22 := (ff_X13_sign_ nn) _ E_u6 160 22 rfl
  have T15 := gF_160_9 V_u6
  have T16 := gF_160_23 V_u6
  exact ok_rIR V_u6 (by omega) (by omega) ⟨N_u6, by omega⟩
set_option maxRecDepth 4000 in
theorem vo_X13_fresh {nn : Nat} (hn : 1000000 ≤ nn) {g : Int} {rc : tq_X13_expression} (hg : GH_X13_expression g rc) {a1 : Int} {h : ms_M} (a_a1 : 0 ≤ a1) (b_a1 : a1 ≤ 40) (V_h : VS_ h) (x_0 : 16 * (40 - a1) + 2 ≤ (g + 1)) (x_1 : h 160 23 + 2 ≤ h 160 8) (x_2 : h 160 22 ≤ 2 * h 160 23 + 100) (x_3 : h 160 9 = 0) (N_h : EK_ h)  : Ok_ (qo_X13_fresh nn rc a1 h) (QIR_ (-1) 8999 (fun u r => (EK_ r) ∧ (r 160 8 = h 160 8) ∧ (h 160 9 = 0 ∨ ¬ r 160 9 = 0) ∧ (h 160 23 ≤ r 160 23) ∧ (r 160 23 + 1 ≤ h 160 8) ∧ (h 160 22 ≤ r 160 22) ∧ (r 160 22 + 2 * h 160 23 ≤ h 160 22 + 2 * r 160 23 + 0) ∧ (¬ r 160 9 = 0 ∨ (0 ≤ u ∧ u < r 160 22 ∧ r 160 22 + 2 * h 160 23 + 1 ≤ h 160 22 + 2 * r 160 23)))) := by
  unfold qo_X13_fresh
  have T1 := gF_160_8 V_h
  have T2 := gF_160_9 V_h
  have T3 := gF_160_22 V_h
  have T4 := gF_160_23 V_h
  refine ok_add (by omega) ?_; intro v9 e_v9
  refine ok_xl ?_; intro h10 E_h10; have V_h10 : VS_ h10 := by rw [E_h10]; exact wF_160_23 V_h (by omega)
  have N_h10 : EK_ h10 := by rw [E_h10]; exact ek_up V_h N_h rfl
  have T5 : h10 160 8 = h 160 8 := by rw [E_h10]; exact up_n (by decide)
  have T6 : h10 160 9 = h 160 9 := by rw [E_h10]; exact up_n (by decide)
  have T7 : h10 160 22 = h 160 22 := by rw [E_h10]; exact up_n (by decide)
  have T8 : h10 160 23 = v9 := by rw [E_h10]; exact up_s
  refine ok_cP (vf_X13_isWord hn (by omega) (by omega) (by omega) (by omega) V_h10) ?_; intro u13 e_u13 a_u13 b_u13
  have T9 := lm_ek_isWord N_h10 (by omega) e_u13
  refine ok_if ?_ ?_
  · intro C9
    refine ok_cIR (vf_X13_name hn V_h10 (by omega) N_h10) ?_; intro u15 E_u15 V_u15 a_u15 b_u15 R_u15
    have N_u15_2 : EK_ u15.2 := ek_fr V_h10 N_h10 (fun c k z => (ff_X13_name nn) _ E_u15 c k z) rfl
    have T11 : u15.2 160 8 = h10 160 8 := (ff_X13_name nn) _ E_u15 160 8 rfl
    have T12 : u15.2 160 22 = h10 160 22 := (ff_X13_name nn) _ E_u15 160 22 rfl
    have T13 := gF_160_9 V_u15
    have T14 := gF_160_23 V_u15
    refine ok_if ?_ ?_
    · intro C14
      refine ok_cIR (vf_X13_add hn (by omega) (by omega) (by omega) (by omega) (by omega) (by omega) V_u15 (by omega)) ?_; intro u18 E_u18 V_u18 a_u18 b_u18 R_u18
      have N_u18_2 : EK_ u18.2 := ek_fr V_u15 N_u15_2 (fun c k z => (ff_X13_add nn) _ E_u18 c k z) rfl
      have T16 : u18.2 160 8 = u15.2 160 8 := (ff_X13_add nn) _ E_u18 160 8 rfl
      have T17 : u18.2 160 9 = u15.2 160 9 := (ff_X13_add nn) _ E_u18 160 9 rfl
      have T18 : u18.2 160 23 = u15.2 160 23 := (ff_X13_add nn) _ E_u18 160 23 rfl
      have T19 := gF_160_22 V_u18
      refine ok_cP (vf_X13_isSign hn (by omega) (by omega) (by omega) (by omega) V_u18) ?_; intro u21 e_u21 a_u21 b_u21
      have T20 := lm_ek_isSign N_u18_2 (by omega) e_u21
      refine ok_if ?_ ?_
      · intro C20
        refine ok_cVR (vf_X13_sign_ hn (by omega) (by omega) V_u18 (by omega) N_u18_2) ?_; intro u23 E_u23 V_u23 R_u23
        have N_u23 : EK_ u23 := ek_fr V_u18 N_u18_2 (fun c k z => (ff_X13_sign_ nn) _ E_u23 c k z) rfl
        have T22 : u23 160 8 = u18.2 160 8 := (ff_X13_sign_ nn) _ E_u23 160 8 rfl
        have T23 : u23 160 22 = u18.2 160 22 := (ff_X13_sign_ nn) _ E_u23 160 22 rfl
        have T24 := gF_160_9 V_u23
        have T25 := gF_160_23 V_u23
        refine ok_cVR (vf_X13_sign_ hn (by omega) (by omega) V_u23 (by omega) N_u23) ?_; intro u25 E_u25 V_u25 R_u25
        have N_u25 : EK_ u25 := ek_fr V_u23 N_u23 (fun c k z => (ff_X13_sign_ nn) _ E_u25 c k z) rfl
        have T26 : u25 160 8 = u23 160 8 := (ff_X13_sign_ nn) _ E_u25 160 8 rfl
        have T27 : u25 160 22 = u23 160 22 := (ff_X13_sign_ nn) _ E_u25 160 22 rfl
        have T28 := gF_160_9 V_u25
        have T29 := gF_160_23 V_u25
        exact ok_rIR V_u25 (by omega) (by omega) ⟨N_u25, by omega⟩
      · intro C20
        refine ok_wA (by omega) ?_; intro h27 E_h27; have V_h27 : VS_ h27 := by rw [E_h27]; exact wA_167 V_u18 (by omega)
        have N_h27 : EK_ h27 := by rw [E_h27]; exact ek_ua V_u18 N_u18_2 rfl
        have T30 : h27 160 8 = u18.2 160 8 := by rw [E_h27]; exact up_n (fun z => absurd z.1 (by decide))
        have T31 : h27 160 9 = u18.2 160 9 := by rw [E_h27]; exact up_n (fun z => absurd z.1 (by decide))
        have T32 : h27 160 23 = u18.2 160 23 := by rw [E_h27]; exact up_n (fun z => absurd z.1 (by decide))
        have T33 : h27 160 22 = u18.2 160 22 := by rw [E_h27]; exact up_n (fun z => absurd z.1 (by decide))
        refine ok_wA (by omega) ?_; intro h30 E_h30; have V_h30 : VS_ h30 := by rw [E_h30]; exact wA_172 V_h27 (by omega)
        have N_h30 : EK_ h30 := by rw [E_h30]; exact ek_ua V_h27 N_h27 rfl
        have T34 : h30 160 8 = h27 160 8 := by rw [E_h30]; exact up_n (fun z => absurd z.1 (by decide))
        have T35 : h30 160 9 = h27 160 9 := by rw [E_h30]; exact up_n (fun z => absurd z.1 (by decide))
        have T36 : h30 160 23 = h27 160 23 := by rw [E_h30]; exact up_n (fun z => absurd z.1 (by decide))
        have T37 : h30 160 22 = h27 160 22 := by rw [E_h30]; exact up_n (fun z => absurd z.1 (by decide))
        refine ok_add (by omega) ?_; intro v32 e_v32
        refine ok_xl ?_; intro h33 E_h33; have V_h33 : VS_ h33 := by rw [E_h33]; exact wF_160_23 V_h30 (by omega)
        have N_h33 : EK_ h33 := by rw [E_h33]; exact ek_up V_h30 N_h30 rfl
        have T38 : h33 160 8 = h30 160 8 := by rw [E_h33]; exact up_n (by decide)
        have T39 : h33 160 9 = h30 160 9 := by rw [E_h33]; exact up_n (by decide)
        have T40 : h33 160 22 = h30 160 22 := by rw [E_h33]; exact up_n (by decide)
        have T41 : h33 160 23 = v32 := by rw [E_h33]; exact up_s
        exact ok_mI (vj_X13_fresh_142 hn hg (by omega) (by omega) (by omega) (by omega) V_h33 (by omega) (by omega) (by omega) (by omega) N_h33) (fun _ _ V_r R_r => ⟨R_r.1, by have := R_r.2; have := gF_160_8 V_r; have := gF_160_9 V_r; have := gF_160_22 V_r; have := gF_160_23 V_r; omega⟩)
    · intro C14
      exact ok_rIR V_u15 (by omega) (by omega) ⟨N_u15_2, by omega⟩
  · intro C9
    refine ok_add (by omega) ?_; intro v37 e_v37
    refine ok_xl ?_; intro h38 E_h38; have V_h38 : VS_ h38 := by rw [E_h38]; exact wF_160_23 V_h10 (by omega)
    have N_h38 : EK_ h38 := by rw [E_h38]; exact ek_up V_h10 N_h10 rfl
    have T42 : h38 160 8 = h10 160 8 := by rw [E_h38]; exact up_n (by decide)
    have T43 : h38 160 9 = h10 160 9 := by rw [E_h38]; exact up_n (by decide)
    have T44 : h38 160 22 = h10 160 22 := by rw [E_h38]; exact up_n (by decide)
    have T45 : h38 160 23 = v37 := by rw [E_h38]; exact up_s
    refine ok_cIR (vf_X13_add hn (by omega) (by omega) (by omega) (by omega) (by omega) (by omega) V_h38 (by omega)) ?_; intro u41 E_u41 V_u41 a_u41 b_u41 R_u41
    have N_u41_2 : EK_ u41.2 := ek_fr V_h38 N_h38 (fun c k z => (ff_X13_add nn) _ E_u41 c k z) rfl
    have T46 : u41.2 160 8 = h38 160 8 := (ff_X13_add nn) _ E_u41 160 8 rfl
    have T47 : u41.2 160 9 = h38 160 9 := (ff_X13_add nn) _ E_u41 160 9 rfl
    have T48 : u41.2 160 23 = h38 160 23 := (ff_X13_add nn) _ E_u41 160 23 rfl
    have T49 := gF_160_22 V_u41
    refine ok_cVR (vf_X13_sign_ hn (by omega) (by omega) V_u41 (by omega) N_u41_2) ?_; intro u43 E_u43 V_u43 R_u43
    have N_u43 : EK_ u43 := ek_fr V_u41 N_u41_2 (fun c k z => (ff_X13_sign_ nn) _ E_u43 c k z) rfl
    have T50 : u43 160 8 = u41.2 160 8 := (ff_X13_sign_ nn) _ E_u43 160 8 rfl
    have T51 : u43 160 22 = u41.2 160 22 := (ff_X13_sign_ nn) _ E_u43 160 22 rfl
    have T52 := gF_160_9 V_u43
    have T53 := gF_160_23 V_u43
    refine ok_cIR (hg.1 (by omega) (by omega) V_u43 (by omega) (by omega) (by omega) N_u43) ?_; intro u46 E_u46 V_u46 a_u46 b_u46 R_u46
    have N_u46_2 : EK_ u46.2 := R_u46.1
    have T54 := gF_160_8 V_u46
    have T55 := gF_160_9 V_u46
    have T56 := gF_160_22 V_u46
    have T57 := gF_160_23 V_u46
    refine ok_wA (by omega) ?_; intro h47 E_h47; have V_h47 : VS_ h47 := by rw [E_h47]; exact wA_170 V_u46 (by omega)
    have N_h47 : EK_ h47 := by rw [E_h47]; exact ek_ua V_u46 N_u46_2 rfl
    have T58 : h47 160 8 = u46.2 160 8 := by rw [E_h47]; exact up_n (fun z => absurd z.1 (by decide))
    have T59 : h47 160 9 = u46.2 160 9 := by rw [E_h47]; exact up_n (fun z => absurd z.1 (by decide))
    have T60 : h47 160 22 = u46.2 160 22 := by rw [E_h47]; exact up_n (fun z => absurd z.1 (by decide))
    have T61 : h47 160 23 = u46.2 160 23 := by rw [E_h47]; exact up_n (fun z => absurd z.1 (by decide))
    refine ok_cVR (vf_X13_sign_ hn (by omega) (by omega) V_h47 (by omega) N_h47) ?_; intro u49 E_u49 V_u49 R_u49
    have N_u49 : EK_ u49 := ek_fr V_h47 N_h47 (fun c k z => (ff_X13_sign_ nn) _ E_u49 c k z) rfl
    have T62 : u49 160 8 = h47 160 8 := (ff_X13_sign_ nn) _ E_u49 160 8 rfl
    have T63 : u49 160 22 = h47 160 22 := (ff_X13_sign_ nn) _ E_u49 160 22 rfl
    have T64 := gF_160_9 V_u49
    have T65 := gF_160_23 V_u49
    exact ok_rIR V_u49 (by omega) (by omega) ⟨N_u49, by omega⟩
set_option maxRecDepth 4000 in
theorem vg_X13_expression {nn : Nat} (hn : 1000000 ≤ nn) : ∀ g : Nat, GH_X13_expression (g : Int) (qg_X13_expression nn g) := by
  intro g
  induction g with
  | zero => exact ⟨by intros; exfalso; omega, by intros; exfalso; omega, by intros; exfalso; omega, by intros; exfalso; omega, by intros; exfalso; omega, by intros; exfalso; omega, by intros; exfalso; omega⟩
  | succ g ih =>
    refine ⟨?_, ?_, ?_, ?_, ?_, ?_, ?_⟩
    · intro a1 h a_a1 b_a1 V_h x_0 x_1 x_2 N_h; exact vo_X13_expression hn ih a_a1 b_a1 V_h (by omega) (by omega) (by omega) N_h
    · intro a1 a2 h a_a1 b_a1 a_a2 b_a2 V_h x_0 x_1 x_2 N_h; exact vo_X13_sides hn ih a_a1 b_a1 a_a2 b_a2 V_h (by omega) (by omega) (by omega) N_h
    · intro a1 h a_a1 b_a1 V_h x_0 x_1 x_2 N_h; exact vo_X13_unary hn ih a_a1 b_a1 V_h (by omega) (by omega) (by omega) N_h
    · intro a1 h a_a1 b_a1 V_h x_0 x_1 x_2 N_h; exact vo_X13_arguments hn ih a_a1 b_a1 V_h (by omega) (by omega) (by omega) N_h
    · intro a1 h a_a1 b_a1 V_h x_0 x_1 x_2 x_3 N_h; exact vo_X13_postfix hn ih a_a1 b_a1 V_h (by omega) (by omega) (by omega) (by omega) N_h
    · intro a1 h a_a1 b_a1 V_h x_0 x_1 x_2 x_3 N_h; exact vo_X13_primary hn ih a_a1 b_a1 V_h (by omega) (by omega) (by omega) (by omega) N_h
    · intro a1 h a_a1 b_a1 V_h x_0 x_1 x_2 x_3 N_h; exact vo_X13_fresh hn ih a_a1 b_a1 V_h (by omega) (by omega) (by omega) (by omega) N_h
theorem vf_X13_expression {nn : Nat} (hn : 1000000 ≤ nn) {a1 : Int} {h : ms_M} (a_a1 : 0 ≤ a1) (b_a1 : a1 ≤ 40) (V_h : VS_ h) (x_1 : h 160 23 + 1 ≤ h 160 8) (x_2 : h 160 22 ≤ 2 * h 160 23 + 100) (xg : 16 * (40 - a1) + 1 ≤ 700) (N_h : EK_ h) : Ok_ (qf_X13_expression nn a1 h) (QIR_ (-1) 8999 (fun u r => (EK_ r) ∧ (r 160 8 = h 160 8) ∧ (h 160 9 = 0 ∨ ¬ r 160 9 = 0) ∧ (h 160 23 ≤ r 160 23) ∧ (r 160 23 + 1 ≤ h 160 8) ∧ (h 160 22 ≤ r 160 22) ∧ (r 160 22 + 2 * h 160 23 ≤ h 160 22 + 2 * r 160 23 + 0) ∧ (¬ r 160 9 = 0 ∨ (0 ≤ u ∧ u < r 160 22 ∧ r 160 22 + 2 * h 160 23 + 1 ≤ h 160 22 + 2 * r 160 23)))) := by
  unfold qf_X13_expression
  exact (vg_X13_expression hn 700).1 a_a1 b_a1 V_h (by omega) (by omega) (by omega) N_h
