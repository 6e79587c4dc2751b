set_option maxRecDepth 4000 in
theorem vf_X11_isJump {nn : Nat} (hn : 1000000 ≤ nn) {a0 : Int} {h : ms_M} (a_a0 : 0 ≤ a0) (b_a0 : a0 ≤ 255) (V_h : VS_ h)  : Ok_ (qf_X11_isJump nn a0 h) (QP_ 0 1) := by
  unfold qf_X11_isJump
  refine ok_if ?_ ?_
  · intro C0
    exact ok_rP (by omega) (by omega)
  · intro C0
    refine ok_if ?_ ?_
    · intro C1
      exact ok_rP (by omega) (by omega)
    · intro C1
      refine ok_if ?_ ?_
      · intro C2
        exact ok_rP (by omega) (by omega)
      · intro C2
        refine ok_if ?_ ?_
        · intro C3
          exact ok_rP (by omega) (by omega)
        · intro C3
          exact ok_rP (by omega) (by omega)
set_option maxRecDepth 4000 in
theorem vf_X7_link {nn : Nat} (hn : 1000000 ≤ nn) {a1 : Int} {a2 : Int} {h : ms_M} (a_a1 : (-178956970) ≤ a1) (b_a1 : a1 ≤ 178956970) (a_a2 : 0 ≤ a2) (b_a2 : a2 ≤ 255) (V_h : VS_ h)  : Ok_ (qf_X7_link nn a1 a2 h) (QP_ (-2147483648) 2147483647) := by
  unfold qf_X7_link
  refine ok_if ?_ ?_
  · intro C0
    exact ok_rP (by omega) (by omega)
  · intro C0
    refine ok_if ?_ ?_
    · intro C1
      exact ok_rP (by omega) (by omega)
    · intro C1
      refine ok_if ?_ ?_
      · intro C2
        exfalso; omega
      · intro C2
        refine ok_if ?_ ?_
        · intro C3
          exfalso; omega
        · intro C3
          refine ok_mul (by omega) ?_; intro v2 e_v2
          refine ok_add (by omega) ?_; intro v3 e_v3
          refine ok_rd (by omega) (gA_68 V_h) ?_; intro v4 e_v4 a_v4 b_v4
          exact ok_rP (by omega) (by omega)
set_option maxRecDepth 4000 in
theorem vj_X5_compares_103 {nn : Nat} (hn : 1000000 ≤ nn) {l1 : Int} {l2 : Int} {h : ms_M} (a_l1 : (-2147483648) ≤ l1) (b_l1 : l1 ≤ 2147483647) (a_l2 : (-2147483648) ≤ l2) (b_l2 : l2 ≤ 2147483647) (V_h : VS_ h)  : Ok_ (qj_X5_compares_103 nn l1 l2 h) (QP_ 0 1) := by
  unfold qj_X5_compares_103
  refine ok_if ?_ ?_
  · intro C0
    exact ok_rP (by omega) (by omega)
  · intro C0
    exact ok_rP (by omega) (by omega)
set_option maxRecDepth 4000 in
theorem vj_X5_compares_59 {nn : Nat} (hn : 1000000 ≤ nn) {l1 : Int} {l2 : Int} {h : ms_M} (a_l1 : (-2147483648) ≤ l1) (b_l1 : l1 ≤ 2147483647) (a_l2 : (-2147483648) ≤ l2) (b_l2 : l2 ≤ 2147483647) (V_h : VS_ h)  : Ok_ (qj_X5_compares_59 nn l1 l2 h) (QP_ 0 1) := by
  unfold qj_X5_compares_59
  refine ok_if ?_ ?_
  · intro C0
    exact ok_rP (by omega) (by omega)
  · intro C0
    exact ok_rP (by omega) (by omega)
set_option maxRecDepth 4000 in
theorem vj_X5_compares_48 {nn : Nat} (hn : 1000000 ≤ nn) {l1 : Int} {l2 : Int} {h : ms_M} (a_l1 : (-2147483648) ≤ l1) (b_l1 : l1 ≤ 2147483647) (a_l2 : (-2147483648) ≤ l2) (b_l2 : l2 ≤ 2147483647) (V_h : VS_ h)  : Ok_ (qj_X5_compares_48 nn l1 l2 h) (QP_ 0 1) := by
  unfold qj_X5_compares_48
  refine ok_if ?_ ?_
  · intro C0
    exact ok_rP (by omega) (by omega)
  · intro C0
    exact ok_rP (by omega) (by omega)
set_option maxRecDepth 4000 in
theorem vf_X5_compares {nn : Nat} (hn : 1000000 ≤ nn) {a0 : Int} {a1 : Int} {a2 : Int} {h : ms_M} (a_a0 : 9 ≤ a0) (b_a0 : a0 ≤ 255) (a_a1 : (-2147483648) ≤ a1) (b_a1 : a1 ≤ 2147483647) (a_a2 : (-2147483648) ≤ a2) (b_a2 : a2 ≤ 2147483647) (V_h : VS_ h)  : Ok_ (qf_X5_compares nn a0 a1 a2 h) (QP_ 0 1) := by
  unfold qf_X5_compares
  refine ok_if ?_ ?_
  · intro C0
    exact vj_X5_compares_48 hn (by omega) (by omega) (by omega) (by omega) V_h
  · intro C0
    refine ok_if ?_ ?_
    · intro C1
      exact vj_X5_compares_59 hn (by omega) (by omega) (by omega) (by omega) V_h
    · intro C1
      refine ok_if ?_ ?_
      · intro C2
        refine ok_if ?_ ?_
        · intro C3
          exact ok_rP (by omega) (by omega)
        · intro C3
          exact ok_rP (by omega) (by omega)
      · intro C2
        refine ok_if ?_ ?_
        · intro C4
          refine ok_if ?_ ?_
          · intro C5
            exact ok_rP (by omega) (by omega)
          · intro C5
            exact ok_rP (by omega) (by omega)
        · intro C4
          refine ok_if ?_ ?_
          · intro C6
            refine ok_if ?_ ?_
            · intro C7
              exact ok_rP (by omega) (by omega)
            · intro C7
              exact ok_rP (by omega) (by omega)
          · intro C6
            refine ok_if ?_ ?_
            · intro C8
              exact vj_X5_compares_48 hn (by omega) (by omega) (by omega) (by omega) V_h
            · intro C8
              refine ok_if ?_ ?_
              · intro C9
                exact vj_X5_compares_59 hn (by omega) (by omega) (by omega) (by omega) V_h
              · intro C9
                exact vj_X5_compares_103 hn (by omega) (by omega) (by omega) (by omega) V_h
set_option maxRecDepth 4000 in
theorem vf_X5_isObject {nn : Nat} (hn : 1000000 ≤ nn) {a1 : Int} {h : ms_M} (a_a1 : (-2147483648) ≤ a1) (b_a1 : a1 ≤ 2147483647) (V_h : VS_ h)  : Ok_ (qf_X5_isObject nn a1 h) (QP_ 0 1) := by
  unfold qf_X5_isObject
  refine ok_if ?_ ?_
  · intro C0
    exact ok_rP (by omega) (by omega)
  · intro C0
    have T2 := gF_143_4 V_h
    refine ok_if ?_ ?_
    · intro C2
      exact ok_rP (by omega) (by omega)
    · intro C2
      refine ok_if ?_ ?_
      · intro C3
        exfalso; omega
      · intro C3
        exact ok_rP (by omega) (by omega)
set_option maxRecDepth 4000 in
theorem vf_X7_nearestTo {nn : Nat} (hn : 1000000 ≤ nn) {a1 : Int} {a2 : Int} {h : ms_M} (a_a1 : (-2147483648) ≤ a1) (b_a1 : a1 ≤ 2147483647) (a_a2 : (-2147483648) ≤ a2) (b_a2 : a2 ≤ 2147483647) (V_h : VS_ h)  : Ok_ (qf_X7_nearestTo nn a1 a2 h) (QP_ (-2147483648) 2147483647) := by
  unfold qf_X7_nearestTo
  refine ok_i32 ?_; intro v1 a_v1 b_v1
  refine ok_if ?_ ?_
  · intro C0
    exact ok_rP (by omega) (by omega)
  · intro C0
    refine ok_if ?_ ?_
    · intro C1
      exact ok_rP (by omega) (by omega)
    · intro C1
      refine ok_if ?_ ?_
      · intro C2
        exact ok_rP (by omega) (by omega)
      · intro C2
        refine ok_if ?_ ?_
        · intro C3
          exact ok_rP (by omega) (by omega)
        · intro C3
          refine ok_mul (by omega) ?_; intro v3 e_v3
          refine ok_add (by omega) ?_; intro v4 e_v4
          refine ok_rd (by omega) (gA_70 V_h) ?_; intro v5 e_v5 a_v5 b_v5
          exact ok_rP (by omega) (by omega)
set_option maxRecDepth 4000 in
theorem vf_X7_numberOf {nn : Nat} (hn : 1000000 ≤ nn) {a1 : Int} {a2 : Int} {h : ms_M} (a_a1 : (-2147483648) ≤ a1) (b_a1 : a1 ≤ 2147483647) (a_a2 : 0 ≤ a2) (b_a2 : a2 ≤ 2147483646) (V_h : VS_ h)  : Ok_ (qf_X7_numberOf nn a1 a2 h) (QP_ (-2147483648) 2147483647) := by
  unfold qf_X7_numberOf
  refine ok_i32 ?_; intro v1 a_v1 b_v1
  refine ok_i32 ?_; intro v2 a_v2 b_v2
  refine ok_i32 ?_; intro v3 a_v3 b_v3
  exact ok_rP (by omega) (by omega)
set_option maxRecDepth 4000 in
theorem vf_X11_tellNumber {nn : Nat} (hn : 1000000 ≤ nn) {a1 : Int} {a2 : Int} {a3 : Int} {a4 : Int} {h : ms_M} (a_a1 : 1 ≤ a1) (b_a1 : a1 ≤ 12) (a_a2 : 8 ≤ a2) (b_a2 : a2 ≤ 15) (a_a3 : (-1) ≤ a3) (b_a3 : a3 ≤ 2147483646) (a_a4 : (-2147483648) ≤ a4) (b_a4 : a4 ≤ 2147483646) (V_h : VS_ h)  : Ok_ (qf_X11_tellNumber nn a1 a2 a3 a4 h) (QI_ 1 12) := by
  unfold qf_X11_tellNumber
  refine ok_xl ?_; intro h1 E_h1; have V_h1 : VS_ h1 := by rw [E_h1]; exact wF_127_2 V_h (by omega)
  refine ok_xl ?_; intro h2 E_h2; have V_h2 : VS_ h2 := by rw [E_h2]; exact wF_127_3 V_h1 (by omega)
  refine ok_xl ?_; intro h3 E_h3; have V_h3 : VS_ h3 := by rw [E_h3]; exact wF_127_4 V_h2 (by omega)
  exact ok_rI V_h3 (by omega) (by omega)
set_option maxRecDepth 4000 in
theorem vj_X4_endsAbove_33 {nn : Nat} (hn : 1000000 ≤ nn) {l2 : Int} {h : ms_M} (a_l2 : (-2147483648) ≤ l2) (b_l2 : l2 ≤ 2147483647) (V_h : VS_ h)  : Ok_ (qj_X4_endsAbove_33 nn l2 h) (QP_ 0 1) := by
  unfold qj_X4_endsAbove_33
  refine ok_if ?_ ?_
  · intro C0
    exact ok_rP (by omega) (by omega)
  · intro C0
    exact ok_rP (by omega) (by omega)
set_option maxRecDepth 4000 in
theorem vw_X4_endsAbove_4 {nn : Nat} (hn : 1000000 ≤ nn) : ∀ (k : Nat) {l2 : Int} {l3 : Int} {h : ms_M} (a_l2 : (-2147483648) ≤ l2) (b_l2 : l2 ≤ 2147483647) (a_l3 : 0 ≤ l3) (b_l3 : l3 ≤ 17) (V_h : VS_ h)  (hm : 18 - l3 < (k : Int)), Ok_ (qw_X4_endsAbove_4 nn k l2 l3 h) (QP_ 0 1) := by
  intro k
  induction k with
  | zero => intros; exfalso; omega
  | succ k ih =>
    intro l2 l3 h a_l2 b_l2 a_l3 b_l3 V_h hm
    unfold qw_X4_endsAbove_4
    refine ok_if ?_ ?_
    · intro C0
      exact vj_X4_endsAbove_33 hn (by omega) (by omega) V_h
    · intro C0
      refine ok_if ?_ ?_
      · intro C1
        exact vj_X4_endsAbove_33 hn (by omega) (by omega) V_h
      · intro C1
        refine ok_if ?_ ?_
        · intro C2
          exact vj_X4_endsAbove_33 hn (by omega) (by omega) V_h
        · intro C2
          refine ok_rd (by omega) (gA_58 V_h) ?_; intro v3 e_v3 a_v3 b_v3
          refine ok_add (by omega) ?_; intro v4 e_v4
          exact ih (by omega) (by omega) (by omega) (by omega) V_h (by omega)
set_option maxRecDepth 4000 in
theorem vf_X4_endsAbove {nn : Nat} (hn : 1000000 ≤ nn) {a1 : Int} {h : ms_M} (a_a1 : 8 ≤ a1) (b_a1 : a1 ≤ 15) (V_h : VS_ h)  : Ok_ (qf_X4_endsAbove nn a1 h) (QP_ 0 1) := by
  unfold qf_X4_endsAbove
  exact vw_X4_endsAbove_4 hn _ (by omega) (by omega) (by omega) (by omega) V_h (by omega)
set_option maxRecDepth 4000 in
theorem vf_X11_at {nn : Nat} (hn : 1000000 ≤ nn) {a1 : Int} {a2 : Int} {h : ms_M} (a_a1 : 1 ≤ a1) (b_a1 : a1 ≤ 12) (a_a2 : (-2147483648) ≤ a2) (b_a2 : a2 ≤ 2147483646) (V_h : VS_ h)  : Ok_ (qf_X11_at nn a1 a2 h) (QI_ 1 12) := by
  unfold qf_X11_at
  refine ok_xl ?_; intro h1 E_h1; have V_h1 : VS_ h1 := by rw [E_h1]; exact wF_127_7 V_h (by omega)
  exact ok_rI V_h1 (by omega) (by omega)
set_option maxRecDepth 4000 in
theorem vf_X11_begins {nn : Nat} (hn : 1000000 ≤ nn) {a1 : Int} {h : ms_M} (a_a1 : (-2147483648) ≤ a1) (b_a1 : a1 ≤ 2147483647) (V_h : VS_ h)  : Ok_ (qf_X11_begins nn a1 h) (QP_ 0 1) := by
  unfold qf_X11_begins
  refine ok_if ?_ ?_
  · intro C0
    exact ok_rP (by omega) (by omega)
  · intro C0
    have T2 := gF_127_16 V_h
    refine ok_if ?_ ?_
    · intro C2
      exact ok_rP (by omega) (by omega)
    · intro C2
      refine ok_rd (by omega) (gA_132 V_h) ?_; intro v3 e_v3 a_v3 b_v3
      refine ok_if ?_ ?_
      · intro C3
        exfalso; omega
      · intro C3
        exact ok_rP (by omega) (by omega)
set_option maxRecDepth 4000 in
theorem vj_X11_isBare_116 {nn : Nat} (hn : 1000000 ≤ nn) {h : ms_M} (V_h : VS_ h)  : Ok_ (qj_X11_isBare_116 nn h) (QP_ 0 1) := by
  unfold qj_X11_isBare_116
  exact ok_rP (by omega) (by omega)
set_option maxRecDepth 4000 in
theorem vf_X11_isBare {nn : Nat} (hn : 1000000 ≤ nn) {a0 : Int} {h : ms_M} (a_a0 : 9 ≤ a0) (b_a0 : a0 ≤ 255) (V_h : VS_ h)  : Ok_ (qf_X11_isBare nn a0 h) (QP_ 0 1) := by
  unfold qf_X11_isBare
  refine ok_if ?_ ?_
  · intro C0
    exact vj_X11_isBare_116 hn V_h
  · intro C0
    refine ok_if ?_ ?_
    · intro C1
      exact vj_X11_isBare_116 hn V_h
    · intro C1
      refine ok_if ?_ ?_
      · intro C2
        exact vj_X11_isBare_116 hn V_h
      · intro C2
        refine ok_if ?_ ?_
        · intro C3
          exact vj_X11_isBare_116 hn V_h
        · intro C3
          refine ok_if ?_ ?_
          · intro C4
            exact vj_X11_isBare_116 hn V_h
          · intro C4
            refine ok_if ?_ ?_
            · intro C5
              exact vj_X11_isBare_116 hn V_h
            · intro C5
              refine ok_if ?_ ?_
              · intro C6
                exact vj_X11_isBare_116 hn V_h
              · intro C6
                refine ok_if ?_ ?_
                · intro C7
                  exact vj_X11_isBare_116 hn V_h
                · intro C7
                  refine ok_if ?_ ?_
                  · intro C8
                    exact vj_X11_isBare_116 hn V_h
                  · intro C8
                    refine ok_if ?_ ?_
                    · intro C9
                      exact vj_X11_isBare_116 hn V_h
                    · intro C9
                      refine ok_if ?_ ?_
                      · intro C10
                        exact vj_X11_isBare_116 hn V_h
                      · intro C10
                        refine ok_if ?_ ?_
                        · intro C11
                          exact vj_X11_isBare_116 hn V_h
                        · intro C11
                          refine ok_if ?_ ?_
                          · intro C12
                            exact vj_X11_isBare_116 hn V_h
                          · intro C12
                            refine ok_cP (vf_X11_isArithmetic hn (by omega) (by omega) V_h) ?_; intro u1 e_u1 a_u1 b_u1
                            refine ok_ck (by omega) ?_
                            exact ok_rP (by omega) (by omega)
set_option maxRecDepth 4000 in
theorem vj_X11_widthOf_156 {nn : Nat} (hn : 1000000 ≤ nn) {h : ms_M} (V_h : VS_ h)  : Ok_ (qj_X11_widthOf_156 nn h) (QP_ 0 3) := by
  unfold qj_X11_widthOf_156
  exact ok_rP (by omega) (by omega)
set_option maxRecDepth 4000 in
theorem vf_X11_widthOf {nn : Nat} (hn : 1000000 ≤ nn) {a0 : Int} {h : ms_M} (a_a0 : 0 ≤ a0) (b_a0 : a0 ≤ 255) (V_h : VS_ h)  : Ok_ (qf_X11_widthOf nn a0 h) (QP_ 0 3) := by
  unfold qf_X11_widthOf
  refine ok_if ?_ ?_
  · intro C0
    exact ok_rP (by omega) (by omega)
  · intro C0
    refine ok_cP (vf_X11_isBare hn (by omega) (by omega) V_h) ?_; intro u1 e_u1 a_u1 b_u1
    refine ok_if ?_ ?_
    · intro C1
      refine ok_cP (vf_X11_isJump hn (by omega) (by omega) V_h) ?_; intro u2 e_u2 a_u2 b_u2
      refine ok_if ?_ ?_
      · intro C2
        refine ok_if ?_ ?_
        · intro C3
          exact vj_X11_widthOf_156 hn V_h
        · intro C3
          refine ok_if ?_ ?_
          · intro C4
            exact vj_X11_widthOf_156 hn V_h
          · intro C4
            refine ok_if ?_ ?_
            · intro C5
              exact vj_X11_widthOf_156 hn V_h
            · intro C5
              refine ok_if ?_ ?_
              · intro C6
                exact vj_X11_widthOf_156 hn V_h
              · intro C6
                refine ok_if ?_ ?_
                · intro C7
                  exact vj_X11_widthOf_156 hn V_h
                · intro C7
                  refine ok_if ?_ ?_
                  · intro C8
                    exact vj_X11_widthOf_156 hn V_h
                  · intro C8
                    refine ok_if ?_ ?_
                    · intro C9
                      exact vj_X11_widthOf_156 hn V_h
                    · intro C9
                      refine ok_if ?_ ?_
                      · intro C10
                        exact vj_X11_widthOf_156 hn V_h
                      · intro C10
                        refine ok_if ?_ ?_
                        · intro C11
                          exact vj_X11_widthOf_156 hn V_h
                        · intro C11
                          refine ok_if ?_ ?_
                          · intro C12
                            exact vj_X11_widthOf_156 hn V_h
                          · intro C12
                            refine ok_if ?_ ?_
                            · intro C13
                              exact vj_X11_widthOf_156 hn V_h
                            · intro C13
                              refine ok_if ?_ ?_
                              · intro C14
                                exact vj_X11_widthOf_156 hn V_h
                              · intro C14
                                refine ok_if ?_ ?_
                                · intro C15
                                  exact vj_X11_widthOf_156 hn V_h
                                · intro C15
                                  refine ok_if ?_ ?_
                                  · intro C16
                                    exact vj_X11_widthOf_156 hn V_h
                                  · intro C16
                                    refine ok_if ?_ ?_
                                    · intro C17
                                      exact vj_X11_widthOf_156 hn V_h
                                    · intro C17
                                      exact ok_rP (by omega) (by omega)
      · intro C2
        exact ok_rP (by omega) (by omega)
    · intro C1
      exact ok_rP (by omega) (by omega)
set_option maxRecDepth 4000 in
theorem vf_X11_isLast {nn : Nat} (hn : 1000000 ≤ nn) {a0 : Int} {h : ms_M} (a_a0 : 0 ≤ a0) (b_a0 : a0 ≤ 255) (V_h : VS_ h)  : Ok_ (qf_X11_isLast nn a0 h) (QP_ 0 1) := by
  unfold qf_X11_isLast
  refine ok_if ?_ ?_
  · intro C0
    exact ok_rP (by omega) (by omega)
  · intro C0
    refine ok_if ?_ ?_
    · intro C1
      exact ok_rP (by omega) (by omega)
    · intro C1
      refine ok_if ?_ ?_
      · intro C2
        exact ok_rP (by omega) (by omega)
      · intro C2
        refine ok_if ?_ ?_
        · intro C3
          exact ok_rP (by omega) (by omega)
        · intro C3
          refine ok_if ?_ ?_
          · intro C4
            exact ok_rP (by omega) (by omega)
          · intro C4
            exact ok_rP (by omega) (by omega)
set_option maxRecDepth 4000 in
theorem vf_X11_typeOfTag {nn : Nat} (hn : 1000000 ≤ nn) {a1 : Int} {a2 : Int} {h : ms_M} (a_a1 : 0 ≤ a1) (b_a1 : a1 ≤ 255) (a_a2 : 0 ≤ a2) (b_a2 : a2 ≤ 255) (V_h : VS_ h)  : Ok_ (qf_X11_typeOfTag nn a1 a2 h) (QP_ (-2147483648) 2147483647) := by
  unfold qf_X11_typeOfTag
  refine ok_if ?_ ?_
  · intro C0
    exact ok_rP (by omega) (by omega)
  · intro C0
    refine ok_if ?_ ?_
    · intro C1
      exact ok_rP (by omega) (by omega)
    · intro C1
      refine ok_if ?_ ?_
      · intro C2
        exact ok_rP (by omega) (by omega)
      · intro C2
        refine ok_rd (by omega) (gA_128 V_h) ?_; intro v2 e_v2 a_v2 b_v2
        exact ok_rP (by omega) (by omega)
set_option maxRecDepth 4000 in
theorem vf_X12_where {nn : Nat} (hn : 1000000 ≤ nn) {a1 : Int} {h : ms_M} (a_a1 : (-2147483648) ≤ a1) (b_a1 : a1 ≤ 2147483647) (V_h : VS_ h)  : Ok_ (qf_X12_where nn a1 h) (QP_ (-2147483648) 2147483646) := by
  unfold qf_X12_where
  refine ok_if ?_ ?_
  · intro C0
    have T2 := gF_127_2 V_h
    exact ok_rP (by omega) (by omega)
  · intro C0
    refine ok_if ?_ ?_
    · intro C2
      have T4 := gF_127_3 V_h
      exact ok_rP (by omega) (by omega)
    · intro C2
      refine ok_if ?_ ?_
      · intro C4
        have T6 := gF_127_4 V_h
        exact ok_rP (by omega) (by omega)
      · intro C4
        exact ok_rP (by omega) (by omega)
