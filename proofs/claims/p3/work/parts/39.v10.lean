set_option maxRecDepth 4000 in
theorem vj_X11_isArithmetic_158 {nn : Nat} (hn : 1000000 ≤ nn) {h : ms_M} (V_h : VS_ h)  : Ok_ (qj_X11_isArithmetic_158 nn h) (QP_ 0 1) := by
  unfold qj_X11_isArithmetic_158
  exact ok_rP (by omega) (by omega)
set_option maxRecDepth 4000 in
theorem vj_X11_isArithmetic_156 {nn : Nat} (hn : 1000000 ≤ nn) {h : ms_M} (V_h : VS_ h)  : Ok_ (qj_X11_isArithmetic_156 nn h) (QP_ 0 1) := by
  unfold qj_X11_isArithmetic_156
  exact ok_rP (by omega) (by omega)
set_option maxRecDepth 4000 in
theorem vf_X11_isArithmetic {nn : Nat} (hn : 1000000 ≤ nn) {a0 : Int} {h : ms_M} (a_a0 : 0 ≤ a0) (b_a0 : a0 ≤ 255) (V_h : VS_ h)  : Ok_ (qf_X11_isArithmetic nn a0 h) (QP_ 0 1) := by
  unfold qf_X11_isArithmetic
  refine ok_if ?_ ?_
  · intro C0
    exact vj_X11_isArithmetic_156 hn V_h
  · intro C0
    refine ok_if ?_ ?_
    · intro C1
      exact vj_X11_isArithmetic_156 hn V_h
    · intro C1
      refine ok_if ?_ ?_
      · intro C2
        exact vj_X11_isArithmetic_156 hn V_h
      · intro C2
        refine ok_if ?_ ?_
        · intro C3
          exact vj_X11_isArithmetic_156 hn V_h
        · intro C3
          refine ok_if ?_ ?_
          · intro C4
            exact vj_X11_isArithmetic_156 hn V_h
          · intro C4
            refine ok_if ?_ ?_
            · intro C5
              exact vj_X11_isArithmetic_156 hn V_h
            · intro C5
              refine ok_if ?_ ?_
              · intro C6
                exact vj_X11_isArithmetic_156 hn V_h
              · intro C6
                refine ok_if ?_ ?_
                · intro C7
                  exact vj_X11_isArithmetic_156 hn V_h
                · intro C7
                  refine ok_if ?_ ?_
                  · intro C8
                    exact vj_X11_isArithmetic_156 hn V_h
                  · intro C8
                    refine ok_if ?_ ?_
                    · intro C9
                      exact vj_X11_isArithmetic_156 hn V_h
                    · intro C9
                      refine ok_if ?_ ?_
                      · intro C10
                        exact vj_X11_isArithmetic_156 hn V_h
                      · intro C10
                        exact vj_X11_isArithmetic_158 hn V_h
set_option maxRecDepth 4000 in
theorem vf_X11_isJump {nn : Nat} (hn : 1000000 ≤ nn) {a0 : Int} {h : ms_M} (a_a0 : 0 ≤ a0) (b_a0 : a0 ≤ 255) (V_h : VS_ h)  : Ok_ (qf_X11_isJump nn a0 h) (QP_ 0 1) := by
  unfold qf_X11_isJump
  refine ok_if ?_ ?_
  · intro C0
    exact ok_rP (by omega) (by omega)
  · intro C0
    refine ok_if ?_ ?_
    · intro C1
      exact ok_rP (by omega) (by omega)
    · intro C1
      refine ok_if ?_ ?_
      · intro C2
        exact ok_rP (by omega) (by omega)
      · intro C2
        refine ok_if ?_ ?_
        · intro C3
          exact ok_rP (by omega) (by omega)
        · intro C3
          exact ok_rP (by omega) (by omega)
set_option maxRecDepth 4000 in
theorem vf_X5_goOn {nn : Nat} (hn : 1000000 ≤ nn) {a1 : Int} {h : ms_M} (a_a1 : (-2147483648) ≤ a1) (b_a1 : a1 ≤ 2147483647) (V_h : VS_ h)  : Ok_ (qf_X5_goOn nn a1 h) QV_ := by
  unfold qf_X5_goOn
  have T1 := gF_143_17 V_h
  refine ok_rd (by omega) (gA_149 V_h) ?_; intro v3 e_v3 a_v3 b_v3
  refine ok_addW (by omega) ?_; intro v4 a_v4 b_v4 w_v4
  refine ok_wA (by omega) ?_; intro h5 E_h5; have V_h5 : VS_ h5 := by rw [E_h5]; exact wA_149 V_h (by omega)
  exact ok_rV V_h5
set_option maxRecDepth 4000 in
theorem vf_X5_push {nn : Nat} (hn : 1000000 ≤ nn) {a1 : Int} {h : ms_M} (a_a1 : (-2147483648) ≤ a1) (b_a1 : a1 ≤ 2147483647) (V_h : VS_ h)  : Ok_ (qf_X5_push nn a1 h) QV_ := by
  unfold qf_X5_push
  have T1 := gF_143_17 V_h
  refine ok_rd (by omega) (gA_150 V_h) ?_; intro v3 e_v3 a_v3 b_v3
  refine ok_if ?_ ?_
  · intro C1
    refine ok_mul (by omega) ?_; intro v6 e_v6
    refine ok_add (by omega) ?_; intro v7 e_v7
    refine ok_wA (by omega) ?_; intro h8 E_h8; have V_h8 : VS_ h8 := by rw [E_h8]; exact wA_152 V_h (by omega)
    have T3 : h8 143 17 = h 143 17 := by rw [E_h8]; exact up_n (fun z => absurd z.1 (by decide))
    refine ok_add (by omega) ?_; intro v11 e_v11
    refine ok_wA (by omega) ?_; intro h12 E_h12; have V_h12 : VS_ h12 := by rw [E_h12]; exact wA_150 V_h8 (by omega)
    exact ok_rV V_h12
  · intro C1
    refine ok_xl ?_; intro h13 E_h13; have V_h13 : VS_ h13 := by rw [E_h13]; exact wF_143_1 V_h (by omega)
    exact ok_rV V_h13
set_option maxRecDepth 4000 in
theorem vf_X5_give {nn : Nat} (hn : 1000000 ≤ nn) {a1 : Int} {a2 : Int} {h : ms_M} (a_a1 : (-2147483648) ≤ a1) (b_a1 : a1 ≤ 2147483647) (a_a2 : (-2147483648) ≤ a2) (b_a2 : a2 ≤ 2147483647) (V_h : VS_ h)  : Ok_ (qf_X5_give nn a1 a2 h) QV_ := by
  unfold qf_X5_give
  refine ok_cV (vf_X5_push hn (by omega) (by omega) V_h) ?_; intro u2 E_u2 V_u2
  refine ok_cV (vf_X5_goOn hn (by omega) (by omega) V_u2) ?_; intro u4 E_u4 V_u4
  exact ok_rV V_u4
set_option maxRecDepth 4000 in
theorem vf_X7_link {nn : Nat} (hn : 1000000 ≤ nn) {a1 : Int} {a2 : Int} {h : ms_M} (a_a1 : (-1) ≤ a1) (b_a1 : a1 ≤ 8) (a_a2 : 0 ≤ a2) (b_a2 : a2 ≤ 255) (V_h : VS_ h)  : Ok_ (qf_X7_link nn a1 a2 h) (QP_ (-2147483648) 2147483647) := by
  unfold qf_X7_link
  refine ok_if ?_ ?_
  · intro C0
    exact ok_rP (by omega) (by omega)
  · intro C0
    refine ok_if ?_ ?_
    · intro C1
      exact ok_rP (by omega) (by omega)
    · intro C1
      refine ok_if ?_ ?_
      · intro C2
        exfalso; omega
      · intro C2
        refine ok_if ?_ ?_
        · intro C3
          exfalso; omega
        · intro C3
          refine ok_mul (by omega) ?_; intro v2 e_v2
          refine ok_add (by omega) ?_; intro v3 e_v3
          refine ok_rd (by omega) (gA_68 V_h) ?_; intro v4 e_v4 a_v4 b_v4
          exact ok_rP (by omega) (by omega)
set_option maxRecDepth 4000 in
theorem vf_X5_link {nn : Nat} (hn : 1000000 ≤ nn) {a1 : Int} {h : ms_M} (a_a1 : 0 ≤ a1) (b_a1 : a1 ≤ 255) (V_h : VS_ h)  : Ok_ (qf_X5_link nn a1 h) (QP_ (-2147483648) 2147483647) := by
  unfold qf_X5_link
  have T1 := gF_143_17 V_h
  refine ok_rd (by omega) (gA_148 V_h) ?_; intro v4 e_v4 a_v4 b_v4
  refine ok_divT (n := 12) (by decide) ?_; intro v5 a_v5 b_v5
  refine ok_cP (vf_X7_link hn (by omega) (by omega) (by omega) (by omega) V_h) ?_; intro u7 e_u7 a_u7 b_u7
  exact ok_rP (by omega) (by omega)
set_option maxRecDepth 4000 in
theorem vf_X5_pop {nn : Nat} (hn : 1000000 ≤ nn) {h : ms_M} (V_h : VS_ h)  : Ok_ (qf_X5_pop nn h) (QI_ (-2147483648) 2147483647) := by
  unfold qf_X5_pop
  have T1 := gF_143_17 V_h
  refine ok_rd (by omega) (gA_150 V_h) ?_; intro v3 e_v3 a_v3 b_v3
  refine ok_sub (by omega) ?_; intro v4 e_v4
  refine ok_if ?_ ?_
  · intro C1
    refine ok_wA (by omega) ?_; intro h7 E_h7; have V_h7 : VS_ h7 := by rw [E_h7]; exact wA_150 V_h (by omega)
    have T3 : h7 143 17 = h 143 17 := by rw [E_h7]; exact up_n (fun z => absurd z.1 (by decide))
    refine ok_mul (by omega) ?_; intro v10 e_v10
    refine ok_add (by omega) ?_; intro v11 e_v11
    refine ok_rd (by omega) (gA_152 V_h7) ?_; intro v12 e_v12 a_v12 b_v12
    exact ok_rI V_h7 (by omega) (by omega)
  · intro C1
    refine ok_xl ?_; intro h13 E_h13; have V_h13 : VS_ h13 := by rw [E_h13]; exact wF_143_1 V_h (by omega)
    exact ok_rI V_h13 (by omega) (by omega)
set_option maxRecDepth 4000 in
theorem vj_X5_computed_204 {nn : Nat} (hn : 1000000 ≤ nn) {l1 : Int} {l2 : Int} {h : ms_M} (a_l1 : (-2147483648) ≤ l1) (b_l1 : l1 ≤ 2147483647) (a_l2 : (-2147483648) ≤ l2) (b_l2 : l2 ≤ 2147483647) (V_h : VS_ h)  : Ok_ (qj_X5_computed_204 nn l1 l2 h) (QP_ (-2147483648) 2147483647) := by
  unfold qj_X5_computed_204
  refine ok_i32 ?_; intro v1 a_v1 b_v1
  exact ok_rP (by omega) (by omega)
set_option maxRecDepth 4000 in
theorem vf_X5_computed {nn : Nat} (hn : 1000000 ≤ nn) {a0 : Int} {a1 : Int} {a2 : Int} {h : ms_M} (a_a0 : 9 ≤ a0) (b_a0 : a0 ≤ 255) (a_a1 : (-2147483648) ≤ a1) (b_a1 : a1 ≤ 2147483647) (a_a2 : (-2147483648) ≤ a2) (b_a2 : a2 ≤ 2147483647) (V_h : VS_ h)  : Ok_ (qf_X5_computed nn a0 a1 a2 h) (QP_ (-2147483648) 2147483647) := by
  unfold qf_X5_computed
  refine ok_if ?_ ?_
  · intro C0
    refine ok_addW (by omega) ?_; intro v2 a_v2 b_v2 w_v2
    exact ok_rP (by omega) (by omega)
  · intro C0
    refine ok_if ?_ ?_
    · intro C1
      refine ok_subW (by omega) ?_; intro v3 a_v3 b_v3 w_v3
      exact ok_rP (by omega) (by omega)
    · intro C1
      refine ok_if ?_ ?_
      · intro C2
        refine ok_i32 ?_; intro v4 a_v4 b_v4
        exact ok_rP (by omega) (by omega)
      · intro C2
        refine ok_if ?_ ?_
        · intro C3
          refine ok_if ?_ ?_
          · intro C4
            refine ok_if ?_ ?_
            · intro C5
              exfalso; omega
            · intro C5
              refine ok_i32 ?_; intro v5 a_v5 b_v5
              exact ok_rP (by omega) (by omega)
          · intro C4
            exact ok_rP (by omega) (by omega)
        · intro C3
          refine ok_if ?_ ?_
          · intro C6
            refine ok_if ?_ ?_
            · intro C7
              refine ok_if ?_ ?_
              · intro C8
                exfalso; omega
              · intro C8
                refine ok_i32 ?_; intro v7 a_v7 b_v7
                exact ok_rP (by omega) (by omega)
            · intro C7
              exact ok_rP (by omega) (by omega)
          · intro C6
            refine ok_if ?_ ?_
            · intro C9
              refine ok_i32 ?_; intro v9 a_v9 b_v9
              exact ok_rP (by omega) (by omega)
            · intro C9
              refine ok_if ?_ ?_
              · intro C10
                refine ok_i32 ?_; intro v10 a_v10 b_v10
                exact ok_rP (by omega) (by omega)
              · intro C10
                refine ok_if ?_ ?_
                · intro C11
                  refine ok_i32 ?_; intro v11 a_v11 b_v11
                  exact ok_rP (by omega) (by omega)
                · intro C11
                  refine ok_if ?_ ?_
                  · intro C12
                    refine ok_i32 ?_; intro v12 a_v12 b_v12
                    exact ok_rP (by omega) (by omega)
                  · intro C12
                    refine ok_if ?_ ?_
                    · intro C13
                      refine ok_i32 ?_; intro v13 a_v13 b_v13
                      exact ok_rP (by omega) (by omega)
                    · intro C13
                      exact vj_X5_computed_204 hn (by omega) (by omega) (by omega) (by omega) V_h
set_option maxRecDepth 4000 in
theorem vj_X5_stepArithmetic_35 {nn : Nat} (hn : 1000000 ≤ nn) {l1 : Int} {l2 : Int} {l3 : Int} {h : ms_M} (a_l1 : 9 ≤ l1) (b_l1 : l1 ≤ 255) (a_l2 : (-2147483648) ≤ l2) (b_l2 : l2 ≤ 2147483647) (a_l3 : (-2147483648) ≤ l3) (b_l3 : l3 ≤ 2147483647) (V_h : VS_ h)  : Ok_ (qj_X5_stepArithmetic_35 nn l1 l2 l3 h) QV_ := by
  unfold qj_X5_stepArithmetic_35
  refine ok_cP (vf_X5_computed hn (by omega) (by omega) (by omega) (by omega) (by omega) (by omega) V_h) ?_; intro u1 e_u1 a_u1 b_u1
  refine ok_cV (vf_X5_give hn (by omega) (by omega) (by omega) (by omega) V_h) ?_; intro u3 E_u3 V_u3
  exact ok_rV V_u3
set_option maxRecDepth 4000 in
theorem vj_X5_stepArithmetic_26 {nn : Nat} (hn : 1000000 ≤ nn) {h : ms_M} (V_h : VS_ h)  : Ok_ (qj_X5_stepArithmetic_26 nn h) QV_ := by
  unfold qj_X5_stepArithmetic_26
  refine ok_xl ?_; intro h4 E_h4; have V_h4 : VS_ h4 := by rw [E_h4]; exact wF_143_20 V_h (by omega)
  exact ok_rV V_h4
set_option maxRecDepth 4000 in
theorem vf_X5_stepArithmetic {nn : Nat} (hn : 1000000 ≤ nn) {a1 : Int} {h : ms_M} (a_a1 : 9 ≤ a1) (b_a1 : a1 ≤ 255) (V_h : VS_ h)  : Ok_ (qf_X5_stepArithmetic nn a1 h) QV_ := by
  unfold qf_X5_stepArithmetic
  refine ok_cI (vf_X5_pop hn V_h) ?_; intro u6 E_u6 V_u6 a_u6 b_u6
  refine ok_cI (vf_X5_pop hn V_u6) ?_; intro u8 E_u8 V_u8 a_u8 b_u8
  refine ok_if ?_ ?_
  · intro C0
    exact vj_X5_stepArithmetic_35 hn (by omega) (by omega) (by omega) (by omega) (by omega) (by omega) V_u8
  · intro C0
    refine ok_if ?_ ?_
    · intro C1
      exact vj_X5_stepArithmetic_26 hn V_u8
    · intro C1
      refine ok_if ?_ ?_
      · intro C2
        exact vj_X5_stepArithmetic_35 hn (by omega) (by omega) (by omega) (by omega) (by omega) (by omega) V_u8
      · intro C2
        exact vj_X5_stepArithmetic_26 hn V_u8
set_option maxRecDepth 4000 in
theorem vf_X3_pairAt {nn : Nat} (hn : 1000000 ≤ nn) {a0 : Nat} {a1 : Int} {h : ms_M} (hb_a0 : kc_O a0 = 3) (a_a1 : (-2147483648) ≤ a1) (b_a1 : a1 ≤ 2147483647) (V_h : VS_ h)  : Ok_ (qf_X3_pairAt nn a0 a1 h) (QP_ 0 65535) := by
  unfold qf_X3_pairAt
  refine ok_cP (vf_X3_byteAt hn hb_a0 (by omega) (by omega) V_h) ?_; intro u2 e_u2 a_u2 b_u2
  refine ok_shl8 (by omega) ?_; intro v3 e_v3
  refine ok_addW (by omega) ?_; intro v4 a_v4 b_v4 w_v4
  refine ok_cP (vf_X3_byteAt hn hb_a0 (by omega) (by omega) V_h) ?_; intro u6 e_u6 a_u6 b_u6
  refine ok_or (by omega) (by omega) ?_; intro v7 a_v7 b_v7
  exact ok_rP (by omega) (by omega)
set_option maxRecDepth 4000 in
theorem vj_X5_compares_103 {nn : Nat} (hn : 1000000 ≤ nn) {l1 : Int} {l2 : Int} {h : ms_M} (a_l1 : (-2147483648) ≤ l1) (b_l1 : l1 ≤ 2147483647) (a_l2 : (-2147483648) ≤ l2) (b_l2 : l2 ≤ 2147483647) (V_h : VS_ h)  : Ok_ (qj_X5_compares_103 nn l1 l2 h) (QP_ 0 1) := by
  unfold qj_X5_compares_103
  refine ok_if ?_ ?_
  · intro C0
    exact ok_rP (by omega) (by omega)
  · intro C0
    exact ok_rP (by omega) (by omega)
set_option maxRecDepth 4000 in
theorem vj_X5_compares_59 {nn : Nat} (hn : 1000000 ≤ nn) {l1 : Int} {l2 : Int} {h : ms_M} (a_l1 : (-2147483648) ≤ l1) (b_l1 : l1 ≤ 2147483647) (a_l2 : (-2147483648) ≤ l2) (b_l2 : l2 ≤ 2147483647) (V_h : VS_ h)  : Ok_ (qj_X5_compares_59 nn l1 l2 h) (QP_ 0 1) := by
  unfold qj_X5_compares_59
  refine ok_if ?_ ?_
  · intro C0
    exact ok_rP (by omega) (by omega)
  · intro C0
    exact ok_rP (by omega) (by omega)
set_option maxRecDepth 4000 in
theorem vj_X5_compares_48 {nn : Nat} (hn : 1000000 ≤ nn) {l1 : Int} {l2 : Int} {h : ms_M} (a_l1 : (-2147483648) ≤ l1) (b_l1 : l1 ≤ 2147483647) (a_l2 : (-2147483648) ≤ l2) (b_l2 : l2 ≤ 2147483647) (V_h : VS_ h)  : Ok_ (qj_X5_compares_48 nn l1 l2 h) (QP_ 0 1) := by
  unfold qj_X5_compares_48
  refine ok_if ?_ ?_
  · intro C0
    exact ok_rP (by omega) (by omega)
  · intro C0
    exact ok_rP (by omega) (by omega)
set_option maxRecDepth 4000 in
theorem vf_X5_compares {nn : Nat} (hn : 1000000 ≤ nn) {a0 : Int} {a1 : Int} {a2 : Int} {h : ms_M} (a_a0 : 9 ≤ a0) (b_a0 : a0 ≤ 255) (a_a1 : (-2147483648) ≤ a1) (b_a1 : a1 ≤ 2147483647) (a_a2 : (-2147483648) ≤ a2) (b_a2 : a2 ≤ 2147483647) (V_h : VS_ h)  : Ok_ (qf_X5_compares nn a0 a1 a2 h) (QP_ 0 1) := by
  unfold qf_X5_compares
  refine ok_if ?_ ?_
  · intro C0
    exact vj_X5_compares_48 hn (by omega) (by omega) (by omega) (by omega) V_h
  · intro C0
    refine ok_if ?_ ?_
    · intro C1
      exact vj_X5_compares_59 hn (by omega) (by omega) (by omega) (by omega) V_h
    · intro C1
      refine ok_if ?_ ?_
      · intro C2
        refine ok_if ?_ ?_
        · intro C3
          exact ok_rP (by omega) (by omega)
        · intro C3
          exact ok_rP (by omega) (by omega)
      · intro C2
        refine ok_if ?_ ?_
        · intro C4
          refine ok_if ?_ ?_
          · intro C5
            exact ok_rP (by omega) (by omega)
          · intro C5
            exact ok_rP (by omega) (by omega)
        · intro C4
          refine ok_if ?_ ?_
          · intro C6
            refine ok_if ?_ ?_
            · intro C7
              exact ok_rP (by omega) (by omega)
            · intro C7
              exact ok_rP (by omega) (by omega)
          · intro C6
            refine ok_if ?_ ?_
            · intro C8
              exact vj_X5_compares_48 hn (by omega) (by omega) (by omega) (by omega) V_h
            · intro C8
              refine ok_if ?_ ?_
              · intro C9
                exact vj_X5_compares_59 hn (by omega) (by omega) (by omega) (by omega) V_h
              · intro C9
                exact vj_X5_compares_103 hn (by omega) (by omega) (by omega) (by omega) V_h
set_option maxRecDepth 4000 in
theorem vj_X5_stepJump_76 {nn : Nat} (hn : 1000000 ≤ nn) {l2 : Int} {l3 : Int} {h : ms_M} (a_l2 : (-2147483648) ≤ l2) (b_l2 : l2 ≤ 2147483647) (a_l3 : 0 ≤ l3) (b_l3 : l3 ≤ 1) (V_h : VS_ h)  : Ok_ (qj_X5_stepJump_76 nn l2 l3 h) QV_ := by
  unfold qj_X5_stepJump_76
  refine ok_if ?_ ?_
  · intro C0
    refine ok_cV (vf_X5_goOn hn (by omega) (by omega) V_h) ?_; intro u2 E_u2 V_u2
    exact ok_rV V_u2
  · intro C0
    refine ok_ck (vi_r V_h).2.2.1 ?_
    have T2 := gF_143_19 V_h
    refine ok_addW (by omega) ?_; intro v5 a_v5 b_v5 w_v5
    refine ok_addW (by omega) ?_; intro v6 a_v6 b_v6 w_v6
    have hb1 : kc_O (h 143 18).toNat = 3 := (vi_r V_h).2.2.2
    refine ok_ck hb1 ?_
    refine ok_cP (vf_X3_pairAt hn hb1 (by omega) (by omega) V_h) ?_; intro u8 e_u8 a_u8 b_u8
    refine ok_s ?_; intro v9 a_v9 b_v9
    refine ok_cV (vf_X5_goOn hn (by omega) (by omega) V_h) ?_; intro u11 E_u11 V_u11
    exact ok_rV V_u11
set_option maxRecDepth 4000 in
theorem vj_X5_stepJump_44 {nn : Nat} (hn : 1000000 ≤ nn) {l2 : Int} {s0 : Int} {h : ms_M} (a_l2 : (-2147483648) ≤ l2) (b_l2 : l2 ≤ 2147483647) (a_s0 : 0 ≤ s0) (b_s0 : s0 ≤ 1) (V_h : VS_ h)  : Ok_ (qj_X5_stepJump_44 nn l2 s0 h) QV_ := by
  unfold qj_X5_stepJump_44
  exact vj_X5_stepJump_76 hn (by omega) (by omega) (by omega) (by omega) V_h
set_option maxRecDepth 4000 in
theorem vj_X5_stepJump_21 {nn : Nat} (hn : 1000000 ≤ nn) {l2 : Int} {s0 : Int} {h : ms_M} (a_l2 : (-2147483648) ≤ l2) (b_l2 : l2 ≤ 2147483647) (a_s0 : 0 ≤ s0) (b_s0 : s0 ≤ 1) (V_h : VS_ h)  : Ok_ (qj_X5_stepJump_21 nn l2 s0 h) QV_ := by
  unfold qj_X5_stepJump_21
  exact vj_X5_stepJump_76 hn (by omega) (by omega) (by omega) (by omega) V_h
set_option maxRecDepth 4000 in
theorem vf_X5_stepJump {nn : Nat} (hn : 1000000 ≤ nn) {a1 : Int} {a2 : Int} {h : ms_M} (a_a1 : 9 ≤ a1) (b_a1 : a1 ≤ 255) (a_a2 : (-2147483648) ≤ a2) (b_a2 : a2 ≤ 2147483647) (V_h : VS_ h)  : Ok_ (qf_X5_stepJump nn a1 a2 h) QV_ := by
  unfold qf_X5_stepJump
  refine ok_if ?_ ?_
  · intro C0
    refine ok_if ?_ ?_
    · intro C1
      refine ok_if ?_ ?_
      · intro C2
        exact vj_X5_stepJump_76 hn (by omega) (by omega) (by omega) (by omega) V_h
      · intro C2
        refine ok_cI (vf_X5_pop hn V_h) ?_; intro u14 E_u14 V_u14 a_u14 b_u14
        refine ok_cI (vf_X5_pop hn V_u14) ?_; intro u16 E_u16 V_u16 a_u16 b_u16
        refine ok_cP (vf_X5_compares hn (by omega) (by omega) (by omega) (by omega) (by omega) (by omega) V_u16) ?_; intro u17 e_u17 a_u17 b_u17
        exact vj_X5_stepJump_76 hn (by omega) (by omega) (by omega) (by omega) V_u16
    · intro C1
      refine ok_cI (vf_X5_pop hn V_h) ?_; intro u20 E_u20 V_u20 a_u20 b_u20
      refine ok_if ?_ ?_
      · intro C3
        exact vj_X5_stepJump_44 hn (by omega) (by omega) (by omega) (by omega) V_u20
      · intro C3
        exact vj_X5_stepJump_44 hn (by omega) (by omega) (by omega) (by omega) V_u20
  · intro C0
    refine ok_cI (vf_X5_pop hn V_h) ?_; intro u24 E_u24 V_u24 a_u24 b_u24
    refine ok_if ?_ ?_
    · intro C4
      exact vj_X5_stepJump_21 hn (by omega) (by omega) (by omega) (by omega) V_u24
    · intro C4
      exact vj_X5_stepJump_21 hn (by omega) (by omega) (by omega) (by omega) V_u24
set_option maxRecDepth 4000 in
theorem vj_X5_stepLocal_37 {nn : Nat} (hn : 1000000 ≤ nn) {l3 : Int} {h : ms_M} (a_l3 : 0 ≤ l3) (b_l3 : l3 ≤ 1799) (V_h : VS_ h)  : Ok_ (qj_X5_stepLocal_37 nn l3 h) QV_ := by
  unfold qj_X5_stepLocal_37
  refine ok_rd (by omega) (gA_151 V_h) ?_; intro v2 e_v2 a_v2 b_v2
  refine ok_cV (vf_X5_give hn (by omega) (by omega) (by omega) (by omega) V_h) ?_; intro u4 E_u4 V_u4
  exact ok_rV V_u4
set_option maxRecDepth 4000 in
theorem vf_X5_stepLocal {nn : Nat} (hn : 1000000 ≤ nn) {a1 : Int} {a2 : Int} {h : ms_M} (a_a1 : 21 ≤ a1) (b_a1 : a1 ≤ 58) (a_a2 : 0 ≤ a2) (b_a2 : a2 ≤ 255) (V_h : VS_ h)  : Ok_ (qf_X5_stepLocal nn a1 a2 h) QV_ := by
  unfold qf_X5_stepLocal
  have T1 := gF_143_17 V_h
  refine ok_mul (by omega) ?_; intro v6 e_v6
  refine ok_add (by omega) ?_; intro v7 e_v7
  refine ok_if ?_ ?_
  · intro C1
    refine ok_if ?_ ?_
    · intro C2
      exact vj_X5_stepLocal_37 hn (by omega) (by omega) V_h
    · intro C2
      refine ok_if ?_ ?_
      · intro C3
        refine ok_cI (vf_X5_pop hn V_h) ?_; intro u10 E_u10 V_u10 a_u10 b_u10
        refine ok_wA (by omega) ?_; intro h11 E_h11; have V_h11 : VS_ h11 := by rw [E_h11]; exact wA_151 V_u10 (by omega)
        refine ok_cV (vf_X5_goOn hn (by omega) (by omega) V_h11) ?_; intro u13 E_u13 V_u13
        exact ok_rV V_u13
      · intro C3
        exact vj_X5_stepLocal_37 hn (by omega) (by omega) V_h
  · intro C1
    refine ok_xl ?_; intro h16 E_h16; have V_h16 : VS_ h16 := by rw [E_h16]; exact wF_143_1 V_h (by omega)
    exact ok_rV V_h16
set_option maxRecDepth 4000 in
theorem vf_X5_giveNew {nn : Nat} (hn : 1000000 ≤ nn) {a1 : Int} {a2 : Int} {h : ms_M} (a_a1 : (-2147483648) ≤ a1) (b_a1 : a1 ≤ 2147483647) (a_a2 : 0 ≤ a2) (b_a2 : a2 ≤ 2147483647) (V_h : VS_ h)  : Ok_ (qf_X5_giveNew nn a1 a2 h) QV_ := by
  unfold qf_X5_giveNew
  refine ok_cI (vf_X5_make hn (by omega) (by omega) (by omega) (by omega) V_h) ?_; intro u2 E_u2 V_u2 a_u2 b_u2
  refine ok_if ?_ ?_
  · intro C0
    exact ok_rV V_u2
  · intro C0
    refine ok_cV (vf_X5_give hn (by omega) (by omega) (by omega) (by omega) V_u2) ?_; intro u4 E_u4 V_u4
    exact ok_rV V_u4
set_option maxRecDepth 4000 in
theorem vf_X3_of {nn : Nat} (hn : 1000000 ≤ nn) {a0 : Nat} {a1 : Int} {a2 : Int} {h : ms_M} (hb_a0 : kc_O a0 = 3) (a_a1 : (-11) ≤ a1) (b_a1 : a1 ≤ 12) (a_a2 : 0 ≤ a2) (b_a2 : a2 ≤ 11) (V_h : VS_ h)  : Ok_ (qf_X3_of nn a0 a1 a2 h) (QP_ (-1) 65535) := by
  unfold qf_X3_of
  refine ok_mul (by omega) ?_; intro v1 e_v1
  refine ok_add (by omega) ?_; intro v2 e_v2
  refine ok_if ?_ ?_
  · intro C0
    exact ok_rP (by omega) (by omega)
  · intro C0
    have T2 := gI_12 V_h hb_a0
    refine ok_if ?_ ?_
    · intro C2
      exact ok_rP (by omega) (by omega)
    · intro C2
      refine ok_if ?_ ?_
      · intro C3
        exact ok_rP (by omega) (by omega)
      · intro C3
        refine ok_rd (by omega) (gIA_6 V_h hb_a0) ?_; intro v7 e_v7 a_v7 b_v7
        exact ok_rP (by omega) (by omega)
set_option maxRecDepth 4000 in
theorem vf_X7_imageOfMember {nn : Nat} (hn : 1000000 ≤ nn) {a1 : Int} {h : ms_M} (a_a1 : (-2147483648) ≤ a1) (b_a1 : a1 ≤ 2147483647) (V_h : VS_ h)  : Ok_ (qf_X7_imageOfMember nn a1 h) QO_ := by
  unfold qf_X7_imageOfMember
  refine ok_if ?_ ?_
  · intro C0
    exact ok_rOn
  · intro C0
    have T2 := gF_56_3 V_h
    refine ok_mul (by omega) ?_; intro v2 e_v2
    refine ok_if ?_ ?_
    · intro C2
      exact ok_rOn
    · intro C2
      refine ok_div (n := 12) (by omega) ?_; intro v4 e_v4
      refine ok_rd60 V_h (by omega) ?_; intro v5 n_v5 k_v5
      exact ok_rOo k_v5
set_option maxRecDepth 4000 in
theorem vf_X5_takeTop {nn : Nat} (hn : 1000000 ≤ nn) {h : ms_M} (V_h : VS_ h)  : Ok_ (qf_X5_takeTop nn h) QV_ := by
  unfold qf_X5_takeTop
  have T1 := gF_143_6 V_h
  refine ok_sub (by omega) ?_; intro v2 e_v2
  refine ok_ite ?_; intro v3 e_v3
  refine ok_xl ?_; intro h4 E_h4; have V_h4 : VS_ h4 := by rw [E_h4]; exact wF_143_17 V_h (by omega)
  have T2 : h4 143 17 = v3 := by rw [E_h4]; exact up_s
  refine ok_rd (by omega) (gA_148 V_h4) ?_; intro v8 e_v8 a_v8 b_v8
  refine ok_cO (vf_X7_imageOfMember hn (by omega) (by omega) V_h4) ?_; intro u10 e_u10 o_u10
  have T3 := po_X7_imageOfMember V_h4 e_u10
  refine ok_if ?_ ?_
  · intro C3
    refine ok_xl ?_; intro h13 E_h13; have V_h13 : VS_ h13 := by rw [E_h13]; exact wF_143_1 V_h4 (by omega)
    exact ok_rV V_h13
  · intro C3
    refine ok_wR V_h4 (by decide) (by omega) (o_u10.resolve_left C3) ?_; intro h14 E_h14 V_h14
    have T5 : h14 143 17 = h4 143 17 := by rw [E_h14]; exact up_n (by decide)
    refine ok_ck (vi_r V_h14).2.2.1 ?_
    refine ok_rd (by omega) (gA_148 V_h14) ?_; intro v18 e_v18 a_v18 b_v18
    refine ok_remT (n := 12) (by decide) ?_; intro v19 a_v19 b_v19
    have hb1 : kc_O (h14 143 18).toNat = 3 := (vi_r V_h14).2.2.2
    refine ok_ck hb1 ?_
    refine ok_cP (vf_X3_of hn hb1 (by omega) (by omega) (by omega) (by omega) V_h14) ?_; intro u21 e_u21 a_u21 b_u21
    refine ok_xl ?_; intro h22 E_h22; have V_h22 : VS_ h22 := by rw [E_h22]; exact wF_143_19 V_h14 (by omega)
    exact ok_rV V_h22
set_option maxRecDepth 4000 in
theorem vf_X5_beginMethod {nn : Nat} (hn : 1000000 ≤ nn) {a1 : Int} {a2 : Int} {a3 : Int} {h : ms_M} (a_a1 : (-1) ≤ a1) (b_a1 : a1 ≤ 95) (a_a2 : 0 ≤ a2) (b_a2 : a2 ≤ 1800) (a_a3 : 0 ≤ a3) (b_a3 : a3 ≤ 30) (V_h : VS_ h) (x_0 : 0 ≤ a2 ∧ a2 + a3 ≤ 1800)  : Ok_ (qf_X5_beginMethod nn a1 a2 a3 h) (QVR_ (fun r => (¬ r 143 1 = 1 ∨ 1 ≤ r 143 6))) := by
  unfold qf_X5_beginMethod
  have T1 := gF_143_1 V_h
  have T2 := gF_143_6 V_h
  refine ok_if ?_ ?_
  · intro C2
    refine ok_mul (by omega) ?_; intro v3 e_v3
    refine ok_add (by omega) ?_; intro v5 e_v5
    refine ok_cV (vfillR hn V_h (show 151 < 256 by decide) rfl (show 1800 ≤ 100000 by decide) (fun _ _ z => wA_151 z (by omega)) (show _ ∧ _ ∧ _ ≤ (1800 : Int) by omega)) ?_; intro u6 E_u6 V_u6
    have T4 : u6 143 1 = h 143 1 := (ff_J7_fill_fda19 nn) _ E_u6 143 1 (show 143 ≠ 151 by decide)
    have T5 : u6 143 6 = h 143 6 := (ff_J7_fill_fda19 nn) _ E_u6 143 6 (show 143 ≠ 151 by decide)
    refine ok_cp V_u6 (gA_152 V_u6) rfl (show _ ∧ _ ∧ _ ∧ _ + _ ≤ (1800 : Int) ∧ _ + _ ≤ (1800 : Int) by omega) (fun z y => wA_151 z (by omega)) ?_; intro h9 V_h9 F_h9
    have T6 : h9 143 1 = u6 143 1 := F_h9 _ _ (by decide)
    have T7 : h9 143 6 = u6 143 6 := F_h9 _ _ (by decide)
    refine ok_wA (by omega) ?_; intro h12 E_h12; have V_h12 : VS_ h12 := by rw [E_h12]; exact wA_148 V_h9 (by omega)
    have T8 : h12 143 1 = h9 143 1 := by rw [E_h12]; exact up_n (fun z => absurd z.1 (by decide))
    have T9 : h12 143 6 = h9 143 6 := by rw [E_h12]; exact up_n (fun z => absurd z.1 (by decide))
    refine ok_wA (by omega) ?_; intro h15 E_h15; have V_h15 : VS_ h15 := by rw [E_h15]; exact wA_149 V_h12 (by omega)
    have T10 : h15 143 1 = h12 143 1 := by rw [E_h15]; exact up_n (fun z => absurd z.1 (by decide))
    have T11 : h15 143 6 = h12 143 6 := by rw [E_h15]; exact up_n (fun z => absurd z.1 (by decide))
    refine ok_wA (by omega) ?_; intro h18 E_h18; have V_h18 : VS_ h18 := by rw [E_h18]; exact wA_150 V_h15 (by omega)
    have T12 : h18 143 1 = h15 143 1 := by rw [E_h18]; exact up_n (fun z => absurd z.1 (by decide))
    have T13 : h18 143 6 = h15 143 6 := by rw [E_h18]; exact up_n (fun z => absurd z.1 (by decide))
    refine ok_add (by omega) ?_; intro v20 e_v20
    refine ok_xl ?_; intro h21 E_h21; have V_h21 : VS_ h21 := by rw [E_h21]; exact wF_143_6 V_h18 (by omega)
    have T14 : h21 143 1 = h18 143 1 := by rw [E_h21]; exact up_n (by decide)
    have T15 : h21 143 6 = v20 := by rw [E_h21]; exact up_s
    refine ok_cV (vf_X5_takeTop hn V_h21) ?_; intro u23 E_u23 V_u23
    have T16 : u23 143 6 = h21 143 6 := (ff_X5_takeTop nn) _ E_u23 143 6 rfl
    have T17 := gF_143_1 V_u23
    exact ok_rVR V_u23 (by omega)
  · intro C2
    refine ok_xl ?_; intro h24 E_h24; have V_h24 : VS_ h24 := by rw [E_h24]; exact wF_143_1 V_h (by omega)
    have T18 : h24 143 6 = h 143 6 := by rw [E_h24]; exact up_n (by decide)
    have T19 : h24 143 1 = 5 := by rw [E_h24]; exact up_s
    exact ok_rVR V_h24 (by omega)
set_option maxRecDepth 4000 in
theorem vf_X5_isObject {nn : Nat} (hn : 1000000 ≤ nn) {a1 : Int} {h : ms_M} (a_a1 : (-2147483648) ≤ a1) (b_a1 : a1 ≤ 2147483647) (V_h : VS_ h)  : Ok_ (qf_X5_isObject nn a1 h) (QP_ 0 1) := by
  unfold qf_X5_isObject
  refine ok_if ?_ ?_
  · intro C0
    exact ok_rP (by omega) (by omega)
  · intro C0
    have T2 := gF_143_4 V_h
    refine ok_if ?_ ?_
    · intro C2
      exact ok_rP (by omega) (by omega)
    · intro C2
      refine ok_if ?_ ?_
      · intro C3
        exfalso; omega
      · intro C3
        exact ok_rP (by omega) (by omega)
set_option maxRecDepth 4000 in
theorem vf_X7_nearestTo {nn : Nat} (hn : 1000000 ≤ nn) {a1 : Int} {a2 : Int} {h : ms_M} (a_a1 : (-2147483648) ≤ a1) (b_a1 : a1 ≤ 2147483647) (a_a2 : 0 ≤ a2) (b_a2 : a2 ≤ 95) (V_h : VS_ h)  : Ok_ (qf_X7_nearestTo nn a1 a2 h) (QP_ (-1) 95) := by
  unfold qf_X7_nearestTo
  refine ok_subW (by omega) ?_; intro v1 a_v1 b_v1 w_v1
  refine ok_if ?_ ?_
  · intro C0
    exact ok_rP (by omega) (by omega)
  · intro C0
    refine ok_if ?_ ?_
    · intro C1
      exact ok_rP (by omega) (by omega)
    · intro C1
      refine ok_if ?_ ?_
      · intro C2
        exfalso; omega
      · intro C2
        refine ok_if ?_ ?_
        · intro C3
          exfalso; omega
        · intro C3
          refine ok_mul (by omega) ?_; intro v3 e_v3
          refine ok_add (by omega) ?_; intro v4 e_v4
          refine ok_rd (by omega) (gA_70 V_h) ?_; intro v5 e_v5 a_v5 b_v5
          exact ok_rP (by omega) (by omega)
set_option maxRecDepth 4000 in
theorem vj_X5_stepCall_136 {nn : Nat} (hn : 1000000 ≤ nn) {l3 : Int} {l5 : Int} {l6 : Int} {h : ms_M} (a_l3 : (-1) ≤ l3) (b_l3 : l3 ≤ 95) (a_l5 : 0 ≤ l5) (b_l5 : l5 ≤ 7) (a_l6 : 0 ≤ l6) (b_l6 : l6 ≤ 30) (V_h : VS_ h) (x_0 : 1 ≤ h 143 6) (x_1 : l6 + l5 ≤ 30) (N_h : SI_ h)  : Ok_ (qj_X5_stepCall_136 nn l3 l5 l6 h) (QVR_ (fun r => (¬ r 143 1 = 1 ∨ 1 ≤ r 143 6))) := by
  unfold qj_X5_stepCall_136
  have T1 := gF_143_1 V_h
  have T2 := gF_143_6 V_h
  have T3 := gF_143_17 V_h
  refine ok_wA (by omega) ?_; intro h3 E_h3; have V_h3 : VS_ h3 := by rw [E_h3]; exact wA_150 V_h (by omega)
  have T4 : h3 143 1 = h 143 1 := by rw [E_h3]; exact up_n (fun z => absurd z.1 (by decide))
  have T5 : h3 143 6 = h 143 6 := by rw [E_h3]; exact up_n (fun z => absurd z.1 (by decide))
  have T6 : h3 143 17 = h 143 17 := by rw [E_h3]; exact up_n (fun z => absurd z.1 (by decide))
  refine ok_mul (by omega) ?_; intro v5 e_v5
  refine ok_add (by omega) ?_; intro v6 e_v6
  refine ok_cVR (vf_X5_beginMethod hn (by omega) (by omega) (by omega) (by omega) (by omega) (by omega) V_h3 (by omega)) ?_; intro u8 E_u8 V_u8 R_u8
  have T7 := gF_143_1 V_u8
  have T8 := gF_143_6 V_u8
  exact ok_rVR V_u8 (by omega)
set_option maxRecDepth 4000 in
theorem vj_X5_stepCall_51 {nn : Nat} (hn : 1000000 ≤ nn) {l1 : Int} {l3 : Int} {s0 : Int} {s1 : Int} {h : ms_M} (a_l1 : 182 ≤ l1) (b_l1 : l1 ≤ 184) (a_l3 : 0 ≤ l3) (b_l3 : l3 ≤ 95) (a_s0 : 0 ≤ s0) (b_s0 : s0 ≤ 1) (a_s1 : 0 ≤ s1) (b_s1 : s1 ≤ 6) (V_h : VS_ h) (x_0 : 1 ≤ h 143 6) (x_1 : s0 + s1 ≤ 7) (x_2 : ¬ l1 = 182 ∨ s0 = 1) (N_h : SI_ h)  : Ok_ (qj_X5_stepCall_51 nn l1 l3 s0 s1 h) (QVR_ (fun r => (¬ r 143 1 = 1 ∨ 1 ≤ r 143 6))) := by
  unfold qj_X5_stepCall_51
  have T1 := gF_143_1 V_h
  have T2 := gF_143_6 V_h
  refine ok_add (by omega) ?_; intro v9 e_v9
  have T3 := gF_143_17 V_h
  refine ok_rd (by omega) (gA_150 V_h) ?_; intro v12 e_v12 a_v12 b_v12
  refine ok_sub (by omega) ?_; intro v13 e_v13
  refine ok_if ?_ ?_
  · intro C3
    refine ok_if ?_ ?_
    · intro C4
      exact ok_mV (vj_X5_stepCall_136 hn (by omega) (by omega) (by omega) (by omega) (by omega) (by omega) V_h (by omega) (by omega) N_h) (fun _ V_r R_r => by have := gF_143_1 V_r; have := gF_143_6 V_r; omega)
    · intro C4
      refine ok_mul (by omega) ?_; intro v16 e_v16
      refine ok_add (by omega) ?_; intro v17 e_v17
      refine ok_rd (by omega) (gA_152 V_h) ?_; intro v18 e_v18 a_v18 b_v18
      refine ok_cP (vf_X5_isObject hn (by omega) (by omega) V_h) ?_; intro u20 e_u20 a_u20 b_u20
      have T6 := pr_X5_isObject e_u20
      refine ok_if ?_ ?_
      · intro C6
        refine ok_rd (by omega) (gA_145 V_h) ?_; intro v23 e_v23 a_v23 b_v23
        refine ok_cP (vf_X7_nearestTo hn (by omega) (by omega) (by omega) (by omega) V_h) ?_; intro u25 e_u25 a_u25 b_u25
        exact ok_mV (vj_X5_stepCall_136 hn (by omega) (by omega) (by omega) (by omega) (by omega) (by omega) V_h (by omega) (by omega) N_h) (fun _ V_r R_r => by have := gF_143_1 V_r; have := gF_143_6 V_r; omega)
      · intro C6
        refine ok_xl ?_; intro h26 E_h26; have V_h26 : VS_ h26 := by rw [E_h26]; exact wF_143_20 V_h (by omega)
        have T8 : h26 143 1 = h 143 1 := by rw [E_h26]; exact up_n (by decide)
        have T9 : h26 143 6 = h 143 6 := by rw [E_h26]; exact up_n (by decide)
        exact ok_rVR V_h26 (by omega)
  · intro C3
    refine ok_xl ?_; intro h29 E_h29; have V_h29 : VS_ h29 := by rw [E_h29]; exact wF_143_1 V_h (by omega)
    have T10 : h29 143 6 = h 143 6 := by rw [E_h29]; exact up_n (by decide)
    have T11 : h29 143 1 = 6 := by rw [E_h29]; exact up_s
    exact ok_rVR V_h29 (by omega)
set_option maxRecDepth 4000 in
theorem vf_X5_stepCall {nn : Nat} (hn : 1000000 ≤ nn) {a1 : Int} {a2 : Int} {h : ms_M} (a_a1 : 182 ≤ a1) (b_a1 : a1 ≤ 184) (a_a2 : 0 ≤ a2) (b_a2 : a2 ≤ 255) (V_h : VS_ h) (x_0 : 1 ≤ h 143 6) (N_h : SI_ h)  : Ok_ (qf_X5_stepCall nn a1 a2 h) (QVR_ (fun r => (¬ r 143 1 = 1 ∨ 1 ≤ r 143 6))) := by
  unfold qf_X5_stepCall
  have T1 := gF_143_1 V_h
  have T2 := gF_143_6 V_h
  refine ok_cP (vf_X5_link hn (by omega) (by omega) V_h) ?_; intro u32 e_u32 a_u32 b_u32
  refine ok_cO (vf_X7_imageOfMember hn (by omega) (by omega) V_h) ?_; intro u35 e_u35 o_u35
  have T3 := po_X7_imageOfMember V_h e_u35
  refine ok_if ?_ ?_
  · intro C3
    refine ok_xl ?_; intro h38 E_h38; have V_h38 : VS_ h38 := by rw [E_h38]; exact wF_143_1 V_h (by omega)
    have T5 : h38 143 6 = h 143 6 := by rw [E_h38]; exact up_n (by decide)
    have T6 : h38 143 1 = 6 := by rw [E_h38]; exact up_s
    exact ok_rVR V_h38 (by omega)
  · intro C3
    refine ok_rem (n := 12) (by omega) ?_; intro v39 e_v39
    have hb1 : kc_O (u35).toNat = 3 := (o_u35.resolve_left C3)
    refine ok_ck hb1 ?_
    refine ok_cP (vf_X3_of hn hb1 (by omega) (by omega) (by omega) (by omega) V_h) ?_; intro u41 e_u41 a_u41 b_u41
    have z41 := lm_ofm V_h N_h e_u35 (by omega) (by omega) e_u41
    refine ok_if ?_ ?_
    · intro C6
      exact ok_mV (vj_X5_stepCall_51 hn (by omega) (by omega) (by omega) (by omega) (by omega) (by omega) (by omega) (by omega) V_h (by omega) (by omega) (by omega) N_h) (fun _ V_r R_r => by have := gF_143_1 V_r; have := gF_143_6 V_r; omega)
    · intro C6
      exact ok_mV (vj_X5_stepCall_51 hn (by omega) (by omega) (by omega) (by omega) (by omega) (by omega) (by omega) (by omega) V_h (by omega) (by omega) (by omega) N_h) (fun _ V_r R_r => by have := gF_143_1 V_r; have := gF_143_6 V_r; omega)
set_option maxRecDepth 4000 in
theorem vj_X5_cellOf_39 {nn : Nat} (hn : 1000000 ≤ nn) {h : ms_M} (V_h : VS_ h)  : Ok_ (qj_X5_cellOf_39 nn h) (QIR_ (-1) 39999 (fun u r => (u < 0))) := by
  unfold qj_X5_cellOf_39
  refine ok_xl ?_; intro h1 E_h1; have V_h1 : VS_ h1 := by rw [E_h1]; exact wF_143_20 V_h (by omega)
  exact ok_rIR V_h1 (by omega) (by omega) (by omega)
set_option maxRecDepth 4000 in
theorem vf_X5_cellOf {nn : Nat} (hn : 1000000 ≤ nn) {a1 : Int} {a2 : Int} {h : ms_M} (a_a1 : (-2147483648) ≤ a1) (b_a1 : a1 ≤ 2147483647) (a_a2 : (-2147483648) ≤ a2) (b_a2 : a2 ≤ 2147483647) (V_h : VS_ h)  : Ok_ (qf_X5_cellOf nn a1 a2 h) (QIR_ (-1) 39999 (fun u r => (u < 0 ∨ (1 ≤ a1 ∧ a1 ≤ 2000)))) := by
  unfold qf_X5_cellOf
  refine ok_cP (vf_X5_isObject hn (by omega) (by omega) V_h) ?_; intro u3 e_u3 a_u3 b_u3
  have T1 := pr_X5_isObject e_u3
  refine ok_if ?_ ?_
  · intro C1
    refine ok_if ?_ ?_
    · intro C2
      exact ok_mI (vj_X5_cellOf_39 hn V_h) (fun _ _ V_r R_r => by omega)
    · intro C2
      refine ok_add (by omega) ?_; intro v5 e_v5
      refine ok_rd (by omega) (gA_146 V_h) ?_; intro v6 e_v6 a_v6 b_v6
      refine ok_rd (by omega) (gA_146 V_h) ?_; intro v8 e_v8 a_v8 b_v8
      refine ok_sub (by omega) ?_; intro v9 e_v9
      refine ok_if ?_ ?_
      · intro C3
        refine ok_rd (by omega) (gA_146 V_h) ?_; intro v11 e_v11 a_v11 b_v11
        refine ok_add (by omega) ?_; intro v12 e_v12
        exact ok_rIR V_h (by omega) (by omega) (by omega)
      · intro C3
        exact ok_mI (vj_X5_cellOf_39 hn V_h) (fun _ _ V_r R_r => by omega)
  · intro C1
    refine ok_xl ?_; intro h15 E_h15; have V_h15 : VS_ h15 := by rw [E_h15]; exact wF_143_20 V_h (by omega)
    exact ok_rIR V_h15 (by omega) (by omega) (by omega)
set_option maxRecDepth 4000 in
theorem vf_X5_stepElement {nn : Nat} (hn : 1000000 ≤ nn) {h : ms_M} (V_h : VS_ h)  : Ok_ (qf_X5_stepElement nn h) QV_ := by
  unfold qf_X5_stepElement
  refine ok_cI (vf_X5_pop hn V_h) ?_; intro u2 E_u2 V_u2 a_u2 b_u2
  refine ok_cI (vf_X5_pop hn V_u2) ?_; intro u4 E_u4 V_u4 a_u4 b_u4
  refine ok_cIR (vf_X5_cellOf hn (by omega) (by omega) (by omega) (by omega) V_u4) ?_; intro u6 E_u6 V_u6 a_u6 b_u6 R_u6
  refine ok_if ?_ ?_
  · intro C0
    exact ok_rV V_u6
  · intro C0
    refine ok_if ?_ ?_
    · intro C1
      exact ok_rV V_u6
    · intro C1
      refine ok_rd (by omega) (gA_147 V_u6) ?_; intro v8 e_v8 a_v8 b_v8
      refine ok_cV (vf_X5_give hn (by omega) (by omega) (by omega) (by omega) V_u6) ?_; intro u10 E_u10 V_u10
      exact ok_rV V_u10
set_option maxRecDepth 4000 in
theorem vj_X5_fieldCell_20 {nn : Nat} (hn : 1000000 ≤ nn) {l2 : Int} {s0 : Int} {h : ms_M} (a_l2 : (-2147483648) ≤ l2) (b_l2 : l2 ≤ 2000000000) (a_s0 : (-2147483648) ≤ s0) (b_s0 : s0 ≤ 2000020000) (V_h : VS_ h) (x_0 : l2 < 0 ∨ -1 ≤ s0)  : Ok_ (qj_X5_fieldCell_20 nn l2 s0 h) (QP_ (-1) 19999) := by
  unfold qj_X5_fieldCell_20
  refine ok_if ?_ ?_
  · intro C0
    exact ok_rP (by omega) (by omega)
  · intro C0
    refine ok_if ?_ ?_
    · intro C1
      exact ok_rP (by omega) (by omega)
    · intro C1
      exact ok_rP (by omega) (by omega)
set_option maxRecDepth 4000 in
theorem vf_X5_fieldCell {nn : Nat} (hn : 1000000 ≤ nn) {a1 : Int} {a2 : Int} {h : ms_M} (a_a1 : (-2147483648) ≤ a1) (b_a1 : a1 ≤ 2147483647) (a_a2 : (-2147483648) ≤ a2) (b_a2 : a2 ≤ 2000000000) (V_h : VS_ h)  : Ok_ (qf_X5_fieldCell nn a1 a2 h) (QP_ (-1) 19999) := by
  unfold qf_X5_fieldCell
  refine ok_cP (vf_X5_isObject hn (by omega) (by omega) V_h) ?_; intro u4 e_u4 a_u4 b_u4
  have T1 := pr_X5_isObject e_u4
  refine ok_if ?_ ?_
  · intro C1
    exact vj_X5_fieldCell_20 hn (by omega) (by omega) (by omega) (by omega) V_h (by omega)
  · intro C1
    refine ok_rd (by omega) (gA_146 V_h) ?_; intro v6 e_v6 a_v6 b_v6
    refine ok_add (by omega) ?_; intro v7 e_v7
    exact vj_X5_fieldCell_20 hn (by omega) (by omega) (by omega) (by omega) V_h (by omega)
set_option maxRecDepth 4000 in
theorem vf_X5_stepField {nn : Nat} (hn : 1000000 ≤ nn) {a1 : Int} {h : ms_M} (a_a1 : 0 ≤ a1) (b_a1 : a1 ≤ 255) (V_h : VS_ h) (x_0 : LKf_ nn a1 h)  : Ok_ (qf_X5_stepField nn a1 h) QV_ := by
  unfold qf_X5_stepField
  refine ok_cI (vf_X5_pop hn V_h) ?_; intro u2 E_u2 V_u2 a_u2 b_u2
  refine ok_cP (vf_X5_link hn (by omega) (by omega) V_u2) ?_; intro u4 e_u4 a_u4 b_u4
  have z4 : u4 ≤ 2000000000 := x_0 _ ((lk_eq (fun k => (ff_X5_pop nn) _ E_u2 148 k (nw_ar rfl k)) ((ff_X5_pop nn) _ E_u2 143 17 rfl) (fun k => (ff_X5_pop nn) _ E_u2 68 k (nw_ar rfl k))).symm.trans e_u4)
  refine ok_cP (vf_X5_fieldCell hn (by omega) (by omega) (by omega) (by omega) V_u2) ?_; intro u6 e_u6 a_u6 b_u6
  refine ok_if ?_ ?_
  · intro C0
    refine ok_rd (by omega) (gA_147 V_u2) ?_; intro v8 e_v8 a_v8 b_v8
    refine ok_cV (vf_X5_give hn (by omega) (by omega) (by omega) (by omega) V_u2) ?_; intro u10 E_u10 V_u10
    exact ok_rV V_u10
  · intro C0
    refine ok_xl ?_; intro h11 E_h11; have V_h11 : VS_ h11 := by rw [E_h11]; exact wF_143_20 V_u2 (by omega)
    exact ok_rV V_h11
set_option maxRecDepth 4000 in
theorem vj_X5_stepGiveElement_89 {nn : Nat} (hn : 1000000 ≤ nn) {l2 : Int} {l5 : Int} {h : ms_M} (a_l2 : (-2147483648) ≤ l2) (b_l2 : l2 ≤ 2147483647) (a_l5 : 0 ≤ l5) (b_l5 : l5 ≤ 19999) (V_h : VS_ h)  : Ok_ (qj_X5_stepGiveElement_89 nn l2 l5 h) QV_ := by
  unfold qj_X5_stepGiveElement_89
  refine ok_wA (by omega) ?_; intro h2 E_h2; have V_h2 : VS_ h2 := by rw [E_h2]; exact wA_147 V_h (by omega)
  refine ok_cV (vf_X5_goOn hn (by omega) (by omega) V_h2) ?_; intro u4 E_u4 V_u4
  exact ok_rV V_u4
set_option maxRecDepth 4000 in
theorem vf_X5_stepGiveElement {nn : Nat} (hn : 1000000 ≤ nn) {a1 : Int} {h : ms_M} (a_a1 : 79 ≤ a1) (b_a1 : a1 ≤ 83) (V_h : VS_ h)  : Ok_ (qf_X5_stepGiveElement nn a1 h) QV_ := by
  unfold qf_X5_stepGiveElement
  refine ok_cI (vf_X5_pop hn V_h) ?_; intro u6 E_u6 V_u6 a_u6 b_u6
  refine ok_cI (vf_X5_pop hn V_u6) ?_; intro u8 E_u8 V_u8 a_u8 b_u8
  refine ok_cI (vf_X5_pop hn V_u8) ?_; intro u10 E_u10 V_u10 a_u10 b_u10
  refine ok_cIR (vf_X5_cellOf hn (by omega) (by omega) (by omega) (by omega) V_u10) ?_; intro u12 E_u12 V_u12 a_u12 b_u12 R_u12
  refine ok_if ?_ ?_
  · intro C0
    exact ok_rV V_u12
  · intro C0
    refine ok_if ?_ ?_
    · intro C1
      refine ok_if ?_ ?_
      · intro C2
        exact vj_X5_stepGiveElement_89 hn (by omega) (by omega) (by omega) (by omega) V_u12
      · intro C2
        refine ok_cP (vf_X5_isObject hn (by omega) (by omega) V_u12) ?_; intro u14 e_u14 a_u14 b_u14
        have T4 := pr_X5_isObject e_u14
        refine ok_if ?_ ?_
        · intro C4
          exact vj_X5_stepGiveElement_89 hn (by omega) (by omega) (by omega) (by omega) V_u12
        · intro C4
          refine ok_rd (by omega) (gA_145 V_u12) ?_; intro v18 e_v18 a_v18 b_v18
          refine ok_rd (by omega) (gA_145 V_u12) ?_; intro v20 e_v20 a_v20 b_v20
          refine ok_cP (vf_X4_elementOf hn (by omega) (by omega) V_u12) ?_; intro u21 e_u21 a_u21 b_u21
          refine ok_cP (vf_X4_fits hn rfl (by omega) (by omega) (by omega) (by omega) V_u12) ?_; intro u23 e_u23 a_u23 b_u23
          refine ok_if ?_ ?_
          · intro C5
            exact vj_X5_stepGiveElement_89 hn (by omega) (by omega) (by omega) (by omega) V_u12
          · intro C5
            refine ok_xl ?_; intro h24 E_h24; have V_h24 : VS_ h24 := by rw [E_h24]; exact wF_143_20 V_u12 (by omega)
            exact ok_rV V_h24
    · intro C1
      exact ok_rV V_u12
set_option maxRecDepth 4000 in
theorem vf_X5_stepGiveField {nn : Nat} (hn : 1000000 ≤ nn) {a1 : Int} {h : ms_M} (a_a1 : 0 ≤ a1) (b_a1 : a1 ≤ 255) (V_h : VS_ h) (x_0 : LKf_ nn a1 h)  : Ok_ (qf_X5_stepGiveField nn a1 h) QV_ := by
  unfold qf_X5_stepGiveField
  refine ok_cI (vf_X5_pop hn V_h) ?_; intro u2 E_u2 V_u2 a_u2 b_u2
  refine ok_cI (vf_X5_pop hn V_u2) ?_; intro u4 E_u4 V_u4 a_u4 b_u4
  refine ok_cP (vf_X5_link hn (by omega) (by omega) V_u4) ?_; intro u6 e_u6 a_u6 b_u6
  have z6 : u6 ≤ 2000000000 := x_0 _ ((lk_eq (fun k => ((ff_X5_pop nn) _ E_u4 148 k (nw_ar rfl k)).trans ((ff_X5_pop nn) _ E_u2 148 k (nw_ar rfl k))) (((ff_X5_pop nn) _ E_u4 143 17 rfl).trans ((ff_X5_pop nn) _ E_u2 143 17 rfl)) (fun k => ((ff_X5_pop nn) _ E_u4 68 k (nw_ar rfl k)).trans ((ff_X5_pop nn) _ E_u2 68 k (nw_ar rfl k)))).symm.trans e_u6)
  refine ok_cP (vf_X5_fieldCell hn (by omega) (by omega) (by omega) (by omega) V_u4) ?_; intro u8 e_u8 a_u8 b_u8
  refine ok_if ?_ ?_
  · intro C0
    refine ok_wA (by omega) ?_; intro h10 E_h10; have V_h10 : VS_ h10 := by rw [E_h10]; exact wA_147 V_u4 (by omega)
    refine ok_cV (vf_X5_goOn hn (by omega) (by omega) V_h10) ?_; intro u12 E_u12 V_u12
    exact ok_rV V_u12
  · intro C0
    refine ok_xl ?_; intro h13 E_h13; have V_h13 : VS_ h13 := by rw [E_h13]; exact wF_143_20 V_u4 (by omega)
    exact ok_rV V_h13
set_option maxRecDepth 4000 in
theorem vj_X5_stepKin_74 {nn : Nat} (hn : 1000000 ≤ nn) {l3 : Int} {h : ms_M} (a_l3 : (-2147483648) ≤ l3) (b_l3 : l3 ≤ 2147483647) (V_h : VS_ h)  : Ok_ (qj_X5_stepKin_74 nn l3 h) QV_ := by
  unfold qj_X5_stepKin_74
  refine ok_cV (vf_X5_give hn (by omega) (by omega) (by omega) (by omega) V_h) ?_; intro u2 E_u2 V_u2
  exact ok_rV V_u2
set_option maxRecDepth 4000 in
theorem vj_X5_stepKin_58 {nn : Nat} (hn : 1000000 ≤ nn) {s0 : Int} {h : ms_M} (a_s0 : 0 ≤ s0) (b_s0 : s0 ≤ 1) (V_h : VS_ h)  : Ok_ (qj_X5_stepKin_58 nn s0 h) QV_ := by
  unfold qj_X5_stepKin_58
  refine ok_cV (vf_X5_give hn (by omega) (by omega) (by omega) (by omega) V_h) ?_; intro u4 E_u4 V_u4
  exact ok_rV V_u4
set_option maxRecDepth 4000 in
theorem vj_X5_stepKin_38 {nn : Nat} (hn : 1000000 ≤ nn) {l1 : Int} {l3 : Int} {s0 : Int} {h : ms_M} (a_l1 : 192 ≤ l1) (b_l1 : l1 ≤ 193) (a_l3 : (-2147483648) ≤ l3) (b_l3 : l3 ≤ 2147483647) (a_s0 : 0 ≤ s0) (b_s0 : s0 ≤ 1) (V_h : VS_ h)  : Ok_ (qj_X5_stepKin_38 nn l1 l3 s0 h) QV_ := by
  unfold qj_X5_stepKin_38
  refine ok_if ?_ ?_
  · intro C0
    refine ok_if ?_ ?_
    · intro C1
      exact vj_X5_stepKin_74 hn (by omega) (by omega) V_h
    · intro C1
      refine ok_if ?_ ?_
      · intro C2
        refine ok_xl ?_; intro h5 E_h5; have V_h5 : VS_ h5 := by rw [E_h5]; exact wF_143_20 V_h (by omega)
        exact ok_rV V_h5
      · intro C2
        exact vj_X5_stepKin_74 hn (by omega) (by omega) V_h
  · intro C0
    refine ok_if ?_ ?_
    · intro C3
      exact vj_X5_stepKin_58 hn (by omega) (by omega) V_h
    · intro C3
      exact vj_X5_stepKin_58 hn (by omega) (by omega) V_h
set_option maxRecDepth 4000 in
theorem vj_X5_stepKin_37 {nn : Nat} (hn : 1000000 ≤ nn) {l1 : Int} {l3 : Int} {h : ms_M} (a_l1 : 192 ≤ l1) (b_l1 : l1 ≤ 193) (a_l3 : (-2147483648) ≤ l3) (b_l3 : l3 ≤ 2147483647) (V_h : VS_ h)  : Ok_ (qj_X5_stepKin_37 nn l1 l3 h) QV_ := by
  unfold qj_X5_stepKin_37
  exact vj_X5_stepKin_38 hn (by omega) (by omega) (by omega) (by omega) (by omega) (by omega) V_h
set_option maxRecDepth 4000 in
theorem vf_X5_stepKin {nn : Nat} (hn : 1000000 ≤ nn) {a1 : Int} {a2 : Int} {h : ms_M} (a_a1 : 192 ≤ a1) (b_a1 : a1 ≤ 193) (a_a2 : (-2147483648) ≤ a2) (b_a2 : a2 ≤ 2147483647) (V_h : VS_ h)  : Ok_ (qf_X5_stepKin nn a1 a2 h) QV_ := by
  unfold qf_X5_stepKin
  refine ok_cI (vf_X5_pop hn V_h) ?_; intro u11 E_u11 V_u11 a_u11 b_u11
  refine ok_cP (vf_X5_isObject hn (by omega) (by omega) V_u11) ?_; intro u13 e_u13 a_u13 b_u13
  have T1 := pr_X5_isObject e_u13
  refine ok_if ?_ ?_
  · intro C1
    exact vj_X5_stepKin_37 hn (by omega) (by omega) (by omega) (by omega) V_u11
  · intro C1
    refine ok_rd (by omega) (gA_145 V_u11) ?_; intro v17 e_v17 a_v17 b_v17
    refine ok_cP (vf_X4_fits hn rfl (by omega) (by omega) (by omega) (by omega) V_u11) ?_; intro u19 e_u19 a_u19 b_u19
    refine ok_if ?_ ?_
    · intro C2
      exact vj_X5_stepKin_37 hn (by omega) (by omega) (by omega) (by omega) V_u11
    · intro C2
      exact vj_X5_stepKin_38 hn (by omega) (by omega) (by omega) (by omega) (by omega) (by omega) V_u11
set_option maxRecDepth 4000 in
theorem vf_X5_stepLength {nn : Nat} (hn : 1000000 ≤ nn) {h : ms_M} (V_h : VS_ h)  : Ok_ (qf_X5_stepLength nn h) QV_ := by
  unfold qf_X5_stepLength
  refine ok_cI (vf_X5_pop hn V_h) ?_; intro u2 E_u2 V_u2 a_u2 b_u2
  refine ok_cP (vf_X5_isObject hn (by omega) (by omega) V_u2) ?_; intro u4 e_u4 a_u4 b_u4
  have T1 := pr_X5_isObject e_u4
  refine ok_if ?_ ?_
  · intro C1
    refine ok_xl ?_; intro h5 E_h5; have V_h5 : VS_ h5 := by rw [E_h5]; exact wF_143_20 V_u2 (by omega)
    exact ok_rV V_h5
  · intro C1
    refine ok_add (by omega) ?_; intro v7 e_v7
    refine ok_rd (by omega) (gA_146 V_u2) ?_; intro v8 e_v8 a_v8 b_v8
    refine ok_rd (by omega) (gA_146 V_u2) ?_; intro v10 e_v10 a_v10 b_v10
    refine ok_sub (by omega) ?_; intro v11 e_v11
    refine ok_cV (vf_X5_give hn (by omega) (by omega) (by omega) (by omega) V_u2) ?_; intro u13 E_u13 V_u13
    exact ok_rV V_u13
set_option maxRecDepth 4000 in
theorem vf_X5_stepNewArray {nn : Nat} (hn : 1000000 ≤ nn) {a1 : Int} {h : ms_M} (a_a1 : (-2147483648) ≤ a1) (b_a1 : a1 ≤ 2147483647) (V_h : VS_ h)  : Ok_ (qf_X5_stepNewArray nn a1 h) QV_ := by
  unfold qf_X5_stepNewArray
  refine ok_cI (vf_X5_pop hn V_h) ?_; intro u2 E_u2 V_u2 a_u2 b_u2
  refine ok_if ?_ ?_
  · intro C0
    refine ok_cV (vf_X5_giveNew hn (by omega) (by omega) (by omega) (by omega) V_u2) ?_; intro u4 E_u4 V_u4
    exact ok_rV V_u4
  · intro C0
    refine ok_xl ?_; intro h5 E_h5; have V_h5 : VS_ h5 := by rw [E_h5]; exact wF_143_20 V_u2 (by omega)
    exact ok_rV V_h5
set_option maxRecDepth 4000 in
theorem vj_X5_stepPrint_25 {nn : Nat} (hn : 1000000 ≤ nn) {h : ms_M} (V_h : VS_ h) (x_0 : h 143 7 ≤ 1900000000)  : Ok_ (qj_X5_stepPrint_25 nn h) (QVR_ (fun r => (r 143 7 ≤ h 143 7 + 1))) := by
  unfold qj_X5_stepPrint_25
  have T1 := gF_143_7 V_h
  refine ok_add (by omega) ?_; intro v2 e_v2
  refine ok_xl ?_; intro h3 E_h3; have V_h3 : VS_ h3 := by rw [E_h3]; exact wF_143_7 V_h (by omega)
  have T2 : h3 143 7 = v2 := by rw [E_h3]; exact up_s
  refine ok_cV (vf_X5_goOn hn (by omega) (by omega) V_h3) ?_; intro u5 E_u5 V_u5
  have T3 : u5 143 7 = h3 143 7 := (ff_X5_goOn nn) _ E_u5 143 7 rfl
  exact ok_rVR V_u5 (by omega)
set_option maxRecDepth 4000 in
theorem vf_X5_stepPrint {nn : Nat} (hn : 1000000 ≤ nn) {h : ms_M} (V_h : VS_ h) (x_0 : h 143 7 ≤ 1900000000)  : Ok_ (qf_X5_stepPrint nn h) (QVR_ (fun r => (r 143 7 ≤ h 143 7 + 1))) := by
  unfold qf_X5_stepPrint
  have T1 := gF_143_7 V_h
  refine ok_cI (vf_X5_pop hn V_h) ?_; intro u7 E_u7 V_u7 a_u7 b_u7
  have T2 : u7.2 143 7 = h 143 7 := (ff_X5_pop nn) _ E_u7 143 7 rfl
  refine ok_if ?_ ?_
  · intro C2
    exact ok_mV (vj_X5_stepPrint_25 hn V_u7 (by omega)) (fun _ V_r R_r => by have := gF_143_7 V_r; omega)
  · intro C2
    refine ok_wA (by omega) ?_; intro h11 E_h11; have V_h11 : VS_ h11 := by rw [E_h11]; exact wA_144 V_u7 (by omega)
    have T4 : h11 143 7 = u7.2 143 7 := by rw [E_h11]; exact up_n (fun z => absurd z.1 (by decide))
    exact ok_mV (vj_X5_stepPrint_25 hn V_h11 (by omega)) (fun _ V_r R_r => by have := gF_143_7 V_r; omega)
set_option maxRecDepth 4000 in
theorem vj_X5_stepReturn_15 {nn : Nat} (hn : 1000000 ≤ nn) {l1 : Int} {s0 : Int} {h : ms_M} (a_l1 : 172 ≤ l1) (b_l1 : l1 ≤ 177) (a_s0 : (-2147483648) ≤ s0) (b_s0 : s0 ≤ 2147483647) (V_h : VS_ h) (x_0 : 1 ≤ h 143 6)  : Ok_ (qj_X5_stepReturn_15 nn l1 s0 h) (QVR_ (fun r => (¬ r 143 1 = 1 ∨ 1 ≤ r 143 6))) := by
  unfold qj_X5_stepReturn_15
  have T1 := gF_143_1 V_h
  have T2 := gF_143_6 V_h
  refine ok_sub (by omega) ?_; intro v2 e_v2
  refine ok_xl ?_; intro h3 E_h3; have V_h3 : VS_ h3 := by rw [E_h3]; exact wF_143_6 V_h (by omega)
  have T3 : h3 143 1 = h 143 1 := by rw [E_h3]; exact up_n (by decide)
  have T4 : h3 143 6 = v2 := by rw [E_h3]; exact up_s
  refine ok_if ?_ ?_
  · intro C4
    refine ok_xl ?_; intro h5 E_h5; have V_h5 : VS_ h5 := by rw [E_h5]; exact wF_143_1 V_h3 (by omega)
    have T6 : h5 143 6 = h3 143 6 := by rw [E_h5]; exact up_n (by decide)
    have T7 : h5 143 1 = 2 := by rw [E_h5]; exact up_s
    refine ok_if ?_ ?_
    · intro C7
      refine ok_cP (vf_X5_isObject hn (by omega) (by omega) V_h5) ?_; intro u7 e_u7 a_u7 b_u7
      have T9 := pr_X5_isObject e_u7
      refine ok_if ?_ ?_
      · intro C9
        refine ok_xl ?_; intro h8 E_h8; have V_h8 : VS_ h8 := by rw [E_h8]; exact wF_143_2 V_h5 (by omega)
        have T11 : h8 143 6 = h5 143 6 := by rw [E_h8]; exact up_n (by decide)
        have T12 : h8 143 1 = h5 143 1 := by rw [E_h8]; exact up_n (by decide)
        exact ok_rVR V_h8 (by omega)
      · intro C9
        refine ok_rd (by omega) (gA_145 V_h5) ?_; intro v10 e_v10 a_v10 b_v10
        refine ok_xl ?_; intro h11 E_h11; have V_h11 : VS_ h11 := by rw [E_h11]; exact wF_143_2 V_h5 (by omega)
        have T13 : h11 143 6 = h5 143 6 := by rw [E_h11]; exact up_n (by decide)
        have T14 : h11 143 1 = h5 143 1 := by rw [E_h11]; exact up_n (by decide)
        exact ok_rVR V_h11 (by omega)
    · intro C7
      refine ok_xl ?_; intro h13 E_h13; have V_h13 : VS_ h13 := by rw [E_h13]; exact wF_143_2 V_h5 (by omega)
      have T15 : h13 143 6 = h5 143 6 := by rw [E_h13]; exact up_n (by decide)
      have T16 : h13 143 1 = h5 143 1 := by rw [E_h13]; exact up_n (by decide)
      exact ok_rVR V_h13 (by omega)
  · intro C4
    refine ok_cV (vf_X5_takeTop hn V_h3) ?_; intro u16 E_u16 V_u16
    have T17 : u16 143 6 = h3 143 6 := (ff_X5_takeTop nn) _ E_u16 143 6 rfl
    have T18 := gF_143_1 V_u16
    refine ok_cV (vf_X5_goOn hn (by omega) (by omega) V_u16) ?_; intro u18 E_u18 V_u18
    have T19 : u18 143 6 = u16 143 6 := (ff_X5_goOn nn) _ E_u18 143 6 rfl
    have T20 : u18 143 1 = u16 143 1 := (ff_X5_goOn nn) _ E_u18 143 1 rfl
    refine ok_if ?_ ?_
    · intro C20
      exact ok_rVR V_u18 (by omega)
    · intro C20
      refine ok_cV (vf_X5_push hn (by omega) (by omega) V_u18) ?_; intro u20 E_u20 V_u20
      have T22 : u20 143 6 = u18 143 6 := (ff_X5_push nn) _ E_u20 143 6 rfl
      have T23 := gF_143_1 V_u20
      exact ok_rVR V_u20 (by omega)
set_option maxRecDepth 4000 in
theorem vf_X5_stepReturn {nn : Nat} (hn : 1000000 ≤ nn) {a1 : Int} {h : ms_M} (a_a1 : 172 ≤ a1) (b_a1 : a1 ≤ 177) (V_h : VS_ h) (x_0 : 1 ≤ h 143 6)  : Ok_ (qf_X5_stepReturn nn a1 h) (QVR_ (fun r => (¬ r 143 1 = 1 ∨ 1 ≤ r 143 6))) := by
  unfold qf_X5_stepReturn
  have T1 := gF_143_1 V_h
  have T2 := gF_143_6 V_h
  refine ok_if ?_ ?_
  · intro C2
    refine ok_cI (vf_X5_pop hn V_h) ?_; intro u24 E_u24 V_u24 a_u24 b_u24
    have T4 : u24.2 143 6 = h 143 6 := (ff_X5_pop nn) _ E_u24 143 6 rfl
    have T5 := gF_143_1 V_u24
    exact ok_mV (vj_X5_stepReturn_15 hn (by omega) (by omega) (by omega) (by omega) V_u24 (by omega)) (fun _ V_r R_r => by have := gF_143_1 V_r; have := gF_143_6 V_r; omega)
  · intro C2
    exact ok_mV (vj_X5_stepReturn_15 hn (by omega) (by omega) (by omega) (by omega) V_h (by omega)) (fun _ V_r R_r => by have := gF_143_1 V_r; have := gF_143_6 V_r; omega)
set_option maxRecDepth 4000 in
theorem vf_X5_stepThrow {nn : Nat} (hn : 1000000 ≤ nn) {h : ms_M} (V_h : VS_ h)  : Ok_ (qf_X5_stepThrow nn h) QV_ := by
  unfold qf_X5_stepThrow
  refine ok_cI (vf_X5_pop hn V_h) ?_; intro u2 E_u2 V_u2 a_u2 b_u2
  refine ok_if ?_ ?_
  · intro C0
    refine ok_xl ?_; intro h3 E_h3; have V_h3 : VS_ h3 := by rw [E_h3]; exact wF_143_20 V_u2 (by omega)
    exact ok_rV V_h3
  · intro C0
    refine ok_xl ?_; intro h4 E_h4; have V_h4 : VS_ h4 := by rw [E_h4]; exact wF_143_20 V_u2 (by omega)
    exact ok_rV V_h4
set_option maxRecDepth 4000 in
theorem vf_X7_cellsOf {nn : Nat} (hn : 1000000 ≤ nn) {a1 : Int} {h : ms_M} (a_a1 : (-2147483648) ≤ a1) (b_a1 : a1 ≤ 2147483647) (V_h : VS_ h)  : Ok_ (qf_X7_cellsOf nn a1 h) (QP_ 0 192) := by
  unfold qf_X7_cellsOf
  refine ok_cP (vf_X4_isClass hn (by omega) (by omega) V_h) ?_; intro u1 e_u1 a_u1 b_u1
  have T1 := pr_X4_isClass e_u1
  refine ok_if ?_ ?_
  · intro C1
    exact ok_rP (by omega) (by omega)
  · intro C1
    refine ok_rd (by omega) (gA_69 V_h) ?_; intro v3 e_v3 a_v3 b_v3
    exact ok_rP (by omega) (by omega)
set_option maxRecDepth 4000 in
theorem vj_X5_stepObject_285 {nn : Nat} (hn : 1000000 ≤ nn) {l1 : Int} {l2 : Int} {h : ms_M} (a_l1 : 192 ≤ l1) (b_l1 : l1 ≤ 193) (a_l2 : 0 ≤ l2) (b_l2 : l2 ≤ 255) (V_h : VS_ h) (x_0 : 1 ≤ h 143 6) (x_1 : h 143 7 ≤ 1900000000) (N_h : SI_ h)  : Ok_ (qj_X5_stepObject_285 nn l1 l2 h) (QVR_ (fun r => (¬ r 143 1 = 1 ∨ 1 ≤ r 143 6) ∧ (r 143 7 ≤ h 143 7 + 1))) := by
  unfold qj_X5_stepObject_285
  have T1 := gF_143_1 V_h
  have T2 := gF_143_6 V_h
  have T3 := gF_143_7 V_h
  refine ok_cP (vf_X5_link hn (by omega) (by omega) V_h) ?_; intro u2 e_u2 a_u2 b_u2
  refine ok_cV (vf_X5_stepKin hn (by omega) (by omega) (by omega) (by omega) V_h) ?_; intro u4 E_u4 V_u4
  have T4 : u4 143 6 = h 143 6 := (ff_X5_stepKin nn) _ E_u4 143 6 rfl
  have T5 : u4 143 7 = h 143 7 := (ff_X5_stepKin nn) _ E_u4 143 7 rfl
  have T6 := gF_143_1 V_u4
  exact ok_rVR V_u4 (by omega)
set_option maxRecDepth 4000 in
theorem vj_X5_stepObject_243 {nn : Nat} (hn : 1000000 ≤ nn) {l1 : Int} {l2 : Int} {h : ms_M} (a_l1 : 188 ≤ l1) (b_l1 : l1 ≤ 189) (a_l2 : 0 ≤ l2) (b_l2 : l2 ≤ 255) (V_h : VS_ h) (x_0 : 1 ≤ h 143 6) (x_1 : h 143 7 ≤ 1900000000) (N_h : SI_ h)  : Ok_ (qj_X5_stepObject_243 nn l1 l2 h) (QVR_ (fun r => (¬ r 143 1 = 1 ∨ 1 ≤ r 143 6) ∧ (r 143 7 ≤ h 143 7 + 1))) := by
  unfold qj_X5_stepObject_243
  have T1 := gF_143_1 V_h
  have T2 := gF_143_6 V_h
  have T3 := gF_143_7 V_h
  refine ok_if ?_ ?_
  · intro C3
    refine ok_cP (vf_X5_link hn (by omega) (by omega) V_h) ?_; intro u6 e_u6 a_u6 b_u6
    refine ok_addW (by omega) ?_; intro v7 a_v7 b_v7 w_v7
    refine ok_cV (vf_X5_stepNewArray hn (by omega) (by omega) V_h) ?_; intro u9 E_u9 V_u9
    have T5 : u9 143 6 = h 143 6 := (ff_X5_stepNewArray nn) _ E_u9 143 6 rfl
    have T6 : u9 143 7 = h 143 7 := (ff_X5_stepNewArray nn) _ E_u9 143 7 rfl
    have T7 := gF_143_1 V_u9
    exact ok_rVR V_u9 (by omega)
  · intro C3
    refine ok_cV (vf_X5_stepNewArray hn (by omega) (by omega) V_h) ?_; intro u11 E_u11 V_u11
    have T8 : u11 143 6 = h 143 6 := (ff_X5_stepNewArray nn) _ E_u11 143 6 rfl
    have T9 : u11 143 7 = h 143 7 := (ff_X5_stepNewArray nn) _ E_u11 143 7 rfl
    have T10 := gF_143_1 V_u11
    exact ok_rVR V_u11 (by omega)
set_option maxRecDepth 4000 in
theorem vj_X5_stepObject_203 {nn : Nat} (hn : 1000000 ≤ nn) {l1 : Int} {l2 : Int} {h : ms_M} (a_l1 : 182 ≤ l1) (b_l1 : l1 ≤ 184) (a_l2 : 0 ≤ l2) (b_l2 : l2 ≤ 255) (V_h : VS_ h) (x_0 : 1 ≤ h 143 6) (x_1 : h 143 7 ≤ 1900000000) (N_h : SI_ h)  : Ok_ (qj_X5_stepObject_203 nn l1 l2 h) (QVR_ (fun r => (¬ r 143 1 = 1 ∨ 1 ≤ r 143 6) ∧ (r 143 7 ≤ h 143 7 + 1))) := by
  unfold qj_X5_stepObject_203
  have T1 := gF_143_1 V_h
  have T2 := gF_143_6 V_h
  have T3 := gF_143_7 V_h
  refine ok_cVR (vf_X5_stepCall hn (by omega) (by omega) (by omega) (by omega) V_h (by omega) N_h) ?_; intro u14 E_u14 V_u14 R_u14
  have T4 : u14 143 7 = h 143 7 := (ff_X5_stepCall nn) _ E_u14 143 7 rfl
  have T5 := gF_143_1 V_u14
  have T6 := gF_143_6 V_u14
  exact ok_rVR V_u14 (by omega)
set_option maxRecDepth 4000 in
theorem vj_X5_stepObject_179 {nn : Nat} (hn : 1000000 ≤ nn) {l1 : Int} {h : ms_M} (a_l1 : 172 ≤ l1) (b_l1 : l1 ≤ 177) (V_h : VS_ h) (x_0 : 1 ≤ h 143 6) (x_1 : h 143 7 ≤ 1900000000) (N_h : SI_ h)  : Ok_ (qj_X5_stepObject_179 nn l1 h) (QVR_ (fun r => (¬ r 143 1 = 1 ∨ 1 ≤ r 143 6) ∧ (r 143 7 ≤ h 143 7 + 1))) := by
  unfold qj_X5_stepObject_179
  have T1 := gF_143_1 V_h
  have T2 := gF_143_6 V_h
  have T3 := gF_143_7 V_h
  refine ok_cVR (vf_X5_stepReturn hn (by omega) (by omega) V_h (by omega)) ?_; intro u16 E_u16 V_u16 R_u16
  have T4 : u16 143 7 = h 143 7 := (ff_X5_stepReturn nn) _ E_u16 143 7 rfl
  have T5 := gF_143_1 V_u16
  have T6 := gF_143_6 V_u16
  exact ok_rVR V_u16 (by omega)
set_option maxRecDepth 4000 in
theorem vj_X5_stepObject_171 {nn : Nat} (hn : 1000000 ≤ nn) {l1 : Int} {h : ms_M} (a_l1 : 79 ≤ l1) (b_l1 : l1 ≤ 83) (V_h : VS_ h) (x_0 : 1 ≤ h 143 6) (x_1 : h 143 7 ≤ 1900000000) (N_h : SI_ h)  : Ok_ (qj_X5_stepObject_171 nn l1 h) (QVR_ (fun r => (¬ r 143 1 = 1 ∨ 1 ≤ r 143 6) ∧ (r 143 7 ≤ h 143 7 + 1))) := by
  unfold qj_X5_stepObject_171
  have T1 := gF_143_1 V_h
  have T2 := gF_143_6 V_h
  have T3 := gF_143_7 V_h
  refine ok_cV (vf_X5_stepGiveElement hn (by omega) (by omega) V_h) ?_; intro u18 E_u18 V_u18
  have T4 : u18 143 6 = h 143 6 := (ff_X5_stepGiveElement nn) _ E_u18 143 6 rfl
  have T5 : u18 143 7 = h 143 7 := (ff_X5_stepGiveElement nn) _ E_u18 143 7 rfl
  have T6 := gF_143_1 V_u18
  exact ok_rVR V_u18 (by omega)
set_option maxRecDepth 4000 in
theorem vj_X5_stepObject_164 {nn : Nat} (hn : 1000000 ≤ nn) {h : ms_M} (V_h : VS_ h) (x_0 : 1 ≤ h 143 6) (x_1 : h 143 7 ≤ 1900000000) (N_h : SI_ h)  : Ok_ (qj_X5_stepObject_164 nn h) (QVR_ (fun r => (¬ r 143 1 = 1 ∨ 1 ≤ r 143 6) ∧ (r 143 7 ≤ h 143 7 + 1))) := by
  unfold qj_X5_stepObject_164
  have T1 := gF_143_1 V_h
  have T2 := gF_143_6 V_h
  have T3 := gF_143_7 V_h
  refine ok_cV (vf_X5_stepElement hn V_h) ?_; intro u20 E_u20 V_u20
  have T4 : u20 143 6 = h 143 6 := (ff_X5_stepElement nn) _ E_u20 143 6 rfl
  have T5 : u20 143 7 = h 143 7 := (ff_X5_stepElement nn) _ E_u20 143 7 rfl
  have T6 := gF_143_1 V_u20
  exact ok_rVR V_u20 (by omega)
set_option maxRecDepth 4000 in
theorem vf_X5_stepObject {nn : Nat} (hn : 1000000 ≤ nn) {a1 : Int} {a2 : Int} {h : ms_M} (a_a1 : 9 ≤ a1) (b_a1 : a1 ≤ 255) (a_a2 : 0 ≤ a2) (b_a2 : a2 ≤ 255) (V_h : VS_ h) (x_0 : 1 ≤ h 143 6) (x_1 : h 143 7 ≤ 1900000000) (x_2 : LKo_ nn a1 a2 h) (N_h : SI_ h)  : Ok_ (qf_X5_stepObject nn a1 a2 h) (QVR_ (fun r => (¬ r 143 1 = 1 ∨ 1 ≤ r 143 6) ∧ (r 143 7 ≤ h 143 7 + 1))) := by
  unfold qf_X5_stepObject
  have T1 := gF_143_1 V_h
  have T2 := gF_143_6 V_h
  have T3 := gF_143_7 V_h
  refine ok_if ?_ ?_
  · intro C3
    exact ok_mV (vj_X5_stepObject_164 hn V_h (by omega) (by omega) N_h) (fun _ V_r R_r => by have := gF_143_1 V_r; have := gF_143_6 V_r; have := gF_143_7 V_r; omega)
  · intro C3
    refine ok_if ?_ ?_
    · intro C4
      exact ok_mV (vj_X5_stepObject_164 hn V_h (by omega) (by omega) N_h) (fun _ V_r R_r => by have := gF_143_1 V_r; have := gF_143_6 V_r; have := gF_143_7 V_r; omega)
    · intro C4
      refine ok_if ?_ ?_
      · intro C5
        exact ok_mV (vj_X5_stepObject_171 hn (by omega) (by omega) V_h (by omega) (by omega) N_h) (fun _ V_r R_r => by have := gF_143_1 V_r; have := gF_143_6 V_r; have := gF_143_7 V_r; omega)
      · intro C5
        refine ok_if ?_ ?_
        · intro C6
          exact ok_mV (vj_X5_stepObject_171 hn (by omega) (by omega) V_h (by omega) (by omega) N_h) (fun _ V_r R_r => by have := gF_143_1 V_r; have := gF_143_6 V_r; have := gF_143_7 V_r; omega)
        · intro C6
          refine ok_if ?_ ?_
          · intro C7
            exact ok_mV (vj_X5_stepObject_179 hn (by omega) (by omega) V_h (by omega) (by omega) N_h) (fun _ V_r R_r => by have := gF_143_1 V_r; have := gF_143_6 V_r; have := gF_143_7 V_r; omega)
          · intro C7
            refine ok_if ?_ ?_
            · intro C8
              exact ok_mV (vj_X5_stepObject_179 hn (by omega) (by omega) V_h (by omega) (by omega) N_h) (fun _ V_r R_r => by have := gF_143_1 V_r; have := gF_143_6 V_r; have := gF_143_7 V_r; omega)
            · intro C8
              refine ok_if ?_ ?_
              · intro C9
                exact ok_mV (vj_X5_stepObject_179 hn (by omega) (by omega) V_h (by omega) (by omega) N_h) (fun _ V_r R_r => by have := gF_143_1 V_r; have := gF_143_6 V_r; have := gF_143_7 V_r; omega)
              · intro C9
                refine ok_if ?_ ?_
                · intro C10
                  refine ok_cV (vf_X5_stepField hn (by omega) (by omega) V_h (x_2 (by omega))) ?_; intro u23 E_u23 V_u23
                  have T12 : u23 143 6 = h 143 6 := (ff_X5_stepField nn) _ E_u23 143 6 rfl
                  have T13 : u23 143 7 = h 143 7 := (ff_X5_stepField nn) _ E_u23 143 7 rfl
                  have T14 := gF_143_1 V_u23
                  exact ok_rVR V_u23 (by omega)
                · intro C10
                  refine ok_if ?_ ?_
                  · intro C14
                    refine ok_cV (vf_X5_stepGiveField hn (by omega) (by omega) V_h (x_2 (by omega))) ?_; intro u25 E_u25 V_u25
                    have T16 : u25 143 6 = h 143 6 := (ff_X5_stepGiveField nn) _ E_u25 143 6 rfl
                    have T17 : u25 143 7 = h 143 7 := (ff_X5_stepGiveField nn) _ E_u25 143 7 rfl
                    have T18 := gF_143_1 V_u25
                    exact ok_rVR V_u25 (by omega)
                  · intro C14
                    refine ok_if ?_ ?_
                    · intro C18
                      exact ok_mV (vj_X5_stepObject_203 hn (by omega) (by omega) (by omega) (by omega) V_h (by omega) (by omega) N_h) (fun _ V_r R_r => by have := gF_143_1 V_r; have := gF_143_6 V_r; have := gF_143_7 V_r; omega)
                    · intro C18
                      refine ok_if ?_ ?_
                      · intro C19
                        exact ok_mV (vj_X5_stepObject_203 hn (by omega) (by omega) (by omega) (by omega) V_h (by omega) (by omega) N_h) (fun _ V_r R_r => by have := gF_143_1 V_r; have := gF_143_6 V_r; have := gF_143_7 V_r; omega)
                      · intro C19
                        refine ok_if ?_ ?_
                        · intro C20
                          refine ok_cVR (vf_X5_stepPrint hn V_h (by omega)) ?_; intro u27 E_u27 V_u27 R_u27
                          have T22 : u27 143 6 = h 143 6 := (ff_X5_stepPrint nn) _ E_u27 143 6 rfl
                          have T23 := gF_143_1 V_u27
                          have T24 := gF_143_7 V_u27
                          exact ok_rVR V_u27 (by omega)
                        · intro C20
                          refine ok_if ?_ ?_
                          · intro C24
                            refine ok_cP (vf_X5_link hn (by omega) (by omega) V_h) ?_; intro u29 e_u29 a_u29 b_u29
                            refine ok_cP (vf_X5_link hn (by omega) (by omega) V_h) ?_; intro u32 e_u32 a_u32 b_u32
                            refine ok_cP (vf_X7_cellsOf hn (by omega) (by omega) V_h) ?_; intro u34 e_u34 a_u34 b_u34
                            refine ok_cV (vf_X5_giveNew hn (by omega) (by omega) (by omega) (by omega) V_h) ?_; intro u36 E_u36 V_u36
                            have T26 : u36 143 6 = h 143 6 := (ff_X5_giveNew nn) _ E_u36 143 6 rfl
                            have T27 : u36 143 7 = h 143 7 := (ff_X5_giveNew nn) _ E_u36 143 7 rfl
                            have T28 := gF_143_1 V_u36
                            exact ok_rVR V_u36 (by omega)
                          · intro C24
                            refine ok_if ?_ ?_
                            · intro C28
                              exact ok_mV (vj_X5_stepObject_243 hn (by omega) (by omega) (by omega) (by omega) V_h (by omega) (by omega) N_h) (fun _ V_r R_r => by have := gF_143_1 V_r; have := gF_143_6 V_r; have := gF_143_7 V_r; omega)
                            · intro C28
                              refine ok_if ?_ ?_
                              · intro C29
                                exact ok_mV (vj_X5_stepObject_243 hn (by omega) (by omega) (by omega) (by omega) V_h (by omega) (by omega) N_h) (fun _ V_r R_r => by have := gF_143_1 V_r; have := gF_143_6 V_r; have := gF_143_7 V_r; omega)
                              · intro C29
                                refine ok_if ?_ ?_
                                · intro C30
                                  refine ok_cV (vf_X5_stepLength hn V_h) ?_; intro u38 E_u38 V_u38
                                  have T32 : u38 143 6 = h 143 6 := (ff_X5_stepLength nn) _ E_u38 143 6 rfl
                                  have T33 : u38 143 7 = h 143 7 := (ff_X5_stepLength nn) _ E_u38 143 7 rfl
                                  have T34 := gF_143_1 V_u38
                                  exact ok_rVR V_u38 (by omega)
                                · intro C30
                                  refine ok_if ?_ ?_
                                  · intro C34
                                    refine ok_cV (vf_X5_stepThrow hn V_h) ?_; intro u40 E_u40 V_u40
                                    have T36 : u40 143 6 = h 143 6 := (ff_X5_stepThrow nn) _ E_u40 143 6 rfl
                                    have T37 : u40 143 7 = h 143 7 := (ff_X5_stepThrow nn) _ E_u40 143 7 rfl
                                    have T38 := gF_143_1 V_u40
                                    exact ok_rVR V_u40 (by omega)
                                  · intro C34
                                    refine ok_if ?_ ?_
                                    · intro C38
                                      exact ok_mV (vj_X5_stepObject_285 hn (by omega) (by omega) (by omega) (by omega) V_h (by omega) (by omega) N_h) (fun _ V_r R_r => by have := gF_143_1 V_r; have := gF_143_6 V_r; have := gF_143_7 V_r; omega)
                                    · intro C38
                                      refine ok_if ?_ ?_
                                      · intro C39
                                        exact ok_mV (vj_X5_stepObject_285 hn (by omega) (by omega) (by omega) (by omega) V_h (by omega) (by omega) N_h) (fun _ V_r R_r => by have := gF_143_1 V_r; have := gF_143_6 V_r; have := gF_143_7 V_r; omega)
                                      · intro C39
                                        refine ok_xl ?_; intro h21 E_h21; have V_h21 : VS_ h21 := by rw [E_h21]; exact wF_143_1 V_h (by omega)
                                        have T41 : h21 143 6 = h 143 6 := by rw [E_h21]; exact up_n (by decide)
                                        have T42 : h21 143 7 = h 143 7 := by rw [E_h21]; exact up_n (by decide)
                                        have T43 : h21 143 1 = 6 := by rw [E_h21]; exact up_s
                                        exact ok_rVR V_h21 (by omega)
