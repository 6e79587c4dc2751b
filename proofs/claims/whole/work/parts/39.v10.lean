set_option maxRecDepth 4000 in
theorem vj_X11_isArithmetic_158 {nn : Nat} (hn : 1000000 ≤ nn) {h : ms_M} (V_h : VS_ h)  : Ok_ (qj_X11_isArithmetic_158 nn h) (QP_ 0 1) := by
  unfold qj_X11_isArithmetic_158
  exact ok_rP (by omega) (by omega)
set_option maxRecDepth 4000 in
theorem vj_X11_isArithmetic_156 {nn : Nat} (hn : 1000000 ≤ nn) {h : ms_M} (V_h : VS_ h)  : Ok_ (qj_X11_isArithmetic_156 nn h) (QP_ 0 1) := by
  unfold qj_X11_isArithmetic_156
  exact ok_rP (by omega) (by omega)
set_option maxRecDepth 4000 in
theorem vf_X11_isArithmetic {nn : Nat} (hn : 1000000 ≤ nn) {a0 : Int} {h : ms_M} (a_a0 : 0 ≤ a0) (b_a0 : a0 ≤ 255) (V_h : VS_ h)  : Ok_ (qf_X11_isArithmetic nn a0 h) (QP_ 0 1) := by
  unfold qf_X11_isArithmetic
  refine ok_if ?_ ?_
  · intro C0
    exact vj_X11_isArithmetic_156 hn V_h
  · intro C0
    refine ok_if ?_ ?_
    · intro C1
      exact vj_X11_isArithmetic_156 hn V_h
    · intro C1
      refine ok_if ?_ ?_
      · intro C2
        exact vj_X11_isArithmetic_156 hn V_h
      · intro C2
        refine ok_if ?_ ?_
        · intro C3
          exact vj_X11_isArithmetic_156 hn V_h
        · intro C3
          refine ok_if ?_ ?_
          · intro C4
            exact vj_X11_isArithmetic_156 hn V_h
          · intro C4
            refine ok_if ?_ ?_
            · intro C5
              exact vj_X11_isArithmetic_156 hn V_h
            · intro C5
              refine ok_if ?_ ?_
              · intro C6
                exact vj_X11_isArithmetic_156 hn V_h
              · intro C6
                refine ok_if ?_ ?_
                · intro C7
                  exact vj_X11_isArithmetic_156 hn V_h
                · intro C7
                  refine ok_if ?_ ?_
                  · intro C8
                    exact vj_X11_isArithmetic_156 hn V_h
                  · intro C8
                    refine ok_if ?_ ?_
                    · intro C9
                      exact vj_X11_isArithmetic_156 hn V_h
                    · intro C9
                      refine ok_if ?_ ?_
                      · intro C10
                        exact vj_X11_isArithmetic_156 hn V_h
                      · intro C10
                        exact vj_X11_isArithmetic_158 hn V_h
set_option maxRecDepth 4000 in
theorem vf_X11_isJump {nn : Nat} (hn : 1000000 ≤ nn) {a0 : Int} {h : ms_M} (a_a0 : 0 ≤ a0) (b_a0 : a0 ≤ 255) (V_h : VS_ h)  : Ok_ (qf_X11_isJump nn a0 h) (QP_ 0 1) := by
  unfold qf_X11_isJump
  refine ok_if ?_ ?_
  · intro C0
    exact ok_rP (by omega) (by omega)
  · intro C0
    refine ok_if ?_ ?_
    · intro C1
      exact ok_rP (by omega) (by omega)
    · intro C1
      refine ok_if ?_ ?_
      · intro C2
        exact ok_rP (by omega) (by omega)
      · intro C2
        refine ok_if ?_ ?_
        · intro C3
          exact ok_rP (by omega) (by omega)
        · intro C3
          exact ok_rP (by omega) (by omega)
set_option maxRecDepth 4000 in
theorem vf_X5_goOn {nn : Nat} (hn : 1000000 ≤ nn) {a1 : Int} {h : ms_M} (a_a1 : (-2147483648) ≤ a1) (b_a1 : a1 ≤ 2147483647) (V_h : VS_ h)  : Ok_ (qf_X5_goOn nn a1 h) QV_ := by
  unfold qf_X5_goOn
  have T1 := gF_143_17 V_h
  refine ok_rd (by omega) (gA_149 V_h) ?_; intro v3 e_v3 a_v3 b_v3
  refine ok_addW (by omega) ?_; intro v4 a_v4 b_v4 w_v4
  refine ok_wA (by omega) ?_; intro h5 E_h5; have V_h5 : VS_ h5 := by rw [E_h5]; exact wA_149 V_h (by omega)
  exact ok_rV V_h5
set_option maxRecDepth 4000 in
theorem vf_X5_push {nn : Nat} (hn : 1000000 ≤ nn) {a1 : Int} {h : ms_M} (a_a1 : (-2147483648) ≤ a1) (b_a1 : a1 ≤ 2147483647) (V_h : VS_ h)  : Ok_ (qf_X5_push nn a1 h) QV_ := by
  unfold qf_X5_push
  have T1 := gF_143_17 V_h
  refine ok_rd (by omega) (gA_150 V_h) ?_; intro v3 e_v3 a_v3 b_v3
  refine ok_if ?_ ?_
  · intro C1
    refine ok_mul (by omega) ?_; intro v6 e_v6
    refine ok_add (by omega) ?_; intro v7 e_v7
    refine ok_wA (by omega) ?_; intro h8 E_h8; have V_h8 : VS_ h8 := by rw [E_h8]; exact wA_152 V_h (by omega)
    have T3 : h8 143 17 = h 143 17 := by rw [E_h8]; exact up_n (fun z => absurd z.1 (by decide))
    refine ok_add (by omega) ?_; intro v11 e_v11
    refine ok_wA (by omega) ?_; intro h12 E_h12; have V_h12 : VS_ h12 := by rw [E_h12]; exact wA_150 V_h8 (by omega)
    exact ok_rV V_h12
  · intro C1
    refine ok_xl ?_; intro h13 E_h13; have V_h13 : VS_ h13 := by rw [E_h13]; exact wF_143_1 V_h (by omega)
    exact ok_rV V_h13
set_option maxRecDepth 4000 in
theorem vf_X5_give {nn : Nat} (hn : 1000000 ≤ nn) {a1 : Int} {a2 : Int} {h : ms_M} (a_a1 : (-2147483648) ≤ a1) (b_a1 : a1 ≤ 2147483647) (a_a2 : (-2147483648) ≤ a2) (b_a2 : a2 ≤ 2147483647) (V_h : VS_ h)  : Ok_ (qf_X5_give nn a1 a2 h) QV_ := by
  unfold qf_X5_give
  refine ok_cV (vf_X5_push hn (by omega) (by omega) V_h) ?_; intro u2 E_u2 V_u2
  refine ok_cV (vf_X5_goOn hn (by omega) (by omega) V_u2) ?_; intro u4 E_u4 V_u4
  exact ok_rV V_u4
set_option maxRecDepth 4000 in
theorem vf_X7_link {nn : Nat} (hn : 1000000 ≤ nn) {a1 : Int} {a2 : Int} {h : ms_M} (a_a1 : (-1) ≤ a1) (b_a1 : a1 ≤ 8) (a_a2 : 0 ≤ a2) (b_a2 : a2 ≤ 255) (V_h : VS_ h)  : Ok_ (qf_X7_link nn a1 a2 h) (QP_ (-2147483648) 2147483647) := by
  unfold qf_X7_link
  refine ok_if ?_ ?_
  · intro C0
    exact ok_rP (by omega) (by omega)
  · intro C0
    refine ok_if ?_ ?_
    · intro C1
      exact ok_rP (by omega) (by omega)
    · intro C1
      refine ok_if ?_ ?_
      · intro C2
        exfalso; omega
      · intro C2
        refine ok_if ?_ ?_
        · intro C3
          exfalso; omega
        · intro C3
          refine ok_mul (by omega) ?_; intro v2 e_v2
          refine ok_add (by omega) ?_; intro v3 e_v3
          refine ok_rd (by omega) (gA_68 V_h) ?_; intro v4 e_v4 a_v4 b_v4
          exact ok_rP (by omega) (by omega)
set_option maxRecDepth 4000 in
theorem vf_X5_link {nn : Nat} (hn : 1000000 ≤ nn) {a1 : Int} {h : ms_M} (a_a1 : 0 ≤ a1) (b_a1 : a1 ≤ 255) (V_h : VS_ h)  : Ok_ (qf_X5_link nn a1 h) (QP_ (-2147483648) 2147483647) := by
  unfold qf_X5_link
  have T1 := gF_143_17 V_h
  refine ok_rd (by omega) (gA_148 V_h) ?_; intro v4 e_v4 a_v4 b_v4
  refine ok_divT (n := 12) (by decide) ?_; intro v5 a_v5 b_v5
  refine ok_cP (vf_X7_link hn (by omega) (by omega) (by omega) (by omega) V_h) ?_; intro u7 e_u7 a_u7 b_u7
  exact ok_rP (by omega) (by omega)
set_option maxRecDepth 4000 in
theorem vf_X5_pop {nn : Nat} (hn : 1000000 ≤ nn) {h : ms_M} (V_h : VS_ h)  : Ok_ (qf_X5_pop nn h) (QI_ (-2147483648) 2147483647) := by
  unfold qf_X5_pop
  have T1 := gF_143_17 V_h
  refine ok_rd (by omega) (gA_150 V_h) ?_; intro v3 e_v3 a_v3 b_v3
  refine ok_sub (by omega) ?_; intro v4 e_v4
  refine ok_if ?_ ?_
  · intro C1
    refine ok_wA (by omega) ?_; intro h7 E_h7; have V_h7 : VS_ h7 := by rw [E_h7]; exact wA_150 V_h (by omega)
    have T3 : h7 143 17 = h 143 17 := by rw [E_h7]; exact up_n (fun z => absurd z.1 (by decide))
    refine ok_mul (by omega) ?_; intro v10 e_v10
    refine ok_add (by omega) ?_; intro v11 e_v11
    refine ok_rd (by omega) (gA_152 V_h7) ?_; intro v12 e_v12 a_v12 b_v12
    exact ok_rI V_h7 (by omega) (by omega)
  · intro C1
    refine ok_xl ?_; intro h13 E_h13; have V_h13 : VS_ h13 := by rw [E_h13]; exact wF_143_1 V_h (by omega)
    exact ok_rI V_h13 (by omega) (by omega)
set_option maxRecDepth 4000 in
theorem vj_X5_computed_204 {nn : Nat} (hn : 1000000 ≤ nn) {l1 : Int} {l2 : Int} {h : ms_M} (a_l1 : (-2147483648) ≤ l1) (b_l1 : l1 ≤ 2147483647) (a_l2 : (-2147483648) ≤ l2) (b_l2 : l2 ≤ 2147483647) (V_h : VS_ h)  : Ok_ (qj_X5_computed_204 nn l1 l2 h) (QP_ (-2147483648) 2147483647) := by
  unfold qj_X5_computed_204
  refine ok_i32 ?_; intro v1 a_v1 b_v1
  exact ok_rP (by omega) (by omega)
set_option maxRecDepth 4000 in
theorem vf_X5_computed {nn : Nat} (hn : 1000000 ≤ nn) {a0 : Int} {a1 : Int} {a2 : Int} {h : ms_M} (a_a0 : 9 ≤ a0) (b_a0 : a0 ≤ 255) (a_a1 : (-2147483648) ≤ a1) (b_a1 : a1 ≤ 2147483647) (a_a2 : (-2147483648) ≤ a2) (b_a2 : a2 ≤ 2147483647) (V_h : VS_ h)  : Ok_ (qf_X5_computed nn a0 a1 a2 h) (QP_ (-2147483648) 2147483647) := by
  unfold qf_X5_computed
  refine ok_if ?_ ?_
  · intro C0
    refine ok_addW (by omega) ?_; intro v2 a_v2 b_v2 w_v2
    exact ok_rP (by omega) (by omega)
  · intro C0
    refine ok_if ?_ ?_
    · intro C1
      refine ok_subW (by omega) ?_; intro v3 a_v3 b_v3 w_v3
      exact ok_rP (by omega) (by omega)
    · intro C1
      refine ok_if ?_ ?_
      · intro C2
        refine ok_i32 ?_; intro v4 a_v4 b_v4
        exact ok_rP (by omega) (by omega)
      · intro C2
        refine ok_if ?_ ?_
        · intro C3
          refine ok_if ?_ ?_
          · intro C4
            refine ok_if ?_ ?_
            · intro C5
              exfalso; omega
            · intro C5
              refine ok_i32 ?_; intro v5 a_v5 b_v5
              exact ok_rP (by omega) (by omega)
          · intro C4
            exact ok_rP (by omega) (by omega)
        · intro C3
          refine ok_if ?_ ?_
          · intro C6
            refine ok_if ?_ ?_
            · intro C7
              refine ok_if ?_ ?_
              · intro C8
                exfalso; omega
              · intro C8
                refine ok_i32 ?_; intro v7 a_v7 b_v7
                exact ok_rP (by omega) (by omega)
            · intro C7
              exact ok_rP (by omega) (by omega)
          · intro C6
            refine ok_if ?_ ?_
            · intro C9
              refine ok_i32 ?_; intro v9 a_v9 b_v9
              exact ok_rP (by omega) (by omega)
            · intro C9
              refine ok_if ?_ ?_
              · intro C10
                refine ok_i32 ?_; intro v10 a_v10 b_v10
                exact ok_rP (by omega) (by omega)
              · intro C10
                refine ok_if ?_ ?_
                · intro C11
                  refine ok_i32 ?_; intro v11 a_v11 b_v11
                  exact ok_rP (by omega) (by omega)
                · intro C11
                  refine ok_if ?_ ?_
                  · intro C12
                    refine ok_i32 ?_; intro v12 a_v12 b_v12
                    exact ok_rP (by omega) (by omega)
                  · intro C12
                    refine ok_if ?_ ?_
                    · intro C13
                      refine ok_i32 ?_; intro v13 a_v13 b_v13
                      exact ok_rP (by omega) (by omega)
                    · intro C13
                      exact vj_X5_computed_204 hn (by omega) (by omega) (by omega) (by omega) V_h
set_option maxRecDepth 4000 in
theorem vj_X5_stepArithmetic_35 {nn : Nat} (hn : 1000000 ≤ nn) {l1 : Int} {l2 : Int} {l3 : Int} {h : ms_M} (a_l1 : 9 ≤ l1) (b_l1 : l1 ≤ 255) (a_l2 : (-2147483648) ≤ l2) (b_l2 : l2 ≤ 2147483647) (a_l3 : (-2147483648) ≤ l3) (b_l3 : l3 ≤ 2147483647) (V_h : VS_ h)  : Ok_ (qj_X5_stepArithmetic_35 nn l1 l2 l3 h) QV_ := by
  unfold qj_X5_stepArithmetic_35
  refine ok_cP (vf_X5_computed hn (by omega) (by omega) (by omega) (by omega) (by omega) (by omega) V_h) ?_; intro u1 e_u1 a_u1 b_u1
  refine ok_cV (vf_X5_give hn (by omega) (by omega) (by omega) (by omega) V_h) ?_; intro u3 E_u3 V_u3
  exact ok_rV V_u3
set_option maxRecDepth 4000 in
theorem vj_X5_stepArithmetic_26 {nn : Nat} (hn : 1000000 ≤ nn) {h : ms_M} (V_h : VS_ h)  : Ok_ (qj_X5_stepArithmetic_26 nn h) QV_ := by
  unfold qj_X5_stepArithmetic_26
  refine ok_xl ?_; intro h4 E_h4; have V_h4 : VS_ h4 := by rw [E_h4]; exact wF_143_20 V_h (by omega)
  exact ok_rV V_h4
set_option maxRecDepth 4000 in
theorem vf_X5_stepArithmetic {nn : Nat} (hn : 1000000 ≤ nn) {a1 : Int} {h : ms_M} (a_a1 : 9 ≤ a1) (b_a1 : a1 ≤ 255) (V_h : VS_ h)  : Ok_ (qf_X5_stepArithmetic nn a1 h) QV_ := by
  unfold qf_X5_stepArithmetic
  refine ok_cI (vf_X5_pop hn V_h) ?_; intro u6 E_u6 V_u6 a_u6 b_u6
  refine ok_cI (vf_X5_pop hn V_u6) ?_; intro u8 E_u8 V_u8 a_u8 b_u8
  refine ok_if ?_ ?_
  · intro C0
    exact vj_X5_stepArithmetic_35 hn (by omega) (by omega) (by omega) (by omega) (by omega) (by omega) V_u8
  · intro C0
    refine ok_if ?_ ?_
    · intro C1
      exact vj_X5_stepArithmetic_26 hn V_u8
    · intro C1
      refine ok_if ?_ ?_
      · intro C2
        exact vj_X5_stepArithmetic_35 hn (by omega) (by omega) (by omega) (by omega) (by omega) (by omega) V_u8
      · intro C2
        exact vj_X5_stepArithmetic_26 hn V_u8
set_option maxRecDepth 4000 in
theorem vf_X3_pairAt {nn : Nat} (hn : 1000000 ≤ nn) {a0 : Nat} {a1 : Int} {h : ms_M} (hb_a0 : kc_O a0 = 3) (a_a1 : (-2147483648) ≤ a1) (b_a1 : a1 ≤ 2147483647) (V_h : VS_ h)  : Ok_ (qf_X3_pairAt nn a0 a1 h) (QP_ 0 65535) := by
  unfold qf_X3_pairAt
  refine ok_cP (vf_X3_byteAt hn hb_a0 (by omega) (by omega) V_h) ?_; intro u2 e_u2 a_u2 b_u2
  refine ok_shl8 (by omega) ?_; intro v3 e_v3
  refine ok_addW (by omega) ?_; intro v4 a_v4 b_v4 w_v4
  refine ok_cP (vf_X3_byteAt hn hb_a0 (by omega) (by omega) V_h) ?_; intro u6 e_u6 a_u6 b_u6
  refine ok_or (by omega) (by omega) ?_; intro v7 a_v7 b_v7
  exact ok_rP (by omega) (by omega)
set_option maxRecDepth 4000 in
theorem vj_X5_compares_103 {nn : Nat} (hn : 1000000 ≤ nn) {l1 : Int} {l2 : Int} {h : ms_M} (a_l1 : (-2147483648) ≤ l1) (b_l1 : l1 ≤ 2147483647) (a_l2 : (-2147483648) ≤ l2) (b_l2 : l2 ≤ 2147483647) (V_h : VS_ h)  : Ok_ (qj_X5_compares_103 nn l1 l2 h) (QP_ 0 1) := by
  unfold qj_X5_compares_103
  refine ok_if ?_ ?_
  · intro C0
    exact ok_rP (by omega) (by omega)
  · intro C0
    exact ok_rP (by omega) (by omega)
set_option maxRecDepth 4000 in
theorem vj_X5_compares_59 {nn : Nat} (hn : 1000000 ≤ nn) {l1 : Int} {l2 : Int} {h : ms_M} (a_l1 : (-2147483648) ≤ l1) (b_l1 : l1 ≤ 2147483647) (a_l2 : (-2147483648) ≤ l2) (b_l2 : l2 ≤ 2147483647) (V_h : VS_ h)  : Ok_ (qj_X5_compares_59 nn l1 l2 h) (QP_ 0 1) := by
  unfold qj_X5_compares_59
  refine ok_if ?_ ?_
  · intro C0
    exact ok_rP (by omega) (by omega)
  · intro C0
    exact ok_rP (by omega) (by omega)
set_option maxRecDepth 4000 in
theorem vj_X5_compares_48 {nn : Nat} (hn : 1000000 ≤ nn) {l1 : Int} {l2 : Int} {h : ms_M} (a_l1 : (-2147483648) ≤ l1) (b_l1 : l1 ≤ 2147483647) (a_l2 : (-2147483648) ≤ l2) (b_l2 : l2 ≤ 2147483647) (V_h : VS_ h)  : Ok_ (qj_X5_compares_48 nn l1 l2 h) (QP_ 0 1) := by
  unfold qj_X5_compares_48
  refine ok_if ?_ ?_
  · intro C0
    exact ok_rP (by omega) (by omega)
  · intro C0
    exact ok_rP (by omega) (by omega)
set_option maxRecDepth 4000 in
theorem vf_X5_compares {nn : Nat} (hn : 1000000 ≤ nn) {a0 : Int} {a1 : Int} {a2 : Int} {h : ms_M} (a_a0 : 9 ≤ a0) (b_a0 : a0 ≤ 255) (a_a1 : (-2147483648) ≤ a1) (b_a1 : a1 ≤ 2147483647) (a_a2 : (-2147483648) ≤ a2) (b_a2 : a2 ≤ 2147483647) (V_h : VS_ h)  : Ok_ (qf_X5_compares nn a0 a1 a2 h) (QP_ 0 1) := by
  unfold qf_X5_compares
  refine ok_if ?_ ?_
  · intro C0
    exact vj_X5_compares_48 hn (by omega) (by omega) (by omega) (by omega) V_h
  · intro C0
    refine ok_if ?_ ?_
    · intro C1
      exact vj_X5_compares_59 hn (by omega) (by omega) (by omega) (by omega) V_h
    · intro C1
      refine ok_if ?_ ?_
      · intro C2
        refine ok_if ?_ ?_
        · intro C3
          exact ok_rP (by omega) (by omega)
        · intro C3
          exact ok_rP (by omega) (by omega)
      · intro C2
        refine ok_if ?_ ?_
        · intro C4
          refine ok_if ?_ ?_
          · intro C5
            exact ok_rP (by omega) (by omega)
          · intro C5
            exact ok_rP (by omega) (by omega)
        · intro C4
          refine ok_if ?_ ?_
          · intro C6
            refine ok_if ?_ ?_
            · intro C7
              exact ok_rP (by omega) (by omega)
            · intro C7
              exact ok_rP (by omega) (by omega)
          · intro C6
            refine ok_if ?_ ?_
            · intro C8
              exact vj_X5_compares_48 hn (by omega) (by omega) (by omega) (by omega) V_h
            · intro C8
              refine ok_if ?_ ?_
              · intro C9
                exact vj_X5_compares_59 hn (by omega) (by omega) (by omega) (by omega) V_h
              · intro C9
                exact vj_X5_compares_103 hn (by omega) (by omega) (by omega) (by omega) V_h
set_option maxRecDepth 4000 in
theorem vj_X5_stepJump_76 {nn : Nat} (hn : 1000000 ≤ nn) {l2 : Int} {l3 : Int} {h : ms_M} (a_l2 : (-2147483648) ≤ l2) (b_l2 : l2 ≤ 2147483647) (a_l3 : 0 ≤ l3) (b_l3 : l3 ≤ 1) (V_h : VS_ h)  : Ok_ (qj_X5_stepJump_76 nn l2 l3 h) QV_ := by
  unfold qj_X5_stepJump_76
  refine ok_if ?_ ?_
  · intro C0
    refine ok_cV (vf_X5_goOn hn (by omega) (by omega) V_h) ?_; intro u2 E_u2 V_u2
    exact ok_rV V_u2
  · intro C0
    refine ok_ck (vi_r V_h).2.2.1 ?_
    have T2 := gF_143_19 V_h
    refine ok_addW (by omega) ?_; intro v5 a_v5 b_v5 w_v5
    refine ok_addW (by omega) ?_; intro v6 a_v6 b_v6 w_v6
    have hb1 : kc_O (h 143 18).toNat = 3 := (vi_r V_h).2.2.2
    refine ok_ck hb1 ?_
    refine ok_cP (vf_X3_pairAt hn hb1 (by omega) (by omega) V_h) ?_; intro u8 e_u8 a_u8 b_u8
    refine ok_s ?_; intro v9 a_v9 b_v9
    refine ok_cV (vf_X5_goOn hn (by omega) (by omega) V_h) ?_; intro u11 E_u11 V_u11
    exact ok_rV V_u11
set_option maxRecDepth 4000 in
theorem vj_X5_stepJump_44 {nn : Nat} (hn : 1000000 ≤ nn) {l2 : Int} {s0 : Int} {h : ms_M} (a_l2 : (-2147483648) ≤ l2) (b_l2 : l2 ≤ 2147483647) (a_s0 : 0 ≤ s0) (b_s0 : s0 ≤ 1) (V_h : VS_ h)  : Ok_ (qj_X5_stepJump_44 nn l2 s0 h) QV_ := by
  unfold qj_X5_stepJump_44
  exact vj_X5_stepJump_76 hn (by omega) (by omega) (by omega) (by omega) V_h
set_option maxRecDepth 4000 in
theorem vj_X5_stepJump_21 {nn : Nat} (hn : 1000000 ≤ nn) {l2 : Int} {s0 : Int} {h : ms_M} (a_l2 : (-2147483648) ≤ l2) (b_l2 : l2 ≤ 2147483647) (a_s0 : 0 ≤ s0) (b_s0 : s0 ≤ 1) (V_h : VS_ h)  : Ok_ (qj_X5_stepJump_21 nn l2 s0 h) QV_ := by
  unfold qj_X5_stepJump_21
  exact vj_X5_stepJump_76 hn (by omega) (by omega) (by omega) (by omega) V_h
set_option maxRecDepth 4000 in
theorem vf_X5_stepJump {nn : Nat} (hn : 1000000 ≤ nn) {a1 : Int} {a2 : Int} {h : ms_M} (a_a1 : 9 ≤ a1) (b_a1 : a1 ≤ 255) (a_a2 : (-2147483648) ≤ a2) (b_a2 : a2 ≤ 2147483647) (V_h : VS_ h)  : Ok_ (qf_X5_stepJump nn a1 a2 h) QV_ := by
  unfold qf_X5_stepJump
  refine ok_if ?_ ?_
  · intro C0
    refine ok_if ?_ ?_
    · intro C1
      refine ok_if ?_ ?_
      · intro C2
        exact vj_X5_stepJump_76 hn (by omega) (by omega) (by omega) (by omega) V_h
      · intro C2
        refine ok_cI (vf_X5_pop hn V_h) ?_; intro u14 E_u14 V_u14 a_u14 b_u14
        refine ok_cI (vf_X5_pop hn V_u14) ?_; intro u16 E_u16 V_u16 a_u16 b_u16
        refine ok_cP (vf_X5_compares hn (by omega) (by omega) (by omega) (by omega) (by omega) (by omega) V_u16) ?_; intro u17 e_u17 a_u17 b_u17
        exact vj_X5_stepJump_76 hn (by omega) (by omega) (by omega) (by omega) V_u16
    · intro C1
      refine ok_cI (vf_X5_pop hn V_h) ?_; intro u20 E_u20 V_u20 a_u20 b_u20
      refine ok_if ?_ ?_
      · intro C3
        exact vj_X5_stepJump_44 hn (by omega) (by omega) (by omega) (by omega) V_u20
      · intro C3
        exact vj_X5_stepJump_44 hn (by omega) (by omega) (by omega) (by omega) V_u20
  · intro C0
    refine ok_cI (vf_X5_pop hn V_h) ?_; intro u24 E_u24 V_u24 a_u24 b_u24
    refine ok_if ?_ ?_
    · intro C4
      exact vj_X5_stepJump_21 hn (by omega) (by omega) (by omega) (by omega) V_u24
    · intro C4
      exact vj_X5_stepJump_21 hn (by omega) (by omega) (by omega) (by omega) V_u24
set_option maxRecDepth 4000 in
theorem vj_X5_stepLocal_37 {nn : Nat} (hn : 1000000 ≤ nn) {l3 : Int} {h : ms_M} (a_l3 : 0 ≤ l3) (b_l3 : l3 ≤ 1799) (V_h : VS_ h)  : Ok_ (qj_X5_stepLocal_37 nn l3 h) QV_ := by
  unfold qj_X5_stepLocal_37
  refine ok_rd (by omega) (gA_151 V_h) ?_; intro v2 e_v2 a_v2 b_v2
  refine ok_cV (vf_X5_give hn (by omega) (by omega) (by omega) (by omega) V_h) ?_; intro u4 E_u4 V_u4
  exact ok_rV V_u4
set_option maxRecDepth 4000 in
theorem vf_X5_stepLocal {nn : Nat} (hn : 1000000 ≤ nn) {a1 : Int} {a2 : Int} {h : ms_M} (a_a1 : 21 ≤ a1) (b_a1 : a1 ≤ 58) (a_a2 : 0 ≤ a2) (b_a2 : a2 ≤ 255) (V_h : VS_ h)  : Ok_ (qf_X5_stepLocal nn a1 a2 h) QV_ := by
  unfold qf_X5_stepLocal
  have T1 := gF_143_17 V_h
  refine ok_mul (by omega) ?_; intro v6 e_v6
  refine ok_add (by omega) ?_; intro v7 e_v7
  refine ok_if ?_ ?_
  · intro C1
    refine ok_if ?_ ?_
    · intro C2
      exact vj_X5_stepLocal_37 hn (by omega) (by omega) V_h
    · intro C2
      refine ok_if ?_ ?_
      · intro C3
        refine ok_cI (vf_X5_pop hn V_h) ?_; intro u10 E_u10 V_u10 a_u10 b_u10
        refine ok_wA (by omega) ?_; intro h11 E_h11; have V_h11 : VS_ h11 := by rw [E_h11]; exact wA_151 V_u10 (by omega)
        refine ok_cV (vf_X5_goOn hn (by omega) (by omega) V_h11) ?_; intro u13 E_u13 V_u13
        exact ok_rV V_u13
      · intro C3
        exact vj_X5_stepLocal_37 hn (by omega) (by omega) V_h
  · intro C1
    refine ok_xl ?_; intro h16 E_h16; have V_h16 : VS_ h16 := by rw [E_h16]; exact wF_143_1 V_h (by omega)
    exact ok_rV V_h16
set_option maxRecDepth 4000 in
theorem vf_X5_giveNew {nn : Nat} (hn : 1000000 ≤ nn) {a1 : Int} {a2 : Int} {h : ms_M} (a_a1 : (-2147483648) ≤ a1) (b_a1 : a1 ≤ 2147483647) (a_a2 : 0 ≤ a2) (b_a2 : a2 ≤ 2147483647) (V_h : VS_ h)  : Ok_ (qf_X5_giveNew nn a1 a2 h) QV_ := by
  unfold qf_X5_giveNew
  refine ok_cI (vf_X5_make hn (by omega) (by omega) (by omega) (by omega) V_h) ?_; intro u2 E_u2 V_u2 a_u2 b_u2
  refine ok_if ?_ ?_
  · intro C0
    exact ok_rV V_u2
  · intro C0
    refine ok_cV (vf_X5_give hn (by omega) (by omega) (by omega) (by omega) V_u2) ?_; intro u4 E_u4 V_u4
    exact ok_rV V_u4
set_option maxRecDepth 4000 in
theorem vf_X3_of {nn : Nat} (hn : 1000000 ≤ nn) {a0 : Nat} {a1 : Int} {a2 : Int} {h : ms_M} (hb_a0 : kc_O a0 = 3) (a_a1 : (-11) ≤ a1) (b_a1 : a1 ≤ 12) (a_a2 : 0 ≤ a2) (b_a2 : a2 ≤ 11) (V_h : VS_ h)  : Ok_ (qf_X3_of nn a0 a1 a2 h) (QP_ (-1) 65535) := by
  unfold qf_X3_of
  refine ok_mul (by omega) ?_; intro v1 e_v1
  refine ok_add (by omega) ?_; intro v2 e_v2
  refine ok_if ?_ ?_
  · intro C0
    exact ok_rP (by omega) (by omega)
  · intro C0
    have T2 := gI_12 V_h hb_a0
    refine ok_if ?_ ?_
    · intro C2
      exact ok_rP (by omega) (by omega)
    · intro C2
      refine ok_if ?_ ?_
      · intro C3
        exact ok_rP (by omega) (by omega)
      · intro C3
        refine ok_rd (by omega) (gIA_6 V_h hb_a0) ?_; intro v7 e_v7 a_v7 b_v7
        exact ok_rP (by omega) (by omega)
set_option maxRecDepth 4000 in
theorem vf_X7_imageOfMember {nn : Nat} (hn : 1000000 ≤ nn) {a1 : Int} {h : ms_M} (a_a1 : (-2147483648) ≤ a1) (b_a1 : a1 ≤ 2147483647) (V_h : VS_ h)  : Ok_ (qf_X7_imageOfMember nn a1 h) QO_ := by
  unfold qf_X7_imageOfMember
  refine ok_if ?_ ?_
  · intro C0
    exact ok_rOn
  · intro C0
    have T2 := gF_56_3 V_h
    refine ok_mul (by omega) ?_; intro v2 e_v2
    refine ok_if ?_ ?_
    · intro C2
      exact ok_rOn
    · intro C2
      refine ok_div (n := 12) (by omega) ?_; intro v4 e_v4
      refine ok_rd60 V_h (by omega) ?_; intro v5 n_v5 k_v5
      exact ok_rOo k_v5
set_option maxRecDepth 4000 in
theorem vf_X5_takeTop {nn : Nat} (hn : 1000000 ≤ nn) {h : ms_M} (V_h : VS_ h)  : Ok_ (qf_X5_takeTop nn h) QV_ := by
  unfold qf_X5_takeTop
  have T1 := gF_143_6 V_h
  refine ok_sub (by omega) ?_; intro v2 e_v2
  refine ok_ite ?_; intro v3 e_v3
  refine ok_xl ?_; intro h4 E_h4; have V_h4 : VS_ h4 := by rw [E_h4]; exact wF_143_17 V_h (by omega)
  have T2 : h4 143 17 = v3 := by rw [E_h4]; exact up_s
  refine ok_rd (by omega) (gA_148 V_h4) ?_; intro v8 e_v8 a_v8 b_v8
  refine ok_cO (vf_X7_imageOfMember hn (by omega) (by omega) V_h4) ?_; intro u10 e_u10 o_u10
  have T3 := po_X7_imageOfMember V_h4 e_u10
  refine ok_if ?_ ?_
  · intro C3
    refine ok_xl ?_; intro h13 E_h13; have V_h13 : VS_ h13 := by rw [E_h13]; exact wF_143_1 V_h4 (by omega)
    exact ok_rV V_h13
  · intro C3
    refine ok_wR V_h4 (by decide) (by omega) (o_u10.resolve_left C3) ?_; intro h14 E_h14 V_h14
    have T5 : h14 143 17 = h4 143 17 := by rw [E_h14]; exact up_n (by decide)
    refine ok_ck (vi_r V_h14).2.2.1 ?_
    refine ok_rd (by omega) (gA_148 V_h14) ?_; intro v18 e_v18 a_v18 b_v18
    refine ok_remT (n := 12) (by decide) ?_; intro v19 a_v19 b_v19
    have hb1 : kc_O (h14 143 18).toNat = 3 := (vi_r V_h14).2.2.2
    refine ok_ck hb1 ?_
    refine ok_cP (vf_X3_of hn hb1 (by omega) (by omega) (by omega) (by omega) V_h14) ?_; intro u21 e_u21 a_u21 b_u21
    refine ok_xl ?_; intro h22 E_h22; have V_h22 : VS_ h22 := by rw [E_h22]; exact wF_143_19 V_h14 (by omega)
    exact ok_rV V_h22
set_option maxRecDepth 4000 in
theorem vf_X5_isObject {nn : Nat} (hn : 1000000 ≤ nn) {a1 : Int} {h : ms_M} (a_a1 : (-2147483648) ≤ a1) (b_a1 : a1 ≤ 2147483647) (V_h : VS_ h)  : Ok_ (qf_X5_isObject nn a1 h) (QP_ 0 1) := by
  unfold qf_X5_isObject
  refine ok_if ?_ ?_
  · intro C0
    exact ok_rP (by omega) (by omega)
  · intro C0
    have T2 := gF_143_4 V_h
    refine ok_if ?_ ?_
    · intro C2
      exact ok_rP (by omega) (by omega)
    · intro C2
      refine ok_if ?_ ?_
      · intro C3
        exfalso; omega
      · intro C3
        exact ok_rP (by omega) (by omega)
set_option maxRecDepth 4000 in
theorem vf_X7_nearestTo {nn : Nat} (hn : 1000000 ≤ nn) {a1 : Int} {a2 : Int} {h : ms_M} (a_a1 : (-2147483648) ≤ a1) (b_a1 : a1 ≤ 2147483647) (a_a2 : 0 ≤ a2) (b_a2 : a2 ≤ 95) (V_h : VS_ h)  : Ok_ (qf_X7_nearestTo nn a1 a2 h) (QP_ (-1) 95) := by
  unfold qf_X7_nearestTo
  refine ok_subW (by omega) ?_; intro v1 a_v1 b_v1 w_v1
  refine ok_if ?_ ?_
  · intro C0
    exact ok_rP (by omega) (by omega)
  · intro C0
    refine ok_if ?_ ?_
    · intro C1
      exact ok_rP (by omega) (by omega)
    · intro C1
      refine ok_if ?_ ?_
      · intro C2
        exfalso; omega
      · intro C2
        refine ok_if ?_ ?_
        · intro C3
          exfalso; omega
        · intro C3
          refine ok_mul (by omega) ?_; intro v3 e_v3
          refine ok_add (by omega) ?_; intro v4 e_v4
          refine ok_rd (by omega) (gA_70 V_h) ?_; intro v5 e_v5 a_v5 b_v5
          exact ok_rP (by omega) (by omega)
set_option maxRecDepth 4000 in
theorem vj_X5_cellOf_39 {nn : Nat} (hn : 1000000 ≤ nn) {h : ms_M} (V_h : VS_ h)  : Ok_ (qj_X5_cellOf_39 nn h) (QI_ (-1) 39999) := by
  unfold qj_X5_cellOf_39
  refine ok_xl ?_; intro h1 E_h1; have V_h1 : VS_ h1 := by rw [E_h1]; exact wF_143_20 V_h (by omega)
  exact ok_rI V_h1 (by omega) (by omega)
set_option maxRecDepth 4000 in
theorem vf_X5_cellOf {nn : Nat} (hn : 1000000 ≤ nn) {a1 : Int} {a2 : Int} {h : ms_M} (a_a1 : (-2147483648) ≤ a1) (b_a1 : a1 ≤ 2147483647) (a_a2 : (-2147483648) ≤ a2) (b_a2 : a2 ≤ 2147483647) (V_h : VS_ h)  : Ok_ (qf_X5_cellOf nn a1 a2 h) (QI_ (-1) 39999) := by
  unfold qf_X5_cellOf
  refine ok_cP (vf_X5_isObject hn (by omega) (by omega) V_h) ?_; intro u3 e_u3 a_u3 b_u3
  have T1 := pr_X5_isObject e_u3
  refine ok_if ?_ ?_
  · intro C1
    refine ok_if ?_ ?_
    · intro C2
      exact vj_X5_cellOf_39 hn V_h
    · intro C2
      refine ok_add (by omega) ?_; intro v5 e_v5
      refine ok_rd (by omega) (gA_146 V_h) ?_; intro v6 e_v6 a_v6 b_v6
      refine ok_rd (by omega) (gA_146 V_h) ?_; intro v8 e_v8 a_v8 b_v8
      refine ok_sub (by omega) ?_; intro v9 e_v9
      refine ok_if ?_ ?_
      · intro C3
        refine ok_rd (by omega) (gA_146 V_h) ?_; intro v11 e_v11 a_v11 b_v11
        refine ok_add (by omega) ?_; intro v12 e_v12
        exact ok_rI V_h (by omega) (by omega)
      · intro C3
        exact vj_X5_cellOf_39 hn V_h
  · intro C1
    refine ok_xl ?_; intro h15 E_h15; have V_h15 : VS_ h15 := by rw [E_h15]; exact wF_143_20 V_h (by omega)
    exact ok_rI V_h15 (by omega) (by omega)
set_option maxRecDepth 4000 in
theorem vf_X5_stepElement {nn : Nat} (hn : 1000000 ≤ nn) {h : ms_M} (V_h : VS_ h)  : Ok_ (qf_X5_stepElement nn h) QV_ := by
  unfold qf_X5_stepElement
  refine ok_cI (vf_X5_pop hn V_h) ?_; intro u2 E_u2 V_u2 a_u2 b_u2
  refine ok_cI (vf_X5_pop hn V_u2) ?_; intro u4 E_u4 V_u4 a_u4 b_u4
  refine ok_cI (vf_X5_cellOf hn (by omega) (by omega) (by omega) (by omega) V_u4) ?_; intro u6 E_u6 V_u6 a_u6 b_u6
  refine ok_if ?_ ?_
  · intro C0
    exact ok_rV V_u6
  · intro C0
    refine ok_if ?_ ?_
    · intro C1
      exact ok_rV V_u6
    · intro C1
      refine ok_rd (by omega) (gA_147 V_u6) ?_; intro v8 e_v8 a_v8 b_v8
      refine ok_cV (vf_X5_give hn (by omega) (by omega) (by omega) (by omega) V_u6) ?_; intro u10 E_u10 V_u10
      exact ok_rV V_u10
set_option maxRecDepth 4000 in
theorem vj_X5_fieldCell_20 {nn : Nat} (hn : 1000000 ≤ nn) {l2 : Int} {s0 : Int} {h : ms_M} (a_l2 : (-2147483648) ≤ l2) (b_l2 : l2 ≤ 2147483647) (a_s0 : (-2147483648) ≤ s0) (b_s0 : s0 ≤ 2147483647) (V_h : VS_ h)  : Ok_ (qj_X5_fieldCell_20 nn l2 s0 h) (QP_ (-2147483648) 19999) := by
  unfold qj_X5_fieldCell_20
  refine ok_if ?_ ?_
  · intro C0
    exact ok_rP (by omega) (by omega)
  · intro C0
    refine ok_if ?_ ?_
    · intro C1
      exact ok_rP (by omega) (by omega)
    · intro C1
      exact ok_rP (by omega) (by omega)
set_option maxRecDepth 4000 in
theorem vf_X5_fieldCell {nn : Nat} (hn : 1000000 ≤ nn) {a1 : Int} {a2 : Int} {h : ms_M} (a_a1 : (-2147483648) ≤ a1) (b_a1 : a1 ≤ 2147483647) (a_a2 : (-2147483648) ≤ a2) (b_a2 : a2 ≤ 2147483647) (V_h : VS_ h)  : Ok_ (qf_X5_fieldCell nn a1 a2 h) (QP_ (-2147483648) 19999) := by
  unfold qf_X5_fieldCell
  refine ok_cP (vf_X5_isObject hn (by omega) (by omega) V_h) ?_; intro u4 e_u4 a_u4 b_u4
  have T1 := pr_X5_isObject e_u4
  refine ok_if ?_ ?_
  · intro C1
    exact vj_X5_fieldCell_20 hn (by omega) (by omega) (by omega) (by omega) V_h
  · intro C1
    refine ok_rd (by omega) (gA_146 V_h) ?_; intro v6 e_v6 a_v6 b_v6
    refine ok_addW (by omega) ?_; intro v7 a_v7 b_v7 w_v7
    exact vj_X5_fieldCell_20 hn (by omega) (by omega) (by omega) (by omega) V_h
set_option maxRecDepth 4000 in
theorem vj_X5_stepKin_74 {nn : Nat} (hn : 1000000 ≤ nn) {l3 : Int} {h : ms_M} (a_l3 : (-2147483648) ≤ l3) (b_l3 : l3 ≤ 2147483647) (V_h : VS_ h)  : Ok_ (qj_X5_stepKin_74 nn l3 h) QV_ := by
  unfold qj_X5_stepKin_74
  refine ok_cV (vf_X5_give hn (by omega) (by omega) (by omega) (by omega) V_h) ?_; intro u2 E_u2 V_u2
  exact ok_rV V_u2
set_option maxRecDepth 4000 in
theorem vj_X5_stepKin_58 {nn : Nat} (hn : 1000000 ≤ nn) {s0 : Int} {h : ms_M} (a_s0 : 0 ≤ s0) (b_s0 : s0 ≤ 1) (V_h : VS_ h)  : Ok_ (qj_X5_stepKin_58 nn s0 h) QV_ := by
  unfold qj_X5_stepKin_58
  refine ok_cV (vf_X5_give hn (by omega) (by omega) (by omega) (by omega) V_h) ?_; intro u4 E_u4 V_u4
  exact ok_rV V_u4
set_option maxRecDepth 4000 in
theorem vj_X5_stepKin_38 {nn : Nat} (hn : 1000000 ≤ nn) {l1 : Int} {l3 : Int} {s0 : Int} {h : ms_M} (a_l1 : 192 ≤ l1) (b_l1 : l1 ≤ 193) (a_l3 : (-2147483648) ≤ l3) (b_l3 : l3 ≤ 2147483647) (a_s0 : 0 ≤ s0) (b_s0 : s0 ≤ 1) (V_h : VS_ h)  : Ok_ (qj_X5_stepKin_38 nn l1 l3 s0 h) QV_ := by
  unfold qj_X5_stepKin_38
  refine ok_if ?_ ?_
  · intro C0
    refine ok_if ?_ ?_
    · intro C1
      exact vj_X5_stepKin_74 hn (by omega) (by omega) V_h
    · intro C1
      refine ok_if ?_ ?_
      · intro C2
        refine ok_xl ?_; intro h5 E_h5; have V_h5 : VS_ h5 := by rw [E_h5]; exact wF_143_20 V_h (by omega)
        exact ok_rV V_h5
      · intro C2
        exact vj_X5_stepKin_74 hn (by omega) (by omega) V_h
  · intro C0
    refine ok_if ?_ ?_
    · intro C3
      exact vj_X5_stepKin_58 hn (by omega) (by omega) V_h
    · intro C3
      exact vj_X5_stepKin_58 hn (by omega) (by omega) V_h
set_option maxRecDepth 4000 in
theorem vj_X5_stepKin_37 {nn : Nat} (hn : 1000000 ≤ nn) {l1 : Int} {l3 : Int} {h : ms_M} (a_l1 : 192 ≤ l1) (b_l1 : l1 ≤ 193) (a_l3 : (-2147483648) ≤ l3) (b_l3 : l3 ≤ 2147483647) (V_h : VS_ h)  : Ok_ (qj_X5_stepKin_37 nn l1 l3 h) QV_ := by
  unfold qj_X5_stepKin_37
  exact vj_X5_stepKin_38 hn (by omega) (by omega) (by omega) (by omega) (by omega) (by omega) V_h
set_option maxRecDepth 4000 in
theorem vf_X5_stepKin {nn : Nat} (hn : 1000000 ≤ nn) {a1 : Int} {a2 : Int} {h : ms_M} (a_a1 : 192 ≤ a1) (b_a1 : a1 ≤ 193) (a_a2 : (-2147483648) ≤ a2) (b_a2 : a2 ≤ 2147483647) (V_h : VS_ h)  : Ok_ (qf_X5_stepKin nn a1 a2 h) QV_ := by
  unfold qf_X5_stepKin
  refine ok_cI (vf_X5_pop hn V_h) ?_; intro u11 E_u11 V_u11 a_u11 b_u11
  refine ok_cP (vf_X5_isObject hn (by omega) (by omega) V_u11) ?_; intro u13 e_u13 a_u13 b_u13
  have T1 := pr_X5_isObject e_u13
  refine ok_if ?_ ?_
  · intro C1
    exact vj_X5_stepKin_37 hn (by omega) (by omega) (by omega) (by omega) V_u11
  · intro C1
    refine ok_rd (by omega) (gA_145 V_u11) ?_; intro v17 e_v17 a_v17 b_v17
    refine ok_cP (vf_X4_fits hn rfl (by omega) (by omega) (by omega) (by omega) V_u11) ?_; intro u19 e_u19 a_u19 b_u19
    refine ok_if ?_ ?_
    · intro C2
      exact vj_X5_stepKin_37 hn (by omega) (by omega) (by omega) (by omega) V_u11
    · intro C2
      exact vj_X5_stepKin_38 hn (by omega) (by omega) (by omega) (by omega) (by omega) (by omega) V_u11
set_option maxRecDepth 4000 in
theorem vf_X5_stepLength {nn : Nat} (hn : 1000000 ≤ nn) {h : ms_M} (V_h : VS_ h)  : Ok_ (qf_X5_stepLength nn h) QV_ := by
  unfold qf_X5_stepLength
  refine ok_cI (vf_X5_pop hn V_h) ?_; intro u2 E_u2 V_u2 a_u2 b_u2
  refine ok_cP (vf_X5_isObject hn (by omega) (by omega) V_u2) ?_; intro u4 e_u4 a_u4 b_u4
  have T1 := pr_X5_isObject e_u4
  refine ok_if ?_ ?_
  · intro C1
    refine ok_xl ?_; intro h5 E_h5; have V_h5 : VS_ h5 := by rw [E_h5]; exact wF_143_20 V_u2 (by omega)
    exact ok_rV V_h5
  · intro C1
    refine ok_add (by omega) ?_; intro v7 e_v7
    refine ok_rd (by omega) (gA_146 V_u2) ?_; intro v8 e_v8 a_v8 b_v8
    refine ok_rd (by omega) (gA_146 V_u2) ?_; intro v10 e_v10 a_v10 b_v10
    refine ok_sub (by omega) ?_; intro v11 e_v11
    refine ok_cV (vf_X5_give hn (by omega) (by omega) (by omega) (by omega) V_u2) ?_; intro u13 E_u13 V_u13
    exact ok_rV V_u13
set_option maxRecDepth 4000 in
theorem vf_X5_stepNewArray {nn : Nat} (hn : 1000000 ≤ nn) {a1 : Int} {h : ms_M} (a_a1 : (-2147483648) ≤ a1) (b_a1 : a1 ≤ 2147483647) (V_h : VS_ h)  : Ok_ (qf_X5_stepNewArray nn a1 h) QV_ := by
  unfold qf_X5_stepNewArray
  refine ok_cI (vf_X5_pop hn V_h) ?_; intro u2 E_u2 V_u2 a_u2 b_u2
  refine ok_if ?_ ?_
  · intro C0
    refine ok_cV (vf_X5_giveNew hn (by omega) (by omega) (by omega) (by omega) V_u2) ?_; intro u4 E_u4 V_u4
    exact ok_rV V_u4
  · intro C0
    refine ok_xl ?_; intro h5 E_h5; have V_h5 : VS_ h5 := by rw [E_h5]; exact wF_143_20 V_u2 (by omega)
    exact ok_rV V_h5
set_option maxRecDepth 4000 in
theorem vf_X5_stepThrow {nn : Nat} (hn : 1000000 ≤ nn) {h : ms_M} (V_h : VS_ h)  : Ok_ (qf_X5_stepThrow nn h) QV_ := by
  unfold qf_X5_stepThrow
  refine ok_cI (vf_X5_pop hn V_h) ?_; intro u2 E_u2 V_u2 a_u2 b_u2
  refine ok_if ?_ ?_
  · intro C0
    refine ok_xl ?_; intro h3 E_h3; have V_h3 : VS_ h3 := by rw [E_h3]; exact wF_143_20 V_u2 (by omega)
    exact ok_rV V_h3
  · intro C0
    refine ok_xl ?_; intro h4 E_h4; have V_h4 : VS_ h4 := by rw [E_h4]; exact wF_143_20 V_u2 (by omega)
    exact ok_rV V_h4
set_option maxRecDepth 4000 in
theorem vf_X7_cellsOf {nn : Nat} (hn : 1000000 ≤ nn) {a1 : Int} {h : ms_M} (a_a1 : (-2147483648) ≤ a1) (b_a1 : a1 ≤ 2147483647) (V_h : VS_ h)  : Ok_ (qf_X7_cellsOf nn a1 h) (QP_ 0 192) := by
  unfold qf_X7_cellsOf
  refine ok_cP (vf_X4_isClass hn (by omega) (by omega) V_h) ?_; intro u1 e_u1 a_u1 b_u1
  have T1 := pr_X4_isClass e_u1
  refine ok_if ?_ ?_
  · intro C1
    exact ok_rP (by omega) (by omega)
  · intro C1
    refine ok_rd (by omega) (gA_69 V_h) ?_; intro v3 e_v3 a_v3 b_v3
    exact ok_rP (by omega) (by omega)
set_option maxRecDepth 4000 in
theorem vj_X5_isCaught_89 {nn : Nat} (hn : 1000000 ≤ nn) {qkk_27 : Int → Int → Int → Int → ms_M → Option (Int × ms_M)} {K_kk_27 : Int} (hk_kk_27 : ∀ {l1 : Int} {l2 : Int} {l3 : Int} {l4 : Int} {h : ms_M} (a_l1 : 1 ≤ l1) (b_l1 : l1 ≤ 2000) (a_l2 : (-11) ≤ l2) (b_l2 : l2 ≤ 11) (a_l3 : (-2147483648) ≤ l3) (b_l3 : l3 ≤ 2147483647) (a_l4 : 0 ≤ l4) (b_l4 : l4 ≤ 65535) (V_h : VS_ h) (_ : 65536 - l4 < K_kk_27), Ok_ (qkk_27 l1 l2 l3 l4 h) (QI_ 0 1)) {l1 : Int} {l2 : Int} {l3 : Int} {l4 : Int} {s0 : Int} {h : ms_M} (a_l1 : 1 ≤ l1) (b_l1 : l1 ≤ 2000) (a_l2 : (-11) ≤ l2) (b_l2 : l2 ≤ 11) (a_l3 : (-2147483648) ≤ l3) (b_l3 : l3 ≤ 2147483647) (a_l4 : 0 ≤ l4) (b_l4 : l4 ≤ 65534) (a_s0 : 0 ≤ s0) (b_s0 : s0 ≤ 1) (V_h : VS_ h) (hm_kk_27 : 65536 - l4 + 0 ≤ K_kk_27) : Ok_ (qj_X5_isCaught_89 nn qkk_27 l1 l2 l3 l4 s0 h) (QI_ 0 1) := by
  unfold qj_X5_isCaught_89
  refine ok_if ?_ ?_
  · intro C0
    refine ok_addW (by omega) ?_; intro v1 a_v1 b_v1 w_v1
    refine ok_add (by omega) ?_; intro v2 e_v2
    exact hk_kk_27 (by omega) (by omega) (by omega) (by omega) (by omega) (by omega) (by omega) (by omega) V_h (by omega)
  · intro C0
    refine ok_rd (by omega) (gA_145 V_h) ?_; intro v6 e_v6 a_v6 b_v6
    refine ok_ck (vi_r V_h).2.2.1 ?_
    refine ok_addW (by omega) ?_; intro v8 a_v8 b_v8 w_v8
    have hb1 : kc_O (h 143 18).toNat = 3 := (vi_r V_h).2.2.2
    refine ok_ck hb1 ?_
    refine ok_cP (vf_X3_byteAt hn hb1 (by omega) (by omega) V_h) ?_; intro u10 e_u10 a_u10 b_u10
    refine ok_cP (vf_X5_link hn (by omega) (by omega) V_h) ?_; intro u12 e_u12 a_u12 b_u12
    refine ok_cP (vf_X4_fits hn rfl (by omega) (by omega) (by omega) (by omega) V_h) ?_; intro u14 e_u14 a_u14 b_u14
    refine ok_if ?_ ?_
    · intro C1
      refine ok_addW (by omega) ?_; intro v15 a_v15 b_v15 w_v15
      refine ok_add (by omega) ?_; intro v16 e_v16
      exact hk_kk_27 (by omega) (by omega) (by omega) (by omega) (by omega) (by omega) (by omega) (by omega) V_h (by omega)
    · intro C1
      have T3 := gF_143_17 V_h
      refine ok_wA (by omega) ?_; intro h19 E_h19; have V_h19 : VS_ h19 := by rw [E_h19]; exact wA_150 V_h (by omega)
      have T4 : h19 143 17 = h 143 17 := by rw [E_h19]; exact up_n (fun z => absurd z.1 (by decide))
      refine ok_ck (vi_r V_h19).2.2.1 ?_
      refine ok_addW (by omega) ?_; intro v21 a_v21 b_v21 w_v21
      have hb2 : kc_O (h19 143 18).toNat = 3 := (vi_r V_h19).2.2.2
      refine ok_ck hb2 ?_
      refine ok_cP (vf_X3_pairAt hn hb2 (by omega) (by omega) V_h19) ?_; intro u23 e_u23 a_u23 b_u23
      refine ok_rd (by omega) (gA_149 V_h19) ?_; intro v26 e_v26 a_v26 b_v26
      refine ok_subW (by omega) ?_; intro v27 a_v27 b_v27 w_v27
      refine ok_cV (vf_X5_give hn (by omega) (by omega) (by omega) (by omega) V_h19) ?_; intro u29 E_u29 V_u29
      exact ok_rI V_u29 (by omega) (by omega)
set_option maxRecDepth 4000 in
theorem vj_X5_isCaught_88 {nn : Nat} (hn : 1000000 ≤ nn) {qkk_27 : Int → Int → Int → Int → ms_M → Option (Int × ms_M)} {K_kk_27 : Int} (hk_kk_27 : ∀ {l1 : Int} {l2 : Int} {l3 : Int} {l4 : Int} {h : ms_M} (a_l1 : 1 ≤ l1) (b_l1 : l1 ≤ 2000) (a_l2 : (-11) ≤ l2) (b_l2 : l2 ≤ 11) (a_l3 : (-2147483648) ≤ l3) (b_l3 : l3 ≤ 2147483647) (a_l4 : 0 ≤ l4) (b_l4 : l4 ≤ 65535) (V_h : VS_ h) (_ : 65536 - l4 < K_kk_27), Ok_ (qkk_27 l1 l2 l3 l4 h) (QI_ 0 1)) {l1 : Int} {l2 : Int} {l3 : Int} {l4 : Int} {h : ms_M} (a_l1 : 1 ≤ l1) (b_l1 : l1 ≤ 2000) (a_l2 : (-11) ≤ l2) (b_l2 : l2 ≤ 11) (a_l3 : (-2147483648) ≤ l3) (b_l3 : l3 ≤ 2147483647) (a_l4 : 0 ≤ l4) (b_l4 : l4 ≤ 65534) (V_h : VS_ h) (hm_kk_27 : 65536 - l4 + 0 ≤ K_kk_27) : Ok_ (qj_X5_isCaught_88 nn qkk_27 l1 l2 l3 l4 h) (QI_ 0 1) := by
  unfold qj_X5_isCaught_88
  exact vj_X5_isCaught_89 hn hk_kk_27 (by omega) (by omega) (by omega) (by omega) (by omega) (by omega) (by omega) (by omega) (by omega) (by omega) V_h (by omega)
set_option maxRecDepth 4000 in
theorem vw_X5_isCaught_27 {nn : Nat} (hn : 1000000 ≤ nn) : ∀ (k : Nat) {l1 : Int} {l2 : Int} {l3 : Int} {l4 : Int} {h : ms_M} (a_l1 : 1 ≤ l1) (b_l1 : l1 ≤ 2000) (a_l2 : (-11) ≤ l2) (b_l2 : l2 ≤ 11) (a_l3 : (-2147483648) ≤ l3) (b_l3 : l3 ≤ 2147483647) (a_l4 : 0 ≤ l4) (b_l4 : l4 ≤ 65535) (V_h : VS_ h)  (hm : 65536 - l4 < (k : Int)), Ok_ (qw_X5_isCaught_27 nn k l1 l2 l3 l4 h) (QI_ 0 1) := by
  intro k
  induction k with
  | zero => intros; exfalso; omega
  | succ k ih =>
    intro l1 l2 l3 l4 h a_l1 b_l1 a_l2 b_l2 a_l3 b_l3 a_l4 b_l4 V_h hm
    unfold qw_X5_isCaught_27
    refine ok_ck (vi_r V_h).2.2.1 ?_
    have hb1 : kc_O (h 143 18).toNat = 3 := (vi_r V_h).2.2.2
    refine ok_ck hb1 ?_
    refine ok_cP (vf_X3_of hn hb1 (by omega) (by omega) (by omega) (by omega) V_h) ?_; intro u34 e_u34 a_u34 b_u34
    refine ok_if ?_ ?_
    · intro C0
      exact ok_rI V_h (by omega) (by omega)
    · intro C0
      have T2 := gF_143_17 V_h
      refine ok_rd (by omega) (gA_149 V_h) ?_; intro v37 e_v37 a_v37 b_v37
      refine ok_ck (vi_r V_h).2.2.1 ?_
      refine ok_cP (vf_X3_pairAt hn hb1 (by omega) (by omega) V_h) ?_; intro u40 e_u40 a_u40 b_u40
      refine ok_if ?_ ?_
      · intro C2
        exact vj_X5_isCaught_88 hn ih (by omega) (by omega) (by omega) (by omega) (by omega) (by omega) (by omega) (by omega) V_h (by omega)
      · intro C2
        refine ok_rd (by omega) (gA_149 V_h) ?_; intro v43 e_v43 a_v43 b_v43
        refine ok_ck (vi_r V_h).2.2.1 ?_
        refine ok_addW (by omega) ?_; intro v45 a_v45 b_v45 w_v45
        refine ok_cP (vf_X3_pairAt hn hb1 (by omega) (by omega) V_h) ?_; intro u47 e_u47 a_u47 b_u47
        refine ok_if ?_ ?_
        · intro C3
          exact vj_X5_isCaught_88 hn ih (by omega) (by omega) (by omega) (by omega) (by omega) (by omega) (by omega) (by omega) V_h (by omega)
        · intro C3
          exact vj_X5_isCaught_89 hn ih (by omega) (by omega) (by omega) (by omega) (by omega) (by omega) (by omega) (by omega) (by omega) (by omega) V_h (by omega)
set_option maxRecDepth 4000 in
theorem vf_X5_isCaught {nn : Nat} (hn : 1000000 ≤ nn) {a1 : Int} {h : ms_M} (a_a1 : 1 ≤ a1) (b_a1 : a1 ≤ 2000) (V_h : VS_ h)  : Ok_ (qf_X5_isCaught nn a1 h) (QI_ 0 1) := by
  unfold qf_X5_isCaught
  have T1 := gF_143_17 V_h
  refine ok_rd (by omega) (gA_148 V_h) ?_; intro v53 e_v53 a_v53 b_v53
  refine ok_remT (n := 12) (by decide) ?_; intro v54 a_v54 b_v54
  refine ok_ck (vi_r V_h).2.2.1 ?_
  have hb1 : kc_O (h 143 18).toNat = 3 := (vi_r V_h).2.2.2
  refine ok_ck hb1 ?_
  refine ok_cP (vf_X3_of hn hb1 (by omega) (by omega) (by omega) (by omega) V_h) ?_; intro u57 e_u57 a_u57 b_u57
  exact vw_X5_isCaught_27 hn _ (by omega) (by omega) (by omega) (by omega) (by omega) (by omega) (by omega) (by omega) V_h (by omega)
set_option maxRecDepth 4000 in
theorem vj_X5_throwUp_59 {nn : Nat} (hn : 1000000 ≤ nn) {l1 : Int} {h : ms_M} (a_l1 : 1 ≤ l1) (b_l1 : l1 ≤ 2000) (V_h : VS_ h)  : Ok_ (qj_X5_throwUp_59 nn l1 h) QV_ := by
  unfold qj_X5_throwUp_59
  refine ok_xl ?_; intro h1 E_h1; have V_h1 : VS_ h1 := by rw [E_h1]; exact wF_143_1 V_h (by omega)
  refine ok_rd (by omega) (gA_145 V_h1) ?_; intro v3 e_v3 a_v3 b_v3
  refine ok_xl ?_; intro h4 E_h4; have V_h4 : VS_ h4 := by rw [E_h4]; exact wF_143_2 V_h1 (by omega)
  exact ok_rV V_h4
set_option maxRecDepth 4000 in
theorem vw_X5_throwUp_17 {nn : Nat} (hn : 1000000 ≤ nn) : ∀ (k : Nat) {l1 : Int} {l2 : Int} {h : ms_M} (a_l1 : 1 ≤ l1) (b_l1 : l1 ≤ 2000) (a_l2 : 0 ≤ l2) (b_l2 : l2 ≤ 60) (V_h : VS_ h)  (hm : 61 - l2 < (k : Int)), Ok_ (qw_X5_throwUp_17 nn k l1 l2 h) QV_ := by
  intro k
  induction k with
  | zero => intros; exfalso; omega
  | succ k ih =>
    intro l1 l2 h a_l1 b_l1 a_l2 b_l2 V_h hm
    unfold qw_X5_throwUp_17
    refine ok_if ?_ ?_
    · intro C0
      exact vj_X5_throwUp_59 hn (by omega) (by omega) V_h
    · intro C0
      have T2 := gF_143_6 V_h
      refine ok_if ?_ ?_
      · intro C2
        exact vj_X5_throwUp_59 hn (by omega) (by omega) V_h
      · intro C2
        refine ok_cV (vf_X5_takeTop hn V_h) ?_; intro u7 E_u7 V_u7
        have T4 : u7 143 6 = h 143 6 := (ff_X5_takeTop nn) _ E_u7 143 6 rfl
        refine ok_cI (vf_X5_isCaught hn (by omega) (by omega) V_u7) ?_; intro u9 E_u9 V_u9 a_u9 b_u9
        have T5 : u9.2 143 6 = u7 143 6 := (ff_X5_isCaught nn) _ E_u9 143 6 rfl
        refine ok_if ?_ ?_
        · intro C5
          refine ok_sub (by omega) ?_; intro v11 e_v11
          refine ok_xl ?_; intro h12 E_h12; have V_h12 : VS_ h12 := by rw [E_h12]; exact wF_143_6 V_u9 (by omega)
          refine ok_add (by omega) ?_; intro v13 e_v13
          exact ih (by omega) (by omega) (by omega) (by omega) V_h12 (by omega)
        · intro C5
          exact ok_rV V_u9
set_option maxRecDepth 4000 in
theorem vf_X5_throwUp {nn : Nat} (hn : 1000000 ≤ nn) {a1 : Int} {h : ms_M} (a_a1 : 1 ≤ a1) (b_a1 : a1 ≤ 2147483647) (V_h : VS_ h)  : Ok_ (qf_X5_throwUp nn a1 h) QV_ := by
  unfold qf_X5_throwUp
  refine ok_cP (vf_X5_isObject hn (by omega) (by omega) V_h) ?_; intro u18 e_u18 a_u18 b_u18
  have T1 := pr_X5_isObject e_u18
  refine ok_if ?_ ?_
  · intro C1
    exact vw_X5_throwUp_17 hn _ (by omega) (by omega) (by omega) (by omega) V_h (by omega)
  · intro C1
    refine ok_xl ?_; intro h19 E_h19; have V_h19 : VS_ h19 := by rw [E_h19]; exact wF_143_1 V_h (by omega)
    exact ok_rV V_h19
set_option maxRecDepth 4000 in
theorem vf_X12_type {nn : Nat} (hn : 1000000 ≤ nn) {a1 : Int} {a2 : Int} {h : ms_M} (a_a1 : (-2147483648) ≤ a1) (b_a1 : a1 ≤ 2147483647) (a_a2 : (-2147483648) ≤ a2) (b_a2 : a2 ≤ 2147483647) (V_h : VS_ h)  : Ok_ (qf_X12_type nn a1 a2 h) (QP_ (-1) 6000) := by
  unfold qf_X12_type
  refine ok_if ?_ ?_
  · intro C0
    exact ok_rP (by omega) (by omega)
  · intro C0
    have T2 := gF_56_3 V_h
    refine ok_add (by omega) ?_; intro v3 e_v3
    refine ok_if ?_ ?_
    · intro C2
      refine ok_if ?_ ?_
      · intro C3
        refine ok_cO (vf_X7_imageOf hn (by omega) (by omega) V_h) ?_; intro u6 e_u6 o_u6
        have T5 := po_X7_imageOf V_h e_u6
        refine ok_if ?_ ?_
        · intro C5
          refine ok_if ?_ ?_
          · intro C6
            exact ok_rP (by omega) (by omega)
          · intro C6
            refine ok_if ?_ ?_
            · intro C7
              exact ok_rP (by omega) (by omega)
            · intro C7
              exact ok_rP (by omega) (by omega)
        · intro C5
          refine ok_if ?_ ?_
          · intro C8
            have hb1 : kc_O (u6).toNat = 3 := (o_u6.resolve_left C5)
            refine ok_ck hb1 ?_
            have T10 := gI_10 V_h hb1
            exact ok_rP (by omega) (by omega)
          · intro C8
            refine ok_if ?_ ?_
            · intro C10
              have hb2 : kc_O (u6).toNat = 3 := (o_u6.resolve_left C5)
              refine ok_ck hb2 ?_
              have T12 := gI_12 V_h hb2
              exact ok_rP (by omega) (by omega)
            · intro C10
              refine ok_if ?_ ?_
              · intro C12
                have hb3 : kc_O (u6).toNat = 3 := (o_u6.resolve_left C5)
                refine ok_ck hb3 ?_
                have T14 := gI_1 V_h hb3
                exact ok_rP (by omega) (by omega)
              · intro C12
                refine ok_if ?_ ?_
                · intro C14
                  have hb4 : kc_O (u6).toNat = 3 := (o_u6.resolve_left C5)
                  refine ok_ck hb4 ?_
                  have T16 := gI_7 V_h hb4
                  exact ok_rP (by omega) (by omega)
                · intro C14
                  exact ok_rP (by omega) (by omega)
      · intro C3
        refine ok_cP (vf_X4_above hn rfl (by omega) (by omega) V_h) ?_; intro u18 e_u18 a_u18 b_u18
        exact ok_rP (by omega) (by omega)
    · intro C2
      exact ok_rP (by omega) (by omega)
set_option maxRecDepth 4000 in
theorem vf_X3_fieldKind {nn : Nat} (hn : 1000000 ≤ nn) {a0 : Nat} {a1 : Int} {h : ms_M} (hb_a0 : kc_O a0 = 3) (a_a1 : 0 ≤ a1) (b_a1 : a1 ≤ 11) (V_h : VS_ h)  : Ok_ (qf_X3_fieldKind nn a0 a1 h) (QP_ 0 255) := by
  unfold qf_X3_fieldKind
  refine ok_if ?_ ?_
  · intro C0
    exfalso; omega
  · intro C0
    have T2 := gI_10 V_h hb_a0
    refine ok_if ?_ ?_
    · intro C2
      exact ok_rP (by omega) (by omega)
    · intro C2
      refine ok_mul (by omega) ?_; intro v3 e_v3
      refine ok_add (by omega) ?_; intro v4 e_v4
      refine ok_rd (by omega) (gIA_5 V_h hb_a0) ?_; intro v5 e_v5 a_v5 b_v5
      exact ok_rP (by omega) (by omega)
set_option maxRecDepth 4000 in
theorem vf_X7_typeOfKind {nn : Nat} (hn : 1000000 ≤ nn) {a1 : Nat} {a2 : Int} {a3 : Int} {h : ms_M} (i_a1 : kc_O a1 = 3) (a_a2 : 0 ≤ a2) (b_a2 : a2 ≤ 6258) (a_a3 : (-1) ≤ a3) (b_a3 : a3 ≤ 6257) (V_h : VS_ h)  : Ok_ (qf_X7_typeOfKind nn a1 a2 a3 h) (QP_ (-1) 303) := by
  unfold qf_X7_typeOfKind
  have hb1 : kc_O a1 = 3 := i_a1
  refine ok_ck hb1 ?_
  refine ok_cP (vf_X3_byteAt hn hb1 (by omega) (by omega) V_h) ?_; intro u2 e_u2 a_u2 b_u2
  refine ok_if ?_ ?_
  · intro C0
    exact ok_rP (by omega) (by omega)
  · intro C0
    refine ok_if ?_ ?_
    · intro C1
      refine ok_if ?_ ?_
      · intro C2
        refine ok_if ?_ ?_
        · intro C3
          refine ok_add (by omega) ?_; intro v3 e_v3
          refine ok_cP (vf_X3_byteAt hn hb1 (by omega) (by omega) V_h) ?_; intro u5 e_u5 a_u5 b_u5
          refine ok_if ?_ ?_
          · intro C4
            refine ok_add (by omega) ?_; intro v6 e_v6
            refine ok_sub (by omega) ?_; intro v7 e_v7
            refine ok_cP (vf_X7_classOf hn hb1 (by omega) (by omega) (by omega) (by omega) V_h) ?_; intro u9 e_u9 a_u9 b_u9
            refine ok_if ?_ ?_
            · intro C5
              refine ok_add (by omega) ?_; intro v10 e_v10
              exact ok_rP (by omega) (by omega)
            · intro C5
              exact ok_rP (by omega) (by omega)
          · intro C4
            exact ok_rP (by omega) (by omega)
        · intro C3
          refine ok_add (by omega) ?_; intro v13 e_v13
          refine ok_sub (by omega) ?_; intro v14 e_v14
          refine ok_cP (vf_X7_classOf hn hb1 (by omega) (by omega) (by omega) (by omega) V_h) ?_; intro u16 e_u16 a_u16 b_u16
          exact ok_rP (by omega) (by omega)
      · intro C2
        exact ok_rP (by omega) (by omega)
    · intro C1
      exact ok_rP (by omega) (by omega)
set_option maxRecDepth 4000 in
theorem vj_X7_readKind_130 {nn : Nat} (hn : 1000000 ≤ nn) {l1 : Nat} {l4 : Int} {l5 : Int} {l6 : Int} {l7 : Int} {h : ms_M} (i_l1 : kc_O l1 = 3) (a_l4 : 0 ≤ l4) (b_l4 : l4 ≤ 1785) (a_l5 : 0 ≤ l5) (b_l5 : l5 ≤ 6255) (a_l6 : (-1) ≤ l6) (b_l6 : l6 ≤ 6257) (a_l7 : 0 ≤ l7) (b_l7 : l7 ≤ 6) (V_h : VS_ h)  : Ok_ (qj_X7_readKind_130 nn l1 l4 l5 l6 l7 h) (QI_ 0 6) := by
  unfold qj_X7_readKind_130
  refine ok_add (by omega) ?_; intro v1 e_v1
  refine ok_cP (vf_X7_typeOfKind hn i_l1 (by omega) (by omega) (by omega) (by omega) V_h) ?_; intro u3 e_u3 a_u3 b_u3
  refine ok_wA (by omega) ?_; intro h4 E_h4; have V_h4 : VS_ h4 := by rw [E_h4]; exact wA_131 V_h (by omega)
  exact ok_rI V_h4 (by omega) (by omega)
set_option maxRecDepth 4000 in
theorem vw_X7_readKind_63 {nn : Nat} (hn : 1000000 ≤ nn) : ∀ (k : Nat) {l1 : Nat} {l4 : Int} {l5 : Int} {l6 : Int} {l7 : Int} {h : ms_M} (i_l1 : kc_O l1 = 3) (a_l4 : 0 ≤ l4) (b_l4 : l4 ≤ 1785) (a_l5 : 0 ≤ l5) (b_l5 : l5 ≤ 6255) (a_l6 : (-1) ≤ l6) (b_l6 : l6 ≤ 6257) (a_l7 : 0 ≤ l7) (b_l7 : l7 ≤ 6) (V_h : VS_ h)  (hm : 7 - l7 < (k : Int)), Ok_ (qw_X7_readKind_63 nn k l1 l4 l5 l6 l7 h) (QI_ 0 6) := by
  intro k
  induction k with
  | zero => intros; exfalso; omega
  | succ k ih =>
    intro l1 l4 l5 l6 l7 h i_l1 a_l4 b_l4 a_l5 b_l5 a_l6 b_l6 a_l7 b_l7 V_h hm
    unfold qw_X7_readKind_63
    refine ok_if ?_ ?_
    · intro C0
      exact vj_X7_readKind_130 hn i_l1 (by omega) (by omega) (by omega) (by omega) (by omega) (by omega) (by omega) (by omega) V_h
    · intro C0
      refine ok_if ?_ ?_
      · intro C1
        exact vj_X7_readKind_130 hn i_l1 (by omega) (by omega) (by omega) (by omega) (by omega) (by omega) (by omega) (by omega) V_h
      · intro C1
        refine ok_if ?_ ?_
        · intro C2
          exact vj_X7_readKind_130 hn i_l1 (by omega) (by omega) (by omega) (by omega) (by omega) (by omega) (by omega) (by omega) V_h
        · intro C2
          have hb1 : kc_O l1 = 3 := i_l1
          refine ok_ck hb1 ?_
          refine ok_cP (vf_X3_byteAt hn hb1 (by omega) (by omega) V_h) ?_; intro u6 e_u6 a_u6 b_u6
          refine ok_if ?_ ?_
          · intro C3
            exact vj_X7_readKind_130 hn hb1 (by omega) (by omega) (by omega) (by omega) (by omega) (by omega) (by omega) (by omega) V_h
          · intro C3
            refine ok_cP (vf_X3_behindKind hn hb1 (by omega) (by omega) (by omega) (by omega) V_h) ?_; intro u8 e_u8 a_u8 b_u8
            refine ok_add (by omega) ?_; intro v9 e_v9
            refine ok_add (by omega) ?_; intro v10 e_v10
            refine ok_cP (vf_X7_typeOfKind hn hb1 (by omega) (by omega) (by omega) (by omega) V_h) ?_; intro u12 e_u12 a_u12 b_u12
            refine ok_wA (by omega) ?_; intro h13 E_h13; have V_h13 : VS_ h13 := by rw [E_h13]; exact wA_131 V_h (by omega)
            exact ih hb1 (by omega) (by omega) (by omega) (by omega) (by omega) (by omega) (by omega) (by omega) V_h13 (by omega)
set_option maxRecDepth 4000 in
theorem vf_X7_readKind {nn : Nat} (hn : 1000000 ≤ nn) {a1 : Nat} {a2 : Int} {a4 : Int} {h : ms_M} (i_a1 : kc_O a1 = 3) (a_a2 : (-1) ≤ a2) (b_a2 : a2 ≤ 65535) (a_a4 : 0 ≤ a4) (b_a4 : a4 ≤ 1785) (V_h : VS_ h)  : Ok_ (qf_X7_readKind nn a1 a2 a4 h) (QI_ 0 6) := by
  unfold qf_X7_readKind
  have hb1 : kc_O a1 = 3 := i_a1
  refine ok_ck hb1 ?_
  refine ok_cP (vf_X3_textEnd hn hb1 (by omega) (by omega) V_h) ?_; intro u19 e_u19 a_u19 b_u19
  refine ok_cP (vf_X3_textAt hn hb1 (by omega) (by omega) V_h) ?_; intro u21 e_u21 a_u21 b_u21
  refine ok_if ?_ ?_
  · intro C0
    exfalso; omega
  · intro C0
    refine ok_add (by omega) ?_; intro v22 e_v22
    refine ok_if ?_ ?_
    · intro C1
      refine ok_cP (vf_X3_byteAt hn hb1 (by omega) (by omega) V_h) ?_; intro u25 e_u25 a_u25 b_u25
      refine ok_if ?_ ?_
      · intro C2
        refine ok_add (by omega) ?_; intro v26 e_v26
        exact vw_X7_readKind_63 hn _ hb1 (by omega) (by omega) (by omega) (by omega) (by omega) (by omega) (by omega) (by omega) V_h (by omega)
      · intro C2
        refine ok_cP (vf_X7_typeOfKind hn hb1 (by omega) (by omega) (by omega) (by omega) V_h) ?_; intro u28 e_u28 a_u28 b_u28
        refine ok_wA (by omega) ?_; intro h29 E_h29; have V_h29 : VS_ h29 := by rw [E_h29]; exact wA_131 V_h (by omega)
        exact ok_rI V_h29 (by omega) (by omega)
    · intro C1
      exfalso; omega
set_option maxRecDepth 4000 in
theorem vj_X11_areKindsThere_133 {nn : Nat} (hn : 1000000 ≤ nn) {qkk_68 : Int → Int → ms_M → Option (Int × ms_M)} {K_kk_68 : Int} {qkk_108 : Int → Int → Int → Int → ms_M → Option (Int × ms_M)} {K_kk_108 : Int} (hk_kk_68 : ∀ {l1 : Int} {l2 : Int} {h : ms_M} (a_l1 : 0 ≤ l1) (b_l1 : l1 ≤ 1) (a_l2 : 0 ≤ l2) (b_l2 : l2 ≤ 12) (V_h : VS_ h) (_ : 13 - l2 < K_kk_68), Ok_ (qkk_68 l1 l2 h) (QI_ 0 1)) (hk_kk_108 : ∀ {l1 : Int} {l2 : Int} {l3 : Int} {l4 : Int} {h : ms_M} (a_l1 : 0 ≤ l1) (b_l1 : l1 ≤ 1) (a_l2 : 0 ≤ l2) (b_l2 : l2 ≤ 11) (a_l3 : 0 ≤ l3) (b_l3 : l3 ≤ 6) (a_l4 : 0 ≤ l4) (b_l4 : l4 ≤ 7) (V_h : VS_ h) (_ : 13 - l2 + 0 ≤ K_kk_68) (_ : 8 - l4 < K_kk_108), Ok_ (qkk_108 l1 l2 l3 l4 h) (QI_ 0 1)) {l2 : Int} {l3 : Int} {l4 : Int} {h : ms_M} (a_l2 : 0 ≤ l2) (b_l2 : l2 ≤ 11) (a_l3 : 0 ≤ l3) (b_l3 : l3 ≤ 6) (a_l4 : 0 ≤ l4) (b_l4 : l4 ≤ 6) (V_h : VS_ h) (hm_kk_68 : 13 - l2 + 0 ≤ K_kk_68) (hm_kk_108 : 8 - l4 + 0 ≤ K_kk_108) : Ok_ (qj_X11_areKindsThere_133 nn qkk_68 qkk_108 l2 l3 l4 h) (QI_ 0 1) := by
  unfold qj_X11_areKindsThere_133
  refine ok_add (by omega) ?_; intro v1 e_v1
  exact hk_kk_108 (by omega) (by omega) (by omega) (by omega) (by omega) (by omega) (by omega) (by omega) V_h (by omega) (by omega)
set_option maxRecDepth 4000 in
theorem vw_X11_areKindsThere_108 {nn : Nat} (hn : 1000000 ≤ nn) {qkk_68 : Int → Int → ms_M → Option (Int × ms_M)} {K_kk_68 : Int} (hk_kk_68 : ∀ {l1 : Int} {l2 : Int} {h : ms_M} (a_l1 : 0 ≤ l1) (b_l1 : l1 ≤ 1) (a_l2 : 0 ≤ l2) (b_l2 : l2 ≤ 12) (V_h : VS_ h) (_ : 13 - l2 < K_kk_68), Ok_ (qkk_68 l1 l2 h) (QI_ 0 1)) : ∀ (k : Nat) {l1 : Int} {l2 : Int} {l3 : Int} {l4 : Int} {h : ms_M} (a_l1 : 0 ≤ l1) (b_l1 : l1 ≤ 1) (a_l2 : 0 ≤ l2) (b_l2 : l2 ≤ 11) (a_l3 : 0 ≤ l3) (b_l3 : l3 ≤ 6) (a_l4 : 0 ≤ l4) (b_l4 : l4 ≤ 7) (V_h : VS_ h) (hm_kk_68 : 13 - l2 + 0 ≤ K_kk_68) (hm : 8 - l4 < (k : Int)), Ok_ (qw_X11_areKindsThere_108 nn qkk_68 k l1 l2 l3 l4 h) (QI_ 0 1) := by
  intro k
  induction k with
  | zero => intros; exfalso; omega
  | succ k ih =>
    intro l1 l2 l3 l4 h a_l1 b_l1 a_l2 b_l2 a_l3 b_l3 a_l4 b_l4 V_h hm_kk_68 hm
    unfold qw_X11_areKindsThere_108
    refine ok_if ?_ ?_
    · intro C0
      refine ok_add (by omega) ?_; intro v2 e_v2
      exact hk_kk_68 (by omega) (by omega) (by omega) (by omega) V_h (by omega)
    · intro C0
      refine ok_if ?_ ?_
      · intro C1
        exact vj_X11_areKindsThere_133 hn hk_kk_68 ih (by omega) (by omega) (by omega) (by omega) (by omega) (by omega) V_h (by omega) (by omega)
      · intro C1
        refine ok_rd (by omega) (gA_131 V_h) ?_; intro v4 e_v4 a_v4 b_v4
        refine ok_if ?_ ?_
        · intro C2
          exact vj_X11_areKindsThere_133 hn hk_kk_68 ih (by omega) (by omega) (by omega) (by omega) (by omega) (by omega) V_h (by omega) (by omega)
        · intro C2
          refine ok_add (by omega) ?_; intro v5 e_v5
          exact ih (by omega) (by omega) (by omega) (by omega) (by omega) (by omega) (by omega) (by omega) V_h (by omega) (by omega)
set_option maxRecDepth 4000 in
theorem vw_X11_areKindsThere_68 {nn : Nat} (hn : 1000000 ≤ nn) : ∀ (k : Nat) {l1 : Int} {l2 : Int} {h : ms_M} (a_l1 : 0 ≤ l1) (b_l1 : l1 ≤ 1) (a_l2 : 0 ≤ l2) (b_l2 : l2 ≤ 12) (V_h : VS_ h)  (hm : 13 - l2 < (k : Int)), Ok_ (qw_X11_areKindsThere_68 nn k l1 l2 h) (QI_ 0 1) := by
  intro k
  induction k with
  | zero => intros; exfalso; omega
  | succ k ih =>
    intro l1 l2 h a_l1 b_l1 a_l2 b_l2 V_h hm
    unfold qw_X11_areKindsThere_68
    refine ok_ck (vi_r V_h).2.1.1 ?_
    have hb1 : kc_O (h 127 5).toNat = 3 := (vi_r V_h).2.1.2
    refine ok_ck hb1 ?_
    have T1 := gI_12 V_h hb1
    refine ok_if ?_ ?_
    · intro C1
      refine ok_ck (by omega) ?_
      exact ok_rI V_h (by omega) (by omega)
    · intro C1
      refine ok_ck (vi_r V_h).2.1.1 ?_
      refine ok_ck (vi_r V_h).2.1.1 ?_
      refine ok_cP (vf_X3_of hn hb1 (by omega) (by omega) (by omega) (by omega) V_h) ?_; intro u16 e_u16 a_u16 b_u16
      refine ok_cI (vf_X7_readKind hn hb1 (by omega) (by omega) (by omega) (by omega) V_h) ?_; intro u19 E_u19 V_u19 a_u19 b_u19
      exact vw_X11_areKindsThere_108 hn ih _ (by omega) (by omega) (by omega) (by omega) (by omega) (by omega) (by omega) (by omega) V_u19 (by omega) (by omega)
set_option maxRecDepth 4000 in
theorem vj_X11_areKindsThere_58 {nn : Nat} (hn : 1000000 ≤ nn) {qkk_4 : Int → Int → ms_M → Option (Int × ms_M)} {K_kk_4 : Int} (hk_kk_4 : ∀ {l1 : Int} {l2 : Int} {h : ms_M} (a_l1 : 0 ≤ l1) (b_l1 : l1 ≤ 1) (a_l2 : 0 ≤ l2) (b_l2 : l2 ≤ 12) (V_h : VS_ h) (_ : 13 - l2 < K_kk_4), Ok_ (qkk_4 l1 l2 h) (QI_ 0 1)) {l2 : Int} {h : ms_M} (a_l2 : 0 ≤ l2) (b_l2 : l2 ≤ 11) (V_h : VS_ h) (hm_kk_4 : 13 - l2 + 0 ≤ K_kk_4) : Ok_ (qj_X11_areKindsThere_58 nn qkk_4 l2 h) (QI_ 0 1) := by
  unfold qj_X11_areKindsThere_58
  refine ok_add (by omega) ?_; intro v21 e_v21
  exact hk_kk_4 (by omega) (by omega) (by omega) (by omega) V_h (by omega)
set_option maxRecDepth 4000 in
theorem vw_X11_areKindsThere_4 {nn : Nat} (hn : 1000000 ≤ nn) : ∀ (k : Nat) {l1 : Int} {l2 : Int} {h : ms_M} (a_l1 : 0 ≤ l1) (b_l1 : l1 ≤ 1) (a_l2 : 0 ≤ l2) (b_l2 : l2 ≤ 12) (V_h : VS_ h)  (hm : 13 - l2 < (k : Int)), Ok_ (qw_X11_areKindsThere_4 nn k l1 l2 h) (QI_ 0 1) := by
  intro k
  induction k with
  | zero => intros; exfalso; omega
  | succ k ih =>
    intro l1 l2 h a_l1 b_l1 a_l2 b_l2 V_h hm
    unfold qw_X11_areKindsThere_4
    refine ok_ck (vi_r V_h).2.1.1 ?_
    have hb1 : kc_O (h 127 5).toNat = 3 := (vi_r V_h).2.1.2
    refine ok_ck hb1 ?_
    have T1 := gI_10 V_h hb1
    refine ok_if ?_ ?_
    · intro C1
      exact vw_X11_areKindsThere_68 hn _ (by omega) (by omega) (by omega) (by omega) V_h (by omega)
    · intro C1
      refine ok_ck (vi_r V_h).2.1.1 ?_
      refine ok_ck (vi_r V_h).2.1.1 ?_
      refine ok_cP (vf_X3_fieldKind hn hb1 (by omega) (by omega) V_h) ?_; intro u28 e_u28 a_u28 b_u28
      refine ok_cI (vf_X7_readKind hn hb1 (by omega) (by omega) (by omega) (by omega) V_h) ?_; intro u31 E_u31 V_u31 a_u31 b_u31
      refine ok_if ?_ ?_
      · intro C2
        exact vj_X11_areKindsThere_58 hn ih (by omega) (by omega) V_u31 (by omega)
      · intro C2
        refine ok_rd (by omega) (gA_131 V_u31) ?_; intro v33 e_v33 a_v33 b_v33
        refine ok_if ?_ ?_
        · intro C3
          exact vj_X11_areKindsThere_58 hn ih (by omega) (by omega) V_u31 (by omega)
        · intro C3
          refine ok_add (by omega) ?_; intro v34 e_v34
          exact ih (by omega) (by omega) (by omega) (by omega) V_u31 (by omega)
set_option maxRecDepth 4000 in
theorem vf_X11_areKindsThere {nn : Nat} (hn : 1000000 ≤ nn) {h : ms_M} (V_h : VS_ h)  : Ok_ (qf_X11_areKindsThere nn h) (QI_ 0 1) := by
  unfold qf_X11_areKindsThere
  exact vw_X11_areKindsThere_4 hn _ (by omega) (by omega) (by omega) (by omega) V_h (by omega)
set_option maxRecDepth 4000 in
theorem vf_X7_numberOf {nn : Nat} (hn : 1000000 ≤ nn) {a1 : Int} {a2 : Int} {h : ms_M} (a_a1 : 8 ≤ a1) (b_a1 : a1 ≤ 15) (a_a2 : 0 ≤ a2) (b_a2 : a2 ≤ 11) (V_h : VS_ h)  : Ok_ (qf_X7_numberOf nn a1 a2 h) (QP_ 0 95) := by
  unfold qf_X7_numberOf
  refine ok_sub (by omega) ?_; intro v1 e_v1
  refine ok_mul (by omega) ?_; intro v2 e_v2
  refine ok_add (by omega) ?_; intro v3 e_v3
  exact ok_rP (by omega) (by omega)
set_option maxRecDepth 4000 in
theorem vw_X7_methodOf_31 {nn : Nat} (hn : 1000000 ≤ nn) {qkk_6 : Nat → Int → Int → Int → ms_M → Option Int} {K_kk_6 : Int} (hk_kk_6 : ∀ {l2 : Nat} {l3 : Int} {l4 : Int} {l5 : Int} {h : ms_M} (i_l2 : kc_O l2 = 3) (a_l3 : (-1) ≤ l3) (b_l3 : l3 ≤ 65535) (a_l4 : (-1) ≤ l4) (b_l4 : l4 ≤ 341) (a_l5 : 0 ≤ l5) (b_l5 : l5 ≤ 16) (V_h : VS_ h) (_ : 17 - l5 < K_kk_6), Ok_ (qkk_6 l2 l3 l4 l5 h) (QP_ (-1) 95)) : ∀ (k : Nat) {l2 : Nat} {l3 : Int} {l4 : Int} {l5 : Int} {l6 : Int} {l7 : Int} {h : ms_M} (i_l2 : kc_O l2 = 3) (a_l3 : (-1) ≤ l3) (b_l3 : l3 ≤ 65535) (a_l4 : 8 ≤ l4) (b_l4 : l4 ≤ 15) (a_l5 : 0 ≤ l5) (b_l5 : l5 ≤ 15) (n_l6 : 0 ≤ l6) (k_l6 : kc_O (l6).toNat = 3) (a_l7 : 0 ≤ l7) (b_l7 : l7 ≤ 12) (V_h : VS_ h) (hm_kk_6 : 17 - l5 + 0 ≤ K_kk_6) (hm : 13 - l7 < (k : Int)), Ok_ (qw_X7_methodOf_31 nn qkk_6 k l2 l3 l4 l5 l6 l7 h) (QP_ (-1) 95) := by
  intro k
  induction k with
  | zero => intros; exfalso; omega
  | succ k ih =>
    intro l2 l3 l4 l5 l6 l7 h i_l2 a_l3 b_l3 a_l4 b_l4 a_l5 b_l5 n_l6 k_l6 a_l7 b_l7 V_h hm_kk_6 hm
    unfold qw_X7_methodOf_31
    refine ok_ck n_l6 ?_
    have hb1 : kc_O (l6).toNat = 3 := k_l6
    refine ok_ck hb1 ?_
    have T1 := gI_12 V_h hb1
    refine ok_if ?_ ?_
    · intro C1
      refine ok_cP (vf_X4_above hn rfl (by omega) (by omega) V_h) ?_; intro u5 e_u5 a_u5 b_u5
      refine ok_add (by omega) ?_; intro v6 e_v6
      exact hk_kk_6 i_l2 (by omega) (by omega) (by omega) (by omega) (by omega) (by omega) V_h (by omega)
    · intro C1
      refine ok_cP (vf_X3_of hn hb1 (by omega) (by omega) (by omega) (by omega) V_h) ?_; intro u8 e_u8 a_u8 b_u8
      refine ok_cP (vf_X3_sameText hn hb1 (by omega) (by omega) i_l2 (by omega) (by omega) V_h) ?_; intro u10 e_u10 a_u10 b_u10
      refine ok_if ?_ ?_
      · intro C2
        refine ok_add (by omega) ?_; intro v11 e_v11
        exact ih i_l2 (by omega) (by omega) (by omega) (by omega) (by omega) (by omega) (by omega) hb1 (by omega) (by omega) V_h (by omega) (by omega)
      · intro C2
        refine ok_cP (vf_X7_numberOf hn (by omega) (by omega) (by omega) (by omega) V_h) ?_; intro u13 e_u13 a_u13 b_u13
        exact ok_rP (by omega) (by omega)
set_option maxRecDepth 4000 in
theorem vw_X7_methodOf_6 {nn : Nat} (hn : 1000000 ≤ nn) : ∀ (k : Nat) {l2 : Nat} {l3 : Int} {l4 : Int} {l5 : Int} {h : ms_M} (i_l2 : kc_O l2 = 3) (a_l3 : (-1) ≤ l3) (b_l3 : l3 ≤ 65535) (a_l4 : (-1) ≤ l4) (b_l4 : l4 ≤ 341) (a_l5 : 0 ≤ l5) (b_l5 : l5 ≤ 16) (V_h : VS_ h)  (hm : 17 - l5 < (k : Int)), Ok_ (qw_X7_methodOf_6 nn k l2 l3 l4 l5 h) (QP_ (-1) 95) := by
  intro k
  induction k with
  | zero => intros; exfalso; omega
  | succ k ih =>
    intro l2 l3 l4 l5 h i_l2 a_l3 b_l3 a_l4 b_l4 a_l5 b_l5 V_h hm
    unfold qw_X7_methodOf_6
    refine ok_if ?_ ?_
    · intro C0
      exact ok_rP (by omega) (by omega)
    · intro C0
      refine ok_cO (vf_X7_imageOf hn (by omega) (by omega) V_h) ?_; intro u17 e_u17 o_u17
      have T2 := po_X7_imageOf V_h e_u17
      refine ok_if ?_ ?_
      · intro C2
        exact ok_rP (by omega) (by omega)
      · intro C2
        exact vw_X7_methodOf_31 hn ih _ i_l2 (by omega) (by omega) (by omega) (by omega) (by omega) (by omega) (by omega) (o_u17.resolve_left C2) (by omega) (by omega) V_h (by omega) (by omega)
set_option maxRecDepth 4000 in
theorem vf_X7_methodOf {nn : Nat} (hn : 1000000 ≤ nn) {a1 : Int} {a2 : Nat} {a3 : Int} {h : ms_M} (a_a1 : (-1) ≤ a1) (b_a1 : a1 ≤ 341) (i_a2 : kc_O a2 = 3) (a_a3 : (-1) ≤ a3) (b_a3 : a3 ≤ 65535) (V_h : VS_ h)  : Ok_ (qf_X7_methodOf nn a1 a2 a3 h) (QP_ (-1) 95) := by
  unfold qf_X7_methodOf
  exact vw_X7_methodOf_6 hn _ i_a2 (by omega) (by omega) (by omega) (by omega) (by omega) (by omega) V_h (by omega)
