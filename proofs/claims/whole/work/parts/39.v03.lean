set_option maxRecDepth 4000 in
theorem vj_X5_stepLocal_37 {nn : Nat} (hn : 1000000 ≤ nn) {l3 : Int} {h : ms_M} (a_l3 : 0 ≤ l3) (b_l3 : l3 ≤ 1799) (V_h : VS_ h)  : Ok_ (qj_X5_stepLocal_37 nn l3 h) QV_ := by
  unfold qj_X5_stepLocal_37
  refine ok_rd (by omega) (gA_151 V_h) ?_; intro v2 e_v2 a_v2 b_v2
  refine ok_cV (vf_X5_give hn (by omega) (by omega) (by omega) (by omega) V_h) ?_; intro u4 E_u4 V_u4
  exact ok_rV V_u4
set_option maxRecDepth 4000 in
theorem vf_X5_stepLocal {nn : Nat} (hn : 1000000 ≤ nn) {a1 : Int} {a2 : Int} {h : ms_M} (a_a1 : 21 ≤ a1) (b_a1 : a1 ≤ 58) (a_a2 : 0 ≤ a2) (b_a2 : a2 ≤ 255) (V_h : VS_ h)  : Ok_ (qf_X5_stepLocal nn a1 a2 h) QV_ := by
  unfold qf_X5_stepLocal
  have T1 := gF_143_17 V_h
  refine ok_mul (by omega) ?_; intro v6 e_v6
  refine ok_add (by omega) ?_; intro v7 e_v7
  refine ok_if ?_ ?_
  · intro C1
    refine ok_if ?_ ?_
    · intro C2
      exact vj_X5_stepLocal_37 hn (by omega) (by omega) V_h
    · intro C2
      refine ok_if ?_ ?_
      · intro C3
        refine ok_cI (vf_X5_pop hn V_h) ?_; intro u10 E_u10 V_u10 a_u10 b_u10
        refine ok_wA (by omega) ?_; intro h11 E_h11; have V_h11 : VS_ h11 := by rw [E_h11]; exact wA_151 V_u10 (by omega)
        refine ok_cV (vf_X5_goOn hn (by omega) (by omega) V_h11) ?_; intro u13 E_u13 V_u13
        exact ok_rV V_u13
      · intro C3
        exact vj_X5_stepLocal_37 hn (by omega) (by omega) V_h
  · intro C1
    refine ok_xl ?_; intro h16 E_h16; have V_h16 : VS_ h16 := by rw [E_h16]; exact wF_143_1 V_h (by omega)
    exact ok_rV V_h16
set_option maxRecDepth 4000 in
theorem vf_X5_giveNew {nn : Nat} (hn : 1000000 ≤ nn) {a1 : Int} {a2 : Int} {h : ms_M} (a_a1 : (-2147483648) ≤ a1) (b_a1 : a1 ≤ 2147483647) (a_a2 : 0 ≤ a2) (b_a2 : a2 ≤ 2147483647) (V_h : VS_ h)  : Ok_ (qf_X5_giveNew nn a1 a2 h) QV_ := by
  unfold qf_X5_giveNew
  refine ok_cI (vf_X5_make hn (by omega) (by omega) (by omega) (by omega) V_h) ?_; intro u2 E_u2 V_u2 a_u2 b_u2
  refine ok_if ?_ ?_
  · intro C0
    exact ok_rV V_u2
  · intro C0
    refine ok_cV (vf_X5_give hn (by omega) (by omega) (by omega) (by omega) V_u2) ?_; intro u4 E_u4 V_u4
    exact ok_rV V_u4
set_option maxRecDepth 4000 in
theorem vf_X3_of {nn : Nat} (hn : 1000000 ≤ nn) {a0 : Nat} {a1 : Int} {a2 : Int} {h : ms_M} (hb_a0 : kc_O a0 = 3) (a_a1 : (-11) ≤ a1) (b_a1 : a1 ≤ 12) (a_a2 : 0 ≤ a2) (b_a2 : a2 ≤ 11) (V_h : VS_ h)  : Ok_ (qf_X3_of nn a0 a1 a2 h) (QP_ (-1) 65535) := by
  unfold qf_X3_of
  refine ok_mul (by omega) ?_; intro v1 e_v1
  refine ok_add (by omega) ?_; intro v2 e_v2
  refine ok_if ?_ ?_
  · intro C0
    exact ok_rP (by omega) (by omega)
  · intro C0
    have T2 := gI_12 V_h hb_a0
    refine ok_if ?_ ?_
    · intro C2
      exact ok_rP (by omega) (by omega)
    · intro C2
      refine ok_if ?_ ?_
      · intro C3
        exact ok_rP (by omega) (by omega)
      · intro C3
        refine ok_rd (by omega) (gIA_6 V_h hb_a0) ?_; intro v7 e_v7 a_v7 b_v7
        exact ok_rP (by omega) (by omega)
set_option maxRecDepth 4000 in
theorem vf_X7_imageOfMember {nn : Nat} (hn : 1000000 ≤ nn) {a1 : Int} {h : ms_M} (a_a1 : (-2147483648) ≤ a1) (b_a1 : a1 ≤ 2147483647) (V_h : VS_ h)  : Ok_ (qf_X7_imageOfMember nn a1 h) QO_ := by
  unfold qf_X7_imageOfMember
  refine ok_if ?_ ?_
  · intro C0
    exact ok_rOn
  · intro C0
    have T2 := gF_56_3 V_h
    refine ok_mul (by omega) ?_; intro v2 e_v2
    refine ok_if ?_ ?_
    · intro C2
      exact ok_rOn
    · intro C2
      refine ok_div (n := 12) (by omega) ?_; intro v4 e_v4
      refine ok_rd60 V_h (by omega) ?_; intro v5 n_v5 k_v5
      exact ok_rOo k_v5
set_option maxRecDepth 4000 in
theorem vf_X5_takeTop {nn : Nat} (hn : 1000000 ≤ nn) {h : ms_M} (V_h : VS_ h)  : Ok_ (qf_X5_takeTop nn h) QV_ := by
  unfold qf_X5_takeTop
  have T1 := gF_143_6 V_h
  refine ok_sub (by omega) ?_; intro v2 e_v2
  refine ok_xl ?_; intro v3 e_v3
  refine ok_xl ?_; intro h4 E_h4; have V_h4 : VS_ h4 := by rw [E_h4]; exact wF_143_17 V_h (by omega)
  have T2 : h4 143 17 = v3 := by rw [E_h4]; exact up_s
  refine ok_rd (by omega) (gA_148 V_h4) ?_; intro v8 e_v8 a_v8 b_v8
  refine ok_cO (vf_X7_imageOfMember hn (by omega) (by omega) V_h4) ?_; intro u10 e_u10 o_u10
  refine ok_if ?_ ?_
  · intro C2
    refine ok_xl ?_; intro h13 E_h13; have V_h13 : VS_ h13 := by rw [E_h13]; exact wF_143_1 V_h4 (by omega)
    exact ok_rV V_h13
  · intro C2
    refine ok_wR V_h4 (by decide) (by omega) (o_u10.resolve_left C2) ?_; intro h14 E_h14 V_h14
    have T4 : h14 143 17 = h4 143 17 := by rw [E_h14]; exact up_n (by decide)
    refine ok_ck (vi_r V_h14).2.2.1 ?_
    refine ok_rd (by omega) (gA_148 V_h14) ?_; intro v18 e_v18 a_v18 b_v18
    refine ok_remT (n := 12) (by decide) ?_; intro v19 a_v19 b_v19
    have hb1 : kc_O (h14 143 18).toNat = 3 := (vi_r V_h14).2.2.2
    refine ok_ck hb1 ?_
    refine ok_cP (vf_X3_of hn hb1 (by omega) (by omega) (by omega) (by omega) V_h14) ?_; intro u21 e_u21 a_u21 b_u21
    refine ok_xl ?_; intro h22 E_h22; have V_h22 : VS_ h22 := by rw [E_h22]; exact wF_143_19 V_h14 (by omega)
    exact ok_rV V_h22
set_option maxRecDepth 4000 in
theorem vf_X5_isObject {nn : Nat} (hn : 1000000 ≤ nn) {a1 : Int} {h : ms_M} (a_a1 : (-2147483648) ≤ a1) (b_a1 : a1 ≤ 2147483647) (V_h : VS_ h)  : Ok_ (qf_X5_isObject nn a1 h) (QP_ 0 1) := by
  unfold qf_X5_isObject
  refine ok_if ?_ ?_
  · intro C0
    exact ok_rP (by omega) (by omega)
  · intro C0
    have T2 := gF_143_4 V_h
    refine ok_if ?_ ?_
    · intro C2
      exact ok_rP (by omega) (by omega)
    · intro C2
      refine ok_if ?_ ?_
      · intro C3
        exfalso; omega
      · intro C3
        exact ok_rP (by omega) (by omega)
set_option maxRecDepth 4000 in
theorem vf_X7_nearestTo {nn : Nat} (hn : 1000000 ≤ nn) {a1 : Int} {a2 : Int} {h : ms_M} (a_a1 : (-2147483648) ≤ a1) (b_a1 : a1 ≤ 2147483647) (a_a2 : (-2147483648) ≤ a2) (b_a2 : a2 ≤ 2147483647) (V_h : VS_ h)  : Ok_ (qf_X7_nearestTo nn a1 a2 h) (QP_ (-2147483648) 2147483647) := by
  unfold qf_X7_nearestTo
  refine ok_subW (by omega) ?_; intro v1 a_v1 b_v1 w_v1
  refine ok_if ?_ ?_
  · intro C0
    exact ok_rP (by omega) (by omega)
  · intro C0
    refine ok_if ?_ ?_
    · intro C1
      exact ok_rP (by omega) (by omega)
    · intro C1
      refine ok_if ?_ ?_
      · intro C2
        exact ok_rP (by omega) (by omega)
      · intro C2
        refine ok_if ?_ ?_
        · intro C3
          exact ok_rP (by omega) (by omega)
        · intro C3
          refine ok_mul (by omega) ?_; intro v3 e_v3
          refine ok_add (by omega) ?_; intro v4 e_v4
          refine ok_rd (by omega) (gA_70 V_h) ?_; intro v5 e_v5 a_v5 b_v5
          exact ok_rP (by omega) (by omega)
set_option maxRecDepth 4000 in
theorem vj_X5_cellOf_39 {nn : Nat} (hn : 1000000 ≤ nn) {h : ms_M} (V_h : VS_ h)  : Ok_ (qj_X5_cellOf_39 nn h) (QI_ (-1) 39999) := by
  unfold qj_X5_cellOf_39
  refine ok_xl ?_; intro h1 E_h1; have V_h1 : VS_ h1 := by rw [E_h1]; exact wF_143_20 V_h (by omega)
  exact ok_rI V_h1 (by omega) (by omega)
set_option maxRecDepth 4000 in
theorem vf_X5_cellOf {nn : Nat} (hn : 1000000 ≤ nn) {a1 : Int} {a2 : Int} {h : ms_M} (a_a1 : (-2147483648) ≤ a1) (b_a1 : a1 ≤ 2147483647) (a_a2 : (-2147483648) ≤ a2) (b_a2 : a2 ≤ 2147483647) (V_h : VS_ h)  : Ok_ (qf_X5_cellOf nn a1 a2 h) (QI_ (-1) 39999) := by
  unfold qf_X5_cellOf
  refine ok_cP (vf_X5_isObject hn (by omega) (by omega) V_h) ?_; intro u3 e_u3 a_u3 b_u3
  have T1 := pr_X5_isObject e_u3
  refine ok_if ?_ ?_
  · intro C1
    refine ok_if ?_ ?_
    · intro C2
      exact vj_X5_cellOf_39 hn V_h
    · intro C2
      refine ok_add (by omega) ?_; intro v5 e_v5
      refine ok_rd (by omega) (gA_146 V_h) ?_; intro v6 e_v6 a_v6 b_v6
      refine ok_rd (by omega) (gA_146 V_h) ?_; intro v8 e_v8 a_v8 b_v8
      refine ok_sub (by omega) ?_; intro v9 e_v9
      refine ok_if ?_ ?_
      · intro C3
        refine ok_rd (by omega) (gA_146 V_h) ?_; intro v11 e_v11 a_v11 b_v11
        refine ok_add (by omega) ?_; intro v12 e_v12
        exact ok_rI V_h (by omega) (by omega)
      · intro C3
        exact vj_X5_cellOf_39 hn V_h
  · intro C1
    refine ok_xl ?_; intro h15 E_h15; have V_h15 : VS_ h15 := by rw [E_h15]; exact wF_143_20 V_h (by omega)
    exact ok_rI V_h15 (by omega) (by omega)
set_option maxRecDepth 4000 in
theorem vf_X5_stepElement {nn : Nat} (hn : 1000000 ≤ nn) {h : ms_M} (V_h : VS_ h)  : Ok_ (qf_X5_stepElement nn h) QV_ := by
  unfold qf_X5_stepElement
  refine ok_cI (vf_X5_pop hn V_h) ?_; intro u2 E_u2 V_u2 a_u2 b_u2
  refine ok_cI (vf_X5_pop hn V_u2) ?_; intro u4 E_u4 V_u4 a_u4 b_u4
  refine ok_cI (vf_X5_cellOf hn (by omega) (by omega) (by omega) (by omega) V_u4) ?_; intro u6 E_u6 V_u6 a_u6 b_u6
  refine ok_if ?_ ?_
  · intro C0
    exact ok_rV V_u6
  · intro C0
    refine ok_if ?_ ?_
    · intro C1
      exact ok_rV V_u6
    · intro C1
      refine ok_rd (by omega) (gA_147 V_u6) ?_; intro v8 e_v8 a_v8 b_v8
      refine ok_cV (vf_X5_give hn (by omega) (by omega) (by omega) (by omega) V_u6) ?_; intro u10 E_u10 V_u10
      exact ok_rV V_u10
set_option maxRecDepth 4000 in
theorem vj_X5_fieldCell_20 {nn : Nat} (hn : 1000000 ≤ nn) {l2 : Int} {s0 : Int} {h : ms_M} (a_l2 : (-2147483648) ≤ l2) (b_l2 : l2 ≤ 2147483647) (a_s0 : (-2147483648) ≤ s0) (b_s0 : s0 ≤ 2147483647) (V_h : VS_ h)  : Ok_ (qj_X5_fieldCell_20 nn l2 s0 h) (QP_ (-2147483648) 19999) := by
  unfold qj_X5_fieldCell_20
  refine ok_if ?_ ?_
  · intro C0
    exact ok_rP (by omega) (by omega)
  · intro C0
    refine ok_if ?_ ?_
    · intro C1
      exact ok_rP (by omega) (by omega)
    · intro C1
      exact ok_rP (by omega) (by omega)
set_option maxRecDepth 4000 in
theorem vf_X5_fieldCell {nn : Nat} (hn : 1000000 ≤ nn) {a1 : Int} {a2 : Int} {h : ms_M} (a_a1 : (-2147483648) ≤ a1) (b_a1 : a1 ≤ 2147483647) (a_a2 : (-2147483648) ≤ a2) (b_a2 : a2 ≤ 2147483647) (V_h : VS_ h)  : Ok_ (qf_X5_fieldCell nn a1 a2 h) (QP_ (-2147483648) 19999) := by
  unfold qf_X5_fieldCell
  refine ok_cP (vf_X5_isObject hn (by omega) (by omega) V_h) ?_; intro u4 e_u4 a_u4 b_u4
  have T1 := pr_X5_isObject e_u4
  refine ok_if ?_ ?_
  · intro C1
    exact vj_X5_fieldCell_20 hn (by omega) (by omega) (by omega) (by omega) V_h
  · intro C1
    refine ok_rd (by omega) (gA_146 V_h) ?_; intro v6 e_v6 a_v6 b_v6
    refine ok_addW (by omega) ?_; intro v7 a_v7 b_v7 w_v7
    exact vj_X5_fieldCell_20 hn (by omega) (by omega) (by omega) (by omega) V_h
set_option maxRecDepth 4000 in
theorem vf_X5_stepLength {nn : Nat} (hn : 1000000 ≤ nn) {h : ms_M} (V_h : VS_ h)  : Ok_ (qf_X5_stepLength nn h) QV_ := by
  unfold qf_X5_stepLength
  refine ok_cI (vf_X5_pop hn V_h) ?_; intro u2 E_u2 V_u2 a_u2 b_u2
  refine ok_cP (vf_X5_isObject hn (by omega) (by omega) V_u2) ?_; intro u4 e_u4 a_u4 b_u4
  have T1 := pr_X5_isObject e_u4
  refine ok_if ?_ ?_
  · intro C1
    refine ok_xl ?_; intro h5 E_h5; have V_h5 : VS_ h5 := by rw [E_h5]; exact wF_143_20 V_u2 (by omega)
    exact ok_rV V_h5
  · intro C1
    refine ok_add (by omega) ?_; intro v7 e_v7
    refine ok_rd (by omega) (gA_146 V_u2) ?_; intro v8 e_v8 a_v8 b_v8
    refine ok_rd (by omega) (gA_146 V_u2) ?_; intro v10 e_v10 a_v10 b_v10
    refine ok_sub (by omega) ?_; intro v11 e_v11
    refine ok_cV (vf_X5_give hn (by omega) (by omega) (by omega) (by omega) V_u2) ?_; intro u13 E_u13 V_u13
    exact ok_rV V_u13
set_option maxRecDepth 4000 in
theorem vf_X5_stepNewArray {nn : Nat} (hn : 1000000 ≤ nn) {a1 : Int} {h : ms_M} (a_a1 : (-2147483648) ≤ a1) (b_a1 : a1 ≤ 2147483647) (V_h : VS_ h)  : Ok_ (qf_X5_stepNewArray nn a1 h) QV_ := by
  unfold qf_X5_stepNewArray
  refine ok_cI (vf_X5_pop hn V_h) ?_; intro u2 E_u2 V_u2 a_u2 b_u2
  refine ok_if ?_ ?_
  · intro C0
    refine ok_cV (vf_X5_giveNew hn (by omega) (by omega) (by omega) (by omega) V_u2) ?_; intro u4 E_u4 V_u4
    exact ok_rV V_u4
  · intro C0
    refine ok_xl ?_; intro h5 E_h5; have V_h5 : VS_ h5 := by rw [E_h5]; exact wF_143_20 V_u2 (by omega)
    exact ok_rV V_h5
set_option maxRecDepth 4000 in
theorem vf_X5_stepThrow {nn : Nat} (hn : 1000000 ≤ nn) {h : ms_M} (V_h : VS_ h)  : Ok_ (qf_X5_stepThrow nn h) QV_ := by
  unfold qf_X5_stepThrow
  refine ok_cI (vf_X5_pop hn V_h) ?_; intro u2 E_u2 V_u2 a_u2 b_u2
  refine ok_if ?_ ?_
  · intro C0
    refine ok_xl ?_; intro h3 E_h3; have V_h3 : VS_ h3 := by rw [E_h3]; exact wF_143_20 V_u2 (by omega)
    exact ok_rV V_h3
  · intro C0
    refine ok_xl ?_; intro h4 E_h4; have V_h4 : VS_ h4 := by rw [E_h4]; exact wF_143_20 V_u2 (by omega)
    exact ok_rV V_h4
set_option maxRecDepth 4000 in
theorem vf_X7_cellsOf {nn : Nat} (hn : 1000000 ≤ nn) {a1 : Int} {h : ms_M} (a_a1 : (-2147483648) ≤ a1) (b_a1 : a1 ≤ 2147483647) (V_h : VS_ h)  : Ok_ (qf_X7_cellsOf nn a1 h) (QP_ 0 192) := by
  unfold qf_X7_cellsOf
  refine ok_cP (vf_X4_isClass hn (by omega) (by omega) V_h) ?_; intro u1 e_u1 a_u1 b_u1
  have T1 := pr_X4_isClass e_u1
  refine ok_if ?_ ?_
  · intro C1
    exact ok_rP (by omega) (by omega)
  · intro C1
    refine ok_rd (by omega) (gA_69 V_h) ?_; intro v3 e_v3 a_v3 b_v3
    exact ok_rP (by omega) (by omega)
set_option maxRecDepth 4000 in
theorem vf_X12_type {nn : Nat} (hn : 1000000 ≤ nn) {a1 : Int} {a2 : Int} {h : ms_M} (a_a1 : (-2147483648) ≤ a1) (b_a1 : a1 ≤ 2147483647) (a_a2 : (-2147483648) ≤ a2) (b_a2 : a2 ≤ 2147483647) (V_h : VS_ h)  : Ok_ (qf_X12_type nn a1 a2 h) (QP_ (-1) 6000) := by
  unfold qf_X12_type
  refine ok_if ?_ ?_
  · intro C0
    exact ok_rP (by omega) (by omega)
  · intro C0
    have T2 := gF_56_3 V_h
    refine ok_add (by omega) ?_; intro v3 e_v3
    refine ok_if ?_ ?_
    · intro C2
      refine ok_if ?_ ?_
      · intro C3
        refine ok_cO (vf_X7_imageOf hn (by omega) (by omega) V_h) ?_; intro u6 e_u6 o_u6
        refine ok_if ?_ ?_
        · intro C4
          refine ok_if ?_ ?_
          · intro C5
            exact ok_rP (by omega) (by omega)
          · intro C5
            refine ok_if ?_ ?_
            · intro C6
              exact ok_rP (by omega) (by omega)
            · intro C6
              exact ok_rP (by omega) (by omega)
        · intro C4
          refine ok_if ?_ ?_
          · intro C7
            have hb1 : kc_O (u6).toNat = 3 := (o_u6.resolve_left C4)
            refine ok_ck hb1 ?_
            have T9 := gI_10 V_h hb1
            exact ok_rP (by omega) (by omega)
          · intro C7
            refine ok_if ?_ ?_
            · intro C9
              have hb2 : kc_O (u6).toNat = 3 := (o_u6.resolve_left C4)
              refine ok_ck hb2 ?_
              have T11 := gI_12 V_h hb2
              exact ok_rP (by omega) (by omega)
            · intro C9
              refine ok_if ?_ ?_
              · intro C11
                have hb3 : kc_O (u6).toNat = 3 := (o_u6.resolve_left C4)
                refine ok_ck hb3 ?_
                have T13 := gI_1 V_h hb3
                exact ok_rP (by omega) (by omega)
              · intro C11
                refine ok_if ?_ ?_
                · intro C13
                  have hb4 : kc_O (u6).toNat = 3 := (o_u6.resolve_left C4)
                  refine ok_ck hb4 ?_
                  have T15 := gI_7 V_h hb4
                  exact ok_rP (by omega) (by omega)
                · intro C13
                  exact ok_rP (by omega) (by omega)
      · intro C3
        refine ok_cP (vf_X4_above hn rfl (by omega) (by omega) V_h) ?_; intro u18 e_u18 a_u18 b_u18
        exact ok_rP (by omega) (by omega)
    · intro C2
      exact ok_rP (by omega) (by omega)
set_option maxRecDepth 4000 in
theorem vf_X3_fieldKind {nn : Nat} (hn : 1000000 ≤ nn) {a0 : Nat} {a1 : Int} {h : ms_M} (hb_a0 : kc_O a0 = 3) (a_a1 : (-11) ≤ a1) (b_a1 : a1 ≤ 11) (V_h : VS_ h)  : Ok_ (qf_X3_fieldKind nn a0 a1 h) (QP_ 0 255) := by
  unfold qf_X3_fieldKind
  refine ok_if ?_ ?_
  · intro C0
    exact ok_rP (by omega) (by omega)
  · intro C0
    have T2 := gI_10 V_h hb_a0
    refine ok_if ?_ ?_
    · intro C2
      exact ok_rP (by omega) (by omega)
    · intro C2
      refine ok_mul (by omega) ?_; intro v3 e_v3
      refine ok_add (by omega) ?_; intro v4 e_v4
      refine ok_rd (by omega) (gIA_5 V_h hb_a0) ?_; intro v5 e_v5 a_v5 b_v5
      exact ok_rP (by omega) (by omega)
set_option maxRecDepth 4000 in
theorem vf_X7_numberOf {nn : Nat} (hn : 1000000 ≤ nn) {a1 : Int} {a2 : Int} {h : ms_M} (a_a1 : (-2147483648) ≤ a1) (b_a1 : a1 ≤ 2147483647) (a_a2 : 0 ≤ a2) (b_a2 : a2 ≤ 11) (V_h : VS_ h)  : Ok_ (qf_X7_numberOf nn a1 a2 h) (QP_ (-2147483648) 2147483647) := by
  unfold qf_X7_numberOf
  refine ok_subW (by omega) ?_; intro v1 a_v1 b_v1 w_v1
  refine ok_i32 ?_; intro v2 a_v2 b_v2
  refine ok_addW (by omega) ?_; intro v3 a_v3 b_v3 w_v3
  exact ok_rP (by omega) (by omega)
set_option maxRecDepth 4000 in
theorem vf_X3_fieldName {nn : Nat} (hn : 1000000 ≤ nn) {a0 : Nat} {a1 : Int} {h : ms_M} (hb_a0 : kc_O a0 = 3) (a_a1 : 0 ≤ a1) (b_a1 : a1 ≤ 11) (V_h : VS_ h)  : Ok_ (qf_X3_fieldName nn a0 a1 h) (QP_ 0 255) := by
  unfold qf_X3_fieldName
  refine ok_if ?_ ?_
  · intro C0
    exfalso; omega
  · intro C0
    have T2 := gI_10 V_h hb_a0
    refine ok_if ?_ ?_
    · intro C2
      exact ok_rP (by omega) (by omega)
    · intro C2
      refine ok_mul (by omega) ?_; intro v3 e_v3
      refine ok_rd (by omega) (gIA_5 V_h hb_a0) ?_; intro v4 e_v4 a_v4 b_v4
      exact ok_rP (by omega) (by omega)
set_option maxRecDepth 4000 in
theorem vf_X11_takeImage {nn : Nat} (hn : 1000000 ≤ nn) {a1 : Int} {h : ms_M} (a_a1 : 8 ≤ a1) (b_a1 : a1 ≤ 15) (V_h : VS_ h)  : Ok_ (qf_X11_takeImage nn a1 h) QV_ := by
  unfold qf_X11_takeImage
  refine ok_cO (vf_X7_imageOf hn (by omega) (by omega) V_h) ?_; intro u3 e_u3 o_u3
  refine ok_if ?_ ?_
  · intro C0
    exact ok_rV V_h
  · intro C0
    refine ok_wR V_h (by decide) (by omega) (o_u3.resolve_left C0) ?_; intro h6 E_h6 V_h6
    exact ok_rV V_h6
set_option maxRecDepth 4000 in
theorem vf_X11_tellNumber {nn : Nat} (hn : 1000000 ≤ nn) {a1 : Int} {a2 : Int} {a3 : Int} {a4 : Int} {h : ms_M} (a_a1 : 1 ≤ a1) (b_a1 : a1 ≤ 12) (a_a2 : 8 ≤ a2) (b_a2 : a2 ≤ 15) (a_a3 : (-1) ≤ a3) (b_a3 : a3 ≤ 11) (a_a4 : (-1) ≤ a4) (b_a4 : a4 ≤ 65534) (V_h : VS_ h)  : Ok_ (qf_X11_tellNumber nn a1 a2 a3 a4 h) (QI_ 1 12) := by
  unfold qf_X11_tellNumber
  refine ok_xl ?_; intro h1 E_h1; have V_h1 : VS_ h1 := by rw [E_h1]; exact wF_127_2 V_h (by omega)
  refine ok_xl ?_; intro h2 E_h2; have V_h2 : VS_ h2 := by rw [E_h2]; exact wF_127_3 V_h1 (by omega)
  refine ok_xl ?_; intro h3 E_h3; have V_h3 : VS_ h3 := by rw [E_h3]; exact wF_127_4 V_h2 (by omega)
  exact ok_rI V_h3 (by omega) (by omega)
set_option maxRecDepth 4000 in
theorem vj_X4_endsAbove_33 {nn : Nat} (hn : 1000000 ≤ nn) {l2 : Int} {h : ms_M} (a_l2 : (-1) ≤ l2) (b_l2 : l2 ≤ 341) (V_h : VS_ h)  : Ok_ (qj_X4_endsAbove_33 nn l2 h) (QP_ 0 1) := by
  unfold qj_X4_endsAbove_33
  refine ok_if ?_ ?_
  · intro C0
    exact ok_rP (by omega) (by omega)
  · intro C0
    exact ok_rP (by omega) (by omega)
set_option maxRecDepth 4000 in
theorem vw_X4_endsAbove_4 {nn : Nat} (hn : 1000000 ≤ nn) : ∀ (k : Nat) {l2 : Int} {l3 : Int} {h : ms_M} (a_l2 : (-1) ≤ l2) (b_l2 : l2 ≤ 341) (a_l3 : 0 ≤ l3) (b_l3 : l3 ≤ 17) (V_h : VS_ h)  (hm : 18 - l3 < (k : Int)), Ok_ (qw_X4_endsAbove_4 nn k l2 l3 h) (QP_ 0 1) := by
  intro k
  induction k with
  | zero => intros; exfalso; omega
  | succ k ih =>
    intro l2 l3 h a_l2 b_l2 a_l3 b_l3 V_h hm
    unfold qw_X4_endsAbove_4
    refine ok_if ?_ ?_
    · intro C0
      exact vj_X4_endsAbove_33 hn (by omega) (by omega) V_h
    · intro C0
      refine ok_if ?_ ?_
      · intro C1
        exact vj_X4_endsAbove_33 hn (by omega) (by omega) V_h
      · intro C1
        refine ok_if ?_ ?_
        · intro C2
          exact vj_X4_endsAbove_33 hn (by omega) (by omega) V_h
        · intro C2
          refine ok_rd (by omega) (gA_58 V_h) ?_; intro v3 e_v3 a_v3 b_v3
          refine ok_add (by omega) ?_; intro v4 e_v4
          exact ih (by omega) (by omega) (by omega) (by omega) V_h (by omega)
set_option maxRecDepth 4000 in
theorem vf_X4_endsAbove {nn : Nat} (hn : 1000000 ≤ nn) {a1 : Int} {h : ms_M} (a_a1 : 8 ≤ a1) (b_a1 : a1 ≤ 15) (V_h : VS_ h)  : Ok_ (qf_X4_endsAbove nn a1 h) (QP_ 0 1) := by
  unfold qf_X4_endsAbove
  exact vw_X4_endsAbove_4 hn _ (by omega) (by omega) (by omega) (by omega) V_h (by omega)
set_option maxRecDepth 4000 in
theorem vf_X11_info {nn : Nat} (hn : 1000000 ≤ nn) {a1 : Int} {h : ms_M} (a_a1 : 0 ≤ a1) (b_a1 : a1 ≤ 10) (V_h : VS_ h)  : Ok_ (qf_X11_info nn a1 h) (QP_ (-1) 65535) := by
  unfold qf_X11_info
  refine ok_ck (vi_r V_h).2.1.1 ?_
  have T1 := gF_127_6 V_h
  have hb1 : kc_O (h 127 5).toNat = 3 := (vi_r V_h).2.1.2
  refine ok_ck hb1 ?_
  refine ok_cP (vf_X3_of hn hb1 (by omega) (by omega) (by omega) (by omega) V_h) ?_; intro u4 e_u4 a_u4 b_u4
  exact ok_rP (by omega) (by omega)
set_option maxRecDepth 4000 in
theorem vf_X11_at {nn : Nat} (hn : 1000000 ≤ nn) {a1 : Int} {a2 : Int} {h : ms_M} (a_a1 : 1 ≤ a1) (b_a1 : a1 ≤ 12) (a_a2 : 0 ≤ a2) (b_a2 : a2 ≤ 65534) (V_h : VS_ h)  : Ok_ (qf_X11_at nn a1 a2 h) (QI_ 1 12) := by
  unfold qf_X11_at
  refine ok_xl ?_; intro h1 E_h1; have V_h1 : VS_ h1 := by rw [E_h1]; exact wF_127_7 V_h (by omega)
  exact ok_rI V_h1 (by omega) (by omega)
set_option maxRecDepth 4000 in
theorem vf_X11_begins {nn : Nat} (hn : 1000000 ≤ nn) {a1 : Int} {h : ms_M} (a_a1 : (-2147483648) ≤ a1) (b_a1 : a1 ≤ 2147483647) (V_h : VS_ h)  : Ok_ (qf_X11_begins nn a1 h) (QP_ 0 1) := by
  unfold qf_X11_begins
  refine ok_if ?_ ?_
  · intro C0
    exact ok_rP (by omega) (by omega)
  · intro C0
    have T2 := gF_127_16 V_h
    refine ok_if ?_ ?_
    · intro C2
      exact ok_rP (by omega) (by omega)
    · intro C2
      refine ok_rd (by omega) (gA_132 V_h) ?_; intro v3 e_v3 a_v3 b_v3
      refine ok_if ?_ ?_
      · intro C3
        exact ok_rP (by omega) (by omega)
      · intro C3
        exact ok_rP (by omega) (by omega)
set_option maxRecDepth 4000 in
theorem vf_X11_frameAt {nn : Nat} (hn : 1000000 ≤ nn) {a1 : Int} {h : ms_M} (a_a1 : (-32768) ≤ a1) (b_a1 : a1 ≤ 65535) (V_h : VS_ h)  : Ok_ (qf_X11_frameAt nn a1 h) (QP_ (-2) 99) := by
  unfold qf_X11_frameAt
  refine ok_cP (vf_X11_begins hn (by omega) (by omega) V_h) ?_; intro u2 e_u2 a_u2 b_u2
  have T1 := pr_X11_begins e_u2
  refine ok_if ?_ ?_
  · intro C1
    exact ok_rP (by omega) (by omega)
  · intro C1
    refine ok_rd (by omega) (gA_132 V_h) ?_; intro v4 e_v4 a_v4 b_v4
    exact ok_rP (by omega) (by omega)
set_option maxRecDepth 4000 in
theorem vf_X11_handler {nn : Nat} (hn : 1000000 ≤ nn) {a1 : Int} {a2 : Int} {h : ms_M} (a_a1 : 0 ≤ a1) (b_a1 : a1 ≤ 65534) (a_a2 : 0 ≤ a2) (b_a2 : a2 ≤ 4) (V_h : VS_ h)  : Ok_ (qf_X11_handler nn a1 a2 h) (QP_ 0 65535) := by
  unfold qf_X11_handler
  refine ok_ck (vi_r V_h).2.1.1 ?_
  refine ok_cP (vf_X11_info hn (by omega) (by omega) V_h) ?_; intro u3 e_u3 a_u3 b_u3
  refine ok_mul (by omega) ?_; intro v4 e_v4
  refine ok_add (by omega) ?_; intro v5 e_v5
  refine ok_add (by omega) ?_; intro v6 e_v6
  have hb1 : kc_O (h 127 5).toNat = 3 := (vi_r V_h).2.1.2
  refine ok_ck hb1 ?_
  refine ok_cP (vf_X3_pairAt hn hb1 (by omega) (by omega) V_h) ?_; intro u8 e_u8 a_u8 b_u8
  exact ok_rP (by omega) (by omega)
set_option maxRecDepth 4000 in
theorem vf_X11_handlerClass {nn : Nat} (hn : 1000000 ≤ nn) {a1 : Int} {h : ms_M} (a_a1 : 0 ≤ a1) (b_a1 : a1 ≤ 65534) (V_h : VS_ h)  : Ok_ (qf_X11_handlerClass nn a1 h) (QP_ (-2147483648) 2147483647) := by
  unfold qf_X11_handlerClass
  refine ok_ck (vi_r V_h).2.1.1 ?_
  refine ok_cP (vf_X11_info hn (by omega) (by omega) V_h) ?_; intro u4 e_u4 a_u4 b_u4
  refine ok_mul (by omega) ?_; intro v5 e_v5
  refine ok_add (by omega) ?_; intro v6 e_v6
  refine ok_add (by omega) ?_; intro v7 e_v7
  have hb1 : kc_O (h 127 5).toNat = 3 := (vi_r V_h).2.1.2
  refine ok_ck hb1 ?_
  refine ok_cP (vf_X3_byteAt hn hb1 (by omega) (by omega) V_h) ?_; intro u9 e_u9 a_u9 b_u9
  refine ok_rd (by omega) (gA_128 V_h) ?_; intro v10 e_v10 a_v10 b_v10
  exact ok_rP (by omega) (by omega)
set_option maxRecDepth 4000 in
theorem vf_X11_codeAt {nn : Nat} (hn : 1000000 ≤ nn) {a1 : Int} {h : ms_M} (a_a1 : 0 ≤ a1) (b_a1 : a1 ≤ 1501) (V_h : VS_ h)  : Ok_ (qf_X11_codeAt nn a1 h) (QP_ 0 255) := by
  unfold qf_X11_codeAt
  refine ok_ck (vi_r V_h).2.1.1 ?_
  refine ok_cP (vf_X11_info hn (by omega) (by omega) V_h) ?_; intro u3 e_u3 a_u3 b_u3
  refine ok_add (by omega) ?_; intro v4 e_v4
  have hb1 : kc_O (h 127 5).toNat = 3 := (vi_r V_h).2.1.2
  refine ok_ck hb1 ?_
  refine ok_cP (vf_X3_byteAt hn hb1 (by omega) (by omega) V_h) ?_; intro u6 e_u6 a_u6 b_u6
  exact ok_rP (by omega) (by omega)
set_option maxRecDepth 4000 in
theorem vj_X11_isBare_116 {nn : Nat} (hn : 1000000 ≤ nn) {h : ms_M} (V_h : VS_ h)  : Ok_ (qj_X11_isBare_116 nn h) (QP_ 0 1) := by
  unfold qj_X11_isBare_116
  exact ok_rP (by omega) (by omega)
set_option maxRecDepth 4000 in
theorem vf_X11_isBare {nn : Nat} (hn : 1000000 ≤ nn) {a0 : Int} {h : ms_M} (a_a0 : 9 ≤ a0) (b_a0 : a0 ≤ 255) (V_h : VS_ h)  : Ok_ (qf_X11_isBare nn a0 h) (QP_ 0 1) := by
  unfold qf_X11_isBare
  refine ok_if ?_ ?_
  · intro C0
    exact vj_X11_isBare_116 hn V_h
  · intro C0
    refine ok_if ?_ ?_
    · intro C1
      exact vj_X11_isBare_116 hn V_h
    · intro C1
      refine ok_if ?_ ?_
      · intro C2
        exact vj_X11_isBare_116 hn V_h
      · intro C2
        refine ok_if ?_ ?_
        · intro C3
          exact vj_X11_isBare_116 hn V_h
        · intro C3
          refine ok_if ?_ ?_
          · intro C4
            exact vj_X11_isBare_116 hn V_h
          · intro C4
            refine ok_if ?_ ?_
            · intro C5
              exact vj_X11_isBare_116 hn V_h
            · intro C5
              refine ok_if ?_ ?_
              · intro C6
                exact vj_X11_isBare_116 hn V_h
              · intro C6
                refine ok_if ?_ ?_
                · intro C7
                  exact vj_X11_isBare_116 hn V_h
                · intro C7
                  refine ok_if ?_ ?_
                  · intro C8
                    exact vj_X11_isBare_116 hn V_h
                  · intro C8
                    refine ok_if ?_ ?_
                    · intro C9
                      exact vj_X11_isBare_116 hn V_h
                    · intro C9
                      refine ok_if ?_ ?_
                      · intro C10
                        exact vj_X11_isBare_116 hn V_h
                      · intro C10
                        refine ok_if ?_ ?_
                        · intro C11
                          exact vj_X11_isBare_116 hn V_h
                        · intro C11
                          refine ok_if ?_ ?_
                          · intro C12
                            exact vj_X11_isBare_116 hn V_h
                          · intro C12
                            refine ok_cP (vf_X11_isArithmetic hn (by omega) (by omega) V_h) ?_; intro u1 e_u1 a_u1 b_u1
                            refine ok_ck (by omega) ?_
                            exact ok_rP (by omega) (by omega)
set_option maxRecDepth 4000 in
theorem vj_X11_widthOf_156 {nn : Nat} (hn : 1000000 ≤ nn) {h : ms_M} (V_h : VS_ h)  : Ok_ (qj_X11_widthOf_156 nn h) (QP_ 0 3) := by
  unfold qj_X11_widthOf_156
  exact ok_rP (by omega) (by omega)
set_option maxRecDepth 4000 in
theorem vf_X11_widthOf {nn : Nat} (hn : 1000000 ≤ nn) {a0 : Int} {h : ms_M} (a_a0 : 0 ≤ a0) (b_a0 : a0 ≤ 255) (V_h : VS_ h)  : Ok_ (qf_X11_widthOf nn a0 h) (QP_ 0 3) := by
  unfold qf_X11_widthOf
  refine ok_if ?_ ?_
  · intro C0
    exact ok_rP (by omega) (by omega)
  · intro C0
    refine ok_cP (vf_X11_isBare hn (by omega) (by omega) V_h) ?_; intro u1 e_u1 a_u1 b_u1
    refine ok_if ?_ ?_
    · intro C1
      refine ok_cP (vf_X11_isJump hn (by omega) (by omega) V_h) ?_; intro u2 e_u2 a_u2 b_u2
      refine ok_if ?_ ?_
      · intro C2
        refine ok_if ?_ ?_
        · intro C3
          exact vj_X11_widthOf_156 hn V_h
        · intro C3
          refine ok_if ?_ ?_
          · intro C4
            exact vj_X11_widthOf_156 hn V_h
          · intro C4
            refine ok_if ?_ ?_
            · intro C5
              exact vj_X11_widthOf_156 hn V_h
            · intro C5
              refine ok_if ?_ ?_
              · intro C6
                exact vj_X11_widthOf_156 hn V_h
              · intro C6
                refine ok_if ?_ ?_
                · intro C7
                  exact vj_X11_widthOf_156 hn V_h
                · intro C7
                  refine ok_if ?_ ?_
                  · intro C8
                    exact vj_X11_widthOf_156 hn V_h
                  · intro C8
                    refine ok_if ?_ ?_
                    · intro C9
                      exact vj_X11_widthOf_156 hn V_h
                    · intro C9
                      refine ok_if ?_ ?_
                      · intro C10
                        exact vj_X11_widthOf_156 hn V_h
                      · intro C10
                        refine ok_if ?_ ?_
                        · intro C11
                          exact vj_X11_widthOf_156 hn V_h
                        · intro C11
                          refine ok_if ?_ ?_
                          · intro C12
                            exact vj_X11_widthOf_156 hn V_h
                          · intro C12
                            refine ok_if ?_ ?_
                            · intro C13
                              exact vj_X11_widthOf_156 hn V_h
                            · intro C13
                              refine ok_if ?_ ?_
                              · intro C14
                                exact vj_X11_widthOf_156 hn V_h
                              · intro C14
                                refine ok_if ?_ ?_
                                · intro C15
                                  exact vj_X11_widthOf_156 hn V_h
                                · intro C15
                                  refine ok_if ?_ ?_
                                  · intro C16
                                    exact vj_X11_widthOf_156 hn V_h
                                  · intro C16
                                    refine ok_if ?_ ?_
                                    · intro C17
                                      exact vj_X11_widthOf_156 hn V_h
                                    · intro C17
                                      exact ok_rP (by omega) (by omega)
      · intro C2
        exact ok_rP (by omega) (by omega)
    · intro C1
      exact ok_rP (by omega) (by omega)
set_option maxRecDepth 4000 in
theorem vf_X11_aimOf {nn : Nat} (hn : 1000000 ≤ nn) {a1 : Int} {h : ms_M} (a_a1 : 0 ≤ a1) (b_a1 : a1 ≤ 1499) (V_h : VS_ h)  : Ok_ (qf_X11_aimOf nn a1 h) (QP_ (-32768) 34266) := by
  unfold qf_X11_aimOf
  refine ok_add (by omega) ?_; intro v1 e_v1
  refine ok_cP (vf_X11_codeAt hn (by omega) (by omega) V_h) ?_; intro u3 e_u3 a_u3 b_u3
  refine ok_shl8 (by omega) ?_; intro v4 e_v4
  refine ok_add (by omega) ?_; intro v5 e_v5
  refine ok_cP (vf_X11_codeAt hn (by omega) (by omega) V_h) ?_; intro u7 e_u7 a_u7 b_u7
  refine ok_or (by omega) (by omega) ?_; intro v8 a_v8 b_v8
  refine ok_s ?_; intro v9 a_v9 b_v9
  refine ok_add (by omega) ?_; intro v10 e_v10
  exact ok_rP (by omega) (by omega)
set_option maxRecDepth 4000 in
theorem vw_X11_proveJumps_2 {nn : Nat} (hn : 1000000 ≤ nn) : ∀ (k : Nat) {l1 : Int} {h : ms_M} (a_l1 : 0 ≤ l1) (b_l1 : l1 ≤ 1500) (V_h : VS_ h)  (hm : 1501 - l1 < (k : Int)), Ok_ (qw_X11_proveJumps_2 nn k l1 h) (QI_ 0 12) := by
  intro k
  induction k with
  | zero => intros; exfalso; omega
  | succ k ih =>
    intro l1 h a_l1 b_l1 V_h hm
    unfold qw_X11_proveJumps_2
    have T1 := gF_127_16 V_h
    refine ok_if ?_ ?_
    · intro C1
      exact ok_rI V_h (by omega) (by omega)
    · intro C1
      refine ok_cP (vf_X11_begins hn (by omega) (by omega) V_h) ?_; intro u3 e_u3 a_u3 b_u3
      have T3 := pr_X11_begins e_u3
      refine ok_if ?_ ?_
      · intro C3
        refine ok_add (by omega) ?_; intro v4 e_v4
        exact ih (by omega) (by omega) V_h (by omega)
      · intro C3
        refine ok_cP (vf_X11_codeAt hn (by omega) (by omega) V_h) ?_; intro u6 e_u6 a_u6 b_u6
        refine ok_cP (vf_X11_isJump hn (by omega) (by omega) V_h) ?_; intro u7 e_u7 a_u7 b_u7
        refine ok_if ?_ ?_
        · intro C4
          refine ok_add (by omega) ?_; intro v8 e_v8
          exact ih (by omega) (by omega) V_h (by omega)
        · intro C4
          refine ok_cP (vf_X11_aimOf hn (by omega) (by omega) V_h) ?_; intro u10 e_u10 a_u10 b_u10
          refine ok_cP (vf_X11_begins hn (by omega) (by omega) V_h) ?_; intro u12 e_u12 a_u12 b_u12
          have T6 := pr_X11_begins e_u12
          refine ok_if ?_ ?_
          · intro C6
            refine ok_add (by omega) ?_; intro v13 e_v13
            exact ih (by omega) (by omega) V_h (by omega)
          · intro C6
            refine ok_cI (vf_X11_at hn (by omega) (by omega) (by omega) (by omega) V_h) ?_; intro u15 E_u15 V_u15 a_u15 b_u15
            exact ok_rI V_u15 (by omega) (by omega)
set_option maxRecDepth 4000 in
theorem vf_X11_proveJumps {nn : Nat} (hn : 1000000 ≤ nn) {h : ms_M} (V_h : VS_ h)  : Ok_ (qf_X11_proveJumps nn h) (QI_ 0 12) := by
  unfold qf_X11_proveJumps
  exact vw_X11_proveJumps_2 hn _ (by omega) (by omega) V_h (by omega)
set_option maxRecDepth 4000 in
theorem vf_X11_isLast {nn : Nat} (hn : 1000000 ≤ nn) {a0 : Int} {h : ms_M} (a_a0 : 0 ≤ a0) (b_a0 : a0 ≤ 255) (V_h : VS_ h)  : Ok_ (qf_X11_isLast nn a0 h) (QP_ 0 1) := by
  unfold qf_X11_isLast
  refine ok_if ?_ ?_
  · intro C0
    exact ok_rP (by omega) (by omega)
  · intro C0
    refine ok_if ?_ ?_
    · intro C1
      exact ok_rP (by omega) (by omega)
    · intro C1
      refine ok_if ?_ ?_
      · intro C2
        exact ok_rP (by omega) (by omega)
      · intro C2
        refine ok_if ?_ ?_
        · intro C3
          exact ok_rP (by omega) (by omega)
        · intro C3
          refine ok_if ?_ ?_
          · intro C4
            exact ok_rP (by omega) (by omega)
          · intro C4
            exact ok_rP (by omega) (by omega)
set_option maxRecDepth 4000 in
theorem vf_X11_pop {nn : Nat} (hn : 1000000 ≤ nn) {h : ms_M} (V_h : VS_ h)  : Ok_ (qf_X11_pop nn h) (QI_ (-2147483648) 2147483647) := by
  unfold qf_X11_pop
  have T1 := gF_127_18 V_h
  refine ok_if ?_ ?_
  · intro C1
    refine ok_sub (by omega) ?_; intro v3 e_v3
    refine ok_xl ?_; intro h4 E_h4; have V_h4 : VS_ h4 := by rw [E_h4]; exact wF_127_18 V_h (by omega)
    have T3 : h4 127 18 = v3 := by rw [E_h4]; exact up_s
    refine ok_rd (by omega) (gA_135 V_h4) ?_; intro v7 e_v7 a_v7 b_v7
    exact ok_rI V_h4 (by omega) (by omega)
  · intro C1
    refine ok_xl ?_; intro h8 E_h8; have V_h8 : VS_ h8 := by rw [E_h8]; exact wF_127_19 V_h (by omega)
    exact ok_rI V_h8 (by omega) (by omega)
set_option maxRecDepth 4000 in
theorem vf_X11_push {nn : Nat} (hn : 1000000 ≤ nn) {a1 : Int} {h : ms_M} (a_a1 : (-2147483648) ≤ a1) (b_a1 : a1 ≤ 2147483647) (V_h : VS_ h)  : Ok_ (qf_X11_push nn a1 h) QV_ := by
  unfold qf_X11_push
  have T1 := gF_127_18 V_h
  have T2 := gF_127_17 V_h
  refine ok_if ?_ ?_
  · intro C2
    refine ok_wA (by omega) ?_; intro h5 E_h5; have V_h5 : VS_ h5 := by rw [E_h5]; exact wA_135 V_h (by omega)
    have T4 : h5 127 18 = h 127 18 := by rw [E_h5]; exact up_n (fun z => absurd z.1 (by decide))
    refine ok_add (by omega) ?_; intro v7 e_v7
    refine ok_xl ?_; intro h8 E_h8; have V_h8 : VS_ h8 := by rw [E_h8]; exact wF_127_18 V_h5 (by omega)
    exact ok_rV V_h8
  · intro C2
    refine ok_xl ?_; intro h9 E_h9; have V_h9 : VS_ h9 := by rw [E_h9]; exact wF_127_19 V_h (by omega)
    exact ok_rV V_h9
set_option maxRecDepth 4000 in
theorem vj_X11_wantArray_61 {nn : Nat} (hn : 1000000 ≤ nn) {l3 : Int} {h : ms_M} (a_l3 : (-2147483648) ≤ l3) (b_l3 : l3 ≤ 2147483647) (V_h : VS_ h)  : Ok_ (qj_X11_wantArray_61 nn l3 h) (QI_ (-2147483648) 2147483647) := by
  unfold qj_X11_wantArray_61
  refine ok_xl ?_; intro h1 E_h1; have V_h1 : VS_ h1 := by rw [E_h1]; exact wF_127_19 V_h (by omega)
  exact ok_rI V_h1 (by omega) (by omega)
set_option maxRecDepth 4000 in
theorem vj_X11_wantArray_42 {nn : Nat} (hn : 1000000 ≤ nn) {l3 : Int} {s0 : Int} {h : ms_M} (a_l3 : (-2147483648) ≤ l3) (b_l3 : l3 ≤ 2147483647) (a_s0 : 0 ≤ s0) (b_s0 : s0 ≤ 1) (V_h : VS_ h)  : Ok_ (qj_X11_wantArray_42 nn l3 s0 h) (QI_ (-2147483648) 2147483647) := by
  unfold qj_X11_wantArray_42
  have T1 := gF_127_19 V_h
  refine ok_if ?_ ?_
  · intro C1
    exact vj_X11_wantArray_61 hn (by omega) (by omega) V_h
  · intro C1
    refine ok_if ?_ ?_
    · intro C2
      exact vj_X11_wantArray_61 hn (by omega) (by omega) V_h
    · intro C2
      refine ok_xl ?_; intro h3 E_h3; have V_h3 : VS_ h3 := by rw [E_h3]; exact wF_127_19 V_h (by omega)
      exact ok_rI V_h3 (by omega) (by omega)
set_option maxRecDepth 4000 in
theorem vj_X11_wantArray_41 {nn : Nat} (hn : 1000000 ≤ nn) {l3 : Int} {h : ms_M} (a_l3 : (-2147483648) ≤ l3) (b_l3 : l3 ≤ 2147483647) (V_h : VS_ h)  : Ok_ (qj_X11_wantArray_41 nn l3 h) (QI_ (-2147483648) 2147483647) := by
  unfold qj_X11_wantArray_41
  exact vj_X11_wantArray_42 hn (by omega) (by omega) (by omega) (by omega) V_h
set_option maxRecDepth 4000 in
theorem vj_X11_wantArray_37 {nn : Nat} (hn : 1000000 ≤ nn) {l3 : Int} {h : ms_M} (a_l3 : 100 ≤ l3) (b_l3 : l3 ≤ 300) (V_h : VS_ h)  : Ok_ (qj_X11_wantArray_37 nn l3 h) (QI_ (-2147483648) 2147483647) := by
  unfold qj_X11_wantArray_37
  exact vj_X11_wantArray_42 hn (by omega) (by omega) (by omega) (by omega) V_h
set_option maxRecDepth 4000 in
theorem vf_X11_wantArray {nn : Nat} (hn : 1000000 ≤ nn) {a1 : Int} {a2 : Int} {h : ms_M} (a_a1 : 0 ≤ a1) (b_a1 : a1 ≤ 1) (a_a2 : 0 ≤ a2) (b_a2 : a2 ≤ 1) (V_h : VS_ h)  : Ok_ (qf_X11_wantArray nn a1 a2 h) (QI_ (-2147483648) 2147483647) := by
  unfold qf_X11_wantArray
  refine ok_cI (vf_X11_pop hn V_h) ?_; intro u7 E_u7 V_u7 a_u7 b_u7
  refine ok_if ?_ ?_
  · intro C0
    exact vj_X11_wantArray_37 hn (by omega) (by omega) V_u7
  · intro C0
    refine ok_if ?_ ?_
    · intro C1
      refine ok_if ?_ ?_
      · intro C2
        exact vj_X11_wantArray_41 hn (by omega) (by omega) V_u7
      · intro C2
        refine ok_cP (vf_X4_isArray hn (by omega) (by omega) V_u7) ?_; intro u8 e_u8 a_u8 b_u8
        have T4 := pr_X4_isArray e_u8
        refine ok_if ?_ ?_
        · intro C4
          exact vj_X11_wantArray_41 hn (by omega) (by omega) V_u7
        · intro C4
          exact vj_X11_wantArray_37 hn (by omega) (by omega) V_u7
    · intro C1
      refine ok_if ?_ ?_
      · intro C5
        exact vj_X11_wantArray_41 hn (by omega) (by omega) V_u7
      · intro C5
        exact vj_X11_wantArray_37 hn (by omega) (by omega) V_u7
set_option maxRecDepth 4000 in
theorem vj_X11_wantReference_24 {nn : Nat} (hn : 1000000 ≤ nn) {l1 : Int} {h : ms_M} (a_l1 : (-2147483648) ≤ l1) (b_l1 : l1 ≤ 2147483647) (V_h : VS_ h)  : Ok_ (qj_X11_wantReference_24 nn l1 h) (QI_ (-2147483648) 2147483647) := by
  unfold qj_X11_wantReference_24
  refine ok_xl ?_; intro h1 E_h1; have V_h1 : VS_ h1 := by rw [E_h1]; exact wF_127_19 V_h (by omega)
  exact ok_rI V_h1 (by omega) (by omega)
set_option maxRecDepth 4000 in
theorem vf_X11_wantReference {nn : Nat} (hn : 1000000 ≤ nn) {h : ms_M} (V_h : VS_ h)  : Ok_ (qf_X11_wantReference nn h) (QI_ (-2147483648) 2147483647) := by
  unfold qf_X11_wantReference
  refine ok_cI (vf_X11_pop hn V_h) ?_; intro u3 E_u3 V_u3 a_u3 b_u3
  have T1 := gF_127_19 V_u3
  refine ok_if ?_ ?_
  · intro C1
    exact vj_X11_wantReference_24 hn (by omega) (by omega) V_u3
  · intro C1
    refine ok_cP (vf_X4_isReference hn (by omega) (by omega) V_u3) ?_; intro u5 e_u5 a_u5 b_u5
    refine ok_if ?_ ?_
    · intro C2
      exact vj_X11_wantReference_24 hn (by omega) (by omega) V_u3
    · intro C2
      refine ok_xl ?_; intro h6 E_h6; have V_h6 : VS_ h6 := by rw [E_h6]; exact wF_127_19 V_u3 (by omega)
      exact ok_rI V_h6 (by omega) (by omega)
set_option maxRecDepth 4000 in
theorem vj_X11_isMemberRight_131 {nn : Nat} (hn : 1000000 ≤ nn) {s0 : Int} {s1 : Int} {h : ms_M} (a_s0 : 0 ≤ s0) (b_s0 : s0 ≤ 1) (a_s1 : 0 ≤ s1) (b_s1 : s1 ≤ 1) (V_h : VS_ h)  : Ok_ (qj_X11_isMemberRight_131 nn s0 s1 h) (QP_ 0 1) := by
  unfold qj_X11_isMemberRight_131
  refine ok_if ?_ ?_
  · intro C0
    exact ok_rP (by omega) (by omega)
  · intro C0
    exact ok_rP (by omega) (by omega)
set_option maxRecDepth 4000 in
theorem vj_X11_isMemberRight_115 {nn : Nat} (hn : 1000000 ≤ nn) {l1 : Int} {s0 : Int} {h : ms_M} (a_l1 : 180 ≤ l1) (b_l1 : l1 ≤ 184) (a_s0 : 0 ≤ s0) (b_s0 : s0 ≤ 1) (V_h : VS_ h)  : Ok_ (qj_X11_isMemberRight_115 nn l1 s0 h) (QP_ 0 1) := by
  unfold qj_X11_isMemberRight_115
  refine ok_if ?_ ?_
  · intro C0
    exact vj_X11_isMemberRight_131 hn (by omega) (by omega) (by omega) (by omega) V_h
  · intro C0
    exact vj_X11_isMemberRight_131 hn (by omega) (by omega) (by omega) (by omega) V_h
set_option maxRecDepth 4000 in
theorem vj_X11_isMemberRight_114 {nn : Nat} (hn : 1000000 ≤ nn) {l1 : Int} {h : ms_M} (a_l1 : 180 ≤ l1) (b_l1 : l1 ≤ 184) (V_h : VS_ h)  : Ok_ (qj_X11_isMemberRight_114 nn l1 h) (QP_ 0 1) := by
  unfold qj_X11_isMemberRight_114
  exact vj_X11_isMemberRight_115 hn (by omega) (by omega) (by omega) (by omega) V_h
set_option maxRecDepth 4000 in
theorem vj_X11_isMemberRight_87 {nn : Nat} (hn : 1000000 ≤ nn) {l1 : Int} {l3 : Int} {l4 : Int} {l5 : Int} {s0 : Int} {s1 : Int} {h : ms_M} (a_l1 : 180 ≤ l1) (b_l1 : l1 ≤ 184) (a_l3 : 0 ≤ l3) (b_l3 : l3 ≤ 1) (a_l4 : (-2147483648) ≤ l4) (b_l4 : l4 ≤ 2147483647) (n_l5 : 0 ≤ l5) (k_l5 : kc_O (l5).toNat = 3) (a_s0 : 0 ≤ s0) (b_s0 : s0 ≤ 1) (a_s1 : 0 ≤ s1) (b_s1 : s1 ≤ 1) (V_h : VS_ h)  : Ok_ (qj_X11_isMemberRight_87 nn l1 l3 l4 l5 s0 s1 h) (QP_ 0 1) := by
  unfold qj_X11_isMemberRight_87
  refine ok_if ?_ ?_
  · intro C0
    refine ok_if ?_ ?_
    · intro C1
      exact vj_X11_isMemberRight_114 hn (by omega) (by omega) V_h
    · intro C1
      refine ok_remT (n := 12) (by decide) ?_; intro v3 a_v3 b_v3
      refine ok_ck n_l5 ?_
      have hb1 : kc_O (l5).toNat = 3 := k_l5
      refine ok_ck hb1 ?_
      refine ok_cP (vf_X3_of hn hb1 (by omega) (by omega) (by omega) (by omega) V_h) ?_; intro u6 e_u6 a_u6 b_u6
      refine ok_if ?_ ?_
      · intro C2
        exact vj_X11_isMemberRight_114 hn (by omega) (by omega) V_h
      · intro C2
        exact vj_X11_isMemberRight_115 hn (by omega) (by omega) (by omega) (by omega) V_h
  · intro C0
    exact ok_rP (by omega) (by omega)
set_option maxRecDepth 4000 in
theorem vj_X11_isMemberRight_56 {nn : Nat} (hn : 1000000 ≤ nn) {l1 : Int} {l3 : Int} {s0 : Int} {h : ms_M} (a_l1 : 180 ≤ l1) (b_l1 : l1 ≤ 184) (a_l3 : 0 ≤ l3) (b_l3 : l3 ≤ 1) (a_s0 : (-2147483648) ≤ s0) (b_s0 : s0 ≤ 2147483647) (V_h : VS_ h)  : Ok_ (qj_X11_isMemberRight_56 nn l1 l3 s0 h) (QP_ 0 1) := by
  unfold qj_X11_isMemberRight_56
  refine ok_cO (vf_X7_imageOfMember hn (by omega) (by omega) V_h) ?_; intro u12 e_u12 o_u12
  refine ok_if ?_ ?_
  · intro C0
    exact ok_rP (by omega) (by omega)
  · intro C0
    refine ok_if ?_ ?_
    · intro C1
      exact vj_X11_isMemberRight_87 hn (by omega) (by omega) (by omega) (by omega) (by omega) (by omega) (by omega) (o_u12.resolve_left C0) (by omega) (by omega) (by omega) (by omega) V_h
    · intro C1
      exact vj_X11_isMemberRight_87 hn (by omega) (by omega) (by omega) (by omega) (by omega) (by omega) (by omega) (o_u12.resolve_left C0) (by omega) (by omega) (by omega) (by omega) V_h
set_option maxRecDepth 4000 in
theorem vj_X11_isMemberRight_33 {nn : Nat} (hn : 1000000 ≤ nn) {l1 : Int} {l2 : Int} {s0 : Int} {h : ms_M} (a_l1 : 180 ≤ l1) (b_l1 : l1 ≤ 184) (a_l2 : 0 ≤ l2) (b_l2 : l2 ≤ 255) (a_s0 : 0 ≤ s0) (b_s0 : s0 ≤ 1) (V_h : VS_ h)  : Ok_ (qj_X11_isMemberRight_33 nn l1 l2 s0 h) (QP_ 0 1) := by
  unfold qj_X11_isMemberRight_33
  refine ok_ck (vi_r V_h).2.1.1 ?_
  have hb1 : kc_O (h 127 5).toNat = 3 := (vi_r V_h).2.1.2
  refine ok_ck hb1 ?_
  refine ok_cP (vf_X3_tagOf hn hb1 (by omega) (by omega) V_h) ?_; intro u18 e_u18 a_u18 b_u18
  refine ok_if ?_ ?_
  · intro C0
    exact vj_X11_isMemberRight_56 hn (by omega) (by omega) (by omega) (by omega) (by omega) (by omega) V_h
  · intro C0
    refine ok_rd (by omega) (gA_129 V_h) ?_; intro v20 e_v20 a_v20 b_v20
    exact vj_X11_isMemberRight_56 hn (by omega) (by omega) (by omega) (by omega) (by omega) (by omega) V_h
set_option maxRecDepth 4000 in
theorem vf_X11_isMemberRight {nn : Nat} (hn : 1000000 ≤ nn) {a1 : Int} {a2 : Int} {h : ms_M} (a_a1 : 180 ≤ a1) (b_a1 : a1 ≤ 184) (a_a2 : 0 ≤ a2) (b_a2 : a2 ≤ 255) (V_h : VS_ h)  : Ok_ (qf_X11_isMemberRight nn a1 a2 h) (QP_ 0 1) := by
  unfold qf_X11_isMemberRight
  refine ok_ck (vi_r V_h).2.1.1 ?_
  refine ok_ck (vi_r V_h).2.1.1 ?_
  refine ok_ck (vi_r V_h).2.1.1 ?_
  have hb1 : kc_O (h 127 5).toNat = 3 := (vi_r V_h).2.1.2
  refine ok_ck hb1 ?_
  refine ok_cP (vf_X3_partOf hn hb1 (by omega) (by omega) (by omega) (by omega) V_h) ?_; intro u26 e_u26 a_u26 b_u26
  refine ok_cP (vf_X3_textAt hn hb1 (by omega) (by omega) V_h) ?_; intro u28 e_u28 a_u28 b_u28
  refine ok_cP (vf_X3_byteAt hn hb1 (by omega) (by omega) V_h) ?_; intro u30 e_u30 a_u30 b_u30
  refine ok_if ?_ ?_
  · intro C0
    exact vj_X11_isMemberRight_33 hn (by omega) (by omega) (by omega) (by omega) (by omega) (by omega) V_h
  · intro C0
    exact vj_X11_isMemberRight_33 hn (by omega) (by omega) (by omega) (by omega) (by omega) (by omega) V_h
set_option maxRecDepth 4000 in
theorem vj_X11_isConstantRight_152 {nn : Nat} (hn : 1000000 ≤ nn) {l1 : Int} {l2 : Int} {h : ms_M} (a_l1 : 180 ≤ l1) (b_l1 : l1 ≤ 184) (a_l2 : 0 ≤ l2) (b_l2 : l2 ≤ 255) (V_h : VS_ h)  : Ok_ (qj_X11_isConstantRight_152 nn l1 l2 h) (QP_ 0 1) := by
  unfold qj_X11_isConstantRight_152
  refine ok_cP (vf_X11_isMemberRight hn (by omega) (by omega) (by omega) (by omega) V_h) ?_; intro u2 e_u2 a_u2 b_u2
  refine ok_ck (by omega) ?_
  exact ok_rP (by omega) (by omega)
set_option maxRecDepth 4000 in
theorem vj_X11_isConstantRight_110 {nn : Nat} (hn : 1000000 ≤ nn) {l2 : Int} {h : ms_M} (a_l2 : 0 ≤ l2) (b_l2 : l2 ≤ 255) (V_h : VS_ h)  : Ok_ (qj_X11_isConstantRight_110 nn l2 h) (QP_ 0 1) := by
  unfold qj_X11_isConstantRight_110
  refine ok_ck (vi_r V_h).2.1.1 ?_
  have hb1 : kc_O (h 127 5).toNat = 3 := (vi_r V_h).2.1.2
  refine ok_ck hb1 ?_
  refine ok_cP (vf_X3_tagOf hn hb1 (by omega) (by omega) V_h) ?_; intro u6 e_u6 a_u6 b_u6
  refine ok_if ?_ ?_
  · intro C0
    exact ok_rP (by omega) (by omega)
  · intro C0
    refine ok_rd (by omega) (gA_128 V_h) ?_; intro v8 e_v8 a_v8 b_v8
    refine ok_cP (vf_X4_isClass hn (by omega) (by omega) V_h) ?_; intro u9 e_u9 a_u9 b_u9
    have T2 := pr_X4_isClass e_u9
    refine ok_if ?_ ?_
    · intro C2
      exact ok_rP (by omega) (by omega)
    · intro C2
      exact ok_rP (by omega) (by omega)
set_option maxRecDepth 4000 in
theorem vf_X11_isConstantRight {nn : Nat} (hn : 1000000 ≤ nn) {a1 : Int} {a2 : Int} {h : ms_M} (a_a1 : 0 ≤ a1) (b_a1 : a1 ≤ 255) (a_a2 : 0 ≤ a2) (b_a2 : a2 ≤ 255) (V_h : VS_ h)  : Ok_ (qf_X11_isConstantRight nn a1 a2 h) (QP_ 0 1) := by
  unfold qf_X11_isConstantRight
  refine ok_if ?_ ?_
  · intro C0
    refine ok_ck (vi_r V_h).2.1.1 ?_
    have hb1 : kc_O (h 127 5).toNat = 3 := (vi_r V_h).2.1.2
    refine ok_ck hb1 ?_
    refine ok_cP (vf_X3_tagOf hn hb1 (by omega) (by omega) V_h) ?_; intro u14 e_u14 a_u14 b_u14
    refine ok_if ?_ ?_
    · intro C1
      exact ok_rP (by omega) (by omega)
    · intro C1
      exact ok_rP (by omega) (by omega)
  · intro C0
    refine ok_if ?_ ?_
    · intro C2
      exact vj_X11_isConstantRight_152 hn (by omega) (by omega) (by omega) (by omega) V_h
    · intro C2
      refine ok_if ?_ ?_
      · intro C3
        exact vj_X11_isConstantRight_152 hn (by omega) (by omega) (by omega) (by omega) V_h
      · intro C3
        refine ok_if ?_ ?_
        · intro C4
          exact vj_X11_isConstantRight_152 hn (by omega) (by omega) (by omega) (by omega) V_h
        · intro C4
          refine ok_if ?_ ?_
          · intro C5
            exact vj_X11_isConstantRight_152 hn (by omega) (by omega) (by omega) (by omega) V_h
          · intro C5
            refine ok_if ?_ ?_
            · intro C6
              exact vj_X11_isConstantRight_110 hn (by omega) (by omega) V_h
            · intro C6
              refine ok_if ?_ ?_
              · intro C7
                refine ok_if ?_ ?_
                · intro C8
                  exact ok_rP (by omega) (by omega)
                · intro C8
                  exact ok_rP (by omega) (by omega)
              · intro C7
                refine ok_if ?_ ?_
                · intro C9
                  exact vj_X11_isConstantRight_110 hn (by omega) (by omega) V_h
                · intro C9
                  refine ok_if ?_ ?_
                  · intro C10
                    exact vj_X11_isConstantRight_110 hn (by omega) (by omega) V_h
                  · intro C10
                    refine ok_if ?_ ?_
                    · intro C11
                      exact vj_X11_isConstantRight_110 hn (by omega) (by omega) V_h
                    · intro C11
                      exact ok_rP (by omega) (by omega)
set_option maxRecDepth 4000 in
theorem vf_X11_typeOfTag {nn : Nat} (hn : 1000000 ≤ nn) {a1 : Int} {a2 : Int} {h : ms_M} (a_a1 : 0 ≤ a1) (b_a1 : a1 ≤ 255) (a_a2 : 0 ≤ a2) (b_a2 : a2 ≤ 255) (V_h : VS_ h)  : Ok_ (qf_X11_typeOfTag nn a1 a2 h) (QP_ (-2147483648) 2147483647) := by
  unfold qf_X11_typeOfTag
  refine ok_if ?_ ?_
  · intro C0
    exact ok_rP (by omega) (by omega)
  · intro C0
    refine ok_if ?_ ?_
    · intro C1
      exact ok_rP (by omega) (by omega)
    · intro C1
      refine ok_if ?_ ?_
      · intro C2
        exact ok_rP (by omega) (by omega)
      · intro C2
        refine ok_rd (by omega) (gA_128 V_h) ?_; intro v2 e_v2 a_v2 b_v2
        exact ok_rP (by omega) (by omega)
set_option maxRecDepth 4000 in
theorem vj_X11_takeTypes_80 {nn : Nat} (hn : 1000000 ≤ nn) {qkk_17 : Int → Int → Int → Int → ms_M → Option (Int × ms_M)} {K_kk_17 : Int} (hk_kk_17 : ∀ {l2 : Int} {l3 : Int} {l4 : Int} {l5 : Int} {h : ms_M} (a_l2 : 3 ≤ l2) (b_l2 : l2 ≤ 6369) (a_l3 : 0 ≤ l3) (b_l3 : l3 ≤ 255) (a_l4 : (-2147483648) ≤ l4) (b_l4 : l4 ≤ 2147483647) (a_l5 : 0 ≤ l5) (b_l5 : l5 ≤ 255) (V_h : VS_ h) (_ : 256 - l5 < K_kk_17), Ok_ (qkk_17 l2 l3 l4 l5 h) (QI_ (-2147483648) 2147483647)) {l2 : Int} {l3 : Int} {l5 : Int} {s0 : Int} {s1 : Int} {h : ms_M} (a_l2 : 3 ≤ l2) (b_l2 : l2 ≤ 6369) (a_l3 : 1 ≤ l3) (b_l3 : l3 ≤ 255) (a_l5 : 0 ≤ l5) (b_l5 : l5 ≤ 254) (a_s0 : 1 ≤ s0) (b_s0 : s0 ≤ 2) (a_s1 : (-2147483648) ≤ s1) (b_s1 : s1 ≤ 2147483647) (V_h : VS_ h) (hm_kk_17 : 256 - l5 + 0 ≤ K_kk_17) : Ok_ (qj_X11_takeTypes_80 nn qkk_17 l2 l3 l5 s0 s1 h) (QI_ (-2147483648) 2147483647) := by
  unfold qj_X11_takeTypes_80
  refine ok_addW (by omega) ?_; intro v1 a_v1 b_v1 w_v1
  refine ok_add (by omega) ?_; intro v2 e_v2
  exact hk_kk_17 (by omega) (by omega) (by omega) (by omega) (by omega) (by omega) (by omega) (by omega) V_h (by omega)
set_option maxRecDepth 4000 in
theorem vj_X11_takeTypes_67 {nn : Nat} (hn : 1000000 ≤ nn) {qkk_17 : Int → Int → Int → Int → ms_M → Option (Int × ms_M)} {K_kk_17 : Int} (hk_kk_17 : ∀ {l2 : Int} {l3 : Int} {l4 : Int} {l5 : Int} {h : ms_M} (a_l2 : 3 ≤ l2) (b_l2 : l2 ≤ 6369) (a_l3 : 0 ≤ l3) (b_l3 : l3 ≤ 255) (a_l4 : (-2147483648) ≤ l4) (b_l4 : l4 ≤ 2147483647) (a_l5 : 0 ≤ l5) (b_l5 : l5 ≤ 255) (V_h : VS_ h) (_ : 256 - l5 < K_kk_17), Ok_ (qkk_17 l2 l3 l4 l5 h) (QI_ (-2147483648) 2147483647)) {l2 : Int} {l3 : Int} {l4 : Int} {l5 : Int} {l6 : Int} {h : ms_M} (a_l2 : 3 ≤ l2) (b_l2 : l2 ≤ 6369) (a_l3 : 1 ≤ l3) (b_l3 : l3 ≤ 255) (a_l4 : (-2147483648) ≤ l4) (b_l4 : l4 ≤ 2147483647) (a_l5 : 0 ≤ l5) (b_l5 : l5 ≤ 254) (a_l6 : 0 ≤ l6) (b_l6 : l6 ≤ 255) (V_h : VS_ h) (hm_kk_17 : 256 - l5 + 0 ≤ K_kk_17) : Ok_ (qj_X11_takeTypes_67 nn qkk_17 l2 l3 l4 l5 l6 h) (QI_ (-2147483648) 2147483647) := by
  unfold qj_X11_takeTypes_67
  refine ok_if ?_ ?_
  · intro C0
    exact vj_X11_takeTypes_80 hn hk_kk_17 (by omega) (by omega) (by omega) (by omega) (by omega) (by omega) (by omega) (by omega) (by omega) (by omega) V_h (by omega)
  · intro C0
    exact vj_X11_takeTypes_80 hn hk_kk_17 (by omega) (by omega) (by omega) (by omega) (by omega) (by omega) (by omega) (by omega) (by omega) (by omega) V_h (by omega)
set_option maxRecDepth 4000 in
theorem vw_X11_takeTypes_17 {nn : Nat} (hn : 1000000 ≤ nn) : ∀ (k : Nat) {l2 : Int} {l3 : Int} {l4 : Int} {l5 : Int} {h : ms_M} (a_l2 : 3 ≤ l2) (b_l2 : l2 ≤ 6369) (a_l3 : 0 ≤ l3) (b_l3 : l3 ≤ 255) (a_l4 : (-2147483648) ≤ l4) (b_l4 : l4 ≤ 2147483647) (a_l5 : 0 ≤ l5) (b_l5 : l5 ≤ 255) (V_h : VS_ h)  (hm : 256 - l5 < (k : Int)), Ok_ (qw_X11_takeTypes_17 nn k l2 l3 l4 l5 h) (QI_ (-2147483648) 2147483647) := by
  intro k
  induction k with
  | zero => intros; exfalso; omega
  | succ k ih =>
    intro l2 l3 l4 l5 h a_l2 b_l2 a_l3 b_l3 a_l4 b_l4 a_l5 b_l5 V_h hm
    unfold qw_X11_takeTypes_17
    refine ok_if ?_ ?_
    · intro C0
      exact ok_rI V_h (by omega) (by omega)
    · intro C0
      refine ok_ck (vi_r V_h).2.1.1 ?_
      have hb1 : kc_O (h 127 5).toNat = 3 := (vi_r V_h).2.1.2
      refine ok_ck hb1 ?_
      refine ok_cP (vf_X3_byteAt hn hb1 (by omega) (by omega) V_h) ?_; intro u6 e_u6 a_u6 b_u6
      refine ok_if ?_ ?_
      · intro C1
        exact vj_X11_takeTypes_67 hn ih (by omega) (by omega) (by omega) (by omega) (by omega) (by omega) (by omega) (by omega) (by omega) (by omega) V_h (by omega)
      · intro C1
        refine ok_add (by omega) ?_; intro v8 e_v8
        refine ok_ck (vi_r V_h).2.1.1 ?_
        refine ok_addW (by omega) ?_; intro v10 a_v10 b_v10 w_v10
        refine ok_cP (vf_X3_byteAt hn hb1 (by omega) (by omega) V_h) ?_; intro u12 e_u12 a_u12 b_u12
        refine ok_cP (vf_X11_typeOfTag hn (by omega) (by omega) (by omega) (by omega) V_h) ?_; intro u14 e_u14 a_u14 b_u14
        refine ok_wA (by omega) ?_; intro h15 E_h15; have V_h15 : VS_ h15 := by rw [E_h15]; exact wA_133 V_h (by omega)
        exact vj_X11_takeTypes_67 hn ih (by omega) (by omega) (by omega) (by omega) (by omega) (by omega) (by omega) (by omega) (by omega) (by omega) V_h15 (by omega)
set_option maxRecDepth 4000 in
theorem vf_X11_takeTypes {nn : Nat} (hn : 1000000 ≤ nn) {a1 : Int} {a2 : Int} {h : ms_M} (a_a1 : (-2147483648) ≤ a1) (b_a1 : a1 ≤ 2147483647) (a_a2 : 3 ≤ a2) (b_a2 : a2 ≤ 6369) (V_h : VS_ h)  : Ok_ (qf_X11_takeTypes nn a1 a2 h) (QI_ (-2147483648) 2147483647) := by
  unfold qf_X11_takeTypes
  refine ok_ck (vi_r V_h).2.1.1 ?_
  have hb1 : kc_O (h 127 5).toNat = 3 := (vi_r V_h).2.1.2
  refine ok_ck hb1 ?_
  refine ok_cP (vf_X3_byteAt hn hb1 (by omega) (by omega) V_h) ?_; intro u20 e_u20 a_u20 b_u20
  refine ok_addW (by omega) ?_; intro v21 a_v21 b_v21 w_v21
  exact vw_X11_takeTypes_17 hn _ (by omega) (by omega) (by omega) (by omega) (by omega) (by omega) (by omega) (by omega) V_h (by omega)
set_option maxRecDepth 4000 in
theorem vw_X7_cellsAbove_7 {nn : Nat} (hn : 1000000 ≤ nn) : ∀ (k : Nat) {l2 : Int} {l3 : Int} {l4 : Int} {h : ms_M} (a_l2 : (-2147483648) ≤ l2) (b_l2 : l2 ≤ 2147483647) (a_l3 : (-1) ≤ l3) (b_l3 : l3 ≤ 341) (a_l4 : 0 ≤ l4) (b_l4 : l4 ≤ 16) (V_h : VS_ h)  (hm : 17 - l4 < (k : Int)), Ok_ (qw_X7_cellsAbove_7 nn k l2 l3 l4 h) (QP_ (-2147483648) 2147483647) := by
  intro k
  induction k with
  | zero => intros; exfalso; omega
  | succ k ih =>
    intro l2 l3 l4 h a_l2 b_l2 a_l3 b_l3 a_l4 b_l4 V_h hm
    unfold qw_X7_cellsAbove_7
    refine ok_if ?_ ?_
    · intro C0
      exact ok_rP (by omega) (by omega)
    · intro C0
      refine ok_cO (vf_X7_imageOf hn (by omega) (by omega) V_h) ?_; intro u2 e_u2 o_u2
      refine ok_if ?_ ?_
      · intro C1
        exact ok_rP (by omega) (by omega)
      · intro C1
        have hb1 : kc_O (u2).toNat = 3 := (o_u2.resolve_left C1)
        refine ok_ck hb1 ?_
        have T3 := gI_10 V_h hb1
        refine ok_addW (by omega) ?_; intro v6 a_v6 b_v6 w_v6
        refine ok_cP (vf_X4_above hn rfl (by omega) (by omega) V_h) ?_; intro u9 e_u9 a_u9 b_u9
        refine ok_add (by omega) ?_; intro v10 e_v10
        exact ih (by omega) (by omega) (by omega) (by omega) (by omega) (by omega) V_h (by omega)
set_option maxRecDepth 4000 in
theorem vf_X7_cellsAbove {nn : Nat} (hn : 1000000 ≤ nn) {a1 : Int} {h : ms_M} (a_a1 : (-1) ≤ a1) (b_a1 : a1 ≤ 341) (V_h : VS_ h)  : Ok_ (qf_X7_cellsAbove nn a1 h) (QP_ (-2147483648) 2147483647) := by
  unfold qf_X7_cellsAbove
  exact vw_X7_cellsAbove_7 hn _ (by omega) (by omega) (by omega) (by omega) (by omega) (by omega) V_h (by omega)
set_option maxRecDepth 4000 in
theorem vf_X3_numberOf {nn : Nat} (hn : 1000000 ≤ nn) {a0 : Nat} {a1 : Int} {h : ms_M} (hb_a0 : kc_O a0 = 3) (a_a1 : 1 ≤ a1) (b_a1 : a1 ≤ 255) (V_h : VS_ h)  : Ok_ (qf_X3_numberOf nn a0 a1 h) (QP_ (-2147483648) 2147483647) := by
  unfold qf_X3_numberOf
  refine ok_cP (vf_X3_partOf hn hb_a0 (by omega) (by omega) (by omega) (by omega) V_h) ?_; intro u2 e_u2 a_u2 b_u2
  refine ok_i32 ?_; intro v3 a_v3 b_v3
  refine ok_cP (vf_X3_partOf hn hb_a0 (by omega) (by omega) (by omega) (by omega) V_h) ?_; intro u5 e_u5 a_u5 b_u5
  refine ok_i32 ?_; intro v6 a_v6 b_v6
  refine ok_i32 ?_; intro v7 a_v7 b_v7
  refine ok_cP (vf_X3_partOf hn hb_a0 (by omega) (by omega) (by omega) (by omega) V_h) ?_; intro u9 e_u9 a_u9 b_u9
  refine ok_shl8 (by omega) ?_; intro v10 e_v10
  refine ok_i32 ?_; intro v11 a_v11 b_v11
  refine ok_cP (vf_X3_partOf hn hb_a0 (by omega) (by omega) (by omega) (by omega) V_h) ?_; intro u13 e_u13 a_u13 b_u13
  refine ok_i32 ?_; intro v14 a_v14 b_v14
  exact ok_rP (by omega) (by omega)
set_option maxRecDepth 4000 in
theorem vf_X12_where {nn : Nat} (hn : 1000000 ≤ nn) {a1 : Int} {h : ms_M} (a_a1 : (-2147483648) ≤ a1) (b_a1 : a1 ≤ 2147483647) (V_h : VS_ h)  : Ok_ (qf_X12_where nn a1 h) (QP_ (-1) 65534) := by
  unfold qf_X12_where
  refine ok_if ?_ ?_
  · intro C0
    have T2 := gF_127_2 V_h
    exact ok_rP (by omega) (by omega)
  · intro C0
    refine ok_if ?_ ?_
    · intro C2
      have T4 := gF_127_3 V_h
      exact ok_rP (by omega) (by omega)
    · intro C2
      refine ok_if ?_ ?_
      · intro C4
        have T6 := gF_127_4 V_h
        exact ok_rP (by omega) (by omega)
      · intro C4
        exact ok_rP (by omega) (by omega)
