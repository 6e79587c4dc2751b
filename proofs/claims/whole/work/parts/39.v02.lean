set_option maxRecDepth 4000 in
theorem vf_X3_isArrayText {nn : Nat} (hn : 1000000 ≤ nn) {a0 : Nat} {a1 : Int} {h : ms_M} (hb_a0 : kc_O a0 = 3) (a_a1 : 0 ≤ a1) (b_a1 : a1 ≤ 255) (V_h : VS_ h)  : Ok_ (qf_X3_isArrayText nn a0 a1 h) (QP_ 0 1) := by
  unfold qf_X3_isArrayText
  refine ok_cP (vf_X3_tagOf hn hb_a0 (by omega) (by omega) V_h) ?_; intro u2 e_u2 a_u2 b_u2
  refine ok_if ?_ ?_
  · intro C0
    exact ok_rP (by omega) (by omega)
  · intro C0
    refine ok_rd (by omega) (gIA_3 V_h hb_a0) ?_; intro v4 e_v4 a_v4 b_v4
    refine ok_cP (vf_X3_byteAt hn hb_a0 (by omega) (by omega) V_h) ?_; intro u6 e_u6 a_u6 b_u6
    refine ok_if ?_ ?_
    · intro C1
      exact ok_rP (by omega) (by omega)
    · intro C1
      exact ok_rP (by omega) (by omega)
set_option maxRecDepth 4000 in
theorem vf_X3_next {nn : Nat} (hn : 1000000 ≤ nn) {a0 : Nat} {h : ms_M} (hb_a0 : kc_O a0 = 3) (V_h : VS_ h)  : Ok_ (qf_X3_next nn a0 h) (QI_ 0 255) := by
  unfold qf_X3_next
  have T1 := gI_2 V_h hb_a0
  have T2 := gI_1 V_h hb_a0
  refine ok_if ?_ ?_
  · intro C2
    refine ok_add (by omega) ?_; intro v4 e_v4
    refine ok_xl ?_; intro h5 E_h5; have V_h5 : VS_ h5 := by rw [E_h5]; exact wI_2 V_h hb_a0 (by omega)
    have T4 : h5 a0 1 = h a0 1 := by rw [E_h5]; exact up_n (fun z => absurd z.2 (by decide))
    have T5 : h5 a0 2 = v4 := by rw [E_h5]; exact up_s
    have T6 := vi_b V_h5 (b := a0) hb_a0
    have T7 := T6.2
    refine ok_ck T6.1.1 ?_
    refine ok_sub (by omega) ?_; intro v8 e_v8
    refine ok_rT V_h5 T6.1.2 (by omega) ?_; intro v9 e_v9 a_v9 b_v9
    refine ok_and (by omega) ?_; intro v10 a_v10 b_v10
    exact ok_rI V_h5 (by omega) (by omega)
  · intro C2
    have T8 := gI_3 V_h hb_a0
    refine ok_if ?_ ?_
    · intro C8
      refine ok_xl ?_; intro h13 E_h13; have V_h13 : VS_ h13 := by rw [E_h13]; exact wI_3 V_h hb_a0 (by omega)
      exact ok_rI V_h13 (by omega) (by omega)
    · intro C8
      refine ok_xl ?_; intro h15 E_h15; have V_h15 : VS_ h15 := by rw [E_h15]; exact wI_3 V_h hb_a0 (by omega)
      exact ok_rI V_h15 (by omega) (by omega)
set_option maxRecDepth 4000 in
theorem vf_X3_partOf {nn : Nat} (hn : 1000000 ≤ nn) {a0 : Nat} {a1 : Int} {a2 : Int} {h : ms_M} (hb_a0 : kc_O a0 = 3) (a_a1 : 0 ≤ a1) (b_a1 : a1 ≤ 255) (a_a2 : 0 ≤ a2) (b_a2 : a2 ≤ 3) (V_h : VS_ h)  : Ok_ (qf_X3_partOf nn a0 a1 a2 h) (QP_ 0 255) := by
  unfold qf_X3_partOf
  refine ok_if ?_ ?_
  · intro C0
    exact ok_rP (by omega) (by omega)
  · intro C0
    have T2 := gI_7 V_h hb_a0
    refine ok_if ?_ ?_
    · intro C2
      exact ok_rP (by omega) (by omega)
    · intro C2
      refine ok_if ?_ ?_
      · intro C3
        exfalso; omega
      · intro C3
        refine ok_rd (by omega) (gIA_3 V_h hb_a0) ?_; intro v5 e_v5 a_v5 b_v5
        refine ok_add (by omega) ?_; intro v6 e_v6
        refine ok_cP (vf_X3_byteAt hn hb_a0 (by omega) (by omega) V_h) ?_; intro u8 e_u8 a_u8 b_u8
        exact ok_rP (by omega) (by omega)
set_option maxRecDepth 4000 in
theorem vj_X3_nextPlainClass_29 {nn : Nat} (hn : 1000000 ≤ nn) {l0 : Nat} {l2 : Int} {h : ms_M} (hb_l0 : kc_O l0 = 3) (a_l2 : 0 ≤ l2) (b_l2 : l2 ≤ 255) (V_h : VS_ h)  : Ok_ (qj_X3_nextPlainClass_29 nn l0 l2 h) (QI_ 0 255) := by
  unfold qj_X3_nextPlainClass_29
  have T1 := gI_2 V_h hb_l0
  refine ok_sub (by omega) ?_; intro v2 e_v2
  refine ok_cV (vf_X3_bad hn hb_l0 (by omega) (by omega) V_h) ?_; intro u4 E_u4 V_u4
  exact ok_rI V_u4 (by omega) (by omega)
set_option maxRecDepth 4000 in
theorem vf_X3_nextPlainClass {nn : Nat} (hn : 1000000 ≤ nn) {a0 : Nat} {h : ms_M} (hb_a0 : kc_O a0 = 3) (V_h : VS_ h)  : Ok_ (qf_X3_nextPlainClass nn a0 h) (QI_ 0 255) := by
  unfold qf_X3_nextPlainClass
  refine ok_cI (vf_X3_next hn hb_a0 V_h) ?_; intro u6 E_u6 V_u6 a_u6 b_u6
  refine ok_cP (vf_X3_partOf hn hb_a0 (by omega) (by omega) (by omega) (by omega) V_u6) ?_; intro u8 e_u8 a_u8 b_u8
  refine ok_cP (vf_X3_tagOf hn hb_a0 (by omega) (by omega) V_u6) ?_; intro u10 e_u10 a_u10 b_u10
  refine ok_if ?_ ?_
  · intro C0
    exact vj_X3_nextPlainClass_29 hn hb_a0 (by omega) (by omega) V_u6
  · intro C0
    refine ok_cP (vf_X3_isArrayText hn hb_a0 (by omega) (by omega) V_u6) ?_; intro u12 e_u12 a_u12 b_u12
    refine ok_if ?_ ?_
    · intro C1
      exact ok_rI V_u6 (by omega) (by omega)
    · intro C1
      exact vj_X3_nextPlainClass_29 hn hb_a0 (by omega) (by omega) V_u6
set_option maxRecDepth 4000 in
theorem vj_X3_nextUpTo_15 {nn : Nat} (hn : 1000000 ≤ nn) {l0 : Nat} {l3 : Int} {h : ms_M} (hb_l0 : kc_O l0 = 3) (a_l3 : 0 ≤ l3) (b_l3 : l3 ≤ 255) (V_h : VS_ h)  : Ok_ (qj_X3_nextUpTo_15 nn l0 l3 h) (QI_ 0 255) := by
  unfold qj_X3_nextUpTo_15
  have T1 := gI_2 V_h hb_l0
  refine ok_sub (by omega) ?_; intro v2 e_v2
  refine ok_cV (vf_X3_bad hn hb_l0 (by omega) (by omega) V_h) ?_; intro u4 E_u4 V_u4
  exact ok_rI V_u4 (by omega) (by omega)
set_option maxRecDepth 4000 in
theorem vf_X3_nextUpTo {nn : Nat} (hn : 1000000 ≤ nn) {a0 : Nat} {a1 : Int} {a2 : Int} {h : ms_M} (hb_a0 : kc_O a0 = 3) (a_a1 : (-65535) ≤ a1) (b_a1 : a1 ≤ 77) (a_a2 : 1 ≤ a2) (b_a2 : a2 ≤ 126) (V_h : VS_ h)  : Ok_ (qf_X3_nextUpTo nn a0 a1 a2 h) (QI_ 0 255) := by
  unfold qf_X3_nextUpTo
  refine ok_cI (vf_X3_next hn hb_a0 V_h) ?_; intro u6 E_u6 V_u6 a_u6 b_u6
  refine ok_if ?_ ?_
  · intro C0
    exact vj_X3_nextUpTo_15 hn hb_a0 (by omega) (by omega) V_u6
  · intro C0
    refine ok_if ?_ ?_
    · intro C1
      exact ok_rI V_u6 (by omega) (by omega)
    · intro C1
      exact vj_X3_nextUpTo_15 hn hb_a0 (by omega) (by omega) V_u6
set_option maxRecDepth 4000 in
theorem vj_X9_isName_119 {nn : Nat} (hn : 1000000 ≤ nn) {qkk_32 : Nat → Int → Int → Int → Int → ms_M → Option Int} {K_kk_32 : Int} (hk_kk_32 : ∀ {l0 : Nat} {l1 : Int} {l2 : Int} {l3 : Int} {l4 : Int} {h : ms_M} (a_l1 : 0 ≤ l1) (b_l1 : l1 ≤ 8999) (a_l2 : 0 ≤ l2) (b_l2 : l2 ≤ 6399) (a_l3 : 0 ≤ l3) (b_l3 : l3 ≤ 1) (a_l4 : 0 ≤ l4) (b_l4 : l4 ≤ 6402) (V_h : VS_ h) (t_l0 : l0 < cn_M h ∧ ly_T l0 = 1) (x_0 : l3 = 0 ∨ (0 ≤ l1 ∧ l2 ≤ ln_I h l0 ∧ l2 - l1 ≤ 12 ∧ l1 ≤ l4)) (_ : 6403 - l4 < K_kk_32), Ok_ (qkk_32 l0 l1 l2 l3 l4 h) (QP_ 0 1)) {l0 : Nat} {l1 : Int} {l2 : Int} {l4 : Int} {h : ms_M} (a_l1 : 0 ≤ l1) (b_l1 : l1 ≤ 8999) (a_l2 : 1 ≤ l2) (b_l2 : l2 ≤ 6399) (a_l4 : 0 ≤ l4) (b_l4 : l4 ≤ 6398) (V_h : VS_ h) (t_l0 : l0 < cn_M h ∧ ly_T l0 = 1) (x_0 : 0 ≤ l1 ∧ l2 ≤ ln_I h l0 ∧ l2 - l1 ≤ 12 ∧ l1 ≤ l4) (hm_kk_32 : 6403 - l4 + 0 ≤ K_kk_32) : Ok_ (qj_X9_isName_119 nn qkk_32 l0 l1 l2 l4 h) (QP_ 0 1) := by
  unfold qj_X9_isName_119
  refine ok_add (by omega) ?_; intro v1 e_v1
  exact hk_kk_32 (by omega) (by omega) (by omega) (by omega) (by omega) (by omega) (by omega) (by omega) V_h t_l0 (by omega) (by omega)
set_option maxRecDepth 4000 in
theorem vj_X9_isName_115 {nn : Nat} (hn : 1000000 ≤ nn) {qkk_32 : Nat → Int → Int → Int → Int → ms_M → Option Int} {K_kk_32 : Int} (hk_kk_32 : ∀ {l0 : Nat} {l1 : Int} {l2 : Int} {l3 : Int} {l4 : Int} {h : ms_M} (a_l1 : 0 ≤ l1) (b_l1 : l1 ≤ 8999) (a_l2 : 0 ≤ l2) (b_l2 : l2 ≤ 6399) (a_l3 : 0 ≤ l3) (b_l3 : l3 ≤ 1) (a_l4 : 0 ≤ l4) (b_l4 : l4 ≤ 6402) (V_h : VS_ h) (t_l0 : l0 < cn_M h ∧ ly_T l0 = 1) (x_0 : l3 = 0 ∨ (0 ≤ l1 ∧ l2 ≤ ln_I h l0 ∧ l2 - l1 ≤ 12 ∧ l1 ≤ l4)) (_ : 6403 - l4 < K_kk_32), Ok_ (qkk_32 l0 l1 l2 l3 l4 h) (QP_ 0 1)) {l0 : Nat} {l1 : Int} {l2 : Int} {l4 : Int} {h : ms_M} (a_l1 : 0 ≤ l1) (b_l1 : l1 ≤ 8999) (a_l2 : 1 ≤ l2) (b_l2 : l2 ≤ 6399) (a_l4 : 0 ≤ l4) (b_l4 : l4 ≤ 6398) (V_h : VS_ h) (t_l0 : l0 < cn_M h ∧ ly_T l0 = 1) (x_0 : 0 ≤ l1 ∧ l2 ≤ ln_I h l0 ∧ l2 - l1 ≤ 12 ∧ l1 ≤ l4) (hm_kk_32 : 6403 - l4 + 0 ≤ K_kk_32) : Ok_ (qj_X9_isName_115 nn qkk_32 l0 l1 l2 l4 h) (QP_ 0 1) := by
  unfold qj_X9_isName_115
  refine ok_add (by omega) ?_; intro v2 e_v2
  exact hk_kk_32 (by omega) (by omega) (by omega) (by omega) (by omega) (by omega) (by omega) (by omega) V_h t_l0 (by omega) (by omega)
set_option maxRecDepth 4000 in
theorem vj_X9_isName_108 {nn : Nat} (hn : 1000000 ≤ nn) {qkk_32 : Nat → Int → Int → Int → Int → ms_M → Option Int} {K_kk_32 : Int} (hk_kk_32 : ∀ {l0 : Nat} {l1 : Int} {l2 : Int} {l3 : Int} {l4 : Int} {h : ms_M} (a_l1 : 0 ≤ l1) (b_l1 : l1 ≤ 8999) (a_l2 : 0 ≤ l2) (b_l2 : l2 ≤ 6399) (a_l3 : 0 ≤ l3) (b_l3 : l3 ≤ 1) (a_l4 : 0 ≤ l4) (b_l4 : l4 ≤ 6402) (V_h : VS_ h) (t_l0 : l0 < cn_M h ∧ ly_T l0 = 1) (x_0 : l3 = 0 ∨ (0 ≤ l1 ∧ l2 ≤ ln_I h l0 ∧ l2 - l1 ≤ 12 ∧ l1 ≤ l4)) (_ : 6403 - l4 < K_kk_32), Ok_ (qkk_32 l0 l1 l2 l3 l4 h) (QP_ 0 1)) {l0 : Nat} {l1 : Int} {l2 : Int} {l4 : Int} {l5 : Int} {h : ms_M} (a_l1 : 0 ≤ l1) (b_l1 : l1 ≤ 6397) (a_l2 : 1 ≤ l2) (b_l2 : l2 ≤ 6399) (a_l4 : 1 ≤ l4) (b_l4 : l4 ≤ 6398) (a_l5 : (-128) ≤ l5) (b_l5 : l5 ≤ 127) (V_h : VS_ h) (t_l0 : l0 < cn_M h ∧ ly_T l0 = 1) (x_0 : 0 ≤ l1 ∧ l2 ≤ ln_I h l0 ∧ l2 - l1 ≤ 12 ∧ l1 ≤ l4) (hm_kk_32 : 6403 - l4 + 0 ≤ K_kk_32) : Ok_ (qj_X9_isName_108 nn qkk_32 l0 l1 l2 l4 l5 h) (QP_ 0 1) := by
  unfold qj_X9_isName_108
  refine ok_if ?_ ?_
  · intro C0
    exact vj_X9_isName_119 hn hk_kk_32 (by omega) (by omega) (by omega) (by omega) (by omega) (by omega) V_h t_l0 (by omega) (by omega)
  · intro C0
    exact vj_X9_isName_115 hn hk_kk_32 (by omega) (by omega) (by omega) (by omega) (by omega) (by omega) V_h t_l0 (by omega) (by omega)
set_option maxRecDepth 4000 in
theorem vj_X9_isName_81 {nn : Nat} (hn : 1000000 ≤ nn) {qkk_32 : Nat → Int → Int → Int → Int → ms_M → Option Int} {K_kk_32 : Int} (hk_kk_32 : ∀ {l0 : Nat} {l1 : Int} {l2 : Int} {l3 : Int} {l4 : Int} {h : ms_M} (a_l1 : 0 ≤ l1) (b_l1 : l1 ≤ 8999) (a_l2 : 0 ≤ l2) (b_l2 : l2 ≤ 6399) (a_l3 : 0 ≤ l3) (b_l3 : l3 ≤ 1) (a_l4 : 0 ≤ l4) (b_l4 : l4 ≤ 6402) (V_h : VS_ h) (t_l0 : l0 < cn_M h ∧ ly_T l0 = 1) (x_0 : l3 = 0 ∨ (0 ≤ l1 ∧ l2 ≤ ln_I h l0 ∧ l2 - l1 ≤ 12 ∧ l1 ≤ l4)) (_ : 6403 - l4 < K_kk_32), Ok_ (qkk_32 l0 l1 l2 l3 l4 h) (QP_ 0 1)) {l0 : Nat} {l1 : Int} {l2 : Int} {l4 : Int} {l5 : Int} {s0 : Int} {h : ms_M} (a_l1 : 0 ≤ l1) (b_l1 : l1 ≤ 8999) (a_l2 : 1 ≤ l2) (b_l2 : l2 ≤ 6399) (a_l4 : 0 ≤ l4) (b_l4 : l4 ≤ 6398) (a_l5 : (-128) ≤ l5) (b_l5 : l5 ≤ 127) (a_s0 : 0 ≤ s0) (b_s0 : s0 ≤ 1) (V_h : VS_ h) (t_l0 : l0 < cn_M h ∧ ly_T l0 = 1) (x_0 : 0 ≤ l1 ∧ l2 ≤ ln_I h l0 ∧ l2 - l1 ≤ 12 ∧ l1 ≤ l4) (hm_kk_32 : 6403 - l4 + 0 ≤ K_kk_32) : Ok_ (qj_X9_isName_81 nn qkk_32 l0 l1 l2 l4 l5 s0 h) (QP_ 0 1) := by
  unfold qj_X9_isName_81
  refine ok_if ?_ ?_
  · intro C0
    exact vj_X9_isName_115 hn hk_kk_32 (by omega) (by omega) (by omega) (by omega) (by omega) (by omega) V_h t_l0 (by omega) (by omega)
  · intro C0
    refine ok_if ?_ ?_
    · intro C1
      exact vj_X9_isName_119 hn hk_kk_32 (by omega) (by omega) (by omega) (by omega) (by omega) (by omega) V_h t_l0 (by omega) (by omega)
    · intro C1
      refine ok_if ?_ ?_
      · intro C2
        exact vj_X9_isName_108 hn hk_kk_32 (by omega) (by omega) (by omega) (by omega) (by omega) (by omega) (by omega) (by omega) V_h t_l0 (by omega) (by omega)
      · intro C2
        refine ok_if ?_ ?_
        · intro C3
          exact vj_X9_isName_115 hn hk_kk_32 (by omega) (by omega) (by omega) (by omega) (by omega) (by omega) V_h t_l0 (by omega) (by omega)
        · intro C3
          exact vj_X9_isName_108 hn hk_kk_32 (by omega) (by omega) (by omega) (by omega) (by omega) (by omega) (by omega) (by omega) V_h t_l0 (by omega) (by omega)
set_option maxRecDepth 4000 in
theorem vj_X9_isName_80 {nn : Nat} (hn : 1000000 ≤ nn) {qkk_32 : Nat → Int → Int → Int → Int → ms_M → Option Int} {K_kk_32 : Int} (hk_kk_32 : ∀ {l0 : Nat} {l1 : Int} {l2 : Int} {l3 : Int} {l4 : Int} {h : ms_M} (a_l1 : 0 ≤ l1) (b_l1 : l1 ≤ 8999) (a_l2 : 0 ≤ l2) (b_l2 : l2 ≤ 6399) (a_l3 : 0 ≤ l3) (b_l3 : l3 ≤ 1) (a_l4 : 0 ≤ l4) (b_l4 : l4 ≤ 6402) (V_h : VS_ h) (t_l0 : l0 < cn_M h ∧ ly_T l0 = 1) (x_0 : l3 = 0 ∨ (0 ≤ l1 ∧ l2 ≤ ln_I h l0 ∧ l2 - l1 ≤ 12 ∧ l1 ≤ l4)) (_ : 6403 - l4 < K_kk_32), Ok_ (qkk_32 l0 l1 l2 l3 l4 h) (QP_ 0 1)) {l0 : Nat} {l1 : Int} {l2 : Int} {l4 : Int} {l5 : Int} {h : ms_M} (a_l1 : 0 ≤ l1) (b_l1 : l1 ≤ 8999) (a_l2 : 1 ≤ l2) (b_l2 : l2 ≤ 6399) (a_l4 : 0 ≤ l4) (b_l4 : l4 ≤ 6398) (a_l5 : (-128) ≤ l5) (b_l5 : l5 ≤ 127) (V_h : VS_ h) (t_l0 : l0 < cn_M h ∧ ly_T l0 = 1) (x_0 : 0 ≤ l1 ∧ l2 ≤ ln_I h l0 ∧ l2 - l1 ≤ 12 ∧ l1 ≤ l4) (hm_kk_32 : 6403 - l4 + 0 ≤ K_kk_32) : Ok_ (qj_X9_isName_80 nn qkk_32 l0 l1 l2 l4 l5 h) (QP_ 0 1) := by
  unfold qj_X9_isName_80
  exact vj_X9_isName_81 hn hk_kk_32 (by omega) (by omega) (by omega) (by omega) (by omega) (by omega) (by omega) (by omega) (by omega) (by omega) V_h t_l0 (by omega) (by omega)
set_option maxRecDepth 4000 in
theorem vj_X9_isName_76 {nn : Nat} (hn : 1000000 ≤ nn) {qkk_32 : Nat → Int → Int → Int → Int → ms_M → Option Int} {K_kk_32 : Int} (hk_kk_32 : ∀ {l0 : Nat} {l1 : Int} {l2 : Int} {l3 : Int} {l4 : Int} {h : ms_M} (a_l1 : 0 ≤ l1) (b_l1 : l1 ≤ 8999) (a_l2 : 0 ≤ l2) (b_l2 : l2 ≤ 6399) (a_l3 : 0 ≤ l3) (b_l3 : l3 ≤ 1) (a_l4 : 0 ≤ l4) (b_l4 : l4 ≤ 6402) (V_h : VS_ h) (t_l0 : l0 < cn_M h ∧ ly_T l0 = 1) (x_0 : l3 = 0 ∨ (0 ≤ l1 ∧ l2 ≤ ln_I h l0 ∧ l2 - l1 ≤ 12 ∧ l1 ≤ l4)) (_ : 6403 - l4 < K_kk_32), Ok_ (qkk_32 l0 l1 l2 l3 l4 h) (QP_ 0 1)) {l0 : Nat} {l1 : Int} {l2 : Int} {l4 : Int} {l5 : Int} {h : ms_M} (a_l1 : 0 ≤ l1) (b_l1 : l1 ≤ 8999) (a_l2 : 1 ≤ l2) (b_l2 : l2 ≤ 6399) (a_l4 : 0 ≤ l4) (b_l4 : l4 ≤ 6398) (a_l5 : 65 ≤ l5) (b_l5 : l5 ≤ 122) (V_h : VS_ h) (t_l0 : l0 < cn_M h ∧ ly_T l0 = 1) (x_0 : 0 ≤ l1 ∧ l2 ≤ ln_I h l0 ∧ l2 - l1 ≤ 12 ∧ l1 ≤ l4) (hm_kk_32 : 6403 - l4 + 0 ≤ K_kk_32) : Ok_ (qj_X9_isName_76 nn qkk_32 l0 l1 l2 l4 l5 h) (QP_ 0 1) := by
  unfold qj_X9_isName_76
  exact vj_X9_isName_81 hn hk_kk_32 (by omega) (by omega) (by omega) (by omega) (by omega) (by omega) (by omega) (by omega) (by omega) (by omega) V_h t_l0 (by omega) (by omega)
set_option maxRecDepth 4000 in
theorem vj_X9_isName_62 {nn : Nat} (hn : 1000000 ≤ nn) {qkk_32 : Nat → Int → Int → Int → Int → ms_M → Option Int} {K_kk_32 : Int} (hk_kk_32 : ∀ {l0 : Nat} {l1 : Int} {l2 : Int} {l3 : Int} {l4 : Int} {h : ms_M} (a_l1 : 0 ≤ l1) (b_l1 : l1 ≤ 8999) (a_l2 : 0 ≤ l2) (b_l2 : l2 ≤ 6399) (a_l3 : 0 ≤ l3) (b_l3 : l3 ≤ 1) (a_l4 : 0 ≤ l4) (b_l4 : l4 ≤ 6402) (V_h : VS_ h) (t_l0 : l0 < cn_M h ∧ ly_T l0 = 1) (x_0 : l3 = 0 ∨ (0 ≤ l1 ∧ l2 ≤ ln_I h l0 ∧ l2 - l1 ≤ 12 ∧ l1 ≤ l4)) (_ : 6403 - l4 < K_kk_32), Ok_ (qkk_32 l0 l1 l2 l3 l4 h) (QP_ 0 1)) {l0 : Nat} {l1 : Int} {l2 : Int} {l4 : Int} {l5 : Int} {h : ms_M} (a_l1 : 0 ≤ l1) (b_l1 : l1 ≤ 8999) (a_l2 : 1 ≤ l2) (b_l2 : l2 ≤ 6399) (a_l4 : 0 ≤ l4) (b_l4 : l4 ≤ 6398) (a_l5 : (-128) ≤ l5) (b_l5 : l5 ≤ 127) (V_h : VS_ h) (t_l0 : l0 < cn_M h ∧ ly_T l0 = 1) (x_0 : 0 ≤ l1 ∧ l2 ≤ ln_I h l0 ∧ l2 - l1 ≤ 12 ∧ l1 ≤ l4) (hm_kk_32 : 6403 - l4 + 0 ≤ K_kk_32) : Ok_ (qj_X9_isName_62 nn qkk_32 l0 l1 l2 l4 l5 h) (QP_ 0 1) := by
  unfold qj_X9_isName_62
  refine ok_if ?_ ?_
  · intro C0
    exact vj_X9_isName_80 hn hk_kk_32 (by omega) (by omega) (by omega) (by omega) (by omega) (by omega) (by omega) (by omega) V_h t_l0 (by omega) (by omega)
  · intro C0
    refine ok_if ?_ ?_
    · intro C1
      exact vj_X9_isName_80 hn hk_kk_32 (by omega) (by omega) (by omega) (by omega) (by omega) (by omega) (by omega) (by omega) V_h t_l0 (by omega) (by omega)
    · intro C1
      exact vj_X9_isName_76 hn hk_kk_32 (by omega) (by omega) (by omega) (by omega) (by omega) (by omega) (by omega) (by omega) V_h t_l0 (by omega) (by omega)
set_option maxRecDepth 4000 in
theorem vw_X9_isName_32 {nn : Nat} (hn : 1000000 ≤ nn) : ∀ (k : Nat) {l0 : Nat} {l1 : Int} {l2 : Int} {l3 : Int} {l4 : Int} {h : ms_M} (a_l1 : 0 ≤ l1) (b_l1 : l1 ≤ 8999) (a_l2 : 0 ≤ l2) (b_l2 : l2 ≤ 6399) (a_l3 : 0 ≤ l3) (b_l3 : l3 ≤ 1) (a_l4 : 0 ≤ l4) (b_l4 : l4 ≤ 6402) (V_h : VS_ h) (t_l0 : l0 < cn_M h ∧ ly_T l0 = 1) (x_0 : l3 = 0 ∨ (0 ≤ l1 ∧ l2 ≤ ln_I h l0 ∧ l2 - l1 ≤ 12 ∧ l1 ≤ l4))  (hm : 6403 - l4 < (k : Int)), Ok_ (qw_X9_isName_32 nn k l0 l1 l2 l3 l4 h) (QP_ 0 1) := by
  intro k
  induction k with
  | zero => intros; exfalso; omega
  | succ k ih =>
    intro l0 l1 l2 l3 l4 h a_l1 b_l1 a_l2 b_l2 a_l3 b_l3 a_l4 b_l4 V_h t_l0 x_0 hm
    unfold qw_X9_isName_32
    refine ok_if ?_ ?_
    · intro C0
      refine ok_ck (by omega) ?_
      exact ok_rP (by omega) (by omega)
    · intro C0
      refine ok_if ?_ ?_
      · intro C1
        refine ok_ck (by omega) ?_
        exact ok_rP (by omega) (by omega)
      · intro C1
        refine ok_rT V_h t_l0 (by omega) ?_; intro v12 e_v12 a_v12 b_v12
        refine ok_if ?_ ?_
        · intro C2
          exact vj_X9_isName_62 hn ih (by omega) (by omega) (by omega) (by omega) (by omega) (by omega) (by omega) (by omega) V_h t_l0 (by omega) (by omega)
        · intro C2
          refine ok_if ?_ ?_
          · intro C3
            exact vj_X9_isName_76 hn ih (by omega) (by omega) (by omega) (by omega) (by omega) (by omega) (by omega) (by omega) V_h t_l0 (by omega) (by omega)
          · intro C3
            exact vj_X9_isName_62 hn ih (by omega) (by omega) (by omega) (by omega) (by omega) (by omega) (by omega) (by omega) V_h t_l0 (by omega) (by omega)
set_option maxRecDepth 4000 in
theorem vj_X9_isName_27 {nn : Nat} (hn : 1000000 ≤ nn) {l0 : Nat} {l1 : Int} {l2 : Int} {h : ms_M} (a_l1 : 0 ≤ l1) (b_l1 : l1 ≤ 6402) (a_l2 : 0 ≤ l2) (b_l2 : l2 ≤ 6398) (V_h : VS_ h) (t_l0 : l0 < cn_M h ∧ ly_T l0 = 1)  : Ok_ (qj_X9_isName_27 nn l0 l1 l2 h) (QP_ 0 1) := by
  unfold qj_X9_isName_27
  exact vw_X9_isName_32 hn _ (by omega) (by omega) (by omega) (by omega) (by omega) (by omega) (by omega) (by omega) V_h t_l0 (by omega) (by omega)
set_option maxRecDepth 4000 in
theorem vf_X9_isName {nn : Nat} (hn : 1000000 ≤ nn) {a0 : Nat} {a1 : Int} {a2 : Int} {h : ms_M} (a_a1 : 0 ≤ a1) (b_a1 : a1 ≤ 6402) (a_a2 : 0 ≤ a2) (b_a2 : a2 ≤ 6398) (V_h : VS_ h) (t_a0 : a0 < cn_M h ∧ ly_T a0 = 1)  : Ok_ (qf_X9_isName nn a0 a1 a2 h) (QP_ 0 1) := by
  unfold qf_X9_isName
  refine ok_if ?_ ?_
  · intro C0
    exfalso; omega
  · intro C0
    refine ok_if ?_ ?_
    · intro C1
      exact vj_X9_isName_27 hn (by omega) (by omega) (by omega) (by omega) V_h t_a0
    · intro C1
      refine ok_lS t_a0 ?_; intro v17 e_v17
      refine ok_if ?_ ?_
      · intro C2
        exact vj_X9_isName_27 hn (by omega) (by omega) (by omega) (by omega) V_h t_a0
      · intro C2
        refine ok_sub (by omega) ?_; intro v18 e_v18
        refine ok_if ?_ ?_
        · intro C3
          exact vj_X9_isName_27 hn (by omega) (by omega) (by omega) (by omega) V_h t_a0
        · intro C3
          exact vw_X9_isName_32 hn _ (by omega) (by omega) (by omega) (by omega) (by omega) (by omega) (by omega) (by omega) V_h t_a0 (by omega) (by omega)
set_option maxRecDepth 4000 in
theorem vj_X3_behindKind_111 {nn : Nat} (hn : 1000000 ≤ nn) {l0 : Nat} {l2 : Int} {l4 : Int} {l5 : Int} {h : ms_M} (hb_l0 : kc_O l0 = 3) (a_l2 : 0 ≤ l2) (b_l2 : l2 ≤ 6399) (a_l4 : 0 ≤ l4) (b_l4 : l4 ≤ 6401) (a_l5 : 1 ≤ l5) (b_l5 : l5 ≤ 6399) (V_h : VS_ h)  : Ok_ (qj_X3_behindKind_111 nn l0 l2 l4 l5 h) (QP_ (-1) 6399) := by
  unfold qj_X3_behindKind_111
  refine ok_if ?_ ?_
  · intro C0
    exact ok_rP (by omega) (by omega)
  · intro C0
    have T2 := gI_1 V_h hb_l0
    have T3 := vi_b V_h (b := l0) hb_l0
    have T4 := T3.2
    refine ok_ck T3.1.1 ?_
    refine ok_add (by omega) ?_; intro v2 e_v2
    refine ok_cP (vf_X9_isName hn (by omega) (by omega) (by omega) (by omega) V_h T3.1.2) ?_; intro u3 e_u3 a_u3 b_u3
    refine ok_if ?_ ?_
    · intro C4
      exact ok_rP (by omega) (by omega)
    · intro C4
      refine ok_add (by omega) ?_; intro v4 e_v4
      exact ok_rP (by omega) (by omega)
set_option maxRecDepth 4000 in
theorem vw_X3_behindKind_88 {nn : Nat} (hn : 1000000 ≤ nn) : ∀ (k : Nat) {l0 : Nat} {l2 : Int} {l4 : Int} {l5 : Int} {h : ms_M} (hb_l0 : kc_O l0 = 3) (a_l2 : 0 ≤ l2) (b_l2 : l2 ≤ 6399) (a_l4 : 0 ≤ l4) (b_l4 : l4 ≤ 6401) (a_l5 : 1 ≤ l5) (b_l5 : l5 ≤ 6399) (V_h : VS_ h)  (hm : 6400 - l5 < (k : Int)), Ok_ (qw_X3_behindKind_88 nn k l0 l2 l4 l5 h) (QP_ (-1) 6399) := by
  intro k
  induction k with
  | zero => intros; exfalso; omega
  | succ k ih =>
    intro l0 l2 l4 l5 h hb_l0 a_l2 b_l2 a_l4 b_l4 a_l5 b_l5 V_h hm
    unfold qw_X3_behindKind_88
    refine ok_if ?_ ?_
    · intro C0
      exact vj_X3_behindKind_111 hn hb_l0 (by omega) (by omega) (by omega) (by omega) (by omega) (by omega) V_h
    · intro C0
      refine ok_cP (vf_X3_byteAt hn hb_l0 (by omega) (by omega) V_h) ?_; intro u8 e_u8 a_u8 b_u8
      refine ok_if ?_ ?_
      · intro C1
        exact vj_X3_behindKind_111 hn hb_l0 (by omega) (by omega) (by omega) (by omega) (by omega) (by omega) V_h
      · intro C1
        refine ok_add (by omega) ?_; intro v9 e_v9
        exact ih hb_l0 (by omega) (by omega) (by omega) (by omega) (by omega) (by omega) V_h (by omega)
set_option maxRecDepth 4000 in
theorem vj_X3_behindKind_62 {nn : Nat} (hn : 1000000 ≤ nn) {l0 : Nat} {l2 : Int} {l4 : Int} {s0 : Int} {h : ms_M} (hb_l0 : kc_O l0 = 3) (a_l2 : 0 ≤ l2) (b_l2 : l2 ≤ 6255) (a_l4 : 0 ≤ l4) (b_l4 : l4 ≤ 6256) (a_s0 : 0 ≤ s0) (b_s0 : s0 ≤ 255) (V_h : VS_ h)  : Ok_ (qj_X3_behindKind_62 nn l0 l2 l4 s0 h) (QP_ (-1) 6399) := by
  unfold qj_X3_behindKind_62
  refine ok_if ?_ ?_
  · intro C0
    refine ok_if ?_ ?_
    · intro C1
      refine ok_add (by omega) ?_; intro v12 e_v12
      exact vw_X3_behindKind_88 hn _ hb_l0 (by omega) (by omega) (by omega) (by omega) (by omega) (by omega) V_h (by omega)
    · intro C1
      exact ok_rP (by omega) (by omega)
  · intro C0
    refine ok_add (by omega) ?_; intro v14 e_v14
    exact ok_rP (by omega) (by omega)
set_option maxRecDepth 4000 in
theorem vj_X3_behindKind_44 {nn : Nat} (hn : 1000000 ≤ nn) {l0 : Nat} {l2 : Int} {s0 : Int} {h : ms_M} (hb_l0 : kc_O l0 = 3) (a_l2 : 0 ≤ l2) (b_l2 : l2 ≤ 6255) (a_s0 : 0 ≤ s0) (b_s0 : s0 ≤ 6256) (V_h : VS_ h)  : Ok_ (qj_X3_behindKind_44 nn l0 l2 s0 h) (QP_ (-1) 6399) := by
  unfold qj_X3_behindKind_44
  refine ok_if ?_ ?_
  · intro C0
    exact vj_X3_behindKind_62 hn hb_l0 (by omega) (by omega) (by omega) (by omega) (by omega) (by omega) V_h
  · intro C0
    refine ok_cP (vf_X3_byteAt hn hb_l0 (by omega) (by omega) V_h) ?_; intro u17 e_u17 a_u17 b_u17
    exact vj_X3_behindKind_62 hn hb_l0 (by omega) (by omega) (by omega) (by omega) (by omega) (by omega) V_h
set_option maxRecDepth 4000 in
theorem vj_X3_behindKind_27 {nn : Nat} (hn : 1000000 ≤ nn) {l1 : Int} {h : ms_M} (a_l1 : 0 ≤ l1) (b_l1 : l1 ≤ 6255) (V_h : VS_ h)  : Ok_ (qj_X3_behindKind_27 nn l1 h) (QP_ (-1) 6399) := by
  unfold qj_X3_behindKind_27
  refine ok_add (by omega) ?_; intro v19 e_v19
  exact ok_rP (by omega) (by omega)
set_option maxRecDepth 4000 in
theorem vj_X3_behindKind_14 {nn : Nat} (hn : 1000000 ≤ nn) {l0 : Nat} {l1 : Int} {l2 : Int} {s0 : Int} {h : ms_M} (hb_l0 : kc_O l0 = 3) (a_l1 : 0 ≤ l1) (b_l1 : l1 ≤ 6255) (a_l2 : 0 ≤ l2) (b_l2 : l2 ≤ 6255) (a_s0 : 0 ≤ s0) (b_s0 : s0 ≤ 255) (V_h : VS_ h)  : Ok_ (qj_X3_behindKind_14 nn l0 l1 l2 s0 h) (QP_ (-1) 6399) := by
  unfold qj_X3_behindKind_14
  refine ok_if ?_ ?_
  · intro C0
    exact vj_X3_behindKind_27 hn (by omega) (by omega) V_h
  · intro C0
    refine ok_if ?_ ?_
    · intro C1
      refine ok_if ?_ ?_
      · intro C2
        exact vj_X3_behindKind_44 hn hb_l0 (by omega) (by omega) (by omega) (by omega) V_h
      · intro C2
        refine ok_add (by omega) ?_; intro v20 e_v20
        exact vj_X3_behindKind_44 hn hb_l0 (by omega) (by omega) (by omega) (by omega) V_h
    · intro C1
      exact vj_X3_behindKind_27 hn (by omega) (by omega) V_h
set_option maxRecDepth 4000 in
theorem vf_X3_behindKind {nn : Nat} (hn : 1000000 ≤ nn) {a0 : Nat} {a1 : Int} {a2 : Int} {h : ms_M} (hb_a0 : kc_O a0 = 3) (a_a1 : 0 ≤ a1) (b_a1 : a1 ≤ 6255) (a_a2 : 0 ≤ a2) (b_a2 : a2 ≤ 6255) (V_h : VS_ h)  : Ok_ (qf_X3_behindKind nn a0 a1 a2 h) (QP_ (-1) 6399) := by
  unfold qf_X3_behindKind
  refine ok_if ?_ ?_
  · intro C0
    exact vj_X3_behindKind_14 hn hb_a0 (by omega) (by omega) (by omega) (by omega) (by omega) (by omega) V_h
  · intro C0
    refine ok_cP (vf_X3_byteAt hn hb_a0 (by omega) (by omega) V_h) ?_; intro u25 e_u25 a_u25 b_u25
    exact vj_X3_behindKind_14 hn hb_a0 (by omega) (by omega) (by omega) (by omega) (by omega) (by omega) V_h
set_option maxRecDepth 4000 in
theorem vf_X3_isFieldKind {nn : Nat} (hn : 1000000 ≤ nn) {a0 : Nat} {a1 : Int} {h : ms_M} (hb_a0 : kc_O a0 = 3) (a_a1 : 0 ≤ a1) (b_a1 : a1 ≤ 255) (V_h : VS_ h)  : Ok_ (qf_X3_isFieldKind nn a0 a1 h) (QP_ 0 1) := by
  unfold qf_X3_isFieldKind
  refine ok_cP (vf_X3_tagOf hn hb_a0 (by omega) (by omega) V_h) ?_; intro u2 e_u2 a_u2 b_u2
  refine ok_if ?_ ?_
  · intro C0
    exact ok_rP (by omega) (by omega)
  · intro C0
    refine ok_rd (by omega) (gIA_3 V_h hb_a0) ?_; intro v4 e_v4 a_v4 b_v4
    refine ok_rd (by omega) (gIA_4 V_h hb_a0) ?_; intro v6 e_v6 a_v6 b_v6
    refine ok_cP (vf_X3_behindKind hn hb_a0 (by omega) (by omega) (by omega) (by omega) V_h) ?_; intro u8 e_u8 a_u8 b_u8
    refine ok_rd (by omega) (gIA_4 V_h hb_a0) ?_; intro v10 e_v10 a_v10 b_v10
    refine ok_if ?_ ?_
    · intro C1
      exact ok_rP (by omega) (by omega)
    · intro C1
      exact ok_rP (by omega) (by omega)
set_option maxRecDepth 4000 in
theorem vf_X3_isNameText {nn : Nat} (hn : 1000000 ≤ nn) {a0 : Nat} {a1 : Int} {h : ms_M} (hb_a0 : kc_O a0 = 3) (a_a1 : 0 ≤ a1) (b_a1 : a1 ≤ 255) (V_h : VS_ h)  : Ok_ (qf_X3_isNameText nn a0 a1 h) (QP_ 0 1) := by
  unfold qf_X3_isNameText
  refine ok_cP (vf_X3_tagOf hn hb_a0 (by omega) (by omega) V_h) ?_; intro u2 e_u2 a_u2 b_u2
  refine ok_if ?_ ?_
  · intro C0
    exact ok_rP (by omega) (by omega)
  · intro C0
    have T2 := gI_1 V_h hb_a0
    have T3 := vi_b V_h (b := a0) hb_a0
    have T4 := T3.2
    refine ok_ck T3.1.1 ?_
    refine ok_rd (by omega) (gIA_3 V_h hb_a0) ?_; intro v5 e_v5 a_v5 b_v5
    refine ok_rd (by omega) (gIA_4 V_h hb_a0) ?_; intro v7 e_v7 a_v7 b_v7
    refine ok_cP (vf_X9_isName hn (by omega) (by omega) (by omega) (by omega) V_h T3.1.2) ?_; intro u8 e_u8 a_u8 b_u8
    refine ok_if ?_ ?_
    · intro C4
      exact ok_rP (by omega) (by omega)
    · intro C4
      exact ok_rP (by omega) (by omega)
set_option maxRecDepth 4000 in
theorem vj_X3_parametersIn_128 {nn : Nat} (hn : 1000000 ≤ nn) {l0 : Nat} {l2 : Int} {l3 : Int} {l4 : Int} {s0 : Int} {h : ms_M} (hb_l0 : kc_O l0 = 3) (a_l2 : 1 ≤ l2) (b_l2 : l2 ≤ 6255) (a_l3 : 0 ≤ l3) (b_l3 : l3 ≤ 6254) (a_l4 : 0 ≤ l4) (b_l4 : l4 ≤ 6) (a_s0 : 0 ≤ s0) (b_s0 : s0 ≤ 1) (V_h : VS_ h)  : Ok_ (qj_X3_parametersIn_128 nn l0 l2 l3 l4 s0 h) (QP_ (-1) 6) := by
  unfold qj_X3_parametersIn_128
  refine ok_if ?_ ?_
  · intro C0
    exact ok_rP (by omega) (by omega)
  · intro C0
    refine ok_add (by omega) ?_; intro v1 e_v1
    refine ok_cP (vf_X3_behindKind hn hb_l0 (by omega) (by omega) (by omega) (by omega) V_h) ?_; intro u3 e_u3 a_u3 b_u3
    refine ok_if ?_ ?_
    · intro C1
      exact ok_rP (by omega) (by omega)
    · intro C1
      exact ok_rP (by omega) (by omega)
set_option maxRecDepth 4000 in
theorem vj_X3_parametersIn_127 {nn : Nat} (hn : 1000000 ≤ nn) {l0 : Nat} {l2 : Int} {l3 : Int} {l4 : Int} {h : ms_M} (hb_l0 : kc_O l0 = 3) (a_l2 : 1 ≤ l2) (b_l2 : l2 ≤ 6255) (a_l3 : 0 ≤ l3) (b_l3 : l3 ≤ 6254) (a_l4 : 0 ≤ l4) (b_l4 : l4 ≤ 6) (V_h : VS_ h)  : Ok_ (qj_X3_parametersIn_127 nn l0 l2 l3 l4 h) (QP_ (-1) 6) := by
  unfold qj_X3_parametersIn_127
  exact vj_X3_parametersIn_128 hn hb_l0 (by omega) (by omega) (by omega) (by omega) (by omega) (by omega) (by omega) (by omega) V_h
set_option maxRecDepth 4000 in
theorem vj_X3_parametersIn_85 {nn : Nat} (hn : 1000000 ≤ nn) {l0 : Nat} {l2 : Int} {l3 : Int} {l4 : Int} {h : ms_M} (hb_l0 : kc_O l0 = 3) (a_l2 : 0 ≤ l2) (b_l2 : l2 ≤ 6255) (a_l3 : (-1) ≤ l3) (b_l3 : l3 ≤ 6399) (a_l4 : 0 ≤ l4) (b_l4 : l4 ≤ 7) (V_h : VS_ h)  : Ok_ (qj_X3_parametersIn_85 nn l0 l2 l3 l4 h) (QP_ (-1) 6) := by
  unfold qj_X3_parametersIn_85
  refine ok_if ?_ ?_
  · intro C0
    exact ok_rP (by omega) (by omega)
  · intro C0
    refine ok_if ?_ ?_
    · intro C1
      exact ok_rP (by omega) (by omega)
    · intro C1
      refine ok_if ?_ ?_
      · intro C2
        refine ok_add (by omega) ?_; intro v6 e_v6
        refine ok_if ?_ ?_
        · intro C3
          exact vj_X3_parametersIn_127 hn hb_l0 (by omega) (by omega) (by omega) (by omega) (by omega) (by omega) V_h
        · intro C3
          refine ok_add (by omega) ?_; intro v7 e_v7
          refine ok_cP (vf_X3_byteAt hn hb_l0 (by omega) (by omega) V_h) ?_; intro u9 e_u9 a_u9 b_u9
          refine ok_if ?_ ?_
          · intro C4
            exact vj_X3_parametersIn_127 hn hb_l0 (by omega) (by omega) (by omega) (by omega) (by omega) (by omega) V_h
          · intro C4
            exact vj_X3_parametersIn_128 hn hb_l0 (by omega) (by omega) (by omega) (by omega) (by omega) (by omega) (by omega) (by omega) V_h
      · intro C2
        exact ok_rP (by omega) (by omega)
set_option maxRecDepth 4000 in
theorem vw_X3_parametersIn_45 {nn : Nat} (hn : 1000000 ≤ nn) : ∀ (k : Nat) {l0 : Nat} {l2 : Int} {l3 : Int} {l4 : Int} {h : ms_M} (hb_l0 : kc_O l0 = 3) (a_l2 : 0 ≤ l2) (b_l2 : l2 ≤ 6255) (a_l3 : (-1) ≤ l3) (b_l3 : l3 ≤ 6399) (a_l4 : 0 ≤ l4) (b_l4 : l4 ≤ 7) (V_h : VS_ h)  (hm : 8 - l4 < (k : Int)), Ok_ (qw_X3_parametersIn_45 nn k l0 l2 l3 l4 h) (QP_ (-1) 6) := by
  intro k
  induction k with
  | zero => intros; exfalso; omega
  | succ k ih =>
    intro l0 l2 l3 l4 h hb_l0 a_l2 b_l2 a_l3 b_l3 a_l4 b_l4 V_h hm
    unfold qw_X3_parametersIn_45
    refine ok_if ?_ ?_
    · intro C0
      exact vj_X3_parametersIn_85 hn hb_l0 (by omega) (by omega) (by omega) (by omega) (by omega) (by omega) V_h
    · intro C0
      refine ok_if ?_ ?_
      · intro C1
        exact vj_X3_parametersIn_85 hn hb_l0 (by omega) (by omega) (by omega) (by omega) (by omega) (by omega) V_h
      · intro C1
        refine ok_if ?_ ?_
        · intro C2
          exact vj_X3_parametersIn_85 hn hb_l0 (by omega) (by omega) (by omega) (by omega) (by omega) (by omega) V_h
        · intro C2
          refine ok_cP (vf_X3_byteAt hn hb_l0 (by omega) (by omega) V_h) ?_; intro u16 e_u16 a_u16 b_u16
          refine ok_if ?_ ?_
          · intro C3
            exact vj_X3_parametersIn_85 hn hb_l0 (by omega) (by omega) (by omega) (by omega) (by omega) (by omega) V_h
          · intro C3
            refine ok_cP (vf_X3_behindKind hn hb_l0 (by omega) (by omega) (by omega) (by omega) V_h) ?_; intro u18 e_u18 a_u18 b_u18
            refine ok_add (by omega) ?_; intro v19 e_v19
            exact ih hb_l0 (by omega) (by omega) (by omega) (by omega) (by omega) (by omega) V_h (by omega)
set_option maxRecDepth 4000 in
theorem vf_X3_parametersIn {nn : Nat} (hn : 1000000 ≤ nn) {a0 : Nat} {a1 : Int} {h : ms_M} (hb_a0 : kc_O a0 = 3) (a_a1 : 0 ≤ a1) (b_a1 : a1 ≤ 255) (V_h : VS_ h)  : Ok_ (qf_X3_parametersIn nn a0 a1 h) (QP_ (-1) 6) := by
  unfold qf_X3_parametersIn
  refine ok_cP (vf_X3_tagOf hn hb_a0 (by omega) (by omega) V_h) ?_; intro u25 e_u25 a_u25 b_u25
  refine ok_if ?_ ?_
  · intro C0
    exact ok_rP (by omega) (by omega)
  · intro C0
    refine ok_rd (by omega) (gIA_3 V_h hb_a0) ?_; intro v27 e_v27 a_v27 b_v27
    refine ok_cP (vf_X3_byteAt hn hb_a0 (by omega) (by omega) V_h) ?_; intro u29 e_u29 a_u29 b_u29
    refine ok_if ?_ ?_
    · intro C1
      refine ok_rd (by omega) (gIA_4 V_h hb_a0) ?_; intro v31 e_v31 a_v31 b_v31
      refine ok_rd (by omega) (gIA_3 V_h hb_a0) ?_; intro v33 e_v33 a_v33 b_v33
      refine ok_add (by omega) ?_; intro v34 e_v34
      exact vw_X3_parametersIn_45 hn _ hb_a0 (by omega) (by omega) (by omega) (by omega) (by omega) (by omega) V_h (by omega)
    · intro C1
      exact ok_rP (by omega) (by omega)
set_option maxRecDepth 4000 in
theorem vj_X3_checkConstant_109 {nn : Nat} (hn : 1000000 ≤ nn) {l0 : Nat} {l2 : Int} {l3 : Int} {h : ms_M} (hb_l0 : kc_O l0 = 3) (a_l2 : 0 ≤ l2) (b_l2 : l2 ≤ 6000) (a_l3 : 0 ≤ l3) (b_l3 : l3 ≤ 255) (V_h : VS_ h)  : Ok_ (qj_X3_checkConstant_109 nn l0 l2 l3 h) QV_ := by
  unfold qj_X3_checkConstant_109
  refine ok_cP (vf_X3_isFieldKind hn hb_l0 (by omega) (by omega) V_h) ?_; intro u2 e_u2 a_u2 b_u2
  refine ok_if ?_ ?_
  · intro C0
    exact ok_rV V_h
  · intro C0
    refine ok_cP (vf_X3_parametersIn hn hb_l0 (by omega) (by omega) V_h) ?_; intro u4 e_u4 a_u4 b_u4
    refine ok_if ?_ ?_
    · intro C1
      exact ok_rV V_h
    · intro C1
      refine ok_add (by omega) ?_; intro v5 e_v5
      refine ok_cV (vf_X3_bad hn hb_l0 (by omega) (by omega) V_h) ?_; intro u7 E_u7 V_u7
      exact ok_rV V_u7
set_option maxRecDepth 4000 in
theorem vj_X3_checkConstant_89 {nn : Nat} (hn : 1000000 ≤ nn) {l0 : Nat} {l1 : Int} {l2 : Int} {l3 : Int} {h : ms_M} (hb_l0 : kc_O l0 = 3) (a_l1 : 1 ≤ l1) (b_l1 : l1 ≤ 255) (a_l2 : 0 ≤ l2) (b_l2 : l2 ≤ 6000) (a_l3 : 0 ≤ l3) (b_l3 : l3 ≤ 255) (V_h : VS_ h)  : Ok_ (qj_X3_checkConstant_89 nn l0 l1 l2 l3 h) QV_ := by
  unfold qj_X3_checkConstant_89
  refine ok_cP (vf_X3_partOf hn hb_l0 (by omega) (by omega) (by omega) (by omega) V_h) ?_; intro u11 e_u11 a_u11 b_u11
  refine ok_cP (vf_X3_isNameText hn hb_l0 (by omega) (by omega) V_h) ?_; intro u13 e_u13 a_u13 b_u13
  refine ok_if ?_ ?_
  · intro C0
    exact vj_X3_checkConstant_109 hn hb_l0 (by omega) (by omega) (by omega) (by omega) V_h
  · intro C0
    refine ok_add (by omega) ?_; intro v14 e_v14
    refine ok_cV (vf_X3_bad hn hb_l0 (by omega) (by omega) V_h) ?_; intro u16 E_u16 V_u16
    exact vj_X3_checkConstant_109 hn hb_l0 (by omega) (by omega) (by omega) (by omega) V_u16
set_option maxRecDepth 4000 in
theorem vj_X3_checkConstant_53 {nn : Nat} (hn : 1000000 ≤ nn) {l0 : Nat} {l1 : Int} {l2 : Int} {h : ms_M} (hb_l0 : kc_O l0 = 3) (a_l1 : 1 ≤ l1) (b_l1 : l1 ≤ 255) (a_l2 : 0 ≤ l2) (b_l2 : l2 ≤ 6000) (V_h : VS_ h)  : Ok_ (qj_X3_checkConstant_53 nn l0 l1 l2 h) QV_ := by
  unfold qj_X3_checkConstant_53
  refine ok_rd (by omega) (gIA_2 V_h hb_l0) ?_; intro v19 e_v19 a_v19 b_v19
  refine ok_if ?_ ?_
  · intro C0
    exact ok_rV V_h
  · intro C0
    refine ok_cP (vf_X3_partOf hn hb_l0 (by omega) (by omega) (by omega) (by omega) V_h) ?_; intro u21 e_u21 a_u21 b_u21
    refine ok_cP (vf_X3_partOf hn hb_l0 (by omega) (by omega) (by omega) (by omega) V_h) ?_; intro u23 e_u23 a_u23 b_u23
    refine ok_cP (vf_X3_tagOf hn hb_l0 (by omega) (by omega) V_h) ?_; intro u25 e_u25 a_u25 b_u25
    refine ok_if ?_ ?_
    · intro C1
      exact vj_X3_checkConstant_89 hn hb_l0 (by omega) (by omega) (by omega) (by omega) (by omega) (by omega) V_h
    · intro C1
      refine ok_cV (vf_X3_bad hn hb_l0 (by omega) (by omega) V_h) ?_; intro u27 E_u27 V_u27
      exact vj_X3_checkConstant_89 hn hb_l0 (by omega) (by omega) (by omega) (by omega) (by omega) (by omega) V_u27
set_option maxRecDepth 4000 in
theorem vj_X3_checkConstant_48 {nn : Nat} (hn : 1000000 ≤ nn) {l0 : Nat} {l1 : Int} {l2 : Int} {h : ms_M} (hb_l0 : kc_O l0 = 3) (a_l1 : 1 ≤ l1) (b_l1 : l1 ≤ 255) (a_l2 : 0 ≤ l2) (b_l2 : l2 ≤ 6000) (V_h : VS_ h)  : Ok_ (qj_X3_checkConstant_48 nn l0 l1 l2 h) QV_ := by
  unfold qj_X3_checkConstant_48
  refine ok_cV (vf_X3_bad hn hb_l0 (by omega) (by omega) V_h) ?_; intro u31 E_u31 V_u31
  exact vj_X3_checkConstant_53 hn hb_l0 (by omega) (by omega) (by omega) (by omega) V_u31
set_option maxRecDepth 4000 in
theorem vf_X3_checkConstant {nn : Nat} (hn : 1000000 ≤ nn) {a0 : Nat} {a1 : Int} {h : ms_M} (hb_a0 : kc_O a0 = 3) (a_a1 : 1 ≤ a1) (b_a1 : a1 ≤ 255) (V_h : VS_ h)  : Ok_ (qf_X3_checkConstant nn a0 a1 h) QV_ := by
  unfold qf_X3_checkConstant
  refine ok_rd (by omega) (gIA_3 V_h hb_a0) ?_; intro v33 e_v33 a_v33 b_v33
  refine ok_rd (by omega) (gIA_2 V_h hb_a0) ?_; intro v35 e_v35 a_v35 b_v35
  refine ok_if ?_ ?_
  · intro C0
    exact vj_X3_checkConstant_53 hn hb_a0 (by omega) (by omega) (by omega) (by omega) V_h
  · intro C0
    refine ok_cP (vf_X3_partOf hn hb_a0 (by omega) (by omega) (by omega) (by omega) V_h) ?_; intro u37 e_u37 a_u37 b_u37
    refine ok_cP (vf_X3_isNameText hn hb_a0 (by omega) (by omega) V_h) ?_; intro u39 e_u39 a_u39 b_u39
    refine ok_if ?_ ?_
    · intro C1
      exact vj_X3_checkConstant_53 hn hb_a0 (by omega) (by omega) (by omega) (by omega) V_h
    · intro C1
      refine ok_cP (vf_X3_isArrayText hn hb_a0 (by omega) (by omega) V_h) ?_; intro u41 e_u41 a_u41 b_u41
      refine ok_if ?_ ?_
      · intro C2
        exact vj_X3_checkConstant_48 hn hb_a0 (by omega) (by omega) (by omega) (by omega) V_h
      · intro C2
        refine ok_cP (vf_X3_isFieldKind hn hb_a0 (by omega) (by omega) V_h) ?_; intro u43 e_u43 a_u43 b_u43
        refine ok_if ?_ ?_
        · intro C3
          exact vj_X3_checkConstant_53 hn hb_a0 (by omega) (by omega) (by omega) (by omega) V_h
        · intro C3
          exact vj_X3_checkConstant_48 hn hb_a0 (by omega) (by omega) (by omega) (by omega) V_h
set_option maxRecDepth 4000 in
theorem vw_X3_readConstant_84 {nn : Nat} (hn : 1000000 ≤ nn) : ∀ (k : Nat) {l0 : Nat} {l2 : Int} {l3 : Int} {l4 : Int} {h : ms_M} (hb_l0 : kc_O l0 = 3) (a_l2 : 0 ≤ l2) (b_l2 : l2 ≤ 255) (a_l3 : 0 ≤ l3) (b_l3 : l3 ≤ 255) (a_l4 : 0 ≤ l4) (b_l4 : l4 ≤ 255) (V_h : VS_ h)  (hm : 256 - l4 < (k : Int)), Ok_ (qw_X3_readConstant_84 nn k l0 l2 l3 l4 h) QV_ := by
  intro k
  induction k with
  | zero => intros; exfalso; omega
  | succ k ih =>
    intro l0 l2 l3 l4 h hb_l0 a_l2 b_l2 a_l3 b_l3 a_l4 b_l4 V_h hm
    unfold qw_X3_readConstant_84
    refine ok_if ?_ ?_
    · intro C0
      exact ok_rV V_h
    · intro C0
      have T2 := gI_3 V_h hb_l0
      refine ok_if ?_ ?_
      · intro C2
        exact ok_rV V_h
      · intro C2
        refine ok_if ?_ ?_
        · intro C3
          refine ok_cI (vf_X3_next hn hb_l0 V_h) ?_; intro u3 E_u3 V_u3 a_u3 b_u3
          refine ok_add (by omega) ?_; intro v4 e_v4
          exact ih hb_l0 (by omega) (by omega) (by omega) (by omega) (by omega) (by omega) V_u3 (by omega)
        · intro C3
          refine ok_cI (vf_X3_nextUpTo hn hb_l0 (by omega) (by omega) (by omega) (by omega) V_h) ?_; intro u6 E_u6 V_u6 a_u6 b_u6
          refine ok_add (by omega) ?_; intro v7 e_v7
          exact ih hb_l0 (by omega) (by omega) (by omega) (by omega) (by omega) (by omega) V_u6 (by omega)
set_option maxRecDepth 4000 in
theorem vj_X3_readConstant_40 {nn : Nat} (hn : 1000000 ≤ nn) {l0 : Nat} {l1 : Int} {l2 : Int} {l3 : Int} {h : ms_M} (hb_l0 : kc_O l0 = 3) (a_l1 : 1 ≤ l1) (b_l1 : l1 ≤ 255) (a_l2 : 0 ≤ l2) (b_l2 : l2 ≤ 255) (a_l3 : 0 ≤ l3) (b_l3 : l3 ≤ 255) (V_h : VS_ h)  : Ok_ (qj_X3_readConstant_40 nn l0 l1 l2 l3 h) QV_ := by
  unfold qj_X3_readConstant_40
  refine ok_wA (by omega) ?_; intro h12 E_h12; have V_h12 : VS_ h12 := by rw [E_h12]; exact wIA_2 V_h hb_l0 (by omega)
  have T1 := gI_2 V_h12 hb_l0
  refine ok_wA (by omega) ?_; intro h15 E_h15; have V_h15 : VS_ h15 := by rw [E_h15]; exact wIA_3 V_h12 hb_l0 (by omega)
  have T2 : h15 l0 2 = h12 l0 2 := by rw [E_h15]; exact up_n (by omega)
  refine ok_if ?_ ?_
  · intro C2
    refine ok_wA (by omega) ?_; intro h18 E_h18; have V_h18 : VS_ h18 := by rw [E_h18]; exact wIA_4 V_h15 hb_l0 (by omega)
    exact vw_X3_readConstant_84 hn _ hb_l0 (by omega) (by omega) (by omega) (by omega) (by omega) (by omega) V_h18 (by omega)
  · intro C2
    refine ok_add (by omega) ?_; intro v20 e_v20
    refine ok_wA (by omega) ?_; intro h21 E_h21; have V_h21 : VS_ h21 := by rw [E_h21]; exact wIA_4 V_h15 hb_l0 (by omega)
    exact vw_X3_readConstant_84 hn _ hb_l0 (by omega) (by omega) (by omega) (by omega) (by omega) (by omega) V_h21 (by omega)
set_option maxRecDepth 4000 in
theorem vj_X3_readConstant_26 {nn : Nat} (hn : 1000000 ≤ nn) {l0 : Nat} {l1 : Int} {l2 : Int} {s0 : Int} {h : ms_M} (hb_l0 : kc_O l0 = 3) (a_l1 : 1 ≤ l1) (b_l1 : l1 ≤ 255) (a_l2 : 0 ≤ l2) (b_l2 : l2 ≤ 255) (a_s0 : 1 ≤ s0) (b_s0 : s0 ≤ 4) (V_h : VS_ h)  : Ok_ (qj_X3_readConstant_26 nn l0 l1 l2 s0 h) QV_ := by
  unfold qj_X3_readConstant_26
  refine ok_if ?_ ?_
  · intro C0
    exact vj_X3_readConstant_40 hn hb_l0 (by omega) (by omega) (by omega) (by omega) (by omega) (by omega) V_h
  · intro C0
    refine ok_cI (vf_X3_nextUpTo hn hb_l0 (by omega) (by omega) (by omega) (by omega) V_h) ?_; intro u24 E_u24 V_u24 a_u24 b_u24
    exact vj_X3_readConstant_40 hn hb_l0 (by omega) (by omega) (by omega) (by omega) (by omega) (by omega) V_u24
set_option maxRecDepth 4000 in
theorem vf_X3_readConstant {nn : Nat} (hn : 1000000 ≤ nn) {a0 : Nat} {a1 : Int} {h : ms_M} (hb_a0 : kc_O a0 = 3) (a_a1 : 1 ≤ a1) (b_a1 : a1 ≤ 255) (V_h : VS_ h)  : Ok_ (qf_X3_readConstant nn a0 a1 h) QV_ := by
  unfold qf_X3_readConstant
  refine ok_cI (vf_X3_nextUpTo hn hb_a0 (by omega) (by omega) (by omega) (by omega) V_h) ?_; intro u27 E_u27 V_u27 a_u27 b_u27
  refine ok_if ?_ ?_
  · intro C0
    refine ok_if ?_ ?_
    · intro C1
      exact vj_X3_readConstant_26 hn hb_a0 (by omega) (by omega) (by omega) (by omega) (by omega) (by omega) V_u27
    · intro C1
      exact vj_X3_readConstant_26 hn hb_a0 (by omega) (by omega) (by omega) (by omega) (by omega) (by omega) V_u27
  · intro C0
    exact vj_X3_readConstant_26 hn hb_a0 (by omega) (by omega) (by omega) (by omega) (by omega) (by omega) V_u27
set_option maxRecDepth 4000 in
theorem vw_X3_readConstants_57 {nn : Nat} (hn : 1000000 ≤ nn) : ∀ (k : Nat) {l0 : Nat} {l1 : Int} {h : ms_M} (hb_l0 : kc_O l0 = 3) (a_l1 : 1 ≤ l1) (b_l1 : l1 ≤ 256) (V_h : VS_ h)  (hm : 257 - l1 < (k : Int)), Ok_ (qw_X3_readConstants_57 nn k l0 l1 h) QV_ := by
  intro k
  induction k with
  | zero => intros; exfalso; omega
  | succ k ih =>
    intro l0 l1 h hb_l0 a_l1 b_l1 V_h hm
    unfold qw_X3_readConstants_57
    have T1 := gI_7 V_h hb_l0
    refine ok_if ?_ ?_
    · intro C1
      exact ok_rV V_h
    · intro C1
      have T3 := gI_3 V_h hb_l0
      refine ok_if ?_ ?_
      · intro C3
        exact ok_rV V_h
      · intro C3
        refine ok_cV (vf_X3_checkConstant hn hb_l0 (by omega) (by omega) V_h) ?_; intro u4 E_u4 V_u4
        refine ok_add (by omega) ?_; intro v5 e_v5
        exact ih hb_l0 (by omega) (by omega) V_u4 (by omega)
set_option maxRecDepth 4000 in
theorem vw_X3_readConstants_28 {nn : Nat} (hn : 1000000 ≤ nn) : ∀ (k : Nat) {l0 : Nat} {l1 : Int} {h : ms_M} (hb_l0 : kc_O l0 = 3) (a_l1 : 1 ≤ l1) (b_l1 : l1 ≤ 256) (V_h : VS_ h)  (hm : 257 - l1 < (k : Int)), Ok_ (qw_X3_readConstants_28 nn k l0 l1 h) QV_ := by
  intro k
  induction k with
  | zero => intros; exfalso; omega
  | succ k ih =>
    intro l0 l1 h hb_l0 a_l1 b_l1 V_h hm
    unfold qw_X3_readConstants_28
    have T1 := gI_7 V_h hb_l0
    refine ok_if ?_ ?_
    · intro C1
      exact vw_X3_readConstants_57 hn _ hb_l0 (by omega) (by omega) V_h (by omega)
    · intro C1
      have T3 := gI_3 V_h hb_l0
      refine ok_if ?_ ?_
      · intro C3
        exact vw_X3_readConstants_57 hn _ hb_l0 (by omega) (by omega) V_h (by omega)
      · intro C3
        refine ok_cV (vf_X3_readConstant hn hb_l0 (by omega) (by omega) V_h) ?_; intro u11 E_u11 V_u11
        refine ok_add (by omega) ?_; intro v12 e_v12
        exact ih hb_l0 (by omega) (by omega) V_u11 (by omega)
set_option maxRecDepth 4000 in
theorem vf_X3_readConstants {nn : Nat} (hn : 1000000 ≤ nn) {a0 : Nat} {h : ms_M} (hb_a0 : kc_O a0 = 3) (V_h : VS_ h)  : Ok_ (qf_X3_readConstants nn a0 h) QV_ := by
  unfold qf_X3_readConstants
  refine ok_cI (vf_X3_nextUpTo hn hb_a0 (by omega) (by omega) (by omega) (by omega) V_h) ?_; intro u16 E_u16 V_u16 a_u16 b_u16
  refine ok_cI (vf_X3_nextUpTo hn hb_a0 (by omega) (by omega) (by omega) (by omega) V_u16) ?_; intro u18 E_u18 V_u18 a_u18 b_u18
  refine ok_cI (vf_X3_next hn hb_a0 V_u18) ?_; intro u20 E_u20 V_u20 a_u20 b_u20
  refine ok_xl ?_; intro h21 E_h21; have V_h21 : VS_ h21 := by rw [E_h21]; exact wI_7 V_u20 hb_a0 (by omega)
  exact vw_X3_readConstants_28 hn _ hb_a0 (by omega) (by omega) V_h21 (by omega)
set_option maxRecDepth 4000 in
theorem vf_X3_nextName {nn : Nat} (hn : 1000000 ≤ nn) {a0 : Nat} {h : ms_M} (hb_a0 : kc_O a0 = 3) (V_h : VS_ h)  : Ok_ (qf_X3_nextName nn a0 h) (QI_ 0 255) := by
  unfold qf_X3_nextName
  refine ok_cI (vf_X3_next hn hb_a0 V_h) ?_; intro u2 E_u2 V_u2 a_u2 b_u2
  refine ok_cP (vf_X3_isNameText hn hb_a0 (by omega) (by omega) V_u2) ?_; intro u4 e_u4 a_u4 b_u4
  refine ok_if ?_ ?_
  · intro C0
    exact ok_rI V_u2 (by omega) (by omega)
  · intro C0
    have T2 := gI_2 V_u2 hb_a0
    refine ok_sub (by omega) ?_; intro v6 e_v6
    refine ok_cV (vf_X3_bad hn hb_a0 (by omega) (by omega) V_u2) ?_; intro u8 E_u8 V_u8
    exact ok_rI V_u8 (by omega) (by omega)
set_option maxRecDepth 4000 in
theorem vj_X3_readCode_85 {nn : Nat} (hn : 1000000 ≤ nn) {l0 : Nat} {l4 : Int} {h : ms_M} (hb_l0 : kc_O l0 = 3) (a_l4 : 0 ≤ l4) (b_l4 : l4 ≤ 65535) (V_h : VS_ h)  : Ok_ (qj_X3_readCode_85 nn l0 l4 h) QV_ := by
  unfold qj_X3_readCode_85
  have T1 := gI_2 V_h hb_l0
  refine ok_add (by omega) ?_; intro v2 e_v2
  have T2 := gI_1 V_h hb_l0
  refine ok_xl ?_; intro v4 e_v4
  refine ok_xl ?_; intro h5 E_h5; have V_h5 : VS_ h5 := by rw [E_h5]; exact wI_2 V_h hb_l0 (by omega)
  exact ok_rV V_h5
set_option maxRecDepth 4000 in
theorem vj_X3_readCode_40 {nn : Nat} (hn : 1000000 ≤ nn) {l0 : Nat} {l1 : Int} {l4 : Int} {h : ms_M} (hb_l0 : kc_O l0 = 3) (a_l1 : 0 ≤ l1) (b_l1 : l1 ≤ 132) (a_l4 : 0 ≤ l4) (b_l4 : l4 ≤ 65535) (V_h : VS_ h)  : Ok_ (qj_X3_readCode_40 nn l0 l1 l4 h) QV_ := by
  unfold qj_X3_readCode_40
  refine ok_add (by omega) ?_; intro v7 e_v7
  refine ok_wA (by omega) ?_; intro h8 E_h8; have V_h8 : VS_ h8 := by rw [E_h8]; exact wIA_6 V_h hb_l0 (by omega)
  refine ok_add (by omega) ?_; intro v10 e_v10
  have T1 := gI_2 V_h8 hb_l0
  refine ok_wA (by omega) ?_; intro h12 E_h12; have V_h12 : VS_ h12 := by rw [E_h12]; exact wIA_6 V_h8 hb_l0 (by omega)
  have T2 : h12 l0 2 = h8 l0 2 := by rw [E_h12]; exact up_n (by omega)
  refine ok_add (by omega) ?_; intro v14 e_v14
  have T3 := gI_1 V_h12 hb_l0
  refine ok_if ?_ ?_
  · intro C3
    exact vj_X3_readCode_85 hn hb_l0 (by omega) (by omega) V_h12
  · intro C3
    refine ok_cV (vf_X3_bad hn hb_l0 (by omega) (by omega) V_h12) ?_; intro u18 E_u18 V_u18
    exact vj_X3_readCode_85 hn hb_l0 (by omega) (by omega) V_u18
set_option maxRecDepth 4000 in
theorem vj_X3_readCode_35 {nn : Nat} (hn : 1000000 ≤ nn) {l0 : Nat} {l1 : Int} {l2 : Int} {l4 : Int} {h : ms_M} (hb_l0 : kc_O l0 = 3) (a_l1 : 0 ≤ l1) (b_l1 : l1 ≤ 132) (a_l2 : 0 ≤ l2) (b_l2 : l2 ≤ 6000) (a_l4 : 0 ≤ l4) (b_l4 : l4 ≤ 65535) (V_h : VS_ h)  : Ok_ (qj_X3_readCode_35 nn l0 l1 l2 l4 h) QV_ := by
  unfold qj_X3_readCode_35
  refine ok_cV (vf_X3_bad hn hb_l0 (by omega) (by omega) V_h) ?_; intro u21 E_u21 V_u21
  exact vj_X3_readCode_40 hn hb_l0 (by omega) (by omega) (by omega) (by omega) V_u21
set_option maxRecDepth 4000 in
theorem vf_X3_readCode {nn : Nat} (hn : 1000000 ≤ nn) {a0 : Nat} {a1 : Int} {h : ms_M} (hb_a0 : kc_O a0 = 3) (a_a1 : 0 ≤ a1) (b_a1 : a1 ≤ 132) (V_h : VS_ h)  : Ok_ (qf_X3_readCode nn a0 a1 h) QV_ := by
  unfold qf_X3_readCode
  have T1 := gI_2 V_h hb_a0
  refine ok_cI (vf_X3_next hn hb_a0 V_h) ?_; intro u24 E_u24 V_u24 a_u24 b_u24
  refine ok_shl8 (by omega) ?_; intro v25 e_v25
  refine ok_cI (vf_X3_next hn hb_a0 V_u24) ?_; intro u27 E_u27 V_u27 a_u27 b_u27
  refine ok_or (by omega) (by omega) ?_; intro v28 a_v28 b_v28
  refine ok_if ?_ ?_
  · intro C1
    exact vj_X3_readCode_35 hn hb_a0 (by omega) (by omega) (by omega) (by omega) (by omega) (by omega) V_u27
  · intro C1
    refine ok_if ?_ ?_
    · intro C2
      exact vj_X3_readCode_40 hn hb_a0 (by omega) (by omega) (by omega) (by omega) V_u27
    · intro C2
      exact vj_X3_readCode_35 hn hb_a0 (by omega) (by omega) (by omega) (by omega) (by omega) (by omega) V_u27
set_option maxRecDepth 4000 in
theorem vf_X3_nextClass {nn : Nat} (hn : 1000000 ≤ nn) {a0 : Nat} {h : ms_M} (hb_a0 : kc_O a0 = 3) (V_h : VS_ h)  : Ok_ (qf_X3_nextClass nn a0 h) QV_ := by
  unfold qf_X3_nextClass
  refine ok_cI (vf_X3_next hn hb_a0 V_h) ?_; intro u2 E_u2 V_u2 a_u2 b_u2
  refine ok_cP (vf_X3_tagOf hn hb_a0 (by omega) (by omega) V_u2) ?_; intro u4 e_u4 a_u4 b_u4
  refine ok_if ?_ ?_
  · intro C0
    exact ok_rV V_u2
  · intro C0
    have T2 := gI_2 V_u2 hb_a0
    refine ok_sub (by omega) ?_; intro v6 e_v6
    refine ok_cV (vf_X3_bad hn hb_a0 (by omega) (by omega) V_u2) ?_; intro u8 E_u8 V_u8
    exact ok_rV V_u8
set_option maxRecDepth 4000 in
theorem vw_X3_readFrameTypes_7 {nn : Nat} (hn : 1000000 ≤ nn) : ∀ (k : Nat) {l0 : Nat} {l1 : Int} {l2 : Int} {h : ms_M} (hb_l0 : kc_O l0 = 3) (a_l1 : 0 ≤ l1) (b_l1 : l1 ≤ 255) (a_l2 : 0 ≤ l2) (b_l2 : l2 ≤ 255) (V_h : VS_ h)  (hm : 256 - l2 < (k : Int)), Ok_ (qw_X3_readFrameTypes_7 nn k l0 l1 l2 h) QV_ := by
  intro k
  induction k with
  | zero => intros; exfalso; omega
  | succ k ih =>
    intro l0 l1 l2 h hb_l0 a_l1 b_l1 a_l2 b_l2 V_h hm
    unfold qw_X3_readFrameTypes_7
    refine ok_if ?_ ?_
    · intro C0
      exact ok_rV V_h
    · intro C0
      have T2 := gI_3 V_h hb_l0
      refine ok_if ?_ ?_
      · intro C2
        exact ok_rV V_h
      · intro C2
        refine ok_cI (vf_X3_nextUpTo hn hb_l0 (by omega) (by omega) (by omega) (by omega) V_h) ?_; intro u3 E_u3 V_u3 a_u3 b_u3
        refine ok_if ?_ ?_
        · intro C3
          refine ok_add (by omega) ?_; intro v4 e_v4
          exact ih hb_l0 (by omega) (by omega) (by omega) (by omega) V_u3 (by omega)
        · intro C3
          refine ok_cV (vf_X3_nextClass hn hb_l0 V_u3) ?_; intro u6 E_u6 V_u6
          refine ok_add (by omega) ?_; intro v7 e_v7
          exact ih hb_l0 (by omega) (by omega) (by omega) (by omega) V_u6 (by omega)
set_option maxRecDepth 4000 in
theorem vf_X3_readFrameTypes {nn : Nat} (hn : 1000000 ≤ nn) {a0 : Nat} {h : ms_M} (hb_a0 : kc_O a0 = 3) (V_h : VS_ h)  : Ok_ (qf_X3_readFrameTypes nn a0 h) QV_ := by
  unfold qf_X3_readFrameTypes
  refine ok_cI (vf_X3_next hn hb_a0 V_h) ?_; intro u12 E_u12 V_u12 a_u12 b_u12
  exact vw_X3_readFrameTypes_7 hn _ hb_a0 (by omega) (by omega) (by omega) (by omega) V_u12 (by omega)
set_option maxRecDepth 4000 in
theorem vw_X3_skipPairs_2 {nn : Nat} (hn : 1000000 ≤ nn) : ∀ (k : Nat) {l0 : Nat} {l1 : Int} {l2 : Int} {h : ms_M} (hb_l0 : kc_O l0 = 3) (a_l1 : 1 ≤ l1) (b_l1 : l1 ≤ 3) (a_l2 : 0 ≤ l2) (b_l2 : l2 ≤ 6) (V_h : VS_ h)  (hm : 7 - l2 < (k : Int)), Ok_ (qw_X3_skipPairs_2 nn k l0 l1 l2 h) QV_ := by
  intro k
  induction k with
  | zero => intros; exfalso; omega
  | succ k ih =>
    intro l0 l1 l2 h hb_l0 a_l1 b_l1 a_l2 b_l2 V_h hm
    unfold qw_X3_skipPairs_2
    refine ok_mul (by omega) ?_; intro v1 e_v1
    refine ok_if ?_ ?_
    · intro C0
      exact ok_rV V_h
    · intro C0
      refine ok_cI (vf_X3_next hn hb_l0 V_h) ?_; intro u3 E_u3 V_u3 a_u3 b_u3
      refine ok_add (by omega) ?_; intro v4 e_v4
      exact ih hb_l0 (by omega) (by omega) (by omega) (by omega) V_u3 (by omega)
set_option maxRecDepth 4000 in
theorem vf_X3_skipPairs {nn : Nat} (hn : 1000000 ≤ nn) {a0 : Nat} {a1 : Int} {h : ms_M} (hb_a0 : kc_O a0 = 3) (a_a1 : 1 ≤ a1) (b_a1 : a1 ≤ 3) (V_h : VS_ h)  : Ok_ (qf_X3_skipPairs nn a0 a1 h) QV_ := by
  unfold qf_X3_skipPairs
  exact vw_X3_skipPairs_2 hn _ hb_a0 (by omega) (by omega) (by omega) (by omega) V_h (by omega)
set_option maxRecDepth 4000 in
theorem vw_X3_readFrames_33 {nn : Nat} (hn : 1000000 ≤ nn) : ∀ (k : Nat) {l0 : Nat} {l2 : Int} {l3 : Int} {h : ms_M} (hb_l0 : kc_O l0 = 3) (a_l2 : 0 ≤ l2) (b_l2 : l2 ≤ 255) (a_l3 : 0 ≤ l3) (b_l3 : l3 ≤ 255) (V_h : VS_ h)  (hm : 256 - l3 < (k : Int)), Ok_ (qw_X3_readFrames_33 nn k l0 l2 l3 h) QV_ := by
  intro k
  induction k with
  | zero => intros; exfalso; omega
  | succ k ih =>
    intro l0 l2 l3 h hb_l0 a_l2 b_l2 a_l3 b_l3 V_h hm
    unfold qw_X3_readFrames_33
    refine ok_if ?_ ?_
    · intro C0
      exact ok_rV V_h
    · intro C0
      have T2 := gI_3 V_h hb_l0
      refine ok_if ?_ ?_
      · intro C2
        exact ok_rV V_h
      · intro C2
        refine ok_cV (vf_X3_skipPairs hn hb_l0 (by omega) (by omega) V_h) ?_; intro u3 E_u3 V_u3
        refine ok_cV (vf_X3_readFrameTypes hn hb_l0 V_u3) ?_; intro u5 E_u5 V_u5
        refine ok_cV (vf_X3_readFrameTypes hn hb_l0 V_u5) ?_; intro u7 E_u7 V_u7
        refine ok_add (by omega) ?_; intro v8 e_v8
        exact ih hb_l0 (by omega) (by omega) (by omega) (by omega) V_u7 (by omega)
set_option maxRecDepth 4000 in
theorem vf_X3_readFrames {nn : Nat} (hn : 1000000 ≤ nn) {a0 : Nat} {a1 : Int} {h : ms_M} (hb_a0 : kc_O a0 = 3) (a_a1 : 0 ≤ a1) (b_a1 : a1 ≤ 132) (V_h : VS_ h)  : Ok_ (qf_X3_readFrames nn a0 a1 h) QV_ := by
  unfold qf_X3_readFrames
  refine ok_cI (vf_X3_nextUpTo hn hb_a0 (by omega) (by omega) (by omega) (by omega) V_h) ?_; intro u12 E_u12 V_u12 a_u12 b_u12
  refine ok_add (by omega) ?_; intro v14 e_v14
  refine ok_wA (by omega) ?_; intro h15 E_h15; have V_h15 : VS_ h15 := by rw [E_h15]; exact wIA_6 V_u12 hb_a0 (by omega)
  refine ok_add (by omega) ?_; intro v17 e_v17
  have T1 := gI_2 V_h15 hb_a0
  refine ok_wA (by omega) ?_; intro h19 E_h19; have V_h19 : VS_ h19 := by rw [E_h19]; exact wIA_6 V_h15 hb_a0 (by omega)
  exact vw_X3_readFrames_33 hn _ hb_a0 (by omega) (by omega) (by omega) (by omega) V_h19 (by omega)
set_option maxRecDepth 4000 in
theorem vw_X3_readHandlers_33 {nn : Nat} (hn : 1000000 ≤ nn) : ∀ (k : Nat) {l0 : Nat} {l2 : Int} {l3 : Int} {h : ms_M} (hb_l0 : kc_O l0 = 3) (a_l2 : 0 ≤ l2) (b_l2 : l2 ≤ 255) (a_l3 : 0 ≤ l3) (b_l3 : l3 ≤ 255) (V_h : VS_ h)  (hm : 256 - l3 < (k : Int)), Ok_ (qw_X3_readHandlers_33 nn k l0 l2 l3 h) QV_ := by
  intro k
  induction k with
  | zero => intros; exfalso; omega
  | succ k ih =>
    intro l0 l2 l3 h hb_l0 a_l2 b_l2 a_l3 b_l3 V_h hm
    unfold qw_X3_readHandlers_33
    refine ok_if ?_ ?_
    · intro C0
      exact ok_rV V_h
    · intro C0
      have T2 := gI_3 V_h hb_l0
      refine ok_if ?_ ?_
      · intro C2
        exact ok_rV V_h
      · intro C2
        refine ok_cV (vf_X3_skipPairs hn hb_l0 (by omega) (by omega) V_h) ?_; intro u3 E_u3 V_u3
        refine ok_cV (vf_X3_nextClass hn hb_l0 V_u3) ?_; intro u5 E_u5 V_u5
        refine ok_add (by omega) ?_; intro v6 e_v6
        exact ih hb_l0 (by omega) (by omega) (by omega) (by omega) V_u5 (by omega)
set_option maxRecDepth 4000 in
theorem vf_X3_readHandlers {nn : Nat} (hn : 1000000 ≤ nn) {a0 : Nat} {a1 : Int} {h : ms_M} (hb_a0 : kc_O a0 = 3) (a_a1 : 0 ≤ a1) (b_a1 : a1 ≤ 132) (V_h : VS_ h)  : Ok_ (qf_X3_readHandlers nn a0 a1 h) QV_ := by
  unfold qf_X3_readHandlers
  refine ok_cI (vf_X3_nextUpTo hn hb_a0 (by omega) (by omega) (by omega) (by omega) V_h) ?_; intro u10 E_u10 V_u10 a_u10 b_u10
  refine ok_add (by omega) ?_; intro v12 e_v12
  refine ok_wA (by omega) ?_; intro h13 E_h13; have V_h13 : VS_ h13 := by rw [E_h13]; exact wIA_6 V_u10 hb_a0 (by omega)
  refine ok_add (by omega) ?_; intro v15 e_v15
  have T1 := gI_2 V_h13 hb_a0
  refine ok_wA (by omega) ?_; intro h17 E_h17; have V_h17 : VS_ h17 := by rw [E_h17]; exact wIA_6 V_h13 hb_a0 (by omega)
  exact vw_X3_readHandlers_33 hn _ hb_a0 (by omega) (by omega) (by omega) (by omega) V_h17 (by omega)
set_option maxRecDepth 4000 in
theorem vj_X3_readMethod_52 {nn : Nat} (hn : 1000000 ≤ nn) {l0 : Nat} {l1 : Int} {l2 : Int} {l3 : Int} {h : ms_M} (hb_l0 : kc_O l0 = 3) (a_l1 : 0 ≤ l1) (b_l1 : l1 ≤ 132) (a_l2 : 0 ≤ l2) (b_l2 : l2 ≤ 255) (a_l3 : (-1) ≤ l3) (b_l3 : l3 ≤ 6) (V_h : VS_ h)  : Ok_ (qj_X3_readMethod_52 nn l0 l1 l2 l3 h) QV_ := by
  unfold qj_X3_readMethod_52
  refine ok_add (by omega) ?_; intro v2 e_v2
  refine ok_wA (by omega) ?_; intro h3 E_h3; have V_h3 : VS_ h3 := by rw [E_h3]; exact wIA_6 V_h hb_l0 (by omega)
  refine ok_add (by omega) ?_; intro v5 e_v5
  refine ok_wA (by omega) ?_; intro h6 E_h6; have V_h6 : VS_ h6 := by rw [E_h6]; exact wIA_6 V_h3 hb_l0 (by omega)
  refine ok_add (by omega) ?_; intro v8 e_v8
  refine ok_cI (vf_X3_nextUpTo hn hb_l0 (by omega) (by omega) (by omega) (by omega) V_h6) ?_; intro u10 E_u10 V_u10 a_u10 b_u10
  refine ok_wA (by omega) ?_; intro h11 E_h11; have V_h11 : VS_ h11 := by rw [E_h11]; exact wIA_6 V_u10 hb_l0 (by omega)
  refine ok_add (by omega) ?_; intro v13 e_v13
  refine ok_add (by omega) ?_; intro v14 e_v14
  refine ok_add (by omega) ?_; intro v16 e_v16
  refine ok_rd (by omega) (gIA_6 V_h11 hb_l0) ?_; intro v17 e_v17 a_v17 b_v17
  refine ok_sub (by omega) ?_; intro v18 e_v18
  refine ok_cI (vf_X3_nextUpTo hn hb_l0 (by omega) (by omega) (by omega) (by omega) V_h11) ?_; intro u20 E_u20 V_u20 a_u20 b_u20
  refine ok_wA (by omega) ?_; intro h21 E_h21; have V_h21 : VS_ h21 := by rw [E_h21]; exact wIA_6 V_u20 hb_l0 (by omega)
  refine ok_cV (vf_X3_readCode hn hb_l0 (by omega) (by omega) V_h21) ?_; intro u23 E_u23 V_u23
  refine ok_cV (vf_X3_readHandlers hn hb_l0 (by omega) (by omega) V_u23) ?_; intro u25 E_u25 V_u25
  refine ok_cV (vf_X3_readFrames hn hb_l0 (by omega) (by omega) V_u25) ?_; intro u27 E_u27 V_u27
  exact ok_rV V_u27
set_option maxRecDepth 4000 in
theorem vf_X3_readMethod {nn : Nat} (hn : 1000000 ≤ nn) {a0 : Nat} {a1 : Int} {h : ms_M} (hb_a0 : kc_O a0 = 3) (a_a1 : 0 ≤ a1) (b_a1 : a1 ≤ 132) (V_h : VS_ h)  : Ok_ (qf_X3_readMethod nn a0 a1 h) QV_ := by
  unfold qf_X3_readMethod
  refine ok_add (by omega) ?_; intro v29 e_v29
  refine ok_cI (vf_X3_nextUpTo hn hb_a0 (by omega) (by omega) (by omega) (by omega) V_h) ?_; intro u31 E_u31 V_u31 a_u31 b_u31
  refine ok_wA (by omega) ?_; intro h32 E_h32; have V_h32 : VS_ h32 := by rw [E_h32]; exact wIA_6 V_u31 hb_a0 (by omega)
  refine ok_add (by omega) ?_; intro v34 e_v34
  refine ok_cI (vf_X3_nextName hn hb_a0 V_h32) ?_; intro u36 E_u36 V_u36 a_u36 b_u36
  refine ok_wA (by omega) ?_; intro h37 E_h37; have V_h37 : VS_ h37 := by rw [E_h37]; exact wIA_6 V_u36 hb_a0 (by omega)
  refine ok_cI (vf_X3_next hn hb_a0 V_h37) ?_; intro u39 E_u39 V_u39 a_u39 b_u39
  refine ok_cP (vf_X3_parametersIn hn hb_a0 (by omega) (by omega) V_u39) ?_; intro u41 e_u41 a_u41 b_u41
  refine ok_if ?_ ?_
  · intro C0
    exact vj_X3_readMethod_52 hn hb_a0 (by omega) (by omega) (by omega) (by omega) (by omega) (by omega) V_u39
  · intro C0
    have T2 := gI_2 V_u39 hb_a0
    refine ok_sub (by omega) ?_; intro v43 e_v43
    refine ok_cV (vf_X3_bad hn hb_a0 (by omega) (by omega) V_u39) ?_; intro u45 E_u45 V_u45
    exact vj_X3_readMethod_52 hn hb_a0 (by omega) (by omega) (by omega) (by omega) (by omega) (by omega) V_u45
set_option maxRecDepth 4000 in
theorem vf_X3_textAt {nn : Nat} (hn : 1000000 ≤ nn) {a0 : Nat} {a1 : Int} {h : ms_M} (hb_a0 : kc_O a0 = 3) (a_a1 : (-1) ≤ a1) (b_a1 : a1 ≤ 65535) (V_h : VS_ h)  : Ok_ (qf_X3_textAt nn a0 a1 h) (QP_ 0 6000) := by
  unfold qf_X3_textAt
  refine ok_if ?_ ?_
  · intro C0
    exact ok_rP (by omega) (by omega)
  · intro C0
    have T2 := gI_7 V_h hb_a0
    refine ok_if ?_ ?_
    · intro C2
      exact ok_rP (by omega) (by omega)
    · intro C2
      refine ok_if ?_ ?_
      · intro C3
        exfalso; omega
      · intro C3
        refine ok_rd (by omega) (gIA_3 V_h hb_a0) ?_; intro v5 e_v5 a_v5 b_v5
        exact ok_rP (by omega) (by omega)
set_option maxRecDepth 4000 in
theorem vf_X3_textEnd {nn : Nat} (hn : 1000000 ≤ nn) {a0 : Nat} {a1 : Int} {h : ms_M} (hb_a0 : kc_O a0 = 3) (a_a1 : (-1) ≤ a1) (b_a1 : a1 ≤ 65535) (V_h : VS_ h)  : Ok_ (qf_X3_textEnd nn a0 a1 h) (QP_ 0 6255) := by
  unfold qf_X3_textEnd
  refine ok_if ?_ ?_
  · intro C0
    exact ok_rP (by omega) (by omega)
  · intro C0
    have T2 := gI_7 V_h hb_a0
    refine ok_if ?_ ?_
    · intro C2
      exact ok_rP (by omega) (by omega)
    · intro C2
      refine ok_if ?_ ?_
      · intro C3
        exfalso; omega
      · intro C3
        refine ok_rd (by omega) (gIA_4 V_h hb_a0) ?_; intro v5 e_v5 a_v5 b_v5
        exact ok_rP (by omega) (by omega)
set_option maxRecDepth 4000 in
theorem vj_X3_builtIn_86 {nn : Nat} (hn : 1000000 ≤ nn) {qkk_8 : Nat → Int → Int → Int → Int → Int → ms_M → Option Int} {K_kk_8 : Int} (hk_kk_8 : ∀ {l0 : Nat} {l1 : Int} {l2 : Int} {l3 : Int} {l4 : Int} {l5 : Int} {h : ms_M} (hb_l0 : kc_O l0 = 3) (a_l1 : 0 ≤ l1) (b_l1 : l1 ≤ 11999) (a_l2 : (-2) ≤ l2) (b_l2 : l2 ≤ 8999) (a_l3 : (-2147483648) ≤ l3) (b_l3 : l3 ≤ 2147483647) (a_l4 : (-2147483648) ≤ l4) (b_l4 : l4 ≤ 2147483647) (a_l5 : 0 ≤ l5) (b_l5 : l5 ≤ 300) (V_h : VS_ h) (_ : 301 - l5 < K_kk_8), Ok_ (qkk_8 l0 l1 l2 l3 l4 l5 h) (QP_ (-2147483648) 2147483647)) {l0 : Nat} {l1 : Int} {l2 : Int} {l3 : Int} {l5 : Int} {s0 : Int} {h : ms_M} (hb_l0 : kc_O l0 = 3) (a_l1 : 0 ≤ l1) (b_l1 : l1 ≤ 11999) (a_l2 : (-2) ≤ l2) (b_l2 : l2 ≤ 8999) (a_l3 : (-2147483648) ≤ l3) (b_l3 : l3 ≤ 2147483647) (a_l5 : 0 ≤ l5) (b_l5 : l5 ≤ 299) (a_s0 : (-2147483648) ≤ s0) (b_s0 : s0 ≤ 2147483647) (V_h : VS_ h) (hm_kk_8 : 301 - l5 + 0 ≤ K_kk_8) : Ok_ (qj_X3_builtIn_86 nn qkk_8 l0 l1 l2 l3 l5 s0 h) (QP_ (-2147483648) 2147483647) := by
  unfold qj_X3_builtIn_86
  refine ok_add (by omega) ?_; intro v1 e_v1
  exact hk_kk_8 hb_l0 (by omega) (by omega) (by omega) (by omega) (by omega) (by omega) (by omega) (by omega) (by omega) (by omega) V_h (by omega)
set_option maxRecDepth 4000 in
theorem vj_X3_builtIn_71 {nn : Nat} (hn : 1000000 ≤ nn) {qkk_8 : Nat → Int → Int → Int → Int → Int → ms_M → Option Int} {K_kk_8 : Int} (hk_kk_8 : ∀ {l0 : Nat} {l1 : Int} {l2 : Int} {l3 : Int} {l4 : Int} {l5 : Int} {h : ms_M} (hb_l0 : kc_O l0 = 3) (a_l1 : 0 ≤ l1) (b_l1 : l1 ≤ 11999) (a_l2 : (-2) ≤ l2) (b_l2 : l2 ≤ 8999) (a_l3 : (-2147483648) ≤ l3) (b_l3 : l3 ≤ 2147483647) (a_l4 : (-2147483648) ≤ l4) (b_l4 : l4 ≤ 2147483647) (a_l5 : 0 ≤ l5) (b_l5 : l5 ≤ 300) (V_h : VS_ h) (_ : 301 - l5 < K_kk_8), Ok_ (qkk_8 l0 l1 l2 l3 l4 l5 h) (QP_ (-2147483648) 2147483647)) {l0 : Nat} {l1 : Int} {l2 : Int} {l3 : Int} {l4 : Int} {l5 : Int} {s0 : Int} {h : ms_M} (hb_l0 : kc_O l0 = 3) (a_l1 : 0 ≤ l1) (b_l1 : l1 ≤ 11999) (a_l2 : (-2) ≤ l2) (b_l2 : l2 ≤ 8999) (a_l3 : (-2147483648) ≤ l3) (b_l3 : l3 ≤ 2147483647) (a_l4 : (-2147483648) ≤ l4) (b_l4 : l4 ≤ 2147483647) (a_l5 : 0 ≤ l5) (b_l5 : l5 ≤ 299) (a_s0 : 0 ≤ s0) (b_s0 : s0 ≤ 1) (V_h : VS_ h) (hm_kk_8 : 301 - l5 + 0 ≤ K_kk_8) : Ok_ (qj_X3_builtIn_71 nn qkk_8 l0 l1 l2 l3 l4 l5 s0 h) (QP_ (-2147483648) 2147483647) := by
  unfold qj_X3_builtIn_71
  refine ok_if ?_ ?_
  · intro C0
    exact vj_X3_builtIn_86 hn hk_kk_8 hb_l0 (by omega) (by omega) (by omega) (by omega) (by omega) (by omega) (by omega) (by omega) (by omega) (by omega) V_h (by omega)
  · intro C0
    refine ok_addW (by omega) ?_; intro v2 a_v2 b_v2 w_v2
    exact vj_X3_builtIn_86 hn hk_kk_8 hb_l0 (by omega) (by omega) (by omega) (by omega) (by omega) (by omega) (by omega) (by omega) (by omega) (by omega) V_h (by omega)
set_option maxRecDepth 4000 in
theorem vj_X3_builtIn_70 {nn : Nat} (hn : 1000000 ≤ nn) {qkk_8 : Nat → Int → Int → Int → Int → Int → ms_M → Option Int} {K_kk_8 : Int} (hk_kk_8 : ∀ {l0 : Nat} {l1 : Int} {l2 : Int} {l3 : Int} {l4 : Int} {l5 : Int} {h : ms_M} (hb_l0 : kc_O l0 = 3) (a_l1 : 0 ≤ l1) (b_l1 : l1 ≤ 11999) (a_l2 : (-2) ≤ l2) (b_l2 : l2 ≤ 8999) (a_l3 : (-2147483648) ≤ l3) (b_l3 : l3 ≤ 2147483647) (a_l4 : (-2147483648) ≤ l4) (b_l4 : l4 ≤ 2147483647) (a_l5 : 0 ≤ l5) (b_l5 : l5 ≤ 300) (V_h : VS_ h) (_ : 301 - l5 < K_kk_8), Ok_ (qkk_8 l0 l1 l2 l3 l4 l5 h) (QP_ (-2147483648) 2147483647)) {l0 : Nat} {l1 : Int} {l2 : Int} {l3 : Int} {l4 : Int} {l5 : Int} {h : ms_M} (hb_l0 : kc_O l0 = 3) (a_l1 : 0 ≤ l1) (b_l1 : l1 ≤ 11999) (a_l2 : (-2) ≤ l2) (b_l2 : l2 ≤ 8999) (a_l3 : (-2147483648) ≤ l3) (b_l3 : l3 ≤ 2147483647) (a_l4 : (-2147483648) ≤ l4) (b_l4 : l4 ≤ 2147483647) (a_l5 : 0 ≤ l5) (b_l5 : l5 ≤ 299) (V_h : VS_ h) (hm_kk_8 : 301 - l5 + 0 ≤ K_kk_8) : Ok_ (qj_X3_builtIn_70 nn qkk_8 l0 l1 l2 l3 l4 l5 h) (QP_ (-2147483648) 2147483647) := by
  unfold qj_X3_builtIn_70
  exact vj_X3_builtIn_71 hn hk_kk_8 hb_l0 (by omega) (by omega) (by omega) (by omega) (by omega) (by omega) (by omega) (by omega) (by omega) (by omega) (by omega) (by omega) V_h (by omega)
set_option maxRecDepth 4000 in
theorem vw_X3_builtIn_8 {nn : Nat} (hn : 1000000 ≤ nn) : ∀ (k : Nat) {l0 : Nat} {l1 : Int} {l2 : Int} {l3 : Int} {l4 : Int} {l5 : Int} {h : ms_M} (hb_l0 : kc_O l0 = 3) (a_l1 : 0 ≤ l1) (b_l1 : l1 ≤ 11999) (a_l2 : (-2) ≤ l2) (b_l2 : l2 ≤ 8999) (a_l3 : (-2147483648) ≤ l3) (b_l3 : l3 ≤ 2147483647) (a_l4 : (-2147483648) ≤ l4) (b_l4 : l4 ≤ 2147483647) (a_l5 : 0 ≤ l5) (b_l5 : l5 ≤ 300) (V_h : VS_ h)  (hm : 301 - l5 < (k : Int)), Ok_ (qw_X3_builtIn_8 nn k l0 l1 l2 l3 l4 l5 h) (QP_ (-2147483648) 2147483647) := by
  intro k
  induction k with
  | zero => intros; exfalso; omega
  | succ k ih =>
    intro l0 l1 l2 l3 l4 l5 h hb_l0 a_l1 b_l1 a_l2 b_l2 a_l3 b_l3 a_l4 b_l4 a_l5 b_l5 V_h hm
    unfold qw_X3_builtIn_8
    refine ok_lX1 ?_
    refine ok_if ?_ ?_
    · intro C0
      exact ok_rP (by omega) (by omega)
    · intro C0
      refine ok_rX1 (by omega) ?_; intro v5 a_v5 b_v5
      refine ok_if ?_ ?_
      · intro C1
        refine ok_if ?_ ?_
        · intro C2
          refine ok_addW (by omega) ?_; intro v6 a_v6 b_v6 w_v6
          refine ok_add (by omega) ?_; intro v7 e_v7
          exact ih hb_l0 (by omega) (by omega) (by omega) (by omega) (by omega) (by omega) (by omega) (by omega) (by omega) (by omega) V_h (by omega)
        · intro C2
          exact ok_rP (by omega) (by omega)
      · intro C1
        refine ok_if ?_ ?_
        · intro C3
          exact vj_X3_builtIn_70 hn ih hb_l0 (by omega) (by omega) (by omega) (by omega) (by omega) (by omega) (by omega) (by omega) (by omega) (by omega) V_h (by omega)
        · intro C3
          refine ok_if ?_ ?_
          · intro C4
            exact vj_X3_builtIn_70 hn ih hb_l0 (by omega) (by omega) (by omega) (by omega) (by omega) (by omega) (by omega) (by omega) (by omega) (by omega) V_h (by omega)
          · intro C4
            have T6 := gI_1 V_h hb_l0
            refine ok_if ?_ ?_
            · intro C6
              exact vj_X3_builtIn_70 hn ih hb_l0 (by omega) (by omega) (by omega) (by omega) (by omega) (by omega) (by omega) (by omega) (by omega) (by omega) V_h (by omega)
            · intro C6
              have T8 := vi_b V_h (b := l0) hb_l0
              have T9 := T8.2
              refine ok_ck T8.1.1 ?_
              refine ok_rT V_h T8.1.2 (by omega) ?_; intro v11 e_v11 a_v11 b_v11
              refine ok_if ?_ ?_
              · intro C9
                exact vj_X3_builtIn_70 hn ih hb_l0 (by omega) (by omega) (by omega) (by omega) (by omega) (by omega) (by omega) (by omega) (by omega) (by omega) V_h (by omega)
              · intro C9
                exact vj_X3_builtIn_71 hn ih hb_l0 (by omega) (by omega) (by omega) (by omega) (by omega) (by omega) (by omega) (by omega) (by omega) (by omega) (by omega) (by omega) V_h (by omega)
set_option maxRecDepth 4000 in
theorem vf_X3_builtIn {nn : Nat} (hn : 1000000 ≤ nn) {a0 : Nat} {a1 : Int} {a2 : Int} {h : ms_M} (hb_a0 : kc_O a0 = 3) (a_a1 : 0 ≤ a1) (b_a1 : a1 ≤ 11999) (a_a2 : (-2) ≤ a2) (b_a2 : a2 ≤ 8999) (V_h : VS_ h)  : Ok_ (qf_X3_builtIn nn a0 a1 a2 h) (QP_ (-2147483648) 2147483647) := by
  unfold qf_X3_builtIn
  exact vw_X3_builtIn_8 hn _ hb_a0 (by omega) (by omega) (by omega) (by omega) (by omega) (by omega) (by omega) (by omega) (by omega) (by omega) V_h (by omega)
