set_option maxRecDepth 4000 in
theorem vf_X5_forget {nn : Nat} (hn : 1000000 ≤ nn) {h : ms_M} (V_h : VS_ h)  : Ok_ (qf_X5_forget nn h) QV_ := by
  unfold qf_X5_forget
  refine ok_xl ?_; intro h1 E_h1; have V_h1 : VS_ h1 := by rw [E_h1]; exact wF_143_1 V_h (by omega)
  refine ok_xl ?_; intro h2 E_h2; have V_h2 : VS_ h2 := by rw [E_h2]; exact wF_143_2 V_h1 (by omega)
  refine ok_xl ?_; intro h3 E_h3; have V_h3 : VS_ h3 := by rw [E_h3]; exact wF_143_3 V_h2 (by omega)
  refine ok_xl ?_; intro h4 E_h4; have V_h4 : VS_ h4 := by rw [E_h4]; exact wF_143_4 V_h3 (by omega)
  refine ok_xl ?_; intro h5 E_h5; have V_h5 : VS_ h5 := by rw [E_h5]; exact wF_143_5 V_h4 (by omega)
  refine ok_xl ?_; intro h6 E_h6; have V_h6 : VS_ h6 := by rw [E_h6]; exact wF_143_6 V_h5 (by omega)
  refine ok_xl ?_; intro h7 E_h7; have V_h7 : VS_ h7 := by rw [E_h7]; exact wF_143_7 V_h6 (by omega)
  exact ok_rV V_h7
set_option maxRecDepth 4000 in
theorem vw_X4_settle_38 {nn : Nat} (hn : 1000000 ≤ nn) {qkk_2 : Nat → Int → ms_M → Option ms_M} {K_kk_2 : Int} (hk_kk_2 : ∀ {l0 : Nat} {l1 : Int} {h : ms_M} (hb_l0 : kc_O l0 = 4) (a_l1 : 0 ≤ l1) (b_l1 : l1 ≤ 16) (V_h : VS_ h) (_ : 17 - l1 < K_kk_2), Ok_ (qkk_2 l0 l1 h) QV_) : ∀ (k : Nat) {l0 : Nat} {l1 : Int} {l2 : Int} {l3 : Int} {h : ms_M} (hb_l0 : kc_O l0 = 4) (a_l1 : 0 ≤ l1) (b_l1 : l1 ≤ 15) (a_l2 : (-1) ≤ l2) (b_l2 : l2 ≤ 341) (a_l3 : 0 ≤ l3) (b_l3 : l3 ≤ 16) (V_h : VS_ h) (hm_kk_2 : 17 - l1 + 0 ≤ K_kk_2) (hm : 17 - l3 < (k : Int)), Ok_ (qw_X4_settle_38 nn qkk_2 k l0 l1 l2 l3 h) QV_ := by
  intro k
  induction k with
  | zero => intros; exfalso; omega
  | succ k ih =>
    intro l0 l1 l2 l3 h hb_l0 a_l1 b_l1 a_l2 b_l2 a_l3 b_l3 V_h hm_kk_2 hm
    unfold qw_X4_settle_38
    refine ok_if ?_ ?_
    · intro C0
      refine ok_add (by omega) ?_; intro v1 e_v1
      exact hk_kk_2 hb_l0 (by omega) (by omega) V_h (by omega)
    · intro C0
      refine ok_if ?_ ?_
      · intro C1
        refine ok_add (by omega) ?_; intro v2 e_v2
        exact hk_kk_2 hb_l0 (by omega) (by omega) V_h (by omega)
      · intro C1
        refine ok_if ?_ ?_
        · intro C2
          refine ok_add (by omega) ?_; intro v3 e_v3
          exact hk_kk_2 hb_l0 (by omega) (by omega) V_h (by omega)
        · intro C2
          refine ok_mul (by omega) ?_; intro v5 e_v5
          refine ok_add (by omega) ?_; intro v6 e_v6
          refine ok_wZ (by omega) (by omega) ?_; intro h7 E_h7; have V_h7 : VS_ h7 := by rw [E_h7]; exact wKA_2 V_h hb_l0 (by omega)
          refine ok_rd (by omega) (gKA_1 V_h7 hb_l0) ?_; intro v9 e_v9 a_v9 b_v9
          refine ok_add (by omega) ?_; intro v10 e_v10
          exact ih hb_l0 (by omega) (by omega) (by omega) (by omega) (by omega) (by omega) V_h7 (by omega) (by omega)
set_option maxRecDepth 4000 in
theorem vw_X4_settle_10 {nn : Nat} (hn : 1000000 ≤ nn) {qkk_2 : Nat → Int → ms_M → Option ms_M} {K_kk_2 : Int} (hk_kk_2 : ∀ {l0 : Nat} {l1 : Int} {h : ms_M} (hb_l0 : kc_O l0 = 4) (a_l1 : 0 ≤ l1) (b_l1 : l1 ≤ 16) (V_h : VS_ h) (_ : 17 - l1 < K_kk_2), Ok_ (qkk_2 l0 l1 h) QV_) : ∀ (k : Nat) {l0 : Nat} {l1 : Int} {l2 : Int} {h : ms_M} (hb_l0 : kc_O l0 = 4) (a_l1 : 0 ≤ l1) (b_l1 : l1 ≤ 15) (a_l2 : 0 ≤ l2) (b_l2 : l2 ≤ 16) (V_h : VS_ h) (hm_kk_2 : 17 - l1 + 0 ≤ K_kk_2) (hm : 17 - l2 < (k : Int)), Ok_ (qw_X4_settle_10 nn qkk_2 k l0 l1 l2 h) QV_ := by
  intro k
  induction k with
  | zero => intros; exfalso; omega
  | succ k ih =>
    intro l0 l1 l2 h hb_l0 a_l1 b_l1 a_l2 b_l2 V_h hm_kk_2 hm
    unfold qw_X4_settle_10
    refine ok_if ?_ ?_
    · intro C0
      exact vw_X4_settle_38 hn hk_kk_2 _ hb_l0 (by omega) (by omega) (by omega) (by omega) (by omega) (by omega) V_h (by omega) (by omega)
    · intro C0
      refine ok_mul (by omega) ?_; intro v15 e_v15
      refine ok_add (by omega) ?_; intro v16 e_v16
      refine ok_wZ (by omega) (by omega) ?_; intro h17 E_h17; have V_h17 : VS_ h17 := by rw [E_h17]; exact wKA_2 V_h hb_l0 (by omega)
      refine ok_add (by omega) ?_; intro v18 e_v18
      exact ih hb_l0 (by omega) (by omega) (by omega) (by omega) V_h17 (by omega) (by omega)
set_option maxRecDepth 4000 in
theorem vw_X4_settle_2 {nn : Nat} (hn : 1000000 ≤ nn) : ∀ (k : Nat) {l0 : Nat} {l1 : Int} {h : ms_M} (hb_l0 : kc_O l0 = 4) (a_l1 : 0 ≤ l1) (b_l1 : l1 ≤ 16) (V_h : VS_ h)  (hm : 17 - l1 < (k : Int)), Ok_ (qw_X4_settle_2 nn k l0 l1 h) QV_ := by
  intro k
  induction k with
  | zero => intros; exfalso; omega
  | succ k ih =>
    intro l0 l1 h hb_l0 a_l1 b_l1 V_h hm
    unfold qw_X4_settle_2
    refine ok_if ?_ ?_
    · intro C0
      exact ok_rV V_h
    · intro C0
      exact vw_X4_settle_10 hn ih _ hb_l0 (by omega) (by omega) (by omega) (by omega) V_h (by omega) (by omega)
set_option maxRecDepth 4000 in
theorem vf_X4_settle {nn : Nat} (hn : 1000000 ≤ nn) {a0 : Nat} {h : ms_M} (hb_a0 : kc_O a0 = 4) (V_h : VS_ h)  : Ok_ (qf_X4_settle nn a0 h) QV_ := by
  unfold qf_X4_settle
  exact vw_X4_settle_2 hn _ hb_a0 (by omega) (by omega) V_h (by omega)
set_option maxRecDepth 4000 in
theorem vw_X4_forget_10 {nn : Nat} (hn : 1000000 ≤ nn) : ∀ (k : Nat) {l0 : Nat} {l1 : Int} {h : ms_M} (hb_l0 : kc_O l0 = 4) (a_l1 : 1 ≤ l1) (b_l1 : l1 ≤ 8) (V_h : VS_ h)  (hm : 9 - l1 < (k : Int)), Ok_ (qw_X4_forget_10 nn k l0 l1 h) QV_ := by
  intro k
  induction k with
  | zero => intros; exfalso; omega
  | succ k ih =>
    intro l0 l1 h hb_l0 a_l1 b_l1 V_h hm
    unfold qw_X4_forget_10
    refine ok_if ?_ ?_
    · intro C0
      refine ok_cV (vf_X4_settle hn hb_l0 V_h) ?_; intro u2 E_u2 V_u2
      exact ok_rV V_u2
    · intro C0
      refine ok_if ?_ ?_
      · intro C1
        refine ok_wA (by omega) ?_; intro h4 E_h4; have V_h4 : VS_ h4 := by rw [E_h4]; exact wKA_1 V_h hb_l0 (by omega)
        refine ok_add (by omega) ?_; intro v5 e_v5
        exact ih hb_l0 (by omega) (by omega) V_h4 (by omega)
      · intro C1
        refine ok_wA (by omega) ?_; intro h6 E_h6; have V_h6 : VS_ h6 := by rw [E_h6]; exact wKA_1 V_h hb_l0 (by omega)
        refine ok_add (by omega) ?_; intro v7 e_v7
        exact ih hb_l0 (by omega) (by omega) V_h6 (by omega)
set_option maxRecDepth 4000 in
theorem vf_X4_forget {nn : Nat} (hn : 1000000 ≤ nn) {a0 : Nat} {h : ms_M} (hb_a0 : kc_O a0 = 4) (V_h : VS_ h)  : Ok_ (qf_X4_forget nn a0 h) QV_ := by
  unfold qf_X4_forget
  refine ok_cV (vfillK hn V_h hb_a0 (by omega)) ?_; intro u11 E_u11 V_u11
  exact vw_X4_forget_10 hn _ hb_a0 (by omega) (by omega) V_u11 (by omega)
set_option maxRecDepth 4000 in
theorem vf_X7_forget {nn : Nat} (hn : 1000000 ≤ nn) {h : ms_M} (V_h : VS_ h)  : Ok_ (qf_X7_forget nn h) QV_ := by
  unfold qf_X7_forget
  refine ok_xl ?_; intro h1 E_h1; have V_h1 : VS_ h1 := by rw [E_h1]; exact wF_56_3 V_h (by omega)
  refine ok_xl ?_; intro h2 E_h2; have V_h2 : VS_ h2 := by rw [E_h2]; exact wF_56_4 V_h1 (by omega)
  refine ok_cV (vf_X4_forget hn rfl V_h2) ?_; intro u5 E_u5 V_u5
  exact ok_rV V_u5
set_option maxRecDepth 4000 in
theorem vf_X12_clear {nn : Nat} (hn : 1000000 ≤ nn) {h : ms_M} (V_h : VS_ h)  : Ok_ (qf_X12_clear nn h) QV_ := by
  unfold qf_X12_clear
  refine ok_cV (vf_X7_forget hn V_h) ?_; intro u3 E_u3 V_u3
  refine ok_cV (vf_X5_forget hn V_u3) ?_; intro u6 E_u6 V_u6
  exact ok_rV V_u6
set_option maxRecDepth 4000 in
theorem vf_X2_isOwn {nn : Nat} (hn : 1000000 ≤ nn) {a0 : Int} {h : ms_M} (a_a0 : (-1) ≤ a0) (b_a0 : a0 ≤ 2147483647) (V_h : VS_ h)  : Ok_ (qf_X2_isOwn nn a0 h) (QP_ 0 1) := by
  unfold qf_X2_isOwn
  refine ok_if ?_ ?_
  · intro C0
    exact ok_rP (by omega) (by omega)
  · intro C0
    refine ok_if ?_ ?_
    · intro C1
      exact ok_rP (by omega) (by omega)
    · intro C1
      exact ok_rP (by omega) (by omega)
set_option maxRecDepth 4000 in
theorem vf_X2_fieldsOf {nn : Nat} (hn : 1000000 ≤ nn) {a1 : Int} {h : ms_M} (a_a1 : 0 ≤ a1) (b_a1 : a1 ≤ 333) (V_h : VS_ h)  : Ok_ (qf_X2_fieldsOf nn a1 h) (QP_ 0 12) := by
  unfold qf_X2_fieldsOf
  refine ok_add (by omega) ?_; intro v1 e_v1
  refine ok_cP (vf_X2_isOwn hn (by omega) (by omega) V_h) ?_; intro u2 e_u2 a_u2 b_u2
  have T1 := pr_X2_isOwn e_u2
  refine ok_if ?_ ?_
  · intro C1
    exact ok_rP (by omega) (by omega)
  · intro C1
    refine ok_rd (by omega) (gA_17 V_h) ?_; intro v4 e_v4 a_v4 b_v4
    exact ok_rP (by omega) (by omega)
set_option maxRecDepth 4000 in
theorem vf_X2_kindOfField {nn : Nat} (hn : 1000000 ≤ nn) {a1 : Int} {h : ms_M} (a_a1 : (-1) ≤ a1) (b_a1 : a1 ≤ 4007) (V_h : VS_ h)  : Ok_ (qf_X2_kindOfField nn a1 h) (QP_ (-1) 1739) := by
  unfold qf_X2_kindOfField
  refine ok_if ?_ ?_
  · intro C0
    exact ok_rP (by omega) (by omega)
  · intro C0
    refine ok_if ?_ ?_
    · intro C1
      exact ok_rP (by omega) (by omega)
    · intro C1
      refine ok_rd (by omega) (gA_20 V_h) ?_; intro v4 e_v4 a_v4 b_v4
      exact ok_rP (by omega) (by omega)
set_option maxRecDepth 4000 in
theorem vf_X2_methodsOf {nn : Nat} (hn : 1000000 ≤ nn) {a1 : Int} {h : ms_M} (a_a1 : 0 ≤ a1) (b_a1 : a1 ≤ 333) (V_h : VS_ h)  : Ok_ (qf_X2_methodsOf nn a1 h) (QP_ 0 12) := by
  unfold qf_X2_methodsOf
  refine ok_add (by omega) ?_; intro v1 e_v1
  refine ok_cP (vf_X2_isOwn hn (by omega) (by omega) V_h) ?_; intro u2 e_u2 a_u2 b_u2
  have T1 := pr_X2_isOwn e_u2
  refine ok_if ?_ ?_
  · intro C1
    exact ok_rP (by omega) (by omega)
  · intro C1
    refine ok_rd (by omega) (gA_21 V_h) ?_; intro v4 e_v4 a_v4 b_v4
    exact ok_rP (by omega) (by omega)
set_option maxRecDepth 4000 in
theorem vf_X2_nameOfField {nn : Nat} (hn : 1000000 ≤ nn) {a1 : Int} {h : ms_M} (a_a1 : (-1) ≤ a1) (b_a1 : a1 ≤ 4007) (V_h : VS_ h)  : Ok_ (qf_X2_nameOfField nn a1 h) (QP_ (-1) 2147483647) := by
  unfold qf_X2_nameOfField
  refine ok_if ?_ ?_
  · intro C0
    exact ok_rP (by omega) (by omega)
  · intro C0
    refine ok_if ?_ ?_
    · intro C1
      exact ok_rP (by omega) (by omega)
    · intro C1
      refine ok_rd (by omega) (gA_18 V_h) ?_; intro v4 e_v4 a_v4 b_v4
      exact ok_rP (by omega) (by omega)
set_option maxRecDepth 4000 in
theorem vf_X4_isClass {nn : Nat} (hn : 1000000 ≤ nn) {a0 : Int} {h : ms_M} (a_a0 : (-2147483648) ≤ a0) (b_a0 : a0 ≤ 2147483647) (V_h : VS_ h)  : Ok_ (qf_X4_isClass nn a0 h) (QP_ 0 1) := by
  unfold qf_X4_isClass
  refine ok_if ?_ ?_
  · intro C0
    exact ok_rP (by omega) (by omega)
  · intro C0
    refine ok_if ?_ ?_
    · intro C1
      exact ok_rP (by omega) (by omega)
    · intro C1
      exact ok_rP (by omega) (by omega)
set_option maxRecDepth 4000 in
theorem vf_X4_above {nn : Nat} (hn : 1000000 ≤ nn) {a0 : Nat} {a1 : Int} {h : ms_M} (hb_a0 : kc_O a0 = 4) (a_a1 : 0 ≤ a1) (b_a1 : a1 ≤ 341) (V_h : VS_ h)  : Ok_ (qf_X4_above nn a0 a1 h) (QP_ (-1) 341) := by
  unfold qf_X4_above
  refine ok_cP (vf_X4_isClass hn (by omega) (by omega) V_h) ?_; intro u1 e_u1 a_u1 b_u1
  have T1 := pr_X4_isClass e_u1
  refine ok_if ?_ ?_
  · intro C1
    exact ok_rP (by omega) (by omega)
  · intro C1
    refine ok_rd (by omega) (gKA_1 V_h hb_a0) ?_; intro v3 e_v3 a_v3 b_v3
    exact ok_rP (by omega) (by omega)
set_option maxRecDepth 4000 in
theorem vj_X2_nameOfType_34 {nn : Nat} (hn : 1000000 ≤ nn) {l1 : Int} {s0 : Int} {h : ms_M} (a_l1 : (-2147483648) ≤ l1) (b_l1 : l1 ≤ 2147483647) (a_s0 : 0 ≤ s0) (b_s0 : s0 ≤ 1) (V_h : VS_ h) (x_0 : s0 = 0 ∨ (100 ≤ l1 ∧ l1 ≤ 115))  : Ok_ (qj_X2_nameOfType_34 nn l1 s0 h) (QP_ 0 2147483647) := by
  unfold qj_X2_nameOfType_34
  refine ok_if ?_ ?_
  · intro C0
    exact ok_rP (by omega) (by omega)
  · intro C0
    refine ok_add (by omega) ?_; intro v2 e_v2
    refine ok_sub (by omega) ?_; intro v3 e_v3
    refine ok_rd (by omega) (gA_30 V_h) ?_; intro v4 e_v4 a_v4 b_v4
    exact ok_rP (by omega) (by omega)
set_option maxRecDepth 4000 in
theorem vj_X2_nameOfType_33 {nn : Nat} (hn : 1000000 ≤ nn) {l1 : Int} {h : ms_M} (a_l1 : (-2147483648) ≤ l1) (b_l1 : l1 ≤ 2147483647) (V_h : VS_ h)  : Ok_ (qj_X2_nameOfType_33 nn l1 h) (QP_ 0 2147483647) := by
  unfold qj_X2_nameOfType_33
  exact vj_X2_nameOfType_34 hn (by omega) (by omega) (by omega) (by omega) V_h (by omega)
set_option maxRecDepth 4000 in
theorem vj_X2_nameOfType_17 {nn : Nat} (hn : 1000000 ≤ nn) {l1 : Int} {h : ms_M} (a_l1 : (-2147483648) ≤ l1) (b_l1 : l1 ≤ 2147483647) (V_h : VS_ h)  : Ok_ (qj_X2_nameOfType_17 nn l1 h) (QP_ 0 2147483647) := by
  unfold qj_X2_nameOfType_17
  refine ok_if ?_ ?_
  · intro C0
    exact vj_X2_nameOfType_33 hn (by omega) (by omega) V_h
  · intro C0
    refine ok_if ?_ ?_
    · intro C1
      exact vj_X2_nameOfType_33 hn (by omega) (by omega) V_h
    · intro C1
      exact vj_X2_nameOfType_34 hn (by omega) (by omega) (by omega) (by omega) V_h (by omega)
set_option maxRecDepth 4000 in
theorem vf_X2_nameOfType {nn : Nat} (hn : 1000000 ≤ nn) {a1 : Int} {h : ms_M} (a_a1 : (-2147483648) ≤ a1) (b_a1 : a1 ≤ 2147483647) (V_h : VS_ h)  : Ok_ (qf_X2_nameOfType nn a1 h) (QP_ 0 2147483647) := by
  unfold qf_X2_nameOfType
  refine ok_if ?_ ?_
  · intro C0
    exact vj_X2_nameOfType_17 hn (by omega) (by omega) V_h
  · intro C0
    refine ok_if ?_ ?_
    · intro C1
      exact vj_X2_nameOfType_17 hn (by omega) (by omega) V_h
    · intro C1
      refine ok_rd (by omega) (gA_30 V_h) ?_; intro v9 e_v9 a_v9 b_v9
      exact ok_rP (by omega) (by omega)
set_option maxRecDepth 4000 in
theorem vw_X6_constant_2 {nn : Nat} (hn : 1000000 ≤ nn) : ∀ (k : Nat) {l1 : Int} {l2 : Int} {l3 : Int} {h : ms_M} (a_l1 : 1 ≤ l1) (b_l1 : l1 ≤ 4) (a_l2 : (-2147483648) ≤ l2) (b_l2 : l2 ≤ 2147483647) (a_l3 : 1 ≤ l3) (b_l3 : l3 ≤ 201) (V_h : VS_ h)  (hm : 202 - l3 < (k : Int)), Ok_ (qw_X6_constant_2 nn k l1 l2 l3 h) (QI_ 0 200) := by
  intro k
  induction k with
  | zero => intros; exfalso; omega
  | succ k ih =>
    intro l1 l2 l3 h a_l1 b_l1 a_l2 b_l2 a_l3 b_l3 V_h hm
    unfold qw_X6_constant_2
    have T1 := gF_45_4 V_h
    refine ok_if ?_ ?_
    · intro C1
      refine ok_if ?_ ?_
      · intro C2
        refine ok_add (by omega) ?_; intro v4 e_v4
        refine ok_xl ?_; intro h5 E_h5; have V_h5 : VS_ h5 := by rw [E_h5]; exact wF_45_4 V_h (by omega)
        have T4 : h5 45 4 = v4 := by rw [E_h5]; exact up_s
        refine ok_wA (by omega) ?_; intro h8 E_h8; have V_h8 : VS_ h8 := by rw [E_h8]; exact wA_46 V_h5 (by omega)
        have T5 : h8 45 4 = h5 45 4 := by rw [E_h8]; exact up_n (fun z => absurd z.1 (by decide))
        refine ok_wA (by omega) ?_; intro h11 E_h11; have V_h11 : VS_ h11 := by rw [E_h11]; exact wA_47 V_h8 (by omega)
        have T6 : h11 45 4 = h8 45 4 := by rw [E_h11]; exact up_n (fun z => absurd z.1 (by decide))
        exact ok_rI V_h11 (by omega) (by omega)
      · intro C2
        refine ok_xl ?_; intro h13 E_h13; have V_h13 : VS_ h13 := by rw [E_h13]; exact wF_45_5 V_h (by omega)
        exact ok_rI V_h13 (by omega) (by omega)
    · intro C1
      refine ok_rd (by omega) (gA_46 V_h) ?_; intro v16 e_v16 a_v16 b_v16
      refine ok_if ?_ ?_
      · intro C6
        refine ok_add (by omega) ?_; intro v17 e_v17
        exact ih (by omega) (by omega) (by omega) (by omega) (by omega) (by omega) V_h (by omega)
      · intro C6
        refine ok_rd (by omega) (gA_47 V_h) ?_; intro v19 e_v19 a_v19 b_v19
        refine ok_if ?_ ?_
        · intro C7
          refine ok_add (by omega) ?_; intro v20 e_v20
          exact ih (by omega) (by omega) (by omega) (by omega) (by omega) (by omega) V_h (by omega)
        · intro C7
          exact ok_rI V_h (by omega) (by omega)
set_option maxRecDepth 4000 in
theorem vf_X6_constant {nn : Nat} (hn : 1000000 ≤ nn) {a1 : Int} {a2 : Int} {h : ms_M} (a_a1 : 1 ≤ a1) (b_a1 : a1 ≤ 4) (a_a2 : (-2147483648) ≤ a2) (b_a2 : a2 ≤ 2147483647) (V_h : VS_ h)  : Ok_ (qf_X6_constant nn a1 a2 h) (QI_ 0 200) := by
  unfold qf_X6_constant
  exact vw_X6_constant_2 hn _ (by omega) (by omega) (by omega) (by omega) (by omega) (by omega) V_h (by omega)
set_option maxRecDepth 4000 in
theorem vf_X6_classOf {nn : Nat} (hn : 1000000 ≤ nn) {a1 : Int} {h : ms_M} (a_a1 : (-2147483648) ≤ a1) (b_a1 : a1 ≤ 2147483647) (V_h : VS_ h)  : Ok_ (qf_X6_classOf nn a1 h) (QI_ 0 200) := by
  unfold qf_X6_classOf
  refine ok_cP (vf_X2_nameOfType hn (by omega) (by omega) V_h) ?_; intro u3 e_u3 a_u3 b_u3
  refine ok_cI (vf_X6_constant hn (by omega) (by omega) (by omega) (by omega) V_h) ?_; intro u5 E_u5 V_u5 a_u5 b_u5
  refine ok_cI (vf_X6_constant hn (by omega) (by omega) (by omega) (by omega) V_u5) ?_; intro u7 E_u7 V_u7 a_u7 b_u7
  exact ok_rI V_u7 (by omega) (by omega)
set_option maxRecDepth 4000 in
theorem vf_X0_beginProgram {nn : Nat} (hn : 1000000 ≤ nn) {h : ms_M} (V_h : VS_ h)  : Ok_ (qf_X0_beginProgram nn h) QV_ := by
  unfold qf_X0_beginProgram
  refine ok_xl ?_; intro h1 E_h1; have V_h1 : VS_ h1 := by rw [E_h1]; exact wF_33_7 V_h (by omega)
  exact ok_rV V_h1
set_option maxRecDepth 4000 in
theorem vf_X0_noteMuch {nn : Nat} (hn : 1000000 ≤ nn) {a1 : Int} {a2 : Int} {h : ms_M} (a_a1 : 0 ≤ a1) (b_a1 : a1 ≤ 1) (a_a2 : (-2147483648) ≤ a2) (b_a2 : a2 ≤ 2147483647) (V_h : VS_ h)  : Ok_ (qf_X0_noteMuch nn a1 a2 h) QV_ := by
  unfold qf_X0_noteMuch
  refine ok_if ?_ ?_
  · intro C0
    exact ok_rV V_h
  · intro C0
    have T2 := gF_33_7 V_h
    refine ok_if ?_ ?_
    · intro C2
      exact ok_rV V_h
    · intro C2
      refine ok_xl ?_; intro h2 E_h2; have V_h2 : VS_ h2 := by rw [E_h2]; exact wF_33_7 V_h (by omega)
      exact ok_rV V_h2
set_option maxRecDepth 4000 in
theorem vf_X2_tokenOfClass {nn : Nat} (hn : 1000000 ≤ nn) {a1 : Int} {h : ms_M} (a_a1 : 0 ≤ a1) (b_a1 : a1 ≤ 333) (V_h : VS_ h)  : Ok_ (qf_X2_tokenOfClass nn a1 h) (QP_ (-2147483648) 2147483647) := by
  unfold qf_X2_tokenOfClass
  refine ok_if ?_ ?_
  · intro C0
    exfalso; omega
  · intro C0
    have T2 := gF_11_2 V_h
    refine ok_if ?_ ?_
    · intro C2
      exact ok_rP (by omega) (by omega)
    · intro C2
      refine ok_rd (by omega) (gA_15 V_h) ?_; intro v3 e_v3 a_v3 b_v3
      exact ok_rP (by omega) (by omega)
set_option maxRecDepth 4000 in
theorem vf_X9_nameLength {nn : Nat} (hn : 1000000 ≤ nn) {a1 : Int} {h : ms_M} (a_a1 : (-2147483648) ≤ a1) (b_a1 : a1 ≤ 2147483647) (V_h : VS_ h)  : Ok_ (qf_X9_nameLength nn a1 h) (QP_ (-6400) 6400) := by
  unfold qf_X9_nameLength
  refine ok_if ?_ ?_
  · intro C0
    exact ok_rP (by omega) (by omega)
  · intro C0
    have T2 := gF_2_9 V_h
    refine ok_if ?_ ?_
    · intro C2
      exact ok_rP (by omega) (by omega)
    · intro C2
      refine ok_add (by omega) ?_; intro v3 e_v3
      refine ok_rd (by omega) (gA_7 V_h) ?_; intro v4 e_v4 a_v4 b_v4
      refine ok_rd (by omega) (gA_7 V_h) ?_; intro v6 e_v6 a_v6 b_v6
      refine ok_sub (by omega) ?_; intro v7 e_v7
      exact ok_rP (by omega) (by omega)
set_option maxRecDepth 4000 in
theorem vf_X6_bytesOf {nn : Nat} (hn : 1000000 ≤ nn) {a1 : Int} {a2 : Int} {h : ms_M} (a_a1 : 0 ≤ a1) (b_a1 : a1 ≤ 4) (a_a2 : (-2147483648) ≤ a2) (b_a2 : a2 ≤ 2147483647) (V_h : VS_ h)  : Ok_ (qf_X6_bytesOf nn a1 a2 h) (QP_ (-6398) 6402) := by
  unfold qf_X6_bytesOf
  refine ok_if ?_ ?_
  · intro C0
    refine ok_cP (vf_X9_nameLength hn (by omega) (by omega) V_h) ?_; intro u3 e_u3 a_u3 b_u3
    have T2 := lm_X9_nameLength V_h e_u3
    refine ok_add (by omega) ?_; intro v4 e_v4
    exact ok_rP (by omega) (by omega)
  · intro C0
    refine ok_if ?_ ?_
    · intro C2
      exact ok_rP (by omega) (by omega)
    · intro C2
      refine ok_if ?_ ?_
      · intro C3
        exact ok_rP (by omega) (by omega)
      · intro C3
        exact ok_rP (by omega) (by omega)
set_option maxRecDepth 4000 in
theorem vw_X6_imageSize_9 {nn : Nat} (hn : 1000000 ≤ nn) : ∀ (k : Nat) {l1 : Int} {l2 : Int} {h : ms_M} (a_l1 : (-2147483648) ≤ l1) (b_l1 : l1 ≤ 2147483647) (a_l2 : 1 ≤ l2) (b_l2 : l2 ≤ 201) (V_h : VS_ h)  (hm : 202 - l2 < (k : Int)), Ok_ (qw_X6_imageSize_9 nn k l1 l2 h) (QP_ (-2147483648) 2147483647) := by
  intro k
  induction k with
  | zero => intros; exfalso; omega
  | succ k ih =>
    intro l1 l2 h a_l1 b_l1 a_l2 b_l2 V_h hm
    unfold qw_X6_imageSize_9
    have T1 := gF_45_4 V_h
    refine ok_if ?_ ?_
    · intro C1
      exact ok_rP (by omega) (by omega)
    · intro C1
      refine ok_rd (by omega) (gA_46 V_h) ?_; intro v3 e_v3 a_v3 b_v3
      refine ok_rd (by omega) (gA_47 V_h) ?_; intro v5 e_v5 a_v5 b_v5
      refine ok_cP (vf_X6_bytesOf hn (by omega) (by omega) (by omega) (by omega) V_h) ?_; intro u7 e_u7 a_u7 b_u7
      refine ok_addW (by omega) ?_; intro v8 a_v8 b_v8 w_v8
      refine ok_add (by omega) ?_; intro v9 e_v9
      exact ih (by omega) (by omega) (by omega) (by omega) V_h (by omega)
set_option maxRecDepth 4000 in
theorem vf_X6_imageSize {nn : Nat} (hn : 1000000 ≤ nn) {h : ms_M} (V_h : VS_ h)  : Ok_ (qf_X6_imageSize nn h) (QP_ (-2147483648) 2147483647) := by
  unfold qf_X6_imageSize
  have T1 := gF_45_7 V_h
  refine ok_addW (by omega) ?_; intro v12 a_v12 b_v12 w_v12
  exact vw_X6_imageSize_9 hn _ (by omega) (by omega) (by omega) (by omega) V_h (by omega)
set_option maxRecDepth 4000 in
theorem vf_X6_isTooMuch {nn : Nat} (hn : 1000000 ≤ nn) {h : ms_M} (V_h : VS_ h)  : Ok_ (qf_X6_isTooMuch nn h) (QP_ 0 1) := by
  unfold qf_X6_isTooMuch
  have T1 := gF_45_5 V_h
  refine ok_if ?_ ?_
  · intro C1
    exact ok_rP (by omega) (by omega)
  · intro C1
    refine ok_cP (vf_X6_imageSize hn V_h) ?_; intro u3 e_u3 a_u3 b_u3
    refine ok_if ?_ ?_
    · intro C2
      exact ok_rP (by omega) (by omega)
    · intro C2
      exact ok_rP (by omega) (by omega)
set_option maxRecDepth 4000 in
theorem vf_X9_copyName {nn : Nat} (hn : 1000000 ≤ nn) {a1 : Int} {a2 : Nat} {a3 : Int} {h : ms_M} (a_a1 : (-2147483648) ≤ a1) (b_a1 : a1 ≤ 2147483647) (a_a3 : 0 ≤ a3) (b_a3 : a3 ≤ 6000) (V_h : VS_ h) (t_a2 : a2 < cn_M h ∧ ly_T a2 = 1)  : Ok_ (qf_X9_copyName nn a1 a2 a3 h) QV_ := by
  unfold qf_X9_copyName
  refine ok_cP (vf_X9_nameLength hn (by omega) (by omega) V_h) ?_; intro u2 e_u2 a_u2 b_u2
  have T1 := lm_X9_nameLength V_h e_u2
  refine ok_if ?_ ?_
  · intro C1
    exfalso; omega
  · intro C1
    refine ok_add (by omega) ?_; intro v3 e_v3
    refine ok_lS t_a2 ?_; intro v4 e_v4
    refine ok_if ?_ ?_
    · intro C2
      exact ok_rV V_h
    · intro C2
      refine ok_if ?_ ?_
      · intro C3
        exact ok_rV V_h
      · intro C3
        refine ok_rd (by omega) (gA_7 V_h) ?_; intro v7 e_v7 a_v7 b_v7
        have T5 := vi_ln (M := h) (show 6 < 256 by decide); have T6 : (ly_N 6 : Int) = 6400 := rfl
        refine ok_cpB V_h ⟨Nat.lt_of_lt_of_le (by decide) (vi_c V_h), rfl⟩ t_a2 (by omega) ?_; intro h8 V_h8 F_h8
        exact ok_rV V_h8
set_option maxRecDepth 4000 in
theorem vf_X9_tell {nn : Nat} (hn : 1000000 ≤ nn) {a1 : Int} {a2 : Int} {h : ms_M} (a_a1 : 4 ≤ a1) (b_a1 : a1 ≤ 11) (a_a2 : (-2147483648) ≤ a2) (b_a2 : a2 ≤ 2147483647) (V_h : VS_ h)  : Ok_ (qf_X9_tell nn a1 a2 h) QV_ := by
  unfold qf_X9_tell
  have T1 := gF_2_11 V_h
  refine ok_if ?_ ?_
  · intro C1
    exact ok_rV V_h
  · intro C1
    refine ok_if ?_ ?_
    · intro C2
      exact ok_rV V_h
    · intro C2
      have T4 := gF_2_3 V_h
      refine ok_if ?_ ?_
      · intro C4
        exact ok_rV V_h
      · intro C4
        refine ok_xl ?_; intro h3 E_h3; have V_h3 : VS_ h3 := by rw [E_h3]; exact wF_2_11 V_h (by omega)
        refine ok_rd (by omega) (gA_4 V_h3) ?_; intro v5 e_v5 a_v5 b_v5
        refine ok_xl ?_; intro h6 E_h6; have V_h6 : VS_ h6 := by rw [E_h6]; exact wF_2_12 V_h3 (by omega)
        exact ok_rV V_h6
set_option maxRecDepth 4000 in
theorem vf_X0_closeProgram {nn : Nat} (hn : 1000000 ≤ nn) {h : ms_M} (V_h : VS_ h)  : Ok_ (qf_X0_closeProgram nn h) QV_ := by
  unfold qf_X0_closeProgram
  have T1 := gF_33_7 V_h
  refine ok_if ?_ ?_
  · intro C1
    exact ok_rV V_h
  · intro C1
    refine ok_cV (vf_X9_tell hn (by omega) (by omega) (by omega) (by omega) V_h) ?_; intro u5 E_u5 V_u5
    exact ok_rV V_u5
set_option maxRecDepth 4000 in
theorem vj_X10_arithmeticOp_91 {nn : Nat} (hn : 1000000 ≤ nn) {h : ms_M} (V_h : VS_ h)  : Ok_ (qj_X10_arithmeticOp_91 nn h) (QP_ 96 130) := by
  unfold qj_X10_arithmeticOp_91
  exact ok_rP (by omega) (by omega)
set_option maxRecDepth 4000 in
theorem vf_X10_arithmeticOp {nn : Nat} (hn : 1000000 ≤ nn) {a0 : Int} {h : ms_M} (a_a0 : 0 ≤ a0) (b_a0 : a0 ≤ 1740) (V_h : VS_ h)  : Ok_ (qf_X10_arithmeticOp nn a0 h) (QP_ 96 130) := by
  unfold qf_X10_arithmeticOp
  refine ok_if ?_ ?_
  · intro C0
    exact ok_rP (by omega) (by omega)
  · intro C0
    refine ok_if ?_ ?_
    · intro C1
      exact ok_rP (by omega) (by omega)
    · intro C1
      refine ok_if ?_ ?_
      · intro C2
        exact ok_rP (by omega) (by omega)
      · intro C2
        refine ok_if ?_ ?_
        · intro C3
          exact ok_rP (by omega) (by omega)
        · intro C3
          refine ok_if ?_ ?_
          · intro C4
            exact ok_rP (by omega) (by omega)
          · intro C4
            refine ok_if ?_ ?_
            · intro C5
              exact ok_rP (by omega) (by omega)
            · intro C5
              refine ok_if ?_ ?_
              · intro C6
                exact ok_rP (by omega) (by omega)
              · intro C6
                refine ok_if ?_ ?_
                · intro C7
                  exact ok_rP (by omega) (by omega)
                · intro C7
                  refine ok_if ?_ ?_
                  · intro C8
                    exact ok_rP (by omega) (by omega)
                  · intro C8
                    refine ok_if ?_ ?_
                    · intro C9
                      exact ok_rP (by omega) (by omega)
                    · intro C9
                      exact vj_X10_arithmeticOp_91 hn V_h
set_option maxRecDepth 4000 in
theorem vf_X10_wantType {nn : Nat} (hn : 1000000 ≤ nn) {a1 : Int} {a2 : Int} {h : ms_M} (a_a1 : 0 ≤ a1) (b_a1 : a1 ≤ 1) (a_a2 : (-2147483648) ≤ a2) (b_a2 : a2 ≤ 2147483647) (V_h : VS_ h)  : Ok_ (qf_X10_wantType nn a1 a2 h) QV_ := by
  unfold qf_X10_wantType
  refine ok_if ?_ ?_
  · intro C0
    exact ok_rV V_h
  · intro C0
    refine ok_cV (vf_X9_tell hn (by omega) (by omega) (by omega) (by omega) V_h) ?_; intro u3 E_u3 V_u3
    exact ok_rV V_u3
set_option maxRecDepth 4000 in
theorem vf_X1_pop {nn : Nat} (hn : 1000000 ≤ nn) {a1 : Int} {h : ms_M} (a_a1 : (-2147483648) ≤ a1) (b_a1 : a1 ≤ 2147483647) (V_h : VS_ h)  : Ok_ (qf_X1_pop nn a1 h) QV_ := by
  unfold qf_X1_pop
  have T1 := gF_34_3 V_h
  refine ok_subW (by omega) ?_; intro v2 a_v2 b_v2 w_v2
  refine ok_xl ?_; intro v3 e_v3
  refine ok_xl ?_; intro h4 E_h4; have V_h4 : VS_ h4 := by rw [E_h4]; exact wF_34_3 V_h (by omega)
  exact ok_rV V_h4
set_option maxRecDepth 4000 in
theorem vj_X10_compareOp_80 {nn : Nat} (hn : 1000000 ≤ nn) {h : ms_M} (V_h : VS_ h)  : Ok_ (qj_X10_compareOp_80 nn h) (QP_ 159 166) := by
  unfold qj_X10_compareOp_80
  exact ok_rP (by omega) (by omega)
set_option maxRecDepth 4000 in
theorem vf_X10_compareOp {nn : Nat} (hn : 1000000 ≤ nn) {a0 : Int} {a1 : Int} {h : ms_M} (a_a0 : 0 ≤ a0) (b_a0 : a0 ≤ 1740) (a_a1 : 0 ≤ a1) (b_a1 : a1 ≤ 1) (V_h : VS_ h)  : Ok_ (qf_X10_compareOp nn a0 a1 h) (QP_ 159 166) := by
  unfold qf_X10_compareOp
  refine ok_if ?_ ?_
  · intro C0
    refine ok_if ?_ ?_
    · intro C1
      exact ok_rP (by omega) (by omega)
    · intro C1
      exact ok_rP (by omega) (by omega)
  · intro C0
    refine ok_if ?_ ?_
    · intro C2
      refine ok_if ?_ ?_
      · intro C3
        exact ok_rP (by omega) (by omega)
      · intro C3
        exact ok_rP (by omega) (by omega)
    · intro C2
      refine ok_if ?_ ?_
      · intro C4
        exact ok_rP (by omega) (by omega)
      · intro C4
        refine ok_if ?_ ?_
        · intro C5
          exact ok_rP (by omega) (by omega)
        · intro C5
          refine ok_if ?_ ?_
          · intro C6
            exact ok_rP (by omega) (by omega)
          · intro C6
            exact vj_X10_compareOp_80 hn V_h
set_option maxRecDepth 4000 in
theorem vf_X4_isNumber {nn : Nat} (hn : 1000000 ≤ nn) {a0 : Int} {h : ms_M} (a_a0 : (-2147483648) ≤ a0) (b_a0 : a0 ≤ 2147483647) (V_h : VS_ h)  : Ok_ (qf_X4_isNumber nn a0 h) (QP_ 0 1) := by
  unfold qf_X4_isNumber
  refine ok_if ?_ ?_
  · intro C0
    exact ok_rP (by omega) (by omega)
  · intro C0
    refine ok_if ?_ ?_
    · intro C1
      exact ok_rP (by omega) (by omega)
    · intro C1
      exact ok_rP (by omega) (by omega)
set_option maxRecDepth 4000 in
theorem vf_X4_isReference {nn : Nat} (hn : 1000000 ≤ nn) {a0 : Int} {h : ms_M} (a_a0 : (-2147483648) ≤ a0) (b_a0 : a0 ≤ 2147483647) (V_h : VS_ h)  : Ok_ (qf_X4_isReference nn a0 h) (QP_ 0 1) := by
  unfold qf_X4_isReference
  refine ok_if ?_ ?_
  · intro C0
    exact ok_rP (by omega) (by omega)
  · intro C0
    refine ok_if ?_ ?_
    · intro C1
      exact ok_rP (by omega) (by omega)
    · intro C1
      refine ok_if ?_ ?_
      · intro C2
        exact ok_rP (by omega) (by omega)
      · intro C2
        exact ok_rP (by omega) (by omega)
set_option maxRecDepth 4000 in
theorem vj_X4_fits_123 {nn : Nat} (hn : 1000000 ≤ nn) {l0 : Nat} {l1 : Int} {l2 : Int} {s0 : Int} {h : ms_M} (hb_l0 : kc_O l0 = 4) (a_l1 : (-2147483648) ≤ l1) (b_l1 : l1 ≤ 2147483647) (a_l2 : (-2147483648) ≤ l2) (b_l2 : l2 ≤ 2147483647) (a_s0 : 0 ≤ s0) (b_s0 : s0 ≤ 1) (V_h : VS_ h) (x_0 : s0 = 0 ∨ (100 ≤ l1 ∧ l1 ≤ 115 ∧ 100 ≤ l2 ∧ l2 ≤ 115))  : Ok_ (qj_X4_fits_123 nn l0 l1 l2 s0 h) (QP_ 0 1) := by
  unfold qj_X4_fits_123
  refine ok_if ?_ ?_
  · intro C0
    exact ok_rP (by omega) (by omega)
  · intro C0
    refine ok_sub (by omega) ?_; intro v2 e_v2
    refine ok_mul (by omega) ?_; intro v3 e_v3
    refine ok_add (by omega) ?_; intro v4 e_v4
    refine ok_sub (by omega) ?_; intro v5 e_v5
    refine ok_rd (by omega) (gKA_2 V_h hb_l0) ?_; intro v6 e_v6 a_v6 b_v6
    refine ok_if ?_ ?_
    · intro C1
      exact ok_rP (by omega) (by omega)
    · intro C1
      exact ok_rP (by omega) (by omega)
set_option maxRecDepth 4000 in
theorem vj_X4_fits_122 {nn : Nat} (hn : 1000000 ≤ nn) {l0 : Nat} {l1 : Int} {l2 : Int} {h : ms_M} (hb_l0 : kc_O l0 = 4) (a_l1 : (-2147483648) ≤ l1) (b_l1 : l1 ≤ 2147483647) (a_l2 : (-2147483648) ≤ l2) (b_l2 : l2 ≤ 2147483647) (V_h : VS_ h)  : Ok_ (qj_X4_fits_122 nn l0 l1 l2 h) (QP_ 0 1) := by
  unfold qj_X4_fits_122
  exact vj_X4_fits_123 hn hb_l0 (by omega) (by omega) (by omega) (by omega) (by omega) (by omega) V_h (by omega)
set_option maxRecDepth 4000 in
theorem vj_X4_fits_71 {nn : Nat} (hn : 1000000 ≤ nn) {l0 : Nat} {l1 : Int} {l2 : Int} {h : ms_M} (hb_l0 : kc_O l0 = 4) (a_l1 : (-2147483648) ≤ l1) (b_l1 : l1 ≤ 2147483647) (a_l2 : (-2147483648) ≤ l2) (b_l2 : l2 ≤ 2147483647) (V_h : VS_ h)  : Ok_ (qj_X4_fits_71 nn l0 l1 l2 h) (QP_ 0 1) := by
  unfold qj_X4_fits_71
  refine ok_if ?_ ?_
  · intro C0
    refine ok_if ?_ ?_
    · intro C1
      exact vj_X4_fits_122 hn hb_l0 (by omega) (by omega) (by omega) (by omega) V_h
    · intro C1
      refine ok_if ?_ ?_
      · intro C2
        exact vj_X4_fits_122 hn hb_l0 (by omega) (by omega) (by omega) (by omega) V_h
      · intro C2
        refine ok_if ?_ ?_
        · intro C3
          exact vj_X4_fits_122 hn hb_l0 (by omega) (by omega) (by omega) (by omega) V_h
        · intro C3
          refine ok_if ?_ ?_
          · intro C4
            exact vj_X4_fits_122 hn hb_l0 (by omega) (by omega) (by omega) (by omega) V_h
          · intro C4
            exact vj_X4_fits_123 hn hb_l0 (by omega) (by omega) (by omega) (by omega) (by omega) (by omega) V_h (by omega)
  · intro C0
    refine ok_if ?_ ?_
    · intro C5
      exact ok_rP (by omega) (by omega)
    · intro C5
      refine ok_if ?_ ?_
      · intro C6
        exact ok_rP (by omega) (by omega)
      · intro C6
        exact ok_rP (by omega) (by omega)
set_option maxRecDepth 4000 in
theorem vf_X4_fits {nn : Nat} (hn : 1000000 ≤ nn) {a0 : Nat} {a1 : Int} {a2 : Int} {h : ms_M} (hb_a0 : kc_O a0 = 4) (a_a1 : (-2147483648) ≤ a1) (b_a1 : a1 ≤ 2147483647) (a_a2 : (-2147483648) ≤ a2) (b_a2 : a2 ≤ 2147483647) (V_h : VS_ h)  : Ok_ (qf_X4_fits nn a0 a1 a2 h) (QP_ 0 1) := by
  unfold qf_X4_fits
  refine ok_if ?_ ?_
  · intro C0
    refine ok_if ?_ ?_
    · intro C1
      refine ok_if ?_ ?_
      · intro C2
        exact vj_X4_fits_71 hn hb_a0 (by omega) (by omega) (by omega) (by omega) V_h
      · intro C2
        refine ok_if ?_ ?_
        · intro C3
          exact vj_X4_fits_71 hn hb_a0 (by omega) (by omega) (by omega) (by omega) V_h
        · intro C3
          refine ok_if ?_ ?_
          · intro C4
            exact ok_rP (by omega) (by omega)
          · intro C4
            refine ok_if ?_ ?_
            · intro C5
              exact ok_rP (by omega) (by omega)
            · intro C5
              refine ok_mul (by omega) ?_; intro v17 e_v17
              refine ok_add (by omega) ?_; intro v18 e_v18
              refine ok_rd (by omega) (gKA_2 V_h hb_a0) ?_; intro v19 e_v19 a_v19 b_v19
              refine ok_if ?_ ?_
              · intro C6
                exact ok_rP (by omega) (by omega)
              · intro C6
                exact ok_rP (by omega) (by omega)
    · intro C1
      refine ok_if ?_ ?_
      · intro C7
        exact ok_rP (by omega) (by omega)
      · intro C7
        refine ok_if ?_ ?_
        · intro C8
          exact ok_rP (by omega) (by omega)
        · intro C8
          exact ok_rP (by omega) (by omega)
  · intro C0
    exact ok_rP (by omega) (by omega)
set_option maxRecDepth 4000 in
theorem vf_X4_oneFits {nn : Nat} (hn : 1000000 ≤ nn) {a1 : Int} {a2 : Int} {h : ms_M} (a_a1 : (-1) ≤ a1) (b_a1 : a1 ≤ 2147483647) (a_a2 : (-1) ≤ a2) (b_a2 : a2 ≤ 2147483647) (V_h : VS_ h)  : Ok_ (qf_X4_oneFits nn a1 a2 h) (QP_ 0 1) := by
  unfold qf_X4_oneFits
  refine ok_cP (vf_X4_fits hn rfl (by omega) (by omega) (by omega) (by omega) V_h) ?_; intro u2 e_u2 a_u2 b_u2
  refine ok_if ?_ ?_
  · intro C0
    exact ok_rP (by omega) (by omega)
  · intro C0
    refine ok_cP (vf_X4_fits hn rfl (by omega) (by omega) (by omega) (by omega) V_h) ?_; intro u4 e_u4 a_u4 b_u4
    refine ok_if ?_ ?_
    · intro C1
      exact ok_rP (by omega) (by omega)
    · intro C1
      exact ok_rP (by omega) (by omega)
set_option maxRecDepth 4000 in
theorem vj_X10_isPair_24 {nn : Nat} (hn : 1000000 ≤ nn) {l1 : Int} {l2 : Int} {h : ms_M} (a_l1 : (-1) ≤ l1) (b_l1 : l1 ≤ 2147483647) (a_l2 : (-1) ≤ l2) (b_l2 : l2 ≤ 2147483647) (V_h : VS_ h)  : Ok_ (qj_X10_isPair_24 nn l1 l2 h) (QP_ 0 1) := by
  unfold qj_X10_isPair_24
  refine ok_if ?_ ?_
  · intro C0
    exact ok_rP (by omega) (by omega)
  · intro C0
    refine ok_cP (vf_X4_isNumber hn (by omega) (by omega) V_h) ?_; intro u1 e_u1 a_u1 b_u1
    refine ok_if ?_ ?_
    · intro C1
      exact ok_rP (by omega) (by omega)
    · intro C1
      exact ok_rP (by omega) (by omega)
set_option maxRecDepth 4000 in
theorem vf_X10_isPair {nn : Nat} (hn : 1000000 ≤ nn) {a1 : Int} {a2 : Int} {h : ms_M} (a_a1 : (-1) ≤ a1) (b_a1 : a1 ≤ 2147483647) (a_a2 : (-1) ≤ a2) (b_a2 : a2 ≤ 2147483647) (V_h : VS_ h)  : Ok_ (qf_X10_isPair nn a1 a2 h) (QP_ 0 1) := by
  unfold qf_X10_isPair
  refine ok_cP (vf_X4_isReference hn (by omega) (by omega) V_h) ?_; intro u4 e_u4 a_u4 b_u4
  refine ok_if ?_ ?_
  · intro C0
    exact vj_X10_isPair_24 hn (by omega) (by omega) (by omega) (by omega) V_h
  · intro C0
    refine ok_cP (vf_X4_isReference hn (by omega) (by omega) V_h) ?_; intro u5 e_u5 a_u5 b_u5
    refine ok_if ?_ ?_
    · intro C1
      exact vj_X10_isPair_24 hn (by omega) (by omega) (by omega) (by omega) V_h
    · intro C1
      refine ok_cP (vf_X4_oneFits hn (by omega) (by omega) (by omega) (by omega) V_h) ?_; intro u8 e_u8 a_u8 b_u8
      refine ok_ck (by omega) ?_
      exact ok_rP (by omega) (by omega)
set_option maxRecDepth 4000 in
theorem vj_X9_level_249 {nn : Nat} (hn : 1000000 ≤ nn) {h : ms_M} (V_h : VS_ h)  : Ok_ (qj_X9_level_249 nn h) (QP_ 0 10) := by
  unfold qj_X9_level_249
  exact ok_rP (by omega) (by omega)
set_option maxRecDepth 4000 in
theorem vj_X9_level_246 {nn : Nat} (hn : 1000000 ≤ nn) {h : ms_M} (V_h : VS_ h)  : Ok_ (qj_X9_level_246 nn h) (QP_ 0 10) := by
  unfold qj_X9_level_246
  exact ok_rP (by omega) (by omega)
set_option maxRecDepth 4000 in
theorem vj_X9_level_243 {nn : Nat} (hn : 1000000 ≤ nn) {h : ms_M} (V_h : VS_ h)  : Ok_ (qj_X9_level_243 nn h) (QP_ 0 10) := by
  unfold qj_X9_level_243
  exact ok_rP (by omega) (by omega)
set_option maxRecDepth 4000 in
theorem vj_X9_level_240 {nn : Nat} (hn : 1000000 ≤ nn) {h : ms_M} (V_h : VS_ h)  : Ok_ (qj_X9_level_240 nn h) (QP_ 0 10) := by
  unfold qj_X9_level_240
  exact ok_rP (by omega) (by omega)
set_option maxRecDepth 4000 in
theorem vj_X9_level_237 {nn : Nat} (hn : 1000000 ≤ nn) {h : ms_M} (V_h : VS_ h)  : Ok_ (qj_X9_level_237 nn h) (QP_ 0 10) := by
  unfold qj_X9_level_237
  exact ok_rP (by omega) (by omega)
set_option maxRecDepth 4000 in
theorem vj_X9_level_234 {nn : Nat} (hn : 1000000 ≤ nn) {h : ms_M} (V_h : VS_ h)  : Ok_ (qj_X9_level_234 nn h) (QP_ 0 10) := by
  unfold qj_X9_level_234
  exact ok_rP (by omega) (by omega)
set_option maxRecDepth 4000 in
theorem vf_X9_level {nn : Nat} (hn : 1000000 ≤ nn) {a0 : Int} {h : ms_M} (a_a0 : 0 ≤ a0) (b_a0 : a0 ≤ 1740) (V_h : VS_ h)  : Ok_ (qf_X9_level nn a0 h) (QP_ 0 10) := by
  unfold qf_X9_level
  refine ok_if ?_ ?_
  · intro C0
    exact vj_X9_level_237 hn V_h
  · intro C0
    refine ok_if ?_ ?_
    · intro C1
      exact vj_X9_level_234 hn V_h
    · intro C1
      refine ok_if ?_ ?_
      · intro C2
        exact vj_X9_level_234 hn V_h
      · intro C2
        refine ok_if ?_ ?_
        · intro C3
          exact vj_X9_level_237 hn V_h
        · intro C3
          refine ok_if ?_ ?_
          · intro C4
            exact vj_X9_level_237 hn V_h
          · intro C4
            refine ok_if ?_ ?_
            · intro C5
              exact vj_X9_level_237 hn V_h
            · intro C5
              refine ok_if ?_ ?_
              · intro C6
                exact vj_X9_level_237 hn V_h
              · intro C6
                refine ok_if ?_ ?_
                · intro C7
                  exact vj_X9_level_240 hn V_h
                · intro C7
                  refine ok_if ?_ ?_
                  · intro C8
                    exact vj_X9_level_240 hn V_h
                  · intro C8
                    refine ok_if ?_ ?_
                    · intro C9
                      exact vj_X9_level_240 hn V_h
                    · intro C9
                      refine ok_if ?_ ?_
                      · intro C10
                        exact vj_X9_level_243 hn V_h
                      · intro C10
                        refine ok_if ?_ ?_
                        · intro C11
                          exact vj_X9_level_243 hn V_h
                        · intro C11
                          refine ok_if ?_ ?_
                          · intro C12
                            exact vj_X9_level_246 hn V_h
                          · intro C12
                            refine ok_if ?_ ?_
                            · intro C13
                              exact vj_X9_level_246 hn V_h
                            · intro C13
                              refine ok_if ?_ ?_
                              · intro C14
                                exact vj_X9_level_246 hn V_h
                              · intro C14
                                refine ok_if ?_ ?_
                                · intro C15
                                  exact ok_rP (by omega) (by omega)
                                · intro C15
                                  refine ok_if ?_ ?_
                                  · intro C16
                                    exact ok_rP (by omega) (by omega)
                                  · intro C16
                                    refine ok_if ?_ ?_
                                    · intro C17
                                      exact ok_rP (by omega) (by omega)
                                    · intro C17
                                      refine ok_if ?_ ?_
                                      · intro C18
                                        exact ok_rP (by omega) (by omega)
                                      · intro C18
                                        refine ok_if ?_ ?_
                                        · intro C19
                                          exact ok_rP (by omega) (by omega)
                                        · intro C19
                                          exact vj_X9_level_249 hn V_h
set_option maxRecDepth 4000 in
theorem vf_X9_kind {nn : Nat} (hn : 1000000 ≤ nn) {h : ms_M} (V_h : VS_ h)  : Ok_ (qf_X9_kind nn h) (QP_ 0 1740) := by
  unfold qf_X9_kind
  have T1 := gF_2_11 V_h
  refine ok_if ?_ ?_
  · intro C1
    exact ok_rP (by omega) (by omega)
  · intro C1
    have T3 := gF_2_10 V_h
    refine ok_if ?_ ?_
    · intro C3
      exact ok_rP (by omega) (by omega)
    · intro C3
      have T5 := gF_2_3 V_h
      refine ok_if ?_ ?_
      · intro C5
        exact ok_rP (by omega) (by omega)
      · intro C5
        refine ok_rd (by omega) (gA_3 V_h) ?_; intro v7 e_v7 a_v7 b_v7
        exact ok_rP (by omega) (by omega)
set_option maxRecDepth 4000 in
theorem vf_X9_kindAt {nn : Nat} (hn : 1000000 ≤ nn) {a1 : Int} {h : ms_M} (a_a1 : (-2147483648) ≤ a1) (b_a1 : a1 ≤ 2147483647) (V_h : VS_ h)  : Ok_ (qf_X9_kindAt nn a1 h) (QP_ 0 1740) := by
  unfold qf_X9_kindAt
  refine ok_if ?_ ?_
  · intro C0
    exact ok_rP (by omega) (by omega)
  · intro C0
    have T2 := gF_2_3 V_h
    refine ok_if ?_ ?_
    · intro C2
      exact ok_rP (by omega) (by omega)
    · intro C2
      refine ok_rd (by omega) (gA_3 V_h) ?_; intro v3 e_v3 a_v3 b_v3
      exact ok_rP (by omega) (by omega)
set_option maxRecDepth 4000 in
theorem vf_X9_valueAt {nn : Nat} (hn : 1000000 ≤ nn) {a1 : Int} {h : ms_M} (a_a1 : (-2147483648) ≤ a1) (b_a1 : a1 ≤ 2147483647) (V_h : VS_ h)  : Ok_ (qf_X9_valueAt nn a1 h) (QP_ 0 2147483647) := by
  unfold qf_X9_valueAt
  refine ok_if ?_ ?_
  · intro C0
    exact ok_rP (by omega) (by omega)
  · intro C0
    have T2 := gF_2_3 V_h
    refine ok_if ?_ ?_
    · intro C2
      exact ok_rP (by omega) (by omega)
    · intro C2
      refine ok_rd (by omega) (gA_5 V_h) ?_; intro v3 e_v3 a_v3 b_v3
      exact ok_rP (by omega) (by omega)
set_option maxRecDepth 4000 in
theorem vf_X2_classAt {nn : Nat} (hn : 1000000 ≤ nn) {a1 : Int} {h : ms_M} (a_a1 : (-2147483648) ≤ a1) (b_a1 : a1 ≤ 2147483647) (V_h : VS_ h)  : Ok_ (qf_X2_classAt nn a1 h) (QP_ (-1) 341) := by
  unfold qf_X2_classAt
  refine ok_cP (vf_X9_valueAt hn (by omega) (by omega) V_h) ?_; intro u3 e_u3 a_u3 b_u3
  refine ok_cP (vf_X9_kindAt hn (by omega) (by omega) V_h) ?_; intro u6 e_u6 a_u6 b_u6
  refine ok_if ?_ ?_
  · intro C0
    exact ok_rP (by omega) (by omega)
  · intro C0
    refine ok_if ?_ ?_
    · intro C1
      exact ok_rP (by omega) (by omega)
    · intro C1
      refine ok_rd (by omega) (gA_16 V_h) ?_; intro v10 e_v10 a_v10 b_v10
      exact ok_rP (by omega) (by omega)
set_option maxRecDepth 4000 in
theorem vj_X10_readNamedClass_23 {nn : Nat} (hn : 1000000 ≤ nn) {l2 : Int} {l3 : Int} {h : ms_M} (a_l2 : (-2147483648) ≤ l2) (b_l2 : l2 ≤ 2147483647) (a_l3 : (-1) ≤ l3) (b_l3 : l3 ≤ 341) (V_h : VS_ h)  : Ok_ (qj_X10_readNamedClass_23 nn l2 l3 h) (QI_ (-1) 341) := by
  unfold qj_X10_readNamedClass_23
  refine ok_xl ?_; intro h2 E_h2; have V_h2 : VS_ h2 := by rw [E_h2]; exact wF_2_10 V_h (by omega)
  exact ok_rI V_h2 (by omega) (by omega)
set_option maxRecDepth 4000 in
theorem vf_X10_readNamedClass {nn : Nat} (hn : 1000000 ≤ nn) {a1 : Int} {a2 : Int} {h : ms_M} (a_a1 : (-2147483648) ≤ a1) (b_a1 : a1 ≤ 2147483647) (a_a2 : (-2147483648) ≤ a2) (b_a2 : a2 ≤ 2147483647) (V_h : VS_ h)  : Ok_ (qf_X10_readNamedClass nn a1 a2 h) (QI_ (-1) 341) := by
  unfold qf_X10_readNamedClass
  refine ok_cP (vf_X2_classAt hn (by omega) (by omega) V_h) ?_; intro u5 e_u5 a_u5 b_u5
  refine ok_if ?_ ?_
  · intro C0
    exact vj_X10_readNamedClass_23 hn (by omega) (by omega) (by omega) (by omega) V_h
  · intro C0
    refine ok_cV (vf_X9_tell hn (by omega) (by omega) (by omega) (by omega) V_h) ?_; intro u8 E_u8 V_u8
    exact vj_X10_readNamedClass_23 hn (by omega) (by omega) (by omega) (by omega) V_u8
set_option maxRecDepth 4000 in
theorem vj_X10_wantKinOf_30 {nn : Nat} (hn : 1000000 ≤ nn) {l2 : Int} {h : ms_M} (a_l2 : (-2147483648) ≤ l2) (b_l2 : l2 ≤ 2147483647) (V_h : VS_ h)  : Ok_ (qj_X10_wantKinOf_30 nn l2 h) QV_ := by
  unfold qj_X10_wantKinOf_30
  refine ok_cV (vf_X10_wantType hn (by omega) (by omega) (by omega) (by omega) V_h) ?_; intro u2 E_u2 V_u2
  exact ok_rV V_u2
set_option maxRecDepth 4000 in
theorem vf_X10_wantKinOf {nn : Nat} (hn : 1000000 ≤ nn) {a1 : Int} {a2 : Int} {h : ms_M} (a_a1 : 0 ≤ a1) (b_a1 : a1 ≤ 341) (a_a2 : (-2147483648) ≤ a2) (b_a2 : a2 ≤ 2147483647) (V_h : VS_ h)  : Ok_ (qf_X10_wantKinOf nn a1 a2 h) QV_ := by
  unfold qf_X10_wantKinOf
  have T1 := gF_49_12 V_h
  refine ok_cP (vf_X4_isReference hn (by omega) (by omega) V_h) ?_; intro u4 e_u4 a_u4 b_u4
  refine ok_if ?_ ?_
  · intro C1
    exact vj_X10_wantKinOf_30 hn (by omega) (by omega) V_h
  · intro C1
    refine ok_cP (vf_X4_oneFits hn (by omega) (by omega) (by omega) (by omega) V_h) ?_; intro u8 e_u8 a_u8 b_u8
    refine ok_if ?_ ?_
    · intro C2
      exact vj_X10_wantKinOf_30 hn (by omega) (by omega) V_h
    · intro C2
      refine ok_cV (vf_X10_wantType hn (by omega) (by omega) (by omega) (by omega) V_h) ?_; intro u10 E_u10 V_u10
      exact ok_rV V_u10
set_option maxRecDepth 4000 in
theorem vf_X6_fieldOf {nn : Nat} (hn : 1000000 ≤ nn) {a1 : Int} {a2 : Int} {h : ms_M} (a_a1 : (-1) ≤ a1) (b_a1 : a1 ≤ 2147483647) (a_a2 : (-1) ≤ a2) (b_a2 : a2 ≤ 749) (V_h : VS_ h)  : Ok_ (qf_X6_fieldOf nn a1 a2 h) (QI_ 0 200) := by
  unfold qf_X6_fieldOf
  refine ok_cI (vf_X6_classOf hn (by omega) (by omega) V_h) ?_; intro u2 E_u2 V_u2 a_u2 b_u2
  refine ok_cP (vf_X2_nameOfField hn (by omega) (by omega) V_u2) ?_; intro u5 e_u5 a_u5 b_u5
  refine ok_cI (vf_X6_constant hn (by omega) (by omega) (by omega) (by omega) V_u2) ?_; intro u7 E_u7 V_u7 a_u7 b_u7
  refine ok_i32 ?_; intro v8 a_v8 b_v8
  refine ok_shl8 (by omega) ?_; intro v9 e_v9
  refine ok_i32 ?_; intro v10 a_v10 b_v10
  refine ok_cP (vf_X2_kindOfField hn (by omega) (by omega) V_u7) ?_; intro u13 e_u13 a_u13 b_u13
  refine ok_cI (vf_X6_constant hn (by omega) (by omega) (by omega) (by omega) V_u7) ?_; intro u15 E_u15 V_u15 a_u15 b_u15
  refine ok_i32 ?_; intro v16 a_v16 b_v16
  refine ok_cI (vf_X6_constant hn (by omega) (by omega) (by omega) (by omega) V_u15) ?_; intro u18 E_u18 V_u18 a_u18 b_u18
  exact ok_rI V_u18 (by omega) (by omega)
set_option maxRecDepth 4000 in
theorem vf_X2_typeOfField {nn : Nat} (hn : 1000000 ≤ nn) {a1 : Int} {h : ms_M} (a_a1 : (-1) ≤ a1) (b_a1 : a1 ≤ 95) (V_h : VS_ h)  : Ok_ (qf_X2_typeOfField nn a1 h) (QP_ 0 441) := by
  unfold qf_X2_typeOfField
  refine ok_if ?_ ?_
  · intro C0
    exact ok_rP (by omega) (by omega)
  · intro C0
    refine ok_if ?_ ?_
    · intro C1
      exfalso; omega
    · intro C1
      refine ok_rd (by omega) (gA_19 V_h) ?_; intro v4 e_v4 a_v4 b_v4
      exact ok_rP (by omega) (by omega)
set_option maxRecDepth 4000 in
theorem vf_X10_nameField {nn : Nat} (hn : 1000000 ≤ nn) {a1 : Int} {a2 : Int} {h : ms_M} (a_a1 : (-1) ≤ a1) (b_a1 : a1 ≤ 2147483647) (a_a2 : (-1) ≤ a2) (b_a2 : a2 ≤ 95) (V_h : VS_ h)  : Ok_ (qf_X10_nameField nn a1 a2 h) QV_ := by
  unfold qf_X10_nameField
  refine ok_xl ?_; intro h1 E_h1; have V_h1 : VS_ h1 := by rw [E_h1]; exact wF_49_11 V_h (by omega)
  refine ok_xl ?_; intro h2 E_h2; have V_h2 : VS_ h2 := by rw [E_h2]; exact wF_49_13 V_h1 (by omega)
  refine ok_xl ?_; intro h3 E_h3; have V_h3 : VS_ h3 := by rw [E_h3]; exact wF_49_14 V_h2 (by omega)
  refine ok_cP (vf_X2_typeOfField hn (by omega) (by omega) V_h3) ?_; intro u6 e_u6 a_u6 b_u6
  refine ok_xl ?_; intro h7 E_h7; have V_h7 : VS_ h7 := by rw [E_h7]; exact wF_49_12 V_h3 (by omega)
  exact ok_rV V_h7
set_option maxRecDepth 4000 in
theorem vf_X2_isMethod {nn : Nat} (hn : 1000000 ≤ nn) {a1 : Int} {h : ms_M} (a_a1 : (-1) ≤ a1) (b_a1 : a1 ≤ 4007) (V_h : VS_ h)  : Ok_ (qf_X2_isMethod nn a1 h) (QP_ 0 1) := by
  unfold qf_X2_isMethod
  refine ok_if ?_ ?_
  · intro C0
    exact ok_rP (by omega) (by omega)
  · intro C0
    refine ok_if ?_ ?_
    · intro C1
      exact ok_rP (by omega) (by omega)
    · intro C1
      refine ok_rem (n := 12) (by omega) ?_; intro v3 e_v3
      refine ok_div (n := 12) (by omega) ?_; intro v5 e_v5
      refine ok_rd (by omega) (gA_21 V_h) ?_; intro v6 e_v6 a_v6 b_v6
      refine ok_if ?_ ?_
      · intro C2
        exact ok_rP (by omega) (by omega)
      · intro C2
        exact ok_rP (by omega) (by omega)
set_option maxRecDepth 4000 in
theorem vf_X2_isFixed {nn : Nat} (hn : 1000000 ≤ nn) {a1 : Int} {h : ms_M} (a_a1 : (-1) ≤ a1) (b_a1 : a1 ≤ 4007) (V_h : VS_ h)  : Ok_ (qf_X2_isFixed nn a1 h) (QP_ 0 1) := by
  unfold qf_X2_isFixed
  refine ok_cP (vf_X2_isMethod hn (by omega) (by omega) V_h) ?_; intro u2 e_u2 a_u2 b_u2
  have T1 := pr_X2_isMethod e_u2
  refine ok_if ?_ ?_
  · intro C1
    exact ok_rP (by omega) (by omega)
  · intro C1
    refine ok_rd (by omega) (gA_25 V_h) ?_; intro v4 e_v4 a_v4 b_v4
    refine ok_if ?_ ?_
    · intro C2
      exact ok_rP (by omega) (by omega)
    · intro C2
      exact ok_rP (by omega) (by omega)
set_option maxRecDepth 4000 in
theorem vf_X2_parametersOf {nn : Nat} (hn : 1000000 ≤ nn) {a1 : Int} {h : ms_M} (a_a1 : (-1) ≤ a1) (b_a1 : a1 ≤ 4007) (V_h : VS_ h)  : Ok_ (qf_X2_parametersOf nn a1 h) (QP_ 0 6) := by
  unfold qf_X2_parametersOf
  refine ok_cP (vf_X2_isMethod hn (by omega) (by omega) V_h) ?_; intro u2 e_u2 a_u2 b_u2
  have T1 := pr_X2_isMethod e_u2
  refine ok_if ?_ ?_
  · intro C1
    exact ok_rP (by omega) (by omega)
  · intro C1
    refine ok_rd (by omega) (gA_27 V_h) ?_; intro v4 e_v4 a_v4 b_v4
    exact ok_rP (by omega) (by omega)
set_option maxRecDepth 4000 in
theorem vf_X2_parameterType {nn : Nat} (hn : 1000000 ≤ nn) {a1 : Int} {a2 : Int} {h : ms_M} (a_a1 : (-1) ≤ a1) (b_a1 : a1 ≤ 95) (a_a2 : (-2147483648) ≤ a2) (b_a2 : a2 ≤ 2147483647) (V_h : VS_ h)  : Ok_ (qf_X2_parameterType nn a1 a2 h) (QP_ 0 441) := by
  unfold qf_X2_parameterType
  refine ok_if ?_ ?_
  · intro C0
    exact ok_rP (by omega) (by omega)
  · intro C0
    refine ok_cP (vf_X2_parametersOf hn (by omega) (by omega) V_h) ?_; intro u2 e_u2 a_u2 b_u2
    have T2 := pr_X2_parametersOf e_u2
    refine ok_if ?_ ?_
    · intro C2
      exact ok_rP (by omega) (by omega)
    · intro C2
      refine ok_mul (by omega) ?_; intro v4 e_v4
      refine ok_add (by omega) ?_; intro v5 e_v5
      refine ok_rd (by omega) (gA_29 V_h) ?_; intro v6 e_v6 a_v6 b_v6
      exact ok_rP (by omega) (by omega)
set_option maxRecDepth 4000 in
theorem vf_X2_resultOf {nn : Nat} (hn : 1000000 ≤ nn) {a1 : Int} {h : ms_M} (a_a1 : (-1) ≤ a1) (b_a1 : a1 ≤ 4007) (V_h : VS_ h)  : Ok_ (qf_X2_resultOf nn a1 h) (QP_ 0 441) := by
  unfold qf_X2_resultOf
  refine ok_cP (vf_X2_isMethod hn (by omega) (by omega) V_h) ?_; intro u2 e_u2 a_u2 b_u2
  have T1 := pr_X2_isMethod e_u2
  refine ok_if ?_ ?_
  · intro C1
    exact ok_rP (by omega) (by omega)
  · intro C1
    refine ok_rd (by omega) (gA_24 V_h) ?_; intro v4 e_v4 a_v4 b_v4
    exact ok_rP (by omega) (by omega)
set_option maxRecDepth 4000 in
theorem vf_X2_kindOfMethod {nn : Nat} (hn : 1000000 ≤ nn) {a1 : Int} {h : ms_M} (a_a1 : (-1) ≤ a1) (b_a1 : a1 ≤ 4007) (V_h : VS_ h)  : Ok_ (qf_X2_kindOfMethod nn a1 h) (QP_ (-1) 1739) := by
  unfold qf_X2_kindOfMethod
  refine ok_if ?_ ?_
  · intro C0
    exact ok_rP (by omega) (by omega)
  · intro C0
    refine ok_if ?_ ?_
    · intro C1
      exact ok_rP (by omega) (by omega)
    · intro C1
      refine ok_rd (by omega) (gA_26 V_h) ?_; intro v4 e_v4 a_v4 b_v4
      exact ok_rP (by omega) (by omega)
set_option maxRecDepth 4000 in
theorem vf_X2_nameOfMethod {nn : Nat} (hn : 1000000 ≤ nn) {a1 : Int} {h : ms_M} (a_a1 : (-1) ≤ a1) (b_a1 : a1 ≤ 4007) (V_h : VS_ h)  : Ok_ (qf_X2_nameOfMethod nn a1 h) (QP_ (-1) 2147483647) := by
  unfold qf_X2_nameOfMethod
  refine ok_cP (vf_X2_isMethod hn (by omega) (by omega) V_h) ?_; intro u2 e_u2 a_u2 b_u2
  have T1 := pr_X2_isMethod e_u2
  refine ok_if ?_ ?_
  · intro C1
    exact ok_rP (by omega) (by omega)
  · intro C1
    refine ok_rd (by omega) (gA_22 V_h) ?_; intro v5 e_v5 a_v5 b_v5
    refine ok_cP (vf_X9_valueAt hn (by omega) (by omega) V_h) ?_; intro u7 e_u7 a_u7 b_u7
    exact ok_rP (by omega) (by omega)
set_option maxRecDepth 4000 in
theorem vf_X6_methodOf {nn : Nat} (hn : 1000000 ≤ nn) {a1 : Int} {a2 : Int} {h : ms_M} (a_a1 : (-1) ≤ a1) (b_a1 : a1 ≤ 2147483647) (a_a2 : (-1) ≤ a2) (b_a2 : a2 ≤ 95) (V_h : VS_ h)  : Ok_ (qf_X6_methodOf nn a1 a2 h) (QI_ 0 200) := by
  unfold qf_X6_methodOf
  refine ok_cI (vf_X6_classOf hn (by omega) (by omega) V_h) ?_; intro u2 E_u2 V_u2 a_u2 b_u2
  refine ok_cP (vf_X2_nameOfMethod hn (by omega) (by omega) V_u2) ?_; intro u5 e_u5 a_u5 b_u5
  refine ok_cI (vf_X6_constant hn (by omega) (by omega) (by omega) (by omega) V_u2) ?_; intro u7 E_u7 V_u7 a_u7 b_u7
  refine ok_i32 ?_; intro v8 a_v8 b_v8
  refine ok_shl8 (by omega) ?_; intro v9 e_v9
  refine ok_i32 ?_; intro v10 a_v10 b_v10
  refine ok_cP (vf_X2_kindOfMethod hn (by omega) (by omega) V_u7) ?_; intro u13 e_u13 a_u13 b_u13
  refine ok_cI (vf_X6_constant hn (by omega) (by omega) (by omega) (by omega) V_u7) ?_; intro u15 E_u15 V_u15 a_u15 b_u15
  refine ok_i32 ?_; intro v16 a_v16 b_v16
  refine ok_cI (vf_X6_constant hn (by omega) (by omega) (by omega) (by omega) V_u15) ?_; intro u18 E_u18 V_u18 a_u18 b_u18
  exact ok_rI V_u18 (by omega) (by omega)
set_option maxRecDepth 4000 in
theorem vw_X2_fieldIn_2 {nn : Nat} (hn : 1000000 ≤ nn) : ∀ (k : Nat) {l1 : Int} {l2 : Int} {l3 : Int} {h : ms_M} (a_l1 : 0 ≤ l1) (b_l1 : l1 ≤ 7) (a_l2 : 0 ≤ l2) (b_l2 : l2 ≤ 2147483647) (a_l3 : 0 ≤ l3) (b_l3 : l3 ≤ 12) (V_h : VS_ h)  (hm : 13 - l3 < (k : Int)), Ok_ (qw_X2_fieldIn_2 nn k l1 l2 l3 h) (QP_ (-1) 95) := by
  intro k
  induction k with
  | zero => intros; exfalso; omega
  | succ k ih =>
    intro l1 l2 l3 h a_l1 b_l1 a_l2 b_l2 a_l3 b_l3 V_h hm
    unfold qw_X2_fieldIn_2
    refine ok_rd (by omega) (gA_17 V_h) ?_; intro v2 e_v2 a_v2 b_v2
    refine ok_if ?_ ?_
    · intro C0
      exact ok_rP (by omega) (by omega)
    · intro C0
      refine ok_mul (by omega) ?_; intro v4 e_v4
      refine ok_add (by omega) ?_; intro v5 e_v5
      refine ok_rd (by omega) (gA_18 V_h) ?_; intro v6 e_v6 a_v6 b_v6
      refine ok_if ?_ ?_
      · intro C1
        refine ok_add (by omega) ?_; intro v7 e_v7
        exact ih (by omega) (by omega) (by omega) (by omega) (by omega) (by omega) V_h (by omega)
      · intro C1
        refine ok_mul (by omega) ?_; intro v8 e_v8
        refine ok_add (by omega) ?_; intro v9 e_v9
        exact ok_rP (by omega) (by omega)
set_option maxRecDepth 4000 in
theorem vf_X2_fieldIn {nn : Nat} (hn : 1000000 ≤ nn) {a1 : Int} {a2 : Int} {h : ms_M} (a_a1 : 0 ≤ a1) (b_a1 : a1 ≤ 7) (a_a2 : 0 ≤ a2) (b_a2 : a2 ≤ 2147483647) (V_h : VS_ h)  : Ok_ (qf_X2_fieldIn nn a1 a2 h) (QP_ (-1) 95) := by
  unfold qf_X2_fieldIn
  exact vw_X2_fieldIn_2 hn _ (by omega) (by omega) (by omega) (by omega) (by omega) (by omega) V_h (by omega)
set_option maxRecDepth 4000 in
theorem vw_X2_fieldOf_8 {nn : Nat} (hn : 1000000 ≤ nn) : ∀ (k : Nat) {l2 : Int} {l3 : Int} {l4 : Int} {l5 : Int} {h : ms_M} (a_l2 : 0 ≤ l2) (b_l2 : l2 ≤ 2147483647) (a_l3 : (-1) ≤ l3) (b_l3 : l3 ≤ 95) (a_l4 : (-1) ≤ l4) (b_l4 : l4 ≤ 2147483647) (a_l5 : 0 ≤ l5) (b_l5 : l5 ≤ 16) (V_h : VS_ h)  (hm : 17 - l5 < (k : Int)), Ok_ (qw_X2_fieldOf_8 nn k l2 l3 l4 l5 h) (QP_ (-1) 95) := by
  intro k
  induction k with
  | zero => intros; exfalso; omega
  | succ k ih =>
    intro l2 l3 l4 l5 h a_l2 b_l2 a_l3 b_l3 a_l4 b_l4 a_l5 b_l5 V_h hm
    unfold qw_X2_fieldOf_8
    refine ok_if ?_ ?_
    · intro C0
      exact ok_rP (by omega) (by omega)
    · intro C0
      refine ok_cP (vf_X2_isOwn hn (by omega) (by omega) V_h) ?_; intro u1 e_u1 a_u1 b_u1
      have T2 := pr_X2_isOwn e_u1
      refine ok_if ?_ ?_
      · intro C2
        exact ok_rP (by omega) (by omega)
      · intro C2
        refine ok_if ?_ ?_
        · intro C3
          exact ok_rP (by omega) (by omega)
        · intro C3
          refine ok_sub (by omega) ?_; intro v2 e_v2
          refine ok_cP (vf_X2_fieldIn hn (by omega) (by omega) (by omega) (by omega) V_h) ?_; intro u4 e_u4 a_u4 b_u4
          refine ok_cP (vf_X4_above hn rfl (by omega) (by omega) V_h) ?_; intro u7 e_u7 a_u7 b_u7
          refine ok_add (by omega) ?_; intro v8 e_v8
          exact ih (by omega) (by omega) (by omega) (by omega) (by omega) (by omega) (by omega) (by omega) V_h (by omega)
set_option maxRecDepth 4000 in
theorem vf_X2_fieldOf {nn : Nat} (hn : 1000000 ≤ nn) {a1 : Int} {a2 : Int} {h : ms_M} (a_a1 : (-1) ≤ a1) (b_a1 : a1 ≤ 2147483647) (a_a2 : 0 ≤ a2) (b_a2 : a2 ≤ 2147483647) (V_h : VS_ h)  : Ok_ (qf_X2_fieldOf nn a1 a2 h) (QP_ (-1) 95) := by
  unfold qf_X2_fieldOf
  exact vw_X2_fieldOf_8 hn _ (by omega) (by omega) (by omega) (by omega) (by omega) (by omega) (by omega) (by omega) V_h (by omega)
set_option maxRecDepth 4000 in
theorem vw_X2_methodIn_2 {nn : Nat} (hn : 1000000 ≤ nn) : ∀ (k : Nat) {l1 : Int} {l2 : Int} {l3 : Int} {h : ms_M} (a_l1 : 0 ≤ l1) (b_l1 : l1 ≤ 7) (a_l2 : (-1) ≤ l2) (b_l2 : l2 ≤ 2147483647) (a_l3 : 0 ≤ l3) (b_l3 : l3 ≤ 12) (V_h : VS_ h)  (hm : 13 - l3 < (k : Int)), Ok_ (qw_X2_methodIn_2 nn k l1 l2 l3 h) (QP_ (-1) 95) := by
  intro k
  induction k with
  | zero => intros; exfalso; omega
  | succ k ih =>
    intro l1 l2 l3 h a_l1 b_l1 a_l2 b_l2 a_l3 b_l3 V_h hm
    unfold qw_X2_methodIn_2
    refine ok_rd (by omega) (gA_21 V_h) ?_; intro v2 e_v2 a_v2 b_v2
    refine ok_if ?_ ?_
    · intro C0
      exact ok_rP (by omega) (by omega)
    · intro C0
      refine ok_mul (by omega) ?_; intro v5 e_v5
      refine ok_add (by omega) ?_; intro v6 e_v6
      refine ok_rd (by omega) (gA_22 V_h) ?_; intro v7 e_v7 a_v7 b_v7
      refine ok_cP (vf_X9_valueAt hn (by omega) (by omega) V_h) ?_; intro u9 e_u9 a_u9 b_u9
      refine ok_if ?_ ?_
      · intro C1
        refine ok_add (by omega) ?_; intro v10 e_v10
        exact ih (by omega) (by omega) (by omega) (by omega) (by omega) (by omega) V_h (by omega)
      · intro C1
        refine ok_mul (by omega) ?_; intro v11 e_v11
        refine ok_add (by omega) ?_; intro v12 e_v12
        exact ok_rP (by omega) (by omega)
set_option maxRecDepth 4000 in
theorem vf_X2_methodIn {nn : Nat} (hn : 1000000 ≤ nn) {a1 : Int} {a2 : Int} {h : ms_M} (a_a1 : 0 ≤ a1) (b_a1 : a1 ≤ 7) (a_a2 : (-1) ≤ a2) (b_a2 : a2 ≤ 2147483647) (V_h : VS_ h)  : Ok_ (qf_X2_methodIn nn a1 a2 h) (QP_ (-1) 95) := by
  unfold qf_X2_methodIn
  exact vw_X2_methodIn_2 hn _ (by omega) (by omega) (by omega) (by omega) (by omega) (by omega) V_h (by omega)
set_option maxRecDepth 4000 in
theorem vw_X2_methodOf_8 {nn : Nat} (hn : 1000000 ≤ nn) : ∀ (k : Nat) {l2 : Int} {l3 : Int} {l4 : Int} {l5 : Int} {h : ms_M} (a_l2 : (-1) ≤ l2) (b_l2 : l2 ≤ 2147483647) (a_l3 : (-1) ≤ l3) (b_l3 : l3 ≤ 95) (a_l4 : (-1) ≤ l4) (b_l4 : l4 ≤ 2147483647) (a_l5 : 0 ≤ l5) (b_l5 : l5 ≤ 16) (V_h : VS_ h)  (hm : 17 - l5 < (k : Int)), Ok_ (qw_X2_methodOf_8 nn k l2 l3 l4 l5 h) (QP_ (-1) 95) := by
  intro k
  induction k with
  | zero => intros; exfalso; omega
  | succ k ih =>
    intro l2 l3 l4 l5 h a_l2 b_l2 a_l3 b_l3 a_l4 b_l4 a_l5 b_l5 V_h hm
    unfold qw_X2_methodOf_8
    refine ok_if ?_ ?_
    · intro C0
      exact ok_rP (by omega) (by omega)
    · intro C0
      refine ok_cP (vf_X2_isOwn hn (by omega) (by omega) V_h) ?_; intro u1 e_u1 a_u1 b_u1
      have T2 := pr_X2_isOwn e_u1
      refine ok_if ?_ ?_
      · intro C2
        exact ok_rP (by omega) (by omega)
      · intro C2
        refine ok_if ?_ ?_
        · intro C3
          exact ok_rP (by omega) (by omega)
        · intro C3
          refine ok_sub (by omega) ?_; intro v2 e_v2
          refine ok_cP (vf_X2_methodIn hn (by omega) (by omega) (by omega) (by omega) V_h) ?_; intro u4 e_u4 a_u4 b_u4
          refine ok_cP (vf_X4_above hn rfl (by omega) (by omega) V_h) ?_; intro u7 e_u7 a_u7 b_u7
          refine ok_add (by omega) ?_; intro v8 e_v8
          exact ih (by omega) (by omega) (by omega) (by omega) (by omega) (by omega) (by omega) (by omega) V_h (by omega)
set_option maxRecDepth 4000 in
theorem vf_X2_methodOf {nn : Nat} (hn : 1000000 ≤ nn) {a1 : Int} {a2 : Int} {h : ms_M} (a_a1 : (-1) ≤ a1) (b_a1 : a1 ≤ 2147483647) (a_a2 : (-1) ≤ a2) (b_a2 : a2 ≤ 2147483647) (V_h : VS_ h)  : Ok_ (qf_X2_methodOf nn a1 a2 h) (QP_ (-1) 95) := by
  unfold qf_X2_methodOf
  exact vw_X2_methodOf_8 hn _ (by omega) (by omega) (by omega) (by omega) (by omega) (by omega) (by omega) (by omega) V_h (by omega)
set_option maxRecDepth 4000 in
theorem vf_X4_isArray {nn : Nat} (hn : 1000000 ≤ nn) {a0 : Int} {h : ms_M} (a_a0 : (-2147483648) ≤ a0) (b_a0 : a0 ≤ 2147483647) (V_h : VS_ h)  : Ok_ (qf_X4_isArray nn a0 h) (QP_ 0 1) := by
  unfold qf_X4_isArray
  refine ok_if ?_ ?_
  · intro C0
    exact ok_rP (by omega) (by omega)
  · intro C0
    refine ok_if ?_ ?_
    · intro C1
      exact ok_rP (by omega) (by omega)
    · intro C1
      exact ok_rP (by omega) (by omega)
set_option maxRecDepth 4000 in
theorem vf_X6_numberOf {nn : Nat} (hn : 1000000 ≤ nn) {a1 : Int} {h : ms_M} (a_a1 : 128 ≤ a1) (b_a1 : a1 ≤ 2147483647) (V_h : VS_ h)  : Ok_ (qf_X6_numberOf nn a1 h) (QI_ 0 200) := by
  unfold qf_X6_numberOf
  refine ok_cI (vf_X6_constant hn (by omega) (by omega) (by omega) (by omega) V_h) ?_; intro u2 E_u2 V_u2 a_u2 b_u2
  exact ok_rI V_u2 (by omega) (by omega)
set_option maxRecDepth 4000 in
theorem vf_X4_elementOf {nn : Nat} (hn : 1000000 ≤ nn) {a0 : Int} {h : ms_M} (a_a0 : (-2147483648) ≤ a0) (b_a0 : a0 ≤ 2147483647) (V_h : VS_ h)  : Ok_ (qf_X4_elementOf nn a0 h) (QP_ 0 305) := by
  unfold qf_X4_elementOf
  refine ok_if ?_ ?_
  · intro C0
    refine ok_if ?_ ?_
    · intro C1
      exact ok_rP (by omega) (by omega)
    · intro C1
      refine ok_if ?_ ?_
      · intro C2
        exact ok_rP (by omega) (by omega)
      · intro C2
        refine ok_sub (by omega) ?_; intro v1 e_v1
        exact ok_rP (by omega) (by omega)
  · intro C0
    exact ok_rP (by omega) (by omega)
set_option maxRecDepth 4000 in
theorem vf_X10_isCallBehindPoint {nn : Nat} (hn : 1000000 ≤ nn) {a1 : Int} {h : ms_M} (a_a1 : (-2147483648) ≤ a1) (b_a1 : a1 ≤ 2147483647) (V_h : VS_ h)  : Ok_ (qf_X10_isCallBehindPoint nn a1 h) (QP_ 0 1) := by
  unfold qf_X10_isCallBehindPoint
  refine ok_cP (vf_X9_kindAt hn (by omega) (by omega) V_h) ?_; intro u3 e_u3 a_u3 b_u3
  refine ok_if ?_ ?_
  · intro C0
    exact ok_rP (by omega) (by omega)
  · intro C0
    refine ok_addW (by omega) ?_; intro v5 a_v5 b_v5 w_v5
    refine ok_cP (vf_X9_kindAt hn (by omega) (by omega) V_h) ?_; intro u7 e_u7 a_u7 b_u7
    refine ok_if ?_ ?_
    · intro C1
      exact ok_rP (by omega) (by omega)
    · intro C1
      refine ok_addW (by omega) ?_; intro v9 a_v9 b_v9 w_v9
      refine ok_cP (vf_X9_kindAt hn (by omega) (by omega) V_h) ?_; intro u11 e_u11 a_u11 b_u11
      refine ok_if ?_ ?_
      · intro C2
        exact ok_rP (by omega) (by omega)
      · intro C2
        exact ok_rP (by omega) (by omega)
set_option maxRecDepth 4000 in
theorem vf_X10_methodNamed {nn : Nat} (hn : 1000000 ≤ nn) {a1 : Int} {a2 : Int} {h : ms_M} (a_a1 : (-1) ≤ a1) (b_a1 : a1 ≤ 341) (a_a2 : (-2147483648) ≤ a2) (b_a2 : a2 ≤ 2147483647) (V_h : VS_ h)  : Ok_ (qf_X10_methodNamed nn a1 a2 h) (QI_ (-1) 95) := by
  unfold qf_X10_methodNamed
  refine ok_cP (vf_X9_valueAt hn (by omega) (by omega) V_h) ?_; intro u4 e_u4 a_u4 b_u4
  refine ok_cP (vf_X2_methodOf hn (by omega) (by omega) (by omega) (by omega) V_h) ?_; intro u6 e_u6 a_u6 b_u6
  refine ok_if ?_ ?_
  · intro C0
    exact ok_rI V_h (by omega) (by omega)
  · intro C0
    refine ok_cV (vf_X9_tell hn (by omega) (by omega) (by omega) (by omega) V_h) ?_; intro u9 E_u9 V_u9
    exact ok_rI V_u9 (by omega) (by omega)
