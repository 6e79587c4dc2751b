set_option maxRecDepth 4000 in
theorem vf_X5_forget {nn : Nat} (hn : 1000000 ≤ nn) {h : ms_M} (V_h : VS_ h)  : Ok_ (qf_X5_forget nn h) QV_ := by
  unfold qf_X5_forget
  refine ok_xl ?_; intro h1 E_h1; have V_h1 : VS_ h1 := by rw [E_h1]; exact wF_143_1 V_h (by omega)
  refine ok_xl ?_; intro h2 E_h2; have V_h2 : VS_ h2 := by rw [E_h2]; exact wF_143_2 V_h1 (by omega)
  refine ok_xl ?_; intro h3 E_h3; have V_h3 : VS_ h3 := by rw [E_h3]; exact wF_143_3 V_h2 (by omega)
  refine ok_xl ?_; intro h4 E_h4; have V_h4 : VS_ h4 := by rw [E_h4]; exact wF_143_4 V_h3 (by omega)
  refine ok_xl ?_; intro h5 E_h5; have V_h5 : VS_ h5 := by rw [E_h5]; exact wF_143_5 V_h4 (by omega)
  refine ok_xl ?_; intro h6 E_h6; have V_h6 : VS_ h6 := by rw [E_h6]; exact wF_143_6 V_h5 (by omega)
  refine ok_xl ?_; intro h7 E_h7; have V_h7 : VS_ h7 := by rw [E_h7]; exact wF_143_7 V_h6 (by omega)
  exact ok_rV V_h7
set_option maxRecDepth 4000 in
theorem vw_X4_settle_38 {nn : Nat} (hn : 1000000 ≤ nn) {qkk_2 : Nat → Int → ms_M → Option ms_M} {K_kk_2 : Int} (hk_kk_2 : ∀ {l0 : Nat} {l1 : Int} {h : ms_M} (hb_l0 : kc_O l0 = 4) (a_l1 : 0 ≤ l1) (b_l1 : l1 ≤ 16) (V_h : VS_ h) (_ : 17 - l1 < K_kk_2), Ok_ (qkk_2 l0 l1 h) QV_) : ∀ (k : Nat) {l0 : Nat} {l1 : Int} {l2 : Int} {l3 : Int} {h : ms_M} (hb_l0 : kc_O l0 = 4) (a_l1 : 0 ≤ l1) (b_l1 : l1 ≤ 15) (a_l2 : (-1) ≤ l2) (b_l2 : l2 ≤ 341) (a_l3 : 0 ≤ l3) (b_l3 : l3 ≤ 16) (V_h : VS_ h) (hm_kk_2 : 17 - l1 + 0 ≤ K_kk_2) (hm : 17 - l3 < (k : Int)), Ok_ (qw_X4_settle_38 nn qkk_2 k l0 l1 l2 l3 h) QV_ := by
  intro k
  induction k with
  | zero => intros; exfalso; omega
  | succ k ih =>
    intro l0 l1 l2 l3 h hb_l0 a_l1 b_l1 a_l2 b_l2 a_l3 b_l3 V_h hm_kk_2 hm
    unfold qw_X4_settle_38
    refine ok_if ?_ ?_
    · intro C0
      refine ok_add (by omega) ?_; intro v1 e_v1
      exact hk_kk_2 hb_l0 (by omega) (by omega) V_h (by omega)
    · intro C0
      refine ok_if ?_ ?_
      · intro C1
        refine ok_add (by omega) ?_; intro v2 e_v2
        exact hk_kk_2 hb_l0 (by omega) (by omega) V_h (by omega)
      · intro C1
        refine ok_if ?_ ?_
        · intro C2
          refine ok_add (by omega) ?_; intro v3 e_v3
          exact hk_kk_2 hb_l0 (by omega) (by omega) V_h (by omega)
        · intro C2
          refine ok_mul (by omega) ?_; intro v5 e_v5
          refine ok_add (by omega) ?_; intro v6 e_v6
          refine ok_wZ (by omega) (by omega) ?_; intro h7 E_h7; have V_h7 : VS_ h7 := by rw [E_h7]; exact wKA_2 V_h hb_l0 (by omega)
          refine ok_rd (by omega) (gKA_1 V_h7 hb_l0) ?_; intro v9 e_v9 a_v9 b_v9
          refine ok_add (by omega) ?_; intro v10 e_v10
          exact ih hb_l0 (by omega) (by omega) (by omega) (by omega) (by omega) (by omega) V_h7 (by omega) (by omega)
set_option maxRecDepth 4000 in
theorem vw_X4_settle_10 {nn : Nat} (hn : 1000000 ≤ nn) {qkk_2 : Nat → Int → ms_M → Option ms_M} {K_kk_2 : Int} (hk_kk_2 : ∀ {l0 : Nat} {l1 : Int} {h : ms_M} (hb_l0 : kc_O l0 = 4) (a_l1 : 0 ≤ l1) (b_l1 : l1 ≤ 16) (V_h : VS_ h) (_ : 17 - l1 < K_kk_2), Ok_ (qkk_2 l0 l1 h) QV_) : ∀ (k : Nat) {l0 : Nat} {l1 : Int} {l2 : Int} {h : ms_M} (hb_l0 : kc_O l0 = 4) (a_l1 : 0 ≤ l1) (b_l1 : l1 ≤ 15) (a_l2 : 0 ≤ l2) (b_l2 : l2 ≤ 16) (V_h : VS_ h) (hm_kk_2 : 17 - l1 + 0 ≤ K_kk_2) (hm : 17 - l2 < (k : Int)), Ok_ (qw_X4_settle_10 nn qkk_2 k l0 l1 l2 h) QV_ := by
  intro k
  induction k with
  | zero => intros; exfalso; omega
  | succ k ih =>
    intro l0 l1 l2 h hb_l0 a_l1 b_l1 a_l2 b_l2 V_h hm_kk_2 hm
    unfold qw_X4_settle_10
    refine ok_if ?_ ?_
    · intro C0
      exact vw_X4_settle_38 hn hk_kk_2 _ hb_l0 (by omega) (by omega) (by omega) (by omega) (by omega) (by omega) V_h (by omega) (by omega)
    · intro C0
      refine ok_mul (by omega) ?_; intro v15 e_v15
      refine ok_add (by omega) ?_; intro v16 e_v16
      refine ok_wZ (by omega) (by omega) ?_; intro h17 E_h17; have V_h17 : VS_ h17 := by rw [E_h17]; exact wKA_2 V_h hb_l0 (by omega)
      refine ok_add (by omega) ?_; intro v18 e_v18
      exact ih hb_l0 (by omega) (by omega) (by omega) (by omega) V_h17 (by omega) (by omega)
set_option maxRecDepth 4000 in
theorem vw_X4_settle_2 {nn : Nat} (hn : 1000000 ≤ nn) : ∀ (k : Nat) {l0 : Nat} {l1 : Int} {h : ms_M} (hb_l0 : kc_O l0 = 4) (a_l1 : 0 ≤ l1) (b_l1 : l1 ≤ 16) (V_h : VS_ h)  (hm : 17 - l1 < (k : Int)), Ok_ (qw_X4_settle_2 nn k l0 l1 h) QV_ := by
  intro k
  induction k with
  | zero => intros; exfalso; omega
  | succ k ih =>
    intro l0 l1 h hb_l0 a_l1 b_l1 V_h hm
    unfold qw_X4_settle_2
    refine ok_if ?_ ?_
    · intro C0
      exact ok_rV V_h
    · intro C0
      exact vw_X4_settle_10 hn ih _ hb_l0 (by omega) (by omega) (by omega) (by omega) V_h (by omega) (by omega)
set_option maxRecDepth 4000 in
theorem vf_X4_settle {nn : Nat} (hn : 1000000 ≤ nn) {a0 : Nat} {h : ms_M} (hb_a0 : kc_O a0 = 4) (V_h : VS_ h)  : Ok_ (qf_X4_settle nn a0 h) QV_ := by
  unfold qf_X4_settle
  exact vw_X4_settle_2 hn _ hb_a0 (by omega) (by omega) V_h (by omega)
set_option maxRecDepth 4000 in
theorem vw_X4_forget_10 {nn : Nat} (hn : 1000000 ≤ nn) : ∀ (k : Nat) {l0 : Nat} {l1 : Int} {h : ms_M} (hb_l0 : kc_O l0 = 4) (a_l1 : 1 ≤ l1) (b_l1 : l1 ≤ 8) (V_h : VS_ h)  (hm : 9 - l1 < (k : Int)), Ok_ (qw_X4_forget_10 nn k l0 l1 h) QV_ := by
  intro k
  induction k with
  | zero => intros; exfalso; omega
  | succ k ih =>
    intro l0 l1 h hb_l0 a_l1 b_l1 V_h hm
    unfold qw_X4_forget_10
    refine ok_if ?_ ?_
    · intro C0
      refine ok_cV (vf_X4_settle hn hb_l0 V_h) ?_; intro u2 E_u2 V_u2
      exact ok_rV V_u2
    · intro C0
      refine ok_if ?_ ?_
      · intro C1
        refine ok_wA (by omega) ?_; intro h4 E_h4; have V_h4 : VS_ h4 := by rw [E_h4]; exact wKA_1 V_h hb_l0 (by omega)
        refine ok_add (by omega) ?_; intro v5 e_v5
        exact ih hb_l0 (by omega) (by omega) V_h4 (by omega)
      · intro C1
        refine ok_wA (by omega) ?_; intro h6 E_h6; have V_h6 : VS_ h6 := by rw [E_h6]; exact wKA_1 V_h hb_l0 (by omega)
        refine ok_add (by omega) ?_; intro v7 e_v7
        exact ih hb_l0 (by omega) (by omega) V_h6 (by omega)
set_option maxRecDepth 4000 in
theorem vf_X4_forget {nn : Nat} (hn : 1000000 ≤ nn) {a0 : Nat} {h : ms_M} (hb_a0 : kc_O a0 = 4) (V_h : VS_ h)  : Ok_ (qf_X4_forget nn a0 h) QV_ := by
  unfold qf_X4_forget
  refine ok_cV (vfillK hn V_h hb_a0 (by omega)) ?_; intro u11 E_u11 V_u11
  exact vw_X4_forget_10 hn _ hb_a0 (by omega) (by omega) V_u11 (by omega)
set_option maxRecDepth 4000 in
theorem vf_X7_forget {nn : Nat} (hn : 1000000 ≤ nn) {h : ms_M} (V_h : VS_ h)  : Ok_ (qf_X7_forget nn h) QV_ := by
  unfold qf_X7_forget
  refine ok_xl ?_; intro h1 E_h1; have V_h1 : VS_ h1 := by rw [E_h1]; exact wF_56_3 V_h (by omega)
  refine ok_xl ?_; intro h2 E_h2; have V_h2 : VS_ h2 := by rw [E_h2]; exact wF_56_4 V_h1 (by omega)
  refine ok_cV (vf_X4_forget hn rfl V_h2) ?_; intro u5 E_u5 V_u5
  exact ok_rV V_u5
set_option maxRecDepth 4000 in
theorem vf_X12_clear {nn : Nat} (hn : 1000000 ≤ nn) {h : ms_M} (V_h : VS_ h)  : Ok_ (qf_X12_clear nn h) QV_ := by
  unfold qf_X12_clear
  refine ok_cV (vf_X7_forget hn V_h) ?_; intro u3 E_u3 V_u3
  refine ok_cV (vf_X5_forget hn V_u3) ?_; intro u6 E_u6 V_u6
  exact ok_rV V_u6
set_option maxRecDepth 4000 in
theorem vf_X2_isOwn {nn : Nat} (hn : 1000000 ≤ nn) {a0 : Int} {h : ms_M} (a_a0 : (-1) ≤ a0) (b_a0 : a0 ≤ 441) (V_h : VS_ h)  : Ok_ (qf_X2_isOwn nn a0 h) (QP_ 0 1) := by
  unfold qf_X2_isOwn
  refine ok_if ?_ ?_
  · intro C0
    exact ok_rP (by omega) (by omega)
  · intro C0
    refine ok_if ?_ ?_
    · intro C1
      exact ok_rP (by omega) (by omega)
    · intro C1
      exact ok_rP (by omega) (by omega)
set_option maxRecDepth 4000 in
theorem vf_X2_fieldsOf {nn : Nat} (hn : 1000000 ≤ nn) {a1 : Int} {h : ms_M} (a_a1 : 0 ≤ a1) (b_a1 : a1 ≤ 333) (V_h : VS_ h)  : Ok_ (qf_X2_fieldsOf nn a1 h) (QP_ 0 12) := by
  unfold qf_X2_fieldsOf
  refine ok_add (by omega) ?_; intro v1 e_v1
  refine ok_cP (vf_X2_isOwn hn (by omega) (by omega) V_h) ?_; intro u2 e_u2 a_u2 b_u2
  have T1 := pr_X2_isOwn e_u2
  refine ok_if ?_ ?_
  · intro C1
    exact ok_rP (by omega) (by omega)
  · intro C1
    refine ok_rd (by omega) (gA_17 V_h) ?_; intro v4 e_v4 a_v4 b_v4
    exact ok_rP (by omega) (by omega)
set_option maxRecDepth 4000 in
theorem vf_X2_kindOfField {nn : Nat} (hn : 1000000 ≤ nn) {a1 : Int} {h : ms_M} (a_a1 : (-1) ≤ a1) (b_a1 : a1 ≤ 4007) (V_h : VS_ h)  : Ok_ (qf_X2_kindOfField nn a1 h) (QP_ (-1) 1739) := by
  unfold qf_X2_kindOfField
  refine ok_if ?_ ?_
  · intro C0
    exact ok_rP (by omega) (by omega)
  · intro C0
    refine ok_if ?_ ?_
    · intro C1
      exact ok_rP (by omega) (by omega)
    · intro C1
      refine ok_rd (by omega) (gA_20 V_h) ?_; intro v4 e_v4 a_v4 b_v4
      exact ok_rP (by omega) (by omega)
set_option maxRecDepth 4000 in
theorem vf_X2_methodsOf {nn : Nat} (hn : 1000000 ≤ nn) {a1 : Int} {h : ms_M} (a_a1 : 0 ≤ a1) (b_a1 : a1 ≤ 333) (V_h : VS_ h)  : Ok_ (qf_X2_methodsOf nn a1 h) (QP_ 0 12) := by
  unfold qf_X2_methodsOf
  refine ok_add (by omega) ?_; intro v1 e_v1
  refine ok_cP (vf_X2_isOwn hn (by omega) (by omega) V_h) ?_; intro u2 e_u2 a_u2 b_u2
  have T1 := pr_X2_isOwn e_u2
  refine ok_if ?_ ?_
  · intro C1
    exact ok_rP (by omega) (by omega)
  · intro C1
    refine ok_rd (by omega) (gA_21 V_h) ?_; intro v4 e_v4 a_v4 b_v4
    exact ok_rP (by omega) (by omega)
set_option maxRecDepth 4000 in
theorem vf_X2_nameOfField {nn : Nat} (hn : 1000000 ≤ nn) {a1 : Int} {h : ms_M} (a_a1 : (-1) ≤ a1) (b_a1 : a1 ≤ 4007) (V_h : VS_ h)  : Ok_ (qf_X2_nameOfField nn a1 h) (QP_ (-1) 2147483647) := by
  unfold qf_X2_nameOfField
  refine ok_if ?_ ?_
  · intro C0
    exact ok_rP (by omega) (by omega)
  · intro C0
    refine ok_if ?_ ?_
    · intro C1
      exact ok_rP (by omega) (by omega)
    · intro C1
      refine ok_rd (by omega) (gA_18 V_h) ?_; intro v4 e_v4 a_v4 b_v4
      exact ok_rP (by omega) (by omega)
set_option maxRecDepth 4000 in
theorem vf_X4_isClass {nn : Nat} (hn : 1000000 ≤ nn) {a0 : Int} {h : ms_M} (a_a0 : (-2147483648) ≤ a0) (b_a0 : a0 ≤ 2147483647) (V_h : VS_ h)  : Ok_ (qf_X4_isClass nn a0 h) (QP_ 0 1) := by
  unfold qf_X4_isClass
  refine ok_if ?_ ?_
  · intro C0
    exact ok_rP (by omega) (by omega)
  · intro C0
    refine ok_if ?_ ?_
    · intro C1
      exact ok_rP (by omega) (by omega)
    · intro C1
      exact ok_rP (by omega) (by omega)
set_option maxRecDepth 4000 in
theorem vf_X4_above {nn : Nat} (hn : 1000000 ≤ nn) {a0 : Nat} {a1 : Int} {h : ms_M} (hb_a0 : kc_O a0 = 4) (a_a1 : 0 ≤ a1) (b_a1 : a1 ≤ 341) (V_h : VS_ h)  : Ok_ (qf_X4_above nn a0 a1 h) (QP_ (-1) 341) := by
  unfold qf_X4_above
  refine ok_cP (vf_X4_isClass hn (by omega) (by omega) V_h) ?_; intro u1 e_u1 a_u1 b_u1
  have T1 := pr_X4_isClass e_u1
  refine ok_if ?_ ?_
  · intro C1
    exact ok_rP (by omega) (by omega)
  · intro C1
    refine ok_rd (by omega) (gKA_1 V_h hb_a0) ?_; intro v3 e_v3 a_v3 b_v3
    exact ok_rP (by omega) (by omega)
set_option maxRecDepth 4000 in
theorem vj_X2_nameOfType_34 {nn : Nat} (hn : 1000000 ≤ nn) {l1 : Int} {s0 : Int} {h : ms_M} (a_l1 : (-1) ≤ l1) (b_l1 : l1 ≤ 1600000000) (a_s0 : 0 ≤ s0) (b_s0 : s0 ≤ 1) (V_h : VS_ h) (x_0 : s0 = 0 ∨ (100 ≤ l1 ∧ l1 ≤ 115))  : Ok_ (qj_X2_nameOfType_34 nn l1 s0 h) (QP_ 0 2147483647) := by
  unfold qj_X2_nameOfType_34
  refine ok_if ?_ ?_
  · intro C0
    exact ok_rP (by omega) (by omega)
  · intro C0
    refine ok_add (by omega) ?_; intro v2 e_v2
    refine ok_sub (by omega) ?_; intro v3 e_v3
    refine ok_rd (by omega) (gA_30 V_h) ?_; intro v4 e_v4 a_v4 b_v4
    exact ok_rP (by omega) (by omega)
set_option maxRecDepth 4000 in
theorem vj_X2_nameOfType_33 {nn : Nat} (hn : 1000000 ≤ nn) {l1 : Int} {h : ms_M} (a_l1 : (-1) ≤ l1) (b_l1 : l1 ≤ 1600000000) (V_h : VS_ h)  : Ok_ (qj_X2_nameOfType_33 nn l1 h) (QP_ 0 2147483647) := by
  unfold qj_X2_nameOfType_33
  exact vj_X2_nameOfType_34 hn (by omega) (by omega) (by omega) (by omega) V_h (by omega)
set_option maxRecDepth 4000 in
theorem vj_X2_nameOfType_17 {nn : Nat} (hn : 1000000 ≤ nn) {l1 : Int} {h : ms_M} (a_l1 : (-1) ≤ l1) (b_l1 : l1 ≤ 1600000000) (V_h : VS_ h)  : Ok_ (qj_X2_nameOfType_17 nn l1 h) (QP_ 0 2147483647) := by
  unfold qj_X2_nameOfType_17
  refine ok_if ?_ ?_
  · intro C0
    exact vj_X2_nameOfType_33 hn (by omega) (by omega) V_h
  · intro C0
    refine ok_if ?_ ?_
    · intro C1
      exact vj_X2_nameOfType_33 hn (by omega) (by omega) V_h
    · intro C1
      exact vj_X2_nameOfType_34 hn (by omega) (by omega) (by omega) (by omega) V_h (by omega)
set_option maxRecDepth 4000 in
theorem vf_X2_nameOfType {nn : Nat} (hn : 1000000 ≤ nn) {a1 : Int} {h : ms_M} (a_a1 : (-1) ≤ a1) (b_a1 : a1 ≤ 1600000000) (V_h : VS_ h)  : Ok_ (qf_X2_nameOfType nn a1 h) (QP_ 0 2147483647) := by
  unfold qf_X2_nameOfType
  refine ok_if ?_ ?_
  · intro C0
    exact vj_X2_nameOfType_17 hn (by omega) (by omega) V_h
  · intro C0
    refine ok_if ?_ ?_
    · intro C1
      exact vj_X2_nameOfType_17 hn (by omega) (by omega) V_h
    · intro C1
      refine ok_rd (by omega) (gA_30 V_h) ?_; intro v9 e_v9 a_v9 b_v9
      exact ok_rP (by omega) (by omega)
set_option maxRecDepth 4000 in
theorem vw_X6_constant_2 {nn : Nat} (hn : 1000000 ≤ nn) : ∀ (k : Nat) {l1 : Int} {l2 : Int} {l3 : Int} {h : ms_M} (a_l1 : 1 ≤ l1) (b_l1 : l1 ≤ 4) (a_l2 : (-2147483648) ≤ l2) (b_l2 : l2 ≤ 2147483647) (a_l3 : 1 ≤ l3) (b_l3 : l3 ≤ 201) (V_h : VS_ h)  (hm : 202 - l3 < (k : Int)), Ok_ (qw_X6_constant_2 nn k l1 l2 l3 h) (QI_ 0 200) := by
  intro k
  induction k with
  | zero => intros; exfalso; omega
  | succ k ih =>
    intro l1 l2 l3 h a_l1 b_l1 a_l2 b_l2 a_l3 b_l3 V_h hm
    unfold qw_X6_constant_2
    have T1 := gF_45_4 V_h
    refine ok_if ?_ ?_
    · intro C1
      refine ok_if ?_ ?_
      · intro C2
        refine ok_add (by omega) ?_; intro v4 e_v4
        refine ok_xl ?_; intro h5 E_h5; have V_h5 : VS_ h5 := by rw [E_h5]; exact wF_45_4 V_h (by omega)
        have T4 : h5 45 4 = v4 := by rw [E_h5]; exact up_s
        refine ok_wA (by omega) ?_; intro h8 E_h8; have V_h8 : VS_ h8 := by rw [E_h8]; exact wA_46 V_h5 (by omega)
        have T5 : h8 45 4 = h5 45 4 := by rw [E_h8]; exact up_n (fun z => absurd z.1 (by decide))
        refine ok_wA (by omega) ?_; intro h11 E_h11; have V_h11 : VS_ h11 := by rw [E_h11]; exact wA_47 V_h8 (by omega)
        have T6 : h11 45 4 = h8 45 4 := by rw [E_h11]; exact up_n (fun z => absurd z.1 (by decide))
        exact ok_rI V_h11 (by omega) (by omega)
      · intro C2
        refine ok_xl ?_; intro h13 E_h13; have V_h13 : VS_ h13 := by rw [E_h13]; exact wF_45_5 V_h (by omega)
        exact ok_rI V_h13 (by omega) (by omega)
    · intro C1
      refine ok_rd (by omega) (gA_46 V_h) ?_; intro v16 e_v16 a_v16 b_v16
      refine ok_if ?_ ?_
      · intro C6
        refine ok_add (by omega) ?_; intro v17 e_v17
        exact ih (by omega) (by omega) (by omega) (by omega) (by omega) (by omega) V_h (by omega)
      · intro C6
        refine ok_rd (by omega) (gA_47 V_h) ?_; intro v19 e_v19 a_v19 b_v19
        refine ok_if ?_ ?_
        · intro C7
          refine ok_add (by omega) ?_; intro v20 e_v20
          exact ih (by omega) (by omega) (by omega) (by omega) (by omega) (by omega) V_h (by omega)
        · intro C7
          exact ok_rI V_h (by omega) (by omega)
set_option maxRecDepth 4000 in
theorem vf_X6_constant {nn : Nat} (hn : 1000000 ≤ nn) {a1 : Int} {a2 : Int} {h : ms_M} (a_a1 : 1 ≤ a1) (b_a1 : a1 ≤ 4) (a_a2 : (-2147483648) ≤ a2) (b_a2 : a2 ≤ 2147483647) (V_h : VS_ h)  : Ok_ (qf_X6_constant nn a1 a2 h) (QI_ 0 200) := by
  unfold qf_X6_constant
  exact vw_X6_constant_2 hn _ (by omega) (by omega) (by omega) (by omega) (by omega) (by omega) V_h (by omega)
set_option maxRecDepth 4000 in
theorem vf_X6_classOf {nn : Nat} (hn : 1000000 ≤ nn) {a1 : Int} {h : ms_M} (a_a1 : (-1) ≤ a1) (b_a1 : a1 ≤ 1600000000) (V_h : VS_ h)  : Ok_ (qf_X6_classOf nn a1 h) (QI_ 0 200) := by
  unfold qf_X6_classOf
  refine ok_cP (vf_X2_nameOfType hn (by omega) (by omega) V_h) ?_; intro u3 e_u3 a_u3 b_u3
  refine ok_cI (vf_X6_constant hn (by omega) (by omega) (by omega) (by omega) V_h) ?_; intro u5 E_u5 V_u5 a_u5 b_u5
  refine ok_cI (vf_X6_constant hn (by omega) (by omega) (by omega) (by omega) V_u5) ?_; intro u7 E_u7 V_u7 a_u7 b_u7
  exact ok_rI V_u7 (by omega) (by omega)
set_option maxRecDepth 4000 in
theorem vj_X6_put_23 {nn : Nat} (hn : 1000000 ≤ nn) {h : ms_M} (V_h : VS_ h) (x_0 : h 45 7 ≤ 990000000)  : Ok_ (qj_X6_put_23 nn h) (QVR_ (fun r => (r 45 7 ≤ h 45 7 + 1))) := by
  unfold qj_X6_put_23
  have T1 := gF_45_7 V_h
  refine ok_add (by omega) ?_; intro v2 e_v2
  refine ok_xl ?_; intro h3 E_h3; have V_h3 : VS_ h3 := by rw [E_h3]; exact wF_45_7 V_h (by omega)
  have T2 : h3 45 7 = v2 := by rw [E_h3]; exact up_s
  exact ok_rVR V_h3 (by omega)
set_option maxRecDepth 4000 in
theorem vf_X6_put {nn : Nat} (hn : 1000000 ≤ nn) {a1 : Int} {h : ms_M} (a_a1 : (-2147483648) ≤ a1) (b_a1 : a1 ≤ 2147483647) (V_h : VS_ h) (x_0 : h 45 7 ≤ 990000000)  : Ok_ (qf_X6_put nn a1 h) (QVR_ (fun r => (r 45 7 ≤ h 45 7 + 1))) := by
  unfold qf_X6_put
  have T1 := gF_45_7 V_h
  refine ok_if ?_ ?_
  · intro C1
    exact ok_mV (vj_X6_put_23 hn V_h (by omega)) (fun _ V_r R_r => by have := gF_45_7 V_r; omega)
  · intro C1
    refine ok_b ?_; intro v9 a_v9 b_v9
    refine ok_wB (by omega) ?_; intro h10 E_h10; have V_h10 : VS_ h10 := by rw [E_h10]; exact wA_48 V_h oq_b_rh
    have T3 : h10 45 7 = h 45 7 := by rw [E_h10]; exact up_n (fun z => absurd z.1 (by decide))
    exact ok_mV (vj_X6_put_23 hn V_h10 (by omega)) (fun _ V_r R_r => by have := gF_45_7 V_r; omega)
set_option maxRecDepth 4000 in
theorem vw_X6_beginClass_62 {nn : Nat} (hn : 1000000 ≤ nn) : ∀ (k : Nat) {l1 : Int} {l3 : Int} {h : ms_M} (a_l1 : 0 ≤ l1) (b_l1 : l1 ≤ 333) (a_l3 : 0 ≤ l3) (b_l3 : l3 ≤ 12) (V_h : VS_ h) (x_0 : h 45 7 ≤ 3 + 2 * l3)  (hm : 13 - l3 < (k : Int)), Ok_ (qw_X6_beginClass_62 nn k l1 l3 h) (QVR_ (fun r => (r 45 7 ≤ 100))) := by
  intro k
  induction k with
  | zero => intros; exfalso; omega
  | succ k ih =>
    intro l1 l3 h a_l1 b_l1 a_l3 b_l3 V_h x_0 hm
    unfold qw_X6_beginClass_62
    have T1 := gF_45_7 V_h
    refine ok_cP (vf_X2_fieldsOf hn (by omega) (by omega) V_h) ?_; intro u3 e_u3 a_u3 b_u3
    refine ok_if ?_ ?_
    · intro C1
      refine ok_cP (vf_X2_methodsOf hn (by omega) (by omega) V_h) ?_; intro u6 e_u6 a_u6 b_u6
      refine ok_cVR (vf_X6_put hn (by omega) (by omega) V_h (by omega)) ?_; intro u8 E_u8 V_u8 R_u8
      have T3 := gF_45_7 V_u8
      exact ok_rVR V_u8 (by omega)
    · intro C1
      refine ok_mul (by omega) ?_; intro v9 e_v9
      refine ok_add (by omega) ?_; intro v10 e_v10
      refine ok_cP (vf_X2_nameOfField hn (by omega) (by omega) V_h) ?_; intro u13 e_u13 a_u13 b_u13
      refine ok_cI (vf_X6_constant hn (by omega) (by omega) (by omega) (by omega) V_h) ?_; intro u15 E_u15 V_u15 a_u15 b_u15
      have T4 : u15.2 45 7 = h 45 7 := (ff_X6_constant nn) _ E_u15 45 7 rfl
      refine ok_cVR (vf_X6_put hn (by omega) (by omega) V_u15 (by omega)) ?_; intro u17 E_u17 V_u17 R_u17
      have T5 := gF_45_7 V_u17
      refine ok_cP (vf_X2_kindOfField hn (by omega) (by omega) V_u17) ?_; intro u20 e_u20 a_u20 b_u20
      refine ok_cI (vf_X6_constant hn (by omega) (by omega) (by omega) (by omega) V_u17) ?_; intro u22 E_u22 V_u22 a_u22 b_u22
      have T6 : u22.2 45 7 = u17 45 7 := (ff_X6_constant nn) _ E_u22 45 7 rfl
      refine ok_cVR (vf_X6_put hn (by omega) (by omega) V_u22 (by omega)) ?_; intro u24 E_u24 V_u24 R_u24
      have T7 := gF_45_7 V_u24
      refine ok_add (by omega) ?_; intro v25 e_v25
      exact ok_mV (ih (by omega) (by omega) (by omega) (by omega) V_u24 (by omega) (by omega)) (fun _ V_r R_r => by have := gF_45_7 V_r; omega)
set_option maxRecDepth 4000 in
theorem vf_X6_beginClass {nn : Nat} (hn : 1000000 ≤ nn) {a1 : Int} {h : ms_M} (a_a1 : 0 ≤ a1) (b_a1 : a1 ≤ 333) (V_h : VS_ h)  : Ok_ (qf_X6_beginClass nn a1 h) (QVR_ (fun r => (r 45 7 ≤ 100))) := by
  unfold qf_X6_beginClass
  have T1 := gF_45_7 V_h
  refine ok_xl ?_; intro h27 E_h27; have V_h27 : VS_ h27 := by rw [E_h27]; exact wF_45_4 V_h (by omega)
  have T2 : h27 45 7 = h 45 7 := by rw [E_h27]; exact up_n (by decide)
  refine ok_xl ?_; intro h28 E_h28; have V_h28 : VS_ h28 := by rw [E_h28]; exact wF_45_5 V_h27 (by omega)
  have T3 : h28 45 7 = h27 45 7 := by rw [E_h28]; exact up_n (by decide)
  refine ok_xl ?_; intro h29 E_h29; have V_h29 : VS_ h29 := by rw [E_h29]; exact wF_45_7 V_h28 (by omega)
  have T4 : h29 45 7 = 0 := by rw [E_h29]; exact up_s
  refine ok_add (by omega) ?_; intro v30 e_v30
  refine ok_cI (vf_X6_classOf hn (by omega) (by omega) V_h29) ?_; intro u32 E_u32 V_u32 a_u32 b_u32
  have T5 : u32.2 45 7 = h29 45 7 := (ff_X6_classOf nn) _ E_u32 45 7 rfl
  refine ok_cVR (vf_X6_put hn (by omega) (by omega) V_u32 (by omega)) ?_; intro u34 E_u34 V_u34 R_u34
  have T6 := gF_45_7 V_u34
  refine ok_cP (vf_X4_above hn rfl (by omega) (by omega) V_u34) ?_; intro u38 e_u38 a_u38 b_u38
  refine ok_cI (vf_X6_classOf hn (by omega) (by omega) V_u34) ?_; intro u40 E_u40 V_u40 a_u40 b_u40
  have T7 : u40.2 45 7 = u34 45 7 := (ff_X6_classOf nn) _ E_u40 45 7 rfl
  refine ok_cVR (vf_X6_put hn (by omega) (by omega) V_u40 (by omega)) ?_; intro u42 E_u42 V_u42 R_u42
  have T8 := gF_45_7 V_u42
  refine ok_cP (vf_X2_fieldsOf hn (by omega) (by omega) V_u42) ?_; intro u45 e_u45 a_u45 b_u45
  refine ok_cVR (vf_X6_put hn (by omega) (by omega) V_u42 (by omega)) ?_; intro u47 E_u47 V_u47 R_u47
  have T9 := gF_45_7 V_u47
  exact ok_mV (vw_X6_beginClass_62 hn _ (by omega) (by omega) (by omega) (by omega) V_u47 (by omega) (by omega)) (fun _ V_r R_r => by have := gF_45_7 V_r; omega)
set_option maxRecDepth 4000 in
theorem vf_X0_beginClass {nn : Nat} (hn : 1000000 ≤ nn) {a1 : Int} {h : ms_M} (a_a1 : 0 ≤ a1) (b_a1 : a1 ≤ 333) (V_h : VS_ h)  : Ok_ (qf_X0_beginClass nn a1 h) (QVR_ (fun r => (r 45 7 ≤ 100))) := by
  unfold qf_X0_beginClass
  have T1 := gF_45_7 V_h
  refine ok_cVR (vf_X6_beginClass hn (by omega) (by omega) V_h) ?_; intro u3 E_u3 V_u3 R_u3
  have T2 := gF_45_7 V_u3
  exact ok_rVR V_u3 (by omega)
set_option maxRecDepth 4000 in
theorem vf_X0_beginProgram {nn : Nat} (hn : 1000000 ≤ nn) {h : ms_M} (V_h : VS_ h)  : Ok_ (qf_X0_beginProgram nn h) QV_ := by
  unfold qf_X0_beginProgram
  refine ok_xl ?_; intro h1 E_h1; have V_h1 : VS_ h1 := by rw [E_h1]; exact wF_33_7 V_h (by omega)
  exact ok_rV V_h1
set_option maxRecDepth 4000 in
theorem vf_X0_noteMuch {nn : Nat} (hn : 1000000 ≤ nn) {a1 : Int} {a2 : Int} {h : ms_M} (a_a1 : 0 ≤ a1) (b_a1 : a1 ≤ 1) (a_a2 : (-1) ≤ a2) (b_a2 : a2 ≤ 24000000) (V_h : VS_ h)  : Ok_ (qf_X0_noteMuch nn a1 a2 h) QV_ := by
  unfold qf_X0_noteMuch
  refine ok_if ?_ ?_
  · intro C0
    exact ok_rV V_h
  · intro C0
    have T2 := gF_33_7 V_h
    refine ok_if ?_ ?_
    · intro C2
      exact ok_rV V_h
    · intro C2
      refine ok_xl ?_; intro h2 E_h2; have V_h2 : VS_ h2 := by rw [E_h2]; exact wF_33_7 V_h (by omega)
      exact ok_rV V_h2
set_option maxRecDepth 4000 in
theorem vf_X2_tokenOfClass {nn : Nat} (hn : 1000000 ≤ nn) {a1 : Int} {h : ms_M} (a_a1 : 0 ≤ a1) (b_a1 : a1 ≤ 333) (V_h : VS_ h)  : Ok_ (qf_X2_tokenOfClass nn a1 h) (QP_ (-1) 3004) := by
  unfold qf_X2_tokenOfClass
  refine ok_if ?_ ?_
  · intro C0
    exfalso; omega
  · intro C0
    have T2 := gF_11_2 V_h
    refine ok_if ?_ ?_
    · intro C2
      exact ok_rP (by omega) (by omega)
    · intro C2
      refine ok_rd (by omega) (gA_15 V_h) ?_; intro v3 e_v3 a_v3 b_v3
      exact ok_rP (by omega) (by omega)
set_option maxRecDepth 4000 in
theorem vf_X9_nameLength {nn : Nat} (hn : 1000000 ≤ nn) {a1 : Int} {h : ms_M} (a_a1 : (-2147483648) ≤ a1) (b_a1 : a1 ≤ 2147483647) (V_h : VS_ h)  : Ok_ (qf_X9_nameLength nn a1 h) (QP_ (-6400) 6400) := by
  unfold qf_X9_nameLength
  refine ok_if ?_ ?_
  · intro C0
    exact ok_rP (by omega) (by omega)
  · intro C0
    have T2 := gF_2_9 V_h
    refine ok_if ?_ ?_
    · intro C2
      exact ok_rP (by omega) (by omega)
    · intro C2
      refine ok_add (by omega) ?_; intro v3 e_v3
      refine ok_rd (by omega) (gA_7 V_h) ?_; intro v4 e_v4 a_v4 b_v4
      refine ok_rd (by omega) (gA_7 V_h) ?_; intro v6 e_v6 a_v6 b_v6
      refine ok_sub (by omega) ?_; intro v7 e_v7
      exact ok_rP (by omega) (by omega)
set_option maxRecDepth 4000 in
theorem vf_X6_bytesOf {nn : Nat} (hn : 1000000 ≤ nn) {a1 : Int} {a2 : Int} {h : ms_M} (a_a1 : 0 ≤ a1) (b_a1 : a1 ≤ 4) (a_a2 : (-2147483648) ≤ a2) (b_a2 : a2 ≤ 2147483647) (V_h : VS_ h) (N_h : NM_ h)  : Ok_ (qf_X6_bytesOf nn a1 a2 h) (QP_ 2 6402) := by
  unfold qf_X6_bytesOf
  refine ok_if ?_ ?_
  · intro C0
    refine ok_cP (vf_X9_nameLength hn (by omega) (by omega) V_h) ?_; intro u3 e_u3 a_u3 b_u3
    have T2 := lm_X9_nameLength V_h e_u3
    have T3 := nm_len N_h V_h e_u3
    refine ok_add (by omega) ?_; intro v4 e_v4
    exact ok_rP (by omega) (by omega)
  · intro C0
    refine ok_if ?_ ?_
    · intro C3
      exact ok_rP (by omega) (by omega)
    · intro C3
      refine ok_if ?_ ?_
      · intro C4
        exact ok_rP (by omega) (by omega)
      · intro C4
        exact ok_rP (by omega) (by omega)
set_option maxRecDepth 4000 in
theorem vw_X6_imageSize_9 {nn : Nat} (hn : 1000000 ≤ nn) : ∀ (k : Nat) {l1 : Int} {l2 : Int} {h : ms_M} (a_l1 : 3 ≤ l1) (b_l1 : l1 ≤ 1600000000) (a_l2 : 1 ≤ l2) (b_l2 : l2 ≤ 201) (V_h : VS_ h) (x_0 : l1 ≤ 1000000003 + 7000 * (l2 - 1)) (N_h : NM_ h)  (hm : 202 - l2 < (k : Int)), Ok_ (qw_X6_imageSize_9 nn k l1 l2 h) (QP_ 3 1600000000) := by
  intro k
  induction k with
  | zero => intros; exfalso; omega
  | succ k ih =>
    intro l1 l2 h a_l1 b_l1 a_l2 b_l2 V_h x_0 N_h hm
    unfold qw_X6_imageSize_9
    have T1 := gF_45_4 V_h
    refine ok_if ?_ ?_
    · intro C1
      exact ok_rP (by omega) (by omega)
    · intro C1
      refine ok_rd (by omega) (gA_46 V_h) ?_; intro v3 e_v3 a_v3 b_v3
      refine ok_rd (by omega) (gA_47 V_h) ?_; intro v5 e_v5 a_v5 b_v5
      refine ok_cP (vf_X6_bytesOf hn (by omega) (by omega) (by omega) (by omega) V_h N_h) ?_; intro u7 e_u7 a_u7 b_u7
      refine ok_add (by omega) ?_; intro v8 e_v8
      refine ok_add (by omega) ?_; intro v9 e_v9
      exact ih (by omega) (by omega) (by omega) (by omega) V_h (by omega) N_h (by omega)
set_option maxRecDepth 4000 in
theorem vf_X6_imageSize {nn : Nat} (hn : 1000000 ≤ nn) {h : ms_M} (V_h : VS_ h) (N_h : NM_ h)  : Ok_ (qf_X6_imageSize nn h) (QP_ 3 1600000000) := by
  unfold qf_X6_imageSize
  have T1 := gF_45_7 V_h
  refine ok_add (by omega) ?_; intro v12 e_v12
  exact vw_X6_imageSize_9 hn _ (by omega) (by omega) (by omega) (by omega) V_h (by omega) N_h (by omega)
set_option maxRecDepth 4000 in
theorem vf_X6_isTooMuch {nn : Nat} (hn : 1000000 ≤ nn) {h : ms_M} (V_h : VS_ h) (N_h : NM_ h)  : Ok_ (qf_X6_isTooMuch nn h) (QP_ 0 1) := by
  unfold qf_X6_isTooMuch
  have T1 := gF_45_5 V_h
  refine ok_if ?_ ?_
  · intro C1
    exact ok_rP (by omega) (by omega)
  · intro C1
    refine ok_cP (vf_X6_imageSize hn V_h N_h) ?_; intro u3 e_u3 a_u3 b_u3
    refine ok_if ?_ ?_
    · intro C2
      exact ok_rP (by omega) (by omega)
    · intro C2
      exact ok_rP (by omega) (by omega)
set_option maxRecDepth 4000 in
theorem vf_X9_copyName {nn : Nat} (hn : 1000000 ≤ nn) {a1 : Int} {a2 : Nat} {a3 : Int} {h : ms_M} (a_a1 : (-2147483648) ≤ a1) (b_a1 : a1 ≤ 2147483647) (a_a3 : 0 ≤ a3) (b_a3 : a3 ≤ 6000) (V_h : VS_ h) (t_a2 : a2 < cn_M h ∧ ly_T a2 = 1)  : Ok_ (qf_X9_copyName nn a1 a2 a3 h) QV_ := by
  unfold qf_X9_copyName
  refine ok_cP (vf_X9_nameLength hn (by omega) (by omega) V_h) ?_; intro u2 e_u2 a_u2 b_u2
  have T1 := lm_X9_nameLength V_h e_u2
  refine ok_if ?_ ?_
  · intro C1
    exfalso; omega
  · intro C1
    refine ok_add (by omega) ?_; intro v3 e_v3
    refine ok_lS t_a2 ?_; intro v4 e_v4
    refine ok_if ?_ ?_
    · intro C2
      exact ok_rV V_h
    · intro C2
      refine ok_if ?_ ?_
      · intro C3
        exact ok_rV V_h
      · intro C3
        refine ok_rd (by omega) (gA_7 V_h) ?_; intro v7 e_v7 a_v7 b_v7
        have T5 := vi_ln (M := h) (show 6 < 256 by decide); have T6 : (ly_N 6 : Int) = 6400 := rfl
        refine ok_cpB V_h ⟨Nat.lt_of_lt_of_le (by decide) (vi_c V_h), rfl⟩ t_a2 (by omega) ?_; intro h8 V_h8 F_h8
        exact ok_rV V_h8
set_option maxRecDepth 4000 in
theorem vf_X9_tell {nn : Nat} (hn : 1000000 ≤ nn) {a1 : Int} {a2 : Int} {h : ms_M} (a_a1 : 4 ≤ a1) (b_a1 : a1 ≤ 11) (a_a2 : (-1) ≤ a2) (b_a2 : a2 ≤ 50000003) (V_h : VS_ h)  : Ok_ (qf_X9_tell nn a1 a2 h) (QVR_ (fun r => (r 2 10 = h 2 10) ∧ (r 2 3 = h 2 3) ∧ (r 2 11 = h 2 11 ∨ (h 2 11 = 0 ∧ r 2 11 = a1)) ∧ (¬ (h 2 11 = 0 ∧ 0 ≤ a2 ∧ a2 < h 2 3) ∨ r 2 11 = a1))) := by
  unfold qf_X9_tell
  have T1 := gF_2_3 V_h
  have T2 := gF_2_10 V_h
  have T3 := gF_2_11 V_h
  refine ok_if ?_ ?_
  · intro C3
    exact ok_rVR V_h (by omega)
  · intro C3
    refine ok_if ?_ ?_
    · intro C4
      exact ok_rVR V_h (by omega)
    · intro C4
      refine ok_if ?_ ?_
      · intro C5
        exact ok_rVR V_h (by omega)
      · intro C5
        refine ok_xl ?_; intro h3 E_h3; have V_h3 : VS_ h3 := by rw [E_h3]; exact wF_2_11 V_h (by omega)
        have T7 : h3 2 3 = h 2 3 := by rw [E_h3]; exact up_n (by decide)
        have T8 : h3 2 10 = h 2 10 := by rw [E_h3]; exact up_n (by decide)
        have T9 : h3 2 11 = a1 := by rw [E_h3]; exact up_s
        refine ok_rd (by omega) (gA_4 V_h3) ?_; intro v5 e_v5 a_v5 b_v5
        refine ok_xl ?_; intro h6 E_h6; have V_h6 : VS_ h6 := by rw [E_h6]; exact wF_2_12 V_h3 (by omega)
        have T10 : h6 2 3 = h3 2 3 := by rw [E_h6]; exact up_n (by decide)
        have T11 : h6 2 10 = h3 2 10 := by rw [E_h6]; exact up_n (by decide)
        have T12 : h6 2 11 = h3 2 11 := by rw [E_h6]; exact up_n (by decide)
        exact ok_rVR V_h6 (by omega)
set_option maxRecDepth 4000 in
theorem vf_X0_closeProgram {nn : Nat} (hn : 1000000 ≤ nn) {h : ms_M} (V_h : VS_ h)  : Ok_ (qf_X0_closeProgram nn h) QV_ := by
  unfold qf_X0_closeProgram
  have T1 := gF_33_7 V_h
  refine ok_if ?_ ?_
  · intro C1
    exact ok_rV V_h
  · intro C1
    refine ok_cVR (vf_X9_tell hn (by omega) (by omega) (by omega) (by omega) V_h) ?_; intro u5 E_u5 V_u5 R_u5
    exact ok_rV V_u5
set_option maxRecDepth 4000 in
theorem vj_X10_arithmeticOp_91 {nn : Nat} (hn : 1000000 ≤ nn) {h : ms_M} (V_h : VS_ h)  : Ok_ (qj_X10_arithmeticOp_91 nn h) (QP_ 96 130) := by
  unfold qj_X10_arithmeticOp_91
  exact ok_rP (by omega) (by omega)
set_option maxRecDepth 4000 in
theorem vf_X10_arithmeticOp {nn : Nat} (hn : 1000000 ≤ nn) {a0 : Int} {h : ms_M} (a_a0 : 0 ≤ a0) (b_a0 : a0 ≤ 1740) (V_h : VS_ h)  : Ok_ (qf_X10_arithmeticOp nn a0 h) (QP_ 96 130) := by
  unfold qf_X10_arithmeticOp
  refine ok_if ?_ ?_
  · intro C0
    exact ok_rP (by omega) (by omega)
  · intro C0
    refine ok_if ?_ ?_
    · intro C1
      exact ok_rP (by omega) (by omega)
    · intro C1
      refine ok_if ?_ ?_
      · intro C2
        exact ok_rP (by omega) (by omega)
      · intro C2
        refine ok_if ?_ ?_
        · intro C3
          exact ok_rP (by omega) (by omega)
        · intro C3
          refine ok_if ?_ ?_
          · intro C4
            exact ok_rP (by omega) (by omega)
          · intro C4
            refine ok_if ?_ ?_
            · intro C5
              exact ok_rP (by omega) (by omega)
            · intro C5
              refine ok_if ?_ ?_
              · intro C6
                exact ok_rP (by omega) (by omega)
              · intro C6
                refine ok_if ?_ ?_
                · intro C7
                  exact ok_rP (by omega) (by omega)
                · intro C7
                  refine ok_if ?_ ?_
                  · intro C8
                    exact ok_rP (by omega) (by omega)
                  · intro C8
                    refine ok_if ?_ ?_
                    · intro C9
                      exact ok_rP (by omega) (by omega)
                    · intro C9
                      exact vj_X10_arithmeticOp_91 hn V_h
set_option maxRecDepth 4000 in
theorem vf_X10_wantType {nn : Nat} (hn : 1000000 ≤ nn) {a1 : Int} {a2 : Int} {h : ms_M} (a_a1 : 0 ≤ a1) (b_a1 : a1 ≤ 1) (a_a2 : 0 ≤ a2) (b_a2 : a2 ≤ 50000002) (V_h : VS_ h)  : Ok_ (qf_X10_wantType nn a1 a2 h) (QVR_ (fun r => (h 2 11 = 0 ∨ ¬ r 2 11 = 0))) := by
  unfold qf_X10_wantType
  have T1 := gF_2_11 V_h
  refine ok_if ?_ ?_
  · intro C1
    exact ok_rVR V_h (by omega)
  · intro C1
    refine ok_cVR (vf_X9_tell hn (by omega) (by omega) (by omega) (by omega) V_h) ?_; intro u3 E_u3 V_u3 R_u3
    have T3 := gF_2_11 V_u3
    exact ok_rVR V_u3 (by omega)
set_option maxRecDepth 4000 in
theorem vf_X1_aimAt {nn : Nat} (hn : 1000000 ≤ nn) {a1 : Int} {a2 : Int} {h : ms_M} (a_a1 : (-1) ≤ a1) (b_a1 : a1 ≤ 1600000000) (a_a2 : 0 ≤ a2) (b_a2 : a2 ≤ 1600000000) (V_h : VS_ h)  : Ok_ (qf_X1_aimAt nn a1 a2 h) QV_ := by
  unfold qf_X1_aimAt
  refine ok_sub (by omega) ?_; intro v1 e_v1
  refine ok_if ?_ ?_
  · intro C0
    exact ok_rV V_h
  · intro C0
    refine ok_add (by omega) ?_; intro v2 e_v2
    refine ok_if ?_ ?_
    · intro C1
      exact ok_rV V_h
    · intro C1
      refine ok_add (by omega) ?_; intro v6 e_v6
      refine ok_i32 ?_; intro v7 a_v7 b_v7
      refine ok_b ?_; intro v8 a_v8 b_v8
      refine ok_wB (by omega) ?_; intro h9 E_h9; have V_h9 : VS_ h9 := by rw [E_h9]; exact wA_35 V_h oq_b_rh
      refine ok_add (by omega) ?_; intro v11 e_v11
      refine ok_b ?_; intro v12 a_v12 b_v12
      refine ok_wB (by omega) ?_; intro h13 E_h13; have V_h13 : VS_ h13 := by rw [E_h13]; exact wA_35 V_h9 oq_b_rh
      exact ok_rV V_h13
set_option maxRecDepth 4000 in
theorem vj_X1_fillFrame_23 {nn : Nat} (hn : 1000000 ≤ nn) {h : ms_M} (V_h : VS_ h)  : Ok_ (qj_X1_fillFrame_23 nn h) QV_ := by
  unfold qj_X1_fillFrame_23
  refine ok_xl ?_; intro h1 E_h1; have V_h1 : VS_ h1 := by rw [E_h1]; exact wF_34_15 V_h (by omega)
  exact ok_rV V_h1
set_option maxRecDepth 4000 in
theorem vf_X1_fillFrame {nn : Nat} (hn : 1000000 ≤ nn) {a1 : Int} {a2 : Int} {a3 : Int} {h : ms_M} (a_a1 : (-1) ≤ a1) (b_a1 : a1 ≤ 99) (a_a2 : 0 ≤ a2) (b_a2 : a2 ≤ 1000000) (a_a3 : 0 ≤ a3) (b_a3 : a3 ≤ 1600000000) (V_h : VS_ h)  : Ok_ (qf_X1_fillFrame nn a1 a2 a3 h) QV_ := by
  unfold qf_X1_fillFrame
  refine ok_mul (by omega) ?_; intro v2 e_v2
  refine ok_if ?_ ?_
  · intro C0
    exact vj_X1_fillFrame_23 hn V_h
  · intro C0
    refine ok_if ?_ ?_
    · intro C1
      exact vj_X1_fillFrame_23 hn V_h
    · intro C1
      refine ok_if ?_ ?_
      · intro C2
        refine ok_wA (by omega) ?_; intro h4 E_h4; have V_h4 : VS_ h4 := by rw [E_h4]; exact wA_41 V_h (by omega)
        refine ok_add (by omega) ?_; intro v6 e_v6
        refine ok_wA (by omega) ?_; intro h7 E_h7; have V_h7 : VS_ h7 := by rw [E_h7]; exact wA_41 V_h4 (by omega)
        refine ok_add (by omega) ?_; intro v10 e_v10
        refine ok_cp V_h7 (gA_38 V_h7) rfl (show _ ∧ _ ∧ _ ∧ _ + _ ≤ (750 : Int) ∧ _ + _ ≤ (5200 : Int) by omega) (fun z y => wA_41 z (by omega)) ?_; intro h11 V_h11 F_h11
        refine ok_add (by omega) ?_; intro v14 e_v14
        refine ok_add (by omega) ?_; intro v15 e_v15
        refine ok_cp V_h11 (gA_36 V_h11) rfl (show _ ∧ _ ∧ _ ∧ _ + _ ≤ (20 : Int) ∧ _ + _ ≤ (5200 : Int) by omega) (fun z y => wA_41 z (by omega)) ?_; intro h16 V_h16 F_h16
        exact ok_rV V_h16
      · intro C2
        exact vj_X1_fillFrame_23 hn V_h
set_option maxRecDepth 4000 in
theorem vj_X1_slotOfFrame_62 {nn : Nat} (hn : 1000000 ≤ nn) {l1 : Int} {l2 : Int} {h : ms_M} (a_l1 : 0 ≤ l1) (b_l1 : l1 ≤ 1600000000) (a_l2 : 0 ≤ l2) (b_l2 : l2 ≤ 100) (V_h : VS_ h) (x_0 : l2 ≤ h 34 14)  : Ok_ (qj_X1_slotOfFrame_62 nn l1 l2 h) (QI_ (-1) 99) := by
  unfold qj_X1_slotOfFrame_62
  have T1 := gF_34_14 V_h
  refine ok_if ?_ ?_
  · intro C1
    refine ok_add (by omega) ?_; intro v4 e_v4
    refine ok_sub (by omega) ?_; intro v6 e_v6
    refine ok_cp V_h (gA_42 V_h) rfl (show _ ∧ _ ∧ _ ∧ _ + _ ≤ (100 : Int) ∧ _ + _ ≤ (100 : Int) by omega) (fun z y => wA_42 z (by omega)) ?_; intro h7 V_h7 F_h7
    have T3 : h7 34 14 = h 34 14 := F_h7 _ _ (by decide)
    refine ok_wA (by omega) ?_; intro h10 E_h10; have V_h10 : VS_ h10 := by rw [E_h10]; exact wA_42 V_h7 (by omega)
    have T4 : h10 34 14 = h7 34 14 := by rw [E_h10]; exact up_n (fun z => absurd z.1 (by decide))
    refine ok_wA (by omega) ?_; intro h13 E_h13; have V_h13 : VS_ h13 := by rw [E_h13]; exact wA_40 V_h10 (by omega)
    have T5 : h13 34 14 = h10 34 14 := by rw [E_h13]; exact up_n (fun z => absurd z.1 (by decide))
    refine ok_add (by omega) ?_; intro v15 e_v15
    refine ok_xl ?_; intro h16 E_h16; have V_h16 : VS_ h16 := by rw [E_h16]; exact wF_34_14 V_h13 (by omega)
    refine ok_rd (by omega) (gA_42 V_h16) ?_; intro v18 e_v18 a_v18 b_v18
    exact ok_rI V_h16 (by omega) (by omega)
  · intro C1
    exact ok_rI V_h (by omega) (by omega)
set_option maxRecDepth 4000 in
theorem vj_X1_slotOfFrame_32 {nn : Nat} (hn : 1000000 ≤ nn) {l1 : Int} {l2 : Int} {h : ms_M} (a_l1 : 0 ≤ l1) (b_l1 : l1 ≤ 1600000000) (a_l2 : 0 ≤ l2) (b_l2 : l2 ≤ 100) (V_h : VS_ h) (x_0 : l2 ≤ h 34 14)  : Ok_ (qj_X1_slotOfFrame_32 nn l1 l2 h) (QI_ (-1) 99) := by
  unfold qj_X1_slotOfFrame_32
  have T1 := gF_34_14 V_h
  refine ok_if ?_ ?_
  · intro C1
    exact vj_X1_slotOfFrame_62 hn (by omega) (by omega) (by omega) (by omega) V_h (by omega)
  · intro C1
    refine ok_sub (by omega) ?_; intro v22 e_v22
    refine ok_rd (by omega) (gA_42 V_h) ?_; intro v23 e_v23 a_v23 b_v23
    refine ok_rd (by omega) (gA_40 V_h) ?_; intro v24 e_v24 a_v24 b_v24
    refine ok_if ?_ ?_
    · intro C2
      exact vj_X1_slotOfFrame_62 hn (by omega) (by omega) (by omega) (by omega) V_h (by omega)
    · intro C2
      refine ok_sub (by omega) ?_; intro v26 e_v26
      refine ok_rd (by omega) (gA_42 V_h) ?_; intro v27 e_v27 a_v27 b_v27
      exact ok_rI V_h (by omega) (by omega)
set_option maxRecDepth 4000 in
theorem vw_X1_slotOfFrame_5 {nn : Nat} (hn : 1000000 ≤ nn) : ∀ (k : Nat) {l1 : Int} {l2 : Int} {h : ms_M} (a_l1 : 0 ≤ l1) (b_l1 : l1 ≤ 1600000000) (a_l2 : 0 ≤ l2) (b_l2 : l2 ≤ 100) (V_h : VS_ h) (x_0 : l2 ≤ h 34 14)  (hm : l2 - (-1) < (k : Int)), Ok_ (qw_X1_slotOfFrame_5 nn k l1 l2 h) (QI_ (-1) 99) := by
  intro k
  induction k with
  | zero => intros; exfalso; omega
  | succ k ih =>
    intro l1 l2 h a_l1 b_l1 a_l2 b_l2 V_h x_0 hm
    unfold qw_X1_slotOfFrame_5
    have T1 := gF_34_14 V_h
    refine ok_if ?_ ?_
    · intro C1
      exact vj_X1_slotOfFrame_32 hn (by omega) (by omega) (by omega) (by omega) V_h (by omega)
    · intro C1
      refine ok_sub (by omega) ?_; intro v32 e_v32
      refine ok_rd (by omega) (gA_42 V_h) ?_; intro v33 e_v33 a_v33 b_v33
      refine ok_rd (by omega) (gA_40 V_h) ?_; intro v34 e_v34 a_v34 b_v34
      refine ok_if ?_ ?_
      · intro C2
        exact vj_X1_slotOfFrame_32 hn (by omega) (by omega) (by omega) (by omega) V_h (by omega)
      · intro C2
        refine ok_add (by omega) ?_; intro v35 e_v35
        exact ih (by omega) (by omega) (by omega) (by omega) V_h (by omega) (by omega)
set_option maxRecDepth 4000 in
theorem vf_X1_slotOfFrame {nn : Nat} (hn : 1000000 ≤ nn) {a1 : Int} {h : ms_M} (a_a1 : 0 ≤ a1) (b_a1 : a1 ≤ 1600000000) (V_h : VS_ h)  : Ok_ (qf_X1_slotOfFrame nn a1 h) (QI_ (-1) 99) := by
  unfold qf_X1_slotOfFrame
  have T1 := gF_34_14 V_h
  exact vw_X1_slotOfFrame_5 hn _ (by omega) (by omega) (by omega) (by omega) V_h (by omega) (by omega)
set_option maxRecDepth 4000 in
theorem vf_X1_aimHere {nn : Nat} (hn : 1000000 ≤ nn) {a1 : Int} {h : ms_M} (a_a1 : (-1) ≤ a1) (b_a1 : a1 ≤ 1600000000) (V_h : VS_ h) (x_0 : h 34 1 + h 34 3 ≤ 1500000900)  : Ok_ (qf_X1_aimHere nn a1 h) QV_ := by
  unfold qf_X1_aimHere
  have T1 := gF_34_1 V_h
  have T2 := gF_34_3 V_h
  refine ok_cV (vf_X1_aimAt hn (by omega) (by omega) (by omega) (by omega) V_h) ?_; intro u3 E_u3 V_u3
  have T3 : u3 34 1 = h 34 1 := (ff_X1_aimAt nn) _ E_u3 34 1 rfl
  have T4 : u3 34 3 = h 34 3 := (ff_X1_aimAt nn) _ E_u3 34 3 rfl
  refine ok_cI (vf_X1_slotOfFrame hn (by omega) (by omega) V_u3) ?_; intro u6 E_u6 V_u6 a_u6 b_u6
  have T5 : u6.2 34 3 = u3 34 3 := (ff_X1_slotOfFrame nn) _ E_u6 34 3 rfl
  have T6 := gF_34_7 V_u6
  refine ok_cV (vf_X1_fillFrame hn (by omega) (by omega) (by omega) (by omega) (by omega) (by omega) V_u6) ?_; intro u10 E_u10 V_u10
  exact ok_rV V_u10
set_option maxRecDepth 4000 in
theorem vj_X1_op_23 {nn : Nat} (hn : 1000000 ≤ nn) {h : ms_M} (V_h : VS_ h) (x_0 : h 34 1 + h 34 3 ≤ 1500000910)  : Ok_ (qj_X1_op_23 nn h) (QVR_ (fun r => (r 34 1 + r 34 3 ≤ h 34 1 + h 34 3 + 1))) := by
  unfold qj_X1_op_23
  have T1 := gF_34_1 V_h
  have T2 := gF_34_3 V_h
  refine ok_add (by omega) ?_; intro v2 e_v2
  refine ok_xl ?_; intro h3 E_h3; have V_h3 : VS_ h3 := by rw [E_h3]; exact wF_34_1 V_h (by omega)
  have T3 : h3 34 3 = h 34 3 := by rw [E_h3]; exact up_n (by decide)
  have T4 : h3 34 1 = v2 := by rw [E_h3]; exact up_s
  exact ok_rVR V_h3 (by omega)
set_option maxRecDepth 4000 in
theorem vf_X1_op {nn : Nat} (hn : 1000000 ≤ nn) {a1 : Int} {h : ms_M} (a_a1 : (-1) ≤ a1) (b_a1 : a1 ≤ 1000000) (V_h : VS_ h) (x_0 : h 34 1 + h 34 3 ≤ 1500000900)  : Ok_ (qf_X1_op nn a1 h) (QVR_ (fun r => (r 34 1 + r 34 3 ≤ h 34 1 + h 34 3 + 1))) := by
  unfold qf_X1_op
  have T1 := gF_34_1 V_h
  have T2 := gF_34_3 V_h
  refine ok_if ?_ ?_
  · intro C2
    exact ok_mV (vj_X1_op_23 hn V_h (by omega)) (fun _ V_r R_r => by have := gF_34_1 V_r; have := gF_34_3 V_r; omega)
  · intro C2
    refine ok_b ?_; intro v9 a_v9 b_v9
    refine ok_wB (by omega) ?_; intro h10 E_h10; have V_h10 : VS_ h10 := by rw [E_h10]; exact wA_35 V_h oq_b_rh
    have T4 : h10 34 1 = h 34 1 := by rw [E_h10]; exact up_n (fun z => absurd z.1 (by decide))
    have T5 : h10 34 3 = h 34 3 := by rw [E_h10]; exact up_n (fun z => absurd z.1 (by decide))
    exact ok_mV (vj_X1_op_23 hn V_h10 (by omega)) (fun _ V_r R_r => by have := gF_34_1 V_r; have := gF_34_3 V_r; omega)
set_option maxRecDepth 4000 in
theorem vf_X1_pop {nn : Nat} (hn : 1000000 ≤ nn) {a1 : Int} {h : ms_M} (a_a1 : 0 ≤ a1) (b_a1 : a1 ≤ 3002) (V_h : VS_ h) (x_0 : h 34 1 + h 34 3 ≤ 1500000900)  : Ok_ (qf_X1_pop nn a1 h) (QVR_ (fun r => (r 34 1 + r 34 3 ≤ h 34 1 + h 34 3 + 0))) := by
  unfold qf_X1_pop
  have T1 := gF_34_1 V_h
  have T2 := gF_34_3 V_h
  refine ok_sub (by omega) ?_; intro v2 e_v2
  refine ok_ite ?_; intro v3 e_v3
  refine ok_xl ?_; intro h4 E_h4; have V_h4 : VS_ h4 := by rw [E_h4]; exact wF_34_3 V_h (by omega)
  have T3 : h4 34 1 = h 34 1 := by rw [E_h4]; exact up_n (by decide)
  have T4 : h4 34 3 = v3 := by rw [E_h4]; exact up_s
  exact ok_rVR V_h4 (by omega)
set_option maxRecDepth 4000 in
theorem vf_X1_jump {nn : Nat} (hn : 1000000 ≤ nn) {a1 : Int} {a2 : Int} {h : ms_M} (a_a1 : 153 ≤ a1) (b_a1 : a1 ≤ 167) (a_a2 : 0 ≤ a2) (b_a2 : a2 ≤ 2) (V_h : VS_ h) (x_0 : h 34 1 + h 34 3 ≤ 1500000800)  : Ok_ (qf_X1_jump nn a1 a2 h) (QIR_ 0 1600000000 (fun u r => (r 34 1 + r 34 3 ≤ h 34 1 + h 34 3 + 3))) := by
  unfold qf_X1_jump
  have T1 := gF_34_1 V_h
  have T2 := gF_34_3 V_h
  refine ok_cVR (vf_X1_pop hn (by omega) (by omega) V_h (by omega)) ?_; intro u3 E_u3 V_u3 R_u3
  have T3 : u3 34 1 = h 34 1 := (ff_X1_pop nn) _ E_u3 34 1 rfl
  have T4 := gF_34_3 V_u3
  refine ok_cVR (vf_X1_op hn (by omega) (by omega) V_u3 (by omega)) ?_; intro u5 E_u5 V_u5 R_u5
  have T5 : u5 34 3 = u3 34 3 := (ff_X1_op nn) _ E_u5 34 3 rfl
  have T6 := gF_34_1 V_u5
  refine ok_cVR (vf_X1_op hn (by omega) (by omega) V_u5 (by omega)) ?_; intro u7 E_u7 V_u7 R_u7
  have T7 : u7 34 3 = u5 34 3 := (ff_X1_op nn) _ E_u7 34 3 rfl
  have T8 := gF_34_1 V_u7
  refine ok_cVR (vf_X1_op hn (by omega) (by omega) V_u7 (by omega)) ?_; intro u9 E_u9 V_u9 R_u9
  have T9 : u9 34 3 = u7 34 3 := (ff_X1_op nn) _ E_u9 34 3 rfl
  have T10 := gF_34_1 V_u9
  exact ok_rIR V_u9 (by omega) (by omega) (by omega)
set_option maxRecDepth 4000 in
theorem vj_X1_push_22 {nn : Nat} (hn : 1000000 ≤ nn) {h : ms_M} (V_h : VS_ h) (x_0 : h 34 1 + h 34 3 ≤ 1500000910)  : Ok_ (qj_X1_push_22 nn h) (QVR_ (fun r => (r 34 1 + r 34 3 ≤ h 34 1 + h 34 3 + 1))) := by
  unfold qj_X1_push_22
  have T1 := gF_34_1 V_h
  have T2 := gF_34_3 V_h
  refine ok_add (by omega) ?_; intro v2 e_v2
  refine ok_xl ?_; intro h3 E_h3; have V_h3 : VS_ h3 := by rw [E_h3]; exact wF_34_3 V_h (by omega)
  have T3 : h3 34 1 = h 34 1 := by rw [E_h3]; exact up_n (by decide)
  have T4 : h3 34 3 = v2 := by rw [E_h3]; exact up_s
  have T5 := gF_34_4 V_h3
  refine ok_ite ?_; intro v6 e_v6
  refine ok_xl ?_; intro h7 E_h7; have V_h7 : VS_ h7 := by rw [E_h7]; exact wF_34_4 V_h3 (by omega)
  have T6 : h7 34 1 = h3 34 1 := by rw [E_h7]; exact up_n (by decide)
  have T7 : h7 34 3 = h3 34 3 := by rw [E_h7]; exact up_n (by decide)
  exact ok_rVR V_h7 (by omega)
set_option maxRecDepth 4000 in
theorem vf_X1_push {nn : Nat} (hn : 1000000 ≤ nn) {a1 : Int} {h : ms_M} (a_a1 : (-1) ≤ a1) (b_a1 : a1 ≤ 441) (V_h : VS_ h) (x_0 : h 34 1 + h 34 3 ≤ 1500000900)  : Ok_ (qf_X1_push nn a1 h) (QVR_ (fun r => (r 34 1 + r 34 3 ≤ h 34 1 + h 34 3 + 1))) := by
  unfold qf_X1_push
  have T1 := gF_34_1 V_h
  have T2 := gF_34_3 V_h
  refine ok_if ?_ ?_
  · intro C2
    exact ok_mV (vj_X1_push_22 hn V_h (by omega)) (fun _ V_r R_r => by have := gF_34_1 V_r; have := gF_34_3 V_r; omega)
  · intro C2
    refine ok_wA (by omega) ?_; intro h13 E_h13; have V_h13 : VS_ h13 := by rw [E_h13]; exact wA_36 V_h (by omega)
    have T4 : h13 34 1 = h 34 1 := by rw [E_h13]; exact up_n (fun z => absurd z.1 (by decide))
    have T5 : h13 34 3 = h 34 3 := by rw [E_h13]; exact up_n (fun z => absurd z.1 (by decide))
    exact ok_mV (vj_X1_push_22 hn V_h13 (by omega)) (fun _ V_r R_r => by have := gF_34_1 V_r; have := gF_34_3 V_r; omega)
set_option maxRecDepth 4000 in
theorem vj_X10_closeShort_66 {nn : Nat} (hn : 1000000 ≤ nn) {l3 : Int} {s0 : Int} {h : ms_M} (a_l3 : 0 ≤ l3) (b_l3 : l3 ≤ 1600000000) (a_s0 : 3 ≤ s0) (b_s0 : s0 ≤ 4) (V_h : VS_ h) (x_0 : h 34 1 + h 34 3 ≤ 1500000713)  : Ok_ (qj_X10_closeShort_66 nn l3 s0 h) (QVR_ (fun r => (h 2 11 = 0 ∨ ¬ r 2 11 = 0) ∧ (r 34 1 + r 34 3 + 12 * r 49 10 + 20 * h 2 10 ≤ h 34 1 + h 34 3 + 12 * h 49 10 + 20 * r 2 10 + 2))) := by
  unfold qj_X10_closeShort_66
  have T1 := gF_2_10 V_h
  have T2 := gF_2_11 V_h
  have T3 := gF_34_1 V_h
  have T4 := gF_34_3 V_h
  have T5 := gF_49_10 V_h
  refine ok_cVR (vf_X1_op hn (by omega) (by omega) V_h (by omega)) ?_; intro u2 E_u2 V_u2 R_u2
  have T6 : u2 2 10 = h 2 10 := (ff_X1_op nn) _ E_u2 2 10 rfl
  have T7 : u2 2 11 = h 2 11 := (ff_X1_op nn) _ E_u2 2 11 rfl
  have T8 : u2 34 3 = h 34 3 := (ff_X1_op nn) _ E_u2 34 3 rfl
  have T9 : u2 49 10 = h 49 10 := (ff_X1_op nn) _ E_u2 49 10 rfl
  have T10 := gF_34_1 V_u2
  refine ok_cVR (vf_X1_push hn (by omega) (by omega) V_u2 (by omega)) ?_; intro u5 E_u5 V_u5 R_u5
  have T11 : u5 2 10 = u2 2 10 := (ff_X1_push nn) _ E_u5 2 10 rfl
  have T12 : u5 2 11 = u2 2 11 := (ff_X1_push nn) _ E_u5 2 11 rfl
  have T13 : u5 49 10 = u2 49 10 := (ff_X1_push nn) _ E_u5 49 10 rfl
  have T14 : u5 34 1 = u2 34 1 := (ff_X1_push nn) _ E_u5 34 1 rfl
  have T15 := gF_34_3 V_u5
  refine ok_cV (vf_X1_aimHere hn (by omega) (by omega) V_u5 (by omega)) ?_; intro u8 E_u8 V_u8
  have T16 : u8 2 10 = u5 2 10 := (ff_X1_aimHere nn) _ E_u8 2 10 rfl
  have T17 : u8 2 11 = u5 2 11 := (ff_X1_aimHere nn) _ E_u8 2 11 rfl
  have T18 : u8 49 10 = u5 49 10 := (ff_X1_aimHere nn) _ E_u8 49 10 rfl
  have T19 : u8 34 1 = u5 34 1 := (ff_X1_aimHere nn) _ E_u8 34 1 rfl
  have T20 : u8 34 3 = u5 34 3 := (ff_X1_aimHere nn) _ E_u8 34 3 rfl
  refine ok_xl ?_; intro h9 E_h9; have V_h9 : VS_ h9 := by rw [E_h9]; exact wF_49_12 V_u8 (by omega)
  have T21 : h9 2 10 = u8 2 10 := by rw [E_h9]; exact up_n (by decide)
  have T22 : h9 2 11 = u8 2 11 := by rw [E_h9]; exact up_n (by decide)
  have T23 : h9 49 10 = u8 49 10 := by rw [E_h9]; exact up_n (by decide)
  have T24 : h9 34 1 = u8 34 1 := by rw [E_h9]; exact up_n (by decide)
  have T25 : h9 34 3 = u8 34 3 := by rw [E_h9]; exact up_n (by decide)
  exact ok_rVR V_h9 (by omega)
set_option maxRecDepth 4000 in
theorem vj_X10_closeShort_16 {nn : Nat} (hn : 1000000 ≤ nn) {l1 : Int} {l2 : Int} {s0 : Int} {h : ms_M} (a_l1 : 67 ≤ l1) (b_l1 : l1 ≤ 69) (a_l2 : (-1) ≤ l2) (b_l2 : l2 ≤ 1600000000) (a_s0 : 0 ≤ s0) (b_s0 : s0 ≤ 1) (V_h : VS_ h) (x_0 : h 34 1 + h 34 3 ≤ 1500000710)  : Ok_ (qj_X10_closeShort_16 nn l1 l2 s0 h) (QVR_ (fun r => (h 2 11 = 0 ∨ ¬ r 2 11 = 0) ∧ (r 34 1 + r 34 3 + 12 * r 49 10 + 20 * h 2 10 ≤ h 34 1 + h 34 3 + 12 * h 49 10 + 20 * r 2 10 + 5))) := by
  unfold qj_X10_closeShort_16
  have T1 := gF_2_10 V_h
  have T2 := gF_2_11 V_h
  have T3 := gF_34_1 V_h
  have T4 := gF_34_3 V_h
  have T5 := gF_49_10 V_h
  have T6 := gF_49_15 V_h
  refine ok_cVR (vf_X10_wantType hn (by omega) (by omega) (by omega) (by omega) V_h) ?_; intro u12 E_u12 V_u12 R_u12
  have T7 : u12 2 10 = h 2 10 := (ff_X10_wantType nn) _ E_u12 2 10 rfl
  have T8 : u12 34 1 = h 34 1 := (ff_X10_wantType nn) _ E_u12 34 1 rfl
  have T9 : u12 34 3 = h 34 3 := (ff_X10_wantType nn) _ E_u12 34 3 rfl
  have T10 : u12 49 10 = h 49 10 := (ff_X10_wantType nn) _ E_u12 49 10 rfl
  have T11 := gF_2_11 V_u12
  refine ok_cIR (vf_X1_jump hn (by omega) (by omega) (by omega) (by omega) V_u12 (by omega)) ?_; intro u15 E_u15 V_u15 a_u15 b_u15 R_u15
  have T12 : u15.2 2 10 = u12 2 10 := (ff_X1_jump nn) _ E_u15 2 10 rfl
  have T13 : u15.2 49 10 = u12 49 10 := (ff_X1_jump nn) _ E_u15 49 10 rfl
  have T14 : u15.2 2 11 = u12 2 11 := (ff_X1_jump nn) _ E_u15 2 11 rfl
  have T15 := gF_34_1 V_u15
  have T16 := gF_34_3 V_u15
  refine ok_cVR (vf_X1_pop hn (by omega) (by omega) V_u15 (by omega)) ?_; intro u18 E_u18 V_u18 R_u18
  have T17 : u18 2 10 = u15.2 2 10 := (ff_X1_pop nn) _ E_u18 2 10 rfl
  have T18 : u18 49 10 = u15.2 49 10 := (ff_X1_pop nn) _ E_u18 49 10 rfl
  have T19 : u18 2 11 = u15.2 2 11 := (ff_X1_pop nn) _ E_u18 2 11 rfl
  have T20 : u18 34 1 = u15.2 34 1 := (ff_X1_pop nn) _ E_u18 34 1 rfl
  have T21 := gF_34_3 V_u18
  refine ok_cV (vf_X1_aimHere hn (by omega) (by omega) V_u18 (by omega)) ?_; intro u21 E_u21 V_u21
  have T22 : u21 2 10 = u18 2 10 := (ff_X1_aimHere nn) _ E_u21 2 10 rfl
  have T23 : u21 49 10 = u18 49 10 := (ff_X1_aimHere nn) _ E_u21 49 10 rfl
  have T24 : u21 2 11 = u18 2 11 := (ff_X1_aimHere nn) _ E_u21 2 11 rfl
  have T25 : u21 34 1 = u18 34 1 := (ff_X1_aimHere nn) _ E_u21 34 1 rfl
  have T26 : u21 34 3 = u18 34 3 := (ff_X1_aimHere nn) _ E_u21 34 3 rfl
  refine ok_if ?_ ?_
  · intro C26
    exact ok_mV (vj_X10_closeShort_66 hn (by omega) (by omega) (by omega) (by omega) V_u21 (by omega)) (fun _ V_r R_r => by have := gF_2_10 V_r; have := gF_2_11 V_r; have := gF_34_1 V_r; have := gF_34_3 V_r; have := gF_49_10 V_r; omega)
  · intro C26
    exact ok_mV (vj_X10_closeShort_66 hn (by omega) (by omega) (by omega) (by omega) V_u21 (by omega)) (fun _ V_r R_r => by have := gF_2_10 V_r; have := gF_2_11 V_r; have := gF_34_1 V_r; have := gF_34_3 V_r; have := gF_49_10 V_r; omega)
set_option maxRecDepth 4000 in
theorem vf_X10_closeShort {nn : Nat} (hn : 1000000 ≤ nn) {a1 : Int} {a2 : Int} {h : ms_M} (a_a1 : 67 ≤ a1) (b_a1 : a1 ≤ 69) (a_a2 : (-1) ≤ a2) (b_a2 : a2 ≤ 1600000000) (V_h : VS_ h) (x_0 : h 34 1 + h 34 3 ≤ 1500000700)  : Ok_ (qf_X10_closeShort nn a1 a2 h) (QVR_ (fun r => (h 2 11 = 0 ∨ ¬ r 2 11 = 0) ∧ (r 34 1 + r 34 3 + 12 * r 49 10 + 20 * h 2 10 ≤ h 34 1 + h 34 3 + 12 * h 49 10 + 20 * r 2 10 + 5))) := by
  unfold qf_X10_closeShort
  have T1 := gF_2_10 V_h
  have T2 := gF_2_11 V_h
  have T3 := gF_34_1 V_h
  have T4 := gF_34_3 V_h
  have T5 := gF_49_10 V_h
  have T6 := gF_49_12 V_h
  refine ok_if ?_ ?_
  · intro C6
    exact ok_mV (vj_X10_closeShort_16 hn (by omega) (by omega) (by omega) (by omega) (by omega) (by omega) V_h (by omega)) (fun _ V_r R_r => by have := gF_2_10 V_r; have := gF_2_11 V_r; have := gF_34_1 V_r; have := gF_34_3 V_r; have := gF_49_10 V_r; omega)
  · intro C6
    exact ok_mV (vj_X10_closeShort_16 hn (by omega) (by omega) (by omega) (by omega) (by omega) (by omega) V_h (by omega)) (fun _ V_r R_r => by have := gF_2_10 V_r; have := gF_2_11 V_r; have := gF_34_1 V_r; have := gF_34_3 V_r; have := gF_49_10 V_r; omega)
set_option maxRecDepth 4000 in
theorem vj_X10_compareOp_80 {nn : Nat} (hn : 1000000 ≤ nn) {h : ms_M} (V_h : VS_ h)  : Ok_ (qj_X10_compareOp_80 nn h) (QP_ 159 166) := by
  unfold qj_X10_compareOp_80
  exact ok_rP (by omega) (by omega)
set_option maxRecDepth 4000 in
theorem vf_X10_compareOp {nn : Nat} (hn : 1000000 ≤ nn) {a0 : Int} {a1 : Int} {h : ms_M} (a_a0 : 0 ≤ a0) (b_a0 : a0 ≤ 1740) (a_a1 : 0 ≤ a1) (b_a1 : a1 ≤ 1) (V_h : VS_ h)  : Ok_ (qf_X10_compareOp nn a0 a1 h) (QP_ 159 166) := by
  unfold qf_X10_compareOp
  refine ok_if ?_ ?_
  · intro C0
    refine ok_if ?_ ?_
    · intro C1
      exact ok_rP (by omega) (by omega)
    · intro C1
      exact ok_rP (by omega) (by omega)
  · intro C0
    refine ok_if ?_ ?_
    · intro C2
      refine ok_if ?_ ?_
      · intro C3
        exact ok_rP (by omega) (by omega)
      · intro C3
        exact ok_rP (by omega) (by omega)
    · intro C2
      refine ok_if ?_ ?_
      · intro C4
        exact ok_rP (by omega) (by omega)
      · intro C4
        refine ok_if ?_ ?_
        · intro C5
          exact ok_rP (by omega) (by omega)
        · intro C5
          refine ok_if ?_ ?_
          · intro C6
            exact ok_rP (by omega) (by omega)
          · intro C6
            exact vj_X10_compareOp_80 hn V_h
set_option maxRecDepth 4000 in
theorem vf_X4_isNumber {nn : Nat} (hn : 1000000 ≤ nn) {a0 : Int} {h : ms_M} (a_a0 : (-1) ≤ a0) (b_a0 : a0 ≤ 441) (V_h : VS_ h)  : Ok_ (qf_X4_isNumber nn a0 h) (QP_ 0 1) := by
  unfold qf_X4_isNumber
  refine ok_if ?_ ?_
  · intro C0
    exact ok_rP (by omega) (by omega)
  · intro C0
    refine ok_if ?_ ?_
    · intro C1
      exact ok_rP (by omega) (by omega)
    · intro C1
      exact ok_rP (by omega) (by omega)
set_option maxRecDepth 4000 in
theorem vf_X4_isReference {nn : Nat} (hn : 1000000 ≤ nn) {a0 : Int} {h : ms_M} (a_a0 : (-2147483648) ≤ a0) (b_a0 : a0 ≤ 2147483647) (V_h : VS_ h)  : Ok_ (qf_X4_isReference nn a0 h) (QP_ 0 1) := by
  unfold qf_X4_isReference
  refine ok_if ?_ ?_
  · intro C0
    exact ok_rP (by omega) (by omega)
  · intro C0
    refine ok_if ?_ ?_
    · intro C1
      exact ok_rP (by omega) (by omega)
    · intro C1
      refine ok_if ?_ ?_
      · intro C2
        exact ok_rP (by omega) (by omega)
      · intro C2
        exact ok_rP (by omega) (by omega)
set_option maxRecDepth 4000 in
theorem vj_X4_fits_123 {nn : Nat} (hn : 1000000 ≤ nn) {l0 : Nat} {l1 : Int} {l2 : Int} {s0 : Int} {h : ms_M} (hb_l0 : kc_O l0 = 4) (a_l1 : (-2147483648) ≤ l1) (b_l1 : l1 ≤ 2147483647) (a_l2 : (-2147483648) ≤ l2) (b_l2 : l2 ≤ 2147483647) (a_s0 : 0 ≤ s0) (b_s0 : s0 ≤ 1) (V_h : VS_ h) (x_0 : s0 = 0 ∨ (100 ≤ l1 ∧ l1 ≤ 115 ∧ 100 ≤ l2 ∧ l2 ≤ 115))  : Ok_ (qj_X4_fits_123 nn l0 l1 l2 s0 h) (QP_ 0 1) := by
  unfold qj_X4_fits_123
  refine ok_if ?_ ?_
  · intro C0
    exact ok_rP (by omega) (by omega)
  · intro C0
    refine ok_sub (by omega) ?_; intro v2 e_v2
    refine ok_mul (by omega) ?_; intro v3 e_v3
    refine ok_add (by omega) ?_; intro v4 e_v4
    refine ok_sub (by omega) ?_; intro v5 e_v5
    refine ok_rd (by omega) (gKA_2 V_h hb_l0) ?_; intro v6 e_v6 a_v6 b_v6
    refine ok_if ?_ ?_
    · intro C1
      exact ok_rP (by omega) (by omega)
    · intro C1
      exact ok_rP (by omega) (by omega)
set_option maxRecDepth 4000 in
theorem vj_X4_fits_122 {nn : Nat} (hn : 1000000 ≤ nn) {l0 : Nat} {l1 : Int} {l2 : Int} {h : ms_M} (hb_l0 : kc_O l0 = 4) (a_l1 : (-2147483648) ≤ l1) (b_l1 : l1 ≤ 2147483647) (a_l2 : (-2147483648) ≤ l2) (b_l2 : l2 ≤ 2147483647) (V_h : VS_ h)  : Ok_ (qj_X4_fits_122 nn l0 l1 l2 h) (QP_ 0 1) := by
  unfold qj_X4_fits_122
  exact vj_X4_fits_123 hn hb_l0 (by omega) (by omega) (by omega) (by omega) (by omega) (by omega) V_h (by omega)
set_option maxRecDepth 4000 in
theorem vj_X4_fits_71 {nn : Nat} (hn : 1000000 ≤ nn) {l0 : Nat} {l1 : Int} {l2 : Int} {h : ms_M} (hb_l0 : kc_O l0 = 4) (a_l1 : (-2147483648) ≤ l1) (b_l1 : l1 ≤ 2147483647) (a_l2 : (-2147483648) ≤ l2) (b_l2 : l2 ≤ 2147483647) (V_h : VS_ h)  : Ok_ (qj_X4_fits_71 nn l0 l1 l2 h) (QP_ 0 1) := by
  unfold qj_X4_fits_71
  refine ok_if ?_ ?_
  · intro C0
    refine ok_if ?_ ?_
    · intro C1
      exact vj_X4_fits_122 hn hb_l0 (by omega) (by omega) (by omega) (by omega) V_h
    · intro C1
      refine ok_if ?_ ?_
      · intro C2
        exact vj_X4_fits_122 hn hb_l0 (by omega) (by omega) (by omega) (by omega) V_h
      · intro C2
        refine ok_if ?_ ?_
        · intro C3
          exact vj_X4_fits_122 hn hb_l0 (by omega) (by omega) (by omega) (by omega) V_h
        · intro C3
          refine ok_if ?_ ?_
          · intro C4
            exact vj_X4_fits_122 hn hb_l0 (by omega) (by omega) (by omega) (by omega) V_h
          · intro C4
            exact vj_X4_fits_123 hn hb_l0 (by omega) (by omega) (by omega) (by omega) (by omega) (by omega) V_h (by omega)
  · intro C0
    refine ok_if ?_ ?_
    · intro C5
      exact ok_rP (by omega) (by omega)
    · intro C5
      refine ok_if ?_ ?_
      · intro C6
        exact ok_rP (by omega) (by omega)
      · intro C6
        exact ok_rP (by omega) (by omega)
set_option maxRecDepth 4000 in
theorem vf_X4_fits {nn : Nat} (hn : 1000000 ≤ nn) {a0 : Nat} {a1 : Int} {a2 : Int} {h : ms_M} (hb_a0 : kc_O a0 = 4) (a_a1 : (-2147483648) ≤ a1) (b_a1 : a1 ≤ 2147483647) (a_a2 : (-2147483648) ≤ a2) (b_a2 : a2 ≤ 2147483647) (V_h : VS_ h)  : Ok_ (qf_X4_fits nn a0 a1 a2 h) (QP_ 0 1) := by
  unfold qf_X4_fits
  refine ok_if ?_ ?_
  · intro C0
    refine ok_if ?_ ?_
    · intro C1
      refine ok_if ?_ ?_
      · intro C2
        exact vj_X4_fits_71 hn hb_a0 (by omega) (by omega) (by omega) (by omega) V_h
      · intro C2
        refine ok_if ?_ ?_
        · intro C3
          exact vj_X4_fits_71 hn hb_a0 (by omega) (by omega) (by omega) (by omega) V_h
        · intro C3
          refine ok_if ?_ ?_
          · intro C4
            exact ok_rP (by omega) (by omega)
          · intro C4
            refine ok_if ?_ ?_
            · intro C5
              exact ok_rP (by omega) (by omega)
            · intro C5
              refine ok_mul (by omega) ?_; intro v17 e_v17
              refine ok_add (by omega) ?_; intro v18 e_v18
              refine ok_rd (by omega) (gKA_2 V_h hb_a0) ?_; intro v19 e_v19 a_v19 b_v19
              refine ok_if ?_ ?_
              · intro C6
                exact ok_rP (by omega) (by omega)
              · intro C6
                exact ok_rP (by omega) (by omega)
    · intro C1
      refine ok_if ?_ ?_
      · intro C7
        exact ok_rP (by omega) (by omega)
      · intro C7
        refine ok_if ?_ ?_
        · intro C8
          exact ok_rP (by omega) (by omega)
        · intro C8
          exact ok_rP (by omega) (by omega)
  · intro C0
    exact ok_rP (by omega) (by omega)
set_option maxRecDepth 4000 in
theorem vf_X4_oneFits {nn : Nat} (hn : 1000000 ≤ nn) {a1 : Int} {a2 : Int} {h : ms_M} (a_a1 : (-1) ≤ a1) (b_a1 : a1 ≤ 441) (a_a2 : (-1) ≤ a2) (b_a2 : a2 ≤ 441) (V_h : VS_ h)  : Ok_ (qf_X4_oneFits nn a1 a2 h) (QP_ 0 1) := by
  unfold qf_X4_oneFits
  refine ok_cP (vf_X4_fits hn rfl (by omega) (by omega) (by omega) (by omega) V_h) ?_; intro u2 e_u2 a_u2 b_u2
  refine ok_if ?_ ?_
  · intro C0
    exact ok_rP (by omega) (by omega)
  · intro C0
    refine ok_cP (vf_X4_fits hn rfl (by omega) (by omega) (by omega) (by omega) V_h) ?_; intro u4 e_u4 a_u4 b_u4
    refine ok_if ?_ ?_
    · intro C1
      exact ok_rP (by omega) (by omega)
    · intro C1
      exact ok_rP (by omega) (by omega)
set_option maxRecDepth 4000 in
theorem vj_X10_isPair_24 {nn : Nat} (hn : 1000000 ≤ nn) {l1 : Int} {l2 : Int} {h : ms_M} (a_l1 : (-1) ≤ l1) (b_l1 : l1 ≤ 441) (a_l2 : (-1) ≤ l2) (b_l2 : l2 ≤ 441) (V_h : VS_ h)  : Ok_ (qj_X10_isPair_24 nn l1 l2 h) (QP_ 0 1) := by
  unfold qj_X10_isPair_24
  refine ok_if ?_ ?_
  · intro C0
    exact ok_rP (by omega) (by omega)
  · intro C0
    refine ok_cP (vf_X4_isNumber hn (by omega) (by omega) V_h) ?_; intro u1 e_u1 a_u1 b_u1
    refine ok_if ?_ ?_
    · intro C1
      exact ok_rP (by omega) (by omega)
    · intro C1
      exact ok_rP (by omega) (by omega)
set_option maxRecDepth 4000 in
theorem vf_X10_isPair {nn : Nat} (hn : 1000000 ≤ nn) {a1 : Int} {a2 : Int} {h : ms_M} (a_a1 : (-1) ≤ a1) (b_a1 : a1 ≤ 441) (a_a2 : (-1) ≤ a2) (b_a2 : a2 ≤ 441) (V_h : VS_ h)  : Ok_ (qf_X10_isPair nn a1 a2 h) (QP_ 0 1) := by
  unfold qf_X10_isPair
  refine ok_cP (vf_X4_isReference hn (by omega) (by omega) V_h) ?_; intro u4 e_u4 a_u4 b_u4
  refine ok_if ?_ ?_
  · intro C0
    exact vj_X10_isPair_24 hn (by omega) (by omega) (by omega) (by omega) V_h
  · intro C0
    refine ok_cP (vf_X4_isReference hn (by omega) (by omega) V_h) ?_; intro u5 e_u5 a_u5 b_u5
    refine ok_if ?_ ?_
    · intro C1
      exact vj_X10_isPair_24 hn (by omega) (by omega) (by omega) (by omega) V_h
    · intro C1
      refine ok_cP (vf_X4_oneFits hn (by omega) (by omega) (by omega) (by omega) V_h) ?_; intro u8 e_u8 a_u8 b_u8
      refine ok_ck (by omega) ?_
      exact ok_rP (by omega) (by omega)
set_option maxRecDepth 4000 in
theorem vf_X1_truth {nn : Nat} (hn : 1000000 ≤ nn) {a1 : Int} {a2 : Int} {h : ms_M} (a_a1 : 153 ≤ a1) (b_a1 : a1 ≤ 166) (a_a2 : 1 ≤ a2) (b_a2 : a2 ≤ 2) (V_h : VS_ h) (x_0 : h 34 1 + h 34 3 ≤ 1500000700)  : Ok_ (qf_X1_truth nn a1 a2 h) (QVR_ (fun r => (r 34 1 + r 34 3 ≤ h 34 1 + h 34 3 + 10))) := by
  unfold qf_X1_truth
  have T1 := gF_34_1 V_h
  have T2 := gF_34_3 V_h
  refine ok_cIR (vf_X1_jump hn (by omega) (by omega) (by omega) (by omega) V_h (by omega)) ?_; intro u2 E_u2 V_u2 a_u2 b_u2 R_u2
  have T3 := gF_34_1 V_u2
  have T4 := gF_34_3 V_u2
  refine ok_cVR (vf_X1_push hn (by omega) (by omega) V_u2 (by omega)) ?_; intro u4 E_u4 V_u4 R_u4
  have T5 : u4 34 1 = u2.2 34 1 := (ff_X1_push nn) _ E_u4 34 1 rfl
  have T6 := gF_34_3 V_u4
  refine ok_cVR (vf_X1_op hn (by omega) (by omega) V_u4 (by omega)) ?_; intro u6 E_u6 V_u6 R_u6
  have T7 : u6 34 3 = u4 34 3 := (ff_X1_op nn) _ E_u6 34 3 rfl
  have T8 := gF_34_1 V_u6
  refine ok_cIR (vf_X1_jump hn (by omega) (by omega) (by omega) (by omega) V_u6 (by omega)) ?_; intro u8 E_u8 V_u8 a_u8 b_u8 R_u8
  have T9 := gF_34_1 V_u8
  have T10 := gF_34_3 V_u8
  refine ok_cVR (vf_X1_pop hn (by omega) (by omega) V_u8 (by omega)) ?_; intro u10 E_u10 V_u10 R_u10
  have T11 : u10 34 1 = u8.2 34 1 := (ff_X1_pop nn) _ E_u10 34 1 rfl
  have T12 := gF_34_3 V_u10
  refine ok_cV (vf_X1_aimHere hn (by omega) (by omega) V_u10 (by omega)) ?_; intro u12 E_u12 V_u12
  have T13 : u12 34 1 = u10 34 1 := (ff_X1_aimHere nn) _ E_u12 34 1 rfl
  have T14 : u12 34 3 = u10 34 3 := (ff_X1_aimHere nn) _ E_u12 34 3 rfl
  refine ok_cVR (vf_X1_push hn (by omega) (by omega) V_u12 (by omega)) ?_; intro u14 E_u14 V_u14 R_u14
  have T15 : u14 34 1 = u12 34 1 := (ff_X1_push nn) _ E_u14 34 1 rfl
  have T16 := gF_34_3 V_u14
  refine ok_cVR (vf_X1_op hn (by omega) (by omega) V_u14 (by omega)) ?_; intro u16 E_u16 V_u16 R_u16
  have T17 : u16 34 3 = u14 34 3 := (ff_X1_op nn) _ E_u16 34 3 rfl
  have T18 := gF_34_1 V_u16
  refine ok_cV (vf_X1_aimHere hn (by omega) (by omega) V_u16 (by omega)) ?_; intro u18 E_u18 V_u18
  have T19 : u18 34 3 = u16 34 3 := (ff_X1_aimHere nn) _ E_u18 34 3 rfl
  have T20 : u18 34 1 = u16 34 1 := (ff_X1_aimHere nn) _ E_u18 34 1 rfl
  exact ok_rVR V_u18 (by omega)
