set_option maxRecDepth 4000 in
theorem vw_X3_readConstant_84 {nn : Nat} (hn : 1000000 ≤ nn) : ∀ (k : Nat) {l0 : Nat} {l2 : Int} {l3 : Int} {l4 : Int} {h : ms_M} (hb_l0 : kc_O l0 = 3) (a_l2 : 0 ≤ l2) (b_l2 : l2 ≤ 255) (a_l3 : 0 ≤ l3) (b_l3 : l3 ≤ 255) (a_l4 : 0 ≤ l4) (b_l4 : l4 ≤ 255) (V_h : VS_ h)  (hm : 256 - l4 < (k : Int)), Ok_ (qw_X3_readConstant_84 nn k l0 l2 l3 l4 h) QV_ := by
  intro k
  induction k with
  | zero => intros; exfalso; omega
  | succ k ih =>
    intro l0 l2 l3 l4 h hb_l0 a_l2 b_l2 a_l3 b_l3 a_l4 b_l4 V_h hm
    unfold qw_X3_readConstant_84
    refine ok_if ?_ ?_
    · intro C0
      exact ok_rV V_h
    · intro C0
      have T2 := gI_3 V_h hb_l0
      refine ok_if ?_ ?_
      · intro C2
        exact ok_rV V_h
      · intro C2
        refine ok_if ?_ ?_
        · intro C3
          refine ok_cI (vf_X3_next hn hb_l0 V_h) ?_; intro u3 E_u3 V_u3 a_u3 b_u3
          refine ok_add (by omega) ?_; intro v4 e_v4
          exact ih hb_l0 (by omega) (by omega) (by omega) (by omega) (by omega) (by omega) V_u3 (by omega)
        · intro C3
          refine ok_cI (vf_X3_nextUpTo hn hb_l0 (by omega) (by omega) (by omega) (by omega) V_h) ?_; intro u6 E_u6 V_u6 a_u6 b_u6
          have T5 := lm_X3_nextUpTo V_h hb_l0 E_u6
          have T6 := gI_3 V_u6 hb_l0
          refine ok_add (by omega) ?_; intro v7 e_v7
          exact ih hb_l0 (by omega) (by omega) (by omega) (by omega) (by omega) (by omega) V_u6 (by omega)
set_option maxRecDepth 4000 in
theorem vj_X3_readConstant_40 {nn : Nat} (hn : 1000000 ≤ nn) {l0 : Nat} {l1 : Int} {l2 : Int} {l3 : Int} {h : ms_M} (hb_l0 : kc_O l0 = 3) (a_l1 : 1 ≤ l1) (b_l1 : l1 ≤ 255) (a_l2 : 0 ≤ l2) (b_l2 : l2 ≤ 255) (a_l3 : 0 ≤ l3) (b_l3 : l3 ≤ 255) (V_h : VS_ h)  : Ok_ (qj_X3_readConstant_40 nn l0 l1 l2 l3 h) QV_ := by
  unfold qj_X3_readConstant_40
  refine ok_wA (by omega) ?_; intro h12 E_h12; have V_h12 : VS_ h12 := by rw [E_h12]; exact wIA_2 V_h hb_l0 (by omega)
  have T1 := gI_2 V_h12 hb_l0
  refine ok_wA (by omega) ?_; intro h15 E_h15; have V_h15 : VS_ h15 := by rw [E_h15]; exact wIA_3 V_h12 hb_l0 (by omega)
  have T2 : h15 l0 2 = h12 l0 2 := by rw [E_h15]; exact up_n (by omega)
  refine ok_if ?_ ?_
  · intro C2
    refine ok_wA (by omega) ?_; intro h18 E_h18; have V_h18 : VS_ h18 := by rw [E_h18]; exact wIA_4 V_h15 hb_l0 (by omega)
    exact vw_X3_readConstant_84 hn _ hb_l0 (by omega) (by omega) (by omega) (by omega) (by omega) (by omega) V_h18 (by omega)
  · intro C2
    refine ok_add (by omega) ?_; intro v20 e_v20
    refine ok_wA (by omega) ?_; intro h21 E_h21; have V_h21 : VS_ h21 := by rw [E_h21]; exact wIA_4 V_h15 hb_l0 (by omega)
    exact vw_X3_readConstant_84 hn _ hb_l0 (by omega) (by omega) (by omega) (by omega) (by omega) (by omega) V_h21 (by omega)
set_option maxRecDepth 4000 in
theorem vj_X3_readConstant_26 {nn : Nat} (hn : 1000000 ≤ nn) {l0 : Nat} {l1 : Int} {l2 : Int} {s0 : Int} {h : ms_M} (hb_l0 : kc_O l0 = 3) (a_l1 : 1 ≤ l1) (b_l1 : l1 ≤ 255) (a_l2 : 0 ≤ l2) (b_l2 : l2 ≤ 255) (a_s0 : 1 ≤ s0) (b_s0 : s0 ≤ 4) (V_h : VS_ h)  : Ok_ (qj_X3_readConstant_26 nn l0 l1 l2 s0 h) QV_ := by
  unfold qj_X3_readConstant_26
  refine ok_if ?_ ?_
  · intro C0
    exact vj_X3_readConstant_40 hn hb_l0 (by omega) (by omega) (by omega) (by omega) (by omega) (by omega) V_h
  · intro C0
    refine ok_cI (vf_X3_nextUpTo hn hb_l0 (by omega) (by omega) (by omega) (by omega) V_h) ?_; intro u24 E_u24 V_u24 a_u24 b_u24
    have T2 := lm_X3_nextUpTo V_h hb_l0 E_u24
    have T3 := gI_3 V_u24 hb_l0
    exact vj_X3_readConstant_40 hn hb_l0 (by omega) (by omega) (by omega) (by omega) (by omega) (by omega) V_u24
set_option maxRecDepth 4000 in
theorem vf_X3_readConstant {nn : Nat} (hn : 1000000 ≤ nn) {a0 : Nat} {a1 : Int} {h : ms_M} (hb_a0 : kc_O a0 = 3) (a_a1 : 1 ≤ a1) (b_a1 : a1 ≤ 255) (V_h : VS_ h)  : Ok_ (qf_X3_readConstant nn a0 a1 h) QV_ := by
  unfold qf_X3_readConstant
  refine ok_cI (vf_X3_nextUpTo hn hb_a0 (by omega) (by omega) (by omega) (by omega) V_h) ?_; intro u27 E_u27 V_u27 a_u27 b_u27
  have T1 := lm_X3_nextUpTo V_h hb_a0 E_u27
  have T2 := gI_3 V_u27 hb_a0
  refine ok_if ?_ ?_
  · intro C2
    refine ok_if ?_ ?_
    · intro C3
      exact vj_X3_readConstant_26 hn hb_a0 (by omega) (by omega) (by omega) (by omega) (by omega) (by omega) V_u27
    · intro C3
      exact vj_X3_readConstant_26 hn hb_a0 (by omega) (by omega) (by omega) (by omega) (by omega) (by omega) V_u27
  · intro C2
    exact vj_X3_readConstant_26 hn hb_a0 (by omega) (by omega) (by omega) (by omega) (by omega) (by omega) V_u27
set_option maxRecDepth 4000 in
theorem vw_X3_readConstants_57 {nn : Nat} (hn : 1000000 ≤ nn) : ∀ (k : Nat) {l0 : Nat} {l1 : Int} {h : ms_M} (hb_l0 : kc_O l0 = 3) (a_l1 : 1 ≤ l1) (b_l1 : l1 ≤ 256) (V_h : VS_ h)  (hm : 257 - l1 < (k : Int)), Ok_ (qw_X3_readConstants_57 nn k l0 l1 h) QV_ := by
  intro k
  induction k with
  | zero => intros; exfalso; omega
  | succ k ih =>
    intro l0 l1 h hb_l0 a_l1 b_l1 V_h hm
    unfold qw_X3_readConstants_57
    have T1 := gI_7 V_h hb_l0
    refine ok_if ?_ ?_
    · intro C1
      exact ok_rV V_h
    · intro C1
      have T3 := gI_3 V_h hb_l0
      refine ok_if ?_ ?_
      · intro C3
        exact ok_rV V_h
      · intro C3
        refine ok_cV (vf_X3_checkConstant hn hb_l0 (by omega) (by omega) V_h) ?_; intro u4 E_u4 V_u4
        refine ok_add (by omega) ?_; intro v5 e_v5
        exact ih hb_l0 (by omega) (by omega) V_u4 (by omega)
set_option maxRecDepth 4000 in
theorem vw_X3_readConstants_28 {nn : Nat} (hn : 1000000 ≤ nn) : ∀ (k : Nat) {l0 : Nat} {l1 : Int} {h : ms_M} (hb_l0 : kc_O l0 = 3) (a_l1 : 1 ≤ l1) (b_l1 : l1 ≤ 256) (V_h : VS_ h)  (hm : 257 - l1 < (k : Int)), Ok_ (qw_X3_readConstants_28 nn k l0 l1 h) QV_ := by
  intro k
  induction k with
  | zero => intros; exfalso; omega
  | succ k ih =>
    intro l0 l1 h hb_l0 a_l1 b_l1 V_h hm
    unfold qw_X3_readConstants_28
    have T1 := gI_7 V_h hb_l0
    refine ok_if ?_ ?_
    · intro C1
      exact vw_X3_readConstants_57 hn _ hb_l0 (by omega) (by omega) V_h (by omega)
    · intro C1
      have T3 := gI_3 V_h hb_l0
      refine ok_if ?_ ?_
      · intro C3
        exact vw_X3_readConstants_57 hn _ hb_l0 (by omega) (by omega) V_h (by omega)
      · intro C3
        refine ok_cV (vf_X3_readConstant hn hb_l0 (by omega) (by omega) V_h) ?_; intro u11 E_u11 V_u11
        refine ok_add (by omega) ?_; intro v12 e_v12
        exact ih hb_l0 (by omega) (by omega) V_u11 (by omega)
set_option maxRecDepth 4000 in
theorem vf_X3_readConstants {nn : Nat} (hn : 1000000 ≤ nn) {a0 : Nat} {h : ms_M} (hb_a0 : kc_O a0 = 3) (V_h : VS_ h)  : Ok_ (qf_X3_readConstants nn a0 h) QV_ := by
  unfold qf_X3_readConstants
  refine ok_cI (vf_X3_nextUpTo hn hb_a0 (by omega) (by omega) (by omega) (by omega) V_h) ?_; intro u16 E_u16 V_u16 a_u16 b_u16
  have T1 := lm_X3_nextUpTo V_h hb_a0 E_u16
  have T2 := gI_3 V_u16 hb_a0
  refine ok_cI (vf_X3_nextUpTo hn hb_a0 (by omega) (by omega) (by omega) (by omega) V_u16) ?_; intro u18 E_u18 V_u18 a_u18 b_u18
  have T3 := lm_X3_nextUpTo V_u16 hb_a0 E_u18
  have T4 := gI_3 V_u18 hb_a0
  refine ok_cI (vf_X3_next hn hb_a0 V_u18) ?_; intro u20 E_u20 V_u20 a_u20 b_u20
  refine ok_xl ?_; intro h21 E_h21; have V_h21 : VS_ h21 := by rw [E_h21]; exact wI_7 V_u20 hb_a0 (by omega)
  exact vw_X3_readConstants_28 hn _ hb_a0 (by omega) (by omega) V_h21 (by omega)
set_option maxRecDepth 4000 in
theorem vf_X3_nextName {nn : Nat} (hn : 1000000 ≤ nn) {a0 : Nat} {h : ms_M} (hb_a0 : kc_O a0 = 3) (V_h : VS_ h)  : Ok_ (qf_X3_nextName nn a0 h) (QI_ 0 255) := by
  unfold qf_X3_nextName
  refine ok_cI (vf_X3_next hn hb_a0 V_h) ?_; intro u2 E_u2 V_u2 a_u2 b_u2
  refine ok_cP (vf_X3_isNameText hn hb_a0 (by omega) (by omega) V_u2) ?_; intro u4 e_u4 a_u4 b_u4
  refine ok_if ?_ ?_
  · intro C0
    exact ok_rI V_u2 (by omega) (by omega)
  · intro C0
    have T2 := gI_2 V_u2 hb_a0
    refine ok_sub (by omega) ?_; intro v6 e_v6
    refine ok_cV (vf_X3_bad hn hb_a0 (by omega) (by omega) V_u2) ?_; intro u8 E_u8 V_u8
    exact ok_rI V_u8 (by omega) (by omega)
set_option maxRecDepth 4000 in
theorem vj_X3_readFields_58 {nn : Nat} (hn : 1000000 ≤ nn) {qkk_10 : Nat → Int → Int → ms_M → Option ms_M} {K_kk_10 : Int} (hk_kk_10 : ∀ {l0 : Nat} {l1 : Int} {l2 : Int} {h : ms_M} (hb_l0 : kc_O l0 = 3) (a_l1 : 0 ≤ l1) (b_l1 : l1 ≤ 255) (a_l2 : 0 ≤ l2) (b_l2 : l2 ≤ 255) (V_h : VS_ h) (x_0 : h l0 10 = l2 ∧ (l1 ≤ 12 ∨ ¬ h l0 3 = -1)) (_ : 256 - l2 < K_kk_10), Ok_ (qkk_10 l0 l1 l2 h) QV_) {l0 : Nat} {l1 : Int} {l2 : Int} {l3 : Int} {h : ms_M} (hb_l0 : kc_O l0 = 3) (a_l1 : 0 ≤ l1) (b_l1 : l1 ≤ 255) (a_l2 : 0 ≤ l2) (b_l2 : l2 ≤ 254) (a_l3 : 0 ≤ l3) (b_l3 : l3 ≤ 255) (V_h : VS_ h) (x_0 : h l0 10 = l2 ∧ l2 ≤ 11 ∧ l1 ≤ 12) (hm_kk_10 : 256 - l2 + 0 ≤ K_kk_10) : Ok_ (qj_X3_readFields_58 nn qkk_10 l0 l1 l2 l3 h) QV_ := by
  unfold qj_X3_readFields_58
  have T1 := gI_10 V_h hb_l0
  refine ok_mul (by omega) ?_; intro v2 e_v2
  refine ok_add (by omega) ?_; intro v3 e_v3
  refine ok_wA (by omega) ?_; intro h4 E_h4; have V_h4 : VS_ h4 := by rw [E_h4]; exact wIA_5 V_h hb_l0 (by omega)
  have T2 : h4 l0 10 = h l0 10 := by rw [E_h4]; exact up_n (by omega)
  refine ok_add (by omega) ?_; intro v6 e_v6
  refine ok_xl ?_; intro h7 E_h7; have V_h7 : VS_ h7 := by rw [E_h7]; exact wI_10 V_h4 hb_l0 (by omega)
  have T3 : h7 l0 10 = v6 := by rw [E_h7]; exact up_s
  refine ok_add (by omega) ?_; intro v8 e_v8
  exact hk_kk_10 hb_l0 (by omega) (by omega) (by omega) (by omega) V_h7 (by omega) (by omega)
set_option maxRecDepth 4000 in
theorem vw_X3_readFields_10 {nn : Nat} (hn : 1000000 ≤ nn) : ∀ (k : Nat) {l0 : Nat} {l1 : Int} {l2 : Int} {h : ms_M} (hb_l0 : kc_O l0 = 3) (a_l1 : 0 ≤ l1) (b_l1 : l1 ≤ 255) (a_l2 : 0 ≤ l2) (b_l2 : l2 ≤ 255) (V_h : VS_ h) (x_0 : h l0 10 = l2 ∧ (l1 ≤ 12 ∨ ¬ h l0 3 = -1))  (hm : 256 - l2 < (k : Int)), Ok_ (qw_X3_readFields_10 nn k l0 l1 l2 h) QV_ := by
  intro k
  induction k with
  | zero => intros; exfalso; omega
  | succ k ih =>
    intro l0 l1 l2 h hb_l0 a_l1 b_l1 a_l2 b_l2 V_h x_0 hm
    unfold qw_X3_readFields_10
    have T1 := gI_10 V_h hb_l0
    have T2 := gI_3 V_h hb_l0
    refine ok_if ?_ ?_
    · intro C2
      exact ok_rV V_h
    · intro C2
      refine ok_if ?_ ?_
      · intro C3
        exact ok_rV V_h
      · intro C3
        refine ok_mul (by omega) ?_; intro v11 e_v11
        refine ok_cI (vf_X3_nextName hn hb_l0 V_h) ?_; intro u13 E_u13 V_u13 a_u13 b_u13
        have T5 : u13.2 l0 10 = h l0 10 := (pf_X3_nextName nn hb_l0) _ E_u13 l0 10 ⟨rfl, rfl⟩
        refine ok_wA (by omega) ?_; intro h14 E_h14; have V_h14 : VS_ h14 := by rw [E_h14]; exact wIA_5 V_u13 hb_l0 (by omega)
        have T6 : h14 l0 10 = u13.2 l0 10 := by rw [E_h14]; exact up_n (by omega)
        refine ok_cI (vf_X3_next hn hb_l0 V_h14) ?_; intro u16 E_u16 V_u16 a_u16 b_u16
        have T7 : u16.2 l0 10 = h14 l0 10 := (pf_X3_next nn hb_l0) _ E_u16 l0 10 ⟨rfl, rfl⟩
        refine ok_cP (vf_X3_isFieldKind hn hb_l0 (by omega) (by omega) V_u16) ?_; intro u18 e_u18 a_u18 b_u18
        refine ok_if ?_ ?_
        · intro C7
          exact vj_X3_readFields_58 hn ih hb_l0 (by omega) (by omega) (by omega) (by omega) (by omega) (by omega) V_u16 (by omega) (by omega)
        · intro C7
          have T9 := gI_2 V_u16 hb_l0
          refine ok_sub (by omega) ?_; intro v20 e_v20
          refine ok_cV (vf_X3_bad hn hb_l0 (by omega) (by omega) V_u16) ?_; intro u22 E_u22 V_u22
          have T10 : u22 l0 10 = u16.2 l0 10 := (pf_X3_bad nn hb_l0) _ E_u22 l0 10 ⟨rfl, rfl⟩
          exact vj_X3_readFields_58 hn ih hb_l0 (by omega) (by omega) (by omega) (by omega) (by omega) (by omega) V_u22 (by omega) (by omega)
set_option maxRecDepth 4000 in
theorem vf_X3_readFields {nn : Nat} (hn : 1000000 ≤ nn) {a0 : Nat} {h : ms_M} (hb_a0 : kc_O a0 = 3) (V_h : VS_ h) (x_0 : h a0 10 = 0)  : Ok_ (qf_X3_readFields nn a0 h) QV_ := by
  unfold qf_X3_readFields
  have T1 := gI_10 V_h hb_a0
  refine ok_cI (vf_X3_nextUpTo hn hb_a0 (by omega) (by omega) (by omega) (by omega) V_h) ?_; intro u27 E_u27 V_u27 a_u27 b_u27
  have T2 := lm_X3_nextUpTo V_h hb_a0 E_u27
  have T3 := gI_3 V_u27 hb_a0
  have T4 : u27.2 a0 10 = h a0 10 := (pf_X3_nextUpTo nn hb_a0) _ E_u27 a0 10 ⟨rfl, rfl⟩
  exact vw_X3_readFields_10 hn _ hb_a0 (by omega) (by omega) (by omega) (by omega) V_u27 (by omega) (by omega)
set_option maxRecDepth 4000 in
theorem vj_X3_readCode_85 {nn : Nat} (hn : 1000000 ≤ nn) {l0 : Nat} {l4 : Int} {h : ms_M} (hb_l0 : kc_O l0 = 3) (a_l4 : 0 ≤ l4) (b_l4 : l4 ≤ 65535) (V_h : VS_ h)  : Ok_ (qj_X3_readCode_85 nn l0 l4 h) QV_ := by
  unfold qj_X3_readCode_85
  have T1 := gI_2 V_h hb_l0
  refine ok_add (by omega) ?_; intro v2 e_v2
  have T2 := gI_1 V_h hb_l0
  refine ok_ite ?_; intro v4 e_v4
  refine ok_xl ?_; intro h5 E_h5; have V_h5 : VS_ h5 := by rw [E_h5]; exact wI_2 V_h hb_l0 (by omega)
  exact ok_rV V_h5
set_option maxRecDepth 4000 in
theorem vj_X3_readCode_40 {nn : Nat} (hn : 1000000 ≤ nn) {l0 : Nat} {l1 : Int} {l4 : Int} {h : ms_M} (hb_l0 : kc_O l0 = 3) (a_l1 : 0 ≤ l1) (b_l1 : l1 ≤ 132) (a_l4 : 0 ≤ l4) (b_l4 : l4 ≤ 65535) (V_h : VS_ h)  : Ok_ (qj_X3_readCode_40 nn l0 l1 l4 h) QV_ := by
  unfold qj_X3_readCode_40
  refine ok_add (by omega) ?_; intro v7 e_v7
  refine ok_wA (by omega) ?_; intro h8 E_h8; have V_h8 : VS_ h8 := by rw [E_h8]; exact wIA_6 V_h hb_l0 (by omega)
  refine ok_add (by omega) ?_; intro v10 e_v10
  have T1 := gI_2 V_h8 hb_l0
  refine ok_wA (by omega) ?_; intro h12 E_h12; have V_h12 : VS_ h12 := by rw [E_h12]; exact wIA_6 V_h8 hb_l0 (by omega)
  have T2 : h12 l0 2 = h8 l0 2 := by rw [E_h12]; exact up_n (by omega)
  refine ok_add (by omega) ?_; intro v14 e_v14
  have T3 := gI_1 V_h12 hb_l0
  refine ok_if ?_ ?_
  · intro C3
    exact vj_X3_readCode_85 hn hb_l0 (by omega) (by omega) V_h12
  · intro C3
    refine ok_cV (vf_X3_bad hn hb_l0 (by omega) (by omega) V_h12) ?_; intro u18 E_u18 V_u18
    exact vj_X3_readCode_85 hn hb_l0 (by omega) (by omega) V_u18
set_option maxRecDepth 4000 in
theorem vj_X3_readCode_35 {nn : Nat} (hn : 1000000 ≤ nn) {l0 : Nat} {l1 : Int} {l2 : Int} {l4 : Int} {h : ms_M} (hb_l0 : kc_O l0 = 3) (a_l1 : 0 ≤ l1) (b_l1 : l1 ≤ 132) (a_l2 : 0 ≤ l2) (b_l2 : l2 ≤ 6000) (a_l4 : 0 ≤ l4) (b_l4 : l4 ≤ 65535) (V_h : VS_ h)  : Ok_ (qj_X3_readCode_35 nn l0 l1 l2 l4 h) QV_ := by
  unfold qj_X3_readCode_35
  refine ok_cV (vf_X3_bad hn hb_l0 (by omega) (by omega) V_h) ?_; intro u21 E_u21 V_u21
  exact vj_X3_readCode_40 hn hb_l0 (by omega) (by omega) (by omega) (by omega) V_u21
set_option maxRecDepth 4000 in
theorem vf_X3_readCode {nn : Nat} (hn : 1000000 ≤ nn) {a0 : Nat} {a1 : Int} {h : ms_M} (hb_a0 : kc_O a0 = 3) (a_a1 : 0 ≤ a1) (b_a1 : a1 ≤ 132) (V_h : VS_ h)  : Ok_ (qf_X3_readCode nn a0 a1 h) QV_ := by
  unfold qf_X3_readCode
  have T1 := gI_2 V_h hb_a0
  refine ok_cI (vf_X3_next hn hb_a0 V_h) ?_; intro u24 E_u24 V_u24 a_u24 b_u24
  refine ok_shl8 (by omega) ?_; intro v25 e_v25
  refine ok_cI (vf_X3_next hn hb_a0 V_u24) ?_; intro u27 E_u27 V_u27 a_u27 b_u27
  refine ok_or (by omega) (by omega) ?_; intro v28 a_v28 b_v28
  refine ok_if ?_ ?_
  · intro C1
    exact vj_X3_readCode_35 hn hb_a0 (by omega) (by omega) (by omega) (by omega) (by omega) (by omega) V_u27
  · intro C1
    refine ok_if ?_ ?_
    · intro C2
      exact vj_X3_readCode_40 hn hb_a0 (by omega) (by omega) (by omega) (by omega) V_u27
    · intro C2
      exact vj_X3_readCode_35 hn hb_a0 (by omega) (by omega) (by omega) (by omega) (by omega) (by omega) V_u27
set_option maxRecDepth 4000 in
theorem vf_X3_nextClass {nn : Nat} (hn : 1000000 ≤ nn) {a0 : Nat} {h : ms_M} (hb_a0 : kc_O a0 = 3) (V_h : VS_ h)  : Ok_ (qf_X3_nextClass nn a0 h) QV_ := by
  unfold qf_X3_nextClass
  refine ok_cI (vf_X3_next hn hb_a0 V_h) ?_; intro u2 E_u2 V_u2 a_u2 b_u2
  refine ok_cP (vf_X3_tagOf hn hb_a0 (by omega) (by omega) V_u2) ?_; intro u4 e_u4 a_u4 b_u4
  refine ok_if ?_ ?_
  · intro C0
    exact ok_rV V_u2
  · intro C0
    have T2 := gI_2 V_u2 hb_a0
    refine ok_sub (by omega) ?_; intro v6 e_v6
    refine ok_cV (vf_X3_bad hn hb_a0 (by omega) (by omega) V_u2) ?_; intro u8 E_u8 V_u8
    exact ok_rV V_u8
set_option maxRecDepth 4000 in
theorem vw_X3_readFrameTypes_7 {nn : Nat} (hn : 1000000 ≤ nn) : ∀ (k : Nat) {l0 : Nat} {l1 : Int} {l2 : Int} {h : ms_M} (hb_l0 : kc_O l0 = 3) (a_l1 : 0 ≤ l1) (b_l1 : l1 ≤ 255) (a_l2 : 0 ≤ l2) (b_l2 : l2 ≤ 255) (V_h : VS_ h)  (hm : 256 - l2 < (k : Int)), Ok_ (qw_X3_readFrameTypes_7 nn k l0 l1 l2 h) QV_ := by
  intro k
  induction k with
  | zero => intros; exfalso; omega
  | succ k ih =>
    intro l0 l1 l2 h hb_l0 a_l1 b_l1 a_l2 b_l2 V_h hm
    unfold qw_X3_readFrameTypes_7
    refine ok_if ?_ ?_
    · intro C0
      exact ok_rV V_h
    · intro C0
      have T2 := gI_3 V_h hb_l0
      refine ok_if ?_ ?_
      · intro C2
        exact ok_rV V_h
      · intro C2
        refine ok_cI (vf_X3_nextUpTo hn hb_l0 (by omega) (by omega) (by omega) (by omega) V_h) ?_; intro u3 E_u3 V_u3 a_u3 b_u3
        have T4 := lm_X3_nextUpTo V_h hb_l0 E_u3
        have T5 := gI_3 V_u3 hb_l0
        refine ok_if ?_ ?_
        · intro C5
          refine ok_add (by omega) ?_; intro v4 e_v4
          exact ih hb_l0 (by omega) (by omega) (by omega) (by omega) V_u3 (by omega)
        · intro C5
          refine ok_cV (vf_X3_nextClass hn hb_l0 V_u3) ?_; intro u6 E_u6 V_u6
          refine ok_add (by omega) ?_; intro v7 e_v7
          exact ih hb_l0 (by omega) (by omega) (by omega) (by omega) V_u6 (by omega)
set_option maxRecDepth 4000 in
theorem vf_X3_readFrameTypes {nn : Nat} (hn : 1000000 ≤ nn) {a0 : Nat} {h : ms_M} (hb_a0 : kc_O a0 = 3) (V_h : VS_ h)  : Ok_ (qf_X3_readFrameTypes nn a0 h) QV_ := by
  unfold qf_X3_readFrameTypes
  refine ok_cI (vf_X3_next hn hb_a0 V_h) ?_; intro u12 E_u12 V_u12 a_u12 b_u12
  exact vw_X3_readFrameTypes_7 hn _ hb_a0 (by omega) (by omega) (by omega) (by omega) V_u12 (by omega)
set_option maxRecDepth 4000 in
theorem vw_X3_skipPairs_2 {nn : Nat} (hn : 1000000 ≤ nn) : ∀ (k : Nat) {l0 : Nat} {l1 : Int} {l2 : Int} {h : ms_M} (hb_l0 : kc_O l0 = 3) (a_l1 : 1 ≤ l1) (b_l1 : l1 ≤ 3) (a_l2 : 0 ≤ l2) (b_l2 : l2 ≤ 6) (V_h : VS_ h)  (hm : 7 - l2 < (k : Int)), Ok_ (qw_X3_skipPairs_2 nn k l0 l1 l2 h) QV_ := by
  intro k
  induction k with
  | zero => intros; exfalso; omega
  | succ k ih =>
    intro l0 l1 l2 h hb_l0 a_l1 b_l1 a_l2 b_l2 V_h hm
    unfold qw_X3_skipPairs_2
    refine ok_mul (by omega) ?_; intro v1 e_v1
    refine ok_if ?_ ?_
    · intro C0
      exact ok_rV V_h
    · intro C0
      refine ok_cI (vf_X3_next hn hb_l0 V_h) ?_; intro u3 E_u3 V_u3 a_u3 b_u3
      refine ok_add (by omega) ?_; intro v4 e_v4
      exact ih hb_l0 (by omega) (by omega) (by omega) (by omega) V_u3 (by omega)
set_option maxRecDepth 4000 in
theorem vf_X3_skipPairs {nn : Nat} (hn : 1000000 ≤ nn) {a0 : Nat} {a1 : Int} {h : ms_M} (hb_a0 : kc_O a0 = 3) (a_a1 : 1 ≤ a1) (b_a1 : a1 ≤ 3) (V_h : VS_ h)  : Ok_ (qf_X3_skipPairs nn a0 a1 h) QV_ := by
  unfold qf_X3_skipPairs
  exact vw_X3_skipPairs_2 hn _ hb_a0 (by omega) (by omega) (by omega) (by omega) V_h (by omega)
set_option maxRecDepth 4000 in
theorem vw_X3_readFrames_33 {nn : Nat} (hn : 1000000 ≤ nn) : ∀ (k : Nat) {l0 : Nat} {l2 : Int} {l3 : Int} {h : ms_M} (hb_l0 : kc_O l0 = 3) (a_l2 : 0 ≤ l2) (b_l2 : l2 ≤ 255) (a_l3 : 0 ≤ l3) (b_l3 : l3 ≤ 255) (V_h : VS_ h)  (hm : 256 - l3 < (k : Int)), Ok_ (qw_X3_readFrames_33 nn k l0 l2 l3 h) QV_ := by
  intro k
  induction k with
  | zero => intros; exfalso; omega
  | succ k ih =>
    intro l0 l2 l3 h hb_l0 a_l2 b_l2 a_l3 b_l3 V_h hm
    unfold qw_X3_readFrames_33
    refine ok_if ?_ ?_
    · intro C0
      exact ok_rV V_h
    · intro C0
      have T2 := gI_3 V_h hb_l0
      refine ok_if ?_ ?_
      · intro C2
        exact ok_rV V_h
      · intro C2
        refine ok_cV (vf_X3_skipPairs hn hb_l0 (by omega) (by omega) V_h) ?_; intro u3 E_u3 V_u3
        refine ok_cV (vf_X3_readFrameTypes hn hb_l0 V_u3) ?_; intro u5 E_u5 V_u5
        refine ok_cV (vf_X3_readFrameTypes hn hb_l0 V_u5) ?_; intro u7 E_u7 V_u7
        refine ok_add (by omega) ?_; intro v8 e_v8
        exact ih hb_l0 (by omega) (by omega) (by omega) (by omega) V_u7 (by omega)
set_option maxRecDepth 4000 in
theorem vf_X3_readFrames {nn : Nat} (hn : 1000000 ≤ nn) {a0 : Nat} {a1 : Int} {h : ms_M} (hb_a0 : kc_O a0 = 3) (a_a1 : 0 ≤ a1) (b_a1 : a1 ≤ 132) (V_h : VS_ h)  : Ok_ (qf_X3_readFrames nn a0 a1 h) QV_ := by
  unfold qf_X3_readFrames
  refine ok_cI (vf_X3_nextUpTo hn hb_a0 (by omega) (by omega) (by omega) (by omega) V_h) ?_; intro u12 E_u12 V_u12 a_u12 b_u12
  have T1 := lm_X3_nextUpTo V_h hb_a0 E_u12
  have T2 := gI_3 V_u12 hb_a0
  refine ok_add (by omega) ?_; intro v14 e_v14
  refine ok_wA (by omega) ?_; intro h15 E_h15; have V_h15 : VS_ h15 := by rw [E_h15]; exact wIA_6 V_u12 hb_a0 (by omega)
  refine ok_add (by omega) ?_; intro v17 e_v17
  have T3 := gI_2 V_h15 hb_a0
  refine ok_wA (by omega) ?_; intro h19 E_h19; have V_h19 : VS_ h19 := by rw [E_h19]; exact wIA_6 V_h15 hb_a0 (by omega)
  exact vw_X3_readFrames_33 hn _ hb_a0 (by omega) (by omega) (by omega) (by omega) V_h19 (by omega)
set_option maxRecDepth 4000 in
theorem vw_X3_readHandlers_33 {nn : Nat} (hn : 1000000 ≤ nn) : ∀ (k : Nat) {l0 : Nat} {l2 : Int} {l3 : Int} {h : ms_M} (hb_l0 : kc_O l0 = 3) (a_l2 : 0 ≤ l2) (b_l2 : l2 ≤ 255) (a_l3 : 0 ≤ l3) (b_l3 : l3 ≤ 255) (V_h : VS_ h)  (hm : 256 - l3 < (k : Int)), Ok_ (qw_X3_readHandlers_33 nn k l0 l2 l3 h) QV_ := by
  intro k
  induction k with
  | zero => intros; exfalso; omega
  | succ k ih =>
    intro l0 l2 l3 h hb_l0 a_l2 b_l2 a_l3 b_l3 V_h hm
    unfold qw_X3_readHandlers_33
    refine ok_if ?_ ?_
    · intro C0
      exact ok_rV V_h
    · intro C0
      have T2 := gI_3 V_h hb_l0
      refine ok_if ?_ ?_
      · intro C2
        exact ok_rV V_h
      · intro C2
        refine ok_cV (vf_X3_skipPairs hn hb_l0 (by omega) (by omega) V_h) ?_; intro u3 E_u3 V_u3
        refine ok_cV (vf_X3_nextClass hn hb_l0 V_u3) ?_; intro u5 E_u5 V_u5
        refine ok_add (by omega) ?_; intro v6 e_v6
        exact ih hb_l0 (by omega) (by omega) (by omega) (by omega) V_u5 (by omega)
set_option maxRecDepth 4000 in
theorem vf_X3_readHandlers {nn : Nat} (hn : 1000000 ≤ nn) {a0 : Nat} {a1 : Int} {h : ms_M} (hb_a0 : kc_O a0 = 3) (a_a1 : 0 ≤ a1) (b_a1 : a1 ≤ 132) (V_h : VS_ h)  : Ok_ (qf_X3_readHandlers nn a0 a1 h) QV_ := by
  unfold qf_X3_readHandlers
  refine ok_cI (vf_X3_nextUpTo hn hb_a0 (by omega) (by omega) (by omega) (by omega) V_h) ?_; intro u10 E_u10 V_u10 a_u10 b_u10
  have T1 := lm_X3_nextUpTo V_h hb_a0 E_u10
  have T2 := gI_3 V_u10 hb_a0
  refine ok_add (by omega) ?_; intro v12 e_v12
  refine ok_wA (by omega) ?_; intro h13 E_h13; have V_h13 : VS_ h13 := by rw [E_h13]; exact wIA_6 V_u10 hb_a0 (by omega)
  refine ok_add (by omega) ?_; intro v15 e_v15
  have T3 := gI_2 V_h13 hb_a0
  refine ok_wA (by omega) ?_; intro h17 E_h17; have V_h17 : VS_ h17 := by rw [E_h17]; exact wIA_6 V_h13 hb_a0 (by omega)
  exact vw_X3_readHandlers_33 hn _ hb_a0 (by omega) (by omega) (by omega) (by omega) V_h17 (by omega)
set_option maxRecDepth 4000 in
theorem vj_X3_readMethod_52 {nn : Nat} (hn : 1000000 ≤ nn) {l0 : Nat} {l1 : Int} {l2 : Int} {l3 : Int} {h : ms_M} (hb_l0 : kc_O l0 = 3) (a_l1 : 0 ≤ l1) (b_l1 : l1 ≤ 132) (a_l2 : 0 ≤ l2) (b_l2 : l2 ≤ 255) (a_l3 : (-1) ≤ l3) (b_l3 : l3 ≤ 6) (V_h : VS_ h)  : Ok_ (qj_X3_readMethod_52 nn l0 l1 l2 l3 h) QV_ := by
  unfold qj_X3_readMethod_52
  refine ok_add (by omega) ?_; intro v2 e_v2
  refine ok_wA (by omega) ?_; intro h3 E_h3; have V_h3 : VS_ h3 := by rw [E_h3]; exact wIA_6 V_h hb_l0 (by omega)
  refine ok_add (by omega) ?_; intro v5 e_v5
  refine ok_wA (by omega) ?_; intro h6 E_h6; have V_h6 : VS_ h6 := by rw [E_h6]; exact wIA_6 V_h3 hb_l0 (by omega)
  refine ok_add (by omega) ?_; intro v8 e_v8
  refine ok_cI (vf_X3_nextUpTo hn hb_l0 (by omega) (by omega) (by omega) (by omega) V_h6) ?_; intro u10 E_u10 V_u10 a_u10 b_u10
  have T1 := lm_X3_nextUpTo V_h6 hb_l0 E_u10
  have T2 := gI_3 V_u10 hb_l0
  refine ok_wA (by omega) ?_; intro h11 E_h11; have V_h11 : VS_ h11 := by rw [E_h11]; exact wIA_6 V_u10 hb_l0 (by omega)
  refine ok_add (by omega) ?_; intro v13 e_v13
  refine ok_add (by omega) ?_; intro v14 e_v14
  refine ok_add (by omega) ?_; intro v16 e_v16
  refine ok_rd (by omega) (gIA_6 V_h11 hb_l0) ?_; intro v17 e_v17 a_v17 b_v17
  refine ok_sub (by omega) ?_; intro v18 e_v18
  refine ok_cI (vf_X3_nextUpTo hn hb_l0 (by omega) (by omega) (by omega) (by omega) V_h11) ?_; intro u20 E_u20 V_u20 a_u20 b_u20
  have T3 := lm_X3_nextUpTo V_h11 hb_l0 E_u20
  have T4 := gI_3 V_u20 hb_l0
  refine ok_wA (by omega) ?_; intro h21 E_h21; have V_h21 : VS_ h21 := by rw [E_h21]; exact wIA_6 V_u20 hb_l0 (by omega)
  refine ok_cV (vf_X3_readCode hn hb_l0 (by omega) (by omega) V_h21) ?_; intro u23 E_u23 V_u23
  refine ok_cV (vf_X3_readHandlers hn hb_l0 (by omega) (by omega) V_u23) ?_; intro u25 E_u25 V_u25
  refine ok_cV (vf_X3_readFrames hn hb_l0 (by omega) (by omega) V_u25) ?_; intro u27 E_u27 V_u27
  exact ok_rV V_u27
set_option maxRecDepth 4000 in
theorem vf_X3_readMethod {nn : Nat} (hn : 1000000 ≤ nn) {a0 : Nat} {a1 : Int} {h : ms_M} (hb_a0 : kc_O a0 = 3) (a_a1 : 0 ≤ a1) (b_a1 : a1 ≤ 132) (V_h : VS_ h)  : Ok_ (qf_X3_readMethod nn a0 a1 h) QV_ := by
  unfold qf_X3_readMethod
  refine ok_add (by omega) ?_; intro v29 e_v29
  refine ok_cI (vf_X3_nextUpTo hn hb_a0 (by omega) (by omega) (by omega) (by omega) V_h) ?_; intro u31 E_u31 V_u31 a_u31 b_u31
  have T1 := lm_X3_nextUpTo V_h hb_a0 E_u31
  have T2 := gI_3 V_u31 hb_a0
  refine ok_wA (by omega) ?_; intro h32 E_h32; have V_h32 : VS_ h32 := by rw [E_h32]; exact wIA_6 V_u31 hb_a0 (by omega)
  refine ok_add (by omega) ?_; intro v34 e_v34
  refine ok_cI (vf_X3_nextName hn hb_a0 V_h32) ?_; intro u36 E_u36 V_u36 a_u36 b_u36
  refine ok_wA (by omega) ?_; intro h37 E_h37; have V_h37 : VS_ h37 := by rw [E_h37]; exact wIA_6 V_u36 hb_a0 (by omega)
  refine ok_cI (vf_X3_next hn hb_a0 V_h37) ?_; intro u39 E_u39 V_u39 a_u39 b_u39
  refine ok_cP (vf_X3_parametersIn hn hb_a0 (by omega) (by omega) V_u39) ?_; intro u41 e_u41 a_u41 b_u41
  refine ok_if ?_ ?_
  · intro C2
    exact vj_X3_readMethod_52 hn hb_a0 (by omega) (by omega) (by omega) (by omega) (by omega) (by omega) V_u39
  · intro C2
    have T4 := gI_2 V_u39 hb_a0
    refine ok_sub (by omega) ?_; intro v43 e_v43
    refine ok_cV (vf_X3_bad hn hb_a0 (by omega) (by omega) V_u39) ?_; intro u45 E_u45 V_u45
    exact vj_X3_readMethod_52 hn hb_a0 (by omega) (by omega) (by omega) (by omega) (by omega) (by omega) V_u45
set_option maxRecDepth 4000 in
theorem vj_X3_read_109 {nn : Nat} (hn : 1000000 ≤ nn) {l0 : Nat} {h : ms_M} (hb_l0 : kc_O l0 = 3) (V_h : VS_ h)  : Ok_ (qj_X3_read_109 nn l0 h) (QI_ (-1) 6300) := by
  unfold qj_X3_read_109
  have T1 := gI_2 V_h hb_l0
  have T2 := gI_1 V_h hb_l0
  refine ok_if ?_ ?_
  · intro C2
    have T4 := gI_3 V_h hb_l0
    exact ok_rI V_h (by omega) (by omega)
  · intro C2
    refine ok_cV (vf_X3_bad hn hb_l0 (by omega) (by omega) V_h) ?_; intro u6 E_u6 V_u6
    have T5 := gI_3 V_u6 hb_l0
    exact ok_rI V_u6 (by omega) (by omega)
set_option maxRecDepth 4000 in
theorem vw_X3_read_70 {nn : Nat} (hn : 1000000 ≤ nn) : ∀ (k : Nat) {l0 : Nat} {l3 : Int} {l4 : Int} {h : ms_M} (hb_l0 : kc_O l0 = 3) (a_l3 : 0 ≤ l3) (b_l3 : l3 ≤ 255) (a_l4 : 0 ≤ l4) (b_l4 : l4 ≤ 255) (V_h : VS_ h) (x_0 : h l0 12 = l4 ∧ (l3 ≤ 12 ∨ ¬ h l0 3 = -1))  (hm : 256 - l4 < (k : Int)), Ok_ (qw_X3_read_70 nn k l0 l3 l4 h) (QI_ (-1) 6300) := by
  intro k
  induction k with
  | zero => intros; exfalso; omega
  | succ k ih =>
    intro l0 l3 l4 h hb_l0 a_l3 b_l3 a_l4 b_l4 V_h x_0 hm
    unfold qw_X3_read_70
    have T1 := gI_12 V_h hb_l0
    have T2 := gI_3 V_h hb_l0
    refine ok_if ?_ ?_
    · intro C2
      exact vj_X3_read_109 hn hb_l0 V_h
    · intro C2
      refine ok_if ?_ ?_
      · intro C3
        exact vj_X3_read_109 hn hb_l0 V_h
      · intro C3
        refine ok_mul (by omega) ?_; intro v10 e_v10
        refine ok_cV (vf_X3_readMethod hn hb_l0 (by omega) (by omega) V_h) ?_; intro u12 E_u12 V_u12
        have T5 : u12 l0 12 = h l0 12 := (pf_X3_readMethod nn hb_l0) _ E_u12 l0 12 ⟨rfl, rfl⟩
        refine ok_add (by omega) ?_; intro v14 e_v14
        refine ok_xl ?_; intro h15 E_h15; have V_h15 : VS_ h15 := by rw [E_h15]; exact wI_12 V_u12 hb_l0 (by omega)
        have T6 : h15 l0 12 = v14 := by rw [E_h15]; exact up_s
        refine ok_add (by omega) ?_; intro v16 e_v16
        exact ih hb_l0 (by omega) (by omega) (by omega) (by omega) V_h15 (by omega) (by omega)
set_option maxRecDepth 4000 in
theorem vf_X3_read {nn : Nat} (hn : 1000000 ≤ nn) {a0 : Nat} {a1 : Nat} {a2 : Int} {h : ms_M} (hb_a0 : kc_O a0 = 3) (a_a2 : 0 ≤ a2) (b_a2 : a2 ≤ 2147483647) (V_h : VS_ h) (t_a1 : a1 < cn_M h ∧ ly_T a1 = 1) (x_0 : 0 ≤ a2 ∧ a2 ≤ 6000)  : Ok_ (qf_X3_read nn a0 a1 a2 h) (QI_ (-1) 6300) := by
  unfold qf_X3_read
  have hM := V_h.2.1
  have ha7 : a1 < 700000 := by have := t_a1.1; unfold cn_M at this; omega
  have c1 : ∀ v, cn_M (up_M h a0 0 v) = cn_M h := fun v => cn_up (by have := kc_lt hb_a0 (by decide); omega)
  have l1 : ∀ v, ln_I (up_M h a0 0 v) a1 = ln_I h a1 := fun v => by unfold ln_I; rw [up_n (by have := kc_lt hb_a0 (by decide); omega)]
  have l2 : 0 ≤ ln_I h a1 := by
    unfold ln_I
    by_cases w : a1 < 256
    · rw [if_pos w]; omega
    · rw [if_neg w]; exact V_h.2.1.2 a1
  unfold wr_R
  rw [if_pos (by omega)]
  dsimp only
  unfold ln_S
  rw [if_pos ⟨by rw [c1]; exact t_a1.1, by rw [t_a1.2]; decide⟩, l1]
  refine ok_xl ?_; intro v21 e_v21
  have s1 : 0 ≤ v21 ∧ v21 ≤ 6000 ∧ v21 ≤ ln_I h a1 := by
    rw [e_v21]; split <;> omega
  refine ok_xl ?_; intro h22 E_h22
  have V_h22 : VS_ h22 := by rw [E_h22]; exact vs_rd V_h hb_a0 t_a1 ⟨s1.1, s1.2.1⟩ s1.2.2
  refine ok_xl ?_; intro h23 E_h23; have V_h23 : VS_ h23 := by rw [E_h23]; exact wI_2 V_h22 hb_a0 (by omega)
  refine ok_xl ?_; intro h24 E_h24; have V_h24 : VS_ h24 := by rw [E_h24]; exact wI_3 V_h23 hb_a0 (by omega)
  refine ok_xl ?_; intro h25 E_h25; have V_h25 : VS_ h25 := by rw [E_h25]; exact wI_10 V_h24 hb_a0 (by omega)
  have T1 : h25 a0 10 = 0 := by rw [E_h25]; exact up_s
  refine ok_xl ?_; intro h26 E_h26; have V_h26 : VS_ h26 := by rw [E_h26]; exact wI_12 V_h25 hb_a0 (by omega)
  have T2 : h26 a0 10 = h25 a0 10 := by rw [E_h26]; exact up_n (by omega)
  have T3 : h26 a0 12 = 0 := by rw [E_h26]; exact up_s
  refine ok_cV (vf_X3_readConstants hn hb_a0 V_h26) ?_; intro u28 E_u28 V_u28
  have T4 : u28 a0 10 = h26 a0 10 := (pf_X3_readConstants nn hb_a0) _ E_u28 a0 10 ⟨rfl, rfl⟩
  have T5 : u28 a0 12 = h26 a0 12 := (pf_X3_readConstants nn hb_a0) _ E_u28 a0 12 ⟨rfl, rfl⟩
  refine ok_cI (vf_X3_nextPlainClass hn hb_a0 V_u28) ?_; intro u30 E_u30 V_u30 a_u30 b_u30
  have T6 : u30.2 a0 10 = u28 a0 10 := (pf_X3_nextPlainClass nn hb_a0) _ E_u30 a0 10 ⟨rfl, rfl⟩
  have T7 : u30.2 a0 12 = u28 a0 12 := (pf_X3_nextPlainClass nn hb_a0) _ E_u30 a0 12 ⟨rfl, rfl⟩
  refine ok_xl ?_; intro h31 E_h31; have V_h31 : VS_ h31 := by rw [E_h31]; exact wI_8 V_u30 hb_a0 (by omega)
  have T8 : h31 a0 10 = u30.2 a0 10 := by rw [E_h31]; exact up_n (by omega)
  have T9 : h31 a0 12 = u30.2 a0 12 := by rw [E_h31]; exact up_n (by omega)
  refine ok_cI (vf_X3_nextPlainClass hn hb_a0 V_h31) ?_; intro u33 E_u33 V_u33 a_u33 b_u33
  have T10 : u33.2 a0 10 = h31 a0 10 := (pf_X3_nextPlainClass nn hb_a0) _ E_u33 a0 10 ⟨rfl, rfl⟩
  have T11 : u33.2 a0 12 = h31 a0 12 := (pf_X3_nextPlainClass nn hb_a0) _ E_u33 a0 12 ⟨rfl, rfl⟩
  refine ok_xl ?_; intro h34 E_h34; have V_h34 : VS_ h34 := by rw [E_h34]; exact wI_9 V_u33 hb_a0 (by omega)
  have T12 : h34 a0 10 = u33.2 a0 10 := by rw [E_h34]; exact up_n (by omega)
  have T13 : h34 a0 12 = u33.2 a0 12 := by rw [E_h34]; exact up_n (by omega)
  refine ok_cV (vf_X3_readFields hn hb_a0 V_h34 (by omega)) ?_; intro u36 E_u36 V_u36
  have T14 : u36 a0 12 = h34 a0 12 := (pf_X3_readFields nn hb_a0) _ E_u36 a0 12 ⟨rfl, rfl⟩
  refine ok_cI (vf_X3_nextUpTo hn hb_a0 (by omega) (by omega) (by omega) (by omega) V_u36) ?_; intro u38 E_u38 V_u38 a_u38 b_u38
  have T15 : u38.2 a0 12 = u36 a0 12 := (pf_X3_nextUpTo nn hb_a0) _ E_u38 a0 12 ⟨rfl, rfl⟩
  have T16 := lm_X3_nextUpTo V_u36 hb_a0 E_u38
  exact vw_X3_read_70 hn _ hb_a0 (by omega) (by omega) (by omega) (by omega) V_u38 (by omega) (by omega)
set_option maxRecDepth 4000 in
theorem vf_X3_textAt {nn : Nat} (hn : 1000000 ≤ nn) {a0 : Nat} {a1 : Int} {h : ms_M} (hb_a0 : kc_O a0 = 3) (a_a1 : (-1) ≤ a1) (b_a1 : a1 ≤ 65535) (V_h : VS_ h)  : Ok_ (qf_X3_textAt nn a0 a1 h) (QP_ 0 6000) := by
  unfold qf_X3_textAt
  refine ok_if ?_ ?_
  · intro C0
    exact ok_rP (by omega) (by omega)
  · intro C0
    have T2 := gI_7 V_h hb_a0
    refine ok_if ?_ ?_
    · intro C2
      exact ok_rP (by omega) (by omega)
    · intro C2
      refine ok_if ?_ ?_
      · intro C3
        exfalso; omega
      · intro C3
        refine ok_rd (by omega) (gIA_3 V_h hb_a0) ?_; intro v5 e_v5 a_v5 b_v5
        exact ok_rP (by omega) (by omega)
set_option maxRecDepth 4000 in
theorem vf_X3_textEnd {nn : Nat} (hn : 1000000 ≤ nn) {a0 : Nat} {a1 : Int} {h : ms_M} (hb_a0 : kc_O a0 = 3) (a_a1 : (-1) ≤ a1) (b_a1 : a1 ≤ 65535) (V_h : VS_ h)  : Ok_ (qf_X3_textEnd nn a0 a1 h) (QP_ 0 6255) := by
  unfold qf_X3_textEnd
  refine ok_if ?_ ?_
  · intro C0
    exact ok_rP (by omega) (by omega)
  · intro C0
    have T2 := gI_7 V_h hb_a0
    refine ok_if ?_ ?_
    · intro C2
      exact ok_rP (by omega) (by omega)
    · intro C2
      refine ok_if ?_ ?_
      · intro C3
        exfalso; omega
      · intro C3
        refine ok_rd (by omega) (gIA_4 V_h hb_a0) ?_; intro v5 e_v5 a_v5 b_v5
        exact ok_rP (by omega) (by omega)
set_option maxRecDepth 4000 in
theorem vj_X3_builtIn_86 {nn : Nat} (hn : 1000000 ≤ nn) {qkk_8 : Nat → Int → Int → Int → Int → Int → ms_M → Option Int} {K_kk_8 : Int} (hk_kk_8 : ∀ {l0 : Nat} {l1 : Int} {l2 : Int} {l3 : Int} {l4 : Int} {l5 : Int} {h : ms_M} (hb_l0 : kc_O l0 = 3) (a_l1 : 0 ≤ l1) (b_l1 : l1 ≤ 6260) (a_l2 : (-2) ≤ l2) (b_l2 : l2 ≤ 6256) (a_l3 : 0 ≤ l3) (b_l3 : l3 ≤ 76) (a_l4 : (-2147483648) ≤ l4) (b_l4 : l4 ≤ 2147483647) (a_l5 : 0 ≤ l5) (b_l5 : l5 ≤ 300) (V_h : VS_ h) (x_0 : l3 ≤ l5) (_ : 301 - l5 < K_kk_8), Ok_ (qkk_8 l0 l1 l2 l3 l4 l5 h) (QP_ (-1) 76)) {l0 : Nat} {l1 : Int} {l2 : Int} {l3 : Int} {l5 : Int} {s0 : Int} {h : ms_M} (hb_l0 : kc_O l0 = 3) (a_l1 : 0 ≤ l1) (b_l1 : l1 ≤ 6260) (a_l2 : (-2) ≤ l2) (b_l2 : l2 ≤ 6256) (a_l3 : 0 ≤ l3) (b_l3 : l3 ≤ 76) (a_l5 : 0 ≤ l5) (b_l5 : l5 ≤ 299) (a_s0 : (-2147483648) ≤ s0) (b_s0 : s0 ≤ 2147483647) (V_h : VS_ h) (x_0 : l3 ≤ l5) (hm_kk_8 : 301 - l5 + 0 ≤ K_kk_8) : Ok_ (qj_X3_builtIn_86 nn qkk_8 l0 l1 l2 l3 l5 s0 h) (QP_ (-1) 76) := by
  unfold qj_X3_builtIn_86
  refine ok_add (by omega) ?_; intro v1 e_v1
  exact hk_kk_8 hb_l0 (by omega) (by omega) (by omega) (by omega) (by omega) (by omega) (by omega) (by omega) (by omega) (by omega) V_h (by omega) (by omega)
set_option maxRecDepth 4000 in
theorem vj_X3_builtIn_71 {nn : Nat} (hn : 1000000 ≤ nn) {qkk_8 : Nat → Int → Int → Int → Int → Int → ms_M → Option Int} {K_kk_8 : Int} (hk_kk_8 : ∀ {l0 : Nat} {l1 : Int} {l2 : Int} {l3 : Int} {l4 : Int} {l5 : Int} {h : ms_M} (hb_l0 : kc_O l0 = 3) (a_l1 : 0 ≤ l1) (b_l1 : l1 ≤ 6260) (a_l2 : (-2) ≤ l2) (b_l2 : l2 ≤ 6256) (a_l3 : 0 ≤ l3) (b_l3 : l3 ≤ 76) (a_l4 : (-2147483648) ≤ l4) (b_l4 : l4 ≤ 2147483647) (a_l5 : 0 ≤ l5) (b_l5 : l5 ≤ 300) (V_h : VS_ h) (x_0 : l3 ≤ l5) (_ : 301 - l5 < K_kk_8), Ok_ (qkk_8 l0 l1 l2 l3 l4 l5 h) (QP_ (-1) 76)) {l0 : Nat} {l1 : Int} {l2 : Int} {l3 : Int} {l4 : Int} {l5 : Int} {s0 : Int} {h : ms_M} (hb_l0 : kc_O l0 = 3) (a_l1 : 0 ≤ l1) (b_l1 : l1 ≤ 6260) (a_l2 : (-2) ≤ l2) (b_l2 : l2 ≤ 6256) (a_l3 : 0 ≤ l3) (b_l3 : l3 ≤ 76) (a_l4 : (-2147483648) ≤ l4) (b_l4 : l4 ≤ 2147483647) (a_l5 : 0 ≤ l5) (b_l5 : l5 ≤ 299) (a_s0 : 0 ≤ s0) (b_s0 : s0 ≤ 1) (V_h : VS_ h) (x_0 : l3 ≤ l5) (hm_kk_8 : 301 - l5 + 0 ≤ K_kk_8) : Ok_ (qj_X3_builtIn_71 nn qkk_8 l0 l1 l2 l3 l4 l5 s0 h) (QP_ (-1) 76) := by
  unfold qj_X3_builtIn_71
  refine ok_if ?_ ?_
  · intro C0
    exact vj_X3_builtIn_86 hn hk_kk_8 hb_l0 (by omega) (by omega) (by omega) (by omega) (by omega) (by omega) (by omega) (by omega) (by omega) (by omega) V_h (by omega) (by omega)
  · intro C0
    refine ok_addW (by omega) ?_; intro v2 a_v2 b_v2 w_v2
    exact vj_X3_builtIn_86 hn hk_kk_8 hb_l0 (by omega) (by omega) (by omega) (by omega) (by omega) (by omega) (by omega) (by omega) (by omega) (by omega) V_h (by omega) (by omega)
set_option maxRecDepth 4000 in
theorem vj_X3_builtIn_70 {nn : Nat} (hn : 1000000 ≤ nn) {qkk_8 : Nat → Int → Int → Int → Int → Int → ms_M → Option Int} {K_kk_8 : Int} (hk_kk_8 : ∀ {l0 : Nat} {l1 : Int} {l2 : Int} {l3 : Int} {l4 : Int} {l5 : Int} {h : ms_M} (hb_l0 : kc_O l0 = 3) (a_l1 : 0 ≤ l1) (b_l1 : l1 ≤ 6260) (a_l2 : (-2) ≤ l2) (b_l2 : l2 ≤ 6256) (a_l3 : 0 ≤ l3) (b_l3 : l3 ≤ 76) (a_l4 : (-2147483648) ≤ l4) (b_l4 : l4 ≤ 2147483647) (a_l5 : 0 ≤ l5) (b_l5 : l5 ≤ 300) (V_h : VS_ h) (x_0 : l3 ≤ l5) (_ : 301 - l5 < K_kk_8), Ok_ (qkk_8 l0 l1 l2 l3 l4 l5 h) (QP_ (-1) 76)) {l0 : Nat} {l1 : Int} {l2 : Int} {l3 : Int} {l4 : Int} {l5 : Int} {h : ms_M} (hb_l0 : kc_O l0 = 3) (a_l1 : 0 ≤ l1) (b_l1 : l1 ≤ 6260) (a_l2 : (-2) ≤ l2) (b_l2 : l2 ≤ 6256) (a_l3 : 0 ≤ l3) (b_l3 : l3 ≤ 76) (a_l4 : (-2147483648) ≤ l4) (b_l4 : l4 ≤ 2147483647) (a_l5 : 0 ≤ l5) (b_l5 : l5 ≤ 299) (V_h : VS_ h) (x_0 : l3 ≤ l5) (hm_kk_8 : 301 - l5 + 0 ≤ K_kk_8) : Ok_ (qj_X3_builtIn_70 nn qkk_8 l0 l1 l2 l3 l4 l5 h) (QP_ (-1) 76) := by
  unfold qj_X3_builtIn_70
  exact vj_X3_builtIn_71 hn hk_kk_8 hb_l0 (by omega) (by omega) (by omega) (by omega) (by omega) (by omega) (by omega) (by omega) (by omega) (by omega) (by omega) (by omega) V_h (by omega) (by omega)
set_option maxRecDepth 4000 in
theorem vw_X3_builtIn_8 {nn : Nat} (hn : 1000000 ≤ nn) : ∀ (k : Nat) {l0 : Nat} {l1 : Int} {l2 : Int} {l3 : Int} {l4 : Int} {l5 : Int} {h : ms_M} (hb_l0 : kc_O l0 = 3) (a_l1 : 0 ≤ l1) (b_l1 : l1 ≤ 6260) (a_l2 : (-2) ≤ l2) (b_l2 : l2 ≤ 6256) (a_l3 : 0 ≤ l3) (b_l3 : l3 ≤ 76) (a_l4 : (-2147483648) ≤ l4) (b_l4 : l4 ≤ 2147483647) (a_l5 : 0 ≤ l5) (b_l5 : l5 ≤ 300) (V_h : VS_ h) (x_0 : l3 ≤ l5)  (hm : 301 - l5 < (k : Int)), Ok_ (qw_X3_builtIn_8 nn k l0 l1 l2 l3 l4 l5 h) (QP_ (-1) 76) := by
  intro k
  induction k with
  | zero => intros; exfalso; omega
  | succ k ih =>
    intro l0 l1 l2 l3 l4 l5 h hb_l0 a_l1 b_l1 a_l2 b_l2 a_l3 b_l3 a_l4 b_l4 a_l5 b_l5 V_h x_0 hm
    unfold qw_X3_builtIn_8
    refine ok_lX1 ?_
    refine ok_if ?_ ?_
    · intro C0
      exact ok_rP (by omega) (by omega)
    · intro C0
      refine ok_rX1 (by omega) ?_; intro v5 a_v5 b_v5
      refine ok_if ?_ ?_
      · intro C1
        refine ok_if ?_ ?_
        · intro C2
          refine ok_add (by omega) ?_; intro v6 e_v6
          refine ok_add (by omega) ?_; intro v7 e_v7
          exact ih hb_l0 (by omega) (by omega) (by omega) (by omega) (by omega) (by omega) (by omega) (by omega) (by omega) (by omega) V_h (by omega) (by omega)
        · intro C2
          exact ok_rP (by omega) (by omega)
      · intro C1
        refine ok_if ?_ ?_
        · intro C3
          exact vj_X3_builtIn_70 hn ih hb_l0 (by omega) (by omega) (by omega) (by omega) (by omega) (by omega) (by omega) (by omega) (by omega) (by omega) V_h (by omega) (by omega)
        · intro C3
          refine ok_if ?_ ?_
          · intro C4
            exact vj_X3_builtIn_70 hn ih hb_l0 (by omega) (by omega) (by omega) (by omega) (by omega) (by omega) (by omega) (by omega) (by omega) (by omega) V_h (by omega) (by omega)
          · intro C4
            have T6 := gI_1 V_h hb_l0
            refine ok_if ?_ ?_
            · intro C6
              exact vj_X3_builtIn_70 hn ih hb_l0 (by omega) (by omega) (by omega) (by omega) (by omega) (by omega) (by omega) (by omega) (by omega) (by omega) V_h (by omega) (by omega)
            · intro C6
              have T8 := vi_b V_h (b := l0) hb_l0
              have T9 := T8.2
              refine ok_ck T8.1.1 ?_
              refine ok_rT V_h T8.1.2 (by omega) ?_; intro v11 e_v11 a_v11 b_v11
              refine ok_if ?_ ?_
              · intro C9
                exact vj_X3_builtIn_70 hn ih hb_l0 (by omega) (by omega) (by omega) (by omega) (by omega) (by omega) (by omega) (by omega) (by omega) (by omega) V_h (by omega) (by omega)
              · intro C9
                exact vj_X3_builtIn_71 hn ih hb_l0 (by omega) (by omega) (by omega) (by omega) (by omega) (by omega) (by omega) (by omega) (by omega) (by omega) (by omega) (by omega) V_h (by omega) (by omega)
set_option maxRecDepth 4000 in
theorem vf_X3_builtIn {nn : Nat} (hn : 1000000 ≤ nn) {a0 : Nat} {a1 : Int} {a2 : Int} {h : ms_M} (hb_a0 : kc_O a0 = 3) (a_a1 : 0 ≤ a1) (b_a1 : a1 ≤ 6260) (a_a2 : (-2) ≤ a2) (b_a2 : a2 ≤ 6256) (V_h : VS_ h)  : Ok_ (qf_X3_builtIn nn a0 a1 a2 h) (QP_ (-1) 76) := by
  unfold qf_X3_builtIn
  exact vw_X3_builtIn_8 hn _ hb_a0 (by omega) (by omega) (by omega) (by omega) (by omega) (by omega) (by omega) (by omega) (by omega) (by omega) V_h (by omega) (by omega)
set_option maxRecDepth 4000 in
theorem vw_X3_sameBytes_47 {nn : Nat} (hn : 1000000 ≤ nn) : ∀ (k : Nat) {l0 : Nat} {l1 : Int} {l2 : Int} {l3 : Nat} {l4 : Int} {l6 : Int} {l7 : Int} {h : ms_M} (hb_l0 : kc_O l0 = 3) (a_l1 : 0 ≤ l1) (b_l1 : l1 ≤ 6000) (a_l2 : 0 ≤ l2) (b_l2 : l2 ≤ 6255) (i_l3 : kc_O l3 = 3) (a_l4 : 0 ≤ l4) (b_l4 : l4 ≤ 6260) (a_l6 : 0 ≤ l6) (b_l6 : l6 ≤ 1) (a_l7 : 0 ≤ l7) (b_l7 : l7 ≤ 6255) (V_h : VS_ h) (x_0 : l6 = 0 ∨ (0 ≤ l1 ∧ l2 ≤ h l0 1 ∧ 0 ≤ l4 ∧ l4 + (l2 - l1) ≤ h l3 1))  (hm : 6256 - l7 < (k : Int)), Ok_ (qw_X3_sameBytes_47 nn k l0 l1 l2 l3 l4 l6 l7 h) (QP_ 0 1) := by
  intro k
  induction k with
  | zero => intros; exfalso; omega
  | succ k ih =>
    intro l0 l1 l2 l3 l4 l6 l7 h hb_l0 a_l1 b_l1 a_l2 b_l2 i_l3 a_l4 b_l4 a_l6 b_l6 a_l7 b_l7 V_h x_0 hm
    unfold qw_X3_sameBytes_47
    have T1 := gI_1 V_h hb_l0
    refine ok_sub (by omega) ?_; intro v1 e_v1
    refine ok_if ?_ ?_
    · intro C1
      refine ok_ck (by omega) ?_
      exact ok_rP (by omega) (by omega)
    · intro C1
      refine ok_if ?_ ?_
      · intro C2
        refine ok_ck (by omega) ?_
        exact ok_rP (by omega) (by omega)
      · intro C2
        have T4 := vi_b V_h (b := l0) hb_l0
        have T5 := T4.2
        refine ok_ck T4.1.1 ?_
        refine ok_add (by omega) ?_; intro v5 e_v5
        refine ok_rT V_h T4.1.2 (by omega) ?_; intro v6 e_v6 a_v6 b_v6
        have hb1 : kc_O l3 = 3 := i_l3
        refine ok_ck hb1 ?_
        have T6 := gI_1 V_h hb1
        have T7 := vi_b V_h (b := l3) hb1
        have T8 := T7.2
        refine ok_ck T7.1.1 ?_
        refine ok_add (by omega) ?_; intro v8 e_v8
        refine ok_rT V_h T7.1.2 (by omega) ?_; intro v9 e_v9 a_v9 b_v9
        refine ok_if ?_ ?_
        · intro C8
          refine ok_add (by omega) ?_; intro v10 e_v10
          exact ih hb_l0 (by omega) (by omega) (by omega) (by omega) hb1 (by omega) (by omega) (by omega) (by omega) (by omega) (by omega) V_h (by omega) (by omega)
        · intro C8
          refine ok_add (by omega) ?_; intro v11 e_v11
          exact ih hb_l0 (by omega) (by omega) (by omega) (by omega) hb1 (by omega) (by omega) (by omega) (by omega) (by omega) (by omega) V_h (by omega) (by omega)
set_option maxRecDepth 4000 in
theorem vj_X3_sameBytes_41 {nn : Nat} (hn : 1000000 ≤ nn) {l0 : Nat} {l1 : Int} {l2 : Int} {l3 : Nat} {l4 : Int} {h : ms_M} (hb_l0 : kc_O l0 = 3) (a_l1 : 0 ≤ l1) (b_l1 : l1 ≤ 6000) (a_l2 : 0 ≤ l2) (b_l2 : l2 ≤ 6255) (i_l3 : kc_O l3 = 3) (a_l4 : 0 ≤ l4) (b_l4 : l4 ≤ 6260) (V_h : VS_ h)  : Ok_ (qj_X3_sameBytes_41 nn l0 l1 l2 l3 l4 h) (QP_ 0 1) := by
  unfold qj_X3_sameBytes_41
  exact vw_X3_sameBytes_47 hn _ hb_l0 (by omega) (by omega) (by omega) (by omega) i_l3 (by omega) (by omega) (by omega) (by omega) (by omega) (by omega) V_h (by omega) (by omega)
set_option maxRecDepth 4000 in
theorem vf_X3_sameBytes {nn : Nat} (hn : 1000000 ≤ nn) {a0 : Nat} {a1 : Int} {a2 : Int} {a3 : Nat} {a4 : Int} {a5 : Int} {h : ms_M} (hb_a0 : kc_O a0 = 3) (a_a1 : 0 ≤ a1) (b_a1 : a1 ≤ 6000) (a_a2 : 0 ≤ a2) (b_a2 : a2 ≤ 6255) (i_a3 : kc_O a3 = 3) (a_a4 : 0 ≤ a4) (b_a4 : a4 ≤ 6260) (a_a5 : (-2) ≤ a5) (b_a5 : a5 ≤ 6256) (V_h : VS_ h)  : Ok_ (qf_X3_sameBytes nn a0 a1 a2 a3 a4 a5 h) (QP_ 0 1) := by
  unfold qf_X3_sameBytes
  refine ok_sub (by omega) ?_; intro v15 e_v15
  refine ok_sub (by omega) ?_; intro v16 e_v16
  refine ok_if ?_ ?_
  · intro C0
    exact vj_X3_sameBytes_41 hn hb_a0 (by omega) (by omega) (by omega) (by omega) i_a3 (by omega) (by omega) V_h
  · intro C0
    refine ok_if ?_ ?_
    · intro C1
      exfalso; omega
    · intro C1
      have T3 := gI_1 V_h hb_a0
      refine ok_if ?_ ?_
      · intro C3
        exact vj_X3_sameBytes_41 hn hb_a0 (by omega) (by omega) (by omega) (by omega) i_a3 (by omega) (by omega) V_h
      · intro C3
        refine ok_if ?_ ?_
        · intro C4
          exfalso; omega
        · intro C4
          have hb1 : kc_O a3 = 3 := i_a3
          refine ok_ck hb1 ?_
          have T6 := gI_1 V_h hb1
          refine ok_if ?_ ?_
          · intro C6
            exact vj_X3_sameBytes_41 hn hb_a0 (by omega) (by omega) (by omega) (by omega) hb1 (by omega) (by omega) V_h
          · intro C6
            exact vw_X3_sameBytes_47 hn _ hb_a0 (by omega) (by omega) (by omega) (by omega) hb1 (by omega) (by omega) (by omega) (by omega) (by omega) (by omega) V_h (by omega) (by omega)
set_option maxRecDepth 4000 in
theorem vw_X7_classOf_3 {nn : Nat} (hn : 1000000 ≤ nn) : ∀ (k : Nat) {l1 : Nat} {l2 : Int} {l3 : Int} {l4 : Int} {h : ms_M} (i_l1 : kc_O l1 = 3) (a_l2 : 0 ≤ l2) (b_l2 : l2 ≤ 6260) (a_l3 : (-2) ≤ l3) (b_l3 : l3 ≤ 6256) (a_l4 : 0 ≤ l4) (b_l4 : l4 ≤ 8) (V_h : VS_ h)  (hm : 9 - l4 < (k : Int)), Ok_ (qw_X7_classOf_3 nn k l1 l2 l3 l4 h) (QP_ (-1) 76) := by
  intro k
  induction k with
  | zero => intros; exfalso; omega
  | succ k ih =>
    intro l1 l2 l3 l4 h i_l1 a_l2 b_l2 a_l3 b_l3 a_l4 b_l4 V_h hm
    unfold qw_X7_classOf_3
    have T1 := gF_56_3 V_h
    refine ok_if ?_ ?_
    · intro C1
      have hb1 : kc_O l1 = 3 := i_l1
      refine ok_ck hb1 ?_
      refine ok_cP (vf_X3_builtIn hn hb1 (by omega) (by omega) (by omega) (by omega) V_h) ?_; intro u3 e_u3 a_u3 b_u3
      exact ok_rP (by omega) (by omega)
    · intro C1
      refine ok_rd60 V_h (by omega) ?_; intro v5 n_v5 k_v5
      refine ok_ck n_v5 ?_
      have hb2 : kc_O (v5).toNat = 3 := k_v5
      refine ok_ck hb2 ?_
      have T3 := gI_8 V_h hb2
      refine ok_rd60 V_h (by omega) ?_; intro v9 n_v9 k_v9
      refine ok_rd60 V_h (by omega) ?_; intro v11 n_v11 k_v11
      refine ok_ck n_v11 ?_
      have hb3 : kc_O (v11).toNat = 3 := k_v11
      refine ok_ck hb3 ?_
      refine ok_cP (vf_X3_textAt hn hb3 (by omega) (by omega) V_h) ?_; intro u14 e_u14 a_u14 b_u14
      refine ok_rd60 V_h (by omega) ?_; intro v16 n_v16 k_v16
      refine ok_ck n_v16 ?_
      have hb4 : kc_O (v16).toNat = 3 := k_v16
      refine ok_ck hb4 ?_
      refine ok_cP (vf_X3_textEnd hn hb4 (by omega) (by omega) V_h) ?_; intro u19 e_u19 a_u19 b_u19
      refine ok_ck n_v9 ?_
      have hb5 : kc_O (v9).toNat = 3 := k_v9
      refine ok_ck hb5 ?_
      refine ok_cP (vf_X3_sameBytes hn hb5 (by omega) (by omega) (by omega) (by omega) i_l1 (by omega) (by omega) (by omega) (by omega) V_h) ?_; intro u22 e_u22 a_u22 b_u22
      refine ok_if ?_ ?_
      · intro C3
        refine ok_add (by omega) ?_; intro v23 e_v23
        exact ih i_l1 (by omega) (by omega) (by omega) (by omega) (by omega) (by omega) V_h (by omega)
      · intro C3
        refine ok_add (by omega) ?_; intro v24 e_v24
        exact ok_rP (by omega) (by omega)
set_option maxRecDepth 4000 in
theorem vf_X7_classOf {nn : Nat} (hn : 1000000 ≤ nn) {a1 : Nat} {a2 : Int} {a3 : Int} {h : ms_M} (i_a1 : kc_O a1 = 3) (a_a2 : 0 ≤ a2) (b_a2 : a2 ≤ 6260) (a_a3 : (-2) ≤ a3) (b_a3 : a3 ≤ 6256) (V_h : VS_ h)  : Ok_ (qf_X7_classOf nn a1 a2 a3 h) (QP_ (-1) 76) := by
  unfold qf_X7_classOf
  exact vw_X7_classOf_3 hn _ i_a1 (by omega) (by omega) (by omega) (by omega) (by omega) (by omega) V_h (by omega)
set_option maxRecDepth 4000 in
theorem vw_X7_relate_14 {nn : Nat} (hn : 1000000 ≤ nn) : ∀ (k : Nat) {l1 : Int} {h : ms_M} (a_l1 : 0 ≤ l1) (b_l1 : l1 ≤ 8) (V_h : VS_ h)  (hm : 9 - l1 < (k : Int)), Ok_ (qw_X7_relate_14 nn k l1 h) QV_ := by
  intro k
  induction k with
  | zero => intros; exfalso; omega
  | succ k ih =>
    intro l1 h a_l1 b_l1 V_h hm
    unfold qw_X7_relate_14
    have T1 := gF_56_3 V_h
    refine ok_if ?_ ?_
    · intro C1
      refine ok_cV (vf_X4_settle hn rfl V_h) ?_; intro u4 E_u4 V_u4
      exact ok_rV V_u4
    · intro C1
      refine ok_rd60 V_h (by omega) ?_; intro v6 n_v6 k_v6
      refine ok_ck n_v6 ?_
      have hb1 : kc_O (v6).toNat = 3 := k_v6
      refine ok_ck hb1 ?_
      have T3 := gI_9 V_h hb1
      refine ok_add (by omega) ?_; intro v10 e_v10
      refine ok_rd60 V_h (by omega) ?_; intro v12 n_v12 k_v12
      refine ok_rd60 V_h (by omega) ?_; intro v14 n_v14 k_v14
      refine ok_ck n_v14 ?_
      have hb2 : kc_O (v14).toNat = 3 := k_v14
      refine ok_ck hb2 ?_
      refine ok_cP (vf_X3_textAt hn hb2 (by omega) (by omega) V_h) ?_; intro u17 e_u17 a_u17 b_u17
      refine ok_rd60 V_h (by omega) ?_; intro v19 n_v19 k_v19
      refine ok_ck n_v19 ?_
      have hb3 : kc_O (v19).toNat = 3 := k_v19
      refine ok_ck hb3 ?_
      refine ok_cP (vf_X3_textEnd hn hb3 (by omega) (by omega) V_h) ?_; intro u22 e_u22 a_u22 b_u22
      refine ok_ck n_v12 ?_
      refine ok_cP (vf_X7_classOf hn k_v12 (by omega) (by omega) (by omega) (by omega) V_h) ?_; intro u25 e_u25 a_u25 b_u25
      refine ok_cV (vf_X4_setAbove hn rfl (by omega) (by omega) (by omega) (by omega) V_h) ?_; intro u27 E_u27 V_u27
      refine ok_add (by omega) ?_; intro v28 e_v28
      exact ih (by omega) (by omega) V_u27 (by omega)
set_option maxRecDepth 4000 in
theorem vf_X7_relate {nn : Nat} (hn : 1000000 ≤ nn) {h : ms_M} (V_h : VS_ h)  : Ok_ (qf_X7_relate nn h) QV_ := by
  unfold qf_X7_relate
  refine ok_xl ?_; intro h30 E_h30; have V_h30 : VS_ h30 := by rw [E_h30]; exact wF_56_4 V_h (by omega)
  refine ok_cV (vf_X4_forget hn rfl V_h30) ?_; intro u33 E_u33 V_u33
  exact vw_X7_relate_14 hn _ (by omega) (by omega) V_u33 (by omega)
set_option maxRecDepth 4000 in
theorem vf_X5_tell {nn : Nat} (hn : 1000000 ≤ nn) {a1 : Int} {h : ms_M} (a_a1 : (-2147483648) ≤ a1) (b_a1 : a1 ≤ 2147483647) (V_h : VS_ h)  : Ok_ (qf_X5_tell nn a1 h) (QP_ (-2147483648) 2147483647) := by
  unfold qf_X5_tell
  refine ok_if ?_ ?_
  · intro C0
    have T2 := gF_143_1 V_h
    exact ok_rP (by omega) (by omega)
  · intro C0
    refine ok_if ?_ ?_
    · intro C2
      have T4 := gF_143_2 V_h
      exact ok_rP (by omega) (by omega)
    · intro C2
      refine ok_if ?_ ?_
      · intro C4
        have T6 := gF_143_3 V_h
        exact ok_rP (by omega) (by omega)
      · intro C4
        refine ok_if ?_ ?_
        · intro C6
          have T8 := gF_143_4 V_h
          exact ok_rP (by omega) (by omega)
        · intro C6
          refine ok_if ?_ ?_
          · intro C8
            have T10 := gF_143_5 V_h
            exact ok_rP (by omega) (by omega)
          · intro C8
            refine ok_if ?_ ?_
            · intro C10
              have T12 := gF_143_6 V_h
              exact ok_rP (by omega) (by omega)
            · intro C10
              refine ok_if ?_ ?_
              · intro C12
                have T14 := gF_143_7 V_h
                exact ok_rP (by omega) (by omega)
              · intro C12
                exact ok_rP (by omega) (by omega)
set_option maxRecDepth 4000 in
theorem vf_X5_tellTop {nn : Nat} (hn : 1000000 ≤ nn) {a1 : Int} {h : ms_M} (a_a1 : 7 ≤ a1) (b_a1 : a1 ≤ 10) (V_h : VS_ h)  : Ok_ (qf_X5_tellTop nn a1 h) (QP_ (-2147483648) 2147483647) := by
  unfold qf_X5_tellTop
  have T1 := gF_143_1 V_h
  refine ok_if ?_ ?_
  · intro C1
    refine ok_if ?_ ?_
    · intro C2
      have T4 := gF_143_17 V_h
      refine ok_rd (by omega) (gA_148 V_h) ?_; intro v4 e_v4 a_v4 b_v4
      refine ok_divT (n := 12) (by decide) ?_; intro v5 a_v5 b_v5
      refine ok_add (by omega) ?_; intro v6 e_v6
      exact ok_rP (by omega) (by omega)
    · intro C2
      refine ok_if ?_ ?_
      · intro C4
        have T6 := gF_143_17 V_h
        refine ok_rd (by omega) (gA_148 V_h) ?_; intro v9 e_v9 a_v9 b_v9
        refine ok_remT (n := 12) (by decide) ?_; intro v10 a_v10 b_v10
        exact ok_rP (by omega) (by omega)
      · intro C4
        refine ok_if ?_ ?_
        · intro C6
          have T8 := gF_143_17 V_h
          refine ok_rd (by omega) (gA_149 V_h) ?_; intro v13 e_v13 a_v13 b_v13
          exact ok_rP (by omega) (by omega)
        · intro C6
          refine ok_if ?_ ?_
          · intro C8
            have T10 := gF_143_17 V_h
            refine ok_rd (by omega) (gA_150 V_h) ?_; intro v16 e_v16 a_v16 b_v16
            exact ok_rP (by omega) (by omega)
          · intro C8
            exfalso; omega
  · intro C1
    exact ok_rP (by omega) (by omega)
set_option maxRecDepth 4000 in
theorem vj_X12_look_80 {nn : Nat} (hn : 1000000 ≤ nn) {l1 : Int} {h : ms_M} (a_l1 : (-2147483648) ≤ l1) (b_l1 : l1 ≤ 2147483647) (V_h : VS_ h)  : Ok_ (qj_X12_look_80 nn l1 h) (QP_ (-2147483648) 2147483647) := by
  unfold qj_X12_look_80
  refine ok_cP (vf_X5_tell hn (by omega) (by omega) V_h) ?_; intro u3 e_u3 a_u3 b_u3
  exact ok_rP (by omega) (by omega)
set_option maxRecDepth 4000 in
theorem vf_X12_look {nn : Nat} (hn : 1000000 ≤ nn) {a1 : Int} {h : ms_M} (a_a1 : (-2147483648) ≤ a1) (b_a1 : a1 ≤ 2147483647) (V_h : VS_ h)  : Ok_ (qf_X12_look nn a1 h) (QP_ (-2147483648) 2147483647) := by
  unfold qf_X12_look
  refine ok_if ?_ ?_
  · intro C0
    have T2 := gF_56_3 V_h
    exact ok_rP (by omega) (by omega)
  · intro C0
    refine ok_if ?_ ?_
    · intro C2
      have T4 := gF_56_4 V_h
      refine ok_if ?_ ?_
      · intro C4
        exact ok_rP (by omega) (by omega)
      · intro C4
        exact ok_rP (by omega) (by omega)
    · intro C2
      refine ok_if ?_ ?_
      · intro C5
        have T7 := gF_0_1 V_h
        exact ok_rP (by omega) (by omega)
      · intro C5
        refine ok_if ?_ ?_
        · intro C7
          exact vj_X12_look_80 hn (by omega) (by omega) V_h
        · intro C7
          refine ok_if ?_ ?_
          · intro C8
            exact vj_X12_look_80 hn (by omega) (by omega) V_h
          · intro C8
            refine ok_cP (vf_X5_tellTop hn (by omega) (by omega) V_h) ?_; intro u6 e_u6 a_u6 b_u6
            exact ok_rP (by omega) (by omega)
set_option maxRecDepth 4000 in
theorem vf_X5_printedAt {nn : Nat} (hn : 1000000 ≤ nn) {a1 : Int} {h : ms_M} (a_a1 : (-2147483648) ≤ a1) (b_a1 : a1 ≤ 2147483647) (V_h : VS_ h)  : Ok_ (qf_X5_printedAt nn a1 h) (QP_ (-2147483648) 2147483647) := by
  unfold qf_X5_printedAt
  refine ok_if ?_ ?_
  · intro C0
    exact ok_rP (by omega) (by omega)
  · intro C0
    have T2 := gF_143_7 V_h
    refine ok_if ?_ ?_
    · intro C2
      exact ok_rP (by omega) (by omega)
    · intro C2
      refine ok_if ?_ ?_
      · intro C3
        exact ok_rP (by omega) (by omega)
      · intro C3
        refine ok_rd (by omega) (gA_144 V_h) ?_; intro v3 e_v3 a_v3 b_v3
        exact ok_rP (by omega) (by omega)
set_option maxRecDepth 4000 in
theorem vf_X12_out {nn : Nat} (hn : 1000000 ≤ nn) {a1 : Int} {h : ms_M} (a_a1 : (-2147483648) ≤ a1) (b_a1 : a1 ≤ 2147483647) (V_h : VS_ h)  : Ok_ (qf_X12_out nn a1 h) (QP_ (-2147483648) 2147483647) := by
  unfold qf_X12_out
  refine ok_cP (vf_X5_printedAt hn (by omega) (by omega) V_h) ?_; intro u3 e_u3 a_u3 b_u3
  exact ok_rP (by omega) (by omega)
set_option maxRecDepth 4000 in
theorem vf_X7_imageOf {nn : Nat} (hn : 1000000 ≤ nn) {a1 : Int} {h : ms_M} (a_a1 : (-2147483648) ≤ a1) (b_a1 : a1 ≤ 2147483647) (V_h : VS_ h)  : Ok_ (qf_X7_imageOf nn a1 h) QO_ := by
  unfold qf_X7_imageOf
  refine ok_if ?_ ?_
  · intro C0
    exact ok_rOn
  · intro C0
    have T2 := gF_56_3 V_h
    refine ok_add (by omega) ?_; intro v2 e_v2
    refine ok_if ?_ ?_
    · intro C2
      exact ok_rOn
    · intro C2
      refine ok_sub (by omega) ?_; intro v4 e_v4
      refine ok_rd60 V_h (by omega) ?_; intro v5 n_v5 k_v5
      exact ok_rOo k_v5
set_option maxRecDepth 4000 in
theorem vf_X3_sameText {nn : Nat} (hn : 1000000 ≤ nn) {a0 : Nat} {a1 : Int} {a2 : Nat} {a3 : Int} {h : ms_M} (hb_a0 : kc_O a0 = 3) (a_a1 : (-1) ≤ a1) (b_a1 : a1 ≤ 65535) (i_a2 : kc_O a2 = 3) (a_a3 : (-1) ≤ a3) (b_a3 : a3 ≤ 65535) (V_h : VS_ h)  : Ok_ (qf_X3_sameText nn a0 a1 a2 a3 h) (QP_ 0 1) := by
  unfold qf_X3_sameText
  refine ok_cP (vf_X3_textAt hn hb_a0 (by omega) (by omega) V_h) ?_; intro u2 e_u2 a_u2 b_u2
  refine ok_cP (vf_X3_textEnd hn hb_a0 (by omega) (by omega) V_h) ?_; intro u4 e_u4 a_u4 b_u4
  have hb1 : kc_O a2 = 3 := i_a2
  refine ok_ck hb1 ?_
  refine ok_cP (vf_X3_textAt hn hb1 (by omega) (by omega) V_h) ?_; intro u6 e_u6 a_u6 b_u6
  refine ok_cP (vf_X3_textEnd hn hb1 (by omega) (by omega) V_h) ?_; intro u8 e_u8 a_u8 b_u8
  refine ok_cP (vf_X3_sameBytes hn hb_a0 (by omega) (by omega) (by omega) (by omega) hb1 (by omega) (by omega) (by omega) (by omega) V_h) ?_; intro u10 e_u10 a_u10 b_u10
  refine ok_ck (by omega) ?_
  exact ok_rP (by omega) (by omega)
set_option maxRecDepth 4000 in
theorem vj_X7_isNamedAsOther_98 {nn : Nat} (hn : 1000000 ≤ nn) {qkk_44 : Int → Int → Int → Int → ms_M → Option Int} {K_kk_44 : Int} (hk_kk_44 : ∀ {l1 : Int} {l2 : Int} {l3 : Int} {l4 : Int} {h : ms_M} (a_l1 : 8 ≤ l1) (b_l1 : l1 ≤ 15) (a_l2 : 0 ≤ l2) (b_l2 : l2 ≤ 255) (a_l3 : 0 ≤ l3) (b_l3 : l3 ≤ 1) (a_l4 : 0 ≤ l4) (b_l4 : l4 ≤ 8) (V_h : VS_ h) (_ : 9 - l4 < K_kk_44), Ok_ (qkk_44 l1 l2 l3 l4 h) (QP_ 0 1)) {l1 : Int} {l2 : Int} {l4 : Int} {h : ms_M} (a_l1 : 8 ≤ l1) (b_l1 : l1 ≤ 15) (a_l2 : 0 ≤ l2) (b_l2 : l2 ≤ 255) (a_l4 : 0 ≤ l4) (b_l4 : l4 ≤ 7) (V_h : VS_ h) (hm_kk_44 : 9 - l4 + 0 ≤ K_kk_44) : Ok_ (qj_X7_isNamedAsOther_98 nn qkk_44 l1 l2 l4 h) (QP_ 0 1) := by
  unfold qj_X7_isNamedAsOther_98
  refine ok_add (by omega) ?_; intro v1 e_v1
  exact hk_kk_44 (by omega) (by omega) (by omega) (by omega) (by omega) (by omega) (by omega) (by omega) V_h (by omega)
set_option maxRecDepth 4000 in
theorem vj_X7_isNamedAsOther_94 {nn : Nat} (hn : 1000000 ≤ nn) {qkk_44 : Int → Int → Int → Int → ms_M → Option Int} {K_kk_44 : Int} (hk_kk_44 : ∀ {l1 : Int} {l2 : Int} {l3 : Int} {l4 : Int} {h : ms_M} (a_l1 : 8 ≤ l1) (b_l1 : l1 ≤ 15) (a_l2 : 0 ≤ l2) (b_l2 : l2 ≤ 255) (a_l3 : 0 ≤ l3) (b_l3 : l3 ≤ 1) (a_l4 : 0 ≤ l4) (b_l4 : l4 ≤ 8) (V_h : VS_ h) (_ : 9 - l4 < K_kk_44), Ok_ (qkk_44 l1 l2 l3 l4 h) (QP_ 0 1)) {l1 : Int} {l2 : Int} {l4 : Int} {h : ms_M} (a_l1 : 8 ≤ l1) (b_l1 : l1 ≤ 15) (a_l2 : 0 ≤ l2) (b_l2 : l2 ≤ 255) (a_l4 : 0 ≤ l4) (b_l4 : l4 ≤ 7) (V_h : VS_ h) (hm_kk_44 : 9 - l4 + 0 ≤ K_kk_44) : Ok_ (qj_X7_isNamedAsOther_94 nn qkk_44 l1 l2 l4 h) (QP_ 0 1) := by
  unfold qj_X7_isNamedAsOther_94
  refine ok_add (by omega) ?_; intro v2 e_v2
  exact hk_kk_44 (by omega) (by omega) (by omega) (by omega) (by omega) (by omega) (by omega) (by omega) V_h (by omega)
set_option maxRecDepth 4000 in
theorem vw_X7_isNamedAsOther_44 {nn : Nat} (hn : 1000000 ≤ nn) : ∀ (k : Nat) {l1 : Int} {l2 : Int} {l3 : Int} {l4 : Int} {h : ms_M} (a_l1 : 8 ≤ l1) (b_l1 : l1 ≤ 15) (a_l2 : 0 ≤ l2) (b_l2 : l2 ≤ 255) (a_l3 : 0 ≤ l3) (b_l3 : l3 ≤ 1) (a_l4 : 0 ≤ l4) (b_l4 : l4 ≤ 8) (V_h : VS_ h)  (hm : 9 - l4 < (k : Int)), Ok_ (qw_X7_isNamedAsOther_44 nn k l1 l2 l3 l4 h) (QP_ 0 1) := by
  intro k
  induction k with
  | zero => intros; exfalso; omega
  | succ k ih =>
    intro l1 l2 l3 l4 h a_l1 b_l1 a_l2 b_l2 a_l3 b_l3 a_l4 b_l4 V_h hm
    unfold qw_X7_isNamedAsOther_44
    have T1 := gF_56_3 V_h
    refine ok_if ?_ ?_
    · intro C1
      refine ok_ck (by omega) ?_
      exact ok_rP (by omega) (by omega)
    · intro C1
      refine ok_if ?_ ?_
      · intro C2
        exact vj_X7_isNamedAsOther_94 hn ih (by omega) (by omega) (by omega) (by omega) (by omega) (by omega) V_h (by omega)
      · intro C2
        refine ok_add (by omega) ?_; intro v5 e_v5
        refine ok_if ?_ ?_
        · intro C3
          exact vj_X7_isNamedAsOther_98 hn ih (by omega) (by omega) (by omega) (by omega) (by omega) (by omega) V_h (by omega)
        · intro C3
          refine ok_rd60 V_h (by omega) ?_; intro v7 n_v7 k_v7
          refine ok_rd60 V_h (by omega) ?_; intro v9 n_v9 k_v9
          refine ok_ck n_v9 ?_
          have hb1 : kc_O (v9).toNat = 3 := k_v9
          refine ok_ck hb1 ?_
          have T5 := gI_8 V_h hb1
          refine ok_ck (vi_r V_h).1.1 ?_
          refine ok_ck n_v7 ?_
          have hb2 : kc_O (v7).toNat = 3 := k_v7
          refine ok_ck hb2 ?_
          refine ok_cP (vf_X3_sameText hn hb2 (by omega) (by omega) (vi_r V_h).1.2 (by omega) (by omega) V_h) ?_; intro u15 e_u15 a_u15 b_u15
          refine ok_if ?_ ?_
          · intro C5
            exact vj_X7_isNamedAsOther_98 hn ih (by omega) (by omega) (by omega) (by omega) (by omega) (by omega) V_h (by omega)
          · intro C5
            exact vj_X7_isNamedAsOther_94 hn ih (by omega) (by omega) (by omega) (by omega) (by omega) (by omega) V_h (by omega)
set_option maxRecDepth 4000 in
theorem vf_X7_isNamedAsOther {nn : Nat} (hn : 1000000 ≤ nn) {a1 : Int} {h : ms_M} (a_a1 : 8 ≤ a1) (b_a1 : a1 ≤ 15) (V_h : VS_ h)  : Ok_ (qf_X7_isNamedAsOther nn a1 h) (QP_ 0 1) := by
  unfold qf_X7_isNamedAsOther
  refine ok_ck (vi_r V_h).1.1 ?_
  have hb1 : kc_O (h 56 2).toNat = 3 := (vi_r V_h).1.2
  refine ok_ck hb1 ?_
  have T1 := gI_8 V_h hb1
  refine ok_ck (vi_r V_h).1.1 ?_
  refine ok_ck (vi_r V_h).1.1 ?_
  refine ok_cP (vf_X3_textAt hn hb1 (by omega) (by omega) V_h) ?_; intro u25 e_u25 a_u25 b_u25
  refine ok_ck (vi_r V_h).1.1 ?_
  refine ok_cP (vf_X3_textEnd hn hb1 (by omega) (by omega) V_h) ?_; intro u28 e_u28 a_u28 b_u28
  refine ok_cP (vf_X3_builtIn hn hb1 (by omega) (by omega) (by omega) (by omega) V_h) ?_; intro u30 e_u30 a_u30 b_u30
  refine ok_if ?_ ?_
  · intro C1
    exact vw_X7_isNamedAsOther_44 hn _ (by omega) (by omega) (by omega) (by omega) (by omega) (by omega) (by omega) (by omega) V_h (by omega)
  · intro C1
    exact vw_X7_isNamedAsOther_44 hn _ (by omega) (by omega) (by omega) (by omega) (by omega) (by omega) (by omega) (by omega) V_h (by omega)
set_option maxRecDepth 4000 in
theorem vj_X5_make_26 {nn : Nat} (hn : 1000000 ≤ nn) {h : ms_M} (V_h : VS_ h)  : Ok_ (qj_X5_make_26 nn h) (QI_ 0 2000) := by
  unfold qj_X5_make_26
  refine ok_xl ?_; intro h1 E_h1; have V_h1 : VS_ h1 := by rw [E_h1]; exact wF_143_1 V_h (by omega)
  exact ok_rI V_h1 (by omega) (by omega)
set_option maxRecDepth 4000 in
theorem vf_X5_make {nn : Nat} (hn : 1000000 ≤ nn) {a1 : Int} {a2 : Int} {h : ms_M} (a_a1 : (-2147483648) ≤ a1) (b_a1 : a1 ≤ 2147483647) (a_a2 : 0 ≤ a2) (b_a2 : a2 ≤ 2147483647) (V_h : VS_ h)  : Ok_ (qf_X5_make nn a1 a2 h) (QI_ 0 2000) := by
  unfold qf_X5_make
  have T1 := gF_143_4 V_h
  refine ok_if ?_ ?_
  · intro C1
    exact vj_X5_make_26 hn V_h
  · intro C1
    refine ok_if ?_ ?_
    · intro C2
      exfalso; omega
    · intro C2
      have T4 := gF_143_5 V_h
      refine ok_sub (by omega) ?_; intro v4 e_v4
      refine ok_if ?_ ?_
      · intro C4
        refine ok_add (by omega) ?_; intro v6 e_v6
        refine ok_xl ?_; intro h7 E_h7; have V_h7 : VS_ h7 := by rw [E_h7]; exact wF_143_4 V_h (by omega)
        have T6 : h7 143 5 = h 143 5 := by rw [E_h7]; exact up_n (by decide)
        have T7 : h7 143 4 = v6 := by rw [E_h7]; exact up_s
        refine ok_wA (by omega) ?_; intro h10 E_h10; have V_h10 : VS_ h10 := by rw [E_h10]; exact wA_145 V_h7 (by omega)
        have T8 : h10 143 5 = h7 143 5 := by rw [E_h10]; exact up_n (fun z => absurd z.1 (by decide))
        have T9 : h10 143 4 = h7 143 4 := by rw [E_h10]; exact up_n (fun z => absurd z.1 (by decide))
        refine ok_wA (by omega) ?_; intro h14 E_h14; have V_h14 : VS_ h14 := by rw [E_h14]; exact wA_146 V_h10 (by omega)
        have T10 : h14 143 5 = h10 143 5 := by rw [E_h14]; exact up_n (fun z => absurd z.1 (by decide))
        have T11 : h14 143 4 = h10 143 4 := by rw [E_h14]; exact up_n (fun z => absurd z.1 (by decide))
        refine ok_add (by omega) ?_; intro v18 e_v18
        refine ok_cV (vfillR hn V_h14 (show 147 < 256 by decide) rfl (show 20000 ≤ 100000 by decide) (fun _ _ z => wA_147 z (by omega)) (show _ ∧ _ ∧ _ ≤ (20000 : Int) by omega)) ?_; intro u19 E_u19 V_u19
        have T12 : u19 143 5 = h14 143 5 := (ff_J7_fill_fda19 nn) _ E_u19 143 5 (show 143 ≠ 147 by decide)
        have T13 : u19 143 4 = h14 143 4 := (ff_J7_fill_fda19 nn) _ E_u19 143 4 (show 143 ≠ 147 by decide)
        refine ok_add (by omega) ?_; intro v21 e_v21
        refine ok_xl ?_; intro h22 E_h22; have V_h22 : VS_ h22 := by rw [E_h22]; exact wF_143_5 V_u19 (by omega)
        have T14 : h22 143 4 = u19 143 4 := by rw [E_h22]; exact up_n (by decide)
        have T15 : h22 143 5 = v21 := by rw [E_h22]; exact up_s
        refine ok_add (by omega) ?_; intro v25 e_v25
        refine ok_wA (by omega) ?_; intro h27 E_h27; have V_h27 : VS_ h27 := by rw [E_h27]; exact wA_146 V_h22 (by omega)
        have T16 : h27 143 4 = h22 143 4 := by rw [E_h27]; exact up_n (fun z => absurd z.1 (by decide))
        exact ok_rI V_h27 (by omega) (by omega)
      · intro C4
        exact vj_X5_make_26 hn V_h
