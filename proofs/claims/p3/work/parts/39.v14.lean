set_option maxRecDepth 4000 in
theorem vf_X3_numberOf {nn : Nat} (hn : 1000000 ≤ nn) {a0 : Nat} {a1 : Int} {h : ms_M} (hb_a0 : kc_O a0 = 3) (a_a1 : 1 ≤ a1) (b_a1 : a1 ≤ 255) (V_h : VS_ h)  : Ok_ (qf_X3_numberOf nn a0 a1 h) (QP_ (-2147483648) 2147483647) := by
  unfold qf_X3_numberOf
  refine ok_cP (vf_X3_partOf hn hb_a0 (by omega) (by omega) (by omega) (by omega) V_h) ?_; intro u2 e_u2 a_u2 b_u2
  refine ok_i32 ?_; intro v3 a_v3 b_v3
  refine ok_cP (vf_X3_partOf hn hb_a0 (by omega) (by omega) (by omega) (by omega) V_h) ?_; intro u5 e_u5 a_u5 b_u5
  refine ok_i32 ?_; intro v6 a_v6 b_v6
  refine ok_i32 ?_; intro v7 a_v7 b_v7
  refine ok_cP (vf_X3_partOf hn hb_a0 (by omega) (by omega) (by omega) (by omega) V_h) ?_; intro u9 e_u9 a_u9 b_u9
  refine ok_shl8 (by omega) ?_; intro v10 e_v10
  refine ok_i32 ?_; intro v11 a_v11 b_v11
  refine ok_cP (vf_X3_partOf hn hb_a0 (by omega) (by omega) (by omega) (by omega) V_h) ?_; intro u13 e_u13 a_u13 b_u13
  refine ok_i32 ?_; intro v14 a_v14 b_v14
  exact ok_rP (by omega) (by omega)
set_option maxRecDepth 4000 in
theorem vf_X7_linkOf {nn : Nat} (hn : 1000000 ≤ nn) {a1 : Nat} {a2 : Int} {h : ms_M} (i_a1 : kc_O a1 = 3) (a_a2 : 1 ≤ a2) (b_a2 : a2 ≤ 255) (V_h : VS_ h)  : Ok_ (qf_X7_linkOf nn a1 a2 h) (QP_ (-2147483648) 2147483647) := by
  unfold qf_X7_linkOf
  have hb1 : kc_O a1 = 3 := i_a1
  refine ok_ck hb1 ?_
  refine ok_cP (vf_X3_tagOf hn hb1 (by omega) (by omega) V_h) ?_; intro u2 e_u2 a_u2 b_u2
  refine ok_if ?_ ?_
  · intro C0
    refine ok_if ?_ ?_
    · intro C1
      refine ok_if ?_ ?_
      · intro C2
        refine ok_cP (vf_X3_partOf hn hb1 (by omega) (by omega) (by omega) (by omega) V_h) ?_; intro u4 e_u4 a_u4 b_u4
        refine ok_cP (vf_X7_typeOfClass hn hb1 (by omega) (by omega) V_h) ?_; intro u6 e_u6 a_u6 b_u6
        refine ok_cP (vf_X3_partOf hn hb1 (by omega) (by omega) (by omega) (by omega) V_h) ?_; intro u8 e_u8 a_u8 b_u8
        refine ok_cP (vf_X3_textAt hn hb1 (by omega) (by omega) V_h) ?_; intro u10 e_u10 a_u10 b_u10
        refine ok_cP (vf_X3_byteAt hn hb1 (by omega) (by omega) V_h) ?_; intro u12 e_u12 a_u12 b_u12
        refine ok_if ?_ ?_
        · intro C3
          refine ok_cP (vf_X3_partOf hn hb1 (by omega) (by omega) (by omega) (by omega) V_h) ?_; intro u14 e_u14 a_u14 b_u14
          refine ok_cP (vf_X7_fieldOf hn (by omega) (by omega) hb1 (by omega) (by omega) V_h) ?_; intro u16 e_u16 a_u16 b_u16
          refine ok_if ?_ ?_
          · intro C4
            refine ok_div (n := 12) (by omega) ?_; intro v17 e_v17
            refine ok_add (by omega) ?_; intro v18 e_v18
            refine ok_cP (vf_X4_above hn rfl (by omega) (by omega) V_h) ?_; intro u21 e_u21 a_u21 b_u21
            refine ok_cP (vf_X7_cellsAbove hn (by omega) (by omega) V_h) ?_; intro u23 e_u23 a_u23 b_u23
            refine ok_rem (n := 12) (by omega) ?_; intro v24 e_v24
            refine ok_add (by omega) ?_; intro v25 e_v25
            exact ok_rP (by omega) (by omega)
          · intro C4
            exact ok_rP (by omega) (by omega)
        · intro C3
          refine ok_cP (vf_X3_partOf hn hb1 (by omega) (by omega) (by omega) (by omega) V_h) ?_; intro u28 e_u28 a_u28 b_u28
          refine ok_cP (vf_X7_methodOf hn (by omega) (by omega) hb1 (by omega) (by omega) V_h) ?_; intro u30 e_u30 a_u30 b_u30
          exact ok_rP (by omega) (by omega)
      · intro C2
        exact ok_rP (by omega) (by omega)
    · intro C1
      refine ok_cP (vf_X7_typeOfClass hn hb1 (by omega) (by omega) V_h) ?_; intro u34 e_u34 a_u34 b_u34
      exact ok_rP (by omega) (by omega)
  · intro C0
    refine ok_cP (vf_X3_numberOf hn hb1 (by omega) (by omega) V_h) ?_; intro u37 e_u37 a_u37 b_u37
    exact ok_rP (by omega) (by omega)
set_option maxRecDepth 4000 in
theorem vw_X7_linkAll_42 {nn : Nat} (hn : 1000000 ≤ nn) {qkk_32 : Int → ms_M → Option ms_M} {K_kk_32 : Int} (hk_kk_32 : ∀ {l1 : Int} {h : ms_M} (a_l1 : 0 ≤ l1) (b_l1 : l1 ≤ 8) (V_h : VS_ h) (_ : 9 - l1 < K_kk_32), Ok_ (qkk_32 l1 h) QV_) : ∀ (k : Nat) {l1 : Int} {l2 : Int} {h : ms_M} (a_l1 : 0 ≤ l1) (b_l1 : l1 ≤ 7) (a_l2 : 1 ≤ l2) (b_l2 : l2 ≤ 256) (V_h : VS_ h) (hm_kk_32 : 9 - l1 + 0 ≤ K_kk_32) (hm : 257 - l2 < (k : Int)), Ok_ (qw_X7_linkAll_42 nn qkk_32 k l1 l2 h) QV_ := by
  intro k
  induction k with
  | zero => intros; exfalso; omega
  | succ k ih =>
    intro l1 l2 h a_l1 b_l1 a_l2 b_l2 V_h hm_kk_32 hm
    unfold qw_X7_linkAll_42
    refine ok_rd60 V_h (by omega) ?_; intro v2 n_v2 k_v2
    refine ok_ck n_v2 ?_
    have hb1 : kc_O (v2).toNat = 3 := k_v2
    refine ok_ck hb1 ?_
    have T1 := gI_7 V_h hb1
    refine ok_if ?_ ?_
    · intro C1
      refine ok_cV (vf_X7_linkMethods hn (by omega) (by omega) V_h) ?_; intro u6 E_u6 V_u6
      refine ok_add (by omega) ?_; intro v7 e_v7
      exact hk_kk_32 (by omega) (by omega) V_u6 (by omega)
    · intro C1
      refine ok_mul (by omega) ?_; intro v9 e_v9
      refine ok_add (by omega) ?_; intro v10 e_v10
      refine ok_rd60 V_h (by omega) ?_; intro v12 n_v12 k_v12
      refine ok_ck n_v12 ?_
      refine ok_cP (vf_X7_linkOf hn k_v12 (by omega) (by omega) V_h) ?_; intro u15 e_u15 a_u15 b_u15
      refine ok_wA (by omega) ?_; intro h16 E_h16; have V_h16 : VS_ h16 := by rw [E_h16]; exact wA_68 V_h (by omega)
      refine ok_add (by omega) ?_; intro v17 e_v17
      exact ih (by omega) (by omega) (by omega) (by omega) V_h16 (by omega) (by omega)
set_option maxRecDepth 4000 in
theorem vw_X7_linkAll_32 {nn : Nat} (hn : 1000000 ≤ nn) : ∀ (k : Nat) {l1 : Int} {h : ms_M} (a_l1 : 0 ≤ l1) (b_l1 : l1 ≤ 8) (V_h : VS_ h)  (hm : 9 - l1 < (k : Int)), Ok_ (qw_X7_linkAll_32 nn k l1 h) QV_ := by
  intro k
  induction k with
  | zero => intros; exfalso; omega
  | succ k ih =>
    intro l1 h a_l1 b_l1 V_h hm
    unfold qw_X7_linkAll_32
    have T1 := gF_56_3 V_h
    refine ok_if ?_ ?_
    · intro C1
      exact ok_rV V_h
    · intro C1
      exact vw_X7_linkAll_42 hn ih _ (by omega) (by omega) (by omega) (by omega) V_h (by omega) (by omega)
set_option maxRecDepth 4000 in
theorem vw_X7_linkAll_2 {nn : Nat} (hn : 1000000 ≤ nn) : ∀ (k : Nat) {l1 : Int} {h : ms_M} (a_l1 : 0 ≤ l1) (b_l1 : l1 ≤ 16) (V_h : VS_ h)  (hm : 17 - l1 < (k : Int)), Ok_ (qw_X7_linkAll_2 nn k l1 h) QV_ := by
  intro k
  induction k with
  | zero => intros; exfalso; omega
  | succ k ih =>
    intro l1 h a_l1 b_l1 V_h hm
    unfold qw_X7_linkAll_2
    have T1 := gF_56_3 V_h
    refine ok_add (by omega) ?_; intro v22 e_v22
    refine ok_if ?_ ?_
    · intro C1
      exact vw_X7_linkAll_32 hn _ (by omega) (by omega) V_h (by omega)
    · intro C1
      refine ok_cP (vf_X7_cellsAbove hn (by omega) (by omega) V_h) ?_; intro u25 e_u25 a_u25 b_u25
      refine ok_wA (by omega) ?_; intro h26 E_h26; have V_h26 : VS_ h26 := by rw [E_h26]; exact wA_69 V_h (by omega)
      refine ok_add (by omega) ?_; intro v27 e_v27
      exact ih (by omega) (by omega) V_h26 (by omega)
set_option maxRecDepth 4000 in
theorem vf_X7_linkAll {nn : Nat} (hn : 1000000 ≤ nn) {h : ms_M} (V_h : VS_ h)  : Ok_ (qf_X7_linkAll nn h) QV_ := by
  unfold qf_X7_linkAll
  exact vw_X7_linkAll_2 hn _ (by omega) (by omega) V_h (by omega)
set_option maxRecDepth 4000 in
theorem vf_X12_where {nn : Nat} (hn : 1000000 ≤ nn) {a1 : Int} {h : ms_M} (a_a1 : (-2147483648) ≤ a1) (b_a1 : a1 ≤ 2147483647) (V_h : VS_ h)  : Ok_ (qf_X12_where nn a1 h) (QP_ (-1) 65534) := by
  unfold qf_X12_where
  refine ok_if ?_ ?_
  · intro C0
    have T2 := gF_127_2 V_h
    exact ok_rP (by omega) (by omega)
  · intro C0
    refine ok_if ?_ ?_
    · intro C2
      have T4 := gF_127_3 V_h
      exact ok_rP (by omega) (by omega)
    · intro C2
      refine ok_if ?_ ?_
      · intro C4
        have T6 := gF_127_4 V_h
        exact ok_rP (by omega) (by omega)
      · intro C4
        exact ok_rP (by omega) (by omega)
