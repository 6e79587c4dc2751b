set_option maxRecDepth 4000 in
theorem sf_X5_forget (nn : Nat) {h : ms_M} (hM_h : Rg_M h) : Sm_ RV_ (f_X5_forget nn 143 (H_M h)) (qf_X5_forget nn h) := by
  unfold f_X5_forget qf_X5_forget
  refine sm_pv hM_h rfl rfl ?_; intro h1 hM_h1
  refine sm_pv hM_h1 rfl rfl ?_; intro h2 hM_h2
  refine sm_pv hM_h2 rfl rfl ?_; intro h3 hM_h3
  refine sm_pv hM_h3 rfl rfl ?_; intro h4 hM_h4
  refine sm_pv hM_h4 rfl rfl ?_; intro h5 hM_h5
  refine sm_pv hM_h5 rfl rfl ?_; intro h6 hM_h6
  refine sm_pv hM_h6 rfl rfl ?_; intro h7 hM_h7
  exact sm_rV hM_h7
set_option maxRecDepth 4000 in
theorem sw_J7_fill_53178_5 (nn : Nat) : ∀ (k : Nat) (l0 : Nat) {l1 : Int32} {y_l1 : Int} (e_l1 : l1.toInt = y_l1) {l2 : Int32} {y_l2 : Int} (e_l2 : l2.toInt = y_l2) {l3 : Int32} {y_l3 : Int} (e_l3 : l3.toInt = y_l3) {h : ms_M} (hM_h : Rg_M h), Sm_ RV_ (w_J7_fill_53178_5 nn k l0 l1 l2 l3 (H_M h)) (qw_J7_fill_53178_5 nn k l0 y_l1 y_l2 y_l3 h) := by
  intro k
  induction k with
  | zero => intros; exact sm_no
  | succ k ih =>
    intro l0 l1 y_l1 e_l1 l2 y_l2 e_l2 l3 y_l3 e_l3 h hM_h
    unfold w_J7_fill_53178_5 qw_J7_fill_53178_5
    refine sm_le e_l3 e_l2 ?_ ?_
    · exact sm_rV hM_h
    · refine sm_siS hM_h  e_l2 e_l1 ?_; intro h1 hM_h1
      refine sm_oq_add e_l2 rfl ?_; intro v2 y_v2 e_v2
      exact ih _ e_l1 e_v2 e_l3 hM_h1
set_option maxRecDepth 4000 in
theorem sf_J7_fill_53178 (nn : Nat) (a0 : Nat) {a1 : Int32} {y_a1 : Int} (e_a1 : a1.toInt = y_a1) {h : ms_M} (hM_h : Rg_M h) : Sm_ RV_ (f_J7_fill_53178 nn a0 a1 (H_M h)) (qf_J7_fill_53178 nn a0 y_a1 h) := by
  unfold f_J7_fill_53178 qf_J7_fill_53178
  refine sm_lnS hM_h ?_; intro v4 y_v4 e_v4
  exact sw_J7_fill_53178_5 nn nn _ e_a1 rfl e_v4 hM_h
set_option maxRecDepth 4000 in
theorem sw_X4_settle_38 (nn : Nat) {kk_2 : Nat → Int32 → mx_H → Option mx_H} {qkk_2 : Nat → Int → ms_M → Option ms_M} (hk_kk_2 : ∀ (l0 : Nat) (hb_l0 : kc_O l0 = 4) {l1 : Int32} {y_l1 : Int} (e_l1 : l1.toInt = y_l1) {h : ms_M} (hM_h : Rg_M h), Sm_ RV_ (kk_2 l0 l1 (H_M h)) (qkk_2 l0 y_l1 h)) : ∀ (k : Nat) (l0 : Nat) (hb_l0 : kc_O l0 = 4) {l1 : Int32} {y_l1 : Int} (e_l1 : l1.toInt = y_l1) {l2 : Int32} {y_l2 : Int} (e_l2 : l2.toInt = y_l2) {l3 : Int32} {y_l3 : Int} (e_l3 : l3.toInt = y_l3) {h : ms_M} (hM_h : Rg_M h), Sm_ RV_ (w_X4_settle_38 nn kk_2 k l0 l1 l2 l3 (H_M h)) (qw_X4_settle_38 nn qkk_2 k l0 y_l1 y_l2 y_l3 h) := by
  intro k
  induction k with
  | zero => intros; exact sm_no
  | succ k ih =>
    intro l0 hb_l0 l1 y_l1 e_l1 l2 y_l2 e_l2 l3 y_l3 e_l3 h hM_h
    unfold w_X4_settle_38 qw_X4_settle_38
    refine sm_le rfl e_l3 ?_ ?_
    · refine sm_oq_add e_l1 rfl ?_; intro v1 y_v1 e_v1
      exact hk_kk_2 _ hb_l0 e_v1 hM_h
    · refine sm_lt e_l2 rfl ?_ ?_
      · refine sm_oq_add e_l1 rfl ?_; intro v2 y_v2 e_v2
        exact hk_kk_2 _ hb_l0 e_v2 hM_h
      · refine sm_le rfl e_l2 ?_ ?_
        · refine sm_oq_add e_l1 rfl ?_; intro v3 y_v3 e_v3
          exact hk_kk_2 _ hb_l0 e_v3 hM_h
        · refine sm_grK hM_h hb_l0 (off := 2) rfl ?_
          refine sm_oq_mul e_l1 rfl ?_; intro v5 y_v5 e_v5
          refine sm_oq_add e_v5 e_l2 ?_; intro v6 y_v6 e_v6
          refine sm_szK hM_h hb_l0 rfl e_v6 rfl ?_; intro h7 hM_h7
          refine sm_grK hM_h7 hb_l0 (off := 1) rfl ?_
          refine sm_aiK hM_h7 hb_l0 rfl e_l2 ?_; intro v9 y_v9 e_v9
          refine sm_oq_add e_l3 rfl ?_; intro v10 y_v10 e_v10
          exact ih _ hb_l0 e_l1 e_v9 e_v10 hM_h7
set_option maxRecDepth 4000 in
theorem sw_X4_settle_10 (nn : Nat) {kk_2 : Nat → Int32 → mx_H → Option mx_H} {qkk_2 : Nat → Int → ms_M → Option ms_M} (hk_kk_2 : ∀ (l0 : Nat) (hb_l0 : kc_O l0 = 4) {l1 : Int32} {y_l1 : Int} (e_l1 : l1.toInt = y_l1) {h : ms_M} (hM_h : Rg_M h), Sm_ RV_ (kk_2 l0 l1 (H_M h)) (qkk_2 l0 y_l1 h)) : ∀ (k : Nat) (l0 : Nat) (hb_l0 : kc_O l0 = 4) {l1 : Int32} {y_l1 : Int} (e_l1 : l1.toInt = y_l1) {l2 : Int32} {y_l2 : Int} (e_l2 : l2.toInt = y_l2) {h : ms_M} (hM_h : Rg_M h), Sm_ RV_ (w_X4_settle_10 nn kk_2 k l0 l1 l2 (H_M h)) (qw_X4_settle_10 nn qkk_2 k l0 y_l1 y_l2 h) := by
  intro k
  induction k with
  | zero => intros; exact sm_no
  | succ k ih =>
    intro l0 hb_l0 l1 y_l1 e_l1 l2 y_l2 e_l2 h hM_h
    unfold w_X4_settle_10 qw_X4_settle_10
    refine sm_le rfl e_l2 ?_ ?_
    · exact sw_X4_settle_38 nn hk_kk_2 nn _ hb_l0 e_l1 e_l1 rfl hM_h
    · refine sm_grK hM_h hb_l0 (off := 2) rfl ?_
      refine sm_oq_mul e_l1 rfl ?_; intro v15 y_v15 e_v15
      refine sm_oq_add e_v15 e_l2 ?_; intro v16 y_v16 e_v16
      refine sm_szK hM_h hb_l0 rfl e_v16 rfl ?_; intro h17 hM_h17
      refine sm_oq_add e_l2 rfl ?_; intro v18 y_v18 e_v18
      exact ih _ hb_l0 e_l1 e_v18 hM_h17
set_option maxRecDepth 4000 in
theorem sw_X4_settle_2 (nn : Nat) : ∀ (k : Nat) (l0 : Nat) (hb_l0 : kc_O l0 = 4) {l1 : Int32} {y_l1 : Int} (e_l1 : l1.toInt = y_l1) {h : ms_M} (hM_h : Rg_M h), Sm_ RV_ (w_X4_settle_2 nn k l0 l1 (H_M h)) (qw_X4_settle_2 nn k l0 y_l1 h) := by
  intro k
  induction k with
  | zero => intros; exact sm_no
  | succ k ih =>
    intro l0 hb_l0 l1 y_l1 e_l1 h hM_h
    unfold w_X4_settle_2 qw_X4_settle_2
    refine sm_le rfl e_l1 ?_ ?_
    · exact sm_rV hM_h
    · exact sw_X4_settle_10 nn ih nn _ hb_l0 e_l1 rfl hM_h
set_option maxRecDepth 4000 in
theorem sf_X4_settle (nn : Nat) (a0 : Nat) (hb_a0 : kc_O a0 = 4) {h : ms_M} (hM_h : Rg_M h) : Sm_ RV_ (f_X4_settle nn a0 (H_M h)) (qf_X4_settle nn a0 h) := by
  unfold f_X4_settle qf_X4_settle
  exact sw_X4_settle_2 nn nn _ hb_a0 rfl hM_h
set_option maxRecDepth 4000 in
theorem sw_X4_forget_10 (nn : Nat) : ∀ (k : Nat) (l0 : Nat) (hb_l0 : kc_O l0 = 4) {l1 : Int32} {y_l1 : Int} (e_l1 : l1.toInt = y_l1) {h : ms_M} (hM_h : Rg_M h), Sm_ RV_ (w_X4_forget_10 nn k l0 l1 (H_M h)) (qw_X4_forget_10 nn k l0 y_l1 h) := by
  intro k
  induction k with
  | zero => intros; exact sm_no
  | succ k ih =>
    intro l0 hb_l0 l1 y_l1 e_l1 h hM_h
    unfold w_X4_forget_10 qw_X4_forget_10
    refine sm_le rfl e_l1 ?_ ?_
    · refine sm_isK hM_h hb_l0 ?_
      refine sm_cV (sf_X4_settle nn _ hb_l0 hM_h) ?_; intro u2 hM_u2
      exact sm_rV hM_u2
    · refine sm_grK hM_h hb_l0 (off := 1) rfl ?_
      refine sm_ne e_l1 rfl ?_ ?_
      · refine sm_siK hM_h hb_l0 rfl e_l1 rfl ?_; intro h4 hM_h4
        refine sm_oq_add e_l1 rfl ?_; intro v5 y_v5 e_v5
        exact ih _ hb_l0 e_v5 hM_h4
      · refine sm_siK hM_h hb_l0 rfl e_l1 rfl ?_; intro h6 hM_h6
        refine sm_oq_add e_l1 rfl ?_; intro v7 y_v7 e_v7
        exact ih _ hb_l0 e_v7 hM_h6
set_option maxRecDepth 4000 in
theorem sf_X4_forget (nn : Nat) (a0 : Nat) (hb_a0 : kc_O a0 = 4) {h : ms_M} (hM_h : Rg_M h) : Sm_ RV_ (f_X4_forget nn a0 (H_M h)) (qf_X4_forget nn a0 h) := by
  unfold f_X4_forget qf_X4_forget
  refine sm_grK hM_h hb_a0 (off := 1) rfl ?_
  refine sm_cV (sf_J7_fill_53178 nn _ rfl hM_h) ?_; intro u11 hM_u11
  exact sw_X4_forget_10 nn nn _ hb_a0 rfl hM_u11
set_option maxRecDepth 4000 in
theorem sf_X7_forget (nn : Nat) {h : ms_M} (hM_h : Rg_M h) : Sm_ RV_ (f_X7_forget nn 56 (H_M h)) (qf_X7_forget nn h) := by
  unfold f_X7_forget qf_X7_forget
  refine sm_pv hM_h rfl rfl ?_; intro h1 hM_h1
  refine sm_pv hM_h1 rfl rfl ?_; intro h2 hM_h2
  refine sm_gr hM_h2 (d := 57) rfl ?_
  refine sm_is hM_h2 rfl ?_
  refine sm_cV (sf_X4_forget nn _ rfl hM_h2) ?_; intro u5 hM_u5
  exact sm_rV hM_u5
set_option maxRecDepth 4000 in
theorem sf_X12_clear (nn : Nat) {h : ms_M} (hM_h : Rg_M h) : Sm_ RV_ (f_X12_clear nn 0 (H_M h)) (qf_X12_clear nn h) := by
  unfold f_X12_clear qf_X12_clear
  refine sm_gr hM_h (d := 56) rfl ?_
  refine sm_is hM_h rfl ?_
  refine sm_cV (sf_X7_forget nn hM_h) ?_; intro u3 hM_u3
  refine sm_gr hM_u3 (d := 143) rfl ?_
  refine sm_is hM_u3 rfl ?_
  refine sm_cV (sf_X5_forget nn hM_u3) ?_; intro u6 hM_u6
  exact sm_rV hM_u6
set_option maxRecDepth 4000 in
theorem sf_X2_isOwn (nn : Nat) {a0 : Int32} {y_a0 : Int} (e_a0 : a0.toInt = y_a0) {h : ms_M} (hM_h : Rg_M h) : Sm_ (RP_ h) (f_X2_isOwn nn a0 (H_M h)) (qf_X2_isOwn nn y_a0 h) := by
  unfold f_X2_isOwn qf_X2_isOwn
  refine sm_lt e_a0 rfl ?_ ?_
  · exact sm_rP rfl
  · refine sm_le rfl e_a0 ?_ ?_
    · exact sm_rP rfl
    · exact sm_rP rfl
set_option maxRecDepth 4000 in
theorem sf_X2_fieldsOf (nn : Nat) {a1 : Int32} {y_a1 : Int} (e_a1 : a1.toInt = y_a1) {h : ms_M} (hM_h : Rg_M h) : Sm_ (RP_ h) (f_X2_fieldsOf nn 11 a1 (H_M h)) (qf_X2_fieldsOf nn y_a1 h) := by
  unfold f_X2_fieldsOf qf_X2_fieldsOf
  refine sm_oq_add rfl e_a1 ?_; intro v1 y_v1 e_v1
  refine sm_cP (sf_X2_isOwn nn e_v1 hM_h) ?_; intro u2 y_u2 e_u2
  refine sm_eq e_u2 rfl ?_ ?_
  · exact sm_rP rfl
  · refine sm_gr hM_h (d := 17) rfl ?_
    refine sm_ai hM_h rfl e_a1 ?_; intro v4 y_v4 e_v4
    exact sm_rP e_v4
set_option maxRecDepth 4000 in
theorem sf_X2_kindOfField (nn : Nat) {a1 : Int32} {y_a1 : Int} (e_a1 : a1.toInt = y_a1) {h : ms_M} (hM_h : Rg_M h) : Sm_ (RP_ h) (f_X2_kindOfField nn 11 a1 (H_M h)) (qf_X2_kindOfField nn y_a1 h) := by
  unfold f_X2_kindOfField qf_X2_kindOfField
  refine sm_lt e_a1 rfl ?_ ?_
  · exact sm_rP rfl
  · refine sm_gr hM_h (d := 20) rfl ?_
    refine sm_ln hM_h (z := 96) rfl ?_; intro v2 e_v2
    refine sm_le e_v2 e_a1 ?_ ?_
    · exact sm_rP rfl
    · refine sm_gr hM_h (d := 20) rfl ?_
      refine sm_ai hM_h rfl e_a1 ?_; intro v4 y_v4 e_v4
      exact sm_rP e_v4
set_option maxRecDepth 4000 in
theorem sf_X2_methodsOf (nn : Nat) {a1 : Int32} {y_a1 : Int} (e_a1 : a1.toInt = y_a1) {h : ms_M} (hM_h : Rg_M h) : Sm_ (RP_ h) (f_X2_methodsOf nn 11 a1 (H_M h)) (qf_X2_methodsOf nn y_a1 h) := by
  unfold f_X2_methodsOf qf_X2_methodsOf
  refine sm_oq_add rfl e_a1 ?_; intro v1 y_v1 e_v1
  refine sm_cP (sf_X2_isOwn nn e_v1 hM_h) ?_; intro u2 y_u2 e_u2
  refine sm_eq e_u2 rfl ?_ ?_
  · exact sm_rP rfl
  · refine sm_gr hM_h (d := 21) rfl ?_
    refine sm_ai hM_h rfl e_a1 ?_; intro v4 y_v4 e_v4
    exact sm_rP e_v4
set_option maxRecDepth 4000 in
theorem sf_X2_nameOfField (nn : Nat) {a1 : Int32} {y_a1 : Int} (e_a1 : a1.toInt = y_a1) {h : ms_M} (hM_h : Rg_M h) : Sm_ (RP_ h) (f_X2_nameOfField nn 11 a1 (H_M h)) (qf_X2_nameOfField nn y_a1 h) := by
  unfold f_X2_nameOfField qf_X2_nameOfField
  refine sm_lt e_a1 rfl ?_ ?_
  · exact sm_rP rfl
  · refine sm_gr hM_h (d := 18) rfl ?_
    refine sm_ln hM_h (z := 96) rfl ?_; intro v2 e_v2
    refine sm_le e_v2 e_a1 ?_ ?_
    · exact sm_rP rfl
    · refine sm_gr hM_h (d := 18) rfl ?_
      refine sm_ai hM_h rfl e_a1 ?_; intro v4 y_v4 e_v4
      exact sm_rP e_v4
set_option maxRecDepth 4000 in
theorem sf_X4_isClass (nn : Nat) {a0 : Int32} {y_a0 : Int} (e_a0 : a0.toInt = y_a0) {h : ms_M} (hM_h : Rg_M h) : Sm_ (RP_ h) (f_X4_isClass nn a0 (H_M h)) (qf_X4_isClass nn y_a0 h) := by
  unfold f_X4_isClass qf_X4_isClass
  refine sm_lt e_a0 rfl ?_ ?_
  · exact sm_rP rfl
  · refine sm_le rfl e_a0 ?_ ?_
    · exact sm_rP rfl
    · exact sm_rP rfl
set_option maxRecDepth 4000 in
theorem sf_X4_above (nn : Nat) (a0 : Nat) (hb_a0 : kc_O a0 = 4) {a1 : Int32} {y_a1 : Int} (e_a1 : a1.toInt = y_a1) {h : ms_M} (hM_h : Rg_M h) : Sm_ (RP_ h) (f_X4_above nn a0 a1 (H_M h)) (qf_X4_above nn a0 y_a1 h) := by
  unfold f_X4_above qf_X4_above
  refine sm_cP (sf_X4_isClass nn e_a1 hM_h) ?_; intro u1 y_u1 e_u1
  refine sm_eq e_u1 rfl ?_ ?_
  · exact sm_rP rfl
  · refine sm_grK hM_h hb_a0 (off := 1) rfl ?_
    refine sm_aiK hM_h hb_a0 rfl e_a1 ?_; intro v3 y_v3 e_v3
    exact sm_rP e_v3
set_option maxRecDepth 4000 in
theorem sj_X2_nameOfType_34 (nn : Nat) {l1 : Int32} {y_l1 : Int} (e_l1 : l1.toInt = y_l1) {s0 : Int32} {y_s0 : Int} (e_s0 : s0.toInt = y_s0) {h : ms_M} (hM_h : Rg_M h) : Sm_ (RP_ h) (j_X2_nameOfType_34 nn 11 l1 s0 (H_M h)) (qj_X2_nameOfType_34 nn y_l1 y_s0 h) := by
  unfold j_X2_nameOfType_34 qj_X2_nameOfType_34
  refine sm_eq e_s0 rfl ?_ ?_
  · exact sm_rP rfl
  · refine sm_gr hM_h (d := 30) rfl ?_
    refine sm_oq_add rfl e_l1 ?_; intro v2 y_v2 e_v2
    refine sm_oq_sub e_v2 rfl ?_; intro v3 y_v3 e_v3
    refine sm_ai hM_h rfl e_v3 ?_; intro v4 y_v4 e_v4
    exact sm_rP e_v4
set_option maxRecDepth 4000 in
theorem sj_X2_nameOfType_33 (nn : Nat) {l1 : Int32} {y_l1 : Int} (e_l1 : l1.toInt = y_l1) {h : ms_M} (hM_h : Rg_M h) : Sm_ (RP_ h) (j_X2_nameOfType_33 nn 11 l1 (H_M h)) (qj_X2_nameOfType_33 nn y_l1 h) := by
  unfold j_X2_nameOfType_33 qj_X2_nameOfType_33
  exact sj_X2_nameOfType_34 nn e_l1 rfl hM_h
set_option maxRecDepth 4000 in
theorem sj_X2_nameOfType_17 (nn : Nat) {l1 : Int32} {y_l1 : Int} (e_l1 : l1.toInt = y_l1) {h : ms_M} (hM_h : Rg_M h) : Sm_ (RP_ h) (j_X2_nameOfType_17 nn 11 l1 (H_M h)) (qj_X2_nameOfType_17 nn y_l1 h) := by
  unfold j_X2_nameOfType_17 qj_X2_nameOfType_17
  refine sm_lt e_l1 rfl ?_ ?_
  · exact sj_X2_nameOfType_33 nn e_l1 hM_h
  · refine sm_le rfl e_l1 ?_ ?_
    · exact sj_X2_nameOfType_33 nn e_l1 hM_h
    · exact sj_X2_nameOfType_34 nn e_l1 rfl hM_h
set_option maxRecDepth 4000 in
theorem sf_X2_nameOfType (nn : Nat) {a1 : Int32} {y_a1 : Int} (e_a1 : a1.toInt = y_a1) {h : ms_M} (hM_h : Rg_M h) : Sm_ (RP_ h) (f_X2_nameOfType nn 11 a1 (H_M h)) (qf_X2_nameOfType nn y_a1 h) := by
  unfold f_X2_nameOfType qf_X2_nameOfType
  refine sm_lt e_a1 rfl ?_ ?_
  · exact sj_X2_nameOfType_17 nn e_a1 hM_h
  · refine sm_le rfl e_a1 ?_ ?_
    · exact sj_X2_nameOfType_17 nn e_a1 hM_h
    · refine sm_gr hM_h (d := 30) rfl ?_
      refine sm_ai hM_h rfl e_a1 ?_; intro v9 y_v9 e_v9
      exact sm_rP e_v9
set_option maxRecDepth 4000 in
theorem sw_X6_constant_2 (nn : Nat) : ∀ (k : Nat) {l1 : Int32} {y_l1 : Int} (e_l1 : l1.toInt = y_l1) {l2 : Int32} {y_l2 : Int} (e_l2 : l2.toInt = y_l2) {l3 : Int32} {y_l3 : Int} (e_l3 : l3.toInt = y_l3) {h : ms_M} (hM_h : Rg_M h), Sm_ RI_ (w_X6_constant_2 nn k 45 l1 l2 l3 (H_M h)) (qw_X6_constant_2 nn k y_l1 y_l2 y_l3 h) := by
  intro k
  induction k with
  | zero => intros; exact sm_no
  | succ k ih =>
    intro l1 y_l1 e_l1 l2 y_l2 e_l2 l3 y_l3 e_l3 h hM_h
    unfold w_X6_constant_2 qw_X6_constant_2
    refine sm_gi hM_h rfl ?_; intro v1 e_v1
    refine sm_lt e_v1 e_l3 ?_ ?_
    · refine sm_gi hM_h rfl ?_; intro v2 e_v2
      refine sm_lt e_v2 rfl ?_ ?_
      · refine sm_gi hM_h rfl ?_; intro v3 e_v3
        refine sm_oq_add e_v3 rfl ?_; intro v4 y_v4 e_v4
        refine sm_pv hM_h rfl e_v4 ?_; intro h5 hM_h5
        refine sm_gr hM_h5 (d := 46) rfl ?_
        refine sm_gi hM_h5 rfl ?_; intro v7 e_v7
        refine sm_si hM_h5 rfl e_v7 e_l1 ?_; intro h8 hM_h8
        refine sm_gr hM_h8 (d := 47) rfl ?_
        refine sm_gi hM_h8 rfl ?_; intro v10 e_v10
        refine sm_si hM_h8 rfl e_v10 e_l2 ?_; intro h11 hM_h11
        refine sm_gi hM_h11 rfl ?_; intro v12 e_v12
        exact sm_rI e_v12 hM_h11
      · refine sm_pv hM_h rfl rfl ?_; intro h13 hM_h13
        exact sm_rI rfl hM_h13
    · refine sm_gr hM_h (d := 46) rfl ?_
      refine sm_ai hM_h rfl e_l3 ?_; intro v16 y_v16 e_v16
      refine sm_ne e_v16 e_l1 ?_ ?_
      · refine sm_oq_add e_l3 rfl ?_; intro v17 y_v17 e_v17
        exact ih e_l1 e_l2 e_v17 hM_h
      · refine sm_gr hM_h (d := 47) rfl ?_
        refine sm_ai hM_h rfl e_l3 ?_; intro v19 y_v19 e_v19
        refine sm_ne e_v19 e_l2 ?_ ?_
        · refine sm_oq_add e_l3 rfl ?_; intro v20 y_v20 e_v20
          exact ih e_l1 e_l2 e_v20 hM_h
        · exact sm_rI e_l3 hM_h
set_option maxRecDepth 4000 in
theorem sf_X6_constant (nn : Nat) {a1 : Int32} {y_a1 : Int} (e_a1 : a1.toInt = y_a1) {a2 : Int32} {y_a2 : Int} (e_a2 : a2.toInt = y_a2) {h : ms_M} (hM_h : Rg_M h) : Sm_ RI_ (f_X6_constant nn 45 a1 a2 (H_M h)) (qf_X6_constant nn y_a1 y_a2 h) := by
  unfold f_X6_constant qf_X6_constant
  exact sw_X6_constant_2 nn nn e_a1 e_a2 rfl hM_h
set_option maxRecDepth 4000 in
theorem sf_X6_classOf (nn : Nat) {a1 : Int32} {y_a1 : Int} (e_a1 : a1.toInt = y_a1) {h : ms_M} (hM_h : Rg_M h) : Sm_ RI_ (f_X6_classOf nn 45 a1 (H_M h)) (qf_X6_classOf nn y_a1 h) := by
  unfold f_X6_classOf qf_X6_classOf
  refine sm_gr hM_h (d := 11) rfl ?_
  refine sm_is hM_h rfl ?_
  refine sm_cP (sf_X2_nameOfType nn e_a1 hM_h) ?_; intro u3 y_u3 e_u3
  refine sm_is hM_h rfl ?_
  refine sm_cI (sf_X6_constant nn rfl e_u3 hM_h) ?_; intro u5 y_u5 M_u5 e_u5 hM_u5
  refine sm_is hM_u5 rfl ?_
  refine sm_cI (sf_X6_constant nn rfl e_u5 hM_u5) ?_; intro u7 y_u7 M_u7 e_u7 hM_u7
  exact sm_rI e_u7 hM_u7
set_option maxRecDepth 4000 in
theorem sj_X6_put_23 (nn : Nat) {h : ms_M} (hM_h : Rg_M h) : Sm_ RV_ (j_X6_put_23 nn 45 (H_M h)) (qj_X6_put_23 nn h) := by
  unfold j_X6_put_23 qj_X6_put_23
  refine sm_gi hM_h rfl ?_; intro v1 e_v1
  refine sm_oq_add e_v1 rfl ?_; intro v2 y_v2 e_v2
  refine sm_pv hM_h rfl e_v2 ?_; intro h3 hM_h3
  exact sm_rV hM_h3
set_option maxRecDepth 4000 in
theorem sf_X6_put (nn : Nat) {a1 : Int32} {y_a1 : Int} (e_a1 : a1.toInt = y_a1) {h : ms_M} (hM_h : Rg_M h) : Sm_ RV_ (f_X6_put nn 45 a1 (H_M h)) (qf_X6_put nn y_a1 h) := by
  unfold f_X6_put qf_X6_put
  refine sm_gi hM_h rfl ?_; intro v4 e_v4
  refine sm_gr hM_h (d := 48) rfl ?_
  refine sm_ln hM_h (z := 6000) rfl ?_; intro v6 e_v6
  refine sm_le e_v6 e_v4 ?_ ?_
  · exact sj_X6_put_23 nn hM_h
  · refine sm_gr hM_h (d := 48) rfl ?_
    refine sm_gi hM_h rfl ?_; intro v8 e_v8
    refine sm_oq_b e_a1 ?_; intro v9 y_v9 e_v9
    refine sm_sb hM_h rfl e_v8 e_v9 ?_; intro h10 hM_h10
    exact sj_X6_put_23 nn hM_h10
set_option maxRecDepth 4000 in
theorem sw_X6_beginClass_62 (nn : Nat) : ∀ (k : Nat) {l1 : Int32} {y_l1 : Int} (e_l1 : l1.toInt = y_l1) {l3 : Int32} {y_l3 : Int} (e_l3 : l3.toInt = y_l3) {h : ms_M} (hM_h : Rg_M h), Sm_ RV_ (w_X6_beginClass_62 nn k 45 l1 l3 (H_M h)) (qw_X6_beginClass_62 nn k y_l1 y_l3 h) := by
  intro k
  induction k with
  | zero => intros; exact sm_no
  | succ k ih =>
    intro l1 y_l1 e_l1 l3 y_l3 e_l3 h hM_h
    unfold w_X6_beginClass_62 qw_X6_beginClass_62
    refine sm_gr hM_h (d := 11) rfl ?_
    refine sm_is hM_h rfl ?_
    refine sm_cP (sf_X2_fieldsOf nn e_l1 hM_h) ?_; intro u3 y_u3 e_u3
    refine sm_le e_u3 e_l3 ?_ ?_
    · refine sm_gr hM_h (d := 11) rfl ?_
      refine sm_is hM_h rfl ?_
      refine sm_cP (sf_X2_methodsOf nn e_l1 hM_h) ?_; intro u6 y_u6 e_u6
      refine sm_is hM_h rfl ?_
      refine sm_cV (sf_X6_put nn e_u6 hM_h) ?_; intro u8 hM_u8
      exact sm_rV hM_u8
    · refine sm_oq_mul e_l1 rfl ?_; intro v9 y_v9 e_v9
      refine sm_oq_add e_v9 e_l3 ?_; intro v10 y_v10 e_v10
      refine sm_gr hM_h (d := 11) rfl ?_
      refine sm_is hM_h rfl ?_
      refine sm_cP (sf_X2_nameOfField nn e_v10 hM_h) ?_; intro u13 y_u13 e_u13
      refine sm_is hM_h rfl ?_
      refine sm_cI (sf_X6_constant nn rfl e_u13 hM_h) ?_; intro u15 y_u15 M_u15 e_u15 hM_u15
      refine sm_is hM_u15 rfl ?_
      refine sm_cV (sf_X6_put nn e_u15 hM_u15) ?_; intro u17 hM_u17
      refine sm_gr hM_u17 (d := 11) rfl ?_
      refine sm_is hM_u17 rfl ?_
      refine sm_cP (sf_X2_kindOfField nn e_v10 hM_u17) ?_; intro u20 y_u20 e_u20
      refine sm_is hM_u17 rfl ?_
      refine sm_cI (sf_X6_constant nn rfl e_u20 hM_u17) ?_; intro u22 y_u22 M_u22 e_u22 hM_u22
      refine sm_is hM_u22 rfl ?_
      refine sm_cV (sf_X6_put nn e_u22 hM_u22) ?_; intro u24 hM_u24
      refine sm_oq_add e_l3 rfl ?_; intro v25 y_v25 e_v25
      exact ih e_l1 e_v25 hM_u24
set_option maxRecDepth 4000 in
theorem sf_X6_beginClass (nn : Nat) {a1 : Int32} {y_a1 : Int} (e_a1 : a1.toInt = y_a1) {h : ms_M} (hM_h : Rg_M h) : Sm_ RV_ (f_X6_beginClass nn 45 a1 (H_M h)) (qf_X6_beginClass nn y_a1 h) := by
  unfold f_X6_beginClass qf_X6_beginClass
  refine sm_pv hM_h rfl rfl ?_; intro h27 hM_h27
  refine sm_pv hM_h27 rfl rfl ?_; intro h28 hM_h28
  refine sm_pv hM_h28 rfl rfl ?_; intro h29 hM_h29
  refine sm_oq_add rfl e_a1 ?_; intro v30 y_v30 e_v30
  refine sm_is hM_h29 rfl ?_
  refine sm_cI (sf_X6_classOf nn e_v30 hM_h29) ?_; intro u32 y_u32 M_u32 e_u32 hM_u32
  refine sm_is hM_u32 rfl ?_
  refine sm_cV (sf_X6_put nn e_u32 hM_u32) ?_; intro u34 hM_u34
  refine sm_gr hM_u34 (d := 11) rfl ?_
  refine sm_gr hM_u34 (d := 12) rfl ?_
  refine sm_is hM_u34 rfl ?_
  refine sm_cP (sf_X4_above nn _ rfl e_v30 hM_u34) ?_; intro u38 y_u38 e_u38
  refine sm_is hM_u34 rfl ?_
  refine sm_cI (sf_X6_classOf nn e_u38 hM_u34) ?_; intro u40 y_u40 M_u40 e_u40 hM_u40
  refine sm_is hM_u40 rfl ?_
  refine sm_cV (sf_X6_put nn e_u40 hM_u40) ?_; intro u42 hM_u42
  refine sm_gr hM_u42 (d := 11) rfl ?_
  refine sm_is hM_u42 rfl ?_
  refine sm_cP (sf_X2_fieldsOf nn e_a1 hM_u42) ?_; intro u45 y_u45 e_u45
  refine sm_is hM_u42 rfl ?_
  refine sm_cV (sf_X6_put nn e_u45 hM_u42) ?_; intro u47 hM_u47
  exact sw_X6_beginClass_62 nn nn e_a1 rfl hM_u47
set_option maxRecDepth 4000 in
theorem sf_X0_beginClass (nn : Nat) {a1 : Int32} {y_a1 : Int} (e_a1 : a1.toInt = y_a1) {h : ms_M} (hM_h : Rg_M h) : Sm_ RV_ (f_X0_beginClass nn 33 a1 (H_M h)) (qf_X0_beginClass nn y_a1 h) := by
  unfold f_X0_beginClass qf_X0_beginClass
  refine sm_gr hM_h (d := 45) rfl ?_
  refine sm_is hM_h rfl ?_
  refine sm_cV (sf_X6_beginClass nn e_a1 hM_h) ?_; intro u3 hM_u3
  exact sm_rV hM_u3
set_option maxRecDepth 4000 in
theorem sf_X0_beginProgram (nn : Nat) {h : ms_M} (hM_h : Rg_M h) : Sm_ RV_ (f_X0_beginProgram nn 33 (H_M h)) (qf_X0_beginProgram nn h) := by
  unfold f_X0_beginProgram qf_X0_beginProgram
  refine sm_pv hM_h rfl rfl ?_; intro h1 hM_h1
  exact sm_rV hM_h1
set_option maxRecDepth 4000 in
theorem sf_X0_noteMuch (nn : Nat) {a1 : Int32} {y_a1 : Int} (e_a1 : a1.toInt = y_a1) {a2 : Int32} {y_a2 : Int} (e_a2 : a2.toInt = y_a2) {h : ms_M} (hM_h : Rg_M h) : Sm_ RV_ (f_X0_noteMuch nn 33 a1 a2 (H_M h)) (qf_X0_noteMuch nn y_a1 y_a2 h) := by
  unfold f_X0_noteMuch qf_X0_noteMuch
  refine sm_eq e_a1 rfl ?_ ?_
  · exact sm_rV hM_h
  · refine sm_gi hM_h rfl ?_; intro v1 e_v1
    refine sm_ne e_v1 rfl ?_ ?_
    · exact sm_rV hM_h
    · refine sm_pv hM_h rfl e_a2 ?_; intro h2 hM_h2
      exact sm_rV hM_h2
set_option maxRecDepth 4000 in
theorem sf_X2_tokenOfClass (nn : Nat) {a1 : Int32} {y_a1 : Int} (e_a1 : a1.toInt = y_a1) {h : ms_M} (hM_h : Rg_M h) : Sm_ (RP_ h) (f_X2_tokenOfClass nn 11 a1 (H_M h)) (qf_X2_tokenOfClass nn y_a1 h) := by
  unfold f_X2_tokenOfClass qf_X2_tokenOfClass
  refine sm_lt e_a1 rfl ?_ ?_
  · exact sm_rP rfl
  · refine sm_gi hM_h rfl ?_; intro v1 e_v1
    refine sm_le e_v1 e_a1 ?_ ?_
    · exact sm_rP rfl
    · refine sm_gr hM_h (d := 15) rfl ?_
      refine sm_ai hM_h rfl e_a1 ?_; intro v3 y_v3 e_v3
      exact sm_rP e_v3
set_option maxRecDepth 4000 in
theorem sf_X9_nameLength (nn : Nat) {a1 : Int32} {y_a1 : Int} (e_a1 : a1.toInt = y_a1) {h : ms_M} (hM_h : Rg_M h) : Sm_ (RP_ h) (f_X9_nameLength nn 2 a1 (H_M h)) (qf_X9_nameLength nn y_a1 h) := by
  unfold f_X9_nameLength qf_X9_nameLength
  refine sm_lt e_a1 rfl ?_ ?_
  · exact sm_rP rfl
  · refine sm_gi hM_h rfl ?_; intro v1 e_v1
    refine sm_le e_v1 e_a1 ?_ ?_
    · exact sm_rP rfl
    · refine sm_gr hM_h (d := 7) rfl ?_
      refine sm_oq_add e_a1 rfl ?_; intro v3 y_v3 e_v3
      refine sm_ai hM_h rfl e_v3 ?_; intro v4 y_v4 e_v4
      refine sm_gr hM_h (d := 7) rfl ?_
      refine sm_ai hM_h rfl e_a1 ?_; intro v6 y_v6 e_v6
      refine sm_oq_sub e_v4 e_v6 ?_; intro v7 y_v7 e_v7
      exact sm_rP e_v7
set_option maxRecDepth 4000 in
theorem sf_X6_bytesOf (nn : Nat) {a1 : Int32} {y_a1 : Int} (e_a1 : a1.toInt = y_a1) {a2 : Int32} {y_a2 : Int} (e_a2 : a2.toInt = y_a2) {h : ms_M} (hM_h : Rg_M h) : Sm_ (RP_ h) (f_X6_bytesOf nn 45 a1 a2 (H_M h)) (qf_X6_bytesOf nn y_a1 y_a2 h) := by
  unfold f_X6_bytesOf qf_X6_bytesOf
  refine sm_eq e_a1 rfl ?_ ?_
  · refine sm_gr hM_h (d := 2) rfl ?_
    refine sm_is hM_h rfl ?_
    refine sm_cP (sf_X9_nameLength nn e_a2 hM_h) ?_; intro u3 y_u3 e_u3
    refine sm_oq_add rfl e_u3 ?_; intro v4 y_v4 e_v4
    exact sm_rP e_v4
  · refine sm_eq e_a1 rfl ?_ ?_
    · exact sm_rP rfl
    · refine sm_eq e_a1 rfl ?_ ?_
      · exact sm_rP rfl
      · exact sm_rP rfl
set_option maxRecDepth 4000 in
theorem sw_X6_imageSize_9 (nn : Nat) : ∀ (k : Nat) {l1 : Int32} {y_l1 : Int} (e_l1 : l1.toInt = y_l1) {l2 : Int32} {y_l2 : Int} (e_l2 : l2.toInt = y_l2) {h : ms_M} (hM_h : Rg_M h), Sm_ (RP_ h) (w_X6_imageSize_9 nn k 45 l1 l2 (H_M h)) (qw_X6_imageSize_9 nn k y_l1 y_l2 h) := by
  intro k
  induction k with
  | zero => intros; exact sm_no
  | succ k ih =>
    intro l1 y_l1 e_l1 l2 y_l2 e_l2 h hM_h
    unfold w_X6_imageSize_9 qw_X6_imageSize_9
    refine sm_gi hM_h rfl ?_; intro v1 e_v1
    refine sm_lt e_v1 e_l2 ?_ ?_
    · exact sm_rP e_l1
    · refine sm_gr hM_h (d := 46) rfl ?_
      refine sm_ai hM_h rfl e_l2 ?_; intro v3 y_v3 e_v3
      refine sm_gr hM_h (d := 47) rfl ?_
      refine sm_ai hM_h rfl e_l2 ?_; intro v5 y_v5 e_v5
      refine sm_is hM_h rfl ?_
      refine sm_cP (sf_X6_bytesOf nn e_v3 e_v5 hM_h) ?_; intro u7 y_u7 e_u7
      refine sm_oq_add e_l1 e_u7 ?_; intro v8 y_v8 e_v8
      refine sm_oq_add e_l2 rfl ?_; intro v9 y_v9 e_v9
      exact ih e_v8 e_v9 hM_h
set_option maxRecDepth 4000 in
theorem sf_X6_imageSize (nn : Nat) {h : ms_M} (hM_h : Rg_M h) : Sm_ (RP_ h) (f_X6_imageSize nn 45 (H_M h)) (qf_X6_imageSize nn h) := by
  unfold f_X6_imageSize qf_X6_imageSize
  refine sm_gi hM_h rfl ?_; intro v11 e_v11
  refine sm_oq_add rfl e_v11 ?_; intro v12 y_v12 e_v12
  exact sw_X6_imageSize_9 nn nn e_v12 rfl hM_h
set_option maxRecDepth 4000 in
theorem sf_X6_isTooMuch (nn : Nat) {h : ms_M} (hM_h : Rg_M h) : Sm_ (RP_ h) (f_X6_isTooMuch nn 45 (H_M h)) (qf_X6_isTooMuch nn h) := by
  unfold f_X6_isTooMuch qf_X6_isTooMuch
  refine sm_gi hM_h rfl ?_; intro v1 e_v1
  refine sm_ne e_v1 rfl ?_ ?_
  · exact sm_rP rfl
  · refine sm_is hM_h rfl ?_
    refine sm_cP (sf_X6_imageSize nn hM_h) ?_; intro u3 y_u3 e_u3
    refine sm_le e_u3 rfl ?_ ?_
    · exact sm_rP rfl
    · exact sm_rP rfl
set_option maxRecDepth 4000 in
theorem sf_X9_copyName (nn : Nat) {a1 : Int32} {y_a1 : Int} (e_a1 : a1.toInt = y_a1) (a2 : Nat) {a3 : Int32} {y_a3 : Int} (e_a3 : a3.toInt = y_a3) {h : ms_M} (hM_h : Rg_M h) : Sm_ RV_ (f_X9_copyName nn 2 a1 a2 a3 (H_M h)) (qf_X9_copyName nn y_a1 a2 y_a3 h) := by
  unfold f_X9_copyName qf_X9_copyName
  refine sm_is hM_h rfl ?_
  refine sm_cP (sf_X9_nameLength nn e_a1 hM_h) ?_; intro u2 y_u2 e_u2
  refine sm_lt e_a3 rfl ?_ ?_
  · exact sm_rV hM_h
  · refine sm_oq_add e_a3 e_u2 ?_; intro v3 y_v3 e_v3
    refine sm_lnS hM_h ?_; intro v4 y_v4 e_v4
    refine sm_lt e_v4 e_v3 ?_ ?_
    · exact sm_rV hM_h
    · refine sm_le e_u2 rfl ?_ ?_
      · exact sm_rV hM_h
      · refine sm_gr hM_h (d := 6) rfl ?_
        refine sm_gr hM_h (d := 7) rfl ?_
        refine sm_ai hM_h rfl e_a1 ?_; intro v7 y_v7 e_v7
        refine sm_cp hM_h e_v7 e_a3 e_u2 ?_; intro h8 hM_h8
        exact sm_rV hM_h8
set_option maxRecDepth 4000 in
theorem sw_X6_writeConstant_83 (nn : Nat) : ∀ (k : Nat) {l1 : Int32} {y_l1 : Int} (e_l1 : l1.toInt = y_l1) (l2 : Nat) {l3 : Int32} {y_l3 : Int} (e_l3 : l3.toInt = y_l3) {l4 : Int32} {y_l4 : Int} (e_l4 : l4.toInt = y_l4) {l5 : Int32} {y_l5 : Int} (e_l5 : l5.toInt = y_l5) {h : ms_M} (hM_h : Rg_M h), Sm_ RV_ (w_X6_writeConstant_83 nn k 45 l1 l2 l3 l4 l5 (H_M h)) (qw_X6_writeConstant_83 nn k y_l1 l2 y_l3 y_l4 y_l5 h) := by
  intro k
  induction k with
  | zero => intros; exact sm_no
  | succ k ih =>
    intro l1 y_l1 e_l1 l2 l3 y_l3 e_l3 l4 y_l4 e_l4 l5 y_l5 e_l5 h hM_h
    unfold w_X6_writeConstant_83 qw_X6_writeConstant_83
    refine sm_le e_l4 e_l5 ?_ ?_
    · exact sm_rV hM_h
    · refine sm_oq_add e_l3 e_l5 ?_; intro v1 y_v1 e_v1
      refine sm_gr hM_h (d := 47) rfl ?_
      refine sm_ai hM_h rfl e_l1 ?_; intro v3 y_v3 e_v3
      refine sm_oq_sub e_l4 rfl ?_; intro v4 y_v4 e_v4
      refine sm_oq_sub e_v4 e_l5 ?_; intro v5 y_v5 e_v5
      refine sm_oq_mul rfl e_v5 ?_; intro v6 y_v6 e_v6
      refine sm_oq_shr e_v3 e_v6 ?_; intro v7 y_v7 e_v7
      refine sm_oq_b e_v7 ?_; intro v8 y_v8 e_v8
      refine sm_sbS hM_h  e_v1 e_v8 ?_; intro h9 hM_h9
      refine sm_oq_add e_l5 rfl ?_; intro v10 y_v10 e_v10
      exact ih e_l1 _ e_l3 e_l4 e_v10 hM_h9
set_option maxRecDepth 4000 in
theorem sf_X6_writeConstant (nn : Nat) {a1 : Int32} {y_a1 : Int} (e_a1 : a1.toInt = y_a1) (a2 : Nat) {a3 : Int32} {y_a3 : Int} (e_a3 : a3.toInt = y_a3) {h : ms_M} (hM_h : Rg_M h) : Sm_ RV_ (f_X6_writeConstant nn 45 a1 a2 a3 (H_M h)) (qf_X6_writeConstant nn y_a1 a2 y_a3 h) := by
  unfold f_X6_writeConstant qf_X6_writeConstant
  refine sm_gr hM_h (d := 46) rfl ?_
  refine sm_ai hM_h rfl e_a1 ?_; intro v13 y_v13 e_v13
  refine sm_gr hM_h (d := 47) rfl ?_
  refine sm_ai hM_h rfl e_a1 ?_; intro v15 y_v15 e_v15
  refine sm_is hM_h rfl ?_
  refine sm_cP (sf_X6_bytesOf nn e_v13 e_v15 hM_h) ?_; intro u17 y_u17 e_u17
  refine sm_lt e_a3 rfl ?_ ?_
  · exact sm_rV hM_h
  · refine sm_oq_add e_a3 e_u17 ?_; intro v18 y_v18 e_v18
    refine sm_lnS hM_h ?_; intro v19 y_v19 e_v19
    refine sm_le e_v18 e_v19 ?_ ?_
    · refine sm_gr hM_h (d := 46) rfl ?_
      refine sm_ai hM_h rfl e_a1 ?_; intro v21 y_v21 e_v21
      refine sm_oq_b e_v21 ?_; intro v22 y_v22 e_v22
      refine sm_sbS hM_h  e_a3 e_v22 ?_; intro h23 hM_h23
      refine sm_gr hM_h23 (d := 46) rfl ?_
      refine sm_ai hM_h23 rfl e_a1 ?_; intro v25 y_v25 e_v25
      refine sm_ne e_v25 rfl ?_ ?_
      · exact sw_X6_writeConstant_83 nn nn e_a1 _ e_a3 e_u17 rfl hM_h23
      · refine sm_oq_add e_a3 rfl ?_; intro v26 y_v26 e_v26
        refine sm_oq_sub e_u17 rfl ?_; intro v27 y_v27 e_v27
        refine sm_oq_b e_v27 ?_; intro v28 y_v28 e_v28
        refine sm_sbS hM_h23  e_v26 e_v28 ?_; intro h29 hM_h29
        refine sm_gr hM_h29 (d := 2) rfl ?_
        refine sm_gr hM_h29 (d := 47) rfl ?_
        refine sm_ai hM_h29 rfl e_a1 ?_; intro v32 y_v32 e_v32
        refine sm_oq_add e_a3 rfl ?_; intro v33 y_v33 e_v33
        refine sm_is hM_h29 rfl ?_
        refine sm_cV (sf_X9_copyName nn e_v32 _ e_v33 hM_h29) ?_; intro u35 hM_u35
        exact sm_rV hM_u35
    · exact sm_rV hM_h
set_option maxRecDepth 4000 in
theorem sw_X6_closeImage_40 (nn : Nat) : ∀ (k : Nat) (l1 : Nat) {l2 : Int32} {y_l2 : Int} (e_l2 : l2.toInt = y_l2) {l3 : Int32} {y_l3 : Int} (e_l3 : l3.toInt = y_l3) {h : ms_M} (hM_h : Rg_M h) (c : Nat) (s : Nat), Sm_ RE_ (w_X6_closeImage_40 nn k 45 l1 l2 l3 (H_M h) c s) (qw_X6_closeImage_40 nn k l1 y_l2 y_l3 h c s) := by
  intro k
  induction k with
  | zero => intros; exact sm_no
  | succ k ih =>
    intro l1 l2 y_l2 e_l2 l3 y_l3 e_l3 h hM_h c s
    unfold w_X6_closeImage_40 qw_X6_closeImage_40
    refine sm_gi hM_h rfl ?_; intro v1 e_v1
    refine sm_lt e_v1 e_l3 ?_ ?_
    · refine sm_gr hM_h (d := 48) rfl ?_
      refine sm_gi hM_h rfl ?_; intro v3 e_v3
      refine sm_cp hM_h rfl e_l2 e_v3 ?_; intro h4 hM_h4
      exact sm_rEs hM_h4
    · refine sm_is hM_h rfl ?_
      refine sm_cV (sf_X6_writeConstant nn e_l3 _ e_l2 hM_h) ?_; intro u6 hM_u6
      refine sm_gr hM_u6 (d := 46) rfl ?_
      refine sm_ai hM_u6 rfl e_l3 ?_; intro v8 y_v8 e_v8
      refine sm_gr hM_u6 (d := 47) rfl ?_
      refine sm_ai hM_u6 rfl e_l3 ?_; intro v10 y_v10 e_v10
      refine sm_is hM_u6 rfl ?_
      refine sm_cP (sf_X6_bytesOf nn e_v8 e_v10 hM_u6) ?_; intro u12 y_u12 e_u12
      refine sm_oq_add e_l2 e_u12 ?_; intro v13 y_v13 e_v13
      refine sm_oq_add e_l3 rfl ?_; intro v14 y_v14 e_v14
      exact ih _ e_v13 e_v14 hM_u6 _ _
set_option maxRecDepth 4000 in
theorem sf_X6_closeImage (nn : Nat) {h : ms_M} (hM_h : Rg_M h) : Sm_ RE_ (f_X6_closeImage nn 45 (H_M h)) (qf_X6_closeImage nn h) := by
  unfold f_X6_closeImage qf_X6_closeImage
  refine sm_is hM_h rfl ?_
  refine sm_cP (sf_X6_isTooMuch nn hM_h) ?_; intro u17 y_u17 e_u17
  refine sm_eq e_u17 rfl ?_ ?_
  · refine sm_is hM_h rfl ?_
    refine sm_cP (sf_X6_imageSize nn hM_h) ?_; intro u19 y_u19 e_u19
    refine sm_nq e_u19 ?_
    refine sm_nw hM_h e_u19 ?_; intro b_u21 h_u21 hM_u21
    refine sm_sbS hM_u21  rfl rfl ?_; intro h22 hM_h22
    refine sm_sbS hM_h22  rfl rfl ?_; intro h23 hM_h23
    refine sm_gi hM_h23 rfl ?_; intro v24 e_v24
    refine sm_oq_b e_v24 ?_; intro v25 y_v25 e_v25
    refine sm_sbS hM_h23  rfl e_v25 ?_; intro h26 hM_h26
    subst e_u19
    exact sw_X6_closeImage_40 nn nn _ rfl rfl hM_h26 _ _
  · refine sm_nq rfl ?_
    refine sm_nw hM_h rfl ?_; intro b_u28 h_u28 hM_u28
    exact sm_rEs hM_u28
set_option maxRecDepth 4000 in
theorem sf_X0_closeClass (nn : Nat) {a1 : Int32} {y_a1 : Int} (e_a1 : a1.toInt = y_a1) {h : ms_M} (hM_h : Rg_M h) : Sm_ RC_ (f_X0_closeClass nn 33 a1 (H_M h)) (qf_X0_closeClass nn y_a1 h) := by
  unfold f_X0_closeClass qf_X0_closeClass
  refine sm_gr hM_h (d := 45) rfl ?_
  refine sm_is hM_h rfl ?_
  refine sm_cP (sf_X6_isTooMuch nn hM_h) ?_; intro u3 y_u3 e_u3
  refine sm_gr hM_h (d := 11) rfl ?_
  refine sm_is hM_h rfl ?_
  refine sm_cP (sf_X2_tokenOfClass nn e_a1 hM_h) ?_; intro u6 y_u6 e_u6
  refine sm_is hM_h rfl ?_
  refine sm_cV (sf_X0_noteMuch nn e_u3 e_u6 hM_h) ?_; intro u8 hM_u8
  refine sm_gr hM_u8 (d := 2) rfl ?_
  refine sm_gi hM_u8 rfl ?_; intro v10 e_v10
  refine sm_ne e_v10 rfl ?_ ?_
  · exact sm_rC hM_u8
  · refine sm_gi hM_u8 rfl ?_; intro v11 e_v11
    refine sm_ne e_v11 rfl ?_ ?_
    · exact sm_rC hM_u8
    · refine sm_lt e_a1 rfl ?_ ?_
      · exact sm_rC hM_u8
      · refine sm_gr hM_u8 (d := 43) rfl ?_
        refine sm_ln hM_u8 (z := 8) rfl ?_; intro v13 e_v13
        refine sm_le e_v13 e_a1 ?_ ?_
        · exact sm_rC hM_u8
        · refine sm_gr hM_u8 (d := 43) rfl ?_
          refine sm_gr hM_u8 (d := 45) rfl ?_
          refine sm_is hM_u8 rfl ?_
          refine sm_cE (sf_X6_closeImage nn hM_u8) ?_; intro y_u17 M_u17 c_u17 s_u17 hM_u17
          refine sm_sqB hM_u17 rfl e_a1 ?_; intro h18 hM_h18
          exact sm_rC hM_h18
set_option maxRecDepth 4000 in
theorem sf_X9_tell (nn : Nat) {a1 : Int32} {y_a1 : Int} (e_a1 : a1.toInt = y_a1) {a2 : Int32} {y_a2 : Int} (e_a2 : a2.toInt = y_a2) {h : ms_M} (hM_h : Rg_M h) : Sm_ RV_ (f_X9_tell nn 2 a1 a2 (H_M h)) (qf_X9_tell nn y_a1 y_a2 h) := by
  unfold f_X9_tell qf_X9_tell
  refine sm_gi hM_h rfl ?_; intro v1 e_v1
  refine sm_ne e_v1 rfl ?_ ?_
  · exact sm_rV hM_h
  · refine sm_lt e_a2 rfl ?_ ?_
    · exact sm_rV hM_h
    · refine sm_gi hM_h rfl ?_; intro v2 e_v2
      refine sm_le e_v2 e_a2 ?_ ?_
      · exact sm_rV hM_h
      · refine sm_pv hM_h rfl e_a1 ?_; intro h3 hM_h3
        refine sm_gr hM_h3 (d := 4) rfl ?_
        refine sm_ai hM_h3 rfl e_a2 ?_; intro v5 y_v5 e_v5
        refine sm_pv hM_h3 rfl e_v5 ?_; intro h6 hM_h6
        exact sm_rV hM_h6
set_option maxRecDepth 4000 in
theorem sf_X0_closeProgram (nn : Nat) {h : ms_M} (hM_h : Rg_M h) : Sm_ RV_ (f_X0_closeProgram nn 33 (H_M h)) (qf_X0_closeProgram nn h) := by
  unfold f_X0_closeProgram qf_X0_closeProgram
  refine sm_gi hM_h rfl ?_; intro v1 e_v1
  refine sm_eq e_v1 rfl ?_ ?_
  · exact sm_rV hM_h
  · refine sm_gr hM_h (d := 2) rfl ?_
    refine sm_gi hM_h rfl ?_; intro v3 e_v3
    refine sm_is hM_h rfl ?_
    refine sm_cV (sf_X9_tell nn rfl e_v3 hM_h) ?_; intro u5 hM_u5
    exact sm_rV hM_u5
set_option maxRecDepth 4000 in
theorem sj_X10_arithmeticOp_91 (nn : Nat) {h : ms_M} (hM_h : Rg_M h) : Sm_ (RP_ h) (j_X10_arithmeticOp_91 nn (H_M h)) (qj_X10_arithmeticOp_91 nn h) := by
  unfold j_X10_arithmeticOp_91 qj_X10_arithmeticOp_91
  exact sm_rP rfl
set_option maxRecDepth 4000 in
theorem sf_X10_arithmeticOp (nn : Nat) {a0 : Int32} {y_a0 : Int} (e_a0 : a0.toInt = y_a0) {h : ms_M} (hM_h : Rg_M h) : Sm_ (RP_ h) (f_X10_arithmeticOp nn a0 (H_M h)) (qf_X10_arithmeticOp nn y_a0 h) := by
  unfold f_X10_arithmeticOp qf_X10_arithmeticOp
  refine sm_eq e_a0 rfl ?_ ?_
  · exact sm_rP rfl
  · refine sm_eq e_a0 rfl ?_ ?_
    · exact sm_rP rfl
    · refine sm_eq e_a0 rfl ?_ ?_
      · exact sm_rP rfl
      · refine sm_eq e_a0 rfl ?_ ?_
        · exact sm_rP rfl
        · refine sm_eq e_a0 rfl ?_ ?_
          · exact sm_rP rfl
          · refine sm_eq e_a0 rfl ?_ ?_
            · exact sm_rP rfl
            · refine sm_eq e_a0 rfl ?_ ?_
              · exact sm_rP rfl
              · refine sm_eq e_a0 rfl ?_ ?_
                · exact sm_rP rfl
                · refine sm_eq e_a0 rfl ?_ ?_
                  · exact sm_rP rfl
                  · refine sm_eq e_a0 rfl ?_ ?_
                    · exact sm_rP rfl
                    · exact sj_X10_arithmeticOp_91 nn hM_h
set_option maxRecDepth 4000 in
theorem sf_X10_wantType (nn : Nat) {a1 : Int32} {y_a1 : Int} (e_a1 : a1.toInt = y_a1) {a2 : Int32} {y_a2 : Int} (e_a2 : a2.toInt = y_a2) {h : ms_M} (hM_h : Rg_M h) : Sm_ RV_ (f_X10_wantType nn 49 a1 a2 (H_M h)) (qf_X10_wantType nn y_a1 y_a2 h) := by
  unfold f_X10_wantType qf_X10_wantType
  refine sm_ne e_a1 rfl ?_ ?_
  · exact sm_rV hM_h
  · refine sm_gr hM_h (d := 2) rfl ?_
    refine sm_is hM_h rfl ?_
    refine sm_cV (sf_X9_tell nn rfl e_a2 hM_h) ?_; intro u3 hM_u3
    exact sm_rV hM_u3
set_option maxRecDepth 4000 in
theorem sf_X1_aimAt (nn : Nat) {a1 : Int32} {y_a1 : Int} (e_a1 : a1.toInt = y_a1) {a2 : Int32} {y_a2 : Int} (e_a2 : a2.toInt = y_a2) {h : ms_M} (hM_h : Rg_M h) : Sm_ RV_ (f_X1_aimAt nn 34 a1 a2 (H_M h)) (qf_X1_aimAt nn y_a1 y_a2 h) := by
  unfold f_X1_aimAt qf_X1_aimAt
  refine sm_oq_sub e_a2 e_a1 ?_; intro v1 y_v1 e_v1
  refine sm_lt e_a1 rfl ?_ ?_
  · exact sm_rV hM_h
  · refine sm_oq_add e_a1 rfl ?_; intro v2 y_v2 e_v2
    refine sm_gr hM_h (d := 35) rfl ?_
    refine sm_ln hM_h (z := 1500) rfl ?_; intro v4 e_v4
    refine sm_le e_v4 e_v2 ?_ ?_
    · exact sm_rV hM_h
    · refine sm_gr hM_h (d := 35) rfl ?_
      refine sm_oq_add e_a1 rfl ?_; intro v6 y_v6 e_v6
      refine sm_oq_shr e_v1 rfl ?_; intro v7 y_v7 e_v7
      refine sm_oq_b e_v7 ?_; intro v8 y_v8 e_v8
      refine sm_sb hM_h rfl e_v6 e_v8 ?_; intro h9 hM_h9
      refine sm_gr hM_h9 (d := 35) rfl ?_
      refine sm_oq_add e_a1 rfl ?_; intro v11 y_v11 e_v11
      refine sm_oq_b e_v1 ?_; intro v12 y_v12 e_v12
      refine sm_sb hM_h9 rfl e_v11 e_v12 ?_; intro h13 hM_h13
      exact sm_rV hM_h13
set_option maxRecDepth 4000 in
theorem sj_X1_fillFrame_23 (nn : Nat) {h : ms_M} (hM_h : Rg_M h) : Sm_ RV_ (j_X1_fillFrame_23 nn 34 (H_M h)) (qj_X1_fillFrame_23 nn h) := by
  unfold j_X1_fillFrame_23 qj_X1_fillFrame_23
  refine sm_pv hM_h rfl rfl ?_; intro h1 hM_h1
  exact sm_rV hM_h1
set_option maxRecDepth 4000 in
theorem sf_X1_fillFrame (nn : Nat) {a1 : Int32} {y_a1 : Int} (e_a1 : a1.toInt = y_a1) {a2 : Int32} {y_a2 : Int} (e_a2 : a2.toInt = y_a2) {a3 : Int32} {y_a3 : Int} (e_a3 : a3.toInt = y_a3) {h : ms_M} (hM_h : Rg_M h) : Sm_ RV_ (f_X1_fillFrame nn 34 a1 a2 a3 (H_M h)) (qf_X1_fillFrame nn y_a1 y_a2 y_a3 h) := by
  unfold f_X1_fillFrame qf_X1_fillFrame
  refine sm_oq_mul e_a1 rfl ?_; intro v2 y_v2 e_v2
  refine sm_eq e_a1 rfl ?_ ?_
  · exact sj_X1_fillFrame_23 nn hM_h
  · refine sm_lt rfl e_a2 ?_ ?_
    · exact sj_X1_fillFrame_23 nn hM_h
    · refine sm_le e_a3 rfl ?_ ?_
      · refine sm_gr hM_h (d := 41) rfl ?_
        refine sm_si hM_h rfl e_v2 e_a2 ?_; intro h4 hM_h4
        refine sm_gr hM_h4 (d := 41) rfl ?_
        refine sm_oq_add e_v2 rfl ?_; intro v6 y_v6 e_v6
        refine sm_si hM_h4 rfl e_v6 e_a3 ?_; intro h7 hM_h7
        refine sm_gr hM_h7 (d := 38) rfl ?_
        refine sm_gr hM_h7 (d := 41) rfl ?_
        refine sm_oq_add e_v2 rfl ?_; intro v10 y_v10 e_v10
        refine sm_cp hM_h7 rfl e_v10 e_a2 ?_; intro h11 hM_h11
        refine sm_gr hM_h11 (d := 36) rfl ?_
        refine sm_gr hM_h11 (d := 41) rfl ?_
        refine sm_oq_add e_v2 rfl ?_; intro v14 y_v14 e_v14
        refine sm_oq_add e_v14 e_a2 ?_; intro v15 y_v15 e_v15
        refine sm_cp hM_h11 rfl e_v15 e_a3 ?_; intro h16 hM_h16
        exact sm_rV hM_h16
      · exact sj_X1_fillFrame_23 nn hM_h
set_option maxRecDepth 4000 in
theorem sj_X1_slotOfFrame_62 (nn : Nat) {l1 : Int32} {y_l1 : Int} (e_l1 : l1.toInt = y_l1) {l2 : Int32} {y_l2 : Int} (e_l2 : l2.toInt = y_l2) {h : ms_M} (hM_h : Rg_M h) : Sm_ RI_ (j_X1_slotOfFrame_62 nn 34 l1 l2 (H_M h)) (qj_X1_slotOfFrame_62 nn y_l1 y_l2 h) := by
  unfold j_X1_slotOfFrame_62 qj_X1_slotOfFrame_62
  refine sm_gi hM_h rfl ?_; intro v1 e_v1
  refine sm_lt e_v1 rfl ?_ ?_
  · refine sm_gr hM_h (d := 42) rfl ?_
    refine sm_gr hM_h (d := 42) rfl ?_
    refine sm_oq_add e_l2 rfl ?_; intro v4 y_v4 e_v4
    refine sm_gi hM_h rfl ?_; intro v5 e_v5
    refine sm_oq_sub e_v5 e_l2 ?_; intro v6 y_v6 e_v6
    refine sm_cp hM_h e_l2 e_v4 e_v6 ?_; intro h7 hM_h7
    refine sm_gr hM_h7 (d := 42) rfl ?_
    refine sm_gi hM_h7 rfl ?_; intro v9 e_v9
    refine sm_si hM_h7 rfl e_l2 e_v9 ?_; intro h10 hM_h10
    refine sm_gr hM_h10 (d := 40) rfl ?_
    refine sm_gi hM_h10 rfl ?_; intro v12 e_v12
    refine sm_si hM_h10 rfl e_v12 e_l1 ?_; intro h13 hM_h13
    refine sm_gi hM_h13 rfl ?_; intro v14 e_v14
    refine sm_oq_add e_v14 rfl ?_; intro v15 y_v15 e_v15
    refine sm_pv hM_h13 rfl e_v15 ?_; intro h16 hM_h16
    refine sm_gr hM_h16 (d := 42) rfl ?_
    refine sm_ai hM_h16 rfl e_l2 ?_; intro v18 y_v18 e_v18
    exact sm_rI e_v18 hM_h16
  · exact sm_rI rfl hM_h
set_option maxRecDepth 4000 in
theorem sj_X1_slotOfFrame_32 (nn : Nat) {l1 : Int32} {y_l1 : Int} (e_l1 : l1.toInt = y_l1) {l2 : Int32} {y_l2 : Int} (e_l2 : l2.toInt = y_l2) {h : ms_M} (hM_h : Rg_M h) : Sm_ RI_ (j_X1_slotOfFrame_32 nn 34 l1 l2 (H_M h)) (qj_X1_slotOfFrame_32 nn y_l1 y_l2 h) := by
  unfold j_X1_slotOfFrame_32 qj_X1_slotOfFrame_32
  refine sm_le e_l2 rfl ?_ ?_
  · exact sj_X1_slotOfFrame_62 nn e_l1 e_l2 hM_h
  · refine sm_gr hM_h (d := 40) rfl ?_
    refine sm_gr hM_h (d := 42) rfl ?_
    refine sm_oq_sub e_l2 rfl ?_; intro v22 y_v22 e_v22
    refine sm_ai hM_h rfl e_v22 ?_; intro v23 y_v23 e_v23
    refine sm_ai hM_h rfl e_v23 ?_; intro v24 y_v24 e_v24
    refine sm_ne e_v24 e_l1 ?_ ?_
    · exact sj_X1_slotOfFrame_62 nn e_l1 e_l2 hM_h
    · refine sm_gr hM_h (d := 42) rfl ?_
      refine sm_oq_sub e_l2 rfl ?_; intro v26 y_v26 e_v26
      refine sm_ai hM_h rfl e_v26 ?_; intro v27 y_v27 e_v27
      exact sm_rI e_v27 hM_h
set_option maxRecDepth 4000 in
theorem sw_X1_slotOfFrame_5 (nn : Nat) : ∀ (k : Nat) {l1 : Int32} {y_l1 : Int} (e_l1 : l1.toInt = y_l1) {l2 : Int32} {y_l2 : Int} (e_l2 : l2.toInt = y_l2) {h : ms_M} (hM_h : Rg_M h), Sm_ RI_ (w_X1_slotOfFrame_5 nn k 34 l1 l2 (H_M h)) (qw_X1_slotOfFrame_5 nn k y_l1 y_l2 h) := by
  intro k
  induction k with
  | zero => intros; exact sm_no
  | succ k ih =>
    intro l1 y_l1 e_l1 l2 y_l2 e_l2 h hM_h
    unfold w_X1_slotOfFrame_5 qw_X1_slotOfFrame_5
    refine sm_le e_l2 rfl ?_ ?_
    · exact sj_X1_slotOfFrame_32 nn e_l1 e_l2 hM_h
    · refine sm_gr hM_h (d := 40) rfl ?_
      refine sm_gr hM_h (d := 42) rfl ?_
      refine sm_oq_sub e_l2 rfl ?_; intro v32 y_v32 e_v32
      refine sm_ai hM_h rfl e_v32 ?_; intro v33 y_v33 e_v33
      refine sm_ai hM_h rfl e_v33 ?_; intro v34 y_v34 e_v34
      refine sm_le e_v34 e_l1 ?_ ?_
      · exact sj_X1_slotOfFrame_32 nn e_l1 e_l2 hM_h
      · refine sm_oq_add e_l2 rfl ?_; intro v35 y_v35 e_v35
        exact ih e_l1 e_v35 hM_h
set_option maxRecDepth 4000 in
theorem sf_X1_slotOfFrame (nn : Nat) {a1 : Int32} {y_a1 : Int} (e_a1 : a1.toInt = y_a1) {h : ms_M} (hM_h : Rg_M h) : Sm_ RI_ (f_X1_slotOfFrame nn 34 a1 (H_M h)) (qf_X1_slotOfFrame nn y_a1 h) := by
  unfold f_X1_slotOfFrame qf_X1_slotOfFrame
  refine sm_gi hM_h rfl ?_; intro v38 e_v38
  exact sw_X1_slotOfFrame_5 nn nn e_a1 e_v38 hM_h
set_option maxRecDepth 4000 in
theorem sf_X1_aimHere (nn : Nat) {a1 : Int32} {y_a1 : Int} (e_a1 : a1.toInt = y_a1) {h : ms_M} (hM_h : Rg_M h) : Sm_ RV_ (f_X1_aimHere nn 34 a1 (H_M h)) (qf_X1_aimHere nn y_a1 h) := by
  unfold f_X1_aimHere qf_X1_aimHere
  refine sm_gi hM_h rfl ?_; intro v1 e_v1
  refine sm_is hM_h rfl ?_
  refine sm_cV (sf_X1_aimAt nn e_a1 e_v1 hM_h) ?_; intro u3 hM_u3
  refine sm_gi hM_u3 rfl ?_; intro v4 e_v4
  refine sm_is hM_u3 rfl ?_
  refine sm_cI (sf_X1_slotOfFrame nn e_v4 hM_u3) ?_; intro u6 y_u6 M_u6 e_u6 hM_u6
  refine sm_gi hM_u6 rfl ?_; intro v7 e_v7
  refine sm_gi hM_u6 rfl ?_; intro v8 e_v8
  refine sm_is hM_u6 rfl ?_
  refine sm_cV (sf_X1_fillFrame nn e_u6 e_v7 e_v8 hM_u6) ?_; intro u10 hM_u10
  exact sm_rV hM_u10
set_option maxRecDepth 4000 in
theorem sj_X1_op_23 (nn : Nat) {h : ms_M} (hM_h : Rg_M h) : Sm_ RV_ (j_X1_op_23 nn 34 (H_M h)) (qj_X1_op_23 nn h) := by
  unfold j_X1_op_23 qj_X1_op_23
  refine sm_gi hM_h rfl ?_; intro v1 e_v1
  refine sm_oq_add e_v1 rfl ?_; intro v2 y_v2 e_v2
  refine sm_pv hM_h rfl e_v2 ?_; intro h3 hM_h3
  exact sm_rV hM_h3
set_option maxRecDepth 4000 in
theorem sf_X1_op (nn : Nat) {a1 : Int32} {y_a1 : Int} (e_a1 : a1.toInt = y_a1) {h : ms_M} (hM_h : Rg_M h) : Sm_ RV_ (f_X1_op nn 34 a1 (H_M h)) (qf_X1_op nn y_a1 h) := by
  unfold f_X1_op qf_X1_op
  refine sm_gi hM_h rfl ?_; intro v4 e_v4
  refine sm_gr hM_h (d := 35) rfl ?_
  refine sm_ln hM_h (z := 1500) rfl ?_; intro v6 e_v6
  refine sm_le e_v6 e_v4 ?_ ?_
  · exact sj_X1_op_23 nn hM_h
  · refine sm_gr hM_h (d := 35) rfl ?_
    refine sm_gi hM_h rfl ?_; intro v8 e_v8
    refine sm_oq_b e_a1 ?_; intro v9 y_v9 e_v9
    refine sm_sb hM_h rfl e_v8 e_v9 ?_; intro h10 hM_h10
    exact sj_X1_op_23 nn hM_h10
set_option maxRecDepth 4000 in
theorem sf_X1_pop (nn : Nat) {a1 : Int32} {y_a1 : Int} (e_a1 : a1.toInt = y_a1) {h : ms_M} (hM_h : Rg_M h) : Sm_ RV_ (f_X1_pop nn 34 a1 (H_M h)) (qf_X1_pop nn y_a1 h) := by
  unfold f_X1_pop qf_X1_pop
  refine sm_gi hM_h rfl ?_; intro v1 e_v1
  refine sm_oq_sub e_v1 e_a1 ?_; intro v2 y_v2 e_v2
  refine sm_ite rfl e_v2 e_v2 rfl ?_; intro v3 y_v3 e_v3
  refine sm_pv hM_h rfl e_v3 ?_; intro h4 hM_h4
  exact sm_rV hM_h4
set_option maxRecDepth 4000 in
theorem sf_X1_jump (nn : Nat) {a1 : Int32} {y_a1 : Int} (e_a1 : a1.toInt = y_a1) {a2 : Int32} {y_a2 : Int} (e_a2 : a2.toInt = y_a2) {h : ms_M} (hM_h : Rg_M h) : Sm_ RI_ (f_X1_jump nn 34 a1 a2 (H_M h)) (qf_X1_jump nn y_a1 y_a2 h) := by
  unfold f_X1_jump qf_X1_jump
  refine sm_gi hM_h rfl ?_; intro v1 e_v1
  refine sm_is hM_h rfl ?_
  refine sm_cV (sf_X1_pop nn e_a2 hM_h) ?_; intro u3 hM_u3
  refine sm_is hM_u3 rfl ?_
  refine sm_cV (sf_X1_op nn e_a1 hM_u3) ?_; intro u5 hM_u5
  refine sm_is hM_u5 rfl ?_
  refine sm_cV (sf_X1_op nn rfl hM_u5) ?_; intro u7 hM_u7
  refine sm_is hM_u7 rfl ?_
  refine sm_cV (sf_X1_op nn rfl hM_u7) ?_; intro u9 hM_u9
  exact sm_rI e_v1 hM_u9
set_option maxRecDepth 4000 in
theorem sj_X1_push_22 (nn : Nat) {h : ms_M} (hM_h : Rg_M h) : Sm_ RV_ (j_X1_push_22 nn 34 (H_M h)) (qj_X1_push_22 nn h) := by
  unfold j_X1_push_22 qj_X1_push_22
  refine sm_gi hM_h rfl ?_; intro v1 e_v1
  refine sm_oq_add e_v1 rfl ?_; intro v2 y_v2 e_v2
  refine sm_pv hM_h rfl e_v2 ?_; intro h3 hM_h3
  refine sm_gi hM_h3 rfl ?_; intro v4 e_v4
  refine sm_gi hM_h3 rfl ?_; intro v5 e_v5
  refine sm_ite e_v4 e_v5 e_v5 e_v4 ?_; intro v6 y_v6 e_v6
  refine sm_pv hM_h3 rfl e_v6 ?_; intro h7 hM_h7
  exact sm_rV hM_h7
set_option maxRecDepth 4000 in
theorem sf_X1_push (nn : Nat) {a1 : Int32} {y_a1 : Int} (e_a1 : a1.toInt = y_a1) {h : ms_M} (hM_h : Rg_M h) : Sm_ RV_ (f_X1_push nn 34 a1 (H_M h)) (qf_X1_push nn y_a1 h) := by
  unfold f_X1_push qf_X1_push
  refine sm_gi hM_h rfl ?_; intro v8 e_v8
  refine sm_gr hM_h (d := 36) rfl ?_
  refine sm_ln hM_h (z := 20) rfl ?_; intro v10 e_v10
  refine sm_le e_v10 e_v8 ?_ ?_
  · exact sj_X1_push_22 nn hM_h
  · refine sm_gr hM_h (d := 36) rfl ?_
    refine sm_gi hM_h rfl ?_; intro v12 e_v12
    refine sm_si hM_h rfl e_v12 e_a1 ?_; intro h13 hM_h13
    exact sj_X1_push_22 nn hM_h13
set_option maxRecDepth 4000 in
theorem sj_X10_closeShort_66 (nn : Nat) {l3 : Int32} {y_l3 : Int} (e_l3 : l3.toInt = y_l3) {s0 : Int32} {y_s0 : Int} (e_s0 : s0.toInt = y_s0) {h : ms_M} (hM_h : Rg_M h) : Sm_ RV_ (j_X10_closeShort_66 nn 49 l3 s0 34 (H_M h)) (qj_X10_closeShort_66 nn y_l3 y_s0 h) := by
  unfold j_X10_closeShort_66 qj_X10_closeShort_66
  refine sm_is hM_h rfl ?_
  refine sm_cV (sf_X1_op nn e_s0 hM_h) ?_; intro u2 hM_u2
  refine sm_gr hM_u2 (d := 34) rfl ?_
  refine sm_is hM_u2 rfl ?_
  refine sm_cV (sf_X1_push nn rfl hM_u2) ?_; intro u5 hM_u5
  refine sm_gr hM_u5 (d := 34) rfl ?_
  refine sm_is hM_u5 rfl ?_
  refine sm_cV (sf_X1_aimHere nn e_l3 hM_u5) ?_; intro u8 hM_u8
  refine sm_pv hM_u8 rfl rfl ?_; intro h9 hM_h9
  exact sm_rV hM_h9
set_option maxRecDepth 4000 in
theorem sj_X10_closeShort_16 (nn : Nat) {l1 : Int32} {y_l1 : Int} (e_l1 : l1.toInt = y_l1) {l2 : Int32} {y_l2 : Int} (e_l2 : l2.toInt = y_l2) {s0 : Int32} {y_s0 : Int} (e_s0 : s0.toInt = y_s0) {h : ms_M} (hM_h : Rg_M h) : Sm_ RV_ (j_X10_closeShort_16 nn 49 l1 l2 s0 49 (H_M h)) (qj_X10_closeShort_16 nn y_l1 y_l2 y_s0 h) := by
  unfold j_X10_closeShort_16 qj_X10_closeShort_16
  refine sm_gi hM_h rfl ?_; intro v10 e_v10
  refine sm_is hM_h rfl ?_
  refine sm_cV (sf_X10_wantType nn e_s0 e_v10 hM_h) ?_; intro u12 hM_u12
  refine sm_gr hM_u12 (d := 34) rfl ?_
  refine sm_is hM_u12 rfl ?_
  refine sm_cI (sf_X1_jump nn rfl rfl hM_u12) ?_; intro u15 y_u15 M_u15 e_u15 hM_u15
  refine sm_gr hM_u15 (d := 34) rfl ?_
  refine sm_is hM_u15 rfl ?_
  refine sm_cV (sf_X1_pop nn rfl hM_u15) ?_; intro u18 hM_u18
  refine sm_gr hM_u18 (d := 34) rfl ?_
  refine sm_is hM_u18 rfl ?_
  refine sm_cV (sf_X1_aimHere nn e_l2 hM_u18) ?_; intro u21 hM_u21
  refine sm_gr hM_u21 (d := 34) rfl ?_
  refine sm_ne e_l1 rfl ?_ ?_
  · exact sj_X10_closeShort_66 nn e_u15 rfl hM_u21
  · exact sj_X10_closeShort_66 nn e_u15 rfl hM_u21
set_option maxRecDepth 4000 in
theorem sf_X10_closeShort (nn : Nat) {a1 : Int32} {y_a1 : Int} (e_a1 : a1.toInt = y_a1) {a2 : Int32} {y_a2 : Int} (e_a2 : a2.toInt = y_a2) {h : ms_M} (hM_h : Rg_M h) : Sm_ RV_ (f_X10_closeShort nn 49 a1 a2 (H_M h)) (qf_X10_closeShort nn y_a1 y_a2 h) := by
  unfold f_X10_closeShort qf_X10_closeShort
  refine sm_gi hM_h rfl ?_; intro v24 e_v24
  refine sm_ne e_v24 rfl ?_ ?_
  · exact sj_X10_closeShort_16 nn e_a1 e_a2 rfl hM_h
  · exact sj_X10_closeShort_16 nn e_a1 e_a2 rfl hM_h
set_option maxRecDepth 4000 in
theorem sj_X10_compareOp_80 (nn : Nat) {h : ms_M} (hM_h : Rg_M h) : Sm_ (RP_ h) (j_X10_compareOp_80 nn (H_M h)) (qj_X10_compareOp_80 nn h) := by
  unfold j_X10_compareOp_80 qj_X10_compareOp_80
  exact sm_rP rfl
set_option maxRecDepth 4000 in
theorem sf_X10_compareOp (nn : Nat) {a0 : Int32} {y_a0 : Int} (e_a0 : a0.toInt = y_a0) {a1 : Int32} {y_a1 : Int} (e_a1 : a1.toInt = y_a1) {h : ms_M} (hM_h : Rg_M h) : Sm_ (RP_ h) (f_X10_compareOp nn a0 a1 (H_M h)) (qf_X10_compareOp nn y_a0 y_a1 h) := by
  unfold f_X10_compareOp qf_X10_compareOp
  refine sm_eq e_a0 rfl ?_ ?_
  · refine sm_eq e_a1 rfl ?_ ?_
    · exact sm_rP rfl
    · exact sm_rP rfl
  · refine sm_eq e_a0 rfl ?_ ?_
    · refine sm_eq e_a1 rfl ?_ ?_
      · exact sm_rP rfl
      · exact sm_rP rfl
    · refine sm_eq e_a0 rfl ?_ ?_
      · exact sm_rP rfl
      · refine sm_eq e_a0 rfl ?_ ?_
        · exact sm_rP rfl
        · refine sm_eq e_a0 rfl ?_ ?_
          · exact sm_rP rfl
          · exact sj_X10_compareOp_80 nn hM_h
set_option maxRecDepth 4000 in
theorem sf_X4_isNumber (nn : Nat) {a0 : Int32} {y_a0 : Int} (e_a0 : a0.toInt = y_a0) {h : ms_M} (hM_h : Rg_M h) : Sm_ (RP_ h) (f_X4_isNumber nn a0 (H_M h)) (qf_X4_isNumber nn y_a0 h) := by
  unfold f_X4_isNumber qf_X4_isNumber
  refine sm_eq e_a0 rfl ?_ ?_
  · exact sm_rP rfl
  · refine sm_ne e_a0 rfl ?_ ?_
    · exact sm_rP rfl
    · exact sm_rP rfl
set_option maxRecDepth 4000 in
theorem sf_X4_isReference (nn : Nat) {a0 : Int32} {y_a0 : Int} (e_a0 : a0.toInt = y_a0) {h : ms_M} (hM_h : Rg_M h) : Sm_ (RP_ h) (f_X4_isReference nn a0 (H_M h)) (qf_X4_isReference nn y_a0 h) := by
  unfold f_X4_isReference qf_X4_isReference
  refine sm_eq e_a0 rfl ?_ ?_
  · exact sm_rP rfl
  · refine sm_lt e_a0 rfl ?_ ?_
    · exact sm_rP rfl
    · refine sm_lt rfl e_a0 ?_ ?_
      · exact sm_rP rfl
      · exact sm_rP rfl
set_option maxRecDepth 4000 in
theorem sj_X4_fits_123 (nn : Nat) (l0 : Nat) (hb_l0 : kc_O l0 = 4) {l1 : Int32} {y_l1 : Int} (e_l1 : l1.toInt = y_l1) {l2 : Int32} {y_l2 : Int} (e_l2 : l2.toInt = y_l2) {s0 : Int32} {y_s0 : Int} (e_s0 : s0.toInt = y_s0) {h : ms_M} (hM_h : Rg_M h) : Sm_ (RP_ h) (j_X4_fits_123 nn l0 l1 l2 s0 (H_M h)) (qj_X4_fits_123 nn l0 y_l1 y_l2 y_s0 h) := by
  unfold j_X4_fits_123 qj_X4_fits_123
  refine sm_eq e_s0 rfl ?_ ?_
  · exact sm_rP rfl
  · refine sm_grK hM_h hb_l0 (off := 2) rfl ?_
    refine sm_oq_sub e_l1 rfl ?_; intro v2 y_v2 e_v2
    refine sm_oq_mul e_v2 rfl ?_; intro v3 y_v3 e_v3
    refine sm_oq_add e_v3 e_l2 ?_; intro v4 y_v4 e_v4
    refine sm_oq_sub e_v4 rfl ?_; intro v5 y_v5 e_v5
    refine sm_abK hM_h hb_l0 rfl e_v5 ?_; intro v6 y_v6 e_v6
    refine sm_eq e_v6 rfl ?_ ?_
    · exact sm_rP rfl
    · exact sm_rP rfl
set_option maxRecDepth 4000 in
theorem sj_X4_fits_122 (nn : Nat) (l0 : Nat) (hb_l0 : kc_O l0 = 4) {l1 : Int32} {y_l1 : Int} (e_l1 : l1.toInt = y_l1) {l2 : Int32} {y_l2 : Int} (e_l2 : l2.toInt = y_l2) {h : ms_M} (hM_h : Rg_M h) : Sm_ (RP_ h) (j_X4_fits_122 nn l0 l1 l2 (H_M h)) (qj_X4_fits_122 nn l0 y_l1 y_l2 h) := by
  unfold j_X4_fits_122 qj_X4_fits_122
  exact sj_X4_fits_123 nn _ hb_l0 e_l1 e_l2 rfl hM_h
set_option maxRecDepth 4000 in
theorem sj_X4_fits_71 (nn : Nat) (l0 : Nat) (hb_l0 : kc_O l0 = 4) {l1 : Int32} {y_l1 : Int} (e_l1 : l1.toInt = y_l1) {l2 : Int32} {y_l2 : Int} (e_l2 : l2.toInt = y_l2) {h : ms_M} (hM_h : Rg_M h) : Sm_ (RP_ h) (j_X4_fits_71 nn l0 l1 l2 (H_M h)) (qj_X4_fits_71 nn l0 y_l1 y_l2 h) := by
  unfold j_X4_fits_71 qj_X4_fits_71
  refine sm_ne e_l2 rfl ?_ ?_
  · refine sm_lt e_l1 rfl ?_ ?_
    · exact sj_X4_fits_122 nn _ hb_l0 e_l1 e_l2 hM_h
    · refine sm_le rfl e_l1 ?_ ?_
      · exact sj_X4_fits_122 nn _ hb_l0 e_l1 e_l2 hM_h
      · refine sm_lt e_l2 rfl ?_ ?_
        · exact sj_X4_fits_122 nn _ hb_l0 e_l1 e_l2 hM_h
        · refine sm_le rfl e_l2 ?_ ?_
          · exact sj_X4_fits_122 nn _ hb_l0 e_l1 e_l2 hM_h
          · exact sj_X4_fits_123 nn _ hb_l0 e_l1 e_l2 rfl hM_h
  · refine sm_lt e_l1 rfl ?_ ?_
    · exact sm_rP rfl
    · refine sm_lt rfl e_l1 ?_ ?_
      · exact sm_rP rfl
      · exact sm_rP rfl
set_option maxRecDepth 4000 in
theorem sf_X4_fits (nn : Nat) (a0 : Nat) (hb_a0 : kc_O a0 = 4) {a1 : Int32} {y_a1 : Int} (e_a1 : a1.toInt = y_a1) {a2 : Int32} {y_a2 : Int} (e_a2 : a2.toInt = y_a2) {h : ms_M} (hM_h : Rg_M h) : Sm_ (RP_ h) (f_X4_fits nn a0 a1 a2 (H_M h)) (qf_X4_fits nn a0 y_a1 y_a2 h) := by
  unfold f_X4_fits qf_X4_fits
  refine sm_ne e_a1 e_a2 ?_ ?_
  · refine sm_ne e_a1 rfl ?_ ?_
    · refine sm_lt e_a1 rfl ?_ ?_
      · exact sj_X4_fits_71 nn _ hb_a0 e_a1 e_a2 hM_h
      · refine sm_le rfl e_a1 ?_ ?_
        · exact sj_X4_fits_71 nn _ hb_a0 e_a1 e_a2 hM_h
        · refine sm_lt e_a2 rfl ?_ ?_
          · exact sm_rP rfl
          · refine sm_le rfl e_a2 ?_ ?_
            · exact sm_rP rfl
            · refine sm_grK hM_h hb_a0 (off := 2) rfl ?_
              refine sm_oq_mul e_a1 rfl ?_; intro v17 y_v17 e_v17
              refine sm_oq_add e_v17 e_a2 ?_; intro v18 y_v18 e_v18
              refine sm_abK hM_h hb_a0 rfl e_v18 ?_; intro v19 y_v19 e_v19
              refine sm_eq e_v19 rfl ?_ ?_
              · exact sm_rP rfl
              · exact sm_rP rfl
    · refine sm_lt e_a2 rfl ?_ ?_
      · exact sm_rP rfl
      · refine sm_lt rfl e_a2 ?_ ?_
        · exact sm_rP rfl
        · exact sm_rP rfl
  · exact sm_rP rfl
set_option maxRecDepth 4000 in
theorem sf_X4_oneFits (nn : Nat) {a1 : Int32} {y_a1 : Int} (e_a1 : a1.toInt = y_a1) {a2 : Int32} {y_a2 : Int} (e_a2 : a2.toInt = y_a2) {h : ms_M} (hM_h : Rg_M h) : Sm_ (RP_ h) (f_X4_oneFits nn 12 a1 a2 (H_M h)) (qf_X4_oneFits nn y_a1 y_a2 h) := by
  unfold f_X4_oneFits qf_X4_oneFits
  refine sm_is hM_h rfl ?_
  refine sm_cP (sf_X4_fits nn _ rfl e_a1 e_a2 hM_h) ?_; intro u2 y_u2 e_u2
  refine sm_ne e_u2 rfl ?_ ?_
  · exact sm_rP rfl
  · refine sm_is hM_h rfl ?_
    refine sm_cP (sf_X4_fits nn _ rfl e_a2 e_a1 hM_h) ?_; intro u4 y_u4 e_u4
    refine sm_eq e_u4 rfl ?_ ?_
    · exact sm_rP rfl
    · exact sm_rP rfl
set_option maxRecDepth 4000 in
theorem sj_X10_isPair_24 (nn : Nat) {l1 : Int32} {y_l1 : Int} (e_l1 : l1.toInt = y_l1) {l2 : Int32} {y_l2 : Int} (e_l2 : l2.toInt = y_l2) {h : ms_M} (hM_h : Rg_M h) : Sm_ (RP_ h) (j_X10_isPair_24 nn l1 l2 (H_M h)) (qj_X10_isPair_24 nn y_l1 y_l2 h) := by
  unfold j_X10_isPair_24 qj_X10_isPair_24
  refine sm_ne e_l1 e_l2 ?_ ?_
  · exact sm_rP rfl
  · refine sm_cP (sf_X4_isNumber nn e_l1 hM_h) ?_; intro u1 y_u1 e_u1
    refine sm_eq e_u1 rfl ?_ ?_
    · exact sm_rP rfl
    · exact sm_rP rfl
set_option maxRecDepth 4000 in
theorem sf_X10_isPair (nn : Nat) {a1 : Int32} {y_a1 : Int} (e_a1 : a1.toInt = y_a1) {a2 : Int32} {y_a2 : Int} (e_a2 : a2.toInt = y_a2) {h : ms_M} (hM_h : Rg_M h) : Sm_ (RP_ h) (f_X10_isPair nn 49 a1 a2 (H_M h)) (qf_X10_isPair nn y_a1 y_a2 h) := by
  unfold f_X10_isPair qf_X10_isPair
  refine sm_cP (sf_X4_isReference nn e_a1 hM_h) ?_; intro u4 y_u4 e_u4
  refine sm_eq e_u4 rfl ?_ ?_
  · exact sj_X10_isPair_24 nn e_a1 e_a2 hM_h
  · refine sm_cP (sf_X4_isReference nn e_a2 hM_h) ?_; intro u5 y_u5 e_u5
    refine sm_eq e_u5 rfl ?_ ?_
    · exact sj_X10_isPair_24 nn e_a1 e_a2 hM_h
    · refine sm_gr hM_h (d := 12) rfl ?_
      refine sm_is hM_h rfl ?_
      refine sm_cP (sf_X4_oneFits nn e_a1 e_a2 hM_h) ?_; intro u8 y_u8 e_u8
      refine sm_bq e_u8 ?_
      exact sm_rP e_u8
set_option maxRecDepth 4000 in
theorem sf_X1_truth (nn : Nat) {a1 : Int32} {y_a1 : Int} (e_a1 : a1.toInt = y_a1) {a2 : Int32} {y_a2 : Int} (e_a2 : a2.toInt = y_a2) {h : ms_M} (hM_h : Rg_M h) : Sm_ RV_ (f_X1_truth nn 34 a1 a2 (H_M h)) (qf_X1_truth nn y_a1 y_a2 h) := by
  unfold f_X1_truth qf_X1_truth
  refine sm_is hM_h rfl ?_
  refine sm_cI (sf_X1_jump nn e_a1 e_a2 hM_h) ?_; intro u2 y_u2 M_u2 e_u2 hM_u2
  refine sm_is hM_u2 rfl ?_
  refine sm_cV (sf_X1_push nn rfl hM_u2) ?_; intro u4 hM_u4
  refine sm_is hM_u4 rfl ?_
  refine sm_cV (sf_X1_op nn rfl hM_u4) ?_; intro u6 hM_u6
  refine sm_is hM_u6 rfl ?_
  refine sm_cI (sf_X1_jump nn rfl rfl hM_u6) ?_; intro u8 y_u8 M_u8 e_u8 hM_u8
  refine sm_is hM_u8 rfl ?_
  refine sm_cV (sf_X1_pop nn rfl hM_u8) ?_; intro u10 hM_u10
  refine sm_is hM_u10 rfl ?_
  refine sm_cV (sf_X1_aimHere nn e_u2 hM_u10) ?_; intro u12 hM_u12
  refine sm_is hM_u12 rfl ?_
  refine sm_cV (sf_X1_push nn rfl hM_u12) ?_; intro u14 hM_u14
  refine sm_is hM_u14 rfl ?_
  refine sm_cV (sf_X1_op nn rfl hM_u14) ?_; intro u16 hM_u16
  refine sm_is hM_u16 rfl ?_
  refine sm_cV (sf_X1_aimHere nn e_u8 hM_u16) ?_; intro u18 hM_u18
  exact sm_rV hM_u18
set_option maxRecDepth 4000 in
theorem sj_X9_level_249 (nn : Nat) {h : ms_M} (hM_h : Rg_M h) : Sm_ (RP_ h) (j_X9_level_249 nn (H_M h)) (qj_X9_level_249 nn h) := by
  unfold j_X9_level_249 qj_X9_level_249
  exact sm_rP rfl
set_option maxRecDepth 4000 in
theorem sj_X9_level_246 (nn : Nat) {h : ms_M} (hM_h : Rg_M h) : Sm_ (RP_ h) (j_X9_level_246 nn (H_M h)) (qj_X9_level_246 nn h) := by
  unfold j_X9_level_246 qj_X9_level_246
  exact sm_rP rfl
set_option maxRecDepth 4000 in
theorem sj_X9_level_243 (nn : Nat) {h : ms_M} (hM_h : Rg_M h) : Sm_ (RP_ h) (j_X9_level_243 nn (H_M h)) (qj_X9_level_243 nn h) := by
  unfold j_X9_level_243 qj_X9_level_243
  exact sm_rP rfl
set_option maxRecDepth 4000 in
theorem sj_X9_level_240 (nn : Nat) {h : ms_M} (hM_h : Rg_M h) : Sm_ (RP_ h) (j_X9_level_240 nn (H_M h)) (qj_X9_level_240 nn h) := by
  unfold j_X9_level_240 qj_X9_level_240
  exact sm_rP rfl
set_option maxRecDepth 4000 in
theorem sj_X9_level_237 (nn : Nat) {h : ms_M} (hM_h : Rg_M h) : Sm_ (RP_ h) (j_X9_level_237 nn (H_M h)) (qj_X9_level_237 nn h) := by
  unfold j_X9_level_237 qj_X9_level_237
  exact sm_rP rfl
set_option maxRecDepth 4000 in
theorem sj_X9_level_234 (nn : Nat) {h : ms_M} (hM_h : Rg_M h) : Sm_ (RP_ h) (j_X9_level_234 nn (H_M h)) (qj_X9_level_234 nn h) := by
  unfold j_X9_level_234 qj_X9_level_234
  exact sm_rP rfl
set_option maxRecDepth 4000 in
theorem sf_X9_level (nn : Nat) {a0 : Int32} {y_a0 : Int} (e_a0 : a0.toInt = y_a0) {h : ms_M} (hM_h : Rg_M h) : Sm_ (RP_ h) (f_X9_level nn a0 (H_M h)) (qf_X9_level nn y_a0 h) := by
  unfold f_X9_level qf_X9_level
  refine sm_eq e_a0 rfl ?_ ?_
  · exact sj_X9_level_237 nn hM_h
  · refine sm_eq e_a0 rfl ?_ ?_
    · exact sj_X9_level_234 nn hM_h
    · refine sm_eq e_a0 rfl ?_ ?_
      · exact sj_X9_level_234 nn hM_h
      · refine sm_eq e_a0 rfl ?_ ?_
        · exact sj_X9_level_237 nn hM_h
        · refine sm_eq e_a0 rfl ?_ ?_
          · exact sj_X9_level_237 nn hM_h
          · refine sm_eq e_a0 rfl ?_ ?_
            · exact sj_X9_level_237 nn hM_h
            · refine sm_eq e_a0 rfl ?_ ?_
              · exact sj_X9_level_237 nn hM_h
              · refine sm_eq e_a0 rfl ?_ ?_
                · exact sj_X9_level_240 nn hM_h
                · refine sm_eq e_a0 rfl ?_ ?_
                  · exact sj_X9_level_240 nn hM_h
                  · refine sm_eq e_a0 rfl ?_ ?_
                    · exact sj_X9_level_240 nn hM_h
                    · refine sm_eq e_a0 rfl ?_ ?_
                      · exact sj_X9_level_243 nn hM_h
                      · refine sm_eq e_a0 rfl ?_ ?_
                        · exact sj_X9_level_243 nn hM_h
                        · refine sm_eq e_a0 rfl ?_ ?_
                          · exact sj_X9_level_246 nn hM_h
                          · refine sm_eq e_a0 rfl ?_ ?_
                            · exact sj_X9_level_246 nn hM_h
                            · refine sm_eq e_a0 rfl ?_ ?_
                              · exact sj_X9_level_246 nn hM_h
                              · refine sm_eq e_a0 rfl ?_ ?_
                                · exact sm_rP rfl
                                · refine sm_eq e_a0 rfl ?_ ?_
                                  · exact sm_rP rfl
                                  · refine sm_eq e_a0 rfl ?_ ?_
                                    · exact sm_rP rfl
                                    · refine sm_eq e_a0 rfl ?_ ?_
                                      · exact sm_rP rfl
                                      · refine sm_eq e_a0 rfl ?_ ?_
                                        · exact sm_rP rfl
                                        · exact sj_X9_level_249 nn hM_h
set_option maxRecDepth 4000 in
theorem sj_X10_closeSign_293 (nn : Nat) {h : ms_M} (hM_h : Rg_M h) : Sm_ RV_ (j_X10_closeSign_293 nn 49 (H_M h)) (qj_X10_closeSign_293 nn h) := by
  unfold j_X10_closeSign_293 qj_X10_closeSign_293
  refine sm_gr hM_h (d := 52) rfl ?_
  refine sm_gi hM_h rfl ?_; intro v2 e_v2
  refine sm_ai hM_h rfl e_v2 ?_; intro v3 y_v3 e_v3
  refine sm_pv hM_h rfl e_v3 ?_; intro h4 hM_h4
  refine sm_pv hM_h4 rfl rfl ?_; intro h5 hM_h5
  exact sm_rV hM_h5
set_option maxRecDepth 4000 in
theorem sj_X10_closeSign_251 (nn : Nat) {l1 : Int32} {y_l1 : Int} (e_l1 : l1.toInt = y_l1) {s0 : Int32} {y_s0 : Int} (e_s0 : s0.toInt = y_s0) {h : ms_M} (hM_h : Rg_M h) : Sm_ RV_ (j_X10_closeSign_251 nn 49 l1 s0 49 (H_M h)) (qj_X10_closeSign_251 nn y_l1 y_s0 h) := by
  unfold j_X10_closeSign_251 qj_X10_closeSign_251
  refine sm_gr hM_h (d := 51) rfl ?_
  refine sm_gi hM_h rfl ?_; intro v7 e_v7
  refine sm_ai hM_h rfl e_v7 ?_; intro v8 y_v8 e_v8
  refine sm_is hM_h rfl ?_
  refine sm_cV (sf_X10_wantType nn e_s0 e_v8 hM_h) ?_; intro u10 hM_u10
  refine sm_gr hM_u10 (d := 34) rfl ?_
  refine sm_cP (sf_X10_arithmeticOp nn e_l1 hM_u10) ?_; intro u12 y_u12 e_u12
  refine sm_is hM_u10 rfl ?_
  refine sm_cV (sf_X1_op nn e_u12 hM_u10) ?_; intro u14 hM_u14
  refine sm_gr hM_u14 (d := 34) rfl ?_
  refine sm_is hM_u14 rfl ?_
  refine sm_cV (sf_X1_pop nn rfl hM_u14) ?_; intro u17 hM_u17
  refine sm_gr hM_u17 (d := 34) rfl ?_
  refine sm_gi hM_u17 rfl ?_; intro v19 e_v19
  refine sm_is hM_u17 rfl ?_
  refine sm_cV (sf_X1_push nn e_v19 hM_u17) ?_; intro u21 hM_u21
  exact sj_X10_closeSign_293 nn hM_u21
set_option maxRecDepth 4000 in
theorem sj_X10_closeSign_250 (nn : Nat) {l1 : Int32} {y_l1 : Int} (e_l1 : l1.toInt = y_l1) {h : ms_M} (hM_h : Rg_M h) : Sm_ RV_ (j_X10_closeSign_250 nn 49 l1 49 (H_M h)) (qj_X10_closeSign_250 nn y_l1 h) := by
  unfold j_X10_closeSign_250 qj_X10_closeSign_250
  exact sj_X10_closeSign_251 nn e_l1 rfl hM_h
set_option maxRecDepth 4000 in
theorem sj_X10_closeSign_246 (nn : Nat) {l1 : Int32} {y_l1 : Int} (e_l1 : l1.toInt = y_l1) {h : ms_M} (hM_h : Rg_M h) : Sm_ RV_ (j_X10_closeSign_246 nn 49 l1 49 (H_M h)) (qj_X10_closeSign_246 nn y_l1 h) := by
  unfold j_X10_closeSign_246 qj_X10_closeSign_246
  exact sj_X10_closeSign_251 nn e_l1 rfl hM_h
set_option maxRecDepth 4000 in
theorem sj_X10_closeSign_212 (nn : Nat) {l1 : Int32} {y_l1 : Int} (e_l1 : l1.toInt = y_l1) {l2 : Int32} {y_l2 : Int} (e_l2 : l2.toInt = y_l2) {s0 : Int32} {y_s0 : Int} (e_s0 : s0.toInt = y_s0) {h : ms_M} (hM_h : Rg_M h) : Sm_ RV_ (j_X10_closeSign_212 nn 49 l1 l2 s0 (H_M h)) (qj_X10_closeSign_212 nn y_l1 y_l2 y_s0 h) := by
  unfold j_X10_closeSign_212 qj_X10_closeSign_212
  refine sm_gi hM_h rfl ?_; intro v22 e_v22
  refine sm_ne e_l2 e_v22 ?_ ?_
  · exact sj_X10_closeSign_250 nn e_l1 hM_h
  · refine sm_gi hM_h rfl ?_; intro v23 e_v23
    refine sm_eq e_v23 rfl ?_ ?_
    · exact sj_X10_closeSign_246 nn e_l1 hM_h
    · refine sm_eq e_s0 rfl ?_ ?_
      · exact sj_X10_closeSign_250 nn e_l1 hM_h
      · refine sm_gi hM_h rfl ?_; intro v24 e_v24
        refine sm_ne e_v24 rfl ?_ ?_
        · exact sj_X10_closeSign_250 nn e_l1 hM_h
        · exact sj_X10_closeSign_246 nn e_l1 hM_h
set_option maxRecDepth 4000 in
theorem sj_X10_closeSign_207 (nn : Nat) {l1 : Int32} {y_l1 : Int} (e_l1 : l1.toInt = y_l1) {l2 : Int32} {y_l2 : Int} (e_l2 : l2.toInt = y_l2) {h : ms_M} (hM_h : Rg_M h) : Sm_ RV_ (j_X10_closeSign_207 nn 49 l1 l2 (H_M h)) (qj_X10_closeSign_207 nn y_l1 y_l2 h) := by
  unfold j_X10_closeSign_207 qj_X10_closeSign_207
  exact sj_X10_closeSign_212 nn e_l1 e_l2 rfl hM_h
set_option maxRecDepth 4000 in
theorem sj_X10_closeSign_154 (nn : Nat) {l1 : Int32} {y_l1 : Int} (e_l1 : l1.toInt = y_l1) {s0 : Int32} {y_s0 : Int} (e_s0 : s0.toInt = y_s0) {h : ms_M} (hM_h : Rg_M h) : Sm_ RV_ (j_X10_closeSign_154 nn 49 l1 s0 49 (H_M h)) (qj_X10_closeSign_154 nn y_l1 y_s0 h) := by
  unfold j_X10_closeSign_154 qj_X10_closeSign_154
  refine sm_gr hM_h (d := 51) rfl ?_
  refine sm_gi hM_h rfl ?_; intro v30 e_v30
  refine sm_ai hM_h rfl e_v30 ?_; intro v31 y_v31 e_v31
  refine sm_is hM_h rfl ?_
  refine sm_cV (sf_X10_wantType nn e_s0 e_v31 hM_h) ?_; intro u33 hM_u33
  refine sm_gr hM_u33 (d := 34) rfl ?_
  refine sm_cP (sf_X10_compareOp nn e_l1 rfl hM_u33) ?_; intro u35 y_u35 e_u35
  refine sm_is hM_u33 rfl ?_
  refine sm_cV (sf_X1_truth nn e_u35 rfl hM_u33) ?_; intro u37 hM_u37
  refine sm_pv hM_u37 rfl rfl ?_; intro h38 hM_h38
  exact sj_X10_closeSign_293 nn hM_h38
set_option maxRecDepth 4000 in
theorem sj_X10_closeSign_153 (nn : Nat) {l1 : Int32} {y_l1 : Int} (e_l1 : l1.toInt = y_l1) {h : ms_M} (hM_h : Rg_M h) : Sm_ RV_ (j_X10_closeSign_153 nn 49 l1 49 (H_M h)) (qj_X10_closeSign_153 nn y_l1 h) := by
  unfold j_X10_closeSign_153 qj_X10_closeSign_153
  exact sj_X10_closeSign_154 nn e_l1 rfl hM_h
set_option maxRecDepth 4000 in
theorem sj_X10_closeSign_71 (nn : Nat) {l1 : Int32} {y_l1 : Int} (e_l1 : l1.toInt = y_l1) {l2 : Int32} {y_l2 : Int} (e_l2 : l2.toInt = y_l2) {h : ms_M} (hM_h : Rg_M h) : Sm_ RV_ (j_X10_closeSign_71 nn 49 l1 l2 (H_M h)) (qj_X10_closeSign_71 nn y_l1 y_l2 h) := by
  unfold j_X10_closeSign_71 qj_X10_closeSign_71
  refine sm_gi hM_h rfl ?_; intro v39 e_v39
  refine sm_is hM_h rfl ?_
  refine sm_cP (sf_X10_isPair nn e_l2 e_v39 hM_h) ?_; intro u41 y_u41 e_u41
  refine sm_gr hM_h (d := 51) rfl ?_
  refine sm_gi hM_h rfl ?_; intro v43 e_v43
  refine sm_ai hM_h rfl e_v43 ?_; intro v44 y_v44 e_v44
  refine sm_is hM_h rfl ?_
  refine sm_cV (sf_X10_wantType nn e_u41 e_v44 hM_h) ?_; intro u46 hM_u46
  refine sm_gr hM_u46 (d := 34) rfl ?_
  refine sm_gi hM_u46 rfl ?_; intro v48 e_v48
  refine sm_cP (sf_X4_isNumber nn e_v48 hM_u46) ?_; intro u49 y_u49 e_u49
  refine sm_cP (sf_X10_compareOp nn e_l1 e_u49 hM_u46) ?_; intro u50 y_u50 e_u50
  refine sm_is hM_u46 rfl ?_
  refine sm_cV (sf_X1_truth nn e_u50 rfl hM_u46) ?_; intro u52 hM_u52
  refine sm_pv hM_u52 rfl rfl ?_; intro h53 hM_h53
  exact sj_X10_closeSign_293 nn hM_h53
set_option maxRecDepth 4000 in
theorem sj_X10_closeSign_42 (nn : Nat) {l1 : Int32} {y_l1 : Int} (e_l1 : l1.toInt = y_l1) {h : ms_M} (hM_h : Rg_M h) : Sm_ RV_ (j_X10_closeSign_42 nn 49 l1 (H_M h)) (qj_X10_closeSign_42 nn y_l1 h) := by
  unfold j_X10_closeSign_42 qj_X10_closeSign_42
  refine sm_gr hM_h (d := 54) rfl ?_
  refine sm_gi hM_h rfl ?_; intro v55 e_v55
  refine sm_ai hM_h rfl e_v55 ?_; intro v56 y_v56 e_v56
  refine sm_is hM_h rfl ?_
  refine sm_cV (sf_X10_closeShort nn e_l1 e_v56 hM_h) ?_; intro u58 hM_u58
  exact sj_X10_closeSign_293 nn hM_u58
set_option maxRecDepth 4000 in
theorem sf_X10_closeSign (nn : Nat) {h : ms_M} (hM_h : Rg_M h) : Sm_ RV_ (f_X10_closeSign nn 49 (H_M h)) (qf_X10_closeSign nn h) := by
  unfold f_X10_closeSign qf_X10_closeSign
  refine sm_gi hM_h rfl ?_; intro v59 e_v59
  refine sm_oq_sub e_v59 rfl ?_; intro v60 y_v60 e_v60
  refine sm_pv hM_h rfl e_v60 ?_; intro h61 hM_h61
  refine sm_gr hM_h61 (d := 50) rfl ?_
  refine sm_gi hM_h61 rfl ?_; intro v63 e_v63
  refine sm_ai hM_h61 rfl e_v63 ?_; intro v64 y_v64 e_v64
  refine sm_gr hM_h61 (d := 53) rfl ?_
  refine sm_gi hM_h61 rfl ?_; intro v66 e_v66
  refine sm_ai hM_h61 rfl e_v66 ?_; intro v67 y_v67 e_v67
  refine sm_eq e_v64 rfl ?_ ?_
  · exact sj_X10_closeSign_42 nn e_v64 hM_h61
  · refine sm_ne e_v64 rfl ?_ ?_
    · refine sm_eq e_v64 rfl ?_ ?_
      · exact sj_X10_closeSign_71 nn e_v64 e_v67 hM_h61
      · refine sm_ne e_v64 rfl ?_ ?_
        · refine sm_cP (sf_X9_level nn e_v64 hM_h61) ?_; intro u68 y_u68 e_u68
          refine sm_ne e_u68 rfl ?_ ?_
          · refine sm_eq e_v64 rfl ?_ ?_
            · exact sj_X10_closeSign_207 nn e_v64 e_v67 hM_h61
            · refine sm_eq e_v64 rfl ?_ ?_
              · exact sj_X10_closeSign_207 nn e_v64 e_v67 hM_h61
              · refine sm_ne e_v64 rfl ?_ ?_
                · exact sj_X10_closeSign_212 nn e_v64 e_v67 rfl hM_h61
                · exact sj_X10_closeSign_207 nn e_v64 e_v67 hM_h61
          · refine sm_ne e_v67 rfl ?_ ?_
            · exact sj_X10_closeSign_153 nn e_v64 hM_h61
            · refine sm_gi hM_h61 rfl ?_; intro v72 e_v72
              refine sm_ne e_v72 rfl ?_ ?_
              · exact sj_X10_closeSign_153 nn e_v64 hM_h61
              · exact sj_X10_closeSign_154 nn e_v64 rfl hM_h61
        · exact sj_X10_closeSign_71 nn e_v64 e_v67 hM_h61
    · exact sj_X10_closeSign_42 nn e_v64 hM_h61
set_option maxRecDepth 4000 in
theorem sf_X10_isSignDue (nn : Nat) {a1 : Int32} {y_a1 : Int} (e_a1 : a1.toInt = y_a1) {a2 : Int32} {y_a2 : Int} (e_a2 : a2.toInt = y_a2) {h : ms_M} (hM_h : Rg_M h) : Sm_ (RP_ h) (f_X10_isSignDue nn 49 a1 a2 (H_M h)) (qf_X10_isSignDue nn y_a1 y_a2 h) := by
  unfold f_X10_isSignDue qf_X10_isSignDue
  refine sm_gi hM_h rfl ?_; intro v1 e_v1
  refine sm_le e_v1 e_a1 ?_ ?_
  · exact sm_rP rfl
  · refine sm_gr hM_h (d := 50) rfl ?_
    refine sm_gi hM_h rfl ?_; intro v3 e_v3
    refine sm_oq_sub e_v3 rfl ?_; intro v4 y_v4 e_v4
    refine sm_ai hM_h rfl e_v4 ?_; intro v5 y_v5 e_v5
    refine sm_cP (sf_X9_level nn e_v5 hM_h) ?_; intro u6 y_u6 e_u6
    refine sm_lt e_u6 e_a2 ?_ ?_
    · exact sm_rP rfl
    · exact sm_rP rfl
set_option maxRecDepth 4000 in
theorem sf_X9_kind (nn : Nat) {h : ms_M} (hM_h : Rg_M h) : Sm_ (RP_ h) (f_X9_kind nn 2 (H_M h)) (qf_X9_kind nn h) := by
  unfold f_X9_kind qf_X9_kind
  refine sm_gi hM_h rfl ?_; intro v1 e_v1
  refine sm_ne e_v1 rfl ?_ ?_
  · exact sm_rP rfl
  · refine sm_gi hM_h rfl ?_; intro v2 e_v2
    refine sm_lt e_v2 rfl ?_ ?_
    · exact sm_rP rfl
    · refine sm_gi hM_h rfl ?_; intro v3 e_v3
      refine sm_gi hM_h rfl ?_; intro v4 e_v4
      refine sm_le e_v4 e_v3 ?_ ?_
      · exact sm_rP rfl
      · refine sm_gr hM_h (d := 3) rfl ?_
        refine sm_gi hM_h rfl ?_; intro v6 e_v6
        refine sm_ai hM_h rfl e_v6 ?_; intro v7 y_v7 e_v7
        exact sm_rP e_v7
set_option maxRecDepth 4000 in
theorem sj_X10_openSign_159 (nn : Nat) {h : ms_M} (hM_h : Rg_M h) : Sm_ RV_ (j_X10_openSign_159 nn 49 (H_M h)) (qj_X10_openSign_159 nn h) := by
  unfold j_X10_openSign_159 qj_X10_openSign_159
  refine sm_gr hM_h (d := 2) rfl ?_
  refine sm_gi hM_h rfl ?_; intro v2 e_v2
  refine sm_oq_add e_v2 rfl ?_; intro v3 y_v3 e_v3
  refine sm_pv hM_h rfl e_v3 ?_; intro h4 hM_h4
  exact sm_rV hM_h4
set_option maxRecDepth 4000 in
theorem sj_X10_openSign_149 (nn : Nat) {h : ms_M} (hM_h : Rg_M h) : Sm_ RV_ (j_X10_openSign_149 nn 49 (H_M h)) (qj_X10_openSign_149 nn h) := by
  unfold j_X10_openSign_149 qj_X10_openSign_149
  refine sm_gi hM_h rfl ?_; intro v5 e_v5
  refine sm_oq_add e_v5 rfl ?_; intro v6 y_v6 e_v6
  refine sm_pv hM_h rfl e_v6 ?_; intro h7 hM_h7
  exact sj_X10_openSign_159 nn hM_h7
set_option maxRecDepth 4000 in
theorem sj_X10_openSign_144 (nn : Nat) {s0 : Int32} {y_s0 : Int} (e_s0 : s0.toInt = y_s0) {s2 : Int32} {y_s2 : Int} (e_s2 : s2.toInt = y_s2) {h : ms_M} (hM_h : Rg_M h) : Sm_ RV_ (j_X10_openSign_144 nn 49 s0 34 s2 54 (H_M h)) (qj_X10_openSign_144 nn y_s0 y_s2 h) := by
  unfold j_X10_openSign_144 qj_X10_openSign_144
  refine sm_is hM_h rfl ?_
  refine sm_cI (sf_X1_jump nn e_s0 rfl hM_h) ?_; intro u9 y_u9 M_u9 e_u9 hM_u9
  refine sm_si hM_u9 rfl e_s2 e_u9 ?_; intro h10 hM_h10
  exact sj_X10_openSign_149 nn hM_h10
set_option maxRecDepth 4000 in
theorem sj_X10_openSign_110 (nn : Nat) {l1 : Int32} {y_l1 : Int} (e_l1 : l1.toInt = y_l1) {s0 : Int32} {y_s0 : Int} (e_s0 : s0.toInt = y_s0) {h : ms_M} (hM_h : Rg_M h) : Sm_ RV_ (j_X10_openSign_110 nn 49 l1 s0 49 (H_M h)) (qj_X10_openSign_110 nn y_l1 y_s0 h) := by
  unfold j_X10_openSign_110 qj_X10_openSign_110
  refine sm_gi hM_h rfl ?_; intro v11 e_v11
  refine sm_is hM_h rfl ?_
  refine sm_cV (sf_X10_wantType nn e_s0 e_v11 hM_h) ?_; intro u13 hM_u13
  refine sm_gr hM_u13 (d := 54) rfl ?_
  refine sm_gi hM_u13 rfl ?_; intro v15 e_v15
  refine sm_gr hM_u13 (d := 34) rfl ?_
  refine sm_ne e_l1 rfl ?_ ?_
  · exact sj_X10_openSign_144 nn rfl e_v15 hM_u13
  · exact sj_X10_openSign_144 nn rfl e_v15 hM_u13
set_option maxRecDepth 4000 in
theorem sj_X10_openSign_94 (nn : Nat) {l1 : Int32} {y_l1 : Int} (e_l1 : l1.toInt = y_l1) {h : ms_M} (hM_h : Rg_M h) : Sm_ RV_ (j_X10_openSign_94 nn 49 l1 (H_M h)) (qj_X10_openSign_94 nn y_l1 h) := by
  unfold j_X10_openSign_94 qj_X10_openSign_94
  refine sm_gi hM_h rfl ?_; intro v18 e_v18
  refine sm_ne e_v18 rfl ?_ ?_
  · exact sj_X10_openSign_110 nn e_l1 rfl hM_h
  · exact sj_X10_openSign_110 nn e_l1 rfl hM_h
set_option maxRecDepth 4000 in
theorem sf_X10_openSign (nn : Nat) {h : ms_M} (hM_h : Rg_M h) : Sm_ RV_ (f_X10_openSign nn 49 (H_M h)) (qf_X10_openSign nn h) := by
  unfold f_X10_openSign qf_X10_openSign
  refine sm_gr hM_h (d := 2) rfl ?_
  refine sm_is hM_h rfl ?_
  refine sm_cP (sf_X9_kind nn hM_h) ?_; intro u22 y_u22 e_u22
  refine sm_gi hM_h rfl ?_; intro v23 e_v23
  refine sm_gr hM_h (d := 50) rfl ?_
  refine sm_ln hM_h (z := 420) rfl ?_; intro v25 e_v25
  refine sm_le e_v25 e_v23 ?_ ?_
  · exact sj_X10_openSign_159 nn hM_h
  · refine sm_gr hM_h (d := 50) rfl ?_
    refine sm_gi hM_h rfl ?_; intro v27 e_v27
    refine sm_si hM_h rfl e_v27 e_u22 ?_; intro h28 hM_h28
    refine sm_gr hM_h28 (d := 51) rfl ?_
    refine sm_gi hM_h28 rfl ?_; intro v30 e_v30
    refine sm_gr hM_h28 (d := 2) rfl ?_
    refine sm_gi hM_h28 rfl ?_; intro v32 e_v32
    refine sm_si hM_h28 rfl e_v30 e_v32 ?_; intro h33 hM_h33
    refine sm_gr hM_h33 (d := 52) rfl ?_
    refine sm_gi hM_h33 rfl ?_; intro v35 e_v35
    refine sm_gi hM_h33 rfl ?_; intro v36 e_v36
    refine sm_si hM_h33 rfl e_v35 e_v36 ?_; intro h37 hM_h37
    refine sm_gr hM_h37 (d := 53) rfl ?_
    refine sm_gi hM_h37 rfl ?_; intro v39 e_v39
    refine sm_gi hM_h37 rfl ?_; intro v40 e_v40
    refine sm_si hM_h37 rfl e_v39 e_v40 ?_; intro h41 hM_h41
    refine sm_gr hM_h41 (d := 54) rfl ?_
    refine sm_gi hM_h41 rfl ?_; intro v43 e_v43
    refine sm_si hM_h41 rfl e_v43 rfl ?_; intro h44 hM_h44
    refine sm_eq e_u22 rfl ?_ ?_
    · exact sj_X10_openSign_94 nn e_u22 hM_h44
    · refine sm_ne e_u22 rfl ?_ ?_
      · exact sj_X10_openSign_149 nn hM_h44
      · exact sj_X10_openSign_94 nn e_u22 hM_h44
set_option maxRecDepth 4000 in
theorem sf_X9_kindAt (nn : Nat) {a1 : Int32} {y_a1 : Int} (e_a1 : a1.toInt = y_a1) {h : ms_M} (hM_h : Rg_M h) : Sm_ (RP_ h) (f_X9_kindAt nn 2 a1 (H_M h)) (qf_X9_kindAt nn y_a1 h) := by
  unfold f_X9_kindAt qf_X9_kindAt
  refine sm_lt e_a1 rfl ?_ ?_
  · exact sm_rP rfl
  · refine sm_gi hM_h rfl ?_; intro v1 e_v1
    refine sm_le e_v1 e_a1 ?_ ?_
    · exact sm_rP rfl
    · refine sm_gr hM_h (d := 3) rfl ?_
      refine sm_ai hM_h rfl e_a1 ?_; intro v3 y_v3 e_v3
      exact sm_rP e_v3
set_option maxRecDepth 4000 in
theorem sf_X9_valueAt (nn : Nat) {a1 : Int32} {y_a1 : Int} (e_a1 : a1.toInt = y_a1) {h : ms_M} (hM_h : Rg_M h) : Sm_ (RP_ h) (f_X9_valueAt nn 2 a1 (H_M h)) (qf_X9_valueAt nn y_a1 h) := by
  unfold f_X9_valueAt qf_X9_valueAt
  refine sm_lt e_a1 rfl ?_ ?_
  · exact sm_rP rfl
  · refine sm_gi hM_h rfl ?_; intro v1 e_v1
    refine sm_le e_v1 e_a1 ?_ ?_
    · exact sm_rP rfl
    · refine sm_gr hM_h (d := 5) rfl ?_
      refine sm_ai hM_h rfl e_a1 ?_; intro v3 y_v3 e_v3
      exact sm_rP e_v3
set_option maxRecDepth 4000 in
theorem sf_X2_classAt (nn : Nat) {a1 : Int32} {y_a1 : Int} (e_a1 : a1.toInt = y_a1) {h : ms_M} (hM_h : Rg_M h) : Sm_ (RP_ h) (f_X2_classAt nn 11 a1 (H_M h)) (qf_X2_classAt nn y_a1 h) := by
  unfold f_X2_classAt qf_X2_classAt
  refine sm_gr hM_h (d := 2) rfl ?_
  refine sm_is hM_h rfl ?_
  refine sm_cP (sf_X9_valueAt nn e_a1 hM_h) ?_; intro u3 y_u3 e_u3
  refine sm_gr hM_h (d := 2) rfl ?_
  refine sm_is hM_h rfl ?_
  refine sm_cP (sf_X9_kindAt nn e_a1 hM_h) ?_; intro u6 y_u6 e_u6
  refine sm_ne e_u6 rfl ?_ ?_
  · exact sm_rP rfl
  · refine sm_gr hM_h (d := 16) rfl ?_
    refine sm_ln hM_h (z := 1740) rfl ?_; intro v8 e_v8
    refine sm_le e_v8 e_u3 ?_ ?_
    · exact sm_rP rfl
    · refine sm_gr hM_h (d := 16) rfl ?_
      refine sm_ai hM_h rfl e_u3 ?_; intro v10 y_v10 e_v10
      exact sm_rP e_v10
set_option maxRecDepth 4000 in
theorem sj_X10_readNamedClass_23 (nn : Nat) {l2 : Int32} {y_l2 : Int} (e_l2 : l2.toInt = y_l2) {l3 : Int32} {y_l3 : Int} (e_l3 : l3.toInt = y_l3) {h : ms_M} (hM_h : Rg_M h) : Sm_ RI_ (j_X10_readNamedClass_23 nn 49 l2 l3 (H_M h)) (qj_X10_readNamedClass_23 nn y_l2 y_l3 h) := by
  unfold j_X10_readNamedClass_23 qj_X10_readNamedClass_23
  refine sm_gr hM_h (d := 2) rfl ?_
  refine sm_pv hM_h rfl e_l2 ?_; intro h2 hM_h2
  exact sm_rI e_l3 hM_h2
set_option maxRecDepth 4000 in
theorem sf_X10_readNamedClass (nn : Nat) {a1 : Int32} {y_a1 : Int} (e_a1 : a1.toInt = y_a1) {a2 : Int32} {y_a2 : Int} (e_a2 : a2.toInt = y_a2) {h : ms_M} (hM_h : Rg_M h) : Sm_ RI_ (f_X10_readNamedClass nn 49 a1 a2 (H_M h)) (qf_X10_readNamedClass nn y_a1 y_a2 h) := by
  unfold f_X10_readNamedClass qf_X10_readNamedClass
  refine sm_gr hM_h (d := 11) rfl ?_
  refine sm_is hM_h rfl ?_
  refine sm_cP (sf_X2_classAt nn e_a1 hM_h) ?_; intro u5 y_u5 e_u5
  refine sm_ne e_u5 rfl ?_ ?_
  · exact sj_X10_readNamedClass_23 nn e_a2 e_u5 hM_h
  · refine sm_gr hM_h (d := 2) rfl ?_
    refine sm_is hM_h rfl ?_
    refine sm_cV (sf_X9_tell nn rfl e_a1 hM_h) ?_; intro u8 hM_u8
    exact sj_X10_readNamedClass_23 nn e_a2 e_u5 hM_u8
set_option maxRecDepth 4000 in
theorem sj_X10_wantKinOf_30 (nn : Nat) {l2 : Int32} {y_l2 : Int} (e_l2 : l2.toInt = y_l2) {h : ms_M} (hM_h : Rg_M h) : Sm_ RV_ (j_X10_wantKinOf_30 nn l2 49 (H_M h)) (qj_X10_wantKinOf_30 nn y_l2 h) := by
  unfold j_X10_wantKinOf_30 qj_X10_wantKinOf_30
  refine sm_is hM_h rfl ?_
  refine sm_cV (sf_X10_wantType nn rfl e_l2 hM_h) ?_; intro u2 hM_u2
  exact sm_rV hM_u2
set_option maxRecDepth 4000 in
theorem sf_X10_wantKinOf (nn : Nat) {a1 : Int32} {y_a1 : Int} (e_a1 : a1.toInt = y_a1) {a2 : Int32} {y_a2 : Int} (e_a2 : a2.toInt = y_a2) {h : ms_M} (hM_h : Rg_M h) : Sm_ RV_ (f_X10_wantKinOf nn 49 a1 a2 (H_M h)) (qf_X10_wantKinOf nn y_a1 y_a2 h) := by
  unfold f_X10_wantKinOf qf_X10_wantKinOf
  refine sm_gi hM_h rfl ?_; intro v3 e_v3
  refine sm_cP (sf_X4_isReference nn e_v3 hM_h) ?_; intro u4 y_u4 e_u4
  refine sm_eq e_u4 rfl ?_ ?_
  · exact sj_X10_wantKinOf_30 nn e_a2 hM_h
  · refine sm_gr hM_h (d := 12) rfl ?_
    refine sm_gi hM_h rfl ?_; intro v6 e_v6
    refine sm_is hM_h rfl ?_
    refine sm_cP (sf_X4_oneFits nn e_v6 e_a1 hM_h) ?_; intro u8 y_u8 e_u8
    refine sm_eq e_u8 rfl ?_ ?_
    · exact sj_X10_wantKinOf_30 nn e_a2 hM_h
    · refine sm_is hM_h rfl ?_
      refine sm_cV (sf_X10_wantType nn rfl e_a2 hM_h) ?_; intro u10 hM_u10
      exact sm_rV hM_u10
set_option maxRecDepth 4000 in
theorem sf_X1_op_ (nn : Nat) {a1 : Int32} {y_a1 : Int} (e_a1 : a1.toInt = y_a1) {a2 : Int32} {y_a2 : Int} (e_a2 : a2.toInt = y_a2) {h : ms_M} (hM_h : Rg_M h) : Sm_ RV_ (f_X1_op_ nn 34 a1 a2 (H_M h)) (qf_X1_op_ nn y_a1 y_a2 h) := by
  unfold f_X1_op_ qf_X1_op_
  refine sm_is hM_h rfl ?_
  refine sm_cV (sf_X1_op nn e_a1 hM_h) ?_; intro u2 hM_u2
  refine sm_is hM_u2 rfl ?_
  refine sm_cV (sf_X1_op nn e_a2 hM_u2) ?_; intro u4 hM_u4
  exact sm_rV hM_u4
set_option maxRecDepth 4000 in
theorem sj_X10_readInstanceof_66 (nn : Nat) {h : ms_M} (hM_h : Rg_M h) : Sm_ RV_ (j_X10_readInstanceof_66 nn 49 (H_M h)) (qj_X10_readInstanceof_66 nn h) := by
  unfold j_X10_readInstanceof_66 qj_X10_readInstanceof_66
  refine sm_pv hM_h rfl rfl ?_; intro h1 hM_h1
  refine sm_pv hM_h1 rfl rfl ?_; intro h2 hM_h2
  exact sm_rV hM_h2
set_option maxRecDepth 4000 in
theorem sf_X10_readInstanceof (nn : Nat) {h : ms_M} (hM_h : Rg_M h) : Sm_ RV_ (f_X10_readInstanceof nn 49 (H_M h)) (qf_X10_readInstanceof nn h) := by
  unfold f_X10_readInstanceof qf_X10_readInstanceof
  refine sm_gr hM_h (d := 2) rfl ?_
  refine sm_gi hM_h rfl ?_; intro v4 e_v4
  refine sm_oq_add e_v4 rfl ?_; intro v5 y_v5 e_v5
  refine sm_oq_add e_v5 rfl ?_; intro v6 y_v6 e_v6
  refine sm_is hM_h rfl ?_
  refine sm_cI (sf_X10_readNamedClass nn e_v5 e_v6 hM_h) ?_; intro u8 y_u8 M_u8 e_u8 hM_u8
  refine sm_eq e_u8 rfl ?_ ?_
  · exact sj_X10_readInstanceof_66 nn hM_u8
  · refine sm_is hM_u8 rfl ?_
    refine sm_cV (sf_X10_wantKinOf nn e_u8 e_v5 hM_u8) ?_; intro u10 hM_u10
    refine sm_gr hM_u10 (d := 34) rfl ?_
    refine sm_gr hM_u10 (d := 45) rfl ?_
    refine sm_is hM_u10 rfl ?_
    refine sm_cI (sf_X6_classOf nn e_u8 hM_u10) ?_; intro u14 y_u14 M_u14 e_u14 hM_u14
    refine sm_is hM_u14 rfl ?_
    refine sm_cV (sf_X1_op_ nn rfl e_u14 hM_u14) ?_; intro u16 hM_u16
    refine sm_gr hM_u16 (d := 34) rfl ?_
    refine sm_is hM_u16 rfl ?_
    refine sm_cV (sf_X1_pop nn rfl hM_u16) ?_; intro u19 hM_u19
    refine sm_gr hM_u19 (d := 34) rfl ?_
    refine sm_is hM_u19 rfl ?_
    refine sm_cV (sf_X1_push nn rfl hM_u19) ?_; intro u22 hM_u22
    exact sj_X10_readInstanceof_66 nn hM_u22
set_option maxRecDepth 4000 in
theorem sf_X10_closeCast (nn : Nat) {a1 : Int32} {y_a1 : Int} (e_a1 : a1.toInt = y_a1) {a2 : Int32} {y_a2 : Int} (e_a2 : a2.toInt = y_a2) {h : ms_M} (hM_h : Rg_M h) : Sm_ RV_ (f_X10_closeCast nn 49 a1 a2 (H_M h)) (qf_X10_closeCast nn y_a1 y_a2 h) := by
  unfold f_X10_closeCast qf_X10_closeCast
  refine sm_pv hM_h rfl rfl ?_; intro h1 hM_h1
  refine sm_ne e_a1 rfl ?_ ?_
  · refine sm_is hM_h1 rfl ?_
    refine sm_cV (sf_X10_wantKinOf nn e_a1 e_a2 hM_h1) ?_; intro u3 hM_u3
    refine sm_gr hM_u3 (d := 34) rfl ?_
    refine sm_gr hM_u3 (d := 45) rfl ?_
    refine sm_is hM_u3 rfl ?_
    refine sm_cI (sf_X6_classOf nn e_a1 hM_u3) ?_; intro u7 y_u7 M_u7 e_u7 hM_u7
    refine sm_is hM_u7 rfl ?_
    refine sm_cV (sf_X1_op_ nn rfl e_u7 hM_u7) ?_; intro u9 hM_u9
    refine sm_gr hM_u9 (d := 34) rfl ?_
    refine sm_is hM_u9 rfl ?_
    refine sm_cV (sf_X1_pop nn rfl hM_u9) ?_; intro u12 hM_u12
    refine sm_gr hM_u12 (d := 34) rfl ?_
    refine sm_is hM_u12 rfl ?_
    refine sm_cV (sf_X1_push nn e_a1 hM_u12) ?_; intro u15 hM_u15
    refine sm_pv hM_u15 rfl e_a1 ?_; intro h16 hM_h16
    exact sm_rV hM_h16
  · exact sm_rV hM_h1
set_option maxRecDepth 4000 in
theorem sj_X10_closeUnary_62 (nn : Nat) {l1 : Int32} {y_l1 : Int} (e_l1 : l1.toInt = y_l1) {l2 : Int32} {y_l2 : Int} (e_l2 : l2.toInt = y_l2) {s0 : Int32} {y_s0 : Int} (e_s0 : s0.toInt = y_s0) {h : ms_M} (hM_h : Rg_M h) : Sm_ RV_ (j_X10_closeUnary_62 nn 49 l1 l2 s0 49 (H_M h)) (qj_X10_closeUnary_62 nn y_l1 y_l2 y_s0 h) := by
  unfold j_X10_closeUnary_62 qj_X10_closeUnary_62
  refine sm_is hM_h rfl ?_
  refine sm_cV (sf_X10_wantType nn e_s0 e_l2 hM_h) ?_; intro u2 hM_u2
  refine sm_ne e_l1 rfl ?_ ?_
  · refine sm_gr hM_u2 (d := 34) rfl ?_
    refine sm_is hM_u2 rfl ?_
    refine sm_cV (sf_X1_push nn rfl hM_u2) ?_; intro u5 hM_u5
    refine sm_gr hM_u5 (d := 34) rfl ?_
    refine sm_is hM_u5 rfl ?_
    refine sm_cV (sf_X1_op_ nn rfl rfl hM_u5) ?_; intro u8 hM_u8
    refine sm_gr hM_u8 (d := 34) rfl ?_
    refine sm_is hM_u8 rfl ?_
    refine sm_cV (sf_X1_pop nn rfl hM_u8) ?_; intro u11 hM_u11
    exact sm_rV hM_u11
  · refine sm_gr hM_u2 (d := 34) rfl ?_
    refine sm_is hM_u2 rfl ?_
    refine sm_cV (sf_X1_op nn rfl hM_u2) ?_; intro u14 hM_u14
    exact sm_rV hM_u14
set_option maxRecDepth 4000 in
theorem sj_X10_closeUnary_27 (nn : Nat) {s0 : Int32} {y_s0 : Int} (e_s0 : s0.toInt = y_s0) {h : ms_M} (hM_h : Rg_M h) : Sm_ RV_ (j_X10_closeUnary_27 nn 49 s0 49 (H_M h)) (qj_X10_closeUnary_27 nn y_s0 h) := by
  unfold j_X10_closeUnary_27 qj_X10_closeUnary_27
  refine sm_gi hM_h rfl ?_; intro v16 e_v16
  refine sm_is hM_h rfl ?_
  refine sm_cV (sf_X10_wantType nn e_s0 e_v16 hM_h) ?_; intro u18 hM_u18
  refine sm_gr hM_u18 (d := 34) rfl ?_
  refine sm_is hM_u18 rfl ?_
  refine sm_cV (sf_X1_truth nn rfl rfl hM_u18) ?_; intro u21 hM_u21
  exact sm_rV hM_u21
set_option maxRecDepth 4000 in
theorem sf_X10_closeUnary (nn : Nat) {a1 : Int32} {y_a1 : Int} (e_a1 : a1.toInt = y_a1) {a2 : Int32} {y_a2 : Int} (e_a2 : a2.toInt = y_a2) {h : ms_M} (hM_h : Rg_M h) : Sm_ RV_ (f_X10_closeUnary nn 49 a1 a2 (H_M h)) (qf_X10_closeUnary nn y_a1 y_a2 h) := by
  unfold f_X10_closeUnary qf_X10_closeUnary
  refine sm_pv hM_h rfl rfl ?_; intro h22 hM_h22
  refine sm_ne e_a1 rfl ?_ ?_
  · refine sm_gi hM_h22 rfl ?_; intro v23 e_v23
    refine sm_ne e_v23 rfl ?_ ?_
    · exact sj_X10_closeUnary_62 nn e_a1 e_a2 rfl hM_h22
    · exact sj_X10_closeUnary_62 nn e_a1 e_a2 rfl hM_h22
  · refine sm_gi hM_h22 rfl ?_; intro v25 e_v25
    refine sm_ne e_v25 rfl ?_ ?_
    · exact sj_X10_closeUnary_27 nn rfl hM_h22
    · exact sj_X10_closeUnary_27 nn rfl hM_h22
set_option maxRecDepth 4000 in
theorem sf_X6_fieldOf (nn : Nat) {a1 : Int32} {y_a1 : Int} (e_a1 : a1.toInt = y_a1) {a2 : Int32} {y_a2 : Int} (e_a2 : a2.toInt = y_a2) {h : ms_M} (hM_h : Rg_M h) : Sm_ RI_ (f_X6_fieldOf nn 45 a1 a2 (H_M h)) (qf_X6_fieldOf nn y_a1 y_a2 h) := by
  unfold f_X6_fieldOf qf_X6_fieldOf
  refine sm_is hM_h rfl ?_
  refine sm_cI (sf_X6_classOf nn e_a1 hM_h) ?_; intro u2 y_u2 M_u2 e_u2 hM_u2
  refine sm_gr hM_u2 (d := 11) rfl ?_
  refine sm_is hM_u2 rfl ?_
  refine sm_cP (sf_X2_nameOfField nn e_a2 hM_u2) ?_; intro u5 y_u5 e_u5
  refine sm_is hM_u2 rfl ?_
  refine sm_cI (sf_X6_constant nn rfl e_u5 hM_u2) ?_; intro u7 y_u7 M_u7 e_u7 hM_u7
  refine sm_oq_shl e_u2 rfl ?_; intro v8 y_v8 e_v8
  refine sm_oq_shl e_u7 rfl ?_; intro v9 y_v9 e_v9
  refine sm_oq_or e_v8 e_v9 ?_; intro v10 y_v10 e_v10
  refine sm_gr hM_u7 (d := 11) rfl ?_
  refine sm_is hM_u7 rfl ?_
  refine sm_cP (sf_X2_kindOfField nn e_a2 hM_u7) ?_; intro u13 y_u13 e_u13
  refine sm_is hM_u7 rfl ?_
  refine sm_cI (sf_X6_constant nn rfl e_u13 hM_u7) ?_; intro u15 y_u15 M_u15 e_u15 hM_u15
  refine sm_oq_or e_v10 e_u15 ?_; intro v16 y_v16 e_v16
  refine sm_is hM_u15 rfl ?_
  refine sm_cI (sf_X6_constant nn rfl e_v16 hM_u15) ?_; intro u18 y_u18 M_u18 e_u18 hM_u18
  exact sm_rI e_u18 hM_u18
set_option maxRecDepth 4000 in
theorem sj_X10_fetch_135 (nn : Nat) {h : ms_M} (hM_h : Rg_M h) : Sm_ RV_ (j_X10_fetch_135 nn 49 (H_M h)) (qj_X10_fetch_135 nn h) := by
  unfold j_X10_fetch_135 qj_X10_fetch_135
  refine sm_gr hM_h (d := 34) rfl ?_
  refine sm_gi hM_h rfl ?_; intro v2 e_v2
  refine sm_is hM_h rfl ?_
  refine sm_cV (sf_X1_push nn e_v2 hM_h) ?_; intro u4 hM_u4
  refine sm_pv hM_u4 rfl rfl ?_; intro h5 hM_h5
  exact sm_rV hM_h5
set_option maxRecDepth 4000 in
theorem sj_X10_fetch_120 (nn : Nat) {s0 : Int32} {y_s0 : Int} (e_s0 : s0.toInt = y_s0) {h : ms_M} (hM_h : Rg_M h) : Sm_ RV_ (j_X10_fetch_120 nn 49 s0 34 (H_M h)) (qj_X10_fetch_120 nn y_s0 h) := by
  unfold j_X10_fetch_120 qj_X10_fetch_120
  refine sm_is hM_h rfl ?_
  refine sm_cV (sf_X1_op nn e_s0 hM_h) ?_; intro u7 hM_u7
  refine sm_gr hM_u7 (d := 34) rfl ?_
  refine sm_is hM_u7 rfl ?_
  refine sm_cV (sf_X1_pop nn rfl hM_u7) ?_; intro u10 hM_u10
  exact sj_X10_fetch_135 nn hM_u10
set_option maxRecDepth 4000 in
theorem sj_X10_fetch_53 (nn : Nat) {s0 : Int32} {y_s0 : Int} (e_s0 : s0.toInt = y_s0) {h : ms_M} (hM_h : Rg_M h) : Sm_ RV_ (j_X10_fetch_53 nn 49 s0 34 (H_M h)) (qj_X10_fetch_53 nn y_s0 h) := by
  unfold j_X10_fetch_53 qj_X10_fetch_53
  refine sm_gi hM_h rfl ?_; intro v11 e_v11
  refine sm_is hM_h rfl ?_
  refine sm_cV (sf_X1_op_ nn e_s0 e_v11 hM_h) ?_; intro u13 hM_u13
  exact sj_X10_fetch_135 nn hM_u13
set_option maxRecDepth 4000 in
theorem sf_X10_fetch (nn : Nat) {h : ms_M} (hM_h : Rg_M h) : Sm_ RV_ (f_X10_fetch nn 49 (H_M h)) (qf_X10_fetch nn h) := by
  unfold f_X10_fetch qf_X10_fetch
  refine sm_gi hM_h rfl ?_; intro v14 e_v14
  refine sm_eq e_v14 rfl ?_ ?_
  · refine sm_gr hM_h (d := 34) rfl ?_
    refine sm_gi hM_h rfl ?_; intro v16 e_v16
    refine sm_cP (sf_X4_isNumber nn e_v16 hM_h) ?_; intro u17 y_u17 e_u17
    refine sm_eq e_u17 rfl ?_ ?_
    · exact sj_X10_fetch_53 nn rfl hM_h
    · exact sj_X10_fetch_53 nn rfl hM_h
  · refine sm_eq e_v14 rfl ?_ ?_
    · refine sm_gr hM_h (d := 34) rfl ?_
      refine sm_gr hM_h (d := 45) rfl ?_
      refine sm_gi hM_h rfl ?_; intro v21 e_v21
      refine sm_gi hM_h rfl ?_; intro v22 e_v22
      refine sm_is hM_h rfl ?_
      refine sm_cI (sf_X6_fieldOf nn e_v21 e_v22 hM_h) ?_; intro u24 y_u24 M_u24 e_u24 hM_u24
      refine sm_is hM_u24 rfl ?_
      refine sm_cV (sf_X1_op_ nn rfl e_u24 hM_u24) ?_; intro u26 hM_u26
      refine sm_gr hM_u26 (d := 34) rfl ?_
      refine sm_is hM_u26 rfl ?_
      refine sm_cV (sf_X1_pop nn rfl hM_u26) ?_; intro u29 hM_u29
      exact sj_X10_fetch_135 nn hM_u29
    · refine sm_eq e_v14 rfl ?_ ?_
      · refine sm_gr hM_h (d := 34) rfl ?_
        refine sm_gi hM_h rfl ?_; intro v31 e_v31
        refine sm_ne e_v31 rfl ?_ ?_
        · exact sj_X10_fetch_120 nn rfl hM_h
        · exact sj_X10_fetch_120 nn rfl hM_h
      · exact sm_rV hM_h
set_option maxRecDepth 4000 in
theorem sf_X10_give (nn : Nat) {a1 : Int32} {y_a1 : Int} (e_a1 : a1.toInt = y_a1) {h : ms_M} (hM_h : Rg_M h) : Sm_ RV_ (f_X10_give nn 49 a1 (H_M h)) (qf_X10_give nn y_a1 h) := by
  unfold f_X10_give qf_X10_give
  refine sm_gr hM_h (d := 34) rfl ?_
  refine sm_is hM_h rfl ?_
  refine sm_cV (sf_X1_push nn e_a1 hM_h) ?_; intro u3 hM_u3
  refine sm_pv hM_u3 rfl e_a1 ?_; intro h4 hM_h4
  refine sm_pv hM_h4 rfl rfl ?_; intro h5 hM_h5
  exact sm_rV hM_h5
