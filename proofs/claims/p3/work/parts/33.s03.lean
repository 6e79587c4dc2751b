set_option maxRecDepth 4000 in
theorem sf_X2_addKindByte (nn : Nat) {a1 : Int32} {y_a1 : Int} (e_a1 : a1.toInt = y_a1) {h : ms_M} (hM_h : Rg_M h) : Sm_ RV_ (f_X2_addKindByte nn 11 a1 (H_M h)) (qf_X2_addKindByte nn y_a1 h) := by
  unfold f_X2_addKindByte qf_X2_addKindByte
  refine sm_gi hM_h rfl ?_; intro v1 e_v1
  refine sm_gr hM_h (d := 31) rfl ?_
  refine sm_ln hM_h (z := 128) rfl ?_; intro v3 e_v3
  refine sm_le e_v3 e_v1 ?_ ?_
  · exact sm_rV hM_h
  · refine sm_gr hM_h (d := 31) rfl ?_
    refine sm_gi hM_h rfl ?_; intro v5 e_v5
    refine sm_oq_b e_a1 ?_; intro v6 y_v6 e_v6
    refine sm_sb hM_h rfl e_v5 e_v6 ?_; intro h7 hM_h7
    refine sm_gi hM_h7 rfl ?_; intro v8 e_v8
    refine sm_oq_add e_v8 rfl ?_; intro v9 y_v9 e_v9
    refine sm_pv hM_h7 rfl e_v9 ?_; intro h10 hM_h10
    exact sm_rV hM_h10
set_option maxRecDepth 4000 in
theorem sj_X2_addKind_20 (nn : Nat) {l2 : Int32} {y_l2 : Int} (e_l2 : l2.toInt = y_l2) {h : ms_M} (hM_h : Rg_M h) : Sm_ RV_ (j_X2_addKind_20 nn 11 l2 (H_M h)) (qj_X2_addKind_20 nn y_l2 h) := by
  unfold j_X2_addKind_20 qj_X2_addKind_20
  refine sm_cP (sf_X4_isClass nn e_l2 hM_h) ?_; intro u1 y_u1 e_u1
  refine sm_ne e_u1 rfl ?_ ?_
  · refine sm_is hM_h rfl ?_
    refine sm_cV (sf_X2_addKindByte nn rfl hM_h) ?_; intro u3 hM_u3
    refine sm_gr hM_u3 (d := 30) rfl ?_
    refine sm_ai hM_u3 rfl e_l2 ?_; intro v5 y_v5 e_v5
    refine sm_gr hM_u3 (d := 2) rfl ?_
    refine sm_gr hM_u3 (d := 31) rfl ?_
    refine sm_gi hM_u3 rfl ?_; intro v8 e_v8
    refine sm_is hM_u3 rfl ?_
    refine sm_cV (sf_X9_copyName nn e_v5 _ e_v8 hM_u3) ?_; intro u10 hM_u10
    refine sm_gi hM_u10 rfl ?_; intro v11 e_v11
    refine sm_gr hM_u10 (d := 2) rfl ?_
    refine sm_is hM_u10 rfl ?_
    refine sm_cP (sf_X9_nameLength nn e_v5 hM_u10) ?_; intro u14 y_u14 e_u14
    refine sm_oq_add e_v11 e_u14 ?_; intro v15 y_v15 e_v15
    refine sm_gr hM_u10 (d := 31) rfl ?_
    refine sm_ln hM_u10 (z := 128) rfl ?_; intro v17 e_v17
    refine sm_ite e_v17 e_v15 e_v17 e_v15 ?_; intro v18 y_v18 e_v18
    refine sm_pv hM_u10 rfl e_v18 ?_; intro h19 hM_h19
    refine sm_is hM_h19 rfl ?_
    refine sm_cV (sf_X2_addKindByte nn rfl hM_h19) ?_; intro u21 hM_u21
    exact sm_rV hM_u21
  · refine sm_ne e_l2 rfl ?_ ?_
    · refine sm_ne e_l2 rfl ?_ ?_
      · refine sm_is hM_h rfl ?_
        refine sm_cV (sf_X2_addKindByte nn rfl hM_h) ?_; intro u23 hM_u23
        exact sm_rV hM_u23
      · refine sm_is hM_h rfl ?_
        refine sm_cV (sf_X2_addKindByte nn rfl hM_h) ?_; intro u25 hM_u25
        exact sm_rV hM_u25
    · refine sm_is hM_h rfl ?_
      refine sm_cV (sf_X2_addKindByte nn rfl hM_h) ?_; intro u28 hM_u28
      exact sm_rV hM_u28
set_option maxRecDepth 4000 in
theorem sf_X2_addKind (nn : Nat) {a1 : Int32} {y_a1 : Int} (e_a1 : a1.toInt = y_a1) {h : ms_M} (hM_h : Rg_M h) : Sm_ RV_ (f_X2_addKind nn 11 a1 (H_M h)) (qf_X2_addKind nn y_a1 h) := by
  unfold f_X2_addKind qf_X2_addKind
  refine sm_cP (sf_X4_isArray nn e_a1 hM_h) ?_; intro u31 y_u31 e_u31
  refine sm_eq e_u31 rfl ?_ ?_
  · exact sj_X2_addKind_20 nn e_a1 hM_h
  · refine sm_is hM_h rfl ?_
    refine sm_cV (sf_X2_addKindByte nn rfl hM_h) ?_; intro u33 hM_u33
    refine sm_cP (sf_X4_elementOf nn e_a1 hM_u33) ?_; intro u34 y_u34 e_u34
    exact sj_X2_addKind_20 nn e_u34 hM_u33
set_option maxRecDepth 4000 in
theorem sf_X9_bucketOf (nn : Nat) (a0 : Nat) {a1 : Int32} {y_a1 : Int} (e_a1 : a1.toInt = y_a1) {a2 : Int32} {y_a2 : Int} (e_a2 : a2.toInt = y_a2) {h : ms_M} (hM_h : Rg_M h) : Sm_ (RP_ h) (f_X9_bucketOf nn a0 a1 a2 (H_M h)) (qf_X9_bucketOf nn a0 y_a1 y_a2 h) := by
  unfold f_X9_bucketOf qf_X9_bucketOf
  refine sm_abS hM_h e_a1 ?_; intro v1 y_v1 e_v1
  refine sm_oq_mul e_v1 rfl ?_; intro v2 y_v2 e_v2
  refine sm_oq_add e_a1 e_a2 ?_; intro v3 y_v3 e_v3
  refine sm_oq_sub e_v3 rfl ?_; intro v4 y_v4 e_v4
  refine sm_abS hM_h e_v4 ?_; intro v5 y_v5 e_v5
  refine sm_oq_mul e_v5 rfl ?_; intro v6 y_v6 e_v6
  refine sm_oq_add e_v2 e_v6 ?_; intro v7 y_v7 e_v7
  refine sm_oq_add e_v7 e_a2 ?_; intro v8 y_v8 e_v8
  refine sm_oq_and e_v8 rfl ?_; intro v9 y_v9 e_v9
  exact sm_rP e_v9
set_option maxRecDepth 4000 in
theorem sf_X9_closeName (nn : Nat) {a1 : Int32} {y_a1 : Int} (e_a1 : a1.toInt = y_a1) {h : ms_M} (hM_h : Rg_M h) : Sm_ RV_ (f_X9_closeName nn 2 a1 (H_M h)) (qf_X9_closeName nn y_a1 h) := by
  unfold f_X9_closeName qf_X9_closeName
  refine sm_gr hM_h (d := 7) rfl ?_
  refine sm_gi hM_h rfl ?_; intro v2 e_v2
  refine sm_ai hM_h rfl e_v2 ?_; intro v3 y_v3 e_v3
  refine sm_gr hM_h (d := 6) rfl ?_
  refine sm_oq_sub e_a1 e_v3 ?_; intro v5 y_v5 e_v5
  refine sm_cP (sf_X9_bucketOf nn _ e_v3 e_v5 hM_h) ?_; intro u6 y_u6 e_u6
  refine sm_gr hM_h (d := 8) rfl ?_
  refine sm_gi hM_h rfl ?_; intro v8 e_v8
  refine sm_gr hM_h (d := 9) rfl ?_
  refine sm_ai hM_h rfl e_u6 ?_; intro v10 y_v10 e_v10
  refine sm_si hM_h rfl e_v8 e_v10 ?_; intro h11 hM_h11
  refine sm_gr hM_h11 (d := 9) rfl ?_
  refine sm_gi hM_h11 rfl ?_; intro v13 e_v13
  refine sm_si hM_h11 rfl e_u6 e_v13 ?_; intro h14 hM_h14
  refine sm_gi hM_h14 rfl ?_; intro v15 e_v15
  refine sm_oq_add e_v15 rfl ?_; intro v16 y_v16 e_v16
  refine sm_pv hM_h14 rfl e_v16 ?_; intro h17 hM_h17
  refine sm_gr hM_h17 (d := 7) rfl ?_
  refine sm_gi hM_h17 rfl ?_; intro v19 e_v19
  refine sm_si hM_h17 rfl e_v19 e_a1 ?_; intro h20 hM_h20
  exact sm_rV hM_h20
set_option maxRecDepth 4000 in
theorem sw_X9_isNamed_29 (nn : Nat) : ∀ (k : Nat) (l2 : Nat) {l3 : Int32} {y_l3 : Int} (e_l3 : l3.toInt = y_l3) {l4 : Int32} {y_l4 : Int} (e_l4 : l4.toInt = y_l4) {l5 : Int32} {y_l5 : Int} (e_l5 : l5.toInt = y_l5) {l6 : Int32} {y_l6 : Int} (e_l6 : l6.toInt = y_l6) {h : ms_M} (hM_h : Rg_M h), Sm_ (RP_ h) (w_X9_isNamed_29 nn k 2 l2 l3 l4 l5 l6 (H_M h)) (qw_X9_isNamed_29 nn k l2 y_l3 y_l4 y_l5 y_l6 h) := by
  intro k
  induction k with
  | zero => intros; exact sm_no
  | succ k ih =>
    intro l2 l3 y_l3 e_l3 l4 y_l4 e_l4 l5 y_l5 e_l5 l6 y_l6 e_l6 h hM_h
    unfold w_X9_isNamed_29 qw_X9_isNamed_29
    refine sm_le e_l4 e_l6 ?_ ?_
    · exact sm_rP rfl
    · refine sm_gr hM_h (d := 6) rfl ?_
      refine sm_oq_add e_l5 e_l6 ?_; intro v2 y_v2 e_v2
      refine sm_ab hM_h rfl e_v2 ?_; intro v3 y_v3 e_v3
      refine sm_oq_add e_l3 e_l6 ?_; intro v4 y_v4 e_v4
      refine sm_abS hM_h e_v4 ?_; intro v5 y_v5 e_v5
      refine sm_eq e_v3 e_v5 ?_ ?_
      · refine sm_oq_add e_l6 rfl ?_; intro v6 y_v6 e_v6
        exact ih _ e_l3 e_l4 e_l5 e_v6 hM_h
      · exact sm_rP rfl
set_option maxRecDepth 4000 in
theorem sf_X9_isNamed (nn : Nat) {a1 : Int32} {y_a1 : Int} (e_a1 : a1.toInt = y_a1) (a2 : Nat) {a3 : Int32} {y_a3 : Int} (e_a3 : a3.toInt = y_a3) {a4 : Int32} {y_a4 : Int} (e_a4 : a4.toInt = y_a4) {h : ms_M} (hM_h : Rg_M h) : Sm_ (RP_ h) (f_X9_isNamed nn 2 a1 a2 a3 a4 (H_M h)) (qf_X9_isNamed nn y_a1 a2 y_a3 y_a4 h) := by
  unfold f_X9_isNamed qf_X9_isNamed
  refine sm_gr hM_h (d := 7) rfl ?_
  refine sm_ai hM_h rfl e_a1 ?_; intro v10 y_v10 e_v10
  refine sm_gr hM_h (d := 7) rfl ?_
  refine sm_oq_add e_a1 rfl ?_; intro v12 y_v12 e_v12
  refine sm_ai hM_h rfl e_v12 ?_; intro v13 y_v13 e_v13
  refine sm_oq_sub e_v13 e_v10 ?_; intro v14 y_v14 e_v14
  refine sm_eq e_v14 e_a4 ?_ ?_
  · exact sw_X9_isNamed_29 nn nn _ e_a3 e_a4 e_v10 rfl hM_h
  · exact sm_rP rfl
set_option maxRecDepth 4000 in
theorem sj_X9_nameOf_79 (nn : Nat) (l1 : Nat) {l2 : Int32} {y_l2 : Int} (e_l2 : l2.toInt = y_l2) {l3 : Int32} {y_l3 : Int} (e_l3 : l3.toInt = y_l3) {h : ms_M} (hM_h : Rg_M h) : Sm_ RI_ (j_X9_nameOf_79 nn 2 l1 l2 l3 (H_M h)) (qj_X9_nameOf_79 nn l1 y_l2 y_l3 h) := by
  unfold j_X9_nameOf_79 qj_X9_nameOf_79
  refine sm_gr hM_h (d := 7) rfl ?_
  refine sm_gi hM_h rfl ?_; intro v2 e_v2
  refine sm_ai hM_h rfl e_v2 ?_; intro v3 y_v3 e_v3
  refine sm_gi hM_h rfl ?_; intro v4 e_v4
  refine sm_le rfl e_v4 ?_ ?_
  · exact sm_rI rfl hM_h
  · refine sm_oq_add e_v3 e_l3 ?_; intro v5 y_v5 e_v5
    refine sm_gr hM_h (d := 6) rfl ?_
    refine sm_ln hM_h (z := 6400) rfl ?_; intro v7 e_v7
    refine sm_le e_v5 e_v7 ?_ ?_
    · refine sm_gr hM_h (d := 6) rfl ?_
      refine sm_cp hM_h e_l2 e_v3 e_l3 ?_; intro h9 hM_h9
      refine sm_oq_add e_v3 e_l3 ?_; intro v10 y_v10 e_v10
      refine sm_is hM_h9 rfl ?_
      refine sm_cV (sf_X9_closeName nn e_v10 hM_h9) ?_; intro u12 hM_u12
      refine sm_gi hM_u12 rfl ?_; intro v13 e_v13
      refine sm_oq_sub e_v13 rfl ?_; intro v14 y_v14 e_v14
      exact sm_rI e_v14 hM_u12
    · exact sm_rI rfl hM_h
set_option maxRecDepth 4000 in
theorem sw_X9_nameOf_35 (nn : Nat) : ∀ (k : Nat) (l1 : Nat) {l2 : Int32} {y_l2 : Int} (e_l2 : l2.toInt = y_l2) {l3 : Int32} {y_l3 : Int} (e_l3 : l3.toInt = y_l3) {l4 : Int32} {y_l4 : Int} (e_l4 : l4.toInt = y_l4) {l5 : Int32} {y_l5 : Int} (e_l5 : l5.toInt = y_l5) {h : ms_M} (hM_h : Rg_M h), Sm_ RI_ (w_X9_nameOf_35 nn k 2 l1 l2 l3 l4 l5 (H_M h)) (qw_X9_nameOf_35 nn k l1 y_l2 y_l3 y_l4 y_l5 h) := by
  intro k
  induction k with
  | zero => intros; exact sm_no
  | succ k ih =>
    intro l1 l2 y_l2 e_l2 l3 y_l3 e_l3 l4 y_l4 e_l4 l5 y_l5 e_l5 h hM_h
    unfold w_X9_nameOf_35 qw_X9_nameOf_35
    refine sm_le rfl e_l5 ?_ ?_
    · exact sj_X9_nameOf_79 nn _ e_l2 e_l3 hM_h
    · refine sm_eq e_l4 rfl ?_ ?_
      · exact sj_X9_nameOf_79 nn _ e_l2 e_l3 hM_h
      · refine sm_is hM_h rfl ?_
        refine sm_cP (sf_X9_isNamed nn e_l4 _ e_l2 e_l3 hM_h) ?_; intro u18 y_u18 e_u18
        refine sm_eq e_u18 rfl ?_ ?_
        · refine sm_gr hM_h (d := 8) rfl ?_
          refine sm_ai hM_h rfl e_l4 ?_; intro v20 y_v20 e_v20
          refine sm_oq_add e_l5 rfl ?_; intro v21 y_v21 e_v21
          exact ih _ e_l2 e_l3 e_v20 e_v21 hM_h
        · exact sm_rI e_l4 hM_h
set_option maxRecDepth 4000 in
theorem sf_X9_nameOf (nn : Nat) (a1 : Nat) {a2 : Int32} {y_a2 : Int} (e_a2 : a2.toInt = y_a2) {a3 : Int32} {y_a3 : Int} (e_a3 : a3.toInt = y_a3) {h : ms_M} (hM_h : Rg_M h) : Sm_ RI_ (f_X9_nameOf nn 2 a1 a2 a3 (H_M h)) (qf_X9_nameOf nn a1 y_a2 y_a3 h) := by
  unfold f_X9_nameOf qf_X9_nameOf
  refine sm_lt e_a3 rfl ?_ ?_
  · exact sm_rI rfl hM_h
  · refine sm_lt e_a2 rfl ?_ ?_
    · exact sm_rI rfl hM_h
    · refine sm_oq_add e_a2 e_a3 ?_; intro v25 y_v25 e_v25
      refine sm_lnS hM_h ?_; intro v26 y_v26 e_v26
      refine sm_le e_v25 e_v26 ?_ ?_
      · refine sm_gr hM_h (d := 9) rfl ?_
        refine sm_cP (sf_X9_bucketOf nn _ e_a2 e_a3 hM_h) ?_; intro u28 y_u28 e_u28
        refine sm_ai hM_h rfl e_u28 ?_; intro v29 y_v29 e_v29
        exact sw_X9_nameOf_35 nn nn _ e_a2 e_a3 e_v29 rfl hM_h
      · exact sm_rI rfl hM_h
set_option maxRecDepth 4000 in
theorem sf_X2_nameKind (nn : Nat) {a1 : Int32} {y_a1 : Int} (e_a1 : a1.toInt = y_a1) {h : ms_M} (hM_h : Rg_M h) : Sm_ RI_ (f_X2_nameKind nn 11 a1 (H_M h)) (qf_X2_nameKind nn y_a1 h) := by
  unfold f_X2_nameKind qf_X2_nameKind
  refine sm_pv hM_h rfl rfl ?_; intro h1 hM_h1
  refine sm_is hM_h1 rfl ?_
  refine sm_cV (sf_X2_addKind nn e_a1 hM_h1) ?_; intro u3 hM_u3
  refine sm_gr hM_u3 (d := 2) rfl ?_
  refine sm_gr hM_u3 (d := 31) rfl ?_
  refine sm_gi hM_u3 rfl ?_; intro v6 e_v6
  refine sm_is hM_u3 rfl ?_
  refine sm_cI (sf_X9_nameOf nn _ rfl e_v6 hM_u3) ?_; intro u8 y_u8 M_u8 e_u8 hM_u8
  exact sm_rI e_u8 hM_u8
set_option maxRecDepth 4000 in
theorem sw_X2_nameMethodKind_13 (nn : Nat) : ∀ (k : Nat) {l1 : Int32} {y_l1 : Int} (e_l1 : l1.toInt = y_l1) {l2 : Int32} {y_l2 : Int} (e_l2 : l2.toInt = y_l2) {h : ms_M} (hM_h : Rg_M h), Sm_ RI_ (w_X2_nameMethodKind_13 nn k 11 l1 l2 (H_M h)) (qw_X2_nameMethodKind_13 nn k y_l1 y_l2 h) := by
  intro k
  induction k with
  | zero => intros; exact sm_no
  | succ k ih =>
    intro l1 y_l1 e_l1 l2 y_l2 e_l2 h hM_h
    unfold w_X2_nameMethodKind_13 qw_X2_nameMethodKind_13
    refine sm_gr hM_h (d := 27) rfl ?_
    refine sm_ai hM_h rfl e_l1 ?_; intro v2 y_v2 e_v2
    refine sm_le e_v2 e_l2 ?_ ?_
    · refine sm_is hM_h rfl ?_
      refine sm_cV (sf_X2_addKindByte nn rfl hM_h) ?_; intro u4 hM_u4
      refine sm_gr hM_u4 (d := 24) rfl ?_
      refine sm_ai hM_u4 rfl e_l1 ?_; intro v6 y_v6 e_v6
      refine sm_is hM_u4 rfl ?_
      refine sm_cV (sf_X2_addKind nn e_v6 hM_u4) ?_; intro u8 hM_u8
      refine sm_gr hM_u8 (d := 2) rfl ?_
      refine sm_gr hM_u8 (d := 31) rfl ?_
      refine sm_gi hM_u8 rfl ?_; intro v11 e_v11
      refine sm_is hM_u8 rfl ?_
      refine sm_cI (sf_X9_nameOf nn _ rfl e_v11 hM_u8) ?_; intro u13 y_u13 M_u13 e_u13 hM_u13
      exact sm_rI e_u13 hM_u13
    · refine sm_is hM_h rfl ?_
      refine sm_cP (sf_X2_parameterType nn e_l1 e_l2 hM_h) ?_; intro u15 y_u15 e_u15
      refine sm_is hM_h rfl ?_
      refine sm_cV (sf_X2_addKind nn e_u15 hM_h) ?_; intro u17 hM_u17
      refine sm_oq_add e_l2 rfl ?_; intro v18 y_v18 e_v18
      exact ih e_l1 e_v18 hM_u17
set_option maxRecDepth 4000 in
theorem sf_X2_nameMethodKind (nn : Nat) {a1 : Int32} {y_a1 : Int} (e_a1 : a1.toInt = y_a1) {h : ms_M} (hM_h : Rg_M h) : Sm_ RI_ (f_X2_nameMethodKind nn 11 a1 (H_M h)) (qf_X2_nameMethodKind nn y_a1 h) := by
  unfold f_X2_nameMethodKind qf_X2_nameMethodKind
  refine sm_pv hM_h rfl rfl ?_; intro h20 hM_h20
  refine sm_is hM_h20 rfl ?_
  refine sm_cV (sf_X2_addKindByte nn rfl hM_h20) ?_; intro u22 hM_u22
  exact sw_X2_nameMethodKind_13 nn nn e_a1 rfl hM_u22
set_option maxRecDepth 4000 in
theorem sw_X2_nameKinds_144 (nn : Nat) : ∀ (k : Nat) {l1 : Int32} {y_l1 : Int} (e_l1 : l1.toInt = y_l1) {h : ms_M} (hM_h : Rg_M h), Sm_ RV_ (w_X2_nameKinds_144 nn k 11 l1 (H_M h)) (qw_X2_nameKinds_144 nn k y_l1 h) := by
  intro k
  induction k with
  | zero => intros; exact sm_no
  | succ k ih =>
    intro l1 y_l1 e_l1 h hM_h
    unfold w_X2_nameKinds_144 qw_X2_nameKinds_144
    refine sm_gr hM_h (d := 22) rfl ?_
    refine sm_ln hM_h (z := 96) rfl ?_; intro v2 e_v2
    refine sm_le e_v2 e_l1 ?_ ?_
    · exact sm_rV hM_h
    · refine sm_gr hM_h (d := 2) rfl ?_
      refine sm_gi hM_h rfl ?_; intro v4 e_v4
      refine sm_ne e_v4 rfl ?_ ?_
      · exact sm_rV hM_h
      · refine sm_is hM_h rfl ?_
        refine sm_cP (sf_X2_isMethod nn e_l1 hM_h) ?_; intro u6 y_u6 e_u6
        refine sm_eq e_u6 rfl ?_ ?_
        · refine sm_oq_add e_l1 rfl ?_; intro v7 y_v7 e_v7
          exact ih e_v7 hM_h
        · refine sm_gr hM_h (d := 26) rfl ?_
          refine sm_is hM_h rfl ?_
          refine sm_cI (sf_X2_nameMethodKind nn e_l1 hM_h) ?_; intro u10 y_u10 M_u10 e_u10 hM_u10
          refine sm_si hM_u10 rfl e_l1 e_u10 ?_; intro h11 hM_h11
          refine sm_oq_add e_l1 rfl ?_; intro v12 y_v12 e_v12
          exact ih e_v12 hM_h11
set_option maxRecDepth 4000 in
theorem sw_X2_nameKinds_85 (nn : Nat) : ∀ (k : Nat) {l1 : Int32} {y_l1 : Int} (e_l1 : l1.toInt = y_l1) {h : ms_M} (hM_h : Rg_M h), Sm_ RV_ (w_X2_nameKinds_85 nn k 11 l1 (H_M h)) (qw_X2_nameKinds_85 nn k y_l1 h) := by
  intro k
  induction k with
  | zero => intros; exact sm_no
  | succ k ih =>
    intro l1 y_l1 e_l1 h hM_h
    unfold w_X2_nameKinds_85 qw_X2_nameKinds_85
    refine sm_gr hM_h (d := 18) rfl ?_
    refine sm_ln hM_h (z := 96) rfl ?_; intro v17 e_v17
    refine sm_le e_v17 e_l1 ?_ ?_
    · exact sw_X2_nameKinds_144 nn nn rfl hM_h
    · refine sm_gr hM_h (d := 2) rfl ?_
      refine sm_gi hM_h rfl ?_; intro v19 e_v19
      refine sm_ne e_v19 rfl ?_ ?_
      · exact sw_X2_nameKinds_144 nn nn rfl hM_h
      · refine sm_rem e_l1 ⟨rfl, by decide⟩ ?_; intro v20 y_v20 e_v20
        refine sm_gr hM_h (d := 17) rfl ?_
        refine sm_div e_l1 ⟨rfl, by decide⟩ ?_; intro v22 y_v22 e_v22
        refine sm_ai hM_h rfl e_v22 ?_; intro v23 y_v23 e_v23
        refine sm_le e_v23 e_v20 ?_ ?_
        · refine sm_oq_add e_l1 rfl ?_; intro v24 y_v24 e_v24
          exact ih e_v24 hM_h
        · refine sm_gr hM_h (d := 20) rfl ?_
          refine sm_gr hM_h (d := 19) rfl ?_
          refine sm_ai hM_h rfl e_l1 ?_; intro v27 y_v27 e_v27
          refine sm_is hM_h rfl ?_
          refine sm_cI (sf_X2_nameKind nn e_v27 hM_h) ?_; intro u29 y_u29 M_u29 e_u29 hM_u29
          refine sm_si hM_u29 rfl e_l1 e_u29 ?_; intro h30 hM_h30
          refine sm_oq_add e_l1 rfl ?_; intro v31 y_v31 e_v31
          exact ih e_v31 hM_h30
set_option maxRecDepth 4000 in
theorem sj_X2_nameKinds_59 (nn : Nat) {kk_2 : Nat → Int32 → mx_H → Option mx_H} {qkk_2 : Int → ms_M → Option ms_M} (hk_kk_2 : ∀ {l1 : Int32} {y_l1 : Int} (e_l1 : l1.toInt = y_l1) {h : ms_M} (hM_h : Rg_M h), Sm_ RV_ (kk_2 11 l1 (H_M h)) (qkk_2 y_l1 h)) {l1 : Int32} {y_l1 : Int} (e_l1 : l1.toInt = y_l1) {s0 : Int32} {y_s0 : Int} (e_s0 : s0.toInt = y_s0) {s1 : Int32} {y_s1 : Int} (e_s1 : s1.toInt = y_s1) {h : ms_M} (hM_h : Rg_M h) : Sm_ RV_ (j_X2_nameKinds_59 nn kk_2 11 l1 s0 s1 30 (H_M h)) (qj_X2_nameKinds_59 nn qkk_2 y_l1 y_s0 y_s1 h) := by
  unfold j_X2_nameKinds_59 qj_X2_nameKinds_59
  refine sm_si hM_h rfl e_s1 e_s0 ?_; intro h35 hM_h35
  refine sm_gr hM_h35 (d := 30) rfl ?_
  refine sm_oq_add rfl e_l1 ?_; intro v37 y_v37 e_v37
  refine sm_oq_add rfl e_l1 ?_; intro v38 y_v38 e_v38
  refine sm_is hM_h35 rfl ?_
  refine sm_cI (sf_X2_nameKind nn e_v38 hM_h35) ?_; intro u40 y_u40 M_u40 e_u40 hM_u40
  refine sm_si hM_u40 rfl e_v37 e_u40 ?_; intro h41 hM_h41
  refine sm_oq_add e_l1 rfl ?_; intro v42 y_v42 e_v42
  exact hk_kk_2 e_v42 hM_h41
set_option maxRecDepth 4000 in
theorem sw_X2_nameKinds_2 (nn : Nat) : ∀ (k : Nat) {l1 : Int32} {y_l1 : Int} (e_l1 : l1.toInt = y_l1) {h : ms_M} (hM_h : Rg_M h), Sm_ RV_ (w_X2_nameKinds_2 nn k 11 l1 (H_M h)) (qw_X2_nameKinds_2 nn k y_l1 h) := by
  intro k
  induction k with
  | zero => intros; exact sm_no
  | succ k ih =>
    intro l1 y_l1 e_l1 h hM_h
    unfold w_X2_nameKinds_2 qw_X2_nameKinds_2
    refine sm_gi hM_h rfl ?_; intro v43 e_v43
    refine sm_oq_add rfl e_v43 ?_; intro v44 y_v44 e_v44
    refine sm_le e_v44 e_l1 ?_ ?_
    · exact sw_X2_nameKinds_85 nn nn rfl hM_h
    · refine sm_le rfl e_l1 ?_ ?_
      · exact sw_X2_nameKinds_85 nn nn rfl hM_h
      · refine sm_gr hM_h (d := 2) rfl ?_
        refine sm_gi hM_h rfl ?_; intro v46 e_v46
        refine sm_ne e_v46 rfl ?_ ?_
        · exact sw_X2_nameKinds_85 nn nn rfl hM_h
        · refine sm_gr hM_h (d := 30) rfl ?_
          refine sm_le rfl e_l1 ?_ ?_
          · refine sm_gr hM_h (d := 2) rfl ?_
            refine sm_oq_sub e_l1 rfl ?_; intro v49 y_v49 e_v49
            refine sm_is hM_h rfl ?_
            refine sm_cP (sf_X2_tokenOfClass nn e_v49 hM_h) ?_; intro u51 y_u51 e_u51
            refine sm_is hM_h rfl ?_
            refine sm_cP (sf_X9_valueAt nn e_u51 hM_h) ?_; intro u53 y_u53 e_u53
            exact sj_X2_nameKinds_59 nn ih e_l1 e_u53 e_l1 hM_h
          · exact sj_X2_nameKinds_59 nn ih e_l1 e_l1 e_l1 hM_h
set_option maxRecDepth 4000 in
theorem sf_X2_nameKinds (nn : Nat) {h : ms_M} (hM_h : Rg_M h) : Sm_ RV_ (f_X2_nameKinds nn 11 (H_M h)) (qf_X2_nameKinds nn h) := by
  unfold f_X2_nameKinds qf_X2_nameKinds
  exact sw_X2_nameKinds_2 nn nn rfl hM_h
set_option maxRecDepth 4000 in
theorem sf_X2_classAbove (nn : Nat) {a1 : Int32} {y_a1 : Int} (e_a1 : a1.toInt = y_a1) {h : ms_M} (hM_h : Rg_M h) : Sm_ (RP_ h) (f_X2_classAbove nn 11 a1 (H_M h)) (qf_X2_classAbove nn y_a1 h) := by
  unfold f_X2_classAbove qf_X2_classAbove
  refine sm_is hM_h rfl ?_
  refine sm_cP (sf_X2_tokenOfClass nn e_a1 hM_h) ?_; intro u2 y_u2 e_u2
  refine sm_gr hM_h (d := 2) rfl ?_
  refine sm_oq_add e_u2 rfl ?_; intro v4 y_v4 e_v4
  refine sm_is hM_h rfl ?_
  refine sm_cP (sf_X9_kindAt nn e_v4 hM_h) ?_; intro u6 y_u6 e_u6
  refine sm_ne e_u6 rfl ?_ ?_
  · exact sm_rP rfl
  · refine sm_oq_add e_u2 rfl ?_; intro v7 y_v7 e_v7
    refine sm_is hM_h rfl ?_
    refine sm_cP (sf_X2_classAt nn e_v7 hM_h) ?_; intro u9 y_u9 e_u9
    exact sm_rP e_u9
set_option maxRecDepth 4000 in
theorem sj_X2_endsAbove_36 (nn : Nat) {l2 : Int32} {y_l2 : Int} (e_l2 : l2.toInt = y_l2) {h : ms_M} (hM_h : Rg_M h) : Sm_ (RP_ h) (j_X2_endsAbove_36 nn l2 (H_M h)) (qj_X2_endsAbove_36 nn y_l2 h) := by
  unfold j_X2_endsAbove_36 qj_X2_endsAbove_36
  refine sm_le rfl e_l2 ?_ ?_
  · exact sm_rP rfl
  · exact sm_rP rfl
set_option maxRecDepth 4000 in
theorem sw_X2_endsAbove_7 (nn : Nat) : ∀ (k : Nat) {l2 : Int32} {y_l2 : Int} (e_l2 : l2.toInt = y_l2) {l3 : Int32} {y_l3 : Int} (e_l3 : l3.toInt = y_l3) {h : ms_M} (hM_h : Rg_M h), Sm_ (RP_ h) (w_X2_endsAbove_7 nn k 11 l2 l3 (H_M h)) (qw_X2_endsAbove_7 nn k y_l2 y_l3 h) := by
  intro k
  induction k with
  | zero => intros; exact sm_no
  | succ k ih =>
    intro l2 y_l2 e_l2 l3 y_l3 e_l3 h hM_h
    unfold w_X2_endsAbove_7 qw_X2_endsAbove_7
    refine sm_gi hM_h rfl ?_; intro v2 e_v2
    refine sm_lt e_v2 e_l3 ?_ ?_
    · exact sj_X2_endsAbove_36 nn e_l2 hM_h
    · refine sm_lt e_l2 rfl ?_ ?_
      · exact sj_X2_endsAbove_36 nn e_l2 hM_h
      · refine sm_oq_sub e_l2 rfl ?_; intro v3 y_v3 e_v3
        refine sm_is hM_h rfl ?_
        refine sm_cP (sf_X2_classAbove nn e_v3 hM_h) ?_; intro u5 y_u5 e_u5
        refine sm_oq_add e_l3 rfl ?_; intro v6 y_v6 e_v6
        exact ih e_u5 e_v6 hM_h
set_option maxRecDepth 4000 in
theorem sf_X2_endsAbove (nn : Nat) {a1 : Int32} {y_a1 : Int} (e_a1 : a1.toInt = y_a1) {h : ms_M} (hM_h : Rg_M h) : Sm_ (RP_ h) (f_X2_endsAbove nn 11 a1 (H_M h)) (qf_X2_endsAbove nn y_a1 h) := by
  unfold f_X2_endsAbove qf_X2_endsAbove
  refine sm_oq_add rfl e_a1 ?_; intro v9 y_v9 e_v9
  exact sw_X2_endsAbove_7 nn nn e_v9 rfl hM_h
set_option maxRecDepth 4000 in
theorem sj_X2_checkClassHead_64 (nn : Nat) {l1 : Int32} {y_l1 : Int} (e_l1 : l1.toInt = y_l1) {l2 : Int32} {y_l2 : Int} (e_l2 : l2.toInt = y_l2) {h : ms_M} (hM_h : Rg_M h) : Sm_ RV_ (j_X2_checkClassHead_64 nn 11 l1 l2 (H_M h)) (qj_X2_checkClassHead_64 nn y_l1 y_l2 h) := by
  unfold j_X2_checkClassHead_64 qj_X2_checkClassHead_64
  refine sm_is hM_h rfl ?_
  refine sm_cP (sf_X2_endsAbove nn e_l1 hM_h) ?_; intro u2 y_u2 e_u2
  refine sm_ne e_u2 rfl ?_ ?_
  · exact sm_rV hM_h
  · refine sm_gr hM_h (d := 2) rfl ?_
    refine sm_oq_add e_l2 rfl ?_; intro v4 y_v4 e_v4
    refine sm_is hM_h rfl ?_
    refine sm_cV (sf_X9_tell nn rfl e_v4 hM_h) ?_; intro u6 hM_u6
    exact sm_rV hM_u6
set_option maxRecDepth 4000 in
theorem sj_X2_checkClassHead_44 (nn : Nat) {l1 : Int32} {y_l1 : Int} (e_l1 : l1.toInt = y_l1) {l2 : Int32} {y_l2 : Int} (e_l2 : l2.toInt = y_l2) {h : ms_M} (hM_h : Rg_M h) : Sm_ RV_ (j_X2_checkClassHead_44 nn 11 l1 l2 (H_M h)) (qj_X2_checkClassHead_44 nn y_l1 y_l2 h) := by
  unfold j_X2_checkClassHead_44 qj_X2_checkClassHead_44
  refine sm_is hM_h rfl ?_
  refine sm_cP (sf_X2_classAbove nn e_l1 hM_h) ?_; intro u9 y_u9 e_u9
  refine sm_ne e_u9 rfl ?_ ?_
  · exact sj_X2_checkClassHead_64 nn e_l1 e_l2 hM_h
  · refine sm_gr hM_h (d := 2) rfl ?_
    refine sm_oq_add e_l2 rfl ?_; intro v11 y_v11 e_v11
    refine sm_is hM_h rfl ?_
    refine sm_cV (sf_X9_tell nn rfl e_v11 hM_h) ?_; intro u13 hM_u13
    exact sj_X2_checkClassHead_64 nn e_l1 e_l2 hM_u13
set_option maxRecDepth 4000 in
theorem sj_X2_checkClassHead_23 (nn : Nat) {l1 : Int32} {y_l1 : Int} (e_l1 : l1.toInt = y_l1) {l2 : Int32} {y_l2 : Int} (e_l2 : l2.toInt = y_l2) {h : ms_M} (hM_h : Rg_M h) : Sm_ RV_ (j_X2_checkClassHead_23 nn 11 l1 l2 (H_M h)) (qj_X2_checkClassHead_23 nn y_l1 y_l2 h) := by
  unfold j_X2_checkClassHead_23 qj_X2_checkClassHead_23
  refine sm_is hM_h rfl ?_
  refine sm_cP (sf_X2_classAt nn e_l2 hM_h) ?_; intro u16 y_u16 e_u16
  refine sm_oq_add rfl e_l1 ?_; intro v17 y_v17 e_v17
  refine sm_eq e_u16 e_v17 ?_ ?_
  · exact sj_X2_checkClassHead_44 nn e_l1 e_l2 hM_h
  · refine sm_gr hM_h (d := 2) rfl ?_
    refine sm_is hM_h rfl ?_
    refine sm_cV (sf_X9_tell nn rfl e_l2 hM_h) ?_; intro u20 hM_u20
    exact sj_X2_checkClassHead_44 nn e_l1 e_l2 hM_u20
set_option maxRecDepth 4000 in
theorem sf_X2_checkClassHead (nn : Nat) {a1 : Int32} {y_a1 : Int} (e_a1 : a1.toInt = y_a1) {h : ms_M} (hM_h : Rg_M h) : Sm_ RV_ (f_X2_checkClassHead nn 11 a1 (H_M h)) (qf_X2_checkClassHead nn y_a1 h) := by
  unfold f_X2_checkClassHead qf_X2_checkClassHead
  refine sm_gr hM_h (d := 15) rfl ?_
  refine sm_ai hM_h rfl e_a1 ?_; intro v23 y_v23 e_v23
  refine sm_lt e_a1 rfl ?_ ?_
  · exact sj_X2_checkClassHead_23 nn e_a1 e_v23 hM_h
  · refine sm_gr hM_h (d := 2) rfl ?_
    refine sm_is hM_h rfl ?_
    refine sm_cV (sf_X9_tell nn rfl e_v23 hM_h) ?_; intro u26 hM_u26
    exact sj_X2_checkClassHead_23 nn e_a1 e_v23 hM_u26
set_option maxRecDepth 4000 in
theorem sw_X2_nameClasses_47 (nn : Nat) : ∀ (k : Nat) {l1 : Int32} {y_l1 : Int} (e_l1 : l1.toInt = y_l1) {h : ms_M} (hM_h : Rg_M h), Sm_ RV_ (w_X2_nameClasses_47 nn k 11 l1 (H_M h)) (qw_X2_nameClasses_47 nn k y_l1 h) := by
  intro k
  induction k with
  | zero => intros; exact sm_no
  | succ k ih =>
    intro l1 y_l1 e_l1 h hM_h
    unfold w_X2_nameClasses_47 qw_X2_nameClasses_47
    refine sm_gi hM_h rfl ?_; intro v1 e_v1
    refine sm_le e_v1 e_l1 ?_ ?_
    · exact sm_rV hM_h
    · refine sm_gr hM_h (d := 2) rfl ?_
      refine sm_gr hM_h (d := 15) rfl ?_
      refine sm_ai hM_h rfl e_l1 ?_; intro v4 y_v4 e_v4
      refine sm_is hM_h rfl ?_
      refine sm_cP (sf_X9_valueAt nn e_v4 hM_h) ?_; intro u6 y_u6 e_u6
      refine sm_gr hM_h (d := 16) rfl ?_
      refine sm_ln hM_h (z := 1740) rfl ?_; intro v8 e_v8
      refine sm_le e_v8 e_u6 ?_ ?_
      · refine sm_oq_add e_l1 rfl ?_; intro v9 y_v9 e_v9
        exact ih e_v9 hM_h
      · refine sm_gr hM_h (d := 16) rfl ?_
        refine sm_ai hM_h rfl e_u6 ?_; intro v11 y_v11 e_v11
        refine sm_ne e_v11 rfl ?_ ?_
        · refine sm_oq_add e_l1 rfl ?_; intro v12 y_v12 e_v12
          exact ih e_v12 hM_h
        · refine sm_gr hM_h (d := 16) rfl ?_
          refine sm_oq_add rfl e_l1 ?_; intro v14 y_v14 e_v14
          refine sm_si hM_h rfl e_u6 e_v14 ?_; intro h15 hM_h15
          refine sm_oq_add e_l1 rfl ?_; intro v16 y_v16 e_v16
          exact ih e_v16 hM_h15
set_option maxRecDepth 4000 in
theorem sw_X2_nameClasses_2 (nn : Nat) : ∀ (k : Nat) {l1 : Int32} {y_l1 : Int} (e_l1 : l1.toInt = y_l1) {h : ms_M} (hM_h : Rg_M h), Sm_ RV_ (w_X2_nameClasses_2 nn k 11 l1 (H_M h)) (qw_X2_nameClasses_2 nn k y_l1 h) := by
  intro k
  induction k with
  | zero => intros; exact sm_no
  | succ k ih =>
    intro l1 y_l1 e_l1 h hM_h
    unfold w_X2_nameClasses_2 qw_X2_nameClasses_2
    refine sm_gr hM_h (d := 2) rfl ?_
    refine sm_gi hM_h rfl ?_; intro v21 e_v21
    refine sm_le e_v21 e_l1 ?_ ?_
    · exact sw_X2_nameClasses_47 nn nn rfl hM_h
    · refine sm_gr hM_h (d := 16) rfl ?_
      refine sm_ln hM_h (z := 1740) rfl ?_; intro v23 e_v23
      refine sm_le e_v23 e_l1 ?_ ?_
      · exact sw_X2_nameClasses_47 nn nn rfl hM_h
      · refine sm_gr hM_h (d := 16) rfl ?_
        refine sm_le rfl e_l1 ?_ ?_
        · refine sm_si hM_h rfl e_l1 rfl ?_; intro h25 hM_h25
          refine sm_oq_add e_l1 rfl ?_; intro v26 y_v26 e_v26
          exact ih e_v26 hM_h25
        · refine sm_si hM_h rfl e_l1 e_l1 ?_; intro h27 hM_h27
          refine sm_oq_add e_l1 rfl ?_; intro v28 y_v28 e_v28
          exact ih e_v28 hM_h27
set_option maxRecDepth 4000 in
theorem sf_X2_nameClasses (nn : Nat) {h : ms_M} (hM_h : Rg_M h) : Sm_ RV_ (f_X2_nameClasses nn 11 (H_M h)) (qf_X2_nameClasses nn h) := by
  unfold f_X2_nameClasses qf_X2_nameClasses
  exact sw_X2_nameClasses_2 nn nn rfl hM_h
set_option maxRecDepth 4000 in
theorem sf_X4_setAbove (nn : Nat) (a0 : Nat) (hb_a0 : kc_O a0 = 4) {a1 : Int32} {y_a1 : Int} (e_a1 : a1.toInt = y_a1) {a2 : Int32} {y_a2 : Int} (e_a2 : a2.toInt = y_a2) {h : ms_M} (hM_h : Rg_M h) : Sm_ RV_ (f_X4_setAbove nn a0 a1 a2 (H_M h)) (qf_X4_setAbove nn a0 y_a1 y_a2 h) := by
  unfold f_X4_setAbove qf_X4_setAbove
  refine sm_cP (sf_X4_isClass nn e_a1 hM_h) ?_; intro u1 y_u1 e_u1
  refine sm_eq e_u1 rfl ?_ ?_
  · exact sm_rV hM_h
  · refine sm_grK hM_h hb_a0 (off := 1) rfl ?_
    refine sm_siK hM_h hb_a0 rfl e_a1 e_a2 ?_; intro h3 hM_h3
    exact sm_rV hM_h3
set_option maxRecDepth 4000 in
theorem sj_X2_readClasses_88 (nn : Nat) {h : ms_M} (hM_h : Rg_M h) : Sm_ RV_ (j_X2_readClasses_88 nn 11 (H_M h)) (qj_X2_readClasses_88 nn h) := by
  unfold j_X2_readClasses_88 qj_X2_readClasses_88
  refine sm_gr hM_h (d := 12) rfl ?_
  refine sm_is hM_h rfl ?_
  refine sm_cV (sf_X4_settle nn _ rfl hM_h) ?_; intro u3 hM_u3
  exact sm_rV hM_u3
set_option maxRecDepth 4000 in
theorem sw_X2_readClasses_48 (nn : Nat) : ∀ (k : Nat) {l1 : Int32} {y_l1 : Int} (e_l1 : l1.toInt = y_l1) {h : ms_M} (hM_h : Rg_M h), Sm_ RV_ (w_X2_readClasses_48 nn k 11 l1 (H_M h)) (qw_X2_readClasses_48 nn k y_l1 h) := by
  intro k
  induction k with
  | zero => intros; exact sm_no
  | succ k ih =>
    intro l1 y_l1 e_l1 h hM_h
    unfold w_X2_readClasses_48 qw_X2_readClasses_48
    refine sm_gi hM_h rfl ?_; intro v4 e_v4
    refine sm_le e_v4 e_l1 ?_ ?_
    · exact sj_X2_readClasses_88 nn hM_h
    · refine sm_gr hM_h (d := 2) rfl ?_
      refine sm_gi hM_h rfl ?_; intro v6 e_v6
      refine sm_ne e_v6 rfl ?_ ?_
      · exact sj_X2_readClasses_88 nn hM_h
      · refine sm_gr hM_h (d := 12) rfl ?_
        refine sm_oq_add rfl e_l1 ?_; intro v8 y_v8 e_v8
        refine sm_is hM_h rfl ?_
        refine sm_cP (sf_X2_classAbove nn e_l1 hM_h) ?_; intro u10 y_u10 e_u10
        refine sm_is hM_h rfl ?_
        refine sm_cV (sf_X4_setAbove nn _ rfl e_v8 e_u10 hM_h) ?_; intro u12 hM_u12
        refine sm_oq_add e_l1 rfl ?_; intro v13 y_v13 e_v13
        exact ih e_v13 hM_u12
set_option maxRecDepth 4000 in
theorem sw_X2_readClasses_17 (nn : Nat) : ∀ (k : Nat) {l1 : Int32} {y_l1 : Int} (e_l1 : l1.toInt = y_l1) {h : ms_M} (hM_h : Rg_M h), Sm_ RV_ (w_X2_readClasses_17 nn k 11 l1 (H_M h)) (qw_X2_readClasses_17 nn k y_l1 h) := by
  intro k
  induction k with
  | zero => intros; exact sm_no
  | succ k ih =>
    intro l1 y_l1 e_l1 h hM_h
    unfold w_X2_readClasses_17 qw_X2_readClasses_17
    refine sm_gi hM_h rfl ?_; intro v16 e_v16
    refine sm_le e_v16 e_l1 ?_ ?_
    · exact sw_X2_readClasses_48 nn nn rfl hM_h
    · refine sm_gr hM_h (d := 2) rfl ?_
      refine sm_gi hM_h rfl ?_; intro v18 e_v18
      refine sm_ne e_v18 rfl ?_ ?_
      · exact sw_X2_readClasses_48 nn nn rfl hM_h
      · refine sm_is hM_h rfl ?_
        refine sm_cV (sf_X2_checkClassHead nn e_l1 hM_h) ?_; intro u20 hM_u20
        refine sm_oq_add e_l1 rfl ?_; intro v21 y_v21 e_v21
        exact ih e_v21 hM_u20
set_option maxRecDepth 4000 in
theorem sf_X2_readClasses (nn : Nat) {h : ms_M} (hM_h : Rg_M h) : Sm_ RV_ (f_X2_readClasses nn 11 (H_M h)) (qf_X2_readClasses nn h) := by
  unfold f_X2_readClasses qf_X2_readClasses
  refine sm_gr hM_h (d := 2) rfl ?_
  refine sm_gi hM_h rfl ?_; intro v25 e_v25
  refine sm_eq e_v25 rfl ?_ ?_
  · refine sm_is hM_h rfl ?_
    refine sm_cV (sf_X2_nameClasses nn hM_h) ?_; intro u27 hM_u27
    exact sw_X2_readClasses_17 nn nn rfl hM_u27
  · exact sm_rV hM_h
set_option maxRecDepth 4000 in
theorem sj_X2_addField_52 (nn : Nat) {l1 : Int32} {y_l1 : Int} (e_l1 : l1.toInt = y_l1) {l3 : Int32} {y_l3 : Int} (e_l3 : l3.toInt = y_l3) {l4 : Int32} {y_l4 : Int} (e_l4 : l4.toInt = y_l4) {h : ms_M} (hM_h : Rg_M h) : Sm_ RV_ (j_X2_addField_52 nn 11 l1 l3 l4 (H_M h)) (qj_X2_addField_52 nn y_l1 y_l3 y_l4 h) := by
  unfold j_X2_addField_52 qj_X2_addField_52
  refine sm_oq_mul e_l1 rfl ?_; intro v1 y_v1 e_v1
  refine sm_gr hM_h (d := 17) rfl ?_
  refine sm_ai hM_h rfl e_l1 ?_; intro v3 y_v3 e_v3
  refine sm_oq_add e_v1 e_v3 ?_; intro v4 y_v4 e_v4
  refine sm_gr hM_h (d := 18) rfl ?_
  refine sm_si hM_h rfl e_v4 e_l4 ?_; intro h6 hM_h6
  refine sm_gr hM_h6 (d := 19) rfl ?_
  refine sm_si hM_h6 rfl e_v4 e_l3 ?_; intro h8 hM_h8
  refine sm_gr hM_h8 (d := 17) rfl ?_
  refine sm_ai hM_h8 rfl e_l1 ?_; intro v10 y_v10 e_v10
  refine sm_oq_add e_v10 rfl ?_; intro v11 y_v11 e_v11
  refine sm_si hM_h8 rfl e_l1 e_v11 ?_; intro h12 hM_h12
  exact sm_rV hM_h12
set_option maxRecDepth 4000 in
theorem sf_X2_addField (nn : Nat) {a1 : Int32} {y_a1 : Int} (e_a1 : a1.toInt = y_a1) {a2 : Int32} {y_a2 : Int} (e_a2 : a2.toInt = y_a2) {a3 : Int32} {y_a3 : Int} (e_a3 : a3.toInt = y_a3) {h : ms_M} (hM_h : Rg_M h) : Sm_ RV_ (f_X2_addField nn 11 a1 a2 a3 (H_M h)) (qf_X2_addField nn y_a1 y_a2 y_a3 h) := by
  unfold f_X2_addField qf_X2_addField
  refine sm_gr hM_h (d := 17) rfl ?_
  refine sm_ai hM_h rfl e_a1 ?_; intro v14 y_v14 e_v14
  refine sm_lt e_v14 rfl ?_ ?_
  · refine sm_gr hM_h (d := 2) rfl ?_
    refine sm_is hM_h rfl ?_
    refine sm_cP (sf_X9_valueAt nn e_a2 hM_h) ?_; intro u17 y_u17 e_u17
    refine sm_is hM_h rfl ?_
    refine sm_cP (sf_X2_fieldIn nn e_a1 e_u17 hM_h) ?_; intro u19 y_u19 e_u19
    refine sm_eq e_u19 rfl ?_ ?_
    · exact sj_X2_addField_52 nn e_a1 e_a3 e_u17 hM_h
    · refine sm_gr hM_h (d := 2) rfl ?_
      refine sm_is hM_h rfl ?_
      refine sm_cV (sf_X9_tell nn rfl e_a2 hM_h) ?_; intro u22 hM_u22
      exact sj_X2_addField_52 nn e_a1 e_a3 e_u17 hM_u22
  · refine sm_gr hM_h (d := 2) rfl ?_
    refine sm_is hM_h rfl ?_
    refine sm_cV (sf_X9_tell nn rfl e_a2 hM_h) ?_; intro u26 hM_u26
    exact sm_rV hM_u26
set_option maxRecDepth 4000 in
theorem sw_X2_addParameter_54 (nn : Nat) : ∀ (k : Nat) {l1 : Int32} {y_l1 : Int} (e_l1 : l1.toInt = y_l1) {l2 : Int32} {y_l2 : Int} (e_l2 : l2.toInt = y_l2) {l3 : Int32} {y_l3 : Int} (e_l3 : l3.toInt = y_l3) {l4 : Int32} {y_l4 : Int} (e_l4 : l4.toInt = y_l4) {l5 : Int32} {y_l5 : Int} (e_l5 : l5.toInt = y_l5) {l6 : Int32} {y_l6 : Int} (e_l6 : l6.toInt = y_l6) {h : ms_M} (hM_h : Rg_M h), Sm_ RV_ (w_X2_addParameter_54 nn k 11 l1 l2 l3 l4 l5 l6 (H_M h)) (qw_X2_addParameter_54 nn k y_l1 y_l2 y_l3 y_l4 y_l5 y_l6 h) := by
  intro k
  induction k with
  | zero => intros; exact sm_no
  | succ k ih =>
    intro l1 y_l1 e_l1 l2 y_l2 e_l2 l3 y_l3 e_l3 l4 y_l4 e_l4 l5 y_l5 e_l5 l6 y_l6 e_l6 h hM_h
    unfold w_X2_addParameter_54 qw_X2_addParameter_54
    refine sm_gr hM_h (d := 27) rfl ?_
    refine sm_ai hM_h rfl e_l1 ?_; intro v2 y_v2 e_v2
    refine sm_le e_v2 e_l6 ?_ ?_
    · refine sm_gr hM_h (d := 28) rfl ?_
      refine sm_gr hM_h (d := 27) rfl ?_
      refine sm_ai hM_h rfl e_l1 ?_; intro v5 y_v5 e_v5
      refine sm_oq_add e_l5 e_v5 ?_; intro v6 y_v6 e_v6
      refine sm_si hM_h rfl e_v6 e_l4 ?_; intro h7 hM_h7
      refine sm_gr hM_h7 (d := 29) rfl ?_
      refine sm_gr hM_h7 (d := 27) rfl ?_
      refine sm_ai hM_h7 rfl e_l1 ?_; intro v10 y_v10 e_v10
      refine sm_oq_add e_l5 e_v10 ?_; intro v11 y_v11 e_v11
      refine sm_si hM_h7 rfl e_v11 e_l2 ?_; intro h12 hM_h12
      refine sm_gr hM_h12 (d := 27) rfl ?_
      refine sm_ai hM_h12 rfl e_l1 ?_; intro v14 y_v14 e_v14
      refine sm_oq_add e_v14 rfl ?_; intro v15 y_v15 e_v15
      refine sm_si hM_h12 rfl e_l1 e_v15 ?_; intro h16 hM_h16
      refine sm_gr hM_h16 (d := 2) rfl ?_
      refine sm_gi hM_h16 rfl ?_; intro v18 e_v18
      refine sm_oq_add e_v18 rfl ?_; intro v19 y_v19 e_v19
      refine sm_pv hM_h16 rfl e_v19 ?_; intro h20 hM_h20
      refine sm_gr hM_h20 (d := 2) rfl ?_
      refine sm_is hM_h20 rfl ?_
      refine sm_cP (sf_X9_kind nn hM_h20) ?_; intro u23 y_u23 e_u23
      refine sm_ne e_u23 rfl ?_ ?_
      · exact sm_rV hM_h20
      · refine sm_gr hM_h20 (d := 2) rfl ?_
        refine sm_gi hM_h20 rfl ?_; intro v25 e_v25
        refine sm_oq_add e_v25 rfl ?_; intro v26 y_v26 e_v26
        refine sm_pv hM_h20 rfl e_v26 ?_; intro h27 hM_h27
        exact sm_rV hM_h27
    · refine sm_gr hM_h (d := 28) rfl ?_
      refine sm_oq_add e_l5 e_l6 ?_; intro v30 y_v30 e_v30
      refine sm_ai hM_h rfl e_v30 ?_; intro v31 y_v31 e_v31
      refine sm_ne e_v31 e_l4 ?_ ?_
      · refine sm_oq_add e_l6 rfl ?_; intro v32 y_v32 e_v32
        exact ih e_l1 e_l2 e_l3 e_l4 e_l5 e_v32 hM_h
      · refine sm_gr hM_h (d := 2) rfl ?_
        refine sm_is hM_h rfl ?_
        refine sm_cV (sf_X9_tell nn rfl e_l3 hM_h) ?_; intro u35 hM_u35
        refine sm_oq_add e_l6 rfl ?_; intro v36 y_v36 e_v36
        exact ih e_l1 e_l2 e_l3 e_l4 e_l5 e_v36 hM_u35
set_option maxRecDepth 4000 in
theorem sf_X2_addParameter (nn : Nat) {a1 : Int32} {y_a1 : Int} (e_a1 : a1.toInt = y_a1) {h : ms_M} (hM_h : Rg_M h) : Sm_ RV_ (f_X2_addParameter nn 11 a1 (H_M h)) (qf_X2_addParameter nn y_a1 h) := by
  unfold f_X2_addParameter qf_X2_addParameter
  refine sm_is hM_h rfl ?_
  refine sm_cI (sf_X2_readType nn hM_h) ?_; intro u40 y_u40 M_u40 e_u40 hM_u40
  refine sm_gr hM_u40 (d := 2) rfl ?_
  refine sm_gi hM_u40 rfl ?_; intro v42 e_v42
  refine sm_gr hM_u40 (d := 2) rfl ?_
  refine sm_is hM_u40 rfl ?_
  refine sm_cP (sf_X9_valueAt nn e_v42 hM_u40) ?_; intro u45 y_u45 e_u45
  refine sm_oq_mul e_a1 rfl ?_; intro v46 y_v46 e_v46
  refine sm_gr hM_u40 (d := 27) rfl ?_
  refine sm_ai hM_u40 rfl e_a1 ?_; intro v48 y_v48 e_v48
  refine sm_lt e_v48 rfl ?_ ?_
  · exact sw_X2_addParameter_54 nn nn e_a1 e_u40 e_v42 e_u45 e_v46 rfl hM_u40
  · refine sm_gr hM_u40 (d := 2) rfl ?_
    refine sm_is hM_u40 rfl ?_
    refine sm_cV (sf_X9_tell nn rfl e_v42 hM_u40) ?_; intro u51 hM_u51
    exact sm_rV hM_u51
set_option maxRecDepth 4000 in
theorem sj_X2_skipBlock_60 (nn : Nat) {kk_6 : Nat → Int32 → Int32 → Int32 → mx_H → Option mx_H} {qkk_6 : Int → Int → Int → ms_M → Option ms_M} (hk_kk_6 : ∀ {l1 : Int32} {y_l1 : Int} (e_l1 : l1.toInt = y_l1) {l2 : Int32} {y_l2 : Int} (e_l2 : l2.toInt = y_l2) {l3 : Int32} {y_l3 : Int} (e_l3 : l3.toInt = y_l3) {h : ms_M} (hM_h : Rg_M h), Sm_ RV_ (kk_6 11 l1 l2 l3 (H_M h)) (qkk_6 y_l1 y_l2 y_l3 h)) {l1 : Int32} {y_l1 : Int} (e_l1 : l1.toInt = y_l1) {l3 : Int32} {y_l3 : Int} (e_l3 : l3.toInt = y_l3) {h : ms_M} (hM_h : Rg_M h) : Sm_ RV_ (j_X2_skipBlock_60 nn kk_6 11 l1 l3 (H_M h)) (qj_X2_skipBlock_60 nn qkk_6 y_l1 y_l3 h) := by
  unfold j_X2_skipBlock_60 qj_X2_skipBlock_60
  refine sm_gr hM_h (d := 2) rfl ?_
  refine sm_gi hM_h rfl ?_; intro v2 e_v2
  refine sm_oq_add e_v2 rfl ?_; intro v3 y_v3 e_v3
  refine sm_pv hM_h rfl e_v3 ?_; intro h4 hM_h4
  refine sm_le e_l1 rfl ?_ ?_
  · refine sm_oq_add e_l3 rfl ?_; intro v5 y_v5 e_v5
    exact hk_kk_6 e_l1 rfl e_v5 hM_h4
  · refine sm_oq_add e_l3 rfl ?_; intro v6 y_v6 e_v6
    exact hk_kk_6 e_l1 rfl e_v6 hM_h4
set_option maxRecDepth 4000 in
theorem sw_X2_skipBlock_6 (nn : Nat) : ∀ (k : Nat) {l1 : Int32} {y_l1 : Int} (e_l1 : l1.toInt = y_l1) {l2 : Int32} {y_l2 : Int} (e_l2 : l2.toInt = y_l2) {l3 : Int32} {y_l3 : Int} (e_l3 : l3.toInt = y_l3) {h : ms_M} (hM_h : Rg_M h), Sm_ RV_ (w_X2_skipBlock_6 nn k 11 l1 l2 l3 (H_M h)) (qw_X2_skipBlock_6 nn k y_l1 y_l2 y_l3 h) := by
  intro k
  induction k with
  | zero => intros; exact sm_no
  | succ k ih =>
    intro l1 y_l1 e_l1 l2 y_l2 e_l2 l3 y_l3 e_l3 h hM_h
    unfold w_X2_skipBlock_6 qw_X2_skipBlock_6
    refine sm_le rfl e_l3 ?_ ?_
    · exact sm_rV hM_h
    · refine sm_eq e_l2 rfl ?_ ?_
      · exact sm_rV hM_h
      · refine sm_gr hM_h (d := 2) rfl ?_
        refine sm_is hM_h rfl ?_
        refine sm_cP (sf_X9_kind nn hM_h) ?_; intro u10 y_u10 e_u10
        refine sm_eq e_u10 rfl ?_ ?_
        · exact sm_rV hM_h
        · refine sm_gr hM_h (d := 2) rfl ?_
          refine sm_is hM_h rfl ?_
          refine sm_cP (sf_X9_kind nn hM_h) ?_; intro u13 y_u13 e_u13
          refine sm_ne e_u13 rfl ?_ ?_
          · refine sm_gr hM_h (d := 2) rfl ?_
            refine sm_is hM_h rfl ?_
            refine sm_cP (sf_X9_kind nn hM_h) ?_; intro u16 y_u16 e_u16
            refine sm_ne e_u16 rfl ?_ ?_
            · exact sj_X2_skipBlock_60 nn ih e_l1 e_l3 hM_h
            · refine sm_oq_add e_l1 rfl ?_; intro v17 y_v17 e_v17
              exact sj_X2_skipBlock_60 nn ih e_v17 e_l3 hM_h
          · refine sm_oq_add e_l1 rfl ?_; intro v19 y_v19 e_v19
            exact sj_X2_skipBlock_60 nn ih e_v19 e_l3 hM_h
set_option maxRecDepth 4000 in
theorem sf_X2_skipBlock (nn : Nat) {h : ms_M} (hM_h : Rg_M h) : Sm_ RV_ (f_X2_skipBlock nn 11 (H_M h)) (qf_X2_skipBlock nn h) := by
  unfold f_X2_skipBlock qf_X2_skipBlock
  exact sw_X2_skipBlock_6 nn nn rfl rfl rfl hM_h
set_option maxRecDepth 4000 in
theorem sj_X2_addMethod_162 (nn : Nat) {l5 : Int32} {y_l5 : Int} (e_l5 : l5.toInt = y_l5) {h : ms_M} (hM_h : Rg_M h) : Sm_ RV_ (j_X2_addMethod_162 nn 11 l5 (H_M h)) (qj_X2_addMethod_162 nn y_l5 h) := by
  unfold j_X2_addMethod_162 qj_X2_addMethod_162
  refine sm_gr hM_h (d := 2) rfl ?_
  refine sm_gi hM_h rfl ?_; intro v2 e_v2
  refine sm_oq_add e_v2 rfl ?_; intro v3 y_v3 e_v3
  refine sm_pv hM_h rfl e_v3 ?_; intro h4 hM_h4
  refine sm_gr hM_h4 (d := 23) rfl ?_
  refine sm_gr hM_h4 (d := 2) rfl ?_
  refine sm_gi hM_h4 rfl ?_; intro v7 e_v7
  refine sm_si hM_h4 rfl e_l5 e_v7 ?_; intro h8 hM_h8
  refine sm_is hM_h8 rfl ?_
  refine sm_cV (sf_X2_skipBlock nn hM_h8) ?_; intro u10 hM_u10
  exact sm_rV hM_u10
set_option maxRecDepth 4000 in
theorem sw_X2_addMethod_120 (nn : Nat) : ∀ (k : Nat) {l5 : Int32} {y_l5 : Int} (e_l5 : l5.toInt = y_l5) {l6 : Int32} {y_l6 : Int} (e_l6 : l6.toInt = y_l6) {h : ms_M} (hM_h : Rg_M h), Sm_ RV_ (w_X2_addMethod_120 nn k 11 l5 l6 (H_M h)) (qw_X2_addMethod_120 nn k y_l5 y_l6 h) := by
  intro k
  induction k with
  | zero => intros; exact sm_no
  | succ k ih =>
    intro l5 y_l5 e_l5 l6 y_l6 e_l6 h hM_h
    unfold w_X2_addMethod_120 qw_X2_addMethod_120
    refine sm_le rfl e_l6 ?_ ?_
    · exact sj_X2_addMethod_162 nn e_l5 hM_h
    · refine sm_gr hM_h (d := 2) rfl ?_
      refine sm_gi hM_h rfl ?_; intro v12 e_v12
      refine sm_ne e_v12 rfl ?_ ?_
      · exact sj_X2_addMethod_162 nn e_l5 hM_h
      · refine sm_gr hM_h (d := 2) rfl ?_
        refine sm_is hM_h rfl ?_
        refine sm_cP (sf_X9_kind nn hM_h) ?_; intro u15 y_u15 e_u15
        refine sm_eq e_u15 rfl ?_ ?_
        · exact sj_X2_addMethod_162 nn e_l5 hM_h
        · refine sm_is hM_h rfl ?_
          refine sm_cV (sf_X2_addParameter nn e_l5 hM_h) ?_; intro u17 hM_u17
          refine sm_oq_add e_l6 rfl ?_; intro v18 y_v18 e_v18
          exact ih e_l5 e_v18 hM_u17
set_option maxRecDepth 4000 in
theorem sj_X2_addMethod_48 (nn : Nat) {l1 : Int32} {y_l1 : Int} (e_l1 : l1.toInt = y_l1) {l2 : Int32} {y_l2 : Int} (e_l2 : l2.toInt = y_l2) {l3 : Int32} {y_l3 : Int} (e_l3 : l3.toInt = y_l3) {l4 : Int32} {y_l4 : Int} (e_l4 : l4.toInt = y_l4) {h : ms_M} (hM_h : Rg_M h) : Sm_ RV_ (j_X2_addMethod_48 nn 11 l1 l2 l3 l4 (H_M h)) (qj_X2_addMethod_48 nn y_l1 y_l2 y_l3 y_l4 h) := by
  unfold j_X2_addMethod_48 qj_X2_addMethod_48
  refine sm_oq_mul e_l1 rfl ?_; intro v22 y_v22 e_v22
  refine sm_gr hM_h (d := 21) rfl ?_
  refine sm_ai hM_h rfl e_l1 ?_; intro v24 y_v24 e_v24
  refine sm_oq_add e_v22 e_v24 ?_; intro v25 y_v25 e_v25
  refine sm_gr hM_h (d := 22) rfl ?_
  refine sm_si hM_h rfl e_v25 e_l2 ?_; intro h27 hM_h27
  refine sm_gr hM_h27 (d := 24) rfl ?_
  refine sm_si hM_h27 rfl e_v25 e_l3 ?_; intro h29 hM_h29
  refine sm_gr hM_h29 (d := 25) rfl ?_
  refine sm_sz hM_h29 rfl e_v25 e_l4 ?_; intro h31 hM_h31
  refine sm_gr hM_h31 (d := 27) rfl ?_
  refine sm_si hM_h31 rfl e_v25 rfl ?_; intro h33 hM_h33
  refine sm_gr hM_h33 (d := 21) rfl ?_
  refine sm_ai hM_h33 rfl e_l1 ?_; intro v35 y_v35 e_v35
  refine sm_oq_add e_v35 rfl ?_; intro v36 y_v36 e_v36
  refine sm_si hM_h33 rfl e_l1 e_v36 ?_; intro h37 hM_h37
  refine sm_gr hM_h37 (d := 2) rfl ?_
  refine sm_gi hM_h37 rfl ?_; intro v39 e_v39
  refine sm_oq_add e_v39 rfl ?_; intro v40 y_v40 e_v40
  refine sm_pv hM_h37 rfl e_v40 ?_; intro h41 hM_h41
  exact sw_X2_addMethod_120 nn nn e_v25 rfl hM_h41
set_option maxRecDepth 4000 in
theorem sf_X2_addMethod (nn : Nat) {a1 : Int32} {y_a1 : Int} (e_a1 : a1.toInt = y_a1) {a2 : Int32} {y_a2 : Int} (e_a2 : a2.toInt = y_a2) {a3 : Int32} {y_a3 : Int} (e_a3 : a3.toInt = y_a3) {a4 : Int32} {y_a4 : Int} (e_a4 : a4.toInt = y_a4) {h : ms_M} (hM_h : Rg_M h) : Sm_ RV_ (f_X2_addMethod nn 11 a1 a2 a3 a4 (H_M h)) (qf_X2_addMethod nn y_a1 y_a2 y_a3 y_a4 h) := by
  unfold f_X2_addMethod qf_X2_addMethod
  refine sm_gr hM_h (d := 21) rfl ?_
  refine sm_ai hM_h rfl e_a1 ?_; intro v43 y_v43 e_v43
  refine sm_lt e_v43 rfl ?_ ?_
  · refine sm_gr hM_h (d := 2) rfl ?_
    refine sm_is hM_h rfl ?_
    refine sm_cP (sf_X9_valueAt nn e_a2 hM_h) ?_; intro u46 y_u46 e_u46
    refine sm_is hM_h rfl ?_
    refine sm_cP (sf_X2_methodIn nn e_a1 e_u46 hM_h) ?_; intro u48 y_u48 e_u48
    refine sm_eq e_u48 rfl ?_ ?_
    · exact sj_X2_addMethod_48 nn e_a1 e_a2 e_a3 e_a4 hM_h
    · refine sm_gr hM_h (d := 2) rfl ?_
      refine sm_is hM_h rfl ?_
      refine sm_cV (sf_X9_tell nn rfl e_a2 hM_h) ?_; intro u51 hM_u51
      exact sj_X2_addMethod_48 nn e_a1 e_a2 e_a3 e_a4 hM_u51
  · refine sm_gr hM_h (d := 2) rfl ?_
    refine sm_is hM_h rfl ?_
    refine sm_cV (sf_X9_tell nn rfl e_a2 hM_h) ?_; intro u55 hM_u55
    exact sm_rV hM_u55
set_option maxRecDepth 4000 in
theorem sj_X2_readMember_72 (nn : Nat) {l1 : Int32} {y_l1 : Int} (e_l1 : l1.toInt = y_l1) {l2 : Int32} {y_l2 : Int} (e_l2 : l2.toInt = y_l2) {l3 : Int32} {y_l3 : Int} (e_l3 : l3.toInt = y_l3) {h : ms_M} (hM_h : Rg_M h) : Sm_ RV_ (j_X2_readMember_72 nn 11 l1 l2 l3 (H_M h)) (qj_X2_readMember_72 nn y_l1 y_l2 y_l3 h) := by
  unfold j_X2_readMember_72 qj_X2_readMember_72
  refine sm_gr hM_h (d := 2) rfl ?_
  refine sm_gi hM_h rfl ?_; intro v2 e_v2
  refine sm_gr hM_h (d := 2) rfl ?_
  refine sm_gi hM_h rfl ?_; intro v4 e_v4
  refine sm_oq_add e_v4 rfl ?_; intro v5 y_v5 e_v5
  refine sm_pv hM_h rfl e_v5 ?_; intro h6 hM_h6
  refine sm_gr hM_h6 (d := 2) rfl ?_
  refine sm_is hM_h6 rfl ?_
  refine sm_cP (sf_X9_kind nn hM_h6) ?_; intro u9 y_u9 e_u9
  refine sm_ne e_u9 rfl ?_ ?_
  · refine sm_gr hM_h6 (d := 2) rfl ?_
    refine sm_gi hM_h6 rfl ?_; intro v11 e_v11
    refine sm_ne e_v11 rfl ?_ ?_
    · exact sm_rV hM_h6
    · refine sm_is hM_h6 rfl ?_
      refine sm_cV (sf_X2_addMethod nn e_l1 e_v2 e_l3 e_l2 hM_h6) ?_; intro u13 hM_u13
      exact sm_rV hM_u13
  · refine sm_gr hM_h6 (d := 2) rfl ?_
    refine sm_gi hM_h6 rfl ?_; intro v16 e_v16
    refine sm_oq_add e_v16 rfl ?_; intro v17 y_v17 e_v17
    refine sm_pv hM_h6 rfl e_v17 ?_; intro h18 hM_h18
    refine sm_is hM_h18 rfl ?_
    refine sm_cV (sf_X2_addField nn e_l1 e_v2 e_l3 hM_h18) ?_; intro u20 hM_u20
    exact sm_rV hM_u20
set_option maxRecDepth 4000 in
theorem sj_X2_readMember_35 (nn : Nat) {l1 : Int32} {y_l1 : Int} (e_l1 : l1.toInt = y_l1) {l2 : Int32} {y_l2 : Int} (e_l2 : l2.toInt = y_l2) {h : ms_M} (hM_h : Rg_M h) : Sm_ RV_ (j_X2_readMember_35 nn 11 l1 l2 (H_M h)) (qj_X2_readMember_35 nn y_l1 y_l2 h) := by
  unfold j_X2_readMember_35 qj_X2_readMember_35
  refine sm_gr hM_h (d := 2) rfl ?_
  refine sm_is hM_h rfl ?_
  refine sm_cP (sf_X9_kind nn hM_h) ?_; intro u24 y_u24 e_u24
  refine sm_ne e_u24 rfl ?_ ?_
  · refine sm_is hM_h rfl ?_
    refine sm_cI (sf_X2_readType nn hM_h) ?_; intro u26 y_u26 M_u26 e_u26 hM_u26
    exact sj_X2_readMember_72 nn e_l1 e_l2 e_u26 hM_u26
  · refine sm_gr hM_h (d := 2) rfl ?_
    refine sm_gi hM_h rfl ?_; intro v28 e_v28
    refine sm_oq_add e_v28 rfl ?_; intro v29 y_v29 e_v29
    refine sm_pv hM_h rfl e_v29 ?_; intro h30 hM_h30
    exact sj_X2_readMember_72 nn e_l1 e_l2 rfl hM_h30
set_option maxRecDepth 4000 in
theorem sj_X2_readMember_17 (nn : Nat) {l1 : Int32} {y_l1 : Int} (e_l1 : l1.toInt = y_l1) {s0 : Int32} {y_s0 : Int} (e_s0 : s0.toInt = y_s0) {h : ms_M} (hM_h : Rg_M h) : Sm_ RV_ (j_X2_readMember_17 nn 11 l1 s0 (H_M h)) (qj_X2_readMember_17 nn y_l1 y_s0 h) := by
  unfold j_X2_readMember_17 qj_X2_readMember_17
  refine sm_eq e_s0 rfl ?_ ?_
  · exact sj_X2_readMember_35 nn e_l1 e_s0 hM_h
  · refine sm_gr hM_h (d := 2) rfl ?_
    refine sm_gi hM_h rfl ?_; intro v33 e_v33
    refine sm_oq_add e_v33 rfl ?_; intro v34 y_v34 e_v34
    refine sm_pv hM_h rfl e_v34 ?_; intro h35 hM_h35
    exact sj_X2_readMember_35 nn e_l1 e_s0 hM_h35
set_option maxRecDepth 4000 in
theorem sf_X2_readMember (nn : Nat) {a1 : Int32} {y_a1 : Int} (e_a1 : a1.toInt = y_a1) {h : ms_M} (hM_h : Rg_M h) : Sm_ RV_ (f_X2_readMember nn 11 a1 (H_M h)) (qf_X2_readMember nn y_a1 h) := by
  unfold f_X2_readMember qf_X2_readMember
  refine sm_gr hM_h (d := 2) rfl ?_
  refine sm_is hM_h rfl ?_
  refine sm_cP (sf_X9_kind nn hM_h) ?_; intro u39 y_u39 e_u39
  refine sm_ne e_u39 rfl ?_ ?_
  · exact sj_X2_readMember_17 nn e_a1 rfl hM_h
  · exact sj_X2_readMember_17 nn e_a1 rfl hM_h
set_option maxRecDepth 4000 in
theorem sw_X2_readMembers_57 (nn : Nat) {kk_2 : Nat → Int32 → mx_H → Option mx_H} {qkk_2 : Int → ms_M → Option ms_M} (hk_kk_2 : ∀ {l1 : Int32} {y_l1 : Int} (e_l1 : l1.toInt = y_l1) {h : ms_M} (hM_h : Rg_M h), Sm_ RV_ (kk_2 11 l1 (H_M h)) (qkk_2 y_l1 h)) : ∀ (k : Nat) {l1 : Int32} {y_l1 : Int} (e_l1 : l1.toInt = y_l1) {l3 : Int32} {y_l3 : Int} (e_l3 : l3.toInt = y_l3) {h : ms_M} (hM_h : Rg_M h), Sm_ RV_ (w_X2_readMembers_57 nn kk_2 k 11 l1 l3 (H_M h)) (qw_X2_readMembers_57 nn qkk_2 k y_l1 y_l3 h) := by
  intro k
  induction k with
  | zero => intros; exact sm_no
  | succ k ih =>
    intro l1 y_l1 e_l1 l3 y_l3 e_l3 h hM_h
    unfold w_X2_readMembers_57 qw_X2_readMembers_57
    refine sm_le rfl e_l3 ?_ ?_
    · refine sm_oq_add e_l1 rfl ?_; intro v1 y_v1 e_v1
      exact hk_kk_2 e_v1 hM_h
    · refine sm_gr hM_h (d := 2) rfl ?_
      refine sm_gi hM_h rfl ?_; intro v3 e_v3
      refine sm_ne e_v3 rfl ?_ ?_
      · refine sm_oq_add e_l1 rfl ?_; intro v4 y_v4 e_v4
        exact hk_kk_2 e_v4 hM_h
      · refine sm_gr hM_h (d := 2) rfl ?_
        refine sm_is hM_h rfl ?_
        refine sm_cP (sf_X9_kind nn hM_h) ?_; intro u7 y_u7 e_u7
        refine sm_eq e_u7 rfl ?_ ?_
        · refine sm_oq_add e_l1 rfl ?_; intro v8 y_v8 e_v8
          exact hk_kk_2 e_v8 hM_h
        · refine sm_is hM_h rfl ?_
          refine sm_cV (sf_X2_readMember nn e_l1 hM_h) ?_; intro u10 hM_u10
          refine sm_oq_add e_l3 rfl ?_; intro v11 y_v11 e_v11
          exact ih e_l1 e_v11 hM_u10
set_option maxRecDepth 4000 in
theorem sj_X2_readMembers_51 (nn : Nat) {kk_2 : Nat → Int32 → mx_H → Option mx_H} {qkk_2 : Int → ms_M → Option ms_M} (hk_kk_2 : ∀ {l1 : Int32} {y_l1 : Int} (e_l1 : l1.toInt = y_l1) {h : ms_M} (hM_h : Rg_M h), Sm_ RV_ (kk_2 11 l1 (H_M h)) (qkk_2 y_l1 h)) {l1 : Int32} {y_l1 : Int} (e_l1 : l1.toInt = y_l1) {s0 : Int32} {y_s0 : Int} (e_s0 : s0.toInt = y_s0) {s1 : Int32} {y_s1 : Int} (e_s1 : s1.toInt = y_s1) {h : ms_M} (hM_h : Rg_M h) : Sm_ RV_ (j_X2_readMembers_51 nn kk_2 11 l1 s0 s1 2 (H_M h)) (qj_X2_readMembers_51 nn qkk_2 y_l1 y_s0 y_s1 h) := by
  unfold j_X2_readMembers_51 qj_X2_readMembers_51
  refine sm_oq_add e_s1 e_s0 ?_; intro v15 y_v15 e_v15
  refine sm_pv hM_h rfl e_v15 ?_; intro h16 hM_h16
  exact sw_X2_readMembers_57 nn hk_kk_2 nn e_l1 rfl hM_h16
set_option maxRecDepth 4000 in
theorem sw_X2_readMembers_2 (nn : Nat) : ∀ (k : Nat) {l1 : Int32} {y_l1 : Int} (e_l1 : l1.toInt = y_l1) {h : ms_M} (hM_h : Rg_M h), Sm_ RV_ (w_X2_readMembers_2 nn k 11 l1 (H_M h)) (qw_X2_readMembers_2 nn k y_l1 h) := by
  intro k
  induction k with
  | zero => intros; exact sm_no
  | succ k ih =>
    intro l1 y_l1 e_l1 h hM_h
    unfold w_X2_readMembers_2 qw_X2_readMembers_2
    refine sm_gi hM_h rfl ?_; intro v17 e_v17
    refine sm_le e_v17 e_l1 ?_ ?_
    · exact sm_rV hM_h
    · refine sm_gr hM_h (d := 2) rfl ?_
      refine sm_gi hM_h rfl ?_; intro v19 e_v19
      refine sm_ne e_v19 rfl ?_ ?_
      · exact sm_rV hM_h
      · refine sm_is hM_h rfl ?_
        refine sm_cP (sf_X2_tokenOfClass nn e_l1 hM_h) ?_; intro u21 y_u21 e_u21
        refine sm_gr hM_h (d := 2) rfl ?_
        refine sm_gr hM_h (d := 2) rfl ?_
        refine sm_oq_add e_u21 rfl ?_; intro v24 y_v24 e_v24
        refine sm_is hM_h rfl ?_
        refine sm_cP (sf_X9_kindAt nn e_v24 hM_h) ?_; intro u26 y_u26 e_u26
        refine sm_ne e_u26 rfl ?_ ?_
        · exact sj_X2_readMembers_51 nn ih e_l1 rfl e_u21 hM_h
        · exact sj_X2_readMembers_51 nn ih e_l1 rfl e_u21 hM_h
set_option maxRecDepth 4000 in
theorem sf_X2_readMembers (nn : Nat) {h : ms_M} (hM_h : Rg_M h) : Sm_ RV_ (f_X2_readMembers nn 11 (H_M h)) (qf_X2_readMembers nn h) := by
  unfold f_X2_readMembers qf_X2_readMembers
  exact sw_X2_readMembers_2 nn nn rfl hM_h
set_option maxRecDepth 4000 in
theorem sf_X2_addClass (nn : Nat) {a1 : Int32} {y_a1 : Int} (e_a1 : a1.toInt = y_a1) {h : ms_M} (hM_h : Rg_M h) : Sm_ RV_ (f_X2_addClass nn 11 a1 (H_M h)) (qf_X2_addClass nn y_a1 h) := by
  unfold f_X2_addClass qf_X2_addClass
  refine sm_gi hM_h rfl ?_; intro v1 e_v1
  refine sm_gr hM_h (d := 15) rfl ?_
  refine sm_ln hM_h (z := 334) rfl ?_; intro v3 e_v3
  refine sm_le e_v3 e_v1 ?_ ?_
  · exact sm_rV hM_h
  · refine sm_gr hM_h (d := 15) rfl ?_
    refine sm_gi hM_h rfl ?_; intro v5 e_v5
    refine sm_si hM_h rfl e_v5 e_a1 ?_; intro h6 hM_h6
    refine sm_gi hM_h6 rfl ?_; intro v7 e_v7
    refine sm_oq_add e_v7 rfl ?_; intro v8 y_v8 e_v8
    refine sm_pv hM_h6 rfl e_v8 ?_; intro h9 hM_h9
    exact sm_rV hM_h9
set_option maxRecDepth 4000 in
theorem sf_X8_accept (nn : Nat) {a1 : Int32} {y_a1 : Int} (e_a1 : a1.toInt = y_a1) {h : ms_M} (hM_h : Rg_M h) : Sm_ RI_ (f_X8_accept nn 32 a1 (H_M h)) (qf_X8_accept nn y_a1 h) := by
  unfold f_X8_accept qf_X8_accept
  refine sm_gr hM_h (d := 2) rfl ?_
  refine sm_is hM_h rfl ?_
  refine sm_cP (sf_X9_kind nn hM_h) ?_; intro u3 y_u3 e_u3
  refine sm_eq e_u3 e_a1 ?_ ?_
  · refine sm_gr hM_h (d := 2) rfl ?_
    refine sm_gi hM_h rfl ?_; intro v5 e_v5
    refine sm_oq_add e_v5 rfl ?_; intro v6 y_v6 e_v6
    refine sm_pv hM_h rfl e_v6 ?_; intro h7 hM_h7
    exact sm_rI rfl hM_h7
  · exact sm_rI rfl hM_h
set_option maxRecDepth 4000 in
theorem sj_X9_tellHere_44 (nn : Nat) {s0 : Int32} {y_s0 : Int} (e_s0 : s0.toInt = y_s0) {h : ms_M} (hM_h : Rg_M h) : Sm_ RV_ (j_X9_tellHere_44 nn 2 s0 2 (H_M h)) (qj_X9_tellHere_44 nn y_s0 h) := by
  unfold j_X9_tellHere_44 qj_X9_tellHere_44
  refine sm_pv hM_h rfl e_s0 ?_; intro h1 hM_h1
  refine sm_gr hM_h1 (d := 4) rfl ?_
  refine sm_gi hM_h1 rfl ?_; intro v3 e_v3
  refine sm_ai hM_h1 rfl e_v3 ?_; intro v4 y_v4 e_v4
  refine sm_pv hM_h1 rfl e_v4 ?_; intro h5 hM_h5
  exact sm_rV hM_h5
set_option maxRecDepth 4000 in
theorem sf_X9_tellHere (nn : Nat) {a1 : Int32} {y_a1 : Int} (e_a1 : a1.toInt = y_a1) {h : ms_M} (hM_h : Rg_M h) : Sm_ RV_ (f_X9_tellHere nn 2 a1 (H_M h)) (qf_X9_tellHere nn y_a1 h) := by
  unfold f_X9_tellHere qf_X9_tellHere
  refine sm_gi hM_h rfl ?_; intro v6 e_v6
  refine sm_ne e_v6 rfl ?_ ?_
  · exact sm_rV hM_h
  · refine sm_gi hM_h rfl ?_; intro v7 e_v7
    refine sm_lt e_v7 rfl ?_ ?_
    · exact sm_rV hM_h
    · refine sm_gi hM_h rfl ?_; intro v8 e_v8
      refine sm_gi hM_h rfl ?_; intro v9 e_v9
      refine sm_le e_v9 e_v8 ?_ ?_
      · exact sm_rV hM_h
      · refine sm_gr hM_h (d := 3) rfl ?_
        refine sm_gi hM_h rfl ?_; intro v11 e_v11
        refine sm_ai hM_h rfl e_v11 ?_; intro v12 y_v12 e_v12
        refine sm_ne e_v12 rfl ?_ ?_
        · exact sj_X9_tellHere_44 nn e_a1 hM_h
        · exact sj_X9_tellHere_44 nn rfl hM_h
set_option maxRecDepth 4000 in
theorem sf_X8_need (nn : Nat) {a1 : Int32} {y_a1 : Int} (e_a1 : a1.toInt = y_a1) {h : ms_M} (hM_h : Rg_M h) : Sm_ RV_ (f_X8_need nn 32 a1 (H_M h)) (qf_X8_need nn y_a1 h) := by
  unfold f_X8_need qf_X8_need
  refine sm_gr hM_h (d := 2) rfl ?_
  refine sm_is hM_h rfl ?_
  refine sm_cP (sf_X9_kind nn hM_h) ?_; intro u3 y_u3 e_u3
  refine sm_ne e_u3 e_a1 ?_ ?_
  · refine sm_gr hM_h (d := 2) rfl ?_
    refine sm_is hM_h rfl ?_
    refine sm_cV (sf_X9_tellHere nn rfl hM_h) ?_; intro u6 hM_u6
    exact sm_rV hM_u6
  · refine sm_gr hM_h (d := 2) rfl ?_
    refine sm_gi hM_h rfl ?_; intro v8 e_v8
    refine sm_oq_add e_v8 rfl ?_; intro v9 y_v9 e_v9
    refine sm_pv hM_h rfl e_v9 ?_; intro h10 hM_h10
    exact sm_rV hM_h10
set_option maxRecDepth 4000 in
theorem sf_X8_binaryAhead (nn : Nat) {a1 : Int32} {y_a1 : Int} (e_a1 : a1.toInt = y_a1) {h : ms_M} (hM_h : Rg_M h) : Sm_ (RP_ h) (f_X8_binaryAhead nn 32 a1 (H_M h)) (qf_X8_binaryAhead nn y_a1 h) := by
  unfold f_X8_binaryAhead qf_X8_binaryAhead
  refine sm_gr hM_h (d := 2) rfl ?_
  refine sm_is hM_h rfl ?_
  refine sm_cP (sf_X9_kind nn hM_h) ?_; intro u3 y_u3 e_u3
  refine sm_cP (sf_X9_level nn e_u3 hM_h) ?_; intro u4 y_u4 e_u4
  refine sm_le e_u4 rfl ?_ ?_
  · exact sm_rP rfl
  · refine sm_ne e_a1 rfl ?_ ?_
    · exact sm_rP rfl
    · refine sm_lt rfl e_u4 ?_ ?_
      · exact sm_rP rfl
      · exact sm_rP rfl
set_option maxRecDepth 4000 in
theorem sj_X8_tooDeep_14 (nn : Nat) {h : ms_M} (hM_h : Rg_M h) : Sm_ RI_ (j_X8_tooDeep_14 nn 32 (H_M h)) (qj_X8_tooDeep_14 nn h) := by
  unfold j_X8_tooDeep_14 qj_X8_tooDeep_14
  refine sm_gr hM_h (d := 2) rfl ?_
  refine sm_gi hM_h rfl ?_; intro v2 e_v2
  refine sm_eq e_v2 rfl ?_ ?_
  · exact sm_rI rfl hM_h
  · exact sm_rI rfl hM_h
set_option maxRecDepth 4000 in
theorem sf_X8_tooDeep (nn : Nat) {a1 : Int32} {y_a1 : Int} (e_a1 : a1.toInt = y_a1) {h : ms_M} (hM_h : Rg_M h) : Sm_ RI_ (f_X8_tooDeep nn 32 a1 (H_M h)) (qf_X8_tooDeep nn y_a1 h) := by
  unfold f_X8_tooDeep qf_X8_tooDeep
  refine sm_lt e_a1 rfl ?_ ?_
  · exact sj_X8_tooDeep_14 nn hM_h
  · refine sm_gr hM_h (d := 2) rfl ?_
    refine sm_is hM_h rfl ?_
    refine sm_cV (sf_X9_tellHere nn rfl hM_h) ?_; intro u6 hM_u6
    exact sj_X8_tooDeep_14 nn hM_u6
def hg_X8_readValue (frc : tg_X8_readValue) (rc : tq_X8_readValue) : Prop := (∀ {a1 : Int32} {y_a1 : Int} (e_a1 : a1.toInt = y_a1) {h : ms_M} (hM_h : Rg_M h), Sm_ RV_ (frc.1 32 a1 (H_M h)) (rc.1 y_a1 h)) ∧ (∀ {a1 : Int32} {y_a1 : Int} (e_a1 : a1.toInt = y_a1) {h : ms_M} (hM_h : Rg_M h), Sm_ RV_ (frc.2.1 32 a1 (H_M h)) (rc.2.1 y_a1 h)) ∧ (∀ {a1 : Int32} {y_a1 : Int} (e_a1 : a1.toInt = y_a1) {h : ms_M} (hM_h : Rg_M h), Sm_ RV_ (frc.2.2.1 32 a1 (H_M h)) (rc.2.2.1 y_a1 h)) ∧ (∀ {a1 : Int32} {y_a1 : Int} (e_a1 : a1.toInt = y_a1) {h : ms_M} (hM_h : Rg_M h), Sm_ RV_ (frc.2.2.2.1 32 a1 (H_M h)) (rc.2.2.2.1 y_a1 h)) ∧ (∀ {a1 : Int32} {y_a1 : Int} (e_a1 : a1.toInt = y_a1) {h : ms_M} (hM_h : Rg_M h), Sm_ RV_ (frc.2.2.2.2.1 32 a1 (H_M h)) (rc.2.2.2.2.1 y_a1 h)) ∧ (∀ {a1 : Int32} {y_a1 : Int} (e_a1 : a1.toInt = y_a1) {h : ms_M} (hM_h : Rg_M h), Sm_ RV_ (frc.2.2.2.2.2 32 a1 (H_M h)) (rc.2.2.2.2.2 y_a1 h))
set_option maxRecDepth 4000 in
theorem sj_X8_readValue_88 (nn : Nat) {frc : tg_X8_readValue} {rc : tq_X8_readValue} (hr : hg_X8_readValue frc rc) {l1 : Int32} {y_l1 : Int} (e_l1 : l1.toInt = y_l1) {h : ms_M} (hM_h : Rg_M h) : Sm_ RV_ (j_X8_readValue_88 nn frc 32 l1 (H_M h)) (qj_X8_readValue_88 nn rc y_l1 h) := by
  unfold j_X8_readValue_88 qj_X8_readValue_88
  refine sm_is hM_h rfl ?_
  refine sm_cI (sf_X8_accept nn rfl hM_h) ?_; intro u2 y_u2 M_u2 e_u2 hM_u2
  refine sm_eq e_u2 rfl ?_ ?_
  · exact sm_rV hM_u2
  · refine sm_oq_add e_l1 rfl ?_; intro v3 y_v3 e_v3
    refine sm_is hM_u2 rfl ?_
    refine sm_cV (hr.1 e_v3 hM_u2) ?_; intro u5 hM_u5
    refine sm_is hM_u5 rfl ?_
    refine sm_cV (sf_X8_need nn rfl hM_u5) ?_; intro u7 hM_u7
    refine sm_oq_add e_l1 rfl ?_; intro v8 y_v8 e_v8
    refine sm_is hM_u7 rfl ?_
    refine sm_cV (hr.1 e_v8 hM_u7) ?_; intro u10 hM_u10
    exact sm_rV hM_u10
set_option maxRecDepth 4000 in
theorem sj_X8_readValue_49 (nn : Nat) {frc : tg_X8_readValue} {rc : tq_X8_readValue} (hr : hg_X8_readValue frc rc) {kk_20 : Nat → Int32 → Int32 → Int32 → mx_H → Option mx_H} {qkk_20 : Int → Int → Int → ms_M → Option ms_M} (hk_kk_20 : ∀ {l1 : Int32} {y_l1 : Int} (e_l1 : l1.toInt = y_l1) {l2 : Int32} {y_l2 : Int} (e_l2 : l2.toInt = y_l2) {l3 : Int32} {y_l3 : Int} (e_l3 : l3.toInt = y_l3) {h : ms_M} (hM_h : Rg_M h), Sm_ RV_ (kk_20 32 l1 l2 l3 (H_M h)) (qkk_20 y_l1 y_l2 y_l3 h)) {l1 : Int32} {y_l1 : Int} (e_l1 : l1.toInt = y_l1) {l3 : Int32} {y_l3 : Int} (e_l3 : l3.toInt = y_l3) {s0 : Int32} {y_s0 : Int} (e_s0 : s0.toInt = y_s0) {h : ms_M} (hM_h : Rg_M h) : Sm_ RV_ (j_X8_readValue_49 nn frc kk_20 32 l1 l3 s0 (H_M h)) (qj_X8_readValue_49 nn rc qkk_20 y_l1 y_l3 y_s0 h) := by
  unfold j_X8_readValue_49 qj_X8_readValue_49
  refine sm_eq e_s0 rfl ?_ ?_
  · refine sm_is hM_h rfl ?_
    refine sm_cV (sf_X8_need nn rfl hM_h) ?_; intro u13 hM_u13
    refine sm_oq_add e_l3 rfl ?_; intro v14 y_v14 e_v14
    exact hk_kk_20 e_l1 e_s0 e_v14 hM_u13
  · refine sm_gr hM_h (d := 2) rfl ?_
    refine sm_gi hM_h rfl ?_; intro v16 e_v16
    refine sm_oq_add e_v16 rfl ?_; intro v17 y_v17 e_v17
    refine sm_pv hM_h rfl e_v17 ?_; intro h18 hM_h18
    refine sm_oq_add e_l1 rfl ?_; intro v19 y_v19 e_v19
    refine sm_is hM_h18 rfl ?_
    refine sm_cV (hr.2.1 e_v19 hM_h18) ?_; intro u21 hM_u21
    refine sm_oq_add e_l3 rfl ?_; intro v22 y_v22 e_v22
    exact hk_kk_20 e_l1 e_s0 e_v22 hM_u21
set_option maxRecDepth 4000 in
theorem sw_X8_readValue_20 (nn : Nat) {frc : tg_X8_readValue} {rc : tq_X8_readValue} (hr : hg_X8_readValue frc rc) : ∀ (k : Nat) {l1 : Int32} {y_l1 : Int} (e_l1 : l1.toInt = y_l1) {l2 : Int32} {y_l2 : Int} (e_l2 : l2.toInt = y_l2) {l3 : Int32} {y_l3 : Int} (e_l3 : l3.toInt = y_l3) {h : ms_M} (hM_h : Rg_M h), Sm_ RV_ (w_X8_readValue_20 nn frc k 32 l1 l2 l3 (H_M h)) (qw_X8_readValue_20 nn rc k y_l1 y_l2 y_l3 h) := by
  intro k
  induction k with
  | zero => intros; exact sm_no
  | succ k ih =>
    intro l1 y_l1 e_l1 l2 y_l2 e_l2 l3 y_l3 e_l3 h hM_h
    unfold w_X8_readValue_20 qw_X8_readValue_20
    refine sm_le rfl e_l3 ?_ ?_
    · exact sj_X8_readValue_88 nn hr e_l1 hM_h
    · refine sm_is hM_h rfl ?_
      refine sm_cP (sf_X8_binaryAhead nn e_l2 hM_h) ?_; intro u25 y_u25 e_u25
      refine sm_eq e_u25 rfl ?_ ?_
      · exact sj_X8_readValue_88 nn hr e_l1 hM_h
      · refine sm_is hM_h rfl ?_
        refine sm_cI (sf_X8_accept nn rfl hM_h) ?_; intro u27 y_u27 M_u27 e_u27 hM_u27
        refine sm_ne e_u27 rfl ?_ ?_
        · exact sj_X8_readValue_49 nn hr ih e_l1 e_l3 rfl hM_u27
        · exact sj_X8_readValue_49 nn hr ih e_l1 e_l3 rfl hM_u27
set_option maxRecDepth 4000 in
theorem so_X8_readValue (nn : Nat) {frc : tg_X8_readValue} {rc : tq_X8_readValue} (hr : hg_X8_readValue frc rc) {a1 : Int32} {y_a1 : Int} (e_a1 : a1.toInt = y_a1) {h : ms_M} (hM_h : Rg_M h) : Sm_ RV_ (o_X8_readValue nn frc 32 a1 (H_M h)) (qo_X8_readValue nn rc y_a1 h) := by
  unfold o_X8_readValue qo_X8_readValue
  refine sm_is hM_h rfl ?_
  refine sm_cI (sf_X8_tooDeep nn e_a1 hM_h) ?_; intro u32 y_u32 M_u32 e_u32 hM_u32
  refine sm_eq e_u32 rfl ?_ ?_
  · refine sm_oq_add e_a1 rfl ?_; intro v33 y_v33 e_v33
    refine sm_is hM_u32 rfl ?_
    refine sm_cV (hr.2.1 e_v33 hM_u32) ?_; intro u35 hM_u35
    exact sw_X8_readValue_20 nn hr nn e_a1 rfl rfl hM_u35
  · exact sm_rV hM_u32
set_option maxRecDepth 4000 in
theorem sj_X8_readUnary_70 (nn : Nat) {frc : tg_X8_readValue} {rc : tq_X8_readValue} (hr : hg_X8_readValue frc rc) {l1 : Int32} {y_l1 : Int} (e_l1 : l1.toInt = y_l1) {s0 : Int32} {y_s0 : Int} (e_s0 : s0.toInt = y_s0) {s1 : Int32} {y_s1 : Int} (e_s1 : s1.toInt = y_s1) {h : ms_M} (hM_h : Rg_M h) : Sm_ RV_ (j_X8_readUnary_70 nn frc 32 l1 s0 s1 2 (H_M h)) (qj_X8_readUnary_70 nn rc y_l1 y_s0 y_s1 h) := by
  unfold j_X8_readUnary_70 qj_X8_readUnary_70
  refine sm_oq_add e_s1 e_s0 ?_; intro v1 y_v1 e_v1
  refine sm_pv hM_h rfl e_v1 ?_; intro h2 hM_h2
  refine sm_oq_add e_l1 rfl ?_; intro v3 y_v3 e_v3
  refine sm_is hM_h2 rfl ?_
  refine sm_cV (hr.2.1 e_v3 hM_h2) ?_; intro u5 hM_u5
  exact sm_rV hM_u5
set_option maxRecDepth 4000 in
theorem sj_X8_readUnary_44 (nn : Nat) {frc : tg_X8_readValue} {rc : tq_X8_readValue} (hr : hg_X8_readValue frc rc) {l1 : Int32} {y_l1 : Int} (e_l1 : l1.toInt = y_l1) {l3 : Int32} {y_l3 : Int} (e_l3 : l3.toInt = y_l3) {h : ms_M} (hM_h : Rg_M h) : Sm_ RV_ (j_X8_readUnary_44 nn frc 32 l1 l3 (H_M h)) (qj_X8_readUnary_44 nn rc y_l1 y_l3 h) := by
  unfold j_X8_readUnary_44 qj_X8_readUnary_44
  refine sm_is hM_h rfl ?_
  refine sm_cI (sf_X8_tooDeep nn e_l1 hM_h) ?_; intro u7 y_u7 M_u7 e_u7 hM_u7
  refine sm_eq e_u7 rfl ?_ ?_
  · refine sm_gr hM_u7 (d := 2) rfl ?_
    refine sm_gi hM_u7 rfl ?_; intro v9 e_v9
    refine sm_eq e_l3 rfl ?_ ?_
    · exact sj_X8_readUnary_70 nn hr e_l1 rfl e_v9 hM_u7
    · exact sj_X8_readUnary_70 nn hr e_l1 rfl e_v9 hM_u7
  · exact sm_rV hM_u7
set_option maxRecDepth 4000 in
theorem so_X8_readUnary (nn : Nat) {frc : tg_X8_readValue} {rc : tq_X8_readValue} (hr : hg_X8_readValue frc rc) {a1 : Int32} {y_a1 : Int} (e_a1 : a1.toInt = y_a1) {h : ms_M} (hM_h : Rg_M h) : Sm_ RV_ (o_X8_readUnary nn frc 32 a1 (H_M h)) (qo_X8_readUnary nn rc y_a1 h) := by
  unfold o_X8_readUnary qo_X8_readUnary
  refine sm_gr hM_h (d := 2) rfl ?_
  refine sm_is hM_h rfl ?_
  refine sm_cP (sf_X9_kind nn hM_h) ?_; intro u14 y_u14 e_u14
  refine sm_gr hM_h (d := 2) rfl ?_
  refine sm_is hM_h rfl ?_
  refine sm_cP (sf_X9_beginsCast nn hM_h) ?_; intro u17 y_u17 e_u17
  refine sm_ne e_u17 rfl ?_ ?_
  · exact sj_X8_readUnary_44 nn hr e_a1 e_u17 hM_h
  · refine sm_eq e_u14 rfl ?_ ?_
    · exact sj_X8_readUnary_44 nn hr e_a1 e_u17 hM_h
    · refine sm_eq e_u14 rfl ?_ ?_
      · exact sj_X8_readUnary_44 nn hr e_a1 e_u17 hM_h
      · refine sm_eq e_u14 rfl ?_ ?_
        · exact sj_X8_readUnary_44 nn hr e_a1 e_u17 hM_h
        · refine sm_is hM_h rfl ?_
          refine sm_cV (hr.2.2.1 e_a1 hM_h) ?_; intro u19 hM_u19
          exact sm_rV hM_u19
set_option maxRecDepth 4000 in
theorem sj_X8_readPrimary_160 (nn : Nat) {frc : tg_X8_readValue} {rc : tq_X8_readValue} (hr : hg_X8_readValue frc rc) {l1 : Int32} {y_l1 : Int} (e_l1 : l1.toInt = y_l1) {h : ms_M} (hM_h : Rg_M h) : Sm_ RV_ (j_X8_readPrimary_160 nn frc 32 l1 (H_M h)) (qj_X8_readPrimary_160 nn rc y_l1 h) := by
  unfold j_X8_readPrimary_160 qj_X8_readPrimary_160
  refine sm_is hM_h rfl ?_
  refine sm_cV (hr.2.2.2.1 e_l1 hM_h) ?_; intro u2 hM_u2
  exact sm_rV hM_u2
set_option maxRecDepth 4000 in
theorem sj_X8_readPrimary_80 (nn : Nat) {frc : tg_X8_readValue} {rc : tq_X8_readValue} (hr : hg_X8_readValue frc rc) {l1 : Int32} {y_l1 : Int} (e_l1 : l1.toInt = y_l1) {h : ms_M} (hM_h : Rg_M h) : Sm_ RV_ (j_X8_readPrimary_80 nn frc 32 l1 (H_M h)) (qj_X8_readPrimary_80 nn rc y_l1 h) := by
  unfold j_X8_readPrimary_80 qj_X8_readPrimary_80
  refine sm_gr hM_h (d := 2) rfl ?_
  refine sm_gi hM_h rfl ?_; intro v4 e_v4
  refine sm_oq_add e_v4 rfl ?_; intro v5 y_v5 e_v5
  refine sm_pv hM_h rfl e_v5 ?_; intro h6 hM_h6
  exact sj_X8_readPrimary_160 nn hr e_l1 hM_h6
set_option maxRecDepth 4000 in
theorem so_X8_readPrimary (nn : Nat) {frc : tg_X8_readValue} {rc : tq_X8_readValue} (hr : hg_X8_readValue frc rc) {a1 : Int32} {y_a1 : Int} (e_a1 : a1.toInt = y_a1) {h : ms_M} (hM_h : Rg_M h) : Sm_ RV_ (o_X8_readPrimary nn frc 32 a1 (H_M h)) (qo_X8_readPrimary nn rc y_a1 h) := by
  unfold o_X8_readPrimary qo_X8_readPrimary
  refine sm_gr hM_h (d := 2) rfl ?_
  refine sm_is hM_h rfl ?_
  refine sm_cP (sf_X9_kind nn hM_h) ?_; intro u9 y_u9 e_u9
  refine sm_eq e_u9 rfl ?_ ?_
  · refine sm_gr hM_h (d := 2) rfl ?_
    refine sm_gi hM_h rfl ?_; intro v14 e_v14
    refine sm_oq_add e_v14 rfl ?_; intro v15 y_v15 e_v15
    refine sm_pv hM_h rfl e_v15 ?_; intro h16 hM_h16
    refine sm_is hM_h16 rfl ?_
    refine sm_cV (hr.2.2.2.2.2 e_a1 hM_h16) ?_; intro u18 hM_u18
    exact sj_X8_readPrimary_160 nn hr e_a1 hM_u18
  · refine sm_eq e_u9 rfl ?_ ?_
    · exact sj_X8_readPrimary_80 nn hr e_a1 hM_h
    · refine sm_eq e_u9 rfl ?_ ?_
      · exact sj_X8_readPrimary_80 nn hr e_a1 hM_h
      · refine sm_eq e_u9 rfl ?_ ?_
        · refine sm_is hM_h rfl ?_
          refine sm_cV (hr.2.2.2.2.1 e_a1 hM_h) ?_; intro u20 hM_u20
          exact sj_X8_readPrimary_160 nn hr e_a1 hM_u20
        · refine sm_eq e_u9 rfl ?_ ?_
          · exact sj_X8_readPrimary_80 nn hr e_a1 hM_h
          · refine sm_eq e_u9 rfl ?_ ?_
            · exact sj_X8_readPrimary_80 nn hr e_a1 hM_h
            · refine sm_eq e_u9 rfl ?_ ?_
              · exact sj_X8_readPrimary_80 nn hr e_a1 hM_h
              · refine sm_eq e_u9 rfl ?_ ?_
                · refine sm_gr hM_h (d := 2) rfl ?_
                  refine sm_gi hM_h rfl ?_; intro v22 e_v22
                  refine sm_oq_add e_v22 rfl ?_; intro v23 y_v23 e_v23
                  refine sm_pv hM_h rfl e_v23 ?_; intro h24 hM_h24
                  refine sm_is hM_h24 rfl ?_
                  refine sm_cV (hr.1 e_a1 hM_h24) ?_; intro u26 hM_u26
                  refine sm_is hM_u26 rfl ?_
                  refine sm_cV (sf_X8_need nn rfl hM_u26) ?_; intro u28 hM_u28
                  exact sj_X8_readPrimary_160 nn hr e_a1 hM_u28
                · refine sm_gr hM_h (d := 2) rfl ?_
                  refine sm_is hM_h rfl ?_
                  refine sm_cV (sf_X9_tellHere nn rfl hM_h) ?_; intro u12 hM_u12
                  exact sj_X8_readPrimary_160 nn hr e_a1 hM_u12
set_option maxRecDepth 4000 in
theorem sw_X8_readBehind_4 (nn : Nat) {frc : tg_X8_readValue} {rc : tq_X8_readValue} (hr : hg_X8_readValue frc rc) : ∀ (k : Nat) {l1 : Int32} {y_l1 : Int} (e_l1 : l1.toInt = y_l1) {l2 : Int32} {y_l2 : Int} (e_l2 : l2.toInt = y_l2) {l3 : Int32} {y_l3 : Int} (e_l3 : l3.toInt = y_l3) {h : ms_M} (hM_h : Rg_M h), Sm_ RV_ (w_X8_readBehind_4 nn frc k 32 l1 l2 l3 (H_M h)) (qw_X8_readBehind_4 nn rc k y_l1 y_l2 y_l3 h) := by
  intro k
  induction k with
  | zero => intros; exact sm_no
  | succ k ih =>
    intro l1 y_l1 e_l1 l2 y_l2 e_l2 l3 y_l3 e_l3 h hM_h
    unfold w_X8_readBehind_4 qw_X8_readBehind_4
    refine sm_le rfl e_l3 ?_ ?_
    · exact sm_rV hM_h
    · refine sm_eq e_l2 rfl ?_ ?_
      · exact sm_rV hM_h
      · refine sm_is hM_h rfl ?_
        refine sm_cI (sf_X8_accept nn rfl hM_h) ?_; intro u2 y_u2 M_u2 e_u2 hM_u2
        refine sm_eq e_u2 rfl ?_ ?_
        · refine sm_is hM_u2 rfl ?_
          refine sm_cI (sf_X8_accept nn rfl hM_u2) ?_; intro u4 y_u4 M_u4 e_u4 hM_u4
          refine sm_eq e_u4 rfl ?_ ?_
          · refine sm_oq_add e_l3 rfl ?_; intro v5 y_v5 e_v5
            exact ih e_l1 rfl e_v5 hM_u4
          · refine sm_is hM_u4 rfl ?_
            refine sm_cV (hr.1 e_l1 hM_u4) ?_; intro u7 hM_u7
            refine sm_is hM_u7 rfl ?_
            refine sm_cV (sf_X8_need nn rfl hM_u7) ?_; intro u9 hM_u9
            refine sm_oq_add e_l3 rfl ?_; intro v10 y_v10 e_v10
            exact ih e_l1 e_l2 e_v10 hM_u9
        · refine sm_is hM_u2 rfl ?_
          refine sm_cV (sf_X8_need nn rfl hM_u2) ?_; intro u13 hM_u13
          refine sm_is hM_u13 rfl ?_
          refine sm_cV (hr.2.2.2.2.2 e_l1 hM_u13) ?_; intro u15 hM_u15
          refine sm_oq_add e_l3 rfl ?_; intro v16 y_v16 e_v16
          exact ih e_l1 e_l2 e_v16 hM_u15
set_option maxRecDepth 4000 in
theorem so_X8_readBehind (nn : Nat) {frc : tg_X8_readValue} {rc : tq_X8_readValue} (hr : hg_X8_readValue frc rc) {a1 : Int32} {y_a1 : Int} (e_a1 : a1.toInt = y_a1) {h : ms_M} (hM_h : Rg_M h) : Sm_ RV_ (o_X8_readBehind nn frc 32 a1 (H_M h)) (qo_X8_readBehind nn rc y_a1 h) := by
  unfold o_X8_readBehind qo_X8_readBehind
  exact sw_X8_readBehind_4 nn hr nn e_a1 rfl rfl hM_h
set_option maxRecDepth 4000 in
theorem sj_X8_readNew_45 (nn : Nat) {frc : tg_X8_readValue} {rc : tq_X8_readValue} (hr : hg_X8_readValue frc rc) {l1 : Int32} {y_l1 : Int} (e_l1 : l1.toInt = y_l1) {h : ms_M} (hM_h : Rg_M h) : Sm_ RV_ (j_X8_readNew_45 nn frc 32 l1 (H_M h)) (qj_X8_readNew_45 nn rc y_l1 h) := by
  unfold j_X8_readNew_45 qj_X8_readNew_45
  refine sm_is hM_h rfl ?_
  refine sm_cV (sf_X8_need nn rfl hM_h) ?_; intro u2 hM_u2
  refine sm_is hM_u2 rfl ?_
  refine sm_cV (hr.1 e_l1 hM_u2) ?_; intro u4 hM_u4
  refine sm_is hM_u4 rfl ?_
  refine sm_cV (sf_X8_need nn rfl hM_u4) ?_; intro u6 hM_u6
  exact sm_rV hM_u6
set_option maxRecDepth 4000 in
theorem so_X8_readNew (nn : Nat) {frc : tg_X8_readValue} {rc : tq_X8_readValue} (hr : hg_X8_readValue frc rc) {a1 : Int32} {y_a1 : Int} (e_a1 : a1.toInt = y_a1) {h : ms_M} (hM_h : Rg_M h) : Sm_ RV_ (o_X8_readNew nn frc 32 a1 (H_M h)) (qo_X8_readNew nn rc y_a1 h) := by
  unfold o_X8_readNew qo_X8_readNew
  refine sm_gr hM_h (d := 2) rfl ?_
  refine sm_gi hM_h rfl ?_; intro v8 e_v8
  refine sm_oq_add e_v8 rfl ?_; intro v9 y_v9 e_v9
  refine sm_pv hM_h rfl e_v9 ?_; intro h10 hM_h10
  refine sm_is hM_h10 rfl ?_
  refine sm_cI (sf_X8_accept nn rfl hM_h10) ?_; intro u12 y_u12 M_u12 e_u12 hM_u12
  refine sm_ne e_u12 rfl ?_ ?_
  · exact sj_X8_readNew_45 nn hr e_a1 hM_u12
  · refine sm_is hM_u12 rfl ?_
    refine sm_cV (sf_X8_need nn rfl hM_u12) ?_; intro u14 hM_u14
    refine sm_is hM_u14 rfl ?_
    refine sm_cI (sf_X8_accept nn rfl hM_u14) ?_; intro u16 y_u16 M_u16 e_u16 hM_u16
    refine sm_eq e_u16 rfl ?_ ?_
    · exact sj_X8_readNew_45 nn hr e_a1 hM_u16
    · refine sm_is hM_u16 rfl ?_
      refine sm_cV (sf_X8_need nn rfl hM_u16) ?_; intro u18 hM_u18
      exact sm_rV hM_u18
set_option maxRecDepth 4000 in
theorem sj_X8_readArguments_52 (nn : Nat) {frc : tg_X8_readValue} {rc : tq_X8_readValue} (hr : hg_X8_readValue frc rc) {h : ms_M} (hM_h : Rg_M h) : Sm_ RV_ (j_X8_readArguments_52 nn frc 32 (H_M h)) (qj_X8_readArguments_52 nn rc h) := by
  unfold j_X8_readArguments_52 qj_X8_readArguments_52
  refine sm_is hM_h rfl ?_
  refine sm_cV (sf_X8_need nn rfl hM_h) ?_; intro u2 hM_u2
  exact sm_rV hM_u2
set_option maxRecDepth 4000 in
theorem sw_X8_readArguments_23 (nn : Nat) {frc : tg_X8_readValue} {rc : tq_X8_readValue} (hr : hg_X8_readValue frc rc) : ∀ (k : Nat) {l1 : Int32} {y_l1 : Int} (e_l1 : l1.toInt = y_l1) {l2 : Int32} {y_l2 : Int} (e_l2 : l2.toInt = y_l2) {l3 : Int32} {y_l3 : Int} (e_l3 : l3.toInt = y_l3) {h : ms_M} (hM_h : Rg_M h), Sm_ RV_ (w_X8_readArguments_23 nn frc k 32 l1 l2 l3 (H_M h)) (qw_X8_readArguments_23 nn rc k y_l1 y_l2 y_l3 h) := by
  intro k
  induction k with
  | zero => intros; exact sm_no
  | succ k ih =>
    intro l1 y_l1 e_l1 l2 y_l2 e_l2 l3 y_l3 e_l3 h hM_h
    unfold w_X8_readArguments_23 qw_X8_readArguments_23
    refine sm_le rfl e_l3 ?_ ?_
    · exact sj_X8_readArguments_52 nn hr hM_h
    · refine sm_eq e_l2 rfl ?_ ?_
      · exact sj_X8_readArguments_52 nn hr hM_h
      · refine sm_is hM_h rfl ?_
        refine sm_cV (hr.1 e_l1 hM_h) ?_; intro u4 hM_u4
        refine sm_is hM_u4 rfl ?_
        refine sm_cI (sf_X8_accept nn rfl hM_u4) ?_; intro u6 y_u6 M_u6 e_u6 hM_u6
        refine sm_oq_add e_l3 rfl ?_; intro v7 y_v7 e_v7
        exact ih e_l1 e_u6 e_v7 hM_u6
set_option maxRecDepth 4000 in
theorem so_X8_readArguments (nn : Nat) {frc : tg_X8_readValue} {rc : tq_X8_readValue} (hr : hg_X8_readValue frc rc) {a1 : Int32} {y_a1 : Int} (e_a1 : a1.toInt = y_a1) {h : ms_M} (hM_h : Rg_M h) : Sm_ RV_ (o_X8_readArguments nn frc 32 a1 (H_M h)) (qo_X8_readArguments nn rc y_a1 h) := by
  unfold o_X8_readArguments qo_X8_readArguments
  refine sm_is hM_h rfl ?_
  refine sm_cI (sf_X8_accept nn rfl hM_h) ?_; intro u11 y_u11 M_u11 e_u11 hM_u11
  refine sm_eq e_u11 rfl ?_ ?_
  · exact sm_rV hM_u11
  · refine sm_is hM_u11 rfl ?_
    refine sm_cI (sf_X8_accept nn rfl hM_u11) ?_; intro u13 y_u13 M_u13 e_u13 hM_u13
    refine sm_eq e_u13 rfl ?_ ?_
    · exact sw_X8_readArguments_23 nn hr nn e_a1 rfl rfl hM_u13
    · exact sm_rV hM_u13
set_option maxRecDepth 4000 in
theorem sg_X8_readValue (nn : Nat) : ∀ d, hg_X8_readValue (g_X8_readValue nn d) (qg_X8_readValue nn d) := by
  intro d
  induction d with
  | zero => exact ⟨(by intros; exact sm_no), (by intros; exact sm_no), (by intros; exact sm_no), (by intros; exact sm_no), (by intros; exact sm_no), (by intros; exact sm_no)⟩
  | succ d ih => exact ⟨so_X8_readValue nn ih, so_X8_readUnary nn ih, so_X8_readPrimary nn ih, so_X8_readBehind nn ih, so_X8_readNew nn ih, so_X8_readArguments nn ih⟩
set_option maxRecDepth 4000 in
theorem sf_X8_readValue (nn : Nat) {a1 : Int32} {y_a1 : Int} (e_a1 : a1.toInt = y_a1) {h : ms_M} (hM_h : Rg_M h) : Sm_ RV_ (f_X8_readValue nn 32 a1 (H_M h)) (qf_X8_readValue nn y_a1 h) := (sg_X8_readValue nn 260).1 e_a1 hM_h
set_option maxRecDepth 4000 in
theorem sf_X8_readUnary (nn : Nat) {a1 : Int32} {y_a1 : Int} (e_a1 : a1.toInt = y_a1) {h : ms_M} (hM_h : Rg_M h) : Sm_ RV_ (f_X8_readUnary nn 32 a1 (H_M h)) (qf_X8_readUnary nn y_a1 h) := (sg_X8_readValue nn 260).2.1 e_a1 hM_h
set_option maxRecDepth 4000 in
theorem sf_X8_readPrimary (nn : Nat) {a1 : Int32} {y_a1 : Int} (e_a1 : a1.toInt = y_a1) {h : ms_M} (hM_h : Rg_M h) : Sm_ RV_ (f_X8_readPrimary nn 32 a1 (H_M h)) (qf_X8_readPrimary nn y_a1 h) := (sg_X8_readValue nn 260).2.2.1 e_a1 hM_h
set_option maxRecDepth 4000 in
theorem sf_X8_readBehind (nn : Nat) {a1 : Int32} {y_a1 : Int} (e_a1 : a1.toInt = y_a1) {h : ms_M} (hM_h : Rg_M h) : Sm_ RV_ (f_X8_readBehind nn 32 a1 (H_M h)) (qf_X8_readBehind nn y_a1 h) := (sg_X8_readValue nn 260).2.2.2.1 e_a1 hM_h
set_option maxRecDepth 4000 in
theorem sf_X8_readNew (nn : Nat) {a1 : Int32} {y_a1 : Int} (e_a1 : a1.toInt = y_a1) {h : ms_M} (hM_h : Rg_M h) : Sm_ RV_ (f_X8_readNew nn 32 a1 (H_M h)) (qf_X8_readNew nn y_a1 h) := (sg_X8_readValue nn 260).2.2.2.2.1 e_a1 hM_h
set_option maxRecDepth 4000 in
theorem sf_X8_readArguments (nn : Nat) {a1 : Int32} {y_a1 : Int} (e_a1 : a1.toInt = y_a1) {h : ms_M} (hM_h : Rg_M h) : Sm_ RV_ (f_X8_readArguments nn 32 a1 (H_M h)) (qf_X8_readArguments nn y_a1 h) := (sg_X8_readValue nn 260).2.2.2.2.2 e_a1 hM_h
set_option maxRecDepth 4000 in
theorem sf_X8_readCondition (nn : Nat) {a1 : Int32} {y_a1 : Int} (e_a1 : a1.toInt = y_a1) {h : ms_M} (hM_h : Rg_M h) : Sm_ RV_ (f_X8_readCondition nn 32 a1 (H_M h)) (qf_X8_readCondition nn y_a1 h) := by
  unfold f_X8_readCondition qf_X8_readCondition
  refine sm_gr hM_h (d := 2) rfl ?_
  refine sm_gi hM_h rfl ?_; intro v2 e_v2
  refine sm_oq_add e_v2 rfl ?_; intro v3 y_v3 e_v3
  refine sm_pv hM_h rfl e_v3 ?_; intro h4 hM_h4
  refine sm_is hM_h4 rfl ?_
  refine sm_cV (sf_X8_need nn rfl hM_h4) ?_; intro u6 hM_u6
  refine sm_is hM_u6 rfl ?_
  refine sm_cV (sf_X8_readValue nn e_a1 hM_u6) ?_; intro u8 hM_u8
  refine sm_is hM_u8 rfl ?_
  refine sm_cV (sf_X8_need nn rfl hM_u8) ?_; intro u10 hM_u10
  exact sm_rV hM_u10
set_option maxRecDepth 4000 in
theorem sj_X8_readPlain_56 (nn : Nat) {h : ms_M} (hM_h : Rg_M h) : Sm_ RV_ (j_X8_readPlain_56 nn 32 (H_M h)) (qj_X8_readPlain_56 nn h) := by
  unfold j_X8_readPlain_56 qj_X8_readPlain_56
  refine sm_gr hM_h (d := 2) rfl ?_
  refine sm_gi hM_h rfl ?_; intro v2 e_v2
  refine sm_oq_add e_v2 rfl ?_; intro v3 y_v3 e_v3
  refine sm_pv hM_h rfl e_v3 ?_; intro h4 hM_h4
  exact sm_rV hM_h4
set_option maxRecDepth 4000 in
theorem sf_X8_readPlain (nn : Nat) {a1 : Int32} {y_a1 : Int} (e_a1 : a1.toInt = y_a1) {h : ms_M} (hM_h : Rg_M h) : Sm_ RV_ (f_X8_readPlain nn 32 a1 (H_M h)) (qf_X8_readPlain nn y_a1 h) := by
  unfold f_X8_readPlain qf_X8_readPlain
  refine sm_gr hM_h (d := 2) rfl ?_
  refine sm_is hM_h rfl ?_
  refine sm_cP (sf_X9_kind nn hM_h) ?_; intro u7 y_u7 e_u7
  refine sm_eq e_u7 rfl ?_ ?_
  · exact sj_X8_readPlain_56 nn hM_h
  · refine sm_eq e_u7 rfl ?_ ?_
    · exact sj_X8_readPlain_56 nn hM_h
    · refine sm_eq e_u7 rfl ?_ ?_
      · refine sm_is hM_h rfl ?_
        refine sm_cV (sf_X8_readCondition nn e_a1 hM_h) ?_; intro u16 hM_u16
        exact sm_rV hM_u16
      · refine sm_eq e_u7 rfl ?_ ?_
        · refine sm_gr hM_h (d := 2) rfl ?_
          refine sm_gi hM_h rfl ?_; intro v18 e_v18
          refine sm_oq_add e_v18 rfl ?_; intro v19 y_v19 e_v19
          refine sm_pv hM_h rfl e_v19 ?_; intro h20 hM_h20
          refine sm_gr hM_h20 (d := 2) rfl ?_
          refine sm_is hM_h20 rfl ?_
          refine sm_cP (sf_X9_kind nn hM_h20) ?_; intro u23 y_u23 e_u23
          refine sm_eq e_u23 rfl ?_ ?_
          · exact sm_rV hM_h20
          · refine sm_is hM_h20 rfl ?_
            refine sm_cV (sf_X8_readValue nn e_a1 hM_h20) ?_; intro u25 hM_u25
            exact sm_rV hM_u25
        · refine sm_eq e_u7 rfl ?_ ?_
          · refine sm_gr hM_h (d := 2) rfl ?_
            refine sm_gi hM_h rfl ?_; intro v28 e_v28
            refine sm_oq_add e_v28 rfl ?_; intro v29 y_v29 e_v29
            refine sm_pv hM_h rfl e_v29 ?_; intro h30 hM_h30
            refine sm_is hM_h30 rfl ?_
            refine sm_cV (sf_X8_readValue nn e_a1 hM_h30) ?_; intro u32 hM_u32
            exact sm_rV hM_u32
          · refine sm_is hM_h rfl ?_
            refine sm_cV (sf_X8_readValue nn e_a1 hM_h) ?_; intro u9 hM_u9
            refine sm_is hM_u9 rfl ?_
            refine sm_cI (sf_X8_accept nn rfl hM_u9) ?_; intro u11 y_u11 M_u11 e_u11 hM_u11
            refine sm_eq e_u11 rfl ?_ ?_
            · exact sm_rV hM_u11
            · refine sm_is hM_u11 rfl ?_
              refine sm_cV (sf_X8_readValue nn e_a1 hM_u11) ?_; intro u13 hM_u13
              exact sm_rV hM_u13
set_option maxRecDepth 4000 in
theorem sj_X8_readType_24 (nn : Nat) {h : ms_M} (hM_h : Rg_M h) : Sm_ RV_ (j_X8_readType_24 nn 32 (H_M h)) (qj_X8_readType_24 nn h) := by
  unfold j_X8_readType_24 qj_X8_readType_24
  refine sm_is hM_h rfl ?_
  refine sm_cI (sf_X8_accept nn rfl hM_h) ?_; intro u2 y_u2 M_u2 e_u2 hM_u2
  refine sm_eq e_u2 rfl ?_ ?_
  · exact sm_rV hM_u2
  · refine sm_is hM_u2 rfl ?_
    refine sm_cV (sf_X8_need nn rfl hM_u2) ?_; intro u4 hM_u4
    exact sm_rV hM_u4
set_option maxRecDepth 4000 in
theorem sf_X8_readType (nn : Nat) {h : ms_M} (hM_h : Rg_M h) : Sm_ RV_ (f_X8_readType nn 32 (H_M h)) (qf_X8_readType nn h) := by
  unfold f_X8_readType qf_X8_readType
  refine sm_is hM_h rfl ?_
  refine sm_cI (sf_X8_accept nn rfl hM_h) ?_; intro u7 y_u7 M_u7 e_u7 hM_u7
  refine sm_eq e_u7 rfl ?_ ?_
  · refine sm_is hM_u7 rfl ?_
    refine sm_cI (sf_X8_accept nn rfl hM_u7) ?_; intro u9 y_u9 M_u9 e_u9 hM_u9
    refine sm_ne e_u9 rfl ?_ ?_
    · exact sj_X8_readType_24 nn hM_u9
    · refine sm_is hM_u9 rfl ?_
      refine sm_cV (sf_X8_need nn rfl hM_u9) ?_; intro u11 hM_u11
      exact sj_X8_readType_24 nn hM_u11
  · exact sm_rV hM_u7
set_option maxRecDepth 4000 in
theorem sf_X8_readVariable (nn : Nat) {a1 : Int32} {y_a1 : Int} (e_a1 : a1.toInt = y_a1) {h : ms_M} (hM_h : Rg_M h) : Sm_ RV_ (f_X8_readVariable nn 32 a1 (H_M h)) (qf_X8_readVariable nn y_a1 h) := by
  unfold f_X8_readVariable qf_X8_readVariable
  refine sm_is hM_h rfl ?_
  refine sm_cV (sf_X8_readType nn hM_h) ?_; intro u2 hM_u2
  refine sm_is hM_u2 rfl ?_
  refine sm_cV (sf_X8_need nn rfl hM_u2) ?_; intro u4 hM_u4
  refine sm_is hM_u4 rfl ?_
  refine sm_cV (sf_X8_need nn rfl hM_u4) ?_; intro u6 hM_u6
  refine sm_is hM_u6 rfl ?_
  refine sm_cV (sf_X8_readValue nn e_a1 hM_u6) ?_; intro u8 hM_u8
  exact sm_rV hM_u8
def hg_X8_readBlock (frc : tg_X8_readBlock) (rc : tq_X8_readBlock) : Prop := (∀ {a1 : Int32} {y_a1 : Int} (e_a1 : a1.toInt = y_a1) {h : ms_M} (hM_h : Rg_M h), Sm_ RV_ (frc.1 32 a1 (H_M h)) (rc.1 y_a1 h)) ∧ (∀ {a1 : Int32} {y_a1 : Int} (e_a1 : a1.toInt = y_a1) {h : ms_M} (hM_h : Rg_M h), Sm_ RV_ (frc.2.1 32 a1 (H_M h)) (rc.2.1 y_a1 h)) ∧ (∀ {a1 : Int32} {y_a1 : Int} (e_a1 : a1.toInt = y_a1) {h : ms_M} (hM_h : Rg_M h), Sm_ RV_ (frc.2.2 32 a1 (H_M h)) (rc.2.2 y_a1 h))
set_option maxRecDepth 4000 in
theorem sj_X8_readBlock_48 (nn : Nat) {frc : tg_X8_readBlock} {rc : tq_X8_readBlock} (hr : hg_X8_readBlock frc rc) {h : ms_M} (hM_h : Rg_M h) : Sm_ RV_ (j_X8_readBlock_48 nn frc 32 (H_M h)) (qj_X8_readBlock_48 nn rc h) := by
  unfold j_X8_readBlock_48 qj_X8_readBlock_48
  refine sm_is hM_h rfl ?_
  refine sm_cV (sf_X8_need nn rfl hM_h) ?_; intro u2 hM_u2
  exact sm_rV hM_u2
set_option maxRecDepth 4000 in
theorem sw_X8_readBlock_8 (nn : Nat) {frc : tg_X8_readBlock} {rc : tq_X8_readBlock} (hr : hg_X8_readBlock frc rc) : ∀ (k : Nat) {l1 : Int32} {y_l1 : Int} (e_l1 : l1.toInt = y_l1) {l2 : Int32} {y_l2 : Int} (e_l2 : l2.toInt = y_l2) {h : ms_M} (hM_h : Rg_M h), Sm_ RV_ (w_X8_readBlock_8 nn frc k 32 l1 l2 (H_M h)) (qw_X8_readBlock_8 nn rc k y_l1 y_l2 h) := by
  intro k
  induction k with
  | zero => intros; exact sm_no
  | succ k ih =>
    intro l1 y_l1 e_l1 l2 y_l2 e_l2 h hM_h
    unfold w_X8_readBlock_8 qw_X8_readBlock_8
    refine sm_le rfl e_l2 ?_ ?_
    · exact sj_X8_readBlock_48 nn hr hM_h
    · refine sm_gr hM_h (d := 2) rfl ?_
      refine sm_gi hM_h rfl ?_; intro v4 e_v4
      refine sm_ne e_v4 rfl ?_ ?_
      · exact sj_X8_readBlock_48 nn hr hM_h
      · refine sm_gr hM_h (d := 2) rfl ?_
        refine sm_is hM_h rfl ?_
        refine sm_cP (sf_X9_kind nn hM_h) ?_; intro u7 y_u7 e_u7
        refine sm_eq e_u7 rfl ?_ ?_
        · exact sj_X8_readBlock_48 nn hr hM_h
        · refine sm_is hM_h rfl ?_
          refine sm_cV (hr.2.1 e_l1 hM_h) ?_; intro u9 hM_u9
          refine sm_oq_add e_l2 rfl ?_; intro v10 y_v10 e_v10
          exact ih e_l1 e_v10 hM_u9
set_option maxRecDepth 4000 in
theorem so_X8_readBlock (nn : Nat) {frc : tg_X8_readBlock} {rc : tq_X8_readBlock} (hr : hg_X8_readBlock frc rc) {a1 : Int32} {y_a1 : Int} (e_a1 : a1.toInt = y_a1) {h : ms_M} (hM_h : Rg_M h) : Sm_ RV_ (o_X8_readBlock nn frc 32 a1 (H_M h)) (qo_X8_readBlock nn rc y_a1 h) := by
  unfold o_X8_readBlock qo_X8_readBlock
  refine sm_is hM_h rfl ?_
  refine sm_cV (sf_X8_need nn rfl hM_h) ?_; intro u15 hM_u15
  exact sw_X8_readBlock_8 nn hr nn e_a1 rfl hM_u15
set_option maxRecDepth 4000 in
theorem sj_X8_readStatement_157 (nn : Nat) {frc : tg_X8_readBlock} {rc : tq_X8_readBlock} (hr : hg_X8_readBlock frc rc) {h : ms_M} (hM_h : Rg_M h) : Sm_ RV_ (j_X8_readStatement_157 nn frc 32 (H_M h)) (qj_X8_readStatement_157 nn rc h) := by
  unfold j_X8_readStatement_157 qj_X8_readStatement_157
  refine sm_is hM_h rfl ?_
  refine sm_cV (sf_X8_need nn rfl hM_h) ?_; intro u2 hM_u2
  exact sm_rV hM_u2
set_option maxRecDepth 4000 in
theorem so_X8_readStatement (nn : Nat) {frc : tg_X8_readBlock} {rc : tq_X8_readBlock} (hr : hg_X8_readBlock frc rc) {a1 : Int32} {y_a1 : Int} (e_a1 : a1.toInt = y_a1) {h : ms_M} (hM_h : Rg_M h) : Sm_ RV_ (o_X8_readStatement nn frc 32 a1 (H_M h)) (qo_X8_readStatement nn rc y_a1 h) := by
  unfold o_X8_readStatement qo_X8_readStatement
  refine sm_is hM_h rfl ?_
  refine sm_cI (sf_X8_tooDeep nn e_a1 hM_h) ?_; intro u4 y_u4 M_u4 e_u4 hM_u4
  refine sm_eq e_u4 rfl ?_ ?_
  · refine sm_gr hM_u4 (d := 2) rfl ?_
    refine sm_is hM_u4 rfl ?_
    refine sm_cP (sf_X9_kind nn hM_u4) ?_; intro u7 y_u7 e_u7
    refine sm_eq e_u7 rfl ?_ ?_
    · refine sm_oq_add e_a1 rfl ?_; intro v18 y_v18 e_v18
      refine sm_is hM_u4 rfl ?_
      refine sm_cV (sf_X8_readCondition nn e_v18 hM_u4) ?_; intro u20 hM_u20
      refine sm_oq_add e_a1 rfl ?_; intro v21 y_v21 e_v21
      refine sm_is hM_u20 rfl ?_
      refine sm_cV (hr.2.1 e_v21 hM_u20) ?_; intro u23 hM_u23
      refine sm_is hM_u23 rfl ?_
      refine sm_cI (sf_X8_accept nn rfl hM_u23) ?_; intro u25 y_u25 M_u25 e_u25 hM_u25
      refine sm_eq e_u25 rfl ?_ ?_
      · exact sm_rV hM_u25
      · refine sm_oq_add e_a1 rfl ?_; intro v26 y_v26 e_v26
        refine sm_is hM_u25 rfl ?_
        refine sm_cV (hr.2.1 e_v26 hM_u25) ?_; intro u28 hM_u28
        exact sm_rV hM_u28
    · refine sm_eq e_u7 rfl ?_ ?_
      · refine sm_oq_add e_a1 rfl ?_; intro v30 y_v30 e_v30
        refine sm_is hM_u4 rfl ?_
        refine sm_cV (hr.2.2 e_v30 hM_u4) ?_; intro u32 hM_u32
        exact sm_rV hM_u32
      · refine sm_eq e_u7 rfl ?_ ?_
        · refine sm_oq_add e_a1 rfl ?_; intro v33 y_v33 e_v33
          refine sm_is hM_u4 rfl ?_
          refine sm_cV (sf_X8_readCondition nn e_v33 hM_u4) ?_; intro u35 hM_u35
          refine sm_oq_add e_a1 rfl ?_; intro v36 y_v36 e_v36
          refine sm_is hM_u35 rfl ?_
          refine sm_cV (hr.2.1 e_v36 hM_u35) ?_; intro u38 hM_u38
          exact sm_rV hM_u38
        · refine sm_eq e_u7 rfl ?_ ?_
          · refine sm_oq_add e_a1 rfl ?_; intro v39 y_v39 e_v39
            refine sm_is hM_u4 rfl ?_
            refine sm_cV (hr.1 e_v39 hM_u4) ?_; intro u41 hM_u41
            exact sm_rV hM_u41
          · refine sm_gr hM_u4 (d := 2) rfl ?_
            refine sm_is hM_u4 rfl ?_
            refine sm_cP (sf_X9_beginsVariable nn hM_u4) ?_; intro u10 y_u10 e_u10
            refine sm_eq e_u10 rfl ?_ ?_
            · refine sm_oq_add e_a1 rfl ?_; intro v11 y_v11 e_v11
              refine sm_is hM_u4 rfl ?_
              refine sm_cV (sf_X8_readPlain nn e_v11 hM_u4) ?_; intro u13 hM_u13
              exact sj_X8_readStatement_157 nn hr hM_u13
            · refine sm_oq_add e_a1 rfl ?_; intro v14 y_v14 e_v14
              refine sm_is hM_u4 rfl ?_
              refine sm_cV (sf_X8_readVariable nn e_v14 hM_u4) ?_; intro u16 hM_u16
              exact sj_X8_readStatement_157 nn hr hM_u16
  · exact sm_rV hM_u4
set_option maxRecDepth 4000 in
theorem so_X8_readTry (nn : Nat) {frc : tg_X8_readBlock} {rc : tq_X8_readBlock} (hr : hg_X8_readBlock frc rc) {a1 : Int32} {y_a1 : Int} (e_a1 : a1.toInt = y_a1) {h : ms_M} (hM_h : Rg_M h) : Sm_ RV_ (o_X8_readTry nn frc 32 a1 (H_M h)) (qo_X8_readTry nn rc y_a1 h) := by
  unfold o_X8_readTry qo_X8_readTry
  refine sm_gr hM_h (d := 2) rfl ?_
  refine sm_gi hM_h rfl ?_; intro v2 e_v2
  refine sm_oq_add e_v2 rfl ?_; intro v3 y_v3 e_v3
  refine sm_pv hM_h rfl e_v3 ?_; intro h4 hM_h4
  refine sm_is hM_h4 rfl ?_
  refine sm_cV (hr.1 e_a1 hM_h4) ?_; intro u6 hM_u6
  refine sm_is hM_u6 rfl ?_
  refine sm_cV (sf_X8_need nn rfl hM_u6) ?_; intro u8 hM_u8
  refine sm_is hM_u8 rfl ?_
  refine sm_cV (sf_X8_need nn rfl hM_u8) ?_; intro u10 hM_u10
  refine sm_is hM_u10 rfl ?_
  refine sm_cV (sf_X8_need nn rfl hM_u10) ?_; intro u12 hM_u12
  refine sm_is hM_u12 rfl ?_
  refine sm_cV (sf_X8_need nn rfl hM_u12) ?_; intro u14 hM_u14
  refine sm_is hM_u14 rfl ?_
  refine sm_cV (sf_X8_need nn rfl hM_u14) ?_; intro u16 hM_u16
  refine sm_is hM_u16 rfl ?_
  refine sm_cV (hr.1 e_a1 hM_u16) ?_; intro u18 hM_u18
  exact sm_rV hM_u18
set_option maxRecDepth 4000 in
theorem sg_X8_readBlock (nn : Nat) : ∀ d, hg_X8_readBlock (g_X8_readBlock nn d) (qg_X8_readBlock nn d) := by
  intro d
  induction d with
  | zero => exact ⟨(by intros; exact sm_no), (by intros; exact sm_no), (by intros; exact sm_no)⟩
  | succ d ih => exact ⟨so_X8_readBlock nn ih, so_X8_readStatement nn ih, so_X8_readTry nn ih⟩
set_option maxRecDepth 4000 in
theorem sf_X8_readBlock (nn : Nat) {a1 : Int32} {y_a1 : Int} (e_a1 : a1.toInt = y_a1) {h : ms_M} (hM_h : Rg_M h) : Sm_ RV_ (f_X8_readBlock nn 32 a1 (H_M h)) (qf_X8_readBlock nn y_a1 h) := (sg_X8_readBlock nn 150).1 e_a1 hM_h
set_option maxRecDepth 4000 in
theorem sf_X8_readStatement (nn : Nat) {a1 : Int32} {y_a1 : Int} (e_a1 : a1.toInt = y_a1) {h : ms_M} (hM_h : Rg_M h) : Sm_ RV_ (f_X8_readStatement nn 32 a1 (H_M h)) (qf_X8_readStatement nn y_a1 h) := (sg_X8_readBlock nn 150).2.1 e_a1 hM_h
set_option maxRecDepth 4000 in
theorem sf_X8_readTry (nn : Nat) {a1 : Int32} {y_a1 : Int} (e_a1 : a1.toInt = y_a1) {h : ms_M} (hM_h : Rg_M h) : Sm_ RV_ (f_X8_readTry nn 32 a1 (H_M h)) (qf_X8_readTry nn y_a1 h) := (sg_X8_readBlock nn 150).2.2 e_a1 hM_h
set_option maxRecDepth 4000 in
theorem sw_X8_readParameters_4 (nn : Nat) : ∀ (k : Nat) {l1 : Int32} {y_l1 : Int} (e_l1 : l1.toInt = y_l1) {l2 : Int32} {y_l2 : Int} (e_l2 : l2.toInt = y_l2) {h : ms_M} (hM_h : Rg_M h), Sm_ RV_ (w_X8_readParameters_4 nn k 32 l1 l2 (H_M h)) (qw_X8_readParameters_4 nn k y_l1 y_l2 h) := by
  intro k
  induction k with
  | zero => intros; exact sm_no
  | succ k ih =>
    intro l1 y_l1 e_l1 l2 y_l2 e_l2 h hM_h
    unfold w_X8_readParameters_4 qw_X8_readParameters_4
    refine sm_le rfl e_l2 ?_ ?_
    · exact sm_rV hM_h
    · refine sm_eq e_l1 rfl ?_ ?_
      · exact sm_rV hM_h
      · refine sm_is hM_h rfl ?_
        refine sm_cV (sf_X8_readType nn hM_h) ?_; intro u2 hM_u2
        refine sm_is hM_u2 rfl ?_
        refine sm_cV (sf_X8_need nn rfl hM_u2) ?_; intro u4 hM_u4
        refine sm_is hM_u4 rfl ?_
        refine sm_cI (sf_X8_accept nn rfl hM_u4) ?_; intro u6 y_u6 M_u6 e_u6 hM_u6
        refine sm_oq_add e_l2 rfl ?_; intro v7 y_v7 e_v7
        exact ih e_u6 e_v7 hM_u6
