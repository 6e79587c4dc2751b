set_option maxRecDepth 4000 in
theorem sw_X3_readConstants_28 (nn : Nat) : ∀ (k : Nat) (l0 : Nat) (hb_l0 : kc_O l0 = 3) {l1 : Int32} {y_l1 : Int} (e_l1 : l1.toInt = y_l1) {h : ms_M} (hM_h : Rg_M h), Sm_ RV_ (w_X3_readConstants_28 nn k l0 l1 (H_M h)) (qw_X3_readConstants_28 nn k l0 y_l1 h) := by
  intro k
  induction k with
  | zero => intros; exact sm_no
  | succ k ih =>
    intro l0 hb_l0 l1 y_l1 e_l1 h hM_h
    unfold w_X3_readConstants_28 qw_X3_readConstants_28
    refine sm_giI hM_h hb_l0 rfl ?_; intro v8 e_v8
    refine sm_lt e_v8 e_l1 ?_ ?_
    · exact sw_X3_readConstants_57 nn nn _ hb_l0 rfl hM_h
    · refine sm_giI hM_h hb_l0 rfl ?_; intro v9 e_v9
      refine sm_ne e_v9 rfl ?_ ?_
      · exact sw_X3_readConstants_57 nn nn _ hb_l0 rfl hM_h
      · refine sm_isK hM_h hb_l0 ?_
        refine sm_cV (sf_X3_readConstant nn _ hb_l0 e_l1 hM_h) ?_; intro u11 hM_u11
        refine sm_oq_add e_l1 rfl ?_; intro v12 y_v12 e_v12
        exact ih _ hb_l0 e_v12 hM_u11
set_option maxRecDepth 4000 in
theorem sf_X3_readConstants (nn : Nat) (a0 : Nat) (hb_a0 : kc_O a0 = 3) {h : ms_M} (hM_h : Rg_M h) : Sm_ RV_ (f_X3_readConstants nn a0 (H_M h)) (qf_X3_readConstants nn a0 h) := by
  unfold f_X3_readConstants qf_X3_readConstants
  refine sm_isK hM_h hb_a0 ?_
  refine sm_cI (sf_X3_nextUpTo nn _ hb_a0 rfl rfl hM_h) ?_; intro u16 y_u16 M_u16 e_u16 hM_u16
  refine sm_isK hM_u16 hb_a0 ?_
  refine sm_cI (sf_X3_nextUpTo nn _ hb_a0 rfl rfl hM_u16) ?_; intro u18 y_u18 M_u18 e_u18 hM_u18
  refine sm_isK hM_u18 hb_a0 ?_
  refine sm_cI (sf_X3_next nn _ hb_a0 hM_u18) ?_; intro u20 y_u20 M_u20 e_u20 hM_u20
  refine sm_pvI hM_u20 hb_a0 rfl e_u20 ?_; intro h21 hM_h21
  exact sw_X3_readConstants_28 nn nn _ hb_a0 rfl hM_h21
set_option maxRecDepth 4000 in
theorem sf_X3_nextName (nn : Nat) (a0 : Nat) (hb_a0 : kc_O a0 = 3) {h : ms_M} (hM_h : Rg_M h) : Sm_ RI_ (f_X3_nextName nn a0 (H_M h)) (qf_X3_nextName nn a0 h) := by
  unfold f_X3_nextName qf_X3_nextName
  refine sm_isK hM_h hb_a0 ?_
  refine sm_cI (sf_X3_next nn _ hb_a0 hM_h) ?_; intro u2 y_u2 M_u2 e_u2 hM_u2
  refine sm_isK hM_u2 hb_a0 ?_
  refine sm_cP (sf_X3_isNameText nn _ hb_a0 e_u2 hM_u2) ?_; intro u4 y_u4 e_u4
  refine sm_ne e_u4 rfl ?_ ?_
  · exact sm_rI e_u2 hM_u2
  · refine sm_giI hM_u2 hb_a0 rfl ?_; intro v5 e_v5
    refine sm_oq_sub e_v5 rfl ?_; intro v6 y_v6 e_v6
    refine sm_isK hM_u2 hb_a0 ?_
    refine sm_cV (sf_X3_bad nn _ hb_a0 e_v6 hM_u2) ?_; intro u8 hM_u8
    exact sm_rI e_u2 hM_u8
set_option maxRecDepth 4000 in
theorem sj_X3_readFields_58 (nn : Nat) {kk_10 : Nat → Int32 → Int32 → mx_H → Option mx_H} {qkk_10 : Nat → Int → Int → ms_M → Option ms_M} (hk_kk_10 : ∀ (l0 : Nat) (hb_l0 : kc_O l0 = 3) {l1 : Int32} {y_l1 : Int} (e_l1 : l1.toInt = y_l1) {l2 : Int32} {y_l2 : Int} (e_l2 : l2.toInt = y_l2) {h : ms_M} (hM_h : Rg_M h), Sm_ RV_ (kk_10 l0 l1 l2 (H_M h)) (qkk_10 l0 y_l1 y_l2 h)) (l0 : Nat) (hb_l0 : kc_O l0 = 3) {l1 : Int32} {y_l1 : Int} (e_l1 : l1.toInt = y_l1) {l2 : Int32} {y_l2 : Int} (e_l2 : l2.toInt = y_l2) {l3 : Int32} {y_l3 : Int} (e_l3 : l3.toInt = y_l3) {h : ms_M} (hM_h : Rg_M h) : Sm_ RV_ (j_X3_readFields_58 nn kk_10 l0 l1 l2 l3 (H_M h)) (qj_X3_readFields_58 nn qkk_10 l0 y_l1 y_l2 y_l3 h) := by
  unfold j_X3_readFields_58 qj_X3_readFields_58
  refine sm_grI hM_h hb_l0 (off := 5) rfl ?_
  refine sm_oq_mul e_l2 rfl ?_; intro v2 y_v2 e_v2
  refine sm_oq_add e_v2 rfl ?_; intro v3 y_v3 e_v3
  refine sm_siI hM_h hb_l0 rfl e_v3 e_l3 ?_; intro h4 hM_h4
  refine sm_giI hM_h4 hb_l0 rfl ?_; intro v5 e_v5
  refine sm_oq_add e_v5 rfl ?_; intro v6 y_v6 e_v6
  refine sm_pvI hM_h4 hb_l0 rfl e_v6 ?_; intro h7 hM_h7
  refine sm_oq_add e_l2 rfl ?_; intro v8 y_v8 e_v8
  exact hk_kk_10 _ hb_l0 e_l1 e_v8 hM_h7
set_option maxRecDepth 4000 in
theorem sw_X3_readFields_10 (nn : Nat) : ∀ (k : Nat) (l0 : Nat) (hb_l0 : kc_O l0 = 3) {l1 : Int32} {y_l1 : Int} (e_l1 : l1.toInt = y_l1) {l2 : Int32} {y_l2 : Int} (e_l2 : l2.toInt = y_l2) {h : ms_M} (hM_h : Rg_M h), Sm_ RV_ (w_X3_readFields_10 nn k l0 l1 l2 (H_M h)) (qw_X3_readFields_10 nn k l0 y_l1 y_l2 h) := by
  intro k
  induction k with
  | zero => intros; exact sm_no
  | succ k ih =>
    intro l0 hb_l0 l1 y_l1 e_l1 l2 y_l2 e_l2 h hM_h
    unfold w_X3_readFields_10 qw_X3_readFields_10
    refine sm_le e_l1 e_l2 ?_ ?_
    · exact sm_rV hM_h
    · refine sm_giI hM_h hb_l0 rfl ?_; intro v9 e_v9
      refine sm_ne e_v9 rfl ?_ ?_
      · exact sm_rV hM_h
      · refine sm_grI hM_h hb_l0 (off := 5) rfl ?_
        refine sm_oq_mul e_l2 rfl ?_; intro v11 y_v11 e_v11
        refine sm_isK hM_h hb_l0 ?_
        refine sm_cI (sf_X3_nextName nn _ hb_l0 hM_h) ?_; intro u13 y_u13 M_u13 e_u13 hM_u13
        refine sm_siI hM_u13 hb_l0 rfl e_v11 e_u13 ?_; intro h14 hM_h14
        refine sm_isK hM_h14 hb_l0 ?_
        refine sm_cI (sf_X3_next nn _ hb_l0 hM_h14) ?_; intro u16 y_u16 M_u16 e_u16 hM_u16
        refine sm_isK hM_u16 hb_l0 ?_
        refine sm_cP (sf_X3_isFieldKind nn _ hb_l0 e_u16 hM_u16) ?_; intro u18 y_u18 e_u18
        refine sm_ne e_u18 rfl ?_ ?_
        · exact sj_X3_readFields_58 nn ih _ hb_l0 e_l1 e_l2 e_u16 hM_u16
        · refine sm_giI hM_u16 hb_l0 rfl ?_; intro v19 e_v19
          refine sm_oq_sub e_v19 rfl ?_; intro v20 y_v20 e_v20
          refine sm_isK hM_u16 hb_l0 ?_
          refine sm_cV (sf_X3_bad nn _ hb_l0 e_v20 hM_u16) ?_; intro u22 hM_u22
          exact sj_X3_readFields_58 nn ih _ hb_l0 e_l1 e_l2 e_u16 hM_u22
set_option maxRecDepth 4000 in
theorem sf_X3_readFields (nn : Nat) (a0 : Nat) (hb_a0 : kc_O a0 = 3) {h : ms_M} (hM_h : Rg_M h) : Sm_ RV_ (f_X3_readFields nn a0 (H_M h)) (qf_X3_readFields nn a0 h) := by
  unfold f_X3_readFields qf_X3_readFields
  refine sm_isK hM_h hb_a0 ?_
  refine sm_cI (sf_X3_nextUpTo nn _ hb_a0 rfl rfl hM_h) ?_; intro u27 y_u27 M_u27 e_u27 hM_u27
  exact sw_X3_readFields_10 nn nn _ hb_a0 e_u27 rfl hM_u27
set_option maxRecDepth 4000 in
theorem sj_X3_readCode_85 (nn : Nat) (l0 : Nat) (hb_l0 : kc_O l0 = 3) {l4 : Int32} {y_l4 : Int} (e_l4 : l4.toInt = y_l4) {h : ms_M} (hM_h : Rg_M h) : Sm_ RV_ (j_X3_readCode_85 nn l0 l4 (H_M h)) (qj_X3_readCode_85 nn l0 y_l4 h) := by
  unfold j_X3_readCode_85 qj_X3_readCode_85
  refine sm_giI hM_h hb_l0 rfl ?_; intro v1 e_v1
  refine sm_oq_add e_v1 e_l4 ?_; intro v2 y_v2 e_v2
  refine sm_giI hM_h hb_l0 rfl ?_; intro v3 e_v3
  refine sm_ite e_v3 e_v2 e_v3 e_v2 ?_; intro v4 y_v4 e_v4
  refine sm_pvI hM_h hb_l0 rfl e_v4 ?_; intro h5 hM_h5
  exact sm_rV hM_h5
set_option maxRecDepth 4000 in
theorem sj_X3_readCode_40 (nn : Nat) (l0 : Nat) (hb_l0 : kc_O l0 = 3) {l1 : Int32} {y_l1 : Int} (e_l1 : l1.toInt = y_l1) {l4 : Int32} {y_l4 : Int} (e_l4 : l4.toInt = y_l4) {h : ms_M} (hM_h : Rg_M h) : Sm_ RV_ (j_X3_readCode_40 nn l0 l1 l4 (H_M h)) (qj_X3_readCode_40 nn l0 y_l1 y_l4 h) := by
  unfold j_X3_readCode_40 qj_X3_readCode_40
  refine sm_grI hM_h hb_l0 (off := 6) rfl ?_
  refine sm_oq_add e_l1 rfl ?_; intro v7 y_v7 e_v7
  refine sm_siI hM_h hb_l0 rfl e_v7 e_l4 ?_; intro h8 hM_h8
  refine sm_grI hM_h8 hb_l0 (off := 6) rfl ?_
  refine sm_oq_add e_l1 rfl ?_; intro v10 y_v10 e_v10
  refine sm_giI hM_h8 hb_l0 rfl ?_; intro v11 e_v11
  refine sm_siI hM_h8 hb_l0 rfl e_v10 e_v11 ?_; intro h12 hM_h12
  refine sm_giI hM_h12 hb_l0 rfl ?_; intro v13 e_v13
  refine sm_oq_add e_v13 e_l4 ?_; intro v14 y_v14 e_v14
  refine sm_giI hM_h12 hb_l0 rfl ?_; intro v15 e_v15
  refine sm_le e_v14 e_v15 ?_ ?_
  · exact sj_X3_readCode_85 nn _ hb_l0 e_l4 hM_h12
  · refine sm_giI hM_h12 hb_l0 rfl ?_; intro v16 e_v16
    refine sm_isK hM_h12 hb_l0 ?_
    refine sm_cV (sf_X3_bad nn _ hb_l0 e_v16 hM_h12) ?_; intro u18 hM_u18
    exact sj_X3_readCode_85 nn _ hb_l0 e_l4 hM_u18
set_option maxRecDepth 4000 in
theorem sj_X3_readCode_35 (nn : Nat) (l0 : Nat) (hb_l0 : kc_O l0 = 3) {l1 : Int32} {y_l1 : Int} (e_l1 : l1.toInt = y_l1) {l2 : Int32} {y_l2 : Int} (e_l2 : l2.toInt = y_l2) {l4 : Int32} {y_l4 : Int} (e_l4 : l4.toInt = y_l4) {h : ms_M} (hM_h : Rg_M h) : Sm_ RV_ (j_X3_readCode_35 nn l0 l1 l2 l4 (H_M h)) (qj_X3_readCode_35 nn l0 y_l1 y_l2 y_l4 h) := by
  unfold j_X3_readCode_35 qj_X3_readCode_35
  refine sm_isK hM_h hb_l0 ?_
  refine sm_cV (sf_X3_bad nn _ hb_l0 e_l2 hM_h) ?_; intro u21 hM_u21
  exact sj_X3_readCode_40 nn _ hb_l0 e_l1 e_l4 hM_u21
set_option maxRecDepth 4000 in
theorem sf_X3_readCode (nn : Nat) (a0 : Nat) (hb_a0 : kc_O a0 = 3) {a1 : Int32} {y_a1 : Int} (e_a1 : a1.toInt = y_a1) {h : ms_M} (hM_h : Rg_M h) : Sm_ RV_ (f_X3_readCode nn a0 a1 (H_M h)) (qf_X3_readCode nn a0 y_a1 h) := by
  unfold f_X3_readCode qf_X3_readCode
  refine sm_giI hM_h hb_a0 rfl ?_; intro v22 e_v22
  refine sm_isK hM_h hb_a0 ?_
  refine sm_cI (sf_X3_next nn _ hb_a0 hM_h) ?_; intro u24 y_u24 M_u24 e_u24 hM_u24
  refine sm_oq_shl e_u24 rfl ?_; intro v25 y_v25 e_v25
  refine sm_isK hM_u24 hb_a0 ?_
  refine sm_cI (sf_X3_next nn _ hb_a0 hM_u24) ?_; intro u27 y_u27 M_u27 e_u27 hM_u27
  refine sm_oq_or e_v25 e_u27 ?_; intro v28 y_v28 e_v28
  refine sm_lt e_v28 rfl ?_ ?_
  · exact sj_X3_readCode_35 nn _ hb_a0 e_a1 e_v22 e_v28 hM_u27
  · refine sm_le e_v28 rfl ?_ ?_
    · exact sj_X3_readCode_40 nn _ hb_a0 e_a1 e_v28 hM_u27
    · exact sj_X3_readCode_35 nn _ hb_a0 e_a1 e_v22 e_v28 hM_u27
set_option maxRecDepth 4000 in
theorem sf_X3_nextClass (nn : Nat) (a0 : Nat) (hb_a0 : kc_O a0 = 3) {h : ms_M} (hM_h : Rg_M h) : Sm_ RV_ (f_X3_nextClass nn a0 (H_M h)) (qf_X3_nextClass nn a0 h) := by
  unfold f_X3_nextClass qf_X3_nextClass
  refine sm_isK hM_h hb_a0 ?_
  refine sm_cI (sf_X3_next nn _ hb_a0 hM_h) ?_; intro u2 y_u2 M_u2 e_u2 hM_u2
  refine sm_isK hM_u2 hb_a0 ?_
  refine sm_cP (sf_X3_tagOf nn _ hb_a0 e_u2 hM_u2) ?_; intro u4 y_u4 e_u4
  refine sm_eq e_u4 rfl ?_ ?_
  · exact sm_rV hM_u2
  · refine sm_giI hM_u2 hb_a0 rfl ?_; intro v5 e_v5
    refine sm_oq_sub e_v5 rfl ?_; intro v6 y_v6 e_v6
    refine sm_isK hM_u2 hb_a0 ?_
    refine sm_cV (sf_X3_bad nn _ hb_a0 e_v6 hM_u2) ?_; intro u8 hM_u8
    exact sm_rV hM_u8
set_option maxRecDepth 4000 in
theorem sw_X3_readFrameTypes_7 (nn : Nat) : ∀ (k : Nat) (l0 : Nat) (hb_l0 : kc_O l0 = 3) {l1 : Int32} {y_l1 : Int} (e_l1 : l1.toInt = y_l1) {l2 : Int32} {y_l2 : Int} (e_l2 : l2.toInt = y_l2) {h : ms_M} (hM_h : Rg_M h), Sm_ RV_ (w_X3_readFrameTypes_7 nn k l0 l1 l2 (H_M h)) (qw_X3_readFrameTypes_7 nn k l0 y_l1 y_l2 h) := by
  intro k
  induction k with
  | zero => intros; exact sm_no
  | succ k ih =>
    intro l0 hb_l0 l1 y_l1 e_l1 l2 y_l2 e_l2 h hM_h
    unfold w_X3_readFrameTypes_7 qw_X3_readFrameTypes_7
    refine sm_le e_l1 e_l2 ?_ ?_
    · exact sm_rV hM_h
    · refine sm_giI hM_h hb_l0 rfl ?_; intro v1 e_v1
      refine sm_ne e_v1 rfl ?_ ?_
      · exact sm_rV hM_h
      · refine sm_isK hM_h hb_l0 ?_
        refine sm_cI (sf_X3_nextUpTo nn _ hb_l0 rfl rfl hM_h) ?_; intro u3 y_u3 M_u3 e_u3 hM_u3
        refine sm_ne e_u3 rfl ?_ ?_
        · refine sm_oq_add e_l2 rfl ?_; intro v4 y_v4 e_v4
          exact ih _ hb_l0 e_l1 e_v4 hM_u3
        · refine sm_isK hM_u3 hb_l0 ?_
          refine sm_cV (sf_X3_nextClass nn _ hb_l0 hM_u3) ?_; intro u6 hM_u6
          refine sm_oq_add e_l2 rfl ?_; intro v7 y_v7 e_v7
          exact ih _ hb_l0 e_l1 e_v7 hM_u6
set_option maxRecDepth 4000 in
theorem sf_X3_readFrameTypes (nn : Nat) (a0 : Nat) (hb_a0 : kc_O a0 = 3) {h : ms_M} (hM_h : Rg_M h) : Sm_ RV_ (f_X3_readFrameTypes nn a0 (H_M h)) (qf_X3_readFrameTypes nn a0 h) := by
  unfold f_X3_readFrameTypes qf_X3_readFrameTypes
  refine sm_isK hM_h hb_a0 ?_
  refine sm_cI (sf_X3_next nn _ hb_a0 hM_h) ?_; intro u12 y_u12 M_u12 e_u12 hM_u12
  exact sw_X3_readFrameTypes_7 nn nn _ hb_a0 e_u12 rfl hM_u12
set_option maxRecDepth 4000 in
theorem sw_X3_skipPairs_2 (nn : Nat) : ∀ (k : Nat) (l0 : Nat) (hb_l0 : kc_O l0 = 3) {l1 : Int32} {y_l1 : Int} (e_l1 : l1.toInt = y_l1) {l2 : Int32} {y_l2 : Int} (e_l2 : l2.toInt = y_l2) {h : ms_M} (hM_h : Rg_M h), Sm_ RV_ (w_X3_skipPairs_2 nn k l0 l1 l2 (H_M h)) (qw_X3_skipPairs_2 nn k l0 y_l1 y_l2 h) := by
  intro k
  induction k with
  | zero => intros; exact sm_no
  | succ k ih =>
    intro l0 hb_l0 l1 y_l1 e_l1 l2 y_l2 e_l2 h hM_h
    unfold w_X3_skipPairs_2 qw_X3_skipPairs_2
    refine sm_oq_mul e_l1 rfl ?_; intro v1 y_v1 e_v1
    refine sm_le e_v1 e_l2 ?_ ?_
    · exact sm_rV hM_h
    · refine sm_isK hM_h hb_l0 ?_
      refine sm_cI (sf_X3_next nn _ hb_l0 hM_h) ?_; intro u3 y_u3 M_u3 e_u3 hM_u3
      refine sm_oq_add e_l2 rfl ?_; intro v4 y_v4 e_v4
      exact ih _ hb_l0 e_l1 e_v4 hM_u3
set_option maxRecDepth 4000 in
theorem sf_X3_skipPairs (nn : Nat) (a0 : Nat) (hb_a0 : kc_O a0 = 3) {a1 : Int32} {y_a1 : Int} (e_a1 : a1.toInt = y_a1) {h : ms_M} (hM_h : Rg_M h) : Sm_ RV_ (f_X3_skipPairs nn a0 a1 (H_M h)) (qf_X3_skipPairs nn a0 y_a1 h) := by
  unfold f_X3_skipPairs qf_X3_skipPairs
  exact sw_X3_skipPairs_2 nn nn _ hb_a0 e_a1 rfl hM_h
set_option maxRecDepth 4000 in
theorem sw_X3_readFrames_33 (nn : Nat) : ∀ (k : Nat) (l0 : Nat) (hb_l0 : kc_O l0 = 3) {l2 : Int32} {y_l2 : Int} (e_l2 : l2.toInt = y_l2) {l3 : Int32} {y_l3 : Int} (e_l3 : l3.toInt = y_l3) {h : ms_M} (hM_h : Rg_M h), Sm_ RV_ (w_X3_readFrames_33 nn k l0 l2 l3 (H_M h)) (qw_X3_readFrames_33 nn k l0 y_l2 y_l3 h) := by
  intro k
  induction k with
  | zero => intros; exact sm_no
  | succ k ih =>
    intro l0 hb_l0 l2 y_l2 e_l2 l3 y_l3 e_l3 h hM_h
    unfold w_X3_readFrames_33 qw_X3_readFrames_33
    refine sm_le e_l2 e_l3 ?_ ?_
    · exact sm_rV hM_h
    · refine sm_giI hM_h hb_l0 rfl ?_; intro v1 e_v1
      refine sm_ne e_v1 rfl ?_ ?_
      · exact sm_rV hM_h
      · refine sm_isK hM_h hb_l0 ?_
        refine sm_cV (sf_X3_skipPairs nn _ hb_l0 rfl hM_h) ?_; intro u3 hM_u3
        refine sm_isK hM_u3 hb_l0 ?_
        refine sm_cV (sf_X3_readFrameTypes nn _ hb_l0 hM_u3) ?_; intro u5 hM_u5
        refine sm_isK hM_u5 hb_l0 ?_
        refine sm_cV (sf_X3_readFrameTypes nn _ hb_l0 hM_u5) ?_; intro u7 hM_u7
        refine sm_oq_add e_l3 rfl ?_; intro v8 y_v8 e_v8
        exact ih _ hb_l0 e_l2 e_v8 hM_u7
set_option maxRecDepth 4000 in
theorem sf_X3_readFrames (nn : Nat) (a0 : Nat) (hb_a0 : kc_O a0 = 3) {a1 : Int32} {y_a1 : Int} (e_a1 : a1.toInt = y_a1) {h : ms_M} (hM_h : Rg_M h) : Sm_ RV_ (f_X3_readFrames nn a0 a1 (H_M h)) (qf_X3_readFrames nn a0 y_a1 h) := by
  unfold f_X3_readFrames qf_X3_readFrames
  refine sm_isK hM_h hb_a0 ?_
  refine sm_cI (sf_X3_nextUpTo nn _ hb_a0 rfl rfl hM_h) ?_; intro u12 y_u12 M_u12 e_u12 hM_u12
  refine sm_grI hM_u12 hb_a0 (off := 6) rfl ?_
  refine sm_oq_add e_a1 rfl ?_; intro v14 y_v14 e_v14
  refine sm_siI hM_u12 hb_a0 rfl e_v14 e_u12 ?_; intro h15 hM_h15
  refine sm_grI hM_h15 hb_a0 (off := 6) rfl ?_
  refine sm_oq_add e_a1 rfl ?_; intro v17 y_v17 e_v17
  refine sm_giI hM_h15 hb_a0 rfl ?_; intro v18 e_v18
  refine sm_siI hM_h15 hb_a0 rfl e_v17 e_v18 ?_; intro h19 hM_h19
  exact sw_X3_readFrames_33 nn nn _ hb_a0 e_u12 rfl hM_h19
set_option maxRecDepth 4000 in
theorem sw_X3_readHandlers_33 (nn : Nat) : ∀ (k : Nat) (l0 : Nat) (hb_l0 : kc_O l0 = 3) {l2 : Int32} {y_l2 : Int} (e_l2 : l2.toInt = y_l2) {l3 : Int32} {y_l3 : Int} (e_l3 : l3.toInt = y_l3) {h : ms_M} (hM_h : Rg_M h), Sm_ RV_ (w_X3_readHandlers_33 nn k l0 l2 l3 (H_M h)) (qw_X3_readHandlers_33 nn k l0 y_l2 y_l3 h) := by
  intro k
  induction k with
  | zero => intros; exact sm_no
  | succ k ih =>
    intro l0 hb_l0 l2 y_l2 e_l2 l3 y_l3 e_l3 h hM_h
    unfold w_X3_readHandlers_33 qw_X3_readHandlers_33
    refine sm_le e_l2 e_l3 ?_ ?_
    · exact sm_rV hM_h
    · refine sm_giI hM_h hb_l0 rfl ?_; intro v1 e_v1
      refine sm_ne e_v1 rfl ?_ ?_
      · exact sm_rV hM_h
      · refine sm_isK hM_h hb_l0 ?_
        refine sm_cV (sf_X3_skipPairs nn _ hb_l0 rfl hM_h) ?_; intro u3 hM_u3
        refine sm_isK hM_u3 hb_l0 ?_
        refine sm_cV (sf_X3_nextClass nn _ hb_l0 hM_u3) ?_; intro u5 hM_u5
        refine sm_oq_add e_l3 rfl ?_; intro v6 y_v6 e_v6
        exact ih _ hb_l0 e_l2 e_v6 hM_u5
set_option maxRecDepth 4000 in
theorem sf_X3_readHandlers (nn : Nat) (a0 : Nat) (hb_a0 : kc_O a0 = 3) {a1 : Int32} {y_a1 : Int} (e_a1 : a1.toInt = y_a1) {h : ms_M} (hM_h : Rg_M h) : Sm_ RV_ (f_X3_readHandlers nn a0 a1 (H_M h)) (qf_X3_readHandlers nn a0 y_a1 h) := by
  unfold f_X3_readHandlers qf_X3_readHandlers
  refine sm_isK hM_h hb_a0 ?_
  refine sm_cI (sf_X3_nextUpTo nn _ hb_a0 rfl rfl hM_h) ?_; intro u10 y_u10 M_u10 e_u10 hM_u10
  refine sm_grI hM_u10 hb_a0 (off := 6) rfl ?_
  refine sm_oq_add e_a1 rfl ?_; intro v12 y_v12 e_v12
  refine sm_siI hM_u10 hb_a0 rfl e_v12 e_u10 ?_; intro h13 hM_h13
  refine sm_grI hM_h13 hb_a0 (off := 6) rfl ?_
  refine sm_oq_add e_a1 rfl ?_; intro v15 y_v15 e_v15
  refine sm_giI hM_h13 hb_a0 rfl ?_; intro v16 e_v16
  refine sm_siI hM_h13 hb_a0 rfl e_v15 e_v16 ?_; intro h17 hM_h17
  exact sw_X3_readHandlers_33 nn nn _ hb_a0 e_u10 rfl hM_h17
set_option maxRecDepth 4000 in
theorem sj_X3_readMethod_52 (nn : Nat) (l0 : Nat) (hb_l0 : kc_O l0 = 3) {l1 : Int32} {y_l1 : Int} (e_l1 : l1.toInt = y_l1) {l2 : Int32} {y_l2 : Int} (e_l2 : l2.toInt = y_l2) {l3 : Int32} {y_l3 : Int} (e_l3 : l3.toInt = y_l3) {h : ms_M} (hM_h : Rg_M h) : Sm_ RV_ (j_X3_readMethod_52 nn l0 l1 l2 l3 (H_M h)) (qj_X3_readMethod_52 nn l0 y_l1 y_l2 y_l3 h) := by
  unfold j_X3_readMethod_52 qj_X3_readMethod_52
  refine sm_grI hM_h hb_l0 (off := 6) rfl ?_
  refine sm_oq_add e_l1 rfl ?_; intro v2 y_v2 e_v2
  refine sm_siI hM_h hb_l0 rfl e_v2 e_l2 ?_; intro h3 hM_h3
  refine sm_grI hM_h3 hb_l0 (off := 6) rfl ?_
  refine sm_oq_add e_l1 rfl ?_; intro v5 y_v5 e_v5
  refine sm_siI hM_h3 hb_l0 rfl e_v5 e_l3 ?_; intro h6 hM_h6
  refine sm_grI hM_h6 hb_l0 (off := 6) rfl ?_
  refine sm_oq_add e_l1 rfl ?_; intro v8 y_v8 e_v8
  refine sm_isK hM_h6 hb_l0 ?_
  refine sm_cI (sf_X3_nextUpTo nn _ hb_l0 rfl rfl hM_h6) ?_; intro u10 y_u10 M_u10 e_u10 hM_u10
  refine sm_siI hM_u10 hb_l0 rfl e_v8 e_u10 ?_; intro h11 hM_h11
  refine sm_grI hM_h11 hb_l0 (off := 6) rfl ?_
  refine sm_oq_add e_l1 rfl ?_; intro v13 y_v13 e_v13
  refine sm_oq_add e_l3 rfl ?_; intro v14 y_v14 e_v14
  refine sm_grI hM_h11 hb_l0 (off := 6) rfl ?_
  refine sm_oq_add e_l1 rfl ?_; intro v16 y_v16 e_v16
  refine sm_aiI hM_h11 hb_l0 rfl e_v16 ?_; intro v17 y_v17 e_v17
  refine sm_oq_sub e_v14 e_v17 ?_; intro v18 y_v18 e_v18
  refine sm_isK hM_h11 hb_l0 ?_
  refine sm_cI (sf_X3_nextUpTo nn _ hb_l0 e_v18 rfl hM_h11) ?_; intro u20 y_u20 M_u20 e_u20 hM_u20
  refine sm_siI hM_u20 hb_l0 rfl e_v13 e_u20 ?_; intro h21 hM_h21
  refine sm_isK hM_h21 hb_l0 ?_
  refine sm_cV (sf_X3_readCode nn _ hb_l0 e_l1 hM_h21) ?_; intro u23 hM_u23
  refine sm_isK hM_u23 hb_l0 ?_
  refine sm_cV (sf_X3_readHandlers nn _ hb_l0 e_l1 hM_u23) ?_; intro u25 hM_u25
  refine sm_isK hM_u25 hb_l0 ?_
  refine sm_cV (sf_X3_readFrames nn _ hb_l0 e_l1 hM_u25) ?_; intro u27 hM_u27
  exact sm_rV hM_u27
set_option maxRecDepth 4000 in
theorem sf_X3_readMethod (nn : Nat) (a0 : Nat) (hb_a0 : kc_O a0 = 3) {a1 : Int32} {y_a1 : Int} (e_a1 : a1.toInt = y_a1) {h : ms_M} (hM_h : Rg_M h) : Sm_ RV_ (f_X3_readMethod nn a0 a1 (H_M h)) (qf_X3_readMethod nn a0 y_a1 h) := by
  unfold f_X3_readMethod qf_X3_readMethod
  refine sm_grI hM_h hb_a0 (off := 6) rfl ?_
  refine sm_oq_add e_a1 rfl ?_; intro v29 y_v29 e_v29
  refine sm_isK hM_h hb_a0 ?_
  refine sm_cI (sf_X3_nextUpTo nn _ hb_a0 rfl rfl hM_h) ?_; intro u31 y_u31 M_u31 e_u31 hM_u31
  refine sm_siI hM_u31 hb_a0 rfl e_v29 e_u31 ?_; intro h32 hM_h32
  refine sm_grI hM_h32 hb_a0 (off := 6) rfl ?_
  refine sm_oq_add e_a1 rfl ?_; intro v34 y_v34 e_v34
  refine sm_isK hM_h32 hb_a0 ?_
  refine sm_cI (sf_X3_nextName nn _ hb_a0 hM_h32) ?_; intro u36 y_u36 M_u36 e_u36 hM_u36
  refine sm_siI hM_u36 hb_a0 rfl e_v34 e_u36 ?_; intro h37 hM_h37
  refine sm_isK hM_h37 hb_a0 ?_
  refine sm_cI (sf_X3_next nn _ hb_a0 hM_h37) ?_; intro u39 y_u39 M_u39 e_u39 hM_u39
  refine sm_isK hM_u39 hb_a0 ?_
  refine sm_cP (sf_X3_parametersIn nn _ hb_a0 e_u39 hM_u39) ?_; intro u41 y_u41 e_u41
  refine sm_ne e_u41 rfl ?_ ?_
  · exact sj_X3_readMethod_52 nn _ hb_a0 e_a1 e_u39 e_u41 hM_u39
  · refine sm_giI hM_u39 hb_a0 rfl ?_; intro v42 e_v42
    refine sm_oq_sub e_v42 rfl ?_; intro v43 y_v43 e_v43
    refine sm_isK hM_u39 hb_a0 ?_
    refine sm_cV (sf_X3_bad nn _ hb_a0 e_v43 hM_u39) ?_; intro u45 hM_u45
    exact sj_X3_readMethod_52 nn _ hb_a0 e_a1 e_u39 e_u41 hM_u45
set_option maxRecDepth 4000 in
theorem sj_X3_read_109 (nn : Nat) (l0 : Nat) (hb_l0 : kc_O l0 = 3) {h : ms_M} (hM_h : Rg_M h) : Sm_ RI_ (j_X3_read_109 nn l0 (H_M h)) (qj_X3_read_109 nn l0 h) := by
  unfold j_X3_read_109 qj_X3_read_109
  refine sm_giI hM_h hb_l0 rfl ?_; intro v1 e_v1
  refine sm_giI hM_h hb_l0 rfl ?_; intro v2 e_v2
  refine sm_le e_v2 e_v1 ?_ ?_
  · refine sm_giI hM_h hb_l0 rfl ?_; intro v3 e_v3
    exact sm_rI e_v3 hM_h
  · refine sm_giI hM_h hb_l0 rfl ?_; intro v4 e_v4
    refine sm_isK hM_h hb_l0 ?_
    refine sm_cV (sf_X3_bad nn _ hb_l0 e_v4 hM_h) ?_; intro u6 hM_u6
    refine sm_giI hM_u6 hb_l0 rfl ?_; intro v7 e_v7
    exact sm_rI e_v7 hM_u6
set_option maxRecDepth 4000 in
theorem sw_X3_read_70 (nn : Nat) : ∀ (k : Nat) (l0 : Nat) (hb_l0 : kc_O l0 = 3) {l3 : Int32} {y_l3 : Int} (e_l3 : l3.toInt = y_l3) {l4 : Int32} {y_l4 : Int} (e_l4 : l4.toInt = y_l4) {h : ms_M} (hM_h : Rg_M h), Sm_ RI_ (w_X3_read_70 nn k l0 l3 l4 (H_M h)) (qw_X3_read_70 nn k l0 y_l3 y_l4 h) := by
  intro k
  induction k with
  | zero => intros; exact sm_no
  | succ k ih =>
    intro l0 hb_l0 l3 y_l3 e_l3 l4 y_l4 e_l4 h hM_h
    unfold w_X3_read_70 qw_X3_read_70
    refine sm_le e_l3 e_l4 ?_ ?_
    · exact sj_X3_read_109 nn _ hb_l0 hM_h
    · refine sm_giI hM_h hb_l0 rfl ?_; intro v9 e_v9
      refine sm_ne e_v9 rfl ?_ ?_
      · exact sj_X3_read_109 nn _ hb_l0 hM_h
      · refine sm_oq_mul e_l4 rfl ?_; intro v10 y_v10 e_v10
        refine sm_isK hM_h hb_l0 ?_
        refine sm_cV (sf_X3_readMethod nn _ hb_l0 e_v10 hM_h) ?_; intro u12 hM_u12
        refine sm_giI hM_u12 hb_l0 rfl ?_; intro v13 e_v13
        refine sm_oq_add e_v13 rfl ?_; intro v14 y_v14 e_v14
        refine sm_pvI hM_u12 hb_l0 rfl e_v14 ?_; intro h15 hM_h15
        refine sm_oq_add e_l4 rfl ?_; intro v16 y_v16 e_v16
        exact ih _ hb_l0 e_l3 e_v16 hM_h15
set_option maxRecDepth 4000 in
theorem sf_X3_read (nn : Nat) (a0 : Nat) (hb_a0 : kc_O a0 = 3) (a1 : Nat) {a2 : Int32} {y_a2 : Int} (e_a2 : a2.toInt = y_a2) {h : ms_M} (hM_h : Rg_M h) : Sm_ RI_ (f_X3_read nn a0 a1 a2 (H_M h)) (qf_X3_read nn a0 a1 y_a2 h) := by
  unfold f_X3_read qf_X3_read
  refine sm_prI hM_h hb_a0 rfl ?_; intro h19 hM_h19
  refine sm_lnS hM_h19 ?_; intro v20 y_v20 e_v20
  refine sm_ite e_v20 e_a2 e_v20 e_a2 ?_; intro v21 y_v21 e_v21
  refine sm_pvI hM_h19 hb_a0 rfl e_v21 ?_; intro h22 hM_h22
  refine sm_pvI hM_h22 hb_a0 rfl rfl ?_; intro h23 hM_h23
  refine sm_pvI hM_h23 hb_a0 rfl rfl ?_; intro h24 hM_h24
  refine sm_pvI hM_h24 hb_a0 rfl rfl ?_; intro h25 hM_h25
  refine sm_pvI hM_h25 hb_a0 rfl rfl ?_; intro h26 hM_h26
  refine sm_isK hM_h26 hb_a0 ?_
  refine sm_cV (sf_X3_readConstants nn _ hb_a0 hM_h26) ?_; intro u28 hM_u28
  refine sm_isK hM_u28 hb_a0 ?_
  refine sm_cI (sf_X3_nextPlainClass nn _ hb_a0 hM_u28) ?_; intro u30 y_u30 M_u30 e_u30 hM_u30
  refine sm_pvI hM_u30 hb_a0 rfl e_u30 ?_; intro h31 hM_h31
  refine sm_isK hM_h31 hb_a0 ?_
  refine sm_cI (sf_X3_nextPlainClass nn _ hb_a0 hM_h31) ?_; intro u33 y_u33 M_u33 e_u33 hM_u33
  refine sm_pvI hM_u33 hb_a0 rfl e_u33 ?_; intro h34 hM_h34
  refine sm_isK hM_h34 hb_a0 ?_
  refine sm_cV (sf_X3_readFields nn _ hb_a0 hM_h34) ?_; intro u36 hM_u36
  refine sm_isK hM_u36 hb_a0 ?_
  refine sm_cI (sf_X3_nextUpTo nn _ hb_a0 rfl rfl hM_u36) ?_; intro u38 y_u38 M_u38 e_u38 hM_u38
  exact sw_X3_read_70 nn nn _ hb_a0 e_u38 rfl hM_u38
set_option maxRecDepth 4000 in
theorem sf_X3_textAt (nn : Nat) (a0 : Nat) (hb_a0 : kc_O a0 = 3) {a1 : Int32} {y_a1 : Int} (e_a1 : a1.toInt = y_a1) {h : ms_M} (hM_h : Rg_M h) : Sm_ (RP_ h) (f_X3_textAt nn a0 a1 (H_M h)) (qf_X3_textAt nn a0 y_a1 h) := by
  unfold f_X3_textAt qf_X3_textAt
  refine sm_lt e_a1 rfl ?_ ?_
  · exact sm_rP rfl
  · refine sm_giI hM_h hb_a0 rfl ?_; intro v1 e_v1
    refine sm_lt e_v1 e_a1 ?_ ?_
    · exact sm_rP rfl
    · refine sm_grI hM_h hb_a0 (off := 3) rfl ?_
      refine sm_lnI hM_h hb_a0 (z := 256) rfl ?_; intro v3 e_v3
      refine sm_le e_v3 e_a1 ?_ ?_
      · exact sm_rP rfl
      · refine sm_grI hM_h hb_a0 (off := 3) rfl ?_
        refine sm_aiI hM_h hb_a0 rfl e_a1 ?_; intro v5 y_v5 e_v5
        exact sm_rP e_v5
set_option maxRecDepth 4000 in
theorem sf_X3_textEnd (nn : Nat) (a0 : Nat) (hb_a0 : kc_O a0 = 3) {a1 : Int32} {y_a1 : Int} (e_a1 : a1.toInt = y_a1) {h : ms_M} (hM_h : Rg_M h) : Sm_ (RP_ h) (f_X3_textEnd nn a0 a1 (H_M h)) (qf_X3_textEnd nn a0 y_a1 h) := by
  unfold f_X3_textEnd qf_X3_textEnd
  refine sm_lt e_a1 rfl ?_ ?_
  · exact sm_rP rfl
  · refine sm_giI hM_h hb_a0 rfl ?_; intro v1 e_v1
    refine sm_lt e_v1 e_a1 ?_ ?_
    · exact sm_rP rfl
    · refine sm_grI hM_h hb_a0 (off := 4) rfl ?_
      refine sm_lnI hM_h hb_a0 (z := 256) rfl ?_; intro v3 e_v3
      refine sm_le e_v3 e_a1 ?_ ?_
      · exact sm_rP rfl
      · refine sm_grI hM_h hb_a0 (off := 4) rfl ?_
        refine sm_aiI hM_h hb_a0 rfl e_a1 ?_; intro v5 y_v5 e_v5
        exact sm_rP e_v5
set_option maxRecDepth 4000 in
theorem sj_X3_builtIn_86 (nn : Nat) {kk_8 : Nat → Int32 → Int32 → Int32 → Int32 → Int32 → mx_H → Option (Int32 × mx_H)} {qkk_8 : Nat → Int → Int → Int → Int → Int → ms_M → Option Int} (hk_kk_8 : ∀ (l0 : Nat) (hb_l0 : kc_O l0 = 3) {l1 : Int32} {y_l1 : Int} (e_l1 : l1.toInt = y_l1) {l2 : Int32} {y_l2 : Int} (e_l2 : l2.toInt = y_l2) {l3 : Int32} {y_l3 : Int} (e_l3 : l3.toInt = y_l3) {l4 : Int32} {y_l4 : Int} (e_l4 : l4.toInt = y_l4) {l5 : Int32} {y_l5 : Int} (e_l5 : l5.toInt = y_l5) {h : ms_M} (hM_h : Rg_M h), Sm_ (RP_ h) (kk_8 l0 l1 l2 l3 l4 l5 (H_M h)) (qkk_8 l0 y_l1 y_l2 y_l3 y_l4 y_l5 h)) (l0 : Nat) (hb_l0 : kc_O l0 = 3) {l1 : Int32} {y_l1 : Int} (e_l1 : l1.toInt = y_l1) {l2 : Int32} {y_l2 : Int} (e_l2 : l2.toInt = y_l2) {l3 : Int32} {y_l3 : Int} (e_l3 : l3.toInt = y_l3) {l5 : Int32} {y_l5 : Int} (e_l5 : l5.toInt = y_l5) {s0 : Int32} {y_s0 : Int} (e_s0 : s0.toInt = y_s0) {h : ms_M} (hM_h : Rg_M h) : Sm_ (RP_ h) (j_X3_builtIn_86 nn kk_8 l0 l1 l2 l3 l5 s0 (H_M h)) (qj_X3_builtIn_86 nn qkk_8 l0 y_l1 y_l2 y_l3 y_l5 y_s0 h) := by
  unfold j_X3_builtIn_86 qj_X3_builtIn_86
  refine sm_oq_add e_l5 rfl ?_; intro v1 y_v1 e_v1
  exact hk_kk_8 _ hb_l0 e_l1 e_l2 e_l3 e_s0 e_v1 hM_h
set_option maxRecDepth 4000 in
theorem sj_X3_builtIn_71 (nn : Nat) {kk_8 : Nat → Int32 → Int32 → Int32 → Int32 → Int32 → mx_H → Option (Int32 × mx_H)} {qkk_8 : Nat → Int → Int → Int → Int → Int → ms_M → Option Int} (hk_kk_8 : ∀ (l0 : Nat) (hb_l0 : kc_O l0 = 3) {l1 : Int32} {y_l1 : Int} (e_l1 : l1.toInt = y_l1) {l2 : Int32} {y_l2 : Int} (e_l2 : l2.toInt = y_l2) {l3 : Int32} {y_l3 : Int} (e_l3 : l3.toInt = y_l3) {l4 : Int32} {y_l4 : Int} (e_l4 : l4.toInt = y_l4) {l5 : Int32} {y_l5 : Int} (e_l5 : l5.toInt = y_l5) {h : ms_M} (hM_h : Rg_M h), Sm_ (RP_ h) (kk_8 l0 l1 l2 l3 l4 l5 (H_M h)) (qkk_8 l0 y_l1 y_l2 y_l3 y_l4 y_l5 h)) (l0 : Nat) (hb_l0 : kc_O l0 = 3) {l1 : Int32} {y_l1 : Int} (e_l1 : l1.toInt = y_l1) {l2 : Int32} {y_l2 : Int} (e_l2 : l2.toInt = y_l2) {l3 : Int32} {y_l3 : Int} (e_l3 : l3.toInt = y_l3) {l4 : Int32} {y_l4 : Int} (e_l4 : l4.toInt = y_l4) {l5 : Int32} {y_l5 : Int} (e_l5 : l5.toInt = y_l5) {s0 : Int32} {y_s0 : Int} (e_s0 : s0.toInt = y_s0) {h : ms_M} (hM_h : Rg_M h) : Sm_ (RP_ h) (j_X3_builtIn_71 nn kk_8 l0 l1 l2 l3 l4 l5 s0 (H_M h)) (qj_X3_builtIn_71 nn qkk_8 l0 y_l1 y_l2 y_l3 y_l4 y_l5 y_s0 h) := by
  unfold j_X3_builtIn_71 qj_X3_builtIn_71
  refine sm_eq e_s0 rfl ?_ ?_
  · exact sj_X3_builtIn_86 nn hk_kk_8 _ hb_l0 e_l1 e_l2 e_l3 e_l5 rfl hM_h
  · refine sm_oq_add e_l4 rfl ?_; intro v2 y_v2 e_v2
    exact sj_X3_builtIn_86 nn hk_kk_8 _ hb_l0 e_l1 e_l2 e_l3 e_l5 e_v2 hM_h
set_option maxRecDepth 4000 in
theorem sj_X3_builtIn_70 (nn : Nat) {kk_8 : Nat → Int32 → Int32 → Int32 → Int32 → Int32 → mx_H → Option (Int32 × mx_H)} {qkk_8 : Nat → Int → Int → Int → Int → Int → ms_M → Option Int} (hk_kk_8 : ∀ (l0 : Nat) (hb_l0 : kc_O l0 = 3) {l1 : Int32} {y_l1 : Int} (e_l1 : l1.toInt = y_l1) {l2 : Int32} {y_l2 : Int} (e_l2 : l2.toInt = y_l2) {l3 : Int32} {y_l3 : Int} (e_l3 : l3.toInt = y_l3) {l4 : Int32} {y_l4 : Int} (e_l4 : l4.toInt = y_l4) {l5 : Int32} {y_l5 : Int} (e_l5 : l5.toInt = y_l5) {h : ms_M} (hM_h : Rg_M h), Sm_ (RP_ h) (kk_8 l0 l1 l2 l3 l4 l5 (H_M h)) (qkk_8 l0 y_l1 y_l2 y_l3 y_l4 y_l5 h)) (l0 : Nat) (hb_l0 : kc_O l0 = 3) {l1 : Int32} {y_l1 : Int} (e_l1 : l1.toInt = y_l1) {l2 : Int32} {y_l2 : Int} (e_l2 : l2.toInt = y_l2) {l3 : Int32} {y_l3 : Int} (e_l3 : l3.toInt = y_l3) {l4 : Int32} {y_l4 : Int} (e_l4 : l4.toInt = y_l4) {l5 : Int32} {y_l5 : Int} (e_l5 : l5.toInt = y_l5) {h : ms_M} (hM_h : Rg_M h) : Sm_ (RP_ h) (j_X3_builtIn_70 nn kk_8 l0 l1 l2 l3 l4 l5 (H_M h)) (qj_X3_builtIn_70 nn qkk_8 l0 y_l1 y_l2 y_l3 y_l4 y_l5 h) := by
  unfold j_X3_builtIn_70 qj_X3_builtIn_70
  exact sj_X3_builtIn_71 nn hk_kk_8 _ hb_l0 e_l1 e_l2 e_l3 e_l4 e_l5 rfl hM_h
set_option maxRecDepth 4000 in
theorem sw_X3_builtIn_8 (nn : Nat) : ∀ (k : Nat) (l0 : Nat) (hb_l0 : kc_O l0 = 3) {l1 : Int32} {y_l1 : Int} (e_l1 : l1.toInt = y_l1) {l2 : Int32} {y_l2 : Int} (e_l2 : l2.toInt = y_l2) {l3 : Int32} {y_l3 : Int} (e_l3 : l3.toInt = y_l3) {l4 : Int32} {y_l4 : Int} (e_l4 : l4.toInt = y_l4) {l5 : Int32} {y_l5 : Int} (e_l5 : l5.toInt = y_l5) {h : ms_M} (hM_h : Rg_M h), Sm_ (RP_ h) (w_X3_builtIn_8 nn k l0 l1 l2 l3 l4 l5 (H_M h)) (qw_X3_builtIn_8 nn k l0 y_l1 y_l2 y_l3 y_l4 y_l5 h) := by
  intro k
  induction k with
  | zero => intros; exact sm_no
  | succ k ih =>
    intro l0 hb_l0 l1 y_l1 e_l1 l2 y_l2 e_l2 l3 y_l3 e_l3 l4 y_l4 e_l4 l5 y_l5 e_l5 h hM_h
    unfold w_X3_builtIn_8 qw_X3_builtIn_8
    refine sm_sl ?_; intro v4 y_v4 e_v4
    refine sm_le e_v4 e_l5 ?_ ?_
    · exact sm_rP rfl
    · refine sm_sc e_l5 ?_; intro v5 y_v5 e_v5
      refine sm_eq e_v5 rfl ?_ ?_
      · refine sm_ne e_l4 e_l2 ?_ ?_
        · refine sm_oq_add e_l3 rfl ?_; intro v6 y_v6 e_v6
          refine sm_oq_add e_l5 rfl ?_; intro v7 y_v7 e_v7
          exact ih _ hb_l0 e_l1 e_l2 e_v6 e_l1 e_v7 hM_h
        · exact sm_rP e_l3
      · refine sm_lt e_l4 rfl ?_ ?_
        · exact sj_X3_builtIn_70 nn ih _ hb_l0 e_l1 e_l2 e_l3 e_l4 e_l5 hM_h
        · refine sm_le e_l2 e_l4 ?_ ?_
          · exact sj_X3_builtIn_70 nn ih _ hb_l0 e_l1 e_l2 e_l3 e_l4 e_l5 hM_h
          · refine sm_giI hM_h hb_l0 rfl ?_; intro v9 e_v9
            refine sm_le e_v9 e_l4 ?_ ?_
            · exact sj_X3_builtIn_70 nn ih _ hb_l0 e_l1 e_l2 e_l3 e_l4 e_l5 hM_h
            · refine sm_gmI hM_h hb_l0 rfl ?_
              refine sm_abS hM_h e_l4 ?_; intro v11 y_v11 e_v11
              refine sm_ne e_v11 e_v5 ?_ ?_
              · exact sj_X3_builtIn_70 nn ih _ hb_l0 e_l1 e_l2 e_l3 e_l4 e_l5 hM_h
              · exact sj_X3_builtIn_71 nn ih _ hb_l0 e_l1 e_l2 e_l3 e_l4 e_l5 rfl hM_h
set_option maxRecDepth 4000 in
theorem sf_X3_builtIn (nn : Nat) (a0 : Nat) (hb_a0 : kc_O a0 = 3) {a1 : Int32} {y_a1 : Int} (e_a1 : a1.toInt = y_a1) {a2 : Int32} {y_a2 : Int} (e_a2 : a2.toInt = y_a2) {h : ms_M} (hM_h : Rg_M h) : Sm_ (RP_ h) (f_X3_builtIn nn a0 a1 a2 (H_M h)) (qf_X3_builtIn nn a0 y_a1 y_a2 h) := by
  unfold f_X3_builtIn qf_X3_builtIn
  exact sw_X3_builtIn_8 nn nn _ hb_a0 e_a1 e_a2 rfl e_a1 rfl hM_h
set_option maxRecDepth 4000 in
theorem sw_X3_sameBytes_47 (nn : Nat) : ∀ (k : Nat) (l0 : Nat) (hb_l0 : kc_O l0 = 3) {l1 : Int32} {y_l1 : Int} (e_l1 : l1.toInt = y_l1) {l2 : Int32} {y_l2 : Int} (e_l2 : l2.toInt = y_l2) (l3 : Nat) {l4 : Int32} {y_l4 : Int} (e_l4 : l4.toInt = y_l4) {l6 : Int32} {y_l6 : Int} (e_l6 : l6.toInt = y_l6) {l7 : Int32} {y_l7 : Int} (e_l7 : l7.toInt = y_l7) {h : ms_M} (hM_h : Rg_M h), Sm_ (RP_ h) (w_X3_sameBytes_47 nn k l0 l1 l2 l3 l4 l6 l7 (H_M h)) (qw_X3_sameBytes_47 nn k l0 y_l1 y_l2 l3 y_l4 y_l6 y_l7 h) := by
  intro k
  induction k with
  | zero => intros; exact sm_no
  | succ k ih =>
    intro l0 hb_l0 l1 y_l1 e_l1 l2 y_l2 e_l2 l3 l4 y_l4 e_l4 l6 y_l6 e_l6 l7 y_l7 e_l7 h hM_h
    unfold w_X3_sameBytes_47 qw_X3_sameBytes_47
    refine sm_oq_sub e_l2 e_l1 ?_; intro v1 y_v1 e_v1
    refine sm_le e_v1 e_l7 ?_ ?_
    · refine sm_bq e_l6 ?_
      exact sm_rP e_l6
    · refine sm_eq e_l6 rfl ?_ ?_
      · refine sm_bq e_l6 ?_
        exact sm_rP e_l6
      · refine sm_gmI hM_h hb_l0 rfl ?_
        refine sm_oq_add e_l1 e_l7 ?_; intro v5 y_v5 e_v5
        refine sm_abS hM_h e_v5 ?_; intro v6 y_v6 e_v6
        refine sm_kO ?_; intro hb1
        refine sm_gmI hM_h hb1 rfl ?_
        refine sm_oq_add e_l4 e_l7 ?_; intro v8 y_v8 e_v8
        refine sm_abS hM_h e_v8 ?_; intro v9 y_v9 e_v9
        refine sm_ne e_v6 e_v9 ?_ ?_
        · refine sm_oq_add e_l7 rfl ?_; intro v10 y_v10 e_v10
          exact ih _ hb_l0 e_l1 e_l2 _ e_l4 rfl e_v10 hM_h
        · refine sm_oq_add e_l7 rfl ?_; intro v11 y_v11 e_v11
          exact ih _ hb_l0 e_l1 e_l2 _ e_l4 rfl e_v11 hM_h
set_option maxRecDepth 4000 in
theorem sj_X3_sameBytes_41 (nn : Nat) (l0 : Nat) (hb_l0 : kc_O l0 = 3) {l1 : Int32} {y_l1 : Int} (e_l1 : l1.toInt = y_l1) {l2 : Int32} {y_l2 : Int} (e_l2 : l2.toInt = y_l2) (l3 : Nat) {l4 : Int32} {y_l4 : Int} (e_l4 : l4.toInt = y_l4) {h : ms_M} (hM_h : Rg_M h) : Sm_ (RP_ h) (j_X3_sameBytes_41 nn l0 l1 l2 l3 l4 (H_M h)) (qj_X3_sameBytes_41 nn l0 y_l1 y_l2 l3 y_l4 h) := by
  unfold j_X3_sameBytes_41 qj_X3_sameBytes_41
  exact sw_X3_sameBytes_47 nn nn _ hb_l0 e_l1 e_l2 _ e_l4 rfl rfl hM_h
set_option maxRecDepth 4000 in
theorem sf_X3_sameBytes (nn : Nat) (a0 : Nat) (hb_a0 : kc_O a0 = 3) {a1 : Int32} {y_a1 : Int} (e_a1 : a1.toInt = y_a1) {a2 : Int32} {y_a2 : Int} (e_a2 : a2.toInt = y_a2) (a3 : Nat) {a4 : Int32} {y_a4 : Int} (e_a4 : a4.toInt = y_a4) {a5 : Int32} {y_a5 : Int} (e_a5 : a5.toInt = y_a5) {h : ms_M} (hM_h : Rg_M h) : Sm_ (RP_ h) (f_X3_sameBytes nn a0 a1 a2 a3 a4 a5 (H_M h)) (qf_X3_sameBytes nn a0 y_a1 y_a2 a3 y_a4 y_a5 h) := by
  unfold f_X3_sameBytes qf_X3_sameBytes
  refine sm_oq_sub e_a2 e_a1 ?_; intro v15 y_v15 e_v15
  refine sm_oq_sub e_a5 e_a4 ?_; intro v16 y_v16 e_v16
  refine sm_ne e_v15 e_v16 ?_ ?_
  · exact sj_X3_sameBytes_41 nn _ hb_a0 e_a1 e_a2 _ e_a4 hM_h
  · refine sm_lt e_a1 rfl ?_ ?_
    · exact sj_X3_sameBytes_41 nn _ hb_a0 e_a1 e_a2 _ e_a4 hM_h
    · refine sm_giI hM_h hb_a0 rfl ?_; intro v17 e_v17
      refine sm_lt e_v17 e_a2 ?_ ?_
      · exact sj_X3_sameBytes_41 nn _ hb_a0 e_a1 e_a2 _ e_a4 hM_h
      · refine sm_lt e_a4 rfl ?_ ?_
        · exact sj_X3_sameBytes_41 nn _ hb_a0 e_a1 e_a2 _ e_a4 hM_h
        · refine sm_kO ?_; intro hb1
          refine sm_giI hM_h hb1 rfl ?_; intro v18 e_v18
          refine sm_lt e_v18 e_a5 ?_ ?_
          · exact sj_X3_sameBytes_41 nn _ hb_a0 e_a1 e_a2 _ e_a4 hM_h
          · exact sw_X3_sameBytes_47 nn nn _ hb_a0 e_a1 e_a2 _ e_a4 rfl rfl hM_h
set_option maxRecDepth 4000 in
theorem sw_X7_classOf_3 (nn : Nat) : ∀ (k : Nat) (l1 : Nat) {l2 : Int32} {y_l2 : Int} (e_l2 : l2.toInt = y_l2) {l3 : Int32} {y_l3 : Int} (e_l3 : l3.toInt = y_l3) {l4 : Int32} {y_l4 : Int} (e_l4 : l4.toInt = y_l4) {h : ms_M} (hM_h : Rg_M h), Sm_ (RP_ h) (w_X7_classOf_3 nn k 56 l1 l2 l3 l4 (H_M h)) (qw_X7_classOf_3 nn k l1 y_l2 y_l3 y_l4 h) := by
  intro k
  induction k with
  | zero => intros; exact sm_no
  | succ k ih =>
    intro l1 l2 y_l2 e_l2 l3 y_l3 e_l3 l4 y_l4 e_l4 h hM_h
    unfold w_X7_classOf_3 qw_X7_classOf_3
    refine sm_gi hM_h rfl ?_; intro v1 e_v1
    refine sm_le e_v1 e_l4 ?_ ?_
    · refine sm_isS hM_h ?_; intro hb1
      refine sm_cP (sf_X3_builtIn nn _ hb1 e_l2 e_l3 hM_h) ?_; intro u3 y_u3 e_u3
      exact sm_rP e_u3
    · refine sm_gr hM_h (d := 60) rfl ?_
      refine sm_aq hM_h rfl e_l4 ?_; intro y_v5
      refine sm_nn ?_
      refine sm_kO ?_; intro hb2
      refine sm_giI hM_h hb2 rfl ?_; intro v7 e_v7
      refine sm_gr hM_h (d := 60) rfl ?_
      refine sm_aq hM_h rfl e_l4 ?_; intro y_v9
      refine sm_gr hM_h (d := 60) rfl ?_
      refine sm_aq hM_h rfl e_l4 ?_; intro y_v11
      refine sm_nn ?_
      refine sm_isS hM_h ?_; intro hb3
      refine sm_cP (sf_X3_textAt nn _ hb3 e_v7 hM_h) ?_; intro u14 y_u14 e_u14
      refine sm_gr hM_h (d := 60) rfl ?_
      refine sm_aq hM_h rfl e_l4 ?_; intro y_v16
      refine sm_nn ?_
      refine sm_isS hM_h ?_; intro hb4
      refine sm_cP (sf_X3_textEnd nn _ hb4 e_v7 hM_h) ?_; intro u19 y_u19 e_u19
      refine sm_nn ?_
      refine sm_isS hM_h ?_; intro hb5
      refine sm_cP (sf_X3_sameBytes nn _ hb5 e_u14 e_u19 _ e_l2 e_l3 hM_h) ?_; intro u22 y_u22 e_u22
      refine sm_eq e_u22 rfl ?_ ?_
      · refine sm_oq_add e_l4 rfl ?_; intro v23 y_v23 e_v23
        exact ih _ e_l2 e_l3 e_v23 hM_h
      · refine sm_oq_add rfl e_l4 ?_; intro v24 y_v24 e_v24
        exact sm_rP e_v24
set_option maxRecDepth 4000 in
theorem sf_X7_classOf (nn : Nat) (a1 : Nat) {a2 : Int32} {y_a2 : Int} (e_a2 : a2.toInt = y_a2) {a3 : Int32} {y_a3 : Int} (e_a3 : a3.toInt = y_a3) {h : ms_M} (hM_h : Rg_M h) : Sm_ (RP_ h) (f_X7_classOf nn 56 a1 a2 a3 (H_M h)) (qf_X7_classOf nn a1 y_a2 y_a3 h) := by
  unfold f_X7_classOf qf_X7_classOf
  exact sw_X7_classOf_3 nn nn _ e_a2 e_a3 rfl hM_h
set_option maxRecDepth 4000 in
theorem sw_X7_relate_14 (nn : Nat) : ∀ (k : Nat) {l1 : Int32} {y_l1 : Int} (e_l1 : l1.toInt = y_l1) {h : ms_M} (hM_h : Rg_M h), Sm_ RV_ (w_X7_relate_14 nn k 56 l1 (H_M h)) (qw_X7_relate_14 nn k y_l1 h) := by
  intro k
  induction k with
  | zero => intros; exact sm_no
  | succ k ih =>
    intro l1 y_l1 e_l1 h hM_h
    unfold w_X7_relate_14 qw_X7_relate_14
    refine sm_gi hM_h rfl ?_; intro v1 e_v1
    refine sm_le e_v1 e_l1 ?_ ?_
    · refine sm_gr hM_h (d := 57) rfl ?_
      refine sm_is hM_h rfl ?_
      refine sm_cV (sf_X4_settle nn _ rfl hM_h) ?_; intro u4 hM_u4
      exact sm_rV hM_u4
    · refine sm_gr hM_h (d := 60) rfl ?_
      refine sm_aq hM_h rfl e_l1 ?_; intro y_v6
      refine sm_nn ?_
      refine sm_kO ?_; intro hb1
      refine sm_giI hM_h hb1 rfl ?_; intro v8 e_v8
      refine sm_gr hM_h (d := 57) rfl ?_
      refine sm_oq_add rfl e_l1 ?_; intro v10 y_v10 e_v10
      refine sm_gr hM_h (d := 60) rfl ?_
      refine sm_aq hM_h rfl e_l1 ?_; intro y_v12
      refine sm_gr hM_h (d := 60) rfl ?_
      refine sm_aq hM_h rfl e_l1 ?_; intro y_v14
      refine sm_nn ?_
      refine sm_isS hM_h ?_; intro hb2
      refine sm_cP (sf_X3_textAt nn _ hb2 e_v8 hM_h) ?_; intro u17 y_u17 e_u17
      refine sm_gr hM_h (d := 60) rfl ?_
      refine sm_aq hM_h rfl e_l1 ?_; intro y_v19
      refine sm_nn ?_
      refine sm_isS hM_h ?_; intro hb3
      refine sm_cP (sf_X3_textEnd nn _ hb3 e_v8 hM_h) ?_; intro u22 y_u22 e_u22
      refine sm_nn ?_
      refine sm_is hM_h rfl ?_
      refine sm_cP (sf_X7_classOf nn _ e_u17 e_u22 hM_h) ?_; intro u25 y_u25 e_u25
      refine sm_is hM_h rfl ?_
      refine sm_cV (sf_X4_setAbove nn _ rfl e_v10 e_u25 hM_h) ?_; intro u27 hM_u27
      refine sm_oq_add e_l1 rfl ?_; intro v28 y_v28 e_v28
      exact ih e_v28 hM_u27
set_option maxRecDepth 4000 in
theorem sf_X7_relate (nn : Nat) {h : ms_M} (hM_h : Rg_M h) : Sm_ RV_ (f_X7_relate nn 56 (H_M h)) (qf_X7_relate nn h) := by
  unfold f_X7_relate qf_X7_relate
  refine sm_pv hM_h rfl rfl ?_; intro h30 hM_h30
  refine sm_gr hM_h30 (d := 57) rfl ?_
  refine sm_is hM_h30 rfl ?_
  refine sm_cV (sf_X4_forget nn _ rfl hM_h30) ?_; intro u33 hM_u33
  exact sw_X7_relate_14 nn nn rfl hM_u33
set_option maxRecDepth 4000 in
theorem sf_X7_swapSpare (nn : Nat) {a1 : Int32} {y_a1 : Int} (e_a1 : a1.toInt = y_a1) {h : ms_M} (hM_h : Rg_M h) : Sm_ RV_ (f_X7_swapSpare nn 56 a1 (H_M h)) (qf_X7_swapSpare nn y_a1 h) := by
  unfold f_X7_swapSpare qf_X7_swapSpare
  refine sm_gr hM_h (d := 60) rfl ?_
  refine sm_aq hM_h rfl e_a1 ?_; intro y_v2
  refine sm_gr hM_h (d := 60) rfl ?_
  refine sm_gm hM_h rfl ?_
  refine sm_sqIs hM_h rfl e_a1 ?_; intro h5 hM_h5
  refine sm_po hM_h5 rfl ?_; intro h6 hM_h6
  exact sm_rV hM_h6
set_option maxRecDepth 4000 in
theorem sf_X7_bring (nn : Nat) (a1 : Nat) {a2 : Int32} {y_a2 : Int} (e_a2 : a2.toInt = y_a2) {h : ms_M} (hM_h : Rg_M h) : Sm_ RD_ (f_X7_bring nn 56 a1 a2 (H_M h)) (qf_X7_bring nn a1 y_a2 h) := by
  unfold f_X7_bring qf_X7_bring
  refine sm_gm hM_h rfl ?_
  refine sm_isS hM_h ?_; intro hb1
  refine sm_cI (sf_X3_read nn _ hb1 _ e_a2 hM_h) ?_; intro u3 y_u3 M_u3 e_u3 hM_u3
  refine sm_eq e_u3 rfl ?_ ?_
  · refine sm_gm hM_u3 rfl ?_
    refine sm_kO ?_; intro hb2
    refine sm_giI hM_u3 hb2 rfl ?_; intro v5 e_v5
    refine sm_gi hM_u3 rfl ?_; intro v6 e_v6
    refine sm_le rfl e_v6 ?_ ?_
    · exact sm_rD rfl hM_u3
    · refine sm_gm hM_u3 rfl ?_
      refine sm_gm hM_u3 rfl ?_
      refine sm_isK hM_u3 hb2 ?_
      refine sm_cP (sf_X3_textAt nn _ hb2 e_v5 hM_u3) ?_; intro u10 y_u10 e_u10
      refine sm_gm hM_u3 rfl ?_
      refine sm_isK hM_u3 hb2 ?_
      refine sm_cP (sf_X3_textEnd nn _ hb2 e_v5 hM_u3) ?_; intro u13 y_u13 e_u13
      refine sm_is hM_u3 rfl ?_
      refine sm_cP (sf_X7_classOf nn _ e_u10 e_u13 hM_u3) ?_; intro u15 y_u15 e_u15
      refine sm_eq e_u15 rfl ?_ ?_
      · refine sm_gm hM_u3 rfl ?_
        refine sm_isK hM_u3 hb2 ?_
        refine sm_cC (sf_X3_keepOwn nn _ hb2 hM_u3) ?_; intro M_u18 c_u18 s_u18 hM_u18
        refine sm_gi hM_u18 rfl ?_; intro v19 e_v19
        refine sm_is hM_u18 rfl ?_
        refine sm_cV (sf_X7_swapSpare nn e_v19 hM_u18) ?_; intro u21 hM_u21
        refine sm_gi hM_u21 rfl ?_; intro v22 e_v22
        refine sm_oq_add e_v22 rfl ?_; intro v23 y_v23 e_v23
        refine sm_pv hM_u21 rfl e_v23 ?_; intro h24 hM_h24
        refine sm_is hM_h24 rfl ?_
        refine sm_cV (sf_X7_relate nn hM_h24) ?_; intro u26 hM_u26
        refine sm_gi hM_u26 rfl ?_; intro v27 e_v27
        refine sm_oq_add rfl e_v27 ?_; intro v28 y_v28 e_v28
        refine sm_oq_sub e_v28 rfl ?_; intro v29 y_v29 e_v29
        exact sm_rD e_v29 hM_u26
      · exact sm_rD rfl hM_u3
  · refine sm_oq_sub rfl e_u3 ?_; intro v32 y_v32 e_v32
    exact sm_rD e_v32 hM_u3
set_option maxRecDepth 4000 in
theorem sj_X12_keep_24 (nn : Nat) {s0 : Int32} {y_s0 : Int} (e_s0 : s0.toInt = y_s0) {h : ms_M} (hM_h : Rg_M h) (c : Nat) (s : Nat) : Sm_ RD_ (j_X12_keep_24 nn 0 s0 (H_M h) c s) (qj_X12_keep_24 nn y_s0 h c s) := by
  unfold j_X12_keep_24 qj_X12_keep_24
  refine sm_lt e_s0 rfl ?_ ?_
  · exact sm_rD e_s0 hM_h
  · refine sm_gr hM_h (d := 143) rfl ?_
    refine sm_is hM_h rfl ?_
    refine sm_cV (sf_X5_forget nn hM_h) ?_; intro u3 hM_u3
    exact sm_rD e_s0 hM_u3
set_option maxRecDepth 4000 in
theorem sf_X12_keep (nn : Nat) {a1 : Int32} {y_a1 : Int} (e_a1 : a1.toInt = y_a1) {h : ms_M} (hM_h : Rg_M h) : Sm_ RD_ (f_X12_keep nn 0 a1 (H_M h)) (qf_X12_keep nn y_a1 h) := by
  unfold f_X12_keep qf_X12_keep
  refine sm_is hM_h rfl ?_
  refine sm_cQ (sf_X12_imageOf nn e_a1 hM_h) ?_; intro y_u6
  refine sm_oc ?_ ?_
  · exact sj_X12_keep_24 nn rfl hM_h _ _
  · refine sm_gr hM_h (d := 56) rfl ?_
    refine sm_lnS hM_h ?_; intro v10 y_v10 e_v10
    refine sm_is hM_h rfl ?_
    refine sm_cD (sf_X7_bring nn _ e_v10 hM_h) ?_; intro u12 y_u12 M_u12 c_u12 s_u12 e_u12 hM_u12
    exact sj_X12_keep_24 nn e_u12 hM_u12 _ _
set_option maxRecDepth 4000 in
theorem sf_X12_load (nn : Nat) {h : ms_M} (hM_h : Rg_M h) : Sm_ RD_ (f_X12_load nn 0 (H_M h)) (qf_X12_load nn h) := by
  unfold f_X12_load qf_X12_load
  refine sm_gr hM_h (d := 56) rfl ?_
  refine sm_gr hM_h (d := 1) rfl ?_
  refine sm_gi hM_h rfl ?_; intro v3 e_v3
  refine sm_is hM_h rfl ?_
  refine sm_cD (sf_X7_bring nn _ e_v3 hM_h) ?_; intro u5 y_u5 M_u5 c_u5 s_u5 e_u5 hM_u5
  refine sm_pv hM_u5 rfl rfl ?_; intro h6 hM_h6
  refine sm_lt e_u5 rfl ?_ ?_
  · exact sm_rD e_u5 hM_h6
  · refine sm_gr hM_h6 (d := 143) rfl ?_
    refine sm_is hM_h6 rfl ?_
    refine sm_cV (sf_X5_forget nn hM_h6) ?_; intro u9 hM_u9
    exact sm_rD e_u5 hM_u9
set_option maxRecDepth 4000 in
theorem sf_X5_tell (nn : Nat) {a1 : Int32} {y_a1 : Int} (e_a1 : a1.toInt = y_a1) {h : ms_M} (hM_h : Rg_M h) : Sm_ (RP_ h) (f_X5_tell nn 143 a1 (H_M h)) (qf_X5_tell nn y_a1 h) := by
  unfold f_X5_tell qf_X5_tell
  refine sm_eq e_a1 rfl ?_ ?_
  · refine sm_gi hM_h rfl ?_; intro v1 e_v1
    exact sm_rP e_v1
  · refine sm_eq e_a1 rfl ?_ ?_
    · refine sm_gi hM_h rfl ?_; intro v2 e_v2
      exact sm_rP e_v2
    · refine sm_eq e_a1 rfl ?_ ?_
      · refine sm_gi hM_h rfl ?_; intro v3 e_v3
        exact sm_rP e_v3
      · refine sm_eq e_a1 rfl ?_ ?_
        · refine sm_gi hM_h rfl ?_; intro v4 e_v4
          exact sm_rP e_v4
        · refine sm_eq e_a1 rfl ?_ ?_
          · refine sm_gi hM_h rfl ?_; intro v5 e_v5
            exact sm_rP e_v5
          · refine sm_eq e_a1 rfl ?_ ?_
            · refine sm_gi hM_h rfl ?_; intro v6 e_v6
              exact sm_rP e_v6
            · refine sm_eq e_a1 rfl ?_ ?_
              · refine sm_gi hM_h rfl ?_; intro v7 e_v7
                exact sm_rP e_v7
              · exact sm_rP rfl
set_option maxRecDepth 4000 in
theorem sf_X5_tellTop (nn : Nat) {a1 : Int32} {y_a1 : Int} (e_a1 : a1.toInt = y_a1) {h : ms_M} (hM_h : Rg_M h) : Sm_ (RP_ h) (f_X5_tellTop nn 143 a1 (H_M h)) (qf_X5_tellTop nn y_a1 h) := by
  unfold f_X5_tellTop qf_X5_tellTop
  refine sm_gi hM_h rfl ?_; intro v1 e_v1
  refine sm_eq e_v1 rfl ?_ ?_
  · refine sm_eq e_a1 rfl ?_ ?_
    · refine sm_gr hM_h (d := 148) rfl ?_
      refine sm_gi hM_h rfl ?_; intro v3 e_v3
      refine sm_ai hM_h rfl e_v3 ?_; intro v4 y_v4 e_v4
      refine sm_div e_v4 ⟨rfl, by decide⟩ ?_; intro v5 y_v5 e_v5
      refine sm_oq_add rfl e_v5 ?_; intro v6 y_v6 e_v6
      exact sm_rP e_v6
    · refine sm_eq e_a1 rfl ?_ ?_
      · refine sm_gr hM_h (d := 148) rfl ?_
        refine sm_gi hM_h rfl ?_; intro v8 e_v8
        refine sm_ai hM_h rfl e_v8 ?_; intro v9 y_v9 e_v9
        refine sm_rem e_v9 ⟨rfl, by decide⟩ ?_; intro v10 y_v10 e_v10
        exact sm_rP e_v10
      · refine sm_eq e_a1 rfl ?_ ?_
        · refine sm_gr hM_h (d := 149) rfl ?_
          refine sm_gi hM_h rfl ?_; intro v12 e_v12
          refine sm_ai hM_h rfl e_v12 ?_; intro v13 y_v13 e_v13
          exact sm_rP e_v13
        · refine sm_eq e_a1 rfl ?_ ?_
          · refine sm_gr hM_h (d := 150) rfl ?_
            refine sm_gi hM_h rfl ?_; intro v15 e_v15
            refine sm_ai hM_h rfl e_v15 ?_; intro v16 y_v16 e_v16
            exact sm_rP e_v16
          · exact sm_rP rfl
  · exact sm_rP rfl
set_option maxRecDepth 4000 in
theorem sj_X12_look_80 (nn : Nat) {l1 : Int32} {y_l1 : Int} (e_l1 : l1.toInt = y_l1) {h : ms_M} (hM_h : Rg_M h) : Sm_ (RP_ h) (j_X12_look_80 nn 0 l1 (H_M h)) (qj_X12_look_80 nn y_l1 h) := by
  unfold j_X12_look_80 qj_X12_look_80
  refine sm_gr hM_h (d := 143) rfl ?_
  refine sm_is hM_h rfl ?_
  refine sm_cP (sf_X5_tell nn e_l1 hM_h) ?_; intro u3 y_u3 e_u3
  exact sm_rP e_u3
set_option maxRecDepth 4000 in
theorem sf_X12_look (nn : Nat) {a1 : Int32} {y_a1 : Int} (e_a1 : a1.toInt = y_a1) {h : ms_M} (hM_h : Rg_M h) : Sm_ (RP_ h) (f_X12_look nn 0 a1 (H_M h)) (qf_X12_look nn y_a1 h) := by
  unfold f_X12_look qf_X12_look
  refine sm_eq e_a1 rfl ?_ ?_
  · refine sm_gr hM_h (d := 56) rfl ?_
    refine sm_gi hM_h rfl ?_; intro v10 e_v10
    exact sm_rP e_v10
  · refine sm_eq e_a1 rfl ?_ ?_
    · refine sm_gr hM_h (d := 56) rfl ?_
      refine sm_gi hM_h rfl ?_; intro v12 e_v12
      refine sm_eq e_v12 rfl ?_ ?_
      · exact sm_rP rfl
      · exact sm_rP rfl
    · refine sm_eq e_a1 rfl ?_ ?_
      · refine sm_gi hM_h rfl ?_; intro v14 e_v14
        exact sm_rP e_v14
      · refine sm_lt e_a1 rfl ?_ ?_
        · exact sj_X12_look_80 nn e_a1 hM_h
        · refine sm_lt rfl e_a1 ?_ ?_
          · exact sj_X12_look_80 nn e_a1 hM_h
          · refine sm_gr hM_h (d := 143) rfl ?_
            refine sm_is hM_h rfl ?_
            refine sm_cP (sf_X5_tellTop nn e_a1 hM_h) ?_; intro u6 y_u6 e_u6
            exact sm_rP e_u6
set_option maxRecDepth 4000 in
theorem sf_X5_printedAt (nn : Nat) {a1 : Int32} {y_a1 : Int} (e_a1 : a1.toInt = y_a1) {h : ms_M} (hM_h : Rg_M h) : Sm_ (RP_ h) (f_X5_printedAt nn 143 a1 (H_M h)) (qf_X5_printedAt nn y_a1 h) := by
  unfold f_X5_printedAt qf_X5_printedAt
  refine sm_lt e_a1 rfl ?_ ?_
  · exact sm_rP rfl
  · refine sm_gi hM_h rfl ?_; intro v1 e_v1
    refine sm_le e_v1 e_a1 ?_ ?_
    · exact sm_rP rfl
    · refine sm_le rfl e_a1 ?_ ?_
      · exact sm_rP rfl
      · refine sm_gr hM_h (d := 144) rfl ?_
        refine sm_ai hM_h rfl e_a1 ?_; intro v3 y_v3 e_v3
        exact sm_rP e_v3
set_option maxRecDepth 4000 in
theorem sf_X12_out (nn : Nat) {a1 : Int32} {y_a1 : Int} (e_a1 : a1.toInt = y_a1) {h : ms_M} (hM_h : Rg_M h) : Sm_ (RP_ h) (f_X12_out nn 0 a1 (H_M h)) (qf_X12_out nn y_a1 h) := by
  unfold f_X12_out qf_X12_out
  refine sm_gr hM_h (d := 143) rfl ?_
  refine sm_is hM_h rfl ?_
  refine sm_cP (sf_X5_printedAt nn e_a1 hM_h) ?_; intro u3 y_u3 e_u3
  exact sm_rP e_u3
set_option maxRecDepth 4000 in
theorem sf_X3_ownBytes (nn : Nat) (a0 : Nat) (hb_a0 : kc_O a0 = 3) {h : ms_M} (hM_h : Rg_M h) : Sm_ (RQ_ h) (f_X3_ownBytes nn a0 (H_M h)) (qf_X3_ownBytes nn a0 h) := by
  unfold f_X3_ownBytes qf_X3_ownBytes
  refine sm_gmI hM_h hb_a0 rfl ?_
  exact sm_rQs
set_option maxRecDepth 4000 in
theorem sf_X7_imageOf (nn : Nat) {a1 : Int32} {y_a1 : Int} (e_a1 : a1.toInt = y_a1) {h : ms_M} (hM_h : Rg_M h) : Sm_ (RQ_ h) (f_X7_imageOf nn 56 a1 (H_M h)) (qf_X7_imageOf nn y_a1 h) := by
  unfold f_X7_imageOf qf_X7_imageOf
  refine sm_lt e_a1 rfl ?_ ?_
  · exact sm_rQn
  · refine sm_gi hM_h rfl ?_; intro v1 e_v1
    refine sm_oq_add rfl e_v1 ?_; intro v2 y_v2 e_v2
    refine sm_le e_v2 e_a1 ?_ ?_
    · exact sm_rQn
    · refine sm_gr hM_h (d := 60) rfl ?_
      refine sm_oq_sub e_a1 rfl ?_; intro v4 y_v4 e_v4
      refine sm_aq hM_h rfl e_v4 ?_; intro y_v5
      exact sm_rQo
set_option maxRecDepth 4000 in
theorem sf_X3_sameText (nn : Nat) (a0 : Nat) (hb_a0 : kc_O a0 = 3) {a1 : Int32} {y_a1 : Int} (e_a1 : a1.toInt = y_a1) (a2 : Nat) {a3 : Int32} {y_a3 : Int} (e_a3 : a3.toInt = y_a3) {h : ms_M} (hM_h : Rg_M h) : Sm_ (RP_ h) (f_X3_sameText nn a0 a1 a2 a3 (H_M h)) (qf_X3_sameText nn a0 y_a1 a2 y_a3 h) := by
  unfold f_X3_sameText qf_X3_sameText
  refine sm_isK hM_h hb_a0 ?_
  refine sm_cP (sf_X3_textAt nn _ hb_a0 e_a1 hM_h) ?_; intro u2 y_u2 e_u2
  refine sm_isK hM_h hb_a0 ?_
  refine sm_cP (sf_X3_textEnd nn _ hb_a0 e_a1 hM_h) ?_; intro u4 y_u4 e_u4
  refine sm_isS hM_h ?_; intro hb1
  refine sm_cP (sf_X3_textAt nn _ hb1 e_a3 hM_h) ?_; intro u6 y_u6 e_u6
  refine sm_isK hM_h hb1 ?_
  refine sm_cP (sf_X3_textEnd nn _ hb1 e_a3 hM_h) ?_; intro u8 y_u8 e_u8
  refine sm_isK hM_h hb_a0 ?_
  refine sm_cP (sf_X3_sameBytes nn _ hb_a0 e_u2 e_u4 _ e_u6 e_u8 hM_h) ?_; intro u10 y_u10 e_u10
  refine sm_bq e_u10 ?_
  exact sm_rP e_u10
set_option maxRecDepth 4000 in
theorem sj_X7_isNamedAsOther_98 (nn : Nat) {kk_44 : Nat → Int32 → Int32 → Int32 → Int32 → mx_H → Option (Int32 × mx_H)} {qkk_44 : Int → Int → Int → Int → ms_M → Option Int} (hk_kk_44 : ∀ {l1 : Int32} {y_l1 : Int} (e_l1 : l1.toInt = y_l1) {l2 : Int32} {y_l2 : Int} (e_l2 : l2.toInt = y_l2) {l3 : Int32} {y_l3 : Int} (e_l3 : l3.toInt = y_l3) {l4 : Int32} {y_l4 : Int} (e_l4 : l4.toInt = y_l4) {h : ms_M} (hM_h : Rg_M h), Sm_ (RP_ h) (kk_44 56 l1 l2 l3 l4 (H_M h)) (qkk_44 y_l1 y_l2 y_l3 y_l4 h)) {l1 : Int32} {y_l1 : Int} (e_l1 : l1.toInt = y_l1) {l2 : Int32} {y_l2 : Int} (e_l2 : l2.toInt = y_l2) {l4 : Int32} {y_l4 : Int} (e_l4 : l4.toInt = y_l4) {h : ms_M} (hM_h : Rg_M h) : Sm_ (RP_ h) (j_X7_isNamedAsOther_98 nn kk_44 56 l1 l2 l4 (H_M h)) (qj_X7_isNamedAsOther_98 nn qkk_44 y_l1 y_l2 y_l4 h) := by
  unfold j_X7_isNamedAsOther_98 qj_X7_isNamedAsOther_98
  refine sm_oq_add e_l4 rfl ?_; intro v1 y_v1 e_v1
  exact hk_kk_44 e_l1 e_l2 rfl e_v1 hM_h
set_option maxRecDepth 4000 in
theorem sj_X7_isNamedAsOther_94 (nn : Nat) {kk_44 : Nat → Int32 → Int32 → Int32 → Int32 → mx_H → Option (Int32 × mx_H)} {qkk_44 : Int → Int → Int → Int → ms_M → Option Int} (hk_kk_44 : ∀ {l1 : Int32} {y_l1 : Int} (e_l1 : l1.toInt = y_l1) {l2 : Int32} {y_l2 : Int} (e_l2 : l2.toInt = y_l2) {l3 : Int32} {y_l3 : Int} (e_l3 : l3.toInt = y_l3) {l4 : Int32} {y_l4 : Int} (e_l4 : l4.toInt = y_l4) {h : ms_M} (hM_h : Rg_M h), Sm_ (RP_ h) (kk_44 56 l1 l2 l3 l4 (H_M h)) (qkk_44 y_l1 y_l2 y_l3 y_l4 h)) {l1 : Int32} {y_l1 : Int} (e_l1 : l1.toInt = y_l1) {l2 : Int32} {y_l2 : Int} (e_l2 : l2.toInt = y_l2) {l4 : Int32} {y_l4 : Int} (e_l4 : l4.toInt = y_l4) {h : ms_M} (hM_h : Rg_M h) : Sm_ (RP_ h) (j_X7_isNamedAsOther_94 nn kk_44 56 l1 l2 l4 (H_M h)) (qj_X7_isNamedAsOther_94 nn qkk_44 y_l1 y_l2 y_l4 h) := by
  unfold j_X7_isNamedAsOther_94 qj_X7_isNamedAsOther_94
  refine sm_oq_add e_l4 rfl ?_; intro v2 y_v2 e_v2
  exact hk_kk_44 e_l1 e_l2 rfl e_v2 hM_h
set_option maxRecDepth 4000 in
theorem sw_X7_isNamedAsOther_44 (nn : Nat) : ∀ (k : Nat) {l1 : Int32} {y_l1 : Int} (e_l1 : l1.toInt = y_l1) {l2 : Int32} {y_l2 : Int} (e_l2 : l2.toInt = y_l2) {l3 : Int32} {y_l3 : Int} (e_l3 : l3.toInt = y_l3) {l4 : Int32} {y_l4 : Int} (e_l4 : l4.toInt = y_l4) {h : ms_M} (hM_h : Rg_M h), Sm_ (RP_ h) (w_X7_isNamedAsOther_44 nn k 56 l1 l2 l3 l4 (H_M h)) (qw_X7_isNamedAsOther_44 nn k y_l1 y_l2 y_l3 y_l4 h) := by
  intro k
  induction k with
  | zero => intros; exact sm_no
  | succ k ih =>
    intro l1 y_l1 e_l1 l2 y_l2 e_l2 l3 y_l3 e_l3 l4 y_l4 e_l4 h hM_h
    unfold w_X7_isNamedAsOther_44 qw_X7_isNamedAsOther_44
    refine sm_gi hM_h rfl ?_; intro v3 e_v3
    refine sm_le e_v3 e_l4 ?_ ?_
    · refine sm_bq e_l3 ?_
      exact sm_rP e_l3
    · refine sm_ne e_l3 rfl ?_ ?_
      · exact sj_X7_isNamedAsOther_94 nn ih e_l1 e_l2 e_l4 hM_h
      · refine sm_oq_add rfl e_l4 ?_; intro v5 y_v5 e_v5
        refine sm_eq e_v5 e_l1 ?_ ?_
        · exact sj_X7_isNamedAsOther_98 nn ih e_l1 e_l2 e_l4 hM_h
        · refine sm_gr hM_h (d := 60) rfl ?_
          refine sm_aq hM_h rfl e_l4 ?_; intro y_v7
          refine sm_gr hM_h (d := 60) rfl ?_
          refine sm_aq hM_h rfl e_l4 ?_; intro y_v9
          refine sm_nn ?_
          refine sm_kO ?_; intro hb1
          refine sm_giI hM_h hb1 rfl ?_; intro v11 e_v11
          refine sm_gm hM_h rfl ?_
          refine sm_nn ?_
          refine sm_isS hM_h ?_; intro hb2
          refine sm_cP (sf_X3_sameText nn _ hb2 e_v11 _ e_l2 hM_h) ?_; intro u15 y_u15 e_u15
          refine sm_eq e_u15 rfl ?_ ?_
          · exact sj_X7_isNamedAsOther_98 nn ih e_l1 e_l2 e_l4 hM_h
          · exact sj_X7_isNamedAsOther_94 nn ih e_l1 e_l2 e_l4 hM_h
set_option maxRecDepth 4000 in
theorem sf_X7_isNamedAsOther (nn : Nat) {a1 : Int32} {y_a1 : Int} (e_a1 : a1.toInt = y_a1) {h : ms_M} (hM_h : Rg_M h) : Sm_ (RP_ h) (f_X7_isNamedAsOther nn 56 a1 (H_M h)) (qf_X7_isNamedAsOther nn y_a1 h) := by
  unfold f_X7_isNamedAsOther qf_X7_isNamedAsOther
  refine sm_gm hM_h rfl ?_
  refine sm_kO ?_; intro hb1
  refine sm_giI hM_h hb1 rfl ?_; intro v21 e_v21
  refine sm_gm hM_h rfl ?_
  refine sm_gm hM_h rfl ?_
  refine sm_isK hM_h hb1 ?_
  refine sm_cP (sf_X3_textAt nn _ hb1 e_v21 hM_h) ?_; intro u25 y_u25 e_u25
  refine sm_gm hM_h rfl ?_
  refine sm_isK hM_h hb1 ?_
  refine sm_cP (sf_X3_textEnd nn _ hb1 e_v21 hM_h) ?_; intro u28 y_u28 e_u28
  refine sm_isK hM_h hb1 ?_
  refine sm_cP (sf_X3_builtIn nn _ hb1 e_u25 e_u28 hM_h) ?_; intro u30 y_u30 e_u30
  refine sm_eq e_u30 rfl ?_ ?_
  · exact sw_X7_isNamedAsOther_44 nn nn e_a1 e_v21 rfl rfl hM_h
  · exact sw_X7_isNamedAsOther_44 nn nn e_a1 e_v21 rfl rfl hM_h
set_option maxRecDepth 4000 in
theorem sj_X7_change_72 (nn : Nat) {l2 : Int32} {y_l2 : Int} (e_l2 : l2.toInt = y_l2) {l5 : Option Nat} {y_l5 : Int} (e_l5 : l5 = rf_O y_l5) {l6 : Int32} {y_l6 : Int} (e_l6 : l6.toInt = y_l6) {h : ms_M} (hM_h : Rg_M h) : Sm_ RI_ (j_X7_change_72 nn l2 l5 l6 (H_M h)) (qj_X7_change_72 nn y_l2 y_l5 y_l6 h) := by
  unfold j_X7_change_72 qj_X7_change_72
  subst e_l5
  refine sm_nn ?_
  refine sm_sbS hM_h  e_l2 e_l6 ?_; intro h2 hM_h2
  exact sm_rI rfl hM_h2
set_option maxRecDepth 4000 in
theorem sf_X7_change (nn : Nat) {a1 : Int32} {y_a1 : Int} (e_a1 : a1.toInt = y_a1) {a2 : Int32} {y_a2 : Int} (e_a2 : a2.toInt = y_a2) {a3 : Int32} {y_a3 : Int} (e_a3 : a3.toInt = y_a3) {h : ms_M} (hM_h : Rg_M h) : Sm_ RI_ (f_X7_change nn 56 a1 a2 a3 (H_M h)) (qf_X7_change nn y_a1 y_a2 y_a3 h) := by
  unfold f_X7_change qf_X7_change
  refine sm_is hM_h rfl ?_
  refine sm_cQ (sf_X7_imageOf nn e_a1 hM_h) ?_; intro y_u4
  refine sm_oc ?_ ?_
  · exact sm_rI rfl hM_h
  · refine sm_lt e_a2 rfl ?_ ?_
    · exact sm_rI rfl hM_h
    · refine sm_kO ?_; intro hb1
      refine sm_giI hM_h hb1 rfl ?_; intro v7 e_v7
      refine sm_lt e_a2 e_v7 ?_ ?_
      · refine sm_isK hM_h hb1 ?_
        refine sm_cQ (sf_X3_ownBytes nn _ hb1 hM_h) ?_; intro y_u9
        refine sm_nn ?_
        refine sm_abS hM_h e_a2 ?_; intro v11 y_v11 e_v11
        refine sm_oq_b e_a3 ?_; intro v12 y_v12 e_v12
        refine sm_sbS hM_h  e_a2 e_v12 ?_; intro h13 hM_h13
        refine sm_gm hM_h13 rfl ?_
        refine sm_giI hM_h13 hb1 rfl ?_; intro v15 e_v15
        refine sm_isS hM_h13 ?_; intro hb2
        refine sm_cI (sf_X3_read nn _ hb2 _ e_v15 hM_h13) ?_; intro u17 y_u17 M_u17 e_u17 hM_u17
        refine sm_ne e_u17 rfl ?_ ?_
        · exact sj_X7_change_72 nn e_a2 (rf_s _) e_v11 hM_u17
        · refine sm_is hM_u17 rfl ?_
          refine sm_cP (sf_X7_isNamedAsOther nn e_a1 hM_u17) ?_; intro u19 y_u19 e_u19
          refine sm_eq e_u19 rfl ?_ ?_
          · refine sm_oq_sub e_a1 rfl ?_; intro v20 y_v20 e_v20
            refine sm_is hM_u17 rfl ?_
            refine sm_cV (sf_X7_swapSpare nn e_v20 hM_u17) ?_; intro u22 hM_u22
            refine sm_is hM_u22 rfl ?_
            refine sm_cV (sf_X7_relate nn hM_u22) ?_; intro u24 hM_u24
            exact sm_rI rfl hM_u24
          · exact sj_X7_change_72 nn e_a2 (rf_s _) e_v11 hM_u17
      · exact sm_rI rfl hM_h
set_option maxRecDepth 4000 in
theorem sf_X12_patch (nn : Nat) {a1 : Int32} {y_a1 : Int} (e_a1 : a1.toInt = y_a1) {a2 : Int32} {y_a2 : Int} (e_a2 : a2.toInt = y_a2) {a3 : Int32} {y_a3 : Int} (e_a3 : a3.toInt = y_a3) {h : ms_M} (hM_h : Rg_M h) : Sm_ RI_ (f_X12_patch nn 0 a1 a2 a3 (H_M h)) (qf_X12_patch nn y_a1 y_a2 y_a3 h) := by
  unfold f_X12_patch qf_X12_patch
  refine sm_gr hM_h (d := 56) rfl ?_
  refine sm_is hM_h rfl ?_
  refine sm_cI (sf_X7_change nn e_a1 e_a2 e_a3 hM_h) ?_; intro u3 y_u3 M_u3 e_u3 hM_u3
  refine sm_eq e_u3 rfl ?_ ?_
  · refine sm_bq e_u3 ?_
    exact sm_rI e_u3 hM_u3
  · refine sm_gr hM_u3 (d := 143) rfl ?_
    refine sm_is hM_u3 rfl ?_
    refine sm_cV (sf_X5_forget nn hM_u3) ?_; intro u7 hM_u7
    refine sm_bq e_u3 ?_
    exact sm_rI e_u3 hM_u7
set_option maxRecDepth 4000 in
theorem sf_J7_rangeCheck_23922 (nn : Nat) {a0 : Int32} {y_a0 : Int} (e_a0 : a0.toInt = y_a0) {a1 : Int32} {y_a1 : Int} (e_a1 : a1.toInt = y_a1) {a2 : Int32} {y_a2 : Int} (e_a2 : a2.toInt = y_a2) {h : ms_M} (hM_h : Rg_M h) : Sm_ (RN_ h) (f_J7_rangeCheck_23922 nn a0 a1 a2 (H_M h)) (qf_J7_rangeCheck_23922 nn y_a0 y_a1 y_a2 h) := by
  unfold f_J7_rangeCheck_23922 qf_J7_rangeCheck_23922
  refine sm_le e_a1 e_a2 ?_ ?_
  · refine sm_le rfl e_a1 ?_ ?_
    · refine sm_le e_a2 e_a0 ?_ ?_
      · exact sm_rN
      · exact sm_no
    · exact sm_no
  · exact sm_no
set_option maxRecDepth 4000 in
theorem sw_J7_fill_fda19_10 (nn : Nat) : ∀ (k : Nat) (l0 : Nat) {l2 : Int32} {y_l2 : Int} (e_l2 : l2.toInt = y_l2) {l3 : Int32} {y_l3 : Int} (e_l3 : l3.toInt = y_l3) {l4 : Int32} {y_l4 : Int} (e_l4 : l4.toInt = y_l4) {h : ms_M} (hM_h : Rg_M h), Sm_ RV_ (w_J7_fill_fda19_10 nn k l0 l2 l3 l4 (H_M h)) (qw_J7_fill_fda19_10 nn k l0 y_l2 y_l3 y_l4 h) := by
  intro k
  induction k with
  | zero => intros; exact sm_no
  | succ k ih =>
    intro l0 l2 y_l2 e_l2 l3 y_l3 e_l3 l4 y_l4 e_l4 h hM_h
    unfold w_J7_fill_fda19_10 qw_J7_fill_fda19_10
    refine sm_le e_l2 e_l4 ?_ ?_
    · exact sm_rV hM_h
    · refine sm_siS hM_h  e_l4 e_l3 ?_; intro h1 hM_h1
      refine sm_oq_add e_l4 rfl ?_; intro v2 y_v2 e_v2
      exact ih _ e_l2 e_l3 e_v2 hM_h1
set_option maxRecDepth 4000 in
theorem sf_J7_fill_fda19 (nn : Nat) (a0 : Nat) {a1 : Int32} {y_a1 : Int} (e_a1 : a1.toInt = y_a1) {a2 : Int32} {y_a2 : Int} (e_a2 : a2.toInt = y_a2) {a3 : Int32} {y_a3 : Int} (e_a3 : a3.toInt = y_a3) {h : ms_M} (hM_h : Rg_M h) : Sm_ RV_ (f_J7_fill_fda19 nn a0 a1 a2 a3 (H_M h)) (qf_J7_fill_fda19 nn a0 y_a1 y_a2 y_a3 h) := by
  unfold f_J7_fill_fda19 qf_J7_fill_fda19
  refine sm_lnS hM_h ?_; intro v4 y_v4 e_v4
  refine sm_cN (sf_J7_rangeCheck_23922 nn e_v4 e_a1 e_a2 hM_h) ?_
  exact sw_J7_fill_fda19_10 nn nn _ e_a2 e_a3 e_a1 hM_h
set_option maxRecDepth 4000 in
theorem sj_X5_make_26 (nn : Nat) {h : ms_M} (hM_h : Rg_M h) : Sm_ RI_ (j_X5_make_26 nn 143 (H_M h)) (qj_X5_make_26 nn h) := by
  unfold j_X5_make_26 qj_X5_make_26
  refine sm_pv hM_h rfl rfl ?_; intro h1 hM_h1
  exact sm_rI rfl hM_h1
set_option maxRecDepth 4000 in
theorem sf_X5_make (nn : Nat) {a1 : Int32} {y_a1 : Int} (e_a1 : a1.toInt = y_a1) {a2 : Int32} {y_a2 : Int} (e_a2 : a2.toInt = y_a2) {h : ms_M} (hM_h : Rg_M h) : Sm_ RI_ (f_X5_make nn 143 a1 a2 (H_M h)) (qf_X5_make nn y_a1 y_a2 h) := by
  unfold f_X5_make qf_X5_make
  refine sm_gi hM_h rfl ?_; intro v2 e_v2
  refine sm_le rfl e_v2 ?_ ?_
  · exact sj_X5_make_26 nn hM_h
  · refine sm_lt e_a2 rfl ?_ ?_
    · exact sj_X5_make_26 nn hM_h
    · refine sm_gi hM_h rfl ?_; intro v3 e_v3
      refine sm_oq_sub rfl e_v3 ?_; intro v4 y_v4 e_v4
      refine sm_le e_a2 e_v4 ?_ ?_
      · refine sm_gi hM_h rfl ?_; intro v5 e_v5
        refine sm_oq_add e_v5 rfl ?_; intro v6 y_v6 e_v6
        refine sm_pv hM_h rfl e_v6 ?_; intro h7 hM_h7
        refine sm_gr hM_h7 (d := 145) rfl ?_
        refine sm_gi hM_h7 rfl ?_; intro v9 e_v9
        refine sm_si hM_h7 rfl e_v9 e_a1 ?_; intro h10 hM_h10
        refine sm_gr hM_h10 (d := 146) rfl ?_
        refine sm_gi hM_h10 rfl ?_; intro v12 e_v12
        refine sm_gi hM_h10 rfl ?_; intro v13 e_v13
        refine sm_si hM_h10 rfl e_v12 e_v13 ?_; intro h14 hM_h14
        refine sm_gr hM_h14 (d := 147) rfl ?_
        refine sm_gi hM_h14 rfl ?_; intro v16 e_v16
        refine sm_gi hM_h14 rfl ?_; intro v17 e_v17
        refine sm_oq_add e_v17 e_a2 ?_; intro v18 y_v18 e_v18
        refine sm_cV (sf_J7_fill_fda19 nn _ e_v16 e_v18 rfl hM_h14) ?_; intro u19 hM_u19
        refine sm_gi hM_u19 rfl ?_; intro v20 e_v20
        refine sm_oq_add e_v20 e_a2 ?_; intro v21 y_v21 e_v21
        refine sm_pv hM_u19 rfl e_v21 ?_; intro h22 hM_h22
        refine sm_gr hM_h22 (d := 146) rfl ?_
        refine sm_gi hM_h22 rfl ?_; intro v24 e_v24
        refine sm_oq_add e_v24 rfl ?_; intro v25 y_v25 e_v25
        refine sm_gi hM_h22 rfl ?_; intro v26 e_v26
        refine sm_si hM_h22 rfl e_v25 e_v26 ?_; intro h27 hM_h27
        refine sm_gi hM_h27 rfl ?_; intro v28 e_v28
        exact sm_rI e_v28 hM_h27
      · exact sj_X5_make_26 nn hM_h
set_option maxRecDepth 4000 in
theorem sj_X11_isArithmetic_158 (nn : Nat) {h : ms_M} (hM_h : Rg_M h) : Sm_ (RP_ h) (j_X11_isArithmetic_158 nn (H_M h)) (qj_X11_isArithmetic_158 nn h) := by
  unfold j_X11_isArithmetic_158 qj_X11_isArithmetic_158
  exact sm_rP rfl
set_option maxRecDepth 4000 in
theorem sj_X11_isArithmetic_156 (nn : Nat) {h : ms_M} (hM_h : Rg_M h) : Sm_ (RP_ h) (j_X11_isArithmetic_156 nn (H_M h)) (qj_X11_isArithmetic_156 nn h) := by
  unfold j_X11_isArithmetic_156 qj_X11_isArithmetic_156
  exact sm_rP rfl
set_option maxRecDepth 4000 in
theorem sf_X11_isArithmetic (nn : Nat) {a0 : Int32} {y_a0 : Int} (e_a0 : a0.toInt = y_a0) {h : ms_M} (hM_h : Rg_M h) : Sm_ (RP_ h) (f_X11_isArithmetic nn a0 (H_M h)) (qf_X11_isArithmetic nn y_a0 h) := by
  unfold f_X11_isArithmetic qf_X11_isArithmetic
  refine sm_eq e_a0 rfl ?_ ?_
  · exact sj_X11_isArithmetic_156 nn hM_h
  · refine sm_eq e_a0 rfl ?_ ?_
    · exact sj_X11_isArithmetic_156 nn hM_h
    · refine sm_eq e_a0 rfl ?_ ?_
      · exact sj_X11_isArithmetic_156 nn hM_h
      · refine sm_eq e_a0 rfl ?_ ?_
        · exact sj_X11_isArithmetic_156 nn hM_h
        · refine sm_eq e_a0 rfl ?_ ?_
          · exact sj_X11_isArithmetic_156 nn hM_h
          · refine sm_eq e_a0 rfl ?_ ?_
            · exact sj_X11_isArithmetic_156 nn hM_h
            · refine sm_eq e_a0 rfl ?_ ?_
              · exact sj_X11_isArithmetic_156 nn hM_h
              · refine sm_eq e_a0 rfl ?_ ?_
                · exact sj_X11_isArithmetic_156 nn hM_h
                · refine sm_eq e_a0 rfl ?_ ?_
                  · exact sj_X11_isArithmetic_156 nn hM_h
                  · refine sm_eq e_a0 rfl ?_ ?_
                    · exact sj_X11_isArithmetic_156 nn hM_h
                    · refine sm_eq e_a0 rfl ?_ ?_
                      · exact sj_X11_isArithmetic_156 nn hM_h
                      · exact sj_X11_isArithmetic_158 nn hM_h
set_option maxRecDepth 4000 in
theorem sf_X11_isJump (nn : Nat) {a0 : Int32} {y_a0 : Int} (e_a0 : a0.toInt = y_a0) {h : ms_M} (hM_h : Rg_M h) : Sm_ (RP_ h) (f_X11_isJump nn a0 (H_M h)) (qf_X11_isJump nn y_a0 h) := by
  unfold f_X11_isJump qf_X11_isJump
  refine sm_eq e_a0 rfl ?_ ?_
  · exact sm_rP rfl
  · refine sm_eq e_a0 rfl ?_ ?_
    · exact sm_rP rfl
    · refine sm_lt e_a0 rfl ?_ ?_
      · exact sm_rP rfl
      · refine sm_lt rfl e_a0 ?_ ?_
        · exact sm_rP rfl
        · exact sm_rP rfl
set_option maxRecDepth 4000 in
theorem sf_X5_goOn (nn : Nat) {a1 : Int32} {y_a1 : Int} (e_a1 : a1.toInt = y_a1) {h : ms_M} (hM_h : Rg_M h) : Sm_ RV_ (f_X5_goOn nn 143 a1 (H_M h)) (qf_X5_goOn nn y_a1 h) := by
  unfold f_X5_goOn qf_X5_goOn
  refine sm_gr hM_h (d := 149) rfl ?_
  refine sm_gi hM_h rfl ?_; intro v2 e_v2
  refine sm_ai hM_h rfl e_v2 ?_; intro v3 y_v3 e_v3
  refine sm_oq_add e_v3 e_a1 ?_; intro v4 y_v4 e_v4
  refine sm_si hM_h rfl e_v2 e_v4 ?_; intro h5 hM_h5
  exact sm_rV hM_h5
set_option maxRecDepth 4000 in
theorem sf_X5_push (nn : Nat) {a1 : Int32} {y_a1 : Int} (e_a1 : a1.toInt = y_a1) {h : ms_M} (hM_h : Rg_M h) : Sm_ RV_ (f_X5_push nn 143 a1 (H_M h)) (qf_X5_push nn y_a1 h) := by
  unfold f_X5_push qf_X5_push
  refine sm_gr hM_h (d := 150) rfl ?_
  refine sm_gi hM_h rfl ?_; intro v2 e_v2
  refine sm_ai hM_h rfl e_v2 ?_; intro v3 y_v3 e_v3
  refine sm_lt e_v3 rfl ?_ ?_
  · refine sm_gr hM_h (d := 152) rfl ?_
    refine sm_gi hM_h rfl ?_; intro v5 e_v5
    refine sm_oq_mul e_v5 rfl ?_; intro v6 y_v6 e_v6
    refine sm_oq_add e_v6 e_v3 ?_; intro v7 y_v7 e_v7
    refine sm_si hM_h rfl e_v7 e_a1 ?_; intro h8 hM_h8
    refine sm_gr hM_h8 (d := 150) rfl ?_
    refine sm_gi hM_h8 rfl ?_; intro v10 e_v10
    refine sm_oq_add e_v3 rfl ?_; intro v11 y_v11 e_v11
    refine sm_si hM_h8 rfl e_v10 e_v11 ?_; intro h12 hM_h12
    exact sm_rV hM_h12
  · refine sm_pv hM_h rfl rfl ?_; intro h13 hM_h13
    exact sm_rV hM_h13
set_option maxRecDepth 4000 in
theorem sf_X5_give (nn : Nat) {a1 : Int32} {y_a1 : Int} (e_a1 : a1.toInt = y_a1) {a2 : Int32} {y_a2 : Int} (e_a2 : a2.toInt = y_a2) {h : ms_M} (hM_h : Rg_M h) : Sm_ RV_ (f_X5_give nn 143 a1 a2 (H_M h)) (qf_X5_give nn y_a1 y_a2 h) := by
  unfold f_X5_give qf_X5_give
  refine sm_is hM_h rfl ?_
  refine sm_cV (sf_X5_push nn e_a1 hM_h) ?_; intro u2 hM_u2
  refine sm_is hM_u2 rfl ?_
  refine sm_cV (sf_X5_goOn nn e_a2 hM_u2) ?_; intro u4 hM_u4
  exact sm_rV hM_u4
set_option maxRecDepth 4000 in
theorem sf_X7_link (nn : Nat) {a1 : Int32} {y_a1 : Int} (e_a1 : a1.toInt = y_a1) {a2 : Int32} {y_a2 : Int} (e_a2 : a2.toInt = y_a2) {h : ms_M} (hM_h : Rg_M h) : Sm_ (RP_ h) (f_X7_link nn 56 a1 a2 (H_M h)) (qf_X7_link nn y_a1 y_a2 h) := by
  unfold f_X7_link qf_X7_link
  refine sm_lt e_a1 rfl ?_ ?_
  · exact sm_rP rfl
  · refine sm_le rfl e_a1 ?_ ?_
    · exact sm_rP rfl
    · refine sm_lt e_a2 rfl ?_ ?_
      · exact sm_rP rfl
      · refine sm_le rfl e_a2 ?_ ?_
        · exact sm_rP rfl
        · refine sm_gr hM_h (d := 68) rfl ?_
          refine sm_oq_mul e_a1 rfl ?_; intro v2 y_v2 e_v2
          refine sm_oq_add e_v2 e_a2 ?_; intro v3 y_v3 e_v3
          refine sm_ai hM_h rfl e_v3 ?_; intro v4 y_v4 e_v4
          exact sm_rP e_v4
set_option maxRecDepth 4000 in
theorem sf_X5_link (nn : Nat) {a1 : Int32} {y_a1 : Int} (e_a1 : a1.toInt = y_a1) {h : ms_M} (hM_h : Rg_M h) : Sm_ (RP_ h) (f_X5_link nn 143 a1 (H_M h)) (qf_X5_link nn y_a1 h) := by
  unfold f_X5_link qf_X5_link
  refine sm_gr hM_h (d := 56) rfl ?_
  refine sm_gr hM_h (d := 148) rfl ?_
  refine sm_gi hM_h rfl ?_; intro v3 e_v3
  refine sm_ai hM_h rfl e_v3 ?_; intro v4 y_v4 e_v4
  refine sm_div e_v4 ⟨rfl, by decide⟩ ?_; intro v5 y_v5 e_v5
  refine sm_is hM_h rfl ?_
  refine sm_cP (sf_X7_link nn e_v5 e_a1 hM_h) ?_; intro u7 y_u7 e_u7
  exact sm_rP e_u7
set_option maxRecDepth 4000 in
theorem sf_X5_pop (nn : Nat) {h : ms_M} (hM_h : Rg_M h) : Sm_ RI_ (f_X5_pop nn 143 (H_M h)) (qf_X5_pop nn h) := by
  unfold f_X5_pop qf_X5_pop
  refine sm_gr hM_h (d := 150) rfl ?_
  refine sm_gi hM_h rfl ?_; intro v2 e_v2
  refine sm_ai hM_h rfl e_v2 ?_; intro v3 y_v3 e_v3
  refine sm_oq_sub e_v3 rfl ?_; intro v4 y_v4 e_v4
  refine sm_le rfl e_v4 ?_ ?_
  · refine sm_gr hM_h (d := 150) rfl ?_
    refine sm_gi hM_h rfl ?_; intro v6 e_v6
    refine sm_si hM_h rfl e_v6 e_v4 ?_; intro h7 hM_h7
    refine sm_gr hM_h7 (d := 152) rfl ?_
    refine sm_gi hM_h7 rfl ?_; intro v9 e_v9
    refine sm_oq_mul e_v9 rfl ?_; intro v10 y_v10 e_v10
    refine sm_oq_add e_v10 e_v4 ?_; intro v11 y_v11 e_v11
    refine sm_ai hM_h7 rfl e_v11 ?_; intro v12 y_v12 e_v12
    exact sm_rI e_v12 hM_h7
  · refine sm_pv hM_h rfl rfl ?_; intro h13 hM_h13
    exact sm_rI rfl hM_h13
set_option maxRecDepth 4000 in
theorem sj_X5_computed_204 (nn : Nat) {l1 : Int32} {y_l1 : Int} (e_l1 : l1.toInt = y_l1) {l2 : Int32} {y_l2 : Int} (e_l2 : l2.toInt = y_l2) {h : ms_M} (hM_h : Rg_M h) : Sm_ (RP_ h) (j_X5_computed_204 nn l1 l2 (H_M h)) (qj_X5_computed_204 nn y_l1 y_l2 h) := by
  unfold j_X5_computed_204 qj_X5_computed_204
  refine sm_oq_xor e_l1 e_l2 ?_; intro v1 y_v1 e_v1
  exact sm_rP e_v1
set_option maxRecDepth 4000 in
theorem sf_X5_computed (nn : Nat) {a0 : Int32} {y_a0 : Int} (e_a0 : a0.toInt = y_a0) {a1 : Int32} {y_a1 : Int} (e_a1 : a1.toInt = y_a1) {a2 : Int32} {y_a2 : Int} (e_a2 : a2.toInt = y_a2) {h : ms_M} (hM_h : Rg_M h) : Sm_ (RP_ h) (f_X5_computed nn a0 a1 a2 (H_M h)) (qf_X5_computed nn y_a0 y_a1 y_a2 h) := by
  unfold f_X5_computed qf_X5_computed
  refine sm_eq e_a0 rfl ?_ ?_
  · refine sm_oq_add e_a1 e_a2 ?_; intro v2 y_v2 e_v2
    exact sm_rP e_v2
  · refine sm_eq e_a0 rfl ?_ ?_
    · refine sm_oq_sub e_a1 e_a2 ?_; intro v3 y_v3 e_v3
      exact sm_rP e_v3
    · refine sm_eq e_a0 rfl ?_ ?_
      · refine sm_oq_mul e_a1 e_a2 ?_; intro v4 y_v4 e_v4
        exact sm_rP e_v4
      · refine sm_eq e_a0 rfl ?_ ?_
        · refine sm_ne e_a2 rfl ?_ ?_
          · refine sm_eq e_a2 rfl ?_ ?_
            · exact sm_no
            · refine sm_oq_div e_a1 e_a2 ?_; intro v5 y_v5 e_v5
              exact sm_rP e_v5
          · exact sm_rP rfl
        · refine sm_eq e_a0 rfl ?_ ?_
          · refine sm_ne e_a2 rfl ?_ ?_
            · refine sm_eq e_a2 rfl ?_ ?_
              · exact sm_no
              · refine sm_oq_rem e_a1 e_a2 ?_; intro v7 y_v7 e_v7
                exact sm_rP e_v7
            · exact sm_rP rfl
          · refine sm_eq e_a0 rfl ?_ ?_
            · refine sm_oq_shl e_a1 e_a2 ?_; intro v9 y_v9 e_v9
              exact sm_rP e_v9
            · refine sm_eq e_a0 rfl ?_ ?_
              · refine sm_oq_shr e_a1 e_a2 ?_; intro v10 y_v10 e_v10
                exact sm_rP e_v10
              · refine sm_eq e_a0 rfl ?_ ?_
                · refine sm_oq_ushr e_a1 e_a2 ?_; intro v11 y_v11 e_v11
                  exact sm_rP e_v11
                · refine sm_eq e_a0 rfl ?_ ?_
                  · refine sm_oq_and e_a1 e_a2 ?_; intro v12 y_v12 e_v12
                    exact sm_rP e_v12
                  · refine sm_eq e_a0 rfl ?_ ?_
                    · refine sm_oq_or e_a1 e_a2 ?_; intro v13 y_v13 e_v13
                      exact sm_rP e_v13
                    · exact sj_X5_computed_204 nn e_a1 e_a2 hM_h
set_option maxRecDepth 4000 in
theorem sj_X5_stepArithmetic_35 (nn : Nat) {l1 : Int32} {y_l1 : Int} (e_l1 : l1.toInt = y_l1) {l2 : Int32} {y_l2 : Int} (e_l2 : l2.toInt = y_l2) {l3 : Int32} {y_l3 : Int} (e_l3 : l3.toInt = y_l3) {h : ms_M} (hM_h : Rg_M h) : Sm_ RV_ (j_X5_stepArithmetic_35 nn 143 l1 l2 l3 (H_M h)) (qj_X5_stepArithmetic_35 nn y_l1 y_l2 y_l3 h) := by
  unfold j_X5_stepArithmetic_35 qj_X5_stepArithmetic_35
  refine sm_cP (sf_X5_computed nn e_l1 e_l3 e_l2 hM_h) ?_; intro u1 y_u1 e_u1
  refine sm_is hM_h rfl ?_
  refine sm_cV (sf_X5_give nn e_u1 rfl hM_h) ?_; intro u3 hM_u3
  exact sm_rV hM_u3
set_option maxRecDepth 4000 in
theorem sj_X5_stepArithmetic_26 (nn : Nat) {h : ms_M} (hM_h : Rg_M h) : Sm_ RV_ (j_X5_stepArithmetic_26 nn 143 (H_M h)) (qj_X5_stepArithmetic_26 nn h) := by
  unfold j_X5_stepArithmetic_26 qj_X5_stepArithmetic_26
  refine sm_pv hM_h rfl rfl ?_; intro h4 hM_h4
  exact sm_rV hM_h4
set_option maxRecDepth 4000 in
theorem sf_X5_stepArithmetic (nn : Nat) {a1 : Int32} {y_a1 : Int} (e_a1 : a1.toInt = y_a1) {h : ms_M} (hM_h : Rg_M h) : Sm_ RV_ (f_X5_stepArithmetic nn 143 a1 (H_M h)) (qf_X5_stepArithmetic nn y_a1 h) := by
  unfold f_X5_stepArithmetic qf_X5_stepArithmetic
  refine sm_is hM_h rfl ?_
  refine sm_cI (sf_X5_pop nn hM_h) ?_; intro u6 y_u6 M_u6 e_u6 hM_u6
  refine sm_is hM_u6 rfl ?_
  refine sm_cI (sf_X5_pop nn hM_u6) ?_; intro u8 y_u8 M_u8 e_u8 hM_u8
  refine sm_ne e_u6 rfl ?_ ?_
  · exact sj_X5_stepArithmetic_35 nn e_a1 e_u6 e_u8 hM_u8
  · refine sm_eq e_a1 rfl ?_ ?_
    · exact sj_X5_stepArithmetic_26 nn hM_u8
    · refine sm_ne e_a1 rfl ?_ ?_
      · exact sj_X5_stepArithmetic_35 nn e_a1 e_u6 e_u8 hM_u8
      · exact sj_X5_stepArithmetic_26 nn hM_u8
set_option maxRecDepth 4000 in
theorem sf_X3_pairAt (nn : Nat) (a0 : Nat) (hb_a0 : kc_O a0 = 3) {a1 : Int32} {y_a1 : Int} (e_a1 : a1.toInt = y_a1) {h : ms_M} (hM_h : Rg_M h) : Sm_ (RP_ h) (f_X3_pairAt nn a0 a1 (H_M h)) (qf_X3_pairAt nn a0 y_a1 h) := by
  unfold f_X3_pairAt qf_X3_pairAt
  refine sm_isK hM_h hb_a0 ?_
  refine sm_cP (sf_X3_byteAt nn _ hb_a0 e_a1 hM_h) ?_; intro u2 y_u2 e_u2
  refine sm_oq_shl e_u2 rfl ?_; intro v3 y_v3 e_v3
  refine sm_oq_add e_a1 rfl ?_; intro v4 y_v4 e_v4
  refine sm_isK hM_h hb_a0 ?_
  refine sm_cP (sf_X3_byteAt nn _ hb_a0 e_v4 hM_h) ?_; intro u6 y_u6 e_u6
  refine sm_oq_or e_v3 e_u6 ?_; intro v7 y_v7 e_v7
  exact sm_rP e_v7
set_option maxRecDepth 4000 in
theorem sj_X5_compares_103 (nn : Nat) {l1 : Int32} {y_l1 : Int} (e_l1 : l1.toInt = y_l1) {l2 : Int32} {y_l2 : Int} (e_l2 : l2.toInt = y_l2) {h : ms_M} (hM_h : Rg_M h) : Sm_ (RP_ h) (j_X5_compares_103 nn l1 l2 (H_M h)) (qj_X5_compares_103 nn y_l1 y_l2 h) := by
  unfold j_X5_compares_103 qj_X5_compares_103
  refine sm_lt e_l2 e_l1 ?_ ?_
  · exact sm_rP rfl
  · exact sm_rP rfl
set_option maxRecDepth 4000 in
theorem sj_X5_compares_59 (nn : Nat) {l1 : Int32} {y_l1 : Int} (e_l1 : l1.toInt = y_l1) {l2 : Int32} {y_l2 : Int} (e_l2 : l2.toInt = y_l2) {h : ms_M} (hM_h : Rg_M h) : Sm_ (RP_ h) (j_X5_compares_59 nn l1 l2 (H_M h)) (qj_X5_compares_59 nn y_l1 y_l2 h) := by
  unfold j_X5_compares_59 qj_X5_compares_59
  refine sm_eq e_l1 e_l2 ?_ ?_
  · exact sm_rP rfl
  · exact sm_rP rfl
set_option maxRecDepth 4000 in
theorem sj_X5_compares_48 (nn : Nat) {l1 : Int32} {y_l1 : Int} (e_l1 : l1.toInt = y_l1) {l2 : Int32} {y_l2 : Int} (e_l2 : l2.toInt = y_l2) {h : ms_M} (hM_h : Rg_M h) : Sm_ (RP_ h) (j_X5_compares_48 nn l1 l2 (H_M h)) (qj_X5_compares_48 nn y_l1 y_l2 h) := by
  unfold j_X5_compares_48 qj_X5_compares_48
  refine sm_ne e_l1 e_l2 ?_ ?_
  · exact sm_rP rfl
  · exact sm_rP rfl
set_option maxRecDepth 4000 in
theorem sf_X5_compares (nn : Nat) {a0 : Int32} {y_a0 : Int} (e_a0 : a0.toInt = y_a0) {a1 : Int32} {y_a1 : Int} (e_a1 : a1.toInt = y_a1) {a2 : Int32} {y_a2 : Int} (e_a2 : a2.toInt = y_a2) {h : ms_M} (hM_h : Rg_M h) : Sm_ (RP_ h) (f_X5_compares nn a0 a1 a2 (H_M h)) (qf_X5_compares nn y_a0 y_a1 y_a2 h) := by
  unfold f_X5_compares qf_X5_compares
  refine sm_eq e_a0 rfl ?_ ?_
  · exact sj_X5_compares_48 nn e_a1 e_a2 hM_h
  · refine sm_eq e_a0 rfl ?_ ?_
    · exact sj_X5_compares_59 nn e_a1 e_a2 hM_h
    · refine sm_eq e_a0 rfl ?_ ?_
      · refine sm_le e_a2 e_a1 ?_ ?_
        · exact sm_rP rfl
        · exact sm_rP rfl
      · refine sm_eq e_a0 rfl ?_ ?_
        · refine sm_lt e_a1 e_a2 ?_ ?_
          · exact sm_rP rfl
          · exact sm_rP rfl
        · refine sm_eq e_a0 rfl ?_ ?_
          · refine sm_le e_a1 e_a2 ?_ ?_
            · exact sm_rP rfl
            · exact sm_rP rfl
          · refine sm_eq e_a0 rfl ?_ ?_
            · exact sj_X5_compares_48 nn e_a1 e_a2 hM_h
            · refine sm_eq e_a0 rfl ?_ ?_
              · exact sj_X5_compares_59 nn e_a1 e_a2 hM_h
              · exact sj_X5_compares_103 nn e_a1 e_a2 hM_h
set_option maxRecDepth 4000 in
theorem sj_X5_stepJump_76 (nn : Nat) {l2 : Int32} {y_l2 : Int} (e_l2 : l2.toInt = y_l2) {l3 : Int32} {y_l3 : Int} (e_l3 : l3.toInt = y_l3) {h : ms_M} (hM_h : Rg_M h) : Sm_ RV_ (j_X5_stepJump_76 nn 143 l2 l3 (H_M h)) (qj_X5_stepJump_76 nn y_l2 y_l3 h) := by
  unfold j_X5_stepJump_76 qj_X5_stepJump_76
  refine sm_eq e_l3 rfl ?_ ?_
  · refine sm_is hM_h rfl ?_
    refine sm_cV (sf_X5_goOn nn rfl hM_h) ?_; intro u2 hM_u2
    exact sm_rV hM_u2
  · refine sm_gm hM_h rfl ?_
    refine sm_gi hM_h rfl ?_; intro v4 e_v4
    refine sm_oq_add e_v4 e_l2 ?_; intro v5 y_v5 e_v5
    refine sm_oq_add e_v5 rfl ?_; intro v6 y_v6 e_v6
    refine sm_isS hM_h ?_; intro hb1
    refine sm_cP (sf_X3_pairAt nn _ hb1 e_v6 hM_h) ?_; intro u8 y_u8 e_u8
    refine sm_oq_s e_u8 ?_; intro v9 y_v9 e_v9
    refine sm_is hM_h rfl ?_
    refine sm_cV (sf_X5_goOn nn e_v9 hM_h) ?_; intro u11 hM_u11
    exact sm_rV hM_u11
set_option maxRecDepth 4000 in
theorem sj_X5_stepJump_44 (nn : Nat) {l2 : Int32} {y_l2 : Int} (e_l2 : l2.toInt = y_l2) {s0 : Int32} {y_s0 : Int} (e_s0 : s0.toInt = y_s0) {h : ms_M} (hM_h : Rg_M h) : Sm_ RV_ (j_X5_stepJump_44 nn 143 l2 s0 (H_M h)) (qj_X5_stepJump_44 nn y_l2 y_s0 h) := by
  unfold j_X5_stepJump_44 qj_X5_stepJump_44
  exact sj_X5_stepJump_76 nn e_l2 e_s0 hM_h
set_option maxRecDepth 4000 in
theorem sj_X5_stepJump_21 (nn : Nat) {l2 : Int32} {y_l2 : Int} (e_l2 : l2.toInt = y_l2) {s0 : Int32} {y_s0 : Int} (e_s0 : s0.toInt = y_s0) {h : ms_M} (hM_h : Rg_M h) : Sm_ RV_ (j_X5_stepJump_21 nn 143 l2 s0 (H_M h)) (qj_X5_stepJump_21 nn y_l2 y_s0 h) := by
  unfold j_X5_stepJump_21 qj_X5_stepJump_21
  exact sj_X5_stepJump_76 nn e_l2 e_s0 hM_h
set_option maxRecDepth 4000 in
theorem sf_X5_stepJump (nn : Nat) {a1 : Int32} {y_a1 : Int} (e_a1 : a1.toInt = y_a1) {a2 : Int32} {y_a2 : Int} (e_a2 : a2.toInt = y_a2) {h : ms_M} (hM_h : Rg_M h) : Sm_ RV_ (f_X5_stepJump nn 143 a1 a2 (H_M h)) (qf_X5_stepJump nn y_a1 y_a2 h) := by
  unfold f_X5_stepJump qf_X5_stepJump
  refine sm_ne e_a1 rfl ?_ ?_
  · refine sm_ne e_a1 rfl ?_ ?_
    · refine sm_eq e_a1 rfl ?_ ?_
      · exact sj_X5_stepJump_76 nn e_a2 rfl hM_h
      · refine sm_is hM_h rfl ?_
        refine sm_cI (sf_X5_pop nn hM_h) ?_; intro u14 y_u14 M_u14 e_u14 hM_u14
        refine sm_is hM_u14 rfl ?_
        refine sm_cI (sf_X5_pop nn hM_u14) ?_; intro u16 y_u16 M_u16 e_u16 hM_u16
        refine sm_cP (sf_X5_compares nn e_a1 e_u16 e_u14 hM_u16) ?_; intro u17 y_u17 e_u17
        exact sj_X5_stepJump_76 nn e_a2 e_u17 hM_u16
    · refine sm_is hM_h rfl ?_
      refine sm_cI (sf_X5_pop nn hM_h) ?_; intro u20 y_u20 M_u20 e_u20 hM_u20
      refine sm_eq e_u20 rfl ?_ ?_
      · exact sj_X5_stepJump_44 nn e_a2 rfl hM_u20
      · exact sj_X5_stepJump_44 nn e_a2 rfl hM_u20
  · refine sm_is hM_h rfl ?_
    refine sm_cI (sf_X5_pop nn hM_h) ?_; intro u24 y_u24 M_u24 e_u24 hM_u24
    refine sm_ne e_u24 rfl ?_ ?_
    · exact sj_X5_stepJump_21 nn e_a2 rfl hM_u24
    · exact sj_X5_stepJump_21 nn e_a2 rfl hM_u24
set_option maxRecDepth 4000 in
theorem sj_X5_stepLocal_37 (nn : Nat) {l3 : Int32} {y_l3 : Int} (e_l3 : l3.toInt = y_l3) {h : ms_M} (hM_h : Rg_M h) : Sm_ RV_ (j_X5_stepLocal_37 nn 143 l3 (H_M h)) (qj_X5_stepLocal_37 nn y_l3 h) := by
  unfold j_X5_stepLocal_37 qj_X5_stepLocal_37
  refine sm_gr hM_h (d := 151) rfl ?_
  refine sm_ai hM_h rfl e_l3 ?_; intro v2 y_v2 e_v2
  refine sm_is hM_h rfl ?_
  refine sm_cV (sf_X5_give nn e_v2 rfl hM_h) ?_; intro u4 hM_u4
  exact sm_rV hM_u4
set_option maxRecDepth 4000 in
theorem sf_X5_stepLocal (nn : Nat) {a1 : Int32} {y_a1 : Int} (e_a1 : a1.toInt = y_a1) {a2 : Int32} {y_a2 : Int} (e_a2 : a2.toInt = y_a2) {h : ms_M} (hM_h : Rg_M h) : Sm_ RV_ (f_X5_stepLocal nn 143 a1 a2 (H_M h)) (qf_X5_stepLocal nn y_a1 y_a2 h) := by
  unfold f_X5_stepLocal qf_X5_stepLocal
  refine sm_gi hM_h rfl ?_; intro v5 e_v5
  refine sm_oq_mul e_v5 rfl ?_; intro v6 y_v6 e_v6
  refine sm_oq_add e_v6 e_a2 ?_; intro v7 y_v7 e_v7
  refine sm_lt e_a2 rfl ?_ ?_
  · refine sm_eq e_a1 rfl ?_ ?_
    · exact sj_X5_stepLocal_37 nn e_v7 hM_h
    · refine sm_ne e_a1 rfl ?_ ?_
      · refine sm_gr hM_h (d := 151) rfl ?_
        refine sm_is hM_h rfl ?_
        refine sm_cI (sf_X5_pop nn hM_h) ?_; intro u10 y_u10 M_u10 e_u10 hM_u10
        refine sm_si hM_u10 rfl e_v7 e_u10 ?_; intro h11 hM_h11
        refine sm_is hM_h11 rfl ?_
        refine sm_cV (sf_X5_goOn nn rfl hM_h11) ?_; intro u13 hM_u13
        exact sm_rV hM_u13
      · exact sj_X5_stepLocal_37 nn e_v7 hM_h
  · refine sm_pv hM_h rfl rfl ?_; intro h16 hM_h16
    exact sm_rV hM_h16
set_option maxRecDepth 4000 in
theorem sf_X5_giveNew (nn : Nat) {a1 : Int32} {y_a1 : Int} (e_a1 : a1.toInt = y_a1) {a2 : Int32} {y_a2 : Int} (e_a2 : a2.toInt = y_a2) {h : ms_M} (hM_h : Rg_M h) : Sm_ RV_ (f_X5_giveNew nn 143 a1 a2 (H_M h)) (qf_X5_giveNew nn y_a1 y_a2 h) := by
  unfold f_X5_giveNew qf_X5_giveNew
  refine sm_is hM_h rfl ?_
  refine sm_cI (sf_X5_make nn e_a1 e_a2 hM_h) ?_; intro u2 y_u2 M_u2 e_u2 hM_u2
  refine sm_eq e_u2 rfl ?_ ?_
  · exact sm_rV hM_u2
  · refine sm_is hM_u2 rfl ?_
    refine sm_cV (sf_X5_give nn e_u2 rfl hM_u2) ?_; intro u4 hM_u4
    exact sm_rV hM_u4
set_option maxRecDepth 4000 in
theorem sf_X3_of (nn : Nat) (a0 : Nat) (hb_a0 : kc_O a0 = 3) {a1 : Int32} {y_a1 : Int} (e_a1 : a1.toInt = y_a1) {a2 : Int32} {y_a2 : Int} (e_a2 : a2.toInt = y_a2) {h : ms_M} (hM_h : Rg_M h) : Sm_ (RP_ h) (f_X3_of nn a0 a1 a2 (H_M h)) (qf_X3_of nn a0 y_a1 y_a2 h) := by
  unfold f_X3_of qf_X3_of
  refine sm_oq_mul e_a1 rfl ?_; intro v1 y_v1 e_v1
  refine sm_oq_add e_v1 e_a2 ?_; intro v2 y_v2 e_v2
  refine sm_lt e_a1 rfl ?_ ?_
  · exact sm_rP rfl
  · refine sm_giI hM_h hb_a0 rfl ?_; intro v3 e_v3
    refine sm_le e_v3 e_a1 ?_ ?_
    · exact sm_rP rfl
    · refine sm_grI hM_h hb_a0 (off := 6) rfl ?_
      refine sm_lnI hM_h hb_a0 (z := 144) rfl ?_; intro v5 e_v5
      refine sm_le e_v5 e_v2 ?_ ?_
      · exact sm_rP rfl
      · refine sm_grI hM_h hb_a0 (off := 6) rfl ?_
        refine sm_aiI hM_h hb_a0 rfl e_v2 ?_; intro v7 y_v7 e_v7
        exact sm_rP e_v7
set_option maxRecDepth 4000 in
theorem sf_X7_imageOfMember (nn : Nat) {a1 : Int32} {y_a1 : Int} (e_a1 : a1.toInt = y_a1) {h : ms_M} (hM_h : Rg_M h) : Sm_ (RQ_ h) (f_X7_imageOfMember nn 56 a1 (H_M h)) (qf_X7_imageOfMember nn y_a1 h) := by
  unfold f_X7_imageOfMember qf_X7_imageOfMember
  refine sm_lt e_a1 rfl ?_ ?_
  · exact sm_rQn
  · refine sm_gi hM_h rfl ?_; intro v1 e_v1
    refine sm_oq_mul e_v1 rfl ?_; intro v2 y_v2 e_v2
    refine sm_le e_v2 e_a1 ?_ ?_
    · exact sm_rQn
    · refine sm_gr hM_h (d := 60) rfl ?_
      refine sm_div e_a1 ⟨rfl, by decide⟩ ?_; intro v4 y_v4 e_v4
      refine sm_aq hM_h rfl e_v4 ?_; intro y_v5
      exact sm_rQo
set_option maxRecDepth 4000 in
theorem sf_X5_takeTop (nn : Nat) {h : ms_M} (hM_h : Rg_M h) : Sm_ RV_ (f_X5_takeTop nn 143 (H_M h)) (qf_X5_takeTop nn h) := by
  unfold f_X5_takeTop qf_X5_takeTop
  refine sm_gi hM_h rfl ?_; intro v1 e_v1
  refine sm_oq_sub e_v1 rfl ?_; intro v2 y_v2 e_v2
  refine sm_ite rfl e_v2 e_v2 rfl ?_; intro v3 y_v3 e_v3
  refine sm_pv hM_h rfl e_v3 ?_; intro h4 hM_h4
  refine sm_gr hM_h4 (d := 56) rfl ?_
  refine sm_gr hM_h4 (d := 148) rfl ?_
  refine sm_gi hM_h4 rfl ?_; intro v7 e_v7
  refine sm_ai hM_h4 rfl e_v7 ?_; intro v8 y_v8 e_v8
  refine sm_is hM_h4 rfl ?_
  refine sm_cQ (sf_X7_imageOfMember nn e_v8 hM_h4) ?_; intro y_u10
  refine sm_oc ?_ ?_
  · refine sm_pv hM_h4 rfl rfl ?_; intro h13 hM_h13
    exact sm_rV hM_h13
  · refine sm_pr hM_h4 rfl ?_; intro h14 hM_h14
    refine sm_gm hM_h14 rfl ?_
    refine sm_gr hM_h14 (d := 148) rfl ?_
    refine sm_gi hM_h14 rfl ?_; intro v17 e_v17
    refine sm_ai hM_h14 rfl e_v17 ?_; intro v18 y_v18 e_v18
    refine sm_rem e_v18 ⟨rfl, by decide⟩ ?_; intro v19 y_v19 e_v19
    refine sm_isS hM_h14 ?_; intro hb1
    refine sm_cP (sf_X3_of nn _ hb1 e_v19 rfl hM_h14) ?_; intro u21 y_u21 e_u21
    refine sm_pv hM_h14 rfl e_u21 ?_; intro h22 hM_h22
    exact sm_rV hM_h22
set_option maxRecDepth 4000 in
theorem sf_X5_beginMethod (nn : Nat) {a1 : Int32} {y_a1 : Int} (e_a1 : a1.toInt = y_a1) {a2 : Int32} {y_a2 : Int} (e_a2 : a2.toInt = y_a2) {a3 : Int32} {y_a3 : Int} (e_a3 : a3.toInt = y_a3) {h : ms_M} (hM_h : Rg_M h) : Sm_ RV_ (f_X5_beginMethod nn 143 a1 a2 a3 (H_M h)) (qf_X5_beginMethod nn y_a1 y_a2 y_a3 h) := by
  unfold f_X5_beginMethod qf_X5_beginMethod
  refine sm_gi hM_h rfl ?_; intro v1 e_v1
  refine sm_lt e_v1 rfl ?_ ?_
  · refine sm_gi hM_h rfl ?_; intro v2 e_v2
    refine sm_oq_mul e_v2 rfl ?_; intro v3 y_v3 e_v3
    refine sm_gr hM_h (d := 151) rfl ?_
    refine sm_oq_add e_v3 rfl ?_; intro v5 y_v5 e_v5
    refine sm_cV (sf_J7_fill_fda19 nn _ e_v3 e_v5 rfl hM_h) ?_; intro u6 hM_u6
    refine sm_gr hM_u6 (d := 152) rfl ?_
    refine sm_gr hM_u6 (d := 151) rfl ?_
    refine sm_cp hM_u6 e_a2 e_v3 e_a3 ?_; intro h9 hM_h9
    refine sm_gr hM_h9 (d := 148) rfl ?_
    refine sm_gi hM_h9 rfl ?_; intro v11 e_v11
    refine sm_si hM_h9 rfl e_v11 e_a1 ?_; intro h12 hM_h12
    refine sm_gr hM_h12 (d := 149) rfl ?_
    refine sm_gi hM_h12 rfl ?_; intro v14 e_v14
    refine sm_si hM_h12 rfl e_v14 rfl ?_; intro h15 hM_h15
    refine sm_gr hM_h15 (d := 150) rfl ?_
    refine sm_gi hM_h15 rfl ?_; intro v17 e_v17
    refine sm_si hM_h15 rfl e_v17 rfl ?_; intro h18 hM_h18
    refine sm_gi hM_h18 rfl ?_; intro v19 e_v19
    refine sm_oq_add e_v19 rfl ?_; intro v20 y_v20 e_v20
    refine sm_pv hM_h18 rfl e_v20 ?_; intro h21 hM_h21
    refine sm_is hM_h21 rfl ?_
    refine sm_cV (sf_X5_takeTop nn hM_h21) ?_; intro u23 hM_u23
    exact sm_rV hM_u23
  · refine sm_pv hM_h rfl rfl ?_; intro h24 hM_h24
    exact sm_rV hM_h24
set_option maxRecDepth 4000 in
theorem sf_X5_isObject (nn : Nat) {a1 : Int32} {y_a1 : Int} (e_a1 : a1.toInt = y_a1) {h : ms_M} (hM_h : Rg_M h) : Sm_ (RP_ h) (f_X5_isObject nn 143 a1 (H_M h)) (qf_X5_isObject nn y_a1 h) := by
  unfold f_X5_isObject qf_X5_isObject
  refine sm_le e_a1 rfl ?_ ?_
  · exact sm_rP rfl
  · refine sm_gi hM_h rfl ?_; intro v1 e_v1
    refine sm_lt e_v1 e_a1 ?_ ?_
    · exact sm_rP rfl
    · refine sm_lt rfl e_a1 ?_ ?_
      · exact sm_rP rfl
      · exact sm_rP rfl
set_option maxRecDepth 4000 in
theorem sf_X7_nearestTo (nn : Nat) {a1 : Int32} {y_a1 : Int} (e_a1 : a1.toInt = y_a1) {a2 : Int32} {y_a2 : Int} (e_a2 : a2.toInt = y_a2) {h : ms_M} (hM_h : Rg_M h) : Sm_ (RP_ h) (f_X7_nearestTo nn 56 a1 a2 (H_M h)) (qf_X7_nearestTo nn y_a1 y_a2 h) := by
  unfold f_X7_nearestTo qf_X7_nearestTo
  refine sm_oq_sub e_a1 rfl ?_; intro v1 y_v1 e_v1
  refine sm_lt e_v1 rfl ?_ ?_
  · exact sm_rP rfl
  · refine sm_le rfl e_v1 ?_ ?_
    · exact sm_rP rfl
    · refine sm_lt e_a2 rfl ?_ ?_
      · exact sm_rP rfl
      · refine sm_le rfl e_a2 ?_ ?_
        · exact sm_rP rfl
        · refine sm_gr hM_h (d := 70) rfl ?_
          refine sm_oq_mul e_v1 rfl ?_; intro v3 y_v3 e_v3
          refine sm_oq_add e_v3 e_a2 ?_; intro v4 y_v4 e_v4
          refine sm_ai hM_h rfl e_v4 ?_; intro v5 y_v5 e_v5
          exact sm_rP e_v5
set_option maxRecDepth 4000 in
theorem sj_X5_stepCall_136 (nn : Nat) {l3 : Int32} {y_l3 : Int} (e_l3 : l3.toInt = y_l3) {l5 : Int32} {y_l5 : Int} (e_l5 : l5.toInt = y_l5) {l6 : Int32} {y_l6 : Int} (e_l6 : l6.toInt = y_l6) {h : ms_M} (hM_h : Rg_M h) : Sm_ RV_ (j_X5_stepCall_136 nn 143 l3 l5 l6 (H_M h)) (qj_X5_stepCall_136 nn y_l3 y_l5 y_l6 h) := by
  unfold j_X5_stepCall_136 qj_X5_stepCall_136
  refine sm_gr hM_h (d := 150) rfl ?_
  refine sm_gi hM_h rfl ?_; intro v2 e_v2
  refine sm_si hM_h rfl e_v2 e_l6 ?_; intro h3 hM_h3
  refine sm_gi hM_h3 rfl ?_; intro v4 e_v4
  refine sm_oq_mul e_v4 rfl ?_; intro v5 y_v5 e_v5
  refine sm_oq_add e_v5 e_l6 ?_; intro v6 y_v6 e_v6
  refine sm_is hM_h3 rfl ?_
  refine sm_cV (sf_X5_beginMethod nn e_l3 e_v6 e_l5 hM_h3) ?_; intro u8 hM_u8
  exact sm_rV hM_u8
set_option maxRecDepth 4000 in
theorem sj_X5_stepCall_51 (nn : Nat) {l1 : Int32} {y_l1 : Int} (e_l1 : l1.toInt = y_l1) {l3 : Int32} {y_l3 : Int} (e_l3 : l3.toInt = y_l3) {s0 : Int32} {y_s0 : Int} (e_s0 : s0.toInt = y_s0) {s1 : Int32} {y_s1 : Int} (e_s1 : s1.toInt = y_s1) {h : ms_M} (hM_h : Rg_M h) : Sm_ RV_ (j_X5_stepCall_51 nn 143 l1 l3 s0 s1 (H_M h)) (qj_X5_stepCall_51 nn y_l1 y_l3 y_s0 y_s1 h) := by
  unfold j_X5_stepCall_51 qj_X5_stepCall_51
  refine sm_oq_add e_s1 e_s0 ?_; intro v9 y_v9 e_v9
  refine sm_gr hM_h (d := 150) rfl ?_
  refine sm_gi hM_h rfl ?_; intro v11 e_v11
  refine sm_ai hM_h rfl e_v11 ?_; intro v12 y_v12 e_v12
  refine sm_oq_sub e_v12 e_v9 ?_; intro v13 y_v13 e_v13
  refine sm_le rfl e_v13 ?_ ?_
  · refine sm_ne e_l1 rfl ?_ ?_
    · exact sj_X5_stepCall_136 nn e_l3 e_v9 e_v13 hM_h
    · refine sm_gr hM_h (d := 152) rfl ?_
      refine sm_gi hM_h rfl ?_; intro v15 e_v15
      refine sm_oq_mul e_v15 rfl ?_; intro v16 y_v16 e_v16
      refine sm_oq_add e_v16 e_v13 ?_; intro v17 y_v17 e_v17
      refine sm_ai hM_h rfl e_v17 ?_; intro v18 y_v18 e_v18
      refine sm_is hM_h rfl ?_
      refine sm_cP (sf_X5_isObject nn e_v18 hM_h) ?_; intro u20 y_u20 e_u20
      refine sm_ne e_u20 rfl ?_ ?_
      · refine sm_gr hM_h (d := 56) rfl ?_
        refine sm_gr hM_h (d := 145) rfl ?_
        refine sm_ai hM_h rfl e_v18 ?_; intro v23 y_v23 e_v23
        refine sm_is hM_h rfl ?_
        refine sm_cP (sf_X7_nearestTo nn e_v23 e_l3 hM_h) ?_; intro u25 y_u25 e_u25
        exact sj_X5_stepCall_136 nn e_u25 e_v9 e_v13 hM_h
      · refine sm_pv hM_h rfl rfl ?_; intro h26 hM_h26
        exact sm_rV hM_h26
  · refine sm_pv hM_h rfl rfl ?_; intro h29 hM_h29
    exact sm_rV hM_h29
set_option maxRecDepth 4000 in
theorem sf_X5_stepCall (nn : Nat) {a1 : Int32} {y_a1 : Int} (e_a1 : a1.toInt = y_a1) {a2 : Int32} {y_a2 : Int} (e_a2 : a2.toInt = y_a2) {h : ms_M} (hM_h : Rg_M h) : Sm_ RV_ (f_X5_stepCall nn 143 a1 a2 (H_M h)) (qf_X5_stepCall nn y_a1 y_a2 h) := by
  unfold f_X5_stepCall qf_X5_stepCall
  refine sm_is hM_h rfl ?_
  refine sm_cP (sf_X5_link nn e_a2 hM_h) ?_; intro u32 y_u32 e_u32
  refine sm_gr hM_h (d := 56) rfl ?_
  refine sm_is hM_h rfl ?_
  refine sm_cQ (sf_X7_imageOfMember nn e_u32 hM_h) ?_; intro y_u35
  refine sm_oc ?_ ?_
  · refine sm_pv hM_h rfl rfl ?_; intro h38 hM_h38
    exact sm_rV hM_h38
  · refine sm_rem e_u32 ⟨rfl, by decide⟩ ?_; intro v39 y_v39 e_v39
    refine sm_isS hM_h ?_; intro hb1
    refine sm_cP (sf_X3_of nn _ hb1 e_v39 rfl hM_h) ?_; intro u41 y_u41 e_u41
    refine sm_ne e_a1 rfl ?_ ?_
    · exact sj_X5_stepCall_51 nn e_a1 e_u32 rfl e_u41 hM_h
    · exact sj_X5_stepCall_51 nn e_a1 e_u32 rfl e_u41 hM_h
