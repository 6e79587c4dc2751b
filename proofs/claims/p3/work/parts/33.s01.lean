set_option maxRecDepth 4000 in
theorem sf_X2_typeOfField (nn : Nat) {a1 : Int32} {y_a1 : Int} (e_a1 : a1.toInt = y_a1) {h : ms_M} (hM_h : Rg_M h) : Sm_ (RP_ h) (f_X2_typeOfField nn 11 a1 (H_M h)) (qf_X2_typeOfField nn y_a1 h) := by
  unfold f_X2_typeOfField qf_X2_typeOfField
  refine sm_lt e_a1 rfl ?_ ?_
  · exact sm_rP rfl
  · refine sm_gr hM_h (d := 19) rfl ?_
    refine sm_ln hM_h (z := 96) rfl ?_; intro v2 e_v2
    refine sm_le e_v2 e_a1 ?_ ?_
    · exact sm_rP rfl
    · refine sm_gr hM_h (d := 19) rfl ?_
      refine sm_ai hM_h rfl e_a1 ?_; intro v4 y_v4 e_v4
      exact sm_rP e_v4
set_option maxRecDepth 4000 in
theorem sf_X10_nameField (nn : Nat) {a1 : Int32} {y_a1 : Int} (e_a1 : a1.toInt = y_a1) {a2 : Int32} {y_a2 : Int} (e_a2 : a2.toInt = y_a2) {h : ms_M} (hM_h : Rg_M h) : Sm_ RV_ (f_X10_nameField nn 49 a1 a2 (H_M h)) (qf_X10_nameField nn y_a1 y_a2 h) := by
  unfold f_X10_nameField qf_X10_nameField
  refine sm_pv hM_h rfl rfl ?_; intro h1 hM_h1
  refine sm_pv hM_h1 rfl e_a1 ?_; intro h2 hM_h2
  refine sm_pv hM_h2 rfl e_a2 ?_; intro h3 hM_h3
  refine sm_gr hM_h3 (d := 11) rfl ?_
  refine sm_is hM_h3 rfl ?_
  refine sm_cP (sf_X2_typeOfField nn e_a2 hM_h3) ?_; intro u6 y_u6 e_u6
  refine sm_pv hM_h3 rfl e_u6 ?_; intro h7 hM_h7
  exact sm_rV hM_h7
set_option maxRecDepth 4000 in
theorem sj_X10_closeCall_45 (nn : Nat) {l1 : Int32} {y_l1 : Int} (e_l1 : l1.toInt = y_l1) {h : ms_M} (hM_h : Rg_M h) : Sm_ RV_ (j_X10_closeCall_45 nn 49 l1 (H_M h)) (qj_X10_closeCall_45 nn y_l1 h) := by
  unfold j_X10_closeCall_45 qj_X10_closeCall_45
  refine sm_pv hM_h rfl e_l1 ?_; intro h1 hM_h1
  refine sm_pv hM_h1 rfl rfl ?_; intro h2 hM_h2
  exact sm_rV hM_h2
set_option maxRecDepth 4000 in
theorem sj_X10_closeCall_35 (nn : Nat) {l1 : Int32} {y_l1 : Int} (e_l1 : l1.toInt = y_l1) {l2 : Int32} {y_l2 : Int} (e_l2 : l2.toInt = y_l2) {h : ms_M} (hM_h : Rg_M h) : Sm_ RV_ (j_X10_closeCall_35 nn 49 l1 l2 (H_M h)) (qj_X10_closeCall_35 nn y_l1 y_l2 h) := by
  unfold j_X10_closeCall_35 qj_X10_closeCall_35
  refine sm_gr hM_h (d := 2) rfl ?_
  refine sm_is hM_h rfl ?_
  refine sm_cV (sf_X9_tell nn rfl e_l2 hM_h) ?_; intro u5 hM_u5
  exact sj_X10_closeCall_45 nn e_l1 hM_u5
set_option maxRecDepth 4000 in
theorem sf_X10_closeCall (nn : Nat) {a1 : Int32} {y_a1 : Int} (e_a1 : a1.toInt = y_a1) {a2 : Int32} {y_a2 : Int} (e_a2 : a2.toInt = y_a2) {a3 : Int32} {y_a3 : Int} (e_a3 : a3.toInt = y_a3) {h : ms_M} (hM_h : Rg_M h) : Sm_ RV_ (f_X10_closeCall nn 49 a1 a2 a3 (H_M h)) (qf_X10_closeCall nn y_a1 y_a2 y_a3 h) := by
  unfold f_X10_closeCall qf_X10_closeCall
  refine sm_eq e_a1 rfl ?_ ?_
  · refine sm_gi hM_h rfl ?_; intro v6 e_v6
    refine sm_ne e_a3 e_v6 ?_ ?_
    · exact sj_X10_closeCall_35 nn e_a1 e_a2 hM_h
    · refine sm_gr hM_h (d := 2) rfl ?_
      refine sm_is hM_h rfl ?_
      refine sm_cP (sf_X9_kind nn hM_h) ?_; intro u9 y_u9 e_u9
      refine sm_eq e_u9 rfl ?_ ?_
      · exact sj_X10_closeCall_45 nn e_a1 hM_h
      · exact sj_X10_closeCall_35 nn e_a1 e_a2 hM_h
  · refine sm_is hM_h rfl ?_
    refine sm_cV (sf_X10_give nn e_a1 hM_h) ?_; intro u13 hM_u13
    exact sj_X10_closeCall_45 nn e_a1 hM_u13
set_option maxRecDepth 4000 in
theorem sf_X2_isMethod (nn : Nat) {a1 : Int32} {y_a1 : Int} (e_a1 : a1.toInt = y_a1) {h : ms_M} (hM_h : Rg_M h) : Sm_ (RP_ h) (f_X2_isMethod nn 11 a1 (H_M h)) (qf_X2_isMethod nn y_a1 h) := by
  unfold f_X2_isMethod qf_X2_isMethod
  refine sm_lt e_a1 rfl ?_ ?_
  · exact sm_rP rfl
  · refine sm_gr hM_h (d := 22) rfl ?_
    refine sm_ln hM_h (z := 96) rfl ?_; intro v2 e_v2
    refine sm_le e_v2 e_a1 ?_ ?_
    · exact sm_rP rfl
    · refine sm_rem e_a1 ⟨rfl, by decide⟩ ?_; intro v3 y_v3 e_v3
      refine sm_gr hM_h (d := 21) rfl ?_
      refine sm_div e_a1 ⟨rfl, by decide⟩ ?_; intro v5 y_v5 e_v5
      refine sm_ai hM_h rfl e_v5 ?_; intro v6 y_v6 e_v6
      refine sm_le e_v6 e_v3 ?_ ?_
      · exact sm_rP rfl
      · exact sm_rP rfl
set_option maxRecDepth 4000 in
theorem sf_X2_isFixed (nn : Nat) {a1 : Int32} {y_a1 : Int} (e_a1 : a1.toInt = y_a1) {h : ms_M} (hM_h : Rg_M h) : Sm_ (RP_ h) (f_X2_isFixed nn 11 a1 (H_M h)) (qf_X2_isFixed nn y_a1 h) := by
  unfold f_X2_isFixed qf_X2_isFixed
  refine sm_is hM_h rfl ?_
  refine sm_cP (sf_X2_isMethod nn e_a1 hM_h) ?_; intro u2 y_u2 e_u2
  refine sm_eq e_u2 rfl ?_ ?_
  · exact sm_rP rfl
  · refine sm_gr hM_h (d := 25) rfl ?_
    refine sm_ab hM_h rfl e_a1 ?_; intro v4 y_v4 e_v4
    refine sm_eq e_v4 rfl ?_ ?_
    · exact sm_rP rfl
    · exact sm_rP rfl
set_option maxRecDepth 4000 in
theorem sf_X2_parametersOf (nn : Nat) {a1 : Int32} {y_a1 : Int} (e_a1 : a1.toInt = y_a1) {h : ms_M} (hM_h : Rg_M h) : Sm_ (RP_ h) (f_X2_parametersOf nn 11 a1 (H_M h)) (qf_X2_parametersOf nn y_a1 h) := by
  unfold f_X2_parametersOf qf_X2_parametersOf
  refine sm_is hM_h rfl ?_
  refine sm_cP (sf_X2_isMethod nn e_a1 hM_h) ?_; intro u2 y_u2 e_u2
  refine sm_eq e_u2 rfl ?_ ?_
  · exact sm_rP rfl
  · refine sm_gr hM_h (d := 27) rfl ?_
    refine sm_ai hM_h rfl e_a1 ?_; intro v4 y_v4 e_v4
    exact sm_rP e_v4
set_option maxRecDepth 4000 in
theorem sf_X2_parameterType (nn : Nat) {a1 : Int32} {y_a1 : Int} (e_a1 : a1.toInt = y_a1) {a2 : Int32} {y_a2 : Int} (e_a2 : a2.toInt = y_a2) {h : ms_M} (hM_h : Rg_M h) : Sm_ (RP_ h) (f_X2_parameterType nn 11 a1 a2 (H_M h)) (qf_X2_parameterType nn y_a1 y_a2 h) := by
  unfold f_X2_parameterType qf_X2_parameterType
  refine sm_lt e_a2 rfl ?_ ?_
  · exact sm_rP rfl
  · refine sm_is hM_h rfl ?_
    refine sm_cP (sf_X2_parametersOf nn e_a1 hM_h) ?_; intro u2 y_u2 e_u2
    refine sm_le e_u2 e_a2 ?_ ?_
    · exact sm_rP rfl
    · refine sm_gr hM_h (d := 29) rfl ?_
      refine sm_oq_mul e_a1 rfl ?_; intro v4 y_v4 e_v4
      refine sm_oq_add e_v4 e_a2 ?_; intro v5 y_v5 e_v5
      refine sm_ai hM_h rfl e_v5 ?_; intro v6 y_v6 e_v6
      exact sm_rP e_v6
set_option maxRecDepth 4000 in
theorem sf_X2_resultOf (nn : Nat) {a1 : Int32} {y_a1 : Int} (e_a1 : a1.toInt = y_a1) {h : ms_M} (hM_h : Rg_M h) : Sm_ (RP_ h) (f_X2_resultOf nn 11 a1 (H_M h)) (qf_X2_resultOf nn y_a1 h) := by
  unfold f_X2_resultOf qf_X2_resultOf
  refine sm_is hM_h rfl ?_
  refine sm_cP (sf_X2_isMethod nn e_a1 hM_h) ?_; intro u2 y_u2 e_u2
  refine sm_eq e_u2 rfl ?_ ?_
  · exact sm_rP rfl
  · refine sm_gr hM_h (d := 24) rfl ?_
    refine sm_ai hM_h rfl e_a1 ?_; intro v4 y_v4 e_v4
    exact sm_rP e_v4
set_option maxRecDepth 4000 in
theorem sf_X2_kindOfMethod (nn : Nat) {a1 : Int32} {y_a1 : Int} (e_a1 : a1.toInt = y_a1) {h : ms_M} (hM_h : Rg_M h) : Sm_ (RP_ h) (f_X2_kindOfMethod nn 11 a1 (H_M h)) (qf_X2_kindOfMethod nn y_a1 h) := by
  unfold f_X2_kindOfMethod qf_X2_kindOfMethod
  refine sm_lt e_a1 rfl ?_ ?_
  · exact sm_rP rfl
  · refine sm_gr hM_h (d := 26) rfl ?_
    refine sm_ln hM_h (z := 96) rfl ?_; intro v2 e_v2
    refine sm_le e_v2 e_a1 ?_ ?_
    · exact sm_rP rfl
    · refine sm_gr hM_h (d := 26) rfl ?_
      refine sm_ai hM_h rfl e_a1 ?_; intro v4 y_v4 e_v4
      exact sm_rP e_v4
set_option maxRecDepth 4000 in
theorem sf_X2_nameOfMethod (nn : Nat) {a1 : Int32} {y_a1 : Int} (e_a1 : a1.toInt = y_a1) {h : ms_M} (hM_h : Rg_M h) : Sm_ (RP_ h) (f_X2_nameOfMethod nn 11 a1 (H_M h)) (qf_X2_nameOfMethod nn y_a1 h) := by
  unfold f_X2_nameOfMethod qf_X2_nameOfMethod
  refine sm_is hM_h rfl ?_
  refine sm_cP (sf_X2_isMethod nn e_a1 hM_h) ?_; intro u2 y_u2 e_u2
  refine sm_eq e_u2 rfl ?_ ?_
  · exact sm_rP rfl
  · refine sm_gr hM_h (d := 2) rfl ?_
    refine sm_gr hM_h (d := 22) rfl ?_
    refine sm_ai hM_h rfl e_a1 ?_; intro v5 y_v5 e_v5
    refine sm_is hM_h rfl ?_
    refine sm_cP (sf_X9_valueAt nn e_v5 hM_h) ?_; intro u7 y_u7 e_u7
    exact sm_rP e_u7
set_option maxRecDepth 4000 in
theorem sf_X6_methodOf (nn : Nat) {a1 : Int32} {y_a1 : Int} (e_a1 : a1.toInt = y_a1) {a2 : Int32} {y_a2 : Int} (e_a2 : a2.toInt = y_a2) {h : ms_M} (hM_h : Rg_M h) : Sm_ RI_ (f_X6_methodOf nn 45 a1 a2 (H_M h)) (qf_X6_methodOf nn y_a1 y_a2 h) := by
  unfold f_X6_methodOf qf_X6_methodOf
  refine sm_is hM_h rfl ?_
  refine sm_cI (sf_X6_classOf nn e_a1 hM_h) ?_; intro u2 y_u2 M_u2 e_u2 hM_u2
  refine sm_gr hM_u2 (d := 11) rfl ?_
  refine sm_is hM_u2 rfl ?_
  refine sm_cP (sf_X2_nameOfMethod nn e_a2 hM_u2) ?_; intro u5 y_u5 e_u5
  refine sm_is hM_u2 rfl ?_
  refine sm_cI (sf_X6_constant nn rfl e_u5 hM_u2) ?_; intro u7 y_u7 M_u7 e_u7 hM_u7
  refine sm_oq_shl e_u2 rfl ?_; intro v8 y_v8 e_v8
  refine sm_oq_shl e_u7 rfl ?_; intro v9 y_v9 e_v9
  refine sm_oq_or e_v8 e_v9 ?_; intro v10 y_v10 e_v10
  refine sm_gr hM_u7 (d := 11) rfl ?_
  refine sm_is hM_u7 rfl ?_
  refine sm_cP (sf_X2_kindOfMethod nn e_a2 hM_u7) ?_; intro u13 y_u13 e_u13
  refine sm_is hM_u7 rfl ?_
  refine sm_cI (sf_X6_constant nn rfl e_u13 hM_u7) ?_; intro u15 y_u15 M_u15 e_u15 hM_u15
  refine sm_oq_or e_v10 e_u15 ?_; intro v16 y_v16 e_v16
  refine sm_is hM_u15 rfl ?_
  refine sm_cI (sf_X6_constant nn rfl e_v16 hM_u15) ?_; intro u18 y_u18 M_u18 e_u18 hM_u18
  exact sm_rI e_u18 hM_u18
set_option maxRecDepth 4000 in
theorem sw_X2_fieldIn_2 (nn : Nat) : ∀ (k : Nat) {l1 : Int32} {y_l1 : Int} (e_l1 : l1.toInt = y_l1) {l2 : Int32} {y_l2 : Int} (e_l2 : l2.toInt = y_l2) {l3 : Int32} {y_l3 : Int} (e_l3 : l3.toInt = y_l3) {h : ms_M} (hM_h : Rg_M h), Sm_ (RP_ h) (w_X2_fieldIn_2 nn k 11 l1 l2 l3 (H_M h)) (qw_X2_fieldIn_2 nn k y_l1 y_l2 y_l3 h) := by
  intro k
  induction k with
  | zero => intros; exact sm_no
  | succ k ih =>
    intro l1 y_l1 e_l1 l2 y_l2 e_l2 l3 y_l3 e_l3 h hM_h
    unfold w_X2_fieldIn_2 qw_X2_fieldIn_2
    refine sm_gr hM_h (d := 17) rfl ?_
    refine sm_ai hM_h rfl e_l1 ?_; intro v2 y_v2 e_v2
    refine sm_le e_v2 e_l3 ?_ ?_
    · exact sm_rP rfl
    · refine sm_gr hM_h (d := 18) rfl ?_
      refine sm_oq_mul e_l1 rfl ?_; intro v4 y_v4 e_v4
      refine sm_oq_add e_v4 e_l3 ?_; intro v5 y_v5 e_v5
      refine sm_ai hM_h rfl e_v5 ?_; intro v6 y_v6 e_v6
      refine sm_ne e_v6 e_l2 ?_ ?_
      · refine sm_oq_add e_l3 rfl ?_; intro v7 y_v7 e_v7
        exact ih e_l1 e_l2 e_v7 hM_h
      · refine sm_oq_mul e_l1 rfl ?_; intro v8 y_v8 e_v8
        refine sm_oq_add e_v8 e_l3 ?_; intro v9 y_v9 e_v9
        exact sm_rP e_v9
set_option maxRecDepth 4000 in
theorem sf_X2_fieldIn (nn : Nat) {a1 : Int32} {y_a1 : Int} (e_a1 : a1.toInt = y_a1) {a2 : Int32} {y_a2 : Int} (e_a2 : a2.toInt = y_a2) {h : ms_M} (hM_h : Rg_M h) : Sm_ (RP_ h) (f_X2_fieldIn nn 11 a1 a2 (H_M h)) (qf_X2_fieldIn nn y_a1 y_a2 h) := by
  unfold f_X2_fieldIn qf_X2_fieldIn
  exact sw_X2_fieldIn_2 nn nn e_a1 e_a2 rfl hM_h
set_option maxRecDepth 4000 in
theorem sw_X2_fieldOf_8 (nn : Nat) : ∀ (k : Nat) {l2 : Int32} {y_l2 : Int} (e_l2 : l2.toInt = y_l2) {l3 : Int32} {y_l3 : Int} (e_l3 : l3.toInt = y_l3) {l4 : Int32} {y_l4 : Int} (e_l4 : l4.toInt = y_l4) {l5 : Int32} {y_l5 : Int} (e_l5 : l5.toInt = y_l5) {h : ms_M} (hM_h : Rg_M h), Sm_ (RP_ h) (w_X2_fieldOf_8 nn k 11 l2 l3 l4 l5 (H_M h)) (qw_X2_fieldOf_8 nn k y_l2 y_l3 y_l4 y_l5 h) := by
  intro k
  induction k with
  | zero => intros; exact sm_no
  | succ k ih =>
    intro l2 y_l2 e_l2 l3 y_l3 e_l3 l4 y_l4 e_l4 l5 y_l5 e_l5 h hM_h
    unfold w_X2_fieldOf_8 qw_X2_fieldOf_8
    refine sm_le rfl e_l5 ?_ ?_
    · exact sm_rP e_l3
    · refine sm_cP (sf_X2_isOwn nn e_l4 hM_h) ?_; intro u1 y_u1 e_u1
      refine sm_eq e_u1 rfl ?_ ?_
      · exact sm_rP e_l3
      · refine sm_ne e_l3 rfl ?_ ?_
        · exact sm_rP e_l3
        · refine sm_oq_sub e_l4 rfl ?_; intro v2 y_v2 e_v2
          refine sm_is hM_h rfl ?_
          refine sm_cP (sf_X2_fieldIn nn e_v2 e_l2 hM_h) ?_; intro u4 y_u4 e_u4
          refine sm_gr hM_h (d := 12) rfl ?_
          refine sm_is hM_h rfl ?_
          refine sm_cP (sf_X4_above nn _ rfl e_l4 hM_h) ?_; intro u7 y_u7 e_u7
          refine sm_oq_add e_l5 rfl ?_; intro v8 y_v8 e_v8
          exact ih e_l2 e_u4 e_u7 e_v8 hM_h
set_option maxRecDepth 4000 in
theorem sf_X2_fieldOf (nn : Nat) {a1 : Int32} {y_a1 : Int} (e_a1 : a1.toInt = y_a1) {a2 : Int32} {y_a2 : Int} (e_a2 : a2.toInt = y_a2) {h : ms_M} (hM_h : Rg_M h) : Sm_ (RP_ h) (f_X2_fieldOf nn 11 a1 a2 (H_M h)) (qf_X2_fieldOf nn y_a1 y_a2 h) := by
  unfold f_X2_fieldOf qf_X2_fieldOf
  exact sw_X2_fieldOf_8 nn nn e_a2 rfl e_a1 rfl hM_h
set_option maxRecDepth 4000 in
theorem sw_X2_methodIn_2 (nn : Nat) : ∀ (k : Nat) {l1 : Int32} {y_l1 : Int} (e_l1 : l1.toInt = y_l1) {l2 : Int32} {y_l2 : Int} (e_l2 : l2.toInt = y_l2) {l3 : Int32} {y_l3 : Int} (e_l3 : l3.toInt = y_l3) {h : ms_M} (hM_h : Rg_M h), Sm_ (RP_ h) (w_X2_methodIn_2 nn k 11 l1 l2 l3 (H_M h)) (qw_X2_methodIn_2 nn k y_l1 y_l2 y_l3 h) := by
  intro k
  induction k with
  | zero => intros; exact sm_no
  | succ k ih =>
    intro l1 y_l1 e_l1 l2 y_l2 e_l2 l3 y_l3 e_l3 h hM_h
    unfold w_X2_methodIn_2 qw_X2_methodIn_2
    refine sm_gr hM_h (d := 21) rfl ?_
    refine sm_ai hM_h rfl e_l1 ?_; intro v2 y_v2 e_v2
    refine sm_le e_v2 e_l3 ?_ ?_
    · exact sm_rP rfl
    · refine sm_gr hM_h (d := 2) rfl ?_
      refine sm_gr hM_h (d := 22) rfl ?_
      refine sm_oq_mul e_l1 rfl ?_; intro v5 y_v5 e_v5
      refine sm_oq_add e_v5 e_l3 ?_; intro v6 y_v6 e_v6
      refine sm_ai hM_h rfl e_v6 ?_; intro v7 y_v7 e_v7
      refine sm_is hM_h rfl ?_
      refine sm_cP (sf_X9_valueAt nn e_v7 hM_h) ?_; intro u9 y_u9 e_u9
      refine sm_ne e_u9 e_l2 ?_ ?_
      · refine sm_oq_add e_l3 rfl ?_; intro v10 y_v10 e_v10
        exact ih e_l1 e_l2 e_v10 hM_h
      · refine sm_oq_mul e_l1 rfl ?_; intro v11 y_v11 e_v11
        refine sm_oq_add e_v11 e_l3 ?_; intro v12 y_v12 e_v12
        exact sm_rP e_v12
set_option maxRecDepth 4000 in
theorem sf_X2_methodIn (nn : Nat) {a1 : Int32} {y_a1 : Int} (e_a1 : a1.toInt = y_a1) {a2 : Int32} {y_a2 : Int} (e_a2 : a2.toInt = y_a2) {h : ms_M} (hM_h : Rg_M h) : Sm_ (RP_ h) (f_X2_methodIn nn 11 a1 a2 (H_M h)) (qf_X2_methodIn nn y_a1 y_a2 h) := by
  unfold f_X2_methodIn qf_X2_methodIn
  exact sw_X2_methodIn_2 nn nn e_a1 e_a2 rfl hM_h
set_option maxRecDepth 4000 in
theorem sw_X2_methodOf_8 (nn : Nat) : ∀ (k : Nat) {l2 : Int32} {y_l2 : Int} (e_l2 : l2.toInt = y_l2) {l3 : Int32} {y_l3 : Int} (e_l3 : l3.toInt = y_l3) {l4 : Int32} {y_l4 : Int} (e_l4 : l4.toInt = y_l4) {l5 : Int32} {y_l5 : Int} (e_l5 : l5.toInt = y_l5) {h : ms_M} (hM_h : Rg_M h), Sm_ (RP_ h) (w_X2_methodOf_8 nn k 11 l2 l3 l4 l5 (H_M h)) (qw_X2_methodOf_8 nn k y_l2 y_l3 y_l4 y_l5 h) := by
  intro k
  induction k with
  | zero => intros; exact sm_no
  | succ k ih =>
    intro l2 y_l2 e_l2 l3 y_l3 e_l3 l4 y_l4 e_l4 l5 y_l5 e_l5 h hM_h
    unfold w_X2_methodOf_8 qw_X2_methodOf_8
    refine sm_le rfl e_l5 ?_ ?_
    · exact sm_rP e_l3
    · refine sm_cP (sf_X2_isOwn nn e_l4 hM_h) ?_; intro u1 y_u1 e_u1
      refine sm_eq e_u1 rfl ?_ ?_
      · exact sm_rP e_l3
      · refine sm_ne e_l3 rfl ?_ ?_
        · exact sm_rP e_l3
        · refine sm_oq_sub e_l4 rfl ?_; intro v2 y_v2 e_v2
          refine sm_is hM_h rfl ?_
          refine sm_cP (sf_X2_methodIn nn e_v2 e_l2 hM_h) ?_; intro u4 y_u4 e_u4
          refine sm_gr hM_h (d := 12) rfl ?_
          refine sm_is hM_h rfl ?_
          refine sm_cP (sf_X4_above nn _ rfl e_l4 hM_h) ?_; intro u7 y_u7 e_u7
          refine sm_oq_add e_l5 rfl ?_; intro v8 y_v8 e_v8
          exact ih e_l2 e_u4 e_u7 e_v8 hM_h
set_option maxRecDepth 4000 in
theorem sf_X2_methodOf (nn : Nat) {a1 : Int32} {y_a1 : Int} (e_a1 : a1.toInt = y_a1) {a2 : Int32} {y_a2 : Int} (e_a2 : a2.toInt = y_a2) {h : ms_M} (hM_h : Rg_M h) : Sm_ (RP_ h) (f_X2_methodOf nn 11 a1 a2 (H_M h)) (qf_X2_methodOf nn y_a1 y_a2 h) := by
  unfold f_X2_methodOf qf_X2_methodOf
  exact sw_X2_methodOf_8 nn nn e_a2 rfl e_a1 rfl hM_h
set_option maxRecDepth 4000 in
theorem sf_X4_isArray (nn : Nat) {a0 : Int32} {y_a0 : Int} (e_a0 : a0.toInt = y_a0) {h : ms_M} (hM_h : Rg_M h) : Sm_ (RP_ h) (f_X4_isArray nn a0 (H_M h)) (qf_X4_isArray nn y_a0 h) := by
  unfold f_X4_isArray qf_X4_isArray
  refine sm_lt e_a0 rfl ?_ ?_
  · exact sm_rP rfl
  · refine sm_lt rfl e_a0 ?_ ?_
    · exact sm_rP rfl
    · exact sm_rP rfl
set_option maxRecDepth 4000 in
theorem sj_X10_giveThis_17 (nn : Nat) {h : ms_M} (hM_h : Rg_M h) : Sm_ RV_ (j_X10_giveThis_17 nn 49 (H_M h)) (qj_X10_giveThis_17 nn h) := by
  unfold j_X10_giveThis_17 qj_X10_giveThis_17
  refine sm_gr hM_h (d := 34) rfl ?_
  refine sm_is hM_h rfl ?_
  refine sm_cV (sf_X1_op_ nn rfl rfl hM_h) ?_; intro u3 hM_u3
  refine sm_gi hM_u3 rfl ?_; intro v4 e_v4
  refine sm_is hM_u3 rfl ?_
  refine sm_cV (sf_X10_give nn e_v4 hM_u3) ?_; intro u6 hM_u6
  exact sm_rV hM_u6
set_option maxRecDepth 4000 in
theorem sf_X10_giveThis (nn : Nat) {a1 : Int32} {y_a1 : Int} (e_a1 : a1.toInt = y_a1) {h : ms_M} (hM_h : Rg_M h) : Sm_ RV_ (f_X10_giveThis nn 49 a1 (H_M h)) (qf_X10_giveThis nn y_a1 h) := by
  unfold f_X10_giveThis qf_X10_giveThis
  refine sm_gi hM_h rfl ?_; intro v7 e_v7
  refine sm_eq e_v7 rfl ?_ ?_
  · exact sj_X10_giveThis_17 nn hM_h
  · refine sm_gr hM_h (d := 2) rfl ?_
    refine sm_is hM_h rfl ?_
    refine sm_cV (sf_X9_tell nn rfl e_a1 hM_h) ?_; intro u10 hM_u10
    exact sj_X10_giveThis_17 nn hM_u10
set_option maxRecDepth 4000 in
theorem sf_X6_numberOf (nn : Nat) {a1 : Int32} {y_a1 : Int} (e_a1 : a1.toInt = y_a1) {h : ms_M} (hM_h : Rg_M h) : Sm_ RI_ (f_X6_numberOf nn 45 a1 (H_M h)) (qf_X6_numberOf nn y_a1 h) := by
  unfold f_X6_numberOf qf_X6_numberOf
  refine sm_is hM_h rfl ?_
  refine sm_cI (sf_X6_constant nn rfl e_a1 hM_h) ?_; intro u2 y_u2 M_u2 e_u2 hM_u2
  exact sm_rI e_u2 hM_u2
set_option maxRecDepth 4000 in
theorem sj_X10_readNumber_54 (nn : Nat) {h : ms_M} (hM_h : Rg_M h) : Sm_ RV_ (j_X10_readNumber_54 nn 49 (H_M h)) (qj_X10_readNumber_54 nn h) := by
  unfold j_X10_readNumber_54 qj_X10_readNumber_54
  refine sm_is hM_h rfl ?_
  refine sm_cV (sf_X10_give nn rfl hM_h) ?_; intro u2 hM_u2
  exact sm_rV hM_u2
set_option maxRecDepth 4000 in
theorem sf_X10_readNumber (nn : Nat) {a1 : Int32} {y_a1 : Int} (e_a1 : a1.toInt = y_a1) {h : ms_M} (hM_h : Rg_M h) : Sm_ RV_ (f_X10_readNumber nn 49 a1 (H_M h)) (qf_X10_readNumber nn y_a1 h) := by
  unfold f_X10_readNumber qf_X10_readNumber
  refine sm_lt rfl e_a1 ?_ ?_
  · refine sm_lt rfl e_a1 ?_ ?_
    · refine sm_gr hM_h (d := 34) rfl ?_
      refine sm_gr hM_h (d := 45) rfl ?_
      refine sm_is hM_h rfl ?_
      refine sm_cI (sf_X6_numberOf nn e_a1 hM_h) ?_; intro u6 y_u6 M_u6 e_u6 hM_u6
      refine sm_is hM_u6 rfl ?_
      refine sm_cV (sf_X1_op_ nn rfl e_u6 hM_u6) ?_; intro u8 hM_u8
      exact sj_X10_readNumber_54 nn hM_u8
    · refine sm_gr hM_h (d := 34) rfl ?_
      refine sm_is hM_h rfl ?_
      refine sm_cV (sf_X1_op_ nn rfl e_a1 hM_h) ?_; intro u11 hM_u11
      exact sj_X10_readNumber_54 nn hM_u11
  · refine sm_gr hM_h (d := 34) rfl ?_
    refine sm_oq_add rfl e_a1 ?_; intro v14 y_v14 e_v14
    refine sm_is hM_h rfl ?_
    refine sm_cV (sf_X1_op nn e_v14 hM_h) ?_; intro u16 hM_u16
    exact sj_X10_readNumber_54 nn hM_u16
set_option maxRecDepth 4000 in
theorem sf_X10_readConstant (nn : Nat) {h : ms_M} (hM_h : Rg_M h) : Sm_ RV_ (f_X10_readConstant nn 49 (H_M h)) (qf_X10_readConstant nn h) := by
  unfold f_X10_readConstant qf_X10_readConstant
  refine sm_gr hM_h (d := 2) rfl ?_
  refine sm_gi hM_h rfl ?_; intro v2 e_v2
  refine sm_gr hM_h (d := 2) rfl ?_
  refine sm_gi hM_h rfl ?_; intro v4 e_v4
  refine sm_oq_add e_v4 rfl ?_; intro v5 y_v5 e_v5
  refine sm_pv hM_h rfl e_v5 ?_; intro h6 hM_h6
  refine sm_gr hM_h6 (d := 2) rfl ?_
  refine sm_is hM_h6 rfl ?_
  refine sm_cP (sf_X9_kindAt nn e_v2 hM_h6) ?_; intro u9 y_u9 e_u9
  refine sm_eq e_u9 rfl ?_ ?_
  · refine sm_gr hM_h6 (d := 2) rfl ?_
    refine sm_is hM_h6 rfl ?_
    refine sm_cP (sf_X9_valueAt nn e_v2 hM_h6) ?_; intro u14 y_u14 e_u14
    refine sm_is hM_h6 rfl ?_
    refine sm_cV (sf_X10_readNumber nn e_u14 hM_h6) ?_; intro u16 hM_u16
    exact sm_rV hM_u16
  · refine sm_eq e_u9 rfl ?_ ?_
    · refine sm_gr hM_h6 (d := 34) rfl ?_
      refine sm_is hM_h6 rfl ?_
      refine sm_cV (sf_X1_op nn rfl hM_h6) ?_; intro u19 hM_u19
      refine sm_is hM_u19 rfl ?_
      refine sm_cV (sf_X10_give nn rfl hM_u19) ?_; intro u21 hM_u21
      exact sm_rV hM_u21
    · refine sm_eq e_u9 rfl ?_ ?_
      · refine sm_gr hM_h6 (d := 34) rfl ?_
        refine sm_is hM_h6 rfl ?_
        refine sm_cV (sf_X1_op nn rfl hM_h6) ?_; intro u24 hM_u24
        refine sm_is hM_u24 rfl ?_
        refine sm_cV (sf_X10_give nn rfl hM_u24) ?_; intro u26 hM_u26
        exact sm_rV hM_u26
      · refine sm_eq e_u9 rfl ?_ ?_
        · refine sm_gr hM_h6 (d := 34) rfl ?_
          refine sm_is hM_h6 rfl ?_
          refine sm_cV (sf_X1_op nn rfl hM_h6) ?_; intro u29 hM_u29
          refine sm_is hM_u29 rfl ?_
          refine sm_cV (sf_X10_give nn rfl hM_u29) ?_; intro u31 hM_u31
          exact sm_rV hM_u31
        · refine sm_is hM_h6 rfl ?_
          refine sm_cV (sf_X10_giveThis nn e_v2 hM_h6) ?_; intro u11 hM_u11
          exact sm_rV hM_u11
set_option maxRecDepth 4000 in
theorem sf_X4_elementOf (nn : Nat) {a0 : Int32} {y_a0 : Int} (e_a0 : a0.toInt = y_a0) {h : ms_M} (hM_h : Rg_M h) : Sm_ (RP_ h) (f_X4_elementOf nn a0 (H_M h)) (qf_X4_elementOf nn y_a0 h) := by
  unfold f_X4_elementOf qf_X4_elementOf
  refine sm_ne e_a0 rfl ?_ ?_
  · refine sm_lt e_a0 rfl ?_ ?_
    · exact sm_rP rfl
    · refine sm_le rfl e_a0 ?_ ?_
      · exact sm_rP rfl
      · refine sm_oq_sub e_a0 rfl ?_; intro v1 y_v1 e_v1
        exact sm_rP e_v1
  · exact sm_rP rfl
set_option maxRecDepth 4000 in
theorem sf_X10_isCallBehindPoint (nn : Nat) {a1 : Int32} {y_a1 : Int} (e_a1 : a1.toInt = y_a1) {h : ms_M} (hM_h : Rg_M h) : Sm_ (RP_ h) (f_X10_isCallBehindPoint nn 49 a1 (H_M h)) (qf_X10_isCallBehindPoint nn y_a1 h) := by
  unfold f_X10_isCallBehindPoint qf_X10_isCallBehindPoint
  refine sm_gr hM_h (d := 2) rfl ?_
  refine sm_is hM_h rfl ?_
  refine sm_cP (sf_X9_kindAt nn e_a1 hM_h) ?_; intro u3 y_u3 e_u3
  refine sm_ne e_u3 rfl ?_ ?_
  · exact sm_rP rfl
  · refine sm_gr hM_h (d := 2) rfl ?_
    refine sm_oq_add e_a1 rfl ?_; intro v5 y_v5 e_v5
    refine sm_is hM_h rfl ?_
    refine sm_cP (sf_X9_kindAt nn e_v5 hM_h) ?_; intro u7 y_u7 e_u7
    refine sm_ne e_u7 rfl ?_ ?_
    · exact sm_rP rfl
    · refine sm_gr hM_h (d := 2) rfl ?_
      refine sm_oq_add e_a1 rfl ?_; intro v9 y_v9 e_v9
      refine sm_is hM_h rfl ?_
      refine sm_cP (sf_X9_kindAt nn e_v9 hM_h) ?_; intro u11 y_u11 e_u11
      refine sm_ne e_u11 rfl ?_ ?_
      · exact sm_rP rfl
      · exact sm_rP rfl
set_option maxRecDepth 4000 in
theorem sf_X10_methodNamed (nn : Nat) {a1 : Int32} {y_a1 : Int} (e_a1 : a1.toInt = y_a1) {a2 : Int32} {y_a2 : Int} (e_a2 : a2.toInt = y_a2) {h : ms_M} (hM_h : Rg_M h) : Sm_ RI_ (f_X10_methodNamed nn 49 a1 a2 (H_M h)) (qf_X10_methodNamed nn y_a1 y_a2 h) := by
  unfold f_X10_methodNamed qf_X10_methodNamed
  refine sm_gr hM_h (d := 11) rfl ?_
  refine sm_gr hM_h (d := 2) rfl ?_
  refine sm_is hM_h rfl ?_
  refine sm_cP (sf_X9_valueAt nn e_a2 hM_h) ?_; intro u4 y_u4 e_u4
  refine sm_is hM_h rfl ?_
  refine sm_cP (sf_X2_methodOf nn e_a1 e_u4 hM_h) ?_; intro u6 y_u6 e_u6
  refine sm_ne e_u6 rfl ?_ ?_
  · exact sm_rI e_u6 hM_h
  · refine sm_gr hM_h (d := 2) rfl ?_
    refine sm_is hM_h rfl ?_
    refine sm_cV (sf_X9_tell nn rfl e_a2 hM_h) ?_; intro u9 hM_u9
    exact sm_rI e_u6 hM_u9
set_option maxRecDepth 4000 in
theorem sw_X1_localOf_15 (nn : Nat) : ∀ (k : Nat) {l1 : Int32} {y_l1 : Int} (e_l1 : l1.toInt = y_l1) {l2 : Int32} {y_l2 : Int} (e_l2 : l2.toInt = y_l2) {h : ms_M} (hM_h : Rg_M h), Sm_ (RP_ h) (w_X1_localOf_15 nn k 34 l1 l2 (H_M h)) (qw_X1_localOf_15 nn k y_l1 y_l2 h) := by
  intro k
  induction k with
  | zero => intros; exact sm_no
  | succ k ih =>
    intro l1 y_l1 e_l1 l2 y_l2 e_l2 h hM_h
    unfold w_X1_localOf_15 qw_X1_localOf_15
    refine sm_lt e_l2 rfl ?_ ?_
    · exact sm_rP rfl
    · refine sm_gr hM_h (d := 37) rfl ?_
      refine sm_ai hM_h rfl e_l2 ?_; intro v2 y_v2 e_v2
      refine sm_ne e_v2 e_l1 ?_ ?_
      · refine sm_oq_add e_l2 rfl ?_; intro v3 y_v3 e_v3
        exact ih e_l1 e_v3 hM_h
      · exact sm_rP e_l2
set_option maxRecDepth 4000 in
theorem sf_X1_localOf (nn : Nat) {a1 : Int32} {y_a1 : Int} (e_a1 : a1.toInt = y_a1) {h : ms_M} (hM_h : Rg_M h) : Sm_ (RP_ h) (f_X1_localOf nn 34 a1 (H_M h)) (qf_X1_localOf nn y_a1 h) := by
  unfold f_X1_localOf qf_X1_localOf
  refine sm_gi hM_h rfl ?_; intro v6 e_v6
  refine sm_gr hM_h (d := 37) rfl ?_
  refine sm_ln hM_h (z := 750) rfl ?_; intro v8 e_v8
  refine sm_ite e_v8 e_v6 e_v8 e_v6 ?_; intro v9 y_v9 e_v9
  refine sm_oq_sub e_v9 rfl ?_; intro v10 y_v10 e_v10
  exact sw_X1_localOf_15 nn nn e_a1 e_v10 hM_h
set_option maxRecDepth 4000 in
theorem sf_X1_typeOfLocal (nn : Nat) {a1 : Int32} {y_a1 : Int} (e_a1 : a1.toInt = y_a1) {h : ms_M} (hM_h : Rg_M h) : Sm_ (RP_ h) (f_X1_typeOfLocal nn 34 a1 (H_M h)) (qf_X1_typeOfLocal nn y_a1 h) := by
  unfold f_X1_typeOfLocal qf_X1_typeOfLocal
  refine sm_lt e_a1 rfl ?_ ?_
  · exact sm_rP rfl
  · refine sm_gr hM_h (d := 38) rfl ?_
    refine sm_ln hM_h (z := 750) rfl ?_; intro v2 e_v2
    refine sm_le e_v2 e_a1 ?_ ?_
    · exact sm_rP rfl
    · refine sm_gr hM_h (d := 38) rfl ?_
      refine sm_ai hM_h rfl e_a1 ?_; intro v4 y_v4 e_v4
      exact sm_rP e_v4
set_option maxRecDepth 4000 in
theorem sj_X9_beginsCast_140 (nn : Nat) {h : ms_M} (hM_h : Rg_M h) : Sm_ (RP_ h) (j_X9_beginsCast_140 nn (H_M h)) (qj_X9_beginsCast_140 nn h) := by
  unfold j_X9_beginsCast_140 qj_X9_beginsCast_140
  exact sm_rP rfl
set_option maxRecDepth 4000 in
theorem sf_X9_beginsCast (nn : Nat) {h : ms_M} (hM_h : Rg_M h) : Sm_ (RP_ h) (f_X9_beginsCast nn 2 (H_M h)) (qf_X9_beginsCast nn h) := by
  unfold f_X9_beginsCast qf_X9_beginsCast
  refine sm_is hM_h rfl ?_
  refine sm_cP (sf_X9_kind nn hM_h) ?_; intro u2 y_u2 e_u2
  refine sm_ne e_u2 rfl ?_ ?_
  · exact sm_rP rfl
  · refine sm_gi hM_h rfl ?_; intro v3 e_v3
    refine sm_oq_add e_v3 rfl ?_; intro v4 y_v4 e_v4
    refine sm_is hM_h rfl ?_
    refine sm_cP (sf_X9_kindAt nn e_v4 hM_h) ?_; intro u6 y_u6 e_u6
    refine sm_ne e_u6 rfl ?_ ?_
    · exact sm_rP rfl
    · refine sm_gi hM_h rfl ?_; intro v7 e_v7
      refine sm_oq_add e_v7 rfl ?_; intro v8 y_v8 e_v8
      refine sm_is hM_h rfl ?_
      refine sm_cP (sf_X9_kindAt nn e_v8 hM_h) ?_; intro u10 y_u10 e_u10
      refine sm_eq e_u10 rfl ?_ ?_
      · refine sm_gi hM_h rfl ?_; intro v11 e_v11
        refine sm_oq_add e_v11 rfl ?_; intro v12 y_v12 e_v12
        refine sm_is hM_h rfl ?_
        refine sm_cP (sf_X9_kindAt nn e_v12 hM_h) ?_; intro u14 y_u14 e_u14
        refine sm_eq e_u14 rfl ?_ ?_
        · exact sj_X9_beginsCast_140 nn hM_h
        · refine sm_eq e_u14 rfl ?_ ?_
          · exact sj_X9_beginsCast_140 nn hM_h
          · refine sm_eq e_u14 rfl ?_ ?_
            · exact sj_X9_beginsCast_140 nn hM_h
            · refine sm_eq e_u14 rfl ?_ ?_
              · exact sj_X9_beginsCast_140 nn hM_h
              · refine sm_eq e_u14 rfl ?_ ?_
                · exact sj_X9_beginsCast_140 nn hM_h
                · refine sm_eq e_u14 rfl ?_ ?_
                  · exact sj_X9_beginsCast_140 nn hM_h
                  · refine sm_eq e_u14 rfl ?_ ?_
                    · exact sj_X9_beginsCast_140 nn hM_h
                    · refine sm_eq e_u14 rfl ?_ ?_
                      · exact sj_X9_beginsCast_140 nn hM_h
                      · refine sm_eq e_u14 rfl ?_ ?_
                        · exact sj_X9_beginsCast_140 nn hM_h
                        · refine sm_eq e_u14 rfl ?_ ?_
                          · exact sj_X9_beginsCast_140 nn hM_h
                          · exact sm_rP rfl
      · exact sm_rP rfl
def hg_X10_readValue (frc : tg_X10_readValue) (rc : tq_X10_readValue) : Prop := (∀ {a1 : Int32} {y_a1 : Int} (e_a1 : a1.toInt = y_a1) {h : ms_M} (hM_h : Rg_M h), Sm_ RV_ (frc.1 49 a1 (H_M h)) (rc.1 y_a1 h)) ∧ (∀ {a1 : Int32} {y_a1 : Int} (e_a1 : a1.toInt = y_a1) {a2 : Int32} {y_a2 : Int} (e_a2 : a2.toInt = y_a2) {h : ms_M} (hM_h : Rg_M h), Sm_ RV_ (frc.2.1 49 a1 a2 (H_M h)) (rc.2.1 y_a1 y_a2 h)) ∧ (∀ {a1 : Int32} {y_a1 : Int} (e_a1 : a1.toInt = y_a1) {h : ms_M} (hM_h : Rg_M h), Sm_ RV_ (frc.2.2.1 49 a1 (H_M h)) (rc.2.2.1 y_a1 h)) ∧ (∀ {a1 : Int32} {y_a1 : Int} (e_a1 : a1.toInt = y_a1) {h : ms_M} (hM_h : Rg_M h), Sm_ RV_ (frc.2.2.2.1 49 a1 (H_M h)) (rc.2.2.2.1 y_a1 h)) ∧ (∀ {a1 : Int32} {y_a1 : Int} (e_a1 : a1.toInt = y_a1) {h : ms_M} (hM_h : Rg_M h), Sm_ RV_ (frc.2.2.2.2.1 49 a1 (H_M h)) (rc.2.2.2.2.1 y_a1 h)) ∧ (∀ {a1 : Int32} {y_a1 : Int} (e_a1 : a1.toInt = y_a1) {h : ms_M} (hM_h : Rg_M h), Sm_ RV_ (frc.2.2.2.2.2.1 49 a1 (H_M h)) (rc.2.2.2.2.2.1 y_a1 h)) ∧ (∀ {a1 : Int32} {y_a1 : Int} (e_a1 : a1.toInt = y_a1) {h : ms_M} (hM_h : Rg_M h), Sm_ RV_ (frc.2.2.2.2.2.2.1 49 a1 (H_M h)) (rc.2.2.2.2.2.2.1 y_a1 h)) ∧ (∀ {a1 : Int32} {y_a1 : Int} (e_a1 : a1.toInt = y_a1) {a2 : Int32} {y_a2 : Int} (e_a2 : a2.toInt = y_a2) {h : ms_M} (hM_h : Rg_M h), Sm_ RV_ (frc.2.2.2.2.2.2.2.1 49 a1 a2 (H_M h)) (rc.2.2.2.2.2.2.2.1 y_a1 y_a2 h)) ∧ (∀ {a1 : Int32} {y_a1 : Int} (e_a1 : a1.toInt = y_a1) {a2 : Int32} {y_a2 : Int} (e_a2 : a2.toInt = y_a2) {a3 : Int32} {y_a3 : Int} (e_a3 : a3.toInt = y_a3) {a4 : Int32} {y_a4 : Int} (e_a4 : a4.toInt = y_a4) {a5 : Int32} {y_a5 : Int} (e_a5 : a5.toInt = y_a5) {a6 : Int32} {y_a6 : Int} (e_a6 : a6.toInt = y_a6) {h : ms_M} (hM_h : Rg_M h), Sm_ RV_ (frc.2.2.2.2.2.2.2.2 49 a1 a2 a3 a4 a5 a6 (H_M h)) (rc.2.2.2.2.2.2.2.2 y_a1 y_a2 y_a3 y_a4 y_a5 y_a6 h))
set_option maxRecDepth 4000 in
theorem sj_X10_readValue_156 (nn : Nat) {frc : tg_X10_readValue} {rc : tq_X10_readValue} (hr : hg_X10_readValue frc rc) {l1 : Int32} {y_l1 : Int} (e_l1 : l1.toInt = y_l1) {l2 : Int32} {y_l2 : Int} (e_l2 : l2.toInt = y_l2) {h : ms_M} (hM_h : Rg_M h) : Sm_ RV_ (j_X10_readValue_156 nn frc 49 l1 l2 (H_M h)) (qj_X10_readValue_156 nn rc y_l1 y_l2 h) := by
  unfold j_X10_readValue_156 qj_X10_readValue_156
  refine sm_gr hM_h (d := 2) rfl ?_
  refine sm_is hM_h rfl ?_
  refine sm_cP (sf_X9_kind nn hM_h) ?_; intro u3 y_u3 e_u3
  refine sm_ne e_u3 rfl ?_ ?_
  · exact sm_rV hM_h
  · refine sm_is hM_h rfl ?_
    refine sm_cV (hr.2.1 e_l2 e_l1 hM_h) ?_; intro u5 hM_u5
    exact sm_rV hM_u5
set_option maxRecDepth 4000 in
theorem sw_X10_readValue_129 (nn : Nat) {frc : tg_X10_readValue} {rc : tq_X10_readValue} (hr : hg_X10_readValue frc rc) : ∀ (k : Nat) {l1 : Int32} {y_l1 : Int} (e_l1 : l1.toInt = y_l1) {l2 : Int32} {y_l2 : Int} (e_l2 : l2.toInt = y_l2) {l3 : Int32} {y_l3 : Int} (e_l3 : l3.toInt = y_l3) {l4 : Int32} {y_l4 : Int} (e_l4 : l4.toInt = y_l4) {h : ms_M} (hM_h : Rg_M h), Sm_ RV_ (w_X10_readValue_129 nn frc k 49 l1 l2 l3 l4 (H_M h)) (qw_X10_readValue_129 nn rc k y_l1 y_l2 y_l3 y_l4 h) := by
  intro k
  induction k with
  | zero => intros; exact sm_no
  | succ k ih =>
    intro l1 y_l1 e_l1 l2 y_l2 e_l2 l3 y_l3 e_l3 l4 y_l4 e_l4 h hM_h
    unfold w_X10_readValue_129 qw_X10_readValue_129
    refine sm_le rfl e_l4 ?_ ?_
    · exact sj_X10_readValue_156 nn hr e_l1 e_l2 hM_h
    · refine sm_is hM_h rfl ?_
      refine sm_cP (sf_X10_isSignDue nn e_l3 rfl hM_h) ?_; intro u8 y_u8 e_u8
      refine sm_eq e_u8 rfl ?_ ?_
      · exact sj_X10_readValue_156 nn hr e_l1 e_l2 hM_h
      · refine sm_is hM_h rfl ?_
        refine sm_cV (sf_X10_closeSign nn hM_h) ?_; intro u10 hM_u10
        refine sm_oq_add e_l4 rfl ?_; intro v11 y_v11 e_v11
        exact ih e_l1 e_l2 e_l3 e_v11 hM_u10
set_option maxRecDepth 4000 in
theorem sj_X10_readValue_90 (nn : Nat) {frc : tg_X10_readValue} {rc : tq_X10_readValue} (hr : hg_X10_readValue frc rc) {kk_30 : Nat → Int32 → Int32 → Int32 → Int32 → mx_H → Option mx_H} {qkk_30 : Int → Int → Int → Int → ms_M → Option ms_M} (hk_kk_30 : ∀ {l1 : Int32} {y_l1 : Int} (e_l1 : l1.toInt = y_l1) {l2 : Int32} {y_l2 : Int} (e_l2 : l2.toInt = y_l2) {l3 : Int32} {y_l3 : Int} (e_l3 : l3.toInt = y_l3) {l4 : Int32} {y_l4 : Int} (e_l4 : l4.toInt = y_l4) {h : ms_M} (hM_h : Rg_M h), Sm_ RV_ (kk_30 49 l1 l2 l3 l4 (H_M h)) (qkk_30 y_l1 y_l2 y_l3 y_l4 h)) {l1 : Int32} {y_l1 : Int} (e_l1 : l1.toInt = y_l1) {l2 : Int32} {y_l2 : Int} (e_l2 : l2.toInt = y_l2) {l3 : Int32} {y_l3 : Int} (e_l3 : l3.toInt = y_l3) {l4 : Int32} {y_l4 : Int} (e_l4 : l4.toInt = y_l4) {h : ms_M} (hM_h : Rg_M h) : Sm_ RV_ (j_X10_readValue_90 nn frc kk_30 49 l1 l2 l3 l4 (H_M h)) (qj_X10_readValue_90 nn rc qkk_30 y_l1 y_l2 y_l3 y_l4 h) := by
  unfold j_X10_readValue_90 qj_X10_readValue_90
  refine sm_gr hM_h (d := 2) rfl ?_
  refine sm_is hM_h rfl ?_
  refine sm_cP (sf_X9_kind nn hM_h) ?_; intro u16 y_u16 e_u16
  refine sm_ne e_u16 rfl ?_ ?_
  · refine sm_is hM_h rfl ?_
    refine sm_cV (sf_X10_openSign nn hM_h) ?_; intro u18 hM_u18
    refine sm_oq_add e_l1 rfl ?_; intro v19 y_v19 e_v19
    refine sm_is hM_u18 rfl ?_
    refine sm_cV (hr.2.2.1 e_v19 hM_u18) ?_; intro u21 hM_u21
    refine sm_oq_add e_l4 rfl ?_; intro v22 y_v22 e_v22
    exact hk_kk_30 e_l1 e_l2 e_l3 e_v22 hM_u21
  · refine sm_is hM_h rfl ?_
    refine sm_cV (sf_X10_readInstanceof nn hM_h) ?_; intro u24 hM_u24
    refine sm_oq_add e_l4 rfl ?_; intro v25 y_v25 e_v25
    exact hk_kk_30 e_l1 e_l2 e_l3 e_v25 hM_u24
set_option maxRecDepth 4000 in
theorem sw_X10_readValue_54 (nn : Nat) {frc : tg_X10_readValue} {rc : tq_X10_readValue} (hr : hg_X10_readValue frc rc) {kk_30 : Nat → Int32 → Int32 → Int32 → Int32 → mx_H → Option mx_H} {qkk_30 : Int → Int → Int → Int → ms_M → Option ms_M} (hk_kk_30 : ∀ {l1 : Int32} {y_l1 : Int} (e_l1 : l1.toInt = y_l1) {l2 : Int32} {y_l2 : Int} (e_l2 : l2.toInt = y_l2) {l3 : Int32} {y_l3 : Int} (e_l3 : l3.toInt = y_l3) {l4 : Int32} {y_l4 : Int} (e_l4 : l4.toInt = y_l4) {h : ms_M} (hM_h : Rg_M h), Sm_ RV_ (kk_30 49 l1 l2 l3 l4 (H_M h)) (qkk_30 y_l1 y_l2 y_l3 y_l4 h)) : ∀ (k : Nat) {l1 : Int32} {y_l1 : Int} (e_l1 : l1.toInt = y_l1) {l2 : Int32} {y_l2 : Int} (e_l2 : l2.toInt = y_l2) {l3 : Int32} {y_l3 : Int} (e_l3 : l3.toInt = y_l3) {l4 : Int32} {y_l4 : Int} (e_l4 : l4.toInt = y_l4) {l5 : Int32} {y_l5 : Int} (e_l5 : l5.toInt = y_l5) {h : ms_M} (hM_h : Rg_M h), Sm_ RV_ (w_X10_readValue_54 nn frc kk_30 k 49 l1 l2 l3 l4 l5 (H_M h)) (qw_X10_readValue_54 nn rc qkk_30 k y_l1 y_l2 y_l3 y_l4 y_l5 h) := by
  intro k
  induction k with
  | zero => intros; exact sm_no
  | succ k ih =>
    intro l1 y_l1 e_l1 l2 y_l2 e_l2 l3 y_l3 e_l3 l4 y_l4 e_l4 l5 y_l5 e_l5 h hM_h
    unfold w_X10_readValue_54 qw_X10_readValue_54
    refine sm_le rfl e_l5 ?_ ?_
    · exact sj_X10_readValue_90 nn hr hk_kk_30 e_l1 e_l2 e_l3 e_l4 hM_h
    · refine sm_gr hM_h (d := 2) rfl ?_
      refine sm_is hM_h rfl ?_
      refine sm_cP (sf_X9_kind nn hM_h) ?_; intro u29 y_u29 e_u29
      refine sm_cP (sf_X9_level nn e_u29 hM_h) ?_; intro u30 y_u30 e_u30
      refine sm_is hM_h rfl ?_
      refine sm_cP (sf_X10_isSignDue nn e_l3 e_u30 hM_h) ?_; intro u32 y_u32 e_u32
      refine sm_eq e_u32 rfl ?_ ?_
      · exact sj_X10_readValue_90 nn hr hk_kk_30 e_l1 e_l2 e_l3 e_l4 hM_h
      · refine sm_is hM_h rfl ?_
        refine sm_cV (sf_X10_closeSign nn hM_h) ?_; intro u34 hM_u34
        refine sm_oq_add e_l5 rfl ?_; intro v35 y_v35 e_v35
        exact ih e_l1 e_l2 e_l3 e_l4 e_v35 hM_u34
set_option maxRecDepth 4000 in
theorem sw_X10_readValue_30 (nn : Nat) {frc : tg_X10_readValue} {rc : tq_X10_readValue} (hr : hg_X10_readValue frc rc) : ∀ (k : Nat) {l1 : Int32} {y_l1 : Int} (e_l1 : l1.toInt = y_l1) {l2 : Int32} {y_l2 : Int} (e_l2 : l2.toInt = y_l2) {l3 : Int32} {y_l3 : Int} (e_l3 : l3.toInt = y_l3) {l4 : Int32} {y_l4 : Int} (e_l4 : l4.toInt = y_l4) {h : ms_M} (hM_h : Rg_M h), Sm_ RV_ (w_X10_readValue_30 nn frc k 49 l1 l2 l3 l4 (H_M h)) (qw_X10_readValue_30 nn rc k y_l1 y_l2 y_l3 y_l4 h) := by
  intro k
  induction k with
  | zero => intros; exact sm_no
  | succ k ih =>
    intro l1 y_l1 e_l1 l2 y_l2 e_l2 l3 y_l3 e_l3 l4 y_l4 e_l4 h hM_h
    unfold w_X10_readValue_30 qw_X10_readValue_30
    refine sm_le rfl e_l4 ?_ ?_
    · exact sw_X10_readValue_129 nn hr nn e_l1 e_l2 e_l3 rfl hM_h
    · refine sm_gr hM_h (d := 2) rfl ?_
      refine sm_is hM_h rfl ?_
      refine sm_cP (sf_X9_kind nn hM_h) ?_; intro u40 y_u40 e_u40
      refine sm_cP (sf_X9_level nn e_u40 hM_h) ?_; intro u41 y_u41 e_u41
      refine sm_le e_u41 rfl ?_ ?_
      · exact sw_X10_readValue_129 nn hr nn e_l1 e_l2 e_l3 rfl hM_h
      · exact sw_X10_readValue_54 nn hr ih nn e_l1 e_l2 e_l3 e_l4 rfl hM_h
set_option maxRecDepth 4000 in
theorem so_X10_readValue (nn : Nat) {frc : tg_X10_readValue} {rc : tq_X10_readValue} (hr : hg_X10_readValue frc rc) {a1 : Int32} {y_a1 : Int} (e_a1 : a1.toInt = y_a1) {h : ms_M} (hM_h : Rg_M h) : Sm_ RV_ (o_X10_readValue nn frc 49 a1 (H_M h)) (qo_X10_readValue nn rc y_a1 h) := by
  unfold o_X10_readValue qo_X10_readValue
  refine sm_le e_a1 rfl ?_ ?_
  · refine sm_gr hM_h (d := 2) rfl ?_
    refine sm_gi hM_h rfl ?_; intro v45 e_v45
    refine sm_gi hM_h rfl ?_; intro v46 e_v46
    refine sm_oq_add e_a1 rfl ?_; intro v47 y_v47 e_v47
    refine sm_is hM_h rfl ?_
    refine sm_cV (hr.2.2.1 e_v47 hM_h) ?_; intro u49 hM_u49
    exact sw_X10_readValue_30 nn hr nn e_a1 e_v45 e_v46 rfl hM_u49
  · exact sm_rV hM_h
set_option maxRecDepth 4000 in
theorem sj_X10_readChoice_158 (nn : Nat) {frc : tg_X10_readValue} {rc : tq_X10_readValue} (hr : hg_X10_readValue frc rc) {l6 : Int32} {y_l6 : Int} (e_l6 : l6.toInt = y_l6) {s0 : Int32} {y_s0 : Int} (e_s0 : s0.toInt = y_s0) {h : ms_M} (hM_h : Rg_M h) : Sm_ RV_ (j_X10_readChoice_158 nn frc 49 l6 s0 49 (H_M h)) (qj_X10_readChoice_158 nn rc y_l6 y_s0 h) := by
  unfold j_X10_readChoice_158 qj_X10_readChoice_158
  refine sm_pv hM_h rfl e_s0 ?_; intro h1 hM_h1
  refine sm_gr hM_h1 (d := 34) rfl ?_
  refine sm_is hM_h1 rfl ?_
  refine sm_cV (sf_X1_pop nn rfl hM_h1) ?_; intro u4 hM_u4
  refine sm_gr hM_u4 (d := 34) rfl ?_
  refine sm_gi hM_u4 rfl ?_; intro v6 e_v6
  refine sm_is hM_u4 rfl ?_
  refine sm_cV (sf_X1_push nn e_v6 hM_u4) ?_; intro u8 hM_u8
  refine sm_gr hM_u8 (d := 34) rfl ?_
  refine sm_is hM_u8 rfl ?_
  refine sm_cV (sf_X1_aimHere nn e_l6 hM_u8) ?_; intro u11 hM_u11
  refine sm_pv hM_u11 rfl rfl ?_; intro h12 hM_h12
  exact sm_rV hM_h12
set_option maxRecDepth 4000 in
theorem sj_X10_readChoice_24 (nn : Nat) {frc : tg_X10_readValue} {rc : tq_X10_readValue} (hr : hg_X10_readValue frc rc) {l1 : Int32} {y_l1 : Int} (e_l1 : l1.toInt = y_l1) {l2 : Int32} {y_l2 : Int} (e_l2 : l2.toInt = y_l2) {l3 : Int32} {y_l3 : Int} (e_l3 : l3.toInt = y_l3) {s0 : Int32} {y_s0 : Int} (e_s0 : s0.toInt = y_s0) {h : ms_M} (hM_h : Rg_M h) : Sm_ RV_ (j_X10_readChoice_24 nn frc 49 l1 l2 l3 s0 49 (H_M h)) (qj_X10_readChoice_24 nn rc y_l1 y_l2 y_l3 y_s0 h) := by
  unfold j_X10_readChoice_24 qj_X10_readChoice_24
  refine sm_is hM_h rfl ?_
  refine sm_cV (sf_X10_wantType nn e_s0 e_l1 hM_h) ?_; intro u14 hM_u14
  refine sm_gr hM_u14 (d := 34) rfl ?_
  refine sm_is hM_u14 rfl ?_
  refine sm_cI (sf_X1_jump nn rfl rfl hM_u14) ?_; intro u17 y_u17 M_u17 e_u17 hM_u17
  refine sm_gr hM_u17 (d := 2) rfl ?_
  refine sm_gi hM_u17 rfl ?_; intro v19 e_v19
  refine sm_oq_add e_v19 rfl ?_; intro v20 y_v20 e_v20
  refine sm_pv hM_u17 rfl e_v20 ?_; intro h21 hM_h21
  refine sm_oq_add e_l2 rfl ?_; intro v22 y_v22 e_v22
  refine sm_is hM_h21 rfl ?_
  refine sm_cV (hr.1 e_v22 hM_h21) ?_; intro u24 hM_u24
  refine sm_gi hM_u24 rfl ?_; intro v25 e_v25
  refine sm_gr hM_u24 (d := 34) rfl ?_
  refine sm_is hM_u24 rfl ?_
  refine sm_cI (sf_X1_jump nn rfl rfl hM_u24) ?_; intro u28 y_u28 M_u28 e_u28 hM_u28
  refine sm_gr hM_u28 (d := 34) rfl ?_
  refine sm_is hM_u28 rfl ?_
  refine sm_cV (sf_X1_pop nn rfl hM_u28) ?_; intro u31 hM_u31
  refine sm_gr hM_u31 (d := 34) rfl ?_
  refine sm_is hM_u31 rfl ?_
  refine sm_cV (sf_X1_aimHere nn e_u17 hM_u31) ?_; intro u34 hM_u34
  refine sm_gr hM_u34 (d := 2) rfl ?_
  refine sm_gi hM_u34 rfl ?_; intro v36 e_v36
  refine sm_oq_add e_v36 rfl ?_; intro v37 y_v37 e_v37
  refine sm_pv hM_u34 rfl e_v37 ?_; intro h38 hM_h38
  refine sm_oq_add e_l2 rfl ?_; intro v39 y_v39 e_v39
  refine sm_is hM_h38 rfl ?_
  refine sm_cV (hr.1 e_v39 hM_h38) ?_; intro u41 hM_u41
  refine sm_gi hM_u41 rfl ?_; intro v42 e_v42
  refine sm_is hM_u41 rfl ?_
  refine sm_cP (sf_X10_isPair nn e_v25 e_v42 hM_u41) ?_; intro u44 y_u44 e_u44
  refine sm_is hM_u41 rfl ?_
  refine sm_cV (sf_X10_wantType nn e_u44 e_l3 hM_u41) ?_; intro u46 hM_u46
  refine sm_gr hM_u46 (d := 12) rfl ?_
  refine sm_gi hM_u46 rfl ?_; intro v48 e_v48
  refine sm_is hM_u46 rfl ?_
  refine sm_cP (sf_X4_fits nn _ rfl e_v25 e_v48 hM_u46) ?_; intro u50 y_u50 e_u50
  refine sm_eq e_u50 rfl ?_ ?_
  · exact sj_X10_readChoice_158 nn hr e_u28 e_v25 hM_u46
  · refine sm_gi hM_u46 rfl ?_; intro v51 e_v51
    exact sj_X10_readChoice_158 nn hr e_u28 e_v51 hM_u46
set_option maxRecDepth 4000 in
theorem so_X10_readChoice (nn : Nat) {frc : tg_X10_readValue} {rc : tq_X10_readValue} (hr : hg_X10_readValue frc rc) {a1 : Int32} {y_a1 : Int} (e_a1 : a1.toInt = y_a1) {a2 : Int32} {y_a2 : Int} (e_a2 : a2.toInt = y_a2) {h : ms_M} (hM_h : Rg_M h) : Sm_ RV_ (o_X10_readChoice nn frc 49 a1 a2 (H_M h)) (qo_X10_readChoice nn rc y_a1 y_a2 h) := by
  unfold o_X10_readChoice qo_X10_readChoice
  refine sm_gr hM_h (d := 2) rfl ?_
  refine sm_gi hM_h rfl ?_; intro v54 e_v54
  refine sm_gi hM_h rfl ?_; intro v55 e_v55
  refine sm_ne e_v55 rfl ?_ ?_
  · exact sj_X10_readChoice_24 nn hr e_a1 e_a2 e_v54 rfl hM_h
  · exact sj_X10_readChoice_24 nn hr e_a1 e_a2 e_v54 rfl hM_h
set_option maxRecDepth 4000 in
theorem sj_X10_readUnary_116 (nn : Nat) {frc : tg_X10_readValue} {rc : tq_X10_readValue} (hr : hg_X10_readValue frc rc) {l2 : Int32} {y_l2 : Int} (e_l2 : l2.toInt = y_l2) {h : ms_M} (hM_h : Rg_M h) : Sm_ RV_ (j_X10_readUnary_116 nn frc 49 l2 (H_M h)) (qj_X10_readUnary_116 nn rc y_l2 h) := by
  unfold j_X10_readUnary_116 qj_X10_readUnary_116
  refine sm_pv hM_h rfl e_l2 ?_; intro h1 hM_h1
  exact sm_rV hM_h1
set_option maxRecDepth 4000 in
theorem sj_X10_readUnary_41 (nn : Nat) {frc : tg_X10_readValue} {rc : tq_X10_readValue} (hr : hg_X10_readValue frc rc) {l1 : Int32} {y_l1 : Int} (e_l1 : l1.toInt = y_l1) {l2 : Int32} {y_l2 : Int} (e_l2 : l2.toInt = y_l2) {l3 : Int32} {y_l3 : Int} (e_l3 : l3.toInt = y_l3) {h : ms_M} (hM_h : Rg_M h) : Sm_ RV_ (j_X10_readUnary_41 nn frc 49 l1 l2 l3 (H_M h)) (qj_X10_readUnary_41 nn rc y_l1 y_l2 y_l3 h) := by
  unfold j_X10_readUnary_41 qj_X10_readUnary_41
  refine sm_gr hM_h (d := 2) rfl ?_
  refine sm_gi hM_h rfl ?_; intro v3 e_v3
  refine sm_oq_add e_v3 rfl ?_; intro v4 y_v4 e_v4
  refine sm_pv hM_h rfl e_v4 ?_; intro h5 hM_h5
  refine sm_oq_add e_l1 rfl ?_; intro v6 y_v6 e_v6
  refine sm_is hM_h5 rfl ?_
  refine sm_cV (hr.2.2.1 e_v6 hM_h5) ?_; intro u8 hM_u8
  refine sm_is hM_u8 rfl ?_
  refine sm_cV (sf_X10_closeUnary nn e_l3 e_l2 hM_u8) ?_; intro u10 hM_u10
  exact sj_X10_readUnary_116 nn hr e_l2 hM_u10
set_option maxRecDepth 4000 in
theorem so_X10_readUnary (nn : Nat) {frc : tg_X10_readValue} {rc : tq_X10_readValue} (hr : hg_X10_readValue frc rc) {a1 : Int32} {y_a1 : Int} (e_a1 : a1.toInt = y_a1) {h : ms_M} (hM_h : Rg_M h) : Sm_ RV_ (o_X10_readUnary nn frc 49 a1 (H_M h)) (qo_X10_readUnary nn rc y_a1 h) := by
  unfold o_X10_readUnary qo_X10_readUnary
  refine sm_le e_a1 rfl ?_ ?_
  · refine sm_gr hM_h (d := 2) rfl ?_
    refine sm_gi hM_h rfl ?_; intro v12 e_v12
    refine sm_gr hM_h (d := 2) rfl ?_
    refine sm_is hM_h rfl ?_
    refine sm_cP (sf_X9_kind nn hM_h) ?_; intro u15 y_u15 e_u15
    refine sm_eq e_u15 rfl ?_ ?_
    · exact sj_X10_readUnary_41 nn hr e_a1 e_v12 e_u15 hM_h
    · refine sm_eq e_u15 rfl ?_ ?_
      · exact sj_X10_readUnary_41 nn hr e_a1 e_v12 e_u15 hM_h
      · refine sm_ne e_u15 rfl ?_ ?_
        · refine sm_gr hM_h (d := 2) rfl ?_
          refine sm_is hM_h rfl ?_
          refine sm_cP (sf_X9_beginsCast nn hM_h) ?_; intro u18 y_u18 e_u18
          refine sm_eq e_u18 rfl ?_ ?_
          · refine sm_is hM_h rfl ?_
            refine sm_cV (hr.2.2.2.1 e_a1 hM_h) ?_; intro u20 hM_u20
            exact sj_X10_readUnary_116 nn hr e_v12 hM_u20
          · refine sm_oq_add e_v12 rfl ?_; intro v21 y_v21 e_v21
            refine sm_oq_add e_v12 rfl ?_; intro v22 y_v22 e_v22
            refine sm_is hM_h rfl ?_
            refine sm_cI (sf_X10_readNamedClass nn e_v21 e_v22 hM_h) ?_; intro u24 y_u24 M_u24 e_u24 hM_u24
            refine sm_oq_add e_a1 rfl ?_; intro v25 y_v25 e_v25
            refine sm_is hM_u24 rfl ?_
            refine sm_cV (hr.2.2.1 e_v25 hM_u24) ?_; intro u27 hM_u27
            refine sm_oq_add e_v12 rfl ?_; intro v28 y_v28 e_v28
            refine sm_is hM_u27 rfl ?_
            refine sm_cV (sf_X10_closeCast nn e_u24 e_v28 hM_u27) ?_; intro u30 hM_u30
            exact sj_X10_readUnary_116 nn hr e_v12 hM_u30
        · exact sj_X10_readUnary_41 nn hr e_a1 e_v12 e_u15 hM_h
  · exact sm_rV hM_h
set_option maxRecDepth 4000 in
theorem sj_X10_readPrimary_176 (nn : Nat) {frc : tg_X10_readValue} {rc : tq_X10_readValue} (hr : hg_X10_readValue frc rc) {l3 : Int32} {y_l3 : Int} (e_l3 : l3.toInt = y_l3) {h : ms_M} (hM_h : Rg_M h) : Sm_ RV_ (j_X10_readPrimary_176 nn frc 49 l3 (H_M h)) (qj_X10_readPrimary_176 nn rc y_l3 h) := by
  unfold j_X10_readPrimary_176 qj_X10_readPrimary_176
  refine sm_eq e_l3 rfl ?_ ?_
  · exact sm_rV hM_h
  · refine sm_is hM_h rfl ?_
    refine sm_cV (sf_X10_fetch nn hM_h) ?_; intro u2 hM_u2
    exact sm_rV hM_u2
set_option maxRecDepth 4000 in
theorem sj_X10_readPrimary_162 (nn : Nat) {frc : tg_X10_readValue} {rc : tq_X10_readValue} (hr : hg_X10_readValue frc rc) {kk_118 : Nat → Int32 → Int32 → Int32 → Int32 → mx_H → Option mx_H} {qkk_118 : Int → Int → Int → Int → ms_M → Option ms_M} (hk_kk_118 : ∀ {l1 : Int32} {y_l1 : Int} (e_l1 : l1.toInt = y_l1) {l2 : Int32} {y_l2 : Int} (e_l2 : l2.toInt = y_l2) {l3 : Int32} {y_l3 : Int} (e_l3 : l3.toInt = y_l3) {l4 : Int32} {y_l4 : Int} (e_l4 : l4.toInt = y_l4) {h : ms_M} (hM_h : Rg_M h), Sm_ RV_ (kk_118 49 l1 l2 l3 l4 (H_M h)) (qkk_118 y_l1 y_l2 y_l3 y_l4 h)) {l1 : Int32} {y_l1 : Int} (e_l1 : l1.toInt = y_l1) {l2 : Int32} {y_l2 : Int} (e_l2 : l2.toInt = y_l2) {l4 : Int32} {y_l4 : Int} (e_l4 : l4.toInt = y_l4) {h : ms_M} (hM_h : Rg_M h) : Sm_ RV_ (j_X10_readPrimary_162 nn frc kk_118 49 l1 l2 l4 (H_M h)) (qj_X10_readPrimary_162 nn rc qkk_118 y_l1 y_l2 y_l4 h) := by
  unfold j_X10_readPrimary_162 qj_X10_readPrimary_162
  refine sm_gr hM_h (d := 2) rfl ?_
  refine sm_is hM_h rfl ?_
  refine sm_cP (sf_X9_kind nn hM_h) ?_; intro u6 y_u6 e_u6
  refine sm_oq_add e_l4 rfl ?_; intro v7 y_v7 e_v7
  exact hk_kk_118 e_l1 e_l2 e_u6 e_v7 hM_h
set_option maxRecDepth 4000 in
theorem sj_X10_readPrimary_138 (nn : Nat) {frc : tg_X10_readValue} {rc : tq_X10_readValue} (hr : hg_X10_readValue frc rc) {kk_118 : Nat → Int32 → Int32 → Int32 → Int32 → mx_H → Option mx_H} {qkk_118 : Int → Int → Int → Int → ms_M → Option ms_M} (hk_kk_118 : ∀ {l1 : Int32} {y_l1 : Int} (e_l1 : l1.toInt = y_l1) {l2 : Int32} {y_l2 : Int} (e_l2 : l2.toInt = y_l2) {l3 : Int32} {y_l3 : Int} (e_l3 : l3.toInt = y_l3) {l4 : Int32} {y_l4 : Int} (e_l4 : l4.toInt = y_l4) {h : ms_M} (hM_h : Rg_M h), Sm_ RV_ (kk_118 49 l1 l2 l3 l4 (H_M h)) (qkk_118 y_l1 y_l2 y_l3 y_l4 h)) {l1 : Int32} {y_l1 : Int} (e_l1 : l1.toInt = y_l1) {l2 : Int32} {y_l2 : Int} (e_l2 : l2.toInt = y_l2) {l3 : Int32} {y_l3 : Int} (e_l3 : l3.toInt = y_l3) {l4 : Int32} {y_l4 : Int} (e_l4 : l4.toInt = y_l4) {h : ms_M} (hM_h : Rg_M h) : Sm_ RV_ (j_X10_readPrimary_138 nn frc kk_118 49 l1 l2 l3 l4 (H_M h)) (qj_X10_readPrimary_138 nn rc qkk_118 y_l1 y_l2 y_l3 y_l4 h) := by
  unfold j_X10_readPrimary_138 qj_X10_readPrimary_138
  refine sm_is hM_h rfl ?_
  refine sm_cV (sf_X10_fetch nn hM_h) ?_; intro u9 hM_u9
  refine sm_ne e_l3 rfl ?_ ?_
  · refine sm_is hM_u9 rfl ?_
    refine sm_cV (hr.2.2.2.2.2.1 e_l1 hM_u9) ?_; intro u11 hM_u11
    exact sj_X10_readPrimary_162 nn hr hk_kk_118 e_l1 e_l2 e_l4 hM_u11
  · refine sm_is hM_u9 rfl ?_
    refine sm_cV (hr.2.2.2.2.2.2.2.1 e_l2 e_l1 hM_u9) ?_; intro u13 hM_u13
    exact sj_X10_readPrimary_162 nn hr hk_kk_118 e_l1 e_l2 e_l4 hM_u13
set_option maxRecDepth 4000 in
theorem sw_X10_readPrimary_118 (nn : Nat) {frc : tg_X10_readValue} {rc : tq_X10_readValue} (hr : hg_X10_readValue frc rc) : ∀ (k : Nat) {l1 : Int32} {y_l1 : Int} (e_l1 : l1.toInt = y_l1) {l2 : Int32} {y_l2 : Int} (e_l2 : l2.toInt = y_l2) {l3 : Int32} {y_l3 : Int} (e_l3 : l3.toInt = y_l3) {l4 : Int32} {y_l4 : Int} (e_l4 : l4.toInt = y_l4) {h : ms_M} (hM_h : Rg_M h), Sm_ RV_ (w_X10_readPrimary_118 nn frc k 49 l1 l2 l3 l4 (H_M h)) (qw_X10_readPrimary_118 nn rc k y_l1 y_l2 y_l3 y_l4 h) := by
  intro k
  induction k with
  | zero => intros; exact sm_no
  | succ k ih =>
    intro l1 y_l1 e_l1 l2 y_l2 e_l2 l3 y_l3 e_l3 l4 y_l4 e_l4 h hM_h
    unfold w_X10_readPrimary_118 qw_X10_readPrimary_118
    refine sm_le rfl e_l4 ?_ ?_
    · exact sj_X10_readPrimary_176 nn hr e_l3 hM_h
    · refine sm_eq e_l3 rfl ?_ ?_
      · exact sj_X10_readPrimary_138 nn hr ih e_l1 e_l2 e_l3 e_l4 hM_h
      · refine sm_ne e_l3 rfl ?_ ?_
        · exact sj_X10_readPrimary_176 nn hr e_l3 hM_h
        · exact sj_X10_readPrimary_138 nn hr ih e_l1 e_l2 e_l3 e_l4 hM_h
set_option maxRecDepth 4000 in
theorem sj_X10_readPrimary_107 (nn : Nat) {frc : tg_X10_readValue} {rc : tq_X10_readValue} (hr : hg_X10_readValue frc rc) {l1 : Int32} {y_l1 : Int} (e_l1 : l1.toInt = y_l1) {l2 : Int32} {y_l2 : Int} (e_l2 : l2.toInt = y_l2) {h : ms_M} (hM_h : Rg_M h) : Sm_ RV_ (j_X10_readPrimary_107 nn frc 49 l1 l2 (H_M h)) (qj_X10_readPrimary_107 nn rc y_l1 y_l2 h) := by
  unfold j_X10_readPrimary_107 qj_X10_readPrimary_107
  refine sm_gr hM_h (d := 2) rfl ?_
  refine sm_is hM_h rfl ?_
  refine sm_cP (sf_X9_kind nn hM_h) ?_; intro u20 y_u20 e_u20
  exact sw_X10_readPrimary_118 nn hr nn e_l1 e_l2 e_u20 rfl hM_h
set_option maxRecDepth 4000 in
theorem so_X10_readPrimary (nn : Nat) {frc : tg_X10_readValue} {rc : tq_X10_readValue} (hr : hg_X10_readValue frc rc) {a1 : Int32} {y_a1 : Int} (e_a1 : a1.toInt = y_a1) {h : ms_M} (hM_h : Rg_M h) : Sm_ RV_ (o_X10_readPrimary nn frc 49 a1 (H_M h)) (qo_X10_readPrimary nn rc y_a1 h) := by
  unfold o_X10_readPrimary qo_X10_readPrimary
  refine sm_gr hM_h (d := 2) rfl ?_
  refine sm_gi hM_h rfl ?_; intro v22 e_v22
  refine sm_gr hM_h (d := 2) rfl ?_
  refine sm_is hM_h rfl ?_
  refine sm_cP (sf_X9_kind nn hM_h) ?_; intro u25 y_u25 e_u25
  refine sm_eq e_u25 rfl ?_ ?_
  · refine sm_is hM_h rfl ?_
    refine sm_cV (hr.2.2.2.2.2.2.1 e_a1 hM_h) ?_; intro u29 hM_u29
    exact sj_X10_readPrimary_107 nn hr e_a1 e_v22 hM_u29
  · refine sm_eq e_u25 rfl ?_ ?_
    · refine sm_is hM_h rfl ?_
      refine sm_cV (hr.2.2.2.2.1 e_a1 hM_h) ?_; intro u31 hM_u31
      exact sj_X10_readPrimary_107 nn hr e_a1 e_v22 hM_u31
    · refine sm_eq e_u25 rfl ?_ ?_
      · refine sm_gr hM_h (d := 2) rfl ?_
        refine sm_gi hM_h rfl ?_; intro v33 e_v33
        refine sm_oq_add e_v33 rfl ?_; intro v34 y_v34 e_v34
        refine sm_pv hM_h rfl e_v34 ?_; intro h35 hM_h35
        refine sm_is hM_h35 rfl ?_
        refine sm_cV (hr.1 e_a1 hM_h35) ?_; intro u37 hM_u37
        refine sm_gr hM_u37 (d := 2) rfl ?_
        refine sm_gi hM_u37 rfl ?_; intro v39 e_v39
        refine sm_oq_add e_v39 rfl ?_; intro v40 y_v40 e_v40
        refine sm_pv hM_u37 rfl e_v40 ?_; intro h41 hM_h41
        refine sm_pv hM_h41 rfl rfl ?_; intro h42 hM_h42
        exact sj_X10_readPrimary_107 nn hr e_a1 e_v22 hM_h42
      · refine sm_is hM_h rfl ?_
        refine sm_cV (sf_X10_readConstant nn hM_h) ?_; intro u27 hM_u27
        exact sj_X10_readPrimary_107 nn hr e_a1 e_v22 hM_u27
set_option maxRecDepth 4000 in
theorem sj_X10_readNew_188 (nn : Nat) {frc : tg_X10_readValue} {rc : tq_X10_readValue} (hr : hg_X10_readValue frc rc) {l3 : Int32} {y_l3 : Int} (e_l3 : l3.toInt = y_l3) {l4 : Int32} {y_l4 : Int} (e_l4 : l4.toInt = y_l4) {s0 : Int32} {y_s0 : Int} (e_s0 : s0.toInt = y_s0) {s1 : Int32} {y_s1 : Int} (e_s1 : s1.toInt = y_s1) {h : ms_M} (hM_h : Rg_M h) : Sm_ RV_ (j_X10_readNew_188 nn frc 49 l3 l4 s0 s1 34 (H_M h)) (qj_X10_readNew_188 nn rc y_l3 y_l4 y_s0 y_s1 h) := by
  unfold j_X10_readNew_188 qj_X10_readNew_188
  refine sm_is hM_h rfl ?_
  refine sm_cV (sf_X1_op_ nn e_s1 e_s0 hM_h) ?_; intro u2 hM_u2
  refine sm_gr hM_u2 (d := 34) rfl ?_
  refine sm_is hM_u2 rfl ?_
  refine sm_cV (sf_X1_pop nn rfl hM_u2) ?_; intro u5 hM_u5
  refine sm_eq e_l3 rfl ?_ ?_
  · refine sm_oq_add rfl e_l4 ?_; intro v6 y_v6 e_v6
    refine sm_is hM_u5 rfl ?_
    refine sm_cV (sf_X10_give nn e_v6 hM_u5) ?_; intro u8 hM_u8
    exact sm_rV hM_u8
  · refine sm_is hM_u5 rfl ?_
    refine sm_cV (sf_X10_give nn rfl hM_u5) ?_; intro u10 hM_u10
    exact sm_rV hM_u10
set_option maxRecDepth 4000 in
theorem sj_X10_readNew_170 (nn : Nat) {frc : tg_X10_readValue} {rc : tq_X10_readValue} (hr : hg_X10_readValue frc rc) {l3 : Int32} {y_l3 : Int} (e_l3 : l3.toInt = y_l3) {l4 : Int32} {y_l4 : Int} (e_l4 : l4.toInt = y_l4) {s0 : Int32} {y_s0 : Int} (e_s0 : s0.toInt = y_s0) {h : ms_M} (hM_h : Rg_M h) : Sm_ RV_ (j_X10_readNew_170 nn frc 49 l3 l4 s0 34 (H_M h)) (qj_X10_readNew_170 nn rc y_l3 y_l4 y_s0 h) := by
  unfold j_X10_readNew_170 qj_X10_readNew_170
  refine sm_eq e_l3 rfl ?_ ?_
  · refine sm_gr hM_h (d := 45) rfl ?_
    refine sm_is hM_h rfl ?_
    refine sm_cI (sf_X6_classOf nn e_l4 hM_h) ?_; intro u14 y_u14 M_u14 e_u14 hM_u14
    exact sj_X10_readNew_188 nn hr e_l3 e_l4 e_u14 e_s0 hM_u14
  · exact sj_X10_readNew_188 nn hr e_l3 e_l4 rfl e_s0 hM_h
set_option maxRecDepth 4000 in
theorem sj_X10_readNew_147 (nn : Nat) {frc : tg_X10_readValue} {rc : tq_X10_readValue} (hr : hg_X10_readValue frc rc) {l2 : Int32} {y_l2 : Int} (e_l2 : l2.toInt = y_l2) {l3 : Int32} {y_l3 : Int} (e_l3 : l3.toInt = y_l3) {l4 : Int32} {y_l4 : Int} (e_l4 : l4.toInt = y_l4) {s0 : Int32} {y_s0 : Int} (e_s0 : s0.toInt = y_s0) {h : ms_M} (hM_h : Rg_M h) : Sm_ RV_ (j_X10_readNew_147 nn frc 49 l2 l3 l4 s0 49 (H_M h)) (qj_X10_readNew_147 nn rc y_l2 y_l3 y_l4 y_s0 h) := by
  unfold j_X10_readNew_147 qj_X10_readNew_147
  refine sm_oq_add e_l2 rfl ?_; intro v16 y_v16 e_v16
  refine sm_is hM_h rfl ?_
  refine sm_cV (sf_X10_wantType nn e_s0 e_v16 hM_h) ?_; intro u18 hM_u18
  refine sm_gr hM_u18 (d := 34) rfl ?_
  refine sm_eq e_l3 rfl ?_ ?_
  · exact sj_X10_readNew_170 nn hr e_l3 e_l4 rfl hM_u18
  · exact sj_X10_readNew_170 nn hr e_l3 e_l4 rfl hM_u18
set_option maxRecDepth 4000 in
theorem sj_X10_readNew_43 (nn : Nat) {frc : tg_X10_readValue} {rc : tq_X10_readValue} (hr : hg_X10_readValue frc rc) {l1 : Int32} {y_l1 : Int} (e_l1 : l1.toInt = y_l1) {l2 : Int32} {y_l2 : Int} (e_l2 : l2.toInt = y_l2) {l3 : Int32} {y_l3 : Int} (e_l3 : l3.toInt = y_l3) {s0 : Int32} {y_s0 : Int} (e_s0 : s0.toInt = y_s0) {h : ms_M} (hM_h : Rg_M h) : Sm_ RV_ (j_X10_readNew_43 nn frc 49 l1 l2 l3 s0 (H_M h)) (qj_X10_readNew_43 nn rc y_l1 y_l2 y_l3 y_s0 h) := by
  unfold j_X10_readNew_43 qj_X10_readNew_43
  refine sm_ne e_s0 rfl ?_ ?_
  · refine sm_gr hM_h (d := 2) rfl ?_
    refine sm_oq_add e_l2 rfl ?_; intro v22 y_v22 e_v22
    refine sm_is hM_h rfl ?_
    refine sm_cP (sf_X9_kindAt nn e_v22 hM_h) ?_; intro u24 y_u24 e_u24
    refine sm_ne e_u24 rfl ?_ ?_
    · refine sm_gr hM_h (d := 2) rfl ?_
      refine sm_oq_add e_l2 rfl ?_; intro v26 y_v26 e_v26
      refine sm_pv hM_h rfl e_v26 ?_; intro h27 hM_h27
      refine sm_is hM_h27 rfl ?_
      refine sm_cV (hr.1 e_l1 hM_h27) ?_; intro u29 hM_u29
      refine sm_gr hM_u29 (d := 2) rfl ?_
      refine sm_gi hM_u29 rfl ?_; intro v31 e_v31
      refine sm_oq_add e_v31 rfl ?_; intro v32 y_v32 e_v32
      refine sm_pv hM_u29 rfl e_v32 ?_; intro h33 hM_h33
      refine sm_gi hM_h33 rfl ?_; intro v34 e_v34
      refine sm_ne e_v34 rfl ?_ ?_
      · exact sj_X10_readNew_147 nn hr e_l2 e_l3 e_s0 rfl hM_h33
      · exact sj_X10_readNew_147 nn hr e_l2 e_l3 e_s0 rfl hM_h33
    · refine sm_gr hM_h (d := 2) rfl ?_
      refine sm_oq_add e_l2 rfl ?_; intro v37 y_v37 e_v37
      refine sm_pv hM_h rfl e_v37 ?_; intro h38 hM_h38
      refine sm_gr hM_h38 (d := 34) rfl ?_
      refine sm_gr hM_h38 (d := 45) rfl ?_
      refine sm_is hM_h38 rfl ?_
      refine sm_cI (sf_X6_classOf nn e_s0 hM_h38) ?_; intro u42 y_u42 M_u42 e_u42 hM_u42
      refine sm_is hM_u42 rfl ?_
      refine sm_cV (sf_X1_op_ nn rfl e_u42 hM_u42) ?_; intro u44 hM_u44
      refine sm_is hM_u44 rfl ?_
      refine sm_cV (sf_X10_give nn e_s0 hM_u44) ?_; intro u46 hM_u46
      exact sm_rV hM_u46
  · exact sm_rV hM_h
set_option maxRecDepth 4000 in
theorem sj_X10_readNew_28 (nn : Nat) {frc : tg_X10_readValue} {rc : tq_X10_readValue} (hr : hg_X10_readValue frc rc) {l1 : Int32} {y_l1 : Int} (e_l1 : l1.toInt = y_l1) {l2 : Int32} {y_l2 : Int} (e_l2 : l2.toInt = y_l2) {s0 : Int32} {y_s0 : Int} (e_s0 : s0.toInt = y_s0) {h : ms_M} (hM_h : Rg_M h) : Sm_ RV_ (j_X10_readNew_28 nn frc 49 l1 l2 s0 (H_M h)) (qj_X10_readNew_28 nn rc y_l1 y_l2 y_s0 h) := by
  unfold j_X10_readNew_28 qj_X10_readNew_28
  refine sm_eq e_s0 rfl ?_ ?_
  · refine sm_is hM_h rfl ?_
    refine sm_cI (sf_X10_readNamedClass nn e_l2 e_l2 hM_h) ?_; intro u50 y_u50 M_u50 e_u50 hM_u50
    exact sj_X10_readNew_43 nn hr e_l1 e_l2 e_s0 e_u50 hM_u50
  · exact sj_X10_readNew_43 nn hr e_l1 e_l2 e_s0 rfl hM_h
set_option maxRecDepth 4000 in
theorem so_X10_readNew (nn : Nat) {frc : tg_X10_readValue} {rc : tq_X10_readValue} (hr : hg_X10_readValue frc rc) {a1 : Int32} {y_a1 : Int} (e_a1 : a1.toInt = y_a1) {h : ms_M} (hM_h : Rg_M h) : Sm_ RV_ (o_X10_readNew nn frc 49 a1 (H_M h)) (qo_X10_readNew nn rc y_a1 h) := by
  unfold o_X10_readNew qo_X10_readNew
  refine sm_gr hM_h (d := 2) rfl ?_
  refine sm_gi hM_h rfl ?_; intro v53 e_v53
  refine sm_oq_add e_v53 rfl ?_; intro v54 y_v54 e_v54
  refine sm_gr hM_h (d := 2) rfl ?_
  refine sm_is hM_h rfl ?_
  refine sm_cP (sf_X9_kindAt nn e_v54 hM_h) ?_; intro u57 y_u57 e_u57
  refine sm_ne e_u57 rfl ?_ ?_
  · exact sj_X10_readNew_28 nn hr e_a1 e_v54 rfl hM_h
  · exact sj_X10_readNew_28 nn hr e_a1 e_v54 rfl hM_h
set_option maxRecDepth 4000 in
theorem sj_X10_readElement_67 (nn : Nat) {frc : tg_X10_readValue} {rc : tq_X10_readValue} (hr : hg_X10_readValue frc rc) {l2 : Int32} {y_l2 : Int} (e_l2 : l2.toInt = y_l2) {l3 : Int32} {y_l3 : Int} (e_l3 : l3.toInt = y_l3) {s0 : Int32} {y_s0 : Int} (e_s0 : s0.toInt = y_s0) {h : ms_M} (hM_h : Rg_M h) : Sm_ RV_ (j_X10_readElement_67 nn frc 49 l2 l3 s0 49 (H_M h)) (qj_X10_readElement_67 nn rc y_l2 y_l3 y_s0 h) := by
  unfold j_X10_readElement_67 qj_X10_readElement_67
  refine sm_is hM_h rfl ?_
  refine sm_cV (sf_X10_wantType nn e_s0 e_l2 hM_h) ?_; intro u2 hM_u2
  refine sm_cP (sf_X4_elementOf nn e_l3 hM_u2) ?_; intro u3 y_u3 e_u3
  refine sm_pv hM_u2 rfl e_u3 ?_; intro h4 hM_h4
  refine sm_pv hM_h4 rfl rfl ?_; intro h5 hM_h5
  exact sm_rV hM_h5
set_option maxRecDepth 4000 in
theorem sj_X10_readElement_66 (nn : Nat) {frc : tg_X10_readValue} {rc : tq_X10_readValue} (hr : hg_X10_readValue frc rc) {l2 : Int32} {y_l2 : Int} (e_l2 : l2.toInt = y_l2) {l3 : Int32} {y_l3 : Int} (e_l3 : l3.toInt = y_l3) {h : ms_M} (hM_h : Rg_M h) : Sm_ RV_ (j_X10_readElement_66 nn frc 49 l2 l3 49 (H_M h)) (qj_X10_readElement_66 nn rc y_l2 y_l3 h) := by
  unfold j_X10_readElement_66 qj_X10_readElement_66
  exact sj_X10_readElement_67 nn hr e_l2 e_l3 rfl hM_h
set_option maxRecDepth 4000 in
theorem so_X10_readElement (nn : Nat) {frc : tg_X10_readValue} {rc : tq_X10_readValue} (hr : hg_X10_readValue frc rc) {a1 : Int32} {y_a1 : Int} (e_a1 : a1.toInt = y_a1) {h : ms_M} (hM_h : Rg_M h) : Sm_ RV_ (o_X10_readElement nn frc 49 a1 (H_M h)) (qo_X10_readElement nn rc y_a1 h) := by
  unfold o_X10_readElement qo_X10_readElement
  refine sm_gr hM_h (d := 2) rfl ?_
  refine sm_gi hM_h rfl ?_; intro v7 e_v7
  refine sm_gi hM_h rfl ?_; intro v8 e_v8
  refine sm_gr hM_h (d := 2) rfl ?_
  refine sm_gi hM_h rfl ?_; intro v10 e_v10
  refine sm_oq_add e_v10 rfl ?_; intro v11 y_v11 e_v11
  refine sm_pv hM_h rfl e_v11 ?_; intro h12 hM_h12
  refine sm_is hM_h12 rfl ?_
  refine sm_cV (hr.1 e_a1 hM_h12) ?_; intro u14 hM_u14
  refine sm_gr hM_u14 (d := 2) rfl ?_
  refine sm_gi hM_u14 rfl ?_; intro v16 e_v16
  refine sm_oq_add e_v16 rfl ?_; intro v17 y_v17 e_v17
  refine sm_pv hM_u14 rfl e_v17 ?_; intro h18 hM_h18
  refine sm_cP (sf_X4_isArray nn e_v8 hM_h18) ?_; intro u19 y_u19 e_u19
  refine sm_eq e_u19 rfl ?_ ?_
  · exact sj_X10_readElement_66 nn hr e_v7 e_v8 hM_h18
  · refine sm_gi hM_h18 rfl ?_; intro v20 e_v20
    refine sm_ne e_v20 rfl ?_ ?_
    · exact sj_X10_readElement_66 nn hr e_v7 e_v8 hM_h18
    · exact sj_X10_readElement_67 nn hr e_v7 e_v8 rfl hM_h18
set_option maxRecDepth 4000 in
theorem sj_X10_readNamed_123 (nn : Nat) {frc : tg_X10_readValue} {rc : tq_X10_readValue} (hr : hg_X10_readValue frc rc) {l1 : Int32} {y_l1 : Int} (e_l1 : l1.toInt = y_l1) {l2 : Int32} {y_l2 : Int} (e_l2 : l2.toInt = y_l2) {l4 : Int32} {y_l4 : Int} (e_l4 : l4.toInt = y_l4) {s0 : Int32} {y_s0 : Int} (e_s0 : s0.toInt = y_s0) {h : ms_M} (hM_h : Rg_M h) : Sm_ RV_ (j_X10_readNamed_123 nn frc 49 l1 l2 l4 s0 (H_M h)) (qj_X10_readNamed_123 nn rc y_l1 y_l2 y_l4 y_s0 h) := by
  unfold j_X10_readNamed_123 qj_X10_readNamed_123
  refine sm_eq e_l4 rfl ?_ ?_
  · refine sm_eq e_s0 rfl ?_ ?_
    · refine sm_oq_add e_l2 rfl ?_; intro v1 y_v1 e_v1
      refine sm_is hM_h rfl ?_
      refine sm_cP (sf_X10_isCallBehindPoint nn e_v1 hM_h) ?_; intro u3 y_u3 e_u3
      refine sm_eq e_u3 rfl ?_ ?_
      · refine sm_gr hM_h (d := 2) rfl ?_
        refine sm_is hM_h rfl ?_
        refine sm_cV (sf_X9_tell nn rfl e_l2 hM_h) ?_; intro u6 hM_u6
        exact sm_rV hM_u6
      · refine sm_oq_add e_l2 rfl ?_; intro v7 y_v7 e_v7
        refine sm_is hM_h rfl ?_
        refine sm_cI (sf_X10_readNamedClass nn e_l2 e_v7 hM_h) ?_; intro u9 y_u9 M_u9 e_u9 hM_u9
        refine sm_oq_add e_l2 rfl ?_; intro v10 y_v10 e_v10
        refine sm_is hM_u9 rfl ?_
        refine sm_cI (sf_X10_methodNamed nn e_u9 e_v10 hM_u9) ?_; intro u12 y_u12 M_u12 e_u12 hM_u12
        refine sm_oq_add e_l2 rfl ?_; intro v13 y_v13 e_v13
        refine sm_is hM_u12 rfl ?_
        refine sm_cV (hr.2.2.2.2.2.2.2.2 e_u9 e_u12 e_v13 rfl e_l2 e_l1 hM_u12) ?_; intro u15 hM_u15
        exact sm_rV hM_u15
    · refine sm_is hM_h rfl ?_
      refine sm_cV (sf_X10_giveThis nn e_l2 hM_h) ?_; intro u18 hM_u18
      refine sm_gi hM_u18 rfl ?_; intro v19 e_v19
      refine sm_is hM_u18 rfl ?_
      refine sm_cV (sf_X10_nameField nn e_v19 e_s0 hM_u18) ?_; intro u21 hM_u21
      exact sm_rV hM_u21
  · refine sm_pv hM_h rfl rfl ?_; intro h23 hM_h23
    refine sm_pv hM_h23 rfl e_l4 ?_; intro h24 hM_h24
    refine sm_gr hM_h24 (d := 34) rfl ?_
    refine sm_is hM_h24 rfl ?_
    refine sm_cP (sf_X1_typeOfLocal nn e_l4 hM_h24) ?_; intro u27 y_u27 e_u27
    refine sm_pv hM_h24 rfl e_u27 ?_; intro h28 hM_h28
    exact sm_rV hM_h28
set_option maxRecDepth 4000 in
theorem sj_X10_readNamed_76 (nn : Nat) {frc : tg_X10_readValue} {rc : tq_X10_readValue} (hr : hg_X10_readValue frc rc) {l1 : Int32} {y_l1 : Int} (e_l1 : l1.toInt = y_l1) {l2 : Int32} {y_l2 : Int} (e_l2 : l2.toInt = y_l2) {l4 : Int32} {y_l4 : Int} (e_l4 : l4.toInt = y_l4) {h : ms_M} (hM_h : Rg_M h) : Sm_ RV_ (j_X10_readNamed_76 nn frc 49 l1 l2 l4 (H_M h)) (qj_X10_readNamed_76 nn rc y_l1 y_l2 y_l4 h) := by
  unfold j_X10_readNamed_76 qj_X10_readNamed_76
  refine sm_gi hM_h rfl ?_; intro v30 e_v30
  refine sm_is hM_h rfl ?_
  refine sm_cV (hr.2.2.2.2.2.2.2.2 e_v30 e_l4 e_l2 rfl e_l2 e_l1 hM_h) ?_; intro u32 hM_u32
  exact sm_rV hM_u32
set_option maxRecDepth 4000 in
theorem so_X10_readNamed (nn : Nat) {frc : tg_X10_readValue} {rc : tq_X10_readValue} (hr : hg_X10_readValue frc rc) {a1 : Int32} {y_a1 : Int} (e_a1 : a1.toInt = y_a1) {h : ms_M} (hM_h : Rg_M h) : Sm_ RV_ (o_X10_readNamed nn frc 49 a1 (H_M h)) (qo_X10_readNamed nn rc y_a1 h) := by
  unfold o_X10_readNamed qo_X10_readNamed
  refine sm_gr hM_h (d := 2) rfl ?_
  refine sm_gi hM_h rfl ?_; intro v34 e_v34
  refine sm_gr hM_h (d := 2) rfl ?_
  refine sm_is hM_h rfl ?_
  refine sm_cP (sf_X9_valueAt nn e_v34 hM_h) ?_; intro u37 y_u37 e_u37
  refine sm_gr hM_h (d := 2) rfl ?_
  refine sm_gi hM_h rfl ?_; intro v39 e_v39
  refine sm_oq_add e_v39 rfl ?_; intro v40 y_v40 e_v40
  refine sm_pv hM_h rfl e_v40 ?_; intro h41 hM_h41
  refine sm_gr hM_h41 (d := 2) rfl ?_
  refine sm_is hM_h41 rfl ?_
  refine sm_cP (sf_X9_kind nn hM_h41) ?_; intro u44 y_u44 e_u44
  refine sm_ne e_u44 rfl ?_ ?_
  · refine sm_gr hM_h41 (d := 34) rfl ?_
    refine sm_is hM_h41 rfl ?_
    refine sm_cP (sf_X1_localOf nn e_u37 hM_h41) ?_; intro u47 y_u47 e_u47
    refine sm_ne e_u47 rfl ?_ ?_
    · exact sj_X10_readNamed_123 nn hr e_a1 e_v34 e_u47 rfl hM_h41
    · refine sm_gr hM_h41 (d := 11) rfl ?_
      refine sm_gi hM_h41 rfl ?_; intro v49 e_v49
      refine sm_is hM_h41 rfl ?_
      refine sm_cP (sf_X2_fieldOf nn e_v49 e_u37 hM_h41) ?_; intro u51 y_u51 e_u51
      exact sj_X10_readNamed_123 nn hr e_a1 e_v34 e_u47 e_u51 hM_h41
  · refine sm_gi hM_h41 rfl ?_; intro v53 e_v53
    refine sm_is hM_h41 rfl ?_
    refine sm_cI (sf_X10_methodNamed nn e_v53 e_v34 hM_h41) ?_; intro u55 y_u55 M_u55 e_u55 hM_u55
    refine sm_eq e_u55 rfl ?_ ?_
    · exact sj_X10_readNamed_76 nn hr e_a1 e_v34 e_u55 hM_u55
    · refine sm_gr hM_u55 (d := 11) rfl ?_
      refine sm_is hM_u55 rfl ?_
      refine sm_cP (sf_X2_isFixed nn e_u55 hM_u55) ?_; intro u58 y_u58 e_u58
      refine sm_ne e_u58 rfl ?_ ?_
      · exact sj_X10_readNamed_76 nn hr e_a1 e_v34 e_u55 hM_u55
      · refine sm_is hM_u55 rfl ?_
        refine sm_cV (sf_X10_giveThis nn e_v34 hM_u55) ?_; intro u60 hM_u60
        exact sj_X10_readNamed_76 nn hr e_a1 e_v34 e_u55 hM_u60
set_option maxRecDepth 4000 in
theorem sj_X10_readBehindPoint_149 (nn : Nat) {frc : tg_X10_readValue} {rc : tq_X10_readValue} (hr : hg_X10_readValue frc rc) {l1 : Int32} {y_l1 : Int} (e_l1 : l1.toInt = y_l1) {l2 : Int32} {y_l2 : Int} (e_l2 : l2.toInt = y_l2) {l3 : Int32} {y_l3 : Int} (e_l3 : l3.toInt = y_l3) {l5 : Int32} {y_l5 : Int} (e_l5 : l5.toInt = y_l5) {l6 : Int32} {y_l6 : Int} (e_l6 : l6.toInt = y_l6) {l7 : Int32} {y_l7 : Int} (e_l7 : l7.toInt = y_l7) {h : ms_M} (hM_h : Rg_M h) : Sm_ RV_ (j_X10_readBehindPoint_149 nn frc 49 l1 l2 l3 l5 l6 l7 (H_M h)) (qj_X10_readBehindPoint_149 nn rc y_l1 y_l2 y_l3 y_l5 y_l6 y_l7 h) := by
  unfold j_X10_readBehindPoint_149 qj_X10_readBehindPoint_149
  refine sm_gr hM_h (d := 2) rfl ?_
  refine sm_oq_add e_l3 rfl ?_; intro v2 y_v2 e_v2
  refine sm_pv hM_h rfl e_v2 ?_; intro h3 hM_h3
  refine sm_eq e_l5 rfl ?_ ?_
  · refine sm_eq e_l6 rfl ?_ ?_
    · refine sm_gi hM_h3 rfl ?_; intro v4 e_v4
      refine sm_is hM_h3 rfl ?_
      refine sm_cV (sf_X10_nameField nn e_v4 e_l7 hM_h3) ?_; intro u6 hM_u6
      exact sm_rV hM_u6
    · refine sm_gr hM_h3 (d := 34) rfl ?_
      refine sm_is hM_h3 rfl ?_
      refine sm_cV (sf_X1_op nn rfl hM_h3) ?_; intro u9 hM_u9
      refine sm_gr hM_u9 (d := 34) rfl ?_
      refine sm_is hM_u9 rfl ?_
      refine sm_cV (sf_X1_pop nn rfl hM_u9) ?_; intro u12 hM_u12
      refine sm_is hM_u12 rfl ?_
      refine sm_cV (sf_X10_give nn rfl hM_u12) ?_; intro u14 hM_u14
      exact sm_rV hM_u14
  · refine sm_gi hM_h3 rfl ?_; intro v16 e_v16
    refine sm_is hM_h3 rfl ?_
    refine sm_cV (hr.2.2.2.2.2.2.2.2 e_v16 e_l7 e_l3 rfl e_l1 e_l2 hM_h3) ?_; intro u18 hM_u18
    exact sm_rV hM_u18
set_option maxRecDepth 4000 in
theorem sj_X10_readBehindPoint_140 (nn : Nat) {frc : tg_X10_readValue} {rc : tq_X10_readValue} (hr : hg_X10_readValue frc rc) {l1 : Int32} {y_l1 : Int} (e_l1 : l1.toInt = y_l1) {l2 : Int32} {y_l2 : Int} (e_l2 : l2.toInt = y_l2) {l3 : Int32} {y_l3 : Int} (e_l3 : l3.toInt = y_l3) {l5 : Int32} {y_l5 : Int} (e_l5 : l5.toInt = y_l5) {l6 : Int32} {y_l6 : Int} (e_l6 : l6.toInt = y_l6) {l7 : Int32} {y_l7 : Int} (e_l7 : l7.toInt = y_l7) {h : ms_M} (hM_h : Rg_M h) : Sm_ RV_ (j_X10_readBehindPoint_140 nn frc 49 l1 l2 l3 l5 l6 l7 (H_M h)) (qj_X10_readBehindPoint_140 nn rc y_l1 y_l2 y_l3 y_l5 y_l6 y_l7 h) := by
  unfold j_X10_readBehindPoint_140 qj_X10_readBehindPoint_140
  refine sm_gr hM_h (d := 2) rfl ?_
  refine sm_is hM_h rfl ?_
  refine sm_cV (sf_X9_tell nn rfl e_l3 hM_h) ?_; intro u22 hM_u22
  exact sj_X10_readBehindPoint_149 nn hr e_l1 e_l2 e_l3 e_l5 e_l6 e_l7 hM_u22
set_option maxRecDepth 4000 in
theorem sj_X10_readBehindPoint_112 (nn : Nat) {frc : tg_X10_readValue} {rc : tq_X10_readValue} (hr : hg_X10_readValue frc rc) {l1 : Int32} {y_l1 : Int} (e_l1 : l1.toInt = y_l1) {l2 : Int32} {y_l2 : Int} (e_l2 : l2.toInt = y_l2) {l3 : Int32} {y_l3 : Int} (e_l3 : l3.toInt = y_l3) {l4 : Int32} {y_l4 : Int} (e_l4 : l4.toInt = y_l4) {l5 : Int32} {y_l5 : Int} (e_l5 : l5.toInt = y_l5) {l6 : Int32} {y_l6 : Int} (e_l6 : l6.toInt = y_l6) {s0 : Int32} {y_s0 : Int} (e_s0 : s0.toInt = y_s0) {h : ms_M} (hM_h : Rg_M h) : Sm_ RV_ (j_X10_readBehindPoint_112 nn frc 49 l1 l2 l3 l4 l5 l6 s0 (H_M h)) (qj_X10_readBehindPoint_112 nn rc y_l1 y_l2 y_l3 y_l4 y_l5 y_l6 y_s0 h) := by
  unfold j_X10_readBehindPoint_112 qj_X10_readBehindPoint_112
  refine sm_eq e_l6 rfl ?_ ?_
  · refine sm_ne e_s0 rfl ?_ ?_
    · exact sj_X10_readBehindPoint_149 nn hr e_l1 e_l2 e_l3 e_l5 e_l6 e_s0 hM_h
    · exact sj_X10_readBehindPoint_140 nn hr e_l1 e_l2 e_l3 e_l5 e_l6 e_s0 hM_h
  · refine sm_ne e_l5 rfl ?_ ?_
    · exact sj_X10_readBehindPoint_140 nn hr e_l1 e_l2 e_l3 e_l5 e_l6 e_s0 hM_h
    · refine sm_eq e_l4 rfl ?_ ?_
      · exact sj_X10_readBehindPoint_149 nn hr e_l1 e_l2 e_l3 e_l5 e_l6 e_s0 hM_h
      · exact sj_X10_readBehindPoint_140 nn hr e_l1 e_l2 e_l3 e_l5 e_l6 e_s0 hM_h
set_option maxRecDepth 4000 in
theorem sj_X10_readBehindPoint_72 (nn : Nat) {frc : tg_X10_readValue} {rc : tq_X10_readValue} (hr : hg_X10_readValue frc rc) {l1 : Int32} {y_l1 : Int} (e_l1 : l1.toInt = y_l1) {l2 : Int32} {y_l2 : Int} (e_l2 : l2.toInt = y_l2) {l3 : Int32} {y_l3 : Int} (e_l3 : l3.toInt = y_l3) {l4 : Int32} {y_l4 : Int} (e_l4 : l4.toInt = y_l4) {l5 : Int32} {y_l5 : Int} (e_l5 : l5.toInt = y_l5) {l6 : Int32} {y_l6 : Int} (e_l6 : l6.toInt = y_l6) {s0 : Int32} {y_s0 : Int} (e_s0 : s0.toInt = y_s0) {h : ms_M} (hM_h : Rg_M h) : Sm_ RV_ (j_X10_readBehindPoint_72 nn frc 49 l1 l2 l3 l4 l5 l6 s0 49 (H_M h)) (qj_X10_readBehindPoint_72 nn rc y_l1 y_l2 y_l3 y_l4 y_l5 y_l6 y_s0 h) := by
  unfold j_X10_readBehindPoint_72 qj_X10_readBehindPoint_72
  refine sm_oq_sub e_l3 rfl ?_; intro v27 y_v27 e_v27
  refine sm_is hM_h rfl ?_
  refine sm_cV (sf_X10_wantType nn e_s0 e_v27 hM_h) ?_; intro u29 hM_u29
  refine sm_eq e_l5 rfl ?_ ?_
  · refine sm_gr hM_u29 (d := 11) rfl ?_
    refine sm_gi hM_u29 rfl ?_; intro v31 e_v31
    refine sm_is hM_u29 rfl ?_
    refine sm_cP (sf_X2_fieldOf nn e_v31 e_l4 hM_u29) ?_; intro u33 y_u33 e_u33
    exact sj_X10_readBehindPoint_112 nn hr e_l1 e_l2 e_l3 e_l4 e_l5 e_l6 e_u33 hM_u29
  · refine sm_gr hM_u29 (d := 11) rfl ?_
    refine sm_gi hM_u29 rfl ?_; intro v35 e_v35
    refine sm_is hM_u29 rfl ?_
    refine sm_cP (sf_X2_methodOf nn e_v35 e_l4 hM_u29) ?_; intro u37 y_u37 e_u37
    exact sj_X10_readBehindPoint_112 nn hr e_l1 e_l2 e_l3 e_l4 e_l5 e_l6 e_u37 hM_u29
set_option maxRecDepth 4000 in
theorem sj_X10_readBehindPoint_67 (nn : Nat) {frc : tg_X10_readValue} {rc : tq_X10_readValue} (hr : hg_X10_readValue frc rc) {l1 : Int32} {y_l1 : Int} (e_l1 : l1.toInt = y_l1) {l2 : Int32} {y_l2 : Int} (e_l2 : l2.toInt = y_l2) {l3 : Int32} {y_l3 : Int} (e_l3 : l3.toInt = y_l3) {l4 : Int32} {y_l4 : Int} (e_l4 : l4.toInt = y_l4) {l5 : Int32} {y_l5 : Int} (e_l5 : l5.toInt = y_l5) {l6 : Int32} {y_l6 : Int} (e_l6 : l6.toInt = y_l6) {h : ms_M} (hM_h : Rg_M h) : Sm_ RV_ (j_X10_readBehindPoint_67 nn frc 49 l1 l2 l3 l4 l5 l6 49 (H_M h)) (qj_X10_readBehindPoint_67 nn rc y_l1 y_l2 y_l3 y_l4 y_l5 y_l6 h) := by
  unfold j_X10_readBehindPoint_67 qj_X10_readBehindPoint_67
  exact sj_X10_readBehindPoint_72 nn hr e_l1 e_l2 e_l3 e_l4 e_l5 e_l6 rfl hM_h
set_option maxRecDepth 4000 in
theorem sj_X10_readBehindPoint_40 (nn : Nat) {frc : tg_X10_readValue} {rc : tq_X10_readValue} (hr : hg_X10_readValue frc rc) {l1 : Int32} {y_l1 : Int} (e_l1 : l1.toInt = y_l1) {l2 : Int32} {y_l2 : Int} (e_l2 : l2.toInt = y_l2) {l3 : Int32} {y_l3 : Int} (e_l3 : l3.toInt = y_l3) {l4 : Int32} {y_l4 : Int} (e_l4 : l4.toInt = y_l4) {s0 : Int32} {y_s0 : Int} (e_s0 : s0.toInt = y_s0) {h : ms_M} (hM_h : Rg_M h) : Sm_ RV_ (j_X10_readBehindPoint_40 nn frc 49 l1 l2 l3 l4 s0 (H_M h)) (qj_X10_readBehindPoint_40 nn rc y_l1 y_l2 y_l3 y_l4 y_s0 h) := by
  unfold j_X10_readBehindPoint_40 qj_X10_readBehindPoint_40
  refine sm_gi hM_h rfl ?_; intro v39 e_v39
  refine sm_cP (sf_X4_isArray nn e_v39 hM_h) ?_; intro u40 y_u40 e_u40
  refine sm_ne e_u40 rfl ?_ ?_
  · exact sj_X10_readBehindPoint_67 nn hr e_l1 e_l2 e_l3 e_l4 e_s0 e_u40 hM_h
  · refine sm_gi hM_h rfl ?_; intro v41 e_v41
    refine sm_cP (sf_X4_isClass nn e_v41 hM_h) ?_; intro u42 y_u42 e_u42
    refine sm_eq e_u42 rfl ?_ ?_
    · exact sj_X10_readBehindPoint_72 nn hr e_l1 e_l2 e_l3 e_l4 e_s0 e_u40 rfl hM_h
    · exact sj_X10_readBehindPoint_67 nn hr e_l1 e_l2 e_l3 e_l4 e_s0 e_u40 hM_h
set_option maxRecDepth 4000 in
theorem so_X10_readBehindPoint (nn : Nat) {frc : tg_X10_readValue} {rc : tq_X10_readValue} (hr : hg_X10_readValue frc rc) {a1 : Int32} {y_a1 : Int} (e_a1 : a1.toInt = y_a1) {a2 : Int32} {y_a2 : Int} (e_a2 : a2.toInt = y_a2) {h : ms_M} (hM_h : Rg_M h) : Sm_ RV_ (o_X10_readBehindPoint nn frc 49 a1 a2 (H_M h)) (qo_X10_readBehindPoint nn rc y_a1 y_a2 h) := by
  unfold o_X10_readBehindPoint qo_X10_readBehindPoint
  refine sm_gr hM_h (d := 2) rfl ?_
  refine sm_gi hM_h rfl ?_; intro v46 e_v46
  refine sm_oq_add e_v46 rfl ?_; intro v47 y_v47 e_v47
  refine sm_gr hM_h (d := 2) rfl ?_
  refine sm_is hM_h rfl ?_
  refine sm_cP (sf_X9_valueAt nn e_v47 hM_h) ?_; intro u50 y_u50 e_u50
  refine sm_gr hM_h (d := 2) rfl ?_
  refine sm_oq_add e_v47 rfl ?_; intro v52 y_v52 e_v52
  refine sm_is hM_h rfl ?_
  refine sm_cP (sf_X9_kindAt nn e_v52 hM_h) ?_; intro u54 y_u54 e_u54
  refine sm_ne e_u54 rfl ?_ ?_
  · exact sj_X10_readBehindPoint_40 nn hr e_a1 e_a2 e_v47 e_u50 rfl hM_h
  · exact sj_X10_readBehindPoint_40 nn hr e_a1 e_a2 e_v47 e_u50 rfl hM_h
set_option maxRecDepth 4000 in
theorem sj_X10_readCall_275 (nn : Nat) {frc : tg_X10_readValue} {rc : tq_X10_readValue} (hr : hg_X10_readValue frc rc) {l2 : Int32} {y_l2 : Int} (e_l2 : l2.toInt = y_l2) {l3 : Int32} {y_l3 : Int} (e_l3 : l3.toInt = y_l3) {l5 : Int32} {y_l5 : Int} (e_l5 : l5.toInt = y_l5) {s0 : Int32} {y_s0 : Int} (e_s0 : s0.toInt = y_s0) {h : ms_M} (hM_h : Rg_M h) : Sm_ RV_ (j_X10_readCall_275 nn frc 49 l2 l3 l5 s0 34 (H_M h)) (qj_X10_readCall_275 nn rc y_l2 y_l3 y_l5 y_s0 h) := by
  unfold j_X10_readCall_275 qj_X10_readCall_275
  refine sm_is hM_h rfl ?_
  refine sm_cV (sf_X1_pop nn e_s0 hM_h) ?_; intro u2 hM_u2
  refine sm_gr hM_u2 (d := 11) rfl ?_
  refine sm_is hM_u2 rfl ?_
  refine sm_cP (sf_X2_resultOf nn e_l2 hM_u2) ?_; intro u5 y_u5 e_u5
  refine sm_is hM_u2 rfl ?_
  refine sm_cV (sf_X10_closeCall nn e_u5 e_l3 e_l5 hM_u2) ?_; intro u7 hM_u7
  exact sm_rV hM_u7
set_option maxRecDepth 4000 in
theorem sj_X10_readCall_245 (nn : Nat) {frc : tg_X10_readValue} {rc : tq_X10_readValue} (hr : hg_X10_readValue frc rc) {l1 : Int32} {y_l1 : Int} (e_l1 : l1.toInt = y_l1) {l2 : Int32} {y_l2 : Int} (e_l2 : l2.toInt = y_l2) {l3 : Int32} {y_l3 : Int} (e_l3 : l3.toInt = y_l3) {l5 : Int32} {y_l5 : Int} (e_l5 : l5.toInt = y_l5) {l7 : Int32} {y_l7 : Int} (e_l7 : l7.toInt = y_l7) {l9 : Int32} {y_l9 : Int} (e_l9 : l9.toInt = y_l9) {s0 : Int32} {y_s0 : Int} (e_s0 : s0.toInt = y_s0) {h : ms_M} (hM_h : Rg_M h) : Sm_ RV_ (j_X10_readCall_245 nn frc 49 l1 l2 l3 l5 l7 l9 s0 34 (H_M h)) (qj_X10_readCall_245 nn rc y_l1 y_l2 y_l3 y_l5 y_l7 y_l9 y_s0 h) := by
  unfold j_X10_readCall_245 qj_X10_readCall_245
  refine sm_gr hM_h (d := 45) rfl ?_
  refine sm_is hM_h rfl ?_
  refine sm_cI (sf_X6_methodOf nn e_l1 e_l2 hM_h) ?_; intro u10 y_u10 M_u10 e_u10 hM_u10
  refine sm_is hM_u10 rfl ?_
  refine sm_cV (sf_X1_op_ nn e_s0 e_u10 hM_u10) ?_; intro u12 hM_u12
  refine sm_gr hM_u12 (d := 34) rfl ?_
  refine sm_eq e_l9 rfl ?_ ?_
  · refine sm_oq_add e_l7 rfl ?_; intro v14 y_v14 e_v14
    exact sj_X10_readCall_275 nn hr e_l2 e_l3 e_l5 e_v14 hM_u12
  · exact sj_X10_readCall_275 nn hr e_l2 e_l3 e_l5 e_l7 hM_u12
set_option maxRecDepth 4000 in
theorem sj_X10_readCall_223 (nn : Nat) {frc : tg_X10_readValue} {rc : tq_X10_readValue} (hr : hg_X10_readValue frc rc) {l1 : Int32} {y_l1 : Int} (e_l1 : l1.toInt = y_l1) {l2 : Int32} {y_l2 : Int} (e_l2 : l2.toInt = y_l2) {l3 : Int32} {y_l3 : Int} (e_l3 : l3.toInt = y_l3) {l5 : Int32} {y_l5 : Int} (e_l5 : l5.toInt = y_l5) {l7 : Int32} {y_l7 : Int} (e_l7 : l7.toInt = y_l7) {l9 : Int32} {y_l9 : Int} (e_l9 : l9.toInt = y_l9) {s0 : Int32} {y_s0 : Int} (e_s0 : s0.toInt = y_s0) {h : ms_M} (hM_h : Rg_M h) : Sm_ RV_ (j_X10_readCall_223 nn frc 49 l1 l2 l3 l5 l7 l9 s0 49 (H_M h)) (qj_X10_readCall_223 nn rc y_l1 y_l2 y_l3 y_l5 y_l7 y_l9 y_s0 h) := by
  unfold j_X10_readCall_223 qj_X10_readCall_223
  refine sm_is hM_h rfl ?_
  refine sm_cV (sf_X10_wantType nn e_s0 e_l3 hM_h) ?_; intro u17 hM_u17
  refine sm_gr hM_u17 (d := 34) rfl ?_
  refine sm_eq e_l9 rfl ?_ ?_
  · exact sj_X10_readCall_245 nn hr e_l1 e_l2 e_l3 e_l5 e_l7 e_l9 rfl hM_u17
  · exact sj_X10_readCall_245 nn hr e_l1 e_l2 e_l3 e_l5 e_l7 e_l9 rfl hM_u17
set_option maxRecDepth 4000 in
theorem sj_X10_readCall_222 (nn : Nat) {frc : tg_X10_readValue} {rc : tq_X10_readValue} (hr : hg_X10_readValue frc rc) {l1 : Int32} {y_l1 : Int} (e_l1 : l1.toInt = y_l1) {l2 : Int32} {y_l2 : Int} (e_l2 : l2.toInt = y_l2) {l3 : Int32} {y_l3 : Int} (e_l3 : l3.toInt = y_l3) {l5 : Int32} {y_l5 : Int} (e_l5 : l5.toInt = y_l5) {l7 : Int32} {y_l7 : Int} (e_l7 : l7.toInt = y_l7) {l9 : Int32} {y_l9 : Int} (e_l9 : l9.toInt = y_l9) {h : ms_M} (hM_h : Rg_M h) : Sm_ RV_ (j_X10_readCall_222 nn frc 49 l1 l2 l3 l5 l7 l9 49 (H_M h)) (qj_X10_readCall_222 nn rc y_l1 y_l2 y_l3 y_l5 y_l7 y_l9 h) := by
  unfold j_X10_readCall_222 qj_X10_readCall_222
  exact sj_X10_readCall_223 nn hr e_l1 e_l2 e_l3 e_l5 e_l7 e_l9 rfl hM_h
set_option maxRecDepth 4000 in
theorem sj_X10_readCall_192 (nn : Nat) {frc : tg_X10_readValue} {rc : tq_X10_readValue} (hr : hg_X10_readValue frc rc) {l1 : Int32} {y_l1 : Int} (e_l1 : l1.toInt = y_l1) {l2 : Int32} {y_l2 : Int} (e_l2 : l2.toInt = y_l2) {l3 : Int32} {y_l3 : Int} (e_l3 : l3.toInt = y_l3) {l5 : Int32} {y_l5 : Int} (e_l5 : l5.toInt = y_l5) {l7 : Int32} {y_l7 : Int} (e_l7 : l7.toInt = y_l7) {l8 : Int32} {y_l8 : Int} (e_l8 : l8.toInt = y_l8) {l9 : Int32} {y_l9 : Int} (e_l9 : l9.toInt = y_l9) {s0 : Int32} {y_s0 : Int} (e_s0 : s0.toInt = y_s0) {h : ms_M} (hM_h : Rg_M h) : Sm_ RV_ (j_X10_readCall_192 nn frc 49 l1 l2 l3 l5 l7 l8 l9 s0 (H_M h)) (qj_X10_readCall_192 nn rc y_l1 y_l2 y_l3 y_l5 y_l7 y_l8 y_l9 y_s0 h) := by
  unfold j_X10_readCall_192 qj_X10_readCall_192
  refine sm_eq e_l8 rfl ?_ ?_
  · exact sj_X10_readCall_222 nn hr e_l1 e_l2 e_l3 e_l5 e_l7 e_l9 hM_h
  · refine sm_ne e_s0 rfl ?_ ?_
    · exact sj_X10_readCall_222 nn hr e_l1 e_l2 e_l3 e_l5 e_l7 e_l9 hM_h
    · refine sm_gr hM_h (d := 11) rfl ?_
      refine sm_is hM_h rfl ?_
      refine sm_cP (sf_X2_parametersOf nn e_l2 hM_h) ?_; intro u22 y_u22 e_u22
      refine sm_ne e_l7 e_u22 ?_ ?_
      · exact sj_X10_readCall_222 nn hr e_l1 e_l2 e_l3 e_l5 e_l7 e_l9 hM_h
      · exact sj_X10_readCall_223 nn hr e_l1 e_l2 e_l3 e_l5 e_l7 e_l9 rfl hM_h
set_option maxRecDepth 4000 in
theorem sj_X10_readCall_128 (nn : Nat) {frc : tg_X10_readValue} {rc : tq_X10_readValue} (hr : hg_X10_readValue frc rc) {l1 : Int32} {y_l1 : Int} (e_l1 : l1.toInt = y_l1) {l2 : Int32} {y_l2 : Int} (e_l2 : l2.toInt = y_l2) {l3 : Int32} {y_l3 : Int} (e_l3 : l3.toInt = y_l3) {l4 : Int32} {y_l4 : Int} (e_l4 : l4.toInt = y_l4) {l5 : Int32} {y_l5 : Int} (e_l5 : l5.toInt = y_l5) {l7 : Int32} {y_l7 : Int} (e_l7 : l7.toInt = y_l7) {l8 : Int32} {y_l8 : Int} (e_l8 : l8.toInt = y_l8) {h : ms_M} (hM_h : Rg_M h) : Sm_ RV_ (j_X10_readCall_128 nn frc 49 l1 l2 l3 l4 l5 l7 l8 (H_M h)) (qj_X10_readCall_128 nn rc y_l1 y_l2 y_l3 y_l4 y_l5 y_l7 y_l8 h) := by
  unfold j_X10_readCall_128 qj_X10_readCall_128
  refine sm_gr hM_h (d := 2) rfl ?_
  refine sm_gi hM_h rfl ?_; intro v27 e_v27
  refine sm_oq_add e_v27 rfl ?_; intro v28 y_v28 e_v28
  refine sm_pv hM_h rfl e_v28 ?_; intro h29 hM_h29
  refine sm_gr hM_h29 (d := 2) rfl ?_
  refine sm_gi hM_h29 rfl ?_; intro v31 e_v31
  refine sm_eq e_v31 rfl ?_ ?_
  · refine sm_gr hM_h29 (d := 11) rfl ?_
    refine sm_is hM_h29 rfl ?_
    refine sm_cP (sf_X2_isFixed nn e_l2 hM_h29) ?_; intro u34 y_u34 e_u34
    refine sm_eq e_u34 rfl ?_ ?_
    · refine sm_ne e_l4 rfl ?_ ?_
      · exact sj_X10_readCall_192 nn hr e_l1 e_l2 e_l3 e_l5 e_l7 e_l8 e_u34 rfl hM_h29
      · exact sj_X10_readCall_192 nn hr e_l1 e_l2 e_l3 e_l5 e_l7 e_l8 e_u34 rfl hM_h29
    · refine sm_ne e_l4 rfl ?_ ?_
      · exact sj_X10_readCall_192 nn hr e_l1 e_l2 e_l3 e_l5 e_l7 e_l8 e_u34 rfl hM_h29
      · exact sj_X10_readCall_192 nn hr e_l1 e_l2 e_l3 e_l5 e_l7 e_l8 e_u34 rfl hM_h29
  · exact sm_rV hM_h29
set_option maxRecDepth 4000 in
theorem sj_X10_readCall_92 (nn : Nat) {frc : tg_X10_readValue} {rc : tq_X10_readValue} (hr : hg_X10_readValue frc rc) {kk_22 : Nat → Int32 → Int32 → Int32 → Int32 → Int32 → Int32 → Int32 → Int32 → Int32 → mx_H → Option mx_H} {qkk_22 : Int → Int → Int → Int → Int → Int → Int → Int → Int → ms_M → Option ms_M} (hk_kk_22 : ∀ {l1 : Int32} {y_l1 : Int} (e_l1 : l1.toInt = y_l1) {l2 : Int32} {y_l2 : Int} (e_l2 : l2.toInt = y_l2) {l3 : Int32} {y_l3 : Int} (e_l3 : l3.toInt = y_l3) {l4 : Int32} {y_l4 : Int} (e_l4 : l4.toInt = y_l4) {l5 : Int32} {y_l5 : Int} (e_l5 : l5.toInt = y_l5) {l6 : Int32} {y_l6 : Int} (e_l6 : l6.toInt = y_l6) {l7 : Int32} {y_l7 : Int} (e_l7 : l7.toInt = y_l7) {l8 : Int32} {y_l8 : Int} (e_l8 : l8.toInt = y_l8) {l9 : Int32} {y_l9 : Int} (e_l9 : l9.toInt = y_l9) {h : ms_M} (hM_h : Rg_M h), Sm_ RV_ (kk_22 49 l1 l2 l3 l4 l5 l6 l7 l8 l9 (H_M h)) (qkk_22 y_l1 y_l2 y_l3 y_l4 y_l5 y_l6 y_l7 y_l8 y_l9 h)) {l1 : Int32} {y_l1 : Int} (e_l1 : l1.toInt = y_l1) {l2 : Int32} {y_l2 : Int} (e_l2 : l2.toInt = y_l2) {l3 : Int32} {y_l3 : Int} (e_l3 : l3.toInt = y_l3) {l4 : Int32} {y_l4 : Int} (e_l4 : l4.toInt = y_l4) {l5 : Int32} {y_l5 : Int} (e_l5 : l5.toInt = y_l5) {l6 : Int32} {y_l6 : Int} (e_l6 : l6.toInt = y_l6) {l7 : Int32} {y_l7 : Int} (e_l7 : l7.toInt = y_l7) {l9 : Int32} {y_l9 : Int} (e_l9 : l9.toInt = y_l9) {s0 : Int32} {y_s0 : Int} (e_s0 : s0.toInt = y_s0) {h : ms_M} (hM_h : Rg_M h) : Sm_ RV_ (j_X10_readCall_92 nn frc kk_22 49 l1 l2 l3 l4 l5 l6 l7 l9 s0 (H_M h)) (qj_X10_readCall_92 nn rc qkk_22 y_l1 y_l2 y_l3 y_l4 y_l5 y_l6 y_l7 y_l9 y_s0 h) := by
  unfold j_X10_readCall_92 qj_X10_readCall_92
  refine sm_oq_add e_l7 rfl ?_; intro v39 y_v39 e_v39
  refine sm_gr hM_h (d := 2) rfl ?_
  refine sm_is hM_h rfl ?_
  refine sm_cP (sf_X9_kind nn hM_h) ?_; intro u42 y_u42 e_u42
  refine sm_ne e_u42 rfl ?_ ?_
  · refine sm_oq_add e_l9 rfl ?_; intro v43 y_v43 e_v43
    exact hk_kk_22 e_l1 e_l2 e_l3 e_l4 e_l5 e_l6 e_v39 e_s0 e_v43 hM_h
  · refine sm_gr hM_h (d := 2) rfl ?_
    refine sm_gi hM_h rfl ?_; intro v45 e_v45
    refine sm_oq_add e_v45 rfl ?_; intro v46 y_v46 e_v46
    refine sm_pv hM_h rfl e_v46 ?_; intro h47 hM_h47
    refine sm_oq_add e_l9 rfl ?_; intro v48 y_v48 e_v48
    exact hk_kk_22 e_l1 e_l2 e_l3 e_l4 e_l5 e_l6 e_v39 e_s0 e_v48 hM_h47
set_option maxRecDepth 4000 in
theorem sj_X10_readCall_91 (nn : Nat) {frc : tg_X10_readValue} {rc : tq_X10_readValue} (hr : hg_X10_readValue frc rc) {kk_22 : Nat → Int32 → Int32 → Int32 → Int32 → Int32 → Int32 → Int32 → Int32 → Int32 → mx_H → Option mx_H} {qkk_22 : Int → Int → Int → Int → Int → Int → Int → Int → Int → ms_M → Option ms_M} (hk_kk_22 : ∀ {l1 : Int32} {y_l1 : Int} (e_l1 : l1.toInt = y_l1) {l2 : Int32} {y_l2 : Int} (e_l2 : l2.toInt = y_l2) {l3 : Int32} {y_l3 : Int} (e_l3 : l3.toInt = y_l3) {l4 : Int32} {y_l4 : Int} (e_l4 : l4.toInt = y_l4) {l5 : Int32} {y_l5 : Int} (e_l5 : l5.toInt = y_l5) {l6 : Int32} {y_l6 : Int} (e_l6 : l6.toInt = y_l6) {l7 : Int32} {y_l7 : Int} (e_l7 : l7.toInt = y_l7) {l8 : Int32} {y_l8 : Int} (e_l8 : l8.toInt = y_l8) {l9 : Int32} {y_l9 : Int} (e_l9 : l9.toInt = y_l9) {h : ms_M} (hM_h : Rg_M h), Sm_ RV_ (kk_22 49 l1 l2 l3 l4 l5 l6 l7 l8 l9 (H_M h)) (qkk_22 y_l1 y_l2 y_l3 y_l4 y_l5 y_l6 y_l7 y_l8 y_l9 h)) {l1 : Int32} {y_l1 : Int} (e_l1 : l1.toInt = y_l1) {l2 : Int32} {y_l2 : Int} (e_l2 : l2.toInt = y_l2) {l3 : Int32} {y_l3 : Int} (e_l3 : l3.toInt = y_l3) {l4 : Int32} {y_l4 : Int} (e_l4 : l4.toInt = y_l4) {l5 : Int32} {y_l5 : Int} (e_l5 : l5.toInt = y_l5) {l6 : Int32} {y_l6 : Int} (e_l6 : l6.toInt = y_l6) {l7 : Int32} {y_l7 : Int} (e_l7 : l7.toInt = y_l7) {l9 : Int32} {y_l9 : Int} (e_l9 : l9.toInt = y_l9) {h : ms_M} (hM_h : Rg_M h) : Sm_ RV_ (j_X10_readCall_91 nn frc kk_22 49 l1 l2 l3 l4 l5 l6 l7 l9 (H_M h)) (qj_X10_readCall_91 nn rc qkk_22 y_l1 y_l2 y_l3 y_l4 y_l5 y_l6 y_l7 y_l9 h) := by
  unfold j_X10_readCall_91 qj_X10_readCall_91
  exact sj_X10_readCall_92 nn hr hk_kk_22 e_l1 e_l2 e_l3 e_l4 e_l5 e_l6 e_l7 e_l9 rfl hM_h
set_option maxRecDepth 4000 in
theorem sw_X10_readCall_22 (nn : Nat) {frc : tg_X10_readValue} {rc : tq_X10_readValue} (hr : hg_X10_readValue frc rc) : ∀ (k : Nat) {l1 : Int32} {y_l1 : Int} (e_l1 : l1.toInt = y_l1) {l2 : Int32} {y_l2 : Int} (e_l2 : l2.toInt = y_l2) {l3 : Int32} {y_l3 : Int} (e_l3 : l3.toInt = y_l3) {l4 : Int32} {y_l4 : Int} (e_l4 : l4.toInt = y_l4) {l5 : Int32} {y_l5 : Int} (e_l5 : l5.toInt = y_l5) {l6 : Int32} {y_l6 : Int} (e_l6 : l6.toInt = y_l6) {l7 : Int32} {y_l7 : Int} (e_l7 : l7.toInt = y_l7) {l8 : Int32} {y_l8 : Int} (e_l8 : l8.toInt = y_l8) {l9 : Int32} {y_l9 : Int} (e_l9 : l9.toInt = y_l9) {h : ms_M} (hM_h : Rg_M h), Sm_ RV_ (w_X10_readCall_22 nn frc k 49 l1 l2 l3 l4 l5 l6 l7 l8 l9 (H_M h)) (qw_X10_readCall_22 nn rc k y_l1 y_l2 y_l3 y_l4 y_l5 y_l6 y_l7 y_l8 y_l9 h) := by
  intro k
  induction k with
  | zero => intros; exact sm_no
  | succ k ih =>
    intro l1 y_l1 e_l1 l2 y_l2 e_l2 l3 y_l3 e_l3 l4 y_l4 e_l4 l5 y_l5 e_l5 l6 y_l6 e_l6 l7 y_l7 e_l7 l8 y_l8 e_l8 l9 y_l9 e_l9 h hM_h
    unfold w_X10_readCall_22 qw_X10_readCall_22
    refine sm_le rfl e_l9 ?_ ?_
    · exact sj_X10_readCall_128 nn hr e_l1 e_l2 e_l3 e_l4 e_l5 e_l7 e_l8 hM_h
    · refine sm_gr hM_h (d := 2) rfl ?_
      refine sm_gi hM_h rfl ?_; intro v51 e_v51
      refine sm_ne e_v51 rfl ?_ ?_
      · exact sj_X10_readCall_128 nn hr e_l1 e_l2 e_l3 e_l4 e_l5 e_l7 e_l8 hM_h
      · refine sm_gr hM_h (d := 2) rfl ?_
        refine sm_is hM_h rfl ?_
        refine sm_cP (sf_X9_kind nn hM_h) ?_; intro u54 y_u54 e_u54
        refine sm_eq e_u54 rfl ?_ ?_
        · exact sj_X10_readCall_128 nn hr e_l1 e_l2 e_l3 e_l4 e_l5 e_l7 e_l8 hM_h
        · refine sm_is hM_h rfl ?_
          refine sm_cV (hr.1 e_l6 hM_h) ?_; intro u56 hM_u56
          refine sm_eq e_l8 rfl ?_ ?_
          · exact sj_X10_readCall_91 nn hr ih e_l1 e_l2 e_l3 e_l4 e_l5 e_l6 e_l7 e_l9 hM_u56
          · refine sm_gr hM_u56 (d := 12) rfl ?_
            refine sm_gi hM_u56 rfl ?_; intro v58 e_v58
            refine sm_gr hM_u56 (d := 11) rfl ?_
            refine sm_is hM_u56 rfl ?_
            refine sm_cP (sf_X2_parameterType nn e_l2 e_l7 hM_u56) ?_; intro u61 y_u61 e_u61
            refine sm_is hM_u56 rfl ?_
            refine sm_cP (sf_X4_fits nn _ rfl e_v58 e_u61 hM_u56) ?_; intro u63 y_u63 e_u63
            refine sm_eq e_u63 rfl ?_ ?_
            · exact sj_X10_readCall_91 nn hr ih e_l1 e_l2 e_l3 e_l4 e_l5 e_l6 e_l7 e_l9 hM_u56
            · exact sj_X10_readCall_92 nn hr ih e_l1 e_l2 e_l3 e_l4 e_l5 e_l6 e_l7 e_l9 rfl hM_u56
set_option maxRecDepth 4000 in
theorem so_X10_readCall (nn : Nat) {frc : tg_X10_readValue} {rc : tq_X10_readValue} (hr : hg_X10_readValue frc rc) {a1 : Int32} {y_a1 : Int} (e_a1 : a1.toInt = y_a1) {a2 : Int32} {y_a2 : Int} (e_a2 : a2.toInt = y_a2) {a3 : Int32} {y_a3 : Int} (e_a3 : a3.toInt = y_a3) {a4 : Int32} {y_a4 : Int} (e_a4 : a4.toInt = y_a4) {a5 : Int32} {y_a5 : Int} (e_a5 : a5.toInt = y_a5) {a6 : Int32} {y_a6 : Int} (e_a6 : a6.toInt = y_a6) {h : ms_M} (hM_h : Rg_M h) : Sm_ RV_ (o_X10_readCall nn frc 49 a1 a2 a3 a4 a5 a6 (H_M h)) (qo_X10_readCall nn rc y_a1 y_a2 y_a3 y_a4 y_a5 y_a6 h) := by
  unfold o_X10_readCall qo_X10_readCall
  refine sm_gr hM_h (d := 2) rfl ?_
  refine sm_gi hM_h rfl ?_; intro v70 e_v70
  refine sm_oq_add e_v70 rfl ?_; intro v71 y_v71 e_v71
  refine sm_pv hM_h rfl e_v71 ?_; intro h72 hM_h72
  exact sw_X10_readCall_22 nn hr nn e_a1 e_a2 e_a3 e_a4 e_a5 e_a6 rfl rfl rfl hM_h72
set_option maxRecDepth 4000 in
theorem sg_X10_readValue (nn : Nat) : ∀ d, hg_X10_readValue (g_X10_readValue nn d) (qg_X10_readValue nn d) := by
  intro d
  induction d with
  | zero => exact ⟨(by intros; exact sm_no), (by intros; exact sm_no), (by intros; exact sm_no), (by intros; exact sm_no), (by intros; exact sm_no), (by intros; exact sm_no), (by intros; exact sm_no), (by intros; exact sm_no), (by intros; exact sm_no)⟩
  | succ d ih => exact ⟨so_X10_readValue nn ih, so_X10_readChoice nn ih, so_X10_readUnary nn ih, so_X10_readPrimary nn ih, so_X10_readNew nn ih, so_X10_readElement nn ih, so_X10_readNamed nn ih, so_X10_readBehindPoint nn ih, so_X10_readCall nn ih⟩
set_option maxRecDepth 4000 in
theorem sf_X10_readValue (nn : Nat) {a1 : Int32} {y_a1 : Int} (e_a1 : a1.toInt = y_a1) {h : ms_M} (hM_h : Rg_M h) : Sm_ RV_ (f_X10_readValue nn 49 a1 (H_M h)) (qf_X10_readValue nn y_a1 h) := (sg_X10_readValue nn 420).1 e_a1 hM_h
set_option maxRecDepth 4000 in
theorem sf_X10_readChoice (nn : Nat) {a1 : Int32} {y_a1 : Int} (e_a1 : a1.toInt = y_a1) {a2 : Int32} {y_a2 : Int} (e_a2 : a2.toInt = y_a2) {h : ms_M} (hM_h : Rg_M h) : Sm_ RV_ (f_X10_readChoice nn 49 a1 a2 (H_M h)) (qf_X10_readChoice nn y_a1 y_a2 h) := (sg_X10_readValue nn 420).2.1 e_a1 e_a2 hM_h
set_option maxRecDepth 4000 in
theorem sf_X10_readUnary (nn : Nat) {a1 : Int32} {y_a1 : Int} (e_a1 : a1.toInt = y_a1) {h : ms_M} (hM_h : Rg_M h) : Sm_ RV_ (f_X10_readUnary nn 49 a1 (H_M h)) (qf_X10_readUnary nn y_a1 h) := (sg_X10_readValue nn 420).2.2.1 e_a1 hM_h
set_option maxRecDepth 4000 in
theorem sf_X10_readPrimary (nn : Nat) {a1 : Int32} {y_a1 : Int} (e_a1 : a1.toInt = y_a1) {h : ms_M} (hM_h : Rg_M h) : Sm_ RV_ (f_X10_readPrimary nn 49 a1 (H_M h)) (qf_X10_readPrimary nn y_a1 h) := (sg_X10_readValue nn 420).2.2.2.1 e_a1 hM_h
set_option maxRecDepth 4000 in
theorem sf_X10_readNew (nn : Nat) {a1 : Int32} {y_a1 : Int} (e_a1 : a1.toInt = y_a1) {h : ms_M} (hM_h : Rg_M h) : Sm_ RV_ (f_X10_readNew nn 49 a1 (H_M h)) (qf_X10_readNew nn y_a1 h) := (sg_X10_readValue nn 420).2.2.2.2.1 e_a1 hM_h
set_option maxRecDepth 4000 in
theorem sf_X10_readElement (nn : Nat) {a1 : Int32} {y_a1 : Int} (e_a1 : a1.toInt = y_a1) {h : ms_M} (hM_h : Rg_M h) : Sm_ RV_ (f_X10_readElement nn 49 a1 (H_M h)) (qf_X10_readElement nn y_a1 h) := (sg_X10_readValue nn 420).2.2.2.2.2.1 e_a1 hM_h
set_option maxRecDepth 4000 in
theorem sf_X10_readNamed (nn : Nat) {a1 : Int32} {y_a1 : Int} (e_a1 : a1.toInt = y_a1) {h : ms_M} (hM_h : Rg_M h) : Sm_ RV_ (f_X10_readNamed nn 49 a1 (H_M h)) (qf_X10_readNamed nn y_a1 h) := (sg_X10_readValue nn 420).2.2.2.2.2.2.1 e_a1 hM_h
