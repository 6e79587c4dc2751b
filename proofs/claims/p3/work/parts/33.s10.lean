set_option maxRecDepth 4000 in
theorem sf_X13_constant (nn : Nat) {a1 : Int32} {y_a1 : Int} (e_a1 : a1.toInt = y_a1) {a2 : Int32} {y_a2 : Int} (e_a2 : a2.toInt = y_a2) {a3 : Int32} {y_a3 : Int} (e_a3 : a3.toInt = y_a3) {a4 : Int32} {y_a4 : Int} (e_a4 : a4.toInt = y_a4) {h : ms_M} (hM_h : Rg_M h) : Sm_ RI_ (f_X13_constant nn 160 a1 a2 a3 a4 (H_M h)) (qf_X13_constant nn y_a1 y_a2 y_a3 y_a4 h) := by
  unfold f_X13_constant qf_X13_constant
  refine sm_le e_a1 rfl ?_ ?_
  · exact sj_X13_constant_71 nn e_a1 e_a2 e_a3 e_a4 hM_h
  · exact sw_X13_constant_8 nn nn e_a1 e_a2 e_a3 e_a4 rfl hM_h
set_option maxRecDepth 4000 in
theorem sf_X13_spell (nn : Nat) {a1 : Int32} {y_a1 : Int} (e_a1 : a1.toInt = y_a1) {h : ms_M} (hM_h : Rg_M h) : Sm_ RV_ (f_X13_spell nn 160 a1 (H_M h)) (qf_X13_spell nn y_a1 h) := by
  unfold f_X13_spell qf_X13_spell
  refine sm_gr hM_h (d := 205) rfl ?_
  refine sm_gi hM_h rfl ?_; intro v2 e_v2
  refine sm_si hM_h rfl e_v2 e_a1 ?_; intro h3 hM_h3
  refine sm_gi hM_h3 rfl ?_; intro v4 e_v4
  refine sm_oq_add e_v4 rfl ?_; intro v5 y_v5 e_v5
  refine sm_pv hM_h3 rfl e_v5 ?_; intro h6 hM_h6
  exact sm_rV hM_h6
set_option maxRecDepth 4000 in
theorem sw_X13_spellToken_2 (nn : Nat) : ∀ (k : Nat) {l1 : Int32} {y_l1 : Int} (e_l1 : l1.toInt = y_l1) {l2 : Int32} {y_l2 : Int} (e_l2 : l2.toInt = y_l2) {h : ms_M} (hM_h : Rg_M h), Sm_ RV_ (w_X13_spellToken_2 nn k 160 l1 l2 (H_M h)) (qw_X13_spellToken_2 nn k y_l1 y_l2 h) := by
  intro k
  induction k with
  | zero => intros; exact sm_no
  | succ k ih =>
    intro l1 y_l1 e_l1 l2 y_l2 e_l2 h hM_h
    unfold w_X13_spellToken_2 qw_X13_spellToken_2
    refine sm_gr hM_h (d := 165) rfl ?_
    refine sm_ai hM_h rfl e_l1 ?_; intro v2 y_v2 e_v2
    refine sm_le e_v2 e_l2 ?_ ?_
    · exact sm_rV hM_h
    · refine sm_gr hM_h (d := 162) rfl ?_
      refine sm_gr hM_h (d := 164) rfl ?_
      refine sm_ai hM_h rfl e_l1 ?_; intro v5 y_v5 e_v5
      refine sm_oq_add e_v5 e_l2 ?_; intro v6 y_v6 e_v6
      refine sm_ai hM_h rfl e_v6 ?_; intro v7 y_v7 e_v7
      refine sm_is hM_h rfl ?_
      refine sm_cV (sf_X13_spell nn e_v7 hM_h) ?_; intro u9 hM_u9
      refine sm_oq_add e_l2 rfl ?_; intro v10 y_v10 e_v10
      exact ih e_l1 e_v10 hM_u9
set_option maxRecDepth 4000 in
theorem sf_X13_spellToken (nn : Nat) {a1 : Int32} {y_a1 : Int} (e_a1 : a1.toInt = y_a1) {h : ms_M} (hM_h : Rg_M h) : Sm_ RV_ (f_X13_spellToken nn 160 a1 (H_M h)) (qf_X13_spellToken nn y_a1 h) := by
  unfold f_X13_spellToken qf_X13_spellToken
  exact sw_X13_spellToken_2 nn nn e_a1 rfl hM_h
set_option maxRecDepth 4000 in
theorem sw_X13_spellClass_24 (nn : Nat) : ∀ (k : Nat) {l1 : Int32} {y_l1 : Int} (e_l1 : l1.toInt = y_l1) {l2 : Int32} {y_l2 : Int} (e_l2 : l2.toInt = y_l2) {l3 : Int32} {y_l3 : Int} (e_l3 : l3.toInt = y_l3) {h : ms_M} (hM_h : Rg_M h), Sm_ RV_ (w_X13_spellClass_24 nn k 160 l1 l2 l3 (H_M h)) (qw_X13_spellClass_24 nn k y_l1 y_l2 y_l3 h) := by
  intro k
  induction k with
  | zero => intros; exact sm_no
  | succ k ih =>
    intro l1 y_l1 e_l1 l2 y_l2 e_l2 l3 y_l3 e_l3 h hM_h
    unfold w_X13_spellClass_24 qw_X13_spellClass_24
    refine sm_sl ?_; intro v1 y_v1 e_v1
    refine sm_le e_v1 e_l3 ?_ ?_
    · exact sm_rV hM_h
    · refine sm_sc e_l3 ?_; intro v2 y_v2 e_v2
      refine sm_ne e_v2 rfl ?_ ?_
      · refine sm_ne e_l2 e_l1 ?_ ?_
        · refine sm_oq_add e_l3 rfl ?_; intro v3 y_v3 e_v3
          exact ih e_l1 e_l2 e_v3 hM_h
        · refine sm_sc e_l3 ?_; intro v4 y_v4 e_v4
          refine sm_is hM_h rfl ?_
          refine sm_cV (sf_X13_spell nn e_v4 hM_h) ?_; intro u6 hM_u6
          refine sm_oq_add e_l3 rfl ?_; intro v7 y_v7 e_v7
          exact ih e_l1 e_l2 e_v7 hM_u6
      · refine sm_oq_add e_l2 rfl ?_; intro v9 y_v9 e_v9
        refine sm_oq_add e_l3 rfl ?_; intro v10 y_v10 e_v10
        exact ih e_l1 e_v9 e_v10 hM_h
set_option maxRecDepth 4000 in
theorem sf_X13_spellClass (nn : Nat) {a1 : Int32} {y_a1 : Int} (e_a1 : a1.toInt = y_a1) {h : ms_M} (hM_h : Rg_M h) : Sm_ RV_ (f_X13_spellClass nn 160 a1 (H_M h)) (qf_X13_spellClass nn y_a1 h) := by
  unfold f_X13_spellClass qf_X13_spellClass
  refine sm_lt e_a1 rfl ?_ ?_
  · exact sw_X13_spellClass_24 nn nn e_a1 rfl rfl hM_h
  · refine sm_gr hM_h (d := 178) rfl ?_
    refine sm_oq_sub e_a1 rfl ?_; intro v14 y_v14 e_v14
    refine sm_ai hM_h rfl e_v14 ?_; intro v15 y_v15 e_v15
    refine sm_is hM_h rfl ?_
    refine sm_cV (sf_X13_spellToken nn e_v15 hM_h) ?_; intro u17 hM_u17
    exact sm_rV hM_u17
set_option maxRecDepth 4000 in
theorem sj_X13_spellKind_54 (nn : Nat) {l1 : Int32} {y_l1 : Int} (e_l1 : l1.toInt = y_l1) {h : ms_M} (hM_h : Rg_M h) : Sm_ RV_ (j_X13_spellKind_54 nn 160 l1 (H_M h)) (qj_X13_spellKind_54 nn y_l1 h) := by
  unfold j_X13_spellKind_54 qj_X13_spellKind_54
  refine sm_ne e_l1 rfl ?_ ?_
  · refine sm_is hM_h rfl ?_
    refine sm_cV (sf_X13_spell nn rfl hM_h) ?_; intro u2 hM_u2
    refine sm_oq_sub e_l1 rfl ?_; intro v3 y_v3 e_v3
    refine sm_div e_v3 ⟨rfl, by decide⟩ ?_; intro v4 y_v4 e_v4
    refine sm_is hM_u2 rfl ?_
    refine sm_cV (sf_X13_spellClass nn e_v4 hM_u2) ?_; intro u6 hM_u6
    refine sm_is hM_u6 rfl ?_
    refine sm_cV (sf_X13_spell nn rfl hM_u6) ?_; intro u8 hM_u8
    exact sm_rV hM_u8
  · refine sm_is hM_h rfl ?_
    refine sm_cV (sf_X13_spell nn rfl hM_h) ?_; intro u10 hM_u10
    exact sm_rV hM_u10
set_option maxRecDepth 4000 in
theorem sf_X13_spellKind (nn : Nat) {a1 : Int32} {y_a1 : Int} (e_a1 : a1.toInt = y_a1) {h : ms_M} (hM_h : Rg_M h) : Sm_ RV_ (f_X13_spellKind nn 160 a1 (H_M h)) (qf_X13_spellKind nn y_a1 h) := by
  unfold f_X13_spellKind qf_X13_spellKind
  refine sm_ne e_a1 rfl ?_ ?_
  · refine sm_ne e_a1 rfl ?_ ?_
    · refine sm_ne e_a1 rfl ?_ ?_
      · refine sm_cP (sf_X13_isArray nn e_a1 hM_h) ?_; intro u12 y_u12 e_u12
        refine sm_eq e_u12 rfl ?_ ?_
        · exact sj_X13_spellKind_54 nn e_a1 hM_h
        · refine sm_is hM_h rfl ?_
          refine sm_cV (sf_X13_spell nn rfl hM_h) ?_; intro u14 hM_u14
          exact sj_X13_spellKind_54 nn e_a1 hM_u14
      · refine sm_is hM_h rfl ?_
        refine sm_cV (sf_X13_spell nn rfl hM_h) ?_; intro u17 hM_u17
        exact sm_rV hM_u17
    · refine sm_is hM_h rfl ?_
      refine sm_cV (sf_X13_spell nn rfl hM_h) ?_; intro u20 hM_u20
      exact sm_rV hM_u20
  · refine sm_is hM_h rfl ?_
    refine sm_cV (sf_X13_spell nn rfl hM_h) ?_; intro u23 hM_u23
    exact sm_rV hM_u23
set_option maxRecDepth 4000 in
theorem sw_X13_spelling_109 (nn : Nat) : ∀ (k : Nat) {l1 : Int32} {y_l1 : Int} (e_l1 : l1.toInt = y_l1) {l2 : Int32} {y_l2 : Int} (e_l2 : l2.toInt = y_l2) {h : ms_M} (hM_h : Rg_M h), Sm_ RI_ (w_X13_spelling_109 nn k 160 l1 l2 (H_M h)) (qw_X13_spelling_109 nn k y_l1 y_l2 h) := by
  intro k
  induction k with
  | zero => intros; exact sm_no
  | succ k ih =>
    intro l1 y_l1 e_l1 l2 y_l2 e_l2 h hM_h
    unfold w_X13_spelling_109 qw_X13_spelling_109
    refine sm_le e_l1 e_l2 ?_ ?_
    · refine sm_gi hM_h rfl ?_; intro v1 e_v1
      refine sm_is hM_h rfl ?_
      refine sm_cI (sf_X13_constant nn rfl e_v1 e_l1 rfl hM_h) ?_; intro u3 y_u3 M_u3 e_u3 hM_u3
      refine sm_gi hM_u3 rfl ?_; intro v4 e_v4
      refine sm_oq_add e_v4 e_l1 ?_; intro v5 y_v5 e_v5
      refine sm_pv hM_u3 rfl e_v5 ?_; intro h6 hM_h6
      exact sm_rI e_u3 hM_h6
    · refine sm_gr hM_h (d := 204) rfl ?_
      refine sm_gi hM_h rfl ?_; intro v8 e_v8
      refine sm_oq_add e_v8 e_l2 ?_; intro v9 y_v9 e_v9
      refine sm_gr hM_h (d := 205) rfl ?_
      refine sm_ai hM_h rfl e_l2 ?_; intro v11 y_v11 e_v11
      refine sm_si hM_h rfl e_v9 e_v11 ?_; intro h12 hM_h12
      refine sm_oq_add e_l2 rfl ?_; intro v13 y_v13 e_v13
      exact ih e_l1 e_v13 hM_h12
set_option maxRecDepth 4000 in
theorem sj_X13_spelling_95 (nn : Nat) {kk_12 : Nat → Int32 → Int32 → mx_H → Option (Int32 × mx_H)} {qkk_12 : Int → Int → ms_M → Option (Int × ms_M)} (hk_kk_12 : ∀ {l1 : Int32} {y_l1 : Int} (e_l1 : l1.toInt = y_l1) {l2 : Int32} {y_l2 : Int} (e_l2 : l2.toInt = y_l2) {h : ms_M} (hM_h : Rg_M h), Sm_ RI_ (kk_12 160 l1 l2 (H_M h)) (qkk_12 y_l1 y_l2 h)) {l1 : Int32} {y_l1 : Int} (e_l1 : l1.toInt = y_l1) {l2 : Int32} {y_l2 : Int} (e_l2 : l2.toInt = y_l2) {l3 : Int32} {y_l3 : Int} (e_l3 : l3.toInt = y_l3) {h : ms_M} (hM_h : Rg_M h) : Sm_ RI_ (j_X13_spelling_95 nn kk_12 160 l1 l2 l3 (H_M h)) (qj_X13_spelling_95 nn qkk_12 y_l1 y_l2 y_l3 h) := by
  unfold j_X13_spelling_95 qj_X13_spelling_95
  refine sm_eq e_l3 rfl ?_ ?_
  · refine sm_oq_add e_l2 rfl ?_; intro v15 y_v15 e_v15
    exact hk_kk_12 e_l1 e_v15 hM_h
  · exact sm_rI e_l2 hM_h
set_option maxRecDepth 4000 in
theorem sw_X13_spelling_49 (nn : Nat) {kk_12 : Nat → Int32 → Int32 → mx_H → Option (Int32 × mx_H)} {qkk_12 : Int → Int → ms_M → Option (Int × ms_M)} (hk_kk_12 : ∀ {l1 : Int32} {y_l1 : Int} (e_l1 : l1.toInt = y_l1) {l2 : Int32} {y_l2 : Int} (e_l2 : l2.toInt = y_l2) {h : ms_M} (hM_h : Rg_M h), Sm_ RI_ (kk_12 160 l1 l2 (H_M h)) (qkk_12 y_l1 y_l2 h)) : ∀ (k : Nat) {l1 : Int32} {y_l1 : Int} (e_l1 : l1.toInt = y_l1) {l2 : Int32} {y_l2 : Int} (e_l2 : l2.toInt = y_l2) {l3 : Int32} {y_l3 : Int} (e_l3 : l3.toInt = y_l3) {l4 : Int32} {y_l4 : Int} (e_l4 : l4.toInt = y_l4) {h : ms_M} (hM_h : Rg_M h), Sm_ RI_ (w_X13_spelling_49 nn kk_12 k 160 l1 l2 l3 l4 (H_M h)) (qw_X13_spelling_49 nn qkk_12 k y_l1 y_l2 y_l3 y_l4 h) := by
  intro k
  induction k with
  | zero => intros; exact sm_no
  | succ k ih =>
    intro l1 y_l1 e_l1 l2 y_l2 e_l2 l3 y_l3 e_l3 l4 y_l4 e_l4 h hM_h
    unfold w_X13_spelling_49 qw_X13_spelling_49
    refine sm_le e_l1 e_l4 ?_ ?_
    · exact sj_X13_spelling_95 nn hk_kk_12 e_l1 e_l2 e_l3 hM_h
    · refine sm_eq e_l3 rfl ?_ ?_
      · exact sj_X13_spelling_95 nn hk_kk_12 e_l1 e_l2 e_l3 hM_h
      · refine sm_gr hM_h (d := 204) rfl ?_
        refine sm_gr hM_h (d := 201) rfl ?_
        refine sm_ai hM_h rfl e_l2 ?_; intro v19 y_v19 e_v19
        refine sm_oq_add e_v19 e_l4 ?_; intro v20 y_v20 e_v20
        refine sm_ai hM_h rfl e_v20 ?_; intro v21 y_v21 e_v21
        refine sm_gr hM_h (d := 205) rfl ?_
        refine sm_ai hM_h rfl e_l4 ?_; intro v23 y_v23 e_v23
        refine sm_ne e_v21 e_v23 ?_ ?_
        · refine sm_oq_add e_l4 rfl ?_; intro v24 y_v24 e_v24
          exact ih e_l1 e_l2 rfl e_v24 hM_h
        · refine sm_oq_add e_l4 rfl ?_; intro v25 y_v25 e_v25
          exact ih e_l1 e_l2 rfl e_v25 hM_h
set_option maxRecDepth 4000 in
theorem sj_X13_spelling_44 (nn : Nat) {kk_12 : Nat → Int32 → Int32 → mx_H → Option (Int32 × mx_H)} {qkk_12 : Int → Int → ms_M → Option (Int × ms_M)} (hk_kk_12 : ∀ {l1 : Int32} {y_l1 : Int} (e_l1 : l1.toInt = y_l1) {l2 : Int32} {y_l2 : Int} (e_l2 : l2.toInt = y_l2) {h : ms_M} (hM_h : Rg_M h), Sm_ RI_ (kk_12 160 l1 l2 (H_M h)) (qkk_12 y_l1 y_l2 h)) {l1 : Int32} {y_l1 : Int} (e_l1 : l1.toInt = y_l1) {l2 : Int32} {y_l2 : Int} (e_l2 : l2.toInt = y_l2) {h : ms_M} (hM_h : Rg_M h) : Sm_ RI_ (j_X13_spelling_44 nn kk_12 160 l1 l2 (H_M h)) (qj_X13_spelling_44 nn qkk_12 y_l1 y_l2 h) := by
  unfold j_X13_spelling_44 qj_X13_spelling_44
  exact sw_X13_spelling_49 nn hk_kk_12 nn e_l1 e_l2 rfl rfl hM_h
set_option maxRecDepth 4000 in
theorem sw_X13_spelling_12 (nn : Nat) : ∀ (k : Nat) {l1 : Int32} {y_l1 : Int} (e_l1 : l1.toInt = y_l1) {l2 : Int32} {y_l2 : Int} (e_l2 : l2.toInt = y_l2) {h : ms_M} (hM_h : Rg_M h), Sm_ RI_ (w_X13_spelling_12 nn k 160 l1 l2 (H_M h)) (qw_X13_spelling_12 nn k y_l1 y_l2 h) := by
  intro k
  induction k with
  | zero => intros; exact sm_no
  | succ k ih =>
    intro l1 y_l1 e_l1 l2 y_l2 e_l2 h hM_h
    unfold w_X13_spelling_12 qw_X13_spelling_12
    refine sm_gi hM_h rfl ?_; intro v29 e_v29
    refine sm_lt e_v29 e_l2 ?_ ?_
    · exact sw_X13_spelling_109 nn nn e_l1 rfl hM_h
    · refine sm_gr hM_h (d := 200) rfl ?_
      refine sm_ai hM_h rfl e_l2 ?_; intro v31 y_v31 e_v31
      refine sm_ne e_v31 rfl ?_ ?_
      · exact sj_X13_spelling_44 nn ih e_l1 e_l2 hM_h
      · refine sm_gr hM_h (d := 202) rfl ?_
        refine sm_ai hM_h rfl e_l2 ?_; intro v33 y_v33 e_v33
        refine sm_ne e_v33 e_l1 ?_ ?_
        · exact sj_X13_spelling_44 nn ih e_l1 e_l2 hM_h
        · exact sw_X13_spelling_49 nn ih nn e_l1 e_l2 rfl rfl hM_h
set_option maxRecDepth 4000 in
theorem sf_X13_spelling (nn : Nat) {h : ms_M} (hM_h : Rg_M h) : Sm_ RI_ (f_X13_spelling nn 160 (H_M h)) (qf_X13_spelling nn h) := by
  unfold f_X13_spelling qf_X13_spelling
  refine sm_gi hM_h rfl ?_; intro v37 e_v37
  refine sm_pv hM_h rfl rfl ?_; intro h38 hM_h38
  exact sw_X13_spelling_12 nn nn e_v37 rfl hM_h38
set_option maxRecDepth 4000 in
theorem sj_X13_classConstant_38 (nn : Nat) {h : ms_M} (hM_h : Rg_M h) : Sm_ RI_ (j_X13_classConstant_38 nn 160 (H_M h)) (qj_X13_classConstant_38 nn h) := by
  unfold j_X13_classConstant_38 qj_X13_classConstant_38
  refine sm_is hM_h rfl ?_
  refine sm_cI (sf_X13_spelling nn hM_h) ?_; intro u2 y_u2 M_u2 e_u2 hM_u2
  refine sm_is hM_u2 rfl ?_
  refine sm_cI (sf_X13_constant nn rfl e_u2 rfl rfl hM_u2) ?_; intro u4 y_u4 M_u4 e_u4 hM_u4
  exact sm_rI e_u4 hM_u4
set_option maxRecDepth 4000 in
theorem sf_X13_classConstant (nn : Nat) {a1 : Int32} {y_a1 : Int} (e_a1 : a1.toInt = y_a1) {h : ms_M} (hM_h : Rg_M h) : Sm_ RI_ (f_X13_classConstant nn 160 a1 (H_M h)) (qf_X13_classConstant nn y_a1 h) := by
  unfold f_X13_classConstant qf_X13_classConstant
  refine sm_ne e_a1 rfl ?_ ?_
  · refine sm_cP (sf_X13_isArray nn e_a1 hM_h) ?_; intro u5 y_u5 e_u5
    refine sm_eq e_u5 rfl ?_ ?_
    · refine sm_oq_sub e_a1 rfl ?_; intro v6 y_v6 e_v6
      refine sm_div e_v6 ⟨rfl, by decide⟩ ?_; intro v7 y_v7 e_v7
      refine sm_is hM_h rfl ?_
      refine sm_cV (sf_X13_spellClass nn e_v7 hM_h) ?_; intro u9 hM_u9
      exact sj_X13_classConstant_38 nn hM_u9
    · refine sm_is hM_h rfl ?_
      refine sm_cV (sf_X13_spellKind nn e_a1 hM_h) ?_; intro u11 hM_u11
      exact sj_X13_classConstant_38 nn hM_u11
  · refine sm_is hM_h rfl ?_
    refine sm_cV (sf_X13_spellKind nn e_a1 hM_h) ?_; intro u14 hM_u14
    exact sj_X13_classConstant_38 nn hM_u14
set_option maxRecDepth 4000 in
theorem sj_X13_kindOf_56 (nn : Nat) {l1 : Int32} {y_l1 : Int} (e_l1 : l1.toInt = y_l1) {h : ms_M} (hM_h : Rg_M h) : Sm_ RI_ (j_X13_kindOf_56 nn 160 l1 (H_M h)) (qj_X13_kindOf_56 nn y_l1 h) := by
  unfold j_X13_kindOf_56 qj_X13_kindOf_56
  refine sm_gr hM_h (d := 187) rfl ?_
  refine sm_ai hM_h rfl e_l1 ?_; intro v2 y_v2 e_v2
  refine sm_is hM_h rfl ?_
  refine sm_cV (sf_X13_spellKind nn e_v2 hM_h) ?_; intro u4 hM_u4
  refine sm_is hM_u4 rfl ?_
  refine sm_cI (sf_X13_spelling nn hM_u4) ?_; intro u6 y_u6 M_u6 e_u6 hM_u6
  exact sm_rI e_u6 hM_u6
set_option maxRecDepth 4000 in
theorem sw_X13_kindOf_17 (nn : Nat) : ∀ (k : Nat) {l1 : Int32} {y_l1 : Int} (e_l1 : l1.toInt = y_l1) {l2 : Int32} {y_l2 : Int} (e_l2 : l2.toInt = y_l2) {h : ms_M} (hM_h : Rg_M h), Sm_ RI_ (w_X13_kindOf_17 nn k 160 l1 l2 (H_M h)) (qw_X13_kindOf_17 nn k y_l1 y_l2 h) := by
  intro k
  induction k with
  | zero => intros; exact sm_no
  | succ k ih =>
    intro l1 y_l1 e_l1 l2 y_l2 e_l2 h hM_h
    unfold w_X13_kindOf_17 qw_X13_kindOf_17
    refine sm_gr hM_h (d := 189) rfl ?_
    refine sm_ai hM_h rfl e_l1 ?_; intro v8 y_v8 e_v8
    refine sm_le e_v8 e_l2 ?_ ?_
    · refine sm_is hM_h rfl ?_
      refine sm_cV (sf_X13_spell nn rfl hM_h) ?_; intro u10 hM_u10
      exact sj_X13_kindOf_56 nn e_l1 hM_u10
    · refine sm_gr hM_h (d := 195) rfl ?_
      refine sm_gr hM_h (d := 188) rfl ?_
      refine sm_ai hM_h rfl e_l1 ?_; intro v13 y_v13 e_v13
      refine sm_oq_add e_v13 e_l2 ?_; intro v14 y_v14 e_v14
      refine sm_ai hM_h rfl e_v14 ?_; intro v15 y_v15 e_v15
      refine sm_is hM_h rfl ?_
      refine sm_cV (sf_X13_spellKind nn e_v15 hM_h) ?_; intro u17 hM_u17
      refine sm_oq_add e_l2 rfl ?_; intro v18 y_v18 e_v18
      exact ih e_l1 e_v18 hM_u17
set_option maxRecDepth 4000 in
theorem sf_X13_kindOf (nn : Nat) {a1 : Int32} {y_a1 : Int} (e_a1 : a1.toInt = y_a1) {h : ms_M} (hM_h : Rg_M h) : Sm_ RI_ (f_X13_kindOf nn 160 a1 (H_M h)) (qf_X13_kindOf nn y_a1 h) := by
  unfold f_X13_kindOf qf_X13_kindOf
  refine sm_gr hM_h (d := 182) rfl ?_
  refine sm_ai hM_h rfl e_a1 ?_; intro v21 y_v21 e_v21
  refine sm_le e_v21 rfl ?_ ?_
  · exact sj_X13_kindOf_56 nn e_a1 hM_h
  · refine sm_is hM_h rfl ?_
    refine sm_cV (sf_X13_spell nn rfl hM_h) ?_; intro u23 hM_u23
    exact sw_X13_kindOf_17 nn nn e_a1 rfl hM_u23
set_option maxRecDepth 4000 in
theorem sf_X13_comes (nn : Nat) {a1 : Int32} {y_a1 : Int} (e_a1 : a1.toInt = y_a1) {a2 : Int32} {y_a2 : Int} (e_a2 : a2.toInt = y_a2) {h : ms_M} (hM_h : Rg_M h) : Sm_ RV_ (f_X13_comes nn 160 a1 a2 (H_M h)) (qf_X13_comes nn y_a1 y_a2 h) := by
  unfold f_X13_comes qf_X13_comes
  refine sm_is hM_h rfl ?_
  refine sm_cV (sf_X13_come nn e_a1 e_a2 hM_h) ?_; intro u2 hM_u2
  refine sm_gi hM_u2 rfl ?_; intro v3 e_v3
  refine sm_gi hM_u2 rfl ?_; intro v4 e_v4
  refine sm_ite e_v3 e_v4 e_v4 e_v3 ?_; intro v5 y_v5 e_v5
  refine sm_pv hM_u2 rfl e_v5 ?_; intro h6 hM_h6
  exact sm_rV hM_h6
set_option maxRecDepth 4000 in
theorem sf_X13_textOf (nn : Nat) {a1 : Int32} {y_a1 : Int} (e_a1 : a1.toInt = y_a1) {h : ms_M} (hM_h : Rg_M h) : Sm_ RI_ (f_X13_textOf nn 160 a1 (H_M h)) (qf_X13_textOf nn y_a1 h) := by
  unfold f_X13_textOf qf_X13_textOf
  refine sm_is hM_h rfl ?_
  refine sm_cV (sf_X13_spellToken nn e_a1 hM_h) ?_; intro u2 hM_u2
  refine sm_is hM_u2 rfl ?_
  refine sm_cI (sf_X13_spelling nn hM_u2) ?_; intro u4 y_u4 M_u4 e_u4 hM_u4
  exact sm_rI e_u4 hM_u4
set_option maxRecDepth 4000 in
theorem sf_X13_memberConstant (nn : Nat) {a1 : Int32} {y_a1 : Int} (e_a1 : a1.toInt = y_a1) {a2 : Int32} {y_a2 : Int} (e_a2 : a2.toInt = y_a2) {h : ms_M} (hM_h : Rg_M h) : Sm_ RI_ (f_X13_memberConstant nn 160 a1 a2 (H_M h)) (qf_X13_memberConstant nn y_a1 y_a2 h) := by
  unfold f_X13_memberConstant qf_X13_memberConstant
  refine sm_oq_mul rfl e_a1 ?_; intro v1 y_v1 e_v1
  refine sm_oq_add rfl e_v1 ?_; intro v2 y_v2 e_v2
  refine sm_is hM_h rfl ?_
  refine sm_cI (sf_X13_classConstant nn e_v2 hM_h) ?_; intro u4 y_u4 M_u4 e_u4 hM_u4
  refine sm_gr hM_u4 (d := 186) rfl ?_
  refine sm_ai hM_u4 rfl e_a2 ?_; intro v6 y_v6 e_v6
  refine sm_is hM_u4 rfl ?_
  refine sm_cI (sf_X13_textOf nn e_v6 hM_u4) ?_; intro u8 y_u8 M_u8 e_u8 hM_u8
  refine sm_is hM_u8 rfl ?_
  refine sm_cI (sf_X13_kindOf nn e_a2 hM_u8) ?_; intro u10 y_u10 M_u10 e_u10 hM_u10
  refine sm_is hM_u10 rfl ?_
  refine sm_cI (sf_X13_constant nn rfl e_u4 e_u8 e_u10 hM_u10) ?_; intro u12 y_u12 M_u12 e_u12 hM_u12
  exact sm_rI e_u12 hM_u12
set_option maxRecDepth 4000 in
theorem sj_X13_put_24 (nn : Nat) {h : ms_M} (hM_h : Rg_M h) : Sm_ RV_ (j_X13_put_24 nn 160 (H_M h)) (qj_X13_put_24 nn h) := by
  unfold j_X13_put_24 qj_X13_put_24
  refine sm_gi hM_h rfl ?_; intro v1 e_v1
  refine sm_oq_add e_v1 rfl ?_; intro v2 y_v2 e_v2
  refine sm_pv hM_h rfl e_v2 ?_; intro h3 hM_h3
  exact sm_rV hM_h3
set_option maxRecDepth 4000 in
theorem sf_X13_put (nn : Nat) {a1 : Int32} {y_a1 : Int} (e_a1 : a1.toInt = y_a1) {h : ms_M} (hM_h : Rg_M h) : Sm_ RV_ (f_X13_put nn 160 a1 (H_M h)) (qf_X13_put nn y_a1 h) := by
  unfold f_X13_put qf_X13_put
  refine sm_gi hM_h rfl ?_; intro v4 e_v4
  refine sm_le rfl e_v4 ?_ ?_
  · exact sj_X13_put_24 nn hM_h
  · refine sm_gr hM_h (d := 206) rfl ?_
    refine sm_gi hM_h rfl ?_; intro v6 e_v6
    refine sm_oq_and e_a1 rfl ?_; intro v7 y_v7 e_v7
    refine sm_si hM_h rfl e_v6 e_v7 ?_; intro h8 hM_h8
    exact sj_X13_put_24 nn hM_h8
set_option maxRecDepth 4000 in
theorem sf_X13_push (nn : Nat) {a1 : Int32} {y_a1 : Int} (e_a1 : a1.toInt = y_a1) {h : ms_M} (hM_h : Rg_M h) : Sm_ RV_ (f_X13_push nn 160 a1 (H_M h)) (qf_X13_push nn y_a1 h) := by
  unfold f_X13_push qf_X13_push
  refine sm_gr hM_h (d := 207) rfl ?_
  refine sm_gi hM_h rfl ?_; intro v2 e_v2
  refine sm_si hM_h rfl e_v2 e_a1 ?_; intro h3 hM_h3
  refine sm_gi hM_h3 rfl ?_; intro v4 e_v4
  refine sm_oq_add e_v4 rfl ?_; intro v5 y_v5 e_v5
  refine sm_pv hM_h3 rfl e_v5 ?_; intro h6 hM_h6
  refine sm_gi hM_h6 rfl ?_; intro v7 e_v7
  refine sm_gi hM_h6 rfl ?_; intro v8 e_v8
  refine sm_ite e_v7 e_v8 e_v8 e_v7 ?_; intro v9 y_v9 e_v9
  refine sm_pv hM_h6 rfl e_v9 ?_; intro h10 hM_h10
  exact sm_rV hM_h10
set_option maxRecDepth 4000 in
theorem sf_X13_self (nn : Nat) {h : ms_M} (hM_h : Rg_M h) : Sm_ RV_ (f_X13_self nn 160 (H_M h)) (qf_X13_self nn h) := by
  unfold f_X13_self qf_X13_self
  refine sm_is hM_h rfl ?_
  refine sm_cV (sf_X13_put nn rfl hM_h) ?_; intro u2 hM_u2
  refine sm_is hM_u2 rfl ?_
  refine sm_cV (sf_X13_put nn rfl hM_u2) ?_; intro u4 hM_u4
  refine sm_gi hM_u4 rfl ?_; intro v5 e_v5
  refine sm_oq_mul rfl e_v5 ?_; intro v6 y_v6 e_v6
  refine sm_oq_add rfl e_v6 ?_; intro v7 y_v7 e_v7
  refine sm_is hM_u4 rfl ?_
  refine sm_cV (sf_X13_push nn e_v7 hM_u4) ?_; intro u9 hM_u9
  exact sm_rV hM_u9
set_option maxRecDepth 4000 in
theorem sf_X13_isLedInWords (nn : Nat) {a1 : Int32} {y_a1 : Int} (e_a1 : a1.toInt = y_a1) {h : ms_M} (hM_h : Rg_M h) : Sm_ (RP_ h) (f_X13_isLedInWords nn 160 a1 (H_M h)) (qf_X13_isLedInWords nn y_a1 h) := by
  unfold f_X13_isLedInWords qf_X13_isLedInWords
  refine sm_gr hM_h (d := 167) rfl ?_
  refine sm_ai hM_h rfl e_a1 ?_; intro v2 y_v2 e_v2
  refine sm_eq e_v2 rfl ?_ ?_
  · exact sm_rP rfl
  · refine sm_eq e_v2 rfl ?_ ?_
    · exact sm_rP rfl
    · refine sm_eq e_v2 rfl ?_ ?_
      · exact sm_rP rfl
      · refine sm_eq e_v2 rfl ?_ ?_
        · exact sm_rP rfl
        · refine sm_ne e_v2 rfl ?_ ?_
          · exact sm_rP rfl
          · refine sm_gr hM_h (d := 176) rfl ?_
            refine sm_ai hM_h rfl e_a1 ?_; intro v4 y_v4 e_v4
            refine sm_ne e_v4 rfl ?_ ?_
            · exact sm_rP rfl
            · exact sm_rP rfl
set_option maxRecDepth 4000 in
theorem sf_X13_jump (nn : Nat) {a1 : Int32} {y_a1 : Int} (e_a1 : a1.toInt = y_a1) {a2 : Int32} {y_a2 : Int} (e_a2 : a2.toInt = y_a2) {h : ms_M} (hM_h : Rg_M h) : Sm_ RV_ (f_X13_jump nn 160 a1 a2 (H_M h)) (qf_X13_jump nn y_a1 y_a2 h) := by
  unfold f_X13_jump qf_X13_jump
  refine sm_gr hM_h (d := 217) rfl ?_
  refine sm_gi hM_h rfl ?_; intro v2 e_v2
  refine sm_gi hM_h rfl ?_; intro v3 e_v3
  refine sm_si hM_h rfl e_v2 e_v3 ?_; intro h4 hM_h4
  refine sm_gr hM_h4 (d := 218) rfl ?_
  refine sm_gi hM_h4 rfl ?_; intro v6 e_v6
  refine sm_si hM_h4 rfl e_v6 e_a2 ?_; intro h7 hM_h7
  refine sm_gi hM_h7 rfl ?_; intro v8 e_v8
  refine sm_oq_add e_v8 rfl ?_; intro v9 y_v9 e_v9
  refine sm_pv hM_h7 rfl e_v9 ?_; intro h10 hM_h10
  refine sm_is hM_h10 rfl ?_
  refine sm_cV (sf_X13_put nn e_a1 hM_h10) ?_; intro u12 hM_u12
  refine sm_is hM_u12 rfl ?_
  refine sm_cV (sf_X13_put nn rfl hM_u12) ?_; intro u14 hM_u14
  refine sm_is hM_u14 rfl ?_
  refine sm_cV (sf_X13_put nn rfl hM_u14) ?_; intro u16 hM_u16
  exact sm_rV hM_u16
set_option maxRecDepth 4000 in
theorem sf_X13_label (nn : Nat) {h : ms_M} (hM_h : Rg_M h) : Sm_ RI_ (f_X13_label nn 160 (H_M h)) (qf_X13_label nn h) := by
  unfold f_X13_label qf_X13_label
  refine sm_gi hM_h rfl ?_; intro v1 e_v1
  refine sm_oq_add e_v1 rfl ?_; intro v2 y_v2 e_v2
  refine sm_pv hM_h rfl e_v2 ?_; intro h3 hM_h3
  refine sm_gi hM_h3 rfl ?_; intro v4 e_v4
  exact sm_rI e_v4 hM_h3
set_option maxRecDepth 4000 in
theorem sj_X13_number_60 (nn : Nat) {h : ms_M} (hM_h : Rg_M h) : Sm_ RV_ (j_X13_number_60 nn 160 (H_M h)) (qj_X13_number_60 nn h) := by
  unfold j_X13_number_60 qj_X13_number_60
  refine sm_is hM_h rfl ?_
  refine sm_cV (sf_X13_push nn rfl hM_h) ?_; intro u2 hM_u2
  exact sm_rV hM_u2
set_option maxRecDepth 4000 in
theorem sf_X13_number (nn : Nat) {a1 : Int32} {y_a1 : Int} (e_a1 : a1.toInt = y_a1) {h : ms_M} (hM_h : Rg_M h) : Sm_ RV_ (f_X13_number nn 160 a1 (H_M h)) (qf_X13_number nn y_a1 h) := by
  unfold f_X13_number qf_X13_number
  refine sm_gr hM_h (d := 166) rfl ?_
  refine sm_ai hM_h rfl e_a1 ?_; intro v4 y_v4 e_v4
  refine sm_lt rfl e_v4 ?_ ?_
  · refine sm_lt rfl e_v4 ?_ ?_
    · refine sm_is hM_h rfl ?_
      refine sm_cV (sf_X13_put nn rfl hM_h) ?_; intro u6 hM_u6
      refine sm_is hM_u6 rfl ?_
      refine sm_cI (sf_X13_constant nn rfl e_v4 rfl rfl hM_u6) ?_; intro u8 y_u8 M_u8 e_u8 hM_u8
      refine sm_is hM_u8 rfl ?_
      refine sm_cV (sf_X13_put nn e_u8 hM_u8) ?_; intro u10 hM_u10
      exact sj_X13_number_60 nn hM_u10
    · refine sm_is hM_h rfl ?_
      refine sm_cV (sf_X13_put nn rfl hM_h) ?_; intro u12 hM_u12
      refine sm_is hM_u12 rfl ?_
      refine sm_cV (sf_X13_put nn e_v4 hM_u12) ?_; intro u14 hM_u14
      exact sj_X13_number_60 nn hM_u14
  · refine sm_oq_add rfl e_v4 ?_; intro v16 y_v16 e_v16
    refine sm_is hM_h rfl ?_
    refine sm_cV (sf_X13_put nn e_v16 hM_h) ?_; intro u18 hM_u18
    exact sj_X13_number_60 nn hM_u18
set_option maxRecDepth 4000 in
theorem sw_X13_frame_192 (nn : Nat) : ∀ (k : Nat) {l3 : Int32} {y_l3 : Int} (e_l3 : l3.toInt = y_l3) {l4 : Int32} {y_l4 : Int} (e_l4 : l4.toInt = y_l4) {h : ms_M} (hM_h : Rg_M h), Sm_ RV_ (w_X13_frame_192 nn k 160 l3 l4 (H_M h)) (qw_X13_frame_192 nn k y_l3 y_l4 h) := by
  intro k
  induction k with
  | zero => intros; exact sm_no
  | succ k ih =>
    intro l3 y_l3 e_l3 l4 y_l4 e_l4 h hM_h
    unfold w_X13_frame_192 qw_X13_frame_192
    refine sm_gi hM_h rfl ?_; intro v1 e_v1
    refine sm_le e_v1 e_l4 ?_ ?_
    · refine sm_gi hM_h rfl ?_; intro v2 e_v2
      refine sm_gi hM_h rfl ?_; intro v3 e_v3
      refine sm_oq_add e_l3 e_v3 ?_; intro v4 y_v4 e_v4
      refine sm_gi hM_h rfl ?_; intro v5 e_v5
      refine sm_oq_add e_v4 e_v5 ?_; intro v6 y_v6 e_v6
      refine sm_oq_add e_v2 e_v6 ?_; intro v7 y_v7 e_v7
      refine sm_pv hM_h rfl e_v7 ?_; intro h8 hM_h8
      exact sm_rV hM_h8
    · refine sm_gr hM_h (d := 212) rfl ?_
      refine sm_gi hM_h rfl ?_; intro v10 e_v10
      refine sm_oq_add e_v10 e_l3 ?_; intro v11 y_v11 e_v11
      refine sm_gi hM_h rfl ?_; intro v12 e_v12
      refine sm_oq_add e_v11 e_v12 ?_; intro v13 y_v13 e_v13
      refine sm_oq_add e_v13 e_l4 ?_; intro v14 y_v14 e_v14
      refine sm_gr hM_h (d := 207) rfl ?_
      refine sm_ai hM_h rfl e_l4 ?_; intro v16 y_v16 e_v16
      refine sm_si hM_h rfl e_v14 e_v16 ?_; intro h17 hM_h17
      refine sm_oq_add e_l4 rfl ?_; intro v18 y_v18 e_v18
      exact ih e_l3 e_v18 hM_h17
set_option maxRecDepth 4000 in
theorem sw_X13_frame_153 (nn : Nat) : ∀ (k : Nat) {l3 : Int32} {y_l3 : Int} (e_l3 : l3.toInt = y_l3) {l4 : Int32} {y_l4 : Int} (e_l4 : l4.toInt = y_l4) {h : ms_M} (hM_h : Rg_M h), Sm_ RV_ (w_X13_frame_153 nn k 160 l3 l4 (H_M h)) (qw_X13_frame_153 nn k y_l3 y_l4 h) := by
  intro k
  induction k with
  | zero => intros; exact sm_no
  | succ k ih =>
    intro l3 y_l3 e_l3 l4 y_l4 e_l4 h hM_h
    unfold w_X13_frame_153 qw_X13_frame_153
    refine sm_gi hM_h rfl ?_; intro v20 e_v20
    refine sm_le e_v20 e_l4 ?_ ?_
    · exact sw_X13_frame_192 nn nn e_l3 rfl hM_h
    · refine sm_gr hM_h (d := 212) rfl ?_
      refine sm_gi hM_h rfl ?_; intro v22 e_v22
      refine sm_oq_add e_v22 e_l3 ?_; intro v23 y_v23 e_v23
      refine sm_oq_add e_v23 e_l4 ?_; intro v24 y_v24 e_v24
      refine sm_gr hM_h (d := 197) rfl ?_
      refine sm_ai hM_h rfl e_l4 ?_; intro v26 y_v26 e_v26
      refine sm_si hM_h rfl e_v24 e_v26 ?_; intro h27 hM_h27
      refine sm_oq_add e_l4 rfl ?_; intro v28 y_v28 e_v28
      exact ih e_l3 e_v28 hM_h27
set_option maxRecDepth 4000 in
theorem sj_X13_frame_80 (nn : Nat) {l2 : Int32} {y_l2 : Int} (e_l2 : l2.toInt = y_l2) {s0 : Int32} {y_s0 : Int} (e_s0 : s0.toInt = y_s0) {h : ms_M} (hM_h : Rg_M h) : Sm_ RV_ (j_X13_frame_80 nn 160 l2 s0 (H_M h)) (qj_X13_frame_80 nn y_l2 y_s0 h) := by
  unfold j_X13_frame_80 qj_X13_frame_80
  refine sm_gr hM_h (d := 210) rfl ?_
  refine sm_gi hM_h rfl ?_; intro v31 e_v31
  refine sm_oq_add e_v31 e_s0 ?_; intro v32 y_v32 e_v32
  refine sm_si hM_h rfl e_l2 e_v32 ?_; intro h33 hM_h33
  refine sm_gr hM_h33 (d := 211) rfl ?_
  refine sm_gi hM_h33 rfl ?_; intro v35 e_v35
  refine sm_si hM_h33 rfl e_l2 e_v35 ?_; intro h36 hM_h36
  refine sm_gi hM_h36 rfl ?_; intro v37 e_v37
  refine sm_gi hM_h36 rfl ?_; intro v38 e_v38
  refine sm_oq_add e_v37 e_v38 ?_; intro v39 y_v39 e_v39
  refine sm_oq_add e_v39 rfl ?_; intro v40 y_v40 e_v40
  refine sm_gi hM_h36 rfl ?_; intro v41 e_v41
  refine sm_oq_add e_v40 e_v41 ?_; intro v42 y_v42 e_v42
  refine sm_le e_v42 rfl ?_ ?_
  · refine sm_gi hM_h36 rfl ?_; intro v43 e_v43
    refine sm_ne e_v43 rfl ?_ ?_
    · exact sw_X13_frame_153 nn nn e_s0 rfl hM_h36
    · refine sm_gr hM_h36 (d := 212) rfl ?_
      refine sm_gi hM_h36 rfl ?_; intro v45 e_v45
      refine sm_gi hM_h36 rfl ?_; intro v46 e_v46
      refine sm_oq_mul rfl e_v46 ?_; intro v47 y_v47 e_v47
      refine sm_oq_add rfl e_v47 ?_; intro v48 y_v48 e_v48
      refine sm_si hM_h36 rfl e_v45 e_v48 ?_; intro h49 hM_h49
      exact sw_X13_frame_153 nn nn e_s0 rfl hM_h49
  · exact sm_rV hM_h36
set_option maxRecDepth 4000 in
theorem sj_X13_frame_51 (nn : Nat) {l1 : Int32} {y_l1 : Int} (e_l1 : l1.toInt = y_l1) {l2 : Int32} {y_l2 : Int} (e_l2 : l2.toInt = y_l2) {h : ms_M} (hM_h : Rg_M h) : Sm_ RV_ (j_X13_frame_51 nn 160 l1 l2 (H_M h)) (qj_X13_frame_51 nn y_l1 y_l2 h) := by
  unfold j_X13_frame_51 qj_X13_frame_51
  refine sm_gr hM_h (d := 208) rfl ?_
  refine sm_si hM_h rfl e_l2 e_l1 ?_; intro h53 hM_h53
  refine sm_gr hM_h53 (d := 209) rfl ?_
  refine sm_gi hM_h53 rfl ?_; intro v55 e_v55
  refine sm_si hM_h53 rfl e_l2 e_v55 ?_; intro h56 hM_h56
  refine sm_gi hM_h56 rfl ?_; intro v57 e_v57
  refine sm_eq e_v57 rfl ?_ ?_
  · exact sj_X13_frame_80 nn e_l2 rfl hM_h56
  · exact sj_X13_frame_80 nn e_l2 rfl hM_h56
set_option maxRecDepth 4000 in
theorem sw_X13_frame_7 (nn : Nat) : ∀ (k : Nat) {l1 : Int32} {y_l1 : Int} (e_l1 : l1.toInt = y_l1) {l2 : Int32} {y_l2 : Int} (e_l2 : l2.toInt = y_l2) {l3 : Int32} {y_l3 : Int} (e_l3 : l3.toInt = y_l3) {h : ms_M} (hM_h : Rg_M h), Sm_ RV_ (w_X13_frame_7 nn k 160 l1 l2 l3 (H_M h)) (qw_X13_frame_7 nn k y_l1 y_l2 y_l3 h) := by
  intro k
  induction k with
  | zero => intros; exact sm_no
  | succ k ih =>
    intro l1 y_l1 e_l1 l2 y_l2 e_l2 l3 y_l3 e_l3 h hM_h
    unfold w_X13_frame_7 qw_X13_frame_7
    refine sm_gi hM_h rfl ?_; intro v59 e_v59
    refine sm_le e_v59 e_l3 ?_ ?_
    · refine sm_gi hM_h rfl ?_; intro v60 e_v60
      refine sm_ne e_l2 e_v60 ?_ ?_
      · exact sj_X13_frame_51 nn e_l1 e_l2 hM_h
      · refine sm_gi hM_h rfl ?_; intro v61 e_v61
        refine sm_oq_add e_v61 rfl ?_; intro v62 y_v62 e_v62
        refine sm_pv hM_h rfl e_v62 ?_; intro h63 hM_h63
        exact sj_X13_frame_51 nn e_l1 e_l2 hM_h63
    · refine sm_gr hM_h (d := 208) rfl ?_
      refine sm_ai hM_h rfl e_l3 ?_; intro v66 y_v66 e_v66
      refine sm_ne e_v66 e_l1 ?_ ?_
      · refine sm_oq_add e_l3 rfl ?_; intro v67 y_v67 e_v67
        exact ih e_l1 e_l2 e_v67 hM_h
      · refine sm_oq_add e_l3 rfl ?_; intro v68 y_v68 e_v68
        exact ih e_l1 e_l3 e_v68 hM_h
set_option maxRecDepth 4000 in
theorem sf_X13_frame (nn : Nat) {a1 : Int32} {y_a1 : Int} (e_a1 : a1.toInt = y_a1) {h : ms_M} (hM_h : Rg_M h) : Sm_ RV_ (f_X13_frame nn 160 a1 (H_M h)) (qf_X13_frame nn y_a1 h) := by
  unfold f_X13_frame qf_X13_frame
  refine sm_gi hM_h rfl ?_; intro v71 e_v71
  exact sw_X13_frame_7 nn nn e_a1 e_v71 rfl hM_h
set_option maxRecDepth 4000 in
theorem sj_X13_stands_154 (nn : Nat) {h : ms_M} (hM_h : Rg_M h) : Sm_ RV_ (j_X13_stands_154 nn (H_M h)) (qj_X13_stands_154 nn h) := by
  unfold j_X13_stands_154 qj_X13_stands_154
  exact sm_rV hM_h
set_option maxRecDepth 4000 in
theorem sw_X13_stands_8 (nn : Nat) : ∀ (k : Nat) {l1 : Int32} {y_l1 : Int} (e_l1 : l1.toInt = y_l1) {l2 : Int32} {y_l2 : Int} (e_l2 : l2.toInt = y_l2) {l3 : Int32} {y_l3 : Int} (e_l3 : l3.toInt = y_l3) {l4 : Int32} {y_l4 : Int} (e_l4 : l4.toInt = y_l4) {l5 : Int32} {y_l5 : Int} (e_l5 : l5.toInt = y_l5) {h : ms_M} (hM_h : Rg_M h), Sm_ RV_ (w_X13_stands_8 nn k 160 l1 l2 l3 l4 l5 (H_M h)) (qw_X13_stands_8 nn k y_l1 y_l2 y_l3 y_l4 y_l5 h) := by
  intro k
  induction k with
  | zero => intros; exact sm_no
  | succ k ih =>
    intro l1 y_l1 e_l1 l2 y_l2 e_l2 l3 y_l3 e_l3 l4 y_l4 e_l4 l5 y_l5 e_l5 h hM_h
    unfold w_X13_stands_8 qw_X13_stands_8
    refine sm_gi hM_h rfl ?_; intro v1 e_v1
    refine sm_le e_v1 e_l5 ?_ ?_
    · refine sm_pv hM_h rfl e_l4 ?_; intro h2 hM_h2
      refine sm_eq e_l3 rfl ?_ ?_
      · exact sj_X13_stands_154 nn hM_h2
      · refine sm_is hM_h2 rfl ?_
        refine sm_cV (sf_X13_frame nn e_l2 hM_h2) ?_; intro u4 hM_u4
        exact sj_X13_stands_154 nn hM_u4
    · refine sm_gr hM_h (d := 218) rfl ?_
      refine sm_ai hM_h rfl e_l5 ?_; intro v7 y_v7 e_v7
      refine sm_ne e_v7 e_l1 ?_ ?_
      · refine sm_gr hM_h (d := 217) rfl ?_
        refine sm_gr hM_h (d := 217) rfl ?_
        refine sm_ai hM_h rfl e_l5 ?_; intro v10 y_v10 e_v10
        refine sm_si hM_h rfl e_l4 e_v10 ?_; intro h11 hM_h11
        refine sm_gr hM_h11 (d := 218) rfl ?_
        refine sm_gr hM_h11 (d := 218) rfl ?_
        refine sm_ai hM_h11 rfl e_l5 ?_; intro v14 y_v14 e_v14
        refine sm_si hM_h11 rfl e_l4 e_v14 ?_; intro h15 hM_h15
        refine sm_oq_add e_l4 rfl ?_; intro v16 y_v16 e_v16
        refine sm_oq_add e_l5 rfl ?_; intro v17 y_v17 e_v17
        exact ih e_l1 e_l2 e_l3 e_v16 e_v17 hM_h15
      · refine sm_gr hM_h (d := 217) rfl ?_
        refine sm_ai hM_h rfl e_l5 ?_; intro v19 y_v19 e_v19
        refine sm_oq_sub e_l2 e_v19 ?_; intro v20 y_v20 e_v20
        refine sm_gr hM_h (d := 217) rfl ?_
        refine sm_ai hM_h rfl e_l5 ?_; intro v22 y_v22 e_v22
        refine sm_oq_add e_v22 rfl ?_; intro v23 y_v23 e_v23
        refine sm_le rfl e_v23 ?_ ?_
        · refine sm_oq_add e_l5 rfl ?_; intro v24 y_v24 e_v24
          exact ih e_l1 e_l2 rfl e_l4 e_v24 hM_h
        · refine sm_gr hM_h (d := 206) rfl ?_
          refine sm_gr hM_h (d := 217) rfl ?_
          refine sm_ai hM_h rfl e_l5 ?_; intro v27 y_v27 e_v27
          refine sm_oq_add e_v27 rfl ?_; intro v28 y_v28 e_v28
          refine sm_oq_shr e_v20 rfl ?_; intro v29 y_v29 e_v29
          refine sm_oq_and e_v29 rfl ?_; intro v30 y_v30 e_v30
          refine sm_si hM_h rfl e_v28 e_v30 ?_; intro h31 hM_h31
          refine sm_gr hM_h31 (d := 206) rfl ?_
          refine sm_gr hM_h31 (d := 217) rfl ?_
          refine sm_ai hM_h31 rfl e_l5 ?_; intro v34 y_v34 e_v34
          refine sm_oq_add e_v34 rfl ?_; intro v35 y_v35 e_v35
          refine sm_oq_and e_v20 rfl ?_; intro v36 y_v36 e_v36
          refine sm_si hM_h31 rfl e_v35 e_v36 ?_; intro h37 hM_h37
          refine sm_oq_add e_l5 rfl ?_; intro v38 y_v38 e_v38
          exact ih e_l1 e_l2 rfl e_l4 e_v38 hM_h37
set_option maxRecDepth 4000 in
theorem sf_X13_stands (nn : Nat) {a1 : Int32} {y_a1 : Int} (e_a1 : a1.toInt = y_a1) {a2 : Int32} {y_a2 : Int} (e_a2 : a2.toInt = y_a2) {h : ms_M} (hM_h : Rg_M h) : Sm_ RV_ (f_X13_stands nn 160 a1 a2 (H_M h)) (qf_X13_stands nn y_a1 y_a2 h) := by
  unfold f_X13_stands qf_X13_stands
  exact sw_X13_stands_8 nn nn e_a1 e_a2 rfl rfl rfl hM_h
set_option maxRecDepth 4000 in
theorem sf_X13_truth (nn : Nat) {a1 : Int32} {y_a1 : Int} (e_a1 : a1.toInt = y_a1) {a2 : Int32} {y_a2 : Int} (e_a2 : a2.toInt = y_a2) {h : ms_M} (hM_h : Rg_M h) : Sm_ RV_ (f_X13_truth nn 160 a1 a2 (H_M h)) (qf_X13_truth nn y_a1 y_a2 h) := by
  unfold f_X13_truth qf_X13_truth
  refine sm_is hM_h rfl ?_
  refine sm_cI (sf_X13_label nn hM_h) ?_; intro u2 y_u2 M_u2 e_u2 hM_u2
  refine sm_is hM_u2 rfl ?_
  refine sm_cI (sf_X13_label nn hM_u2) ?_; intro u4 y_u4 M_u4 e_u4 hM_u4
  refine sm_gi hM_u4 rfl ?_; intro v5 e_v5
  refine sm_oq_sub e_v5 e_a2 ?_; intro v6 y_v6 e_v6
  refine sm_pv hM_u4 rfl e_v6 ?_; intro h7 hM_h7
  refine sm_is hM_h7 rfl ?_
  refine sm_cV (sf_X13_jump nn e_a1 e_u2 hM_h7) ?_; intro u9 hM_u9
  refine sm_is hM_u9 rfl ?_
  refine sm_cV (sf_X13_put nn rfl hM_u9) ?_; intro u11 hM_u11
  refine sm_is hM_u11 rfl ?_
  refine sm_cV (sf_X13_push nn rfl hM_u11) ?_; intro u13 hM_u13
  refine sm_gi hM_u13 rfl ?_; intro v14 e_v14
  refine sm_oq_sub e_v14 rfl ?_; intro v15 y_v15 e_v15
  refine sm_pv hM_u13 rfl e_v15 ?_; intro h16 hM_h16
  refine sm_is hM_h16 rfl ?_
  refine sm_cV (sf_X13_jump nn rfl e_u4 hM_h16) ?_; intro u18 hM_u18
  refine sm_gi hM_u18 rfl ?_; intro v19 e_v19
  refine sm_is hM_u18 rfl ?_
  refine sm_cV (sf_X13_stands nn e_u2 e_v19 hM_u18) ?_; intro u21 hM_u21
  refine sm_is hM_u21 rfl ?_
  refine sm_cV (sf_X13_put nn rfl hM_u21) ?_; intro u23 hM_u23
  refine sm_is hM_u23 rfl ?_
  refine sm_cV (sf_X13_push nn rfl hM_u23) ?_; intro u25 hM_u25
  refine sm_gi hM_u25 rfl ?_; intro v26 e_v26
  refine sm_is hM_u25 rfl ?_
  refine sm_cV (sf_X13_stands nn e_u4 e_v26 hM_u25) ?_; intro u28 hM_u28
  exact sm_rV hM_u28
set_option maxRecDepth 4000 in
theorem sf_X13_turn (nn : Nat) {a1 : Int32} {y_a1 : Int} (e_a1 : a1.toInt = y_a1) {a2 : Int32} {y_a2 : Int} (e_a2 : a2.toInt = y_a2) {h : ms_M} (hM_h : Rg_M h) : Sm_ RV_ (f_X13_turn nn 160 a1 a2 (H_M h)) (qf_X13_turn nn y_a1 y_a2 h) := by
  unfold f_X13_turn qf_X13_turn
  refine sm_gi hM_h rfl ?_; intro v1 e_v1
  refine sm_oq_sub e_v1 e_a1 ?_; intro v2 y_v2 e_v2
  refine sm_pv hM_h rfl e_v2 ?_; intro h3 hM_h3
  refine sm_eq e_a2 rfl ?_ ?_
  · exact sm_rV hM_h3
  · refine sm_is hM_h3 rfl ?_
    refine sm_cV (sf_X13_push nn e_a2 hM_h3) ?_; intro u5 hM_u5
    exact sm_rV hM_u5
set_option maxRecDepth 4000 in
theorem sf_X13_operation (nn : Nat) {a0 : Int32} {y_a0 : Int} (e_a0 : a0.toInt = y_a0) {h : ms_M} (hM_h : Rg_M h) : Sm_ (RP_ h) (f_X13_operation nn a0 (H_M h)) (qf_X13_operation nn y_a0 h) := by
  unfold f_X13_operation qf_X13_operation
  refine sm_ne e_a0 rfl ?_ ?_
  · refine sm_ne e_a0 rfl ?_ ?_
    · refine sm_ne e_a0 rfl ?_ ?_
      · refine sm_ne e_a0 rfl ?_ ?_
        · refine sm_ne e_a0 rfl ?_ ?_
          · refine sm_ne e_a0 rfl ?_ ?_
            · refine sm_ne e_a0 rfl ?_ ?_
              · refine sm_ne e_a0 rfl ?_ ?_
                · refine sm_cP (sf_X13_sign nn rfl rfl rfl hM_h) ?_; intro u1 y_u1 e_u1
                  refine sm_ne e_a0 e_u1 ?_ ?_
                  · refine sm_cP (sf_X13_sign nn rfl rfl rfl hM_h) ?_; intro u2 y_u2 e_u2
                    refine sm_ne e_a0 e_u2 ?_ ?_
                    · exact sm_rP rfl
                    · exact sm_rP rfl
                  · exact sm_rP rfl
                · exact sm_rP rfl
              · exact sm_rP rfl
            · exact sm_rP rfl
          · exact sm_rP rfl
        · exact sm_rP rfl
      · exact sm_rP rfl
    · exact sm_rP rfl
  · exact sm_rP rfl
def hg_X13_work (frc : tg_X13_work) (rc : tq_X13_work) : Prop := (∀ {a1 : Int32} {y_a1 : Int} (e_a1 : a1.toInt = y_a1) {h : ms_M} (hM_h : Rg_M h), Sm_ RV_ (frc.1 160 a1 (H_M h)) (rc.1 y_a1 h)) ∧ (∀ {a1 : Int32} {y_a1 : Int} (e_a1 : a1.toInt = y_a1) {h : ms_M} (hM_h : Rg_M h), Sm_ RV_ (frc.2.1 160 a1 (H_M h)) (rc.2.1 y_a1 h)) ∧ (∀ {a1 : Int32} {y_a1 : Int} (e_a1 : a1.toInt = y_a1) {a2 : Int32} {y_a2 : Int} (e_a2 : a2.toInt = y_a2) {a3 : Int32} {y_a3 : Int} (e_a3 : a3.toInt = y_a3) {h : ms_M} (hM_h : Rg_M h), Sm_ RV_ (frc.2.2.1 160 a1 a2 a3 (H_M h)) (rc.2.2.1 y_a1 y_a2 y_a3 h)) ∧ (∀ {a1 : Int32} {y_a1 : Int} (e_a1 : a1.toInt = y_a1) {h : ms_M} (hM_h : Rg_M h), Sm_ RV_ (frc.2.2.2 160 a1 (H_M h)) (rc.2.2.2 y_a1 h))
set_option maxRecDepth 4000 in
theorem sw_X13_work_50 (nn : Nat) {frc : tg_X13_work} {rc : tq_X13_work} (hr : hg_X13_work frc rc) : ∀ (k : Nat) {l2 : Int32} {y_l2 : Int} (e_l2 : l2.toInt = y_l2) {h : ms_M} (hM_h : Rg_M h), Sm_ RV_ (w_X13_work_50 nn frc k 160 l2 (H_M h)) (qw_X13_work_50 nn rc k y_l2 h) := by
  intro k
  induction k with
  | zero => intros; exact sm_no
  | succ k ih =>
    intro l2 y_l2 e_l2 h hM_h
    unfold w_X13_work_50 qw_X13_work_50
    refine sm_gi hM_h rfl ?_; intro v1 e_v1
    refine sm_le e_v1 e_l2 ?_ ?_
    · exact sm_rV hM_h
    · refine sm_gi hM_h rfl ?_; intro v2 e_v2
      refine sm_oq_sub e_v2 rfl ?_; intro v3 y_v3 e_v3
      refine sm_pv hM_h rfl e_v3 ?_; intro h4 hM_h4
      refine sm_gr hM_h4 (d := 199) rfl ?_
      refine sm_gi hM_h4 rfl ?_; intro v6 e_v6
      refine sm_ai hM_h4 rfl e_v6 ?_; intro v7 y_v7 e_v7
      refine sm_is hM_h4 rfl ?_
      refine sm_cV (hr.2.1 e_v7 hM_h4) ?_; intro u9 hM_u9
      exact ih e_l2 hM_u9
set_option maxRecDepth 4000 in
theorem sw_X13_work_7 (nn : Nat) {frc : tg_X13_work} {rc : tq_X13_work} (hr : hg_X13_work frc rc) : ∀ (k : Nat) {l2 : Int32} {y_l2 : Int} (e_l2 : l2.toInt = y_l2) {l3 : Int32} {y_l3 : Int} (e_l3 : l3.toInt = y_l3) {h : ms_M} (hM_h : Rg_M h), Sm_ RV_ (w_X13_work_7 nn frc k 160 l2 l3 (H_M h)) (qw_X13_work_7 nn rc k y_l2 y_l3 h) := by
  intro k
  induction k with
  | zero => intros; exact sm_no
  | succ k ih =>
    intro l2 y_l2 e_l2 l3 y_l3 e_l3 h hM_h
    unfold w_X13_work_7 qw_X13_work_7
    refine sm_is hM_h rfl ?_
    refine sm_cP (sf_X13_isLedInWords nn e_l3 hM_h) ?_; intro u12 y_u12 e_u12
    refine sm_eq e_u12 rfl ?_ ?_
    · refine sm_is hM_h rfl ?_
      refine sm_cV (hr.2.1 e_l3 hM_h) ?_; intro u14 hM_u14
      exact sw_X13_work_50 nn hr nn e_l2 hM_u14
    · refine sm_gr hM_h (d := 199) rfl ?_
      refine sm_gi hM_h rfl ?_; intro v16 e_v16
      refine sm_si hM_h rfl e_v16 e_l3 ?_; intro h17 hM_h17
      refine sm_gi hM_h17 rfl ?_; intro v18 e_v18
      refine sm_oq_add e_v18 rfl ?_; intro v19 y_v19 e_v19
      refine sm_pv hM_h17 rfl e_v19 ?_; intro h20 hM_h20
      refine sm_gr hM_h20 (d := 170) rfl ?_
      refine sm_ai hM_h20 rfl e_l3 ?_; intro v22 y_v22 e_v22
      exact ih e_l2 e_v22 hM_h20
set_option maxRecDepth 4000 in
theorem so_X13_work (nn : Nat) {frc : tg_X13_work} {rc : tq_X13_work} (hr : hg_X13_work frc rc) {a1 : Int32} {y_a1 : Int} (e_a1 : a1.toInt = y_a1) {h : ms_M} (hM_h : Rg_M h) : Sm_ RV_ (o_X13_work nn frc 160 a1 (H_M h)) (qo_X13_work nn rc y_a1 h) := by
  unfold o_X13_work qo_X13_work
  refine sm_gi hM_h rfl ?_; intro v24 e_v24
  exact sw_X13_work_7 nn hr nn e_v24 e_a1 hM_h
set_option maxRecDepth 4000 in
theorem sj_X13_workOne_775 (nn : Nat) {frc : tg_X13_work} {rc : tq_X13_work} (hr : hg_X13_work frc rc) {h : ms_M} (hM_h : Rg_M h) : Sm_ RV_ (j_X13_workOne_775 nn frc (H_M h)) (qj_X13_workOne_775 nn rc h) := by
  unfold j_X13_workOne_775 qj_X13_workOne_775
  exact sm_rV hM_h
set_option maxRecDepth 4000 in
theorem sj_X13_workOne_630 (nn : Nat) {frc : tg_X13_work} {rc : tq_X13_work} (hr : hg_X13_work frc rc) {l1 : Int32} {y_l1 : Int} (e_l1 : l1.toInt = y_l1) {l2 : Int32} {y_l2 : Int} (e_l2 : l2.toInt = y_l2) {s0 : Int32} {y_s0 : Int} (e_s0 : s0.toInt = y_s0) {h : ms_M} (hM_h : Rg_M h) : Sm_ RV_ (j_X13_workOne_630 nn frc 160 l1 l2 s0 160 (H_M h)) (qj_X13_workOne_630 nn rc y_l1 y_l2 y_s0 h) := by
  unfold j_X13_workOne_630 qj_X13_workOne_630
  refine sm_is hM_h rfl ?_
  refine sm_cV (sf_X13_put nn e_s0 hM_h) ?_; intro u2 hM_u2
  refine sm_gr hM_u2 (d := 176) rfl ?_
  refine sm_ai hM_u2 rfl e_l1 ?_; intro v4 y_v4 e_v4
  refine sm_is hM_u2 rfl ?_
  refine sm_cI (sf_X13_classConstant nn e_v4 hM_u2) ?_; intro u6 y_u6 M_u6 e_u6 hM_u6
  refine sm_is hM_u6 rfl ?_
  refine sm_cV (sf_X13_put nn e_u6 hM_u6) ?_; intro u8 hM_u8
  refine sm_is hM_u8 rfl ?_
  refine sm_cV (sf_X13_turn nn rfl e_l2 hM_u8) ?_; intro u10 hM_u10
  exact sm_rV hM_u10
set_option maxRecDepth 4000 in
theorem sj_X13_workOne_609 (nn : Nat) {frc : tg_X13_work} {rc : tq_X13_work} (hr : hg_X13_work frc rc) {l1 : Int32} {y_l1 : Int} (e_l1 : l1.toInt = y_l1) {l2 : Int32} {y_l2 : Int} (e_l2 : l2.toInt = y_l2) {h : ms_M} (hM_h : Rg_M h) : Sm_ RV_ (j_X13_workOne_609 nn frc 160 l1 l2 (H_M h)) (qj_X13_workOne_609 nn rc y_l1 y_l2 h) := by
  unfold j_X13_workOne_609 qj_X13_workOne_609
  refine sm_gr hM_h (d := 167) rfl ?_
  refine sm_ai hM_h rfl e_l1 ?_; intro v12 y_v12 e_v12
  refine sm_ne e_v12 rfl ?_ ?_
  · exact sj_X13_workOne_630 nn hr e_l1 e_l2 rfl hM_h
  · exact sj_X13_workOne_630 nn hr e_l1 e_l2 rfl hM_h
set_option maxRecDepth 4000 in
theorem sj_X13_workOne_588 (nn : Nat) {frc : tg_X13_work} {rc : tq_X13_work} (hr : hg_X13_work frc rc) {l1 : Int32} {y_l1 : Int} (e_l1 : l1.toInt = y_l1) {l2 : Int32} {y_l2 : Int} (e_l2 : l2.toInt = y_l2) {h : ms_M} (hM_h : Rg_M h) : Sm_ RV_ (j_X13_workOne_588 nn frc 160 l1 l2 (H_M h)) (qj_X13_workOne_588 nn rc y_l1 y_l2 h) := by
  unfold j_X13_workOne_588 qj_X13_workOne_588
  refine sm_gr hM_h (d := 167) rfl ?_
  refine sm_ai hM_h rfl e_l1 ?_; intro v15 y_v15 e_v15
  refine sm_ne e_v15 rfl ?_ ?_
  · exact sj_X13_workOne_609 nn hr e_l1 e_l2 hM_h
  · refine sm_gr hM_h (d := 170) rfl ?_
    refine sm_ai hM_h rfl e_l1 ?_; intro v17 y_v17 e_v17
    refine sm_is hM_h rfl ?_
    refine sm_cV (hr.1 e_v17 hM_h) ?_; intro u19 hM_u19
    exact sj_X13_workOne_609 nn hr e_l1 e_l2 hM_u19
set_option maxRecDepth 4000 in
theorem sj_X13_workOne_508 (nn : Nat) {frc : tg_X13_work} {rc : tq_X13_work} (hr : hg_X13_work frc rc) {l2 : Int32} {y_l2 : Int} (e_l2 : l2.toInt = y_l2) {s0 : Int32} {y_s0 : Int} (e_s0 : s0.toInt = y_s0) {h : ms_M} (hM_h : Rg_M h) : Sm_ RV_ (j_X13_workOne_508 nn frc 160 l2 s0 160 (H_M h)) (qj_X13_workOne_508 nn rc y_l2 y_s0 h) := by
  unfold j_X13_workOne_508 qj_X13_workOne_508
  refine sm_is hM_h rfl ?_
  refine sm_cV (sf_X13_put nn e_s0 hM_h) ?_; intro u22 hM_u22
  refine sm_is hM_u22 rfl ?_
  refine sm_cV (sf_X13_turn nn rfl e_l2 hM_u22) ?_; intro u24 hM_u24
  exact sm_rV hM_u24
set_option maxRecDepth 4000 in
theorem sj_X13_workOne_479 (nn : Nat) {frc : tg_X13_work} {rc : tq_X13_work} (hr : hg_X13_work frc rc) {l2 : Int32} {y_l2 : Int} (e_l2 : l2.toInt = y_l2) {h : ms_M} (hM_h : Rg_M h) : Sm_ RV_ (j_X13_workOne_479 nn frc 160 l2 (H_M h)) (qj_X13_workOne_479 nn rc y_l2 h) := by
  unfold j_X13_workOne_479 qj_X13_workOne_479
  refine sm_is hM_h rfl ?_
  refine sm_cV (sf_X13_turn nn rfl e_l2 hM_h) ?_; intro u26 hM_u26
  exact sm_rV hM_u26
set_option maxRecDepth 4000 in
theorem sj_X13_workOne_316 (nn : Nat) {frc : tg_X13_work} {rc : tq_X13_work} (hr : hg_X13_work frc rc) {l1 : Int32} {y_l1 : Int} (e_l1 : l1.toInt = y_l1) {s0 : Int32} {y_s0 : Int} (e_s0 : s0.toInt = y_s0) {s1 : Int32} {y_s1 : Int} (e_s1 : s1.toInt = y_s1) {h : ms_M} (hM_h : Rg_M h) : Sm_ RV_ (j_X13_workOne_316 nn frc 160 l1 s0 s1 160 (H_M h)) (qj_X13_workOne_316 nn rc y_l1 y_s0 y_s1 h) := by
  unfold j_X13_workOne_316 qj_X13_workOne_316
  refine sm_gr hM_h (d := 176) rfl ?_
  refine sm_ai hM_h rfl e_l1 ?_; intro v28 y_v28 e_v28
  refine sm_eq e_v28 rfl ?_ ?_
  · refine sm_is hM_h rfl ?_
    refine sm_cV (hr.2.2.1 e_s1 e_s0 rfl hM_h) ?_; intro u30 hM_u30
    exact sm_rV hM_u30
  · refine sm_is hM_h rfl ?_
    refine sm_cV (hr.2.2.1 e_s1 e_s0 rfl hM_h) ?_; intro u32 hM_u32
    exact sm_rV hM_u32
set_option maxRecDepth 4000 in
theorem sj_X13_workOne_268 (nn : Nat) {frc : tg_X13_work} {rc : tq_X13_work} (hr : hg_X13_work frc rc) {l1 : Int32} {y_l1 : Int} (e_l1 : l1.toInt = y_l1) {l3 : Int32} {y_l3 : Int} (e_l3 : l3.toInt = y_l3) {h : ms_M} (hM_h : Rg_M h) : Sm_ RV_ (j_X13_workOne_268 nn frc 160 l1 l3 (H_M h)) (qj_X13_workOne_268 nn rc y_l1 y_l3 h) := by
  unfold j_X13_workOne_268 qj_X13_workOne_268
  refine sm_gi hM_h rfl ?_; intro v34 e_v34
  refine sm_is hM_h rfl ?_
  refine sm_cV (hr.2.2.1 e_l1 e_v34 e_l3 hM_h) ?_; intro u36 hM_u36
  exact sm_rV hM_u36
set_option maxRecDepth 4000 in
theorem sj_X13_workOne_259 (nn : Nat) {frc : tg_X13_work} {rc : tq_X13_work} (hr : hg_X13_work frc rc) {l1 : Int32} {y_l1 : Int} (e_l1 : l1.toInt = y_l1) {s0 : Int32} {y_s0 : Int} (e_s0 : s0.toInt = y_s0) {h : ms_M} (hM_h : Rg_M h) : Sm_ RV_ (j_X13_workOne_259 nn frc 160 l1 s0 (H_M h)) (qj_X13_workOne_259 nn rc y_l1 y_s0 h) := by
  unfold j_X13_workOne_259 qj_X13_workOne_259
  refine sm_ne e_s0 rfl ?_ ?_
  · exact sj_X13_workOne_268 nn hr e_l1 e_s0 hM_h
  · refine sm_is hM_h rfl ?_
    refine sm_cV (sf_X13_self nn hM_h) ?_; intro u38 hM_u38
    exact sj_X13_workOne_268 nn hr e_l1 e_s0 hM_u38
set_option maxRecDepth 4000 in
theorem sj_X13_workOne_184 (nn : Nat) {frc : tg_X13_work} {rc : tq_X13_work} (hr : hg_X13_work frc rc) {l1 : Int32} {y_l1 : Int} (e_l1 : l1.toInt = y_l1) {l2 : Int32} {y_l2 : Int} (e_l2 : l2.toInt = y_l2) {s0 : Int32} {y_s0 : Int} (e_s0 : s0.toInt = y_s0) {h : ms_M} (hM_h : Rg_M h) : Sm_ RV_ (j_X13_workOne_184 nn frc 160 l1 l2 s0 160 (H_M h)) (qj_X13_workOne_184 nn rc y_l1 y_l2 y_s0 h) := by
  unfold j_X13_workOne_184 qj_X13_workOne_184
  refine sm_is hM_h rfl ?_
  refine sm_cV (sf_X13_put nn e_s0 hM_h) ?_; intro u41 hM_u41
  refine sm_gr hM_u41 (d := 176) rfl ?_
  refine sm_ai hM_u41 rfl e_l1 ?_; intro v43 y_v43 e_v43
  refine sm_is hM_u41 rfl ?_
  refine sm_cV (sf_X13_put nn e_v43 hM_u41) ?_; intro u45 hM_u45
  refine sm_is hM_u45 rfl ?_
  refine sm_cV (sf_X13_push nn e_l2 hM_u45) ?_; intro u47 hM_u47
  exact sm_rV hM_u47
set_option maxRecDepth 4000 in
theorem sj_X13_workOne_147 (nn : Nat) {frc : tg_X13_work} {rc : tq_X13_work} (hr : hg_X13_work frc rc) {l2 : Int32} {y_l2 : Int} (e_l2 : l2.toInt = y_l2) {s0 : Int32} {y_s0 : Int} (e_s0 : s0.toInt = y_s0) {h : ms_M} (hM_h : Rg_M h) : Sm_ RV_ (j_X13_workOne_147 nn frc 160 l2 s0 160 (H_M h)) (qj_X13_workOne_147 nn rc y_l2 y_s0 h) := by
  unfold j_X13_workOne_147 qj_X13_workOne_147
  refine sm_is hM_h rfl ?_
  refine sm_cV (sf_X13_put nn e_s0 hM_h) ?_; intro u49 hM_u49
  refine sm_is hM_u49 rfl ?_
  refine sm_cV (sf_X13_push nn e_l2 hM_u49) ?_; intro u51 hM_u51
  exact sm_rV hM_u51
set_option maxRecDepth 4000 in
theorem sj_X13_workOne_115 (nn : Nat) {frc : tg_X13_work} {rc : tq_X13_work} (hr : hg_X13_work frc rc) {l1 : Int32} {y_l1 : Int} (e_l1 : l1.toInt = y_l1) {l2 : Int32} {y_l2 : Int} (e_l2 : l2.toInt = y_l2) {h : ms_M} (hM_h : Rg_M h) : Sm_ RV_ (j_X13_workOne_115 nn frc 160 l1 l2 (H_M h)) (qj_X13_workOne_115 nn rc y_l1 y_l2 h) := by
  unfold j_X13_workOne_115 qj_X13_workOne_115
  refine sm_gr hM_h (d := 167) rfl ?_
  refine sm_ai hM_h rfl e_l1 ?_; intro v53 y_v53 e_v53
  refine sm_ne e_v53 rfl ?_ ?_
  · refine sm_gr hM_h (d := 167) rfl ?_
    refine sm_ai hM_h rfl e_l1 ?_; intro v55 y_v55 e_v55
    refine sm_ne e_v55 rfl ?_ ?_
    · exact sj_X13_workOne_147 nn hr e_l2 rfl hM_h
    · exact sj_X13_workOne_147 nn hr e_l2 rfl hM_h
  · exact sj_X13_workOne_147 nn hr e_l2 rfl hM_h
set_option maxRecDepth 4000 in
theorem so_X13_workOne (nn : Nat) {frc : tg_X13_work} {rc : tq_X13_work} (hr : hg_X13_work frc rc) {a1 : Int32} {y_a1 : Int} (e_a1 : a1.toInt = y_a1) {h : ms_M} (hM_h : Rg_M h) : Sm_ RV_ (o_X13_workOne nn frc 160 a1 (H_M h)) (qo_X13_workOne nn rc y_a1 h) := by
  unfold o_X13_workOne qo_X13_workOne
  refine sm_gr hM_h (d := 174) rfl ?_
  refine sm_ai hM_h rfl e_a1 ?_; intro v59 y_v59 e_v59
  refine sm_gr hM_h (d := 167) rfl ?_
  refine sm_ai hM_h rfl e_a1 ?_; intro v61 y_v61 e_v61
  refine sm_eq e_v61 rfl ?_ ?_
  · refine sm_gr hM_h (d := 168) rfl ?_
    refine sm_ai hM_h rfl e_a1 ?_; intro v100 y_v100 e_v100
    refine sm_is hM_h rfl ?_
    refine sm_cV (sf_X13_number nn e_v100 hM_h) ?_; intro u102 hM_u102
    exact sm_rV hM_u102
  · refine sm_eq e_v61 rfl ?_ ?_
    · exact sj_X13_workOne_115 nn hr e_a1 e_v59 hM_h
    · refine sm_eq e_v61 rfl ?_ ?_
      · exact sj_X13_workOne_115 nn hr e_a1 e_v59 hM_h
      · refine sm_eq e_v61 rfl ?_ ?_
        · exact sj_X13_workOne_115 nn hr e_a1 e_v59 hM_h
        · refine sm_eq e_v61 rfl ?_ ?_
          · refine sm_is hM_h rfl ?_
            refine sm_cV (sf_X13_self nn hM_h) ?_; intro u104 hM_u104
            exact sm_rV hM_u104
          · refine sm_eq e_v61 rfl ?_ ?_
            · refine sm_gr hM_h (d := 175) rfl ?_
              refine sm_ai hM_h rfl e_a1 ?_; intro v106 y_v106 e_v106
              refine sm_ne e_v106 rfl ?_ ?_
              · refine sm_is hM_h rfl ?_
                refine sm_cV (sf_X13_self nn hM_h) ?_; intro u108 hM_u108
                refine sm_is hM_u108 rfl ?_
                refine sm_cV (sf_X13_put nn rfl hM_u108) ?_; intro u110 hM_u110
                refine sm_gi hM_u110 rfl ?_; intro v111 e_v111
                refine sm_gr hM_u110 (d := 175) rfl ?_
                refine sm_ai hM_u110 rfl e_a1 ?_; intro v113 y_v113 e_v113
                refine sm_is hM_u110 rfl ?_
                refine sm_cI (sf_X13_memberConstant nn e_v111 e_v113 hM_u110) ?_; intro u115 y_u115 M_u115 e_u115 hM_u115
                refine sm_is hM_u115 rfl ?_
                refine sm_cV (sf_X13_put nn e_u115 hM_u115) ?_; intro u117 hM_u117
                refine sm_is hM_u117 rfl ?_
                refine sm_cV (sf_X13_turn nn rfl e_v59 hM_u117) ?_; intro u119 hM_u119
                exact sm_rV hM_u119
              · refine sm_lt rfl e_v59 ?_ ?_
                · exact sj_X13_workOne_184 nn hr e_a1 e_v59 rfl hM_h
                · exact sj_X13_workOne_184 nn hr e_a1 e_v59 rfl hM_h
            · refine sm_eq e_v61 rfl ?_ ?_
              · refine sm_gr hM_h (d := 182) rfl ?_
                refine sm_gr hM_h (d := 175) rfl ?_
                refine sm_ai hM_h rfl e_a1 ?_; intro v124 y_v124 e_v124
                refine sm_ai hM_h rfl e_v124 ?_; intro v125 y_v125 e_v125
                refine sm_ne e_v125 rfl ?_ ?_
                · exact sj_X13_workOne_259 nn hr e_a1 rfl hM_h
                · exact sj_X13_workOne_259 nn hr e_a1 rfl hM_h
              · refine sm_eq e_v61 rfl ?_ ?_
                · refine sm_is hM_h rfl ?_
                  refine sm_cV (sf_X13_put nn rfl hM_h) ?_; intro u128 hM_u128
                  refine sm_is hM_u128 rfl ?_
                  refine sm_cI (sf_X13_classConstant nn e_v59 hM_u128) ?_; intro u130 y_u130 M_u130 e_u130 hM_u130
                  refine sm_is hM_u130 rfl ?_
                  refine sm_cV (sf_X13_put nn e_u130 hM_u130) ?_; intro u132 hM_u132
                  refine sm_is hM_u132 rfl ?_
                  refine sm_cV (sf_X13_push nn e_v59 hM_u132) ?_; intro u134 hM_u134
                  exact sm_rV hM_u134
                · refine sm_eq e_v61 rfl ?_ ?_
                  · refine sm_gr hM_h (d := 170) rfl ?_
                    refine sm_ai hM_h rfl e_a1 ?_; intro v136 y_v136 e_v136
                    refine sm_is hM_h rfl ?_
                    refine sm_cV (hr.1 e_v136 hM_h) ?_; intro u138 hM_u138
                    refine sm_is hM_u138 rfl ?_
                    refine sm_cV (sf_X13_put nn rfl hM_u138) ?_; intro u140 hM_u140
                    refine sm_is hM_u140 rfl ?_
                    refine sm_cV (sf_X13_put nn rfl hM_u140) ?_; intro u142 hM_u142
                    refine sm_is hM_u142 rfl ?_
                    refine sm_cV (sf_X13_turn nn rfl e_v59 hM_u142) ?_; intro u144 hM_u144
                    exact sm_rV hM_u144
                  · refine sm_eq e_v61 rfl ?_ ?_
                    · refine sm_gr hM_h (d := 170) rfl ?_
                      refine sm_ai hM_h rfl e_a1 ?_; intro v146 y_v146 e_v146
                      refine sm_is hM_h rfl ?_
                      refine sm_cV (hr.1 e_v146 hM_h) ?_; intro u148 hM_u148
                      refine sm_is hM_u148 rfl ?_
                      refine sm_cV (sf_X13_put nn rfl hM_u148) ?_; intro u150 hM_u150
                      refine sm_oq_sub e_v59 rfl ?_; intro v151 y_v151 e_v151
                      refine sm_is hM_u150 rfl ?_
                      refine sm_cI (sf_X13_classConstant nn e_v151 hM_u150) ?_; intro u153 y_u153 M_u153 e_u153 hM_u153
                      refine sm_is hM_u153 rfl ?_
                      refine sm_cV (sf_X13_put nn e_u153 hM_u153) ?_; intro u155 hM_u155
                      refine sm_is hM_u155 rfl ?_
                      refine sm_cV (sf_X13_turn nn rfl e_v59 hM_u155) ?_; intro u157 hM_u157
                      exact sm_rV hM_u157
                    · refine sm_eq e_v61 rfl ?_ ?_
                      · refine sm_gr hM_h (d := 175) rfl ?_
                        refine sm_ai hM_h rfl e_a1 ?_; intro v159 y_v159 e_v159
                        refine sm_ne e_v159 rfl ?_ ?_
                        · refine sm_is hM_h rfl ?_
                          refine sm_cV (sf_X13_put nn rfl hM_h) ?_; intro u161 hM_u161
                          refine sm_gr hM_u161 (d := 174) rfl ?_
                          refine sm_gr hM_u161 (d := 170) rfl ?_
                          refine sm_ai hM_u161 rfl e_a1 ?_; intro v164 y_v164 e_v164
                          refine sm_ai hM_u161 rfl e_v164 ?_; intro v165 y_v165 e_v165
                          refine sm_oq_sub e_v165 rfl ?_; intro v166 y_v166 e_v166
                          refine sm_div e_v166 ⟨rfl, by decide⟩ ?_; intro v167 y_v167 e_v167
                          refine sm_gr hM_u161 (d := 175) rfl ?_
                          refine sm_ai hM_u161 rfl e_a1 ?_; intro v169 y_v169 e_v169
                          refine sm_is hM_u161 rfl ?_
                          refine sm_cI (sf_X13_memberConstant nn e_v167 e_v169 hM_u161) ?_; intro u171 y_u171 M_u171 e_u171 hM_u171
                          refine sm_is hM_u171 rfl ?_
                          refine sm_cV (sf_X13_put nn e_u171 hM_u171) ?_; intro u173 hM_u173
                          exact sj_X13_workOne_479 nn hr e_v59 hM_u173
                        · refine sm_is hM_h rfl ?_
                          refine sm_cV (sf_X13_put nn rfl hM_h) ?_; intro u175 hM_u175
                          exact sj_X13_workOne_479 nn hr e_v59 hM_u175
                      · refine sm_eq e_v61 rfl ?_ ?_
                        · refine sm_gr hM_h (d := 176) rfl ?_
                          refine sm_ai hM_h rfl e_a1 ?_; intro v178 y_v178 e_v178
                          refine sm_ne e_v178 rfl ?_ ?_
                          · refine sm_gr hM_h (d := 176) rfl ?_
                            refine sm_ai hM_h rfl e_a1 ?_; intro v180 y_v180 e_v180
                            exact sj_X13_workOne_316 nn hr e_a1 e_v180 e_a1 hM_h
                          · refine sm_gr hM_h (d := 174) rfl ?_
                            refine sm_gr hM_h (d := 170) rfl ?_
                            refine sm_ai hM_h rfl e_a1 ?_; intro v183 y_v183 e_v183
                            refine sm_ai hM_h rfl e_v183 ?_; intro v184 y_v184 e_v184
                            refine sm_oq_sub e_v184 rfl ?_; intro v185 y_v185 e_v185
                            refine sm_div e_v185 ⟨rfl, by decide⟩ ?_; intro v186 y_v186 e_v186
                            exact sj_X13_workOne_316 nn hr e_a1 e_v186 e_a1 hM_h
                        · refine sm_eq e_v61 rfl ?_ ?_
                          · refine sm_gr hM_h (d := 171) rfl ?_
                            refine sm_ai hM_h rfl e_a1 ?_; intro v189 y_v189 e_v189
                            refine sm_is hM_h rfl ?_
                            refine sm_cV (hr.1 e_v189 hM_h) ?_; intro u191 hM_u191
                            refine sm_ne e_v59 rfl ?_ ?_
                            · exact sj_X13_workOne_508 nn hr e_v59 rfl hM_u191
                            · exact sj_X13_workOne_508 nn hr e_v59 rfl hM_u191
                          · refine sm_eq e_v61 rfl ?_ ?_
                            · refine sm_gr hM_h (d := 170) rfl ?_
                              refine sm_ai hM_h rfl e_a1 ?_; intro v194 y_v194 e_v194
                              refine sm_is hM_h rfl ?_
                              refine sm_cV (hr.1 e_v194 hM_h) ?_; intro u196 hM_u196
                              refine sm_is hM_u196 rfl ?_
                              refine sm_cV (sf_X13_put nn rfl hM_u196) ?_; intro u198 hM_u198
                              exact sm_rV hM_u198
                            · refine sm_eq e_v61 rfl ?_ ?_
                              · refine sm_gr hM_h (d := 170) rfl ?_
                                refine sm_ai hM_h rfl e_a1 ?_; intro v200 y_v200 e_v200
                                refine sm_is hM_h rfl ?_
                                refine sm_cV (hr.1 e_v200 hM_h) ?_; intro u202 hM_u202
                                refine sm_is hM_u202 rfl ?_
                                refine sm_cV (sf_X13_truth nn rfl rfl hM_u202) ?_; intro u204 hM_u204
                                exact sm_rV hM_u204
                              · refine sm_eq e_v61 rfl ?_ ?_
                                · refine sm_gr hM_h (d := 170) rfl ?_
                                  refine sm_ai hM_h rfl e_a1 ?_; intro v206 y_v206 e_v206
                                  refine sm_is hM_h rfl ?_
                                  refine sm_cV (hr.1 e_v206 hM_h) ?_; intro u208 hM_u208
                                  refine sm_is hM_u208 rfl ?_
                                  refine sm_cV (sf_X13_put nn rfl hM_u208) ?_; intro u210 hM_u210
                                  refine sm_is hM_u210 rfl ?_
                                  refine sm_cV (sf_X13_push nn rfl hM_u210) ?_; intro u212 hM_u212
                                  refine sm_is hM_u212 rfl ?_
                                  refine sm_cV (sf_X13_put nn rfl hM_u212) ?_; intro u214 hM_u214
                                  refine sm_is hM_u214 rfl ?_
                                  refine sm_cV (sf_X13_turn nn rfl rfl hM_u214) ?_; intro u216 hM_u216
                                  exact sm_rV hM_u216
                                · refine sm_eq e_v61 rfl ?_ ?_
                                  · exact sj_X13_workOne_588 nn hr e_a1 e_v59 hM_h
                                  · refine sm_eq e_v61 rfl ?_ ?_
                                    · refine sm_is hM_h rfl ?_
                                      refine sm_cV (hr.2.2.2 e_a1 hM_h) ?_; intro u218 hM_u218
                                      exact sm_rV hM_u218
                                    · refine sm_eq e_v61 rfl ?_ ?_
                                      · exact sj_X13_workOne_588 nn hr e_a1 e_v59 hM_h
                                      · refine sm_is hM_h rfl ?_
                                        refine sm_cI (sf_X13_label nn hM_h) ?_; intro u63 y_u63 M_u63 e_u63 hM_u63
                                        refine sm_is hM_u63 rfl ?_
                                        refine sm_cI (sf_X13_label nn hM_u63) ?_; intro u65 y_u65 M_u65 e_u65 hM_u65
                                        refine sm_gr hM_u65 (d := 170) rfl ?_
                                        refine sm_ai hM_u65 rfl e_a1 ?_; intro v67 y_v67 e_v67
                                        refine sm_is hM_u65 rfl ?_
                                        refine sm_cV (hr.1 e_v67 hM_u65) ?_; intro u69 hM_u69
                                        refine sm_gi hM_u69 rfl ?_; intro v70 e_v70
                                        refine sm_oq_sub e_v70 rfl ?_; intro v71 y_v71 e_v71
                                        refine sm_pv hM_u69 rfl e_v71 ?_; intro h72 hM_h72
                                        refine sm_is hM_h72 rfl ?_
                                        refine sm_cV (sf_X13_jump nn rfl e_u63 hM_h72) ?_; intro u74 hM_u74
                                        refine sm_gr hM_u74 (d := 171) rfl ?_
                                        refine sm_ai hM_u74 rfl e_a1 ?_; intro v76 y_v76 e_v76
                                        refine sm_is hM_u74 rfl ?_
                                        refine sm_cV (hr.1 e_v76 hM_u74) ?_; intro u78 hM_u78
                                        refine sm_gi hM_u78 rfl ?_; intro v79 e_v79
                                        refine sm_oq_sub e_v79 rfl ?_; intro v80 y_v80 e_v80
                                        refine sm_pv hM_u78 rfl e_v80 ?_; intro h81 hM_h81
                                        refine sm_is hM_h81 rfl ?_
                                        refine sm_cV (sf_X13_jump nn rfl e_u65 hM_h81) ?_; intro u83 hM_u83
                                        refine sm_gi hM_u83 rfl ?_; intro v84 e_v84
                                        refine sm_is hM_u83 rfl ?_
                                        refine sm_cV (sf_X13_stands nn e_u63 e_v84 hM_u83) ?_; intro u86 hM_u86
                                        refine sm_gr hM_u86 (d := 172) rfl ?_
                                        refine sm_ai hM_u86 rfl e_a1 ?_; intro v88 y_v88 e_v88
                                        refine sm_is hM_u86 rfl ?_
                                        refine sm_cV (hr.1 e_v88 hM_u86) ?_; intro u90 hM_u90
                                        refine sm_gi hM_u90 rfl ?_; intro v91 e_v91
                                        refine sm_oq_sub e_v91 rfl ?_; intro v92 y_v92 e_v92
                                        refine sm_pv hM_u90 rfl e_v92 ?_; intro h93 hM_h93
                                        refine sm_is hM_h93 rfl ?_
                                        refine sm_cV (sf_X13_push nn e_v59 hM_h93) ?_; intro u95 hM_u95
                                        refine sm_gi hM_u95 rfl ?_; intro v96 e_v96
                                        refine sm_is hM_u95 rfl ?_
                                        refine sm_cV (sf_X13_stands nn e_u65 e_v96 hM_u95) ?_; intro u98 hM_u98
                                        exact sj_X13_workOne_775 nn hr hM_u98
set_option maxRecDepth 4000 in
theorem sj_X13_workCall_65 (nn : Nat) {frc : tg_X13_work} {rc : tq_X13_work} (hr : hg_X13_work frc rc) {l1 : Int32} {y_l1 : Int} (e_l1 : l1.toInt = y_l1) {l2 : Int32} {y_l2 : Int} (e_l2 : l2.toInt = y_l2) {l4 : Int32} {y_l4 : Int} (e_l4 : l4.toInt = y_l4) {s0 : Int32} {y_s0 : Int} (e_s0 : s0.toInt = y_s0) {h : ms_M} (hM_h : Rg_M h) : Sm_ RV_ (j_X13_workCall_65 nn frc 160 l1 l2 l4 s0 160 (H_M h)) (qj_X13_workCall_65 nn rc y_l1 y_l2 y_l4 y_s0 h) := by
  unfold j_X13_workCall_65 qj_X13_workCall_65
  refine sm_is hM_h rfl ?_
  refine sm_cV (sf_X13_put nn e_s0 hM_h) ?_; intro u2 hM_u2
  refine sm_gr hM_u2 (d := 175) rfl ?_
  refine sm_ai hM_u2 rfl e_l1 ?_; intro v4 y_v4 e_v4
  refine sm_is hM_u2 rfl ?_
  refine sm_cI (sf_X13_memberConstant nn e_l2 e_v4 hM_u2) ?_; intro u6 y_u6 M_u6 e_u6 hM_u6
  refine sm_is hM_u6 rfl ?_
  refine sm_cV (sf_X13_put nn e_u6 hM_u6) ?_; intro u8 hM_u8
  refine sm_gr hM_u8 (d := 174) rfl ?_
  refine sm_ai hM_u8 rfl e_l1 ?_; intro v10 y_v10 e_v10
  refine sm_is hM_u8 rfl ?_
  refine sm_cV (sf_X13_turn nn e_l4 e_v10 hM_u8) ?_; intro u12 hM_u12
  exact sm_rV hM_u12
set_option maxRecDepth 4000 in
theorem sw_X13_workCall_19 (nn : Nat) {frc : tg_X13_work} {rc : tq_X13_work} (hr : hg_X13_work frc rc) : ∀ (k : Nat) {l1 : Int32} {y_l1 : Int} (e_l1 : l1.toInt = y_l1) {l2 : Int32} {y_l2 : Int} (e_l2 : l2.toInt = y_l2) {l3 : Int32} {y_l3 : Int} (e_l3 : l3.toInt = y_l3) {l4 : Int32} {y_l4 : Int} (e_l4 : l4.toInt = y_l4) {l5 : Int32} {y_l5 : Int} (e_l5 : l5.toInt = y_l5) {h : ms_M} (hM_h : Rg_M h), Sm_ RV_ (w_X13_workCall_19 nn frc k 160 l1 l2 l3 l4 l5 (H_M h)) (qw_X13_workCall_19 nn rc k y_l1 y_l2 y_l3 y_l4 y_l5 h) := by
  intro k
  induction k with
  | zero => intros; exact sm_no
  | succ k ih =>
    intro l1 y_l1 e_l1 l2 y_l2 e_l2 l3 y_l3 e_l3 l4 y_l4 e_l4 l5 y_l5 e_l5 h hM_h
    unfold w_X13_workCall_19 qw_X13_workCall_19
    refine sm_eq e_l5 rfl ?_ ?_
    · refine sm_eq e_l3 rfl ?_ ?_
      · exact sj_X13_workCall_65 nn hr e_l1 e_l2 e_l4 rfl hM_h
      · exact sj_X13_workCall_65 nn hr e_l1 e_l2 e_l4 rfl hM_h
    · refine sm_gr hM_h (d := 170) rfl ?_
      refine sm_ai hM_h rfl e_l5 ?_; intro v15 y_v15 e_v15
      refine sm_is hM_h rfl ?_
      refine sm_cV (hr.1 e_v15 hM_h) ?_; intro u17 hM_u17
      refine sm_oq_add e_l4 rfl ?_; intro v18 y_v18 e_v18
      refine sm_gr hM_u17 (d := 173) rfl ?_
      refine sm_ai hM_u17 rfl e_l5 ?_; intro v20 y_v20 e_v20
      exact ih e_l1 e_l2 e_l3 e_v18 e_v20 hM_u17
set_option maxRecDepth 4000 in
theorem sj_X13_workCall_9 (nn : Nat) {frc : tg_X13_work} {rc : tq_X13_work} (hr : hg_X13_work frc rc) {l1 : Int32} {y_l1 : Int} (e_l1 : l1.toInt = y_l1) {l2 : Int32} {y_l2 : Int} (e_l2 : l2.toInt = y_l2) {l3 : Int32} {y_l3 : Int} (e_l3 : l3.toInt = y_l3) {s0 : Int32} {y_s0 : Int} (e_s0 : s0.toInt = y_s0) {h : ms_M} (hM_h : Rg_M h) : Sm_ RV_ (j_X13_workCall_9 nn frc 160 l1 l2 l3 s0 (H_M h)) (qj_X13_workCall_9 nn rc y_l1 y_l2 y_l3 y_s0 h) := by
  unfold j_X13_workCall_9 qj_X13_workCall_9
  refine sm_gr hM_h (d := 171) rfl ?_
  refine sm_ai hM_h rfl e_l1 ?_; intro v23 y_v23 e_v23
  exact sw_X13_workCall_19 nn hr nn e_l1 e_l2 e_l3 e_s0 e_v23 hM_h
set_option maxRecDepth 4000 in
theorem so_X13_workCall (nn : Nat) {frc : tg_X13_work} {rc : tq_X13_work} (hr : hg_X13_work frc rc) {a1 : Int32} {y_a1 : Int} (e_a1 : a1.toInt = y_a1) {a2 : Int32} {y_a2 : Int} (e_a2 : a2.toInt = y_a2) {a3 : Int32} {y_a3 : Int} (e_a3 : a3.toInt = y_a3) {h : ms_M} (hM_h : Rg_M h) : Sm_ RV_ (o_X13_workCall nn frc 160 a1 a2 a3 (H_M h)) (qo_X13_workCall nn rc y_a1 y_a2 y_a3 h) := by
  unfold o_X13_workCall qo_X13_workCall
  refine sm_eq e_a3 rfl ?_ ?_
  · exact sj_X13_workCall_9 nn hr e_a1 e_a2 e_a3 rfl hM_h
  · exact sj_X13_workCall_9 nn hr e_a1 e_a2 e_a3 rfl hM_h
set_option maxRecDepth 4000 in
theorem sj_X13_workBoth_315 (nn : Nat) {frc : tg_X13_work} {rc : tq_X13_work} (hr : hg_X13_work frc rc) {s0 : Int32} {y_s0 : Int} (e_s0 : s0.toInt = y_s0) {h : ms_M} (hM_h : Rg_M h) : Sm_ RV_ (j_X13_workBoth_315 nn frc 160 s0 (H_M h)) (qj_X13_workBoth_315 nn rc y_s0 h) := by
  unfold j_X13_workBoth_315 qj_X13_workBoth_315
  refine sm_is hM_h rfl ?_
  refine sm_cV (sf_X13_truth nn e_s0 rfl hM_h) ?_; intro u2 hM_u2
  exact sm_rV hM_u2
set_option maxRecDepth 4000 in
theorem sj_X13_workBoth_210 (nn : Nat) {frc : tg_X13_work} {rc : tq_X13_work} (hr : hg_X13_work frc rc) {l2 : Int32} {y_l2 : Int} (e_l2 : l2.toInt = y_l2) {s0 : Int32} {y_s0 : Int} (e_s0 : s0.toInt = y_s0) {h : ms_M} (hM_h : Rg_M h) : Sm_ RV_ (j_X13_workBoth_210 nn frc 160 l2 s0 (H_M h)) (qj_X13_workBoth_210 nn rc y_l2 y_s0 h) := by
  unfold j_X13_workBoth_210 qj_X13_workBoth_210
  refine sm_cP (sf_X13_sign nn rfl rfl rfl hM_h) ?_; intro u3 y_u3 e_u3
  refine sm_ne e_l2 e_u3 ?_ ?_
  · refine sm_cP (sf_X13_sign nn rfl rfl rfl hM_h) ?_; intro u4 y_u4 e_u4
    refine sm_ne e_l2 e_u4 ?_ ?_
    · refine sm_ne e_l2 rfl ?_ ?_
      · refine sm_cP (sf_X13_sign nn rfl rfl rfl hM_h) ?_; intro u5 y_u5 e_u5
        refine sm_ne e_l2 e_u5 ?_ ?_
        · refine sm_ne e_l2 rfl ?_ ?_
          · exact sj_X13_workBoth_315 nn hr rfl hM_h
          · exact sj_X13_workBoth_315 nn hr rfl hM_h
        · exact sj_X13_workBoth_315 nn hr rfl hM_h
      · exact sj_X13_workBoth_315 nn hr rfl hM_h
    · refine sm_eq e_s0 rfl ?_ ?_
      · exact sj_X13_workBoth_315 nn hr rfl hM_h
      · exact sj_X13_workBoth_315 nn hr rfl hM_h
  · refine sm_eq e_s0 rfl ?_ ?_
    · exact sj_X13_workBoth_315 nn hr rfl hM_h
    · exact sj_X13_workBoth_315 nn hr rfl hM_h
set_option maxRecDepth 4000 in
theorem sj_X13_workBoth_190 (nn : Nat) {frc : tg_X13_work} {rc : tq_X13_work} (hr : hg_X13_work frc rc) {l1 : Int32} {y_l1 : Int} (e_l1 : l1.toInt = y_l1) {l2 : Int32} {y_l2 : Int} (e_l2 : l2.toInt = y_l2) {h : ms_M} (hM_h : Rg_M h) : Sm_ RV_ (j_X13_workBoth_190 nn frc 160 l1 l2 (H_M h)) (qj_X13_workBoth_190 nn rc y_l1 y_l2 h) := by
  unfold j_X13_workBoth_190 qj_X13_workBoth_190
  refine sm_gr hM_h (d := 174) rfl ?_
  refine sm_gr hM_h (d := 170) rfl ?_
  refine sm_ai hM_h rfl e_l1 ?_; intro v15 y_v15 e_v15
  refine sm_ai hM_h rfl e_v15 ?_; intro v16 y_v16 e_v16
  refine sm_le e_v16 rfl ?_ ?_
  · exact sj_X13_workBoth_210 nn hr e_l2 rfl hM_h
  · exact sj_X13_workBoth_210 nn hr e_l2 rfl hM_h
set_option maxRecDepth 4000 in
theorem sj_X13_workBoth_136 (nn : Nat) {frc : tg_X13_work} {rc : tq_X13_work} (hr : hg_X13_work frc rc) {l5 : Int32} {y_l5 : Int} (e_l5 : l5.toInt = y_l5) {s0 : Int32} {y_s0 : Int} (e_s0 : s0.toInt = y_s0) {h : ms_M} (hM_h : Rg_M h) : Sm_ RV_ (j_X13_workBoth_136 nn frc 160 l5 s0 160 (H_M h)) (qj_X13_workBoth_136 nn rc y_l5 y_s0 h) := by
  unfold j_X13_workBoth_136 qj_X13_workBoth_136
  refine sm_is hM_h rfl ?_
  refine sm_cV (sf_X13_put nn e_s0 hM_h) ?_; intro u19 hM_u19
  refine sm_is hM_u19 rfl ?_
  refine sm_cV (sf_X13_push nn rfl hM_u19) ?_; intro u21 hM_u21
  refine sm_gi hM_u21 rfl ?_; intro v22 e_v22
  refine sm_is hM_u21 rfl ?_
  refine sm_cV (sf_X13_stands nn e_l5 e_v22 hM_u21) ?_; intro u24 hM_u24
  exact sm_rV hM_u24
set_option maxRecDepth 4000 in
theorem sj_X13_workBoth_82 (nn : Nat) {frc : tg_X13_work} {rc : tq_X13_work} (hr : hg_X13_work frc rc) {l1 : Int32} {y_l1 : Int} (e_l1 : l1.toInt = y_l1) {l3 : Int32} {y_l3 : Int} (e_l3 : l3.toInt = y_l3) {l4 : Int32} {y_l4 : Int} (e_l4 : l4.toInt = y_l4) {l5 : Int32} {y_l5 : Int} (e_l5 : l5.toInt = y_l5) {s0 : Int32} {y_s0 : Int} (e_s0 : s0.toInt = y_s0) {h : ms_M} (hM_h : Rg_M h) : Sm_ RV_ (j_X13_workBoth_82 nn frc 160 l1 l3 l4 l5 s0 160 (H_M h)) (qj_X13_workBoth_82 nn rc y_l1 y_l3 y_l4 y_l5 y_s0 h) := by
  unfold j_X13_workBoth_82 qj_X13_workBoth_82
  refine sm_is hM_h rfl ?_
  refine sm_cV (sf_X13_jump nn e_s0 e_l4 hM_h) ?_; intro u26 hM_u26
  refine sm_gr hM_u26 (d := 171) rfl ?_
  refine sm_ai hM_u26 rfl e_l1 ?_; intro v28 y_v28 e_v28
  refine sm_is hM_u26 rfl ?_
  refine sm_cV (hr.1 e_v28 hM_u26) ?_; intro u30 hM_u30
  refine sm_gi hM_u30 rfl ?_; intro v31 e_v31
  refine sm_oq_sub e_v31 rfl ?_; intro v32 y_v32 e_v32
  refine sm_pv hM_u30 rfl e_v32 ?_; intro h33 hM_h33
  refine sm_is hM_h33 rfl ?_
  refine sm_cV (sf_X13_jump nn rfl e_l5 hM_h33) ?_; intro u35 hM_u35
  refine sm_gi hM_u35 rfl ?_; intro v36 e_v36
  refine sm_is hM_u35 rfl ?_
  refine sm_cV (sf_X13_stands nn e_l4 e_v36 hM_u35) ?_; intro u38 hM_u38
  refine sm_eq e_l3 rfl ?_ ?_
  · exact sj_X13_workBoth_136 nn hr e_l5 rfl hM_u38
  · exact sj_X13_workBoth_136 nn hr e_l5 rfl hM_u38
set_option maxRecDepth 4000 in
theorem sj_X13_workBoth_46 (nn : Nat) {frc : tg_X13_work} {rc : tq_X13_work} (hr : hg_X13_work frc rc) {l1 : Int32} {y_l1 : Int} (e_l1 : l1.toInt = y_l1) {l3 : Int32} {y_l3 : Int} (e_l3 : l3.toInt = y_l3) {h : ms_M} (hM_h : Rg_M h) : Sm_ RV_ (j_X13_workBoth_46 nn frc 160 l1 l3 (H_M h)) (qj_X13_workBoth_46 nn rc y_l1 y_l3 h) := by
  unfold j_X13_workBoth_46 qj_X13_workBoth_46
  refine sm_is hM_h rfl ?_
  refine sm_cI (sf_X13_label nn hM_h) ?_; intro u41 y_u41 M_u41 e_u41 hM_u41
  refine sm_is hM_u41 rfl ?_
  refine sm_cI (sf_X13_label nn hM_u41) ?_; intro u43 y_u43 M_u43 e_u43 hM_u43
  refine sm_gi hM_u43 rfl ?_; intro v44 e_v44
  refine sm_oq_sub e_v44 rfl ?_; intro v45 y_v45 e_v45
  refine sm_pv hM_u43 rfl e_v45 ?_; intro h46 hM_h46
  refine sm_eq e_l3 rfl ?_ ?_
  · exact sj_X13_workBoth_82 nn hr e_l1 e_l3 e_u41 e_u43 rfl hM_h46
  · exact sj_X13_workBoth_82 nn hr e_l1 e_l3 e_u41 e_u43 rfl hM_h46
set_option maxRecDepth 4000 in
theorem sj_X13_workBoth_29 (nn : Nat) {frc : tg_X13_work} {rc : tq_X13_work} (hr : hg_X13_work frc rc) {l1 : Int32} {y_l1 : Int} (e_l1 : l1.toInt = y_l1) {l2 : Int32} {y_l2 : Int} (e_l2 : l2.toInt = y_l2) {s0 : Int32} {y_s0 : Int} (e_s0 : s0.toInt = y_s0) {h : ms_M} (hM_h : Rg_M h) : Sm_ RV_ (j_X13_workBoth_29 nn frc 160 l1 l2 s0 (H_M h)) (qj_X13_workBoth_29 nn rc y_l1 y_l2 y_s0 h) := by
  unfold j_X13_workBoth_29 qj_X13_workBoth_29
  refine sm_ne e_s0 rfl ?_ ?_
  · exact sj_X13_workBoth_46 nn hr e_l1 e_s0 hM_h
  · refine sm_cP (sf_X13_sign nn rfl rfl rfl hM_h) ?_; intro u48 y_u48 e_u48
    refine sm_ne e_l2 e_u48 ?_ ?_
    · refine sm_gr hM_h (d := 171) rfl ?_
      refine sm_ai hM_h rfl e_l1 ?_; intro v50 y_v50 e_v50
      refine sm_is hM_h rfl ?_
      refine sm_cV (hr.1 e_v50 hM_h) ?_; intro u52 hM_u52
      refine sm_gr hM_u52 (d := 168) rfl ?_
      refine sm_ai hM_u52 rfl e_l1 ?_; intro v54 y_v54 e_v54
      refine sm_is hM_u52 rfl ?_
      refine sm_cP (sf_X13_strength nn e_v54 hM_u52) ?_; intro u56 y_u56 e_u56
      refine sm_eq e_u56 rfl ?_ ?_
      · exact sj_X13_workBoth_190 nn hr e_l1 e_l2 hM_u52
      · refine sm_ne e_u56 rfl ?_ ?_
        · refine sm_cP (sf_X13_operation nn e_l2 hM_u52) ?_; intro u57 y_u57 e_u57
          refine sm_is hM_u52 rfl ?_
          refine sm_cV (sf_X13_put nn e_u57 hM_u52) ?_; intro u59 hM_u59
          refine sm_gr hM_u59 (d := 174) rfl ?_
          refine sm_ai hM_u59 rfl e_l1 ?_; intro v61 y_v61 e_v61
          refine sm_is hM_u59 rfl ?_
          refine sm_cV (sf_X13_turn nn rfl e_v61 hM_u59) ?_; intro u63 hM_u63
          exact sm_rV hM_u63
        · exact sj_X13_workBoth_190 nn hr e_l1 e_l2 hM_u52
    · exact sj_X13_workBoth_46 nn hr e_l1 e_s0 hM_h
set_option maxRecDepth 4000 in
theorem so_X13_workBoth (nn : Nat) {frc : tg_X13_work} {rc : tq_X13_work} (hr : hg_X13_work frc rc) {a1 : Int32} {y_a1 : Int} (e_a1 : a1.toInt = y_a1) {h : ms_M} (hM_h : Rg_M h) : Sm_ RV_ (o_X13_workBoth nn frc 160 a1 (H_M h)) (qo_X13_workBoth nn rc y_a1 h) := by
  unfold o_X13_workBoth qo_X13_workBoth
  refine sm_gr hM_h (d := 166) rfl ?_
  refine sm_gr hM_h (d := 168) rfl ?_
  refine sm_ai hM_h rfl e_a1 ?_; intro v70 y_v70 e_v70
  refine sm_ai hM_h rfl e_v70 ?_; intro v71 y_v71 e_v71
  refine sm_cP (sf_X13_sign nn rfl rfl rfl hM_h) ?_; intro u72 y_u72 e_u72
  refine sm_ne e_v71 e_u72 ?_ ?_
  · exact sj_X13_workBoth_29 nn hr e_a1 e_v71 rfl hM_h
  · exact sj_X13_workBoth_29 nn hr e_a1 e_v71 rfl hM_h
set_option maxRecDepth 4000 in
theorem sg_X13_work (nn : Nat) : ∀ d, hg_X13_work (g_X13_work nn d) (qg_X13_work nn d) := by
  intro d
  induction d with
  | zero => exact ⟨(by intros; exact sm_no), (by intros; exact sm_no), (by intros; exact sm_no), (by intros; exact sm_no)⟩
  | succ d ih => exact ⟨so_X13_work nn ih, so_X13_workOne nn ih, so_X13_workCall nn ih, so_X13_workBoth nn ih⟩
set_option maxRecDepth 4000 in
theorem sf_X13_work (nn : Nat) {a1 : Int32} {y_a1 : Int} (e_a1 : a1.toInt = y_a1) {h : ms_M} (hM_h : Rg_M h) : Sm_ RV_ (f_X13_work nn 160 a1 (H_M h)) (qf_X13_work nn y_a1 h) := (sg_X13_work nn 1450).1 e_a1 hM_h
set_option maxRecDepth 4000 in
theorem sf_X13_workOne (nn : Nat) {a1 : Int32} {y_a1 : Int} (e_a1 : a1.toInt = y_a1) {h : ms_M} (hM_h : Rg_M h) : Sm_ RV_ (f_X13_workOne nn 160 a1 (H_M h)) (qf_X13_workOne nn y_a1 h) := (sg_X13_work nn 1450).2.1 e_a1 hM_h
set_option maxRecDepth 4000 in
theorem sf_X13_workCall (nn : Nat) {a1 : Int32} {y_a1 : Int} (e_a1 : a1.toInt = y_a1) {a2 : Int32} {y_a2 : Int} (e_a2 : a2.toInt = y_a2) {a3 : Int32} {y_a3 : Int} (e_a3 : a3.toInt = y_a3) {h : ms_M} (hM_h : Rg_M h) : Sm_ RV_ (f_X13_workCall nn 160 a1 a2 a3 (H_M h)) (qf_X13_workCall nn y_a1 y_a2 y_a3 h) := (sg_X13_work nn 1450).2.2.1 e_a1 e_a2 e_a3 hM_h
set_option maxRecDepth 4000 in
theorem sf_X13_workBoth (nn : Nat) {a1 : Int32} {y_a1 : Int} (e_a1 : a1.toInt = y_a1) {h : ms_M} (hM_h : Rg_M h) : Sm_ RV_ (f_X13_workBoth nn 160 a1 (H_M h)) (qf_X13_workBoth nn y_a1 h) := (sg_X13_work nn 1450).2.2.2 e_a1 hM_h
set_option maxRecDepth 4000 in
theorem sj_X13_assign_241 (nn : Nat) {s0 : Int32} {y_s0 : Int} (e_s0 : s0.toInt = y_s0) {h : ms_M} (hM_h : Rg_M h) : Sm_ RV_ (j_X13_assign_241 nn 160 s0 160 (H_M h)) (qj_X13_assign_241 nn y_s0 h) := by
  unfold j_X13_assign_241 qj_X13_assign_241
  refine sm_is hM_h rfl ?_
  refine sm_cV (sf_X13_put nn e_s0 hM_h) ?_; intro u2 hM_u2
  refine sm_gi hM_u2 rfl ?_; intro v3 e_v3
  refine sm_oq_sub e_v3 rfl ?_; intro v4 y_v4 e_v4
  refine sm_pv hM_u2 rfl e_v4 ?_; intro h5 hM_h5
  exact sm_rV hM_h5
set_option maxRecDepth 4000 in
theorem sj_X13_assign_209 (nn : Nat) {l1 : Int32} {y_l1 : Int} (e_l1 : l1.toInt = y_l1) {l2 : Int32} {y_l2 : Int} (e_l2 : l2.toInt = y_l2) {h : ms_M} (hM_h : Rg_M h) : Sm_ RV_ (j_X13_assign_209 nn 160 l1 l2 (H_M h)) (qj_X13_assign_209 nn y_l1 y_l2 h) := by
  unfold j_X13_assign_209 qj_X13_assign_209
  refine sm_gr hM_h (d := 171) rfl ?_
  refine sm_ai hM_h rfl e_l1 ?_; intro v7 y_v7 e_v7
  refine sm_is hM_h rfl ?_
  refine sm_cV (sf_X13_work nn e_v7 hM_h) ?_; intro u9 hM_u9
  refine sm_is hM_u9 rfl ?_
  refine sm_cV (sf_X13_work nn e_l2 hM_u9) ?_; intro u11 hM_u11
  refine sm_gr hM_u11 (d := 174) rfl ?_
  refine sm_ai hM_u11 rfl e_l1 ?_; intro v13 y_v13 e_v13
  refine sm_ne e_v13 rfl ?_ ?_
  · exact sj_X13_assign_241 nn rfl hM_u11
  · exact sj_X13_assign_241 nn rfl hM_u11
set_option maxRecDepth 4000 in
theorem sj_X13_assign_65 (nn : Nat) {l1 : Int32} {y_l1 : Int} (e_l1 : l1.toInt = y_l1) {s0 : Int32} {y_s0 : Int} (e_s0 : s0.toInt = y_s0) {h : ms_M} (hM_h : Rg_M h) : Sm_ RV_ (j_X13_assign_65 nn 160 l1 s0 160 (H_M h)) (qj_X13_assign_65 nn y_l1 y_s0 h) := by
  unfold j_X13_assign_65 qj_X13_assign_65
  refine sm_is hM_h rfl ?_
  refine sm_cV (sf_X13_put nn e_s0 hM_h) ?_; intro u16 hM_u16
  refine sm_gr hM_u16 (d := 176) rfl ?_
  refine sm_ai hM_u16 rfl e_l1 ?_; intro v18 y_v18 e_v18
  refine sm_is hM_u16 rfl ?_
  refine sm_cV (sf_X13_put nn e_v18 hM_u16) ?_; intro u20 hM_u20
  refine sm_gi hM_u20 rfl ?_; intro v21 e_v21
  refine sm_oq_sub e_v21 rfl ?_; intro v22 y_v22 e_v22
  refine sm_pv hM_u20 rfl e_v22 ?_; intro h23 hM_h23
  exact sm_rV hM_h23
set_option maxRecDepth 4000 in
theorem sf_X13_assign (nn : Nat) {a1 : Int32} {y_a1 : Int} (e_a1 : a1.toInt = y_a1) {a2 : Int32} {y_a2 : Int} (e_a2 : a2.toInt = y_a2) {h : ms_M} (hM_h : Rg_M h) : Sm_ RV_ (f_X13_assign nn 160 a1 a2 (H_M h)) (qf_X13_assign nn y_a1 y_a2 h) := by
  unfold f_X13_assign qf_X13_assign
  refine sm_gr hM_h (d := 167) rfl ?_
  refine sm_ai hM_h rfl e_a1 ?_; intro v25 y_v25 e_v25
  refine sm_eq e_v25 rfl ?_ ?_
  · refine sm_gr hM_h (d := 175) rfl ?_
    refine sm_ai hM_h rfl e_a1 ?_; intro v31 y_v31 e_v31
    refine sm_ne e_v31 rfl ?_ ?_
    · refine sm_is hM_h rfl ?_
      refine sm_cV (sf_X13_self nn hM_h) ?_; intro u33 hM_u33
      refine sm_is hM_u33 rfl ?_
      refine sm_cV (sf_X13_work nn e_a2 hM_u33) ?_; intro u35 hM_u35
      refine sm_is hM_u35 rfl ?_
      refine sm_cV (sf_X13_put nn rfl hM_u35) ?_; intro u37 hM_u37
      refine sm_gi hM_u37 rfl ?_; intro v38 e_v38
      refine sm_gr hM_u37 (d := 175) rfl ?_
      refine sm_ai hM_u37 rfl e_a1 ?_; intro v40 y_v40 e_v40
      refine sm_is hM_u37 rfl ?_
      refine sm_cI (sf_X13_memberConstant nn e_v38 e_v40 hM_u37) ?_; intro u42 y_u42 M_u42 e_u42 hM_u42
      refine sm_is hM_u42 rfl ?_
      refine sm_cV (sf_X13_put nn e_u42 hM_u42) ?_; intro u44 hM_u44
      refine sm_gi hM_u44 rfl ?_; intro v45 e_v45
      refine sm_oq_sub e_v45 rfl ?_; intro v46 y_v46 e_v46
      refine sm_pv hM_u44 rfl e_v46 ?_; intro h47 hM_h47
      exact sm_rV hM_h47
    · refine sm_is hM_h rfl ?_
      refine sm_cV (sf_X13_work nn e_a2 hM_h) ?_; intro u49 hM_u49
      refine sm_gr hM_u49 (d := 174) rfl ?_
      refine sm_ai hM_u49 rfl e_a1 ?_; intro v51 y_v51 e_v51
      refine sm_lt rfl e_v51 ?_ ?_
      · exact sj_X13_assign_65 nn e_a1 rfl hM_u49
      · exact sj_X13_assign_65 nn e_a1 rfl hM_u49
  · refine sm_eq e_v25 rfl ?_ ?_
    · refine sm_gr hM_h (d := 170) rfl ?_
      refine sm_ai hM_h rfl e_a1 ?_; intro v55 y_v55 e_v55
      refine sm_is hM_h rfl ?_
      refine sm_cV (sf_X13_work nn e_v55 hM_h) ?_; intro u57 hM_u57
      refine sm_gr hM_u57 (d := 174) rfl ?_
      refine sm_gr hM_u57 (d := 170) rfl ?_
      refine sm_ai hM_u57 rfl e_a1 ?_; intro v60 y_v60 e_v60
      refine sm_ai hM_u57 rfl e_v60 ?_; intro v61 y_v61 e_v61
      refine sm_oq_sub e_v61 rfl ?_; intro v62 y_v62 e_v62
      refine sm_div e_v62 ⟨rfl, by decide⟩ ?_; intro v63 y_v63 e_v63
      refine sm_is hM_u57 rfl ?_
      refine sm_cV (sf_X13_work nn e_a2 hM_u57) ?_; intro u65 hM_u65
      refine sm_is hM_u65 rfl ?_
      refine sm_cV (sf_X13_put nn rfl hM_u65) ?_; intro u67 hM_u67
      refine sm_gr hM_u67 (d := 175) rfl ?_
      refine sm_ai hM_u67 rfl e_a1 ?_; intro v69 y_v69 e_v69
      refine sm_is hM_u67 rfl ?_
      refine sm_cI (sf_X13_memberConstant nn e_v63 e_v69 hM_u67) ?_; intro u71 y_u71 M_u71 e_u71 hM_u71
      refine sm_is hM_u71 rfl ?_
      refine sm_cV (sf_X13_put nn e_u71 hM_u71) ?_; intro u73 hM_u73
      refine sm_gi hM_u73 rfl ?_; intro v74 e_v74
      refine sm_oq_sub e_v74 rfl ?_; intro v75 y_v75 e_v75
      refine sm_pv hM_u73 rfl e_v75 ?_; intro h76 hM_h76
      exact sm_rV hM_h76
    · refine sm_gr hM_h (d := 170) rfl ?_
      refine sm_ai hM_h rfl e_a1 ?_; intro v27 y_v27 e_v27
      refine sm_is hM_h rfl ?_
      refine sm_cV (sf_X13_work nn e_v27 hM_h) ?_; intro u29 hM_u29
      exact sj_X13_assign_209 nn e_a1 e_a2 hM_u29
set_option maxRecDepth 4000 in
theorem sj_X13_store_13 (nn : Nat) {l2 : Int32} {y_l2 : Int} (e_l2 : l2.toInt = y_l2) {s0 : Int32} {y_s0 : Int} (e_s0 : s0.toInt = y_s0) {h : ms_M} (hM_h : Rg_M h) : Sm_ RV_ (j_X13_store_13 nn 160 l2 s0 160 (H_M h)) (qj_X13_store_13 nn y_l2 y_s0 h) := by
  unfold j_X13_store_13 qj_X13_store_13
  refine sm_is hM_h rfl ?_
  refine sm_cV (sf_X13_put nn e_s0 hM_h) ?_; intro u2 hM_u2
  refine sm_is hM_u2 rfl ?_
  refine sm_cP (sf_X13_local nn e_l2 hM_u2) ?_; intro u4 y_u4 e_u4
  refine sm_is hM_u2 rfl ?_
  refine sm_cV (sf_X13_put nn e_u4 hM_u2) ?_; intro u6 hM_u6
  refine sm_gi hM_u6 rfl ?_; intro v7 e_v7
  refine sm_oq_sub e_v7 rfl ?_; intro v8 y_v8 e_v8
  refine sm_pv hM_u6 rfl e_v8 ?_; intro h9 hM_h9
  exact sm_rV hM_h9
set_option maxRecDepth 4000 in
theorem sf_X13_store (nn : Nat) {a1 : Int32} {y_a1 : Int} (e_a1 : a1.toInt = y_a1) {a2 : Int32} {y_a2 : Int} (e_a2 : a2.toInt = y_a2) {h : ms_M} (hM_h : Rg_M h) : Sm_ RV_ (f_X13_store nn 160 a1 a2 (H_M h)) (qf_X13_store nn y_a1 y_a2 h) := by
  unfold f_X13_store qf_X13_store
  refine sm_lt rfl e_a1 ?_ ?_
  · exact sj_X13_store_13 nn e_a2 rfl hM_h
  · exact sj_X13_store_13 nn e_a2 rfl hM_h
def hg_X13_make (frc : tg_X13_make) (rc : tq_X13_make) : Prop := (∀ {a1 : Int32} {y_a1 : Int} (e_a1 : a1.toInt = y_a1) {h : ms_M} (hM_h : Rg_M h), Sm_ RI_ (frc.1 160 a1 (H_M h)) (rc.1 y_a1 h)) ∧ (∀ {a1 : Int32} {y_a1 : Int} (e_a1 : a1.toInt = y_a1) {a2 : Int32} {y_a2 : Int} (e_a2 : a2.toInt = y_a2) {h : ms_M} (hM_h : Rg_M h), Sm_ RI_ (frc.2.1 160 a1 a2 (H_M h)) (rc.2.1 y_a1 y_a2 h)) ∧ (∀ {a1 : Int32} {y_a1 : Int} (e_a1 : a1.toInt = y_a1) {a2 : Int32} {y_a2 : Int} (e_a2 : a2.toInt = y_a2) {h : ms_M} (hM_h : Rg_M h), Sm_ RI_ (frc.2.2 160 a1 a2 (H_M h)) (rc.2.2 y_a1 y_a2 h))
set_option maxRecDepth 4000 in
theorem sj_X13_make_459 (nn : Nat) {frc : tg_X13_make} {rc : tq_X13_make} (hr : hg_X13_make frc rc) {h : ms_M} (hM_h : Rg_M h) : Sm_ RI_ (j_X13_make_459 nn frc 160 (H_M h)) (qj_X13_make_459 nn rc h) := by
  unfold j_X13_make_459 qj_X13_make_459
  refine sm_gi hM_h rfl ?_; intro v1 e_v1
  refine sm_oq_sub e_v1 rfl ?_; intro v2 y_v2 e_v2
  refine sm_pv hM_h rfl e_v2 ?_; intro h3 hM_h3
  refine sm_is hM_h3 rfl ?_
  refine sm_cV (sf_X13_put nn rfl hM_h3) ?_; intro u5 hM_u5
  exact sm_rI rfl hM_u5
set_option maxRecDepth 4000 in
theorem sj_X13_make_305 (nn : Nat) {frc : tg_X13_make} {rc : tq_X13_make} (hr : hg_X13_make frc rc) {l1 : Int32} {y_l1 : Int} (e_l1 : l1.toInt = y_l1) {h : ms_M} (hM_h : Rg_M h) : Sm_ RI_ (j_X13_make_305 nn frc 160 l1 (H_M h)) (qj_X13_make_305 nn rc y_l1 h) := by
  unfold j_X13_make_305 qj_X13_make_305
  refine sm_gr hM_h (d := 167) rfl ?_
  refine sm_ai hM_h rfl e_l1 ?_; intro v7 y_v7 e_v7
  refine sm_ne e_v7 rfl ?_ ?_
  · refine sm_gr hM_h (d := 219) rfl ?_
    refine sm_gi hM_h rfl ?_; intro v9 e_v9
    refine sm_ai hM_h rfl e_v9 ?_; intro v10 y_v10 e_v10
    refine sm_is hM_h rfl ?_
    refine sm_cV (sf_X13_jump nn rfl e_v10 hM_h) ?_; intro u12 hM_u12
    exact sm_rI rfl hM_u12
  · refine sm_gr hM_h (d := 220) rfl ?_
    refine sm_gi hM_h rfl ?_; intro v14 e_v14
    refine sm_ai hM_h rfl e_v14 ?_; intro v15 y_v15 e_v15
    refine sm_is hM_h rfl ?_
    refine sm_cV (sf_X13_jump nn rfl e_v15 hM_h) ?_; intro u17 hM_u17
    exact sm_rI rfl hM_u17
set_option maxRecDepth 4000 in
theorem sj_X13_make_246 (nn : Nat) {frc : tg_X13_make} {rc : tq_X13_make} (hr : hg_X13_make frc rc) {l1 : Int32} {y_l1 : Int} (e_l1 : l1.toInt = y_l1) {l2 : Int32} {y_l2 : Int} (e_l2 : l2.toInt = y_l2) {l3 : Int32} {y_l3 : Int} (e_l3 : l3.toInt = y_l3) {l5 : Int32} {y_l5 : Int} (e_l5 : l5.toInt = y_l5) {l6 : Int32} {y_l6 : Int} (e_l6 : l6.toInt = y_l6) {h : ms_M} (hM_h : Rg_M h) : Sm_ RI_ (j_X13_make_246 nn frc 160 l1 l2 l3 l5 l6 (H_M h)) (qj_X13_make_246 nn rc y_l1 y_l2 y_l3 y_l5 y_l6 h) := by
  unfold j_X13_make_246 qj_X13_make_246
  refine sm_gi hM_h rfl ?_; intro v19 e_v19
  refine sm_is hM_h rfl ?_
  refine sm_cV (sf_X13_stands nn e_l5 e_v19 hM_h) ?_; intro u21 hM_u21
  refine sm_gr hM_u21 (d := 172) rfl ?_
  refine sm_ai hM_u21 rfl e_l1 ?_; intro v23 y_v23 e_v23
  refine sm_is hM_u21 rfl ?_
  refine sm_cI (hr.1 e_v23 hM_u21) ?_; intro u25 y_u25 M_u25 e_u25 hM_u25
  refine sm_pv hM_u25 rfl e_l2 ?_; intro h26 hM_h26
  refine sm_gi hM_h26 rfl ?_; intro v27 e_v27
  refine sm_is hM_h26 rfl ?_
  refine sm_cV (sf_X13_stands nn e_l6 e_v27 hM_h26) ?_; intro u29 hM_u29
  refine sm_ne e_l3 rfl ?_ ?_
  · exact sm_rI rfl hM_u29
  · refine sm_eq e_u25 rfl ?_ ?_
    · exact sm_rI rfl hM_u29
    · exact sm_rI rfl hM_u29
set_option maxRecDepth 4000 in
theorem sj_X13_make_225 (nn : Nat) {frc : tg_X13_make} {rc : tq_X13_make} (hr : hg_X13_make frc rc) {h : ms_M} (hM_h : Rg_M h) : Sm_ RI_ (j_X13_make_225 nn frc (H_M h)) (qj_X13_make_225 nn rc h) := by
  unfold j_X13_make_225 qj_X13_make_225
  exact sm_rI rfl hM_h
set_option maxRecDepth 4000 in
theorem sw_X13_make_80 (nn : Nat) {frc : tg_X13_make} {rc : tq_X13_make} (hr : hg_X13_make frc rc) : ∀ (k : Nat) {l2 : Int32} {y_l2 : Int} (e_l2 : l2.toInt = y_l2) {l3 : Int32} {y_l3 : Int} (e_l3 : l3.toInt = y_l3) {l7 : Int32} {y_l7 : Int} (e_l7 : l7.toInt = y_l7) {h : ms_M} (hM_h : Rg_M h), Sm_ RI_ (w_X13_make_80 nn frc k 160 l2 l3 l7 (H_M h)) (qw_X13_make_80 nn rc k y_l2 y_l3 y_l7 h) := by
  intro k
  induction k with
  | zero => intros; exact sm_no
  | succ k ih =>
    intro l2 y_l2 e_l2 l3 y_l3 e_l3 l7 y_l7 e_l7 h hM_h
    unfold w_X13_make_80 qw_X13_make_80
    refine sm_eq e_l7 rfl ?_ ?_
    · refine sm_pv hM_h rfl e_l2 ?_; intro h32 hM_h32
      refine sm_bq e_l3 ?_
      exact sm_rI e_l3 hM_h32
    · refine sm_is hM_h rfl ?_
      refine sm_cI (hr.1 e_l7 hM_h) ?_; intro u35 y_u35 M_u35 e_u35 hM_u35
      refine sm_gr hM_u35 (d := 173) rfl ?_
      refine sm_ai hM_u35 rfl e_l7 ?_; intro v37 y_v37 e_v37
      exact ih e_l2 e_u35 e_v37 hM_u35
set_option maxRecDepth 4000 in
theorem so_X13_make (nn : Nat) {frc : tg_X13_make} {rc : tq_X13_make} (hr : hg_X13_make frc rc) {a1 : Int32} {y_a1 : Int} (e_a1 : a1.toInt = y_a1) {h : ms_M} (hM_h : Rg_M h) : Sm_ RI_ (o_X13_make nn frc 160 a1 (H_M h)) (qo_X13_make nn rc y_a1 h) := by
  unfold o_X13_make qo_X13_make
  refine sm_gi hM_h rfl ?_; intro v39 e_v39
  refine sm_gr hM_h (d := 167) rfl ?_
  refine sm_ai hM_h rfl e_a1 ?_; intro v41 y_v41 e_v41
  refine sm_eq e_v41 rfl ?_ ?_
  · refine sm_gr hM_h (d := 170) rfl ?_
    refine sm_ai hM_h rfl e_a1 ?_; intro v49 y_v49 e_v49
    exact sw_X13_make_80 nn hr nn e_v39 rfl e_v49 hM_h
  · refine sm_eq e_v41 rfl ?_ ?_
    · refine sm_gr hM_h (d := 170) rfl ?_
      refine sm_ai hM_h rfl e_a1 ?_; intro v51 y_v51 e_v51
      refine sm_is hM_h rfl ?_
      refine sm_cV (sf_X13_work nn e_v51 hM_h) ?_; intro u53 hM_u53
      refine sm_gr hM_u53 (d := 174) rfl ?_
      refine sm_ai hM_u53 rfl e_a1 ?_; intro v55 y_v55 e_v55
      refine sm_gi hM_u53 rfl ?_; intro v56 e_v56
      refine sm_is hM_u53 rfl ?_
      refine sm_cV (sf_X13_store nn e_v55 e_v56 hM_u53) ?_; intro u58 hM_u58
      refine sm_gr hM_u58 (d := 168) rfl ?_
      refine sm_ai hM_u58 rfl e_a1 ?_; intro v60 y_v60 e_v60
      refine sm_gr hM_u58 (d := 174) rfl ?_
      refine sm_ai hM_u58 rfl e_a1 ?_; intro v62 y_v62 e_v62
      refine sm_is hM_u58 rfl ?_
      refine sm_cV (sf_X13_comes nn e_v60 e_v62 hM_u58) ?_; intro u64 hM_u64
      exact sm_rI rfl hM_u64
    · refine sm_eq e_v41 rfl ?_ ?_
      · refine sm_is hM_h rfl ?_
        refine sm_cI (sf_X13_label nn hM_h) ?_; intro u66 y_u66 M_u66 e_u66 hM_u66
        refine sm_gr hM_u66 (d := 170) rfl ?_
        refine sm_ai hM_u66 rfl e_a1 ?_; intro v68 y_v68 e_v68
        refine sm_is hM_u66 rfl ?_
        refine sm_cV (sf_X13_work nn e_v68 hM_u66) ?_; intro u70 hM_u70
        refine sm_gi hM_u70 rfl ?_; intro v71 e_v71
        refine sm_oq_sub e_v71 rfl ?_; intro v72 y_v72 e_v72
        refine sm_pv hM_u70 rfl e_v72 ?_; intro h73 hM_h73
        refine sm_is hM_h73 rfl ?_
        refine sm_cV (sf_X13_jump nn rfl e_u66 hM_h73) ?_; intro u75 hM_u75
        refine sm_gr hM_u75 (d := 171) rfl ?_
        refine sm_ai hM_u75 rfl e_a1 ?_; intro v77 y_v77 e_v77
        refine sm_is hM_u75 rfl ?_
        refine sm_cI (hr.1 e_v77 hM_u75) ?_; intro u79 y_u79 M_u79 e_u79 hM_u79
        refine sm_pv hM_u79 rfl e_v39 ?_; intro h80 hM_h80
        refine sm_gr hM_h80 (d := 172) rfl ?_
        refine sm_ai hM_h80 rfl e_a1 ?_; intro v82 y_v82 e_v82
        refine sm_ne e_v82 rfl ?_ ?_
        · refine sm_is hM_h80 rfl ?_
          refine sm_cI (sf_X13_label nn hM_h80) ?_; intro u84 y_u84 M_u84 e_u84 hM_u84
          refine sm_eq e_u79 rfl ?_ ?_
          · exact sj_X13_make_246 nn hr e_a1 e_v39 e_u79 e_u66 e_u84 hM_u84
          · refine sm_is hM_u84 rfl ?_
            refine sm_cV (sf_X13_jump nn rfl e_u84 hM_u84) ?_; intro u86 hM_u86
            exact sj_X13_make_246 nn hr e_a1 e_v39 e_u79 e_u66 e_u84 hM_u86
        · refine sm_gi hM_h80 rfl ?_; intro v88 e_v88
          refine sm_is hM_h80 rfl ?_
          refine sm_cV (sf_X13_stands nn e_u66 e_v88 hM_h80) ?_; intro u90 hM_u90
          exact sj_X13_make_225 nn hr hM_u90
      · refine sm_eq e_v41 rfl ?_ ?_
        · refine sm_is hM_h rfl ?_
          refine sm_cI (hr.2.1 e_a1 e_v39 hM_h) ?_; intro u93 y_u93 M_u93 e_u93 hM_u93
          refine sm_bq e_u93 ?_
          exact sm_rI e_u93 hM_u93
        · refine sm_eq e_v41 rfl ?_ ?_
          · exact sj_X13_make_305 nn hr e_a1 hM_h
          · refine sm_eq e_v41 rfl ?_ ?_
            · exact sj_X13_make_305 nn hr e_a1 hM_h
            · refine sm_eq e_v41 rfl ?_ ?_
              · refine sm_gr hM_h (d := 170) rfl ?_
                refine sm_ai hM_h rfl e_a1 ?_; intro v96 y_v96 e_v96
                refine sm_ne e_v96 rfl ?_ ?_
                · refine sm_gr hM_h (d := 170) rfl ?_
                  refine sm_ai hM_h rfl e_a1 ?_; intro v98 y_v98 e_v98
                  refine sm_is hM_h rfl ?_
                  refine sm_cV (sf_X13_work nn e_v98 hM_h) ?_; intro u100 hM_u100
                  refine sm_gi hM_u100 rfl ?_; intro v101 e_v101
                  refine sm_oq_sub e_v101 rfl ?_; intro v102 y_v102 e_v102
                  refine sm_pv hM_u100 rfl e_v102 ?_; intro h103 hM_h103
                  refine sm_gr hM_h103 (d := 187) rfl ?_
                  refine sm_gi hM_h103 rfl ?_; intro v105 e_v105
                  refine sm_ai hM_h103 rfl e_v105 ?_; intro v106 y_v106 e_v106
                  refine sm_lt rfl e_v106 ?_ ?_
                  · refine sm_is hM_h103 rfl ?_
                    refine sm_cV (sf_X13_put nn rfl hM_h103) ?_; intro u108 hM_u108
                    exact sm_rI rfl hM_u108
                  · refine sm_is hM_h103 rfl ?_
                    refine sm_cV (sf_X13_put nn rfl hM_h103) ?_; intro u110 hM_u110
                    exact sm_rI rfl hM_u110
                · refine sm_is hM_h rfl ?_
                  refine sm_cV (sf_X13_put nn rfl hM_h) ?_; intro u113 hM_u113
                  exact sm_rI rfl hM_u113
              · refine sm_eq e_v41 rfl ?_ ?_
                · refine sm_gr hM_h (d := 170) rfl ?_
                  refine sm_ai hM_h rfl e_a1 ?_; intro v116 y_v116 e_v116
                  refine sm_is hM_h rfl ?_
                  refine sm_cV (sf_X13_work nn e_v116 hM_h) ?_; intro u118 hM_u118
                  refine sm_gi hM_u118 rfl ?_; intro v119 e_v119
                  refine sm_oq_sub e_v119 rfl ?_; intro v120 y_v120 e_v120
                  refine sm_pv hM_u118 rfl e_v120 ?_; intro h121 hM_h121
                  refine sm_is hM_h121 rfl ?_
                  refine sm_cV (sf_X13_put nn rfl hM_h121) ?_; intro u123 hM_u123
                  exact sm_rI rfl hM_u123
                · refine sm_eq e_v41 rfl ?_ ?_
                  · refine sm_is hM_h rfl ?_
                    refine sm_cI (hr.2.2 e_a1 e_v39 hM_h) ?_; intro u125 y_u125 M_u125 e_u125 hM_u125
                    refine sm_bq e_u125 ?_
                    exact sm_rI e_u125 hM_u125
                  · refine sm_eq e_v41 rfl ?_ ?_
                    · refine sm_gr hM_h (d := 170) rfl ?_
                      refine sm_ai hM_h rfl e_a1 ?_; intro v128 y_v128 e_v128
                      refine sm_is hM_h rfl ?_
                      refine sm_cV (sf_X13_work nn e_v128 hM_h) ?_; intro u130 hM_u130
                      exact sj_X13_make_459 nn hr hM_u130
                    · refine sm_eq e_v41 rfl ?_ ?_
                      · refine sm_gr hM_h (d := 170) rfl ?_
                        refine sm_ai hM_h rfl e_a1 ?_; intro v132 y_v132 e_v132
                        refine sm_is hM_h rfl ?_
                        refine sm_cV (sf_X13_work nn e_v132 hM_h) ?_; intro u134 hM_u134
                        refine sm_gr hM_u134 (d := 174) rfl ?_
                        refine sm_gr hM_u134 (d := 170) rfl ?_
                        refine sm_ai hM_u134 rfl e_a1 ?_; intro v137 y_v137 e_v137
                        refine sm_ai hM_u134 rfl e_v137 ?_; intro v138 y_v138 e_v138
                        refine sm_eq e_v138 rfl ?_ ?_
                        · exact sm_rI rfl hM_u134
                        · refine sm_is hM_u134 rfl ?_
                          refine sm_cV (sf_X13_put nn rfl hM_u134) ?_; intro u140 hM_u140
                          refine sm_gi hM_u140 rfl ?_; intro v141 e_v141
                          refine sm_oq_sub e_v141 rfl ?_; intro v142 y_v142 e_v142
                          refine sm_pv hM_u140 rfl e_v142 ?_; intro h143 hM_h143
                          exact sm_rI rfl hM_h143
                      · refine sm_gr hM_h (d := 170) rfl ?_
                        refine sm_ai hM_h rfl e_a1 ?_; intro v43 y_v43 e_v43
                        refine sm_gr hM_h (d := 171) rfl ?_
                        refine sm_ai hM_h rfl e_a1 ?_; intro v45 y_v45 e_v45
                        refine sm_is hM_h rfl ?_
                        refine sm_cV (sf_X13_assign nn e_v43 e_v45 hM_h) ?_; intro u47 hM_u47
                        exact sm_rI rfl hM_u47
