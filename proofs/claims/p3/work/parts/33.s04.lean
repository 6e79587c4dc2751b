set_option maxRecDepth 4000 in
theorem sf_X8_readParameters (nn : Nat) {h : ms_M} (hM_h : Rg_M h) : Sm_ RV_ (f_X8_readParameters nn 32 (H_M h)) (qf_X8_readParameters nn h) := by
  unfold f_X8_readParameters qf_X8_readParameters
  exact sw_X8_readParameters_4 nn nn rfl rfl hM_h
set_option maxRecDepth 4000 in
theorem sj_X8_readMember_66 (nn : Nat) {h : ms_M} (hM_h : Rg_M h) : Sm_ RV_ (j_X8_readMember_66 nn 32 (H_M h)) (qj_X8_readMember_66 nn h) := by
  unfold j_X8_readMember_66 qj_X8_readMember_66
  refine sm_is hM_h rfl ?_
  refine sm_cV (sf_X8_need nn rfl hM_h) ?_; intro u2 hM_u2
  refine sm_is hM_u2 rfl ?_
  refine sm_cV (sf_X8_readBlock nn rfl hM_u2) ?_; intro u4 hM_u4
  exact sm_rV hM_u4
set_option maxRecDepth 4000 in
theorem sj_X8_readMember_44 (nn : Nat) {h : ms_M} (hM_h : Rg_M h) : Sm_ RV_ (j_X8_readMember_44 nn 32 (H_M h)) (qj_X8_readMember_44 nn h) := by
  unfold j_X8_readMember_44 qj_X8_readMember_44
  refine sm_is hM_h rfl ?_
  refine sm_cV (sf_X8_need nn rfl hM_h) ?_; intro u6 hM_u6
  refine sm_gr hM_u6 (d := 2) rfl ?_
  refine sm_is hM_u6 rfl ?_
  refine sm_cP (sf_X9_kind nn hM_u6) ?_; intro u9 y_u9 e_u9
  refine sm_eq e_u9 rfl ?_ ?_
  · exact sj_X8_readMember_66 nn hM_u6
  · refine sm_is hM_u6 rfl ?_
    refine sm_cV (sf_X8_readParameters nn hM_u6) ?_; intro u11 hM_u11
    exact sj_X8_readMember_66 nn hM_u11
set_option maxRecDepth 4000 in
theorem sj_X8_readMember_25 (nn : Nat) {l1 : Int32} {y_l1 : Int} (e_l1 : l1.toInt = y_l1) {h : ms_M} (hM_h : Rg_M h) : Sm_ RV_ (j_X8_readMember_25 nn 32 l1 (H_M h)) (qj_X8_readMember_25 nn y_l1 h) := by
  unfold j_X8_readMember_25 qj_X8_readMember_25
  refine sm_is hM_h rfl ?_
  refine sm_cV (sf_X8_need nn rfl hM_h) ?_; intro u14 hM_u14
  refine sm_ne e_l1 rfl ?_ ?_
  · exact sj_X8_readMember_44 nn hM_u14
  · refine sm_is hM_u14 rfl ?_
    refine sm_cI (sf_X8_accept nn rfl hM_u14) ?_; intro u16 y_u16 M_u16 e_u16 hM_u16
    refine sm_eq e_u16 rfl ?_ ?_
    · exact sj_X8_readMember_44 nn hM_u16
    · exact sm_rV hM_u16
set_option maxRecDepth 4000 in
theorem sf_X8_readMember (nn : Nat) {h : ms_M} (hM_h : Rg_M h) : Sm_ RV_ (f_X8_readMember nn 32 (H_M h)) (qf_X8_readMember nn h) := by
  unfold f_X8_readMember qf_X8_readMember
  refine sm_is hM_h rfl ?_
  refine sm_cI (sf_X8_accept nn rfl hM_h) ?_; intro u20 y_u20 M_u20 e_u20 hM_u20
  refine sm_is hM_u20 rfl ?_
  refine sm_cI (sf_X8_accept nn rfl hM_u20) ?_; intro u22 y_u22 M_u22 e_u22 hM_u22
  refine sm_eq e_u22 rfl ?_ ?_
  · refine sm_is hM_u22 rfl ?_
    refine sm_cV (sf_X8_readType nn hM_u22) ?_; intro u24 hM_u24
    exact sj_X8_readMember_25 nn e_u20 hM_u24
  · exact sj_X8_readMember_25 nn rfl hM_u22
set_option maxRecDepth 4000 in
theorem sj_X8_readClass_86 (nn : Nat) {h : ms_M} (hM_h : Rg_M h) : Sm_ RV_ (j_X8_readClass_86 nn 32 (H_M h)) (qj_X8_readClass_86 nn h) := by
  unfold j_X8_readClass_86 qj_X8_readClass_86
  refine sm_is hM_h rfl ?_
  refine sm_cV (sf_X8_need nn rfl hM_h) ?_; intro u2 hM_u2
  exact sm_rV hM_u2
set_option maxRecDepth 4000 in
theorem sw_X8_readClass_47 (nn : Nat) : ∀ (k : Nat) {l1 : Int32} {y_l1 : Int} (e_l1 : l1.toInt = y_l1) {h : ms_M} (hM_h : Rg_M h), Sm_ RV_ (w_X8_readClass_47 nn k 32 l1 (H_M h)) (qw_X8_readClass_47 nn k y_l1 h) := by
  intro k
  induction k with
  | zero => intros; exact sm_no
  | succ k ih =>
    intro l1 y_l1 e_l1 h hM_h
    unfold w_X8_readClass_47 qw_X8_readClass_47
    refine sm_le rfl e_l1 ?_ ?_
    · exact sj_X8_readClass_86 nn hM_h
    · refine sm_gr hM_h (d := 2) rfl ?_
      refine sm_gi hM_h rfl ?_; intro v4 e_v4
      refine sm_ne e_v4 rfl ?_ ?_
      · exact sj_X8_readClass_86 nn hM_h
      · refine sm_gr hM_h (d := 2) rfl ?_
        refine sm_is hM_h rfl ?_
        refine sm_cP (sf_X9_kind nn hM_h) ?_; intro u7 y_u7 e_u7
        refine sm_eq e_u7 rfl ?_ ?_
        · exact sj_X8_readClass_86 nn hM_h
        · refine sm_is hM_h rfl ?_
          refine sm_cV (sf_X8_readMember nn hM_h) ?_; intro u9 hM_u9
          refine sm_oq_add e_l1 rfl ?_; intro v10 y_v10 e_v10
          exact ih e_v10 hM_u9
set_option maxRecDepth 4000 in
theorem sj_X8_readClass_39 (nn : Nat) {h : ms_M} (hM_h : Rg_M h) : Sm_ RV_ (j_X8_readClass_39 nn 32 (H_M h)) (qj_X8_readClass_39 nn h) := by
  unfold j_X8_readClass_39 qj_X8_readClass_39
  refine sm_is hM_h rfl ?_
  refine sm_cV (sf_X8_need nn rfl hM_h) ?_; intro u15 hM_u15
  exact sw_X8_readClass_47 nn nn rfl hM_u15
set_option maxRecDepth 4000 in
theorem sf_X8_readClass (nn : Nat) {h : ms_M} (hM_h : Rg_M h) : Sm_ RV_ (f_X8_readClass nn 32 (H_M h)) (qf_X8_readClass nn h) := by
  unfold f_X8_readClass qf_X8_readClass
  refine sm_is hM_h rfl ?_
  refine sm_cV (sf_X8_need nn rfl hM_h) ?_; intro u17 hM_u17
  refine sm_gr hM_u17 (d := 11) rfl ?_
  refine sm_gr hM_u17 (d := 2) rfl ?_
  refine sm_gi hM_u17 rfl ?_; intro v20 e_v20
  refine sm_is hM_u17 rfl ?_
  refine sm_cV (sf_X2_addClass nn e_v20 hM_u17) ?_; intro u22 hM_u22
  refine sm_is hM_u22 rfl ?_
  refine sm_cV (sf_X8_need nn rfl hM_u22) ?_; intro u24 hM_u24
  refine sm_is hM_u24 rfl ?_
  refine sm_cI (sf_X8_accept nn rfl hM_u24) ?_; intro u26 y_u26 M_u26 e_u26 hM_u26
  refine sm_eq e_u26 rfl ?_ ?_
  · exact sj_X8_readClass_39 nn hM_u26
  · refine sm_is hM_u26 rfl ?_
    refine sm_cV (sf_X8_need nn rfl hM_u26) ?_; intro u28 hM_u28
    exact sj_X8_readClass_39 nn hM_u28
set_option maxRecDepth 4000 in
theorem sj_X8_readProgram_33 (nn : Nat) {kk_2 : Nat → Int32 → mx_H → Option mx_H} {qkk_2 : Int → ms_M → Option ms_M} (hk_kk_2 : ∀ {l1 : Int32} {y_l1 : Int} (e_l1 : l1.toInt = y_l1) {h : ms_M} (hM_h : Rg_M h), Sm_ RV_ (kk_2 32 l1 (H_M h)) (qkk_2 y_l1 h)) {l1 : Int32} {y_l1 : Int} (e_l1 : l1.toInt = y_l1) {h : ms_M} (hM_h : Rg_M h) : Sm_ RV_ (j_X8_readProgram_33 nn kk_2 32 l1 (H_M h)) (qj_X8_readProgram_33 nn qkk_2 y_l1 h) := by
  unfold j_X8_readProgram_33 qj_X8_readProgram_33
  refine sm_is hM_h rfl ?_
  refine sm_cV (sf_X8_readClass nn hM_h) ?_; intro u2 hM_u2
  refine sm_oq_add e_l1 rfl ?_; intro v3 y_v3 e_v3
  exact hk_kk_2 e_v3 hM_u2
set_option maxRecDepth 4000 in
theorem sw_X8_readProgram_2 (nn : Nat) : ∀ (k : Nat) {l1 : Int32} {y_l1 : Int} (e_l1 : l1.toInt = y_l1) {h : ms_M} (hM_h : Rg_M h), Sm_ RV_ (w_X8_readProgram_2 nn k 32 l1 (H_M h)) (qw_X8_readProgram_2 nn k y_l1 h) := by
  intro k
  induction k with
  | zero => intros; exact sm_no
  | succ k ih =>
    intro l1 y_l1 e_l1 h hM_h
    unfold w_X8_readProgram_2 qw_X8_readProgram_2
    refine sm_le rfl e_l1 ?_ ?_
    · exact sm_rV hM_h
    · refine sm_gr hM_h (d := 2) rfl ?_
      refine sm_gi hM_h rfl ?_; intro v5 e_v5
      refine sm_ne e_v5 rfl ?_ ?_
      · exact sm_rV hM_h
      · refine sm_eq e_l1 rfl ?_ ?_
        · exact sj_X8_readProgram_33 nn ih e_l1 hM_h
        · refine sm_gr hM_h (d := 2) rfl ?_
          refine sm_is hM_h rfl ?_
          refine sm_cP (sf_X9_kind nn hM_h) ?_; intro u8 y_u8 e_u8
          refine sm_eq e_u8 rfl ?_ ?_
          · exact sm_rV hM_h
          · exact sj_X8_readProgram_33 nn ih e_l1 hM_h
set_option maxRecDepth 4000 in
theorem sf_X8_readProgram (nn : Nat) {h : ms_M} (hM_h : Rg_M h) : Sm_ RV_ (f_X8_readProgram nn 32 (H_M h)) (qf_X8_readProgram nn h) := by
  unfold f_X8_readProgram qf_X8_readProgram
  exact sw_X8_readProgram_2 nn nn rfl hM_h
set_option maxRecDepth 4000 in
theorem sf_X9_refuse (nn : Nat) {a1 : Int32} {y_a1 : Int} (e_a1 : a1.toInt = y_a1) {a2 : Int32} {y_a2 : Int} (e_a2 : a2.toInt = y_a2) {h : ms_M} (hM_h : Rg_M h) : Sm_ RV_ (f_X9_refuse nn 2 a1 a2 (H_M h)) (qf_X9_refuse nn y_a1 y_a2 h) := by
  unfold f_X9_refuse qf_X9_refuse
  refine sm_pv hM_h rfl e_a1 ?_; intro h1 hM_h1
  refine sm_pv hM_h1 rfl e_a2 ?_; intro h2 hM_h2
  exact sm_rV hM_h2
set_option maxRecDepth 4000 in
theorem sf_X9_addToken (nn : Nat) {a1 : Int32} {y_a1 : Int} (e_a1 : a1.toInt = y_a1) {a2 : Int32} {y_a2 : Int} (e_a2 : a2.toInt = y_a2) {a3 : Int32} {y_a3 : Int} (e_a3 : a3.toInt = y_a3) {h : ms_M} (hM_h : Rg_M h) : Sm_ RV_ (f_X9_addToken nn 2 a1 a2 a3 (H_M h)) (qf_X9_addToken nn y_a1 y_a2 y_a3 h) := by
  unfold f_X9_addToken qf_X9_addToken
  refine sm_gi hM_h rfl ?_; intro v1 e_v1
  refine sm_gr hM_h (d := 3) rfl ?_
  refine sm_ln hM_h (z := 3001) rfl ?_; intro v3 e_v3
  refine sm_le e_v3 e_v1 ?_ ?_
  · exact sm_rV hM_h
  · refine sm_gr hM_h (d := 3) rfl ?_
    refine sm_gi hM_h rfl ?_; intro v5 e_v5
    refine sm_si hM_h rfl e_v5 e_a1 ?_; intro h6 hM_h6
    refine sm_gr hM_h6 (d := 4) rfl ?_
    refine sm_gi hM_h6 rfl ?_; intro v8 e_v8
    refine sm_si hM_h6 rfl e_v8 e_a2 ?_; intro h9 hM_h9
    refine sm_gr hM_h9 (d := 5) rfl ?_
    refine sm_gi hM_h9 rfl ?_; intro v11 e_v11
    refine sm_si hM_h9 rfl e_v11 e_a3 ?_; intro h12 hM_h12
    refine sm_gi hM_h12 rfl ?_; intro v13 e_v13
    refine sm_oq_add e_v13 rfl ?_; intro v14 y_v14 e_v14
    refine sm_pv hM_h12 rfl e_v14 ?_; intro h15 hM_h15
    exact sm_rV hM_h15
set_option maxRecDepth 4000 in
theorem sj_X9_behindBlanks_45 (nn : Nat) {kk_5 : Nat → Int32 → Int32 → Int32 → mx_H → Option (Int32 × mx_H)} {qkk_5 : Int → Int → Int → ms_M → Option Int} (hk_kk_5 : ∀ {l1 : Int32} {y_l1 : Int} (e_l1 : l1.toInt = y_l1) {l3 : Int32} {y_l3 : Int} (e_l3 : l3.toInt = y_l3) {l4 : Int32} {y_l4 : Int} (e_l4 : l4.toInt = y_l4) {h : ms_M} (hM_h : Rg_M h), Sm_ (RP_ h) (kk_5 1 l1 l3 l4 (H_M h)) (qkk_5 y_l1 y_l3 y_l4 h)) {l1 : Int32} {y_l1 : Int} (e_l1 : l1.toInt = y_l1) {l3 : Int32} {y_l3 : Int} (e_l3 : l3.toInt = y_l3) {l4 : Int32} {y_l4 : Int} (e_l4 : l4.toInt = y_l4) {l5 : Int32} {y_l5 : Int} (e_l5 : l5.toInt = y_l5) {h : ms_M} (hM_h : Rg_M h) : Sm_ (RP_ h) (j_X9_behindBlanks_45 nn kk_5 1 l1 l3 l4 l5 (H_M h)) (qj_X9_behindBlanks_45 nn qkk_5 y_l1 y_l3 y_l4 y_l5 h) := by
  unfold j_X9_behindBlanks_45 qj_X9_behindBlanks_45
  refine sm_ne e_l5 rfl ?_ ?_
  · refine sm_eq e_l5 rfl ?_ ?_
    · refine sm_oq_add e_l3 rfl ?_; intro v1 y_v1 e_v1
      exact hk_kk_5 e_l1 e_v1 e_l4 hM_h
    · refine sm_ne e_l4 rfl ?_ ?_
      · refine sm_oq_add e_l3 rfl ?_; intro v2 y_v2 e_v2
        exact hk_kk_5 e_l1 e_v2 e_l4 hM_h
      · exact sm_rP e_l3
  · refine sm_oq_add e_l3 rfl ?_; intro v5 y_v5 e_v5
    exact hk_kk_5 e_l1 e_v5 rfl hM_h
set_option maxRecDepth 4000 in
theorem sw_X9_behindBlanks_5 (nn : Nat) : ∀ (k : Nat) {l1 : Int32} {y_l1 : Int} (e_l1 : l1.toInt = y_l1) {l3 : Int32} {y_l3 : Int} (e_l3 : l3.toInt = y_l3) {l4 : Int32} {y_l4 : Int} (e_l4 : l4.toInt = y_l4) {h : ms_M} (hM_h : Rg_M h), Sm_ (RP_ h) (w_X9_behindBlanks_5 nn k 1 l1 l3 l4 (H_M h)) (qw_X9_behindBlanks_5 nn k y_l1 y_l3 y_l4 h) := by
  intro k
  induction k with
  | zero => intros; exact sm_no
  | succ k ih =>
    intro l1 y_l1 e_l1 l3 y_l3 e_l3 l4 y_l4 e_l4 h hM_h
    unfold w_X9_behindBlanks_5 qw_X9_behindBlanks_5
    refine sm_le e_l1 e_l3 ?_ ?_
    · exact sm_rP e_l3
    · refine sm_ab hM_h rfl e_l3 ?_; intro v7 y_v7 e_v7
      refine sm_ne e_v7 rfl ?_ ?_
      · exact sj_X9_behindBlanks_45 nn ih e_l1 e_l3 e_l4 e_v7 hM_h
      · refine sm_oq_add e_l3 rfl ?_; intro v8 y_v8 e_v8
        refine sm_le e_l1 e_v8 ?_ ?_
        · exact sj_X9_behindBlanks_45 nn ih e_l1 e_l3 e_l4 e_v7 hM_h
        · refine sm_oq_add e_l3 rfl ?_; intro v9 y_v9 e_v9
          refine sm_ab hM_h rfl e_v9 ?_; intro v10 y_v10 e_v10
          refine sm_ne e_v10 rfl ?_ ?_
          · exact sj_X9_behindBlanks_45 nn ih e_l1 e_l3 e_l4 e_v7 hM_h
          · refine sm_oq_add e_l3 rfl ?_; intro v11 y_v11 e_v11
            exact ih e_l1 e_v11 rfl hM_h
set_option maxRecDepth 4000 in
theorem sf_X9_behindBlanks (nn : Nat) {a1 : Int32} {y_a1 : Int} (e_a1 : a1.toInt = y_a1) {a2 : Int32} {y_a2 : Int} (e_a2 : a2.toInt = y_a2) {h : ms_M} (hM_h : Rg_M h) : Sm_ (RP_ h) (f_X9_behindBlanks nn 1 a1 a2 (H_M h)) (qf_X9_behindBlanks nn y_a1 y_a2 h) := by
  unfold f_X9_behindBlanks qf_X9_behindBlanks
  exact sw_X9_behindBlanks_5 nn nn e_a1 e_a2 rfl hM_h
set_option maxRecDepth 4000 in
theorem sf_X9_isDigit (nn : Nat) {a0 : Int32} {y_a0 : Int} (e_a0 : a0.toInt = y_a0) {h : ms_M} (hM_h : Rg_M h) : Sm_ (RP_ h) (f_X9_isDigit nn a0 (H_M h)) (qf_X9_isDigit nn y_a0 h) := by
  unfold f_X9_isDigit qf_X9_isDigit
  refine sm_lt e_a0 rfl ?_ ?_
  · exact sm_rP rfl
  · refine sm_lt rfl e_a0 ?_ ?_
    · exact sm_rP rfl
    · exact sm_rP rfl
set_option maxRecDepth 4000 in
theorem sj_X9_isLetter_12 (nn : Nat) {l0 : Int32} {y_l0 : Int} (e_l0 : l0.toInt = y_l0) {h : ms_M} (hM_h : Rg_M h) : Sm_ (RP_ h) (j_X9_isLetter_12 nn l0 (H_M h)) (qj_X9_isLetter_12 nn y_l0 h) := by
  unfold j_X9_isLetter_12 qj_X9_isLetter_12
  refine sm_lt e_l0 rfl ?_ ?_
  · exact sm_rP rfl
  · refine sm_lt rfl e_l0 ?_ ?_
    · exact sm_rP rfl
    · exact sm_rP rfl
set_option maxRecDepth 4000 in
theorem sf_X9_isLetter (nn : Nat) {a0 : Int32} {y_a0 : Int} (e_a0 : a0.toInt = y_a0) {h : ms_M} (hM_h : Rg_M h) : Sm_ (RP_ h) (f_X9_isLetter nn a0 (H_M h)) (qf_X9_isLetter nn y_a0 h) := by
  unfold f_X9_isLetter qf_X9_isLetter
  refine sm_lt e_a0 rfl ?_ ?_
  · exact sj_X9_isLetter_12 nn e_a0 hM_h
  · refine sm_le e_a0 rfl ?_ ?_
    · exact sm_rP rfl
    · exact sj_X9_isLetter_12 nn e_a0 hM_h
set_option maxRecDepth 4000 in
theorem sf_X9_isNamePart (nn : Nat) {a0 : Int32} {y_a0 : Int} (e_a0 : a0.toInt = y_a0) {h : ms_M} (hM_h : Rg_M h) : Sm_ (RP_ h) (f_X9_isNamePart nn a0 (H_M h)) (qf_X9_isNamePart nn y_a0 h) := by
  unfold f_X9_isNamePart qf_X9_isNamePart
  refine sm_cP (sf_X9_isLetter nn e_a0 hM_h) ?_; intro u1 y_u1 e_u1
  refine sm_ne e_u1 rfl ?_ ?_
  · exact sm_rP rfl
  · refine sm_cP (sf_X9_isDigit nn e_a0 hM_h) ?_; intro u2 y_u2 e_u2
    refine sm_ne e_u2 rfl ?_ ?_
    · exact sm_rP rfl
    · refine sm_ne e_a0 rfl ?_ ?_
      · exact sm_rP rfl
      · exact sm_rP rfl
set_option maxRecDepth 4000 in
theorem sj_X9_scanNumber_96 (nn : Nat) {l3 : Int32} {y_l3 : Int} (e_l3 : l3.toInt = y_l3) {l4 : Int64} {y_l4 : Int} (e_l4 : l4.toInt = y_l4) {l6 : Int32} {y_l6 : Int} (e_l6 : l6.toInt = y_l6) {l7 : Int32} {y_l7 : Int} (e_l7 : l7.toInt = y_l7) {s0 : Int32} {y_s0 : Int} (e_s0 : s0.toInt = y_s0) {h : ms_M} (hM_h : Rg_M h) : Sm_ RI_ (j_X9_scanNumber_96 nn 2 l3 l4 l6 l7 s0 (H_M h)) (qj_X9_scanNumber_96 nn y_l3 y_l4 y_l6 y_l7 y_s0 h) := by
  unfold j_X9_scanNumber_96 qj_X9_scanNumber_96
  refine sm_ne e_l7 rfl ?_ ?_
  · exact sm_rI rfl hM_h
  · refine sm_ne e_s0 rfl ?_ ?_
    · exact sm_rI rfl hM_h
    · refine sm_lcmp e_l4 rfl ?_; intro v1 y_v1 e_v1
      refine sm_le e_v1 rfl ?_ ?_
      · refine sm_l2i e_l4 ?_; intro v2 y_v2 e_v2
        refine sm_is hM_h rfl ?_
        refine sm_cV (sf_X9_addToken nn rfl e_l3 e_v2 hM_h) ?_; intro u4 hM_u4
        refine sm_oq_sub e_l6 e_l3 ?_; intro v5 y_v5 e_v5
        exact sm_rI e_v5 hM_u4
      · exact sm_rI rfl hM_h
set_option maxRecDepth 4000 in
theorem sj_X9_scanNumber_95 (nn : Nat) {l3 : Int32} {y_l3 : Int} (e_l3 : l3.toInt = y_l3) {l4 : Int64} {y_l4 : Int} (e_l4 : l4.toInt = y_l4) {l6 : Int32} {y_l6 : Int} (e_l6 : l6.toInt = y_l6) {l7 : Int32} {y_l7 : Int} (e_l7 : l7.toInt = y_l7) {h : ms_M} (hM_h : Rg_M h) : Sm_ RI_ (j_X9_scanNumber_95 nn 2 l3 l4 l6 l7 (H_M h)) (qj_X9_scanNumber_95 nn y_l3 y_l4 y_l6 y_l7 h) := by
  unfold j_X9_scanNumber_95 qj_X9_scanNumber_95
  exact sj_X9_scanNumber_96 nn e_l3 e_l4 e_l6 e_l7 rfl hM_h
set_option maxRecDepth 4000 in
theorem sj_X9_scanNumber_73 (nn : Nat) {l2 : Int32} {y_l2 : Int} (e_l2 : l2.toInt = y_l2) {l3 : Int32} {y_l3 : Int} (e_l3 : l3.toInt = y_l3) {l4 : Int64} {y_l4 : Int} (e_l4 : l4.toInt = y_l4) {l6 : Int32} {y_l6 : Int} (e_l6 : l6.toInt = y_l6) {s0 : Int32} {y_s0 : Int} (e_s0 : s0.toInt = y_s0) {h : ms_M} (hM_h : Rg_M h) : Sm_ RI_ (j_X9_scanNumber_73 nn 2 1 l2 l3 l4 l6 s0 (H_M h)) (qj_X9_scanNumber_73 nn y_l2 y_l3 y_l4 y_l6 y_s0 h) := by
  unfold j_X9_scanNumber_73 qj_X9_scanNumber_73
  refine sm_le e_l2 e_l6 ?_ ?_
  · exact sj_X9_scanNumber_95 nn e_l3 e_l4 e_l6 e_s0 hM_h
  · refine sm_ab hM_h rfl e_l6 ?_; intro v9 y_v9 e_v9
    refine sm_cP (sf_X9_isNamePart nn e_v9 hM_h) ?_; intro u10 y_u10 e_u10
    refine sm_eq e_u10 rfl ?_ ?_
    · exact sj_X9_scanNumber_95 nn e_l3 e_l4 e_l6 e_s0 hM_h
    · exact sj_X9_scanNumber_96 nn e_l3 e_l4 e_l6 e_s0 rfl hM_h
set_option maxRecDepth 4000 in
theorem sj_X9_scanNumber_72 (nn : Nat) {l2 : Int32} {y_l2 : Int} (e_l2 : l2.toInt = y_l2) {l3 : Int32} {y_l3 : Int} (e_l3 : l3.toInt = y_l3) {l4 : Int64} {y_l4 : Int} (e_l4 : l4.toInt = y_l4) {l6 : Int32} {y_l6 : Int} (e_l6 : l6.toInt = y_l6) {h : ms_M} (hM_h : Rg_M h) : Sm_ RI_ (j_X9_scanNumber_72 nn 2 1 l2 l3 l4 l6 (H_M h)) (qj_X9_scanNumber_72 nn y_l2 y_l3 y_l4 y_l6 h) := by
  unfold j_X9_scanNumber_72 qj_X9_scanNumber_72
  exact sj_X9_scanNumber_73 nn e_l2 e_l3 e_l4 e_l6 rfl hM_h
set_option maxRecDepth 4000 in
theorem sj_X9_scanNumber_52 (nn : Nat) {l2 : Int32} {y_l2 : Int} (e_l2 : l2.toInt = y_l2) {l3 : Int32} {y_l3 : Int} (e_l3 : l3.toInt = y_l3) {l4 : Int64} {y_l4 : Int} (e_l4 : l4.toInt = y_l4) {l6 : Int32} {y_l6 : Int} (e_l6 : l6.toInt = y_l6) {h : ms_M} (hM_h : Rg_M h) : Sm_ RI_ (j_X9_scanNumber_52 nn 2 1 l2 l3 l4 l6 (H_M h)) (qj_X9_scanNumber_52 nn y_l2 y_l3 y_l4 y_l6 h) := by
  unfold j_X9_scanNumber_52 qj_X9_scanNumber_52
  refine sm_ab hM_h rfl e_l3 ?_; intro v13 y_v13 e_v13
  refine sm_ne e_v13 rfl ?_ ?_
  · exact sj_X9_scanNumber_72 nn e_l2 e_l3 e_l4 e_l6 hM_h
  · refine sm_oq_add e_l3 rfl ?_; intro v14 y_v14 e_v14
    refine sm_le e_l6 e_v14 ?_ ?_
    · exact sj_X9_scanNumber_72 nn e_l2 e_l3 e_l4 e_l6 hM_h
    · exact sj_X9_scanNumber_73 nn e_l2 e_l3 e_l4 e_l6 rfl hM_h
set_option maxRecDepth 4000 in
theorem sw_X9_scanNumber_6 (nn : Nat) : ∀ (k : Nat) {l2 : Int32} {y_l2 : Int} (e_l2 : l2.toInt = y_l2) {l3 : Int32} {y_l3 : Int} (e_l3 : l3.toInt = y_l3) {l4 : Int64} {y_l4 : Int} (e_l4 : l4.toInt = y_l4) {l6 : Int32} {y_l6 : Int} (e_l6 : l6.toInt = y_l6) {h : ms_M} (hM_h : Rg_M h), Sm_ RI_ (w_X9_scanNumber_6 nn k 2 1 l2 l3 l4 l6 (H_M h)) (qw_X9_scanNumber_6 nn k y_l2 y_l3 y_l4 y_l6 h) := by
  intro k
  induction k with
  | zero => intros; exact sm_no
  | succ k ih =>
    intro l2 y_l2 e_l2 l3 y_l3 e_l3 l4 y_l4 e_l4 l6 y_l6 e_l6 h hM_h
    unfold w_X9_scanNumber_6 qw_X9_scanNumber_6
    refine sm_le e_l2 e_l6 ?_ ?_
    · exact sj_X9_scanNumber_52 nn e_l2 e_l3 e_l4 e_l6 hM_h
    · refine sm_ab hM_h rfl e_l6 ?_; intro v17 y_v17 e_v17
      refine sm_cP (sf_X9_isDigit nn e_v17 hM_h) ?_; intro u18 y_u18 e_u18
      refine sm_eq e_u18 rfl ?_ ?_
      · exact sj_X9_scanNumber_52 nn e_l2 e_l3 e_l4 e_l6 hM_h
      · refine sm_mulL e_l4 rfl ?_; intro v19 y_v19 e_v19
        refine sm_ab hM_h rfl e_l6 ?_; intro v20 y_v20 e_v20
        refine sm_i2l e_v20 ?_; intro v21 y_v21 e_v21
        refine sm_addL e_v19 e_v21 ?_; intro v22 y_v22 e_v22
        refine sm_subL e_v22 rfl ?_; intro v23 y_v23 e_v23
        refine sm_iteL rfl e_v23 rfl e_v23 ?_; intro v24 y_v24 e_v24
        refine sm_oq_add e_l6 rfl ?_; intro v25 y_v25 e_v25
        exact ih e_l2 e_l3 e_v24 e_v25 hM_h
set_option maxRecDepth 4000 in
theorem sf_X9_scanNumber (nn : Nat) {a2 : Int32} {y_a2 : Int} (e_a2 : a2.toInt = y_a2) {a3 : Int32} {y_a3 : Int} (e_a3 : a3.toInt = y_a3) {h : ms_M} (hM_h : Rg_M h) : Sm_ RI_ (f_X9_scanNumber nn 2 1 a2 a3 (H_M h)) (qf_X9_scanNumber nn y_a2 y_a3 h) := by
  unfold f_X9_scanNumber qf_X9_scanNumber
  exact sw_X9_scanNumber_6 nn nn e_a2 e_a3 rfl e_a3 hM_h
set_option maxRecDepth 4000 in
theorem sj_X9_scanWord_89 (nn : Nat) {l3 : Int32} {y_l3 : Int} (e_l3 : l3.toInt = y_l3) {l5 : Int32} {y_l5 : Int} (e_l5 : l5.toInt = y_l5) {l6 : Int32} {y_l6 : Int} (e_l6 : l6.toInt = y_l6) {s0 : Int32} {y_s0 : Int} (e_s0 : s0.toInt = y_s0) {h : ms_M} (hM_h : Rg_M h) : Sm_ RI_ (j_X9_scanWord_89 nn l3 l5 l6 s0 2 (H_M h)) (qj_X9_scanWord_89 nn y_l3 y_l5 y_l6 y_s0 h) := by
  unfold j_X9_scanWord_89 qj_X9_scanWord_89
  refine sm_is hM_h rfl ?_
  refine sm_cV (sf_X9_addToken nn e_s0 e_l3 e_l6 hM_h) ?_; intro u2 hM_u2
  exact sm_rI e_l5 hM_u2
set_option maxRecDepth 4000 in
theorem sj_X9_scanWord_69 (nn : Nat) {l3 : Int32} {y_l3 : Int} (e_l3 : l3.toInt = y_l3) {l5 : Int32} {y_l5 : Int} (e_l5 : l5.toInt = y_l5) {l6 : Int32} {y_l6 : Int} (e_l6 : l6.toInt = y_l6) {s0 : Int32} {y_s0 : Int} (e_s0 : s0.toInt = y_s0) {h : ms_M} (hM_h : Rg_M h) : Sm_ RI_ (j_X9_scanWord_69 nn 2 l3 l5 l6 s0 (H_M h)) (qj_X9_scanWord_69 nn y_l3 y_l5 y_l6 y_s0 h) := by
  unfold j_X9_scanWord_69 qj_X9_scanWord_69
  refine sm_eq e_s0 rfl ?_ ?_
  · exact sj_X9_scanWord_89 nn e_l3 e_l5 e_l6 rfl hM_h
  · refine sm_oq_add rfl e_l6 ?_; intro v3 y_v3 e_v3
    refine sm_oq_sub e_v3 rfl ?_; intro v4 y_v4 e_v4
    exact sj_X9_scanWord_89 nn e_l3 e_l5 e_l6 e_v4 hM_h
set_option maxRecDepth 4000 in
theorem sj_X9_scanWord_68 (nn : Nat) {l3 : Int32} {y_l3 : Int} (e_l3 : l3.toInt = y_l3) {l5 : Int32} {y_l5 : Int} (e_l5 : l5.toInt = y_l5) {l6 : Int32} {y_l6 : Int} (e_l6 : l6.toInt = y_l6) {h : ms_M} (hM_h : Rg_M h) : Sm_ RI_ (j_X9_scanWord_68 nn 2 l3 l5 l6 (H_M h)) (qj_X9_scanWord_68 nn y_l3 y_l5 y_l6 h) := by
  unfold j_X9_scanWord_68 qj_X9_scanWord_68
  exact sj_X9_scanWord_69 nn e_l3 e_l5 e_l6 rfl hM_h
set_option maxRecDepth 4000 in
theorem sj_X9_scanWord_25 (nn : Nat) {l3 : Int32} {y_l3 : Int} (e_l3 : l3.toInt = y_l3) {l4 : Int32} {y_l4 : Int} (e_l4 : l4.toInt = y_l4) {h : ms_M} (hM_h : Rg_M h) : Sm_ RI_ (j_X9_scanWord_25 nn 2 1 l3 l4 (H_M h)) (qj_X9_scanWord_25 nn y_l3 y_l4 h) := by
  unfold j_X9_scanWord_25 qj_X9_scanWord_25
  refine sm_oq_sub e_l4 e_l3 ?_; intro v6 y_v6 e_v6
  refine sm_le e_v6 rfl ?_ ?_
  · refine sm_is hM_h rfl ?_
    refine sm_cI (sf_X9_nameOf nn _ e_l3 e_v6 hM_h) ?_; intro u8 y_u8 M_u8 e_u8 hM_u8
    refine sm_lt e_u8 rfl ?_ ?_
    · exact sj_X9_scanWord_68 nn e_l3 e_v6 e_u8 hM_u8
    · refine sm_le rfl e_u8 ?_ ?_
      · exact sj_X9_scanWord_68 nn e_l3 e_v6 e_u8 hM_u8
      · exact sj_X9_scanWord_69 nn e_l3 e_v6 e_u8 rfl hM_u8
  · exact sm_rI rfl hM_h
set_option maxRecDepth 4000 in
theorem sw_X9_scanWord_3 (nn : Nat) : ∀ (k : Nat) {l2 : Int32} {y_l2 : Int} (e_l2 : l2.toInt = y_l2) {l3 : Int32} {y_l3 : Int} (e_l3 : l3.toInt = y_l3) {l4 : Int32} {y_l4 : Int} (e_l4 : l4.toInt = y_l4) {h : ms_M} (hM_h : Rg_M h), Sm_ RI_ (w_X9_scanWord_3 nn k 2 1 l2 l3 l4 (H_M h)) (qw_X9_scanWord_3 nn k y_l2 y_l3 y_l4 h) := by
  intro k
  induction k with
  | zero => intros; exact sm_no
  | succ k ih =>
    intro l2 y_l2 e_l2 l3 y_l3 e_l3 l4 y_l4 e_l4 h hM_h
    unfold w_X9_scanWord_3 qw_X9_scanWord_3
    refine sm_le e_l2 e_l4 ?_ ?_
    · exact sj_X9_scanWord_25 nn e_l3 e_l4 hM_h
    · refine sm_ab hM_h rfl e_l4 ?_; intro v12 y_v12 e_v12
      refine sm_cP (sf_X9_isNamePart nn e_v12 hM_h) ?_; intro u13 y_u13 e_u13
      refine sm_eq e_u13 rfl ?_ ?_
      · exact sj_X9_scanWord_25 nn e_l3 e_l4 hM_h
      · refine sm_oq_add e_l4 rfl ?_; intro v14 y_v14 e_v14
        exact ih e_l2 e_l3 e_v14 hM_h
set_option maxRecDepth 4000 in
theorem sf_X9_scanWord (nn : Nat) {a2 : Int32} {y_a2 : Int} (e_a2 : a2.toInt = y_a2) {a3 : Int32} {y_a3 : Int} (e_a3 : a3.toInt = y_a3) {h : ms_M} (hM_h : Rg_M h) : Sm_ RI_ (f_X9_scanWord nn 2 1 a2 a3 (H_M h)) (qf_X9_scanWord nn y_a2 y_a3 h) := by
  unfold f_X9_scanWord qf_X9_scanWord
  exact sw_X9_scanWord_3 nn nn e_a2 e_a3 e_a3 hM_h
set_option maxRecDepth 4000 in
theorem sj_X9_signLength_96 (nn : Nat) {h : ms_M} (hM_h : Rg_M h) : Sm_ (RP_ h) (j_X9_signLength_96 nn (H_M h)) (qj_X9_signLength_96 nn h) := by
  unfold j_X9_signLength_96 qj_X9_signLength_96
  exact sm_rP rfl
set_option maxRecDepth 4000 in
theorem sf_X9_signLength (nn : Nat) {a0 : Int32} {y_a0 : Int} (e_a0 : a0.toInt = y_a0) {h : ms_M} (hM_h : Rg_M h) : Sm_ (RP_ h) (f_X9_signLength nn a0 (H_M h)) (qf_X9_signLength nn y_a0 h) := by
  unfold f_X9_signLength qf_X9_signLength
  refine sm_eq e_a0 rfl ?_ ?_
  · exact sm_rP rfl
  · refine sm_eq e_a0 rfl ?_ ?_
    · exact sj_X9_signLength_96 nn hM_h
    · refine sm_eq e_a0 rfl ?_ ?_
      · exact sj_X9_signLength_96 nn hM_h
      · refine sm_eq e_a0 rfl ?_ ?_
        · exact sj_X9_signLength_96 nn hM_h
        · refine sm_eq e_a0 rfl ?_ ?_
          · exact sj_X9_signLength_96 nn hM_h
          · refine sm_eq e_a0 rfl ?_ ?_
            · exact sj_X9_signLength_96 nn hM_h
            · refine sm_eq e_a0 rfl ?_ ?_
              · exact sj_X9_signLength_96 nn hM_h
              · refine sm_eq e_a0 rfl ?_ ?_
                · exact sm_rP rfl
                · refine sm_eq e_a0 rfl ?_ ?_
                  · exact sj_X9_signLength_96 nn hM_h
                  · refine sm_eq e_a0 rfl ?_ ?_
                    · exact sj_X9_signLength_96 nn hM_h
                    · exact sm_rP rfl
set_option maxRecDepth 4000 in
theorem sf_X9_plainSignOf (nn : Nat) {a0 : Int32} {y_a0 : Int} (e_a0 : a0.toInt = y_a0) {h : ms_M} (hM_h : Rg_M h) : Sm_ (RP_ h) (f_X9_plainSignOf nn a0 (H_M h)) (qf_X9_plainSignOf nn y_a0 h) := by
  unfold f_X9_plainSignOf qf_X9_plainSignOf
  refine sm_eq e_a0 rfl ?_ ?_
  · exact sm_rP rfl
  · refine sm_eq e_a0 rfl ?_ ?_
    · exact sm_rP rfl
    · refine sm_eq e_a0 rfl ?_ ?_
      · exact sm_rP rfl
      · refine sm_eq e_a0 rfl ?_ ?_
        · exact sm_rP rfl
        · refine sm_eq e_a0 rfl ?_ ?_
          · exact sm_rP rfl
          · refine sm_eq e_a0 rfl ?_ ?_
            · exact sm_rP rfl
            · refine sm_eq e_a0 rfl ?_ ?_
              · exact sm_rP rfl
              · refine sm_eq e_a0 rfl ?_ ?_
                · exact sm_rP rfl
                · refine sm_eq e_a0 rfl ?_ ?_
                  · exact sm_rP rfl
                  · refine sm_eq e_a0 rfl ?_ ?_
                    · exact sm_rP rfl
                    · refine sm_eq e_a0 rfl ?_ ?_
                      · exact sm_rP rfl
                      · refine sm_eq e_a0 rfl ?_ ?_
                        · exact sm_rP rfl
                        · refine sm_eq e_a0 rfl ?_ ?_
                          · exact sm_rP rfl
                          · refine sm_eq e_a0 rfl ?_ ?_
                            · exact sm_rP rfl
                            · refine sm_eq e_a0 rfl ?_ ?_
                              · exact sm_rP rfl
                              · refine sm_eq e_a0 rfl ?_ ?_
                                · exact sm_rP rfl
                                · refine sm_eq e_a0 rfl ?_ ?_
                                  · exact sm_rP rfl
                                  · refine sm_eq e_a0 rfl ?_ ?_
                                    · exact sm_rP rfl
                                    · exact sm_rP rfl
set_option maxRecDepth 4000 in
theorem sf_X9_signOf (nn : Nat) {a0 : Int32} {y_a0 : Int} (e_a0 : a0.toInt = y_a0) {a1 : Int32} {y_a1 : Int} (e_a1 : a1.toInt = y_a1) {h : ms_M} (hM_h : Rg_M h) : Sm_ (RP_ h) (f_X9_signOf nn a0 a1 (H_M h)) (qf_X9_signOf nn y_a0 y_a1 h) := by
  unfold f_X9_signOf qf_X9_signOf
  refine sm_eq e_a0 rfl ?_ ?_
  · refine sm_ne e_a1 rfl ?_ ?_
    · exact sm_rP rfl
    · exact sm_rP rfl
  · refine sm_eq e_a0 rfl ?_ ?_
    · refine sm_ne e_a1 rfl ?_ ?_
      · exact sm_rP rfl
      · exact sm_rP rfl
    · refine sm_eq e_a0 rfl ?_ ?_
      · refine sm_ne e_a1 rfl ?_ ?_
        · refine sm_ne e_a1 rfl ?_ ?_
          · exact sm_rP rfl
          · exact sm_rP rfl
        · exact sm_rP rfl
      · refine sm_eq e_a0 rfl ?_ ?_
        · refine sm_ne e_a1 rfl ?_ ?_
          · exact sm_rP rfl
          · exact sm_rP rfl
        · refine sm_eq e_a0 rfl ?_ ?_
          · refine sm_ne e_a1 rfl ?_ ?_
            · refine sm_ne e_a1 rfl ?_ ?_
              · exact sm_rP rfl
              · exact sm_rP rfl
            · exact sm_rP rfl
          · refine sm_eq e_a0 rfl ?_ ?_
            · refine sm_ne e_a1 rfl ?_ ?_
              · exact sm_rP rfl
              · exact sm_rP rfl
            · refine sm_cP (sf_X9_plainSignOf nn e_a0 hM_h) ?_; intro u1 y_u1 e_u1
              exact sm_rP e_u1
set_option maxRecDepth 4000 in
theorem sj_X9_scanToken_110 (nn : Nat) {l3 : Int32} {y_l3 : Int} (e_l3 : l3.toInt = y_l3) {s0 : Int32} {y_s0 : Int} (e_s0 : s0.toInt = y_s0) {h : ms_M} (hM_h : Rg_M h) : Sm_ RI_ (j_X9_scanToken_110 nn 2 l3 s0 (H_M h)) (qj_X9_scanToken_110 nn y_l3 y_s0 h) := by
  unfold j_X9_scanToken_110 qj_X9_scanToken_110
  refine sm_eq e_s0 rfl ?_ ?_
  · refine sm_cP (sf_X9_signLength nn e_s0 hM_h) ?_; intro u1 y_u1 e_u1
    exact sm_rI e_u1 hM_h
  · refine sm_is hM_h rfl ?_
    refine sm_cV (sf_X9_addToken nn e_s0 e_l3 rfl hM_h) ?_; intro u3 hM_u3
    refine sm_cP (sf_X9_signLength nn e_s0 hM_u3) ?_; intro u4 y_u4 e_u4
    exact sm_rI e_u4 hM_u3
set_option maxRecDepth 4000 in
theorem sj_X9_scanToken_103 (nn : Nat) {l3 : Int32} {y_l3 : Int} (e_l3 : l3.toInt = y_l3) {l4 : Int32} {y_l4 : Int} (e_l4 : l4.toInt = y_l4) {l5 : Int32} {y_l5 : Int} (e_l5 : l5.toInt = y_l5) {h : ms_M} (hM_h : Rg_M h) : Sm_ RI_ (j_X9_scanToken_103 nn 2 l3 l4 l5 (H_M h)) (qj_X9_scanToken_103 nn y_l3 y_l4 y_l5 h) := by
  unfold j_X9_scanToken_103 qj_X9_scanToken_103
  refine sm_cP (sf_X9_signOf nn e_l4 e_l5 hM_h) ?_; intro u6 y_u6 e_u6
  exact sj_X9_scanToken_110 nn e_l3 e_u6 hM_h
set_option maxRecDepth 4000 in
theorem sj_X9_scanToken_84 (nn : Nat) {l3 : Int32} {y_l3 : Int} (e_l3 : l3.toInt = y_l3) {l4 : Int32} {y_l4 : Int} (e_l4 : l4.toInt = y_l4) {l5 : Int32} {y_l5 : Int} (e_l5 : l5.toInt = y_l5) {s0 : Int32} {y_s0 : Int} (e_s0 : s0.toInt = y_s0) {h : ms_M} (hM_h : Rg_M h) : Sm_ RI_ (j_X9_scanToken_84 nn 2 l3 l4 l5 s0 (H_M h)) (qj_X9_scanToken_84 nn y_l3 y_l4 y_l5 y_s0 h) := by
  unfold j_X9_scanToken_84 qj_X9_scanToken_84
  refine sm_ne e_l4 rfl ?_ ?_
  · exact sj_X9_scanToken_103 nn e_l3 e_l4 e_l5 hM_h
  · refine sm_eq e_s0 rfl ?_ ?_
    · exact sj_X9_scanToken_103 nn e_l3 e_l4 e_l5 hM_h
    · exact sj_X9_scanToken_110 nn e_l3 rfl hM_h
set_option maxRecDepth 4000 in
theorem sj_X9_scanToken_83 (nn : Nat) {l3 : Int32} {y_l3 : Int} (e_l3 : l3.toInt = y_l3) {l4 : Int32} {y_l4 : Int} (e_l4 : l4.toInt = y_l4) {l5 : Int32} {y_l5 : Int} (e_l5 : l5.toInt = y_l5) {h : ms_M} (hM_h : Rg_M h) : Sm_ RI_ (j_X9_scanToken_83 nn 2 l3 l4 l5 (H_M h)) (qj_X9_scanToken_83 nn y_l3 y_l4 y_l5 h) := by
  unfold j_X9_scanToken_83 qj_X9_scanToken_83
  exact sj_X9_scanToken_84 nn e_l3 e_l4 e_l5 rfl hM_h
set_option maxRecDepth 4000 in
theorem sj_X9_scanToken_53 (nn : Nat) {l2 : Int32} {y_l2 : Int} (e_l2 : l2.toInt = y_l2) {l3 : Int32} {y_l3 : Int} (e_l3 : l3.toInt = y_l3) {l4 : Int32} {y_l4 : Int} (e_l4 : l4.toInt = y_l4) {s0 : Int32} {y_s0 : Int} (e_s0 : s0.toInt = y_s0) {h : ms_M} (hM_h : Rg_M h) : Sm_ RI_ (j_X9_scanToken_53 nn 2 1 l2 l3 l4 s0 (H_M h)) (qj_X9_scanToken_53 nn y_l2 y_l3 y_l4 y_s0 h) := by
  unfold j_X9_scanToken_53 qj_X9_scanToken_53
  refine sm_ne e_s0 rfl ?_ ?_
  · exact sj_X9_scanToken_83 nn e_l3 e_l4 e_s0 hM_h
  · refine sm_oq_add e_l3 rfl ?_; intro v9 y_v9 e_v9
    refine sm_le e_l2 e_v9 ?_ ?_
    · exact sj_X9_scanToken_83 nn e_l3 e_l4 e_s0 hM_h
    · refine sm_oq_add e_l3 rfl ?_; intro v10 y_v10 e_v10
      refine sm_ab hM_h rfl e_v10 ?_; intro v11 y_v11 e_v11
      refine sm_ne e_v11 rfl ?_ ?_
      · exact sj_X9_scanToken_83 nn e_l3 e_l4 e_s0 hM_h
      · exact sj_X9_scanToken_84 nn e_l3 e_l4 e_s0 rfl hM_h
set_option maxRecDepth 4000 in
theorem sf_X9_scanToken (nn : Nat) {a2 : Int32} {y_a2 : Int} (e_a2 : a2.toInt = y_a2) {a3 : Int32} {y_a3 : Int} (e_a3 : a3.toInt = y_a3) {h : ms_M} (hM_h : Rg_M h) : Sm_ RI_ (f_X9_scanToken nn 2 1 a2 a3 (H_M h)) (qf_X9_scanToken nn y_a2 y_a3 h) := by
  unfold f_X9_scanToken qf_X9_scanToken
  refine sm_ab hM_h rfl e_a3 ?_; intro v15 y_v15 e_v15
  refine sm_cP (sf_X9_isLetter nn e_v15 hM_h) ?_; intro u16 y_u16 e_u16
  refine sm_eq e_u16 rfl ?_ ?_
  · refine sm_cP (sf_X9_isDigit nn e_v15 hM_h) ?_; intro u17 y_u17 e_u17
    refine sm_eq e_u17 rfl ?_ ?_
    · refine sm_oq_add e_a3 rfl ?_; intro v18 y_v18 e_v18
      refine sm_le e_a2 e_v18 ?_ ?_
      · exact sj_X9_scanToken_53 nn e_a2 e_a3 e_v15 rfl hM_h
      · refine sm_oq_add e_a3 rfl ?_; intro v19 y_v19 e_v19
        refine sm_ab hM_h rfl e_v19 ?_; intro v20 y_v20 e_v20
        exact sj_X9_scanToken_53 nn e_a2 e_a3 e_v15 e_v20 hM_h
    · refine sm_is hM_h rfl ?_
      refine sm_cI (sf_X9_scanNumber nn e_a2 e_a3 hM_h) ?_; intro u23 y_u23 M_u23 e_u23 hM_u23
      exact sm_rI e_u23 hM_u23
  · refine sm_is hM_h rfl ?_
    refine sm_cI (sf_X9_scanWord nn e_a2 e_a3 hM_h) ?_; intro u26 y_u26 M_u26 e_u26 hM_u26
    exact sm_rI e_u26 hM_u26
set_option maxRecDepth 4000 in
theorem sj_X9_scan_102 (nn : Nat) {l2 : Int32} {y_l2 : Int} (e_l2 : l2.toInt = y_l2) {h : ms_M} (hM_h : Rg_M h) : Sm_ RV_ (j_X9_scan_102 nn 2 l2 (H_M h)) (qj_X9_scan_102 nn y_l2 h) := by
  unfold j_X9_scan_102 qj_X9_scan_102
  refine sm_is hM_h rfl ?_
  refine sm_cV (sf_X9_addToken nn rfl e_l2 rfl hM_h) ?_; intro u2 hM_u2
  exact sm_rV hM_u2
set_option maxRecDepth 4000 in
theorem sw_X9_scan_51 (nn : Nat) : ∀ (k : Nat) {l2 : Int32} {y_l2 : Int} (e_l2 : l2.toInt = y_l2) {l3 : Int32} {y_l3 : Int} (e_l3 : l3.toInt = y_l3) {l4 : Int32} {y_l4 : Int} (e_l4 : l4.toInt = y_l4) {h : ms_M} (hM_h : Rg_M h), Sm_ RV_ (w_X9_scan_51 nn k 2 1 l2 l3 l4 (H_M h)) (qw_X9_scan_51 nn k y_l2 y_l3 y_l4 h) := by
  intro k
  induction k with
  | zero => intros; exact sm_no
  | succ k ih =>
    intro l2 y_l2 e_l2 l3 y_l3 e_l3 l4 y_l4 e_l4 h hM_h
    unfold w_X9_scan_51 qw_X9_scan_51
    refine sm_le rfl e_l4 ?_ ?_
    · exact sj_X9_scan_102 nn e_l2 hM_h
    · refine sm_le e_l2 e_l3 ?_ ?_
      · exact sj_X9_scan_102 nn e_l2 hM_h
      · refine sm_is hM_h rfl ?_
        refine sm_cI (sf_X9_scanToken nn e_l2 e_l3 hM_h) ?_; intro u4 y_u4 M_u4 e_u4 hM_u4
        refine sm_ne e_u4 rfl ?_ ?_
        · refine sm_oq_add e_l3 e_u4 ?_; intro v5 y_v5 e_v5
          refine sm_cP (sf_X9_behindBlanks nn e_l2 e_v5 hM_u4) ?_; intro u6 y_u6 e_u6
          refine sm_oq_add e_l4 rfl ?_; intro v7 y_v7 e_v7
          exact ih e_l2 e_u6 e_v7 hM_u4
        · refine sm_is hM_u4 rfl ?_
          refine sm_cV (sf_X9_addToken nn rfl e_l3 rfl hM_u4) ?_; intro u9 hM_u9
          exact sm_rV hM_u9
set_option maxRecDepth 4000 in
theorem sf_X9_scan (nn : Nat) {a2 : Int32} {y_a2 : Int} (e_a2 : a2.toInt = y_a2) {h : ms_M} (hM_h : Rg_M h) : Sm_ RV_ (f_X9_scan nn 2 1 a2 (H_M h)) (qf_X9_scan nn y_a2 h) := by
  unfold f_X9_scan qf_X9_scan
  refine sm_pv hM_h rfl rfl ?_; intro h13 hM_h13
  refine sm_gr hM_h13 (d := 10) rfl ?_
  refine sm_gr hM_h13 (d := 9) rfl ?_
  refine sm_cp hM_h13 rfl rfl rfl ?_; intro h16 hM_h16
  refine sm_pv hM_h16 rfl rfl ?_; intro h17 hM_h17
  refine sm_pv hM_h17 rfl rfl ?_; intro h18 hM_h18
  refine sm_pv hM_h18 rfl rfl ?_; intro h19 hM_h19
  refine sm_pv hM_h19 rfl rfl ?_; intro h20 hM_h20
  refine sm_cP (sf_X9_behindBlanks nn e_a2 rfl hM_h20) ?_; intro u21 y_u21 e_u21
  exact sw_X9_scan_51 nn nn e_a2 e_u21 rfl hM_h20
set_option maxRecDepth 4000 in
theorem sj_X12_compile_175 (nn : Nat) {h : ms_M} (hM_h : Rg_M h) (c : Nat) (s : Nat) : Sm_ RD_ (j_X12_compile_175 nn 0 (H_M h) c s) (qj_X12_compile_175 nn h c s) := by
  unfold j_X12_compile_175 qj_X12_compile_175
  refine sm_gr hM_h (d := 33) rfl ?_
  refine sm_is hM_h rfl ?_
  refine sm_cV (sf_X0_closeProgram nn hM_h) ?_; intro u3 hM_u3
  refine sm_gr hM_u3 (d := 2) rfl ?_
  refine sm_gi hM_u3 rfl ?_; intro v5 e_v5
  refine sm_ne e_v5 rfl ?_ ?_
  · exact sm_rD rfl hM_u3
  · refine sm_is hM_u3 rfl ?_
    refine sm_cI (sf_X12_takeImages nn hM_u3) ?_; intro u7 y_u7 M_u7 e_u7 hM_u7
    exact sm_rD e_u7 hM_u7
set_option maxRecDepth 4000 in
theorem sj_X12_compile_161 (nn : Nat) {kk_93 : Nat → Int32 → mx_H → Nat → Nat → Option (Int32 × mx_H × Nat × Nat)} {qkk_93 : Int → ms_M → Nat → Nat → Option (Int × ms_M × Nat × Nat)} (hk_kk_93 : ∀ {l2 : Int32} {y_l2 : Int} (e_l2 : l2.toInt = y_l2) {h : ms_M} (hM_h : Rg_M h) (c : Nat) (s : Nat), Sm_ RD_ (kk_93 0 l2 (H_M h) c s) (qkk_93 y_l2 h c s)) {l2 : Int32} {y_l2 : Int} (e_l2 : l2.toInt = y_l2) {h : ms_M} (hM_h : Rg_M h) (c : Nat) (s : Nat) : Sm_ RD_ (j_X12_compile_161 nn kk_93 0 l2 (H_M h) c s) (qj_X12_compile_161 nn qkk_93 y_l2 h c s) := by
  unfold j_X12_compile_161 qj_X12_compile_161
  refine sm_gr hM_h (d := 33) rfl ?_
  refine sm_is hM_h rfl ?_
  refine sm_cC (sf_X0_closeClass nn e_l2 hM_h) ?_; intro M_u11 c_u11 s_u11 hM_u11
  refine sm_oq_add e_l2 rfl ?_; intro v12 y_v12 e_v12
  exact hk_kk_93 e_v12 hM_u11 _ _
set_option maxRecDepth 4000 in
theorem sw_X12_compile_124 (nn : Nat) {kk_93 : Nat → Int32 → mx_H → Nat → Nat → Option (Int32 × mx_H × Nat × Nat)} {qkk_93 : Int → ms_M → Nat → Nat → Option (Int × ms_M × Nat × Nat)} (hk_kk_93 : ∀ {l2 : Int32} {y_l2 : Int} (e_l2 : l2.toInt = y_l2) {h : ms_M} (hM_h : Rg_M h) (c : Nat) (s : Nat), Sm_ RD_ (kk_93 0 l2 (H_M h) c s) (qkk_93 y_l2 h c s)) : ∀ (k : Nat) {l2 : Int32} {y_l2 : Int} (e_l2 : l2.toInt = y_l2) {l3 : Int32} {y_l3 : Int} (e_l3 : l3.toInt = y_l3) {h : ms_M} (hM_h : Rg_M h) (c : Nat) (s : Nat), Sm_ RD_ (w_X12_compile_124 nn kk_93 k 0 l2 l3 (H_M h) c s) (qw_X12_compile_124 nn qkk_93 k y_l2 y_l3 h c s) := by
  intro k
  induction k with
  | zero => intros; exact sm_no
  | succ k ih =>
    intro l2 y_l2 e_l2 l3 y_l3 e_l3 h hM_h c s
    unfold w_X12_compile_124 qw_X12_compile_124
    refine sm_gr hM_h (d := 11) rfl ?_
    refine sm_is hM_h rfl ?_
    refine sm_cP (sf_X2_methodsOf nn e_l2 hM_h) ?_; intro u15 y_u15 e_u15
    refine sm_le e_u15 e_l3 ?_ ?_
    · exact sj_X12_compile_161 nn hk_kk_93 e_l2 hM_h _ _
    · refine sm_gr hM_h (d := 2) rfl ?_
      refine sm_gi hM_h rfl ?_; intro v17 e_v17
      refine sm_ne e_v17 rfl ?_ ?_
      · exact sj_X12_compile_161 nn hk_kk_93 e_l2 hM_h _ _
      · refine sm_gr hM_h (d := 33) rfl ?_
        refine sm_is hM_h rfl ?_
        refine sm_cV (sf_X0_makeMethod nn e_l2 e_l3 hM_h) ?_; intro u20 hM_u20
        refine sm_oq_add e_l3 rfl ?_; intro v21 y_v21 e_v21
        exact ih e_l2 e_v21 hM_u20 _ _
set_option maxRecDepth 4000 in
theorem sw_X12_compile_93 (nn : Nat) : ∀ (k : Nat) {l2 : Int32} {y_l2 : Int} (e_l2 : l2.toInt = y_l2) {h : ms_M} (hM_h : Rg_M h) (c : Nat) (s : Nat), Sm_ RD_ (w_X12_compile_93 nn k 0 l2 (H_M h) c s) (qw_X12_compile_93 nn k y_l2 h c s) := by
  intro k
  induction k with
  | zero => intros; exact sm_no
  | succ k ih =>
    intro l2 y_l2 e_l2 h hM_h c s
    unfold w_X12_compile_93 qw_X12_compile_93
    refine sm_gr hM_h (d := 11) rfl ?_
    refine sm_gi hM_h rfl ?_; intro v25 e_v25
    refine sm_le e_v25 e_l2 ?_ ?_
    · exact sj_X12_compile_175 nn hM_h _ _
    · refine sm_gr hM_h (d := 2) rfl ?_
      refine sm_gi hM_h rfl ?_; intro v27 e_v27
      refine sm_ne e_v27 rfl ?_ ?_
      · exact sj_X12_compile_175 nn hM_h _ _
      · refine sm_gr hM_h (d := 33) rfl ?_
        refine sm_is hM_h rfl ?_
        refine sm_cV (sf_X0_beginClass nn e_l2 hM_h) ?_; intro u30 hM_u30
        exact sw_X12_compile_124 nn ih nn e_l2 rfl hM_u30 _ _
set_option maxRecDepth 4000 in
theorem sf_X12_compile (nn : Nat) {h : ms_M} (hM_h : Rg_M h) : Sm_ RD_ (f_X12_compile nn 0 (H_M h)) (qf_X12_compile nn h) := by
  unfold f_X12_compile qf_X12_compile
  refine sm_gi hM_h rfl ?_; intro v33 e_v33
  refine sm_pv hM_h rfl rfl ?_; intro h34 hM_h34
  refine sm_le e_v33 rfl ?_ ?_
  · refine sm_gr hM_h34 (d := 2) rfl ?_
    refine sm_gr hM_h34 (d := 1) rfl ?_
    refine sm_is hM_h34 rfl ?_
    refine sm_cV (sf_X9_scan nn e_v33 hM_h34) ?_; intro u38 hM_u38
    refine sm_gr hM_u38 (d := 11) rfl ?_
    refine sm_is hM_u38 rfl ?_
    refine sm_cV (sf_X2_forget nn hM_u38) ?_; intro u41 hM_u41
    refine sm_gr hM_u41 (d := 32) rfl ?_
    refine sm_is hM_u41 rfl ?_
    refine sm_cV (sf_X8_readProgram nn hM_u41) ?_; intro u44 hM_u44
    refine sm_gr hM_u44 (d := 11) rfl ?_
    refine sm_is hM_u44 rfl ?_
    refine sm_cV (sf_X2_readClasses nn hM_u44) ?_; intro u47 hM_u47
    refine sm_gr hM_u47 (d := 11) rfl ?_
    refine sm_is hM_u47 rfl ?_
    refine sm_cV (sf_X2_readMembers nn hM_u47) ?_; intro u50 hM_u50
    refine sm_gr hM_u50 (d := 11) rfl ?_
    refine sm_is hM_u50 rfl ?_
    refine sm_cV (sf_X2_checkOverrides nn hM_u50) ?_; intro u53 hM_u53
    refine sm_gr hM_u53 (d := 11) rfl ?_
    refine sm_is hM_u53 rfl ?_
    refine sm_cV (sf_X2_nameKinds nn hM_u53) ?_; intro u56 hM_u56
    refine sm_gr hM_u56 (d := 33) rfl ?_
    refine sm_is hM_u56 rfl ?_
    refine sm_cV (sf_X0_beginProgram nn hM_u56) ?_; intro u59 hM_u59
    exact sw_X12_compile_93 nn nn rfl hM_u59 _ _
  · refine sm_gr hM_h34 (d := 2) rfl ?_
    refine sm_is hM_h34 rfl ?_
    refine sm_cV (sf_X9_refuse nn rfl rfl hM_h34) ?_; intro u62 hM_u62
    exact sm_rD rfl hM_u62
set_option maxRecDepth 4000 in
theorem sf_X12_end (nn : Nat) {a1 : Int32} {y_a1 : Int} (e_a1 : a1.toInt = y_a1) {h : ms_M} (hM_h : Rg_M h) : Sm_ RI_ (f_X12_end nn 0 a1 (H_M h)) (qf_X12_end nn y_a1 h) := by
  unfold f_X12_end qf_X12_end
  refine sm_lt e_a1 rfl ?_ ?_
  · exact sm_rI rfl hM_h
  · refine sm_gi hM_h rfl ?_; intro v1 e_v1
    refine sm_le e_a1 e_v1 ?_ ?_
    · refine sm_pv hM_h rfl e_a1 ?_; intro h2 hM_h2
      exact sm_rI rfl hM_h2
    · exact sm_rI rfl hM_h
set_option maxRecDepth 4000 in
theorem sf_X12_fault (nn : Nat) {a1 : Int32} {y_a1 : Int} (e_a1 : a1.toInt = y_a1) {h : ms_M} (hM_h : Rg_M h) : Sm_ (RP_ h) (f_X12_fault nn 0 a1 (H_M h)) (qf_X12_fault nn y_a1 h) := by
  unfold f_X12_fault qf_X12_fault
  refine sm_ne e_a1 rfl ?_ ?_
  · refine sm_ne e_a1 rfl ?_ ?_
    · exact sm_rP rfl
    · refine sm_gr hM_h (d := 2) rfl ?_
      refine sm_gi hM_h rfl ?_; intro v2 e_v2
      refine sm_eq e_v2 rfl ?_ ?_
      · exact sm_rP rfl
      · refine sm_gr hM_h (d := 2) rfl ?_
        refine sm_gi hM_h rfl ?_; intro v4 e_v4
        exact sm_rP e_v4
  · refine sm_gr hM_h (d := 2) rfl ?_
    refine sm_gi hM_h rfl ?_; intro v8 e_v8
    exact sm_rP e_v8
set_option maxRecDepth 4000 in
theorem sw_X12_putNumber_3 (nn : Nat) : ∀ (k : Nat) {l1 : Int32} {y_l1 : Int} (e_l1 : l1.toInt = y_l1) {l2 : Int32} {y_l2 : Int} (e_l2 : l2.toInt = y_l2) {h : ms_M} (hM_h : Rg_M h), Sm_ RV_ (w_X12_putNumber_3 nn k 0 l1 l2 (H_M h)) (qw_X12_putNumber_3 nn k y_l1 y_l2 h) := by
  intro k
  induction k with
  | zero => intros; exact sm_no
  | succ k ih =>
    intro l1 y_l1 e_l1 l2 y_l2 e_l2 h hM_h
    unfold w_X12_putNumber_3 qw_X12_putNumber_3
    refine sm_lt e_l2 rfl ?_ ?_
    · exact sm_rV hM_h
    · refine sm_gi hM_h rfl ?_; intro v1 e_v1
      refine sm_gr hM_h (d := 1) rfl ?_
      refine sm_ln hM_h (z := 6000) rfl ?_; intro v3 e_v3
      refine sm_le e_v3 e_v1 ?_ ?_
      · refine sm_oq_add e_l2 rfl ?_; intro v4 y_v4 e_v4
        exact ih e_l1 e_v4 hM_h
      · refine sm_gr hM_h (d := 1) rfl ?_
        refine sm_gi hM_h rfl ?_; intro v6 e_v6
        refine sm_oq_shr e_l1 e_l2 ?_; intro v7 y_v7 e_v7
        refine sm_oq_b e_v7 ?_; intro v8 y_v8 e_v8
        refine sm_sb hM_h rfl e_v6 e_v8 ?_; intro h9 hM_h9
        refine sm_gi hM_h9 rfl ?_; intro v10 e_v10
        refine sm_oq_add e_v10 rfl ?_; intro v11 y_v11 e_v11
        refine sm_pv hM_h9 rfl e_v11 ?_; intro h12 hM_h12
        refine sm_oq_add e_l2 rfl ?_; intro v13 y_v13 e_v13
        exact ih e_l1 e_v13 hM_h12
set_option maxRecDepth 4000 in
theorem sf_X12_putNumber (nn : Nat) {a1 : Int32} {y_a1 : Int} (e_a1 : a1.toInt = y_a1) {h : ms_M} (hM_h : Rg_M h) : Sm_ RV_ (f_X12_putNumber nn 0 a1 (H_M h)) (qf_X12_putNumber nn y_a1 h) := by
  unfold f_X12_putNumber qf_X12_putNumber
  exact sw_X12_putNumber_3 nn nn e_a1 rfl hM_h
set_option maxRecDepth 4000 in
theorem sf_X12_feed (nn : Nat) {a1 : Int32} {y_a1 : Int} (e_a1 : a1.toInt = y_a1) {a2 : Int32} {y_a2 : Int} (e_a2 : a2.toInt = y_a2) {a3 : Int32} {y_a3 : Int} (e_a3 : a3.toInt = y_a3) {a4 : Int32} {y_a4 : Int} (e_a4 : a4.toInt = y_a4) {a5 : Int32} {y_a5 : Int} (e_a5 : a5.toInt = y_a5) {h : ms_M} (hM_h : Rg_M h) : Sm_ RI_ (f_X12_feed nn 0 a1 a2 a3 a4 a5 (H_M h)) (qf_X12_feed nn y_a1 y_a2 y_a3 y_a4 y_a5 h) := by
  unfold f_X12_feed qf_X12_feed
  refine sm_gi hM_h rfl ?_; intro v1 e_v1
  refine sm_oq_add e_v1 rfl ?_; intro v2 y_v2 e_v2
  refine sm_le e_v2 rfl ?_ ?_
  · refine sm_is hM_h rfl ?_
    refine sm_cV (sf_X12_putNumber nn e_a1 hM_h) ?_; intro u4 hM_u4
    refine sm_is hM_u4 rfl ?_
    refine sm_cV (sf_X12_putNumber nn e_a2 hM_u4) ?_; intro u6 hM_u6
    refine sm_is hM_u6 rfl ?_
    refine sm_cV (sf_X12_putNumber nn e_a3 hM_u6) ?_; intro u8 hM_u8
    refine sm_is hM_u8 rfl ?_
    refine sm_cV (sf_X12_putNumber nn e_a4 hM_u8) ?_; intro u10 hM_u10
    refine sm_is hM_u10 rfl ?_
    refine sm_cV (sf_X12_putNumber nn e_a5 hM_u10) ?_; intro u12 hM_u12
    refine sm_gi hM_u12 rfl ?_; intro v13 e_v13
    exact sm_rI e_v13 hM_u12
  · exact sm_rI rfl hM_h
set_option maxRecDepth 4000 in
theorem sf_X12_imageOf (nn : Nat) {a1 : Int32} {y_a1 : Int} (e_a1 : a1.toInt = y_a1) {h : ms_M} (hM_h : Rg_M h) : Sm_ (RQ_ h) (f_X12_imageOf nn 0 a1 (H_M h)) (qf_X12_imageOf nn y_a1 h) := by
  unfold f_X12_imageOf qf_X12_imageOf
  refine sm_lt e_a1 rfl ?_ ?_
  · exact sm_rQn
  · refine sm_gi hM_h rfl ?_; intro v1 e_v1
    refine sm_le e_v1 e_a1 ?_ ?_
    · exact sm_rQn
    · refine sm_gr hM_h (d := 55) rfl ?_
      refine sm_ln hM_h (z := 8) rfl ?_; intro v3 e_v3
      refine sm_le e_v3 e_a1 ?_ ?_
      · exact sm_rQn
      · refine sm_gr hM_h (d := 55) rfl ?_
        refine sm_aq hM_h rfl e_a1 ?_; intro y_v5
        exact sm_rQo
set_option maxRecDepth 4000 in
theorem sf_X12_image (nn : Nat) {a1 : Int32} {y_a1 : Int} (e_a1 : a1.toInt = y_a1) {a2 : Int32} {y_a2 : Int} (e_a2 : a2.toInt = y_a2) {h : ms_M} (hM_h : Rg_M h) : Sm_ (RP_ h) (f_X12_image nn 0 a1 a2 (H_M h)) (qf_X12_image nn y_a1 y_a2 h) := by
  unfold f_X12_image qf_X12_image
  refine sm_is hM_h rfl ?_
  refine sm_cQ (sf_X12_imageOf nn e_a1 hM_h) ?_; intro y_u2
  refine sm_oc ?_ ?_
  · exact sm_rP rfl
  · refine sm_ne e_a2 rfl ?_ ?_
    · refine sm_lt e_a2 rfl ?_ ?_
      · exact sm_rP rfl
      · refine sm_lnS hM_h ?_; intro v5 y_v5 e_v5
        refine sm_le e_v5 e_a2 ?_ ?_
        · exact sm_rP rfl
        · refine sm_abS hM_h e_a2 ?_; intro v6 y_v6 e_v6
          refine sm_oq_and e_v6 rfl ?_; intro v7 y_v7 e_v7
          exact sm_rP e_v7
    · refine sm_lnS hM_h ?_; intro v10 y_v10 e_v10
      exact sm_rP e_v10
set_option maxRecDepth 4000 in
theorem sf_J7_copyOf_9075b (nn : Nat) (a0 : Nat) {a1 : Int32} {y_a1 : Int} (e_a1 : a1.toInt = y_a1) {h : ms_M} (hM_h : Rg_M h) : Sm_ RE_ (f_J7_copyOf_9075b nn a0 a1 (H_M h)) (qf_J7_copyOf_9075b nn a0 y_a1 h) := by
  unfold qf_J7_copyOf_9075b
  split
  · rename_i hc
    obtain ⟨⟨h1, h2⟩, ⟨h30, h3⟩, h4, h5⟩ := hc
    have hn := cn_hi hM_h
    have hr := ln_rg hM_h a0
    have hb : ∀ k : Nat, (k : Int) < ln_I h a0 → -128 ≤ h a0 k ∧ h a0 k ≤ 127 := fun k hk => hM_h.2.2.1 a0 k (by omega) h2 hk
    have hx : xln (H_M h) a0 = some (Int32.ofNat (ln_I h a0).toNat) := by
      unfold xln mx_av
      rw [gH_ h1, cl_1 h2]
    have hv : (Int32.ofNat (ln_I h a0).toNat).toInt = ln_I h a0 := by rw [i_nat (by omega)]; omega
    unfold f_J7_copyOf_9075b
    rw [hx, mx_svs]
    by_cases hq : y_a1 = ln_I h a0
    · rw [if_neg (fun z => z (Int32.toInt_inj.mp (by rw [e_a1, hv]; exact hq)))]
      obtain ⟨g1, g2, g3⟩ := H_nw hM_h h3 (y := y_a1) ⟨h4, by omega⟩ (f := h a0) (fun k hk => hb k (by omega)) (fun k => hM_h.2.1 a0 k (by rw [h2]; decide))
      have hf : (fun i : Nat => if y_a1 = ln_I h a0 ∨ (i : Int) < y_a1 ∧ (i : Int) < ln_I h a0 then h a0 i else 0) = h a0 := by
        funext i; rw [if_pos (.inl hq)]
      have hcn : xcn (H_M h) a0 = some (cn_M h, H_M (nw_M h y_a1 (h a0)), (ln_I h a0).toNat) := by
        unfold xcn mx_ai
        rw [gH_ h1, cl_1 h2]
        have hall : (List.range (ln_I h a0).toNat).all (fun j => fits .byte (.int (Int32.ofInt (h a0 j)))) = true := by
          rw [List.all_eq_true]
          intro i hi
          have r1 := hb i (by have := List.mem_range.mp hi; omega)
          have r2 := to_of (y := h a0 i) (by omega)
          show (decide (-128 ≤ Int32.ofInt (h a0 i)) && decide (Int32.ofInt (h a0 i) ≤ 127)) = true
          rw [Bool.and_eq_true, decide_eq_true_eq, decide_eq_true_eq, Int32.le_iff_toInt_le, Int32.le_iff_toInt_le, r2]
          exact r1
        simp only [hall, true_and, and_self, g3, show cn_M h < 1000000000 by omega, if_true]
        rw [← g1, hq]
      rw [hcn, mx_svs]
      have hav : mx_av (H_M (nw_M h y_a1 (h a0))) (cn_M h) (fun ty _ => if ty = .byte then some () else none) = some () := by
        unfold mx_av
        rw [← g1, List.getElem?_append_right (by omega), g3, Nat.sub_self]
        rfl
      rw [hf]
      show Sm_ RE_ (mx_sv (mx_av (H_M (nw_M h y_a1 (h a0))) (cn_M h) (fun ty _ => if ty = .byte then some () else none)) _) _
      rw [hav, mx_svs, ← hq]
      exact sm_rEs g2
    · rw [if_pos (fun z => hq (by rw [← e_a1, z, hv]))]
      have hcn : (cn_M h : Int) = h 900000 0 := by have := hM_h.1.1; unfold cn_M; omega
      have hc1 : cn_M (nw_M h y_a1 (fun _ => 0)) = cn_M h + 1 := by
        have : nw_M h y_a1 (fun _ => 0) 900000 0 = h 900000 0 + 1 := by
          unfold nw_M; rw [if_neg (by omega), if_pos ⟨rfl, rfl⟩]
        show (nw_M h y_a1 (fun _ => 0) 900000 0).toNat = _
        rw [this]; omega
      have hl1 : ln_I (nw_M h y_a1 (fun _ => 0)) a0 = ln_I h a0 := by
        unfold ln_I nw_M
        by_cases h6 : a0 < 256
        · rw [if_pos h6, if_pos h6]
        · rw [if_neg h6, if_neg h6, if_neg (by omega), if_neg (by omega), if_neg (by omega)]
      have hbig : 256 ≤ cn_M h := by have := hM_h.1.1; omega
      have hl2 : ln_I (nw_M h y_a1 (fun _ => 0)) (cn_M h) = y_a1 := by
        unfold ln_I; rw [if_neg (by omega)]
        unfold nw_M
        rw [if_neg (by omega), if_neg (by omega), if_pos ⟨rfl, rfl⟩]
      have hg : (ck_B (0 ≤ y_a1 ∧ y_a1 ≤ 536870912) <| nw_B y_a1 h fun b h3 => ln_S a0 h3 fun v4 => xl (if y_a1 < v4 then y_a1 else v4) fun v5 => cp_S a0 0 b 0 v5 h3 fun h6 => some ((b : Int), h6, 0 + 1, 0 + y_a1.toNat)) = some ((cn_M h : Int), nw_M h y_a1 (fun i => if y_a1 = ln_I h a0 ∨ (i : Int) < y_a1 ∧ (i : Int) < ln_I h a0 then h a0 i else 0), 0 + 1, 0 + y_a1.toNat) := by
        unfold ck_B nw_B ln_S xl cp_S
        rw [if_pos ⟨h4, h5⟩, if_pos ⟨⟨h30, h3⟩, h4, by omega⟩]
        try dsimp only
        rw [if_pos ⟨by rw [hc1]; omega, by omega⟩]
        try dsimp only
        rw [hl1, hl2, hc1]
        rw [if_pos (by
          refine ⟨⟨by omega, by omega, by rw [h2, ly_Tbig hbig], by omega⟩, by omega, by omega, ?_⟩
          split <;> omega)]
        congr 3
        funext c k
        have n1 : ∀ (f : Nat → Int) (q : Nat), nw_M h y_a1 f (cn_M h) q = f q := fun f q => by unfold nw_M; rw [if_pos rfl]
        have n2 : ∀ (q : Nat), nw_M h y_a1 (fun _ => 0) a0 q = h a0 q := fun q => by unfold nw_M; rw [if_neg (by omega), if_neg (by omega), if_neg (by omega)]
        have n3 : ∀ (f : Nat → Int) (q : Nat), c ≠ cn_M h → nw_M h y_a1 f c q = nw_M h y_a1 (fun _ => 0) c q := fun f q hne => by unfold nw_M; rw [if_neg hne, if_neg hne]
        unfold cp_M
        by_cases hc : c = cn_M h
        · rw [hc, n1, n1, n2]
          by_cases hk : (k : Int) < y_a1 ∧ (k : Int) < ln_I h a0
          · rw [if_pos ⟨rfl, Nat.zero_le _, by split <;> omega⟩, if_pos (.inr hk)]
            congr 1
            show 0 + (k - 0) = k
            omega
          · rw [if_neg (fun z => hk (by have z3 := z.2.2; split at z3 <;> omega))]
            rw [if_neg (fun z => z.elim hq hk)]
        · rw [if_neg (fun z => hc z.1)]; exact (n3 _ _ hc).symm
      rw [← hg]
      subst e_a1
      refine sm_nq rfl ?_
      refine sm_nw hM_h rfl ?_; intro b h3 hM3
      refine sm_lnS hM3 ?_; intro v4 y4 e4
      refine sm_ite rfl e4 rfl e4 ?_; intro v5 y5 e5
      refine sm_cp hM3 rfl rfl e5 ?_; intro h6 hM6
      exact sm_rEs hM6
  · exact sm_no

set_option maxRecDepth 4000 in
theorem sf_X3_keepOwn (nn : Nat) (a0 : Nat) (hb_a0 : kc_O a0 = 3) {h : ms_M} (hM_h : Rg_M h) : Sm_ RC_ (f_X3_keepOwn nn a0 (H_M h)) (qf_X3_keepOwn nn a0 h) := by
  unfold f_X3_keepOwn qf_X3_keepOwn
  refine sm_gmI hM_h hb_a0 rfl ?_
  refine sm_giI hM_h hb_a0 rfl ?_; intro v2 e_v2
  refine sm_cE (sf_J7_copyOf_9075b nn _ e_v2 hM_h) ?_; intro y_u3 M_u3 c_u3 s_u3 hM_u3
  refine sm_poI hM_u3 hb_a0 rfl ?_; intro h4 hM_h4
  exact sm_rC hM_h4
set_option maxRecDepth 4000 in
theorem sf_X3_bad (nn : Nat) (a0 : Nat) (hb_a0 : kc_O a0 = 3) {a1 : Int32} {y_a1 : Int} (e_a1 : a1.toInt = y_a1) {h : ms_M} (hM_h : Rg_M h) : Sm_ RV_ (f_X3_bad nn a0 a1 (H_M h)) (qf_X3_bad nn a0 y_a1 h) := by
  unfold f_X3_bad qf_X3_bad
  refine sm_giI hM_h hb_a0 rfl ?_; intro v1 e_v1
  refine sm_ne e_v1 rfl ?_ ?_
  · exact sm_rV hM_h
  · refine sm_pvI hM_h hb_a0 rfl e_a1 ?_; intro h2 hM_h2
    exact sm_rV hM_h2
set_option maxRecDepth 4000 in
theorem sf_X3_byteAt (nn : Nat) (a0 : Nat) (hb_a0 : kc_O a0 = 3) {a1 : Int32} {y_a1 : Int} (e_a1 : a1.toInt = y_a1) {h : ms_M} (hM_h : Rg_M h) : Sm_ (RP_ h) (f_X3_byteAt nn a0 a1 (H_M h)) (qf_X3_byteAt nn a0 y_a1 h) := by
  unfold f_X3_byteAt qf_X3_byteAt
  refine sm_lt e_a1 rfl ?_ ?_
  · exact sm_rP rfl
  · refine sm_giI hM_h hb_a0 rfl ?_; intro v1 e_v1
    refine sm_le e_v1 e_a1 ?_ ?_
    · exact sm_rP rfl
    · refine sm_gmI hM_h hb_a0 rfl ?_
      refine sm_abS hM_h e_a1 ?_; intro v3 y_v3 e_v3
      refine sm_oq_and e_v3 rfl ?_; intro v4 y_v4 e_v4
      exact sm_rP e_v4
set_option maxRecDepth 4000 in
theorem sf_X3_tagOf (nn : Nat) (a0 : Nat) (hb_a0 : kc_O a0 = 3) {a1 : Int32} {y_a1 : Int} (e_a1 : a1.toInt = y_a1) {h : ms_M} (hM_h : Rg_M h) : Sm_ (RP_ h) (f_X3_tagOf nn a0 a1 (H_M h)) (qf_X3_tagOf nn a0 y_a1 h) := by
  unfold f_X3_tagOf qf_X3_tagOf
  refine sm_lt e_a1 rfl ?_ ?_
  · exact sm_rP rfl
  · refine sm_giI hM_h hb_a0 rfl ?_; intro v1 e_v1
    refine sm_lt e_v1 e_a1 ?_ ?_
    · exact sm_rP rfl
    · refine sm_grI hM_h hb_a0 (off := 2) rfl ?_
      refine sm_lnI hM_h hb_a0 (z := 256) rfl ?_; intro v3 e_v3
      refine sm_le e_v3 e_a1 ?_ ?_
      · exact sm_rP rfl
      · refine sm_grI hM_h hb_a0 (off := 2) rfl ?_
        refine sm_aiI hM_h hb_a0 rfl e_a1 ?_; intro v5 y_v5 e_v5
        exact sm_rP e_v5
set_option maxRecDepth 4000 in
theorem sf_X3_isArrayText (nn : Nat) (a0 : Nat) (hb_a0 : kc_O a0 = 3) {a1 : Int32} {y_a1 : Int} (e_a1 : a1.toInt = y_a1) {h : ms_M} (hM_h : Rg_M h) : Sm_ (RP_ h) (f_X3_isArrayText nn a0 a1 (H_M h)) (qf_X3_isArrayText nn a0 y_a1 h) := by
  unfold f_X3_isArrayText qf_X3_isArrayText
  refine sm_isK hM_h hb_a0 ?_
  refine sm_cP (sf_X3_tagOf nn _ hb_a0 e_a1 hM_h) ?_; intro u2 y_u2 e_u2
  refine sm_ne e_u2 rfl ?_ ?_
  · exact sm_rP rfl
  · refine sm_grI hM_h hb_a0 (off := 3) rfl ?_
    refine sm_aiI hM_h hb_a0 rfl e_a1 ?_; intro v4 y_v4 e_v4
    refine sm_isK hM_h hb_a0 ?_
    refine sm_cP (sf_X3_byteAt nn _ hb_a0 e_v4 hM_h) ?_; intro u6 y_u6 e_u6
    refine sm_ne e_u6 rfl ?_ ?_
    · exact sm_rP rfl
    · exact sm_rP rfl
set_option maxRecDepth 4000 in
theorem sf_X3_next (nn : Nat) (a0 : Nat) (hb_a0 : kc_O a0 = 3) {h : ms_M} (hM_h : Rg_M h) : Sm_ RI_ (f_X3_next nn a0 (H_M h)) (qf_X3_next nn a0 h) := by
  unfold f_X3_next qf_X3_next
  refine sm_giI hM_h hb_a0 rfl ?_; intro v1 e_v1
  refine sm_giI hM_h hb_a0 rfl ?_; intro v2 e_v2
  refine sm_lt e_v1 e_v2 ?_ ?_
  · refine sm_giI hM_h hb_a0 rfl ?_; intro v3 e_v3
    refine sm_oq_add e_v3 rfl ?_; intro v4 y_v4 e_v4
    refine sm_pvI hM_h hb_a0 rfl e_v4 ?_; intro h5 hM_h5
    refine sm_gmI hM_h5 hb_a0 rfl ?_
    refine sm_giI hM_h5 hb_a0 rfl ?_; intro v7 e_v7
    refine sm_oq_sub e_v7 rfl ?_; intro v8 y_v8 e_v8
    refine sm_abS hM_h5 e_v8 ?_; intro v9 y_v9 e_v9
    refine sm_oq_and e_v9 rfl ?_; intro v10 y_v10 e_v10
    exact sm_rI e_v10 hM_h5
  · refine sm_giI hM_h hb_a0 rfl ?_; intro v11 e_v11
    refine sm_ne e_v11 rfl ?_ ?_
    · refine sm_giI hM_h hb_a0 rfl ?_; intro v12 e_v12
      refine sm_pvI hM_h hb_a0 rfl e_v12 ?_; intro h13 hM_h13
      exact sm_rI rfl hM_h13
    · refine sm_giI hM_h hb_a0 rfl ?_; intro v14 e_v14
      refine sm_pvI hM_h hb_a0 rfl e_v14 ?_; intro h15 hM_h15
      exact sm_rI rfl hM_h15
set_option maxRecDepth 4000 in
theorem sf_X3_partOf (nn : Nat) (a0 : Nat) (hb_a0 : kc_O a0 = 3) {a1 : Int32} {y_a1 : Int} (e_a1 : a1.toInt = y_a1) {a2 : Int32} {y_a2 : Int} (e_a2 : a2.toInt = y_a2) {h : ms_M} (hM_h : Rg_M h) : Sm_ (RP_ h) (f_X3_partOf nn a0 a1 a2 (H_M h)) (qf_X3_partOf nn a0 y_a1 y_a2 h) := by
  unfold f_X3_partOf qf_X3_partOf
  refine sm_lt e_a1 rfl ?_ ?_
  · exact sm_rP rfl
  · refine sm_giI hM_h hb_a0 rfl ?_; intro v1 e_v1
    refine sm_lt e_v1 e_a1 ?_ ?_
    · exact sm_rP rfl
    · refine sm_grI hM_h hb_a0 (off := 3) rfl ?_
      refine sm_lnI hM_h hb_a0 (z := 256) rfl ?_; intro v3 e_v3
      refine sm_le e_v3 e_a1 ?_ ?_
      · exact sm_rP rfl
      · refine sm_grI hM_h hb_a0 (off := 3) rfl ?_
        refine sm_aiI hM_h hb_a0 rfl e_a1 ?_; intro v5 y_v5 e_v5
        refine sm_oq_add e_v5 e_a2 ?_; intro v6 y_v6 e_v6
        refine sm_isK hM_h hb_a0 ?_
        refine sm_cP (sf_X3_byteAt nn _ hb_a0 e_v6 hM_h) ?_; intro u8 y_u8 e_u8
        exact sm_rP e_u8
set_option maxRecDepth 4000 in
theorem sj_X3_nextPlainClass_29 (nn : Nat) (l0 : Nat) (hb_l0 : kc_O l0 = 3) {l2 : Int32} {y_l2 : Int} (e_l2 : l2.toInt = y_l2) {h : ms_M} (hM_h : Rg_M h) : Sm_ RI_ (j_X3_nextPlainClass_29 nn l0 l2 (H_M h)) (qj_X3_nextPlainClass_29 nn l0 y_l2 h) := by
  unfold j_X3_nextPlainClass_29 qj_X3_nextPlainClass_29
  refine sm_giI hM_h hb_l0 rfl ?_; intro v1 e_v1
  refine sm_oq_sub e_v1 rfl ?_; intro v2 y_v2 e_v2
  refine sm_isK hM_h hb_l0 ?_
  refine sm_cV (sf_X3_bad nn _ hb_l0 e_v2 hM_h) ?_; intro u4 hM_u4
  exact sm_rI e_l2 hM_u4
set_option maxRecDepth 4000 in
theorem sf_X3_nextPlainClass (nn : Nat) (a0 : Nat) (hb_a0 : kc_O a0 = 3) {h : ms_M} (hM_h : Rg_M h) : Sm_ RI_ (f_X3_nextPlainClass nn a0 (H_M h)) (qf_X3_nextPlainClass nn a0 h) := by
  unfold f_X3_nextPlainClass qf_X3_nextPlainClass
  refine sm_isK hM_h hb_a0 ?_
  refine sm_cI (sf_X3_next nn _ hb_a0 hM_h) ?_; intro u6 y_u6 M_u6 e_u6 hM_u6
  refine sm_isK hM_u6 hb_a0 ?_
  refine sm_cP (sf_X3_partOf nn _ hb_a0 e_u6 rfl hM_u6) ?_; intro u8 y_u8 e_u8
  refine sm_isK hM_u6 hb_a0 ?_
  refine sm_cP (sf_X3_tagOf nn _ hb_a0 e_u6 hM_u6) ?_; intro u10 y_u10 e_u10
  refine sm_ne e_u10 rfl ?_ ?_
  · exact sj_X3_nextPlainClass_29 nn _ hb_a0 e_u8 hM_u6
  · refine sm_isK hM_u6 hb_a0 ?_
    refine sm_cP (sf_X3_isArrayText nn _ hb_a0 e_u8 hM_u6) ?_; intro u12 y_u12 e_u12
    refine sm_eq e_u12 rfl ?_ ?_
    · exact sm_rI e_u8 hM_u6
    · exact sj_X3_nextPlainClass_29 nn _ hb_a0 e_u8 hM_u6
set_option maxRecDepth 4000 in
theorem sj_X3_nextUpTo_15 (nn : Nat) (l0 : Nat) (hb_l0 : kc_O l0 = 3) {l3 : Int32} {y_l3 : Int} (e_l3 : l3.toInt = y_l3) {h : ms_M} (hM_h : Rg_M h) : Sm_ RI_ (j_X3_nextUpTo_15 nn l0 l3 (H_M h)) (qj_X3_nextUpTo_15 nn l0 y_l3 h) := by
  unfold j_X3_nextUpTo_15 qj_X3_nextUpTo_15
  refine sm_giI hM_h hb_l0 rfl ?_; intro v1 e_v1
  refine sm_oq_sub e_v1 rfl ?_; intro v2 y_v2 e_v2
  refine sm_isK hM_h hb_l0 ?_
  refine sm_cV (sf_X3_bad nn _ hb_l0 e_v2 hM_h) ?_; intro u4 hM_u4
  exact sm_rI e_l3 hM_u4
set_option maxRecDepth 4000 in
theorem sf_X3_nextUpTo (nn : Nat) (a0 : Nat) (hb_a0 : kc_O a0 = 3) {a1 : Int32} {y_a1 : Int} (e_a1 : a1.toInt = y_a1) {a2 : Int32} {y_a2 : Int} (e_a2 : a2.toInt = y_a2) {h : ms_M} (hM_h : Rg_M h) : Sm_ RI_ (f_X3_nextUpTo nn a0 a1 a2 (H_M h)) (qf_X3_nextUpTo nn a0 y_a1 y_a2 h) := by
  unfold f_X3_nextUpTo qf_X3_nextUpTo
  refine sm_isK hM_h hb_a0 ?_
  refine sm_cI (sf_X3_next nn _ hb_a0 hM_h) ?_; intro u6 y_u6 M_u6 e_u6 hM_u6
  refine sm_lt e_u6 e_a1 ?_ ?_
  · exact sj_X3_nextUpTo_15 nn _ hb_a0 e_u6 hM_u6
  · refine sm_le e_u6 e_a2 ?_ ?_
    · exact sm_rI e_u6 hM_u6
    · exact sj_X3_nextUpTo_15 nn _ hb_a0 e_u6 hM_u6
set_option maxRecDepth 4000 in
theorem sj_X9_isName_119 (nn : Nat) {kk_32 : Nat → Int32 → Int32 → Int32 → Int32 → mx_H → Option (Int32 × mx_H)} {qkk_32 : Nat → Int → Int → Int → Int → ms_M → Option Int} (hk_kk_32 : ∀ (l0 : Nat) {l1 : Int32} {y_l1 : Int} (e_l1 : l1.toInt = y_l1) {l2 : Int32} {y_l2 : Int} (e_l2 : l2.toInt = y_l2) {l3 : Int32} {y_l3 : Int} (e_l3 : l3.toInt = y_l3) {l4 : Int32} {y_l4 : Int} (e_l4 : l4.toInt = y_l4) {h : ms_M} (hM_h : Rg_M h), Sm_ (RP_ h) (kk_32 l0 l1 l2 l3 l4 (H_M h)) (qkk_32 l0 y_l1 y_l2 y_l3 y_l4 h)) (l0 : Nat) {l1 : Int32} {y_l1 : Int} (e_l1 : l1.toInt = y_l1) {l2 : Int32} {y_l2 : Int} (e_l2 : l2.toInt = y_l2) {l4 : Int32} {y_l4 : Int} (e_l4 : l4.toInt = y_l4) {h : ms_M} (hM_h : Rg_M h) : Sm_ (RP_ h) (j_X9_isName_119 nn kk_32 l0 l1 l2 l4 (H_M h)) (qj_X9_isName_119 nn qkk_32 l0 y_l1 y_l2 y_l4 h) := by
  unfold j_X9_isName_119 qj_X9_isName_119
  refine sm_oq_add e_l4 rfl ?_; intro v1 y_v1 e_v1
  exact hk_kk_32 _ e_l1 e_l2 rfl e_v1 hM_h
set_option maxRecDepth 4000 in
theorem sj_X9_isName_115 (nn : Nat) {kk_32 : Nat → Int32 → Int32 → Int32 → Int32 → mx_H → Option (Int32 × mx_H)} {qkk_32 : Nat → Int → Int → Int → Int → ms_M → Option Int} (hk_kk_32 : ∀ (l0 : Nat) {l1 : Int32} {y_l1 : Int} (e_l1 : l1.toInt = y_l1) {l2 : Int32} {y_l2 : Int} (e_l2 : l2.toInt = y_l2) {l3 : Int32} {y_l3 : Int} (e_l3 : l3.toInt = y_l3) {l4 : Int32} {y_l4 : Int} (e_l4 : l4.toInt = y_l4) {h : ms_M} (hM_h : Rg_M h), Sm_ (RP_ h) (kk_32 l0 l1 l2 l3 l4 (H_M h)) (qkk_32 l0 y_l1 y_l2 y_l3 y_l4 h)) (l0 : Nat) {l1 : Int32} {y_l1 : Int} (e_l1 : l1.toInt = y_l1) {l2 : Int32} {y_l2 : Int} (e_l2 : l2.toInt = y_l2) {l4 : Int32} {y_l4 : Int} (e_l4 : l4.toInt = y_l4) {h : ms_M} (hM_h : Rg_M h) : Sm_ (RP_ h) (j_X9_isName_115 nn kk_32 l0 l1 l2 l4 (H_M h)) (qj_X9_isName_115 nn qkk_32 l0 y_l1 y_l2 y_l4 h) := by
  unfold j_X9_isName_115 qj_X9_isName_115
  refine sm_oq_add e_l4 rfl ?_; intro v2 y_v2 e_v2
  exact hk_kk_32 _ e_l1 e_l2 rfl e_v2 hM_h
set_option maxRecDepth 4000 in
theorem sj_X9_isName_108 (nn : Nat) {kk_32 : Nat → Int32 → Int32 → Int32 → Int32 → mx_H → Option (Int32 × mx_H)} {qkk_32 : Nat → Int → Int → Int → Int → ms_M → Option Int} (hk_kk_32 : ∀ (l0 : Nat) {l1 : Int32} {y_l1 : Int} (e_l1 : l1.toInt = y_l1) {l2 : Int32} {y_l2 : Int} (e_l2 : l2.toInt = y_l2) {l3 : Int32} {y_l3 : Int} (e_l3 : l3.toInt = y_l3) {l4 : Int32} {y_l4 : Int} (e_l4 : l4.toInt = y_l4) {h : ms_M} (hM_h : Rg_M h), Sm_ (RP_ h) (kk_32 l0 l1 l2 l3 l4 (H_M h)) (qkk_32 l0 y_l1 y_l2 y_l3 y_l4 h)) (l0 : Nat) {l1 : Int32} {y_l1 : Int} (e_l1 : l1.toInt = y_l1) {l2 : Int32} {y_l2 : Int} (e_l2 : l2.toInt = y_l2) {l4 : Int32} {y_l4 : Int} (e_l4 : l4.toInt = y_l4) {l5 : Int32} {y_l5 : Int} (e_l5 : l5.toInt = y_l5) {h : ms_M} (hM_h : Rg_M h) : Sm_ (RP_ h) (j_X9_isName_108 nn kk_32 l0 l1 l2 l4 l5 (H_M h)) (qj_X9_isName_108 nn qkk_32 l0 y_l1 y_l2 y_l4 y_l5 h) := by
  unfold j_X9_isName_108 qj_X9_isName_108
  refine sm_ne e_l5 rfl ?_ ?_
  · exact sj_X9_isName_119 nn hk_kk_32 _ e_l1 e_l2 e_l4 hM_h
  · exact sj_X9_isName_115 nn hk_kk_32 _ e_l1 e_l2 e_l4 hM_h
set_option maxRecDepth 4000 in
theorem sj_X9_isName_81 (nn : Nat) {kk_32 : Nat → Int32 → Int32 → Int32 → Int32 → mx_H → Option (Int32 × mx_H)} {qkk_32 : Nat → Int → Int → Int → Int → ms_M → Option Int} (hk_kk_32 : ∀ (l0 : Nat) {l1 : Int32} {y_l1 : Int} (e_l1 : l1.toInt = y_l1) {l2 : Int32} {y_l2 : Int} (e_l2 : l2.toInt = y_l2) {l3 : Int32} {y_l3 : Int} (e_l3 : l3.toInt = y_l3) {l4 : Int32} {y_l4 : Int} (e_l4 : l4.toInt = y_l4) {h : ms_M} (hM_h : Rg_M h), Sm_ (RP_ h) (kk_32 l0 l1 l2 l3 l4 (H_M h)) (qkk_32 l0 y_l1 y_l2 y_l3 y_l4 h)) (l0 : Nat) {l1 : Int32} {y_l1 : Int} (e_l1 : l1.toInt = y_l1) {l2 : Int32} {y_l2 : Int} (e_l2 : l2.toInt = y_l2) {l4 : Int32} {y_l4 : Int} (e_l4 : l4.toInt = y_l4) {l5 : Int32} {y_l5 : Int} (e_l5 : l5.toInt = y_l5) {s0 : Int32} {y_s0 : Int} (e_s0 : s0.toInt = y_s0) {h : ms_M} (hM_h : Rg_M h) : Sm_ (RP_ h) (j_X9_isName_81 nn kk_32 l0 l1 l2 l4 l5 s0 (H_M h)) (qj_X9_isName_81 nn qkk_32 l0 y_l1 y_l2 y_l4 y_l5 y_s0 h) := by
  unfold j_X9_isName_81 qj_X9_isName_81
  refine sm_ne e_s0 rfl ?_ ?_
  · exact sj_X9_isName_115 nn hk_kk_32 _ e_l1 e_l2 e_l4 hM_h
  · refine sm_le e_l4 e_l1 ?_ ?_
    · exact sj_X9_isName_119 nn hk_kk_32 _ e_l1 e_l2 e_l4 hM_h
    · refine sm_lt e_l5 rfl ?_ ?_
      · exact sj_X9_isName_108 nn hk_kk_32 _ e_l1 e_l2 e_l4 e_l5 hM_h
      · refine sm_le e_l5 rfl ?_ ?_
        · exact sj_X9_isName_115 nn hk_kk_32 _ e_l1 e_l2 e_l4 hM_h
        · exact sj_X9_isName_108 nn hk_kk_32 _ e_l1 e_l2 e_l4 e_l5 hM_h
set_option maxRecDepth 4000 in
theorem sj_X9_isName_80 (nn : Nat) {kk_32 : Nat → Int32 → Int32 → Int32 → Int32 → mx_H → Option (Int32 × mx_H)} {qkk_32 : Nat → Int → Int → Int → Int → ms_M → Option Int} (hk_kk_32 : ∀ (l0 : Nat) {l1 : Int32} {y_l1 : Int} (e_l1 : l1.toInt = y_l1) {l2 : Int32} {y_l2 : Int} (e_l2 : l2.toInt = y_l2) {l3 : Int32} {y_l3 : Int} (e_l3 : l3.toInt = y_l3) {l4 : Int32} {y_l4 : Int} (e_l4 : l4.toInt = y_l4) {h : ms_M} (hM_h : Rg_M h), Sm_ (RP_ h) (kk_32 l0 l1 l2 l3 l4 (H_M h)) (qkk_32 l0 y_l1 y_l2 y_l3 y_l4 h)) (l0 : Nat) {l1 : Int32} {y_l1 : Int} (e_l1 : l1.toInt = y_l1) {l2 : Int32} {y_l2 : Int} (e_l2 : l2.toInt = y_l2) {l4 : Int32} {y_l4 : Int} (e_l4 : l4.toInt = y_l4) {l5 : Int32} {y_l5 : Int} (e_l5 : l5.toInt = y_l5) {h : ms_M} (hM_h : Rg_M h) : Sm_ (RP_ h) (j_X9_isName_80 nn kk_32 l0 l1 l2 l4 l5 (H_M h)) (qj_X9_isName_80 nn qkk_32 l0 y_l1 y_l2 y_l4 y_l5 h) := by
  unfold j_X9_isName_80 qj_X9_isName_80
  exact sj_X9_isName_81 nn hk_kk_32 _ e_l1 e_l2 e_l4 e_l5 rfl hM_h
set_option maxRecDepth 4000 in
theorem sj_X9_isName_76 (nn : Nat) {kk_32 : Nat → Int32 → Int32 → Int32 → Int32 → mx_H → Option (Int32 × mx_H)} {qkk_32 : Nat → Int → Int → Int → Int → ms_M → Option Int} (hk_kk_32 : ∀ (l0 : Nat) {l1 : Int32} {y_l1 : Int} (e_l1 : l1.toInt = y_l1) {l2 : Int32} {y_l2 : Int} (e_l2 : l2.toInt = y_l2) {l3 : Int32} {y_l3 : Int} (e_l3 : l3.toInt = y_l3) {l4 : Int32} {y_l4 : Int} (e_l4 : l4.toInt = y_l4) {h : ms_M} (hM_h : Rg_M h), Sm_ (RP_ h) (kk_32 l0 l1 l2 l3 l4 (H_M h)) (qkk_32 l0 y_l1 y_l2 y_l3 y_l4 h)) (l0 : Nat) {l1 : Int32} {y_l1 : Int} (e_l1 : l1.toInt = y_l1) {l2 : Int32} {y_l2 : Int} (e_l2 : l2.toInt = y_l2) {l4 : Int32} {y_l4 : Int} (e_l4 : l4.toInt = y_l4) {l5 : Int32} {y_l5 : Int} (e_l5 : l5.toInt = y_l5) {h : ms_M} (hM_h : Rg_M h) : Sm_ (RP_ h) (j_X9_isName_76 nn kk_32 l0 l1 l2 l4 l5 (H_M h)) (qj_X9_isName_76 nn qkk_32 l0 y_l1 y_l2 y_l4 y_l5 h) := by
  unfold j_X9_isName_76 qj_X9_isName_76
  exact sj_X9_isName_81 nn hk_kk_32 _ e_l1 e_l2 e_l4 e_l5 rfl hM_h
set_option maxRecDepth 4000 in
theorem sj_X9_isName_62 (nn : Nat) {kk_32 : Nat → Int32 → Int32 → Int32 → Int32 → mx_H → Option (Int32 × mx_H)} {qkk_32 : Nat → Int → Int → Int → Int → ms_M → Option Int} (hk_kk_32 : ∀ (l0 : Nat) {l1 : Int32} {y_l1 : Int} (e_l1 : l1.toInt = y_l1) {l2 : Int32} {y_l2 : Int} (e_l2 : l2.toInt = y_l2) {l3 : Int32} {y_l3 : Int} (e_l3 : l3.toInt = y_l3) {l4 : Int32} {y_l4 : Int} (e_l4 : l4.toInt = y_l4) {h : ms_M} (hM_h : Rg_M h), Sm_ (RP_ h) (kk_32 l0 l1 l2 l3 l4 (H_M h)) (qkk_32 l0 y_l1 y_l2 y_l3 y_l4 h)) (l0 : Nat) {l1 : Int32} {y_l1 : Int} (e_l1 : l1.toInt = y_l1) {l2 : Int32} {y_l2 : Int} (e_l2 : l2.toInt = y_l2) {l4 : Int32} {y_l4 : Int} (e_l4 : l4.toInt = y_l4) {l5 : Int32} {y_l5 : Int} (e_l5 : l5.toInt = y_l5) {h : ms_M} (hM_h : Rg_M h) : Sm_ (RP_ h) (j_X9_isName_62 nn kk_32 l0 l1 l2 l4 l5 (H_M h)) (qj_X9_isName_62 nn qkk_32 l0 y_l1 y_l2 y_l4 y_l5 h) := by
  unfold j_X9_isName_62 qj_X9_isName_62
  refine sm_lt e_l5 rfl ?_ ?_
  · exact sj_X9_isName_80 nn hk_kk_32 _ e_l1 e_l2 e_l4 e_l5 hM_h
  · refine sm_lt rfl e_l5 ?_ ?_
    · exact sj_X9_isName_80 nn hk_kk_32 _ e_l1 e_l2 e_l4 e_l5 hM_h
    · exact sj_X9_isName_76 nn hk_kk_32 _ e_l1 e_l2 e_l4 e_l5 hM_h
set_option maxRecDepth 4000 in
theorem sw_X9_isName_32 (nn : Nat) : ∀ (k : Nat) (l0 : Nat) {l1 : Int32} {y_l1 : Int} (e_l1 : l1.toInt = y_l1) {l2 : Int32} {y_l2 : Int} (e_l2 : l2.toInt = y_l2) {l3 : Int32} {y_l3 : Int} (e_l3 : l3.toInt = y_l3) {l4 : Int32} {y_l4 : Int} (e_l4 : l4.toInt = y_l4) {h : ms_M} (hM_h : Rg_M h), Sm_ (RP_ h) (w_X9_isName_32 nn k l0 l1 l2 l3 l4 (H_M h)) (qw_X9_isName_32 nn k l0 y_l1 y_l2 y_l3 y_l4 h) := by
  intro k
  induction k with
  | zero => intros; exact sm_no
  | succ k ih =>
    intro l0 l1 y_l1 e_l1 l2 y_l2 e_l2 l3 y_l3 e_l3 l4 y_l4 e_l4 h hM_h
    unfold w_X9_isName_32 qw_X9_isName_32
    refine sm_le e_l2 e_l4 ?_ ?_
    · refine sm_bq e_l3 ?_
      exact sm_rP e_l3
    · refine sm_eq e_l3 rfl ?_ ?_
      · refine sm_bq e_l3 ?_
        exact sm_rP e_l3
      · refine sm_abS hM_h e_l4 ?_; intro v12 y_v12 e_v12
        refine sm_lt e_v12 rfl ?_ ?_
        · exact sj_X9_isName_62 nn ih _ e_l1 e_l2 e_l4 e_v12 hM_h
        · refine sm_le e_v12 rfl ?_ ?_
          · exact sj_X9_isName_76 nn ih _ e_l1 e_l2 e_l4 e_v12 hM_h
          · exact sj_X9_isName_62 nn ih _ e_l1 e_l2 e_l4 e_v12 hM_h
set_option maxRecDepth 4000 in
theorem sj_X9_isName_27 (nn : Nat) (l0 : Nat) {l1 : Int32} {y_l1 : Int} (e_l1 : l1.toInt = y_l1) {l2 : Int32} {y_l2 : Int} (e_l2 : l2.toInt = y_l2) {h : ms_M} (hM_h : Rg_M h) : Sm_ (RP_ h) (j_X9_isName_27 nn l0 l1 l2 (H_M h)) (qj_X9_isName_27 nn l0 y_l1 y_l2 h) := by
  unfold j_X9_isName_27 qj_X9_isName_27
  exact sw_X9_isName_32 nn nn _ e_l1 e_l2 rfl e_l1 hM_h
set_option maxRecDepth 4000 in
theorem sf_X9_isName (nn : Nat) (a0 : Nat) {a1 : Int32} {y_a1 : Int} (e_a1 : a1.toInt = y_a1) {a2 : Int32} {y_a2 : Int} (e_a2 : a2.toInt = y_a2) {h : ms_M} (hM_h : Rg_M h) : Sm_ (RP_ h) (f_X9_isName nn a0 a1 a2 (H_M h)) (qf_X9_isName nn a0 y_a1 y_a2 h) := by
  unfold f_X9_isName qf_X9_isName
  refine sm_lt e_a1 rfl ?_ ?_
  · exact sj_X9_isName_27 nn _ e_a1 e_a2 hM_h
  · refine sm_le e_a2 e_a1 ?_ ?_
    · exact sj_X9_isName_27 nn _ e_a1 e_a2 hM_h
    · refine sm_lnS hM_h ?_; intro v17 y_v17 e_v17
      refine sm_lt e_v17 e_a2 ?_ ?_
      · exact sj_X9_isName_27 nn _ e_a1 e_a2 hM_h
      · refine sm_oq_sub e_a2 e_a1 ?_; intro v18 y_v18 e_v18
        refine sm_lt rfl e_v18 ?_ ?_
        · exact sj_X9_isName_27 nn _ e_a1 e_a2 hM_h
        · exact sw_X9_isName_32 nn nn _ e_a1 e_a2 rfl e_a1 hM_h
set_option maxRecDepth 4000 in
theorem sj_X3_behindKind_111 (nn : Nat) (l0 : Nat) (hb_l0 : kc_O l0 = 3) {l2 : Int32} {y_l2 : Int} (e_l2 : l2.toInt = y_l2) {l4 : Int32} {y_l4 : Int} (e_l4 : l4.toInt = y_l4) {l5 : Int32} {y_l5 : Int} (e_l5 : l5.toInt = y_l5) {h : ms_M} (hM_h : Rg_M h) : Sm_ (RP_ h) (j_X3_behindKind_111 nn l0 l2 l4 l5 (H_M h)) (qj_X3_behindKind_111 nn l0 y_l2 y_l4 y_l5 h) := by
  unfold j_X3_behindKind_111 qj_X3_behindKind_111
  refine sm_le e_l2 e_l5 ?_ ?_
  · exact sm_rP rfl
  · refine sm_gmI hM_h hb_l0 rfl ?_
    refine sm_oq_add e_l4 rfl ?_; intro v2 y_v2 e_v2
    refine sm_cP (sf_X9_isName nn _ e_v2 e_l5 hM_h) ?_; intro u3 y_u3 e_u3
    refine sm_eq e_u3 rfl ?_ ?_
    · exact sm_rP rfl
    · refine sm_oq_add e_l5 rfl ?_; intro v4 y_v4 e_v4
      exact sm_rP e_v4
set_option maxRecDepth 4000 in
theorem sw_X3_behindKind_88 (nn : Nat) : ∀ (k : Nat) (l0 : Nat) (hb_l0 : kc_O l0 = 3) {l2 : Int32} {y_l2 : Int} (e_l2 : l2.toInt = y_l2) {l4 : Int32} {y_l4 : Int} (e_l4 : l4.toInt = y_l4) {l5 : Int32} {y_l5 : Int} (e_l5 : l5.toInt = y_l5) {h : ms_M} (hM_h : Rg_M h), Sm_ (RP_ h) (w_X3_behindKind_88 nn k l0 l2 l4 l5 (H_M h)) (qw_X3_behindKind_88 nn k l0 y_l2 y_l4 y_l5 h) := by
  intro k
  induction k with
  | zero => intros; exact sm_no
  | succ k ih =>
    intro l0 hb_l0 l2 y_l2 e_l2 l4 y_l4 e_l4 l5 y_l5 e_l5 h hM_h
    unfold w_X3_behindKind_88 qw_X3_behindKind_88
    refine sm_le e_l2 e_l5 ?_ ?_
    · exact sj_X3_behindKind_111 nn _ hb_l0 e_l2 e_l4 e_l5 hM_h
    · refine sm_isK hM_h hb_l0 ?_
      refine sm_cP (sf_X3_byteAt nn _ hb_l0 e_l5 hM_h) ?_; intro u8 y_u8 e_u8
      refine sm_eq e_u8 rfl ?_ ?_
      · exact sj_X3_behindKind_111 nn _ hb_l0 e_l2 e_l4 e_l5 hM_h
      · refine sm_oq_add e_l5 rfl ?_; intro v9 y_v9 e_v9
        exact ih _ hb_l0 e_l2 e_l4 e_v9 hM_h
set_option maxRecDepth 4000 in
theorem sj_X3_behindKind_62 (nn : Nat) (l0 : Nat) (hb_l0 : kc_O l0 = 3) {l2 : Int32} {y_l2 : Int} (e_l2 : l2.toInt = y_l2) {l4 : Int32} {y_l4 : Int} (e_l4 : l4.toInt = y_l4) {s0 : Int32} {y_s0 : Int} (e_s0 : s0.toInt = y_s0) {h : ms_M} (hM_h : Rg_M h) : Sm_ (RP_ h) (j_X3_behindKind_62 nn l0 l2 l4 s0 (H_M h)) (qj_X3_behindKind_62 nn l0 y_l2 y_l4 y_s0 h) := by
  unfold j_X3_behindKind_62 qj_X3_behindKind_62
  refine sm_ne e_s0 rfl ?_ ?_
  · refine sm_eq e_s0 rfl ?_ ?_
    · refine sm_oq_add e_l4 rfl ?_; intro v12 y_v12 e_v12
      exact sw_X3_behindKind_88 nn nn _ hb_l0 e_l2 e_l4 e_v12 hM_h
    · exact sm_rP rfl
  · refine sm_oq_add e_l4 rfl ?_; intro v14 y_v14 e_v14
    exact sm_rP e_v14
set_option maxRecDepth 4000 in
theorem sj_X3_behindKind_44 (nn : Nat) (l0 : Nat) (hb_l0 : kc_O l0 = 3) {l2 : Int32} {y_l2 : Int} (e_l2 : l2.toInt = y_l2) {s0 : Int32} {y_s0 : Int} (e_s0 : s0.toInt = y_s0) {h : ms_M} (hM_h : Rg_M h) : Sm_ (RP_ h) (j_X3_behindKind_44 nn l0 l2 s0 (H_M h)) (qj_X3_behindKind_44 nn l0 y_l2 y_s0 h) := by
  unfold j_X3_behindKind_44 qj_X3_behindKind_44
  refine sm_le e_l2 e_s0 ?_ ?_
  · exact sj_X3_behindKind_62 nn _ hb_l0 e_l2 e_s0 rfl hM_h
  · refine sm_isK hM_h hb_l0 ?_
    refine sm_cP (sf_X3_byteAt nn _ hb_l0 e_s0 hM_h) ?_; intro u17 y_u17 e_u17
    exact sj_X3_behindKind_62 nn _ hb_l0 e_l2 e_s0 e_u17 hM_h
set_option maxRecDepth 4000 in
theorem sj_X3_behindKind_27 (nn : Nat) {l1 : Int32} {y_l1 : Int} (e_l1 : l1.toInt = y_l1) {h : ms_M} (hM_h : Rg_M h) : Sm_ (RP_ h) (j_X3_behindKind_27 nn l1 (H_M h)) (qj_X3_behindKind_27 nn y_l1 h) := by
  unfold j_X3_behindKind_27 qj_X3_behindKind_27
  refine sm_oq_add e_l1 rfl ?_; intro v19 y_v19 e_v19
  exact sm_rP e_v19
set_option maxRecDepth 4000 in
theorem sj_X3_behindKind_14 (nn : Nat) (l0 : Nat) (hb_l0 : kc_O l0 = 3) {l1 : Int32} {y_l1 : Int} (e_l1 : l1.toInt = y_l1) {l2 : Int32} {y_l2 : Int} (e_l2 : l2.toInt = y_l2) {s0 : Int32} {y_s0 : Int} (e_s0 : s0.toInt = y_s0) {h : ms_M} (hM_h : Rg_M h) : Sm_ (RP_ h) (j_X3_behindKind_14 nn l0 l1 l2 s0 (H_M h)) (qj_X3_behindKind_14 nn l0 y_l1 y_l2 y_s0 h) := by
  unfold j_X3_behindKind_14 qj_X3_behindKind_14
  refine sm_eq e_s0 rfl ?_ ?_
  · exact sj_X3_behindKind_27 nn e_l1 hM_h
  · refine sm_ne e_s0 rfl ?_ ?_
    · refine sm_ne e_s0 rfl ?_ ?_
      · exact sj_X3_behindKind_44 nn _ hb_l0 e_l2 e_l1 hM_h
      · refine sm_oq_add e_l1 rfl ?_; intro v20 y_v20 e_v20
        exact sj_X3_behindKind_44 nn _ hb_l0 e_l2 e_v20 hM_h
    · exact sj_X3_behindKind_27 nn e_l1 hM_h
set_option maxRecDepth 4000 in
theorem sf_X3_behindKind (nn : Nat) (a0 : Nat) (hb_a0 : kc_O a0 = 3) {a1 : Int32} {y_a1 : Int} (e_a1 : a1.toInt = y_a1) {a2 : Int32} {y_a2 : Int} (e_a2 : a2.toInt = y_a2) {h : ms_M} (hM_h : Rg_M h) : Sm_ (RP_ h) (f_X3_behindKind nn a0 a1 a2 (H_M h)) (qf_X3_behindKind nn a0 y_a1 y_a2 h) := by
  unfold f_X3_behindKind qf_X3_behindKind
  refine sm_le e_a2 e_a1 ?_ ?_
  · exact sj_X3_behindKind_14 nn _ hb_a0 e_a1 e_a2 rfl hM_h
  · refine sm_isK hM_h hb_a0 ?_
    refine sm_cP (sf_X3_byteAt nn _ hb_a0 e_a1 hM_h) ?_; intro u25 y_u25 e_u25
    exact sj_X3_behindKind_14 nn _ hb_a0 e_a1 e_a2 e_u25 hM_h
set_option maxRecDepth 4000 in
theorem sf_X3_isFieldKind (nn : Nat) (a0 : Nat) (hb_a0 : kc_O a0 = 3) {a1 : Int32} {y_a1 : Int} (e_a1 : a1.toInt = y_a1) {h : ms_M} (hM_h : Rg_M h) : Sm_ (RP_ h) (f_X3_isFieldKind nn a0 a1 (H_M h)) (qf_X3_isFieldKind nn a0 y_a1 h) := by
  unfold f_X3_isFieldKind qf_X3_isFieldKind
  refine sm_isK hM_h hb_a0 ?_
  refine sm_cP (sf_X3_tagOf nn _ hb_a0 e_a1 hM_h) ?_; intro u2 y_u2 e_u2
  refine sm_ne e_u2 rfl ?_ ?_
  · exact sm_rP rfl
  · refine sm_grI hM_h hb_a0 (off := 3) rfl ?_
    refine sm_aiI hM_h hb_a0 rfl e_a1 ?_; intro v4 y_v4 e_v4
    refine sm_grI hM_h hb_a0 (off := 4) rfl ?_
    refine sm_aiI hM_h hb_a0 rfl e_a1 ?_; intro v6 y_v6 e_v6
    refine sm_isK hM_h hb_a0 ?_
    refine sm_cP (sf_X3_behindKind nn _ hb_a0 e_v4 e_v6 hM_h) ?_; intro u8 y_u8 e_u8
    refine sm_grI hM_h hb_a0 (off := 4) rfl ?_
    refine sm_aiI hM_h hb_a0 rfl e_a1 ?_; intro v10 y_v10 e_v10
    refine sm_ne e_u8 e_v10 ?_ ?_
    · exact sm_rP rfl
    · exact sm_rP rfl
set_option maxRecDepth 4000 in
theorem sf_X3_isNameText (nn : Nat) (a0 : Nat) (hb_a0 : kc_O a0 = 3) {a1 : Int32} {y_a1 : Int} (e_a1 : a1.toInt = y_a1) {h : ms_M} (hM_h : Rg_M h) : Sm_ (RP_ h) (f_X3_isNameText nn a0 a1 (H_M h)) (qf_X3_isNameText nn a0 y_a1 h) := by
  unfold f_X3_isNameText qf_X3_isNameText
  refine sm_isK hM_h hb_a0 ?_
  refine sm_cP (sf_X3_tagOf nn _ hb_a0 e_a1 hM_h) ?_; intro u2 y_u2 e_u2
  refine sm_ne e_u2 rfl ?_ ?_
  · exact sm_rP rfl
  · refine sm_gmI hM_h hb_a0 rfl ?_
    refine sm_grI hM_h hb_a0 (off := 3) rfl ?_
    refine sm_aiI hM_h hb_a0 rfl e_a1 ?_; intro v5 y_v5 e_v5
    refine sm_grI hM_h hb_a0 (off := 4) rfl ?_
    refine sm_aiI hM_h hb_a0 rfl e_a1 ?_; intro v7 y_v7 e_v7
    refine sm_cP (sf_X9_isName nn _ e_v5 e_v7 hM_h) ?_; intro u8 y_u8 e_u8
    refine sm_eq e_u8 rfl ?_ ?_
    · exact sm_rP rfl
    · exact sm_rP rfl
set_option maxRecDepth 4000 in
theorem sj_X3_parametersIn_128 (nn : Nat) (l0 : Nat) (hb_l0 : kc_O l0 = 3) {l2 : Int32} {y_l2 : Int} (e_l2 : l2.toInt = y_l2) {l3 : Int32} {y_l3 : Int} (e_l3 : l3.toInt = y_l3) {l4 : Int32} {y_l4 : Int} (e_l4 : l4.toInt = y_l4) {s0 : Int32} {y_s0 : Int} (e_s0 : s0.toInt = y_s0) {h : ms_M} (hM_h : Rg_M h) : Sm_ (RP_ h) (j_X3_parametersIn_128 nn l0 l2 l3 l4 s0 (H_M h)) (qj_X3_parametersIn_128 nn l0 y_l2 y_l3 y_l4 y_s0 h) := by
  unfold j_X3_parametersIn_128 qj_X3_parametersIn_128
  refine sm_ne e_s0 rfl ?_ ?_
  · exact sm_rP e_l4
  · refine sm_oq_add e_l3 rfl ?_; intro v1 y_v1 e_v1
    refine sm_isK hM_h hb_l0 ?_
    refine sm_cP (sf_X3_behindKind nn _ hb_l0 e_v1 e_l2 hM_h) ?_; intro u3 y_u3 e_u3
    refine sm_ne e_u3 e_l2 ?_ ?_
    · exact sm_rP rfl
    · exact sm_rP e_l4
set_option maxRecDepth 4000 in
theorem sj_X3_parametersIn_127 (nn : Nat) (l0 : Nat) (hb_l0 : kc_O l0 = 3) {l2 : Int32} {y_l2 : Int} (e_l2 : l2.toInt = y_l2) {l3 : Int32} {y_l3 : Int} (e_l3 : l3.toInt = y_l3) {l4 : Int32} {y_l4 : Int} (e_l4 : l4.toInt = y_l4) {h : ms_M} (hM_h : Rg_M h) : Sm_ (RP_ h) (j_X3_parametersIn_127 nn l0 l2 l3 l4 (H_M h)) (qj_X3_parametersIn_127 nn l0 y_l2 y_l3 y_l4 h) := by
  unfold j_X3_parametersIn_127 qj_X3_parametersIn_127
  exact sj_X3_parametersIn_128 nn _ hb_l0 e_l2 e_l3 e_l4 rfl hM_h
set_option maxRecDepth 4000 in
theorem sj_X3_parametersIn_85 (nn : Nat) (l0 : Nat) (hb_l0 : kc_O l0 = 3) {l2 : Int32} {y_l2 : Int} (e_l2 : l2.toInt = y_l2) {l3 : Int32} {y_l3 : Int} (e_l3 : l3.toInt = y_l3) {l4 : Int32} {y_l4 : Int} (e_l4 : l4.toInt = y_l4) {h : ms_M} (hM_h : Rg_M h) : Sm_ (RP_ h) (j_X3_parametersIn_85 nn l0 l2 l3 l4 (H_M h)) (qj_X3_parametersIn_85 nn l0 y_l2 y_l3 y_l4 h) := by
  unfold j_X3_parametersIn_85 qj_X3_parametersIn_85
  refine sm_eq e_l3 rfl ?_ ?_
  · exact sm_rP rfl
  · refine sm_le e_l2 e_l3 ?_ ?_
    · exact sm_rP rfl
    · refine sm_le e_l4 rfl ?_ ?_
      · refine sm_oq_add e_l3 rfl ?_; intro v6 y_v6 e_v6
        refine sm_ne e_v6 e_l2 ?_ ?_
        · exact sj_X3_parametersIn_127 nn _ hb_l0 e_l2 e_l3 e_l4 hM_h
        · refine sm_oq_add e_l3 rfl ?_; intro v7 y_v7 e_v7
          refine sm_isK hM_h hb_l0 ?_
          refine sm_cP (sf_X3_byteAt nn _ hb_l0 e_v7 hM_h) ?_; intro u9 y_u9 e_u9
          refine sm_ne e_u9 rfl ?_ ?_
          · exact sj_X3_parametersIn_127 nn _ hb_l0 e_l2 e_l3 e_l4 hM_h
          · exact sj_X3_parametersIn_128 nn _ hb_l0 e_l2 e_l3 e_l4 rfl hM_h
      · exact sm_rP rfl
set_option maxRecDepth 4000 in
theorem sw_X3_parametersIn_45 (nn : Nat) : ∀ (k : Nat) (l0 : Nat) (hb_l0 : kc_O l0 = 3) {l2 : Int32} {y_l2 : Int} (e_l2 : l2.toInt = y_l2) {l3 : Int32} {y_l3 : Int} (e_l3 : l3.toInt = y_l3) {l4 : Int32} {y_l4 : Int} (e_l4 : l4.toInt = y_l4) {h : ms_M} (hM_h : Rg_M h), Sm_ (RP_ h) (w_X3_parametersIn_45 nn k l0 l2 l3 l4 (H_M h)) (qw_X3_parametersIn_45 nn k l0 y_l2 y_l3 y_l4 h) := by
  intro k
  induction k with
  | zero => intros; exact sm_no
  | succ k ih =>
    intro l0 hb_l0 l2 y_l2 e_l2 l3 y_l3 e_l3 l4 y_l4 e_l4 h hM_h
    unfold w_X3_parametersIn_45 qw_X3_parametersIn_45
    refine sm_lt rfl e_l4 ?_ ?_
    · exact sj_X3_parametersIn_85 nn _ hb_l0 e_l2 e_l3 e_l4 hM_h
    · refine sm_eq e_l3 rfl ?_ ?_
      · exact sj_X3_parametersIn_85 nn _ hb_l0 e_l2 e_l3 e_l4 hM_h
      · refine sm_le e_l2 e_l3 ?_ ?_
        · exact sj_X3_parametersIn_85 nn _ hb_l0 e_l2 e_l3 e_l4 hM_h
        · refine sm_isK hM_h hb_l0 ?_
          refine sm_cP (sf_X3_byteAt nn _ hb_l0 e_l3 hM_h) ?_; intro u16 y_u16 e_u16
          refine sm_eq e_u16 rfl ?_ ?_
          · exact sj_X3_parametersIn_85 nn _ hb_l0 e_l2 e_l3 e_l4 hM_h
          · refine sm_isK hM_h hb_l0 ?_
            refine sm_cP (sf_X3_behindKind nn _ hb_l0 e_l3 e_l2 hM_h) ?_; intro u18 y_u18 e_u18
            refine sm_oq_add e_l4 rfl ?_; intro v19 y_v19 e_v19
            exact ih _ hb_l0 e_l2 e_u18 e_v19 hM_h
set_option maxRecDepth 4000 in
theorem sf_X3_parametersIn (nn : Nat) (a0 : Nat) (hb_a0 : kc_O a0 = 3) {a1 : Int32} {y_a1 : Int} (e_a1 : a1.toInt = y_a1) {h : ms_M} (hM_h : Rg_M h) : Sm_ (RP_ h) (f_X3_parametersIn nn a0 a1 (H_M h)) (qf_X3_parametersIn nn a0 y_a1 h) := by
  unfold f_X3_parametersIn qf_X3_parametersIn
  refine sm_isK hM_h hb_a0 ?_
  refine sm_cP (sf_X3_tagOf nn _ hb_a0 e_a1 hM_h) ?_; intro u25 y_u25 e_u25
  refine sm_ne e_u25 rfl ?_ ?_
  · exact sm_rP rfl
  · refine sm_grI hM_h hb_a0 (off := 3) rfl ?_
    refine sm_aiI hM_h hb_a0 rfl e_a1 ?_; intro v27 y_v27 e_v27
    refine sm_isK hM_h hb_a0 ?_
    refine sm_cP (sf_X3_byteAt nn _ hb_a0 e_v27 hM_h) ?_; intro u29 y_u29 e_u29
    refine sm_eq e_u29 rfl ?_ ?_
    · refine sm_grI hM_h hb_a0 (off := 4) rfl ?_
      refine sm_aiI hM_h hb_a0 rfl e_a1 ?_; intro v31 y_v31 e_v31
      refine sm_grI hM_h hb_a0 (off := 3) rfl ?_
      refine sm_aiI hM_h hb_a0 rfl e_a1 ?_; intro v33 y_v33 e_v33
      refine sm_oq_add e_v33 rfl ?_; intro v34 y_v34 e_v34
      exact sw_X3_parametersIn_45 nn nn _ hb_a0 e_v31 e_v34 rfl hM_h
    · exact sm_rP rfl
set_option maxRecDepth 4000 in
theorem sj_X3_checkConstant_109 (nn : Nat) (l0 : Nat) (hb_l0 : kc_O l0 = 3) {l2 : Int32} {y_l2 : Int} (e_l2 : l2.toInt = y_l2) {l3 : Int32} {y_l3 : Int} (e_l3 : l3.toInt = y_l3) {h : ms_M} (hM_h : Rg_M h) : Sm_ RV_ (j_X3_checkConstant_109 nn l0 l2 l3 (H_M h)) (qj_X3_checkConstant_109 nn l0 y_l2 y_l3 h) := by
  unfold j_X3_checkConstant_109 qj_X3_checkConstant_109
  refine sm_isK hM_h hb_l0 ?_
  refine sm_cP (sf_X3_isFieldKind nn _ hb_l0 e_l3 hM_h) ?_; intro u2 y_u2 e_u2
  refine sm_ne e_u2 rfl ?_ ?_
  · exact sm_rV hM_h
  · refine sm_isK hM_h hb_l0 ?_
    refine sm_cP (sf_X3_parametersIn nn _ hb_l0 e_l3 hM_h) ?_; intro u4 y_u4 e_u4
    refine sm_ne e_u4 rfl ?_ ?_
    · exact sm_rV hM_h
    · refine sm_oq_add e_l2 rfl ?_; intro v5 y_v5 e_v5
      refine sm_isK hM_h hb_l0 ?_
      refine sm_cV (sf_X3_bad nn _ hb_l0 e_v5 hM_h) ?_; intro u7 hM_u7
      exact sm_rV hM_u7
set_option maxRecDepth 4000 in
theorem sj_X3_checkConstant_89 (nn : Nat) (l0 : Nat) (hb_l0 : kc_O l0 = 3) {l1 : Int32} {y_l1 : Int} (e_l1 : l1.toInt = y_l1) {l2 : Int32} {y_l2 : Int} (e_l2 : l2.toInt = y_l2) {l3 : Int32} {y_l3 : Int} (e_l3 : l3.toInt = y_l3) {h : ms_M} (hM_h : Rg_M h) : Sm_ RV_ (j_X3_checkConstant_89 nn l0 l1 l2 l3 (H_M h)) (qj_X3_checkConstant_89 nn l0 y_l1 y_l2 y_l3 h) := by
  unfold j_X3_checkConstant_89 qj_X3_checkConstant_89
  refine sm_isK hM_h hb_l0 ?_
  refine sm_cP (sf_X3_partOf nn _ hb_l0 e_l1 rfl hM_h) ?_; intro u11 y_u11 e_u11
  refine sm_isK hM_h hb_l0 ?_
  refine sm_cP (sf_X3_isNameText nn _ hb_l0 e_u11 hM_h) ?_; intro u13 y_u13 e_u13
  refine sm_ne e_u13 rfl ?_ ?_
  · exact sj_X3_checkConstant_109 nn _ hb_l0 e_l2 e_l3 hM_h
  · refine sm_oq_add e_l2 rfl ?_; intro v14 y_v14 e_v14
    refine sm_isK hM_h hb_l0 ?_
    refine sm_cV (sf_X3_bad nn _ hb_l0 e_v14 hM_h) ?_; intro u16 hM_u16
    exact sj_X3_checkConstant_109 nn _ hb_l0 e_l2 e_l3 hM_u16
set_option maxRecDepth 4000 in
theorem sj_X3_checkConstant_53 (nn : Nat) (l0 : Nat) (hb_l0 : kc_O l0 = 3) {l1 : Int32} {y_l1 : Int} (e_l1 : l1.toInt = y_l1) {l2 : Int32} {y_l2 : Int} (e_l2 : l2.toInt = y_l2) {h : ms_M} (hM_h : Rg_M h) : Sm_ RV_ (j_X3_checkConstant_53 nn l0 l1 l2 (H_M h)) (qj_X3_checkConstant_53 nn l0 y_l1 y_l2 h) := by
  unfold j_X3_checkConstant_53 qj_X3_checkConstant_53
  refine sm_grI hM_h hb_l0 (off := 2) rfl ?_
  refine sm_aiI hM_h hb_l0 rfl e_l1 ?_; intro v19 y_v19 e_v19
  refine sm_ne e_v19 rfl ?_ ?_
  · exact sm_rV hM_h
  · refine sm_isK hM_h hb_l0 ?_
    refine sm_cP (sf_X3_partOf nn _ hb_l0 e_l1 rfl hM_h) ?_; intro u21 y_u21 e_u21
    refine sm_isK hM_h hb_l0 ?_
    refine sm_cP (sf_X3_partOf nn _ hb_l0 e_l1 rfl hM_h) ?_; intro u23 y_u23 e_u23
    refine sm_isK hM_h hb_l0 ?_
    refine sm_cP (sf_X3_tagOf nn _ hb_l0 e_u23 hM_h) ?_; intro u25 y_u25 e_u25
    refine sm_eq e_u25 rfl ?_ ?_
    · exact sj_X3_checkConstant_89 nn _ hb_l0 e_l1 e_l2 e_u21 hM_h
    · refine sm_isK hM_h hb_l0 ?_
      refine sm_cV (sf_X3_bad nn _ hb_l0 e_l2 hM_h) ?_; intro u27 hM_u27
      exact sj_X3_checkConstant_89 nn _ hb_l0 e_l1 e_l2 e_u21 hM_u27
set_option maxRecDepth 4000 in
theorem sj_X3_checkConstant_48 (nn : Nat) (l0 : Nat) (hb_l0 : kc_O l0 = 3) {l1 : Int32} {y_l1 : Int} (e_l1 : l1.toInt = y_l1) {l2 : Int32} {y_l2 : Int} (e_l2 : l2.toInt = y_l2) {h : ms_M} (hM_h : Rg_M h) : Sm_ RV_ (j_X3_checkConstant_48 nn l0 l1 l2 (H_M h)) (qj_X3_checkConstant_48 nn l0 y_l1 y_l2 h) := by
  unfold j_X3_checkConstant_48 qj_X3_checkConstant_48
  refine sm_isK hM_h hb_l0 ?_
  refine sm_cV (sf_X3_bad nn _ hb_l0 e_l2 hM_h) ?_; intro u31 hM_u31
  exact sj_X3_checkConstant_53 nn _ hb_l0 e_l1 e_l2 hM_u31
set_option maxRecDepth 4000 in
theorem sf_X3_checkConstant (nn : Nat) (a0 : Nat) (hb_a0 : kc_O a0 = 3) {a1 : Int32} {y_a1 : Int} (e_a1 : a1.toInt = y_a1) {h : ms_M} (hM_h : Rg_M h) : Sm_ RV_ (f_X3_checkConstant nn a0 a1 (H_M h)) (qf_X3_checkConstant nn a0 y_a1 h) := by
  unfold f_X3_checkConstant qf_X3_checkConstant
  refine sm_grI hM_h hb_a0 (off := 3) rfl ?_
  refine sm_aiI hM_h hb_a0 rfl e_a1 ?_; intro v33 y_v33 e_v33
  refine sm_grI hM_h hb_a0 (off := 2) rfl ?_
  refine sm_aiI hM_h hb_a0 rfl e_a1 ?_; intro v35 y_v35 e_v35
  refine sm_ne e_v35 rfl ?_ ?_
  · exact sj_X3_checkConstant_53 nn _ hb_a0 e_a1 e_v33 hM_h
  · refine sm_isK hM_h hb_a0 ?_
    refine sm_cP (sf_X3_partOf nn _ hb_a0 e_a1 rfl hM_h) ?_; intro u37 y_u37 e_u37
    refine sm_isK hM_h hb_a0 ?_
    refine sm_cP (sf_X3_isNameText nn _ hb_a0 e_u37 hM_h) ?_; intro u39 y_u39 e_u39
    refine sm_ne e_u39 rfl ?_ ?_
    · exact sj_X3_checkConstant_53 nn _ hb_a0 e_a1 e_v33 hM_h
    · refine sm_isK hM_h hb_a0 ?_
      refine sm_cP (sf_X3_isArrayText nn _ hb_a0 e_u37 hM_h) ?_; intro u41 y_u41 e_u41
      refine sm_eq e_u41 rfl ?_ ?_
      · exact sj_X3_checkConstant_48 nn _ hb_a0 e_a1 e_v33 hM_h
      · refine sm_isK hM_h hb_a0 ?_
        refine sm_cP (sf_X3_isFieldKind nn _ hb_a0 e_u37 hM_h) ?_; intro u43 y_u43 e_u43
        refine sm_ne e_u43 rfl ?_ ?_
        · exact sj_X3_checkConstant_53 nn _ hb_a0 e_a1 e_v33 hM_h
        · exact sj_X3_checkConstant_48 nn _ hb_a0 e_a1 e_v33 hM_h
set_option maxRecDepth 4000 in
theorem sw_X3_readConstant_84 (nn : Nat) : ∀ (k : Nat) (l0 : Nat) (hb_l0 : kc_O l0 = 3) {l2 : Int32} {y_l2 : Int} (e_l2 : l2.toInt = y_l2) {l3 : Int32} {y_l3 : Int} (e_l3 : l3.toInt = y_l3) {l4 : Int32} {y_l4 : Int} (e_l4 : l4.toInt = y_l4) {h : ms_M} (hM_h : Rg_M h), Sm_ RV_ (w_X3_readConstant_84 nn k l0 l2 l3 l4 (H_M h)) (qw_X3_readConstant_84 nn k l0 y_l2 y_l3 y_l4 h) := by
  intro k
  induction k with
  | zero => intros; exact sm_no
  | succ k ih =>
    intro l0 hb_l0 l2 y_l2 e_l2 l3 y_l3 e_l3 l4 y_l4 e_l4 h hM_h
    unfold w_X3_readConstant_84 qw_X3_readConstant_84
    refine sm_le e_l3 e_l4 ?_ ?_
    · exact sm_rV hM_h
    · refine sm_giI hM_h hb_l0 rfl ?_; intro v1 e_v1
      refine sm_ne e_v1 rfl ?_ ?_
      · exact sm_rV hM_h
      · refine sm_ne e_l2 rfl ?_ ?_
        · refine sm_isK hM_h hb_l0 ?_
          refine sm_cI (sf_X3_next nn _ hb_l0 hM_h) ?_; intro u3 y_u3 M_u3 e_u3 hM_u3
          refine sm_oq_add e_l4 rfl ?_; intro v4 y_v4 e_v4
          exact ih _ hb_l0 e_l2 e_l3 e_v4 hM_u3
        · refine sm_isK hM_h hb_l0 ?_
          refine sm_cI (sf_X3_nextUpTo nn _ hb_l0 rfl rfl hM_h) ?_; intro u6 y_u6 M_u6 e_u6 hM_u6
          refine sm_oq_add e_l4 rfl ?_; intro v7 y_v7 e_v7
          exact ih _ hb_l0 e_l2 e_l3 e_v7 hM_u6
set_option maxRecDepth 4000 in
theorem sj_X3_readConstant_40 (nn : Nat) (l0 : Nat) (hb_l0 : kc_O l0 = 3) {l1 : Int32} {y_l1 : Int} (e_l1 : l1.toInt = y_l1) {l2 : Int32} {y_l2 : Int} (e_l2 : l2.toInt = y_l2) {l3 : Int32} {y_l3 : Int} (e_l3 : l3.toInt = y_l3) {h : ms_M} (hM_h : Rg_M h) : Sm_ RV_ (j_X3_readConstant_40 nn l0 l1 l2 l3 (H_M h)) (qj_X3_readConstant_40 nn l0 y_l1 y_l2 y_l3 h) := by
  unfold j_X3_readConstant_40 qj_X3_readConstant_40
  refine sm_grI hM_h hb_l0 (off := 2) rfl ?_
  refine sm_siI hM_h hb_l0 rfl e_l1 e_l2 ?_; intro h12 hM_h12
  refine sm_grI hM_h12 hb_l0 (off := 3) rfl ?_
  refine sm_giI hM_h12 hb_l0 rfl ?_; intro v14 e_v14
  refine sm_siI hM_h12 hb_l0 rfl e_l1 e_v14 ?_; intro h15 hM_h15
  refine sm_grI hM_h15 hb_l0 (off := 4) rfl ?_
  refine sm_ne e_l2 rfl ?_ ?_
  · refine sm_giI hM_h15 hb_l0 rfl ?_; intro v17 e_v17
    refine sm_siI hM_h15 hb_l0 rfl e_l1 e_v17 ?_; intro h18 hM_h18
    exact sw_X3_readConstant_84 nn nn _ hb_l0 e_l2 e_l3 rfl hM_h18
  · refine sm_giI hM_h15 hb_l0 rfl ?_; intro v19 e_v19
    refine sm_oq_add e_v19 e_l3 ?_; intro v20 y_v20 e_v20
    refine sm_siI hM_h15 hb_l0 rfl e_l1 e_v20 ?_; intro h21 hM_h21
    exact sw_X3_readConstant_84 nn nn _ hb_l0 e_l2 e_l3 rfl hM_h21
set_option maxRecDepth 4000 in
theorem sj_X3_readConstant_26 (nn : Nat) (l0 : Nat) (hb_l0 : kc_O l0 = 3) {l1 : Int32} {y_l1 : Int} (e_l1 : l1.toInt = y_l1) {l2 : Int32} {y_l2 : Int} (e_l2 : l2.toInt = y_l2) {s0 : Int32} {y_s0 : Int} (e_s0 : s0.toInt = y_s0) {h : ms_M} (hM_h : Rg_M h) : Sm_ RV_ (j_X3_readConstant_26 nn l0 l1 l2 s0 (H_M h)) (qj_X3_readConstant_26 nn l0 y_l1 y_l2 y_s0 h) := by
  unfold j_X3_readConstant_26 qj_X3_readConstant_26
  refine sm_ne e_l2 rfl ?_ ?_
  · exact sj_X3_readConstant_40 nn _ hb_l0 e_l1 e_l2 e_s0 hM_h
  · refine sm_isK hM_h hb_l0 ?_
    refine sm_cI (sf_X3_nextUpTo nn _ hb_l0 rfl rfl hM_h) ?_; intro u24 y_u24 M_u24 e_u24 hM_u24
    exact sj_X3_readConstant_40 nn _ hb_l0 e_l1 e_l2 e_u24 hM_u24
set_option maxRecDepth 4000 in
theorem sf_X3_readConstant (nn : Nat) (a0 : Nat) (hb_a0 : kc_O a0 = 3) {a1 : Int32} {y_a1 : Int} (e_a1 : a1.toInt = y_a1) {h : ms_M} (hM_h : Rg_M h) : Sm_ RV_ (f_X3_readConstant nn a0 a1 (H_M h)) (qf_X3_readConstant nn a0 y_a1 h) := by
  unfold f_X3_readConstant qf_X3_readConstant
  refine sm_isK hM_h hb_a0 ?_
  refine sm_cI (sf_X3_nextUpTo nn _ hb_a0 rfl rfl hM_h) ?_; intro u27 y_u27 M_u27 e_u27 hM_u27
  refine sm_ne e_u27 rfl ?_ ?_
  · refine sm_ne e_u27 rfl ?_ ?_
    · exact sj_X3_readConstant_26 nn _ hb_a0 e_a1 e_u27 rfl hM_u27
    · exact sj_X3_readConstant_26 nn _ hb_a0 e_a1 e_u27 rfl hM_u27
  · exact sj_X3_readConstant_26 nn _ hb_a0 e_a1 e_u27 rfl hM_u27
set_option maxRecDepth 4000 in
theorem sw_X3_readConstants_57 (nn : Nat) : ∀ (k : Nat) (l0 : Nat) (hb_l0 : kc_O l0 = 3) {l1 : Int32} {y_l1 : Int} (e_l1 : l1.toInt = y_l1) {h : ms_M} (hM_h : Rg_M h), Sm_ RV_ (w_X3_readConstants_57 nn k l0 l1 (H_M h)) (qw_X3_readConstants_57 nn k l0 y_l1 h) := by
  intro k
  induction k with
  | zero => intros; exact sm_no
  | succ k ih =>
    intro l0 hb_l0 l1 y_l1 e_l1 h hM_h
    unfold w_X3_readConstants_57 qw_X3_readConstants_57
    refine sm_giI hM_h hb_l0 rfl ?_; intro v1 e_v1
    refine sm_lt e_v1 e_l1 ?_ ?_
    · exact sm_rV hM_h
    · refine sm_giI hM_h hb_l0 rfl ?_; intro v2 e_v2
      refine sm_ne e_v2 rfl ?_ ?_
      · exact sm_rV hM_h
      · refine sm_isK hM_h hb_l0 ?_
        refine sm_cV (sf_X3_checkConstant nn _ hb_l0 e_l1 hM_h) ?_; intro u4 hM_u4
        refine sm_oq_add e_l1 rfl ?_; intro v5 y_v5 e_v5
        exact ih _ hb_l0 e_v5 hM_u4
