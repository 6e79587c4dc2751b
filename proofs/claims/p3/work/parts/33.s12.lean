set_option maxRecDepth 4000 in
theorem sj_X13_primary_138 (nn : Nat) {frc : tg_X13_expression} {rc : tq_X13_expression} (hr : hg_X13_expression frc rc) {l2 : Int32} {y_l2 : Int} (e_l2 : l2.toInt = y_l2) {l3 : Int32} {y_l3 : Int} (e_l3 : l3.toInt = y_l3) {h : ms_M} (hM_h : Rg_M h) : Sm_ RI_ (j_X13_primary_138 nn frc 160 l2 l3 (H_M h)) (qj_X13_primary_138 nn rc y_l2 y_l3 h) := by
  unfold j_X13_primary_138 qj_X13_primary_138
  refine sm_gi hM_h rfl ?_; intro v11 e_v11
  refine sm_eq e_v11 rfl ?_ ?_
  · refine sm_gr hM_h (d := 169) rfl ?_
    refine sm_si hM_h rfl e_l3 e_l2 ?_; intro h13 hM_h13
    refine sm_gr hM_h13 (d := 177) rfl ?_
    refine sm_sz hM_h13 rfl e_l3 rfl ?_; intro h15 hM_h15
    exact sm_rI e_l3 hM_h15
  · exact sm_rI rfl hM_h
set_option maxRecDepth 4000 in
theorem so_X13_primary (nn : Nat) {frc : tg_X13_expression} {rc : tq_X13_expression} (hr : hg_X13_expression frc rc) {a1 : Int32} {y_a1 : Int} (e_a1 : a1.toInt = y_a1) {h : ms_M} (hM_h : Rg_M h) : Sm_ RI_ (o_X13_primary nn frc 160 a1 (H_M h)) (qo_X13_primary nn rc y_a1 h) := by
  unfold o_X13_primary qo_X13_primary
  refine sm_gi hM_h rfl ?_; intro v17 e_v17
  refine sm_gr hM_h (d := 163) rfl ?_
  refine sm_gi hM_h rfl ?_; intro v19 e_v19
  refine sm_ai hM_h rfl e_v19 ?_; intro v20 y_v20 e_v20
  refine sm_ne e_v20 rfl ?_ ?_
  · refine sm_gr hM_h (d := 163) rfl ?_
    refine sm_gi hM_h rfl ?_; intro v22 e_v22
    refine sm_ai hM_h rfl e_v22 ?_; intro v23 y_v23 e_v23
    refine sm_ne e_v23 rfl ?_ ?_
    · refine sm_gi hM_h rfl ?_; intro v24 e_v24
      refine sm_is hM_h rfl ?_
      refine sm_cP (sf_X13_isSign nn e_v24 rfl hM_h) ?_; intro u26 y_u26 e_u26
      refine sm_eq e_u26 rfl ?_ ?_
      · refine sm_gr hM_h (d := 163) rfl ?_
        refine sm_gi hM_h rfl ?_; intro v28 e_v28
        refine sm_ai hM_h rfl e_v28 ?_; intro v29 y_v29 e_v29
        refine sm_ne e_v29 rfl ?_ ?_
        · exact sj_X13_primary_283 nn hr hM_h
        · refine sm_gr hM_h (d := 166) rfl ?_
          refine sm_gi hM_h rfl ?_; intro v31 e_v31
          refine sm_ai hM_h rfl e_v31 ?_; intro v32 y_v32 e_v32
          refine sm_eq e_v32 rfl ?_ ?_
          · exact sj_X13_primary_215 nn hr e_v17 e_v32 hM_h
          · refine sm_eq e_v32 rfl ?_ ?_
            · exact sj_X13_primary_215 nn hr e_v17 e_v32 hM_h
            · refine sm_eq e_v32 rfl ?_ ?_
              · exact sj_X13_primary_215 nn hr e_v17 e_v32 hM_h
              · refine sm_ne e_v32 rfl ?_ ?_
                · refine sm_ne e_v32 rfl ?_ ?_
                  · exact sj_X13_primary_283 nn hr hM_h
                  · refine sm_is hM_h rfl ?_
                    refine sm_cI (hr.2.2.2.2.2.2 e_a1 hM_h) ?_; intro u34 y_u34 M_u34 e_u34 hM_u34
                    exact sm_rI e_u34 hM_u34
                · exact sj_X13_primary_215 nn hr e_v17 e_v32 hM_h
      · refine sm_gi hM_h rfl ?_; intro v41 e_v41
        refine sm_oq_add e_v41 rfl ?_; intro v42 y_v42 e_v42
        refine sm_pv hM_h rfl e_v42 ?_; intro h43 hM_h43
        refine sm_is hM_h43 rfl ?_
        refine sm_cI (hr.1 e_a1 hM_h43) ?_; intro u45 y_u45 M_u45 e_u45 hM_u45
        refine sm_is hM_u45 rfl ?_
        refine sm_cV (sf_X13_sign_ nn rfl hM_u45) ?_; intro u47 hM_u47
        exact sj_X13_primary_138 nn hr e_v17 e_u45 hM_u47
    · refine sm_gi hM_h rfl ?_; intro v49 e_v49
      refine sm_oq_add e_v49 rfl ?_; intro v50 y_v50 e_v50
      refine sm_pv hM_h rfl e_v50 ?_; intro h51 hM_h51
      refine sm_is hM_h51 rfl ?_
      refine sm_cI (sf_X13_add nn rfl e_v17 e_v17 hM_h51) ?_; intro u53 y_u53 M_u53 e_u53 hM_u53
      refine sm_gi hM_u53 rfl ?_; intro v54 e_v54
      refine sm_is hM_u53 rfl ?_
      refine sm_cP (sf_X13_isSign nn e_v54 rfl hM_u53) ?_; intro u56 y_u56 e_u56
      refine sm_eq e_u56 rfl ?_ ?_
      · exact sm_rI e_u53 hM_u53
      · refine sm_gr hM_u53 (d := 167) rfl ?_
        refine sm_si hM_u53 rfl e_u53 rfl ?_; intro h58 hM_h58
        refine sm_gr hM_h58 (d := 171) rfl ?_
        refine sm_is hM_h58 rfl ?_
        refine sm_cI (hr.2.2.2.1 e_a1 hM_h58) ?_; intro u61 y_u61 M_u61 e_u61 hM_u61
        refine sm_si hM_u61 rfl e_u53 e_u61 ?_; intro h62 hM_h62
        exact sm_rI e_u53 hM_h62
  · refine sm_gi hM_h rfl ?_; intro v65 e_v65
    refine sm_oq_add e_v65 rfl ?_; intro v66 y_v66 e_v66
    refine sm_pv hM_h rfl e_v66 ?_; intro h67 hM_h67
    refine sm_is hM_h67 rfl ?_
    refine sm_cI (sf_X13_add nn rfl e_v17 e_v17 hM_h67) ?_; intro u69 y_u69 M_u69 e_u69 hM_u69
    exact sm_rI e_u69 hM_u69
set_option maxRecDepth 4000 in
theorem sj_X13_fresh_142 (nn : Nat) {frc : tg_X13_expression} {rc : tq_X13_expression} (hr : hg_X13_expression frc rc) {l1 : Int32} {y_l1 : Int} (e_l1 : l1.toInt = y_l1) {l4 : Int32} {y_l4 : Int} (e_l4 : l4.toInt = y_l4) {h : ms_M} (hM_h : Rg_M h) : Sm_ RI_ (j_X13_fresh_142 nn frc 160 l1 l4 (H_M h)) (qj_X13_fresh_142 nn rc y_l1 y_l4 h) := by
  unfold j_X13_fresh_142 qj_X13_fresh_142
  refine sm_gr hM_h (d := 170) rfl ?_
  refine sm_is hM_h rfl ?_
  refine sm_cI (hr.1 e_l1 hM_h) ?_; intro u3 y_u3 M_u3 e_u3 hM_u3
  refine sm_si hM_u3 rfl e_l4 e_u3 ?_; intro h4 hM_h4
  refine sm_is hM_h4 rfl ?_
  refine sm_cV (sf_X13_sign_ nn rfl hM_h4) ?_; intro u6 hM_u6
  exact sm_rI e_l4 hM_u6
set_option maxRecDepth 4000 in
theorem so_X13_fresh (nn : Nat) {frc : tg_X13_expression} {rc : tq_X13_expression} (hr : hg_X13_expression frc rc) {a1 : Int32} {y_a1 : Int} (e_a1 : a1.toInt = y_a1) {h : ms_M} (hM_h : Rg_M h) : Sm_ RI_ (o_X13_fresh nn frc 160 a1 (H_M h)) (qo_X13_fresh nn rc y_a1 h) := by
  unfold o_X13_fresh qo_X13_fresh
  refine sm_gi hM_h rfl ?_; intro v7 e_v7
  refine sm_gi hM_h rfl ?_; intro v8 e_v8
  refine sm_oq_add e_v8 rfl ?_; intro v9 y_v9 e_v9
  refine sm_pv hM_h rfl e_v9 ?_; intro h10 hM_h10
  refine sm_gi hM_h10 rfl ?_; intro v11 e_v11
  refine sm_is hM_h10 rfl ?_
  refine sm_cP (sf_X13_isWord nn e_v11 rfl hM_h10) ?_; intro u13 y_u13 e_u13
  refine sm_eq e_u13 rfl ?_ ?_
  · refine sm_is hM_h10 rfl ?_
    refine sm_cI (sf_X13_name nn hM_h10) ?_; intro u15 y_u15 M_u15 e_u15 hM_u15
    refine sm_gi hM_u15 rfl ?_; intro v16 e_v16
    refine sm_eq e_v16 rfl ?_ ?_
    · refine sm_is hM_u15 rfl ?_
      refine sm_cI (sf_X13_add nn rfl e_u15 e_v7 hM_u15) ?_; intro u18 y_u18 M_u18 e_u18 hM_u18
      refine sm_gi hM_u18 rfl ?_; intro v19 e_v19
      refine sm_is hM_u18 rfl ?_
      refine sm_cP (sf_X13_isSign nn e_v19 rfl hM_u18) ?_; intro u21 y_u21 e_u21
      refine sm_eq e_u21 rfl ?_ ?_
      · refine sm_is hM_u18 rfl ?_
        refine sm_cV (sf_X13_sign_ nn rfl hM_u18) ?_; intro u23 hM_u23
        refine sm_is hM_u23 rfl ?_
        refine sm_cV (sf_X13_sign_ nn rfl hM_u23) ?_; intro u25 hM_u25
        exact sm_rI e_u18 hM_u25
      · refine sm_gr hM_u18 (d := 167) rfl ?_
        refine sm_si hM_u18 rfl e_u18 rfl ?_; intro h27 hM_h27
        refine sm_gr hM_h27 (d := 172) rfl ?_
        refine sm_gi hM_h27 rfl ?_; intro v29 e_v29
        refine sm_si hM_h27 rfl e_u18 e_v29 ?_; intro h30 hM_h30
        refine sm_gi hM_h30 rfl ?_; intro v31 e_v31
        refine sm_oq_add e_v31 rfl ?_; intro v32 y_v32 e_v32
        refine sm_pv hM_h30 rfl e_v32 ?_; intro h33 hM_h33
        exact sj_X13_fresh_142 nn hr e_a1 e_u18 hM_h33
    · exact sm_rI rfl hM_u15
  · refine sm_gi hM_h10 rfl ?_; intro v36 e_v36
    refine sm_oq_add e_v36 rfl ?_; intro v37 y_v37 e_v37
    refine sm_pv hM_h10 rfl e_v37 ?_; intro h38 hM_h38
    refine sm_gi hM_h38 rfl ?_; intro v39 e_v39
    refine sm_is hM_h38 rfl ?_
    refine sm_cI (sf_X13_add nn rfl e_v39 e_v7 hM_h38) ?_; intro u41 y_u41 M_u41 e_u41 hM_u41
    refine sm_is hM_u41 rfl ?_
    refine sm_cV (sf_X13_sign_ nn rfl hM_u41) ?_; intro u43 hM_u43
    refine sm_gr hM_u43 (d := 170) rfl ?_
    refine sm_is hM_u43 rfl ?_
    refine sm_cI (hr.1 e_a1 hM_u43) ?_; intro u46 y_u46 M_u46 e_u46 hM_u46
    refine sm_si hM_u46 rfl e_u41 e_u46 ?_; intro h47 hM_h47
    refine sm_is hM_h47 rfl ?_
    refine sm_cV (sf_X13_sign_ nn rfl hM_h47) ?_; intro u49 hM_u49
    exact sm_rI e_u41 hM_u49
set_option maxRecDepth 4000 in
theorem sg_X13_expression (nn : Nat) : ∀ d, hg_X13_expression (g_X13_expression nn d) (qg_X13_expression nn d) := by
  intro d
  induction d with
  | zero => exact ⟨(by intros; exact sm_no), (by intros; exact sm_no), (by intros; exact sm_no), (by intros; exact sm_no), (by intros; exact sm_no), (by intros; exact sm_no), (by intros; exact sm_no)⟩
  | succ d ih => exact ⟨so_X13_expression nn ih, so_X13_sides nn ih, so_X13_unary nn ih, so_X13_arguments nn ih, so_X13_postfix nn ih, so_X13_primary nn ih, so_X13_fresh nn ih⟩
set_option maxRecDepth 4000 in
theorem sf_X13_expression (nn : Nat) {a1 : Int32} {y_a1 : Int} (e_a1 : a1.toInt = y_a1) {h : ms_M} (hM_h : Rg_M h) : Sm_ RI_ (f_X13_expression nn 160 a1 (H_M h)) (qf_X13_expression nn y_a1 h) := (sg_X13_expression nn 700).1 e_a1 hM_h
set_option maxRecDepth 4000 in
theorem sf_X13_sides (nn : Nat) {a1 : Int32} {y_a1 : Int} (e_a1 : a1.toInt = y_a1) {a2 : Int32} {y_a2 : Int} (e_a2 : a2.toInt = y_a2) {h : ms_M} (hM_h : Rg_M h) : Sm_ RI_ (f_X13_sides nn 160 a1 a2 (H_M h)) (qf_X13_sides nn y_a1 y_a2 h) := (sg_X13_expression nn 700).2.1 e_a1 e_a2 hM_h
set_option maxRecDepth 4000 in
theorem sf_X13_unary (nn : Nat) {a1 : Int32} {y_a1 : Int} (e_a1 : a1.toInt = y_a1) {h : ms_M} (hM_h : Rg_M h) : Sm_ RI_ (f_X13_unary nn 160 a1 (H_M h)) (qf_X13_unary nn y_a1 h) := (sg_X13_expression nn 700).2.2.1 e_a1 hM_h
set_option maxRecDepth 4000 in
theorem sf_X13_arguments (nn : Nat) {a1 : Int32} {y_a1 : Int} (e_a1 : a1.toInt = y_a1) {h : ms_M} (hM_h : Rg_M h) : Sm_ RI_ (f_X13_arguments nn 160 a1 (H_M h)) (qf_X13_arguments nn y_a1 h) := (sg_X13_expression nn 700).2.2.2.1 e_a1 hM_h
set_option maxRecDepth 4000 in
theorem sf_X13_postfix (nn : Nat) {a1 : Int32} {y_a1 : Int} (e_a1 : a1.toInt = y_a1) {h : ms_M} (hM_h : Rg_M h) : Sm_ RI_ (f_X13_postfix nn 160 a1 (H_M h)) (qf_X13_postfix nn y_a1 h) := (sg_X13_expression nn 700).2.2.2.2.1 e_a1 hM_h
set_option maxRecDepth 4000 in
theorem sf_X13_primary (nn : Nat) {a1 : Int32} {y_a1 : Int} (e_a1 : a1.toInt = y_a1) {h : ms_M} (hM_h : Rg_M h) : Sm_ RI_ (f_X13_primary nn 160 a1 (H_M h)) (qf_X13_primary nn y_a1 h) := (sg_X13_expression nn 700).2.2.2.2.2.1 e_a1 hM_h
set_option maxRecDepth 4000 in
theorem sf_X13_fresh (nn : Nat) {a1 : Int32} {y_a1 : Int} (e_a1 : a1.toInt = y_a1) {h : ms_M} (hM_h : Rg_M h) : Sm_ RI_ (f_X13_fresh nn 160 a1 (H_M h)) (qf_X13_fresh nn y_a1 h) := (sg_X13_expression nn 700).2.2.2.2.2.2 e_a1 hM_h
set_option maxRecDepth 4000 in
theorem sf_X13_isTyped (nn : Nat) {h : ms_M} (hM_h : Rg_M h) : Sm_ (RP_ h) (f_X13_isTyped nn 160 (H_M h)) (qf_X13_isTyped nn h) := by
  unfold f_X13_isTyped qf_X13_isTyped
  refine sm_gi hM_h rfl ?_; intro v1 e_v1
  refine sm_is hM_h rfl ?_
  refine sm_cP (sf_X13_isWord nn e_v1 rfl hM_h) ?_; intro u3 y_u3 e_u3
  refine sm_ne e_u3 rfl ?_ ?_
  · exact sm_rP rfl
  · refine sm_gi hM_h rfl ?_; intro v4 e_v4
    refine sm_is hM_h rfl ?_
    refine sm_cP (sf_X13_isWord nn e_v4 rfl hM_h) ?_; intro u6 y_u6 e_u6
    refine sm_eq e_u6 rfl ?_ ?_
    · refine sm_gr hM_h (d := 163) rfl ?_
      refine sm_gi hM_h rfl ?_; intro v8 e_v8
      refine sm_ai hM_h rfl e_v8 ?_; intro v9 y_v9 e_v9
      refine sm_eq e_v9 rfl ?_ ?_
      · refine sm_gr hM_h (d := 163) rfl ?_
        refine sm_gi hM_h rfl ?_; intro v11 e_v11
        refine sm_oq_add e_v11 rfl ?_; intro v12 y_v12 e_v12
        refine sm_ai hM_h rfl e_v12 ?_; intro v13 y_v13 e_v13
        refine sm_eq e_v13 rfl ?_ ?_
        · exact sm_rP rfl
        · refine sm_gi hM_h rfl ?_; intro v14 e_v14
          refine sm_oq_add e_v14 rfl ?_; intro v15 y_v15 e_v15
          refine sm_is hM_h rfl ?_
          refine sm_cP (sf_X13_isSign nn e_v15 rfl hM_h) ?_; intro u17 y_u17 e_u17
          refine sm_eq e_u17 rfl ?_ ?_
          · exact sm_rP rfl
          · refine sm_gi hM_h rfl ?_; intro v18 e_v18
            refine sm_oq_add e_v18 rfl ?_; intro v19 y_v19 e_v19
            refine sm_is hM_h rfl ?_
            refine sm_cP (sf_X13_isSign nn e_v19 rfl hM_h) ?_; intro u21 y_u21 e_u21
            refine sm_eq e_u21 rfl ?_ ?_
            · exact sm_rP rfl
            · exact sm_rP rfl
      · exact sm_rP rfl
    · exact sm_rP rfl
set_option maxRecDepth 4000 in
theorem sj_X13_plain_89 (nn : Nat) {l2 : Int32} {y_l2 : Int} (e_l2 : l2.toInt = y_l2) {h : ms_M} (hM_h : Rg_M h) : Sm_ RI_ (j_X13_plain_89 nn 160 l2 (H_M h)) (qj_X13_plain_89 nn y_l2 h) := by
  unfold j_X13_plain_89 qj_X13_plain_89
  refine sm_is hM_h rfl ?_
  refine sm_cV (sf_X13_sign_ nn rfl hM_h) ?_; intro u2 hM_u2
  exact sm_rI e_l2 hM_u2
set_option maxRecDepth 4000 in
theorem sf_X13_plain (nn : Nat) {a1 : Int32} {y_a1 : Int} (e_a1 : a1.toInt = y_a1) {h : ms_M} (hM_h : Rg_M h) : Sm_ RI_ (f_X13_plain nn 160 a1 (H_M h)) (qf_X13_plain nn y_a1 h) := by
  unfold f_X13_plain qf_X13_plain
  refine sm_gi hM_h rfl ?_; intro v3 e_v3
  refine sm_gi hM_h rfl ?_; intro v4 e_v4
  refine sm_is hM_h rfl ?_
  refine sm_cI (sf_X13_add nn rfl e_v3 e_v4 hM_h) ?_; intro u6 y_u6 M_u6 e_u6 hM_u6
  refine sm_gr hM_u6 (d := 170) rfl ?_
  refine sm_oq_add e_a1 rfl ?_; intro v8 y_v8 e_v8
  refine sm_is hM_u6 rfl ?_
  refine sm_cI (sf_X13_expression nn e_v8 hM_u6) ?_; intro u10 y_u10 M_u10 e_u10 hM_u10
  refine sm_si hM_u10 rfl e_u6 e_u10 ?_; intro h11 hM_h11
  refine sm_gi hM_h11 rfl ?_; intro v12 e_v12
  refine sm_ne e_v12 rfl ?_ ?_
  · exact sj_X13_plain_89 nn e_u6 hM_h11
  · refine sm_gi hM_h11 rfl ?_; intro v13 e_v13
    refine sm_is hM_h11 rfl ?_
    refine sm_cP (sf_X13_isSign nn e_v13 rfl hM_h11) ?_; intro u15 y_u15 e_u15
    refine sm_eq e_u15 rfl ?_ ?_
    · exact sj_X13_plain_89 nn e_u6 hM_h11
    · refine sm_gr hM_h11 (d := 167) rfl ?_
      refine sm_si hM_h11 rfl e_u6 rfl ?_; intro h17 hM_h17
      refine sm_gr hM_h17 (d := 168) rfl ?_
      refine sm_gi hM_h17 rfl ?_; intro v19 e_v19
      refine sm_si hM_h17 rfl e_u6 e_v19 ?_; intro h20 hM_h20
      refine sm_gi hM_h20 rfl ?_; intro v21 e_v21
      refine sm_oq_add e_v21 rfl ?_; intro v22 y_v22 e_v22
      refine sm_pv hM_h20 rfl e_v22 ?_; intro h23 hM_h23
      refine sm_gr hM_h23 (d := 171) rfl ?_
      refine sm_oq_add e_a1 rfl ?_; intro v25 y_v25 e_v25
      refine sm_is hM_h23 rfl ?_
      refine sm_cI (sf_X13_expression nn e_v25 hM_h23) ?_; intro u27 y_u27 M_u27 e_u27 hM_u27
      refine sm_si hM_u27 rfl e_u6 e_u27 ?_; intro h28 hM_h28
      exact sj_X13_plain_89 nn e_u6 hM_h28
set_option maxRecDepth 4000 in
theorem sj_X13_type_96 (nn : Nat) {h : ms_M} (hM_h : Rg_M h) : Sm_ RV_ (j_X13_type_96 nn 160 (H_M h)) (qj_X13_type_96 nn h) := by
  unfold j_X13_type_96 qj_X13_type_96
  refine sm_gi hM_h rfl ?_; intro v1 e_v1
  refine sm_ne e_v1 rfl ?_ ?_
  · exact sm_rV hM_h
  · refine sm_gi hM_h rfl ?_; intro v2 e_v2
    refine sm_is hM_h rfl ?_
    refine sm_cP (sf_X13_isSign nn e_v2 rfl hM_h) ?_; intro u4 y_u4 e_u4
    refine sm_ne e_u4 rfl ?_ ?_
    · refine sm_gi hM_h rfl ?_; intro v5 e_v5
      refine sm_oq_add e_v5 rfl ?_; intro v6 y_v6 e_v6
      refine sm_pv hM_h rfl e_v6 ?_; intro h7 hM_h7
      refine sm_is hM_h7 rfl ?_
      refine sm_cV (sf_X13_sign_ nn rfl hM_h7) ?_; intro u9 hM_u9
      refine sm_pv hM_u9 rfl rfl ?_; intro h10 hM_h10
      exact sm_rV hM_h10
    · exact sm_rV hM_h
set_option maxRecDepth 4000 in
theorem sj_X13_type_68 (nn : Nat) {s0 : Int32} {y_s0 : Int} (e_s0 : s0.toInt = y_s0) {h : ms_M} (hM_h : Rg_M h) : Sm_ RV_ (j_X13_type_68 nn 160 s0 160 (H_M h)) (qj_X13_type_68 nn y_s0 h) := by
  unfold j_X13_type_68 qj_X13_type_68
  refine sm_pv hM_h rfl e_s0 ?_; intro h13 hM_h13
  refine sm_gi hM_h13 rfl ?_; intro v14 e_v14
  refine sm_ne e_v14 rfl ?_ ?_
  · refine sm_is hM_h13 rfl ?_
    refine sm_cI (sf_X13_name nn hM_h13) ?_; intro u16 y_u16 M_u16 e_u16 hM_u16
    exact sj_X13_type_96 nn hM_u16
  · refine sm_gi hM_h13 rfl ?_; intro v17 e_v17
    refine sm_oq_add e_v17 rfl ?_; intro v18 y_v18 e_v18
    refine sm_pv hM_h13 rfl e_v18 ?_; intro h19 hM_h19
    exact sj_X13_type_96 nn hM_h19
set_option maxRecDepth 4000 in
theorem sf_X13_type (nn : Nat) {h : ms_M} (hM_h : Rg_M h) : Sm_ RV_ (f_X13_type nn 160 (H_M h)) (qf_X13_type nn h) := by
  unfold f_X13_type qf_X13_type
  refine sm_gi hM_h rfl ?_; intro v21 e_v21
  refine sm_eq e_v21 rfl ?_ ?_
  · refine sm_gi hM_h rfl ?_; intro v22 e_v22
    refine sm_pv hM_h rfl e_v22 ?_; intro h23 hM_h23
    refine sm_pv hM_h23 rfl rfl ?_; intro h24 hM_h24
    refine sm_gi hM_h24 rfl ?_; intro v25 e_v25
    refine sm_is hM_h24 rfl ?_
    refine sm_cP (sf_X13_isWord nn e_v25 rfl hM_h24) ?_; intro u27 y_u27 e_u27
    refine sm_eq e_u27 rfl ?_ ?_
    · refine sm_gi hM_h24 rfl ?_; intro v28 e_v28
      refine sm_is hM_h24 rfl ?_
      refine sm_cP (sf_X13_isWord nn e_v28 rfl hM_h24) ?_; intro u30 y_u30 e_u30
      refine sm_eq e_u30 rfl ?_ ?_
      · exact sj_X13_type_68 nn rfl hM_h24
      · exact sj_X13_type_68 nn rfl hM_h24
    · refine sm_pv hM_h24 rfl rfl ?_; intro h32 hM_h32
      refine sm_gi hM_h32 rfl ?_; intro v33 e_v33
      refine sm_oq_add e_v33 rfl ?_; intro v34 y_v34 e_v34
      refine sm_pv hM_h32 rfl e_v34 ?_; intro h35 hM_h35
      exact sm_rV hM_h35
  · exact sm_rV hM_h
set_option maxRecDepth 4000 in
theorem sf_X13_word (nn : Nat) {a1 : Int32} {y_a1 : Int} (e_a1 : a1.toInt = y_a1) {h : ms_M} (hM_h : Rg_M h) : Sm_ RV_ (f_X13_word nn 160 a1 (H_M h)) (qf_X13_word nn y_a1 h) := by
  unfold f_X13_word qf_X13_word
  refine sm_gi hM_h rfl ?_; intro v1 e_v1
  refine sm_eq e_v1 rfl ?_ ?_
  · refine sm_gi hM_h rfl ?_; intro v2 e_v2
    refine sm_is hM_h rfl ?_
    refine sm_cP (sf_X13_isWord nn e_v2 e_a1 hM_h) ?_; intro u4 y_u4 e_u4
    refine sm_eq e_u4 rfl ?_ ?_
    · refine sm_is hM_h rfl ?_
      refine sm_cV (sf_X13_misplaced nn hM_h) ?_; intro u6 hM_u6
      exact sm_rV hM_u6
    · refine sm_gi hM_h rfl ?_; intro v7 e_v7
      refine sm_oq_add e_v7 rfl ?_; intro v8 y_v8 e_v8
      refine sm_pv hM_h rfl e_v8 ?_; intro h9 hM_h9
      exact sm_rV hM_h9
  · exact sm_rV hM_h
def hg_X13_block (frc : tg_X13_block) (rc : tq_X13_block) : Prop := (∀ {a1 : Int32} {y_a1 : Int} (e_a1 : a1.toInt = y_a1) {h : ms_M} (hM_h : Rg_M h), Sm_ RI_ (frc.1 160 a1 (H_M h)) (rc.1 y_a1 h)) ∧ (∀ {a1 : Int32} {y_a1 : Int} (e_a1 : a1.toInt = y_a1) {h : ms_M} (hM_h : Rg_M h), Sm_ RI_ (frc.2 160 a1 (H_M h)) (rc.2 y_a1 h))
set_option maxRecDepth 4000 in
theorem sj_X13_block_79 (nn : Nat) {frc : tg_X13_block} {rc : tq_X13_block} (hr : hg_X13_block frc rc) {l2 : Int32} {y_l2 : Int} (e_l2 : l2.toInt = y_l2) {h : ms_M} (hM_h : Rg_M h) : Sm_ RI_ (j_X13_block_79 nn frc 160 l2 (H_M h)) (qj_X13_block_79 nn rc y_l2 h) := by
  unfold j_X13_block_79 qj_X13_block_79
  refine sm_is hM_h rfl ?_
  refine sm_cV (sf_X13_sign_ nn rfl hM_h) ?_; intro u2 hM_u2
  exact sm_rI e_l2 hM_u2
set_option maxRecDepth 4000 in
theorem sw_X13_block_22 (nn : Nat) {frc : tg_X13_block} {rc : tq_X13_block} (hr : hg_X13_block frc rc) : ∀ (k : Nat) {l1 : Int32} {y_l1 : Int} (e_l1 : l1.toInt = y_l1) {l2 : Int32} {y_l2 : Int} (e_l2 : l2.toInt = y_l2) {l3 : Int32} {y_l3 : Int} (e_l3 : l3.toInt = y_l3) {h : ms_M} (hM_h : Rg_M h), Sm_ RI_ (w_X13_block_22 nn frc k 160 l1 l2 l3 (H_M h)) (qw_X13_block_22 nn rc k y_l1 y_l2 y_l3 h) := by
  intro k
  induction k with
  | zero => intros; exact sm_no
  | succ k ih =>
    intro l1 y_l1 e_l1 l2 y_l2 e_l2 l3 y_l3 e_l3 h hM_h
    unfold w_X13_block_22 qw_X13_block_22
    refine sm_gi hM_h rfl ?_; intro v3 e_v3
    refine sm_ne e_v3 rfl ?_ ?_
    · exact sj_X13_block_79 nn hr e_l2 hM_h
    · refine sm_gi hM_h rfl ?_; intro v4 e_v4
      refine sm_is hM_h rfl ?_
      refine sm_cP (sf_X13_isSign nn e_v4 rfl hM_h) ?_; intro u6 y_u6 e_u6
      refine sm_ne e_u6 rfl ?_ ?_
      · exact sj_X13_block_79 nn hr e_l2 hM_h
      · refine sm_is hM_h rfl ?_
        refine sm_cI (hr.2 e_l1 hM_h) ?_; intro u8 y_u8 M_u8 e_u8 hM_u8
        refine sm_ne e_l3 rfl ?_ ?_
        · refine sm_gr hM_u8 (d := 173) rfl ?_
          refine sm_si hM_u8 rfl e_l3 e_u8 ?_; intro h10 hM_h10
          exact ih e_l1 e_l2 e_u8 hM_h10
        · refine sm_gr hM_u8 (d := 170) rfl ?_
          refine sm_si hM_u8 rfl e_l2 e_u8 ?_; intro h12 hM_h12
          exact ih e_l1 e_l2 e_u8 hM_h12
set_option maxRecDepth 4000 in
theorem so_X13_block (nn : Nat) {frc : tg_X13_block} {rc : tq_X13_block} (hr : hg_X13_block frc rc) {a1 : Int32} {y_a1 : Int} (e_a1 : a1.toInt = y_a1) {h : ms_M} (hM_h : Rg_M h) : Sm_ RI_ (o_X13_block nn frc 160 a1 (H_M h)) (qo_X13_block nn rc y_a1 h) := by
  unfold o_X13_block qo_X13_block
  refine sm_gi hM_h rfl ?_; intro v16 e_v16
  refine sm_gi hM_h rfl ?_; intro v17 e_v17
  refine sm_is hM_h rfl ?_
  refine sm_cI (sf_X13_add nn rfl e_v16 e_v17 hM_h) ?_; intro u19 y_u19 M_u19 e_u19 hM_u19
  refine sm_is hM_u19 rfl ?_
  refine sm_cV (sf_X13_sign_ nn rfl hM_u19) ?_; intro u21 hM_u21
  exact sw_X13_block_22 nn hr nn e_a1 e_u19 rfl hM_u21
set_option maxRecDepth 4000 in
theorem sj_X13_statement_755 (nn : Nat) {frc : tg_X13_block} {rc : tq_X13_block} (hr : hg_X13_block frc rc) {l1 : Int32} {y_l1 : Int} (e_l1 : l1.toInt = y_l1) {h : ms_M} (hM_h : Rg_M h) : Sm_ RI_ (j_X13_statement_755 nn frc 160 l1 (H_M h)) (qj_X13_statement_755 nn rc y_l1 h) := by
  unfold j_X13_statement_755 qj_X13_statement_755
  refine sm_is hM_h rfl ?_
  refine sm_cI (sf_X13_plain nn e_l1 hM_h) ?_; intro u2 y_u2 M_u2 e_u2 hM_u2
  exact sm_rI e_u2 hM_u2
set_option maxRecDepth 4000 in
theorem sj_X13_statement_698 (nn : Nat) {frc : tg_X13_block} {rc : tq_X13_block} (hr : hg_X13_block frc rc) {l3 : Int32} {y_l3 : Int} (e_l3 : l3.toInt = y_l3) {h : ms_M} (hM_h : Rg_M h) : Sm_ RI_ (j_X13_statement_698 nn frc l3 (H_M h)) (qj_X13_statement_698 nn rc y_l3 h) := by
  unfold j_X13_statement_698 qj_X13_statement_698
  exact sm_rI e_l3 hM_h
set_option maxRecDepth 4000 in
theorem sj_X13_statement_562 (nn : Nat) {frc : tg_X13_block} {rc : tq_X13_block} (hr : hg_X13_block frc rc) {l3 : Int32} {y_l3 : Int} (e_l3 : l3.toInt = y_l3) {h : ms_M} (hM_h : Rg_M h) : Sm_ RI_ (j_X13_statement_562 nn frc 160 l3 (H_M h)) (qj_X13_statement_562 nn rc y_l3 h) := by
  unfold j_X13_statement_562 qj_X13_statement_562
  refine sm_is hM_h rfl ?_
  refine sm_cV (sf_X13_sign_ nn rfl hM_h) ?_; intro u4 hM_u4
  exact sm_rI e_l3 hM_u4
set_option maxRecDepth 4000 in
theorem sj_X13_statement_487 (nn : Nat) {frc : tg_X13_block} {rc : tq_X13_block} (hr : hg_X13_block frc rc) {l2 : Int32} {y_l2 : Int} (e_l2 : l2.toInt = y_l2) {s0 : Int32} {y_s0 : Int} (e_s0 : s0.toInt = y_s0) {h : ms_M} (hM_h : Rg_M h) : Sm_ RI_ (j_X13_statement_487 nn frc 160 l2 s0 160 (H_M h)) (qj_X13_statement_487 nn rc y_l2 y_s0 h) := by
  unfold j_X13_statement_487 qj_X13_statement_487
  refine sm_gi hM_h rfl ?_; intro v5 e_v5
  refine sm_is hM_h rfl ?_
  refine sm_cI (sf_X13_add nn e_s0 e_v5 e_l2 hM_h) ?_; intro u7 y_u7 M_u7 e_u7 hM_u7
  refine sm_gi hM_u7 rfl ?_; intro v8 e_v8
  refine sm_oq_add e_v8 rfl ?_; intro v9 y_v9 e_v9
  refine sm_pv hM_u7 rfl e_v9 ?_; intro h10 hM_h10
  refine sm_is hM_h10 rfl ?_
  refine sm_cV (sf_X13_sign_ nn rfl hM_h10) ?_; intro u12 hM_u12
  exact sm_rI e_u7 hM_u12
set_option maxRecDepth 4000 in
theorem sj_X13_statement_467 (nn : Nat) {frc : tg_X13_block} {rc : tq_X13_block} (hr : hg_X13_block frc rc) {l2 : Int32} {y_l2 : Int} (e_l2 : l2.toInt = y_l2) {h : ms_M} (hM_h : Rg_M h) : Sm_ RI_ (j_X13_statement_467 nn frc 160 l2 (H_M h)) (qj_X13_statement_467 nn rc y_l2 h) := by
  unfold j_X13_statement_467 qj_X13_statement_467
  refine sm_gr hM_h (d := 166) rfl ?_
  refine sm_gi hM_h rfl ?_; intro v14 e_v14
  refine sm_ai hM_h rfl e_v14 ?_; intro v15 y_v15 e_v15
  refine sm_ne e_v15 rfl ?_ ?_
  · exact sj_X13_statement_487 nn hr e_l2 rfl hM_h
  · exact sj_X13_statement_487 nn hr e_l2 rfl hM_h
set_option maxRecDepth 4000 in
theorem sj_X13_statement_432 (nn : Nat) {frc : tg_X13_block} {rc : tq_X13_block} (hr : hg_X13_block frc rc) {l1 : Int32} {y_l1 : Int} (e_l1 : l1.toInt = y_l1) {l3 : Int32} {y_l3 : Int} (e_l3 : l3.toInt = y_l3) {s0 : Int32} {y_s0 : Int} (e_s0 : s0.toInt = y_s0) {s1 : Int32} {y_s1 : Int} (e_s1 : s1.toInt = y_s1) {h : ms_M} (hM_h : Rg_M h) : Sm_ RI_ (j_X13_statement_432 nn frc 160 l1 l3 s0 s1 175 (H_M h)) (qj_X13_statement_432 nn rc y_l1 y_l3 y_s0 y_s1 h) := by
  unfold j_X13_statement_432 qj_X13_statement_432
  refine sm_si hM_h rfl e_s1 e_s0 ?_; intro h17 hM_h17
  refine sm_gr hM_h17 (d := 170) rfl ?_
  refine sm_oq_add e_l1 rfl ?_; intro v19 y_v19 e_v19
  refine sm_is hM_h17 rfl ?_
  refine sm_cI (sf_X13_expression nn e_v19 hM_h17) ?_; intro u21 y_u21 M_u21 e_u21 hM_u21
  refine sm_si hM_u21 rfl e_l3 e_u21 ?_; intro h22 hM_h22
  refine sm_is hM_h22 rfl ?_
  refine sm_cV (sf_X13_sign_ nn rfl hM_h22) ?_; intro u24 hM_u24
  refine sm_gr hM_u24 (d := 171) rfl ?_
  refine sm_oq_add e_l1 rfl ?_; intro v26 y_v26 e_v26
  refine sm_is hM_u24 rfl ?_
  refine sm_cI (hr.2 e_v26 hM_u24) ?_; intro u28 y_u28 M_u28 e_u28 hM_u28
  refine sm_si hM_u28 rfl e_l3 e_u28 ?_; intro h29 hM_h29
  exact sm_rI e_l3 hM_h29
set_option maxRecDepth 4000 in
theorem sj_X13_statement_431 (nn : Nat) {frc : tg_X13_block} {rc : tq_X13_block} (hr : hg_X13_block frc rc) {l1 : Int32} {y_l1 : Int} (e_l1 : l1.toInt = y_l1) {l3 : Int32} {y_l3 : Int} (e_l3 : l3.toInt = y_l3) {s0 : Int32} {y_s0 : Int} (e_s0 : s0.toInt = y_s0) {h : ms_M} (hM_h : Rg_M h) : Sm_ RI_ (j_X13_statement_431 nn frc 160 l1 l3 s0 175 (H_M h)) (qj_X13_statement_431 nn rc y_l1 y_l3 y_s0 h) := by
  unfold j_X13_statement_431 qj_X13_statement_431
  exact sj_X13_statement_432 nn hr e_l1 e_l3 rfl e_s0 hM_h
set_option maxRecDepth 4000 in
theorem sj_X13_statement_310 (nn : Nat) {frc : tg_X13_block} {rc : tq_X13_block} (hr : hg_X13_block frc rc) {l1 : Int32} {y_l1 : Int} (e_l1 : l1.toInt = y_l1) {l3 : Int32} {y_l3 : Int} (e_l3 : l3.toInt = y_l3) {h : ms_M} (hM_h : Rg_M h) : Sm_ RI_ (j_X13_statement_310 nn frc 160 l1 l3 (H_M h)) (qj_X13_statement_310 nn rc y_l1 y_l3 h) := by
  unfold j_X13_statement_310 qj_X13_statement_310
  refine sm_gr hM_h (d := 171) rfl ?_
  refine sm_oq_add e_l1 rfl ?_; intro v31 y_v31 e_v31
  refine sm_is hM_h rfl ?_
  refine sm_cI (hr.2 e_v31 hM_h) ?_; intro u33 y_u33 M_u33 e_u33 hM_u33
  refine sm_si hM_u33 rfl e_l3 e_u33 ?_; intro h34 hM_h34
  refine sm_gi hM_h34 rfl ?_; intro v35 e_v35
  refine sm_ne e_v35 rfl ?_ ?_
  · exact sm_rI e_l3 hM_h34
  · refine sm_gi hM_h34 rfl ?_; intro v36 e_v36
    refine sm_is hM_h34 rfl ?_
    refine sm_cP (sf_X13_isWord nn e_v36 rfl hM_h34) ?_; intro u38 y_u38 e_u38
    refine sm_eq e_u38 rfl ?_ ?_
    · exact sm_rI e_l3 hM_h34
    · refine sm_gi hM_h34 rfl ?_; intro v39 e_v39
      refine sm_oq_add e_v39 rfl ?_; intro v40 y_v40 e_v40
      refine sm_pv hM_h34 rfl e_v40 ?_; intro h41 hM_h41
      refine sm_gr hM_h41 (d := 172) rfl ?_
      refine sm_oq_add e_l1 rfl ?_; intro v43 y_v43 e_v43
      refine sm_is hM_h41 rfl ?_
      refine sm_cI (hr.2 e_v43 hM_h41) ?_; intro u45 y_u45 M_u45 e_u45 hM_u45
      refine sm_si hM_u45 rfl e_l3 e_u45 ?_; intro h46 hM_h46
      exact sm_rI e_l3 hM_h46
set_option maxRecDepth 4000 in
theorem sj_X13_statement_78 (nn : Nat) {frc : tg_X13_block} {rc : tq_X13_block} (hr : hg_X13_block frc rc) {l1 : Int32} {y_l1 : Int} (e_l1 : l1.toInt = y_l1) {l3 : Int32} {y_l3 : Int} (e_l3 : l3.toInt = y_l3) {s0 : Int32} {y_s0 : Int} (e_s0 : s0.toInt = y_s0) {s1 : Int32} {y_s1 : Int} (e_s1 : s1.toInt = y_s1) {s2 : Int32} {y_s2 : Int} (e_s2 : s2.toInt = y_s2) {h : ms_M} (hM_h : Rg_M h) : Sm_ RI_ (j_X13_statement_78 nn frc 160 l1 l3 s0 s1 s2 172 (H_M h)) (qj_X13_statement_78 nn rc y_l1 y_l3 y_s0 y_s1 y_s2 h) := by
  unfold j_X13_statement_78 qj_X13_statement_78
  refine sm_oq_add e_s1 e_s0 ?_; intro v49 y_v49 e_v49
  refine sm_si hM_h rfl e_s2 e_v49 ?_; intro h50 hM_h50
  refine sm_gr hM_h50 (d := 175) rfl ?_
  refine sm_gi hM_h50 rfl ?_; intro v52 e_v52
  refine sm_si hM_h50 rfl e_l3 e_v52 ?_; intro h53 hM_h53
  refine sm_gr hM_h53 (d := 168) rfl ?_
  refine sm_is hM_h53 rfl ?_
  refine sm_cI (sf_X13_name nn hM_h53) ?_; intro u56 y_u56 M_u56 e_u56 hM_u56
  refine sm_si hM_u56 rfl e_l3 e_u56 ?_; intro h57 hM_h57
  refine sm_gr hM_h57 (d := 176) rfl ?_
  refine sm_gi hM_h57 rfl ?_; intro v59 e_v59
  refine sm_si hM_h57 rfl e_l3 e_v59 ?_; intro h60 hM_h60
  refine sm_is hM_h60 rfl ?_
  refine sm_cV (sf_X13_sign_ nn rfl hM_h60) ?_; intro u62 hM_u62
  refine sm_gr hM_u62 (d := 170) rfl ?_
  refine sm_oq_add e_l1 rfl ?_; intro v64 y_v64 e_v64
  refine sm_is hM_u62 rfl ?_
  refine sm_cI (sf_X13_expression nn e_v64 hM_u62) ?_; intro u66 y_u66 M_u66 e_u66 hM_u66
  refine sm_si hM_u66 rfl e_l3 e_u66 ?_; intro h67 hM_h67
  refine sm_is hM_h67 rfl ?_
  refine sm_cV (sf_X13_sign_ nn rfl hM_h67) ?_; intro u69 hM_u69
  exact sm_rI e_l3 hM_u69
set_option maxRecDepth 4000 in
theorem so_X13_statement (nn : Nat) {frc : tg_X13_block} {rc : tq_X13_block} (hr : hg_X13_block frc rc) {a1 : Int32} {y_a1 : Int} (e_a1 : a1.toInt = y_a1) {h : ms_M} (hM_h : Rg_M h) : Sm_ RI_ (o_X13_statement nn frc 160 a1 (H_M h)) (qo_X13_statement nn rc y_a1 h) := by
  unfold o_X13_statement qo_X13_statement
  refine sm_is hM_h rfl ?_
  refine sm_cI (sf_X13_isDeep nn e_a1 hM_h) ?_; intro u71 y_u71 M_u71 e_u71 hM_u71
  refine sm_eq e_u71 rfl ?_ ?_
  · refine sm_gi hM_u71 rfl ?_; intro v72 e_v72
    refine sm_gi hM_u71 rfl ?_; intro v73 e_v73
    refine sm_is hM_u71 rfl ?_
    refine sm_cP (sf_X13_isSign nn e_v73 rfl hM_u71) ?_; intro u75 y_u75 e_u75
    refine sm_eq e_u75 rfl ?_ ?_
    · refine sm_is hM_u71 rfl ?_
      refine sm_cP (sf_X13_isTyped nn hM_u71) ?_; intro u77 y_u77 e_u77
      refine sm_eq e_u77 rfl ?_ ?_
      · refine sm_gr hM_u71 (d := 163) rfl ?_
        refine sm_gi hM_u71 rfl ?_; intro v79 e_v79
        refine sm_ai hM_u71 rfl e_v79 ?_; intro v80 y_v80 e_v80
        refine sm_eq e_v80 rfl ?_ ?_
        · refine sm_gr hM_u71 (d := 166) rfl ?_
          refine sm_gi hM_u71 rfl ?_; intro v82 e_v82
          refine sm_ai hM_u71 rfl e_v82 ?_; intro v83 y_v83 e_v83
          refine sm_eq e_v83 rfl ?_ ?_
          · exact sj_X13_statement_467 nn hr e_v72 hM_u71
          · refine sm_eq e_v83 rfl ?_ ?_
            · exact sj_X13_statement_467 nn hr e_v72 hM_u71
            · refine sm_eq e_v83 rfl ?_ ?_
              · refine sm_gi hM_u71 rfl ?_; intro v84 e_v84
                refine sm_is hM_u71 rfl ?_
                refine sm_cI (sf_X13_add nn rfl e_v84 e_v72 hM_u71) ?_; intro u86 y_u86 M_u86 e_u86 hM_u86
                refine sm_gi hM_u86 rfl ?_; intro v87 e_v87
                refine sm_oq_add e_v87 rfl ?_; intro v88 y_v88 e_v88
                refine sm_pv hM_u86 rfl e_v88 ?_; intro h89 hM_h89
                refine sm_is hM_h89 rfl ?_
                refine sm_cV (sf_X13_sign_ nn rfl hM_h89) ?_; intro u91 hM_u91
                refine sm_gr hM_u91 (d := 170) rfl ?_
                refine sm_oq_add e_a1 rfl ?_; intro v93 y_v93 e_v93
                refine sm_is hM_u91 rfl ?_
                refine sm_cI (sf_X13_expression nn e_v93 hM_u91) ?_; intro u95 y_u95 M_u95 e_u95 hM_u95
                refine sm_si hM_u95 rfl e_u86 e_u95 ?_; intro h96 hM_h96
                refine sm_is hM_h96 rfl ?_
                refine sm_cV (sf_X13_sign_ nn rfl hM_h96) ?_; intro u98 hM_u98
                exact sj_X13_statement_310 nn hr e_a1 e_u86 hM_u98
              · refine sm_eq e_v83 rfl ?_ ?_
                · refine sm_gi hM_u71 rfl ?_; intro v99 e_v99
                  refine sm_is hM_u71 rfl ?_
                  refine sm_cI (sf_X13_add nn rfl e_v99 e_v72 hM_u71) ?_; intro u101 y_u101 M_u101 e_u101 hM_u101
                  refine sm_gi hM_u101 rfl ?_; intro v102 e_v102
                  refine sm_oq_add e_v102 rfl ?_; intro v103 y_v103 e_v103
                  refine sm_pv hM_u101 rfl e_v103 ?_; intro h104 hM_h104
                  refine sm_is hM_h104 rfl ?_
                  refine sm_cV (sf_X13_sign_ nn rfl hM_h104) ?_; intro u106 hM_u106
                  refine sm_gr hM_u106 (d := 170) rfl ?_
                  refine sm_oq_add e_a1 rfl ?_; intro v108 y_v108 e_v108
                  refine sm_is hM_u106 rfl ?_
                  refine sm_cI (sf_X13_expression nn e_v108 hM_u106) ?_; intro u110 y_u110 M_u110 e_u110 hM_u110
                  refine sm_si hM_u110 rfl e_u101 e_u110 ?_; intro h111 hM_h111
                  refine sm_is hM_h111 rfl ?_
                  refine sm_cV (sf_X13_sign_ nn rfl hM_h111) ?_; intro u113 hM_u113
                  refine sm_is hM_u113 rfl ?_
                  refine sm_cV (sf_X13_sign_ nn rfl hM_u113) ?_; intro u115 hM_u115
                  exact sm_rI e_u101 hM_u115
                · refine sm_eq e_v83 rfl ?_ ?_
                  · refine sm_gi hM_u71 rfl ?_; intro v116 e_v116
                    refine sm_is hM_u71 rfl ?_
                    refine sm_cI (sf_X13_add nn rfl e_v116 e_v72 hM_u71) ?_; intro u118 y_u118 M_u118 e_u118 hM_u118
                    refine sm_gi hM_u118 rfl ?_; intro v119 e_v119
                    refine sm_oq_add e_v119 rfl ?_; intro v120 y_v120 e_v120
                    refine sm_pv hM_u118 rfl e_v120 ?_; intro h121 hM_h121
                    refine sm_gi hM_h121 rfl ?_; intro v122 e_v122
                    refine sm_is hM_h121 rfl ?_
                    refine sm_cP (sf_X13_isSign nn e_v122 rfl hM_h121) ?_; intro u124 y_u124 e_u124
                    refine sm_ne e_u124 rfl ?_ ?_
                    · exact sj_X13_statement_562 nn hr e_u118 hM_h121
                    · refine sm_gr hM_h121 (d := 170) rfl ?_
                      refine sm_oq_add e_a1 rfl ?_; intro v126 y_v126 e_v126
                      refine sm_is hM_h121 rfl ?_
                      refine sm_cI (sf_X13_expression nn e_v126 hM_h121) ?_; intro u128 y_u128 M_u128 e_u128 hM_u128
                      refine sm_si hM_u128 rfl e_u118 e_u128 ?_; intro h129 hM_h129
                      exact sj_X13_statement_562 nn hr e_u118 hM_h129
                  · refine sm_eq e_v83 rfl ?_ ?_
                    · refine sm_gi hM_u71 rfl ?_; intro v131 e_v131
                      refine sm_is hM_u71 rfl ?_
                      refine sm_cI (sf_X13_add nn rfl e_v131 e_v72 hM_u71) ?_; intro u133 y_u133 M_u133 e_u133 hM_u133
                      refine sm_gi hM_u133 rfl ?_; intro v134 e_v134
                      refine sm_oq_add e_v134 rfl ?_; intro v135 y_v135 e_v135
                      refine sm_pv hM_u133 rfl e_v135 ?_; intro h136 hM_h136
                      refine sm_gr hM_h136 (d := 170) rfl ?_
                      refine sm_oq_add e_a1 rfl ?_; intro v138 y_v138 e_v138
                      refine sm_is hM_h136 rfl ?_
                      refine sm_cI (sf_X13_expression nn e_v138 hM_h136) ?_; intro u140 y_u140 M_u140 e_u140 hM_u140
                      refine sm_si hM_u140 rfl e_u133 e_u140 ?_; intro h141 hM_h141
                      refine sm_is hM_h141 rfl ?_
                      refine sm_cV (sf_X13_sign_ nn rfl hM_h141) ?_; intro u143 hM_u143
                      exact sm_rI e_u133 hM_u143
                    · refine sm_eq e_v83 rfl ?_ ?_
                      · refine sm_gi hM_u71 rfl ?_; intro v144 e_v144
                        refine sm_is hM_u71 rfl ?_
                        refine sm_cI (sf_X13_add nn rfl e_v144 e_v72 hM_u71) ?_; intro u146 y_u146 M_u146 e_u146 hM_u146
                        refine sm_gi hM_u146 rfl ?_; intro v147 e_v147
                        refine sm_oq_add e_v147 rfl ?_; intro v148 y_v148 e_v148
                        refine sm_pv hM_u146 rfl e_v148 ?_; intro h149 hM_h149
                        refine sm_gr hM_h149 (d := 170) rfl ?_
                        refine sm_oq_add e_a1 rfl ?_; intro v151 y_v151 e_v151
                        refine sm_is hM_h149 rfl ?_
                        refine sm_cI (hr.1 e_v151 hM_h149) ?_; intro u153 y_u153 M_u153 e_u153 hM_u153
                        refine sm_si hM_u153 rfl e_u146 e_u153 ?_; intro h154 hM_h154
                        refine sm_is hM_h154 rfl ?_
                        refine sm_cV (sf_X13_word nn rfl hM_h154) ?_; intro u156 hM_u156
                        refine sm_is hM_u156 rfl ?_
                        refine sm_cV (sf_X13_sign_ nn rfl hM_u156) ?_; intro u158 hM_u158
                        refine sm_gr hM_u158 (d := 168) rfl ?_
                        refine sm_is hM_u158 rfl ?_
                        refine sm_cI (sf_X13_name nn hM_u158) ?_; intro u161 y_u161 M_u161 e_u161 hM_u161
                        refine sm_si hM_u161 rfl e_u146 e_u161 ?_; intro h162 hM_h162
                        refine sm_gr hM_h162 (d := 176) rfl ?_
                        refine sm_is hM_h162 rfl ?_
                        refine sm_cI (sf_X13_name nn hM_h162) ?_; intro u165 y_u165 M_u165 e_u165 hM_u165
                        refine sm_si hM_u165 rfl e_u146 e_u165 ?_; intro h166 hM_h166
                        refine sm_is hM_h166 rfl ?_
                        refine sm_cV (sf_X13_sign_ nn rfl hM_h166) ?_; intro u168 hM_u168
                        refine sm_gr hM_u168 (d := 171) rfl ?_
                        refine sm_oq_add e_a1 rfl ?_; intro v170 y_v170 e_v170
                        refine sm_is hM_u168 rfl ?_
                        refine sm_cI (hr.1 e_v170 hM_u168) ?_; intro u172 y_u172 M_u172 e_u172 hM_u172
                        refine sm_si hM_u172 rfl e_u146 e_u172 ?_; intro h173 hM_h173
                        exact sj_X13_statement_698 nn hr e_u146 hM_h173
                      · refine sm_eq e_v83 rfl ?_ ?_
                        · refine sm_gi hM_u71 rfl ?_; intro v174 e_v174
                          refine sm_is hM_u71 rfl ?_
                          refine sm_cI (sf_X13_add nn rfl e_v174 e_v72 hM_u71) ?_; intro u176 y_u176 M_u176 e_u176 hM_u176
                          refine sm_gi hM_u176 rfl ?_; intro v177 e_v177
                          refine sm_oq_add e_v177 rfl ?_; intro v178 y_v178 e_v178
                          refine sm_pv hM_u176 rfl e_v178 ?_; intro h179 hM_h179
                          refine sm_is hM_h179 rfl ?_
                          refine sm_cV (sf_X13_sign_ nn rfl hM_h179) ?_; intro u181 hM_u181
                          refine sm_gr hM_u181 (d := 175) rfl ?_
                          refine sm_gi hM_u181 rfl ?_; intro v183 e_v183
                          refine sm_is hM_u181 rfl ?_
                          refine sm_cP (sf_X13_isWord nn e_v183 rfl hM_u181) ?_; intro u185 y_u185 e_u185
                          refine sm_eq e_u185 rfl ?_ ?_
                          · exact sj_X13_statement_431 nn hr e_a1 e_u176 e_u176 hM_u181
                          · refine sm_gi hM_u181 rfl ?_; intro v186 e_v186
                            refine sm_oq_add e_v186 rfl ?_; intro v187 y_v187 e_v187
                            refine sm_is hM_u181 rfl ?_
                            refine sm_cP (sf_X13_isSign nn e_v187 rfl hM_u181) ?_; intro u189 y_u189 e_u189
                            refine sm_eq e_u189 rfl ?_ ?_
                            · exact sj_X13_statement_431 nn hr e_a1 e_u176 e_u176 hM_u181
                            · exact sj_X13_statement_432 nn hr e_a1 e_u176 rfl e_u176 hM_u181
                        · exact sj_X13_statement_755 nn hr e_a1 hM_u71
        · refine sm_is hM_u71 rfl ?_
          refine sm_cI (sf_X13_plain nn e_a1 hM_u71) ?_; intro u193 y_u193 M_u193 e_u193 hM_u193
          exact sm_rI e_u193 hM_u193
      · refine sm_is hM_u71 rfl ?_
        refine sm_cV (sf_X13_type nn hM_u71) ?_; intro u196 hM_u196
        refine sm_is hM_u196 rfl ?_
        refine sm_cI (sf_X13_add nn rfl rfl e_v72 hM_u196) ?_; intro u198 y_u198 M_u198 e_u198 hM_u198
        refine sm_gr hM_u198 (d := 172) rfl ?_
        refine sm_gi hM_u198 rfl ?_; intro v200 e_v200
        refine sm_oq_mul rfl e_v200 ?_; intro v201 y_v201 e_v201
        refine sm_gi hM_u198 rfl ?_; intro v202 e_v202
        refine sm_eq e_v202 rfl ?_ ?_
        · exact sj_X13_statement_78 nn hr e_a1 e_u198 rfl e_v201 e_u198 hM_u198
        · exact sj_X13_statement_78 nn hr e_a1 e_u198 rfl e_v201 e_u198 hM_u198
    · refine sm_oq_add e_a1 rfl ?_; intro v205 y_v205 e_v205
      refine sm_is hM_u71 rfl ?_
      refine sm_cI (hr.1 e_v205 hM_u71) ?_; intro u207 y_u207 M_u207 e_u207 hM_u207
      exact sm_rI e_u207 hM_u207
  · exact sm_rI rfl hM_u71
set_option maxRecDepth 4000 in
theorem sg_X13_block (nn : Nat) : ∀ d, hg_X13_block (g_X13_block nn d) (qg_X13_block nn d) := by
  intro d
  induction d with
  | zero => exact ⟨(by intros; exact sm_no), (by intros; exact sm_no)⟩
  | succ d ih => exact ⟨so_X13_block nn ih, so_X13_statement nn ih⟩
set_option maxRecDepth 4000 in
theorem sf_X13_block (nn : Nat) {a1 : Int32} {y_a1 : Int} (e_a1 : a1.toInt = y_a1) {h : ms_M} (hM_h : Rg_M h) : Sm_ RI_ (f_X13_block nn 160 a1 (H_M h)) (qf_X13_block nn y_a1 h) := (sg_X13_block nn 160).1 e_a1 hM_h
set_option maxRecDepth 4000 in
theorem sf_X13_statement (nn : Nat) {a1 : Int32} {y_a1 : Int} (e_a1 : a1.toInt = y_a1) {h : ms_M} (hM_h : Rg_M h) : Sm_ RI_ (f_X13_statement nn 160 a1 (H_M h)) (qf_X13_statement nn y_a1 h) := (sg_X13_block nn 160).2 e_a1 hM_h
set_option maxRecDepth 4000 in
theorem sj_X13_member_360 (nn : Nat) {l3 : Int32} {y_l3 : Int} (e_l3 : l3.toInt = y_l3) {h : ms_M} (hM_h : Rg_M h) : Sm_ RV_ (j_X13_member_360 nn 160 l3 (H_M h)) (qj_X13_member_360 nn y_l3 h) := by
  unfold j_X13_member_360 qj_X13_member_360
  refine sm_is hM_h rfl ?_
  refine sm_cV (sf_X13_sign_ nn rfl hM_h) ?_; intro u2 hM_u2
  refine sm_gr hM_u2 (d := 190) rfl ?_
  refine sm_is hM_u2 rfl ?_
  refine sm_cI (sf_X13_block nn rfl hM_u2) ?_; intro u5 y_u5 M_u5 e_u5 hM_u5
  refine sm_si hM_u5 rfl e_l3 e_u5 ?_; intro h6 hM_h6
  exact sm_rV hM_h6
set_option maxRecDepth 4000 in
theorem sj_X13_member_269 (nn : Nat) {kk_234 : Nat → Int32 → mx_H → Option mx_H} {qkk_234 : Int → ms_M → Option ms_M} (hk_kk_234 : ∀ {l3 : Int32} {y_l3 : Int} (e_l3 : l3.toInt = y_l3) {h : ms_M} (hM_h : Rg_M h), Sm_ RV_ (kk_234 160 l3 (H_M h)) (qkk_234 y_l3 h)) {l3 : Int32} {y_l3 : Int} (e_l3 : l3.toInt = y_l3) {h : ms_M} (hM_h : Rg_M h) : Sm_ RV_ (j_X13_member_269 nn kk_234 160 l3 (H_M h)) (qj_X13_member_269 nn qkk_234 y_l3 h) := by
  unfold j_X13_member_269 qj_X13_member_269
  refine sm_is hM_h rfl ?_
  refine sm_cV (sf_X13_type nn hM_h) ?_; intro u8 hM_u8
  refine sm_is hM_u8 rfl ?_
  refine sm_cI (sf_X13_name nn hM_u8) ?_; intro u10 y_u10 M_u10 e_u10 hM_u10
  refine sm_gi hM_u10 rfl ?_; intro v11 e_v11
  refine sm_eq e_v11 rfl ?_ ?_
  · refine sm_gr hM_u10 (d := 191) rfl ?_
    refine sm_gi hM_u10 rfl ?_; intro v13 e_v13
    refine sm_gi hM_u10 rfl ?_; intro v14 e_v14
    refine sm_si hM_u10 rfl e_v13 e_v14 ?_; intro h15 hM_h15
    refine sm_gr hM_h15 (d := 192) rfl ?_
    refine sm_gi hM_h15 rfl ?_; intro v17 e_v17
    refine sm_gi hM_h15 rfl ?_; intro v18 e_v18
    refine sm_si hM_h15 rfl e_v17 e_v18 ?_; intro h19 hM_h19
    refine sm_gr hM_h19 (d := 193) rfl ?_
    refine sm_gi hM_h19 rfl ?_; intro v21 e_v21
    refine sm_gi hM_h19 rfl ?_; intro v22 e_v22
    refine sm_sz hM_h19 rfl e_v21 e_v22 ?_; intro h23 hM_h23
    refine sm_gr hM_h23 (d := 194) rfl ?_
    refine sm_gi hM_h23 rfl ?_; intro v25 e_v25
    refine sm_si hM_h23 rfl e_v25 e_u10 ?_; intro h26 hM_h26
    refine sm_gi hM_h26 rfl ?_; intro v27 e_v27
    refine sm_oq_add e_v27 rfl ?_; intro v28 y_v28 e_v28
    refine sm_pv hM_h26 rfl e_v28 ?_; intro h29 hM_h29
    refine sm_gr hM_h29 (d := 189) rfl ?_
    refine sm_ai hM_h29 rfl e_l3 ?_; intro v31 y_v31 e_v31
    refine sm_oq_add e_v31 rfl ?_; intro v32 y_v32 e_v32
    refine sm_si hM_h29 rfl e_l3 e_v32 ?_; intro h33 hM_h33
    exact hk_kk_234 e_l3 hM_h33
  · exact sm_rV hM_u10
set_option maxRecDepth 4000 in
theorem sw_X13_member_234 (nn : Nat) : ∀ (k : Nat) {l3 : Int32} {y_l3 : Int} (e_l3 : l3.toInt = y_l3) {h : ms_M} (hM_h : Rg_M h), Sm_ RV_ (w_X13_member_234 nn k 160 l3 (H_M h)) (qw_X13_member_234 nn k y_l3 h) := by
  intro k
  induction k with
  | zero => intros; exact sm_no
  | succ k ih =>
    intro l3 y_l3 e_l3 h hM_h
    unfold w_X13_member_234 qw_X13_member_234
    refine sm_gi hM_h rfl ?_; intro v35 e_v35
    refine sm_ne e_v35 rfl ?_ ?_
    · exact sj_X13_member_360 nn e_l3 hM_h
    · refine sm_gi hM_h rfl ?_; intro v36 e_v36
      refine sm_is hM_h rfl ?_
      refine sm_cP (sf_X13_isSign nn e_v36 rfl hM_h) ?_; intro u38 y_u38 e_u38
      refine sm_ne e_u38 rfl ?_ ?_
      · exact sj_X13_member_360 nn e_l3 hM_h
      · refine sm_gr hM_h (d := 189) rfl ?_
        refine sm_ai hM_h rfl e_l3 ?_; intro v40 y_v40 e_v40
        refine sm_le e_v40 rfl ?_ ?_
        · exact sj_X13_member_269 nn ih e_l3 hM_h
        · refine sm_is hM_h rfl ?_
          refine sm_cV (sf_X13_sign_ nn rfl hM_h) ?_; intro u42 hM_u42
          exact sj_X13_member_269 nn ih e_l3 hM_u42
set_option maxRecDepth 4000 in
theorem sj_X13_member_170 (nn : Nat) {l1 : Int32} {y_l1 : Int} (e_l1 : l1.toInt = y_l1) {l2 : Int32} {y_l2 : Int} (e_l2 : l2.toInt = y_l2) {l3 : Int32} {y_l3 : Int} (e_l3 : l3.toInt = y_l3) {s0 : Int32} {y_s0 : Int} (e_s0 : s0.toInt = y_s0) {s1 : Int32} {y_s1 : Int} (e_s1 : s1.toInt = y_s1) {h : ms_M} (hM_h : Rg_M h) : Sm_ RV_ (j_X13_member_170 nn 160 l1 l2 l3 s0 s1 182 (H_M h)) (qj_X13_member_170 nn y_l1 y_l2 y_l3 y_s0 y_s1 h) := by
  unfold j_X13_member_170 qj_X13_member_170
  refine sm_si hM_h rfl e_s1 e_s0 ?_; intro h46 hM_h46
  refine sm_gi hM_h46 rfl ?_; intro v47 e_v47
  refine sm_eq e_v47 rfl ?_ ?_
  · refine sm_gi hM_h46 rfl ?_; intro v48 e_v48
    refine sm_oq_add e_v48 rfl ?_; intro v49 y_v49 e_v49
    refine sm_pv hM_h46 rfl e_v49 ?_; intro h50 hM_h50
    refine sm_ne e_l1 rfl ?_ ?_
    · refine sm_is hM_h50 rfl ?_
      refine sm_cV (sf_X13_sign_ nn rfl hM_h50) ?_; intro u52 hM_u52
      exact sw_X13_member_234 nn nn e_l3 hM_u52
    · refine sm_ne e_l2 rfl ?_ ?_
      · refine sm_is hM_h50 rfl ?_
        refine sm_cV (sf_X13_sign_ nn rfl hM_h50) ?_; intro u54 hM_u54
        exact sw_X13_member_234 nn nn e_l3 hM_u54
      · refine sm_gi hM_h50 rfl ?_; intro v55 e_v55
        refine sm_is hM_h50 rfl ?_
        refine sm_cP (sf_X13_isSign nn e_v55 rfl hM_h50) ?_; intro u57 y_u57 e_u57
        refine sm_eq e_u57 rfl ?_ ?_
        · refine sm_is hM_h50 rfl ?_
          refine sm_cV (sf_X13_sign_ nn rfl hM_h50) ?_; intro u59 hM_u59
          exact sw_X13_member_234 nn nn e_l3 hM_u59
        · refine sm_gi hM_h50 rfl ?_; intro v60 e_v60
          refine sm_oq_add e_v60 rfl ?_; intro v61 y_v61 e_v61
          refine sm_pv hM_h50 rfl e_v61 ?_; intro h62 hM_h62
          refine sm_gr hM_h62 (d := 182) rfl ?_
          refine sm_si hM_h62 rfl e_l3 rfl ?_; intro h64 hM_h64
          exact sm_rV hM_h64
  · exact sm_rV hM_h46
set_option maxRecDepth 4000 in
theorem sj_X13_member_75 (nn : Nat) {l1 : Int32} {y_l1 : Int} (e_l1 : l1.toInt = y_l1) {l2 : Int32} {y_l2 : Int} (e_l2 : l2.toInt = y_l2) {h : ms_M} (hM_h : Rg_M h) : Sm_ RV_ (j_X13_member_75 nn 160 l1 l2 (H_M h)) (qj_X13_member_75 nn y_l1 y_l2 h) := by
  unfold j_X13_member_75 qj_X13_member_75
  refine sm_gi hM_h rfl ?_; intro v69 e_v69
  refine sm_gr hM_h (d := 183) rfl ?_
  refine sm_gi hM_h rfl ?_; intro v71 e_v71
  refine sm_si hM_h rfl e_v69 e_v71 ?_; intro h72 hM_h72
  refine sm_gr hM_h72 (d := 184) rfl ?_
  refine sm_gi hM_h72 rfl ?_; intro v74 e_v74
  refine sm_si hM_h72 rfl e_v69 e_v74 ?_; intro h75 hM_h75
  refine sm_gr hM_h75 (d := 185) rfl ?_
  refine sm_gi hM_h75 rfl ?_; intro v77 e_v77
  refine sm_sz hM_h75 rfl e_v69 e_v77 ?_; intro h78 hM_h78
  refine sm_gr hM_h78 (d := 186) rfl ?_
  refine sm_is hM_h78 rfl ?_
  refine sm_cI (sf_X13_name nn hM_h78) ?_; intro u81 y_u81 M_u81 e_u81 hM_u81
  refine sm_si hM_u81 rfl e_v69 e_u81 ?_; intro h82 hM_h82
  refine sm_gr hM_h82 (d := 181) rfl ?_
  refine sm_gi hM_h82 rfl ?_; intro v84 e_v84
  refine sm_oq_sub e_v84 rfl ?_; intro v85 y_v85 e_v85
  refine sm_si hM_h82 rfl e_v69 e_v85 ?_; intro h86 hM_h86
  refine sm_gr hM_h86 (d := 188) rfl ?_
  refine sm_gi hM_h86 rfl ?_; intro v88 e_v88
  refine sm_si hM_h86 rfl e_v69 e_v88 ?_; intro h89 hM_h89
  refine sm_gr hM_h89 (d := 189) rfl ?_
  refine sm_si hM_h89 rfl e_v69 rfl ?_; intro h91 hM_h91
  refine sm_gr hM_h91 (d := 190) rfl ?_
  refine sm_si hM_h91 rfl e_v69 rfl ?_; intro h93 hM_h93
  refine sm_gr hM_h93 (d := 182) rfl ?_
  refine sm_eq e_l1 rfl ?_ ?_
  · exact sj_X13_member_170 nn e_l1 e_l2 e_v69 rfl e_v69 hM_h93
  · exact sj_X13_member_170 nn e_l1 e_l2 e_v69 rfl e_v69 hM_h93
set_option maxRecDepth 4000 in
theorem sj_X13_member_25 (nn : Nat) {l1 : Int32} {y_l1 : Int} (e_l1 : l1.toInt = y_l1) {h : ms_M} (hM_h : Rg_M h) : Sm_ RV_ (j_X13_member_25 nn 160 l1 (H_M h)) (qj_X13_member_25 nn y_l1 h) := by
  unfold j_X13_member_25 qj_X13_member_25
  refine sm_gi hM_h rfl ?_; intro v96 e_v96
  refine sm_is hM_h rfl ?_
  refine sm_cP (sf_X13_isWord nn e_v96 rfl hM_h) ?_; intro u98 y_u98 e_u98
  refine sm_eq e_u98 rfl ?_ ?_
  · refine sm_is hM_h rfl ?_
    refine sm_cV (sf_X13_type nn hM_h) ?_; intro u100 hM_u100
    exact sj_X13_member_75 nn e_l1 e_u98 hM_u100
  · refine sm_pv hM_h rfl rfl ?_; intro h101 hM_h101
    refine sm_pv hM_h101 rfl rfl ?_; intro h102 hM_h102
    refine sm_gi hM_h102 rfl ?_; intro v103 e_v103
    refine sm_pv hM_h102 rfl e_v103 ?_; intro h104 hM_h104
    refine sm_gi hM_h104 rfl ?_; intro v105 e_v105
    refine sm_oq_add e_v105 rfl ?_; intro v106 y_v106 e_v106
    refine sm_pv hM_h104 rfl e_v106 ?_; intro h107 hM_h107
    exact sj_X13_member_75 nn e_l1 e_u98 hM_h107
set_option maxRecDepth 4000 in
theorem sf_X13_member (nn : Nat) {h : ms_M} (hM_h : Rg_M h) : Sm_ RV_ (f_X13_member nn 160 (H_M h)) (qf_X13_member nn h) := by
  unfold f_X13_member qf_X13_member
  refine sm_gi hM_h rfl ?_; intro v109 e_v109
  refine sm_is hM_h rfl ?_
  refine sm_cP (sf_X13_isWord nn e_v109 rfl hM_h) ?_; intro u111 y_u111 e_u111
  refine sm_eq e_u111 rfl ?_ ?_
  · exact sj_X13_member_25 nn e_u111 hM_h
  · refine sm_gi hM_h rfl ?_; intro v112 e_v112
    refine sm_oq_add e_v112 rfl ?_; intro v113 y_v113 e_v113
    refine sm_pv hM_h rfl e_v113 ?_; intro h114 hM_h114
    exact sj_X13_member_25 nn e_u111 hM_h114
set_option maxRecDepth 4000 in
theorem sj_X13_program_143 (nn : Nat) {kk_25 : Nat → mx_H → Option mx_H} {qkk_25 : ms_M → Option ms_M} (hk_kk_25 : ∀ {h : ms_M} (hM_h : Rg_M h), Sm_ RV_ (kk_25 160 (H_M h)) (qkk_25 h)) {h : ms_M} (hM_h : Rg_M h) : Sm_ RV_ (j_X13_program_143 nn kk_25 160 (H_M h)) (qj_X13_program_143 nn qkk_25 h) := by
  unfold j_X13_program_143 qj_X13_program_143
  refine sm_is hM_h rfl ?_
  refine sm_cV (sf_X13_sign_ nn rfl hM_h) ?_; intro u2 hM_u2
  refine sm_gi hM_u2 rfl ?_; intro v3 e_v3
  refine sm_ne e_v3 rfl ?_ ?_
  · exact sm_rV hM_u2
  · refine sm_gr hM_u2 (d := 163) rfl ?_
    refine sm_gi hM_u2 rfl ?_; intro v5 e_v5
    refine sm_ai hM_u2 rfl e_v5 ?_; intro v6 y_v6 e_v6
    refine sm_ne e_v6 rfl ?_ ?_
    · exact hk_kk_25 hM_u2
    · exact sm_rV hM_u2
set_option maxRecDepth 4000 in
theorem sw_X13_program_116 (nn : Nat) {kk_25 : Nat → mx_H → Option mx_H} {qkk_25 : ms_M → Option ms_M} (hk_kk_25 : ∀ {h : ms_M} (hM_h : Rg_M h), Sm_ RV_ (kk_25 160 (H_M h)) (qkk_25 h)) : ∀ (k : Nat) {h : ms_M} (hM_h : Rg_M h), Sm_ RV_ (w_X13_program_116 nn kk_25 k 160 (H_M h)) (qw_X13_program_116 nn qkk_25 k h) := by
  intro k
  induction k with
  | zero => intros; exact sm_no
  | succ k ih =>
    intro h hM_h
    unfold w_X13_program_116 qw_X13_program_116
    refine sm_gi hM_h rfl ?_; intro v9 e_v9
    refine sm_ne e_v9 rfl ?_ ?_
    · exact sj_X13_program_143 nn hk_kk_25 hM_h
    · refine sm_gi hM_h rfl ?_; intro v10 e_v10
      refine sm_is hM_h rfl ?_
      refine sm_cP (sf_X13_isSign nn e_v10 rfl hM_h) ?_; intro u12 y_u12 e_u12
      refine sm_ne e_u12 rfl ?_ ?_
      · exact sj_X13_program_143 nn hk_kk_25 hM_h
      · refine sm_is hM_h rfl ?_
        refine sm_cV (sf_X13_member nn hM_h) ?_; intro u14 hM_u14
        exact ih hM_u14
set_option maxRecDepth 4000 in
theorem sj_X13_program_72 (nn : Nat) {kk_25 : Nat → mx_H → Option mx_H} {qkk_25 : ms_M → Option ms_M} (hk_kk_25 : ∀ {h : ms_M} (hM_h : Rg_M h), Sm_ RV_ (kk_25 160 (H_M h)) (qkk_25 h)) {l1 : Int32} {y_l1 : Int} (e_l1 : l1.toInt = y_l1) {l2 : Int32} {y_l2 : Int} (e_l2 : l2.toInt = y_l2) {h : ms_M} (hM_h : Rg_M h) : Sm_ RV_ (j_X13_program_72 nn kk_25 160 l1 l2 (H_M h)) (qj_X13_program_72 nn qkk_25 y_l1 y_l2 h) := by
  unfold j_X13_program_72 qj_X13_program_72
  refine sm_gi hM_h rfl ?_; intro v17 e_v17
  refine sm_eq e_v17 rfl ?_ ?_
  · refine sm_gr hM_h (d := 178) rfl ?_
    refine sm_gi hM_h rfl ?_; intro v19 e_v19
    refine sm_si hM_h rfl e_v19 e_l1 ?_; intro h20 hM_h20
    refine sm_gr hM_h20 (d := 179) rfl ?_
    refine sm_gi hM_h20 rfl ?_; intro v22 e_v22
    refine sm_si hM_h20 rfl e_v22 e_l2 ?_; intro h23 hM_h23
    refine sm_gi hM_h23 rfl ?_; intro v24 e_v24
    refine sm_oq_add e_v24 rfl ?_; intro v25 y_v25 e_v25
    refine sm_pv hM_h23 rfl e_v25 ?_; intro h26 hM_h26
    refine sm_is hM_h26 rfl ?_
    refine sm_cV (sf_X13_sign_ nn rfl hM_h26) ?_; intro u28 hM_u28
    exact sw_X13_program_116 nn hk_kk_25 nn hM_u28
  · exact sm_rV hM_h
set_option maxRecDepth 4000 in
theorem sw_X13_program_25 (nn : Nat) : ∀ (k : Nat) {h : ms_M} (hM_h : Rg_M h), Sm_ RV_ (w_X13_program_25 nn k 160 (H_M h)) (qw_X13_program_25 nn k h) := by
  intro k
  induction k with
  | zero => intros; exact sm_no
  | succ k ih =>
    intro h hM_h
    unfold w_X13_program_25 qw_X13_program_25
    refine sm_is hM_h rfl ?_
    refine sm_cV (sf_X13_word nn rfl hM_h) ?_; intro u31 hM_u31
    refine sm_is hM_u31 rfl ?_
    refine sm_cI (sf_X13_name nn hM_u31) ?_; intro u33 y_u33 M_u33 e_u33 hM_u33
    refine sm_gi hM_u33 rfl ?_; intro v34 e_v34
    refine sm_ne e_v34 rfl ?_ ?_
    · exact sj_X13_program_72 nn ih e_u33 rfl hM_u33
    · refine sm_gi hM_u33 rfl ?_; intro v35 e_v35
      refine sm_is hM_u33 rfl ?_
      refine sm_cP (sf_X13_isWord nn e_v35 rfl hM_u33) ?_; intro u37 y_u37 e_u37
      refine sm_eq e_u37 rfl ?_ ?_
      · exact sj_X13_program_72 nn ih e_u33 rfl hM_u33
      · refine sm_gi hM_u33 rfl ?_; intro v38 e_v38
        refine sm_oq_add e_v38 rfl ?_; intro v39 y_v39 e_v39
        refine sm_pv hM_u33 rfl e_v39 ?_; intro h40 hM_h40
        refine sm_is hM_h40 rfl ?_
        refine sm_cI (sf_X13_name nn hM_h40) ?_; intro u42 y_u42 M_u42 e_u42 hM_u42
        exact sj_X13_program_72 nn ih e_u33 e_u42 hM_u42
set_option maxRecDepth 4000 in
theorem sf_X13_program (nn : Nat) {h : ms_M} (hM_h : Rg_M h) : Sm_ RV_ (f_X13_program nn 160 (H_M h)) (qf_X13_program nn h) := by
  unfold f_X13_program qf_X13_program
  refine sm_pv hM_h rfl rfl ?_; intro h45 hM_h45
  refine sm_pv hM_h45 rfl rfl ?_; intro h46 hM_h46
  refine sm_pv hM_h46 rfl rfl ?_; intro h47 hM_h47
  refine sm_pv hM_h47 rfl rfl ?_; intro h48 hM_h48
  refine sm_pv hM_h48 rfl rfl ?_; intro h49 hM_h49
  exact sw_X13_program_25 nn nn hM_h49
set_option maxRecDepth 4000 in
theorem sf_X13_at (nn : Nat) {a1 : Int32} {y_a1 : Int} (e_a1 : a1.toInt = y_a1) {h : ms_M} (hM_h : Rg_M h) : Sm_ (RP_ h) (f_X13_at nn 160 a1 (H_M h)) (qf_X13_at nn y_a1 h) := by
  unfold f_X13_at qf_X13_at
  refine sm_gi hM_h rfl ?_; intro v1 e_v1
  refine sm_le e_v1 e_a1 ?_ ?_
  · exact sm_rP rfl
  · refine sm_gr hM_h (d := 162) rfl ?_
    refine sm_ai hM_h rfl e_a1 ?_; intro v3 y_v3 e_v3
    exact sm_rP e_v3
set_option maxRecDepth 4000 in
theorem sf_X13_isDigit (nn : Nat) {a0 : Int32} {y_a0 : Int} (e_a0 : a0.toInt = y_a0) {h : ms_M} (hM_h : Rg_M h) : Sm_ (RP_ h) (f_X13_isDigit nn a0 (H_M h)) (qf_X13_isDigit nn y_a0 h) := by
  unfold f_X13_isDigit qf_X13_isDigit
  refine sm_lt e_a0 rfl ?_ ?_
  · exact sm_rP rfl
  · refine sm_lt rfl e_a0 ?_ ?_
    · exact sm_rP rfl
    · exact sm_rP rfl
set_option maxRecDepth 4000 in
theorem sj_X13_isLetter_12 (nn : Nat) {l0 : Int32} {y_l0 : Int} (e_l0 : l0.toInt = y_l0) {h : ms_M} (hM_h : Rg_M h) : Sm_ (RP_ h) (j_X13_isLetter_12 nn l0 (H_M h)) (qj_X13_isLetter_12 nn y_l0 h) := by
  unfold j_X13_isLetter_12 qj_X13_isLetter_12
  refine sm_lt e_l0 rfl ?_ ?_
  · exact sm_rP rfl
  · refine sm_lt rfl e_l0 ?_ ?_
    · exact sm_rP rfl
    · exact sm_rP rfl
set_option maxRecDepth 4000 in
theorem sf_X13_isLetter (nn : Nat) {a0 : Int32} {y_a0 : Int} (e_a0 : a0.toInt = y_a0) {h : ms_M} (hM_h : Rg_M h) : Sm_ (RP_ h) (f_X13_isLetter nn a0 (H_M h)) (qf_X13_isLetter nn y_a0 h) := by
  unfold f_X13_isLetter qf_X13_isLetter
  refine sm_lt e_a0 rfl ?_ ?_
  · exact sj_X13_isLetter_12 nn e_a0 hM_h
  · refine sm_le e_a0 rfl ?_ ?_
    · exact sm_rP rfl
    · exact sj_X13_isLetter_12 nn e_a0 hM_h
set_option maxRecDepth 4000 in
theorem sj_X13_signAt_485 (nn : Nat) {h : ms_M} (hM_h : Rg_M h) : Sm_ (RP_ h) (j_X13_signAt_485 nn (H_M h)) (qj_X13_signAt_485 nn h) := by
  unfold j_X13_signAt_485 qj_X13_signAt_485
  exact sm_rP rfl
set_option maxRecDepth 4000 in
theorem sj_X13_signAt_474 (nn : Nat) {l2 : Int32} {y_l2 : Int} (e_l2 : l2.toInt = y_l2) {l3 : Int32} {y_l3 : Int} (e_l3 : l3.toInt = y_l3) {h : ms_M} (hM_h : Rg_M h) : Sm_ (RP_ h) (j_X13_signAt_474 nn l2 l3 (H_M h)) (qj_X13_signAt_474 nn y_l2 y_l3 h) := by
  unfold j_X13_signAt_474 qj_X13_signAt_474
  refine sm_ne e_l3 e_l2 ?_ ?_
  · exact sm_rP rfl
  · exact sm_rP rfl
set_option maxRecDepth 4000 in
theorem sj_X13_signAt_406 (nn : Nat) {l3 : Int32} {y_l3 : Int} (e_l3 : l3.toInt = y_l3) {h : ms_M} (hM_h : Rg_M h) : Sm_ (RP_ h) (j_X13_signAt_406 nn l3 (H_M h)) (qj_X13_signAt_406 nn y_l3 h) := by
  unfold j_X13_signAt_406 qj_X13_signAt_406
  refine sm_ne e_l3 rfl ?_ ?_
  · exact sm_rP rfl
  · exact sm_rP rfl
set_option maxRecDepth 4000 in
theorem sj_X13_signAt_404 (nn : Nat) {h : ms_M} (hM_h : Rg_M h) : Sm_ (RP_ h) (j_X13_signAt_404 nn (H_M h)) (qj_X13_signAt_404 nn h) := by
  unfold j_X13_signAt_404 qj_X13_signAt_404
  exact sm_rP rfl
set_option maxRecDepth 4000 in
theorem sf_X13_signAt (nn : Nat) {a1 : Int32} {y_a1 : Int} (e_a1 : a1.toInt = y_a1) {h : ms_M} (hM_h : Rg_M h) : Sm_ (RP_ h) (f_X13_signAt nn 160 a1 (H_M h)) (qf_X13_signAt nn y_a1 h) := by
  unfold f_X13_signAt qf_X13_signAt
  refine sm_is hM_h rfl ?_
  refine sm_cP (sf_X13_at nn e_a1 hM_h) ?_; intro u4 y_u4 e_u4
  refine sm_oq_add e_a1 rfl ?_; intro v5 y_v5 e_v5
  refine sm_is hM_h rfl ?_
  refine sm_cP (sf_X13_at nn e_v5 hM_h) ?_; intro u7 y_u7 e_u7
  refine sm_eq e_u4 rfl ?_ ?_
  · exact sj_X13_signAt_406 nn e_u7 hM_h
  · refine sm_eq e_u4 rfl ?_ ?_
    · exact sj_X13_signAt_404 nn hM_h
    · refine sm_eq e_u4 rfl ?_ ?_
      · exact sj_X13_signAt_474 nn e_u4 e_u7 hM_h
      · refine sm_eq e_u4 rfl ?_ ?_
        · exact sj_X13_signAt_404 nn hM_h
        · refine sm_eq e_u4 rfl ?_ ?_
          · exact sj_X13_signAt_404 nn hM_h
          · refine sm_eq e_u4 rfl ?_ ?_
            · exact sj_X13_signAt_404 nn hM_h
            · refine sm_eq e_u4 rfl ?_ ?_
              · exact sj_X13_signAt_404 nn hM_h
              · refine sm_eq e_u4 rfl ?_ ?_
                · exact sj_X13_signAt_404 nn hM_h
                · refine sm_eq e_u4 rfl ?_ ?_
                  · exact sj_X13_signAt_404 nn hM_h
                  · refine sm_eq e_u4 rfl ?_ ?_
                    · exact sj_X13_signAt_404 nn hM_h
                    · refine sm_eq e_u4 rfl ?_ ?_
                      · exact sj_X13_signAt_404 nn hM_h
                      · refine sm_eq e_u4 rfl ?_ ?_
                        · exact sj_X13_signAt_404 nn hM_h
                        · refine sm_eq e_u4 rfl ?_ ?_
                          · exact sj_X13_signAt_404 nn hM_h
                          · refine sm_eq e_u4 rfl ?_ ?_
                            · refine sm_eq e_u7 rfl ?_ ?_
                              · exact sm_rP rfl
                              · refine sm_ne e_u7 rfl ?_ ?_
                                · exact sm_rP rfl
                                · exact sm_rP rfl
                            · refine sm_eq e_u4 rfl ?_ ?_
                              · exact sj_X13_signAt_406 nn e_u7 hM_h
                              · refine sm_eq e_u4 rfl ?_ ?_
                                · refine sm_ne e_u7 rfl ?_ ?_
                                  · refine sm_ne e_u7 rfl ?_ ?_
                                    · exact sm_rP rfl
                                    · exact sm_rP rfl
                                  · refine sm_oq_add e_a1 rfl ?_; intro v11 y_v11 e_v11
                                    refine sm_is hM_h rfl ?_
                                    refine sm_cP (sf_X13_at nn e_v11 hM_h) ?_; intro u13 y_u13 e_u13
                                    refine sm_ne e_u13 rfl ?_ ?_
                                    · exact sm_rP rfl
                                    · exact sm_rP rfl
                                · refine sm_eq e_u4 rfl ?_ ?_
                                  · exact sj_X13_signAt_404 nn hM_h
                                  · refine sm_eq e_u4 rfl ?_ ?_
                                    · exact sj_X13_signAt_404 nn hM_h
                                    · refine sm_eq e_u4 rfl ?_ ?_
                                      · exact sj_X13_signAt_404 nn hM_h
                                      · refine sm_eq e_u4 rfl ?_ ?_
                                        · exact sj_X13_signAt_404 nn hM_h
                                        · refine sm_eq e_u4 rfl ?_ ?_
                                          · exact sj_X13_signAt_404 nn hM_h
                                          · refine sm_eq e_u4 rfl ?_ ?_
                                            · exact sj_X13_signAt_474 nn e_u4 e_u7 hM_h
                                            · refine sm_eq e_u4 rfl ?_ ?_
                                              · exact sj_X13_signAt_404 nn hM_h
                                              · refine sm_eq e_u4 rfl ?_ ?_
                                                · exact sj_X13_signAt_404 nn hM_h
                                                · exact sj_X13_signAt_485 nn hM_h
set_option maxRecDepth 4000 in
theorem sf_X13_token (nn : Nat) {a1 : Int32} {y_a1 : Int} (e_a1 : a1.toInt = y_a1) {a2 : Int32} {y_a2 : Int} (e_a2 : a2.toInt = y_a2) {a3 : Int32} {y_a3 : Int} (e_a3 : a3.toInt = y_a3) {a4 : Int32} {y_a4 : Int} (e_a4 : a4.toInt = y_a4) {h : ms_M} (hM_h : Rg_M h) : Sm_ RV_ (f_X13_token nn 160 a1 a2 a3 a4 (H_M h)) (qf_X13_token nn y_a1 y_a2 y_a3 y_a4 h) := by
  unfold f_X13_token qf_X13_token
  refine sm_gr hM_h (d := 163) rfl ?_
  refine sm_gi hM_h rfl ?_; intro v2 e_v2
  refine sm_si hM_h rfl e_v2 e_a1 ?_; intro h3 hM_h3
  refine sm_gr hM_h3 (d := 164) rfl ?_
  refine sm_gi hM_h3 rfl ?_; intro v5 e_v5
  refine sm_si hM_h3 rfl e_v5 e_a2 ?_; intro h6 hM_h6
  refine sm_gr hM_h6 (d := 165) rfl ?_
  refine sm_gi hM_h6 rfl ?_; intro v8 e_v8
  refine sm_si hM_h6 rfl e_v8 e_a3 ?_; intro h9 hM_h9
  refine sm_gr hM_h9 (d := 166) rfl ?_
  refine sm_gi hM_h9 rfl ?_; intro v11 e_v11
  refine sm_si hM_h9 rfl e_v11 e_a4 ?_; intro h12 hM_h12
  refine sm_gi hM_h12 rfl ?_; intro v13 e_v13
  refine sm_oq_add e_v13 rfl ?_; intro v14 y_v14 e_v14
  refine sm_pv hM_h12 rfl e_v14 ?_; intro h15 hM_h15
  exact sm_rV hM_h15
set_option maxRecDepth 4000 in
theorem sw_X13_tokenize_449 (nn : Nat) : ∀ (k : Nat) {l2 : Int32} {y_l2 : Int} (e_l2 : l2.toInt = y_l2) {h : ms_M} (hM_h : Rg_M h), Sm_ RV_ (w_X13_tokenize_449 nn k 160 l2 (H_M h)) (qw_X13_tokenize_449 nn k y_l2 h) := by
  intro k
  induction k with
  | zero => intros; exact sm_no
  | succ k ih =>
    intro l2 y_l2 e_l2 h hM_h
    unfold w_X13_tokenize_449 qw_X13_tokenize_449
    refine sm_gi hM_h rfl ?_; intro v1 e_v1
    refine sm_oq_add e_v1 rfl ?_; intro v2 y_v2 e_v2
    refine sm_le e_v2 e_l2 ?_ ?_
    · exact sm_rV hM_h
    · refine sm_gr hM_h (d := 163) rfl ?_
      refine sm_si hM_h rfl e_l2 rfl ?_; intro h4 hM_h4
      refine sm_oq_add e_l2 rfl ?_; intro v5 y_v5 e_v5
      exact ih e_v5 hM_h4
set_option maxRecDepth 4000 in
theorem sw_X13_tokenize_400 (nn : Nat) : ∀ (k : Nat) {l4 : Int32} {y_l4 : Int} (e_l4 : l4.toInt = y_l4) {h : ms_M} (hM_h : Rg_M h), Sm_ RV_ (w_X13_tokenize_400 nn k 160 l4 (H_M h)) (qw_X13_tokenize_400 nn k y_l4 h) := by
  intro k
  induction k with
  | zero => intros; exact sm_no
  | succ k ih =>
    intro l4 y_l4 e_l4 h hM_h
    unfold w_X13_tokenize_400 qw_X13_tokenize_400
    refine sm_gi hM_h rfl ?_; intro v7 e_v7
    refine sm_oq_add e_v7 rfl ?_; intro v8 y_v8 e_v8
    refine sm_le e_v8 e_l4 ?_ ?_
    · exact sm_rV hM_h
    · refine sm_gr hM_h (d := 163) rfl ?_
      refine sm_si hM_h rfl e_l4 rfl ?_; intro h10 hM_h10
      refine sm_oq_add e_l4 rfl ?_; intro v11 y_v11 e_v11
      exact ih e_v11 hM_h10
set_option maxRecDepth 4000 in
theorem sj_X13_tokenize_378 (nn : Nat) {kk_7 : Nat → Int32 → mx_H → Option mx_H} {qkk_7 : Int → ms_M → Option ms_M} (hk_kk_7 : ∀ {l1 : Int32} {y_l1 : Int} (e_l1 : l1.toInt = y_l1) {h : ms_M} (hM_h : Rg_M h), Sm_ RV_ (kk_7 160 l1 (H_M h)) (qkk_7 y_l1 h)) {l1 : Int32} {y_l1 : Int} (e_l1 : l1.toInt = y_l1) {l3 : Int32} {y_l3 : Int} (e_l3 : l3.toInt = y_l3) {h : ms_M} (hM_h : Rg_M h) : Sm_ RV_ (j_X13_tokenize_378 nn kk_7 160 l1 l3 (H_M h)) (qj_X13_tokenize_378 nn qkk_7 y_l1 y_l3 h) := by
  unfold j_X13_tokenize_378 qj_X13_tokenize_378
  refine sm_gr hM_h (d := 163) rfl ?_
  refine sm_gi hM_h rfl ?_; intro v14 e_v14
  refine sm_oq_sub e_v14 rfl ?_; intro v15 y_v15 e_v15
  refine sm_ai hM_h rfl e_v15 ?_; intro v16 y_v16 e_v16
  refine sm_ne e_v16 rfl ?_ ?_
  · refine sm_oq_add e_l1 e_l3 ?_; intro v17 y_v17 e_v17
    exact hk_kk_7 e_v17 hM_h
  · refine sm_gi hM_h rfl ?_; intro v18 e_v18
    exact sw_X13_tokenize_400 nn nn e_v18 hM_h
set_option maxRecDepth 4000 in
theorem sj_X13_tokenize_371 (nn : Nat) {kk_7 : Nat → Int32 → mx_H → Option mx_H} {qkk_7 : Int → ms_M → Option ms_M} (hk_kk_7 : ∀ {l1 : Int32} {y_l1 : Int} (e_l1 : l1.toInt = y_l1) {h : ms_M} (hM_h : Rg_M h), Sm_ RV_ (kk_7 160 l1 (H_M h)) (qkk_7 y_l1 h)) {l1 : Int32} {y_l1 : Int} (e_l1 : l1.toInt = y_l1) {l3 : Int32} {y_l3 : Int} (e_l3 : l3.toInt = y_l3) {l4 : Int32} {y_l4 : Int} (e_l4 : l4.toInt = y_l4) {s0 : Int32} {y_s0 : Int} (e_s0 : s0.toInt = y_s0) {h : ms_M} (hM_h : Rg_M h) : Sm_ RV_ (j_X13_tokenize_371 nn kk_7 160 l1 l3 l4 s0 160 (H_M h)) (qj_X13_tokenize_371 nn qkk_7 y_l1 y_l3 y_l4 y_s0 h) := by
  unfold j_X13_tokenize_371 qj_X13_tokenize_371
  refine sm_is hM_h rfl ?_
  refine sm_cV (sf_X13_token nn e_s0 e_l1 e_l3 e_l4 hM_h) ?_; intro u21 hM_u21
  exact sj_X13_tokenize_378 nn hk_kk_7 e_l1 e_l3 hM_u21
set_option maxRecDepth 4000 in
theorem sw_X13_tokenize_330 (nn : Nat) {kk_7 : Nat → Int32 → mx_H → Option mx_H} {qkk_7 : Int → ms_M → Option ms_M} (hk_kk_7 : ∀ {l1 : Int32} {y_l1 : Int} (e_l1 : l1.toInt = y_l1) {h : ms_M} (hM_h : Rg_M h), Sm_ RV_ (kk_7 160 l1 (H_M h)) (qkk_7 y_l1 h)) : ∀ (k : Nat) {l1 : Int32} {y_l1 : Int} (e_l1 : l1.toInt = y_l1) {l3 : Int32} {y_l3 : Int} (e_l3 : l3.toInt = y_l3) {l4 : Int32} {y_l4 : Int} (e_l4 : l4.toInt = y_l4) {l5 : Int32} {y_l5 : Int} (e_l5 : l5.toInt = y_l5) {h : ms_M} (hM_h : Rg_M h), Sm_ RV_ (w_X13_tokenize_330 nn kk_7 k 160 l1 l3 l4 l5 (H_M h)) (qw_X13_tokenize_330 nn qkk_7 k y_l1 y_l3 y_l4 y_l5 h) := by
  intro k
  induction k with
  | zero => intros; exact sm_no
  | succ k ih =>
    intro l1 y_l1 e_l1 l3 y_l3 e_l3 l4 y_l4 e_l4 l5 y_l5 e_l5 h hM_h
    unfold w_X13_tokenize_330 qw_X13_tokenize_330
    refine sm_le e_l3 e_l5 ?_ ?_
    · refine sm_le e_l3 rfl ?_ ?_
      · exact sj_X13_tokenize_371 nn hk_kk_7 e_l1 e_l3 e_l4 rfl hM_h
      · exact sj_X13_tokenize_371 nn hk_kk_7 e_l1 e_l3 e_l4 rfl hM_h
    · refine sm_oq_mul rfl e_l4 ?_; intro v23 y_v23 e_v23
      refine sm_gr hM_h (d := 162) rfl ?_
      refine sm_oq_add e_l1 e_l5 ?_; intro v25 y_v25 e_v25
      refine sm_ai hM_h rfl e_v25 ?_; intro v26 y_v26 e_v26
      refine sm_oq_add e_v23 e_v26 ?_; intro v27 y_v27 e_v27
      refine sm_oq_add e_l5 rfl ?_; intro v28 y_v28 e_v28
      exact ih e_l1 e_l3 e_v27 e_v28 hM_h
set_option maxRecDepth 4000 in
theorem sj_X13_tokenize_307 (nn : Nat) {kk_7 : Nat → Int32 → mx_H → Option mx_H} {qkk_7 : Int → ms_M → Option ms_M} (hk_kk_7 : ∀ {l1 : Int32} {y_l1 : Int} (e_l1 : l1.toInt = y_l1) {h : ms_M} (hM_h : Rg_M h), Sm_ RV_ (kk_7 160 l1 (H_M h)) (qkk_7 y_l1 h)) {l1 : Int32} {y_l1 : Int} (e_l1 : l1.toInt = y_l1) {l3 : Int32} {y_l3 : Int} (e_l3 : l3.toInt = y_l3) {l4 : Int64} {y_l4 : Int} (e_l4 : l4.toInt = y_l4) {s0 : Int32} {y_s0 : Int} (e_s0 : s0.toInt = y_s0) {h : ms_M} (hM_h : Rg_M h) : Sm_ RV_ (j_X13_tokenize_307 nn kk_7 160 l1 l3 l4 s0 160 (H_M h)) (qj_X13_tokenize_307 nn qkk_7 y_l1 y_l3 y_l4 y_s0 h) := by
  unfold j_X13_tokenize_307 qj_X13_tokenize_307
  refine sm_l2i e_l4 ?_; intro v30 y_v30 e_v30
  refine sm_is hM_h rfl ?_
  refine sm_cV (sf_X13_token nn e_s0 e_l1 e_l3 e_v30 hM_h) ?_; intro u32 hM_u32
  exact sj_X13_tokenize_378 nn hk_kk_7 e_l1 e_l3 hM_u32
set_option maxRecDepth 4000 in
theorem sj_X13_tokenize_293 (nn : Nat) {kk_7 : Nat → Int32 → mx_H → Option mx_H} {qkk_7 : Int → ms_M → Option ms_M} (hk_kk_7 : ∀ {l1 : Int32} {y_l1 : Int} (e_l1 : l1.toInt = y_l1) {h : ms_M} (hM_h : Rg_M h), Sm_ RV_ (kk_7 160 l1 (H_M h)) (qkk_7 y_l1 h)) {l1 : Int32} {y_l1 : Int} (e_l1 : l1.toInt = y_l1) {l3 : Int32} {y_l3 : Int} (e_l3 : l3.toInt = y_l3) {l4 : Int64} {y_l4 : Int} (e_l4 : l4.toInt = y_l4) {s0 : Int32} {y_s0 : Int} (e_s0 : s0.toInt = y_s0) {h : ms_M} (hM_h : Rg_M h) : Sm_ RV_ (j_X13_tokenize_293 nn kk_7 160 l1 l3 l4 s0 (H_M h)) (qj_X13_tokenize_293 nn qkk_7 y_l1 y_l3 y_l4 y_s0 h) := by
  unfold j_X13_tokenize_293 qj_X13_tokenize_293
  refine sm_eq e_s0 rfl ?_ ?_
  · exact sj_X13_tokenize_307 nn hk_kk_7 e_l1 e_l3 e_l4 rfl hM_h
  · exact sj_X13_tokenize_307 nn hk_kk_7 e_l1 e_l3 e_l4 rfl hM_h
set_option maxRecDepth 4000 in
theorem sj_X13_tokenize_292 (nn : Nat) {kk_7 : Nat → Int32 → mx_H → Option mx_H} {qkk_7 : Int → ms_M → Option ms_M} (hk_kk_7 : ∀ {l1 : Int32} {y_l1 : Int} (e_l1 : l1.toInt = y_l1) {h : ms_M} (hM_h : Rg_M h), Sm_ RV_ (kk_7 160 l1 (H_M h)) (qkk_7 y_l1 h)) {l1 : Int32} {y_l1 : Int} (e_l1 : l1.toInt = y_l1) {l3 : Int32} {y_l3 : Int} (e_l3 : l3.toInt = y_l3) {l4 : Int64} {y_l4 : Int} (e_l4 : l4.toInt = y_l4) {h : ms_M} (hM_h : Rg_M h) : Sm_ RV_ (j_X13_tokenize_292 nn kk_7 160 l1 l3 l4 (H_M h)) (qj_X13_tokenize_292 nn qkk_7 y_l1 y_l3 y_l4 h) := by
  unfold j_X13_tokenize_292 qj_X13_tokenize_292
  exact sj_X13_tokenize_293 nn hk_kk_7 e_l1 e_l3 e_l4 rfl hM_h
set_option maxRecDepth 4000 in
theorem sj_X13_tokenize_263 (nn : Nat) {kk_7 : Nat → Int32 → mx_H → Option mx_H} {qkk_7 : Int → ms_M → Option ms_M} (hk_kk_7 : ∀ {l1 : Int32} {y_l1 : Int} (e_l1 : l1.toInt = y_l1) {h : ms_M} (hM_h : Rg_M h), Sm_ RV_ (kk_7 160 l1 (H_M h)) (qkk_7 y_l1 h)) {l1 : Int32} {y_l1 : Int} (e_l1 : l1.toInt = y_l1) {l3 : Int32} {y_l3 : Int} (e_l3 : l3.toInt = y_l3) {l4 : Int64} {y_l4 : Int} (e_l4 : l4.toInt = y_l4) {h : ms_M} (hM_h : Rg_M h) : Sm_ RV_ (j_X13_tokenize_263 nn kk_7 160 l1 l3 l4 (H_M h)) (qj_X13_tokenize_263 nn qkk_7 y_l1 y_l3 y_l4 h) := by
  unfold j_X13_tokenize_263 qj_X13_tokenize_263
  refine sm_oq_add e_l1 e_l3 ?_; intro v34 y_v34 e_v34
  refine sm_is hM_h rfl ?_
  refine sm_cP (sf_X13_at nn e_v34 hM_h) ?_; intro u36 y_u36 e_u36
  refine sm_cP (sf_X13_isLetter nn e_u36 hM_h) ?_; intro u37 y_u37 e_u37
  refine sm_ne e_u37 rfl ?_ ?_
  · exact sj_X13_tokenize_292 nn hk_kk_7 e_l1 e_l3 e_l4 hM_h
  · refine sm_oq_add e_l1 e_l3 ?_; intro v38 y_v38 e_v38
    refine sm_is hM_h rfl ?_
    refine sm_cP (sf_X13_at nn e_v38 hM_h) ?_; intro u40 y_u40 e_u40
    refine sm_eq e_u40 rfl ?_ ?_
    · exact sj_X13_tokenize_292 nn hk_kk_7 e_l1 e_l3 e_l4 hM_h
    · exact sj_X13_tokenize_293 nn hk_kk_7 e_l1 e_l3 e_l4 rfl hM_h
set_option maxRecDepth 4000 in
theorem sw_X13_tokenize_189 (nn : Nat) {kk_7 : Nat → Int32 → mx_H → Option mx_H} {qkk_7 : Int → ms_M → Option ms_M} (hk_kk_7 : ∀ {l1 : Int32} {y_l1 : Int} (e_l1 : l1.toInt = y_l1) {h : ms_M} (hM_h : Rg_M h), Sm_ RV_ (kk_7 160 l1 (H_M h)) (qkk_7 y_l1 h)) : ∀ (k : Nat) {l1 : Int32} {y_l1 : Int} (e_l1 : l1.toInt = y_l1) {l2 : Int32} {y_l2 : Int} (e_l2 : l2.toInt = y_l2) {l3 : Int32} {y_l3 : Int} (e_l3 : l3.toInt = y_l3) {l4 : Int64} {y_l4 : Int} (e_l4 : l4.toInt = y_l4) {h : ms_M} (hM_h : Rg_M h), Sm_ RV_ (w_X13_tokenize_189 nn kk_7 k 160 l1 l2 l3 l4 (H_M h)) (qw_X13_tokenize_189 nn qkk_7 k y_l1 y_l2 y_l3 y_l4 h) := by
  intro k
  induction k with
  | zero => intros; exact sm_no
  | succ k ih =>
    intro l1 y_l1 e_l1 l2 y_l2 e_l2 l3 y_l3 e_l3 l4 y_l4 e_l4 h hM_h
    unfold w_X13_tokenize_189 qw_X13_tokenize_189
    refine sm_oq_add e_l1 e_l3 ?_; intro v43 y_v43 e_v43
    refine sm_is hM_h rfl ?_
    refine sm_cP (sf_X13_at nn e_v43 hM_h) ?_; intro u45 y_u45 e_u45
    refine sm_cP (sf_X13_isDigit nn e_u45 hM_h) ?_; intro u46 y_u46 e_u46
    refine sm_eq e_u46 rfl ?_ ?_
    · refine sm_lcmp e_l4 rfl ?_; intro v47 y_v47 e_v47
      refine sm_lt rfl e_v47 ?_ ?_
      · exact sj_X13_tokenize_292 nn hk_kk_7 e_l1 e_l3 e_l4 hM_h
      · refine sm_eq e_l3 rfl ?_ ?_
        · exact sj_X13_tokenize_263 nn hk_kk_7 e_l1 e_l3 e_l4 hM_h
        · refine sm_eq e_l2 rfl ?_ ?_
          · exact sj_X13_tokenize_292 nn hk_kk_7 e_l1 e_l3 e_l4 hM_h
          · exact sj_X13_tokenize_263 nn hk_kk_7 e_l1 e_l3 e_l4 hM_h
    · refine sm_lcmp e_l4 rfl ?_; intro v51 y_v51 e_v51
      refine sm_le e_v51 rfl ?_ ?_
      · refine sm_mulL rfl e_l4 ?_; intro v52 y_v52 e_v52
        refine sm_oq_add e_l1 e_l3 ?_; intro v53 y_v53 e_v53
        refine sm_is hM_h rfl ?_
        refine sm_cP (sf_X13_at nn e_v53 hM_h) ?_; intro u55 y_u55 e_u55
        refine sm_i2l e_u55 ?_; intro v56 y_v56 e_v56
        refine sm_addL e_v52 e_v56 ?_; intro v57 y_v57 e_v57
        refine sm_subL e_v57 rfl ?_; intro v58 y_v58 e_v58
        refine sm_oq_add e_l3 rfl ?_; intro v59 y_v59 e_v59
        exact ih e_l1 e_l2 e_v59 e_v58 hM_h
      · refine sm_oq_add e_l3 rfl ?_; intro v60 y_v60 e_v60
        exact ih e_l1 e_l2 e_v60 e_l4 hM_h
set_option maxRecDepth 4000 in
theorem sj_X13_tokenize_169 (nn : Nat) {kk_7 : Nat → Int32 → mx_H → Option mx_H} {qkk_7 : Int → ms_M → Option ms_M} (hk_kk_7 : ∀ {l1 : Int32} {y_l1 : Int} (e_l1 : l1.toInt = y_l1) {h : ms_M} (hM_h : Rg_M h), Sm_ RV_ (kk_7 160 l1 (H_M h)) (qkk_7 y_l1 h)) {l1 : Int32} {y_l1 : Int} (e_l1 : l1.toInt = y_l1) {l3 : Int32} {y_l3 : Int} (e_l3 : l3.toInt = y_l3) {l4 : Int32} {y_l4 : Int} (e_l4 : l4.toInt = y_l4) {s0 : Int32} {y_s0 : Int} (e_s0 : s0.toInt = y_s0) {h : ms_M} (hM_h : Rg_M h) : Sm_ RV_ (j_X13_tokenize_169 nn kk_7 160 l1 l3 l4 s0 160 (H_M h)) (qj_X13_tokenize_169 nn qkk_7 y_l1 y_l3 y_l4 y_s0 h) := by
  unfold j_X13_tokenize_169 qj_X13_tokenize_169
  refine sm_is hM_h rfl ?_
  refine sm_cV (sf_X13_token nn e_s0 e_l1 e_l3 e_l4 hM_h) ?_; intro u64 hM_u64
  exact sj_X13_tokenize_378 nn hk_kk_7 e_l1 e_l3 hM_u64
set_option maxRecDepth 4000 in
theorem sw_X13_tokenize_92 (nn : Nat) {kk_7 : Nat → Int32 → mx_H → Option mx_H} {qkk_7 : Int → ms_M → Option ms_M} (hk_kk_7 : ∀ {l1 : Int32} {y_l1 : Int} (e_l1 : l1.toInt = y_l1) {h : ms_M} (hM_h : Rg_M h), Sm_ RV_ (kk_7 160 l1 (H_M h)) (qkk_7 y_l1 h)) : ∀ (k : Nat) {l1 : Int32} {y_l1 : Int} (e_l1 : l1.toInt = y_l1) {l3 : Int32} {y_l3 : Int} (e_l3 : l3.toInt = y_l3) {h : ms_M} (hM_h : Rg_M h), Sm_ RV_ (w_X13_tokenize_92 nn kk_7 k 160 l1 l3 (H_M h)) (qw_X13_tokenize_92 nn qkk_7 k y_l1 y_l3 h) := by
  intro k
  induction k with
  | zero => intros; exact sm_no
  | succ k ih =>
    intro l1 y_l1 e_l1 l3 y_l3 e_l3 h hM_h
    unfold w_X13_tokenize_92 qw_X13_tokenize_92
    refine sm_oq_add e_l1 e_l3 ?_; intro v65 y_v65 e_v65
    refine sm_is hM_h rfl ?_
    refine sm_cP (sf_X13_at nn e_v65 hM_h) ?_; intro u67 y_u67 e_u67
    refine sm_cP (sf_X13_isLetter nn e_u67 hM_h) ?_; intro u68 y_u68 e_u68
    refine sm_ne e_u68 rfl ?_ ?_
    · refine sm_oq_add e_l3 rfl ?_; intro v69 y_v69 e_v69
      exact ih e_l1 e_v69 hM_h
    · refine sm_oq_add e_l1 e_l3 ?_; intro v70 y_v70 e_v70
      refine sm_is hM_h rfl ?_
      refine sm_cP (sf_X13_at nn e_v70 hM_h) ?_; intro u72 y_u72 e_u72
      refine sm_cP (sf_X13_isDigit nn e_u72 hM_h) ?_; intro u73 y_u73 e_u73
      refine sm_ne e_u73 rfl ?_ ?_
      · refine sm_oq_add e_l3 rfl ?_; intro v74 y_v74 e_v74
        exact ih e_l1 e_v74 hM_h
      · refine sm_oq_add e_l1 e_l3 ?_; intro v75 y_v75 e_v75
        refine sm_is hM_h rfl ?_
        refine sm_cP (sf_X13_at nn e_v75 hM_h) ?_; intro u77 y_u77 e_u77
        refine sm_ne e_u77 rfl ?_ ?_
        · refine sm_is hM_h rfl ?_
          refine sm_cP (sf_X13_among nn _ e_l1 e_l3 hM_h) ?_; intro u79 y_u79 e_u79
          refine sm_lt e_u79 rfl ?_ ?_
          · refine sm_lt rfl e_l3 ?_ ?_
            · exact sj_X13_tokenize_169 nn hk_kk_7 e_l1 e_l3 e_u79 rfl hM_h
            · exact sj_X13_tokenize_169 nn hk_kk_7 e_l1 e_l3 e_u79 rfl hM_h
          · exact sj_X13_tokenize_169 nn hk_kk_7 e_l1 e_l3 e_u79 rfl hM_h
        · refine sm_oq_add e_l3 rfl ?_; intro v82 y_v82 e_v82
          exact ih e_l1 e_v82 hM_h
set_option maxRecDepth 4000 in
theorem sj_X13_tokenize_83 (nn : Nat) {kk_7 : Nat → Int32 → mx_H → Option mx_H} {qkk_7 : Int → ms_M → Option ms_M} (hk_kk_7 : ∀ {l1 : Int32} {y_l1 : Int} (e_l1 : l1.toInt = y_l1) {h : ms_M} (hM_h : Rg_M h), Sm_ RV_ (kk_7 160 l1 (H_M h)) (qkk_7 y_l1 h)) {l1 : Int32} {y_l1 : Int} (e_l1 : l1.toInt = y_l1) {l2 : Int32} {y_l2 : Int} (e_l2 : l2.toInt = y_l2) {h : ms_M} (hM_h : Rg_M h) : Sm_ RV_ (j_X13_tokenize_83 nn kk_7 160 l1 l2 (H_M h)) (qj_X13_tokenize_83 nn qkk_7 y_l1 y_l2 h) := by
  unfold j_X13_tokenize_83 qj_X13_tokenize_83
  refine sm_cP (sf_X13_isLetter nn e_l2 hM_h) ?_; intro u86 y_u86 e_u86
  refine sm_eq e_u86 rfl ?_ ?_
  · refine sm_cP (sf_X13_isDigit nn e_l2 hM_h) ?_; intro u87 y_u87 e_u87
    refine sm_eq e_u87 rfl ?_ ?_
    · refine sm_is hM_h rfl ?_
      refine sm_cP (sf_X13_signAt nn e_l1 hM_h) ?_; intro u89 y_u89 e_u89
      exact sw_X13_tokenize_330 nn hk_kk_7 nn e_l1 e_u89 rfl rfl hM_h
    · exact sw_X13_tokenize_189 nn hk_kk_7 nn e_l1 e_l2 rfl rfl hM_h
  · exact sw_X13_tokenize_92 nn hk_kk_7 nn e_l1 rfl hM_h
set_option maxRecDepth 4000 in
theorem sw_X13_tokenize_58 (nn : Nat) {kk_7 : Nat → Int32 → mx_H → Option mx_H} {qkk_7 : Int → ms_M → Option ms_M} (hk_kk_7 : ∀ {l1 : Int32} {y_l1 : Int} (e_l1 : l1.toInt = y_l1) {h : ms_M} (hM_h : Rg_M h), Sm_ RV_ (kk_7 160 l1 (H_M h)) (qkk_7 y_l1 h)) : ∀ (k : Nat) {l1 : Int32} {y_l1 : Int} (e_l1 : l1.toInt = y_l1) {h : ms_M} (hM_h : Rg_M h), Sm_ RV_ (w_X13_tokenize_58 nn kk_7 k 160 l1 (H_M h)) (qw_X13_tokenize_58 nn qkk_7 k y_l1 h) := by
  intro k
  induction k with
  | zero => intros; exact sm_no
  | succ k ih =>
    intro l1 y_l1 e_l1 h hM_h
    unfold w_X13_tokenize_58 qw_X13_tokenize_58
    refine sm_gi hM_h rfl ?_; intro v92 e_v92
    refine sm_le e_v92 e_l1 ?_ ?_
    · exact hk_kk_7 e_l1 hM_h
    · refine sm_gr hM_h (d := 162) rfl ?_
      refine sm_ai hM_h rfl e_l1 ?_; intro v94 y_v94 e_v94
      refine sm_eq e_v94 rfl ?_ ?_
      · exact hk_kk_7 e_l1 hM_h
      · refine sm_oq_add e_l1 rfl ?_; intro v95 y_v95 e_v95
        exact ih e_v95 hM_h
set_option maxRecDepth 4000 in
theorem sw_X13_tokenize_7 (nn : Nat) : ∀ (k : Nat) {l1 : Int32} {y_l1 : Int} (e_l1 : l1.toInt = y_l1) {h : ms_M} (hM_h : Rg_M h), Sm_ RV_ (w_X13_tokenize_7 nn k 160 l1 (H_M h)) (qw_X13_tokenize_7 nn k y_l1 h) := by
  intro k
  induction k with
  | zero => intros; exact sm_no
  | succ k ih =>
    intro l1 y_l1 e_l1 h hM_h
    unfold w_X13_tokenize_7 qw_X13_tokenize_7
    refine sm_gi hM_h rfl ?_; intro v98 e_v98
    refine sm_le e_v98 e_l1 ?_ ?_
    · refine sm_gi hM_h rfl ?_; intro v99 e_v99
      refine sm_is hM_h rfl ?_
      refine sm_cV (sf_X13_token nn rfl e_v99 rfl rfl hM_h) ?_; intro u101 hM_u101
      refine sm_gi hM_u101 rfl ?_; intro v102 e_v102
      exact sw_X13_tokenize_449 nn nn e_v102 hM_u101
    · refine sm_gr hM_h (d := 162) rfl ?_
      refine sm_ai hM_h rfl e_l1 ?_; intro v104 y_v104 e_v104
      refine sm_eq e_v104 rfl ?_ ?_
      · refine sm_oq_add e_l1 rfl ?_; intro v105 y_v105 e_v105
        exact ih e_v105 hM_h
      · refine sm_ne e_v104 rfl ?_ ?_
        · refine sm_ne e_v104 rfl ?_ ?_
          · exact sj_X13_tokenize_83 nn ih e_l1 e_v104 hM_h
          · refine sm_oq_add e_l1 rfl ?_; intro v106 y_v106 e_v106
            refine sm_is hM_h rfl ?_
            refine sm_cP (sf_X13_at nn e_v106 hM_h) ?_; intro u108 y_u108 e_u108
            refine sm_ne e_u108 rfl ?_ ?_
            · exact sj_X13_tokenize_83 nn ih e_l1 e_v104 hM_h
            · exact sw_X13_tokenize_58 nn ih nn e_l1 hM_h
        · refine sm_oq_add e_l1 rfl ?_; intro v111 y_v111 e_v111
          exact ih e_v111 hM_h
set_option maxRecDepth 4000 in
theorem sf_X13_tokenize (nn : Nat) {h : ms_M} (hM_h : Rg_M h) : Sm_ RV_ (f_X13_tokenize nn 160 (H_M h)) (qf_X13_tokenize nn h) := by
  unfold f_X13_tokenize qf_X13_tokenize
  refine sm_pv hM_h rfl rfl ?_; intro h115 hM_h115
  exact sw_X13_tokenize_7 nn nn rfl hM_h115
set_option maxRecDepth 4000 in
theorem sw_X13_compile_169 (nn : Nat) {kk_147 : Nat → Int32 → mx_H → Option (Int32 × mx_H)} {qkk_147 : Int → ms_M → Option (Int × ms_M)} (hk_kk_147 : ∀ {l2 : Int32} {y_l2 : Int} (e_l2 : l2.toInt = y_l2) {h : ms_M} (hM_h : Rg_M h), Sm_ RI_ (kk_147 160 l2 (H_M h)) (qkk_147 y_l2 h)) : ∀ (k : Nat) {l2 : Int32} {y_l2 : Int} (e_l2 : l2.toInt = y_l2) {l3 : Int32} {y_l3 : Int} (e_l3 : l3.toInt = y_l3) {h : ms_M} (hM_h : Rg_M h), Sm_ RI_ (w_X13_compile_169 nn kk_147 k 160 l2 l3 (H_M h)) (qw_X13_compile_169 nn qkk_147 k y_l2 y_l3 h) := by
  intro k
  induction k with
  | zero => intros; exact sm_no
  | succ k ih =>
    intro l2 y_l2 e_l2 l3 y_l3 e_l3 h hM_h
    unfold w_X13_compile_169 qw_X13_compile_169
    refine sm_gr hM_h (d := 224) rfl ?_
    refine sm_ai hM_h rfl e_l2 ?_; intro v2 y_v2 e_v2
    refine sm_le e_v2 e_l3 ?_ ?_
    · refine sm_oq_add e_l2 rfl ?_; intro v3 y_v3 e_v3
      exact hk_kk_147 e_v3 hM_h
    · refine sm_gr hM_h (d := 221) rfl ?_
      refine sm_oq_mul rfl e_l2 ?_; intro v5 y_v5 e_v5
      refine sm_oq_add e_v5 e_l3 ?_; intro v6 y_v6 e_v6
      refine sm_gr hM_h (d := 223) rfl ?_
      refine sm_oq_mul rfl e_l2 ?_; intro v8 y_v8 e_v8
      refine sm_oq_add e_v8 e_l3 ?_; intro v9 y_v9 e_v9
      refine sm_ai hM_h rfl e_v9 ?_; intro v10 y_v10 e_v10
      refine sm_si hM_h rfl e_v6 e_v10 ?_; intro h11 hM_h11
      refine sm_oq_add e_l3 rfl ?_; intro v12 y_v12 e_v12
      exact ih e_l2 e_v12 hM_h11
set_option maxRecDepth 4000 in
theorem sw_X13_compile_147 (nn : Nat) : ∀ (k : Nat) {l2 : Int32} {y_l2 : Int} (e_l2 : l2.toInt = y_l2) {h : ms_M} (hM_h : Rg_M h), Sm_ RI_ (w_X13_compile_147 nn k 160 l2 (H_M h)) (qw_X13_compile_147 nn k y_l2 h) := by
  intro k
  induction k with
  | zero => intros; exact sm_no
  | succ k ih =>
    intro l2 y_l2 e_l2 h hM_h
    unfold w_X13_compile_147 qw_X13_compile_147
    refine sm_gi hM_h rfl ?_; intro v14 e_v14
    refine sm_le e_v14 e_l2 ?_ ?_
    · refine sm_gi hM_h rfl ?_; intro v15 e_v15
      refine sm_pv hM_h rfl e_v15 ?_; intro h16 hM_h16
      refine sm_gi hM_h16 rfl ?_; intro v17 e_v17
      exact sm_rI e_v17 hM_h16
    · refine sm_gr hM_h (d := 222) rfl ?_
      refine sm_gr hM_h (d := 224) rfl ?_
      refine sm_ai hM_h rfl e_l2 ?_; intro v20 y_v20 e_v20
      refine sm_si hM_h rfl e_l2 e_v20 ?_; intro h21 hM_h21
      exact sw_X13_compile_169 nn ih nn e_l2 rfl hM_h21
set_option maxRecDepth 4000 in
theorem sj_X13_compile_136 (nn : Nat) {h : ms_M} (hM_h : Rg_M h) : Sm_ RI_ (j_X13_compile_136 nn 160 (H_M h)) (qj_X13_compile_136 nn h) := by
  unfold j_X13_compile_136 qj_X13_compile_136
  refine sm_gi hM_h rfl ?_; intro v23 e_v23
  refine sm_eq e_v23 rfl ?_ ?_
  · exact sw_X13_compile_147 nn nn rfl hM_h
  · exact sm_rI rfl hM_h
set_option maxRecDepth 4000 in
theorem sw_X13_compile_110 (nn : Nat) : ∀ (k : Nat) {l2 : Int32} {y_l2 : Int} (e_l2 : l2.toInt = y_l2) {h : ms_M} (hM_h : Rg_M h), Sm_ RI_ (w_X13_compile_110 nn k 160 l2 (H_M h)) (qw_X13_compile_110 nn k y_l2 h) := by
  intro k
  induction k with
  | zero => intros; exact sm_no
  | succ k ih =>
    intro l2 y_l2 e_l2 h hM_h
    unfold w_X13_compile_110 qw_X13_compile_110
    refine sm_gi hM_h rfl ?_; intro v25 e_v25
    refine sm_le e_v25 e_l2 ?_ ?_
    · exact sj_X13_compile_136 nn hM_h
    · refine sm_gi hM_h rfl ?_; intro v26 e_v26
      refine sm_ne e_v26 rfl ?_ ?_
      · exact sj_X13_compile_136 nn hM_h
      · refine sm_is hM_h rfl ?_
        refine sm_cV (sf_X13_makeClass nn e_l2 hM_h) ?_; intro u28 hM_u28
        refine sm_oq_add e_l2 rfl ?_; intro v29 y_v29 e_v29
        exact ih e_v29 hM_u28
set_option maxRecDepth 4000 in
theorem sj_X13_compile_97 (nn : Nat) {h : ms_M} (hM_h : Rg_M h) : Sm_ RI_ (j_X13_compile_97 nn 160 (H_M h)) (qj_X13_compile_97 nn h) := by
  unfold j_X13_compile_97 qj_X13_compile_97
  refine sm_gi hM_h rfl ?_; intro v32 e_v32
  refine sm_ne e_v32 rfl ?_ ?_
  · exact sw_X13_compile_110 nn nn rfl hM_h
  · refine sm_is hM_h rfl ?_
    refine sm_cV (sf_X13_bodies nn hM_h) ?_; intro u34 hM_u34
    exact sw_X13_compile_110 nn nn rfl hM_u34
set_option maxRecDepth 4000 in
theorem sj_X13_compile_86 (nn : Nat) {h : ms_M} (hM_h : Rg_M h) : Sm_ RI_ (j_X13_compile_86 nn 160 (H_M h)) (qj_X13_compile_86 nn h) := by
  unfold j_X13_compile_86 qj_X13_compile_86
  refine sm_gi hM_h rfl ?_; intro v36 e_v36
  refine sm_ne e_v36 rfl ?_ ?_
  · exact sj_X13_compile_97 nn hM_h
  · refine sm_is hM_h rfl ?_
    refine sm_cV (sf_X13_heads nn hM_h) ?_; intro u38 hM_u38
    exact sj_X13_compile_97 nn hM_u38
set_option maxRecDepth 4000 in
theorem sw_X13_compile_43 (nn : Nat) : ∀ (k : Nat) {l1 : Int32} {y_l1 : Int} (e_l1 : l1.toInt = y_l1) {l2 : Int32} {y_l2 : Int} (e_l2 : l2.toInt = y_l2) {h : ms_M} (hM_h : Rg_M h), Sm_ RI_ (w_X13_compile_43 nn k 160 l1 l2 (H_M h)) (qw_X13_compile_43 nn k y_l1 y_l2 h) := by
  intro k
  induction k with
  | zero => intros; exact sm_no
  | succ k ih =>
    intro l1 y_l1 e_l1 l2 y_l2 e_l2 h hM_h
    unfold w_X13_compile_43 qw_X13_compile_43
    refine sm_le e_l1 e_l2 ?_ ?_
    · refine sm_pv hM_h rfl e_l1 ?_; intro h40 hM_h40
      refine sm_is hM_h40 rfl ?_
      refine sm_cV (sf_X13_tokenize nn hM_h40) ?_; intro u42 hM_u42
      refine sm_gi hM_u42 rfl ?_; intro v43 e_v43
      refine sm_ne e_v43 rfl ?_ ?_
      · exact sj_X13_compile_86 nn hM_u42
      · refine sm_is hM_u42 rfl ?_
        refine sm_cV (sf_X13_program nn hM_u42) ?_; intro u45 hM_u45
        exact sj_X13_compile_86 nn hM_u45
    · refine sm_gr hM_h (d := 162) rfl ?_
      refine sm_gr hM_h (d := 161) rfl ?_
      refine sm_ai hM_h rfl e_l2 ?_; intro v49 y_v49 e_v49
      refine sm_si hM_h rfl e_l2 e_v49 ?_; intro h50 hM_h50
      refine sm_oq_add e_l2 rfl ?_; intro v51 y_v51 e_v51
      exact ih e_l1 e_v51 hM_h50
set_option maxRecDepth 4000 in
theorem sf_X13_compile (nn : Nat) {h : ms_M} (hM_h : Rg_M h) : Sm_ RI_ (f_X13_compile nn 160 (H_M h)) (qf_X13_compile nn h) := by
  unfold f_X13_compile qf_X13_compile
  refine sm_gi hM_h rfl ?_; intro v53 e_v53
  refine sm_pv hM_h rfl rfl ?_; intro h54 hM_h54
  refine sm_pv hM_h54 rfl rfl ?_; intro h55 hM_h55
  refine sm_pv hM_h55 rfl rfl ?_; intro h56 hM_h56
  refine sm_le e_v53 rfl ?_ ?_
  · exact sw_X13_compile_43 nn nn e_v53 rfl hM_h56
  · refine sm_pv hM_h56 rfl rfl ?_; intro h57 hM_h57
    refine sm_pv hM_h57 rfl rfl ?_; intro h58 hM_h58
    exact sm_rI rfl hM_h58
set_option maxRecDepth 4000 in
theorem sf_X13_end (nn : Nat) {a1 : Int32} {y_a1 : Int} (e_a1 : a1.toInt = y_a1) {h : ms_M} (hM_h : Rg_M h) : Sm_ RI_ (f_X13_end nn 160 a1 (H_M h)) (qf_X13_end nn y_a1 h) := by
  unfold f_X13_end qf_X13_end
  refine sm_lt e_a1 rfl ?_ ?_
  · exact sm_rI rfl hM_h
  · refine sm_gi hM_h rfl ?_; intro v1 e_v1
    refine sm_le e_a1 e_v1 ?_ ?_
    · refine sm_pv hM_h rfl e_a1 ?_; intro h2 hM_h2
      exact sm_rI rfl hM_h2
    · exact sm_rI rfl hM_h
set_option maxRecDepth 4000 in
theorem sf_X13_fault (nn : Nat) {a1 : Int32} {y_a1 : Int} (e_a1 : a1.toInt = y_a1) {h : ms_M} (hM_h : Rg_M h) : Sm_ (RP_ h) (f_X13_fault nn 160 a1 (H_M h)) (qf_X13_fault nn y_a1 h) := by
  unfold f_X13_fault qf_X13_fault
  refine sm_ne e_a1 rfl ?_ ?_
  · refine sm_ne e_a1 rfl ?_ ?_
    · exact sm_rP rfl
    · refine sm_gi hM_h rfl ?_; intro v1 e_v1
      refine sm_le e_v1 rfl ?_ ?_
      · exact sm_rP rfl
      · refine sm_gi hM_h rfl ?_; intro v2 e_v2
        exact sm_rP e_v2
  · refine sm_gi hM_h rfl ?_; intro v5 e_v5
    exact sm_rP e_v5
set_option maxRecDepth 4000 in
theorem sw_X13_lay_3 (nn : Nat) : ∀ (k : Nat) {l1 : Int32} {y_l1 : Int} (e_l1 : l1.toInt = y_l1) {l2 : Int32} {y_l2 : Int} (e_l2 : l2.toInt = y_l2) {h : ms_M} (hM_h : Rg_M h), Sm_ RV_ (w_X13_lay_3 nn k 160 l1 l2 (H_M h)) (qw_X13_lay_3 nn k y_l1 y_l2 h) := by
  intro k
  induction k with
  | zero => intros; exact sm_no
  | succ k ih =>
    intro l1 y_l1 e_l1 l2 y_l2 e_l2 h hM_h
    unfold w_X13_lay_3 qw_X13_lay_3
    refine sm_lt e_l2 rfl ?_ ?_
    · exact sm_rV hM_h
    · refine sm_gr hM_h (d := 161) rfl ?_
      refine sm_gi hM_h rfl ?_; intro v2 e_v2
      refine sm_oq_shr e_l1 e_l2 ?_; intro v3 y_v3 e_v3
      refine sm_oq_and e_v3 rfl ?_; intro v4 y_v4 e_v4
      refine sm_si hM_h rfl e_v2 e_v4 ?_; intro h5 hM_h5
      refine sm_gi hM_h5 rfl ?_; intro v6 e_v6
      refine sm_oq_add e_v6 rfl ?_; intro v7 y_v7 e_v7
      refine sm_pv hM_h5 rfl e_v7 ?_; intro h8 hM_h8
      refine sm_oq_add e_l2 rfl ?_; intro v9 y_v9 e_v9
      exact ih e_l1 e_v9 hM_h8
set_option maxRecDepth 4000 in
theorem sf_X13_lay (nn : Nat) {a1 : Int32} {y_a1 : Int} (e_a1 : a1.toInt = y_a1) {h : ms_M} (hM_h : Rg_M h) : Sm_ RV_ (f_X13_lay nn 160 a1 (H_M h)) (qf_X13_lay nn y_a1 h) := by
  unfold f_X13_lay qf_X13_lay
  exact sw_X13_lay_3 nn nn e_a1 rfl hM_h
set_option maxRecDepth 4000 in
theorem sf_X13_feed (nn : Nat) {a1 : Int32} {y_a1 : Int} (e_a1 : a1.toInt = y_a1) {a2 : Int32} {y_a2 : Int} (e_a2 : a2.toInt = y_a2) {a3 : Int32} {y_a3 : Int} (e_a3 : a3.toInt = y_a3) {a4 : Int32} {y_a4 : Int} (e_a4 : a4.toInt = y_a4) {a5 : Int32} {y_a5 : Int} (e_a5 : a5.toInt = y_a5) {h : ms_M} (hM_h : Rg_M h) : Sm_ RI_ (f_X13_feed nn 160 a1 a2 a3 a4 a5 (H_M h)) (qf_X13_feed nn y_a1 y_a2 y_a3 y_a4 y_a5 h) := by
  unfold f_X13_feed qf_X13_feed
  refine sm_gi hM_h rfl ?_; intro v1 e_v1
  refine sm_oq_add e_v1 rfl ?_; intro v2 y_v2 e_v2
  refine sm_le e_v2 rfl ?_ ?_
  · refine sm_is hM_h rfl ?_
    refine sm_cV (sf_X13_lay nn e_a1 hM_h) ?_; intro u4 hM_u4
    refine sm_is hM_u4 rfl ?_
    refine sm_cV (sf_X13_lay nn e_a2 hM_u4) ?_; intro u6 hM_u6
    refine sm_is hM_u6 rfl ?_
    refine sm_cV (sf_X13_lay nn e_a3 hM_u6) ?_; intro u8 hM_u8
    refine sm_is hM_u8 rfl ?_
    refine sm_cV (sf_X13_lay nn e_a4 hM_u8) ?_; intro u10 hM_u10
    refine sm_is hM_u10 rfl ?_
    refine sm_cV (sf_X13_lay nn e_a5 hM_u10) ?_; intro u12 hM_u12
    refine sm_gi hM_u12 rfl ?_; intro v13 e_v13
    exact sm_rI e_v13 hM_u12
  · exact sm_rI rfl hM_h
set_option maxRecDepth 4000 in
theorem sf_X13_image (nn : Nat) {a1 : Int32} {y_a1 : Int} (e_a1 : a1.toInt = y_a1) {a2 : Int32} {y_a2 : Int} (e_a2 : a2.toInt = y_a2) {h : ms_M} (hM_h : Rg_M h) : Sm_ (RP_ h) (f_X13_image nn 160 a1 a2 (H_M h)) (qf_X13_image nn y_a1 y_a2 h) := by
  unfold f_X13_image qf_X13_image
  refine sm_lt e_a1 rfl ?_ ?_
  · exact sm_rP rfl
  · refine sm_gi hM_h rfl ?_; intro v1 e_v1
    refine sm_le e_v1 e_a1 ?_ ?_
    · exact sm_rP rfl
    · refine sm_lt e_a2 rfl ?_ ?_
      · exact sm_rP rfl
      · refine sm_gr hM_h (d := 222) rfl ?_
        refine sm_ai hM_h rfl e_a1 ?_; intro v3 y_v3 e_v3
        refine sm_lt e_a2 e_v3 ?_ ?_
        · refine sm_ne e_a2 rfl ?_ ?_
          · refine sm_gr hM_h (d := 221) rfl ?_
            refine sm_oq_mul rfl e_a1 ?_; intro v5 y_v5 e_v5
            refine sm_oq_add e_v5 e_a2 ?_; intro v6 y_v6 e_v6
            refine sm_ai hM_h rfl e_v6 ?_; intro v7 y_v7 e_v7
            exact sm_rP e_v7
          · refine sm_gr hM_h (d := 222) rfl ?_
            refine sm_ai hM_h rfl e_a1 ?_; intro v9 y_v9 e_v9
            exact sm_rP e_v9
        · exact sm_rP rfl
