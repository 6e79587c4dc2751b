set_option maxRecDepth 4000 in
theorem sf_X13_handled (nn : Nat) {a1 : Int32} {y_a1 : Int} (e_a1 : a1.toInt = y_a1) {h : ms_M} (hM_h : Rg_M h) : Sm_ RI_ (f_X13_handled nn 160 a1 (H_M h)) (qf_X13_handled nn y_a1 h) := by
  unfold f_X13_handled qf_X13_handled
  refine sm_gr hM_h (d := 236) rfl ?_
  refine sm_gi hM_h rfl ?_; intro v47 e_v47
  refine sm_oq_mul rfl e_v47 ?_; intro v48 y_v48 e_v48
  refine sm_gi hM_h rfl ?_; intro v49 e_v49
  refine sm_oq_add e_v48 e_v49 ?_; intro v50 y_v50 e_v50
  refine sm_ai hM_h rfl e_v50 ?_; intro v51 y_v51 e_v51
  exact sw_X13_handled_20 nn nn e_a1 e_v51 rfl hM_h
set_option maxRecDepth 4000 in
theorem sf_X13_isJump (nn : Nat) {a0 : Int32} {y_a0 : Int} (e_a0 : a0.toInt = y_a0) {h : ms_M} (hM_h : Rg_M h) : Sm_ (RP_ h) (f_X13_isJump nn a0 (H_M h)) (qf_X13_isJump nn y_a0 h) := by
  unfold f_X13_isJump qf_X13_isJump
  refine sm_lt e_a0 rfl ?_ ?_
  · exact sm_rP rfl
  · refine sm_lt rfl e_a0 ?_ ?_
    · exact sm_rP rfl
    · exact sm_rP rfl
set_option maxRecDepth 4000 in
theorem sf_X13_partOf (nn : Nat) {a1 : Int32} {y_a1 : Int} (e_a1 : a1.toInt = y_a1) {a2 : Int32} {y_a2 : Int} (e_a2 : a2.toInt = y_a2) {h : ms_M} (hM_h : Rg_M h) : Sm_ (RP_ h) (f_X13_partOf nn 160 a1 a2 (H_M h)) (qf_X13_partOf nn y_a1 y_a2 h) := by
  unfold f_X13_partOf qf_X13_partOf
  refine sm_gi hM_h rfl ?_; intro v1 e_v1
  refine sm_gr hM_h (d := 228) rfl ?_
  refine sm_gi hM_h rfl ?_; intro v3 e_v3
  refine sm_oq_mul rfl e_v3 ?_; intro v4 y_v4 e_v4
  refine sm_oq_add e_v4 e_a1 ?_; intro v5 y_v5 e_v5
  refine sm_ai hM_h rfl e_v5 ?_; intro v6 y_v6 e_v6
  refine sm_oq_add e_v6 rfl ?_; intro v7 y_v7 e_v7
  refine sm_oq_add e_v7 e_a2 ?_; intro v8 y_v8 e_v8
  refine sm_is hM_h rfl ?_
  refine sm_cP (sf_X13_byteAt nn e_v1 e_v8 hM_h) ?_; intro u10 y_u10 e_u10
  exact sm_rP e_u10
set_option maxRecDepth 4000 in
theorem sf_X13_sortOf (nn : Nat) {a1 : Int32} {y_a1 : Int} (e_a1 : a1.toInt = y_a1) {h : ms_M} (hM_h : Rg_M h) : Sm_ (RP_ h) (f_X13_sortOf nn 160 a1 (H_M h)) (qf_X13_sortOf nn y_a1 h) := by
  unfold f_X13_sortOf qf_X13_sortOf
  refine sm_lt e_a1 rfl ?_ ?_
  · exact sm_rP rfl
  · refine sm_gr hM_h (d := 229) rfl ?_
    refine sm_gi hM_h rfl ?_; intro v2 e_v2
    refine sm_ai hM_h rfl e_v2 ?_; intro v3 y_v3 e_v3
    refine sm_lt e_v3 e_a1 ?_ ?_
    · exact sm_rP rfl
    · refine sm_gi hM_h rfl ?_; intro v4 e_v4
      refine sm_gr hM_h (d := 228) rfl ?_
      refine sm_gi hM_h rfl ?_; intro v6 e_v6
      refine sm_oq_mul rfl e_v6 ?_; intro v7 y_v7 e_v7
      refine sm_oq_add e_v7 e_a1 ?_; intro v8 y_v8 e_v8
      refine sm_ai hM_h rfl e_v8 ?_; intro v9 y_v9 e_v9
      refine sm_is hM_h rfl ?_
      refine sm_cP (sf_X13_byteAt nn e_v4 e_v9 hM_h) ?_; intro u11 y_u11 e_u11
      exact sm_rP e_u11
set_option maxRecDepth 4000 in
theorem sj_X13_right_356 (nn : Nat) {s0 : Int32} {y_s0 : Int} (e_s0 : s0.toInt = y_s0) {s1 : Int32} {y_s1 : Int} (e_s1 : s1.toInt = y_s1) {h : ms_M} (hM_h : Rg_M h) : Sm_ RI_ (j_X13_right_356 nn s0 s1 (H_M h)) (qj_X13_right_356 nn y_s0 y_s1 h) := by
  unfold j_X13_right_356 qj_X13_right_356
  refine sm_ne e_s1 e_s0 ?_ ?_
  · exact sm_rI rfl hM_h
  · exact sm_rI rfl hM_h
set_option maxRecDepth 4000 in
theorem sj_X13_right_244 (nn : Nat) {l2 : Int32} {y_l2 : Int} (e_l2 : l2.toInt = y_l2) {l3 : Int32} {y_l3 : Int} (e_l3 : l3.toInt = y_l3) {l5 : Int32} {y_l5 : Int} (e_l5 : l5.toInt = y_l5) {s0 : Int32} {y_s0 : Int} (e_s0 : s0.toInt = y_s0) {h : ms_M} (hM_h : Rg_M h) : Sm_ RI_ (j_X13_right_244 nn 160 l2 l3 l5 s0 (H_M h)) (qj_X13_right_244 nn y_l2 y_l3 y_l5 y_s0 h) := by
  unfold j_X13_right_244 qj_X13_right_244
  refine sm_oq_sub e_l5 rfl ?_; intro v2 y_v2 e_v2
  refine sm_div e_v2 ⟨rfl, by decide⟩ ?_; intro v3 y_v3 e_v3
  refine sm_gi hM_h rfl ?_; intro v4 e_v4
  refine sm_is hM_h rfl ?_
  refine sm_cP (sf_X13_partOf nn e_l3 rfl hM_h) ?_; intro u6 y_u6 e_u6
  refine sm_is hM_h rfl ?_
  refine sm_cI (sf_X13_holder nn e_v3 e_v4 e_u6 e_s0 hM_h) ?_; intro u8 y_u8 M_u8 e_u8 hM_u8
  refine sm_ne e_u8 rfl ?_ ?_
  · refine sm_oq_sub e_u8 rfl ?_; intro v9 y_v9 e_v9
    refine sm_gi hM_u8 rfl ?_; intro v10 e_v10
    refine sm_is hM_u8 rfl ?_
    refine sm_cP (sf_X13_kindText nn e_v9 e_v10 e_s0 hM_u8) ?_; intro u12 y_u12 e_u12
    refine sm_gi hM_u8 rfl ?_; intro v13 e_v13
    refine sm_is hM_u8 rfl ?_
    refine sm_cP (sf_X13_partOf nn e_l3 rfl hM_u8) ?_; intro u15 y_u15 e_u15
    refine sm_is hM_u8 rfl ?_
    refine sm_cP (sf_X13_sameText nn e_v9 e_u12 e_v13 e_u15 hM_u8) ?_; intro u17 y_u17 e_u17
    refine sm_ne e_u17 rfl ?_ ?_
    · refine sm_eq e_s0 rfl ?_ ?_
      · exact sm_rI rfl hM_u8
      · refine sm_gr hM_u8 (d := 235) rfl ?_
        refine sm_oq_mul rfl e_v9 ?_; intro v19 y_v19 e_v19
        refine sm_gi hM_u8 rfl ?_; intro v20 e_v20
        refine sm_oq_add e_v19 e_v20 ?_; intro v21 y_v21 e_v21
        refine sm_ai hM_u8 rfl e_v21 ?_; intro v22 y_v22 e_v22
        refine sm_is hM_u8 rfl ?_
        refine sm_cP (sf_X13_byteAt nn e_v9 e_v22 hM_u8) ?_; intro u24 y_u24 e_u24
        refine sm_ne e_l2 rfl ?_ ?_
        · exact sj_X13_right_356 nn rfl e_u24 hM_u8
        · exact sj_X13_right_356 nn rfl e_u24 hM_u8
    · exact sm_rI rfl hM_u8
  · exact sm_rI rfl hM_u8
set_option maxRecDepth 4000 in
theorem sj_X13_right_187 (nn : Nat) {l2 : Int32} {y_l2 : Int} (e_l2 : l2.toInt = y_l2) {l3 : Int32} {y_l3 : Int} (e_l3 : l3.toInt = y_l3) {h : ms_M} (hM_h : Rg_M h) : Sm_ RI_ (j_X13_right_187 nn 160 l2 l3 (H_M h)) (qj_X13_right_187 nn y_l2 y_l3 h) := by
  unfold j_X13_right_187 qj_X13_right_187
  refine sm_is hM_h rfl ?_
  refine sm_cP (sf_X13_sortOf nn e_l3 hM_h) ?_; intro u30 y_u30 e_u30
  refine sm_eq e_u30 rfl ?_ ?_
  · refine sm_gi hM_h rfl ?_; intro v31 e_v31
    refine sm_is hM_h rfl ?_
    refine sm_cP (sf_X13_partOf nn e_l3 rfl hM_h) ?_; intro u33 y_u33 e_u33
    refine sm_is hM_h rfl ?_
    refine sm_cI (sf_X13_typeOfClass nn e_v31 e_u33 hM_h) ?_; intro u35 y_u35 M_u35 e_u35 hM_u35
    refine sm_cP (sf_X13_isRow nn e_u35 hM_u35) ?_; intro u36 y_u36 e_u36
    refine sm_ne e_u36 rfl ?_ ?_
    · exact sm_rI rfl hM_u35
    · refine sm_cP (sf_X13_isThere nn e_u35 hM_u35) ?_; intro u37 y_u37 e_u37
      refine sm_ne e_u37 rfl ?_ ?_
      · refine sm_le e_l2 rfl ?_ ?_
        · exact sj_X13_right_244 nn e_l2 e_l3 e_u35 rfl hM_u35
        · exact sj_X13_right_244 nn e_l2 e_l3 e_u35 rfl hM_u35
      · exact sm_rI rfl hM_u35
  · exact sm_rI rfl hM_h
set_option maxRecDepth 4000 in
theorem sj_X13_right_131 (nn : Nat) {l3 : Int32} {y_l3 : Int} (e_l3 : l3.toInt = y_l3) {h : ms_M} (hM_h : Rg_M h) : Sm_ RI_ (j_X13_right_131 nn 160 l3 (H_M h)) (qj_X13_right_131 nn y_l3 h) := by
  unfold j_X13_right_131 qj_X13_right_131
  refine sm_is hM_h rfl ?_
  refine sm_cP (sf_X13_sortOf nn e_l3 hM_h) ?_; intro u43 y_u43 e_u43
  refine sm_eq e_u43 rfl ?_ ?_
  · refine sm_gi hM_h rfl ?_; intro v44 e_v44
    refine sm_is hM_h rfl ?_
    refine sm_cI (sf_X13_typeOfClass nn e_v44 e_l3 hM_h) ?_; intro u46 y_u46 M_u46 e_u46 hM_u46
    refine sm_cP (sf_X13_isThere nn e_u46 hM_u46) ?_; intro u47 y_u47 e_u47
    refine sm_eq e_u47 rfl ?_ ?_
    · exact sm_rI rfl hM_u46
    · refine sm_cP (sf_X13_isRow nn e_u46 hM_u46) ?_; intro u48 y_u48 e_u48
      refine sm_ne e_u48 rfl ?_ ?_
      · exact sm_rI rfl hM_u46
      · exact sm_rI rfl hM_u46
  · exact sm_rI rfl hM_h
set_option maxRecDepth 4000 in
theorem sj_X13_right_25 (nn : Nat) {l2 : Int32} {y_l2 : Int} (e_l2 : l2.toInt = y_l2) {s0 : Int32} {y_s0 : Int} (e_s0 : s0.toInt = y_s0) {h : ms_M} (hM_h : Rg_M h) : Sm_ RI_ (j_X13_right_25 nn 160 l2 s0 (H_M h)) (qj_X13_right_25 nn y_l2 y_s0 h) := by
  unfold j_X13_right_25 qj_X13_right_25
  refine sm_eq e_l2 rfl ?_ ?_
  · refine sm_is hM_h rfl ?_
    refine sm_cP (sf_X13_sortOf nn e_s0 hM_h) ?_; intro u53 y_u53 e_u53
    refine sm_ne e_u53 rfl ?_ ?_
    · exact sm_rI rfl hM_h
    · exact sm_rI rfl hM_h
  · refine sm_eq e_l2 rfl ?_ ?_
    · exact sj_X13_right_187 nn e_l2 e_s0 hM_h
    · refine sm_eq e_l2 rfl ?_ ?_
      · exact sj_X13_right_187 nn e_l2 e_s0 hM_h
      · refine sm_eq e_l2 rfl ?_ ?_
        · exact sj_X13_right_187 nn e_l2 e_s0 hM_h
        · refine sm_eq e_l2 rfl ?_ ?_
          · exact sj_X13_right_187 nn e_l2 e_s0 hM_h
          · refine sm_eq e_l2 rfl ?_ ?_
            · exact sj_X13_right_131 nn e_s0 hM_h
            · refine sm_eq e_l2 rfl ?_ ?_
              · refine sm_ne e_s0 rfl ?_ ?_
                · exact sm_rI rfl hM_h
                · exact sm_rI rfl hM_h
              · refine sm_eq e_l2 rfl ?_ ?_
                · exact sj_X13_right_131 nn e_s0 hM_h
                · refine sm_eq e_l2 rfl ?_ ?_
                  · exact sj_X13_right_131 nn e_s0 hM_h
                  · refine sm_eq e_l2 rfl ?_ ?_
                    · exact sj_X13_right_131 nn e_s0 hM_h
                    · exact sm_rI rfl hM_h
set_option maxRecDepth 4000 in
theorem sf_X13_right (nn : Nat) {a1 : Int32} {y_a1 : Int} (e_a1 : a1.toInt = y_a1) {h : ms_M} (hM_h : Rg_M h) : Sm_ RI_ (f_X13_right nn 160 a1 (H_M h)) (qf_X13_right nn y_a1 h) := by
  unfold f_X13_right qf_X13_right
  refine sm_is hM_h rfl ?_
  refine sm_cP (sf_X13_code nn e_a1 hM_h) ?_; intro u57 y_u57 e_u57
  refine sm_cP (sf_X13_widthOf nn e_u57 hM_h) ?_; intro u58 y_u58 e_u58
  refine sm_ne e_u58 rfl ?_ ?_
  · exact sj_X13_right_25 nn e_u57 rfl hM_h
  · refine sm_oq_add e_a1 rfl ?_; intro v59 y_v59 e_v59
    refine sm_is hM_h rfl ?_
    refine sm_cP (sf_X13_code nn e_v59 hM_h) ?_; intro u61 y_u61 e_u61
    exact sj_X13_right_25 nn e_u57 e_u61 hM_h
set_option maxRecDepth 4000 in
theorem sj_X13_stackFits_80 (nn : Nat) {kk_34 : Nat → Int32 → Int32 → Int32 → mx_H → Option (Int32 × mx_H)} {qkk_34 : Int → Int → Int → ms_M → Option (Int × ms_M)} (hk_kk_34 : ∀ {l2 : Int32} {y_l2 : Int} (e_l2 : l2.toInt = y_l2) {l3 : Int32} {y_l3 : Int} (e_l3 : l3.toInt = y_l3) {l4 : Int32} {y_l4 : Int} (e_l4 : l4.toInt = y_l4) {h : ms_M} (hM_h : Rg_M h), Sm_ RI_ (kk_34 160 l2 l3 l4 (H_M h)) (qkk_34 y_l2 y_l3 y_l4 h)) {l3 : Int32} {y_l3 : Int} (e_l3 : l3.toInt = y_l3) {l4 : Int32} {y_l4 : Int} (e_l4 : l4.toInt = y_l4) {s0 : Int32} {y_s0 : Int} (e_s0 : s0.toInt = y_s0) {s1 : Int32} {y_s1 : Int} (e_s1 : s1.toInt = y_s1) {h : ms_M} (hM_h : Rg_M h) : Sm_ RI_ (j_X13_stackFits_80 nn kk_34 160 l3 l4 s0 s1 (H_M h)) (qj_X13_stackFits_80 nn qkk_34 y_l3 y_l4 y_s0 y_s1 h) := by
  unfold j_X13_stackFits_80 qj_X13_stackFits_80
  refine sm_oq_add e_s1 e_s0 ?_; intro v1 y_v1 e_v1
  refine sm_oq_add e_l4 rfl ?_; intro v2 y_v2 e_v2
  exact hk_kk_34 e_v1 e_l3 e_v2 hM_h
set_option maxRecDepth 4000 in
theorem sw_X13_stackFits_34 (nn : Nat) : ∀ (k : Nat) {l2 : Int32} {y_l2 : Int} (e_l2 : l2.toInt = y_l2) {l3 : Int32} {y_l3 : Int} (e_l3 : l3.toInt = y_l3) {l4 : Int32} {y_l4 : Int} (e_l4 : l4.toInt = y_l4) {h : ms_M} (hM_h : Rg_M h), Sm_ RI_ (w_X13_stackFits_34 nn k 160 l2 l3 l4 (H_M h)) (qw_X13_stackFits_34 nn k y_l2 y_l3 y_l4 h) := by
  intro k
  induction k with
  | zero => intros; exact sm_no
  | succ k ih =>
    intro l2 y_l2 e_l2 l3 y_l3 e_l3 l4 y_l4 e_l4 h hM_h
    unfold w_X13_stackFits_34 qw_X13_stackFits_34
    refine sm_le e_l3 e_l4 ?_ ?_
    · exact sm_rI rfl hM_h
    · refine sm_gr hM_h (d := 244) rfl ?_
      refine sm_ai hM_h rfl e_l4 ?_; intro v4 y_v4 e_v4
      refine sm_is hM_h rfl ?_
      refine sm_cI (sf_X13_framed nn e_l2 hM_h) ?_; intro u6 y_u6 M_u6 e_u6 hM_u6
      refine sm_is hM_u6 rfl ?_
      refine sm_cP (sf_X13_goes nn e_v4 e_u6 hM_u6) ?_; intro u8 y_u8 e_u8
      refine sm_ne e_u8 rfl ?_ ?_
      · refine sm_gi hM_u6 rfl ?_; intro v9 e_v9
        refine sm_is hM_u6 rfl ?_
        refine sm_cP (sf_X13_byteAt nn e_v9 e_l2 hM_u6) ?_; intro u11 y_u11 e_u11
        refine sm_ne e_u11 rfl ?_ ?_
        · exact sj_X13_stackFits_80 nn ih e_l3 e_l4 rfl e_l2 hM_u6
        · exact sj_X13_stackFits_80 nn ih e_l3 e_l4 rfl e_l2 hM_u6
      · exact sm_rI rfl hM_u6
set_option maxRecDepth 4000 in
theorem sf_X13_stackFits (nn : Nat) {a1 : Int32} {y_a1 : Int} (e_a1 : a1.toInt = y_a1) {h : ms_M} (hM_h : Rg_M h) : Sm_ RI_ (f_X13_stackFits nn 160 a1 (H_M h)) (qf_X13_stackFits nn y_a1 h) := by
  unfold f_X13_stackFits qf_X13_stackFits
  refine sm_oq_add e_a1 rfl ?_; intro v15 y_v15 e_v15
  refine sm_is hM_h rfl ?_
  refine sm_cP (sf_X13_typesEnd nn e_v15 hM_h) ?_; intro u17 y_u17 e_u17
  refine sm_gi hM_h rfl ?_; intro v18 e_v18
  refine sm_is hM_h rfl ?_
  refine sm_cP (sf_X13_byteAt nn e_v18 e_u17 hM_h) ?_; intro u20 y_u20 e_u20
  refine sm_oq_add e_u17 rfl ?_; intro v21 y_v21 e_v21
  refine sm_gi hM_h rfl ?_; intro v22 e_v22
  refine sm_eq e_u20 e_v22 ?_ ?_
  · exact sw_X13_stackFits_34 nn nn e_v21 e_u20 rfl hM_h
  · exact sm_rI rfl hM_h
set_option maxRecDepth 4000 in
theorem sf_X13_comesBack (nn : Nat) {a1 : Int32} {y_a1 : Int} (e_a1 : a1.toInt = y_a1) {h : ms_M} (hM_h : Rg_M h) : Sm_ RI_ (f_X13_comesBack nn 160 a1 (H_M h)) (qf_X13_comesBack nn y_a1 h) := by
  unfold f_X13_comesBack qf_X13_comesBack
  refine sm_gi hM_h rfl ?_; intro v1 e_v1
  refine sm_gi hM_h rfl ?_; intro v2 e_v2
  refine sm_lt e_v1 e_v2 ?_ ?_
  · refine sm_gr hM_h (d := 244) rfl ?_
    refine sm_gi hM_h rfl ?_; intro v4 e_v4
    refine sm_si hM_h rfl e_v4 e_a1 ?_; intro h5 hM_h5
    refine sm_gi hM_h5 rfl ?_; intro v6 e_v6
    refine sm_oq_add e_v6 rfl ?_; intro v7 y_v7 e_v7
    refine sm_pv hM_h5 rfl e_v7 ?_; intro h8 hM_h8
    exact sm_rI rfl hM_h8
  · exact sm_rI rfl hM_h
set_option maxRecDepth 4000 in
theorem sf_X13_pull (nn : Nat) {h : ms_M} (hM_h : Rg_M h) : Sm_ RI_ (f_X13_pull nn 160 (H_M h)) (qf_X13_pull nn h) := by
  unfold f_X13_pull qf_X13_pull
  refine sm_gi hM_h rfl ?_; intro v1 e_v1
  refine sm_ne e_v1 rfl ?_ ?_
  · refine sm_gi hM_h rfl ?_; intro v2 e_v2
    refine sm_oq_sub e_v2 rfl ?_; intro v3 y_v3 e_v3
    refine sm_pv hM_h rfl e_v3 ?_; intro h4 hM_h4
    refine sm_gr hM_h4 (d := 244) rfl ?_
    refine sm_gi hM_h4 rfl ?_; intro v6 e_v6
    refine sm_ai hM_h4 rfl e_v6 ?_; intro v7 y_v7 e_v7
    exact sm_rI e_v7 hM_h4
  · exact sm_rI rfl hM_h
set_option maxRecDepth 4000 in
theorem sf_X13_pullFit (nn : Nat) {a1 : Int32} {y_a1 : Int} (e_a1 : a1.toInt = y_a1) {h : ms_M} (hM_h : Rg_M h) : Sm_ RI_ (f_X13_pullFit nn 160 a1 (H_M h)) (qf_X13_pullFit nn y_a1 h) := by
  unfold f_X13_pullFit qf_X13_pullFit
  refine sm_is hM_h rfl ?_
  refine sm_cI (sf_X13_pull nn hM_h) ?_; intro u2 y_u2 M_u2 e_u2 hM_u2
  refine sm_eq e_u2 rfl ?_ ?_
  · exact sm_rI rfl hM_u2
  · refine sm_is hM_u2 rfl ?_
    refine sm_cP (sf_X13_goes nn e_u2 e_a1 hM_u2) ?_; intro u4 y_u4 e_u4
    refine sm_eq e_u4 rfl ?_ ?_
    · exact sm_rI rfl hM_u2
    · exact sm_rI rfl hM_u2
set_option maxRecDepth 4000 in
theorem sj_X13_calls_129 (nn : Nat) {l3 : Int32} {y_l3 : Int} (e_l3 : l3.toInt = y_l3) {h : ms_M} (hM_h : Rg_M h) : Sm_ RI_ (j_X13_calls_129 nn 160 l3 (H_M h)) (qj_X13_calls_129 nn y_l3 h) := by
  unfold j_X13_calls_129 qj_X13_calls_129
  refine sm_oq_add e_l3 rfl ?_; intro v1 y_v1 e_v1
  refine sm_is hM_h rfl ?_
  refine sm_cI (sf_X13_typeAt nn e_v1 hM_h) ?_; intro u3 y_u3 M_u3 e_u3 hM_u3
  refine sm_eq e_u3 rfl ?_ ?_
  · exact sm_rI rfl hM_u3
  · refine sm_is hM_u3 rfl ?_
    refine sm_cI (sf_X13_comesBack nn e_u3 hM_u3) ?_; intro u5 y_u5 M_u5 e_u5 hM_u5
    refine sm_eq e_u5 rfl ?_ ?_
    · exact sm_rI rfl hM_u5
    · exact sm_rI rfl hM_u5
set_option maxRecDepth 4000 in
theorem sw_X13_calls_75 (nn : Nat) : ∀ (k : Nat) {l1 : Int32} {y_l1 : Int} (e_l1 : l1.toInt = y_l1) {l2 : Int32} {y_l2 : Int} (e_l2 : l2.toInt = y_l2) {l3 : Int32} {y_l3 : Int} (e_l3 : l3.toInt = y_l3) {l5 : Int32} {y_l5 : Int} (e_l5 : l5.toInt = y_l5) {h : ms_M} (hM_h : Rg_M h), Sm_ RI_ (w_X13_calls_75 nn k 160 l1 l2 l3 l5 (H_M h)) (qw_X13_calls_75 nn k y_l1 y_l2 y_l3 y_l5 h) := by
  intro k
  induction k with
  | zero => intros; exact sm_no
  | succ k ih =>
    intro l1 y_l1 e_l1 l2 y_l2 e_l2 l3 y_l3 e_l3 l5 y_l5 e_l5 h hM_h
    unfold w_X13_calls_75 qw_X13_calls_75
    refine sm_lt e_l5 rfl ?_ ?_
    · refine sm_ne e_l2 rfl ?_ ?_
      · exact sj_X13_calls_129 nn e_l3 hM_h
      · refine sm_gi hM_h rfl ?_; intro v8 e_v8
        refine sm_is hM_h rfl ?_
        refine sm_cP (sf_X13_partOf nn e_l1 rfl hM_h) ?_; intro u10 y_u10 e_u10
        refine sm_is hM_h rfl ?_
        refine sm_cI (sf_X13_typeOfClass nn e_v8 e_u10 hM_h) ?_; intro u12 y_u12 M_u12 e_u12 hM_u12
        refine sm_is hM_u12 rfl ?_
        refine sm_cI (sf_X13_pullFit nn e_u12 hM_u12) ?_; intro u14 y_u14 M_u14 e_u14 hM_u14
        refine sm_ne e_u14 rfl ?_ ?_
        · exact sj_X13_calls_129 nn e_l3 hM_u14
        · exact sm_rI rfl hM_u14
    · refine sm_gr hM_h (d := 245) rfl ?_
      refine sm_ai hM_h rfl e_l5 ?_; intro v18 y_v18 e_v18
      refine sm_is hM_h rfl ?_
      refine sm_cI (sf_X13_pullFit nn e_v18 hM_h) ?_; intro u20 y_u20 M_u20 e_u20 hM_u20
      refine sm_ne e_u20 rfl ?_ ?_
      · refine sm_oq_add e_l5 rfl ?_; intro v21 y_v21 e_v21
        exact ih e_l1 e_l2 e_l3 e_v21 hM_u20
      · exact sm_rI rfl hM_u20
set_option maxRecDepth 4000 in
theorem sw_X13_calls_35 (nn : Nat) : ∀ (k : Nat) {l1 : Int32} {y_l1 : Int} (e_l1 : l1.toInt = y_l1) {l2 : Int32} {y_l2 : Int} (e_l2 : l2.toInt = y_l2) {l3 : Int32} {y_l3 : Int} (e_l3 : l3.toInt = y_l3) {l4 : Int32} {y_l4 : Int} (e_l4 : l4.toInt = y_l4) {h : ms_M} (hM_h : Rg_M h), Sm_ RI_ (w_X13_calls_35 nn k 160 l1 l2 l3 l4 (H_M h)) (qw_X13_calls_35 nn k y_l1 y_l2 y_l3 y_l4 h) := by
  intro k
  induction k with
  | zero => intros; exact sm_no
  | succ k ih =>
    intro l1 y_l1 e_l1 l2 y_l2 e_l2 l3 y_l3 e_l3 l4 y_l4 e_l4 h hM_h
    unfold w_X13_calls_35 qw_X13_calls_35
    refine sm_gr hM_h (d := 226) rfl ?_
    refine sm_ai hM_h rfl e_l3 ?_; intro v25 y_v25 e_v25
    refine sm_eq e_v25 rfl ?_ ?_
    · refine sm_oq_sub e_l4 rfl ?_; intro v26 y_v26 e_v26
      exact sw_X13_calls_75 nn nn e_l1 e_l2 e_l3 e_v26 hM_h
    · refine sm_gr hM_h (d := 245) rfl ?_
      refine sm_is hM_h rfl ?_
      refine sm_cI (sf_X13_typeAt nn e_l3 hM_h) ?_; intro u29 y_u29 M_u29 e_u29 hM_u29
      refine sm_si hM_u29 rfl e_l4 e_u29 ?_; intro h30 hM_h30
      refine sm_oq_add e_l4 rfl ?_; intro v31 y_v31 e_v31
      refine sm_gi hM_h30 rfl ?_; intro v32 e_v32
      exact ih e_l1 e_l2 e_v32 e_v31 hM_h30
set_option maxRecDepth 4000 in
theorem sf_X13_calls (nn : Nat) {a1 : Int32} {y_a1 : Int} (e_a1 : a1.toInt = y_a1) {a2 : Int32} {y_a2 : Int} (e_a2 : a2.toInt = y_a2) {h : ms_M} (hM_h : Rg_M h) : Sm_ RI_ (f_X13_calls nn 160 a1 a2 (H_M h)) (qf_X13_calls nn y_a1 y_a2 h) := by
  unfold f_X13_calls qf_X13_calls
  refine sm_gi hM_h rfl ?_; intro v34 e_v34
  refine sm_oq_mul rfl e_v34 ?_; intro v35 y_v35 e_v35
  refine sm_gr hM_h (d := 228) rfl ?_
  refine sm_gi hM_h rfl ?_; intro v37 e_v37
  refine sm_oq_mul rfl e_v37 ?_; intro v38 y_v38 e_v38
  refine sm_is hM_h rfl ?_
  refine sm_cP (sf_X13_partOf nn e_a1 rfl hM_h) ?_; intro u40 y_u40 e_u40
  refine sm_oq_add e_v38 e_u40 ?_; intro v41 y_v41 e_v41
  refine sm_ai hM_h rfl e_v41 ?_; intro v42 y_v42 e_v42
  refine sm_oq_add e_v35 e_v42 ?_; intro v43 y_v43 e_v43
  refine sm_oq_add e_v43 rfl ?_; intro v44 y_v44 e_v44
  exact sw_X13_calls_35 nn nn e_a1 e_a2 e_v44 rfl hM_h
set_option maxRecDepth 4000 in
theorem sw_X13_pullInts_2 (nn : Nat) : ∀ (k : Nat) {l1 : Int32} {y_l1 : Int} (e_l1 : l1.toInt = y_l1) {l2 : Int32} {y_l2 : Int} (e_l2 : l2.toInt = y_l2) {h : ms_M} (hM_h : Rg_M h), Sm_ RI_ (w_X13_pullInts_2 nn k 160 l1 l2 (H_M h)) (qw_X13_pullInts_2 nn k y_l1 y_l2 h) := by
  intro k
  induction k with
  | zero => intros; exact sm_no
  | succ k ih =>
    intro l1 y_l1 e_l1 l2 y_l2 e_l2 h hM_h
    unfold w_X13_pullInts_2 qw_X13_pullInts_2
    refine sm_le e_l1 e_l2 ?_ ?_
    · exact sm_rI rfl hM_h
    · refine sm_is hM_h rfl ?_
      refine sm_cI (sf_X13_pull nn hM_h) ?_; intro u2 y_u2 M_u2 e_u2 hM_u2
      refine sm_eq e_u2 rfl ?_ ?_
      · refine sm_oq_add e_l2 rfl ?_; intro v3 y_v3 e_v3
        exact ih e_l1 e_v3 hM_u2
      · exact sm_rI rfl hM_u2
set_option maxRecDepth 4000 in
theorem sf_X13_pullInts (nn : Nat) {a1 : Int32} {y_a1 : Int} (e_a1 : a1.toInt = y_a1) {h : ms_M} (hM_h : Rg_M h) : Sm_ RI_ (f_X13_pullInts nn 160 a1 (H_M h)) (qf_X13_pullInts nn y_a1 h) := by
  unfold f_X13_pullInts qf_X13_pullInts
  exact sw_X13_pullInts_2 nn nn e_a1 rfl hM_h
set_option maxRecDepth 4000 in
theorem sf_X13_pullThing (nn : Nat) {h : ms_M} (hM_h : Rg_M h) : Sm_ RI_ (f_X13_pullThing nn 160 (H_M h)) (qf_X13_pullThing nn h) := by
  unfold f_X13_pullThing qf_X13_pullThing
  refine sm_is hM_h rfl ?_
  refine sm_cI (sf_X13_pull nn hM_h) ?_; intro u2 y_u2 M_u2 e_u2 hM_u2
  refine sm_lt e_u2 rfl ?_ ?_
  · exact sm_rI rfl hM_u2
  · exact sm_rI rfl hM_u2
set_option maxRecDepth 4000 in
theorem sj_X13_wanted_1642 (nn : Nat) {h : ms_M} (hM_h : Rg_M h) : Sm_ RI_ (j_X13_wanted_1642 nn 160 (H_M h)) (qj_X13_wanted_1642 nn h) := by
  unfold j_X13_wanted_1642 qj_X13_wanted_1642
  refine sm_is hM_h rfl ?_
  refine sm_cI (sf_X13_pullThing nn hM_h) ?_; intro u2 y_u2 M_u2 e_u2 hM_u2
  refine sm_eq e_u2 rfl ?_ ?_
  · exact sm_rI rfl hM_u2
  · refine sm_is hM_u2 rfl ?_
    refine sm_cI (sf_X13_comesBack nn rfl hM_u2) ?_; intro u4 y_u4 M_u4 e_u4 hM_u4
    refine sm_eq e_u4 rfl ?_ ?_
    · exact sm_rI rfl hM_u4
    · exact sm_rI rfl hM_u4
set_option maxRecDepth 4000 in
theorem sj_X13_wanted_1592 (nn : Nat) {h : ms_M} (hM_h : Rg_M h) : Sm_ RI_ (j_X13_wanted_1592 nn 160 (H_M h)) (qj_X13_wanted_1592 nn h) := by
  unfold j_X13_wanted_1592 qj_X13_wanted_1592
  refine sm_is hM_h rfl ?_
  refine sm_cI (sf_X13_comesBack nn rfl hM_h) ?_; intro u8 y_u8 M_u8 e_u8 hM_u8
  refine sm_eq e_u8 rfl ?_ ?_
  · exact sm_rI rfl hM_u8
  · exact sm_rI rfl hM_u8
set_option maxRecDepth 4000 in
theorem sj_X13_wanted_1480 (nn : Nat) {l2 : Int32} {y_l2 : Int} (e_l2 : l2.toInt = y_l2) {l3 : Int32} {y_l3 : Int} (e_l3 : l3.toInt = y_l3) {h : ms_M} (hM_h : Rg_M h) : Sm_ RI_ (j_X13_wanted_1480 nn 160 l2 l3 (H_M h)) (qj_X13_wanted_1480 nn y_l2 y_l3 h) := by
  unfold j_X13_wanted_1480 qj_X13_wanted_1480
  refine sm_ne e_l2 rfl ?_ ?_
  · refine sm_is hM_h rfl ?_
    refine sm_cI (sf_X13_calls nn e_l3 rfl hM_h) ?_; intro u11 y_u11 M_u11 e_u11 hM_u11
    refine sm_bq e_u11 ?_
    exact sm_rI e_u11 hM_u11
  · refine sm_is hM_h rfl ?_
    refine sm_cI (sf_X13_calls nn e_l3 rfl hM_h) ?_; intro u14 y_u14 M_u14 e_u14 hM_u14
    refine sm_bq e_u14 ?_
    exact sm_rI e_u14 hM_u14
set_option maxRecDepth 4000 in
theorem sj_X13_wanted_1453 (nn : Nat) {l3 : Int32} {y_l3 : Int} (e_l3 : l3.toInt = y_l3) {h : ms_M} (hM_h : Rg_M h) : Sm_ RI_ (j_X13_wanted_1453 nn 160 l3 (H_M h)) (qj_X13_wanted_1453 nn y_l3 h) := by
  unfold j_X13_wanted_1453 qj_X13_wanted_1453
  refine sm_gi hM_h rfl ?_; intro v17 e_v17
  refine sm_is hM_h rfl ?_
  refine sm_cP (sf_X13_partOf nn e_l3 rfl hM_h) ?_; intro u19 y_u19 e_u19
  refine sm_is hM_h rfl ?_
  refine sm_cI (sf_X13_typeOfClass nn e_v17 e_u19 hM_h) ?_; intro u21 y_u21 M_u21 e_u21 hM_u21
  refine sm_is hM_u21 rfl ?_
  refine sm_cI (sf_X13_pullFit nn e_u21 hM_u21) ?_; intro u23 y_u23 M_u23 e_u23 hM_u23
  refine sm_eq e_u23 rfl ?_ ?_
  · exact sm_rI rfl hM_u23
  · exact sm_rI rfl hM_u23
set_option maxRecDepth 4000 in
theorem sj_X13_wanted_1287 (nn : Nat) {h : ms_M} (hM_h : Rg_M h) : Sm_ RI_ (j_X13_wanted_1287 nn 160 (H_M h)) (qj_X13_wanted_1287 nn h) := by
  unfold j_X13_wanted_1287 qj_X13_wanted_1287
  refine sm_is hM_h rfl ?_
  refine sm_cI (sf_X13_pullInts nn rfl hM_h) ?_; intro u26 y_u26 M_u26 e_u26 hM_u26
  refine sm_eq e_u26 rfl ?_ ?_
  · exact sm_rI rfl hM_u26
  · exact sm_rI rfl hM_u26
set_option maxRecDepth 4000 in
theorem sj_X13_wanted_1239 (nn : Nat) {h : ms_M} (hM_h : Rg_M h) : Sm_ RI_ (j_X13_wanted_1239 nn 160 (H_M h)) (qj_X13_wanted_1239 nn h) := by
  unfold j_X13_wanted_1239 qj_X13_wanted_1239
  refine sm_is hM_h rfl ?_
  refine sm_cI (sf_X13_pullThing nn hM_h) ?_; intro u29 y_u29 M_u29 e_u29 hM_u29
  refine sm_eq e_u29 rfl ?_ ?_
  · exact sm_rI rfl hM_u29
  · refine sm_is hM_u29 rfl ?_
    refine sm_cI (sf_X13_pullThing nn hM_u29) ?_; intro u31 y_u31 M_u31 e_u31 hM_u31
    refine sm_eq e_u31 rfl ?_ ?_
    · exact sm_rI rfl hM_u31
    · exact sm_rI rfl hM_u31
set_option maxRecDepth 4000 in
theorem sj_X13_wanted_1233 (nn : Nat) {h : ms_M} (hM_h : Rg_M h) : Sm_ RI_ (j_X13_wanted_1233 nn 160 (H_M h)) (qj_X13_wanted_1233 nn h) := by
  unfold j_X13_wanted_1233 qj_X13_wanted_1233
  refine sm_is hM_h rfl ?_
  refine sm_cI (sf_X13_pullInts nn rfl hM_h) ?_; intro u35 y_u35 M_u35 e_u35 hM_u35
  refine sm_bq e_u35 ?_
  exact sm_rI e_u35 hM_u35
set_option maxRecDepth 4000 in
theorem sj_X13_wanted_1227 (nn : Nat) {h : ms_M} (hM_h : Rg_M h) : Sm_ RI_ (j_X13_wanted_1227 nn 160 (H_M h)) (qj_X13_wanted_1227 nn h) := by
  unfold j_X13_wanted_1227 qj_X13_wanted_1227
  refine sm_is hM_h rfl ?_
  refine sm_cI (sf_X13_pullInts nn rfl hM_h) ?_; intro u38 y_u38 M_u38 e_u38 hM_u38
  refine sm_bq e_u38 ?_
  exact sm_rI e_u38 hM_u38
set_option maxRecDepth 4000 in
theorem sj_X13_wanted_1183 (nn : Nat) {h : ms_M} (hM_h : Rg_M h) : Sm_ RI_ (j_X13_wanted_1183 nn 160 (H_M h)) (qj_X13_wanted_1183 nn h) := by
  unfold j_X13_wanted_1183 qj_X13_wanted_1183
  refine sm_is hM_h rfl ?_
  refine sm_cI (sf_X13_pullInts nn rfl hM_h) ?_; intro u41 y_u41 M_u41 e_u41 hM_u41
  refine sm_eq e_u41 rfl ?_ ?_
  · exact sm_rI rfl hM_u41
  · refine sm_is hM_u41 rfl ?_
    refine sm_cI (sf_X13_comesBack nn rfl hM_u41) ?_; intro u43 y_u43 M_u43 e_u43 hM_u43
    refine sm_eq e_u43 rfl ?_ ?_
    · exact sm_rI rfl hM_u43
    · exact sm_rI rfl hM_u43
set_option maxRecDepth 4000 in
theorem sj_X13_wanted_1136 (nn : Nat) {h : ms_M} (hM_h : Rg_M h) : Sm_ RI_ (j_X13_wanted_1136 nn (H_M h)) (qj_X13_wanted_1136 nn h) := by
  unfold j_X13_wanted_1136 qj_X13_wanted_1136
  exact sm_rI rfl hM_h
set_option maxRecDepth 4000 in
theorem sj_X13_wanted_982 (nn : Nat) {h : ms_M} (hM_h : Rg_M h) : Sm_ RI_ (j_X13_wanted_982 nn 160 (H_M h)) (qj_X13_wanted_982 nn h) := by
  unfold j_X13_wanted_982 qj_X13_wanted_982
  refine sm_is hM_h rfl ?_
  refine sm_cI (sf_X13_comesBack nn rfl hM_h) ?_; intro u47 y_u47 M_u47 e_u47 hM_u47
  refine sm_eq e_u47 rfl ?_ ?_
  · exact sm_rI rfl hM_u47
  · exact sm_rI rfl hM_u47
set_option maxRecDepth 4000 in
theorem sj_X13_wanted_962 (nn : Nat) {h : ms_M} (hM_h : Rg_M h) : Sm_ RI_ (j_X13_wanted_962 nn (H_M h)) (qj_X13_wanted_962 nn h) := by
  unfold j_X13_wanted_962 qj_X13_wanted_962
  exact sm_rI rfl hM_h
set_option maxRecDepth 4000 in
theorem sj_X13_wanted_820 (nn : Nat) {h : ms_M} (hM_h : Rg_M h) : Sm_ RI_ (j_X13_wanted_820 nn 160 (H_M h)) (qj_X13_wanted_820 nn h) := by
  unfold j_X13_wanted_820 qj_X13_wanted_820
  refine sm_is hM_h rfl ?_
  refine sm_cI (sf_X13_comesBack nn rfl hM_h) ?_; intro u50 y_u50 M_u50 e_u50 hM_u50
  refine sm_bq e_u50 ?_
  exact sm_rI e_u50 hM_u50
set_option maxRecDepth 4000 in
theorem sj_X13_wanted_812 (nn : Nat) {h : ms_M} (hM_h : Rg_M h) : Sm_ RI_ (j_X13_wanted_812 nn (H_M h)) (qj_X13_wanted_812 nn h) := by
  unfold j_X13_wanted_812 qj_X13_wanted_812
  exact sm_rI rfl hM_h
set_option maxRecDepth 4000 in
theorem sj_X13_wanted_25 (nn : Nat) {l2 : Int32} {y_l2 : Int} (e_l2 : l2.toInt = y_l2) {s0 : Int32} {y_s0 : Int} (e_s0 : s0.toInt = y_s0) {h : ms_M} (hM_h : Rg_M h) : Sm_ RI_ (j_X13_wanted_25 nn 160 l2 s0 (H_M h)) (qj_X13_wanted_25 nn y_l2 y_s0 h) := by
  unfold j_X13_wanted_25 qj_X13_wanted_25
  refine sm_eq e_l2 rfl ?_ ?_
  · exact sj_X13_wanted_812 nn hM_h
  · refine sm_eq e_l2 rfl ?_ ?_
    · refine sm_is hM_h rfl ?_
      refine sm_cI (sf_X13_comesBack nn rfl hM_h) ?_; intro u53 y_u53 M_u53 e_u53 hM_u53
      refine sm_bq e_u53 ?_
      exact sm_rI e_u53 hM_u53
    · refine sm_eq e_l2 rfl ?_ ?_
      · exact sj_X13_wanted_820 nn hM_h
      · refine sm_eq e_l2 rfl ?_ ?_
        · exact sj_X13_wanted_820 nn hM_h
        · refine sm_eq e_l2 rfl ?_ ?_
          · exact sj_X13_wanted_820 nn hM_h
          · refine sm_eq e_l2 rfl ?_ ?_
            · exact sj_X13_wanted_820 nn hM_h
            · refine sm_eq e_l2 rfl ?_ ?_
              · exact sj_X13_wanted_820 nn hM_h
              · refine sm_eq e_l2 rfl ?_ ?_
                · exact sj_X13_wanted_820 nn hM_h
                · refine sm_eq e_l2 rfl ?_ ?_
                  · exact sj_X13_wanted_820 nn hM_h
                  · refine sm_eq e_l2 rfl ?_ ?_
                    · exact sj_X13_wanted_820 nn hM_h
                    · refine sm_eq e_l2 rfl ?_ ?_
                      · exact sj_X13_wanted_820 nn hM_h
                      · refine sm_eq e_l2 rfl ?_ ?_
                        · refine sm_gi hM_h rfl ?_; intro v55 e_v55
                          refine sm_le e_v55 e_s0 ?_ ?_
                          · exact sm_rI rfl hM_h
                          · refine sm_gr hM_h (d := 243) rfl ?_
                            refine sm_ai hM_h rfl e_s0 ?_; intro v57 y_v57 e_v57
                            refine sm_ne e_v57 rfl ?_ ?_
                            · exact sm_rI rfl hM_h
                            · refine sm_is hM_h rfl ?_
                              refine sm_cI (sf_X13_comesBack nn rfl hM_h) ?_; intro u59 y_u59 M_u59 e_u59 hM_u59
                              refine sm_eq e_u59 rfl ?_ ?_
                              · exact sm_rI rfl hM_u59
                              · exact sm_rI rfl hM_u59
                        · refine sm_eq e_l2 rfl ?_ ?_
                          · refine sm_gi hM_h rfl ?_; intro v63 e_v63
                            refine sm_le e_v63 e_s0 ?_ ?_
                            · exact sm_rI rfl hM_h
                            · refine sm_gr hM_h (d := 243) rfl ?_
                              refine sm_ai hM_h rfl e_s0 ?_; intro v65 y_v65 e_v65
                              refine sm_lt e_v65 rfl ?_ ?_
                              · exact sm_rI rfl hM_h
                              · refine sm_gr hM_h (d := 243) rfl ?_
                                refine sm_ai hM_h rfl e_s0 ?_; intro v67 y_v67 e_v67
                                refine sm_is hM_h rfl ?_
                                refine sm_cI (sf_X13_comesBack nn e_v67 hM_h) ?_; intro u69 y_u69 M_u69 e_u69 hM_u69
                                refine sm_eq e_u69 rfl ?_ ?_
                                · exact sm_rI rfl hM_u69
                                · exact sm_rI rfl hM_u69
                          · refine sm_eq e_l2 rfl ?_ ?_
                            · refine sm_is hM_h rfl ?_
                              refine sm_cI (sf_X13_pullInts nn rfl hM_h) ?_; intro u74 y_u74 M_u74 e_u74 hM_u74
                              refine sm_ne e_u74 rfl ?_ ?_
                              · refine sm_is hM_u74 rfl ?_
                                refine sm_cI (sf_X13_pull nn hM_u74) ?_; intro u76 y_u76 M_u76 e_u76 hM_u76
                                refine sm_eq e_u76 rfl ?_ ?_
                                · exact sj_X13_wanted_982 nn hM_u76
                                · refine sm_ne e_u76 rfl ?_ ?_
                                  · exact sm_rI rfl hM_u76
                                  · exact sj_X13_wanted_982 nn hM_u76
                              · exact sj_X13_wanted_962 nn hM_u74
                            · refine sm_eq e_l2 rfl ?_ ?_
                              · refine sm_is hM_h rfl ?_
                                refine sm_cI (sf_X13_pullInts nn rfl hM_h) ?_; intro u81 y_u81 M_u81 e_u81 hM_u81
                                refine sm_ne e_u81 rfl ?_ ?_
                                · refine sm_is hM_u81 rfl ?_
                                  refine sm_cI (sf_X13_pull nn hM_u81) ?_; intro u83 y_u83 M_u83 e_u83 hM_u83
                                  refine sm_ne e_u83 rfl ?_ ?_
                                  · refine sm_le e_u83 rfl ?_ ?_
                                    · exact sm_rI rfl hM_u83
                                    · refine sm_cP (sf_X13_isRow nn e_u83 hM_u83) ?_; intro u84 y_u84 e_u84
                                      refine sm_eq e_u84 rfl ?_ ?_
                                      · exact sm_rI rfl hM_u83
                                      · refine sm_oq_sub e_u83 rfl ?_; intro v85 y_v85 e_v85
                                        refine sm_is hM_u83 rfl ?_
                                        refine sm_cI (sf_X13_comesBack nn e_v85 hM_u83) ?_; intro u87 y_u87 M_u87 e_u87 hM_u87
                                        refine sm_eq e_u87 rfl ?_ ?_
                                        · exact sm_rI rfl hM_u87
                                        · exact sm_rI rfl hM_u87
                                  · refine sm_is hM_u83 rfl ?_
                                    refine sm_cI (sf_X13_comesBack nn rfl hM_u83) ?_; intro u92 y_u92 M_u92 e_u92 hM_u92
                                    refine sm_bq e_u92 ?_
                                    exact sm_rI e_u92 hM_u92
                                · exact sm_rI rfl hM_u81
                              · refine sm_eq e_l2 rfl ?_ ?_
                                · refine sm_gi hM_h rfl ?_; intro v96 e_v96
                                  refine sm_le e_v96 e_s0 ?_ ?_
                                  · exact sm_rI rfl hM_h
                                  · refine sm_is hM_h rfl ?_
                                    refine sm_cI (sf_X13_pull nn hM_h) ?_; intro u98 y_u98 M_u98 e_u98 hM_u98
                                    refine sm_eq e_u98 rfl ?_ ?_
                                    · refine sm_gr hM_u98 (d := 243) rfl ?_
                                      refine sm_si hM_u98 rfl e_s0 rfl ?_; intro h100 hM_h100
                                      exact sm_rI rfl hM_h100
                                    · exact sm_rI rfl hM_u98
                                · refine sm_eq e_l2 rfl ?_ ?_
                                  · refine sm_is hM_h rfl ?_
                                    refine sm_cI (sf_X13_pull nn hM_h) ?_; intro u104 y_u104 M_u104 e_u104 hM_u104
                                    refine sm_gi hM_u104 rfl ?_; intro v105 e_v105
                                    refine sm_le e_v105 e_s0 ?_ ?_
                                    · exact sm_rI rfl hM_u104
                                    · refine sm_le rfl e_u104 ?_ ?_
                                      · refine sm_gr hM_u104 (d := 243) rfl ?_
                                        refine sm_si hM_u104 rfl e_s0 e_u104 ?_; intro h107 hM_h107
                                        exact sm_rI rfl hM_h107
                                      · exact sm_rI rfl hM_u104
                                  · refine sm_eq e_l2 rfl ?_ ?_
                                    · refine sm_is hM_h rfl ?_
                                      refine sm_cI (sf_X13_pullInts nn rfl hM_h) ?_; intro u111 y_u111 M_u111 e_u111 hM_u111
                                      refine sm_ne e_u111 rfl ?_ ?_
                                      · refine sm_is hM_u111 rfl ?_
                                        refine sm_cI (sf_X13_pull nn hM_u111) ?_; intro u113 y_u113 M_u113 e_u113 hM_u113
                                        refine sm_eq e_u113 rfl ?_ ?_
                                        · exact sm_rI rfl hM_u113
                                        · refine sm_ne e_u113 rfl ?_ ?_
                                          · exact sm_rI rfl hM_u113
                                          · exact sm_rI rfl hM_u113
                                      · exact sm_rI rfl hM_u111
                                    · refine sm_eq e_l2 rfl ?_ ?_
                                      · refine sm_is hM_h rfl ?_
                                        refine sm_cI (sf_X13_pullThing nn hM_h) ?_; intro u118 y_u118 M_u118 e_u118 hM_u118
                                        refine sm_eq e_u118 rfl ?_ ?_
                                        · exact sm_rI rfl hM_u118
                                        · refine sm_is hM_u118 rfl ?_
                                          refine sm_cI (sf_X13_pullInts nn rfl hM_u118) ?_; intro u120 y_u120 M_u120 e_u120 hM_u120
                                          refine sm_ne e_u120 rfl ?_ ?_
                                          · refine sm_is hM_u120 rfl ?_
                                            refine sm_cI (sf_X13_pull nn hM_u120) ?_; intro u122 y_u122 M_u122 e_u122 hM_u122
                                            refine sm_eq e_u122 rfl ?_ ?_
                                            · exact sm_rI rfl hM_u122
                                            · refine sm_le e_u122 rfl ?_ ?_
                                              · exact sj_X13_wanted_1136 nn hM_u122
                                              · refine sm_cP (sf_X13_isRow nn e_u122 hM_u122) ?_; intro u123 y_u123 e_u123
                                                refine sm_eq e_u123 rfl ?_ ?_
                                                · exact sj_X13_wanted_1136 nn hM_u122
                                                · exact sm_rI rfl hM_u122
                                          · exact sm_rI rfl hM_u120
                                      · refine sm_eq e_l2 rfl ?_ ?_
                                        · refine sm_is hM_h rfl ?_
                                          refine sm_cI (sf_X13_pull nn hM_h) ?_; intro u130 y_u130 M_u130 e_u130 hM_u130
                                          refine sm_eq e_u130 rfl ?_ ?_
                                          · exact sm_rI rfl hM_u130
                                          · exact sm_rI rfl hM_u130
                                        · refine sm_eq e_l2 rfl ?_ ?_
                                          · refine sm_gi hM_h rfl ?_; intro v132 e_v132
                                            refine sm_le e_v132 rfl ?_ ?_
                                            · exact sm_rI rfl hM_h
                                            · refine sm_gr hM_h (d := 244) rfl ?_
                                              refine sm_gi hM_h rfl ?_; intro v134 e_v134
                                              refine sm_oq_sub e_v134 rfl ?_; intro v135 y_v135 e_v135
                                              refine sm_ai hM_h rfl e_v135 ?_; intro v136 y_v136 e_v136
                                              refine sm_is hM_h rfl ?_
                                              refine sm_cI (sf_X13_comesBack nn e_v136 hM_h) ?_; intro u138 y_u138 M_u138 e_u138 hM_u138
                                              refine sm_eq e_u138 rfl ?_ ?_
                                              · exact sm_rI rfl hM_u138
                                              · exact sm_rI rfl hM_u138
                                          · refine sm_eq e_l2 rfl ?_ ?_
                                            · exact sj_X13_wanted_1183 nn hM_h
                                            · refine sm_eq e_l2 rfl ?_ ?_
                                              · exact sj_X13_wanted_1183 nn hM_h
                                              · refine sm_eq e_l2 rfl ?_ ?_
                                                · exact sj_X13_wanted_1183 nn hM_h
                                                · refine sm_eq e_l2 rfl ?_ ?_
                                                  · exact sj_X13_wanted_1183 nn hM_h
                                                  · refine sm_eq e_l2 rfl ?_ ?_
                                                    · exact sj_X13_wanted_1183 nn hM_h
                                                    · refine sm_eq e_l2 rfl ?_ ?_
                                                      · refine sm_is hM_h rfl ?_
                                                        refine sm_cI (sf_X13_pullInts nn rfl hM_h) ?_; intro u142 y_u142 M_u142 e_u142 hM_u142
                                                        refine sm_eq e_u142 rfl ?_ ?_
                                                        · exact sm_rI rfl hM_u142
                                                        · refine sm_is hM_u142 rfl ?_
                                                          refine sm_cI (sf_X13_comesBack nn rfl hM_u142) ?_; intro u144 y_u144 M_u144 e_u144 hM_u144
                                                          refine sm_eq e_u144 rfl ?_ ?_
                                                          · exact sm_rI rfl hM_u144
                                                          · exact sm_rI rfl hM_u144
                                                      · refine sm_eq e_l2 rfl ?_ ?_
                                                        · exact sj_X13_wanted_1183 nn hM_h
                                                        · refine sm_eq e_l2 rfl ?_ ?_
                                                          · exact sj_X13_wanted_1183 nn hM_h
                                                          · refine sm_eq e_l2 rfl ?_ ?_
                                                            · exact sj_X13_wanted_1183 nn hM_h
                                                            · refine sm_eq e_l2 rfl ?_ ?_
                                                              · exact sj_X13_wanted_1183 nn hM_h
                                                              · refine sm_eq e_l2 rfl ?_ ?_
                                                                · exact sj_X13_wanted_1183 nn hM_h
                                                                · refine sm_eq e_l2 rfl ?_ ?_
                                                                  · exact sj_X13_wanted_1183 nn hM_h
                                                                  · refine sm_eq e_l2 rfl ?_ ?_
                                                                    · exact sj_X13_wanted_1227 nn hM_h
                                                                    · refine sm_eq e_l2 rfl ?_ ?_
                                                                      · exact sj_X13_wanted_1227 nn hM_h
                                                                      · refine sm_eq e_l2 rfl ?_ ?_
                                                                        · exact sj_X13_wanted_1233 nn hM_h
                                                                        · refine sm_eq e_l2 rfl ?_ ?_
                                                                          · exact sj_X13_wanted_1233 nn hM_h
                                                                          · refine sm_eq e_l2 rfl ?_ ?_
                                                                            · exact sj_X13_wanted_1233 nn hM_h
                                                                            · refine sm_eq e_l2 rfl ?_ ?_
                                                                              · exact sj_X13_wanted_1233 nn hM_h
                                                                              · refine sm_eq e_l2 rfl ?_ ?_
                                                                                · exact sj_X13_wanted_1233 nn hM_h
                                                                                · refine sm_eq e_l2 rfl ?_ ?_
                                                                                  · exact sj_X13_wanted_1233 nn hM_h
                                                                                  · refine sm_eq e_l2 rfl ?_ ?_
                                                                                    · exact sj_X13_wanted_1239 nn hM_h
                                                                                    · refine sm_eq e_l2 rfl ?_ ?_
                                                                                      · exact sj_X13_wanted_1239 nn hM_h
                                                                                      · refine sm_eq e_l2 rfl ?_ ?_
                                                                                        · exact sj_X13_wanted_812 nn hM_h
                                                                                        · refine sm_eq e_l2 rfl ?_ ?_
                                                                                          · refine sm_gr hM_h (d := 226) rfl ?_
                                                                                            refine sm_gi hM_h rfl ?_; intro v148 e_v148
                                                                                            refine sm_ai hM_h rfl e_v148 ?_; intro v149 y_v149 e_v149
                                                                                            refine sm_eq e_v149 rfl ?_ ?_
                                                                                            · exact sj_X13_wanted_1287 nn hM_h
                                                                                            · refine sm_gr hM_h (d := 226) rfl ?_
                                                                                              refine sm_gi hM_h rfl ?_; intro v151 e_v151
                                                                                              refine sm_ai hM_h rfl e_v151 ?_; intro v152 y_v152 e_v152
                                                                                              refine sm_ne e_v152 rfl ?_ ?_
                                                                                              · exact sm_rI rfl hM_h
                                                                                              · exact sj_X13_wanted_1287 nn hM_h
                                                                                          · refine sm_eq e_l2 rfl ?_ ?_
                                                                                            · refine sm_gr hM_h (d := 226) rfl ?_
                                                                                              refine sm_gi hM_h rfl ?_; intro v156 e_v156
                                                                                              refine sm_ai hM_h rfl e_v156 ?_; intro v157 y_v157 e_v157
                                                                                              refine sm_eq e_v157 rfl ?_ ?_
                                                                                              · exact sm_rI rfl hM_h
                                                                                              · refine sm_gr hM_h (d := 226) rfl ?_
                                                                                                refine sm_gi hM_h rfl ?_; intro v159 e_v159
                                                                                                refine sm_ai hM_h rfl e_v159 ?_; intro v160 y_v160 e_v160
                                                                                                refine sm_eq e_v160 rfl ?_ ?_
                                                                                                · exact sm_rI rfl hM_h
                                                                                                · refine sm_gr hM_h (d := 226) rfl ?_
                                                                                                  refine sm_gi hM_h rfl ?_; intro v162 e_v162
                                                                                                  refine sm_ai hM_h rfl e_v162 ?_; intro v163 y_v163 e_v163
                                                                                                  refine sm_eq e_v163 rfl ?_ ?_
                                                                                                  · exact sm_rI rfl hM_h
                                                                                                  · refine sm_gi hM_h rfl ?_; intro v164 e_v164
                                                                                                    refine sm_is hM_h rfl ?_
                                                                                                    refine sm_cI (sf_X13_typeAt nn e_v164 hM_h) ?_; intro u166 y_u166 M_u166 e_u166 hM_u166
                                                                                                    refine sm_is hM_u166 rfl ?_
                                                                                                    refine sm_cI (sf_X13_pullFit nn e_u166 hM_u166) ?_; intro u168 y_u168 M_u168 e_u168 hM_u168
                                                                                                    refine sm_eq e_u168 rfl ?_ ?_
                                                                                                    · exact sm_rI rfl hM_u168
                                                                                                    · exact sm_rI rfl hM_u168
                                                                                            · refine sm_eq e_l2 rfl ?_ ?_
                                                                                              · refine sm_gr hM_h (d := 226) rfl ?_
                                                                                                refine sm_gi hM_h rfl ?_; intro v174 e_v174
                                                                                                refine sm_ai hM_h rfl e_v174 ?_; intro v175 y_v175 e_v175
                                                                                                refine sm_ne e_v175 rfl ?_ ?_
                                                                                                · exact sm_rI rfl hM_h
                                                                                                · exact sm_rI rfl hM_h
                                                                                              · refine sm_eq e_l2 rfl ?_ ?_
                                                                                                · refine sm_gi hM_h rfl ?_; intro v177 e_v177
                                                                                                  refine sm_is hM_h rfl ?_
                                                                                                  refine sm_cP (sf_X13_partOf nn e_s0 rfl hM_h) ?_; intro u179 y_u179 e_u179
                                                                                                  refine sm_is hM_h rfl ?_
                                                                                                  refine sm_cI (sf_X13_typeOfClass nn e_v177 e_u179 hM_h) ?_; intro u181 y_u181 M_u181 e_u181 hM_u181
                                                                                                  refine sm_is hM_u181 rfl ?_
                                                                                                  refine sm_cI (sf_X13_pullFit nn e_u181 hM_u181) ?_; intro u183 y_u183 M_u183 e_u183 hM_u183
                                                                                                  refine sm_eq e_u183 rfl ?_ ?_
                                                                                                  · exact sm_rI rfl hM_u183
                                                                                                  · refine sm_gi hM_u183 rfl ?_; intro v184 e_v184
                                                                                                    refine sm_is hM_u183 rfl ?_
                                                                                                    refine sm_cP (sf_X13_partOf nn e_s0 rfl hM_u183) ?_; intro u186 y_u186 e_u186
                                                                                                    refine sm_is hM_u183 rfl ?_
                                                                                                    refine sm_cI (sf_X13_kindType nn e_v184 e_u186 hM_u183) ?_; intro u188 y_u188 M_u188 e_u188 hM_u188
                                                                                                    refine sm_is hM_u188 rfl ?_
                                                                                                    refine sm_cI (sf_X13_comesBack nn e_u188 hM_u188) ?_; intro u190 y_u190 M_u190 e_u190 hM_u190
                                                                                                    refine sm_eq e_u190 rfl ?_ ?_
                                                                                                    · exact sm_rI rfl hM_u190
                                                                                                    · exact sm_rI rfl hM_u190
                                                                                                · refine sm_eq e_l2 rfl ?_ ?_
                                                                                                  · refine sm_gi hM_h rfl ?_; intro v193 e_v193
                                                                                                    refine sm_is hM_h rfl ?_
                                                                                                    refine sm_cP (sf_X13_partOf nn e_s0 rfl hM_h) ?_; intro u195 y_u195 e_u195
                                                                                                    refine sm_is hM_h rfl ?_
                                                                                                    refine sm_cI (sf_X13_kindType nn e_v193 e_u195 hM_h) ?_; intro u197 y_u197 M_u197 e_u197 hM_u197
                                                                                                    refine sm_is hM_u197 rfl ?_
                                                                                                    refine sm_cI (sf_X13_pullFit nn e_u197 hM_u197) ?_; intro u199 y_u199 M_u199 e_u199 hM_u199
                                                                                                    refine sm_eq e_u199 rfl ?_ ?_
                                                                                                    · exact sm_rI rfl hM_u199
                                                                                                    · exact sj_X13_wanted_1453 nn e_s0 hM_u199
                                                                                                  · refine sm_eq e_l2 rfl ?_ ?_
                                                                                                    · exact sj_X13_wanted_1480 nn e_l2 e_s0 hM_h
                                                                                                    · refine sm_eq e_l2 rfl ?_ ?_
                                                                                                      · exact sj_X13_wanted_1480 nn e_l2 e_s0 hM_h
                                                                                                      · refine sm_eq e_l2 rfl ?_ ?_
                                                                                                        · exact sj_X13_wanted_1227 nn hM_h
                                                                                                        · refine sm_eq e_l2 rfl ?_ ?_
                                                                                                          · refine sm_gi hM_h rfl ?_; intro v201 e_v201
                                                                                                            refine sm_is hM_h rfl ?_
                                                                                                            refine sm_cI (sf_X13_typeOfClass nn e_v201 e_s0 hM_h) ?_; intro u203 y_u203 M_u203 e_u203 hM_u203
                                                                                                            refine sm_is hM_u203 rfl ?_
                                                                                                            refine sm_cI (sf_X13_comesBack nn e_u203 hM_u203) ?_; intro u205 y_u205 M_u205 e_u205 hM_u205
                                                                                                            refine sm_bq e_u205 ?_
                                                                                                            exact sm_rI e_u205 hM_u205
                                                                                                          · refine sm_eq e_l2 rfl ?_ ?_
                                                                                                            · refine sm_is hM_h rfl ?_
                                                                                                              refine sm_cI (sf_X13_pullInts nn rfl hM_h) ?_; intro u208 y_u208 M_u208 e_u208 hM_u208
                                                                                                              refine sm_eq e_u208 rfl ?_ ?_
                                                                                                              · exact sm_rI rfl hM_u208
                                                                                                              · refine sm_is hM_u208 rfl ?_
                                                                                                                refine sm_cI (sf_X13_comesBack nn rfl hM_u208) ?_; intro u210 y_u210 M_u210 e_u210 hM_u210
                                                                                                                refine sm_eq e_u210 rfl ?_ ?_
                                                                                                                · exact sm_rI rfl hM_u210
                                                                                                                · exact sm_rI rfl hM_u210
                                                                                                            · refine sm_eq e_l2 rfl ?_ ?_
                                                                                                              · refine sm_is hM_h rfl ?_
                                                                                                                refine sm_cI (sf_X13_pullInts nn rfl hM_h) ?_; intro u214 y_u214 M_u214 e_u214 hM_u214
                                                                                                                refine sm_eq e_u214 rfl ?_ ?_
                                                                                                                · exact sm_rI rfl hM_u214
                                                                                                                · refine sm_gi hM_u214 rfl ?_; intro v215 e_v215
                                                                                                                  refine sm_is hM_u214 rfl ?_
                                                                                                                  refine sm_cI (sf_X13_typeOfClass nn e_v215 e_s0 hM_u214) ?_; intro u217 y_u217 M_u217 e_u217 hM_u217
                                                                                                                  refine sm_oq_add e_u217 rfl ?_; intro v218 y_v218 e_v218
                                                                                                                  refine sm_is hM_u217 rfl ?_
                                                                                                                  refine sm_cI (sf_X13_comesBack nn e_v218 hM_u217) ?_; intro u220 y_u220 M_u220 e_u220 hM_u220
                                                                                                                  refine sm_eq e_u220 rfl ?_ ?_
                                                                                                                  · exact sm_rI rfl hM_u220
                                                                                                                  · exact sm_rI rfl hM_u220
                                                                                                              · refine sm_eq e_l2 rfl ?_ ?_
                                                                                                                · refine sm_is hM_h rfl ?_
                                                                                                                  refine sm_cI (sf_X13_pull nn hM_h) ?_; intro u224 y_u224 M_u224 e_u224 hM_u224
                                                                                                                  refine sm_eq e_u224 rfl ?_ ?_
                                                                                                                  · exact sj_X13_wanted_1592 nn hM_u224
                                                                                                                  · refine sm_eq e_u224 rfl ?_ ?_
                                                                                                                    · exact sm_rI rfl hM_u224
                                                                                                                    · refine sm_cP (sf_X13_isRow nn e_u224 hM_u224) ?_; intro u225 y_u225 e_u225
                                                                                                                      refine sm_eq e_u225 rfl ?_ ?_
                                                                                                                      · exact sm_rI rfl hM_u224
                                                                                                                      · exact sj_X13_wanted_1592 nn hM_u224
                                                                                                                · refine sm_eq e_l2 rfl ?_ ?_
                                                                                                                  · refine sm_is hM_h rfl ?_
                                                                                                                    refine sm_cI (sf_X13_pullFit nn rfl hM_h) ?_; intro u230 y_u230 M_u230 e_u230 hM_u230
                                                                                                                    refine sm_bq e_u230 ?_
                                                                                                                    exact sm_rI e_u230 hM_u230
                                                                                                                  · refine sm_eq e_l2 rfl ?_ ?_
                                                                                                                    · refine sm_is hM_h rfl ?_
                                                                                                                      refine sm_cI (sf_X13_pullThing nn hM_h) ?_; intro u233 y_u233 M_u233 e_u233 hM_u233
                                                                                                                      refine sm_eq e_u233 rfl ?_ ?_
                                                                                                                      · exact sm_rI rfl hM_u233
                                                                                                                      · refine sm_gi hM_u233 rfl ?_; intro v234 e_v234
                                                                                                                        refine sm_is hM_u233 rfl ?_
                                                                                                                        refine sm_cI (sf_X13_typeOfClass nn e_v234 e_s0 hM_u233) ?_; intro u236 y_u236 M_u236 e_u236 hM_u236
                                                                                                                        refine sm_is hM_u236 rfl ?_
                                                                                                                        refine sm_cI (sf_X13_comesBack nn e_u236 hM_u236) ?_; intro u238 y_u238 M_u238 e_u238 hM_u238
                                                                                                                        refine sm_eq e_u238 rfl ?_ ?_
                                                                                                                        · exact sm_rI rfl hM_u238
                                                                                                                        · exact sm_rI rfl hM_u238
                                                                                                                    · exact sj_X13_wanted_1642 nn hM_h
set_option maxRecDepth 4000 in
theorem sf_X13_wanted (nn : Nat) {a1 : Int32} {y_a1 : Int} (e_a1 : a1.toInt = y_a1) {h : ms_M} (hM_h : Rg_M h) : Sm_ RI_ (f_X13_wanted nn 160 a1 (H_M h)) (qf_X13_wanted nn y_a1 h) := by
  unfold f_X13_wanted qf_X13_wanted
  refine sm_is hM_h rfl ?_
  refine sm_cP (sf_X13_code nn e_a1 hM_h) ?_; intro u242 y_u242 e_u242
  refine sm_cP (sf_X13_widthOf nn e_u242 hM_h) ?_; intro u243 y_u243 e_u243
  refine sm_le e_u243 rfl ?_ ?_
  · exact sj_X13_wanted_25 nn e_u242 rfl hM_h
  · refine sm_oq_add e_a1 rfl ?_; intro v244 y_v244 e_v244
    refine sm_is hM_h rfl ?_
    refine sm_cP (sf_X13_code nn e_v244 hM_h) ?_; intro u246 y_u246 e_u246
    exact sj_X13_wanted_25 nn e_u242 e_u246 hM_h
set_option maxRecDepth 4000 in
theorem sj_X13_flows_408 (nn : Nat) {kk_155 : Nat → Int32 → Int32 → Int32 → Int32 → mx_H → Option (Int32 × mx_H)} {qkk_155 : Int → Int → Int → Int → ms_M → Option (Int × ms_M)} (hk_kk_155 : ∀ {l1 : Int32} {y_l1 : Int} (e_l1 : l1.toInt = y_l1) {l2 : Int32} {y_l2 : Int} (e_l2 : l2.toInt = y_l2) {l5 : Int32} {y_l5 : Int} (e_l5 : l5.toInt = y_l5) {l6 : Int32} {y_l6 : Int} (e_l6 : l6.toInt = y_l6) {h : ms_M} (hM_h : Rg_M h), Sm_ RI_ (kk_155 160 l1 l2 l5 l6 (H_M h)) (qkk_155 y_l1 y_l2 y_l5 y_l6 h)) {l1 : Int32} {y_l1 : Int} (e_l1 : l1.toInt = y_l1) {l2 : Int32} {y_l2 : Int} (e_l2 : l2.toInt = y_l2) {l6 : Int32} {y_l6 : Int} (e_l6 : l6.toInt = y_l6) {s0 : Int32} {y_s0 : Int} (e_s0 : s0.toInt = y_s0) {h : ms_M} (hM_h : Rg_M h) : Sm_ RI_ (j_X13_flows_408 nn kk_155 160 l1 l2 l6 s0 (H_M h)) (qj_X13_flows_408 nn qkk_155 y_l1 y_l2 y_l6 y_s0 h) := by
  unfold j_X13_flows_408 qj_X13_flows_408
  refine sm_is hM_h rfl ?_
  refine sm_cP (sf_X13_code nn e_l6 hM_h) ?_; intro u2 y_u2 e_u2
  refine sm_cP (sf_X13_widthOf nn e_u2 hM_h) ?_; intro u3 y_u3 e_u3
  refine sm_oq_add e_l6 e_u3 ?_; intro v4 y_v4 e_v4
  exact hk_kk_155 e_l1 e_l2 e_s0 e_v4 hM_h
set_option maxRecDepth 4000 in
theorem sj_X13_flows_407 (nn : Nat) {kk_155 : Nat → Int32 → Int32 → Int32 → Int32 → mx_H → Option (Int32 × mx_H)} {qkk_155 : Int → Int → Int → Int → ms_M → Option (Int × ms_M)} (hk_kk_155 : ∀ {l1 : Int32} {y_l1 : Int} (e_l1 : l1.toInt = y_l1) {l2 : Int32} {y_l2 : Int} (e_l2 : l2.toInt = y_l2) {l5 : Int32} {y_l5 : Int} (e_l5 : l5.toInt = y_l5) {l6 : Int32} {y_l6 : Int} (e_l6 : l6.toInt = y_l6) {h : ms_M} (hM_h : Rg_M h), Sm_ RI_ (kk_155 160 l1 l2 l5 l6 (H_M h)) (qkk_155 y_l1 y_l2 y_l5 y_l6 h)) {l1 : Int32} {y_l1 : Int} (e_l1 : l1.toInt = y_l1) {l2 : Int32} {y_l2 : Int} (e_l2 : l2.toInt = y_l2) {l6 : Int32} {y_l6 : Int} (e_l6 : l6.toInt = y_l6) {h : ms_M} (hM_h : Rg_M h) : Sm_ RI_ (j_X13_flows_407 nn kk_155 160 l1 l2 l6 (H_M h)) (qj_X13_flows_407 nn qkk_155 y_l1 y_l2 y_l6 h) := by
  unfold j_X13_flows_407 qj_X13_flows_407
  exact sj_X13_flows_408 nn hk_kk_155 e_l1 e_l2 e_l6 rfl hM_h
set_option maxRecDepth 4000 in
theorem sj_X13_flows_363 (nn : Nat) {kk_155 : Nat → Int32 → Int32 → Int32 → Int32 → mx_H → Option (Int32 × mx_H)} {qkk_155 : Int → Int → Int → Int → ms_M → Option (Int × ms_M)} (hk_kk_155 : ∀ {l1 : Int32} {y_l1 : Int} (e_l1 : l1.toInt = y_l1) {l2 : Int32} {y_l2 : Int} (e_l2 : l2.toInt = y_l2) {l5 : Int32} {y_l5 : Int} (e_l5 : l5.toInt = y_l5) {l6 : Int32} {y_l6 : Int} (e_l6 : l6.toInt = y_l6) {h : ms_M} (hM_h : Rg_M h), Sm_ RI_ (kk_155 160 l1 l2 l5 l6 (H_M h)) (qkk_155 y_l1 y_l2 y_l5 y_l6 h)) {l1 : Int32} {y_l1 : Int} (e_l1 : l1.toInt = y_l1) {l2 : Int32} {y_l2 : Int} (e_l2 : l2.toInt = y_l2) {l6 : Int32} {y_l6 : Int} (e_l6 : l6.toInt = y_l6) {l8 : Int32} {y_l8 : Int} (e_l8 : l8.toInt = y_l8) {h : ms_M} (hM_h : Rg_M h) : Sm_ RI_ (j_X13_flows_363 nn kk_155 160 l1 l2 l6 l8 (H_M h)) (qj_X13_flows_363 nn qkk_155 y_l1 y_l2 y_l6 y_l8 h) := by
  unfold j_X13_flows_363 qj_X13_flows_363
  refine sm_eq e_l8 rfl ?_ ?_
  · exact sj_X13_flows_407 nn hk_kk_155 e_l1 e_l2 e_l6 hM_h
  · refine sm_eq e_l8 rfl ?_ ?_
    · exact sj_X13_flows_407 nn hk_kk_155 e_l1 e_l2 e_l6 hM_h
    · refine sm_eq e_l8 rfl ?_ ?_
      · exact sj_X13_flows_407 nn hk_kk_155 e_l1 e_l2 e_l6 hM_h
      · refine sm_eq e_l8 rfl ?_ ?_
        · exact sj_X13_flows_407 nn hk_kk_155 e_l1 e_l2 e_l6 hM_h
        · refine sm_eq e_l8 rfl ?_ ?_
          · exact sj_X13_flows_407 nn hk_kk_155 e_l1 e_l2 e_l6 hM_h
          · exact sj_X13_flows_408 nn hk_kk_155 e_l1 e_l2 e_l6 rfl hM_h
set_option maxRecDepth 4000 in
theorem sj_X13_flows_352 (nn : Nat) {l1 : Int32} {y_l1 : Int} (e_l1 : l1.toInt = y_l1) {l2 : Int32} {y_l2 : Int} (e_l2 : l2.toInt = y_l2) {l6 : Int32} {y_l6 : Int} (e_l6 : l6.toInt = y_l6) {h : ms_M} (hM_h : Rg_M h) : Sm_ RI_ (j_X13_flows_352 nn 160 l1 l2 l6 (H_M h)) (qj_X13_flows_352 nn y_l1 y_l2 y_l6 h) := by
  unfold j_X13_flows_352 qj_X13_flows_352
  refine sm_is hM_h rfl ?_
  refine sm_cI (sf_X13_bad nn rfl e_l1 e_l2 e_l6 hM_h) ?_; intro u11 y_u11 M_u11 e_u11 hM_u11
  refine sm_bq e_u11 ?_
  exact sm_rI e_u11 hM_u11
set_option maxRecDepth 4000 in
theorem sj_X13_flows_240 (nn : Nat) {kk_155 : Nat → Int32 → Int32 → Int32 → Int32 → mx_H → Option (Int32 × mx_H)} {qkk_155 : Int → Int → Int → Int → ms_M → Option (Int × ms_M)} (hk_kk_155 : ∀ {l1 : Int32} {y_l1 : Int} (e_l1 : l1.toInt = y_l1) {l2 : Int32} {y_l2 : Int} (e_l2 : l2.toInt = y_l2) {l5 : Int32} {y_l5 : Int} (e_l5 : l5.toInt = y_l5) {l6 : Int32} {y_l6 : Int} (e_l6 : l6.toInt = y_l6) {h : ms_M} (hM_h : Rg_M h), Sm_ RI_ (kk_155 160 l1 l2 l5 l6 (H_M h)) (qkk_155 y_l1 y_l2 y_l5 y_l6 h)) {l1 : Int32} {y_l1 : Int} (e_l1 : l1.toInt = y_l1) {l2 : Int32} {y_l2 : Int} (e_l2 : l2.toInt = y_l2) {l6 : Int32} {y_l6 : Int} (e_l6 : l6.toInt = y_l6) {h : ms_M} (hM_h : Rg_M h) : Sm_ RI_ (j_X13_flows_240 nn kk_155 160 l1 l2 l6 (H_M h)) (qj_X13_flows_240 nn qkk_155 y_l1 y_l2 y_l6 h) := by
  unfold j_X13_flows_240 qj_X13_flows_240
  refine sm_is hM_h rfl ?_
  refine sm_cI (sf_X13_handled nn e_l6 hM_h) ?_; intro u14 y_u14 M_u14 e_u14 hM_u14
  refine sm_ne e_u14 rfl ?_ ?_
  · refine sm_is hM_u14 rfl ?_
    refine sm_cI (sf_X13_right nn e_l6 hM_u14) ?_; intro u16 y_u16 M_u16 e_u16 hM_u16
    refine sm_ne e_u16 rfl ?_ ?_
    · refine sm_is hM_u16 rfl ?_
      refine sm_cI (sf_X13_wanted nn e_l6 hM_u16) ?_; intro u18 y_u18 M_u18 e_u18 hM_u18
      refine sm_ne e_u18 rfl ?_ ?_
      · refine sm_is hM_u18 rfl ?_
        refine sm_cP (sf_X13_code nn e_l6 hM_u18) ?_; intro u20 y_u20 e_u20
        refine sm_cP (sf_X13_isJump nn e_u20 hM_u18) ?_; intro u21 y_u21 e_u21
        refine sm_eq e_u21 rfl ?_ ?_
        · exact sj_X13_flows_363 nn hk_kk_155 e_l1 e_l2 e_l6 e_u20 hM_u18
        · refine sm_is hM_u18 rfl ?_
          refine sm_cP (sf_X13_aimOf nn e_l6 hM_u18) ?_; intro u23 y_u23 e_u23
          refine sm_is hM_u18 rfl ?_
          refine sm_cP (sf_X13_frameFor nn e_u23 hM_u18) ?_; intro u25 y_u25 e_u25
          refine sm_eq e_u25 rfl ?_ ?_
          · exact sj_X13_flows_352 nn e_l1 e_l2 e_l6 hM_u18
          · refine sm_is hM_u18 rfl ?_
            refine sm_cI (sf_X13_localsFit nn e_u25 hM_u18) ?_; intro u27 y_u27 M_u27 e_u27 hM_u27
            refine sm_eq e_u27 rfl ?_ ?_
            · exact sj_X13_flows_352 nn e_l1 e_l2 e_l6 hM_u27
            · refine sm_is hM_u27 rfl ?_
              refine sm_cI (sf_X13_stackFits nn e_u25 hM_u27) ?_; intro u29 y_u29 M_u29 e_u29 hM_u29
              refine sm_ne e_u29 rfl ?_ ?_
              · exact sj_X13_flows_363 nn hk_kk_155 e_l1 e_l2 e_l6 e_u20 hM_u29
              · exact sj_X13_flows_352 nn e_l1 e_l2 e_l6 hM_u29
      · refine sm_is hM_u18 rfl ?_
        refine sm_cI (sf_X13_bad nn rfl e_l1 e_l2 e_l6 hM_u18) ?_; intro u35 y_u35 M_u35 e_u35 hM_u35
        refine sm_bq e_u35 ?_
        exact sm_rI e_u35 hM_u35
    · refine sm_is hM_u16 rfl ?_
      refine sm_cI (sf_X13_bad nn rfl e_l1 e_l2 e_l6 hM_u16) ?_; intro u39 y_u39 M_u39 e_u39 hM_u39
      refine sm_bq e_u39 ?_
      exact sm_rI e_u39 hM_u39
  · refine sm_is hM_u14 rfl ?_
    refine sm_cI (sf_X13_bad nn rfl e_l1 e_l2 e_l6 hM_u14) ?_; intro u43 y_u43 M_u43 e_u43 hM_u43
    refine sm_bq e_u43 ?_
    exact sm_rI e_u43 hM_u43
set_option maxRecDepth 4000 in
theorem sj_X13_flows_234 (nn : Nat) {kk_155 : Nat → Int32 → Int32 → Int32 → Int32 → mx_H → Option (Int32 × mx_H)} {qkk_155 : Int → Int → Int → Int → ms_M → Option (Int × ms_M)} (hk_kk_155 : ∀ {l1 : Int32} {y_l1 : Int} (e_l1 : l1.toInt = y_l1) {l2 : Int32} {y_l2 : Int} (e_l2 : l2.toInt = y_l2) {l5 : Int32} {y_l5 : Int} (e_l5 : l5.toInt = y_l5) {l6 : Int32} {y_l6 : Int} (e_l6 : l6.toInt = y_l6) {h : ms_M} (hM_h : Rg_M h), Sm_ RI_ (kk_155 160 l1 l2 l5 l6 (H_M h)) (qkk_155 y_l1 y_l2 y_l5 y_l6 h)) {l1 : Int32} {y_l1 : Int} (e_l1 : l1.toInt = y_l1) {l2 : Int32} {y_l2 : Int} (e_l2 : l2.toInt = y_l2) {l6 : Int32} {y_l6 : Int} (e_l6 : l6.toInt = y_l6) {l7 : Int32} {y_l7 : Int} (e_l7 : l7.toInt = y_l7) {h : ms_M} (hM_h : Rg_M h) : Sm_ RI_ (j_X13_flows_234 nn kk_155 160 l1 l2 l6 l7 (H_M h)) (qj_X13_flows_234 nn qkk_155 y_l1 y_l2 y_l6 y_l7 h) := by
  unfold j_X13_flows_234 qj_X13_flows_234
  refine sm_is hM_h rfl ?_
  refine sm_cV (sf_X13_becomes nn e_l7 hM_h) ?_; intro u47 hM_u47
  exact sj_X13_flows_240 nn hk_kk_155 e_l1 e_l2 e_l6 hM_u47
set_option maxRecDepth 4000 in
theorem sj_X13_flows_223 (nn : Nat) {l1 : Int32} {y_l1 : Int} (e_l1 : l1.toInt = y_l1) {l2 : Int32} {y_l2 : Int} (e_l2 : l2.toInt = y_l2) {l6 : Int32} {y_l6 : Int} (e_l6 : l6.toInt = y_l6) {h : ms_M} (hM_h : Rg_M h) : Sm_ RI_ (j_X13_flows_223 nn 160 l1 l2 l6 (H_M h)) (qj_X13_flows_223 nn y_l1 y_l2 y_l6 h) := by
  unfold j_X13_flows_223 qj_X13_flows_223
  refine sm_is hM_h rfl ?_
  refine sm_cI (sf_X13_bad nn rfl e_l1 e_l2 e_l6 hM_h) ?_; intro u49 y_u49 M_u49 e_u49 hM_u49
  refine sm_bq e_u49 ?_
  exact sm_rI e_u49 hM_u49
set_option maxRecDepth 4000 in
theorem sj_X13_flows_194 (nn : Nat) {kk_155 : Nat → Int32 → Int32 → Int32 → Int32 → mx_H → Option (Int32 × mx_H)} {qkk_155 : Int → Int → Int → Int → ms_M → Option (Int × ms_M)} (hk_kk_155 : ∀ {l1 : Int32} {y_l1 : Int} (e_l1 : l1.toInt = y_l1) {l2 : Int32} {y_l2 : Int} (e_l2 : l2.toInt = y_l2) {l5 : Int32} {y_l5 : Int} (e_l5 : l5.toInt = y_l5) {l6 : Int32} {y_l6 : Int} (e_l6 : l6.toInt = y_l6) {h : ms_M} (hM_h : Rg_M h), Sm_ RI_ (kk_155 160 l1 l2 l5 l6 (H_M h)) (qkk_155 y_l1 y_l2 y_l5 y_l6 h)) {l1 : Int32} {y_l1 : Int} (e_l1 : l1.toInt = y_l1) {l2 : Int32} {y_l2 : Int} (e_l2 : l2.toInt = y_l2) {l5 : Int32} {y_l5 : Int} (e_l5 : l5.toInt = y_l5) {l6 : Int32} {y_l6 : Int} (e_l6 : l6.toInt = y_l6) {l7 : Int32} {y_l7 : Int} (e_l7 : l7.toInt = y_l7) {h : ms_M} (hM_h : Rg_M h) : Sm_ RI_ (j_X13_flows_194 nn kk_155 160 l1 l2 l5 l6 l7 (H_M h)) (qj_X13_flows_194 nn qkk_155 y_l1 y_l2 y_l5 y_l6 y_l7 h) := by
  unfold j_X13_flows_194 qj_X13_flows_194
  refine sm_eq e_l7 rfl ?_ ?_
  · exact sj_X13_flows_240 nn hk_kk_155 e_l1 e_l2 e_l6 hM_h
  · refine sm_eq e_l5 rfl ?_ ?_
    · exact sj_X13_flows_234 nn hk_kk_155 e_l1 e_l2 e_l6 e_l7 hM_h
    · refine sm_is hM_h rfl ?_
      refine sm_cI (sf_X13_localsFit nn e_l7 hM_h) ?_; intro u52 y_u52 M_u52 e_u52 hM_u52
      refine sm_eq e_u52 rfl ?_ ?_
      · exact sj_X13_flows_223 nn e_l1 e_l2 e_l6 hM_u52
      · refine sm_is hM_u52 rfl ?_
        refine sm_cI (sf_X13_stackFits nn e_l7 hM_u52) ?_; intro u54 y_u54 M_u54 e_u54 hM_u54
        refine sm_ne e_u54 rfl ?_ ?_
        · exact sj_X13_flows_234 nn hk_kk_155 e_l1 e_l2 e_l6 e_l7 hM_u54
        · exact sj_X13_flows_223 nn e_l1 e_l2 e_l6 hM_u54
set_option maxRecDepth 4000 in
theorem sw_X13_flows_155 (nn : Nat) : ∀ (k : Nat) {l1 : Int32} {y_l1 : Int} (e_l1 : l1.toInt = y_l1) {l2 : Int32} {y_l2 : Int} (e_l2 : l2.toInt = y_l2) {l5 : Int32} {y_l5 : Int} (e_l5 : l5.toInt = y_l5) {l6 : Int32} {y_l6 : Int} (e_l6 : l6.toInt = y_l6) {h : ms_M} (hM_h : Rg_M h), Sm_ RI_ (w_X13_flows_155 nn k 160 l1 l2 l5 l6 (H_M h)) (qw_X13_flows_155 nn k y_l1 y_l2 y_l5 y_l6 h) := by
  intro k
  induction k with
  | zero => intros; exact sm_no
  | succ k ih =>
    intro l1 y_l1 e_l1 l2 y_l2 e_l2 l5 y_l5 e_l5 l6 y_l6 e_l6 h hM_h
    unfold w_X13_flows_155 qw_X13_flows_155
    refine sm_gi hM_h rfl ?_; intro v59 e_v59
    refine sm_le e_v59 e_l6 ?_ ?_
    · refine sm_eq e_l5 rfl ?_ ?_
      · exact sm_rI rfl hM_h
      · refine sm_gi hM_h rfl ?_; intro v60 e_v60
        refine sm_is hM_h rfl ?_
        refine sm_cI (sf_X13_bad nn rfl e_l1 e_l2 e_v60 hM_h) ?_; intro u62 y_u62 M_u62 e_u62 hM_u62
        refine sm_bq e_u62 ?_
        exact sm_rI e_u62 hM_u62
    · refine sm_is hM_h rfl ?_
      refine sm_cP (sf_X13_frameFor nn e_l6 hM_h) ?_; intro u66 y_u66 e_u66
      refine sm_ne e_l5 rfl ?_ ?_
      · exact sj_X13_flows_194 nn ih e_l1 e_l2 e_l5 e_l6 e_u66 hM_h
      · refine sm_ne e_u66 rfl ?_ ?_
        · exact sj_X13_flows_194 nn ih e_l1 e_l2 e_l5 e_l6 e_u66 hM_h
        · refine sm_is hM_h rfl ?_
          refine sm_cI (sf_X13_bad nn rfl e_l1 e_l2 e_l6 hM_h) ?_; intro u68 y_u68 M_u68 e_u68 hM_u68
          refine sm_bq e_u68 ?_
          exact sm_rI e_u68 hM_u68
set_option maxRecDepth 4000 in
theorem sw_X13_flows_105 (nn : Nat) : ∀ (k : Nat) {l1 : Int32} {y_l1 : Int} (e_l1 : l1.toInt = y_l1) {l2 : Int32} {y_l2 : Int} (e_l2 : l2.toInt = y_l2) {l3 : Int32} {y_l3 : Int} (e_l3 : l3.toInt = y_l3) {l4 : Int32} {y_l4 : Int} (e_l4 : l4.toInt = y_l4) {h : ms_M} (hM_h : Rg_M h), Sm_ RI_ (w_X13_flows_105 nn k 160 l1 l2 l3 l4 (H_M h)) (qw_X13_flows_105 nn k y_l1 y_l2 y_l3 y_l4 h) := by
  intro k
  induction k with
  | zero => intros; exact sm_no
  | succ k ih =>
    intro l1 y_l1 e_l1 l2 y_l2 e_l2 l3 y_l3 e_l3 l4 y_l4 e_l4 h hM_h
    unfold w_X13_flows_105 qw_X13_flows_105
    refine sm_gr hM_h (d := 226) rfl ?_
    refine sm_ai hM_h rfl e_l4 ?_; intro v74 y_v74 e_v74
    refine sm_eq e_v74 rfl ?_ ?_
    · refine sm_oq_add e_l4 rfl ?_; intro v75 y_v75 e_v75
      refine sm_pv hM_h rfl e_v75 ?_; intro h76 hM_h76
      exact sw_X13_flows_155 nn nn e_l1 e_l2 rfl rfl hM_h76
    · refine sm_gr hM_h (d := 243) rfl ?_
      refine sm_is hM_h rfl ?_
      refine sm_cI (sf_X13_typeAt nn e_l4 hM_h) ?_; intro u79 y_u79 M_u79 e_u79 hM_u79
      refine sm_si hM_u79 rfl e_l3 e_u79 ?_; intro h80 hM_h80
      refine sm_oq_add e_l3 rfl ?_; intro v81 y_v81 e_v81
      refine sm_gi hM_h80 rfl ?_; intro v82 e_v82
      exact ih e_l1 e_l2 e_v81 e_v82 hM_h80
set_option maxRecDepth 4000 in
theorem sj_X13_flows_68 (nn : Nat) {l1 : Int32} {y_l1 : Int} (e_l1 : l1.toInt = y_l1) {l2 : Int32} {y_l2 : Int} (e_l2 : l2.toInt = y_l2) {l3 : Int32} {y_l3 : Int} (e_l3 : l3.toInt = y_l3) {h : ms_M} (hM_h : Rg_M h) : Sm_ RI_ (j_X13_flows_68 nn 160 l1 l2 l3 (H_M h)) (qj_X13_flows_68 nn y_l1 y_l2 y_l3 h) := by
  unfold j_X13_flows_68 qj_X13_flows_68
  refine sm_gi hM_h rfl ?_; intro v84 e_v84
  refine sm_oq_mul rfl e_v84 ?_; intro v85 y_v85 e_v85
  refine sm_gr hM_h (d := 228) rfl ?_
  refine sm_gi hM_h rfl ?_; intro v87 e_v87
  refine sm_oq_mul rfl e_v87 ?_; intro v88 y_v88 e_v88
  refine sm_gi hM_h rfl ?_; intro v89 e_v89
  refine sm_is hM_h rfl ?_
  refine sm_cP (sf_X13_kindText nn e_v89 e_l2 rfl hM_h) ?_; intro u91 y_u91 e_u91
  refine sm_oq_add e_v88 e_u91 ?_; intro v92 y_v92 e_v92
  refine sm_ai hM_h rfl e_v92 ?_; intro v93 y_v93 e_v93
  refine sm_oq_add e_v85 e_v93 ?_; intro v94 y_v94 e_v94
  refine sm_oq_add e_v94 rfl ?_; intro v95 y_v95 e_v95
  exact sw_X13_flows_105 nn nn e_l1 e_l2 e_l3 e_v95 hM_h
set_option maxRecDepth 4000 in
theorem sw_X13_flows_2 (nn : Nat) : ∀ (k : Nat) {l1 : Int32} {y_l1 : Int} (e_l1 : l1.toInt = y_l1) {l2 : Int32} {y_l2 : Int} (e_l2 : l2.toInt = y_l2) {l3 : Int32} {y_l3 : Int} (e_l3 : l3.toInt = y_l3) {h : ms_M} (hM_h : Rg_M h), Sm_ RI_ (w_X13_flows_2 nn k 160 l1 l2 l3 (H_M h)) (qw_X13_flows_2 nn k y_l1 y_l2 y_l3 h) := by
  intro k
  induction k with
  | zero => intros; exact sm_no
  | succ k ih =>
    intro l1 y_l1 e_l1 l2 y_l2 e_l2 l3 y_l3 e_l3 h hM_h
    unfold w_X13_flows_2 qw_X13_flows_2
    refine sm_gi hM_h rfl ?_; intro v96 e_v96
    refine sm_le e_v96 e_l3 ?_ ?_
    · refine sm_pv hM_h rfl rfl ?_; intro h97 hM_h97
      refine sm_gi hM_h97 rfl ?_; intro v98 e_v98
      refine sm_gr hM_h97 (d := 235) rfl ?_
      refine sm_gi hM_h97 rfl ?_; intro v100 e_v100
      refine sm_oq_mul rfl e_v100 ?_; intro v101 y_v101 e_v101
      refine sm_oq_add e_v101 e_l2 ?_; intro v102 y_v102 e_v102
      refine sm_ai hM_h97 rfl e_v102 ?_; intro v103 y_v103 e_v103
      refine sm_is hM_h97 rfl ?_
      refine sm_cP (sf_X13_byteAt nn e_v98 e_v103 hM_h97) ?_; intro u105 y_u105 e_u105
      refine sm_ne e_u105 rfl ?_ ?_
      · exact sj_X13_flows_68 nn e_l1 e_l2 rfl hM_h97
      · refine sm_gr hM_h97 (d := 243) rfl ?_
        refine sm_oq_mul rfl e_l1 ?_; intro v107 y_v107 e_v107
        refine sm_oq_add rfl e_v107 ?_; intro v108 y_v108 e_v108
        refine sm_si hM_h97 rfl rfl e_v108 ?_; intro h109 hM_h109
        exact sj_X13_flows_68 nn e_l1 e_l2 rfl hM_h109
    · refine sm_gr hM_h (d := 243) rfl ?_
      refine sm_si hM_h rfl e_l3 rfl ?_; intro h112 hM_h112
      refine sm_oq_add e_l3 rfl ?_; intro v113 y_v113 e_v113
      exact ih e_l1 e_l2 e_v113 hM_h112
set_option maxRecDepth 4000 in
theorem sf_X13_flows (nn : Nat) {a1 : Int32} {y_a1 : Int} (e_a1 : a1.toInt = y_a1) {a2 : Int32} {y_a2 : Int} (e_a2 : a2.toInt = y_a2) {h : ms_M} (hM_h : Rg_M h) : Sm_ RI_ (f_X13_flows nn 160 a1 a2 (H_M h)) (qf_X13_flows nn y_a1 y_a2 h) := by
  unfold f_X13_flows qf_X13_flows
  exact sw_X13_flows_2 nn nn e_a1 e_a2 rfl hM_h
set_option maxRecDepth 4000 in
theorem sw_X13_frameAt_22 (nn : Nat) : ∀ (k : Nat) {l1 : Int32} {y_l1 : Int} (e_l1 : l1.toInt = y_l1) {l2 : Int32} {y_l2 : Int} (e_l2 : l2.toInt = y_l2) {l3 : Int32} {y_l3 : Int} (e_l3 : l3.toInt = y_l3) {h : ms_M} (hM_h : Rg_M h), Sm_ (RP_ h) (w_X13_frameAt_22 nn k 160 l1 l2 l3 (H_M h)) (qw_X13_frameAt_22 nn k y_l1 y_l2 y_l3 h) := by
  intro k
  induction k with
  | zero => intros; exact sm_no
  | succ k ih =>
    intro l1 y_l1 e_l1 l2 y_l2 e_l2 l3 y_l3 e_l3 h hM_h
    unfold w_X13_frameAt_22 qw_X13_frameAt_22
    refine sm_le e_l1 e_l3 ?_ ?_
    · exact sm_rP e_l2
    · refine sm_oq_add e_l2 rfl ?_; intro v1 y_v1 e_v1
      refine sm_is hM_h rfl ?_
      refine sm_cP (sf_X13_typesEnd nn e_v1 hM_h) ?_; intro u3 y_u3 e_u3
      refine sm_is hM_h rfl ?_
      refine sm_cP (sf_X13_typesEnd nn e_u3 hM_h) ?_; intro u5 y_u5 e_u5
      refine sm_oq_add e_l3 rfl ?_; intro v6 y_v6 e_v6
      exact ih e_l1 e_u5 e_v6 hM_h
set_option maxRecDepth 4000 in
theorem sf_X13_frameAt (nn : Nat) {a1 : Int32} {y_a1 : Int} (e_a1 : a1.toInt = y_a1) {h : ms_M} (hM_h : Rg_M h) : Sm_ (RP_ h) (f_X13_frameAt nn 160 a1 (H_M h)) (qf_X13_frameAt nn y_a1 h) := by
  unfold f_X13_frameAt qf_X13_frameAt
  refine sm_gr hM_h (d := 237) rfl ?_
  refine sm_gi hM_h rfl ?_; intro v9 e_v9
  refine sm_oq_mul rfl e_v9 ?_; intro v10 y_v10 e_v10
  refine sm_gi hM_h rfl ?_; intro v11 e_v11
  refine sm_oq_add e_v10 e_v11 ?_; intro v12 y_v12 e_v12
  refine sm_ai hM_h rfl e_v12 ?_; intro v13 y_v13 e_v13
  refine sm_oq_add e_v13 rfl ?_; intro v14 y_v14 e_v14
  exact sw_X13_frameAt_22 nn nn e_a1 e_v14 rfl hM_h
set_option maxRecDepth 4000 in
theorem sj_X13_frameIsThere_89 (nn : Nat) {kk_6 : Nat → Int32 → Int32 → mx_H → Option (Int32 × mx_H)} {qkk_6 : Int → Int → ms_M → Option (Int × ms_M)} (hk_kk_6 : ∀ {l2 : Int32} {y_l2 : Int} (e_l2 : l2.toInt = y_l2) {l3 : Int32} {y_l3 : Int} (e_l3 : l3.toInt = y_l3) {h : ms_M} (hM_h : Rg_M h), Sm_ RI_ (kk_6 160 l2 l3 (H_M h)) (qkk_6 y_l2 y_l3 h)) {kk_50 : Nat → Int32 → Int32 → Int32 → Int32 → mx_H → Option (Int32 × mx_H)} {qkk_50 : Int → Int → Int → Int → ms_M → Option (Int × ms_M)} (hk_kk_50 : ∀ {l2 : Int32} {y_l2 : Int} (e_l2 : l2.toInt = y_l2) {l3 : Int32} {y_l3 : Int} (e_l3 : l3.toInt = y_l3) {l4 : Int32} {y_l4 : Int} (e_l4 : l4.toInt = y_l4) {l5 : Int32} {y_l5 : Int} (e_l5 : l5.toInt = y_l5) {h : ms_M} (hM_h : Rg_M h), Sm_ RI_ (kk_50 160 l2 l3 l4 l5 (H_M h)) (qkk_50 y_l2 y_l3 y_l4 y_l5 h)) {l3 : Int32} {y_l3 : Int} (e_l3 : l3.toInt = y_l3) {l4 : Int32} {y_l4 : Int} (e_l4 : l4.toInt = y_l4) {l5 : Int32} {y_l5 : Int} (e_l5 : l5.toInt = y_l5) {s0 : Int32} {y_s0 : Int} (e_s0 : s0.toInt = y_s0) {s1 : Int32} {y_s1 : Int} (e_s1 : s1.toInt = y_s1) {h : ms_M} (hM_h : Rg_M h) : Sm_ RI_ (j_X13_frameIsThere_89 nn kk_6 kk_50 160 l3 l4 l5 s0 s1 (H_M h)) (qj_X13_frameIsThere_89 nn qkk_6 qkk_50 y_l3 y_l4 y_l5 y_s0 y_s1 h) := by
  unfold j_X13_frameIsThere_89 qj_X13_frameIsThere_89
  refine sm_oq_add e_s1 e_s0 ?_; intro v1 y_v1 e_v1
  refine sm_oq_add e_l5 rfl ?_; intro v2 y_v2 e_v2
  exact hk_kk_50 e_v1 e_l3 e_l4 e_v2 hM_h
set_option maxRecDepth 4000 in
theorem sw_X13_frameIsThere_50 (nn : Nat) {kk_6 : Nat → Int32 → Int32 → mx_H → Option (Int32 × mx_H)} {qkk_6 : Int → Int → ms_M → Option (Int × ms_M)} (hk_kk_6 : ∀ {l2 : Int32} {y_l2 : Int} (e_l2 : l2.toInt = y_l2) {l3 : Int32} {y_l3 : Int} (e_l3 : l3.toInt = y_l3) {h : ms_M} (hM_h : Rg_M h), Sm_ RI_ (kk_6 160 l2 l3 (H_M h)) (qkk_6 y_l2 y_l3 h)) : ∀ (k : Nat) {l2 : Int32} {y_l2 : Int} (e_l2 : l2.toInt = y_l2) {l3 : Int32} {y_l3 : Int} (e_l3 : l3.toInt = y_l3) {l4 : Int32} {y_l4 : Int} (e_l4 : l4.toInt = y_l4) {l5 : Int32} {y_l5 : Int} (e_l5 : l5.toInt = y_l5) {h : ms_M} (hM_h : Rg_M h), Sm_ RI_ (w_X13_frameIsThere_50 nn kk_6 k 160 l2 l3 l4 l5 (H_M h)) (qw_X13_frameIsThere_50 nn qkk_6 k y_l2 y_l3 y_l4 y_l5 h) := by
  intro k
  induction k with
  | zero => intros; exact sm_no
  | succ k ih =>
    intro l2 y_l2 e_l2 l3 y_l3 e_l3 l4 y_l4 e_l4 l5 y_l5 e_l5 h hM_h
    unfold w_X13_frameIsThere_50 qw_X13_frameIsThere_50
    refine sm_le e_l4 e_l5 ?_ ?_
    · refine sm_oq_add e_l3 rfl ?_; intro v3 y_v3 e_v3
      exact hk_kk_6 e_l2 e_v3 hM_h
    · refine sm_is hM_h rfl ?_
      refine sm_cI (sf_X13_framed nn e_l2 hM_h) ?_; intro u5 y_u5 M_u5 e_u5 hM_u5
      refine sm_cP (sf_X13_isThere nn e_u5 hM_u5) ?_; intro u6 y_u6 e_u6
      refine sm_ne e_u6 rfl ?_ ?_
      · refine sm_gi hM_u5 rfl ?_; intro v7 e_v7
        refine sm_is hM_u5 rfl ?_
        refine sm_cP (sf_X13_byteAt nn e_v7 e_l2 hM_u5) ?_; intro u9 y_u9 e_u9
        refine sm_ne e_u9 rfl ?_ ?_
        · exact sj_X13_frameIsThere_89 nn hk_kk_6 ih e_l3 e_l4 e_l5 rfl e_l2 hM_u5
        · exact sj_X13_frameIsThere_89 nn hk_kk_6 ih e_l3 e_l4 e_l5 rfl e_l2 hM_u5
      · exact sm_rI rfl hM_u5
set_option maxRecDepth 4000 in
theorem sj_X13_frameIsThere_39 (nn : Nat) {kk_6 : Nat → Int32 → Int32 → mx_H → Option (Int32 × mx_H)} {qkk_6 : Int → Int → ms_M → Option (Int × ms_M)} (hk_kk_6 : ∀ {l2 : Int32} {y_l2 : Int} (e_l2 : l2.toInt = y_l2) {l3 : Int32} {y_l3 : Int} (e_l3 : l3.toInt = y_l3) {h : ms_M} (hM_h : Rg_M h), Sm_ RI_ (kk_6 160 l2 l3 (H_M h)) (qkk_6 y_l2 y_l3 h)) {l2 : Int32} {y_l2 : Int} (e_l2 : l2.toInt = y_l2) {l3 : Int32} {y_l3 : Int} (e_l3 : l3.toInt = y_l3) {l4 : Int32} {y_l4 : Int} (e_l4 : l4.toInt = y_l4) {s0 : Int32} {y_s0 : Int} (e_s0 : s0.toInt = y_s0) {s1 : Int32} {y_s1 : Int} (e_s1 : s1.toInt = y_s1) {h : ms_M} (hM_h : Rg_M h) : Sm_ RI_ (j_X13_frameIsThere_39 nn kk_6 160 l2 l3 l4 s0 s1 (H_M h)) (qj_X13_frameIsThere_39 nn qkk_6 y_l2 y_l3 y_l4 y_s0 y_s1 h) := by
  unfold j_X13_frameIsThere_39 qj_X13_frameIsThere_39
  refine sm_le e_s1 e_s0 ?_ ?_
  · refine sm_oq_add e_l2 rfl ?_; intro v13 y_v13 e_v13
    exact sw_X13_frameIsThere_50 nn hk_kk_6 nn e_v13 e_l3 e_l4 rfl hM_h
  · exact sm_rI rfl hM_h
set_option maxRecDepth 4000 in
theorem sw_X13_frameIsThere_6 (nn : Nat) : ∀ (k : Nat) {l2 : Int32} {y_l2 : Int} (e_l2 : l2.toInt = y_l2) {l3 : Int32} {y_l3 : Int} (e_l3 : l3.toInt = y_l3) {h : ms_M} (hM_h : Rg_M h), Sm_ RI_ (w_X13_frameIsThere_6 nn k 160 l2 l3 (H_M h)) (qw_X13_frameIsThere_6 nn k y_l2 y_l3 h) := by
  intro k
  induction k with
  | zero => intros; exact sm_no
  | succ k ih =>
    intro l2 y_l2 e_l2 l3 y_l3 e_l3 h hM_h
    unfold w_X13_frameIsThere_6 qw_X13_frameIsThere_6
    refine sm_le rfl e_l3 ?_ ?_
    · exact sm_rI rfl hM_h
    · refine sm_gi hM_h rfl ?_; intro v15 e_v15
      refine sm_is hM_h rfl ?_
      refine sm_cP (sf_X13_byteAt nn e_v15 e_l2 hM_h) ?_; intro u17 y_u17 e_u17
      refine sm_ne e_l3 rfl ?_ ?_
      · refine sm_gi hM_h rfl ?_; intro v18 e_v18
        exact sj_X13_frameIsThere_39 nn ih e_l2 e_l3 e_u17 e_v18 e_u17 hM_h
      · refine sm_gi hM_h rfl ?_; intro v19 e_v19
        exact sj_X13_frameIsThere_39 nn ih e_l2 e_l3 e_u17 e_v19 e_u17 hM_h
set_option maxRecDepth 4000 in
theorem sf_X13_frameIsThere (nn : Nat) {a1 : Int32} {y_a1 : Int} (e_a1 : a1.toInt = y_a1) {h : ms_M} (hM_h : Rg_M h) : Sm_ RI_ (f_X13_frameIsThere nn 160 a1 (H_M h)) (qf_X13_frameIsThere nn y_a1 h) := by
  unfold f_X13_frameIsThere qf_X13_frameIsThere
  refine sm_oq_add e_a1 rfl ?_; intro v22 y_v22 e_v22
  exact sw_X13_frameIsThere_6 nn nn e_v22 rfl hM_h
set_option maxRecDepth 4000 in
theorem sj_X13_handlerFits_94 (nn : Nat) {l1 : Int32} {y_l1 : Int} (e_l1 : l1.toInt = y_l1) {l4 : Int32} {y_l4 : Int} (e_l4 : l4.toInt = y_l4) {s0 : Int32} {y_s0 : Int} (e_s0 : s0.toInt = y_s0) {h : ms_M} (hM_h : Rg_M h) : Sm_ RI_ (j_X13_handlerFits_94 nn 160 l1 l4 s0 (H_M h)) (qj_X13_handlerFits_94 nn y_l1 y_l4 y_s0 h) := by
  unfold j_X13_handlerFits_94 qj_X13_handlerFits_94
  refine sm_gi hM_h rfl ?_; intro v1 e_v1
  refine sm_gi hM_h rfl ?_; intro v2 e_v2
  refine sm_oq_add e_l1 rfl ?_; intro v3 y_v3 e_v3
  refine sm_is hM_h rfl ?_
  refine sm_cP (sf_X13_byteAt nn e_v2 e_v3 hM_h) ?_; intro u5 y_u5 e_u5
  refine sm_is hM_h rfl ?_
  refine sm_cI (sf_X13_typeOfClass nn e_v1 e_u5 hM_h) ?_; intro u7 y_u7 M_u7 e_u7 hM_u7
  refine sm_eq e_s0 rfl ?_ ?_
  · exact sm_rI rfl hM_u7
  · refine sm_is hM_u7 rfl ?_
    refine sm_cP (sf_X13_frameFor nn e_l4 hM_u7) ?_; intro u9 y_u9 e_u9
    refine sm_eq e_u9 rfl ?_ ?_
    · exact sm_rI rfl hM_u7
    · refine sm_cP (sf_X13_isThere nn e_u7 hM_u7) ?_; intro u10 y_u10 e_u10
      refine sm_eq e_u10 rfl ?_ ?_
      · exact sm_rI rfl hM_u7
      · refine sm_is hM_u7 rfl ?_
        refine sm_cP (sf_X13_goes nn e_u7 rfl hM_u7) ?_; intro u12 y_u12 e_u12
        refine sm_eq e_u12 rfl ?_ ?_
        · exact sm_rI rfl hM_u7
        · exact sm_rI rfl hM_u7
