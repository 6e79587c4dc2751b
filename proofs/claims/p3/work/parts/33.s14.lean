set_option maxRecDepth 4000 in
theorem sj_X13_loaded_138 (nn : Nat) {h : ms_M} (hM_h : Rg_M h) : Sm_ RI_ (j_X13_loaded_138 nn (H_M h)) (qj_X13_loaded_138 nn h) := by
  unfold j_X13_loaded_138 qj_X13_loaded_138
  exact sm_rI rfl hM_h
set_option maxRecDepth 4000 in
theorem sf_X13_loaded (nn : Nat) {h : ms_M} (hM_h : Rg_M h) : Sm_ RI_ (f_X13_loaded nn 160 (H_M h)) (qf_X13_loaded nn h) := by
  unfold f_X13_loaded qf_X13_loaded
  refine sm_gi hM_h rfl ?_; intro v1 e_v1
  refine sm_ne e_v1 rfl ?_ ?_
  · refine sm_gi hM_h rfl ?_; intro v2 e_v2
    refine sm_is hM_h rfl ?_
    refine sm_cV (sf_X13_scan nn e_v2 hM_h) ?_; intro u4 hM_u4
    refine sm_gi hM_u4 rfl ?_; intro v5 e_v5
    refine sm_eq e_v5 rfl ?_ ?_
    · refine sm_gr hM_u4 (d := 228) rfl ?_
      refine sm_gi hM_u4 rfl ?_; intro v7 e_v7
      refine sm_oq_mul rfl e_v7 ?_; intro v8 y_v8 e_v8
      refine sm_gr hM_u4 (d := 238) rfl ?_
      refine sm_gr hM_u4 (d := 228) rfl ?_
      refine sm_gi hM_u4 rfl ?_; intro v11 e_v11
      refine sm_oq_mul rfl e_v11 ?_; intro v12 y_v12 e_v12
      refine sm_gr hM_u4 (d := 230) rfl ?_
      refine sm_gi hM_u4 rfl ?_; intro v14 e_v14
      refine sm_ai hM_u4 rfl e_v14 ?_; intro v15 y_v15 e_v15
      refine sm_oq_add e_v12 e_v15 ?_; intro v16 y_v16 e_v16
      refine sm_ai hM_u4 rfl e_v16 ?_; intro v17 y_v17 e_v17
      refine sm_oq_add e_v17 rfl ?_; intro v18 y_v18 e_v18
      refine sm_ai hM_u4 rfl e_v18 ?_; intro v19 y_v19 e_v19
      refine sm_oq_add e_v8 e_v19 ?_; intro v20 y_v20 e_v20
      refine sm_ai hM_u4 rfl e_v20 ?_; intro v21 y_v21 e_v21
      refine sm_gr hM_u4 (d := 238) rfl ?_
      refine sm_oq_add e_v21 rfl ?_; intro v23 y_v23 e_v23
      refine sm_gr hM_u4 (d := 238) rfl ?_
      refine sm_oq_add e_v21 rfl ?_; intro v25 y_v25 e_v25
      refine sm_ai hM_u4 rfl e_v25 ?_; intro v26 y_v26 e_v26
      refine sm_is hM_u4 rfl ?_
      refine sm_cP (sf_X13_classNamed nn _ e_v23 e_v26 hM_u4) ?_; intro u28 y_u28 e_u28
      refine sm_eq e_u28 rfl ?_ ?_
      · refine sm_gi hM_u4 rfl ?_; intro v29 e_v29
        refine sm_is hM_u4 rfl ?_
        refine sm_cI (sf_X13_install nn e_v29 hM_u4) ?_; intro u31 y_u31 M_u31 e_u31 hM_u31
        refine sm_gi hM_u31 rfl ?_; intro v32 e_v32
        refine sm_oq_add e_v32 rfl ?_; intro v33 y_v33 e_v33
        refine sm_pv hM_u31 rfl e_v33 ?_; intro h34 hM_h34
        refine sm_pv hM_h34 rfl rfl ?_; intro h35 hM_h35
        refine sm_pv hM_h35 rfl rfl ?_; intro h36 hM_h36
        exact sm_rI e_u31 hM_h36
      · exact sj_X13_loaded_138 nn hM_u4
    · refine sm_gi hM_u4 rfl ?_; intro v38 e_v38
      refine sm_oq_sub rfl e_v38 ?_; intro v39 y_v39 e_v39
      exact sm_rI e_v39 hM_u4
  · refine sm_is hM_h rfl ?_
    refine sm_cV (sf_X13_aside nn rfl hM_h) ?_; intro u42 hM_u42
    refine sm_is hM_u42 rfl ?_
    refine sm_cV (sf_X13_scan nn rfl hM_u42) ?_; intro u44 hM_u44
    refine sm_gi hM_u44 rfl ?_; intro v45 e_v45
    refine sm_is hM_u44 rfl ?_
    refine sm_cV (sf_X13_again nn rfl hM_u44) ?_; intro u47 hM_u47
    refine sm_eq e_v45 rfl ?_ ?_
    · exact sm_rI rfl hM_u47
    · refine sm_oq_sub rfl e_v45 ?_; intro v48 y_v48 e_v48
      exact sm_rI e_v48 hM_u47
set_option maxRecDepth 4000 in
theorem sw_X13_keep_26 (nn : Nat) : ∀ (k : Nat) {l1 : Int32} {y_l1 : Int} (e_l1 : l1.toInt = y_l1) {l2 : Int32} {y_l2 : Int} (e_l2 : l2.toInt = y_l2) {h : ms_M} (hM_h : Rg_M h), Sm_ RI_ (w_X13_keep_26 nn k 160 l1 l2 (H_M h)) (qw_X13_keep_26 nn k y_l1 y_l2 h) := by
  intro k
  induction k with
  | zero => intros; exact sm_no
  | succ k ih =>
    intro l1 y_l1 e_l1 l2 y_l2 e_l2 h hM_h
    unfold w_X13_keep_26 qw_X13_keep_26
    refine sm_gi hM_h rfl ?_; intro v1 e_v1
    refine sm_le e_v1 e_l2 ?_ ?_
    · refine sm_is hM_h rfl ?_
      refine sm_cI (sf_X13_loaded nn hM_h) ?_; intro u3 y_u3 M_u3 e_u3 hM_u3
      exact sm_rI e_u3 hM_u3
    · refine sm_gr hM_h (d := 238) rfl ?_
      refine sm_gr hM_h (d := 221) rfl ?_
      refine sm_oq_mul rfl e_l1 ?_; intro v6 y_v6 e_v6
      refine sm_oq_add e_v6 e_l2 ?_; intro v7 y_v7 e_v7
      refine sm_ai hM_h rfl e_v7 ?_; intro v8 y_v8 e_v8
      refine sm_si hM_h rfl e_l2 e_v8 ?_; intro h9 hM_h9
      refine sm_oq_add e_l2 rfl ?_; intro v10 y_v10 e_v10
      exact ih e_l1 e_v10 hM_h9
set_option maxRecDepth 4000 in
theorem sf_X13_keep (nn : Nat) {a1 : Int32} {y_a1 : Int} (e_a1 : a1.toInt = y_a1) {h : ms_M} (hM_h : Rg_M h) : Sm_ RI_ (f_X13_keep nn 160 a1 (H_M h)) (qf_X13_keep nn y_a1 h) := by
  unfold f_X13_keep qf_X13_keep
  refine sm_lt e_a1 rfl ?_ ?_
  · exact sm_rI rfl hM_h
  · refine sm_gi hM_h rfl ?_; intro v12 e_v12
    refine sm_lt e_a1 e_v12 ?_ ?_
    · refine sm_gr hM_h (d := 222) rfl ?_
      refine sm_ai hM_h rfl e_a1 ?_; intro v14 y_v14 e_v14
      refine sm_pv hM_h rfl e_v14 ?_; intro h15 hM_h15
      exact sw_X13_keep_26 nn nn e_a1 rfl hM_h15
    · exact sm_rI rfl hM_h
set_option maxRecDepth 4000 in
theorem sw_X13_load_10 (nn : Nat) : ∀ (k : Nat) {l1 : Int32} {y_l1 : Int} (e_l1 : l1.toInt = y_l1) {h : ms_M} (hM_h : Rg_M h), Sm_ RI_ (w_X13_load_10 nn k 160 l1 (H_M h)) (qw_X13_load_10 nn k y_l1 h) := by
  intro k
  induction k with
  | zero => intros; exact sm_no
  | succ k ih =>
    intro l1 y_l1 e_l1 h hM_h
    unfold w_X13_load_10 qw_X13_load_10
    refine sm_gi hM_h rfl ?_; intro v1 e_v1
    refine sm_le e_v1 e_l1 ?_ ?_
    · refine sm_pv hM_h rfl rfl ?_; intro h2 hM_h2
      refine sm_is hM_h2 rfl ?_
      refine sm_cI (sf_X13_loaded nn hM_h2) ?_; intro u4 y_u4 M_u4 e_u4 hM_u4
      exact sm_rI e_u4 hM_u4
    · refine sm_gr hM_h (d := 238) rfl ?_
      refine sm_gr hM_h (d := 161) rfl ?_
      refine sm_ai hM_h rfl e_l1 ?_; intro v7 y_v7 e_v7
      refine sm_si hM_h rfl e_l1 e_v7 ?_; intro h8 hM_h8
      refine sm_oq_add e_l1 rfl ?_; intro v9 y_v9 e_v9
      exact ih e_v9 hM_h8
set_option maxRecDepth 4000 in
theorem sf_X13_load (nn : Nat) {h : ms_M} (hM_h : Rg_M h) : Sm_ RI_ (f_X13_load nn 160 (H_M h)) (qf_X13_load nn h) := by
  unfold f_X13_load qf_X13_load
  refine sm_gi hM_h rfl ?_; intro v11 e_v11
  refine sm_pv hM_h rfl e_v11 ?_; intro h12 hM_h12
  exact sw_X13_load_10 nn nn rfl hM_h12
set_option maxRecDepth 4000 in
theorem sj_X13_look_252 (nn : Nat) {h : ms_M} (hM_h : Rg_M h) : Sm_ (RP_ h) (j_X13_look_252 nn (H_M h)) (qj_X13_look_252 nn h) := by
  unfold j_X13_look_252 qj_X13_look_252
  exact sm_rP rfl
set_option maxRecDepth 4000 in
theorem sj_X13_look_93 (nn : Nat) {h : ms_M} (hM_h : Rg_M h) : Sm_ (RP_ h) (j_X13_look_93 nn 160 (H_M h)) (qj_X13_look_93 nn h) := by
  unfold j_X13_look_93 qj_X13_look_93
  refine sm_gi hM_h rfl ?_; intro v1 e_v1
  exact sm_rP e_v1
set_option maxRecDepth 4000 in
theorem sf_X13_look (nn : Nat) {a1 : Int32} {y_a1 : Int} (e_a1 : a1.toInt = y_a1) {h : ms_M} (hM_h : Rg_M h) : Sm_ (RP_ h) (f_X13_look nn 160 a1 (H_M h)) (qf_X13_look nn y_a1 h) := by
  unfold f_X13_look qf_X13_look
  refine sm_eq e_a1 rfl ?_ ?_
  · refine sm_gi hM_h rfl ?_; intro v2 e_v2
    exact sm_rP e_v2
  · refine sm_eq e_a1 rfl ?_ ?_
    · refine sm_gi hM_h rfl ?_; intro v3 e_v3
      refine sm_eq e_v3 rfl ?_ ?_
      · exact sj_X13_look_93 nn hM_h
      · refine sm_gi hM_h rfl ?_; intro v4 e_v4
        refine sm_ne e_v4 rfl ?_ ?_
        · exact sm_rP rfl
        · exact sj_X13_look_93 nn hM_h
    · refine sm_eq e_a1 rfl ?_ ?_
      · refine sm_gi hM_h rfl ?_; intro v7 e_v7
        refine sm_ne e_v7 rfl ?_ ?_
        · refine sm_gi hM_h rfl ?_; intro v8 e_v8
          exact sm_rP e_v8
        · exact sm_rP rfl
      · refine sm_eq e_a1 rfl ?_ ?_
        · refine sm_gi hM_h rfl ?_; intro v10 e_v10
          refine sm_ne e_v10 rfl ?_ ?_
          · refine sm_gi hM_h rfl ?_; intro v11 e_v11
            exact sm_rP e_v11
          · exact sm_rP rfl
        · refine sm_eq e_a1 rfl ?_ ?_
          · refine sm_gi hM_h rfl ?_; intro v13 e_v13
            refine sm_ne e_v13 rfl ?_ ?_
            · refine sm_gi hM_h rfl ?_; intro v14 e_v14
              exact sm_rP e_v14
            · exact sm_rP rfl
          · refine sm_eq e_a1 rfl ?_ ?_
            · refine sm_gi hM_h rfl ?_; intro v16 e_v16
              refine sm_ne e_v16 rfl ?_ ?_
              · refine sm_gi hM_h rfl ?_; intro v17 e_v17
                exact sm_rP e_v17
              · exact sm_rP rfl
            · refine sm_eq e_a1 rfl ?_ ?_
              · refine sm_gi hM_h rfl ?_; intro v19 e_v19
                refine sm_ne e_v19 rfl ?_ ?_
                · refine sm_gi hM_h rfl ?_; intro v20 e_v20
                  exact sm_rP e_v20
                · exact sm_rP rfl
              · refine sm_eq e_a1 rfl ?_ ?_
                · refine sm_gi hM_h rfl ?_; intro v22 e_v22
                  refine sm_ne e_v22 rfl ?_ ?_
                  · exact sm_rP rfl
                  · refine sm_gr hM_h (d := 251) rfl ?_
                    refine sm_gi hM_h rfl ?_; intro v24 e_v24
                    refine sm_oq_sub e_v24 rfl ?_; intro v25 y_v25 e_v25
                    refine sm_ai hM_h rfl e_v25 ?_; intro v26 y_v26 e_v26
                    exact sm_rP e_v26
                · refine sm_eq e_a1 rfl ?_ ?_
                  · refine sm_gi hM_h rfl ?_; intro v28 e_v28
                    refine sm_ne e_v28 rfl ?_ ?_
                    · exact sm_rP rfl
                    · refine sm_gr hM_h (d := 252) rfl ?_
                      refine sm_gi hM_h rfl ?_; intro v30 e_v30
                      refine sm_oq_sub e_v30 rfl ?_; intro v31 y_v31 e_v31
                      refine sm_ai hM_h rfl e_v31 ?_; intro v32 y_v32 e_v32
                      exact sm_rP e_v32
                  · refine sm_eq e_a1 rfl ?_ ?_
                    · refine sm_gi hM_h rfl ?_; intro v34 e_v34
                      refine sm_ne e_v34 rfl ?_ ?_
                      · exact sj_X13_look_252 nn hM_h
                      · refine sm_gr hM_h (d := 253) rfl ?_
                        refine sm_gi hM_h rfl ?_; intro v36 e_v36
                        refine sm_oq_sub e_v36 rfl ?_; intro v37 y_v37 e_v37
                        refine sm_ai hM_h rfl e_v37 ?_; intro v38 y_v38 e_v38
                        exact sm_rP e_v38
                    · refine sm_eq e_a1 rfl ?_ ?_
                      · refine sm_gi hM_h rfl ?_; intro v40 e_v40
                        refine sm_ne e_v40 rfl ?_ ?_
                        · exact sm_rP rfl
                        · refine sm_gr hM_h (d := 254) rfl ?_
                          refine sm_gi hM_h rfl ?_; intro v42 e_v42
                          refine sm_oq_sub e_v42 rfl ?_; intro v43 y_v43 e_v43
                          refine sm_ai hM_h rfl e_v43 ?_; intro v44 y_v44 e_v44
                          exact sm_rP e_v44
                      · refine sm_eq e_a1 rfl ?_ ?_
                        · refine sm_gi hM_h rfl ?_; intro v46 e_v46
                          exact sm_rP e_v46
                        · refine sm_eq e_a1 rfl ?_ ?_
                          · refine sm_gi hM_h rfl ?_; intro v47 e_v47
                            refine sm_eq e_v47 rfl ?_ ?_
                            · exact sm_rP rfl
                            · exact sm_rP rfl
                          · refine sm_eq e_a1 rfl ?_ ?_
                            · refine sm_gi hM_h rfl ?_; intro v49 e_v49
                              exact sm_rP e_v49
                            · exact sm_rP rfl
set_option maxRecDepth 4000 in
theorem sf_X13_out (nn : Nat) {a1 : Int32} {y_a1 : Int} (e_a1 : a1.toInt = y_a1) {h : ms_M} (hM_h : Rg_M h) : Sm_ (RP_ h) (f_X13_out nn 160 a1 (H_M h)) (qf_X13_out nn y_a1 h) := by
  unfold f_X13_out qf_X13_out
  refine sm_gi hM_h rfl ?_; intro v1 e_v1
  refine sm_le e_v1 rfl ?_ ?_
  · exact sm_rP rfl
  · refine sm_lt e_a1 rfl ?_ ?_
    · exact sm_rP rfl
    · refine sm_gi hM_h rfl ?_; intro v2 e_v2
      refine sm_le e_v2 e_a1 ?_ ?_
      · exact sm_rP rfl
      · refine sm_le rfl e_a1 ?_ ?_
        · exact sm_rP rfl
        · refine sm_gr hM_h (d := 250) rfl ?_
          refine sm_ai hM_h rfl e_a1 ?_; intro v4 y_v4 e_v4
          exact sm_rP e_v4
set_option maxRecDepth 4000 in
theorem sj_X13_patch_235 (nn : Nat) {l4 : Int32} {y_l4 : Int} (e_l4 : l4.toInt = y_l4) {l5 : Int32} {y_l5 : Int} (e_l5 : l5.toInt = y_l5) {h : ms_M} (hM_h : Rg_M h) : Sm_ RI_ (j_X13_patch_235 nn 160 l4 l5 (H_M h)) (qj_X13_patch_235 nn y_l4 y_l5 h) := by
  unfold j_X13_patch_235 qj_X13_patch_235
  refine sm_ne e_l5 rfl ?_ ?_
  · refine sm_is hM_h rfl ?_
    refine sm_cI (sf_X13_install nn e_l4 hM_h) ?_; intro u2 y_u2 M_u2 e_u2 hM_u2
    refine sm_pv hM_u2 rfl rfl ?_; intro h3 hM_h3
    refine sm_pv hM_h3 rfl rfl ?_; intro h4 hM_h4
    exact sm_rI rfl hM_h4
  · refine sm_is hM_h rfl ?_
    refine sm_cV (sf_X13_again nn e_l4 hM_h) ?_; intro u6 hM_u6
    exact sm_rI rfl hM_u6
set_option maxRecDepth 4000 in
theorem sj_X13_patch_222 (nn : Nat) {kk_173 : Nat → Int32 → Int32 → Int32 → Int32 → Int32 → mx_H → Option (Int32 × mx_H)} {qkk_173 : Int → Int → Int → Int → Int → ms_M → Option (Int × ms_M)} (hk_kk_173 : ∀ {l1 : Int32} {y_l1 : Int} (e_l1 : l1.toInt = y_l1) {l4 : Int32} {y_l4 : Int} (e_l4 : l4.toInt = y_l4) {l5 : Int32} {y_l5 : Int} (e_l5 : l5.toInt = y_l5) {l6 : Int32} {y_l6 : Int} (e_l6 : l6.toInt = y_l6) {l7 : Int32} {y_l7 : Int} (e_l7 : l7.toInt = y_l7) {h : ms_M} (hM_h : Rg_M h), Sm_ RI_ (kk_173 160 l1 l4 l5 l6 l7 (H_M h)) (qkk_173 y_l1 y_l4 y_l5 y_l6 y_l7 h)) {l1 : Int32} {y_l1 : Int} (e_l1 : l1.toInt = y_l1) {l4 : Int32} {y_l4 : Int} (e_l4 : l4.toInt = y_l4) {l6 : Int32} {y_l6 : Int} (e_l6 : l6.toInt = y_l6) {l7 : Int32} {y_l7 : Int} (e_l7 : l7.toInt = y_l7) {h : ms_M} (hM_h : Rg_M h) : Sm_ RI_ (j_X13_patch_222 nn kk_173 160 l1 l4 l6 l7 (H_M h)) (qj_X13_patch_222 nn qkk_173 y_l1 y_l4 y_l6 y_l7 h) := by
  unfold j_X13_patch_222 qj_X13_patch_222
  refine sm_oq_add e_l7 rfl ?_; intro v8 y_v8 e_v8
  exact hk_kk_173 e_l1 e_l4 rfl e_l6 e_v8 hM_h
set_option maxRecDepth 4000 in
theorem sw_X13_patch_173 (nn : Nat) : ∀ (k : Nat) {l1 : Int32} {y_l1 : Int} (e_l1 : l1.toInt = y_l1) {l4 : Int32} {y_l4 : Int} (e_l4 : l4.toInt = y_l4) {l5 : Int32} {y_l5 : Int} (e_l5 : l5.toInt = y_l5) {l6 : Int32} {y_l6 : Int} (e_l6 : l6.toInt = y_l6) {l7 : Int32} {y_l7 : Int} (e_l7 : l7.toInt = y_l7) {h : ms_M} (hM_h : Rg_M h), Sm_ RI_ (w_X13_patch_173 nn k 160 l1 l4 l5 l6 l7 (H_M h)) (qw_X13_patch_173 nn k y_l1 y_l4 y_l5 y_l6 y_l7 h) := by
  intro k
  induction k with
  | zero => intros; exact sm_no
  | succ k ih =>
    intro l1 y_l1 e_l1 l4 y_l4 e_l4 l5 y_l5 e_l5 l6 y_l6 e_l6 l7 y_l7 e_l7 h hM_h
    unfold w_X13_patch_173 qw_X13_patch_173
    refine sm_gi hM_h rfl ?_; intro v9 e_v9
    refine sm_oq_add rfl e_v9 ?_; intro v10 y_v10 e_v10
    refine sm_le e_v10 e_l7 ?_ ?_
    · exact sj_X13_patch_235 nn e_l4 e_l5 hM_h
    · refine sm_eq e_l5 rfl ?_ ?_
      · exact sj_X13_patch_235 nn e_l4 e_l5 hM_h
      · refine sm_eq e_l7 e_l1 ?_ ?_
        · exact sj_X13_patch_222 nn ih e_l1 e_l4 e_l6 e_l7 hM_h
        · refine sm_gr hM_h (d := 238) rfl ?_
          refine sm_oq_add e_l6 rfl ?_; intro v12 y_v12 e_v12
          refine sm_gr hM_h (d := 238) rfl ?_
          refine sm_oq_add e_l6 rfl ?_; intro v14 y_v14 e_v14
          refine sm_ai hM_h rfl e_v14 ?_; intro v15 y_v15 e_v15
          refine sm_is hM_h rfl ?_
          refine sm_cP (sf_X13_isNamed nn e_l7 _ e_v12 e_v15 hM_h) ?_; intro u17 y_u17 e_u17
          refine sm_ne e_u17 rfl ?_ ?_
          · refine sm_oq_add e_l7 rfl ?_; intro v18 y_v18 e_v18
            exact ih e_l1 e_l4 rfl e_l6 e_v18 hM_h
          · exact sj_X13_patch_222 nn ih e_l1 e_l4 e_l6 e_l7 hM_h
set_option maxRecDepth 4000 in
theorem sj_X13_patch_123 (nn : Nat) {l1 : Int32} {y_l1 : Int} (e_l1 : l1.toInt = y_l1) {l4 : Int32} {y_l4 : Int} (e_l4 : l4.toInt = y_l4) {s0 : Int32} {y_s0 : Int} (e_s0 : s0.toInt = y_s0) {h : ms_M} (hM_h : Rg_M h) : Sm_ RI_ (j_X13_patch_123 nn 160 l1 l4 s0 (H_M h)) (qj_X13_patch_123 nn y_l1 y_l4 y_s0 h) := by
  unfold j_X13_patch_123 qj_X13_patch_123
  refine sm_eq e_s0 rfl ?_ ?_
  · exact sj_X13_patch_235 nn e_l4 e_s0 hM_h
  · refine sm_gr hM_h (d := 228) rfl ?_
    refine sm_oq_mul rfl e_l4 ?_; intro v24 y_v24 e_v24
    refine sm_gr hM_h (d := 238) rfl ?_
    refine sm_gr hM_h (d := 228) rfl ?_
    refine sm_oq_mul rfl e_l4 ?_; intro v27 y_v27 e_v27
    refine sm_gr hM_h (d := 230) rfl ?_
    refine sm_ai hM_h rfl e_l4 ?_; intro v29 y_v29 e_v29
    refine sm_oq_add e_v27 e_v29 ?_; intro v30 y_v30 e_v30
    refine sm_ai hM_h rfl e_v30 ?_; intro v31 y_v31 e_v31
    refine sm_oq_add e_v31 rfl ?_; intro v32 y_v32 e_v32
    refine sm_ai hM_h rfl e_v32 ?_; intro v33 y_v33 e_v33
    refine sm_oq_add e_v24 e_v33 ?_; intro v34 y_v34 e_v34
    refine sm_ai hM_h rfl e_v34 ?_; intro v35 y_v35 e_v35
    exact sw_X13_patch_173 nn nn e_l1 e_l4 e_s0 e_v35 rfl hM_h
set_option maxRecDepth 4000 in
theorem sw_X13_patch_51 (nn : Nat) : ∀ (k : Nat) {l1 : Int32} {y_l1 : Int} (e_l1 : l1.toInt = y_l1) {l2 : Int32} {y_l2 : Int} (e_l2 : l2.toInt = y_l2) {l3 : Int32} {y_l3 : Int} (e_l3 : l3.toInt = y_l3) {l4 : Int32} {y_l4 : Int} (e_l4 : l4.toInt = y_l4) {l5 : Int32} {y_l5 : Int} (e_l5 : l5.toInt = y_l5) {h : ms_M} (hM_h : Rg_M h), Sm_ RI_ (w_X13_patch_51 nn k 160 l1 l2 l3 l4 l5 (H_M h)) (qw_X13_patch_51 nn k y_l1 y_l2 y_l3 y_l4 y_l5 h) := by
  intro k
  induction k with
  | zero => intros; exact sm_no
  | succ k ih =>
    intro l1 y_l1 e_l1 l2 y_l2 e_l2 l3 y_l3 e_l3 l4 y_l4 e_l4 l5 y_l5 e_l5 h hM_h
    unfold w_X13_patch_51 qw_X13_patch_51
    refine sm_gi hM_h rfl ?_; intro v37 e_v37
    refine sm_le e_v37 e_l5 ?_ ?_
    · refine sm_gr hM_h (d := 238) rfl ?_
      refine sm_oq_and e_l3 rfl ?_; intro v39 y_v39 e_v39
      refine sm_si hM_h rfl e_l2 e_v39 ?_; intro h40 hM_h40
      refine sm_is hM_h40 rfl ?_
      refine sm_cV (sf_X13_aside nn e_l4 hM_h40) ?_; intro u42 hM_u42
      refine sm_is hM_u42 rfl ?_
      refine sm_cV (sf_X13_scan nn e_l4 hM_u42) ?_; intro u44 hM_u44
      refine sm_gi hM_u44 rfl ?_; intro v45 e_v45
      refine sm_ne e_v45 rfl ?_ ?_
      · exact sj_X13_patch_123 nn e_l1 e_l4 rfl hM_u44
      · exact sj_X13_patch_123 nn e_l1 e_l4 rfl hM_u44
    · refine sm_gr hM_h (d := 238) rfl ?_
      refine sm_gr hM_h (d := 226) rfl ?_
      refine sm_oq_mul rfl e_l4 ?_; intro v49 y_v49 e_v49
      refine sm_oq_add e_v49 e_l5 ?_; intro v50 y_v50 e_v50
      refine sm_ai hM_h rfl e_v50 ?_; intro v51 y_v51 e_v51
      refine sm_si hM_h rfl e_l5 e_v51 ?_; intro h52 hM_h52
      refine sm_oq_add e_l5 rfl ?_; intro v53 y_v53 e_v53
      exact ih e_l1 e_l2 e_l3 e_l4 e_v53 hM_h52
set_option maxRecDepth 4000 in
theorem sf_X13_patch (nn : Nat) {a1 : Int32} {y_a1 : Int} (e_a1 : a1.toInt = y_a1) {a2 : Int32} {y_a2 : Int} (e_a2 : a2.toInt = y_a2) {a3 : Int32} {y_a3 : Int} (e_a3 : a3.toInt = y_a3) {h : ms_M} (hM_h : Rg_M h) : Sm_ RI_ (f_X13_patch nn 160 a1 a2 a3 (H_M h)) (qf_X13_patch nn y_a1 y_a2 y_a3 h) := by
  unfold f_X13_patch qf_X13_patch
  refine sm_oq_sub e_a1 rfl ?_; intro v55 y_v55 e_v55
  refine sm_lt e_v55 rfl ?_ ?_
  · exact sm_rI rfl hM_h
  · refine sm_gi hM_h rfl ?_; intro v56 e_v56
    refine sm_le e_v56 e_v55 ?_ ?_
    · exact sm_rI rfl hM_h
    · refine sm_lt e_a2 rfl ?_ ?_
      · exact sm_rI rfl hM_h
      · refine sm_gr hM_h (d := 227) rfl ?_
        refine sm_ai hM_h rfl e_v55 ?_; intro v58 y_v58 e_v58
        refine sm_lt e_a2 e_v58 ?_ ?_
        · refine sm_gr hM_h (d := 227) rfl ?_
          refine sm_ai hM_h rfl e_v55 ?_; intro v60 y_v60 e_v60
          refine sm_pv hM_h rfl e_v60 ?_; intro h61 hM_h61
          exact sw_X13_patch_51 nn nn e_a1 e_a2 e_a3 e_v55 rfl hM_h61
        · exact sm_rI rfl hM_h
set_option maxRecDepth 4000 in
theorem sf_X13_drop (nn : Nat) {h : ms_M} (hM_h : Rg_M h) : Sm_ RI_ (f_X13_drop nn 160 (H_M h)) (qf_X13_drop nn h) := by
  unfold f_X13_drop qf_X13_drop
  refine sm_gi hM_h rfl ?_; intro v1 e_v1
  refine sm_oq_sub e_v1 rfl ?_; intro v2 y_v2 e_v2
  refine sm_gr hM_h (d := 254) rfl ?_
  refine sm_ai hM_h rfl e_v2 ?_; intro v4 y_v4 e_v4
  refine sm_oq_sub e_v4 rfl ?_; intro v5 y_v5 e_v5
  refine sm_si hM_h rfl e_v2 e_v5 ?_; intro h6 hM_h6
  refine sm_gr hM_h6 (d := 255) rfl ?_
  refine sm_oq_mul rfl e_v2 ?_; intro v8 y_v8 e_v8
  refine sm_oq_add e_v8 rfl ?_; intro v9 y_v9 e_v9
  refine sm_gr hM_h6 (d := 254) rfl ?_
  refine sm_ai hM_h6 rfl e_v2 ?_; intro v11 y_v11 e_v11
  refine sm_oq_add e_v9 e_v11 ?_; intro v12 y_v12 e_v12
  refine sm_ai hM_h6 rfl e_v12 ?_; intro v13 y_v13 e_v13
  exact sm_rI e_v13 hM_h6
set_option maxRecDepth 4000 in
theorem sf_X13_give (nn : Nat) {a1 : Int32} {y_a1 : Int} (e_a1 : a1.toInt = y_a1) {h : ms_M} (hM_h : Rg_M h) : Sm_ RV_ (f_X13_give nn 160 a1 (H_M h)) (qf_X13_give nn y_a1 h) := by
  unfold f_X13_give qf_X13_give
  refine sm_gi hM_h rfl ?_; intro v1 e_v1
  refine sm_oq_sub e_v1 rfl ?_; intro v2 y_v2 e_v2
  refine sm_gr hM_h (d := 255) rfl ?_
  refine sm_oq_mul rfl e_v2 ?_; intro v4 y_v4 e_v4
  refine sm_oq_add e_v4 rfl ?_; intro v5 y_v5 e_v5
  refine sm_gr hM_h (d := 254) rfl ?_
  refine sm_ai hM_h rfl e_v2 ?_; intro v7 y_v7 e_v7
  refine sm_oq_add e_v5 e_v7 ?_; intro v8 y_v8 e_v8
  refine sm_si hM_h rfl e_v8 e_a1 ?_; intro h9 hM_h9
  refine sm_gr hM_h9 (d := 254) rfl ?_
  refine sm_ai hM_h9 rfl e_v2 ?_; intro v11 y_v11 e_v11
  refine sm_oq_add e_v11 rfl ?_; intro v12 y_v12 e_v12
  refine sm_si hM_h9 rfl e_v2 e_v12 ?_; intro h13 hM_h13
  exact sm_rV hM_h13
set_option maxRecDepth 4000 in
theorem sf_X13_on (nn : Nat) {a1 : Int32} {y_a1 : Int} (e_a1 : a1.toInt = y_a1) {h : ms_M} (hM_h : Rg_M h) : Sm_ RV_ (f_X13_on nn 160 a1 (H_M h)) (qf_X13_on nn y_a1 h) := by
  unfold f_X13_on qf_X13_on
  refine sm_gr hM_h (d := 253) rfl ?_
  refine sm_gi hM_h rfl ?_; intro v2 e_v2
  refine sm_oq_sub e_v2 rfl ?_; intro v3 y_v3 e_v3
  refine sm_ai hM_h rfl e_v3 ?_; intro v4 y_v4 e_v4
  refine sm_oq_add e_v4 e_a1 ?_; intro v5 y_v5 e_v5
  refine sm_si hM_h rfl e_v3 e_v5 ?_; intro h6 hM_h6
  exact sm_rV hM_h6
set_option maxRecDepth 4000 in
theorem sf_X13_told (nn : Nat) {a1 : Int32} {y_a1 : Int} (e_a1 : a1.toInt = y_a1) {h : ms_M} (hM_h : Rg_M h) : Sm_ (RP_ h) (f_X13_told nn 160 a1 (H_M h)) (qf_X13_told nn y_a1 h) := by
  unfold f_X13_told qf_X13_told
  refine sm_gr hM_h (d := 246) rfl ?_
  refine sm_ai hM_h rfl e_a1 ?_; intro v2 y_v2 e_v2
  refine sm_ne e_v2 rfl ?_ ?_
  · refine sm_gr hM_h (d := 246) rfl ?_
    refine sm_ai hM_h rfl e_a1 ?_; intro v4 y_v4 e_v4
    exact sm_rP e_v4
  · exact sm_rP rfl
set_option maxRecDepth 4000 in
theorem sj_X13_back_45 (nn : Nat) {h : ms_M} (hM_h : Rg_M h) : Sm_ RV_ (j_X13_back_45 nn 160 (H_M h)) (qj_X13_back_45 nn h) := by
  unfold j_X13_back_45 qj_X13_back_45
  refine sm_is hM_h rfl ?_
  refine sm_cV (sf_X13_on nn rfl hM_h) ?_; intro u2 hM_u2
  exact sm_rV hM_u2
set_option maxRecDepth 4000 in
theorem sj_X13_back_15 (nn : Nat) {l1 : Int32} {y_l1 : Int} (e_l1 : l1.toInt = y_l1) {s0 : Int32} {y_s0 : Int} (e_s0 : s0.toInt = y_s0) {h : ms_M} (hM_h : Rg_M h) : Sm_ RV_ (j_X13_back_15 nn 160 l1 s0 (H_M h)) (qj_X13_back_15 nn y_l1 y_s0 h) := by
  unfold j_X13_back_15 qj_X13_back_15
  refine sm_gi hM_h rfl ?_; intro v3 e_v3
  refine sm_oq_sub e_v3 rfl ?_; intro v4 y_v4 e_v4
  refine sm_pv hM_h rfl e_v4 ?_; intro h5 hM_h5
  refine sm_gi hM_h5 rfl ?_; intro v6 e_v6
  refine sm_le e_v6 rfl ?_ ?_
  · refine sm_pv hM_h5 rfl rfl ?_; intro h7 hM_h7
    refine sm_ne e_l1 rfl ?_ ?_
    · refine sm_ne e_l1 rfl ?_ ?_
      · exact sm_rV hM_h7
      · refine sm_eq e_s0 rfl ?_ ?_
        · exact sm_rV hM_h7
        · refine sm_is hM_h7 rfl ?_
          refine sm_cP (sf_X13_told nn e_s0 hM_h7) ?_; intro u9 y_u9 e_u9
          refine sm_pv hM_h7 rfl e_u9 ?_; intro h10 hM_h10
          exact sm_rV hM_h10
    · refine sm_pv hM_h7 rfl e_s0 ?_; intro h13 hM_h13
      exact sm_rV hM_h13
  · refine sm_eq e_l1 rfl ?_ ?_
    · exact sj_X13_back_45 nn hM_h5
    · refine sm_is hM_h5 rfl ?_
      refine sm_cV (sf_X13_give nn e_s0 hM_h5) ?_; intro u16 hM_u16
      exact sj_X13_back_45 nn hM_u16
set_option maxRecDepth 4000 in
theorem sf_X13_back (nn : Nat) {a1 : Int32} {y_a1 : Int} (e_a1 : a1.toInt = y_a1) {h : ms_M} (hM_h : Rg_M h) : Sm_ RV_ (f_X13_back nn 160 a1 (H_M h)) (qf_X13_back nn y_a1 h) := by
  unfold f_X13_back qf_X13_back
  refine sm_ne e_a1 rfl ?_ ?_
  · refine sm_is hM_h rfl ?_
    refine sm_cI (sf_X13_drop nn hM_h) ?_; intro u20 y_u20 M_u20 e_u20 hM_u20
    exact sj_X13_back_15 nn e_a1 e_u20 hM_u20
  · exact sj_X13_back_15 nn e_a1 rfl hM_h
set_option maxRecDepth 4000 in
theorem sf_X13_classAtText (nn : Nat) {a1 : Int32} {y_a1 : Int} (e_a1 : a1.toInt = y_a1) {a2 : Int32} {y_a2 : Int} (e_a2 : a2.toInt = y_a2) {h : ms_M} (hM_h : Rg_M h) : Sm_ (RP_ h) (f_X13_classAtText nn 160 a1 a2 (H_M h)) (qf_X13_classAtText nn y_a1 y_a2 h) := by
  unfold f_X13_classAtText qf_X13_classAtText
  refine sm_oq_mul rfl e_a1 ?_; intro v1 y_v1 e_v1
  refine sm_gr hM_h (d := 228) rfl ?_
  refine sm_oq_mul rfl e_a1 ?_; intro v3 y_v3 e_v3
  refine sm_oq_add e_v3 e_a2 ?_; intro v4 y_v4 e_v4
  refine sm_ai hM_h rfl e_v4 ?_; intro v5 y_v5 e_v5
  refine sm_oq_add e_v1 e_v5 ?_; intro v6 y_v6 e_v6
  refine sm_gr hM_h (d := 226) rfl ?_
  refine sm_oq_add e_v6 rfl ?_; intro v8 y_v8 e_v8
  refine sm_gr hM_h (d := 226) rfl ?_
  refine sm_oq_add e_v6 rfl ?_; intro v10 y_v10 e_v10
  refine sm_ai hM_h rfl e_v10 ?_; intro v11 y_v11 e_v11
  refine sm_is hM_h rfl ?_
  refine sm_cP (sf_X13_classNamed nn _ e_v8 e_v11 hM_h) ?_; intro u13 y_u13 e_u13
  exact sm_rP e_u13
set_option maxRecDepth 4000 in
theorem sf_X13_byteAt (nn : Nat) {a1 : Int32} {y_a1 : Int} (e_a1 : a1.toInt = y_a1) {a2 : Int32} {y_a2 : Int} (e_a2 : a2.toInt = y_a2) {h : ms_M} (hM_h : Rg_M h) : Sm_ (RP_ h) (f_X13_byteAt nn 160 a1 a2 (H_M h)) (qf_X13_byteAt nn y_a1 y_a2 h) := by
  unfold f_X13_byteAt qf_X13_byteAt
  refine sm_gr hM_h (d := 226) rfl ?_
  refine sm_oq_mul rfl e_a1 ?_; intro v2 y_v2 e_v2
  refine sm_oq_add e_v2 e_a2 ?_; intro v3 y_v3 e_v3
  refine sm_ai hM_h rfl e_v3 ?_; intro v4 y_v4 e_v4
  exact sm_rP e_v4
set_option maxRecDepth 4000 in
theorem sf_X13_textOfClass (nn : Nat) {a1 : Int32} {y_a1 : Int} (e_a1 : a1.toInt = y_a1) {a2 : Int32} {y_a2 : Int} (e_a2 : a2.toInt = y_a2) {h : ms_M} (hM_h : Rg_M h) : Sm_ (RP_ h) (f_X13_textOfClass nn 160 a1 a2 (H_M h)) (qf_X13_textOfClass nn y_a1 y_a2 h) := by
  unfold f_X13_textOfClass qf_X13_textOfClass
  refine sm_gr hM_h (d := 228) rfl ?_
  refine sm_oq_mul rfl e_a1 ?_; intro v2 y_v2 e_v2
  refine sm_oq_add e_v2 e_a2 ?_; intro v3 y_v3 e_v3
  refine sm_ai hM_h rfl e_v3 ?_; intro v4 y_v4 e_v4
  refine sm_oq_add e_v4 rfl ?_; intro v5 y_v5 e_v5
  refine sm_is hM_h rfl ?_
  refine sm_cP (sf_X13_byteAt nn e_a1 e_v5 hM_h) ?_; intro u7 y_u7 e_u7
  exact sm_rP e_u7
set_option maxRecDepth 4000 in
theorem sf_X13_classIn (nn : Nat) {a1 : Int32} {y_a1 : Int} (e_a1 : a1.toInt = y_a1) {h : ms_M} (hM_h : Rg_M h) : Sm_ (RP_ h) (f_X13_classIn nn 160 a1 (H_M h)) (qf_X13_classIn nn y_a1 h) := by
  unfold f_X13_classIn qf_X13_classIn
  refine sm_gr hM_h (d := 251) rfl ?_
  refine sm_gi hM_h rfl ?_; intro v2 e_v2
  refine sm_oq_sub e_v2 rfl ?_; intro v3 y_v3 e_v3
  refine sm_ai hM_h rfl e_v3 ?_; intro v4 y_v4 e_v4
  refine sm_oq_sub e_v4 rfl ?_; intro v5 y_v5 e_v5
  refine sm_is hM_h rfl ?_
  refine sm_cP (sf_X13_textOfClass nn e_v5 e_a1 hM_h) ?_; intro u7 y_u7 e_u7
  refine sm_is hM_h rfl ?_
  refine sm_cP (sf_X13_classAtText nn e_v5 e_u7 hM_h) ?_; intro u9 y_u9 e_u9
  exact sm_rP e_u9
set_option maxRecDepth 4000 in
theorem sw_X13_enter_42 (nn : Nat) : ∀ (k : Nat) {l3 : Int32} {y_l3 : Int} (e_l3 : l3.toInt = y_l3) {h : ms_M} (hM_h : Rg_M h), Sm_ RV_ (w_X13_enter_42 nn k 160 l3 (H_M h)) (qw_X13_enter_42 nn k y_l3 h) := by
  intro k
  induction k with
  | zero => intros; exact sm_no
  | succ k ih =>
    intro l3 y_l3 e_l3 h hM_h
    unfold w_X13_enter_42 qw_X13_enter_42
    refine sm_le rfl e_l3 ?_ ?_
    · refine sm_gi hM_h rfl ?_; intro v1 e_v1
      refine sm_oq_add e_v1 rfl ?_; intro v2 y_v2 e_v2
      refine sm_pv hM_h rfl e_v2 ?_; intro h3 hM_h3
      exact sm_rV hM_h3
    · refine sm_gr hM_h (d := 255) rfl ?_
      refine sm_gi hM_h rfl ?_; intro v5 e_v5
      refine sm_oq_mul rfl e_v5 ?_; intro v6 y_v6 e_v6
      refine sm_oq_add e_v6 e_l3 ?_; intro v7 y_v7 e_v7
      refine sm_si hM_h rfl e_v7 rfl ?_; intro h8 hM_h8
      refine sm_oq_add e_l3 rfl ?_; intro v9 y_v9 e_v9
      exact ih e_v9 hM_h8
set_option maxRecDepth 4000 in
theorem sf_X13_enter (nn : Nat) {a1 : Int32} {y_a1 : Int} (e_a1 : a1.toInt = y_a1) {a2 : Int32} {y_a2 : Int} (e_a2 : a2.toInt = y_a2) {h : ms_M} (hM_h : Rg_M h) : Sm_ RV_ (f_X13_enter nn 160 a1 a2 (H_M h)) (qf_X13_enter nn y_a1 y_a2 h) := by
  unfold f_X13_enter qf_X13_enter
  refine sm_gr hM_h (d := 251) rfl ?_
  refine sm_gi hM_h rfl ?_; intro v12 e_v12
  refine sm_si hM_h rfl e_v12 e_a1 ?_; intro h13 hM_h13
  refine sm_gr hM_h13 (d := 252) rfl ?_
  refine sm_gi hM_h13 rfl ?_; intro v15 e_v15
  refine sm_si hM_h13 rfl e_v15 e_a2 ?_; intro h16 hM_h16
  refine sm_gr hM_h16 (d := 253) rfl ?_
  refine sm_gi hM_h16 rfl ?_; intro v18 e_v18
  refine sm_si hM_h16 rfl e_v18 rfl ?_; intro h19 hM_h19
  refine sm_gr hM_h19 (d := 254) rfl ?_
  refine sm_gi hM_h19 rfl ?_; intro v21 e_v21
  refine sm_si hM_h19 rfl e_v21 rfl ?_; intro h22 hM_h22
  exact sw_X13_enter_42 nn nn rfl hM_h22
set_option maxRecDepth 4000 in
theorem sw_X13_make__74 (nn : Nat) : ∀ (k : Nat) {l2 : Int32} {y_l2 : Int} (e_l2 : l2.toInt = y_l2) {l3 : Int32} {y_l3 : Int} (e_l3 : l3.toInt = y_l3) {h : ms_M} (hM_h : Rg_M h), Sm_ RI_ (w_X13_make__74 nn k 160 l2 l3 (H_M h)) (qw_X13_make__74 nn k y_l2 y_l3 h) := by
  intro k
  induction k with
  | zero => intros; exact sm_no
  | succ k ih =>
    intro l2 y_l2 e_l2 l3 y_l3 e_l3 h hM_h
    unfold w_X13_make__74 qw_X13_make__74
    refine sm_le e_l2 e_l3 ?_ ?_
    · refine sm_gi hM_h rfl ?_; intro v1 e_v1
      refine sm_oq_add e_v1 e_l2 ?_; intro v2 y_v2 e_v2
      refine sm_pv hM_h rfl e_v2 ?_; intro h3 hM_h3
      refine sm_gi hM_h3 rfl ?_; intro v4 e_v4
      exact sm_rI e_v4 hM_h3
    · refine sm_gr hM_h (d := 249) rfl ?_
      refine sm_gi hM_h rfl ?_; intro v6 e_v6
      refine sm_oq_add e_v6 e_l3 ?_; intro v7 y_v7 e_v7
      refine sm_si hM_h rfl e_v7 rfl ?_; intro h8 hM_h8
      refine sm_oq_add e_l3 rfl ?_; intro v9 y_v9 e_v9
      exact ih e_l2 e_v9 hM_h8
set_option maxRecDepth 4000 in
theorem sj_X13_make__22 (nn : Nat) {h : ms_M} (hM_h : Rg_M h) : Sm_ RI_ (j_X13_make__22 nn 160 (H_M h)) (qj_X13_make__22 nn h) := by
  unfold j_X13_make__22 qj_X13_make__22
  refine sm_pv hM_h rfl rfl ?_; intro h11 hM_h11
  exact sm_rI rfl hM_h11
set_option maxRecDepth 4000 in
theorem sf_X13_make_ (nn : Nat) {a1 : Int32} {y_a1 : Int} (e_a1 : a1.toInt = y_a1) {a2 : Int32} {y_a2 : Int} (e_a2 : a2.toInt = y_a2) {h : ms_M} (hM_h : Rg_M h) : Sm_ RI_ (f_X13_make_ nn 160 a1 a2 (H_M h)) (qf_X13_make_ nn y_a1 y_a2 h) := by
  unfold f_X13_make_ qf_X13_make_
  refine sm_gi hM_h rfl ?_; intro v12 e_v12
  refine sm_eq e_v12 rfl ?_ ?_
  · exact sj_X13_make__22 nn hM_h
  · refine sm_gi hM_h rfl ?_; intro v13 e_v13
    refine sm_oq_sub rfl e_v13 ?_; intro v14 y_v14 e_v14
    refine sm_le e_a2 e_v14 ?_ ?_
    · refine sm_gi hM_h rfl ?_; intro v15 e_v15
      refine sm_oq_add e_v15 rfl ?_; intro v16 y_v16 e_v16
      refine sm_pv hM_h rfl e_v16 ?_; intro h17 hM_h17
      refine sm_gr hM_h17 (d := 246) rfl ?_
      refine sm_gi hM_h17 rfl ?_; intro v19 e_v19
      refine sm_si hM_h17 rfl e_v19 e_a1 ?_; intro h20 hM_h20
      refine sm_gr hM_h20 (d := 247) rfl ?_
      refine sm_gi hM_h20 rfl ?_; intro v22 e_v22
      refine sm_gi hM_h20 rfl ?_; intro v23 e_v23
      refine sm_si hM_h20 rfl e_v22 e_v23 ?_; intro h24 hM_h24
      refine sm_gr hM_h24 (d := 248) rfl ?_
      refine sm_gi hM_h24 rfl ?_; intro v26 e_v26
      refine sm_si hM_h24 rfl e_v26 e_a2 ?_; intro h27 hM_h27
      exact sw_X13_make__74 nn nn e_a2 rfl hM_h27
    · exact sj_X13_make__22 nn hM_h
set_option maxRecDepth 4000 in
theorem sf_X13_superOf (nn : Nat) {a1 : Int32} {y_a1 : Int} (e_a1 : a1.toInt = y_a1) {h : ms_M} (hM_h : Rg_M h) : Sm_ (RP_ h) (f_X13_superOf nn 160 a1 (H_M h)) (qf_X13_superOf nn y_a1 h) := by
  unfold f_X13_superOf qf_X13_superOf
  refine sm_le rfl e_a1 ?_ ?_
  · refine sm_oq_sub e_a1 rfl ?_; intro v1 y_v1 e_v1
    refine sm_oq_sub e_a1 rfl ?_; intro v2 y_v2 e_v2
    refine sm_gr hM_h (d := 231) rfl ?_
    refine sm_oq_sub e_a1 rfl ?_; intro v4 y_v4 e_v4
    refine sm_ai hM_h rfl e_v4 ?_; intro v5 y_v5 e_v5
    refine sm_is hM_h rfl ?_
    refine sm_cP (sf_X13_textOfClass nn e_v2 e_v5 hM_h) ?_; intro u7 y_u7 e_u7
    refine sm_is hM_h rfl ?_
    refine sm_cP (sf_X13_classAtText nn e_v1 e_u7 hM_h) ?_; intro u9 y_u9 e_u9
    exact sm_rP e_u9
  · refine sm_ne e_a1 rfl ?_ ?_
    · refine sm_ne e_a1 rfl ?_ ?_
      · exact sm_rP rfl
      · exact sm_rP rfl
    · exact sm_rP rfl
set_option maxRecDepth 4000 in
theorem sw_X13_isUnder_5 (nn : Nat) : ∀ (k : Nat) {l2 : Int32} {y_l2 : Int} (e_l2 : l2.toInt = y_l2) {l3 : Int32} {y_l3 : Int} (e_l3 : l3.toInt = y_l3) {l4 : Int32} {y_l4 : Int} (e_l4 : l4.toInt = y_l4) {h : ms_M} (hM_h : Rg_M h), Sm_ (RP_ h) (w_X13_isUnder_5 nn k 160 l2 l3 l4 (H_M h)) (qw_X13_isUnder_5 nn k y_l2 y_l3 y_l4 h) := by
  intro k
  induction k with
  | zero => intros; exact sm_no
  | succ k ih =>
    intro l2 y_l2 e_l2 l3 y_l3 e_l3 l4 y_l4 e_l4 h hM_h
    unfold w_X13_isUnder_5 qw_X13_isUnder_5
    refine sm_lt rfl e_l4 ?_ ?_
    · exact sm_rP rfl
    · refine sm_eq e_l3 rfl ?_ ?_
      · exact sm_rP rfl
      · refine sm_ne e_l3 e_l2 ?_ ?_
        · refine sm_is hM_h rfl ?_
          refine sm_cP (sf_X13_superOf nn e_l3 hM_h) ?_; intro u2 y_u2 e_u2
          refine sm_oq_add e_l4 rfl ?_; intro v3 y_v3 e_v3
          exact ih e_l2 e_u2 e_v3 hM_h
        · exact sm_rP rfl
set_option maxRecDepth 4000 in
theorem sf_X13_isUnder (nn : Nat) {a1 : Int32} {y_a1 : Int} (e_a1 : a1.toInt = y_a1) {a2 : Int32} {y_a2 : Int} (e_a2 : a2.toInt = y_a2) {h : ms_M} (hM_h : Rg_M h) : Sm_ (RP_ h) (f_X13_isUnder nn 160 a1 a2 (H_M h)) (qf_X13_isUnder nn y_a1 y_a2 h) := by
  unfold f_X13_isUnder qf_X13_isUnder
  exact sw_X13_isUnder_5 nn nn e_a2 e_a1 rfl hM_h
set_option maxRecDepth 4000 in
theorem sf_X13_isOne (nn : Nat) {a1 : Int32} {y_a1 : Int} (e_a1 : a1.toInt = y_a1) {a2 : Int32} {y_a2 : Int} (e_a2 : a2.toInt = y_a2) {h : ms_M} (hM_h : Rg_M h) : Sm_ (RP_ h) (f_X13_isOne nn 160 a1 a2 (H_M h)) (qf_X13_isOne nn y_a1 y_a2 h) := by
  unfold f_X13_isOne qf_X13_isOne
  refine sm_gr hM_h (d := 246) rfl ?_
  refine sm_ai hM_h rfl e_a1 ?_; intro v2 y_v2 e_v2
  refine sm_lt e_v2 rfl ?_ ?_
  · refine sm_gr hM_h (d := 246) rfl ?_
    refine sm_ai hM_h rfl e_a1 ?_; intro v4 y_v4 e_v4
    refine sm_is hM_h rfl ?_
    refine sm_cP (sf_X13_isUnder nn e_v4 e_a2 hM_h) ?_; intro u6 y_u6 e_u6
    refine sm_bq e_u6 ?_
    exact sm_rP e_u6
  · refine sm_ne e_a2 rfl ?_ ?_
    · exact sm_rP rfl
    · exact sm_rP rfl
set_option maxRecDepth 4000 in
theorem sj_X13_thrown_196 (nn : Nat) {l1 : Int32} {y_l1 : Int} (e_l1 : l1.toInt = y_l1) {l2 : Int32} {y_l2 : Int} (e_l2 : l2.toInt = y_l2) {h : ms_M} (hM_h : Rg_M h) : Sm_ RV_ (j_X13_thrown_196 nn 160 l1 l2 (H_M h)) (qj_X13_thrown_196 nn y_l1 y_l2 h) := by
  unfold j_X13_thrown_196 qj_X13_thrown_196
  refine sm_gr hM_h (d := 254) rfl ?_
  refine sm_si hM_h rfl e_l2 rfl ?_; intro h2 hM_h2
  refine sm_is hM_h2 rfl ?_
  refine sm_cV (sf_X13_give nn e_l1 hM_h2) ?_; intro u4 hM_u4
  exact sm_rV hM_u4
set_option maxRecDepth 4000 in
theorem sw_X13_thrown_45 (nn : Nat) {kk_0 : Nat → Int32 → mx_H → Option mx_H} {qkk_0 : Int → ms_M → Option ms_M} (hk_kk_0 : ∀ {l1 : Int32} {y_l1 : Int} (e_l1 : l1.toInt = y_l1) {h : ms_M} (hM_h : Rg_M h), Sm_ RV_ (kk_0 160 l1 (H_M h)) (qkk_0 y_l1 h)) : ∀ (k : Nat) {l1 : Int32} {y_l1 : Int} (e_l1 : l1.toInt = y_l1) {l2 : Int32} {y_l2 : Int} (e_l2 : l2.toInt = y_l2) {l3 : Int32} {y_l3 : Int} (e_l3 : l3.toInt = y_l3) {l4 : Int32} {y_l4 : Int} (e_l4 : l4.toInt = y_l4) {l5 : Int32} {y_l5 : Int} (e_l5 : l5.toInt = y_l5) {h : ms_M} (hM_h : Rg_M h), Sm_ RV_ (w_X13_thrown_45 nn kk_0 k 160 l1 l2 l3 l4 l5 (H_M h)) (qw_X13_thrown_45 nn qkk_0 k y_l1 y_l2 y_l3 y_l4 y_l5 h) := by
  intro k
  induction k with
  | zero => intros; exact sm_no
  | succ k ih =>
    intro l1 y_l1 e_l1 l2 y_l2 e_l2 l3 y_l3 e_l3 l4 y_l4 e_l4 l5 y_l5 e_l5 h hM_h
    unfold w_X13_thrown_45 qw_X13_thrown_45
    refine sm_is hM_h rfl ?_
    refine sm_cP (sf_X13_byteAt nn e_l3 e_l4 hM_h) ?_; intro u6 y_u6 e_u6
    refine sm_le e_u6 e_l5 ?_ ?_
    · refine sm_gi hM_h rfl ?_; intro v7 e_v7
      refine sm_oq_sub e_v7 rfl ?_; intro v8 y_v8 e_v8
      refine sm_pv hM_h rfl e_v8 ?_; intro h9 hM_h9
      exact hk_kk_0 e_l1 hM_h9
    · refine sm_oq_add e_l4 rfl ?_; intro v10 y_v10 e_v10
      refine sm_oq_mul rfl e_l5 ?_; intro v11 y_v11 e_v11
      refine sm_oq_add e_v10 e_v11 ?_; intro v12 y_v12 e_v12
      refine sm_is hM_h rfl ?_
      refine sm_cP (sf_X13_byteAt nn e_l3 e_v12 hM_h) ?_; intro u14 y_u14 e_u14
      refine sm_oq_shl e_u14 rfl ?_; intro v15 y_v15 e_v15
      refine sm_oq_add e_v12 rfl ?_; intro v16 y_v16 e_v16
      refine sm_is hM_h rfl ?_
      refine sm_cP (sf_X13_byteAt nn e_l3 e_v16 hM_h) ?_; intro u18 y_u18 e_u18
      refine sm_oq_or e_v15 e_u18 ?_; intro v19 y_v19 e_v19
      refine sm_oq_add e_v12 rfl ?_; intro v20 y_v20 e_v20
      refine sm_is hM_h rfl ?_
      refine sm_cP (sf_X13_byteAt nn e_l3 e_v20 hM_h) ?_; intro u22 y_u22 e_u22
      refine sm_oq_shl e_u22 rfl ?_; intro v23 y_v23 e_v23
      refine sm_oq_add e_v12 rfl ?_; intro v24 y_v24 e_v24
      refine sm_is hM_h rfl ?_
      refine sm_cP (sf_X13_byteAt nn e_l3 e_v24 hM_h) ?_; intro u26 y_u26 e_u26
      refine sm_oq_or e_v23 e_u26 ?_; intro v27 y_v27 e_v27
      refine sm_gr hM_h (d := 253) rfl ?_
      refine sm_ai hM_h rfl e_l2 ?_; intro v29 y_v29 e_v29
      refine sm_lt e_v29 e_v19 ?_ ?_
      · refine sm_oq_add e_l5 rfl ?_; intro v30 y_v30 e_v30
        exact ih e_l1 e_l2 e_l3 e_l4 e_v30 hM_h
      · refine sm_gr hM_h (d := 253) rfl ?_
        refine sm_ai hM_h rfl e_l2 ?_; intro v32 y_v32 e_v32
        refine sm_le e_v27 e_v32 ?_ ?_
        · refine sm_oq_add e_l5 rfl ?_; intro v33 y_v33 e_v33
          exact ih e_l1 e_l2 e_l3 e_l4 e_v33 hM_h
        · refine sm_oq_add e_v12 rfl ?_; intro v34 y_v34 e_v34
          refine sm_is hM_h rfl ?_
          refine sm_cP (sf_X13_byteAt nn e_l3 e_v34 hM_h) ?_; intro u36 y_u36 e_u36
          refine sm_is hM_h rfl ?_
          refine sm_cP (sf_X13_textOfClass nn e_l3 e_u36 hM_h) ?_; intro u38 y_u38 e_u38
          refine sm_is hM_h rfl ?_
          refine sm_cP (sf_X13_classAtText nn e_l3 e_u38 hM_h) ?_; intro u40 y_u40 e_u40
          refine sm_is hM_h rfl ?_
          refine sm_cP (sf_X13_isOne nn e_l1 e_u40 hM_h) ?_; intro u42 y_u42 e_u42
          refine sm_ne e_u42 rfl ?_ ?_
          · refine sm_gr hM_h (d := 253) rfl ?_
            refine sm_oq_add e_v12 rfl ?_; intro v44 y_v44 e_v44
            refine sm_is hM_h rfl ?_
            refine sm_cP (sf_X13_byteAt nn e_l3 e_v44 hM_h) ?_; intro u46 y_u46 e_u46
            refine sm_oq_shl e_u46 rfl ?_; intro v47 y_v47 e_v47
            refine sm_oq_add e_v12 rfl ?_; intro v48 y_v48 e_v48
            refine sm_is hM_h rfl ?_
            refine sm_cP (sf_X13_byteAt nn e_l3 e_v48 hM_h) ?_; intro u50 y_u50 e_u50
            refine sm_oq_or e_v47 e_u50 ?_; intro v51 y_v51 e_v51
            refine sm_si hM_h rfl e_l2 e_v51 ?_; intro h52 hM_h52
            exact sj_X13_thrown_196 nn e_l1 e_l2 hM_h52
          · refine sm_oq_add e_l5 rfl ?_; intro v53 y_v53 e_v53
            exact ih e_l1 e_l2 e_l3 e_l4 e_v53 hM_h
set_option maxRecDepth 4000 in
theorem sw_X13_thrown_0 (nn : Nat) : ∀ (k : Nat) {l1 : Int32} {y_l1 : Int} (e_l1 : l1.toInt = y_l1) {h : ms_M} (hM_h : Rg_M h), Sm_ RV_ (w_X13_thrown_0 nn k 160 l1 (H_M h)) (qw_X13_thrown_0 nn k y_l1 h) := by
  intro k
  induction k with
  | zero => intros; exact sm_no
  | succ k ih =>
    intro l1 y_l1 e_l1 h hM_h
    unfold w_X13_thrown_0 qw_X13_thrown_0
    refine sm_gi hM_h rfl ?_; intro v58 e_v58
    refine sm_le e_v58 rfl ?_ ?_
    · refine sm_pv hM_h rfl rfl ?_; intro h59 hM_h59
      refine sm_gr hM_h59 (d := 246) rfl ?_
      refine sm_ai hM_h59 rfl e_l1 ?_; intro v61 y_v61 e_v61
      refine sm_pv hM_h59 rfl e_v61 ?_; intro h62 hM_h62
      exact sm_rV hM_h62
    · refine sm_gi hM_h rfl ?_; intro v63 e_v63
      refine sm_oq_sub e_v63 rfl ?_; intro v64 y_v64 e_v64
      refine sm_gr hM_h (d := 251) rfl ?_
      refine sm_ai hM_h rfl e_v64 ?_; intro v66 y_v66 e_v66
      refine sm_oq_sub e_v66 rfl ?_; intro v67 y_v67 e_v67
      refine sm_gr hM_h (d := 236) rfl ?_
      refine sm_oq_mul rfl e_v67 ?_; intro v69 y_v69 e_v69
      refine sm_gr hM_h (d := 252) rfl ?_
      refine sm_ai hM_h rfl e_v64 ?_; intro v71 y_v71 e_v71
      refine sm_oq_add e_v69 e_v71 ?_; intro v72 y_v72 e_v72
      refine sm_ai hM_h rfl e_v72 ?_; intro v73 y_v73 e_v73
      exact sw_X13_thrown_45 nn ih nn e_l1 e_v64 e_v67 e_v73 rfl hM_h
set_option maxRecDepth 4000 in
theorem sf_X13_thrown (nn : Nat) {a1 : Int32} {y_a1 : Int} (e_a1 : a1.toInt = y_a1) {h : ms_M} (hM_h : Rg_M h) : Sm_ RV_ (f_X13_thrown nn 160 a1 (H_M h)) (qf_X13_thrown nn y_a1 h) := by
  unfold f_X13_thrown qf_X13_thrown
  exact sw_X13_thrown_0 nn nn e_a1 hM_h
set_option maxRecDepth 4000 in
theorem sf_X13_fails (nn : Nat) {a1 : Int32} {y_a1 : Int} (e_a1 : a1.toInt = y_a1) {h : ms_M} (hM_h : Rg_M h) : Sm_ RV_ (f_X13_fails nn 160 a1 (H_M h)) (qf_X13_fails nn y_a1 h) := by
  unfold f_X13_fails qf_X13_fails
  refine sm_is hM_h rfl ?_
  refine sm_cI (sf_X13_make_ nn e_a1 rfl hM_h) ?_; intro u2 y_u2 M_u2 e_u2 hM_u2
  refine sm_le e_u2 rfl ?_ ?_
  · exact sm_rV hM_u2
  · refine sm_is hM_u2 rfl ?_
    refine sm_cV (sf_X13_thrown nn e_u2 hM_u2) ?_; intro u4 hM_u4
    exact sm_rV hM_u4
set_option maxRecDepth 4000 in
theorem sw_X13_sameText_72 (nn : Nat) : ∀ (k : Nat) {l5 : Int32} {y_l5 : Int} (e_l5 : l5.toInt = y_l5) {l6 : Int32} {y_l6 : Int} (e_l6 : l6.toInt = y_l6) {l7 : Int32} {y_l7 : Int} (e_l7 : l7.toInt = y_l7) {l8 : Int32} {y_l8 : Int} (e_l8 : l8.toInt = y_l8) {h : ms_M} (hM_h : Rg_M h), Sm_ (RP_ h) (w_X13_sameText_72 nn k 160 l5 l6 l7 l8 (H_M h)) (qw_X13_sameText_72 nn k y_l5 y_l6 y_l7 y_l8 h) := by
  intro k
  induction k with
  | zero => intros; exact sm_no
  | succ k ih =>
    intro l5 y_l5 e_l5 l6 y_l6 e_l6 l7 y_l7 e_l7 l8 y_l8 e_l8 h hM_h
    unfold w_X13_sameText_72 qw_X13_sameText_72
    refine sm_gr hM_h (d := 226) rfl ?_
    refine sm_oq_add e_l5 rfl ?_; intro v2 y_v2 e_v2
    refine sm_ai hM_h rfl e_v2 ?_; intro v3 y_v3 e_v3
    refine sm_le e_v3 e_l8 ?_ ?_
    · refine sm_bq e_l7 ?_
      exact sm_rP e_l7
    · refine sm_eq e_l7 rfl ?_ ?_
      · refine sm_bq e_l7 ?_
        exact sm_rP e_l7
      · refine sm_gr hM_h (d := 226) rfl ?_
        refine sm_oq_add e_l5 rfl ?_; intro v7 y_v7 e_v7
        refine sm_oq_add e_v7 e_l8 ?_; intro v8 y_v8 e_v8
        refine sm_ai hM_h rfl e_v8 ?_; intro v9 y_v9 e_v9
        refine sm_gr hM_h (d := 226) rfl ?_
        refine sm_oq_add e_l6 rfl ?_; intro v11 y_v11 e_v11
        refine sm_oq_add e_v11 e_l8 ?_; intro v12 y_v12 e_v12
        refine sm_ai hM_h rfl e_v12 ?_; intro v13 y_v13 e_v13
        refine sm_ne e_v9 e_v13 ?_ ?_
        · refine sm_oq_add e_l8 rfl ?_; intro v14 y_v14 e_v14
          exact ih e_l5 e_l6 rfl e_v14 hM_h
        · refine sm_oq_add e_l8 rfl ?_; intro v15 y_v15 e_v15
          exact ih e_l5 e_l6 rfl e_v15 hM_h
set_option maxRecDepth 4000 in
theorem sf_X13_sameText (nn : Nat) {a1 : Int32} {y_a1 : Int} (e_a1 : a1.toInt = y_a1) {a2 : Int32} {y_a2 : Int} (e_a2 : a2.toInt = y_a2) {a3 : Int32} {y_a3 : Int} (e_a3 : a3.toInt = y_a3) {a4 : Int32} {y_a4 : Int} (e_a4 : a4.toInt = y_a4) {h : ms_M} (hM_h : Rg_M h) : Sm_ (RP_ h) (f_X13_sameText nn 160 a1 a2 a3 a4 (H_M h)) (qf_X13_sameText nn y_a1 y_a2 y_a3 y_a4 h) := by
  unfold f_X13_sameText qf_X13_sameText
  refine sm_oq_mul rfl e_a1 ?_; intro v19 y_v19 e_v19
  refine sm_gr hM_h (d := 228) rfl ?_
  refine sm_oq_mul rfl e_a1 ?_; intro v21 y_v21 e_v21
  refine sm_oq_add e_v21 e_a2 ?_; intro v22 y_v22 e_v22
  refine sm_ai hM_h rfl e_v22 ?_; intro v23 y_v23 e_v23
  refine sm_oq_add e_v19 e_v23 ?_; intro v24 y_v24 e_v24
  refine sm_oq_mul rfl e_a3 ?_; intro v25 y_v25 e_v25
  refine sm_gr hM_h (d := 228) rfl ?_
  refine sm_oq_mul rfl e_a3 ?_; intro v27 y_v27 e_v27
  refine sm_oq_add e_v27 e_a4 ?_; intro v28 y_v28 e_v28
  refine sm_ai hM_h rfl e_v28 ?_; intro v29 y_v29 e_v29
  refine sm_oq_add e_v25 e_v29 ?_; intro v30 y_v30 e_v30
  refine sm_gr hM_h (d := 226) rfl ?_
  refine sm_oq_add e_v24 rfl ?_; intro v32 y_v32 e_v32
  refine sm_ai hM_h rfl e_v32 ?_; intro v33 y_v33 e_v33
  refine sm_gr hM_h (d := 226) rfl ?_
  refine sm_oq_add e_v30 rfl ?_; intro v35 y_v35 e_v35
  refine sm_ai hM_h rfl e_v35 ?_; intro v36 y_v36 e_v36
  refine sm_ne e_v33 e_v36 ?_ ?_
  · exact sw_X13_sameText_72 nn nn e_v24 e_v30 rfl rfl hM_h
  · exact sw_X13_sameText_72 nn nn e_v24 e_v30 rfl rfl hM_h
set_option maxRecDepth 4000 in
theorem sj_X13_holder_148 (nn : Nat) {kk_6 : Nat → Int32 → Int32 → Int32 → Int32 → Int32 → mx_H → Option (Int32 × mx_H)} {qkk_6 : Int → Int → Int → Int → Int → ms_M → Option (Int × ms_M)} (hk_kk_6 : ∀ {l2 : Int32} {y_l2 : Int} (e_l2 : l2.toInt = y_l2) {l3 : Int32} {y_l3 : Int} (e_l3 : l3.toInt = y_l3) {l4 : Int32} {y_l4 : Int} (e_l4 : l4.toInt = y_l4) {l5 : Int32} {y_l5 : Int} (e_l5 : l5.toInt = y_l5) {l6 : Int32} {y_l6 : Int} (e_l6 : l6.toInt = y_l6) {h : ms_M} (hM_h : Rg_M h), Sm_ RI_ (kk_6 160 l2 l3 l4 l5 l6 (H_M h)) (qkk_6 y_l2 y_l3 y_l4 y_l5 y_l6 h)) {l2 : Int32} {y_l2 : Int} (e_l2 : l2.toInt = y_l2) {l3 : Int32} {y_l3 : Int} (e_l3 : l3.toInt = y_l3) {l4 : Int32} {y_l4 : Int} (e_l4 : l4.toInt = y_l4) {l5 : Int32} {y_l5 : Int} (e_l5 : l5.toInt = y_l5) {l6 : Int32} {y_l6 : Int} (e_l6 : l6.toInt = y_l6) {h : ms_M} (hM_h : Rg_M h) : Sm_ RI_ (j_X13_holder_148 nn kk_6 160 l2 l3 l4 l5 l6 (H_M h)) (qj_X13_holder_148 nn qkk_6 y_l2 y_l3 y_l4 y_l5 y_l6 h) := by
  unfold j_X13_holder_148 qj_X13_holder_148
  refine sm_is hM_h rfl ?_
  refine sm_cP (sf_X13_superOf nn e_l5 hM_h) ?_; intro u2 y_u2 e_u2
  refine sm_oq_add e_l6 rfl ?_; intro v3 y_v3 e_v3
  exact hk_kk_6 e_l2 e_l3 e_l4 e_u2 e_v3 hM_h
set_option maxRecDepth 4000 in
theorem sj_X13_holder_115 (nn : Nat) {kk_6 : Nat → Int32 → Int32 → Int32 → Int32 → Int32 → mx_H → Option (Int32 × mx_H)} {qkk_6 : Int → Int → Int → Int → Int → ms_M → Option (Int × ms_M)} (hk_kk_6 : ∀ {l2 : Int32} {y_l2 : Int} (e_l2 : l2.toInt = y_l2) {l3 : Int32} {y_l3 : Int} (e_l3 : l3.toInt = y_l3) {l4 : Int32} {y_l4 : Int} (e_l4 : l4.toInt = y_l4) {l5 : Int32} {y_l5 : Int} (e_l5 : l5.toInt = y_l5) {l6 : Int32} {y_l6 : Int} (e_l6 : l6.toInt = y_l6) {h : ms_M} (hM_h : Rg_M h), Sm_ RI_ (kk_6 160 l2 l3 l4 l5 l6 (H_M h)) (qkk_6 y_l2 y_l3 y_l4 y_l5 y_l6 h)) {kk_60 : Nat → Int32 → Int32 → Int32 → Int32 → Int32 → Int32 → Int32 → Int32 → mx_H → Option (Int32 × mx_H)} {qkk_60 : Int → Int → Int → Int → Int → Int → Int → Int → ms_M → Option (Int × ms_M)} (hk_kk_60 : ∀ {l2 : Int32} {y_l2 : Int} (e_l2 : l2.toInt = y_l2) {l3 : Int32} {y_l3 : Int} (e_l3 : l3.toInt = y_l3) {l4 : Int32} {y_l4 : Int} (e_l4 : l4.toInt = y_l4) {l5 : Int32} {y_l5 : Int} (e_l5 : l5.toInt = y_l5) {l6 : Int32} {y_l6 : Int} (e_l6 : l6.toInt = y_l6) {l7 : Int32} {y_l7 : Int} (e_l7 : l7.toInt = y_l7) {l8 : Int32} {y_l8 : Int} (e_l8 : l8.toInt = y_l8) {l9 : Int32} {y_l9 : Int} (e_l9 : l9.toInt = y_l9) {h : ms_M} (hM_h : Rg_M h), Sm_ RI_ (kk_60 160 l2 l3 l4 l5 l6 l7 l8 l9 (H_M h)) (qkk_60 y_l2 y_l3 y_l4 y_l5 y_l6 y_l7 y_l8 y_l9 h)) {l2 : Int32} {y_l2 : Int} (e_l2 : l2.toInt = y_l2) {l3 : Int32} {y_l3 : Int} (e_l3 : l3.toInt = y_l3) {l4 : Int32} {y_l4 : Int} (e_l4 : l4.toInt = y_l4) {l5 : Int32} {y_l5 : Int} (e_l5 : l5.toInt = y_l5) {l6 : Int32} {y_l6 : Int} (e_l6 : l6.toInt = y_l6) {l7 : Int32} {y_l7 : Int} (e_l7 : l7.toInt = y_l7) {l8 : Int32} {y_l8 : Int} (e_l8 : l8.toInt = y_l8) {l9 : Int32} {y_l9 : Int} (e_l9 : l9.toInt = y_l9) {s0 : Int32} {y_s0 : Int} (e_s0 : s0.toInt = y_s0) {h : ms_M} (hM_h : Rg_M h) : Sm_ RI_ (j_X13_holder_115 nn kk_6 kk_60 160 l2 l3 l4 l5 l6 l7 l8 l9 s0 (H_M h)) (qj_X13_holder_115 nn qkk_6 qkk_60 y_l2 y_l3 y_l4 y_l5 y_l6 y_l7 y_l8 y_l9 y_s0 h) := by
  unfold j_X13_holder_115 qj_X13_holder_115
  refine sm_is hM_h rfl ?_
  refine sm_cP (sf_X13_sameText nn e_l7 e_s0 e_l2 e_l3 hM_h) ?_; intro u5 y_u5 e_u5
  refine sm_ne e_u5 rfl ?_ ?_
  · refine sm_pv hM_h rfl e_l9 ?_; intro h6 hM_h6
    exact sm_rI e_l5 hM_h6
  · refine sm_oq_add e_l9 rfl ?_; intro v7 y_v7 e_v7
    exact hk_kk_60 e_l2 e_l3 e_l4 e_l5 e_l6 e_l7 e_l8 e_v7 hM_h
set_option maxRecDepth 4000 in
theorem sw_X13_holder_60 (nn : Nat) {kk_6 : Nat → Int32 → Int32 → Int32 → Int32 → Int32 → mx_H → Option (Int32 × mx_H)} {qkk_6 : Int → Int → Int → Int → Int → ms_M → Option (Int × ms_M)} (hk_kk_6 : ∀ {l2 : Int32} {y_l2 : Int} (e_l2 : l2.toInt = y_l2) {l3 : Int32} {y_l3 : Int} (e_l3 : l3.toInt = y_l3) {l4 : Int32} {y_l4 : Int} (e_l4 : l4.toInt = y_l4) {l5 : Int32} {y_l5 : Int} (e_l5 : l5.toInt = y_l5) {l6 : Int32} {y_l6 : Int} (e_l6 : l6.toInt = y_l6) {h : ms_M} (hM_h : Rg_M h), Sm_ RI_ (kk_6 160 l2 l3 l4 l5 l6 (H_M h)) (qkk_6 y_l2 y_l3 y_l4 y_l5 y_l6 h)) : ∀ (k : Nat) {l2 : Int32} {y_l2 : Int} (e_l2 : l2.toInt = y_l2) {l3 : Int32} {y_l3 : Int} (e_l3 : l3.toInt = y_l3) {l4 : Int32} {y_l4 : Int} (e_l4 : l4.toInt = y_l4) {l5 : Int32} {y_l5 : Int} (e_l5 : l5.toInt = y_l5) {l6 : Int32} {y_l6 : Int} (e_l6 : l6.toInt = y_l6) {l7 : Int32} {y_l7 : Int} (e_l7 : l7.toInt = y_l7) {l8 : Int32} {y_l8 : Int} (e_l8 : l8.toInt = y_l8) {l9 : Int32} {y_l9 : Int} (e_l9 : l9.toInt = y_l9) {h : ms_M} (hM_h : Rg_M h), Sm_ RI_ (w_X13_holder_60 nn kk_6 k 160 l2 l3 l4 l5 l6 l7 l8 l9 (H_M h)) (qw_X13_holder_60 nn qkk_6 k y_l2 y_l3 y_l4 y_l5 y_l6 y_l7 y_l8 y_l9 h) := by
  intro k
  induction k with
  | zero => intros; exact sm_no
  | succ k ih =>
    intro l2 y_l2 e_l2 l3 y_l3 e_l3 l4 y_l4 e_l4 l5 y_l5 e_l5 l6 y_l6 e_l6 l7 y_l7 e_l7 l8 y_l8 e_l8 l9 y_l9 e_l9 h hM_h
    unfold w_X13_holder_60 qw_X13_holder_60
    refine sm_le e_l8 e_l9 ?_ ?_
    · exact sj_X13_holder_148 nn hk_kk_6 e_l2 e_l3 e_l4 e_l5 e_l6 hM_h
    · refine sm_eq e_l4 rfl ?_ ?_
      · refine sm_gr hM_h (d := 233) rfl ?_
        refine sm_oq_mul rfl e_l7 ?_; intro v10 y_v10 e_v10
        refine sm_oq_add e_v10 e_l9 ?_; intro v11 y_v11 e_v11
        refine sm_ai hM_h rfl e_v11 ?_; intro v12 y_v12 e_v12
        refine sm_is hM_h rfl ?_
        refine sm_cP (sf_X13_byteAt nn e_l7 e_v12 hM_h) ?_; intro u14 y_u14 e_u14
        exact sj_X13_holder_115 nn hk_kk_6 ih e_l2 e_l3 e_l4 e_l5 e_l6 e_l7 e_l8 e_l9 e_u14 hM_h
      · refine sm_gr hM_h (d := 235) rfl ?_
        refine sm_oq_mul rfl e_l7 ?_; intro v16 y_v16 e_v16
        refine sm_oq_add e_v16 e_l9 ?_; intro v17 y_v17 e_v17
        refine sm_ai hM_h rfl e_v17 ?_; intro v18 y_v18 e_v18
        refine sm_oq_add e_v18 rfl ?_; intro v19 y_v19 e_v19
        refine sm_is hM_h rfl ?_
        refine sm_cP (sf_X13_byteAt nn e_l7 e_v19 hM_h) ?_; intro u21 y_u21 e_u21
        exact sj_X13_holder_115 nn hk_kk_6 ih e_l2 e_l3 e_l4 e_l5 e_l6 e_l7 e_l8 e_l9 e_u21 hM_h
set_option maxRecDepth 4000 in
theorem sw_X13_holder_6 (nn : Nat) : ∀ (k : Nat) {l2 : Int32} {y_l2 : Int} (e_l2 : l2.toInt = y_l2) {l3 : Int32} {y_l3 : Int} (e_l3 : l3.toInt = y_l3) {l4 : Int32} {y_l4 : Int} (e_l4 : l4.toInt = y_l4) {l5 : Int32} {y_l5 : Int} (e_l5 : l5.toInt = y_l5) {l6 : Int32} {y_l6 : Int} (e_l6 : l6.toInt = y_l6) {h : ms_M} (hM_h : Rg_M h), Sm_ RI_ (w_X13_holder_6 nn k 160 l2 l3 l4 l5 l6 (H_M h)) (qw_X13_holder_6 nn k y_l2 y_l3 y_l4 y_l5 y_l6 h) := by
  intro k
  induction k with
  | zero => intros; exact sm_no
  | succ k ih =>
    intro l2 y_l2 e_l2 l3 y_l3 e_l3 l4 y_l4 e_l4 l5 y_l5 e_l5 l6 y_l6 e_l6 h hM_h
    unfold w_X13_holder_6 qw_X13_holder_6
    refine sm_lt rfl e_l6 ?_ ?_
    · exact sm_rI rfl hM_h
    · refine sm_eq e_l5 rfl ?_ ?_
      · exact sm_rI rfl hM_h
      · refine sm_lt e_l5 rfl ?_ ?_
        · exact sj_X13_holder_148 nn ih e_l2 e_l3 e_l4 e_l5 e_l6 hM_h
        · refine sm_oq_sub e_l5 rfl ?_; intro v24 y_v24 e_v24
          refine sm_eq e_l4 rfl ?_ ?_
          · refine sm_gr hM_h (d := 232) rfl ?_
            refine sm_ai hM_h rfl e_v24 ?_; intro v26 y_v26 e_v26
            exact sw_X13_holder_60 nn ih nn e_l2 e_l3 e_l4 e_l5 e_l6 e_v24 e_v26 rfl hM_h
          · refine sm_gr hM_h (d := 234) rfl ?_
            refine sm_ai hM_h rfl e_v24 ?_; intro v28 y_v28 e_v28
            exact sw_X13_holder_60 nn ih nn e_l2 e_l3 e_l4 e_l5 e_l6 e_v24 e_v28 rfl hM_h
set_option maxRecDepth 4000 in
theorem sf_X13_holder (nn : Nat) {a1 : Int32} {y_a1 : Int} (e_a1 : a1.toInt = y_a1) {a2 : Int32} {y_a2 : Int} (e_a2 : a2.toInt = y_a2) {a3 : Int32} {y_a3 : Int} (e_a3 : a3.toInt = y_a3) {a4 : Int32} {y_a4 : Int} (e_a4 : a4.toInt = y_a4) {h : ms_M} (hM_h : Rg_M h) : Sm_ RI_ (f_X13_holder nn 160 a1 a2 a3 a4 (H_M h)) (qf_X13_holder nn y_a1 y_a2 y_a3 y_a4 h) := by
  unfold f_X13_holder qf_X13_holder
  exact sw_X13_holder_6 nn nn e_a2 e_a3 e_a4 e_a1 rfl hM_h
set_option maxRecDepth 4000 in
theorem sf_X13_memberPart (nn : Nat) {a1 : Int32} {y_a1 : Int} (e_a1 : a1.toInt = y_a1) {a2 : Int32} {y_a2 : Int} (e_a2 : a2.toInt = y_a2) {h : ms_M} (hM_h : Rg_M h) : Sm_ (RP_ h) (f_X13_memberPart nn 160 a1 a2 (H_M h)) (qf_X13_memberPart nn y_a1 y_a2 h) := by
  unfold f_X13_memberPart qf_X13_memberPart
  refine sm_gr hM_h (d := 251) rfl ?_
  refine sm_gi hM_h rfl ?_; intro v2 e_v2
  refine sm_oq_sub e_v2 rfl ?_; intro v3 y_v3 e_v3
  refine sm_ai hM_h rfl e_v3 ?_; intro v4 y_v4 e_v4
  refine sm_oq_sub e_v4 rfl ?_; intro v5 y_v5 e_v5
  refine sm_gr hM_h (d := 228) rfl ?_
  refine sm_oq_mul rfl e_v5 ?_; intro v7 y_v7 e_v7
  refine sm_oq_add e_v7 e_a1 ?_; intro v8 y_v8 e_v8
  refine sm_ai hM_h rfl e_v8 ?_; intro v9 y_v9 e_v9
  refine sm_oq_add e_v9 rfl ?_; intro v10 y_v10 e_v10
  refine sm_oq_add e_v10 e_a2 ?_; intro v11 y_v11 e_v11
  refine sm_is hM_h rfl ?_
  refine sm_cP (sf_X13_byteAt nn e_v5 e_v11 hM_h) ?_; intro u13 y_u13 e_u13
  exact sm_rP e_u13
set_option maxRecDepth 4000 in
theorem sw_X13_call_228 (nn : Nat) : ∀ (k : Nat) {l5 : Int32} {y_l5 : Int} (e_l5 : l5.toInt = y_l5) {l7 : Int32} {y_l7 : Int} (e_l7 : l7.toInt = y_l7) {l11 : Int32} {y_l11 : Int} (e_l11 : l11.toInt = y_l11) {h : ms_M} (hM_h : Rg_M h), Sm_ RV_ (w_X13_call_228 nn k 160 l5 l7 l11 (H_M h)) (qw_X13_call_228 nn k y_l5 y_l7 y_l11 h) := by
  intro k
  induction k with
  | zero => intros; exact sm_no
  | succ k ih =>
    intro l5 y_l5 e_l5 l7 y_l7 e_l7 l11 y_l11 e_l11 h hM_h
    unfold w_X13_call_228 qw_X13_call_228
    refine sm_le e_l5 e_l11 ?_ ?_
    · exact sm_rV hM_h
    · refine sm_gr hM_h (d := 255) rfl ?_
      refine sm_gi hM_h rfl ?_; intro v2 e_v2
      refine sm_oq_sub e_v2 rfl ?_; intro v3 y_v3 e_v3
      refine sm_oq_mul rfl e_v3 ?_; intro v4 y_v4 e_v4
      refine sm_oq_add e_v4 e_l11 ?_; intro v5 y_v5 e_v5
      refine sm_gr hM_h (d := 255) rfl ?_
      refine sm_oq_add e_l7 e_l11 ?_; intro v7 y_v7 e_v7
      refine sm_ai hM_h rfl e_v7 ?_; intro v8 y_v8 e_v8
      refine sm_si hM_h rfl e_v5 e_v8 ?_; intro h9 hM_h9
      refine sm_oq_add e_l11 rfl ?_; intro v10 y_v10 e_v10
      exact ih e_l5 e_l7 e_v10 hM_h9
set_option maxRecDepth 4000 in
theorem sj_X13_call_168 (nn : Nat) {l2 : Int32} {y_l2 : Int} (e_l2 : l2.toInt = y_l2) {l3 : Int32} {y_l3 : Int} (e_l3 : l3.toInt = y_l3) {l5 : Int32} {y_l5 : Int} (e_l5 : l5.toInt = y_l5) {l6 : Int32} {y_l6 : Int} (e_l6 : l6.toInt = y_l6) {l7 : Int32} {y_l7 : Int} (e_l7 : l7.toInt = y_l7) {l8 : Int32} {y_l8 : Int} (e_l8 : l8.toInt = y_l8) {h : ms_M} (hM_h : Rg_M h) : Sm_ RV_ (j_X13_call_168 nn 160 l2 l3 l5 l6 l7 l8 (H_M h)) (qj_X13_call_168 nn y_l2 y_l3 y_l5 y_l6 y_l7 y_l8 h) := by
  unfold j_X13_call_168 qj_X13_call_168
  refine sm_is hM_h rfl ?_
  refine sm_cP (sf_X13_memberPart nn e_l2 rfl hM_h) ?_; intro u13 y_u13 e_u13
  refine sm_is hM_h rfl ?_
  refine sm_cI (sf_X13_holder nn e_l8 e_l3 e_u13 rfl hM_h) ?_; intro u15 y_u15 M_u15 e_u15 hM_u15
  refine sm_gi hM_u15 rfl ?_; intro v16 e_v16
  refine sm_gi hM_u15 rfl ?_; intro v17 e_v17
  refine sm_ne e_v17 rfl ?_ ?_
  · refine sm_gr hM_u15 (d := 254) rfl ?_
    refine sm_ai hM_u15 rfl e_l6 ?_; intro v19 y_v19 e_v19
    refine sm_oq_sub e_v19 e_l5 ?_; intro v20 y_v20 e_v20
    refine sm_si hM_u15 rfl e_l6 e_v20 ?_; intro h21 hM_h21
    refine sm_is hM_h21 rfl ?_
    refine sm_cV (sf_X13_enter nn e_u15 e_v16 hM_h21) ?_; intro u23 hM_u23
    exact sw_X13_call_228 nn nn e_l5 e_l7 rfl hM_u23
  · refine sm_pv hM_u15 rfl rfl ?_; intro h24 hM_h24
    exact sm_rV hM_h24
set_option maxRecDepth 4000 in
theorem sj_X13_call_166 (nn : Nat) {l2 : Int32} {y_l2 : Int} (e_l2 : l2.toInt = y_l2) {l3 : Int32} {y_l3 : Int} (e_l3 : l3.toInt = y_l3) {l5 : Int32} {y_l5 : Int} (e_l5 : l5.toInt = y_l5) {l6 : Int32} {y_l6 : Int} (e_l6 : l6.toInt = y_l6) {l7 : Int32} {y_l7 : Int} (e_l7 : l7.toInt = y_l7) {s0 : Int32} {y_s0 : Int} (e_s0 : s0.toInt = y_s0) {h : ms_M} (hM_h : Rg_M h) : Sm_ RV_ (j_X13_call_166 nn 160 l2 l3 l5 l6 l7 s0 (H_M h)) (qj_X13_call_166 nn y_l2 y_l3 y_l5 y_l6 y_l7 y_s0 h) := by
  unfold j_X13_call_166 qj_X13_call_166
  exact sj_X13_call_168 nn e_l2 e_l3 e_l5 e_l6 e_l7 e_s0 hM_h
set_option maxRecDepth 4000 in
theorem sj_X13_call_72 (nn : Nat) {l1 : Int32} {y_l1 : Int} (e_l1 : l1.toInt = y_l1) {l2 : Int32} {y_l2 : Int} (e_l2 : l2.toInt = y_l2) {l3 : Int32} {y_l3 : Int} (e_l3 : l3.toInt = y_l3) {s0 : Int32} {y_s0 : Int} (e_s0 : s0.toInt = y_s0) {s1 : Int32} {y_s1 : Int} (e_s1 : s1.toInt = y_s1) {h : ms_M} (hM_h : Rg_M h) : Sm_ RV_ (j_X13_call_72 nn 160 l1 l2 l3 s0 s1 (H_M h)) (qj_X13_call_72 nn y_l1 y_l2 y_l3 y_s0 y_s1 h) := by
  unfold j_X13_call_72 qj_X13_call_72
  refine sm_oq_add e_s1 e_s0 ?_; intro v26 y_v26 e_v26
  refine sm_gi hM_h rfl ?_; intro v27 e_v27
  refine sm_oq_sub e_v27 rfl ?_; intro v28 y_v28 e_v28
  refine sm_oq_mul rfl e_v28 ?_; intro v29 y_v29 e_v29
  refine sm_oq_add e_v29 rfl ?_; intro v30 y_v30 e_v30
  refine sm_gr hM_h (d := 254) rfl ?_
  refine sm_ai hM_h rfl e_v28 ?_; intro v32 y_v32 e_v32
  refine sm_oq_add e_v30 e_v32 ?_; intro v33 y_v33 e_v33
  refine sm_oq_sub e_v33 e_v26 ?_; intro v34 y_v34 e_v34
  refine sm_is hM_h rfl ?_
  refine sm_cP (sf_X13_memberPart nn e_l2 rfl hM_h) ?_; intro u36 y_u36 e_u36
  refine sm_is hM_h rfl ?_
  refine sm_cP (sf_X13_classIn nn e_u36 hM_h) ?_; intro u38 y_u38 e_u38
  refine sm_ne e_l1 rfl ?_ ?_
  · exact sj_X13_call_168 nn e_l2 e_l3 e_v26 e_v28 e_v34 e_u38 hM_h
  · refine sm_gr hM_h (d := 255) rfl ?_
    refine sm_ai hM_h rfl e_v34 ?_; intro v40 y_v40 e_v40
    refine sm_ne e_v40 rfl ?_ ?_
    · refine sm_gr hM_h (d := 246) rfl ?_
      refine sm_ai hM_h rfl e_v40 ?_; intro v42 y_v42 e_v42
      refine sm_lt e_v42 rfl ?_ ?_
      · refine sm_gr hM_h (d := 246) rfl ?_
        refine sm_ai hM_h rfl e_v40 ?_; intro v44 y_v44 e_v44
        exact sj_X13_call_166 nn e_l2 e_l3 e_v26 e_v28 e_v34 e_v44 hM_h
      · exact sj_X13_call_166 nn e_l2 e_l3 e_v26 e_v28 e_v34 rfl hM_h
    · refine sm_is hM_h rfl ?_
      refine sm_cV (sf_X13_fails nn rfl hM_h) ?_; intro u47 hM_u47
      exact sm_rV hM_u47
set_option maxRecDepth 4000 in
theorem sf_X13_call (nn : Nat) {a1 : Int32} {y_a1 : Int} (e_a1 : a1.toInt = y_a1) {a2 : Int32} {y_a2 : Int} (e_a2 : a2.toInt = y_a2) {h : ms_M} (hM_h : Rg_M h) : Sm_ RV_ (f_X13_call nn 160 a1 a2 (H_M h)) (qf_X13_call nn y_a1 y_a2 h) := by
  unfold f_X13_call qf_X13_call
  refine sm_gr hM_h (d := 251) rfl ?_
  refine sm_gi hM_h rfl ?_; intro v51 e_v51
  refine sm_oq_sub e_v51 rfl ?_; intro v52 y_v52 e_v52
  refine sm_ai hM_h rfl e_v52 ?_; intro v53 y_v53 e_v53
  refine sm_oq_sub e_v53 rfl ?_; intro v54 y_v54 e_v54
  refine sm_oq_mul rfl e_v54 ?_; intro v55 y_v55 e_v55
  refine sm_gr hM_h (d := 228) rfl ?_
  refine sm_oq_mul rfl e_v54 ?_; intro v57 y_v57 e_v57
  refine sm_is hM_h rfl ?_
  refine sm_cP (sf_X13_memberPart nn e_a2 rfl hM_h) ?_; intro u59 y_u59 e_u59
  refine sm_oq_add e_v57 e_u59 ?_; intro v60 y_v60 e_v60
  refine sm_ai hM_h rfl e_v60 ?_; intro v61 y_v61 e_v61
  refine sm_oq_add e_v55 e_v61 ?_; intro v62 y_v62 e_v62
  refine sm_gr hM_h (d := 226) rfl ?_
  refine sm_oq_add e_v62 rfl ?_; intro v64 y_v64 e_v64
  refine sm_gr hM_h (d := 226) rfl ?_
  refine sm_oq_add e_v62 rfl ?_; intro v66 y_v66 e_v66
  refine sm_ai hM_h rfl e_v66 ?_; intro v67 y_v67 e_v67
  refine sm_cP (sf_X13_parametersIn nn _ e_v64 e_v67 hM_h) ?_; intro u68 y_u68 e_u68
  refine sm_ne e_a1 rfl ?_ ?_
  · exact sj_X13_call_72 nn e_a1 e_a2 e_v54 rfl e_u68 hM_h
  · exact sj_X13_call_72 nn e_a1 e_a2 e_v54 rfl e_u68 hM_h
set_option maxRecDepth 4000 in
theorem sf_X13_cell (nn : Nat) {a1 : Int32} {y_a1 : Int} (e_a1 : a1.toInt = y_a1) {h : ms_M} (hM_h : Rg_M h) : Sm_ (RP_ h) (f_X13_cell nn 160 a1 (H_M h)) (qf_X13_cell nn y_a1 h) := by
  unfold f_X13_cell qf_X13_cell
  refine sm_gr hM_h (d := 255) rfl ?_
  refine sm_gi hM_h rfl ?_; intro v2 e_v2
  refine sm_oq_sub e_v2 rfl ?_; intro v3 y_v3 e_v3
  refine sm_oq_mul rfl e_v3 ?_; intro v4 y_v4 e_v4
  refine sm_oq_add e_v4 e_a1 ?_; intro v5 y_v5 e_v5
  refine sm_ai hM_h rfl e_v5 ?_; intro v6 y_v6 e_v6
  exact sm_rP e_v6
set_option maxRecDepth 4000 in
theorem sf_X13_storesIn (nn : Nat) {a1 : Int32} {y_a1 : Int} (e_a1 : a1.toInt = y_a1) {a2 : Int32} {y_a2 : Int} (e_a2 : a2.toInt = y_a2) {h : ms_M} (hM_h : Rg_M h) : Sm_ (RP_ h) (f_X13_storesIn nn 160 a1 a2 (H_M h)) (qf_X13_storesIn nn y_a1 y_a2 h) := by
  unfold f_X13_storesIn qf_X13_storesIn
  refine sm_is hM_h rfl ?_
  refine sm_cP (sf_X13_isOne nn e_a1 e_a2 hM_h) ?_; intro u2 y_u2 e_u2
  refine sm_bq e_u2 ?_
  exact sm_rP e_u2
set_option maxRecDepth 4000 in
theorem sj_X13_element_141 (nn : Nat) {h : ms_M} (hM_h : Rg_M h) : Sm_ RV_ (j_X13_element_141 nn 160 (H_M h)) (qj_X13_element_141 nn h) := by
  unfold j_X13_element_141 qj_X13_element_141
  refine sm_is hM_h rfl ?_
  refine sm_cV (sf_X13_on nn rfl hM_h) ?_; intro u2 hM_u2
  exact sm_rV hM_u2
set_option maxRecDepth 4000 in
theorem sj_X13_element_99 (nn : Nat) {l1 : Int32} {y_l1 : Int} (e_l1 : l1.toInt = y_l1) {l2 : Int32} {y_l2 : Int} (e_l2 : l2.toInt = y_l2) {l3 : Int32} {y_l3 : Int} (e_l3 : l3.toInt = y_l3) {l4 : Int32} {y_l4 : Int} (e_l4 : l4.toInt = y_l4) {h : ms_M} (hM_h : Rg_M h) : Sm_ RV_ (j_X13_element_99 nn 160 l1 l2 l3 l4 (H_M h)) (qj_X13_element_99 nn y_l1 y_l2 y_l3 y_l4 h) := by
  unfold j_X13_element_99 qj_X13_element_99
  refine sm_le e_l1 rfl ?_ ?_
  · refine sm_gr hM_h (d := 249) rfl ?_
    refine sm_gr hM_h (d := 247) rfl ?_
    refine sm_ai hM_h rfl e_l4 ?_; intro v5 y_v5 e_v5
    refine sm_oq_add e_v5 e_l3 ?_; intro v6 y_v6 e_v6
    refine sm_ai hM_h rfl e_v6 ?_; intro v7 y_v7 e_v7
    refine sm_is hM_h rfl ?_
    refine sm_cV (sf_X13_give nn e_v7 hM_h) ?_; intro u9 hM_u9
    exact sj_X13_element_141 nn hM_u9
  · refine sm_gr hM_h (d := 249) rfl ?_
    refine sm_gr hM_h (d := 247) rfl ?_
    refine sm_ai hM_h rfl e_l4 ?_; intro v12 y_v12 e_v12
    refine sm_oq_add e_v12 e_l3 ?_; intro v13 y_v13 e_v13
    refine sm_si hM_h rfl e_v13 e_l2 ?_; intro h14 hM_h14
    exact sj_X13_element_141 nn hM_h14
set_option maxRecDepth 4000 in
theorem sj_X13_element_54 (nn : Nat) {h : ms_M} (hM_h : Rg_M h) : Sm_ RV_ (j_X13_element_54 nn 160 (H_M h)) (qj_X13_element_54 nn h) := by
  unfold j_X13_element_54 qj_X13_element_54
  refine sm_is hM_h rfl ?_
  refine sm_cV (sf_X13_fails nn rfl hM_h) ?_; intro u17 hM_u17
  exact sm_rV hM_u17
set_option maxRecDepth 4000 in
theorem sj_X13_element_14 (nn : Nat) {l1 : Int32} {y_l1 : Int} (e_l1 : l1.toInt = y_l1) {s0 : Int32} {y_s0 : Int} (e_s0 : s0.toInt = y_s0) {h : ms_M} (hM_h : Rg_M h) : Sm_ RV_ (j_X13_element_14 nn 160 l1 s0 (H_M h)) (qj_X13_element_14 nn y_l1 y_s0 h) := by
  unfold j_X13_element_14 qj_X13_element_14
  refine sm_is hM_h rfl ?_
  refine sm_cI (sf_X13_drop nn hM_h) ?_; intro u19 y_u19 M_u19 e_u19 hM_u19
  refine sm_is hM_u19 rfl ?_
  refine sm_cI (sf_X13_drop nn hM_u19) ?_; intro u21 y_u21 M_u21 e_u21 hM_u21
  refine sm_ne e_u21 rfl ?_ ?_
  · refine sm_lt e_u19 rfl ?_ ?_
    · exact sj_X13_element_54 nn hM_u21
    · refine sm_gr hM_u21 (d := 248) rfl ?_
      refine sm_ai hM_u21 rfl e_u21 ?_; intro v23 y_v23 e_v23
      refine sm_lt e_u19 e_v23 ?_ ?_
      · refine sm_ne e_l1 rfl ?_ ?_
        · exact sj_X13_element_99 nn e_l1 e_s0 e_u19 e_u21 hM_u21
        · refine sm_eq e_s0 rfl ?_ ?_
          · exact sj_X13_element_99 nn e_l1 e_s0 e_u19 e_u21 hM_u21
          · refine sm_gr hM_u21 (d := 246) rfl ?_
            refine sm_ai hM_u21 rfl e_u21 ?_; intro v25 y_v25 e_v25
            refine sm_oq_sub e_v25 rfl ?_; intro v26 y_v26 e_v26
            refine sm_is hM_u21 rfl ?_
            refine sm_cP (sf_X13_storesIn nn e_s0 e_v26 hM_u21) ?_; intro u28 y_u28 e_u28
            refine sm_ne e_u28 rfl ?_ ?_
            · exact sj_X13_element_99 nn e_l1 e_s0 e_u19 e_u21 hM_u21
            · refine sm_is hM_u21 rfl ?_
              refine sm_cV (sf_X13_fails nn rfl hM_u21) ?_; intro u30 hM_u30
              exact sm_rV hM_u30
      · exact sj_X13_element_54 nn hM_u21
  · refine sm_is hM_u21 rfl ?_
    refine sm_cV (sf_X13_fails nn rfl hM_u21) ?_; intro u37 hM_u37
    exact sm_rV hM_u37
set_option maxRecDepth 4000 in
theorem sf_X13_element (nn : Nat) {a1 : Int32} {y_a1 : Int} (e_a1 : a1.toInt = y_a1) {h : ms_M} (hM_h : Rg_M h) : Sm_ RV_ (f_X13_element nn 160 a1 (H_M h)) (qf_X13_element nn y_a1 h) := by
  unfold f_X13_element qf_X13_element
  refine sm_le e_a1 rfl ?_ ?_
  · exact sj_X13_element_14 nn e_a1 rfl hM_h
  · refine sm_is hM_h rfl ?_
    refine sm_cI (sf_X13_drop nn hM_h) ?_; intro u40 y_u40 M_u40 e_u40 hM_u40
    exact sj_X13_element_14 nn e_a1 e_u40 hM_u40
set_option maxRecDepth 4000 in
theorem sj_X13_fieldsOf_29 (nn : Nat) {kk_4 : Nat → Int32 → Int32 → mx_H → Option (Int32 × mx_H)} {qkk_4 : Int → Int → ms_M → Option Int} (hk_kk_4 : ∀ {l2 : Int32} {y_l2 : Int} (e_l2 : l2.toInt = y_l2) {l3 : Int32} {y_l3 : Int} (e_l3 : l3.toInt = y_l3) {h : ms_M} (hM_h : Rg_M h), Sm_ (RP_ h) (kk_4 160 l2 l3 (H_M h)) (qkk_4 y_l2 y_l3 h)) {l3 : Int32} {y_l3 : Int} (e_l3 : l3.toInt = y_l3) {s0 : Int32} {y_s0 : Int} (e_s0 : s0.toInt = y_s0) {s1 : Int32} {y_s1 : Int} (e_s1 : s1.toInt = y_s1) {h : ms_M} (hM_h : Rg_M h) : Sm_ (RP_ h) (j_X13_fieldsOf_29 nn kk_4 160 l3 s0 s1 (H_M h)) (qj_X13_fieldsOf_29 nn qkk_4 y_l3 y_s0 y_s1 h) := by
  unfold j_X13_fieldsOf_29 qj_X13_fieldsOf_29
  refine sm_oq_add e_s1 e_s0 ?_; intro v1 y_v1 e_v1
  refine sm_is hM_h rfl ?_
  refine sm_cP (sf_X13_superOf nn e_l3 hM_h) ?_; intro u3 y_u3 e_u3
  exact hk_kk_4 e_v1 e_u3 hM_h
set_option maxRecDepth 4000 in
theorem sw_X13_fieldsOf_4 (nn : Nat) : ∀ (k : Nat) {l2 : Int32} {y_l2 : Int} (e_l2 : l2.toInt = y_l2) {l3 : Int32} {y_l3 : Int} (e_l3 : l3.toInt = y_l3) {h : ms_M} (hM_h : Rg_M h), Sm_ (RP_ h) (w_X13_fieldsOf_4 nn k 160 l2 l3 (H_M h)) (qw_X13_fieldsOf_4 nn k y_l2 y_l3 h) := by
  intro k
  induction k with
  | zero => intros; exact sm_no
  | succ k ih =>
    intro l2 y_l2 e_l2 l3 y_l3 e_l3 h hM_h
    unfold w_X13_fieldsOf_4 qw_X13_fieldsOf_4
    refine sm_eq e_l3 rfl ?_ ?_
    · exact sm_rP e_l2
    · refine sm_le rfl e_l3 ?_ ?_
      · refine sm_gr hM_h (d := 232) rfl ?_
        refine sm_oq_sub e_l3 rfl ?_; intro v5 y_v5 e_v5
        refine sm_ai hM_h rfl e_v5 ?_; intro v6 y_v6 e_v6
        exact sj_X13_fieldsOf_29 nn ih e_l3 e_v6 e_l2 hM_h
      · exact sj_X13_fieldsOf_29 nn ih e_l3 rfl e_l2 hM_h
set_option maxRecDepth 4000 in
theorem sf_X13_fieldsOf (nn : Nat) {a1 : Int32} {y_a1 : Int} (e_a1 : a1.toInt = y_a1) {h : ms_M} (hM_h : Rg_M h) : Sm_ (RP_ h) (f_X13_fieldsOf nn 160 a1 (H_M h)) (qf_X13_fieldsOf nn y_a1 h) := by
  unfold f_X13_fieldsOf qf_X13_fieldsOf
  exact sw_X13_fieldsOf_4 nn nn rfl e_a1 hM_h
set_option maxRecDepth 4000 in
theorem sj_X13_fieldOf_147 (nn : Nat) {l3 : Int32} {y_l3 : Int} (e_l3 : l3.toInt = y_l3) {h : ms_M} (hM_h : Rg_M h) : Sm_ RV_ (j_X13_fieldOf_147 nn 160 l3 (H_M h)) (qj_X13_fieldOf_147 nn y_l3 h) := by
  unfold j_X13_fieldOf_147 qj_X13_fieldOf_147
  refine sm_is hM_h rfl ?_
  refine sm_cV (sf_X13_on nn e_l3 hM_h) ?_; intro u2 hM_u2
  exact sm_rV hM_u2
set_option maxRecDepth 4000 in
theorem sj_X13_fieldOf_15 (nn : Nat) {l1 : Int32} {y_l1 : Int} (e_l1 : l1.toInt = y_l1) {l2 : Int32} {y_l2 : Int} (e_l2 : l2.toInt = y_l2) {l3 : Int32} {y_l3 : Int} (e_l3 : l3.toInt = y_l3) {s0 : Int32} {y_s0 : Int} (e_s0 : s0.toInt = y_s0) {h : ms_M} (hM_h : Rg_M h) : Sm_ RV_ (j_X13_fieldOf_15 nn 160 l1 l2 l3 s0 (H_M h)) (qj_X13_fieldOf_15 nn y_l1 y_l2 y_l3 y_s0 h) := by
  unfold j_X13_fieldOf_15 qj_X13_fieldOf_15
  refine sm_is hM_h rfl ?_
  refine sm_cI (sf_X13_drop nn hM_h) ?_; intro u4 y_u4 M_u4 e_u4 hM_u4
  refine sm_ne e_u4 rfl ?_ ?_
  · refine sm_ne e_l1 rfl ?_ ?_
    · refine sm_is hM_u4 rfl ?_
      refine sm_cP (sf_X13_memberPart nn e_l2 rfl hM_u4) ?_; intro u6 y_u6 e_u6
      refine sm_is hM_u4 rfl ?_
      refine sm_cP (sf_X13_classIn nn e_u6 hM_u4) ?_; intro u8 y_u8 e_u8
      refine sm_gr hM_u4 (d := 251) rfl ?_
      refine sm_gi hM_u4 rfl ?_; intro v10 e_v10
      refine sm_oq_sub e_v10 rfl ?_; intro v11 y_v11 e_v11
      refine sm_ai hM_u4 rfl e_v11 ?_; intro v12 y_v12 e_v12
      refine sm_oq_sub e_v12 rfl ?_; intro v13 y_v13 e_v13
      refine sm_is hM_u4 rfl ?_
      refine sm_cP (sf_X13_memberPart nn e_l2 rfl hM_u4) ?_; intro u15 y_u15 e_u15
      refine sm_is hM_u4 rfl ?_
      refine sm_cI (sf_X13_holder nn e_u8 e_v13 e_u15 rfl hM_u4) ?_; intro u17 y_u17 M_u17 e_u17 hM_u17
      refine sm_gr hM_u17 (d := 247) rfl ?_
      refine sm_ai hM_u17 rfl e_u4 ?_; intro v19 y_v19 e_v19
      refine sm_is hM_u17 rfl ?_
      refine sm_cP (sf_X13_superOf nn e_u17 hM_u17) ?_; intro u21 y_u21 e_u21
      refine sm_is hM_u17 rfl ?_
      refine sm_cP (sf_X13_fieldsOf nn e_u21 hM_u17) ?_; intro u23 y_u23 e_u23
      refine sm_oq_add e_v19 e_u23 ?_; intro v24 y_v24 e_v24
      refine sm_gi hM_u17 rfl ?_; intro v25 e_v25
      refine sm_oq_add e_v24 e_v25 ?_; intro v26 y_v26 e_v26
      refine sm_ne e_l1 rfl ?_ ?_
      · refine sm_gr hM_u17 (d := 249) rfl ?_
        refine sm_si hM_u17 rfl e_v26 e_s0 ?_; intro h28 hM_h28
        exact sj_X13_fieldOf_147 nn e_l3 hM_h28
      · refine sm_gr hM_u17 (d := 249) rfl ?_
        refine sm_ai hM_u17 rfl e_v26 ?_; intro v30 y_v30 e_v30
        refine sm_is hM_u17 rfl ?_
        refine sm_cV (sf_X13_give nn e_v30 hM_u17) ?_; intro u32 hM_u32
        exact sj_X13_fieldOf_147 nn e_l3 hM_u32
    · refine sm_gr hM_u4 (d := 248) rfl ?_
      refine sm_ai hM_u4 rfl e_u4 ?_; intro v35 y_v35 e_v35
      refine sm_is hM_u4 rfl ?_
      refine sm_cV (sf_X13_give nn e_v35 hM_u4) ?_; intro u37 hM_u37
      exact sj_X13_fieldOf_147 nn e_l3 hM_u37
  · refine sm_is hM_u4 rfl ?_
    refine sm_cV (sf_X13_fails nn rfl hM_u4) ?_; intro u40 hM_u40
    exact sm_rV hM_u40
set_option maxRecDepth 4000 in
theorem sf_X13_fieldOf (nn : Nat) {a1 : Int32} {y_a1 : Int} (e_a1 : a1.toInt = y_a1) {a2 : Int32} {y_a2 : Int} (e_a2 : a2.toInt = y_a2) {a3 : Int32} {y_a3 : Int} (e_a3 : a3.toInt = y_a3) {h : ms_M} (hM_h : Rg_M h) : Sm_ RV_ (f_X13_fieldOf nn 160 a1 a2 a3 (H_M h)) (qf_X13_fieldOf nn y_a1 y_a2 y_a3 h) := by
  unfold f_X13_fieldOf qf_X13_fieldOf
  refine sm_ne e_a1 rfl ?_ ?_
  · exact sj_X13_fieldOf_15 nn e_a1 e_a2 e_a3 rfl hM_h
  · refine sm_is hM_h rfl ?_
    refine sm_cI (sf_X13_drop nn hM_h) ?_; intro u43 y_u43 M_u43 e_u43 hM_u43
    exact sj_X13_fieldOf_15 nn e_a1 e_a2 e_a3 e_u43 hM_u43
set_option maxRecDepth 4000 in
theorem sj_X13_fresh__89 (nn : Nat) {s0 : Int32} {y_s0 : Int} (e_s0 : s0.toInt = y_s0) {h : ms_M} (hM_h : Rg_M h) : Sm_ RV_ (j_X13_fresh__89 nn 160 s0 (H_M h)) (qj_X13_fresh__89 nn y_s0 h) := by
  unfold j_X13_fresh__89 qj_X13_fresh__89
  refine sm_ne e_s0 rfl ?_ ?_
  · refine sm_is hM_h rfl ?_
    refine sm_cV (sf_X13_give nn e_s0 hM_h) ?_; intro u2 hM_u2
    refine sm_is hM_u2 rfl ?_
    refine sm_cV (sf_X13_on nn rfl hM_u2) ?_; intro u4 hM_u4
    exact sm_rV hM_u4
  · exact sm_rV hM_h
set_option maxRecDepth 4000 in
theorem sj_X13_fresh__85 (nn : Nat) {l3 : Int32} {y_l3 : Int} (e_l3 : l3.toInt = y_l3) {s0 : Int32} {y_s0 : Int} (e_s0 : s0.toInt = y_s0) {h : ms_M} (hM_h : Rg_M h) : Sm_ RV_ (j_X13_fresh__85 nn 160 l3 s0 160 (H_M h)) (qj_X13_fresh__85 nn y_l3 y_s0 h) := by
  unfold j_X13_fresh__85 qj_X13_fresh__85
  refine sm_is hM_h rfl ?_
  refine sm_cI (sf_X13_make_ nn e_s0 e_l3 hM_h) ?_; intro u7 y_u7 M_u7 e_u7 hM_u7
  exact sj_X13_fresh__89 nn e_u7 hM_u7
set_option maxRecDepth 4000 in
theorem sj_X13_fresh__43 (nn : Nat) {l1 : Int32} {y_l1 : Int} (e_l1 : l1.toInt = y_l1) {l3 : Int32} {y_l3 : Int} (e_l3 : l3.toInt = y_l3) {s0 : Int32} {y_s0 : Int} (e_s0 : s0.toInt = y_s0) {h : ms_M} (hM_h : Rg_M h) : Sm_ RV_ (j_X13_fresh__43 nn 160 l1 l3 s0 (H_M h)) (qj_X13_fresh__43 nn y_l1 y_l3 y_s0 h) := by
  unfold j_X13_fresh__43 qj_X13_fresh__43
  refine sm_ne e_l1 rfl ?_ ?_
  · refine sm_ne e_l1 rfl ?_ ?_
    · refine sm_oq_add rfl e_s0 ?_; intro v8 y_v8 e_v8
      exact sj_X13_fresh__85 nn e_l3 e_v8 hM_h
    · exact sj_X13_fresh__85 nn e_l3 rfl hM_h
  · refine sm_is hM_h rfl ?_
    refine sm_cP (sf_X13_fieldsOf nn e_s0 hM_h) ?_; intro u11 y_u11 e_u11
    refine sm_is hM_h rfl ?_
    refine sm_cI (sf_X13_make_ nn e_s0 e_u11 hM_h) ?_; intro u13 y_u13 M_u13 e_u13 hM_u13
    exact sj_X13_fresh__89 nn e_u13 hM_u13
set_option maxRecDepth 4000 in
theorem sj_X13_fresh__15 (nn : Nat) {l1 : Int32} {y_l1 : Int} (e_l1 : l1.toInt = y_l1) {l2 : Int32} {y_l2 : Int} (e_l2 : l2.toInt = y_l2) {s0 : Int32} {y_s0 : Int} (e_s0 : s0.toInt = y_s0) {h : ms_M} (hM_h : Rg_M h) : Sm_ RV_ (j_X13_fresh__15 nn 160 l1 l2 s0 (H_M h)) (qj_X13_fresh__15 nn y_l1 y_l2 y_s0 h) := by
  unfold j_X13_fresh__15 qj_X13_fresh__15
  refine sm_le rfl e_s0 ?_ ?_
  · refine sm_ne e_l1 rfl ?_ ?_
    · refine sm_is hM_h rfl ?_
      refine sm_cP (sf_X13_classIn nn e_l2 hM_h) ?_; intro u16 y_u16 e_u16
      exact sj_X13_fresh__43 nn e_l1 e_s0 e_u16 hM_h
    · exact sj_X13_fresh__43 nn e_l1 e_s0 rfl hM_h
  · refine sm_is hM_h rfl ?_
    refine sm_cV (sf_X13_fails nn rfl hM_h) ?_; intro u19 hM_u19
    exact sm_rV hM_u19
set_option maxRecDepth 4000 in
theorem sf_X13_fresh_ (nn : Nat) {a1 : Int32} {y_a1 : Int} (e_a1 : a1.toInt = y_a1) {a2 : Int32} {y_a2 : Int} (e_a2 : a2.toInt = y_a2) {h : ms_M} (hM_h : Rg_M h) : Sm_ RV_ (f_X13_fresh_ nn 160 a1 a2 (H_M h)) (qf_X13_fresh_ nn y_a1 y_a2 h) := by
  unfold f_X13_fresh_ qf_X13_fresh_
  refine sm_ne e_a1 rfl ?_ ?_
  · refine sm_is hM_h rfl ?_
    refine sm_cI (sf_X13_drop nn hM_h) ?_; intro u22 y_u22 M_u22 e_u22 hM_u22
    exact sj_X13_fresh__15 nn e_a1 e_a2 e_u22 hM_u22
  · exact sj_X13_fresh__15 nn e_a1 e_a2 rfl hM_h
set_option maxRecDepth 4000 in
theorem sf_X13_intOf (nn : Nat) {a1 : Int32} {y_a1 : Int} (e_a1 : a1.toInt = y_a1) {h : ms_M} (hM_h : Rg_M h) : Sm_ (RP_ h) (f_X13_intOf nn 160 a1 (H_M h)) (qf_X13_intOf nn y_a1 h) := by
  unfold f_X13_intOf qf_X13_intOf
  refine sm_gr hM_h (d := 251) rfl ?_
  refine sm_gi hM_h rfl ?_; intro v2 e_v2
  refine sm_oq_sub e_v2 rfl ?_; intro v3 y_v3 e_v3
  refine sm_ai hM_h rfl e_v3 ?_; intro v4 y_v4 e_v4
  refine sm_oq_sub e_v4 rfl ?_; intro v5 y_v5 e_v5
  refine sm_gr hM_h (d := 228) rfl ?_
  refine sm_oq_mul rfl e_v5 ?_; intro v7 y_v7 e_v7
  refine sm_oq_add e_v7 e_a1 ?_; intro v8 y_v8 e_v8
  refine sm_ai hM_h rfl e_v8 ?_; intro v9 y_v9 e_v9
  refine sm_oq_add e_v9 rfl ?_; intro v10 y_v10 e_v10
  refine sm_is hM_h rfl ?_
  refine sm_cP (sf_X13_byteAt nn e_v5 e_v10 hM_h) ?_; intro u12 y_u12 e_u12
  refine sm_oq_shl e_u12 rfl ?_; intro v13 y_v13 e_v13
  refine sm_oq_add e_v10 rfl ?_; intro v14 y_v14 e_v14
  refine sm_is hM_h rfl ?_
  refine sm_cP (sf_X13_byteAt nn e_v5 e_v14 hM_h) ?_; intro u16 y_u16 e_u16
  refine sm_oq_shl e_u16 rfl ?_; intro v17 y_v17 e_v17
  refine sm_oq_or e_v13 e_v17 ?_; intro v18 y_v18 e_v18
  refine sm_oq_add e_v10 rfl ?_; intro v19 y_v19 e_v19
  refine sm_is hM_h rfl ?_
  refine sm_cP (sf_X13_byteAt nn e_v5 e_v19 hM_h) ?_; intro u21 y_u21 e_u21
  refine sm_oq_shl e_u21 rfl ?_; intro v22 y_v22 e_v22
  refine sm_oq_or e_v18 e_v22 ?_; intro v23 y_v23 e_v23
  refine sm_oq_add e_v10 rfl ?_; intro v24 y_v24 e_v24
  refine sm_is hM_h rfl ?_
  refine sm_cP (sf_X13_byteAt nn e_v5 e_v24 hM_h) ?_; intro u26 y_u26 e_u26
  refine sm_oq_or e_v23 e_u26 ?_; intro v27 y_v27 e_v27
  exact sm_rP e_v27
set_option maxRecDepth 4000 in
theorem sj_X13_is_68 (nn : Nat) {l3 : Int32} {y_l3 : Int} (e_l3 : l3.toInt = y_l3) {h : ms_M} (hM_h : Rg_M h) : Sm_ RI_ (j_X13_is_68 nn 160 l3 (H_M h)) (qj_X13_is_68 nn y_l3 h) := by
  unfold j_X13_is_68 qj_X13_is_68
  refine sm_is hM_h rfl ?_
  refine sm_cV (sf_X13_give nn e_l3 hM_h) ?_; intro u2 hM_u2
  exact sm_rI rfl hM_u2
set_option maxRecDepth 4000 in
theorem sj_X13_is_27 (nn : Nat) {l1 : Int32} {y_l1 : Int} (e_l1 : l1.toInt = y_l1) {l3 : Int32} {y_l3 : Int} (e_l3 : l3.toInt = y_l3) {s0 : Int32} {y_s0 : Int} (e_s0 : s0.toInt = y_s0) {h : ms_M} (hM_h : Rg_M h) : Sm_ RI_ (j_X13_is_27 nn 160 l1 l3 s0 (H_M h)) (qj_X13_is_27 nn y_l1 y_l3 y_s0 h) := by
  unfold j_X13_is_27 qj_X13_is_27
  refine sm_ne e_l1 rfl ?_ ?_
  · refine sm_eq e_l3 rfl ?_ ?_
    · exact sj_X13_is_68 nn e_l3 hM_h
    · refine sm_ne e_s0 rfl ?_ ?_
      · exact sj_X13_is_68 nn e_l3 hM_h
      · refine sm_is hM_h rfl ?_
        refine sm_cV (sf_X13_fails nn rfl hM_h) ?_; intro u4 hM_u4
        exact sm_rI rfl hM_u4
  · refine sm_eq e_s0 rfl ?_ ?_
    · refine sm_is hM_h rfl ?_
      refine sm_cV (sf_X13_give nn rfl hM_h) ?_; intro u8 hM_u8
      exact sm_rI rfl hM_u8
    · refine sm_is hM_h rfl ?_
      refine sm_cV (sf_X13_give nn rfl hM_h) ?_; intro u10 hM_u10
      exact sm_rI rfl hM_u10
set_option maxRecDepth 4000 in
theorem sj_X13_is_26 (nn : Nat) {l1 : Int32} {y_l1 : Int} (e_l1 : l1.toInt = y_l1) {l3 : Int32} {y_l3 : Int} (e_l3 : l3.toInt = y_l3) {h : ms_M} (hM_h : Rg_M h) : Sm_ RI_ (j_X13_is_26 nn 160 l1 l3 (H_M h)) (qj_X13_is_26 nn y_l1 y_l3 h) := by
  unfold j_X13_is_26 qj_X13_is_26
  exact sj_X13_is_27 nn e_l1 e_l3 rfl hM_h
set_option maxRecDepth 4000 in
theorem sf_X13_is (nn : Nat) {a1 : Int32} {y_a1 : Int} (e_a1 : a1.toInt = y_a1) {a2 : Int32} {y_a2 : Int} (e_a2 : a2.toInt = y_a2) {h : ms_M} (hM_h : Rg_M h) : Sm_ RI_ (f_X13_is nn 160 a1 a2 (H_M h)) (qf_X13_is nn y_a1 y_a2 h) := by
  unfold f_X13_is qf_X13_is
  refine sm_is hM_h rfl ?_
  refine sm_cI (sf_X13_drop nn hM_h) ?_; intro u14 y_u14 M_u14 e_u14 hM_u14
  refine sm_eq e_u14 rfl ?_ ?_
  · exact sj_X13_is_26 nn e_a1 e_u14 hM_u14
  · refine sm_is hM_u14 rfl ?_
    refine sm_cP (sf_X13_classIn nn e_a2 hM_u14) ?_; intro u16 y_u16 e_u16
    refine sm_is hM_u14 rfl ?_
    refine sm_cP (sf_X13_isOne nn e_u14 e_u16 hM_u14) ?_; intro u18 y_u18 e_u18
    refine sm_eq e_u18 rfl ?_ ?_
    · exact sj_X13_is_26 nn e_a1 e_u14 hM_u14
    · exact sj_X13_is_27 nn e_a1 e_u14 rfl hM_u14
set_option maxRecDepth 4000 in
theorem sj_X13_jumps_155 (nn : Nat) {l2 : Int32} {y_l2 : Int} (e_l2 : l2.toInt = y_l2) {l3 : Int32} {y_l3 : Int} (e_l3 : l3.toInt = y_l3) {h : ms_M} (hM_h : Rg_M h) : Sm_ RI_ (j_X13_jumps_155 nn l2 l3 (H_M h)) (qj_X13_jumps_155 nn y_l2 y_l3 h) := by
  unfold j_X13_jumps_155 qj_X13_jumps_155
  refine sm_lt e_l2 e_l3 ?_ ?_
  · exact sm_rI rfl hM_h
  · exact sm_rI rfl hM_h
set_option maxRecDepth 4000 in
theorem sj_X13_jumps_111 (nn : Nat) {l2 : Int32} {y_l2 : Int} (e_l2 : l2.toInt = y_l2) {l3 : Int32} {y_l3 : Int} (e_l3 : l3.toInt = y_l3) {h : ms_M} (hM_h : Rg_M h) : Sm_ RI_ (j_X13_jumps_111 nn l2 l3 (H_M h)) (qj_X13_jumps_111 nn y_l2 y_l3 h) := by
  unfold j_X13_jumps_111 qj_X13_jumps_111
  refine sm_eq e_l3 e_l2 ?_ ?_
  · exact sm_rI rfl hM_h
  · exact sm_rI rfl hM_h
set_option maxRecDepth 4000 in
theorem sj_X13_jumps_100 (nn : Nat) {l2 : Int32} {y_l2 : Int} (e_l2 : l2.toInt = y_l2) {l3 : Int32} {y_l3 : Int} (e_l3 : l3.toInt = y_l3) {h : ms_M} (hM_h : Rg_M h) : Sm_ RI_ (j_X13_jumps_100 nn l2 l3 (H_M h)) (qj_X13_jumps_100 nn y_l2 y_l3 h) := by
  unfold j_X13_jumps_100 qj_X13_jumps_100
  refine sm_ne e_l3 e_l2 ?_ ?_
  · exact sm_rI rfl hM_h
  · exact sm_rI rfl hM_h
set_option maxRecDepth 4000 in
theorem sf_X13_jumps (nn : Nat) {a1 : Int32} {y_a1 : Int} (e_a1 : a1.toInt = y_a1) {h : ms_M} (hM_h : Rg_M h) : Sm_ RI_ (f_X13_jumps nn 160 a1 (H_M h)) (qf_X13_jumps nn y_a1 h) := by
  unfold f_X13_jumps qf_X13_jumps
  refine sm_ne e_a1 rfl ?_ ?_
  · refine sm_is hM_h rfl ?_
    refine sm_cI (sf_X13_drop nn hM_h) ?_; intro u5 y_u5 M_u5 e_u5 hM_u5
    refine sm_ne e_a1 rfl ?_ ?_
    · refine sm_ne e_a1 rfl ?_ ?_
      · refine sm_is hM_u5 rfl ?_
        refine sm_cI (sf_X13_drop nn hM_u5) ?_; intro u7 y_u7 M_u7 e_u7 hM_u7
        refine sm_eq e_a1 rfl ?_ ?_
        · exact sj_X13_jumps_100 nn e_u5 e_u7 hM_u7
        · refine sm_eq e_a1 rfl ?_ ?_
          · exact sj_X13_jumps_111 nn e_u5 e_u7 hM_u7
          · refine sm_eq e_a1 rfl ?_ ?_
            · refine sm_le e_u5 e_u7 ?_ ?_
              · exact sm_rI rfl hM_u7
              · exact sm_rI rfl hM_u7
            · refine sm_eq e_a1 rfl ?_ ?_
              · refine sm_lt e_u7 e_u5 ?_ ?_
                · exact sm_rI rfl hM_u7
                · exact sm_rI rfl hM_u7
              · refine sm_eq e_a1 rfl ?_ ?_
                · refine sm_le e_u7 e_u5 ?_ ?_
                  · exact sm_rI rfl hM_u7
                  · exact sm_rI rfl hM_u7
                · refine sm_eq e_a1 rfl ?_ ?_
                  · exact sj_X13_jumps_100 nn e_u5 e_u7 hM_u7
                  · refine sm_eq e_a1 rfl ?_ ?_
                    · exact sj_X13_jumps_111 nn e_u5 e_u7 hM_u7
                    · exact sj_X13_jumps_155 nn e_u5 e_u7 hM_u7
      · refine sm_eq e_u5 rfl ?_ ?_
        · exact sm_rI rfl hM_u5
        · exact sm_rI rfl hM_u5
    · refine sm_ne e_u5 rfl ?_ ?_
      · exact sm_rI rfl hM_u5
      · exact sm_rI rfl hM_u5
  · exact sm_rI rfl hM_h
set_option maxRecDepth 4000 in
theorem sf_X13_opAt (nn : Nat) {a1 : Int32} {y_a1 : Int} (e_a1 : a1.toInt = y_a1) {h : ms_M} (hM_h : Rg_M h) : Sm_ (RP_ h) (f_X13_opAt nn 160 a1 (H_M h)) (qf_X13_opAt nn y_a1 h) := by
  unfold f_X13_opAt qf_X13_opAt
  refine sm_gr hM_h (d := 251) rfl ?_
  refine sm_gi hM_h rfl ?_; intro v2 e_v2
  refine sm_oq_sub e_v2 rfl ?_; intro v3 y_v3 e_v3
  refine sm_ai hM_h rfl e_v3 ?_; intro v4 y_v4 e_v4
  refine sm_oq_sub e_v4 rfl ?_; intro v5 y_v5 e_v5
  refine sm_gr hM_h (d := 235) rfl ?_
  refine sm_gr hM_h (d := 251) rfl ?_
  refine sm_gi hM_h rfl ?_; intro v8 e_v8
  refine sm_oq_sub e_v8 rfl ?_; intro v9 y_v9 e_v9
  refine sm_ai hM_h rfl e_v9 ?_; intro v10 y_v10 e_v10
  refine sm_oq_sub e_v10 rfl ?_; intro v11 y_v11 e_v11
  refine sm_oq_mul rfl e_v11 ?_; intro v12 y_v12 e_v12
  refine sm_gr hM_h (d := 252) rfl ?_
  refine sm_gi hM_h rfl ?_; intro v14 e_v14
  refine sm_oq_sub e_v14 rfl ?_; intro v15 y_v15 e_v15
  refine sm_ai hM_h rfl e_v15 ?_; intro v16 y_v16 e_v16
  refine sm_oq_add e_v12 e_v16 ?_; intro v17 y_v17 e_v17
  refine sm_ai hM_h rfl e_v17 ?_; intro v18 y_v18 e_v18
  refine sm_oq_add e_v18 rfl ?_; intro v19 y_v19 e_v19
  refine sm_oq_add e_v19 e_a1 ?_; intro v20 y_v20 e_v20
  refine sm_is hM_h rfl ?_
  refine sm_cP (sf_X13_byteAt nn e_v5 e_v20 hM_h) ?_; intro u22 y_u22 e_u22
  exact sm_rP e_u22
set_option maxRecDepth 4000 in
theorem sj_X13_reckon_188 (nn : Nat) {l1 : Int32} {y_l1 : Int} (e_l1 : l1.toInt = y_l1) {l2 : Int32} {y_l2 : Int} (e_l2 : l2.toInt = y_l2) {h : ms_M} (hM_h : Rg_M h) : Sm_ (RP_ h) (j_X13_reckon_188 nn l1 l2 (H_M h)) (qj_X13_reckon_188 nn y_l1 y_l2 h) := by
  unfold j_X13_reckon_188 qj_X13_reckon_188
  refine sm_oq_xor e_l1 e_l2 ?_; intro v1 y_v1 e_v1
  exact sm_rP e_v1
set_option maxRecDepth 4000 in
theorem sf_X13_reckon (nn : Nat) {a0 : Int32} {y_a0 : Int} (e_a0 : a0.toInt = y_a0) {a1 : Int32} {y_a1 : Int} (e_a1 : a1.toInt = y_a1) {a2 : Int32} {y_a2 : Int} (e_a2 : a2.toInt = y_a2) {h : ms_M} (hM_h : Rg_M h) : Sm_ (RP_ h) (f_X13_reckon nn a0 a1 a2 (H_M h)) (qf_X13_reckon nn y_a0 y_a1 y_a2 h) := by
  unfold f_X13_reckon qf_X13_reckon
  refine sm_eq e_a0 rfl ?_ ?_
  · refine sm_oq_add e_a1 e_a2 ?_; intro v2 y_v2 e_v2
    exact sm_rP e_v2
  · refine sm_eq e_a0 rfl ?_ ?_
    · refine sm_oq_sub e_a1 e_a2 ?_; intro v3 y_v3 e_v3
      exact sm_rP e_v3
    · refine sm_eq e_a0 rfl ?_ ?_
      · refine sm_oq_mul e_a1 e_a2 ?_; intro v4 y_v4 e_v4
        exact sm_rP e_v4
      · refine sm_eq e_a0 rfl ?_ ?_
        · refine sm_eq e_a2 rfl ?_ ?_
          · exact sm_no
          · refine sm_oq_div e_a1 e_a2 ?_; intro v5 y_v5 e_v5
            exact sm_rP e_v5
        · refine sm_eq e_a0 rfl ?_ ?_
          · refine sm_eq e_a2 rfl ?_ ?_
            · exact sm_no
            · refine sm_oq_rem e_a1 e_a2 ?_; intro v6 y_v6 e_v6
              exact sm_rP e_v6
          · refine sm_eq e_a0 rfl ?_ ?_
            · refine sm_oq_shl e_a1 e_a2 ?_; intro v7 y_v7 e_v7
              exact sm_rP e_v7
            · refine sm_eq e_a0 rfl ?_ ?_
              · refine sm_oq_shr e_a1 e_a2 ?_; intro v8 y_v8 e_v8
                exact sm_rP e_v8
              · refine sm_eq e_a0 rfl ?_ ?_
                · refine sm_oq_ushr e_a1 e_a2 ?_; intro v9 y_v9 e_v9
                  exact sm_rP e_v9
                · refine sm_eq e_a0 rfl ?_ ?_
                  · refine sm_oq_and e_a1 e_a2 ?_; intro v10 y_v10 e_v10
                    exact sm_rP e_v10
                  · refine sm_eq e_a0 rfl ?_ ?_
                    · refine sm_oq_or e_a1 e_a2 ?_; intro v11 y_v11 e_v11
                      exact sm_rP e_v11
                    · exact sj_X13_reckon_188 nn e_a1 e_a2 hM_h
set_option maxRecDepth 4000 in
theorem sj_X13_widthOf_742 (nn : Nat) {h : ms_M} (hM_h : Rg_M h) : Sm_ (RP_ h) (j_X13_widthOf_742 nn (H_M h)) (qj_X13_widthOf_742 nn h) := by
  unfold j_X13_widthOf_742 qj_X13_widthOf_742
  exact sm_rP rfl
set_option maxRecDepth 4000 in
theorem sj_X13_widthOf_740 (nn : Nat) {h : ms_M} (hM_h : Rg_M h) : Sm_ (RP_ h) (j_X13_widthOf_740 nn (H_M h)) (qj_X13_widthOf_740 nn h) := by
  unfold j_X13_widthOf_740 qj_X13_widthOf_740
  exact sm_rP rfl
set_option maxRecDepth 4000 in
theorem sj_X13_widthOf_738 (nn : Nat) {h : ms_M} (hM_h : Rg_M h) : Sm_ (RP_ h) (j_X13_widthOf_738 nn (H_M h)) (qj_X13_widthOf_738 nn h) := by
  unfold j_X13_widthOf_738 qj_X13_widthOf_738
  exact sm_rP rfl
set_option maxRecDepth 4000 in
theorem sj_X13_widthOf_736 (nn : Nat) {h : ms_M} (hM_h : Rg_M h) : Sm_ (RP_ h) (j_X13_widthOf_736 nn (H_M h)) (qj_X13_widthOf_736 nn h) := by
  unfold j_X13_widthOf_736 qj_X13_widthOf_736
  exact sm_rP rfl
set_option maxRecDepth 4000 in
theorem sf_X13_widthOf (nn : Nat) {a0 : Int32} {y_a0 : Int} (e_a0 : a0.toInt = y_a0) {h : ms_M} (hM_h : Rg_M h) : Sm_ (RP_ h) (f_X13_widthOf nn a0 (H_M h)) (qf_X13_widthOf nn y_a0 h) := by
  unfold f_X13_widthOf qf_X13_widthOf
  refine sm_lt rfl e_a0 ?_ ?_
  · refine sm_eq e_a0 rfl ?_ ?_
    · exact sj_X13_widthOf_736 nn hM_h
    · refine sm_eq e_a0 rfl ?_ ?_
      · exact sj_X13_widthOf_736 nn hM_h
      · refine sm_eq e_a0 rfl ?_ ?_
        · exact sj_X13_widthOf_736 nn hM_h
        · refine sm_eq e_a0 rfl ?_ ?_
          · exact sj_X13_widthOf_736 nn hM_h
          · refine sm_eq e_a0 rfl ?_ ?_
            · exact sj_X13_widthOf_738 nn hM_h
            · refine sm_eq e_a0 rfl ?_ ?_
              · exact sj_X13_widthOf_738 nn hM_h
              · refine sm_eq e_a0 rfl ?_ ?_
                · exact sj_X13_widthOf_736 nn hM_h
                · refine sm_eq e_a0 rfl ?_ ?_
                  · exact sj_X13_widthOf_736 nn hM_h
                  · refine sm_eq e_a0 rfl ?_ ?_
                    · exact sj_X13_widthOf_738 nn hM_h
                    · refine sm_eq e_a0 rfl ?_ ?_
                      · exact sj_X13_widthOf_738 nn hM_h
                      · refine sm_eq e_a0 rfl ?_ ?_
                        · exact sj_X13_widthOf_738 nn hM_h
                        · refine sm_eq e_a0 rfl ?_ ?_
                          · exact sj_X13_widthOf_738 nn hM_h
                          · refine sm_eq e_a0 rfl ?_ ?_
                            · exact sj_X13_widthOf_738 nn hM_h
                            · refine sm_eq e_a0 rfl ?_ ?_
                              · exact sj_X13_widthOf_738 nn hM_h
                              · refine sm_eq e_a0 rfl ?_ ?_
                                · exact sj_X13_widthOf_738 nn hM_h
                                · refine sm_eq e_a0 rfl ?_ ?_
                                  · exact sj_X13_widthOf_738 nn hM_h
                                  · refine sm_eq e_a0 rfl ?_ ?_
                                    · exact sj_X13_widthOf_738 nn hM_h
                                    · refine sm_eq e_a0 rfl ?_ ?_
                                      · exact sj_X13_widthOf_738 nn hM_h
                                      · refine sm_eq e_a0 rfl ?_ ?_
                                        · exact sj_X13_widthOf_738 nn hM_h
                                        · refine sm_eq e_a0 rfl ?_ ?_
                                          · exact sj_X13_widthOf_738 nn hM_h
                                          · refine sm_eq e_a0 rfl ?_ ?_
                                            · exact sj_X13_widthOf_738 nn hM_h
                                            · refine sm_eq e_a0 rfl ?_ ?_
                                              · exact sj_X13_widthOf_738 nn hM_h
                                              · refine sm_eq e_a0 rfl ?_ ?_
                                                · exact sj_X13_widthOf_738 nn hM_h
                                                · refine sm_eq e_a0 rfl ?_ ?_
                                                  · exact sj_X13_widthOf_738 nn hM_h
                                                  · refine sm_eq e_a0 rfl ?_ ?_
                                                    · exact sj_X13_widthOf_740 nn hM_h
                                                    · refine sm_eq e_a0 rfl ?_ ?_
                                                      · exact sj_X13_widthOf_740 nn hM_h
                                                      · refine sm_eq e_a0 rfl ?_ ?_
                                                        · exact sj_X13_widthOf_740 nn hM_h
                                                        · refine sm_eq e_a0 rfl ?_ ?_
                                                          · exact sj_X13_widthOf_740 nn hM_h
                                                          · refine sm_eq e_a0 rfl ?_ ?_
                                                            · exact sj_X13_widthOf_740 nn hM_h
                                                            · refine sm_eq e_a0 rfl ?_ ?_
                                                              · exact sj_X13_widthOf_740 nn hM_h
                                                              · refine sm_eq e_a0 rfl ?_ ?_
                                                                · exact sj_X13_widthOf_740 nn hM_h
                                                                · refine sm_eq e_a0 rfl ?_ ?_
                                                                  · exact sj_X13_widthOf_740 nn hM_h
                                                                  · refine sm_eq e_a0 rfl ?_ ?_
                                                                    · exact sj_X13_widthOf_740 nn hM_h
                                                                    · refine sm_eq e_a0 rfl ?_ ?_
                                                                      · exact sj_X13_widthOf_740 nn hM_h
                                                                      · refine sm_eq e_a0 rfl ?_ ?_
                                                                        · exact sj_X13_widthOf_740 nn hM_h
                                                                        · refine sm_eq e_a0 rfl ?_ ?_
                                                                          · exact sj_X13_widthOf_738 nn hM_h
                                                                          · refine sm_eq e_a0 rfl ?_ ?_
                                                                            · exact sj_X13_widthOf_738 nn hM_h
                                                                            · refine sm_eq e_a0 rfl ?_ ?_
                                                                              · exact sj_X13_widthOf_738 nn hM_h
                                                                              · refine sm_eq e_a0 rfl ?_ ?_
                                                                                · exact sj_X13_widthOf_736 nn hM_h
                                                                                · refine sm_eq e_a0 rfl ?_ ?_
                                                                                  · exact sj_X13_widthOf_736 nn hM_h
                                                                                  · refine sm_eq e_a0 rfl ?_ ?_
                                                                                    · exact sj_X13_widthOf_736 nn hM_h
                                                                                    · refine sm_eq e_a0 rfl ?_ ?_
                                                                                      · exact sj_X13_widthOf_736 nn hM_h
                                                                                      · refine sm_eq e_a0 rfl ?_ ?_
                                                                                        · exact sj_X13_widthOf_738 nn hM_h
                                                                                        · refine sm_eq e_a0 rfl ?_ ?_
                                                                                          · exact sj_X13_widthOf_736 nn hM_h
                                                                                          · refine sm_eq e_a0 rfl ?_ ?_
                                                                                            · exact sj_X13_widthOf_736 nn hM_h
                                                                                            · refine sm_eq e_a0 rfl ?_ ?_
                                                                                              · exact sj_X13_widthOf_736 nn hM_h
                                                                                              · refine sm_eq e_a0 rfl ?_ ?_
                                                                                                · exact sj_X13_widthOf_738 nn hM_h
                                                                                                · refine sm_eq e_a0 rfl ?_ ?_
                                                                                                  · exact sj_X13_widthOf_738 nn hM_h
                                                                                                  · refine sm_eq e_a0 rfl ?_ ?_
                                                                                                    · exact sj_X13_widthOf_736 nn hM_h
                                                                                                    · refine sm_eq e_a0 rfl ?_ ?_
                                                                                                      · exact sj_X13_widthOf_736 nn hM_h
                                                                                                      · exact sj_X13_widthOf_742 nn hM_h
  · exact sm_rP rfl
