set_option maxRecDepth 4000 in
theorem sj_X13_handlerFits_84 (nn : Nat) {l1 : Int32} {y_l1 : Int} (e_l1 : l1.toInt = y_l1) {l2 : Int32} {y_l2 : Int} (e_l2 : l2.toInt = y_l2) {l3 : Int32} {y_l3 : Int} (e_l3 : l3.toInt = y_l3) {l4 : Int32} {y_l4 : Int} (e_l4 : l4.toInt = y_l4) {h : ms_M} (hM_h : Rg_M h) : Sm_ RI_ (j_X13_handlerFits_84 nn 160 l1 l2 l3 l4 (H_M h)) (qj_X13_handlerFits_84 nn y_l1 y_l2 y_l3 y_l4 h) := by
  unfold j_X13_handlerFits_84 qj_X13_handlerFits_84
  refine sm_le e_l3 e_l2 ?_ ?_
  · exact sj_X13_handlerFits_93 nn e_l1 e_l4 hM_h
  · exact sj_X13_handlerFits_94 nn e_l1 e_l4 rfl hM_h
set_option maxRecDepth 4000 in
theorem sf_X13_handlerFits (nn : Nat) {a1 : Int32} {y_a1 : Int} (e_a1 : a1.toInt = y_a1) {h : ms_M} (hM_h : Rg_M h) : Sm_ RI_ (f_X13_handlerFits nn 160 a1 (H_M h)) (qf_X13_handlerFits nn y_a1 h) := by
  unfold f_X13_handlerFits qf_X13_handlerFits
  refine sm_is hM_h rfl ?_
  refine sm_cP (sf_X13_pairIn nn e_a1 hM_h) ?_; intro u19 y_u19 e_u19
  refine sm_add e_a1 rfl ?_; intro v20 y_v20 e_v20
  refine sm_is hM_h rfl ?_
  refine sm_cP (sf_X13_pairIn nn e_v20 hM_h) ?_; intro u22 y_u22 e_u22
  refine sm_add e_a1 rfl ?_; intro v23 y_v23 e_v23
  refine sm_is hM_h rfl ?_
  refine sm_cP (sf_X13_pairIn nn e_v23 hM_h) ?_; intro u25 y_u25 e_u25
  refine sm_gi hM_h rfl ?_; intro v26 e_v26
  refine sm_le e_v26 e_u19 ?_ ?_
  · exact sj_X13_handlerFits_93 nn e_a1 e_u25 hM_h
  · refine sm_gr hM_h (d := 242) rfl ?_
    refine sm_ab hM_h rfl e_u19 ?_; intro v28 y_v28 e_v28
    refine sm_eq e_v28 rfl ?_ ?_
    · exact sj_X13_handlerFits_93 nn e_a1 e_u25 hM_h
    · refine sm_gi hM_h rfl ?_; intro v29 e_v29
      refine sm_le e_v29 e_u25 ?_ ?_
      · exact sj_X13_handlerFits_93 nn e_a1 e_u25 hM_h
      · refine sm_gr hM_h (d := 242) rfl ?_
        refine sm_ab hM_h rfl e_u25 ?_; intro v31 y_v31 e_v31
        refine sm_eq e_v31 rfl ?_ ?_
        · exact sj_X13_handlerFits_93 nn e_a1 e_u25 hM_h
        · refine sm_gi hM_h rfl ?_; intro v32 e_v32
          refine sm_eq e_u22 e_v32 ?_ ?_
          · exact sj_X13_handlerFits_84 nn e_a1 e_u19 e_u22 e_u25 hM_h
          · refine sm_gi hM_h rfl ?_; intro v33 e_v33
            refine sm_le e_v33 e_u22 ?_ ?_
            · exact sj_X13_handlerFits_93 nn e_a1 e_u25 hM_h
            · refine sm_gr hM_h (d := 242) rfl ?_
              refine sm_ab hM_h rfl e_u22 ?_; intro v35 y_v35 e_v35
              refine sm_eq e_v35 rfl ?_ ?_
              · exact sj_X13_handlerFits_93 nn e_a1 e_u25 hM_h
              · exact sj_X13_handlerFits_84 nn e_a1 e_u19 e_u22 e_u25 hM_h
set_option maxRecDepth 4000 in
theorem sj_X13_methodFits_305 (nn : Nat) {l1 : Int32} {y_l1 : Int} (e_l1 : l1.toInt = y_l1) {l2 : Int32} {y_l2 : Int} (e_l2 : l2.toInt = y_l2) {l5 : Int32} {y_l5 : Int} (e_l5 : l5.toInt = y_l5) {h : ms_M} (hM_h : Rg_M h) : Sm_ RI_ (j_X13_methodFits_305 nn 160 l1 l2 l5 (H_M h)) (qj_X13_methodFits_305 nn y_l1 y_l2 y_l5 h) := by
  unfold j_X13_methodFits_305 qj_X13_methodFits_305
  refine sm_is hM_h rfl ?_
  refine sm_cI (sf_X13_bad nn rfl e_l1 e_l2 e_l5 hM_h) ?_; intro u2 y_u2 M_u2 e_u2 hM_u2
  refine sm_bq e_u2 ?_
  exact sm_rI e_u2 hM_u2
set_option maxRecDepth 4000 in
theorem sw_X13_methodFits_245 (nn : Nat) : ∀ (k : Nat) {l1 : Int32} {y_l1 : Int} (e_l1 : l1.toInt = y_l1) {l2 : Int32} {y_l2 : Int} (e_l2 : l2.toInt = y_l2) {l4 : Int32} {y_l4 : Int} (e_l4 : l4.toInt = y_l4) {l5 : Int32} {y_l5 : Int} (e_l5 : l5.toInt = y_l5) {h : ms_M} (hM_h : Rg_M h), Sm_ RI_ (w_X13_methodFits_245 nn k 160 l1 l2 l4 l5 (H_M h)) (qw_X13_methodFits_245 nn k y_l1 y_l2 y_l4 y_l5 h) := by
  intro k
  induction k with
  | zero => intros; exact sm_no
  | succ k ih =>
    intro l1 y_l1 e_l1 l2 y_l2 e_l2 l4 y_l4 e_l4 l5 y_l5 e_l5 h hM_h
    unfold w_X13_methodFits_245 qw_X13_methodFits_245
    refine sm_is hM_h rfl ?_
    refine sm_cP (sf_X13_frameMany nn hM_h) ?_; intro u5 y_u5 e_u5
    refine sm_le e_u5 e_l5 ?_ ?_
    · refine sm_is hM_h rfl ?_
      refine sm_cI (sf_X13_flows nn e_l1 e_l2 hM_h) ?_; intro u7 y_u7 M_u7 e_u7 hM_u7
      refine sm_bq e_u7 ?_
      exact sm_rI e_u7 hM_u7
    · refine sm_is hM_h rfl ?_
      refine sm_cP (sf_X13_frameAt nn e_l5 hM_h) ?_; intro u10 y_u10 e_u10
      refine sm_is hM_h rfl ?_
      refine sm_cP (sf_X13_pairIn nn e_u10 hM_h) ?_; intro u12 y_u12 e_u12
      refine sm_le e_u12 e_l4 ?_ ?_
      · exact sj_X13_methodFits_305 nn e_l1 e_l2 e_l5 hM_h
      · refine sm_gi hM_h rfl ?_; intro v13 e_v13
        refine sm_le e_v13 e_u12 ?_ ?_
        · exact sj_X13_methodFits_305 nn e_l1 e_l2 e_l5 hM_h
        · refine sm_gr hM_h (d := 242) rfl ?_
          refine sm_ab hM_h rfl e_u12 ?_; intro v15 y_v15 e_v15
          refine sm_eq e_v15 rfl ?_ ?_
          · exact sj_X13_methodFits_305 nn e_l1 e_l2 e_l5 hM_h
          · refine sm_is hM_h rfl ?_
            refine sm_cI (sf_X13_frameIsThere nn e_u10 hM_h) ?_; intro u17 y_u17 M_u17 e_u17 hM_u17
            refine sm_ne e_u17 rfl ?_ ?_
            · refine sm_add e_l5 rfl ?_; intro v18 y_v18 e_v18
              exact ih e_l1 e_l2 e_u12 e_v18 hM_u17
            · exact sj_X13_methodFits_305 nn e_l1 e_l2 e_l5 hM_u17
set_option maxRecDepth 4000 in
theorem sw_X13_methodFits_192 (nn : Nat) : ∀ (k : Nat) {l1 : Int32} {y_l1 : Int} (e_l1 : l1.toInt = y_l1) {l2 : Int32} {y_l2 : Int} (e_l2 : l2.toInt = y_l2) {l3 : Int32} {y_l3 : Int} (e_l3 : l3.toInt = y_l3) {l4 : Int32} {y_l4 : Int} (e_l4 : l4.toInt = y_l4) {h : ms_M} (hM_h : Rg_M h), Sm_ RI_ (w_X13_methodFits_192 nn k 160 l1 l2 l3 l4 (H_M h)) (qw_X13_methodFits_192 nn k y_l1 y_l2 y_l3 y_l4 h) := by
  intro k
  induction k with
  | zero => intros; exact sm_no
  | succ k ih =>
    intro l1 y_l1 e_l1 l2 y_l2 e_l2 l3 y_l3 e_l3 l4 y_l4 e_l4 h hM_h
    unfold w_X13_methodFits_192 qw_X13_methodFits_192
    refine sm_gi hM_h rfl ?_; intro v24 e_v24
    refine sm_is hM_h rfl ?_
    refine sm_cP (sf_X13_byteAt nn e_v24 e_l3 hM_h) ?_; intro u26 y_u26 e_u26
    refine sm_le e_u26 e_l4 ?_ ?_
    · exact sw_X13_methodFits_245 nn nn e_l1 e_l2 rfl rfl hM_h
    · refine sm_add e_l3 rfl ?_; intro v27 y_v27 e_v27
      refine sm_mul rfl e_l4 ?_; intro v28 y_v28 e_v28
      refine sm_add e_v27 e_v28 ?_; intro v29 y_v29 e_v29
      refine sm_is hM_h rfl ?_
      refine sm_cI (sf_X13_handlerFits nn e_v29 hM_h) ?_; intro u31 y_u31 M_u31 e_u31 hM_u31
      refine sm_ne e_u31 rfl ?_ ?_
      · refine sm_add e_l4 rfl ?_; intro v32 y_v32 e_v32
        exact ih e_l1 e_l2 e_l3 e_v32 hM_u31
      · refine sm_is hM_u31 rfl ?_
        refine sm_cI (sf_X13_bad nn rfl e_l1 e_l2 e_l4 hM_u31) ?_; intro u34 y_u34 M_u34 e_u34 hM_u34
        refine sm_bq e_u34 ?_
        exact sm_rI e_u34 hM_u34
set_option maxRecDepth 4000 in
theorem sj_X13_methodFits_160 (nn : Nat) {kk_97 : Nat → Int32 → Int32 → Int32 → mx_H → Option (Int32 × mx_H)} {qkk_97 : Int → Int → Int → ms_M → Option (Int × ms_M)} (hk_kk_97 : ∀ {l1 : Int32} {y_l1 : Int} (e_l1 : l1.toInt = y_l1) {l2 : Int32} {y_l2 : Int} (e_l2 : l2.toInt = y_l2) {l3 : Int32} {y_l3 : Int} (e_l3 : l3.toInt = y_l3) {h : ms_M} (hM_h : Rg_M h), Sm_ RI_ (kk_97 160 l1 l2 l3 (H_M h)) (qkk_97 y_l1 y_l2 y_l3 h)) {l1 : Int32} {y_l1 : Int} (e_l1 : l1.toInt = y_l1) {l2 : Int32} {y_l2 : Int} (e_l2 : l2.toInt = y_l2) {l3 : Int32} {y_l3 : Int} (e_l3 : l3.toInt = y_l3) {h : ms_M} (hM_h : Rg_M h) : Sm_ RI_ (j_X13_methodFits_160 nn kk_97 160 l1 l2 l3 (H_M h)) (qj_X13_methodFits_160 nn qkk_97 y_l1 y_l2 y_l3 h) := by
  unfold j_X13_methodFits_160 qj_X13_methodFits_160
  refine sm_is hM_h rfl ?_
  refine sm_cP (sf_X13_code nn e_l3 hM_h) ?_; intro u39 y_u39 e_u39
  refine sm_cP (sf_X13_widthOf nn e_u39 hM_h) ?_; intro u40 y_u40 e_u40
  refine sm_add e_l3 e_u40 ?_; intro v41 y_v41 e_v41
  exact hk_kk_97 e_l1 e_l2 e_v41 hM_h
set_option maxRecDepth 4000 in
theorem sj_X13_methodFits_150 (nn : Nat) {l1 : Int32} {y_l1 : Int} (e_l1 : l1.toInt = y_l1) {l2 : Int32} {y_l2 : Int} (e_l2 : l2.toInt = y_l2) {l3 : Int32} {y_l3 : Int} (e_l3 : l3.toInt = y_l3) {h : ms_M} (hM_h : Rg_M h) : Sm_ RI_ (j_X13_methodFits_150 nn 160 l1 l2 l3 (H_M h)) (qj_X13_methodFits_150 nn y_l1 y_l2 y_l3 h) := by
  unfold j_X13_methodFits_150 qj_X13_methodFits_150
  refine sm_is hM_h rfl ?_
  refine sm_cI (sf_X13_bad nn rfl e_l1 e_l2 e_l3 hM_h) ?_; intro u43 y_u43 M_u43 e_u43 hM_u43
  refine sm_bq e_u43 ?_
  exact sm_rI e_u43 hM_u43
set_option maxRecDepth 4000 in
theorem sw_X13_methodFits_97 (nn : Nat) : ∀ (k : Nat) {l1 : Int32} {y_l1 : Int} (e_l1 : l1.toInt = y_l1) {l2 : Int32} {y_l2 : Int} (e_l2 : l2.toInt = y_l2) {l3 : Int32} {y_l3 : Int} (e_l3 : l3.toInt = y_l3) {h : ms_M} (hM_h : Rg_M h), Sm_ RI_ (w_X13_methodFits_97 nn k 160 l1 l2 l3 (H_M h)) (qw_X13_methodFits_97 nn k y_l1 y_l2 y_l3 h) := by
  intro k
  induction k with
  | zero => intros; exact sm_no
  | succ k ih =>
    intro l1 y_l1 e_l1 l2 y_l2 e_l2 l3 y_l3 e_l3 h hM_h
    unfold w_X13_methodFits_97 qw_X13_methodFits_97
    refine sm_gi hM_h rfl ?_; intro v45 e_v45
    refine sm_le e_v45 e_l3 ?_ ?_
    · refine sm_gr hM_h (d := 236) rfl ?_
      refine sm_gi hM_h rfl ?_; intro v47 e_v47
      refine sm_mul rfl e_v47 ?_; intro v48 y_v48 e_v48
      refine sm_add e_v48 e_l2 ?_; intro v49 y_v49 e_v49
      refine sm_ai hM_h rfl e_v49 ?_; intro v50 y_v50 e_v50
      exact sw_X13_methodFits_192 nn nn e_l1 e_l2 e_v50 rfl hM_h
    · refine sm_is hM_h rfl ?_
      refine sm_cP (sf_X13_code nn e_l3 hM_h) ?_; intro u52 y_u52 e_u52
      refine sm_cP (sf_X13_isJump nn e_u52 hM_h) ?_; intro u53 y_u53 e_u53
      refine sm_ne e_u53 rfl ?_ ?_
      · refine sm_is hM_h rfl ?_
        refine sm_cP (sf_X13_aimOf nn e_l3 hM_h) ?_; intro u55 y_u55 e_u55
        refine sm_lt e_u55 rfl ?_ ?_
        · exact sj_X13_methodFits_150 nn e_l1 e_l2 e_l3 hM_h
        · refine sm_gi hM_h rfl ?_; intro v56 e_v56
          refine sm_le e_v56 e_u55 ?_ ?_
          · exact sj_X13_methodFits_150 nn e_l1 e_l2 e_l3 hM_h
          · refine sm_gr hM_h (d := 242) rfl ?_
            refine sm_ab hM_h rfl e_u55 ?_; intro v58 y_v58 e_v58
            refine sm_ne e_v58 rfl ?_ ?_
            · exact sj_X13_methodFits_160 nn ih e_l1 e_l2 e_l3 hM_h
            · exact sj_X13_methodFits_150 nn e_l1 e_l2 e_l3 hM_h
      · exact sj_X13_methodFits_160 nn ih e_l1 e_l2 e_l3 hM_h
set_option maxRecDepth 4000 in
theorem sj_X13_methodFits_64 (nn : Nat) {l1 : Int32} {y_l1 : Int} (e_l1 : l1.toInt = y_l1) {l2 : Int32} {y_l2 : Int} (e_l2 : l2.toInt = y_l2) {l3 : Int32} {y_l3 : Int} (e_l3 : l3.toInt = y_l3) {h : ms_M} (hM_h : Rg_M h) : Sm_ RI_ (j_X13_methodFits_64 nn 160 l1 l2 l3 (H_M h)) (qj_X13_methodFits_64 nn y_l1 y_l2 y_l3 h) := by
  unfold j_X13_methodFits_64 qj_X13_methodFits_64
  refine sm_is hM_h rfl ?_
  refine sm_cI (sf_X13_bad nn rfl e_l1 e_l2 e_l3 hM_h) ?_; intro u65 y_u65 M_u65 e_u65 hM_u65
  refine sm_bq e_u65 ?_
  exact sm_rI e_u65 hM_u65
set_option maxRecDepth 4000 in
theorem sw_X13_methodFits_30 (nn : Nat) : ∀ (k : Nat) {l1 : Int32} {y_l1 : Int} (e_l1 : l1.toInt = y_l1) {l2 : Int32} {y_l2 : Int} (e_l2 : l2.toInt = y_l2) {l3 : Int32} {y_l3 : Int} (e_l3 : l3.toInt = y_l3) {h : ms_M} (hM_h : Rg_M h), Sm_ RI_ (w_X13_methodFits_30 nn k 160 l1 l2 l3 (H_M h)) (qw_X13_methodFits_30 nn k y_l1 y_l2 y_l3 h) := by
  intro k
  induction k with
  | zero => intros; exact sm_no
  | succ k ih =>
    intro l1 y_l1 e_l1 l2 y_l2 e_l2 l3 y_l3 e_l3 h hM_h
    unfold w_X13_methodFits_30 qw_X13_methodFits_30
    refine sm_gi hM_h rfl ?_; intro v67 e_v67
    refine sm_le e_v67 e_l3 ?_ ?_
    · exact sw_X13_methodFits_97 nn nn e_l1 e_l2 rfl hM_h
    · refine sm_is hM_h rfl ?_
      refine sm_cP (sf_X13_code nn e_l3 hM_h) ?_; intro u69 y_u69 e_u69
      refine sm_cP (sf_X13_widthOf nn e_u69 hM_h) ?_; intro u70 y_u70 e_u70
      refine sm_eq e_u70 rfl ?_ ?_
      · exact sj_X13_methodFits_64 nn e_l1 e_l2 e_l3 hM_h
      · refine sm_add e_l3 e_u70 ?_; intro v71 y_v71 e_v71
        refine sm_gi hM_h rfl ?_; intro v72 e_v72
        refine sm_le e_v71 e_v72 ?_ ?_
        · refine sm_gr hM_h (d := 242) rfl ?_
          refine sm_sz hM_h rfl e_l3 rfl ?_; intro h74 hM_h74
          refine sm_is hM_h74 rfl ?_
          refine sm_cP (sf_X13_code nn e_l3 hM_h74) ?_; intro u76 y_u76 e_u76
          refine sm_cP (sf_X13_widthOf nn e_u76 hM_h74) ?_; intro u77 y_u77 e_u77
          refine sm_add e_l3 e_u77 ?_; intro v78 y_v78 e_v78
          exact ih e_l1 e_l2 e_v78 hM_h74
        · exact sj_X13_methodFits_64 nn e_l1 e_l2 e_l3 hM_h
set_option maxRecDepth 4000 in
theorem sw_X13_methodFits_8 (nn : Nat) : ∀ (k : Nat) {l1 : Int32} {y_l1 : Int} (e_l1 : l1.toInt = y_l1) {l2 : Int32} {y_l2 : Int} (e_l2 : l2.toInt = y_l2) {l3 : Int32} {y_l3 : Int} (e_l3 : l3.toInt = y_l3) {h : ms_M} (hM_h : Rg_M h), Sm_ RI_ (w_X13_methodFits_8 nn k 160 l1 l2 l3 (H_M h)) (qw_X13_methodFits_8 nn k y_l1 y_l2 y_l3 h) := by
  intro k
  induction k with
  | zero => intros; exact sm_no
  | succ k ih =>
    intro l1 y_l1 e_l1 l2 y_l2 e_l2 l3 y_l3 e_l3 h hM_h
    unfold w_X13_methodFits_8 qw_X13_methodFits_8
    refine sm_lt rfl e_l3 ?_ ?_
    · exact sw_X13_methodFits_30 nn nn e_l1 e_l2 rfl hM_h
    · refine sm_gr hM_h (d := 242) rfl ?_
      refine sm_sz hM_h rfl e_l3 rfl ?_; intro h83 hM_h83
      refine sm_add e_l3 rfl ?_; intro v84 y_v84 e_v84
      exact ih e_l1 e_l2 e_v84 hM_h83
set_option maxRecDepth 4000 in
theorem sf_X13_methodFits (nn : Nat) {a1 : Int32} {y_a1 : Int} (e_a1 : a1.toInt = y_a1) {a2 : Int32} {y_a2 : Int} (e_a2 : a2.toInt = y_a2) {h : ms_M} (hM_h : Rg_M h) : Sm_ RI_ (f_X13_methodFits nn 160 a1 a2 (H_M h)) (qf_X13_methodFits nn y_a1 y_a2 h) := by
  unfold f_X13_methodFits qf_X13_methodFits
  refine sm_is hM_h rfl ?_
  refine sm_cV (sf_X13_at_ nn e_a1 e_a2 hM_h) ?_; intro u87 hM_u87
  exact sw_X13_methodFits_8 nn nn e_a1 e_a2 rfl hM_u87
set_option maxRecDepth 4000 in
theorem sj_X13_verify_103 (nn : Nat) {l1 : Int32} {y_l1 : Int} (e_l1 : l1.toInt = y_l1) {h : ms_M} (hM_h : Rg_M h) : Sm_ RI_ (j_X13_verify_103 nn 160 l1 (H_M h)) (qj_X13_verify_103 nn y_l1 h) := by
  unfold j_X13_verify_103 qj_X13_verify_103
  refine sm_bq e_l1 ?_
  refine sm_pv hM_h rfl e_l1 ?_; intro h2 hM_h2
  refine sm_gi hM_h2 rfl ?_; intro v3 e_v3
  exact sm_rI e_v3 hM_h2
set_option maxRecDepth 4000 in
theorem sw_X13_verify_67 (nn : Nat) {kk_50 : Nat → Int32 → Int32 → mx_H → Option (Int32 × mx_H)} {qkk_50 : Int → Int → ms_M → Option (Int × ms_M)} (hk_kk_50 : ∀ {l1 : Int32} {y_l1 : Int} (e_l1 : l1.toInt = y_l1) {l2 : Int32} {y_l2 : Int} (e_l2 : l2.toInt = y_l2) {h : ms_M} (hM_h : Rg_M h), Sm_ RI_ (kk_50 160 l1 l2 (H_M h)) (qkk_50 y_l1 y_l2 h)) : ∀ (k : Nat) {l1 : Int32} {y_l1 : Int} (e_l1 : l1.toInt = y_l1) {l2 : Int32} {y_l2 : Int} (e_l2 : l2.toInt = y_l2) {l3 : Int32} {y_l3 : Int} (e_l3 : l3.toInt = y_l3) {h : ms_M} (hM_h : Rg_M h), Sm_ RI_ (w_X13_verify_67 nn kk_50 k 160 l1 l2 l3 (H_M h)) (qw_X13_verify_67 nn qkk_50 k y_l1 y_l2 y_l3 h) := by
  intro k
  induction k with
  | zero => intros; exact sm_no
  | succ k ih =>
    intro l1 y_l1 e_l1 l2 y_l2 e_l2 l3 y_l3 e_l3 h hM_h
    unfold w_X13_verify_67 qw_X13_verify_67
    refine sm_gr hM_h (d := 234) rfl ?_
    refine sm_sub e_l2 rfl ?_; intro v5 y_v5 e_v5
    refine sm_ai hM_h rfl e_v5 ?_; intro v6 y_v6 e_v6
    refine sm_le e_v6 e_l3 ?_ ?_
    · refine sm_add e_l2 rfl ?_; intro v7 y_v7 e_v7
      exact hk_kk_50 e_l1 e_v7 hM_h
    · refine sm_eq e_l1 rfl ?_ ?_
      · refine sm_add e_l2 rfl ?_; intro v8 y_v8 e_v8
        exact hk_kk_50 e_l1 e_v8 hM_h
      · refine sm_is hM_h rfl ?_
        refine sm_cI (sf_X13_methodFits nn e_l2 e_l3 hM_h) ?_; intro u10 y_u10 M_u10 e_u10 hM_u10
        refine sm_add e_l3 rfl ?_; intro v11 y_v11 e_v11
        exact ih e_u10 e_l2 e_v11 hM_u10
set_option maxRecDepth 4000 in
theorem sw_X13_verify_50 (nn : Nat) : ∀ (k : Nat) {l1 : Int32} {y_l1 : Int} (e_l1 : l1.toInt = y_l1) {l2 : Int32} {y_l2 : Int} (e_l2 : l2.toInt = y_l2) {h : ms_M} (hM_h : Rg_M h), Sm_ RI_ (w_X13_verify_50 nn k 160 l1 l2 (H_M h)) (qw_X13_verify_50 nn k y_l1 y_l2 h) := by
  intro k
  induction k with
  | zero => intros; exact sm_no
  | succ k ih =>
    intro l1 y_l1 e_l1 l2 y_l2 e_l2 h hM_h
    unfold w_X13_verify_50 qw_X13_verify_50
    refine sm_gi hM_h rfl ?_; intro v14 e_v14
    refine sm_add rfl e_v14 ?_; intro v15 y_v15 e_v15
    refine sm_le e_v15 e_l2 ?_ ?_
    · exact sj_X13_verify_103 nn e_l1 hM_h
    · refine sm_eq e_l1 rfl ?_ ?_
      · exact sj_X13_verify_103 nn e_l1 hM_h
      · exact sw_X13_verify_67 nn ih nn e_l1 e_l2 rfl hM_h
set_option maxRecDepth 4000 in
theorem sw_X13_verify_20 (nn : Nat) : ∀ (k : Nat) {l1 : Int32} {y_l1 : Int} (e_l1 : l1.toInt = y_l1) {l2 : Int32} {y_l2 : Int} (e_l2 : l2.toInt = y_l2) {h : ms_M} (hM_h : Rg_M h), Sm_ RI_ (w_X13_verify_20 nn k 160 l1 l2 (H_M h)) (qw_X13_verify_20 nn k y_l1 y_l2 h) := by
  intro k
  induction k with
  | zero => intros; exact sm_no
  | succ k ih =>
    intro l1 y_l1 e_l1 l2 y_l2 e_l2 h hM_h
    unfold w_X13_verify_20 qw_X13_verify_20
    refine sm_gi hM_h rfl ?_; intro v18 e_v18
    refine sm_add rfl e_v18 ?_; intro v19 y_v19 e_v19
    refine sm_le e_v19 e_l2 ?_ ?_
    · exact sw_X13_verify_50 nn nn e_l1 rfl hM_h
    · refine sm_eq e_l1 rfl ?_ ?_
      · exact sw_X13_verify_50 nn nn e_l1 rfl hM_h
      · refine sm_is hM_h rfl ?_
        refine sm_cI (sf_X13_classFits nn e_l2 hM_h) ?_; intro u21 y_u21 M_u21 e_u21 hM_u21
        refine sm_add e_l2 rfl ?_; intro v22 y_v22 e_v22
        exact ih e_u21 e_v22 hM_u21
set_option maxRecDepth 4000 in
theorem sf_X13_verify (nn : Nat) {h : ms_M} (hM_h : Rg_M h) : Sm_ RI_ (f_X13_verify nn 160 (H_M h)) (qf_X13_verify nn h) := by
  unfold f_X13_verify qf_X13_verify
  refine sm_pv hM_h rfl rfl ?_; intro h25 hM_h25
  refine sm_pv hM_h25 rfl rfl ?_; intro h26 hM_h26
  refine sm_pv hM_h26 rfl rfl ?_; intro h27 hM_h27
  exact sw_X13_verify_20 nn nn rfl rfl hM_h27
set_option maxRecDepth 4000 in
theorem sf_X13_where (nn : Nat) {a1 : Int32} {y_a1 : Int} (e_a1 : a1.toInt = y_a1) {h : ms_M} (hM_h : Rg_M h) : Sm_ (RP_ h) (f_X13_where nn 160 a1 (H_M h)) (qf_X13_where nn y_a1 h) := by
  unfold f_X13_where qf_X13_where
  refine sm_ne e_a1 rfl ?_ ?_
  · refine sm_ne e_a1 rfl ?_ ?_
    · refine sm_ne e_a1 rfl ?_ ?_
      · exact sm_rP rfl
      · refine sm_gi hM_h rfl ?_; intro v1 e_v1
        exact sm_rP e_v1
    · refine sm_gi hM_h rfl ?_; intro v3 e_v3
      exact sm_rP e_v3
  · refine sm_gi hM_h rfl ?_; intro v5 e_v5
    exact sm_rP e_v5
