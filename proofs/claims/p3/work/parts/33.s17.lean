set_option maxRecDepth 4000 in
theorem sj_X13_handlerFits_93 (nn : Nat) {l1 : Int32} {y_l1 : Int} (e_l1 : l1.toInt = y_l1) {l4 : Int32} {y_l4 : Int} (e_l4 : l4.toInt = y_l4) {h : ms_M} (hM_h : Rg_M h) : Sm_ RI_ (j_X13_handlerFits_93 nn 160 l1 l4 (H_M h)) (qj_X13_handlerFits_93 nn y_l1 y_l4 h) := by
  unfold j_X13_handlerFits_93 qj_X13_handlerFits_93
  exact sj_X13_handlerFits_94 nn e_l1 e_l4 rfl hM_h
set_option maxRecDepth 4000 in
theorem sj_X13_handlerFits_84 (nn : Nat) {l1 : Int32} {y_l1 : Int} (e_l1 : l1.toInt = y_l1) {l2 : Int32} {y_l2 : Int} (e_l2 : l2.toInt = y_l2) {l3 : Int32} {y_l3 : Int} (e_l3 : l3.toInt = y_l3) {l4 : Int32} {y_l4 : Int} (e_l4 : l4.toInt = y_l4) {h : ms_M} (hM_h : Rg_M h) : Sm_ RI_ (j_X13_handlerFits_84 nn 160 l1 l2 l3 l4 (H_M h)) (qj_X13_handlerFits_84 nn y_l1 y_l2 y_l3 y_l4 h) := by
  unfold j_X13_handlerFits_84 qj_X13_handlerFits_84
  refine sm_le e_l3 e_l2 ?_ ?_
  · exact sj_X13_handlerFits_93 nn e_l1 e_l4 hM_h
  · exact sj_X13_handlerFits_94 nn e_l1 e_l4 rfl hM_h
set_option maxRecDepth 4000 in
theorem sf_X13_handlerFits (nn : Nat) {a1 : Int32} {y_a1 : Int} (e_a1 : a1.toInt = y_a1) {h : ms_M} (hM_h : Rg_M h) : Sm_ RI_ (f_X13_handlerFits nn 160 a1 (H_M h)) (qf_X13_handlerFits nn y_a1 h) := by
  unfold f_X13_handlerFits qf_X13_handlerFits
  refine sm_is hM_h rfl ?_
  refine sm_cP (sf_X13_pairIn nn e_a1 hM_h) ?_; intro u19 y_u19 e_u19
  refine sm_oq_add e_a1 rfl ?_; intro v20 y_v20 e_v20
  refine sm_is hM_h rfl ?_
  refine sm_cP (sf_X13_pairIn nn e_v20 hM_h) ?_; intro u22 y_u22 e_u22
  refine sm_oq_add e_a1 rfl ?_; intro v23 y_v23 e_v23
  refine sm_is hM_h rfl ?_
  refine sm_cP (sf_X13_pairIn nn e_v23 hM_h) ?_; intro u25 y_u25 e_u25
  refine sm_gi hM_h rfl ?_; intro v26 e_v26
  refine sm_le e_v26 e_u19 ?_ ?_
  · exact sj_X13_handlerFits_93 nn e_a1 e_u25 hM_h
  · refine sm_gr hM_h (d := 242) rfl ?_
    refine sm_ab hM_h rfl e_u19 ?_; intro v28 y_v28 e_v28
    refine sm_eq e_v28 rfl ?_ ?_
    · exact sj_X13_handlerFits_93 nn e_a1 e_u25 hM_h
    · refine sm_gi hM_h rfl ?_; intro v29 e_v29
      refine sm_le e_v29 e_u25 ?_ ?_
      · exact sj_X13_handlerFits_93 nn e_a1 e_u25 hM_h
      · refine sm_gr hM_h (d := 242) rfl ?_
        refine sm_ab hM_h rfl e_u25 ?_; intro v31 y_v31 e_v31
        refine sm_eq e_v31 rfl ?_ ?_
        · exact sj_X13_handlerFits_93 nn e_a1 e_u25 hM_h
        · refine sm_gi hM_h rfl ?_; intro v32 e_v32
          refine sm_eq e_u22 e_v32 ?_ ?_
          · exact sj_X13_handlerFits_84 nn e_a1 e_u19 e_u22 e_u25 hM_h
          · refine sm_gi hM_h rfl ?_; intro v33 e_v33
            refine sm_le e_v33 e_u22 ?_ ?_
            · exact sj_X13_handlerFits_93 nn e_a1 e_u25 hM_h
            · refine sm_gr hM_h (d := 242) rfl ?_
              refine sm_ab hM_h rfl e_u22 ?_; intro v35 y_v35 e_v35
              refine sm_eq e_v35 rfl ?_ ?_
              · exact sj_X13_handlerFits_93 nn e_a1 e_u25 hM_h
              · exact sj_X13_handlerFits_84 nn e_a1 e_u19 e_u22 e_u25 hM_h
set_option maxRecDepth 4000 in
theorem sj_X13_methodFits_305 (nn : Nat) {l1 : Int32} {y_l1 : Int} (e_l1 : l1.toInt = y_l1) {l2 : Int32} {y_l2 : Int} (e_l2 : l2.toInt = y_l2) {l5 : Int32} {y_l5 : Int} (e_l5 : l5.toInt = y_l5) {h : ms_M} (hM_h : Rg_M h) : Sm_ RI_ (j_X13_methodFits_305 nn 160 l1 l2 l5 (H_M h)) (qj_X13_methodFits_305 nn y_l1 y_l2 y_l5 h) := by
  unfold j_X13_methodFits_305 qj_X13_methodFits_305
  refine sm_is hM_h rfl ?_
  refine sm_cI (sf_X13_bad nn rfl e_l1 e_l2 e_l5 hM_h) ?_; intro u2 y_u2 M_u2 e_u2 hM_u2
  refine sm_bq e_u2 ?_
  exact sm_rI e_u2 hM_u2
set_option maxRecDepth 4000 in
theorem sw_X13_methodFits_245 (nn : Nat) : ∀ (k : Nat) {l1 : Int32} {y_l1 : Int} (e_l1 : l1.toInt = y_l1) {l2 : Int32} {y_l2 : Int} (e_l2 : l2.toInt = y_l2) {l4 : Int32} {y_l4 : Int} (e_l4 : l4.toInt = y_l4) {l5 : Int32} {y_l5 : Int} (e_l5 : l5.toInt = y_l5) {h : ms_M} (hM_h : Rg_M h), Sm_ RI_ (w_X13_methodFits_245 nn k 160 l1 l2 l4 l5 (H_M h)) (qw_X13_methodFits_245 nn k y_l1 y_l2 y_l4 y_l5 h) := by
  intro k
  induction k with
  | zero => intros; exact sm_no
  | succ k ih =>
    intro l1 y_l1 e_l1 l2 y_l2 e_l2 l4 y_l4 e_l4 l5 y_l5 e_l5 h hM_h
    unfold w_X13_methodFits_245 qw_X13_methodFits_245
    refine sm_is hM_h rfl ?_
    refine sm_cP (sf_X13_frameMany nn hM_h) ?_; intro u5 y_u5 e_u5
    refine sm_le e_u5 e_l5 ?_ ?_
    · refine sm_is hM_h rfl ?_
      refine sm_cI (sf_X13_flows nn e_l1 e_l2 hM_h) ?_; intro u7 y_u7 M_u7 e_u7 hM_u7
      refine sm_bq e_u7 ?_
      exact sm_rI e_u7 hM_u7
    · refine sm_is hM_h rfl ?_
      refine sm_cP (sf_X13_frameAt nn e_l5 hM_h) ?_; intro u10 y_u10 e_u10
      refine sm_is hM_h rfl ?_
      refine sm_cP (sf_X13_pairIn nn e_u10 hM_h) ?_; intro u12 y_u12 e_u12
      refine sm_le e_u12 e_l4 ?_ ?_
      · exact sj_X13_methodFits_305 nn e_l1 e_l2 e_l5 hM_h
      · refine sm_gi hM_h rfl ?_; intro v13 e_v13
        refine sm_le e_v13 e_u12 ?_ ?_
        · exact sj_X13_methodFits_305 nn e_l1 e_l2 e_l5 hM_h
        · refine sm_gr hM_h (d := 242) rfl ?_
          refine sm_ab hM_h rfl e_u12 ?_; intro v15 y_v15 e_v15
          refine sm_eq e_v15 rfl ?_ ?_
          · exact sj_X13_methodFits_305 nn e_l1 e_l2 e_l5 hM_h
          · refine sm_is hM_h rfl ?_
            refine sm_cI (sf_X13_frameIsThere nn e_u10 hM_h) ?_; intro u17 y_u17 M_u17 e_u17 hM_u17
            refine sm_ne e_u17 rfl ?_ ?_
            · refine sm_oq_add e_l5 rfl ?_; intro v18 y_v18 e_v18
              exact ih e_l1 e_l2 e_u12 e_v18 hM_u17
            · exact sj_X13_methodFits_305 nn e_l1 e_l2 e_l5 hM_u17
set_option maxRecDepth 4000 in
theorem sw_X13_methodFits_192 (nn : Nat) : ∀ (k : Nat) {l1 : Int32} {y_l1 : Int} (e_l1 : l1.toInt = y_l1) {l2 : Int32} {y_l2 : Int} (e_l2 : l2.toInt = y_l2) {l3 : Int32} {y_l3 : Int} (e_l3 : l3.toInt = y_l3) {l4 : Int32} {y_l4 : Int} (e_l4 : l4.toInt = y_l4) {h : ms_M} (hM_h : Rg_M h), Sm_ RI_ (w_X13_methodFits_192 nn k 160 l1 l2 l3 l4 (H_M h)) (qw_X13_methodFits_192 nn k y_l1 y_l2 y_l3 y_l4 h) := by
  intro k
  induction k with
  | zero => intros; exact sm_no
  | succ k ih =>
    intro l1 y_l1 e_l1 l2 y_l2 e_l2 l3 y_l3 e_l3 l4 y_l4 e_l4 h hM_h
    unfold w_X13_methodFits_192 qw_X13_methodFits_192
    refine sm_gi hM_h rfl ?_; intro v24 e_v24
    refine sm_is hM_h rfl ?_
    refine sm_cP (sf_X13_byteAt nn e_v24 e_l3 hM_h) ?_; intro u26 y_u26 e_u26
    refine sm_le e_u26 e_l4 ?_ ?_
    · exact sw_X13_methodFits_245 nn nn e_l1 e_l2 rfl rfl hM_h
    · refine sm_oq_add e_l3 rfl ?_; intro v27 y_v27 e_v27
      refine sm_oq_mul rfl e_l4 ?_; intro v28 y_v28 e_v28
      refine sm_oq_add e_v27 e_v28 ?_; intro v29 y_v29 e_v29
      refine sm_is hM_h rfl ?_
      refine sm_cI (sf_X13_handlerFits nn e_v29 hM_h) ?_; intro u31 y_u31 M_u31 e_u31 hM_u31
      refine sm_ne e_u31 rfl ?_ ?_
      · refine sm_oq_add e_l4 rfl ?_; intro v32 y_v32 e_v32
        exact ih e_l1 e_l2 e_l3 e_v32 hM_u31
      · refine sm_is hM_u31 rfl ?_
        refine sm_cI (sf_X13_bad nn rfl e_l1 e_l2 e_l4 hM_u31) ?_; intro u34 y_u34 M_u34 e_u34 hM_u34
        refine sm_bq e_u34 ?_
        exact sm_rI e_u34 hM_u34
set_option maxRecDepth 4000 in
theorem sj_X13_methodFits_160 (nn : Nat) {kk_97 : Nat → Int32 → Int32 → Int32 → mx_H → Option (Int32 × mx_H)} {qkk_97 : Int → Int → Int → ms_M → Option (Int × ms_M)} (hk_kk_97 : ∀ {l1 : Int32} {y_l1 : Int} (e_l1 : l1.toInt = y_l1) {l2 : Int32} {y_l2 : Int} (e_l2 : l2.toInt = y_l2) {l3 : Int32} {y_l3 : Int} (e_l3 : l3.toInt = y_l3) {h : ms_M} (hM_h : Rg_M h), Sm_ RI_ (kk_97 160 l1 l2 l3 (H_M h)) (qkk_97 y_l1 y_l2 y_l3 h)) {l1 : Int32} {y_l1 : Int} (e_l1 : l1.toInt = y_l1) {l2 : Int32} {y_l2 : Int} (e_l2 : l2.toInt = y_l2) {l3 : Int32} {y_l3 : Int} (e_l3 : l3.toInt = y_l3) {h : ms_M} (hM_h : Rg_M h) : Sm_ RI_ (j_X13_methodFits_160 nn kk_97 160 l1 l2 l3 (H_M h)) (qj_X13_methodFits_160 nn qkk_97 y_l1 y_l2 y_l3 h) := by
  unfold j_X13_methodFits_160 qj_X13_methodFits_160
  refine sm_is hM_h rfl ?_
  refine sm_cP (sf_X13_code nn e_l3 hM_h) ?_; intro u39 y_u39 e_u39
  refine sm_cP (sf_X13_widthOf nn e_u39 hM_h) ?_; intro u40 y_u40 e_u40
  refine sm_oq_add e_l3 e_u40 ?_; intro v41 y_v41 e_v41
  exact hk_kk_97 e_l1 e_l2 e_v41 hM_h
set_option maxRecDepth 4000 in
theorem sj_X13_methodFits_150 (nn : Nat) {l1 : Int32} {y_l1 : Int} (e_l1 : l1.toInt = y_l1) {l2 : Int32} {y_l2 : Int} (e_l2 : l2.toInt = y_l2) {l3 : Int32} {y_l3 : Int} (e_l3 : l3.toInt = y_l3) {h : ms_M} (hM_h : Rg_M h) : Sm_ RI_ (j_X13_methodFits_150 nn 160 l1 l2 l3 (H_M h)) (qj_X13_methodFits_150 nn y_l1 y_l2 y_l3 h) := by
  unfold j_X13_methodFits_150 qj_X13_methodFits_150
  refine sm_is hM_h rfl ?_
  refine sm_cI (sf_X13_bad nn rfl e_l1 e_l2 e_l3 hM_h) ?_; intro u43 y_u43 M_u43 e_u43 hM_u43
  refine sm_bq e_u43 ?_
  exact sm_rI e_u43 hM_u43
set_option maxRecDepth 4000 in
theorem sw_X13_methodFits_97 (nn : Nat) : ∀ (k : Nat) {l1 : Int32} {y_l1 : Int} (e_l1 : l1.toInt = y_l1) {l2 : Int32} {y_l2 : Int} (e_l2 : l2.toInt = y_l2) {l3 : Int32} {y_l3 : Int} (e_l3 : l3.toInt = y_l3) {h : ms_M} (hM_h : Rg_M h), Sm_ RI_ (w_X13_methodFits_97 nn k 160 l1 l2 l3 (H_M h)) (qw_X13_methodFits_97 nn k y_l1 y_l2 y_l3 h) := by
  intro k
  induction k with
  | zero => intros; exact sm_no
  | succ k ih =>
    intro l1 y_l1 e_l1 l2 y_l2 e_l2 l3 y_l3 e_l3 h hM_h
    unfold w_X13_methodFits_97 qw_X13_methodFits_97
    refine sm_gi hM_h rfl ?_; intro v45 e_v45
    refine sm_le e_v45 e_l3 ?_ ?_
    · refine sm_gr hM_h (d := 236) rfl ?_
      refine sm_gi hM_h rfl ?_; intro v47 e_v47
      refine sm_oq_mul rfl e_v47 ?_; intro v48 y_v48 e_v48
      refine sm_oq_add e_v48 e_l2 ?_; intro v49 y_v49 e_v49
      refine sm_ai hM_h rfl e_v49 ?_; intro v50 y_v50 e_v50
      exact sw_X13_methodFits_192 nn nn e_l1 e_l2 e_v50 rfl hM_h
    · refine sm_is hM_h rfl ?_
      refine sm_cP (sf_X13_code nn e_l3 hM_h) ?_; intro u52 y_u52 e_u52
      refine sm_cP (sf_X13_isJump nn e_u52 hM_h) ?_; intro u53 y_u53 e_u53
      refine sm_ne e_u53 rfl ?_ ?_
      · refine sm_is hM_h rfl ?_
        refine sm_cP (sf_X13_aimOf nn e_l3 hM_h) ?_; intro u55 y_u55 e_u55
        refine sm_lt e_u55 rfl ?_ ?_
        · exact sj_X13_methodFits_150 nn e_l1 e_l2 e_l3 hM_h
        · refine sm_gi hM_h rfl ?_; intro v56 e_v56
          refine sm_le e_v56 e_u55 ?_ ?_
          · exact sj_X13_methodFits_150 nn e_l1 e_l2 e_l3 hM_h
          · refine sm_gr hM_h (d := 242) rfl ?_
            refine sm_ab hM_h rfl e_u55 ?_; intro v58 y_v58 e_v58
            refine sm_ne e_v58 rfl ?_ ?_
            · exact sj_X13_methodFits_160 nn ih e_l1 e_l2 e_l3 hM_h
            · exact sj_X13_methodFits_150 nn e_l1 e_l2 e_l3 hM_h
      · exact sj_X13_methodFits_160 nn ih e_l1 e_l2 e_l3 hM_h
set_option maxRecDepth 4000 in
theorem sj_X13_methodFits_64 (nn : Nat) {l1 : Int32} {y_l1 : Int} (e_l1 : l1.toInt = y_l1) {l2 : Int32} {y_l2 : Int} (e_l2 : l2.toInt = y_l2) {l3 : Int32} {y_l3 : Int} (e_l3 : l3.toInt = y_l3) {h : ms_M} (hM_h : Rg_M h) : Sm_ RI_ (j_X13_methodFits_64 nn 160 l1 l2 l3 (H_M h)) (qj_X13_methodFits_64 nn y_l1 y_l2 y_l3 h) := by
  unfold j_X13_methodFits_64 qj_X13_methodFits_64
  refine sm_is hM_h rfl ?_
  refine sm_cI (sf_X13_bad nn rfl e_l1 e_l2 e_l3 hM_h) ?_; intro u65 y_u65 M_u65 e_u65 hM_u65
  refine sm_bq e_u65 ?_
  exact sm_rI e_u65 hM_u65
set_option maxRecDepth 4000 in
theorem sw_X13_methodFits_30 (nn : Nat) : ∀ (k : Nat) {l1 : Int32} {y_l1 : Int} (e_l1 : l1.toInt = y_l1) {l2 : Int32} {y_l2 : Int} (e_l2 : l2.toInt = y_l2) {l3 : Int32} {y_l3 : Int} (e_l3 : l3.toInt = y_l3) {h : ms_M} (hM_h : Rg_M h), Sm_ RI_ (w_X13_methodFits_30 nn k 160 l1 l2 l3 (H_M h)) (qw_X13_methodFits_30 nn k y_l1 y_l2 y_l3 h) := by
  intro k
  induction k with
  | zero => intros; exact sm_no
  | succ k ih =>
    intro l1 y_l1 e_l1 l2 y_l2 e_l2 l3 y_l3 e_l3 h hM_h
    unfold w_X13_methodFits_30 qw_X13_methodFits_30
    refine sm_gi hM_h rfl ?_; intro v67 e_v67
    refine sm_le e_v67 e_l3 ?_ ?_
    · exact sw_X13_methodFits_97 nn nn e_l1 e_l2 rfl hM_h
    · refine sm_is hM_h rfl ?_
      refine sm_cP (sf_X13_code nn e_l3 hM_h) ?_; intro u69 y_u69 e_u69
      refine sm_cP (sf_X13_widthOf nn e_u69 hM_h) ?_; intro u70 y_u70 e_u70
      refine sm_eq e_u70 rfl ?_ ?_
      · exact sj_X13_methodFits_64 nn e_l1 e_l2 e_l3 hM_h
      · refine sm_oq_add e_l3 e_u70 ?_; intro v71 y_v71 e_v71
        refine sm_gi hM_h rfl ?_; intro v72 e_v72
        refine sm_le e_v71 e_v72 ?_ ?_
        · refine sm_gr hM_h (d := 242) rfl ?_
          refine sm_sz hM_h rfl e_l3 rfl ?_; intro h74 hM_h74
          refine sm_is hM_h74 rfl ?_
          refine sm_cP (sf_X13_code nn e_l3 hM_h74) ?_; intro u76 y_u76 e_u76
          refine sm_cP (sf_X13_widthOf nn e_u76 hM_h74) ?_; intro u77 y_u77 e_u77
          refine sm_oq_add e_l3 e_u77 ?_; intro v78 y_v78 e_v78
          exact ih e_l1 e_l2 e_v78 hM_h74
        · exact sj_X13_methodFits_64 nn e_l1 e_l2 e_l3 hM_h
set_option maxRecDepth 4000 in
theorem sw_X13_methodFits_8 (nn : Nat) : ∀ (k : Nat) {l1 : Int32} {y_l1 : Int} (e_l1 : l1.toInt = y_l1) {l2 : Int32} {y_l2 : Int} (e_l2 : l2.toInt = y_l2) {l3 : Int32} {y_l3 : Int} (e_l3 : l3.toInt = y_l3) {h : ms_M} (hM_h : Rg_M h), Sm_ RI_ (w_X13_methodFits_8 nn k 160 l1 l2 l3 (H_M h)) (qw_X13_methodFits_8 nn k y_l1 y_l2 y_l3 h) := by
  intro k
  induction k with
  | zero => intros; exact sm_no
  | succ k ih =>
    intro l1 y_l1 e_l1 l2 y_l2 e_l2 l3 y_l3 e_l3 h hM_h
    unfold w_X13_methodFits_8 qw_X13_methodFits_8
    refine sm_lt rfl e_l3 ?_ ?_
    · exact sw_X13_methodFits_30 nn nn e_l1 e_l2 rfl hM_h
    · refine sm_gr hM_h (d := 242) rfl ?_
      refine sm_sz hM_h rfl e_l3 rfl ?_; intro h83 hM_h83
      refine sm_oq_add e_l3 rfl ?_; intro v84 y_v84 e_v84
      exact ih e_l1 e_l2 e_v84 hM_h83
set_option maxRecDepth 4000 in
theorem sf_X13_methodFits (nn : Nat) {a1 : Int32} {y_a1 : Int} (e_a1 : a1.toInt = y_a1) {a2 : Int32} {y_a2 : Int} (e_a2 : a2.toInt = y_a2) {h : ms_M} (hM_h : Rg_M h) : Sm_ RI_ (f_X13_methodFits nn 160 a1 a2 (H_M h)) (qf_X13_methodFits nn y_a1 y_a2 h) := by
  unfold f_X13_methodFits qf_X13_methodFits
  refine sm_is hM_h rfl ?_
  refine sm_cV (sf_X13_at_ nn e_a1 e_a2 hM_h) ?_; intro u87 hM_u87
  exact sw_X13_methodFits_8 nn nn e_a1 e_a2 rfl hM_u87
set_option maxRecDepth 4000 in
theorem sj_X13_verify_103 (nn : Nat) {l1 : Int32} {y_l1 : Int} (e_l1 : l1.toInt = y_l1) {h : ms_M} (hM_h : Rg_M h) : Sm_ RI_ (j_X13_verify_103 nn 160 l1 (H_M h)) (qj_X13_verify_103 nn y_l1 h) := by
  unfold j_X13_verify_103 qj_X13_verify_103
  refine sm_bq e_l1 ?_
  refine sm_pv hM_h rfl e_l1 ?_; intro h2 hM_h2
  refine sm_gi hM_h2 rfl ?_; intro v3 e_v3
  exact sm_rI e_v3 hM_h2
set_option maxRecDepth 4000 in
theorem sw_X13_verify_67 (nn : Nat) {kk_50 : Nat → Int32 → Int32 → mx_H → Option (Int32 × mx_H)} {qkk_50 : Int → Int → ms_M → Option (Int × ms_M)} (hk_kk_50 : ∀ {l1 : Int32} {y_l1 : Int} (e_l1 : l1.toInt = y_l1) {l2 : Int32} {y_l2 : Int} (e_l2 : l2.toInt = y_l2) {h : ms_M} (hM_h : Rg_M h), Sm_ RI_ (kk_50 160 l1 l2 (H_M h)) (qkk_50 y_l1 y_l2 h)) : ∀ (k : Nat) {l1 : Int32} {y_l1 : Int} (e_l1 : l1.toInt = y_l1) {l2 : Int32} {y_l2 : Int} (e_l2 : l2.toInt = y_l2) {l3 : Int32} {y_l3 : Int} (e_l3 : l3.toInt = y_l3) {h : ms_M} (hM_h : Rg_M h), Sm_ RI_ (w_X13_verify_67 nn kk_50 k 160 l1 l2 l3 (H_M h)) (qw_X13_verify_67 nn qkk_50 k y_l1 y_l2 y_l3 h) := by
  intro k
  induction k with
  | zero => intros; exact sm_no
  | succ k ih =>
    intro l1 y_l1 e_l1 l2 y_l2 e_l2 l3 y_l3 e_l3 h hM_h
    unfold w_X13_verify_67 qw_X13_verify_67
    refine sm_gr hM_h (d := 234) rfl ?_
    refine sm_oq_sub e_l2 rfl ?_; intro v5 y_v5 e_v5
    refine sm_ai hM_h rfl e_v5 ?_; intro v6 y_v6 e_v6
    refine sm_le e_v6 e_l3 ?_ ?_
    · refine sm_oq_add e_l2 rfl ?_; intro v7 y_v7 e_v7
      exact hk_kk_50 e_l1 e_v7 hM_h
    · refine sm_eq e_l1 rfl ?_ ?_
      · refine sm_oq_add e_l2 rfl ?_; intro v8 y_v8 e_v8
        exact hk_kk_50 e_l1 e_v8 hM_h
      · refine sm_is hM_h rfl ?_
        refine sm_cI (sf_X13_methodFits nn e_l2 e_l3 hM_h) ?_; intro u10 y_u10 M_u10 e_u10 hM_u10
        refine sm_oq_add e_l3 rfl ?_; intro v11 y_v11 e_v11
        exact ih e_u10 e_l2 e_v11 hM_u10
set_option maxRecDepth 4000 in
theorem sw_X13_verify_50 (nn : Nat) : ∀ (k : Nat) {l1 : Int32} {y_l1 : Int} (e_l1 : l1.toInt = y_l1) {l2 : Int32} {y_l2 : Int} (e_l2 : l2.toInt = y_l2) {h : ms_M} (hM_h : Rg_M h), Sm_ RI_ (w_X13_verify_50 nn k 160 l1 l2 (H_M h)) (qw_X13_verify_50 nn k y_l1 y_l2 h) := by
  intro k
  induction k with
  | zero => intros; exact sm_no
  | succ k ih =>
    intro l1 y_l1 e_l1 l2 y_l2 e_l2 h hM_h
    unfold w_X13_verify_50 qw_X13_verify_50
    refine sm_gi hM_h rfl ?_; intro v14 e_v14
    refine sm_oq_add rfl e_v14 ?_; intro v15 y_v15 e_v15
    refine sm_le e_v15 e_l2 ?_ ?_
    · exact sj_X13_verify_103 nn e_l1 hM_h
    · refine sm_eq e_l1 rfl ?_ ?_
      · exact sj_X13_verify_103 nn e_l1 hM_h
      · exact sw_X13_verify_67 nn ih nn e_l1 e_l2 rfl hM_h
set_option maxRecDepth 4000 in
theorem sw_X13_verify_20 (nn : Nat) : ∀ (k : Nat) {l1 : Int32} {y_l1 : Int} (e_l1 : l1.toInt = y_l1) {l2 : Int32} {y_l2 : Int} (e_l2 : l2.toInt = y_l2) {h : ms_M} (hM_h : Rg_M h), Sm_ RI_ (w_X13_verify_20 nn k 160 l1 l2 (H_M h)) (qw_X13_verify_20 nn k y_l1 y_l2 h) := by
  intro k
  induction k with
  | zero => intros; exact sm_no
  | succ k ih =>
    intro l1 y_l1 e_l1 l2 y_l2 e_l2 h hM_h
    unfold w_X13_verify_20 qw_X13_verify_20
    refine sm_gi hM_h rfl ?_; intro v18 e_v18
    refine sm_oq_add rfl e_v18 ?_; intro v19 y_v19 e_v19
    refine sm_le e_v19 e_l2 ?_ ?_
    · exact sw_X13_verify_50 nn nn e_l1 rfl hM_h
    · refine sm_eq e_l1 rfl ?_ ?_
      · exact sw_X13_verify_50 nn nn e_l1 rfl hM_h
      · refine sm_is hM_h rfl ?_
        refine sm_cI (sf_X13_classFits nn e_l2 hM_h) ?_; intro u21 y_u21 M_u21 e_u21 hM_u21
        refine sm_oq_add e_l2 rfl ?_; intro v22 y_v22 e_v22
        exact ih e_u21 e_v22 hM_u21
set_option maxRecDepth 4000 in
theorem sf_X13_verify (nn : Nat) {h : ms_M} (hM_h : Rg_M h) : Sm_ RI_ (f_X13_verify nn 160 (H_M h)) (qf_X13_verify nn h) := by
  unfold f_X13_verify qf_X13_verify
  refine sm_pv hM_h rfl rfl ?_; intro h25 hM_h25
  refine sm_pv hM_h25 rfl rfl ?_; intro h26 hM_h26
  refine sm_pv hM_h26 rfl rfl ?_; intro h27 hM_h27
  exact sw_X13_verify_20 nn nn rfl rfl hM_h27
set_option maxRecDepth 4000 in
theorem sf_X13_where (nn : Nat) {a1 : Int32} {y_a1 : Int} (e_a1 : a1.toInt = y_a1) {h : ms_M} (hM_h : Rg_M h) : Sm_ (RP_ h) (f_X13_where nn 160 a1 (H_M h)) (qf_X13_where nn y_a1 h) := by
  unfold f_X13_where qf_X13_where
  refine sm_ne e_a1 rfl ?_ ?_
  · refine sm_ne e_a1 rfl ?_ ?_
    · refine sm_ne e_a1 rfl ?_ ?_
      · exact sm_rP rfl
      · refine sm_gi hM_h rfl ?_; intro v1 e_v1
        exact sm_rP e_v1
    · refine sm_gi hM_h rfl ?_; intro v3 e_v3
      exact sm_rP e_v3
  · refine sm_gi hM_h rfl ?_; intro v5 e_v5
    exact sm_rP e_v5
set_option maxRecDepth 4000 in
theorem sj_L_law_436 (X : Nat × (Nat → Int32)) (eX : (Int32.ofNat X.1).toInt = ((X.1 : Nat) : Int)) (nn : Nat) {kk_18 : Nat → Nat → Int32 → mx_H → Nat → Nat → Option (Int32 × mx_H × Nat × Nat)} {qkk_18 : Int → ms_M → Nat → Nat → Option (Int × ms_M × Nat × Nat)} (hk_kk_18 : ∀ {l3 : Int32} {y_l3 : Int} (e_l3 : l3.toInt = y_l3) {h : ms_M} (hM_h : Rg_M h) (c : Nat) (s : Nat), Sm_ RD_ (kk_18 0 160 l3 (H_M h) c s) (qkk_18 y_l3 h c s)) {l3 : Int32} {y_l3 : Int} (e_l3 : l3.toInt = y_l3) {h : ms_M} (hM_h : Rg_M h) (c : Nat) (s : Nat) : Sm_ RD_ (j_L_law_436 X nn kk_18 0 160 l3 (H_M h) c s) (qj_L_law_436 X nn qkk_18 y_l3 h c s) := by
  unfold j_L_law_436 qj_L_law_436
  refine sm_oq_add e_l3 rfl ?_; intro v1 y_v1 e_v1
  refine sm_xno hM_h ?_
  refine sm_sr e_v1 ?_; intro v3 y_v3 e_v3
  refine sm_is hM_h rfl ?_
  refine sm_cI (sf_X13_run nn e_v3 hM_h) ?_; intro u5 y_u5 M_u5 e_u5 hM_u5
  refine sm_oq_add e_l3 rfl ?_; intro v6 y_v6 e_v6
  exact hk_kk_18 e_v6 hM_u5 _ _
set_option maxRecDepth 4000 in
theorem sj_L_law_323 (X : Nat × (Nat → Int32)) (eX : (Int32.ofNat X.1).toInt = ((X.1 : Nat) : Int)) (nn : Nat) {kk_18 : Nat → Nat → Int32 → mx_H → Nat → Nat → Option (Int32 × mx_H × Nat × Nat)} {qkk_18 : Int → ms_M → Nat → Nat → Option (Int × ms_M × Nat × Nat)} (hk_kk_18 : ∀ {l3 : Int32} {y_l3 : Int} (e_l3 : l3.toInt = y_l3) {h : ms_M} (hM_h : Rg_M h) (c : Nat) (s : Nat), Sm_ RD_ (kk_18 0 160 l3 (H_M h) c s) (qkk_18 y_l3 h c s)) {l3 : Int32} {y_l3 : Int} (e_l3 : l3.toInt = y_l3) {h : ms_M} (hM_h : Rg_M h) (c : Nat) (s : Nat) : Sm_ RD_ (j_L_law_323 X nn kk_18 0 160 l3 (H_M h) c s) (qj_L_law_323 X nn qkk_18 y_l3 h c s) := by
  unfold j_L_law_323 qj_L_law_323
  refine sm_oq_add e_l3 rfl ?_; intro v7 y_v7 e_v7
  refine sm_xno hM_h ?_
  refine sm_sr e_v7 ?_; intro v9 y_v9 e_v9
  refine sm_oq_add e_l3 rfl ?_; intro v10 y_v10 e_v10
  refine sm_xno hM_h ?_
  refine sm_sr e_v10 ?_; intro v12 y_v12 e_v12
  refine sm_oq_add e_l3 rfl ?_; intro v13 y_v13 e_v13
  refine sm_xno hM_h ?_
  refine sm_sr e_v13 ?_; intro v15 y_v15 e_v15
  refine sm_is hM_h rfl ?_
  refine sm_cI (sf_X13_patch nn e_v9 e_v12 e_v15 hM_h) ?_; intro u17 y_u17 M_u17 e_u17 hM_u17
  refine sm_oq_add e_l3 rfl ?_; intro v18 y_v18 e_v18
  exact hk_kk_18 e_v18 hM_u17 _ _
set_option maxRecDepth 4000 in
theorem sj_L_law_196 (X : Nat × (Nat → Int32)) (eX : (Int32.ofNat X.1).toInt = ((X.1 : Nat) : Int)) (nn : Nat) {h : ms_M} (hM_h : Rg_M h) (c : Nat) (s : Nat) : Sm_ RD_ (j_L_law_196 X nn (H_M h) c s) (qj_L_law_196 X nn h c s) := by
  unfold j_L_law_196 qj_L_law_196
  exact sm_rD rfl hM_h
set_option maxRecDepth 4000 in
theorem sw_L_law_18 (X : Nat × (Nat → Int32)) (eX : (Int32.ofNat X.1).toInt = ((X.1 : Nat) : Int)) (nn : Nat) : ∀ (k : Nat) {l3 : Int32} {y_l3 : Int} (e_l3 : l3.toInt = y_l3) {h : ms_M} (hM_h : Rg_M h) (c : Nat) (s : Nat), Sm_ RD_ (w_L_law_18 X nn k 0 160 l3 (H_M h) c s) (qw_L_law_18 X nn k y_l3 h c s) := by
  intro k
  induction k with
  | zero => intros; exact sm_no
  | succ k ih =>
    intro l3 y_l3 e_l3 h hM_h c s
    unfold w_L_law_18 qw_L_law_18
    refine sm_xno hM_h ?_
    refine sm_oq_sub eX rfl ?_; intro v20 y_v20 e_v20
    refine sm_lt e_v20 e_l3 ?_ ?_
    · exact sm_rD rfl hM_h
    · refine sm_xno hM_h ?_
      refine sm_sr e_l3 ?_; intro v22 y_v22 e_v22
      refine sm_oq_and e_v22 rfl ?_; intro v23 y_v23 e_v23
      refine sm_eq e_v23 rfl ?_ ?_
      · refine sm_oq_add e_l3 rfl ?_; intro v25 y_v25 e_v25
        refine sm_xno hM_h ?_
        refine sm_sr e_v25 ?_; intro v27 y_v27 e_v27
        refine sm_oq_add e_l3 rfl ?_; intro v28 y_v28 e_v28
        refine sm_xno hM_h ?_
        refine sm_sr e_v28 ?_; intro v30 y_v30 e_v30
        refine sm_oq_add e_l3 rfl ?_; intro v31 y_v31 e_v31
        refine sm_xno hM_h ?_
        refine sm_sr e_v31 ?_; intro v33 y_v33 e_v33
        refine sm_oq_add e_l3 rfl ?_; intro v34 y_v34 e_v34
        refine sm_xno hM_h ?_
        refine sm_sr e_v34 ?_; intro v36 y_v36 e_v36
        refine sm_oq_add e_l3 rfl ?_; intro v37 y_v37 e_v37
        refine sm_xno hM_h ?_
        refine sm_sr e_v37 ?_; intro v39 y_v39 e_v39
        refine sm_is hM_h rfl ?_
        refine sm_cI (sf_X12_feed nn e_v27 e_v30 e_v33 e_v36 e_v39 hM_h) ?_; intro u41 y_u41 M_u41 e_u41 hM_u41
        refine sm_oq_add e_l3 rfl ?_; intro v42 y_v42 e_v42
        refine sm_xno hM_u41 ?_
        refine sm_sr e_v42 ?_; intro v44 y_v44 e_v44
        refine sm_oq_add e_l3 rfl ?_; intro v45 y_v45 e_v45
        refine sm_xno hM_u41 ?_
        refine sm_sr e_v45 ?_; intro v47 y_v47 e_v47
        refine sm_oq_add e_l3 rfl ?_; intro v48 y_v48 e_v48
        refine sm_xno hM_u41 ?_
        refine sm_sr e_v48 ?_; intro v50 y_v50 e_v50
        refine sm_oq_add e_l3 rfl ?_; intro v51 y_v51 e_v51
        refine sm_xno hM_u41 ?_
        refine sm_sr e_v51 ?_; intro v53 y_v53 e_v53
        refine sm_oq_add e_l3 rfl ?_; intro v54 y_v54 e_v54
        refine sm_xno hM_u41 ?_
        refine sm_sr e_v54 ?_; intro v56 y_v56 e_v56
        refine sm_is hM_u41 rfl ?_
        refine sm_cI (sf_X13_feed nn e_v44 e_v47 e_v50 e_v53 e_v56 hM_u41) ?_; intro u58 y_u58 M_u58 e_u58 hM_u58
        refine sm_oq_add e_l3 rfl ?_; intro v59 y_v59 e_v59
        exact ih e_v59 hM_u58 _ _
      · refine sm_eq e_v23 rfl ?_ ?_
        · refine sm_oq_add e_l3 rfl ?_; intro v60 y_v60 e_v60
          refine sm_xno hM_h ?_
          refine sm_sr e_v60 ?_; intro v62 y_v62 e_v62
          refine sm_is hM_h rfl ?_
          refine sm_cI (sf_X12_end nn e_v62 hM_h) ?_; intro u64 y_u64 M_u64 e_u64 hM_u64
          refine sm_oq_add e_l3 rfl ?_; intro v65 y_v65 e_v65
          refine sm_xno hM_u64 ?_
          refine sm_sr e_v65 ?_; intro v67 y_v67 e_v67
          refine sm_is hM_u64 rfl ?_
          refine sm_cI (sf_X13_end nn e_v67 hM_u64) ?_; intro u69 y_u69 M_u69 e_u69 hM_u69
          refine sm_eq e_u64 e_u69 ?_ ?_
          · refine sm_oq_add e_l3 rfl ?_; intro v70 y_v70 e_v70
            exact ih e_v70 hM_u69 _ _
          · exact sj_L_law_196 X eX nn hM_u69 _ _
        · refine sm_eq e_v23 rfl ?_ ?_
          · refine sm_is hM_h rfl ?_
            refine sm_cD (sf_X12_compile nn hM_h) ?_; intro u73 y_u73 M_u73 c_u73 s_u73 e_u73 hM_u73
            refine sm_is hM_u73 rfl ?_
            refine sm_cI (sf_X13_compile nn hM_u73) ?_; intro u75 y_u75 M_u75 e_u75 hM_u75
            refine sm_oq_add e_l3 rfl ?_; intro v76 y_v76 e_v76
            exact ih e_v76 hM_u75 _ _
          · refine sm_eq e_v23 rfl ?_ ?_
            · refine sm_oq_add e_l3 rfl ?_; intro v77 y_v77 e_v77
              refine sm_xno hM_h ?_
              refine sm_sr e_v77 ?_; intro v79 y_v79 e_v79
              refine sm_is hM_h rfl ?_
              refine sm_cP (sf_X12_fault nn e_v79 hM_h) ?_; intro u81 y_u81 e_u81
              refine sm_oq_add e_l3 rfl ?_; intro v82 y_v82 e_v82
              refine sm_xno hM_h ?_
              refine sm_sr e_v82 ?_; intro v84 y_v84 e_v84
              refine sm_is hM_h rfl ?_
              refine sm_cP (sf_X13_fault nn e_v84 hM_h) ?_; intro u86 y_u86 e_u86
              refine sm_oq_add e_l3 rfl ?_; intro v87 y_v87 e_v87
              exact ih e_v87 hM_h _ _
            · refine sm_eq e_v23 rfl ?_ ?_
              · refine sm_oq_add e_l3 rfl ?_; intro v88 y_v88 e_v88
                refine sm_xno hM_h ?_
                refine sm_sr e_v88 ?_; intro v90 y_v90 e_v90
                refine sm_oq_add e_l3 rfl ?_; intro v91 y_v91 e_v91
                refine sm_xno hM_h ?_
                refine sm_sr e_v91 ?_; intro v93 y_v93 e_v93
                refine sm_is hM_h rfl ?_
                refine sm_cP (sf_X12_image nn e_v90 e_v93 hM_h) ?_; intro u95 y_u95 e_u95
                refine sm_oq_add e_l3 rfl ?_; intro v96 y_v96 e_v96
                refine sm_xno hM_h ?_
                refine sm_sr e_v96 ?_; intro v98 y_v98 e_v98
                refine sm_oq_add e_l3 rfl ?_; intro v99 y_v99 e_v99
                refine sm_xno hM_h ?_
                refine sm_sr e_v99 ?_; intro v101 y_v101 e_v101
                refine sm_is hM_h rfl ?_
                refine sm_cP (sf_X13_image nn e_v98 e_v101 hM_h) ?_; intro u103 y_u103 e_u103
                refine sm_oq_add e_l3 rfl ?_; intro v104 y_v104 e_v104
                exact ih e_v104 hM_h _ _
              · refine sm_eq e_v23 rfl ?_ ?_
                · refine sm_is hM_h rfl ?_
                  refine sm_cD (sf_X12_load nn hM_h) ?_; intro u106 y_u106 M_u106 c_u106 s_u106 e_u106 hM_u106
                  refine sm_is hM_u106 rfl ?_
                  refine sm_cI (sf_X13_load nn hM_u106) ?_; intro u108 y_u108 M_u108 e_u108 hM_u108
                  refine sm_oq_add e_l3 rfl ?_; intro v109 y_v109 e_v109
                  exact ih e_v109 hM_u108 _ _
                · refine sm_eq e_v23 rfl ?_ ?_
                  · refine sm_oq_add e_l3 rfl ?_; intro v110 y_v110 e_v110
                    refine sm_xno hM_h ?_
                    refine sm_sr e_v110 ?_; intro v112 y_v112 e_v112
                    refine sm_is hM_h rfl ?_
                    refine sm_cD (sf_X12_keep nn e_v112 hM_h) ?_; intro u114 y_u114 M_u114 c_u114 s_u114 e_u114 hM_u114
                    refine sm_oq_add e_l3 rfl ?_; intro v115 y_v115 e_v115
                    refine sm_xno hM_u114 ?_
                    refine sm_sr e_v115 ?_; intro v117 y_v117 e_v117
                    refine sm_is hM_u114 rfl ?_
                    refine sm_cI (sf_X13_keep nn e_v117 hM_u114) ?_; intro u119 y_u119 M_u119 e_u119 hM_u119
                    refine sm_oq_add e_l3 rfl ?_; intro v120 y_v120 e_v120
                    exact ih e_v120 hM_u119 _ _
                  · refine sm_eq e_v23 rfl ?_ ?_
                    · refine sm_oq_add e_l3 rfl ?_; intro v121 y_v121 e_v121
                      refine sm_xno hM_h ?_
                      refine sm_sr e_v121 ?_; intro v123 y_v123 e_v123
                      refine sm_oq_add e_l3 rfl ?_; intro v124 y_v124 e_v124
                      refine sm_xno hM_h ?_
                      refine sm_sr e_v124 ?_; intro v126 y_v126 e_v126
                      refine sm_oq_add e_l3 rfl ?_; intro v127 y_v127 e_v127
                      refine sm_xno hM_h ?_
                      refine sm_sr e_v127 ?_; intro v129 y_v129 e_v129
                      refine sm_is hM_h rfl ?_
                      refine sm_cI (sf_X12_patch nn e_v123 e_v126 e_v129 hM_h) ?_; intro u131 y_u131 M_u131 e_u131 hM_u131
                      exact sj_L_law_323 X eX nn ih e_l3 hM_u131 _ _
                    · refine sm_eq e_v23 rfl ?_ ?_
                      · refine sm_is hM_h rfl ?_
                        refine sm_cV (sf_X12_clear nn hM_h) ?_; intro u133 hM_u133
                        refine sm_is hM_u133 rfl ?_
                        refine sm_cV (sf_X13_clear nn hM_u133) ?_; intro u135 hM_u135
                        refine sm_oq_add e_l3 rfl ?_; intro v136 y_v136 e_v136
                        exact ih e_v136 hM_u135 _ _
                      · refine sm_eq e_v23 rfl ?_ ?_
                        · refine sm_is hM_h rfl ?_
                          refine sm_cI (sf_X12_verify nn hM_h) ?_; intro u138 y_u138 M_u138 e_u138 hM_u138
                          refine sm_is hM_u138 rfl ?_
                          refine sm_cI (sf_X13_verify nn hM_u138) ?_; intro u140 y_u140 M_u140 e_u140 hM_u140
                          refine sm_oq_add e_l3 rfl ?_; intro v141 y_v141 e_v141
                          exact ih e_v141 hM_u140 _ _
                        · refine sm_eq e_v23 rfl ?_ ?_
                          · refine sm_oq_add e_l3 rfl ?_; intro v142 y_v142 e_v142
                            refine sm_xno hM_h ?_
                            refine sm_sr e_v142 ?_; intro v144 y_v144 e_v144
                            refine sm_is hM_h rfl ?_
                            refine sm_cP (sf_X12_where nn e_v144 hM_h) ?_; intro u146 y_u146 e_u146
                            refine sm_oq_add e_l3 rfl ?_; intro v147 y_v147 e_v147
                            refine sm_xno hM_h ?_
                            refine sm_sr e_v147 ?_; intro v149 y_v149 e_v149
                            refine sm_is hM_h rfl ?_
                            refine sm_cP (sf_X13_where nn e_v149 hM_h) ?_; intro u151 y_u151 e_u151
                            refine sm_oq_add e_l3 rfl ?_; intro v152 y_v152 e_v152
                            exact ih e_v152 hM_h _ _
                          · refine sm_eq e_v23 rfl ?_ ?_
                            · refine sm_oq_add e_l3 rfl ?_; intro v153 y_v153 e_v153
                              refine sm_xno hM_h ?_
                              refine sm_sr e_v153 ?_; intro v155 y_v155 e_v155
                              refine sm_oq_add e_l3 rfl ?_; intro v156 y_v156 e_v156
                              refine sm_xno hM_h ?_
                              refine sm_sr e_v156 ?_; intro v158 y_v158 e_v158
                              refine sm_is hM_h rfl ?_
                              refine sm_cI (sf_X12_start nn e_v155 e_v158 hM_h) ?_; intro u160 y_u160 M_u160 e_u160 hM_u160
                              refine sm_oq_add e_l3 rfl ?_; intro v161 y_v161 e_v161
                              refine sm_xno hM_u160 ?_
                              refine sm_sr e_v161 ?_; intro v163 y_v163 e_v163
                              refine sm_oq_add e_l3 rfl ?_; intro v164 y_v164 e_v164
                              refine sm_xno hM_u160 ?_
                              refine sm_sr e_v164 ?_; intro v166 y_v166 e_v166
                              refine sm_is hM_u160 rfl ?_
                              refine sm_cI (sf_X13_start nn e_v163 e_v166 hM_u160) ?_; intro u168 y_u168 M_u168 e_u168 hM_u168
                              refine sm_oq_add e_l3 rfl ?_; intro v169 y_v169 e_v169
                              exact ih e_v169 hM_u168 _ _
                            · refine sm_eq e_v23 rfl ?_ ?_
                              · refine sm_oq_add e_l3 rfl ?_; intro v170 y_v170 e_v170
                                refine sm_xno hM_h ?_
                                refine sm_sr e_v170 ?_; intro v172 y_v172 e_v172
                                refine sm_is hM_h rfl ?_
                                refine sm_cI (sf_X12_run nn e_v172 hM_h) ?_; intro u174 y_u174 M_u174 e_u174 hM_u174
                                exact sj_L_law_436 X eX nn ih e_l3 hM_u174 _ _
                              · refine sm_eq e_v23 rfl ?_ ?_
                                · refine sm_oq_add e_l3 rfl ?_; intro v175 y_v175 e_v175
                                  refine sm_xno hM_h ?_
                                  refine sm_sr e_v175 ?_; intro v177 y_v177 e_v177
                                  refine sm_is hM_h rfl ?_
                                  refine sm_cP (sf_X12_look nn e_v177 hM_h) ?_; intro u179 y_u179 e_u179
                                  refine sm_oq_add e_l3 rfl ?_; intro v180 y_v180 e_v180
                                  refine sm_xno hM_h ?_
                                  refine sm_sr e_v180 ?_; intro v182 y_v182 e_v182
                                  refine sm_is hM_h rfl ?_
                                  refine sm_cP (sf_X13_look nn e_v182 hM_h) ?_; intro u184 y_u184 e_u184
                                  refine sm_oq_add e_l3 rfl ?_; intro v185 y_v185 e_v185
                                  exact ih e_v185 hM_h _ _
                                · refine sm_eq e_v23 rfl ?_ ?_
                                  · refine sm_oq_add e_l3 rfl ?_; intro v186 y_v186 e_v186
                                    refine sm_xno hM_h ?_
                                    refine sm_sr e_v186 ?_; intro v188 y_v188 e_v188
                                    refine sm_is hM_h rfl ?_
                                    refine sm_cP (sf_X12_out nn e_v188 hM_h) ?_; intro u190 y_u190 e_u190
                                    refine sm_oq_add e_l3 rfl ?_; intro v191 y_v191 e_v191
                                    refine sm_xno hM_h ?_
                                    refine sm_sr e_v191 ?_; intro v193 y_v193 e_v193
                                    refine sm_is hM_h rfl ?_
                                    refine sm_cP (sf_X13_out nn e_v193 hM_h) ?_; intro u195 y_u195 e_u195
                                    refine sm_oq_add e_l3 rfl ?_; intro v196 y_v196 e_v196
                                    exact ih e_v196 hM_h _ _
                                  · refine sm_eq e_v23 rfl ?_ ?_
                                    · refine sm_oq_add e_l3 rfl ?_; intro v197 y_v197 e_v197
                                      refine sm_xno hM_h ?_
                                      refine sm_sr e_v197 ?_; intro v199 y_v199 e_v199
                                      refine sm_oq_add e_l3 rfl ?_; intro v200 y_v200 e_v200
                                      refine sm_xno hM_h ?_
                                      refine sm_sr e_v200 ?_; intro v202 y_v202 e_v202
                                      refine sm_is hM_h rfl ?_
                                      refine sm_cP (sf_X12_type nn e_v199 e_v202 hM_h) ?_; intro u204 y_u204 e_u204
                                      refine sm_oq_add e_l3 rfl ?_; intro v205 y_v205 e_v205
                                      refine sm_xno hM_h ?_
                                      refine sm_sr e_v205 ?_; intro v207 y_v207 e_v207
                                      refine sm_oq_add e_l3 rfl ?_; intro v208 y_v208 e_v208
                                      refine sm_xno hM_h ?_
                                      refine sm_sr e_v208 ?_; intro v210 y_v210 e_v210
                                      refine sm_is hM_h rfl ?_
                                      refine sm_cP (sf_X13_type_ nn e_v207 e_v210 hM_h) ?_; intro u212 y_u212 e_u212
                                      refine sm_oq_add e_l3 rfl ?_; intro v213 y_v213 e_v213
                                      exact ih e_v213 hM_h _ _
                                    · refine sm_oq_add e_l3 rfl ?_; intro v24 y_v24 e_v24
                                      exact ih e_v24 hM_h _ _
