set_option maxRecDepth 4000 in
theorem sj_X13_handlerFits_93 (nn : Nat) {l1 : Int32} {y_l1 : Int} (e_l1 : l1.toInt = y_l1) {l4 : Int32} {y_l4 : Int} (e_l4 : l4.toInt = y_l4) {h : ms_M} (hM_h : Rg_M h) : Sm_ RI_ (j_X13_handlerFits_93 nn 160 l1 l4 (H_M h)) (qj_X13_handlerFits_93 nn y_l1 y_l4 h) := by
  unfold j_X13_handlerFits_93 qj_X13_handlerFits_93
  exact sj_X13_handlerFits_94 nn e_l1 e_l4 rfl hM_h
set_option maxRecDepth 4000 in
theorem sj_X13_handlerFits_84 (nn : Nat) {l1 : Int32} {y_l1 : Int} (e_l1 : l1.toInt = y_l1) {l2 : Int32} {y_l2 : Int} (e_l2 : l2.toInt = y_l2) {l3 : Int32} {y_l3 : Int} (e_l3 : l3.toInt = y_l3) {l4 : Int32} {y_l4 : Int} (e_l4 : l4.toInt = y_l4) {h : ms_M} (hM_h : Rg_M h) : Sm_ RI_ (j_X13_handlerFits_84 nn 160 l1 l2 l3 l4 (H_M h)) (qj_X13_handlerFits_84 nn y_l1 y_l2 y_l3 y_l4 h) := by
  unfold j_X13_handlerFits_84 qj_X13_handlerFits_84
  refine sm_le e_l3 e_l2 ?_ ?_
  · exact sj_X13_handlerFits_93 nn e_l1 e_l4 hM_h
  · exact sj_X13_handlerFits_94 nn e_l1 e_l4 rfl hM_h
set_option maxRecDepth 4000 in
theorem sf_X13_handlerFits (nn : Nat) {a1 : Int32} {y_a1 : Int} (e_a1 : a1.toInt = y_a1) {h : ms_M} (hM_h : Rg_M h) : Sm_ RI_ (f_X13_handlerFits nn 160 a1 (H_M h)) (qf_X13_handlerFits nn y_a1 h) := by
  unfold f_X13_handlerFits qf_X13_handlerFits
  refine sm_is hM_h rfl ?_
  refine sm_cP (sf_X13_pairIn nn e_a1 hM_h) ?_; intro u19 y_u19 e_u19
  refine sm_oq_add e_a1 rfl ?_; intro v20 y_v20 e_v20
  refine sm_is hM_h rfl ?_
  refine sm_cP (sf_X13_pairIn nn e_v20 hM_h) ?_; intro u22 y_u22 e_u22
  refine sm_oq_add e_a1 rfl ?_; intro v23 y_v23 e_v23
  refine sm_is hM_h rfl ?_
  refine sm_cP (sf_X13_pairIn nn e_v23 hM_h) ?_; intro u25 y_u25 e_u25
  refine sm_gi hM_h rfl ?_; intro v26 e_v26
  refine sm_le e_v26 e_u19 ?_ ?_
  · exact sj_X13_handlerFits_93 nn e_a1 e_u25 hM_h
  · refine sm_gr hM_h (d := 242) rfl ?_
    refine sm_ab hM_h rfl e_u19 ?_; intro v28 y_v28 e_v28
    refine sm_eq e_v28 rfl ?_ ?_
    · exact sj_X13_handlerFits_93 nn e_a1 e_u25 hM_h
    · refine sm_gi hM_h rfl ?_; intro v29 e_v29
      refine sm_le e_v29 e_u25 ?_ ?_
      · exact sj_X13_handlerFits_93 nn e_a1 e_u25 hM_h
      · refine sm_gr hM_h (d := 242) rfl ?_
        refine sm_ab hM_h rfl e_u25 ?_; intro v31 y_v31 e_v31
        refine sm_eq e_v31 rfl ?_ ?_
        · exact sj_X13_handlerFits_93 nn e_a1 e_u25 hM_h
        · refine sm_gi hM_h rfl ?_; intro v32 e_v32
          refine sm_eq e_u22 e_v32 ?_ ?_
          · exact sj_X13_handlerFits_84 nn e_a1 e_u19 e_u22 e_u25 hM_h
          · refine sm_gi hM_h rfl ?_; intro v33 e_v33
            refine sm_le e_v33 e_u22 ?_ ?_
            · exact sj_X13_handlerFits_93 nn e_a1 e_u25 hM_h
            · refine sm_gr hM_h (d := 242) rfl ?_
              refine sm_ab hM_h rfl e_u22 ?_; intro v35 y_v35 e_v35
              refine sm_eq e_v35 rfl ?_ ?_
              · exact sj_X13_handlerFits_93 nn e_a1 e_u25 hM_h
              · exact sj_X13_handlerFits_84 nn e_a1 e_u19 e_u22 e_u25 hM_h
set_option maxRecDepth 4000 in
theorem sj_X13_methodFits_305 (nn : Nat) {l1 : Int32} {y_l1 : Int} (e_l1 : l1.toInt = y_l1) {l2 : Int32} {y_l2 : Int} (e_l2 : l2.toInt = y_l2) {l5 : Int32} {y_l5 : Int} (e_l5 : l5.toInt = y_l5) {h : ms_M} (hM_h : Rg_M h) : Sm_ RI_ (j_X13_methodFits_305 nn 160 l1 l2 l5 (H_M h)) (qj_X13_methodFits_305 nn y_l1 y_l2 y_l5 h) := by
  unfold j_X13_methodFits_305 qj_X13_methodFits_305
  refine sm_is hM_h rfl ?_
  refine sm_cI (sf_X13_bad nn rfl e_l1 e_l2 e_l5 hM_h) ?_; intro u2 y_u2 M_u2 e_u2 hM_u2
  refine sm_bq e_u2 ?_
  exact sm_rI e_u2 hM_u2
set_option maxRecDepth 4000 in
theorem sw_X13_methodFits_245 (nn : Nat) : ∀ (k : Nat) {l1 : Int32} {y_l1 : Int} (e_l1 : l1.toInt = y_l1) {l2 : Int32} {y_l2 : Int} (e_l2 : l2.toInt = y_l2) {l4 : Int32} {y_l4 : Int} (e_l4 : l4.toInt = y_l4) {l5 : Int32} {y_l5 : Int} (e_l5 : l5.toInt = y_l5) {h : ms_M} (hM_h : Rg_M h), Sm_ RI_ (w_X13_methodFits_245 nn k 160 l1 l2 l4 l5 (H_M h)) (qw_X13_methodFits_245 nn k y_l1 y_l2 y_l4 y_l5 h) := by
  intro k
  induction k with
  | zero => intros; exact sm_no
  | succ k ih =>
    intro l1 y_l1 e_l1 l2 y_l2 e_l2 l4 y_l4 e_l4 l5 y_l5 e_l5 h hM_h
    unfold w_X13_methodFits_245 qw_X13_methodFits_245
    refine sm_is hM_h rfl ?_
    refine sm_cP (sf_X13_frameMany nn hM_h) ?_; intro u5 y_u5 e_u5
    refine sm_le e_u5 e_l5 ?_ ?_
    · refine sm_is hM_h rfl ?_
      refine sm_cI (sf_X13_flows nn e_l1 e_l2 hM_h) ?_; intro u7 y_u7 M_u7 e_u7 hM_u7
      refine sm_bq e_u7 ?_
      exact sm_rI e_u7 hM_u7
    · refine sm_is hM_h rfl ?_
      refine sm_cP (sf_X13_frameAt nn e_l5 hM_h) ?_; intro u10 y_u10 e_u10
      refine sm_is hM_h rfl ?_
      refine sm_cP (sf_X13_pairIn nn e_u10 hM_h) ?_; intro u12 y_u12 e_u12
      refine sm_le e_u12 e_l4 ?_ ?_
      · exact sj_X13_methodFits_305 nn e_l1 e_l2 e_l5 hM_h
      · refine sm_gi hM_h rfl ?_; intro v13 e_v13
        refine sm_le e_v13 e_u12 ?_ ?_
        · exact sj_X13_methodFits_305 nn e_l1 e_l2 e_l5 hM_h
        · refine sm_gr hM_h (d := 242) rfl ?_
          refine sm_ab hM_h rfl e_u12 ?_; intro v15 y_v15 e_v15
          refine sm_eq e_v15 rfl ?_ ?_
          · exact sj_X13_methodFits_305 nn e_l1 e_l2 e_l5 hM_h
          · refine sm_is hM_h rfl ?_
            refine sm_cI (sf_X13_frameIsThere nn e_u10 hM_h) ?_; intro u17 y_u17 M_u17 e_u17 hM_u17
            refine sm_ne e_u17 rfl ?_ ?_
            · refine sm_oq_add e_l5 rfl ?_; intro v18 y_v18 e_v18
              exact ih e_l1 e_l2 e_u12 e_v18 hM_u17
            · exact sj_X13_methodFits_305 nn e_l1 e_l2 e_l5 hM_u17
set_option maxRecDepth 4000 in
theorem sw_X13_methodFits_192 (nn : Nat) : ∀ (k : Nat) {l1 : Int32} {y_l1 : Int} (e_l1 : l1.toInt = y_l1) {l2 : Int32} {y_l2 : Int} (e_l2 : l2.toInt = y_l2) {l3 : Int32} {y_l3 : Int} (e_l3 : l3.toInt = y_l3) {l4 : Int32} {y_l4 : Int} (e_l4 : l4.toInt = y_l4) {h : ms_M} (hM_h : Rg_M h), Sm_ RI_ (w_X13_methodFits_192 nn k 160 l1 l2 l3 l4 (H_M h)) (qw_X13_methodFits_192 nn k y_l1 y_l2 y_l3 y_l4 h) := by
  intro k
  induction k with
  | zero => intros; exact sm_no
  | succ k ih =>
    intro l1 y_l1 e_l1 l2 y_l2 e_l2 l3 y_l3 e_l3 l4 y_l4 e_l4 h hM_h
    unfold w_X13_methodFits_192 qw_X13_methodFits_192
    refine sm_gi hM_h rfl ?_; intro v24 e_v24
    refine sm_is hM_h rfl ?_
    refine sm_cP (sf_X13_byteAt nn e_v24 e_l3 hM_h) ?_; intro u26 y_u26 e_u26
    refine sm_le e_u26 e_l4 ?_ ?_
    · exact sw_X13_methodFits_245 nn nn e_l1 e_l2 rfl rfl hM_h
    · refine sm_oq_add e_l3 rfl ?_; intro v27 y_v27 e_v27
      refine sm_oq_mul rfl e_l4 ?_; intro v28 y_v28 e_v28
      refine sm_oq_add e_v27 e_v28 ?_; intro v29 y_v29 e_v29
      refine sm_is hM_h rfl ?_
      refine sm_cI (sf_X13_handlerFits nn e_v29 hM_h) ?_; intro u31 y_u31 M_u31 e_u31 hM_u31
      refine sm_ne e_u31 rfl ?_ ?_
      · refine sm_oq_add e_l4 rfl ?_; intro v32 y_v32 e_v32
        exact ih e_l1 e_l2 e_l3 e_v32 hM_u31
      · refine sm_is hM_u31 rfl ?_
        refine sm_cI (sf_X13_bad nn rfl e_l1 e_l2 e_l4 hM_u31) ?_; intro u34 y_u34 M_u34 e_u34 hM_u34
        refine sm_bq e_u34 ?_
        exact sm_rI e_u34 hM_u34
set_option maxRecDepth 4000 in
theorem sj_X13_methodFits_160 (nn : Nat) {kk_97 : Nat → Int32 → Int32 → Int32 → mx_H → Option (Int32 × mx_H)} {qkk_97 : Int → Int → Int → ms_M → Option (Int × ms_M)} (hk_kk_97 : ∀ {l1 : Int32} {y_l1 : Int} (e_l1 : l1.toInt = y_l1) {l2 : Int32} {y_l2 : Int} (e_l2 : l2.toInt = y_l2) {l3 : Int32} {y_l3 : Int} (e_l3 : l3.toInt = y_l3) {h : ms_M} (hM_h : Rg_M h), Sm_ RI_ (kk_97 160 l1 l2 l3 (H_M h)) (qkk_97 y_l1 y_l2 y_l3 h)) {l1 : Int32} {y_l1 : Int} (e_l1 : l1.toInt = y_l1) {l2 : Int32} {y_l2 : Int} (e_l2 : l2.toInt = y_l2) {l3 : Int32} {y_l3 : Int} (e_l3 : l3.toInt = y_l3) {h : ms_M} (hM_h : Rg_M h) : Sm_ RI_ (j_X13_methodFits_160 nn kk_97 160 l1 l2 l3 (H_M h)) (qj_X13_methodFits_160 nn qkk_97 y_l1 y_l2 y_l3 h) := by
  unfold j_X13_methodFits_160 qj_X13_methodFits_160
  refine sm_is hM_h rfl ?_
  refine sm_cP (sf_X13_code nn e_l3 hM_h) ?_; intro u39 y_u39 e_u39
  refine sm_cP (sf_X13_widthOf nn e_u39 hM_h) ?_; intro u40 y_u40 e_u40
  refine sm_oq_add e_l3 e_u40 ?_; intro v41 y_v41 e_v41
  exact hk_kk_97 e_l1 e_l2 e_v41 hM_h
set_option maxRecDepth 4000 in
theorem sj_X13_methodFits_150 (nn : Nat) {l1 : Int32} {y_l1 : Int} (e_l1 : l1.toInt = y_l1) {l2 : Int32} {y_l2 : Int} (e_l2 : l2.toInt = y_l2) {l3 : Int32} {y_l3 : Int} (e_l3 : l3.toInt = y_l3) {h : ms_M} (hM_h : Rg_M h) : Sm_ RI_ (j_X13_methodFits_150 nn 160 l1 l2 l3 (H_M h)) (qj_X13_methodFits_150 nn y_l1 y_l2 y_l3 h) := by
  unfold j_X13_methodFits_150 qj_X13_methodFits_150
  refine sm_is hM_h rfl ?_
  refine sm_cI (sf_X13_bad nn rfl e_l1 e_l2 e_l3 hM_h) ?_; intro u43 y_u43 M_u43 e_u43 hM_u43
  refine sm_bq e_u43 ?_
  exact sm_rI e_u43 hM_u43
set_option maxRecDepth 4000 in
theorem sw_X13_methodFits_97 (nn : Nat) : ∀ (k : Nat) {l1 : Int32} {y_l1 : Int} (e_l1 : l1.toInt = y_l1) {l2 : Int32} {y_l2 : Int} (e_l2 : l2.toInt = y_l2) {l3 : Int32} {y_l3 : Int} (e_l3 : l3.toInt = y_l3) {h : ms_M} (hM_h : Rg_M h), Sm_ RI_ (w_X13_methodFits_97 nn k 160 l1 l2 l3 (H_M h)) (qw_X13_methodFits_97 nn k y_l1 y_l2 y_l3 h) := by
  intro k
  induction k with
  | zero => intros; exact sm_no
  | succ k ih =>
    intro l1 y_l1 e_l1 l2 y_l2 e_l2 l3 y_l3 e_l3 h hM_h
    unfold w_X13_methodFits_97 qw_X13_methodFits_97
    refine sm_gi hM_h rfl ?_; intro v45 e_v45
    refine sm_le e_v45 e_l3 ?_ ?_
    · refine sm_gr hM_h (d := 236) rfl ?_
      refine sm_gi hM_h rfl ?_; intro v47 e_v47
      refine sm_oq_mul rfl e_v47 ?_; intro v48 y_v48 e_v48
      refine sm_oq_add e_v48 e_l2 ?_; intro v49 y_v49 e_v49
      refine sm_ai hM_h rfl e_v49 ?_; intro v50 y_v50 e_v50
      exact sw_X13_methodFits_192 nn nn e_l1 e_l2 e_v50 rfl hM_h
    · refine sm_is hM_h rfl ?_
      refine sm_cP (sf_X13_code nn e_l3 hM_h) ?_; intro u52 y_u52 e_u52
      refine sm_cP (sf_X13_isJump nn e_u52 hM_h) ?_; intro u53 y_u53 e_u53
      refine sm_ne e_u53 rfl ?_ ?_
      · refine sm_is hM_h rfl ?_
        refine sm_cP (sf_X13_aimOf nn e_l3 hM_h) ?_; intro u55 y_u55 e_u55
        refine sm_lt e_u55 rfl ?_ ?_
        · exact sj_X13_methodFits_150 nn e_l1 e_l2 e_l3 hM_h
        · refine sm_gi hM_h rfl ?_; intro v56 e_v56
          refine sm_le e_v56 e_u55 ?_ ?_
          · exact sj_X13_methodFits_150 nn e_l1 e_l2 e_l3 hM_h
          · refine sm_gr hM_h (d := 242) rfl ?_
            refine sm_ab hM_h rfl e_u55 ?_; intro v58 y_v58 e_v58
            refine sm_ne e_v58 rfl ?_ ?_
            · exact sj_X13_methodFits_160 nn ih e_l1 e_l2 e_l3 hM_h
            · exact sj_X13_methodFits_150 nn e_l1 e_l2 e_l3 hM_h
      · exact sj_X13_methodFits_160 nn ih e_l1 e_l2 e_l3 hM_h
set_option maxRecDepth 4000 in
theorem sj_X13_methodFits_64 (nn : Nat) {l1 : Int32} {y_l1 : Int} (e_l1 : l1.toInt = y_l1) {l2 : Int32} {y_l2 : Int} (e_l2 : l2.toInt = y_l2) {l3 : Int32} {y_l3 : Int} (e_l3 : l3.toInt = y_l3) {h : ms_M} (hM_h : Rg_M h) : Sm_ RI_ (j_X13_methodFits_64 nn 160 l1 l2 l3 (H_M h)) (qj_X13_methodFits_64 nn y_l1 y_l2 y_l3 h) := by
  unfold j_X13_methodFits_64 qj_X13_methodFits_64
  refine sm_is hM_h rfl ?_
  refine sm_cI (sf_X13_bad nn rfl e_l1 e_l2 e_l3 hM_h) ?_; intro u65 y_u65 M_u65 e_u65 hM_u65
  refine sm_bq e_u65 ?_
  exact sm_rI e_u65 hM_u65
set_option maxRecDepth 4000 in
theorem sw_X13_methodFits_30 (nn : Nat) : ∀ (k : Nat) {l1 : Int32} {y_l1 : Int} (e_l1 : l1.toInt = y_l1) {l2 : Int32} {y_l2 : Int} (e_l2 : l2.toInt = y_l2) {l3 : Int32} {y_l3 : Int} (e_l3 : l3.toInt = y_l3) {h : ms_M} (hM_h : Rg_M h), Sm_ RI_ (w_X13_methodFits_30 nn k 160 l1 l2 l3 (H_M h)) (qw_X13_methodFits_30 nn k y_l1 y_l2 y_l3 h) := by
  intro k
  induction k with
  | zero => intros; exact sm_no
  | succ k ih =>
    intro l1 y_l1 e_l1 l2 y_l2 e_l2 l3 y_l3 e_l3 h hM_h
    unfold w_X13_methodFits_30 qw_X13_methodFits_30
    refine sm_gi hM_h rfl ?_; intro v67 e_v67
    refine sm_le e_v67 e_l3 ?_ ?_
    · exact sw_X13_methodFits_97 nn nn e_l1 e_l2 rfl hM_h
    · refine sm_is hM_h rfl ?_
      refine sm_cP (sf_X13_code nn e_l3 hM_h) ?_; intro u69 y_u69 e_u69
      refine sm_cP (sf_X13_widthOf nn e_u69 hM_h) ?_; intro u70 y_u70 e_u70
      refine sm_eq e_u70 rfl ?_ ?_
      · exact sj_X13_methodFits_64 nn e_l1 e_l2 e_l3 hM_h
      · refine sm_oq_add e_l3 e_u70 ?_; intro v71 y_v71 e_v71
        refine sm_gi hM_h rfl ?_; intro v72 e_v72
        refine sm_le e_v71 e_v72 ?_ ?_
        · refine sm_gr hM_h (d := 242) rfl ?_
          refine sm_sz hM_h rfl e_l3 rfl ?_; intro h74 hM_h74
          refine sm_is hM_h74 rfl ?_
          refine sm_cP (sf_X13_code nn e_l3 hM_h74) ?_; intro u76 y_u76 e_u76
          refine sm_cP (sf_X13_widthOf nn e_u76 hM_h74) ?_; intro u77 y_u77 e_u77
          refine sm_oq_add e_l3 e_u77 ?_; intro v78 y_v78 e_v78
          exact ih e_l1 e_l2 e_v78 hM_h74
        · exact sj_X13_methodFits_64 nn e_l1 e_l2 e_l3 hM_h
set_option maxRecDepth 4000 in
theorem sw_X13_methodFits_8 (nn : Nat) : ∀ (k : Nat) {l1 : Int32} {y_l1 : Int} (e_l1 : l1.toInt = y_l1) {l2 : Int32} {y_l2 : Int} (e_l2 : l2.toInt = y_l2) {l3 : Int32} {y_l3 : Int} (e_l3 : l3.toInt = y_l3) {h : ms_M} (hM_h : Rg_M h), Sm_ RI_ (w_X13_methodFits_8 nn k 160 l1 l2 l3 (H_M h)) (qw_X13_methodFits_8 nn k y_l1 y_l2 y_l3 h) := by
  intro k
  induction k with
  | zero => intros; exact sm_no
  | succ k ih =>
    intro l1 y_l1 e_l1 l2 y_l2 e_l2 l3 y_l3 e_l3 h hM_h
    unfold w_X13_methodFits_8 qw_X13_methodFits_8
    refine sm_lt rfl e_l3 ?_ ?_
    · exact sw_X13_methodFits_30 nn nn e_l1 e_l2 rfl hM_h
    · refine sm_gr hM_h (d := 242) rfl ?_
      refine sm_sz hM_h rfl e_l3 rfl ?_; intro h83 hM_h83
      refine sm_oq_add e_l3 rfl ?_; intro v84 y_v84 e_v84
      exact ih e_l1 e_l2 e_v84 hM_h83
set_option maxRecDepth 4000 in
theorem sf_X13_methodFits (nn : Nat) {a1 : Int32} {y_a1 : Int} (e_a1 : a1.toInt = y_a1) {a2 : Int32} {y_a2 : Int} (e_a2 : a2.toInt = y_a2) {h : ms_M} (hM_h : Rg_M h) : Sm_ RI_ (f_X13_methodFits nn 160 a1 a2 (H_M h)) (qf_X13_methodFits nn y_a1 y_a2 h) := by
  unfold f_X13_methodFits qf_X13_methodFits
  refine sm_is hM_h rfl ?_
  refine sm_cV (sf_X13_at_ nn e_a1 e_a2 hM_h) ?_; intro u87 hM_u87
  exact sw_X13_methodFits_8 nn nn e_a1 e_a2 rfl hM_u87
set_option maxRecDepth 4000 in
theorem sj_X13_verify_103 (nn : Nat) {l1 : Int32} {y_l1 : Int} (e_l1 : l1.toInt = y_l1) {h : ms_M} (hM_h : Rg_M h) : Sm_ RI_ (j_X13_verify_103 nn 160 l1 (H_M h)) (qj_X13_verify_103 nn y_l1 h) := by
  unfold j_X13_verify_103 qj_X13_verify_103
  refine sm_bq e_l1 ?_
  refine sm_pv hM_h rfl e_l1 ?_; intro h2 hM_h2
  refine sm_gi hM_h2 rfl ?_; intro v3 e_v3
  exact sm_rI e_v3 hM_h2
set_option maxRecDepth 4000 in
theorem sw_X13_verify_67 (nn : Nat) {kk_50 : Nat → Int32 → Int32 → mx_H → Option (Int32 × mx_H)} {qkk_50 : Int → Int → ms_M → Option (Int × ms_M)} (hk_kk_50 : ∀ {l1 : Int32} {y_l1 : Int} (e_l1 : l1.toInt = y_l1) {l2 : Int32} {y_l2 : Int} (e_l2 : l2.toInt = y_l2) {h : ms_M} (hM_h : Rg_M h), Sm_ RI_ (kk_50 160 l1 l2 (H_M h)) (qkk_50 y_l1 y_l2 h)) : ∀ (k : Nat) {l1 : Int32} {y_l1 : Int} (e_l1 : l1.toInt = y_l1) {l2 : Int32} {y_l2 : Int} (e_l2 : l2.toInt = y_l2) {l3 : Int32} {y_l3 : Int} (e_l3 : l3.toInt = y_l3) {h : ms_M} (hM_h : Rg_M h), Sm_ RI_ (w_X13_verify_67 nn kk_50 k 160 l1 l2 l3 (H_M h)) (qw_X13_verify_67 nn qkk_50 k y_l1 y_l2 y_l3 h) := by
  intro k
  induction k with
  | zero => intros; exact sm_no
  | succ k ih =>
    intro l1 y_l1 e_l1 l2 y_l2 e_l2 l3 y_l3 e_l3 h hM_h
    unfold w_X13_verify_67 qw_X13_verify_67
    refine sm_gr hM_h (d := 234) rfl ?_
    refine sm_oq_sub e_l2 rfl ?_; intro v5 y_v5 e_v5
    refine sm_ai hM_h rfl e_v5 ?_; intro v6 y_v6 e_v6
    refine sm_le e_v6 e_l3 ?_ ?_
    · refine sm_oq_add e_l2 rfl ?_; intro v7 y_v7 e_v7
      exact hk_kk_50 e_l1 e_v7 hM_h
    · refine sm_eq e_l1 rfl ?_ ?_
      · refine sm_oq_add e_l2 rfl ?_; intro v8 y_v8 e_v8
        exact hk_kk_50 e_l1 e_v8 hM_h
      · refine sm_is hM_h rfl ?_
        refine sm_cI (sf_X13_methodFits nn e_l2 e_l3 hM_h) ?_; intro u10 y_u10 M_u10 e_u10 hM_u10
        refine sm_oq_add e_l3 rfl ?_; intro v11 y_v11 e_v11
        exact ih e_u10 e_l2 e_v11 hM_u10
set_option maxRecDepth 4000 in
theorem sw_X13_verify_50 (nn : Nat) : ∀ (k : Nat) {l1 : Int32} {y_l1 : Int} (e_l1 : l1.toInt = y_l1) {l2 : Int32} {y_l2 : Int} (e_l2 : l2.toInt = y_l2) {h : ms_M} (hM_h : Rg_M h), Sm_ RI_ (w_X13_verify_50 nn k 160 l1 l2 (H_M h)) (qw_X13_verify_50 nn k y_l1 y_l2 h) := by
  intro k
  induction k with
  | zero => intros; exact sm_no
  | succ k ih =>
    intro l1 y_l1 e_l1 l2 y_l2 e_l2 h hM_h
    unfold w_X13_verify_50 qw_X13_verify_50
    refine sm_gi hM_h rfl ?_; intro v14 e_v14
    refine sm_oq_add rfl e_v14 ?_; intro v15 y_v15 e_v15
    refine sm_le e_v15 e_l2 ?_ ?_
    · exact sj_X13_verify_103 nn e_l1 hM_h
    · refine sm_eq e_l1 rfl ?_ ?_
      · exact sj_X13_verify_103 nn e_l1 hM_h
      · exact sw_X13_verify_67 nn ih nn e_l1 e_l2 rfl hM_h
set_option maxRecDepth 4000 in
theorem sw_X13_verify_20 (nn : Nat) : ∀ (k : Nat) {l1 : Int32} {y_l1 : Int} (e_l1 : l1.toInt = y_l1) {l2 : Int32} {y_l2 : Int} (e_l2 : l2.toInt = y_l2) {h : ms_M} (hM_h : Rg_M h), Sm_ RI_ (w_X13_verify_20 nn k 160 l1 l2 (H_M h)) (qw_X13_verify_20 nn k y_l1 y_l2 h) := by
  intro k
  induction k with
  | zero => intros; exact sm_no
  | succ k ih =>
    intro l1 y_l1 e_l1 l2 y_l2 e_l2 h hM_h
    unfold w_X13_verify_20 qw_X13_verify_20
    refine sm_gi hM_h rfl ?_; intro v18 e_v18
    refine sm_oq_add rfl e_v18 ?_; intro v19 y_v19 e_v19
    refine sm_le e_v19 e_l2 ?_ ?_
    · exact sw_X13_verify_50 nn nn e_l1 rfl hM_h
    · refine sm_eq e_l1 rfl ?_ ?_
      · exact sw_X13_verify_50 nn nn e_l1 rfl hM_h
      · refine sm_is hM_h rfl ?_
        refine sm_cI (sf_X13_classFits nn e_l2 hM_h) ?_; intro u21 y_u21 M_u21 e_u21 hM_u21
        refine sm_oq_add e_l2 rfl ?_; intro v22 y_v22 e_v22
        exact ih e_u21 e_v22 hM_u21
set_option maxRecDepth 4000 in
theorem sf_X13_verify (nn : Nat) {h : ms_M} (hM_h : Rg_M h) : Sm_ RI_ (f_X13_verify nn 160 (H_M h)) (qf_X13_verify nn h) := by
  unfold f_X13_verify qf_X13_verify
  refine sm_pv hM_h rfl rfl ?_; intro h25 hM_h25
  refine sm_pv hM_h25 rfl rfl ?_; intro h26 hM_h26
  refine sm_pv hM_h26 rfl rfl ?_; intro h27 hM_h27
  exact sw_X13_verify_20 nn nn rfl rfl hM_h27
set_option maxRecDepth 4000 in
theorem sf_X13_where (nn : Nat) {a1 : Int32} {y_a1 : Int} (e_a1 : a1.toInt = y_a1) {h : ms_M} (hM_h : Rg_M h) : Sm_ (RP_ h) (f_X13_where nn 160 a1 (H_M h)) (qf_X13_where nn y_a1 h) := by
  unfold f_X13_where qf_X13_where
  refine sm_ne e_a1 rfl ?_ ?_
  · refine sm_ne e_a1 rfl ?_ ?_
    · refine sm_ne e_a1 rfl ?_ ?_
      · exact sm_rP rfl
      · refine sm_gi hM_h rfl ?_; intro v1 e_v1
        exact sm_rP e_v1
    · refine sm_gi hM_h rfl ?_; intro v3 e_v3
      exact sm_rP e_v3
  · refine sm_gi hM_h rfl ?_; intro v5 e_v5
    exact sm_rP e_v5
set_option maxRecDepth 4000 in
theorem sj_L_law_470 (X : Nat × (Nat → Int32)) (eX : (Int32.ofNat X.1).toInt = ((X.1 : Nat) : Int)) (nn : Nat) {h : ms_M} (hM_h : Rg_M h) (c : Nat) (s : Nat) : Sm_ RD_ (j_L_law_470 X nn (H_M h) c s) (qj_L_law_470 X nn h c s) := by
  unfold j_L_law_470 qj_L_law_470
  exact sm_rD rfl hM_h
set_option maxRecDepth 4000 in
theorem sj_L_law_344 (X : Nat × (Nat → Int32)) (eX : (Int32.ofNat X.1).toInt = ((X.1 : Nat) : Int)) (nn : Nat) {h : ms_M} (hM_h : Rg_M h) (c : Nat) (s : Nat) : Sm_ RD_ (j_L_law_344 X nn (H_M h) c s) (qj_L_law_344 X nn h c s) := by
  unfold j_L_law_344 qj_L_law_344
  exact sm_rD rfl hM_h
set_option maxRecDepth 4000 in
theorem sj_L_law_196 (X : Nat × (Nat → Int32)) (eX : (Int32.ofNat X.1).toInt = ((X.1 : Nat) : Int)) (nn : Nat) {h : ms_M} (hM_h : Rg_M h) (c : Nat) (s : Nat) : Sm_ RD_ (j_L_law_196 X nn (H_M h) c s) (qj_L_law_196 X nn h c s) := by
  unfold j_L_law_196 qj_L_law_196
  exact sm_rD rfl hM_h
set_option maxRecDepth 4000 in
theorem sw_L_law_18 (X : Nat × (Nat → Int32)) (eX : (Int32.ofNat X.1).toInt = ((X.1 : Nat) : Int)) (nn : Nat) : ∀ (k : Nat) {l3 : Int32} {y_l3 : Int} (e_l3 : l3.toInt = y_l3) {h : ms_M} (hM_h : Rg_M h) (c : Nat) (s : Nat), Sm_ RD_ (w_L_law_18 X nn k 0 160 l3 (H_M h) c s) (qw_L_law_18 X nn k y_l3 h c s) := by
  intro k
  induction k with
  | zero => intros; exact sm_no
  | succ k ih =>
    intro l3 y_l3 e_l3 h hM_h c s
    unfold w_L_law_18 qw_L_law_18
    refine sm_xno hM_h ?_
    refine sm_oq_sub eX rfl ?_; intro v2 y_v2 e_v2
    refine sm_lt e_v2 e_l3 ?_ ?_
    · exact sm_rD rfl hM_h
    · refine sm_xno hM_h ?_
      refine sm_sr e_l3 ?_; intro v4 y_v4 e_v4
      refine sm_oq_and e_v4 rfl ?_; intro v5 y_v5 e_v5
      refine sm_eq e_v5 rfl ?_ ?_
      · refine sm_oq_add e_l3 rfl ?_; intro v7 y_v7 e_v7
        refine sm_xno hM_h ?_
        refine sm_sr e_v7 ?_; intro v9 y_v9 e_v9
        refine sm_oq_add e_l3 rfl ?_; intro v10 y_v10 e_v10
        refine sm_xno hM_h ?_
        refine sm_sr e_v10 ?_; intro v12 y_v12 e_v12
        refine sm_oq_add e_l3 rfl ?_; intro v13 y_v13 e_v13
        refine sm_xno hM_h ?_
        refine sm_sr e_v13 ?_; intro v15 y_v15 e_v15
        refine sm_oq_add e_l3 rfl ?_; intro v16 y_v16 e_v16
        refine sm_xno hM_h ?_
        refine sm_sr e_v16 ?_; intro v18 y_v18 e_v18
        refine sm_oq_add e_l3 rfl ?_; intro v19 y_v19 e_v19
        refine sm_xno hM_h ?_
        refine sm_sr e_v19 ?_; intro v21 y_v21 e_v21
        refine sm_is hM_h rfl ?_
        refine sm_cI (sf_X12_feed nn e_v9 e_v12 e_v15 e_v18 e_v21 hM_h) ?_; intro u23 y_u23 M_u23 e_u23 hM_u23
        refine sm_oq_add e_l3 rfl ?_; intro v24 y_v24 e_v24
        refine sm_xno hM_u23 ?_
        refine sm_sr e_v24 ?_; intro v26 y_v26 e_v26
        refine sm_oq_add e_l3 rfl ?_; intro v27 y_v27 e_v27
        refine sm_xno hM_u23 ?_
        refine sm_sr e_v27 ?_; intro v29 y_v29 e_v29
        refine sm_oq_add e_l3 rfl ?_; intro v30 y_v30 e_v30
        refine sm_xno hM_u23 ?_
        refine sm_sr e_v30 ?_; intro v32 y_v32 e_v32
        refine sm_oq_add e_l3 rfl ?_; intro v33 y_v33 e_v33
        refine sm_xno hM_u23 ?_
        refine sm_sr e_v33 ?_; intro v35 y_v35 e_v35
        refine sm_oq_add e_l3 rfl ?_; intro v36 y_v36 e_v36
        refine sm_xno hM_u23 ?_
        refine sm_sr e_v36 ?_; intro v38 y_v38 e_v38
        refine sm_is hM_u23 rfl ?_
        refine sm_cI (sf_X13_feed nn e_v26 e_v29 e_v32 e_v35 e_v38 hM_u23) ?_; intro u40 y_u40 M_u40 e_u40 hM_u40
        refine sm_eq e_u23 e_u40 ?_ ?_
        · refine sm_oq_add e_l3 rfl ?_; intro v41 y_v41 e_v41
          exact ih e_v41 hM_u40 _ _
        · exact sm_rD rfl hM_u40
      · refine sm_eq e_v5 rfl ?_ ?_
        · refine sm_oq_add e_l3 rfl ?_; intro v43 y_v43 e_v43
          refine sm_xno hM_h ?_
          refine sm_sr e_v43 ?_; intro v45 y_v45 e_v45
          refine sm_is hM_h rfl ?_
          refine sm_cI (sf_X12_end nn e_v45 hM_h) ?_; intro u47 y_u47 M_u47 e_u47 hM_u47
          refine sm_oq_add e_l3 rfl ?_; intro v48 y_v48 e_v48
          refine sm_xno hM_u47 ?_
          refine sm_sr e_v48 ?_; intro v50 y_v50 e_v50
          refine sm_is hM_u47 rfl ?_
          refine sm_cI (sf_X13_end nn e_v50 hM_u47) ?_; intro u52 y_u52 M_u52 e_u52 hM_u52
          refine sm_eq e_u47 e_u52 ?_ ?_
          · refine sm_oq_add e_l3 rfl ?_; intro v53 y_v53 e_v53
            exact ih e_v53 hM_u52 _ _
          · exact sj_L_law_196 X eX nn hM_u52 _ _
        · refine sm_eq e_v5 rfl ?_ ?_
          · refine sm_is hM_h rfl ?_
            refine sm_cD (sf_X12_compile nn hM_h) ?_; intro u56 y_u56 M_u56 c_u56 s_u56 e_u56 hM_u56
            refine sm_is hM_u56 rfl ?_
            refine sm_cI (sf_X13_compile nn hM_u56) ?_; intro u58 y_u58 M_u58 e_u58 hM_u58
            refine sm_eq e_u56 e_u58 ?_ ?_
            · refine sm_oq_add e_l3 rfl ?_; intro v59 y_v59 e_v59
              exact ih e_v59 hM_u58 _ _
            · exact sm_rD rfl hM_u58
          · refine sm_eq e_v5 rfl ?_ ?_
            · refine sm_oq_add e_l3 rfl ?_; intro v61 y_v61 e_v61
              refine sm_xno hM_h ?_
              refine sm_sr e_v61 ?_; intro v63 y_v63 e_v63
              refine sm_is hM_h rfl ?_
              refine sm_cP (sf_X12_fault nn e_v63 hM_h) ?_; intro u65 y_u65 e_u65
              refine sm_oq_add e_l3 rfl ?_; intro v66 y_v66 e_v66
              refine sm_xno hM_h ?_
              refine sm_sr e_v66 ?_; intro v68 y_v68 e_v68
              refine sm_is hM_h rfl ?_
              refine sm_cP (sf_X13_fault nn e_v68 hM_h) ?_; intro u70 y_u70 e_u70
              refine sm_eq e_u65 e_u70 ?_ ?_
              · refine sm_oq_add e_l3 rfl ?_; intro v71 y_v71 e_v71
                exact ih e_v71 hM_h _ _
              · exact sm_rD rfl hM_h
            · refine sm_eq e_v5 rfl ?_ ?_
              · refine sm_oq_add e_l3 rfl ?_; intro v73 y_v73 e_v73
                refine sm_xno hM_h ?_
                refine sm_sr e_v73 ?_; intro v75 y_v75 e_v75
                refine sm_oq_add e_l3 rfl ?_; intro v76 y_v76 e_v76
                refine sm_xno hM_h ?_
                refine sm_sr e_v76 ?_; intro v78 y_v78 e_v78
                refine sm_is hM_h rfl ?_
                refine sm_cP (sf_X12_image nn e_v75 e_v78 hM_h) ?_; intro u80 y_u80 e_u80
                refine sm_oq_add e_l3 rfl ?_; intro v81 y_v81 e_v81
                refine sm_xno hM_h ?_
                refine sm_sr e_v81 ?_; intro v83 y_v83 e_v83
                refine sm_oq_add e_l3 rfl ?_; intro v84 y_v84 e_v84
                refine sm_xno hM_h ?_
                refine sm_sr e_v84 ?_; intro v86 y_v86 e_v86
                refine sm_is hM_h rfl ?_
                refine sm_cP (sf_X13_image nn e_v83 e_v86 hM_h) ?_; intro u88 y_u88 e_u88
                refine sm_eq e_u80 e_u88 ?_ ?_
                · refine sm_oq_add e_l3 rfl ?_; intro v89 y_v89 e_v89
                  exact ih e_v89 hM_h _ _
                · exact sm_rD rfl hM_h
              · refine sm_eq e_v5 rfl ?_ ?_
                · refine sm_is hM_h rfl ?_
                  refine sm_cD (sf_X12_load nn hM_h) ?_; intro u92 y_u92 M_u92 c_u92 s_u92 e_u92 hM_u92
                  refine sm_is hM_u92 rfl ?_
                  refine sm_cI (sf_X13_load nn hM_u92) ?_; intro u94 y_u94 M_u94 e_u94 hM_u94
                  refine sm_eq e_u92 e_u94 ?_ ?_
                  · refine sm_oq_add e_l3 rfl ?_; intro v95 y_v95 e_v95
                    exact ih e_v95 hM_u94 _ _
                  · exact sm_rD rfl hM_u94
                · refine sm_eq e_v5 rfl ?_ ?_
                  · refine sm_oq_add e_l3 rfl ?_; intro v97 y_v97 e_v97
                    refine sm_xno hM_h ?_
                    refine sm_sr e_v97 ?_; intro v99 y_v99 e_v99
                    refine sm_is hM_h rfl ?_
                    refine sm_cD (sf_X12_keep nn e_v99 hM_h) ?_; intro u101 y_u101 M_u101 c_u101 s_u101 e_u101 hM_u101
                    refine sm_oq_add e_l3 rfl ?_; intro v102 y_v102 e_v102
                    refine sm_xno hM_u101 ?_
                    refine sm_sr e_v102 ?_; intro v104 y_v104 e_v104
                    refine sm_is hM_u101 rfl ?_
                    refine sm_cI (sf_X13_keep nn e_v104 hM_u101) ?_; intro u106 y_u106 M_u106 e_u106 hM_u106
                    refine sm_eq e_u101 e_u106 ?_ ?_
                    · refine sm_oq_add e_l3 rfl ?_; intro v107 y_v107 e_v107
                      exact ih e_v107 hM_u106 _ _
                    · exact sm_rD rfl hM_u106
                  · refine sm_eq e_v5 rfl ?_ ?_
                    · refine sm_oq_add e_l3 rfl ?_; intro v109 y_v109 e_v109
                      refine sm_xno hM_h ?_
                      refine sm_sr e_v109 ?_; intro v111 y_v111 e_v111
                      refine sm_oq_add e_l3 rfl ?_; intro v112 y_v112 e_v112
                      refine sm_xno hM_h ?_
                      refine sm_sr e_v112 ?_; intro v114 y_v114 e_v114
                      refine sm_oq_add e_l3 rfl ?_; intro v115 y_v115 e_v115
                      refine sm_xno hM_h ?_
                      refine sm_sr e_v115 ?_; intro v117 y_v117 e_v117
                      refine sm_is hM_h rfl ?_
                      refine sm_cI (sf_X12_patch nn e_v111 e_v114 e_v117 hM_h) ?_; intro u119 y_u119 M_u119 e_u119 hM_u119
                      refine sm_oq_add e_l3 rfl ?_; intro v120 y_v120 e_v120
                      refine sm_xno hM_u119 ?_
                      refine sm_sr e_v120 ?_; intro v122 y_v122 e_v122
                      refine sm_oq_add e_l3 rfl ?_; intro v123 y_v123 e_v123
                      refine sm_xno hM_u119 ?_
                      refine sm_sr e_v123 ?_; intro v125 y_v125 e_v125
                      refine sm_oq_add e_l3 rfl ?_; intro v126 y_v126 e_v126
                      refine sm_xno hM_u119 ?_
                      refine sm_sr e_v126 ?_; intro v128 y_v128 e_v128
                      refine sm_is hM_u119 rfl ?_
                      refine sm_cI (sf_X13_patch nn e_v122 e_v125 e_v128 hM_u119) ?_; intro u130 y_u130 M_u130 e_u130 hM_u130
                      refine sm_eq e_u119 e_u130 ?_ ?_
                      · refine sm_oq_add e_l3 rfl ?_; intro v131 y_v131 e_v131
                        exact ih e_v131 hM_u130 _ _
                      · exact sj_L_law_344 X eX nn hM_u130 _ _
                    · refine sm_eq e_v5 rfl ?_ ?_
                      · refine sm_is hM_h rfl ?_
                        refine sm_cV (sf_X12_clear nn hM_h) ?_; intro u134 hM_u134
                        refine sm_is hM_u134 rfl ?_
                        refine sm_cV (sf_X13_clear nn hM_u134) ?_; intro u136 hM_u136
                        refine sm_oq_add e_l3 rfl ?_; intro v137 y_v137 e_v137
                        exact ih e_v137 hM_u136 _ _
                      · refine sm_eq e_v5 rfl ?_ ?_
                        · refine sm_is hM_h rfl ?_
                          refine sm_cI (sf_X12_verify nn hM_h) ?_; intro u139 y_u139 M_u139 e_u139 hM_u139
                          refine sm_is hM_u139 rfl ?_
                          refine sm_cI (sf_X13_verify nn hM_u139) ?_; intro u141 y_u141 M_u141 e_u141 hM_u141
                          refine sm_eq e_u139 e_u141 ?_ ?_
                          · refine sm_oq_add e_l3 rfl ?_; intro v142 y_v142 e_v142
                            exact ih e_v142 hM_u141 _ _
                          · exact sm_rD rfl hM_u141
                        · refine sm_eq e_v5 rfl ?_ ?_
                          · refine sm_oq_add e_l3 rfl ?_; intro v144 y_v144 e_v144
                            refine sm_xno hM_h ?_
                            refine sm_sr e_v144 ?_; intro v146 y_v146 e_v146
                            refine sm_is hM_h rfl ?_
                            refine sm_cP (sf_X12_where nn e_v146 hM_h) ?_; intro u148 y_u148 e_u148
                            refine sm_oq_add e_l3 rfl ?_; intro v149 y_v149 e_v149
                            refine sm_xno hM_h ?_
                            refine sm_sr e_v149 ?_; intro v151 y_v151 e_v151
                            refine sm_is hM_h rfl ?_
                            refine sm_cP (sf_X13_where nn e_v151 hM_h) ?_; intro u153 y_u153 e_u153
                            refine sm_eq e_u148 e_u153 ?_ ?_
                            · refine sm_oq_add e_l3 rfl ?_; intro v154 y_v154 e_v154
                              exact ih e_v154 hM_h _ _
                            · exact sm_rD rfl hM_h
                          · refine sm_eq e_v5 rfl ?_ ?_
                            · refine sm_oq_add e_l3 rfl ?_; intro v156 y_v156 e_v156
                              refine sm_xno hM_h ?_
                              refine sm_sr e_v156 ?_; intro v158 y_v158 e_v158
                              refine sm_oq_add e_l3 rfl ?_; intro v159 y_v159 e_v159
                              refine sm_xno hM_h ?_
                              refine sm_sr e_v159 ?_; intro v161 y_v161 e_v161
                              refine sm_is hM_h rfl ?_
                              refine sm_cI (sf_X12_start nn e_v158 e_v161 hM_h) ?_; intro u163 y_u163 M_u163 e_u163 hM_u163
                              refine sm_oq_add e_l3 rfl ?_; intro v164 y_v164 e_v164
                              refine sm_xno hM_u163 ?_
                              refine sm_sr e_v164 ?_; intro v166 y_v166 e_v166
                              refine sm_oq_add e_l3 rfl ?_; intro v167 y_v167 e_v167
                              refine sm_xno hM_u163 ?_
                              refine sm_sr e_v167 ?_; intro v169 y_v169 e_v169
                              refine sm_is hM_u163 rfl ?_
                              refine sm_cI (sf_X13_start nn e_v166 e_v169 hM_u163) ?_; intro u171 y_u171 M_u171 e_u171 hM_u171
                              refine sm_eq e_u163 e_u171 ?_ ?_
                              · refine sm_oq_add e_l3 rfl ?_; intro v172 y_v172 e_v172
                                exact ih e_v172 hM_u171 _ _
                              · exact sm_rD rfl hM_u171
                            · refine sm_eq e_v5 rfl ?_ ?_
                              · refine sm_oq_add e_l3 rfl ?_; intro v174 y_v174 e_v174
                                refine sm_xno hM_h ?_
                                refine sm_sr e_v174 ?_; intro v176 y_v176 e_v176
                                refine sm_is hM_h rfl ?_
                                refine sm_cI (sf_X12_run nn e_v176 hM_h) ?_; intro u178 y_u178 M_u178 e_u178 hM_u178
                                refine sm_oq_add e_l3 rfl ?_; intro v179 y_v179 e_v179
                                refine sm_xno hM_u178 ?_
                                refine sm_sr e_v179 ?_; intro v181 y_v181 e_v181
                                refine sm_is hM_u178 rfl ?_
                                refine sm_cI (sf_X13_run nn e_v181 hM_u178) ?_; intro u183 y_u183 M_u183 e_u183 hM_u183
                                refine sm_eq e_u178 e_u183 ?_ ?_
                                · refine sm_oq_add e_l3 rfl ?_; intro v184 y_v184 e_v184
                                  exact ih e_v184 hM_u183 _ _
                                · exact sm_rD rfl hM_u183
                              · refine sm_eq e_v5 rfl ?_ ?_
                                · refine sm_oq_add e_l3 rfl ?_; intro v186 y_v186 e_v186
                                  refine sm_xno hM_h ?_
                                  refine sm_sr e_v186 ?_; intro v188 y_v188 e_v188
                                  refine sm_is hM_h rfl ?_
                                  refine sm_cP (sf_X12_look nn e_v188 hM_h) ?_; intro u190 y_u190 e_u190
                                  refine sm_oq_add e_l3 rfl ?_; intro v191 y_v191 e_v191
                                  refine sm_xno hM_h ?_
                                  refine sm_sr e_v191 ?_; intro v193 y_v193 e_v193
                                  refine sm_is hM_h rfl ?_
                                  refine sm_cP (sf_X13_look nn e_v193 hM_h) ?_; intro u195 y_u195 e_u195
                                  refine sm_eq e_u190 e_u195 ?_ ?_
                                  · refine sm_oq_add e_l3 rfl ?_; intro v196 y_v196 e_v196
                                    exact ih e_v196 hM_h _ _
                                  · exact sj_L_law_470 X eX nn hM_h _ _
                                · refine sm_eq e_v5 rfl ?_ ?_
                                  · refine sm_oq_add e_l3 rfl ?_; intro v198 y_v198 e_v198
                                    refine sm_xno hM_h ?_
                                    refine sm_sr e_v198 ?_; intro v200 y_v200 e_v200
                                    refine sm_is hM_h rfl ?_
                                    refine sm_cP (sf_X12_out nn e_v200 hM_h) ?_; intro u202 y_u202 e_u202
                                    refine sm_oq_add e_l3 rfl ?_; intro v203 y_v203 e_v203
                                    refine sm_xno hM_h ?_
                                    refine sm_sr e_v203 ?_; intro v205 y_v205 e_v205
                                    refine sm_is hM_h rfl ?_
                                    refine sm_cP (sf_X13_out nn e_v205 hM_h) ?_; intro u207 y_u207 e_u207
                                    refine sm_eq e_u202 e_u207 ?_ ?_
                                    · refine sm_oq_add e_l3 rfl ?_; intro v208 y_v208 e_v208
                                      exact ih e_v208 hM_h _ _
                                    · exact sm_rD rfl hM_h
                                  · refine sm_eq e_v5 rfl ?_ ?_
                                    · refine sm_oq_add e_l3 rfl ?_; intro v210 y_v210 e_v210
                                      refine sm_xno hM_h ?_
                                      refine sm_sr e_v210 ?_; intro v212 y_v212 e_v212
                                      refine sm_oq_add e_l3 rfl ?_; intro v213 y_v213 e_v213
                                      refine sm_xno hM_h ?_
                                      refine sm_sr e_v213 ?_; intro v215 y_v215 e_v215
                                      refine sm_is hM_h rfl ?_
                                      refine sm_cP (sf_X12_type nn e_v212 e_v215 hM_h) ?_; intro u217 y_u217 e_u217
                                      refine sm_oq_add e_l3 rfl ?_; intro v218 y_v218 e_v218
                                      refine sm_xno hM_h ?_
                                      refine sm_sr e_v218 ?_; intro v220 y_v220 e_v220
                                      refine sm_oq_add e_l3 rfl ?_; intro v221 y_v221 e_v221
                                      refine sm_xno hM_h ?_
                                      refine sm_sr e_v221 ?_; intro v223 y_v223 e_v223
                                      refine sm_is hM_h rfl ?_
                                      refine sm_cP (sf_X13_type_ nn e_v220 e_v223 hM_h) ?_; intro u225 y_u225 e_u225
                                      refine sm_eq e_u217 e_u225 ?_ ?_
                                      · refine sm_oq_add e_l3 rfl ?_; intro v226 y_v226 e_v226
                                        exact ih e_v226 hM_h _ _
                                      · exact sm_rD rfl hM_h
                                    · refine sm_oq_add e_l3 rfl ?_; intro v6 y_v6 e_v6
                                      exact ih e_v6 hM_h _ _
