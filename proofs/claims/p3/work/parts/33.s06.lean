set_option maxRecDepth 4000 in
theorem sj_X5_cellOf_39 (nn : Nat) {h : ms_M} (hM_h : Rg_M h) : Sm_ RI_ (j_X5_cellOf_39 nn 143 (H_M h)) (qj_X5_cellOf_39 nn h) := by
  unfold j_X5_cellOf_39 qj_X5_cellOf_39
  refine sm_pv hM_h rfl rfl ?_; intro h1 hM_h1
  exact sm_rI rfl hM_h1
set_option maxRecDepth 4000 in
theorem sf_X5_cellOf (nn : Nat) {a1 : Int32} {y_a1 : Int} (e_a1 : a1.toInt = y_a1) {a2 : Int32} {y_a2 : Int} (e_a2 : a2.toInt = y_a2) {h : ms_M} (hM_h : Rg_M h) : Sm_ RI_ (f_X5_cellOf nn 143 a1 a2 (H_M h)) (qf_X5_cellOf nn y_a1 y_a2 h) := by
  unfold f_X5_cellOf qf_X5_cellOf
  refine sm_is hM_h rfl ?_
  refine sm_cP (sf_X5_isObject nn e_a1 hM_h) ?_; intro u3 y_u3 e_u3
  refine sm_ne e_u3 rfl ?_ ?_
  · refine sm_lt e_a2 rfl ?_ ?_
    · exact sj_X5_cellOf_39 nn hM_h
    · refine sm_gr hM_h (d := 146) rfl ?_
      refine sm_oq_add e_a1 rfl ?_; intro v5 y_v5 e_v5
      refine sm_ai hM_h rfl e_v5 ?_; intro v6 y_v6 e_v6
      refine sm_gr hM_h (d := 146) rfl ?_
      refine sm_ai hM_h rfl e_a1 ?_; intro v8 y_v8 e_v8
      refine sm_oq_sub e_v6 e_v8 ?_; intro v9 y_v9 e_v9
      refine sm_lt e_a2 e_v9 ?_ ?_
      · refine sm_gr hM_h (d := 146) rfl ?_
        refine sm_ai hM_h rfl e_a1 ?_; intro v11 y_v11 e_v11
        refine sm_oq_add e_v11 e_a2 ?_; intro v12 y_v12 e_v12
        exact sm_rI e_v12 hM_h
      · exact sj_X5_cellOf_39 nn hM_h
  · refine sm_pv hM_h rfl rfl ?_; intro h15 hM_h15
    exact sm_rI rfl hM_h15
set_option maxRecDepth 4000 in
theorem sf_X5_stepElement (nn : Nat) {h : ms_M} (hM_h : Rg_M h) : Sm_ RV_ (f_X5_stepElement nn 143 (H_M h)) (qf_X5_stepElement nn h) := by
  unfold f_X5_stepElement qf_X5_stepElement
  refine sm_is hM_h rfl ?_
  refine sm_cI (sf_X5_pop nn hM_h) ?_; intro u2 y_u2 M_u2 e_u2 hM_u2
  refine sm_is hM_u2 rfl ?_
  refine sm_cI (sf_X5_pop nn hM_u2) ?_; intro u4 y_u4 M_u4 e_u4 hM_u4
  refine sm_is hM_u4 rfl ?_
  refine sm_cI (sf_X5_cellOf nn e_u4 e_u2 hM_u4) ?_; intro u6 y_u6 M_u6 e_u6 hM_u6
  refine sm_lt e_u6 rfl ?_ ?_
  · exact sm_rV hM_u6
  · refine sm_le rfl e_u6 ?_ ?_
    · exact sm_rV hM_u6
    · refine sm_gr hM_u6 (d := 147) rfl ?_
      refine sm_ai hM_u6 rfl e_u6 ?_; intro v8 y_v8 e_v8
      refine sm_is hM_u6 rfl ?_
      refine sm_cV (sf_X5_give nn e_v8 rfl hM_u6) ?_; intro u10 hM_u10
      exact sm_rV hM_u10
set_option maxRecDepth 4000 in
theorem sj_X5_fieldCell_20 (nn : Nat) {l2 : Int32} {y_l2 : Int} (e_l2 : l2.toInt = y_l2) {s0 : Int32} {y_s0 : Int} (e_s0 : s0.toInt = y_s0) {h : ms_M} (hM_h : Rg_M h) : Sm_ (RP_ h) (j_X5_fieldCell_20 nn l2 s0 (H_M h)) (qj_X5_fieldCell_20 nn y_l2 y_s0 h) := by
  unfold j_X5_fieldCell_20 qj_X5_fieldCell_20
  refine sm_lt e_l2 rfl ?_ ?_
  · exact sm_rP rfl
  · refine sm_le rfl e_s0 ?_ ?_
    · exact sm_rP rfl
    · exact sm_rP e_s0
set_option maxRecDepth 4000 in
theorem sf_X5_fieldCell (nn : Nat) {a1 : Int32} {y_a1 : Int} (e_a1 : a1.toInt = y_a1) {a2 : Int32} {y_a2 : Int} (e_a2 : a2.toInt = y_a2) {h : ms_M} (hM_h : Rg_M h) : Sm_ (RP_ h) (f_X5_fieldCell nn 143 a1 a2 (H_M h)) (qf_X5_fieldCell nn y_a1 y_a2 h) := by
  unfold f_X5_fieldCell qf_X5_fieldCell
  refine sm_is hM_h rfl ?_
  refine sm_cP (sf_X5_isObject nn e_a1 hM_h) ?_; intro u4 y_u4 e_u4
  refine sm_eq e_u4 rfl ?_ ?_
  · exact sj_X5_fieldCell_20 nn e_a2 rfl hM_h
  · refine sm_gr hM_h (d := 146) rfl ?_
    refine sm_ai hM_h rfl e_a1 ?_; intro v6 y_v6 e_v6
    refine sm_oq_add e_v6 e_a2 ?_; intro v7 y_v7 e_v7
    exact sj_X5_fieldCell_20 nn e_a2 e_v7 hM_h
set_option maxRecDepth 4000 in
theorem sf_X5_stepField (nn : Nat) {a1 : Int32} {y_a1 : Int} (e_a1 : a1.toInt = y_a1) {h : ms_M} (hM_h : Rg_M h) : Sm_ RV_ (f_X5_stepField nn 143 a1 (H_M h)) (qf_X5_stepField nn y_a1 h) := by
  unfold f_X5_stepField qf_X5_stepField
  refine sm_is hM_h rfl ?_
  refine sm_cI (sf_X5_pop nn hM_h) ?_; intro u2 y_u2 M_u2 e_u2 hM_u2
  refine sm_is hM_u2 rfl ?_
  refine sm_cP (sf_X5_link nn e_a1 hM_u2) ?_; intro u4 y_u4 e_u4
  refine sm_is hM_u2 rfl ?_
  refine sm_cP (sf_X5_fieldCell nn e_u2 e_u4 hM_u2) ?_; intro u6 y_u6 e_u6
  refine sm_ne e_u6 rfl ?_ ?_
  · refine sm_gr hM_u2 (d := 147) rfl ?_
    refine sm_ai hM_u2 rfl e_u6 ?_; intro v8 y_v8 e_v8
    refine sm_is hM_u2 rfl ?_
    refine sm_cV (sf_X5_give nn e_v8 rfl hM_u2) ?_; intro u10 hM_u10
    exact sm_rV hM_u10
  · refine sm_pv hM_u2 rfl rfl ?_; intro h11 hM_h11
    exact sm_rV hM_h11
set_option maxRecDepth 4000 in
theorem sj_X5_stepGiveElement_89 (nn : Nat) {l2 : Int32} {y_l2 : Int} (e_l2 : l2.toInt = y_l2) {l5 : Int32} {y_l5 : Int} (e_l5 : l5.toInt = y_l5) {h : ms_M} (hM_h : Rg_M h) : Sm_ RV_ (j_X5_stepGiveElement_89 nn 143 l2 l5 (H_M h)) (qj_X5_stepGiveElement_89 nn y_l2 y_l5 h) := by
  unfold j_X5_stepGiveElement_89 qj_X5_stepGiveElement_89
  refine sm_gr hM_h (d := 147) rfl ?_
  refine sm_si hM_h rfl e_l5 e_l2 ?_; intro h2 hM_h2
  refine sm_is hM_h2 rfl ?_
  refine sm_cV (sf_X5_goOn nn rfl hM_h2) ?_; intro u4 hM_u4
  exact sm_rV hM_u4
set_option maxRecDepth 4000 in
theorem sf_X5_stepGiveElement (nn : Nat) {a1 : Int32} {y_a1 : Int} (e_a1 : a1.toInt = y_a1) {h : ms_M} (hM_h : Rg_M h) : Sm_ RV_ (f_X5_stepGiveElement nn 143 a1 (H_M h)) (qf_X5_stepGiveElement nn y_a1 h) := by
  unfold f_X5_stepGiveElement qf_X5_stepGiveElement
  refine sm_is hM_h rfl ?_
  refine sm_cI (sf_X5_pop nn hM_h) ?_; intro u6 y_u6 M_u6 e_u6 hM_u6
  refine sm_is hM_u6 rfl ?_
  refine sm_cI (sf_X5_pop nn hM_u6) ?_; intro u8 y_u8 M_u8 e_u8 hM_u8
  refine sm_is hM_u8 rfl ?_
  refine sm_cI (sf_X5_pop nn hM_u8) ?_; intro u10 y_u10 M_u10 e_u10 hM_u10
  refine sm_is hM_u10 rfl ?_
  refine sm_cI (sf_X5_cellOf nn e_u10 e_u8 hM_u10) ?_; intro u12 y_u12 M_u12 e_u12 hM_u12
  refine sm_lt e_u12 rfl ?_ ?_
  · exact sm_rV hM_u12
  · refine sm_lt e_u12 rfl ?_ ?_
    · refine sm_ne e_a1 rfl ?_ ?_
      · exact sj_X5_stepGiveElement_89 nn e_u6 e_u12 hM_u12
      · refine sm_is hM_u12 rfl ?_
        refine sm_cP (sf_X5_isObject nn e_u6 hM_u12) ?_; intro u14 y_u14 e_u14
        refine sm_eq e_u14 rfl ?_ ?_
        · exact sj_X5_stepGiveElement_89 nn e_u6 e_u12 hM_u12
        · refine sm_gr hM_u12 (d := 56) rfl ?_
          refine sm_gr hM_u12 (d := 57) rfl ?_
          refine sm_gr hM_u12 (d := 145) rfl ?_
          refine sm_ai hM_u12 rfl e_u6 ?_; intro v18 y_v18 e_v18
          refine sm_gr hM_u12 (d := 145) rfl ?_
          refine sm_ai hM_u12 rfl e_u10 ?_; intro v20 y_v20 e_v20
          refine sm_cP (sf_X4_elementOf nn e_v20 hM_u12) ?_; intro u21 y_u21 e_u21
          refine sm_is hM_u12 rfl ?_
          refine sm_cP (sf_X4_fits nn _ rfl e_v18 e_u21 hM_u12) ?_; intro u23 y_u23 e_u23
          refine sm_ne e_u23 rfl ?_ ?_
          · exact sj_X5_stepGiveElement_89 nn e_u6 e_u12 hM_u12
          · refine sm_pv hM_u12 rfl rfl ?_; intro h24 hM_h24
            exact sm_rV hM_h24
    · exact sm_rV hM_u12
set_option maxRecDepth 4000 in
theorem sf_X5_stepGiveField (nn : Nat) {a1 : Int32} {y_a1 : Int} (e_a1 : a1.toInt = y_a1) {h : ms_M} (hM_h : Rg_M h) : Sm_ RV_ (f_X5_stepGiveField nn 143 a1 (H_M h)) (qf_X5_stepGiveField nn y_a1 h) := by
  unfold f_X5_stepGiveField qf_X5_stepGiveField
  refine sm_is hM_h rfl ?_
  refine sm_cI (sf_X5_pop nn hM_h) ?_; intro u2 y_u2 M_u2 e_u2 hM_u2
  refine sm_is hM_u2 rfl ?_
  refine sm_cI (sf_X5_pop nn hM_u2) ?_; intro u4 y_u4 M_u4 e_u4 hM_u4
  refine sm_is hM_u4 rfl ?_
  refine sm_cP (sf_X5_link nn e_a1 hM_u4) ?_; intro u6 y_u6 e_u6
  refine sm_is hM_u4 rfl ?_
  refine sm_cP (sf_X5_fieldCell nn e_u4 e_u6 hM_u4) ?_; intro u8 y_u8 e_u8
  refine sm_ne e_u8 rfl ?_ ?_
  · refine sm_gr hM_u4 (d := 147) rfl ?_
    refine sm_si hM_u4 rfl e_u8 e_u2 ?_; intro h10 hM_h10
    refine sm_is hM_h10 rfl ?_
    refine sm_cV (sf_X5_goOn nn rfl hM_h10) ?_; intro u12 hM_u12
    exact sm_rV hM_u12
  · refine sm_pv hM_u4 rfl rfl ?_; intro h13 hM_h13
    exact sm_rV hM_h13
set_option maxRecDepth 4000 in
theorem sj_X5_stepKin_74 (nn : Nat) {l3 : Int32} {y_l3 : Int} (e_l3 : l3.toInt = y_l3) {h : ms_M} (hM_h : Rg_M h) : Sm_ RV_ (j_X5_stepKin_74 nn 143 l3 (H_M h)) (qj_X5_stepKin_74 nn y_l3 h) := by
  unfold j_X5_stepKin_74 qj_X5_stepKin_74
  refine sm_is hM_h rfl ?_
  refine sm_cV (sf_X5_give nn e_l3 rfl hM_h) ?_; intro u2 hM_u2
  exact sm_rV hM_u2
set_option maxRecDepth 4000 in
theorem sj_X5_stepKin_58 (nn : Nat) {s0 : Int32} {y_s0 : Int} (e_s0 : s0.toInt = y_s0) {h : ms_M} (hM_h : Rg_M h) : Sm_ RV_ (j_X5_stepKin_58 nn s0 143 (H_M h)) (qj_X5_stepKin_58 nn y_s0 h) := by
  unfold j_X5_stepKin_58 qj_X5_stepKin_58
  refine sm_is hM_h rfl ?_
  refine sm_cV (sf_X5_give nn e_s0 rfl hM_h) ?_; intro u4 hM_u4
  exact sm_rV hM_u4
set_option maxRecDepth 4000 in
theorem sj_X5_stepKin_38 (nn : Nat) {l1 : Int32} {y_l1 : Int} (e_l1 : l1.toInt = y_l1) {l3 : Int32} {y_l3 : Int} (e_l3 : l3.toInt = y_l3) {s0 : Int32} {y_s0 : Int} (e_s0 : s0.toInt = y_s0) {h : ms_M} (hM_h : Rg_M h) : Sm_ RV_ (j_X5_stepKin_38 nn 143 l1 l3 s0 (H_M h)) (qj_X5_stepKin_38 nn y_l1 y_l3 y_s0 h) := by
  unfold j_X5_stepKin_38 qj_X5_stepKin_38
  refine sm_ne e_l1 rfl ?_ ?_
  · refine sm_eq e_l3 rfl ?_ ?_
    · exact sj_X5_stepKin_74 nn e_l3 hM_h
    · refine sm_eq e_s0 rfl ?_ ?_
      · refine sm_pv hM_h rfl rfl ?_; intro h5 hM_h5
        exact sm_rV hM_h5
      · exact sj_X5_stepKin_74 nn e_l3 hM_h
  · refine sm_eq e_s0 rfl ?_ ?_
    · exact sj_X5_stepKin_58 nn rfl hM_h
    · exact sj_X5_stepKin_58 nn rfl hM_h
set_option maxRecDepth 4000 in
theorem sj_X5_stepKin_37 (nn : Nat) {l1 : Int32} {y_l1 : Int} (e_l1 : l1.toInt = y_l1) {l3 : Int32} {y_l3 : Int} (e_l3 : l3.toInt = y_l3) {h : ms_M} (hM_h : Rg_M h) : Sm_ RV_ (j_X5_stepKin_37 nn 143 l1 l3 (H_M h)) (qj_X5_stepKin_37 nn y_l1 y_l3 h) := by
  unfold j_X5_stepKin_37 qj_X5_stepKin_37
  exact sj_X5_stepKin_38 nn e_l1 e_l3 rfl hM_h
set_option maxRecDepth 4000 in
theorem sf_X5_stepKin (nn : Nat) {a1 : Int32} {y_a1 : Int} (e_a1 : a1.toInt = y_a1) {a2 : Int32} {y_a2 : Int} (e_a2 : a2.toInt = y_a2) {h : ms_M} (hM_h : Rg_M h) : Sm_ RV_ (f_X5_stepKin nn 143 a1 a2 (H_M h)) (qf_X5_stepKin nn y_a1 y_a2 h) := by
  unfold f_X5_stepKin qf_X5_stepKin
  refine sm_is hM_h rfl ?_
  refine sm_cI (sf_X5_pop nn hM_h) ?_; intro u11 y_u11 M_u11 e_u11 hM_u11
  refine sm_is hM_u11 rfl ?_
  refine sm_cP (sf_X5_isObject nn e_u11 hM_u11) ?_; intro u13 y_u13 e_u13
  refine sm_eq e_u13 rfl ?_ ?_
  · exact sj_X5_stepKin_37 nn e_a1 e_u11 hM_u11
  · refine sm_gr hM_u11 (d := 56) rfl ?_
    refine sm_gr hM_u11 (d := 57) rfl ?_
    refine sm_gr hM_u11 (d := 145) rfl ?_
    refine sm_ai hM_u11 rfl e_u11 ?_; intro v17 y_v17 e_v17
    refine sm_is hM_u11 rfl ?_
    refine sm_cP (sf_X4_fits nn _ rfl e_v17 e_a2 hM_u11) ?_; intro u19 y_u19 e_u19
    refine sm_eq e_u19 rfl ?_ ?_
    · exact sj_X5_stepKin_37 nn e_a1 e_u11 hM_u11
    · exact sj_X5_stepKin_38 nn e_a1 e_u11 rfl hM_u11
set_option maxRecDepth 4000 in
theorem sf_X5_stepLength (nn : Nat) {h : ms_M} (hM_h : Rg_M h) : Sm_ RV_ (f_X5_stepLength nn 143 (H_M h)) (qf_X5_stepLength nn h) := by
  unfold f_X5_stepLength qf_X5_stepLength
  refine sm_is hM_h rfl ?_
  refine sm_cI (sf_X5_pop nn hM_h) ?_; intro u2 y_u2 M_u2 e_u2 hM_u2
  refine sm_is hM_u2 rfl ?_
  refine sm_cP (sf_X5_isObject nn e_u2 hM_u2) ?_; intro u4 y_u4 e_u4
  refine sm_eq e_u4 rfl ?_ ?_
  · refine sm_pv hM_u2 rfl rfl ?_; intro h5 hM_h5
    exact sm_rV hM_h5
  · refine sm_gr hM_u2 (d := 146) rfl ?_
    refine sm_oq_add e_u2 rfl ?_; intro v7 y_v7 e_v7
    refine sm_ai hM_u2 rfl e_v7 ?_; intro v8 y_v8 e_v8
    refine sm_gr hM_u2 (d := 146) rfl ?_
    refine sm_ai hM_u2 rfl e_u2 ?_; intro v10 y_v10 e_v10
    refine sm_oq_sub e_v8 e_v10 ?_; intro v11 y_v11 e_v11
    refine sm_is hM_u2 rfl ?_
    refine sm_cV (sf_X5_give nn e_v11 rfl hM_u2) ?_; intro u13 hM_u13
    exact sm_rV hM_u13
set_option maxRecDepth 4000 in
theorem sf_X5_stepNewArray (nn : Nat) {a1 : Int32} {y_a1 : Int} (e_a1 : a1.toInt = y_a1) {h : ms_M} (hM_h : Rg_M h) : Sm_ RV_ (f_X5_stepNewArray nn 143 a1 (H_M h)) (qf_X5_stepNewArray nn y_a1 h) := by
  unfold f_X5_stepNewArray qf_X5_stepNewArray
  refine sm_is hM_h rfl ?_
  refine sm_cI (sf_X5_pop nn hM_h) ?_; intro u2 y_u2 M_u2 e_u2 hM_u2
  refine sm_le rfl e_u2 ?_ ?_
  · refine sm_is hM_u2 rfl ?_
    refine sm_cV (sf_X5_giveNew nn e_a1 e_u2 hM_u2) ?_; intro u4 hM_u4
    exact sm_rV hM_u4
  · refine sm_pv hM_u2 rfl rfl ?_; intro h5 hM_h5
    exact sm_rV hM_h5
set_option maxRecDepth 4000 in
theorem sj_X5_stepPrint_25 (nn : Nat) {h : ms_M} (hM_h : Rg_M h) : Sm_ RV_ (j_X5_stepPrint_25 nn 143 (H_M h)) (qj_X5_stepPrint_25 nn h) := by
  unfold j_X5_stepPrint_25 qj_X5_stepPrint_25
  refine sm_gi hM_h rfl ?_; intro v1 e_v1
  refine sm_oq_add e_v1 rfl ?_; intro v2 y_v2 e_v2
  refine sm_pv hM_h rfl e_v2 ?_; intro h3 hM_h3
  refine sm_is hM_h3 rfl ?_
  refine sm_cV (sf_X5_goOn nn rfl hM_h3) ?_; intro u5 hM_u5
  exact sm_rV hM_u5
set_option maxRecDepth 4000 in
theorem sf_X5_stepPrint (nn : Nat) {h : ms_M} (hM_h : Rg_M h) : Sm_ RV_ (f_X5_stepPrint nn 143 (H_M h)) (qf_X5_stepPrint nn h) := by
  unfold f_X5_stepPrint qf_X5_stepPrint
  refine sm_is hM_h rfl ?_
  refine sm_cI (sf_X5_pop nn hM_h) ?_; intro u7 y_u7 M_u7 e_u7 hM_u7
  refine sm_gi hM_u7 rfl ?_; intro v8 e_v8
  refine sm_le rfl e_v8 ?_ ?_
  · exact sj_X5_stepPrint_25 nn hM_u7
  · refine sm_gr hM_u7 (d := 144) rfl ?_
    refine sm_gi hM_u7 rfl ?_; intro v10 e_v10
    refine sm_si hM_u7 rfl e_v10 e_u7 ?_; intro h11 hM_h11
    exact sj_X5_stepPrint_25 nn hM_h11
set_option maxRecDepth 4000 in
theorem sj_X5_stepReturn_15 (nn : Nat) {l1 : Int32} {y_l1 : Int} (e_l1 : l1.toInt = y_l1) {s0 : Int32} {y_s0 : Int} (e_s0 : s0.toInt = y_s0) {h : ms_M} (hM_h : Rg_M h) : Sm_ RV_ (j_X5_stepReturn_15 nn 143 l1 s0 (H_M h)) (qj_X5_stepReturn_15 nn y_l1 y_s0 h) := by
  unfold j_X5_stepReturn_15 qj_X5_stepReturn_15
  refine sm_gi hM_h rfl ?_; intro v1 e_v1
  refine sm_oq_sub e_v1 rfl ?_; intro v2 y_v2 e_v2
  refine sm_pv hM_h rfl e_v2 ?_; intro h3 hM_h3
  refine sm_gi hM_h3 rfl ?_; intro v4 e_v4
  refine sm_le e_v4 rfl ?_ ?_
  · refine sm_pv hM_h3 rfl rfl ?_; intro h5 hM_h5
    refine sm_ne e_l1 rfl ?_ ?_
    · refine sm_is hM_h5 rfl ?_
      refine sm_cP (sf_X5_isObject nn e_s0 hM_h5) ?_; intro u7 y_u7 e_u7
      refine sm_eq e_u7 rfl ?_ ?_
      · refine sm_pv hM_h5 rfl rfl ?_; intro h8 hM_h8
        exact sm_rV hM_h8
      · refine sm_gr hM_h5 (d := 145) rfl ?_
        refine sm_ai hM_h5 rfl e_s0 ?_; intro v10 y_v10 e_v10
        refine sm_pv hM_h5 rfl e_v10 ?_; intro h11 hM_h11
        exact sm_rV hM_h11
    · refine sm_pv hM_h5 rfl e_s0 ?_; intro h13 hM_h13
      exact sm_rV hM_h13
  · refine sm_is hM_h3 rfl ?_
    refine sm_cV (sf_X5_takeTop nn hM_h3) ?_; intro u16 hM_u16
    refine sm_is hM_u16 rfl ?_
    refine sm_cV (sf_X5_goOn nn rfl hM_u16) ?_; intro u18 hM_u18
    refine sm_eq e_l1 rfl ?_ ?_
    · exact sm_rV hM_u18
    · refine sm_is hM_u18 rfl ?_
      refine sm_cV (sf_X5_push nn e_s0 hM_u18) ?_; intro u20 hM_u20
      exact sm_rV hM_u20
set_option maxRecDepth 4000 in
theorem sf_X5_stepReturn (nn : Nat) {a1 : Int32} {y_a1 : Int} (e_a1 : a1.toInt = y_a1) {h : ms_M} (hM_h : Rg_M h) : Sm_ RV_ (f_X5_stepReturn nn 143 a1 (H_M h)) (qf_X5_stepReturn nn y_a1 h) := by
  unfold f_X5_stepReturn qf_X5_stepReturn
  refine sm_ne e_a1 rfl ?_ ?_
  · refine sm_is hM_h rfl ?_
    refine sm_cI (sf_X5_pop nn hM_h) ?_; intro u24 y_u24 M_u24 e_u24 hM_u24
    exact sj_X5_stepReturn_15 nn e_a1 e_u24 hM_u24
  · exact sj_X5_stepReturn_15 nn e_a1 rfl hM_h
set_option maxRecDepth 4000 in
theorem sf_X5_stepThrow (nn : Nat) {h : ms_M} (hM_h : Rg_M h) : Sm_ RV_ (f_X5_stepThrow nn 143 (H_M h)) (qf_X5_stepThrow nn h) := by
  unfold f_X5_stepThrow qf_X5_stepThrow
  refine sm_is hM_h rfl ?_
  refine sm_cI (sf_X5_pop nn hM_h) ?_; intro u2 y_u2 M_u2 e_u2 hM_u2
  refine sm_ne e_u2 rfl ?_ ?_
  · refine sm_pv hM_u2 rfl e_u2 ?_; intro h3 hM_h3
    exact sm_rV hM_h3
  · refine sm_pv hM_u2 rfl rfl ?_; intro h4 hM_h4
    exact sm_rV hM_h4
set_option maxRecDepth 4000 in
theorem sf_X7_cellsOf (nn : Nat) {a1 : Int32} {y_a1 : Int} (e_a1 : a1.toInt = y_a1) {h : ms_M} (hM_h : Rg_M h) : Sm_ (RP_ h) (f_X7_cellsOf nn 56 a1 (H_M h)) (qf_X7_cellsOf nn y_a1 h) := by
  unfold f_X7_cellsOf qf_X7_cellsOf
  refine sm_cP (sf_X4_isClass nn e_a1 hM_h) ?_; intro u1 y_u1 e_u1
  refine sm_eq e_u1 rfl ?_ ?_
  · exact sm_rP rfl
  · refine sm_gr hM_h (d := 69) rfl ?_
    refine sm_ai hM_h rfl e_a1 ?_; intro v3 y_v3 e_v3
    exact sm_rP e_v3
set_option maxRecDepth 4000 in
theorem sj_X5_stepObject_285 (nn : Nat) {l1 : Int32} {y_l1 : Int} (e_l1 : l1.toInt = y_l1) {l2 : Int32} {y_l2 : Int} (e_l2 : l2.toInt = y_l2) {h : ms_M} (hM_h : Rg_M h) : Sm_ RV_ (j_X5_stepObject_285 nn 143 l1 l2 (H_M h)) (qj_X5_stepObject_285 nn y_l1 y_l2 h) := by
  unfold j_X5_stepObject_285 qj_X5_stepObject_285
  refine sm_is hM_h rfl ?_
  refine sm_cP (sf_X5_link nn e_l2 hM_h) ?_; intro u2 y_u2 e_u2
  refine sm_is hM_h rfl ?_
  refine sm_cV (sf_X5_stepKin nn e_l1 e_u2 hM_h) ?_; intro u4 hM_u4
  exact sm_rV hM_u4
set_option maxRecDepth 4000 in
theorem sj_X5_stepObject_243 (nn : Nat) {l1 : Int32} {y_l1 : Int} (e_l1 : l1.toInt = y_l1) {l2 : Int32} {y_l2 : Int} (e_l2 : l2.toInt = y_l2) {h : ms_M} (hM_h : Rg_M h) : Sm_ RV_ (j_X5_stepObject_243 nn 143 l1 l2 (H_M h)) (qj_X5_stepObject_243 nn y_l1 y_l2 h) := by
  unfold j_X5_stepObject_243 qj_X5_stepObject_243
  refine sm_ne e_l1 rfl ?_ ?_
  · refine sm_is hM_h rfl ?_
    refine sm_cP (sf_X5_link nn e_l2 hM_h) ?_; intro u6 y_u6 e_u6
    refine sm_oq_add rfl e_u6 ?_; intro v7 y_v7 e_v7
    refine sm_is hM_h rfl ?_
    refine sm_cV (sf_X5_stepNewArray nn e_v7 hM_h) ?_; intro u9 hM_u9
    exact sm_rV hM_u9
  · refine sm_is hM_h rfl ?_
    refine sm_cV (sf_X5_stepNewArray nn rfl hM_h) ?_; intro u11 hM_u11
    exact sm_rV hM_u11
set_option maxRecDepth 4000 in
theorem sj_X5_stepObject_203 (nn : Nat) {l1 : Int32} {y_l1 : Int} (e_l1 : l1.toInt = y_l1) {l2 : Int32} {y_l2 : Int} (e_l2 : l2.toInt = y_l2) {h : ms_M} (hM_h : Rg_M h) : Sm_ RV_ (j_X5_stepObject_203 nn 143 l1 l2 (H_M h)) (qj_X5_stepObject_203 nn y_l1 y_l2 h) := by
  unfold j_X5_stepObject_203 qj_X5_stepObject_203
  refine sm_is hM_h rfl ?_
  refine sm_cV (sf_X5_stepCall nn e_l1 e_l2 hM_h) ?_; intro u14 hM_u14
  exact sm_rV hM_u14
set_option maxRecDepth 4000 in
theorem sj_X5_stepObject_179 (nn : Nat) {l1 : Int32} {y_l1 : Int} (e_l1 : l1.toInt = y_l1) {h : ms_M} (hM_h : Rg_M h) : Sm_ RV_ (j_X5_stepObject_179 nn 143 l1 (H_M h)) (qj_X5_stepObject_179 nn y_l1 h) := by
  unfold j_X5_stepObject_179 qj_X5_stepObject_179
  refine sm_is hM_h rfl ?_
  refine sm_cV (sf_X5_stepReturn nn e_l1 hM_h) ?_; intro u16 hM_u16
  exact sm_rV hM_u16
set_option maxRecDepth 4000 in
theorem sj_X5_stepObject_171 (nn : Nat) {l1 : Int32} {y_l1 : Int} (e_l1 : l1.toInt = y_l1) {h : ms_M} (hM_h : Rg_M h) : Sm_ RV_ (j_X5_stepObject_171 nn 143 l1 (H_M h)) (qj_X5_stepObject_171 nn y_l1 h) := by
  unfold j_X5_stepObject_171 qj_X5_stepObject_171
  refine sm_is hM_h rfl ?_
  refine sm_cV (sf_X5_stepGiveElement nn e_l1 hM_h) ?_; intro u18 hM_u18
  exact sm_rV hM_u18
set_option maxRecDepth 4000 in
theorem sj_X5_stepObject_164 (nn : Nat) {h : ms_M} (hM_h : Rg_M h) : Sm_ RV_ (j_X5_stepObject_164 nn 143 (H_M h)) (qj_X5_stepObject_164 nn h) := by
  unfold j_X5_stepObject_164 qj_X5_stepObject_164
  refine sm_is hM_h rfl ?_
  refine sm_cV (sf_X5_stepElement nn hM_h) ?_; intro u20 hM_u20
  exact sm_rV hM_u20
set_option maxRecDepth 4000 in
theorem sf_X5_stepObject (nn : Nat) {a1 : Int32} {y_a1 : Int} (e_a1 : a1.toInt = y_a1) {a2 : Int32} {y_a2 : Int} (e_a2 : a2.toInt = y_a2) {h : ms_M} (hM_h : Rg_M h) : Sm_ RV_ (f_X5_stepObject nn 143 a1 a2 (H_M h)) (qf_X5_stepObject nn y_a1 y_a2 h) := by
  unfold f_X5_stepObject qf_X5_stepObject
  refine sm_eq e_a1 rfl ?_ ?_
  · exact sj_X5_stepObject_164 nn hM_h
  · refine sm_eq e_a1 rfl ?_ ?_
    · exact sj_X5_stepObject_164 nn hM_h
    · refine sm_eq e_a1 rfl ?_ ?_
      · exact sj_X5_stepObject_171 nn e_a1 hM_h
      · refine sm_eq e_a1 rfl ?_ ?_
        · exact sj_X5_stepObject_171 nn e_a1 hM_h
        · refine sm_eq e_a1 rfl ?_ ?_
          · exact sj_X5_stepObject_179 nn e_a1 hM_h
          · refine sm_eq e_a1 rfl ?_ ?_
            · exact sj_X5_stepObject_179 nn e_a1 hM_h
            · refine sm_eq e_a1 rfl ?_ ?_
              · exact sj_X5_stepObject_179 nn e_a1 hM_h
              · refine sm_eq e_a1 rfl ?_ ?_
                · refine sm_is hM_h rfl ?_
                  refine sm_cV (sf_X5_stepField nn e_a2 hM_h) ?_; intro u23 hM_u23
                  exact sm_rV hM_u23
                · refine sm_eq e_a1 rfl ?_ ?_
                  · refine sm_is hM_h rfl ?_
                    refine sm_cV (sf_X5_stepGiveField nn e_a2 hM_h) ?_; intro u25 hM_u25
                    exact sm_rV hM_u25
                  · refine sm_eq e_a1 rfl ?_ ?_
                    · exact sj_X5_stepObject_203 nn e_a1 e_a2 hM_h
                    · refine sm_eq e_a1 rfl ?_ ?_
                      · exact sj_X5_stepObject_203 nn e_a1 e_a2 hM_h
                      · refine sm_eq e_a1 rfl ?_ ?_
                        · refine sm_is hM_h rfl ?_
                          refine sm_cV (sf_X5_stepPrint nn hM_h) ?_; intro u27 hM_u27
                          exact sm_rV hM_u27
                        · refine sm_eq e_a1 rfl ?_ ?_
                          · refine sm_is hM_h rfl ?_
                            refine sm_cP (sf_X5_link nn e_a2 hM_h) ?_; intro u29 y_u29 e_u29
                            refine sm_gr hM_h (d := 56) rfl ?_
                            refine sm_is hM_h rfl ?_
                            refine sm_cP (sf_X5_link nn e_a2 hM_h) ?_; intro u32 y_u32 e_u32
                            refine sm_is hM_h rfl ?_
                            refine sm_cP (sf_X7_cellsOf nn e_u32 hM_h) ?_; intro u34 y_u34 e_u34
                            refine sm_is hM_h rfl ?_
                            refine sm_cV (sf_X5_giveNew nn e_u29 e_u34 hM_h) ?_; intro u36 hM_u36
                            exact sm_rV hM_u36
                          · refine sm_eq e_a1 rfl ?_ ?_
                            · exact sj_X5_stepObject_243 nn e_a1 e_a2 hM_h
                            · refine sm_eq e_a1 rfl ?_ ?_
                              · exact sj_X5_stepObject_243 nn e_a1 e_a2 hM_h
                              · refine sm_eq e_a1 rfl ?_ ?_
                                · refine sm_is hM_h rfl ?_
                                  refine sm_cV (sf_X5_stepLength nn hM_h) ?_; intro u38 hM_u38
                                  exact sm_rV hM_u38
                                · refine sm_eq e_a1 rfl ?_ ?_
                                  · refine sm_is hM_h rfl ?_
                                    refine sm_cV (sf_X5_stepThrow nn hM_h) ?_; intro u40 hM_u40
                                    exact sm_rV hM_u40
                                  · refine sm_eq e_a1 rfl ?_ ?_
                                    · exact sj_X5_stepObject_285 nn e_a1 e_a2 hM_h
                                    · refine sm_eq e_a1 rfl ?_ ?_
                                      · exact sj_X5_stepObject_285 nn e_a1 e_a2 hM_h
                                      · refine sm_pv hM_h rfl rfl ?_; intro h21 hM_h21
                                        exact sm_rV hM_h21
set_option maxRecDepth 4000 in
theorem sj_X5_step_247 (nn : Nat) {l2 : Int32} {y_l2 : Int} (e_l2 : l2.toInt = y_l2) {l3 : Int32} {y_l3 : Int} (e_l3 : l3.toInt = y_l3) {h : ms_M} (hM_h : Rg_M h) : Sm_ RV_ (j_X5_step_247 nn 143 l2 l3 (H_M h)) (qj_X5_step_247 nn y_l2 y_l3 h) := by
  unfold j_X5_step_247 qj_X5_step_247
  refine sm_is hM_h rfl ?_
  refine sm_cV (sf_X5_stepLocal nn e_l2 e_l3 hM_h) ?_; intro u2 hM_u2
  exact sm_rV hM_u2
set_option maxRecDepth 4000 in
theorem sj_X5_step_213 (nn : Nat) {l2 : Int32} {y_l2 : Int} (e_l2 : l2.toInt = y_l2) {h : ms_M} (hM_h : Rg_M h) : Sm_ RV_ (j_X5_step_213 nn 143 l2 (H_M h)) (qj_X5_step_213 nn y_l2 h) := by
  unfold j_X5_step_213 qj_X5_step_213
  refine sm_oq_sub e_l2 rfl ?_; intro v3 y_v3 e_v3
  refine sm_is hM_h rfl ?_
  refine sm_cV (sf_X5_give nn e_v3 rfl hM_h) ?_; intro u5 hM_u5
  exact sm_rV hM_u5
set_option maxRecDepth 4000 in
theorem sf_X5_step (nn : Nat) {h : ms_M} (hM_h : Rg_M h) : Sm_ RV_ (f_X5_step nn 143 (H_M h)) (qf_X5_step nn h) := by
  unfold f_X5_step qf_X5_step
  refine sm_gr hM_h (d := 149) rfl ?_
  refine sm_gi hM_h rfl ?_; intro v7 e_v7
  refine sm_ai hM_h rfl e_v7 ?_; intro v8 y_v8 e_v8
  refine sm_gm hM_h rfl ?_
  refine sm_gi hM_h rfl ?_; intro v10 e_v10
  refine sm_oq_add e_v10 e_v8 ?_; intro v11 y_v11 e_v11
  refine sm_isS hM_h ?_; intro hb1
  refine sm_cP (sf_X3_byteAt nn _ hb1 e_v11 hM_h) ?_; intro u13 y_u13 e_u13
  refine sm_gm hM_h rfl ?_
  refine sm_gi hM_h rfl ?_; intro v15 e_v15
  refine sm_oq_add e_v15 e_v8 ?_; intro v16 y_v16 e_v16
  refine sm_oq_add e_v16 rfl ?_; intro v17 y_v17 e_v17
  refine sm_isK hM_h hb1 ?_
  refine sm_cP (sf_X3_byteAt nn _ hb1 e_v17 hM_h) ?_; intro u19 y_u19 e_u19
  refine sm_eq e_u13 rfl ?_ ?_
  · refine sm_is hM_h rfl ?_
    refine sm_cV (sf_X5_goOn nn rfl hM_h) ?_; intro u31 hM_u31
    exact sm_rV hM_u31
  · refine sm_eq e_u13 rfl ?_ ?_
    · refine sm_is hM_h rfl ?_
      refine sm_cV (sf_X5_give nn rfl rfl hM_h) ?_; intro u33 hM_u33
      exact sm_rV hM_u33
    · refine sm_eq e_u13 rfl ?_ ?_
      · exact sj_X5_step_213 nn e_u13 hM_h
      · refine sm_eq e_u13 rfl ?_ ?_
        · exact sj_X5_step_213 nn e_u13 hM_h
        · refine sm_eq e_u13 rfl ?_ ?_
          · exact sj_X5_step_213 nn e_u13 hM_h
          · refine sm_eq e_u13 rfl ?_ ?_
            · exact sj_X5_step_213 nn e_u13 hM_h
            · refine sm_eq e_u13 rfl ?_ ?_
              · exact sj_X5_step_213 nn e_u13 hM_h
              · refine sm_eq e_u13 rfl ?_ ?_
                · exact sj_X5_step_213 nn e_u13 hM_h
                · refine sm_eq e_u13 rfl ?_ ?_
                  · exact sj_X5_step_213 nn e_u13 hM_h
                  · refine sm_eq e_u13 rfl ?_ ?_
                    · refine sm_oq_b e_u19 ?_; intro v34 y_v34 e_v34
                      refine sm_is hM_h rfl ?_
                      refine sm_cV (sf_X5_give nn e_v34 rfl hM_h) ?_; intro u36 hM_u36
                      exact sm_rV hM_u36
                    · refine sm_eq e_u13 rfl ?_ ?_
                      · refine sm_is hM_h rfl ?_
                        refine sm_cP (sf_X5_link nn e_u19 hM_h) ?_; intro u38 y_u38 e_u38
                        refine sm_is hM_h rfl ?_
                        refine sm_cV (sf_X5_give nn e_u38 rfl hM_h) ?_; intro u40 hM_u40
                        exact sm_rV hM_u40
                      · refine sm_eq e_u13 rfl ?_ ?_
                        · exact sj_X5_step_247 nn e_u13 e_u19 hM_h
                        · refine sm_eq e_u13 rfl ?_ ?_
                          · exact sj_X5_step_247 nn e_u13 e_u19 hM_h
                          · refine sm_eq e_u13 rfl ?_ ?_
                            · exact sj_X5_step_247 nn e_u13 e_u19 hM_h
                            · refine sm_eq e_u13 rfl ?_ ?_
                              · exact sj_X5_step_247 nn e_u13 e_u19 hM_h
                              · refine sm_eq e_u13 rfl ?_ ?_
                                · refine sm_is hM_h rfl ?_
                                  refine sm_cI (sf_X5_pop nn hM_h) ?_; intro u42 y_u42 M_u42 e_u42 hM_u42
                                  refine sm_is hM_u42 rfl ?_
                                  refine sm_cV (sf_X5_goOn nn rfl hM_u42) ?_; intro u44 hM_u44
                                  exact sm_rV hM_u44
                                · refine sm_eq e_u13 rfl ?_ ?_
                                  · refine sm_is hM_h rfl ?_
                                    refine sm_cI (sf_X5_pop nn hM_h) ?_; intro u46 y_u46 M_u46 e_u46 hM_u46
                                    refine sm_is hM_u46 rfl ?_
                                    refine sm_cV (sf_X5_push nn e_u46 hM_u46) ?_; intro u48 hM_u48
                                    refine sm_is hM_u48 rfl ?_
                                    refine sm_cV (sf_X5_give nn e_u46 rfl hM_u48) ?_; intro u50 hM_u50
                                    exact sm_rV hM_u50
                                  · refine sm_eq e_u13 rfl ?_ ?_
                                    · refine sm_is hM_h rfl ?_
                                      refine sm_cI (sf_X5_pop nn hM_h) ?_; intro u52 y_u52 M_u52 e_u52 hM_u52
                                      refine sm_oq_neg e_u52 ?_; intro v53 y_v53 e_v53
                                      refine sm_is hM_u52 rfl ?_
                                      refine sm_cV (sf_X5_give nn e_v53 rfl hM_u52) ?_; intro u55 hM_u55
                                      exact sm_rV hM_u55
                                    · refine sm_cP (sf_X11_isJump nn e_u13 hM_h) ?_; intro u20 y_u20 e_u20
                                      refine sm_eq e_u20 rfl ?_ ?_
                                      · refine sm_cP (sf_X11_isArithmetic nn e_u13 hM_h) ?_; intro u21 y_u21 e_u21
                                        refine sm_eq e_u21 rfl ?_ ?_
                                        · refine sm_is hM_h rfl ?_
                                          refine sm_cV (sf_X5_stepObject nn e_u13 e_u19 hM_h) ?_; intro u23 hM_u23
                                          exact sm_rV hM_u23
                                        · refine sm_is hM_h rfl ?_
                                          refine sm_cV (sf_X5_stepArithmetic nn e_u13 hM_h) ?_; intro u25 hM_u25
                                          exact sm_rV hM_u25
                                      · refine sm_is hM_h rfl ?_
                                        refine sm_cV (sf_X5_stepJump nn e_u13 e_v8 hM_h) ?_; intro u28 hM_u28
                                        exact sm_rV hM_u28
set_option maxRecDepth 4000 in
theorem sj_X5_isCaught_89 (nn : Nat) {kk_27 : Nat → Int32 → Int32 → Int32 → Int32 → mx_H → Option (Int32 × mx_H)} {qkk_27 : Int → Int → Int → Int → ms_M → Option (Int × ms_M)} (hk_kk_27 : ∀ {l1 : Int32} {y_l1 : Int} (e_l1 : l1.toInt = y_l1) {l2 : Int32} {y_l2 : Int} (e_l2 : l2.toInt = y_l2) {l3 : Int32} {y_l3 : Int} (e_l3 : l3.toInt = y_l3) {l4 : Int32} {y_l4 : Int} (e_l4 : l4.toInt = y_l4) {h : ms_M} (hM_h : Rg_M h), Sm_ RI_ (kk_27 143 l1 l2 l3 l4 (H_M h)) (qkk_27 y_l1 y_l2 y_l3 y_l4 h)) {l1 : Int32} {y_l1 : Int} (e_l1 : l1.toInt = y_l1) {l2 : Int32} {y_l2 : Int} (e_l2 : l2.toInt = y_l2) {l3 : Int32} {y_l3 : Int} (e_l3 : l3.toInt = y_l3) {l4 : Int32} {y_l4 : Int} (e_l4 : l4.toInt = y_l4) {s0 : Int32} {y_s0 : Int} (e_s0 : s0.toInt = y_s0) {h : ms_M} (hM_h : Rg_M h) : Sm_ RI_ (j_X5_isCaught_89 nn kk_27 143 l1 l2 l3 l4 s0 (H_M h)) (qj_X5_isCaught_89 nn qkk_27 y_l1 y_l2 y_l3 y_l4 y_s0 h) := by
  unfold j_X5_isCaught_89 qj_X5_isCaught_89
  refine sm_eq e_s0 rfl ?_ ?_
  · refine sm_oq_add e_l3 rfl ?_; intro v1 y_v1 e_v1
    refine sm_oq_add e_l4 rfl ?_; intro v2 y_v2 e_v2
    exact hk_kk_27 e_l1 e_l2 e_v1 e_v2 hM_h
  · refine sm_gr hM_h (d := 56) rfl ?_
    refine sm_gr hM_h (d := 57) rfl ?_
    refine sm_gr hM_h (d := 145) rfl ?_
    refine sm_ai hM_h rfl e_l1 ?_; intro v6 y_v6 e_v6
    refine sm_gm hM_h rfl ?_
    refine sm_oq_add e_l3 rfl ?_; intro v8 y_v8 e_v8
    refine sm_isS hM_h ?_; intro hb1
    refine sm_cP (sf_X3_byteAt nn _ hb1 e_v8 hM_h) ?_; intro u10 y_u10 e_u10
    refine sm_is hM_h rfl ?_
    refine sm_cP (sf_X5_link nn e_u10 hM_h) ?_; intro u12 y_u12 e_u12
    refine sm_is hM_h rfl ?_
    refine sm_cP (sf_X4_fits nn _ rfl e_v6 e_u12 hM_h) ?_; intro u14 y_u14 e_u14
    refine sm_eq e_u14 rfl ?_ ?_
    · refine sm_oq_add e_l3 rfl ?_; intro v15 y_v15 e_v15
      refine sm_oq_add e_l4 rfl ?_; intro v16 y_v16 e_v16
      exact hk_kk_27 e_l1 e_l2 e_v15 e_v16 hM_h
    · refine sm_gr hM_h (d := 150) rfl ?_
      refine sm_gi hM_h rfl ?_; intro v18 e_v18
      refine sm_si hM_h rfl e_v18 rfl ?_; intro h19 hM_h19
      refine sm_gm hM_h19 rfl ?_
      refine sm_oq_add e_l3 rfl ?_; intro v21 y_v21 e_v21
      refine sm_isS hM_h19 ?_; intro hb2
      refine sm_cP (sf_X3_pairAt nn _ hb2 e_v21 hM_h19) ?_; intro u23 y_u23 e_u23
      refine sm_gr hM_h19 (d := 149) rfl ?_
      refine sm_gi hM_h19 rfl ?_; intro v25 e_v25
      refine sm_ai hM_h19 rfl e_v25 ?_; intro v26 y_v26 e_v26
      refine sm_oq_sub e_u23 e_v26 ?_; intro v27 y_v27 e_v27
      refine sm_is hM_h19 rfl ?_
      refine sm_cV (sf_X5_give nn e_l1 e_v27 hM_h19) ?_; intro u29 hM_u29
      exact sm_rI rfl hM_u29
set_option maxRecDepth 4000 in
theorem sj_X5_isCaught_88 (nn : Nat) {kk_27 : Nat → Int32 → Int32 → Int32 → Int32 → mx_H → Option (Int32 × mx_H)} {qkk_27 : Int → Int → Int → Int → ms_M → Option (Int × ms_M)} (hk_kk_27 : ∀ {l1 : Int32} {y_l1 : Int} (e_l1 : l1.toInt = y_l1) {l2 : Int32} {y_l2 : Int} (e_l2 : l2.toInt = y_l2) {l3 : Int32} {y_l3 : Int} (e_l3 : l3.toInt = y_l3) {l4 : Int32} {y_l4 : Int} (e_l4 : l4.toInt = y_l4) {h : ms_M} (hM_h : Rg_M h), Sm_ RI_ (kk_27 143 l1 l2 l3 l4 (H_M h)) (qkk_27 y_l1 y_l2 y_l3 y_l4 h)) {l1 : Int32} {y_l1 : Int} (e_l1 : l1.toInt = y_l1) {l2 : Int32} {y_l2 : Int} (e_l2 : l2.toInt = y_l2) {l3 : Int32} {y_l3 : Int} (e_l3 : l3.toInt = y_l3) {l4 : Int32} {y_l4 : Int} (e_l4 : l4.toInt = y_l4) {h : ms_M} (hM_h : Rg_M h) : Sm_ RI_ (j_X5_isCaught_88 nn kk_27 143 l1 l2 l3 l4 (H_M h)) (qj_X5_isCaught_88 nn qkk_27 y_l1 y_l2 y_l3 y_l4 h) := by
  unfold j_X5_isCaught_88 qj_X5_isCaught_88
  exact sj_X5_isCaught_89 nn hk_kk_27 e_l1 e_l2 e_l3 e_l4 rfl hM_h
set_option maxRecDepth 4000 in
theorem sw_X5_isCaught_27 (nn : Nat) : ∀ (k : Nat) {l1 : Int32} {y_l1 : Int} (e_l1 : l1.toInt = y_l1) {l2 : Int32} {y_l2 : Int} (e_l2 : l2.toInt = y_l2) {l3 : Int32} {y_l3 : Int} (e_l3 : l3.toInt = y_l3) {l4 : Int32} {y_l4 : Int} (e_l4 : l4.toInt = y_l4) {h : ms_M} (hM_h : Rg_M h), Sm_ RI_ (w_X5_isCaught_27 nn k 143 l1 l2 l3 l4 (H_M h)) (qw_X5_isCaught_27 nn k y_l1 y_l2 y_l3 y_l4 h) := by
  intro k
  induction k with
  | zero => intros; exact sm_no
  | succ k ih =>
    intro l1 y_l1 e_l1 l2 y_l2 e_l2 l3 y_l3 e_l3 l4 y_l4 e_l4 h hM_h
    unfold w_X5_isCaught_27 qw_X5_isCaught_27
    refine sm_gm hM_h rfl ?_
    refine sm_isS hM_h ?_; intro hb1
    refine sm_cP (sf_X3_of nn _ hb1 e_l2 rfl hM_h) ?_; intro u34 y_u34 e_u34
    refine sm_le e_u34 e_l4 ?_ ?_
    · exact sm_rI rfl hM_h
    · refine sm_gr hM_h (d := 149) rfl ?_
      refine sm_gi hM_h rfl ?_; intro v36 e_v36
      refine sm_ai hM_h rfl e_v36 ?_; intro v37 y_v37 e_v37
      refine sm_gm hM_h rfl ?_
      refine sm_isK hM_h hb1 ?_
      refine sm_cP (sf_X3_pairAt nn _ hb1 e_l3 hM_h) ?_; intro u40 y_u40 e_u40
      refine sm_lt e_v37 e_u40 ?_ ?_
      · exact sj_X5_isCaught_88 nn ih e_l1 e_l2 e_l3 e_l4 hM_h
      · refine sm_gr hM_h (d := 149) rfl ?_
        refine sm_gi hM_h rfl ?_; intro v42 e_v42
        refine sm_ai hM_h rfl e_v42 ?_; intro v43 y_v43 e_v43
        refine sm_gm hM_h rfl ?_
        refine sm_oq_add e_l3 rfl ?_; intro v45 y_v45 e_v45
        refine sm_isK hM_h hb1 ?_
        refine sm_cP (sf_X3_pairAt nn _ hb1 e_v45 hM_h) ?_; intro u47 y_u47 e_u47
        refine sm_le e_u47 e_v43 ?_ ?_
        · exact sj_X5_isCaught_88 nn ih e_l1 e_l2 e_l3 e_l4 hM_h
        · exact sj_X5_isCaught_89 nn ih e_l1 e_l2 e_l3 e_l4 rfl hM_h
set_option maxRecDepth 4000 in
theorem sf_X5_isCaught (nn : Nat) {a1 : Int32} {y_a1 : Int} (e_a1 : a1.toInt = y_a1) {h : ms_M} (hM_h : Rg_M h) : Sm_ RI_ (f_X5_isCaught nn 143 a1 (H_M h)) (qf_X5_isCaught nn y_a1 h) := by
  unfold f_X5_isCaught qf_X5_isCaught
  refine sm_gr hM_h (d := 148) rfl ?_
  refine sm_gi hM_h rfl ?_; intro v52 e_v52
  refine sm_ai hM_h rfl e_v52 ?_; intro v53 y_v53 e_v53
  refine sm_rem e_v53 ⟨rfl, by decide⟩ ?_; intro v54 y_v54 e_v54
  refine sm_gm hM_h rfl ?_
  refine sm_isS hM_h ?_; intro hb1
  refine sm_cP (sf_X3_of nn _ hb1 e_v54 rfl hM_h) ?_; intro u57 y_u57 e_u57
  exact sw_X5_isCaught_27 nn nn e_a1 e_v54 e_u57 rfl hM_h
set_option maxRecDepth 4000 in
theorem sj_X5_throwUp_59 (nn : Nat) {l1 : Int32} {y_l1 : Int} (e_l1 : l1.toInt = y_l1) {h : ms_M} (hM_h : Rg_M h) : Sm_ RV_ (j_X5_throwUp_59 nn 143 l1 (H_M h)) (qj_X5_throwUp_59 nn y_l1 h) := by
  unfold j_X5_throwUp_59 qj_X5_throwUp_59
  refine sm_pv hM_h rfl rfl ?_; intro h1 hM_h1
  refine sm_gr hM_h1 (d := 145) rfl ?_
  refine sm_ai hM_h1 rfl e_l1 ?_; intro v3 y_v3 e_v3
  refine sm_pv hM_h1 rfl e_v3 ?_; intro h4 hM_h4
  exact sm_rV hM_h4
set_option maxRecDepth 4000 in
theorem sw_X5_throwUp_17 (nn : Nat) : ∀ (k : Nat) {l1 : Int32} {y_l1 : Int} (e_l1 : l1.toInt = y_l1) {l2 : Int32} {y_l2 : Int} (e_l2 : l2.toInt = y_l2) {h : ms_M} (hM_h : Rg_M h), Sm_ RV_ (w_X5_throwUp_17 nn k 143 l1 l2 (H_M h)) (qw_X5_throwUp_17 nn k y_l1 y_l2 h) := by
  intro k
  induction k with
  | zero => intros; exact sm_no
  | succ k ih =>
    intro l1 y_l1 e_l1 l2 y_l2 e_l2 h hM_h
    unfold w_X5_throwUp_17 qw_X5_throwUp_17
    refine sm_le rfl e_l2 ?_ ?_
    · exact sj_X5_throwUp_59 nn e_l1 hM_h
    · refine sm_gi hM_h rfl ?_; intro v5 e_v5
      refine sm_le e_v5 rfl ?_ ?_
      · exact sj_X5_throwUp_59 nn e_l1 hM_h
      · refine sm_is hM_h rfl ?_
        refine sm_cV (sf_X5_takeTop nn hM_h) ?_; intro u7 hM_u7
        refine sm_is hM_u7 rfl ?_
        refine sm_cI (sf_X5_isCaught nn e_l1 hM_u7) ?_; intro u9 y_u9 M_u9 e_u9 hM_u9
        refine sm_eq e_u9 rfl ?_ ?_
        · refine sm_gi hM_u9 rfl ?_; intro v10 e_v10
          refine sm_oq_sub e_v10 rfl ?_; intro v11 y_v11 e_v11
          refine sm_pv hM_u9 rfl e_v11 ?_; intro h12 hM_h12
          refine sm_oq_add e_l2 rfl ?_; intro v13 y_v13 e_v13
          exact ih e_l1 e_v13 hM_h12
        · exact sm_rV hM_u9
set_option maxRecDepth 4000 in
theorem sf_X5_throwUp (nn : Nat) {a1 : Int32} {y_a1 : Int} (e_a1 : a1.toInt = y_a1) {h : ms_M} (hM_h : Rg_M h) : Sm_ RV_ (f_X5_throwUp nn 143 a1 (H_M h)) (qf_X5_throwUp nn y_a1 h) := by
  unfold f_X5_throwUp qf_X5_throwUp
  refine sm_is hM_h rfl ?_
  refine sm_cP (sf_X5_isObject nn e_a1 hM_h) ?_; intro u18 y_u18 e_u18
  refine sm_ne e_u18 rfl ?_ ?_
  · exact sw_X5_throwUp_17 nn nn e_a1 rfl hM_h
  · refine sm_pv hM_h rfl rfl ?_; intro h19 hM_h19
    exact sm_rV hM_h19
set_option maxRecDepth 4000 in
theorem sj_X5_go_66 (nn : Nat) {l2 : Int32} {y_l2 : Int} (e_l2 : l2.toInt = y_l2) {h : ms_M} (hM_h : Rg_M h) : Sm_ RI_ (j_X5_go_66 nn 143 l2 (H_M h)) (qj_X5_go_66 nn y_l2 h) := by
  unfold j_X5_go_66 qj_X5_go_66
  refine sm_gi hM_h rfl ?_; intro v1 e_v1
  refine sm_oq_add e_v1 e_l2 ?_; intro v2 y_v2 e_v2
  refine sm_pv hM_h rfl e_v2 ?_; intro h3 hM_h3
  exact sm_rI e_l2 hM_h3
set_option maxRecDepth 4000 in
theorem sj_X5_go_55 (nn : Nat) {kk_2 : Nat → Int32 → Int32 → mx_H → Option (Int32 × mx_H)} {qkk_2 : Int → Int → ms_M → Option (Int × ms_M)} (hk_kk_2 : ∀ {l1 : Int32} {y_l1 : Int} (e_l1 : l1.toInt = y_l1) {l2 : Int32} {y_l2 : Int} (e_l2 : l2.toInt = y_l2) {h : ms_M} (hM_h : Rg_M h), Sm_ RI_ (kk_2 143 l1 l2 (H_M h)) (qkk_2 y_l1 y_l2 h)) {l1 : Int32} {y_l1 : Int} (e_l1 : l1.toInt = y_l1) {l2 : Int32} {y_l2 : Int} (e_l2 : l2.toInt = y_l2) {h : ms_M} (hM_h : Rg_M h) : Sm_ RI_ (j_X5_go_55 nn kk_2 143 l1 l2 (H_M h)) (qj_X5_go_55 nn qkk_2 y_l1 y_l2 h) := by
  unfold j_X5_go_55 qj_X5_go_55
  refine sm_pv hM_h rfl rfl ?_; intro h4 hM_h4
  refine sm_oq_add e_l2 rfl ?_; intro v5 y_v5 e_v5
  exact hk_kk_2 e_l1 e_v5 hM_h4
set_option maxRecDepth 4000 in
theorem sj_X5_go_40 (nn : Nat) {kk_2 : Nat → Int32 → Int32 → mx_H → Option (Int32 × mx_H)} {qkk_2 : Int → Int → ms_M → Option (Int × ms_M)} (hk_kk_2 : ∀ {l1 : Int32} {y_l1 : Int} (e_l1 : l1.toInt = y_l1) {l2 : Int32} {y_l2 : Int} (e_l2 : l2.toInt = y_l2) {h : ms_M} (hM_h : Rg_M h), Sm_ RI_ (kk_2 143 l1 l2 (H_M h)) (qkk_2 y_l1 y_l2 h)) {l1 : Int32} {y_l1 : Int} (e_l1 : l1.toInt = y_l1) {l2 : Int32} {y_l2 : Int} (e_l2 : l2.toInt = y_l2) {h : ms_M} (hM_h : Rg_M h) : Sm_ RI_ (j_X5_go_40 nn kk_2 143 l1 l2 (H_M h)) (qj_X5_go_40 nn qkk_2 y_l1 y_l2 h) := by
  unfold j_X5_go_40 qj_X5_go_40
  refine sm_gi hM_h rfl ?_; intro v6 e_v6
  refine sm_le e_v6 rfl ?_ ?_
  · exact sj_X5_go_55 nn hk_kk_2 e_l1 e_l2 hM_h
  · refine sm_gi hM_h rfl ?_; intro v7 e_v7
    refine sm_is hM_h rfl ?_
    refine sm_cV (sf_X5_throwUp nn e_v7 hM_h) ?_; intro u9 hM_u9
    exact sj_X5_go_55 nn hk_kk_2 e_l1 e_l2 hM_u9
set_option maxRecDepth 4000 in
theorem sw_X5_go_2 (nn : Nat) : ∀ (k : Nat) {l1 : Int32} {y_l1 : Int} (e_l1 : l1.toInt = y_l1) {l2 : Int32} {y_l2 : Int} (e_l2 : l2.toInt = y_l2) {h : ms_M} (hM_h : Rg_M h), Sm_ RI_ (w_X5_go_2 nn k 143 l1 l2 (H_M h)) (qw_X5_go_2 nn k y_l1 y_l2 h) := by
  intro k
  induction k with
  | zero => intros; exact sm_no
  | succ k ih =>
    intro l1 y_l1 e_l1 l2 y_l2 e_l2 h hM_h
    unfold w_X5_go_2 qw_X5_go_2
    refine sm_le e_l1 e_l2 ?_ ?_
    · exact sj_X5_go_66 nn e_l2 hM_h
    · refine sm_gi hM_h rfl ?_; intro v11 e_v11
      refine sm_ne e_v11 rfl ?_ ?_
      · exact sj_X5_go_66 nn e_l2 hM_h
      · refine sm_is hM_h rfl ?_
        refine sm_cV (sf_X5_step nn hM_h) ?_; intro u13 hM_u13
        refine sm_gi hM_u13 rfl ?_; intro v14 e_v14
        refine sm_le rfl e_v14 ?_ ?_
        · exact sj_X5_go_40 nn ih e_l1 e_l2 hM_u13
        · refine sm_gi hM_u13 rfl ?_; intro v15 e_v15
          refine sm_oq_neg e_v15 ?_; intro v16 y_v16 e_v16
          refine sm_is hM_u13 rfl ?_
          refine sm_cI (sf_X5_make nn e_v16 rfl hM_u13) ?_; intro u18 y_u18 M_u18 e_u18 hM_u18
          refine sm_pv hM_u18 rfl e_u18 ?_; intro h19 hM_h19
          exact sj_X5_go_40 nn ih e_l1 e_l2 hM_h19
set_option maxRecDepth 4000 in
theorem sf_X5_go (nn : Nat) {a1 : Int32} {y_a1 : Int} (e_a1 : a1.toInt = y_a1) {h : ms_M} (hM_h : Rg_M h) : Sm_ RI_ (f_X5_go nn 143 a1 (H_M h)) (qf_X5_go nn y_a1 h) := by
  unfold f_X5_go qf_X5_go
  exact sw_X5_go_2 nn nn e_a1 rfl hM_h
set_option maxRecDepth 4000 in
theorem sf_X12_run (nn : Nat) {a1 : Int32} {y_a1 : Int} (e_a1 : a1.toInt = y_a1) {h : ms_M} (hM_h : Rg_M h) : Sm_ RI_ (f_X12_run nn 0 a1 (H_M h)) (qf_X12_run nn y_a1 h) := by
  unfold f_X12_run qf_X12_run
  refine sm_lt e_a1 rfl ?_ ?_
  · exact sm_rI rfl hM_h
  · refine sm_le e_a1 rfl ?_ ?_
    · refine sm_gr hM_h (d := 143) rfl ?_
      refine sm_is hM_h rfl ?_
      refine sm_cI (sf_X5_go nn e_a1 hM_h) ?_; intro u3 y_u3 M_u3 e_u3 hM_u3
      exact sm_rI e_u3 hM_u3
    · exact sm_rI rfl hM_h
set_option maxRecDepth 4000 in
theorem sf_X5_beginRun (nn : Nat) {a1 : Int32} {y_a1 : Int} (e_a1 : a1.toInt = y_a1) {a2 : Int32} {y_a2 : Int} (e_a2 : a2.toInt = y_a2) {h : ms_M} (hM_h : Rg_M h) : Sm_ RV_ (f_X5_beginRun nn 143 a1 a2 (H_M h)) (qf_X5_beginRun nn y_a1 y_a2 h) := by
  unfold f_X5_beginRun qf_X5_beginRun
  refine sm_is hM_h rfl ?_
  refine sm_cV (sf_X5_forget nn hM_h) ?_; intro u2 hM_u2
  refine sm_pv hM_u2 rfl rfl ?_; intro h3 hM_h3
  refine sm_oq_sub e_a1 rfl ?_; intro v4 y_v4 e_v4
  refine sm_oq_mul e_v4 rfl ?_; intro v5 y_v5 e_v5
  refine sm_oq_add e_v5 e_a2 ?_; intro v6 y_v6 e_v6
  refine sm_is hM_h3 rfl ?_
  refine sm_cV (sf_X5_beginMethod nn e_v6 rfl rfl hM_h3) ?_; intro u8 hM_u8
  exact sm_rV hM_u8
set_option maxRecDepth 4000 in
theorem sf_X12_start (nn : Nat) {a1 : Int32} {y_a1 : Int} (e_a1 : a1.toInt = y_a1) {a2 : Int32} {y_a2 : Int} (e_a2 : a2.toInt = y_a2) {h : ms_M} (hM_h : Rg_M h) : Sm_ RI_ (f_X12_start nn 0 a1 a2 (H_M h)) (qf_X12_start nn y_a1 y_a2 h) := by
  unfold f_X12_start qf_X12_start
  refine sm_gr hM_h (d := 56) rfl ?_
  refine sm_is hM_h rfl ?_
  refine sm_cQ (sf_X7_imageOf nn e_a1 hM_h) ?_; intro y_u3
  refine sm_gr hM_h (d := 56) rfl ?_
  refine sm_gi hM_h rfl ?_; intro v5 e_v5
  refine sm_eq e_v5 rfl ?_ ?_
  · exact sm_rI rfl hM_h
  · refine sm_oc ?_ ?_
    · exact sm_rI rfl hM_h
    · refine sm_lt e_a2 rfl ?_ ?_
      · exact sm_rI rfl hM_h
      · refine sm_kO ?_; intro hb1
        refine sm_giI hM_h hb1 rfl ?_; intro v8 e_v8
        refine sm_lt e_a2 e_v8 ?_ ?_
        · refine sm_isK hM_h hb1 ?_
          refine sm_cP (sf_X3_of nn _ hb1 e_a2 rfl hM_h) ?_; intro u10 y_u10 e_u10
          refine sm_eq e_u10 rfl ?_ ?_
          · exact sm_rI rfl hM_h
          · refine sm_isK hM_h hb1 ?_
            refine sm_cP (sf_X3_of nn _ hb1 e_a2 rfl hM_h) ?_; intro u12 y_u12 e_u12
            refine sm_eq e_u12 rfl ?_ ?_
            · refine sm_gr hM_h (d := 143) rfl ?_
              refine sm_is hM_h rfl ?_
              refine sm_cV (sf_X5_beginRun nn e_a1 e_a2 hM_h) ?_; intro u15 hM_u15
              exact sm_rI rfl hM_u15
            · exact sm_rI rfl hM_h
        · exact sm_rI rfl hM_h
set_option maxRecDepth 4000 in
theorem sf_X12_type (nn : Nat) {a1 : Int32} {y_a1 : Int} (e_a1 : a1.toInt = y_a1) {a2 : Int32} {y_a2 : Int} (e_a2 : a2.toInt = y_a2) {h : ms_M} (hM_h : Rg_M h) : Sm_ (RP_ h) (f_X12_type nn 0 a1 a2 (H_M h)) (qf_X12_type nn y_a1 y_a2 h) := by
  unfold f_X12_type qf_X12_type
  refine sm_lt e_a1 rfl ?_ ?_
  · exact sm_rP rfl
  · refine sm_gr hM_h (d := 56) rfl ?_
    refine sm_gi hM_h rfl ?_; intro v2 e_v2
    refine sm_oq_add rfl e_v2 ?_; intro v3 y_v3 e_v3
    refine sm_lt e_a1 e_v3 ?_ ?_
    · refine sm_ne e_a2 rfl ?_ ?_
      · refine sm_gr hM_h (d := 56) rfl ?_
        refine sm_is hM_h rfl ?_
        refine sm_cQ (sf_X7_imageOf nn e_a1 hM_h) ?_; intro y_u6
        refine sm_oc ?_ ?_
        · refine sm_lt e_a2 rfl ?_ ?_
          · exact sm_rP rfl
          · refine sm_lt rfl e_a2 ?_ ?_
            · exact sm_rP rfl
            · exact sm_rP rfl
        · refine sm_eq e_a2 rfl ?_ ?_
          · refine sm_kO ?_; intro hb1
            refine sm_giI hM_h hb1 rfl ?_; intro v11 e_v11
            exact sm_rP e_v11
          · refine sm_eq e_a2 rfl ?_ ?_
            · refine sm_kO ?_; intro hb2
              refine sm_giI hM_h hb2 rfl ?_; intro v12 e_v12
              exact sm_rP e_v12
            · refine sm_eq e_a2 rfl ?_ ?_
              · refine sm_kO ?_; intro hb3
                refine sm_giI hM_h hb3 rfl ?_; intro v13 e_v13
                exact sm_rP e_v13
              · refine sm_eq e_a2 rfl ?_ ?_
                · refine sm_kO ?_; intro hb4
                  refine sm_giI hM_h hb4 rfl ?_; intro v14 e_v14
                  exact sm_rP e_v14
                · exact sm_rP rfl
      · refine sm_gr hM_h (d := 56) rfl ?_
        refine sm_gr hM_h (d := 57) rfl ?_
        refine sm_is hM_h rfl ?_
        refine sm_cP (sf_X4_above nn _ rfl e_a1 hM_h) ?_; intro u18 y_u18 e_u18
        exact sm_rP e_u18
    · exact sm_rP rfl
set_option maxRecDepth 4000 in
theorem sf_X3_fieldKind (nn : Nat) (a0 : Nat) (hb_a0 : kc_O a0 = 3) {a1 : Int32} {y_a1 : Int} (e_a1 : a1.toInt = y_a1) {h : ms_M} (hM_h : Rg_M h) : Sm_ (RP_ h) (f_X3_fieldKind nn a0 a1 (H_M h)) (qf_X3_fieldKind nn a0 y_a1 h) := by
  unfold f_X3_fieldKind qf_X3_fieldKind
  refine sm_lt e_a1 rfl ?_ ?_
  · exact sm_rP rfl
  · refine sm_giI hM_h hb_a0 rfl ?_; intro v1 e_v1
    refine sm_le e_v1 e_a1 ?_ ?_
    · exact sm_rP rfl
    · refine sm_grI hM_h hb_a0 (off := 5) rfl ?_
      refine sm_oq_mul e_a1 rfl ?_; intro v3 y_v3 e_v3
      refine sm_oq_add e_v3 rfl ?_; intro v4 y_v4 e_v4
      refine sm_aiI hM_h hb_a0 rfl e_v4 ?_; intro v5 y_v5 e_v5
      exact sm_rP e_v5
set_option maxRecDepth 4000 in
theorem sf_X7_typeOfKind (nn : Nat) (a1 : Nat) {a2 : Int32} {y_a2 : Int} (e_a2 : a2.toInt = y_a2) {a3 : Int32} {y_a3 : Int} (e_a3 : a3.toInt = y_a3) {h : ms_M} (hM_h : Rg_M h) : Sm_ (RP_ h) (f_X7_typeOfKind nn 56 a1 a2 a3 (H_M h)) (qf_X7_typeOfKind nn a1 y_a2 y_a3 h) := by
  unfold f_X7_typeOfKind qf_X7_typeOfKind
  refine sm_isS hM_h ?_; intro hb1
  refine sm_cP (sf_X3_byteAt nn _ hb1 e_a2 hM_h) ?_; intro u2 y_u2 e_u2
  refine sm_eq e_u2 rfl ?_ ?_
  · exact sm_rP rfl
  · refine sm_ne e_u2 rfl ?_ ?_
    · refine sm_ne e_u2 rfl ?_ ?_
      · refine sm_eq e_u2 rfl ?_ ?_
        · refine sm_oq_add e_a2 rfl ?_; intro v3 y_v3 e_v3
          refine sm_isK hM_h hb1 ?_
          refine sm_cP (sf_X3_byteAt nn _ hb1 e_v3 hM_h) ?_; intro u5 y_u5 e_u5
          refine sm_ne e_u5 rfl ?_ ?_
          · refine sm_oq_add e_a2 rfl ?_; intro v6 y_v6 e_v6
            refine sm_oq_sub e_a3 rfl ?_; intro v7 y_v7 e_v7
            refine sm_is hM_h rfl ?_
            refine sm_cP (sf_X7_classOf nn _ e_v6 e_v7 hM_h) ?_; intro u9 y_u9 e_u9
            refine sm_ne e_u9 rfl ?_ ?_
            · refine sm_oq_add rfl e_u9 ?_; intro v10 y_v10 e_v10
              exact sm_rP e_v10
            · exact sm_rP rfl
          · exact sm_rP rfl
        · refine sm_oq_add e_a2 rfl ?_; intro v13 y_v13 e_v13
          refine sm_oq_sub e_a3 rfl ?_; intro v14 y_v14 e_v14
          refine sm_is hM_h rfl ?_
          refine sm_cP (sf_X7_classOf nn _ e_v13 e_v14 hM_h) ?_; intro u16 y_u16 e_u16
          exact sm_rP e_u16
      · exact sm_rP rfl
    · exact sm_rP rfl
set_option maxRecDepth 4000 in
theorem sj_X7_readKind_130 (nn : Nat) (l1 : Nat) {l4 : Int32} {y_l4 : Int} (e_l4 : l4.toInt = y_l4) {l5 : Int32} {y_l5 : Int} (e_l5 : l5.toInt = y_l5) {l6 : Int32} {y_l6 : Int} (e_l6 : l6.toInt = y_l6) {l7 : Int32} {y_l7 : Int} (e_l7 : l7.toInt = y_l7) {h : ms_M} (hM_h : Rg_M h) : Sm_ RI_ (j_X7_readKind_130 nn 56 l1 131 l4 l5 l6 l7 (H_M h)) (qj_X7_readKind_130 nn l1 y_l4 y_l5 y_l6 y_l7 h) := by
  unfold j_X7_readKind_130 qj_X7_readKind_130
  refine sm_oq_add e_l6 rfl ?_; intro v1 y_v1 e_v1
  refine sm_is hM_h rfl ?_
  refine sm_cP (sf_X7_typeOfKind nn _ e_v1 e_l5 hM_h) ?_; intro u3 y_u3 e_u3
  refine sm_si hM_h rfl e_l4 e_u3 ?_; intro h4 hM_h4
  exact sm_rI e_l7 hM_h4
set_option maxRecDepth 4000 in
theorem sw_X7_readKind_63 (nn : Nat) : ∀ (k : Nat) (l1 : Nat) {l4 : Int32} {y_l4 : Int} (e_l4 : l4.toInt = y_l4) {l5 : Int32} {y_l5 : Int} (e_l5 : l5.toInt = y_l5) {l6 : Int32} {y_l6 : Int} (e_l6 : l6.toInt = y_l6) {l7 : Int32} {y_l7 : Int} (e_l7 : l7.toInt = y_l7) {h : ms_M} (hM_h : Rg_M h), Sm_ RI_ (w_X7_readKind_63 nn k 56 l1 131 l4 l5 l6 l7 (H_M h)) (qw_X7_readKind_63 nn k l1 y_l4 y_l5 y_l6 y_l7 h) := by
  intro k
  induction k with
  | zero => intros; exact sm_no
  | succ k ih =>
    intro l1 l4 y_l4 e_l4 l5 y_l5 e_l5 l6 y_l6 e_l6 l7 y_l7 e_l7 h hM_h
    unfold w_X7_readKind_63 qw_X7_readKind_63
    refine sm_le rfl e_l7 ?_ ?_
    · exact sj_X7_readKind_130 nn _ e_l4 e_l5 e_l6 e_l7 hM_h
    · refine sm_eq e_l6 rfl ?_ ?_
      · exact sj_X7_readKind_130 nn _ e_l4 e_l5 e_l6 e_l7 hM_h
      · refine sm_le e_l5 e_l6 ?_ ?_
        · exact sj_X7_readKind_130 nn _ e_l4 e_l5 e_l6 e_l7 hM_h
        · refine sm_isS hM_h ?_; intro hb1
          refine sm_cP (sf_X3_byteAt nn _ hb1 e_l6 hM_h) ?_; intro u6 y_u6 e_u6
          refine sm_eq e_u6 rfl ?_ ?_
          · exact sj_X7_readKind_130 nn _ e_l4 e_l5 e_l6 e_l7 hM_h
          · refine sm_isK hM_h hb1 ?_
            refine sm_cP (sf_X3_behindKind nn _ hb1 e_l6 e_l5 hM_h) ?_; intro u8 y_u8 e_u8
            refine sm_oq_add e_l7 rfl ?_; intro v9 y_v9 e_v9
            refine sm_oq_add e_l4 e_v9 ?_; intro v10 y_v10 e_v10
            refine sm_is hM_h rfl ?_
            refine sm_cP (sf_X7_typeOfKind nn _ e_l6 e_u8 hM_h) ?_; intro u12 y_u12 e_u12
            refine sm_si hM_h rfl e_v10 e_u12 ?_; intro h13 hM_h13
            exact ih _ e_l4 e_l5 e_u8 e_v9 hM_h13
set_option maxRecDepth 4000 in
theorem sf_X7_readKind (nn : Nat) (a1 : Nat) {a2 : Int32} {y_a2 : Int} (e_a2 : a2.toInt = y_a2) {a4 : Int32} {y_a4 : Int} (e_a4 : a4.toInt = y_a4) {h : ms_M} (hM_h : Rg_M h) : Sm_ RI_ (f_X7_readKind nn 56 a1 a2 131 a4 (H_M h)) (qf_X7_readKind nn a1 y_a2 y_a4 h) := by
  unfold f_X7_readKind qf_X7_readKind
  refine sm_isS hM_h ?_; intro hb1
  refine sm_cP (sf_X3_textEnd nn _ hb1 e_a2 hM_h) ?_; intro u19 y_u19 e_u19
  refine sm_isK hM_h hb1 ?_
  refine sm_cP (sf_X3_textAt nn _ hb1 e_a2 hM_h) ?_; intro u21 y_u21 e_u21
  refine sm_lt e_a4 rfl ?_ ?_
  · exact sm_rI rfl hM_h
  · refine sm_oq_add e_a4 rfl ?_; intro v22 y_v22 e_v22
    refine sm_ln hM_h (z := 1799) rfl ?_; intro v23 e_v23
    refine sm_lt e_v22 e_v23 ?_ ?_
    · refine sm_isK hM_h hb1 ?_
      refine sm_cP (sf_X3_byteAt nn _ hb1 e_u21 hM_h) ?_; intro u25 y_u25 e_u25
      refine sm_eq e_u25 rfl ?_ ?_
      · refine sm_oq_add e_u21 rfl ?_; intro v26 y_v26 e_v26
        exact sw_X7_readKind_63 nn nn _ e_a4 e_u19 e_v26 rfl hM_h
      · refine sm_is hM_h rfl ?_
        refine sm_cP (sf_X7_typeOfKind nn _ e_u21 e_u19 hM_h) ?_; intro u28 y_u28 e_u28
        refine sm_si hM_h rfl e_a4 e_u28 ?_; intro h29 hM_h29
        exact sm_rI rfl hM_h29
    · exact sm_rI rfl hM_h
set_option maxRecDepth 4000 in
theorem sj_X11_areKindsThere_133 (nn : Nat) {kk_68 : Nat → Int32 → Int32 → mx_H → Option (Int32 × mx_H)} {qkk_68 : Int → Int → ms_M → Option (Int × ms_M)} (hk_kk_68 : ∀ {l1 : Int32} {y_l1 : Int} (e_l1 : l1.toInt = y_l1) {l2 : Int32} {y_l2 : Int} (e_l2 : l2.toInt = y_l2) {h : ms_M} (hM_h : Rg_M h), Sm_ RI_ (kk_68 127 l1 l2 (H_M h)) (qkk_68 y_l1 y_l2 h)) {kk_108 : Nat → Int32 → Int32 → Int32 → Int32 → mx_H → Option (Int32 × mx_H)} {qkk_108 : Int → Int → Int → Int → ms_M → Option (Int × ms_M)} (hk_kk_108 : ∀ {l1 : Int32} {y_l1 : Int} (e_l1 : l1.toInt = y_l1) {l2 : Int32} {y_l2 : Int} (e_l2 : l2.toInt = y_l2) {l3 : Int32} {y_l3 : Int} (e_l3 : l3.toInt = y_l3) {l4 : Int32} {y_l4 : Int} (e_l4 : l4.toInt = y_l4) {h : ms_M} (hM_h : Rg_M h), Sm_ RI_ (kk_108 127 l1 l2 l3 l4 (H_M h)) (qkk_108 y_l1 y_l2 y_l3 y_l4 h)) {l2 : Int32} {y_l2 : Int} (e_l2 : l2.toInt = y_l2) {l3 : Int32} {y_l3 : Int} (e_l3 : l3.toInt = y_l3) {l4 : Int32} {y_l4 : Int} (e_l4 : l4.toInt = y_l4) {h : ms_M} (hM_h : Rg_M h) : Sm_ RI_ (j_X11_areKindsThere_133 nn kk_68 kk_108 127 l2 l3 l4 (H_M h)) (qj_X11_areKindsThere_133 nn qkk_68 qkk_108 y_l2 y_l3 y_l4 h) := by
  unfold j_X11_areKindsThere_133 qj_X11_areKindsThere_133
  refine sm_oq_add e_l4 rfl ?_; intro v1 y_v1 e_v1
  exact hk_kk_108 rfl e_l2 e_l3 e_v1 hM_h
set_option maxRecDepth 4000 in
theorem sw_X11_areKindsThere_108 (nn : Nat) {kk_68 : Nat → Int32 → Int32 → mx_H → Option (Int32 × mx_H)} {qkk_68 : Int → Int → ms_M → Option (Int × ms_M)} (hk_kk_68 : ∀ {l1 : Int32} {y_l1 : Int} (e_l1 : l1.toInt = y_l1) {l2 : Int32} {y_l2 : Int} (e_l2 : l2.toInt = y_l2) {h : ms_M} (hM_h : Rg_M h), Sm_ RI_ (kk_68 127 l1 l2 (H_M h)) (qkk_68 y_l1 y_l2 h)) : ∀ (k : Nat) {l1 : Int32} {y_l1 : Int} (e_l1 : l1.toInt = y_l1) {l2 : Int32} {y_l2 : Int} (e_l2 : l2.toInt = y_l2) {l3 : Int32} {y_l3 : Int} (e_l3 : l3.toInt = y_l3) {l4 : Int32} {y_l4 : Int} (e_l4 : l4.toInt = y_l4) {h : ms_M} (hM_h : Rg_M h), Sm_ RI_ (w_X11_areKindsThere_108 nn kk_68 k 127 l1 l2 l3 l4 (H_M h)) (qw_X11_areKindsThere_108 nn qkk_68 k y_l1 y_l2 y_l3 y_l4 h) := by
  intro k
  induction k with
  | zero => intros; exact sm_no
  | succ k ih =>
    intro l1 y_l1 e_l1 l2 y_l2 e_l2 l3 y_l3 e_l3 l4 y_l4 e_l4 h hM_h
    unfold w_X11_areKindsThere_108 qw_X11_areKindsThere_108
    refine sm_lt e_l3 e_l4 ?_ ?_
    · refine sm_oq_add e_l2 rfl ?_; intro v2 y_v2 e_v2
      exact hk_kk_68 e_l1 e_v2 hM_h
    · refine sm_eq e_l1 rfl ?_ ?_
      · exact sj_X11_areKindsThere_133 nn hk_kk_68 ih e_l2 e_l3 e_l4 hM_h
      · refine sm_gr hM_h (d := 131) rfl ?_
        refine sm_ai hM_h rfl e_l4 ?_; intro v4 y_v4 e_v4
        refine sm_eq e_v4 rfl ?_ ?_
        · exact sj_X11_areKindsThere_133 nn hk_kk_68 ih e_l2 e_l3 e_l4 hM_h
        · refine sm_oq_add e_l4 rfl ?_; intro v5 y_v5 e_v5
          exact ih rfl e_l2 e_l3 e_v5 hM_h
set_option maxRecDepth 4000 in
theorem sw_X11_areKindsThere_68 (nn : Nat) : ∀ (k : Nat) {l1 : Int32} {y_l1 : Int} (e_l1 : l1.toInt = y_l1) {l2 : Int32} {y_l2 : Int} (e_l2 : l2.toInt = y_l2) {h : ms_M} (hM_h : Rg_M h), Sm_ RI_ (w_X11_areKindsThere_68 nn k 127 l1 l2 (H_M h)) (qw_X11_areKindsThere_68 nn k y_l1 y_l2 h) := by
  intro k
  induction k with
  | zero => intros; exact sm_no
  | succ k ih =>
    intro l1 y_l1 e_l1 l2 y_l2 e_l2 h hM_h
    unfold w_X11_areKindsThere_68 qw_X11_areKindsThere_68
    refine sm_gm hM_h rfl ?_
    refine sm_kO ?_; intro hb1
    refine sm_giI hM_h hb1 rfl ?_; intro v10 e_v10
    refine sm_le e_v10 e_l2 ?_ ?_
    · refine sm_bq e_l1 ?_
      exact sm_rI e_l1 hM_h
    · refine sm_gr hM_h (d := 56) rfl ?_
      refine sm_gm hM_h rfl ?_
      refine sm_gm hM_h rfl ?_
      refine sm_isK hM_h hb1 ?_
      refine sm_cP (sf_X3_of nn _ hb1 e_l2 rfl hM_h) ?_; intro u16 y_u16 e_u16
      refine sm_gr hM_h (d := 131) rfl ?_
      refine sm_is hM_h rfl ?_
      refine sm_cI (sf_X7_readKind nn _ e_u16 rfl hM_h) ?_; intro u19 y_u19 M_u19 e_u19 hM_u19
      exact sw_X11_areKindsThere_108 nn ih nn e_l1 e_l2 e_u19 rfl hM_u19
set_option maxRecDepth 4000 in
theorem sj_X11_areKindsThere_58 (nn : Nat) {kk_4 : Nat → Int32 → Int32 → mx_H → Option (Int32 × mx_H)} {qkk_4 : Int → Int → ms_M → Option (Int × ms_M)} (hk_kk_4 : ∀ {l1 : Int32} {y_l1 : Int} (e_l1 : l1.toInt = y_l1) {l2 : Int32} {y_l2 : Int} (e_l2 : l2.toInt = y_l2) {h : ms_M} (hM_h : Rg_M h), Sm_ RI_ (kk_4 127 l1 l2 (H_M h)) (qkk_4 y_l1 y_l2 h)) {l2 : Int32} {y_l2 : Int} (e_l2 : l2.toInt = y_l2) {h : ms_M} (hM_h : Rg_M h) : Sm_ RI_ (j_X11_areKindsThere_58 nn kk_4 127 l2 (H_M h)) (qj_X11_areKindsThere_58 nn qkk_4 y_l2 h) := by
  unfold j_X11_areKindsThere_58 qj_X11_areKindsThere_58
  refine sm_oq_add e_l2 rfl ?_; intro v21 y_v21 e_v21
  exact hk_kk_4 rfl e_v21 hM_h
set_option maxRecDepth 4000 in
theorem sw_X11_areKindsThere_4 (nn : Nat) : ∀ (k : Nat) {l1 : Int32} {y_l1 : Int} (e_l1 : l1.toInt = y_l1) {l2 : Int32} {y_l2 : Int} (e_l2 : l2.toInt = y_l2) {h : ms_M} (hM_h : Rg_M h), Sm_ RI_ (w_X11_areKindsThere_4 nn k 127 l1 l2 (H_M h)) (qw_X11_areKindsThere_4 nn k y_l1 y_l2 h) := by
  intro k
  induction k with
  | zero => intros; exact sm_no
  | succ k ih =>
    intro l1 y_l1 e_l1 l2 y_l2 e_l2 h hM_h
    unfold w_X11_areKindsThere_4 qw_X11_areKindsThere_4
    refine sm_gm hM_h rfl ?_
    refine sm_kO ?_; intro hb1
    refine sm_giI hM_h hb1 rfl ?_; intro v23 e_v23
    refine sm_le e_v23 e_l2 ?_ ?_
    · exact sw_X11_areKindsThere_68 nn nn e_l1 rfl hM_h
    · refine sm_gr hM_h (d := 56) rfl ?_
      refine sm_gm hM_h rfl ?_
      refine sm_gm hM_h rfl ?_
      refine sm_isK hM_h hb1 ?_
      refine sm_cP (sf_X3_fieldKind nn _ hb1 e_l2 hM_h) ?_; intro u28 y_u28 e_u28
      refine sm_gr hM_h (d := 131) rfl ?_
      refine sm_is hM_h rfl ?_
      refine sm_cI (sf_X7_readKind nn _ e_u28 rfl hM_h) ?_; intro u31 y_u31 M_u31 e_u31 hM_u31
      refine sm_eq e_l1 rfl ?_ ?_
      · exact sj_X11_areKindsThere_58 nn ih e_l2 hM_u31
      · refine sm_gr hM_u31 (d := 131) rfl ?_
        refine sm_ai hM_u31 rfl rfl ?_; intro v33 y_v33 e_v33
        refine sm_eq e_v33 rfl ?_ ?_
        · exact sj_X11_areKindsThere_58 nn ih e_l2 hM_u31
        · refine sm_oq_add e_l2 rfl ?_; intro v34 y_v34 e_v34
          exact ih rfl e_v34 hM_u31
set_option maxRecDepth 4000 in
theorem sf_X11_areKindsThere (nn : Nat) {h : ms_M} (hM_h : Rg_M h) : Sm_ RI_ (f_X11_areKindsThere nn 127 (H_M h)) (qf_X11_areKindsThere nn h) := by
  unfold f_X11_areKindsThere qf_X11_areKindsThere
  exact sw_X11_areKindsThere_4 nn nn rfl rfl hM_h
set_option maxRecDepth 4000 in
theorem sf_X7_numberOf (nn : Nat) {a1 : Int32} {y_a1 : Int} (e_a1 : a1.toInt = y_a1) {a2 : Int32} {y_a2 : Int} (e_a2 : a2.toInt = y_a2) {h : ms_M} (hM_h : Rg_M h) : Sm_ (RP_ h) (f_X7_numberOf nn 56 a1 a2 (H_M h)) (qf_X7_numberOf nn y_a1 y_a2 h) := by
  unfold f_X7_numberOf qf_X7_numberOf
  refine sm_oq_sub e_a1 rfl ?_; intro v1 y_v1 e_v1
  refine sm_oq_mul e_v1 rfl ?_; intro v2 y_v2 e_v2
  refine sm_oq_add e_v2 e_a2 ?_; intro v3 y_v3 e_v3
  exact sm_rP e_v3
set_option maxRecDepth 4000 in
theorem sw_X7_methodOf_31 (nn : Nat) {kk_6 : Nat → Nat → Int32 → Int32 → Int32 → mx_H → Option (Int32 × mx_H)} {qkk_6 : Nat → Int → Int → Int → ms_M → Option Int} (hk_kk_6 : ∀ (l2 : Nat) {l3 : Int32} {y_l3 : Int} (e_l3 : l3.toInt = y_l3) {l4 : Int32} {y_l4 : Int} (e_l4 : l4.toInt = y_l4) {l5 : Int32} {y_l5 : Int} (e_l5 : l5.toInt = y_l5) {h : ms_M} (hM_h : Rg_M h), Sm_ (RP_ h) (kk_6 56 l2 l3 l4 l5 (H_M h)) (qkk_6 l2 y_l3 y_l4 y_l5 h)) : ∀ (k : Nat) (l2 : Nat) {l3 : Int32} {y_l3 : Int} (e_l3 : l3.toInt = y_l3) {l4 : Int32} {y_l4 : Int} (e_l4 : l4.toInt = y_l4) {l5 : Int32} {y_l5 : Int} (e_l5 : l5.toInt = y_l5) {l6 : Option Nat} {y_l6 : Int} (e_l6 : l6 = rf_O y_l6) {l7 : Int32} {y_l7 : Int} (e_l7 : l7.toInt = y_l7) {h : ms_M} (hM_h : Rg_M h), Sm_ (RP_ h) (w_X7_methodOf_31 nn kk_6 k 56 l2 l3 l4 l5 l6 l7 (H_M h)) (qw_X7_methodOf_31 nn qkk_6 k l2 y_l3 y_l4 y_l5 y_l6 y_l7 h) := by
  intro k
  induction k with
  | zero => intros; exact sm_no
  | succ k ih =>
    intro l2 l3 y_l3 e_l3 l4 y_l4 e_l4 l5 y_l5 e_l5 l6 y_l6 e_l6 l7 y_l7 e_l7 h hM_h
    unfold w_X7_methodOf_31 qw_X7_methodOf_31
    subst e_l6
    refine sm_nn ?_
    refine sm_kO ?_; intro hb1
    refine sm_giI hM_h hb1 rfl ?_; intro v2 e_v2
    refine sm_le e_v2 e_l7 ?_ ?_
    · refine sm_gr hM_h (d := 57) rfl ?_
      refine sm_is hM_h rfl ?_
      refine sm_cP (sf_X4_above nn _ rfl e_l4 hM_h) ?_; intro u5 y_u5 e_u5
      refine sm_oq_add e_l5 rfl ?_; intro v6 y_v6 e_v6
      exact hk_kk_6 _ e_l3 e_u5 e_v6 hM_h
    · refine sm_isK hM_h hb1 ?_
      refine sm_cP (sf_X3_of nn _ hb1 e_l7 rfl hM_h) ?_; intro u8 y_u8 e_u8
      refine sm_isK hM_h hb1 ?_
      refine sm_cP (sf_X3_sameText nn _ hb1 e_u8 _ e_l3 hM_h) ?_; intro u10 y_u10 e_u10
      refine sm_eq e_u10 rfl ?_ ?_
      · refine sm_oq_add e_l7 rfl ?_; intro v11 y_v11 e_v11
        exact ih _ e_l3 e_l4 e_l5 (rf_s _) e_v11 hM_h
      · refine sm_is hM_h rfl ?_
        refine sm_cP (sf_X7_numberOf nn e_l4 e_l7 hM_h) ?_; intro u13 y_u13 e_u13
        exact sm_rP e_u13
set_option maxRecDepth 4000 in
theorem sw_X7_methodOf_6 (nn : Nat) : ∀ (k : Nat) (l2 : Nat) {l3 : Int32} {y_l3 : Int} (e_l3 : l3.toInt = y_l3) {l4 : Int32} {y_l4 : Int} (e_l4 : l4.toInt = y_l4) {l5 : Int32} {y_l5 : Int} (e_l5 : l5.toInt = y_l5) {h : ms_M} (hM_h : Rg_M h), Sm_ (RP_ h) (w_X7_methodOf_6 nn k 56 l2 l3 l4 l5 (H_M h)) (qw_X7_methodOf_6 nn k l2 y_l3 y_l4 y_l5 h) := by
  intro k
  induction k with
  | zero => intros; exact sm_no
  | succ k ih =>
    intro l2 l3 y_l3 e_l3 l4 y_l4 e_l4 l5 y_l5 e_l5 h hM_h
    unfold w_X7_methodOf_6 qw_X7_methodOf_6
    refine sm_le rfl e_l5 ?_ ?_
    · exact sm_rP rfl
    · refine sm_is hM_h rfl ?_
      refine sm_cQ (sf_X7_imageOf nn e_l4 hM_h) ?_; intro y_u17
      refine sm_oc ?_ ?_
      · exact sm_rP rfl
      · exact sw_X7_methodOf_31 nn ih nn _ e_l3 e_l4 e_l5 (rf_s _) rfl hM_h
set_option maxRecDepth 4000 in
theorem sf_X7_methodOf (nn : Nat) {a1 : Int32} {y_a1 : Int} (e_a1 : a1.toInt = y_a1) (a2 : Nat) {a3 : Int32} {y_a3 : Int} (e_a3 : a3.toInt = y_a3) {h : ms_M} (hM_h : Rg_M h) : Sm_ (RP_ h) (f_X7_methodOf nn 56 a1 a2 a3 (H_M h)) (qf_X7_methodOf nn y_a1 a2 y_a3 h) := by
  unfold f_X7_methodOf qf_X7_methodOf
  exact sw_X7_methodOf_6 nn nn _ e_a3 e_a1 rfl hM_h
set_option maxRecDepth 4000 in
theorem sj_X11_hasOtherAbove_124 (nn : Nat) {kk_4 : Nat → Int32 → Int32 → Int32 → mx_H → Option (Int32 × mx_H)} {qkk_4 : Int → Int → Int → ms_M → Option Int} (hk_kk_4 : ∀ {l1 : Int32} {y_l1 : Int} (e_l1 : l1.toInt = y_l1) {l2 : Int32} {y_l2 : Int} (e_l2 : l2.toInt = y_l2) {l3 : Int32} {y_l3 : Int} (e_l3 : l3.toInt = y_l3) {h : ms_M} (hM_h : Rg_M h), Sm_ (RP_ h) (kk_4 127 l1 l2 l3 (H_M h)) (qkk_4 y_l1 y_l2 y_l3 h)) {l1 : Int32} {y_l1 : Int} (e_l1 : l1.toInt = y_l1) {l3 : Int32} {y_l3 : Int} (e_l3 : l3.toInt = y_l3) {h : ms_M} (hM_h : Rg_M h) : Sm_ (RP_ h) (j_X11_hasOtherAbove_124 nn kk_4 127 l1 l3 (H_M h)) (qj_X11_hasOtherAbove_124 nn qkk_4 y_l1 y_l3 h) := by
  unfold j_X11_hasOtherAbove_124 qj_X11_hasOtherAbove_124
  refine sm_oq_add e_l3 rfl ?_; intro v1 y_v1 e_v1
  exact hk_kk_4 e_l1 rfl e_v1 hM_h
set_option maxRecDepth 4000 in
theorem sw_X11_hasOtherAbove_4 (nn : Nat) : ∀ (k : Nat) {l1 : Int32} {y_l1 : Int} (e_l1 : l1.toInt = y_l1) {l2 : Int32} {y_l2 : Int} (e_l2 : l2.toInt = y_l2) {l3 : Int32} {y_l3 : Int} (e_l3 : l3.toInt = y_l3) {h : ms_M} (hM_h : Rg_M h), Sm_ (RP_ h) (w_X11_hasOtherAbove_4 nn k 127 l1 l2 l3 (H_M h)) (qw_X11_hasOtherAbove_4 nn k y_l1 y_l2 y_l3 h) := by
  intro k
  induction k with
  | zero => intros; exact sm_no
  | succ k ih =>
    intro l1 y_l1 e_l1 l2 y_l2 e_l2 l3 y_l3 e_l3 h hM_h
    unfold w_X11_hasOtherAbove_4 qw_X11_hasOtherAbove_4
    refine sm_gm hM_h rfl ?_
    refine sm_kO ?_; intro hb1
    refine sm_giI hM_h hb1 rfl ?_; intro v3 e_v3
    refine sm_le e_v3 e_l3 ?_ ?_
    · refine sm_bq e_l2 ?_
      exact sm_rP e_l2
    · refine sm_ne e_l2 rfl ?_ ?_
      · refine sm_bq e_l2 ?_
        exact sm_rP e_l2
      · refine sm_gr hM_h (d := 56) rfl ?_
        refine sm_gr hM_h (d := 57) rfl ?_
        refine sm_is hM_h rfl ?_
        refine sm_cP (sf_X4_above nn _ rfl e_l1 hM_h) ?_; intro u9 y_u9 e_u9
        refine sm_gm hM_h rfl ?_
        refine sm_gm hM_h rfl ?_
        refine sm_isK hM_h hb1 ?_
        refine sm_cP (sf_X3_of nn _ hb1 e_l3 rfl hM_h) ?_; intro u13 y_u13 e_u13
        refine sm_is hM_h rfl ?_
        refine sm_cP (sf_X7_methodOf nn e_u9 _ e_u13 hM_h) ?_; intro u15 y_u15 e_u15
        refine sm_gr hM_h (d := 56) rfl ?_
        refine sm_is hM_h rfl ?_
        refine sm_cQ (sf_X7_imageOfMember nn e_u15 hM_h) ?_; intro y_u18
        refine sm_oc ?_ ?_
        · refine sm_oq_add e_l3 rfl ?_; intro v21 y_v21 e_v21
          exact ih e_l1 e_l2 e_v21 hM_h
        · refine sm_rem e_u15 ⟨rfl, by decide⟩ ?_; intro v22 y_v22 e_v22
          refine sm_gm hM_h rfl ?_
          refine sm_isK hM_h hb1 ?_
          refine sm_cP (sf_X3_of nn _ hb1 e_l3 rfl hM_h) ?_; intro u25 y_u25 e_u25
          refine sm_ne e_u25 rfl ?_ ?_
          · exact sj_X11_hasOtherAbove_124 nn ih e_l1 e_l3 hM_h
          · refine sm_isS hM_h ?_; intro hb2
            refine sm_cP (sf_X3_of nn _ hb2 e_v22 rfl hM_h) ?_; intro u27 y_u27 e_u27
            refine sm_ne e_u27 rfl ?_ ?_
            · exact sj_X11_hasOtherAbove_124 nn ih e_l1 e_l3 hM_h
            · refine sm_gm hM_h rfl ?_
              refine sm_gm hM_h rfl ?_
              refine sm_isK hM_h hb1 ?_
              refine sm_cP (sf_X3_of nn _ hb1 e_l3 rfl hM_h) ?_; intro u31 y_u31 e_u31
              refine sm_isK hM_h hb2 ?_
              refine sm_cP (sf_X3_of nn _ hb2 e_v22 rfl hM_h) ?_; intro u33 y_u33 e_u33
              refine sm_isK hM_h hb1 ?_
              refine sm_cP (sf_X3_sameText nn _ hb1 e_u31 _ e_u33 hM_h) ?_; intro u35 y_u35 e_u35
              refine sm_ne e_u35 rfl ?_ ?_
              · refine sm_oq_add e_l3 rfl ?_; intro v36 y_v36 e_v36
                exact ih e_l1 rfl e_v36 hM_h
              · exact sj_X11_hasOtherAbove_124 nn ih e_l1 e_l3 hM_h
set_option maxRecDepth 4000 in
theorem sf_X11_hasOtherAbove (nn : Nat) {a1 : Int32} {y_a1 : Int} (e_a1 : a1.toInt = y_a1) {h : ms_M} (hM_h : Rg_M h) : Sm_ (RP_ h) (f_X11_hasOtherAbove nn 127 a1 (H_M h)) (qf_X11_hasOtherAbove nn y_a1 h) := by
  unfold f_X11_hasOtherAbove qf_X11_hasOtherAbove
  exact sw_X11_hasOtherAbove_4 nn nn e_a1 rfl rfl hM_h
set_option maxRecDepth 4000 in
theorem sf_X3_fieldName (nn : Nat) (a0 : Nat) (hb_a0 : kc_O a0 = 3) {a1 : Int32} {y_a1 : Int} (e_a1 : a1.toInt = y_a1) {h : ms_M} (hM_h : Rg_M h) : Sm_ (RP_ h) (f_X3_fieldName nn a0 a1 (H_M h)) (qf_X3_fieldName nn a0 y_a1 h) := by
  unfold f_X3_fieldName qf_X3_fieldName
  refine sm_lt e_a1 rfl ?_ ?_
  · exact sm_rP rfl
  · refine sm_giI hM_h hb_a0 rfl ?_; intro v1 e_v1
    refine sm_le e_v1 e_a1 ?_ ?_
    · exact sm_rP rfl
    · refine sm_grI hM_h hb_a0 (off := 5) rfl ?_
      refine sm_oq_mul e_a1 rfl ?_; intro v3 y_v3 e_v3
      refine sm_aiI hM_h hb_a0 rfl e_v3 ?_; intro v4 y_v4 e_v4
      exact sm_rP e_v4
set_option maxRecDepth 4000 in
theorem sj_X11_hasTwins_130 (nn : Nat) {kk_76 : Nat → Int32 → Int32 → mx_H → Option (Int32 × mx_H)} {qkk_76 : Int → Int → ms_M → Option Int} (hk_kk_76 : ∀ {l1 : Int32} {y_l1 : Int} (e_l1 : l1.toInt = y_l1) {l2 : Int32} {y_l2 : Int} (e_l2 : l2.toInt = y_l2) {h : ms_M} (hM_h : Rg_M h), Sm_ (RP_ h) (kk_76 127 l1 l2 (H_M h)) (qkk_76 y_l1 y_l2 h)) {kk_89 : Nat → Int32 → Int32 → Int32 → mx_H → Option (Int32 × mx_H)} {qkk_89 : Int → Int → Int → ms_M → Option Int} (hk_kk_89 : ∀ {l1 : Int32} {y_l1 : Int} (e_l1 : l1.toInt = y_l1) {l2 : Int32} {y_l2 : Int} (e_l2 : l2.toInt = y_l2) {l3 : Int32} {y_l3 : Int} (e_l3 : l3.toInt = y_l3) {h : ms_M} (hM_h : Rg_M h), Sm_ (RP_ h) (kk_89 127 l1 l2 l3 (H_M h)) (qkk_89 y_l1 y_l2 y_l3 h)) {l2 : Int32} {y_l2 : Int} (e_l2 : l2.toInt = y_l2) {l3 : Int32} {y_l3 : Int} (e_l3 : l3.toInt = y_l3) {h : ms_M} (hM_h : Rg_M h) : Sm_ (RP_ h) (j_X11_hasTwins_130 nn kk_76 kk_89 127 l2 l3 (H_M h)) (qj_X11_hasTwins_130 nn qkk_76 qkk_89 y_l2 y_l3 h) := by
  unfold j_X11_hasTwins_130 qj_X11_hasTwins_130
  refine sm_oq_add e_l3 rfl ?_; intro v1 y_v1 e_v1
  exact hk_kk_89 rfl e_l2 e_v1 hM_h
set_option maxRecDepth 4000 in
theorem sw_X11_hasTwins_89 (nn : Nat) {kk_76 : Nat → Int32 → Int32 → mx_H → Option (Int32 × mx_H)} {qkk_76 : Int → Int → ms_M → Option Int} (hk_kk_76 : ∀ {l1 : Int32} {y_l1 : Int} (e_l1 : l1.toInt = y_l1) {l2 : Int32} {y_l2 : Int} (e_l2 : l2.toInt = y_l2) {h : ms_M} (hM_h : Rg_M h), Sm_ (RP_ h) (kk_76 127 l1 l2 (H_M h)) (qkk_76 y_l1 y_l2 h)) : ∀ (k : Nat) {l1 : Int32} {y_l1 : Int} (e_l1 : l1.toInt = y_l1) {l2 : Int32} {y_l2 : Int} (e_l2 : l2.toInt = y_l2) {l3 : Int32} {y_l3 : Int} (e_l3 : l3.toInt = y_l3) {h : ms_M} (hM_h : Rg_M h), Sm_ (RP_ h) (w_X11_hasTwins_89 nn kk_76 k 127 l1 l2 l3 (H_M h)) (qw_X11_hasTwins_89 nn qkk_76 k y_l1 y_l2 y_l3 h) := by
  intro k
  induction k with
  | zero => intros; exact sm_no
  | succ k ih =>
    intro l1 y_l1 e_l1 l2 y_l2 e_l2 l3 y_l3 e_l3 h hM_h
    unfold w_X11_hasTwins_89 qw_X11_hasTwins_89
    refine sm_le e_l2 e_l3 ?_ ?_
    · refine sm_oq_add e_l2 rfl ?_; intro v2 y_v2 e_v2
      exact hk_kk_76 e_l1 e_v2 hM_h
    · refine sm_ne e_l1 rfl ?_ ?_
      · exact sj_X11_hasTwins_130 nn hk_kk_76 ih e_l2 e_l3 hM_h
      · refine sm_gm hM_h rfl ?_
        refine sm_gm hM_h rfl ?_
        refine sm_isS hM_h ?_; intro hb1
        refine sm_cP (sf_X3_of nn _ hb1 e_l2 rfl hM_h) ?_; intro u6 y_u6 e_u6
        refine sm_gm hM_h rfl ?_
        refine sm_gm hM_h rfl ?_
        refine sm_isK hM_h hb1 ?_
        refine sm_cP (sf_X3_of nn _ hb1 e_l3 rfl hM_h) ?_; intro u10 y_u10 e_u10
        refine sm_isK hM_h hb1 ?_
        refine sm_cP (sf_X3_sameText nn _ hb1 e_u6 _ e_u10 hM_h) ?_; intro u12 y_u12 e_u12
        refine sm_eq e_u12 rfl ?_ ?_
        · refine sm_oq_add e_l3 rfl ?_; intro v13 y_v13 e_v13
          exact ih rfl e_l2 e_v13 hM_h
        · exact sj_X11_hasTwins_130 nn hk_kk_76 ih e_l2 e_l3 hM_h
set_option maxRecDepth 4000 in
theorem sw_X11_hasTwins_76 (nn : Nat) : ∀ (k : Nat) {l1 : Int32} {y_l1 : Int} (e_l1 : l1.toInt = y_l1) {l2 : Int32} {y_l2 : Int} (e_l2 : l2.toInt = y_l2) {h : ms_M} (hM_h : Rg_M h), Sm_ (RP_ h) (w_X11_hasTwins_76 nn k 127 l1 l2 (H_M h)) (qw_X11_hasTwins_76 nn k y_l1 y_l2 h) := by
  intro k
  induction k with
  | zero => intros; exact sm_no
  | succ k ih =>
    intro l1 y_l1 e_l1 l2 y_l2 e_l2 h hM_h
    unfold w_X11_hasTwins_76 qw_X11_hasTwins_76
    refine sm_gm hM_h rfl ?_
    refine sm_kO ?_; intro hb1
    refine sm_giI hM_h hb1 rfl ?_; intro v18 e_v18
    refine sm_le e_v18 e_l2 ?_ ?_
    · refine sm_bq e_l1 ?_
      exact sm_rP e_l1
    · exact sw_X11_hasTwins_89 nn ih nn e_l1 e_l2 rfl hM_h
set_option maxRecDepth 4000 in
theorem sj_X11_hasTwins_56 (nn : Nat) {kk_4 : Nat → Int32 → Int32 → mx_H → Option (Int32 × mx_H)} {qkk_4 : Int → Int → ms_M → Option Int} (hk_kk_4 : ∀ {l1 : Int32} {y_l1 : Int} (e_l1 : l1.toInt = y_l1) {l2 : Int32} {y_l2 : Int} (e_l2 : l2.toInt = y_l2) {h : ms_M} (hM_h : Rg_M h), Sm_ (RP_ h) (kk_4 127 l1 l2 (H_M h)) (qkk_4 y_l1 y_l2 h)) {kk_17 : Nat → Int32 → Int32 → Int32 → mx_H → Option (Int32 × mx_H)} {qkk_17 : Int → Int → Int → ms_M → Option Int} (hk_kk_17 : ∀ {l1 : Int32} {y_l1 : Int} (e_l1 : l1.toInt = y_l1) {l2 : Int32} {y_l2 : Int} (e_l2 : l2.toInt = y_l2) {l3 : Int32} {y_l3 : Int} (e_l3 : l3.toInt = y_l3) {h : ms_M} (hM_h : Rg_M h), Sm_ (RP_ h) (kk_17 127 l1 l2 l3 (H_M h)) (qkk_17 y_l1 y_l2 y_l3 h)) {l2 : Int32} {y_l2 : Int} (e_l2 : l2.toInt = y_l2) {l3 : Int32} {y_l3 : Int} (e_l3 : l3.toInt = y_l3) {h : ms_M} (hM_h : Rg_M h) : Sm_ (RP_ h) (j_X11_hasTwins_56 nn kk_4 kk_17 127 l2 l3 (H_M h)) (qj_X11_hasTwins_56 nn qkk_4 qkk_17 y_l2 y_l3 h) := by
  unfold j_X11_hasTwins_56 qj_X11_hasTwins_56
  refine sm_oq_add e_l3 rfl ?_; intro v21 y_v21 e_v21
  exact hk_kk_17 rfl e_l2 e_v21 hM_h
set_option maxRecDepth 4000 in
theorem sw_X11_hasTwins_17 (nn : Nat) {kk_4 : Nat → Int32 → Int32 → mx_H → Option (Int32 × mx_H)} {qkk_4 : Int → Int → ms_M → Option Int} (hk_kk_4 : ∀ {l1 : Int32} {y_l1 : Int} (e_l1 : l1.toInt = y_l1) {l2 : Int32} {y_l2 : Int} (e_l2 : l2.toInt = y_l2) {h : ms_M} (hM_h : Rg_M h), Sm_ (RP_ h) (kk_4 127 l1 l2 (H_M h)) (qkk_4 y_l1 y_l2 h)) : ∀ (k : Nat) {l1 : Int32} {y_l1 : Int} (e_l1 : l1.toInt = y_l1) {l2 : Int32} {y_l2 : Int} (e_l2 : l2.toInt = y_l2) {l3 : Int32} {y_l3 : Int} (e_l3 : l3.toInt = y_l3) {h : ms_M} (hM_h : Rg_M h), Sm_ (RP_ h) (w_X11_hasTwins_17 nn kk_4 k 127 l1 l2 l3 (H_M h)) (qw_X11_hasTwins_17 nn qkk_4 k y_l1 y_l2 y_l3 h) := by
  intro k
  induction k with
  | zero => intros; exact sm_no
  | succ k ih =>
    intro l1 y_l1 e_l1 l2 y_l2 e_l2 l3 y_l3 e_l3 h hM_h
    unfold w_X11_hasTwins_17 qw_X11_hasTwins_17
    refine sm_le e_l2 e_l3 ?_ ?_
    · refine sm_oq_add e_l2 rfl ?_; intro v22 y_v22 e_v22
      exact hk_kk_4 e_l1 e_v22 hM_h
    · refine sm_ne e_l1 rfl ?_ ?_
      · exact sj_X11_hasTwins_56 nn hk_kk_4 ih e_l2 e_l3 hM_h
      · refine sm_gm hM_h rfl ?_
        refine sm_gm hM_h rfl ?_
        refine sm_isS hM_h ?_; intro hb1
        refine sm_cP (sf_X3_fieldName nn _ hb1 e_l2 hM_h) ?_; intro u26 y_u26 e_u26
        refine sm_gm hM_h rfl ?_
        refine sm_gm hM_h rfl ?_
        refine sm_isK hM_h hb1 ?_
        refine sm_cP (sf_X3_fieldName nn _ hb1 e_l3 hM_h) ?_; intro u30 y_u30 e_u30
        refine sm_isK hM_h hb1 ?_
        refine sm_cP (sf_X3_sameText nn _ hb1 e_u26 _ e_u30 hM_h) ?_; intro u32 y_u32 e_u32
        refine sm_eq e_u32 rfl ?_ ?_
        · refine sm_oq_add e_l3 rfl ?_; intro v33 y_v33 e_v33
          exact ih rfl e_l2 e_v33 hM_h
        · exact sj_X11_hasTwins_56 nn hk_kk_4 ih e_l2 e_l3 hM_h
set_option maxRecDepth 4000 in
theorem sw_X11_hasTwins_4 (nn : Nat) : ∀ (k : Nat) {l1 : Int32} {y_l1 : Int} (e_l1 : l1.toInt = y_l1) {l2 : Int32} {y_l2 : Int} (e_l2 : l2.toInt = y_l2) {h : ms_M} (hM_h : Rg_M h), Sm_ (RP_ h) (w_X11_hasTwins_4 nn k 127 l1 l2 (H_M h)) (qw_X11_hasTwins_4 nn k y_l1 y_l2 h) := by
  intro k
  induction k with
  | zero => intros; exact sm_no
  | succ k ih =>
    intro l1 y_l1 e_l1 l2 y_l2 e_l2 h hM_h
    unfold w_X11_hasTwins_4 qw_X11_hasTwins_4
    refine sm_gm hM_h rfl ?_
    refine sm_kO ?_; intro hb1
    refine sm_giI hM_h hb1 rfl ?_; intro v38 e_v38
    refine sm_le e_v38 e_l2 ?_ ?_
    · exact sw_X11_hasTwins_76 nn nn e_l1 rfl hM_h
    · exact sw_X11_hasTwins_17 nn ih nn e_l1 e_l2 rfl hM_h
set_option maxRecDepth 4000 in
theorem sf_X11_hasTwins (nn : Nat) {h : ms_M} (hM_h : Rg_M h) : Sm_ (RP_ h) (f_X11_hasTwins nn 127 (H_M h)) (qf_X11_hasTwins nn h) := by
  unfold f_X11_hasTwins qf_X11_hasTwins
  exact sw_X11_hasTwins_4 nn nn rfl rfl hM_h
set_option maxRecDepth 4000 in
theorem sf_X11_takeImage (nn : Nat) {a1 : Int32} {y_a1 : Int} (e_a1 : a1.toInt = y_a1) {h : ms_M} (hM_h : Rg_M h) : Sm_ RV_ (f_X11_takeImage nn 127 a1 (H_M h)) (qf_X11_takeImage nn y_a1 h) := by
  unfold f_X11_takeImage qf_X11_takeImage
  refine sm_gr hM_h (d := 56) rfl ?_
  refine sm_is hM_h rfl ?_
  refine sm_cQ (sf_X7_imageOf nn e_a1 hM_h) ?_; intro y_u3
  refine sm_oc ?_ ?_
  · exact sm_rV hM_h
  · refine sm_pr hM_h rfl ?_; intro h6 hM_h6
    exact sm_rV hM_h6
set_option maxRecDepth 4000 in
theorem sf_X11_tellNumber (nn : Nat) {a1 : Int32} {y_a1 : Int} (e_a1 : a1.toInt = y_a1) {a2 : Int32} {y_a2 : Int} (e_a2 : a2.toInt = y_a2) {a3 : Int32} {y_a3 : Int} (e_a3 : a3.toInt = y_a3) {a4 : Int32} {y_a4 : Int} (e_a4 : a4.toInt = y_a4) {h : ms_M} (hM_h : Rg_M h) : Sm_ RI_ (f_X11_tellNumber nn 127 a1 a2 a3 a4 (H_M h)) (qf_X11_tellNumber nn y_a1 y_a2 y_a3 y_a4 h) := by
  unfold f_X11_tellNumber qf_X11_tellNumber
  refine sm_pv hM_h rfl e_a2 ?_; intro h1 hM_h1
  refine sm_pv hM_h1 rfl e_a3 ?_; intro h2 hM_h2
  refine sm_pv hM_h2 rfl e_a4 ?_; intro h3 hM_h3
  exact sm_rI e_a1 hM_h3
set_option maxRecDepth 4000 in
theorem sj_X4_endsAbove_33 (nn : Nat) {l2 : Int32} {y_l2 : Int} (e_l2 : l2.toInt = y_l2) {h : ms_M} (hM_h : Rg_M h) : Sm_ (RP_ h) (j_X4_endsAbove_33 nn l2 (H_M h)) (qj_X4_endsAbove_33 nn y_l2 h) := by
  unfold j_X4_endsAbove_33 qj_X4_endsAbove_33
  refine sm_ne e_l2 rfl ?_ ?_
  · exact sm_rP rfl
  · exact sm_rP rfl
set_option maxRecDepth 4000 in
theorem sw_X4_endsAbove_4 (nn : Nat) : ∀ (k : Nat) {l2 : Int32} {y_l2 : Int} (e_l2 : l2.toInt = y_l2) {l3 : Int32} {y_l3 : Int} (e_l3 : l3.toInt = y_l3) {h : ms_M} (hM_h : Rg_M h), Sm_ (RP_ h) (w_X4_endsAbove_4 nn k 57 l2 l3 (H_M h)) (qw_X4_endsAbove_4 nn k y_l2 y_l3 h) := by
  intro k
  induction k with
  | zero => intros; exact sm_no
  | succ k ih =>
    intro l2 y_l2 e_l2 l3 y_l3 e_l3 h hM_h
    unfold w_X4_endsAbove_4 qw_X4_endsAbove_4
    refine sm_lt rfl e_l3 ?_ ?_
    · exact sj_X4_endsAbove_33 nn e_l2 hM_h
    · refine sm_lt e_l2 rfl ?_ ?_
      · exact sj_X4_endsAbove_33 nn e_l2 hM_h
      · refine sm_le rfl e_l2 ?_ ?_
        · exact sj_X4_endsAbove_33 nn e_l2 hM_h
        · refine sm_gr hM_h (d := 58) rfl ?_
          refine sm_ai hM_h rfl e_l2 ?_; intro v3 y_v3 e_v3
          refine sm_oq_add e_l3 rfl ?_; intro v4 y_v4 e_v4
          exact ih e_v3 e_v4 hM_h
set_option maxRecDepth 4000 in
theorem sf_X4_endsAbove (nn : Nat) {a1 : Int32} {y_a1 : Int} (e_a1 : a1.toInt = y_a1) {h : ms_M} (hM_h : Rg_M h) : Sm_ (RP_ h) (f_X4_endsAbove nn 57 a1 (H_M h)) (qf_X4_endsAbove nn y_a1 h) := by
  unfold f_X4_endsAbove qf_X4_endsAbove
  exact sw_X4_endsAbove_4 nn nn e_a1 rfl hM_h
set_option maxRecDepth 4000 in
theorem sj_X11_proveHeads_81 (nn : Nat) {kk_3 : Nat → Int32 → mx_H → Option (Int32 × mx_H)} {qkk_3 : Int → ms_M → Option (Int × ms_M)} (hk_kk_3 : ∀ {l1 : Int32} {y_l1 : Int} (e_l1 : l1.toInt = y_l1) {h : ms_M} (hM_h : Rg_M h), Sm_ RI_ (kk_3 127 l1 (H_M h)) (qkk_3 y_l1 h)) {l1 : Int32} {y_l1 : Int} (e_l1 : l1.toInt = y_l1) {l2 : Int32} {y_l2 : Int} (e_l2 : l2.toInt = y_l2) {h : ms_M} (hM_h : Rg_M h) : Sm_ RI_ (j_X11_proveHeads_81 nn kk_3 127 l1 l2 (H_M h)) (qj_X11_proveHeads_81 nn qkk_3 y_l1 y_l2 h) := by
  unfold j_X11_proveHeads_81 qj_X11_proveHeads_81
  refine sm_eq e_l2 rfl ?_ ?_
  · refine sm_oq_add e_l1 rfl ?_; intro v1 y_v1 e_v1
    exact hk_kk_3 e_v1 hM_h
  · refine sm_is hM_h rfl ?_
    refine sm_cI (sf_X11_tellNumber nn e_l2 e_l1 rfl rfl hM_h) ?_; intro u3 y_u3 M_u3 e_u3 hM_u3
    exact sm_rI e_u3 hM_u3
set_option maxRecDepth 4000 in
theorem sj_X11_proveHeads_54 (nn : Nat) {kk_3 : Nat → Int32 → mx_H → Option (Int32 × mx_H)} {qkk_3 : Int → ms_M → Option (Int × ms_M)} (hk_kk_3 : ∀ {l1 : Int32} {y_l1 : Int} (e_l1 : l1.toInt = y_l1) {h : ms_M} (hM_h : Rg_M h), Sm_ RI_ (kk_3 127 l1 (H_M h)) (qkk_3 y_l1 h)) {l1 : Int32} {y_l1 : Int} (e_l1 : l1.toInt = y_l1) {h : ms_M} (hM_h : Rg_M h) : Sm_ RI_ (j_X11_proveHeads_54 nn kk_3 127 l1 (H_M h)) (qj_X11_proveHeads_54 nn qkk_3 y_l1 h) := by
  unfold j_X11_proveHeads_54 qj_X11_proveHeads_54
  exact sj_X11_proveHeads_81 nn hk_kk_3 e_l1 rfl hM_h
set_option maxRecDepth 4000 in
theorem sw_X11_proveHeads_3 (nn : Nat) : ∀ (k : Nat) {l1 : Int32} {y_l1 : Int} (e_l1 : l1.toInt = y_l1) {h : ms_M} (hM_h : Rg_M h), Sm_ RI_ (w_X11_proveHeads_3 nn k 127 l1 (H_M h)) (qw_X11_proveHeads_3 nn k y_l1 h) := by
  intro k
  induction k with
  | zero => intros; exact sm_no
  | succ k ih =>
    intro l1 y_l1 e_l1 h hM_h
    unfold w_X11_proveHeads_3 qw_X11_proveHeads_3
    refine sm_gr hM_h (d := 56) rfl ?_
    refine sm_gi hM_h rfl ?_; intro v6 e_v6
    refine sm_oq_add rfl e_v6 ?_; intro v7 y_v7 e_v7
    refine sm_le e_v7 e_l1 ?_ ?_
    · exact sm_rI rfl hM_h
    · refine sm_is hM_h rfl ?_
      refine sm_cV (sf_X11_takeImage nn e_l1 hM_h) ?_; intro u9 hM_u9
      refine sm_gr hM_u9 (d := 57) rfl ?_
      refine sm_is hM_u9 rfl ?_
      refine sm_cP (sf_X4_above nn _ rfl e_l1 hM_u9) ?_; intro u12 y_u12 e_u12
      refine sm_eq e_u12 rfl ?_ ?_
      · exact sj_X11_proveHeads_54 nn ih e_l1 hM_u9
      · refine sm_is hM_u9 rfl ?_
        refine sm_cI (sf_X11_areKindsThere nn hM_u9) ?_; intro u14 y_u14 M_u14 e_u14 hM_u14
        refine sm_eq e_u14 rfl ?_ ?_
        · exact sj_X11_proveHeads_54 nn ih e_l1 hM_u14
        · refine sm_gr hM_u14 (d := 57) rfl ?_
          refine sm_is hM_u14 rfl ?_
          refine sm_cP (sf_X4_endsAbove nn e_l1 hM_u14) ?_; intro u17 y_u17 e_u17
          refine sm_ne e_u17 rfl ?_ ?_
          · refine sm_is hM_u14 rfl ?_
            refine sm_cP (sf_X11_hasTwins nn hM_u14) ?_; intro u19 y_u19 e_u19
            refine sm_eq e_u19 rfl ?_ ?_
            · refine sm_is hM_u14 rfl ?_
              refine sm_cP (sf_X11_hasOtherAbove nn e_l1 hM_u14) ?_; intro u21 y_u21 e_u21
              refine sm_eq e_u21 rfl ?_ ?_
              · exact sj_X11_proveHeads_81 nn ih e_l1 rfl hM_u14
              · exact sj_X11_proveHeads_81 nn ih e_l1 rfl hM_u14
            · exact sj_X11_proveHeads_81 nn ih e_l1 rfl hM_u14
          · exact sj_X11_proveHeads_54 nn ih e_l1 hM_u14
set_option maxRecDepth 4000 in
theorem sf_X11_proveHeads (nn : Nat) {h : ms_M} (hM_h : Rg_M h) : Sm_ RI_ (f_X11_proveHeads nn 127 (H_M h)) (qf_X11_proveHeads nn h) := by
  unfold f_X11_proveHeads qf_X11_proveHeads
  exact sw_X11_proveHeads_3 nn nn rfl hM_h
set_option maxRecDepth 4000 in
theorem sf_X11_info (nn : Nat) {a1 : Int32} {y_a1 : Int} (e_a1 : a1.toInt = y_a1) {h : ms_M} (hM_h : Rg_M h) : Sm_ (RP_ h) (f_X11_info nn 127 a1 (H_M h)) (qf_X11_info nn y_a1 h) := by
  unfold f_X11_info qf_X11_info
  refine sm_gm hM_h rfl ?_
  refine sm_gi hM_h rfl ?_; intro v2 e_v2
  refine sm_isS hM_h ?_; intro hb1
  refine sm_cP (sf_X3_of nn _ hb1 e_v2 e_a1 hM_h) ?_; intro u4 y_u4 e_u4
  exact sm_rP e_u4
set_option maxRecDepth 4000 in
theorem sj_X11_beginState_83 (nn : Nat) {l2 : Int32} {y_l2 : Int} (e_l2 : l2.toInt = y_l2) {l3 : Int32} {y_l3 : Int} (e_l3 : l3.toInt = y_l3) {h : ms_M} (hM_h : Rg_M h) : Sm_ RV_ (j_X11_beginState_83 nn 127 l2 l3 (H_M h)) (qj_X11_beginState_83 nn y_l2 y_l3 h) := by
  unfold j_X11_beginState_83 qj_X11_beginState_83
  refine sm_gr hM_h (d := 131) rfl ?_
  refine sm_gr hM_h (d := 134) rfl ?_
  refine sm_cp hM_h rfl e_l3 e_l2 ?_; intro h3 hM_h3
  exact sm_rV hM_h3
set_option maxRecDepth 4000 in
theorem sf_X11_beginState (nn : Nat) {a1 : Int32} {y_a1 : Int} (e_a1 : a1.toInt = y_a1) {h : ms_M} (hM_h : Rg_M h) : Sm_ RV_ (f_X11_beginState nn 127 a1 (H_M h)) (qf_X11_beginState nn y_a1 h) := by
  unfold f_X11_beginState qf_X11_beginState
  refine sm_pv hM_h rfl rfl ?_; intro h4 hM_h4
  refine sm_gr hM_h4 (d := 134) rfl ?_
  refine sm_cV (sf_J7_fill_53178 nn _ rfl hM_h4) ?_; intro u6 hM_u6
  refine sm_is hM_u6 rfl ?_
  refine sm_cP (sf_X11_info nn rfl hM_u6) ?_; intro u8 y_u8 e_u8
  refine sm_gr hM_u6 (d := 135) rfl ?_
  refine sm_ln hM_u6 (z := 30) rfl ?_; intro v10 e_v10
  refine sm_ite e_v10 e_u8 e_v10 e_u8 ?_; intro v11 y_v11 e_v11
  refine sm_pv hM_u6 rfl e_v11 ?_; intro h12 hM_h12
  refine sm_gr hM_h12 (d := 56) rfl ?_
  refine sm_gm hM_h12 rfl ?_
  refine sm_is hM_h12 rfl ?_
  refine sm_cP (sf_X11_info nn rfl hM_h12) ?_; intro u16 y_u16 e_u16
  refine sm_gr hM_h12 (d := 131) rfl ?_
  refine sm_is hM_h12 rfl ?_
  refine sm_cI (sf_X7_readKind nn _ e_u16 rfl hM_h12) ?_; intro u19 y_u19 M_u19 e_u19 hM_u19
  refine sm_gr hM_u19 (d := 131) rfl ?_
  refine sm_ai hM_u19 rfl rfl ?_; intro v21 y_v21 e_v21
  refine sm_pv hM_u19 rfl e_v21 ?_; intro h22 hM_h22
  refine sm_is hM_h22 rfl ?_
  refine sm_cP (sf_X11_info nn rfl hM_h22) ?_; intro u24 y_u24 e_u24
  refine sm_ne e_u24 rfl ?_ ?_
  · exact sj_X11_beginState_83 nn e_u19 rfl hM_h22
  · refine sm_gr hM_h22 (d := 134) rfl ?_
    refine sm_si hM_h22 rfl rfl e_a1 ?_; intro h26 hM_h26
    exact sj_X11_beginState_83 nn e_u19 rfl hM_h26
set_option maxRecDepth 4000 in
theorem sj_X11_areThere_41 (nn : Nat) {kk_5 : Nat → Int32 → Int32 → Int32 → Int32 → mx_H → Option (Int32 × mx_H)} {qkk_5 : Int → Int → Int → Int → ms_M → Option Int} (hk_kk_5 : ∀ {l1 : Int32} {y_l1 : Int} (e_l1 : l1.toInt = y_l1) {l2 : Int32} {y_l2 : Int} (e_l2 : l2.toInt = y_l2) {l3 : Int32} {y_l3 : Int} (e_l3 : l3.toInt = y_l3) {l4 : Int32} {y_l4 : Int} (e_l4 : l4.toInt = y_l4) {h : ms_M} (hM_h : Rg_M h), Sm_ (RP_ h) (kk_5 127 l1 l2 l3 l4 (H_M h)) (qkk_5 y_l1 y_l2 y_l3 y_l4 h)) {l1 : Int32} {y_l1 : Int} (e_l1 : l1.toInt = y_l1) {l2 : Int32} {y_l2 : Int} (e_l2 : l2.toInt = y_l2) {l4 : Int32} {y_l4 : Int} (e_l4 : l4.toInt = y_l4) {h : ms_M} (hM_h : Rg_M h) : Sm_ (RP_ h) (j_X11_areThere_41 nn kk_5 127 l1 l2 l4 (H_M h)) (qj_X11_areThere_41 nn qkk_5 y_l1 y_l2 y_l4 h) := by
  unfold j_X11_areThere_41 qj_X11_areThere_41
  refine sm_oq_add e_l4 rfl ?_; intro v1 y_v1 e_v1
  exact hk_kk_5 e_l1 e_l2 rfl e_v1 hM_h
set_option maxRecDepth 4000 in
theorem sw_X11_areThere_5 (nn : Nat) : ∀ (k : Nat) {l1 : Int32} {y_l1 : Int} (e_l1 : l1.toInt = y_l1) {l2 : Int32} {y_l2 : Int} (e_l2 : l2.toInt = y_l2) {l3 : Int32} {y_l3 : Int} (e_l3 : l3.toInt = y_l3) {l4 : Int32} {y_l4 : Int} (e_l4 : l4.toInt = y_l4) {h : ms_M} (hM_h : Rg_M h), Sm_ (RP_ h) (w_X11_areThere_5 nn k 127 l1 l2 l3 l4 (H_M h)) (qw_X11_areThere_5 nn k y_l1 y_l2 y_l3 y_l4 h) := by
  intro k
  induction k with
  | zero => intros; exact sm_no
  | succ k ih =>
    intro l1 y_l1 e_l1 l2 y_l2 e_l2 l3 y_l3 e_l3 l4 y_l4 e_l4 h hM_h
    unfold w_X11_areThere_5 qw_X11_areThere_5
    refine sm_oq_add e_l1 e_l2 ?_; intro v2 y_v2 e_v2
    refine sm_le e_v2 e_l4 ?_ ?_
    · refine sm_bq e_l3 ?_
      exact sm_rP e_l3
    · refine sm_oq_add e_l1 rfl ?_; intro v4 y_v4 e_v4
      refine sm_le e_v4 e_l4 ?_ ?_
      · refine sm_bq e_l3 ?_
        exact sm_rP e_l3
      · refine sm_eq e_l3 rfl ?_ ?_
        · exact sj_X11_areThere_41 nn ih e_l1 e_l2 e_l4 hM_h
        · refine sm_gr hM_h (d := 133) rfl ?_
          refine sm_ai hM_h rfl e_l4 ?_; intro v7 y_v7 e_v7
          refine sm_eq e_v7 rfl ?_ ?_
          · exact sj_X11_areThere_41 nn ih e_l1 e_l2 e_l4 hM_h
          · refine sm_oq_add e_l4 rfl ?_; intro v8 y_v8 e_v8
            exact ih e_l1 e_l2 rfl e_v8 hM_h
set_option maxRecDepth 4000 in
theorem sf_X11_areThere (nn : Nat) {a1 : Int32} {y_a1 : Int} (e_a1 : a1.toInt = y_a1) {a2 : Int32} {y_a2 : Int} (e_a2 : a2.toInt = y_a2) {h : ms_M} (hM_h : Rg_M h) : Sm_ (RP_ h) (f_X11_areThere nn 127 a1 a2 (H_M h)) (qf_X11_areThere nn y_a1 y_a2 h) := by
  unfold f_X11_areThere qf_X11_areThere
  exact sw_X11_areThere_5 nn nn e_a1 e_a2 rfl e_a1 hM_h
set_option maxRecDepth 4000 in
theorem sf_X11_at (nn : Nat) {a1 : Int32} {y_a1 : Int} (e_a1 : a1.toInt = y_a1) {a2 : Int32} {y_a2 : Int} (e_a2 : a2.toInt = y_a2) {h : ms_M} (hM_h : Rg_M h) : Sm_ RI_ (f_X11_at nn 127 a1 a2 (H_M h)) (qf_X11_at nn y_a1 y_a2 h) := by
  unfold f_X11_at qf_X11_at
  refine sm_pv hM_h rfl e_a2 ?_; intro h1 hM_h1
  exact sm_rI e_a1 hM_h1
set_option maxRecDepth 4000 in
theorem sf_X11_begins (nn : Nat) {a1 : Int32} {y_a1 : Int} (e_a1 : a1.toInt = y_a1) {h : ms_M} (hM_h : Rg_M h) : Sm_ (RP_ h) (f_X11_begins nn 127 a1 (H_M h)) (qf_X11_begins nn y_a1 h) := by
  unfold f_X11_begins qf_X11_begins
  refine sm_lt e_a1 rfl ?_ ?_
  · exact sm_rP rfl
  · refine sm_gi hM_h rfl ?_; intro v1 e_v1
    refine sm_le e_v1 e_a1 ?_ ?_
    · exact sm_rP rfl
    · refine sm_gr hM_h (d := 132) rfl ?_
      refine sm_ai hM_h rfl e_a1 ?_; intro v3 y_v3 e_v3
      refine sm_eq e_v3 rfl ?_ ?_
      · exact sm_rP rfl
      · exact sm_rP rfl
set_option maxRecDepth 4000 in
theorem sj_X11_proveFrames_116 (nn : Nat) {kk_4 : Nat → Int32 → Int32 → mx_H → Option (Int32 × mx_H)} {qkk_4 : Int → Int → ms_M → Option (Int × ms_M)} (hk_kk_4 : ∀ {l1 : Int32} {y_l1 : Int} (e_l1 : l1.toInt = y_l1) {l2 : Int32} {y_l2 : Int} (e_l2 : l2.toInt = y_l2) {h : ms_M} (hM_h : Rg_M h), Sm_ RI_ (kk_4 127 l1 l2 (H_M h)) (qkk_4 y_l1 y_l2 h)) {l2 : Int32} {y_l2 : Int} (e_l2 : l2.toInt = y_l2) {l3 : Int32} {y_l3 : Int} (e_l3 : l3.toInt = y_l3) {s0 : Int32} {y_s0 : Int} (e_s0 : s0.toInt = y_s0) {h : ms_M} (hM_h : Rg_M h) : Sm_ RI_ (j_X11_proveFrames_116 nn kk_4 127 l2 l3 s0 (H_M h)) (qj_X11_proveFrames_116 nn qkk_4 y_l2 y_l3 y_s0 h) := by
  unfold j_X11_proveFrames_116 qj_X11_proveFrames_116
  refine sm_ne e_s0 rfl ?_ ?_
  · refine sm_gr hM_h (d := 133) rfl ?_
    refine sm_ai hM_h rfl e_l3 ?_; intro v2 y_v2 e_v2
    refine sm_oq_add e_l2 rfl ?_; intro v3 y_v3 e_v3
    exact hk_kk_4 e_v2 e_v3 hM_h
  · refine sm_is hM_h rfl ?_
    refine sm_cI (sf_X11_at nn rfl e_l2 hM_h) ?_; intro u5 y_u5 M_u5 e_u5 hM_u5
    exact sm_rI e_u5 hM_u5
set_option maxRecDepth 4000 in
theorem sj_X11_proveFrames_115 (nn : Nat) {kk_4 : Nat → Int32 → Int32 → mx_H → Option (Int32 × mx_H)} {qkk_4 : Int → Int → ms_M → Option (Int × ms_M)} (hk_kk_4 : ∀ {l1 : Int32} {y_l1 : Int} (e_l1 : l1.toInt = y_l1) {l2 : Int32} {y_l2 : Int} (e_l2 : l2.toInt = y_l2) {h : ms_M} (hM_h : Rg_M h), Sm_ RI_ (kk_4 127 l1 l2 (H_M h)) (qkk_4 y_l1 y_l2 h)) {l2 : Int32} {y_l2 : Int} (e_l2 : l2.toInt = y_l2) {l3 : Int32} {y_l3 : Int} (e_l3 : l3.toInt = y_l3) {h : ms_M} (hM_h : Rg_M h) : Sm_ RI_ (j_X11_proveFrames_115 nn kk_4 127 l2 l3 (H_M h)) (qj_X11_proveFrames_115 nn qkk_4 y_l2 y_l3 h) := by
  unfold j_X11_proveFrames_115 qj_X11_proveFrames_115
  exact sj_X11_proveFrames_116 nn hk_kk_4 e_l2 e_l3 rfl hM_h
set_option maxRecDepth 4000 in
theorem sw_X11_proveFrames_4 (nn : Nat) : ∀ (k : Nat) {l1 : Int32} {y_l1 : Int} (e_l1 : l1.toInt = y_l1) {l2 : Int32} {y_l2 : Int} (e_l2 : l2.toInt = y_l2) {h : ms_M} (hM_h : Rg_M h), Sm_ RI_ (w_X11_proveFrames_4 nn k 127 l1 l2 (H_M h)) (qw_X11_proveFrames_4 nn k y_l1 y_l2 h) := by
  intro k
  induction k with
  | zero => intros; exact sm_no
  | succ k ih =>
    intro l1 y_l1 e_l1 l2 y_l2 e_l2 h hM_h
    unfold w_X11_proveFrames_4 qw_X11_proveFrames_4
    refine sm_is hM_h rfl ?_
    refine sm_cP (sf_X11_info nn rfl hM_h) ?_; intro u8 y_u8 e_u8
    refine sm_le e_u8 e_l2 ?_ ?_
    · exact sm_rI rfl hM_h
    · refine sm_oq_mul e_l2 rfl ?_; intro v9 y_v9 e_v9
      refine sm_gr hM_h (d := 133) rfl ?_
      refine sm_ai hM_h rfl e_v9 ?_; intro v11 y_v11 e_v11
      refine sm_is hM_h rfl ?_
      refine sm_cP (sf_X11_begins nn e_v11 hM_h) ?_; intro u13 y_u13 e_u13
      refine sm_eq e_u13 rfl ?_ ?_
      · exact sj_X11_proveFrames_115 nn ih e_l2 e_v9 hM_h
      · refine sm_gr hM_h (d := 133) rfl ?_
        refine sm_ai hM_h rfl e_v9 ?_; intro v15 y_v15 e_v15
        refine sm_le e_v15 e_l1 ?_ ?_
        · exact sj_X11_proveFrames_115 nn ih e_l2 e_v9 hM_h
        · refine sm_gr hM_h (d := 133) rfl ?_
          refine sm_oq_add e_v9 rfl ?_; intro v17 y_v17 e_v17
          refine sm_ai hM_h rfl e_v17 ?_; intro v18 y_v18 e_v18
          refine sm_is hM_h rfl ?_
          refine sm_cP (sf_X11_info nn rfl hM_h) ?_; intro u20 y_u20 e_u20
          refine sm_lt e_u20 e_v18 ?_ ?_
          · exact sj_X11_proveFrames_115 nn ih e_l2 e_v9 hM_h
          · refine sm_gr hM_h (d := 133) rfl ?_
            refine sm_oq_add e_v9 rfl ?_; intro v22 y_v22 e_v22
            refine sm_ai hM_h rfl e_v22 ?_; intro v23 y_v23 e_v23
            refine sm_is hM_h rfl ?_
            refine sm_cP (sf_X11_info nn rfl hM_h) ?_; intro u25 y_u25 e_u25
            refine sm_lt e_u25 e_v23 ?_ ?_
            · exact sj_X11_proveFrames_115 nn ih e_l2 e_v9 hM_h
            · refine sm_oq_add e_v9 rfl ?_; intro v26 y_v26 e_v26
              refine sm_gr hM_h (d := 133) rfl ?_
              refine sm_oq_add e_v9 rfl ?_; intro v28 y_v28 e_v28
              refine sm_ai hM_h rfl e_v28 ?_; intro v29 y_v29 e_v29
              refine sm_is hM_h rfl ?_
              refine sm_cP (sf_X11_areThere nn e_v26 e_v29 hM_h) ?_; intro u31 y_u31 e_u31
              refine sm_eq e_u31 rfl ?_ ?_
              · exact sj_X11_proveFrames_115 nn ih e_l2 e_v9 hM_h
              · refine sm_oq_add e_v9 rfl ?_; intro v32 y_v32 e_v32
                refine sm_gr hM_h (d := 133) rfl ?_
                refine sm_oq_add e_v9 rfl ?_; intro v34 y_v34 e_v34
                refine sm_ai hM_h rfl e_v34 ?_; intro v35 y_v35 e_v35
                refine sm_is hM_h rfl ?_
                refine sm_cP (sf_X11_areThere nn e_v32 e_v35 hM_h) ?_; intro u37 y_u37 e_u37
                refine sm_eq e_u37 rfl ?_ ?_
                · exact sj_X11_proveFrames_115 nn ih e_l2 e_v9 hM_h
                · exact sj_X11_proveFrames_116 nn ih e_l2 e_v9 rfl hM_h
