set_option maxRecDepth 4000 in
theorem sf_X10_readBehindPoint (nn : Nat) {a1 : Int32} {y_a1 : Int} (e_a1 : a1.toInt = y_a1) {a2 : Int32} {y_a2 : Int} (e_a2 : a2.toInt = y_a2) {h : ms_M} (hM_h : Rg_M h) : Sm_ RV_ (f_X10_readBehindPoint nn 49 a1 a2 (H_M h)) (qf_X10_readBehindPoint nn y_a1 y_a2 h) := (sg_X10_readValue nn 420).2.2.2.2.2.2.2.1 e_a1 e_a2 hM_h
set_option maxRecDepth 4000 in
theorem sf_X10_readCall (nn : Nat) {a1 : Int32} {y_a1 : Int} (e_a1 : a1.toInt = y_a1) {a2 : Int32} {y_a2 : Int} (e_a2 : a2.toInt = y_a2) {a3 : Int32} {y_a3 : Int} (e_a3 : a3.toInt = y_a3) {a4 : Int32} {y_a4 : Int} (e_a4 : a4.toInt = y_a4) {a5 : Int32} {y_a5 : Int} (e_a5 : a5.toInt = y_a5) {a6 : Int32} {y_a6 : Int} (e_a6 : a6.toInt = y_a6) {h : ms_M} (hM_h : Rg_M h) : Sm_ RV_ (f_X10_readCall nn 49 a1 a2 a3 a4 a5 a6 (H_M h)) (qf_X10_readCall nn y_a1 y_a2 y_a3 y_a4 y_a5 y_a6 h) := (sg_X10_readValue nn 420).2.2.2.2.2.2.2.2 e_a1 e_a2 e_a3 e_a4 e_a5 e_a6 hM_h
set_option maxRecDepth 4000 in
theorem sj_X10_readCondition_39 (nn : Nat) {l2 : Int32} {y_l2 : Int} (e_l2 : l2.toInt = y_l2) {s0 : Int32} {y_s0 : Int} (e_s0 : s0.toInt = y_s0) {h : ms_M} (hM_h : Rg_M h) : Sm_ RI_ (j_X10_readCondition_39 nn 49 l2 s0 49 (H_M h)) (qj_X10_readCondition_39 nn y_l2 y_s0 h) := by
  unfold j_X10_readCondition_39 qj_X10_readCondition_39
  refine sm_is hM_h rfl ?_
  refine sm_cV (sf_X10_wantType nn e_s0 e_l2 hM_h) ?_; intro u2 hM_u2
  refine sm_gr hM_u2 (d := 2) rfl ?_
  refine sm_gi hM_u2 rfl ?_; intro v4 e_v4
  refine sm_oq_add e_v4 rfl ?_; intro v5 y_v5 e_v5
  refine sm_pv hM_u2 rfl e_v5 ?_; intro h6 hM_h6
  refine sm_gr hM_h6 (d := 34) rfl ?_
  refine sm_is hM_h6 rfl ?_
  refine sm_cI (sf_X1_jump nn rfl rfl hM_h6) ?_; intro u9 y_u9 M_u9 e_u9 hM_u9
  exact sm_rI e_u9 hM_u9
set_option maxRecDepth 4000 in
theorem sf_X10_readCondition (nn : Nat) {a1 : Int32} {y_a1 : Int} (e_a1 : a1.toInt = y_a1) {h : ms_M} (hM_h : Rg_M h) : Sm_ RI_ (f_X10_readCondition nn 49 a1 (H_M h)) (qf_X10_readCondition nn y_a1 h) := by
  unfold f_X10_readCondition qf_X10_readCondition
  refine sm_gr hM_h (d := 2) rfl ?_
  refine sm_gi hM_h rfl ?_; intro v11 e_v11
  refine sm_oq_add e_v11 rfl ?_; intro v12 y_v12 e_v12
  refine sm_gr hM_h (d := 2) rfl ?_
  refine sm_pv hM_h rfl e_v12 ?_; intro h14 hM_h14
  refine sm_is hM_h14 rfl ?_
  refine sm_cV (sf_X10_readValue nn e_a1 hM_h14) ?_; intro u16 hM_u16
  refine sm_gi hM_u16 rfl ?_; intro v17 e_v17
  refine sm_ne e_v17 rfl ?_ ?_
  · exact sj_X10_readCondition_39 nn e_v12 rfl hM_u16
  · exact sj_X10_readCondition_39 nn e_v12 rfl hM_u16
set_option maxRecDepth 4000 in
theorem sf_X1_jumpBack (nn : Nat) {a1 : Int32} {y_a1 : Int} (e_a1 : a1.toInt = y_a1) {a2 : Int32} {y_a2 : Int} (e_a2 : a2.toInt = y_a2) {h : ms_M} (hM_h : Rg_M h) : Sm_ RV_ (f_X1_jumpBack nn 34 a1 a2 (H_M h)) (qf_X1_jumpBack nn y_a1 y_a2 h) := by
  unfold f_X1_jumpBack qf_X1_jumpBack
  refine sm_is hM_h rfl ?_
  refine sm_cI (sf_X1_jump nn rfl rfl hM_h) ?_; intro u2 y_u2 M_u2 e_u2 hM_u2
  refine sm_is hM_u2 rfl ?_
  refine sm_cV (sf_X1_aimAt nn e_u2 e_a1 hM_u2) ?_; intro u4 hM_u4
  refine sm_is hM_u4 rfl ?_
  refine sm_cI (sf_X1_slotOfFrame nn e_a1 hM_u4) ?_; intro u6 y_u6 M_u6 e_u6 hM_u6
  refine sm_is hM_u6 rfl ?_
  refine sm_cV (sf_X1_fillFrame nn e_u6 e_a2 rfl hM_u6) ?_; intro u8 hM_u8
  exact sm_rV hM_u8
set_option maxRecDepth 4000 in
theorem sj_X0_readLeave_99 (nn : Nat) {h : ms_M} (hM_h : Rg_M h) : Sm_ RI_ (j_X0_readLeave_99 nn 33 (H_M h)) (qj_X0_readLeave_99 nn h) := by
  unfold j_X0_readLeave_99 qj_X0_readLeave_99
  refine sm_gr hM_h (d := 2) rfl ?_
  refine sm_gi hM_h rfl ?_; intro v2 e_v2
  refine sm_oq_add e_v2 rfl ?_; intro v3 y_v3 e_v3
  refine sm_pv hM_h rfl e_v3 ?_; intro h4 hM_h4
  exact sm_rI rfl hM_h4
set_option maxRecDepth 4000 in
theorem sf_X0_readLeave (nn : Nat) {h : ms_M} (hM_h : Rg_M h) : Sm_ RI_ (f_X0_readLeave nn 33 (H_M h)) (qf_X0_readLeave nn h) := by
  unfold f_X0_readLeave qf_X0_readLeave
  refine sm_gi hM_h rfl ?_; intro v5 e_v5
  refine sm_ne e_v5 rfl ?_ ?_
  · refine sm_gr hM_h (d := 2) rfl ?_
    refine sm_is hM_h rfl ?_
    refine sm_cP (sf_X9_kind nn hM_h) ?_; intro u8 y_u8 e_u8
    refine sm_ne e_u8 rfl ?_ ?_
    · refine sm_gi hM_h rfl ?_; intro v9 e_v9
      refine sm_gr hM_h (d := 44) rfl ?_
      refine sm_ln hM_h (z := 500) rfl ?_; intro v11 e_v11
      refine sm_le e_v11 e_v9 ?_ ?_
      · exact sj_X0_readLeave_99 nn hM_h
      · refine sm_gr hM_h (d := 44) rfl ?_
        refine sm_gi hM_h rfl ?_; intro v13 e_v13
        refine sm_gr hM_h (d := 34) rfl ?_
        refine sm_is hM_h rfl ?_
        refine sm_cI (sf_X1_jump nn rfl rfl hM_h) ?_; intro u16 y_u16 M_u16 e_u16 hM_u16
        refine sm_si hM_u16 rfl e_v13 e_u16 ?_; intro h17 hM_h17
        refine sm_gi hM_h17 rfl ?_; intro v18 e_v18
        refine sm_oq_add e_v18 rfl ?_; intro v19 y_v19 e_v19
        refine sm_pv hM_h17 rfl e_v19 ?_; intro h20 hM_h20
        exact sj_X0_readLeave_99 nn hM_h20
    · refine sm_gr hM_h (d := 34) rfl ?_
      refine sm_gi hM_h rfl ?_; intro v23 e_v23
      refine sm_gi hM_h rfl ?_; intro v24 e_v24
      refine sm_is hM_h rfl ?_
      refine sm_cV (sf_X1_jumpBack nn e_v23 e_v24 hM_h) ?_; intro u26 hM_u26
      exact sj_X0_readLeave_99 nn hM_u26
  · refine sm_gr hM_h (d := 2) rfl ?_
    refine sm_gr hM_h (d := 2) rfl ?_
    refine sm_gi hM_h rfl ?_; intro v30 e_v30
    refine sm_is hM_h rfl ?_
    refine sm_cV (sf_X9_tell nn rfl e_v30 hM_h) ?_; intro u32 hM_u32
    exact sj_X0_readLeave_99 nn hM_u32
set_option maxRecDepth 4000 in
theorem sj_X0_closeAlone_21 (nn : Nat) {h : ms_M} (hM_h : Rg_M h) : Sm_ RV_ (j_X0_closeAlone_21 nn 33 (H_M h)) (qj_X0_closeAlone_21 nn h) := by
  unfold j_X0_closeAlone_21 qj_X0_closeAlone_21
  refine sm_gr hM_h (d := 49) rfl ?_
  refine sm_gi hM_h rfl ?_; intro v2 e_v2
  refine sm_eq e_v2 rfl ?_ ?_
  · exact sm_rV hM_h
  · refine sm_gr hM_h (d := 34) rfl ?_
    refine sm_is hM_h rfl ?_
    refine sm_cV (sf_X1_op nn rfl hM_h) ?_; intro u5 hM_u5
    refine sm_gr hM_u5 (d := 34) rfl ?_
    refine sm_is hM_u5 rfl ?_
    refine sm_cV (sf_X1_pop nn rfl hM_u5) ?_; intro u8 hM_u8
    exact sm_rV hM_u8
set_option maxRecDepth 4000 in
theorem sf_X0_closeAlone (nn : Nat) {a1 : Int32} {y_a1 : Int} (e_a1 : a1.toInt = y_a1) {h : ms_M} (hM_h : Rg_M h) : Sm_ RV_ (f_X0_closeAlone nn 33 a1 (H_M h)) (qf_X0_closeAlone nn y_a1 h) := by
  unfold f_X0_closeAlone qf_X0_closeAlone
  refine sm_gr hM_h (d := 49) rfl ?_
  refine sm_gi hM_h rfl ?_; intro v11 e_v11
  refine sm_eq e_v11 rfl ?_ ?_
  · exact sj_X0_closeAlone_21 nn hM_h
  · refine sm_gr hM_h (d := 2) rfl ?_
    refine sm_is hM_h rfl ?_
    refine sm_cV (sf_X9_tell nn rfl e_a1 hM_h) ?_; intro u14 hM_u14
    exact sj_X0_closeAlone_21 nn hM_u14
set_option maxRecDepth 4000 in
theorem sj_X1_store_15 (nn : Nat) {l1 : Int32} {y_l1 : Int} (e_l1 : l1.toInt = y_l1) {s0 : Int32} {y_s0 : Int} (e_s0 : s0.toInt = y_s0) {h : ms_M} (hM_h : Rg_M h) : Sm_ RV_ (j_X1_store_15 nn 34 l1 s0 34 (H_M h)) (qj_X1_store_15 nn y_l1 y_s0 h) := by
  unfold j_X1_store_15 qj_X1_store_15
  refine sm_is hM_h rfl ?_
  refine sm_cV (sf_X1_op_ nn e_s0 e_l1 hM_h) ?_; intro u2 hM_u2
  refine sm_is hM_u2 rfl ?_
  refine sm_cV (sf_X1_pop nn rfl hM_u2) ?_; intro u4 hM_u4
  exact sm_rV hM_u4
set_option maxRecDepth 4000 in
theorem sf_X1_store (nn : Nat) {a1 : Int32} {y_a1 : Int} (e_a1 : a1.toInt = y_a1) {a2 : Int32} {y_a2 : Int} (e_a2 : a2.toInt = y_a2) {h : ms_M} (hM_h : Rg_M h) : Sm_ RV_ (f_X1_store nn 34 a1 a2 (H_M h)) (qf_X1_store nn y_a1 y_a2 h) := by
  unfold f_X1_store qf_X1_store
  refine sm_cP (sf_X4_isNumber nn e_a2 hM_h) ?_; intro u5 y_u5 e_u5
  refine sm_eq e_u5 rfl ?_ ?_
  · exact sj_X1_store_15 nn e_a1 rfl hM_h
  · exact sj_X1_store_15 nn e_a1 rfl hM_h
set_option maxRecDepth 4000 in
theorem sj_X0_closeGiving_90 (nn : Nat) {s0 : Int32} {y_s0 : Int} (e_s0 : s0.toInt = y_s0) {h : ms_M} (hM_h : Rg_M h) : Sm_ RV_ (j_X0_closeGiving_90 nn 33 s0 34 (H_M h)) (qj_X0_closeGiving_90 nn y_s0 h) := by
  unfold j_X0_closeGiving_90 qj_X0_closeGiving_90
  refine sm_is hM_h rfl ?_
  refine sm_cV (sf_X1_op nn e_s0 hM_h) ?_; intro u2 hM_u2
  refine sm_gr hM_u2 (d := 34) rfl ?_
  refine sm_is hM_u2 rfl ?_
  refine sm_cV (sf_X1_pop nn rfl hM_u2) ?_; intro u5 hM_u5
  exact sm_rV hM_u5
set_option maxRecDepth 4000 in
theorem sf_X0_closeGiving (nn : Nat) {a1 : Int32} {y_a1 : Int} (e_a1 : a1.toInt = y_a1) {a2 : Int32} {y_a2 : Int} (e_a2 : a2.toInt = y_a2) {a3 : Int32} {y_a3 : Int} (e_a3 : a3.toInt = y_a3) {a4 : Int32} {y_a4 : Int} (e_a4 : a4.toInt = y_a4) {h : ms_M} (hM_h : Rg_M h) : Sm_ RV_ (f_X0_closeGiving nn 33 a1 a2 a3 a4 (H_M h)) (qf_X0_closeGiving nn y_a1 y_a2 y_a3 y_a4 h) := by
  unfold f_X0_closeGiving qf_X0_closeGiving
  refine sm_eq e_a1 rfl ?_ ?_
  · refine sm_gr hM_h (d := 34) rfl ?_
    refine sm_is hM_h rfl ?_
    refine sm_cV (sf_X1_store nn e_a4 e_a2 hM_h) ?_; intro u10 hM_u10
    exact sm_rV hM_u10
  · refine sm_eq e_a1 rfl ?_ ?_
    · refine sm_gr hM_h (d := 34) rfl ?_
      refine sm_gr hM_h (d := 45) rfl ?_
      refine sm_is hM_h rfl ?_
      refine sm_cI (sf_X6_fieldOf nn e_a3 e_a4 hM_h) ?_; intro u14 y_u14 M_u14 e_u14 hM_u14
      refine sm_is hM_u14 rfl ?_
      refine sm_cV (sf_X1_op_ nn rfl e_u14 hM_u14) ?_; intro u16 hM_u16
      refine sm_gr hM_u16 (d := 34) rfl ?_
      refine sm_is hM_u16 rfl ?_
      refine sm_cV (sf_X1_pop nn rfl hM_u16) ?_; intro u19 hM_u19
      exact sm_rV hM_u19
    · refine sm_gr hM_h (d := 34) rfl ?_
      refine sm_ne e_a2 rfl ?_ ?_
      · exact sj_X0_closeGiving_90 nn rfl hM_h
      · exact sj_X0_closeGiving_90 nn rfl hM_h
set_option maxRecDepth 4000 in
theorem sf_X10_readWhole (nn : Nat) {a1 : Int32} {y_a1 : Int} (e_a1 : a1.toInt = y_a1) {h : ms_M} (hM_h : Rg_M h) : Sm_ RV_ (f_X10_readWhole nn 49 a1 (H_M h)) (qf_X10_readWhole nn y_a1 h) := by
  unfold f_X10_readWhole qf_X10_readWhole
  refine sm_is hM_h rfl ?_
  refine sm_cV (sf_X10_readValue nn e_a1 hM_h) ?_; intro u2 hM_u2
  exact sm_rV hM_u2
set_option maxRecDepth 4000 in
theorem sj_X0_readPlain_156 (nn : Nat) {h : ms_M} (hM_h : Rg_M h) : Sm_ RI_ (j_X0_readPlain_156 nn 33 (H_M h)) (qj_X0_readPlain_156 nn h) := by
  unfold j_X0_readPlain_156 qj_X0_readPlain_156
  refine sm_gr hM_h (d := 2) rfl ?_
  refine sm_gi hM_h rfl ?_; intro v2 e_v2
  refine sm_oq_add e_v2 rfl ?_; intro v3 y_v3 e_v3
  refine sm_pv hM_h rfl e_v3 ?_; intro h4 hM_h4
  exact sm_rI rfl hM_h4
set_option maxRecDepth 4000 in
theorem sj_X0_readPlain_136 (nn : Nat) {l4 : Int32} {y_l4 : Int} (e_l4 : l4.toInt = y_l4) {l5 : Int32} {y_l5 : Int} (e_l5 : l5.toInt = y_l5) {l6 : Int32} {y_l6 : Int} (e_l6 : l6.toInt = y_l6) {l7 : Int32} {y_l7 : Int} (e_l7 : l7.toInt = y_l7) {h : ms_M} (hM_h : Rg_M h) : Sm_ RI_ (j_X0_readPlain_136 nn 33 l4 l5 l6 l7 (H_M h)) (qj_X0_readPlain_136 nn y_l4 y_l5 y_l6 y_l7 h) := by
  unfold j_X0_readPlain_136 qj_X0_readPlain_136
  refine sm_is hM_h rfl ?_
  refine sm_cV (sf_X0_closeGiving nn e_l4 e_l5 e_l6 e_l7 hM_h) ?_; intro u6 hM_u6
  exact sj_X0_readPlain_156 nn hM_u6
set_option maxRecDepth 4000 in
theorem sj_X0_readPlain_126 (nn : Nat) {l3 : Int32} {y_l3 : Int} (e_l3 : l3.toInt = y_l3) {l4 : Int32} {y_l4 : Int} (e_l4 : l4.toInt = y_l4) {l5 : Int32} {y_l5 : Int} (e_l5 : l5.toInt = y_l5) {l6 : Int32} {y_l6 : Int} (e_l6 : l6.toInt = y_l6) {l7 : Int32} {y_l7 : Int} (e_l7 : l7.toInt = y_l7) {h : ms_M} (hM_h : Rg_M h) : Sm_ RI_ (j_X0_readPlain_126 nn 33 l3 l4 l5 l6 l7 (H_M h)) (qj_X0_readPlain_126 nn y_l3 y_l4 y_l5 y_l6 y_l7 h) := by
  unfold j_X0_readPlain_126 qj_X0_readPlain_126
  refine sm_gr hM_h (d := 2) rfl ?_
  refine sm_is hM_h rfl ?_
  refine sm_cV (sf_X9_tell nn rfl e_l3 hM_h) ?_; intro u9 hM_u9
  exact sj_X0_readPlain_136 nn e_l4 e_l5 e_l6 e_l7 hM_u9
set_option maxRecDepth 4000 in
theorem sf_X0_readPlain (nn : Nat) {a1 : Int32} {y_a1 : Int} (e_a1 : a1.toInt = y_a1) {h : ms_M} (hM_h : Rg_M h) : Sm_ RI_ (f_X0_readPlain nn 33 a1 (H_M h)) (qf_X0_readPlain nn y_a1 h) := by
  unfold f_X0_readPlain qf_X0_readPlain
  refine sm_gr hM_h (d := 2) rfl ?_
  refine sm_gi hM_h rfl ?_; intro v11 e_v11
  refine sm_gr hM_h (d := 49) rfl ?_
  refine sm_pv hM_h rfl e_v11 ?_; intro h13 hM_h13
  refine sm_gr hM_h13 (d := 49) rfl ?_
  refine sm_is hM_h13 rfl ?_
  refine sm_cV (sf_X10_readWhole nn e_a1 hM_h13) ?_; intro u16 hM_u16
  refine sm_gr hM_u16 (d := 2) rfl ?_
  refine sm_is hM_u16 rfl ?_
  refine sm_cP (sf_X9_kind nn hM_u16) ?_; intro u19 y_u19 e_u19
  refine sm_ne e_u19 rfl ?_ ?_
  · refine sm_is hM_u16 rfl ?_
    refine sm_cV (sf_X0_closeAlone nn e_v11 hM_u16) ?_; intro u21 hM_u21
    exact sj_X0_readPlain_156 nn hM_u21
  · refine sm_gr hM_u16 (d := 2) rfl ?_
    refine sm_gi hM_u16 rfl ?_; intro v23 e_v23
    refine sm_gr hM_u16 (d := 49) rfl ?_
    refine sm_gi hM_u16 rfl ?_; intro v25 e_v25
    refine sm_gr hM_u16 (d := 49) rfl ?_
    refine sm_gi hM_u16 rfl ?_; intro v27 e_v27
    refine sm_gr hM_u16 (d := 49) rfl ?_
    refine sm_gi hM_u16 rfl ?_; intro v29 e_v29
    refine sm_gr hM_u16 (d := 49) rfl ?_
    refine sm_gi hM_u16 rfl ?_; intro v31 e_v31
    refine sm_gr hM_u16 (d := 2) rfl ?_
    refine sm_gi hM_u16 rfl ?_; intro v33 e_v33
    refine sm_oq_add e_v33 rfl ?_; intro v34 y_v34 e_v34
    refine sm_pv hM_u16 rfl e_v34 ?_; intro h35 hM_h35
    refine sm_gr hM_h35 (d := 49) rfl ?_
    refine sm_is hM_h35 rfl ?_
    refine sm_cV (sf_X10_readWhole nn e_a1 hM_h35) ?_; intro u38 hM_u38
    refine sm_lt e_v25 rfl ?_ ?_
    · exact sj_X0_readPlain_126 nn e_v23 e_v25 e_v27 e_v29 e_v31 hM_u38
    · refine sm_gr hM_u38 (d := 12) rfl ?_
      refine sm_gr hM_u38 (d := 49) rfl ?_
      refine sm_gi hM_u38 rfl ?_; intro v41 e_v41
      refine sm_is hM_u38 rfl ?_
      refine sm_cP (sf_X4_fits nn _ rfl e_v41 e_v27 hM_u38) ?_; intro u43 y_u43 e_u43
      refine sm_ne e_u43 rfl ?_ ?_
      · exact sj_X0_readPlain_136 nn e_v25 e_v27 e_v29 e_v31 hM_u38
      · exact sj_X0_readPlain_126 nn e_v23 e_v25 e_v27 e_v29 e_v31 hM_u38
set_option maxRecDepth 4000 in
theorem sj_X0_readPrint_52 (nn : Nat) {h : ms_M} (hM_h : Rg_M h) : Sm_ RI_ (j_X0_readPrint_52 nn 33 (H_M h)) (qj_X0_readPrint_52 nn h) := by
  unfold j_X0_readPrint_52 qj_X0_readPrint_52
  refine sm_gr hM_h (d := 34) rfl ?_
  refine sm_is hM_h rfl ?_
  refine sm_cV (sf_X1_op nn rfl hM_h) ?_; intro u3 hM_u3
  refine sm_gr hM_u3 (d := 34) rfl ?_
  refine sm_is hM_u3 rfl ?_
  refine sm_cV (sf_X1_pop nn rfl hM_u3) ?_; intro u6 hM_u6
  refine sm_gr hM_u6 (d := 2) rfl ?_
  refine sm_gi hM_u6 rfl ?_; intro v8 e_v8
  refine sm_oq_add e_v8 rfl ?_; intro v9 y_v9 e_v9
  refine sm_pv hM_u6 rfl e_v9 ?_; intro h10 hM_h10
  exact sm_rI rfl hM_h10
set_option maxRecDepth 4000 in
theorem sf_X0_readPrint (nn : Nat) {a1 : Int32} {y_a1 : Int} (e_a1 : a1.toInt = y_a1) {h : ms_M} (hM_h : Rg_M h) : Sm_ RI_ (f_X0_readPrint nn 33 a1 (H_M h)) (qf_X0_readPrint nn y_a1 h) := by
  unfold f_X0_readPrint qf_X0_readPrint
  refine sm_gr hM_h (d := 2) rfl ?_
  refine sm_gi hM_h rfl ?_; intro v12 e_v12
  refine sm_gr hM_h (d := 2) rfl ?_
  refine sm_gi hM_h rfl ?_; intro v14 e_v14
  refine sm_oq_add e_v14 rfl ?_; intro v15 y_v15 e_v15
  refine sm_pv hM_h rfl e_v15 ?_; intro h16 hM_h16
  refine sm_gr hM_h16 (d := 49) rfl ?_
  refine sm_is hM_h16 rfl ?_
  refine sm_cV (sf_X10_readWhole nn e_a1 hM_h16) ?_; intro u19 hM_u19
  refine sm_gr hM_u19 (d := 49) rfl ?_
  refine sm_gi hM_u19 rfl ?_; intro v21 e_v21
  refine sm_cP (sf_X4_isNumber nn e_v21 hM_u19) ?_; intro u22 y_u22 e_u22
  refine sm_ne e_u22 rfl ?_ ?_
  · exact sj_X0_readPrint_52 nn hM_u19
  · refine sm_gr hM_u19 (d := 2) rfl ?_
    refine sm_is hM_u19 rfl ?_
    refine sm_cV (sf_X9_tell nn rfl e_v12 hM_u19) ?_; intro u25 hM_u25
    exact sj_X0_readPrint_52 nn hM_u25
set_option maxRecDepth 4000 in
theorem sj_X0_readReturn_158 (nn : Nat) {h : ms_M} (hM_h : Rg_M h) : Sm_ RI_ (j_X0_readReturn_158 nn 33 (H_M h)) (qj_X0_readReturn_158 nn h) := by
  unfold j_X0_readReturn_158 qj_X0_readReturn_158
  refine sm_gr hM_h (d := 2) rfl ?_
  refine sm_gi hM_h rfl ?_; intro v2 e_v2
  refine sm_oq_add e_v2 rfl ?_; intro v3 y_v3 e_v3
  refine sm_pv hM_h rfl e_v3 ?_; intro h4 hM_h4
  exact sm_rI rfl hM_h4
set_option maxRecDepth 4000 in
theorem sj_X0_readReturn_147 (nn : Nat) {s0 : Int32} {y_s0 : Int} (e_s0 : s0.toInt = y_s0) {h : ms_M} (hM_h : Rg_M h) : Sm_ RI_ (j_X0_readReturn_147 nn 33 s0 34 (H_M h)) (qj_X0_readReturn_147 nn y_s0 h) := by
  unfold j_X0_readReturn_147 qj_X0_readReturn_147
  refine sm_is hM_h rfl ?_
  refine sm_cV (sf_X1_op nn e_s0 hM_h) ?_; intro u6 hM_u6
  refine sm_gr hM_u6 (d := 34) rfl ?_
  refine sm_is hM_u6 rfl ?_
  refine sm_cV (sf_X1_pop nn rfl hM_u6) ?_; intro u9 hM_u9
  exact sj_X0_readReturn_158 nn hM_u9
set_option maxRecDepth 4000 in
theorem sj_X0_readReturn_124 (nn : Nat) {h : ms_M} (hM_h : Rg_M h) : Sm_ RI_ (j_X0_readReturn_124 nn 33 (H_M h)) (qj_X0_readReturn_124 nn h) := by
  unfold j_X0_readReturn_124 qj_X0_readReturn_124
  refine sm_gr hM_h (d := 34) rfl ?_
  refine sm_gi hM_h rfl ?_; intro v11 e_v11
  refine sm_cP (sf_X4_isNumber nn e_v11 hM_h) ?_; intro u12 y_u12 e_u12
  refine sm_eq e_u12 rfl ?_ ?_
  · exact sj_X0_readReturn_147 nn rfl hM_h
  · exact sj_X0_readReturn_147 nn rfl hM_h
set_option maxRecDepth 4000 in
theorem sj_X0_readReturn_68 (nn : Nat) {l1 : Int32} {y_l1 : Int} (e_l1 : l1.toInt = y_l1) {l2 : Int32} {y_l2 : Int} (e_l2 : l2.toInt = y_l2) {l3 : Int32} {y_l3 : Int} (e_l3 : l3.toInt = y_l3) {h : ms_M} (hM_h : Rg_M h) : Sm_ RI_ (j_X0_readReturn_68 nn 33 l1 l2 l3 (H_M h)) (qj_X0_readReturn_68 nn y_l1 y_l2 y_l3 h) := by
  unfold j_X0_readReturn_68 qj_X0_readReturn_68
  refine sm_eq e_l3 rfl ?_ ?_
  · refine sm_gr hM_h (d := 49) rfl ?_
    refine sm_is hM_h rfl ?_
    refine sm_cV (sf_X10_readWhole nn e_l1 hM_h) ?_; intro u16 hM_u16
    refine sm_gr hM_u16 (d := 12) rfl ?_
    refine sm_gr hM_u16 (d := 49) rfl ?_
    refine sm_gi hM_u16 rfl ?_; intro v19 e_v19
    refine sm_gi hM_u16 rfl ?_; intro v20 e_v20
    refine sm_is hM_u16 rfl ?_
    refine sm_cP (sf_X4_fits nn _ rfl e_v19 e_v20 hM_u16) ?_; intro u22 y_u22 e_u22
    refine sm_ne e_u22 rfl ?_ ?_
    · exact sj_X0_readReturn_124 nn hM_u16
    · refine sm_gr hM_u16 (d := 2) rfl ?_
      refine sm_is hM_u16 rfl ?_
      refine sm_cV (sf_X9_tell nn rfl e_l2 hM_u16) ?_; intro u25 hM_u25
      exact sj_X0_readReturn_124 nn hM_u25
  · refine sm_gr hM_h (d := 34) rfl ?_
    refine sm_is hM_h rfl ?_
    refine sm_cV (sf_X1_op nn rfl hM_h) ?_; intro u29 hM_u29
    exact sj_X0_readReturn_158 nn hM_u29
set_option maxRecDepth 4000 in
theorem sj_X0_readReturn_55 (nn : Nat) {l1 : Int32} {y_l1 : Int} (e_l1 : l1.toInt = y_l1) {l2 : Int32} {y_l2 : Int} (e_l2 : l2.toInt = y_l2) {l3 : Int32} {y_l3 : Int} (e_l3 : l3.toInt = y_l3) {s0 : Int32} {y_s0 : Int} (e_s0 : s0.toInt = y_s0) {s1 : Int32} {y_s1 : Int} (e_s1 : s1.toInt = y_s1) {h : ms_M} (hM_h : Rg_M h) : Sm_ RI_ (j_X0_readReturn_55 nn 33 l1 l2 l3 s0 s1 (H_M h)) (qj_X0_readReturn_55 nn y_l1 y_l2 y_l3 y_s0 y_s1 h) := by
  unfold j_X0_readReturn_55 qj_X0_readReturn_55
  refine sm_eq e_s1 e_s0 ?_ ?_
  · exact sj_X0_readReturn_68 nn e_l1 e_l2 e_l3 hM_h
  · refine sm_gr hM_h (d := 2) rfl ?_
    refine sm_is hM_h rfl ?_
    refine sm_cV (sf_X9_tell nn rfl e_l2 hM_h) ?_; intro u33 hM_u33
    exact sj_X0_readReturn_68 nn e_l1 e_l2 e_l3 hM_u33
set_option maxRecDepth 4000 in
theorem sj_X0_readReturn_38 (nn : Nat) {l1 : Int32} {y_l1 : Int} (e_l1 : l1.toInt = y_l1) {l2 : Int32} {y_l2 : Int} (e_l2 : l2.toInt = y_l2) {s0 : Int32} {y_s0 : Int} (e_s0 : s0.toInt = y_s0) {h : ms_M} (hM_h : Rg_M h) : Sm_ RI_ (j_X0_readReturn_38 nn 33 l1 l2 s0 (H_M h)) (qj_X0_readReturn_38 nn y_l1 y_l2 y_s0 h) := by
  unfold j_X0_readReturn_38 qj_X0_readReturn_38
  refine sm_gi hM_h rfl ?_; intro v35 e_v35
  refine sm_ne e_v35 rfl ?_ ?_
  · exact sj_X0_readReturn_55 nn e_l1 e_l2 e_s0 rfl e_s0 hM_h
  · exact sj_X0_readReturn_55 nn e_l1 e_l2 e_s0 rfl e_s0 hM_h
set_option maxRecDepth 4000 in
theorem sf_X0_readReturn (nn : Nat) {a1 : Int32} {y_a1 : Int} (e_a1 : a1.toInt = y_a1) {h : ms_M} (hM_h : Rg_M h) : Sm_ RI_ (f_X0_readReturn nn 33 a1 (H_M h)) (qf_X0_readReturn nn y_a1 h) := by
  unfold f_X0_readReturn qf_X0_readReturn
  refine sm_gr hM_h (d := 2) rfl ?_
  refine sm_gi hM_h rfl ?_; intro v38 e_v38
  refine sm_gr hM_h (d := 2) rfl ?_
  refine sm_gi hM_h rfl ?_; intro v40 e_v40
  refine sm_oq_add e_v40 rfl ?_; intro v41 y_v41 e_v41
  refine sm_pv hM_h rfl e_v41 ?_; intro h42 hM_h42
  refine sm_gr hM_h42 (d := 2) rfl ?_
  refine sm_is hM_h42 rfl ?_
  refine sm_cP (sf_X9_kind nn hM_h42) ?_; intro u45 y_u45 e_u45
  refine sm_ne e_u45 rfl ?_ ?_
  · exact sj_X0_readReturn_38 nn e_a1 e_v38 rfl hM_h42
  · exact sj_X0_readReturn_38 nn e_a1 e_v38 rfl hM_h42
set_option maxRecDepth 4000 in
theorem sj_X0_readThrow_57 (nn : Nat) {h : ms_M} (hM_h : Rg_M h) : Sm_ RI_ (j_X0_readThrow_57 nn 33 (H_M h)) (qj_X0_readThrow_57 nn h) := by
  unfold j_X0_readThrow_57 qj_X0_readThrow_57
  refine sm_gr hM_h (d := 34) rfl ?_
  refine sm_is hM_h rfl ?_
  refine sm_cV (sf_X1_op nn rfl hM_h) ?_; intro u3 hM_u3
  refine sm_gr hM_u3 (d := 34) rfl ?_
  refine sm_is hM_u3 rfl ?_
  refine sm_cV (sf_X1_pop nn rfl hM_u3) ?_; intro u6 hM_u6
  refine sm_gr hM_u6 (d := 2) rfl ?_
  refine sm_gi hM_u6 rfl ?_; intro v8 e_v8
  refine sm_oq_add e_v8 rfl ?_; intro v9 y_v9 e_v9
  refine sm_pv hM_u6 rfl e_v9 ?_; intro h10 hM_h10
  exact sm_rI rfl hM_h10
set_option maxRecDepth 4000 in
theorem sf_X0_readThrow (nn : Nat) {a1 : Int32} {y_a1 : Int} (e_a1 : a1.toInt = y_a1) {h : ms_M} (hM_h : Rg_M h) : Sm_ RI_ (f_X0_readThrow nn 33 a1 (H_M h)) (qf_X0_readThrow nn y_a1 h) := by
  unfold f_X0_readThrow qf_X0_readThrow
  refine sm_gr hM_h (d := 2) rfl ?_
  refine sm_gi hM_h rfl ?_; intro v12 e_v12
  refine sm_gr hM_h (d := 2) rfl ?_
  refine sm_gi hM_h rfl ?_; intro v14 e_v14
  refine sm_oq_add e_v14 rfl ?_; intro v15 y_v15 e_v15
  refine sm_pv hM_h rfl e_v15 ?_; intro h16 hM_h16
  refine sm_gr hM_h16 (d := 49) rfl ?_
  refine sm_is hM_h16 rfl ?_
  refine sm_cV (sf_X10_readWhole nn e_a1 hM_h16) ?_; intro u19 hM_u19
  refine sm_gr hM_u19 (d := 12) rfl ?_
  refine sm_gr hM_u19 (d := 49) rfl ?_
  refine sm_gi hM_u19 rfl ?_; intro v22 e_v22
  refine sm_is hM_u19 rfl ?_
  refine sm_cP (sf_X4_fits nn _ rfl e_v22 rfl hM_u19) ?_; intro u24 y_u24 e_u24
  refine sm_ne e_u24 rfl ?_ ?_
  · exact sj_X0_readThrow_57 nn hM_u19
  · refine sm_gr hM_u19 (d := 2) rfl ?_
    refine sm_is hM_u19 rfl ?_
    refine sm_cV (sf_X9_tell nn rfl e_v12 hM_u19) ?_; intro u27 hM_u27
    exact sj_X0_readThrow_57 nn hM_u27
set_option maxRecDepth 4000 in
theorem sf_X0_checkTwice (nn : Nat) {a1 : Int32} {y_a1 : Int} (e_a1 : a1.toInt = y_a1) {h : ms_M} (hM_h : Rg_M h) : Sm_ RV_ (f_X0_checkTwice nn 33 a1 (H_M h)) (qf_X0_checkTwice nn y_a1 h) := by
  unfold f_X0_checkTwice qf_X0_checkTwice
  refine sm_gr hM_h (d := 34) rfl ?_
  refine sm_gr hM_h (d := 2) rfl ?_
  refine sm_is hM_h rfl ?_
  refine sm_cP (sf_X9_valueAt nn e_a1 hM_h) ?_; intro u4 y_u4 e_u4
  refine sm_is hM_h rfl ?_
  refine sm_cP (sf_X1_localOf nn e_u4 hM_h) ?_; intro u6 y_u6 e_u6
  refine sm_eq e_u6 rfl ?_ ?_
  · exact sm_rV hM_h
  · refine sm_gr hM_h (d := 2) rfl ?_
    refine sm_is hM_h rfl ?_
    refine sm_cV (sf_X9_tell nn rfl e_a1 hM_h) ?_; intro u9 hM_u9
    exact sm_rV hM_u9
set_option maxRecDepth 4000 in
theorem sj_X1_addHandler_76 (nn : Nat) {l3 : Int32} {y_l3 : Int} (e_l3 : l3.toInt = y_l3) {h : ms_M} (hM_h : Rg_M h) : Sm_ RV_ (j_X1_addHandler_76 nn 34 l3 (H_M h)) (qj_X1_addHandler_76 nn y_l3 h) := by
  unfold j_X1_addHandler_76 qj_X1_addHandler_76
  refine sm_is hM_h rfl ?_
  refine sm_cV (sf_X1_push nn e_l3 hM_h) ?_; intro u2 hM_u2
  refine sm_gi hM_u2 rfl ?_; intro v3 e_v3
  refine sm_is hM_u2 rfl ?_
  refine sm_cI (sf_X1_slotOfFrame nn e_v3 hM_u2) ?_; intro u5 y_u5 M_u5 e_u5 hM_u5
  refine sm_gi hM_u5 rfl ?_; intro v6 e_v6
  refine sm_gi hM_u5 rfl ?_; intro v7 e_v7
  refine sm_is hM_u5 rfl ?_
  refine sm_cV (sf_X1_fillFrame nn e_u5 e_v6 e_v7 hM_u5) ?_; intro u9 hM_u9
  exact sm_rV hM_u9
set_option maxRecDepth 4000 in
theorem sf_X1_addHandler (nn : Nat) {a1 : Int32} {y_a1 : Int} (e_a1 : a1.toInt = y_a1) {a2 : Int32} {y_a2 : Int} (e_a2 : a2.toInt = y_a2) {a3 : Int32} {y_a3 : Int} (e_a3 : a3.toInt = y_a3) {h : ms_M} (hM_h : Rg_M h) : Sm_ RV_ (f_X1_addHandler nn 34 a1 a2 a3 (H_M h)) (qf_X1_addHandler nn y_a1 y_a2 y_a3 h) := by
  unfold f_X1_addHandler qf_X1_addHandler
  refine sm_gi hM_h rfl ?_; intro v10 e_v10
  refine sm_lt e_v10 rfl ?_ ?_
  · refine sm_gi hM_h rfl ?_; intro v11 e_v11
    refine sm_oq_mul e_v11 rfl ?_; intro v12 y_v12 e_v12
    refine sm_gr hM_h (d := 39) rfl ?_
    refine sm_si hM_h rfl e_v12 e_a1 ?_; intro h14 hM_h14
    refine sm_gr hM_h14 (d := 39) rfl ?_
    refine sm_oq_add e_v12 rfl ?_; intro v16 y_v16 e_v16
    refine sm_si hM_h14 rfl e_v16 e_a2 ?_; intro h17 hM_h17
    refine sm_gr hM_h17 (d := 39) rfl ?_
    refine sm_oq_add e_v12 rfl ?_; intro v19 y_v19 e_v19
    refine sm_gi hM_h17 rfl ?_; intro v20 e_v20
    refine sm_si hM_h17 rfl e_v19 e_v20 ?_; intro h21 hM_h21
    refine sm_gr hM_h21 (d := 39) rfl ?_
    refine sm_oq_add e_v12 rfl ?_; intro v23 y_v23 e_v23
    refine sm_si hM_h21 rfl e_v23 e_a3 ?_; intro h24 hM_h24
    refine sm_gi hM_h24 rfl ?_; intro v25 e_v25
    refine sm_oq_add e_v25 rfl ?_; intro v26 y_v26 e_v26
    refine sm_pv hM_h24 rfl e_v26 ?_; intro h27 hM_h27
    exact sj_X1_addHandler_76 nn e_a3 hM_h27
  · refine sm_pv hM_h rfl rfl ?_; intro h28 hM_h28
    exact sj_X1_addHandler_76 nn e_a3 hM_h28
set_option maxRecDepth 4000 in
theorem sj_X1_addLocal_28 (nn : Nat) {l3 : Int32} {y_l3 : Int} (e_l3 : l3.toInt = y_l3) {h : ms_M} (hM_h : Rg_M h) : Sm_ RI_ (j_X1_addLocal_28 nn 34 l3 (H_M h)) (qj_X1_addLocal_28 nn y_l3 h) := by
  unfold j_X1_addLocal_28 qj_X1_addLocal_28
  refine sm_gi hM_h rfl ?_; intro v1 e_v1
  refine sm_oq_add e_v1 rfl ?_; intro v2 y_v2 e_v2
  refine sm_pv hM_h rfl e_v2 ?_; intro h3 hM_h3
  refine sm_gi hM_h3 rfl ?_; intro v4 e_v4
  refine sm_gi hM_h3 rfl ?_; intro v5 e_v5
  refine sm_ite e_v4 e_v5 e_v5 e_v4 ?_; intro v6 y_v6 e_v6
  refine sm_pv hM_h3 rfl e_v6 ?_; intro h7 hM_h7
  exact sm_rI e_l3 hM_h7
set_option maxRecDepth 4000 in
theorem sf_X1_addLocal (nn : Nat) {a1 : Int32} {y_a1 : Int} (e_a1 : a1.toInt = y_a1) {a2 : Int32} {y_a2 : Int} (e_a2 : a2.toInt = y_a2) {h : ms_M} (hM_h : Rg_M h) : Sm_ RI_ (f_X1_addLocal nn 34 a1 a2 (H_M h)) (qf_X1_addLocal nn y_a1 y_a2 h) := by
  unfold f_X1_addLocal qf_X1_addLocal
  refine sm_gi hM_h rfl ?_; intro v8 e_v8
  refine sm_gr hM_h (d := 37) rfl ?_
  refine sm_ln hM_h (z := 750) rfl ?_; intro v10 e_v10
  refine sm_le e_v10 e_v8 ?_ ?_
  · exact sj_X1_addLocal_28 nn e_v8 hM_h
  · refine sm_gr hM_h (d := 37) rfl ?_
    refine sm_si hM_h rfl e_v8 e_a1 ?_; intro h12 hM_h12
    refine sm_gr hM_h12 (d := 38) rfl ?_
    refine sm_si hM_h12 rfl e_v8 e_a2 ?_; intro h14 hM_h14
    exact sj_X1_addLocal_28 nn e_v8 hM_h14
set_option maxRecDepth 4000 in
theorem sj_X2_readType_109 (nn : Nat) {l1 : Int32} {y_l1 : Int} (e_l1 : l1.toInt = y_l1) {l3 : Int32} {y_l3 : Int} (e_l3 : l3.toInt = y_l3) {l4 : Int32} {y_l4 : Int} (e_l4 : l4.toInt = y_l4) {h : ms_M} (hM_h : Rg_M h) : Sm_ RI_ (j_X2_readType_109 nn l1 l3 l4 (H_M h)) (qj_X2_readType_109 nn y_l1 y_l3 y_l4 h) := by
  unfold j_X2_readType_109 qj_X2_readType_109
  refine sm_ne e_l1 rfl ?_ ?_
  · refine sm_eq e_l4 rfl ?_ ?_
    · exact sm_rI e_l3 hM_h
    · refine sm_oq_add rfl e_l3 ?_; intro v1 y_v1 e_v1
      exact sm_rI e_v1 hM_h
  · refine sm_eq e_l4 rfl ?_ ?_
    · exact sm_rI rfl hM_h
    · exact sm_rI rfl hM_h
set_option maxRecDepth 4000 in
theorem sj_X2_readType_89 (nn : Nat) {l1 : Int32} {y_l1 : Int} (e_l1 : l1.toInt = y_l1) {l3 : Int32} {y_l3 : Int} (e_l3 : l3.toInt = y_l3) {s0 : Int32} {y_s0 : Int} (e_s0 : s0.toInt = y_s0) {h : ms_M} (hM_h : Rg_M h) : Sm_ RI_ (j_X2_readType_89 nn 11 l1 l3 s0 (H_M h)) (qj_X2_readType_89 nn y_l1 y_l3 y_s0 h) := by
  unfold j_X2_readType_89 qj_X2_readType_89
  refine sm_eq e_s0 rfl ?_ ?_
  · exact sj_X2_readType_109 nn e_l1 e_l3 e_s0 hM_h
  · refine sm_gr hM_h (d := 2) rfl ?_
    refine sm_gi hM_h rfl ?_; intro v6 e_v6
    refine sm_oq_add e_v6 rfl ?_; intro v7 y_v7 e_v7
    refine sm_pv hM_h rfl e_v7 ?_; intro h8 hM_h8
    exact sj_X2_readType_109 nn e_l1 e_l3 e_s0 hM_h8
set_option maxRecDepth 4000 in
theorem sj_X2_readType_53 (nn : Nat) {l1 : Int32} {y_l1 : Int} (e_l1 : l1.toInt = y_l1) {l2 : Int32} {y_l2 : Int} (e_l2 : l2.toInt = y_l2) {s0 : Int32} {y_s0 : Int} (e_s0 : s0.toInt = y_s0) {h : ms_M} (hM_h : Rg_M h) : Sm_ RI_ (j_X2_readType_53 nn 11 l1 l2 s0 (H_M h)) (qj_X2_readType_53 nn y_l1 y_l2 y_s0 h) := by
  unfold j_X2_readType_53 qj_X2_readType_53
  refine sm_ne e_s0 rfl ?_ ?_
  · refine sm_gr hM_h (d := 2) rfl ?_
    refine sm_is hM_h rfl ?_
    refine sm_cP (sf_X9_kind nn hM_h) ?_; intro u12 y_u12 e_u12
    refine sm_ne e_u12 rfl ?_ ?_
    · exact sj_X2_readType_89 nn e_l1 e_s0 rfl hM_h
    · exact sj_X2_readType_89 nn e_l1 e_s0 rfl hM_h
  · refine sm_gr hM_h (d := 2) rfl ?_
    refine sm_is hM_h rfl ?_
    refine sm_cV (sf_X9_tell nn rfl e_l2 hM_h) ?_; intro u16 hM_u16
    exact sm_rI rfl hM_u16
set_option maxRecDepth 4000 in
theorem sf_X2_readType (nn : Nat) {h : ms_M} (hM_h : Rg_M h) : Sm_ RI_ (f_X2_readType nn 11 (H_M h)) (qf_X2_readType nn h) := by
  unfold f_X2_readType qf_X2_readType
  refine sm_gr hM_h (d := 2) rfl ?_
  refine sm_is hM_h rfl ?_
  refine sm_cP (sf_X9_kind nn hM_h) ?_; intro u20 y_u20 e_u20
  refine sm_gr hM_h (d := 2) rfl ?_
  refine sm_gi hM_h rfl ?_; intro v22 e_v22
  refine sm_gr hM_h (d := 2) rfl ?_
  refine sm_gi hM_h rfl ?_; intro v24 e_v24
  refine sm_oq_add e_v24 rfl ?_; intro v25 y_v25 e_v25
  refine sm_pv hM_h rfl e_v25 ?_; intro h26 hM_h26
  refine sm_ne e_u20 rfl ?_ ?_
  · refine sm_ne e_u20 rfl ?_ ?_
    · exact sj_X2_readType_53 nn e_u20 e_v22 rfl hM_h26
    · refine sm_is hM_h26 rfl ?_
      refine sm_cP (sf_X2_classAt nn e_v22 hM_h26) ?_; intro u28 y_u28 e_u28
      exact sj_X2_readType_53 nn e_u20 e_v22 e_u28 hM_h26
  · exact sm_rI rfl hM_h26
set_option maxRecDepth 4000 in
theorem sj_X0_readVariable_69 (nn : Nat) {l2 : Int32} {y_l2 : Int} (e_l2 : l2.toInt = y_l2) {l3 : Int32} {y_l3 : Int} (e_l3 : l3.toInt = y_l3) {h : ms_M} (hM_h : Rg_M h) : Sm_ RI_ (j_X0_readVariable_69 nn 33 l2 l3 (H_M h)) (qj_X0_readVariable_69 nn y_l2 y_l3 h) := by
  unfold j_X0_readVariable_69 qj_X0_readVariable_69
  refine sm_gr hM_h (d := 34) rfl ?_
  refine sm_gr hM_h (d := 34) rfl ?_
  refine sm_gr hM_h (d := 2) rfl ?_
  refine sm_is hM_h rfl ?_
  refine sm_cP (sf_X9_valueAt nn e_l3 hM_h) ?_; intro u5 y_u5 e_u5
  refine sm_is hM_h rfl ?_
  refine sm_cI (sf_X1_addLocal nn e_u5 e_l2 hM_h) ?_; intro u7 y_u7 M_u7 e_u7 hM_u7
  refine sm_is hM_u7 rfl ?_
  refine sm_cV (sf_X1_store nn e_u7 e_l2 hM_u7) ?_; intro u9 hM_u9
  refine sm_gr hM_u9 (d := 2) rfl ?_
  refine sm_gi hM_u9 rfl ?_; intro v11 e_v11
  refine sm_oq_add e_v11 rfl ?_; intro v12 y_v12 e_v12
  refine sm_pv hM_u9 rfl e_v12 ?_; intro h13 hM_h13
  exact sm_rI rfl hM_h13
set_option maxRecDepth 4000 in
theorem sf_X0_readVariable (nn : Nat) {a1 : Int32} {y_a1 : Int} (e_a1 : a1.toInt = y_a1) {h : ms_M} (hM_h : Rg_M h) : Sm_ RI_ (f_X0_readVariable nn 33 a1 (H_M h)) (qf_X0_readVariable nn y_a1 h) := by
  unfold f_X0_readVariable qf_X0_readVariable
  refine sm_gr hM_h (d := 11) rfl ?_
  refine sm_is hM_h rfl ?_
  refine sm_cI (sf_X2_readType nn hM_h) ?_; intro u16 y_u16 M_u16 e_u16 hM_u16
  refine sm_gr hM_u16 (d := 2) rfl ?_
  refine sm_gi hM_u16 rfl ?_; intro v18 e_v18
  refine sm_is hM_u16 rfl ?_
  refine sm_cV (sf_X0_checkTwice nn e_v18 hM_u16) ?_; intro u20 hM_u20
  refine sm_gr hM_u20 (d := 2) rfl ?_
  refine sm_oq_add e_v18 rfl ?_; intro v22 y_v22 e_v22
  refine sm_pv hM_u20 rfl e_v22 ?_; intro h23 hM_h23
  refine sm_gr hM_h23 (d := 49) rfl ?_
  refine sm_is hM_h23 rfl ?_
  refine sm_cV (sf_X10_readWhole nn e_a1 hM_h23) ?_; intro u26 hM_u26
  refine sm_gr hM_u26 (d := 12) rfl ?_
  refine sm_gr hM_u26 (d := 49) rfl ?_
  refine sm_gi hM_u26 rfl ?_; intro v29 e_v29
  refine sm_is hM_u26 rfl ?_
  refine sm_cP (sf_X4_fits nn _ rfl e_v29 e_u16 hM_u26) ?_; intro u31 y_u31 e_u31
  refine sm_ne e_u31 rfl ?_ ?_
  · exact sj_X0_readVariable_69 nn e_u16 e_v18 hM_u26
  · refine sm_gr hM_u26 (d := 2) rfl ?_
    refine sm_oq_add e_v18 rfl ?_; intro v33 y_v33 e_v33
    refine sm_is hM_u26 rfl ?_
    refine sm_cV (sf_X9_tell nn rfl e_v33 hM_u26) ?_; intro u35 hM_u35
    exact sj_X0_readVariable_69 nn e_u16 e_v18 hM_u35
set_option maxRecDepth 4000 in
theorem sf_X9_isWhileTrue (nn : Nat) {h : ms_M} (hM_h : Rg_M h) : Sm_ (RP_ h) (f_X9_isWhileTrue nn 2 (H_M h)) (qf_X9_isWhileTrue nn h) := by
  unfold f_X9_isWhileTrue qf_X9_isWhileTrue
  refine sm_gi hM_h rfl ?_; intro v1 e_v1
  refine sm_oq_add e_v1 rfl ?_; intro v2 y_v2 e_v2
  refine sm_is hM_h rfl ?_
  refine sm_cP (sf_X9_kindAt nn e_v2 hM_h) ?_; intro u4 y_u4 e_u4
  refine sm_ne e_u4 rfl ?_ ?_
  · exact sm_rP rfl
  · refine sm_gi hM_h rfl ?_; intro v5 e_v5
    refine sm_oq_add e_v5 rfl ?_; intro v6 y_v6 e_v6
    refine sm_is hM_h rfl ?_
    refine sm_cP (sf_X9_kindAt nn e_v6 hM_h) ?_; intro u8 y_u8 e_u8
    refine sm_ne e_u8 rfl ?_ ?_
    · exact sm_rP rfl
    · refine sm_gi hM_h rfl ?_; intro v9 e_v9
      refine sm_oq_add e_v9 rfl ?_; intro v10 y_v10 e_v10
      refine sm_is hM_h rfl ?_
      refine sm_cP (sf_X9_kindAt nn e_v10 hM_h) ?_; intro u12 y_u12 e_u12
      refine sm_ne e_u12 rfl ?_ ?_
      · exact sm_rP rfl
      · exact sm_rP rfl
set_option maxRecDepth 4000 in
theorem sf_X9_beginsVariable (nn : Nat) {h : ms_M} (hM_h : Rg_M h) : Sm_ (RP_ h) (f_X9_beginsVariable nn 2 (H_M h)) (qf_X9_beginsVariable nn h) := by
  unfold f_X9_beginsVariable qf_X9_beginsVariable
  refine sm_is hM_h rfl ?_
  refine sm_cP (sf_X9_kind nn hM_h) ?_; intro u2 y_u2 e_u2
  refine sm_eq e_u2 rfl ?_ ?_
  · refine sm_gi hM_h rfl ?_; intro v3 e_v3
    refine sm_oq_add e_v3 rfl ?_; intro v4 y_v4 e_v4
    refine sm_is hM_h rfl ?_
    refine sm_cP (sf_X9_kindAt nn e_v4 hM_h) ?_; intro u6 y_u6 e_u6
    refine sm_eq e_u6 rfl ?_ ?_
    · exact sm_rP rfl
    · refine sm_ne e_u6 rfl ?_ ?_
      · exact sm_rP rfl
      · refine sm_gi hM_h rfl ?_; intro v7 e_v7
        refine sm_oq_add e_v7 rfl ?_; intro v8 y_v8 e_v8
        refine sm_is hM_h rfl ?_
        refine sm_cP (sf_X9_kindAt nn e_v8 hM_h) ?_; intro u10 y_u10 e_u10
        refine sm_ne e_u10 rfl ?_ ?_
        · exact sm_rP rfl
        · exact sm_rP rfl
  · refine sm_eq e_u2 rfl ?_ ?_
    · exact sm_rP rfl
    · refine sm_ne e_u2 rfl ?_ ?_
      · exact sm_rP rfl
      · exact sm_rP rfl
def hg_X0_readBlock (frc : tg_X0_readBlock) (rc : tq_X0_readBlock) : Prop := (∀ {a1 : Int32} {y_a1 : Int} (e_a1 : a1.toInt = y_a1) {h : ms_M} (hM_h : Rg_M h), Sm_ RI_ (frc.1 33 a1 (H_M h)) (rc.1 y_a1 h)) ∧ (∀ {a1 : Int32} {y_a1 : Int} (e_a1 : a1.toInt = y_a1) {h : ms_M} (hM_h : Rg_M h), Sm_ RI_ (frc.2.1 33 a1 (H_M h)) (rc.2.1 y_a1 h)) ∧ (∀ {a1 : Int32} {y_a1 : Int} (e_a1 : a1.toInt = y_a1) {h : ms_M} (hM_h : Rg_M h), Sm_ RI_ (frc.2.2.1 33 a1 (H_M h)) (rc.2.2.1 y_a1 h)) ∧ (∀ {a1 : Int32} {y_a1 : Int} (e_a1 : a1.toInt = y_a1) {h : ms_M} (hM_h : Rg_M h), Sm_ RI_ (frc.2.2.2.1 33 a1 (H_M h)) (rc.2.2.2.1 y_a1 h)) ∧ (∀ {a1 : Int32} {y_a1 : Int} (e_a1 : a1.toInt = y_a1) {h : ms_M} (hM_h : Rg_M h), Sm_ RI_ (frc.2.2.2.2.1 33 a1 (H_M h)) (rc.2.2.2.2.1 y_a1 h)) ∧ (∀ {a1 : Int32} {y_a1 : Int} (e_a1 : a1.toInt = y_a1) {h : ms_M} (hM_h : Rg_M h), Sm_ RI_ (frc.2.2.2.2.2 33 a1 (H_M h)) (rc.2.2.2.2.2 y_a1 h))
set_option maxRecDepth 4000 in
theorem sj_X0_readBlock_88 (nn : Nat) {frc : tg_X0_readBlock} {rc : tq_X0_readBlock} (hr : hg_X0_readBlock frc rc) {l2 : Int32} {y_l2 : Int} (e_l2 : l2.toInt = y_l2) {l3 : Int32} {y_l3 : Int} (e_l3 : l3.toInt = y_l3) {h : ms_M} (hM_h : Rg_M h) : Sm_ RI_ (j_X0_readBlock_88 nn frc 33 l2 l3 (H_M h)) (qj_X0_readBlock_88 nn rc y_l2 y_l3 h) := by
  unfold j_X0_readBlock_88 qj_X0_readBlock_88
  refine sm_gr hM_h (d := 2) rfl ?_
  refine sm_gi hM_h rfl ?_; intro v2 e_v2
  refine sm_oq_add e_v2 rfl ?_; intro v3 y_v3 e_v3
  refine sm_pv hM_h rfl e_v3 ?_; intro h4 hM_h4
  refine sm_gr hM_h4 (d := 34) rfl ?_
  refine sm_pv hM_h4 rfl e_l2 ?_; intro h6 hM_h6
  refine sm_bq e_l3 ?_
  exact sm_rI e_l3 hM_h6
set_option maxRecDepth 4000 in
theorem sj_X0_readBlock_76 (nn : Nat) {frc : tg_X0_readBlock} {rc : tq_X0_readBlock} (hr : hg_X0_readBlock frc rc) {kk_26 : Nat → Int32 → Int32 → Int32 → Int32 → mx_H → Option (Int32 × mx_H)} {qkk_26 : Int → Int → Int → Int → ms_M → Option (Int × ms_M)} (hk_kk_26 : ∀ {l1 : Int32} {y_l1 : Int} (e_l1 : l1.toInt = y_l1) {l2 : Int32} {y_l2 : Int} (e_l2 : l2.toInt = y_l2) {l3 : Int32} {y_l3 : Int} (e_l3 : l3.toInt = y_l3) {l4 : Int32} {y_l4 : Int} (e_l4 : l4.toInt = y_l4) {h : ms_M} (hM_h : Rg_M h), Sm_ RI_ (kk_26 33 l1 l2 l3 l4 (H_M h)) (qkk_26 y_l1 y_l2 y_l3 y_l4 h)) {l1 : Int32} {y_l1 : Int} (e_l1 : l1.toInt = y_l1) {l2 : Int32} {y_l2 : Int} (e_l2 : l2.toInt = y_l2) {l4 : Int32} {y_l4 : Int} (e_l4 : l4.toInt = y_l4) {h : ms_M} (hM_h : Rg_M h) : Sm_ RI_ (j_X0_readBlock_76 nn frc kk_26 33 l1 l2 l4 (H_M h)) (qj_X0_readBlock_76 nn rc qkk_26 y_l1 y_l2 y_l4 h) := by
  unfold j_X0_readBlock_76 qj_X0_readBlock_76
  refine sm_is hM_h rfl ?_
  refine sm_cI (hr.2.2.1 e_l1 hM_h) ?_; intro u9 y_u9 M_u9 e_u9 hM_u9
  refine sm_oq_add e_l4 rfl ?_; intro v10 y_v10 e_v10
  exact hk_kk_26 e_l1 e_l2 e_u9 e_v10 hM_u9
set_option maxRecDepth 4000 in
theorem sw_X0_readBlock_26 (nn : Nat) {frc : tg_X0_readBlock} {rc : tq_X0_readBlock} (hr : hg_X0_readBlock frc rc) : ∀ (k : Nat) {l1 : Int32} {y_l1 : Int} (e_l1 : l1.toInt = y_l1) {l2 : Int32} {y_l2 : Int} (e_l2 : l2.toInt = y_l2) {l3 : Int32} {y_l3 : Int} (e_l3 : l3.toInt = y_l3) {l4 : Int32} {y_l4 : Int} (e_l4 : l4.toInt = y_l4) {h : ms_M} (hM_h : Rg_M h), Sm_ RI_ (w_X0_readBlock_26 nn frc k 33 l1 l2 l3 l4 (H_M h)) (qw_X0_readBlock_26 nn rc k y_l1 y_l2 y_l3 y_l4 h) := by
  intro k
  induction k with
  | zero => intros; exact sm_no
  | succ k ih =>
    intro l1 y_l1 e_l1 l2 y_l2 e_l2 l3 y_l3 e_l3 l4 y_l4 e_l4 h hM_h
    unfold w_X0_readBlock_26 qw_X0_readBlock_26
    refine sm_le rfl e_l4 ?_ ?_
    · exact sj_X0_readBlock_88 nn hr e_l2 e_l3 hM_h
    · refine sm_gr hM_h (d := 2) rfl ?_
      refine sm_gi hM_h rfl ?_; intro v12 e_v12
      refine sm_ne e_v12 rfl ?_ ?_
      · exact sj_X0_readBlock_88 nn hr e_l2 e_l3 hM_h
      · refine sm_gr hM_h (d := 2) rfl ?_
        refine sm_is hM_h rfl ?_
        refine sm_cP (sf_X9_kind nn hM_h) ?_; intro u15 y_u15 e_u15
        refine sm_eq e_u15 rfl ?_ ?_
        · exact sj_X0_readBlock_88 nn hr e_l2 e_l3 hM_h
        · refine sm_ne e_l3 rfl ?_ ?_
          · exact sj_X0_readBlock_76 nn hr ih e_l1 e_l2 e_l4 hM_h
          · refine sm_gr hM_h (d := 2) rfl ?_
            refine sm_gr hM_h (d := 2) rfl ?_
            refine sm_gi hM_h rfl ?_; intro v18 e_v18
            refine sm_is hM_h rfl ?_
            refine sm_cV (sf_X9_tell nn rfl e_v18 hM_h) ?_; intro u20 hM_u20
            exact sj_X0_readBlock_76 nn hr ih e_l1 e_l2 e_l4 hM_u20
set_option maxRecDepth 4000 in
theorem so_X0_readBlock (nn : Nat) {frc : tg_X0_readBlock} {rc : tq_X0_readBlock} (hr : hg_X0_readBlock frc rc) {a1 : Int32} {y_a1 : Int} (e_a1 : a1.toInt = y_a1) {h : ms_M} (hM_h : Rg_M h) : Sm_ RI_ (o_X0_readBlock nn frc 33 a1 (H_M h)) (qo_X0_readBlock nn rc y_a1 h) := by
  unfold o_X0_readBlock qo_X0_readBlock
  refine sm_gr hM_h (d := 34) rfl ?_
  refine sm_gi hM_h rfl ?_; intro v26 e_v26
  refine sm_gr hM_h (d := 2) rfl ?_
  refine sm_gi hM_h rfl ?_; intro v28 e_v28
  refine sm_oq_add e_v28 rfl ?_; intro v29 y_v29 e_v29
  refine sm_pv hM_h rfl e_v29 ?_; intro h30 hM_h30
  exact sw_X0_readBlock_26 nn hr nn e_a1 e_v26 rfl rfl hM_h30
set_option maxRecDepth 4000 in
theorem so_X0_readPart (nn : Nat) {frc : tg_X0_readBlock} {rc : tq_X0_readBlock} (hr : hg_X0_readBlock frc rc) {a1 : Int32} {y_a1 : Int} (e_a1 : a1.toInt = y_a1) {h : ms_M} (hM_h : Rg_M h) : Sm_ RI_ (o_X0_readPart nn frc 33 a1 (H_M h)) (qo_X0_readPart nn rc y_a1 h) := by
  unfold o_X0_readPart qo_X0_readPart
  refine sm_gr hM_h (d := 34) rfl ?_
  refine sm_gi hM_h rfl ?_; intro v2 e_v2
  refine sm_is hM_h rfl ?_
  refine sm_cI (hr.2.2.1 e_a1 hM_h) ?_; intro u4 y_u4 M_u4 e_u4 hM_u4
  refine sm_gr hM_u4 (d := 34) rfl ?_
  refine sm_pv hM_u4 rfl e_v2 ?_; intro h6 hM_h6
  refine sm_bq e_u4 ?_
  exact sm_rI e_u4 hM_h6
set_option maxRecDepth 4000 in
theorem sj_X0_readStatement_217 (nn : Nat) {frc : tg_X0_readBlock} {rc : tq_X0_readBlock} (hr : hg_X0_readBlock frc rc) {l1 : Int32} {y_l1 : Int} (e_l1 : l1.toInt = y_l1) {h : ms_M} (hM_h : Rg_M h) : Sm_ RI_ (j_X0_readStatement_217 nn frc 33 l1 (H_M h)) (qj_X0_readStatement_217 nn rc y_l1 h) := by
  unfold j_X0_readStatement_217 qj_X0_readStatement_217
  refine sm_gr hM_h (d := 2) rfl ?_
  refine sm_is hM_h rfl ?_
  refine sm_cP (sf_X9_beginsVariable nn hM_h) ?_; intro u3 y_u3 e_u3
  refine sm_eq e_u3 rfl ?_ ?_
  · refine sm_oq_add e_l1 rfl ?_; intro v4 y_v4 e_v4
    refine sm_is hM_h rfl ?_
    refine sm_cI (sf_X0_readPlain nn e_v4 hM_h) ?_; intro u6 y_u6 M_u6 e_u6 hM_u6
    refine sm_bq e_u6 ?_
    exact sm_rI e_u6 hM_u6
  · refine sm_oq_add e_l1 rfl ?_; intro v8 y_v8 e_v8
    refine sm_is hM_h rfl ?_
    refine sm_cI (sf_X0_readVariable nn e_v8 hM_h) ?_; intro u10 y_u10 M_u10 e_u10 hM_u10
    refine sm_bq e_u10 ?_
    exact sm_rI e_u10 hM_u10
set_option maxRecDepth 4000 in
theorem sj_X0_readStatement_188 (nn : Nat) {frc : tg_X0_readBlock} {rc : tq_X0_readBlock} (hr : hg_X0_readBlock frc rc) {h : ms_M} (hM_h : Rg_M h) : Sm_ RI_ (j_X0_readStatement_188 nn frc 33 (H_M h)) (qj_X0_readStatement_188 nn rc h) := by
  unfold j_X0_readStatement_188 qj_X0_readStatement_188
  refine sm_is hM_h rfl ?_
  refine sm_cI (sf_X0_readLeave nn hM_h) ?_; intro u14 y_u14 M_u14 e_u14 hM_u14
  refine sm_bq e_u14 ?_
  exact sm_rI e_u14 hM_u14
set_option maxRecDepth 4000 in
theorem so_X0_readStatement (nn : Nat) {frc : tg_X0_readBlock} {rc : tq_X0_readBlock} (hr : hg_X0_readBlock frc rc) {a1 : Int32} {y_a1 : Int} (e_a1 : a1.toInt = y_a1) {h : ms_M} (hM_h : Rg_M h) : Sm_ RI_ (o_X0_readStatement nn frc 33 a1 (H_M h)) (qo_X0_readStatement nn rc y_a1 h) := by
  unfold o_X0_readStatement qo_X0_readStatement
  refine sm_le e_a1 rfl ?_ ?_
  · refine sm_gr hM_h (d := 2) rfl ?_
    refine sm_is hM_h rfl ?_
    refine sm_cP (sf_X9_kind nn hM_h) ?_; intro u18 y_u18 e_u18
    refine sm_eq e_u18 rfl ?_ ?_
    · exact sj_X0_readStatement_188 nn hr hM_h
    · refine sm_eq e_u18 rfl ?_ ?_
      · exact sj_X0_readStatement_188 nn hr hM_h
      · refine sm_eq e_u18 rfl ?_ ?_
        · refine sm_oq_add e_a1 rfl ?_; intro v19 y_v19 e_v19
          refine sm_is hM_h rfl ?_
          refine sm_cI (hr.2.2.2.1 e_v19 hM_h) ?_; intro u21 y_u21 M_u21 e_u21 hM_u21
          refine sm_bq e_u21 ?_
          exact sm_rI e_u21 hM_u21
        · refine sm_eq e_u18 rfl ?_ ?_
          · refine sm_oq_add e_a1 rfl ?_; intro v23 y_v23 e_v23
            refine sm_is hM_h rfl ?_
            refine sm_cI (sf_X0_readPrint nn e_v23 hM_h) ?_; intro u25 y_u25 M_u25 e_u25 hM_u25
            refine sm_bq e_u25 ?_
            exact sm_rI e_u25 hM_u25
          · refine sm_eq e_u18 rfl ?_ ?_
            · refine sm_oq_add e_a1 rfl ?_; intro v27 y_v27 e_v27
              refine sm_is hM_h rfl ?_
              refine sm_cI (sf_X0_readReturn nn e_v27 hM_h) ?_; intro u29 y_u29 M_u29 e_u29 hM_u29
              refine sm_bq e_u29 ?_
              exact sm_rI e_u29 hM_u29
            · refine sm_eq e_u18 rfl ?_ ?_
              · refine sm_oq_add e_a1 rfl ?_; intro v31 y_v31 e_v31
                refine sm_is hM_h rfl ?_
                refine sm_cI (sf_X0_readThrow nn e_v31 hM_h) ?_; intro u33 y_u33 M_u33 e_u33 hM_u33
                refine sm_bq e_u33 ?_
                exact sm_rI e_u33 hM_u33
              · refine sm_eq e_u18 rfl ?_ ?_
                · refine sm_oq_add e_a1 rfl ?_; intro v35 y_v35 e_v35
                  refine sm_is hM_h rfl ?_
                  refine sm_cI (hr.2.2.2.2.2 e_v35 hM_h) ?_; intro u37 y_u37 M_u37 e_u37 hM_u37
                  refine sm_bq e_u37 ?_
                  exact sm_rI e_u37 hM_u37
                · refine sm_eq e_u18 rfl ?_ ?_
                  · refine sm_oq_add e_a1 rfl ?_; intro v39 y_v39 e_v39
                    refine sm_is hM_h rfl ?_
                    refine sm_cI (hr.2.2.2.2.1 e_v39 hM_h) ?_; intro u41 y_u41 M_u41 e_u41 hM_u41
                    refine sm_bq e_u41 ?_
                    exact sm_rI e_u41 hM_u41
                  · refine sm_eq e_u18 rfl ?_ ?_
                    · refine sm_oq_add e_a1 rfl ?_; intro v43 y_v43 e_v43
                      refine sm_is hM_h rfl ?_
                      refine sm_cI (hr.1 e_v43 hM_h) ?_; intro u45 y_u45 M_u45 e_u45 hM_u45
                      refine sm_bq e_u45 ?_
                      exact sm_rI e_u45 hM_u45
                    · exact sj_X0_readStatement_217 nn hr e_a1 hM_h
  · exact sm_rI rfl hM_h
set_option maxRecDepth 4000 in
theorem sj_X0_readIf_99 (nn : Nat) {frc : tg_X0_readBlock} {rc : tq_X0_readBlock} (hr : hg_X0_readBlock frc rc) {l3 : Int32} {y_l3 : Int} (e_l3 : l3.toInt = y_l3) {l5 : Int32} {y_l5 : Int} (e_l5 : l5.toInt = y_l5) {h : ms_M} (hM_h : Rg_M h) : Sm_ RI_ (j_X0_readIf_99 nn frc l3 l5 (H_M h)) (qj_X0_readIf_99 nn rc y_l3 y_l5 h) := by
  unfold j_X0_readIf_99 qj_X0_readIf_99
  refine sm_ne e_l3 rfl ?_ ?_
  · exact sm_rI rfl hM_h
  · refine sm_eq e_l5 rfl ?_ ?_
    · exact sm_rI rfl hM_h
    · exact sm_rI rfl hM_h
set_option maxRecDepth 4000 in
theorem sj_X0_readIf_69 (nn : Nat) {frc : tg_X0_readBlock} {rc : tq_X0_readBlock} (hr : hg_X0_readBlock frc rc) {l1 : Int32} {y_l1 : Int} (e_l1 : l1.toInt = y_l1) {l2 : Int32} {y_l2 : Int} (e_l2 : l2.toInt = y_l2) {l3 : Int32} {y_l3 : Int} (e_l3 : l3.toInt = y_l3) {s0 : Int32} {y_s0 : Int} (e_s0 : s0.toInt = y_s0) {h : ms_M} (hM_h : Rg_M h) : Sm_ RI_ (j_X0_readIf_69 nn frc 33 l1 l2 l3 s0 (H_M h)) (qj_X0_readIf_69 nn rc y_l1 y_l2 y_l3 y_s0 h) := by
  unfold j_X0_readIf_69 qj_X0_readIf_69
  refine sm_gr hM_h (d := 34) rfl ?_
  refine sm_is hM_h rfl ?_
  refine sm_cV (sf_X1_aimHere nn e_l2 hM_h) ?_; intro u5 hM_u5
  refine sm_is hM_u5 rfl ?_
  refine sm_cI (hr.2.1 e_l1 hM_u5) ?_; intro u7 y_u7 M_u7 e_u7 hM_u7
  refine sm_eq e_l3 rfl ?_ ?_
  · exact sj_X0_readIf_99 nn hr e_l3 e_u7 hM_u7
  · refine sm_gr hM_u7 (d := 34) rfl ?_
    refine sm_is hM_u7 rfl ?_
    refine sm_cV (sf_X1_aimHere nn e_s0 hM_u7) ?_; intro u10 hM_u10
    exact sj_X0_readIf_99 nn hr e_l3 e_u7 hM_u10
set_option maxRecDepth 4000 in
theorem so_X0_readIf (nn : Nat) {frc : tg_X0_readBlock} {rc : tq_X0_readBlock} (hr : hg_X0_readBlock frc rc) {a1 : Int32} {y_a1 : Int} (e_a1 : a1.toInt = y_a1) {h : ms_M} (hM_h : Rg_M h) : Sm_ RI_ (o_X0_readIf nn frc 33 a1 (H_M h)) (qo_X0_readIf nn rc y_a1 h) := by
  unfold o_X0_readIf qo_X0_readIf
  refine sm_gr hM_h (d := 49) rfl ?_
  refine sm_is hM_h rfl ?_
  refine sm_cI (sf_X10_readCondition nn e_a1 hM_h) ?_; intro u14 y_u14 M_u14 e_u14 hM_u14
  refine sm_is hM_u14 rfl ?_
  refine sm_cI (hr.2.1 e_a1 hM_u14) ?_; intro u16 y_u16 M_u16 e_u16 hM_u16
  refine sm_gr hM_u16 (d := 2) rfl ?_
  refine sm_is hM_u16 rfl ?_
  refine sm_cP (sf_X9_kind nn hM_u16) ?_; intro u19 y_u19 e_u19
  refine sm_eq e_u19 rfl ?_ ?_
  · refine sm_gr hM_u16 (d := 2) rfl ?_
    refine sm_gi hM_u16 rfl ?_; intro v21 e_v21
    refine sm_oq_add e_v21 rfl ?_; intro v22 y_v22 e_v22
    refine sm_pv hM_u16 rfl e_v22 ?_; intro h23 hM_h23
    refine sm_eq e_u16 rfl ?_ ?_
    · exact sj_X0_readIf_69 nn hr e_a1 e_u14 e_u16 rfl hM_h23
    · refine sm_gr hM_h23 (d := 34) rfl ?_
      refine sm_is hM_h23 rfl ?_
      refine sm_cI (sf_X1_jump nn rfl rfl hM_h23) ?_; intro u26 y_u26 M_u26 e_u26 hM_u26
      exact sj_X0_readIf_69 nn hr e_a1 e_u14 e_u16 e_u26 hM_u26
  · refine sm_gr hM_u16 (d := 34) rfl ?_
    refine sm_is hM_u16 rfl ?_
    refine sm_cV (sf_X1_aimHere nn e_u14 hM_u16) ?_; intro u30 hM_u30
    exact sm_rI rfl hM_u30
set_option maxRecDepth 4000 in
theorem sj_X0_readWhile_187 (nn : Nat) {frc : tg_X0_readBlock} {rc : tq_X0_readBlock} (hr : hg_X0_readBlock frc rc) {l2 : Int32} {y_l2 : Int} (e_l2 : l2.toInt = y_l2) {l3 : Int32} {y_l3 : Int} (e_l3 : l3.toInt = y_l3) {l4 : Int32} {y_l4 : Int} (e_l4 : l4.toInt = y_l4) {l8 : Int32} {y_l8 : Int} (e_l8 : l8.toInt = y_l8) {h : ms_M} (hM_h : Rg_M h) : Sm_ RI_ (j_X0_readWhile_187 nn frc 33 l2 l3 l4 l8 (H_M h)) (qj_X0_readWhile_187 nn rc y_l2 y_l3 y_l4 y_l8 h) := by
  unfold j_X0_readWhile_187 qj_X0_readWhile_187
  refine sm_pv hM_h rfl e_l4 ?_; intro h1 hM_h1
  refine sm_pv hM_h1 rfl e_l2 ?_; intro h2 hM_h2
  refine sm_pv hM_h2 rfl e_l3 ?_; intro h3 hM_h3
  refine sm_bq e_l8 ?_
  exact sm_rI e_l8 hM_h3
set_option maxRecDepth 4000 in
theorem sw_X0_readWhile_148 (nn : Nat) {frc : tg_X0_readBlock} {rc : tq_X0_readBlock} (hr : hg_X0_readBlock frc rc) : ∀ (k : Nat) {l2 : Int32} {y_l2 : Int} (e_l2 : l2.toInt = y_l2) {l3 : Int32} {y_l3 : Int} (e_l3 : l3.toInt = y_l3) {l4 : Int32} {y_l4 : Int} (e_l4 : l4.toInt = y_l4) {l8 : Int32} {y_l8 : Int} (e_l8 : l8.toInt = y_l8) {l9 : Int32} {y_l9 : Int} (e_l9 : l9.toInt = y_l9) {h : ms_M} (hM_h : Rg_M h), Sm_ RI_ (w_X0_readWhile_148 nn frc k 33 l2 l3 l4 l8 l9 (H_M h)) (qw_X0_readWhile_148 nn rc k y_l2 y_l3 y_l4 y_l8 y_l9 h) := by
  intro k
  induction k with
  | zero => intros; exact sm_no
  | succ k ih =>
    intro l2 y_l2 e_l2 l3 y_l3 e_l3 l4 y_l4 e_l4 l8 y_l8 e_l8 l9 y_l9 e_l9 h hM_h
    unfold w_X0_readWhile_148 qw_X0_readWhile_148
    refine sm_gi hM_h rfl ?_; intro v5 e_v5
    refine sm_le e_v5 e_l9 ?_ ?_
    · exact sj_X0_readWhile_187 nn hr e_l2 e_l3 e_l4 e_l8 hM_h
    · refine sm_gr hM_h (d := 44) rfl ?_
      refine sm_ln hM_h (z := 500) rfl ?_; intro v7 e_v7
      refine sm_le e_v7 e_l9 ?_ ?_
      · exact sj_X0_readWhile_187 nn hr e_l2 e_l3 e_l4 e_l8 hM_h
      · refine sm_gr hM_h (d := 34) rfl ?_
        refine sm_gr hM_h (d := 44) rfl ?_
        refine sm_ai hM_h rfl e_l9 ?_; intro v10 y_v10 e_v10
        refine sm_is hM_h rfl ?_
        refine sm_cV (sf_X1_aimHere nn e_v10 hM_h) ?_; intro u12 hM_u12
        refine sm_oq_add e_l9 rfl ?_; intro v13 y_v13 e_v13
        exact ih e_l2 e_l3 e_l4 e_l8 e_v13 hM_u12
set_option maxRecDepth 4000 in
theorem sj_X0_readWhile_128 (nn : Nat) {frc : tg_X0_readBlock} {rc : tq_X0_readBlock} (hr : hg_X0_readBlock frc rc) {l2 : Int32} {y_l2 : Int} (e_l2 : l2.toInt = y_l2) {l3 : Int32} {y_l3 : Int} (e_l3 : l3.toInt = y_l3) {l4 : Int32} {y_l4 : Int} (e_l4 : l4.toInt = y_l4) {l5 : Int32} {y_l5 : Int} (e_l5 : l5.toInt = y_l5) {l7 : Int32} {y_l7 : Int} (e_l7 : l7.toInt = y_l7) {s0 : Int32} {y_s0 : Int} (e_s0 : s0.toInt = y_s0) {h : ms_M} (hM_h : Rg_M h) : Sm_ RI_ (j_X0_readWhile_128 nn frc 33 l2 l3 l4 l5 l7 s0 (H_M h)) (qj_X0_readWhile_128 nn rc y_l2 y_l3 y_l4 y_l5 y_l7 y_s0 h) := by
  unfold j_X0_readWhile_128 qj_X0_readWhile_128
  refine sm_ne e_l5 rfl ?_ ?_
  · exact sw_X0_readWhile_148 nn hr nn e_l2 e_l3 e_l4 e_s0 e_l4 hM_h
  · refine sm_gr hM_h (d := 34) rfl ?_
    refine sm_is hM_h rfl ?_
    refine sm_cV (sf_X1_aimHere nn e_l7 hM_h) ?_; intro u18 hM_u18
    exact sw_X0_readWhile_148 nn hr nn e_l2 e_l3 e_l4 e_s0 e_l4 hM_u18
set_option maxRecDepth 4000 in
theorem sj_X0_readWhile_123 (nn : Nat) {frc : tg_X0_readBlock} {rc : tq_X0_readBlock} (hr : hg_X0_readBlock frc rc) {l2 : Int32} {y_l2 : Int} (e_l2 : l2.toInt = y_l2) {l3 : Int32} {y_l3 : Int} (e_l3 : l3.toInt = y_l3) {l4 : Int32} {y_l4 : Int} (e_l4 : l4.toInt = y_l4) {l5 : Int32} {y_l5 : Int} (e_l5 : l5.toInt = y_l5) {l7 : Int32} {y_l7 : Int} (e_l7 : l7.toInt = y_l7) {h : ms_M} (hM_h : Rg_M h) : Sm_ RI_ (j_X0_readWhile_123 nn frc 33 l2 l3 l4 l5 l7 (H_M h)) (qj_X0_readWhile_123 nn rc y_l2 y_l3 y_l4 y_l5 y_l7 h) := by
  unfold j_X0_readWhile_123 qj_X0_readWhile_123
  exact sj_X0_readWhile_128 nn hr e_l2 e_l3 e_l4 e_l5 e_l7 rfl hM_h
set_option maxRecDepth 4000 in
theorem sj_X0_readWhile_109 (nn : Nat) {frc : tg_X0_readBlock} {rc : tq_X0_readBlock} (hr : hg_X0_readBlock frc rc) {l2 : Int32} {y_l2 : Int} (e_l2 : l2.toInt = y_l2) {l3 : Int32} {y_l3 : Int} (e_l3 : l3.toInt = y_l3) {l4 : Int32} {y_l4 : Int} (e_l4 : l4.toInt = y_l4) {l5 : Int32} {y_l5 : Int} (e_l5 : l5.toInt = y_l5) {l7 : Int32} {y_l7 : Int} (e_l7 : l7.toInt = y_l7) {h : ms_M} (hM_h : Rg_M h) : Sm_ RI_ (j_X0_readWhile_109 nn frc 33 l2 l3 l4 l5 l7 (H_M h)) (qj_X0_readWhile_109 nn rc y_l2 y_l3 y_l4 y_l5 y_l7 h) := by
  unfold j_X0_readWhile_109 qj_X0_readWhile_109
  refine sm_eq e_l5 rfl ?_ ?_
  · exact sj_X0_readWhile_123 nn hr e_l2 e_l3 e_l4 e_l5 e_l7 hM_h
  · refine sm_gi hM_h rfl ?_; intro v20 e_v20
    refine sm_le e_v20 e_l4 ?_ ?_
    · exact sj_X0_readWhile_128 nn hr e_l2 e_l3 e_l4 e_l5 e_l7 rfl hM_h
    · exact sj_X0_readWhile_123 nn hr e_l2 e_l3 e_l4 e_l5 e_l7 hM_h
set_option maxRecDepth 4000 in
theorem sj_X0_readWhile_68 (nn : Nat) {frc : tg_X0_readBlock} {rc : tq_X0_readBlock} (hr : hg_X0_readBlock frc rc) {l1 : Int32} {y_l1 : Int} (e_l1 : l1.toInt = y_l1) {l2 : Int32} {y_l2 : Int} (e_l2 : l2.toInt = y_l2) {l3 : Int32} {y_l3 : Int} (e_l3 : l3.toInt = y_l3) {l4 : Int32} {y_l4 : Int} (e_l4 : l4.toInt = y_l4) {l5 : Int32} {y_l5 : Int} (e_l5 : l5.toInt = y_l5) {l6 : Int32} {y_l6 : Int} (e_l6 : l6.toInt = y_l6) {l7 : Int32} {y_l7 : Int} (e_l7 : l7.toInt = y_l7) {h : ms_M} (hM_h : Rg_M h) : Sm_ RI_ (j_X0_readWhile_68 nn frc 33 l1 l2 l3 l4 l5 l6 l7 (H_M h)) (qj_X0_readWhile_68 nn rc y_l1 y_l2 y_l3 y_l4 y_l5 y_l6 y_l7 h) := by
  unfold j_X0_readWhile_68 qj_X0_readWhile_68
  refine sm_pv hM_h rfl e_l6 ?_; intro h23 hM_h23
  refine sm_gr hM_h23 (d := 34) rfl ?_
  refine sm_gi hM_h23 rfl ?_; intro v25 e_v25
  refine sm_pv hM_h23 rfl e_v25 ?_; intro h26 hM_h26
  refine sm_is hM_h26 rfl ?_
  refine sm_cI (hr.2.1 e_l1 hM_h26) ?_; intro u28 y_u28 M_u28 e_u28 hM_u28
  refine sm_eq e_u28 rfl ?_ ?_
  · exact sj_X0_readWhile_109 nn hr e_l2 e_l3 e_l4 e_l5 e_l7 hM_u28
  · refine sm_gr hM_u28 (d := 34) rfl ?_
    refine sm_gr hM_u28 (d := 34) rfl ?_
    refine sm_gi hM_u28 rfl ?_; intro v31 e_v31
    refine sm_is hM_u28 rfl ?_
    refine sm_cV (sf_X1_jumpBack nn e_l6 e_v31 hM_u28) ?_; intro u33 hM_u33
    exact sj_X0_readWhile_109 nn hr e_l2 e_l3 e_l4 e_l5 e_l7 hM_u33
set_option maxRecDepth 4000 in
theorem so_X0_readWhile (nn : Nat) {frc : tg_X0_readBlock} {rc : tq_X0_readBlock} (hr : hg_X0_readBlock frc rc) {a1 : Int32} {y_a1 : Int} (e_a1 : a1.toInt = y_a1) {h : ms_M} (hM_h : Rg_M h) : Sm_ RI_ (o_X0_readWhile nn frc 33 a1 (H_M h)) (qo_X0_readWhile nn rc y_a1 h) := by
  unfold o_X0_readWhile qo_X0_readWhile
  refine sm_gi hM_h rfl ?_; intro v35 e_v35
  refine sm_gi hM_h rfl ?_; intro v36 e_v36
  refine sm_gi hM_h rfl ?_; intro v37 e_v37
  refine sm_gr hM_h (d := 2) rfl ?_
  refine sm_is hM_h rfl ?_
  refine sm_cP (sf_X9_isWhileTrue nn hM_h) ?_; intro u40 y_u40 e_u40
  refine sm_gr hM_h (d := 34) rfl ?_
  refine sm_gi hM_h rfl ?_; intro v42 e_v42
  refine sm_eq e_u40 rfl ?_ ?_
  · refine sm_gr hM_h (d := 49) rfl ?_
    refine sm_is hM_h rfl ?_
    refine sm_cI (sf_X10_readCondition nn e_a1 hM_h) ?_; intro u45 y_u45 M_u45 e_u45 hM_u45
    exact sj_X0_readWhile_68 nn hr e_a1 e_v35 e_v36 e_v37 e_u40 e_v42 e_u45 hM_u45
  · refine sm_gr hM_h (d := 2) rfl ?_
    refine sm_gi hM_h rfl ?_; intro v47 e_v47
    refine sm_oq_add e_v47 rfl ?_; intro v48 y_v48 e_v48
    refine sm_pv hM_h rfl e_v48 ?_; intro h49 hM_h49
    exact sj_X0_readWhile_68 nn hr e_a1 e_v35 e_v36 e_v37 e_u40 e_v42 rfl hM_h49
set_option maxRecDepth 4000 in
theorem sj_X0_readTry_228 (nn : Nat) {frc : tg_X0_readBlock} {rc : tq_X0_readBlock} (hr : hg_X0_readBlock frc rc) {l3 : Int32} {y_l3 : Int} (e_l3 : l3.toInt = y_l3) {l9 : Int32} {y_l9 : Int} (e_l9 : l9.toInt = y_l9) {h : ms_M} (hM_h : Rg_M h) : Sm_ RI_ (j_X0_readTry_228 nn frc l3 l9 (H_M h)) (qj_X0_readTry_228 nn rc y_l3 y_l9 h) := by
  unfold j_X0_readTry_228 qj_X0_readTry_228
  refine sm_ne e_l3 rfl ?_ ?_
  · exact sm_rI rfl hM_h
  · refine sm_eq e_l9 rfl ?_ ?_
    · exact sm_rI rfl hM_h
    · exact sm_rI rfl hM_h
set_option maxRecDepth 4000 in
theorem sj_X0_readTry_130 (nn : Nat) {frc : tg_X0_readBlock} {rc : tq_X0_readBlock} (hr : hg_X0_readBlock frc rc) {l1 : Int32} {y_l1 : Int} (e_l1 : l1.toInt = y_l1) {l2 : Int32} {y_l2 : Int} (e_l2 : l2.toInt = y_l2) {l3 : Int32} {y_l3 : Int} (e_l3 : l3.toInt = y_l3) {l4 : Int32} {y_l4 : Int} (e_l4 : l4.toInt = y_l4) {l5 : Int32} {y_l5 : Int} (e_l5 : l5.toInt = y_l5) {l6 : Int32} {y_l6 : Int} (e_l6 : l6.toInt = y_l6) {l7 : Int32} {y_l7 : Int} (e_l7 : l7.toInt = y_l7) {h : ms_M} (hM_h : Rg_M h) : Sm_ RI_ (j_X0_readTry_130 nn frc 33 l1 l2 l3 l4 l5 l6 l7 (H_M h)) (qj_X0_readTry_130 nn rc y_l1 y_l2 y_l3 y_l4 y_l5 y_l6 y_l7 h) := by
  unfold j_X0_readTry_130 qj_X0_readTry_130
  refine sm_oq_add e_l6 rfl ?_; intro v3 y_v3 e_v3
  refine sm_is hM_h rfl ?_
  refine sm_cV (sf_X0_checkTwice nn e_v3 hM_h) ?_; intro u5 hM_u5
  refine sm_gr hM_u5 (d := 34) rfl ?_
  refine sm_is hM_u5 rfl ?_
  refine sm_cV (sf_X1_addHandler nn e_l2 e_l4 e_l7 hM_u5) ?_; intro u8 hM_u8
  refine sm_gr hM_u8 (d := 34) rfl ?_
  refine sm_gi hM_u8 rfl ?_; intro v10 e_v10
  refine sm_gr hM_u8 (d := 34) rfl ?_
  refine sm_gr hM_u8 (d := 34) rfl ?_
  refine sm_gr hM_u8 (d := 2) rfl ?_
  refine sm_oq_add e_l6 rfl ?_; intro v14 y_v14 e_v14
  refine sm_is hM_u8 rfl ?_
  refine sm_cP (sf_X9_valueAt nn e_v14 hM_u8) ?_; intro u16 y_u16 e_u16
  refine sm_is hM_u8 rfl ?_
  refine sm_cI (sf_X1_addLocal nn e_u16 e_l7 hM_u8) ?_; intro u18 y_u18 M_u18 e_u18 hM_u18
  refine sm_is hM_u18 rfl ?_
  refine sm_cV (sf_X1_store nn e_u18 e_l7 hM_u18) ?_; intro u20 hM_u20
  refine sm_gr hM_u20 (d := 2) rfl ?_
  refine sm_oq_add e_l6 rfl ?_; intro v22 y_v22 e_v22
  refine sm_pv hM_u20 rfl e_v22 ?_; intro h23 hM_h23
  refine sm_is hM_h23 rfl ?_
  refine sm_cI (hr.1 e_l1 hM_h23) ?_; intro u25 y_u25 M_u25 e_u25 hM_u25
  refine sm_gr hM_u25 (d := 34) rfl ?_
  refine sm_pv hM_u25 rfl e_v10 ?_; intro h27 hM_h27
  refine sm_eq e_l3 rfl ?_ ?_
  · exact sj_X0_readTry_228 nn hr e_l3 e_u25 hM_h27
  · refine sm_gr hM_h27 (d := 34) rfl ?_
    refine sm_is hM_h27 rfl ?_
    refine sm_cV (sf_X1_aimHere nn e_l5 hM_h27) ?_; intro u30 hM_u30
    exact sj_X0_readTry_228 nn hr e_l3 e_u25 hM_u30
set_option maxRecDepth 4000 in
theorem sj_X0_readTry_63 (nn : Nat) {frc : tg_X0_readBlock} {rc : tq_X0_readBlock} (hr : hg_X0_readBlock frc rc) {l1 : Int32} {y_l1 : Int} (e_l1 : l1.toInt = y_l1) {l2 : Int32} {y_l2 : Int} (e_l2 : l2.toInt = y_l2) {l3 : Int32} {y_l3 : Int} (e_l3 : l3.toInt = y_l3) {l4 : Int32} {y_l4 : Int} (e_l4 : l4.toInt = y_l4) {s0 : Int32} {y_s0 : Int} (e_s0 : s0.toInt = y_s0) {h : ms_M} (hM_h : Rg_M h) : Sm_ RI_ (j_X0_readTry_63 nn frc 33 l1 l2 l3 l4 s0 (H_M h)) (qj_X0_readTry_63 nn rc y_l1 y_l2 y_l3 y_l4 y_s0 h) := by
  unfold j_X0_readTry_63 qj_X0_readTry_63
  refine sm_gr hM_h (d := 2) rfl ?_
  refine sm_gi hM_h rfl ?_; intro v33 e_v33
  refine sm_oq_add e_v33 rfl ?_; intro v34 y_v34 e_v34
  refine sm_gr hM_h (d := 11) rfl ?_
  refine sm_is hM_h rfl ?_
  refine sm_cP (sf_X2_classAt nn e_v34 hM_h) ?_; intro u37 y_u37 e_u37
  refine sm_ne e_u37 rfl ?_ ?_
  · refine sm_gr hM_h (d := 12) rfl ?_
    refine sm_is hM_h rfl ?_
    refine sm_cP (sf_X4_fits nn _ rfl e_u37 rfl hM_h) ?_; intro u40 y_u40 e_u40
    refine sm_ne e_u40 rfl ?_ ?_
    · exact sj_X0_readTry_130 nn hr e_l1 e_l2 e_l3 e_l4 e_s0 e_v34 e_u37 hM_h
    · refine sm_gr hM_h (d := 2) rfl ?_
      refine sm_is hM_h rfl ?_
      refine sm_cV (sf_X9_tell nn rfl e_v34 hM_h) ?_; intro u43 hM_u43
      exact sj_X0_readTry_130 nn hr e_l1 e_l2 e_l3 e_l4 e_s0 e_v34 e_u37 hM_u43
  · refine sm_gr hM_h (d := 2) rfl ?_
    refine sm_is hM_h rfl ?_
    refine sm_cV (sf_X9_tell nn rfl e_v34 hM_h) ?_; intro u47 hM_u47
    exact sj_X0_readTry_130 nn hr e_l1 e_l2 e_l3 e_l4 e_s0 e_v34 e_u37 hM_u47
set_option maxRecDepth 4000 in
theorem so_X0_readTry (nn : Nat) {frc : tg_X0_readBlock} {rc : tq_X0_readBlock} (hr : hg_X0_readBlock frc rc) {a1 : Int32} {y_a1 : Int} (e_a1 : a1.toInt = y_a1) {h : ms_M} (hM_h : Rg_M h) : Sm_ RI_ (o_X0_readTry nn frc 33 a1 (H_M h)) (qo_X0_readTry nn rc y_a1 h) := by
  unfold o_X0_readTry qo_X0_readTry
  refine sm_gr hM_h (d := 34) rfl ?_
  refine sm_gi hM_h rfl ?_; intro v50 e_v50
  refine sm_gr hM_h (d := 2) rfl ?_
  refine sm_gi hM_h rfl ?_; intro v52 e_v52
  refine sm_oq_add e_v52 rfl ?_; intro v53 y_v53 e_v53
  refine sm_pv hM_h rfl e_v53 ?_; intro h54 hM_h54
  refine sm_gr hM_h54 (d := 34) rfl ?_
  refine sm_is hM_h54 rfl ?_
  refine sm_cV (sf_X1_op nn rfl hM_h54) ?_; intro u57 hM_u57
  refine sm_is hM_u57 rfl ?_
  refine sm_cI (hr.1 e_a1 hM_u57) ?_; intro u59 y_u59 M_u59 e_u59 hM_u59
  refine sm_gr hM_u59 (d := 34) rfl ?_
  refine sm_gi hM_u59 rfl ?_; intro v61 e_v61
  refine sm_eq e_u59 rfl ?_ ?_
  · exact sj_X0_readTry_63 nn hr e_a1 e_v50 e_u59 e_v61 rfl hM_u59
  · refine sm_gr hM_u59 (d := 34) rfl ?_
    refine sm_is hM_u59 rfl ?_
    refine sm_cI (sf_X1_jump nn rfl rfl hM_u59) ?_; intro u64 y_u64 M_u64 e_u64 hM_u64
    exact sj_X0_readTry_63 nn hr e_a1 e_v50 e_u59 e_v61 e_u64 hM_u64
set_option maxRecDepth 4000 in
theorem sg_X0_readBlock (nn : Nat) : ∀ d, hg_X0_readBlock (g_X0_readBlock nn d) (qg_X0_readBlock nn d) := by
  intro d
  induction d with
  | zero => exact ⟨(by intros; exact sm_no), (by intros; exact sm_no), (by intros; exact sm_no), (by intros; exact sm_no), (by intros; exact sm_no), (by intros; exact sm_no)⟩
  | succ d ih => exact ⟨so_X0_readBlock nn ih, so_X0_readPart nn ih, so_X0_readStatement nn ih, so_X0_readIf nn ih, so_X0_readWhile nn ih, so_X0_readTry nn ih⟩
set_option maxRecDepth 4000 in
theorem sf_X0_readBlock (nn : Nat) {a1 : Int32} {y_a1 : Int} (e_a1 : a1.toInt = y_a1) {h : ms_M} (hM_h : Rg_M h) : Sm_ RI_ (f_X0_readBlock nn 33 a1 (H_M h)) (qf_X0_readBlock nn y_a1 h) := (sg_X0_readBlock nn 240).1 e_a1 hM_h
set_option maxRecDepth 4000 in
theorem sf_X0_readPart (nn : Nat) {a1 : Int32} {y_a1 : Int} (e_a1 : a1.toInt = y_a1) {h : ms_M} (hM_h : Rg_M h) : Sm_ RI_ (f_X0_readPart nn 33 a1 (H_M h)) (qf_X0_readPart nn y_a1 h) := (sg_X0_readBlock nn 240).2.1 e_a1 hM_h
set_option maxRecDepth 4000 in
theorem sf_X0_readStatement (nn : Nat) {a1 : Int32} {y_a1 : Int} (e_a1 : a1.toInt = y_a1) {h : ms_M} (hM_h : Rg_M h) : Sm_ RI_ (f_X0_readStatement nn 33 a1 (H_M h)) (qf_X0_readStatement nn y_a1 h) := (sg_X0_readBlock nn 240).2.2.1 e_a1 hM_h
set_option maxRecDepth 4000 in
theorem sf_X0_readIf (nn : Nat) {a1 : Int32} {y_a1 : Int} (e_a1 : a1.toInt = y_a1) {h : ms_M} (hM_h : Rg_M h) : Sm_ RI_ (f_X0_readIf nn 33 a1 (H_M h)) (qf_X0_readIf nn y_a1 h) := (sg_X0_readBlock nn 240).2.2.2.1 e_a1 hM_h
set_option maxRecDepth 4000 in
theorem sf_X0_readWhile (nn : Nat) {a1 : Int32} {y_a1 : Int} (e_a1 : a1.toInt = y_a1) {h : ms_M} (hM_h : Rg_M h) : Sm_ RI_ (f_X0_readWhile nn 33 a1 (H_M h)) (qf_X0_readWhile nn y_a1 h) := (sg_X0_readBlock nn 240).2.2.2.2.1 e_a1 hM_h
set_option maxRecDepth 4000 in
theorem sf_X0_readTry (nn : Nat) {a1 : Int32} {y_a1 : Int} (e_a1 : a1.toInt = y_a1) {h : ms_M} (hM_h : Rg_M h) : Sm_ RI_ (f_X0_readTry nn 33 a1 (H_M h)) (qf_X0_readTry nn y_a1 h) := (sg_X0_readBlock nn 240).2.2.2.2.2 e_a1 hM_h
set_option maxRecDepth 4000 in
theorem sf_X10_beginMethod (nn : Nat) {a1 : Int32} {y_a1 : Int} (e_a1 : a1.toInt = y_a1) {a2 : Int32} {y_a2 : Int} (e_a2 : a2.toInt = y_a2) {h : ms_M} (hM_h : Rg_M h) : Sm_ RV_ (f_X10_beginMethod nn 49 a1 a2 (H_M h)) (qf_X10_beginMethod nn y_a1 y_a2 h) := by
  unfold f_X10_beginMethod qf_X10_beginMethod
  refine sm_pv hM_h rfl e_a1 ?_; intro h1 hM_h1
  refine sm_bq e_a2 ?_
  refine sm_pv hM_h1 rfl e_a2 ?_; intro h3 hM_h3
  refine sm_pv hM_h3 rfl rfl ?_; intro h4 hM_h4
  refine sm_pv hM_h4 rfl rfl ?_; intro h5 hM_h5
  exact sm_rV hM_h5
set_option maxRecDepth 4000 in
theorem sf_X1_beginMethod (nn : Nat) {h : ms_M} (hM_h : Rg_M h) : Sm_ RV_ (f_X1_beginMethod nn 34 (H_M h)) (qf_X1_beginMethod nn h) := by
  unfold f_X1_beginMethod qf_X1_beginMethod
  refine sm_pv hM_h rfl rfl ?_; intro h1 hM_h1
  refine sm_pv hM_h1 rfl rfl ?_; intro h2 hM_h2
  refine sm_pv hM_h2 rfl rfl ?_; intro h3 hM_h3
  refine sm_pv hM_h3 rfl rfl ?_; intro h4 hM_h4
  refine sm_pv hM_h4 rfl rfl ?_; intro h5 hM_h5
  refine sm_pv hM_h5 rfl rfl ?_; intro h6 hM_h6
  refine sm_pv hM_h6 rfl rfl ?_; intro h7 hM_h7
  refine sm_pv hM_h7 rfl rfl ?_; intro h8 hM_h8
  exact sm_rV hM_h8
set_option maxRecDepth 4000 in
theorem sf_X1_isTooMuch (nn : Nat) {h : ms_M} (hM_h : Rg_M h) : Sm_ (RP_ h) (f_X1_isTooMuch nn 34 (H_M h)) (qf_X1_isTooMuch nn h) := by
  unfold f_X1_isTooMuch qf_X1_isTooMuch
  refine sm_gi hM_h rfl ?_; intro v1 e_v1
  refine sm_ne e_v1 rfl ?_ ?_
  · exact sm_rP rfl
  · refine sm_gi hM_h rfl ?_; intro v2 e_v2
    refine sm_lt rfl e_v2 ?_ ?_
    · exact sm_rP rfl
    · refine sm_gi hM_h rfl ?_; intro v3 e_v3
      refine sm_lt rfl e_v3 ?_ ?_
      · exact sm_rP rfl
      · refine sm_gi hM_h rfl ?_; intro v4 e_v4
        refine sm_le e_v4 rfl ?_ ?_
        · exact sm_rP rfl
        · exact sm_rP rfl
set_option maxRecDepth 4000 in
theorem sw_X1_writeTypes_3 (nn : Nat) : ∀ (k : Nat) {l2 : Int32} {y_l2 : Int} (e_l2 : l2.toInt = y_l2) {l3 : Int32} {y_l3 : Int} (e_l3 : l3.toInt = y_l3) {l4 : Int32} {y_l4 : Int} (e_l4 : l4.toInt = y_l4) {h : ms_M} (hM_h : Rg_M h), Sm_ RV_ (w_X1_writeTypes_3 nn k 34 45 l2 l3 l4 (H_M h)) (qw_X1_writeTypes_3 nn k y_l2 y_l3 y_l4 h) := by
  intro k
  induction k with
  | zero => intros; exact sm_no
  | succ k ih =>
    intro l2 y_l2 e_l2 l3 y_l3 e_l3 l4 y_l4 e_l4 h hM_h
    unfold w_X1_writeTypes_3 qw_X1_writeTypes_3
    refine sm_oq_add e_l2 e_l3 ?_; intro v1 y_v1 e_v1
    refine sm_le e_v1 e_l4 ?_ ?_
    · exact sm_rV hM_h
    · refine sm_gr hM_h (d := 41) rfl ?_
      refine sm_ln hM_h (z := 5200) rfl ?_; intro v3 e_v3
      refine sm_le e_v3 e_l4 ?_ ?_
      · exact sm_rV hM_h
      · refine sm_gr hM_h (d := 41) rfl ?_
        refine sm_ai hM_h rfl e_l4 ?_; intro v5 y_v5 e_v5
        refine sm_cP (sf_X4_isNumber nn e_v5 hM_h) ?_; intro u6 y_u6 e_u6
        refine sm_eq e_u6 rfl ?_ ?_
        · refine sm_ne e_v5 rfl ?_ ?_
          · refine sm_is hM_h rfl ?_
            refine sm_cV (sf_X6_put nn rfl hM_h) ?_; intro u8 hM_u8
            refine sm_is hM_u8 rfl ?_
            refine sm_cI (sf_X6_classOf nn e_v5 hM_u8) ?_; intro u10 y_u10 M_u10 e_u10 hM_u10
            refine sm_is hM_u10 rfl ?_
            refine sm_cV (sf_X6_put nn e_u10 hM_u10) ?_; intro u12 hM_u12
            refine sm_oq_add e_l4 rfl ?_; intro v13 y_v13 e_v13
            exact ih e_l2 e_l3 e_v13 hM_u12
          · refine sm_is hM_h rfl ?_
            refine sm_cV (sf_X6_put nn rfl hM_h) ?_; intro u15 hM_u15
            refine sm_oq_add e_l4 rfl ?_; intro v16 y_v16 e_v16
            exact ih e_l2 e_l3 e_v16 hM_u15
        · refine sm_is hM_h rfl ?_
          refine sm_cV (sf_X6_put nn rfl hM_h) ?_; intro u19 hM_u19
          refine sm_oq_add e_l4 rfl ?_; intro v20 y_v20 e_v20
          exact ih e_l2 e_l3 e_v20 hM_u19
set_option maxRecDepth 4000 in
theorem sf_X1_writeTypes (nn : Nat) {a2 : Int32} {y_a2 : Int} (e_a2 : a2.toInt = y_a2) {a3 : Int32} {y_a3 : Int} (e_a3 : a3.toInt = y_a3) {h : ms_M} (hM_h : Rg_M h) : Sm_ RV_ (f_X1_writeTypes nn 34 45 a2 a3 (H_M h)) (qf_X1_writeTypes nn y_a2 y_a3 h) := by
  unfold f_X1_writeTypes qf_X1_writeTypes
  exact sw_X1_writeTypes_3 nn nn e_a2 e_a3 e_a2 hM_h
set_option maxRecDepth 4000 in
theorem sf_X6_putPair (nn : Nat) {a1 : Int32} {y_a1 : Int} (e_a1 : a1.toInt = y_a1) {h : ms_M} (hM_h : Rg_M h) : Sm_ RV_ (f_X6_putPair nn 45 a1 (H_M h)) (qf_X6_putPair nn y_a1 h) := by
  unfold f_X6_putPair qf_X6_putPair
  refine sm_oq_shr e_a1 rfl ?_; intro v1 y_v1 e_v1
  refine sm_is hM_h rfl ?_
  refine sm_cV (sf_X6_put nn e_v1 hM_h) ?_; intro u3 hM_u3
  refine sm_is hM_u3 rfl ?_
  refine sm_cV (sf_X6_put nn e_a1 hM_u3) ?_; intro u5 hM_u5
  exact sm_rV hM_u5
set_option maxRecDepth 4000 in
theorem sf_X1_writeFrame (nn : Nat) {a2 : Int32} {y_a2 : Int} (e_a2 : a2.toInt = y_a2) {h : ms_M} (hM_h : Rg_M h) : Sm_ RV_ (f_X1_writeFrame nn 34 45 a2 (H_M h)) (qf_X1_writeFrame nn y_a2 h) := by
  unfold f_X1_writeFrame qf_X1_writeFrame
  refine sm_oq_mul e_a2 rfl ?_; intro v1 y_v1 e_v1
  refine sm_gr hM_h (d := 41) rfl ?_
  refine sm_ai hM_h rfl e_v1 ?_; intro v3 y_v3 e_v3
  refine sm_gr hM_h (d := 41) rfl ?_
  refine sm_oq_add e_v1 rfl ?_; intro v5 y_v5 e_v5
  refine sm_ai hM_h rfl e_v5 ?_; intro v6 y_v6 e_v6
  refine sm_gr hM_h (d := 40) rfl ?_
  refine sm_ai hM_h rfl e_a2 ?_; intro v8 y_v8 e_v8
  refine sm_is hM_h rfl ?_
  refine sm_cV (sf_X6_putPair nn e_v8 hM_h) ?_; intro u10 hM_u10
  refine sm_is hM_u10 rfl ?_
  refine sm_cV (sf_X6_put nn e_v3 hM_u10) ?_; intro u12 hM_u12
  refine sm_oq_add e_v1 rfl ?_; intro v13 y_v13 e_v13
  refine sm_is hM_u12 rfl ?_
  refine sm_cV (sf_X1_writeTypes nn e_v13 e_v3 hM_u12) ?_; intro u15 hM_u15
  refine sm_is hM_u15 rfl ?_
  refine sm_cV (sf_X6_put nn e_v6 hM_u15) ?_; intro u17 hM_u17
  refine sm_oq_add e_v1 rfl ?_; intro v18 y_v18 e_v18
  refine sm_oq_add e_v18 e_v3 ?_; intro v19 y_v19 e_v19
  refine sm_is hM_u17 rfl ?_
  refine sm_cV (sf_X1_writeTypes nn e_v19 e_v6 hM_u17) ?_; intro u21 hM_u21
  exact sm_rV hM_u21
set_option maxRecDepth 4000 in
theorem sw_X1_writeTo_147 (nn : Nat) : ∀ (k : Nat) {l2 : Int32} {y_l2 : Int} (e_l2 : l2.toInt = y_l2) {h : ms_M} (hM_h : Rg_M h), Sm_ RV_ (w_X1_writeTo_147 nn k 34 45 l2 (H_M h)) (qw_X1_writeTo_147 nn k y_l2 h) := by
  intro k
  induction k with
  | zero => intros; exact sm_no
  | succ k ih =>
    intro l2 y_l2 e_l2 h hM_h
    unfold w_X1_writeTo_147 qw_X1_writeTo_147
    refine sm_gi hM_h rfl ?_; intro v1 e_v1
    refine sm_le e_v1 e_l2 ?_ ?_
    · exact sm_rV hM_h
    · refine sm_gr hM_h (d := 42) rfl ?_
      refine sm_ai hM_h rfl e_l2 ?_; intro v3 y_v3 e_v3
      refine sm_is hM_h rfl ?_
      refine sm_cV (sf_X1_writeFrame nn e_v3 hM_h) ?_; intro u5 hM_u5
      refine sm_oq_add e_l2 rfl ?_; intro v6 y_v6 e_v6
      exact ih e_v6 hM_u5
set_option maxRecDepth 4000 in
theorem sw_X1_writeTo_69 (nn : Nat) : ∀ (k : Nat) {l2 : Int32} {y_l2 : Int} (e_l2 : l2.toInt = y_l2) {h : ms_M} (hM_h : Rg_M h), Sm_ RV_ (w_X1_writeTo_69 nn k 34 45 l2 (H_M h)) (qw_X1_writeTo_69 nn k y_l2 h) := by
  intro k
  induction k with
  | zero => intros; exact sm_no
  | succ k ih =>
    intro l2 y_l2 e_l2 h hM_h
    unfold w_X1_writeTo_69 qw_X1_writeTo_69
    refine sm_gi hM_h rfl ?_; intro v8 e_v8
    refine sm_le e_v8 e_l2 ?_ ?_
    · refine sm_gi hM_h rfl ?_; intro v9 e_v9
      refine sm_is hM_h rfl ?_
      refine sm_cV (sf_X6_put nn e_v9 hM_h) ?_; intro u11 hM_u11
      exact sw_X1_writeTo_147 nn nn rfl hM_u11
    · refine sm_oq_mul e_l2 rfl ?_; intro v12 y_v12 e_v12
      refine sm_gr hM_h (d := 39) rfl ?_
      refine sm_ai hM_h rfl e_v12 ?_; intro v14 y_v14 e_v14
      refine sm_is hM_h rfl ?_
      refine sm_cV (sf_X6_putPair nn e_v14 hM_h) ?_; intro u16 hM_u16
      refine sm_gr hM_u16 (d := 39) rfl ?_
      refine sm_oq_add e_v12 rfl ?_; intro v18 y_v18 e_v18
      refine sm_ai hM_u16 rfl e_v18 ?_; intro v19 y_v19 e_v19
      refine sm_is hM_u16 rfl ?_
      refine sm_cV (sf_X6_putPair nn e_v19 hM_u16) ?_; intro u21 hM_u21
      refine sm_gr hM_u21 (d := 39) rfl ?_
      refine sm_oq_add e_v12 rfl ?_; intro v23 y_v23 e_v23
      refine sm_ai hM_u21 rfl e_v23 ?_; intro v24 y_v24 e_v24
      refine sm_is hM_u21 rfl ?_
      refine sm_cV (sf_X6_putPair nn e_v24 hM_u21) ?_; intro u26 hM_u26
      refine sm_gr hM_u26 (d := 39) rfl ?_
      refine sm_oq_add e_v12 rfl ?_; intro v28 y_v28 e_v28
      refine sm_ai hM_u26 rfl e_v28 ?_; intro v29 y_v29 e_v29
      refine sm_is hM_u26 rfl ?_
      refine sm_cI (sf_X6_classOf nn e_v29 hM_u26) ?_; intro u31 y_u31 M_u31 e_u31 hM_u31
      refine sm_is hM_u31 rfl ?_
      refine sm_cV (sf_X6_put nn e_u31 hM_u31) ?_; intro u33 hM_u33
      refine sm_oq_add e_l2 rfl ?_; intro v34 y_v34 e_v34
      exact ih e_v34 hM_u33
set_option maxRecDepth 4000 in
theorem sj_X1_writeTo_59 (nn : Nat) {h : ms_M} (hM_h : Rg_M h) : Sm_ RV_ (j_X1_writeTo_59 nn 34 45 (H_M h)) (qj_X1_writeTo_59 nn h) := by
  unfold j_X1_writeTo_59 qj_X1_writeTo_59
  refine sm_gi hM_h rfl ?_; intro v36 e_v36
  refine sm_is hM_h rfl ?_
  refine sm_cV (sf_X6_put nn e_v36 hM_h) ?_; intro u38 hM_u38
  exact sw_X1_writeTo_69 nn nn rfl hM_u38
set_option maxRecDepth 4000 in
theorem sw_X1_writeTo_26 (nn : Nat) : ∀ (k : Nat) {l2 : Int32} {y_l2 : Int} (e_l2 : l2.toInt = y_l2) {h : ms_M} (hM_h : Rg_M h), Sm_ RV_ (w_X1_writeTo_26 nn k 34 45 l2 (H_M h)) (qw_X1_writeTo_26 nn k y_l2 h) := by
  intro k
  induction k with
  | zero => intros; exact sm_no
  | succ k ih =>
    intro l2 y_l2 e_l2 h hM_h
    unfold w_X1_writeTo_26 qw_X1_writeTo_26
    refine sm_gi hM_h rfl ?_; intro v39 e_v39
    refine sm_le e_v39 e_l2 ?_ ?_
    · exact sj_X1_writeTo_59 nn hM_h
    · refine sm_gr hM_h (d := 35) rfl ?_
      refine sm_ln hM_h (z := 1500) rfl ?_; intro v41 e_v41
      refine sm_le e_v41 e_l2 ?_ ?_
      · exact sj_X1_writeTo_59 nn hM_h
      · refine sm_gr hM_h (d := 35) rfl ?_
        refine sm_ab hM_h rfl e_l2 ?_; intro v43 y_v43 e_v43
        refine sm_is hM_h rfl ?_
        refine sm_cV (sf_X6_put nn e_v43 hM_h) ?_; intro u45 hM_u45
        refine sm_oq_add e_l2 rfl ?_; intro v46 y_v46 e_v46
        exact ih e_v46 hM_u45
set_option maxRecDepth 4000 in
theorem sf_X1_writeTo (nn : Nat) {h : ms_M} (hM_h : Rg_M h) : Sm_ RV_ (f_X1_writeTo nn 34 45 (H_M h)) (qf_X1_writeTo nn h) := by
  unfold f_X1_writeTo qf_X1_writeTo
  refine sm_gi hM_h rfl ?_; intro v49 e_v49
  refine sm_is hM_h rfl ?_
  refine sm_cV (sf_X6_put nn e_v49 hM_h) ?_; intro u51 hM_u51
  refine sm_gi hM_u51 rfl ?_; intro v52 e_v52
  refine sm_is hM_u51 rfl ?_
  refine sm_cV (sf_X6_put nn e_v52 hM_u51) ?_; intro u54 hM_u54
  refine sm_gi hM_u54 rfl ?_; intro v55 e_v55
  refine sm_is hM_u54 rfl ?_
  refine sm_cV (sf_X6_putPair nn e_v55 hM_u54) ?_; intro u57 hM_u57
  exact sw_X1_writeTo_26 nn nn rfl hM_u57
set_option maxRecDepth 4000 in
theorem sf_X2_bodyOf (nn : Nat) {a1 : Int32} {y_a1 : Int} (e_a1 : a1.toInt = y_a1) {h : ms_M} (hM_h : Rg_M h) : Sm_ (RP_ h) (f_X2_bodyOf nn 11 a1 (H_M h)) (qf_X2_bodyOf nn y_a1 h) := by
  unfold f_X2_bodyOf qf_X2_bodyOf
  refine sm_is hM_h rfl ?_
  refine sm_cP (sf_X2_isMethod nn e_a1 hM_h) ?_; intro u2 y_u2 e_u2
  refine sm_eq e_u2 rfl ?_ ?_
  · exact sm_rP rfl
  · refine sm_gr hM_h (d := 23) rfl ?_
    refine sm_ai hM_h rfl e_a1 ?_; intro v4 y_v4 e_v4
    exact sm_rP e_v4
set_option maxRecDepth 4000 in
theorem sf_X2_parameterName (nn : Nat) {a1 : Int32} {y_a1 : Int} (e_a1 : a1.toInt = y_a1) {a2 : Int32} {y_a2 : Int} (e_a2 : a2.toInt = y_a2) {h : ms_M} (hM_h : Rg_M h) : Sm_ (RP_ h) (f_X2_parameterName nn 11 a1 a2 (H_M h)) (qf_X2_parameterName nn y_a1 y_a2 h) := by
  unfold f_X2_parameterName qf_X2_parameterName
  refine sm_lt e_a2 rfl ?_ ?_
  · exact sm_rP rfl
  · refine sm_is hM_h rfl ?_
    refine sm_cP (sf_X2_parametersOf nn e_a1 hM_h) ?_; intro u2 y_u2 e_u2
    refine sm_le e_u2 e_a2 ?_ ?_
    · exact sm_rP rfl
    · refine sm_gr hM_h (d := 28) rfl ?_
      refine sm_oq_mul e_a1 rfl ?_; intro v4 y_v4 e_v4
      refine sm_oq_add e_v4 e_a2 ?_; intro v5 y_v5 e_v5
      refine sm_ai hM_h rfl e_v5 ?_; intro v6 y_v6 e_v6
      exact sm_rP e_v6
set_option maxRecDepth 4000 in
theorem sf_X2_tokenOfMethod (nn : Nat) {a1 : Int32} {y_a1 : Int} (e_a1 : a1.toInt = y_a1) {h : ms_M} (hM_h : Rg_M h) : Sm_ (RP_ h) (f_X2_tokenOfMethod nn 11 a1 (H_M h)) (qf_X2_tokenOfMethod nn y_a1 h) := by
  unfold f_X2_tokenOfMethod qf_X2_tokenOfMethod
  refine sm_is hM_h rfl ?_
  refine sm_cP (sf_X2_isMethod nn e_a1 hM_h) ?_; intro u2 y_u2 e_u2
  refine sm_eq e_u2 rfl ?_ ?_
  · exact sm_rP rfl
  · refine sm_gr hM_h (d := 22) rfl ?_
    refine sm_ai hM_h rfl e_a1 ?_; intro v4 y_v4 e_v4
    exact sm_rP e_v4
set_option maxRecDepth 4000 in
theorem sj_X6_beginMethod_17 (nn : Nat) {l1 : Int32} {y_l1 : Int} (e_l1 : l1.toInt = y_l1) {s0 : Int32} {y_s0 : Int} (e_s0 : s0.toInt = y_s0) {h : ms_M} (hM_h : Rg_M h) : Sm_ RV_ (j_X6_beginMethod_17 nn 45 l1 s0 45 (H_M h)) (qj_X6_beginMethod_17 nn y_l1 y_s0 h) := by
  unfold j_X6_beginMethod_17 qj_X6_beginMethod_17
  refine sm_is hM_h rfl ?_
  refine sm_cV (sf_X6_put nn e_s0 hM_h) ?_; intro u2 hM_u2
  refine sm_gr hM_u2 (d := 11) rfl ?_
  refine sm_is hM_u2 rfl ?_
  refine sm_cP (sf_X2_nameOfMethod nn e_l1 hM_u2) ?_; intro u5 y_u5 e_u5
  refine sm_is hM_u2 rfl ?_
  refine sm_cI (sf_X6_constant nn rfl e_u5 hM_u2) ?_; intro u7 y_u7 M_u7 e_u7 hM_u7
  refine sm_is hM_u7 rfl ?_
  refine sm_cV (sf_X6_put nn e_u7 hM_u7) ?_; intro u9 hM_u9
  refine sm_gr hM_u9 (d := 11) rfl ?_
  refine sm_is hM_u9 rfl ?_
  refine sm_cP (sf_X2_kindOfMethod nn e_l1 hM_u9) ?_; intro u12 y_u12 e_u12
  refine sm_is hM_u9 rfl ?_
  refine sm_cI (sf_X6_constant nn rfl e_u12 hM_u9) ?_; intro u14 y_u14 M_u14 e_u14 hM_u14
  refine sm_is hM_u14 rfl ?_
  refine sm_cV (sf_X6_put nn e_u14 hM_u14) ?_; intro u16 hM_u16
  exact sm_rV hM_u16
set_option maxRecDepth 4000 in
theorem sf_X6_beginMethod (nn : Nat) {a1 : Int32} {y_a1 : Int} (e_a1 : a1.toInt = y_a1) {h : ms_M} (hM_h : Rg_M h) : Sm_ RV_ (f_X6_beginMethod nn 45 a1 (H_M h)) (qf_X6_beginMethod nn y_a1 h) := by
  unfold f_X6_beginMethod qf_X6_beginMethod
  refine sm_gr hM_h (d := 11) rfl ?_
  refine sm_is hM_h rfl ?_
  refine sm_cP (sf_X2_isFixed nn e_a1 hM_h) ?_; intro u19 y_u19 e_u19
  refine sm_eq e_u19 rfl ?_ ?_
  · exact sj_X6_beginMethod_17 nn e_a1 rfl hM_h
  · exact sj_X6_beginMethod_17 nn e_a1 rfl hM_h
set_option maxRecDepth 4000 in
theorem sj_X0_makeMethod_199 (nn : Nat) {l3 : Int32} {y_l3 : Int} (e_l3 : l3.toInt = y_l3) {h : ms_M} (hM_h : Rg_M h) : Sm_ RV_ (j_X0_makeMethod_199 nn 33 l3 (H_M h)) (qj_X0_makeMethod_199 nn y_l3 h) := by
  unfold j_X0_makeMethod_199 qj_X0_makeMethod_199
  refine sm_gr hM_h (d := 34) rfl ?_
  refine sm_gr hM_h (d := 45) rfl ?_
  refine sm_is hM_h rfl ?_
  refine sm_cV (sf_X1_writeTo nn hM_h) ?_; intro u4 hM_u4
  refine sm_gr hM_u4 (d := 34) rfl ?_
  refine sm_is hM_u4 rfl ?_
  refine sm_cP (sf_X1_isTooMuch nn hM_u4) ?_; intro u7 y_u7 e_u7
  refine sm_gr hM_u4 (d := 11) rfl ?_
  refine sm_is hM_u4 rfl ?_
  refine sm_cP (sf_X2_tokenOfMethod nn e_l3 hM_u4) ?_; intro u10 y_u10 e_u10
  refine sm_is hM_u4 rfl ?_
  refine sm_cV (sf_X0_noteMuch nn e_u7 e_u10 hM_u4) ?_; intro u12 hM_u12
  exact sm_rV hM_u12
set_option maxRecDepth 4000 in
theorem sj_X0_makeMethod_189 (nn : Nat) {l3 : Int32} {y_l3 : Int} (e_l3 : l3.toInt = y_l3) {h : ms_M} (hM_h : Rg_M h) : Sm_ RV_ (j_X0_makeMethod_189 nn 33 l3 (H_M h)) (qj_X0_makeMethod_189 nn y_l3 h) := by
  unfold j_X0_makeMethod_189 qj_X0_makeMethod_189
  refine sm_gr hM_h (d := 34) rfl ?_
  refine sm_is hM_h rfl ?_
  refine sm_cV (sf_X1_op nn rfl hM_h) ?_; intro u15 hM_u15
  exact sj_X0_makeMethod_199 nn e_l3 hM_u15
set_option maxRecDepth 4000 in
theorem sw_X0_makeMethod_70 (nn : Nat) : ∀ (k : Nat) {l3 : Int32} {y_l3 : Int} (e_l3 : l3.toInt = y_l3) {l5 : Int32} {y_l5 : Int} (e_l5 : l5.toInt = y_l5) {h : ms_M} (hM_h : Rg_M h), Sm_ RV_ (w_X0_makeMethod_70 nn k 33 l3 l5 (H_M h)) (qw_X0_makeMethod_70 nn k y_l3 y_l5 h) := by
  intro k
  induction k with
  | zero => intros; exact sm_no
  | succ k ih =>
    intro l3 y_l3 e_l3 l5 y_l5 e_l5 h hM_h
    unfold w_X0_makeMethod_70 qw_X0_makeMethod_70
    refine sm_gr hM_h (d := 11) rfl ?_
    refine sm_is hM_h rfl ?_
    refine sm_cP (sf_X2_parametersOf nn e_l3 hM_h) ?_; intro u18 y_u18 e_u18
    refine sm_le e_u18 e_l5 ?_ ?_
    · refine sm_gr hM_h (d := 11) rfl ?_
      refine sm_is hM_h rfl ?_
      refine sm_cP (sf_X2_resultOf nn e_l3 hM_h) ?_; intro u21 y_u21 e_u21
      refine sm_pv hM_h rfl e_u21 ?_; intro h22 hM_h22
      refine sm_pv hM_h22 rfl rfl ?_; intro h23 hM_h23
      refine sm_pv hM_h23 rfl rfl ?_; intro h24 hM_h24
      refine sm_gr hM_h24 (d := 2) rfl ?_
      refine sm_gr hM_h24 (d := 11) rfl ?_
      refine sm_is hM_h24 rfl ?_
      refine sm_cP (sf_X2_bodyOf nn e_l3 hM_h24) ?_; intro u28 y_u28 e_u28
      refine sm_pv hM_h24 rfl e_u28 ?_; intro h29 hM_h29
      refine sm_is hM_h29 rfl ?_
      refine sm_cI (sf_X0_readBlock nn rfl hM_h29) ?_; intro u31 y_u31 M_u31 e_u31 hM_u31
      refine sm_eq e_u31 rfl ?_ ?_
      · exact sj_X0_makeMethod_199 nn e_l3 hM_u31
      · refine sm_gi hM_u31 rfl ?_; intro v32 e_v32
        refine sm_eq e_v32 rfl ?_ ?_
        · exact sj_X0_makeMethod_189 nn e_l3 hM_u31
        · refine sm_gr hM_u31 (d := 2) rfl ?_
          refine sm_gr hM_u31 (d := 11) rfl ?_
          refine sm_is hM_u31 rfl ?_
          refine sm_cP (sf_X2_tokenOfMethod nn e_l3 hM_u31) ?_; intro u36 y_u36 e_u36
          refine sm_is hM_u31 rfl ?_
          refine sm_cV (sf_X9_tell nn rfl e_u36 hM_u31) ?_; intro u38 hM_u38
          exact sj_X0_makeMethod_189 nn e_l3 hM_u38
    · refine sm_gr hM_h (d := 34) rfl ?_
      refine sm_gr hM_h (d := 11) rfl ?_
      refine sm_is hM_h rfl ?_
      refine sm_cP (sf_X2_parameterName nn e_l3 e_l5 hM_h) ?_; intro u44 y_u44 e_u44
      refine sm_gr hM_h (d := 11) rfl ?_
      refine sm_is hM_h rfl ?_
      refine sm_cP (sf_X2_parameterType nn e_l3 e_l5 hM_h) ?_; intro u47 y_u47 e_u47
      refine sm_is hM_h rfl ?_
      refine sm_cI (sf_X1_addLocal nn e_u44 e_u47 hM_h) ?_; intro u49 y_u49 M_u49 e_u49 hM_u49
      refine sm_oq_add e_l5 rfl ?_; intro v50 y_v50 e_v50
      exact ih e_l3 e_v50 hM_u49
set_option maxRecDepth 4000 in
theorem sf_X0_makeMethod (nn : Nat) {a1 : Int32} {y_a1 : Int} (e_a1 : a1.toInt = y_a1) {a2 : Int32} {y_a2 : Int} (e_a2 : a2.toInt = y_a2) {h : ms_M} (hM_h : Rg_M h) : Sm_ RV_ (f_X0_makeMethod nn 33 a1 a2 (H_M h)) (qf_X0_makeMethod nn y_a1 y_a2 h) := by
  unfold f_X0_makeMethod qf_X0_makeMethod
  refine sm_oq_mul e_a1 rfl ?_; intro v52 y_v52 e_v52
  refine sm_oq_add e_v52 e_a2 ?_; intro v53 y_v53 e_v53
  refine sm_oq_add rfl e_a1 ?_; intro v54 y_v54 e_v54
  refine sm_gr hM_h (d := 45) rfl ?_
  refine sm_is hM_h rfl ?_
  refine sm_cV (sf_X6_beginMethod nn e_v53 hM_h) ?_; intro u57 hM_u57
  refine sm_gr hM_u57 (d := 34) rfl ?_
  refine sm_is hM_u57 rfl ?_
  refine sm_cV (sf_X1_beginMethod nn hM_u57) ?_; intro u60 hM_u60
  refine sm_gr hM_u60 (d := 49) rfl ?_
  refine sm_gr hM_u60 (d := 11) rfl ?_
  refine sm_is hM_u60 rfl ?_
  refine sm_cP (sf_X2_isFixed nn e_v53 hM_u60) ?_; intro u64 y_u64 e_u64
  refine sm_is hM_u60 rfl ?_
  refine sm_cV (sf_X10_beginMethod nn e_v54 e_u64 hM_u60) ?_; intro u66 hM_u66
  refine sm_gr hM_u66 (d := 11) rfl ?_
  refine sm_is hM_u66 rfl ?_
  refine sm_cP (sf_X2_isFixed nn e_v53 hM_u66) ?_; intro u69 y_u69 e_u69
  refine sm_ne e_u69 rfl ?_ ?_
  · exact sw_X0_makeMethod_70 nn nn e_v53 rfl hM_u66
  · refine sm_gr hM_u66 (d := 34) rfl ?_
    refine sm_is hM_u66 rfl ?_
    refine sm_cI (sf_X1_addLocal nn rfl e_v54 hM_u66) ?_; intro u72 y_u72 M_u72 e_u72 hM_u72
    exact sw_X0_makeMethod_70 nn nn e_v53 rfl hM_u72
set_option maxRecDepth 4000 in
theorem sf_X0_made (nn : Nat) {a1 : Int32} {y_a1 : Int} (e_a1 : a1.toInt = y_a1) {h : ms_M} (hM_h : Rg_M h) : Sm_ (RQ_ h) (f_X0_made nn 33 a1 (H_M h)) (qf_X0_made nn y_a1 h) := by
  unfold f_X0_made qf_X0_made
  refine sm_lt e_a1 rfl ?_ ?_
  · exact sm_rQn
  · refine sm_gr hM_h (d := 43) rfl ?_
    refine sm_ln hM_h (z := 8) rfl ?_; intro v2 e_v2
    refine sm_le e_v2 e_a1 ?_ ?_
    · exact sm_rQn
    · refine sm_gr hM_h (d := 43) rfl ?_
      refine sm_aq hM_h rfl e_a1 ?_; intro y_v4
      exact sm_rQo
set_option maxRecDepth 4000 in
theorem sw_X12_takeImages_13 (nn : Nat) : ∀ (k : Nat) {l1 : Int32} {y_l1 : Int} (e_l1 : l1.toInt = y_l1) {h : ms_M} (hM_h : Rg_M h), Sm_ RI_ (w_X12_takeImages_13 nn k 0 l1 (H_M h)) (qw_X12_takeImages_13 nn k y_l1 h) := by
  intro k
  induction k with
  | zero => intros; exact sm_no
  | succ k ih =>
    intro l1 y_l1 e_l1 h hM_h
    unfold w_X12_takeImages_13 qw_X12_takeImages_13
    refine sm_gi hM_h rfl ?_; intro v1 e_v1
    refine sm_le e_v1 e_l1 ?_ ?_
    · refine sm_gi hM_h rfl ?_; intro v2 e_v2
      exact sm_rI e_v2 hM_h
    · refine sm_gr hM_h (d := 55) rfl ?_
      refine sm_ln hM_h (z := 8) rfl ?_; intro v4 e_v4
      refine sm_le e_v4 e_l1 ?_ ?_
      · refine sm_gi hM_h rfl ?_; intro v5 e_v5
        exact sm_rI e_v5 hM_h
      · refine sm_gr hM_h (d := 55) rfl ?_
        refine sm_gr hM_h (d := 33) rfl ?_
        refine sm_is hM_h rfl ?_
        refine sm_cQ (sf_X0_made nn e_l1 hM_h) ?_; intro y_u9
        refine sm_sqB hM_h rfl e_l1 ?_; intro h10 hM_h10
        refine sm_oq_add e_l1 rfl ?_; intro v11 y_v11 e_v11
        exact ih e_v11 hM_h10
set_option maxRecDepth 4000 in
theorem sf_X12_takeImages (nn : Nat) {h : ms_M} (hM_h : Rg_M h) : Sm_ RI_ (f_X12_takeImages nn 0 (H_M h)) (qf_X12_takeImages nn h) := by
  unfold f_X12_takeImages qf_X12_takeImages
  refine sm_gr hM_h (d := 11) rfl ?_
  refine sm_gi hM_h rfl ?_; intro v15 e_v15
  refine sm_pv hM_h rfl e_v15 ?_; intro h16 hM_h16
  exact sw_X12_takeImages_13 nn nn rfl hM_h16
set_option maxRecDepth 4000 in
theorem sj_X2_checkOverride_131 (nn : Nat) {l1 : Int32} {y_l1 : Int} (e_l1 : l1.toInt = y_l1) {l3 : Int32} {y_l3 : Int} (e_l3 : l3.toInt = y_l3) {h : ms_M} (hM_h : Rg_M h) : Sm_ RV_ (j_X2_checkOverride_131 nn 11 l1 l3 (H_M h)) (qj_X2_checkOverride_131 nn y_l1 y_l3 h) := by
  unfold j_X2_checkOverride_131 qj_X2_checkOverride_131
  refine sm_ne e_l3 rfl ?_ ?_
  · exact sm_rV hM_h
  · refine sm_gr hM_h (d := 2) rfl ?_
    refine sm_gr hM_h (d := 22) rfl ?_
    refine sm_ai hM_h rfl e_l1 ?_; intro v3 y_v3 e_v3
    refine sm_is hM_h rfl ?_
    refine sm_cV (sf_X9_tell nn rfl e_v3 hM_h) ?_; intro u5 hM_u5
    exact sm_rV hM_u5
set_option maxRecDepth 4000 in
theorem sw_X2_checkOverride_87 (nn : Nat) : ∀ (k : Nat) {l1 : Int32} {y_l1 : Int} (e_l1 : l1.toInt = y_l1) {l2 : Int32} {y_l2 : Int} (e_l2 : l2.toInt = y_l2) {l3 : Int32} {y_l3 : Int} (e_l3 : l3.toInt = y_l3) {l4 : Int32} {y_l4 : Int} (e_l4 : l4.toInt = y_l4) {h : ms_M} (hM_h : Rg_M h), Sm_ RV_ (w_X2_checkOverride_87 nn k 11 l1 l2 l3 l4 (H_M h)) (qw_X2_checkOverride_87 nn k y_l1 y_l2 y_l3 y_l4 h) := by
  intro k
  induction k with
  | zero => intros; exact sm_no
  | succ k ih =>
    intro l1 y_l1 e_l1 l2 y_l2 e_l2 l3 y_l3 e_l3 l4 y_l4 e_l4 h hM_h
    unfold w_X2_checkOverride_87 qw_X2_checkOverride_87
    refine sm_gr hM_h (d := 27) rfl ?_
    refine sm_ai hM_h rfl e_l1 ?_; intro v8 y_v8 e_v8
    refine sm_le e_v8 e_l4 ?_ ?_
    · exact sj_X2_checkOverride_131 nn e_l1 e_l3 hM_h
    · refine sm_eq e_l3 rfl ?_ ?_
      · exact sj_X2_checkOverride_131 nn e_l1 e_l3 hM_h
      · refine sm_is hM_h rfl ?_
        refine sm_cP (sf_X2_parameterType nn e_l1 e_l4 hM_h) ?_; intro u10 y_u10 e_u10
        refine sm_is hM_h rfl ?_
        refine sm_cP (sf_X2_parameterType nn e_l2 e_l4 hM_h) ?_; intro u12 y_u12 e_u12
        refine sm_ne e_u10 e_u12 ?_ ?_
        · refine sm_oq_add e_l4 rfl ?_; intro v13 y_v13 e_v13
          exact ih e_l1 e_l2 rfl e_v13 hM_h
        · refine sm_oq_add e_l4 rfl ?_; intro v14 y_v14 e_v14
          exact ih e_l1 e_l2 rfl e_v14 hM_h
set_option maxRecDepth 4000 in
theorem sj_X2_checkOverride_82 (nn : Nat) {l1 : Int32} {y_l1 : Int} (e_l1 : l1.toInt = y_l1) {l2 : Int32} {y_l2 : Int} (e_l2 : l2.toInt = y_l2) {h : ms_M} (hM_h : Rg_M h) : Sm_ RV_ (j_X2_checkOverride_82 nn 11 l1 l2 (H_M h)) (qj_X2_checkOverride_82 nn y_l1 y_l2 h) := by
  unfold j_X2_checkOverride_82 qj_X2_checkOverride_82
  exact sw_X2_checkOverride_87 nn nn e_l1 e_l2 rfl rfl hM_h
set_option maxRecDepth 4000 in
theorem sf_X2_checkOverride (nn : Nat) {a1 : Int32} {y_a1 : Int} (e_a1 : a1.toInt = y_a1) {h : ms_M} (hM_h : Rg_M h) : Sm_ RV_ (f_X2_checkOverride nn 11 a1 (H_M h)) (qf_X2_checkOverride nn y_a1 h) := by
  unfold f_X2_checkOverride qf_X2_checkOverride
  refine sm_gr hM_h (d := 12) rfl ?_
  refine sm_div e_a1 ⟨rfl, by decide⟩ ?_; intro v19 y_v19 e_v19
  refine sm_oq_add rfl e_v19 ?_; intro v20 y_v20 e_v20
  refine sm_is hM_h rfl ?_
  refine sm_cP (sf_X4_above nn _ rfl e_v20 hM_h) ?_; intro u22 y_u22 e_u22
  refine sm_is hM_h rfl ?_
  refine sm_cP (sf_X2_nameOfMethod nn e_a1 hM_h) ?_; intro u24 y_u24 e_u24
  refine sm_is hM_h rfl ?_
  refine sm_cP (sf_X2_methodOf nn e_u22 e_u24 hM_h) ?_; intro u26 y_u26 e_u26
  refine sm_ne e_u26 rfl ?_ ?_
  · refine sm_gr hM_h (d := 25) rfl ?_
    refine sm_ab hM_h rfl e_a1 ?_; intro v28 y_v28 e_v28
    refine sm_ne e_v28 rfl ?_ ?_
    · exact sj_X2_checkOverride_82 nn e_a1 e_u26 hM_h
    · refine sm_gr hM_h (d := 25) rfl ?_
      refine sm_ab hM_h rfl e_u26 ?_; intro v30 y_v30 e_v30
      refine sm_ne e_v30 rfl ?_ ?_
      · exact sj_X2_checkOverride_82 nn e_a1 e_u26 hM_h
      · refine sm_gr hM_h (d := 24) rfl ?_
        refine sm_ai hM_h rfl e_a1 ?_; intro v32 y_v32 e_v32
        refine sm_gr hM_h (d := 24) rfl ?_
        refine sm_ai hM_h rfl e_u26 ?_; intro v34 y_v34 e_v34
        refine sm_ne e_v32 e_v34 ?_ ?_
        · exact sj_X2_checkOverride_82 nn e_a1 e_u26 hM_h
        · refine sm_gr hM_h (d := 27) rfl ?_
          refine sm_ai hM_h rfl e_a1 ?_; intro v36 y_v36 e_v36
          refine sm_gr hM_h (d := 27) rfl ?_
          refine sm_ai hM_h rfl e_u26 ?_; intro v38 y_v38 e_v38
          refine sm_ne e_v36 e_v38 ?_ ?_
          · exact sj_X2_checkOverride_82 nn e_a1 e_u26 hM_h
          · exact sw_X2_checkOverride_87 nn nn e_a1 e_u26 rfl rfl hM_h
  · exact sm_rV hM_h
set_option maxRecDepth 4000 in
theorem sw_X2_checkOverrides_2 (nn : Nat) : ∀ (k : Nat) {l1 : Int32} {y_l1 : Int} (e_l1 : l1.toInt = y_l1) {h : ms_M} (hM_h : Rg_M h), Sm_ RV_ (w_X2_checkOverrides_2 nn k 11 l1 (H_M h)) (qw_X2_checkOverrides_2 nn k y_l1 h) := by
  intro k
  induction k with
  | zero => intros; exact sm_no
  | succ k ih =>
    intro l1 y_l1 e_l1 h hM_h
    unfold w_X2_checkOverrides_2 qw_X2_checkOverrides_2
    refine sm_gr hM_h (d := 22) rfl ?_
    refine sm_ln hM_h (z := 96) rfl ?_; intro v2 e_v2
    refine sm_le e_v2 e_l1 ?_ ?_
    · exact sm_rV hM_h
    · refine sm_gr hM_h (d := 2) rfl ?_
      refine sm_gi hM_h rfl ?_; intro v4 e_v4
      refine sm_ne e_v4 rfl ?_ ?_
      · exact sm_rV hM_h
      · refine sm_is hM_h rfl ?_
        refine sm_cP (sf_X2_isMethod nn e_l1 hM_h) ?_; intro u6 y_u6 e_u6
        refine sm_eq e_u6 rfl ?_ ?_
        · refine sm_oq_add e_l1 rfl ?_; intro v7 y_v7 e_v7
          exact ih e_v7 hM_h
        · refine sm_is hM_h rfl ?_
          refine sm_cV (sf_X2_checkOverride nn e_l1 hM_h) ?_; intro u9 hM_u9
          refine sm_oq_add e_l1 rfl ?_; intro v10 y_v10 e_v10
          exact ih e_v10 hM_u9
set_option maxRecDepth 4000 in
theorem sf_X2_checkOverrides (nn : Nat) {h : ms_M} (hM_h : Rg_M h) : Sm_ RV_ (f_X2_checkOverrides nn 11 (H_M h)) (qf_X2_checkOverrides nn h) := by
  unfold f_X2_checkOverrides qf_X2_checkOverrides
  exact sw_X2_checkOverrides_2 nn nn rfl hM_h
set_option maxRecDepth 4000 in
theorem sf_X2_forget (nn : Nat) {h : ms_M} (hM_h : Rg_M h) : Sm_ RV_ (f_X2_forget nn 11 (H_M h)) (qf_X2_forget nn h) := by
  unfold f_X2_forget qf_X2_forget
  refine sm_pv hM_h rfl rfl ?_; intro h1 hM_h1
  refine sm_gr hM_h1 (d := 17) rfl ?_
  refine sm_cV (sf_J7_fill_53178 nn _ rfl hM_h1) ?_; intro u3 hM_u3
  refine sm_gr hM_u3 (d := 21) rfl ?_
  refine sm_cV (sf_J7_fill_53178 nn _ rfl hM_u3) ?_; intro u5 hM_u5
  refine sm_gr hM_u5 (d := 12) rfl ?_
  refine sm_is hM_u5 rfl ?_
  refine sm_cV (sf_X4_forget nn _ rfl hM_u5) ?_; intro u8 hM_u8
  exact sm_rV hM_u8
