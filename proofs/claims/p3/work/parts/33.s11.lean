set_option maxRecDepth 4000 in
theorem sj_X13_makeLoop_126 (nn : Nat) {frc : tg_X13_make} {rc : tq_X13_make} (hr : hg_X13_make frc rc) {l1 : Int32} {y_l1 : Int} (e_l1 : l1.toInt = y_l1) {l3 : Int32} {y_l3 : Int} (e_l3 : l3.toInt = y_l3) {l4 : Int32} {y_l4 : Int} (e_l4 : l4.toInt = y_l4) {l5 : Int32} {y_l5 : Int} (e_l5 : l5.toInt = y_l5) {h : ms_M} (hM_h : Rg_M h) : Sm_ RI_ (j_X13_makeLoop_126 nn frc 160 l1 l3 l4 l5 (H_M h)) (qj_X13_makeLoop_126 nn rc y_l1 y_l3 y_l4 y_l5 h) := by
  unfold j_X13_makeLoop_126 qj_X13_makeLoop_126
  refine sm_is hM_h rfl ?_
  refine sm_cV (sf_X13_stands nn e_l3 e_l5 hM_h) ?_; intro u2 hM_u2
  refine sm_gi hM_u2 rfl ?_; intro v3 e_v3
  refine sm_is hM_u2 rfl ?_
  refine sm_cV (sf_X13_stands nn e_l4 e_v3 hM_u2) ?_; intro u5 hM_u5
  refine sm_gr hM_u5 (d := 175) rfl ?_
  refine sm_ai hM_u5 rfl e_l1 ?_; intro v7 y_v7 e_v7
  refine sm_eq e_v7 rfl ?_ ?_
  · exact sm_rI rfl hM_u5
  · refine sm_gr hM_u5 (d := 176) rfl ?_
    refine sm_ai hM_u5 rfl e_l1 ?_; intro v9 y_v9 e_v9
    refine sm_ne e_v9 rfl ?_ ?_
    · exact sm_rI rfl hM_u5
    · exact sm_rI rfl hM_u5
set_option maxRecDepth 4000 in
theorem sj_X13_makeLoop_55 (nn : Nat) {frc : tg_X13_make} {rc : tq_X13_make} (hr : hg_X13_make frc rc) {l1 : Int32} {y_l1 : Int} (e_l1 : l1.toInt = y_l1) {l2 : Int32} {y_l2 : Int} (e_l2 : l2.toInt = y_l2) {l3 : Int32} {y_l3 : Int} (e_l3 : l3.toInt = y_l3) {l4 : Int32} {y_l4 : Int} (e_l4 : l4.toInt = y_l4) {l5 : Int32} {y_l5 : Int} (e_l5 : l5.toInt = y_l5) {h : ms_M} (hM_h : Rg_M h) : Sm_ RI_ (j_X13_makeLoop_55 nn frc 160 l1 l2 l3 l4 l5 (H_M h)) (qj_X13_makeLoop_55 nn rc y_l1 y_l2 y_l3 y_l4 y_l5 h) := by
  unfold j_X13_makeLoop_55 qj_X13_makeLoop_55
  refine sm_gi hM_h rfl ?_; intro v12 e_v12
  refine sm_oq_add e_v12 rfl ?_; intro v13 y_v13 e_v13
  refine sm_pv hM_h rfl e_v13 ?_; intro h14 hM_h14
  refine sm_gr hM_h14 (d := 219) rfl ?_
  refine sm_gi hM_h14 rfl ?_; intro v16 e_v16
  refine sm_si hM_h14 rfl e_v16 e_l3 ?_; intro h17 hM_h17
  refine sm_gr hM_h17 (d := 220) rfl ?_
  refine sm_gi hM_h17 rfl ?_; intro v19 e_v19
  refine sm_si hM_h17 rfl e_v19 e_l4 ?_; intro h20 hM_h20
  refine sm_gr hM_h20 (d := 171) rfl ?_
  refine sm_ai hM_h20 rfl e_l1 ?_; intro v22 y_v22 e_v22
  refine sm_is hM_h20 rfl ?_
  refine sm_cI (hr.1 e_v22 hM_h20) ?_; intro u24 y_u24 M_u24 e_u24 hM_u24
  refine sm_gi hM_u24 rfl ?_; intro v25 e_v25
  refine sm_oq_sub e_v25 rfl ?_; intro v26 y_v26 e_v26
  refine sm_pv hM_u24 rfl e_v26 ?_; intro h27 hM_h27
  refine sm_pv hM_h27 rfl e_l2 ?_; intro h28 hM_h28
  refine sm_eq e_u24 rfl ?_ ?_
  · exact sj_X13_makeLoop_126 nn hr e_l1 e_l3 e_l4 e_l5 hM_h28
  · refine sm_is hM_h28 rfl ?_
    refine sm_cV (sf_X13_jump nn rfl e_l3 hM_h28) ?_; intro u30 hM_u30
    exact sj_X13_makeLoop_126 nn hr e_l1 e_l3 e_l4 e_l5 hM_u30
set_option maxRecDepth 4000 in
theorem so_X13_makeLoop (nn : Nat) {frc : tg_X13_make} {rc : tq_X13_make} (hr : hg_X13_make frc rc) {a1 : Int32} {y_a1 : Int} (e_a1 : a1.toInt = y_a1) {a2 : Int32} {y_a2 : Int} (e_a2 : a2.toInt = y_a2) {h : ms_M} (hM_h : Rg_M h) : Sm_ RI_ (o_X13_makeLoop nn frc 160 a1 a2 (H_M h)) (qo_X13_makeLoop nn rc y_a1 y_a2 h) := by
  unfold o_X13_makeLoop qo_X13_makeLoop
  refine sm_is hM_h rfl ?_
  refine sm_cI (sf_X13_label nn hM_h) ?_; intro u33 y_u33 M_u33 e_u33 hM_u33
  refine sm_is hM_u33 rfl ?_
  refine sm_cI (sf_X13_label nn hM_u33) ?_; intro u35 y_u35 M_u35 e_u35 hM_u35
  refine sm_gi hM_u35 rfl ?_; intro v36 e_v36
  refine sm_gr hM_u35 (d := 175) rfl ?_
  refine sm_ai hM_u35 rfl e_a1 ?_; intro v38 y_v38 e_v38
  refine sm_ne e_v38 rfl ?_ ?_
  · exact sj_X13_makeLoop_55 nn hr e_a1 e_a2 e_u33 e_u35 e_v36 hM_u35
  · refine sm_gr hM_u35 (d := 170) rfl ?_
    refine sm_ai hM_u35 rfl e_a1 ?_; intro v40 y_v40 e_v40
    refine sm_is hM_u35 rfl ?_
    refine sm_cV (sf_X13_work nn e_v40 hM_u35) ?_; intro u42 hM_u42
    refine sm_gi hM_u42 rfl ?_; intro v43 e_v43
    refine sm_oq_sub e_v43 rfl ?_; intro v44 y_v44 e_v44
    refine sm_pv hM_u42 rfl e_v44 ?_; intro h45 hM_h45
    refine sm_is hM_h45 rfl ?_
    refine sm_cV (sf_X13_jump nn rfl e_u35 hM_h45) ?_; intro u47 hM_u47
    exact sj_X13_makeLoop_55 nn hr e_a1 e_a2 e_u33 e_u35 e_v36 hM_u47
set_option maxRecDepth 4000 in
theorem sj_X13_guard_47 (nn : Nat) {frc : tg_X13_make} {rc : tq_X13_make} (hr : hg_X13_make frc rc) {l1 : Int32} {y_l1 : Int} (e_l1 : l1.toInt = y_l1) {l2 : Int32} {y_l2 : Int} (e_l2 : l2.toInt = y_l2) {l3 : Int32} {y_l3 : Int} (e_l3 : l3.toInt = y_l3) {l4 : Int32} {y_l4 : Int} (e_l4 : l4.toInt = y_l4) {l5 : Int32} {y_l5 : Int} (e_l5 : l5.toInt = y_l5) {l6 : Int32} {y_l6 : Int} (e_l6 : l6.toInt = y_l6) {h : ms_M} (hM_h : Rg_M h) : Sm_ RI_ (j_X13_guard_47 nn frc 160 l1 l2 l3 l4 l5 l6 (H_M h)) (qj_X13_guard_47 nn rc y_l1 y_l2 y_l3 y_l4 y_l5 y_l6 h) := by
  unfold j_X13_guard_47 qj_X13_guard_47
  refine sm_gi hM_h rfl ?_; intro v1 e_v1
  refine sm_gi hM_h rfl ?_; intro v2 e_v2
  refine sm_oq_add e_v2 rfl ?_; intro v3 y_v3 e_v3
  refine sm_pv hM_h rfl e_v3 ?_; intro h4 hM_h4
  refine sm_gr hM_h4 (d := 213) rfl ?_
  refine sm_si hM_h4 rfl e_v1 e_l4 ?_; intro h6 hM_h6
  refine sm_gr hM_h6 (d := 214) rfl ?_
  refine sm_si hM_h6 rfl e_v1 e_l6 ?_; intro h8 hM_h8
  refine sm_gr hM_h8 (d := 215) rfl ?_
  refine sm_gi hM_h8 rfl ?_; intro v10 e_v10
  refine sm_si hM_h8 rfl e_v1 e_v10 ?_; intro h11 hM_h11
  refine sm_gr hM_h11 (d := 216) rfl ?_
  refine sm_gr hM_h11 (d := 174) rfl ?_
  refine sm_ai hM_h11 rfl e_l1 ?_; intro v14 y_v14 e_v14
  refine sm_si hM_h11 rfl e_v1 e_v14 ?_; intro h15 hM_h15
  refine sm_gr hM_h15 (d := 174) rfl ?_
  refine sm_ai hM_h15 rfl e_l1 ?_; intro v17 y_v17 e_v17
  refine sm_is hM_h15 rfl ?_
  refine sm_cV (sf_X13_push nn e_v17 hM_h15) ?_; intro u19 hM_u19
  refine sm_gi hM_u19 rfl ?_; intro v20 e_v20
  refine sm_is hM_u19 rfl ?_
  refine sm_cV (sf_X13_frame nn e_v20 hM_u19) ?_; intro u22 hM_u22
  refine sm_gi hM_u22 rfl ?_; intro v23 e_v23
  refine sm_is hM_u22 rfl ?_
  refine sm_cV (sf_X13_store nn rfl e_v23 hM_u22) ?_; intro u25 hM_u25
  refine sm_gr hM_u25 (d := 176) rfl ?_
  refine sm_ai hM_u25 rfl e_l1 ?_; intro v27 y_v27 e_v27
  refine sm_gr hM_u25 (d := 174) rfl ?_
  refine sm_ai hM_u25 rfl e_l1 ?_; intro v29 y_v29 e_v29
  refine sm_is hM_u25 rfl ?_
  refine sm_cV (sf_X13_comes nn e_v27 e_v29 hM_u25) ?_; intro u31 hM_u31
  refine sm_gr hM_u31 (d := 171) rfl ?_
  refine sm_ai hM_u31 rfl e_l1 ?_; intro v33 y_v33 e_v33
  refine sm_is hM_u31 rfl ?_
  refine sm_cI (hr.1 e_v33 hM_u31) ?_; intro u35 y_u35 M_u35 e_u35 hM_u35
  refine sm_pv hM_u35 rfl e_l2 ?_; intro h36 hM_h36
  refine sm_gi hM_h36 rfl ?_; intro v37 e_v37
  refine sm_is hM_h36 rfl ?_
  refine sm_cV (sf_X13_stands nn e_l3 e_v37 hM_h36) ?_; intro u39 hM_u39
  refine sm_ne e_l5 rfl ?_ ?_
  · exact sm_rI rfl hM_u39
  · refine sm_eq e_u35 rfl ?_ ?_
    · exact sm_rI rfl hM_u39
    · exact sm_rI rfl hM_u39
set_option maxRecDepth 4000 in
theorem so_X13_guard (nn : Nat) {frc : tg_X13_make} {rc : tq_X13_make} (hr : hg_X13_make frc rc) {a1 : Int32} {y_a1 : Int} (e_a1 : a1.toInt = y_a1) {a2 : Int32} {y_a2 : Int} (e_a2 : a2.toInt = y_a2) {h : ms_M} (hM_h : Rg_M h) : Sm_ RI_ (o_X13_guard nn frc 160 a1 a2 (H_M h)) (qo_X13_guard nn rc y_a1 y_a2 h) := by
  unfold o_X13_guard qo_X13_guard
  refine sm_is hM_h rfl ?_
  refine sm_cI (sf_X13_label nn hM_h) ?_; intro u43 y_u43 M_u43 e_u43 hM_u43
  refine sm_gi hM_u43 rfl ?_; intro v44 e_v44
  refine sm_is hM_u43 rfl ?_
  refine sm_cV (sf_X13_put nn rfl hM_u43) ?_; intro u46 hM_u46
  refine sm_gr hM_u46 (d := 170) rfl ?_
  refine sm_ai hM_u46 rfl e_a1 ?_; intro v48 y_v48 e_v48
  refine sm_is hM_u46 rfl ?_
  refine sm_cI (hr.1 e_v48 hM_u46) ?_; intro u50 y_u50 M_u50 e_u50 hM_u50
  refine sm_gi hM_u50 rfl ?_; intro v51 e_v51
  refine sm_eq e_u50 rfl ?_ ?_
  · exact sj_X13_guard_47 nn hr e_a1 e_a2 e_u43 e_v44 e_u50 e_v51 hM_u50
  · refine sm_is hM_u50 rfl ?_
    refine sm_cV (sf_X13_jump nn rfl e_u43 hM_u50) ?_; intro u53 hM_u53
    exact sj_X13_guard_47 nn hr e_a1 e_a2 e_u43 e_v44 e_u50 e_v51 hM_u53
set_option maxRecDepth 4000 in
theorem sg_X13_make (nn : Nat) : ∀ d, hg_X13_make (g_X13_make nn d) (qg_X13_make nn d) := by
  intro d
  induction d with
  | zero => exact ⟨(by intros; exact sm_no), (by intros; exact sm_no), (by intros; exact sm_no)⟩
  | succ d ih => exact ⟨so_X13_make nn ih, so_X13_makeLoop nn ih, so_X13_guard nn ih⟩
set_option maxRecDepth 4000 in
theorem sf_X13_make (nn : Nat) {a1 : Int32} {y_a1 : Int} (e_a1 : a1.toInt = y_a1) {h : ms_M} (hM_h : Rg_M h) : Sm_ RI_ (f_X13_make nn 160 a1 (H_M h)) (qf_X13_make nn y_a1 h) := (sg_X13_make nn 200).1 e_a1 hM_h
set_option maxRecDepth 4000 in
theorem sf_X13_makeLoop (nn : Nat) {a1 : Int32} {y_a1 : Int} (e_a1 : a1.toInt = y_a1) {a2 : Int32} {y_a2 : Int} (e_a2 : a2.toInt = y_a2) {h : ms_M} (hM_h : Rg_M h) : Sm_ RI_ (f_X13_makeLoop nn 160 a1 a2 (H_M h)) (qf_X13_makeLoop nn y_a1 y_a2 h) := (sg_X13_make nn 200).2.1 e_a1 e_a2 hM_h
set_option maxRecDepth 4000 in
theorem sf_X13_guard (nn : Nat) {a1 : Int32} {y_a1 : Int} (e_a1 : a1.toInt = y_a1) {a2 : Int32} {y_a2 : Int} (e_a2 : a2.toInt = y_a2) {h : ms_M} (hM_h : Rg_M h) : Sm_ RI_ (f_X13_guard nn 160 a1 a2 (H_M h)) (qf_X13_guard nn y_a1 y_a2 h) := (sg_X13_make nn 200).2.2 e_a1 e_a2 hM_h
set_option maxRecDepth 4000 in
theorem sj_X13_tell_26 (nn : Nat) {h : ms_M} (hM_h : Rg_M h) : Sm_ RV_ (j_X13_tell_26 nn 160 (H_M h)) (qj_X13_tell_26 nn h) := by
  unfold j_X13_tell_26 qj_X13_tell_26
  refine sm_gi hM_h rfl ?_; intro v1 e_v1
  refine sm_oq_add e_v1 rfl ?_; intro v2 y_v2 e_v2
  refine sm_pv hM_h rfl e_v2 ?_; intro h3 hM_h3
  exact sm_rV hM_h3
set_option maxRecDepth 4000 in
theorem sf_X13_tell (nn : Nat) {a1 : Int32} {y_a1 : Int} (e_a1 : a1.toInt = y_a1) {h : ms_M} (hM_h : Rg_M h) : Sm_ RV_ (f_X13_tell nn 160 a1 (H_M h)) (qf_X13_tell nn y_a1 h) := by
  unfold f_X13_tell qf_X13_tell
  refine sm_gi hM_h rfl ?_; intro v4 e_v4
  refine sm_gr hM_h (d := 225) rfl ?_
  refine sm_ln hM_h (z := 40000) rfl ?_; intro v6 e_v6
  refine sm_le e_v6 e_v4 ?_ ?_
  · exact sj_X13_tell_26 nn hM_h
  · refine sm_gr hM_h (d := 225) rfl ?_
    refine sm_gi hM_h rfl ?_; intro v8 e_v8
    refine sm_oq_and e_a1 rfl ?_; intro v9 y_v9 e_v9
    refine sm_si hM_h rfl e_v8 e_v9 ?_; intro h10 hM_h10
    exact sj_X13_tell_26 nn hM_h10
set_option maxRecDepth 4000 in
theorem sf_X13_tellPair (nn : Nat) {a1 : Int32} {y_a1 : Int} (e_a1 : a1.toInt = y_a1) {h : ms_M} (hM_h : Rg_M h) : Sm_ RV_ (f_X13_tellPair nn 160 a1 (H_M h)) (qf_X13_tellPair nn y_a1 h) := by
  unfold f_X13_tellPair qf_X13_tellPair
  refine sm_oq_shr e_a1 rfl ?_; intro v1 y_v1 e_v1
  refine sm_is hM_h rfl ?_
  refine sm_cV (sf_X13_tell nn e_v1 hM_h) ?_; intro u3 hM_u3
  refine sm_is hM_u3 rfl ?_
  refine sm_cV (sf_X13_tell nn e_a1 hM_u3) ?_; intro u5 hM_u5
  exact sm_rV hM_u5
set_option maxRecDepth 4000 in
theorem sj_X13_tellType_20 (nn : Nat) {l1 : Int32} {y_l1 : Int} (e_l1 : l1.toInt = y_l1) {s0 : Int32} {y_s0 : Int} (e_s0 : s0.toInt = y_s0) {h : ms_M} (hM_h : Rg_M h) : Sm_ RV_ (j_X13_tellType_20 nn 160 l1 s0 160 (H_M h)) (qj_X13_tellType_20 nn y_l1 y_s0 h) := by
  unfold j_X13_tellType_20 qj_X13_tellType_20
  refine sm_is hM_h rfl ?_
  refine sm_cV (sf_X13_tell nn e_s0 hM_h) ?_; intro u2 hM_u2
  refine sm_le e_l1 rfl ?_ ?_
  · exact sm_rV hM_u2
  · refine sm_is hM_u2 rfl ?_
    refine sm_cI (sf_X13_classConstant nn e_l1 hM_u2) ?_; intro u4 y_u4 M_u4 e_u4 hM_u4
    refine sm_is hM_u4 rfl ?_
    refine sm_cV (sf_X13_tell nn e_u4 hM_u4) ?_; intro u6 hM_u6
    exact sm_rV hM_u6
set_option maxRecDepth 4000 in
theorem sf_X13_tellType (nn : Nat) {a1 : Int32} {y_a1 : Int} (e_a1 : a1.toInt = y_a1) {h : ms_M} (hM_h : Rg_M h) : Sm_ RV_ (f_X13_tellType nn 160 a1 (H_M h)) (qf_X13_tellType nn y_a1 h) := by
  unfold f_X13_tellType qf_X13_tellType
  refine sm_lt rfl e_a1 ?_ ?_
  · refine sm_ne e_a1 rfl ?_ ?_
    · exact sj_X13_tellType_20 nn e_a1 rfl hM_h
    · exact sj_X13_tellType_20 nn e_a1 rfl hM_h
  · exact sj_X13_tellType_20 nn e_a1 rfl hM_h
set_option maxRecDepth 4000 in
theorem sw_X13_makeMethod_561 (nn : Nat) {kk_412 : Nat → Int32 → Int32 → mx_H → Option mx_H} {qkk_412 : Int → Int → ms_M → Option ms_M} (hk_kk_412 : ∀ {l5 : Int32} {y_l5 : Int} (e_l5 : l5.toInt = y_l5) {l6 : Int32} {y_l6 : Int} (e_l6 : l6.toInt = y_l6) {h : ms_M} (hM_h : Rg_M h), Sm_ RV_ (kk_412 160 l5 l6 (H_M h)) (qkk_412 y_l5 y_l6 h)) : ∀ (k : Nat) {l5 : Int32} {y_l5 : Int} (e_l5 : l5.toInt = y_l5) {l6 : Int32} {y_l6 : Int} (e_l6 : l6.toInt = y_l6) {l7 : Int32} {y_l7 : Int} (e_l7 : l7.toInt = y_l7) {l8 : Int32} {y_l8 : Int} (e_l8 : l8.toInt = y_l8) {h : ms_M} (hM_h : Rg_M h), Sm_ RV_ (w_X13_makeMethod_561 nn kk_412 k 160 l5 l6 l7 l8 (H_M h)) (qw_X13_makeMethod_561 nn qkk_412 k y_l5 y_l6 y_l7 y_l8 h) := by
  intro k
  induction k with
  | zero => intros; exact sm_no
  | succ k ih =>
    intro l5 y_l5 e_l5 l6 y_l6 e_l6 l7 y_l7 e_l7 l8 y_l8 e_l8 h hM_h
    unfold w_X13_makeMethod_561 qw_X13_makeMethod_561
    refine sm_gr hM_h (d := 211) rfl ?_
    refine sm_ai hM_h rfl e_l7 ?_; intro v2 y_v2 e_v2
    refine sm_le e_v2 e_l8 ?_ ?_
    · refine sm_oq_add e_l6 rfl ?_; intro v3 y_v3 e_v3
      exact hk_kk_412 e_l5 e_v3 hM_h
    · refine sm_gr hM_h (d := 212) rfl ?_
      refine sm_gr hM_h (d := 209) rfl ?_
      refine sm_ai hM_h rfl e_l7 ?_; intro v6 y_v6 e_v6
      refine sm_gr hM_h (d := 210) rfl ?_
      refine sm_ai hM_h rfl e_l7 ?_; intro v8 y_v8 e_v8
      refine sm_oq_add e_v6 e_v8 ?_; intro v9 y_v9 e_v9
      refine sm_oq_add e_v9 e_l8 ?_; intro v10 y_v10 e_v10
      refine sm_ai hM_h rfl e_v10 ?_; intro v11 y_v11 e_v11
      refine sm_is hM_h rfl ?_
      refine sm_cV (sf_X13_tellType nn e_v11 hM_h) ?_; intro u13 hM_u13
      refine sm_oq_add e_l8 rfl ?_; intro v14 y_v14 e_v14
      exact ih e_l5 e_l6 e_l7 e_v14 hM_u13
set_option maxRecDepth 4000 in
theorem sw_X13_makeMethod_510 (nn : Nat) {kk_412 : Nat → Int32 → Int32 → mx_H → Option mx_H} {qkk_412 : Int → Int → ms_M → Option ms_M} (hk_kk_412 : ∀ {l5 : Int32} {y_l5 : Int} (e_l5 : l5.toInt = y_l5) {l6 : Int32} {y_l6 : Int} (e_l6 : l6.toInt = y_l6) {h : ms_M} (hM_h : Rg_M h), Sm_ RV_ (kk_412 160 l5 l6 (H_M h)) (qkk_412 y_l5 y_l6 h)) : ∀ (k : Nat) {l5 : Int32} {y_l5 : Int} (e_l5 : l5.toInt = y_l5) {l6 : Int32} {y_l6 : Int} (e_l6 : l6.toInt = y_l6) {l7 : Int32} {y_l7 : Int} (e_l7 : l7.toInt = y_l7) {l8 : Int32} {y_l8 : Int} (e_l8 : l8.toInt = y_l8) {h : ms_M} (hM_h : Rg_M h), Sm_ RV_ (w_X13_makeMethod_510 nn kk_412 k 160 l5 l6 l7 l8 (H_M h)) (qw_X13_makeMethod_510 nn qkk_412 k y_l5 y_l6 y_l7 y_l8 h) := by
  intro k
  induction k with
  | zero => intros; exact sm_no
  | succ k ih =>
    intro l5 y_l5 e_l5 l6 y_l6 e_l6 l7 y_l7 e_l7 l8 y_l8 e_l8 h hM_h
    unfold w_X13_makeMethod_510 qw_X13_makeMethod_510
    refine sm_gr hM_h (d := 210) rfl ?_
    refine sm_ai hM_h rfl e_l7 ?_; intro v17 y_v17 e_v17
    refine sm_le e_v17 e_l8 ?_ ?_
    · refine sm_gr hM_h (d := 211) rfl ?_
      refine sm_ai hM_h rfl e_l7 ?_; intro v19 y_v19 e_v19
      refine sm_is hM_h rfl ?_
      refine sm_cV (sf_X13_tell nn e_v19 hM_h) ?_; intro u21 hM_u21
      exact sw_X13_makeMethod_561 nn hk_kk_412 nn e_l5 e_l6 e_l7 rfl hM_u21
    · refine sm_gr hM_h (d := 212) rfl ?_
      refine sm_gr hM_h (d := 209) rfl ?_
      refine sm_ai hM_h rfl e_l7 ?_; intro v24 y_v24 e_v24
      refine sm_oq_add e_v24 e_l8 ?_; intro v25 y_v25 e_v25
      refine sm_ai hM_h rfl e_v25 ?_; intro v26 y_v26 e_v26
      refine sm_is hM_h rfl ?_
      refine sm_cV (sf_X13_tellType nn e_v26 hM_h) ?_; intro u28 hM_u28
      refine sm_oq_add e_l8 rfl ?_; intro v29 y_v29 e_v29
      exact ih e_l5 e_l6 e_l7 e_v29 hM_u28
set_option maxRecDepth 4000 in
theorem sj_X13_makeMethod_471 (nn : Nat) {kk_412 : Nat → Int32 → Int32 → mx_H → Option mx_H} {qkk_412 : Int → Int → ms_M → Option ms_M} (hk_kk_412 : ∀ {l5 : Int32} {y_l5 : Int} (e_l5 : l5.toInt = y_l5) {l6 : Int32} {y_l6 : Int} (e_l6 : l6.toInt = y_l6) {h : ms_M} (hM_h : Rg_M h), Sm_ RV_ (kk_412 160 l5 l6 (H_M h)) (qkk_412 y_l5 y_l6 h)) {kk_427 : Nat → Int32 → Int32 → Int32 → Int32 → mx_H → Option mx_H} {qkk_427 : Int → Int → Int → Int → ms_M → Option ms_M} (hk_kk_427 : ∀ {l5 : Int32} {y_l5 : Int} (e_l5 : l5.toInt = y_l5) {l6 : Int32} {y_l6 : Int} (e_l6 : l6.toInt = y_l6) {l7 : Int32} {y_l7 : Int} (e_l7 : l7.toInt = y_l7) {l8 : Int32} {y_l8 : Int} (e_l8 : l8.toInt = y_l8) {h : ms_M} (hM_h : Rg_M h), Sm_ RV_ (kk_427 160 l5 l6 l7 l8 (H_M h)) (qkk_427 y_l5 y_l6 y_l7 y_l8 h)) {l5 : Int32} {y_l5 : Int} (e_l5 : l5.toInt = y_l5) {l6 : Int32} {y_l6 : Int} (e_l6 : l6.toInt = y_l6) {l8 : Int32} {y_l8 : Int} (e_l8 : l8.toInt = y_l8) {h : ms_M} (hM_h : Rg_M h) : Sm_ RV_ (j_X13_makeMethod_471 nn kk_412 kk_427 160 l5 l6 l8 (H_M h)) (qj_X13_makeMethod_471 nn qkk_412 qkk_427 y_l5 y_l6 y_l8 h) := by
  unfold j_X13_makeMethod_471 qj_X13_makeMethod_471
  refine sm_oq_add e_l8 rfl ?_; intro v31 y_v31 e_v31
  exact hk_kk_427 e_l5 e_l6 e_l8 e_v31 hM_h
set_option maxRecDepth 4000 in
theorem sw_X13_makeMethod_427 (nn : Nat) {kk_412 : Nat → Int32 → Int32 → mx_H → Option mx_H} {qkk_412 : Int → Int → ms_M → Option ms_M} (hk_kk_412 : ∀ {l5 : Int32} {y_l5 : Int} (e_l5 : l5.toInt = y_l5) {l6 : Int32} {y_l6 : Int} (e_l6 : l6.toInt = y_l6) {h : ms_M} (hM_h : Rg_M h), Sm_ RV_ (kk_412 160 l5 l6 (H_M h)) (qkk_412 y_l5 y_l6 h)) : ∀ (k : Nat) {l5 : Int32} {y_l5 : Int} (e_l5 : l5.toInt = y_l5) {l6 : Int32} {y_l6 : Int} (e_l6 : l6.toInt = y_l6) {l7 : Int32} {y_l7 : Int} (e_l7 : l7.toInt = y_l7) {l8 : Int32} {y_l8 : Int} (e_l8 : l8.toInt = y_l8) {h : ms_M} (hM_h : Rg_M h), Sm_ RV_ (w_X13_makeMethod_427 nn kk_412 k 160 l5 l6 l7 l8 (H_M h)) (qw_X13_makeMethod_427 nn qkk_412 k y_l5 y_l6 y_l7 y_l8 h) := by
  intro k
  induction k with
  | zero => intros; exact sm_no
  | succ k ih =>
    intro l5 y_l5 e_l5 l6 y_l6 e_l6 l7 y_l7 e_l7 l8 y_l8 e_l8 h hM_h
    unfold w_X13_makeMethod_427 qw_X13_makeMethod_427
    refine sm_gi hM_h rfl ?_; intro v32 e_v32
    refine sm_le e_v32 e_l8 ?_ ?_
    · refine sm_gr hM_h (d := 208) rfl ?_
      refine sm_ai hM_h rfl e_l7 ?_; intro v34 y_v34 e_v34
      refine sm_is hM_h rfl ?_
      refine sm_cV (sf_X13_tellPair nn e_v34 hM_h) ?_; intro u36 hM_u36
      refine sm_gr hM_u36 (d := 210) rfl ?_
      refine sm_ai hM_u36 rfl e_l7 ?_; intro v38 y_v38 e_v38
      refine sm_is hM_u36 rfl ?_
      refine sm_cV (sf_X13_tell nn e_v38 hM_u36) ?_; intro u40 hM_u40
      exact sw_X13_makeMethod_510 nn hk_kk_412 nn e_v34 e_l6 e_l7 rfl hM_u40
    · refine sm_gr hM_h (d := 208) rfl ?_
      refine sm_ai hM_h rfl e_l8 ?_; intro v42 y_v42 e_v42
      refine sm_le e_v42 e_l5 ?_ ?_
      · refine sm_oq_add e_l8 rfl ?_; intro v43 y_v43 e_v43
        exact ih e_l5 e_l6 e_l7 e_v43 hM_h
      · refine sm_eq e_l7 rfl ?_ ?_
        · exact sj_X13_makeMethod_471 nn hk_kk_412 ih e_l5 e_l6 e_l8 hM_h
        · refine sm_gr hM_h (d := 208) rfl ?_
          refine sm_ai hM_h rfl e_l8 ?_; intro v45 y_v45 e_v45
          refine sm_gr hM_h (d := 208) rfl ?_
          refine sm_ai hM_h rfl e_l7 ?_; intro v47 y_v47 e_v47
          refine sm_le e_v47 e_v45 ?_ ?_
          · refine sm_oq_add e_l8 rfl ?_; intro v48 y_v48 e_v48
            exact ih e_l5 e_l6 e_l7 e_v48 hM_h
          · exact sj_X13_makeMethod_471 nn hk_kk_412 ih e_l5 e_l6 e_l8 hM_h
set_option maxRecDepth 4000 in
theorem sw_X13_makeMethod_412 (nn : Nat) : ∀ (k : Nat) {l5 : Int32} {y_l5 : Int} (e_l5 : l5.toInt = y_l5) {l6 : Int32} {y_l6 : Int} (e_l6 : l6.toInt = y_l6) {h : ms_M} (hM_h : Rg_M h), Sm_ RV_ (w_X13_makeMethod_412 nn k 160 l5 l6 (H_M h)) (qw_X13_makeMethod_412 nn k y_l5 y_l6 h) := by
  intro k
  induction k with
  | zero => intros; exact sm_no
  | succ k ih =>
    intro l5 y_l5 e_l5 l6 y_l6 e_l6 h hM_h
    unfold w_X13_makeMethod_412 qw_X13_makeMethod_412
    refine sm_gi hM_h rfl ?_; intro v53 e_v53
    refine sm_le e_v53 e_l6 ?_ ?_
    · exact sm_rV hM_h
    · exact sw_X13_makeMethod_427 nn ih nn e_l5 e_l6 rfl rfl hM_h
set_option maxRecDepth 4000 in
theorem sw_X13_makeMethod_335 (nn : Nat) : ∀ (k : Nat) {l5 : Int32} {y_l5 : Int} (e_l5 : l5.toInt = y_l5) {h : ms_M} (hM_h : Rg_M h), Sm_ RV_ (w_X13_makeMethod_335 nn k 160 l5 (H_M h)) (qw_X13_makeMethod_335 nn k y_l5 h) := by
  intro k
  induction k with
  | zero => intros; exact sm_no
  | succ k ih =>
    intro l5 y_l5 e_l5 h hM_h
    unfold w_X13_makeMethod_335 qw_X13_makeMethod_335
    refine sm_gi hM_h rfl ?_; intro v55 e_v55
    refine sm_le e_v55 e_l5 ?_ ?_
    · refine sm_gi hM_h rfl ?_; intro v56 e_v56
      refine sm_is hM_h rfl ?_
      refine sm_cV (sf_X13_tell nn e_v56 hM_h) ?_; intro u58 hM_u58
      exact sw_X13_makeMethod_412 nn nn rfl rfl hM_u58
    · refine sm_gr hM_h (d := 213) rfl ?_
      refine sm_ai hM_h rfl e_l5 ?_; intro v60 y_v60 e_v60
      refine sm_is hM_h rfl ?_
      refine sm_cV (sf_X13_tellPair nn e_v60 hM_h) ?_; intro u62 hM_u62
      refine sm_gr hM_u62 (d := 214) rfl ?_
      refine sm_ai hM_u62 rfl e_l5 ?_; intro v64 y_v64 e_v64
      refine sm_is hM_u62 rfl ?_
      refine sm_cV (sf_X13_tellPair nn e_v64 hM_u62) ?_; intro u66 hM_u66
      refine sm_gr hM_u66 (d := 215) rfl ?_
      refine sm_ai hM_u66 rfl e_l5 ?_; intro v68 y_v68 e_v68
      refine sm_is hM_u66 rfl ?_
      refine sm_cV (sf_X13_tellPair nn e_v68 hM_u66) ?_; intro u70 hM_u70
      refine sm_gr hM_u70 (d := 216) rfl ?_
      refine sm_ai hM_u70 rfl e_l5 ?_; intro v72 y_v72 e_v72
      refine sm_is hM_u70 rfl ?_
      refine sm_cI (sf_X13_classConstant nn e_v72 hM_u70) ?_; intro u74 y_u74 M_u74 e_u74 hM_u74
      refine sm_is hM_u74 rfl ?_
      refine sm_cV (sf_X13_tell nn e_u74 hM_u74) ?_; intro u76 hM_u76
      refine sm_oq_add e_l5 rfl ?_; intro v77 y_v77 e_v77
      exact ih e_v77 hM_u76
set_option maxRecDepth 4000 in
theorem sw_X13_makeMethod_298 (nn : Nat) : ∀ (k : Nat) {l5 : Int32} {y_l5 : Int} (e_l5 : l5.toInt = y_l5) {h : ms_M} (hM_h : Rg_M h), Sm_ RV_ (w_X13_makeMethod_298 nn k 160 l5 (H_M h)) (qw_X13_makeMethod_298 nn k y_l5 h) := by
  intro k
  induction k with
  | zero => intros; exact sm_no
  | succ k ih =>
    intro l5 y_l5 e_l5 h hM_h
    unfold w_X13_makeMethod_298 qw_X13_makeMethod_298
    refine sm_gi hM_h rfl ?_; intro v79 e_v79
    refine sm_le e_v79 e_l5 ?_ ?_
    · refine sm_gi hM_h rfl ?_; intro v80 e_v80
      refine sm_is hM_h rfl ?_
      refine sm_cV (sf_X13_tell nn e_v80 hM_h) ?_; intro u82 hM_u82
      exact sw_X13_makeMethod_335 nn nn rfl hM_u82
    · refine sm_gr hM_h (d := 206) rfl ?_
      refine sm_ai hM_h rfl e_l5 ?_; intro v84 y_v84 e_v84
      refine sm_is hM_h rfl ?_
      refine sm_cV (sf_X13_tell nn e_v84 hM_h) ?_; intro u86 hM_u86
      refine sm_oq_add e_l5 rfl ?_; intro v87 y_v87 e_v87
      exact ih e_v87 hM_u86
set_option maxRecDepth 4000 in
theorem sj_X13_makeMethod_260 (nn : Nat) {l2 : Int32} {y_l2 : Int} (e_l2 : l2.toInt = y_l2) {l3 : Int32} {y_l3 : Int} (e_l3 : l3.toInt = y_l3) {l4 : Int32} {y_l4 : Int} (e_l4 : l4.toInt = y_l4) {s0 : Int32} {y_s0 : Int} (e_s0 : s0.toInt = y_s0) {h : ms_M} (hM_h : Rg_M h) : Sm_ RV_ (j_X13_makeMethod_260 nn 160 l2 l3 l4 s0 160 (H_M h)) (qj_X13_makeMethod_260 nn y_l2 y_l3 y_l4 y_s0 h) := by
  unfold j_X13_makeMethod_260 qj_X13_makeMethod_260
  refine sm_is hM_h rfl ?_
  refine sm_cV (sf_X13_tell nn e_s0 hM_h) ?_; intro u90 hM_u90
  refine sm_is hM_u90 rfl ?_
  refine sm_cV (sf_X13_tell nn e_l2 hM_u90) ?_; intro u92 hM_u92
  refine sm_is hM_u92 rfl ?_
  refine sm_cV (sf_X13_tell nn e_l3 hM_u92) ?_; intro u94 hM_u94
  refine sm_gi hM_u94 rfl ?_; intro v95 e_v95
  refine sm_is hM_u94 rfl ?_
  refine sm_cV (sf_X13_tell nn e_v95 hM_u94) ?_; intro u97 hM_u97
  refine sm_is hM_u97 rfl ?_
  refine sm_cV (sf_X13_tell nn e_l4 hM_u97) ?_; intro u99 hM_u99
  refine sm_gi hM_u99 rfl ?_; intro v100 e_v100
  refine sm_is hM_u99 rfl ?_
  refine sm_cV (sf_X13_tellPair nn e_v100 hM_u99) ?_; intro u102 hM_u102
  exact sw_X13_makeMethod_298 nn nn rfl hM_u102
set_option maxRecDepth 4000 in
theorem sj_X13_makeMethod_239 (nn : Nat) {l2 : Int32} {y_l2 : Int} (e_l2 : l2.toInt = y_l2) {l3 : Int32} {y_l3 : Int} (e_l3 : l3.toInt = y_l3) {l4 : Int32} {y_l4 : Int} (e_l4 : l4.toInt = y_l4) {h : ms_M} (hM_h : Rg_M h) : Sm_ RV_ (j_X13_makeMethod_239 nn 160 l2 l3 l4 (H_M h)) (qj_X13_makeMethod_239 nn y_l2 y_l3 y_l4 h) := by
  unfold j_X13_makeMethod_239 qj_X13_makeMethod_239
  refine sm_gi hM_h rfl ?_; intro v103 e_v103
  refine sm_eq e_v103 rfl ?_ ?_
  · refine sm_gi hM_h rfl ?_; intro v104 e_v104
    refine sm_eq e_v104 rfl ?_ ?_
    · exact sj_X13_makeMethod_260 nn e_l2 e_l3 e_l4 rfl hM_h
    · exact sj_X13_makeMethod_260 nn e_l2 e_l3 e_l4 rfl hM_h
  · exact sm_rV hM_h
set_option maxRecDepth 4000 in
theorem sj_X13_makeMethod_227 (nn : Nat) {l1 : Int32} {y_l1 : Int} (e_l1 : l1.toInt = y_l1) {l2 : Int32} {y_l2 : Int} (e_l2 : l2.toInt = y_l2) {l3 : Int32} {y_l3 : Int} (e_l3 : l3.toInt = y_l3) {l4 : Int32} {y_l4 : Int} (e_l4 : l4.toInt = y_l4) {h : ms_M} (hM_h : Rg_M h) : Sm_ RV_ (j_X13_makeMethod_227 nn 160 l1 l2 l3 l4 (H_M h)) (qj_X13_makeMethod_227 nn y_l1 y_l2 y_l3 y_l4 h) := by
  unfold j_X13_makeMethod_227 qj_X13_makeMethod_227
  refine sm_gr hM_h (d := 186) rfl ?_
  refine sm_ai hM_h rfl e_l1 ?_; intro v108 y_v108 e_v108
  refine sm_is hM_h rfl ?_
  refine sm_cV (sf_X13_wrong nn rfl e_v108 hM_h) ?_; intro u110 hM_u110
  exact sj_X13_makeMethod_239 nn e_l2 e_l3 e_l4 hM_u110
set_option maxRecDepth 4000 in
theorem sj_X13_makeMethod_180 (nn : Nat) {l1 : Int32} {y_l1 : Int} (e_l1 : l1.toInt = y_l1) {l2 : Int32} {y_l2 : Int} (e_l2 : l2.toInt = y_l2) {l3 : Int32} {y_l3 : Int} (e_l3 : l3.toInt = y_l3) {s0 : Int32} {y_s0 : Int} (e_s0 : s0.toInt = y_s0) {s1 : Int32} {y_s1 : Int} (e_s1 : s1.toInt = y_s1) {h : ms_M} (hM_h : Rg_M h) : Sm_ RV_ (j_X13_makeMethod_180 nn 160 l1 l2 l3 s0 s1 (H_M h)) (qj_X13_makeMethod_180 nn y_l1 y_l2 y_l3 y_s0 y_s1 h) := by
  unfold j_X13_makeMethod_180 qj_X13_makeMethod_180
  refine sm_oq_add e_s1 e_s0 ?_; intro v111 y_v111 e_v111
  refine sm_lt rfl e_v111 ?_ ?_
  · exact sj_X13_makeMethod_227 nn e_l1 e_l2 e_l3 e_v111 hM_h
  · refine sm_gi hM_h rfl ?_; intro v112 e_v112
    refine sm_lt rfl e_v112 ?_ ?_
    · exact sj_X13_makeMethod_227 nn e_l1 e_l2 e_l3 e_v111 hM_h
    · refine sm_gi hM_h rfl ?_; intro v113 e_v113
      refine sm_lt rfl e_v113 ?_ ?_
      · exact sj_X13_makeMethod_227 nn e_l1 e_l2 e_l3 e_v111 hM_h
      · refine sm_gi hM_h rfl ?_; intro v114 e_v114
        refine sm_lt rfl e_v114 ?_ ?_
        · exact sj_X13_makeMethod_227 nn e_l1 e_l2 e_l3 e_v111 hM_h
        · refine sm_gi hM_h rfl ?_; intro v115 e_v115
          refine sm_le e_v115 rfl ?_ ?_
          · exact sj_X13_makeMethod_239 nn e_l2 e_l3 e_v111 hM_h
          · exact sj_X13_makeMethod_227 nn e_l1 e_l2 e_l3 e_v111 hM_h
set_option maxRecDepth 4000 in
theorem sj_X13_makeMethod_164 (nn : Nat) {l1 : Int32} {y_l1 : Int} (e_l1 : l1.toInt = y_l1) {l2 : Int32} {y_l2 : Int} (e_l2 : l2.toInt = y_l2) {l3 : Int32} {y_l3 : Int} (e_l3 : l3.toInt = y_l3) {h : ms_M} (hM_h : Rg_M h) : Sm_ RV_ (j_X13_makeMethod_164 nn 160 l1 l2 l3 (H_M h)) (qj_X13_makeMethod_164 nn y_l1 y_l2 y_l3 h) := by
  unfold j_X13_makeMethod_164 qj_X13_makeMethod_164
  refine sm_gi hM_h rfl ?_; intro v121 e_v121
  refine sm_gi hM_h rfl ?_; intro v122 e_v122
  refine sm_eq e_v122 rfl ?_ ?_
  · exact sj_X13_makeMethod_180 nn e_l1 e_l2 e_l3 rfl e_v121 hM_h
  · exact sj_X13_makeMethod_180 nn e_l1 e_l2 e_l3 rfl e_v121 hM_h
set_option maxRecDepth 4000 in
theorem sw_X13_makeMethod_81 (nn : Nat) : ∀ (k : Nat) {l1 : Int32} {y_l1 : Int} (e_l1 : l1.toInt = y_l1) {l2 : Int32} {y_l2 : Int} (e_l2 : l2.toInt = y_l2) {h : ms_M} (hM_h : Rg_M h), Sm_ RV_ (w_X13_makeMethod_81 nn k 160 l1 l2 (H_M h)) (qw_X13_makeMethod_81 nn k y_l1 y_l2 h) := by
  intro k
  induction k with
  | zero => intros; exact sm_no
  | succ k ih =>
    intro l1 y_l1 e_l1 l2 y_l2 e_l2 h hM_h
    unfold w_X13_makeMethod_81 qw_X13_makeMethod_81
    refine sm_gr hM_h (d := 189) rfl ?_
    refine sm_ai hM_h rfl e_l1 ?_; intro v125 y_v125 e_v125
    refine sm_le e_v125 e_l2 ?_ ?_
    · refine sm_gr hM_h (d := 186) rfl ?_
      refine sm_ai hM_h rfl e_l1 ?_; intro v127 y_v127 e_v127
      refine sm_is hM_h rfl ?_
      refine sm_cI (sf_X13_textOf nn e_v127 hM_h) ?_; intro u129 y_u129 M_u129 e_u129 hM_u129
      refine sm_is hM_u129 rfl ?_
      refine sm_cI (sf_X13_kindOf nn e_l1 hM_u129) ?_; intro u131 y_u131 M_u131 e_u131 hM_u131
      refine sm_gr hM_u131 (d := 190) rfl ?_
      refine sm_ai hM_u131 rfl e_l1 ?_; intro v133 y_v133 e_v133
      refine sm_is hM_u131 rfl ?_
      refine sm_cI (sf_X13_make nn e_v133 hM_u131) ?_; intro u135 y_u135 M_u135 e_u135 hM_u135
      refine sm_eq e_u135 rfl ?_ ?_
      · exact sj_X13_makeMethod_164 nn e_l1 e_u129 e_u131 hM_u135
      · refine sm_is hM_u135 rfl ?_
        refine sm_cV (sf_X13_put nn rfl hM_u135) ?_; intro u137 hM_u137
        exact sj_X13_makeMethod_164 nn e_l1 e_u129 e_u131 hM_u137
    · refine sm_gr hM_h (d := 194) rfl ?_
      refine sm_gr hM_h (d := 188) rfl ?_
      refine sm_ai hM_h rfl e_l1 ?_; intro v141 y_v141 e_v141
      refine sm_oq_add e_v141 e_l2 ?_; intro v142 y_v142 e_v142
      refine sm_ai hM_h rfl e_v142 ?_; intro v143 y_v143 e_v143
      refine sm_gr hM_h (d := 195) rfl ?_
      refine sm_gr hM_h (d := 188) rfl ?_
      refine sm_ai hM_h rfl e_l1 ?_; intro v146 y_v146 e_v146
      refine sm_oq_add e_v146 e_l2 ?_; intro v147 y_v147 e_v147
      refine sm_ai hM_h rfl e_v147 ?_; intro v148 y_v148 e_v148
      refine sm_is hM_h rfl ?_
      refine sm_cV (sf_X13_comes nn e_v143 e_v148 hM_h) ?_; intro u150 hM_u150
      refine sm_oq_add e_l2 rfl ?_; intro v151 y_v151 e_v151
      exact ih e_l1 e_v151 hM_u150
set_option maxRecDepth 4000 in
theorem sj_X13_makeMethod_21 (nn : Nat) {l1 : Int32} {y_l1 : Int} (e_l1 : l1.toInt = y_l1) {s0 : Int32} {y_s0 : Int} (e_s0 : s0.toInt = y_s0) {h : ms_M} (hM_h : Rg_M h) : Sm_ RV_ (j_X13_makeMethod_21 nn 160 l1 s0 160 (H_M h)) (qj_X13_makeMethod_21 nn y_l1 y_s0 h) := by
  unfold j_X13_makeMethod_21 qj_X13_makeMethod_21
  refine sm_bq e_s0 ?_
  refine sm_pv hM_h rfl e_s0 ?_; intro h154 hM_h154
  refine sm_pv hM_h154 rfl rfl ?_; intro h155 hM_h155
  refine sm_pv hM_h155 rfl rfl ?_; intro h156 hM_h156
  refine sm_pv hM_h156 rfl rfl ?_; intro h157 hM_h157
  refine sm_pv hM_h157 rfl rfl ?_; intro h158 hM_h158
  refine sm_pv hM_h158 rfl rfl ?_; intro h159 hM_h159
  refine sm_pv hM_h159 rfl rfl ?_; intro h160 hM_h160
  refine sm_pv hM_h160 rfl rfl ?_; intro h161 hM_h161
  refine sm_pv hM_h161 rfl rfl ?_; intro h162 hM_h162
  refine sm_pv hM_h162 rfl rfl ?_; intro h163 hM_h163
  refine sm_pv hM_h163 rfl rfl ?_; intro h164 hM_h164
  refine sm_pv hM_h164 rfl rfl ?_; intro h165 hM_h165
  exact sw_X13_makeMethod_81 nn nn e_l1 rfl hM_h165
set_option maxRecDepth 4000 in
theorem sf_X13_makeMethod (nn : Nat) {a1 : Int32} {y_a1 : Int} (e_a1 : a1.toInt = y_a1) {h : ms_M} (hM_h : Rg_M h) : Sm_ RV_ (f_X13_makeMethod nn 160 a1 (H_M h)) (qf_X13_makeMethod nn y_a1 h) := by
  unfold f_X13_makeMethod qf_X13_makeMethod
  refine sm_pv hM_h rfl e_a1 ?_; intro h166 hM_h166
  refine sm_gr hM_h166 (d := 182) rfl ?_
  refine sm_ai hM_h166 rfl e_a1 ?_; intro v168 y_v168 e_v168
  refine sm_ne e_v168 rfl ?_ ?_
  · exact sj_X13_makeMethod_21 nn e_a1 rfl hM_h166
  · exact sj_X13_makeMethod_21 nn e_a1 rfl hM_h166
set_option maxRecDepth 4000 in
theorem sw_X13_writeConstant_119 (nn : Nat) : ∀ (k : Nat) {l1 : Int32} {y_l1 : Int} (e_l1 : l1.toInt = y_l1) {l3 : Int32} {y_l3 : Int} (e_l3 : l3.toInt = y_l3) {l4 : Int32} {y_l4 : Int} (e_l4 : l4.toInt = y_l4) {h : ms_M} (hM_h : Rg_M h), Sm_ RI_ (w_X13_writeConstant_119 nn k 160 l1 l3 l4 (H_M h)) (qw_X13_writeConstant_119 nn k y_l1 y_l3 y_l4 h) := by
  intro k
  induction k with
  | zero => intros; exact sm_no
  | succ k ih =>
    intro l1 y_l1 e_l1 l3 y_l3 e_l3 l4 y_l4 e_l4 h hM_h
    unfold w_X13_writeConstant_119 qw_X13_writeConstant_119
    refine sm_le rfl e_l4 ?_ ?_
    · refine sm_oq_add e_l3 rfl ?_; intro v1 y_v1 e_v1
      exact sm_rI e_v1 hM_h
    · refine sm_gr hM_h (d := 223) rfl ?_
      refine sm_oq_add e_l3 e_l4 ?_; intro v3 y_v3 e_v3
      refine sm_gr hM_h (d := 201) rfl ?_
      refine sm_ai hM_h rfl e_l1 ?_; intro v5 y_v5 e_v5
      refine sm_oq_mul rfl e_l4 ?_; intro v6 y_v6 e_v6
      refine sm_oq_sub rfl e_v6 ?_; intro v7 y_v7 e_v7
      refine sm_oq_shr e_v5 e_v7 ?_; intro v8 y_v8 e_v8
      refine sm_oq_and e_v8 rfl ?_; intro v9 y_v9 e_v9
      refine sm_si hM_h rfl e_v3 e_v9 ?_; intro h10 hM_h10
      refine sm_oq_add e_l4 rfl ?_; intro v11 y_v11 e_v11
      exact ih e_l1 e_l3 e_v11 hM_h10
set_option maxRecDepth 4000 in
theorem sw_X13_writeConstant_63 (nn : Nat) : ∀ (k : Nat) {l1 : Int32} {y_l1 : Int} (e_l1 : l1.toInt = y_l1) {l3 : Int32} {y_l3 : Int} (e_l3 : l3.toInt = y_l3) {l4 : Int32} {y_l4 : Int} (e_l4 : l4.toInt = y_l4) {h : ms_M} (hM_h : Rg_M h), Sm_ RI_ (w_X13_writeConstant_63 nn k 160 l1 l3 l4 (H_M h)) (qw_X13_writeConstant_63 nn k y_l1 y_l3 y_l4 h) := by
  intro k
  induction k with
  | zero => intros; exact sm_no
  | succ k ih =>
    intro l1 y_l1 e_l1 l3 y_l3 e_l3 l4 y_l4 e_l4 h hM_h
    unfold w_X13_writeConstant_63 qw_X13_writeConstant_63
    refine sm_gr hM_h (d := 202) rfl ?_
    refine sm_ai hM_h rfl e_l1 ?_; intro v14 y_v14 e_v14
    refine sm_le e_v14 e_l4 ?_ ?_
    · refine sm_oq_add e_l3 rfl ?_; intro v15 y_v15 e_v15
      refine sm_gr hM_h (d := 202) rfl ?_
      refine sm_ai hM_h rfl e_l1 ?_; intro v17 y_v17 e_v17
      refine sm_oq_add e_v15 e_v17 ?_; intro v18 y_v18 e_v18
      exact sm_rI e_v18 hM_h
    · refine sm_gr hM_h (d := 223) rfl ?_
      refine sm_oq_add e_l3 rfl ?_; intro v20 y_v20 e_v20
      refine sm_oq_add e_v20 e_l4 ?_; intro v21 y_v21 e_v21
      refine sm_gr hM_h (d := 204) rfl ?_
      refine sm_gr hM_h (d := 201) rfl ?_
      refine sm_ai hM_h rfl e_l1 ?_; intro v24 y_v24 e_v24
      refine sm_oq_add e_v24 e_l4 ?_; intro v25 y_v25 e_v25
      refine sm_ai hM_h rfl e_v25 ?_; intro v26 y_v26 e_v26
      refine sm_si hM_h rfl e_v21 e_v26 ?_; intro h27 hM_h27
      refine sm_oq_add e_l4 rfl ?_; intro v28 y_v28 e_v28
      exact ih e_l1 e_l3 e_v28 hM_h27
set_option maxRecDepth 4000 in
theorem sf_X13_writeConstant (nn : Nat) {a1 : Int32} {y_a1 : Int} (e_a1 : a1.toInt = y_a1) {a2 : Int32} {y_a2 : Int} (e_a2 : a2.toInt = y_a2) {h : ms_M} (hM_h : Rg_M h) : Sm_ RI_ (f_X13_writeConstant nn 160 a1 a2 (H_M h)) (qf_X13_writeConstant nn y_a1 y_a2 h) := by
  unfold f_X13_writeConstant qf_X13_writeConstant
  refine sm_gr hM_h (d := 223) rfl ?_
  refine sm_gr hM_h (d := 200) rfl ?_
  refine sm_ai hM_h rfl e_a1 ?_; intro v32 y_v32 e_v32
  refine sm_si hM_h rfl e_a2 e_v32 ?_; intro h33 hM_h33
  refine sm_oq_add e_a2 rfl ?_; intro v34 y_v34 e_v34
  refine sm_gr hM_h33 (d := 200) rfl ?_
  refine sm_ai hM_h33 rfl e_a1 ?_; intro v36 y_v36 e_v36
  refine sm_eq e_v36 rfl ?_ ?_
  · refine sm_gr hM_h33 (d := 223) rfl ?_
    refine sm_gr hM_h33 (d := 202) rfl ?_
    refine sm_ai hM_h33 rfl e_a1 ?_; intro v54 y_v54 e_v54
    refine sm_si hM_h33 rfl e_v34 e_v54 ?_; intro h55 hM_h55
    exact sw_X13_writeConstant_63 nn nn e_a1 e_v34 rfl hM_h55
  · refine sm_eq e_v36 rfl ?_ ?_
    · exact sw_X13_writeConstant_119 nn nn e_a1 e_v34 rfl hM_h33
    · refine sm_eq e_v36 rfl ?_ ?_
      · refine sm_gr hM_h33 (d := 223) rfl ?_
        refine sm_gr hM_h33 (d := 201) rfl ?_
        refine sm_ai hM_h33 rfl e_a1 ?_; intro v58 y_v58 e_v58
        refine sm_si hM_h33 rfl e_v34 e_v58 ?_; intro h59 hM_h59
        refine sm_oq_add e_v34 rfl ?_; intro v60 y_v60 e_v60
        exact sm_rI e_v60 hM_h59
      · refine sm_gr hM_h33 (d := 223) rfl ?_
        refine sm_gr hM_h33 (d := 201) rfl ?_
        refine sm_ai hM_h33 rfl e_a1 ?_; intro v39 y_v39 e_v39
        refine sm_si hM_h33 rfl e_v34 e_v39 ?_; intro h40 hM_h40
        refine sm_gr hM_h40 (d := 223) rfl ?_
        refine sm_oq_add e_v34 rfl ?_; intro v42 y_v42 e_v42
        refine sm_gr hM_h40 (d := 202) rfl ?_
        refine sm_ai hM_h40 rfl e_a1 ?_; intro v44 y_v44 e_v44
        refine sm_si hM_h40 rfl e_v42 e_v44 ?_; intro h45 hM_h45
        refine sm_gr hM_h45 (d := 223) rfl ?_
        refine sm_oq_add e_v34 rfl ?_; intro v47 y_v47 e_v47
        refine sm_gr hM_h45 (d := 203) rfl ?_
        refine sm_ai hM_h45 rfl e_a1 ?_; intro v49 y_v49 e_v49
        refine sm_si hM_h45 rfl e_v47 e_v49 ?_; intro h50 hM_h50
        refine sm_oq_add e_v34 rfl ?_; intro v51 y_v51 e_v51
        exact sm_rI e_v51 hM_h50
set_option maxRecDepth 4000 in
theorem sw_X13_makeClass_440 (nn : Nat) : ∀ (k : Nat) {l1 : Int32} {y_l1 : Int} (e_l1 : l1.toInt = y_l1) {l2 : Int32} {y_l2 : Int} (e_l2 : l2.toInt = y_l2) {l3 : Int32} {y_l3 : Int} (e_l3 : l3.toInt = y_l3) {l4 : Int32} {y_l4 : Int} (e_l4 : l4.toInt = y_l4) {h : ms_M} (hM_h : Rg_M h), Sm_ RV_ (w_X13_makeClass_440 nn k 160 l1 l2 l3 l4 (H_M h)) (qw_X13_makeClass_440 nn k y_l1 y_l2 y_l3 y_l4 h) := by
  intro k
  induction k with
  | zero => intros; exact sm_no
  | succ k ih =>
    intro l1 y_l1 e_l1 l2 y_l2 e_l2 l3 y_l3 e_l3 l4 y_l4 e_l4 h hM_h
    unfold w_X13_makeClass_440 qw_X13_makeClass_440
    refine sm_gi hM_h rfl ?_; intro v1 e_v1
    refine sm_le e_v1 e_l4 ?_ ?_
    · refine sm_gr hM_h (d := 224) rfl ?_
      refine sm_si hM_h rfl e_l1 e_l2 ?_; intro h3 hM_h3
      exact sm_rV hM_h3
    · refine sm_gr hM_h (d := 223) rfl ?_
      refine sm_oq_add e_l3 e_l4 ?_; intro v5 y_v5 e_v5
      refine sm_gr hM_h (d := 225) rfl ?_
      refine sm_ai hM_h rfl e_l4 ?_; intro v7 y_v7 e_v7
      refine sm_si hM_h rfl e_v5 e_v7 ?_; intro h8 hM_h8
      refine sm_oq_add e_l4 rfl ?_; intro v9 y_v9 e_v9
      exact ih e_l1 e_l2 e_l3 e_v9 hM_h8
set_option maxRecDepth 4000 in
theorem sw_X13_makeClass_414 (nn : Nat) : ∀ (k : Nat) {l1 : Int32} {y_l1 : Int} (e_l1 : l1.toInt = y_l1) {l2 : Int32} {y_l2 : Int} (e_l2 : l2.toInt = y_l2) {l3 : Int32} {y_l3 : Int} (e_l3 : l3.toInt = y_l3) {l4 : Int32} {y_l4 : Int} (e_l4 : l4.toInt = y_l4) {h : ms_M} (hM_h : Rg_M h), Sm_ RV_ (w_X13_makeClass_414 nn k 160 l1 l2 l3 l4 (H_M h)) (qw_X13_makeClass_414 nn k y_l1 y_l2 y_l3 y_l4 h) := by
  intro k
  induction k with
  | zero => intros; exact sm_no
  | succ k ih =>
    intro l1 y_l1 e_l1 l2 y_l2 e_l2 l3 y_l3 e_l3 l4 y_l4 e_l4 h hM_h
    unfold w_X13_makeClass_414 qw_X13_makeClass_414
    refine sm_gi hM_h rfl ?_; intro v11 e_v11
    refine sm_lt e_v11 e_l4 ?_ ?_
    · exact sw_X13_makeClass_440 nn nn e_l1 e_l2 e_l3 rfl hM_h
    · refine sm_is hM_h rfl ?_
      refine sm_cI (sf_X13_writeConstant nn e_l4 e_l3 hM_h) ?_; intro u13 y_u13 M_u13 e_u13 hM_u13
      refine sm_oq_add e_l4 rfl ?_; intro v14 y_v14 e_v14
      exact ih e_l1 e_l2 e_u13 e_v14 hM_u13
set_option maxRecDepth 4000 in
theorem sj_X13_makeClass_364 (nn : Nat) {l1 : Int32} {y_l1 : Int} (e_l1 : l1.toInt = y_l1) {l2 : Int32} {y_l2 : Int} (e_l2 : l2.toInt = y_l2) {h : ms_M} (hM_h : Rg_M h) : Sm_ RV_ (j_X13_makeClass_364 nn 160 l1 l2 (H_M h)) (qj_X13_makeClass_364 nn y_l1 y_l2 h) := by
  unfold j_X13_makeClass_364 qj_X13_makeClass_364
  refine sm_gi hM_h rfl ?_; intro v16 e_v16
  refine sm_eq e_v16 rfl ?_ ?_
  · refine sm_oq_mul rfl e_l1 ?_; intro v17 y_v17 e_v17
    refine sm_gr hM_h (d := 223) rfl ?_
    refine sm_si hM_h rfl e_v17 rfl ?_; intro h19 hM_h19
    refine sm_gr hM_h19 (d := 223) rfl ?_
    refine sm_oq_add e_v17 rfl ?_; intro v21 y_v21 e_v21
    refine sm_si hM_h19 rfl e_v21 rfl ?_; intro h22 hM_h22
    refine sm_gr hM_h22 (d := 223) rfl ?_
    refine sm_oq_add e_v17 rfl ?_; intro v24 y_v24 e_v24
    refine sm_gi hM_h22 rfl ?_; intro v25 e_v25
    refine sm_si hM_h22 rfl e_v24 e_v25 ?_; intro h26 hM_h26
    refine sm_oq_add e_v17 rfl ?_; intro v27 y_v27 e_v27
    exact sw_X13_makeClass_414 nn nn e_l1 e_l2 e_v27 rfl hM_h26
  · exact sm_rV hM_h
set_option maxRecDepth 4000 in
theorem sj_X13_makeClass_352 (nn : Nat) {l1 : Int32} {y_l1 : Int} (e_l1 : l1.toInt = y_l1) {l2 : Int32} {y_l2 : Int} (e_l2 : l2.toInt = y_l2) {h : ms_M} (hM_h : Rg_M h) : Sm_ RV_ (j_X13_makeClass_352 nn 160 l1 l2 (H_M h)) (qj_X13_makeClass_352 nn y_l1 y_l2 h) := by
  unfold j_X13_makeClass_352 qj_X13_makeClass_352
  refine sm_gr hM_h (d := 178) rfl ?_
  refine sm_ai hM_h rfl e_l1 ?_; intro v30 y_v30 e_v30
  refine sm_is hM_h rfl ?_
  refine sm_cV (sf_X13_wrong nn rfl e_v30 hM_h) ?_; intro u32 hM_u32
  exact sj_X13_makeClass_364 nn e_l1 e_l2 hM_u32
set_option maxRecDepth 4000 in
theorem sj_X13_makeClass_320 (nn : Nat) {kk_261 : Nat → Int32 → Int32 → Int32 → mx_H → Option mx_H} {qkk_261 : Int → Int → Int → ms_M → Option ms_M} (hk_kk_261 : ∀ {l1 : Int32} {y_l1 : Int} (e_l1 : l1.toInt = y_l1) {l2 : Int32} {y_l2 : Int} (e_l2 : l2.toInt = y_l2) {l3 : Int32} {y_l3 : Int} (e_l3 : l3.toInt = y_l3) {h : ms_M} (hM_h : Rg_M h), Sm_ RV_ (kk_261 160 l1 l2 l3 (H_M h)) (qkk_261 y_l1 y_l2 y_l3 h)) {l1 : Int32} {y_l1 : Int} (e_l1 : l1.toInt = y_l1) {l3 : Int32} {y_l3 : Int} (e_l3 : l3.toInt = y_l3) {s0 : Int32} {y_s0 : Int} (e_s0 : s0.toInt = y_s0) {s1 : Int32} {y_s1 : Int} (e_s1 : s1.toInt = y_s1) {h : ms_M} (hM_h : Rg_M h) : Sm_ RV_ (j_X13_makeClass_320 nn kk_261 160 l1 l3 s0 s1 (H_M h)) (qj_X13_makeClass_320 nn qkk_261 y_l1 y_l3 y_s0 y_s1 h) := by
  unfold j_X13_makeClass_320 qj_X13_makeClass_320
  refine sm_oq_add e_s1 e_s0 ?_; intro v33 y_v33 e_v33
  refine sm_oq_add e_l3 rfl ?_; intro v34 y_v34 e_v34
  exact hk_kk_261 e_l1 e_v33 e_v34 hM_h
set_option maxRecDepth 4000 in
theorem sw_X13_makeClass_261 (nn : Nat) : ∀ (k : Nat) {l1 : Int32} {y_l1 : Int} (e_l1 : l1.toInt = y_l1) {l2 : Int32} {y_l2 : Int} (e_l2 : l2.toInt = y_l2) {l3 : Int32} {y_l3 : Int} (e_l3 : l3.toInt = y_l3) {h : ms_M} (hM_h : Rg_M h), Sm_ RV_ (w_X13_makeClass_261 nn k 160 l1 l2 l3 (H_M h)) (qw_X13_makeClass_261 nn k y_l1 y_l2 y_l3 h) := by
  intro k
  induction k with
  | zero => intros; exact sm_no
  | succ k ih =>
    intro l1 y_l1 e_l1 l2 y_l2 e_l2 l3 y_l3 e_l3 h hM_h
    unfold w_X13_makeClass_261 qw_X13_makeClass_261
    refine sm_gi hM_h rfl ?_; intro v35 e_v35
    refine sm_lt e_v35 e_l3 ?_ ?_
    · refine sm_gi hM_h rfl ?_; intro v36 e_v36
      refine sm_ne e_v36 rfl ?_ ?_
      · exact sj_X13_makeClass_364 nn e_l1 e_l2 hM_h
      · refine sm_gi hM_h rfl ?_; intro v37 e_v37
        refine sm_lt rfl e_v37 ?_ ?_
        · exact sj_X13_makeClass_352 nn e_l1 e_l2 hM_h
        · refine sm_le e_l2 rfl ?_ ?_
          · exact sj_X13_makeClass_364 nn e_l1 e_l2 hM_h
          · exact sj_X13_makeClass_352 nn e_l1 e_l2 hM_h
    · refine sm_gr hM_h (d := 200) rfl ?_
      refine sm_ai hM_h rfl e_l3 ?_; intro v42 y_v42 e_v42
      refine sm_ne e_v42 rfl ?_ ?_
      · refine sm_gr hM_h (d := 200) rfl ?_
        refine sm_ai hM_h rfl e_l3 ?_; intro v44 y_v44 e_v44
        refine sm_ne e_v44 rfl ?_ ?_
        · refine sm_gr hM_h (d := 200) rfl ?_
          refine sm_ai hM_h rfl e_l3 ?_; intro v46 y_v46 e_v46
          refine sm_ne e_v46 rfl ?_ ?_
          · exact sj_X13_makeClass_320 nn ih e_l1 e_l3 rfl e_l2 hM_h
          · exact sj_X13_makeClass_320 nn ih e_l1 e_l3 rfl e_l2 hM_h
        · exact sj_X13_makeClass_320 nn ih e_l1 e_l3 rfl e_l2 hM_h
      · refine sm_gr hM_h (d := 202) rfl ?_
        refine sm_ai hM_h rfl e_l3 ?_; intro v50 y_v50 e_v50
        refine sm_oq_add rfl e_v50 ?_; intro v51 y_v51 e_v51
        exact sj_X13_makeClass_320 nn ih e_l1 e_l3 e_v51 e_l2 hM_h
set_option maxRecDepth 4000 in
theorem sj_X13_makeClass_195 (nn : Nat) {kk_68 : Nat → Int32 → Int32 → mx_H → Option mx_H} {qkk_68 : Int → Int → ms_M → Option ms_M} (hk_kk_68 : ∀ {l1 : Int32} {y_l1 : Int} (e_l1 : l1.toInt = y_l1) {l2 : Int32} {y_l2 : Int} (e_l2 : l2.toInt = y_l2) {h : ms_M} (hM_h : Rg_M h), Sm_ RV_ (kk_68 160 l1 l2 (H_M h)) (qkk_68 y_l1 y_l2 h)) {kk_143 : Nat → Int32 → Int32 → Int32 → mx_H → Option mx_H} {qkk_143 : Int → Int → Int → ms_M → Option ms_M} (hk_kk_143 : ∀ {l1 : Int32} {y_l1 : Int} (e_l1 : l1.toInt = y_l1) {l2 : Int32} {y_l2 : Int} (e_l2 : l2.toInt = y_l2) {l4 : Int32} {y_l4 : Int} (e_l4 : l4.toInt = y_l4) {h : ms_M} (hM_h : Rg_M h), Sm_ RV_ (kk_143 160 l1 l2 l4 (H_M h)) (qkk_143 y_l1 y_l2 y_l4 h)) {l1 : Int32} {y_l1 : Int} (e_l1 : l1.toInt = y_l1) {l2 : Int32} {y_l2 : Int} (e_l2 : l2.toInt = y_l2) {l4 : Int32} {y_l4 : Int} (e_l4 : l4.toInt = y_l4) {s0 : Int32} {y_s0 : Int} (e_s0 : s0.toInt = y_s0) {s1 : Int32} {y_s1 : Int} (e_s1 : s1.toInt = y_s1) {h : ms_M} (hM_h : Rg_M h) : Sm_ RV_ (j_X13_makeClass_195 nn kk_68 kk_143 160 l1 l2 l4 s0 s1 (H_M h)) (qj_X13_makeClass_195 nn qkk_68 qkk_143 y_l1 y_l2 y_l4 y_s0 y_s1 h) := by
  unfold j_X13_makeClass_195 qj_X13_makeClass_195
  refine sm_eq e_s1 e_s0 ?_ ?_
  · refine sm_ne e_l2 rfl ?_ ?_
    · refine sm_gr hM_h (d := 186) rfl ?_
      refine sm_ai hM_h rfl e_l4 ?_; intro v55 y_v55 e_v55
      refine sm_is hM_h rfl ?_
      refine sm_cI (sf_X13_textOf nn e_v55 hM_h) ?_; intro u57 y_u57 M_u57 e_u57 hM_u57
      refine sm_is hM_u57 rfl ?_
      refine sm_cV (sf_X13_tell nn e_u57 hM_u57) ?_; intro u59 hM_u59
      refine sm_is hM_u59 rfl ?_
      refine sm_cI (sf_X13_kindOf nn e_l4 hM_u59) ?_; intro u61 y_u61 M_u61 e_u61 hM_u61
      refine sm_is hM_u61 rfl ?_
      refine sm_cV (sf_X13_tell nn e_u61 hM_u61) ?_; intro u63 hM_u63
      refine sm_oq_add e_l4 rfl ?_; intro v64 y_v64 e_v64
      exact hk_kk_143 e_l1 e_l2 e_v64 hM_u63
    · refine sm_is hM_h rfl ?_
      refine sm_cV (sf_X13_makeMethod nn e_l4 hM_h) ?_; intro u66 hM_u66
      refine sm_oq_add e_l4 rfl ?_; intro v67 y_v67 e_v67
      exact hk_kk_143 e_l1 e_l2 e_v67 hM_u66
  · refine sm_oq_add e_l4 rfl ?_; intro v69 y_v69 e_v69
    exact hk_kk_143 e_l1 e_l2 e_v69 hM_h
set_option maxRecDepth 4000 in
theorem sj_X13_makeClass_185 (nn : Nat) {kk_68 : Nat → Int32 → Int32 → mx_H → Option mx_H} {qkk_68 : Int → Int → ms_M → Option ms_M} (hk_kk_68 : ∀ {l1 : Int32} {y_l1 : Int} (e_l1 : l1.toInt = y_l1) {l2 : Int32} {y_l2 : Int} (e_l2 : l2.toInt = y_l2) {h : ms_M} (hM_h : Rg_M h), Sm_ RV_ (kk_68 160 l1 l2 (H_M h)) (qkk_68 y_l1 y_l2 h)) {kk_143 : Nat → Int32 → Int32 → Int32 → mx_H → Option mx_H} {qkk_143 : Int → Int → Int → ms_M → Option ms_M} (hk_kk_143 : ∀ {l1 : Int32} {y_l1 : Int} (e_l1 : l1.toInt = y_l1) {l2 : Int32} {y_l2 : Int} (e_l2 : l2.toInt = y_l2) {l4 : Int32} {y_l4 : Int} (e_l4 : l4.toInt = y_l4) {h : ms_M} (hM_h : Rg_M h), Sm_ RV_ (kk_143 160 l1 l2 l4 (H_M h)) (qkk_143 y_l1 y_l2 y_l4 h)) {l1 : Int32} {y_l1 : Int} (e_l1 : l1.toInt = y_l1) {l2 : Int32} {y_l2 : Int} (e_l2 : l2.toInt = y_l2) {l4 : Int32} {y_l4 : Int} (e_l4 : l4.toInt = y_l4) {s0 : Int32} {y_s0 : Int} (e_s0 : s0.toInt = y_s0) {h : ms_M} (hM_h : Rg_M h) : Sm_ RV_ (j_X13_makeClass_185 nn kk_68 kk_143 160 l1 l2 l4 s0 (H_M h)) (qj_X13_makeClass_185 nn qkk_68 qkk_143 y_l1 y_l2 y_l4 y_s0 h) := by
  unfold j_X13_makeClass_185 qj_X13_makeClass_185
  refine sm_ne e_l2 rfl ?_ ?_
  · exact sj_X13_makeClass_195 nn hk_kk_68 hk_kk_143 e_l1 e_l2 e_l4 rfl e_s0 hM_h
  · exact sj_X13_makeClass_195 nn hk_kk_68 hk_kk_143 e_l1 e_l2 e_l4 rfl e_s0 hM_h
set_option maxRecDepth 4000 in
theorem sw_X13_makeClass_143 (nn : Nat) {kk_68 : Nat → Int32 → Int32 → mx_H → Option mx_H} {qkk_68 : Int → Int → ms_M → Option ms_M} (hk_kk_68 : ∀ {l1 : Int32} {y_l1 : Int} (e_l1 : l1.toInt = y_l1) {l2 : Int32} {y_l2 : Int} (e_l2 : l2.toInt = y_l2) {h : ms_M} (hM_h : Rg_M h), Sm_ RV_ (kk_68 160 l1 l2 (H_M h)) (qkk_68 y_l1 y_l2 h)) : ∀ (k : Nat) {l1 : Int32} {y_l1 : Int} (e_l1 : l1.toInt = y_l1) {l2 : Int32} {y_l2 : Int} (e_l2 : l2.toInt = y_l2) {l4 : Int32} {y_l4 : Int} (e_l4 : l4.toInt = y_l4) {h : ms_M} (hM_h : Rg_M h), Sm_ RV_ (w_X13_makeClass_143 nn kk_68 k 160 l1 l2 l4 (H_M h)) (qw_X13_makeClass_143 nn qkk_68 k y_l1 y_l2 y_l4 h) := by
  intro k
  induction k with
  | zero => intros; exact sm_no
  | succ k ih =>
    intro l1 y_l1 e_l1 l2 y_l2 e_l2 l4 y_l4 e_l4 h hM_h
    unfold w_X13_makeClass_143 qw_X13_makeClass_143
    refine sm_gi hM_h rfl ?_; intro v72 e_v72
    refine sm_le e_v72 e_l4 ?_ ?_
    · refine sm_oq_add e_l2 rfl ?_; intro v73 y_v73 e_v73
      exact hk_kk_68 e_l1 e_v73 hM_h
    · refine sm_gi hM_h rfl ?_; intro v74 e_v74
      refine sm_ne e_v74 rfl ?_ ?_
      · refine sm_oq_add e_l2 rfl ?_; intro v75 y_v75 e_v75
        exact hk_kk_68 e_l1 e_v75 hM_h
      · refine sm_gr hM_h (d := 181) rfl ?_
        refine sm_ai hM_h rfl e_l4 ?_; intro v77 y_v77 e_v77
        refine sm_ne e_v77 e_l1 ?_ ?_
        · refine sm_oq_add e_l4 rfl ?_; intro v78 y_v78 e_v78
          exact ih e_l1 e_l2 e_v78 hM_h
        · refine sm_gr hM_h (d := 182) rfl ?_
          refine sm_ai hM_h rfl e_l4 ?_; intro v80 y_v80 e_v80
          refine sm_le e_v80 rfl ?_ ?_
          · exact sj_X13_makeClass_185 nn hk_kk_68 ih e_l1 e_l2 e_l4 rfl hM_h
          · exact sj_X13_makeClass_185 nn hk_kk_68 ih e_l1 e_l2 e_l4 rfl hM_h
set_option maxRecDepth 4000 in
theorem sj_X13_makeClass_123 (nn : Nat) {kk_68 : Nat → Int32 → Int32 → mx_H → Option mx_H} {qkk_68 : Int → Int → ms_M → Option ms_M} (hk_kk_68 : ∀ {l1 : Int32} {y_l1 : Int} (e_l1 : l1.toInt = y_l1) {l2 : Int32} {y_l2 : Int} (e_l2 : l2.toInt = y_l2) {h : ms_M} (hM_h : Rg_M h), Sm_ RV_ (kk_68 160 l1 l2 (H_M h)) (qkk_68 y_l1 y_l2 h)) {kk_78 : Nat → Int32 → Int32 → Int32 → Int32 → mx_H → Option mx_H} {qkk_78 : Int → Int → Int → Int → ms_M → Option ms_M} (hk_kk_78 : ∀ {l1 : Int32} {y_l1 : Int} (e_l1 : l1.toInt = y_l1) {l2 : Int32} {y_l2 : Int} (e_l2 : l2.toInt = y_l2) {l3 : Int32} {y_l3 : Int} (e_l3 : l3.toInt = y_l3) {l4 : Int32} {y_l4 : Int} (e_l4 : l4.toInt = y_l4) {h : ms_M} (hM_h : Rg_M h), Sm_ RV_ (kk_78 160 l1 l2 l3 l4 (H_M h)) (qkk_78 y_l1 y_l2 y_l3 y_l4 h)) {l1 : Int32} {y_l1 : Int} (e_l1 : l1.toInt = y_l1) {l2 : Int32} {y_l2 : Int} (e_l2 : l2.toInt = y_l2) {l3 : Int32} {y_l3 : Int} (e_l3 : l3.toInt = y_l3) {l4 : Int32} {y_l4 : Int} (e_l4 : l4.toInt = y_l4) {s0 : Int32} {y_s0 : Int} (e_s0 : s0.toInt = y_s0) {s1 : Int32} {y_s1 : Int} (e_s1 : s1.toInt = y_s1) {h : ms_M} (hM_h : Rg_M h) : Sm_ RV_ (j_X13_makeClass_123 nn kk_68 kk_78 160 l1 l2 l3 l4 s0 s1 (H_M h)) (qj_X13_makeClass_123 nn qkk_68 qkk_78 y_l1 y_l2 y_l3 y_l4 y_s0 y_s1 h) := by
  unfold j_X13_makeClass_123 qj_X13_makeClass_123
  refine sm_ne e_s1 e_s0 ?_ ?_
  · refine sm_oq_add e_l4 rfl ?_; intro v85 y_v85 e_v85
    exact hk_kk_78 e_l1 e_l2 e_l3 e_v85 hM_h
  · refine sm_oq_add e_l3 rfl ?_; intro v86 y_v86 e_v86
    refine sm_oq_add e_l4 rfl ?_; intro v87 y_v87 e_v87
    exact hk_kk_78 e_l1 e_l2 e_v86 e_v87 hM_h
set_option maxRecDepth 4000 in
theorem sj_X13_makeClass_113 (nn : Nat) {kk_68 : Nat → Int32 → Int32 → mx_H → Option mx_H} {qkk_68 : Int → Int → ms_M → Option ms_M} (hk_kk_68 : ∀ {l1 : Int32} {y_l1 : Int} (e_l1 : l1.toInt = y_l1) {l2 : Int32} {y_l2 : Int} (e_l2 : l2.toInt = y_l2) {h : ms_M} (hM_h : Rg_M h), Sm_ RV_ (kk_68 160 l1 l2 (H_M h)) (qkk_68 y_l1 y_l2 h)) {kk_78 : Nat → Int32 → Int32 → Int32 → Int32 → mx_H → Option mx_H} {qkk_78 : Int → Int → Int → Int → ms_M → Option ms_M} (hk_kk_78 : ∀ {l1 : Int32} {y_l1 : Int} (e_l1 : l1.toInt = y_l1) {l2 : Int32} {y_l2 : Int} (e_l2 : l2.toInt = y_l2) {l3 : Int32} {y_l3 : Int} (e_l3 : l3.toInt = y_l3) {l4 : Int32} {y_l4 : Int} (e_l4 : l4.toInt = y_l4) {h : ms_M} (hM_h : Rg_M h), Sm_ RV_ (kk_78 160 l1 l2 l3 l4 (H_M h)) (qkk_78 y_l1 y_l2 y_l3 y_l4 h)) {l1 : Int32} {y_l1 : Int} (e_l1 : l1.toInt = y_l1) {l2 : Int32} {y_l2 : Int} (e_l2 : l2.toInt = y_l2) {l3 : Int32} {y_l3 : Int} (e_l3 : l3.toInt = y_l3) {l4 : Int32} {y_l4 : Int} (e_l4 : l4.toInt = y_l4) {s0 : Int32} {y_s0 : Int} (e_s0 : s0.toInt = y_s0) {h : ms_M} (hM_h : Rg_M h) : Sm_ RV_ (j_X13_makeClass_113 nn kk_68 kk_78 160 l1 l2 l3 l4 s0 (H_M h)) (qj_X13_makeClass_113 nn qkk_68 qkk_78 y_l1 y_l2 y_l3 y_l4 y_s0 h) := by
  unfold j_X13_makeClass_113 qj_X13_makeClass_113
  refine sm_ne e_l2 rfl ?_ ?_
  · exact sj_X13_makeClass_123 nn hk_kk_68 hk_kk_78 e_l1 e_l2 e_l3 e_l4 rfl e_s0 hM_h
  · exact sj_X13_makeClass_123 nn hk_kk_68 hk_kk_78 e_l1 e_l2 e_l3 e_l4 rfl e_s0 hM_h
set_option maxRecDepth 4000 in
theorem sw_X13_makeClass_78 (nn : Nat) {kk_68 : Nat → Int32 → Int32 → mx_H → Option mx_H} {qkk_68 : Int → Int → ms_M → Option ms_M} (hk_kk_68 : ∀ {l1 : Int32} {y_l1 : Int} (e_l1 : l1.toInt = y_l1) {l2 : Int32} {y_l2 : Int} (e_l2 : l2.toInt = y_l2) {h : ms_M} (hM_h : Rg_M h), Sm_ RV_ (kk_68 160 l1 l2 (H_M h)) (qkk_68 y_l1 y_l2 h)) : ∀ (k : Nat) {l1 : Int32} {y_l1 : Int} (e_l1 : l1.toInt = y_l1) {l2 : Int32} {y_l2 : Int} (e_l2 : l2.toInt = y_l2) {l3 : Int32} {y_l3 : Int} (e_l3 : l3.toInt = y_l3) {l4 : Int32} {y_l4 : Int} (e_l4 : l4.toInt = y_l4) {h : ms_M} (hM_h : Rg_M h), Sm_ RV_ (w_X13_makeClass_78 nn kk_68 k 160 l1 l2 l3 l4 (H_M h)) (qw_X13_makeClass_78 nn qkk_68 k y_l1 y_l2 y_l3 y_l4 h) := by
  intro k
  induction k with
  | zero => intros; exact sm_no
  | succ k ih =>
    intro l1 y_l1 e_l1 l2 y_l2 e_l2 l3 y_l3 e_l3 l4 y_l4 e_l4 h hM_h
    unfold w_X13_makeClass_78 qw_X13_makeClass_78
    refine sm_gi hM_h rfl ?_; intro v90 e_v90
    refine sm_le e_v90 e_l4 ?_ ?_
    · refine sm_is hM_h rfl ?_
      refine sm_cV (sf_X13_tell nn e_l3 hM_h) ?_; intro u92 hM_u92
      exact sw_X13_makeClass_143 nn hk_kk_68 nn e_l1 e_l2 rfl hM_u92
    · refine sm_gr hM_h (d := 181) rfl ?_
      refine sm_ai hM_h rfl e_l4 ?_; intro v94 y_v94 e_v94
      refine sm_ne e_v94 e_l1 ?_ ?_
      · refine sm_oq_add e_l4 rfl ?_; intro v95 y_v95 e_v95
        exact ih e_l1 e_l2 e_l3 e_v95 hM_h
      · refine sm_gr hM_h (d := 182) rfl ?_
        refine sm_ai hM_h rfl e_l4 ?_; intro v97 y_v97 e_v97
        refine sm_le e_v97 rfl ?_ ?_
        · exact sj_X13_makeClass_113 nn hk_kk_68 ih e_l1 e_l2 e_l3 e_l4 rfl hM_h
        · exact sj_X13_makeClass_113 nn hk_kk_68 ih e_l1 e_l2 e_l3 e_l4 rfl hM_h
set_option maxRecDepth 4000 in
theorem sw_X13_makeClass_68 (nn : Nat) : ∀ (k : Nat) {l1 : Int32} {y_l1 : Int} (e_l1 : l1.toInt = y_l1) {l2 : Int32} {y_l2 : Int} (e_l2 : l2.toInt = y_l2) {h : ms_M} (hM_h : Rg_M h), Sm_ RV_ (w_X13_makeClass_68 nn k 160 l1 l2 (H_M h)) (qw_X13_makeClass_68 nn k y_l1 y_l2 h) := by
  intro k
  induction k with
  | zero => intros; exact sm_no
  | succ k ih =>
    intro l1 y_l1 e_l1 l2 y_l2 e_l2 h hM_h
    unfold w_X13_makeClass_68 qw_X13_makeClass_68
    refine sm_le rfl e_l2 ?_ ?_
    · refine sm_gi hM_h rfl ?_; intro v101 e_v101
      refine sm_oq_add rfl e_v101 ?_; intro v102 y_v102 e_v102
      exact sw_X13_makeClass_261 nn nn e_l1 e_v102 rfl hM_h
    · exact sw_X13_makeClass_78 nn ih nn e_l1 e_l2 rfl rfl hM_h
set_option maxRecDepth 4000 in
theorem sf_X13_makeClass (nn : Nat) {a1 : Int32} {y_a1 : Int} (e_a1 : a1.toInt = y_a1) {h : ms_M} (hM_h : Rg_M h) : Sm_ RV_ (f_X13_makeClass nn 160 a1 (H_M h)) (qf_X13_makeClass nn y_a1 h) := by
  unfold f_X13_makeClass qf_X13_makeClass
  refine sm_pv hM_h rfl rfl ?_; intro h104 hM_h104
  refine sm_pv hM_h104 rfl rfl ?_; intro h105 hM_h105
  refine sm_pv hM_h105 rfl rfl ?_; intro h106 hM_h106
  refine sm_pv hM_h106 rfl rfl ?_; intro h107 hM_h107
  refine sm_oq_add rfl e_a1 ?_; intro v108 y_v108 e_v108
  refine sm_pv hM_h107 rfl e_v108 ?_; intro h109 hM_h109
  refine sm_gi hM_h109 rfl ?_; intro v110 e_v110
  refine sm_oq_mul rfl e_v110 ?_; intro v111 y_v111 e_v111
  refine sm_oq_add rfl e_v111 ?_; intro v112 y_v112 e_v112
  refine sm_is hM_h109 rfl ?_
  refine sm_cI (sf_X13_classConstant nn e_v112 hM_h109) ?_; intro u114 y_u114 M_u114 e_u114 hM_u114
  refine sm_is hM_u114 rfl ?_
  refine sm_cV (sf_X13_tell nn e_u114 hM_u114) ?_; intro u116 hM_u116
  refine sm_gi hM_u116 rfl ?_; intro v117 e_v117
  refine sm_is hM_u116 rfl ?_
  refine sm_cP (sf_X13_upperOf nn e_v117 hM_u116) ?_; intro u119 y_u119 e_u119
  refine sm_oq_mul rfl e_u119 ?_; intro v120 y_v120 e_v120
  refine sm_oq_add rfl e_v120 ?_; intro v121 y_v121 e_v121
  refine sm_is hM_u116 rfl ?_
  refine sm_cI (sf_X13_classConstant nn e_v121 hM_u116) ?_; intro u123 y_u123 M_u123 e_u123 hM_u123
  refine sm_is hM_u123 rfl ?_
  refine sm_cV (sf_X13_tell nn e_u123 hM_u123) ?_; intro u125 hM_u125
  exact sw_X13_makeClass_68 nn nn e_a1 rfl hM_u125
set_option maxRecDepth 4000 in
theorem sf_X13_isSign (nn : Nat) {a1 : Int32} {y_a1 : Int} (e_a1 : a1.toInt = y_a1) {a2 : Int32} {y_a2 : Int} (e_a2 : a2.toInt = y_a2) {h : ms_M} (hM_h : Rg_M h) : Sm_ (RP_ h) (f_X13_isSign nn 160 a1 a2 (H_M h)) (qf_X13_isSign nn y_a1 y_a2 h) := by
  unfold f_X13_isSign qf_X13_isSign
  refine sm_gr hM_h (d := 163) rfl ?_
  refine sm_ai hM_h rfl e_a1 ?_; intro v2 y_v2 e_v2
  refine sm_ne e_v2 rfl ?_ ?_
  · exact sm_rP rfl
  · refine sm_gr hM_h (d := 166) rfl ?_
    refine sm_ai hM_h rfl e_a1 ?_; intro v4 y_v4 e_v4
    refine sm_ne e_v4 e_a2 ?_ ?_
    · exact sm_rP rfl
    · exact sm_rP rfl
set_option maxRecDepth 4000 in
theorem sf_X13_add (nn : Nat) {a1 : Int32} {y_a1 : Int} (e_a1 : a1.toInt = y_a1) {a2 : Int32} {y_a2 : Int} (e_a2 : a2.toInt = y_a2) {a3 : Int32} {y_a3 : Int} (e_a3 : a3.toInt = y_a3) {h : ms_M} (hM_h : Rg_M h) : Sm_ RI_ (f_X13_add nn 160 a1 a2 a3 (H_M h)) (qf_X13_add nn y_a1 y_a2 y_a3 h) := by
  unfold f_X13_add qf_X13_add
  refine sm_gr hM_h (d := 167) rfl ?_
  refine sm_gi hM_h rfl ?_; intro v2 e_v2
  refine sm_si hM_h rfl e_v2 e_a1 ?_; intro h3 hM_h3
  refine sm_gr hM_h3 (d := 168) rfl ?_
  refine sm_gi hM_h3 rfl ?_; intro v5 e_v5
  refine sm_si hM_h3 rfl e_v5 e_a2 ?_; intro h6 hM_h6
  refine sm_gr hM_h6 (d := 169) rfl ?_
  refine sm_gi hM_h6 rfl ?_; intro v8 e_v8
  refine sm_si hM_h6 rfl e_v8 e_a3 ?_; intro h9 hM_h9
  refine sm_gr hM_h9 (d := 170) rfl ?_
  refine sm_gi hM_h9 rfl ?_; intro v11 e_v11
  refine sm_si hM_h9 rfl e_v11 rfl ?_; intro h12 hM_h12
  refine sm_gr hM_h12 (d := 171) rfl ?_
  refine sm_gi hM_h12 rfl ?_; intro v14 e_v14
  refine sm_si hM_h12 rfl e_v14 rfl ?_; intro h15 hM_h15
  refine sm_gr hM_h15 (d := 172) rfl ?_
  refine sm_gi hM_h15 rfl ?_; intro v17 e_v17
  refine sm_si hM_h15 rfl e_v17 rfl ?_; intro h18 hM_h18
  refine sm_gr hM_h18 (d := 173) rfl ?_
  refine sm_gi hM_h18 rfl ?_; intro v20 e_v20
  refine sm_si hM_h18 rfl e_v20 rfl ?_; intro h21 hM_h21
  refine sm_gr hM_h21 (d := 174) rfl ?_
  refine sm_gi hM_h21 rfl ?_; intro v23 e_v23
  refine sm_si hM_h21 rfl e_v23 rfl ?_; intro h24 hM_h24
  refine sm_gr hM_h24 (d := 175) rfl ?_
  refine sm_gi hM_h24 rfl ?_; intro v26 e_v26
  refine sm_si hM_h24 rfl e_v26 rfl ?_; intro h27 hM_h27
  refine sm_gr hM_h27 (d := 176) rfl ?_
  refine sm_gi hM_h27 rfl ?_; intro v29 e_v29
  refine sm_si hM_h27 rfl e_v29 rfl ?_; intro h30 hM_h30
  refine sm_gr hM_h30 (d := 177) rfl ?_
  refine sm_gi hM_h30 rfl ?_; intro v32 e_v32
  refine sm_sz hM_h30 rfl e_v32 rfl ?_; intro h33 hM_h33
  refine sm_gi hM_h33 rfl ?_; intro v34 e_v34
  refine sm_oq_add e_v34 rfl ?_; intro v35 y_v35 e_v35
  refine sm_pv hM_h33 rfl e_v35 ?_; intro h36 hM_h36
  refine sm_gi hM_h36 rfl ?_; intro v37 e_v37
  refine sm_oq_sub e_v37 rfl ?_; intro v38 y_v38 e_v38
  exact sm_rI e_v38 hM_h36
set_option maxRecDepth 4000 in
theorem sj_X13_misplaced_20 (nn : Nat) {s0 : Int32} {y_s0 : Int} (e_s0 : s0.toInt = y_s0) {h : ms_M} (hM_h : Rg_M h) : Sm_ RV_ (j_X13_misplaced_20 nn 160 s0 160 (H_M h)) (qj_X13_misplaced_20 nn y_s0 h) := by
  unfold j_X13_misplaced_20 qj_X13_misplaced_20
  refine sm_gi hM_h rfl ?_; intro v1 e_v1
  refine sm_is hM_h rfl ?_
  refine sm_cV (sf_X13_wrong nn e_s0 e_v1 hM_h) ?_; intro u3 hM_u3
  exact sm_rV hM_u3
set_option maxRecDepth 4000 in
theorem sf_X13_misplaced (nn : Nat) {h : ms_M} (hM_h : Rg_M h) : Sm_ RV_ (f_X13_misplaced nn 160 (H_M h)) (qf_X13_misplaced nn h) := by
  unfold f_X13_misplaced qf_X13_misplaced
  refine sm_gr hM_h (d := 163) rfl ?_
  refine sm_gi hM_h rfl ?_; intro v5 e_v5
  refine sm_ai hM_h rfl e_v5 ?_; intro v6 y_v6 e_v6
  refine sm_ne e_v6 rfl ?_ ?_
  · exact sj_X13_misplaced_20 nn rfl hM_h
  · exact sj_X13_misplaced_20 nn rfl hM_h
set_option maxRecDepth 4000 in
theorem sf_X13_sign_ (nn : Nat) {a1 : Int32} {y_a1 : Int} (e_a1 : a1.toInt = y_a1) {h : ms_M} (hM_h : Rg_M h) : Sm_ RV_ (f_X13_sign_ nn 160 a1 (H_M h)) (qf_X13_sign_ nn y_a1 h) := by
  unfold f_X13_sign_ qf_X13_sign_
  refine sm_gi hM_h rfl ?_; intro v1 e_v1
  refine sm_eq e_v1 rfl ?_ ?_
  · refine sm_gi hM_h rfl ?_; intro v2 e_v2
    refine sm_is hM_h rfl ?_
    refine sm_cP (sf_X13_isSign nn e_v2 e_a1 hM_h) ?_; intro u4 y_u4 e_u4
    refine sm_eq e_u4 rfl ?_ ?_
    · refine sm_is hM_h rfl ?_
      refine sm_cV (sf_X13_misplaced nn hM_h) ?_; intro u6 hM_u6
      exact sm_rV hM_u6
    · refine sm_gi hM_h rfl ?_; intro v7 e_v7
      refine sm_oq_add e_v7 rfl ?_; intro v8 y_v8 e_v8
      refine sm_pv hM_h rfl e_v8 ?_; intro h9 hM_h9
      exact sm_rV hM_h9
  · exact sm_rV hM_h
set_option maxRecDepth 4000 in
theorem sj_X13_isDeep_37 (nn : Nat) {s0 : Int32} {y_s0 : Int} (e_s0 : s0.toInt = y_s0) {h : ms_M} (hM_h : Rg_M h) : Sm_ RI_ (j_X13_isDeep_37 nn 160 s0 160 (H_M h)) (qj_X13_isDeep_37 nn y_s0 h) := by
  unfold j_X13_isDeep_37 qj_X13_isDeep_37
  refine sm_gi hM_h rfl ?_; intro v1 e_v1
  refine sm_is hM_h rfl ?_
  refine sm_cV (sf_X13_wrong nn e_s0 e_v1 hM_h) ?_; intro u3 hM_u3
  exact sm_rI rfl hM_u3
set_option maxRecDepth 4000 in
theorem sf_X13_isDeep (nn : Nat) {a1 : Int32} {y_a1 : Int} (e_a1 : a1.toInt = y_a1) {h : ms_M} (hM_h : Rg_M h) : Sm_ RI_ (f_X13_isDeep nn 160 a1 (H_M h)) (qf_X13_isDeep nn y_a1 h) := by
  unfold f_X13_isDeep qf_X13_isDeep
  refine sm_gi hM_h rfl ?_; intro v4 e_v4
  refine sm_eq e_v4 rfl ?_ ?_
  · refine sm_le rfl e_a1 ?_ ?_
    · refine sm_gr hM_h (d := 163) rfl ?_
      refine sm_gi hM_h rfl ?_; intro v6 e_v6
      refine sm_ai hM_h rfl e_v6 ?_; intro v7 y_v7 e_v7
      refine sm_ne e_v7 rfl ?_ ?_
      · exact sj_X13_isDeep_37 nn rfl hM_h
      · exact sj_X13_isDeep_37 nn rfl hM_h
    · exact sm_rI rfl hM_h
  · exact sm_rI rfl hM_h
set_option maxRecDepth 4000 in
theorem sf_X13_name (nn : Nat) {h : ms_M} (hM_h : Rg_M h) : Sm_ RI_ (f_X13_name nn 160 (H_M h)) (qf_X13_name nn h) := by
  unfold f_X13_name qf_X13_name
  refine sm_gi hM_h rfl ?_; intro v1 e_v1
  refine sm_eq e_v1 rfl ?_ ?_
  · refine sm_gr hM_h (d := 163) rfl ?_
    refine sm_gi hM_h rfl ?_; intro v3 e_v3
    refine sm_ai hM_h rfl e_v3 ?_; intro v4 y_v4 e_v4
    refine sm_eq e_v4 rfl ?_ ?_
    · refine sm_gi hM_h rfl ?_; intro v5 e_v5
      refine sm_oq_add e_v5 rfl ?_; intro v6 y_v6 e_v6
      refine sm_pv hM_h rfl e_v6 ?_; intro h7 hM_h7
      refine sm_gi hM_h7 rfl ?_; intro v8 e_v8
      refine sm_oq_sub e_v8 rfl ?_; intro v9 y_v9 e_v9
      exact sm_rI e_v9 hM_h7
    · refine sm_is hM_h rfl ?_
      refine sm_cV (sf_X13_misplaced nn hM_h) ?_; intro u11 hM_u11
      exact sm_rI rfl hM_u11
  · exact sm_rI rfl hM_h
set_option maxRecDepth 4000 in
theorem sj_X13_isCast_154 (nn : Nat) {h : ms_M} (hM_h : Rg_M h) : Sm_ (RP_ h) (j_X13_isCast_154 nn (H_M h)) (qj_X13_isCast_154 nn h) := by
  unfold j_X13_isCast_154 qj_X13_isCast_154
  exact sm_rP rfl
set_option maxRecDepth 4000 in
theorem sf_X13_isCast (nn : Nat) {h : ms_M} (hM_h : Rg_M h) : Sm_ (RP_ h) (f_X13_isCast nn 160 (H_M h)) (qf_X13_isCast nn h) := by
  unfold f_X13_isCast qf_X13_isCast
  refine sm_gi hM_h rfl ?_; intro v1 e_v1
  refine sm_is hM_h rfl ?_
  refine sm_cP (sf_X13_isSign nn e_v1 rfl hM_h) ?_; intro u3 y_u3 e_u3
  refine sm_eq e_u3 rfl ?_ ?_
  · exact sm_rP rfl
  · refine sm_gr hM_h (d := 163) rfl ?_
    refine sm_gi hM_h rfl ?_; intro v5 e_v5
    refine sm_oq_add e_v5 rfl ?_; intro v6 y_v6 e_v6
    refine sm_ai hM_h rfl e_v6 ?_; intro v7 y_v7 e_v7
    refine sm_ne e_v7 rfl ?_ ?_
    · exact sm_rP rfl
    · refine sm_gi hM_h rfl ?_; intro v8 e_v8
      refine sm_oq_add e_v8 rfl ?_; intro v9 y_v9 e_v9
      refine sm_is hM_h rfl ?_
      refine sm_cP (sf_X13_isSign nn e_v9 rfl hM_h) ?_; intro u11 y_u11 e_u11
      refine sm_ne e_u11 rfl ?_ ?_
      · refine sm_gi hM_h rfl ?_; intro v12 e_v12
        refine sm_oq_add e_v12 rfl ?_; intro v13 y_v13 e_v13
        refine sm_gr hM_h (d := 163) rfl ?_
        refine sm_ai hM_h rfl e_v13 ?_; intro v15 y_v15 e_v15
        refine sm_eq e_v15 rfl ?_ ?_
        · exact sm_rP rfl
        · refine sm_gr hM_h (d := 163) rfl ?_
          refine sm_ai hM_h rfl e_v13 ?_; intro v17 y_v17 e_v17
          refine sm_ne e_v17 rfl ?_ ?_
          · refine sm_is hM_h rfl ?_
            refine sm_cP (sf_X13_isSign nn e_v13 rfl hM_h) ?_; intro u19 y_u19 e_u19
            refine sm_ne e_u19 rfl ?_ ?_
            · exact sj_X13_isCast_154 nn hM_h
            · refine sm_is hM_h rfl ?_
              refine sm_cP (sf_X13_isSign nn e_v13 rfl hM_h) ?_; intro u21 y_u21 e_u21
              refine sm_ne e_u21 rfl ?_ ?_
              · exact sj_X13_isCast_154 nn hM_h
              · refine sm_is hM_h rfl ?_
                refine sm_cP (sf_X13_isSign nn e_v13 rfl hM_h) ?_; intro u23 y_u23 e_u23
                refine sm_ne e_u23 rfl ?_ ?_
                · exact sj_X13_isCast_154 nn hM_h
                · refine sm_is hM_h rfl ?_
                  refine sm_cP (sf_X13_isWord nn e_v13 rfl hM_h) ?_; intro u25 y_u25 e_u25
                  refine sm_ne e_u25 rfl ?_ ?_
                  · exact sj_X13_isCast_154 nn hM_h
                  · refine sm_is hM_h rfl ?_
                    refine sm_cP (sf_X13_isWord nn e_v13 rfl hM_h) ?_; intro u27 y_u27 e_u27
                    refine sm_ne e_u27 rfl ?_ ?_
                    · exact sj_X13_isCast_154 nn hM_h
                    · refine sm_is hM_h rfl ?_
                      refine sm_cP (sf_X13_isWord nn e_v13 rfl hM_h) ?_; intro u29 y_u29 e_u29
                      refine sm_ne e_u29 rfl ?_ ?_
                      · exact sj_X13_isCast_154 nn hM_h
                      · refine sm_is hM_h rfl ?_
                        refine sm_cP (sf_X13_isWord nn e_v13 rfl hM_h) ?_; intro u31 y_u31 e_u31
                        refine sm_ne e_u31 rfl ?_ ?_
                        · exact sj_X13_isCast_154 nn hM_h
                        · refine sm_is hM_h rfl ?_
                          refine sm_cP (sf_X13_isWord nn e_v13 rfl hM_h) ?_; intro u33 y_u33 e_u33
                          refine sm_eq e_u33 rfl ?_ ?_
                          · exact sm_rP rfl
                          · exact sj_X13_isCast_154 nn hM_h
          · exact sm_rP rfl
      · exact sm_rP rfl
def hg_X13_expression (frc : tg_X13_expression) (rc : tq_X13_expression) : Prop := (∀ {a1 : Int32} {y_a1 : Int} (e_a1 : a1.toInt = y_a1) {h : ms_M} (hM_h : Rg_M h), Sm_ RI_ (frc.1 160 a1 (H_M h)) (rc.1 y_a1 h)) ∧ (∀ {a1 : Int32} {y_a1 : Int} (e_a1 : a1.toInt = y_a1) {a2 : Int32} {y_a2 : Int} (e_a2 : a2.toInt = y_a2) {h : ms_M} (hM_h : Rg_M h), Sm_ RI_ (frc.2.1 160 a1 a2 (H_M h)) (rc.2.1 y_a1 y_a2 h)) ∧ (∀ {a1 : Int32} {y_a1 : Int} (e_a1 : a1.toInt = y_a1) {h : ms_M} (hM_h : Rg_M h), Sm_ RI_ (frc.2.2.1 160 a1 (H_M h)) (rc.2.2.1 y_a1 h)) ∧ (∀ {a1 : Int32} {y_a1 : Int} (e_a1 : a1.toInt = y_a1) {h : ms_M} (hM_h : Rg_M h), Sm_ RI_ (frc.2.2.2.1 160 a1 (H_M h)) (rc.2.2.2.1 y_a1 h)) ∧ (∀ {a1 : Int32} {y_a1 : Int} (e_a1 : a1.toInt = y_a1) {h : ms_M} (hM_h : Rg_M h), Sm_ RI_ (frc.2.2.2.2.1 160 a1 (H_M h)) (rc.2.2.2.2.1 y_a1 h)) ∧ (∀ {a1 : Int32} {y_a1 : Int} (e_a1 : a1.toInt = y_a1) {h : ms_M} (hM_h : Rg_M h), Sm_ RI_ (frc.2.2.2.2.2.1 160 a1 (H_M h)) (rc.2.2.2.2.2.1 y_a1 h)) ∧ (∀ {a1 : Int32} {y_a1 : Int} (e_a1 : a1.toInt = y_a1) {h : ms_M} (hM_h : Rg_M h), Sm_ RI_ (frc.2.2.2.2.2.2 160 a1 (H_M h)) (rc.2.2.2.2.2.2 y_a1 h))
set_option maxRecDepth 4000 in
theorem so_X13_expression (nn : Nat) {frc : tg_X13_expression} {rc : tq_X13_expression} (hr : hg_X13_expression frc rc) {a1 : Int32} {y_a1 : Int} (e_a1 : a1.toInt = y_a1) {h : ms_M} (hM_h : Rg_M h) : Sm_ RI_ (o_X13_expression nn frc 160 a1 (H_M h)) (qo_X13_expression nn rc y_a1 h) := by
  unfold o_X13_expression qo_X13_expression
  refine sm_is hM_h rfl ?_
  refine sm_cI (sf_X13_isDeep nn e_a1 hM_h) ?_; intro u2 y_u2 M_u2 e_u2 hM_u2
  refine sm_eq e_u2 rfl ?_ ?_
  · refine sm_gi hM_u2 rfl ?_; intro v3 e_v3
    refine sm_oq_add e_a1 rfl ?_; intro v4 y_v4 e_v4
    refine sm_is hM_u2 rfl ?_
    refine sm_cI (hr.2.1 rfl e_v4 hM_u2) ?_; intro u6 y_u6 M_u6 e_u6 hM_u6
    refine sm_gi hM_u6 rfl ?_; intro v7 e_v7
    refine sm_ne e_v7 rfl ?_ ?_
    · exact sm_rI e_u6 hM_u6
    · refine sm_gi hM_u6 rfl ?_; intro v8 e_v8
      refine sm_is hM_u6 rfl ?_
      refine sm_cP (sf_X13_isSign nn e_v8 rfl hM_u6) ?_; intro u10 y_u10 e_u10
      refine sm_ne e_u10 rfl ?_ ?_
      · refine sm_gi hM_u6 rfl ?_; intro v11 e_v11
        refine sm_is hM_u6 rfl ?_
        refine sm_cI (sf_X13_add nn rfl e_v11 e_v3 hM_u6) ?_; intro u13 y_u13 M_u13 e_u13 hM_u13
        refine sm_gi hM_u13 rfl ?_; intro v14 e_v14
        refine sm_oq_add e_v14 rfl ?_; intro v15 y_v15 e_v15
        refine sm_pv hM_u13 rfl e_v15 ?_; intro h16 hM_h16
        refine sm_gr hM_h16 (d := 170) rfl ?_
        refine sm_si hM_h16 rfl e_u13 e_u6 ?_; intro h18 hM_h18
        refine sm_gr hM_h18 (d := 171) rfl ?_
        refine sm_oq_add e_a1 rfl ?_; intro v20 y_v20 e_v20
        refine sm_is hM_h18 rfl ?_
        refine sm_cI (hr.1 e_v20 hM_h18) ?_; intro u22 y_u22 M_u22 e_u22 hM_u22
        refine sm_si hM_u22 rfl e_u13 e_u22 ?_; intro h23 hM_h23
        refine sm_is hM_h23 rfl ?_
        refine sm_cV (sf_X13_sign_ nn rfl hM_h23) ?_; intro u25 hM_u25
        refine sm_gr hM_u25 (d := 172) rfl ?_
        refine sm_oq_add e_a1 rfl ?_; intro v27 y_v27 e_v27
        refine sm_is hM_u25 rfl ?_
        refine sm_cI (hr.1 e_v27 hM_u25) ?_; intro u29 y_u29 M_u29 e_u29 hM_u29
        refine sm_si hM_u29 rfl e_u13 e_u29 ?_; intro h30 hM_h30
        exact sm_rI e_u13 hM_h30
      · exact sm_rI e_u6 hM_u6
  · exact sm_rI rfl hM_u2
set_option maxRecDepth 4000 in
theorem sj_X13_sides_157 (nn : Nat) {frc : tg_X13_expression} {rc : tq_X13_expression} (hr : hg_X13_expression frc rc) {kk_37 : Nat → Int32 → Int32 → Int32 → Int32 → Int32 → Int32 → mx_H → Option (Int32 × mx_H)} {qkk_37 : Int → Int → Int → Int → Int → Int → ms_M → Option (Int × ms_M)} (hk_kk_37 : ∀ {l1 : Int32} {y_l1 : Int} (e_l1 : l1.toInt = y_l1) {l2 : Int32} {y_l2 : Int} (e_l2 : l2.toInt = y_l2) {l3 : Int32} {y_l3 : Int} (e_l3 : l3.toInt = y_l3) {l4 : Int32} {y_l4 : Int} (e_l4 : l4.toInt = y_l4) {l5 : Int32} {y_l5 : Int} (e_l5 : l5.toInt = y_l5) {l6 : Int32} {y_l6 : Int} (e_l6 : l6.toInt = y_l6) {h : ms_M} (hM_h : Rg_M h), Sm_ RI_ (kk_37 160 l1 l2 l3 l4 l5 l6 (H_M h)) (qkk_37 y_l1 y_l2 y_l3 y_l4 y_l5 y_l6 h)) {l1 : Int32} {y_l1 : Int} (e_l1 : l1.toInt = y_l1) {l2 : Int32} {y_l2 : Int} (e_l2 : l2.toInt = y_l2) {l3 : Int32} {y_l3 : Int} (e_l3 : l3.toInt = y_l3) {l4 : Int32} {y_l4 : Int} (e_l4 : l4.toInt = y_l4) {l6 : Int32} {y_l6 : Int} (e_l6 : l6.toInt = y_l6) {h : ms_M} (hM_h : Rg_M h) : Sm_ RI_ (j_X13_sides_157 nn frc kk_37 160 l1 l2 l3 l4 l6 (H_M h)) (qj_X13_sides_157 nn rc qkk_37 y_l1 y_l2 y_l3 y_l4 y_l6 h) := by
  unfold j_X13_sides_157 qj_X13_sides_157
  refine sm_gi hM_h rfl ?_; intro v1 e_v1
  refine sm_ne e_v1 rfl ?_ ?_
  · exact hk_kk_37 e_l1 e_l2 e_l3 e_l4 rfl e_l6 hM_h
  · refine sm_gi hM_h rfl ?_; intro v2 e_v2
    refine sm_is hM_h rfl ?_
    refine sm_cP (sf_X13_strength nn e_v2 hM_h) ?_; intro u4 y_u4 e_u4
    exact hk_kk_37 e_l1 e_l2 e_l3 e_l4 e_u4 e_l6 hM_h
set_option maxRecDepth 4000 in
theorem sw_X13_sides_37 (nn : Nat) {frc : tg_X13_expression} {rc : tq_X13_expression} (hr : hg_X13_expression frc rc) : ∀ (k : Nat) {l1 : Int32} {y_l1 : Int} (e_l1 : l1.toInt = y_l1) {l2 : Int32} {y_l2 : Int} (e_l2 : l2.toInt = y_l2) {l3 : Int32} {y_l3 : Int} (e_l3 : l3.toInt = y_l3) {l4 : Int32} {y_l4 : Int} (e_l4 : l4.toInt = y_l4) {l5 : Int32} {y_l5 : Int} (e_l5 : l5.toInt = y_l5) {l6 : Int32} {y_l6 : Int} (e_l6 : l6.toInt = y_l6) {h : ms_M} (hM_h : Rg_M h), Sm_ RI_ (w_X13_sides_37 nn frc k 160 l1 l2 l3 l4 l5 l6 (H_M h)) (qw_X13_sides_37 nn rc k y_l1 y_l2 y_l3 y_l4 y_l5 y_l6 h) := by
  intro k
  induction k with
  | zero => intros; exact sm_no
  | succ k ih =>
    intro l1 y_l1 e_l1 l2 y_l2 e_l2 l3 y_l3 e_l3 l4 y_l4 e_l4 l5 y_l5 e_l5 l6 y_l6 e_l6 h hM_h
    unfold w_X13_sides_37 qw_X13_sides_37
    refine sm_gi hM_h rfl ?_; intro v6 e_v6
    refine sm_ne e_v6 rfl ?_ ?_
    · exact sm_rI e_l4 hM_h
    · refine sm_lt e_l5 e_l1 ?_ ?_
      · exact sm_rI e_l4 hM_h
      · refine sm_lt e_l6 e_l5 ?_ ?_
        · exact sm_rI e_l4 hM_h
        · refine sm_gi hM_h rfl ?_; intro v7 e_v7
          refine sm_gi hM_h rfl ?_; intro v8 e_v8
          refine sm_oq_add e_v8 rfl ?_; intro v9 y_v9 e_v9
          refine sm_pv hM_h rfl e_v9 ?_; intro h10 hM_h10
          refine sm_is hM_h10 rfl ?_
          refine sm_cP (sf_X13_isWord nn e_v7 rfl hM_h10) ?_; intro u12 y_u12 e_u12
          refine sm_eq e_u12 rfl ?_ ?_
          · refine sm_is hM_h10 rfl ?_
            refine sm_cI (sf_X13_add nn rfl e_v7 e_l3 hM_h10) ?_; intro u14 y_u14 M_u14 e_u14 hM_u14
            refine sm_gr hM_u14 (d := 170) rfl ?_
            refine sm_si hM_u14 rfl e_u14 e_l4 ?_; intro h16 hM_h16
            refine sm_gr hM_h16 (d := 171) rfl ?_
            refine sm_oq_add e_l5 rfl ?_; intro v18 y_v18 e_v18
            refine sm_is hM_h16 rfl ?_
            refine sm_cI (hr.2.1 e_v18 e_l2 hM_h16) ?_; intro u20 y_u20 M_u20 e_u20 hM_u20
            refine sm_si hM_u20 rfl e_u14 e_u20 ?_; intro h21 hM_h21
            exact sj_X13_sides_157 nn hr ih e_l1 e_l2 e_l3 e_u14 e_l5 hM_h21
          · refine sm_is hM_h10 rfl ?_
            refine sm_cI (sf_X13_name nn hM_h10) ?_; intro u23 y_u23 M_u23 e_u23 hM_u23
            refine sm_is hM_u23 rfl ?_
            refine sm_cI (sf_X13_add nn rfl e_u23 e_l3 hM_u23) ?_; intro u25 y_u25 M_u25 e_u25 hM_u25
            refine sm_gr hM_u25 (d := 170) rfl ?_
            refine sm_si hM_u25 rfl e_u25 e_l4 ?_; intro h27 hM_h27
            exact sj_X13_sides_157 nn hr ih e_l1 e_l2 e_l3 e_u25 e_l5 hM_h27
set_option maxRecDepth 4000 in
theorem so_X13_sides (nn : Nat) {frc : tg_X13_expression} {rc : tq_X13_expression} (hr : hg_X13_expression frc rc) {a1 : Int32} {y_a1 : Int} (e_a1 : a1.toInt = y_a1) {a2 : Int32} {y_a2 : Int} (e_a2 : a2.toInt = y_a2) {h : ms_M} (hM_h : Rg_M h) : Sm_ RI_ (o_X13_sides nn frc 160 a1 a2 (H_M h)) (qo_X13_sides nn rc y_a1 y_a2 h) := by
  unfold o_X13_sides qo_X13_sides
  refine sm_gi hM_h rfl ?_; intro v32 e_v32
  refine sm_is hM_h rfl ?_
  refine sm_cI (hr.2.2.1 e_a2 hM_h) ?_; intro u34 y_u34 M_u34 e_u34 hM_u34
  refine sm_gi hM_u34 rfl ?_; intro v35 e_v35
  refine sm_ne e_v35 rfl ?_ ?_
  · exact sw_X13_sides_37 nn hr nn e_a1 e_a2 e_v32 e_u34 rfl rfl hM_u34
  · refine sm_gi hM_u34 rfl ?_; intro v36 e_v36
    refine sm_is hM_u34 rfl ?_
    refine sm_cP (sf_X13_strength nn e_v36 hM_u34) ?_; intro u38 y_u38 e_u38
    exact sw_X13_sides_37 nn hr nn e_a1 e_a2 e_v32 e_u34 e_u38 rfl hM_u34
set_option maxRecDepth 4000 in
theorem sj_X13_unary_141 (nn : Nat) {frc : tg_X13_expression} {rc : tq_X13_expression} (hr : hg_X13_expression frc rc) {l1 : Int32} {y_l1 : Int} (e_l1 : l1.toInt = y_l1) {l4 : Int32} {y_l4 : Int} (e_l4 : l4.toInt = y_l4) {s0 : Int32} {y_s0 : Int} (e_s0 : s0.toInt = y_s0) {s1 : Int32} {y_s1 : Int} (e_s1 : s1.toInt = y_s1) {h : ms_M} (hM_h : Rg_M h) : Sm_ RI_ (j_X13_unary_141 nn frc 160 l1 l4 s0 s1 160 (H_M h)) (qj_X13_unary_141 nn rc y_l1 y_l4 y_s0 y_s1 h) := by
  unfold j_X13_unary_141 qj_X13_unary_141
  refine sm_oq_add e_s1 e_s0 ?_; intro v1 y_v1 e_v1
  refine sm_pv hM_h rfl e_v1 ?_; intro h2 hM_h2
  refine sm_gr hM_h2 (d := 170) rfl ?_
  refine sm_oq_add e_l1 rfl ?_; intro v4 y_v4 e_v4
  refine sm_is hM_h2 rfl ?_
  refine sm_cI (hr.2.2.1 e_v4 hM_h2) ?_; intro u6 y_u6 M_u6 e_u6 hM_u6
  refine sm_si hM_u6 rfl e_l4 e_u6 ?_; intro h7 hM_h7
  exact sm_rI e_l4 hM_h7
set_option maxRecDepth 4000 in
theorem sj_X13_unary_118 (nn : Nat) {frc : tg_X13_expression} {rc : tq_X13_expression} (hr : hg_X13_expression frc rc) {l1 : Int32} {y_l1 : Int} (e_l1 : l1.toInt = y_l1) {l2 : Int32} {y_l2 : Int} (e_l2 : l2.toInt = y_l2) {s0 : Int32} {y_s0 : Int} (e_s0 : s0.toInt = y_s0) {s1 : Int32} {y_s1 : Int} (e_s1 : s1.toInt = y_s1) {h : ms_M} (hM_h : Rg_M h) : Sm_ RI_ (j_X13_unary_118 nn frc 160 l1 l2 s0 s1 160 (H_M h)) (qj_X13_unary_118 nn rc y_l1 y_l2 y_s0 y_s1 h) := by
  unfold j_X13_unary_118 qj_X13_unary_118
  refine sm_gi hM_h rfl ?_; intro v8 e_v8
  refine sm_is hM_h rfl ?_
  refine sm_cI (sf_X13_add nn e_s1 e_s0 e_v8 hM_h) ?_; intro u10 y_u10 M_u10 e_u10 hM_u10
  refine sm_gi hM_u10 rfl ?_; intro v11 e_v11
  refine sm_eq e_l2 rfl ?_ ?_
  · exact sj_X13_unary_141 nn hr e_l1 e_u10 rfl e_v11 hM_u10
  · exact sj_X13_unary_141 nn hr e_l1 e_u10 rfl e_v11 hM_u10
set_option maxRecDepth 4000 in
theorem sj_X13_unary_78 (nn : Nat) {frc : tg_X13_expression} {rc : tq_X13_expression} (hr : hg_X13_expression frc rc) {l1 : Int32} {y_l1 : Int} (e_l1 : l1.toInt = y_l1) {l2 : Int32} {y_l2 : Int} (e_l2 : l2.toInt = y_l2) {s0 : Int32} {y_s0 : Int} (e_s0 : s0.toInt = y_s0) {h : ms_M} (hM_h : Rg_M h) : Sm_ RI_ (j_X13_unary_78 nn frc 160 l1 l2 s0 (H_M h)) (qj_X13_unary_78 nn rc y_l1 y_l2 y_s0 h) := by
  unfold j_X13_unary_78 qj_X13_unary_78
  refine sm_ne e_s0 rfl ?_ ?_
  · refine sm_is hM_h rfl ?_
    refine sm_cI (sf_X13_isDeep nn e_l1 hM_h) ?_; intro u14 y_u14 M_u14 e_u14 hM_u14
    refine sm_eq e_u14 rfl ?_ ?_
    · refine sm_eq e_l2 rfl ?_ ?_
      · refine sm_gi hM_u14 rfl ?_; intro v15 e_v15
        exact sj_X13_unary_118 nn hr e_l1 e_l2 e_v15 e_s0 hM_u14
      · refine sm_gi hM_u14 rfl ?_; intro v16 e_v16
        refine sm_oq_add e_v16 rfl ?_; intro v17 y_v17 e_v17
        exact sj_X13_unary_118 nn hr e_l1 e_l2 e_v17 e_s0 hM_u14
    · exact sm_rI rfl hM_u14
  · refine sm_is hM_h rfl ?_
    refine sm_cI (hr.2.2.2.2.1 e_l1 hM_h) ?_; intro u21 y_u21 M_u21 e_u21 hM_u21
    exact sm_rI e_u21 hM_u21
set_option maxRecDepth 4000 in
theorem so_X13_unary (nn : Nat) {frc : tg_X13_expression} {rc : tq_X13_expression} (hr : hg_X13_expression frc rc) {a1 : Int32} {y_a1 : Int} (e_a1 : a1.toInt = y_a1) {h : ms_M} (hM_h : Rg_M h) : Sm_ RI_ (o_X13_unary nn frc 160 a1 (H_M h)) (qo_X13_unary nn rc y_a1 h) := by
  unfold o_X13_unary qo_X13_unary
  refine sm_gi hM_h rfl ?_; intro v23 e_v23
  refine sm_eq e_v23 rfl ?_ ?_
  · refine sm_is hM_h rfl ?_
    refine sm_cP (sf_X13_isCast nn hM_h) ?_; intro u25 y_u25 e_u25
    refine sm_gi hM_h rfl ?_; intro v26 e_v26
    refine sm_is hM_h rfl ?_
    refine sm_cP (sf_X13_isSign nn e_v26 rfl hM_h) ?_; intro u28 y_u28 e_u28
    refine sm_eq e_u28 rfl ?_ ?_
    · refine sm_gi hM_h rfl ?_; intro v29 e_v29
      refine sm_is hM_h rfl ?_
      refine sm_cP (sf_X13_isSign nn e_v29 rfl hM_h) ?_; intro u31 y_u31 e_u31
      refine sm_eq e_u31 rfl ?_ ?_
      · refine sm_gi hM_h rfl ?_; intro v32 e_v32
        refine sm_is hM_h rfl ?_
        refine sm_cP (sf_X13_isSign nn e_v32 rfl hM_h) ?_; intro u34 y_u34 e_u34
        refine sm_eq e_u34 rfl ?_ ?_
        · refine sm_eq e_u25 rfl ?_ ?_
          · exact sj_X13_unary_78 nn hr e_a1 e_u25 rfl hM_h
          · exact sj_X13_unary_78 nn hr e_a1 e_u25 rfl hM_h
        · exact sj_X13_unary_78 nn hr e_a1 e_u25 rfl hM_h
      · exact sj_X13_unary_78 nn hr e_a1 e_u25 rfl hM_h
    · exact sj_X13_unary_78 nn hr e_a1 e_u25 rfl hM_h
  · exact sm_rI rfl hM_h
set_option maxRecDepth 4000 in
theorem sj_X13_arguments_113 (nn : Nat) {frc : tg_X13_expression} {rc : tq_X13_expression} (hr : hg_X13_expression frc rc) {l2 : Int32} {y_l2 : Int} (e_l2 : l2.toInt = y_l2) {h : ms_M} (hM_h : Rg_M h) : Sm_ RI_ (j_X13_arguments_113 nn frc 160 l2 (H_M h)) (qj_X13_arguments_113 nn rc y_l2 h) := by
  unfold j_X13_arguments_113 qj_X13_arguments_113
  refine sm_is hM_h rfl ?_
  refine sm_cV (sf_X13_sign_ nn rfl hM_h) ?_; intro u2 hM_u2
  exact sm_rI e_l2 hM_u2
set_option maxRecDepth 4000 in
theorem sj_X13_arguments_41 (nn : Nat) {frc : tg_X13_expression} {rc : tq_X13_expression} (hr : hg_X13_expression frc rc) {kk_10 : Nat → Int32 → Int32 → Int32 → mx_H → Option (Int32 × mx_H)} {qkk_10 : Int → Int → Int → ms_M → Option (Int × ms_M)} (hk_kk_10 : ∀ {l1 : Int32} {y_l1 : Int} (e_l1 : l1.toInt = y_l1) {l2 : Int32} {y_l2 : Int} (e_l2 : l2.toInt = y_l2) {l3 : Int32} {y_l3 : Int} (e_l3 : l3.toInt = y_l3) {h : ms_M} (hM_h : Rg_M h), Sm_ RI_ (kk_10 160 l1 l2 l3 (H_M h)) (qkk_10 y_l1 y_l2 y_l3 h)) {l1 : Int32} {y_l1 : Int} (e_l1 : l1.toInt = y_l1) {l2 : Int32} {y_l2 : Int} (e_l2 : l2.toInt = y_l2) {l3 : Int32} {y_l3 : Int} (e_l3 : l3.toInt = y_l3) {h : ms_M} (hM_h : Rg_M h) : Sm_ RI_ (j_X13_arguments_41 nn frc kk_10 160 l1 l2 l3 (H_M h)) (qj_X13_arguments_41 nn rc qkk_10 y_l1 y_l2 y_l3 h) := by
  unfold j_X13_arguments_41 qj_X13_arguments_41
  refine sm_is hM_h rfl ?_
  refine sm_cI (hr.1 e_l1 hM_h) ?_; intro u4 y_u4 M_u4 e_u4 hM_u4
  refine sm_gi hM_u4 rfl ?_; intro v5 e_v5
  refine sm_eq e_v5 rfl ?_ ?_
  · refine sm_gr hM_u4 (d := 169) rfl ?_
    refine sm_ai hM_u4 rfl e_u4 ?_; intro v7 y_v7 e_v7
    refine sm_gr hM_u4 (d := 169) rfl ?_
    refine sm_ai hM_u4 rfl e_u4 ?_; intro v9 y_v9 e_v9
    refine sm_is hM_u4 rfl ?_
    refine sm_cI (sf_X13_add nn rfl e_v7 e_v9 hM_u4) ?_; intro u11 y_u11 M_u11 e_u11 hM_u11
    refine sm_gr hM_u11 (d := 170) rfl ?_
    refine sm_si hM_u11 rfl e_u11 e_u4 ?_; intro h13 hM_h13
    refine sm_ne e_l2 rfl ?_ ?_
    · refine sm_gr hM_h13 (d := 173) rfl ?_
      refine sm_si hM_h13 rfl e_l3 e_u11 ?_; intro h15 hM_h15
      exact hk_kk_10 e_l1 e_l2 e_u11 hM_h15
    · exact hk_kk_10 e_l1 e_u11 e_u11 hM_h13
  · exact sm_rI rfl hM_u4
set_option maxRecDepth 4000 in
theorem sw_X13_arguments_10 (nn : Nat) {frc : tg_X13_expression} {rc : tq_X13_expression} (hr : hg_X13_expression frc rc) : ∀ (k : Nat) {l1 : Int32} {y_l1 : Int} (e_l1 : l1.toInt = y_l1) {l2 : Int32} {y_l2 : Int} (e_l2 : l2.toInt = y_l2) {l3 : Int32} {y_l3 : Int} (e_l3 : l3.toInt = y_l3) {h : ms_M} (hM_h : Rg_M h), Sm_ RI_ (w_X13_arguments_10 nn frc k 160 l1 l2 l3 (H_M h)) (qw_X13_arguments_10 nn rc k y_l1 y_l2 y_l3 h) := by
  intro k
  induction k with
  | zero => intros; exact sm_no
  | succ k ih =>
    intro l1 y_l1 e_l1 l2 y_l2 e_l2 l3 y_l3 e_l3 h hM_h
    unfold w_X13_arguments_10 qw_X13_arguments_10
    refine sm_gi hM_h rfl ?_; intro v18 e_v18
    refine sm_ne e_v18 rfl ?_ ?_
    · exact sj_X13_arguments_113 nn hr e_l2 hM_h
    · refine sm_gi hM_h rfl ?_; intro v19 e_v19
      refine sm_is hM_h rfl ?_
      refine sm_cP (sf_X13_isSign nn e_v19 rfl hM_h) ?_; intro u21 y_u21 e_u21
      refine sm_ne e_u21 rfl ?_ ?_
      · exact sj_X13_arguments_113 nn hr e_l2 hM_h
      · refine sm_eq e_l2 rfl ?_ ?_
        · exact sj_X13_arguments_41 nn hr ih e_l1 e_l2 e_l3 hM_h
        · refine sm_is hM_h rfl ?_
          refine sm_cV (sf_X13_sign_ nn rfl hM_h) ?_; intro u23 hM_u23
          exact sj_X13_arguments_41 nn hr ih e_l1 e_l2 e_l3 hM_u23
set_option maxRecDepth 4000 in
theorem so_X13_arguments (nn : Nat) {frc : tg_X13_expression} {rc : tq_X13_expression} (hr : hg_X13_expression frc rc) {a1 : Int32} {y_a1 : Int} (e_a1 : a1.toInt = y_a1) {h : ms_M} (hM_h : Rg_M h) : Sm_ RI_ (o_X13_arguments nn frc 160 a1 (H_M h)) (qo_X13_arguments nn rc y_a1 h) := by
  unfold o_X13_arguments qo_X13_arguments
  refine sm_is hM_h rfl ?_
  refine sm_cV (sf_X13_sign_ nn rfl hM_h) ?_; intro u28 hM_u28
  exact sw_X13_arguments_10 nn hr nn e_a1 rfl rfl hM_u28
set_option maxRecDepth 4000 in
theorem sj_X13_postfix_194 (nn : Nat) {frc : tg_X13_expression} {rc : tq_X13_expression} (hr : hg_X13_expression frc rc) {kk_11 : Nat → Int32 → Int32 → Int32 → mx_H → Option (Int32 × mx_H)} {qkk_11 : Int → Int → Int → ms_M → Option (Int × ms_M)} (hk_kk_11 : ∀ {l1 : Int32} {y_l1 : Int} (e_l1 : l1.toInt = y_l1) {l2 : Int32} {y_l2 : Int} (e_l2 : l2.toInt = y_l2) {l3 : Int32} {y_l3 : Int} (e_l3 : l3.toInt = y_l3) {h : ms_M} (hM_h : Rg_M h), Sm_ RI_ (kk_11 160 l1 l2 l3 (H_M h)) (qkk_11 y_l1 y_l2 y_l3 h)) {l1 : Int32} {y_l1 : Int} (e_l1 : l1.toInt = y_l1) {l2 : Int32} {y_l2 : Int} (e_l2 : l2.toInt = y_l2) {l4 : Int32} {y_l4 : Int} (e_l4 : l4.toInt = y_l4) {h : ms_M} (hM_h : Rg_M h) : Sm_ RI_ (j_X13_postfix_194 nn frc kk_11 160 l1 l2 l4 (H_M h)) (qj_X13_postfix_194 nn rc qkk_11 y_l1 y_l2 y_l4 h) := by
  unfold j_X13_postfix_194 qj_X13_postfix_194
  refine sm_is hM_h rfl ?_
  refine sm_cV (sf_X13_sign_ nn rfl hM_h) ?_; intro u2 hM_u2
  exact hk_kk_11 e_l1 e_l2 e_l4 hM_u2
set_option maxRecDepth 4000 in
theorem sj_X13_postfix_44 (nn : Nat) {frc : tg_X13_expression} {rc : tq_X13_expression} (hr : hg_X13_expression frc rc) {kk_11 : Nat → Int32 → Int32 → Int32 → mx_H → Option (Int32 × mx_H)} {qkk_11 : Int → Int → Int → ms_M → Option (Int × ms_M)} (hk_kk_11 : ∀ {l1 : Int32} {y_l1 : Int} (e_l1 : l1.toInt = y_l1) {l2 : Int32} {y_l2 : Int} (e_l2 : l2.toInt = y_l2) {l3 : Int32} {y_l3 : Int} (e_l3 : l3.toInt = y_l3) {h : ms_M} (hM_h : Rg_M h), Sm_ RI_ (kk_11 160 l1 l2 l3 (H_M h)) (qkk_11 y_l1 y_l2 y_l3 h)) {l1 : Int32} {y_l1 : Int} (e_l1 : l1.toInt = y_l1) {l2 : Int32} {y_l2 : Int} (e_l2 : l2.toInt = y_l2) {l3 : Int32} {y_l3 : Int} (e_l3 : l3.toInt = y_l3) {h : ms_M} (hM_h : Rg_M h) : Sm_ RI_ (j_X13_postfix_44 nn frc kk_11 160 l1 l2 l3 (H_M h)) (qj_X13_postfix_44 nn rc qkk_11 y_l1 y_l2 y_l3 h) := by
  unfold j_X13_postfix_44 qj_X13_postfix_44
  refine sm_gi hM_h rfl ?_; intro v3 e_v3
  refine sm_is hM_h rfl ?_
  refine sm_cP (sf_X13_isSign nn e_v3 rfl hM_h) ?_; intro u5 y_u5 e_u5
  refine sm_eq e_u5 rfl ?_ ?_
  · refine sm_gi hM_h rfl ?_; intro v6 e_v6
    refine sm_is hM_h rfl ?_
    refine sm_cI (sf_X13_add nn rfl e_v6 e_l2 hM_h) ?_; intro u8 y_u8 M_u8 e_u8 hM_u8
    refine sm_gi hM_u8 rfl ?_; intro v9 e_v9
    refine sm_oq_add e_v9 rfl ?_; intro v10 y_v10 e_v10
    refine sm_pv hM_u8 rfl e_v10 ?_; intro h11 hM_h11
    refine sm_gr hM_h11 (d := 170) rfl ?_
    refine sm_si hM_h11 rfl e_u8 e_l3 ?_; intro h13 hM_h13
    refine sm_gr hM_h13 (d := 171) rfl ?_
    refine sm_is hM_h13 rfl ?_
    refine sm_cI (hr.1 e_l1 hM_h13) ?_; intro u16 y_u16 M_u16 e_u16 hM_u16
    refine sm_si hM_u16 rfl e_u8 e_u16 ?_; intro h17 hM_h17
    exact sj_X13_postfix_194 nn hr hk_kk_11 e_l1 e_l2 e_u8 hM_h17
  · refine sm_is hM_h rfl ?_
    refine sm_cI (sf_X13_add nn rfl rfl e_l2 hM_h) ?_; intro u19 y_u19 M_u19 e_u19 hM_u19
    refine sm_gr hM_u19 (d := 172) rfl ?_
    refine sm_gi hM_u19 rfl ?_; intro v21 e_v21
    refine sm_si hM_u19 rfl e_u19 e_v21 ?_; intro h22 hM_h22
    refine sm_gi hM_h22 rfl ?_; intro v23 e_v23
    refine sm_oq_add e_v23 rfl ?_; intro v24 y_v24 e_v24
    refine sm_pv hM_h22 rfl e_v24 ?_; intro h25 hM_h25
    refine sm_gr hM_h25 (d := 168) rfl ?_
    refine sm_is hM_h25 rfl ?_
    refine sm_cI (sf_X13_name nn hM_h25) ?_; intro u28 y_u28 M_u28 e_u28 hM_u28
    refine sm_si hM_u28 rfl e_u19 e_u28 ?_; intro h29 hM_h29
    refine sm_gr hM_h29 (d := 170) rfl ?_
    refine sm_si hM_h29 rfl e_u19 e_l3 ?_; intro h31 hM_h31
    refine sm_gi hM_h31 rfl ?_; intro v32 e_v32
    refine sm_ne e_v32 rfl ?_ ?_
    · exact hk_kk_11 e_l1 e_l2 e_u19 hM_h31
    · refine sm_gi hM_h31 rfl ?_; intro v33 e_v33
      refine sm_is hM_h31 rfl ?_
      refine sm_cP (sf_X13_isSign nn e_v33 rfl hM_h31) ?_; intro u35 y_u35 e_u35
      refine sm_eq e_u35 rfl ?_ ?_
      · exact hk_kk_11 e_l1 e_l2 e_u19 hM_h31
      · refine sm_gr hM_h31 (d := 167) rfl ?_
        refine sm_si hM_h31 rfl e_u19 rfl ?_; intro h37 hM_h37
        refine sm_gr hM_h37 (d := 171) rfl ?_
        refine sm_is hM_h37 rfl ?_
        refine sm_cI (hr.2.2.2.1 e_l1 hM_h37) ?_; intro u40 y_u40 M_u40 e_u40 hM_u40
        refine sm_si hM_u40 rfl e_u19 e_u40 ?_; intro h41 hM_h41
        exact hk_kk_11 e_l1 e_l2 e_u19 hM_h41
set_option maxRecDepth 4000 in
theorem sw_X13_postfix_11 (nn : Nat) {frc : tg_X13_expression} {rc : tq_X13_expression} (hr : hg_X13_expression frc rc) : ∀ (k : Nat) {l1 : Int32} {y_l1 : Int} (e_l1 : l1.toInt = y_l1) {l2 : Int32} {y_l2 : Int} (e_l2 : l2.toInt = y_l2) {l3 : Int32} {y_l3 : Int} (e_l3 : l3.toInt = y_l3) {h : ms_M} (hM_h : Rg_M h), Sm_ RI_ (w_X13_postfix_11 nn frc k 160 l1 l2 l3 (H_M h)) (qw_X13_postfix_11 nn rc k y_l1 y_l2 y_l3 h) := by
  intro k
  induction k with
  | zero => intros; exact sm_no
  | succ k ih =>
    intro l1 y_l1 e_l1 l2 y_l2 e_l2 l3 y_l3 e_l3 h hM_h
    unfold w_X13_postfix_11 qw_X13_postfix_11
    refine sm_gi hM_h rfl ?_; intro v45 e_v45
    refine sm_ne e_v45 rfl ?_ ?_
    · exact sm_rI e_l3 hM_h
    · refine sm_gi hM_h rfl ?_; intro v46 e_v46
      refine sm_is hM_h rfl ?_
      refine sm_cP (sf_X13_isSign nn e_v46 rfl hM_h) ?_; intro u48 y_u48 e_u48
      refine sm_ne e_u48 rfl ?_ ?_
      · exact sj_X13_postfix_44 nn hr ih e_l1 e_l2 e_l3 hM_h
      · refine sm_gi hM_h rfl ?_; intro v49 e_v49
        refine sm_is hM_h rfl ?_
        refine sm_cP (sf_X13_isSign nn e_v49 rfl hM_h) ?_; intro u51 y_u51 e_u51
        refine sm_eq e_u51 rfl ?_ ?_
        · exact sm_rI e_l3 hM_h
        · exact sj_X13_postfix_44 nn hr ih e_l1 e_l2 e_l3 hM_h
set_option maxRecDepth 4000 in
theorem so_X13_postfix (nn : Nat) {frc : tg_X13_expression} {rc : tq_X13_expression} (hr : hg_X13_expression frc rc) {a1 : Int32} {y_a1 : Int} (e_a1 : a1.toInt = y_a1) {h : ms_M} (hM_h : Rg_M h) : Sm_ RI_ (o_X13_postfix nn frc 160 a1 (H_M h)) (qo_X13_postfix nn rc y_a1 h) := by
  unfold o_X13_postfix qo_X13_postfix
  refine sm_gi hM_h rfl ?_; intro v55 e_v55
  refine sm_is hM_h rfl ?_
  refine sm_cI (hr.2.2.2.2.2.1 e_a1 hM_h) ?_; intro u57 y_u57 M_u57 e_u57 hM_u57
  exact sw_X13_postfix_11 nn hr nn e_a1 e_v55 e_u57 hM_u57
set_option maxRecDepth 4000 in
theorem sj_X13_primary_283 (nn : Nat) {frc : tg_X13_expression} {rc : tq_X13_expression} (hr : hg_X13_expression frc rc) {h : ms_M} (hM_h : Rg_M h) : Sm_ RI_ (j_X13_primary_283 nn frc 160 (H_M h)) (qj_X13_primary_283 nn rc h) := by
  unfold j_X13_primary_283 qj_X13_primary_283
  refine sm_is hM_h rfl ?_
  refine sm_cV (sf_X13_misplaced nn hM_h) ?_; intro u2 hM_u2
  exact sm_rI rfl hM_u2
set_option maxRecDepth 4000 in
theorem sj_X13_primary_264 (nn : Nat) {frc : tg_X13_expression} {rc : tq_X13_expression} (hr : hg_X13_expression frc rc) {l2 : Int32} {y_l2 : Int} (e_l2 : l2.toInt = y_l2) {s0 : Int32} {y_s0 : Int} (e_s0 : s0.toInt = y_s0) {h : ms_M} (hM_h : Rg_M h) : Sm_ RI_ (j_X13_primary_264 nn frc l2 s0 160 (H_M h)) (qj_X13_primary_264 nn rc y_l2 y_s0 h) := by
  unfold j_X13_primary_264 qj_X13_primary_264
  refine sm_is hM_h rfl ?_
  refine sm_cI (sf_X13_add nn e_s0 e_l2 e_l2 hM_h) ?_; intro u4 y_u4 M_u4 e_u4 hM_u4
  exact sm_rI e_u4 hM_u4
set_option maxRecDepth 4000 in
theorem sj_X13_primary_215 (nn : Nat) {frc : tg_X13_expression} {rc : tq_X13_expression} (hr : hg_X13_expression frc rc) {l2 : Int32} {y_l2 : Int} (e_l2 : l2.toInt = y_l2) {l4 : Int32} {y_l4 : Int} (e_l4 : l4.toInt = y_l4) {h : ms_M} (hM_h : Rg_M h) : Sm_ RI_ (j_X13_primary_215 nn frc 160 l2 l4 (H_M h)) (qj_X13_primary_215 nn rc y_l2 y_l4 h) := by
  unfold j_X13_primary_215 qj_X13_primary_215
  refine sm_gi hM_h rfl ?_; intro v5 e_v5
  refine sm_oq_add e_v5 rfl ?_; intro v6 y_v6 e_v6
  refine sm_pv hM_h rfl e_v6 ?_; intro h7 hM_h7
  refine sm_ne e_l4 rfl ?_ ?_
  · refine sm_ne e_l4 rfl ?_ ?_
    · refine sm_ne e_l4 rfl ?_ ?_
      · exact sj_X13_primary_264 nn hr e_l2 rfl hM_h7
      · exact sj_X13_primary_264 nn hr e_l2 rfl hM_h7
    · exact sj_X13_primary_264 nn hr e_l2 rfl hM_h7
  · exact sj_X13_primary_264 nn hr e_l2 rfl hM_h7
