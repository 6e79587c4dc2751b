set_option maxRecDepth 4000 in
theorem sj_X13_both_247 (nn : Nat) {frc : tg_X13_condition} {rc : tq_X13_condition} (hr : hg_X13_condition frc rc) {l1 : Int32} {y_l1 : Int} (e_l1 : l1.toInt = y_l1) {l3 : Int32} {y_l3 : Int} (e_l3 : l3.toInt = y_l3) {h : ms_M} (hM_h : Rg_M h) : Sm_ RI_ (j_X13_both_247 nn frc 160 l1 l3 (H_M h)) (qj_X13_both_247 nn rc y_l1 y_l3 h) := by
  unfold j_X13_both_247 qj_X13_both_247
  refine sm_gr hM_h (d := 168) rfl ?_
  refine sm_ai hM_h rfl e_l1 ?_; intro v2 y_v2 e_v2
  refine sm_is hM_h rfl ?_
  refine sm_cP (sf_X13_strength nn e_v2 hM_h) ?_; intro u4 y_u4 e_u4
  refine sm_ne e_u4 rfl ?_ ?_
  · exact sm_rI e_l3 hM_h
  · exact sm_rI rfl hM_h
set_option maxRecDepth 4000 in
theorem sj_X13_both_235 (nn : Nat) {frc : tg_X13_condition} {rc : tq_X13_condition} (hr : hg_X13_condition frc rc) {l1 : Int32} {y_l1 : Int} (e_l1 : l1.toInt = y_l1) {l3 : Int32} {y_l3 : Int} (e_l3 : l3.toInt = y_l3) {h : ms_M} (hM_h : Rg_M h) : Sm_ RI_ (j_X13_both_235 nn frc 160 l1 l3 (H_M h)) (qj_X13_both_235 nn rc y_l1 y_l3 h) := by
  unfold j_X13_both_235 qj_X13_both_235
  refine sm_gr hM_h (d := 168) rfl ?_
  refine sm_ai hM_h rfl e_l1 ?_; intro v7 y_v7 e_v7
  refine sm_is hM_h rfl ?_
  refine sm_cV (sf_X13_wrong nn rfl e_v7 hM_h) ?_; intro u9 hM_u9
  exact sj_X13_both_247 nn hr e_l1 e_l3 hM_u9
set_option maxRecDepth 4000 in
theorem sj_X13_both_213 (nn : Nat) {frc : tg_X13_condition} {rc : tq_X13_condition} (hr : hg_X13_condition frc rc) {l1 : Int32} {y_l1 : Int} (e_l1 : l1.toInt = y_l1) {l3 : Int32} {y_l3 : Int} (e_l3 : l3.toInt = y_l3) {l4 : Int32} {y_l4 : Int} (e_l4 : l4.toInt = y_l4) {s0 : Int32} {y_s0 : Int} (e_s0 : s0.toInt = y_s0) {h : ms_M} (hM_h : Rg_M h) : Sm_ RI_ (j_X13_both_213 nn frc 160 l1 l3 l4 s0 (H_M h)) (qj_X13_both_213 nn rc y_l1 y_l3 y_l4 y_s0 h) := by
  unfold j_X13_both_213 qj_X13_both_213
  refine sm_ne e_l3 e_l4 ?_ ?_
  · exact sj_X13_both_235 nn hr e_l1 e_l3 hM_h
  · refine sm_eq e_l3 rfl ?_ ?_
    · exact sj_X13_both_247 nn hr e_l1 e_l3 hM_h
    · refine sm_eq e_s0 rfl ?_ ?_
      · exact sj_X13_both_235 nn hr e_l1 e_l3 hM_h
      · refine sm_eq e_l3 rfl ?_ ?_
        · exact sj_X13_both_247 nn hr e_l1 e_l3 hM_h
        · exact sj_X13_both_235 nn hr e_l1 e_l3 hM_h
set_option maxRecDepth 4000 in
theorem sj_X13_both_208 (nn : Nat) {frc : tg_X13_condition} {rc : tq_X13_condition} (hr : hg_X13_condition frc rc) {l1 : Int32} {y_l1 : Int} (e_l1 : l1.toInt = y_l1) {l3 : Int32} {y_l3 : Int} (e_l3 : l3.toInt = y_l3) {l4 : Int32} {y_l4 : Int} (e_l4 : l4.toInt = y_l4) {h : ms_M} (hM_h : Rg_M h) : Sm_ RI_ (j_X13_both_208 nn frc 160 l1 l3 l4 (H_M h)) (qj_X13_both_208 nn rc y_l1 y_l3 y_l4 h) := by
  unfold j_X13_both_208 qj_X13_both_208
  exact sj_X13_both_213 nn hr e_l1 e_l3 e_l4 rfl hM_h
set_option maxRecDepth 4000 in
theorem sj_X13_both_166 (nn : Nat) {frc : tg_X13_condition} {rc : tq_X13_condition} (hr : hg_X13_condition frc rc) {l1 : Int32} {y_l1 : Int} (e_l1 : l1.toInt = y_l1) {l3 : Int32} {y_l3 : Int} (e_l3 : l3.toInt = y_l3) {l4 : Int32} {y_l4 : Int} (e_l4 : l4.toInt = y_l4) {h : ms_M} (hM_h : Rg_M h) : Sm_ RI_ (j_X13_both_166 nn frc 160 l1 l3 l4 (H_M h)) (qj_X13_both_166 nn rc y_l1 y_l3 y_l4 h) := by
  unfold j_X13_both_166 qj_X13_both_166
  refine sm_is hM_h rfl ?_
  refine sm_cP (sf_X13_goTogether nn e_l3 e_l4 hM_h) ?_; intro u15 y_u15 e_u15
  refine sm_ne e_u15 rfl ?_ ?_
  · exact sm_rI rfl hM_h
  · refine sm_gr hM_h (d := 168) rfl ?_
    refine sm_ai hM_h rfl e_l1 ?_; intro v17 y_v17 e_v17
    refine sm_is hM_h rfl ?_
    refine sm_cV (sf_X13_wrong nn rfl e_v17 hM_h) ?_; intro u19 hM_u19
    exact sm_rI rfl hM_u19
set_option maxRecDepth 4000 in
theorem sj_X13_both_62 (nn : Nat) {frc : tg_X13_condition} {rc : tq_X13_condition} (hr : hg_X13_condition frc rc) {l1 : Int32} {y_l1 : Int} (e_l1 : l1.toInt = y_l1) {h : ms_M} (hM_h : Rg_M h) : Sm_ RI_ (j_X13_both_62 nn frc 160 l1 (H_M h)) (qj_X13_both_62 nn rc y_l1 h) := by
  unfold j_X13_both_62 qj_X13_both_62
  refine sm_gr hM_h (d := 171) rfl ?_
  refine sm_ai hM_h rfl e_l1 ?_; intro v22 y_v22 e_v22
  refine sm_gr hM_h (d := 171) rfl ?_
  refine sm_ai hM_h rfl e_l1 ?_; intro v24 y_v24 e_v24
  refine sm_is hM_h rfl ?_
  refine sm_cI (hr.2.2.1 e_v24 hM_h) ?_; intro u26 y_u26 M_u26 e_u26 hM_u26
  refine sm_is hM_u26 rfl ?_
  refine sm_cI (sf_X13_side nn e_v22 e_u26 hM_u26) ?_; intro u28 y_u28 M_u28 e_u28 hM_u28
  refine sm_eq e_u28 rfl ?_ ?_
  · exact sm_rI rfl hM_u28
  · refine sm_gr hM_u28 (d := 169) rfl ?_
    refine sm_gr hM_u28 (d := 171) rfl ?_
    refine sm_ai hM_u28 rfl e_l1 ?_; intro v31 y_v31 e_v31
    refine sm_ai hM_u28 rfl e_v31 ?_; intro v32 y_v32 e_v32
    refine sm_is hM_u28 rfl ?_
    refine sm_cV (sf_X13_wrong nn rfl e_v32 hM_u28) ?_; intro u34 hM_u34
    exact sm_rI rfl hM_u34
set_option maxRecDepth 4000 in
theorem sj_X13_both_36 (nn : Nat) {frc : tg_X13_condition} {rc : tq_X13_condition} (hr : hg_X13_condition frc rc) {l1 : Int32} {y_l1 : Int} (e_l1 : l1.toInt = y_l1) {h : ms_M} (hM_h : Rg_M h) : Sm_ RI_ (j_X13_both_36 nn frc 160 l1 (H_M h)) (qj_X13_both_36 nn rc y_l1 h) := by
  unfold j_X13_both_36 qj_X13_both_36
  refine sm_is hM_h rfl ?_
  refine sm_cI (sf_X13_led nn e_l1 hM_h) ?_; intro u37 y_u37 M_u37 e_u37 hM_u37
  refine sm_eq e_u37 rfl ?_ ?_
  · exact sj_X13_both_62 nn hr e_l1 hM_u37
  · refine sm_gr hM_u37 (d := 169) rfl ?_
    refine sm_gr hM_u37 (d := 170) rfl ?_
    refine sm_ai hM_u37 rfl e_l1 ?_; intro v40 y_v40 e_v40
    refine sm_ai hM_u37 rfl e_v40 ?_; intro v41 y_v41 e_v41
    refine sm_is hM_u37 rfl ?_
    refine sm_cV (sf_X13_wrong nn rfl e_v41 hM_u37) ?_; intro u43 hM_u43
    exact sj_X13_both_62 nn hr e_l1 hM_u43
set_option maxRecDepth 4000 in
theorem so_X13_both (nn : Nat) {frc : tg_X13_condition} {rc : tq_X13_condition} (hr : hg_X13_condition frc rc) {a1 : Int32} {y_a1 : Int} (e_a1 : a1.toInt = y_a1) {h : ms_M} (hM_h : Rg_M h) : Sm_ RI_ (o_X13_both nn frc 160 a1 (H_M h)) (qo_X13_both nn rc y_a1 h) := by
  unfold o_X13_both qo_X13_both
  refine sm_gr hM_h (d := 166) rfl ?_
  refine sm_gr hM_h (d := 168) rfl ?_
  refine sm_ai hM_h rfl e_a1 ?_; intro v47 y_v47 e_v47
  refine sm_ai hM_h rfl e_v47 ?_; intro v48 y_v48 e_v48
  refine sm_cP (sf_X13_sign nn rfl rfl rfl hM_h) ?_; intro u49 y_u49 e_u49
  refine sm_eq e_v48 e_u49 ?_ ?_
  · exact sj_X13_both_36 nn hr e_a1 hM_h
  · refine sm_cP (sf_X13_sign nn rfl rfl rfl hM_h) ?_; intro u50 y_u50 e_u50
    refine sm_ne e_v48 e_u50 ?_ ?_
    · refine sm_is hM_h rfl ?_
      refine sm_cI (sf_X13_led nn e_a1 hM_h) ?_; intro u52 y_u52 M_u52 e_u52 hM_u52
      refine sm_gr hM_u52 (d := 171) rfl ?_
      refine sm_ai hM_u52 rfl e_a1 ?_; intro v54 y_v54 e_v54
      refine sm_gr hM_u52 (d := 171) rfl ?_
      refine sm_ai hM_u52 rfl e_a1 ?_; intro v56 y_v56 e_v56
      refine sm_is hM_u52 rfl ?_
      refine sm_cI (hr.2.2.1 e_v56 hM_u52) ?_; intro u58 y_u58 M_u58 e_u58 hM_u58
      refine sm_is hM_u58 rfl ?_
      refine sm_cI (sf_X13_side nn e_v54 e_u58 hM_u58) ?_; intro u60 y_u60 M_u60 e_u60 hM_u60
      refine sm_gi hM_u60 rfl ?_; intro v61 e_v61
      refine sm_eq e_v61 rfl ?_ ?_
      · refine sm_cP (sf_X13_sign nn rfl rfl rfl hM_u60) ?_; intro u62 y_u62 e_u62
        refine sm_eq e_v48 e_u62 ?_ ?_
        · exact sj_X13_both_166 nn hr e_a1 e_u52 e_u60 hM_u60
        · refine sm_cP (sf_X13_sign nn rfl rfl rfl hM_u60) ?_; intro u63 y_u63 e_u63
          refine sm_ne e_v48 e_u63 ?_ ?_
          · refine sm_eq e_v48 rfl ?_ ?_
            · exact sj_X13_both_208 nn hr e_a1 e_u52 e_u60 hM_u60
            · refine sm_eq e_v48 rfl ?_ ?_
              · exact sj_X13_both_208 nn hr e_a1 e_u52 e_u60 hM_u60
              · refine sm_ne e_v48 rfl ?_ ?_
                · exact sj_X13_both_213 nn hr e_a1 e_u52 e_u60 rfl hM_u60
                · exact sj_X13_both_208 nn hr e_a1 e_u52 e_u60 hM_u60
          · exact sj_X13_both_166 nn hr e_a1 e_u52 e_u60 hM_u60
      · exact sm_rI rfl hM_u60
    · exact sj_X13_both_36 nn hr e_a1 hM_h
set_option maxRecDepth 4000 in
theorem sj_X13_invoked_237 (nn : Nat) {frc : tg_X13_condition} {rc : tq_X13_condition} (hr : hg_X13_condition frc rc) {s0 : Int32} {y_s0 : Int} (e_s0 : s0.toInt = y_s0) {s1 : Int32} {y_s1 : Int} (e_s1 : s1.toInt = y_s1) {s2 : Int32} {y_s2 : Int} (e_s2 : s2.toInt = y_s2) {h : ms_M} (hM_h : Rg_M h) : Sm_ RI_ (j_X13_invoked_237 nn frc s0 s1 s2 160 (H_M h)) (qj_X13_invoked_237 nn rc y_s0 y_s1 y_s2 h) := by
  unfold j_X13_invoked_237 qj_X13_invoked_237
  refine sm_is hM_h rfl ?_
  refine sm_cI (hr.2.2.2.2.2.2 e_s2 e_s1 e_s0 hM_h) ?_; intro u2 y_u2 M_u2 e_u2 hM_u2
  exact sm_rI e_u2 hM_u2
set_option maxRecDepth 4000 in
theorem sj_X13_invoked_232 (nn : Nat) {frc : tg_X13_condition} {rc : tq_X13_condition} (hr : hg_X13_condition frc rc) {s0 : Int32} {y_s0 : Int} (e_s0 : s0.toInt = y_s0) {s1 : Int32} {y_s1 : Int} (e_s1 : s1.toInt = y_s1) {h : ms_M} (hM_h : Rg_M h) : Sm_ RI_ (j_X13_invoked_232 nn frc s0 s1 160 (H_M h)) (qj_X13_invoked_232 nn rc y_s0 y_s1 h) := by
  unfold j_X13_invoked_232 qj_X13_invoked_232
  exact sj_X13_invoked_237 nn hr rfl e_s0 e_s1 hM_h
set_option maxRecDepth 4000 in
theorem sj_X13_invoked_228 (nn : Nat) {frc : tg_X13_condition} {rc : tq_X13_condition} (hr : hg_X13_condition frc rc) {l3 : Int32} {y_l3 : Int} (e_l3 : l3.toInt = y_l3) {s0 : Int32} {y_s0 : Int} (e_s0 : s0.toInt = y_s0) {s1 : Int32} {y_s1 : Int} (e_s1 : s1.toInt = y_s1) {s2 : Int32} {y_s2 : Int} (e_s2 : s2.toInt = y_s2) {h : ms_M} (hM_h : Rg_M h) : Sm_ RI_ (j_X13_invoked_228 nn frc l3 s0 s1 s2 160 (H_M h)) (qj_X13_invoked_228 nn rc y_l3 y_s0 y_s1 y_s2 h) := by
  unfold j_X13_invoked_228 qj_X13_invoked_228
  refine sm_ne e_s0 e_l3 ?_ ?_
  · exact sj_X13_invoked_237 nn hr rfl e_s1 e_s2 hM_h
  · exact sj_X13_invoked_232 nn hr e_s1 e_s2 hM_h
set_option maxRecDepth 4000 in
theorem sj_X13_invoked_193 (nn : Nat) {frc : tg_X13_condition} {rc : tq_X13_condition} (hr : hg_X13_condition frc rc) {l1 : Int32} {y_l1 : Int} (e_l1 : l1.toInt = y_l1) {l3 : Int32} {y_l3 : Int} (e_l3 : l3.toInt = y_l3) {h : ms_M} (hM_h : Rg_M h) : Sm_ RI_ (j_X13_invoked_193 nn frc 160 l1 l3 (H_M h)) (qj_X13_invoked_193 nn rc y_l1 y_l3 h) := by
  unfold j_X13_invoked_193 qj_X13_invoked_193
  refine sm_gr hM_h (d := 175) rfl ?_
  refine sm_ai hM_h rfl e_l1 ?_; intro v5 y_v5 e_v5
  refine sm_gi hM_h rfl ?_; intro v6 e_v6
  refine sm_ne e_v6 rfl ?_ ?_
  · exact sj_X13_invoked_232 nn hr e_v5 e_l1 hM_h
  · refine sm_gr hM_h (d := 182) rfl ?_
    refine sm_gr hM_h (d := 175) rfl ?_
    refine sm_ai hM_h rfl e_l1 ?_; intro v9 y_v9 e_v9
    refine sm_ai hM_h rfl e_v9 ?_; intro v10 y_v10 e_v10
    refine sm_ne e_v10 rfl ?_ ?_
    · exact sj_X13_invoked_228 nn hr e_l3 rfl e_v5 e_l1 hM_h
    · exact sj_X13_invoked_228 nn hr e_l3 rfl e_v5 e_l1 hM_h
set_option maxRecDepth 4000 in
theorem sj_X13_invoked_152 (nn : Nat) {frc : tg_X13_condition} {rc : tq_X13_condition} (hr : hg_X13_condition frc rc) {l1 : Int32} {y_l1 : Int} (e_l1 : l1.toInt = y_l1) {l3 : Int32} {y_l3 : Int} (e_l3 : l3.toInt = y_l3) {l4 : Int32} {y_l4 : Int} (e_l4 : l4.toInt = y_l4) {s0 : Int32} {y_s0 : Int} (e_s0 : s0.toInt = y_s0) {s1 : Int32} {y_s1 : Int} (e_s1 : s1.toInt = y_s1) {h : ms_M} (hM_h : Rg_M h) : Sm_ RI_ (j_X13_invoked_152 nn frc 160 l1 l3 l4 s0 s1 176 (H_M h)) (qj_X13_invoked_152 nn rc y_l1 y_l3 y_l4 y_s0 y_s1 h) := by
  unfold j_X13_invoked_152 qj_X13_invoked_152
  refine sm_si hM_h rfl e_s1 e_s0 ?_; intro h13 hM_h13
  refine sm_gr hM_h13 (d := 175) rfl ?_
  refine sm_gr hM_h13 (d := 168) rfl ?_
  refine sm_ai hM_h13 rfl e_l1 ?_; intro v16 y_v16 e_v16
  refine sm_is hM_h13 rfl ?_
  refine sm_cP (sf_X13_memberOf nn e_l4 e_v16 rfl hM_h13) ?_; intro u18 y_u18 e_u18
  refine sm_si hM_h13 rfl e_l1 e_u18 ?_; intro h19 hM_h19
  refine sm_gr hM_h19 (d := 175) rfl ?_
  refine sm_ai hM_h19 rfl e_l1 ?_; intro v21 y_v21 e_v21
  refine sm_ne e_v21 rfl ?_ ?_
  · exact sj_X13_invoked_193 nn hr e_l1 e_l3 hM_h19
  · refine sm_gr hM_h19 (d := 168) rfl ?_
    refine sm_ai hM_h19 rfl e_l1 ?_; intro v23 y_v23 e_v23
    refine sm_is hM_h19 rfl ?_
    refine sm_cV (sf_X13_wrong nn rfl e_v23 hM_h19) ?_; intro u25 hM_u25
    exact sj_X13_invoked_193 nn hr e_l1 e_l3 hM_u25
set_option maxRecDepth 4000 in
theorem sj_X13_invoked_128 (nn : Nat) {frc : tg_X13_condition} {rc : tq_X13_condition} (hr : hg_X13_condition frc rc) {l1 : Int32} {y_l1 : Int} (e_l1 : l1.toInt = y_l1) {l3 : Int32} {y_l3 : Int} (e_l3 : l3.toInt = y_l3) {l4 : Int32} {y_l4 : Int} (e_l4 : l4.toInt = y_l4) {h : ms_M} (hM_h : Rg_M h) : Sm_ RI_ (j_X13_invoked_128 nn frc 160 l1 l3 l4 (H_M h)) (qj_X13_invoked_128 nn rc y_l1 y_l3 y_l4 h) := by
  unfold j_X13_invoked_128 qj_X13_invoked_128
  refine sm_gi hM_h rfl ?_; intro v27 e_v27
  refine sm_eq e_v27 rfl ?_ ?_
  · refine sm_gr hM_h (d := 176) rfl ?_
    refine sm_eq e_l3 rfl ?_ ?_
    · exact sj_X13_invoked_152 nn hr e_l1 e_l3 e_l4 rfl e_l1 hM_h
    · exact sj_X13_invoked_152 nn hr e_l1 e_l3 e_l4 e_l4 e_l1 hM_h
  · exact sm_rI rfl hM_h
set_option maxRecDepth 4000 in
theorem sj_X13_invoked_119 (nn : Nat) {frc : tg_X13_condition} {rc : tq_X13_condition} (hr : hg_X13_condition frc rc) {l1 : Int32} {y_l1 : Int} (e_l1 : l1.toInt = y_l1) {l3 : Int32} {y_l3 : Int} (e_l3 : l3.toInt = y_l3) {l5 : Int32} {y_l5 : Int} (e_l5 : l5.toInt = y_l5) {h : ms_M} (hM_h : Rg_M h) : Sm_ RI_ (j_X13_invoked_119 nn frc 160 l1 l3 l5 (H_M h)) (qj_X13_invoked_119 nn rc y_l1 y_l3 y_l5 h) := by
  unfold j_X13_invoked_119 qj_X13_invoked_119
  refine sm_oq_sub e_l5 rfl ?_; intro v31 y_v31 e_v31
  refine sm_div e_v31 ⟨rfl, by decide⟩ ?_; intro v32 y_v32 e_v32
  exact sj_X13_invoked_128 nn hr e_l1 e_l3 e_v32 hM_h
set_option maxRecDepth 4000 in
theorem sj_X13_invoked_86 (nn : Nat) {frc : tg_X13_condition} {rc : tq_X13_condition} (hr : hg_X13_condition frc rc) {l1 : Int32} {y_l1 : Int} (e_l1 : l1.toInt = y_l1) {h : ms_M} (hM_h : Rg_M h) : Sm_ RI_ (j_X13_invoked_86 nn frc 160 l1 (H_M h)) (qj_X13_invoked_86 nn rc y_l1 h) := by
  unfold j_X13_invoked_86 qj_X13_invoked_86
  refine sm_gr hM_h (d := 172) rfl ?_
  refine sm_ai hM_h rfl e_l1 ?_; intro v34 y_v34 e_v34
  refine sm_is hM_h rfl ?_
  refine sm_cV (sf_X13_wrong nn rfl e_v34 hM_h) ?_; intro u36 hM_u36
  exact sm_rI rfl hM_u36
set_option maxRecDepth 4000 in
theorem sj_X13_invoked_46 (nn : Nat) {frc : tg_X13_condition} {rc : tq_X13_condition} (hr : hg_X13_condition frc rc) {l1 : Int32} {y_l1 : Int} (e_l1 : l1.toInt = y_l1) {l2 : Int32} {y_l2 : Int} (e_l2 : l2.toInt = y_l2) {l3 : Int32} {y_l3 : Int} (e_l3 : l3.toInt = y_l3) {l4 : Int32} {y_l4 : Int} (e_l4 : l4.toInt = y_l4) {h : ms_M} (hM_h : Rg_M h) : Sm_ RI_ (j_X13_invoked_46 nn frc 160 l1 l2 l3 l4 (H_M h)) (qj_X13_invoked_46 nn rc y_l1 y_l2 y_l3 y_l4 h) := by
  unfold j_X13_invoked_46 qj_X13_invoked_46
  refine sm_gr hM_h (d := 174) rfl ?_
  refine sm_si hM_h rfl e_l2 rfl ?_; intro h38 hM_h38
  exact sj_X13_invoked_128 nn hr e_l1 e_l3 e_l4 hM_h38
set_option maxRecDepth 4000 in
theorem so_X13_invoked (nn : Nat) {frc : tg_X13_condition} {rc : tq_X13_condition} (hr : hg_X13_condition frc rc) {a1 : Int32} {y_a1 : Int} (e_a1 : a1.toInt = y_a1) {h : ms_M} (hM_h : Rg_M h) : Sm_ RI_ (o_X13_invoked nn frc 160 a1 (H_M h)) (qo_X13_invoked nn rc y_a1 h) := by
  unfold o_X13_invoked qo_X13_invoked
  refine sm_gr hM_h (d := 170) rfl ?_
  refine sm_ai hM_h rfl e_a1 ?_; intro v40 y_v40 e_v40
  refine sm_is hM_h rfl ?_
  refine sm_cP (sf_X13_isByClass nn e_a1 hM_h) ?_; intro u42 y_u42 e_u42
  refine sm_eq e_u42 rfl ?_ ?_
  · refine sm_is hM_h rfl ?_
    refine sm_cI (sf_X13_led nn e_a1 hM_h) ?_; intro u44 y_u44 M_u44 e_u44 hM_u44
    refine sm_gi hM_u44 rfl ?_; intro v45 e_v45
    refine sm_eq e_v45 rfl ?_ ?_
    · refine sm_eq e_u44 rfl ?_ ?_
      · exact sj_X13_invoked_86 nn hr e_a1 hM_u44
      · refine sm_cP (sf_X13_isThing nn e_u44 hM_u44) ?_; intro u46 y_u46 e_u46
        refine sm_ne e_u46 rfl ?_ ?_
        · refine sm_cP (sf_X13_isArray nn e_u44 hM_u44) ?_; intro u47 y_u47 e_u47
          refine sm_eq e_u47 rfl ?_ ?_
          · exact sj_X13_invoked_119 nn hr e_a1 e_u42 e_u44 hM_u44
          · refine sm_gr hM_u44 (d := 168) rfl ?_
            refine sm_ai hM_u44 rfl e_a1 ?_; intro v49 y_v49 e_v49
            refine sm_is hM_u44 rfl ?_
            refine sm_cV (sf_X13_wrong nn rfl e_v49 hM_u44) ?_; intro u51 hM_u51
            exact sj_X13_invoked_119 nn hr e_a1 e_u42 e_u44 hM_u51
        · exact sj_X13_invoked_86 nn hr e_a1 hM_u44
    · exact sm_rI rfl hM_u44
  · refine sm_gr hM_h (d := 168) rfl ?_
    refine sm_ai hM_h rfl e_v40 ?_; intro v57 y_v57 e_v57
    refine sm_is hM_h rfl ?_
    refine sm_cP (sf_X13_classOf nn e_v57 hM_h) ?_; intro u59 y_u59 e_u59
    refine sm_ne e_u59 rfl ?_ ?_
    · exact sj_X13_invoked_46 nn hr e_a1 e_v40 e_u42 e_u59 hM_h
    · refine sm_gr hM_h (d := 168) rfl ?_
      refine sm_ai hM_h rfl e_v40 ?_; intro v61 y_v61 e_v61
      refine sm_is hM_h rfl ?_
      refine sm_cV (sf_X13_wrong nn rfl e_v61 hM_h) ?_; intro u63 hM_u63
      exact sj_X13_invoked_46 nn hr e_a1 e_v40 e_u42 e_u59 hM_u63
set_option maxRecDepth 4000 in
theorem sj_X13_called_138 (nn : Nat) {frc : tg_X13_condition} {rc : tq_X13_condition} (hr : hg_X13_condition frc rc) {l2 : Int32} {y_l2 : Int} (e_l2 : l2.toInt = y_l2) {h : ms_M} (hM_h : Rg_M h) : Sm_ RI_ (j_X13_called_138 nn frc 160 l2 (H_M h)) (qj_X13_called_138 nn rc y_l2 h) := by
  unfold j_X13_called_138 qj_X13_called_138
  refine sm_gr hM_h (d := 187) rfl ?_
  refine sm_ai hM_h rfl e_l2 ?_; intro v2 y_v2 e_v2
  exact sm_rI e_v2 hM_h
set_option maxRecDepth 4000 in
theorem sj_X13_called_126 (nn : Nat) {frc : tg_X13_condition} {rc : tq_X13_condition} (hr : hg_X13_condition frc rc) {l1 : Int32} {y_l1 : Int} (e_l1 : l1.toInt = y_l1) {l2 : Int32} {y_l2 : Int} (e_l2 : l2.toInt = y_l2) {h : ms_M} (hM_h : Rg_M h) : Sm_ RI_ (j_X13_called_126 nn frc 160 l1 l2 (H_M h)) (qj_X13_called_126 nn rc y_l1 y_l2 h) := by
  unfold j_X13_called_126 qj_X13_called_126
  refine sm_gr hM_h (d := 168) rfl ?_
  refine sm_ai hM_h rfl e_l1 ?_; intro v4 y_v4 e_v4
  refine sm_is hM_h rfl ?_
  refine sm_cV (sf_X13_wrong nn rfl e_v4 hM_h) ?_; intro u6 hM_u6
  exact sj_X13_called_138 nn hr e_l2 hM_u6
set_option maxRecDepth 4000 in
theorem sj_X13_called_110 (nn : Nat) {frc : tg_X13_condition} {rc : tq_X13_condition} (hr : hg_X13_condition frc rc) {l1 : Int32} {y_l1 : Int} (e_l1 : l1.toInt = y_l1) {l2 : Int32} {y_l2 : Int} (e_l2 : l2.toInt = y_l2) {l4 : Int32} {y_l4 : Int} (e_l4 : l4.toInt = y_l4) {l5 : Int32} {y_l5 : Int} (e_l5 : l5.toInt = y_l5) {h : ms_M} (hM_h : Rg_M h) : Sm_ RI_ (j_X13_called_110 nn frc 160 l1 l2 l4 l5 (H_M h)) (qj_X13_called_110 nn rc y_l1 y_l2 y_l4 y_l5 h) := by
  unfold j_X13_called_110 qj_X13_called_110
  refine sm_eq e_l4 rfl ?_ ?_
  · exact sj_X13_called_126 nn hr e_l1 e_l2 hM_h
  · refine sm_gr hM_h (d := 189) rfl ?_
    refine sm_ai hM_h rfl e_l2 ?_; intro v8 y_v8 e_v8
    refine sm_eq e_l5 e_v8 ?_ ?_
    · exact sj_X13_called_138 nn hr e_l2 hM_h
    · exact sj_X13_called_126 nn hr e_l1 e_l2 hM_h
set_option maxRecDepth 4000 in
theorem sj_X13_called_93 (nn : Nat) {frc : tg_X13_condition} {rc : tq_X13_condition} (hr : hg_X13_condition frc rc) {kk_23 : Nat → Int32 → Int32 → Int32 → Int32 → Int32 → mx_H → Option (Int32 × mx_H)} {qkk_23 : Int → Int → Int → Int → Int → ms_M → Option (Int × ms_M)} (hk_kk_23 : ∀ {l1 : Int32} {y_l1 : Int} (e_l1 : l1.toInt = y_l1) {l2 : Int32} {y_l2 : Int} (e_l2 : l2.toInt = y_l2) {l4 : Int32} {y_l4 : Int} (e_l4 : l4.toInt = y_l4) {l5 : Int32} {y_l5 : Int} (e_l5 : l5.toInt = y_l5) {l6 : Int32} {y_l6 : Int} (e_l6 : l6.toInt = y_l6) {h : ms_M} (hM_h : Rg_M h), Sm_ RI_ (kk_23 160 l1 l2 l4 l5 l6 (H_M h)) (qkk_23 y_l1 y_l2 y_l4 y_l5 y_l6 h)) {l1 : Int32} {y_l1 : Int} (e_l1 : l1.toInt = y_l1) {l2 : Int32} {y_l2 : Int} (e_l2 : l2.toInt = y_l2) {l5 : Int32} {y_l5 : Int} (e_l5 : l5.toInt = y_l5) {l6 : Int32} {y_l6 : Int} (e_l6 : l6.toInt = y_l6) {s0 : Int32} {y_s0 : Int} (e_s0 : s0.toInt = y_s0) {h : ms_M} (hM_h : Rg_M h) : Sm_ RI_ (j_X13_called_93 nn frc kk_23 160 l1 l2 l5 l6 s0 (H_M h)) (qj_X13_called_93 nn rc qkk_23 y_l1 y_l2 y_l5 y_l6 y_s0 h) := by
  unfold j_X13_called_93 qj_X13_called_93
  refine sm_oq_add e_l5 rfl ?_; intro v11 y_v11 e_v11
  refine sm_gr hM_h (d := 173) rfl ?_
  refine sm_ai hM_h rfl e_l6 ?_; intro v13 y_v13 e_v13
  exact hk_kk_23 e_l1 e_l2 e_s0 e_v11 e_v13 hM_h
set_option maxRecDepth 4000 in
theorem sj_X13_called_92 (nn : Nat) {frc : tg_X13_condition} {rc : tq_X13_condition} (hr : hg_X13_condition frc rc) {kk_23 : Nat → Int32 → Int32 → Int32 → Int32 → Int32 → mx_H → Option (Int32 × mx_H)} {qkk_23 : Int → Int → Int → Int → Int → ms_M → Option (Int × ms_M)} (hk_kk_23 : ∀ {l1 : Int32} {y_l1 : Int} (e_l1 : l1.toInt = y_l1) {l2 : Int32} {y_l2 : Int} (e_l2 : l2.toInt = y_l2) {l4 : Int32} {y_l4 : Int} (e_l4 : l4.toInt = y_l4) {l5 : Int32} {y_l5 : Int} (e_l5 : l5.toInt = y_l5) {l6 : Int32} {y_l6 : Int} (e_l6 : l6.toInt = y_l6) {h : ms_M} (hM_h : Rg_M h), Sm_ RI_ (kk_23 160 l1 l2 l4 l5 l6 (H_M h)) (qkk_23 y_l1 y_l2 y_l4 y_l5 y_l6 h)) {l1 : Int32} {y_l1 : Int} (e_l1 : l1.toInt = y_l1) {l2 : Int32} {y_l2 : Int} (e_l2 : l2.toInt = y_l2) {l5 : Int32} {y_l5 : Int} (e_l5 : l5.toInt = y_l5) {l6 : Int32} {y_l6 : Int} (e_l6 : l6.toInt = y_l6) {h : ms_M} (hM_h : Rg_M h) : Sm_ RI_ (j_X13_called_92 nn frc kk_23 160 l1 l2 l5 l6 (H_M h)) (qj_X13_called_92 nn rc qkk_23 y_l1 y_l2 y_l5 y_l6 h) := by
  unfold j_X13_called_92 qj_X13_called_92
  exact sj_X13_called_93 nn hr hk_kk_23 e_l1 e_l2 e_l5 e_l6 rfl hM_h
set_option maxRecDepth 4000 in
theorem sw_X13_called_23 (nn : Nat) {frc : tg_X13_condition} {rc : tq_X13_condition} (hr : hg_X13_condition frc rc) : ∀ (k : Nat) {l1 : Int32} {y_l1 : Int} (e_l1 : l1.toInt = y_l1) {l2 : Int32} {y_l2 : Int} (e_l2 : l2.toInt = y_l2) {l4 : Int32} {y_l4 : Int} (e_l4 : l4.toInt = y_l4) {l5 : Int32} {y_l5 : Int} (e_l5 : l5.toInt = y_l5) {l6 : Int32} {y_l6 : Int} (e_l6 : l6.toInt = y_l6) {h : ms_M} (hM_h : Rg_M h), Sm_ RI_ (w_X13_called_23 nn frc k 160 l1 l2 l4 l5 l6 (H_M h)) (qw_X13_called_23 nn rc k y_l1 y_l2 y_l4 y_l5 y_l6 h) := by
  intro k
  induction k with
  | zero => intros; exact sm_no
  | succ k ih =>
    intro l1 y_l1 e_l1 l2 y_l2 e_l2 l4 y_l4 e_l4 l5 y_l5 e_l5 l6 y_l6 e_l6 h hM_h
    unfold w_X13_called_23 qw_X13_called_23
    refine sm_eq e_l6 rfl ?_ ?_
    · exact sj_X13_called_110 nn hr e_l1 e_l2 e_l4 e_l5 hM_h
    · refine sm_gi hM_h rfl ?_; intro v14 e_v14
      refine sm_ne e_v14 rfl ?_ ?_
      · exact sj_X13_called_110 nn hr e_l1 e_l2 e_l4 e_l5 hM_h
      · refine sm_gr hM_h (d := 170) rfl ?_
        refine sm_ai hM_h rfl e_l6 ?_; intro v16 y_v16 e_v16
        refine sm_is hM_h rfl ?_
        refine sm_cI (hr.2.1 e_v16 hM_h) ?_; intro u18 y_u18 M_u18 e_u18 hM_u18
        refine sm_eq e_l4 rfl ?_ ?_
        · exact sj_X13_called_92 nn hr ih e_l1 e_l2 e_l5 e_l6 hM_u18
        · refine sm_gr hM_u18 (d := 189) rfl ?_
          refine sm_ai hM_u18 rfl e_l2 ?_; intro v20 y_v20 e_v20
          refine sm_le e_v20 e_l5 ?_ ?_
          · exact sj_X13_called_92 nn hr ih e_l1 e_l2 e_l5 e_l6 hM_u18
          · refine sm_gr hM_u18 (d := 195) rfl ?_
            refine sm_gr hM_u18 (d := 188) rfl ?_
            refine sm_ai hM_u18 rfl e_l2 ?_; intro v23 y_v23 e_v23
            refine sm_oq_add e_v23 e_l5 ?_; intro v24 y_v24 e_v24
            refine sm_ai hM_u18 rfl e_v24 ?_; intro v25 y_v25 e_v25
            refine sm_is hM_u18 rfl ?_
            refine sm_cP (sf_X13_fits nn e_u18 e_v25 hM_u18) ?_; intro u27 y_u27 e_u27
            refine sm_eq e_u27 rfl ?_ ?_
            · exact sj_X13_called_92 nn hr ih e_l1 e_l2 e_l5 e_l6 hM_u18
            · exact sj_X13_called_93 nn hr ih e_l1 e_l2 e_l5 e_l6 rfl hM_u18
set_option maxRecDepth 4000 in
theorem so_X13_called (nn : Nat) {frc : tg_X13_condition} {rc : tq_X13_condition} (hr : hg_X13_condition frc rc) {a1 : Int32} {y_a1 : Int} (e_a1 : a1.toInt = y_a1) {a2 : Int32} {y_a2 : Int} (e_a2 : a2.toInt = y_a2) {a3 : Int32} {y_a3 : Int} (e_a3 : a3.toInt = y_a3) {h : ms_M} (hM_h : Rg_M h) : Sm_ RI_ (o_X13_called nn frc 160 a1 a2 a3 (H_M h)) (qo_X13_called nn rc y_a1 y_a2 y_a3 h) := by
  unfold o_X13_called qo_X13_called
  refine sm_gi hM_h rfl ?_; intro v33 e_v33
  refine sm_eq e_v33 rfl ?_ ?_
  · refine sm_gr hM_h (d := 171) rfl ?_
    refine sm_ai hM_h rfl e_a1 ?_; intro v35 y_v35 e_v35
    exact sw_X13_called_23 nn hr nn e_a1 e_a2 e_a3 rfl e_v35 hM_h
  · exact sm_rI rfl hM_h
set_option maxRecDepth 4000 in
theorem sg_X13_condition (nn : Nat) : ∀ d, hg_X13_condition (g_X13_condition nn d) (qg_X13_condition nn d) := by
  intro d
  induction d with
  | zero => exact ⟨(by intros; exact sm_no), (by intros; exact sm_no), (by intros; exact sm_no), (by intros; exact sm_no), (by intros; exact sm_no), (by intros; exact sm_no), (by intros; exact sm_no)⟩
  | succ d ih => exact ⟨so_X13_condition nn ih, so_X13_given nn ih, so_X13_worked nn ih, so_X13_rule nn ih, so_X13_both nn ih, so_X13_invoked nn ih, so_X13_called nn ih⟩
set_option maxRecDepth 4000 in
theorem sf_X13_condition (nn : Nat) {a1 : Int32} {y_a1 : Int} (e_a1 : a1.toInt = y_a1) {h : ms_M} (hM_h : Rg_M h) : Sm_ RV_ (f_X13_condition nn 160 a1 (H_M h)) (qf_X13_condition nn y_a1 h) := (sg_X13_condition nn 1600).1 e_a1 hM_h
set_option maxRecDepth 4000 in
theorem sf_X13_given (nn : Nat) {a1 : Int32} {y_a1 : Int} (e_a1 : a1.toInt = y_a1) {h : ms_M} (hM_h : Rg_M h) : Sm_ RI_ (f_X13_given nn 160 a1 (H_M h)) (qf_X13_given nn y_a1 h) := (sg_X13_condition nn 1600).2.1 e_a1 hM_h
set_option maxRecDepth 4000 in
theorem sf_X13_worked (nn : Nat) {a1 : Int32} {y_a1 : Int} (e_a1 : a1.toInt = y_a1) {h : ms_M} (hM_h : Rg_M h) : Sm_ RI_ (f_X13_worked nn 160 a1 (H_M h)) (qf_X13_worked nn y_a1 h) := (sg_X13_condition nn 1600).2.2.1 e_a1 hM_h
set_option maxRecDepth 4000 in
theorem sf_X13_rule (nn : Nat) {a1 : Int32} {y_a1 : Int} (e_a1 : a1.toInt = y_a1) {h : ms_M} (hM_h : Rg_M h) : Sm_ RI_ (f_X13_rule nn 160 a1 (H_M h)) (qf_X13_rule nn y_a1 h) := (sg_X13_condition nn 1600).2.2.2.1 e_a1 hM_h
set_option maxRecDepth 4000 in
theorem sf_X13_both (nn : Nat) {a1 : Int32} {y_a1 : Int} (e_a1 : a1.toInt = y_a1) {h : ms_M} (hM_h : Rg_M h) : Sm_ RI_ (f_X13_both nn 160 a1 (H_M h)) (qf_X13_both nn y_a1 h) := (sg_X13_condition nn 1600).2.2.2.2.1 e_a1 hM_h
set_option maxRecDepth 4000 in
theorem sf_X13_invoked (nn : Nat) {a1 : Int32} {y_a1 : Int} (e_a1 : a1.toInt = y_a1) {h : ms_M} (hM_h : Rg_M h) : Sm_ RI_ (f_X13_invoked nn 160 a1 (H_M h)) (qf_X13_invoked nn y_a1 h) := (sg_X13_condition nn 1600).2.2.2.2.2.1 e_a1 hM_h
set_option maxRecDepth 4000 in
theorem sf_X13_called (nn : Nat) {a1 : Int32} {y_a1 : Int} (e_a1 : a1.toInt = y_a1) {a2 : Int32} {y_a2 : Int} (e_a2 : a2.toInt = y_a2) {a3 : Int32} {y_a3 : Int} (e_a3 : a3.toInt = y_a3) {h : ms_M} (hM_h : Rg_M h) : Sm_ RI_ (f_X13_called nn 160 a1 a2 a3 (H_M h)) (qf_X13_called nn y_a1 y_a2 y_a3 h) := (sg_X13_condition nn 1600).2.2.2.2.2.2 e_a1 e_a2 e_a3 hM_h
set_option maxRecDepth 4000 in
theorem sj_X13_typeOf_56 (nn : Nat) {l3 : Int32} {y_l3 : Int} (e_l3 : l3.toInt = y_l3) {l4 : Int32} {y_l4 : Int} (e_l4 : l4.toInt = y_l4) {h : ms_M} (hM_h : Rg_M h) : Sm_ RI_ (j_X13_typeOf_56 nn l3 l4 (H_M h)) (qj_X13_typeOf_56 nn y_l3 y_l4 h) := by
  unfold j_X13_typeOf_56 qj_X13_typeOf_56
  refine sm_oq_mul rfl e_l4 ?_; intro v1 y_v1 e_v1
  refine sm_oq_add rfl e_v1 ?_; intro v2 y_v2 e_v2
  refine sm_eq e_l3 rfl ?_ ?_
  · refine sm_oq_add e_v2 rfl ?_; intro v3 y_v3 e_v3
    exact sm_rI e_v3 hM_h
  · refine sm_oq_add e_v2 rfl ?_; intro v4 y_v4 e_v4
    exact sm_rI e_v4 hM_h
set_option maxRecDepth 4000 in
theorem sf_X13_typeOf (nn : Nat) {a1 : Int32} {y_a1 : Int} (e_a1 : a1.toInt = y_a1) {a2 : Int32} {y_a2 : Int} (e_a2 : a2.toInt = y_a2) {a3 : Int32} {y_a3 : Int} (e_a3 : a3.toInt = y_a3) {h : ms_M} (hM_h : Rg_M h) : Sm_ RI_ (f_X13_typeOf nn 160 a1 a2 a3 (H_M h)) (qf_X13_typeOf nn y_a1 y_a2 y_a3 h) := by
  unfold f_X13_typeOf qf_X13_typeOf
  refine sm_gi hM_h rfl ?_; intro v6 e_v6
  refine sm_eq e_v6 rfl ?_ ?_
  · refine sm_ne e_a1 rfl ?_ ?_
    · refine sm_ne e_a1 rfl ?_ ?_
      · refine sm_ne e_a1 rfl ?_ ?_
        · refine sm_is hM_h rfl ?_
          refine sm_cP (sf_X13_classOf nn e_a2 hM_h) ?_; intro u8 y_u8 e_u8
          refine sm_ne e_u8 rfl ?_ ?_
          · exact sj_X13_typeOf_56 nn e_a3 e_u8 hM_h
          · refine sm_is hM_h rfl ?_
            refine sm_cV (sf_X13_wrong nn rfl e_a2 hM_h) ?_; intro u10 hM_u10
            exact sj_X13_typeOf_56 nn e_a3 e_u8 hM_u10
        · exact sm_rI rfl hM_h
      · exact sm_rI rfl hM_h
    · refine sm_eq e_a3 rfl ?_ ?_
      · exact sm_rI rfl hM_h
      · exact sm_rI rfl hM_h
  · exact sm_rI rfl hM_h
def hg_X13_ruled (frc : tg_X13_ruled) (rc : tq_X13_ruled) : Prop := (∀ {a1 : Int32} {y_a1 : Int} (e_a1 : a1.toInt = y_a1) {h : ms_M} (hM_h : Rg_M h), Sm_ RI_ (frc 160 a1 (H_M h)) (rc y_a1 h))
set_option maxRecDepth 4000 in
theorem sj_X13_ruled_954 (nn : Nat) {frc : tg_X13_ruled} {rc : tq_X13_ruled} (hr : hg_X13_ruled frc rc) {l1 : Int32} {y_l1 : Int} (e_l1 : l1.toInt = y_l1) {h : ms_M} (hM_h : Rg_M h) : Sm_ RI_ (j_X13_ruled_954 nn frc 160 l1 (H_M h)) (qj_X13_ruled_954 nn rc y_l1 h) := by
  unfold j_X13_ruled_954 qj_X13_ruled_954
  refine sm_gr hM_h (d := 168) rfl ?_
  refine sm_ai hM_h rfl e_l1 ?_; intro v2 y_v2 e_v2
  refine sm_is hM_h rfl ?_
  refine sm_cV (sf_X13_wrong nn rfl e_v2 hM_h) ?_; intro u4 hM_u4
  exact sm_rI rfl hM_u4
set_option maxRecDepth 4000 in
theorem sj_X13_ruled_887 (nn : Nat) {frc : tg_X13_ruled} {rc : tq_X13_ruled} (hr : hg_X13_ruled frc rc) {l1 : Int32} {y_l1 : Int} (e_l1 : l1.toInt = y_l1) {h : ms_M} (hM_h : Rg_M h) : Sm_ RI_ (j_X13_ruled_887 nn frc 160 l1 (H_M h)) (qj_X13_ruled_887 nn rc y_l1 h) := by
  unfold j_X13_ruled_887 qj_X13_ruled_887
  refine sm_gr hM_h (d := 169) rfl ?_
  refine sm_gr hM_h (d := 170) rfl ?_
  refine sm_ai hM_h rfl e_l1 ?_; intro v7 y_v7 e_v7
  refine sm_ai hM_h rfl e_v7 ?_; intro v8 y_v8 e_v8
  refine sm_is hM_h rfl ?_
  refine sm_cV (sf_X13_wrong nn rfl e_v8 hM_h) ?_; intro u10 hM_u10
  exact sm_rI rfl hM_u10
set_option maxRecDepth 4000 in
theorem sj_X13_ruled_840 (nn : Nat) {frc : tg_X13_ruled} {rc : tq_X13_ruled} (hr : hg_X13_ruled frc rc) {l1 : Int32} {y_l1 : Int} (e_l1 : l1.toInt = y_l1) {s0 : Int32} {y_s0 : Int} (e_s0 : s0.toInt = y_s0) {s1 : Int32} {y_s1 : Int} (e_s1 : s1.toInt = y_s1) {h : ms_M} (hM_h : Rg_M h) : Sm_ RI_ (j_X13_ruled_840 nn frc 160 l1 s0 s1 174 (H_M h)) (qj_X13_ruled_840 nn rc y_l1 y_s0 y_s1 h) := by
  unfold j_X13_ruled_840 qj_X13_ruled_840
  refine sm_si hM_h rfl e_s1 e_s0 ?_; intro h11 hM_h11
  refine sm_gr hM_h11 (d := 177) rfl ?_
  refine sm_gr hM_h11 (d := 170) rfl ?_
  refine sm_ai hM_h11 rfl e_l1 ?_; intro v14 y_v14 e_v14
  refine sm_ab hM_h11 rfl e_v14 ?_; intro v15 y_v15 e_v15
  refine sm_ne e_v15 rfl ?_ ?_
  · exact sj_X13_ruled_887 nn hr e_l1 hM_h11
  · refine sm_gr hM_h11 (d := 167) rfl ?_
    refine sm_gr hM_h11 (d := 170) rfl ?_
    refine sm_ai hM_h11 rfl e_l1 ?_; intro v18 y_v18 e_v18
    refine sm_ai hM_h11 rfl e_v18 ?_; intro v19 y_v19 e_v19
    refine sm_eq e_v19 rfl ?_ ?_
    · exact sm_rI rfl hM_h11
    · refine sm_gr hM_h11 (d := 167) rfl ?_
      refine sm_gr hM_h11 (d := 170) rfl ?_
      refine sm_ai hM_h11 rfl e_l1 ?_; intro v22 y_v22 e_v22
      refine sm_ai hM_h11 rfl e_v22 ?_; intro v23 y_v23 e_v23
      refine sm_eq e_v23 rfl ?_ ?_
      · exact sm_rI rfl hM_h11
      · exact sj_X13_ruled_887 nn hr e_l1 hM_h11
set_option maxRecDepth 4000 in
theorem sj_X13_ruled_738 (nn : Nat) {frc : tg_X13_ruled} {rc : tq_X13_ruled} (hr : hg_X13_ruled frc rc) {l1 : Int32} {y_l1 : Int} (e_l1 : l1.toInt = y_l1) {l2 : Int32} {y_l2 : Int} (e_l2 : l2.toInt = y_l2) {l3 : Int32} {y_l3 : Int} (e_l3 : l3.toInt = y_l3) {h : ms_M} (hM_h : Rg_M h) : Sm_ RI_ (j_X13_ruled_738 nn frc 160 l1 l2 l3 (H_M h)) (qj_X13_ruled_738 nn rc y_l1 y_l2 y_l3 h) := by
  unfold j_X13_ruled_738 qj_X13_ruled_738
  refine sm_gr hM_h (d := 171) rfl ?_
  refine sm_ai hM_h rfl e_l1 ?_; intro v28 y_v28 e_v28
  refine sm_is hM_h rfl ?_
  refine sm_cI (hr e_v28 hM_h) ?_; intro u30 y_u30 M_u30 e_u30 hM_u30
  refine sm_pv hM_u30 rfl e_l2 ?_; intro h31 hM_h31
  refine sm_ne e_l3 rfl ?_ ?_
  · exact sm_rI rfl hM_h31
  · refine sm_eq e_u30 rfl ?_ ?_
    · exact sm_rI rfl hM_h31
    · exact sm_rI rfl hM_h31
set_option maxRecDepth 4000 in
theorem sj_X13_ruled_711 (nn : Nat) {frc : tg_X13_ruled} {rc : tq_X13_ruled} (hr : hg_X13_ruled frc rc) {l1 : Int32} {y_l1 : Int} (e_l1 : l1.toInt = y_l1) {l2 : Int32} {y_l2 : Int} (e_l2 : l2.toInt = y_l2) {l3 : Int32} {y_l3 : Int} (e_l3 : l3.toInt = y_l3) {l5 : Int32} {y_l5 : Int} (e_l5 : l5.toInt = y_l5) {h : ms_M} (hM_h : Rg_M h) : Sm_ RI_ (j_X13_ruled_711 nn frc 160 l1 l2 l3 l5 (H_M h)) (qj_X13_ruled_711 nn rc y_l1 y_l2 y_l3 y_l5 h) := by
  unfold j_X13_ruled_711 qj_X13_ruled_711
  refine sm_gr hM_h (d := 174) rfl ?_
  refine sm_si hM_h rfl e_l1 e_l5 ?_; intro h35 hM_h35
  refine sm_gi hM_h35 rfl ?_; intro v36 e_v36
  refine sm_ne e_v36 rfl ?_ ?_
  · exact sj_X13_ruled_738 nn hr e_l1 e_l2 e_l3 hM_h35
  · refine sm_gr hM_h35 (d := 176) rfl ?_
    refine sm_ai hM_h35 rfl e_l1 ?_; intro v38 y_v38 e_v38
    refine sm_is hM_h35 rfl ?_
    refine sm_cV (sf_X13_come nn e_v38 e_l5 hM_h35) ?_; intro u40 hM_u40
    exact sj_X13_ruled_738 nn hr e_l1 e_l2 e_l3 hM_u40
set_option maxRecDepth 4000 in
theorem sj_X13_ruled_679 (nn : Nat) {frc : tg_X13_ruled} {rc : tq_X13_ruled} (hr : hg_X13_ruled frc rc) {l1 : Int32} {y_l1 : Int} (e_l1 : l1.toInt = y_l1) {l2 : Int32} {y_l2 : Int} (e_l2 : l2.toInt = y_l2) {l3 : Int32} {y_l3 : Int} (e_l3 : l3.toInt = y_l3) {l5 : Int32} {y_l5 : Int} (e_l5 : l5.toInt = y_l5) {h : ms_M} (hM_h : Rg_M h) : Sm_ RI_ (j_X13_ruled_679 nn frc 160 l1 l2 l3 l5 (H_M h)) (qj_X13_ruled_679 nn rc y_l1 y_l2 y_l3 y_l5 h) := by
  unfold j_X13_ruled_679 qj_X13_ruled_679
  refine sm_gi hM_h rfl ?_; intro v42 e_v42
  refine sm_ne e_v42 rfl ?_ ?_
  · exact sj_X13_ruled_711 nn hr e_l1 e_l2 e_l3 e_l5 hM_h
  · refine sm_gr hM_h (d := 176) rfl ?_
    refine sm_ai hM_h rfl e_l1 ?_; intro v44 y_v44 e_v44
    refine sm_is hM_h rfl ?_
    refine sm_cP (sf_X13_sightOf nn e_v44 hM_h) ?_; intro u46 y_u46 e_u46
    refine sm_eq e_u46 rfl ?_ ?_
    · exact sj_X13_ruled_711 nn hr e_l1 e_l2 e_l3 e_l5 hM_h
    · refine sm_gr hM_h (d := 176) rfl ?_
      refine sm_ai hM_h rfl e_l1 ?_; intro v48 y_v48 e_v48
      refine sm_is hM_h rfl ?_
      refine sm_cV (sf_X13_wrong nn rfl e_v48 hM_h) ?_; intro u50 hM_u50
      exact sj_X13_ruled_711 nn hr e_l1 e_l2 e_l3 e_l5 hM_u50
set_option maxRecDepth 4000 in
theorem sj_X13_ruled_617 (nn : Nat) {frc : tg_X13_ruled} {rc : tq_X13_ruled} (hr : hg_X13_ruled frc rc) {l1 : Int32} {y_l1 : Int} (e_l1 : l1.toInt = y_l1) {h : ms_M} (hM_h : Rg_M h) : Sm_ RI_ (j_X13_ruled_617 nn frc 160 l1 (H_M h)) (qj_X13_ruled_617 nn rc y_l1 h) := by
  unfold j_X13_ruled_617 qj_X13_ruled_617
  refine sm_gr hM_h (d := 168) rfl ?_
  refine sm_ai hM_h rfl e_l1 ?_; intro v54 y_v54 e_v54
  refine sm_is hM_h rfl ?_
  refine sm_cV (sf_X13_wrong nn rfl e_v54 hM_h) ?_; intro u56 hM_u56
  exact sm_rI rfl hM_u56
set_option maxRecDepth 4000 in
theorem sj_X13_ruled_536 (nn : Nat) {frc : tg_X13_ruled} {rc : tq_X13_ruled} (hr : hg_X13_ruled frc rc) {l1 : Int32} {y_l1 : Int} (e_l1 : l1.toInt = y_l1) {h : ms_M} (hM_h : Rg_M h) : Sm_ RI_ (j_X13_ruled_536 nn frc 160 l1 (H_M h)) (qj_X13_ruled_536 nn rc y_l1 h) := by
  unfold j_X13_ruled_536 qj_X13_ruled_536
  refine sm_gr hM_h (d := 170) rfl ?_
  refine sm_ai hM_h rfl e_l1 ?_; intro v58 y_v58 e_v58
  refine sm_eq e_v58 rfl ?_ ?_
  · exact sm_rI rfl hM_h
  · refine sm_gr hM_h (d := 170) rfl ?_
    refine sm_ai hM_h rfl e_l1 ?_; intro v60 y_v60 e_v60
    refine sm_is hM_h rfl ?_
    refine sm_cI (sf_X13_given nn e_v60 hM_h) ?_; intro u62 y_u62 M_u62 e_u62 hM_u62
    refine sm_gr hM_u62 (d := 187) rfl ?_
    refine sm_gi hM_u62 rfl ?_; intro v64 e_v64
    refine sm_ai hM_u62 rfl e_v64 ?_; intro v65 y_v65 e_v65
    refine sm_is hM_u62 rfl ?_
    refine sm_cP (sf_X13_fits nn e_u62 e_v65 hM_u62) ?_; intro u67 y_u67 e_u67
    refine sm_ne e_u67 rfl ?_ ?_
    · exact sm_rI rfl hM_u62
    · refine sm_gr hM_u62 (d := 168) rfl ?_
      refine sm_ai hM_u62 rfl e_l1 ?_; intro v69 y_v69 e_v69
      refine sm_is hM_u62 rfl ?_
      refine sm_cV (sf_X13_wrong nn rfl e_v69 hM_u62) ?_; intro u71 hM_u71
      exact sm_rI rfl hM_u71
set_option maxRecDepth 4000 in
theorem sj_X13_ruled_521 (nn : Nat) {frc : tg_X13_ruled} {rc : tq_X13_ruled} (hr : hg_X13_ruled frc rc) {l1 : Int32} {y_l1 : Int} (e_l1 : l1.toInt = y_l1) {s0 : Int32} {y_s0 : Int} (e_s0 : s0.toInt = y_s0) {s1 : Int32} {y_s1 : Int} (e_s1 : s1.toInt = y_s1) {h : ms_M} (hM_h : Rg_M h) : Sm_ RI_ (j_X13_ruled_521 nn frc 160 l1 s0 s1 (H_M h)) (qj_X13_ruled_521 nn rc y_l1 y_s0 y_s1 h) := by
  unfold j_X13_ruled_521 qj_X13_ruled_521
  refine sm_ne e_s1 e_s0 ?_ ?_
  · exact sj_X13_ruled_536 nn hr e_l1 hM_h
  · refine sm_gr hM_h (d := 168) rfl ?_
    refine sm_ai hM_h rfl e_l1 ?_; intro v75 y_v75 e_v75
    refine sm_is hM_h rfl ?_
    refine sm_cV (sf_X13_wrong nn rfl e_v75 hM_h) ?_; intro u77 hM_u77
    exact sj_X13_ruled_536 nn hr e_l1 hM_u77
set_option maxRecDepth 4000 in
theorem sj_X13_ruled_503 (nn : Nat) {frc : tg_X13_ruled} {rc : tq_X13_ruled} (hr : hg_X13_ruled frc rc) {l1 : Int32} {y_l1 : Int} (e_l1 : l1.toInt = y_l1) {s0 : Int32} {y_s0 : Int} (e_s0 : s0.toInt = y_s0) {h : ms_M} (hM_h : Rg_M h) : Sm_ RI_ (j_X13_ruled_503 nn frc 160 l1 s0 (H_M h)) (qj_X13_ruled_503 nn rc y_l1 y_s0 h) := by
  unfold j_X13_ruled_503 qj_X13_ruled_503
  refine sm_gr hM_h (d := 187) rfl ?_
  refine sm_gi hM_h rfl ?_; intro v80 e_v80
  refine sm_ai hM_h rfl e_v80 ?_; intro v81 y_v81 e_v81
  refine sm_eq e_v81 rfl ?_ ?_
  · exact sj_X13_ruled_521 nn hr e_l1 rfl e_s0 hM_h
  · exact sj_X13_ruled_521 nn hr e_l1 rfl e_s0 hM_h
set_option maxRecDepth 4000 in
theorem sj_X13_ruled_444 (nn : Nat) {frc : tg_X13_ruled} {rc : tq_X13_ruled} (hr : hg_X13_ruled frc rc) {l1 : Int32} {y_l1 : Int} (e_l1 : l1.toInt = y_l1) {h : ms_M} (hM_h : Rg_M h) : Sm_ RI_ (j_X13_ruled_444 nn frc 160 l1 (H_M h)) (qj_X13_ruled_444 nn rc y_l1 h) := by
  unfold j_X13_ruled_444 qj_X13_ruled_444
  refine sm_gi hM_h rfl ?_; intro v83 e_v83
  refine sm_ne e_v83 rfl ?_ ?_
  · refine sm_gr hM_h (d := 167) rfl ?_
    refine sm_ai hM_h rfl e_l1 ?_; intro v85 y_v85 e_v85
    refine sm_ne e_v85 rfl ?_ ?_
    · exact sm_rI rfl hM_h
    · refine sm_gr hM_h (d := 198) rfl ?_
      refine sm_gi hM_h rfl ?_; intro v87 e_v87
      refine sm_sz hM_h rfl e_v87 rfl ?_; intro h88 hM_h88
      exact sm_rI rfl hM_h88
  · refine sm_gr hM_h (d := 168) rfl ?_
    refine sm_ai hM_h rfl e_l1 ?_; intro v91 y_v91 e_v91
    refine sm_is hM_h rfl ?_
    refine sm_cV (sf_X13_wrong nn rfl e_v91 hM_h) ?_; intro u93 hM_u93
    exact sm_rI rfl hM_u93
set_option maxRecDepth 4000 in
theorem sj_X13_ruled_431 (nn : Nat) {frc : tg_X13_ruled} {rc : tq_X13_ruled} (hr : hg_X13_ruled frc rc) {l3 : Int32} {y_l3 : Int} (e_l3 : l3.toInt = y_l3) {s0 : Int32} {y_s0 : Int} (e_s0 : s0.toInt = y_s0) {s1 : Int32} {y_s1 : Int} (e_s1 : s1.toInt = y_s1) {h : ms_M} (hM_h : Rg_M h) : Sm_ RI_ (j_X13_ruled_431 nn frc 160 l3 s0 s1 176 (H_M h)) (qj_X13_ruled_431 nn rc y_l3 y_s0 y_s1 h) := by
  unfold j_X13_ruled_431 qj_X13_ruled_431
  refine sm_si hM_h rfl e_s1 e_s0 ?_; intro h95 hM_h95
  refine sm_gi hM_h95 rfl ?_; intro v96 e_v96
  refine sm_oq_sub e_v96 rfl ?_; intro v97 y_v97 e_v97
  refine sm_pv hM_h95 rfl e_v97 ?_; intro h98 hM_h98
  refine sm_bq e_l3 ?_
  exact sm_rI e_l3 hM_h98
set_option maxRecDepth 4000 in
theorem sj_X13_ruled_408 (nn : Nat) {frc : tg_X13_ruled} {rc : tq_X13_ruled} (hr : hg_X13_ruled frc rc) {l1 : Int32} {y_l1 : Int} (e_l1 : l1.toInt = y_l1) {s0 : Int32} {y_s0 : Int} (e_s0 : s0.toInt = y_s0) {h : ms_M} (hM_h : Rg_M h) : Sm_ RI_ (j_X13_ruled_408 nn frc 160 l1 s0 (H_M h)) (qj_X13_ruled_408 nn rc y_l1 y_s0 h) := by
  unfold j_X13_ruled_408 qj_X13_ruled_408
  refine sm_gr hM_h (d := 176) rfl ?_
  refine sm_gr hM_h (d := 198) rfl ?_
  refine sm_gi hM_h rfl ?_; intro v102 e_v102
  refine sm_ab hM_h rfl e_v102 ?_; intro v103 y_v103 e_v103
  refine sm_eq e_v103 rfl ?_ ?_
  · exact sj_X13_ruled_431 nn hr e_s0 rfl e_l1 hM_h
  · exact sj_X13_ruled_431 nn hr e_s0 rfl e_l1 hM_h
set_option maxRecDepth 4000 in
theorem sj_X13_ruled_403 (nn : Nat) {frc : tg_X13_ruled} {rc : tq_X13_ruled} (hr : hg_X13_ruled frc rc) {l1 : Int32} {y_l1 : Int} (e_l1 : l1.toInt = y_l1) {h : ms_M} (hM_h : Rg_M h) : Sm_ RI_ (j_X13_ruled_403 nn frc 160 l1 (H_M h)) (qj_X13_ruled_403 nn rc y_l1 h) := by
  unfold j_X13_ruled_403 qj_X13_ruled_403
  exact sj_X13_ruled_408 nn hr e_l1 rfl hM_h
set_option maxRecDepth 4000 in
theorem sj_X13_ruled_377 (nn : Nat) {frc : tg_X13_ruled} {rc : tq_X13_ruled} (hr : hg_X13_ruled frc rc) {l1 : Int32} {y_l1 : Int} (e_l1 : l1.toInt = y_l1) {l2 : Int32} {y_l2 : Int} (e_l2 : l2.toInt = y_l2) {h : ms_M} (hM_h : Rg_M h) : Sm_ RI_ (j_X13_ruled_377 nn frc 160 l1 l2 (H_M h)) (qj_X13_ruled_377 nn rc y_l1 y_l2 h) := by
  unfold j_X13_ruled_377 qj_X13_ruled_377
  refine sm_pv hM_h rfl e_l2 ?_; intro h105 hM_h105
  refine sm_gr hM_h105 (d := 175) rfl ?_
  refine sm_ai hM_h105 rfl e_l1 ?_; intro v107 y_v107 e_v107
  refine sm_eq e_v107 rfl ?_ ?_
  · exact sj_X13_ruled_403 nn hr e_l1 hM_h105
  · refine sm_gr hM_h105 (d := 198) rfl ?_
    refine sm_gi hM_h105 rfl ?_; intro v109 e_v109
    refine sm_ab hM_h105 rfl e_v109 ?_; intro v110 y_v110 e_v110
    refine sm_eq e_v110 rfl ?_ ?_
    · exact sj_X13_ruled_408 nn hr e_l1 rfl hM_h105
    · exact sj_X13_ruled_403 nn hr e_l1 hM_h105
set_option maxRecDepth 4000 in
theorem sj_X13_ruled_244 (nn : Nat) {frc : tg_X13_ruled} {rc : tq_X13_ruled} (hr : hg_X13_ruled frc rc) {l1 : Int32} {y_l1 : Int} (e_l1 : l1.toInt = y_l1) {l5 : Int32} {y_l5 : Int} (e_l5 : l5.toInt = y_l5) {h : ms_M} (hM_h : Rg_M h) : Sm_ RI_ (j_X13_ruled_244 nn frc 160 l1 l5 (H_M h)) (qj_X13_ruled_244 nn rc y_l1 y_l5 h) := by
  unfold j_X13_ruled_244 qj_X13_ruled_244
  refine sm_gr hM_h (d := 174) rfl ?_
  refine sm_si hM_h rfl e_l1 e_l5 ?_; intro h114 hM_h114
  refine sm_gr hM_h114 (d := 168) rfl ?_
  refine sm_ai hM_h114 rfl e_l1 ?_; intro v116 y_v116 e_v116
  refine sm_is hM_h114 rfl ?_
  refine sm_cV (sf_X13_come nn e_v116 e_l5 hM_h114) ?_; intro u118 hM_u118
  exact sm_rI rfl hM_u118
set_option maxRecDepth 4000 in
theorem sj_X13_ruled_209 (nn : Nat) {frc : tg_X13_ruled} {rc : tq_X13_ruled} (hr : hg_X13_ruled frc rc) {l1 : Int32} {y_l1 : Int} (e_l1 : l1.toInt = y_l1) {l5 : Int32} {y_l5 : Int} (e_l5 : l5.toInt = y_l5) {h : ms_M} (hM_h : Rg_M h) : Sm_ RI_ (j_X13_ruled_209 nn frc 160 l1 l5 (H_M h)) (qj_X13_ruled_209 nn rc y_l1 y_l5 h) := by
  unfold j_X13_ruled_209 qj_X13_ruled_209
  refine sm_gr hM_h (d := 170) rfl ?_
  refine sm_ai hM_h rfl e_l1 ?_; intro v120 y_v120 e_v120
  refine sm_is hM_h rfl ?_
  refine sm_cI (sf_X13_given nn e_v120 hM_h) ?_; intro u122 y_u122 M_u122 e_u122 hM_u122
  refine sm_is hM_u122 rfl ?_
  refine sm_cP (sf_X13_fits nn e_u122 e_l5 hM_u122) ?_; intro u124 y_u124 e_u124
  refine sm_ne e_u124 rfl ?_ ?_
  · exact sj_X13_ruled_244 nn hr e_l1 e_l5 hM_u122
  · refine sm_gr hM_u122 (d := 176) rfl ?_
    refine sm_ai hM_u122 rfl e_l1 ?_; intro v126 y_v126 e_v126
    refine sm_is hM_u122 rfl ?_
    refine sm_cV (sf_X13_wrong nn rfl e_v126 hM_u122) ?_; intro u128 hM_u128
    exact sj_X13_ruled_244 nn hr e_l1 e_l5 hM_u128
set_option maxRecDepth 4000 in
theorem sj_X13_ruled_179 (nn : Nat) {frc : tg_X13_ruled} {rc : tq_X13_ruled} (hr : hg_X13_ruled frc rc) {l1 : Int32} {y_l1 : Int} (e_l1 : l1.toInt = y_l1) {s0 : Int32} {y_s0 : Int} (e_s0 : s0.toInt = y_s0) {s1 : Int32} {y_s1 : Int} (e_s1 : s1.toInt = y_s1) {s2 : Int32} {y_s2 : Int} (e_s2 : s2.toInt = y_s2) {h : ms_M} (hM_h : Rg_M h) : Sm_ RI_ (j_X13_ruled_179 nn frc 160 l1 s0 s1 s2 160 (H_M h)) (qj_X13_ruled_179 nn rc y_l1 y_s0 y_s1 y_s2 h) := by
  unfold j_X13_ruled_179 qj_X13_ruled_179
  refine sm_is hM_h rfl ?_
  refine sm_cI (sf_X13_typeOf nn e_s2 e_s1 e_s0 hM_h) ?_; intro u131 y_u131 M_u131 e_u131 hM_u131
  refine sm_gr hM_u131 (d := 168) rfl ?_
  refine sm_ai hM_u131 rfl e_l1 ?_; intro v133 y_v133 e_v133
  refine sm_is hM_u131 rfl ?_
  refine sm_cP (sf_X13_sightOf nn e_v133 hM_u131) ?_; intro u135 y_u135 e_u135
  refine sm_eq e_u135 rfl ?_ ?_
  · exact sj_X13_ruled_209 nn hr e_l1 e_u131 hM_u131
  · refine sm_gr hM_u131 (d := 168) rfl ?_
    refine sm_ai hM_u131 rfl e_l1 ?_; intro v137 y_v137 e_v137
    refine sm_is hM_u131 rfl ?_
    refine sm_cV (sf_X13_wrong nn rfl e_v137 hM_u131) ?_; intro u139 hM_u139
    exact sj_X13_ruled_209 nn hr e_l1 e_u131 hM_u139
set_option maxRecDepth 4000 in
theorem sj_X13_ruled_140 (nn : Nat) {frc : tg_X13_ruled} {rc : tq_X13_ruled} (hr : hg_X13_ruled frc rc) {l2 : Int32} {y_l2 : Int} (e_l2 : l2.toInt = y_l2) {l3 : Int32} {y_l3 : Int} (e_l3 : l3.toInt = y_l3) {h : ms_M} (hM_h : Rg_M h) : Sm_ RI_ (j_X13_ruled_140 nn frc 160 l2 l3 (H_M h)) (qj_X13_ruled_140 nn rc y_l2 y_l3 h) := by
  unfold j_X13_ruled_140 qj_X13_ruled_140
  refine sm_pv hM_h rfl e_l2 ?_; intro h141 hM_h141
  refine sm_bq e_l3 ?_
  exact sm_rI e_l3 hM_h141
set_option maxRecDepth 4000 in
theorem sj_X13_ruled_128 (nn : Nat) {frc : tg_X13_ruled} {rc : tq_X13_ruled} (hr : hg_X13_ruled frc rc) {kk_88 : Nat → Int32 → Int32 → Int32 → mx_H → Option (Int32 × mx_H)} {qkk_88 : Int → Int → Int → ms_M → Option (Int × ms_M)} (hk_kk_88 : ∀ {l2 : Int32} {y_l2 : Int} (e_l2 : l2.toInt = y_l2) {l3 : Int32} {y_l3 : Int} (e_l3 : l3.toInt = y_l3) {l6 : Int32} {y_l6 : Int} (e_l6 : l6.toInt = y_l6) {h : ms_M} (hM_h : Rg_M h), Sm_ RI_ (kk_88 160 l2 l3 l6 (H_M h)) (qkk_88 y_l2 y_l3 y_l6 h)) {l2 : Int32} {y_l2 : Int} (e_l2 : l2.toInt = y_l2) {l3 : Int32} {y_l3 : Int} (e_l3 : l3.toInt = y_l3) {l6 : Int32} {y_l6 : Int} (e_l6 : l6.toInt = y_l6) {h : ms_M} (hM_h : Rg_M h) : Sm_ RI_ (j_X13_ruled_128 nn frc kk_88 160 l2 l3 l6 (H_M h)) (qj_X13_ruled_128 nn rc qkk_88 y_l2 y_l3 y_l6 h) := by
  unfold j_X13_ruled_128 qj_X13_ruled_128
  refine sm_gr hM_h (d := 173) rfl ?_
  refine sm_ai hM_h rfl e_l6 ?_; intro v144 y_v144 e_v144
  exact hk_kk_88 e_l2 e_l3 e_v144 hM_h
set_option maxRecDepth 4000 in
theorem sw_X13_ruled_88 (nn : Nat) {frc : tg_X13_ruled} {rc : tq_X13_ruled} (hr : hg_X13_ruled frc rc) : ∀ (k : Nat) {l2 : Int32} {y_l2 : Int} (e_l2 : l2.toInt = y_l2) {l3 : Int32} {y_l3 : Int} (e_l3 : l3.toInt = y_l3) {l6 : Int32} {y_l6 : Int} (e_l6 : l6.toInt = y_l6) {h : ms_M} (hM_h : Rg_M h), Sm_ RI_ (w_X13_ruled_88 nn frc k 160 l2 l3 l6 (H_M h)) (qw_X13_ruled_88 nn rc k y_l2 y_l3 y_l6 h) := by
  intro k
  induction k with
  | zero => intros; exact sm_no
  | succ k ih =>
    intro l2 y_l2 e_l2 l3 y_l3 e_l3 l6 y_l6 e_l6 h hM_h
    unfold w_X13_ruled_88 qw_X13_ruled_88
    refine sm_eq e_l6 rfl ?_ ?_
    · exact sj_X13_ruled_140 nn hr e_l2 e_l3 hM_h
    · refine sm_gi hM_h rfl ?_; intro v145 e_v145
      refine sm_ne e_v145 rfl ?_ ?_
      · exact sj_X13_ruled_140 nn hr e_l2 e_l3 hM_h
      · refine sm_ne e_l3 rfl ?_ ?_
        · refine sm_is hM_h rfl ?_
          refine sm_cI (hr e_l6 hM_h) ?_; intro u147 y_u147 M_u147 e_u147 hM_u147
          exact sj_X13_ruled_128 nn hr ih e_l2 e_u147 e_l6 hM_u147
        · refine sm_gr hM_h (d := 169) rfl ?_
          refine sm_ai hM_h rfl e_l6 ?_; intro v149 y_v149 e_v149
          refine sm_is hM_h rfl ?_
          refine sm_cV (sf_X13_wrong nn rfl e_v149 hM_h) ?_; intro u151 hM_u151
          exact sj_X13_ruled_128 nn hr ih e_l2 e_l3 e_l6 hM_u151
set_option maxRecDepth 4000 in
theorem so_X13_ruled (nn : Nat) {frc : tg_X13_ruled} {rc : tq_X13_ruled} (hr : hg_X13_ruled frc rc) {a1 : Int32} {y_a1 : Int} (e_a1 : a1.toInt = y_a1) {h : ms_M} (hM_h : Rg_M h) : Sm_ RI_ (o_X13_ruled nn frc 160 a1 (H_M h)) (qo_X13_ruled nn rc y_a1 h) := by
  unfold o_X13_ruled qo_X13_ruled
  refine sm_gi hM_h rfl ?_; intro v155 e_v155
  refine sm_eq e_v155 rfl ?_ ?_
  · refine sm_gi hM_h rfl ?_; intro v156 e_v156
    refine sm_gr hM_h (d := 167) rfl ?_
    refine sm_ai hM_h rfl e_a1 ?_; intro v158 y_v158 e_v158
    refine sm_eq e_v158 rfl ?_ ?_
    · refine sm_gr hM_h (d := 170) rfl ?_
      refine sm_ai hM_h rfl e_a1 ?_; intro v176 y_v176 e_v176
      exact sw_X13_ruled_88 nn hr nn e_v156 rfl e_v176 hM_h
    · refine sm_eq e_v158 rfl ?_ ?_
      · refine sm_gr hM_h (d := 175) rfl ?_
        refine sm_ai hM_h rfl e_a1 ?_; intro v178 y_v178 e_v178
        refine sm_gr hM_h (d := 172) rfl ?_
        refine sm_ai hM_h rfl e_a1 ?_; intro v180 y_v180 e_v180
        refine sm_div e_v180 ⟨rfl, by decide⟩ ?_; intro v181 y_v181 e_v181
        refine sm_gr hM_h (d := 172) rfl ?_
        refine sm_ai hM_h rfl e_a1 ?_; intro v183 y_v183 e_v183
        refine sm_rem e_v183 ⟨rfl, by decide⟩ ?_; intro v184 y_v184 e_v184
        refine sm_ne e_v184 rfl ?_ ?_
        · exact sj_X13_ruled_179 nn hr e_a1 rfl e_v181 e_v178 hM_h
        · exact sj_X13_ruled_179 nn hr e_a1 rfl e_v181 e_v178 hM_h
      · refine sm_eq e_v158 rfl ?_ ?_
        · refine sm_gr hM_h (d := 170) rfl ?_
          refine sm_ai hM_h rfl e_a1 ?_; intro v187 y_v187 e_v187
          refine sm_is hM_h rfl ?_
          refine sm_cV (sf_X13_condition nn e_v187 hM_h) ?_; intro u189 hM_u189
          refine sm_gr hM_u189 (d := 171) rfl ?_
          refine sm_ai hM_u189 rfl e_a1 ?_; intro v191 y_v191 e_v191
          refine sm_is hM_u189 rfl ?_
          refine sm_cI (hr e_v191 hM_u189) ?_; intro u193 y_u193 M_u193 e_u193 hM_u193
          refine sm_pv hM_u193 rfl e_v156 ?_; intro h194 hM_h194
          refine sm_gr hM_h194 (d := 172) rfl ?_
          refine sm_ai hM_h194 rfl e_a1 ?_; intro v196 y_v196 e_v196
          refine sm_ne e_v196 rfl ?_ ?_
          · refine sm_gr hM_h194 (d := 172) rfl ?_
            refine sm_ai hM_h194 rfl e_a1 ?_; intro v198 y_v198 e_v198
            refine sm_is hM_h194 rfl ?_
            refine sm_cI (hr e_v198 hM_h194) ?_; intro u200 y_u200 M_u200 e_u200 hM_u200
            refine sm_pv hM_u200 rfl e_v156 ?_; intro h201 hM_h201
            refine sm_ne e_u193 rfl ?_ ?_
            · exact sm_rI rfl hM_h201
            · refine sm_eq e_u200 rfl ?_ ?_
              · exact sm_rI rfl hM_h201
              · exact sm_rI rfl hM_h201
          · exact sm_rI rfl hM_h194
        · refine sm_eq e_v158 rfl ?_ ?_
          · refine sm_gr hM_h (d := 170) rfl ?_
            refine sm_ai hM_h rfl e_a1 ?_; intro v206 y_v206 e_v206
            refine sm_is hM_h rfl ?_
            refine sm_cV (sf_X13_condition nn e_v206 hM_h) ?_; intro u208 hM_u208
            refine sm_gi hM_u208 rfl ?_; intro v209 e_v209
            refine sm_oq_add e_v209 rfl ?_; intro v210 y_v210 e_v210
            refine sm_pv hM_u208 rfl e_v210 ?_; intro h211 hM_h211
            refine sm_gr hM_h211 (d := 198) rfl ?_
            refine sm_gi hM_h211 rfl ?_; intro v213 e_v213
            refine sm_sz hM_h211 rfl e_v213 rfl ?_; intro h214 hM_h214
            refine sm_gr hM_h214 (d := 171) rfl ?_
            refine sm_ai hM_h214 rfl e_a1 ?_; intro v216 y_v216 e_v216
            refine sm_is hM_h214 rfl ?_
            refine sm_cI (hr e_v216 hM_h214) ?_; intro u218 y_u218 M_u218 e_u218 hM_u218
            exact sj_X13_ruled_377 nn hr e_a1 e_v156 hM_u218
          · refine sm_eq e_v158 rfl ?_ ?_
            · exact sj_X13_ruled_444 nn hr e_a1 hM_h
            · refine sm_eq e_v158 rfl ?_ ?_
              · exact sj_X13_ruled_444 nn hr e_a1 hM_h
              · refine sm_eq e_v158 rfl ?_ ?_
                · refine sm_gr hM_h (d := 170) rfl ?_
                  refine sm_ai hM_h rfl e_a1 ?_; intro v220 y_v220 e_v220
                  refine sm_ne e_v220 rfl ?_ ?_
                  · exact sj_X13_ruled_503 nn hr e_a1 rfl hM_h
                  · exact sj_X13_ruled_503 nn hr e_a1 rfl hM_h
                · refine sm_eq e_v158 rfl ?_ ?_
                  · refine sm_gr hM_h (d := 170) rfl ?_
                    refine sm_ai hM_h rfl e_a1 ?_; intro v223 y_v223 e_v223
                    refine sm_is hM_h rfl ?_
                    refine sm_cI (sf_X13_given nn e_v223 hM_h) ?_; intro u225 y_u225 M_u225 e_u225 hM_u225
                    refine sm_cP (sf_X13_isThing nn e_u225 hM_u225) ?_; intro u226 y_u226 e_u226
                    refine sm_eq e_u226 rfl ?_ ?_
                    · exact sj_X13_ruled_617 nn hr e_a1 hM_u225
                    · refine sm_is hM_u225 rfl ?_
                      refine sm_cP (sf_X13_fits nn e_u225 rfl hM_u225) ?_; intro u228 y_u228 e_u228
                      refine sm_ne e_u228 rfl ?_ ?_
                      · exact sm_rI rfl hM_u225
                      · exact sj_X13_ruled_617 nn hr e_a1 hM_u225
                  · refine sm_eq e_v158 rfl ?_ ?_
                    · refine sm_gr hM_h (d := 170) rfl ?_
                      refine sm_ai hM_h rfl e_a1 ?_; intro v232 y_v232 e_v232
                      refine sm_is hM_h rfl ?_
                      refine sm_cI (hr e_v232 hM_h) ?_; intro u234 y_u234 M_u234 e_u234 hM_u234
                      refine sm_gr hM_u234 (d := 168) rfl ?_
                      refine sm_ai hM_u234 rfl e_a1 ?_; intro v236 y_v236 e_v236
                      refine sm_is hM_u234 rfl ?_
                      refine sm_cI (sf_X13_typeOf nn rfl e_v236 rfl hM_u234) ?_; intro u238 y_u238 M_u238 e_u238 hM_u238
                      refine sm_is hM_u238 rfl ?_
                      refine sm_cP (sf_X13_fits nn e_u238 rfl hM_u238) ?_; intro u240 y_u240 e_u240
                      refine sm_ne e_u240 rfl ?_ ?_
                      · exact sj_X13_ruled_679 nn hr e_a1 e_v156 e_u234 e_u238 hM_u238
                      · refine sm_gr hM_u238 (d := 168) rfl ?_
                        refine sm_ai hM_u238 rfl e_a1 ?_; intro v242 y_v242 e_v242
                        refine sm_is hM_u238 rfl ?_
                        refine sm_cV (sf_X13_wrong nn rfl e_v242 hM_u238) ?_; intro u244 hM_u244
                        exact sj_X13_ruled_679 nn hr e_a1 e_v156 e_u234 e_u238 hM_u244
                    · refine sm_eq e_v158 rfl ?_ ?_
                      · refine sm_gr hM_h (d := 170) rfl ?_
                        refine sm_ai hM_h rfl e_a1 ?_; intro v247 y_v247 e_v247
                        refine sm_is hM_h rfl ?_
                        refine sm_cI (sf_X13_given nn e_v247 hM_h) ?_; intro u249 y_u249 M_u249 e_u249 hM_u249
                        refine sm_le e_u249 rfl ?_ ?_
                        · exact sm_rI rfl hM_u249
                        · refine sm_gr hM_u249 (d := 168) rfl ?_
                          refine sm_ai hM_u249 rfl e_a1 ?_; intro v251 y_v251 e_v251
                          refine sm_is hM_u249 rfl ?_
                          refine sm_cV (sf_X13_wrong nn rfl e_v251 hM_u249) ?_; intro u253 hM_u253
                          exact sm_rI rfl hM_u253
                      · refine sm_eq e_v158 rfl ?_ ?_
                        · refine sm_gr hM_h (d := 174) rfl ?_
                          refine sm_gr hM_h (d := 177) rfl ?_
                          refine sm_gr hM_h (d := 170) rfl ?_
                          refine sm_ai hM_h rfl e_a1 ?_; intro v258 y_v258 e_v258
                          refine sm_ab hM_h rfl e_v258 ?_; intro v259 y_v259 e_v259
                          refine sm_eq e_v259 rfl ?_ ?_
                          · refine sm_gr hM_h (d := 170) rfl ?_
                            refine sm_ai hM_h rfl e_a1 ?_; intro v261 y_v261 e_v261
                            refine sm_is hM_h rfl ?_
                            refine sm_cI (sf_X13_worked nn e_v261 hM_h) ?_; intro u263 y_u263 M_u263 e_u263 hM_u263
                            exact sj_X13_ruled_840 nn hr e_a1 e_u263 e_a1 hM_u263
                          · refine sm_gr hM_h (d := 170) rfl ?_
                            refine sm_ai hM_h rfl e_a1 ?_; intro v265 y_v265 e_v265
                            refine sm_is hM_h rfl ?_
                            refine sm_cI (sf_X13_given nn e_v265 hM_h) ?_; intro u267 y_u267 M_u267 e_u267 hM_u267
                            exact sj_X13_ruled_840 nn hr e_a1 e_u267 e_a1 hM_u267
                        · refine sm_gr hM_h (d := 170) rfl ?_
                          refine sm_ai hM_h rfl e_a1 ?_; intro v160 y_v160 e_v160
                          refine sm_is hM_h rfl ?_
                          refine sm_cI (sf_X13_given nn e_v160 hM_h) ?_; intro u162 y_u162 M_u162 e_u162 hM_u162
                          refine sm_gr hM_u162 (d := 171) rfl ?_
                          refine sm_ai hM_u162 rfl e_a1 ?_; intro v164 y_v164 e_v164
                          refine sm_is hM_u162 rfl ?_
                          refine sm_cI (sf_X13_given nn e_v164 hM_u162) ?_; intro u166 y_u166 M_u166 e_u166 hM_u166
                          refine sm_gr hM_u166 (d := 170) rfl ?_
                          refine sm_ai hM_u166 rfl e_a1 ?_; intro v168 y_v168 e_v168
                          refine sm_is hM_u166 rfl ?_
                          refine sm_cP (sf_X13_canTake nn e_v168 hM_u166) ?_; intro u170 y_u170 e_u170
                          refine sm_eq e_u170 rfl ?_ ?_
                          · exact sj_X13_ruled_954 nn hr e_a1 hM_u166
                          · refine sm_is hM_u166 rfl ?_
                            refine sm_cP (sf_X13_fits nn e_u166 e_u162 hM_u166) ?_; intro u172 y_u172 e_u172
                            refine sm_ne e_u172 rfl ?_ ?_
                            · exact sm_rI rfl hM_u166
                            · exact sj_X13_ruled_954 nn hr e_a1 hM_u166
  · exact sm_rI rfl hM_h
set_option maxRecDepth 4000 in
theorem sg_X13_ruled (nn : Nat) : ∀ d, hg_X13_ruled (g_X13_ruled nn d) (qg_X13_ruled nn d) := by
  intro d
  induction d with
  | zero => unfold hg_X13_ruled; intros; exact sm_no
  | succ d ih => exact so_X13_ruled nn ih
set_option maxRecDepth 4000 in
theorem sf_X13_ruled (nn : Nat) {a1 : Int32} {y_a1 : Int} (e_a1 : a1.toInt = y_a1) {h : ms_M} (hM_h : Rg_M h) : Sm_ RI_ (f_X13_ruled nn 160 a1 (H_M h)) (qf_X13_ruled nn y_a1 h) := (sg_X13_ruled nn 200) e_a1 hM_h
set_option maxRecDepth 4000 in
theorem sw_X13_bodies_83 (nn : Nat) {kk_2 : Nat → Int32 → mx_H → Option mx_H} {qkk_2 : Int → ms_M → Option ms_M} (hk_kk_2 : ∀ {l1 : Int32} {y_l1 : Int} (e_l1 : l1.toInt = y_l1) {h : ms_M} (hM_h : Rg_M h), Sm_ RV_ (kk_2 160 l1 (H_M h)) (qkk_2 y_l1 h)) : ∀ (k : Nat) {l1 : Int32} {y_l1 : Int} (e_l1 : l1.toInt = y_l1) {l2 : Int32} {y_l2 : Int} (e_l2 : l2.toInt = y_l2) {h : ms_M} (hM_h : Rg_M h), Sm_ RV_ (w_X13_bodies_83 nn kk_2 k 160 l1 l2 (H_M h)) (qw_X13_bodies_83 nn qkk_2 k y_l1 y_l2 h) := by
  intro k
  induction k with
  | zero => intros; exact sm_no
  | succ k ih =>
    intro l1 y_l1 e_l1 l2 y_l2 e_l2 h hM_h
    unfold w_X13_bodies_83 qw_X13_bodies_83
    refine sm_gr hM_h (d := 189) rfl ?_
    refine sm_ai hM_h rfl e_l1 ?_; intro v2 y_v2 e_v2
    refine sm_le e_v2 e_l2 ?_ ?_
    · refine sm_gr hM_h (d := 190) rfl ?_
      refine sm_ai hM_h rfl e_l1 ?_; intro v4 y_v4 e_v4
      refine sm_is hM_h rfl ?_
      refine sm_cI (sf_X13_ruled nn e_v4 hM_h) ?_; intro u6 y_u6 M_u6 e_u6 hM_u6
      refine sm_eq e_u6 rfl ?_ ?_
      · refine sm_oq_add e_l1 rfl ?_; intro v7 y_v7 e_v7
        exact hk_kk_2 e_v7 hM_u6
      · refine sm_gr hM_u6 (d := 187) rfl ?_
        refine sm_ai hM_u6 rfl e_l1 ?_; intro v9 y_v9 e_v9
        refine sm_eq e_v9 rfl ?_ ?_
        · refine sm_oq_add e_l1 rfl ?_; intro v10 y_v10 e_v10
          exact hk_kk_2 e_v10 hM_u6
        · refine sm_gr hM_u6 (d := 186) rfl ?_
          refine sm_ai hM_u6 rfl e_l1 ?_; intro v12 y_v12 e_v12
          refine sm_is hM_u6 rfl ?_
          refine sm_cV (sf_X13_wrong nn rfl e_v12 hM_u6) ?_; intro u14 hM_u14
          refine sm_oq_add e_l1 rfl ?_; intro v15 y_v15 e_v15
          exact hk_kk_2 e_v15 hM_u14
    · refine sm_gr hM_h (d := 194) rfl ?_
      refine sm_gr hM_h (d := 188) rfl ?_
      refine sm_ai hM_h rfl e_l1 ?_; intro v20 y_v20 e_v20
      refine sm_oq_add e_v20 e_l2 ?_; intro v21 y_v21 e_v21
      refine sm_ai hM_h rfl e_v21 ?_; intro v22 y_v22 e_v22
      refine sm_gr hM_h (d := 195) rfl ?_
      refine sm_gr hM_h (d := 188) rfl ?_
      refine sm_ai hM_h rfl e_l1 ?_; intro v25 y_v25 e_v25
      refine sm_oq_add e_v25 e_l2 ?_; intro v26 y_v26 e_v26
      refine sm_ai hM_h rfl e_v26 ?_; intro v27 y_v27 e_v27
      refine sm_is hM_h rfl ?_
      refine sm_cV (sf_X13_come nn e_v22 e_v27 hM_h) ?_; intro u29 hM_u29
      refine sm_oq_add e_l2 rfl ?_; intro v30 y_v30 e_v30
      exact ih e_l1 e_v30 hM_u29
set_option maxRecDepth 4000 in
theorem sj_X13_bodies_63 (nn : Nat) {kk_2 : Nat → Int32 → mx_H → Option mx_H} {qkk_2 : Int → ms_M → Option ms_M} (hk_kk_2 : ∀ {l1 : Int32} {y_l1 : Int} (e_l1 : l1.toInt = y_l1) {h : ms_M} (hM_h : Rg_M h), Sm_ RV_ (kk_2 160 l1 (H_M h)) (qkk_2 y_l1 h)) {l1 : Int32} {y_l1 : Int} (e_l1 : l1.toInt = y_l1) {s0 : Int32} {y_s0 : Int} (e_s0 : s0.toInt = y_s0) {h : ms_M} (hM_h : Rg_M h) : Sm_ RV_ (j_X13_bodies_63 nn kk_2 160 l1 s0 160 (H_M h)) (qj_X13_bodies_63 nn qkk_2 y_l1 y_s0 h) := by
  unfold j_X13_bodies_63 qj_X13_bodies_63
  refine sm_bq e_s0 ?_
  refine sm_pv hM_h rfl e_s0 ?_; intro h33 hM_h33
  refine sm_pv hM_h33 rfl rfl ?_; intro h34 hM_h34
  refine sm_pv hM_h34 rfl rfl ?_; intro h35 hM_h35
  refine sm_pv hM_h35 rfl rfl ?_; intro h36 hM_h36
  exact sw_X13_bodies_83 nn hk_kk_2 nn e_l1 rfl hM_h36
set_option maxRecDepth 4000 in
theorem sw_X13_bodies_2 (nn : Nat) : ∀ (k : Nat) {l1 : Int32} {y_l1 : Int} (e_l1 : l1.toInt = y_l1) {h : ms_M} (hM_h : Rg_M h), Sm_ RV_ (w_X13_bodies_2 nn k 160 l1 (H_M h)) (qw_X13_bodies_2 nn k y_l1 h) := by
  intro k
  induction k with
  | zero => intros; exact sm_no
  | succ k ih =>
    intro l1 y_l1 e_l1 h hM_h
    unfold w_X13_bodies_2 qw_X13_bodies_2
    refine sm_gi hM_h rfl ?_; intro v37 e_v37
    refine sm_le e_v37 e_l1 ?_ ?_
    · exact sm_rV hM_h
    · refine sm_gi hM_h rfl ?_; intro v38 e_v38
      refine sm_ne e_v38 rfl ?_ ?_
      · exact sm_rV hM_h
      · refine sm_gr hM_h (d := 182) rfl ?_
        refine sm_ai hM_h rfl e_l1 ?_; intro v40 y_v40 e_v40
        refine sm_ne e_v40 rfl ?_ ?_
        · refine sm_pv hM_h rfl e_l1 ?_; intro h41 hM_h41
          refine sm_gr hM_h41 (d := 181) rfl ?_
          refine sm_ai hM_h41 rfl e_l1 ?_; intro v43 y_v43 e_v43
          refine sm_oq_add rfl e_v43 ?_; intro v44 y_v44 e_v44
          refine sm_pv hM_h41 rfl e_v44 ?_; intro h45 hM_h45
          refine sm_gr hM_h45 (d := 182) rfl ?_
          refine sm_ai hM_h45 rfl e_l1 ?_; intro v47 y_v47 e_v47
          refine sm_ne e_v47 rfl ?_ ?_
          · exact sj_X13_bodies_63 nn ih e_l1 rfl hM_h45
          · exact sj_X13_bodies_63 nn ih e_l1 rfl hM_h45
        · refine sm_oq_add e_l1 rfl ?_; intro v49 y_v49 e_v49
          exact ih e_v49 hM_h
set_option maxRecDepth 4000 in
theorem sf_X13_bodies (nn : Nat) {h : ms_M} (hM_h : Rg_M h) : Sm_ RV_ (f_X13_bodies nn 160 (H_M h)) (qf_X13_bodies nn h) := by
  unfold f_X13_bodies qf_X13_bodies
  exact sw_X13_bodies_2 nn nn rfl hM_h
set_option maxRecDepth 4000 in
theorem sw_X13_memberHead_239 (nn : Nat) {kk_157 : Nat → Int32 → Int32 → mx_H → Option mx_H} {qkk_157 : Int → Int → ms_M → Option ms_M} (hk_kk_157 : ∀ {l1 : Int32} {y_l1 : Int} (e_l1 : l1.toInt = y_l1) {l4 : Int32} {y_l4 : Int} (e_l4 : l4.toInt = y_l4) {h : ms_M} (hM_h : Rg_M h), Sm_ RV_ (kk_157 160 l1 l4 (H_M h)) (qkk_157 y_l1 y_l4 h)) : ∀ (k : Nat) {l1 : Int32} {y_l1 : Int} (e_l1 : l1.toInt = y_l1) {l4 : Int32} {y_l4 : Int} (e_l4 : l4.toInt = y_l4) {l5 : Int32} {y_l5 : Int} (e_l5 : l5.toInt = y_l5) {l6 : Int32} {y_l6 : Int} (e_l6 : l6.toInt = y_l6) {h : ms_M} (hM_h : Rg_M h), Sm_ RV_ (w_X13_memberHead_239 nn kk_157 k 160 l1 l4 l5 l6 (H_M h)) (qw_X13_memberHead_239 nn qkk_157 k y_l1 y_l4 y_l5 y_l6 h) := by
  intro k
  induction k with
  | zero => intros; exact sm_no
  | succ k ih =>
    intro l1 y_l1 e_l1 l4 y_l4 e_l4 l5 y_l5 e_l5 l6 y_l6 e_l6 h hM_h
    unfold w_X13_memberHead_239 qw_X13_memberHead_239
    refine sm_le e_l5 e_l6 ?_ ?_
    · refine sm_oq_add e_l4 rfl ?_; intro v1 y_v1 e_v1
      exact hk_kk_157 e_l1 e_v1 hM_h
    · refine sm_gr hM_h (d := 194) rfl ?_
      refine sm_ai hM_h rfl e_l6 ?_; intro v3 y_v3 e_v3
      refine sm_gr hM_h (d := 194) rfl ?_
      refine sm_ai hM_h rfl e_l5 ?_; intro v5 y_v5 e_v5
      refine sm_is hM_h rfl ?_
      refine sm_cP (sf_X13_isLike nn e_v3 e_v5 hM_h) ?_; intro u7 y_u7 e_u7
      refine sm_eq e_u7 rfl ?_ ?_
      · refine sm_oq_add e_l6 rfl ?_; intro v8 y_v8 e_v8
        exact ih e_l1 e_l4 e_l5 e_v8 hM_h
      · refine sm_gr hM_h (d := 194) rfl ?_
        refine sm_ai hM_h rfl e_l5 ?_; intro v10 y_v10 e_v10
        refine sm_is hM_h rfl ?_
        refine sm_cV (sf_X13_wrong nn rfl e_v10 hM_h) ?_; intro u12 hM_u12
        refine sm_oq_add e_l6 rfl ?_; intro v13 y_v13 e_v13
        exact ih e_l1 e_l4 e_l5 e_v13 hM_u12
set_option maxRecDepth 4000 in
theorem sj_X13_memberHead_231 (nn : Nat) {kk_157 : Nat → Int32 → Int32 → mx_H → Option mx_H} {qkk_157 : Int → Int → ms_M → Option ms_M} (hk_kk_157 : ∀ {l1 : Int32} {y_l1 : Int} (e_l1 : l1.toInt = y_l1) {l4 : Int32} {y_l4 : Int} (e_l4 : l4.toInt = y_l4) {h : ms_M} (hM_h : Rg_M h), Sm_ RV_ (kk_157 160 l1 l4 (H_M h)) (qkk_157 y_l1 y_l4 h)) {l1 : Int32} {y_l1 : Int} (e_l1 : l1.toInt = y_l1) {l4 : Int32} {y_l4 : Int} (e_l4 : l4.toInt = y_l4) {l5 : Int32} {y_l5 : Int} (e_l5 : l5.toInt = y_l5) {h : ms_M} (hM_h : Rg_M h) : Sm_ RV_ (j_X13_memberHead_231 nn kk_157 160 l1 l4 l5 (H_M h)) (qj_X13_memberHead_231 nn qkk_157 y_l1 y_l4 y_l5 h) := by
  unfold j_X13_memberHead_231 qj_X13_memberHead_231
  refine sm_gr hM_h (d := 188) rfl ?_
  refine sm_ai hM_h rfl e_l1 ?_; intro v17 y_v17 e_v17
  exact sw_X13_memberHead_239 nn hk_kk_157 nn e_l1 e_l4 e_l5 e_v17 hM_h
set_option maxRecDepth 4000 in
theorem sw_X13_memberHead_157 (nn : Nat) : ∀ (k : Nat) {l1 : Int32} {y_l1 : Int} (e_l1 : l1.toInt = y_l1) {l4 : Int32} {y_l4 : Int} (e_l4 : l4.toInt = y_l4) {h : ms_M} (hM_h : Rg_M h), Sm_ RV_ (w_X13_memberHead_157 nn k 160 l1 l4 (H_M h)) (qw_X13_memberHead_157 nn k y_l1 y_l4 h) := by
  intro k
  induction k with
  | zero => intros; exact sm_no
  | succ k ih =>
    intro l1 y_l1 e_l1 l4 y_l4 e_l4 h hM_h
    unfold w_X13_memberHead_157 qw_X13_memberHead_157
    refine sm_gr hM_h (d := 189) rfl ?_
    refine sm_ai hM_h rfl e_l1 ?_; intro v19 y_v19 e_v19
    refine sm_le e_v19 e_l4 ?_ ?_
    · exact sm_rV hM_h
    · refine sm_gr hM_h (d := 188) rfl ?_
      refine sm_ai hM_h rfl e_l1 ?_; intro v21 y_v21 e_v21
      refine sm_oq_add e_v21 e_l4 ?_; intro v22 y_v22 e_v22
      refine sm_gr hM_h (d := 195) rfl ?_
      refine sm_gr hM_h (d := 191) rfl ?_
      refine sm_ai hM_h rfl e_v22 ?_; intro v25 y_v25 e_v25
      refine sm_gr hM_h (d := 192) rfl ?_
      refine sm_ai hM_h rfl e_v22 ?_; intro v27 y_v27 e_v27
      refine sm_gr hM_h (d := 193) rfl ?_
      refine sm_ab hM_h rfl e_v22 ?_; intro v29 y_v29 e_v29
      refine sm_is hM_h rfl ?_
      refine sm_cI (sf_X13_typeOf nn e_v25 e_v27 e_v29 hM_h) ?_; intro u31 y_u31 M_u31 e_u31 hM_u31
      refine sm_si hM_u31 rfl e_v22 e_u31 ?_; intro h32 hM_h32
      refine sm_ne e_l4 rfl ?_ ?_
      · exact sj_X13_memberHead_231 nn ih e_l1 e_l4 e_v22 hM_h32
      · refine sm_gr hM_h32 (d := 194) rfl ?_
        refine sm_ai hM_h32 rfl e_v22 ?_; intro v34 y_v34 e_v34
        refine sm_is hM_h32 rfl ?_
        refine sm_cV (sf_X13_wrong nn rfl e_v34 hM_h32) ?_; intro u36 hM_u36
        exact sj_X13_memberHead_231 nn ih e_l1 e_l4 e_v22 hM_u36
set_option maxRecDepth 4000 in
theorem sj_X13_memberHead_139 (nn : Nat) {l1 : Int32} {y_l1 : Int} (e_l1 : l1.toInt = y_l1) {l3 : Int32} {y_l3 : Int} (e_l3 : l3.toInt = y_l3) {h : ms_M} (hM_h : Rg_M h) : Sm_ RV_ (j_X13_memberHead_139 nn 160 l1 l3 (H_M h)) (qj_X13_memberHead_139 nn y_l1 y_l3 h) := by
  unfold j_X13_memberHead_139 qj_X13_memberHead_139
  refine sm_eq e_l3 rfl ?_ ?_
  · exact sw_X13_memberHead_157 nn nn e_l1 rfl hM_h
  · refine sm_gr hM_h (d := 186) rfl ?_
    refine sm_ai hM_h rfl e_l1 ?_; intro v40 y_v40 e_v40
    refine sm_is hM_h rfl ?_
    refine sm_cV (sf_X13_wrong nn rfl e_v40 hM_h) ?_; intro u42 hM_u42
    exact sw_X13_memberHead_157 nn nn e_l1 rfl hM_u42
set_option maxRecDepth 4000 in
theorem sj_X13_memberHead_86 (nn : Nat) {kk_35 : Nat → Int32 → Int32 → Int32 → Int32 → mx_H → Option mx_H} {qkk_35 : Int → Int → Int → Int → ms_M → Option ms_M} (hk_kk_35 : ∀ {l1 : Int32} {y_l1 : Int} (e_l1 : l1.toInt = y_l1) {l2 : Int32} {y_l2 : Int} (e_l2 : l2.toInt = y_l2) {l3 : Int32} {y_l3 : Int} (e_l3 : l3.toInt = y_l3) {l4 : Int32} {y_l4 : Int} (e_l4 : l4.toInt = y_l4) {h : ms_M} (hM_h : Rg_M h), Sm_ RV_ (kk_35 160 l1 l2 l3 l4 (H_M h)) (qkk_35 y_l1 y_l2 y_l3 y_l4 h)) {l1 : Int32} {y_l1 : Int} (e_l1 : l1.toInt = y_l1) {l2 : Int32} {y_l2 : Int} (e_l2 : l2.toInt = y_l2) {l3 : Int32} {y_l3 : Int} (e_l3 : l3.toInt = y_l3) {l4 : Int32} {y_l4 : Int} (e_l4 : l4.toInt = y_l4) {s0 : Int32} {y_s0 : Int} (e_s0 : s0.toInt = y_s0) {s1 : Int32} {y_s1 : Int} (e_s1 : s1.toInt = y_s1) {h : ms_M} (hM_h : Rg_M h) : Sm_ RV_ (j_X13_memberHead_86 nn kk_35 160 l1 l2 l3 l4 s0 s1 (H_M h)) (qj_X13_memberHead_86 nn qkk_35 y_l1 y_l2 y_l3 y_l4 y_s0 y_s1 h) := by
  unfold j_X13_memberHead_86 qj_X13_memberHead_86
  refine sm_eq e_s1 e_s0 ?_ ?_
  · refine sm_oq_add e_l2 rfl ?_; intro v44 y_v44 e_v44
    refine sm_gr hM_h (d := 186) rfl ?_
    refine sm_ai hM_h rfl e_l4 ?_; intro v46 y_v46 e_v46
    refine sm_gr hM_h (d := 186) rfl ?_
    refine sm_ai hM_h rfl e_l1 ?_; intro v48 y_v48 e_v48
    refine sm_is hM_h rfl ?_
    refine sm_cP (sf_X13_isLike nn e_v46 e_v48 hM_h) ?_; intro u50 y_u50 e_u50
    refine sm_oq_or e_l3 e_u50 ?_; intro v51 y_v51 e_v51
    refine sm_oq_add e_l4 rfl ?_; intro v52 y_v52 e_v52
    exact hk_kk_35 e_l1 e_v44 e_v51 e_v52 hM_h
  · refine sm_oq_add e_l4 rfl ?_; intro v53 y_v53 e_v53
    exact hk_kk_35 e_l1 e_l2 e_l3 e_v53 hM_h
set_option maxRecDepth 4000 in
theorem sj_X13_memberHead_72 (nn : Nat) {kk_35 : Nat → Int32 → Int32 → Int32 → Int32 → mx_H → Option mx_H} {qkk_35 : Int → Int → Int → Int → ms_M → Option ms_M} (hk_kk_35 : ∀ {l1 : Int32} {y_l1 : Int} (e_l1 : l1.toInt = y_l1) {l2 : Int32} {y_l2 : Int} (e_l2 : l2.toInt = y_l2) {l3 : Int32} {y_l3 : Int} (e_l3 : l3.toInt = y_l3) {l4 : Int32} {y_l4 : Int} (e_l4 : l4.toInt = y_l4) {h : ms_M} (hM_h : Rg_M h), Sm_ RV_ (kk_35 160 l1 l2 l3 l4 (H_M h)) (qkk_35 y_l1 y_l2 y_l3 y_l4 h)) {l1 : Int32} {y_l1 : Int} (e_l1 : l1.toInt = y_l1) {l2 : Int32} {y_l2 : Int} (e_l2 : l2.toInt = y_l2) {l3 : Int32} {y_l3 : Int} (e_l3 : l3.toInt = y_l3) {l4 : Int32} {y_l4 : Int} (e_l4 : l4.toInt = y_l4) {s0 : Int32} {y_s0 : Int} (e_s0 : s0.toInt = y_s0) {h : ms_M} (hM_h : Rg_M h) : Sm_ RV_ (j_X13_memberHead_72 nn kk_35 160 l1 l2 l3 l4 s0 (H_M h)) (qj_X13_memberHead_72 nn qkk_35 y_l1 y_l2 y_l3 y_l4 y_s0 h) := by
  unfold j_X13_memberHead_72 qj_X13_memberHead_72
  refine sm_gr hM_h (d := 182) rfl ?_
  refine sm_ai hM_h rfl e_l1 ?_; intro v56 y_v56 e_v56
  refine sm_le e_v56 rfl ?_ ?_
  · exact sj_X13_memberHead_86 nn hk_kk_35 e_l1 e_l2 e_l3 e_l4 rfl e_s0 hM_h
  · exact sj_X13_memberHead_86 nn hk_kk_35 e_l1 e_l2 e_l3 e_l4 rfl e_s0 hM_h
set_option maxRecDepth 4000 in
theorem sw_X13_memberHead_35 (nn : Nat) : ∀ (k : Nat) {l1 : Int32} {y_l1 : Int} (e_l1 : l1.toInt = y_l1) {l2 : Int32} {y_l2 : Int} (e_l2 : l2.toInt = y_l2) {l3 : Int32} {y_l3 : Int} (e_l3 : l3.toInt = y_l3) {l4 : Int32} {y_l4 : Int} (e_l4 : l4.toInt = y_l4) {h : ms_M} (hM_h : Rg_M h), Sm_ RV_ (w_X13_memberHead_35 nn k 160 l1 l2 l3 l4 (H_M h)) (qw_X13_memberHead_35 nn k y_l1 y_l2 y_l3 y_l4 h) := by
  intro k
  induction k with
  | zero => intros; exact sm_no
  | succ k ih =>
    intro l1 y_l1 e_l1 l2 y_l2 e_l2 l3 y_l3 e_l3 l4 y_l4 e_l4 h hM_h
    unfold w_X13_memberHead_35 qw_X13_memberHead_35
    refine sm_le e_l1 e_l4 ?_ ?_
    · refine sm_ne e_l2 rfl ?_ ?_
      · exact sj_X13_memberHead_139 nn e_l1 e_l3 hM_h
      · refine sm_gr hM_h (d := 186) rfl ?_
        refine sm_ai hM_h rfl e_l1 ?_; intro v59 y_v59 e_v59
        refine sm_is hM_h rfl ?_
        refine sm_cV (sf_X13_wrong nn rfl e_v59 hM_h) ?_; intro u61 hM_u61
        exact sj_X13_memberHead_139 nn e_l1 e_l3 hM_u61
    · refine sm_gr hM_h (d := 181) rfl ?_
      refine sm_ai hM_h rfl e_l4 ?_; intro v64 y_v64 e_v64
      refine sm_gr hM_h (d := 181) rfl ?_
      refine sm_ai hM_h rfl e_l1 ?_; intro v66 y_v66 e_v66
      refine sm_ne e_v64 e_v66 ?_ ?_
      · refine sm_oq_add e_l4 rfl ?_; intro v67 y_v67 e_v67
        exact ih e_l1 e_l2 e_l3 e_v67 hM_h
      · refine sm_gr hM_h (d := 182) rfl ?_
        refine sm_ai hM_h rfl e_l4 ?_; intro v69 y_v69 e_v69
        refine sm_le e_v69 rfl ?_ ?_
        · exact sj_X13_memberHead_72 nn ih e_l1 e_l2 e_l3 e_l4 rfl hM_h
        · exact sj_X13_memberHead_72 nn ih e_l1 e_l2 e_l3 e_l4 rfl hM_h
set_option maxRecDepth 4000 in
theorem sf_X13_memberHead (nn : Nat) {a1 : Int32} {y_a1 : Int} (e_a1 : a1.toInt = y_a1) {h : ms_M} (hM_h : Rg_M h) : Sm_ RV_ (f_X13_memberHead nn 160 a1 (H_M h)) (qf_X13_memberHead nn y_a1 h) := by
  unfold f_X13_memberHead qf_X13_memberHead
  refine sm_gr hM_h (d := 187) rfl ?_
  refine sm_gr hM_h (d := 183) rfl ?_
  refine sm_ai hM_h rfl e_a1 ?_; intro v75 y_v75 e_v75
  refine sm_gr hM_h (d := 184) rfl ?_
  refine sm_ai hM_h rfl e_a1 ?_; intro v77 y_v77 e_v77
  refine sm_gr hM_h (d := 185) rfl ?_
  refine sm_ab hM_h rfl e_a1 ?_; intro v79 y_v79 e_v79
  refine sm_is hM_h rfl ?_
  refine sm_cI (sf_X13_typeOf nn e_v75 e_v77 e_v79 hM_h) ?_; intro u81 y_u81 M_u81 e_u81 hM_u81
  refine sm_si hM_u81 rfl e_a1 e_u81 ?_; intro h82 hM_h82
  exact sw_X13_memberHead_35 nn nn e_a1 rfl rfl rfl hM_h82
set_option maxRecDepth 4000 in
theorem sj_X13_overrides_148 (nn : Nat) {l1 : Int32} {y_l1 : Int} (e_l1 : l1.toInt = y_l1) {l3 : Int32} {y_l3 : Int} (e_l3 : l3.toInt = y_l3) {h : ms_M} (hM_h : Rg_M h) : Sm_ RV_ (j_X13_overrides_148 nn 160 l1 l3 (H_M h)) (qj_X13_overrides_148 nn y_l1 y_l3 h) := by
  unfold j_X13_overrides_148 qj_X13_overrides_148
  refine sm_ne e_l3 rfl ?_ ?_
  · exact sm_rV hM_h
  · refine sm_gr hM_h (d := 186) rfl ?_
    refine sm_ai hM_h rfl e_l1 ?_; intro v2 y_v2 e_v2
    refine sm_is hM_h rfl ?_
    refine sm_cV (sf_X13_wrong nn rfl e_v2 hM_h) ?_; intro u4 hM_u4
    exact sm_rV hM_u4
set_option maxRecDepth 4000 in
theorem sw_X13_overrides_90 (nn : Nat) : ∀ (k : Nat) {l1 : Int32} {y_l1 : Int} (e_l1 : l1.toInt = y_l1) {l2 : Int32} {y_l2 : Int} (e_l2 : l2.toInt = y_l2) {l3 : Int32} {y_l3 : Int} (e_l3 : l3.toInt = y_l3) {l4 : Int32} {y_l4 : Int} (e_l4 : l4.toInt = y_l4) {h : ms_M} (hM_h : Rg_M h), Sm_ RV_ (w_X13_overrides_90 nn k 160 l1 l2 l3 l4 (H_M h)) (qw_X13_overrides_90 nn k y_l1 y_l2 y_l3 y_l4 h) := by
  intro k
  induction k with
  | zero => intros; exact sm_no
  | succ k ih =>
    intro l1 y_l1 e_l1 l2 y_l2 e_l2 l3 y_l3 e_l3 l4 y_l4 e_l4 h hM_h
    unfold w_X13_overrides_90 qw_X13_overrides_90
    refine sm_gr hM_h (d := 189) rfl ?_
    refine sm_ai hM_h rfl e_l1 ?_; intro v7 y_v7 e_v7
    refine sm_le e_v7 e_l4 ?_ ?_
    · exact sj_X13_overrides_148 nn e_l1 e_l3 hM_h
    · refine sm_eq e_l3 rfl ?_ ?_
      · exact sj_X13_overrides_148 nn e_l1 e_l3 hM_h
      · refine sm_gr hM_h (d := 195) rfl ?_
        refine sm_gr hM_h (d := 188) rfl ?_
        refine sm_ai hM_h rfl e_l1 ?_; intro v10 y_v10 e_v10
        refine sm_oq_add e_v10 e_l4 ?_; intro v11 y_v11 e_v11
        refine sm_ai hM_h rfl e_v11 ?_; intro v12 y_v12 e_v12
        refine sm_gr hM_h (d := 195) rfl ?_
        refine sm_gr hM_h (d := 188) rfl ?_
        refine sm_ai hM_h rfl e_l2 ?_; intro v15 y_v15 e_v15
        refine sm_oq_add e_v15 e_l4 ?_; intro v16 y_v16 e_v16
        refine sm_ai hM_h rfl e_v16 ?_; intro v17 y_v17 e_v17
        refine sm_ne e_v12 e_v17 ?_ ?_
        · refine sm_oq_add e_l4 rfl ?_; intro v18 y_v18 e_v18
          exact ih e_l1 e_l2 rfl e_v18 hM_h
        · refine sm_oq_add e_l4 rfl ?_; intro v19 y_v19 e_v19
          exact ih e_l1 e_l2 rfl e_v19 hM_h
set_option maxRecDepth 4000 in
theorem sj_X13_overrides_85 (nn : Nat) {l1 : Int32} {y_l1 : Int} (e_l1 : l1.toInt = y_l1) {l2 : Int32} {y_l2 : Int} (e_l2 : l2.toInt = y_l2) {h : ms_M} (hM_h : Rg_M h) : Sm_ RV_ (j_X13_overrides_85 nn 160 l1 l2 (H_M h)) (qj_X13_overrides_85 nn y_l1 y_l2 h) := by
  unfold j_X13_overrides_85 qj_X13_overrides_85
  exact sw_X13_overrides_90 nn nn e_l1 e_l2 rfl rfl hM_h
set_option maxRecDepth 4000 in
theorem sf_X13_overrides (nn : Nat) {a1 : Int32} {y_a1 : Int} (e_a1 : a1.toInt = y_a1) {h : ms_M} (hM_h : Rg_M h) : Sm_ RV_ (f_X13_overrides nn 160 a1 (H_M h)) (qf_X13_overrides nn y_a1 h) := by
  unfold f_X13_overrides qf_X13_overrides
  refine sm_gr hM_h (d := 181) rfl ?_
  refine sm_ai hM_h rfl e_a1 ?_; intro v24 y_v24 e_v24
  refine sm_oq_add rfl e_v24 ?_; intro v25 y_v25 e_v25
  refine sm_is hM_h rfl ?_
  refine sm_cP (sf_X13_upperOf nn e_v25 hM_h) ?_; intro u27 y_u27 e_u27
  refine sm_gr hM_h (d := 186) rfl ?_
  refine sm_ai hM_h rfl e_a1 ?_; intro v29 y_v29 e_v29
  refine sm_is hM_h rfl ?_
  refine sm_cP (sf_X13_memberOf nn e_u27 e_v29 rfl hM_h) ?_; intro u31 y_u31 e_u31
  refine sm_ne e_u31 rfl ?_ ?_
  · refine sm_gr hM_h (d := 182) rfl ?_
    refine sm_ai hM_h rfl e_a1 ?_; intro v33 y_v33 e_v33
    refine sm_ne e_v33 rfl ?_ ?_
    · exact sj_X13_overrides_85 nn e_a1 e_u31 hM_h
    · refine sm_gr hM_h (d := 182) rfl ?_
      refine sm_ai hM_h rfl e_u31 ?_; intro v35 y_v35 e_v35
      refine sm_ne e_v35 rfl ?_ ?_
      · exact sj_X13_overrides_85 nn e_a1 e_u31 hM_h
      · refine sm_gr hM_h (d := 187) rfl ?_
        refine sm_ai hM_h rfl e_a1 ?_; intro v37 y_v37 e_v37
        refine sm_gr hM_h (d := 187) rfl ?_
        refine sm_ai hM_h rfl e_u31 ?_; intro v39 y_v39 e_v39
        refine sm_ne e_v37 e_v39 ?_ ?_
        · exact sj_X13_overrides_85 nn e_a1 e_u31 hM_h
        · refine sm_gr hM_h (d := 189) rfl ?_
          refine sm_ai hM_h rfl e_a1 ?_; intro v41 y_v41 e_v41
          refine sm_gr hM_h (d := 189) rfl ?_
          refine sm_ai hM_h rfl e_u31 ?_; intro v43 y_v43 e_v43
          refine sm_ne e_v41 e_v43 ?_ ?_
          · exact sj_X13_overrides_85 nn e_a1 e_u31 hM_h
          · exact sw_X13_overrides_90 nn nn e_a1 e_u31 rfl rfl hM_h
  · exact sm_rV hM_h
set_option maxRecDepth 4000 in
theorem sw_X13_heads_220 (nn : Nat) : ∀ (k : Nat) {l1 : Int32} {y_l1 : Int} (e_l1 : l1.toInt = y_l1) {h : ms_M} (hM_h : Rg_M h), Sm_ RV_ (w_X13_heads_220 nn k 160 l1 (H_M h)) (qw_X13_heads_220 nn k y_l1 h) := by
  intro k
  induction k with
  | zero => intros; exact sm_no
  | succ k ih =>
    intro l1 y_l1 e_l1 h hM_h
    unfold w_X13_heads_220 qw_X13_heads_220
    refine sm_gi hM_h rfl ?_; intro v1 e_v1
    refine sm_le e_v1 e_l1 ?_ ?_
    · exact sm_rV hM_h
    · refine sm_gi hM_h rfl ?_; intro v2 e_v2
      refine sm_ne e_v2 rfl ?_ ?_
      · exact sm_rV hM_h
      · refine sm_gr hM_h (d := 182) rfl ?_
        refine sm_ai hM_h rfl e_l1 ?_; intro v4 y_v4 e_v4
        refine sm_le e_v4 rfl ?_ ?_
        · refine sm_oq_add e_l1 rfl ?_; intro v5 y_v5 e_v5
          exact ih e_v5 hM_h
        · refine sm_is hM_h rfl ?_
          refine sm_cV (sf_X13_overrides nn e_l1 hM_h) ?_; intro u7 hM_u7
          refine sm_oq_add e_l1 rfl ?_; intro v8 y_v8 e_v8
          exact ih e_v8 hM_u7
set_option maxRecDepth 4000 in
theorem sw_X13_heads_192 (nn : Nat) : ∀ (k : Nat) {l1 : Int32} {y_l1 : Int} (e_l1 : l1.toInt = y_l1) {h : ms_M} (hM_h : Rg_M h), Sm_ RV_ (w_X13_heads_192 nn k 160 l1 (H_M h)) (qw_X13_heads_192 nn k y_l1 h) := by
  intro k
  induction k with
  | zero => intros; exact sm_no
  | succ k ih =>
    intro l1 y_l1 e_l1 h hM_h
    unfold w_X13_heads_192 qw_X13_heads_192
    refine sm_gi hM_h rfl ?_; intro v12 e_v12
    refine sm_le e_v12 e_l1 ?_ ?_
    · exact sw_X13_heads_220 nn nn rfl hM_h
    · refine sm_gi hM_h rfl ?_; intro v13 e_v13
      refine sm_ne e_v13 rfl ?_ ?_
      · exact sw_X13_heads_220 nn nn rfl hM_h
      · refine sm_is hM_h rfl ?_
        refine sm_cV (sf_X13_memberHead nn e_l1 hM_h) ?_; intro u15 hM_u15
        refine sm_oq_add e_l1 rfl ?_; intro v16 y_v16 e_v16
        exact ih e_v16 hM_u15
set_option maxRecDepth 4000 in
theorem sj_X13_heads_167 (nn : Nat) {kk_50 : Nat → Int32 → mx_H → Option mx_H} {qkk_50 : Int → ms_M → Option ms_M} (hk_kk_50 : ∀ {l1 : Int32} {y_l1 : Int} (e_l1 : l1.toInt = y_l1) {h : ms_M} (hM_h : Rg_M h), Sm_ RV_ (kk_50 160 l1 (H_M h)) (qkk_50 y_l1 h)) {l1 : Int32} {y_l1 : Int} (e_l1 : l1.toInt = y_l1) {l2 : Int32} {y_l2 : Int} (e_l2 : l2.toInt = y_l2) {h : ms_M} (hM_h : Rg_M h) : Sm_ RV_ (j_X13_heads_167 nn kk_50 160 l1 l2 (H_M h)) (qj_X13_heads_167 nn qkk_50 y_l1 y_l2 h) := by
  unfold j_X13_heads_167 qj_X13_heads_167
  refine sm_eq e_l2 rfl ?_ ?_
  · refine sm_oq_add e_l1 rfl ?_; intro v19 y_v19 e_v19
    exact hk_kk_50 e_v19 hM_h
  · refine sm_gr hM_h (d := 179) rfl ?_
    refine sm_ai hM_h rfl e_l1 ?_; intro v21 y_v21 e_v21
    refine sm_is hM_h rfl ?_
    refine sm_cV (sf_X13_wrong nn rfl e_v21 hM_h) ?_; intro u23 hM_u23
    refine sm_oq_add e_l1 rfl ?_; intro v24 y_v24 e_v24
    exact hk_kk_50 e_v24 hM_u23
set_option maxRecDepth 4000 in
theorem sw_X13_heads_139 (nn : Nat) {kk_50 : Nat → Int32 → mx_H → Option mx_H} {qkk_50 : Int → ms_M → Option ms_M} (hk_kk_50 : ∀ {l1 : Int32} {y_l1 : Int} (e_l1 : l1.toInt = y_l1) {h : ms_M} (hM_h : Rg_M h), Sm_ RV_ (kk_50 160 l1 (H_M h)) (qkk_50 y_l1 h)) : ∀ (k : Nat) {l1 : Int32} {y_l1 : Int} (e_l1 : l1.toInt = y_l1) {l2 : Int32} {y_l2 : Int} (e_l2 : l2.toInt = y_l2) {l3 : Int32} {y_l3 : Int} (e_l3 : l3.toInt = y_l3) {h : ms_M} (hM_h : Rg_M h), Sm_ RV_ (w_X13_heads_139 nn kk_50 k 160 l1 l2 l3 (H_M h)) (qw_X13_heads_139 nn qkk_50 k y_l1 y_l2 y_l3 h) := by
  intro k
  induction k with
  | zero => intros; exact sm_no
  | succ k ih =>
    intro l1 y_l1 e_l1 l2 y_l2 e_l2 l3 y_l3 e_l3 h hM_h
    unfold w_X13_heads_139 qw_X13_heads_139
    refine sm_gi hM_h rfl ?_; intro v26 e_v26
    refine sm_oq_add e_v26 rfl ?_; intro v27 y_v27 e_v27
    refine sm_lt e_v27 e_l3 ?_ ?_
    · exact sj_X13_heads_167 nn hk_kk_50 e_l1 e_l2 hM_h
    · refine sm_eq e_l2 rfl ?_ ?_
      · exact sj_X13_heads_167 nn hk_kk_50 e_l1 e_l2 hM_h
      · refine sm_is hM_h rfl ?_
        refine sm_cP (sf_X13_upperOf nn e_l2 hM_h) ?_; intro u29 y_u29 e_u29
        refine sm_oq_add e_l3 rfl ?_; intro v30 y_v30 e_v30
        exact ih e_l1 e_u29 e_v30 hM_h
set_option maxRecDepth 4000 in
theorem sj_X13_heads_132 (nn : Nat) {kk_50 : Nat → Int32 → mx_H → Option mx_H} {qkk_50 : Int → ms_M → Option ms_M} (hk_kk_50 : ∀ {l1 : Int32} {y_l1 : Int} (e_l1 : l1.toInt = y_l1) {h : ms_M} (hM_h : Rg_M h), Sm_ RV_ (kk_50 160 l1 (H_M h)) (qkk_50 y_l1 h)) {l1 : Int32} {y_l1 : Int} (e_l1 : l1.toInt = y_l1) {h : ms_M} (hM_h : Rg_M h) : Sm_ RV_ (j_X13_heads_132 nn kk_50 160 l1 (H_M h)) (qj_X13_heads_132 nn qkk_50 y_l1 h) := by
  unfold j_X13_heads_132 qj_X13_heads_132
  refine sm_oq_add rfl e_l1 ?_; intro v33 y_v33 e_v33
  exact sw_X13_heads_139 nn hk_kk_50 nn e_l1 e_v33 rfl hM_h
set_option maxRecDepth 4000 in
theorem sj_X13_heads_111 (nn : Nat) {kk_50 : Nat → Int32 → mx_H → Option mx_H} {qkk_50 : Int → ms_M → Option ms_M} (hk_kk_50 : ∀ {l1 : Int32} {y_l1 : Int} (e_l1 : l1.toInt = y_l1) {h : ms_M} (hM_h : Rg_M h), Sm_ RV_ (kk_50 160 l1 (H_M h)) (qkk_50 y_l1 h)) {l1 : Int32} {y_l1 : Int} (e_l1 : l1.toInt = y_l1) {h : ms_M} (hM_h : Rg_M h) : Sm_ RV_ (j_X13_heads_111 nn kk_50 160 l1 (H_M h)) (qj_X13_heads_111 nn qkk_50 y_l1 h) := by
  unfold j_X13_heads_111 qj_X13_heads_111
  refine sm_gr hM_h (d := 180) rfl ?_
  refine sm_ai hM_h rfl e_l1 ?_; intro v35 y_v35 e_v35
  refine sm_ne e_v35 rfl ?_ ?_
  · exact sj_X13_heads_132 nn hk_kk_50 e_l1 hM_h
  · refine sm_gr hM_h (d := 179) rfl ?_
    refine sm_ai hM_h rfl e_l1 ?_; intro v37 y_v37 e_v37
    refine sm_is hM_h rfl ?_
    refine sm_cV (sf_X13_wrong nn rfl e_v37 hM_h) ?_; intro u39 hM_u39
    exact sj_X13_heads_132 nn hk_kk_50 e_l1 hM_u39
set_option maxRecDepth 4000 in
theorem sj_X13_heads_83 (nn : Nat) {kk_50 : Nat → Int32 → mx_H → Option mx_H} {qkk_50 : Int → ms_M → Option ms_M} (hk_kk_50 : ∀ {l1 : Int32} {y_l1 : Int} (e_l1 : l1.toInt = y_l1) {h : ms_M} (hM_h : Rg_M h), Sm_ RV_ (kk_50 160 l1 (H_M h)) (qkk_50 y_l1 h)) {l1 : Int32} {y_l1 : Int} (e_l1 : l1.toInt = y_l1) {h : ms_M} (hM_h : Rg_M h) : Sm_ RV_ (j_X13_heads_83 nn kk_50 160 l1 (H_M h)) (qj_X13_heads_83 nn qkk_50 y_l1 h) := by
  unfold j_X13_heads_83 qj_X13_heads_83
  refine sm_gr hM_h (d := 178) rfl ?_
  refine sm_ai hM_h rfl e_l1 ?_; intro v42 y_v42 e_v42
  refine sm_is hM_h rfl ?_
  refine sm_cP (sf_X13_classOf nn e_v42 hM_h) ?_; intro u44 y_u44 e_u44
  refine sm_oq_add rfl e_l1 ?_; intro v45 y_v45 e_v45
  refine sm_eq e_u44 e_v45 ?_ ?_
  · exact sj_X13_heads_111 nn hk_kk_50 e_l1 hM_h
  · refine sm_gr hM_h (d := 178) rfl ?_
    refine sm_ai hM_h rfl e_l1 ?_; intro v47 y_v47 e_v47
    refine sm_is hM_h rfl ?_
    refine sm_cV (sf_X13_wrong nn rfl e_v47 hM_h) ?_; intro u49 hM_u49
    exact sj_X13_heads_111 nn hk_kk_50 e_l1 hM_u49
set_option maxRecDepth 4000 in
theorem sw_X13_heads_50 (nn : Nat) : ∀ (k : Nat) {l1 : Int32} {y_l1 : Int} (e_l1 : l1.toInt = y_l1) {h : ms_M} (hM_h : Rg_M h), Sm_ RV_ (w_X13_heads_50 nn k 160 l1 (H_M h)) (qw_X13_heads_50 nn k y_l1 h) := by
  intro k
  induction k with
  | zero => intros; exact sm_no
  | succ k ih =>
    intro l1 y_l1 e_l1 h hM_h
    unfold w_X13_heads_50 qw_X13_heads_50
    refine sm_gi hM_h rfl ?_; intro v51 e_v51
    refine sm_le e_v51 e_l1 ?_ ?_
    · exact sw_X13_heads_192 nn nn rfl hM_h
    · refine sm_gi hM_h rfl ?_; intro v52 e_v52
      refine sm_ne e_v52 rfl ?_ ?_
      · exact sw_X13_heads_192 nn nn rfl hM_h
      · refine sm_ne e_l1 rfl ?_ ?_
        · exact sj_X13_heads_83 nn ih e_l1 hM_h
        · refine sm_gr hM_h (d := 178) rfl ?_
          refine sm_ai hM_h rfl e_l1 ?_; intro v54 y_v54 e_v54
          refine sm_is hM_h rfl ?_
          refine sm_cV (sf_X13_wrong nn rfl e_v54 hM_h) ?_; intro u56 hM_u56
          exact sj_X13_heads_83 nn ih e_l1 hM_u56
set_option maxRecDepth 4000 in
theorem sj_X13_heads_34 (nn : Nat) {kk_2 : Nat → Int32 → mx_H → Option mx_H} {qkk_2 : Int → ms_M → Option ms_M} (hk_kk_2 : ∀ {l1 : Int32} {y_l1 : Int} (e_l1 : l1.toInt = y_l1) {h : ms_M} (hM_h : Rg_M h), Sm_ RV_ (kk_2 160 l1 (H_M h)) (qkk_2 y_l1 h)) {l1 : Int32} {y_l1 : Int} (e_l1 : l1.toInt = y_l1) {s0 : Int32} {y_s0 : Int} (e_s0 : s0.toInt = y_s0) {h : ms_M} (hM_h : Rg_M h) : Sm_ RV_ (j_X13_heads_34 nn kk_2 160 l1 s0 (H_M h)) (qj_X13_heads_34 nn qkk_2 y_l1 y_s0 h) := by
  unfold j_X13_heads_34 qj_X13_heads_34
  refine sm_gr hM_h (d := 180) rfl ?_
  refine sm_si hM_h rfl e_l1 e_s0 ?_; intro h61 hM_h61
  refine sm_oq_add e_l1 rfl ?_; intro v62 y_v62 e_v62
  exact hk_kk_2 e_v62 hM_h61
set_option maxRecDepth 4000 in
theorem sw_X13_heads_2 (nn : Nat) : ∀ (k : Nat) {l1 : Int32} {y_l1 : Int} (e_l1 : l1.toInt = y_l1) {h : ms_M} (hM_h : Rg_M h), Sm_ RV_ (w_X13_heads_2 nn k 160 l1 (H_M h)) (qw_X13_heads_2 nn k y_l1 h) := by
  intro k
  induction k with
  | zero => intros; exact sm_no
  | succ k ih =>
    intro l1 y_l1 e_l1 h hM_h
    unfold w_X13_heads_2 qw_X13_heads_2
    refine sm_gi hM_h rfl ?_; intro v63 e_v63
    refine sm_le e_v63 e_l1 ?_ ?_
    · exact sw_X13_heads_50 nn nn rfl hM_h
    · refine sm_gr hM_h (d := 179) rfl ?_
      refine sm_ai hM_h rfl e_l1 ?_; intro v65 y_v65 e_v65
      refine sm_ne e_v65 rfl ?_ ?_
      · refine sm_gr hM_h (d := 179) rfl ?_
        refine sm_ai hM_h rfl e_l1 ?_; intro v67 y_v67 e_v67
        refine sm_is hM_h rfl ?_
        refine sm_cP (sf_X13_classOf nn e_v67 hM_h) ?_; intro u69 y_u69 e_u69
        exact sj_X13_heads_34 nn ih e_l1 e_u69 hM_h
      · exact sj_X13_heads_34 nn ih e_l1 rfl hM_h
set_option maxRecDepth 4000 in
theorem sf_X13_heads (nn : Nat) {h : ms_M} (hM_h : Rg_M h) : Sm_ RV_ (f_X13_heads nn 160 (H_M h)) (qf_X13_heads nn h) := by
  unfold f_X13_heads qf_X13_heads
  exact sw_X13_heads_2 nn nn rfl hM_h
set_option maxRecDepth 4000 in
theorem sj_X13_constant_71 (nn : Nat) {l1 : Int32} {y_l1 : Int} (e_l1 : l1.toInt = y_l1) {l2 : Int32} {y_l2 : Int} (e_l2 : l2.toInt = y_l2) {l3 : Int32} {y_l3 : Int} (e_l3 : l3.toInt = y_l3) {l4 : Int32} {y_l4 : Int} (e_l4 : l4.toInt = y_l4) {h : ms_M} (hM_h : Rg_M h) : Sm_ RI_ (j_X13_constant_71 nn 160 l1 l2 l3 l4 (H_M h)) (qj_X13_constant_71 nn y_l1 y_l2 y_l3 y_l4 h) := by
  unfold j_X13_constant_71 qj_X13_constant_71
  refine sm_gi hM_h rfl ?_; intro v1 e_v1
  refine sm_oq_add e_v1 rfl ?_; intro v2 y_v2 e_v2
  refine sm_pv hM_h rfl e_v2 ?_; intro h3 hM_h3
  refine sm_gr hM_h3 (d := 200) rfl ?_
  refine sm_gi hM_h3 rfl ?_; intro v5 e_v5
  refine sm_si hM_h3 rfl e_v5 e_l1 ?_; intro h6 hM_h6
  refine sm_gr hM_h6 (d := 201) rfl ?_
  refine sm_gi hM_h6 rfl ?_; intro v8 e_v8
  refine sm_si hM_h6 rfl e_v8 e_l2 ?_; intro h9 hM_h9
  refine sm_gr hM_h9 (d := 202) rfl ?_
  refine sm_gi hM_h9 rfl ?_; intro v11 e_v11
  refine sm_si hM_h9 rfl e_v11 e_l3 ?_; intro h12 hM_h12
  refine sm_gr hM_h12 (d := 203) rfl ?_
  refine sm_gi hM_h12 rfl ?_; intro v14 e_v14
  refine sm_si hM_h12 rfl e_v14 e_l4 ?_; intro h15 hM_h15
  refine sm_gi hM_h15 rfl ?_; intro v16 e_v16
  exact sm_rI e_v16 hM_h15
set_option maxRecDepth 4000 in
theorem sw_X13_constant_8 (nn : Nat) : ∀ (k : Nat) {l1 : Int32} {y_l1 : Int} (e_l1 : l1.toInt = y_l1) {l2 : Int32} {y_l2 : Int} (e_l2 : l2.toInt = y_l2) {l3 : Int32} {y_l3 : Int} (e_l3 : l3.toInt = y_l3) {l4 : Int32} {y_l4 : Int} (e_l4 : l4.toInt = y_l4) {l5 : Int32} {y_l5 : Int} (e_l5 : l5.toInt = y_l5) {h : ms_M} (hM_h : Rg_M h), Sm_ RI_ (w_X13_constant_8 nn k 160 l1 l2 l3 l4 l5 (H_M h)) (qw_X13_constant_8 nn k y_l1 y_l2 y_l3 y_l4 y_l5 h) := by
  intro k
  induction k with
  | zero => intros; exact sm_no
  | succ k ih =>
    intro l1 y_l1 e_l1 l2 y_l2 e_l2 l3 y_l3 e_l3 l4 y_l4 e_l4 l5 y_l5 e_l5 h hM_h
    unfold w_X13_constant_8 qw_X13_constant_8
    refine sm_gi hM_h rfl ?_; intro v17 e_v17
    refine sm_lt e_v17 e_l5 ?_ ?_
    · exact sj_X13_constant_71 nn e_l1 e_l2 e_l3 e_l4 hM_h
    · refine sm_gr hM_h (d := 200) rfl ?_
      refine sm_ai hM_h rfl e_l5 ?_; intro v19 y_v19 e_v19
      refine sm_ne e_v19 e_l1 ?_ ?_
      · refine sm_oq_add e_l5 rfl ?_; intro v20 y_v20 e_v20
        exact ih e_l1 e_l2 e_l3 e_l4 e_v20 hM_h
      · refine sm_gr hM_h (d := 201) rfl ?_
        refine sm_ai hM_h rfl e_l5 ?_; intro v22 y_v22 e_v22
        refine sm_ne e_v22 e_l2 ?_ ?_
        · refine sm_oq_add e_l5 rfl ?_; intro v23 y_v23 e_v23
          exact ih e_l1 e_l2 e_l3 e_l4 e_v23 hM_h
        · refine sm_gr hM_h (d := 202) rfl ?_
          refine sm_ai hM_h rfl e_l5 ?_; intro v25 y_v25 e_v25
          refine sm_ne e_v25 e_l3 ?_ ?_
          · refine sm_oq_add e_l5 rfl ?_; intro v26 y_v26 e_v26
            exact ih e_l1 e_l2 e_l3 e_l4 e_v26 hM_h
          · refine sm_gr hM_h (d := 203) rfl ?_
            refine sm_ai hM_h rfl e_l5 ?_; intro v28 y_v28 e_v28
            refine sm_ne e_v28 e_l4 ?_ ?_
            · refine sm_oq_add e_l5 rfl ?_; intro v29 y_v29 e_v29
              exact ih e_l1 e_l2 e_l3 e_l4 e_v29 hM_h
            · exact sm_rI e_l5 hM_h
