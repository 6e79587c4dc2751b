set_option maxRecDepth 4000 in
theorem sj_X13_step_1150 (nn : Nat) {l3 : Int32} {y_l3 : Int} (e_l3 : l3.toInt = y_l3) {h : ms_M} (hM_h : Rg_M h) : Sm_ RV_ (j_X13_step_1150 nn 160 l3 (H_M h)) (qj_X13_step_1150 nn y_l3 h) := by
  unfold j_X13_step_1150 qj_X13_step_1150
  refine sm_is hM_h rfl ?_
  refine sm_cV (sf_X13_on nn e_l3 hM_h) ?_; intro u2 hM_u2
  exact sm_rV hM_u2
set_option maxRecDepth 4000 in
theorem sj_X13_step_1122 (nn : Nat) {l1 : Int32} {y_l1 : Int} (e_l1 : l1.toInt = y_l1) {l2 : Int32} {y_l2 : Int} (e_l2 : l2.toInt = y_l2) {l3 : Int32} {y_l3 : Int} (e_l3 : l3.toInt = y_l3) {h : ms_M} (hM_h : Rg_M h) : Sm_ RV_ (j_X13_step_1122 nn 160 l1 l2 l3 (H_M h)) (qj_X13_step_1122 nn y_l1 y_l2 y_l3 h) := by
  unfold j_X13_step_1122 qj_X13_step_1122
  refine sm_is hM_h rfl ?_
  refine sm_cI (sf_X13_jumps nn e_l2 hM_h) ?_; intro u4 y_u4 M_u4 e_u4 hM_u4
  refine sm_eq e_u4 rfl ?_ ?_
  · exact sj_X13_step_1150 nn e_l3 hM_u4
  · refine sm_oq_add e_l1 rfl ?_; intro v5 y_v5 e_v5
    refine sm_is hM_u4 rfl ?_
    refine sm_cP (sf_X13_opAt nn e_v5 hM_u4) ?_; intro u7 y_u7 e_u7
    refine sm_oq_shl e_u7 rfl ?_; intro v8 y_v8 e_v8
    refine sm_oq_add e_l1 rfl ?_; intro v9 y_v9 e_v9
    refine sm_is hM_u4 rfl ?_
    refine sm_cP (sf_X13_opAt nn e_v9 hM_u4) ?_; intro u11 y_u11 e_u11
    refine sm_oq_or e_v8 e_u11 ?_; intro v12 y_v12 e_v12
    refine sm_oq_s e_v12 ?_; intro v13 y_v13 e_v13
    exact sj_X13_step_1150 nn e_v13 hM_u4
set_option maxRecDepth 4000 in
theorem sj_X13_step_1111 (nn : Nat) {l2 : Int32} {y_l2 : Int} (e_l2 : l2.toInt = y_l2) {l3 : Int32} {y_l3 : Int} (e_l3 : l3.toInt = y_l3) {l4 : Int32} {y_l4 : Int} (e_l4 : l4.toInt = y_l4) {h : ms_M} (hM_h : Rg_M h) : Sm_ RV_ (j_X13_step_1111 nn 160 l2 l3 l4 (H_M h)) (qj_X13_step_1111 nn y_l2 y_l3 y_l4 h) := by
  unfold j_X13_step_1111 qj_X13_step_1111
  refine sm_is hM_h rfl ?_
  refine sm_cI (sf_X13_is nn e_l2 e_l4 hM_h) ?_; intro u16 y_u16 M_u16 e_u16 hM_u16
  refine sm_ne e_u16 rfl ?_ ?_
  · exact sj_X13_step_1150 nn e_l3 hM_u16
  · exact sm_rV hM_u16
set_option maxRecDepth 4000 in
theorem sj_X13_step_1077 (nn : Nat) {l2 : Int32} {y_l2 : Int} (e_l2 : l2.toInt = y_l2) {l4 : Int32} {y_l4 : Int} (e_l4 : l4.toInt = y_l4) {h : ms_M} (hM_h : Rg_M h) : Sm_ RV_ (j_X13_step_1077 nn 160 l2 l4 (H_M h)) (qj_X13_step_1077 nn y_l2 y_l4 h) := by
  unfold j_X13_step_1077 qj_X13_step_1077
  refine sm_is hM_h rfl ?_
  refine sm_cV (sf_X13_fresh_ nn e_l2 e_l4 hM_h) ?_; intro u19 hM_u19
  exact sm_rV hM_u19
set_option maxRecDepth 4000 in
theorem sj_X13_step_1064 (nn : Nat) {l3 : Int32} {y_l3 : Int} (e_l3 : l3.toInt = y_l3) {h : ms_M} (hM_h : Rg_M h) : Sm_ RV_ (j_X13_step_1064 nn 160 l3 (H_M h)) (qj_X13_step_1064 nn y_l3 h) := by
  unfold j_X13_step_1064 qj_X13_step_1064
  refine sm_gi hM_h rfl ?_; intro v20 e_v20
  refine sm_oq_add e_v20 rfl ?_; intro v21 y_v21 e_v21
  refine sm_pv hM_h rfl e_v21 ?_; intro h22 hM_h22
  exact sj_X13_step_1150 nn e_l3 hM_h22
set_option maxRecDepth 4000 in
theorem sj_X13_step_1029 (nn : Nat) {l2 : Int32} {y_l2 : Int} (e_l2 : l2.toInt = y_l2) {l4 : Int32} {y_l4 : Int} (e_l4 : l4.toInt = y_l4) {h : ms_M} (hM_h : Rg_M h) : Sm_ RV_ (j_X13_step_1029 nn 160 l2 l4 (H_M h)) (qj_X13_step_1029 nn y_l2 y_l4 h) := by
  unfold j_X13_step_1029 qj_X13_step_1029
  refine sm_is hM_h rfl ?_
  refine sm_cV (sf_X13_call nn e_l2 e_l4 hM_h) ?_; intro u24 hM_u24
  exact sm_rV hM_u24
set_option maxRecDepth 4000 in
theorem sj_X13_step_1020 (nn : Nat) {l2 : Int32} {y_l2 : Int} (e_l2 : l2.toInt = y_l2) {l3 : Int32} {y_l3 : Int} (e_l3 : l3.toInt = y_l3) {l4 : Int32} {y_l4 : Int} (e_l4 : l4.toInt = y_l4) {h : ms_M} (hM_h : Rg_M h) : Sm_ RV_ (j_X13_step_1020 nn 160 l2 l3 l4 (H_M h)) (qj_X13_step_1020 nn y_l2 y_l3 y_l4 h) := by
  unfold j_X13_step_1020 qj_X13_step_1020
  refine sm_is hM_h rfl ?_
  refine sm_cV (sf_X13_fieldOf nn e_l2 e_l4 e_l3 hM_h) ?_; intro u26 hM_u26
  exact sm_rV hM_u26
set_option maxRecDepth 4000 in
theorem sj_X13_step_1014 (nn : Nat) {l2 : Int32} {y_l2 : Int} (e_l2 : l2.toInt = y_l2) {h : ms_M} (hM_h : Rg_M h) : Sm_ RV_ (j_X13_step_1014 nn 160 l2 (H_M h)) (qj_X13_step_1014 nn y_l2 h) := by
  unfold j_X13_step_1014 qj_X13_step_1014
  refine sm_is hM_h rfl ?_
  refine sm_cV (sf_X13_back nn e_l2 hM_h) ?_; intro u28 hM_u28
  exact sm_rV hM_u28
set_option maxRecDepth 4000 in
theorem sj_X13_step_999 (nn : Nat) {l2 : Int32} {y_l2 : Int} (e_l2 : l2.toInt = y_l2) {l3 : Int32} {y_l3 : Int} (e_l3 : l3.toInt = y_l3) {l5 : Int32} {y_l5 : Int} (e_l5 : l5.toInt = y_l5) {l6 : Int32} {y_l6 : Int} (e_l6 : l6.toInt = y_l6) {h : ms_M} (hM_h : Rg_M h) : Sm_ RV_ (j_X13_step_999 nn 160 l2 l3 l5 l6 (H_M h)) (qj_X13_step_999 nn y_l2 y_l3 y_l5 y_l6 h) := by
  unfold j_X13_step_999 qj_X13_step_999
  refine sm_cP (sf_X13_reckon nn e_l2 e_l5 e_l6 hM_h) ?_; intro u29 y_u29 e_u29
  refine sm_is hM_h rfl ?_
  refine sm_cV (sf_X13_give nn e_u29 hM_h) ?_; intro u31 hM_u31
  exact sj_X13_step_1150 nn e_l3 hM_u31
set_option maxRecDepth 4000 in
theorem sj_X13_step_993 (nn : Nat) {h : ms_M} (hM_h : Rg_M h) : Sm_ RV_ (j_X13_step_993 nn 160 (H_M h)) (qj_X13_step_993 nn h) := by
  unfold j_X13_step_993 qj_X13_step_993
  refine sm_is hM_h rfl ?_
  refine sm_cV (sf_X13_fails nn rfl hM_h) ?_; intro u33 hM_u33
  exact sm_rV hM_u33
set_option maxRecDepth 4000 in
theorem sj_X13_step_964 (nn : Nat) {l2 : Int32} {y_l2 : Int} (e_l2 : l2.toInt = y_l2) {l3 : Int32} {y_l3 : Int} (e_l3 : l3.toInt = y_l3) {h : ms_M} (hM_h : Rg_M h) : Sm_ RV_ (j_X13_step_964 nn 160 l2 l3 (H_M h)) (qj_X13_step_964 nn y_l2 y_l3 h) := by
  unfold j_X13_step_964 qj_X13_step_964
  refine sm_is hM_h rfl ?_
  refine sm_cI (sf_X13_drop nn hM_h) ?_; intro u35 y_u35 M_u35 e_u35 hM_u35
  refine sm_is hM_u35 rfl ?_
  refine sm_cI (sf_X13_drop nn hM_u35) ?_; intro u37 y_u37 M_u37 e_u37 hM_u37
  refine sm_ne e_u35 rfl ?_ ?_
  · exact sj_X13_step_999 nn e_l2 e_l3 e_u37 e_u35 hM_u37
  · refine sm_eq e_l2 rfl ?_ ?_
    · exact sj_X13_step_993 nn hM_u37
    · refine sm_ne e_l2 rfl ?_ ?_
      · exact sj_X13_step_999 nn e_l2 e_l3 e_u37 e_u35 hM_u37
      · exact sj_X13_step_993 nn hM_u37
set_option maxRecDepth 4000 in
theorem sj_X13_step_958 (nn : Nat) {l2 : Int32} {y_l2 : Int} (e_l2 : l2.toInt = y_l2) {h : ms_M} (hM_h : Rg_M h) : Sm_ RV_ (j_X13_step_958 nn 160 l2 (H_M h)) (qj_X13_step_958 nn y_l2 h) := by
  unfold j_X13_step_958 qj_X13_step_958
  refine sm_is hM_h rfl ?_
  refine sm_cV (sf_X13_element nn e_l2 hM_h) ?_; intro u42 hM_u42
  exact sm_rV hM_u42
set_option maxRecDepth 4000 in
theorem sj_X13_step_889 (nn : Nat) {l3 : Int32} {y_l3 : Int} (e_l3 : l3.toInt = y_l3) {l4 : Int32} {y_l4 : Int} (e_l4 : l4.toInt = y_l4) {h : ms_M} (hM_h : Rg_M h) : Sm_ RV_ (j_X13_step_889 nn 160 l3 l4 (H_M h)) (qj_X13_step_889 nn y_l3 y_l4 h) := by
  unfold j_X13_step_889 qj_X13_step_889
  refine sm_is hM_h rfl ?_
  refine sm_cI (sf_X13_drop nn hM_h) ?_; intro u44 y_u44 M_u44 e_u44 hM_u44
  refine sm_gr hM_u44 (d := 255) rfl ?_
  refine sm_gi hM_u44 rfl ?_; intro v46 e_v46
  refine sm_oq_sub e_v46 rfl ?_; intro v47 y_v47 e_v47
  refine sm_oq_mul rfl e_v47 ?_; intro v48 y_v48 e_v48
  refine sm_oq_add e_v48 e_l4 ?_; intro v49 y_v49 e_v49
  refine sm_si hM_u44 rfl e_v49 e_u44 ?_; intro h50 hM_h50
  exact sj_X13_step_1150 nn e_l3 hM_h50
set_option maxRecDepth 4000 in
theorem sj_X13_step_876 (nn : Nat) {l3 : Int32} {y_l3 : Int} (e_l3 : l3.toInt = y_l3) {l4 : Int32} {y_l4 : Int} (e_l4 : l4.toInt = y_l4) {h : ms_M} (hM_h : Rg_M h) : Sm_ RV_ (j_X13_step_876 nn 160 l3 l4 (H_M h)) (qj_X13_step_876 nn y_l3 y_l4 h) := by
  unfold j_X13_step_876 qj_X13_step_876
  refine sm_is hM_h rfl ?_
  refine sm_cP (sf_X13_cell nn e_l4 hM_h) ?_; intro u52 y_u52 e_u52
  refine sm_is hM_h rfl ?_
  refine sm_cV (sf_X13_give nn e_u52 hM_h) ?_; intro u54 hM_u54
  exact sj_X13_step_1150 nn e_l3 hM_u54
set_option maxRecDepth 4000 in
theorem sj_X13_step_843 (nn : Nat) {l2 : Int32} {y_l2 : Int} (e_l2 : l2.toInt = y_l2) {l3 : Int32} {y_l3 : Int} (e_l3 : l3.toInt = y_l3) {h : ms_M} (hM_h : Rg_M h) : Sm_ RV_ (j_X13_step_843 nn 160 l2 l3 (H_M h)) (qj_X13_step_843 nn y_l2 y_l3 h) := by
  unfold j_X13_step_843 qj_X13_step_843
  refine sm_oq_sub e_l2 rfl ?_; intro v55 y_v55 e_v55
  refine sm_is hM_h rfl ?_
  refine sm_cV (sf_X13_give nn e_v55 hM_h) ?_; intro u57 hM_u57
  exact sj_X13_step_1150 nn e_l3 hM_u57
set_option maxRecDepth 4000 in
theorem sj_X13_step_835 (nn : Nat) {l3 : Int32} {y_l3 : Int} (e_l3 : l3.toInt = y_l3) {h : ms_M} (hM_h : Rg_M h) : Sm_ RV_ (j_X13_step_835 nn 160 l3 (H_M h)) (qj_X13_step_835 nn y_l3 h) := by
  unfold j_X13_step_835 qj_X13_step_835
  refine sm_is hM_h rfl ?_
  refine sm_cV (sf_X13_give nn rfl hM_h) ?_; intro u59 hM_u59
  exact sj_X13_step_1150 nn e_l3 hM_u59
set_option maxRecDepth 4000 in
theorem sj_X13_step_39 (nn : Nat) {l1 : Int32} {y_l1 : Int} (e_l1 : l1.toInt = y_l1) {l2 : Int32} {y_l2 : Int} (e_l2 : l2.toInt = y_l2) {l3 : Int32} {y_l3 : Int} (e_l3 : l3.toInt = y_l3) {s0 : Int32} {y_s0 : Int} (e_s0 : s0.toInt = y_s0) {h : ms_M} (hM_h : Rg_M h) : Sm_ RV_ (j_X13_step_39 nn 160 l1 l2 l3 s0 (H_M h)) (qj_X13_step_39 nn y_l1 y_l2 y_l3 y_s0 h) := by
  unfold j_X13_step_39 qj_X13_step_39
  refine sm_eq e_l2 rfl ?_ ?_
  · exact sj_X13_step_1150 nn e_l3 hM_h
  · refine sm_eq e_l2 rfl ?_ ?_
    · exact sj_X13_step_835 nn e_l3 hM_h
    · refine sm_eq e_l2 rfl ?_ ?_
      · exact sj_X13_step_843 nn e_l2 e_l3 hM_h
      · refine sm_eq e_l2 rfl ?_ ?_
        · exact sj_X13_step_835 nn e_l3 hM_h
        · refine sm_eq e_l2 rfl ?_ ?_
          · exact sj_X13_step_843 nn e_l2 e_l3 hM_h
          · refine sm_eq e_l2 rfl ?_ ?_
            · exact sj_X13_step_843 nn e_l2 e_l3 hM_h
            · refine sm_eq e_l2 rfl ?_ ?_
              · exact sj_X13_step_843 nn e_l2 e_l3 hM_h
              · refine sm_eq e_l2 rfl ?_ ?_
                · exact sj_X13_step_843 nn e_l2 e_l3 hM_h
                · refine sm_eq e_l2 rfl ?_ ?_
                  · exact sj_X13_step_843 nn e_l2 e_l3 hM_h
                  · refine sm_eq e_l2 rfl ?_ ?_
                    · refine sm_oq_b e_s0 ?_; intro v60 y_v60 e_v60
                      refine sm_is hM_h rfl ?_
                      refine sm_cV (sf_X13_give nn e_v60 hM_h) ?_; intro u62 hM_u62
                      exact sj_X13_step_1150 nn e_l3 hM_u62
                    · refine sm_eq e_l2 rfl ?_ ?_
                      · refine sm_is hM_h rfl ?_
                        refine sm_cP (sf_X13_intOf nn e_s0 hM_h) ?_; intro u64 y_u64 e_u64
                        refine sm_is hM_h rfl ?_
                        refine sm_cV (sf_X13_give nn e_u64 hM_h) ?_; intro u66 hM_u66
                        exact sj_X13_step_1150 nn e_l3 hM_u66
                      · refine sm_eq e_l2 rfl ?_ ?_
                        · exact sj_X13_step_876 nn e_l3 e_s0 hM_h
                        · refine sm_eq e_l2 rfl ?_ ?_
                          · exact sj_X13_step_876 nn e_l3 e_s0 hM_h
                          · refine sm_eq e_l2 rfl ?_ ?_
                            · exact sj_X13_step_958 nn e_l2 hM_h
                            · refine sm_eq e_l2 rfl ?_ ?_
                              · exact sj_X13_step_958 nn e_l2 hM_h
                              · refine sm_eq e_l2 rfl ?_ ?_
                                · exact sj_X13_step_889 nn e_l3 e_s0 hM_h
                                · refine sm_eq e_l2 rfl ?_ ?_
                                  · exact sj_X13_step_889 nn e_l3 e_s0 hM_h
                                  · refine sm_eq e_l2 rfl ?_ ?_
                                    · exact sj_X13_step_958 nn e_l2 hM_h
                                    · refine sm_eq e_l2 rfl ?_ ?_
                                      · exact sj_X13_step_958 nn e_l2 hM_h
                                      · refine sm_eq e_l2 rfl ?_ ?_
                                        · refine sm_is hM_h rfl ?_
                                          refine sm_cI (sf_X13_drop nn hM_h) ?_; intro u68 y_u68 M_u68 e_u68 hM_u68
                                          exact sj_X13_step_1150 nn e_l3 hM_u68
                                        · refine sm_eq e_l2 rfl ?_ ?_
                                          · refine sm_is hM_h rfl ?_
                                            refine sm_cI (sf_X13_drop nn hM_h) ?_; intro u70 y_u70 M_u70 e_u70 hM_u70
                                            refine sm_is hM_u70 rfl ?_
                                            refine sm_cV (sf_X13_give nn e_u70 hM_u70) ?_; intro u72 hM_u72
                                            refine sm_is hM_u72 rfl ?_
                                            refine sm_cV (sf_X13_give nn e_u70 hM_u72) ?_; intro u74 hM_u74
                                            exact sj_X13_step_1150 nn e_l3 hM_u74
                                          · refine sm_eq e_l2 rfl ?_ ?_
                                            · exact sj_X13_step_964 nn e_l2 e_l3 hM_h
                                            · refine sm_eq e_l2 rfl ?_ ?_
                                              · exact sj_X13_step_964 nn e_l2 e_l3 hM_h
                                              · refine sm_eq e_l2 rfl ?_ ?_
                                                · exact sj_X13_step_964 nn e_l2 e_l3 hM_h
                                                · refine sm_eq e_l2 rfl ?_ ?_
                                                  · exact sj_X13_step_964 nn e_l2 e_l3 hM_h
                                                  · refine sm_eq e_l2 rfl ?_ ?_
                                                    · exact sj_X13_step_964 nn e_l2 e_l3 hM_h
                                                    · refine sm_eq e_l2 rfl ?_ ?_
                                                      · refine sm_is hM_h rfl ?_
                                                        refine sm_cI (sf_X13_drop nn hM_h) ?_; intro u76 y_u76 M_u76 e_u76 hM_u76
                                                        refine sm_oq_neg e_u76 ?_; intro v77 y_v77 e_v77
                                                        refine sm_is hM_u76 rfl ?_
                                                        refine sm_cV (sf_X13_give nn e_v77 hM_u76) ?_; intro u79 hM_u79
                                                        exact sj_X13_step_1150 nn e_l3 hM_u79
                                                      · refine sm_eq e_l2 rfl ?_ ?_
                                                        · exact sj_X13_step_964 nn e_l2 e_l3 hM_h
                                                        · refine sm_eq e_l2 rfl ?_ ?_
                                                          · exact sj_X13_step_964 nn e_l2 e_l3 hM_h
                                                          · refine sm_eq e_l2 rfl ?_ ?_
                                                            · exact sj_X13_step_964 nn e_l2 e_l3 hM_h
                                                            · refine sm_eq e_l2 rfl ?_ ?_
                                                              · exact sj_X13_step_964 nn e_l2 e_l3 hM_h
                                                              · refine sm_eq e_l2 rfl ?_ ?_
                                                                · exact sj_X13_step_964 nn e_l2 e_l3 hM_h
                                                                · refine sm_eq e_l2 rfl ?_ ?_
                                                                  · exact sj_X13_step_964 nn e_l2 e_l3 hM_h
                                                                  · refine sm_eq e_l2 rfl ?_ ?_
                                                                    · exact sj_X13_step_1014 nn e_l2 hM_h
                                                                    · refine sm_eq e_l2 rfl ?_ ?_
                                                                      · exact sj_X13_step_1014 nn e_l2 hM_h
                                                                      · refine sm_eq e_l2 rfl ?_ ?_
                                                                        · exact sj_X13_step_1014 nn e_l2 hM_h
                                                                        · refine sm_eq e_l2 rfl ?_ ?_
                                                                          · exact sj_X13_step_1020 nn e_l2 e_l3 e_s0 hM_h
                                                                          · refine sm_eq e_l2 rfl ?_ ?_
                                                                            · exact sj_X13_step_1020 nn e_l2 e_l3 e_s0 hM_h
                                                                            · refine sm_eq e_l2 rfl ?_ ?_
                                                                              · exact sj_X13_step_1029 nn e_l2 e_s0 hM_h
                                                                              · refine sm_eq e_l2 rfl ?_ ?_
                                                                                · exact sj_X13_step_1029 nn e_l2 e_s0 hM_h
                                                                                · refine sm_eq e_l2 rfl ?_ ?_
                                                                                  · refine sm_is hM_h rfl ?_
                                                                                    refine sm_cI (sf_X13_drop nn hM_h) ?_; intro u81 y_u81 M_u81 e_u81 hM_u81
                                                                                    refine sm_gi hM_u81 rfl ?_; intro v82 e_v82
                                                                                    refine sm_le rfl e_v82 ?_ ?_
                                                                                    · exact sj_X13_step_1064 nn e_l3 hM_u81
                                                                                    · refine sm_gr hM_u81 (d := 250) rfl ?_
                                                                                      refine sm_gi hM_u81 rfl ?_; intro v84 e_v84
                                                                                      refine sm_si hM_u81 rfl e_v84 e_u81 ?_; intro h85 hM_h85
                                                                                      exact sj_X13_step_1064 nn e_l3 hM_h85
                                                                                  · refine sm_eq e_l2 rfl ?_ ?_
                                                                                    · exact sj_X13_step_1077 nn e_l2 e_s0 hM_h
                                                                                    · refine sm_eq e_l2 rfl ?_ ?_
                                                                                      · exact sj_X13_step_1077 nn e_l2 e_s0 hM_h
                                                                                      · refine sm_eq e_l2 rfl ?_ ?_
                                                                                        · exact sj_X13_step_1077 nn e_l2 e_s0 hM_h
                                                                                        · refine sm_eq e_l2 rfl ?_ ?_
                                                                                          · exact sj_X13_step_1020 nn e_l2 e_l3 e_s0 hM_h
                                                                                          · refine sm_eq e_l2 rfl ?_ ?_
                                                                                            · refine sm_is hM_h rfl ?_
                                                                                              refine sm_cI (sf_X13_drop nn hM_h) ?_; intro u88 y_u88 M_u88 e_u88 hM_u88
                                                                                              refine sm_ne e_u88 rfl ?_ ?_
                                                                                              · refine sm_is hM_u88 rfl ?_
                                                                                                refine sm_cV (sf_X13_thrown nn e_u88 hM_u88) ?_; intro u90 hM_u90
                                                                                                exact sm_rV hM_u90
                                                                                              · refine sm_is hM_u88 rfl ?_
                                                                                                refine sm_cV (sf_X13_fails nn rfl hM_u88) ?_; intro u92 hM_u92
                                                                                                exact sm_rV hM_u92
                                                                                            · refine sm_eq e_l2 rfl ?_ ?_
                                                                                              · exact sj_X13_step_1111 nn e_l2 e_l3 e_s0 hM_h
                                                                                              · refine sm_eq e_l2 rfl ?_ ?_
                                                                                                · exact sj_X13_step_1111 nn e_l2 e_l3 e_s0 hM_h
                                                                                                · exact sj_X13_step_1122 nn e_l1 e_l2 e_l3 hM_h
set_option maxRecDepth 4000 in
theorem sf_X13_step (nn : Nat) {h : ms_M} (hM_h : Rg_M h) : Sm_ RV_ (f_X13_step nn 160 (H_M h)) (qf_X13_step nn h) := by
  unfold f_X13_step qf_X13_step
  refine sm_gr hM_h (d := 253) rfl ?_
  refine sm_gi hM_h rfl ?_; intro v95 e_v95
  refine sm_oq_sub e_v95 rfl ?_; intro v96 y_v96 e_v96
  refine sm_ai hM_h rfl e_v96 ?_; intro v97 y_v97 e_v97
  refine sm_is hM_h rfl ?_
  refine sm_cP (sf_X13_opAt nn e_v97 hM_h) ?_; intro u99 y_u99 e_u99
  refine sm_cP (sf_X13_widthOf nn e_u99 hM_h) ?_; intro u100 y_u100 e_u100
  refine sm_le e_u100 rfl ?_ ?_
  · exact sj_X13_step_39 nn e_v97 e_u99 e_u100 rfl hM_h
  · refine sm_oq_add e_v97 rfl ?_; intro v101 y_v101 e_v101
    refine sm_is hM_h rfl ?_
    refine sm_cP (sf_X13_opAt nn e_v101 hM_h) ?_; intro u103 y_u103 e_u103
    exact sj_X13_step_39 nn e_v97 e_u99 e_u100 e_u103 hM_h
set_option maxRecDepth 4000 in
theorem sj_X13_run_39 (nn : Nat) {l2 : Int32} {y_l2 : Int} (e_l2 : l2.toInt = y_l2) {h : ms_M} (hM_h : Rg_M h) : Sm_ RI_ (j_X13_run_39 nn 160 l2 (H_M h)) (qj_X13_run_39 nn y_l2 h) := by
  unfold j_X13_run_39 qj_X13_run_39
  refine sm_gi hM_h rfl ?_; intro v1 e_v1
  refine sm_oq_add e_v1 e_l2 ?_; intro v2 y_v2 e_v2
  refine sm_pv hM_h rfl e_v2 ?_; intro h3 hM_h3
  exact sm_rI e_l2 hM_h3
set_option maxRecDepth 4000 in
theorem sw_X13_run_16 (nn : Nat) : ∀ (k : Nat) {l1 : Int32} {y_l1 : Int} (e_l1 : l1.toInt = y_l1) {l2 : Int32} {y_l2 : Int} (e_l2 : l2.toInt = y_l2) {h : ms_M} (hM_h : Rg_M h), Sm_ RI_ (w_X13_run_16 nn k 160 l1 l2 (H_M h)) (qw_X13_run_16 nn k y_l1 y_l2 h) := by
  intro k
  induction k with
  | zero => intros; exact sm_no
  | succ k ih =>
    intro l1 y_l1 e_l1 l2 y_l2 e_l2 h hM_h
    unfold w_X13_run_16 qw_X13_run_16
    refine sm_le e_l1 e_l2 ?_ ?_
    · exact sj_X13_run_39 nn e_l2 hM_h
    · refine sm_gi hM_h rfl ?_; intro v4 e_v4
      refine sm_ne e_v4 rfl ?_ ?_
      · exact sj_X13_run_39 nn e_l2 hM_h
      · refine sm_is hM_h rfl ?_
        refine sm_cV (sf_X13_step nn hM_h) ?_; intro u6 hM_u6
        refine sm_oq_add e_l2 rfl ?_; intro v7 y_v7 e_v7
        exact ih e_l1 e_v7 hM_u6
set_option maxRecDepth 4000 in
theorem sf_X13_run (nn : Nat) {a1 : Int32} {y_a1 : Int} (e_a1 : a1.toInt = y_a1) {h : ms_M} (hM_h : Rg_M h) : Sm_ RI_ (f_X13_run nn 160 a1 (H_M h)) (qf_X13_run nn y_a1 h) := by
  unfold f_X13_run qf_X13_run
  refine sm_lt e_a1 rfl ?_ ?_
  · exact sm_rI rfl hM_h
  · refine sm_le e_a1 rfl ?_ ?_
    · exact sw_X13_run_16 nn nn e_a1 rfl hM_h
    · exact sm_rI rfl hM_h
set_option maxRecDepth 4000 in
theorem sf_X13_kindText (nn : Nat) {a1 : Int32} {y_a1 : Int} (e_a1 : a1.toInt = y_a1) {a2 : Int32} {y_a2 : Int} (e_a2 : a2.toInt = y_a2) {a3 : Int32} {y_a3 : Int} (e_a3 : a3.toInt = y_a3) {h : ms_M} (hM_h : Rg_M h) : Sm_ (RP_ h) (f_X13_kindText nn 160 a1 a2 a3 (H_M h)) (qf_X13_kindText nn y_a1 y_a2 y_a3 h) := by
  unfold f_X13_kindText qf_X13_kindText
  refine sm_eq e_a3 rfl ?_ ?_
  · refine sm_gr hM_h (d := 233) rfl ?_
    refine sm_oq_mul rfl e_a1 ?_; intro v2 y_v2 e_v2
    refine sm_oq_add e_v2 e_a2 ?_; intro v3 y_v3 e_v3
    refine sm_ai hM_h rfl e_v3 ?_; intro v4 y_v4 e_v4
    refine sm_oq_add e_v4 rfl ?_; intro v5 y_v5 e_v5
    refine sm_is hM_h rfl ?_
    refine sm_cP (sf_X13_byteAt nn e_a1 e_v5 hM_h) ?_; intro u7 y_u7 e_u7
    exact sm_rP e_u7
  · refine sm_gr hM_h (d := 235) rfl ?_
    refine sm_oq_mul rfl e_a1 ?_; intro v9 y_v9 e_v9
    refine sm_oq_add e_v9 e_a2 ?_; intro v10 y_v10 e_v10
    refine sm_ai hM_h rfl e_v10 ?_; intro v11 y_v11 e_v11
    refine sm_oq_add e_v11 rfl ?_; intro v12 y_v12 e_v12
    refine sm_is hM_h rfl ?_
    refine sm_cP (sf_X13_byteAt nn e_a1 e_v12 hM_h) ?_; intro u14 y_u14 e_u14
    exact sm_rP e_u14
set_option maxRecDepth 4000 in
theorem sj_X13_start_133 (nn : Nat) {l1 : Int32} {y_l1 : Int} (e_l1 : l1.toInt = y_l1) {l2 : Int32} {y_l2 : Int} (e_l2 : l2.toInt = y_l2) {h : ms_M} (hM_h : Rg_M h) : Sm_ RI_ (j_X13_start_133 nn 160 l1 l2 (H_M h)) (qj_X13_start_133 nn y_l1 y_l2 h) := by
  unfold j_X13_start_133 qj_X13_start_133
  refine sm_pv hM_h rfl rfl ?_; intro h1 hM_h1
  refine sm_is hM_h1 rfl ?_
  refine sm_cV (sf_X13_enter nn e_l1 e_l2 hM_h1) ?_; intro u3 hM_u3
  exact sm_rI rfl hM_u3
set_option maxRecDepth 4000 in
theorem sf_X13_start (nn : Nat) {a1 : Int32} {y_a1 : Int} (e_a1 : a1.toInt = y_a1) {a2 : Int32} {y_a2 : Int} (e_a2 : a2.toInt = y_a2) {h : ms_M} (hM_h : Rg_M h) : Sm_ RI_ (f_X13_start nn 160 a1 a2 (H_M h)) (qf_X13_start nn y_a1 y_a2 h) := by
  unfold f_X13_start qf_X13_start
  refine sm_oq_sub e_a1 rfl ?_; intro v4 y_v4 e_v4
  refine sm_gi hM_h rfl ?_; intro v5 e_v5
  refine sm_eq e_v5 rfl ?_ ?_
  · exact sm_rI rfl hM_h
  · refine sm_lt e_v4 rfl ?_ ?_
    · exact sm_rI rfl hM_h
    · refine sm_gi hM_h rfl ?_; intro v6 e_v6
      refine sm_le e_v6 e_v4 ?_ ?_
      · exact sm_rI rfl hM_h
      · refine sm_lt e_a2 rfl ?_ ?_
        · exact sm_rI rfl hM_h
        · refine sm_gr hM_h (d := 234) rfl ?_
          refine sm_ai hM_h rfl e_v4 ?_; intro v8 y_v8 e_v8
          refine sm_lt e_a2 e_v8 ?_ ?_
          · refine sm_oq_mul rfl e_v4 ?_; intro v9 y_v9 e_v9
            refine sm_gr hM_h (d := 228) rfl ?_
            refine sm_oq_mul rfl e_v4 ?_; intro v11 y_v11 e_v11
            refine sm_is hM_h rfl ?_
            refine sm_cP (sf_X13_kindText nn e_v4 e_a2 rfl hM_h) ?_; intro u13 y_u13 e_u13
            refine sm_oq_add e_v11 e_u13 ?_; intro v14 y_v14 e_v14
            refine sm_ai hM_h rfl e_v14 ?_; intro v15 y_v15 e_v15
            refine sm_oq_add e_v9 e_v15 ?_; intro v16 y_v16 e_v16
            refine sm_oq_add e_v16 rfl ?_; intro v17 y_v17 e_v17
            refine sm_gr hM_h (d := 235) rfl ?_
            refine sm_oq_mul rfl e_v4 ?_; intro v19 y_v19 e_v19
            refine sm_oq_add e_v19 e_a2 ?_; intro v20 y_v20 e_v20
            refine sm_ai hM_h rfl e_v20 ?_; intro v21 y_v21 e_v21
            refine sm_is hM_h rfl ?_
            refine sm_cP (sf_X13_byteAt nn e_v4 e_v21 hM_h) ?_; intro u23 y_u23 e_u23
            refine sm_eq e_u23 rfl ?_ ?_
            · exact sm_rI rfl hM_h
            · refine sm_gr hM_h (d := 226) rfl ?_
              refine sm_oq_add e_v17 rfl ?_; intro v25 y_v25 e_v25
              refine sm_ai hM_h rfl e_v25 ?_; intro v26 y_v26 e_v26
              refine sm_eq e_v26 rfl ?_ ?_
              · refine sm_pv hM_h rfl rfl ?_; intro h27 hM_h27
                refine sm_pv hM_h27 rfl rfl ?_; intro h28 hM_h28
                refine sm_pv hM_h28 rfl rfl ?_; intro h29 hM_h29
                refine sm_pv hM_h29 rfl rfl ?_; intro h30 hM_h30
                refine sm_pv hM_h30 rfl rfl ?_; intro h31 hM_h31
                refine sm_pv hM_h31 rfl rfl ?_; intro h32 hM_h32
                exact sj_X13_start_133 nn e_a1 e_a2 hM_h32
              · exact sm_rI rfl hM_h
          · exact sm_rI rfl hM_h
set_option maxRecDepth 4000 in
theorem sf_X13_type_ (nn : Nat) {a1 : Int32} {y_a1 : Int} (e_a1 : a1.toInt = y_a1) {a2 : Int32} {y_a2 : Int} (e_a2 : a2.toInt = y_a2) {h : ms_M} (hM_h : Rg_M h) : Sm_ (RP_ h) (f_X13_type_ nn 160 a1 a2 (H_M h)) (qf_X13_type_ nn y_a1 y_a2 h) := by
  unfold f_X13_type_ qf_X13_type_
  refine sm_lt e_a1 rfl ?_ ?_
  · exact sm_rP rfl
  · refine sm_gi hM_h rfl ?_; intro v1 e_v1
    refine sm_oq_add rfl e_v1 ?_; intro v2 y_v2 e_v2
    refine sm_le e_v2 e_a1 ?_ ?_
    · exact sm_rP rfl
    · refine sm_lt e_a2 rfl ?_ ?_
      · exact sm_rP rfl
      · refine sm_le e_a2 rfl ?_ ?_
        · refine sm_ne e_a2 rfl ?_ ?_
          · refine sm_oq_sub e_a1 rfl ?_; intro v3 y_v3 e_v3
            refine sm_le rfl e_v3 ?_ ?_
            · refine sm_eq e_a2 rfl ?_ ?_
              · refine sm_gr hM_h (d := 232) rfl ?_
                refine sm_ai hM_h rfl e_v3 ?_; intro v7 y_v7 e_v7
                exact sm_rP e_v7
              · refine sm_eq e_a2 rfl ?_ ?_
                · refine sm_gr hM_h (d := 234) rfl ?_
                  refine sm_ai hM_h rfl e_v3 ?_; intro v9 y_v9 e_v9
                  exact sm_rP e_v9
                · refine sm_eq e_a2 rfl ?_ ?_
                  · refine sm_gr hM_h (d := 227) rfl ?_
                    refine sm_ai hM_h rfl e_v3 ?_; intro v11 y_v11 e_v11
                    exact sm_rP e_v11
                  · refine sm_gr hM_h (d := 229) rfl ?_
                    refine sm_ai hM_h rfl e_v3 ?_; intro v5 y_v5 e_v5
                    exact sm_rP e_v5
            · exact sm_rP rfl
          · refine sm_is hM_h rfl ?_
            refine sm_cP (sf_X13_superOf nn e_a1 hM_h) ?_; intro u14 y_u14 e_u14
            exact sm_rP e_u14
        · exact sm_rP rfl
set_option maxRecDepth 4000 in
theorem sf_X13_bad (nn : Nat) {a1 : Int32} {y_a1 : Int} (e_a1 : a1.toInt = y_a1) {a2 : Int32} {y_a2 : Int} (e_a2 : a2.toInt = y_a2) {a3 : Int32} {y_a3 : Int} (e_a3 : a3.toInt = y_a3) {a4 : Int32} {y_a4 : Int} (e_a4 : a4.toInt = y_a4) {h : ms_M} (hM_h : Rg_M h) : Sm_ RI_ (f_X13_bad nn 160 a1 a2 a3 a4 (H_M h)) (qf_X13_bad nn y_a1 y_a2 y_a3 y_a4 h) := by
  unfold f_X13_bad qf_X13_bad
  refine sm_pv hM_h rfl e_a1 ?_; intro h1 hM_h1
  refine sm_pv hM_h1 rfl e_a2 ?_; intro h2 hM_h2
  refine sm_pv hM_h2 rfl e_a3 ?_; intro h3 hM_h3
  refine sm_pv hM_h3 rfl e_a4 ?_; intro h4 hM_h4
  exact sm_rI rfl hM_h4
set_option maxRecDepth 4000 in
theorem sf_X13_isThere (nn : Nat) {a0 : Int32} {y_a0 : Int} (e_a0 : a0.toInt = y_a0) {h : ms_M} (hM_h : Rg_M h) : Sm_ (RP_ h) (f_X13_isThere nn a0 (H_M h)) (qf_X13_isThere nn y_a0 h) := by
  unfold f_X13_isThere qf_X13_isThere
  refine sm_lt e_a0 rfl ?_ ?_
  · exact sm_rP rfl
  · refine sm_oq_sub e_a0 rfl ?_; intro v1 y_v1 e_v1
    refine sm_div e_v1 ⟨rfl, by decide⟩ ?_; intro v2 y_v2 e_v2
    refine sm_le rfl e_v2 ?_ ?_
    · exact sm_rP rfl
    · exact sm_rP rfl
set_option maxRecDepth 4000 in
theorem sj_X13_nameNumber_102 (nn : Nat) {kk_21 : Nat → Int32 → Int32 → Int32 → mx_H → Option (Int32 × mx_H)} {qkk_21 : Int → Int → Int → ms_M → Option (Int × ms_M)} (hk_kk_21 : ∀ {l1 : Int32} {y_l1 : Int} (e_l1 : l1.toInt = y_l1) {l2 : Int32} {y_l2 : Int} (e_l2 : l2.toInt = y_l2) {l4 : Int32} {y_l4 : Int} (e_l4 : l4.toInt = y_l4) {h : ms_M} (hM_h : Rg_M h), Sm_ RI_ (kk_21 160 l1 l2 l4 (H_M h)) (qkk_21 y_l1 y_l2 y_l4 h)) {l1 : Int32} {y_l1 : Int} (e_l1 : l1.toInt = y_l1) {l2 : Int32} {y_l2 : Int} (e_l2 : l2.toInt = y_l2) {l4 : Int32} {y_l4 : Int} (e_l4 : l4.toInt = y_l4) {l5 : Int32} {y_l5 : Int} (e_l5 : l5.toInt = y_l5) {h : ms_M} (hM_h : Rg_M h) : Sm_ RI_ (j_X13_nameNumber_102 nn kk_21 160 l1 l2 l4 l5 (H_M h)) (qj_X13_nameNumber_102 nn qkk_21 y_l1 y_l2 y_l4 y_l5 h) := by
  unfold j_X13_nameNumber_102 qj_X13_nameNumber_102
  refine sm_eq e_l5 rfl ?_ ?_
  · refine sm_oq_add e_l4 rfl ?_; intro v1 y_v1 e_v1
    exact hk_kk_21 e_l1 e_l2 e_v1 hM_h
  · refine sm_oq_add rfl e_l4 ?_; intro v2 y_v2 e_v2
    exact sm_rI e_v2 hM_h
set_option maxRecDepth 4000 in
theorem sw_X13_nameNumber_51 (nn : Nat) {kk_21 : Nat → Int32 → Int32 → Int32 → mx_H → Option (Int32 × mx_H)} {qkk_21 : Int → Int → Int → ms_M → Option (Int × ms_M)} (hk_kk_21 : ∀ {l1 : Int32} {y_l1 : Int} (e_l1 : l1.toInt = y_l1) {l2 : Int32} {y_l2 : Int} (e_l2 : l2.toInt = y_l2) {l4 : Int32} {y_l4 : Int} (e_l4 : l4.toInt = y_l4) {h : ms_M} (hM_h : Rg_M h), Sm_ RI_ (kk_21 160 l1 l2 l4 (H_M h)) (qkk_21 y_l1 y_l2 y_l4 h)) : ∀ (k : Nat) {l1 : Int32} {y_l1 : Int} (e_l1 : l1.toInt = y_l1) {l2 : Int32} {y_l2 : Int} (e_l2 : l2.toInt = y_l2) {l4 : Int32} {y_l4 : Int} (e_l4 : l4.toInt = y_l4) {l5 : Int32} {y_l5 : Int} (e_l5 : l5.toInt = y_l5) {l6 : Int32} {y_l6 : Int} (e_l6 : l6.toInt = y_l6) {h : ms_M} (hM_h : Rg_M h), Sm_ RI_ (w_X13_nameNumber_51 nn kk_21 k 160 l1 l2 l4 l5 l6 (H_M h)) (qw_X13_nameNumber_51 nn qkk_21 k y_l1 y_l2 y_l4 y_l5 y_l6 h) := by
  intro k
  induction k with
  | zero => intros; exact sm_no
  | succ k ih =>
    intro l1 y_l1 e_l1 l2 y_l2 e_l2 l4 y_l4 e_l4 l5 y_l5 e_l5 l6 y_l6 e_l6 h hM_h
    unfold w_X13_nameNumber_51 qw_X13_nameNumber_51
    refine sm_le e_l2 e_l6 ?_ ?_
    · exact sj_X13_nameNumber_102 nn hk_kk_21 e_l1 e_l2 e_l4 e_l5 hM_h
    · refine sm_eq e_l5 rfl ?_ ?_
      · exact sj_X13_nameNumber_102 nn hk_kk_21 e_l1 e_l2 e_l4 e_l5 hM_h
      · refine sm_gr hM_h (d := 226) rfl ?_
        refine sm_gr hM_h (d := 240) rfl ?_
        refine sm_ai hM_h rfl e_l4 ?_; intro v6 y_v6 e_v6
        refine sm_oq_add e_v6 e_l6 ?_; intro v7 y_v7 e_v7
        refine sm_ai hM_h rfl e_v7 ?_; intro v8 y_v8 e_v8
        refine sm_gr hM_h (d := 226) rfl ?_
        refine sm_oq_add e_l1 e_l6 ?_; intro v10 y_v10 e_v10
        refine sm_ai hM_h rfl e_v10 ?_; intro v11 y_v11 e_v11
        refine sm_ne e_v8 e_v11 ?_ ?_
        · refine sm_oq_add e_l6 rfl ?_; intro v12 y_v12 e_v12
          exact ih e_l1 e_l2 e_l4 rfl e_v12 hM_h
        · refine sm_oq_add e_l6 rfl ?_; intro v13 y_v13 e_v13
          exact ih e_l1 e_l2 e_l4 rfl e_v13 hM_h
set_option maxRecDepth 4000 in
theorem sw_X13_nameNumber_21 (nn : Nat) : ∀ (k : Nat) {l1 : Int32} {y_l1 : Int} (e_l1 : l1.toInt = y_l1) {l2 : Int32} {y_l2 : Int} (e_l2 : l2.toInt = y_l2) {l4 : Int32} {y_l4 : Int} (e_l4 : l4.toInt = y_l4) {h : ms_M} (hM_h : Rg_M h), Sm_ RI_ (w_X13_nameNumber_21 nn k 160 l1 l2 l4 (H_M h)) (qw_X13_nameNumber_21 nn k y_l1 y_l2 y_l4 h) := by
  intro k
  induction k with
  | zero => intros; exact sm_no
  | succ k ih =>
    intro l1 y_l1 e_l1 l2 y_l2 e_l2 l4 y_l4 e_l4 h hM_h
    unfold w_X13_nameNumber_21 qw_X13_nameNumber_21
    refine sm_gi hM_h rfl ?_; intro v17 e_v17
    refine sm_le e_v17 e_l4 ?_ ?_
    · refine sm_gr hM_h (d := 240) rfl ?_
      refine sm_gi hM_h rfl ?_; intro v19 e_v19
      refine sm_si hM_h rfl e_v19 e_l1 ?_; intro h20 hM_h20
      refine sm_gr hM_h20 (d := 241) rfl ?_
      refine sm_gi hM_h20 rfl ?_; intro v22 e_v22
      refine sm_si hM_h20 rfl e_v22 e_l2 ?_; intro h23 hM_h23
      refine sm_gi hM_h23 rfl ?_; intro v24 e_v24
      refine sm_oq_add e_v24 rfl ?_; intro v25 y_v25 e_v25
      refine sm_pv hM_h23 rfl e_v25 ?_; intro h26 hM_h26
      refine sm_gi hM_h26 rfl ?_; intro v27 e_v27
      refine sm_oq_add rfl e_v27 ?_; intro v28 y_v28 e_v28
      refine sm_oq_sub e_v28 rfl ?_; intro v29 y_v29 e_v29
      exact sm_rI e_v29 hM_h26
    · refine sm_gr hM_h (d := 241) rfl ?_
      refine sm_ai hM_h rfl e_l4 ?_; intro v31 y_v31 e_v31
      refine sm_ne e_v31 e_l2 ?_ ?_
      · exact sw_X13_nameNumber_51 nn ih nn e_l1 e_l2 e_l4 rfl rfl hM_h
      · exact sw_X13_nameNumber_51 nn ih nn e_l1 e_l2 e_l4 rfl rfl hM_h
set_option maxRecDepth 4000 in
theorem sf_X13_nameNumber (nn : Nat) {a1 : Int32} {y_a1 : Int} (e_a1 : a1.toInt = y_a1) {a2 : Int32} {y_a2 : Int} (e_a2 : a2.toInt = y_a2) {h : ms_M} (hM_h : Rg_M h) : Sm_ RI_ (f_X13_nameNumber nn 160 a1 a2 (H_M h)) (qf_X13_nameNumber nn y_a1 y_a2 h) := by
  unfold f_X13_nameNumber qf_X13_nameNumber
  refine sm_gr hM_h (d := 226) rfl ?_
  refine sm_is hM_h rfl ?_
  refine sm_cP (sf_X13_classNamed nn _ e_a1 e_a2 hM_h) ?_; intro u36 y_u36 e_u36
  refine sm_eq e_u36 rfl ?_ ?_
  · exact sw_X13_nameNumber_21 nn nn e_a1 e_a2 rfl hM_h
  · exact sm_rI e_u36 hM_h
set_option maxRecDepth 4000 in
theorem sw_X13_typeAt_75 (nn : Nat) : ∀ (k : Nat) {l2 : Int32} {y_l2 : Int} (e_l2 : l2.toInt = y_l2) {l3 : Int32} {y_l3 : Int} (e_l3 : l3.toInt = y_l3) {l4 : Int32} {y_l4 : Int} (e_l4 : l4.toInt = y_l4) {h : ms_M} (hM_h : Rg_M h), Sm_ RI_ (w_X13_typeAt_75 nn k 160 l2 l3 l4 (H_M h)) (qw_X13_typeAt_75 nn k y_l2 y_l3 y_l4 h) := by
  intro k
  induction k with
  | zero => intros; exact sm_no
  | succ k ih =>
    intro l2 y_l2 e_l2 l3 y_l3 e_l3 l4 y_l4 e_l4 h hM_h
    unfold w_X13_typeAt_75 qw_X13_typeAt_75
    refine sm_gr hM_h (d := 226) rfl ?_
    refine sm_ai hM_h rfl e_l4 ?_; intro v2 y_v2 e_v2
    refine sm_eq e_v2 rfl ?_ ?_
    · refine sm_oq_add e_l4 rfl ?_; intro v3 y_v3 e_v3
      refine sm_pv hM_h rfl e_v3 ?_; intro h4 hM_h4
      refine sm_oq_add e_l3 rfl ?_; intro v5 y_v5 e_v5
      refine sm_oq_sub e_l4 e_l3 ?_; intro v6 y_v6 e_v6
      refine sm_oq_sub e_v6 rfl ?_; intro v7 y_v7 e_v7
      refine sm_is hM_h4 rfl ?_
      refine sm_cI (sf_X13_nameNumber nn e_v5 e_v7 hM_h4) ?_; intro u9 y_u9 M_u9 e_u9 hM_u9
      refine sm_oq_mul rfl e_u9 ?_; intro v10 y_v10 e_v10
      refine sm_oq_add rfl e_v10 ?_; intro v11 y_v11 e_v11
      refine sm_ne e_l2 rfl ?_ ?_
      · refine sm_oq_add e_v11 rfl ?_; intro v12 y_v12 e_v12
        exact sm_rI e_v12 hM_u9
      · refine sm_oq_add e_v11 rfl ?_; intro v13 y_v13 e_v13
        exact sm_rI e_v13 hM_u9
    · refine sm_oq_add e_l4 rfl ?_; intro v15 y_v15 e_v15
      exact ih e_l2 e_l3 e_v15 hM_h
set_option maxRecDepth 4000 in
theorem sj_X13_typeAt_49 (nn : Nat) {l2 : Int32} {y_l2 : Int} (e_l2 : l2.toInt = y_l2) {s0 : Int32} {y_s0 : Int} (e_s0 : s0.toInt = y_s0) {h : ms_M} (hM_h : Rg_M h) : Sm_ RI_ (j_X13_typeAt_49 nn 160 l2 s0 (H_M h)) (qj_X13_typeAt_49 nn y_l2 y_s0 h) := by
  unfold j_X13_typeAt_49 qj_X13_typeAt_49
  refine sm_gr hM_h (d := 226) rfl ?_
  refine sm_ai hM_h rfl e_s0 ?_; intro v18 y_v18 e_v18
  refine sm_ne e_v18 rfl ?_ ?_
  · refine sm_oq_add e_s0 rfl ?_; intro v19 y_v19 e_v19
    exact sw_X13_typeAt_75 nn nn e_l2 e_s0 e_v19 hM_h
  · refine sm_oq_add e_s0 rfl ?_; intro v20 y_v20 e_v20
    refine sm_pv hM_h rfl e_v20 ?_; intro h21 hM_h21
    exact sm_rI rfl hM_h21
set_option maxRecDepth 4000 in
theorem sf_X13_typeAt (nn : Nat) {a1 : Int32} {y_a1 : Int} (e_a1 : a1.toInt = y_a1) {h : ms_M} (hM_h : Rg_M h) : Sm_ RI_ (f_X13_typeAt nn 160 a1 (H_M h)) (qf_X13_typeAt nn y_a1 h) := by
  unfold f_X13_typeAt qf_X13_typeAt
  refine sm_gr hM_h (d := 226) rfl ?_
  refine sm_ai hM_h rfl e_a1 ?_; intro v24 y_v24 e_v24
  refine sm_oq_add e_a1 rfl ?_; intro v25 y_v25 e_v25
  refine sm_pv hM_h rfl e_v25 ?_; intro h26 hM_h26
  refine sm_eq e_v24 rfl ?_ ?_
  · exact sm_rI rfl hM_h26
  · refine sm_ne e_v24 rfl ?_ ?_
    · refine sm_ne e_v24 rfl ?_ ?_
      · refine sm_ne e_v24 rfl ?_ ?_
        · exact sj_X13_typeAt_49 nn e_v24 e_a1 hM_h26
        · refine sm_oq_add e_a1 rfl ?_; intro v27 y_v27 e_v27
          exact sj_X13_typeAt_49 nn e_v24 e_v27 hM_h26
      · exact sm_rI rfl hM_h26
    · exact sm_rI rfl hM_h26
set_option maxRecDepth 4000 in
theorem sf_X13_kindType (nn : Nat) {a1 : Int32} {y_a1 : Int} (e_a1 : a1.toInt = y_a1) {a2 : Int32} {y_a2 : Int} (e_a2 : a2.toInt = y_a2) {h : ms_M} (hM_h : Rg_M h) : Sm_ RI_ (f_X13_kindType nn 160 a1 a2 (H_M h)) (qf_X13_kindType nn y_a1 y_a2 h) := by
  unfold f_X13_kindType qf_X13_kindType
  refine sm_oq_mul rfl e_a1 ?_; intro v1 y_v1 e_v1
  refine sm_gr hM_h (d := 228) rfl ?_
  refine sm_oq_mul rfl e_a1 ?_; intro v3 y_v3 e_v3
  refine sm_oq_add e_v3 e_a2 ?_; intro v4 y_v4 e_v4
  refine sm_ai hM_h rfl e_v4 ?_; intro v5 y_v5 e_v5
  refine sm_oq_add e_v1 e_v5 ?_; intro v6 y_v6 e_v6
  refine sm_oq_add e_v6 rfl ?_; intro v7 y_v7 e_v7
  refine sm_is hM_h rfl ?_
  refine sm_cI (sf_X13_typeAt nn e_v7 hM_h) ?_; intro u9 y_u9 M_u9 e_u9 hM_u9
  exact sm_rI e_u9 hM_u9
set_option maxRecDepth 4000 in
theorem sj_X13_kindsAreThere_141 (nn : Nat) {kk_42 : Nat → Int32 → Int32 → Int32 → mx_H → Option (Int32 × mx_H)} {qkk_42 : Int → Int → Int → ms_M → Option (Int × ms_M)} (hk_kk_42 : ∀ {l1 : Int32} {y_l1 : Int} (e_l1 : l1.toInt = y_l1) {l2 : Int32} {y_l2 : Int} (e_l2 : l2.toInt = y_l2) {l3 : Int32} {y_l3 : Int} (e_l3 : l3.toInt = y_l3) {h : ms_M} (hM_h : Rg_M h), Sm_ RI_ (kk_42 160 l1 l2 l3 (H_M h)) (qkk_42 y_l1 y_l2 y_l3 h)) {l1 : Int32} {y_l1 : Int} (e_l1 : l1.toInt = y_l1) {l3 : Int32} {y_l3 : Int} (e_l3 : l3.toInt = y_l3) {h : ms_M} (hM_h : Rg_M h) : Sm_ RI_ (j_X13_kindsAreThere_141 nn kk_42 160 l1 l3 (H_M h)) (qj_X13_kindsAreThere_141 nn qkk_42 y_l1 y_l3 h) := by
  unfold j_X13_kindsAreThere_141 qj_X13_kindsAreThere_141
  refine sm_oq_add e_l3 rfl ?_; intro v1 y_v1 e_v1
  exact hk_kk_42 e_l1 rfl e_v1 hM_h
set_option maxRecDepth 4000 in
theorem sj_X13_kindsAreThere_119 (nn : Nat) {kk_42 : Nat → Int32 → Int32 → Int32 → mx_H → Option (Int32 × mx_H)} {qkk_42 : Int → Int → Int → ms_M → Option (Int × ms_M)} (hk_kk_42 : ∀ {l1 : Int32} {y_l1 : Int} (e_l1 : l1.toInt = y_l1) {l2 : Int32} {y_l2 : Int} (e_l2 : l2.toInt = y_l2) {l3 : Int32} {y_l3 : Int} (e_l3 : l3.toInt = y_l3) {h : ms_M} (hM_h : Rg_M h), Sm_ RI_ (kk_42 160 l1 l2 l3 (H_M h)) (qkk_42 y_l1 y_l2 y_l3 h)) {l1 : Int32} {y_l1 : Int} (e_l1 : l1.toInt = y_l1) {l2 : Int32} {y_l2 : Int} (e_l2 : l2.toInt = y_l2) {l3 : Int32} {y_l3 : Int} (e_l3 : l3.toInt = y_l3) {l4 : Int32} {y_l4 : Int} (e_l4 : l4.toInt = y_l4) {h : ms_M} (hM_h : Rg_M h) : Sm_ RI_ (j_X13_kindsAreThere_119 nn kk_42 160 l1 l2 l3 l4 (H_M h)) (qj_X13_kindsAreThere_119 nn qkk_42 y_l1 y_l2 y_l3 y_l4 h) := by
  unfold j_X13_kindsAreThere_119 qj_X13_kindsAreThere_119
  refine sm_eq e_l2 rfl ?_ ?_
  · exact sj_X13_kindsAreThere_141 nn hk_kk_42 e_l1 e_l3 hM_h
  · refine sm_oq_add e_l4 rfl ?_; intro v2 y_v2 e_v2
    refine sm_is hM_h rfl ?_
    refine sm_cI (sf_X13_typeAt nn e_v2 hM_h) ?_; intro u4 y_u4 M_u4 e_u4 hM_u4
    refine sm_cP (sf_X13_isThere nn e_u4 hM_u4) ?_; intro u5 y_u5 e_u5
    refine sm_eq e_u5 rfl ?_ ?_
    · exact sj_X13_kindsAreThere_141 nn hk_kk_42 e_l1 e_l3 hM_u4
    · refine sm_oq_add e_l3 rfl ?_; intro v6 y_v6 e_v6
      exact hk_kk_42 e_l1 rfl e_v6 hM_u4
set_option maxRecDepth 4000 in
theorem sw_X13_kindsAreThere_84 (nn : Nat) {kk_42 : Nat → Int32 → Int32 → Int32 → mx_H → Option (Int32 × mx_H)} {qkk_42 : Int → Int → Int → ms_M → Option (Int × ms_M)} (hk_kk_42 : ∀ {l1 : Int32} {y_l1 : Int} (e_l1 : l1.toInt = y_l1) {l2 : Int32} {y_l2 : Int} (e_l2 : l2.toInt = y_l2) {l3 : Int32} {y_l3 : Int} (e_l3 : l3.toInt = y_l3) {h : ms_M} (hM_h : Rg_M h), Sm_ RI_ (kk_42 160 l1 l2 l3 (H_M h)) (qkk_42 y_l1 y_l2 y_l3 h)) : ∀ (k : Nat) {l1 : Int32} {y_l1 : Int} (e_l1 : l1.toInt = y_l1) {l2 : Int32} {y_l2 : Int} (e_l2 : l2.toInt = y_l2) {l3 : Int32} {y_l3 : Int} (e_l3 : l3.toInt = y_l3) {l4 : Int32} {y_l4 : Int} (e_l4 : l4.toInt = y_l4) {h : ms_M} (hM_h : Rg_M h), Sm_ RI_ (w_X13_kindsAreThere_84 nn kk_42 k 160 l1 l2 l3 l4 (H_M h)) (qw_X13_kindsAreThere_84 nn qkk_42 k y_l1 y_l2 y_l3 y_l4 h) := by
  intro k
  induction k with
  | zero => intros; exact sm_no
  | succ k ih =>
    intro l1 y_l1 e_l1 l2 y_l2 e_l2 l3 y_l3 e_l3 l4 y_l4 e_l4 h hM_h
    unfold w_X13_kindsAreThere_84 qw_X13_kindsAreThere_84
    refine sm_gr hM_h (d := 226) rfl ?_
    refine sm_ai hM_h rfl e_l4 ?_; intro v10 y_v10 e_v10
    refine sm_eq e_v10 rfl ?_ ?_
    · exact sj_X13_kindsAreThere_119 nn hk_kk_42 e_l1 e_l2 e_l3 e_l4 hM_h
    · refine sm_eq e_l2 rfl ?_ ?_
      · exact sj_X13_kindsAreThere_119 nn hk_kk_42 e_l1 e_l2 e_l3 e_l4 hM_h
      · refine sm_is hM_h rfl ?_
        refine sm_cI (sf_X13_typeAt nn e_l4 hM_h) ?_; intro u12 y_u12 M_u12 e_u12 hM_u12
        refine sm_cP (sf_X13_isThere nn e_u12 hM_u12) ?_; intro u13 y_u13 e_u13
        refine sm_gi hM_u12 rfl ?_; intro v14 e_v14
        exact ih e_l1 e_u13 e_l3 e_v14 hM_u12
set_option maxRecDepth 4000 in
theorem sw_X13_kindsAreThere_42 (nn : Nat) : ∀ (k : Nat) {l1 : Int32} {y_l1 : Int} (e_l1 : l1.toInt = y_l1) {l2 : Int32} {y_l2 : Int} (e_l2 : l2.toInt = y_l2) {l3 : Int32} {y_l3 : Int} (e_l3 : l3.toInt = y_l3) {h : ms_M} (hM_h : Rg_M h), Sm_ RI_ (w_X13_kindsAreThere_42 nn k 160 l1 l2 l3 (H_M h)) (qw_X13_kindsAreThere_42 nn k y_l1 y_l2 y_l3 h) := by
  intro k
  induction k with
  | zero => intros; exact sm_no
  | succ k ih =>
    intro l1 y_l1 e_l1 l2 y_l2 e_l2 l3 y_l3 e_l3 h hM_h
    unfold w_X13_kindsAreThere_42 qw_X13_kindsAreThere_42
    refine sm_gr hM_h (d := 234) rfl ?_
    refine sm_ai hM_h rfl e_l1 ?_; intro v18 y_v18 e_v18
    refine sm_le e_v18 e_l3 ?_ ?_
    · refine sm_bq e_l2 ?_
      exact sm_rI e_l2 hM_h
    · refine sm_eq e_l2 rfl ?_ ?_
      · refine sm_bq e_l2 ?_
        exact sm_rI e_l2 hM_h
      · refine sm_oq_mul rfl e_l1 ?_; intro v21 y_v21 e_v21
        refine sm_gr hM_h (d := 228) rfl ?_
        refine sm_oq_mul rfl e_l1 ?_; intro v23 y_v23 e_v23
        refine sm_is hM_h rfl ?_
        refine sm_cP (sf_X13_kindText nn e_l1 e_l3 rfl hM_h) ?_; intro u25 y_u25 e_u25
        refine sm_oq_add e_v23 e_u25 ?_; intro v26 y_v26 e_v26
        refine sm_ai hM_h rfl e_v26 ?_; intro v27 y_v27 e_v27
        refine sm_oq_add e_v21 e_v27 ?_; intro v28 y_v28 e_v28
        refine sm_oq_add e_v28 rfl ?_; intro v29 y_v29 e_v29
        exact sw_X13_kindsAreThere_84 nn ih nn e_l1 e_l2 e_l3 e_v29 hM_h
set_option maxRecDepth 4000 in
theorem sw_X13_kindsAreThere_4 (nn : Nat) : ∀ (k : Nat) {l1 : Int32} {y_l1 : Int} (e_l1 : l1.toInt = y_l1) {l2 : Int32} {y_l2 : Int} (e_l2 : l2.toInt = y_l2) {l3 : Int32} {y_l3 : Int} (e_l3 : l3.toInt = y_l3) {h : ms_M} (hM_h : Rg_M h), Sm_ RI_ (w_X13_kindsAreThere_4 nn k 160 l1 l2 l3 (H_M h)) (qw_X13_kindsAreThere_4 nn k y_l1 y_l2 y_l3 h) := by
  intro k
  induction k with
  | zero => intros; exact sm_no
  | succ k ih =>
    intro l1 y_l1 e_l1 l2 y_l2 e_l2 l3 y_l3 e_l3 h hM_h
    unfold w_X13_kindsAreThere_4 qw_X13_kindsAreThere_4
    refine sm_gr hM_h (d := 232) rfl ?_
    refine sm_ai hM_h rfl e_l1 ?_; intro v33 y_v33 e_v33
    refine sm_le e_v33 e_l3 ?_ ?_
    · exact sw_X13_kindsAreThere_42 nn nn e_l1 e_l2 rfl hM_h
    · refine sm_eq e_l2 rfl ?_ ?_
      · exact sw_X13_kindsAreThere_42 nn nn e_l1 e_l2 rfl hM_h
      · refine sm_is hM_h rfl ?_
        refine sm_cP (sf_X13_kindText nn e_l1 e_l3 rfl hM_h) ?_; intro u35 y_u35 e_u35
        refine sm_is hM_h rfl ?_
        refine sm_cI (sf_X13_kindType nn e_l1 e_u35 hM_h) ?_; intro u37 y_u37 M_u37 e_u37 hM_u37
        refine sm_cP (sf_X13_isThere nn e_u37 hM_u37) ?_; intro u38 y_u38 e_u38
        refine sm_oq_add e_l3 rfl ?_; intro v39 y_v39 e_v39
        exact ih e_l1 e_u38 e_v39 hM_u37
set_option maxRecDepth 4000 in
theorem sf_X13_kindsAreThere (nn : Nat) {a1 : Int32} {y_a1 : Int} (e_a1 : a1.toInt = y_a1) {h : ms_M} (hM_h : Rg_M h) : Sm_ RI_ (f_X13_kindsAreThere nn 160 a1 (H_M h)) (qf_X13_kindsAreThere nn y_a1 h) := by
  unfold f_X13_kindsAreThere qf_X13_kindsAreThere
  exact sw_X13_kindsAreThere_4 nn nn e_a1 rfl rfl hM_h
set_option maxRecDepth 4000 in
theorem sf_X13_nameText (nn : Nat) {a1 : Int32} {y_a1 : Int} (e_a1 : a1.toInt = y_a1) {a2 : Int32} {y_a2 : Int} (e_a2 : a2.toInt = y_a2) {a3 : Int32} {y_a3 : Int} (e_a3 : a3.toInt = y_a3) {h : ms_M} (hM_h : Rg_M h) : Sm_ (RP_ h) (f_X13_nameText nn 160 a1 a2 a3 (H_M h)) (qf_X13_nameText nn y_a1 y_a2 y_a3 h) := by
  unfold f_X13_nameText qf_X13_nameText
  refine sm_eq e_a3 rfl ?_ ?_
  · refine sm_gr hM_h (d := 233) rfl ?_
    refine sm_oq_mul rfl e_a1 ?_; intro v2 y_v2 e_v2
    refine sm_oq_add e_v2 e_a2 ?_; intro v3 y_v3 e_v3
    refine sm_ai hM_h rfl e_v3 ?_; intro v4 y_v4 e_v4
    refine sm_is hM_h rfl ?_
    refine sm_cP (sf_X13_byteAt nn e_a1 e_v4 hM_h) ?_; intro u6 y_u6 e_u6
    exact sm_rP e_u6
  · refine sm_gr hM_h (d := 235) rfl ?_
    refine sm_oq_mul rfl e_a1 ?_; intro v8 y_v8 e_v8
    refine sm_oq_add e_v8 e_a2 ?_; intro v9 y_v9 e_v9
    refine sm_ai hM_h rfl e_v9 ?_; intro v10 y_v10 e_v10
    refine sm_oq_add e_v10 rfl ?_; intro v11 y_v11 e_v11
    refine sm_is hM_h rfl ?_
    refine sm_cP (sf_X13_byteAt nn e_a1 e_v11 hM_h) ?_; intro u13 y_u13 e_u13
    exact sm_rP e_u13
set_option maxRecDepth 4000 in
theorem sj_X13_classFits_331 (nn : Nat) {l1 : Int32} {y_l1 : Int} (e_l1 : l1.toInt = y_l1) {h : ms_M} (hM_h : Rg_M h) : Sm_ RI_ (j_X13_classFits_331 nn 160 l1 (H_M h)) (qj_X13_classFits_331 nn y_l1 h) := by
  unfold j_X13_classFits_331 qj_X13_classFits_331
  refine sm_is hM_h rfl ?_
  refine sm_cI (sf_X13_bad nn rfl e_l1 rfl rfl hM_h) ?_; intro u2 y_u2 M_u2 e_u2 hM_u2
  refine sm_bq e_u2 ?_
  exact sm_rI e_u2 hM_u2
set_option maxRecDepth 4000 in
theorem sw_X13_classFits_204 (nn : Nat) : ∀ (k : Nat) {l1 : Int32} {y_l1 : Int} (e_l1 : l1.toInt = y_l1) {l2 : Int32} {y_l2 : Int} (e_l2 : l2.toInt = y_l2) {l4 : Int32} {y_l4 : Int} (e_l4 : l4.toInt = y_l4) {h : ms_M} (hM_h : Rg_M h), Sm_ RI_ (w_X13_classFits_204 nn k 160 l1 l2 l4 (H_M h)) (qw_X13_classFits_204 nn k y_l1 y_l2 y_l4 h) := by
  intro k
  induction k with
  | zero => intros; exact sm_no
  | succ k ih =>
    intro l1 y_l1 e_l1 l2 y_l2 e_l2 l4 y_l4 e_l4 h hM_h
    unfold w_X13_classFits_204 qw_X13_classFits_204
    refine sm_gr hM_h (d := 234) rfl ?_
    refine sm_ai hM_h rfl e_l2 ?_; intro v5 y_v5 e_v5
    refine sm_le e_v5 e_l4 ?_ ?_
    · exact sm_rI rfl hM_h
    · refine sm_is hM_h rfl ?_
      refine sm_cP (sf_X13_superOf nn e_l1 hM_h) ?_; intro u7 y_u7 e_u7
      refine sm_is hM_h rfl ?_
      refine sm_cP (sf_X13_nameText nn e_l2 e_l4 rfl hM_h) ?_; intro u9 y_u9 e_u9
      refine sm_is hM_h rfl ?_
      refine sm_cI (sf_X13_holder nn e_u7 e_l2 e_u9 rfl hM_h) ?_; intro u11 y_u11 M_u11 e_u11 hM_u11
      refine sm_ne e_u11 rfl ?_ ?_
      · refine sm_oq_sub e_u11 rfl ?_; intro v12 y_v12 e_v12
        refine sm_gi hM_u11 rfl ?_; intro v13 e_v13
        refine sm_is hM_u11 rfl ?_
        refine sm_cP (sf_X13_kindText nn e_v12 e_v13 rfl hM_u11) ?_; intro u15 y_u15 e_u15
        refine sm_is hM_u11 rfl ?_
        refine sm_cP (sf_X13_kindText nn e_l2 e_l4 rfl hM_u11) ?_; intro u17 y_u17 e_u17
        refine sm_is hM_u11 rfl ?_
        refine sm_cP (sf_X13_sameText nn e_v12 e_u15 e_l2 e_u17 hM_u11) ?_; intro u19 y_u19 e_u19
        refine sm_eq e_u19 rfl ?_ ?_
        · exact sj_X13_classFits_331 nn e_l1 hM_u11
        · refine sm_gr hM_u11 (d := 235) rfl ?_
          refine sm_oq_mul rfl e_v12 ?_; intro v21 y_v21 e_v21
          refine sm_gi hM_u11 rfl ?_; intro v22 e_v22
          refine sm_oq_add e_v21 e_v22 ?_; intro v23 y_v23 e_v23
          refine sm_ai hM_u11 rfl e_v23 ?_; intro v24 y_v24 e_v24
          refine sm_is hM_u11 rfl ?_
          refine sm_cP (sf_X13_byteAt nn e_v12 e_v24 hM_u11) ?_; intro u26 y_u26 e_u26
          refine sm_eq e_u26 rfl ?_ ?_
          · exact sj_X13_classFits_331 nn e_l1 hM_u11
          · refine sm_gr hM_u11 (d := 235) rfl ?_
            refine sm_oq_mul rfl e_l2 ?_; intro v28 y_v28 e_v28
            refine sm_oq_add e_v28 e_l4 ?_; intro v29 y_v29 e_v29
            refine sm_ai hM_u11 rfl e_v29 ?_; intro v30 y_v30 e_v30
            refine sm_is hM_u11 rfl ?_
            refine sm_cP (sf_X13_byteAt nn e_l2 e_v30 hM_u11) ?_; intro u32 y_u32 e_u32
            refine sm_ne e_u32 rfl ?_ ?_
            · refine sm_oq_add e_l4 rfl ?_; intro v33 y_v33 e_v33
              exact ih e_l1 e_l2 e_v33 hM_u11
            · exact sj_X13_classFits_331 nn e_l1 hM_u11
      · refine sm_oq_add e_l4 rfl ?_; intro v37 y_v37 e_v37
        exact ih e_l1 e_l2 e_v37 hM_u11
set_option maxRecDepth 4000 in
theorem sj_X13_classFits_165 (nn : Nat) {kk_77 : Nat → Int32 → Int32 → Int32 → mx_H → Option (Int32 × mx_H)} {qkk_77 : Int → Int → Int → ms_M → Option (Int × ms_M)} (hk_kk_77 : ∀ {l1 : Int32} {y_l1 : Int} (e_l1 : l1.toInt = y_l1) {l2 : Int32} {y_l2 : Int} (e_l2 : l2.toInt = y_l2) {l4 : Int32} {y_l4 : Int} (e_l4 : l4.toInt = y_l4) {h : ms_M} (hM_h : Rg_M h), Sm_ RI_ (kk_77 160 l1 l2 l4 (H_M h)) (qkk_77 y_l1 y_l2 y_l4 h)) {kk_109 : Nat → Int32 → Int32 → Int32 → Int32 → Int32 → mx_H → Option (Int32 × mx_H)} {qkk_109 : Int → Int → Int → Int → Int → ms_M → Option (Int × ms_M)} (hk_kk_109 : ∀ {l1 : Int32} {y_l1 : Int} (e_l1 : l1.toInt = y_l1) {l2 : Int32} {y_l2 : Int} (e_l2 : l2.toInt = y_l2) {l4 : Int32} {y_l4 : Int} (e_l4 : l4.toInt = y_l4) {l5 : Int32} {y_l5 : Int} (e_l5 : l5.toInt = y_l5) {l6 : Int32} {y_l6 : Int} (e_l6 : l6.toInt = y_l6) {h : ms_M} (hM_h : Rg_M h), Sm_ RI_ (kk_109 160 l1 l2 l4 l5 l6 (H_M h)) (qkk_109 y_l1 y_l2 y_l4 y_l5 y_l6 h)) {kk_122 : Nat → Int32 → Int32 → Int32 → Int32 → Int32 → Int32 → mx_H → Option (Int32 × mx_H)} {qkk_122 : Int → Int → Int → Int → Int → Int → ms_M → Option (Int × ms_M)} (hk_kk_122 : ∀ {l1 : Int32} {y_l1 : Int} (e_l1 : l1.toInt = y_l1) {l2 : Int32} {y_l2 : Int} (e_l2 : l2.toInt = y_l2) {l4 : Int32} {y_l4 : Int} (e_l4 : l4.toInt = y_l4) {l5 : Int32} {y_l5 : Int} (e_l5 : l5.toInt = y_l5) {l6 : Int32} {y_l6 : Int} (e_l6 : l6.toInt = y_l6) {l7 : Int32} {y_l7 : Int} (e_l7 : l7.toInt = y_l7) {h : ms_M} (hM_h : Rg_M h), Sm_ RI_ (kk_122 160 l1 l2 l4 l5 l6 l7 (H_M h)) (qkk_122 y_l1 y_l2 y_l4 y_l5 y_l6 y_l7 h)) {l1 : Int32} {y_l1 : Int} (e_l1 : l1.toInt = y_l1) {l2 : Int32} {y_l2 : Int} (e_l2 : l2.toInt = y_l2) {l4 : Int32} {y_l4 : Int} (e_l4 : l4.toInt = y_l4) {l5 : Int32} {y_l5 : Int} (e_l5 : l5.toInt = y_l5) {l6 : Int32} {y_l6 : Int} (e_l6 : l6.toInt = y_l6) {l7 : Int32} {y_l7 : Int} (e_l7 : l7.toInt = y_l7) {s0 : Int32} {y_s0 : Int} (e_s0 : s0.toInt = y_s0) {s1 : Int32} {y_s1 : Int} (e_s1 : s1.toInt = y_s1) {s2 : Int32} {y_s2 : Int} (e_s2 : s2.toInt = y_s2) {s4 : Int32} {y_s4 : Int} (e_s4 : s4.toInt = y_s4) {s5 : Int32} {y_s5 : Int} (e_s5 : s5.toInt = y_s5) {s6 : Int32} {y_s6 : Int} (e_s6 : s6.toInt = y_s6) {h : ms_M} (hM_h : Rg_M h) : Sm_ RI_ (j_X13_classFits_165 nn kk_77 kk_109 kk_122 160 l1 l2 l4 l5 l6 l7 s0 s1 s2 160 s4 s5 s6 160 (H_M h)) (qj_X13_classFits_165 nn qkk_77 qkk_109 qkk_122 y_l1 y_l2 y_l4 y_l5 y_l6 y_l7 y_s0 y_s1 y_s2 y_s4 y_s5 y_s6 h) := by
  unfold j_X13_classFits_165 qj_X13_classFits_165
  refine sm_is hM_h rfl ?_
  refine sm_cP (sf_X13_nameText nn e_s2 e_s1 e_s0 hM_h) ?_; intro u41 y_u41 e_u41
  refine sm_is hM_h rfl ?_
  refine sm_cP (sf_X13_sameText nn e_s6 e_s5 e_s4 e_u41 hM_h) ?_; intro u43 y_u43 e_u43
  refine sm_eq e_u43 rfl ?_ ?_
  · refine sm_oq_add e_l7 rfl ?_; intro v44 y_v44 e_v44
    exact hk_kk_122 e_l1 e_l2 e_l4 e_l5 e_l6 e_v44 hM_h
  · refine sm_is hM_h rfl ?_
    refine sm_cI (sf_X13_bad nn rfl e_l1 rfl rfl hM_h) ?_; intro u46 y_u46 M_u46 e_u46 hM_u46
    refine sm_bq e_u46 ?_
    exact sm_rI e_u46 hM_u46
set_option maxRecDepth 4000 in
theorem sj_X13_classFits_146 (nn : Nat) {kk_77 : Nat → Int32 → Int32 → Int32 → mx_H → Option (Int32 × mx_H)} {qkk_77 : Int → Int → Int → ms_M → Option (Int × ms_M)} (hk_kk_77 : ∀ {l1 : Int32} {y_l1 : Int} (e_l1 : l1.toInt = y_l1) {l2 : Int32} {y_l2 : Int} (e_l2 : l2.toInt = y_l2) {l4 : Int32} {y_l4 : Int} (e_l4 : l4.toInt = y_l4) {h : ms_M} (hM_h : Rg_M h), Sm_ RI_ (kk_77 160 l1 l2 l4 (H_M h)) (qkk_77 y_l1 y_l2 y_l4 h)) {kk_109 : Nat → Int32 → Int32 → Int32 → Int32 → Int32 → mx_H → Option (Int32 × mx_H)} {qkk_109 : Int → Int → Int → Int → Int → ms_M → Option (Int × ms_M)} (hk_kk_109 : ∀ {l1 : Int32} {y_l1 : Int} (e_l1 : l1.toInt = y_l1) {l2 : Int32} {y_l2 : Int} (e_l2 : l2.toInt = y_l2) {l4 : Int32} {y_l4 : Int} (e_l4 : l4.toInt = y_l4) {l5 : Int32} {y_l5 : Int} (e_l5 : l5.toInt = y_l5) {l6 : Int32} {y_l6 : Int} (e_l6 : l6.toInt = y_l6) {h : ms_M} (hM_h : Rg_M h), Sm_ RI_ (kk_109 160 l1 l2 l4 l5 l6 (H_M h)) (qkk_109 y_l1 y_l2 y_l4 y_l5 y_l6 h)) {kk_122 : Nat → Int32 → Int32 → Int32 → Int32 → Int32 → Int32 → mx_H → Option (Int32 × mx_H)} {qkk_122 : Int → Int → Int → Int → Int → Int → ms_M → Option (Int × ms_M)} (hk_kk_122 : ∀ {l1 : Int32} {y_l1 : Int} (e_l1 : l1.toInt = y_l1) {l2 : Int32} {y_l2 : Int} (e_l2 : l2.toInt = y_l2) {l4 : Int32} {y_l4 : Int} (e_l4 : l4.toInt = y_l4) {l5 : Int32} {y_l5 : Int} (e_l5 : l5.toInt = y_l5) {l6 : Int32} {y_l6 : Int} (e_l6 : l6.toInt = y_l6) {l7 : Int32} {y_l7 : Int} (e_l7 : l7.toInt = y_l7) {h : ms_M} (hM_h : Rg_M h), Sm_ RI_ (kk_122 160 l1 l2 l4 l5 l6 l7 (H_M h)) (qkk_122 y_l1 y_l2 y_l4 y_l5 y_l6 y_l7 h)) {l1 : Int32} {y_l1 : Int} (e_l1 : l1.toInt = y_l1) {l2 : Int32} {y_l2 : Int} (e_l2 : l2.toInt = y_l2) {l4 : Int32} {y_l4 : Int} (e_l4 : l4.toInt = y_l4) {l5 : Int32} {y_l5 : Int} (e_l5 : l5.toInt = y_l5) {l6 : Int32} {y_l6 : Int} (e_l6 : l6.toInt = y_l6) {l7 : Int32} {y_l7 : Int} (e_l7 : l7.toInt = y_l7) {s0 : Int32} {y_s0 : Int} (e_s0 : s0.toInt = y_s0) {s1 : Int32} {y_s1 : Int} (e_s1 : s1.toInt = y_s1) {s2 : Int32} {y_s2 : Int} (e_s2 : s2.toInt = y_s2) {s4 : Int32} {y_s4 : Int} (e_s4 : s4.toInt = y_s4) {h : ms_M} (hM_h : Rg_M h) : Sm_ RI_ (j_X13_classFits_146 nn kk_77 kk_109 kk_122 160 l1 l2 l4 l5 l6 l7 s0 s1 s2 160 s4 160 (H_M h)) (qj_X13_classFits_146 nn qkk_77 qkk_109 qkk_122 y_l1 y_l2 y_l4 y_l5 y_l6 y_l7 y_s0 y_s1 y_s2 y_s4 h) := by
  unfold j_X13_classFits_146 qj_X13_classFits_146
  refine sm_is hM_h rfl ?_
  refine sm_cP (sf_X13_nameText nn e_s2 e_s1 e_s0 hM_h) ?_; intro u50 y_u50 e_u50
  refine sm_ne e_l4 rfl ?_ ?_
  · exact sj_X13_classFits_165 nn hk_kk_77 hk_kk_109 hk_kk_122 e_l1 e_l2 e_l4 e_l5 e_l6 e_l7 rfl e_l7 e_l2 e_l2 e_u50 e_s4 hM_h
  · exact sj_X13_classFits_165 nn hk_kk_77 hk_kk_109 hk_kk_122 e_l1 e_l2 e_l4 e_l5 e_l6 e_l7 rfl e_l7 e_l2 e_l2 e_u50 e_s4 hM_h
set_option maxRecDepth 4000 in
theorem sw_X13_classFits_122 (nn : Nat) {kk_77 : Nat → Int32 → Int32 → Int32 → mx_H → Option (Int32 × mx_H)} {qkk_77 : Int → Int → Int → ms_M → Option (Int × ms_M)} (hk_kk_77 : ∀ {l1 : Int32} {y_l1 : Int} (e_l1 : l1.toInt = y_l1) {l2 : Int32} {y_l2 : Int} (e_l2 : l2.toInt = y_l2) {l4 : Int32} {y_l4 : Int} (e_l4 : l4.toInt = y_l4) {h : ms_M} (hM_h : Rg_M h), Sm_ RI_ (kk_77 160 l1 l2 l4 (H_M h)) (qkk_77 y_l1 y_l2 y_l4 h)) {kk_109 : Nat → Int32 → Int32 → Int32 → Int32 → Int32 → mx_H → Option (Int32 × mx_H)} {qkk_109 : Int → Int → Int → Int → Int → ms_M → Option (Int × ms_M)} (hk_kk_109 : ∀ {l1 : Int32} {y_l1 : Int} (e_l1 : l1.toInt = y_l1) {l2 : Int32} {y_l2 : Int} (e_l2 : l2.toInt = y_l2) {l4 : Int32} {y_l4 : Int} (e_l4 : l4.toInt = y_l4) {l5 : Int32} {y_l5 : Int} (e_l5 : l5.toInt = y_l5) {l6 : Int32} {y_l6 : Int} (e_l6 : l6.toInt = y_l6) {h : ms_M} (hM_h : Rg_M h), Sm_ RI_ (kk_109 160 l1 l2 l4 l5 l6 (H_M h)) (qkk_109 y_l1 y_l2 y_l4 y_l5 y_l6 h)) : ∀ (k : Nat) {l1 : Int32} {y_l1 : Int} (e_l1 : l1.toInt = y_l1) {l2 : Int32} {y_l2 : Int} (e_l2 : l2.toInt = y_l2) {l4 : Int32} {y_l4 : Int} (e_l4 : l4.toInt = y_l4) {l5 : Int32} {y_l5 : Int} (e_l5 : l5.toInt = y_l5) {l6 : Int32} {y_l6 : Int} (e_l6 : l6.toInt = y_l6) {l7 : Int32} {y_l7 : Int} (e_l7 : l7.toInt = y_l7) {h : ms_M} (hM_h : Rg_M h), Sm_ RI_ (w_X13_classFits_122 nn kk_77 kk_109 k 160 l1 l2 l4 l5 l6 l7 (H_M h)) (qw_X13_classFits_122 nn qkk_77 qkk_109 k y_l1 y_l2 y_l4 y_l5 y_l6 y_l7 h) := by
  intro k
  induction k with
  | zero => intros; exact sm_no
  | succ k ih =>
    intro l1 y_l1 e_l1 l2 y_l2 e_l2 l4 y_l4 e_l4 l5 y_l5 e_l5 l6 y_l6 e_l6 l7 y_l7 e_l7 h hM_h
    unfold w_X13_classFits_122 qw_X13_classFits_122
    refine sm_le e_l5 e_l7 ?_ ?_
    · refine sm_oq_add e_l6 rfl ?_; intro v52 y_v52 e_v52
      exact hk_kk_109 e_l1 e_l2 e_l4 e_l5 e_v52 hM_h
    · refine sm_ne e_l4 rfl ?_ ?_
      · exact sj_X13_classFits_146 nn hk_kk_77 hk_kk_109 ih e_l1 e_l2 e_l4 e_l5 e_l6 e_l7 rfl e_l6 e_l2 e_l2 hM_h
      · exact sj_X13_classFits_146 nn hk_kk_77 hk_kk_109 ih e_l1 e_l2 e_l4 e_l5 e_l6 e_l7 rfl e_l6 e_l2 e_l2 hM_h
set_option maxRecDepth 4000 in
theorem sw_X13_classFits_109 (nn : Nat) {kk_77 : Nat → Int32 → Int32 → Int32 → mx_H → Option (Int32 × mx_H)} {qkk_77 : Int → Int → Int → ms_M → Option (Int × ms_M)} (hk_kk_77 : ∀ {l1 : Int32} {y_l1 : Int} (e_l1 : l1.toInt = y_l1) {l2 : Int32} {y_l2 : Int} (e_l2 : l2.toInt = y_l2) {l4 : Int32} {y_l4 : Int} (e_l4 : l4.toInt = y_l4) {h : ms_M} (hM_h : Rg_M h), Sm_ RI_ (kk_77 160 l1 l2 l4 (H_M h)) (qkk_77 y_l1 y_l2 y_l4 h)) : ∀ (k : Nat) {l1 : Int32} {y_l1 : Int} (e_l1 : l1.toInt = y_l1) {l2 : Int32} {y_l2 : Int} (e_l2 : l2.toInt = y_l2) {l4 : Int32} {y_l4 : Int} (e_l4 : l4.toInt = y_l4) {l5 : Int32} {y_l5 : Int} (e_l5 : l5.toInt = y_l5) {l6 : Int32} {y_l6 : Int} (e_l6 : l6.toInt = y_l6) {h : ms_M} (hM_h : Rg_M h), Sm_ RI_ (w_X13_classFits_109 nn kk_77 k 160 l1 l2 l4 l5 l6 (H_M h)) (qw_X13_classFits_109 nn qkk_77 k y_l1 y_l2 y_l4 y_l5 y_l6 h) := by
  intro k
  induction k with
  | zero => intros; exact sm_no
  | succ k ih =>
    intro l1 y_l1 e_l1 l2 y_l2 e_l2 l4 y_l4 e_l4 l5 y_l5 e_l5 l6 y_l6 e_l6 h hM_h
    unfold w_X13_classFits_109 qw_X13_classFits_109
    refine sm_le e_l5 e_l6 ?_ ?_
    · refine sm_oq_add e_l4 rfl ?_; intro v55 y_v55 e_v55
      exact hk_kk_77 e_l1 e_l2 e_v55 hM_h
    · refine sm_oq_add e_l6 rfl ?_; intro v56 y_v56 e_v56
      exact sw_X13_classFits_122 nn hk_kk_77 ih nn e_l1 e_l2 e_l4 e_l5 e_l6 e_v56 hM_h
set_option maxRecDepth 4000 in
theorem sw_X13_classFits_77 (nn : Nat) : ∀ (k : Nat) {l1 : Int32} {y_l1 : Int} (e_l1 : l1.toInt = y_l1) {l2 : Int32} {y_l2 : Int} (e_l2 : l2.toInt = y_l2) {l4 : Int32} {y_l4 : Int} (e_l4 : l4.toInt = y_l4) {h : ms_M} (hM_h : Rg_M h), Sm_ RI_ (w_X13_classFits_77 nn k 160 l1 l2 l4 (H_M h)) (qw_X13_classFits_77 nn k y_l1 y_l2 y_l4 h) := by
  intro k
  induction k with
  | zero => intros; exact sm_no
  | succ k ih =>
    intro l1 y_l1 e_l1 l2 y_l2 e_l2 l4 y_l4 e_l4 h hM_h
    unfold w_X13_classFits_77 qw_X13_classFits_77
    refine sm_le rfl e_l4 ?_ ?_
    · exact sw_X13_classFits_204 nn nn e_l1 e_l2 rfl hM_h
    · refine sm_ne e_l4 rfl ?_ ?_
      · refine sm_gr hM_h (d := 232) rfl ?_
        refine sm_ai hM_h rfl e_l2 ?_; intro v59 y_v59 e_v59
        exact sw_X13_classFits_109 nn ih nn e_l1 e_l2 e_l4 e_v59 rfl hM_h
      · refine sm_gr hM_h (d := 234) rfl ?_
        refine sm_ai hM_h rfl e_l2 ?_; intro v61 y_v61 e_v61
        exact sw_X13_classFits_109 nn ih nn e_l1 e_l2 e_l4 e_v61 rfl hM_h
set_option maxRecDepth 4000 in
theorem sj_X13_classFits_60 (nn : Nat) {l1 : Int32} {y_l1 : Int} (e_l1 : l1.toInt = y_l1) {l2 : Int32} {y_l2 : Int} (e_l2 : l2.toInt = y_l2) {l3 : Int32} {y_l3 : Int} (e_l3 : l3.toInt = y_l3) {h : ms_M} (hM_h : Rg_M h) : Sm_ RI_ (j_X13_classFits_60 nn 160 l1 l2 l3 (H_M h)) (qj_X13_classFits_60 nn y_l1 y_l2 y_l3 h) := by
  unfold j_X13_classFits_60 qj_X13_classFits_60
  refine sm_eq e_l3 rfl ?_ ?_
  · exact sw_X13_classFits_77 nn nn e_l1 e_l2 rfl hM_h
  · refine sm_is hM_h rfl ?_
    refine sm_cI (sf_X13_bad nn rfl e_l1 rfl rfl hM_h) ?_; intro u65 y_u65 M_u65 e_u65 hM_u65
    refine sm_bq e_u65 ?_
    exact sm_rI e_u65 hM_u65
set_option maxRecDepth 4000 in
theorem sw_X13_classFits_36 (nn : Nat) : ∀ (k : Nat) {l1 : Int32} {y_l1 : Int} (e_l1 : l1.toInt = y_l1) {l2 : Int32} {y_l2 : Int} (e_l2 : l2.toInt = y_l2) {l3 : Int32} {y_l3 : Int} (e_l3 : l3.toInt = y_l3) {l4 : Int32} {y_l4 : Int} (e_l4 : l4.toInt = y_l4) {h : ms_M} (hM_h : Rg_M h), Sm_ RI_ (w_X13_classFits_36 nn k 160 l1 l2 l3 l4 (H_M h)) (qw_X13_classFits_36 nn k y_l1 y_l2 y_l3 y_l4 h) := by
  intro k
  induction k with
  | zero => intros; exact sm_no
  | succ k ih =>
    intro l1 y_l1 e_l1 l2 y_l2 e_l2 l3 y_l3 e_l3 l4 y_l4 e_l4 h hM_h
    unfold w_X13_classFits_36 qw_X13_classFits_36
    refine sm_lt rfl e_l4 ?_ ?_
    · exact sj_X13_classFits_60 nn e_l1 e_l2 e_l3 hM_h
    · refine sm_eq e_l3 rfl ?_ ?_
      · exact sj_X13_classFits_60 nn e_l1 e_l2 e_l3 hM_h
      · refine sm_is hM_h rfl ?_
        refine sm_cP (sf_X13_superOf nn e_l3 hM_h) ?_; intro u69 y_u69 e_u69
        refine sm_oq_add e_l4 rfl ?_; intro v70 y_v70 e_v70
        exact ih e_l1 e_l2 e_u69 e_v70 hM_h
set_option maxRecDepth 4000 in
theorem sj_X13_classFits_22 (nn : Nat) {l1 : Int32} {y_l1 : Int} (e_l1 : l1.toInt = y_l1) {h : ms_M} (hM_h : Rg_M h) : Sm_ RI_ (j_X13_classFits_22 nn 160 l1 (H_M h)) (qj_X13_classFits_22 nn y_l1 h) := by
  unfold j_X13_classFits_22 qj_X13_classFits_22
  refine sm_is hM_h rfl ?_
  refine sm_cI (sf_X13_bad nn rfl e_l1 rfl rfl hM_h) ?_; intro u74 y_u74 M_u74 e_u74 hM_u74
  refine sm_bq e_u74 ?_
  exact sm_rI e_u74 hM_u74
set_option maxRecDepth 4000 in
theorem sf_X13_classFits (nn : Nat) {a1 : Int32} {y_a1 : Int} (e_a1 : a1.toInt = y_a1) {h : ms_M} (hM_h : Rg_M h) : Sm_ RI_ (f_X13_classFits nn 160 a1 (H_M h)) (qf_X13_classFits nn y_a1 h) := by
  unfold f_X13_classFits qf_X13_classFits
  refine sm_oq_sub e_a1 rfl ?_; intro v76 y_v76 e_v76
  refine sm_is hM_h rfl ?_
  refine sm_cP (sf_X13_superOf nn e_a1 hM_h) ?_; intro u78 y_u78 e_u78
  refine sm_eq e_u78 rfl ?_ ?_
  · exact sj_X13_classFits_22 nn e_a1 hM_h
  · refine sm_is hM_h rfl ?_
    refine sm_cI (sf_X13_kindsAreThere nn e_v76 hM_h) ?_; intro u80 y_u80 M_u80 e_u80 hM_u80
    refine sm_ne e_u80 rfl ?_ ?_
    · exact sw_X13_classFits_36 nn nn e_a1 e_v76 e_a1 rfl hM_u80
    · exact sj_X13_classFits_22 nn e_a1 hM_u80
set_option maxRecDepth 4000 in
theorem sf_X13_code (nn : Nat) {a1 : Int32} {y_a1 : Int} (e_a1 : a1.toInt = y_a1) {h : ms_M} (hM_h : Rg_M h) : Sm_ (RP_ h) (f_X13_code nn 160 a1 (H_M h)) (qf_X13_code nn y_a1 h) := by
  unfold f_X13_code qf_X13_code
  refine sm_gi hM_h rfl ?_; intro v1 e_v1
  refine sm_gi hM_h rfl ?_; intro v2 e_v2
  refine sm_oq_add e_v2 e_a1 ?_; intro v3 y_v3 e_v3
  refine sm_is hM_h rfl ?_
  refine sm_cP (sf_X13_byteAt nn e_v1 e_v3 hM_h) ?_; intro u5 y_u5 e_u5
  exact sm_rP e_u5
set_option maxRecDepth 4000 in
theorem sf_X13_aimOf (nn : Nat) {a1 : Int32} {y_a1 : Int} (e_a1 : a1.toInt = y_a1) {h : ms_M} (hM_h : Rg_M h) : Sm_ (RP_ h) (f_X13_aimOf nn 160 a1 (H_M h)) (qf_X13_aimOf nn y_a1 h) := by
  unfold f_X13_aimOf qf_X13_aimOf
  refine sm_oq_add e_a1 rfl ?_; intro v1 y_v1 e_v1
  refine sm_is hM_h rfl ?_
  refine sm_cP (sf_X13_code nn e_v1 hM_h) ?_; intro u3 y_u3 e_u3
  refine sm_oq_shl e_u3 rfl ?_; intro v4 y_v4 e_v4
  refine sm_oq_add e_a1 rfl ?_; intro v5 y_v5 e_v5
  refine sm_is hM_h rfl ?_
  refine sm_cP (sf_X13_code nn e_v5 hM_h) ?_; intro u7 y_u7 e_u7
  refine sm_oq_or e_v4 e_u7 ?_; intro v8 y_v8 e_v8
  refine sm_oq_s e_v8 ?_; intro v9 y_v9 e_v9
  refine sm_oq_add e_a1 e_v9 ?_; intro v10 y_v10 e_v10
  exact sm_rP e_v10
set_option maxRecDepth 4000 in
theorem sf_X13_pairIn (nn : Nat) {a1 : Int32} {y_a1 : Int} (e_a1 : a1.toInt = y_a1) {h : ms_M} (hM_h : Rg_M h) : Sm_ (RP_ h) (f_X13_pairIn nn 160 a1 (H_M h)) (qf_X13_pairIn nn y_a1 h) := by
  unfold f_X13_pairIn qf_X13_pairIn
  refine sm_gi hM_h rfl ?_; intro v1 e_v1
  refine sm_is hM_h rfl ?_
  refine sm_cP (sf_X13_byteAt nn e_v1 e_a1 hM_h) ?_; intro u3 y_u3 e_u3
  refine sm_oq_shl e_u3 rfl ?_; intro v4 y_v4 e_v4
  refine sm_gi hM_h rfl ?_; intro v5 e_v5
  refine sm_oq_add e_a1 rfl ?_; intro v6 y_v6 e_v6
  refine sm_is hM_h rfl ?_
  refine sm_cP (sf_X13_byteAt nn e_v5 e_v6 hM_h) ?_; intro u8 y_u8 e_u8
  refine sm_oq_or e_v4 e_u8 ?_; intro v9 y_v9 e_v9
  exact sm_rP e_v9
set_option maxRecDepth 4000 in
theorem sf_X13_at_ (nn : Nat) {a1 : Int32} {y_a1 : Int} (e_a1 : a1.toInt = y_a1) {a2 : Int32} {y_a2 : Int} (e_a2 : a2.toInt = y_a2) {h : ms_M} (hM_h : Rg_M h) : Sm_ RV_ (f_X13_at_ nn 160 a1 a2 (H_M h)) (qf_X13_at_ nn y_a1 y_a2 h) := by
  unfold f_X13_at_ qf_X13_at_
  refine sm_oq_sub e_a1 rfl ?_; intro v1 y_v1 e_v1
  refine sm_pv hM_h rfl e_v1 ?_; intro h2 hM_h2
  refine sm_pv hM_h2 rfl e_a2 ?_; intro h3 hM_h3
  refine sm_gr hM_h3 (d := 235) rfl ?_
  refine sm_gi hM_h3 rfl ?_; intro v5 e_v5
  refine sm_oq_mul rfl e_v5 ?_; intro v6 y_v6 e_v6
  refine sm_oq_add e_v6 e_a2 ?_; intro v7 y_v7 e_v7
  refine sm_ai hM_h3 rfl e_v7 ?_; intro v8 y_v8 e_v8
  refine sm_gi hM_h3 rfl ?_; intro v9 e_v9
  refine sm_oq_add e_v8 rfl ?_; intro v10 y_v10 e_v10
  refine sm_is hM_h3 rfl ?_
  refine sm_cP (sf_X13_byteAt nn e_v9 e_v10 hM_h3) ?_; intro u12 y_u12 e_u12
  refine sm_pv hM_h3 rfl e_u12 ?_; intro h13 hM_h13
  refine sm_gi hM_h13 rfl ?_; intro v14 e_v14
  refine sm_oq_add e_v8 rfl ?_; intro v15 y_v15 e_v15
  refine sm_is hM_h13 rfl ?_
  refine sm_cP (sf_X13_byteAt nn e_v14 e_v15 hM_h13) ?_; intro u17 y_u17 e_u17
  refine sm_pv hM_h13 rfl e_u17 ?_; intro h18 hM_h18
  refine sm_oq_add e_v8 rfl ?_; intro v19 y_v19 e_v19
  refine sm_is hM_h18 rfl ?_
  refine sm_cP (sf_X13_pairIn nn e_v19 hM_h18) ?_; intro u21 y_u21 e_u21
  refine sm_pv hM_h18 rfl e_u21 ?_; intro h22 hM_h22
  refine sm_oq_add e_v8 rfl ?_; intro v23 y_v23 e_v23
  refine sm_pv hM_h22 rfl e_v23 ?_; intro h24 hM_h24
  exact sm_rV hM_h24
set_option maxRecDepth 4000 in
theorem sf_X13_typeOfClass (nn : Nat) {a1 : Int32} {y_a1 : Int} (e_a1 : a1.toInt = y_a1) {a2 : Int32} {y_a2 : Int} (e_a2 : a2.toInt = y_a2) {h : ms_M} (hM_h : Rg_M h) : Sm_ RI_ (f_X13_typeOfClass nn 160 a1 a2 (H_M h)) (qf_X13_typeOfClass nn y_a1 y_a2 h) := by
  unfold f_X13_typeOfClass qf_X13_typeOfClass
  refine sm_is hM_h rfl ?_
  refine sm_cP (sf_X13_textOfClass nn e_a1 e_a2 hM_h) ?_; intro u2 y_u2 e_u2
  refine sm_oq_mul rfl e_a1 ?_; intro v3 y_v3 e_v3
  refine sm_gr hM_h (d := 228) rfl ?_
  refine sm_oq_mul rfl e_a1 ?_; intro v5 y_v5 e_v5
  refine sm_oq_add e_v5 e_u2 ?_; intro v6 y_v6 e_v6
  refine sm_ai hM_h rfl e_v6 ?_; intro v7 y_v7 e_v7
  refine sm_oq_add e_v3 e_v7 ?_; intro v8 y_v8 e_v8
  refine sm_gr hM_h (d := 226) rfl ?_
  refine sm_oq_add e_v8 rfl ?_; intro v10 y_v10 e_v10
  refine sm_ai hM_h rfl e_v10 ?_; intro v11 y_v11 e_v11
  refine sm_ne e_v11 rfl ?_ ?_
  · refine sm_oq_add e_v8 rfl ?_; intro v12 y_v12 e_v12
    refine sm_gr hM_h (d := 226) rfl ?_
    refine sm_oq_add e_v8 rfl ?_; intro v14 y_v14 e_v14
    refine sm_ai hM_h rfl e_v14 ?_; intro v15 y_v15 e_v15
    refine sm_is hM_h rfl ?_
    refine sm_cI (sf_X13_nameNumber nn e_v12 e_v15 hM_h) ?_; intro u17 y_u17 M_u17 e_u17 hM_u17
    refine sm_oq_mul rfl e_u17 ?_; intro v18 y_v18 e_v18
    refine sm_oq_add rfl e_v18 ?_; intro v19 y_v19 e_v19
    exact sm_rI e_v19 hM_u17
  · refine sm_oq_add e_v8 rfl ?_; intro v20 y_v20 e_v20
    refine sm_is hM_h rfl ?_
    refine sm_cI (sf_X13_typeAt nn e_v20 hM_h) ?_; intro u22 y_u22 M_u22 e_u22 hM_u22
    exact sm_rI e_u22 hM_u22
set_option maxRecDepth 4000 in
theorem sf_X13_framed (nn : Nat) {a1 : Int32} {y_a1 : Int} (e_a1 : a1.toInt = y_a1) {h : ms_M} (hM_h : Rg_M h) : Sm_ RI_ (f_X13_framed nn 160 a1 (H_M h)) (qf_X13_framed nn y_a1 h) := by
  unfold f_X13_framed qf_X13_framed
  refine sm_gi hM_h rfl ?_; intro v1 e_v1
  refine sm_is hM_h rfl ?_
  refine sm_cP (sf_X13_byteAt nn e_v1 e_a1 hM_h) ?_; intro u3 y_u3 e_u3
  refine sm_le rfl e_u3 ?_ ?_
  · refine sm_gi hM_h rfl ?_; intro v4 e_v4
    refine sm_gi hM_h rfl ?_; intro v5 e_v5
    refine sm_oq_add e_a1 rfl ?_; intro v6 y_v6 e_v6
    refine sm_is hM_h rfl ?_
    refine sm_cP (sf_X13_byteAt nn e_v5 e_v6 hM_h) ?_; intro u8 y_u8 e_u8
    refine sm_is hM_h rfl ?_
    refine sm_cI (sf_X13_typeOfClass nn e_v4 e_u8 hM_h) ?_; intro u10 y_u10 M_u10 e_u10 hM_u10
    exact sm_rI e_u10 hM_u10
  · refine sm_gi hM_h rfl ?_; intro v11 e_v11
    refine sm_is hM_h rfl ?_
    refine sm_cP (sf_X13_byteAt nn e_v11 e_a1 hM_h) ?_; intro u13 y_u13 e_u13
    exact sm_rI e_u13 hM_h
set_option maxRecDepth 4000 in
theorem sj_X13_typesEnd_42 (nn : Nat) {kk_17 : Nat → Int32 → Int32 → Int32 → mx_H → Option (Int32 × mx_H)} {qkk_17 : Int → Int → Int → ms_M → Option Int} (hk_kk_17 : ∀ {l2 : Int32} {y_l2 : Int} (e_l2 : l2.toInt = y_l2) {l3 : Int32} {y_l3 : Int} (e_l3 : l3.toInt = y_l3) {l4 : Int32} {y_l4 : Int} (e_l4 : l4.toInt = y_l4) {h : ms_M} (hM_h : Rg_M h), Sm_ (RP_ h) (kk_17 160 l2 l3 l4 (H_M h)) (qkk_17 y_l2 y_l3 y_l4 h)) {l2 : Int32} {y_l2 : Int} (e_l2 : l2.toInt = y_l2) {l4 : Int32} {y_l4 : Int} (e_l4 : l4.toInt = y_l4) {s0 : Int32} {y_s0 : Int} (e_s0 : s0.toInt = y_s0) {s1 : Int32} {y_s1 : Int} (e_s1 : s1.toInt = y_s1) {h : ms_M} (hM_h : Rg_M h) : Sm_ (RP_ h) (j_X13_typesEnd_42 nn kk_17 160 l2 l4 s0 s1 (H_M h)) (qj_X13_typesEnd_42 nn qkk_17 y_l2 y_l4 y_s0 y_s1 h) := by
  unfold j_X13_typesEnd_42 qj_X13_typesEnd_42
  refine sm_oq_add e_s1 e_s0 ?_; intro v1 y_v1 e_v1
  refine sm_oq_add e_l4 rfl ?_; intro v2 y_v2 e_v2
  exact hk_kk_17 e_l2 e_v1 e_v2 hM_h
set_option maxRecDepth 4000 in
theorem sw_X13_typesEnd_17 (nn : Nat) : ∀ (k : Nat) {l2 : Int32} {y_l2 : Int} (e_l2 : l2.toInt = y_l2) {l3 : Int32} {y_l3 : Int} (e_l3 : l3.toInt = y_l3) {l4 : Int32} {y_l4 : Int} (e_l4 : l4.toInt = y_l4) {h : ms_M} (hM_h : Rg_M h), Sm_ (RP_ h) (w_X13_typesEnd_17 nn k 160 l2 l3 l4 (H_M h)) (qw_X13_typesEnd_17 nn k y_l2 y_l3 y_l4 h) := by
  intro k
  induction k with
  | zero => intros; exact sm_no
  | succ k ih =>
    intro l2 y_l2 e_l2 l3 y_l3 e_l3 l4 y_l4 e_l4 h hM_h
    unfold w_X13_typesEnd_17 qw_X13_typesEnd_17
    refine sm_le e_l2 e_l4 ?_ ?_
    · exact sm_rP e_l3
    · refine sm_gi hM_h rfl ?_; intro v3 e_v3
      refine sm_is hM_h rfl ?_
      refine sm_cP (sf_X13_byteAt nn e_v3 e_l3 hM_h) ?_; intro u5 y_u5 e_u5
      refine sm_ne e_u5 rfl ?_ ?_
      · exact sj_X13_typesEnd_42 nn ih e_l2 e_l4 rfl e_l3 hM_h
      · exact sj_X13_typesEnd_42 nn ih e_l2 e_l4 rfl e_l3 hM_h
set_option maxRecDepth 4000 in
theorem sf_X13_typesEnd (nn : Nat) {a1 : Int32} {y_a1 : Int} (e_a1 : a1.toInt = y_a1) {h : ms_M} (hM_h : Rg_M h) : Sm_ (RP_ h) (f_X13_typesEnd nn 160 a1 (H_M h)) (qf_X13_typesEnd nn y_a1 h) := by
  unfold f_X13_typesEnd qf_X13_typesEnd
  refine sm_gi hM_h rfl ?_; intro v8 e_v8
  refine sm_is hM_h rfl ?_
  refine sm_cP (sf_X13_byteAt nn e_v8 e_a1 hM_h) ?_; intro u10 y_u10 e_u10
  refine sm_oq_add e_a1 rfl ?_; intro v11 y_v11 e_v11
  exact sw_X13_typesEnd_17 nn nn e_u10 e_v11 rfl hM_h
set_option maxRecDepth 4000 in
theorem sj_X13_becomes_151 (nn : Nat) {kk_114 : Nat → Int32 → Int32 → Int32 → mx_H → Option mx_H} {qkk_114 : Int → Int → Int → ms_M → Option ms_M} (hk_kk_114 : ∀ {l2 : Int32} {y_l2 : Int} (e_l2 : l2.toInt = y_l2) {l3 : Int32} {y_l3 : Int} (e_l3 : l3.toInt = y_l3) {l4 : Int32} {y_l4 : Int} (e_l4 : l4.toInt = y_l4) {h : ms_M} (hM_h : Rg_M h), Sm_ RV_ (kk_114 160 l2 l3 l4 (H_M h)) (qkk_114 y_l2 y_l3 y_l4 h)) {l3 : Int32} {y_l3 : Int} (e_l3 : l3.toInt = y_l3) {l4 : Int32} {y_l4 : Int} (e_l4 : l4.toInt = y_l4) {s0 : Int32} {y_s0 : Int} (e_s0 : s0.toInt = y_s0) {s1 : Int32} {y_s1 : Int} (e_s1 : s1.toInt = y_s1) {h : ms_M} (hM_h : Rg_M h) : Sm_ RV_ (j_X13_becomes_151 nn kk_114 160 l3 l4 s0 s1 (H_M h)) (qj_X13_becomes_151 nn qkk_114 y_l3 y_l4 y_s0 y_s1 h) := by
  unfold j_X13_becomes_151 qj_X13_becomes_151
  refine sm_oq_add e_s1 e_s0 ?_; intro v1 y_v1 e_v1
  refine sm_oq_add e_l4 rfl ?_; intro v2 y_v2 e_v2
  exact hk_kk_114 e_v1 e_l3 e_v2 hM_h
set_option maxRecDepth 4000 in
theorem sw_X13_becomes_114 (nn : Nat) : ∀ (k : Nat) {l2 : Int32} {y_l2 : Int} (e_l2 : l2.toInt = y_l2) {l3 : Int32} {y_l3 : Int} (e_l3 : l3.toInt = y_l3) {l4 : Int32} {y_l4 : Int} (e_l4 : l4.toInt = y_l4) {h : ms_M} (hM_h : Rg_M h), Sm_ RV_ (w_X13_becomes_114 nn k 160 l2 l3 l4 (H_M h)) (qw_X13_becomes_114 nn k y_l2 y_l3 y_l4 h) := by
  intro k
  induction k with
  | zero => intros; exact sm_no
  | succ k ih =>
    intro l2 y_l2 e_l2 l3 y_l3 e_l3 l4 y_l4 e_l4 h hM_h
    unfold w_X13_becomes_114 qw_X13_becomes_114
    refine sm_le e_l3 e_l4 ?_ ?_
    · exact sm_rV hM_h
    · refine sm_gr hM_h (d := 244) rfl ?_
      refine sm_is hM_h rfl ?_
      refine sm_cI (sf_X13_framed nn e_l2 hM_h) ?_; intro u5 y_u5 M_u5 e_u5 hM_u5
      refine sm_si hM_u5 rfl e_l4 e_u5 ?_; intro h6 hM_h6
      refine sm_gi hM_h6 rfl ?_; intro v7 e_v7
      refine sm_is hM_h6 rfl ?_
      refine sm_cP (sf_X13_byteAt nn e_v7 e_l2 hM_h6) ?_; intro u9 y_u9 e_u9
      refine sm_ne e_u9 rfl ?_ ?_
      · exact sj_X13_becomes_151 nn ih e_l3 e_l4 rfl e_l2 hM_h6
      · exact sj_X13_becomes_151 nn ih e_l3 e_l4 rfl e_l2 hM_h6
set_option maxRecDepth 4000 in
theorem sj_X13_becomes_77 (nn : Nat) {kk_20 : Nat → Int32 → Int32 → Int32 → Int32 → mx_H → Option mx_H} {qkk_20 : Int → Int → Int → Int → ms_M → Option ms_M} (hk_kk_20 : ∀ {l1 : Int32} {y_l1 : Int} (e_l1 : l1.toInt = y_l1) {l2 : Int32} {y_l2 : Int} (e_l2 : l2.toInt = y_l2) {l3 : Int32} {y_l3 : Int} (e_l3 : l3.toInt = y_l3) {l4 : Int32} {y_l4 : Int} (e_l4 : l4.toInt = y_l4) {h : ms_M} (hM_h : Rg_M h), Sm_ RV_ (kk_20 160 l1 l2 l3 l4 (H_M h)) (qkk_20 y_l1 y_l2 y_l3 y_l4 h)) {l1 : Int32} {y_l1 : Int} (e_l1 : l1.toInt = y_l1) {l3 : Int32} {y_l3 : Int} (e_l3 : l3.toInt = y_l3) {l4 : Int32} {y_l4 : Int} (e_l4 : l4.toInt = y_l4) {s0 : Int32} {y_s0 : Int} (e_s0 : s0.toInt = y_s0) {s1 : Int32} {y_s1 : Int} (e_s1 : s1.toInt = y_s1) {h : ms_M} (hM_h : Rg_M h) : Sm_ RV_ (j_X13_becomes_77 nn kk_20 160 l1 l3 l4 s0 s1 (H_M h)) (qj_X13_becomes_77 nn qkk_20 y_l1 y_l3 y_l4 y_s0 y_s1 h) := by
  unfold j_X13_becomes_77 qj_X13_becomes_77
  refine sm_oq_add e_s1 e_s0 ?_; intro v12 y_v12 e_v12
  refine sm_oq_add e_l4 rfl ?_; intro v13 y_v13 e_v13
  exact hk_kk_20 e_l1 e_v12 e_l3 e_v13 hM_h
set_option maxRecDepth 4000 in
theorem sw_X13_becomes_20 (nn : Nat) : ∀ (k : Nat) {l1 : Int32} {y_l1 : Int} (e_l1 : l1.toInt = y_l1) {l2 : Int32} {y_l2 : Int} (e_l2 : l2.toInt = y_l2) {l3 : Int32} {y_l3 : Int} (e_l3 : l3.toInt = y_l3) {l4 : Int32} {y_l4 : Int} (e_l4 : l4.toInt = y_l4) {h : ms_M} (hM_h : Rg_M h), Sm_ RV_ (w_X13_becomes_20 nn k 160 l1 l2 l3 l4 (H_M h)) (qw_X13_becomes_20 nn k y_l1 y_l2 y_l3 y_l4 h) := by
  intro k
  induction k with
  | zero => intros; exact sm_no
  | succ k ih =>
    intro l1 y_l1 e_l1 l2 y_l2 e_l2 l3 y_l3 e_l3 l4 y_l4 e_l4 h hM_h
    unfold w_X13_becomes_20 qw_X13_becomes_20
    refine sm_gi hM_h rfl ?_; intro v14 e_v14
    refine sm_le e_v14 e_l4 ?_ ?_
    · refine sm_oq_add e_l1 rfl ?_; intro v15 y_v15 e_v15
      refine sm_is hM_h rfl ?_
      refine sm_cP (sf_X13_typesEnd nn e_v15 hM_h) ?_; intro u17 y_u17 e_u17
      refine sm_gi hM_h rfl ?_; intro v18 e_v18
      refine sm_is hM_h rfl ?_
      refine sm_cP (sf_X13_byteAt nn e_v18 e_u17 hM_h) ?_; intro u20 y_u20 e_u20
      refine sm_oq_add e_u17 rfl ?_; intro v21 y_v21 e_v21
      refine sm_pv hM_h rfl e_u20 ?_; intro h22 hM_h22
      exact sw_X13_becomes_114 nn nn e_v21 e_u20 rfl hM_h22
    · refine sm_gr hM_h (d := 243) rfl ?_
      refine sm_si hM_h rfl e_l4 rfl ?_; intro h24 hM_h24
      refine sm_lt e_l4 e_l3 ?_ ?_
      · refine sm_gr hM_h24 (d := 243) rfl ?_
        refine sm_is hM_h24 rfl ?_
        refine sm_cI (sf_X13_framed nn e_l2 hM_h24) ?_; intro u27 y_u27 M_u27 e_u27 hM_u27
        refine sm_si hM_u27 rfl e_l4 e_u27 ?_; intro h28 hM_h28
        refine sm_gi hM_h28 rfl ?_; intro v29 e_v29
        refine sm_is hM_h28 rfl ?_
        refine sm_cP (sf_X13_byteAt nn e_v29 e_l2 hM_h28) ?_; intro u31 y_u31 e_u31
        refine sm_ne e_u31 rfl ?_ ?_
        · exact sj_X13_becomes_77 nn ih e_l1 e_l3 e_l4 rfl e_l2 hM_h28
        · exact sj_X13_becomes_77 nn ih e_l1 e_l3 e_l4 rfl e_l2 hM_h28
      · refine sm_oq_add e_l4 rfl ?_; intro v33 y_v33 e_v33
        exact ih e_l1 e_l2 e_l3 e_v33 hM_h24
set_option maxRecDepth 4000 in
theorem sf_X13_becomes (nn : Nat) {a1 : Int32} {y_a1 : Int} (e_a1 : a1.toInt = y_a1) {h : ms_M} (hM_h : Rg_M h) : Sm_ RV_ (f_X13_becomes nn 160 a1 (H_M h)) (qf_X13_becomes nn y_a1 h) := by
  unfold f_X13_becomes qf_X13_becomes
  refine sm_oq_add e_a1 rfl ?_; intro v36 y_v36 e_v36
  refine sm_gi hM_h rfl ?_; intro v37 e_v37
  refine sm_is hM_h rfl ?_
  refine sm_cP (sf_X13_byteAt nn e_v37 e_v36 hM_h) ?_; intro u39 y_u39 e_u39
  refine sm_oq_add e_v36 rfl ?_; intro v40 y_v40 e_v40
  exact sw_X13_becomes_20 nn nn e_a1 e_v40 e_u39 rfl hM_h
set_option maxRecDepth 4000 in
theorem sf_X13_frameMany (nn : Nat) {h : ms_M} (hM_h : Rg_M h) : Sm_ (RP_ h) (f_X13_frameMany nn 160 (H_M h)) (qf_X13_frameMany nn h) := by
  unfold f_X13_frameMany qf_X13_frameMany
  refine sm_gi hM_h rfl ?_; intro v1 e_v1
  refine sm_gr hM_h (d := 237) rfl ?_
  refine sm_gi hM_h rfl ?_; intro v3 e_v3
  refine sm_oq_mul rfl e_v3 ?_; intro v4 y_v4 e_v4
  refine sm_gi hM_h rfl ?_; intro v5 e_v5
  refine sm_oq_add e_v4 e_v5 ?_; intro v6 y_v6 e_v6
  refine sm_ai hM_h rfl e_v6 ?_; intro v7 y_v7 e_v7
  refine sm_is hM_h rfl ?_
  refine sm_cP (sf_X13_byteAt nn e_v1 e_v7 hM_h) ?_; intro u9 y_u9 e_u9
  exact sm_rP e_u9
set_option maxRecDepth 4000 in
theorem sw_X13_frameFor_22 (nn : Nat) : ∀ (k : Nat) {l1 : Int32} {y_l1 : Int} (e_l1 : l1.toInt = y_l1) {l2 : Int32} {y_l2 : Int} (e_l2 : l2.toInt = y_l2) {l3 : Int32} {y_l3 : Int} (e_l3 : l3.toInt = y_l3) {h : ms_M} (hM_h : Rg_M h), Sm_ (RP_ h) (w_X13_frameFor_22 nn k 160 l1 l2 l3 (H_M h)) (qw_X13_frameFor_22 nn k y_l1 y_l2 y_l3 h) := by
  intro k
  induction k with
  | zero => intros; exact sm_no
  | succ k ih =>
    intro l1 y_l1 e_l1 l2 y_l2 e_l2 l3 y_l3 e_l3 h hM_h
    unfold w_X13_frameFor_22 qw_X13_frameFor_22
    refine sm_is hM_h rfl ?_
    refine sm_cP (sf_X13_frameMany nn hM_h) ?_; intro u2 y_u2 e_u2
    refine sm_le e_u2 e_l3 ?_ ?_
    · exact sm_rP rfl
    · refine sm_is hM_h rfl ?_
      refine sm_cP (sf_X13_pairIn nn e_l2 hM_h) ?_; intro u4 y_u4 e_u4
      refine sm_ne e_u4 e_l1 ?_ ?_
      · refine sm_oq_add e_l2 rfl ?_; intro v5 y_v5 e_v5
        refine sm_is hM_h rfl ?_
        refine sm_cP (sf_X13_typesEnd nn e_v5 hM_h) ?_; intro u7 y_u7 e_u7
        refine sm_is hM_h rfl ?_
        refine sm_cP (sf_X13_typesEnd nn e_u7 hM_h) ?_; intro u9 y_u9 e_u9
        refine sm_oq_add e_l3 rfl ?_; intro v10 y_v10 e_v10
        exact ih e_l1 e_u9 e_v10 hM_h
      · exact sm_rP e_l2
set_option maxRecDepth 4000 in
theorem sf_X13_frameFor (nn : Nat) {a1 : Int32} {y_a1 : Int} (e_a1 : a1.toInt = y_a1) {h : ms_M} (hM_h : Rg_M h) : Sm_ (RP_ h) (f_X13_frameFor nn 160 a1 (H_M h)) (qf_X13_frameFor nn y_a1 h) := by
  unfold f_X13_frameFor qf_X13_frameFor
  refine sm_gr hM_h (d := 237) rfl ?_
  refine sm_gi hM_h rfl ?_; intro v14 e_v14
  refine sm_oq_mul rfl e_v14 ?_; intro v15 y_v15 e_v15
  refine sm_gi hM_h rfl ?_; intro v16 e_v16
  refine sm_oq_add e_v15 e_v16 ?_; intro v17 y_v17 e_v17
  refine sm_ai hM_h rfl e_v17 ?_; intro v18 y_v18 e_v18
  refine sm_oq_add e_v18 rfl ?_; intro v19 y_v19 e_v19
  exact sw_X13_frameFor_22 nn nn e_a1 e_v19 rfl hM_h
set_option maxRecDepth 4000 in
theorem sf_X13_isRow (nn : Nat) {a0 : Int32} {y_a0 : Int} (e_a0 : a0.toInt = y_a0) {h : ms_M} (hM_h : Rg_M h) : Sm_ (RP_ h) (f_X13_isRow nn a0 (H_M h)) (qf_X13_isRow nn y_a0 h) := by
  unfold f_X13_isRow qf_X13_isRow
  refine sm_eq e_a0 rfl ?_ ?_
  · exact sm_rP rfl
  · refine sm_lt e_a0 rfl ?_ ?_
    · exact sm_rP rfl
    · refine sm_rem e_a0 ⟨rfl, by decide⟩ ?_; intro v1 y_v1 e_v1
      refine sm_ne e_v1 rfl ?_ ?_
      · exact sm_rP rfl
      · exact sm_rP rfl
set_option maxRecDepth 4000 in
theorem sj_X13_goes_53 (nn : Nat) {l1 : Int32} {y_l1 : Int} (e_l1 : l1.toInt = y_l1) {l2 : Int32} {y_l2 : Int} (e_l2 : l2.toInt = y_l2) {h : ms_M} (hM_h : Rg_M h) : Sm_ (RP_ h) (j_X13_goes_53 nn 160 l1 l2 (H_M h)) (qj_X13_goes_53 nn y_l1 y_l2 h) := by
  unfold j_X13_goes_53 qj_X13_goes_53
  refine sm_lt e_l1 rfl ?_ ?_
  · exact sm_rP rfl
  · refine sm_lt e_l2 rfl ?_ ?_
    · exact sm_rP rfl
    · refine sm_rem e_l1 ⟨rfl, by decide⟩ ?_; intro v1 y_v1 e_v1
      refine sm_rem e_l2 ⟨rfl, by decide⟩ ?_; intro v2 y_v2 e_v2
      refine sm_eq e_v1 e_v2 ?_ ?_
      · refine sm_oq_sub e_l1 rfl ?_; intro v3 y_v3 e_v3
        refine sm_div e_v3 ⟨rfl, by decide⟩ ?_; intro v4 y_v4 e_v4
        refine sm_oq_sub e_l2 rfl ?_; intro v5 y_v5 e_v5
        refine sm_div e_v5 ⟨rfl, by decide⟩ ?_; intro v6 y_v6 e_v6
        refine sm_le rfl e_v4 ?_ ?_
        · exact sm_rP rfl
        · refine sm_le rfl e_v6 ?_ ?_
          · exact sm_rP rfl
          · refine sm_is hM_h rfl ?_
            refine sm_cP (sf_X13_isUnder nn e_v4 e_v6 hM_h) ?_; intro u8 y_u8 e_u8
            refine sm_eq e_u8 rfl ?_ ?_
            · exact sm_rP rfl
            · exact sm_rP rfl
      · exact sm_rP rfl
set_option maxRecDepth 4000 in
theorem sf_X13_goes (nn : Nat) {a1 : Int32} {y_a1 : Int} (e_a1 : a1.toInt = y_a1) {a2 : Int32} {y_a2 : Int} (e_a2 : a2.toInt = y_a2) {h : ms_M} (hM_h : Rg_M h) : Sm_ (RP_ h) (f_X13_goes nn 160 a1 a2 (H_M h)) (qf_X13_goes nn y_a1 y_a2 h) := by
  unfold f_X13_goes qf_X13_goes
  refine sm_eq e_a2 rfl ?_ ?_
  · exact sm_rP rfl
  · refine sm_ne e_a1 e_a2 ?_ ?_
    · refine sm_eq e_a1 rfl ?_ ?_
      · exact sm_rP rfl
      · refine sm_eq e_a1 rfl ?_ ?_
        · exact sm_rP rfl
        · refine sm_eq e_a2 rfl ?_ ?_
          · exact sm_rP rfl
          · refine sm_ne e_a2 rfl ?_ ?_
            · refine sm_ne e_a1 rfl ?_ ?_
              · refine sm_cP (sf_X13_isRow nn e_a1 hM_h) ?_; intro u15 y_u15 e_u15
                refine sm_eq e_u15 rfl ?_ ?_
                · exact sj_X13_goes_53 nn e_a1 e_a2 hM_h
                · refine sm_ne e_a2 rfl ?_ ?_
                  · exact sj_X13_goes_53 nn e_a1 e_a2 hM_h
                  · exact sm_rP rfl
              · exact sm_rP rfl
            · exact sm_rP rfl
    · exact sm_rP rfl
set_option maxRecDepth 4000 in
theorem sj_X13_localsFit_66 (nn : Nat) {kk_20 : Nat → Int32 → Int32 → Int32 → mx_H → Option (Int32 × mx_H)} {qkk_20 : Int → Int → Int → ms_M → Option (Int × ms_M)} (hk_kk_20 : ∀ {l2 : Int32} {y_l2 : Int} (e_l2 : l2.toInt = y_l2) {l3 : Int32} {y_l3 : Int} (e_l3 : l3.toInt = y_l3) {l4 : Int32} {y_l4 : Int} (e_l4 : l4.toInt = y_l4) {h : ms_M} (hM_h : Rg_M h), Sm_ RI_ (kk_20 160 l2 l3 l4 (H_M h)) (qkk_20 y_l2 y_l3 y_l4 h)) {l3 : Int32} {y_l3 : Int} (e_l3 : l3.toInt = y_l3) {l4 : Int32} {y_l4 : Int} (e_l4 : l4.toInt = y_l4) {s0 : Int32} {y_s0 : Int} (e_s0 : s0.toInt = y_s0) {s1 : Int32} {y_s1 : Int} (e_s1 : s1.toInt = y_s1) {h : ms_M} (hM_h : Rg_M h) : Sm_ RI_ (j_X13_localsFit_66 nn kk_20 160 l3 l4 s0 s1 (H_M h)) (qj_X13_localsFit_66 nn qkk_20 y_l3 y_l4 y_s0 y_s1 h) := by
  unfold j_X13_localsFit_66 qj_X13_localsFit_66
  refine sm_oq_add e_s1 e_s0 ?_; intro v1 y_v1 e_v1
  refine sm_oq_add e_l4 rfl ?_; intro v2 y_v2 e_v2
  exact hk_kk_20 e_v1 e_l3 e_v2 hM_h
set_option maxRecDepth 4000 in
theorem sw_X13_localsFit_20 (nn : Nat) : ∀ (k : Nat) {l2 : Int32} {y_l2 : Int} (e_l2 : l2.toInt = y_l2) {l3 : Int32} {y_l3 : Int} (e_l3 : l3.toInt = y_l3) {l4 : Int32} {y_l4 : Int} (e_l4 : l4.toInt = y_l4) {h : ms_M} (hM_h : Rg_M h), Sm_ RI_ (w_X13_localsFit_20 nn k 160 l2 l3 l4 (H_M h)) (qw_X13_localsFit_20 nn k y_l2 y_l3 y_l4 h) := by
  intro k
  induction k with
  | zero => intros; exact sm_no
  | succ k ih =>
    intro l2 y_l2 e_l2 l3 y_l3 e_l3 l4 y_l4 e_l4 h hM_h
    unfold w_X13_localsFit_20 qw_X13_localsFit_20
    refine sm_le e_l3 e_l4 ?_ ?_
    · exact sm_rI rfl hM_h
    · refine sm_gr hM_h (d := 243) rfl ?_
      refine sm_ai hM_h rfl e_l4 ?_; intro v4 y_v4 e_v4
      refine sm_is hM_h rfl ?_
      refine sm_cI (sf_X13_framed nn e_l2 hM_h) ?_; intro u6 y_u6 M_u6 e_u6 hM_u6
      refine sm_is hM_u6 rfl ?_
      refine sm_cP (sf_X13_goes nn e_v4 e_u6 hM_u6) ?_; intro u8 y_u8 e_u8
      refine sm_ne e_u8 rfl ?_ ?_
      · refine sm_gi hM_u6 rfl ?_; intro v9 e_v9
        refine sm_is hM_u6 rfl ?_
        refine sm_cP (sf_X13_byteAt nn e_v9 e_l2 hM_u6) ?_; intro u11 y_u11 e_u11
        refine sm_ne e_u11 rfl ?_ ?_
        · exact sj_X13_localsFit_66 nn ih e_l3 e_l4 rfl e_l2 hM_u6
        · exact sj_X13_localsFit_66 nn ih e_l3 e_l4 rfl e_l2 hM_u6
      · exact sm_rI rfl hM_u6
set_option maxRecDepth 4000 in
theorem sf_X13_localsFit (nn : Nat) {a1 : Int32} {y_a1 : Int} (e_a1 : a1.toInt = y_a1) {h : ms_M} (hM_h : Rg_M h) : Sm_ RI_ (f_X13_localsFit nn 160 a1 (H_M h)) (qf_X13_localsFit nn y_a1 h) := by
  unfold f_X13_localsFit qf_X13_localsFit
  refine sm_oq_add e_a1 rfl ?_; intro v15 y_v15 e_v15
  refine sm_gi hM_h rfl ?_; intro v16 e_v16
  refine sm_is hM_h rfl ?_
  refine sm_cP (sf_X13_byteAt nn e_v16 e_v15 hM_h) ?_; intro u18 y_u18 e_u18
  refine sm_oq_add e_v15 rfl ?_; intro v19 y_v19 e_v19
  exact sw_X13_localsFit_20 nn nn e_v19 e_u18 rfl hM_h
set_option maxRecDepth 4000 in
theorem sw_X13_handled_20 (nn : Nat) : ∀ (k : Nat) {l1 : Int32} {y_l1 : Int} (e_l1 : l1.toInt = y_l1) {l2 : Int32} {y_l2 : Int} (e_l2 : l2.toInt = y_l2) {l3 : Int32} {y_l3 : Int} (e_l3 : l3.toInt = y_l3) {h : ms_M} (hM_h : Rg_M h), Sm_ RI_ (w_X13_handled_20 nn k 160 l1 l2 l3 (H_M h)) (qw_X13_handled_20 nn k y_l1 y_l2 y_l3 h) := by
  intro k
  induction k with
  | zero => intros; exact sm_no
  | succ k ih =>
    intro l1 y_l1 e_l1 l2 y_l2 e_l2 l3 y_l3 e_l3 h hM_h
    unfold w_X13_handled_20 qw_X13_handled_20
    refine sm_gi hM_h rfl ?_; intro v1 e_v1
    refine sm_is hM_h rfl ?_
    refine sm_cP (sf_X13_byteAt nn e_v1 e_l2 hM_h) ?_; intro u3 y_u3 e_u3
    refine sm_le e_u3 e_l3 ?_ ?_
    · exact sm_rI rfl hM_h
    · refine sm_oq_add e_l2 rfl ?_; intro v4 y_v4 e_v4
      refine sm_oq_mul rfl e_l3 ?_; intro v5 y_v5 e_v5
      refine sm_oq_add e_v4 e_v5 ?_; intro v6 y_v6 e_v6
      refine sm_is hM_h rfl ?_
      refine sm_cP (sf_X13_pairIn nn e_v6 hM_h) ?_; intro u8 y_u8 e_u8
      refine sm_lt e_l1 e_u8 ?_ ?_
      · refine sm_oq_add e_l3 rfl ?_; intro v9 y_v9 e_v9
        exact ih e_l1 e_l2 e_v9 hM_h
      · refine sm_oq_add e_v6 rfl ?_; intro v10 y_v10 e_v10
        refine sm_is hM_h rfl ?_
        refine sm_cP (sf_X13_pairIn nn e_v10 hM_h) ?_; intro u12 y_u12 e_u12
        refine sm_lt e_l1 e_u12 ?_ ?_
        · refine sm_oq_add e_v6 rfl ?_; intro v13 y_v13 e_v13
          refine sm_is hM_h rfl ?_
          refine sm_cP (sf_X13_pairIn nn e_v13 hM_h) ?_; intro u15 y_u15 e_u15
          refine sm_is hM_h rfl ?_
          refine sm_cP (sf_X13_frameFor nn e_u15 hM_h) ?_; intro u17 y_u17 e_u17
          refine sm_is hM_h rfl ?_
          refine sm_cI (sf_X13_localsFit nn e_u17 hM_h) ?_; intro u19 y_u19 M_u19 e_u19 hM_u19
          refine sm_ne e_u19 rfl ?_ ?_
          · refine sm_oq_add e_u17 rfl ?_; intro v20 y_v20 e_v20
            refine sm_is hM_u19 rfl ?_
            refine sm_cP (sf_X13_typesEnd nn e_v20 hM_u19) ?_; intro u22 y_u22 e_u22
            refine sm_gi hM_u19 rfl ?_; intro v23 e_v23
            refine sm_is hM_u19 rfl ?_
            refine sm_cP (sf_X13_byteAt nn e_v23 e_u22 hM_u19) ?_; intro u25 y_u25 e_u25
            refine sm_ne e_u25 rfl ?_ ?_
            · exact sm_rI rfl hM_u19
            · refine sm_gi hM_u19 rfl ?_; intro v26 e_v26
              refine sm_gi hM_u19 rfl ?_; intro v27 e_v27
              refine sm_oq_add e_v6 rfl ?_; intro v28 y_v28 e_v28
              refine sm_is hM_u19 rfl ?_
              refine sm_cP (sf_X13_byteAt nn e_v27 e_v28 hM_u19) ?_; intro u30 y_u30 e_u30
              refine sm_is hM_u19 rfl ?_
              refine sm_cI (sf_X13_typeOfClass nn e_v26 e_u30 hM_u19) ?_; intro u32 y_u32 M_u32 e_u32 hM_u32
              refine sm_oq_add e_u22 rfl ?_; intro v33 y_v33 e_v33
              refine sm_is hM_u32 rfl ?_
              refine sm_cI (sf_X13_framed nn e_v33 hM_u32) ?_; intro u35 y_u35 M_u35 e_u35 hM_u35
              refine sm_is hM_u35 rfl ?_
              refine sm_cP (sf_X13_goes nn e_u32 e_u35 hM_u35) ?_; intro u37 y_u37 e_u37
              refine sm_ne e_u37 rfl ?_ ?_
              · refine sm_oq_add e_l3 rfl ?_; intro v38 y_v38 e_v38
                exact ih e_l1 e_l2 e_v38 hM_u35
              · exact sm_rI rfl hM_u35
          · exact sm_rI rfl hM_u19
        · refine sm_oq_add e_l3 rfl ?_; intro v42 y_v42 e_v42
          exact ih e_l1 e_l2 e_v42 hM_h
