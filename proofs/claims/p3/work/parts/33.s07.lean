set_option maxRecDepth 4000 in
theorem sf_X11_proveFrames (nn : Nat) {h : ms_M} (hM_h : Rg_M h) : Sm_ RI_ (f_X11_proveFrames nn 127 (H_M h)) (qf_X11_proveFrames nn h) := by
  unfold f_X11_proveFrames qf_X11_proveFrames
  exact sw_X11_proveFrames_4 nn nn rfl rfl hM_h
set_option maxRecDepth 4000 in
theorem sf_X11_frameAt (nn : Nat) {a1 : Int32} {y_a1 : Int} (e_a1 : a1.toInt = y_a1) {h : ms_M} (hM_h : Rg_M h) : Sm_ (RP_ h) (f_X11_frameAt nn 127 a1 (H_M h)) (qf_X11_frameAt nn y_a1 h) := by
  unfold f_X11_frameAt qf_X11_frameAt
  refine sm_is hM_h rfl ?_
  refine sm_cP (sf_X11_begins nn e_a1 hM_h) ?_; intro u2 y_u2 e_u2
  refine sm_eq e_u2 rfl ?_ ?_
  · exact sm_rP rfl
  · refine sm_gr hM_h (d := 132) rfl ?_
    refine sm_ai hM_h rfl e_a1 ?_; intro v4 y_v4 e_v4
    exact sm_rP e_v4
set_option maxRecDepth 4000 in
theorem sf_X11_handler (nn : Nat) {a1 : Int32} {y_a1 : Int} (e_a1 : a1.toInt = y_a1) {a2 : Int32} {y_a2 : Int} (e_a2 : a2.toInt = y_a2) {h : ms_M} (hM_h : Rg_M h) : Sm_ (RP_ h) (f_X11_handler nn 127 a1 a2 (H_M h)) (qf_X11_handler nn y_a1 y_a2 h) := by
  unfold f_X11_handler qf_X11_handler
  refine sm_gm hM_h rfl ?_
  refine sm_is hM_h rfl ?_
  refine sm_cP (sf_X11_info nn rfl hM_h) ?_; intro u3 y_u3 e_u3
  refine sm_oq_mul e_a1 rfl ?_; intro v4 y_v4 e_v4
  refine sm_oq_add e_u3 e_v4 ?_; intro v5 y_v5 e_v5
  refine sm_oq_add e_v5 e_a2 ?_; intro v6 y_v6 e_v6
  refine sm_isS hM_h ?_; intro hb1
  refine sm_cP (sf_X3_pairAt nn _ hb1 e_v6 hM_h) ?_; intro u8 y_u8 e_u8
  exact sm_rP e_u8
set_option maxRecDepth 4000 in
theorem sf_X11_handlerClass (nn : Nat) {a1 : Int32} {y_a1 : Int} (e_a1 : a1.toInt = y_a1) {h : ms_M} (hM_h : Rg_M h) : Sm_ (RP_ h) (f_X11_handlerClass nn 127 a1 (H_M h)) (qf_X11_handlerClass nn y_a1 h) := by
  unfold f_X11_handlerClass qf_X11_handlerClass
  refine sm_gr hM_h (d := 128) rfl ?_
  refine sm_gm hM_h rfl ?_
  refine sm_is hM_h rfl ?_
  refine sm_cP (sf_X11_info nn rfl hM_h) ?_; intro u4 y_u4 e_u4
  refine sm_oq_mul e_a1 rfl ?_; intro v5 y_v5 e_v5
  refine sm_oq_add e_u4 e_v5 ?_; intro v6 y_v6 e_v6
  refine sm_oq_add e_v6 rfl ?_; intro v7 y_v7 e_v7
  refine sm_isS hM_h ?_; intro hb1
  refine sm_cP (sf_X3_byteAt nn _ hb1 e_v7 hM_h) ?_; intro u9 y_u9 e_u9
  refine sm_ai hM_h rfl e_u9 ?_; intro v10 y_v10 e_v10
  exact sm_rP e_v10
set_option maxRecDepth 4000 in
theorem sj_X11_proveHandlers_100 (nn : Nat) {l1 : Int32} {y_l1 : Int} (e_l1 : l1.toInt = y_l1) {h : ms_M} (hM_h : Rg_M h) : Sm_ RI_ (j_X11_proveHandlers_100 nn 127 l1 (H_M h)) (qj_X11_proveHandlers_100 nn y_l1 h) := by
  unfold j_X11_proveHandlers_100 qj_X11_proveHandlers_100
  refine sm_is hM_h rfl ?_
  refine sm_cI (sf_X11_at nn rfl e_l1 hM_h) ?_; intro u2 y_u2 M_u2 e_u2 hM_u2
  exact sm_rI e_u2 hM_u2
set_option maxRecDepth 4000 in
theorem sj_X11_proveHandlers_68 (nn : Nat) {kk_2 : Nat → Int32 → mx_H → Option (Int32 × mx_H)} {qkk_2 : Int → ms_M → Option (Int × ms_M)} (hk_kk_2 : ∀ {l1 : Int32} {y_l1 : Int} (e_l1 : l1.toInt = y_l1) {h : ms_M} (hM_h : Rg_M h), Sm_ RI_ (kk_2 127 l1 (H_M h)) (qkk_2 y_l1 h)) {l1 : Int32} {y_l1 : Int} (e_l1 : l1.toInt = y_l1) {l4 : Int32} {y_l4 : Int} (e_l4 : l4.toInt = y_l4) {s0 : Int32} {y_s0 : Int} (e_s0 : s0.toInt = y_s0) {h : ms_M} (hM_h : Rg_M h) : Sm_ RI_ (j_X11_proveHandlers_68 nn kk_2 127 l1 l4 s0 (H_M h)) (qj_X11_proveHandlers_68 nn qkk_2 y_l1 y_l4 y_s0 h) := by
  unfold j_X11_proveHandlers_68 qj_X11_proveHandlers_68
  refine sm_eq e_s0 rfl ?_ ?_
  · exact sj_X11_proveHandlers_100 nn e_l1 hM_h
  · refine sm_is hM_h rfl ?_
    refine sm_cP (sf_X11_frameAt nn e_l4 hM_h) ?_; intro u4 y_u4 e_u4
    refine sm_lt e_u4 rfl ?_ ?_
    · exact sj_X11_proveHandlers_100 nn e_l1 hM_h
    · refine sm_gr hM_h (d := 57) rfl ?_
      refine sm_is hM_h rfl ?_
      refine sm_cP (sf_X11_handlerClass nn e_l1 hM_h) ?_; intro u7 y_u7 e_u7
      refine sm_is hM_h rfl ?_
      refine sm_cP (sf_X4_fits nn _ rfl e_u7 rfl hM_h) ?_; intro u9 y_u9 e_u9
      refine sm_ne e_u9 rfl ?_ ?_
      · refine sm_oq_add e_l1 rfl ?_; intro v10 y_v10 e_v10
        exact hk_kk_2 e_v10 hM_h
      · exact sj_X11_proveHandlers_100 nn e_l1 hM_h
set_option maxRecDepth 4000 in
theorem sj_X11_proveHandlers_67 (nn : Nat) {kk_2 : Nat → Int32 → mx_H → Option (Int32 × mx_H)} {qkk_2 : Int → ms_M → Option (Int × ms_M)} (hk_kk_2 : ∀ {l1 : Int32} {y_l1 : Int} (e_l1 : l1.toInt = y_l1) {h : ms_M} (hM_h : Rg_M h), Sm_ RI_ (kk_2 127 l1 (H_M h)) (qkk_2 y_l1 h)) {l1 : Int32} {y_l1 : Int} (e_l1 : l1.toInt = y_l1) {l4 : Int32} {y_l4 : Int} (e_l4 : l4.toInt = y_l4) {h : ms_M} (hM_h : Rg_M h) : Sm_ RI_ (j_X11_proveHandlers_67 nn kk_2 127 l1 l4 (H_M h)) (qj_X11_proveHandlers_67 nn qkk_2 y_l1 y_l4 h) := by
  unfold j_X11_proveHandlers_67 qj_X11_proveHandlers_67
  exact sj_X11_proveHandlers_68 nn hk_kk_2 e_l1 e_l4 rfl hM_h
set_option maxRecDepth 4000 in
theorem sj_X11_proveHandlers_58 (nn : Nat) {kk_2 : Nat → Int32 → mx_H → Option (Int32 × mx_H)} {qkk_2 : Int → ms_M → Option (Int × ms_M)} (hk_kk_2 : ∀ {l1 : Int32} {y_l1 : Int} (e_l1 : l1.toInt = y_l1) {h : ms_M} (hM_h : Rg_M h), Sm_ RI_ (kk_2 127 l1 (H_M h)) (qkk_2 y_l1 h)) {l1 : Int32} {y_l1 : Int} (e_l1 : l1.toInt = y_l1) {l2 : Int32} {y_l2 : Int} (e_l2 : l2.toInt = y_l2) {l3 : Int32} {y_l3 : Int} (e_l3 : l3.toInt = y_l3) {l4 : Int32} {y_l4 : Int} (e_l4 : l4.toInt = y_l4) {h : ms_M} (hM_h : Rg_M h) : Sm_ RI_ (j_X11_proveHandlers_58 nn kk_2 127 l1 l2 l3 l4 (H_M h)) (qj_X11_proveHandlers_58 nn qkk_2 y_l1 y_l2 y_l3 y_l4 h) := by
  unfold j_X11_proveHandlers_58 qj_X11_proveHandlers_58
  refine sm_le e_l3 e_l2 ?_ ?_
  · exact sj_X11_proveHandlers_67 nn hk_kk_2 e_l1 e_l4 hM_h
  · exact sj_X11_proveHandlers_68 nn hk_kk_2 e_l1 e_l4 rfl hM_h
set_option maxRecDepth 4000 in
theorem sw_X11_proveHandlers_2 (nn : Nat) : ∀ (k : Nat) {l1 : Int32} {y_l1 : Int} (e_l1 : l1.toInt = y_l1) {h : ms_M} (hM_h : Rg_M h), Sm_ RI_ (w_X11_proveHandlers_2 nn k 127 l1 (H_M h)) (qw_X11_proveHandlers_2 nn k y_l1 h) := by
  intro k
  induction k with
  | zero => intros; exact sm_no
  | succ k ih =>
    intro l1 y_l1 e_l1 h hM_h
    unfold w_X11_proveHandlers_2 qw_X11_proveHandlers_2
    refine sm_is hM_h rfl ?_
    refine sm_cP (sf_X11_info nn rfl hM_h) ?_; intro u16 y_u16 e_u16
    refine sm_le e_u16 e_l1 ?_ ?_
    · exact sm_rI rfl hM_h
    · refine sm_is hM_h rfl ?_
      refine sm_cP (sf_X11_handler nn e_l1 rfl hM_h) ?_; intro u18 y_u18 e_u18
      refine sm_is hM_h rfl ?_
      refine sm_cP (sf_X11_handler nn e_l1 rfl hM_h) ?_; intro u20 y_u20 e_u20
      refine sm_is hM_h rfl ?_
      refine sm_cP (sf_X11_handler nn e_l1 rfl hM_h) ?_; intro u22 y_u22 e_u22
      refine sm_is hM_h rfl ?_
      refine sm_cP (sf_X11_begins nn e_u18 hM_h) ?_; intro u24 y_u24 e_u24
      refine sm_eq e_u24 rfl ?_ ?_
      · exact sj_X11_proveHandlers_67 nn ih e_l1 e_u22 hM_h
      · refine sm_is hM_h rfl ?_
        refine sm_cP (sf_X11_begins nn e_u20 hM_h) ?_; intro u26 y_u26 e_u26
        refine sm_ne e_u26 rfl ?_ ?_
        · exact sj_X11_proveHandlers_58 nn ih e_l1 e_u18 e_u20 e_u22 hM_h
        · refine sm_gi hM_h rfl ?_; intro v27 e_v27
          refine sm_ne e_u20 e_v27 ?_ ?_
          · exact sj_X11_proveHandlers_67 nn ih e_l1 e_u22 hM_h
          · exact sj_X11_proveHandlers_58 nn ih e_l1 e_u18 e_u20 e_u22 hM_h
set_option maxRecDepth 4000 in
theorem sf_X11_proveHandlers (nn : Nat) {h : ms_M} (hM_h : Rg_M h) : Sm_ RI_ (f_X11_proveHandlers nn 127 (H_M h)) (qf_X11_proveHandlers nn h) := by
  unfold f_X11_proveHandlers qf_X11_proveHandlers
  exact sw_X11_proveHandlers_2 nn nn rfl hM_h
set_option maxRecDepth 4000 in
theorem sf_X11_codeAt (nn : Nat) {a1 : Int32} {y_a1 : Int} (e_a1 : a1.toInt = y_a1) {h : ms_M} (hM_h : Rg_M h) : Sm_ (RP_ h) (f_X11_codeAt nn 127 a1 (H_M h)) (qf_X11_codeAt nn y_a1 h) := by
  unfold f_X11_codeAt qf_X11_codeAt
  refine sm_gm hM_h rfl ?_
  refine sm_is hM_h rfl ?_
  refine sm_cP (sf_X11_info nn rfl hM_h) ?_; intro u3 y_u3 e_u3
  refine sm_oq_add e_u3 e_a1 ?_; intro v4 y_v4 e_v4
  refine sm_isS hM_h ?_; intro hb1
  refine sm_cP (sf_X3_byteAt nn _ hb1 e_v4 hM_h) ?_; intro u6 y_u6 e_u6
  exact sm_rP e_u6
set_option maxRecDepth 4000 in
theorem sj_X11_isBare_116 (nn : Nat) {h : ms_M} (hM_h : Rg_M h) : Sm_ (RP_ h) (j_X11_isBare_116 nn (H_M h)) (qj_X11_isBare_116 nn h) := by
  unfold j_X11_isBare_116 qj_X11_isBare_116
  exact sm_rP rfl
set_option maxRecDepth 4000 in
theorem sf_X11_isBare (nn : Nat) {a0 : Int32} {y_a0 : Int} (e_a0 : a0.toInt = y_a0) {h : ms_M} (hM_h : Rg_M h) : Sm_ (RP_ h) (f_X11_isBare nn a0 (H_M h)) (qf_X11_isBare nn y_a0 h) := by
  unfold f_X11_isBare qf_X11_isBare
  refine sm_eq e_a0 rfl ?_ ?_
  · exact sj_X11_isBare_116 nn hM_h
  · refine sm_eq e_a0 rfl ?_ ?_
    · exact sj_X11_isBare_116 nn hM_h
    · refine sm_eq e_a0 rfl ?_ ?_
      · exact sj_X11_isBare_116 nn hM_h
      · refine sm_eq e_a0 rfl ?_ ?_
        · exact sj_X11_isBare_116 nn hM_h
        · refine sm_eq e_a0 rfl ?_ ?_
          · exact sj_X11_isBare_116 nn hM_h
          · refine sm_eq e_a0 rfl ?_ ?_
            · exact sj_X11_isBare_116 nn hM_h
            · refine sm_eq e_a0 rfl ?_ ?_
              · exact sj_X11_isBare_116 nn hM_h
              · refine sm_eq e_a0 rfl ?_ ?_
                · exact sj_X11_isBare_116 nn hM_h
                · refine sm_eq e_a0 rfl ?_ ?_
                  · exact sj_X11_isBare_116 nn hM_h
                  · refine sm_eq e_a0 rfl ?_ ?_
                    · exact sj_X11_isBare_116 nn hM_h
                    · refine sm_eq e_a0 rfl ?_ ?_
                      · exact sj_X11_isBare_116 nn hM_h
                      · refine sm_eq e_a0 rfl ?_ ?_
                        · exact sj_X11_isBare_116 nn hM_h
                        · refine sm_eq e_a0 rfl ?_ ?_
                          · exact sj_X11_isBare_116 nn hM_h
                          · refine sm_cP (sf_X11_isArithmetic nn e_a0 hM_h) ?_; intro u1 y_u1 e_u1
                            refine sm_bq e_u1 ?_
                            exact sm_rP e_u1
set_option maxRecDepth 4000 in
theorem sj_X11_widthOf_156 (nn : Nat) {h : ms_M} (hM_h : Rg_M h) : Sm_ (RP_ h) (j_X11_widthOf_156 nn (H_M h)) (qj_X11_widthOf_156 nn h) := by
  unfold j_X11_widthOf_156 qj_X11_widthOf_156
  exact sm_rP rfl
set_option maxRecDepth 4000 in
theorem sf_X11_widthOf (nn : Nat) {a0 : Int32} {y_a0 : Int} (e_a0 : a0.toInt = y_a0) {h : ms_M} (hM_h : Rg_M h) : Sm_ (RP_ h) (f_X11_widthOf nn a0 (H_M h)) (qf_X11_widthOf nn y_a0 h) := by
  unfold f_X11_widthOf qf_X11_widthOf
  refine sm_le e_a0 rfl ?_ ?_
  · exact sm_rP rfl
  · refine sm_cP (sf_X11_isBare nn e_a0 hM_h) ?_; intro u1 y_u1 e_u1
    refine sm_eq e_u1 rfl ?_ ?_
    · refine sm_cP (sf_X11_isJump nn e_a0 hM_h) ?_; intro u2 y_u2 e_u2
      refine sm_eq e_u2 rfl ?_ ?_
      · refine sm_eq e_a0 rfl ?_ ?_
        · exact sj_X11_widthOf_156 nn hM_h
        · refine sm_eq e_a0 rfl ?_ ?_
          · exact sj_X11_widthOf_156 nn hM_h
          · refine sm_eq e_a0 rfl ?_ ?_
            · exact sj_X11_widthOf_156 nn hM_h
            · refine sm_eq e_a0 rfl ?_ ?_
              · exact sj_X11_widthOf_156 nn hM_h
              · refine sm_eq e_a0 rfl ?_ ?_
                · exact sj_X11_widthOf_156 nn hM_h
                · refine sm_eq e_a0 rfl ?_ ?_
                  · exact sj_X11_widthOf_156 nn hM_h
                  · refine sm_eq e_a0 rfl ?_ ?_
                    · exact sj_X11_widthOf_156 nn hM_h
                    · refine sm_eq e_a0 rfl ?_ ?_
                      · exact sj_X11_widthOf_156 nn hM_h
                      · refine sm_eq e_a0 rfl ?_ ?_
                        · exact sj_X11_widthOf_156 nn hM_h
                        · refine sm_eq e_a0 rfl ?_ ?_
                          · exact sj_X11_widthOf_156 nn hM_h
                          · refine sm_eq e_a0 rfl ?_ ?_
                            · exact sj_X11_widthOf_156 nn hM_h
                            · refine sm_eq e_a0 rfl ?_ ?_
                              · exact sj_X11_widthOf_156 nn hM_h
                              · refine sm_eq e_a0 rfl ?_ ?_
                                · exact sj_X11_widthOf_156 nn hM_h
                                · refine sm_eq e_a0 rfl ?_ ?_
                                  · exact sj_X11_widthOf_156 nn hM_h
                                  · refine sm_eq e_a0 rfl ?_ ?_
                                    · exact sj_X11_widthOf_156 nn hM_h
                                    · exact sm_rP rfl
      · exact sm_rP rfl
    · exact sm_rP rfl
set_option maxRecDepth 4000 in
theorem sj_X11_proveInstructions_64 (nn : Nat) {l1 : Int32} {y_l1 : Int} (e_l1 : l1.toInt = y_l1) {h : ms_M} (hM_h : Rg_M h) : Sm_ RI_ (j_X11_proveInstructions_64 nn 127 l1 (H_M h)) (qj_X11_proveInstructions_64 nn y_l1 h) := by
  unfold j_X11_proveInstructions_64 qj_X11_proveInstructions_64
  refine sm_is hM_h rfl ?_
  refine sm_cI (sf_X11_at nn rfl e_l1 hM_h) ?_; intro u2 y_u2 M_u2 e_u2 hM_u2
  exact sm_rI e_u2 hM_u2
set_option maxRecDepth 4000 in
theorem sw_X11_proveInstructions_33 (nn : Nat) : ∀ (k : Nat) {l1 : Int32} {y_l1 : Int} (e_l1 : l1.toInt = y_l1) {h : ms_M} (hM_h : Rg_M h), Sm_ RI_ (w_X11_proveInstructions_33 nn k 127 l1 (H_M h)) (qw_X11_proveInstructions_33 nn k y_l1 h) := by
  intro k
  induction k with
  | zero => intros; exact sm_no
  | succ k ih =>
    intro l1 y_l1 e_l1 h hM_h
    unfold w_X11_proveInstructions_33 qw_X11_proveInstructions_33
    refine sm_gi hM_h rfl ?_; intro v3 e_v3
    refine sm_le e_v3 e_l1 ?_ ?_
    · exact sm_rI rfl hM_h
    · refine sm_is hM_h rfl ?_
      refine sm_cP (sf_X11_codeAt nn e_l1 hM_h) ?_; intro u5 y_u5 e_u5
      refine sm_cP (sf_X11_widthOf nn e_u5 hM_h) ?_; intro u6 y_u6 e_u6
      refine sm_eq e_u6 rfl ?_ ?_
      · exact sj_X11_proveInstructions_64 nn e_l1 hM_h
      · refine sm_oq_add e_l1 e_u6 ?_; intro v7 y_v7 e_v7
        refine sm_gi hM_h rfl ?_; intro v8 e_v8
        refine sm_le e_v7 e_v8 ?_ ?_
        · refine sm_gr hM_h (d := 132) rfl ?_
          refine sm_si hM_h rfl e_l1 rfl ?_; intro h10 hM_h10
          refine sm_oq_add e_l1 e_u6 ?_; intro v11 y_v11 e_v11
          exact ih e_v11 hM_h10
        · exact sj_X11_proveInstructions_64 nn e_l1 hM_h
set_option maxRecDepth 4000 in
theorem sf_X11_proveInstructions (nn : Nat) {h : ms_M} (hM_h : Rg_M h) : Sm_ RI_ (f_X11_proveInstructions nn 127 (H_M h)) (qf_X11_proveInstructions nn h) := by
  unfold f_X11_proveInstructions qf_X11_proveInstructions
  refine sm_is hM_h rfl ?_
  refine sm_cP (sf_X11_info nn rfl hM_h) ?_; intro u16 y_u16 e_u16
  refine sm_gr hM_h (d := 132) rfl ?_
  refine sm_ln hM_h (z := 1500) rfl ?_; intro v18 e_v18
  refine sm_ite e_v18 e_u16 e_v18 e_u16 ?_; intro v19 y_v19 e_v19
  refine sm_pv hM_h rfl e_v19 ?_; intro h20 hM_h20
  refine sm_gr hM_h20 (d := 132) rfl ?_
  refine sm_gi hM_h20 rfl ?_; intro v22 e_v22
  refine sm_cV (sf_J7_fill_fda19 nn _ rfl e_v22 rfl hM_h20) ?_; intro u23 hM_u23
  exact sw_X11_proveInstructions_33 nn nn rfl hM_u23
set_option maxRecDepth 4000 in
theorem sf_X11_aimOf (nn : Nat) {a1 : Int32} {y_a1 : Int} (e_a1 : a1.toInt = y_a1) {h : ms_M} (hM_h : Rg_M h) : Sm_ (RP_ h) (f_X11_aimOf nn 127 a1 (H_M h)) (qf_X11_aimOf nn y_a1 h) := by
  unfold f_X11_aimOf qf_X11_aimOf
  refine sm_oq_add e_a1 rfl ?_; intro v1 y_v1 e_v1
  refine sm_is hM_h rfl ?_
  refine sm_cP (sf_X11_codeAt nn e_v1 hM_h) ?_; intro u3 y_u3 e_u3
  refine sm_oq_shl e_u3 rfl ?_; intro v4 y_v4 e_v4
  refine sm_oq_add e_a1 rfl ?_; intro v5 y_v5 e_v5
  refine sm_is hM_h rfl ?_
  refine sm_cP (sf_X11_codeAt nn e_v5 hM_h) ?_; intro u7 y_u7 e_u7
  refine sm_oq_or e_v4 e_u7 ?_; intro v8 y_v8 e_v8
  refine sm_oq_s e_v8 ?_; intro v9 y_v9 e_v9
  refine sm_oq_add e_a1 e_v9 ?_; intro v10 y_v10 e_v10
  exact sm_rP e_v10
set_option maxRecDepth 4000 in
theorem sw_X11_proveJumps_2 (nn : Nat) : ∀ (k : Nat) {l1 : Int32} {y_l1 : Int} (e_l1 : l1.toInt = y_l1) {h : ms_M} (hM_h : Rg_M h), Sm_ RI_ (w_X11_proveJumps_2 nn k 127 l1 (H_M h)) (qw_X11_proveJumps_2 nn k y_l1 h) := by
  intro k
  induction k with
  | zero => intros; exact sm_no
  | succ k ih =>
    intro l1 y_l1 e_l1 h hM_h
    unfold w_X11_proveJumps_2 qw_X11_proveJumps_2
    refine sm_gi hM_h rfl ?_; intro v1 e_v1
    refine sm_le e_v1 e_l1 ?_ ?_
    · exact sm_rI rfl hM_h
    · refine sm_is hM_h rfl ?_
      refine sm_cP (sf_X11_begins nn e_l1 hM_h) ?_; intro u3 y_u3 e_u3
      refine sm_eq e_u3 rfl ?_ ?_
      · refine sm_oq_add e_l1 rfl ?_; intro v4 y_v4 e_v4
        exact ih e_v4 hM_h
      · refine sm_is hM_h rfl ?_
        refine sm_cP (sf_X11_codeAt nn e_l1 hM_h) ?_; intro u6 y_u6 e_u6
        refine sm_cP (sf_X11_isJump nn e_u6 hM_h) ?_; intro u7 y_u7 e_u7
        refine sm_eq e_u7 rfl ?_ ?_
        · refine sm_oq_add e_l1 rfl ?_; intro v8 y_v8 e_v8
          exact ih e_v8 hM_h
        · refine sm_is hM_h rfl ?_
          refine sm_cP (sf_X11_aimOf nn e_l1 hM_h) ?_; intro u10 y_u10 e_u10
          refine sm_is hM_h rfl ?_
          refine sm_cP (sf_X11_begins nn e_u10 hM_h) ?_; intro u12 y_u12 e_u12
          refine sm_ne e_u12 rfl ?_ ?_
          · refine sm_oq_add e_l1 rfl ?_; intro v13 y_v13 e_v13
            exact ih e_v13 hM_h
          · refine sm_is hM_h rfl ?_
            refine sm_cI (sf_X11_at nn rfl e_l1 hM_h) ?_; intro u15 y_u15 M_u15 e_u15 hM_u15
            exact sm_rI e_u15 hM_u15
set_option maxRecDepth 4000 in
theorem sf_X11_proveJumps (nn : Nat) {h : ms_M} (hM_h : Rg_M h) : Sm_ RI_ (f_X11_proveJumps nn 127 (H_M h)) (qf_X11_proveJumps nn h) := by
  unfold f_X11_proveJumps qf_X11_proveJumps
  exact sw_X11_proveJumps_2 nn nn rfl hM_h
set_option maxRecDepth 4000 in
theorem sf_X11_isLast (nn : Nat) {a0 : Int32} {y_a0 : Int} (e_a0 : a0.toInt = y_a0) {h : ms_M} (hM_h : Rg_M h) : Sm_ (RP_ h) (f_X11_isLast nn a0 (H_M h)) (qf_X11_isLast nn y_a0 h) := by
  unfold f_X11_isLast qf_X11_isLast
  refine sm_eq e_a0 rfl ?_ ?_
  · exact sm_rP rfl
  · refine sm_eq e_a0 rfl ?_ ?_
    · exact sm_rP rfl
    · refine sm_eq e_a0 rfl ?_ ?_
      · exact sm_rP rfl
      · refine sm_eq e_a0 rfl ?_ ?_
        · exact sm_rP rfl
        · refine sm_ne e_a0 rfl ?_ ?_
          · exact sm_rP rfl
          · exact sm_rP rfl
set_option maxRecDepth 4000 in
theorem sf_X11_pop (nn : Nat) {h : ms_M} (hM_h : Rg_M h) : Sm_ RI_ (f_X11_pop nn 127 (H_M h)) (qf_X11_pop nn h) := by
  unfold f_X11_pop qf_X11_pop
  refine sm_gi hM_h rfl ?_; intro v1 e_v1
  refine sm_ne e_v1 rfl ?_ ?_
  · refine sm_gi hM_h rfl ?_; intro v2 e_v2
    refine sm_oq_sub e_v2 rfl ?_; intro v3 y_v3 e_v3
    refine sm_pv hM_h rfl e_v3 ?_; intro h4 hM_h4
    refine sm_gr hM_h4 (d := 135) rfl ?_
    refine sm_gi hM_h4 rfl ?_; intro v6 e_v6
    refine sm_ai hM_h4 rfl e_v6 ?_; intro v7 y_v7 e_v7
    exact sm_rI e_v7 hM_h4
  · refine sm_pv hM_h rfl rfl ?_; intro h8 hM_h8
    exact sm_rI rfl hM_h8
set_option maxRecDepth 4000 in
theorem sf_X11_push (nn : Nat) {a1 : Int32} {y_a1 : Int} (e_a1 : a1.toInt = y_a1) {h : ms_M} (hM_h : Rg_M h) : Sm_ RV_ (f_X11_push nn 127 a1 (H_M h)) (qf_X11_push nn y_a1 h) := by
  unfold f_X11_push qf_X11_push
  refine sm_gi hM_h rfl ?_; intro v1 e_v1
  refine sm_gi hM_h rfl ?_; intro v2 e_v2
  refine sm_lt e_v1 e_v2 ?_ ?_
  · refine sm_gr hM_h (d := 135) rfl ?_
    refine sm_gi hM_h rfl ?_; intro v4 e_v4
    refine sm_si hM_h rfl e_v4 e_a1 ?_; intro h5 hM_h5
    refine sm_gi hM_h5 rfl ?_; intro v6 e_v6
    refine sm_oq_add e_v6 rfl ?_; intro v7 y_v7 e_v7
    refine sm_pv hM_h5 rfl e_v7 ?_; intro h8 hM_h8
    exact sm_rV hM_h8
  · refine sm_pv hM_h rfl rfl ?_; intro h9 hM_h9
    exact sm_rV hM_h9
set_option maxRecDepth 4000 in
theorem sj_X11_want_32 (nn : Nat) {h : ms_M} (hM_h : Rg_M h) : Sm_ RV_ (j_X11_want_32 nn 127 (H_M h)) (qj_X11_want_32 nn h) := by
  unfold j_X11_want_32 qj_X11_want_32
  refine sm_pv hM_h rfl rfl ?_; intro h1 hM_h1
  exact sm_rV hM_h1
set_option maxRecDepth 4000 in
theorem sf_X11_want (nn : Nat) {a1 : Int32} {y_a1 : Int} (e_a1 : a1.toInt = y_a1) {h : ms_M} (hM_h : Rg_M h) : Sm_ RV_ (f_X11_want nn 127 a1 (H_M h)) (qf_X11_want nn y_a1 h) := by
  unfold f_X11_want qf_X11_want
  refine sm_is hM_h rfl ?_
  refine sm_cI (sf_X11_pop nn hM_h) ?_; intro u3 y_u3 M_u3 e_u3 hM_u3
  refine sm_gi hM_u3 rfl ?_; intro v4 e_v4
  refine sm_eq e_v4 rfl ?_ ?_
  · refine sm_pv hM_u3 rfl rfl ?_; intro h5 hM_h5
    exact sm_rV hM_h5
  · refine sm_eq e_a1 rfl ?_ ?_
    · exact sj_X11_want_32 nn hM_u3
    · refine sm_gr hM_u3 (d := 57) rfl ?_
      refine sm_is hM_u3 rfl ?_
      refine sm_cP (sf_X4_fits nn _ rfl e_u3 e_a1 hM_u3) ?_; intro u8 y_u8 e_u8
      refine sm_eq e_u8 rfl ?_ ?_
      · refine sm_pv hM_u3 rfl rfl ?_; intro h9 hM_h9
        exact sm_rV hM_h9
      · exact sj_X11_want_32 nn hM_u3
set_option maxRecDepth 4000 in
theorem sj_X11_wantArray_61 (nn : Nat) {l3 : Int32} {y_l3 : Int} (e_l3 : l3.toInt = y_l3) {h : ms_M} (hM_h : Rg_M h) : Sm_ RI_ (j_X11_wantArray_61 nn l3 127 (H_M h)) (qj_X11_wantArray_61 nn y_l3 h) := by
  unfold j_X11_wantArray_61 qj_X11_wantArray_61
  refine sm_pv hM_h rfl rfl ?_; intro h1 hM_h1
  exact sm_rI e_l3 hM_h1
set_option maxRecDepth 4000 in
theorem sj_X11_wantArray_42 (nn : Nat) {l3 : Int32} {y_l3 : Int} (e_l3 : l3.toInt = y_l3) {s0 : Int32} {y_s0 : Int} (e_s0 : s0.toInt = y_s0) {h : ms_M} (hM_h : Rg_M h) : Sm_ RI_ (j_X11_wantArray_42 nn 127 l3 s0 (H_M h)) (qj_X11_wantArray_42 nn y_l3 y_s0 h) := by
  unfold j_X11_wantArray_42 qj_X11_wantArray_42
  refine sm_gi hM_h rfl ?_; intro v2 e_v2
  refine sm_eq e_v2 rfl ?_ ?_
  · exact sj_X11_wantArray_61 nn e_l3 hM_h
  · refine sm_eq e_s0 rfl ?_ ?_
    · exact sj_X11_wantArray_61 nn e_l3 hM_h
    · refine sm_pv hM_h rfl rfl ?_; intro h3 hM_h3
      exact sm_rI e_l3 hM_h3
set_option maxRecDepth 4000 in
theorem sj_X11_wantArray_41 (nn : Nat) {l3 : Int32} {y_l3 : Int} (e_l3 : l3.toInt = y_l3) {h : ms_M} (hM_h : Rg_M h) : Sm_ RI_ (j_X11_wantArray_41 nn 127 l3 (H_M h)) (qj_X11_wantArray_41 nn y_l3 h) := by
  unfold j_X11_wantArray_41 qj_X11_wantArray_41
  exact sj_X11_wantArray_42 nn e_l3 rfl hM_h
set_option maxRecDepth 4000 in
theorem sj_X11_wantArray_37 (nn : Nat) {l3 : Int32} {y_l3 : Int} (e_l3 : l3.toInt = y_l3) {h : ms_M} (hM_h : Rg_M h) : Sm_ RI_ (j_X11_wantArray_37 nn 127 l3 (H_M h)) (qj_X11_wantArray_37 nn y_l3 h) := by
  unfold j_X11_wantArray_37 qj_X11_wantArray_37
  exact sj_X11_wantArray_42 nn e_l3 rfl hM_h
set_option maxRecDepth 4000 in
theorem sf_X11_wantArray (nn : Nat) {a1 : Int32} {y_a1 : Int} (e_a1 : a1.toInt = y_a1) {a2 : Int32} {y_a2 : Int} (e_a2 : a2.toInt = y_a2) {h : ms_M} (hM_h : Rg_M h) : Sm_ RI_ (f_X11_wantArray nn 127 a1 a2 (H_M h)) (qf_X11_wantArray nn y_a1 y_a2 h) := by
  unfold f_X11_wantArray qf_X11_wantArray
  refine sm_is hM_h rfl ?_
  refine sm_cI (sf_X11_pop nn hM_h) ?_; intro u7 y_u7 M_u7 e_u7 hM_u7
  refine sm_eq e_u7 rfl ?_ ?_
  · exact sj_X11_wantArray_37 nn e_u7 hM_u7
  · refine sm_ne e_u7 rfl ?_ ?_
    · refine sm_eq e_a2 rfl ?_ ?_
      · exact sj_X11_wantArray_41 nn e_u7 hM_u7
      · refine sm_cP (sf_X4_isArray nn e_u7 hM_u7) ?_; intro u8 y_u8 e_u8
        refine sm_eq e_u8 rfl ?_ ?_
        · exact sj_X11_wantArray_41 nn e_u7 hM_u7
        · exact sj_X11_wantArray_37 nn e_u7 hM_u7
    · refine sm_eq e_a1 rfl ?_ ?_
      · exact sj_X11_wantArray_41 nn e_u7 hM_u7
      · exact sj_X11_wantArray_37 nn e_u7 hM_u7
set_option maxRecDepth 4000 in
theorem sj_X11_wantReference_24 (nn : Nat) {l1 : Int32} {y_l1 : Int} (e_l1 : l1.toInt = y_l1) {h : ms_M} (hM_h : Rg_M h) : Sm_ RI_ (j_X11_wantReference_24 nn l1 127 (H_M h)) (qj_X11_wantReference_24 nn y_l1 h) := by
  unfold j_X11_wantReference_24 qj_X11_wantReference_24
  refine sm_pv hM_h rfl rfl ?_; intro h1 hM_h1
  exact sm_rI e_l1 hM_h1
set_option maxRecDepth 4000 in
theorem sf_X11_wantReference (nn : Nat) {h : ms_M} (hM_h : Rg_M h) : Sm_ RI_ (f_X11_wantReference nn 127 (H_M h)) (qf_X11_wantReference nn h) := by
  unfold f_X11_wantReference qf_X11_wantReference
  refine sm_is hM_h rfl ?_
  refine sm_cI (sf_X11_pop nn hM_h) ?_; intro u3 y_u3 M_u3 e_u3 hM_u3
  refine sm_gi hM_u3 rfl ?_; intro v4 e_v4
  refine sm_eq e_v4 rfl ?_ ?_
  · exact sj_X11_wantReference_24 nn e_u3 hM_u3
  · refine sm_cP (sf_X4_isReference nn e_u3 hM_u3) ?_; intro u5 y_u5 e_u5
    refine sm_eq e_u5 rfl ?_ ?_
    · exact sj_X11_wantReference_24 nn e_u3 hM_u3
    · refine sm_pv hM_u3 rfl rfl ?_; intro h6 hM_h6
      exact sm_rI e_u3 hM_h6
set_option maxRecDepth 4000 in
theorem sf_X11_applyArray (nn : Nat) {a1 : Int32} {y_a1 : Int} (e_a1 : a1.toInt = y_a1) {h : ms_M} (hM_h : Rg_M h) : Sm_ RV_ (f_X11_applyArray nn 127 a1 (H_M h)) (qf_X11_applyArray nn y_a1 h) := by
  unfold f_X11_applyArray qf_X11_applyArray
  refine sm_eq e_a1 rfl ?_ ?_
  · refine sm_is hM_h rfl ?_
    refine sm_cV (sf_X11_want nn rfl hM_h) ?_; intro u2 hM_u2
    refine sm_is hM_u2 rfl ?_
    refine sm_cI (sf_X11_wantArray nn rfl rfl hM_u2) ?_; intro u4 y_u4 M_u4 e_u4 hM_u4
    refine sm_is hM_u4 rfl ?_
    refine sm_cV (sf_X11_push nn rfl hM_u4) ?_; intro u6 hM_u6
    exact sm_rV hM_u6
  · refine sm_eq e_a1 rfl ?_ ?_
    · refine sm_is hM_h rfl ?_
      refine sm_cV (sf_X11_want nn rfl hM_h) ?_; intro u8 hM_u8
      refine sm_is hM_u8 rfl ?_
      refine sm_cI (sf_X11_wantArray nn rfl rfl hM_u8) ?_; intro u10 y_u10 M_u10 e_u10 hM_u10
      refine sm_ne e_u10 rfl ?_ ?_
      · refine sm_cP (sf_X4_elementOf nn e_u10 hM_u10) ?_; intro u11 y_u11 e_u11
        refine sm_is hM_u10 rfl ?_
        refine sm_cV (sf_X11_push nn e_u11 hM_u10) ?_; intro u13 hM_u13
        exact sm_rV hM_u13
      · refine sm_is hM_u10 rfl ?_
        refine sm_cV (sf_X11_push nn rfl hM_u10) ?_; intro u15 hM_u15
        exact sm_rV hM_u15
    · refine sm_eq e_a1 rfl ?_ ?_
      · refine sm_is hM_h rfl ?_
        refine sm_cV (sf_X11_want nn rfl hM_h) ?_; intro u18 hM_u18
        refine sm_is hM_u18 rfl ?_
        refine sm_cV (sf_X11_want nn rfl hM_u18) ?_; intro u20 hM_u20
        refine sm_is hM_u20 rfl ?_
        refine sm_cI (sf_X11_wantArray nn rfl rfl hM_u20) ?_; intro u22 y_u22 M_u22 e_u22 hM_u22
        exact sm_rV hM_u22
      · refine sm_eq e_a1 rfl ?_ ?_
        · refine sm_is hM_h rfl ?_
          refine sm_cI (sf_X11_wantReference nn hM_h) ?_; intro u24 y_u24 M_u24 e_u24 hM_u24
          refine sm_is hM_u24 rfl ?_
          refine sm_cV (sf_X11_want nn rfl hM_u24) ?_; intro u26 hM_u26
          refine sm_is hM_u26 rfl ?_
          refine sm_cI (sf_X11_wantArray nn rfl rfl hM_u26) ?_; intro u28 y_u28 M_u28 e_u28 hM_u28
          exact sm_rV hM_u28
        · refine sm_eq e_a1 rfl ?_ ?_
          · refine sm_is hM_h rfl ?_
            refine sm_cI (sf_X11_pop nn hM_h) ?_; intro u30 y_u30 M_u30 e_u30 hM_u30
            exact sm_rV hM_u30
          · refine sm_eq e_a1 rfl ?_ ?_
            · refine sm_is hM_h rfl ?_
              refine sm_cI (sf_X11_pop nn hM_h) ?_; intro u32 y_u32 M_u32 e_u32 hM_u32
              refine sm_is hM_u32 rfl ?_
              refine sm_cV (sf_X11_push nn e_u32 hM_u32) ?_; intro u34 hM_u34
              refine sm_is hM_u34 rfl ?_
              refine sm_cV (sf_X11_push nn e_u32 hM_u34) ?_; intro u36 hM_u36
              exact sm_rV hM_u36
            · refine sm_eq e_a1 rfl ?_ ?_
              · refine sm_is hM_h rfl ?_
                refine sm_cV (sf_X11_want nn rfl hM_h) ?_; intro u38 hM_u38
                refine sm_is hM_u38 rfl ?_
                refine sm_cV (sf_X11_push nn rfl hM_u38) ?_; intro u40 hM_u40
                exact sm_rV hM_u40
              · exact sm_rV hM_h
set_option maxRecDepth 4000 in
theorem sj_X11_applyJump_22 (nn : Nat) {h : ms_M} (hM_h : Rg_M h) : Sm_ RV_ (j_X11_applyJump_22 nn 127 (H_M h)) (qj_X11_applyJump_22 nn h) := by
  unfold j_X11_applyJump_22 qj_X11_applyJump_22
  refine sm_is hM_h rfl ?_
  refine sm_cI (sf_X11_wantReference nn hM_h) ?_; intro u2 y_u2 M_u2 e_u2 hM_u2
  refine sm_is hM_u2 rfl ?_
  refine sm_cI (sf_X11_wantReference nn hM_u2) ?_; intro u4 y_u4 M_u4 e_u4 hM_u4
  exact sm_rV hM_u4
set_option maxRecDepth 4000 in
theorem sf_X11_applyJump (nn : Nat) {a1 : Int32} {y_a1 : Int} (e_a1 : a1.toInt = y_a1) {h : ms_M} (hM_h : Rg_M h) : Sm_ RV_ (f_X11_applyJump nn 127 a1 (H_M h)) (qf_X11_applyJump nn y_a1 h) := by
  unfold f_X11_applyJump qf_X11_applyJump
  refine sm_ne e_a1 rfl ?_ ?_
  · refine sm_eq e_a1 rfl ?_ ?_
    · exact sj_X11_applyJump_22 nn hM_h
    · refine sm_ne e_a1 rfl ?_ ?_
      · refine sm_is hM_h rfl ?_
        refine sm_cV (sf_X11_want nn rfl hM_h) ?_; intro u6 hM_u6
        refine sm_lt e_a1 rfl ?_ ?_
        · exact sm_rV hM_u6
        · refine sm_is hM_u6 rfl ?_
          refine sm_cV (sf_X11_want nn rfl hM_u6) ?_; intro u8 hM_u8
          exact sm_rV hM_u8
      · exact sj_X11_applyJump_22 nn hM_h
  · exact sm_rV hM_h
set_option maxRecDepth 4000 in
theorem sj_X11_applyLocal_91 (nn : Nat) {l2 : Int32} {y_l2 : Int} (e_l2 : l2.toInt = y_l2) {s0 : Int32} {y_s0 : Int} (e_s0 : s0.toInt = y_s0) {h : ms_M} (hM_h : Rg_M h) : Sm_ RV_ (j_X11_applyLocal_91 nn 127 l2 s0 127 (H_M h)) (qj_X11_applyLocal_91 nn y_l2 y_s0 h) := by
  unfold j_X11_applyLocal_91 qj_X11_applyLocal_91
  refine sm_bq e_s0 ?_
  refine sm_pv hM_h rfl e_s0 ?_; intro h2 hM_h2
  refine sm_gr hM_h2 (d := 134) rfl ?_
  refine sm_ai hM_h2 rfl e_l2 ?_; intro v4 y_v4 e_v4
  refine sm_is hM_h2 rfl ?_
  refine sm_cV (sf_X11_push nn e_v4 hM_h2) ?_; intro u6 hM_u6
  exact sm_rV hM_u6
set_option maxRecDepth 4000 in
theorem sj_X11_applyLocal_90 (nn : Nat) {l2 : Int32} {y_l2 : Int} (e_l2 : l2.toInt = y_l2) {h : ms_M} (hM_h : Rg_M h) : Sm_ RV_ (j_X11_applyLocal_90 nn 127 l2 127 (H_M h)) (qj_X11_applyLocal_90 nn y_l2 h) := by
  unfold j_X11_applyLocal_90 qj_X11_applyLocal_90
  exact sj_X11_applyLocal_91 nn e_l2 rfl hM_h
set_option maxRecDepth 4000 in
theorem sj_X11_applyLocal_73 (nn : Nat) {l2 : Int32} {y_l2 : Int} (e_l2 : l2.toInt = y_l2) {s0 : Int32} {y_s0 : Int} (e_s0 : s0.toInt = y_s0) {h : ms_M} (hM_h : Rg_M h) : Sm_ RV_ (j_X11_applyLocal_73 nn 127 l2 s0 (H_M h)) (qj_X11_applyLocal_73 nn y_l2 y_s0 h) := by
  unfold j_X11_applyLocal_73 qj_X11_applyLocal_73
  refine sm_gi hM_h rfl ?_; intro v7 e_v7
  refine sm_eq e_v7 rfl ?_ ?_
  · exact sj_X11_applyLocal_90 nn e_l2 hM_h
  · refine sm_eq e_s0 rfl ?_ ?_
    · exact sj_X11_applyLocal_90 nn e_l2 hM_h
    · exact sj_X11_applyLocal_91 nn e_l2 rfl hM_h
set_option maxRecDepth 4000 in
theorem sj_X11_applyLocal_38 (nn : Nat) {l1 : Int32} {y_l1 : Int} (e_l1 : l1.toInt = y_l1) {l2 : Int32} {y_l2 : Int} (e_l2 : l2.toInt = y_l2) {h : ms_M} (hM_h : Rg_M h) : Sm_ RV_ (j_X11_applyLocal_38 nn 127 l1 l2 (H_M h)) (qj_X11_applyLocal_38 nn y_l1 y_l2 h) := by
  unfold j_X11_applyLocal_38 qj_X11_applyLocal_38
  refine sm_ne e_l1 rfl ?_ ?_
  · refine sm_gr hM_h (d := 134) rfl ?_
    refine sm_ai hM_h rfl e_l2 ?_; intro v11 y_v11 e_v11
    refine sm_cP (sf_X4_isReference nn e_v11 hM_h) ?_; intro u12 y_u12 e_u12
    exact sj_X11_applyLocal_73 nn e_l2 e_u12 hM_h
  · refine sm_gr hM_h (d := 134) rfl ?_
    refine sm_ai hM_h rfl e_l2 ?_; intro v14 y_v14 e_v14
    refine sm_ne e_v14 rfl ?_ ?_
    · exact sj_X11_applyLocal_73 nn e_l2 rfl hM_h
    · exact sj_X11_applyLocal_73 nn e_l2 rfl hM_h
set_option maxRecDepth 4000 in
theorem sj_X11_applyLocal_18 (nn : Nat) {h : ms_M} (hM_h : Rg_M h) : Sm_ RV_ (j_X11_applyLocal_18 nn 127 (H_M h)) (qj_X11_applyLocal_18 nn h) := by
  unfold j_X11_applyLocal_18 qj_X11_applyLocal_18
  refine sm_pv hM_h rfl rfl ?_; intro h17 hM_h17
  exact sm_rV hM_h17
set_option maxRecDepth 4000 in
theorem sf_X11_applyLocal (nn : Nat) {a1 : Int32} {y_a1 : Int} (e_a1 : a1.toInt = y_a1) {a2 : Int32} {y_a2 : Int} (e_a2 : a2.toInt = y_a2) {h : ms_M} (hM_h : Rg_M h) : Sm_ RV_ (f_X11_applyLocal nn 127 a1 a2 (H_M h)) (qf_X11_applyLocal nn y_a1 y_a2 h) := by
  unfold f_X11_applyLocal qf_X11_applyLocal
  refine sm_is hM_h rfl ?_
  refine sm_cP (sf_X11_info nn rfl hM_h) ?_; intro u19 y_u19 e_u19
  refine sm_le e_u19 e_a2 ?_ ?_
  · exact sj_X11_applyLocal_18 nn hM_h
  · refine sm_gr hM_h (d := 134) rfl ?_
    refine sm_ln hM_h (z := 30) rfl ?_; intro v21 e_v21
    refine sm_lt e_a2 e_v21 ?_ ?_
    · refine sm_eq e_a1 rfl ?_ ?_
      · exact sj_X11_applyLocal_38 nn e_a1 e_a2 hM_h
      · refine sm_ne e_a1 rfl ?_ ?_
        · refine sm_ne e_a1 rfl ?_ ?_
          · refine sm_gr hM_h (d := 134) rfl ?_
            refine sm_is hM_h rfl ?_
            refine sm_cI (sf_X11_wantReference nn hM_h) ?_; intro u24 y_u24 M_u24 e_u24 hM_u24
            refine sm_si hM_u24 rfl e_a2 e_u24 ?_; intro h25 hM_h25
            exact sm_rV hM_h25
          · refine sm_is hM_h rfl ?_
            refine sm_cV (sf_X11_want nn rfl hM_h) ?_; intro u27 hM_u27
            refine sm_gr hM_u27 (d := 134) rfl ?_
            refine sm_si hM_u27 rfl e_a2 rfl ?_; intro h29 hM_h29
            exact sm_rV hM_h29
        · exact sj_X11_applyLocal_38 nn e_a1 e_a2 hM_h
    · exact sj_X11_applyLocal_18 nn hM_h
set_option maxRecDepth 4000 in
theorem sj_X11_applyMember_131 (nn : Nat) {l4 : Int32} {y_l4 : Int} (e_l4 : l4.toInt = y_l4) {h : ms_M} (hM_h : Rg_M h) : Sm_ RV_ (j_X11_applyMember_131 nn 127 l4 (H_M h)) (qj_X11_applyMember_131 nn y_l4 h) := by
  unfold j_X11_applyMember_131 qj_X11_applyMember_131
  refine sm_gr hM_h (d := 131) rfl ?_
  refine sm_ai hM_h rfl e_l4 ?_; intro v2 y_v2 e_v2
  refine sm_eq e_v2 rfl ?_ ?_
  · exact sm_rV hM_h
  · refine sm_gr hM_h (d := 131) rfl ?_
    refine sm_ai hM_h rfl e_l4 ?_; intro v4 y_v4 e_v4
    refine sm_is hM_h rfl ?_
    refine sm_cV (sf_X11_push nn e_v4 hM_h) ?_; intro u6 hM_u6
    exact sm_rV hM_u6
set_option maxRecDepth 4000 in
theorem sw_X11_applyMember_94 (nn : Nat) : ∀ (k : Nat) {l1 : Int32} {y_l1 : Int} (e_l1 : l1.toInt = y_l1) {l3 : Int32} {y_l3 : Int} (e_l3 : l3.toInt = y_l3) {l4 : Int32} {y_l4 : Int} (e_l4 : l4.toInt = y_l4) {l5 : Int32} {y_l5 : Int} (e_l5 : l5.toInt = y_l5) {h : ms_M} (hM_h : Rg_M h), Sm_ RV_ (w_X11_applyMember_94 nn k 127 l1 l3 l4 l5 (H_M h)) (qw_X11_applyMember_94 nn k y_l1 y_l3 y_l4 y_l5 h) := by
  intro k
  induction k with
  | zero => intros; exact sm_no
  | succ k ih =>
    intro l1 y_l1 e_l1 l3 y_l3 e_l3 l4 y_l4 e_l4 l5 y_l5 e_l5 h hM_h
    unfold w_X11_applyMember_94 qw_X11_applyMember_94
    refine sm_le e_l5 rfl ?_ ?_
    · refine sm_ne e_l1 rfl ?_ ?_
      · exact sj_X11_applyMember_131 nn e_l4 hM_h
      · refine sm_is hM_h rfl ?_
        refine sm_cV (sf_X11_want nn e_l3 hM_h) ?_; intro u9 hM_u9
        exact sj_X11_applyMember_131 nn e_l4 hM_u9
    · refine sm_gr hM_h (d := 131) rfl ?_
      refine sm_oq_add e_l4 e_l5 ?_; intro v12 y_v12 e_v12
      refine sm_ai hM_h rfl e_v12 ?_; intro v13 y_v13 e_v13
      refine sm_is hM_h rfl ?_
      refine sm_cV (sf_X11_want nn e_v13 hM_h) ?_; intro u15 hM_u15
      refine sm_oq_add e_l5 rfl ?_; intro v16 y_v16 e_v16
      exact ih e_l1 e_l3 e_l4 e_v16 hM_u15
set_option maxRecDepth 4000 in
theorem sf_X11_applyMember (nn : Nat) {a1 : Int32} {y_a1 : Int} (e_a1 : a1.toInt = y_a1) {a2 : Int32} {y_a2 : Int} (e_a2 : a2.toInt = y_a2) {h : ms_M} (hM_h : Rg_M h) : Sm_ RV_ (f_X11_applyMember nn 127 a1 a2 (H_M h)) (qf_X11_applyMember nn y_a1 y_a2 h) := by
  unfold f_X11_applyMember qf_X11_applyMember
  refine sm_gr hM_h (d := 128) rfl ?_
  refine sm_gm hM_h rfl ?_
  refine sm_isS hM_h ?_; intro hb1
  refine sm_cP (sf_X3_partOf nn _ hb1 e_a2 rfl hM_h) ?_; intro u21 y_u21 e_u21
  refine sm_ai hM_h rfl e_u21 ?_; intro v22 y_v22 e_v22
  refine sm_oq_mul e_a2 rfl ?_; intro v23 y_v23 e_v23
  refine sm_eq e_a1 rfl ?_ ?_
  · refine sm_is hM_h rfl ?_
    refine sm_cV (sf_X11_want nn e_v22 hM_h) ?_; intro u27 hM_u27
    refine sm_gr hM_u27 (d := 131) rfl ?_
    refine sm_ai hM_u27 rfl e_v23 ?_; intro v29 y_v29 e_v29
    refine sm_is hM_u27 rfl ?_
    refine sm_cV (sf_X11_push nn e_v29 hM_u27) ?_; intro u31 hM_u31
    exact sm_rV hM_u31
  · refine sm_eq e_a1 rfl ?_ ?_
    · refine sm_gr hM_h (d := 131) rfl ?_
      refine sm_ai hM_h rfl e_v23 ?_; intro v33 y_v33 e_v33
      refine sm_is hM_h rfl ?_
      refine sm_cV (sf_X11_want nn e_v33 hM_h) ?_; intro u35 hM_u35
      refine sm_is hM_u35 rfl ?_
      refine sm_cV (sf_X11_want nn e_v22 hM_u35) ?_; intro u37 hM_u37
      exact sm_rV hM_u37
    · refine sm_gr hM_h (d := 130) rfl ?_
      refine sm_ai hM_h rfl e_a2 ?_; intro v25 y_v25 e_v25
      exact sw_X11_applyMember_94 nn nn e_a1 e_v22 e_v23 e_v25 hM_h
set_option maxRecDepth 4000 in
theorem sf_X11_applyObject (nn : Nat) {a1 : Int32} {y_a1 : Int} (e_a1 : a1.toInt = y_a1) {a2 : Int32} {y_a2 : Int} (e_a2 : a2.toInt = y_a2) {h : ms_M} (hM_h : Rg_M h) : Sm_ RV_ (f_X11_applyObject nn 127 a1 a2 (H_M h)) (qf_X11_applyObject nn y_a1 y_a2 h) := by
  unfold f_X11_applyObject qf_X11_applyObject
  refine sm_eq e_a1 rfl ?_ ?_
  · refine sm_is hM_h rfl ?_
    refine sm_cV (sf_X11_want nn rfl hM_h) ?_; intro u6 hM_u6
    exact sm_rV hM_u6
  · refine sm_eq e_a1 rfl ?_ ?_
    · refine sm_gr hM_h (d := 128) rfl ?_
      refine sm_ai hM_h rfl e_a2 ?_; intro v8 y_v8 e_v8
      refine sm_is hM_h rfl ?_
      refine sm_cV (sf_X11_push nn e_v8 hM_h) ?_; intro u10 hM_u10
      exact sm_rV hM_u10
    · refine sm_eq e_a1 rfl ?_ ?_
      · refine sm_is hM_h rfl ?_
        refine sm_cV (sf_X11_want nn rfl hM_h) ?_; intro u12 hM_u12
        refine sm_is hM_u12 rfl ?_
        refine sm_cV (sf_X11_push nn rfl hM_u12) ?_; intro u14 hM_u14
        exact sm_rV hM_u14
      · refine sm_eq e_a1 rfl ?_ ?_
        · refine sm_is hM_h rfl ?_
          refine sm_cV (sf_X11_want nn rfl hM_h) ?_; intro u16 hM_u16
          refine sm_gr hM_u16 (d := 128) rfl ?_
          refine sm_ai hM_u16 rfl e_a2 ?_; intro v18 y_v18 e_v18
          refine sm_oq_add rfl e_v18 ?_; intro v19 y_v19 e_v19
          refine sm_is hM_u16 rfl ?_
          refine sm_cV (sf_X11_push nn e_v19 hM_u16) ?_; intro u21 hM_u21
          exact sm_rV hM_u21
        · refine sm_eq e_a1 rfl ?_ ?_
          · refine sm_is hM_h rfl ?_
            refine sm_cI (sf_X11_wantArray nn rfl rfl hM_h) ?_; intro u23 y_u23 M_u23 e_u23 hM_u23
            refine sm_is hM_u23 rfl ?_
            refine sm_cV (sf_X11_push nn rfl hM_u23) ?_; intro u25 hM_u25
            exact sm_rV hM_u25
          · refine sm_eq e_a1 rfl ?_ ?_
            · refine sm_is hM_h rfl ?_
              refine sm_cV (sf_X11_want nn rfl hM_h) ?_; intro u27 hM_u27
              exact sm_rV hM_u27
            · refine sm_eq e_a1 rfl ?_ ?_
              · refine sm_is hM_h rfl ?_
                refine sm_cI (sf_X11_wantReference nn hM_h) ?_; intro u29 y_u29 M_u29 e_u29 hM_u29
                refine sm_gr hM_u29 (d := 128) rfl ?_
                refine sm_ai hM_u29 rfl e_a2 ?_; intro v31 y_v31 e_v31
                refine sm_is hM_u29 rfl ?_
                refine sm_cV (sf_X11_push nn e_v31 hM_u29) ?_; intro u33 hM_u33
                exact sm_rV hM_u33
              · refine sm_is hM_h rfl ?_
                refine sm_cI (sf_X11_wantReference nn hM_h) ?_; intro u2 y_u2 M_u2 e_u2 hM_u2
                refine sm_is hM_u2 rfl ?_
                refine sm_cV (sf_X11_push nn rfl hM_u2) ?_; intro u4 hM_u4
                exact sm_rV hM_u4
set_option maxRecDepth 4000 in
theorem sj_X11_applyReturn_65 (nn : Nat) {h : ms_M} (hM_h : Rg_M h) : Sm_ RV_ (j_X11_applyReturn_65 nn 127 (H_M h)) (qj_X11_applyReturn_65 nn h) := by
  unfold j_X11_applyReturn_65 qj_X11_applyReturn_65
  refine sm_pv hM_h rfl rfl ?_; intro h1 hM_h1
  exact sm_rV hM_h1
set_option maxRecDepth 4000 in
theorem sf_X11_applyReturn (nn : Nat) {a1 : Int32} {y_a1 : Int} (e_a1 : a1.toInt = y_a1) {h : ms_M} (hM_h : Rg_M h) : Sm_ RV_ (f_X11_applyReturn nn 127 a1 (H_M h)) (qf_X11_applyReturn nn y_a1 h) := by
  unfold f_X11_applyReturn qf_X11_applyReturn
  refine sm_ne e_a1 rfl ?_ ?_
  · refine sm_ne e_a1 rfl ?_ ?_
    · refine sm_gi hM_h rfl ?_; intro v2 e_v2
      refine sm_is hM_h rfl ?_
      refine sm_cV (sf_X11_want nn e_v2 hM_h) ?_; intro u4 hM_u4
      refine sm_gi hM_u4 rfl ?_; intro v5 e_v5
      refine sm_eq e_v5 rfl ?_ ?_
      · refine sm_pv hM_u4 rfl rfl ?_; intro h6 hM_h6
        exact sm_rV hM_h6
      · refine sm_gi hM_u4 rfl ?_; intro v7 e_v7
        refine sm_eq e_v7 rfl ?_ ?_
        · refine sm_pv hM_u4 rfl rfl ?_; intro h8 hM_h8
          exact sm_rV hM_h8
        · refine sm_gi hM_u4 rfl ?_; intro v9 e_v9
          refine sm_eq e_v9 rfl ?_ ?_
          · refine sm_pv hM_u4 rfl rfl ?_; intro h10 hM_h10
            exact sm_rV hM_h10
          · refine sm_pv hM_u4 rfl rfl ?_; intro h11 hM_h11
            exact sm_rV hM_h11
    · refine sm_is hM_h rfl ?_
      refine sm_cV (sf_X11_want nn rfl hM_h) ?_; intro u16 hM_u16
      refine sm_gi hM_u16 rfl ?_; intro v17 e_v17
      refine sm_eq e_v17 rfl ?_ ?_
      · exact sj_X11_applyReturn_65 nn hM_u16
      · refine sm_gi hM_u16 rfl ?_; intro v18 e_v18
        refine sm_ne e_v18 rfl ?_ ?_
        · exact sj_X11_applyReturn_65 nn hM_u16
        · refine sm_pv hM_u16 rfl rfl ?_; intro h19 hM_h19
          exact sm_rV hM_h19
  · refine sm_gi hM_h rfl ?_; intro v23 e_v23
    refine sm_ne e_v23 rfl ?_ ?_
    · refine sm_pv hM_h rfl rfl ?_; intro h24 hM_h24
      exact sm_rV hM_h24
    · refine sm_pv hM_h rfl rfl ?_; intro h25 hM_h25
      exact sm_rV hM_h25
set_option maxRecDepth 4000 in
theorem sj_X11_applySimple_103 (nn : Nat) {l1 : Int32} {y_l1 : Int} (e_l1 : l1.toInt = y_l1) {l2 : Int32} {y_l2 : Int} (e_l2 : l2.toInt = y_l2) {h : ms_M} (hM_h : Rg_M h) : Sm_ RV_ (j_X11_applySimple_103 nn 127 l1 l2 (H_M h)) (qj_X11_applySimple_103 nn y_l1 y_l2 h) := by
  unfold j_X11_applySimple_103 qj_X11_applySimple_103
  refine sm_is hM_h rfl ?_
  refine sm_cV (sf_X11_applyLocal nn e_l1 e_l2 hM_h) ?_; intro u2 hM_u2
  exact sm_rV hM_u2
set_option maxRecDepth 4000 in
theorem sj_X11_applySimple_38 (nn : Nat) {h : ms_M} (hM_h : Rg_M h) : Sm_ RV_ (j_X11_applySimple_38 nn 127 (H_M h)) (qj_X11_applySimple_38 nn h) := by
  unfold j_X11_applySimple_38 qj_X11_applySimple_38
  refine sm_is hM_h rfl ?_
  refine sm_cV (sf_X11_push nn rfl hM_h) ?_; intro u4 hM_u4
  exact sm_rV hM_u4
set_option maxRecDepth 4000 in
theorem sj_X11_applySimple_26 (nn : Nat) {l1 : Int32} {y_l1 : Int} (e_l1 : l1.toInt = y_l1) {l2 : Int32} {y_l2 : Int} (e_l2 : l2.toInt = y_l2) {h : ms_M} (hM_h : Rg_M h) : Sm_ RV_ (j_X11_applySimple_26 nn 127 l1 l2 (H_M h)) (qj_X11_applySimple_26 nn y_l1 y_l2 h) := by
  unfold j_X11_applySimple_26 qj_X11_applySimple_26
  refine sm_eq e_l1 rfl ?_ ?_
  · exact sj_X11_applySimple_38 nn hM_h
  · refine sm_ne e_l1 rfl ?_ ?_
    · refine sm_cP (sf_X11_isArithmetic nn e_l1 hM_h) ?_; intro u5 y_u5 e_u5
      refine sm_eq e_u5 rfl ?_ ?_
      · refine sm_eq e_l1 rfl ?_ ?_
        · exact sj_X11_applySimple_103 nn e_l1 e_l2 hM_h
        · refine sm_eq e_l1 rfl ?_ ?_
          · exact sj_X11_applySimple_103 nn e_l1 e_l2 hM_h
          · refine sm_eq e_l1 rfl ?_ ?_
            · exact sj_X11_applySimple_103 nn e_l1 e_l2 hM_h
            · refine sm_ne e_l1 rfl ?_ ?_
              · refine sm_cP (sf_X11_isJump nn e_l1 hM_h) ?_; intro u6 y_u6 e_u6
                refine sm_eq e_u6 rfl ?_ ?_
                · refine sm_le rfl e_l1 ?_ ?_
                  · refine sm_le rfl e_l1 ?_ ?_
                    · refine sm_lt rfl e_l1 ?_ ?_
                      · refine sm_is hM_h rfl ?_
                        refine sm_cV (sf_X11_applyObject nn e_l1 e_l2 hM_h) ?_; intro u8 hM_u8
                        exact sm_rV hM_u8
                      · refine sm_is hM_h rfl ?_
                        refine sm_cV (sf_X11_applyMember nn e_l1 e_l2 hM_h) ?_; intro u10 hM_u10
                        exact sm_rV hM_u10
                    · refine sm_is hM_h rfl ?_
                      refine sm_cV (sf_X11_applyReturn nn e_l1 hM_h) ?_; intro u13 hM_u13
                      exact sm_rV hM_u13
                  · refine sm_is hM_h rfl ?_
                    refine sm_cV (sf_X11_applyArray nn e_l1 hM_h) ?_; intro u16 hM_u16
                    exact sm_rV hM_u16
                · refine sm_is hM_h rfl ?_
                  refine sm_cV (sf_X11_applyJump nn e_l1 hM_h) ?_; intro u19 hM_u19
                  exact sm_rV hM_u19
              · exact sj_X11_applySimple_103 nn e_l1 e_l2 hM_h
      · refine sm_is hM_h rfl ?_
        refine sm_cV (sf_X11_want nn rfl hM_h) ?_; intro u26 hM_u26
        refine sm_is hM_u26 rfl ?_
        refine sm_cV (sf_X11_want nn rfl hM_u26) ?_; intro u28 hM_u28
        refine sm_is hM_u28 rfl ?_
        refine sm_cV (sf_X11_push nn rfl hM_u28) ?_; intro u30 hM_u30
        exact sm_rV hM_u30
    · exact sj_X11_applySimple_38 nn hM_h
set_option maxRecDepth 4000 in
theorem sf_X11_applySimple (nn : Nat) {a1 : Int32} {y_a1 : Int} (e_a1 : a1.toInt = y_a1) {a2 : Int32} {y_a2 : Int} (e_a2 : a2.toInt = y_a2) {h : ms_M} (hM_h : Rg_M h) : Sm_ RV_ (f_X11_applySimple nn 127 a1 a2 (H_M h)) (qf_X11_applySimple nn y_a1 y_a2 h) := by
  unfold f_X11_applySimple qf_X11_applySimple
  refine sm_ne e_a1 rfl ?_ ?_
  · refine sm_lt e_a1 rfl ?_ ?_
    · exact sj_X11_applySimple_26 nn e_a1 e_a2 hM_h
    · refine sm_le e_a1 rfl ?_ ?_
      · exact sj_X11_applySimple_38 nn hM_h
      · exact sj_X11_applySimple_26 nn e_a1 e_a2 hM_h
  · refine sm_is hM_h rfl ?_
    refine sm_cV (sf_X11_push nn rfl hM_h) ?_; intro u37 hM_u37
    exact sm_rV hM_u37
set_option maxRecDepth 4000 in
theorem sf_X11_fits (nn : Nat) {a1 : Int32} {y_a1 : Int} (e_a1 : a1.toInt = y_a1) {a2 : Int32} {y_a2 : Int} (e_a2 : a2.toInt = y_a2) {h : ms_M} (hM_h : Rg_M h) : Sm_ (RP_ h) (f_X11_fits nn 127 a1 a2 (H_M h)) (qf_X11_fits nn y_a1 y_a2 h) := by
  unfold f_X11_fits qf_X11_fits
  refine sm_eq e_a2 rfl ?_ ?_
  · exact sm_rP rfl
  · refine sm_gr hM_h (d := 57) rfl ?_
    refine sm_is hM_h rfl ?_
    refine sm_cP (sf_X4_fits nn _ rfl e_a1 e_a2 hM_h) ?_; intro u3 y_u3 e_u3
    refine sm_eq e_u3 rfl ?_ ?_
    · exact sm_rP rfl
    · exact sm_rP rfl
set_option maxRecDepth 4000 in
theorem sw_X11_fitsLocals_4 (nn : Nat) : ∀ (k : Nat) {l1 : Int32} {y_l1 : Int} (e_l1 : l1.toInt = y_l1) {l2 : Int32} {y_l2 : Int} (e_l2 : l2.toInt = y_l2) {l3 : Int32} {y_l3 : Int} (e_l3 : l3.toInt = y_l3) {h : ms_M} (hM_h : Rg_M h), Sm_ (RP_ h) (w_X11_fitsLocals_4 nn k 127 l1 l2 l3 (H_M h)) (qw_X11_fitsLocals_4 nn k y_l1 y_l2 y_l3 h) := by
  intro k
  induction k with
  | zero => intros; exact sm_no
  | succ k ih =>
    intro l1 y_l1 e_l1 l2 y_l2 e_l2 l3 y_l3 e_l3 h hM_h
    unfold w_X11_fitsLocals_4 qw_X11_fitsLocals_4
    refine sm_gr hM_h (d := 133) rfl ?_
    refine sm_oq_add e_l1 rfl ?_; intro v2 y_v2 e_v2
    refine sm_ai hM_h rfl e_v2 ?_; intro v3 y_v3 e_v3
    refine sm_le e_v3 e_l3 ?_ ?_
    · refine sm_bq e_l2 ?_
      exact sm_rP e_l2
    · refine sm_eq e_l2 rfl ?_ ?_
      · refine sm_bq e_l2 ?_
        exact sm_rP e_l2
      · refine sm_gr hM_h (d := 134) rfl ?_
        refine sm_ai hM_h rfl e_l3 ?_; intro v7 y_v7 e_v7
        refine sm_gr hM_h (d := 133) rfl ?_
        refine sm_oq_add e_l1 rfl ?_; intro v9 y_v9 e_v9
        refine sm_oq_add e_v9 e_l3 ?_; intro v10 y_v10 e_v10
        refine sm_ai hM_h rfl e_v10 ?_; intro v11 y_v11 e_v11
        refine sm_is hM_h rfl ?_
        refine sm_cP (sf_X11_fits nn e_v7 e_v11 hM_h) ?_; intro u13 y_u13 e_u13
        refine sm_oq_add e_l3 rfl ?_; intro v14 y_v14 e_v14
        exact ih e_l1 e_u13 e_v14 hM_h
set_option maxRecDepth 4000 in
theorem sf_X11_fitsLocals (nn : Nat) {a1 : Int32} {y_a1 : Int} (e_a1 : a1.toInt = y_a1) {h : ms_M} (hM_h : Rg_M h) : Sm_ (RP_ h) (f_X11_fitsLocals nn 127 a1 (H_M h)) (qf_X11_fitsLocals nn y_a1 h) := by
  unfold f_X11_fitsLocals qf_X11_fitsLocals
  exact sw_X11_fitsLocals_4 nn nn e_a1 rfl rfl hM_h
set_option maxRecDepth 4000 in
theorem sw_X11_fitsFrame_37 (nn : Nat) : ∀ (k : Nat) {l2 : Int32} {y_l2 : Int} (e_l2 : l2.toInt = y_l2) {l3 : Int32} {y_l3 : Int} (e_l3 : l3.toInt = y_l3) {l4 : Int32} {y_l4 : Int} (e_l4 : l4.toInt = y_l4) {h : ms_M} (hM_h : Rg_M h), Sm_ (RP_ h) (w_X11_fitsFrame_37 nn k 127 l2 l3 l4 (H_M h)) (qw_X11_fitsFrame_37 nn k y_l2 y_l3 y_l4 h) := by
  intro k
  induction k with
  | zero => intros; exact sm_no
  | succ k ih =>
    intro l2 y_l2 e_l2 l3 y_l3 e_l3 l4 y_l4 e_l4 h hM_h
    unfold w_X11_fitsFrame_37 qw_X11_fitsFrame_37
    refine sm_gi hM_h rfl ?_; intro v1 e_v1
    refine sm_le e_v1 e_l4 ?_ ?_
    · refine sm_bq e_l3 ?_
      exact sm_rP e_l3
    · refine sm_eq e_l3 rfl ?_ ?_
      · refine sm_bq e_l3 ?_
        exact sm_rP e_l3
      · refine sm_gr hM_h (d := 135) rfl ?_
        refine sm_ai hM_h rfl e_l4 ?_; intro v5 y_v5 e_v5
        refine sm_gr hM_h (d := 133) rfl ?_
        refine sm_oq_add e_l2 rfl ?_; intro v7 y_v7 e_v7
        refine sm_oq_add e_v7 e_l4 ?_; intro v8 y_v8 e_v8
        refine sm_ai hM_h rfl e_v8 ?_; intro v9 y_v9 e_v9
        refine sm_is hM_h rfl ?_
        refine sm_cP (sf_X11_fits nn e_v5 e_v9 hM_h) ?_; intro u11 y_u11 e_u11
        refine sm_oq_add e_l4 rfl ?_; intro v12 y_v12 e_v12
        exact ih e_l2 e_u11 e_v12 hM_h
set_option maxRecDepth 4000 in
theorem sj_X11_fitsFrame_32 (nn : Nat) {l2 : Int32} {y_l2 : Int} (e_l2 : l2.toInt = y_l2) {h : ms_M} (hM_h : Rg_M h) : Sm_ (RP_ h) (j_X11_fitsFrame_32 nn 127 l2 (H_M h)) (qj_X11_fitsFrame_32 nn y_l2 h) := by
  unfold j_X11_fitsFrame_32 qj_X11_fitsFrame_32
  exact sw_X11_fitsFrame_37 nn nn e_l2 rfl rfl hM_h
set_option maxRecDepth 4000 in
theorem sf_X11_fitsFrame (nn : Nat) {a1 : Int32} {y_a1 : Int} (e_a1 : a1.toInt = y_a1) {h : ms_M} (hM_h : Rg_M h) : Sm_ (RP_ h) (f_X11_fitsFrame nn 127 a1 (H_M h)) (qf_X11_fitsFrame nn y_a1 h) := by
  unfold f_X11_fitsFrame qf_X11_fitsFrame
  refine sm_oq_mul e_a1 rfl ?_; intro v15 y_v15 e_v15
  refine sm_gr hM_h (d := 133) rfl ?_
  refine sm_oq_add e_v15 rfl ?_; intro v17 y_v17 e_v17
  refine sm_ai hM_h rfl e_v17 ?_; intro v18 y_v18 e_v18
  refine sm_gi hM_h rfl ?_; intro v19 e_v19
  refine sm_ne e_v18 e_v19 ?_ ?_
  · exact sj_X11_fitsFrame_32 nn e_v15 hM_h
  · refine sm_is hM_h rfl ?_
    refine sm_cP (sf_X11_fitsLocals nn e_v15 hM_h) ?_; intro u21 y_u21 e_u21
    refine sm_eq e_u21 rfl ?_ ?_
    · exact sj_X11_fitsFrame_32 nn e_v15 hM_h
    · exact sw_X11_fitsFrame_37 nn nn e_v15 rfl rfl hM_h
set_option maxRecDepth 4000 in
theorem sj_X11_fitsHandlers_106 (nn : Nat) {kk_4 : Nat → Int32 → Int32 → Int32 → mx_H → Option (Int32 × mx_H)} {qkk_4 : Int → Int → Int → ms_M → Option Int} (hk_kk_4 : ∀ {l1 : Int32} {y_l1 : Int} (e_l1 : l1.toInt = y_l1) {l2 : Int32} {y_l2 : Int} (e_l2 : l2.toInt = y_l2) {l3 : Int32} {y_l3 : Int} (e_l3 : l3.toInt = y_l3) {h : ms_M} (hM_h : Rg_M h), Sm_ (RP_ h) (kk_4 127 l1 l2 l3 (H_M h)) (qkk_4 y_l1 y_l2 y_l3 h)) {l1 : Int32} {y_l1 : Int} (e_l1 : l1.toInt = y_l1) {l3 : Int32} {y_l3 : Int} (e_l3 : l3.toInt = y_l3) {h : ms_M} (hM_h : Rg_M h) : Sm_ (RP_ h) (j_X11_fitsHandlers_106 nn kk_4 127 l1 l3 (H_M h)) (qj_X11_fitsHandlers_106 nn qkk_4 y_l1 y_l3 h) := by
  unfold j_X11_fitsHandlers_106 qj_X11_fitsHandlers_106
  refine sm_oq_add e_l3 rfl ?_; intro v1 y_v1 e_v1
  exact hk_kk_4 e_l1 rfl e_v1 hM_h
set_option maxRecDepth 4000 in
theorem sw_X11_fitsHandlers_4 (nn : Nat) : ∀ (k : Nat) {l1 : Int32} {y_l1 : Int} (e_l1 : l1.toInt = y_l1) {l2 : Int32} {y_l2 : Int} (e_l2 : l2.toInt = y_l2) {l3 : Int32} {y_l3 : Int} (e_l3 : l3.toInt = y_l3) {h : ms_M} (hM_h : Rg_M h), Sm_ (RP_ h) (w_X11_fitsHandlers_4 nn k 127 l1 l2 l3 (H_M h)) (qw_X11_fitsHandlers_4 nn k y_l1 y_l2 y_l3 h) := by
  intro k
  induction k with
  | zero => intros; exact sm_no
  | succ k ih =>
    intro l1 y_l1 e_l1 l2 y_l2 e_l2 l3 y_l3 e_l3 h hM_h
    unfold w_X11_fitsHandlers_4 qw_X11_fitsHandlers_4
    refine sm_is hM_h rfl ?_
    refine sm_cP (sf_X11_info nn rfl hM_h) ?_; intro u3 y_u3 e_u3
    refine sm_le e_u3 e_l3 ?_ ?_
    · refine sm_bq e_l2 ?_
      exact sm_rP e_l2
    · refine sm_eq e_l2 rfl ?_ ?_
      · refine sm_bq e_l2 ?_
        exact sm_rP e_l2
      · refine sm_is hM_h rfl ?_
        refine sm_cP (sf_X11_handler nn e_l3 rfl hM_h) ?_; intro u7 y_u7 e_u7
        refine sm_lt e_l1 e_u7 ?_ ?_
        · refine sm_oq_add e_l3 rfl ?_; intro v8 y_v8 e_v8
          exact ih e_l1 e_l2 e_v8 hM_h
        · refine sm_is hM_h rfl ?_
          refine sm_cP (sf_X11_handler nn e_l3 rfl hM_h) ?_; intro u10 y_u10 e_u10
          refine sm_le e_u10 e_l1 ?_ ?_
          · refine sm_oq_add e_l3 rfl ?_; intro v11 y_v11 e_v11
            exact ih e_l1 e_l2 e_v11 hM_h
          · refine sm_is hM_h rfl ?_
            refine sm_cP (sf_X11_handler nn e_l3 rfl hM_h) ?_; intro u13 y_u13 e_u13
            refine sm_is hM_h rfl ?_
            refine sm_cP (sf_X11_frameAt nn e_u13 hM_h) ?_; intro u15 y_u15 e_u15
            refine sm_oq_mul e_u15 rfl ?_; intro v16 y_v16 e_v16
            refine sm_lt e_v16 rfl ?_ ?_
            · exact sj_X11_fitsHandlers_106 nn ih e_l1 e_l3 hM_h
            · refine sm_is hM_h rfl ?_
              refine sm_cP (sf_X11_fitsLocals nn e_v16 hM_h) ?_; intro u18 y_u18 e_u18
              refine sm_eq e_u18 rfl ?_ ?_
              · exact sj_X11_fitsHandlers_106 nn ih e_l1 e_l3 hM_h
              · refine sm_gr hM_h (d := 133) rfl ?_
                refine sm_oq_add e_v16 rfl ?_; intro v20 y_v20 e_v20
                refine sm_ai hM_h rfl e_v20 ?_; intro v21 y_v21 e_v21
                refine sm_ne e_v21 rfl ?_ ?_
                · exact sj_X11_fitsHandlers_106 nn ih e_l1 e_l3 hM_h
                · refine sm_is hM_h rfl ?_
                  refine sm_cP (sf_X11_handlerClass nn e_l3 hM_h) ?_; intro u23 y_u23 e_u23
                  refine sm_gr hM_h (d := 133) rfl ?_
                  refine sm_oq_add e_v16 rfl ?_; intro v25 y_v25 e_v25
                  refine sm_ai hM_h rfl e_v25 ?_; intro v26 y_v26 e_v26
                  refine sm_is hM_h rfl ?_
                  refine sm_cP (sf_X11_fits nn e_u23 e_v26 hM_h) ?_; intro u28 y_u28 e_u28
                  refine sm_eq e_u28 rfl ?_ ?_
                  · exact sj_X11_fitsHandlers_106 nn ih e_l1 e_l3 hM_h
                  · refine sm_oq_add e_l3 rfl ?_; intro v29 y_v29 e_v29
                    exact ih e_l1 rfl e_v29 hM_h
set_option maxRecDepth 4000 in
theorem sf_X11_fitsHandlers (nn : Nat) {a1 : Int32} {y_a1 : Int} (e_a1 : a1.toInt = y_a1) {h : ms_M} (hM_h : Rg_M h) : Sm_ (RP_ h) (f_X11_fitsHandlers nn 127 a1 (H_M h)) (qf_X11_fitsHandlers nn y_a1 h) := by
  unfold f_X11_fitsHandlers qf_X11_fitsHandlers
  exact sw_X11_fitsHandlers_4 nn nn e_a1 rfl rfl hM_h
set_option maxRecDepth 4000 in
theorem sj_X11_isMemberRight_131 (nn : Nat) {s0 : Int32} {y_s0 : Int} (e_s0 : s0.toInt = y_s0) {s1 : Int32} {y_s1 : Int} (e_s1 : s1.toInt = y_s1) {h : ms_M} (hM_h : Rg_M h) : Sm_ (RP_ h) (j_X11_isMemberRight_131 nn s0 s1 (H_M h)) (qj_X11_isMemberRight_131 nn y_s0 y_s1 h) := by
  unfold j_X11_isMemberRight_131 qj_X11_isMemberRight_131
  refine sm_ne e_s1 e_s0 ?_ ?_
  · exact sm_rP rfl
  · exact sm_rP rfl
set_option maxRecDepth 4000 in
theorem sj_X11_isMemberRight_115 (nn : Nat) {l1 : Int32} {y_l1 : Int} (e_l1 : l1.toInt = y_l1) {s0 : Int32} {y_s0 : Int} (e_s0 : s0.toInt = y_s0) {h : ms_M} (hM_h : Rg_M h) : Sm_ (RP_ h) (j_X11_isMemberRight_115 nn l1 s0 (H_M h)) (qj_X11_isMemberRight_115 nn y_l1 y_s0 h) := by
  unfold j_X11_isMemberRight_115 qj_X11_isMemberRight_115
  refine sm_ne e_l1 rfl ?_ ?_
  · exact sj_X11_isMemberRight_131 nn rfl e_s0 hM_h
  · exact sj_X11_isMemberRight_131 nn rfl e_s0 hM_h
set_option maxRecDepth 4000 in
theorem sj_X11_isMemberRight_114 (nn : Nat) {l1 : Int32} {y_l1 : Int} (e_l1 : l1.toInt = y_l1) {h : ms_M} (hM_h : Rg_M h) : Sm_ (RP_ h) (j_X11_isMemberRight_114 nn l1 (H_M h)) (qj_X11_isMemberRight_114 nn y_l1 h) := by
  unfold j_X11_isMemberRight_114 qj_X11_isMemberRight_114
  exact sj_X11_isMemberRight_115 nn e_l1 rfl hM_h
set_option maxRecDepth 4000 in
theorem sj_X11_isMemberRight_87 (nn : Nat) {l1 : Int32} {y_l1 : Int} (e_l1 : l1.toInt = y_l1) {l3 : Int32} {y_l3 : Int} (e_l3 : l3.toInt = y_l3) {l4 : Int32} {y_l4 : Int} (e_l4 : l4.toInt = y_l4) {l5 : Option Nat} {y_l5 : Int} (e_l5 : l5 = rf_O y_l5) {s0 : Int32} {y_s0 : Int} (e_s0 : s0.toInt = y_s0) {s1 : Int32} {y_s1 : Int} (e_s1 : s1.toInt = y_s1) {h : ms_M} (hM_h : Rg_M h) : Sm_ (RP_ h) (j_X11_isMemberRight_87 nn l1 l3 l4 l5 s0 s1 (H_M h)) (qj_X11_isMemberRight_87 nn y_l1 y_l3 y_l4 y_l5 y_s0 y_s1 h) := by
  unfold j_X11_isMemberRight_87 qj_X11_isMemberRight_87
  subst e_l5
  refine sm_eq e_s1 e_s0 ?_ ?_
  · refine sm_eq e_l3 rfl ?_ ?_
    · exact sj_X11_isMemberRight_114 nn e_l1 hM_h
    · refine sm_rem e_l4 ⟨rfl, by decide⟩ ?_; intro v3 y_v3 e_v3
      refine sm_nn ?_
      refine sm_isS hM_h ?_; intro hb1
      refine sm_cP (sf_X3_of nn _ hb1 e_v3 rfl hM_h) ?_; intro u6 y_u6 e_u6
      refine sm_eq e_u6 rfl ?_ ?_
      · exact sj_X11_isMemberRight_114 nn e_l1 hM_h
      · exact sj_X11_isMemberRight_115 nn e_l1 rfl hM_h
  · exact sm_rP rfl
set_option maxRecDepth 4000 in
theorem sj_X11_isMemberRight_56 (nn : Nat) {l1 : Int32} {y_l1 : Int} (e_l1 : l1.toInt = y_l1) {l3 : Int32} {y_l3 : Int} (e_l3 : l3.toInt = y_l3) {s0 : Int32} {y_s0 : Int} (e_s0 : s0.toInt = y_s0) {h : ms_M} (hM_h : Rg_M h) : Sm_ (RP_ h) (j_X11_isMemberRight_56 nn 127 l1 l3 s0 (H_M h)) (qj_X11_isMemberRight_56 nn y_l1 y_l3 y_s0 h) := by
  unfold j_X11_isMemberRight_56 qj_X11_isMemberRight_56
  refine sm_gr hM_h (d := 56) rfl ?_
  refine sm_is hM_h rfl ?_
  refine sm_cQ (sf_X7_imageOfMember nn e_s0 hM_h) ?_; intro y_u12
  refine sm_oc ?_ ?_
  · exact sm_rP rfl
  · refine sm_lt e_l1 rfl ?_ ?_
    · exact sj_X11_isMemberRight_87 nn e_l1 e_l3 e_s0 (rf_s _) rfl e_l3 hM_h
    · exact sj_X11_isMemberRight_87 nn e_l1 e_l3 e_s0 (rf_s _) rfl e_l3 hM_h
set_option maxRecDepth 4000 in
theorem sj_X11_isMemberRight_33 (nn : Nat) {l1 : Int32} {y_l1 : Int} (e_l1 : l1.toInt = y_l1) {l2 : Int32} {y_l2 : Int} (e_l2 : l2.toInt = y_l2) {s0 : Int32} {y_s0 : Int} (e_s0 : s0.toInt = y_s0) {h : ms_M} (hM_h : Rg_M h) : Sm_ (RP_ h) (j_X11_isMemberRight_33 nn 127 l1 l2 s0 (H_M h)) (qj_X11_isMemberRight_33 nn y_l1 y_l2 y_s0 h) := by
  unfold j_X11_isMemberRight_33 qj_X11_isMemberRight_33
  refine sm_gm hM_h rfl ?_
  refine sm_isS hM_h ?_; intro hb1
  refine sm_cP (sf_X3_tagOf nn _ hb1 e_l2 hM_h) ?_; intro u18 y_u18 e_u18
  refine sm_ne e_u18 rfl ?_ ?_
  · exact sj_X11_isMemberRight_56 nn e_l1 e_s0 rfl hM_h
  · refine sm_gr hM_h (d := 129) rfl ?_
    refine sm_ai hM_h rfl e_l2 ?_; intro v20 y_v20 e_v20
    exact sj_X11_isMemberRight_56 nn e_l1 e_s0 e_v20 hM_h
set_option maxRecDepth 4000 in
theorem sf_X11_isMemberRight (nn : Nat) {a1 : Int32} {y_a1 : Int} (e_a1 : a1.toInt = y_a1) {a2 : Int32} {y_a2 : Int} (e_a2 : a2.toInt = y_a2) {h : ms_M} (hM_h : Rg_M h) : Sm_ (RP_ h) (f_X11_isMemberRight nn 127 a1 a2 (H_M h)) (qf_X11_isMemberRight nn y_a1 y_a2 h) := by
  unfold f_X11_isMemberRight qf_X11_isMemberRight
  refine sm_gm hM_h rfl ?_
  refine sm_gm hM_h rfl ?_
  refine sm_gm hM_h rfl ?_
  refine sm_isS hM_h ?_; intro hb1
  refine sm_cP (sf_X3_partOf nn _ hb1 e_a2 rfl hM_h) ?_; intro u26 y_u26 e_u26
  refine sm_isK hM_h hb1 ?_
  refine sm_cP (sf_X3_textAt nn _ hb1 e_u26 hM_h) ?_; intro u28 y_u28 e_u28
  refine sm_isK hM_h hb1 ?_
  refine sm_cP (sf_X3_byteAt nn _ hb1 e_u28 hM_h) ?_; intro u30 y_u30 e_u30
  refine sm_ne e_u30 rfl ?_ ?_
  · exact sj_X11_isMemberRight_33 nn e_a1 e_a2 rfl hM_h
  · exact sj_X11_isMemberRight_33 nn e_a1 e_a2 rfl hM_h
set_option maxRecDepth 4000 in
theorem sj_X11_isConstantRight_152 (nn : Nat) {l1 : Int32} {y_l1 : Int} (e_l1 : l1.toInt = y_l1) {l2 : Int32} {y_l2 : Int} (e_l2 : l2.toInt = y_l2) {h : ms_M} (hM_h : Rg_M h) : Sm_ (RP_ h) (j_X11_isConstantRight_152 nn 127 l1 l2 (H_M h)) (qj_X11_isConstantRight_152 nn y_l1 y_l2 h) := by
  unfold j_X11_isConstantRight_152 qj_X11_isConstantRight_152
  refine sm_is hM_h rfl ?_
  refine sm_cP (sf_X11_isMemberRight nn e_l1 e_l2 hM_h) ?_; intro u2 y_u2 e_u2
  refine sm_bq e_u2 ?_
  exact sm_rP e_u2
set_option maxRecDepth 4000 in
theorem sj_X11_isConstantRight_110 (nn : Nat) {l2 : Int32} {y_l2 : Int} (e_l2 : l2.toInt = y_l2) {h : ms_M} (hM_h : Rg_M h) : Sm_ (RP_ h) (j_X11_isConstantRight_110 nn 127 l2 (H_M h)) (qj_X11_isConstantRight_110 nn y_l2 h) := by
  unfold j_X11_isConstantRight_110 qj_X11_isConstantRight_110
  refine sm_gm hM_h rfl ?_
  refine sm_isS hM_h ?_; intro hb1
  refine sm_cP (sf_X3_tagOf nn _ hb1 e_l2 hM_h) ?_; intro u6 y_u6 e_u6
  refine sm_ne e_u6 rfl ?_ ?_
  · exact sm_rP rfl
  · refine sm_gr hM_h (d := 128) rfl ?_
    refine sm_ai hM_h rfl e_l2 ?_; intro v8 y_v8 e_v8
    refine sm_cP (sf_X4_isClass nn e_v8 hM_h) ?_; intro u9 y_u9 e_u9
    refine sm_eq e_u9 rfl ?_ ?_
    · exact sm_rP rfl
    · exact sm_rP rfl
set_option maxRecDepth 4000 in
theorem sf_X11_isConstantRight (nn : Nat) {a1 : Int32} {y_a1 : Int} (e_a1 : a1.toInt = y_a1) {a2 : Int32} {y_a2 : Int} (e_a2 : a2.toInt = y_a2) {h : ms_M} (hM_h : Rg_M h) : Sm_ (RP_ h) (f_X11_isConstantRight nn 127 a1 a2 (H_M h)) (qf_X11_isConstantRight nn y_a1 y_a2 h) := by
  unfold f_X11_isConstantRight qf_X11_isConstantRight
  refine sm_eq e_a1 rfl ?_ ?_
  · refine sm_gm hM_h rfl ?_
    refine sm_isS hM_h ?_; intro hb1
    refine sm_cP (sf_X3_tagOf nn _ hb1 e_a2 hM_h) ?_; intro u14 y_u14 e_u14
    refine sm_ne e_u14 rfl ?_ ?_
    · exact sm_rP rfl
    · exact sm_rP rfl
  · refine sm_eq e_a1 rfl ?_ ?_
    · exact sj_X11_isConstantRight_152 nn e_a1 e_a2 hM_h
    · refine sm_eq e_a1 rfl ?_ ?_
      · exact sj_X11_isConstantRight_152 nn e_a1 e_a2 hM_h
      · refine sm_eq e_a1 rfl ?_ ?_
        · exact sj_X11_isConstantRight_152 nn e_a1 e_a2 hM_h
        · refine sm_eq e_a1 rfl ?_ ?_
          · exact sj_X11_isConstantRight_152 nn e_a1 e_a2 hM_h
          · refine sm_eq e_a1 rfl ?_ ?_
            · exact sj_X11_isConstantRight_110 nn e_a2 hM_h
            · refine sm_eq e_a1 rfl ?_ ?_
              · refine sm_ne e_a2 rfl ?_ ?_
                · exact sm_rP rfl
                · exact sm_rP rfl
              · refine sm_eq e_a1 rfl ?_ ?_
                · exact sj_X11_isConstantRight_110 nn e_a2 hM_h
                · refine sm_eq e_a1 rfl ?_ ?_
                  · exact sj_X11_isConstantRight_110 nn e_a2 hM_h
                  · refine sm_eq e_a1 rfl ?_ ?_
                    · exact sj_X11_isConstantRight_110 nn e_a2 hM_h
                    · exact sm_rP rfl
set_option maxRecDepth 4000 in
theorem sf_X11_takeFrame (nn : Nat) {a1 : Int32} {y_a1 : Int} (e_a1 : a1.toInt = y_a1) {h : ms_M} (hM_h : Rg_M h) : Sm_ RV_ (f_X11_takeFrame nn 127 a1 (H_M h)) (qf_X11_takeFrame nn y_a1 h) := by
  unfold f_X11_takeFrame qf_X11_takeFrame
  refine sm_oq_mul e_a1 rfl ?_; intro v1 y_v1 e_v1
  refine sm_gr hM_h (d := 134) rfl ?_
  refine sm_cV (sf_J7_fill_53178 nn _ rfl hM_h) ?_; intro u3 hM_u3
  refine sm_gr hM_u3 (d := 133) rfl ?_
  refine sm_oq_add e_v1 rfl ?_; intro v5 y_v5 e_v5
  refine sm_gr hM_u3 (d := 134) rfl ?_
  refine sm_gr hM_u3 (d := 133) rfl ?_
  refine sm_oq_add e_v1 rfl ?_; intro v8 y_v8 e_v8
  refine sm_ai hM_u3 rfl e_v8 ?_; intro v9 y_v9 e_v9
  refine sm_cp hM_u3 e_v5 rfl e_v9 ?_; intro h10 hM_h10
  refine sm_gr hM_h10 (d := 133) rfl ?_
  refine sm_oq_add e_v1 rfl ?_; intro v12 y_v12 e_v12
  refine sm_ai hM_h10 rfl e_v12 ?_; intro v13 y_v13 e_v13
  refine sm_pv hM_h10 rfl e_v13 ?_; intro h14 hM_h14
  refine sm_gr hM_h14 (d := 133) rfl ?_
  refine sm_oq_add e_v1 rfl ?_; intro v16 y_v16 e_v16
  refine sm_gr hM_h14 (d := 135) rfl ?_
  refine sm_gi hM_h14 rfl ?_; intro v18 e_v18
  refine sm_cp hM_h14 e_v16 rfl e_v18 ?_; intro h19 hM_h19
  exact sm_rV hM_h19
set_option maxRecDepth 4000 in
theorem sj_X11_proveState_139 (nn : Nat) {h : ms_M} (hM_h : Rg_M h) : Sm_ RI_ (j_X11_proveState_139 nn 127 (H_M h)) (qj_X11_proveState_139 nn h) := by
  unfold j_X11_proveState_139 qj_X11_proveState_139
  refine sm_gi hM_h rfl ?_; intro v1 e_v1
  refine sm_eq e_v1 rfl ?_ ?_
  · exact sm_rI rfl hM_h
  · exact sm_rI rfl hM_h
set_option maxRecDepth 4000 in
theorem sj_X11_proveState_136 (nn : Nat) {s0 : Int32} {y_s0 : Int} (e_s0 : s0.toInt = y_s0) {h : ms_M} (hM_h : Rg_M h) : Sm_ RI_ (j_X11_proveState_136 nn 127 s0 127 (H_M h)) (qj_X11_proveState_136 nn y_s0 h) := by
  unfold j_X11_proveState_136 qj_X11_proveState_136
  refine sm_bq e_s0 ?_
  refine sm_pv hM_h rfl e_s0 ?_; intro h4 hM_h4
  exact sj_X11_proveState_139 nn hM_h4
set_option maxRecDepth 4000 in
theorem sj_X11_proveState_135 (nn : Nat) {h : ms_M} (hM_h : Rg_M h) : Sm_ RI_ (j_X11_proveState_135 nn 127 127 (H_M h)) (qj_X11_proveState_135 nn h) := by
  unfold j_X11_proveState_135 qj_X11_proveState_135
  exact sj_X11_proveState_136 nn rfl hM_h
set_option maxRecDepth 4000 in
theorem sj_X11_proveState_46 (nn : Nat) {l1 : Int32} {y_l1 : Int} (e_l1 : l1.toInt = y_l1) {l2 : Int32} {y_l2 : Int} (e_l2 : l2.toInt = y_l2) {h : ms_M} (hM_h : Rg_M h) : Sm_ RI_ (j_X11_proveState_46 nn 127 l1 l2 (H_M h)) (qj_X11_proveState_46 nn y_l1 y_l2 h) := by
  unfold j_X11_proveState_46 qj_X11_proveState_46
  refine sm_is hM_h rfl ?_
  refine sm_cP (sf_X11_fitsHandlers nn e_l1 hM_h) ?_; intro u6 y_u6 e_u6
  refine sm_ne e_u6 rfl ?_ ?_
  · refine sm_oq_add e_l1 rfl ?_; intro v7 y_v7 e_v7
    refine sm_is hM_h rfl ?_
    refine sm_cP (sf_X11_codeAt nn e_v7 hM_h) ?_; intro u9 y_u9 e_u9
    refine sm_is hM_h rfl ?_
    refine sm_cP (sf_X11_isConstantRight nn e_l2 e_u9 hM_h) ?_; intro u11 y_u11 e_u11
    refine sm_ne e_u11 rfl ?_ ?_
    · refine sm_pv hM_h rfl rfl ?_; intro h12 hM_h12
      refine sm_is hM_h12 rfl ?_
      refine sm_cV (sf_X11_applySimple nn e_l2 e_u9 hM_h12) ?_; intro u14 hM_u14
      refine sm_cP (sf_X11_isJump nn e_l2 hM_u14) ?_; intro u15 y_u15 e_u15
      refine sm_eq e_u15 rfl ?_ ?_
      · exact sj_X11_proveState_139 nn hM_u14
      · refine sm_gi hM_u14 rfl ?_; intro v16 e_v16
        refine sm_eq e_v16 rfl ?_ ?_
        · exact sj_X11_proveState_139 nn hM_u14
        · refine sm_is hM_u14 rfl ?_
          refine sm_cP (sf_X11_aimOf nn e_l1 hM_u14) ?_; intro u18 y_u18 e_u18
          refine sm_is hM_u14 rfl ?_
          refine sm_cP (sf_X11_frameAt nn e_u18 hM_u14) ?_; intro u20 y_u20 e_u20
          refine sm_lt e_u20 rfl ?_ ?_
          · exact sj_X11_proveState_135 nn hM_u14
          · refine sm_is hM_u14 rfl ?_
            refine sm_cP (sf_X11_fitsFrame nn e_u20 hM_u14) ?_; intro u22 y_u22 e_u22
            refine sm_eq e_u22 rfl ?_ ?_
            · exact sj_X11_proveState_135 nn hM_u14
            · exact sj_X11_proveState_136 nn rfl hM_u14
    · exact sm_rI rfl hM_h
  · exact sm_rI rfl hM_h
set_option maxRecDepth 4000 in
theorem sj_X11_proveState_40 (nn : Nat) {l1 : Int32} {y_l1 : Int} (e_l1 : l1.toInt = y_l1) {l2 : Int32} {y_l2 : Int} (e_l2 : l2.toInt = y_l2) {l4 : Int32} {y_l4 : Int} (e_l4 : l4.toInt = y_l4) {h : ms_M} (hM_h : Rg_M h) : Sm_ RI_ (j_X11_proveState_40 nn 127 l1 l2 l4 (H_M h)) (qj_X11_proveState_40 nn y_l1 y_l2 y_l4 h) := by
  unfold j_X11_proveState_40 qj_X11_proveState_40
  refine sm_is hM_h rfl ?_
  refine sm_cV (sf_X11_takeFrame nn e_l4 hM_h) ?_; intro u30 hM_u30
  exact sj_X11_proveState_46 nn e_l1 e_l2 hM_u30
set_option maxRecDepth 4000 in
theorem sj_X11_proveState_19 (nn : Nat) {l1 : Int32} {y_l1 : Int} (e_l1 : l1.toInt = y_l1) {l2 : Int32} {y_l2 : Int} (e_l2 : l2.toInt = y_l2) {l3 : Int32} {y_l3 : Int} (e_l3 : l3.toInt = y_l3) {l4 : Int32} {y_l4 : Int} (e_l4 : l4.toInt = y_l4) {h : ms_M} (hM_h : Rg_M h) : Sm_ RI_ (j_X11_proveState_19 nn 127 l1 l2 l3 l4 (H_M h)) (qj_X11_proveState_19 nn y_l1 y_l2 y_l3 y_l4 h) := by
  unfold j_X11_proveState_19 qj_X11_proveState_19
  refine sm_lt e_l4 rfl ?_ ?_
  · exact sj_X11_proveState_46 nn e_l1 e_l2 hM_h
  · refine sm_eq e_l3 rfl ?_ ?_
    · exact sj_X11_proveState_40 nn e_l1 e_l2 e_l4 hM_h
    · refine sm_is hM_h rfl ?_
      refine sm_cP (sf_X11_fitsFrame nn e_l4 hM_h) ?_; intro u32 y_u32 e_u32
      refine sm_ne e_u32 rfl ?_ ?_
      · exact sj_X11_proveState_40 nn e_l1 e_l2 e_l4 hM_h
      · exact sm_rI rfl hM_h
set_option maxRecDepth 4000 in
theorem sf_X11_proveState (nn : Nat) {a1 : Int32} {y_a1 : Int} (e_a1 : a1.toInt = y_a1) {a2 : Int32} {y_a2 : Int} (e_a2 : a2.toInt = y_a2) {a3 : Int32} {y_a3 : Int} (e_a3 : a3.toInt = y_a3) {h : ms_M} (hM_h : Rg_M h) : Sm_ RI_ (f_X11_proveState nn 127 a1 a2 a3 (H_M h)) (qf_X11_proveState nn y_a1 y_a2 y_a3 h) := by
  unfold f_X11_proveState qf_X11_proveState
  refine sm_is hM_h rfl ?_
  refine sm_cP (sf_X11_frameAt nn e_a1 hM_h) ?_; intro u37 y_u37 e_u37
  refine sm_ne e_a3 rfl ?_ ?_
  · exact sj_X11_proveState_19 nn e_a1 e_a2 e_a3 e_u37 hM_h
  · refine sm_le rfl e_u37 ?_ ?_
    · exact sj_X11_proveState_19 nn e_a1 e_a2 e_a3 e_u37 hM_h
    · exact sm_rI rfl hM_h
set_option maxRecDepth 4000 in
theorem sj_X11_proveStates_52 (nn : Nat) {kk_4 : Nat → Int32 → Int32 → mx_H → Option (Int32 × mx_H)} {qkk_4 : Int → Int → ms_M → Option (Int × ms_M)} (hk_kk_4 : ∀ {l1 : Int32} {y_l1 : Int} (e_l1 : l1.toInt = y_l1) {l2 : Int32} {y_l2 : Int} (e_l2 : l2.toInt = y_l2) {h : ms_M} (hM_h : Rg_M h), Sm_ RI_ (kk_4 127 l1 l2 (H_M h)) (qkk_4 y_l1 y_l2 h)) {l2 : Int32} {y_l2 : Int} (e_l2 : l2.toInt = y_l2) {l3 : Int32} {y_l3 : Int} (e_l3 : l3.toInt = y_l3) {s0 : Int32} {y_s0 : Int} (e_s0 : s0.toInt = y_s0) {h : ms_M} (hM_h : Rg_M h) : Sm_ RI_ (j_X11_proveStates_52 nn kk_4 127 l2 l3 s0 (H_M h)) (qj_X11_proveStates_52 nn qkk_4 y_l2 y_l3 y_s0 h) := by
  unfold j_X11_proveStates_52 qj_X11_proveStates_52
  refine sm_cP (sf_X11_widthOf nn e_l3 hM_h) ?_; intro u1 y_u1 e_u1
  refine sm_ite rfl e_u1 e_u1 rfl ?_; intro v2 y_v2 e_v2
  refine sm_oq_add e_l2 e_v2 ?_; intro v3 y_v3 e_v3
  exact hk_kk_4 e_s0 e_v3 hM_h
set_option maxRecDepth 4000 in
theorem sw_X11_proveStates_4 (nn : Nat) : ∀ (k : Nat) {l1 : Int32} {y_l1 : Int} (e_l1 : l1.toInt = y_l1) {l2 : Int32} {y_l2 : Int} (e_l2 : l2.toInt = y_l2) {h : ms_M} (hM_h : Rg_M h), Sm_ RI_ (w_X11_proveStates_4 nn k 127 l1 l2 (H_M h)) (qw_X11_proveStates_4 nn k y_l1 y_l2 h) := by
  intro k
  induction k with
  | zero => intros; exact sm_no
  | succ k ih =>
    intro l1 y_l1 e_l1 l2 y_l2 e_l2 h hM_h
    unfold w_X11_proveStates_4 qw_X11_proveStates_4
    refine sm_gi hM_h rfl ?_; intro v4 e_v4
    refine sm_le e_v4 e_l2 ?_ ?_
    · refine sm_eq e_l1 rfl ?_ ?_
      · exact sm_rI rfl hM_h
      · refine sm_gi hM_h rfl ?_; intro v5 e_v5
        refine sm_is hM_h rfl ?_
        refine sm_cI (sf_X11_at nn rfl e_v5 hM_h) ?_; intro u7 y_u7 M_u7 e_u7 hM_u7
        exact sm_rI e_u7 hM_u7
    · refine sm_is hM_h rfl ?_
      refine sm_cP (sf_X11_codeAt nn e_l2 hM_h) ?_; intro u10 y_u10 e_u10
      refine sm_is hM_h rfl ?_
      refine sm_cI (sf_X11_proveState nn e_l2 e_u10 e_l1 hM_h) ?_; intro u12 y_u12 M_u12 e_u12 hM_u12
      refine sm_eq e_u12 rfl ?_ ?_
      · refine sm_cP (sf_X11_isLast nn e_u10 hM_u12) ?_; intro u13 y_u13 e_u13
        refine sm_ne e_u13 rfl ?_ ?_
        · exact sj_X11_proveStates_52 nn ih e_l2 e_u10 rfl hM_u12
        · exact sj_X11_proveStates_52 nn ih e_l2 e_u10 rfl hM_u12
      · refine sm_is hM_u12 rfl ?_
        refine sm_cI (sf_X11_at nn e_u12 e_l2 hM_u12) ?_; intro u16 y_u16 M_u16 e_u16 hM_u16
        exact sm_rI e_u16 hM_u16
set_option maxRecDepth 4000 in
theorem sf_X11_proveStates (nn : Nat) {h : ms_M} (hM_h : Rg_M h) : Sm_ RI_ (f_X11_proveStates nn 127 (H_M h)) (qf_X11_proveStates nn h) := by
  unfold f_X11_proveStates qf_X11_proveStates
  exact sw_X11_proveStates_4 nn nn rfl rfl hM_h
set_option maxRecDepth 4000 in
theorem sw_X7_fieldOf_31 (nn : Nat) {kk_6 : Nat → Nat → Int32 → Int32 → Int32 → mx_H → Option (Int32 × mx_H)} {qkk_6 : Nat → Int → Int → Int → ms_M → Option Int} (hk_kk_6 : ∀ (l2 : Nat) {l3 : Int32} {y_l3 : Int} (e_l3 : l3.toInt = y_l3) {l4 : Int32} {y_l4 : Int} (e_l4 : l4.toInt = y_l4) {l5 : Int32} {y_l5 : Int} (e_l5 : l5.toInt = y_l5) {h : ms_M} (hM_h : Rg_M h), Sm_ (RP_ h) (kk_6 56 l2 l3 l4 l5 (H_M h)) (qkk_6 l2 y_l3 y_l4 y_l5 h)) : ∀ (k : Nat) (l2 : Nat) {l3 : Int32} {y_l3 : Int} (e_l3 : l3.toInt = y_l3) {l4 : Int32} {y_l4 : Int} (e_l4 : l4.toInt = y_l4) {l5 : Int32} {y_l5 : Int} (e_l5 : l5.toInt = y_l5) {l6 : Option Nat} {y_l6 : Int} (e_l6 : l6 = rf_O y_l6) {l7 : Int32} {y_l7 : Int} (e_l7 : l7.toInt = y_l7) {h : ms_M} (hM_h : Rg_M h), Sm_ (RP_ h) (w_X7_fieldOf_31 nn kk_6 k 56 l2 l3 l4 l5 l6 l7 (H_M h)) (qw_X7_fieldOf_31 nn qkk_6 k l2 y_l3 y_l4 y_l5 y_l6 y_l7 h) := by
  intro k
  induction k with
  | zero => intros; exact sm_no
  | succ k ih =>
    intro l2 l3 y_l3 e_l3 l4 y_l4 e_l4 l5 y_l5 e_l5 l6 y_l6 e_l6 l7 y_l7 e_l7 h hM_h
    unfold w_X7_fieldOf_31 qw_X7_fieldOf_31
    subst e_l6
    refine sm_nn ?_
    refine sm_kO ?_; intro hb1
    refine sm_giI hM_h hb1 rfl ?_; intro v2 e_v2
    refine sm_le e_v2 e_l7 ?_ ?_
    · refine sm_gr hM_h (d := 57) rfl ?_
      refine sm_is hM_h rfl ?_
      refine sm_cP (sf_X4_above nn _ rfl e_l4 hM_h) ?_; intro u5 y_u5 e_u5
      refine sm_oq_add e_l5 rfl ?_; intro v6 y_v6 e_v6
      exact hk_kk_6 _ e_l3 e_u5 e_v6 hM_h
    · refine sm_isK hM_h hb1 ?_
      refine sm_cP (sf_X3_fieldName nn _ hb1 e_l7 hM_h) ?_; intro u8 y_u8 e_u8
      refine sm_isK hM_h hb1 ?_
      refine sm_cP (sf_X3_sameText nn _ hb1 e_u8 _ e_l3 hM_h) ?_; intro u10 y_u10 e_u10
      refine sm_eq e_u10 rfl ?_ ?_
      · refine sm_oq_add e_l7 rfl ?_; intro v11 y_v11 e_v11
        exact ih _ e_l3 e_l4 e_l5 (rf_s _) e_v11 hM_h
      · refine sm_is hM_h rfl ?_
        refine sm_cP (sf_X7_numberOf nn e_l4 e_l7 hM_h) ?_; intro u13 y_u13 e_u13
        exact sm_rP e_u13
set_option maxRecDepth 4000 in
theorem sw_X7_fieldOf_6 (nn : Nat) : ∀ (k : Nat) (l2 : Nat) {l3 : Int32} {y_l3 : Int} (e_l3 : l3.toInt = y_l3) {l4 : Int32} {y_l4 : Int} (e_l4 : l4.toInt = y_l4) {l5 : Int32} {y_l5 : Int} (e_l5 : l5.toInt = y_l5) {h : ms_M} (hM_h : Rg_M h), Sm_ (RP_ h) (w_X7_fieldOf_6 nn k 56 l2 l3 l4 l5 (H_M h)) (qw_X7_fieldOf_6 nn k l2 y_l3 y_l4 y_l5 h) := by
  intro k
  induction k with
  | zero => intros; exact sm_no
  | succ k ih =>
    intro l2 l3 y_l3 e_l3 l4 y_l4 e_l4 l5 y_l5 e_l5 h hM_h
    unfold w_X7_fieldOf_6 qw_X7_fieldOf_6
    refine sm_le rfl e_l5 ?_ ?_
    · exact sm_rP rfl
    · refine sm_is hM_h rfl ?_
      refine sm_cQ (sf_X7_imageOf nn e_l4 hM_h) ?_; intro y_u17
      refine sm_oc ?_ ?_
      · exact sm_rP rfl
      · exact sw_X7_fieldOf_31 nn ih nn _ e_l3 e_l4 e_l5 (rf_s _) rfl hM_h
set_option maxRecDepth 4000 in
theorem sf_X7_fieldOf (nn : Nat) {a1 : Int32} {y_a1 : Int} (e_a1 : a1.toInt = y_a1) (a2 : Nat) {a3 : Int32} {y_a3 : Int} (e_a3 : a3.toInt = y_a3) {h : ms_M} (hM_h : Rg_M h) : Sm_ (RP_ h) (f_X7_fieldOf nn 56 a1 a2 a3 (H_M h)) (qf_X7_fieldOf nn y_a1 a2 y_a3 h) := by
  unfold f_X7_fieldOf qf_X7_fieldOf
  exact sw_X7_fieldOf_6 nn nn _ e_a3 e_a1 rfl hM_h
set_option maxRecDepth 4000 in
theorem sj_X11_takeMember_153 (nn : Nat) {l1 : Int32} {y_l1 : Int} (e_l1 : l1.toInt = y_l1) {l3 : Int32} {y_l3 : Int} (e_l3 : l3.toInt = y_l3) {l5 : Int32} {y_l5 : Int} (e_l5 : l5.toInt = y_l5) {s0 : Int32} {y_s0 : Int} (e_s0 : s0.toInt = y_s0) {s1 : Option Nat} {y_s1 : Int} (e_s1 : s1 = rf_O y_s1) {h : ms_M} (hM_h : Rg_M h) : Sm_ RV_ (j_X11_takeMember_153 nn 127 l1 l3 l5 s0 s1 (H_M h)) (qj_X11_takeMember_153 nn y_l1 y_l3 y_l5 y_s0 y_s1 h) := by
  unfold j_X11_takeMember_153 qj_X11_takeMember_153
  subst e_s1
  refine sm_gm hM_h rfl ?_
  refine sm_nn ?_
  refine sm_isS hM_h ?_; intro hb1
  refine sm_cP (sf_X3_sameText nn _ hb1 e_s0 _ e_l3 hM_h) ?_; intro u4 y_u4 e_u4
  refine sm_eq e_u4 rfl ?_ ?_
  · exact sm_rV hM_h
  · refine sm_gr hM_h (d := 129) rfl ?_
    refine sm_si hM_h rfl e_l1 e_l5 ?_; intro h6 hM_h6
    refine sm_gr hM_h6 (d := 130) rfl ?_
    refine sm_gr hM_h6 (d := 56) rfl ?_
    refine sm_gm hM_h6 rfl ?_
    refine sm_gr hM_h6 (d := 131) rfl ?_
    refine sm_oq_mul e_l1 rfl ?_; intro v11 y_v11 e_v11
    refine sm_is hM_h6 rfl ?_
    refine sm_cI (sf_X7_readKind nn _ e_l3 e_v11 hM_h6) ?_; intro u13 y_u13 M_u13 e_u13 hM_u13
    refine sm_si hM_u13 rfl e_l1 e_u13 ?_; intro h14 hM_h14
    exact sm_rV hM_h14
set_option maxRecDepth 4000 in
theorem sj_X11_takeMember_102 (nn : Nat) {l1 : Int32} {y_l1 : Int} (e_l1 : l1.toInt = y_l1) {l3 : Int32} {y_l3 : Int} (e_l3 : l3.toInt = y_l3) {l4 : Int32} {y_l4 : Int} (e_l4 : l4.toInt = y_l4) {s0 : Int32} {y_s0 : Int} (e_s0 : s0.toInt = y_s0) {h : ms_M} (hM_h : Rg_M h) : Sm_ RV_ (j_X11_takeMember_102 nn 127 l1 l3 l4 s0 (H_M h)) (qj_X11_takeMember_102 nn y_l1 y_l3 y_l4 y_s0 h) := by
  unfold j_X11_takeMember_102 qj_X11_takeMember_102
  refine sm_gr hM_h (d := 56) rfl ?_
  refine sm_is hM_h rfl ?_
  refine sm_cQ (sf_X7_imageOfMember nn e_s0 hM_h) ?_; intro y_u18
  refine sm_oc ?_ ?_
  · exact sm_rV hM_h
  · refine sm_rem e_s0 ⟨rfl, by decide⟩ ?_; intro v21 y_v21 e_v21
    refine sm_eq e_l4 rfl ?_ ?_
    · refine sm_isS hM_h ?_; intro hb1
      refine sm_cP (sf_X3_fieldKind nn _ hb1 e_v21 hM_h) ?_; intro u23 y_u23 e_u23
      exact sj_X11_takeMember_153 nn e_l1 e_l3 e_s0 e_u23 (rf_s _) hM_h
    · refine sm_isS hM_h ?_; intro hb2
      refine sm_cP (sf_X3_of nn _ hb2 e_v21 rfl hM_h) ?_; intro u25 y_u25 e_u25
      exact sj_X11_takeMember_153 nn e_l1 e_l3 e_s0 e_u25 (rf_s _) hM_h
set_option maxRecDepth 4000 in
theorem sj_X11_takeMember_50 (nn : Nat) {l1 : Int32} {y_l1 : Int} (e_l1 : l1.toInt = y_l1) {l2 : Int32} {y_l2 : Int} (e_l2 : l2.toInt = y_l2) {l3 : Int32} {y_l3 : Int} (e_l3 : l3.toInt = y_l3) {s0 : Int32} {y_s0 : Int} (e_s0 : s0.toInt = y_s0) {h : ms_M} (hM_h : Rg_M h) : Sm_ RV_ (j_X11_takeMember_50 nn 127 l1 l2 l3 s0 (H_M h)) (qj_X11_takeMember_50 nn y_l1 y_l2 y_l3 y_s0 h) := by
  unfold j_X11_takeMember_50 qj_X11_takeMember_50
  refine sm_eq e_s0 rfl ?_ ?_
  · refine sm_gr hM_h (d := 56) rfl ?_
    refine sm_gm hM_h rfl ?_
    refine sm_gm hM_h rfl ?_
    refine sm_isS hM_h ?_; intro hb1
    refine sm_cP (sf_X3_partOf nn _ hb1 e_l1 rfl hM_h) ?_; intro u31 y_u31 e_u31
    refine sm_is hM_h rfl ?_
    refine sm_cP (sf_X7_fieldOf nn e_l2 _ e_u31 hM_h) ?_; intro u33 y_u33 e_u33
    exact sj_X11_takeMember_102 nn e_l1 e_l3 e_s0 e_u33 hM_h
  · refine sm_gr hM_h (d := 56) rfl ?_
    refine sm_gm hM_h rfl ?_
    refine sm_gm hM_h rfl ?_
    refine sm_isS hM_h ?_; intro hb2
    refine sm_cP (sf_X3_partOf nn _ hb2 e_l1 rfl hM_h) ?_; intro u38 y_u38 e_u38
    refine sm_is hM_h rfl ?_
    refine sm_cP (sf_X7_methodOf nn e_l2 _ e_u38 hM_h) ?_; intro u40 y_u40 e_u40
    exact sj_X11_takeMember_102 nn e_l1 e_l3 e_s0 e_u40 hM_h
set_option maxRecDepth 4000 in
theorem sf_X11_takeMember (nn : Nat) {a1 : Int32} {y_a1 : Int} (e_a1 : a1.toInt = y_a1) {h : ms_M} (hM_h : Rg_M h) : Sm_ RV_ (f_X11_takeMember nn 127 a1 (H_M h)) (qf_X11_takeMember nn y_a1 h) := by
  unfold f_X11_takeMember qf_X11_takeMember
  refine sm_gr hM_h (d := 128) rfl ?_
  refine sm_gm hM_h rfl ?_
  refine sm_isS hM_h ?_; intro hb1
  refine sm_cP (sf_X3_partOf nn _ hb1 e_a1 rfl hM_h) ?_; intro u45 y_u45 e_u45
  refine sm_ai hM_h rfl e_u45 ?_; intro v46 y_v46 e_v46
  refine sm_gm hM_h rfl ?_
  refine sm_isK hM_h hb1 ?_
  refine sm_cP (sf_X3_partOf nn _ hb1 e_a1 rfl hM_h) ?_; intro u49 y_u49 e_u49
  refine sm_gm hM_h rfl ?_
  refine sm_gm hM_h rfl ?_
  refine sm_isK hM_h hb1 ?_
  refine sm_cP (sf_X3_textAt nn _ hb1 e_u49 hM_h) ?_; intro u53 y_u53 e_u53
  refine sm_isK hM_h hb1 ?_
  refine sm_cP (sf_X3_byteAt nn _ hb1 e_u53 hM_h) ?_; intro u55 y_u55 e_u55
  refine sm_ne e_u55 rfl ?_ ?_
  · exact sj_X11_takeMember_50 nn e_a1 e_v46 e_u49 rfl hM_h
  · exact sj_X11_takeMember_50 nn e_a1 e_v46 e_u49 rfl hM_h
set_option maxRecDepth 4000 in
theorem sf_X7_typeOfClass (nn : Nat) (a1 : Nat) {a2 : Int32} {y_a2 : Int} (e_a2 : a2.toInt = y_a2) {h : ms_M} (hM_h : Rg_M h) : Sm_ (RP_ h) (f_X7_typeOfClass nn 56 a1 a2 (H_M h)) (qf_X7_typeOfClass nn a1 y_a2 h) := by
  unfold f_X7_typeOfClass qf_X7_typeOfClass
  refine sm_isS hM_h ?_; intro hb1
  refine sm_cP (sf_X3_partOf nn _ hb1 e_a2 rfl hM_h) ?_; intro u2 y_u2 e_u2
  refine sm_isK hM_h hb1 ?_
  refine sm_cP (sf_X3_textAt nn _ hb1 e_u2 hM_h) ?_; intro u4 y_u4 e_u4
  refine sm_isK hM_h hb1 ?_
  refine sm_cP (sf_X3_textEnd nn _ hb1 e_u2 hM_h) ?_; intro u6 y_u6 e_u6
  refine sm_isK hM_h hb1 ?_
  refine sm_cP (sf_X3_byteAt nn _ hb1 e_u4 hM_h) ?_; intro u8 y_u8 e_u8
  refine sm_ne e_u8 rfl ?_ ?_
  · refine sm_is hM_h rfl ?_
    refine sm_cP (sf_X7_classOf nn _ e_u4 e_u6 hM_h) ?_; intro u10 y_u10 e_u10
    exact sm_rP e_u10
  · refine sm_is hM_h rfl ?_
    refine sm_cP (sf_X7_typeOfKind nn _ e_u4 e_u6 hM_h) ?_; intro u12 y_u12 e_u12
    exact sm_rP e_u12
set_option maxRecDepth 4000 in
theorem sw_X11_takeConstants_55 (nn : Nat) : ∀ (k : Nat) {l1 : Int32} {y_l1 : Int} (e_l1 : l1.toInt = y_l1) {h : ms_M} (hM_h : Rg_M h), Sm_ RV_ (w_X11_takeConstants_55 nn k 127 l1 (H_M h)) (qw_X11_takeConstants_55 nn k y_l1 h) := by
  intro k
  induction k with
  | zero => intros; exact sm_no
  | succ k ih =>
    intro l1 y_l1 e_l1 h hM_h
    unfold w_X11_takeConstants_55 qw_X11_takeConstants_55
    refine sm_gm hM_h rfl ?_
    refine sm_kO ?_; intro hb1
    refine sm_giI hM_h hb1 rfl ?_; intro v2 e_v2
    refine sm_lt e_v2 e_l1 ?_ ?_
    · exact sm_rV hM_h
    · refine sm_gr hM_h (d := 129) rfl ?_
      refine sm_si hM_h rfl e_l1 rfl ?_; intro h4 hM_h4
      refine sm_gm hM_h4 rfl ?_
      refine sm_isS hM_h4 ?_; intro hb2
      refine sm_cP (sf_X3_tagOf nn _ hb2 e_l1 hM_h4) ?_; intro u7 y_u7 e_u7
      refine sm_ne e_u7 rfl ?_ ?_
      · refine sm_oq_add e_l1 rfl ?_; intro v8 y_v8 e_v8
        exact ih e_v8 hM_h4
      · refine sm_is hM_h4 rfl ?_
        refine sm_cV (sf_X11_takeMember nn e_l1 hM_h4) ?_; intro u10 hM_u10
        refine sm_oq_add e_l1 rfl ?_; intro v11 y_v11 e_v11
        exact ih e_v11 hM_u10
set_option maxRecDepth 4000 in
theorem sw_X11_takeConstants_2 (nn : Nat) : ∀ (k : Nat) {l1 : Int32} {y_l1 : Int} (e_l1 : l1.toInt = y_l1) {h : ms_M} (hM_h : Rg_M h), Sm_ RV_ (w_X11_takeConstants_2 nn k 127 l1 (H_M h)) (qw_X11_takeConstants_2 nn k y_l1 h) := by
  intro k
  induction k with
  | zero => intros; exact sm_no
  | succ k ih =>
    intro l1 y_l1 e_l1 h hM_h
    unfold w_X11_takeConstants_2 qw_X11_takeConstants_2
    refine sm_gm hM_h rfl ?_
    refine sm_kO ?_; intro hb1
    refine sm_giI hM_h hb1 rfl ?_; intro v15 e_v15
    refine sm_lt e_v15 e_l1 ?_ ?_
    · exact sw_X11_takeConstants_55 nn nn rfl hM_h
    · refine sm_gr hM_h (d := 128) rfl ?_
      refine sm_gm hM_h rfl ?_
      refine sm_isK hM_h hb1 ?_
      refine sm_cP (sf_X3_tagOf nn _ hb1 e_l1 hM_h) ?_; intro u19 y_u19 e_u19
      refine sm_ne e_u19 rfl ?_ ?_
      · refine sm_si hM_h rfl e_l1 rfl ?_; intro h20 hM_h20
        refine sm_oq_add e_l1 rfl ?_; intro v21 y_v21 e_v21
        exact ih e_v21 hM_h20
      · refine sm_gr hM_h (d := 56) rfl ?_
        refine sm_gm hM_h rfl ?_
        refine sm_is hM_h rfl ?_
        refine sm_cP (sf_X7_typeOfClass nn _ e_l1 hM_h) ?_; intro u25 y_u25 e_u25
        refine sm_si hM_h rfl e_l1 e_u25 ?_; intro h26 hM_h26
        refine sm_oq_add e_l1 rfl ?_; intro v27 y_v27 e_v27
        exact ih e_v27 hM_h26
set_option maxRecDepth 4000 in
theorem sf_X11_takeConstants (nn : Nat) {h : ms_M} (hM_h : Rg_M h) : Sm_ RV_ (f_X11_takeConstants nn 127 (H_M h)) (qf_X11_takeConstants nn h) := by
  unfold f_X11_takeConstants qf_X11_takeConstants
  exact sw_X11_takeConstants_2 nn nn rfl hM_h
set_option maxRecDepth 4000 in
theorem sf_X11_typeOfTag (nn : Nat) {a1 : Int32} {y_a1 : Int} (e_a1 : a1.toInt = y_a1) {a2 : Int32} {y_a2 : Int} (e_a2 : a2.toInt = y_a2) {h : ms_M} (hM_h : Rg_M h) : Sm_ (RP_ h) (f_X11_typeOfTag nn 127 a1 a2 (H_M h)) (qf_X11_typeOfTag nn y_a1 y_a2 h) := by
  unfold f_X11_typeOfTag qf_X11_typeOfTag
  refine sm_eq e_a1 rfl ?_ ?_
  · exact sm_rP rfl
  · refine sm_eq e_a1 rfl ?_ ?_
    · exact sm_rP rfl
    · refine sm_eq e_a1 rfl ?_ ?_
      · exact sm_rP rfl
      · refine sm_gr hM_h (d := 128) rfl ?_
        refine sm_ai hM_h rfl e_a2 ?_; intro v2 y_v2 e_v2
        exact sm_rP e_v2
set_option maxRecDepth 4000 in
theorem sj_X11_takeTypes_80 (nn : Nat) {kk_17 : Nat → Int32 → Int32 → Int32 → Int32 → mx_H → Option (Int32 × mx_H)} {qkk_17 : Int → Int → Int → Int → ms_M → Option (Int × ms_M)} (hk_kk_17 : ∀ {l2 : Int32} {y_l2 : Int} (e_l2 : l2.toInt = y_l2) {l3 : Int32} {y_l3 : Int} (e_l3 : l3.toInt = y_l3) {l4 : Int32} {y_l4 : Int} (e_l4 : l4.toInt = y_l4) {l5 : Int32} {y_l5 : Int} (e_l5 : l5.toInt = y_l5) {h : ms_M} (hM_h : Rg_M h), Sm_ RI_ (kk_17 127 l2 l3 l4 l5 (H_M h)) (qkk_17 y_l2 y_l3 y_l4 y_l5 h)) {l2 : Int32} {y_l2 : Int} (e_l2 : l2.toInt = y_l2) {l3 : Int32} {y_l3 : Int} (e_l3 : l3.toInt = y_l3) {l5 : Int32} {y_l5 : Int} (e_l5 : l5.toInt = y_l5) {s0 : Int32} {y_s0 : Int} (e_s0 : s0.toInt = y_s0) {s1 : Int32} {y_s1 : Int} (e_s1 : s1.toInt = y_s1) {h : ms_M} (hM_h : Rg_M h) : Sm_ RI_ (j_X11_takeTypes_80 nn kk_17 127 l2 l3 l5 s0 s1 (H_M h)) (qj_X11_takeTypes_80 nn qkk_17 y_l2 y_l3 y_l5 y_s0 y_s1 h) := by
  unfold j_X11_takeTypes_80 qj_X11_takeTypes_80
  refine sm_oq_add e_s1 e_s0 ?_; intro v1 y_v1 e_v1
  refine sm_oq_add e_l5 rfl ?_; intro v2 y_v2 e_v2
  exact hk_kk_17 e_l2 e_l3 e_v1 e_v2 hM_h
set_option maxRecDepth 4000 in
theorem sj_X11_takeTypes_67 (nn : Nat) {kk_17 : Nat → Int32 → Int32 → Int32 → Int32 → mx_H → Option (Int32 × mx_H)} {qkk_17 : Int → Int → Int → Int → ms_M → Option (Int × ms_M)} (hk_kk_17 : ∀ {l2 : Int32} {y_l2 : Int} (e_l2 : l2.toInt = y_l2) {l3 : Int32} {y_l3 : Int} (e_l3 : l3.toInt = y_l3) {l4 : Int32} {y_l4 : Int} (e_l4 : l4.toInt = y_l4) {l5 : Int32} {y_l5 : Int} (e_l5 : l5.toInt = y_l5) {h : ms_M} (hM_h : Rg_M h), Sm_ RI_ (kk_17 127 l2 l3 l4 l5 (H_M h)) (qkk_17 y_l2 y_l3 y_l4 y_l5 h)) {l2 : Int32} {y_l2 : Int} (e_l2 : l2.toInt = y_l2) {l3 : Int32} {y_l3 : Int} (e_l3 : l3.toInt = y_l3) {l4 : Int32} {y_l4 : Int} (e_l4 : l4.toInt = y_l4) {l5 : Int32} {y_l5 : Int} (e_l5 : l5.toInt = y_l5) {l6 : Int32} {y_l6 : Int} (e_l6 : l6.toInt = y_l6) {h : ms_M} (hM_h : Rg_M h) : Sm_ RI_ (j_X11_takeTypes_67 nn kk_17 127 l2 l3 l4 l5 l6 (H_M h)) (qj_X11_takeTypes_67 nn qkk_17 y_l2 y_l3 y_l4 y_l5 y_l6 h) := by
  unfold j_X11_takeTypes_67 qj_X11_takeTypes_67
  refine sm_ne e_l6 rfl ?_ ?_
  · exact sj_X11_takeTypes_80 nn hk_kk_17 e_l2 e_l3 e_l5 rfl e_l4 hM_h
  · exact sj_X11_takeTypes_80 nn hk_kk_17 e_l2 e_l3 e_l5 rfl e_l4 hM_h
set_option maxRecDepth 4000 in
theorem sw_X11_takeTypes_17 (nn : Nat) : ∀ (k : Nat) {l2 : Int32} {y_l2 : Int} (e_l2 : l2.toInt = y_l2) {l3 : Int32} {y_l3 : Int} (e_l3 : l3.toInt = y_l3) {l4 : Int32} {y_l4 : Int} (e_l4 : l4.toInt = y_l4) {l5 : Int32} {y_l5 : Int} (e_l5 : l5.toInt = y_l5) {h : ms_M} (hM_h : Rg_M h), Sm_ RI_ (w_X11_takeTypes_17 nn k 127 l2 l3 l4 l5 (H_M h)) (qw_X11_takeTypes_17 nn k y_l2 y_l3 y_l4 y_l5 h) := by
  intro k
  induction k with
  | zero => intros; exact sm_no
  | succ k ih =>
    intro l2 y_l2 e_l2 l3 y_l3 e_l3 l4 y_l4 e_l4 l5 y_l5 e_l5 h hM_h
    unfold w_X11_takeTypes_17 qw_X11_takeTypes_17
    refine sm_le e_l3 e_l5 ?_ ?_
    · exact sm_rI e_l4 hM_h
    · refine sm_gm hM_h rfl ?_
      refine sm_isS hM_h ?_; intro hb1
      refine sm_cP (sf_X3_byteAt nn _ hb1 e_l4 hM_h) ?_; intro u6 y_u6 e_u6
      refine sm_le rfl e_l5 ?_ ?_
      · exact sj_X11_takeTypes_67 nn ih e_l2 e_l3 e_l4 e_l5 e_u6 hM_h
      · refine sm_gr hM_h (d := 133) rfl ?_
        refine sm_oq_add e_l2 e_l5 ?_; intro v8 y_v8 e_v8
        refine sm_gm hM_h rfl ?_
        refine sm_oq_add e_l4 rfl ?_; intro v10 y_v10 e_v10
        refine sm_isK hM_h hb1 ?_
        refine sm_cP (sf_X3_byteAt nn _ hb1 e_v10 hM_h) ?_; intro u12 y_u12 e_u12
        refine sm_is hM_h rfl ?_
        refine sm_cP (sf_X11_typeOfTag nn e_u6 e_u12 hM_h) ?_; intro u14 y_u14 e_u14
        refine sm_si hM_h rfl e_v8 e_u14 ?_; intro h15 hM_h15
        exact sj_X11_takeTypes_67 nn ih e_l2 e_l3 e_l4 e_l5 e_u6 hM_h15
set_option maxRecDepth 4000 in
theorem sf_X11_takeTypes (nn : Nat) {a1 : Int32} {y_a1 : Int} (e_a1 : a1.toInt = y_a1) {a2 : Int32} {y_a2 : Int} (e_a2 : a2.toInt = y_a2) {h : ms_M} (hM_h : Rg_M h) : Sm_ RI_ (f_X11_takeTypes nn 127 a1 a2 (H_M h)) (qf_X11_takeTypes nn y_a1 y_a2 h) := by
  unfold f_X11_takeTypes qf_X11_takeTypes
  refine sm_gm hM_h rfl ?_
  refine sm_isS hM_h ?_; intro hb1
  refine sm_cP (sf_X3_byteAt nn _ hb1 e_a1 hM_h) ?_; intro u20 y_u20 e_u20
  refine sm_oq_add e_a1 rfl ?_; intro v21 y_v21 e_v21
  exact sw_X11_takeTypes_17 nn nn e_a2 e_u20 e_v21 rfl hM_h
set_option maxRecDepth 4000 in
theorem sw_X11_takeFrames_9 (nn : Nat) : ∀ (k : Nat) {l1 : Int32} {y_l1 : Int} (e_l1 : l1.toInt = y_l1) {l2 : Int32} {y_l2 : Int} (e_l2 : l2.toInt = y_l2) {l3 : Int32} {y_l3 : Int} (e_l3 : l3.toInt = y_l3) {h : ms_M} (hM_h : Rg_M h), Sm_ RV_ (w_X11_takeFrames_9 nn k 127 l1 l2 l3 (H_M h)) (qw_X11_takeFrames_9 nn k y_l1 y_l2 y_l3 h) := by
  intro k
  induction k with
  | zero => intros; exact sm_no
  | succ k ih =>
    intro l1 y_l1 e_l1 l2 y_l2 e_l2 l3 y_l3 e_l3 h hM_h
    unfold w_X11_takeFrames_9 qw_X11_takeFrames_9
    refine sm_is hM_h rfl ?_
    refine sm_cP (sf_X11_info nn rfl hM_h) ?_; intro u2 y_u2 e_u2
    refine sm_le e_u2 e_l3 ?_ ?_
    · exact sm_rV hM_h
    · refine sm_eq e_l1 rfl ?_ ?_
      · exact sm_rV hM_h
      · refine sm_oq_mul e_l3 rfl ?_; intro v3 y_v3 e_v3
        refine sm_gm hM_h rfl ?_
        refine sm_isS hM_h ?_; intro hb1
        refine sm_cP (sf_X3_pairAt nn _ hb1 e_l2 hM_h) ?_; intro u6 y_u6 e_u6
        refine sm_gr hM_h (d := 133) rfl ?_
        refine sm_si hM_h rfl e_v3 e_u6 ?_; intro h8 hM_h8
        refine sm_gr hM_h8 (d := 133) rfl ?_
        refine sm_oq_add e_v3 rfl ?_; intro v10 y_v10 e_v10
        refine sm_gm hM_h8 rfl ?_
        refine sm_oq_add e_l2 rfl ?_; intro v12 y_v12 e_v12
        refine sm_isS hM_h8 ?_; intro hb2
        refine sm_cP (sf_X3_byteAt nn _ hb2 e_v12 hM_h8) ?_; intro u14 y_u14 e_u14
        refine sm_si hM_h8 rfl e_v10 e_u14 ?_; intro h15 hM_h15
        refine sm_oq_add e_l2 rfl ?_; intro v16 y_v16 e_v16
        refine sm_oq_add e_v3 rfl ?_; intro v17 y_v17 e_v17
        refine sm_is hM_h15 rfl ?_
        refine sm_cI (sf_X11_takeTypes nn e_v16 e_v17 hM_h15) ?_; intro u19 y_u19 M_u19 e_u19 hM_u19
        refine sm_gr hM_u19 (d := 133) rfl ?_
        refine sm_oq_add e_v3 rfl ?_; intro v21 y_v21 e_v21
        refine sm_gm hM_u19 rfl ?_
        refine sm_isS hM_u19 ?_; intro hb3
        refine sm_cP (sf_X3_byteAt nn _ hb3 e_u19 hM_u19) ?_; intro u24 y_u24 e_u24
        refine sm_si hM_u19 rfl e_v21 e_u24 ?_; intro h25 hM_h25
        refine sm_oq_add e_v3 rfl ?_; intro v26 y_v26 e_v26
        refine sm_is hM_h25 rfl ?_
        refine sm_cI (sf_X11_takeTypes nn e_u19 e_v26 hM_h25) ?_; intro u28 y_u28 M_u28 e_u28 hM_u28
        refine sm_is hM_u28 rfl ?_
        refine sm_cP (sf_X11_begins nn e_u6 hM_u28) ?_; intro u30 y_u30 e_u30
        refine sm_eq e_u30 rfl ?_ ?_
        · refine sm_oq_add e_l3 rfl ?_; intro v31 y_v31 e_v31
          exact ih e_l1 e_u28 e_v31 hM_u28
        · refine sm_gr hM_u28 (d := 132) rfl ?_
          refine sm_ai hM_u28 rfl e_u6 ?_; intro v33 y_v33 e_v33
          refine sm_ne e_v33 rfl ?_ ?_
          · refine sm_oq_add e_l3 rfl ?_; intro v34 y_v34 e_v34
            exact ih e_l1 e_u28 e_v34 hM_u28
          · refine sm_gr hM_u28 (d := 132) rfl ?_
            refine sm_si hM_u28 rfl e_u6 e_l3 ?_; intro h36 hM_h36
            refine sm_oq_add e_l3 rfl ?_; intro v37 y_v37 e_v37
            exact ih e_l1 e_u28 e_v37 hM_h36
