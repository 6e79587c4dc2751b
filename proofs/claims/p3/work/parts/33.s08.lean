set_option maxRecDepth 4000 in
theorem sf_X11_takeFrames (nn : Nat) {a1 : Int32} {y_a1 : Int} (e_a1 : a1.toInt = y_a1) {h : ms_M} (hM_h : Rg_M h) : Sm_ RV_ (f_X11_takeFrames nn 127 a1 (H_M h)) (qf_X11_takeFrames nn y_a1 h) := by
  unfold f_X11_takeFrames qf_X11_takeFrames
  refine sm_is hM_h rfl ?_
  refine sm_cP (sf_X11_info nn rfl hM_h) ?_; intro u43 y_u43 e_u43
  exact sw_X11_takeFrames_9 nn nn e_a1 e_u43 rfl hM_h
set_option maxRecDepth 4000 in
theorem sj_X11_proveMethods_118 (nn : Nat) {kk_3 : Nat → Int32 → mx_H → Option (Int32 × mx_H)} {qkk_3 : Int → ms_M → Option (Int × ms_M)} (hk_kk_3 : ∀ {l1 : Int32} {y_l1 : Int} (e_l1 : l1.toInt = y_l1) {h : ms_M} (hM_h : Rg_M h), Sm_ RI_ (kk_3 127 l1 (H_M h)) (qkk_3 y_l1 h)) {kk_28 : Nat → Int32 → Int32 → mx_H → Option (Int32 × mx_H)} {qkk_28 : Int → Int → ms_M → Option (Int × ms_M)} (hk_kk_28 : ∀ {l1 : Int32} {y_l1 : Int} (e_l1 : l1.toInt = y_l1) {l2 : Int32} {y_l2 : Int} (e_l2 : l2.toInt = y_l2) {h : ms_M} (hM_h : Rg_M h), Sm_ RI_ (kk_28 127 l1 l2 (H_M h)) (qkk_28 y_l1 y_l2 h)) {l1 : Int32} {y_l1 : Int} (e_l1 : l1.toInt = y_l1) {l2 : Int32} {y_l2 : Int} (e_l2 : l2.toInt = y_l2) {s0 : Int32} {y_s0 : Int} (e_s0 : s0.toInt = y_s0) {h : ms_M} (hM_h : Rg_M h) : Sm_ RI_ (j_X11_proveMethods_118 nn kk_3 kk_28 127 l1 l2 s0 (H_M h)) (qj_X11_proveMethods_118 nn qkk_3 qkk_28 y_l1 y_l2 y_s0 h) := by
  unfold j_X11_proveMethods_118 qj_X11_proveMethods_118
  refine sm_eq e_s0 rfl ?_ ?_
  · refine sm_oq_add e_l2 rfl ?_; intro v1 y_v1 e_v1
    exact hk_kk_28 e_l1 e_v1 hM_h
  · refine sm_gi hM_h rfl ?_; intro v2 e_v2
    refine sm_is hM_h rfl ?_
    refine sm_cI (sf_X11_tellNumber nn e_s0 e_l1 e_l2 e_v2 hM_h) ?_; intro u4 y_u4 M_u4 e_u4 hM_u4
    exact sm_rI e_u4 hM_u4
set_option maxRecDepth 4000 in
theorem sj_X11_proveMethods_100 (nn : Nat) {kk_3 : Nat → Int32 → mx_H → Option (Int32 × mx_H)} {qkk_3 : Int → ms_M → Option (Int × ms_M)} (hk_kk_3 : ∀ {l1 : Int32} {y_l1 : Int} (e_l1 : l1.toInt = y_l1) {h : ms_M} (hM_h : Rg_M h), Sm_ RI_ (kk_3 127 l1 (H_M h)) (qkk_3 y_l1 h)) {kk_28 : Nat → Int32 → Int32 → mx_H → Option (Int32 × mx_H)} {qkk_28 : Int → Int → ms_M → Option (Int × ms_M)} (hk_kk_28 : ∀ {l1 : Int32} {y_l1 : Int} (e_l1 : l1.toInt = y_l1) {l2 : Int32} {y_l2 : Int} (e_l2 : l2.toInt = y_l2) {h : ms_M} (hM_h : Rg_M h), Sm_ RI_ (kk_28 127 l1 l2 (H_M h)) (qkk_28 y_l1 y_l2 h)) {l1 : Int32} {y_l1 : Int} (e_l1 : l1.toInt = y_l1) {l2 : Int32} {y_l2 : Int} (e_l2 : l2.toInt = y_l2) {s0 : Int32} {y_s0 : Int} (e_s0 : s0.toInt = y_s0) {h : ms_M} (hM_h : Rg_M h) : Sm_ RI_ (j_X11_proveMethods_100 nn kk_3 kk_28 127 l1 l2 s0 (H_M h)) (qj_X11_proveMethods_100 nn qkk_3 qkk_28 y_l1 y_l2 y_s0 h) := by
  unfold j_X11_proveMethods_100 qj_X11_proveMethods_100
  refine sm_is hM_h rfl ?_
  refine sm_cV (sf_X11_beginState nn e_l1 hM_h) ?_; intro u7 hM_u7
  refine sm_eq e_s0 rfl ?_ ?_
  · refine sm_is hM_u7 rfl ?_
    refine sm_cI (sf_X11_proveStates nn hM_u7) ?_; intro u9 y_u9 M_u9 e_u9 hM_u9
    exact sj_X11_proveMethods_118 nn hk_kk_3 hk_kk_28 e_l1 e_l2 e_u9 hM_u9
  · exact sj_X11_proveMethods_118 nn hk_kk_3 hk_kk_28 e_l1 e_l2 e_s0 hM_u7
set_option maxRecDepth 4000 in
theorem sj_X11_proveMethods_87 (nn : Nat) {kk_3 : Nat → Int32 → mx_H → Option (Int32 × mx_H)} {qkk_3 : Int → ms_M → Option (Int × ms_M)} (hk_kk_3 : ∀ {l1 : Int32} {y_l1 : Int} (e_l1 : l1.toInt = y_l1) {h : ms_M} (hM_h : Rg_M h), Sm_ RI_ (kk_3 127 l1 (H_M h)) (qkk_3 y_l1 h)) {kk_28 : Nat → Int32 → Int32 → mx_H → Option (Int32 × mx_H)} {qkk_28 : Int → Int → ms_M → Option (Int × ms_M)} (hk_kk_28 : ∀ {l1 : Int32} {y_l1 : Int} (e_l1 : l1.toInt = y_l1) {l2 : Int32} {y_l2 : Int} (e_l2 : l2.toInt = y_l2) {h : ms_M} (hM_h : Rg_M h), Sm_ RI_ (kk_28 127 l1 l2 (H_M h)) (qkk_28 y_l1 y_l2 h)) {l1 : Int32} {y_l1 : Int} (e_l1 : l1.toInt = y_l1) {l2 : Int32} {y_l2 : Int} (e_l2 : l2.toInt = y_l2) {s0 : Int32} {y_s0 : Int} (e_s0 : s0.toInt = y_s0) {h : ms_M} (hM_h : Rg_M h) : Sm_ RI_ (j_X11_proveMethods_87 nn kk_3 kk_28 127 l1 l2 s0 (H_M h)) (qj_X11_proveMethods_87 nn qkk_3 qkk_28 y_l1 y_l2 y_s0 h) := by
  unfold j_X11_proveMethods_87 qj_X11_proveMethods_87
  refine sm_eq e_s0 rfl ?_ ?_
  · refine sm_is hM_h rfl ?_
    refine sm_cI (sf_X11_proveFrames nn hM_h) ?_; intro u12 y_u12 M_u12 e_u12 hM_u12
    exact sj_X11_proveMethods_100 nn hk_kk_3 hk_kk_28 e_l1 e_l2 e_u12 hM_u12
  · exact sj_X11_proveMethods_100 nn hk_kk_3 hk_kk_28 e_l1 e_l2 e_s0 hM_h
set_option maxRecDepth 4000 in
theorem sj_X11_proveMethods_72 (nn : Nat) {kk_3 : Nat → Int32 → mx_H → Option (Int32 × mx_H)} {qkk_3 : Int → ms_M → Option (Int × ms_M)} (hk_kk_3 : ∀ {l1 : Int32} {y_l1 : Int} (e_l1 : l1.toInt = y_l1) {h : ms_M} (hM_h : Rg_M h), Sm_ RI_ (kk_3 127 l1 (H_M h)) (qkk_3 y_l1 h)) {kk_28 : Nat → Int32 → Int32 → mx_H → Option (Int32 × mx_H)} {qkk_28 : Int → Int → ms_M → Option (Int × ms_M)} (hk_kk_28 : ∀ {l1 : Int32} {y_l1 : Int} (e_l1 : l1.toInt = y_l1) {l2 : Int32} {y_l2 : Int} (e_l2 : l2.toInt = y_l2) {h : ms_M} (hM_h : Rg_M h), Sm_ RI_ (kk_28 127 l1 l2 (H_M h)) (qkk_28 y_l1 y_l2 h)) {l1 : Int32} {y_l1 : Int} (e_l1 : l1.toInt = y_l1) {l2 : Int32} {y_l2 : Int} (e_l2 : l2.toInt = y_l2) {l3 : Int32} {y_l3 : Int} (e_l3 : l3.toInt = y_l3) {s0 : Int32} {y_s0 : Int} (e_s0 : s0.toInt = y_s0) {h : ms_M} (hM_h : Rg_M h) : Sm_ RI_ (j_X11_proveMethods_72 nn kk_3 kk_28 127 l1 l2 l3 s0 127 (H_M h)) (qj_X11_proveMethods_72 nn qkk_3 qkk_28 y_l1 y_l2 y_l3 y_s0 h) := by
  unfold j_X11_proveMethods_72 qj_X11_proveMethods_72
  refine sm_is hM_h rfl ?_
  refine sm_cV (sf_X11_takeFrames nn e_s0 hM_h) ?_; intro u15 hM_u15
  refine sm_eq e_l3 rfl ?_ ?_
  · refine sm_is hM_u15 rfl ?_
    refine sm_cI (sf_X11_proveHandlers nn hM_u15) ?_; intro u17 y_u17 M_u17 e_u17 hM_u17
    exact sj_X11_proveMethods_87 nn hk_kk_3 hk_kk_28 e_l1 e_l2 e_u17 hM_u17
  · exact sj_X11_proveMethods_87 nn hk_kk_3 hk_kk_28 e_l1 e_l2 e_l3 hM_u15
set_option maxRecDepth 4000 in
theorem sj_X11_proveMethods_61 (nn : Nat) {kk_3 : Nat → Int32 → mx_H → Option (Int32 × mx_H)} {qkk_3 : Int → ms_M → Option (Int × ms_M)} (hk_kk_3 : ∀ {l1 : Int32} {y_l1 : Int} (e_l1 : l1.toInt = y_l1) {h : ms_M} (hM_h : Rg_M h), Sm_ RI_ (kk_3 127 l1 (H_M h)) (qkk_3 y_l1 h)) {kk_28 : Nat → Int32 → Int32 → mx_H → Option (Int32 × mx_H)} {qkk_28 : Int → Int → ms_M → Option (Int × ms_M)} (hk_kk_28 : ∀ {l1 : Int32} {y_l1 : Int} (e_l1 : l1.toInt = y_l1) {l2 : Int32} {y_l2 : Int} (e_l2 : l2.toInt = y_l2) {h : ms_M} (hM_h : Rg_M h), Sm_ RI_ (kk_28 127 l1 l2 (H_M h)) (qkk_28 y_l1 y_l2 h)) {l1 : Int32} {y_l1 : Int} (e_l1 : l1.toInt = y_l1) {l2 : Int32} {y_l2 : Int} (e_l2 : l2.toInt = y_l2) {s0 : Int32} {y_s0 : Int} (e_s0 : s0.toInt = y_s0) {h : ms_M} (hM_h : Rg_M h) : Sm_ RI_ (j_X11_proveMethods_61 nn kk_3 kk_28 127 l1 l2 s0 (H_M h)) (qj_X11_proveMethods_61 nn qkk_3 qkk_28 y_l1 y_l2 y_s0 h) := by
  unfold j_X11_proveMethods_61 qj_X11_proveMethods_61
  refine sm_ne e_s0 rfl ?_ ?_
  · exact sj_X11_proveMethods_72 nn hk_kk_3 hk_kk_28 e_l1 e_l2 e_s0 rfl hM_h
  · exact sj_X11_proveMethods_72 nn hk_kk_3 hk_kk_28 e_l1 e_l2 e_s0 rfl hM_h
set_option maxRecDepth 4000 in
theorem sw_X11_proveMethods_28 (nn : Nat) {kk_3 : Nat → Int32 → mx_H → Option (Int32 × mx_H)} {qkk_3 : Int → ms_M → Option (Int × ms_M)} (hk_kk_3 : ∀ {l1 : Int32} {y_l1 : Int} (e_l1 : l1.toInt = y_l1) {h : ms_M} (hM_h : Rg_M h), Sm_ RI_ (kk_3 127 l1 (H_M h)) (qkk_3 y_l1 h)) : ∀ (k : Nat) {l1 : Int32} {y_l1 : Int} (e_l1 : l1.toInt = y_l1) {l2 : Int32} {y_l2 : Int} (e_l2 : l2.toInt = y_l2) {h : ms_M} (hM_h : Rg_M h), Sm_ RI_ (w_X11_proveMethods_28 nn kk_3 k 127 l1 l2 (H_M h)) (qw_X11_proveMethods_28 nn qkk_3 k y_l1 y_l2 h) := by
  intro k
  induction k with
  | zero => intros; exact sm_no
  | succ k ih =>
    intro l1 y_l1 e_l1 l2 y_l2 e_l2 h hM_h
    unfold w_X11_proveMethods_28 qw_X11_proveMethods_28
    refine sm_gm hM_h rfl ?_
    refine sm_kO ?_; intro hb1
    refine sm_giI hM_h hb1 rfl ?_; intro v21 e_v21
    refine sm_le e_v21 e_l2 ?_ ?_
    · refine sm_oq_add e_l1 rfl ?_; intro v22 y_v22 e_v22
      exact hk_kk_3 e_v22 hM_h
    · refine sm_pv hM_h rfl e_l2 ?_; intro h23 hM_h23
      refine sm_is hM_h23 rfl ?_
      refine sm_cI (sf_X11_proveInstructions nn hM_h23) ?_; intro u25 y_u25 M_u25 e_u25 hM_u25
      refine sm_eq e_u25 rfl ?_ ?_
      · refine sm_is hM_u25 rfl ?_
        refine sm_cI (sf_X11_proveJumps nn hM_u25) ?_; intro u27 y_u27 M_u27 e_u27 hM_u27
        exact sj_X11_proveMethods_61 nn hk_kk_3 ih e_l1 e_l2 e_u27 hM_u27
      · exact sj_X11_proveMethods_61 nn hk_kk_3 ih e_l1 e_l2 e_u25 hM_u25
set_option maxRecDepth 4000 in
theorem sw_X11_proveMethods_3 (nn : Nat) : ∀ (k : Nat) {l1 : Int32} {y_l1 : Int} (e_l1 : l1.toInt = y_l1) {h : ms_M} (hM_h : Rg_M h), Sm_ RI_ (w_X11_proveMethods_3 nn k 127 l1 (H_M h)) (qw_X11_proveMethods_3 nn k y_l1 h) := by
  intro k
  induction k with
  | zero => intros; exact sm_no
  | succ k ih =>
    intro l1 y_l1 e_l1 h hM_h
    unfold w_X11_proveMethods_3 qw_X11_proveMethods_3
    refine sm_gr hM_h (d := 56) rfl ?_
    refine sm_gi hM_h rfl ?_; intro v31 e_v31
    refine sm_oq_add rfl e_v31 ?_; intro v32 y_v32 e_v32
    refine sm_le e_v32 e_l1 ?_ ?_
    · exact sm_rI rfl hM_h
    · refine sm_is hM_h rfl ?_
      refine sm_cV (sf_X11_takeImage nn e_l1 hM_h) ?_; intro u34 hM_u34
      refine sm_is hM_u34 rfl ?_
      refine sm_cV (sf_X11_takeConstants nn hM_u34) ?_; intro u36 hM_u36
      exact sw_X11_proveMethods_28 nn ih nn e_l1 rfl hM_u36
set_option maxRecDepth 4000 in
theorem sf_X11_proveMethods (nn : Nat) {h : ms_M} (hM_h : Rg_M h) : Sm_ RI_ (f_X11_proveMethods nn 127 (H_M h)) (qf_X11_proveMethods nn h) := by
  unfold f_X11_proveMethods qf_X11_proveMethods
  exact sw_X11_proveMethods_3 nn nn rfl hM_h
set_option maxRecDepth 4000 in
theorem sw_X7_cellsAbove_7 (nn : Nat) : ∀ (k : Nat) {l2 : Int32} {y_l2 : Int} (e_l2 : l2.toInt = y_l2) {l3 : Int32} {y_l3 : Int} (e_l3 : l3.toInt = y_l3) {l4 : Int32} {y_l4 : Int} (e_l4 : l4.toInt = y_l4) {h : ms_M} (hM_h : Rg_M h), Sm_ (RP_ h) (w_X7_cellsAbove_7 nn k 56 l2 l3 l4 (H_M h)) (qw_X7_cellsAbove_7 nn k y_l2 y_l3 y_l4 h) := by
  intro k
  induction k with
  | zero => intros; exact sm_no
  | succ k ih =>
    intro l2 y_l2 e_l2 l3 y_l3 e_l3 l4 y_l4 e_l4 h hM_h
    unfold w_X7_cellsAbove_7 qw_X7_cellsAbove_7
    refine sm_le rfl e_l4 ?_ ?_
    · exact sm_rP e_l2
    · refine sm_is hM_h rfl ?_
      refine sm_cQ (sf_X7_imageOf nn e_l3 hM_h) ?_; intro y_u2
      refine sm_oc ?_ ?_
      · exact sm_rP e_l2
      · refine sm_kO ?_; intro hb1
        refine sm_giI hM_h hb1 rfl ?_; intro v5 e_v5
        refine sm_oq_add e_l2 e_v5 ?_; intro v6 y_v6 e_v6
        refine sm_gr hM_h (d := 57) rfl ?_
        refine sm_is hM_h rfl ?_
        refine sm_cP (sf_X4_above nn _ rfl e_l3 hM_h) ?_; intro u9 y_u9 e_u9
        refine sm_oq_add e_l4 rfl ?_; intro v10 y_v10 e_v10
        exact ih e_v6 e_u9 e_v10 hM_h
set_option maxRecDepth 4000 in
theorem sf_X7_cellsAbove (nn : Nat) {a1 : Int32} {y_a1 : Int} (e_a1 : a1.toInt = y_a1) {h : ms_M} (hM_h : Rg_M h) : Sm_ (RP_ h) (f_X7_cellsAbove nn 56 a1 (H_M h)) (qf_X7_cellsAbove nn y_a1 h) := by
  unfold f_X7_cellsAbove qf_X7_cellsAbove
  exact sw_X7_cellsAbove_7 nn nn rfl e_a1 rfl hM_h
set_option maxRecDepth 4000 in
theorem sw_X7_linkMethods_29 (nn : Nat) {kk_7 : Nat → Int32 → Int32 → Int32 → mx_H → Option mx_H} {qkk_7 : Int → Int → Int → ms_M → Option ms_M} (hk_kk_7 : ∀ {l1 : Int32} {y_l1 : Int} (e_l1 : l1.toInt = y_l1) {l2 : Int32} {y_l2 : Int} (e_l2 : l2.toInt = y_l2) {l3 : Int32} {y_l3 : Int} (e_l3 : l3.toInt = y_l3) {h : ms_M} (hM_h : Rg_M h), Sm_ RV_ (kk_7 56 l1 l2 l3 (H_M h)) (qkk_7 y_l1 y_l2 y_l3 h)) : ∀ (k : Nat) {l1 : Int32} {y_l1 : Int} (e_l1 : l1.toInt = y_l1) {l2 : Int32} {y_l2 : Int} (e_l2 : l2.toInt = y_l2) {l3 : Int32} {y_l3 : Int} (e_l3 : l3.toInt = y_l3) {l4 : Option Nat} {y_l4 : Int} (e_l4 : l4 = rf_O y_l4) {l5 : Int32} {y_l5 : Int} (e_l5 : l5.toInt = y_l5) {h : ms_M} (hM_h : Rg_M h), Sm_ RV_ (w_X7_linkMethods_29 nn kk_7 k 56 l1 l2 l3 l4 l5 (H_M h)) (qw_X7_linkMethods_29 nn qkk_7 k y_l1 y_l2 y_l3 y_l4 y_l5 h) := by
  intro k
  induction k with
  | zero => intros; exact sm_no
  | succ k ih =>
    intro l1 y_l1 e_l1 l2 y_l2 e_l2 l3 y_l3 e_l3 l4 y_l4 e_l4 l5 y_l5 e_l5 h hM_h
    unfold w_X7_linkMethods_29 qw_X7_linkMethods_29
    subst e_l4
    refine sm_nn ?_
    refine sm_kO ?_; intro hb1
    refine sm_giI hM_h hb1 rfl ?_; intro v2 e_v2
    refine sm_le e_v2 e_l5 ?_ ?_
    · refine sm_gr hM_h (d := 57) rfl ?_
      refine sm_is hM_h rfl ?_
      refine sm_cP (sf_X4_above nn _ rfl e_l2 hM_h) ?_; intro u5 y_u5 e_u5
      refine sm_oq_add e_l3 rfl ?_; intro v6 y_v6 e_v6
      exact hk_kk_7 e_l1 e_u5 e_v6 hM_h
    · refine sm_gr hM_h (d := 70) rfl ?_
      refine sm_oq_mul e_l1 rfl ?_; intro v8 y_v8 e_v8
      refine sm_is hM_h rfl ?_
      refine sm_cP (sf_X7_numberOf nn e_l2 e_l5 hM_h) ?_; intro u10 y_u10 e_u10
      refine sm_oq_add e_v8 e_u10 ?_; intro v11 y_v11 e_v11
      refine sm_oq_add rfl e_l1 ?_; intro v12 y_v12 e_v12
      refine sm_isK hM_h hb1 ?_
      refine sm_cP (sf_X3_of nn _ hb1 e_l5 rfl hM_h) ?_; intro u14 y_u14 e_u14
      refine sm_is hM_h rfl ?_
      refine sm_cP (sf_X7_methodOf nn e_v12 _ e_u14 hM_h) ?_; intro u16 y_u16 e_u16
      refine sm_si hM_h rfl e_v11 e_u16 ?_; intro h17 hM_h17
      refine sm_oq_add e_l5 rfl ?_; intro v18 y_v18 e_v18
      exact ih e_l1 e_l2 e_l3 (rf_s _) e_v18 hM_h17
set_option maxRecDepth 4000 in
theorem sw_X7_linkMethods_7 (nn : Nat) : ∀ (k : Nat) {l1 : Int32} {y_l1 : Int} (e_l1 : l1.toInt = y_l1) {l2 : Int32} {y_l2 : Int} (e_l2 : l2.toInt = y_l2) {l3 : Int32} {y_l3 : Int} (e_l3 : l3.toInt = y_l3) {h : ms_M} (hM_h : Rg_M h), Sm_ RV_ (w_X7_linkMethods_7 nn k 56 l1 l2 l3 (H_M h)) (qw_X7_linkMethods_7 nn k y_l1 y_l2 y_l3 h) := by
  intro k
  induction k with
  | zero => intros; exact sm_no
  | succ k ih =>
    intro l1 y_l1 e_l1 l2 y_l2 e_l2 l3 y_l3 e_l3 h hM_h
    unfold w_X7_linkMethods_7 qw_X7_linkMethods_7
    refine sm_le rfl e_l3 ?_ ?_
    · exact sm_rV hM_h
    · refine sm_is hM_h rfl ?_
      refine sm_cQ (sf_X7_imageOf nn e_l2 hM_h) ?_; intro y_u21
      refine sm_oc ?_ ?_
      · exact sm_rV hM_h
      · exact sw_X7_linkMethods_29 nn ih nn e_l1 e_l2 e_l3 (rf_s _) rfl hM_h
set_option maxRecDepth 4000 in
theorem sf_X7_linkMethods (nn : Nat) {a1 : Int32} {y_a1 : Int} (e_a1 : a1.toInt = y_a1) {h : ms_M} (hM_h : Rg_M h) : Sm_ RV_ (f_X7_linkMethods nn 56 a1 (H_M h)) (qf_X7_linkMethods nn y_a1 h) := by
  unfold f_X7_linkMethods qf_X7_linkMethods
  refine sm_oq_add rfl e_a1 ?_; intro v25 y_v25 e_v25
  exact sw_X7_linkMethods_7 nn nn e_a1 e_v25 rfl hM_h
set_option maxRecDepth 4000 in
theorem sf_X3_numberOf (nn : Nat) (a0 : Nat) (hb_a0 : kc_O a0 = 3) {a1 : Int32} {y_a1 : Int} (e_a1 : a1.toInt = y_a1) {h : ms_M} (hM_h : Rg_M h) : Sm_ (RP_ h) (f_X3_numberOf nn a0 a1 (H_M h)) (qf_X3_numberOf nn a0 y_a1 h) := by
  unfold f_X3_numberOf qf_X3_numberOf
  refine sm_isK hM_h hb_a0 ?_
  refine sm_cP (sf_X3_partOf nn _ hb_a0 e_a1 rfl hM_h) ?_; intro u2 y_u2 e_u2
  refine sm_oq_shl e_u2 rfl ?_; intro v3 y_v3 e_v3
  refine sm_isK hM_h hb_a0 ?_
  refine sm_cP (sf_X3_partOf nn _ hb_a0 e_a1 rfl hM_h) ?_; intro u5 y_u5 e_u5
  refine sm_oq_shl e_u5 rfl ?_; intro v6 y_v6 e_v6
  refine sm_oq_or e_v3 e_v6 ?_; intro v7 y_v7 e_v7
  refine sm_isK hM_h hb_a0 ?_
  refine sm_cP (sf_X3_partOf nn _ hb_a0 e_a1 rfl hM_h) ?_; intro u9 y_u9 e_u9
  refine sm_oq_shl e_u9 rfl ?_; intro v10 y_v10 e_v10
  refine sm_oq_or e_v7 e_v10 ?_; intro v11 y_v11 e_v11
  refine sm_isK hM_h hb_a0 ?_
  refine sm_cP (sf_X3_partOf nn _ hb_a0 e_a1 rfl hM_h) ?_; intro u13 y_u13 e_u13
  refine sm_oq_or e_v11 e_u13 ?_; intro v14 y_v14 e_v14
  exact sm_rP e_v14
set_option maxRecDepth 4000 in
theorem sf_X7_linkOf (nn : Nat) (a1 : Nat) {a2 : Int32} {y_a2 : Int} (e_a2 : a2.toInt = y_a2) {h : ms_M} (hM_h : Rg_M h) : Sm_ (RP_ h) (f_X7_linkOf nn 56 a1 a2 (H_M h)) (qf_X7_linkOf nn a1 y_a2 h) := by
  unfold f_X7_linkOf qf_X7_linkOf
  refine sm_isS hM_h ?_; intro hb1
  refine sm_cP (sf_X3_tagOf nn _ hb1 e_a2 hM_h) ?_; intro u2 y_u2 e_u2
  refine sm_ne e_u2 rfl ?_ ?_
  · refine sm_ne e_u2 rfl ?_ ?_
    · refine sm_eq e_u2 rfl ?_ ?_
      · refine sm_isK hM_h hb1 ?_
        refine sm_cP (sf_X3_partOf nn _ hb1 e_a2 rfl hM_h) ?_; intro u4 y_u4 e_u4
        refine sm_is hM_h rfl ?_
        refine sm_cP (sf_X7_typeOfClass nn _ e_u4 hM_h) ?_; intro u6 y_u6 e_u6
        refine sm_isK hM_h hb1 ?_
        refine sm_cP (sf_X3_partOf nn _ hb1 e_a2 rfl hM_h) ?_; intro u8 y_u8 e_u8
        refine sm_isK hM_h hb1 ?_
        refine sm_cP (sf_X3_textAt nn _ hb1 e_u8 hM_h) ?_; intro u10 y_u10 e_u10
        refine sm_isK hM_h hb1 ?_
        refine sm_cP (sf_X3_byteAt nn _ hb1 e_u10 hM_h) ?_; intro u12 y_u12 e_u12
        refine sm_ne e_u12 rfl ?_ ?_
        · refine sm_isK hM_h hb1 ?_
          refine sm_cP (sf_X3_partOf nn _ hb1 e_a2 rfl hM_h) ?_; intro u14 y_u14 e_u14
          refine sm_is hM_h rfl ?_
          refine sm_cP (sf_X7_fieldOf nn e_u6 _ e_u14 hM_h) ?_; intro u16 y_u16 e_u16
          refine sm_ne e_u16 rfl ?_ ?_
          · refine sm_div e_u16 ⟨rfl, by decide⟩ ?_; intro v17 y_v17 e_v17
            refine sm_oq_add rfl e_v17 ?_; intro v18 y_v18 e_v18
            refine sm_gr hM_h (d := 57) rfl ?_
            refine sm_is hM_h rfl ?_
            refine sm_cP (sf_X4_above nn _ rfl e_v18 hM_h) ?_; intro u21 y_u21 e_u21
            refine sm_is hM_h rfl ?_
            refine sm_cP (sf_X7_cellsAbove nn e_u21 hM_h) ?_; intro u23 y_u23 e_u23
            refine sm_rem e_u16 ⟨rfl, by decide⟩ ?_; intro v24 y_v24 e_v24
            refine sm_oq_add e_u23 e_v24 ?_; intro v25 y_v25 e_v25
            exact sm_rP e_v25
          · exact sm_rP rfl
        · refine sm_isK hM_h hb1 ?_
          refine sm_cP (sf_X3_partOf nn _ hb1 e_a2 rfl hM_h) ?_; intro u28 y_u28 e_u28
          refine sm_is hM_h rfl ?_
          refine sm_cP (sf_X7_methodOf nn e_u6 _ e_u28 hM_h) ?_; intro u30 y_u30 e_u30
          exact sm_rP e_u30
      · exact sm_rP rfl
    · refine sm_is hM_h rfl ?_
      refine sm_cP (sf_X7_typeOfClass nn _ e_a2 hM_h) ?_; intro u34 y_u34 e_u34
      exact sm_rP e_u34
  · refine sm_isK hM_h hb1 ?_
    refine sm_cP (sf_X3_numberOf nn _ hb1 e_a2 hM_h) ?_; intro u37 y_u37 e_u37
    exact sm_rP e_u37
set_option maxRecDepth 4000 in
theorem sw_X7_linkAll_42 (nn : Nat) {kk_32 : Nat → Int32 → mx_H → Option mx_H} {qkk_32 : Int → ms_M → Option ms_M} (hk_kk_32 : ∀ {l1 : Int32} {y_l1 : Int} (e_l1 : l1.toInt = y_l1) {h : ms_M} (hM_h : Rg_M h), Sm_ RV_ (kk_32 56 l1 (H_M h)) (qkk_32 y_l1 h)) : ∀ (k : Nat) {l1 : Int32} {y_l1 : Int} (e_l1 : l1.toInt = y_l1) {l2 : Int32} {y_l2 : Int} (e_l2 : l2.toInt = y_l2) {h : ms_M} (hM_h : Rg_M h), Sm_ RV_ (w_X7_linkAll_42 nn kk_32 k 56 l1 l2 (H_M h)) (qw_X7_linkAll_42 nn qkk_32 k y_l1 y_l2 h) := by
  intro k
  induction k with
  | zero => intros; exact sm_no
  | succ k ih =>
    intro l1 y_l1 e_l1 l2 y_l2 e_l2 h hM_h
    unfold w_X7_linkAll_42 qw_X7_linkAll_42
    refine sm_gr hM_h (d := 60) rfl ?_
    refine sm_aq hM_h rfl e_l1 ?_; intro y_v2
    refine sm_nn ?_
    refine sm_kO ?_; intro hb1
    refine sm_giI hM_h hb1 rfl ?_; intro v4 e_v4
    refine sm_lt e_v4 e_l2 ?_ ?_
    · refine sm_is hM_h rfl ?_
      refine sm_cV (sf_X7_linkMethods nn e_l1 hM_h) ?_; intro u6 hM_u6
      refine sm_oq_add e_l1 rfl ?_; intro v7 y_v7 e_v7
      exact hk_kk_32 e_v7 hM_u6
    · refine sm_gr hM_h (d := 68) rfl ?_
      refine sm_oq_mul e_l1 rfl ?_; intro v9 y_v9 e_v9
      refine sm_oq_add e_v9 e_l2 ?_; intro v10 y_v10 e_v10
      refine sm_gr hM_h (d := 60) rfl ?_
      refine sm_aq hM_h rfl e_l1 ?_; intro y_v12
      refine sm_nn ?_
      refine sm_is hM_h rfl ?_
      refine sm_cP (sf_X7_linkOf nn _ e_l2 hM_h) ?_; intro u15 y_u15 e_u15
      refine sm_si hM_h rfl e_v10 e_u15 ?_; intro h16 hM_h16
      refine sm_oq_add e_l2 rfl ?_; intro v17 y_v17 e_v17
      exact ih e_l1 e_v17 hM_h16
set_option maxRecDepth 4000 in
theorem sw_X7_linkAll_32 (nn : Nat) : ∀ (k : Nat) {l1 : Int32} {y_l1 : Int} (e_l1 : l1.toInt = y_l1) {h : ms_M} (hM_h : Rg_M h), Sm_ RV_ (w_X7_linkAll_32 nn k 56 l1 (H_M h)) (qw_X7_linkAll_32 nn k y_l1 h) := by
  intro k
  induction k with
  | zero => intros; exact sm_no
  | succ k ih =>
    intro l1 y_l1 e_l1 h hM_h
    unfold w_X7_linkAll_32 qw_X7_linkAll_32
    refine sm_gi hM_h rfl ?_; intro v19 e_v19
    refine sm_le e_v19 e_l1 ?_ ?_
    · exact sm_rV hM_h
    · exact sw_X7_linkAll_42 nn ih nn e_l1 rfl hM_h
set_option maxRecDepth 4000 in
theorem sw_X7_linkAll_2 (nn : Nat) : ∀ (k : Nat) {l1 : Int32} {y_l1 : Int} (e_l1 : l1.toInt = y_l1) {h : ms_M} (hM_h : Rg_M h), Sm_ RV_ (w_X7_linkAll_2 nn k 56 l1 (H_M h)) (qw_X7_linkAll_2 nn k y_l1 h) := by
  intro k
  induction k with
  | zero => intros; exact sm_no
  | succ k ih =>
    intro l1 y_l1 e_l1 h hM_h
    unfold w_X7_linkAll_2 qw_X7_linkAll_2
    refine sm_gi hM_h rfl ?_; intro v21 e_v21
    refine sm_oq_add rfl e_v21 ?_; intro v22 y_v22 e_v22
    refine sm_le e_v22 e_l1 ?_ ?_
    · exact sw_X7_linkAll_32 nn nn rfl hM_h
    · refine sm_gr hM_h (d := 69) rfl ?_
      refine sm_is hM_h rfl ?_
      refine sm_cP (sf_X7_cellsAbove nn e_l1 hM_h) ?_; intro u25 y_u25 e_u25
      refine sm_si hM_h rfl e_l1 e_u25 ?_; intro h26 hM_h26
      refine sm_oq_add e_l1 rfl ?_; intro v27 y_v27 e_v27
      exact ih e_v27 hM_h26
set_option maxRecDepth 4000 in
theorem sf_X7_linkAll (nn : Nat) {h : ms_M} (hM_h : Rg_M h) : Sm_ RV_ (f_X7_linkAll nn 56 (H_M h)) (qf_X7_linkAll nn h) := by
  unfold f_X7_linkAll qf_X7_linkAll
  exact sw_X7_linkAll_2 nn nn rfl hM_h
set_option maxRecDepth 4000 in
theorem sj_X12_verify_33 (nn : Nat) {l1 : Int32} {y_l1 : Int} (e_l1 : l1.toInt = y_l1) {s0 : Int32} {y_s0 : Int} (e_s0 : s0.toInt = y_s0) {h : ms_M} (hM_h : Rg_M h) : Sm_ RI_ (j_X12_verify_33 nn 0 l1 s0 56 (H_M h)) (qj_X12_verify_33 nn y_l1 y_s0 h) := by
  unfold j_X12_verify_33 qj_X12_verify_33
  refine sm_bq e_s0 ?_
  refine sm_pv hM_h rfl e_s0 ?_; intro h2 hM_h2
  refine sm_gr hM_h2 (d := 56) rfl ?_
  refine sm_gi hM_h2 rfl ?_; intro v4 e_v4
  refine sm_eq e_v4 rfl ?_ ?_
  · exact sm_rI e_l1 hM_h2
  · refine sm_gr hM_h2 (d := 56) rfl ?_
    refine sm_is hM_h2 rfl ?_
    refine sm_cV (sf_X7_linkAll nn hM_h2) ?_; intro u7 hM_u7
    exact sm_rI e_l1 hM_u7
set_option maxRecDepth 4000 in
theorem sj_X12_verify_20 (nn : Nat) {l1 : Int32} {y_l1 : Int} (e_l1 : l1.toInt = y_l1) {h : ms_M} (hM_h : Rg_M h) : Sm_ RI_ (j_X12_verify_20 nn 0 l1 (H_M h)) (qj_X12_verify_20 nn y_l1 h) := by
  unfold j_X12_verify_20 qj_X12_verify_20
  refine sm_gr hM_h (d := 56) rfl ?_
  refine sm_ne e_l1 rfl ?_ ?_
  · exact sj_X12_verify_33 nn e_l1 rfl hM_h
  · exact sj_X12_verify_33 nn e_l1 rfl hM_h
set_option maxRecDepth 4000 in
theorem sf_X12_verify (nn : Nat) {h : ms_M} (hM_h : Rg_M h) : Sm_ RI_ (f_X12_verify nn 0 (H_M h)) (qf_X12_verify nn h) := by
  unfold f_X12_verify qf_X12_verify
  refine sm_gr hM_h (d := 127) rfl ?_
  refine sm_is hM_h rfl ?_
  refine sm_cI (sf_X11_proveHeads nn hM_h) ?_; intro u13 y_u13 M_u13 e_u13 hM_u13
  refine sm_ne e_u13 rfl ?_ ?_
  · exact sj_X12_verify_20 nn e_u13 hM_u13
  · refine sm_gr hM_u13 (d := 127) rfl ?_
    refine sm_is hM_u13 rfl ?_
    refine sm_cI (sf_X11_proveMethods nn hM_u13) ?_; intro u16 y_u16 M_u16 e_u16 hM_u16
    exact sj_X12_verify_20 nn e_u16 hM_u16
set_option maxRecDepth 4000 in
theorem sf_X12_where (nn : Nat) {a1 : Int32} {y_a1 : Int} (e_a1 : a1.toInt = y_a1) {h : ms_M} (hM_h : Rg_M h) : Sm_ (RP_ h) (f_X12_where nn 0 a1 (H_M h)) (qf_X12_where nn y_a1 h) := by
  unfold f_X12_where qf_X12_where
  refine sm_eq e_a1 rfl ?_ ?_
  · refine sm_gr hM_h (d := 127) rfl ?_
    refine sm_gi hM_h rfl ?_; intro v2 e_v2
    exact sm_rP e_v2
  · refine sm_eq e_a1 rfl ?_ ?_
    · refine sm_gr hM_h (d := 127) rfl ?_
      refine sm_gi hM_h rfl ?_; intro v4 e_v4
      exact sm_rP e_v4
    · refine sm_eq e_a1 rfl ?_ ?_
      · refine sm_gr hM_h (d := 127) rfl ?_
        refine sm_gi hM_h rfl ?_; intro v6 e_v6
        exact sm_rP e_v6
      · exact sm_rP rfl
set_option maxRecDepth 4000 in
theorem sf_X13_clear (nn : Nat) {h : ms_M} (hM_h : Rg_M h) : Sm_ RV_ (f_X13_clear nn 160 (H_M h)) (qf_X13_clear nn h) := by
  unfold f_X13_clear qf_X13_clear
  refine sm_pv hM_h rfl rfl ?_; intro h1 hM_h1
  refine sm_pv hM_h1 rfl rfl ?_; intro h2 hM_h2
  refine sm_pv hM_h2 rfl rfl ?_; intro h3 hM_h3
  exact sm_rV hM_h3
set_option maxRecDepth 4000 in
theorem sf_X13_come (nn : Nat) {a1 : Int32} {y_a1 : Int} (e_a1 : a1.toInt = y_a1) {a2 : Int32} {y_a2 : Int} (e_a2 : a2.toInt = y_a2) {h : ms_M} (hM_h : Rg_M h) : Sm_ RV_ (f_X13_come nn 160 a1 a2 (H_M h)) (qf_X13_come nn y_a1 y_a2 h) := by
  unfold f_X13_come qf_X13_come
  refine sm_gr hM_h (d := 196) rfl ?_
  refine sm_gi hM_h rfl ?_; intro v2 e_v2
  refine sm_si hM_h rfl e_v2 e_a1 ?_; intro h3 hM_h3
  refine sm_gr hM_h3 (d := 197) rfl ?_
  refine sm_gi hM_h3 rfl ?_; intro v5 e_v5
  refine sm_si hM_h3 rfl e_v5 e_a2 ?_; intro h6 hM_h6
  refine sm_gi hM_h6 rfl ?_; intro v7 e_v7
  refine sm_oq_add e_v7 rfl ?_; intro v8 y_v8 e_v8
  refine sm_pv hM_h6 rfl e_v8 ?_; intro h9 hM_h9
  exact sm_rV hM_h9
set_option maxRecDepth 4000 in
theorem sf_X13_canTake (nn : Nat) {a1 : Int32} {y_a1 : Int} (e_a1 : a1.toInt = y_a1) {h : ms_M} (hM_h : Rg_M h) : Sm_ (RP_ h) (f_X13_canTake nn 160 a1 (H_M h)) (qf_X13_canTake nn y_a1 h) := by
  unfold f_X13_canTake qf_X13_canTake
  refine sm_gi hM_h rfl ?_; intro v1 e_v1
  refine sm_eq e_v1 rfl ?_ ?_
  · refine sm_gr hM_h (d := 177) rfl ?_
    refine sm_ab hM_h rfl e_a1 ?_; intro v3 y_v3 e_v3
    refine sm_eq e_v3 rfl ?_ ?_
    · refine sm_gr hM_h (d := 167) rfl ?_
      refine sm_ai hM_h rfl e_a1 ?_; intro v5 y_v5 e_v5
      refine sm_eq e_v5 rfl ?_ ?_
      · exact sm_rP rfl
      · refine sm_gr hM_h (d := 167) rfl ?_
        refine sm_ai hM_h rfl e_a1 ?_; intro v7 y_v7 e_v7
        refine sm_ne e_v7 rfl ?_ ?_
        · refine sm_gr hM_h (d := 167) rfl ?_
          refine sm_ai hM_h rfl e_a1 ?_; intro v9 y_v9 e_v9
          refine sm_ne e_v9 rfl ?_ ?_
          · exact sm_rP rfl
          · refine sm_gr hM_h (d := 175) rfl ?_
            refine sm_ai hM_h rfl e_a1 ?_; intro v11 y_v11 e_v11
            refine sm_eq e_v11 rfl ?_ ?_
            · exact sm_rP rfl
            · exact sm_rP rfl
        · exact sm_rP rfl
    · exact sm_rP rfl
  · exact sm_rP rfl
set_option maxRecDepth 4000 in
theorem sw_X13_isLike_24 (nn : Nat) : ∀ (k : Nat) {l1 : Int32} {y_l1 : Int} (e_l1 : l1.toInt = y_l1) {l2 : Int32} {y_l2 : Int} (e_l2 : l2.toInt = y_l2) {l3 : Int32} {y_l3 : Int} (e_l3 : l3.toInt = y_l3) {l4 : Int32} {y_l4 : Int} (e_l4 : l4.toInt = y_l4) {h : ms_M} (hM_h : Rg_M h), Sm_ (RP_ h) (w_X13_isLike_24 nn k 160 l1 l2 l3 l4 (H_M h)) (qw_X13_isLike_24 nn k y_l1 y_l2 y_l3 y_l4 h) := by
  intro k
  induction k with
  | zero => intros; exact sm_no
  | succ k ih =>
    intro l1 y_l1 e_l1 l2 y_l2 e_l2 l3 y_l3 e_l3 l4 y_l4 e_l4 h hM_h
    unfold w_X13_isLike_24 qw_X13_isLike_24
    refine sm_gr hM_h (d := 165) rfl ?_
    refine sm_ai hM_h rfl e_l1 ?_; intro v2 y_v2 e_v2
    refine sm_le e_v2 e_l4 ?_ ?_
    · refine sm_bq e_l3 ?_
      exact sm_rP e_l3
    · refine sm_eq e_l3 rfl ?_ ?_
      · refine sm_bq e_l3 ?_
        exact sm_rP e_l3
      · refine sm_gr hM_h (d := 162) rfl ?_
        refine sm_gr hM_h (d := 164) rfl ?_
        refine sm_ai hM_h rfl e_l1 ?_; intro v7 y_v7 e_v7
        refine sm_oq_add e_v7 e_l4 ?_; intro v8 y_v8 e_v8
        refine sm_ai hM_h rfl e_v8 ?_; intro v9 y_v9 e_v9
        refine sm_gr hM_h (d := 162) rfl ?_
        refine sm_gr hM_h (d := 164) rfl ?_
        refine sm_ai hM_h rfl e_l2 ?_; intro v12 y_v12 e_v12
        refine sm_oq_add e_v12 e_l4 ?_; intro v13 y_v13 e_v13
        refine sm_ai hM_h rfl e_v13 ?_; intro v14 y_v14 e_v14
        refine sm_ne e_v9 e_v14 ?_ ?_
        · refine sm_oq_add e_l4 rfl ?_; intro v15 y_v15 e_v15
          exact ih e_l1 e_l2 rfl e_v15 hM_h
        · refine sm_oq_add e_l4 rfl ?_; intro v16 y_v16 e_v16
          exact ih e_l1 e_l2 rfl e_v16 hM_h
set_option maxRecDepth 4000 in
theorem sf_X13_isLike (nn : Nat) {a1 : Int32} {y_a1 : Int} (e_a1 : a1.toInt = y_a1) {a2 : Int32} {y_a2 : Int} (e_a2 : a2.toInt = y_a2) {h : ms_M} (hM_h : Rg_M h) : Sm_ (RP_ h) (f_X13_isLike nn 160 a1 a2 (H_M h)) (qf_X13_isLike nn y_a1 y_a2 h) := by
  unfold f_X13_isLike qf_X13_isLike
  refine sm_gr hM_h (d := 165) rfl ?_
  refine sm_ai hM_h rfl e_a1 ?_; intro v21 y_v21 e_v21
  refine sm_gr hM_h (d := 165) rfl ?_
  refine sm_ai hM_h rfl e_a2 ?_; intro v23 y_v23 e_v23
  refine sm_ne e_v21 e_v23 ?_ ?_
  · exact sw_X13_isLike_24 nn nn e_a1 e_a2 rfl rfl hM_h
  · exact sw_X13_isLike_24 nn nn e_a1 e_a2 rfl rfl hM_h
set_option maxRecDepth 4000 in
theorem sf_X13_upperOf (nn : Nat) {a1 : Int32} {y_a1 : Int} (e_a1 : a1.toInt = y_a1) {h : ms_M} (hM_h : Rg_M h) : Sm_ (RP_ h) (f_X13_upperOf nn 160 a1 (H_M h)) (qf_X13_upperOf nn y_a1 h) := by
  unfold f_X13_upperOf qf_X13_upperOf
  refine sm_ne e_a1 rfl ?_ ?_
  · refine sm_ne e_a1 rfl ?_ ?_
    · refine sm_le rfl e_a1 ?_ ?_
      · refine sm_gr hM_h (d := 180) rfl ?_
        refine sm_oq_sub e_a1 rfl ?_; intro v2 y_v2 e_v2
        refine sm_ai hM_h rfl e_v2 ?_; intro v3 y_v3 e_v3
        exact sm_rP e_v3
      · exact sm_rP rfl
    · exact sm_rP rfl
  · exact sm_rP rfl
set_option maxRecDepth 4000 in
theorem sj_X13_memberOf_51 (nn : Nat) {kk_3 : Nat → Int32 → Int32 → Int32 → mx_H → Option (Int32 × mx_H)} {qkk_3 : Int → Int → Int → ms_M → Option Int} (hk_kk_3 : ∀ {l2 : Int32} {y_l2 : Int} (e_l2 : l2.toInt = y_l2) {l3 : Int32} {y_l3 : Int} (e_l3 : l3.toInt = y_l3) {l4 : Int32} {y_l4 : Int} (e_l4 : l4.toInt = y_l4) {h : ms_M} (hM_h : Rg_M h), Sm_ (RP_ h) (kk_3 160 l2 l3 l4 (H_M h)) (qkk_3 y_l2 y_l3 y_l4 h)) {kk_12 : Nat → Int32 → Int32 → Int32 → Int32 → mx_H → Option (Int32 × mx_H)} {qkk_12 : Int → Int → Int → Int → ms_M → Option Int} (hk_kk_12 : ∀ {l2 : Int32} {y_l2 : Int} (e_l2 : l2.toInt = y_l2) {l3 : Int32} {y_l3 : Int} (e_l3 : l3.toInt = y_l3) {l4 : Int32} {y_l4 : Int} (e_l4 : l4.toInt = y_l4) {l5 : Int32} {y_l5 : Int} (e_l5 : l5.toInt = y_l5) {h : ms_M} (hM_h : Rg_M h), Sm_ (RP_ h) (kk_12 160 l2 l3 l4 l5 (H_M h)) (qkk_12 y_l2 y_l3 y_l4 y_l5 h)) {l2 : Int32} {y_l2 : Int} (e_l2 : l2.toInt = y_l2) {l3 : Int32} {y_l3 : Int} (e_l3 : l3.toInt = y_l3) {l4 : Int32} {y_l4 : Int} (e_l4 : l4.toInt = y_l4) {l5 : Int32} {y_l5 : Int} (e_l5 : l5.toInt = y_l5) {s0 : Int32} {y_s0 : Int} (e_s0 : s0.toInt = y_s0) {h : ms_M} (hM_h : Rg_M h) : Sm_ (RP_ h) (j_X13_memberOf_51 nn kk_3 kk_12 160 l2 l3 l4 l5 s0 (H_M h)) (qj_X13_memberOf_51 nn qkk_3 qkk_12 y_l2 y_l3 y_l4 y_l5 y_s0 h) := by
  unfold j_X13_memberOf_51 qj_X13_memberOf_51
  refine sm_ne e_s0 e_l3 ?_ ?_
  · refine sm_oq_add e_l5 rfl ?_; intro v1 y_v1 e_v1
    exact hk_kk_12 e_l2 e_l3 e_l4 e_v1 hM_h
  · refine sm_gr hM_h (d := 186) rfl ?_
    refine sm_ai hM_h rfl e_l5 ?_; intro v3 y_v3 e_v3
    refine sm_is hM_h rfl ?_
    refine sm_cP (sf_X13_isLike nn e_v3 e_l2 hM_h) ?_; intro u5 y_u5 e_u5
    refine sm_eq e_u5 rfl ?_ ?_
    · refine sm_oq_add e_l5 rfl ?_; intro v6 y_v6 e_v6
      exact hk_kk_12 e_l2 e_l3 e_l4 e_v6 hM_h
    · exact sm_rP e_l5
set_option maxRecDepth 4000 in
theorem sw_X13_memberOf_12 (nn : Nat) {kk_3 : Nat → Int32 → Int32 → Int32 → mx_H → Option (Int32 × mx_H)} {qkk_3 : Int → Int → Int → ms_M → Option Int} (hk_kk_3 : ∀ {l2 : Int32} {y_l2 : Int} (e_l2 : l2.toInt = y_l2) {l3 : Int32} {y_l3 : Int} (e_l3 : l3.toInt = y_l3) {l4 : Int32} {y_l4 : Int} (e_l4 : l4.toInt = y_l4) {h : ms_M} (hM_h : Rg_M h), Sm_ (RP_ h) (kk_3 160 l2 l3 l4 (H_M h)) (qkk_3 y_l2 y_l3 y_l4 h)) : ∀ (k : Nat) {l2 : Int32} {y_l2 : Int} (e_l2 : l2.toInt = y_l2) {l3 : Int32} {y_l3 : Int} (e_l3 : l3.toInt = y_l3) {l4 : Int32} {y_l4 : Int} (e_l4 : l4.toInt = y_l4) {l5 : Int32} {y_l5 : Int} (e_l5 : l5.toInt = y_l5) {h : ms_M} (hM_h : Rg_M h), Sm_ (RP_ h) (w_X13_memberOf_12 nn kk_3 k 160 l2 l3 l4 l5 (H_M h)) (qw_X13_memberOf_12 nn qkk_3 k y_l2 y_l3 y_l4 y_l5 h) := by
  intro k
  induction k with
  | zero => intros; exact sm_no
  | succ k ih =>
    intro l2 y_l2 e_l2 l3 y_l3 e_l3 l4 y_l4 e_l4 l5 y_l5 e_l5 h hM_h
    unfold w_X13_memberOf_12 qw_X13_memberOf_12
    refine sm_gi hM_h rfl ?_; intro v9 e_v9
    refine sm_le e_v9 e_l5 ?_ ?_
    · refine sm_is hM_h rfl ?_
      refine sm_cP (sf_X13_upperOf nn e_l4 hM_h) ?_; intro u11 y_u11 e_u11
      exact hk_kk_3 e_l2 e_l3 e_u11 hM_h
    · refine sm_gr hM_h (d := 181) rfl ?_
      refine sm_ai hM_h rfl e_l5 ?_; intro v13 y_v13 e_v13
      refine sm_oq_sub e_l4 rfl ?_; intro v14 y_v14 e_v14
      refine sm_ne e_v13 e_v14 ?_ ?_
      · refine sm_oq_add e_l5 rfl ?_; intro v15 y_v15 e_v15
        exact ih e_l2 e_l3 e_l4 e_v15 hM_h
      · refine sm_gr hM_h (d := 182) rfl ?_
        refine sm_ai hM_h rfl e_l5 ?_; intro v17 y_v17 e_v17
        refine sm_le e_v17 rfl ?_ ?_
        · exact sj_X13_memberOf_51 nn hk_kk_3 ih e_l2 e_l3 e_l4 e_l5 rfl hM_h
        · exact sj_X13_memberOf_51 nn hk_kk_3 ih e_l2 e_l3 e_l4 e_l5 rfl hM_h
set_option maxRecDepth 4000 in
theorem sw_X13_memberOf_3 (nn : Nat) : ∀ (k : Nat) {l2 : Int32} {y_l2 : Int} (e_l2 : l2.toInt = y_l2) {l3 : Int32} {y_l3 : Int} (e_l3 : l3.toInt = y_l3) {l4 : Int32} {y_l4 : Int} (e_l4 : l4.toInt = y_l4) {h : ms_M} (hM_h : Rg_M h), Sm_ (RP_ h) (w_X13_memberOf_3 nn k 160 l2 l3 l4 (H_M h)) (qw_X13_memberOf_3 nn k y_l2 y_l3 y_l4 h) := by
  intro k
  induction k with
  | zero => intros; exact sm_no
  | succ k ih =>
    intro l2 y_l2 e_l2 l3 y_l3 e_l3 l4 y_l4 e_l4 h hM_h
    unfold w_X13_memberOf_3 qw_X13_memberOf_3
    refine sm_eq e_l4 rfl ?_ ?_
    · exact sm_rP rfl
    · exact sw_X13_memberOf_12 nn ih nn e_l2 e_l3 e_l4 rfl hM_h
set_option maxRecDepth 4000 in
theorem sf_X13_memberOf (nn : Nat) {a1 : Int32} {y_a1 : Int} (e_a1 : a1.toInt = y_a1) {a2 : Int32} {y_a2 : Int} (e_a2 : a2.toInt = y_a2) {a3 : Int32} {y_a3 : Int} (e_a3 : a3.toInt = y_a3) {h : ms_M} (hM_h : Rg_M h) : Sm_ (RP_ h) (f_X13_memberOf nn 160 a1 a2 a3 (H_M h)) (qf_X13_memberOf nn y_a1 y_a2 y_a3 h) := by
  unfold f_X13_memberOf qf_X13_memberOf
  exact sw_X13_memberOf_3 nn nn e_a2 e_a3 e_a1 hM_h
set_option maxRecDepth 4000 in
theorem sw_X13_sightOf_7 (nn : Nat) : ∀ (k : Nat) {l1 : Int32} {y_l1 : Int} (e_l1 : l1.toInt = y_l1) {l2 : Int32} {y_l2 : Int} (e_l2 : l2.toInt = y_l2) {h : ms_M} (hM_h : Rg_M h), Sm_ (RP_ h) (w_X13_sightOf_7 nn k 160 l1 l2 (H_M h)) (qw_X13_sightOf_7 nn k y_l1 y_l2 h) := by
  intro k
  induction k with
  | zero => intros; exact sm_no
  | succ k ih =>
    intro l1 y_l1 e_l1 l2 y_l2 e_l2 h hM_h
    unfold w_X13_sightOf_7 qw_X13_sightOf_7
    refine sm_lt e_l2 rfl ?_ ?_
    · exact sm_rP rfl
    · refine sm_gr hM_h (d := 196) rfl ?_
      refine sm_ai hM_h rfl e_l2 ?_; intro v2 y_v2 e_v2
      refine sm_is hM_h rfl ?_
      refine sm_cP (sf_X13_isLike nn e_v2 e_l1 hM_h) ?_; intro u4 y_u4 e_u4
      refine sm_eq e_u4 rfl ?_ ?_
      · refine sm_oq_add e_l2 rfl ?_; intro v5 y_v5 e_v5
        exact ih e_l1 e_v5 hM_h
      · exact sm_rP e_l2
set_option maxRecDepth 4000 in
theorem sf_X13_sightOf (nn : Nat) {a1 : Int32} {y_a1 : Int} (e_a1 : a1.toInt = y_a1) {h : ms_M} (hM_h : Rg_M h) : Sm_ (RP_ h) (f_X13_sightOf nn 160 a1 (H_M h)) (qf_X13_sightOf nn y_a1 h) := by
  unfold f_X13_sightOf qf_X13_sightOf
  refine sm_gi hM_h rfl ?_; intro v8 e_v8
  refine sm_oq_sub e_v8 rfl ?_; intro v9 y_v9 e_v9
  exact sw_X13_sightOf_7 nn nn e_a1 e_v9 hM_h
set_option maxRecDepth 4000 in
theorem sf_X13_isByClass (nn : Nat) {a1 : Int32} {y_a1 : Int} (e_a1 : a1.toInt = y_a1) {h : ms_M} (hM_h : Rg_M h) : Sm_ (RP_ h) (f_X13_isByClass nn 160 a1 (H_M h)) (qf_X13_isByClass nn y_a1 h) := by
  unfold f_X13_isByClass qf_X13_isByClass
  refine sm_gr hM_h (d := 170) rfl ?_
  refine sm_ai hM_h rfl e_a1 ?_; intro v2 y_v2 e_v2
  refine sm_gr hM_h (d := 167) rfl ?_
  refine sm_ai hM_h rfl e_v2 ?_; intro v4 y_v4 e_v4
  refine sm_ne e_v4 rfl ?_ ?_
  · exact sm_rP rfl
  · refine sm_gr hM_h (d := 177) rfl ?_
    refine sm_ab hM_h rfl e_v2 ?_; intro v6 y_v6 e_v6
    refine sm_ne e_v6 rfl ?_ ?_
    · exact sm_rP rfl
    · refine sm_gr hM_h (d := 168) rfl ?_
      refine sm_ai hM_h rfl e_v2 ?_; intro v8 y_v8 e_v8
      refine sm_is hM_h rfl ?_
      refine sm_cP (sf_X13_sightOf nn e_v8 hM_h) ?_; intro u10 y_u10 e_u10
      refine sm_ne e_u10 rfl ?_ ?_
      · exact sm_rP rfl
      · refine sm_gi hM_h rfl ?_; intro v11 e_v11
        refine sm_gr hM_h (d := 168) rfl ?_
        refine sm_ai hM_h rfl e_v2 ?_; intro v13 y_v13 e_v13
        refine sm_is hM_h rfl ?_
        refine sm_cP (sf_X13_memberOf nn e_v11 e_v13 rfl hM_h) ?_; intro u15 y_u15 e_u15
        refine sm_ne e_u15 rfl ?_ ?_
        · exact sm_rP rfl
        · exact sm_rP rfl
set_option maxRecDepth 4000 in
theorem sf_X13_isLed (nn : Nat) {a1 : Int32} {y_a1 : Int} (e_a1 : a1.toInt = y_a1) {h : ms_M} (hM_h : Rg_M h) : Sm_ (RP_ h) (f_X13_isLed nn 160 a1 (H_M h)) (qf_X13_isLed nn y_a1 h) := by
  unfold f_X13_isLed qf_X13_isLed
  refine sm_gr hM_h (d := 167) rfl ?_
  refine sm_ai hM_h rfl e_a1 ?_; intro v2 y_v2 e_v2
  refine sm_eq e_v2 rfl ?_ ?_
  · exact sm_rP rfl
  · refine sm_eq e_v2 rfl ?_ ?_
    · exact sm_rP rfl
    · refine sm_eq e_v2 rfl ?_ ?_
      · exact sm_rP rfl
      · refine sm_eq e_v2 rfl ?_ ?_
        · exact sm_rP rfl
        · refine sm_ne e_v2 rfl ?_ ?_
          · exact sm_rP rfl
          · refine sm_is hM_h rfl ?_
            refine sm_cP (sf_X13_isByClass nn e_a1 hM_h) ?_; intro u4 y_u4 e_u4
            refine sm_ne e_u4 rfl ?_ ?_
            · exact sm_rP rfl
            · exact sm_rP rfl
set_option maxRecDepth 4000 in
theorem sj_X13_extendsIt_21 (nn : Nat) {l2 : Int32} {y_l2 : Int} (e_l2 : l2.toInt = y_l2) {l3 : Int32} {y_l3 : Int} (e_l3 : l3.toInt = y_l3) {h : ms_M} (hM_h : Rg_M h) : Sm_ (RP_ h) (j_X13_extendsIt_21 nn l2 l3 (H_M h)) (qj_X13_extendsIt_21 nn y_l2 y_l3 h) := by
  unfold j_X13_extendsIt_21 qj_X13_extendsIt_21
  refine sm_ne e_l3 e_l2 ?_ ?_
  · exact sm_rP rfl
  · exact sm_rP rfl
set_option maxRecDepth 4000 in
theorem sw_X13_extendsIt_2 (nn : Nat) : ∀ (k : Nat) {l2 : Int32} {y_l2 : Int} (e_l2 : l2.toInt = y_l2) {l3 : Int32} {y_l3 : Int} (e_l3 : l3.toInt = y_l3) {h : ms_M} (hM_h : Rg_M h), Sm_ (RP_ h) (w_X13_extendsIt_2 nn k 160 l2 l3 (H_M h)) (qw_X13_extendsIt_2 nn k y_l2 y_l3 h) := by
  intro k
  induction k with
  | zero => intros; exact sm_no
  | succ k ih =>
    intro l2 y_l2 e_l2 l3 y_l3 e_l3 h hM_h
    unfold w_X13_extendsIt_2 qw_X13_extendsIt_2
    refine sm_eq e_l3 rfl ?_ ?_
    · exact sj_X13_extendsIt_21 nn e_l2 e_l3 hM_h
    · refine sm_eq e_l3 e_l2 ?_ ?_
      · exact sj_X13_extendsIt_21 nn e_l2 e_l3 hM_h
      · refine sm_is hM_h rfl ?_
        refine sm_cP (sf_X13_upperOf nn e_l3 hM_h) ?_; intro u3 y_u3 e_u3
        exact ih e_l2 e_u3 hM_h
set_option maxRecDepth 4000 in
theorem sf_X13_extendsIt (nn : Nat) {a1 : Int32} {y_a1 : Int} (e_a1 : a1.toInt = y_a1) {a2 : Int32} {y_a2 : Int} (e_a2 : a2.toInt = y_a2) {h : ms_M} (hM_h : Rg_M h) : Sm_ (RP_ h) (f_X13_extendsIt nn 160 a1 a2 (H_M h)) (qf_X13_extendsIt nn y_a1 y_a2 h) := by
  unfold f_X13_extendsIt qf_X13_extendsIt
  exact sw_X13_extendsIt_2 nn nn e_a2 e_a1 hM_h
set_option maxRecDepth 4000 in
theorem sf_X13_isArray (nn : Nat) {a0 : Int32} {y_a0 : Int} (e_a0 : a0.toInt = y_a0) {h : ms_M} (hM_h : Rg_M h) : Sm_ (RP_ h) (f_X13_isArray nn a0 (H_M h)) (qf_X13_isArray nn y_a0 h) := by
  unfold f_X13_isArray qf_X13_isArray
  refine sm_eq e_a0 rfl ?_ ?_
  · exact sm_rP rfl
  · refine sm_lt e_a0 rfl ?_ ?_
    · exact sm_rP rfl
    · refine sm_rem e_a0 ⟨rfl, by decide⟩ ?_; intro v1 y_v1 e_v1
      refine sm_ne e_v1 rfl ?_ ?_
      · exact sm_rP rfl
      · exact sm_rP rfl
set_option maxRecDepth 4000 in
theorem sj_X13_fits_44 (nn : Nat) {l1 : Int32} {y_l1 : Int} (e_l1 : l1.toInt = y_l1) {l2 : Int32} {y_l2 : Int} (e_l2 : l2.toInt = y_l2) {h : ms_M} (hM_h : Rg_M h) : Sm_ (RP_ h) (j_X13_fits_44 nn 160 l1 l2 (H_M h)) (qj_X13_fits_44 nn y_l1 y_l2 h) := by
  unfold j_X13_fits_44 qj_X13_fits_44
  refine sm_lt e_l1 rfl ?_ ?_
  · exact sm_rP rfl
  · refine sm_lt e_l2 rfl ?_ ?_
    · exact sm_rP rfl
    · refine sm_rem e_l1 ⟨rfl, by decide⟩ ?_; intro v1 y_v1 e_v1
      refine sm_rem e_l2 ⟨rfl, by decide⟩ ?_; intro v2 y_v2 e_v2
      refine sm_ne e_v1 e_v2 ?_ ?_
      · exact sm_rP rfl
      · refine sm_oq_sub e_l1 rfl ?_; intro v3 y_v3 e_v3
        refine sm_div e_v3 ⟨rfl, by decide⟩ ?_; intro v4 y_v4 e_v4
        refine sm_oq_sub e_l2 rfl ?_; intro v5 y_v5 e_v5
        refine sm_div e_v5 ⟨rfl, by decide⟩ ?_; intro v6 y_v6 e_v6
        refine sm_is hM_h rfl ?_
        refine sm_cP (sf_X13_extendsIt nn e_v4 e_v6 hM_h) ?_; intro u8 y_u8 e_u8
        refine sm_eq e_u8 rfl ?_ ?_
        · exact sm_rP rfl
        · exact sm_rP rfl
set_option maxRecDepth 4000 in
theorem sf_X13_fits (nn : Nat) {a1 : Int32} {y_a1 : Int} (e_a1 : a1.toInt = y_a1) {a2 : Int32} {y_a2 : Int} (e_a2 : a2.toInt = y_a2) {h : ms_M} (hM_h : Rg_M h) : Sm_ (RP_ h) (f_X13_fits nn 160 a1 a2 (H_M h)) (qf_X13_fits nn y_a1 y_a2 h) := by
  unfold f_X13_fits qf_X13_fits
  refine sm_ne e_a1 e_a2 ?_ ?_
  · refine sm_ne e_a1 rfl ?_ ?_
    · refine sm_cP (sf_X13_isArray nn e_a1 hM_h) ?_; intro u13 y_u13 e_u13
      refine sm_eq e_u13 rfl ?_ ?_
      · exact sj_X13_fits_44 nn e_a1 e_a2 hM_h
      · refine sm_ne e_a2 rfl ?_ ?_
        · exact sj_X13_fits_44 nn e_a1 e_a2 hM_h
        · exact sm_rP rfl
    · refine sm_eq e_a2 rfl ?_ ?_
      · exact sm_rP rfl
      · refine sm_lt e_a2 rfl ?_ ?_
        · exact sm_rP rfl
        · exact sm_rP rfl
  · exact sm_rP rfl
set_option maxRecDepth 4000 in
theorem sj_X13_goTogether_10 (nn : Nat) {l1 : Int32} {y_l1 : Int} (e_l1 : l1.toInt = y_l1) {l2 : Int32} {y_l2 : Int} (e_l2 : l2.toInt = y_l2) {h : ms_M} (hM_h : Rg_M h) : Sm_ (RP_ h) (j_X13_goTogether_10 nn l1 l2 (H_M h)) (qj_X13_goTogether_10 nn y_l1 y_l2 h) := by
  unfold j_X13_goTogether_10 qj_X13_goTogether_10
  refine sm_ne e_l1 e_l2 ?_ ?_
  · exact sm_rP rfl
  · exact sm_rP rfl
set_option maxRecDepth 4000 in
theorem sf_X13_goTogether (nn : Nat) {a1 : Int32} {y_a1 : Int} (e_a1 : a1.toInt = y_a1) {a2 : Int32} {y_a2 : Int} (e_a2 : a2.toInt = y_a2) {h : ms_M} (hM_h : Rg_M h) : Sm_ (RP_ h) (f_X13_goTogether nn 160 a1 a2 (H_M h)) (qf_X13_goTogether nn y_a1 y_a2 h) := by
  unfold f_X13_goTogether qf_X13_goTogether
  refine sm_lt e_a1 rfl ?_ ?_
  · exact sj_X13_goTogether_10 nn e_a1 e_a2 hM_h
  · refine sm_le rfl e_a2 ?_ ?_
    · refine sm_is hM_h rfl ?_
      refine sm_cP (sf_X13_fits nn e_a1 e_a2 hM_h) ?_; intro u3 y_u3 e_u3
      refine sm_ne e_u3 rfl ?_ ?_
      · exact sm_rP rfl
      · refine sm_is hM_h rfl ?_
        refine sm_cP (sf_X13_fits nn e_a2 e_a1 hM_h) ?_; intro u5 y_u5 e_u5
        refine sm_eq e_u5 rfl ?_ ?_
        · exact sm_rP rfl
        · exact sm_rP rfl
    · exact sj_X13_goTogether_10 nn e_a1 e_a2 hM_h
set_option maxRecDepth 4000 in
theorem sf_X13_wrong (nn : Nat) {a1 : Int32} {y_a1 : Int} (e_a1 : a1.toInt = y_a1) {a2 : Int32} {y_a2 : Int} (e_a2 : a2.toInt = y_a2) {h : ms_M} (hM_h : Rg_M h) : Sm_ RV_ (f_X13_wrong nn 160 a1 a2 (H_M h)) (qf_X13_wrong nn y_a1 y_a2 h) := by
  unfold f_X13_wrong qf_X13_wrong
  refine sm_gi hM_h rfl ?_; intro v1 e_v1
  refine sm_eq e_v1 rfl ?_ ?_
  · refine sm_pv hM_h rfl e_a1 ?_; intro h2 hM_h2
    refine sm_gr hM_h2 (d := 164) rfl ?_
    refine sm_ai hM_h2 rfl e_a2 ?_; intro v4 y_v4 e_v4
    refine sm_pv hM_h2 rfl e_v4 ?_; intro h5 hM_h5
    exact sm_rV hM_h5
  · exact sm_rV hM_h
set_option maxRecDepth 4000 in
theorem sf_X13_led (nn : Nat) {a1 : Int32} {y_a1 : Int} (e_a1 : a1.toInt = y_a1) {h : ms_M} (hM_h : Rg_M h) : Sm_ RI_ (f_X13_led nn 160 a1 (H_M h)) (qf_X13_led nn y_a1 h) := by
  unfold f_X13_led qf_X13_led
  refine sm_gi hM_h rfl ?_; intro v1 e_v1
  refine sm_eq e_v1 rfl ?_ ?_
  · refine sm_gr hM_h (d := 174) rfl ?_
    refine sm_gr hM_h (d := 170) rfl ?_
    refine sm_ai hM_h rfl e_a1 ?_; intro v4 y_v4 e_v4
    refine sm_ai hM_h rfl e_v4 ?_; intro v5 y_v5 e_v5
    refine sm_ne e_v5 rfl ?_ ?_
    · exact sm_rI e_v5 hM_h
    · refine sm_gr hM_h (d := 168) rfl ?_
      refine sm_gr hM_h (d := 170) rfl ?_
      refine sm_ai hM_h rfl e_a1 ?_; intro v8 y_v8 e_v8
      refine sm_ai hM_h rfl e_v8 ?_; intro v9 y_v9 e_v9
      refine sm_is hM_h rfl ?_
      refine sm_cV (sf_X13_wrong nn rfl e_v9 hM_h) ?_; intro u11 hM_u11
      exact sm_rI e_v5 hM_u11
  · exact sm_rI rfl hM_h
set_option maxRecDepth 4000 in
theorem sf_X13_side (nn : Nat) {a1 : Int32} {y_a1 : Int} (e_a1 : a1.toInt = y_a1) {a2 : Int32} {y_a2 : Int} (e_a2 : a2.toInt = y_a2) {h : ms_M} (hM_h : Rg_M h) : Sm_ RI_ (f_X13_side nn 160 a1 a2 (H_M h)) (qf_X13_side nn y_a1 y_a2 h) := by
  unfold f_X13_side qf_X13_side
  refine sm_ne e_a2 rfl ?_ ?_
  · exact sm_rI e_a2 hM_h
  · refine sm_gr hM_h (d := 168) rfl ?_
    refine sm_ai hM_h rfl e_a1 ?_; intro v2 y_v2 e_v2
    refine sm_is hM_h rfl ?_
    refine sm_cV (sf_X13_wrong nn rfl e_v2 hM_h) ?_; intro u4 hM_u4
    exact sm_rI e_a2 hM_u4
set_option maxRecDepth 4000 in
theorem sf_X13_sign (nn : Nat) {a0 : Int32} {y_a0 : Int} (e_a0 : a0.toInt = y_a0) {a1 : Int32} {y_a1 : Int} (e_a1 : a1.toInt = y_a1) {a2 : Int32} {y_a2 : Int} (e_a2 : a2.toInt = y_a2) {h : ms_M} (hM_h : Rg_M h) : Sm_ (RP_ h) (f_X13_sign nn a0 a1 a2 (H_M h)) (qf_X13_sign nn y_a0 y_a1 y_a2 h) := by
  unfold f_X13_sign qf_X13_sign
  refine sm_oq_mul e_a0 rfl ?_; intro v1 y_v1 e_v1
  refine sm_oq_add e_v1 e_a1 ?_; intro v2 y_v2 e_v2
  refine sm_oq_mul e_v2 rfl ?_; intro v3 y_v3 e_v3
  refine sm_oq_add e_v3 e_a2 ?_; intro v4 y_v4 e_v4
  exact sm_rP e_v4
set_option maxRecDepth 4000 in
theorem sf_X13_isWord (nn : Nat) {a1 : Int32} {y_a1 : Int} (e_a1 : a1.toInt = y_a1) {a2 : Int32} {y_a2 : Int} (e_a2 : a2.toInt = y_a2) {h : ms_M} (hM_h : Rg_M h) : Sm_ (RP_ h) (f_X13_isWord nn 160 a1 a2 (H_M h)) (qf_X13_isWord nn y_a1 y_a2 h) := by
  unfold f_X13_isWord qf_X13_isWord
  refine sm_gr hM_h (d := 163) rfl ?_
  refine sm_ai hM_h rfl e_a1 ?_; intro v2 y_v2 e_v2
  refine sm_ne e_v2 rfl ?_ ?_
  · exact sm_rP rfl
  · refine sm_gr hM_h (d := 166) rfl ?_
    refine sm_ai hM_h rfl e_a1 ?_; intro v4 y_v4 e_v4
    refine sm_ne e_v4 e_a2 ?_ ?_
    · exact sm_rP rfl
    · exact sm_rP rfl
set_option maxRecDepth 4000 in
theorem sj_X13_strength_146 (nn : Nat) {h : ms_M} (hM_h : Rg_M h) : Sm_ (RP_ h) (j_X13_strength_146 nn (H_M h)) (qj_X13_strength_146 nn h) := by
  unfold j_X13_strength_146 qj_X13_strength_146
  exact sm_rP rfl
set_option maxRecDepth 4000 in
theorem sf_X13_strength (nn : Nat) {a1 : Int32} {y_a1 : Int} (e_a1 : a1.toInt = y_a1) {h : ms_M} (hM_h : Rg_M h) : Sm_ (RP_ h) (f_X13_strength nn 160 a1 (H_M h)) (qf_X13_strength nn y_a1 h) := by
  unfold f_X13_strength qf_X13_strength
  refine sm_is hM_h rfl ?_
  refine sm_cP (sf_X13_isWord nn e_a1 rfl hM_h) ?_; intro u2 y_u2 e_u2
  refine sm_eq e_u2 rfl ?_ ?_
  · refine sm_gr hM_h (d := 163) rfl ?_
    refine sm_ai hM_h rfl e_a1 ?_; intro v4 y_v4 e_v4
    refine sm_eq e_v4 rfl ?_ ?_
    · refine sm_gr hM_h (d := 166) rfl ?_
      refine sm_ai hM_h rfl e_a1 ?_; intro v6 y_v6 e_v6
      refine sm_cP (sf_X13_sign nn rfl rfl rfl hM_h) ?_; intro u7 y_u7 e_u7
      refine sm_ne e_v6 e_u7 ?_ ?_
      · refine sm_cP (sf_X13_sign nn rfl rfl rfl hM_h) ?_; intro u8 y_u8 e_u8
        refine sm_ne e_v6 e_u8 ?_ ?_
        · refine sm_ne e_v6 rfl ?_ ?_
          · refine sm_ne e_v6 rfl ?_ ?_
            · refine sm_ne e_v6 rfl ?_ ?_
              · refine sm_cP (sf_X13_sign nn rfl rfl rfl hM_h) ?_; intro u9 y_u9 e_u9
                refine sm_eq e_v6 e_u9 ?_ ?_
                · exact sm_rP rfl
                · refine sm_cP (sf_X13_sign nn rfl rfl rfl hM_h) ?_; intro u10 y_u10 e_u10
                  refine sm_ne e_v6 e_u10 ?_ ?_
                  · refine sm_eq e_v6 rfl ?_ ?_
                    · exact sj_X13_strength_146 nn hM_h
                    · refine sm_eq e_v6 rfl ?_ ?_
                      · exact sj_X13_strength_146 nn hM_h
                      · refine sm_cP (sf_X13_sign nn rfl rfl rfl hM_h) ?_; intro u11 y_u11 e_u11
                        refine sm_eq e_v6 e_u11 ?_ ?_
                        · exact sj_X13_strength_146 nn hM_h
                        · refine sm_cP (sf_X13_sign nn rfl rfl rfl hM_h) ?_; intro u12 y_u12 e_u12
                          refine sm_ne e_v6 e_u12 ?_ ?_
                          · refine sm_cP (sf_X13_sign nn rfl rfl rfl hM_h) ?_; intro u13 y_u13 e_u13
                            refine sm_eq e_v6 e_u13 ?_ ?_
                            · exact sm_rP rfl
                            · refine sm_cP (sf_X13_sign nn rfl rfl rfl hM_h) ?_; intro u14 y_u14 e_u14
                              refine sm_eq e_v6 e_u14 ?_ ?_
                              · exact sm_rP rfl
                              · refine sm_cP (sf_X13_sign nn rfl rfl rfl hM_h) ?_; intro u15 y_u15 e_u15
                                refine sm_ne e_v6 e_u15 ?_ ?_
                                · refine sm_eq e_v6 rfl ?_ ?_
                                  · exact sm_rP rfl
                                  · refine sm_ne e_v6 rfl ?_ ?_
                                    · refine sm_eq e_v6 rfl ?_ ?_
                                      · exact sm_rP rfl
                                      · refine sm_eq e_v6 rfl ?_ ?_
                                        · exact sm_rP rfl
                                        · refine sm_ne e_v6 rfl ?_ ?_
                                          · exact sm_rP rfl
                                          · exact sm_rP rfl
                                    · exact sm_rP rfl
                                · exact sm_rP rfl
                          · exact sj_X13_strength_146 nn hM_h
                  · exact sm_rP rfl
              · exact sm_rP rfl
            · exact sm_rP rfl
          · exact sm_rP rfl
        · exact sm_rP rfl
      · exact sm_rP rfl
    · exact sm_rP rfl
  · exact sm_rP rfl
set_option maxRecDepth 4000 in
theorem sj_X13_among_119 (nn : Nat) {kk_6 : Nat → Nat → Int32 → Int32 → Int32 → Int32 → mx_H → Option (Int32 × mx_H)} {qkk_6 : Nat → Int → Int → Int → Int → ms_M → Option Int} (hk_kk_6 : ∀ (l1 : Nat) {l2 : Int32} {y_l2 : Int} (e_l2 : l2.toInt = y_l2) {l3 : Int32} {y_l3 : Int} (e_l3 : l3.toInt = y_l3) {l4 : Int32} {y_l4 : Int} (e_l4 : l4.toInt = y_l4) {l5 : Int32} {y_l5 : Int} (e_l5 : l5.toInt = y_l5) {h : ms_M} (hM_h : Rg_M h), Sm_ (RP_ h) (kk_6 160 l1 l2 l3 l4 l5 (H_M h)) (qkk_6 l1 y_l2 y_l3 y_l4 y_l5 h)) (l1 : Nat) {l2 : Int32} {y_l2 : Int} (e_l2 : l2.toInt = y_l2) {l3 : Int32} {y_l3 : Int} (e_l3 : l3.toInt = y_l3) {l4 : Int32} {y_l4 : Int} (e_l4 : l4.toInt = y_l4) {l5 : Int32} {y_l5 : Int} (e_l5 : l5.toInt = y_l5) {l6 : Int32} {y_l6 : Int} (e_l6 : l6.toInt = y_l6) {h : ms_M} (hM_h : Rg_M h) : Sm_ (RP_ h) (j_X13_among_119 nn kk_6 160 l1 l2 l3 l4 l5 l6 (H_M h)) (qj_X13_among_119 nn qkk_6 l1 y_l2 y_l3 y_l4 y_l5 y_l6 h) := by
  unfold j_X13_among_119 qj_X13_among_119
  refine sm_eq e_l6 rfl ?_ ?_
  · refine sm_oq_add e_l5 rfl ?_; intro v1 y_v1 e_v1
    exact hk_kk_6 _ e_l2 e_l3 e_l4 e_v1 hM_h
  · exact sm_rP e_l4
set_option maxRecDepth 4000 in
theorem sw_X13_among_72 (nn : Nat) {kk_6 : Nat → Nat → Int32 → Int32 → Int32 → Int32 → mx_H → Option (Int32 × mx_H)} {qkk_6 : Nat → Int → Int → Int → Int → ms_M → Option Int} (hk_kk_6 : ∀ (l1 : Nat) {l2 : Int32} {y_l2 : Int} (e_l2 : l2.toInt = y_l2) {l3 : Int32} {y_l3 : Int} (e_l3 : l3.toInt = y_l3) {l4 : Int32} {y_l4 : Int} (e_l4 : l4.toInt = y_l4) {l5 : Int32} {y_l5 : Int} (e_l5 : l5.toInt = y_l5) {h : ms_M} (hM_h : Rg_M h), Sm_ (RP_ h) (kk_6 160 l1 l2 l3 l4 l5 (H_M h)) (qkk_6 l1 y_l2 y_l3 y_l4 y_l5 h)) : ∀ (k : Nat) (l1 : Nat) {l2 : Int32} {y_l2 : Int} (e_l2 : l2.toInt = y_l2) {l3 : Int32} {y_l3 : Int} (e_l3 : l3.toInt = y_l3) {l4 : Int32} {y_l4 : Int} (e_l4 : l4.toInt = y_l4) {l5 : Int32} {y_l5 : Int} (e_l5 : l5.toInt = y_l5) {l6 : Int32} {y_l6 : Int} (e_l6 : l6.toInt = y_l6) {l7 : Int32} {y_l7 : Int} (e_l7 : l7.toInt = y_l7) {h : ms_M} (hM_h : Rg_M h), Sm_ (RP_ h) (w_X13_among_72 nn kk_6 k 160 l1 l2 l3 l4 l5 l6 l7 (H_M h)) (qw_X13_among_72 nn qkk_6 k l1 y_l2 y_l3 y_l4 y_l5 y_l6 y_l7 h) := by
  intro k
  induction k with
  | zero => intros; exact sm_no
  | succ k ih =>
    intro l1 l2 y_l2 e_l2 l3 y_l3 e_l3 l4 y_l4 e_l4 l5 y_l5 e_l5 l6 y_l6 e_l6 l7 y_l7 e_l7 h hM_h
    unfold w_X13_among_72 qw_X13_among_72
    refine sm_le e_l3 e_l7 ?_ ?_
    · exact sj_X13_among_119 nn hk_kk_6 _ e_l2 e_l3 e_l4 e_l5 e_l6 hM_h
    · refine sm_eq e_l6 rfl ?_ ?_
      · exact sj_X13_among_119 nn hk_kk_6 _ e_l2 e_l3 e_l4 e_l5 e_l6 hM_h
      · refine sm_oq_add e_l5 rfl ?_; intro v3 y_v3 e_v3
        refine sm_oq_add e_v3 e_l7 ?_; intro v4 y_v4 e_v4
        refine sm_sc e_v4 ?_; intro v5 y_v5 e_v5
        refine sm_gr hM_h (d := 162) rfl ?_
        refine sm_oq_add e_l2 e_l7 ?_; intro v7 y_v7 e_v7
        refine sm_ai hM_h rfl e_v7 ?_; intro v8 y_v8 e_v8
        refine sm_ne e_v5 e_v8 ?_ ?_
        · refine sm_oq_add e_l7 rfl ?_; intro v9 y_v9 e_v9
          exact ih _ e_l2 e_l3 e_l4 e_l5 rfl e_v9 hM_h
        · refine sm_oq_add e_l7 rfl ?_; intro v10 y_v10 e_v10
          exact ih _ e_l2 e_l3 e_l4 e_l5 rfl e_v10 hM_h
set_option maxRecDepth 4000 in
theorem sj_X13_among_66 (nn : Nat) {kk_6 : Nat → Nat → Int32 → Int32 → Int32 → Int32 → mx_H → Option (Int32 × mx_H)} {qkk_6 : Nat → Int → Int → Int → Int → ms_M → Option Int} (hk_kk_6 : ∀ (l1 : Nat) {l2 : Int32} {y_l2 : Int} (e_l2 : l2.toInt = y_l2) {l3 : Int32} {y_l3 : Int} (e_l3 : l3.toInt = y_l3) {l4 : Int32} {y_l4 : Int} (e_l4 : l4.toInt = y_l4) {l5 : Int32} {y_l5 : Int} (e_l5 : l5.toInt = y_l5) {h : ms_M} (hM_h : Rg_M h), Sm_ (RP_ h) (kk_6 160 l1 l2 l3 l4 l5 (H_M h)) (qkk_6 l1 y_l2 y_l3 y_l4 y_l5 h)) (l1 : Nat) {l2 : Int32} {y_l2 : Int} (e_l2 : l2.toInt = y_l2) {l3 : Int32} {y_l3 : Int} (e_l3 : l3.toInt = y_l3) {l4 : Int32} {y_l4 : Int} (e_l4 : l4.toInt = y_l4) {l5 : Int32} {y_l5 : Int} (e_l5 : l5.toInt = y_l5) {h : ms_M} (hM_h : Rg_M h) : Sm_ (RP_ h) (j_X13_among_66 nn kk_6 160 l1 l2 l3 l4 l5 (H_M h)) (qj_X13_among_66 nn qkk_6 l1 y_l2 y_l3 y_l4 y_l5 h) := by
  unfold j_X13_among_66 qj_X13_among_66
  exact sw_X13_among_72 nn hk_kk_6 nn _ e_l2 e_l3 e_l4 e_l5 rfl rfl hM_h
set_option maxRecDepth 4000 in
theorem sw_X13_among_6 (nn : Nat) : ∀ (k : Nat) (l1 : Nat) {l2 : Int32} {y_l2 : Int} (e_l2 : l2.toInt = y_l2) {l3 : Int32} {y_l3 : Int} (e_l3 : l3.toInt = y_l3) {l4 : Int32} {y_l4 : Int} (e_l4 : l4.toInt = y_l4) {l5 : Int32} {y_l5 : Int} (e_l5 : l5.toInt = y_l5) {h : ms_M} (hM_h : Rg_M h), Sm_ (RP_ h) (w_X13_among_6 nn k 160 l1 l2 l3 l4 l5 (H_M h)) (qw_X13_among_6 nn k l1 y_l2 y_l3 y_l4 y_l5 h) := by
  intro k
  induction k with
  | zero => intros; exact sm_no
  | succ k ih =>
    intro l1 l2 y_l2 e_l2 l3 y_l3 e_l3 l4 y_l4 e_l4 l5 y_l5 e_l5 h hM_h
    unfold w_X13_among_6 qw_X13_among_6
    refine sm_oq_add e_l5 rfl ?_; intro v14 y_v14 e_v14
    refine sm_sl ?_; intro v15 y_v15 e_v15
    refine sm_le e_v15 e_v14 ?_ ?_
    · exact sm_rP rfl
    · refine sm_sc e_l5 ?_; intro v16 y_v16 e_v16
      refine sm_eq e_v16 rfl ?_ ?_
      · refine sm_oq_add e_l4 rfl ?_; intro v17 y_v17 e_v17
        refine sm_oq_add e_l5 e_l3 ?_; intro v18 y_v18 e_v18
        refine sm_oq_add e_v18 rfl ?_; intro v19 y_v19 e_v19
        refine sm_sl ?_; intro v20 y_v20 e_v20
        refine sm_le e_v20 e_v19 ?_ ?_
        · exact sj_X13_among_66 nn ih _ e_l2 e_l3 e_v17 e_l5 hM_h
        · refine sm_oq_add e_l5 e_l3 ?_; intro v21 y_v21 e_v21
          refine sm_oq_add e_v21 rfl ?_; intro v22 y_v22 e_v22
          refine sm_sc e_v22 ?_; intro v23 y_v23 e_v23
          refine sm_ne e_v23 rfl ?_ ?_
          · exact sj_X13_among_66 nn ih _ e_l2 e_l3 e_v17 e_l5 hM_h
          · exact sw_X13_among_72 nn ih nn _ e_l2 e_l3 e_v17 e_l5 rfl rfl hM_h
      · refine sm_oq_add e_l5 rfl ?_; intro v26 y_v26 e_v26
        exact ih _ e_l2 e_l3 e_l4 e_v26 hM_h
set_option maxRecDepth 4000 in
theorem sf_X13_among (nn : Nat) (a1 : Nat) {a2 : Int32} {y_a2 : Int} (e_a2 : a2.toInt = y_a2) {a3 : Int32} {y_a3 : Int} (e_a3 : a3.toInt = y_a3) {h : ms_M} (hM_h : Rg_M h) : Sm_ (RP_ h) (f_X13_among nn 160 a1 a2 a3 (H_M h)) (qf_X13_among nn a1 y_a2 y_a3 h) := by
  unfold f_X13_among qf_X13_among
  exact sw_X13_among_6 nn nn _ e_a2 e_a3 rfl rfl hM_h
set_option maxRecDepth 4000 in
theorem sw_X13_classOf_28 (nn : Nat) : ∀ (k : Nat) {l1 : Int32} {y_l1 : Int} (e_l1 : l1.toInt = y_l1) {l3 : Int32} {y_l3 : Int} (e_l3 : l3.toInt = y_l3) {h : ms_M} (hM_h : Rg_M h), Sm_ (RP_ h) (w_X13_classOf_28 nn k 160 l1 l3 (H_M h)) (qw_X13_classOf_28 nn k y_l1 y_l3 h) := by
  intro k
  induction k with
  | zero => intros; exact sm_no
  | succ k ih =>
    intro l1 y_l1 e_l1 l3 y_l3 e_l3 h hM_h
    unfold w_X13_classOf_28 qw_X13_classOf_28
    refine sm_gi hM_h rfl ?_; intro v1 e_v1
    refine sm_le e_v1 e_l3 ?_ ?_
    · exact sm_rP rfl
    · refine sm_gr hM_h (d := 178) rfl ?_
      refine sm_ai hM_h rfl e_l3 ?_; intro v3 y_v3 e_v3
      refine sm_is hM_h rfl ?_
      refine sm_cP (sf_X13_isLike nn e_v3 e_l1 hM_h) ?_; intro u5 y_u5 e_u5
      refine sm_eq e_u5 rfl ?_ ?_
      · refine sm_oq_add e_l3 rfl ?_; intro v6 y_v6 e_v6
        exact ih e_l1 e_v6 hM_h
      · refine sm_oq_add rfl e_l3 ?_; intro v7 y_v7 e_v7
        exact sm_rP e_v7
set_option maxRecDepth 4000 in
theorem sf_X13_classOf (nn : Nat) {a1 : Int32} {y_a1 : Int} (e_a1 : a1.toInt = y_a1) {h : ms_M} (hM_h : Rg_M h) : Sm_ (RP_ h) (f_X13_classOf nn 160 a1 (H_M h)) (qf_X13_classOf nn y_a1 h) := by
  unfold f_X13_classOf qf_X13_classOf
  refine sm_gr hM_h (d := 164) rfl ?_
  refine sm_ai hM_h rfl e_a1 ?_; intro v11 y_v11 e_v11
  refine sm_gr hM_h (d := 165) rfl ?_
  refine sm_ai hM_h rfl e_a1 ?_; intro v13 y_v13 e_v13
  refine sm_is hM_h rfl ?_
  refine sm_cP (sf_X13_among nn _ e_v11 e_v13 hM_h) ?_; intro u15 y_u15 e_u15
  refine sm_lt e_u15 rfl ?_ ?_
  · exact sw_X13_classOf_28 nn nn e_a1 rfl hM_h
  · exact sm_rP e_u15
set_option maxRecDepth 4000 in
theorem sf_X13_isThing (nn : Nat) {a0 : Int32} {y_a0 : Int} (e_a0 : a0.toInt = y_a0) {h : ms_M} (hM_h : Rg_M h) : Sm_ (RP_ h) (f_X13_isThing nn a0 (H_M h)) (qf_X13_isThing nn y_a0 h) := by
  unfold f_X13_isThing qf_X13_isThing
  refine sm_eq e_a0 rfl ?_ ?_
  · exact sm_rP rfl
  · refine sm_eq e_a0 rfl ?_ ?_
    · exact sm_rP rfl
    · refine sm_lt e_a0 rfl ?_ ?_
      · exact sm_rP rfl
      · exact sm_rP rfl
set_option maxRecDepth 4000 in
theorem sj_X13_field_151 (nn : Nat) {l1 : Int32} {y_l1 : Int} (e_l1 : l1.toInt = y_l1) {l3 : Int32} {y_l3 : Int} (e_l3 : l3.toInt = y_l3) {h : ms_M} (hM_h : Rg_M h) : Sm_ RI_ (j_X13_field_151 nn 160 l1 l3 (H_M h)) (qj_X13_field_151 nn y_l1 y_l3 h) := by
  unfold j_X13_field_151 qj_X13_field_151
  refine sm_gr hM_h (d := 175) rfl ?_
  refine sm_si hM_h rfl e_l1 e_l3 ?_; intro h2 hM_h2
  refine sm_ne e_l3 rfl ?_ ?_
  · refine sm_gr hM_h2 (d := 187) rfl ?_
    refine sm_ai hM_h2 rfl e_l3 ?_; intro v4 y_v4 e_v4
    exact sm_rI e_v4 hM_h2
  · exact sm_rI rfl hM_h2
set_option maxRecDepth 4000 in
theorem sj_X13_field_99 (nn : Nat) {l1 : Int32} {y_l1 : Int} (e_l1 : l1.toInt = y_l1) {s0 : Int32} {y_s0 : Int} (e_s0 : s0.toInt = y_s0) {h : ms_M} (hM_h : Rg_M h) : Sm_ RI_ (j_X13_field_99 nn 160 l1 s0 (H_M h)) (qj_X13_field_99 nn y_l1 y_s0 h) := by
  unfold j_X13_field_99 qj_X13_field_99
  refine sm_ne e_s0 rfl ?_ ?_
  · exact sm_rI rfl hM_h
  · refine sm_gr hM_h (d := 168) rfl ?_
    refine sm_ai hM_h rfl e_l1 ?_; intro v7 y_v7 e_v7
    refine sm_is hM_h rfl ?_
    refine sm_cV (sf_X13_wrong nn rfl e_v7 hM_h) ?_; intro u9 hM_u9
    exact sm_rI rfl hM_u9
set_option maxRecDepth 4000 in
theorem sj_X13_field_98 (nn : Nat) {l1 : Int32} {y_l1 : Int} (e_l1 : l1.toInt = y_l1) {h : ms_M} (hM_h : Rg_M h) : Sm_ RI_ (j_X13_field_98 nn 160 l1 (H_M h)) (qj_X13_field_98 nn y_l1 h) := by
  unfold j_X13_field_98 qj_X13_field_98
  exact sj_X13_field_99 nn e_l1 rfl hM_h
set_option maxRecDepth 4000 in
theorem sj_X13_field_27 (nn : Nat) {l1 : Int32} {y_l1 : Int} (e_l1 : l1.toInt = y_l1) {h : ms_M} (hM_h : Rg_M h) : Sm_ RI_ (j_X13_field_27 nn 160 l1 (H_M h)) (qj_X13_field_27 nn y_l1 h) := by
  unfold j_X13_field_27 qj_X13_field_27
  refine sm_gr hM_h (d := 172) rfl ?_
  refine sm_ai hM_h rfl e_l1 ?_; intro v12 y_v12 e_v12
  refine sm_is hM_h rfl ?_
  refine sm_cV (sf_X13_wrong nn rfl e_v12 hM_h) ?_; intro u14 hM_u14
  exact sm_rI rfl hM_u14
set_option maxRecDepth 4000 in
theorem sf_X13_field (nn : Nat) {a1 : Int32} {y_a1 : Int} (e_a1 : a1.toInt = y_a1) {h : ms_M} (hM_h : Rg_M h) : Sm_ RI_ (f_X13_field nn 160 a1 (H_M h)) (qf_X13_field nn y_a1 h) := by
  unfold f_X13_field qf_X13_field
  refine sm_is hM_h rfl ?_
  refine sm_cI (sf_X13_led nn e_a1 hM_h) ?_; intro u16 y_u16 M_u16 e_u16 hM_u16
  refine sm_gi hM_u16 rfl ?_; intro v17 e_v17
  refine sm_eq e_v17 rfl ?_ ?_
  · refine sm_eq e_u16 rfl ?_ ?_
    · exact sj_X13_field_27 nn e_a1 hM_u16
    · refine sm_cP (sf_X13_isThing nn e_u16 hM_u16) ?_; intro u18 y_u18 e_u18
      refine sm_ne e_u18 rfl ?_ ?_
      · refine sm_cP (sf_X13_isArray nn e_u16 hM_u16) ?_; intro u19 y_u19 e_u19
        refine sm_eq e_u19 rfl ?_ ?_
        · refine sm_oq_sub e_u16 rfl ?_; intro v20 y_v20 e_v20
          refine sm_div e_v20 ⟨rfl, by decide⟩ ?_; intro v21 y_v21 e_v21
          refine sm_gr hM_u16 (d := 168) rfl ?_
          refine sm_ai hM_u16 rfl e_a1 ?_; intro v23 y_v23 e_v23
          refine sm_is hM_u16 rfl ?_
          refine sm_cP (sf_X13_memberOf nn e_v21 e_v23 rfl hM_u16) ?_; intro u25 y_u25 e_u25
          refine sm_ne e_u25 rfl ?_ ?_
          · exact sj_X13_field_151 nn e_a1 e_u25 hM_u16
          · refine sm_gr hM_u16 (d := 168) rfl ?_
            refine sm_ai hM_u16 rfl e_a1 ?_; intro v27 y_v27 e_v27
            refine sm_is hM_u16 rfl ?_
            refine sm_cV (sf_X13_wrong nn rfl e_v27 hM_u16) ?_; intro u29 hM_u29
            exact sj_X13_field_151 nn e_a1 e_u25 hM_u29
        · refine sm_gr hM_u16 (d := 175) rfl ?_
          refine sm_si hM_u16 rfl e_a1 rfl ?_; intro h32 hM_h32
          refine sm_gr hM_h32 (d := 165) rfl ?_
          refine sm_gr hM_h32 (d := 168) rfl ?_
          refine sm_ai hM_h32 rfl e_a1 ?_; intro v35 y_v35 e_v35
          refine sm_ai hM_h32 rfl e_v35 ?_; intro v36 y_v36 e_v36
          refine sm_ne e_v36 rfl ?_ ?_
          · exact sj_X13_field_98 nn e_a1 hM_h32
          · refine sm_gr hM_h32 (d := 164) rfl ?_
            refine sm_gr hM_h32 (d := 168) rfl ?_
            refine sm_ai hM_h32 rfl e_a1 ?_; intro v39 y_v39 e_v39
            refine sm_ai hM_h32 rfl e_v39 ?_; intro v40 y_v40 e_v40
            refine sm_is hM_h32 rfl ?_
            refine sm_cP (sf_X13_among nn _ e_v40 rfl hM_h32) ?_; intro u42 y_u42 e_u42
            refine sm_ne e_u42 rfl ?_ ?_
            · exact sj_X13_field_98 nn e_a1 hM_h32
            · exact sj_X13_field_99 nn e_a1 rfl hM_h32
      · exact sj_X13_field_27 nn e_a1 hM_u16
  · exact sm_rI rfl hM_u16
set_option maxRecDepth 4000 in
theorem sf_X13_local (nn : Nat) {a1 : Int32} {y_a1 : Int} (e_a1 : a1.toInt = y_a1) {h : ms_M} (hM_h : Rg_M h) : Sm_ (RP_ h) (f_X13_local nn 160 a1 (H_M h)) (qf_X13_local nn y_a1 h) := by
  unfold f_X13_local qf_X13_local
  refine sm_gi hM_h rfl ?_; intro v1 e_v1
  refine sm_eq e_v1 rfl ?_ ?_
  · refine sm_oq_add e_a1 rfl ?_; intro v2 y_v2 e_v2
    exact sm_rP e_v2
  · exact sm_rP e_a1
set_option maxRecDepth 4000 in
theorem sj_X13_named_95 (nn : Nat) {l1 : Int32} {y_l1 : Int} (e_l1 : l1.toInt = y_l1) {l3 : Int32} {y_l3 : Int} (e_l3 : l3.toInt = y_l3) {h : ms_M} (hM_h : Rg_M h) : Sm_ RI_ (j_X13_named_95 nn 160 l1 l3 (H_M h)) (qj_X13_named_95 nn y_l1 y_l3 h) := by
  unfold j_X13_named_95 qj_X13_named_95
  refine sm_gr hM_h (d := 175) rfl ?_
  refine sm_si hM_h rfl e_l1 e_l3 ?_; intro h2 hM_h2
  refine sm_ne e_l3 rfl ?_ ?_
  · refine sm_gr hM_h2 (d := 187) rfl ?_
    refine sm_ai hM_h2 rfl e_l3 ?_; intro v4 y_v4 e_v4
    exact sm_rI e_v4 hM_h2
  · exact sm_rI rfl hM_h2
set_option maxRecDepth 4000 in
theorem sf_X13_named (nn : Nat) {a1 : Int32} {y_a1 : Int} (e_a1 : a1.toInt = y_a1) {h : ms_M} (hM_h : Rg_M h) : Sm_ RI_ (f_X13_named nn 160 a1 (H_M h)) (qf_X13_named nn y_a1 h) := by
  unfold f_X13_named qf_X13_named
  refine sm_gr hM_h (d := 168) rfl ?_
  refine sm_ai hM_h rfl e_a1 ?_; intro v7 y_v7 e_v7
  refine sm_is hM_h rfl ?_
  refine sm_cP (sf_X13_sightOf nn e_v7 hM_h) ?_; intro u9 y_u9 e_u9
  refine sm_eq e_u9 rfl ?_ ?_
  · refine sm_gi hM_h rfl ?_; intro v10 e_v10
    refine sm_gr hM_h (d := 168) rfl ?_
    refine sm_ai hM_h rfl e_a1 ?_; intro v12 y_v12 e_v12
    refine sm_is hM_h rfl ?_
    refine sm_cP (sf_X13_memberOf nn e_v10 e_v12 rfl hM_h) ?_; intro u14 y_u14 e_u14
    refine sm_ne e_u14 rfl ?_ ?_
    · refine sm_gi hM_h rfl ?_; intro v15 e_v15
      refine sm_eq e_v15 rfl ?_ ?_
      · exact sj_X13_named_95 nn e_a1 e_u14 hM_h
      · refine sm_gr hM_h (d := 168) rfl ?_
        refine sm_ai hM_h rfl e_a1 ?_; intro v17 y_v17 e_v17
        refine sm_is hM_h rfl ?_
        refine sm_cV (sf_X13_wrong nn rfl e_v17 hM_h) ?_; intro u19 hM_u19
        exact sj_X13_named_95 nn e_a1 e_u14 hM_u19
    · refine sm_gr hM_h (d := 168) rfl ?_
      refine sm_ai hM_h rfl e_a1 ?_; intro v22 y_v22 e_v22
      refine sm_is hM_h rfl ?_
      refine sm_cV (sf_X13_wrong nn rfl e_v22 hM_h) ?_; intro u24 hM_u24
      exact sj_X13_named_95 nn e_a1 e_u14 hM_u24
  · refine sm_gr hM_h (d := 175) rfl ?_
    refine sm_si hM_h rfl e_a1 rfl ?_; intro h27 hM_h27
    refine sm_gr hM_h27 (d := 176) rfl ?_
    refine sm_is hM_h27 rfl ?_
    refine sm_cP (sf_X13_local nn e_u9 hM_h27) ?_; intro u30 y_u30 e_u30
    refine sm_si hM_h27 rfl e_a1 e_u30 ?_; intro h31 hM_h31
    refine sm_gr hM_h31 (d := 197) rfl ?_
    refine sm_ai hM_h31 rfl e_u9 ?_; intro v33 y_v33 e_v33
    exact sm_rI e_v33 hM_h31
def hg_X13_condition (frc : tg_X13_condition) (rc : tq_X13_condition) : Prop := (∀ {a1 : Int32} {y_a1 : Int} (e_a1 : a1.toInt = y_a1) {h : ms_M} (hM_h : Rg_M h), Sm_ RV_ (frc.1 160 a1 (H_M h)) (rc.1 y_a1 h)) ∧ (∀ {a1 : Int32} {y_a1 : Int} (e_a1 : a1.toInt = y_a1) {h : ms_M} (hM_h : Rg_M h), Sm_ RI_ (frc.2.1 160 a1 (H_M h)) (rc.2.1 y_a1 h)) ∧ (∀ {a1 : Int32} {y_a1 : Int} (e_a1 : a1.toInt = y_a1) {h : ms_M} (hM_h : Rg_M h), Sm_ RI_ (frc.2.2.1 160 a1 (H_M h)) (rc.2.2.1 y_a1 h)) ∧ (∀ {a1 : Int32} {y_a1 : Int} (e_a1 : a1.toInt = y_a1) {h : ms_M} (hM_h : Rg_M h), Sm_ RI_ (frc.2.2.2.1 160 a1 (H_M h)) (rc.2.2.2.1 y_a1 h)) ∧ (∀ {a1 : Int32} {y_a1 : Int} (e_a1 : a1.toInt = y_a1) {h : ms_M} (hM_h : Rg_M h), Sm_ RI_ (frc.2.2.2.2.1 160 a1 (H_M h)) (rc.2.2.2.2.1 y_a1 h)) ∧ (∀ {a1 : Int32} {y_a1 : Int} (e_a1 : a1.toInt = y_a1) {h : ms_M} (hM_h : Rg_M h), Sm_ RI_ (frc.2.2.2.2.2.1 160 a1 (H_M h)) (rc.2.2.2.2.2.1 y_a1 h)) ∧ (∀ {a1 : Int32} {y_a1 : Int} (e_a1 : a1.toInt = y_a1) {a2 : Int32} {y_a2 : Int} (e_a2 : a2.toInt = y_a2) {a3 : Int32} {y_a3 : Int} (e_a3 : a3.toInt = y_a3) {h : ms_M} (hM_h : Rg_M h), Sm_ RI_ (frc.2.2.2.2.2.2 160 a1 a2 a3 (H_M h)) (rc.2.2.2.2.2.2 y_a1 y_a2 y_a3 h))
set_option maxRecDepth 4000 in
theorem so_X13_condition (nn : Nat) {frc : tg_X13_condition} {rc : tq_X13_condition} (hr : hg_X13_condition frc rc) {a1 : Int32} {y_a1 : Int} (e_a1 : a1.toInt = y_a1) {h : ms_M} (hM_h : Rg_M h) : Sm_ RV_ (o_X13_condition nn frc 160 a1 (H_M h)) (qo_X13_condition nn rc y_a1 h) := by
  unfold o_X13_condition qo_X13_condition
  refine sm_is hM_h rfl ?_
  refine sm_cI (hr.2.1 e_a1 hM_h) ?_; intro u2 y_u2 M_u2 e_u2 hM_u2
  refine sm_eq e_u2 rfl ?_ ?_
  · exact sm_rV hM_u2
  · refine sm_gr hM_u2 (d := 169) rfl ?_
    refine sm_ai hM_u2 rfl e_a1 ?_; intro v4 y_v4 e_v4
    refine sm_is hM_u2 rfl ?_
    refine sm_cV (sf_X13_wrong nn rfl e_v4 hM_u2) ?_; intro u6 hM_u6
    exact sm_rV hM_u6
set_option maxRecDepth 4000 in
theorem so_X13_given (nn : Nat) {frc : tg_X13_condition} {rc : tq_X13_condition} (hr : hg_X13_condition frc rc) {a1 : Int32} {y_a1 : Int} (e_a1 : a1.toInt = y_a1) {h : ms_M} (hM_h : Rg_M h) : Sm_ RI_ (o_X13_given nn frc 160 a1 (H_M h)) (qo_X13_given nn rc y_a1 h) := by
  unfold o_X13_given qo_X13_given
  refine sm_is hM_h rfl ?_
  refine sm_cI (hr.2.2.1 e_a1 hM_h) ?_; intro u2 y_u2 M_u2 e_u2 hM_u2
  refine sm_ne e_u2 rfl ?_ ?_
  · exact sm_rI e_u2 hM_u2
  · refine sm_gr hM_u2 (d := 168) rfl ?_
    refine sm_ai hM_u2 rfl e_a1 ?_; intro v4 y_v4 e_v4
    refine sm_is hM_u2 rfl ?_
    refine sm_cV (sf_X13_wrong nn rfl e_v4 hM_u2) ?_; intro u6 hM_u6
    exact sm_rI e_u2 hM_u6
set_option maxRecDepth 4000 in
theorem sw_X13_worked_65 (nn : Nat) {frc : tg_X13_condition} {rc : tq_X13_condition} (hr : hg_X13_condition frc rc) : ∀ (k : Nat) {l1 : Int32} {y_l1 : Int} (e_l1 : l1.toInt = y_l1) {l2 : Int32} {y_l2 : Int} (e_l2 : l2.toInt = y_l2) {h : ms_M} (hM_h : Rg_M h), Sm_ RI_ (w_X13_worked_65 nn frc k 160 l1 l2 (H_M h)) (qw_X13_worked_65 nn rc k y_l1 y_l2 h) := by
  intro k
  induction k with
  | zero => intros; exact sm_no
  | succ k ih =>
    intro l1 y_l1 e_l1 l2 y_l2 e_l2 h hM_h
    unfold w_X13_worked_65 qw_X13_worked_65
    refine sm_gi hM_h rfl ?_; intro v1 e_v1
    refine sm_le e_v1 e_l2 ?_ ?_
    · refine sm_pv hM_h rfl e_l2 ?_; intro h2 hM_h2
      refine sm_gi hM_h2 rfl ?_; intro v3 e_v3
      refine sm_eq e_v3 rfl ?_ ?_
      · refine sm_gr hM_h2 (d := 174) rfl ?_
        refine sm_ai hM_h2 rfl e_l1 ?_; intro v5 y_v5 e_v5
        exact sm_rI e_v5 hM_h2
      · exact sm_rI rfl hM_h2
    · refine sm_gi hM_h rfl ?_; intro v7 e_v7
      refine sm_oq_sub e_v7 rfl ?_; intro v8 y_v8 e_v8
      refine sm_pv hM_h rfl e_v8 ?_; intro h9 hM_h9
      refine sm_gr hM_h9 (d := 199) rfl ?_
      refine sm_gi hM_h9 rfl ?_; intro v11 e_v11
      refine sm_ai hM_h9 rfl e_v11 ?_; intro v12 y_v12 e_v12
      refine sm_gr hM_h9 (d := 174) rfl ?_
      refine sm_gi hM_h9 rfl ?_; intro v14 e_v14
      refine sm_eq e_v14 rfl ?_ ?_
      · refine sm_is hM_h9 rfl ?_
        refine sm_cI (hr.2.2.2.1 e_v12 hM_h9) ?_; intro u16 y_u16 M_u16 e_u16 hM_u16
        refine sm_si hM_u16 rfl e_v12 e_u16 ?_; intro h17 hM_h17
        exact ih e_l1 e_l2 hM_h17
      · refine sm_si hM_h9 rfl e_v12 rfl ?_; intro h18 hM_h18
        exact ih e_l1 e_l2 hM_h18
set_option maxRecDepth 4000 in
theorem sw_X13_worked_16 (nn : Nat) {frc : tg_X13_condition} {rc : tq_X13_condition} (hr : hg_X13_condition frc rc) : ∀ (k : Nat) {l1 : Int32} {y_l1 : Int} (e_l1 : l1.toInt = y_l1) {l2 : Int32} {y_l2 : Int} (e_l2 : l2.toInt = y_l2) {l3 : Int32} {y_l3 : Int} (e_l3 : l3.toInt = y_l3) {h : ms_M} (hM_h : Rg_M h), Sm_ RI_ (w_X13_worked_16 nn frc k 160 l1 l2 l3 (H_M h)) (qw_X13_worked_16 nn rc k y_l1 y_l2 y_l3 h) := by
  intro k
  induction k with
  | zero => intros; exact sm_no
  | succ k ih =>
    intro l1 y_l1 e_l1 l2 y_l2 e_l2 l3 y_l3 e_l3 h hM_h
    unfold w_X13_worked_16 qw_X13_worked_16
    refine sm_is hM_h rfl ?_
    refine sm_cP (sf_X13_isLed nn e_l3 hM_h) ?_; intro u22 y_u22 e_u22
    refine sm_eq e_u22 rfl ?_ ?_
    · refine sm_gr hM_h (d := 174) rfl ?_
      refine sm_is hM_h rfl ?_
      refine sm_cI (hr.2.2.2.1 e_l3 hM_h) ?_; intro u25 y_u25 M_u25 e_u25 hM_u25
      refine sm_si hM_u25 rfl e_l3 e_u25 ?_; intro h26 hM_h26
      exact sw_X13_worked_65 nn hr nn e_l1 e_l2 hM_h26
    · refine sm_gr hM_h (d := 199) rfl ?_
      refine sm_gi hM_h rfl ?_; intro v28 e_v28
      refine sm_si hM_h rfl e_v28 e_l3 ?_; intro h29 hM_h29
      refine sm_gi hM_h29 rfl ?_; intro v30 e_v30
      refine sm_oq_add e_v30 rfl ?_; intro v31 y_v31 e_v31
      refine sm_pv hM_h29 rfl e_v31 ?_; intro h32 hM_h32
      refine sm_gr hM_h32 (d := 170) rfl ?_
      refine sm_ai hM_h32 rfl e_l3 ?_; intro v34 y_v34 e_v34
      exact ih e_l1 e_l2 e_v34 hM_h32
set_option maxRecDepth 4000 in
theorem so_X13_worked (nn : Nat) {frc : tg_X13_condition} {rc : tq_X13_condition} (hr : hg_X13_condition frc rc) {a1 : Int32} {y_a1 : Int} (e_a1 : a1.toInt = y_a1) {h : ms_M} (hM_h : Rg_M h) : Sm_ RI_ (o_X13_worked nn frc 160 a1 (H_M h)) (qo_X13_worked nn rc y_a1 h) := by
  unfold o_X13_worked qo_X13_worked
  refine sm_gi hM_h rfl ?_; intro v36 e_v36
  refine sm_eq e_v36 rfl ?_ ?_
  · refine sm_gi hM_h rfl ?_; intro v37 e_v37
    exact sw_X13_worked_16 nn hr nn e_a1 e_v37 e_a1 hM_h
  · exact sm_rI rfl hM_h
set_option maxRecDepth 4000 in
theorem sj_X13_rule_657 (nn : Nat) {frc : tg_X13_condition} {rc : tq_X13_condition} (hr : hg_X13_condition frc rc) {l2 : Int32} {y_l2 : Int} (e_l2 : l2.toInt = y_l2) {l3 : Int32} {y_l3 : Int} (e_l3 : l3.toInt = y_l3) {h : ms_M} (hM_h : Rg_M h) : Sm_ RI_ (j_X13_rule_657 nn frc 160 l2 l3 (H_M h)) (qj_X13_rule_657 nn rc y_l2 y_l3 h) := by
  unfold j_X13_rule_657 qj_X13_rule_657
  refine sm_is hM_h rfl ?_
  refine sm_cP (sf_X13_fits nn e_l2 e_l3 hM_h) ?_; intro u2 y_u2 e_u2
  refine sm_eq e_u2 rfl ?_ ?_
  · exact sm_rI e_l2 hM_h
  · exact sm_rI e_l3 hM_h
set_option maxRecDepth 4000 in
theorem sj_X13_rule_574 (nn : Nat) {frc : tg_X13_condition} {rc : tq_X13_condition} (hr : hg_X13_condition frc rc) {l1 : Int32} {y_l1 : Int} (e_l1 : l1.toInt = y_l1) {l3 : Int32} {y_l3 : Int} (e_l3 : l3.toInt = y_l3) {h : ms_M} (hM_h : Rg_M h) : Sm_ RI_ (j_X13_rule_574 nn frc 160 l1 l3 (H_M h)) (qj_X13_rule_574 nn rc y_l1 y_l3 h) := by
  unfold j_X13_rule_574 qj_X13_rule_574
  refine sm_gr hM_h (d := 176) rfl ?_
  refine sm_si hM_h rfl e_l1 e_l3 ?_; intro h5 hM_h5
  refine sm_gr hM_h5 (d := 167) rfl ?_
  refine sm_ai hM_h5 rfl e_l1 ?_; intro v7 y_v7 e_v7
  refine sm_ne e_v7 rfl ?_ ?_
  · exact sm_rI e_l3 hM_h5
  · exact sm_rI rfl hM_h5
set_option maxRecDepth 4000 in
theorem sj_X13_rule_562 (nn : Nat) {frc : tg_X13_condition} {rc : tq_X13_condition} (hr : hg_X13_condition frc rc) {l1 : Int32} {y_l1 : Int} (e_l1 : l1.toInt = y_l1) {l3 : Int32} {y_l3 : Int} (e_l3 : l3.toInt = y_l3) {h : ms_M} (hM_h : Rg_M h) : Sm_ RI_ (j_X13_rule_562 nn frc 160 l1 l3 (H_M h)) (qj_X13_rule_562 nn rc y_l1 y_l3 h) := by
  unfold j_X13_rule_562 qj_X13_rule_562
  refine sm_gr hM_h (d := 168) rfl ?_
  refine sm_ai hM_h rfl e_l1 ?_; intro v10 y_v10 e_v10
  refine sm_is hM_h rfl ?_
  refine sm_cV (sf_X13_wrong nn rfl e_v10 hM_h) ?_; intro u12 hM_u12
  exact sj_X13_rule_574 nn hr e_l1 e_l3 hM_u12
set_option maxRecDepth 4000 in
theorem sj_X13_rule_539 (nn : Nat) {frc : tg_X13_condition} {rc : tq_X13_condition} (hr : hg_X13_condition frc rc) {l1 : Int32} {y_l1 : Int} (e_l1 : l1.toInt = y_l1) {l2 : Int32} {y_l2 : Int} (e_l2 : l2.toInt = y_l2) {l3 : Int32} {y_l3 : Int} (e_l3 : l3.toInt = y_l3) {h : ms_M} (hM_h : Rg_M h) : Sm_ RI_ (j_X13_rule_539 nn frc 160 l1 l2 l3 (H_M h)) (qj_X13_rule_539 nn rc y_l1 y_l2 y_l3 h) := by
  unfold j_X13_rule_539 qj_X13_rule_539
  refine sm_oq_mul rfl e_l3 ?_; intro v13 y_v13 e_v13
  refine sm_oq_add rfl e_v13 ?_; intro v14 y_v14 e_v14
  refine sm_cP (sf_X13_isThing nn e_l2 hM_h) ?_; intro u15 y_u15 e_u15
  refine sm_eq e_u15 rfl ?_ ?_
  · exact sj_X13_rule_562 nn hr e_l1 e_v14 hM_h
  · refine sm_is hM_h rfl ?_
    refine sm_cP (sf_X13_goTogether nn e_l2 e_v14 hM_h) ?_; intro u17 y_u17 e_u17
    refine sm_ne e_u17 rfl ?_ ?_
    · exact sj_X13_rule_574 nn hr e_l1 e_v14 hM_h
    · exact sj_X13_rule_562 nn hr e_l1 e_v14 hM_h
set_option maxRecDepth 4000 in
theorem sj_X13_rule_522 (nn : Nat) {frc : tg_X13_condition} {rc : tq_X13_condition} (hr : hg_X13_condition frc rc) {l1 : Int32} {y_l1 : Int} (e_l1 : l1.toInt = y_l1) {l3 : Int32} {y_l3 : Int} (e_l3 : l3.toInt = y_l3) {s0 : Int32} {y_s0 : Int} (e_s0 : s0.toInt = y_s0) {h : ms_M} (hM_h : Rg_M h) : Sm_ RI_ (j_X13_rule_522 nn frc 160 l1 l3 s0 (H_M h)) (qj_X13_rule_522 nn rc y_l1 y_l3 y_s0 h) := by
  unfold j_X13_rule_522 qj_X13_rule_522
  refine sm_ne e_l3 rfl ?_ ?_
  · exact sj_X13_rule_539 nn hr e_l1 e_s0 e_l3 hM_h
  · refine sm_gr hM_h (d := 168) rfl ?_
    refine sm_ai hM_h rfl e_l1 ?_; intro v21 y_v21 e_v21
    refine sm_is hM_h rfl ?_
    refine sm_cV (sf_X13_wrong nn rfl e_v21 hM_h) ?_; intro u23 hM_u23
    exact sj_X13_rule_539 nn hr e_l1 e_s0 e_l3 hM_u23
set_option maxRecDepth 4000 in
theorem sj_X13_rule_493 (nn : Nat) {frc : tg_X13_condition} {rc : tq_X13_condition} (hr : hg_X13_condition frc rc) {l1 : Int32} {y_l1 : Int} (e_l1 : l1.toInt = y_l1) {l3 : Int32} {y_l3 : Int} (e_l3 : l3.toInt = y_l3) {h : ms_M} (hM_h : Rg_M h) : Sm_ RI_ (j_X13_rule_493 nn frc 160 l1 l3 (H_M h)) (qj_X13_rule_493 nn rc y_l1 y_l3 h) := by
  unfold j_X13_rule_493 qj_X13_rule_493
  refine sm_gr hM_h (d := 167) rfl ?_
  refine sm_ai hM_h rfl e_l1 ?_; intro v26 y_v26 e_v26
  refine sm_ne e_v26 rfl ?_ ?_
  · refine sm_is hM_h rfl ?_
    refine sm_cI (sf_X13_led nn e_l1 hM_h) ?_; intro u28 y_u28 M_u28 e_u28 hM_u28
    exact sj_X13_rule_522 nn hr e_l1 e_l3 e_u28 hM_u28
  · refine sm_gr hM_h (d := 170) rfl ?_
    refine sm_ai hM_h rfl e_l1 ?_; intro v30 y_v30 e_v30
    refine sm_is hM_h rfl ?_
    refine sm_cI (hr.2.1 e_v30 hM_h) ?_; intro u32 y_u32 M_u32 e_u32 hM_u32
    exact sj_X13_rule_522 nn hr e_l1 e_l3 e_u32 hM_u32
set_option maxRecDepth 4000 in
theorem sj_X13_rule_455 (nn : Nat) {frc : tg_X13_condition} {rc : tq_X13_condition} (hr : hg_X13_condition frc rc) {l1 : Int32} {y_l1 : Int} (e_l1 : l1.toInt = y_l1) {h : ms_M} (hM_h : Rg_M h) : Sm_ RI_ (j_X13_rule_455 nn frc 160 l1 (H_M h)) (qj_X13_rule_455 nn rc y_l1 h) := by
  unfold j_X13_rule_455 qj_X13_rule_455
  refine sm_gr hM_h (d := 168) rfl ?_
  refine sm_ai hM_h rfl e_l1 ?_; intro v35 y_v35 e_v35
  refine sm_is hM_h rfl ?_
  refine sm_cP (sf_X13_classOf nn e_v35 hM_h) ?_; intro u37 y_u37 e_u37
  refine sm_ne e_u37 rfl ?_ ?_
  · exact sj_X13_rule_493 nn hr e_l1 e_u37 hM_h
  · refine sm_gr hM_h (d := 167) rfl ?_
    refine sm_ai hM_h rfl e_l1 ?_; intro v39 y_v39 e_v39
    refine sm_ne e_v39 rfl ?_ ?_
    · exact sj_X13_rule_493 nn hr e_l1 e_u37 hM_h
    · refine sm_gr hM_h (d := 168) rfl ?_
      refine sm_ai hM_h rfl e_l1 ?_; intro v41 y_v41 e_v41
      refine sm_is hM_h rfl ?_
      refine sm_cV (sf_X13_wrong nn rfl e_v41 hM_h) ?_; intro u43 hM_u43
      exact sj_X13_rule_493 nn hr e_l1 e_u37 hM_u43
set_option maxRecDepth 4000 in
theorem sj_X13_rule_416 (nn : Nat) {frc : tg_X13_condition} {rc : tq_X13_condition} (hr : hg_X13_condition frc rc) {l1 : Int32} {y_l1 : Int} (e_l1 : l1.toInt = y_l1) {h : ms_M} (hM_h : Rg_M h) : Sm_ RI_ (j_X13_rule_416 nn frc 160 l1 (H_M h)) (qj_X13_rule_416 nn rc y_l1 h) := by
  unfold j_X13_rule_416 qj_X13_rule_416
  refine sm_gr hM_h (d := 170) rfl ?_
  refine sm_ai hM_h rfl e_l1 ?_; intro v47 y_v47 e_v47
  refine sm_is hM_h rfl ?_
  refine sm_cI (hr.2.1 e_v47 hM_h) ?_; intro u49 y_u49 M_u49 e_u49 hM_u49
  refine sm_eq e_u49 rfl ?_ ?_
  · exact sm_rI rfl hM_u49
  · refine sm_gr hM_u49 (d := 168) rfl ?_
    refine sm_ai hM_u49 rfl e_l1 ?_; intro v51 y_v51 e_v51
    refine sm_is hM_u49 rfl ?_
    refine sm_cV (sf_X13_wrong nn rfl e_v51 hM_u49) ?_; intro u53 hM_u53
    exact sm_rI rfl hM_u53
set_option maxRecDepth 4000 in
theorem sj_X13_rule_403 (nn : Nat) {frc : tg_X13_condition} {rc : tq_X13_condition} (hr : hg_X13_condition frc rc) {l2 : Int32} {y_l2 : Int} (e_l2 : l2.toInt = y_l2) {h : ms_M} (hM_h : Rg_M h) : Sm_ RI_ (j_X13_rule_403 nn frc l2 (H_M h)) (qj_X13_rule_403 nn rc y_l2 h) := by
  unfold j_X13_rule_403 qj_X13_rule_403
  refine sm_ne e_l2 rfl ?_ ?_
  · refine sm_oq_sub e_l2 rfl ?_; intro v55 y_v55 e_v55
    exact sm_rI e_v55 hM_h
  · exact sm_rI rfl hM_h
set_option maxRecDepth 4000 in
theorem sj_X13_rule_391 (nn : Nat) {frc : tg_X13_condition} {rc : tq_X13_condition} (hr : hg_X13_condition frc rc) {l1 : Int32} {y_l1 : Int} (e_l1 : l1.toInt = y_l1) {l2 : Int32} {y_l2 : Int} (e_l2 : l2.toInt = y_l2) {h : ms_M} (hM_h : Rg_M h) : Sm_ RI_ (j_X13_rule_391 nn frc 160 l1 l2 (H_M h)) (qj_X13_rule_391 nn rc y_l1 y_l2 h) := by
  unfold j_X13_rule_391 qj_X13_rule_391
  refine sm_gr hM_h (d := 168) rfl ?_
  refine sm_ai hM_h rfl e_l1 ?_; intro v58 y_v58 e_v58
  refine sm_is hM_h rfl ?_
  refine sm_cV (sf_X13_wrong nn rfl e_v58 hM_h) ?_; intro u60 hM_u60
  exact sj_X13_rule_403 nn hr e_l2 hM_u60
set_option maxRecDepth 4000 in
theorem sj_X13_rule_342 (nn : Nat) {frc : tg_X13_condition} {rc : tq_X13_condition} (hr : hg_X13_condition frc rc) {l2 : Int32} {y_l2 : Int} (e_l2 : l2.toInt = y_l2) {h : ms_M} (hM_h : Rg_M h) : Sm_ RI_ (j_X13_rule_342 nn frc l2 (H_M h)) (qj_X13_rule_342 nn rc y_l2 h) := by
  unfold j_X13_rule_342 qj_X13_rule_342
  refine sm_oq_mul rfl e_l2 ?_; intro v61 y_v61 e_v61
  refine sm_oq_add rfl e_v61 ?_; intro v62 y_v62 e_v62
  refine sm_oq_add e_v62 rfl ?_; intro v63 y_v63 e_v63
  exact sm_rI e_v63 hM_h
set_option maxRecDepth 4000 in
theorem sj_X13_rule_317 (nn : Nat) {frc : tg_X13_condition} {rc : tq_X13_condition} (hr : hg_X13_condition frc rc) {l1 : Int32} {y_l1 : Int} (e_l1 : l1.toInt = y_l1) {l2 : Int32} {y_l2 : Int} (e_l2 : l2.toInt = y_l2) {h : ms_M} (hM_h : Rg_M h) : Sm_ RI_ (j_X13_rule_317 nn frc 160 l1 l2 (H_M h)) (qj_X13_rule_317 nn rc y_l1 y_l2 h) := by
  unfold j_X13_rule_317 qj_X13_rule_317
  refine sm_gr hM_h (d := 170) rfl ?_
  refine sm_ai hM_h rfl e_l1 ?_; intro v65 y_v65 e_v65
  refine sm_is hM_h rfl ?_
  refine sm_cI (hr.2.1 e_v65 hM_h) ?_; intro u67 y_u67 M_u67 e_u67 hM_u67
  refine sm_eq e_u67 rfl ?_ ?_
  · exact sj_X13_rule_342 nn hr e_l2 hM_u67
  · refine sm_gr hM_u67 (d := 172) rfl ?_
    refine sm_ai hM_u67 rfl e_l1 ?_; intro v69 y_v69 e_v69
    refine sm_is hM_u67 rfl ?_
    refine sm_cV (sf_X13_wrong nn rfl e_v69 hM_u67) ?_; intro u71 hM_u71
    exact sj_X13_rule_342 nn hr e_l2 hM_u71
set_option maxRecDepth 4000 in
theorem sj_X13_rule_256 (nn : Nat) {frc : tg_X13_condition} {rc : tq_X13_condition} (hr : hg_X13_condition frc rc) {l2 : Int32} {y_l2 : Int} (e_l2 : l2.toInt = y_l2) {h : ms_M} (hM_h : Rg_M h) : Sm_ RI_ (j_X13_rule_256 nn frc l2 (H_M h)) (qj_X13_rule_256 nn rc y_l2 h) := by
  unfold j_X13_rule_256 qj_X13_rule_256
  refine sm_oq_mul rfl e_l2 ?_; intro v73 y_v73 e_v73
  refine sm_oq_add rfl e_v73 ?_; intro v74 y_v74 e_v74
  exact sm_rI e_v74 hM_h
set_option maxRecDepth 4000 in
theorem sj_X13_rule_216 (nn : Nat) {frc : tg_X13_condition} {rc : tq_X13_condition} (hr : hg_X13_condition frc rc) {l1 : Int32} {y_l1 : Int} (e_l1 : l1.toInt = y_l1) {h : ms_M} (hM_h : Rg_M h) : Sm_ RI_ (j_X13_rule_216 nn frc 160 l1 (H_M h)) (qj_X13_rule_216 nn rc y_l1 h) := by
  unfold j_X13_rule_216 qj_X13_rule_216
  refine sm_gr hM_h (d := 175) rfl ?_
  refine sm_ai hM_h rfl e_l1 ?_; intro v76 y_v76 e_v76
  refine sm_is hM_h rfl ?_
  refine sm_cI (hr.2.2.2.2.2.2 e_l1 e_v76 rfl hM_h) ?_; intro u78 y_u78 M_u78 e_u78 hM_u78
  exact sm_rI e_u78 hM_u78
set_option maxRecDepth 4000 in
theorem sj_X13_rule_121 (nn : Nat) {frc : tg_X13_condition} {rc : tq_X13_condition} (hr : hg_X13_condition frc rc) {h : ms_M} (hM_h : Rg_M h) : Sm_ RI_ (j_X13_rule_121 nn frc 160 (H_M h)) (qj_X13_rule_121 nn rc h) := by
  unfold j_X13_rule_121 qj_X13_rule_121
  refine sm_gi hM_h rfl ?_; intro v79 e_v79
  refine sm_oq_mul rfl e_v79 ?_; intro v80 y_v80 e_v80
  refine sm_oq_add rfl e_v80 ?_; intro v81 y_v81 e_v81
  exact sm_rI e_v81 hM_h
set_option maxRecDepth 4000 in
theorem sj_X13_rule_98 (nn : Nat) {frc : tg_X13_condition} {rc : tq_X13_condition} (hr : hg_X13_condition frc rc) {h : ms_M} (hM_h : Rg_M h) : Sm_ RI_ (j_X13_rule_98 nn frc (H_M h)) (qj_X13_rule_98 nn rc h) := by
  unfold j_X13_rule_98 qj_X13_rule_98
  exact sm_rI rfl hM_h
set_option maxRecDepth 4000 in
theorem so_X13_rule (nn : Nat) {frc : tg_X13_condition} {rc : tq_X13_condition} (hr : hg_X13_condition frc rc) {a1 : Int32} {y_a1 : Int} (e_a1 : a1.toInt = y_a1) {h : ms_M} (hM_h : Rg_M h) : Sm_ RI_ (o_X13_rule nn frc 160 a1 (H_M h)) (qo_X13_rule nn rc y_a1 h) := by
  unfold o_X13_rule qo_X13_rule
  refine sm_gr hM_h (d := 167) rfl ?_
  refine sm_ai hM_h rfl e_a1 ?_; intro v83 y_v83 e_v83
  refine sm_eq e_v83 rfl ?_ ?_
  · exact sm_rI rfl hM_h
  · refine sm_eq e_v83 rfl ?_ ?_
    · exact sj_X13_rule_98 nn hr hM_h
    · refine sm_eq e_v83 rfl ?_ ?_
      · exact sj_X13_rule_98 nn hr hM_h
      · refine sm_eq e_v83 rfl ?_ ?_
        · exact sm_rI rfl hM_h
        · refine sm_eq e_v83 rfl ?_ ?_
          · refine sm_gi hM_h rfl ?_; intro v103 e_v103
            refine sm_eq e_v103 rfl ?_ ?_
            · exact sj_X13_rule_121 nn hr hM_h
            · refine sm_gr hM_h (d := 168) rfl ?_
              refine sm_ai hM_h rfl e_a1 ?_; intro v105 y_v105 e_v105
              refine sm_is hM_h rfl ?_
              refine sm_cV (sf_X13_wrong nn rfl e_v105 hM_h) ?_; intro u107 hM_u107
              exact sj_X13_rule_121 nn hr hM_u107
          · refine sm_eq e_v83 rfl ?_ ?_
            · refine sm_is hM_h rfl ?_
              refine sm_cI (sf_X13_named nn e_a1 hM_h) ?_; intro u110 y_u110 M_u110 e_u110 hM_u110
              exact sm_rI e_u110 hM_u110
            · refine sm_eq e_v83 rfl ?_ ?_
              · refine sm_gr hM_h (d := 175) rfl ?_
                refine sm_gi hM_h rfl ?_; intro v112 e_v112
                refine sm_gr hM_h (d := 168) rfl ?_
                refine sm_ai hM_h rfl e_a1 ?_; intro v114 y_v114 e_v114
                refine sm_is hM_h rfl ?_
                refine sm_cP (sf_X13_memberOf nn e_v112 e_v114 rfl hM_h) ?_; intro u116 y_u116 e_u116
                refine sm_si hM_h rfl e_a1 e_u116 ?_; intro h117 hM_h117
                refine sm_gr hM_h117 (d := 175) rfl ?_
                refine sm_ai hM_h117 rfl e_a1 ?_; intro v119 y_v119 e_v119
                refine sm_ne e_v119 rfl ?_ ?_
                · refine sm_gi hM_h117 rfl ?_; intro v120 e_v120
                  refine sm_eq e_v120 rfl ?_ ?_
                  · exact sj_X13_rule_216 nn hr e_a1 hM_h117
                  · refine sm_gr hM_h117 (d := 182) rfl ?_
                    refine sm_gr hM_h117 (d := 175) rfl ?_
                    refine sm_ai hM_h117 rfl e_a1 ?_; intro v123 y_v123 e_v123
                    refine sm_ai hM_h117 rfl e_v123 ?_; intro v124 y_v124 e_v124
                    refine sm_ne e_v124 rfl ?_ ?_
                    · exact sj_X13_rule_216 nn hr e_a1 hM_h117
                    · refine sm_gr hM_h117 (d := 168) rfl ?_
                      refine sm_ai hM_h117 rfl e_a1 ?_; intro v126 y_v126 e_v126
                      refine sm_is hM_h117 rfl ?_
                      refine sm_cV (sf_X13_wrong nn rfl e_v126 hM_h117) ?_; intro u128 hM_u128
                      exact sj_X13_rule_216 nn hr e_a1 hM_u128
                · refine sm_gr hM_h117 (d := 168) rfl ?_
                  refine sm_ai hM_h117 rfl e_a1 ?_; intro v132 y_v132 e_v132
                  refine sm_is hM_h117 rfl ?_
                  refine sm_cV (sf_X13_wrong nn rfl e_v132 hM_h117) ?_; intro u134 hM_u134
                  exact sj_X13_rule_216 nn hr e_a1 hM_u134
              · refine sm_eq e_v83 rfl ?_ ?_
                · refine sm_gr hM_h (d := 168) rfl ?_
                  refine sm_ai hM_h rfl e_a1 ?_; intro v137 y_v137 e_v137
                  refine sm_is hM_h rfl ?_
                  refine sm_cP (sf_X13_classOf nn e_v137 hM_h) ?_; intro u139 y_u139 e_u139
                  refine sm_ne e_u139 rfl ?_ ?_
                  · exact sj_X13_rule_256 nn hr e_u139 hM_h
                  · refine sm_gr hM_h (d := 168) rfl ?_
                    refine sm_ai hM_h rfl e_a1 ?_; intro v141 y_v141 e_v141
                    refine sm_is hM_h rfl ?_
                    refine sm_cV (sf_X13_wrong nn rfl e_v141 hM_h) ?_; intro u143 hM_u143
                    exact sj_X13_rule_256 nn hr e_u139 hM_u143
                · refine sm_eq e_v83 rfl ?_ ?_
                  · refine sm_gr hM_h (d := 170) rfl ?_
                    refine sm_ai hM_h rfl e_a1 ?_; intro v146 y_v146 e_v146
                    refine sm_is hM_h rfl ?_
                    refine sm_cI (hr.2.1 e_v146 hM_h) ?_; intro u148 y_u148 M_u148 e_u148 hM_u148
                    refine sm_eq e_u148 rfl ?_ ?_
                    · exact sm_rI rfl hM_u148
                    · refine sm_gr hM_u148 (d := 168) rfl ?_
                      refine sm_ai hM_u148 rfl e_a1 ?_; intro v150 y_v150 e_v150
                      refine sm_is hM_u148 rfl ?_
                      refine sm_cV (sf_X13_wrong nn rfl e_v150 hM_u148) ?_; intro u152 hM_u152
                      exact sm_rI rfl hM_u152
                  · refine sm_eq e_v83 rfl ?_ ?_
                    · refine sm_gr hM_h (d := 168) rfl ?_
                      refine sm_ai hM_h rfl e_a1 ?_; intro v155 y_v155 e_v155
                      refine sm_is hM_h rfl ?_
                      refine sm_cP (sf_X13_classOf nn e_v155 hM_h) ?_; intro u157 y_u157 e_u157
                      refine sm_ne e_u157 rfl ?_ ?_
                      · exact sj_X13_rule_317 nn hr e_a1 e_u157 hM_h
                      · refine sm_gr hM_h (d := 168) rfl ?_
                        refine sm_ai hM_h rfl e_a1 ?_; intro v159 y_v159 e_v159
                        refine sm_is hM_h rfl ?_
                        refine sm_cV (sf_X13_wrong nn rfl e_v159 hM_h) ?_; intro u161 hM_u161
                        exact sj_X13_rule_317 nn hr e_a1 e_u157 hM_u161
                    · refine sm_eq e_v83 rfl ?_ ?_
                      · refine sm_is hM_h rfl ?_
                        refine sm_cI (sf_X13_field nn e_a1 hM_h) ?_; intro u164 y_u164 M_u164 e_u164 hM_u164
                        exact sm_rI e_u164 hM_u164
                      · refine sm_eq e_v83 rfl ?_ ?_
                        · refine sm_is hM_h rfl ?_
                          refine sm_cI (hr.2.2.2.2.2.1 e_a1 hM_h) ?_; intro u166 y_u166 M_u166 e_u166 hM_u166
                          exact sm_rI e_u166 hM_u166
                        · refine sm_eq e_v83 rfl ?_ ?_
                          · refine sm_is hM_h rfl ?_
                            refine sm_cI (sf_X13_led nn e_a1 hM_h) ?_; intro u168 y_u168 M_u168 e_u168 hM_u168
                            refine sm_gr hM_u168 (d := 171) rfl ?_
                            refine sm_ai hM_u168 rfl e_a1 ?_; intro v170 y_v170 e_v170
                            refine sm_is hM_u168 rfl ?_
                            refine sm_cI (hr.2.1 e_v170 hM_u168) ?_; intro u172 y_u172 M_u172 e_u172 hM_u172
                            refine sm_cP (sf_X13_isArray nn e_u168 hM_u172) ?_; intro u173 y_u173 e_u173
                            refine sm_eq e_u173 rfl ?_ ?_
                            · exact sj_X13_rule_391 nn hr e_a1 e_u168 hM_u172
                            · refine sm_eq e_u172 rfl ?_ ?_
                              · exact sj_X13_rule_403 nn hr e_u168 hM_u172
                              · exact sj_X13_rule_391 nn hr e_a1 e_u168 hM_u172
                          · refine sm_eq e_v83 rfl ?_ ?_
                            · exact sj_X13_rule_416 nn hr e_a1 hM_h
                            · refine sm_eq e_v83 rfl ?_ ?_
                              · refine sm_gr hM_h (d := 170) rfl ?_
                                refine sm_ai hM_h rfl e_a1 ?_; intro v177 y_v177 e_v177
                                refine sm_is hM_h rfl ?_
                                refine sm_cV (hr.1 e_v177 hM_h) ?_; intro u179 hM_u179
                                exact sm_rI rfl hM_u179
                              · refine sm_eq e_v83 rfl ?_ ?_
                                · exact sj_X13_rule_416 nn hr e_a1 hM_h
                                · refine sm_eq e_v83 rfl ?_ ?_
                                  · exact sj_X13_rule_455 nn hr e_a1 hM_h
                                  · refine sm_eq e_v83 rfl ?_ ?_
                                    · refine sm_is hM_h rfl ?_
                                      refine sm_cI (hr.2.2.2.2.1 e_a1 hM_h) ?_; intro u181 y_u181 M_u181 e_u181 hM_u181
                                      exact sm_rI e_u181 hM_u181
                                    · refine sm_eq e_v83 rfl ?_ ?_
                                      · exact sj_X13_rule_455 nn hr e_a1 hM_h
                                      · refine sm_gr hM_h (d := 170) rfl ?_
                                        refine sm_ai hM_h rfl e_a1 ?_; intro v85 y_v85 e_v85
                                        refine sm_is hM_h rfl ?_
                                        refine sm_cV (hr.1 e_v85 hM_h) ?_; intro u87 hM_u87
                                        refine sm_gr hM_u87 (d := 171) rfl ?_
                                        refine sm_ai hM_u87 rfl e_a1 ?_; intro v89 y_v89 e_v89
                                        refine sm_is hM_u87 rfl ?_
                                        refine sm_cI (hr.2.1 e_v89 hM_u87) ?_; intro u91 y_u91 M_u91 e_u91 hM_u91
                                        refine sm_gr hM_u91 (d := 172) rfl ?_
                                        refine sm_ai hM_u91 rfl e_a1 ?_; intro v93 y_v93 e_v93
                                        refine sm_is hM_u91 rfl ?_
                                        refine sm_cI (hr.2.1 e_v93 hM_u91) ?_; intro u95 y_u95 M_u95 e_u95 hM_u95
                                        refine sm_is hM_u95 rfl ?_
                                        refine sm_cP (sf_X13_goTogether nn e_u91 e_u95 hM_u95) ?_; intro u97 y_u97 e_u97
                                        refine sm_ne e_u97 rfl ?_ ?_
                                        · exact sj_X13_rule_657 nn hr e_u91 e_u95 hM_u95
                                        · refine sm_gr hM_u95 (d := 168) rfl ?_
                                          refine sm_ai hM_u95 rfl e_a1 ?_; intro v99 y_v99 e_v99
                                          refine sm_is hM_u95 rfl ?_
                                          refine sm_cV (sf_X13_wrong nn rfl e_v99 hM_u95) ?_; intro u101 hM_u101
                                          exact sj_X13_rule_657 nn hr e_u91 e_u95 hM_u101
