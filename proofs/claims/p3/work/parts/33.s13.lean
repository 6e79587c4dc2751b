set_option maxRecDepth 4000 in
theorem sw_X13_again_107 (nn : Nat) : ∀ (k : Nat) {l1 : Int32} {y_l1 : Int} (e_l1 : l1.toInt = y_l1) {l2 : Int32} {y_l2 : Int} (e_l2 : l2.toInt = y_l2) {l3 : Int32} {y_l3 : Int} (e_l3 : l3.toInt = y_l3) {h : ms_M} (hM_h : Rg_M h), Sm_ RV_ (w_X13_again_107 nn k 160 l1 l2 l3 (H_M h)) (qw_X13_again_107 nn k y_l1 y_l2 y_l3 h) := by
  intro k
  induction k with
  | zero => intros; exact sm_no
  | succ k ih =>
    intro l1 y_l1 e_l1 l2 y_l2 e_l2 l3 y_l3 e_l3 h hM_h
    unfold w_X13_again_107 qw_X13_again_107
    refine sm_le rfl e_l3 ?_ ?_
    · exact sm_rV hM_h
    · refine sm_gr hM_h (d := 233) rfl ?_
      refine sm_oq_mul rfl e_l1 ?_; intro v2 y_v2 e_v2
      refine sm_oq_add e_v2 e_l3 ?_; intro v3 y_v3 e_v3
      refine sm_gr hM_h (d := 239) rfl ?_
      refine sm_oq_add e_l2 rfl ?_; intro v5 y_v5 e_v5
      refine sm_oq_add e_v5 e_l3 ?_; intro v6 y_v6 e_v6
      refine sm_ai hM_h rfl e_v6 ?_; intro v7 y_v7 e_v7
      refine sm_si hM_h rfl e_v3 e_v7 ?_; intro h8 hM_h8
      refine sm_gr hM_h8 (d := 235) rfl ?_
      refine sm_oq_mul rfl e_l1 ?_; intro v10 y_v10 e_v10
      refine sm_oq_add e_v10 e_l3 ?_; intro v11 y_v11 e_v11
      refine sm_gr hM_h8 (d := 239) rfl ?_
      refine sm_oq_add e_l2 rfl ?_; intro v13 y_v13 e_v13
      refine sm_oq_add e_v13 e_l3 ?_; intro v14 y_v14 e_v14
      refine sm_ai hM_h8 rfl e_v14 ?_; intro v15 y_v15 e_v15
      refine sm_si hM_h8 rfl e_v11 e_v15 ?_; intro h16 hM_h16
      refine sm_gr hM_h16 (d := 236) rfl ?_
      refine sm_oq_mul rfl e_l1 ?_; intro v18 y_v18 e_v18
      refine sm_oq_add e_v18 e_l3 ?_; intro v19 y_v19 e_v19
      refine sm_gr hM_h16 (d := 239) rfl ?_
      refine sm_oq_add e_l2 rfl ?_; intro v21 y_v21 e_v21
      refine sm_oq_add e_v21 e_l3 ?_; intro v22 y_v22 e_v22
      refine sm_ai hM_h16 rfl e_v22 ?_; intro v23 y_v23 e_v23
      refine sm_si hM_h16 rfl e_v19 e_v23 ?_; intro h24 hM_h24
      refine sm_gr hM_h24 (d := 237) rfl ?_
      refine sm_oq_mul rfl e_l1 ?_; intro v26 y_v26 e_v26
      refine sm_oq_add e_v26 e_l3 ?_; intro v27 y_v27 e_v27
      refine sm_gr hM_h24 (d := 239) rfl ?_
      refine sm_oq_add e_l2 rfl ?_; intro v29 y_v29 e_v29
      refine sm_oq_add e_v29 e_l3 ?_; intro v30 y_v30 e_v30
      refine sm_ai hM_h24 rfl e_v30 ?_; intro v31 y_v31 e_v31
      refine sm_si hM_h24 rfl e_v27 e_v31 ?_; intro h32 hM_h32
      refine sm_oq_add e_l3 rfl ?_; intro v33 y_v33 e_v33
      exact ih e_l1 e_l2 e_v33 hM_h32
set_option maxRecDepth 4000 in
theorem sw_X13_again_2 (nn : Nat) : ∀ (k : Nat) {l1 : Int32} {y_l1 : Int} (e_l1 : l1.toInt = y_l1) {l2 : Int32} {y_l2 : Int} (e_l2 : l2.toInt = y_l2) {h : ms_M} (hM_h : Rg_M h), Sm_ RV_ (w_X13_again_2 nn k 160 l1 l2 (H_M h)) (qw_X13_again_2 nn k y_l1 y_l2 h) := by
  intro k
  induction k with
  | zero => intros; exact sm_no
  | succ k ih =>
    intro l1 y_l1 e_l1 l2 y_l2 e_l2 h hM_h
    unfold w_X13_again_2 qw_X13_again_2
    refine sm_le rfl e_l2 ?_ ?_
    · refine sm_gr hM_h (d := 229) rfl ?_
      refine sm_gr hM_h (d := 239) rfl ?_
      refine sm_ai hM_h rfl rfl ?_; intro v37 y_v37 e_v37
      refine sm_si hM_h rfl e_l1 e_v37 ?_; intro h38 hM_h38
      refine sm_gr hM_h38 (d := 230) rfl ?_
      refine sm_gr hM_h38 (d := 239) rfl ?_
      refine sm_oq_add rfl rfl ?_; intro v41 y_v41 e_v41
      refine sm_ai hM_h38 rfl e_v41 ?_; intro v42 y_v42 e_v42
      refine sm_si hM_h38 rfl e_l1 e_v42 ?_; intro h43 hM_h43
      refine sm_gr hM_h43 (d := 231) rfl ?_
      refine sm_gr hM_h43 (d := 239) rfl ?_
      refine sm_oq_add rfl rfl ?_; intro v46 y_v46 e_v46
      refine sm_ai hM_h43 rfl e_v46 ?_; intro v47 y_v47 e_v47
      refine sm_si hM_h43 rfl e_l1 e_v47 ?_; intro h48 hM_h48
      refine sm_gr hM_h48 (d := 232) rfl ?_
      refine sm_gr hM_h48 (d := 239) rfl ?_
      refine sm_oq_add rfl rfl ?_; intro v51 y_v51 e_v51
      refine sm_ai hM_h48 rfl e_v51 ?_; intro v52 y_v52 e_v52
      refine sm_si hM_h48 rfl e_l1 e_v52 ?_; intro h53 hM_h53
      refine sm_gr hM_h53 (d := 234) rfl ?_
      refine sm_gr hM_h53 (d := 239) rfl ?_
      refine sm_oq_add rfl rfl ?_; intro v56 y_v56 e_v56
      refine sm_ai hM_h53 rfl e_v56 ?_; intro v57 y_v57 e_v57
      refine sm_si hM_h53 rfl e_l1 e_v57 ?_; intro h58 hM_h58
      exact sw_X13_again_107 nn nn e_l1 rfl rfl hM_h58
    · refine sm_gr hM_h (d := 228) rfl ?_
      refine sm_oq_mul rfl e_l1 ?_; intro v60 y_v60 e_v60
      refine sm_oq_add e_v60 e_l2 ?_; intro v61 y_v61 e_v61
      refine sm_gr hM_h (d := 239) rfl ?_
      refine sm_ai hM_h rfl e_l2 ?_; intro v63 y_v63 e_v63
      refine sm_si hM_h rfl e_v61 e_v63 ?_; intro h64 hM_h64
      refine sm_oq_add e_l2 rfl ?_; intro v65 y_v65 e_v65
      exact ih e_l1 e_v65 hM_h64
set_option maxRecDepth 4000 in
theorem sf_X13_again (nn : Nat) {a1 : Int32} {y_a1 : Int} (e_a1 : a1.toInt = y_a1) {h : ms_M} (hM_h : Rg_M h) : Sm_ RV_ (f_X13_again nn 160 a1 (H_M h)) (qf_X13_again nn y_a1 h) := by
  unfold f_X13_again qf_X13_again
  exact sw_X13_again_2 nn nn e_a1 rfl hM_h
set_option maxRecDepth 4000 in
theorem sw_X13_aside_107 (nn : Nat) : ∀ (k : Nat) {l1 : Int32} {y_l1 : Int} (e_l1 : l1.toInt = y_l1) {l2 : Int32} {y_l2 : Int} (e_l2 : l2.toInt = y_l2) {l3 : Int32} {y_l3 : Int} (e_l3 : l3.toInt = y_l3) {h : ms_M} (hM_h : Rg_M h), Sm_ RV_ (w_X13_aside_107 nn k 160 l1 l2 l3 (H_M h)) (qw_X13_aside_107 nn k y_l1 y_l2 y_l3 h) := by
  intro k
  induction k with
  | zero => intros; exact sm_no
  | succ k ih =>
    intro l1 y_l1 e_l1 l2 y_l2 e_l2 l3 y_l3 e_l3 h hM_h
    unfold w_X13_aside_107 qw_X13_aside_107
    refine sm_le rfl e_l3 ?_ ?_
    · exact sm_rV hM_h
    · refine sm_gr hM_h (d := 239) rfl ?_
      refine sm_oq_add e_l2 rfl ?_; intro v2 y_v2 e_v2
      refine sm_oq_add e_v2 e_l3 ?_; intro v3 y_v3 e_v3
      refine sm_gr hM_h (d := 233) rfl ?_
      refine sm_oq_mul rfl e_l1 ?_; intro v5 y_v5 e_v5
      refine sm_oq_add e_v5 e_l3 ?_; intro v6 y_v6 e_v6
      refine sm_ai hM_h rfl e_v6 ?_; intro v7 y_v7 e_v7
      refine sm_si hM_h rfl e_v3 e_v7 ?_; intro h8 hM_h8
      refine sm_gr hM_h8 (d := 239) rfl ?_
      refine sm_oq_add e_l2 rfl ?_; intro v10 y_v10 e_v10
      refine sm_oq_add e_v10 e_l3 ?_; intro v11 y_v11 e_v11
      refine sm_gr hM_h8 (d := 235) rfl ?_
      refine sm_oq_mul rfl e_l1 ?_; intro v13 y_v13 e_v13
      refine sm_oq_add e_v13 e_l3 ?_; intro v14 y_v14 e_v14
      refine sm_ai hM_h8 rfl e_v14 ?_; intro v15 y_v15 e_v15
      refine sm_si hM_h8 rfl e_v11 e_v15 ?_; intro h16 hM_h16
      refine sm_gr hM_h16 (d := 239) rfl ?_
      refine sm_oq_add e_l2 rfl ?_; intro v18 y_v18 e_v18
      refine sm_oq_add e_v18 e_l3 ?_; intro v19 y_v19 e_v19
      refine sm_gr hM_h16 (d := 236) rfl ?_
      refine sm_oq_mul rfl e_l1 ?_; intro v21 y_v21 e_v21
      refine sm_oq_add e_v21 e_l3 ?_; intro v22 y_v22 e_v22
      refine sm_ai hM_h16 rfl e_v22 ?_; intro v23 y_v23 e_v23
      refine sm_si hM_h16 rfl e_v19 e_v23 ?_; intro h24 hM_h24
      refine sm_gr hM_h24 (d := 239) rfl ?_
      refine sm_oq_add e_l2 rfl ?_; intro v26 y_v26 e_v26
      refine sm_oq_add e_v26 e_l3 ?_; intro v27 y_v27 e_v27
      refine sm_gr hM_h24 (d := 237) rfl ?_
      refine sm_oq_mul rfl e_l1 ?_; intro v29 y_v29 e_v29
      refine sm_oq_add e_v29 e_l3 ?_; intro v30 y_v30 e_v30
      refine sm_ai hM_h24 rfl e_v30 ?_; intro v31 y_v31 e_v31
      refine sm_si hM_h24 rfl e_v27 e_v31 ?_; intro h32 hM_h32
      refine sm_oq_add e_l3 rfl ?_; intro v33 y_v33 e_v33
      exact ih e_l1 e_l2 e_v33 hM_h32
set_option maxRecDepth 4000 in
theorem sw_X13_aside_2 (nn : Nat) : ∀ (k : Nat) {l1 : Int32} {y_l1 : Int} (e_l1 : l1.toInt = y_l1) {l2 : Int32} {y_l2 : Int} (e_l2 : l2.toInt = y_l2) {h : ms_M} (hM_h : Rg_M h), Sm_ RV_ (w_X13_aside_2 nn k 160 l1 l2 (H_M h)) (qw_X13_aside_2 nn k y_l1 y_l2 h) := by
  intro k
  induction k with
  | zero => intros; exact sm_no
  | succ k ih =>
    intro l1 y_l1 e_l1 l2 y_l2 e_l2 h hM_h
    unfold w_X13_aside_2 qw_X13_aside_2
    refine sm_le rfl e_l2 ?_ ?_
    · refine sm_gr hM_h (d := 239) rfl ?_
      refine sm_gr hM_h (d := 229) rfl ?_
      refine sm_ai hM_h rfl e_l1 ?_; intro v37 y_v37 e_v37
      refine sm_si hM_h rfl rfl e_v37 ?_; intro h38 hM_h38
      refine sm_gr hM_h38 (d := 239) rfl ?_
      refine sm_oq_add rfl rfl ?_; intro v40 y_v40 e_v40
      refine sm_gr hM_h38 (d := 230) rfl ?_
      refine sm_ai hM_h38 rfl e_l1 ?_; intro v42 y_v42 e_v42
      refine sm_si hM_h38 rfl e_v40 e_v42 ?_; intro h43 hM_h43
      refine sm_gr hM_h43 (d := 239) rfl ?_
      refine sm_oq_add rfl rfl ?_; intro v45 y_v45 e_v45
      refine sm_gr hM_h43 (d := 231) rfl ?_
      refine sm_ai hM_h43 rfl e_l1 ?_; intro v47 y_v47 e_v47
      refine sm_si hM_h43 rfl e_v45 e_v47 ?_; intro h48 hM_h48
      refine sm_gr hM_h48 (d := 239) rfl ?_
      refine sm_oq_add rfl rfl ?_; intro v50 y_v50 e_v50
      refine sm_gr hM_h48 (d := 232) rfl ?_
      refine sm_ai hM_h48 rfl e_l1 ?_; intro v52 y_v52 e_v52
      refine sm_si hM_h48 rfl e_v50 e_v52 ?_; intro h53 hM_h53
      refine sm_gr hM_h53 (d := 239) rfl ?_
      refine sm_oq_add rfl rfl ?_; intro v55 y_v55 e_v55
      refine sm_gr hM_h53 (d := 234) rfl ?_
      refine sm_ai hM_h53 rfl e_l1 ?_; intro v57 y_v57 e_v57
      refine sm_si hM_h53 rfl e_v55 e_v57 ?_; intro h58 hM_h58
      exact sw_X13_aside_107 nn nn e_l1 rfl rfl hM_h58
    · refine sm_gr hM_h (d := 239) rfl ?_
      refine sm_gr hM_h (d := 228) rfl ?_
      refine sm_oq_mul rfl e_l1 ?_; intro v61 y_v61 e_v61
      refine sm_oq_add e_v61 e_l2 ?_; intro v62 y_v62 e_v62
      refine sm_ai hM_h rfl e_v62 ?_; intro v63 y_v63 e_v63
      refine sm_si hM_h rfl e_l2 e_v63 ?_; intro h64 hM_h64
      refine sm_oq_add e_l2 rfl ?_; intro v65 y_v65 e_v65
      exact ih e_l1 e_v65 hM_h64
set_option maxRecDepth 4000 in
theorem sf_X13_aside (nn : Nat) {a1 : Int32} {y_a1 : Int} (e_a1 : a1.toInt = y_a1) {h : ms_M} (hM_h : Rg_M h) : Sm_ RV_ (f_X13_aside nn 160 a1 (H_M h)) (qf_X13_aside nn y_a1 h) := by
  unfold f_X13_aside qf_X13_aside
  exact sw_X13_aside_2 nn nn e_a1 rfl hM_h
set_option maxRecDepth 4000 in
theorem sf_X13_nameAt (nn : Nat) {a1 : Int32} {y_a1 : Int} (e_a1 : a1.toInt = y_a1) {h : ms_M} (hM_h : Rg_M h) : Sm_ (RP_ h) (f_X13_nameAt nn 160 a1 (H_M h)) (qf_X13_nameAt nn y_a1 h) := by
  unfold f_X13_nameAt qf_X13_nameAt
  refine sm_oq_sub e_a1 rfl ?_; intro v1 y_v1 e_v1
  refine sm_oq_mul rfl e_v1 ?_; intro v2 y_v2 e_v2
  refine sm_gr hM_h (d := 228) rfl ?_
  refine sm_oq_mul rfl e_v1 ?_; intro v4 y_v4 e_v4
  refine sm_gr hM_h (d := 230) rfl ?_
  refine sm_ai hM_h rfl e_v1 ?_; intro v6 y_v6 e_v6
  refine sm_oq_add e_v4 e_v6 ?_; intro v7 y_v7 e_v7
  refine sm_ai hM_h rfl e_v7 ?_; intro v8 y_v8 e_v8
  refine sm_oq_add e_v2 e_v8 ?_; intro v9 y_v9 e_v9
  refine sm_oq_mul rfl e_v1 ?_; intro v10 y_v10 e_v10
  refine sm_gr hM_h (d := 228) rfl ?_
  refine sm_oq_mul rfl e_v1 ?_; intro v12 y_v12 e_v12
  refine sm_gr hM_h (d := 226) rfl ?_
  refine sm_oq_add e_v9 rfl ?_; intro v14 y_v14 e_v14
  refine sm_ai hM_h rfl e_v14 ?_; intro v15 y_v15 e_v15
  refine sm_oq_add e_v12 e_v15 ?_; intro v16 y_v16 e_v16
  refine sm_ai hM_h rfl e_v16 ?_; intro v17 y_v17 e_v17
  refine sm_oq_add e_v10 e_v17 ?_; intro v18 y_v18 e_v18
  refine sm_oq_add e_v18 rfl ?_; intro v19 y_v19 e_v19
  exact sm_rP e_v19
set_option maxRecDepth 4000 in
theorem sw_X13_isNamed_184 (nn : Nat) : ∀ (k : Nat) (l2 : Nat) {l3 : Int32} {y_l3 : Int} (e_l3 : l3.toInt = y_l3) {l4 : Int32} {y_l4 : Int} (e_l4 : l4.toInt = y_l4) {l5 : Int32} {y_l5 : Int} (e_l5 : l5.toInt = y_l5) {l6 : Int32} {y_l6 : Int} (e_l6 : l6.toInt = y_l6) {l7 : Int32} {y_l7 : Int} (e_l7 : l7.toInt = y_l7) {h : ms_M} (hM_h : Rg_M h), Sm_ (RP_ h) (w_X13_isNamed_184 nn k 160 l2 l3 l4 l5 l6 l7 (H_M h)) (qw_X13_isNamed_184 nn k l2 y_l3 y_l4 y_l5 y_l6 y_l7 h) := by
  intro k
  induction k with
  | zero => intros; exact sm_no
  | succ k ih =>
    intro l2 l3 y_l3 e_l3 l4 y_l4 e_l4 l5 y_l5 e_l5 l6 y_l6 e_l6 l7 y_l7 e_l7 h hM_h
    unfold w_X13_isNamed_184 qw_X13_isNamed_184
    refine sm_le e_l4 e_l7 ?_ ?_
    · refine sm_bq e_l6 ?_
      exact sm_rP e_l6
    · refine sm_eq e_l6 rfl ?_ ?_
      · refine sm_bq e_l6 ?_
        exact sm_rP e_l6
      · refine sm_gr hM_h (d := 226) rfl ?_
        refine sm_oq_add e_l5 rfl ?_; intro v4 y_v4 e_v4
        refine sm_oq_add e_v4 e_l7 ?_; intro v5 y_v5 e_v5
        refine sm_ai hM_h rfl e_v5 ?_; intro v6 y_v6 e_v6
        refine sm_oq_add e_l3 e_l7 ?_; intro v7 y_v7 e_v7
        refine sm_aiS hM_h e_v7 ?_; intro v8 y_v8 e_v8
        refine sm_ne e_v6 e_v8 ?_ ?_
        · refine sm_oq_add e_l7 rfl ?_; intro v9 y_v9 e_v9
          exact ih _ e_l3 e_l4 e_l5 rfl e_v9 hM_h
        · refine sm_oq_add e_l7 rfl ?_; intro v10 y_v10 e_v10
          exact ih _ e_l3 e_l4 e_l5 rfl e_v10 hM_h
set_option maxRecDepth 4000 in
theorem sw_X13_isNamed_97 (nn : Nat) : ∀ (k : Nat) (l2 : Nat) {l3 : Int32} {y_l3 : Int} (e_l3 : l3.toInt = y_l3) {l4 : Int32} {y_l4 : Int} (e_l4 : l4.toInt = y_l4) {l6 : Int32} {y_l6 : Int} (e_l6 : l6.toInt = y_l6) {l7 : Int32} {y_l7 : Int} (e_l7 : l7.toInt = y_l7) {l8 : Int32} {y_l8 : Int} (e_l8 : l8.toInt = y_l8) {h : ms_M} (hM_h : Rg_M h), Sm_ (RP_ h) (w_X13_isNamed_97 nn k l2 l3 l4 l6 l7 l8 (H_M h)) (qw_X13_isNamed_97 nn k l2 y_l3 y_l4 y_l6 y_l7 y_l8 h) := by
  intro k
  induction k with
  | zero => intros; exact sm_no
  | succ k ih =>
    intro l2 l3 y_l3 e_l3 l4 y_l4 e_l4 l6 y_l6 e_l6 l7 y_l7 e_l7 l8 y_l8 e_l8 h hM_h
    unfold w_X13_isNamed_97 qw_X13_isNamed_97
    refine sm_le e_l4 e_l8 ?_ ?_
    · refine sm_bq e_l7 ?_
      exact sm_rP e_l7
    · refine sm_eq e_l7 rfl ?_ ?_
      · refine sm_bq e_l7 ?_
        exact sm_rP e_l7
      · refine sm_oq_add e_l6 rfl ?_; intro v16 y_v16 e_v16
        refine sm_oq_add e_v16 e_l8 ?_; intro v17 y_v17 e_v17
        refine sm_sc e_v17 ?_; intro v18 y_v18 e_v18
        refine sm_oq_add e_l3 e_l8 ?_; intro v19 y_v19 e_v19
        refine sm_aiS hM_h e_v19 ?_; intro v20 y_v20 e_v20
        refine sm_ne e_v18 e_v20 ?_ ?_
        · refine sm_oq_add e_l8 rfl ?_; intro v21 y_v21 e_v21
          exact ih _ e_l3 e_l4 e_l6 rfl e_v21 hM_h
        · refine sm_oq_add e_l8 rfl ?_; intro v22 y_v22 e_v22
          exact ih _ e_l3 e_l4 e_l6 rfl e_v22 hM_h
set_option maxRecDepth 4000 in
theorem sj_X13_isNamed_91 (nn : Nat) (l2 : Nat) {l3 : Int32} {y_l3 : Int} (e_l3 : l3.toInt = y_l3) {l4 : Int32} {y_l4 : Int} (e_l4 : l4.toInt = y_l4) {l6 : Int32} {y_l6 : Int} (e_l6 : l6.toInt = y_l6) {h : ms_M} (hM_h : Rg_M h) : Sm_ (RP_ h) (j_X13_isNamed_91 nn l2 l3 l4 l6 (H_M h)) (qj_X13_isNamed_91 nn l2 y_l3 y_l4 y_l6 h) := by
  unfold j_X13_isNamed_91 qj_X13_isNamed_91
  exact sw_X13_isNamed_97 nn nn _ e_l3 e_l4 e_l6 rfl rfl hM_h
set_option maxRecDepth 4000 in
theorem sw_X13_isNamed_12 (nn : Nat) : ∀ (k : Nat) {l1 : Int32} {y_l1 : Int} (e_l1 : l1.toInt = y_l1) (l2 : Nat) {l3 : Int32} {y_l3 : Int} (e_l3 : l3.toInt = y_l3) {l4 : Int32} {y_l4 : Int} (e_l4 : l4.toInt = y_l4) {l5 : Int32} {y_l5 : Int} (e_l5 : l5.toInt = y_l5) {l6 : Int32} {y_l6 : Int} (e_l6 : l6.toInt = y_l6) {h : ms_M} (hM_h : Rg_M h), Sm_ (RP_ h) (w_X13_isNamed_12 nn k l1 l2 l3 l4 l5 l6 (H_M h)) (qw_X13_isNamed_12 nn k y_l1 l2 y_l3 y_l4 y_l5 y_l6 h) := by
  intro k
  induction k with
  | zero => intros; exact sm_no
  | succ k ih =>
    intro l1 y_l1 e_l1 l2 l3 y_l3 e_l3 l4 y_l4 e_l4 l5 y_l5 e_l5 l6 y_l6 e_l6 h hM_h
    unfold w_X13_isNamed_12 qw_X13_isNamed_12
    refine sm_oq_add e_l6 rfl ?_; intro v26 y_v26 e_v26
    refine sm_sl ?_; intro v27 y_v27 e_v27
    refine sm_le e_v27 e_v26 ?_ ?_
    · exact sm_rP rfl
    · refine sm_sc e_l6 ?_; intro v28 y_v28 e_v28
      refine sm_eq e_v28 rfl ?_ ?_
      · refine sm_oq_add e_l5 rfl ?_; intro v29 y_v29 e_v29
        refine sm_eq e_v29 e_l1 ?_ ?_
        · refine sm_oq_add e_l6 e_l4 ?_; intro v30 y_v30 e_v30
          refine sm_oq_add e_v30 rfl ?_; intro v31 y_v31 e_v31
          refine sm_sl ?_; intro v32 y_v32 e_v32
          refine sm_le e_v32 e_v31 ?_ ?_
          · exact sj_X13_isNamed_91 nn _ e_l3 e_l4 e_l6 hM_h
          · refine sm_oq_add e_l6 e_l4 ?_; intro v33 y_v33 e_v33
            refine sm_oq_add e_v33 rfl ?_; intro v34 y_v34 e_v34
            refine sm_sc e_v34 ?_; intro v35 y_v35 e_v35
            refine sm_ne e_v35 rfl ?_ ?_
            · exact sj_X13_isNamed_91 nn _ e_l3 e_l4 e_l6 hM_h
            · exact sw_X13_isNamed_97 nn nn _ e_l3 e_l4 e_l6 rfl rfl hM_h
        · refine sm_oq_add e_l6 rfl ?_; intro v38 y_v38 e_v38
          exact ih e_l1 _ e_l3 e_l4 e_v29 e_v38 hM_h
      · refine sm_oq_add e_l6 rfl ?_; intro v40 y_v40 e_v40
        exact ih e_l1 _ e_l3 e_l4 e_l5 e_v40 hM_h
set_option maxRecDepth 4000 in
theorem sf_X13_isNamed (nn : Nat) {a1 : Int32} {y_a1 : Int} (e_a1 : a1.toInt = y_a1) (a2 : Nat) {a3 : Int32} {y_a3 : Int} (e_a3 : a3.toInt = y_a3) {a4 : Int32} {y_a4 : Int} (e_a4 : a4.toInt = y_a4) {h : ms_M} (hM_h : Rg_M h) : Sm_ (RP_ h) (f_X13_isNamed nn 160 a1 a2 a3 a4 (H_M h)) (qf_X13_isNamed nn y_a1 a2 y_a3 y_a4 h) := by
  unfold f_X13_isNamed qf_X13_isNamed
  refine sm_le rfl e_a1 ?_ ?_
  · refine sm_is hM_h rfl ?_
    refine sm_cP (sf_X13_nameAt nn e_a1 hM_h) ?_; intro u44 y_u44 e_u44
    refine sm_gr hM_h (d := 226) rfl ?_
    refine sm_ai hM_h rfl e_u44 ?_; intro v46 y_v46 e_v46
    refine sm_ne e_v46 e_a4 ?_ ?_
    · exact sw_X13_isNamed_184 nn nn _ e_a3 e_a4 e_u44 rfl rfl hM_h
    · exact sw_X13_isNamed_184 nn nn _ e_a3 e_a4 e_u44 rfl rfl hM_h
  · exact sw_X13_isNamed_12 nn nn e_a1 _ e_a3 e_a4 rfl rfl hM_h
set_option maxRecDepth 4000 in
theorem sw_X13_classNamed_3 (nn : Nat) : ∀ (k : Nat) (l1 : Nat) {l2 : Int32} {y_l2 : Int} (e_l2 : l2.toInt = y_l2) {l3 : Int32} {y_l3 : Int} (e_l3 : l3.toInt = y_l3) {l4 : Int32} {y_l4 : Int} (e_l4 : l4.toInt = y_l4) {h : ms_M} (hM_h : Rg_M h), Sm_ (RP_ h) (w_X13_classNamed_3 nn k 160 l1 l2 l3 l4 (H_M h)) (qw_X13_classNamed_3 nn k l1 y_l2 y_l3 y_l4 h) := by
  intro k
  induction k with
  | zero => intros; exact sm_no
  | succ k ih =>
    intro l1 l2 y_l2 e_l2 l3 y_l3 e_l3 l4 y_l4 e_l4 h hM_h
    unfold w_X13_classNamed_3 qw_X13_classNamed_3
    refine sm_gi hM_h rfl ?_; intro v1 e_v1
    refine sm_oq_add rfl e_v1 ?_; intro v2 y_v2 e_v2
    refine sm_le e_v2 e_l4 ?_ ?_
    · exact sm_rP rfl
    · refine sm_is hM_h rfl ?_
      refine sm_cP (sf_X13_isNamed nn e_l4 _ e_l2 e_l3 hM_h) ?_; intro u4 y_u4 e_u4
      refine sm_eq e_u4 rfl ?_ ?_
      · refine sm_oq_add e_l4 rfl ?_; intro v5 y_v5 e_v5
        exact ih _ e_l2 e_l3 e_v5 hM_h
      · exact sm_rP e_l4
set_option maxRecDepth 4000 in
theorem sf_X13_classNamed (nn : Nat) (a1 : Nat) {a2 : Int32} {y_a2 : Int} (e_a2 : a2.toInt = y_a2) {a3 : Int32} {y_a3 : Int} (e_a3 : a3.toInt = y_a3) {h : ms_M} (hM_h : Rg_M h) : Sm_ (RP_ h) (f_X13_classNamed nn 160 a1 a2 a3 (H_M h)) (qf_X13_classNamed nn a1 y_a2 y_a3 h) := by
  unfold f_X13_classNamed qf_X13_classNamed
  exact sw_X13_classNamed_3 nn nn _ e_a2 e_a3 rfl hM_h
set_option maxRecDepth 4000 in
theorem sw_X13_install_2 (nn : Nat) : ∀ (k : Nat) {l1 : Int32} {y_l1 : Int} (e_l1 : l1.toInt = y_l1) {l2 : Int32} {y_l2 : Int} (e_l2 : l2.toInt = y_l2) {h : ms_M} (hM_h : Rg_M h), Sm_ RI_ (w_X13_install_2 nn k 160 l1 l2 (H_M h)) (qw_X13_install_2 nn k y_l1 y_l2 h) := by
  intro k
  induction k with
  | zero => intros; exact sm_no
  | succ k ih =>
    intro l1 y_l1 e_l1 l2 y_l2 e_l2 h hM_h
    unfold w_X13_install_2 qw_X13_install_2
    refine sm_gi hM_h rfl ?_; intro v1 e_v1
    refine sm_le e_v1 e_l2 ?_ ?_
    · refine sm_gr hM_h (d := 227) rfl ?_
      refine sm_gi hM_h rfl ?_; intro v3 e_v3
      refine sm_si hM_h rfl e_l1 e_v3 ?_; intro h4 hM_h4
      refine sm_oq_add rfl e_l1 ?_; intro v5 y_v5 e_v5
      exact sm_rI e_v5 hM_h4
    · refine sm_gr hM_h (d := 226) rfl ?_
      refine sm_oq_mul rfl e_l1 ?_; intro v7 y_v7 e_v7
      refine sm_oq_add e_v7 e_l2 ?_; intro v8 y_v8 e_v8
      refine sm_gr hM_h (d := 238) rfl ?_
      refine sm_ai hM_h rfl e_l2 ?_; intro v10 y_v10 e_v10
      refine sm_si hM_h rfl e_v8 e_v10 ?_; intro h11 hM_h11
      refine sm_oq_add e_l2 rfl ?_; intro v12 y_v12 e_v12
      exact ih e_l1 e_v12 hM_h11
set_option maxRecDepth 4000 in
theorem sf_X13_install (nn : Nat) {a1 : Int32} {y_a1 : Int} (e_a1 : a1.toInt = y_a1) {h : ms_M} (hM_h : Rg_M h) : Sm_ RI_ (f_X13_install nn 160 a1 (H_M h)) (qf_X13_install nn y_a1 h) := by
  unfold f_X13_install qf_X13_install
  exact sw_X13_install_2 nn nn e_a1 rfl hM_h
set_option maxRecDepth 4000 in
theorem sf_X13_constantOf (nn : Nat) {a1 : Int32} {y_a1 : Int} (e_a1 : a1.toInt = y_a1) {a2 : Int32} {y_a2 : Int} (e_a2 : a2.toInt = y_a2) {h : ms_M} (hM_h : Rg_M h) : Sm_ (RP_ h) (f_X13_constantOf nn 160 a1 a2 (H_M h)) (qf_X13_constantOf nn y_a1 y_a2 h) := by
  unfold f_X13_constantOf qf_X13_constantOf
  refine sm_lt e_a2 rfl ?_ ?_
  · exact sm_rP rfl
  · refine sm_gr hM_h (d := 229) rfl ?_
    refine sm_ai hM_h rfl e_a1 ?_; intro v2 y_v2 e_v2
    refine sm_lt e_v2 e_a2 ?_ ?_
    · exact sm_rP rfl
    · refine sm_gr hM_h (d := 228) rfl ?_
      refine sm_oq_mul rfl e_a1 ?_; intro v4 y_v4 e_v4
      refine sm_oq_add e_v4 e_a2 ?_; intro v5 y_v5 e_v5
      refine sm_ai hM_h rfl e_v5 ?_; intro v6 y_v6 e_v6
      exact sm_rP e_v6
set_option maxRecDepth 4000 in
theorem sf_X13_isNamePart (nn : Nat) {a0 : Int32} {y_a0 : Int} (e_a0 : a0.toInt = y_a0) {a1 : Int32} {y_a1 : Int} (e_a1 : a1.toInt = y_a1) {h : ms_M} (hM_h : Rg_M h) : Sm_ (RP_ h) (f_X13_isNamePart nn a0 a1 (H_M h)) (qf_X13_isNamePart nn y_a0 y_a1 h) := by
  unfold f_X13_isNamePart qf_X13_isNamePart
  refine sm_cP (sf_X13_isLetter nn e_a0 hM_h) ?_; intro u1 y_u1 e_u1
  refine sm_ne e_u1 rfl ?_ ?_
  · exact sm_rP rfl
  · refine sm_ne e_a1 rfl ?_ ?_
    · exact sm_rP rfl
    · refine sm_cP (sf_X13_isDigit nn e_a0 hM_h) ?_; intro u2 y_u2 e_u2
      refine sm_ne e_u2 rfl ?_ ?_
      · exact sm_rP rfl
      · refine sm_ne e_a0 rfl ?_ ?_
        · exact sm_rP rfl
        · exact sm_rP rfl
set_option maxRecDepth 4000 in
theorem sj_X13_isName_46 (nn : Nat) {kk_20 : Nat → Int32 → Int32 → Int32 → Int32 → mx_H → Option (Int32 × mx_H)} {qkk_20 : Nat → Int → Int → Int → Int → ms_M → Option Int} (hk_kk_20 : ∀ (l0 : Nat) {l1 : Int32} {y_l1 : Int} (e_l1 : l1.toInt = y_l1) {l2 : Int32} {y_l2 : Int} (e_l2 : l2.toInt = y_l2) {l3 : Int32} {y_l3 : Int} (e_l3 : l3.toInt = y_l3) {l4 : Int32} {y_l4 : Int} (e_l4 : l4.toInt = y_l4) {h : ms_M} (hM_h : Rg_M h), Sm_ (RP_ h) (kk_20 l0 l1 l2 l3 l4 (H_M h)) (qkk_20 l0 y_l1 y_l2 y_l3 y_l4 h)) (l0 : Nat) {l1 : Int32} {y_l1 : Int} (e_l1 : l1.toInt = y_l1) {l2 : Int32} {y_l2 : Int} (e_l2 : l2.toInt = y_l2) {l4 : Int32} {y_l4 : Int} (e_l4 : l4.toInt = y_l4) {s0 : Int32} {y_s0 : Int} (e_s0 : s0.toInt = y_s0) {s1 : Int32} {y_s1 : Int} (e_s1 : s1.toInt = y_s1) {h : ms_M} (hM_h : Rg_M h) : Sm_ (RP_ h) (j_X13_isName_46 nn kk_20 l0 l1 l2 l4 s0 s1 (H_M h)) (qj_X13_isName_46 nn qkk_20 l0 y_l1 y_l2 y_l4 y_s0 y_s1 h) := by
  unfold j_X13_isName_46 qj_X13_isName_46
  refine sm_cP (sf_X13_isNamePart nn e_s1 e_s0 hM_h) ?_; intro u1 y_u1 e_u1
  refine sm_oq_add e_l4 rfl ?_; intro v2 y_v2 e_v2
  exact hk_kk_20 _ e_l1 e_l2 e_u1 e_v2 hM_h
set_option maxRecDepth 4000 in
theorem sw_X13_isName_20 (nn : Nat) : ∀ (k : Nat) (l0 : Nat) {l1 : Int32} {y_l1 : Int} (e_l1 : l1.toInt = y_l1) {l2 : Int32} {y_l2 : Int} (e_l2 : l2.toInt = y_l2) {l3 : Int32} {y_l3 : Int} (e_l3 : l3.toInt = y_l3) {l4 : Int32} {y_l4 : Int} (e_l4 : l4.toInt = y_l4) {h : ms_M} (hM_h : Rg_M h), Sm_ (RP_ h) (w_X13_isName_20 nn k l0 l1 l2 l3 l4 (H_M h)) (qw_X13_isName_20 nn k l0 y_l1 y_l2 y_l3 y_l4 h) := by
  intro k
  induction k with
  | zero => intros; exact sm_no
  | succ k ih =>
    intro l0 l1 y_l1 e_l1 l2 y_l2 e_l2 l3 y_l3 e_l3 l4 y_l4 e_l4 h hM_h
    unfold w_X13_isName_20 qw_X13_isName_20
    refine sm_le e_l2 e_l4 ?_ ?_
    · refine sm_bq e_l3 ?_
      exact sm_rP e_l3
    · refine sm_eq e_l3 rfl ?_ ?_
      · refine sm_bq e_l3 ?_
        exact sm_rP e_l3
      · refine sm_oq_add e_l1 e_l4 ?_; intro v5 y_v5 e_v5
        refine sm_aiS hM_h e_v5 ?_; intro v6 y_v6 e_v6
        refine sm_ne e_l4 rfl ?_ ?_
        · exact sj_X13_isName_46 nn ih _ e_l1 e_l2 e_l4 rfl e_v6 hM_h
        · exact sj_X13_isName_46 nn ih _ e_l1 e_l2 e_l4 rfl e_v6 hM_h
set_option maxRecDepth 4000 in
theorem sj_X13_isName_15 (nn : Nat) (l0 : Nat) {l1 : Int32} {y_l1 : Int} (e_l1 : l1.toInt = y_l1) {l2 : Int32} {y_l2 : Int} (e_l2 : l2.toInt = y_l2) {h : ms_M} (hM_h : Rg_M h) : Sm_ (RP_ h) (j_X13_isName_15 nn l0 l1 l2 (H_M h)) (qj_X13_isName_15 nn l0 y_l1 y_l2 h) := by
  unfold j_X13_isName_15 qj_X13_isName_15
  exact sw_X13_isName_20 nn nn _ e_l1 e_l2 rfl rfl hM_h
set_option maxRecDepth 4000 in
theorem sf_X13_isName (nn : Nat) (a0 : Nat) {a1 : Int32} {y_a1 : Int} (e_a1 : a1.toInt = y_a1) {a2 : Int32} {y_a2 : Int} (e_a2 : a2.toInt = y_a2) {h : ms_M} (hM_h : Rg_M h) : Sm_ (RP_ h) (f_X13_isName nn a0 a1 a2 (H_M h)) (qf_X13_isName nn a0 y_a1 y_a2 h) := by
  unfold f_X13_isName qf_X13_isName
  refine sm_lt e_a2 rfl ?_ ?_
  · exact sj_X13_isName_15 nn _ e_a1 e_a2 hM_h
  · refine sm_lt rfl e_a2 ?_ ?_
    · exact sj_X13_isName_15 nn _ e_a1 e_a2 hM_h
    · exact sw_X13_isName_20 nn nn _ e_a1 e_a2 rfl rfl hM_h
set_option maxRecDepth 4000 in
theorem sj_X13_kindBytes_93 (nn : Nat) (l0 : Nat) {l1 : Int32} {y_l1 : Int} (e_l1 : l1.toInt = y_l1) {l2 : Int32} {y_l2 : Int} (e_l2 : l2.toInt = y_l2) {l3 : Int32} {y_l3 : Int} (e_l3 : l3.toInt = y_l3) {l4 : Int32} {y_l4 : Int} (e_l4 : l4.toInt = y_l4) {h : ms_M} (hM_h : Rg_M h) : Sm_ (RP_ h) (j_X13_kindBytes_93 nn l0 l1 l2 l3 l4 (H_M h)) (qj_X13_kindBytes_93 nn l0 y_l1 y_l2 y_l3 y_l4 h) := by
  unfold j_X13_kindBytes_93 qj_X13_kindBytes_93
  refine sm_le e_l2 e_l4 ?_ ?_
  · exact sm_rP rfl
  · refine sm_oq_add e_l3 rfl ?_; intro v1 y_v1 e_v1
    refine sm_oq_sub e_l4 e_l3 ?_; intro v2 y_v2 e_v2
    refine sm_oq_sub e_v2 rfl ?_; intro v3 y_v3 e_v3
    refine sm_cP (sf_X13_isName nn _ e_v1 e_v3 hM_h) ?_; intro u4 y_u4 e_u4
    refine sm_eq e_u4 rfl ?_ ?_
    · exact sm_rP rfl
    · refine sm_oq_add e_l4 rfl ?_; intro v5 y_v5 e_v5
      refine sm_oq_sub e_v5 e_l1 ?_; intro v6 y_v6 e_v6
      exact sm_rP e_v6
set_option maxRecDepth 4000 in
theorem sw_X13_kindBytes_72 (nn : Nat) : ∀ (k : Nat) (l0 : Nat) {l1 : Int32} {y_l1 : Int} (e_l1 : l1.toInt = y_l1) {l2 : Int32} {y_l2 : Int} (e_l2 : l2.toInt = y_l2) {l3 : Int32} {y_l3 : Int} (e_l3 : l3.toInt = y_l3) {l4 : Int32} {y_l4 : Int} (e_l4 : l4.toInt = y_l4) {h : ms_M} (hM_h : Rg_M h), Sm_ (RP_ h) (w_X13_kindBytes_72 nn k l0 l1 l2 l3 l4 (H_M h)) (qw_X13_kindBytes_72 nn k l0 y_l1 y_l2 y_l3 y_l4 h) := by
  intro k
  induction k with
  | zero => intros; exact sm_no
  | succ k ih =>
    intro l0 l1 y_l1 e_l1 l2 y_l2 e_l2 l3 y_l3 e_l3 l4 y_l4 e_l4 h hM_h
    unfold w_X13_kindBytes_72 qw_X13_kindBytes_72
    refine sm_le e_l2 e_l4 ?_ ?_
    · exact sj_X13_kindBytes_93 nn _ e_l1 e_l2 e_l3 e_l4 hM_h
    · refine sm_aiS hM_h e_l4 ?_; intro v9 y_v9 e_v9
      refine sm_eq e_v9 rfl ?_ ?_
      · exact sj_X13_kindBytes_93 nn _ e_l1 e_l2 e_l3 e_l4 hM_h
      · refine sm_oq_add e_l4 rfl ?_; intro v10 y_v10 e_v10
        exact ih _ e_l1 e_l2 e_l3 e_v10 hM_h
set_option maxRecDepth 4000 in
theorem sj_X13_kindBytes_52 (nn : Nat) (l0 : Nat) {l1 : Int32} {y_l1 : Int} (e_l1 : l1.toInt = y_l1) {l2 : Int32} {y_l2 : Int} (e_l2 : l2.toInt = y_l2) {l3 : Int32} {y_l3 : Int} (e_l3 : l3.toInt = y_l3) {h : ms_M} (hM_h : Rg_M h) : Sm_ (RP_ h) (j_X13_kindBytes_52 nn l0 l1 l2 l3 (H_M h)) (qj_X13_kindBytes_52 nn l0 y_l1 y_l2 y_l3 h) := by
  unfold j_X13_kindBytes_52 qj_X13_kindBytes_52
  refine sm_le e_l2 e_l3 ?_ ?_
  · exact sm_rP rfl
  · refine sm_aiS hM_h e_l3 ?_; intro v13 y_v13 e_v13
    refine sm_eq e_v13 rfl ?_ ?_
    · refine sm_oq_add e_l3 rfl ?_; intro v14 y_v14 e_v14
      exact sw_X13_kindBytes_72 nn nn _ e_l1 e_l2 e_l3 e_v14 hM_h
    · exact sm_rP rfl
set_option maxRecDepth 4000 in
theorem sj_X13_kindBytes_33 (nn : Nat) (l0 : Nat) {l1 : Int32} {y_l1 : Int} (e_l1 : l1.toInt = y_l1) {l2 : Int32} {y_l2 : Int} (e_l2 : l2.toInt = y_l2) {l3 : Int32} {y_l3 : Int} (e_l3 : l3.toInt = y_l3) {h : ms_M} (hM_h : Rg_M h) : Sm_ (RP_ h) (j_X13_kindBytes_33 nn l0 l1 l2 l3 (H_M h)) (qj_X13_kindBytes_33 nn l0 y_l1 y_l2 y_l3 h) := by
  unfold j_X13_kindBytes_33 qj_X13_kindBytes_33
  refine sm_le e_l2 e_l3 ?_ ?_
  · exact sj_X13_kindBytes_52 nn _ e_l1 e_l2 e_l3 hM_h
  · refine sm_aiS hM_h e_l3 ?_; intro v17 y_v17 e_v17
    refine sm_ne e_v17 rfl ?_ ?_
    · exact sj_X13_kindBytes_52 nn _ e_l1 e_l2 e_l3 hM_h
    · refine sm_oq_add e_l3 rfl ?_; intro v18 y_v18 e_v18
      refine sm_oq_sub e_v18 e_l1 ?_; intro v19 y_v19 e_v19
      exact sm_rP e_v19
set_option maxRecDepth 4000 in
theorem sj_X13_kindBytes_17 (nn : Nat) (l0 : Nat) {l1 : Int32} {y_l1 : Int} (e_l1 : l1.toInt = y_l1) {l2 : Int32} {y_l2 : Int} (e_l2 : l2.toInt = y_l2) {l3 : Int32} {y_l3 : Int} (e_l3 : l3.toInt = y_l3) {h : ms_M} (hM_h : Rg_M h) : Sm_ (RP_ h) (j_X13_kindBytes_17 nn l0 l1 l2 l3 (H_M h)) (qj_X13_kindBytes_17 nn l0 y_l1 y_l2 y_l3 h) := by
  unfold j_X13_kindBytes_17 qj_X13_kindBytes_17
  refine sm_le e_l2 e_l3 ?_ ?_
  · exact sj_X13_kindBytes_33 nn _ e_l1 e_l2 e_l3 hM_h
  · refine sm_aiS hM_h e_l3 ?_; intro v22 y_v22 e_v22
    refine sm_ne e_v22 rfl ?_ ?_
    · exact sj_X13_kindBytes_33 nn _ e_l1 e_l2 e_l3 hM_h
    · refine sm_oq_add e_l3 rfl ?_; intro v23 y_v23 e_v23
      exact sj_X13_kindBytes_33 nn _ e_l1 e_l2 e_v23 hM_h
set_option maxRecDepth 4000 in
theorem sf_X13_kindBytes (nn : Nat) (a0 : Nat) {a1 : Int32} {y_a1 : Int} (e_a1 : a1.toInt = y_a1) {a2 : Int32} {y_a2 : Int} (e_a2 : a2.toInt = y_a2) {h : ms_M} (hM_h : Rg_M h) : Sm_ (RP_ h) (f_X13_kindBytes nn a0 a1 a2 (H_M h)) (qf_X13_kindBytes nn a0 y_a1 y_a2 h) := by
  unfold f_X13_kindBytes qf_X13_kindBytes
  refine sm_le e_a2 e_a1 ?_ ?_
  · exact sj_X13_kindBytes_17 nn _ e_a1 e_a2 e_a1 hM_h
  · refine sm_aiS hM_h e_a1 ?_; intro v26 y_v26 e_v26
    refine sm_ne e_v26 rfl ?_ ?_
    · exact sj_X13_kindBytes_17 nn _ e_a1 e_a2 e_a1 hM_h
    · exact sm_rP rfl
set_option maxRecDepth 4000 in
theorem sf_X13_isFieldKind (nn : Nat) (a0 : Nat) {a1 : Int32} {y_a1 : Int} (e_a1 : a1.toInt = y_a1) {a2 : Int32} {y_a2 : Int} (e_a2 : a2.toInt = y_a2) {h : ms_M} (hM_h : Rg_M h) : Sm_ (RP_ h) (f_X13_isFieldKind nn a0 a1 a2 (H_M h)) (qf_X13_isFieldKind nn a0 y_a1 y_a2 h) := by
  unfold f_X13_isFieldKind qf_X13_isFieldKind
  refine sm_le e_a2 rfl ?_ ?_
  · exact sm_rP rfl
  · refine sm_oq_add e_a1 e_a2 ?_; intro v1 y_v1 e_v1
    refine sm_cP (sf_X13_kindBytes nn _ e_a1 e_v1 hM_h) ?_; intro u2 y_u2 e_u2
    refine sm_ne e_u2 e_a2 ?_ ?_
    · exact sm_rP rfl
    · exact sm_rP rfl
set_option maxRecDepth 4000 in
theorem sj_X13_isClassText_19 (nn : Nat) {l1 : Int32} {y_l1 : Int} (e_l1 : l1.toInt = y_l1) {l2 : Int32} {y_l2 : Int} (e_l2 : l2.toInt = y_l2) {h : ms_M} (hM_h : Rg_M h) : Sm_ (RP_ h) (j_X13_isClassText_19 nn 238 l1 l2 (H_M h)) (qj_X13_isClassText_19 nn y_l1 y_l2 h) := by
  unfold j_X13_isClassText_19 qj_X13_isClassText_19
  refine sm_cP (sf_X13_isName nn _ e_l1 e_l2 hM_h) ?_; intro u1 y_u1 e_u1
  refine sm_bq e_u1 ?_
  exact sm_rP e_u1
set_option maxRecDepth 4000 in
theorem sf_X13_isClassText (nn : Nat) {a1 : Int32} {y_a1 : Int} (e_a1 : a1.toInt = y_a1) {a2 : Int32} {y_a2 : Int} (e_a2 : a2.toInt = y_a2) {h : ms_M} (hM_h : Rg_M h) : Sm_ (RP_ h) (f_X13_isClassText nn 238 a1 a2 (H_M h)) (qf_X13_isClassText nn y_a1 y_a2 h) := by
  unfold f_X13_isClassText qf_X13_isClassText
  refine sm_le e_a2 rfl ?_ ?_
  · exact sj_X13_isClassText_19 nn e_a1 e_a2 hM_h
  · refine sm_ai hM_h rfl e_a1 ?_; intro v3 y_v3 e_v3
    refine sm_ne e_v3 rfl ?_ ?_
    · exact sj_X13_isClassText_19 nn e_a1 e_a2 hM_h
    · refine sm_cP (sf_X13_isFieldKind nn _ e_a1 e_a2 hM_h) ?_; intro u4 y_u4 e_u4
      refine sm_bq e_u4 ?_
      exact sm_rP e_u4
set_option maxRecDepth 4000 in
theorem sj_X13_parametersIn_117 (nn : Nat) {l5 : Int32} {y_l5 : Int} (e_l5 : l5.toInt = y_l5) {s0 : Int32} {y_s0 : Int} (e_s0 : s0.toInt = y_s0) {h : ms_M} (hM_h : Rg_M h) : Sm_ (RP_ h) (j_X13_parametersIn_117 nn l5 s0 (H_M h)) (qj_X13_parametersIn_117 nn y_l5 y_s0 h) := by
  unfold j_X13_parametersIn_117 qj_X13_parametersIn_117
  refine sm_eq e_s0 rfl ?_ ?_
  · exact sm_rP rfl
  · exact sm_rP e_l5
set_option maxRecDepth 4000 in
theorem sj_X13_parametersIn_112 (nn : Nat) {l5 : Int32} {y_l5 : Int} (e_l5 : l5.toInt = y_l5) {h : ms_M} (hM_h : Rg_M h) : Sm_ (RP_ h) (j_X13_parametersIn_112 nn l5 (H_M h)) (qj_X13_parametersIn_112 nn y_l5 h) := by
  unfold j_X13_parametersIn_112 qj_X13_parametersIn_112
  exact sj_X13_parametersIn_117 nn e_l5 rfl hM_h
set_option maxRecDepth 4000 in
theorem sj_X13_parametersIn_99 (nn : Nat) (l0 : Nat) {l3 : Int32} {y_l3 : Int} (e_l3 : l3.toInt = y_l3) {l4 : Int32} {y_l4 : Int} (e_l4 : l4.toInt = y_l4) {l5 : Int32} {y_l5 : Int} (e_l5 : l5.toInt = y_l5) {h : ms_M} (hM_h : Rg_M h) : Sm_ (RP_ h) (j_X13_parametersIn_99 nn l0 l3 l4 l5 (H_M h)) (qj_X13_parametersIn_99 nn l0 y_l3 y_l4 y_l5 h) := by
  unfold j_X13_parametersIn_99 qj_X13_parametersIn_99
  refine sm_oq_sub e_l3 e_l4 ?_; intro v2 y_v2 e_v2
  refine sm_cP (sf_X13_isFieldKind nn _ e_l4 e_v2 hM_h) ?_; intro u3 y_u3 e_u3
  refine sm_eq e_u3 rfl ?_ ?_
  · exact sj_X13_parametersIn_117 nn e_l5 rfl hM_h
  · exact sj_X13_parametersIn_112 nn e_l5 hM_h
set_option maxRecDepth 4000 in
theorem sj_X13_parametersIn_71 (nn : Nat) (l0 : Nat) {l3 : Int32} {y_l3 : Int} (e_l3 : l3.toInt = y_l3) {l4 : Int32} {y_l4 : Int} (e_l4 : l4.toInt = y_l4) {l5 : Int32} {y_l5 : Int} (e_l5 : l5.toInt = y_l5) {h : ms_M} (hM_h : Rg_M h) : Sm_ (RP_ h) (j_X13_parametersIn_71 nn l0 l3 l4 l5 (H_M h)) (qj_X13_parametersIn_71 nn l0 y_l3 y_l4 y_l5 h) := by
  unfold j_X13_parametersIn_71 qj_X13_parametersIn_71
  refine sm_lt e_l4 e_l3 ?_ ?_
  · refine sm_oq_add e_l4 rfl ?_; intro v5 y_v5 e_v5
    refine sm_oq_add e_v5 rfl ?_; intro v6 y_v6 e_v6
    refine sm_ne e_v6 e_l3 ?_ ?_
    · exact sj_X13_parametersIn_99 nn _ e_l3 e_v5 e_l5 hM_h
    · refine sm_aiS hM_h e_v5 ?_; intro v7 y_v7 e_v7
      refine sm_eq e_v7 rfl ?_ ?_
      · exact sj_X13_parametersIn_112 nn e_l5 hM_h
      · exact sj_X13_parametersIn_99 nn _ e_l3 e_v5 e_l5 hM_h
  · exact sm_rP rfl
set_option maxRecDepth 4000 in
theorem sw_X13_parametersIn_27 (nn : Nat) : ∀ (k : Nat) (l0 : Nat) {l3 : Int32} {y_l3 : Int} (e_l3 : l3.toInt = y_l3) {l4 : Int32} {y_l4 : Int} (e_l4 : l4.toInt = y_l4) {l5 : Int32} {y_l5 : Int} (e_l5 : l5.toInt = y_l5) {h : ms_M} (hM_h : Rg_M h), Sm_ (RP_ h) (w_X13_parametersIn_27 nn k l0 l3 l4 l5 (H_M h)) (qw_X13_parametersIn_27 nn k l0 y_l3 y_l4 y_l5 h) := by
  intro k
  induction k with
  | zero => intros; exact sm_no
  | succ k ih =>
    intro l0 l3 y_l3 e_l3 l4 y_l4 e_l4 l5 y_l5 e_l5 h hM_h
    unfold w_X13_parametersIn_27 qw_X13_parametersIn_27
    refine sm_le e_l3 e_l4 ?_ ?_
    · exact sj_X13_parametersIn_71 nn _ e_l3 e_l4 e_l5 hM_h
    · refine sm_aiS hM_h e_l4 ?_; intro v11 y_v11 e_v11
      refine sm_eq e_v11 rfl ?_ ?_
      · exact sj_X13_parametersIn_71 nn _ e_l3 e_l4 e_l5 hM_h
      · refine sm_cP (sf_X13_kindBytes nn _ e_l4 e_l3 hM_h) ?_; intro u12 y_u12 e_u12
        refine sm_ne e_u12 rfl ?_ ?_
        · refine sm_oq_add e_l4 e_u12 ?_; intro v13 y_v13 e_v13
          refine sm_oq_add e_l5 rfl ?_; intro v14 y_v14 e_v14
          exact ih _ e_l3 e_v13 e_v14 hM_h
        · exact sm_rP rfl
set_option maxRecDepth 4000 in
theorem sf_X13_parametersIn (nn : Nat) (a0 : Nat) {a1 : Int32} {y_a1 : Int} (e_a1 : a1.toInt = y_a1) {a2 : Int32} {y_a2 : Int} (e_a2 : a2.toInt = y_a2) {h : ms_M} (hM_h : Rg_M h) : Sm_ (RP_ h) (f_X13_parametersIn nn a0 a1 a2 (H_M h)) (qf_X13_parametersIn nn a0 y_a1 y_a2 h) := by
  unfold f_X13_parametersIn qf_X13_parametersIn
  refine sm_oq_add e_a1 e_a2 ?_; intro v18 y_v18 e_v18
  refine sm_lt e_a2 rfl ?_ ?_
  · exact sm_rP rfl
  · refine sm_aiS hM_h e_a1 ?_; intro v19 y_v19 e_v19
    refine sm_eq e_v19 rfl ?_ ?_
    · refine sm_oq_add e_a1 rfl ?_; intro v20 y_v20 e_v20
      exact sw_X13_parametersIn_27 nn nn _ e_v18 e_v20 rfl hM_h
    · exact sm_rP rfl
set_option maxRecDepth 4000 in
theorem sf_X13_isMethodKind (nn : Nat) {a1 : Int32} {y_a1 : Int} (e_a1 : a1.toInt = y_a1) {a2 : Int32} {y_a2 : Int} (e_a2 : a2.toInt = y_a2) {h : ms_M} (hM_h : Rg_M h) : Sm_ (RP_ h) (f_X13_isMethodKind nn 238 a1 a2 (H_M h)) (qf_X13_isMethodKind nn y_a1 y_a2 h) := by
  unfold f_X13_isMethodKind qf_X13_isMethodKind
  refine sm_cP (sf_X13_parametersIn nn _ e_a1 e_a2 hM_h) ?_; intro u1 y_u1 e_u1
  refine sm_lt e_u1 rfl ?_ ?_
  · exact sm_rP rfl
  · refine sm_lt rfl e_u1 ?_ ?_
    · exact sm_rP rfl
    · exact sm_rP rfl
set_option maxRecDepth 4000 in
theorem sf_X13_isText (nn : Nat) {a1 : Int32} {y_a1 : Int} (e_a1 : a1.toInt = y_a1) {a2 : Int32} {y_a2 : Int} (e_a2 : a2.toInt = y_a2) {h : ms_M} (hM_h : Rg_M h) : Sm_ (RP_ h) (f_X13_isText nn 160 a1 a2 (H_M h)) (qf_X13_isText nn y_a1 y_a2 h) := by
  unfold f_X13_isText qf_X13_isText
  refine sm_gi hM_h rfl ?_; intro v1 e_v1
  refine sm_is hM_h rfl ?_
  refine sm_cP (sf_X13_constantOf nn e_v1 e_a1 hM_h) ?_; intro u3 y_u3 e_u3
  refine sm_lt e_u3 rfl ?_ ?_
  · exact sm_rP rfl
  · refine sm_gr hM_h (d := 238) rfl ?_
    refine sm_ai hM_h rfl e_u3 ?_; intro v5 y_v5 e_v5
    refine sm_eq e_v5 rfl ?_ ?_
    · refine sm_gr hM_h (d := 238) rfl ?_
      refine sm_oq_add e_u3 rfl ?_; intro v7 y_v7 e_v7
      refine sm_ai hM_h rfl e_v7 ?_; intro v8 y_v8 e_v8
      refine sm_eq e_a2 rfl ?_ ?_
      · refine sm_gr hM_h (d := 238) rfl ?_
        refine sm_oq_add e_u3 rfl ?_; intro v14 y_v14 e_v14
        refine sm_cP (sf_X13_isName nn _ e_v14 e_v8 hM_h) ?_; intro u15 y_u15 e_u15
        refine sm_bq e_u15 ?_
        exact sm_rP e_u15
      · refine sm_eq e_a2 rfl ?_ ?_
        · refine sm_gr hM_h (d := 238) rfl ?_
          refine sm_oq_add e_u3 rfl ?_; intro v18 y_v18 e_v18
          refine sm_cP (sf_X13_isFieldKind nn _ e_v18 e_v8 hM_h) ?_; intro u19 y_u19 e_u19
          refine sm_bq e_u19 ?_
          exact sm_rP e_u19
        · refine sm_eq e_a2 rfl ?_ ?_
          · refine sm_gr hM_h (d := 238) rfl ?_
            refine sm_oq_add e_u3 rfl ?_; intro v22 y_v22 e_v22
            refine sm_cP (sf_X13_isMethodKind nn e_v22 e_v8 hM_h) ?_; intro u23 y_u23 e_u23
            refine sm_bq e_u23 ?_
            exact sm_rP e_u23
          · refine sm_eq e_a2 rfl ?_ ?_
            · refine sm_gr hM_h (d := 238) rfl ?_
              refine sm_oq_add e_u3 rfl ?_; intro v26 y_v26 e_v26
              refine sm_cP (sf_X13_isFieldKind nn _ e_v26 e_v8 hM_h) ?_; intro u27 y_u27 e_u27
              refine sm_ne e_u27 rfl ?_ ?_
              · exact sm_rP rfl
              · refine sm_gr hM_h (d := 238) rfl ?_
                refine sm_oq_add e_u3 rfl ?_; intro v29 y_v29 e_v29
                refine sm_cP (sf_X13_isMethodKind nn e_v29 e_v8 hM_h) ?_; intro u30 y_u30 e_u30
                refine sm_eq e_u30 rfl ?_ ?_
                · exact sm_rP rfl
                · exact sm_rP rfl
            · refine sm_gr hM_h (d := 238) rfl ?_
              refine sm_oq_add e_u3 rfl ?_; intro v10 y_v10 e_v10
              refine sm_cP (sf_X13_isClassText nn e_v10 e_v8 hM_h) ?_; intro u11 y_u11 e_u11
              refine sm_bq e_u11 ?_
              exact sm_rP e_u11
    · exact sm_rP rfl
set_option maxRecDepth 4000 in
theorem sf_X13_unfit (nn : Nat) {a1 : Int32} {y_a1 : Int} (e_a1 : a1.toInt = y_a1) {h : ms_M} (hM_h : Rg_M h) : Sm_ RV_ (f_X13_unfit nn 160 a1 (H_M h)) (qf_X13_unfit nn y_a1 h) := by
  unfold f_X13_unfit qf_X13_unfit
  refine sm_gi hM_h rfl ?_; intro v1 e_v1
  refine sm_ne e_v1 rfl ?_ ?_
  · exact sm_rV hM_h
  · refine sm_pv hM_h rfl e_a1 ?_; intro h2 hM_h2
    exact sm_rV hM_h2
set_option maxRecDepth 4000 in
theorem sj_X13_checkConstant_105 (nn : Nat) {l1 : Int32} {y_l1 : Int} (e_l1 : l1.toInt = y_l1) {h : ms_M} (hM_h : Rg_M h) : Sm_ RV_ (j_X13_checkConstant_105 nn 160 l1 (H_M h)) (qj_X13_checkConstant_105 nn y_l1 h) := by
  unfold j_X13_checkConstant_105 qj_X13_checkConstant_105
  refine sm_gr hM_h (d := 238) rfl ?_
  refine sm_oq_add e_l1 rfl ?_; intro v2 y_v2 e_v2
  refine sm_ai hM_h rfl e_v2 ?_; intro v3 y_v3 e_v3
  refine sm_is hM_h rfl ?_
  refine sm_cP (sf_X13_isText nn e_v3 rfl hM_h) ?_; intro u5 y_u5 e_u5
  refine sm_ne e_u5 rfl ?_ ?_
  · exact sm_rV hM_h
  · refine sm_oq_add e_l1 rfl ?_; intro v6 y_v6 e_v6
    refine sm_is hM_h rfl ?_
    refine sm_cV (sf_X13_unfit nn e_v6 hM_h) ?_; intro u8 hM_u8
    exact sm_rV hM_u8
set_option maxRecDepth 4000 in
theorem sj_X13_checkConstant_82 (nn : Nat) {l1 : Int32} {y_l1 : Int} (e_l1 : l1.toInt = y_l1) {h : ms_M} (hM_h : Rg_M h) : Sm_ RV_ (j_X13_checkConstant_82 nn 160 l1 (H_M h)) (qj_X13_checkConstant_82 nn y_l1 h) := by
  unfold j_X13_checkConstant_82 qj_X13_checkConstant_82
  refine sm_gr hM_h (d := 238) rfl ?_
  refine sm_oq_add e_l1 rfl ?_; intro v11 y_v11 e_v11
  refine sm_ai hM_h rfl e_v11 ?_; intro v12 y_v12 e_v12
  refine sm_is hM_h rfl ?_
  refine sm_cP (sf_X13_isText nn e_v12 rfl hM_h) ?_; intro u14 y_u14 e_u14
  refine sm_ne e_u14 rfl ?_ ?_
  · exact sj_X13_checkConstant_105 nn e_l1 hM_h
  · refine sm_oq_add e_l1 rfl ?_; intro v15 y_v15 e_v15
    refine sm_is hM_h rfl ?_
    refine sm_cV (sf_X13_unfit nn e_v15 hM_h) ?_; intro u17 hM_u17
    exact sj_X13_checkConstant_105 nn e_l1 hM_u17
set_option maxRecDepth 4000 in
theorem sj_X13_checkConstant_75 (nn : Nat) {l1 : Int32} {y_l1 : Int} (e_l1 : l1.toInt = y_l1) {h : ms_M} (hM_h : Rg_M h) : Sm_ RV_ (j_X13_checkConstant_75 nn 160 l1 (H_M h)) (qj_X13_checkConstant_75 nn y_l1 h) := by
  unfold j_X13_checkConstant_75 qj_X13_checkConstant_75
  refine sm_oq_add e_l1 rfl ?_; intro v19 y_v19 e_v19
  refine sm_is hM_h rfl ?_
  refine sm_cV (sf_X13_unfit nn e_v19 hM_h) ?_; intro u21 hM_u21
  exact sj_X13_checkConstant_82 nn e_l1 hM_u21
set_option maxRecDepth 4000 in
theorem sj_X13_checkConstant_33 (nn : Nat) {l1 : Int32} {y_l1 : Int} (e_l1 : l1.toInt = y_l1) {h : ms_M} (hM_h : Rg_M h) : Sm_ RV_ (j_X13_checkConstant_33 nn 160 l1 (H_M h)) (qj_X13_checkConstant_33 nn y_l1 h) := by
  unfold j_X13_checkConstant_33 qj_X13_checkConstant_33
  refine sm_gr hM_h (d := 238) rfl ?_
  refine sm_ai hM_h rfl e_l1 ?_; intro v23 y_v23 e_v23
  refine sm_eq e_v23 rfl ?_ ?_
  · refine sm_gi hM_h rfl ?_; intro v24 e_v24
    refine sm_gr hM_h (d := 238) rfl ?_
    refine sm_oq_add e_l1 rfl ?_; intro v26 y_v26 e_v26
    refine sm_ai hM_h rfl e_v26 ?_; intro v27 y_v27 e_v27
    refine sm_is hM_h rfl ?_
    refine sm_cP (sf_X13_constantOf nn e_v24 e_v27 hM_h) ?_; intro u29 y_u29 e_u29
    refine sm_lt e_u29 rfl ?_ ?_
    · exact sj_X13_checkConstant_75 nn e_l1 hM_h
    · refine sm_gr hM_h (d := 238) rfl ?_
      refine sm_ai hM_h rfl e_u29 ?_; intro v31 y_v31 e_v31
      refine sm_eq e_v31 rfl ?_ ?_
      · exact sj_X13_checkConstant_82 nn e_l1 hM_h
      · exact sj_X13_checkConstant_75 nn e_l1 hM_h
  · exact sm_rV hM_h
set_option maxRecDepth 4000 in
theorem sf_X13_checkConstant (nn : Nat) {a1 : Int32} {y_a1 : Int} (e_a1 : a1.toInt = y_a1) {h : ms_M} (hM_h : Rg_M h) : Sm_ RV_ (f_X13_checkConstant nn 160 a1 (H_M h)) (qf_X13_checkConstant nn y_a1 h) := by
  unfold f_X13_checkConstant qf_X13_checkConstant
  refine sm_gr hM_h (d := 238) rfl ?_
  refine sm_ai hM_h rfl e_a1 ?_; intro v36 y_v36 e_v36
  refine sm_ne e_v36 rfl ?_ ?_
  · exact sj_X13_checkConstant_33 nn e_a1 hM_h
  · refine sm_gr hM_h (d := 238) rfl ?_
    refine sm_oq_add e_a1 rfl ?_; intro v38 y_v38 e_v38
    refine sm_ai hM_h rfl e_v38 ?_; intro v39 y_v39 e_v39
    refine sm_is hM_h rfl ?_
    refine sm_cP (sf_X13_isText nn e_v39 rfl hM_h) ?_; intro u41 y_u41 e_u41
    refine sm_ne e_u41 rfl ?_ ?_
    · exact sj_X13_checkConstant_33 nn e_a1 hM_h
    · refine sm_oq_add e_a1 rfl ?_; intro v42 y_v42 e_v42
      refine sm_is hM_h rfl ?_
      refine sm_cV (sf_X13_unfit nn e_v42 hM_h) ?_; intro u44 hM_u44
      exact sj_X13_checkConstant_33 nn e_a1 hM_u44
set_option maxRecDepth 4000 in
theorem sj_X13_isByte_26 (nn : Nat) {h : ms_M} (hM_h : Rg_M h) : Sm_ RI_ (j_X13_isByte_26 nn 160 (H_M h)) (qj_X13_isByte_26 nn h) := by
  unfold j_X13_isByte_26 qj_X13_isByte_26
  refine sm_gi hM_h rfl ?_; intro v1 e_v1
  refine sm_ne e_v1 rfl ?_ ?_
  · exact sm_rI rfl hM_h
  · exact sm_rI rfl hM_h
set_option maxRecDepth 4000 in
theorem sf_X13_isByte (nn : Nat) {a1 : Int32} {y_a1 : Int} (e_a1 : a1.toInt = y_a1) {h : ms_M} (hM_h : Rg_M h) : Sm_ RI_ (f_X13_isByte nn 160 a1 (H_M h)) (qf_X13_isByte nn y_a1 h) := by
  unfold f_X13_isByte qf_X13_isByte
  refine sm_gi hM_h rfl ?_; intro v3 e_v3
  refine sm_eq e_v3 rfl ?_ ?_
  · refine sm_gi hM_h rfl ?_; intro v4 e_v4
    refine sm_lt e_a1 e_v4 ?_ ?_
    · exact sj_X13_isByte_26 nn hM_h
    · refine sm_gi hM_h rfl ?_; intro v5 e_v5
      refine sm_pv hM_h rfl e_v5 ?_; intro h6 hM_h6
      exact sj_X13_isByte_26 nn hM_h6
  · exact sm_rI rfl hM_h
set_option maxRecDepth 4000 in
theorem sf_X13_isClassConstant (nn : Nat) {a1 : Int32} {y_a1 : Int} (e_a1 : a1.toInt = y_a1) {a2 : Int32} {y_a2 : Int} (e_a2 : a2.toInt = y_a2) {h : ms_M} (hM_h : Rg_M h) : Sm_ (RP_ h) (f_X13_isClassConstant nn 160 a1 a2 (H_M h)) (qf_X13_isClassConstant nn y_a1 y_a2 h) := by
  unfold f_X13_isClassConstant qf_X13_isClassConstant
  refine sm_gi hM_h rfl ?_; intro v1 e_v1
  refine sm_is hM_h rfl ?_
  refine sm_cP (sf_X13_constantOf nn e_v1 e_a1 hM_h) ?_; intro u3 y_u3 e_u3
  refine sm_lt e_u3 rfl ?_ ?_
  · exact sm_rP rfl
  · refine sm_gr hM_h (d := 238) rfl ?_
    refine sm_ai hM_h rfl e_u3 ?_; intro v5 y_v5 e_v5
    refine sm_eq e_v5 rfl ?_ ?_
    · refine sm_gi hM_h rfl ?_; intro v6 e_v6
      refine sm_gr hM_h (d := 238) rfl ?_
      refine sm_oq_add e_u3 rfl ?_; intro v8 y_v8 e_v8
      refine sm_ai hM_h rfl e_v8 ?_; intro v9 y_v9 e_v9
      refine sm_is hM_h rfl ?_
      refine sm_cP (sf_X13_constantOf nn e_v6 e_v9 hM_h) ?_; intro u11 y_u11 e_u11
      refine sm_ne e_a2 rfl ?_ ?_
      · exact sm_rP rfl
      · refine sm_lt e_u11 rfl ?_ ?_
        · exact sm_rP rfl
        · refine sm_gr hM_h (d := 238) rfl ?_
          refine sm_ai hM_h rfl e_u11 ?_; intro v13 y_v13 e_v13
          refine sm_ne e_v13 rfl ?_ ?_
          · exact sm_rP rfl
          · refine sm_gr hM_h (d := 238) rfl ?_
            refine sm_oq_add e_u11 rfl ?_; intro v15 y_v15 e_v15
            refine sm_ai hM_h rfl e_v15 ?_; intro v16 y_v16 e_v16
            refine sm_eq e_v16 rfl ?_ ?_
            · exact sm_rP rfl
            · exact sm_rP rfl
    · exact sm_rP rfl
set_option maxRecDepth 4000 in
theorem sj_X13_scanConstant_147 (nn : Nat) {l1 : Int32} {y_l1 : Int} (e_l1 : l1.toInt = y_l1) {l2 : Int32} {y_l2 : Int} (e_l2 : l2.toInt = y_l2) {h : ms_M} (hM_h : Rg_M h) : Sm_ RI_ (j_X13_scanConstant_147 nn l1 l2 (H_M h)) (qj_X13_scanConstant_147 nn y_l1 y_l2 h) := by
  unfold j_X13_scanConstant_147 qj_X13_scanConstant_147
  refine sm_oq_add e_l1 rfl ?_; intro v1 y_v1 e_v1
  refine sm_oq_add e_v1 e_l2 ?_; intro v2 y_v2 e_v2
  exact sm_rI e_v2 hM_h
set_option maxRecDepth 4000 in
theorem sj_X13_scanConstant_132 (nn : Nat) {kk_77 : Nat → Int32 → Int32 → Int32 → mx_H → Option (Int32 × mx_H)} {qkk_77 : Int → Int → Int → ms_M → Option (Int × ms_M)} (hk_kk_77 : ∀ {l1 : Int32} {y_l1 : Int} (e_l1 : l1.toInt = y_l1) {l2 : Int32} {y_l2 : Int} (e_l2 : l2.toInt = y_l2) {l3 : Int32} {y_l3 : Int} (e_l3 : l3.toInt = y_l3) {h : ms_M} (hM_h : Rg_M h), Sm_ RI_ (kk_77 160 l1 l2 l3 (H_M h)) (qkk_77 y_l1 y_l2 y_l3 h)) {l1 : Int32} {y_l1 : Int} (e_l1 : l1.toInt = y_l1) {l2 : Int32} {y_l2 : Int} (e_l2 : l2.toInt = y_l2) {l3 : Int32} {y_l3 : Int} (e_l3 : l3.toInt = y_l3) {h : ms_M} (hM_h : Rg_M h) : Sm_ RI_ (j_X13_scanConstant_132 nn kk_77 160 l1 l2 l3 (H_M h)) (qj_X13_scanConstant_132 nn qkk_77 y_l1 y_l2 y_l3 h) := by
  unfold j_X13_scanConstant_132 qj_X13_scanConstant_132
  refine sm_oq_add e_l1 rfl ?_; intro v3 y_v3 e_v3
  refine sm_oq_add e_v3 e_l3 ?_; intro v4 y_v4 e_v4
  refine sm_is hM_h rfl ?_
  refine sm_cV (sf_X13_unfit nn e_v4 hM_h) ?_; intro u6 hM_u6
  refine sm_oq_add e_l3 rfl ?_; intro v7 y_v7 e_v7
  exact hk_kk_77 e_l1 e_l2 e_v7 hM_u6
set_option maxRecDepth 4000 in
theorem sw_X13_scanConstant_77 (nn : Nat) : ∀ (k : Nat) {l1 : Int32} {y_l1 : Int} (e_l1 : l1.toInt = y_l1) {l2 : Int32} {y_l2 : Int} (e_l2 : l2.toInt = y_l2) {l3 : Int32} {y_l3 : Int} (e_l3 : l3.toInt = y_l3) {h : ms_M} (hM_h : Rg_M h), Sm_ RI_ (w_X13_scanConstant_77 nn k 160 l1 l2 l3 (H_M h)) (qw_X13_scanConstant_77 nn k y_l1 y_l2 y_l3 h) := by
  intro k
  induction k with
  | zero => intros; exact sm_no
  | succ k ih =>
    intro l1 y_l1 e_l1 l2 y_l2 e_l2 l3 y_l3 e_l3 h hM_h
    unfold w_X13_scanConstant_77 qw_X13_scanConstant_77
    refine sm_le e_l2 e_l3 ?_ ?_
    · exact sj_X13_scanConstant_147 nn e_l1 e_l2 hM_h
    · refine sm_gi hM_h rfl ?_; intro v8 e_v8
      refine sm_ne e_v8 rfl ?_ ?_
      · exact sj_X13_scanConstant_147 nn e_l1 e_l2 hM_h
      · refine sm_oq_add e_l1 rfl ?_; intro v9 y_v9 e_v9
        refine sm_oq_add e_v9 e_l3 ?_; intro v10 y_v10 e_v10
        refine sm_is hM_h rfl ?_
        refine sm_cI (sf_X13_isByte nn e_v10 hM_h) ?_; intro u12 y_u12 M_u12 e_u12 hM_u12
        refine sm_eq e_u12 rfl ?_ ?_
        · refine sm_oq_add e_l3 rfl ?_; intro v13 y_v13 e_v13
          exact ih e_l1 e_l2 e_v13 hM_u12
        · refine sm_gr hM_u12 (d := 238) rfl ?_
          refine sm_oq_add e_l1 rfl ?_; intro v15 y_v15 e_v15
          refine sm_oq_add e_v15 e_l3 ?_; intro v16 y_v16 e_v16
          refine sm_ai hM_u12 rfl e_v16 ?_; intro v17 y_v17 e_v17
          refine sm_lt e_v17 rfl ?_ ?_
          · exact sj_X13_scanConstant_132 nn ih e_l1 e_l2 e_l3 hM_u12
          · refine sm_gr hM_u12 (d := 238) rfl ?_
            refine sm_oq_add e_l1 rfl ?_; intro v19 y_v19 e_v19
            refine sm_oq_add e_v19 e_l3 ?_; intro v20 y_v20 e_v20
            refine sm_ai hM_u12 rfl e_v20 ?_; intro v21 y_v21 e_v21
            refine sm_le e_v21 rfl ?_ ?_
            · refine sm_oq_add e_l3 rfl ?_; intro v22 y_v22 e_v22
              exact ih e_l1 e_l2 e_v22 hM_u12
            · exact sj_X13_scanConstant_132 nn ih e_l1 e_l2 e_l3 hM_u12
set_option maxRecDepth 4000 in
theorem sj_X13_scanConstant_68 (nn : Nat) {l1 : Int32} {y_l1 : Int} (e_l1 : l1.toInt = y_l1) {l2 : Int32} {y_l2 : Int} (e_l2 : l2.toInt = y_l2) {h : ms_M} (hM_h : Rg_M h) : Sm_ RI_ (j_X13_scanConstant_68 nn 160 l1 l2 (H_M h)) (qj_X13_scanConstant_68 nn y_l1 y_l2 h) := by
  unfold j_X13_scanConstant_68 qj_X13_scanConstant_68
  refine sm_oq_add e_l1 rfl ?_; intro v28 y_v28 e_v28
  refine sm_is hM_h rfl ?_
  refine sm_cV (sf_X13_unfit nn e_v28 hM_h) ?_; intro u30 hM_u30
  exact sw_X13_scanConstant_77 nn nn e_l1 e_l2 rfl hM_u30
set_option maxRecDepth 4000 in
theorem sf_X13_scanConstant (nn : Nat) {a1 : Int32} {y_a1 : Int} (e_a1 : a1.toInt = y_a1) {h : ms_M} (hM_h : Rg_M h) : Sm_ RI_ (f_X13_scanConstant nn 160 a1 (H_M h)) (qf_X13_scanConstant nn y_a1 h) := by
  unfold f_X13_scanConstant qf_X13_scanConstant
  refine sm_gr hM_h (d := 238) rfl ?_
  refine sm_ai hM_h rfl e_a1 ?_; intro v32 y_v32 e_v32
  refine sm_eq e_v32 rfl ?_ ?_
  · refine sm_oq_add e_a1 rfl ?_; intro v35 y_v35 e_v35
    refine sm_is hM_h rfl ?_
    refine sm_cI (sf_X13_isByte nn e_v35 hM_h) ?_; intro u37 y_u37 M_u37 e_u37 hM_u37
    refine sm_ne e_u37 rfl ?_ ?_
    · refine sm_gr hM_u37 (d := 238) rfl ?_
      refine sm_oq_add e_a1 rfl ?_; intro v39 y_v39 e_v39
      refine sm_ai hM_u37 rfl e_v39 ?_; intro v40 y_v40 e_v40
      refine sm_lt e_v40 rfl ?_ ?_
      · exact sj_X13_scanConstant_68 nn e_a1 e_v40 hM_u37
      · refine sm_le e_v40 rfl ?_ ?_
        · exact sw_X13_scanConstant_77 nn nn e_a1 e_v40 rfl hM_u37
        · exact sj_X13_scanConstant_68 nn e_a1 e_v40 hM_u37
    · exact sm_rI e_a1 hM_u37
  · refine sm_eq e_v32 rfl ?_ ?_
    · refine sm_oq_add e_a1 rfl ?_; intro v44 y_v44 e_v44
      refine sm_is hM_h rfl ?_
      refine sm_cI (sf_X13_isByte nn e_v44 hM_h) ?_; intro u46 y_u46 M_u46 e_u46 hM_u46
      refine sm_oq_add e_a1 rfl ?_; intro v47 y_v47 e_v47
      exact sm_rI e_v47 hM_u46
    · refine sm_eq e_v32 rfl ?_ ?_
      · refine sm_oq_add e_a1 rfl ?_; intro v48 y_v48 e_v48
        refine sm_is hM_h rfl ?_
        refine sm_cI (sf_X13_isByte nn e_v48 hM_h) ?_; intro u50 y_u50 M_u50 e_u50 hM_u50
        refine sm_oq_add e_a1 rfl ?_; intro v51 y_v51 e_v51
        exact sm_rI e_v51 hM_u50
      · refine sm_eq e_v32 rfl ?_ ?_
        · refine sm_oq_add e_a1 rfl ?_; intro v52 y_v52 e_v52
          refine sm_is hM_h rfl ?_
          refine sm_cI (sf_X13_isByte nn e_v52 hM_h) ?_; intro u54 y_u54 M_u54 e_u54 hM_u54
          refine sm_oq_add e_a1 rfl ?_; intro v55 y_v55 e_v55
          exact sm_rI e_v55 hM_u54
        · refine sm_is hM_h rfl ?_
          refine sm_cV (sf_X13_unfit nn e_a1 hM_h) ?_; intro u34 hM_u34
          exact sm_rI e_a1 hM_u34
set_option maxRecDepth 4000 in
theorem sj_X13_scanFields_94 (nn : Nat) {kk_35 : Nat → Int32 → Int32 → Int32 → Int32 → mx_H → Option (Int32 × mx_H)} {qkk_35 : Int → Int → Int → Int → ms_M → Option (Int × ms_M)} (hk_kk_35 : ∀ {l1 : Int32} {y_l1 : Int} (e_l1 : l1.toInt = y_l1) {l2 : Int32} {y_l2 : Int} (e_l2 : l2.toInt = y_l2) {l3 : Int32} {y_l3 : Int} (e_l3 : l3.toInt = y_l3) {l4 : Int32} {y_l4 : Int} (e_l4 : l4.toInt = y_l4) {h : ms_M} (hM_h : Rg_M h), Sm_ RI_ (kk_35 160 l1 l2 l3 l4 (H_M h)) (qkk_35 y_l1 y_l2 y_l3 y_l4 h)) {l1 : Int32} {y_l1 : Int} (e_l1 : l1.toInt = y_l1) {l2 : Int32} {y_l2 : Int} (e_l2 : l2.toInt = y_l2) {l3 : Int32} {y_l3 : Int} (e_l3 : l3.toInt = y_l3) {l4 : Int32} {y_l4 : Int} (e_l4 : l4.toInt = y_l4) {h : ms_M} (hM_h : Rg_M h) : Sm_ RI_ (j_X13_scanFields_94 nn kk_35 160 l1 l2 l3 l4 (H_M h)) (qj_X13_scanFields_94 nn qkk_35 y_l1 y_l2 y_l3 y_l4 h) := by
  unfold j_X13_scanFields_94 qj_X13_scanFields_94
  refine sm_oq_add e_l3 rfl ?_; intro v1 y_v1 e_v1
  refine sm_is hM_h rfl ?_
  refine sm_cI (sf_X13_isByte nn e_v1 hM_h) ?_; intro u3 y_u3 M_u3 e_u3 hM_u3
  refine sm_eq e_u3 rfl ?_ ?_
  · refine sm_oq_add e_l3 rfl ?_; intro v4 y_v4 e_v4
    refine sm_oq_add e_l4 rfl ?_; intro v5 y_v5 e_v5
    exact hk_kk_35 e_l1 e_l2 e_v4 e_v5 hM_u3
  · refine sm_gr hM_u3 (d := 238) rfl ?_
    refine sm_oq_add e_l3 rfl ?_; intro v7 y_v7 e_v7
    refine sm_ai hM_u3 rfl e_v7 ?_; intro v8 y_v8 e_v8
    refine sm_is hM_u3 rfl ?_
    refine sm_cP (sf_X13_isText nn e_v8 rfl hM_u3) ?_; intro u10 y_u10 e_u10
    refine sm_ne e_u10 rfl ?_ ?_
    · refine sm_oq_add e_l3 rfl ?_; intro v11 y_v11 e_v11
      refine sm_oq_add e_l4 rfl ?_; intro v12 y_v12 e_v12
      exact hk_kk_35 e_l1 e_l2 e_v11 e_v12 hM_u3
    · refine sm_oq_add e_l3 rfl ?_; intro v13 y_v13 e_v13
      refine sm_is hM_u3 rfl ?_
      refine sm_cV (sf_X13_unfit nn e_v13 hM_u3) ?_; intro u15 hM_u15
      refine sm_oq_add e_l3 rfl ?_; intro v16 y_v16 e_v16
      refine sm_oq_add e_l4 rfl ?_; intro v17 y_v17 e_v17
      exact hk_kk_35 e_l1 e_l2 e_v16 e_v17 hM_u15
set_option maxRecDepth 4000 in
theorem sw_X13_scanFields_35 (nn : Nat) : ∀ (k : Nat) {l1 : Int32} {y_l1 : Int} (e_l1 : l1.toInt = y_l1) {l2 : Int32} {y_l2 : Int} (e_l2 : l2.toInt = y_l2) {l3 : Int32} {y_l3 : Int} (e_l3 : l3.toInt = y_l3) {l4 : Int32} {y_l4 : Int} (e_l4 : l4.toInt = y_l4) {h : ms_M} (hM_h : Rg_M h), Sm_ RI_ (w_X13_scanFields_35 nn k 160 l1 l2 l3 l4 (H_M h)) (qw_X13_scanFields_35 nn k y_l1 y_l2 y_l3 y_l4 h) := by
  intro k
  induction k with
  | zero => intros; exact sm_no
  | succ k ih =>
    intro l1 y_l1 e_l1 l2 y_l2 e_l2 l3 y_l3 e_l3 l4 y_l4 e_l4 h hM_h
    unfold w_X13_scanFields_35 qw_X13_scanFields_35
    refine sm_gr hM_h (d := 238) rfl ?_
    refine sm_ai hM_h rfl e_l2 ?_; intro v21 y_v21 e_v21
    refine sm_le e_v21 e_l4 ?_ ?_
    · exact sm_rI e_l3 hM_h
    · refine sm_gi hM_h rfl ?_; intro v22 e_v22
      refine sm_ne e_v22 rfl ?_ ?_
      · exact sm_rI e_l3 hM_h
      · refine sm_gr hM_h (d := 233) rfl ?_
        refine sm_oq_mul rfl e_l1 ?_; intro v24 y_v24 e_v24
        refine sm_oq_add e_v24 e_l4 ?_; intro v25 y_v25 e_v25
        refine sm_si hM_h rfl e_v25 e_l3 ?_; intro h26 hM_h26
        refine sm_is hM_h26 rfl ?_
        refine sm_cI (sf_X13_isByte nn e_l3 hM_h26) ?_; intro u28 y_u28 M_u28 e_u28 hM_u28
        refine sm_eq e_u28 rfl ?_ ?_
        · exact sj_X13_scanFields_94 nn ih e_l1 e_l2 e_l3 e_l4 hM_u28
        · refine sm_gr hM_u28 (d := 238) rfl ?_
          refine sm_ai hM_u28 rfl e_l3 ?_; intro v30 y_v30 e_v30
          refine sm_is hM_u28 rfl ?_
          refine sm_cP (sf_X13_isText nn e_v30 rfl hM_u28) ?_; intro u32 y_u32 e_u32
          refine sm_ne e_u32 rfl ?_ ?_
          · exact sj_X13_scanFields_94 nn ih e_l1 e_l2 e_l3 e_l4 hM_u28
          · refine sm_is hM_u28 rfl ?_
            refine sm_cV (sf_X13_unfit nn e_l3 hM_u28) ?_; intro u34 hM_u34
            exact sj_X13_scanFields_94 nn ih e_l1 e_l2 e_l3 e_l4 hM_u34
set_option maxRecDepth 4000 in
theorem sj_X13_scanFields_16 (nn : Nat) {l1 : Int32} {y_l1 : Int} (e_l1 : l1.toInt = y_l1) {l2 : Int32} {y_l2 : Int} (e_l2 : l2.toInt = y_l2) {h : ms_M} (hM_h : Rg_M h) : Sm_ RI_ (j_X13_scanFields_16 nn 160 l1 l2 (H_M h)) (qj_X13_scanFields_16 nn y_l1 y_l2 h) := by
  unfold j_X13_scanFields_16 qj_X13_scanFields_16
  refine sm_gr hM_h (d := 232) rfl ?_
  refine sm_gr hM_h (d := 238) rfl ?_
  refine sm_ai hM_h rfl e_l2 ?_; intro v41 y_v41 e_v41
  refine sm_si hM_h rfl e_l1 e_v41 ?_; intro h42 hM_h42
  refine sm_oq_add e_l2 rfl ?_; intro v43 y_v43 e_v43
  exact sw_X13_scanFields_35 nn nn e_l1 e_l2 e_v43 rfl hM_h42
set_option maxRecDepth 4000 in
theorem sf_X13_scanFields (nn : Nat) {a1 : Int32} {y_a1 : Int} (e_a1 : a1.toInt = y_a1) {a2 : Int32} {y_a2 : Int} (e_a2 : a2.toInt = y_a2) {h : ms_M} (hM_h : Rg_M h) : Sm_ RI_ (f_X13_scanFields nn 160 a1 a2 (H_M h)) (qf_X13_scanFields nn y_a1 y_a2 h) := by
  unfold f_X13_scanFields qf_X13_scanFields
  refine sm_gr hM_h (d := 238) rfl ?_
  refine sm_ai hM_h rfl e_a2 ?_; intro v45 y_v45 e_v45
  refine sm_le e_v45 rfl ?_ ?_
  · exact sj_X13_scanFields_16 nn e_a1 e_a2 hM_h
  · refine sm_is hM_h rfl ?_
    refine sm_cV (sf_X13_unfit nn e_a2 hM_h) ?_; intro u47 hM_u47
    exact sj_X13_scanFields_16 nn e_a1 e_a2 hM_u47
set_option maxRecDepth 4000 in
theorem sf_X13_pairAt (nn : Nat) {a1 : Int32} {y_a1 : Int} (e_a1 : a1.toInt = y_a1) {h : ms_M} (hM_h : Rg_M h) : Sm_ (RP_ h) (f_X13_pairAt nn 160 a1 (H_M h)) (qf_X13_pairAt nn y_a1 h) := by
  unfold f_X13_pairAt qf_X13_pairAt
  refine sm_gr hM_h (d := 238) rfl ?_
  refine sm_ai hM_h rfl e_a1 ?_; intro v2 y_v2 e_v2
  refine sm_oq_shl e_v2 rfl ?_; intro v3 y_v3 e_v3
  refine sm_gr hM_h (d := 238) rfl ?_
  refine sm_oq_add e_a1 rfl ?_; intro v5 y_v5 e_v5
  refine sm_ai hM_h rfl e_v5 ?_; intro v6 y_v6 e_v6
  refine sm_oq_or e_v3 e_v6 ?_; intro v7 y_v7 e_v7
  exact sm_rP e_v7
set_option maxRecDepth 4000 in
theorem sj_X13_scanTypes_55 (nn : Nat) {kk_24 : Nat → Int32 → Int32 → Int32 → mx_H → Option (Int32 × mx_H)} {qkk_24 : Int → Int → Int → ms_M → Option (Int × ms_M)} (hk_kk_24 : ∀ {l2 : Int32} {y_l2 : Int} (e_l2 : l2.toInt = y_l2) {l3 : Int32} {y_l3 : Int} (e_l3 : l3.toInt = y_l3) {l4 : Int32} {y_l4 : Int} (e_l4 : l4.toInt = y_l4) {h : ms_M} (hM_h : Rg_M h), Sm_ RI_ (kk_24 160 l2 l3 l4 (H_M h)) (qkk_24 y_l2 y_l3 y_l4 h)) {l2 : Int32} {y_l2 : Int} (e_l2 : l2.toInt = y_l2) {l3 : Int32} {y_l3 : Int} (e_l3 : l3.toInt = y_l3) {l4 : Int32} {y_l4 : Int} (e_l4 : l4.toInt = y_l4) {h : ms_M} (hM_h : Rg_M h) : Sm_ RI_ (j_X13_scanTypes_55 nn kk_24 160 l2 l3 l4 (H_M h)) (qj_X13_scanTypes_55 nn qkk_24 y_l2 y_l3 y_l4 h) := by
  unfold j_X13_scanTypes_55 qj_X13_scanTypes_55
  refine sm_gr hM_h (d := 238) rfl ?_
  refine sm_ai hM_h rfl e_l3 ?_; intro v2 y_v2 e_v2
  refine sm_ne e_v2 rfl ?_ ?_
  · refine sm_oq_add e_l3 rfl ?_; intro v3 y_v3 e_v3
    refine sm_oq_add e_l4 rfl ?_; intro v4 y_v4 e_v4
    exact hk_kk_24 e_l2 e_v3 e_v4 hM_h
  · refine sm_oq_add e_l3 rfl ?_; intro v5 y_v5 e_v5
    refine sm_is hM_h rfl ?_
    refine sm_cI (sf_X13_isByte nn e_v5 hM_h) ?_; intro u7 y_u7 M_u7 e_u7 hM_u7
    refine sm_eq e_u7 rfl ?_ ?_
    · refine sm_oq_add e_v5 rfl ?_; intro v8 y_v8 e_v8
      refine sm_oq_add e_l4 rfl ?_; intro v9 y_v9 e_v9
      exact hk_kk_24 e_l2 e_v8 e_v9 hM_u7
    · refine sm_gr hM_u7 (d := 238) rfl ?_
      refine sm_ai hM_u7 rfl e_v5 ?_; intro v11 y_v11 e_v11
      refine sm_is hM_u7 rfl ?_
      refine sm_cP (sf_X13_isClassConstant nn e_v11 rfl hM_u7) ?_; intro u13 y_u13 e_u13
      refine sm_ne e_u13 rfl ?_ ?_
      · refine sm_oq_add e_v5 rfl ?_; intro v14 y_v14 e_v14
        refine sm_oq_add e_l4 rfl ?_; intro v15 y_v15 e_v15
        exact hk_kk_24 e_l2 e_v14 e_v15 hM_u7
      · refine sm_is hM_u7 rfl ?_
        refine sm_cV (sf_X13_unfit nn e_v5 hM_u7) ?_; intro u17 hM_u17
        refine sm_oq_add e_v5 rfl ?_; intro v18 y_v18 e_v18
        refine sm_oq_add e_l4 rfl ?_; intro v19 y_v19 e_v19
        exact hk_kk_24 e_l2 e_v18 e_v19 hM_u17
set_option maxRecDepth 4000 in
theorem sw_X13_scanTypes_24 (nn : Nat) : ∀ (k : Nat) {l2 : Int32} {y_l2 : Int} (e_l2 : l2.toInt = y_l2) {l3 : Int32} {y_l3 : Int} (e_l3 : l3.toInt = y_l3) {l4 : Int32} {y_l4 : Int} (e_l4 : l4.toInt = y_l4) {h : ms_M} (hM_h : Rg_M h), Sm_ RI_ (w_X13_scanTypes_24 nn k 160 l2 l3 l4 (H_M h)) (qw_X13_scanTypes_24 nn k y_l2 y_l3 y_l4 h) := by
  intro k
  induction k with
  | zero => intros; exact sm_no
  | succ k ih =>
    intro l2 y_l2 e_l2 l3 y_l3 e_l3 l4 y_l4 e_l4 h hM_h
    unfold w_X13_scanTypes_24 qw_X13_scanTypes_24
    refine sm_le e_l2 e_l4 ?_ ?_
    · exact sm_rI e_l3 hM_h
    · refine sm_is hM_h rfl ?_
      refine sm_cI (sf_X13_isByte nn e_l3 hM_h) ?_; intro u24 y_u24 M_u24 e_u24 hM_u24
      refine sm_ne e_u24 rfl ?_ ?_
      · refine sm_gr hM_u24 (d := 238) rfl ?_
        refine sm_ai hM_u24 rfl e_l3 ?_; intro v26 y_v26 e_v26
        refine sm_le e_v26 rfl ?_ ?_
        · exact sj_X13_scanTypes_55 nn ih e_l2 e_l3 e_l4 hM_u24
        · refine sm_is hM_u24 rfl ?_
          refine sm_cV (sf_X13_unfit nn e_l3 hM_u24) ?_; intro u28 hM_u28
          exact sj_X13_scanTypes_55 nn ih e_l2 e_l3 e_l4 hM_u28
      · exact sm_rI e_l3 hM_u24
set_option maxRecDepth 4000 in
theorem sf_X13_scanTypes (nn : Nat) {a1 : Int32} {y_a1 : Int} (e_a1 : a1.toInt = y_a1) {h : ms_M} (hM_h : Rg_M h) : Sm_ RI_ (f_X13_scanTypes nn 160 a1 (H_M h)) (qf_X13_scanTypes nn y_a1 h) := by
  unfold f_X13_scanTypes qf_X13_scanTypes
  refine sm_is hM_h rfl ?_
  refine sm_cI (sf_X13_isByte nn e_a1 hM_h) ?_; intro u33 y_u33 M_u33 e_u33 hM_u33
  refine sm_ne e_u33 rfl ?_ ?_
  · refine sm_gr hM_u33 (d := 238) rfl ?_
    refine sm_ai hM_u33 rfl e_a1 ?_; intro v35 y_v35 e_v35
    refine sm_oq_add e_a1 rfl ?_; intro v36 y_v36 e_v36
    exact sw_X13_scanTypes_24 nn nn e_v35 e_v36 rfl hM_u33
  · exact sm_rI e_a1 hM_u33
set_option maxRecDepth 4000 in
theorem sw_X13_scanMethod_497 (nn : Nat) : ∀ (k : Nat) {l4 : Int32} {y_l4 : Int} (e_l4 : l4.toInt = y_l4) {l9 : Int32} {y_l9 : Int} (e_l9 : l9.toInt = y_l9) {l10 : Int32} {y_l10 : Int} (e_l10 : l10.toInt = y_l10) {h : ms_M} (hM_h : Rg_M h), Sm_ RI_ (w_X13_scanMethod_497 nn k 160 l4 l9 l10 (H_M h)) (qw_X13_scanMethod_497 nn k y_l4 y_l9 y_l10 h) := by
  intro k
  induction k with
  | zero => intros; exact sm_no
  | succ k ih =>
    intro l4 y_l4 e_l4 l9 y_l9 e_l9 l10 y_l10 e_l10 h hM_h
    unfold w_X13_scanMethod_497 qw_X13_scanMethod_497
    refine sm_le e_l9 e_l10 ?_ ?_
    · exact sm_rI e_l4 hM_h
    · refine sm_gi hM_h rfl ?_; intro v1 e_v1
      refine sm_ne e_v1 rfl ?_ ?_
      · exact sm_rI e_l4 hM_h
      · refine sm_oq_add e_l4 rfl ?_; intro v2 y_v2 e_v2
        refine sm_is hM_h rfl ?_
        refine sm_cI (sf_X13_isByte nn e_v2 hM_h) ?_; intro u4 y_u4 M_u4 e_u4 hM_u4
        refine sm_ne e_u4 rfl ?_ ?_
        · refine sm_oq_add e_l4 rfl ?_; intro v5 y_v5 e_v5
          refine sm_is hM_u4 rfl ?_
          refine sm_cI (sf_X13_scanTypes nn e_v5 hM_u4) ?_; intro u7 y_u7 M_u7 e_u7 hM_u7
          refine sm_is hM_u7 rfl ?_
          refine sm_cI (sf_X13_scanTypes nn e_u7 hM_u7) ?_; intro u9 y_u9 M_u9 e_u9 hM_u9
          refine sm_oq_add e_l10 rfl ?_; intro v10 y_v10 e_v10
          exact ih e_u9 e_l9 e_v10 hM_u9
        · exact sm_rI e_l4 hM_u4
set_option maxRecDepth 4000 in
theorem sj_X13_scanMethod_444 (nn : Nat) {l1 : Int32} {y_l1 : Int} (e_l1 : l1.toInt = y_l1) {l2 : Int32} {y_l2 : Int} (e_l2 : l2.toInt = y_l2) {l4 : Int32} {y_l4 : Int} (e_l4 : l4.toInt = y_l4) {h : ms_M} (hM_h : Rg_M h) : Sm_ RI_ (j_X13_scanMethod_444 nn 160 l1 l2 l4 (H_M h)) (qj_X13_scanMethod_444 nn y_l1 y_l2 y_l4 h) := by
  unfold j_X13_scanMethod_444 qj_X13_scanMethod_444
  refine sm_is hM_h rfl ?_
  refine sm_cI (sf_X13_isByte nn e_l4 hM_h) ?_; intro u15 y_u15 M_u15 e_u15 hM_u15
  refine sm_ne e_u15 rfl ?_ ?_
  · refine sm_gr hM_u15 (d := 237) rfl ?_
    refine sm_oq_mul rfl e_l1 ?_; intro v17 y_v17 e_v17
    refine sm_oq_add e_v17 e_l2 ?_; intro v18 y_v18 e_v18
    refine sm_si hM_u15 rfl e_v18 e_l4 ?_; intro h19 hM_h19
    refine sm_gr hM_h19 (d := 238) rfl ?_
    refine sm_ai hM_h19 rfl e_l4 ?_; intro v21 y_v21 e_v21
    refine sm_le e_v21 rfl ?_ ?_
    · refine sm_oq_add e_l4 rfl ?_; intro v22 y_v22 e_v22
      exact sw_X13_scanMethod_497 nn nn e_v22 e_v21 rfl hM_h19
    · refine sm_is hM_h19 rfl ?_
      refine sm_cV (sf_X13_unfit nn e_l4 hM_h19) ?_; intro u24 hM_u24
      refine sm_oq_add e_l4 rfl ?_; intro v25 y_v25 e_v25
      exact sw_X13_scanMethod_497 nn nn e_v25 e_v21 rfl hM_u24
  · exact sm_rI e_l4 hM_u15
set_option maxRecDepth 4000 in
theorem sw_X13_scanMethod_381 (nn : Nat) : ∀ (k : Nat) {l1 : Int32} {y_l1 : Int} (e_l1 : l1.toInt = y_l1) {l2 : Int32} {y_l2 : Int} (e_l2 : l2.toInt = y_l2) {l4 : Int32} {y_l4 : Int} (e_l4 : l4.toInt = y_l4) {l8 : Int32} {y_l8 : Int} (e_l8 : l8.toInt = y_l8) {l9 : Int32} {y_l9 : Int} (e_l9 : l9.toInt = y_l9) {h : ms_M} (hM_h : Rg_M h), Sm_ RI_ (w_X13_scanMethod_381 nn k 160 l1 l2 l4 l8 l9 (H_M h)) (qw_X13_scanMethod_381 nn k y_l1 y_l2 y_l4 y_l8 y_l9 h) := by
  intro k
  induction k with
  | zero => intros; exact sm_no
  | succ k ih =>
    intro l1 y_l1 e_l1 l2 y_l2 e_l2 l4 y_l4 e_l4 l8 y_l8 e_l8 l9 y_l9 e_l9 h hM_h
    unfold w_X13_scanMethod_381 qw_X13_scanMethod_381
    refine sm_le e_l8 e_l9 ?_ ?_
    · exact sj_X13_scanMethod_444 nn e_l1 e_l2 e_l4 hM_h
    · refine sm_gi hM_h rfl ?_; intro v28 e_v28
      refine sm_ne e_v28 rfl ?_ ?_
      · exact sj_X13_scanMethod_444 nn e_l1 e_l2 e_l4 hM_h
      · refine sm_oq_add e_l4 rfl ?_; intro v29 y_v29 e_v29
        refine sm_is hM_h rfl ?_
        refine sm_cI (sf_X13_isByte nn e_v29 hM_h) ?_; intro u31 y_u31 M_u31 e_u31 hM_u31
        refine sm_eq e_u31 rfl ?_ ?_
        · refine sm_oq_add e_l4 rfl ?_; intro v32 y_v32 e_v32
          refine sm_oq_add e_l9 rfl ?_; intro v33 y_v33 e_v33
          exact ih e_l1 e_l2 e_v32 e_l8 e_v33 hM_u31
        · refine sm_gr hM_u31 (d := 238) rfl ?_
          refine sm_oq_add e_l4 rfl ?_; intro v35 y_v35 e_v35
          refine sm_ai hM_u31 rfl e_v35 ?_; intro v36 y_v36 e_v36
          refine sm_is hM_u31 rfl ?_
          refine sm_cP (sf_X13_isClassConstant nn e_v36 rfl hM_u31) ?_; intro u38 y_u38 e_u38
          refine sm_ne e_u38 rfl ?_ ?_
          · refine sm_oq_add e_l4 rfl ?_; intro v39 y_v39 e_v39
            refine sm_oq_add e_l9 rfl ?_; intro v40 y_v40 e_v40
            exact ih e_l1 e_l2 e_v39 e_l8 e_v40 hM_u31
          · refine sm_oq_add e_l4 rfl ?_; intro v41 y_v41 e_v41
            refine sm_is hM_u31 rfl ?_
            refine sm_cV (sf_X13_unfit nn e_v41 hM_u31) ?_; intro u43 hM_u43
            refine sm_oq_add e_l4 rfl ?_; intro v44 y_v44 e_v44
            refine sm_oq_add e_l9 rfl ?_; intro v45 y_v45 e_v45
            exact ih e_l1 e_l2 e_v44 e_l8 e_v45 hM_u43
set_option maxRecDepth 4000 in
theorem sj_X13_scanMethod_328 (nn : Nat) {l1 : Int32} {y_l1 : Int} (e_l1 : l1.toInt = y_l1) {l2 : Int32} {y_l2 : Int} (e_l2 : l2.toInt = y_l2) {l4 : Int32} {y_l4 : Int} (e_l4 : l4.toInt = y_l4) {h : ms_M} (hM_h : Rg_M h) : Sm_ RI_ (j_X13_scanMethod_328 nn 160 l1 l2 l4 (H_M h)) (qj_X13_scanMethod_328 nn y_l1 y_l2 y_l4 h) := by
  unfold j_X13_scanMethod_328 qj_X13_scanMethod_328
  refine sm_is hM_h rfl ?_
  refine sm_cI (sf_X13_isByte nn e_l4 hM_h) ?_; intro u51 y_u51 M_u51 e_u51 hM_u51
  refine sm_ne e_u51 rfl ?_ ?_
  · refine sm_gr hM_u51 (d := 236) rfl ?_
    refine sm_oq_mul rfl e_l1 ?_; intro v53 y_v53 e_v53
    refine sm_oq_add e_v53 e_l2 ?_; intro v54 y_v54 e_v54
    refine sm_si hM_u51 rfl e_v54 e_l4 ?_; intro h55 hM_h55
    refine sm_gr hM_h55 (d := 238) rfl ?_
    refine sm_ai hM_h55 rfl e_l4 ?_; intro v57 y_v57 e_v57
    refine sm_le e_v57 rfl ?_ ?_
    · refine sm_oq_add e_l4 rfl ?_; intro v58 y_v58 e_v58
      exact sw_X13_scanMethod_381 nn nn e_l1 e_l2 e_v58 e_v57 rfl hM_h55
    · refine sm_is hM_h55 rfl ?_
      refine sm_cV (sf_X13_unfit nn e_l4 hM_h55) ?_; intro u60 hM_u60
      refine sm_oq_add e_l4 rfl ?_; intro v61 y_v61 e_v61
      exact sw_X13_scanMethod_381 nn nn e_l1 e_l2 e_v61 e_v57 rfl hM_u60
  · exact sm_rI e_l4 hM_u51
set_option maxRecDepth 4000 in
theorem sj_X13_scanMethod_293 (nn : Nat) {l1 : Int32} {y_l1 : Int} (e_l1 : l1.toInt = y_l1) {l2 : Int32} {y_l2 : Int} (e_l2 : l2.toInt = y_l2) {l4 : Int32} {y_l4 : Int} (e_l4 : l4.toInt = y_l4) {l7 : Int32} {y_l7 : Int} (e_l7 : l7.toInt = y_l7) {h : ms_M} (hM_h : Rg_M h) : Sm_ RI_ (j_X13_scanMethod_293 nn 160 l1 l2 l4 l7 (H_M h)) (qj_X13_scanMethod_293 nn y_l1 y_l2 y_l4 y_l7 h) := by
  unfold j_X13_scanMethod_293 qj_X13_scanMethod_293
  refine sm_oq_add rfl e_l7 ?_; intro v64 y_v64 e_v64
  refine sm_oq_add e_l4 e_v64 ?_; intro v65 y_v65 e_v65
  refine sm_gi hM_h rfl ?_; intro v66 e_v66
  refine sm_ne e_v66 rfl ?_ ?_
  · exact sj_X13_scanMethod_328 nn e_l1 e_l2 e_v65 hM_h
  · refine sm_gi hM_h rfl ?_; intro v67 e_v67
    refine sm_le e_v65 e_v67 ?_ ?_
    · exact sj_X13_scanMethod_328 nn e_l1 e_l2 e_v65 hM_h
    · refine sm_gi hM_h rfl ?_; intro v68 e_v68
      refine sm_pv hM_h rfl e_v68 ?_; intro h69 hM_h69
      exact sj_X13_scanMethod_328 nn e_l1 e_l2 e_v65 hM_h69
set_option maxRecDepth 4000 in
theorem sj_X13_scanMethod_285 (nn : Nat) {l1 : Int32} {y_l1 : Int} (e_l1 : l1.toInt = y_l1) {l2 : Int32} {y_l2 : Int} (e_l2 : l2.toInt = y_l2) {l4 : Int32} {y_l4 : Int} (e_l4 : l4.toInt = y_l4) {l7 : Int32} {y_l7 : Int} (e_l7 : l7.toInt = y_l7) {h : ms_M} (hM_h : Rg_M h) : Sm_ RI_ (j_X13_scanMethod_285 nn 160 l1 l2 l4 l7 (H_M h)) (qj_X13_scanMethod_285 nn y_l1 y_l2 y_l4 y_l7 h) := by
  unfold j_X13_scanMethod_285 qj_X13_scanMethod_285
  refine sm_oq_add e_l4 rfl ?_; intro v72 y_v72 e_v72
  refine sm_is hM_h rfl ?_
  refine sm_cV (sf_X13_unfit nn e_v72 hM_h) ?_; intro u74 hM_u74
  exact sj_X13_scanMethod_293 nn e_l1 e_l2 e_l4 e_l7 hM_u74
set_option maxRecDepth 4000 in
theorem sj_X13_scanMethod_232 (nn : Nat) {l1 : Int32} {y_l1 : Int} (e_l1 : l1.toInt = y_l1) {l2 : Int32} {y_l2 : Int} (e_l2 : l2.toInt = y_l2) {l4 : Int32} {y_l4 : Int} (e_l4 : l4.toInt = y_l4) {h : ms_M} (hM_h : Rg_M h) : Sm_ RI_ (j_X13_scanMethod_232 nn 160 l1 l2 l4 (H_M h)) (qj_X13_scanMethod_232 nn y_l1 y_l2 y_l4 h) := by
  unfold j_X13_scanMethod_232 qj_X13_scanMethod_232
  refine sm_oq_add e_l4 rfl ?_; intro v75 y_v75 e_v75
  refine sm_is hM_h rfl ?_
  refine sm_cI (sf_X13_isByte nn e_v75 hM_h) ?_; intro u77 y_u77 M_u77 e_u77 hM_u77
  refine sm_ne e_u77 rfl ?_ ?_
  · refine sm_oq_add e_l4 rfl ?_; intro v78 y_v78 e_v78
    refine sm_is hM_u77 rfl ?_
    refine sm_cI (sf_X13_isByte nn e_v78 hM_u77) ?_; intro u80 y_u80 M_u80 e_u80 hM_u80
    refine sm_ne e_u80 rfl ?_ ?_
    · refine sm_oq_add e_l4 rfl ?_; intro v81 y_v81 e_v81
      refine sm_is hM_u80 rfl ?_
      refine sm_cP (sf_X13_pairAt nn e_v81 hM_u80) ?_; intro u83 y_u83 e_u83
      refine sm_lt e_u83 rfl ?_ ?_
      · exact sj_X13_scanMethod_285 nn e_l1 e_l2 e_l4 e_u83 hM_u80
      · refine sm_le e_u83 rfl ?_ ?_
        · exact sj_X13_scanMethod_293 nn e_l1 e_l2 e_l4 e_u83 hM_u80
        · exact sj_X13_scanMethod_285 nn e_l1 e_l2 e_l4 e_u83 hM_u80
    · exact sm_rI e_l4 hM_u80
  · exact sm_rI e_l4 hM_u77
set_option maxRecDepth 4000 in
theorem sj_X13_scanMethod_224 (nn : Nat) {l1 : Int32} {y_l1 : Int} (e_l1 : l1.toInt = y_l1) {l2 : Int32} {y_l2 : Int} (e_l2 : l2.toInt = y_l2) {l4 : Int32} {y_l4 : Int} (e_l4 : l4.toInt = y_l4) {h : ms_M} (hM_h : Rg_M h) : Sm_ RI_ (j_X13_scanMethod_224 nn 160 l1 l2 l4 (H_M h)) (qj_X13_scanMethod_224 nn y_l1 y_l2 y_l4 h) := by
  unfold j_X13_scanMethod_224 qj_X13_scanMethod_224
  refine sm_oq_add e_l4 rfl ?_; intro v88 y_v88 e_v88
  refine sm_is hM_h rfl ?_
  refine sm_cV (sf_X13_unfit nn e_v88 hM_h) ?_; intro u90 hM_u90
  exact sj_X13_scanMethod_232 nn e_l1 e_l2 e_l4 hM_u90
set_option maxRecDepth 4000 in
theorem sj_X13_scanMethod_134 (nn : Nat) {l1 : Int32} {y_l1 : Int} (e_l1 : l1.toInt = y_l1) {l2 : Int32} {y_l2 : Int} (e_l2 : l2.toInt = y_l2) {l4 : Int32} {y_l4 : Int} (e_l4 : l4.toInt = y_l4) {h : ms_M} (hM_h : Rg_M h) : Sm_ RI_ (j_X13_scanMethod_134 nn 160 l1 l2 l4 (H_M h)) (qj_X13_scanMethod_134 nn y_l1 y_l2 y_l4 h) := by
  unfold j_X13_scanMethod_134 qj_X13_scanMethod_134
  refine sm_oq_add e_l4 rfl ?_; intro v91 y_v91 e_v91
  refine sm_is hM_h rfl ?_
  refine sm_cI (sf_X13_isByte nn e_v91 hM_h) ?_; intro u93 y_u93 M_u93 e_u93 hM_u93
  refine sm_ne e_u93 rfl ?_ ?_
  · refine sm_gr hM_u93 (d := 238) rfl ?_
    refine sm_oq_add e_l4 rfl ?_; intro v95 y_v95 e_v95
    refine sm_ai hM_u93 rfl e_v95 ?_; intro v96 y_v96 e_v96
    refine sm_is hM_u93 rfl ?_
    refine sm_cP (sf_X13_constantOf nn e_l1 e_v96 hM_u93) ?_; intro u98 y_u98 e_u98
    refine sm_gr hM_u93 (d := 238) rfl ?_
    refine sm_oq_add e_u98 rfl ?_; intro v100 y_v100 e_v100
    refine sm_gr hM_u93 (d := 238) rfl ?_
    refine sm_oq_add e_u98 rfl ?_; intro v102 y_v102 e_v102
    refine sm_ai hM_u93 rfl e_v102 ?_; intro v103 y_v103 e_v103
    refine sm_cP (sf_X13_parametersIn nn _ e_v100 e_v103 hM_u93) ?_; intro u104 y_u104 e_u104
    refine sm_oq_add e_u104 rfl ?_; intro v105 y_v105 e_v105
    refine sm_gr hM_u93 (d := 238) rfl ?_
    refine sm_ai hM_u93 rfl e_l4 ?_; intro v107 y_v107 e_v107
    refine sm_oq_sub e_v105 e_v107 ?_; intro v108 y_v108 e_v108
    refine sm_gr hM_u93 (d := 238) rfl ?_
    refine sm_oq_add e_l4 rfl ?_; intro v110 y_v110 e_v110
    refine sm_ai hM_u93 rfl e_v110 ?_; intro v111 y_v111 e_v111
    refine sm_lt rfl e_v111 ?_ ?_
    · exact sj_X13_scanMethod_224 nn e_l1 e_l2 e_l4 hM_u93
    · refine sm_gr hM_u93 (d := 238) rfl ?_
      refine sm_oq_add e_l4 rfl ?_; intro v113 y_v113 e_v113
      refine sm_ai hM_u93 rfl e_v113 ?_; intro v114 y_v114 e_v114
      refine sm_le e_v108 e_v114 ?_ ?_
      · exact sj_X13_scanMethod_232 nn e_l1 e_l2 e_l4 hM_u93
      · exact sj_X13_scanMethod_224 nn e_l1 e_l2 e_l4 hM_u93
  · exact sm_rI e_l4 hM_u93
set_option maxRecDepth 4000 in
theorem sj_X13_scanMethod_101 (nn : Nat) {l1 : Int32} {y_l1 : Int} (e_l1 : l1.toInt = y_l1) {l2 : Int32} {y_l2 : Int} (e_l2 : l2.toInt = y_l2) {l4 : Int32} {y_l4 : Int} (e_l4 : l4.toInt = y_l4) {h : ms_M} (hM_h : Rg_M h) : Sm_ RI_ (j_X13_scanMethod_101 nn 160 l1 l2 l4 (H_M h)) (qj_X13_scanMethod_101 nn y_l1 y_l2 y_l4 h) := by
  unfold j_X13_scanMethod_101 qj_X13_scanMethod_101
  refine sm_oq_add e_l4 rfl ?_; intro v118 y_v118 e_v118
  refine sm_is hM_h rfl ?_
  refine sm_cI (sf_X13_isByte nn e_v118 hM_h) ?_; intro u120 y_u120 M_u120 e_u120 hM_u120
  refine sm_eq e_u120 rfl ?_ ?_
  · exact sj_X13_scanMethod_134 nn e_l1 e_l2 e_l4 hM_u120
  · refine sm_gr hM_u120 (d := 238) rfl ?_
    refine sm_oq_add e_l4 rfl ?_; intro v122 y_v122 e_v122
    refine sm_ai hM_u120 rfl e_v122 ?_; intro v123 y_v123 e_v123
    refine sm_le e_v123 rfl ?_ ?_
    · exact sj_X13_scanMethod_134 nn e_l1 e_l2 e_l4 hM_u120
    · refine sm_oq_add e_l4 rfl ?_; intro v124 y_v124 e_v124
      refine sm_is hM_u120 rfl ?_
      refine sm_cV (sf_X13_unfit nn e_v124 hM_u120) ?_; intro u126 hM_u126
      exact sj_X13_scanMethod_134 nn e_l1 e_l2 e_l4 hM_u126
set_option maxRecDepth 4000 in
theorem sj_X13_scanMethod_65 (nn : Nat) {l1 : Int32} {y_l1 : Int} (e_l1 : l1.toInt = y_l1) {l2 : Int32} {y_l2 : Int} (e_l2 : l2.toInt = y_l2) {l4 : Int32} {y_l4 : Int} (e_l4 : l4.toInt = y_l4) {h : ms_M} (hM_h : Rg_M h) : Sm_ RI_ (j_X13_scanMethod_65 nn 160 l1 l2 l4 (H_M h)) (qj_X13_scanMethod_65 nn y_l1 y_l2 y_l4 h) := by
  unfold j_X13_scanMethod_65 qj_X13_scanMethod_65
  refine sm_oq_add e_l4 rfl ?_; intro v129 y_v129 e_v129
  refine sm_is hM_h rfl ?_
  refine sm_cI (sf_X13_isByte nn e_v129 hM_h) ?_; intro u131 y_u131 M_u131 e_u131 hM_u131
  refine sm_eq e_u131 rfl ?_ ?_
  · exact sj_X13_scanMethod_101 nn e_l1 e_l2 e_l4 hM_u131
  · refine sm_gr hM_u131 (d := 238) rfl ?_
    refine sm_oq_add e_l4 rfl ?_; intro v133 y_v133 e_v133
    refine sm_ai hM_u131 rfl e_v133 ?_; intro v134 y_v134 e_v134
    refine sm_is hM_u131 rfl ?_
    refine sm_cP (sf_X13_isText nn e_v134 rfl hM_u131) ?_; intro u136 y_u136 e_u136
    refine sm_ne e_u136 rfl ?_ ?_
    · exact sj_X13_scanMethod_101 nn e_l1 e_l2 e_l4 hM_u131
    · refine sm_oq_add e_l4 rfl ?_; intro v137 y_v137 e_v137
      refine sm_is hM_u131 rfl ?_
      refine sm_cV (sf_X13_unfit nn e_v137 hM_u131) ?_; intro u139 hM_u139
      exact sj_X13_scanMethod_101 nn e_l1 e_l2 e_l4 hM_u139
set_option maxRecDepth 4000 in
theorem sj_X13_scanMethod_29 (nn : Nat) {l1 : Int32} {y_l1 : Int} (e_l1 : l1.toInt = y_l1) {l2 : Int32} {y_l2 : Int} (e_l2 : l2.toInt = y_l2) {l4 : Int32} {y_l4 : Int} (e_l4 : l4.toInt = y_l4) {h : ms_M} (hM_h : Rg_M h) : Sm_ RI_ (j_X13_scanMethod_29 nn 160 l1 l2 l4 (H_M h)) (qj_X13_scanMethod_29 nn y_l1 y_l2 y_l4 h) := by
  unfold j_X13_scanMethod_29 qj_X13_scanMethod_29
  refine sm_oq_add e_l4 rfl ?_; intro v142 y_v142 e_v142
  refine sm_is hM_h rfl ?_
  refine sm_cI (sf_X13_isByte nn e_v142 hM_h) ?_; intro u144 y_u144 M_u144 e_u144 hM_u144
  refine sm_eq e_u144 rfl ?_ ?_
  · exact sj_X13_scanMethod_65 nn e_l1 e_l2 e_l4 hM_u144
  · refine sm_gr hM_u144 (d := 238) rfl ?_
    refine sm_oq_add e_l4 rfl ?_; intro v146 y_v146 e_v146
    refine sm_ai hM_u144 rfl e_v146 ?_; intro v147 y_v147 e_v147
    refine sm_is hM_u144 rfl ?_
    refine sm_cP (sf_X13_isText nn e_v147 rfl hM_u144) ?_; intro u149 y_u149 e_u149
    refine sm_ne e_u149 rfl ?_ ?_
    · exact sj_X13_scanMethod_65 nn e_l1 e_l2 e_l4 hM_u144
    · refine sm_oq_add e_l4 rfl ?_; intro v150 y_v150 e_v150
      refine sm_is hM_u144 rfl ?_
      refine sm_cV (sf_X13_unfit nn e_v150 hM_u144) ?_; intro u152 hM_u152
      exact sj_X13_scanMethod_65 nn e_l1 e_l2 e_l4 hM_u152
set_option maxRecDepth 4000 in
theorem sf_X13_scanMethod (nn : Nat) {a1 : Int32} {y_a1 : Int} (e_a1 : a1.toInt = y_a1) {a2 : Int32} {y_a2 : Int} (e_a2 : a2.toInt = y_a2) {a3 : Int32} {y_a3 : Int} (e_a3 : a3.toInt = y_a3) {h : ms_M} (hM_h : Rg_M h) : Sm_ RI_ (f_X13_scanMethod nn 160 a1 a2 a3 (H_M h)) (qf_X13_scanMethod nn y_a1 y_a2 y_a3 h) := by
  unfold f_X13_scanMethod qf_X13_scanMethod
  refine sm_is hM_h rfl ?_
  refine sm_cI (sf_X13_isByte nn e_a3 hM_h) ?_; intro u156 y_u156 M_u156 e_u156 hM_u156
  refine sm_eq e_u156 rfl ?_ ?_
  · exact sj_X13_scanMethod_29 nn e_a1 e_a2 e_a3 hM_u156
  · refine sm_gr hM_u156 (d := 238) rfl ?_
    refine sm_ai hM_u156 rfl e_a3 ?_; intro v158 y_v158 e_v158
    refine sm_le e_v158 rfl ?_ ?_
    · exact sj_X13_scanMethod_29 nn e_a1 e_a2 e_a3 hM_u156
    · refine sm_is hM_u156 rfl ?_
      refine sm_cV (sf_X13_unfit nn e_a3 hM_u156) ?_; intro u160 hM_u160
      exact sj_X13_scanMethod_29 nn e_a1 e_a2 e_a3 hM_u160
set_option maxRecDepth 4000 in
theorem sj_X13_scan_379 (nn : Nat) {l3 : Int32} {y_l3 : Int} (e_l3 : l3.toInt = y_l3) {h : ms_M} (hM_h : Rg_M h) : Sm_ RV_ (j_X13_scan_379 nn 160 l3 (H_M h)) (qj_X13_scan_379 nn y_l3 h) := by
  unfold j_X13_scan_379 qj_X13_scan_379
  refine sm_gi hM_h rfl ?_; intro v1 e_v1
  refine sm_ne e_v1 rfl ?_ ?_
  · exact sm_rV hM_h
  · refine sm_gi hM_h rfl ?_; intro v2 e_v2
    refine sm_le e_v2 e_l3 ?_ ?_
    · exact sm_rV hM_h
    · refine sm_is hM_h rfl ?_
      refine sm_cV (sf_X13_unfit nn e_l3 hM_h) ?_; intro u4 hM_u4
      exact sm_rV hM_u4
set_option maxRecDepth 4000 in
theorem sw_X13_scan_332 (nn : Nat) : ∀ (k : Nat) {l1 : Int32} {y_l1 : Int} (e_l1 : l1.toInt = y_l1) {l3 : Int32} {y_l3 : Int} (e_l3 : l3.toInt = y_l3) {l4 : Int32} {y_l4 : Int} (e_l4 : l4.toInt = y_l4) {h : ms_M} (hM_h : Rg_M h), Sm_ RV_ (w_X13_scan_332 nn k 160 l1 l3 l4 (H_M h)) (qw_X13_scan_332 nn k y_l1 y_l3 y_l4 h) := by
  intro k
  induction k with
  | zero => intros; exact sm_no
  | succ k ih =>
    intro l1 y_l1 e_l1 l3 y_l3 e_l3 l4 y_l4 e_l4 h hM_h
    unfold w_X13_scan_332 qw_X13_scan_332
    refine sm_gi hM_h rfl ?_; intro v7 e_v7
    refine sm_ne e_v7 rfl ?_ ?_
    · exact sj_X13_scan_379 nn e_l3 hM_h
    · refine sm_gr hM_h (d := 234) rfl ?_
      refine sm_ai hM_h rfl e_l1 ?_; intro v9 y_v9 e_v9
      refine sm_le e_v9 e_l4 ?_ ?_
      · exact sj_X13_scan_379 nn e_l3 hM_h
      · refine sm_gr hM_h (d := 235) rfl ?_
        refine sm_oq_mul rfl e_l1 ?_; intro v11 y_v11 e_v11
        refine sm_oq_add e_v11 e_l4 ?_; intro v12 y_v12 e_v12
        refine sm_si hM_h rfl e_v12 e_l3 ?_; intro h13 hM_h13
        refine sm_is hM_h13 rfl ?_
        refine sm_cI (sf_X13_scanMethod nn e_l1 e_l4 e_l3 hM_h13) ?_; intro u15 y_u15 M_u15 e_u15 hM_u15
        refine sm_oq_add e_l4 rfl ?_; intro v16 y_v16 e_v16
        exact ih e_l1 e_u15 e_v16 hM_u15
set_option maxRecDepth 4000 in
theorem sj_X13_scan_314 (nn : Nat) {l1 : Int32} {y_l1 : Int} (e_l1 : l1.toInt = y_l1) {l3 : Int32} {y_l3 : Int} (e_l3 : l3.toInt = y_l3) {h : ms_M} (hM_h : Rg_M h) : Sm_ RV_ (j_X13_scan_314 nn 160 l1 l3 (H_M h)) (qj_X13_scan_314 nn y_l1 y_l3 h) := by
  unfold j_X13_scan_314 qj_X13_scan_314
  refine sm_gr hM_h (d := 234) rfl ?_
  refine sm_gr hM_h (d := 238) rfl ?_
  refine sm_ai hM_h rfl e_l3 ?_; intro v21 y_v21 e_v21
  refine sm_si hM_h rfl e_l1 e_v21 ?_; intro h22 hM_h22
  refine sm_oq_add e_l3 rfl ?_; intro v23 y_v23 e_v23
  exact sw_X13_scan_332 nn nn e_l1 e_v23 rfl hM_h22
set_option maxRecDepth 4000 in
theorem sj_X13_scan_243 (nn : Nat) {l1 : Int32} {y_l1 : Int} (e_l1 : l1.toInt = y_l1) {l3 : Int32} {y_l3 : Int} (e_l3 : l3.toInt = y_l3) {h : ms_M} (hM_h : Rg_M h) : Sm_ RV_ (j_X13_scan_243 nn 160 l1 l3 (H_M h)) (qj_X13_scan_243 nn y_l1 y_l3 h) := by
  unfold j_X13_scan_243 qj_X13_scan_243
  refine sm_oq_add e_l3 rfl ?_; intro v24 y_v24 e_v24
  refine sm_is hM_h rfl ?_
  refine sm_cI (sf_X13_isByte nn e_v24 hM_h) ?_; intro u26 y_u26 M_u26 e_u26 hM_u26
  refine sm_ne e_u26 rfl ?_ ?_
  · refine sm_gr hM_u26 (d := 230) rfl ?_
    refine sm_gr hM_u26 (d := 238) rfl ?_
    refine sm_ai hM_u26 rfl e_l3 ?_; intro v29 y_v29 e_v29
    refine sm_si hM_u26 rfl e_l1 e_v29 ?_; intro h30 hM_h30
    refine sm_gr hM_h30 (d := 231) rfl ?_
    refine sm_gr hM_h30 (d := 238) rfl ?_
    refine sm_oq_add e_l3 rfl ?_; intro v33 y_v33 e_v33
    refine sm_ai hM_h30 rfl e_v33 ?_; intro v34 y_v34 e_v34
    refine sm_si hM_h30 rfl e_l1 e_v34 ?_; intro h35 hM_h35
    refine sm_oq_add e_l3 rfl ?_; intro v36 y_v36 e_v36
    refine sm_is hM_h35 rfl ?_
    refine sm_cI (sf_X13_scanFields nn e_l1 e_v36 hM_h35) ?_; intro u38 y_u38 M_u38 e_u38 hM_u38
    refine sm_is hM_u38 rfl ?_
    refine sm_cI (sf_X13_isByte nn e_u38 hM_u38) ?_; intro u40 y_u40 M_u40 e_u40 hM_u40
    refine sm_ne e_u40 rfl ?_ ?_
    · refine sm_gr hM_u40 (d := 238) rfl ?_
      refine sm_ai hM_u40 rfl e_u38 ?_; intro v42 y_v42 e_v42
      refine sm_le e_v42 rfl ?_ ?_
      · exact sj_X13_scan_314 nn e_l1 e_u38 hM_u40
      · refine sm_is hM_u40 rfl ?_
        refine sm_cV (sf_X13_unfit nn e_u38 hM_u40) ?_; intro u44 hM_u44
        exact sj_X13_scan_314 nn e_l1 e_u38 hM_u44
    · exact sm_rV hM_u40
  · exact sm_rV hM_u26
set_option maxRecDepth 4000 in
theorem sj_X13_scan_210 (nn : Nat) {l1 : Int32} {y_l1 : Int} (e_l1 : l1.toInt = y_l1) {l3 : Int32} {y_l3 : Int} (e_l3 : l3.toInt = y_l3) {h : ms_M} (hM_h : Rg_M h) : Sm_ RV_ (j_X13_scan_210 nn 160 l1 l3 (H_M h)) (qj_X13_scan_210 nn y_l1 y_l3 h) := by
  unfold j_X13_scan_210 qj_X13_scan_210
  refine sm_oq_add e_l3 rfl ?_; intro v48 y_v48 e_v48
  refine sm_is hM_h rfl ?_
  refine sm_cI (sf_X13_isByte nn e_v48 hM_h) ?_; intro u50 y_u50 M_u50 e_u50 hM_u50
  refine sm_eq e_u50 rfl ?_ ?_
  · exact sj_X13_scan_243 nn e_l1 e_l3 hM_u50
  · refine sm_gr hM_u50 (d := 238) rfl ?_
    refine sm_oq_add e_l3 rfl ?_; intro v52 y_v52 e_v52
    refine sm_ai hM_u50 rfl e_v52 ?_; intro v53 y_v53 e_v53
    refine sm_is hM_u50 rfl ?_
    refine sm_cP (sf_X13_isClassConstant nn e_v53 rfl hM_u50) ?_; intro u55 y_u55 e_u55
    refine sm_ne e_u55 rfl ?_ ?_
    · exact sj_X13_scan_243 nn e_l1 e_l3 hM_u50
    · refine sm_oq_add e_l3 rfl ?_; intro v56 y_v56 e_v56
      refine sm_is hM_u50 rfl ?_
      refine sm_cV (sf_X13_unfit nn e_v56 hM_u50) ?_; intro u58 hM_u58
      exact sj_X13_scan_243 nn e_l1 e_l3 hM_u58
set_option maxRecDepth 4000 in
theorem sj_X13_scan_183 (nn : Nat) {l1 : Int32} {y_l1 : Int} (e_l1 : l1.toInt = y_l1) {l3 : Int32} {y_l3 : Int} (e_l3 : l3.toInt = y_l3) {h : ms_M} (hM_h : Rg_M h) : Sm_ RV_ (j_X13_scan_183 nn 160 l1 l3 (H_M h)) (qj_X13_scan_183 nn y_l1 y_l3 h) := by
  unfold j_X13_scan_183 qj_X13_scan_183
  refine sm_is hM_h rfl ?_
  refine sm_cI (sf_X13_isByte nn e_l3 hM_h) ?_; intro u62 y_u62 M_u62 e_u62 hM_u62
  refine sm_eq e_u62 rfl ?_ ?_
  · exact sj_X13_scan_210 nn e_l1 e_l3 hM_u62
  · refine sm_gr hM_u62 (d := 238) rfl ?_
    refine sm_ai hM_u62 rfl e_l3 ?_; intro v64 y_v64 e_v64
    refine sm_is hM_u62 rfl ?_
    refine sm_cP (sf_X13_isClassConstant nn e_v64 rfl hM_u62) ?_; intro u66 y_u66 e_u66
    refine sm_ne e_u66 rfl ?_ ?_
    · exact sj_X13_scan_210 nn e_l1 e_l3 hM_u62
    · refine sm_is hM_u62 rfl ?_
      refine sm_cV (sf_X13_unfit nn e_l3 hM_u62) ?_; intro u68 hM_u68
      exact sj_X13_scan_210 nn e_l1 e_l3 hM_u68
set_option maxRecDepth 4000 in
theorem sw_X13_scan_146 (nn : Nat) : ∀ (k : Nat) {l1 : Int32} {y_l1 : Int} (e_l1 : l1.toInt = y_l1) {l2 : Int32} {y_l2 : Int} (e_l2 : l2.toInt = y_l2) {l3 : Int32} {y_l3 : Int} (e_l3 : l3.toInt = y_l3) {l4 : Int32} {y_l4 : Int} (e_l4 : l4.toInt = y_l4) {h : ms_M} (hM_h : Rg_M h), Sm_ RV_ (w_X13_scan_146 nn k 160 l1 l2 l3 l4 (H_M h)) (qw_X13_scan_146 nn k y_l1 y_l2 y_l3 y_l4 h) := by
  intro k
  induction k with
  | zero => intros; exact sm_no
  | succ k ih =>
    intro l1 y_l1 e_l1 l2 y_l2 e_l2 l3 y_l3 e_l3 l4 y_l4 e_l4 h hM_h
    unfold w_X13_scan_146 qw_X13_scan_146
    refine sm_lt e_l2 e_l4 ?_ ?_
    · exact sj_X13_scan_183 nn e_l1 e_l3 hM_h
    · refine sm_gi hM_h rfl ?_; intro v71 e_v71
      refine sm_ne e_v71 rfl ?_ ?_
      · exact sj_X13_scan_183 nn e_l1 e_l3 hM_h
      · refine sm_gr hM_h (d := 228) rfl ?_
        refine sm_oq_mul rfl e_l1 ?_; intro v73 y_v73 e_v73
        refine sm_oq_add e_v73 e_l4 ?_; intro v74 y_v74 e_v74
        refine sm_ai hM_h rfl e_v74 ?_; intro v75 y_v75 e_v75
        refine sm_is hM_h rfl ?_
        refine sm_cV (sf_X13_checkConstant nn e_v75 hM_h) ?_; intro u77 hM_u77
        refine sm_oq_add e_l4 rfl ?_; intro v78 y_v78 e_v78
        exact ih e_l1 e_l2 e_l3 e_v78 hM_u77
set_option maxRecDepth 4000 in
theorem sw_X13_scan_86 (nn : Nat) : ∀ (k : Nat) {l1 : Int32} {y_l1 : Int} (e_l1 : l1.toInt = y_l1) {l2 : Int32} {y_l2 : Int} (e_l2 : l2.toInt = y_l2) {l3 : Int32} {y_l3 : Int} (e_l3 : l3.toInt = y_l3) {l4 : Int32} {y_l4 : Int} (e_l4 : l4.toInt = y_l4) {h : ms_M} (hM_h : Rg_M h), Sm_ RV_ (w_X13_scan_86 nn k 160 l1 l2 l3 l4 (H_M h)) (qw_X13_scan_86 nn k y_l1 y_l2 y_l3 y_l4 h) := by
  intro k
  induction k with
  | zero => intros; exact sm_no
  | succ k ih =>
    intro l1 y_l1 e_l1 l2 y_l2 e_l2 l3 y_l3 e_l3 l4 y_l4 e_l4 h hM_h
    unfold w_X13_scan_86 qw_X13_scan_86
    refine sm_lt e_l2 e_l4 ?_ ?_
    · exact sw_X13_scan_146 nn nn e_l1 e_l2 e_l3 rfl hM_h
    · refine sm_gi hM_h rfl ?_; intro v81 e_v81
      refine sm_ne e_v81 rfl ?_ ?_
      · exact sw_X13_scan_146 nn nn e_l1 e_l2 e_l3 rfl hM_h
      · refine sm_is hM_h rfl ?_
        refine sm_cI (sf_X13_isByte nn e_l3 hM_h) ?_; intro u83 y_u83 M_u83 e_u83 hM_u83
        refine sm_ne e_u83 rfl ?_ ?_
        · refine sm_gr hM_u83 (d := 228) rfl ?_
          refine sm_oq_mul rfl e_l1 ?_; intro v85 y_v85 e_v85
          refine sm_oq_add e_v85 e_l4 ?_; intro v86 y_v86 e_v86
          refine sm_si hM_u83 rfl e_v86 e_l3 ?_; intro h87 hM_h87
          refine sm_gr hM_h87 (d := 229) rfl ?_
          refine sm_si hM_h87 rfl e_l1 e_l4 ?_; intro h89 hM_h89
          refine sm_is hM_h89 rfl ?_
          refine sm_cI (sf_X13_scanConstant nn e_l3 hM_h89) ?_; intro u91 y_u91 M_u91 e_u91 hM_u91
          refine sm_oq_add e_l4 rfl ?_; intro v92 y_v92 e_v92
          exact ih e_l1 e_l2 e_u91 e_v92 hM_u91
        · exact sm_rV hM_u83
set_option maxRecDepth 4000 in
theorem sj_X13_scan_65 (nn : Nat) {l1 : Int32} {y_l1 : Int} (e_l1 : l1.toInt = y_l1) {h : ms_M} (hM_h : Rg_M h) : Sm_ RV_ (j_X13_scan_65 nn 160 l1 (H_M h)) (qj_X13_scan_65 nn y_l1 h) := by
  unfold j_X13_scan_65 qj_X13_scan_65
  refine sm_is hM_h rfl ?_
  refine sm_cI (sf_X13_isByte nn rfl hM_h) ?_; intro u97 y_u97 M_u97 e_u97 hM_u97
  refine sm_ne e_u97 rfl ?_ ?_
  · refine sm_gr hM_u97 (d := 238) rfl ?_
    refine sm_ai hM_u97 rfl rfl ?_; intro v99 y_v99 e_v99
    exact sw_X13_scan_86 nn nn e_l1 e_v99 rfl rfl hM_u97
  · exact sm_rV hM_u97
set_option maxRecDepth 4000 in
theorem sj_X13_scan_41 (nn : Nat) {l1 : Int32} {y_l1 : Int} (e_l1 : l1.toInt = y_l1) {h : ms_M} (hM_h : Rg_M h) : Sm_ RV_ (j_X13_scan_41 nn 160 l1 (H_M h)) (qj_X13_scan_41 nn y_l1 h) := by
  unfold j_X13_scan_41 qj_X13_scan_41
  refine sm_is hM_h rfl ?_
  refine sm_cI (sf_X13_isByte nn rfl hM_h) ?_; intro u102 y_u102 M_u102 e_u102 hM_u102
  refine sm_eq e_u102 rfl ?_ ?_
  · exact sj_X13_scan_65 nn e_l1 hM_u102
  · refine sm_gr hM_u102 (d := 238) rfl ?_
    refine sm_ai hM_u102 rfl rfl ?_; intro v104 y_v104 e_v104
    refine sm_eq e_v104 rfl ?_ ?_
    · exact sj_X13_scan_65 nn e_l1 hM_u102
    · refine sm_is hM_u102 rfl ?_
      refine sm_cV (sf_X13_unfit nn rfl hM_u102) ?_; intro u106 hM_u106
      exact sj_X13_scan_65 nn e_l1 hM_u106
set_option maxRecDepth 4000 in
theorem sf_X13_scan (nn : Nat) {a1 : Int32} {y_a1 : Int} (e_a1 : a1.toInt = y_a1) {h : ms_M} (hM_h : Rg_M h) : Sm_ RV_ (f_X13_scan nn 160 a1 (H_M h)) (qf_X13_scan nn y_a1 h) := by
  unfold f_X13_scan qf_X13_scan
  refine sm_pv hM_h rfl e_a1 ?_; intro h109 hM_h109
  refine sm_pv hM_h109 rfl rfl ?_; intro h110 hM_h110
  refine sm_gr hM_h110 (d := 229) rfl ?_
  refine sm_si hM_h110 rfl e_a1 rfl ?_; intro h112 hM_h112
  refine sm_is hM_h112 rfl ?_
  refine sm_cI (sf_X13_isByte nn rfl hM_h112) ?_; intro u114 y_u114 M_u114 e_u114 hM_u114
  refine sm_eq e_u114 rfl ?_ ?_
  · exact sj_X13_scan_41 nn e_a1 hM_u114
  · refine sm_gr hM_u114 (d := 238) rfl ?_
    refine sm_ai hM_u114 rfl rfl ?_; intro v116 y_v116 e_v116
    refine sm_eq e_v116 rfl ?_ ?_
    · exact sj_X13_scan_41 nn e_a1 hM_u114
    · refine sm_is hM_u114 rfl ?_
      refine sm_cV (sf_X13_unfit nn rfl hM_u114) ?_; intro u118 hM_u118
      exact sj_X13_scan_41 nn e_a1 hM_u118
