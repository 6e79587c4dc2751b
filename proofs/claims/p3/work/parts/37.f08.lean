set_option maxRecDepth 4000 in
theorem fj_X13_unary_141 (nn : Nat) {rc : tq_X13_expression} (hr : fgr_X13_expression rc) {l1 : Int} {l4 : Int} {s0 : Int} {s1 : Int} {h : ms_M} : Fm_ (fun c k => nw_F wl_X13_unary wf_X13_unary false false c k = true) h (qj_X13_unary_141 nn rc l1 l4 s0 s1 h) (fun r => r.2) := by
  unfold qj_X13_unary_141
  have F_h : ∀ c k : Nat, (fun c k => nw_F wl_X13_unary wf_X13_unary false false c k = true) c k → h c k = h c k := fun _ _ _ => rfl
  refine fm_xl ?_; intro v1
  refine fm_up F_h (nw_nf rfl) ?_; intro h2 F_h2
  refine fm_xl ?_; intro v4
  refine fm_ca F_h2 (hr.2.2.1) (fun _ _ z => z) ?_; intro u6 F_u6
  refine fm_wA F_u6 (nw_ne rfl) ?_; intro h7 F_h7
  exact fm_ret F_h7
set_option maxRecDepth 4000 in
theorem fj_X13_unary_118 (nn : Nat) {rc : tq_X13_expression} (hr : fgr_X13_expression rc) {l1 : Int} {l2 : Int} {s0 : Int} {s1 : Int} {h : ms_M} : Fm_ (fun c k => nw_F wl_X13_unary wf_X13_unary false false c k = true) h (qj_X13_unary_118 nn rc l1 l2 s0 s1 h) (fun r => r.2) := by
  unfold qj_X13_unary_118
  have F_h : ∀ c k : Nat, (fun c k => nw_F wl_X13_unary wf_X13_unary false false c k = true) c k → h c k = h c k := fun _ _ _ => rfl
  refine fm_ca F_h (ff_X13_add nn) (nw_sub rfl) ?_; intro u10 F_u10
  refine fm_if ?_ ?_
  · exact fm_tl F_u10 (fj_X13_unary_141 nn hr) (fun _ _ z => z)
  · exact fm_tl F_u10 (fj_X13_unary_141 nn hr) (fun _ _ z => z)
set_option maxRecDepth 4000 in
theorem fj_X13_unary_78 (nn : Nat) {rc : tq_X13_expression} (hr : fgr_X13_expression rc) {l1 : Int} {l2 : Int} {s0 : Int} {h : ms_M} : Fm_ (fun c k => nw_F wl_X13_unary wf_X13_unary false false c k = true) h (qj_X13_unary_78 nn rc l1 l2 s0 h) (fun r => r.2) := by
  unfold qj_X13_unary_78
  have F_h : ∀ c k : Nat, (fun c k => nw_F wl_X13_unary wf_X13_unary false false c k = true) c k → h c k = h c k := fun _ _ _ => rfl
  refine fm_if ?_ ?_
  · refine fm_ca F_h (ff_X13_isDeep nn) (nw_sub rfl) ?_; intro u14 F_u14
    refine fm_if ?_ ?_
    · refine fm_if ?_ ?_
      · exact fm_tl F_u14 (fj_X13_unary_118 nn hr) (fun _ _ z => z)
      · refine fm_xl ?_; intro v17
        exact fm_tl F_u14 (fj_X13_unary_118 nn hr) (fun _ _ z => z)
    · exact fm_ret F_u14
  · refine fm_ca F_h (hr.2.2.2.2.1) (fun _ _ z => z) ?_; intro u21 F_u21
    exact fm_ret F_u21
set_option maxRecDepth 4000 in
theorem fo_X13_unary (nn : Nat) {rc : tq_X13_expression} (hr : fgr_X13_expression rc) {a1 : Int} {h : ms_M} : Fm_ (fun c k => nw_F wl_X13_unary wf_X13_unary false false c k = true) h (qo_X13_unary nn rc a1 h) (fun r => r.2) := by
  unfold qo_X13_unary
  have F_h : ∀ c k : Nat, (fun c k => nw_F wl_X13_unary wf_X13_unary false false c k = true) c k → h c k = h c k := fun _ _ _ => rfl
  refine fm_if ?_ ?_
  · refine fm_pu ?_; intro u25
    refine fm_pu ?_; intro u28
    refine fm_if ?_ ?_
    · refine fm_pu ?_; intro u31
      refine fm_if ?_ ?_
      · refine fm_pu ?_; intro u34
        refine fm_if ?_ ?_
        · refine fm_if ?_ ?_
          · exact fm_tl F_h (fj_X13_unary_78 nn hr) (fun _ _ z => z)
          · exact fm_tl F_h (fj_X13_unary_78 nn hr) (fun _ _ z => z)
        · exact fm_tl F_h (fj_X13_unary_78 nn hr) (fun _ _ z => z)
      · exact fm_tl F_h (fj_X13_unary_78 nn hr) (fun _ _ z => z)
    · exact fm_tl F_h (fj_X13_unary_78 nn hr) (fun _ _ z => z)
  · exact fm_ret F_h
set_option maxRecDepth 4000 in
theorem fj_X13_arguments_113 (nn : Nat) {rc : tq_X13_expression} (hr : fgr_X13_expression rc) {l2 : Int} {h : ms_M} : Fm_ (fun c k => nw_F wl_X13_arguments wf_X13_arguments false false c k = true) h (qj_X13_arguments_113 nn rc l2 h) (fun r => r.2) := by
  unfold qj_X13_arguments_113
  have F_h : ∀ c k : Nat, (fun c k => nw_F wl_X13_arguments wf_X13_arguments false false c k = true) c k → h c k = h c k := fun _ _ _ => rfl
  refine fm_ca F_h (ff_X13_sign_ nn) (nw_sub rfl) ?_; intro u2 F_u2
  exact fm_ret F_u2
set_option maxRecDepth 4000 in
theorem fj_X13_arguments_41 (nn : Nat) {rc : tq_X13_expression} (hr : fgr_X13_expression rc) {qkk_10 : Int → Int → Int → ms_M → Option (Int × ms_M)} (hk_kk_10 : ∀ {l1 : Int} {l2 : Int} {l3 : Int} {h : ms_M}, Fm_ (fun c k => nw_F wl_X13_arguments wf_X13_arguments false false c k = true) h (qkk_10 l1 l2 l3 h) (fun r => r.2)) {l1 : Int} {l2 : Int} {l3 : Int} {h : ms_M} : Fm_ (fun c k => nw_F wl_X13_arguments wf_X13_arguments false false c k = true) h (qj_X13_arguments_41 nn rc qkk_10 l1 l2 l3 h) (fun r => r.2) := by
  unfold qj_X13_arguments_41
  have F_h : ∀ c k : Nat, (fun c k => nw_F wl_X13_arguments wf_X13_arguments false false c k = true) c k → h c k = h c k := fun _ _ _ => rfl
  refine fm_ca F_h (hr.1) (fun _ _ z => z) ?_; intro u4 F_u4
  refine fm_if ?_ ?_
  · refine fm_rd ?_; intro v7
    refine fm_rd ?_; intro v9
    refine fm_ca F_u4 (ff_X13_add nn) (nw_sub rfl) ?_; intro u11 F_u11
    refine fm_wA F_u11 (nw_ne rfl) ?_; intro h13 F_h13
    refine fm_if ?_ ?_
    · refine fm_wA F_h13 (nw_ne rfl) ?_; intro h15 F_h15
      exact fm_tl F_h15 (hk_kk_10) (fun _ _ z => z)
    · exact fm_tl F_h13 (hk_kk_10) (fun _ _ z => z)
  · exact fm_ret F_u4
set_option maxRecDepth 4000 in
theorem fw_X13_arguments_10 (nn : Nat) {rc : tq_X13_expression} (hr : fgr_X13_expression rc) : ∀ (k : Nat) {l1 : Int} {l2 : Int} {l3 : Int} {h : ms_M}, Fm_ (fun c k => nw_F wl_X13_arguments wf_X13_arguments false false c k = true) h (qw_X13_arguments_10 nn rc k l1 l2 l3 h) (fun r => r.2) := by
  intro k
  induction k with
  | zero => intros; exact fm_no
  | succ k ih =>
    intro l1 l2 l3 h
    unfold qw_X13_arguments_10
    have F_h : ∀ c k : Nat, (fun c k => nw_F wl_X13_arguments wf_X13_arguments false false c k = true) c k → h c k = h c k := fun _ _ _ => rfl
    refine fm_if ?_ ?_
    · exact fm_tl F_h (fj_X13_arguments_113 nn hr) (fun _ _ z => z)
    · refine fm_pu ?_; intro u21
      refine fm_if ?_ ?_
      · exact fm_tl F_h (fj_X13_arguments_113 nn hr) (fun _ _ z => z)
      · refine fm_if ?_ ?_
        · exact fm_tl F_h (fj_X13_arguments_41 nn hr ih) (fun _ _ z => z)
        · refine fm_ca F_h (ff_X13_sign_ nn) (nw_sub rfl) ?_; intro u23 F_u23
          exact fm_tl F_u23 (fj_X13_arguments_41 nn hr ih) (fun _ _ z => z)
set_option maxRecDepth 4000 in
theorem fo_X13_arguments (nn : Nat) {rc : tq_X13_expression} (hr : fgr_X13_expression rc) {a1 : Int} {h : ms_M} : Fm_ (fun c k => nw_F wl_X13_arguments wf_X13_arguments false false c k = true) h (qo_X13_arguments nn rc a1 h) (fun r => r.2) := by
  unfold qo_X13_arguments
  have F_h : ∀ c k : Nat, (fun c k => nw_F wl_X13_arguments wf_X13_arguments false false c k = true) c k → h c k = h c k := fun _ _ _ => rfl
  refine fm_ca F_h (ff_X13_sign_ nn) (nw_sub rfl) ?_; intro u28 F_u28
  exact fm_tl F_u28 (fw_X13_arguments_10 nn hr _) (fun _ _ z => z)
set_option maxRecDepth 4000 in
theorem fj_X13_postfix_194 (nn : Nat) {rc : tq_X13_expression} (hr : fgr_X13_expression rc) {qkk_11 : Int → Int → Int → ms_M → Option (Int × ms_M)} (hk_kk_11 : ∀ {l1 : Int} {l2 : Int} {l3 : Int} {h : ms_M}, Fm_ (fun c k => nw_F wl_X13_postfix wf_X13_postfix false false c k = true) h (qkk_11 l1 l2 l3 h) (fun r => r.2)) {l1 : Int} {l2 : Int} {l4 : Int} {h : ms_M} : Fm_ (fun c k => nw_F wl_X13_postfix wf_X13_postfix false false c k = true) h (qj_X13_postfix_194 nn rc qkk_11 l1 l2 l4 h) (fun r => r.2) := by
  unfold qj_X13_postfix_194
  have F_h : ∀ c k : Nat, (fun c k => nw_F wl_X13_postfix wf_X13_postfix false false c k = true) c k → h c k = h c k := fun _ _ _ => rfl
  refine fm_ca F_h (ff_X13_sign_ nn) (nw_sub rfl) ?_; intro u2 F_u2
  exact fm_tl F_u2 (hk_kk_11) (fun _ _ z => z)
set_option maxRecDepth 4000 in
theorem fj_X13_postfix_44 (nn : Nat) {rc : tq_X13_expression} (hr : fgr_X13_expression rc) {qkk_11 : Int → Int → Int → ms_M → Option (Int × ms_M)} (hk_kk_11 : ∀ {l1 : Int} {l2 : Int} {l3 : Int} {h : ms_M}, Fm_ (fun c k => nw_F wl_X13_postfix wf_X13_postfix false false c k = true) h (qkk_11 l1 l2 l3 h) (fun r => r.2)) {l1 : Int} {l2 : Int} {l3 : Int} {h : ms_M} : Fm_ (fun c k => nw_F wl_X13_postfix wf_X13_postfix false false c k = true) h (qj_X13_postfix_44 nn rc qkk_11 l1 l2 l3 h) (fun r => r.2) := by
  unfold qj_X13_postfix_44
  have F_h : ∀ c k : Nat, (fun c k => nw_F wl_X13_postfix wf_X13_postfix false false c k = true) c k → h c k = h c k := fun _ _ _ => rfl
  refine fm_pu ?_; intro u5
  refine fm_if ?_ ?_
  · refine fm_ca F_h (ff_X13_add nn) (nw_sub rfl) ?_; intro u8 F_u8
    refine fm_xl ?_; intro v10
    refine fm_up F_u8 (nw_nf rfl) ?_; intro h11 F_h11
    refine fm_wA F_h11 (nw_ne rfl) ?_; intro h13 F_h13
    refine fm_ca F_h13 (hr.1) (fun _ _ z => z) ?_; intro u16 F_u16
    refine fm_wA F_u16 (nw_ne rfl) ?_; intro h17 F_h17
    exact fm_tl F_h17 (fj_X13_postfix_194 nn hr hk_kk_11) (fun _ _ z => z)
  · refine fm_ca F_h (ff_X13_add nn) (nw_sub rfl) ?_; intro u19 F_u19
    refine fm_wA F_u19 (nw_ne rfl) ?_; intro h22 F_h22
    refine fm_xl ?_; intro v24
    refine fm_up F_h22 (nw_nf rfl) ?_; intro h25 F_h25
    refine fm_ca F_h25 (ff_X13_name nn) (nw_sub rfl) ?_; intro u28 F_u28
    refine fm_wA F_u28 (nw_ne rfl) ?_; intro h29 F_h29
    refine fm_wA F_h29 (nw_ne rfl) ?_; intro h31 F_h31
    refine fm_if ?_ ?_
    · exact fm_tl F_h31 (hk_kk_11) (fun _ _ z => z)
    · refine fm_pu ?_; intro u35
      refine fm_if ?_ ?_
      · exact fm_tl F_h31 (hk_kk_11) (fun _ _ z => z)
      · refine fm_wA F_h31 (nw_ne rfl) ?_; intro h37 F_h37
        refine fm_ca F_h37 (hr.2.2.2.1) (fun _ _ z => z) ?_; intro u40 F_u40
        refine fm_wA F_u40 (nw_ne rfl) ?_; intro h41 F_h41
        exact fm_tl F_h41 (hk_kk_11) (fun _ _ z => z)
set_option maxRecDepth 4000 in
theorem fw_X13_postfix_11 (nn : Nat) {rc : tq_X13_expression} (hr : fgr_X13_expression rc) : ∀ (k : Nat) {l1 : Int} {l2 : Int} {l3 : Int} {h : ms_M}, Fm_ (fun c k => nw_F wl_X13_postfix wf_X13_postfix false false c k = true) h (qw_X13_postfix_11 nn rc k l1 l2 l3 h) (fun r => r.2) := by
  intro k
  induction k with
  | zero => intros; exact fm_no
  | succ k ih =>
    intro l1 l2 l3 h
    unfold qw_X13_postfix_11
    have F_h : ∀ c k : Nat, (fun c k => nw_F wl_X13_postfix wf_X13_postfix false false c k = true) c k → h c k = h c k := fun _ _ _ => rfl
    refine fm_if ?_ ?_
    · exact fm_ret F_h
    · refine fm_pu ?_; intro u48
      refine fm_if ?_ ?_
      · exact fm_tl F_h (fj_X13_postfix_44 nn hr ih) (fun _ _ z => z)
      · refine fm_pu ?_; intro u51
        refine fm_if ?_ ?_
        · exact fm_ret F_h
        · exact fm_tl F_h (fj_X13_postfix_44 nn hr ih) (fun _ _ z => z)
set_option maxRecDepth 4000 in
theorem fo_X13_postfix (nn : Nat) {rc : tq_X13_expression} (hr : fgr_X13_expression rc) {a1 : Int} {h : ms_M} : Fm_ (fun c k => nw_F wl_X13_postfix wf_X13_postfix false false c k = true) h (qo_X13_postfix nn rc a1 h) (fun r => r.2) := by
  unfold qo_X13_postfix
  have F_h : ∀ c k : Nat, (fun c k => nw_F wl_X13_postfix wf_X13_postfix false false c k = true) c k → h c k = h c k := fun _ _ _ => rfl
  refine fm_ca F_h (hr.2.2.2.2.2.1) (fun _ _ z => z) ?_; intro u57 F_u57
  exact fm_tl F_u57 (fw_X13_postfix_11 nn hr _) (fun _ _ z => z)
set_option maxRecDepth 4000 in
theorem fj_X13_primary_283 (nn : Nat) {rc : tq_X13_expression} (hr : fgr_X13_expression rc) {h : ms_M} : Fm_ (fun c k => nw_F wl_X13_primary wf_X13_primary false false c k = true) h (qj_X13_primary_283 nn rc h) (fun r => r.2) := by
  unfold qj_X13_primary_283
  have F_h : ∀ c k : Nat, (fun c k => nw_F wl_X13_primary wf_X13_primary false false c k = true) c k → h c k = h c k := fun _ _ _ => rfl
  refine fm_ca F_h (ff_X13_misplaced nn) (nw_sub rfl) ?_; intro u2 F_u2
  exact fm_ret F_u2
set_option maxRecDepth 4000 in
theorem fj_X13_primary_264 (nn : Nat) {rc : tq_X13_expression} (hr : fgr_X13_expression rc) {l2 : Int} {s0 : Int} {h : ms_M} : Fm_ (fun c k => nw_F wl_X13_primary wf_X13_primary false false c k = true) h (qj_X13_primary_264 nn rc l2 s0 h) (fun r => r.2) := by
  unfold qj_X13_primary_264
  have F_h : ∀ c k : Nat, (fun c k => nw_F wl_X13_primary wf_X13_primary false false c k = true) c k → h c k = h c k := fun _ _ _ => rfl
  refine fm_ca F_h (ff_X13_add nn) (nw_sub rfl) ?_; intro u4 F_u4
  exact fm_ret F_u4
set_option maxRecDepth 4000 in
theorem fj_X13_primary_215 (nn : Nat) {rc : tq_X13_expression} (hr : fgr_X13_expression rc) {l2 : Int} {l4 : Int} {h : ms_M} : Fm_ (fun c k => nw_F wl_X13_primary wf_X13_primary false false c k = true) h (qj_X13_primary_215 nn rc l2 l4 h) (fun r => r.2) := by
  unfold qj_X13_primary_215
  have F_h : ∀ c k : Nat, (fun c k => nw_F wl_X13_primary wf_X13_primary false false c k = true) c k → h c k = h c k := fun _ _ _ => rfl
  refine fm_xl ?_; intro v6
  refine fm_up F_h (nw_nf rfl) ?_; intro h7 F_h7
  refine fm_if ?_ ?_
  · refine fm_if ?_ ?_
    · refine fm_if ?_ ?_
      · exact fm_tl F_h7 (fj_X13_primary_264 nn hr) (fun _ _ z => z)
      · exact fm_tl F_h7 (fj_X13_primary_264 nn hr) (fun _ _ z => z)
    · exact fm_tl F_h7 (fj_X13_primary_264 nn hr) (fun _ _ z => z)
  · exact fm_tl F_h7 (fj_X13_primary_264 nn hr) (fun _ _ z => z)
set_option maxRecDepth 4000 in
theorem fj_X13_primary_138 (nn : Nat) {rc : tq_X13_expression} (hr : fgr_X13_expression rc) {l2 : Int} {l3 : Int} {h : ms_M} : Fm_ (fun c k => nw_F wl_X13_primary wf_X13_primary false false c k = true) h (qj_X13_primary_138 nn rc l2 l3 h) (fun r => r.2) := by
  unfold qj_X13_primary_138
  have F_h : ∀ c k : Nat, (fun c k => nw_F wl_X13_primary wf_X13_primary false false c k = true) c k → h c k = h c k := fun _ _ _ => rfl
  refine fm_if ?_ ?_
  · refine fm_wA F_h (nw_ne rfl) ?_; intro h13 F_h13
    refine fm_wZ F_h13 (nw_ne rfl) ?_; intro h15 F_h15
    exact fm_ret F_h15
  · exact fm_ret F_h
set_option maxRecDepth 4000 in
theorem fo_X13_primary (nn : Nat) {rc : tq_X13_expression} (hr : fgr_X13_expression rc) {a1 : Int} {h : ms_M} : Fm_ (fun c k => nw_F wl_X13_primary wf_X13_primary false false c k = true) h (qo_X13_primary nn rc a1 h) (fun r => r.2) := by
  unfold qo_X13_primary
  have F_h : ∀ c k : Nat, (fun c k => nw_F wl_X13_primary wf_X13_primary false false c k = true) c k → h c k = h c k := fun _ _ _ => rfl
  refine fm_rd ?_; intro v20
  refine fm_if ?_ ?_
  · refine fm_rd ?_; intro v23
    refine fm_if ?_ ?_
    · refine fm_pu ?_; intro u26
      refine fm_if ?_ ?_
      · refine fm_rd ?_; intro v29
        refine fm_if ?_ ?_
        · exact fm_tl F_h (fj_X13_primary_283 nn hr) (fun _ _ z => z)
        · refine fm_rd ?_; intro v32
          refine fm_if ?_ ?_
          · exact fm_tl F_h (fj_X13_primary_215 nn hr) (fun _ _ z => z)
          · refine fm_if ?_ ?_
            · exact fm_tl F_h (fj_X13_primary_215 nn hr) (fun _ _ z => z)
            · refine fm_if ?_ ?_
              · exact fm_tl F_h (fj_X13_primary_215 nn hr) (fun _ _ z => z)
              · refine fm_if ?_ ?_
                · refine fm_if ?_ ?_
                  · exact fm_tl F_h (fj_X13_primary_283 nn hr) (fun _ _ z => z)
                  · refine fm_ca F_h (hr.2.2.2.2.2.2) (fun _ _ z => z) ?_; intro u34 F_u34
                    exact fm_ret F_u34
                · exact fm_tl F_h (fj_X13_primary_215 nn hr) (fun _ _ z => z)
      · refine fm_xl ?_; intro v42
        refine fm_up F_h (nw_nf rfl) ?_; intro h43 F_h43
        refine fm_ca F_h43 (hr.1) (fun _ _ z => z) ?_; intro u45 F_u45
        refine fm_ca F_u45 (ff_X13_sign_ nn) (nw_sub rfl) ?_; intro u47 F_u47
        exact fm_tl F_u47 (fj_X13_primary_138 nn hr) (fun _ _ z => z)
    · refine fm_xl ?_; intro v50
      refine fm_up F_h (nw_nf rfl) ?_; intro h51 F_h51
      refine fm_ca F_h51 (ff_X13_add nn) (nw_sub rfl) ?_; intro u53 F_u53
      refine fm_pu ?_; intro u56
      refine fm_if ?_ ?_
      · exact fm_ret F_u53
      · refine fm_wA F_u53 (nw_ne rfl) ?_; intro h58 F_h58
        refine fm_ca F_h58 (hr.2.2.2.1) (fun _ _ z => z) ?_; intro u61 F_u61
        refine fm_wA F_u61 (nw_ne rfl) ?_; intro h62 F_h62
        exact fm_ret F_h62
  · refine fm_xl ?_; intro v66
    refine fm_up F_h (nw_nf rfl) ?_; intro h67 F_h67
    refine fm_ca F_h67 (ff_X13_add nn) (nw_sub rfl) ?_; intro u69 F_u69
    exact fm_ret F_u69
set_option maxRecDepth 4000 in
theorem fj_X13_fresh_142 (nn : Nat) {rc : tq_X13_expression} (hr : fgr_X13_expression rc) {l1 : Int} {l4 : Int} {h : ms_M} : Fm_ (fun c k => nw_F wl_X13_fresh wf_X13_fresh false false c k = true) h (qj_X13_fresh_142 nn rc l1 l4 h) (fun r => r.2) := by
  unfold qj_X13_fresh_142
  have F_h : ∀ c k : Nat, (fun c k => nw_F wl_X13_fresh wf_X13_fresh false false c k = true) c k → h c k = h c k := fun _ _ _ => rfl
  refine fm_ca F_h (hr.1) (fun _ _ z => z) ?_; intro u3 F_u3
  refine fm_wA F_u3 (nw_ne rfl) ?_; intro h4 F_h4
  refine fm_ca F_h4 (ff_X13_sign_ nn) (nw_sub rfl) ?_; intro u6 F_u6
  exact fm_ret F_u6
set_option maxRecDepth 4000 in
theorem fo_X13_fresh (nn : Nat) {rc : tq_X13_expression} (hr : fgr_X13_expression rc) {a1 : Int} {h : ms_M} : Fm_ (fun c k => nw_F wl_X13_fresh wf_X13_fresh false false c k = true) h (qo_X13_fresh nn rc a1 h) (fun r => r.2) := by
  unfold qo_X13_fresh
  have F_h : ∀ c k : Nat, (fun c k => nw_F wl_X13_fresh wf_X13_fresh false false c k = true) c k → h c k = h c k := fun _ _ _ => rfl
  refine fm_xl ?_; intro v9
  refine fm_up F_h (nw_nf rfl) ?_; intro h10 F_h10
  refine fm_pu ?_; intro u13
  refine fm_if ?_ ?_
  · refine fm_ca F_h10 (ff_X13_name nn) (nw_sub rfl) ?_; intro u15 F_u15
    refine fm_if ?_ ?_
    · refine fm_ca F_u15 (ff_X13_add nn) (nw_sub rfl) ?_; intro u18 F_u18
      refine fm_pu ?_; intro u21
      refine fm_if ?_ ?_
      · refine fm_ca F_u18 (ff_X13_sign_ nn) (nw_sub rfl) ?_; intro u23 F_u23
        refine fm_ca F_u23 (ff_X13_sign_ nn) (nw_sub rfl) ?_; intro u25 F_u25
        exact fm_ret F_u25
      · refine fm_wA F_u18 (nw_ne rfl) ?_; intro h27 F_h27
        refine fm_wA F_h27 (nw_ne rfl) ?_; intro h30 F_h30
        refine fm_xl ?_; intro v32
        refine fm_up F_h30 (nw_nf rfl) ?_; intro h33 F_h33
        exact fm_tl F_h33 (fj_X13_fresh_142 nn hr) (fun _ _ z => z)
    · exact fm_ret F_u15
  · refine fm_xl ?_; intro v37
    refine fm_up F_h10 (nw_nf rfl) ?_; intro h38 F_h38
    refine fm_ca F_h38 (ff_X13_add nn) (nw_sub rfl) ?_; intro u41 F_u41
    refine fm_ca F_u41 (ff_X13_sign_ nn) (nw_sub rfl) ?_; intro u43 F_u43
    refine fm_ca F_u43 (hr.1) (fun _ _ z => z) ?_; intro u46 F_u46
    refine fm_wA F_u46 (nw_ne rfl) ?_; intro h47 F_h47
    refine fm_ca F_h47 (ff_X13_sign_ nn) (nw_sub rfl) ?_; intro u49 F_u49
    exact fm_ret F_u49
set_option maxRecDepth 4000 in
theorem fg_X13_expression (nn : Nat) : ∀ d, fgr_X13_expression (qg_X13_expression nn d) := by
  intro d
  induction d with
  | zero => exact ⟨(by intros; exact fm_no), (by intros; exact fm_no), (by intros; exact fm_no), (by intros; exact fm_no), (by intros; exact fm_no), (by intros; exact fm_no), (by intros; exact fm_no)⟩
  | succ d ih => exact ⟨fo_X13_expression nn ih, fo_X13_sides nn ih, fo_X13_unary nn ih, fo_X13_arguments nn ih, fo_X13_postfix nn ih, fo_X13_primary nn ih, fo_X13_fresh nn ih⟩
set_option maxRecDepth 4000 in
theorem ff_X13_expression (nn : Nat) {a1 : Int} {h : ms_M} : Fm_ (fun c k => nw_F wl_X13_expression wf_X13_expression false false c k = true) h (qf_X13_expression nn a1 h) (fun r => r.2) := (fg_X13_expression nn 700).1
set_option maxRecDepth 4000 in
theorem ff_X13_sides (nn : Nat) {a1 : Int} {a2 : Int} {h : ms_M} : Fm_ (fun c k => nw_F wl_X13_sides wf_X13_sides false false c k = true) h (qf_X13_sides nn a1 a2 h) (fun r => r.2) := (fg_X13_expression nn 700).2.1
set_option maxRecDepth 4000 in
theorem ff_X13_unary (nn : Nat) {a1 : Int} {h : ms_M} : Fm_ (fun c k => nw_F wl_X13_unary wf_X13_unary false false c k = true) h (qf_X13_unary nn a1 h) (fun r => r.2) := (fg_X13_expression nn 700).2.2.1
set_option maxRecDepth 4000 in
theorem ff_X13_arguments (nn : Nat) {a1 : Int} {h : ms_M} : Fm_ (fun c k => nw_F wl_X13_arguments wf_X13_arguments false false c k = true) h (qf_X13_arguments nn a1 h) (fun r => r.2) := (fg_X13_expression nn 700).2.2.2.1
set_option maxRecDepth 4000 in
theorem ff_X13_postfix (nn : Nat) {a1 : Int} {h : ms_M} : Fm_ (fun c k => nw_F wl_X13_postfix wf_X13_postfix false false c k = true) h (qf_X13_postfix nn a1 h) (fun r => r.2) := (fg_X13_expression nn 700).2.2.2.2.1
set_option maxRecDepth 4000 in
theorem ff_X13_primary (nn : Nat) {a1 : Int} {h : ms_M} : Fm_ (fun c k => nw_F wl_X13_primary wf_X13_primary false false c k = true) h (qf_X13_primary nn a1 h) (fun r => r.2) := (fg_X13_expression nn 700).2.2.2.2.2.1
set_option maxRecDepth 4000 in
theorem ff_X13_fresh (nn : Nat) {a1 : Int} {h : ms_M} : Fm_ (fun c k => nw_F wl_X13_fresh wf_X13_fresh false false c k = true) h (qf_X13_fresh nn a1 h) (fun r => r.2) := (fg_X13_expression nn 700).2.2.2.2.2.2
set_option maxRecDepth 4000 in
theorem fj_X13_plain_89 (nn : Nat) {l2 : Int} {h : ms_M} : Fm_ (fun c k => nw_F wl_X13_plain wf_X13_plain false false c k = true) h (qj_X13_plain_89 nn l2 h) (fun r => r.2) := by
  unfold qj_X13_plain_89
  have F_h : ∀ c k : Nat, (fun c k => nw_F wl_X13_plain wf_X13_plain false false c k = true) c k → h c k = h c k := fun _ _ _ => rfl
  refine fm_ca F_h (ff_X13_sign_ nn) (nw_sub rfl) ?_; intro u2 F_u2
  exact fm_ret F_u2
set_option maxRecDepth 4000 in
theorem ff_X13_plain (nn : Nat) {a1 : Int} {h : ms_M} : Fm_ (fun c k => nw_F wl_X13_plain wf_X13_plain false false c k = true) h (qf_X13_plain nn a1 h) (fun r => r.2) := by
  unfold qf_X13_plain
  have F_h : ∀ c k : Nat, (fun c k => nw_F wl_X13_plain wf_X13_plain false false c k = true) c k → h c k = h c k := fun _ _ _ => rfl
  refine fm_ca F_h (ff_X13_add nn) (nw_sub rfl) ?_; intro u6 F_u6
  refine fm_xl ?_; intro v8
  refine fm_ca F_u6 (ff_X13_expression nn) (nw_sub rfl) ?_; intro u10 F_u10
  refine fm_wA F_u10 (nw_ne rfl) ?_; intro h11 F_h11
  refine fm_if ?_ ?_
  · exact fm_tl F_h11 (fj_X13_plain_89 nn) (fun _ _ z => z)
  · refine fm_pu ?_; intro u15
    refine fm_if ?_ ?_
    · exact fm_tl F_h11 (fj_X13_plain_89 nn) (fun _ _ z => z)
    · refine fm_wA F_h11 (nw_ne rfl) ?_; intro h17 F_h17
      refine fm_wA F_h17 (nw_ne rfl) ?_; intro h20 F_h20
      refine fm_xl ?_; intro v22
      refine fm_up F_h20 (nw_nf rfl) ?_; intro h23 F_h23
      refine fm_xl ?_; intro v25
      refine fm_ca F_h23 (ff_X13_expression nn) (nw_sub rfl) ?_; intro u27 F_u27
      refine fm_wA F_u27 (nw_ne rfl) ?_; intro h28 F_h28
      exact fm_tl F_h28 (fj_X13_plain_89 nn) (fun _ _ z => z)
set_option maxRecDepth 4000 in
theorem fj_X13_type_96 (nn : Nat) {h : ms_M} : Fm_ (fun c k => nw_F wl_X13_type wf_X13_type false false c k = true) h (qj_X13_type_96 nn h) (fun r => r) := by
  unfold qj_X13_type_96
  have F_h : ∀ c k : Nat, (fun c k => nw_F wl_X13_type wf_X13_type false false c k = true) c k → h c k = h c k := fun _ _ _ => rfl
  refine fm_if ?_ ?_
  · exact fm_ret F_h
  · refine fm_pu ?_; intro u4
    refine fm_if ?_ ?_
    · refine fm_xl ?_; intro v6
      refine fm_up F_h (nw_nf rfl) ?_; intro h7 F_h7
      refine fm_ca F_h7 (ff_X13_sign_ nn) (nw_sub rfl) ?_; intro u9 F_u9
      refine fm_up F_u9 (nw_nf rfl) ?_; intro h10 F_h10
      exact fm_ret F_h10
    · exact fm_ret F_h
set_option maxRecDepth 4000 in
theorem fj_X13_type_68 (nn : Nat) {s0 : Int} {h : ms_M} : Fm_ (fun c k => nw_F wl_X13_type wf_X13_type false false c k = true) h (qj_X13_type_68 nn s0 h) (fun r => r) := by
  unfold qj_X13_type_68
  have F_h : ∀ c k : Nat, (fun c k => nw_F wl_X13_type wf_X13_type false false c k = true) c k → h c k = h c k := fun _ _ _ => rfl
  refine fm_up F_h (nw_nf rfl) ?_; intro h13 F_h13
  refine fm_if ?_ ?_
  · refine fm_ca F_h13 (ff_X13_name nn) (nw_sub rfl) ?_; intro u16 F_u16
    exact fm_tl F_u16 (fj_X13_type_96 nn) (fun _ _ z => z)
  · refine fm_xl ?_; intro v18
    refine fm_up F_h13 (nw_nf rfl) ?_; intro h19 F_h19
    exact fm_tl F_h19 (fj_X13_type_96 nn) (fun _ _ z => z)
set_option maxRecDepth 4000 in
theorem ff_X13_type (nn : Nat) {h : ms_M} : Fm_ (fun c k => nw_F wl_X13_type wf_X13_type false false c k = true) h (qf_X13_type nn h) (fun r => r) := by
  unfold qf_X13_type
  have F_h : ∀ c k : Nat, (fun c k => nw_F wl_X13_type wf_X13_type false false c k = true) c k → h c k = h c k := fun _ _ _ => rfl
  refine fm_if ?_ ?_
  · refine fm_up F_h (nw_nf rfl) ?_; intro h23 F_h23
    refine fm_up F_h23 (nw_nf rfl) ?_; intro h24 F_h24
    refine fm_pu ?_; intro u27
    refine fm_if ?_ ?_
    · refine fm_pu ?_; intro u30
      refine fm_if ?_ ?_
      · exact fm_tl F_h24 (fj_X13_type_68 nn) (fun _ _ z => z)
      · exact fm_tl F_h24 (fj_X13_type_68 nn) (fun _ _ z => z)
    · refine fm_up F_h24 (nw_nf rfl) ?_; intro h32 F_h32
      refine fm_xl ?_; intro v34
      refine fm_up F_h32 (nw_nf rfl) ?_; intro h35 F_h35
      exact fm_ret F_h35
  · exact fm_ret F_h
set_option maxRecDepth 4000 in
theorem ff_X13_word (nn : Nat) {a1 : Int} {h : ms_M} : Fm_ (fun c k => nw_F wl_X13_word wf_X13_word false false c k = true) h (qf_X13_word nn a1 h) (fun r => r) := by
  unfold qf_X13_word
  have F_h : ∀ c k : Nat, (fun c k => nw_F wl_X13_word wf_X13_word false false c k = true) c k → h c k = h c k := fun _ _ _ => rfl
  refine fm_if ?_ ?_
  · refine fm_pu ?_; intro u4
    refine fm_if ?_ ?_
    · refine fm_ca F_h (ff_X13_misplaced nn) (nw_sub rfl) ?_; intro u6 F_u6
      exact fm_ret F_u6
    · refine fm_xl ?_; intro v8
      refine fm_up F_h (nw_nf rfl) ?_; intro h9 F_h9
      exact fm_ret F_h9
  · exact fm_ret F_h
def fgr_X13_block (rc : tq_X13_block) : Prop := (∀ {a1 : Int} {h : ms_M}, Fm_ (fun c k => nw_F wl_X13_block wf_X13_block false false c k = true) h (rc.1 a1 h) (fun r => r.2)) ∧ (∀ {a1 : Int} {h : ms_M}, Fm_ (fun c k => nw_F wl_X13_statement wf_X13_statement false false c k = true) h (rc.2 a1 h) (fun r => r.2))
set_option maxRecDepth 4000 in
theorem fj_X13_block_79 (nn : Nat) {rc : tq_X13_block} (hr : fgr_X13_block rc) {l2 : Int} {h : ms_M} : Fm_ (fun c k => nw_F wl_X13_block wf_X13_block false false c k = true) h (qj_X13_block_79 nn rc l2 h) (fun r => r.2) := by
  unfold qj_X13_block_79
  have F_h : ∀ c k : Nat, (fun c k => nw_F wl_X13_block wf_X13_block false false c k = true) c k → h c k = h c k := fun _ _ _ => rfl
  refine fm_ca F_h (ff_X13_sign_ nn) (nw_sub rfl) ?_; intro u2 F_u2
  exact fm_ret F_u2
set_option maxRecDepth 4000 in
theorem fw_X13_block_22 (nn : Nat) {rc : tq_X13_block} (hr : fgr_X13_block rc) : ∀ (k : Nat) {l1 : Int} {l2 : Int} {l3 : Int} {h : ms_M}, Fm_ (fun c k => nw_F wl_X13_block wf_X13_block false false c k = true) h (qw_X13_block_22 nn rc k l1 l2 l3 h) (fun r => r.2) := by
  intro k
  induction k with
  | zero => intros; exact fm_no
  | succ k ih =>
    intro l1 l2 l3 h
    unfold qw_X13_block_22
    have F_h : ∀ c k : Nat, (fun c k => nw_F wl_X13_block wf_X13_block false false c k = true) c k → h c k = h c k := fun _ _ _ => rfl
    refine fm_if ?_ ?_
    · exact fm_tl F_h (fj_X13_block_79 nn hr) (fun _ _ z => z)
    · refine fm_pu ?_; intro u6
      refine fm_if ?_ ?_
      · exact fm_tl F_h (fj_X13_block_79 nn hr) (fun _ _ z => z)
      · refine fm_ca F_h (hr.2) (fun _ _ z => z) ?_; intro u8 F_u8
        refine fm_if ?_ ?_
        · refine fm_wA F_u8 (nw_ne rfl) ?_; intro h10 F_h10
          exact fm_tl F_h10 (ih ) (fun _ _ z => z)
        · refine fm_wA F_u8 (nw_ne rfl) ?_; intro h12 F_h12
          exact fm_tl F_h12 (ih ) (fun _ _ z => z)
set_option maxRecDepth 4000 in
theorem fo_X13_block (nn : Nat) {rc : tq_X13_block} (hr : fgr_X13_block rc) {a1 : Int} {h : ms_M} : Fm_ (fun c k => nw_F wl_X13_block wf_X13_block false false c k = true) h (qo_X13_block nn rc a1 h) (fun r => r.2) := by
  unfold qo_X13_block
  have F_h : ∀ c k : Nat, (fun c k => nw_F wl_X13_block wf_X13_block false false c k = true) c k → h c k = h c k := fun _ _ _ => rfl
  refine fm_ca F_h (ff_X13_add nn) (nw_sub rfl) ?_; intro u19 F_u19
  refine fm_ca F_u19 (ff_X13_sign_ nn) (nw_sub rfl) ?_; intro u21 F_u21
  exact fm_tl F_u21 (fw_X13_block_22 nn hr _) (fun _ _ z => z)
set_option maxRecDepth 4000 in
theorem fj_X13_statement_755 (nn : Nat) {rc : tq_X13_block} (hr : fgr_X13_block rc) {l1 : Int} {h : ms_M} : Fm_ (fun c k => nw_F wl_X13_statement wf_X13_statement false false c k = true) h (qj_X13_statement_755 nn rc l1 h) (fun r => r.2) := by
  unfold qj_X13_statement_755
  have F_h : ∀ c k : Nat, (fun c k => nw_F wl_X13_statement wf_X13_statement false false c k = true) c k → h c k = h c k := fun _ _ _ => rfl
  refine fm_ca F_h (ff_X13_plain nn) (nw_sub rfl) ?_; intro u2 F_u2
  exact fm_ret F_u2
set_option maxRecDepth 4000 in
theorem fj_X13_statement_698 (nn : Nat) {rc : tq_X13_block} (hr : fgr_X13_block rc) {l3 : Int} {h : ms_M} : Fm_ (fun c k => nw_F wl_X13_statement wf_X13_statement false false c k = true) h (qj_X13_statement_698 nn rc l3 h) (fun r => r.2) := by
  unfold qj_X13_statement_698
  have F_h : ∀ c k : Nat, (fun c k => nw_F wl_X13_statement wf_X13_statement false false c k = true) c k → h c k = h c k := fun _ _ _ => rfl
  exact fm_ret F_h
set_option maxRecDepth 4000 in
theorem fj_X13_statement_562 (nn : Nat) {rc : tq_X13_block} (hr : fgr_X13_block rc) {l3 : Int} {h : ms_M} : Fm_ (fun c k => nw_F wl_X13_statement wf_X13_statement false false c k = true) h (qj_X13_statement_562 nn rc l3 h) (fun r => r.2) := by
  unfold qj_X13_statement_562
  have F_h : ∀ c k : Nat, (fun c k => nw_F wl_X13_statement wf_X13_statement false false c k = true) c k → h c k = h c k := fun _ _ _ => rfl
  refine fm_ca F_h (ff_X13_sign_ nn) (nw_sub rfl) ?_; intro u4 F_u4
  exact fm_ret F_u4
set_option maxRecDepth 4000 in
theorem fj_X13_statement_487 (nn : Nat) {rc : tq_X13_block} (hr : fgr_X13_block rc) {l2 : Int} {s0 : Int} {h : ms_M} : Fm_ (fun c k => nw_F wl_X13_statement wf_X13_statement false false c k = true) h (qj_X13_statement_487 nn rc l2 s0 h) (fun r => r.2) := by
  unfold qj_X13_statement_487
  have F_h : ∀ c k : Nat, (fun c k => nw_F wl_X13_statement wf_X13_statement false false c k = true) c k → h c k = h c k := fun _ _ _ => rfl
  refine fm_ca F_h (ff_X13_add nn) (nw_sub rfl) ?_; intro u7 F_u7
  refine fm_xl ?_; intro v9
  refine fm_up F_u7 (nw_nf rfl) ?_; intro h10 F_h10
  refine fm_ca F_h10 (ff_X13_sign_ nn) (nw_sub rfl) ?_; intro u12 F_u12
  exact fm_ret F_u12
set_option maxRecDepth 4000 in
theorem fj_X13_statement_467 (nn : Nat) {rc : tq_X13_block} (hr : fgr_X13_block rc) {l2 : Int} {h : ms_M} : Fm_ (fun c k => nw_F wl_X13_statement wf_X13_statement false false c k = true) h (qj_X13_statement_467 nn rc l2 h) (fun r => r.2) := by
  unfold qj_X13_statement_467
  have F_h : ∀ c k : Nat, (fun c k => nw_F wl_X13_statement wf_X13_statement false false c k = true) c k → h c k = h c k := fun _ _ _ => rfl
  refine fm_rd ?_; intro v15
  refine fm_if ?_ ?_
  · exact fm_tl F_h (fj_X13_statement_487 nn hr) (fun _ _ z => z)
  · exact fm_tl F_h (fj_X13_statement_487 nn hr) (fun _ _ z => z)
set_option maxRecDepth 4000 in
theorem fj_X13_statement_432 (nn : Nat) {rc : tq_X13_block} (hr : fgr_X13_block rc) {l1 : Int} {l3 : Int} {s0 : Int} {s1 : Int} {h : ms_M} : Fm_ (fun c k => nw_F wl_X13_statement wf_X13_statement false false c k = true) h (qj_X13_statement_432 nn rc l1 l3 s0 s1 h) (fun r => r.2) := by
  unfold qj_X13_statement_432
  have F_h : ∀ c k : Nat, (fun c k => nw_F wl_X13_statement wf_X13_statement false false c k = true) c k → h c k = h c k := fun _ _ _ => rfl
  refine fm_wA F_h (nw_ne rfl) ?_; intro h17 F_h17
  refine fm_xl ?_; intro v19
  refine fm_ca F_h17 (ff_X13_expression nn) (nw_sub rfl) ?_; intro u21 F_u21
  refine fm_wA F_u21 (nw_ne rfl) ?_; intro h22 F_h22
  refine fm_ca F_h22 (ff_X13_sign_ nn) (nw_sub rfl) ?_; intro u24 F_u24
  refine fm_xl ?_; intro v26
  refine fm_ca F_u24 (hr.2) (fun _ _ z => z) ?_; intro u28 F_u28
  refine fm_wA F_u28 (nw_ne rfl) ?_; intro h29 F_h29
  exact fm_ret F_h29
set_option maxRecDepth 4000 in
theorem fj_X13_statement_431 (nn : Nat) {rc : tq_X13_block} (hr : fgr_X13_block rc) {l1 : Int} {l3 : Int} {s0 : Int} {h : ms_M} : Fm_ (fun c k => nw_F wl_X13_statement wf_X13_statement false false c k = true) h (qj_X13_statement_431 nn rc l1 l3 s0 h) (fun r => r.2) := by
  unfold qj_X13_statement_431
  have F_h : ∀ c k : Nat, (fun c k => nw_F wl_X13_statement wf_X13_statement false false c k = true) c k → h c k = h c k := fun _ _ _ => rfl
  exact fm_tl F_h (fj_X13_statement_432 nn hr) (fun _ _ z => z)
set_option maxRecDepth 4000 in
theorem fj_X13_statement_310 (nn : Nat) {rc : tq_X13_block} (hr : fgr_X13_block rc) {l1 : Int} {l3 : Int} {h : ms_M} : Fm_ (fun c k => nw_F wl_X13_statement wf_X13_statement false false c k = true) h (qj_X13_statement_310 nn rc l1 l3 h) (fun r => r.2) := by
  unfold qj_X13_statement_310
  have F_h : ∀ c k : Nat, (fun c k => nw_F wl_X13_statement wf_X13_statement false false c k = true) c k → h c k = h c k := fun _ _ _ => rfl
  refine fm_xl ?_; intro v31
  refine fm_ca F_h (hr.2) (fun _ _ z => z) ?_; intro u33 F_u33
  refine fm_wA F_u33 (nw_ne rfl) ?_; intro h34 F_h34
  refine fm_if ?_ ?_
  · exact fm_ret F_h34
  · refine fm_pu ?_; intro u38
    refine fm_if ?_ ?_
    · exact fm_ret F_h34
    · refine fm_xl ?_; intro v40
      refine fm_up F_h34 (nw_nf rfl) ?_; intro h41 F_h41
      refine fm_xl ?_; intro v43
      refine fm_ca F_h41 (hr.2) (fun _ _ z => z) ?_; intro u45 F_u45
      refine fm_wA F_u45 (nw_ne rfl) ?_; intro h46 F_h46
      exact fm_ret F_h46
set_option maxRecDepth 4000 in
theorem fj_X13_statement_78 (nn : Nat) {rc : tq_X13_block} (hr : fgr_X13_block rc) {l1 : Int} {l3 : Int} {s0 : Int} {s1 : Int} {s2 : Int} {h : ms_M} : Fm_ (fun c k => nw_F wl_X13_statement wf_X13_statement false false c k = true) h (qj_X13_statement_78 nn rc l1 l3 s0 s1 s2 h) (fun r => r.2) := by
  unfold qj_X13_statement_78
  have F_h : ∀ c k : Nat, (fun c k => nw_F wl_X13_statement wf_X13_statement false false c k = true) c k → h c k = h c k := fun _ _ _ => rfl
  refine fm_xl ?_; intro v49
  refine fm_wA F_h (nw_ne rfl) ?_; intro h50 F_h50
  refine fm_wA F_h50 (nw_ne rfl) ?_; intro h53 F_h53
  refine fm_ca F_h53 (ff_X13_name nn) (nw_sub rfl) ?_; intro u56 F_u56
  refine fm_wA F_u56 (nw_ne rfl) ?_; intro h57 F_h57
  refine fm_wA F_h57 (nw_ne rfl) ?_; intro h60 F_h60
  refine fm_ca F_h60 (ff_X13_sign_ nn) (nw_sub rfl) ?_; intro u62 F_u62
  refine fm_xl ?_; intro v64
  refine fm_ca F_u62 (ff_X13_expression nn) (nw_sub rfl) ?_; intro u66 F_u66
  refine fm_wA F_u66 (nw_ne rfl) ?_; intro h67 F_h67
  refine fm_ca F_h67 (ff_X13_sign_ nn) (nw_sub rfl) ?_; intro u69 F_u69
  exact fm_ret F_u69
set_option maxRecDepth 4000 in
theorem fo_X13_statement (nn : Nat) {rc : tq_X13_block} (hr : fgr_X13_block rc) {a1 : Int} {h : ms_M} : Fm_ (fun c k => nw_F wl_X13_statement wf_X13_statement false false c k = true) h (qo_X13_statement nn rc a1 h) (fun r => r.2) := by
  unfold qo_X13_statement
  have F_h : ∀ c k : Nat, (fun c k => nw_F wl_X13_statement wf_X13_statement false false c k = true) c k → h c k = h c k := fun _ _ _ => rfl
  refine fm_ca F_h (ff_X13_isDeep nn) (nw_sub rfl) ?_; intro u71 F_u71
  refine fm_if ?_ ?_
  · refine fm_pu ?_; intro u75
    refine fm_if ?_ ?_
    · refine fm_pu ?_; intro u77
      refine fm_if ?_ ?_
      · refine fm_rd ?_; intro v80
        refine fm_if ?_ ?_
        · refine fm_rd ?_; intro v83
          refine fm_if ?_ ?_
          · exact fm_tl F_u71 (fj_X13_statement_467 nn hr) (fun _ _ z => z)
          · refine fm_if ?_ ?_
            · exact fm_tl F_u71 (fj_X13_statement_467 nn hr) (fun _ _ z => z)
            · refine fm_if ?_ ?_
              · refine fm_ca F_u71 (ff_X13_add nn) (nw_sub rfl) ?_; intro u86 F_u86
                refine fm_xl ?_; intro v88
                refine fm_up F_u86 (nw_nf rfl) ?_; intro h89 F_h89
                refine fm_ca F_h89 (ff_X13_sign_ nn) (nw_sub rfl) ?_; intro u91 F_u91
                refine fm_xl ?_; intro v93
                refine fm_ca F_u91 (ff_X13_expression nn) (nw_sub rfl) ?_; intro u95 F_u95
                refine fm_wA F_u95 (nw_ne rfl) ?_; intro h96 F_h96
                refine fm_ca F_h96 (ff_X13_sign_ nn) (nw_sub rfl) ?_; intro u98 F_u98
                exact fm_tl F_u98 (fj_X13_statement_310 nn hr) (fun _ _ z => z)
              · refine fm_if ?_ ?_
                · refine fm_ca F_u71 (ff_X13_add nn) (nw_sub rfl) ?_; intro u101 F_u101
                  refine fm_xl ?_; intro v103
                  refine fm_up F_u101 (nw_nf rfl) ?_; intro h104 F_h104
                  refine fm_ca F_h104 (ff_X13_sign_ nn) (nw_sub rfl) ?_; intro u106 F_u106
                  refine fm_xl ?_; intro v108
                  refine fm_ca F_u106 (ff_X13_expression nn) (nw_sub rfl) ?_; intro u110 F_u110
                  refine fm_wA F_u110 (nw_ne rfl) ?_; intro h111 F_h111
                  refine fm_ca F_h111 (ff_X13_sign_ nn) (nw_sub rfl) ?_; intro u113 F_u113
                  refine fm_ca F_u113 (ff_X13_sign_ nn) (nw_sub rfl) ?_; intro u115 F_u115
                  exact fm_ret F_u115
                · refine fm_if ?_ ?_
                  · refine fm_ca F_u71 (ff_X13_add nn) (nw_sub rfl) ?_; intro u118 F_u118
                    refine fm_xl ?_; intro v120
                    refine fm_up F_u118 (nw_nf rfl) ?_; intro h121 F_h121
                    refine fm_pu ?_; intro u124
                    refine fm_if ?_ ?_
                    · exact fm_tl F_h121 (fj_X13_statement_562 nn hr) (fun _ _ z => z)
                    · refine fm_xl ?_; intro v126
                      refine fm_ca F_h121 (ff_X13_expression nn) (nw_sub rfl) ?_; intro u128 F_u128
                      refine fm_wA F_u128 (nw_ne rfl) ?_; intro h129 F_h129
                      exact fm_tl F_h129 (fj_X13_statement_562 nn hr) (fun _ _ z => z)
                  · refine fm_if ?_ ?_
                    · refine fm_ca F_u71 (ff_X13_add nn) (nw_sub rfl) ?_; intro u133 F_u133
                      refine fm_xl ?_; intro v135
                      refine fm_up F_u133 (nw_nf rfl) ?_; intro h136 F_h136
                      refine fm_xl ?_; intro v138
                      refine fm_ca F_h136 (ff_X13_expression nn) (nw_sub rfl) ?_; intro u140 F_u140
                      refine fm_wA F_u140 (nw_ne rfl) ?_; intro h141 F_h141
                      refine fm_ca F_h141 (ff_X13_sign_ nn) (nw_sub rfl) ?_; intro u143 F_u143
                      exact fm_ret F_u143
                    · refine fm_if ?_ ?_
                      · refine fm_ca F_u71 (ff_X13_add nn) (nw_sub rfl) ?_; intro u146 F_u146
                        refine fm_xl ?_; intro v148
                        refine fm_up F_u146 (nw_nf rfl) ?_; intro h149 F_h149
                        refine fm_xl ?_; intro v151
                        refine fm_ca F_h149 (hr.1) (fun _ _ z => z) ?_; intro u153 F_u153
                        refine fm_wA F_u153 (nw_ne rfl) ?_; intro h154 F_h154
                        refine fm_ca F_h154 (ff_X13_word nn) (nw_sub rfl) ?_; intro u156 F_u156
                        refine fm_ca F_u156 (ff_X13_sign_ nn) (nw_sub rfl) ?_; intro u158 F_u158
                        refine fm_ca F_u158 (ff_X13_name nn) (nw_sub rfl) ?_; intro u161 F_u161
                        refine fm_wA F_u161 (nw_ne rfl) ?_; intro h162 F_h162
                        refine fm_ca F_h162 (ff_X13_name nn) (nw_sub rfl) ?_; intro u165 F_u165
                        refine fm_wA F_u165 (nw_ne rfl) ?_; intro h166 F_h166
                        refine fm_ca F_h166 (ff_X13_sign_ nn) (nw_sub rfl) ?_; intro u168 F_u168
                        refine fm_xl ?_; intro v170
                        refine fm_ca F_u168 (hr.1) (fun _ _ z => z) ?_; intro u172 F_u172
                        refine fm_wA F_u172 (nw_ne rfl) ?_; intro h173 F_h173
                        exact fm_tl F_h173 (fj_X13_statement_698 nn hr) (fun _ _ z => z)
                      · refine fm_if ?_ ?_
                        · refine fm_ca F_u71 (ff_X13_add nn) (nw_sub rfl) ?_; intro u176 F_u176
                          refine fm_xl ?_; intro v178
                          refine fm_up F_u176 (nw_nf rfl) ?_; intro h179 F_h179
                          refine fm_ca F_h179 (ff_X13_sign_ nn) (nw_sub rfl) ?_; intro u181 F_u181
                          refine fm_pu ?_; intro u185
                          refine fm_if ?_ ?_
                          · exact fm_tl F_u181 (fj_X13_statement_431 nn hr) (fun _ _ z => z)
                          · refine fm_xl ?_; intro v187
                            refine fm_pu ?_; intro u189
                            refine fm_if ?_ ?_
                            · exact fm_tl F_u181 (fj_X13_statement_431 nn hr) (fun _ _ z => z)
                            · exact fm_tl F_u181 (fj_X13_statement_432 nn hr) (fun _ _ z => z)
                        · exact fm_tl F_u71 (fj_X13_statement_755 nn hr) (fun _ _ z => z)
        · refine fm_ca F_u71 (ff_X13_plain nn) (nw_sub rfl) ?_; intro u193 F_u193
          exact fm_ret F_u193
      · refine fm_ca F_u71 (ff_X13_type nn) (nw_sub rfl) ?_; intro u196 F_u196
        refine fm_ca F_u196 (ff_X13_add nn) (nw_sub rfl) ?_; intro u198 F_u198
        refine fm_xl ?_; intro v201
        refine fm_if ?_ ?_
        · exact fm_tl F_u198 (fj_X13_statement_78 nn hr) (fun _ _ z => z)
        · exact fm_tl F_u198 (fj_X13_statement_78 nn hr) (fun _ _ z => z)
    · refine fm_xl ?_; intro v205
      refine fm_ca F_u71 (hr.1) (fun _ _ z => z) ?_; intro u207 F_u207
      exact fm_ret F_u207
  · exact fm_ret F_u71
set_option maxRecDepth 4000 in
theorem fg_X13_block (nn : Nat) : ∀ d, fgr_X13_block (qg_X13_block nn d) := by
  intro d
  induction d with
  | zero => exact ⟨(by intros; exact fm_no), (by intros; exact fm_no)⟩
  | succ d ih => exact ⟨fo_X13_block nn ih, fo_X13_statement nn ih⟩
set_option maxRecDepth 4000 in
theorem ff_X13_block (nn : Nat) {a1 : Int} {h : ms_M} : Fm_ (fun c k => nw_F wl_X13_block wf_X13_block false false c k = true) h (qf_X13_block nn a1 h) (fun r => r.2) := (fg_X13_block nn 160).1
set_option maxRecDepth 4000 in
theorem ff_X13_statement (nn : Nat) {a1 : Int} {h : ms_M} : Fm_ (fun c k => nw_F wl_X13_statement wf_X13_statement false false c k = true) h (qf_X13_statement nn a1 h) (fun r => r.2) := (fg_X13_block nn 160).2
set_option maxRecDepth 4000 in
theorem fj_X13_member_360 (nn : Nat) {l3 : Int} {h : ms_M} : Fm_ (fun c k => nw_F wl_X13_member wf_X13_member false false c k = true) h (qj_X13_member_360 nn l3 h) (fun r => r) := by
  unfold qj_X13_member_360
  have F_h : ∀ c k : Nat, (fun c k => nw_F wl_X13_member wf_X13_member false false c k = true) c k → h c k = h c k := fun _ _ _ => rfl
  refine fm_ca F_h (ff_X13_sign_ nn) (nw_sub rfl) ?_; intro u2 F_u2
  refine fm_ca F_u2 (ff_X13_block nn) (nw_sub rfl) ?_; intro u5 F_u5
  refine fm_wA F_u5 (nw_ne rfl) ?_; intro h6 F_h6
  exact fm_ret F_h6
set_option maxRecDepth 4000 in
theorem fj_X13_member_269 (nn : Nat) {qkk_234 : Int → ms_M → Option ms_M} (hk_kk_234 : ∀ {l3 : Int} {h : ms_M}, Fm_ (fun c k => nw_F wl_X13_member wf_X13_member false false c k = true) h (qkk_234 l3 h) (fun r => r)) {l3 : Int} {h : ms_M} : Fm_ (fun c k => nw_F wl_X13_member wf_X13_member false false c k = true) h (qj_X13_member_269 nn qkk_234 l3 h) (fun r => r) := by
  unfold qj_X13_member_269
  have F_h : ∀ c k : Nat, (fun c k => nw_F wl_X13_member wf_X13_member false false c k = true) c k → h c k = h c k := fun _ _ _ => rfl
  refine fm_ca F_h (ff_X13_type nn) (nw_sub rfl) ?_; intro u8 F_u8
  refine fm_ca F_u8 (ff_X13_name nn) (nw_sub rfl) ?_; intro u10 F_u10
  refine fm_if ?_ ?_
  · refine fm_wA F_u10 (nw_ne rfl) ?_; intro h15 F_h15
    refine fm_wA F_h15 (nw_ne rfl) ?_; intro h19 F_h19
    refine fm_wZ F_h19 (nw_ne rfl) ?_; intro h23 F_h23
    refine fm_wA F_h23 (nw_ne rfl) ?_; intro h26 F_h26
    refine fm_xl ?_; intro v28
    refine fm_up F_h26 (nw_nf rfl) ?_; intro h29 F_h29
    refine fm_rd ?_; intro v31
    refine fm_xl ?_; intro v32
    refine fm_wA F_h29 (nw_ne rfl) ?_; intro h33 F_h33
    exact fm_tl F_h33 (hk_kk_234) (fun _ _ z => z)
  · exact fm_ret F_u10
set_option maxRecDepth 4000 in
theorem fw_X13_member_234 (nn : Nat) : ∀ (k : Nat) {l3 : Int} {h : ms_M}, Fm_ (fun c k => nw_F wl_X13_member wf_X13_member false false c k = true) h (qw_X13_member_234 nn k l3 h) (fun r => r) := by
  intro k
  induction k with
  | zero => intros; exact fm_no
  | succ k ih =>
    intro l3 h
    unfold qw_X13_member_234
    have F_h : ∀ c k : Nat, (fun c k => nw_F wl_X13_member wf_X13_member false false c k = true) c k → h c k = h c k := fun _ _ _ => rfl
    refine fm_if ?_ ?_
    · exact fm_tl F_h (fj_X13_member_360 nn) (fun _ _ z => z)
    · refine fm_pu ?_; intro u38
      refine fm_if ?_ ?_
      · exact fm_tl F_h (fj_X13_member_360 nn) (fun _ _ z => z)
      · refine fm_rd ?_; intro v40
        refine fm_if ?_ ?_
        · exact fm_tl F_h (fj_X13_member_269 nn ih) (fun _ _ z => z)
        · refine fm_ca F_h (ff_X13_sign_ nn) (nw_sub rfl) ?_; intro u42 F_u42
          exact fm_tl F_u42 (fj_X13_member_269 nn ih) (fun _ _ z => z)
set_option maxRecDepth 4000 in
theorem fj_X13_member_170 (nn : Nat) {l1 : Int} {l2 : Int} {l3 : Int} {s0 : Int} {s1 : Int} {h : ms_M} : Fm_ (fun c k => nw_F wl_X13_member wf_X13_member false false c k = true) h (qj_X13_member_170 nn l1 l2 l3 s0 s1 h) (fun r => r) := by
  unfold qj_X13_member_170
  have F_h : ∀ c k : Nat, (fun c k => nw_F wl_X13_member wf_X13_member false false c k = true) c k → h c k = h c k := fun _ _ _ => rfl
  refine fm_wA F_h (nw_ne rfl) ?_; intro h46 F_h46
  refine fm_if ?_ ?_
  · refine fm_xl ?_; intro v49
    refine fm_up F_h46 (nw_nf rfl) ?_; intro h50 F_h50
    refine fm_if ?_ ?_
    · refine fm_ca F_h50 (ff_X13_sign_ nn) (nw_sub rfl) ?_; intro u52 F_u52
      exact fm_tl F_u52 (fw_X13_member_234 nn _) (fun _ _ z => z)
    · refine fm_if ?_ ?_
      · refine fm_ca F_h50 (ff_X13_sign_ nn) (nw_sub rfl) ?_; intro u54 F_u54
        exact fm_tl F_u54 (fw_X13_member_234 nn _) (fun _ _ z => z)
      · refine fm_pu ?_; intro u57
        refine fm_if ?_ ?_
        · refine fm_ca F_h50 (ff_X13_sign_ nn) (nw_sub rfl) ?_; intro u59 F_u59
          exact fm_tl F_u59 (fw_X13_member_234 nn _) (fun _ _ z => z)
        · refine fm_xl ?_; intro v61
          refine fm_up F_h50 (nw_nf rfl) ?_; intro h62 F_h62
          refine fm_wA F_h62 (nw_ne rfl) ?_; intro h64 F_h64
          exact fm_ret F_h64
  · exact fm_ret F_h46
set_option maxRecDepth 4000 in
theorem fj_X13_member_75 (nn : Nat) {l1 : Int} {l2 : Int} {h : ms_M} : Fm_ (fun c k => nw_F wl_X13_member wf_X13_member false false c k = true) h (qj_X13_member_75 nn l1 l2 h) (fun r => r) := by
  unfold qj_X13_member_75
  have F_h : ∀ c k : Nat, (fun c k => nw_F wl_X13_member wf_X13_member false false c k = true) c k → h c k = h c k := fun _ _ _ => rfl
  refine fm_wA F_h (nw_ne rfl) ?_; intro h72 F_h72
  refine fm_wA F_h72 (nw_ne rfl) ?_; intro h75 F_h75
  refine fm_wZ F_h75 (nw_ne rfl) ?_; intro h78 F_h78
  refine fm_ca F_h78 (ff_X13_name nn) (nw_sub rfl) ?_; intro u81 F_u81
  refine fm_wA F_u81 (nw_ne rfl) ?_; intro h82 F_h82
  refine fm_xl ?_; intro v85
  refine fm_wA F_h82 (nw_ne rfl) ?_; intro h86 F_h86
  refine fm_wA F_h86 (nw_ne rfl) ?_; intro h89 F_h89
  refine fm_wA F_h89 (nw_ne rfl) ?_; intro h91 F_h91
  refine fm_wA F_h91 (nw_ne rfl) ?_; intro h93 F_h93
  refine fm_if ?_ ?_
  · exact fm_tl F_h93 (fj_X13_member_170 nn) (fun _ _ z => z)
  · exact fm_tl F_h93 (fj_X13_member_170 nn) (fun _ _ z => z)
set_option maxRecDepth 4000 in
theorem fj_X13_member_25 (nn : Nat) {l1 : Int} {h : ms_M} : Fm_ (fun c k => nw_F wl_X13_member wf_X13_member false false c k = true) h (qj_X13_member_25 nn l1 h) (fun r => r) := by
  unfold qj_X13_member_25
  have F_h : ∀ c k : Nat, (fun c k => nw_F wl_X13_member wf_X13_member false false c k = true) c k → h c k = h c k := fun _ _ _ => rfl
  refine fm_pu ?_; intro u98
  refine fm_if ?_ ?_
  · refine fm_ca F_h (ff_X13_type nn) (nw_sub rfl) ?_; intro u100 F_u100
    exact fm_tl F_u100 (fj_X13_member_75 nn) (fun _ _ z => z)
  · refine fm_up F_h (nw_nf rfl) ?_; intro h101 F_h101
    refine fm_up F_h101 (nw_nf rfl) ?_; intro h102 F_h102
    refine fm_up F_h102 (nw_nf rfl) ?_; intro h104 F_h104
    refine fm_xl ?_; intro v106
    refine fm_up F_h104 (nw_nf rfl) ?_; intro h107 F_h107
    exact fm_tl F_h107 (fj_X13_member_75 nn) (fun _ _ z => z)
set_option maxRecDepth 4000 in
theorem ff_X13_member (nn : Nat) {h : ms_M} : Fm_ (fun c k => nw_F wl_X13_member wf_X13_member false false c k = true) h (qf_X13_member nn h) (fun r => r) := by
  unfold qf_X13_member
  have F_h : ∀ c k : Nat, (fun c k => nw_F wl_X13_member wf_X13_member false false c k = true) c k → h c k = h c k := fun _ _ _ => rfl
  refine fm_pu ?_; intro u111
  refine fm_if ?_ ?_
  · exact fm_tl F_h (fj_X13_member_25 nn) (fun _ _ z => z)
  · refine fm_xl ?_; intro v113
    refine fm_up F_h (nw_nf rfl) ?_; intro h114 F_h114
    exact fm_tl F_h114 (fj_X13_member_25 nn) (fun _ _ z => z)
set_option maxRecDepth 4000 in
theorem fj_X13_program_143 (nn : Nat) {qkk_25 : ms_M → Option ms_M} (hk_kk_25 : ∀ {h : ms_M}, Fm_ (fun c k => nw_F wl_X13_program wf_X13_program false false c k = true) h (qkk_25 h) (fun r => r)) {h : ms_M} : Fm_ (fun c k => nw_F wl_X13_program wf_X13_program false false c k = true) h (qj_X13_program_143 nn qkk_25 h) (fun r => r) := by
  unfold qj_X13_program_143
  have F_h : ∀ c k : Nat, (fun c k => nw_F wl_X13_program wf_X13_program false false c k = true) c k → h c k = h c k := fun _ _ _ => rfl
  refine fm_ca F_h (ff_X13_sign_ nn) (nw_sub rfl) ?_; intro u2 F_u2
  refine fm_if ?_ ?_
  · exact fm_ret F_u2
  · refine fm_rd ?_; intro v6
    refine fm_if ?_ ?_
    · exact fm_tl F_u2 (hk_kk_25) (fun _ _ z => z)
    · exact fm_ret F_u2
set_option maxRecDepth 4000 in
theorem fw_X13_program_116 (nn : Nat) {qkk_25 : ms_M → Option ms_M} (hk_kk_25 : ∀ {h : ms_M}, Fm_ (fun c k => nw_F wl_X13_program wf_X13_program false false c k = true) h (qkk_25 h) (fun r => r)) : ∀ (k : Nat) {h : ms_M}, Fm_ (fun c k => nw_F wl_X13_program wf_X13_program false false c k = true) h (qw_X13_program_116 nn qkk_25 k h) (fun r => r) := by
  intro k
  induction k with
  | zero => intros; exact fm_no
  | succ k ih =>
    intro h
    unfold qw_X13_program_116
    have F_h : ∀ c k : Nat, (fun c k => nw_F wl_X13_program wf_X13_program false false c k = true) c k → h c k = h c k := fun _ _ _ => rfl
    refine fm_if ?_ ?_
    · exact fm_tl F_h (fj_X13_program_143 nn hk_kk_25) (fun _ _ z => z)
    · refine fm_pu ?_; intro u12
      refine fm_if ?_ ?_
      · exact fm_tl F_h (fj_X13_program_143 nn hk_kk_25) (fun _ _ z => z)
      · refine fm_ca F_h (ff_X13_member nn) (nw_sub rfl) ?_; intro u14 F_u14
        exact fm_tl F_u14 (ih ) (fun _ _ z => z)
set_option maxRecDepth 4000 in
theorem fj_X13_program_72 (nn : Nat) {qkk_25 : ms_M → Option ms_M} (hk_kk_25 : ∀ {h : ms_M}, Fm_ (fun c k => nw_F wl_X13_program wf_X13_program false false c k = true) h (qkk_25 h) (fun r => r)) {l1 : Int} {l2 : Int} {h : ms_M} : Fm_ (fun c k => nw_F wl_X13_program wf_X13_program false false c k = true) h (qj_X13_program_72 nn qkk_25 l1 l2 h) (fun r => r) := by
  unfold qj_X13_program_72
  have F_h : ∀ c k : Nat, (fun c k => nw_F wl_X13_program wf_X13_program false false c k = true) c k → h c k = h c k := fun _ _ _ => rfl
  refine fm_if ?_ ?_
  · refine fm_wA F_h (nw_ne rfl) ?_; intro h20 F_h20
    refine fm_wA F_h20 (nw_ne rfl) ?_; intro h23 F_h23
    refine fm_xl ?_; intro v25
    refine fm_up F_h23 (nw_nf rfl) ?_; intro h26 F_h26
    refine fm_ca F_h26 (ff_X13_sign_ nn) (nw_sub rfl) ?_; intro u28 F_u28
    exact fm_tl F_u28 (fw_X13_program_116 nn hk_kk_25 _) (fun _ _ z => z)
  · exact fm_ret F_h
set_option maxRecDepth 4000 in
theorem fw_X13_program_25 (nn : Nat) : ∀ (k : Nat) {h : ms_M}, Fm_ (fun c k => nw_F wl_X13_program wf_X13_program false false c k = true) h (qw_X13_program_25 nn k h) (fun r => r) := by
  intro k
  induction k with
  | zero => intros; exact fm_no
  | succ k ih =>
    intro h
    unfold qw_X13_program_25
    have F_h : ∀ c k : Nat, (fun c k => nw_F wl_X13_program wf_X13_program false false c k = true) c k → h c k = h c k := fun _ _ _ => rfl
    refine fm_ca F_h (ff_X13_word nn) (nw_sub rfl) ?_; intro u31 F_u31
    refine fm_ca F_u31 (ff_X13_name nn) (nw_sub rfl) ?_; intro u33 F_u33
    refine fm_if ?_ ?_
    · exact fm_tl F_u33 (fj_X13_program_72 nn ih) (fun _ _ z => z)
    · refine fm_pu ?_; intro u37
      refine fm_if ?_ ?_
      · exact fm_tl F_u33 (fj_X13_program_72 nn ih) (fun _ _ z => z)
      · refine fm_xl ?_; intro v39
        refine fm_up F_u33 (nw_nf rfl) ?_; intro h40 F_h40
        refine fm_ca F_h40 (ff_X13_name nn) (nw_sub rfl) ?_; intro u42 F_u42
        exact fm_tl F_u42 (fj_X13_program_72 nn ih) (fun _ _ z => z)
set_option maxRecDepth 4000 in
theorem ff_X13_program (nn : Nat) {h : ms_M} : Fm_ (fun c k => nw_F wl_X13_program wf_X13_program false false c k = true) h (qf_X13_program nn h) (fun r => r) := by
  unfold qf_X13_program
  have F_h : ∀ c k : Nat, (fun c k => nw_F wl_X13_program wf_X13_program false false c k = true) c k → h c k = h c k := fun _ _ _ => rfl
  refine fm_up F_h (nw_nf rfl) ?_; intro h45 F_h45
  refine fm_up F_h45 (nw_nf rfl) ?_; intro h46 F_h46
  refine fm_up F_h46 (nw_nf rfl) ?_; intro h47 F_h47
  refine fm_up F_h47 (nw_nf rfl) ?_; intro h48 F_h48
  refine fm_up F_h48 (nw_nf rfl) ?_; intro h49 F_h49
  exact fm_tl F_h49 (fw_X13_program_25 nn _) (fun _ _ z => z)
set_option maxRecDepth 4000 in
theorem ff_X13_token (nn : Nat) {a1 : Int} {a2 : Int} {a3 : Int} {a4 : Int} {h : ms_M} : Fm_ (fun c k => nw_F wl_X13_token wf_X13_token false false c k = true) h (qf_X13_token nn a1 a2 a3 a4 h) (fun r => r) := by
  unfold qf_X13_token
  have F_h : ∀ c k : Nat, (fun c k => nw_F wl_X13_token wf_X13_token false false c k = true) c k → h c k = h c k := fun _ _ _ => rfl
  refine fm_wA F_h (nw_ne rfl) ?_; intro h3 F_h3
  refine fm_wA F_h3 (nw_ne rfl) ?_; intro h6 F_h6
  refine fm_wA F_h6 (nw_ne rfl) ?_; intro h9 F_h9
  refine fm_wA F_h9 (nw_ne rfl) ?_; intro h12 F_h12
  refine fm_xl ?_; intro v14
  refine fm_up F_h12 (nw_nf rfl) ?_; intro h15 F_h15
  exact fm_ret F_h15
set_option maxRecDepth 4000 in
theorem fw_X13_tokenize_449 (nn : Nat) : ∀ (k : Nat) {l2 : Int} {h : ms_M}, Fm_ (fun c k => nw_F wl_X13_tokenize wf_X13_tokenize false false c k = true) h (qw_X13_tokenize_449 nn k l2 h) (fun r => r) := by
  intro k
  induction k with
  | zero => intros; exact fm_no
  | succ k ih =>
    intro l2 h
    unfold qw_X13_tokenize_449
    have F_h : ∀ c k : Nat, (fun c k => nw_F wl_X13_tokenize wf_X13_tokenize false false c k = true) c k → h c k = h c k := fun _ _ _ => rfl
    refine fm_xl ?_; intro v2
    refine fm_if ?_ ?_
    · exact fm_ret F_h
    · refine fm_wA F_h (nw_ne rfl) ?_; intro h4 F_h4
      refine fm_xl ?_; intro v5
      exact fm_tl F_h4 (ih ) (fun _ _ z => z)
set_option maxRecDepth 4000 in
theorem fw_X13_tokenize_400 (nn : Nat) : ∀ (k : Nat) {l4 : Int} {h : ms_M}, Fm_ (fun c k => nw_F wl_X13_tokenize wf_X13_tokenize false false c k = true) h (qw_X13_tokenize_400 nn k l4 h) (fun r => r) := by
  intro k
  induction k with
  | zero => intros; exact fm_no
  | succ k ih =>
    intro l4 h
    unfold qw_X13_tokenize_400
    have F_h : ∀ c k : Nat, (fun c k => nw_F wl_X13_tokenize wf_X13_tokenize false false c k = true) c k → h c k = h c k := fun _ _ _ => rfl
    refine fm_xl ?_; intro v8
    refine fm_if ?_ ?_
    · exact fm_ret F_h
    · refine fm_wA F_h (nw_ne rfl) ?_; intro h10 F_h10
      refine fm_xl ?_; intro v11
      exact fm_tl F_h10 (ih ) (fun _ _ z => z)
set_option maxRecDepth 4000 in
theorem fj_X13_tokenize_378 (nn : Nat) {qkk_7 : Int → ms_M → Option ms_M} (hk_kk_7 : ∀ {l1 : Int} {h : ms_M}, Fm_ (fun c k => nw_F wl_X13_tokenize wf_X13_tokenize false false c k = true) h (qkk_7 l1 h) (fun r => r)) {l1 : Int} {l3 : Int} {h : ms_M} : Fm_ (fun c k => nw_F wl_X13_tokenize wf_X13_tokenize false false c k = true) h (qj_X13_tokenize_378 nn qkk_7 l1 l3 h) (fun r => r) := by
  unfold qj_X13_tokenize_378
  have F_h : ∀ c k : Nat, (fun c k => nw_F wl_X13_tokenize wf_X13_tokenize false false c k = true) c k → h c k = h c k := fun _ _ _ => rfl
  refine fm_xl ?_; intro v15
  refine fm_rd ?_; intro v16
  refine fm_if ?_ ?_
  · refine fm_xl ?_; intro v17
    exact fm_tl F_h (hk_kk_7) (fun _ _ z => z)
  · exact fm_tl F_h (fw_X13_tokenize_400 nn _) (fun _ _ z => z)
set_option maxRecDepth 4000 in
theorem fj_X13_tokenize_371 (nn : Nat) {qkk_7 : Int → ms_M → Option ms_M} (hk_kk_7 : ∀ {l1 : Int} {h : ms_M}, Fm_ (fun c k => nw_F wl_X13_tokenize wf_X13_tokenize false false c k = true) h (qkk_7 l1 h) (fun r => r)) {l1 : Int} {l3 : Int} {l4 : Int} {s0 : Int} {h : ms_M} : Fm_ (fun c k => nw_F wl_X13_tokenize wf_X13_tokenize false false c k = true) h (qj_X13_tokenize_371 nn qkk_7 l1 l3 l4 s0 h) (fun r => r) := by
  unfold qj_X13_tokenize_371
  have F_h : ∀ c k : Nat, (fun c k => nw_F wl_X13_tokenize wf_X13_tokenize false false c k = true) c k → h c k = h c k := fun _ _ _ => rfl
  refine fm_ca F_h (ff_X13_token nn) (nw_sub rfl) ?_; intro u21 F_u21
  exact fm_tl F_u21 (fj_X13_tokenize_378 nn hk_kk_7) (fun _ _ z => z)
set_option maxRecDepth 4000 in
theorem fw_X13_tokenize_330 (nn : Nat) {qkk_7 : Int → ms_M → Option ms_M} (hk_kk_7 : ∀ {l1 : Int} {h : ms_M}, Fm_ (fun c k => nw_F wl_X13_tokenize wf_X13_tokenize false false c k = true) h (qkk_7 l1 h) (fun r => r)) : ∀ (k : Nat) {l1 : Int} {l3 : Int} {l4 : Int} {l5 : Int} {h : ms_M}, Fm_ (fun c k => nw_F wl_X13_tokenize wf_X13_tokenize false false c k = true) h (qw_X13_tokenize_330 nn qkk_7 k l1 l3 l4 l5 h) (fun r => r) := by
  intro k
  induction k with
  | zero => intros; exact fm_no
  | succ k ih =>
    intro l1 l3 l4 l5 h
    unfold qw_X13_tokenize_330
    have F_h : ∀ c k : Nat, (fun c k => nw_F wl_X13_tokenize wf_X13_tokenize false false c k = true) c k → h c k = h c k := fun _ _ _ => rfl
    refine fm_if ?_ ?_
    · refine fm_if ?_ ?_
      · exact fm_tl F_h (fj_X13_tokenize_371 nn hk_kk_7) (fun _ _ z => z)
      · exact fm_tl F_h (fj_X13_tokenize_371 nn hk_kk_7) (fun _ _ z => z)
    · refine fm_xl ?_; intro v23
      refine fm_xl ?_; intro v25
      refine fm_rd ?_; intro v26
      refine fm_xl ?_; intro v27
      refine fm_xl ?_; intro v28
      exact fm_tl F_h (ih ) (fun _ _ z => z)
set_option maxRecDepth 4000 in
theorem fj_X13_tokenize_307 (nn : Nat) {qkk_7 : Int → ms_M → Option ms_M} (hk_kk_7 : ∀ {l1 : Int} {h : ms_M}, Fm_ (fun c k => nw_F wl_X13_tokenize wf_X13_tokenize false false c k = true) h (qkk_7 l1 h) (fun r => r)) {l1 : Int} {l3 : Int} {l4 : Int} {s0 : Int} {h : ms_M} : Fm_ (fun c k => nw_F wl_X13_tokenize wf_X13_tokenize false false c k = true) h (qj_X13_tokenize_307 nn qkk_7 l1 l3 l4 s0 h) (fun r => r) := by
  unfold qj_X13_tokenize_307
  have F_h : ∀ c k : Nat, (fun c k => nw_F wl_X13_tokenize wf_X13_tokenize false false c k = true) c k → h c k = h c k := fun _ _ _ => rfl
  refine fm_xl ?_; intro v30
  refine fm_ca F_h (ff_X13_token nn) (nw_sub rfl) ?_; intro u32 F_u32
  exact fm_tl F_u32 (fj_X13_tokenize_378 nn hk_kk_7) (fun _ _ z => z)
set_option maxRecDepth 4000 in
theorem fj_X13_tokenize_293 (nn : Nat) {qkk_7 : Int → ms_M → Option ms_M} (hk_kk_7 : ∀ {l1 : Int} {h : ms_M}, Fm_ (fun c k => nw_F wl_X13_tokenize wf_X13_tokenize false false c k = true) h (qkk_7 l1 h) (fun r => r)) {l1 : Int} {l3 : Int} {l4 : Int} {s0 : Int} {h : ms_M} : Fm_ (fun c k => nw_F wl_X13_tokenize wf_X13_tokenize false false c k = true) h (qj_X13_tokenize_293 nn qkk_7 l1 l3 l4 s0 h) (fun r => r) := by
  unfold qj_X13_tokenize_293
  have F_h : ∀ c k : Nat, (fun c k => nw_F wl_X13_tokenize wf_X13_tokenize false false c k = true) c k → h c k = h c k := fun _ _ _ => rfl
  refine fm_if ?_ ?_
  · exact fm_tl F_h (fj_X13_tokenize_307 nn hk_kk_7) (fun _ _ z => z)
  · exact fm_tl F_h (fj_X13_tokenize_307 nn hk_kk_7) (fun _ _ z => z)
set_option maxRecDepth 4000 in
theorem fj_X13_tokenize_292 (nn : Nat) {qkk_7 : Int → ms_M → Option ms_M} (hk_kk_7 : ∀ {l1 : Int} {h : ms_M}, Fm_ (fun c k => nw_F wl_X13_tokenize wf_X13_tokenize false false c k = true) h (qkk_7 l1 h) (fun r => r)) {l1 : Int} {l3 : Int} {l4 : Int} {h : ms_M} : Fm_ (fun c k => nw_F wl_X13_tokenize wf_X13_tokenize false false c k = true) h (qj_X13_tokenize_292 nn qkk_7 l1 l3 l4 h) (fun r => r) := by
  unfold qj_X13_tokenize_292
  have F_h : ∀ c k : Nat, (fun c k => nw_F wl_X13_tokenize wf_X13_tokenize false false c k = true) c k → h c k = h c k := fun _ _ _ => rfl
  exact fm_tl F_h (fj_X13_tokenize_293 nn hk_kk_7) (fun _ _ z => z)
set_option maxRecDepth 4000 in
theorem fj_X13_tokenize_263 (nn : Nat) {qkk_7 : Int → ms_M → Option ms_M} (hk_kk_7 : ∀ {l1 : Int} {h : ms_M}, Fm_ (fun c k => nw_F wl_X13_tokenize wf_X13_tokenize false false c k = true) h (qkk_7 l1 h) (fun r => r)) {l1 : Int} {l3 : Int} {l4 : Int} {h : ms_M} : Fm_ (fun c k => nw_F wl_X13_tokenize wf_X13_tokenize false false c k = true) h (qj_X13_tokenize_263 nn qkk_7 l1 l3 l4 h) (fun r => r) := by
  unfold qj_X13_tokenize_263
  have F_h : ∀ c k : Nat, (fun c k => nw_F wl_X13_tokenize wf_X13_tokenize false false c k = true) c k → h c k = h c k := fun _ _ _ => rfl
  refine fm_xl ?_; intro v34
  refine fm_pu ?_; intro u36
  refine fm_pu ?_; intro u37
  refine fm_if ?_ ?_
  · exact fm_tl F_h (fj_X13_tokenize_292 nn hk_kk_7) (fun _ _ z => z)
  · refine fm_xl ?_; intro v38
    refine fm_pu ?_; intro u40
    refine fm_if ?_ ?_
    · exact fm_tl F_h (fj_X13_tokenize_292 nn hk_kk_7) (fun _ _ z => z)
    · exact fm_tl F_h (fj_X13_tokenize_293 nn hk_kk_7) (fun _ _ z => z)
set_option maxRecDepth 4000 in
theorem fw_X13_tokenize_189 (nn : Nat) {qkk_7 : Int → ms_M → Option ms_M} (hk_kk_7 : ∀ {l1 : Int} {h : ms_M}, Fm_ (fun c k => nw_F wl_X13_tokenize wf_X13_tokenize false false c k = true) h (qkk_7 l1 h) (fun r => r)) : ∀ (k : Nat) {l1 : Int} {l2 : Int} {l3 : Int} {l4 : Int} {h : ms_M}, Fm_ (fun c k => nw_F wl_X13_tokenize wf_X13_tokenize false false c k = true) h (qw_X13_tokenize_189 nn qkk_7 k l1 l2 l3 l4 h) (fun r => r) := by
  intro k
  induction k with
  | zero => intros; exact fm_no
  | succ k ih =>
    intro l1 l2 l3 l4 h
    unfold qw_X13_tokenize_189
    have F_h : ∀ c k : Nat, (fun c k => nw_F wl_X13_tokenize wf_X13_tokenize false false c k = true) c k → h c k = h c k := fun _ _ _ => rfl
    refine fm_xl ?_; intro v43
    refine fm_pu ?_; intro u45
    refine fm_pu ?_; intro u46
    refine fm_if ?_ ?_
    · refine fm_xl ?_; intro v47
      refine fm_if ?_ ?_
      · exact fm_tl F_h (fj_X13_tokenize_292 nn hk_kk_7) (fun _ _ z => z)
      · refine fm_if ?_ ?_
        · exact fm_tl F_h (fj_X13_tokenize_263 nn hk_kk_7) (fun _ _ z => z)
        · refine fm_if ?_ ?_
          · exact fm_tl F_h (fj_X13_tokenize_292 nn hk_kk_7) (fun _ _ z => z)
          · exact fm_tl F_h (fj_X13_tokenize_263 nn hk_kk_7) (fun _ _ z => z)
    · refine fm_xl ?_; intro v51
      refine fm_if ?_ ?_
      · refine fm_c6 ?_; intro v52
        refine fm_xl ?_; intro v53
        refine fm_pu ?_; intro u55
        refine fm_xl ?_; intro v56
        refine fm_c6 ?_; intro v57
        refine fm_c6 ?_; intro v58
        refine fm_xl ?_; intro v59
        exact fm_tl F_h (ih ) (fun _ _ z => z)
      · refine fm_xl ?_; intro v60
        exact fm_tl F_h (ih ) (fun _ _ z => z)
set_option maxRecDepth 4000 in
theorem fj_X13_tokenize_169 (nn : Nat) {qkk_7 : Int → ms_M → Option ms_M} (hk_kk_7 : ∀ {l1 : Int} {h : ms_M}, Fm_ (fun c k => nw_F wl_X13_tokenize wf_X13_tokenize false false c k = true) h (qkk_7 l1 h) (fun r => r)) {l1 : Int} {l3 : Int} {l4 : Int} {s0 : Int} {h : ms_M} : Fm_ (fun c k => nw_F wl_X13_tokenize wf_X13_tokenize false false c k = true) h (qj_X13_tokenize_169 nn qkk_7 l1 l3 l4 s0 h) (fun r => r) := by
  unfold qj_X13_tokenize_169
  have F_h : ∀ c k : Nat, (fun c k => nw_F wl_X13_tokenize wf_X13_tokenize false false c k = true) c k → h c k = h c k := fun _ _ _ => rfl
  refine fm_ca F_h (ff_X13_token nn) (nw_sub rfl) ?_; intro u64 F_u64
  exact fm_tl F_u64 (fj_X13_tokenize_378 nn hk_kk_7) (fun _ _ z => z)
set_option maxRecDepth 4000 in
theorem fw_X13_tokenize_92 (nn : Nat) {qkk_7 : Int → ms_M → Option ms_M} (hk_kk_7 : ∀ {l1 : Int} {h : ms_M}, Fm_ (fun c k => nw_F wl_X13_tokenize wf_X13_tokenize false false c k = true) h (qkk_7 l1 h) (fun r => r)) : ∀ (k : Nat) {l1 : Int} {l3 : Int} {h : ms_M}, Fm_ (fun c k => nw_F wl_X13_tokenize wf_X13_tokenize false false c k = true) h (qw_X13_tokenize_92 nn qkk_7 k l1 l3 h) (fun r => r) := by
  intro k
  induction k with
  | zero => intros; exact fm_no
  | succ k ih =>
    intro l1 l3 h
    unfold qw_X13_tokenize_92
    have F_h : ∀ c k : Nat, (fun c k => nw_F wl_X13_tokenize wf_X13_tokenize false false c k = true) c k → h c k = h c k := fun _ _ _ => rfl
    refine fm_xl ?_; intro v65
    refine fm_pu ?_; intro u67
    refine fm_pu ?_; intro u68
    refine fm_if ?_ ?_
    · refine fm_xl ?_; intro v69
      exact fm_tl F_h (ih ) (fun _ _ z => z)
    · refine fm_xl ?_; intro v70
      refine fm_pu ?_; intro u72
      refine fm_pu ?_; intro u73
      refine fm_if ?_ ?_
      · refine fm_xl ?_; intro v74
        exact fm_tl F_h (ih ) (fun _ _ z => z)
      · refine fm_xl ?_; intro v75
        refine fm_pu ?_; intro u77
        refine fm_if ?_ ?_
        · refine fm_pu ?_; intro u79
          refine fm_if ?_ ?_
          · refine fm_if ?_ ?_
            · exact fm_tl F_h (fj_X13_tokenize_169 nn hk_kk_7) (fun _ _ z => z)
            · exact fm_tl F_h (fj_X13_tokenize_169 nn hk_kk_7) (fun _ _ z => z)
          · exact fm_tl F_h (fj_X13_tokenize_169 nn hk_kk_7) (fun _ _ z => z)
        · refine fm_xl ?_; intro v82
          exact fm_tl F_h (ih ) (fun _ _ z => z)
set_option maxRecDepth 4000 in
theorem fj_X13_tokenize_83 (nn : Nat) {qkk_7 : Int → ms_M → Option ms_M} (hk_kk_7 : ∀ {l1 : Int} {h : ms_M}, Fm_ (fun c k => nw_F wl_X13_tokenize wf_X13_tokenize false false c k = true) h (qkk_7 l1 h) (fun r => r)) {l1 : Int} {l2 : Int} {h : ms_M} : Fm_ (fun c k => nw_F wl_X13_tokenize wf_X13_tokenize false false c k = true) h (qj_X13_tokenize_83 nn qkk_7 l1 l2 h) (fun r => r) := by
  unfold qj_X13_tokenize_83
  have F_h : ∀ c k : Nat, (fun c k => nw_F wl_X13_tokenize wf_X13_tokenize false false c k = true) c k → h c k = h c k := fun _ _ _ => rfl
  refine fm_pu ?_; intro u86
  refine fm_if ?_ ?_
  · refine fm_pu ?_; intro u87
    refine fm_if ?_ ?_
    · refine fm_pu ?_; intro u89
      exact fm_tl F_h (fw_X13_tokenize_330 nn hk_kk_7 _) (fun _ _ z => z)
    · exact fm_tl F_h (fw_X13_tokenize_189 nn hk_kk_7 _) (fun _ _ z => z)
  · exact fm_tl F_h (fw_X13_tokenize_92 nn hk_kk_7 _) (fun _ _ z => z)
set_option maxRecDepth 4000 in
theorem fw_X13_tokenize_58 (nn : Nat) {qkk_7 : Int → ms_M → Option ms_M} (hk_kk_7 : ∀ {l1 : Int} {h : ms_M}, Fm_ (fun c k => nw_F wl_X13_tokenize wf_X13_tokenize false false c k = true) h (qkk_7 l1 h) (fun r => r)) : ∀ (k : Nat) {l1 : Int} {h : ms_M}, Fm_ (fun c k => nw_F wl_X13_tokenize wf_X13_tokenize false false c k = true) h (qw_X13_tokenize_58 nn qkk_7 k l1 h) (fun r => r) := by
  intro k
  induction k with
  | zero => intros; exact fm_no
  | succ k ih =>
    intro l1 h
    unfold qw_X13_tokenize_58
    have F_h : ∀ c k : Nat, (fun c k => nw_F wl_X13_tokenize wf_X13_tokenize false false c k = true) c k → h c k = h c k := fun _ _ _ => rfl
    refine fm_if ?_ ?_
    · exact fm_tl F_h (hk_kk_7) (fun _ _ z => z)
    · refine fm_rd ?_; intro v94
      refine fm_if ?_ ?_
      · exact fm_tl F_h (hk_kk_7) (fun _ _ z => z)
      · refine fm_xl ?_; intro v95
        exact fm_tl F_h (ih ) (fun _ _ z => z)
set_option maxRecDepth 4000 in
theorem fw_X13_tokenize_7 (nn : Nat) : ∀ (k : Nat) {l1 : Int} {h : ms_M}, Fm_ (fun c k => nw_F wl_X13_tokenize wf_X13_tokenize false false c k = true) h (qw_X13_tokenize_7 nn k l1 h) (fun r => r) := by
  intro k
  induction k with
  | zero => intros; exact fm_no
  | succ k ih =>
    intro l1 h
    unfold qw_X13_tokenize_7
    have F_h : ∀ c k : Nat, (fun c k => nw_F wl_X13_tokenize wf_X13_tokenize false false c k = true) c k → h c k = h c k := fun _ _ _ => rfl
    refine fm_if ?_ ?_
    · refine fm_ca F_h (ff_X13_token nn) (nw_sub rfl) ?_; intro u101 F_u101
      exact fm_tl F_u101 (fw_X13_tokenize_449 nn _) (fun _ _ z => z)
    · refine fm_rd ?_; intro v104
      refine fm_if ?_ ?_
      · refine fm_xl ?_; intro v105
        exact fm_tl F_h (ih ) (fun _ _ z => z)
      · refine fm_if ?_ ?_
        · refine fm_if ?_ ?_
          · exact fm_tl F_h (fj_X13_tokenize_83 nn ih) (fun _ _ z => z)
          · refine fm_xl ?_; intro v106
            refine fm_pu ?_; intro u108
            refine fm_if ?_ ?_
            · exact fm_tl F_h (fj_X13_tokenize_83 nn ih) (fun _ _ z => z)
            · exact fm_tl F_h (fw_X13_tokenize_58 nn ih _) (fun _ _ z => z)
        · refine fm_xl ?_; intro v111
          exact fm_tl F_h (ih ) (fun _ _ z => z)
set_option maxRecDepth 4000 in
theorem ff_X13_tokenize (nn : Nat) {h : ms_M} : Fm_ (fun c k => nw_F wl_X13_tokenize wf_X13_tokenize false false c k = true) h (qf_X13_tokenize nn h) (fun r => r) := by
  unfold qf_X13_tokenize
  have F_h : ∀ c k : Nat, (fun c k => nw_F wl_X13_tokenize wf_X13_tokenize false false c k = true) c k → h c k = h c k := fun _ _ _ => rfl
  refine fm_up F_h (nw_nf rfl) ?_; intro h115 F_h115
  exact fm_tl F_h115 (fw_X13_tokenize_7 nn _) (fun _ _ z => z)
set_option maxRecDepth 4000 in
theorem fw_X13_compile_169 (nn : Nat) {qkk_147 : Int → ms_M → Option (Int × ms_M)} (hk_kk_147 : ∀ {l2 : Int} {h : ms_M}, Fm_ (fun c k => nw_F wl_X13_compile wf_X13_compile false false c k = true) h (qkk_147 l2 h) (fun r => r.2)) : ∀ (k : Nat) {l2 : Int} {l3 : Int} {h : ms_M}, Fm_ (fun c k => nw_F wl_X13_compile wf_X13_compile false false c k = true) h (qw_X13_compile_169 nn qkk_147 k l2 l3 h) (fun r => r.2) := by
  intro k
  induction k with
  | zero => intros; exact fm_no
  | succ k ih =>
    intro l2 l3 h
    unfold qw_X13_compile_169
    have F_h : ∀ c k : Nat, (fun c k => nw_F wl_X13_compile wf_X13_compile false false c k = true) c k → h c k = h c k := fun _ _ _ => rfl
    refine fm_rd ?_; intro v2
    refine fm_if ?_ ?_
    · refine fm_xl ?_; intro v3
      exact fm_tl F_h (hk_kk_147) (fun _ _ z => z)
    · refine fm_xl ?_; intro v5
      refine fm_xl ?_; intro v6
      refine fm_xl ?_; intro v8
      refine fm_xl ?_; intro v9
      refine fm_rd ?_; intro v10
      refine fm_wA F_h (nw_ne rfl) ?_; intro h11 F_h11
      refine fm_xl ?_; intro v12
      exact fm_tl F_h11 (ih ) (fun _ _ z => z)
set_option maxRecDepth 4000 in
theorem fw_X13_compile_147 (nn : Nat) : ∀ (k : Nat) {l2 : Int} {h : ms_M}, Fm_ (fun c k => nw_F wl_X13_compile wf_X13_compile false false c k = true) h (qw_X13_compile_147 nn k l2 h) (fun r => r.2) := by
  intro k
  induction k with
  | zero => intros; exact fm_no
  | succ k ih =>
    intro l2 h
    unfold qw_X13_compile_147
    have F_h : ∀ c k : Nat, (fun c k => nw_F wl_X13_compile wf_X13_compile false false c k = true) c k → h c k = h c k := fun _ _ _ => rfl
    refine fm_if ?_ ?_
    · refine fm_up F_h (nw_nf rfl) ?_; intro h16 F_h16
      exact fm_ret F_h16
    · refine fm_rd ?_; intro v20
      refine fm_wA F_h (nw_ne rfl) ?_; intro h21 F_h21
      exact fm_tl F_h21 (fw_X13_compile_169 nn ih _) (fun _ _ z => z)
set_option maxRecDepth 4000 in
theorem fj_X13_compile_136 (nn : Nat) {h : ms_M} : Fm_ (fun c k => nw_F wl_X13_compile wf_X13_compile false false c k = true) h (qj_X13_compile_136 nn h) (fun r => r.2) := by
  unfold qj_X13_compile_136
  have F_h : ∀ c k : Nat, (fun c k => nw_F wl_X13_compile wf_X13_compile false false c k = true) c k → h c k = h c k := fun _ _ _ => rfl
  refine fm_if ?_ ?_
  · exact fm_tl F_h (fw_X13_compile_147 nn _) (fun _ _ z => z)
  · exact fm_ret F_h
set_option maxRecDepth 4000 in
theorem fw_X13_compile_110 (nn : Nat) : ∀ (k : Nat) {l2 : Int} {h : ms_M}, Fm_ (fun c k => nw_F wl_X13_compile wf_X13_compile false false c k = true) h (qw_X13_compile_110 nn k l2 h) (fun r => r.2) := by
  intro k
  induction k with
  | zero => intros; exact fm_no
  | succ k ih =>
    intro l2 h
    unfold qw_X13_compile_110
    have F_h : ∀ c k : Nat, (fun c k => nw_F wl_X13_compile wf_X13_compile false false c k = true) c k → h c k = h c k := fun _ _ _ => rfl
    refine fm_if ?_ ?_
    · exact fm_tl F_h (fj_X13_compile_136 nn) (fun _ _ z => z)
    · refine fm_if ?_ ?_
      · exact fm_tl F_h (fj_X13_compile_136 nn) (fun _ _ z => z)
      · refine fm_ca F_h (ff_X13_makeClass nn) (nw_sub rfl) ?_; intro u28 F_u28
        refine fm_xl ?_; intro v29
        exact fm_tl F_u28 (ih ) (fun _ _ z => z)
set_option maxRecDepth 4000 in
theorem fj_X13_compile_97 (nn : Nat) {h : ms_M} : Fm_ (fun c k => nw_F wl_X13_compile wf_X13_compile false false c k = true) h (qj_X13_compile_97 nn h) (fun r => r.2) := by
  unfold qj_X13_compile_97
  have F_h : ∀ c k : Nat, (fun c k => nw_F wl_X13_compile wf_X13_compile false false c k = true) c k → h c k = h c k := fun _ _ _ => rfl
  refine fm_if ?_ ?_
  · exact fm_tl F_h (fw_X13_compile_110 nn _) (fun _ _ z => z)
  · refine fm_ca F_h (ff_X13_bodies nn) (nw_sub rfl) ?_; intro u34 F_u34
    exact fm_tl F_u34 (fw_X13_compile_110 nn _) (fun _ _ z => z)
set_option maxRecDepth 4000 in
theorem fj_X13_compile_86 (nn : Nat) {h : ms_M} : Fm_ (fun c k => nw_F wl_X13_compile wf_X13_compile false false c k = true) h (qj_X13_compile_86 nn h) (fun r => r.2) := by
  unfold qj_X13_compile_86
  have F_h : ∀ c k : Nat, (fun c k => nw_F wl_X13_compile wf_X13_compile false false c k = true) c k → h c k = h c k := fun _ _ _ => rfl
  refine fm_if ?_ ?_
  · exact fm_tl F_h (fj_X13_compile_97 nn) (fun _ _ z => z)
  · refine fm_ca F_h (ff_X13_heads nn) (nw_sub rfl) ?_; intro u38 F_u38
    exact fm_tl F_u38 (fj_X13_compile_97 nn) (fun _ _ z => z)
set_option maxRecDepth 4000 in
theorem fw_X13_compile_43 (nn : Nat) : ∀ (k : Nat) {l1 : Int} {l2 : Int} {h : ms_M}, Fm_ (fun c k => nw_F wl_X13_compile wf_X13_compile false false c k = true) h (qw_X13_compile_43 nn k l1 l2 h) (fun r => r.2) := by
  intro k
  induction k with
  | zero => intros; exact fm_no
  | succ k ih =>
    intro l1 l2 h
    unfold qw_X13_compile_43
    have F_h : ∀ c k : Nat, (fun c k => nw_F wl_X13_compile wf_X13_compile false false c k = true) c k → h c k = h c k := fun _ _ _ => rfl
    refine fm_if ?_ ?_
    · refine fm_up F_h (nw_nf rfl) ?_; intro h40 F_h40
      refine fm_ca F_h40 (ff_X13_tokenize nn) (nw_sub rfl) ?_; intro u42 F_u42
      refine fm_if ?_ ?_
      · exact fm_tl F_u42 (fj_X13_compile_86 nn) (fun _ _ z => z)
      · refine fm_ca F_u42 (ff_X13_program nn) (nw_sub rfl) ?_; intro u45 F_u45
        exact fm_tl F_u45 (fj_X13_compile_86 nn) (fun _ _ z => z)
    · refine fm_rd ?_; intro v49
      refine fm_wA F_h (nw_ne rfl) ?_; intro h50 F_h50
      refine fm_xl ?_; intro v51
      exact fm_tl F_h50 (ih ) (fun _ _ z => z)
set_option maxRecDepth 4000 in
theorem ff_X13_compile (nn : Nat) {h : ms_M} : Fm_ (fun c k => nw_F wl_X13_compile wf_X13_compile false false c k = true) h (qf_X13_compile nn h) (fun r => r.2) := by
  unfold qf_X13_compile
  have F_h : ∀ c k : Nat, (fun c k => nw_F wl_X13_compile wf_X13_compile false false c k = true) c k → h c k = h c k := fun _ _ _ => rfl
  refine fm_up F_h (nw_nf rfl) ?_; intro h54 F_h54
  refine fm_up F_h54 (nw_nf rfl) ?_; intro h55 F_h55
  refine fm_up F_h55 (nw_nf rfl) ?_; intro h56 F_h56
  refine fm_if ?_ ?_
  · exact fm_tl F_h56 (fw_X13_compile_43 nn _) (fun _ _ z => z)
  · refine fm_up F_h56 (nw_nf rfl) ?_; intro h57 F_h57
    refine fm_up F_h57 (nw_nf rfl) ?_; intro h58 F_h58
    exact fm_ret F_h58
set_option maxRecDepth 4000 in
theorem ff_X13_end (nn : Nat) {a1 : Int} {h : ms_M} : Fm_ (fun c k => nw_F wl_X13_end wf_X13_end false false c k = true) h (qf_X13_end nn a1 h) (fun r => r.2) := by
  unfold qf_X13_end
  have F_h : ∀ c k : Nat, (fun c k => nw_F wl_X13_end wf_X13_end false false c k = true) c k → h c k = h c k := fun _ _ _ => rfl
  refine fm_if ?_ ?_
  · exact fm_ret F_h
  · refine fm_if ?_ ?_
    · refine fm_up F_h (nw_nf rfl) ?_; intro h2 F_h2
      exact fm_ret F_h2
    · exact fm_ret F_h
set_option maxRecDepth 4000 in
theorem fw_X13_lay_3 (nn : Nat) : ∀ (k : Nat) {l1 : Int} {l2 : Int} {h : ms_M}, Fm_ (fun c k => nw_F wl_X13_lay wf_X13_lay false false c k = true) h (qw_X13_lay_3 nn k l1 l2 h) (fun r => r) := by
  intro k
  induction k with
  | zero => intros; exact fm_no
  | succ k ih =>
    intro l1 l2 h
    unfold qw_X13_lay_3
    have F_h : ∀ c k : Nat, (fun c k => nw_F wl_X13_lay wf_X13_lay false false c k = true) c k → h c k = h c k := fun _ _ _ => rfl
    refine fm_if ?_ ?_
    · exact fm_ret F_h
    · refine fm_xl ?_; intro v3
      refine fm_xl ?_; intro v4
      refine fm_wA F_h (nw_ne rfl) ?_; intro h5 F_h5
      refine fm_xl ?_; intro v7
      refine fm_up F_h5 (nw_nf rfl) ?_; intro h8 F_h8
      refine fm_xl ?_; intro v9
      exact fm_tl F_h8 (ih ) (fun _ _ z => z)
set_option maxRecDepth 4000 in
theorem ff_X13_lay (nn : Nat) {a1 : Int} {h : ms_M} : Fm_ (fun c k => nw_F wl_X13_lay wf_X13_lay false false c k = true) h (qf_X13_lay nn a1 h) (fun r => r) := by
  unfold qf_X13_lay
  have F_h : ∀ c k : Nat, (fun c k => nw_F wl_X13_lay wf_X13_lay false false c k = true) c k → h c k = h c k := fun _ _ _ => rfl
  exact fm_tl F_h (fw_X13_lay_3 nn _) (fun _ _ z => z)
set_option maxRecDepth 4000 in
theorem ff_X13_feed (nn : Nat) {a1 : Int} {a2 : Int} {a3 : Int} {a4 : Int} {a5 : Int} {h : ms_M} : Fm_ (fun c k => nw_F wl_X13_feed wf_X13_feed false false c k = true) h (qf_X13_feed nn a1 a2 a3 a4 a5 h) (fun r => r.2) := by
  unfold qf_X13_feed
  have F_h : ∀ c k : Nat, (fun c k => nw_F wl_X13_feed wf_X13_feed false false c k = true) c k → h c k = h c k := fun _ _ _ => rfl
  refine fm_xl ?_; intro v2
  refine fm_if ?_ ?_
  · refine fm_ca F_h (ff_X13_lay nn) (nw_sub rfl) ?_; intro u4 F_u4
    refine fm_ca F_u4 (ff_X13_lay nn) (nw_sub rfl) ?_; intro u6 F_u6
    refine fm_ca F_u6 (ff_X13_lay nn) (nw_sub rfl) ?_; intro u8 F_u8
    refine fm_ca F_u8 (ff_X13_lay nn) (nw_sub rfl) ?_; intro u10 F_u10
    refine fm_ca F_u10 (ff_X13_lay nn) (nw_sub rfl) ?_; intro u12 F_u12
    exact fm_ret F_u12
  · exact fm_ret F_h
set_option maxRecDepth 4000 in
theorem fw_X13_again_107 (nn : Nat) : ∀ (k : Nat) {l1 : Int} {l2 : Int} {l3 : Int} {h : ms_M}, Fm_ (fun c k => nw_F wl_X13_again wf_X13_again false false c k = true) h (qw_X13_again_107 nn k l1 l2 l3 h) (fun r => r) := by
  intro k
  induction k with
  | zero => intros; exact fm_no
  | succ k ih =>
    intro l1 l2 l3 h
    unfold qw_X13_again_107
    have F_h : ∀ c k : Nat, (fun c k => nw_F wl_X13_again wf_X13_again false false c k = true) c k → h c k = h c k := fun _ _ _ => rfl
    refine fm_if ?_ ?_
    · exact fm_ret F_h
    · refine fm_xl ?_; intro v2
      refine fm_xl ?_; intro v3
      refine fm_xl ?_; intro v5
      refine fm_xl ?_; intro v6
      refine fm_rd ?_; intro v7
      refine fm_wA F_h (nw_ne rfl) ?_; intro h8 F_h8
      refine fm_xl ?_; intro v10
      refine fm_xl ?_; intro v11
      refine fm_xl ?_; intro v13
      refine fm_xl ?_; intro v14
      refine fm_rd ?_; intro v15
      refine fm_wA F_h8 (nw_ne rfl) ?_; intro h16 F_h16
      refine fm_xl ?_; intro v18
      refine fm_xl ?_; intro v19
      refine fm_xl ?_; intro v21
      refine fm_xl ?_; intro v22
      refine fm_rd ?_; intro v23
      refine fm_wA F_h16 (nw_ne rfl) ?_; intro h24 F_h24
      refine fm_xl ?_; intro v26
      refine fm_xl ?_; intro v27
      refine fm_xl ?_; intro v29
      refine fm_xl ?_; intro v30
      refine fm_rd ?_; intro v31
      refine fm_wA F_h24 (nw_ne rfl) ?_; intro h32 F_h32
      refine fm_xl ?_; intro v33
      exact fm_tl F_h32 (ih ) (fun _ _ z => z)
set_option maxRecDepth 4000 in
theorem fw_X13_again_2 (nn : Nat) : ∀ (k : Nat) {l1 : Int} {l2 : Int} {h : ms_M}, Fm_ (fun c k => nw_F wl_X13_again wf_X13_again false false c k = true) h (qw_X13_again_2 nn k l1 l2 h) (fun r => r) := by
  intro k
  induction k with
  | zero => intros; exact fm_no
  | succ k ih =>
    intro l1 l2 h
    unfold qw_X13_again_2
    have F_h : ∀ c k : Nat, (fun c k => nw_F wl_X13_again wf_X13_again false false c k = true) c k → h c k = h c k := fun _ _ _ => rfl
    refine fm_if ?_ ?_
    · refine fm_rd ?_; intro v37
      refine fm_wA F_h (nw_ne rfl) ?_; intro h38 F_h38
      refine fm_xl ?_; intro v41
      refine fm_rd ?_; intro v42
      refine fm_wA F_h38 (nw_ne rfl) ?_; intro h43 F_h43
      refine fm_xl ?_; intro v46
      refine fm_rd ?_; intro v47
      refine fm_wA F_h43 (nw_ne rfl) ?_; intro h48 F_h48
      refine fm_xl ?_; intro v51
      refine fm_rd ?_; intro v52
      refine fm_wA F_h48 (nw_ne rfl) ?_; intro h53 F_h53
      refine fm_xl ?_; intro v56
      refine fm_rd ?_; intro v57
      refine fm_wA F_h53 (nw_ne rfl) ?_; intro h58 F_h58
      exact fm_tl F_h58 (fw_X13_again_107 nn _) (fun _ _ z => z)
    · refine fm_xl ?_; intro v60
      refine fm_xl ?_; intro v61
      refine fm_rd ?_; intro v63
      refine fm_wA F_h (nw_ne rfl) ?_; intro h64 F_h64
      refine fm_xl ?_; intro v65
      exact fm_tl F_h64 (ih ) (fun _ _ z => z)
set_option maxRecDepth 4000 in
theorem ff_X13_again (nn : Nat) {a1 : Int} {h : ms_M} : Fm_ (fun c k => nw_F wl_X13_again wf_X13_again false false c k = true) h (qf_X13_again nn a1 h) (fun r => r) := by
  unfold qf_X13_again
  have F_h : ∀ c k : Nat, (fun c k => nw_F wl_X13_again wf_X13_again false false c k = true) c k → h c k = h c k := fun _ _ _ => rfl
  exact fm_tl F_h (fw_X13_again_2 nn _) (fun _ _ z => z)
set_option maxRecDepth 4000 in
theorem fw_X13_aside_107 (nn : Nat) : ∀ (k : Nat) {l1 : Int} {l2 : Int} {l3 : Int} {h : ms_M}, Fm_ (fun c k => nw_F wl_X13_aside wf_X13_aside false false c k = true) h (qw_X13_aside_107 nn k l1 l2 l3 h) (fun r => r) := by
  intro k
  induction k with
  | zero => intros; exact fm_no
  | succ k ih =>
    intro l1 l2 l3 h
    unfold qw_X13_aside_107
    have F_h : ∀ c k : Nat, (fun c k => nw_F wl_X13_aside wf_X13_aside false false c k = true) c k → h c k = h c k := fun _ _ _ => rfl
    refine fm_if ?_ ?_
    · exact fm_ret F_h
    · refine fm_xl ?_; intro v2
      refine fm_xl ?_; intro v3
      refine fm_xl ?_; intro v5
      refine fm_xl ?_; intro v6
      refine fm_rd ?_; intro v7
      refine fm_wA F_h (nw_ne rfl) ?_; intro h8 F_h8
      refine fm_xl ?_; intro v10
      refine fm_xl ?_; intro v11
      refine fm_xl ?_; intro v13
      refine fm_xl ?_; intro v14
      refine fm_rd ?_; intro v15
      refine fm_wA F_h8 (nw_ne rfl) ?_; intro h16 F_h16
      refine fm_xl ?_; intro v18
      refine fm_xl ?_; intro v19
      refine fm_xl ?_; intro v21
      refine fm_xl ?_; intro v22
      refine fm_rd ?_; intro v23
      refine fm_wA F_h16 (nw_ne rfl) ?_; intro h24 F_h24
      refine fm_xl ?_; intro v26
      refine fm_xl ?_; intro v27
      refine fm_xl ?_; intro v29
      refine fm_xl ?_; intro v30
      refine fm_rd ?_; intro v31
      refine fm_wA F_h24 (nw_ne rfl) ?_; intro h32 F_h32
      refine fm_xl ?_; intro v33
      exact fm_tl F_h32 (ih ) (fun _ _ z => z)
set_option maxRecDepth 4000 in
theorem fw_X13_aside_2 (nn : Nat) : ∀ (k : Nat) {l1 : Int} {l2 : Int} {h : ms_M}, Fm_ (fun c k => nw_F wl_X13_aside wf_X13_aside false false c k = true) h (qw_X13_aside_2 nn k l1 l2 h) (fun r => r) := by
  intro k
  induction k with
  | zero => intros; exact fm_no
  | succ k ih =>
    intro l1 l2 h
    unfold qw_X13_aside_2
    have F_h : ∀ c k : Nat, (fun c k => nw_F wl_X13_aside wf_X13_aside false false c k = true) c k → h c k = h c k := fun _ _ _ => rfl
    refine fm_if ?_ ?_
    · refine fm_rd ?_; intro v37
      refine fm_wA F_h (nw_ne rfl) ?_; intro h38 F_h38
      refine fm_xl ?_; intro v40
      refine fm_rd ?_; intro v42
      refine fm_wA F_h38 (nw_ne rfl) ?_; intro h43 F_h43
      refine fm_xl ?_; intro v45
      refine fm_rd ?_; intro v47
      refine fm_wA F_h43 (nw_ne rfl) ?_; intro h48 F_h48
      refine fm_xl ?_; intro v50
      refine fm_rd ?_; intro v52
      refine fm_wA F_h48 (nw_ne rfl) ?_; intro h53 F_h53
      refine fm_xl ?_; intro v55
      refine fm_rd ?_; intro v57
      refine fm_wA F_h53 (nw_ne rfl) ?_; intro h58 F_h58
      exact fm_tl F_h58 (fw_X13_aside_107 nn _) (fun _ _ z => z)
    · refine fm_xl ?_; intro v61
      refine fm_xl ?_; intro v62
      refine fm_rd ?_; intro v63
      refine fm_wA F_h (nw_ne rfl) ?_; intro h64 F_h64
      refine fm_xl ?_; intro v65
      exact fm_tl F_h64 (ih ) (fun _ _ z => z)
set_option maxRecDepth 4000 in
theorem ff_X13_aside (nn : Nat) {a1 : Int} {h : ms_M} : Fm_ (fun c k => nw_F wl_X13_aside wf_X13_aside false false c k = true) h (qf_X13_aside nn a1 h) (fun r => r) := by
  unfold qf_X13_aside
  have F_h : ∀ c k : Nat, (fun c k => nw_F wl_X13_aside wf_X13_aside false false c k = true) c k → h c k = h c k := fun _ _ _ => rfl
  exact fm_tl F_h (fw_X13_aside_2 nn _) (fun _ _ z => z)
set_option maxRecDepth 4000 in
theorem fw_X13_install_2 (nn : Nat) : ∀ (k : Nat) {l1 : Int} {l2 : Int} {h : ms_M}, Fm_ (fun c k => nw_F wl_X13_install wf_X13_install false false c k = true) h (qw_X13_install_2 nn k l1 l2 h) (fun r => r.2) := by
  intro k
  induction k with
  | zero => intros; exact fm_no
  | succ k ih =>
    intro l1 l2 h
    unfold qw_X13_install_2
    have F_h : ∀ c k : Nat, (fun c k => nw_F wl_X13_install wf_X13_install false false c k = true) c k → h c k = h c k := fun _ _ _ => rfl
    refine fm_if ?_ ?_
    · refine fm_wA F_h (nw_ne rfl) ?_; intro h4 F_h4
      refine fm_xl ?_; intro v5
      exact fm_ret F_h4
    · refine fm_xl ?_; intro v7
      refine fm_xl ?_; intro v8
      refine fm_rd ?_; intro v10
      refine fm_wA F_h (nw_ne rfl) ?_; intro h11 F_h11
      refine fm_xl ?_; intro v12
      exact fm_tl F_h11 (ih ) (fun _ _ z => z)
set_option maxRecDepth 4000 in
theorem ff_X13_install (nn : Nat) {a1 : Int} {h : ms_M} : Fm_ (fun c k => nw_F wl_X13_install wf_X13_install false false c k = true) h (qf_X13_install nn a1 h) (fun r => r.2) := by
  unfold qf_X13_install
  have F_h : ∀ c k : Nat, (fun c k => nw_F wl_X13_install wf_X13_install false false c k = true) c k → h c k = h c k := fun _ _ _ => rfl
  exact fm_tl F_h (fw_X13_install_2 nn _) (fun _ _ z => z)
set_option maxRecDepth 4000 in
theorem ff_X13_unfit (nn : Nat) {a1 : Int} {h : ms_M} : Fm_ (fun c k => nw_F wl_X13_unfit wf_X13_unfit false false c k = true) h (qf_X13_unfit nn a1 h) (fun r => r) := by
  unfold qf_X13_unfit
  have F_h : ∀ c k : Nat, (fun c k => nw_F wl_X13_unfit wf_X13_unfit false false c k = true) c k → h c k = h c k := fun _ _ _ => rfl
  refine fm_if ?_ ?_
  · exact fm_ret F_h
  · refine fm_up F_h (nw_nf rfl) ?_; intro h2 F_h2
    exact fm_ret F_h2
set_option maxRecDepth 4000 in
theorem fj_X13_checkConstant_105 (nn : Nat) {l1 : Int} {h : ms_M} : Fm_ (fun c k => nw_F wl_X13_checkConstant wf_X13_checkConstant false false c k = true) h (qj_X13_checkConstant_105 nn l1 h) (fun r => r) := by
  unfold qj_X13_checkConstant_105
  have F_h : ∀ c k : Nat, (fun c k => nw_F wl_X13_checkConstant wf_X13_checkConstant false false c k = true) c k → h c k = h c k := fun _ _ _ => rfl
  refine fm_xl ?_; intro v2
  refine fm_rd ?_; intro v3
  refine fm_pu ?_; intro u5
  refine fm_if ?_ ?_
  · exact fm_ret F_h
  · refine fm_xl ?_; intro v6
    refine fm_ca F_h (ff_X13_unfit nn) (nw_sub rfl) ?_; intro u8 F_u8
    exact fm_ret F_u8
set_option maxRecDepth 4000 in
theorem fj_X13_checkConstant_82 (nn : Nat) {l1 : Int} {h : ms_M} : Fm_ (fun c k => nw_F wl_X13_checkConstant wf_X13_checkConstant false false c k = true) h (qj_X13_checkConstant_82 nn l1 h) (fun r => r) := by
  unfold qj_X13_checkConstant_82
  have F_h : ∀ c k : Nat, (fun c k => nw_F wl_X13_checkConstant wf_X13_checkConstant false false c k = true) c k → h c k = h c k := fun _ _ _ => rfl
  refine fm_xl ?_; intro v11
  refine fm_rd ?_; intro v12
  refine fm_pu ?_; intro u14
  refine fm_if ?_ ?_
  · exact fm_tl F_h (fj_X13_checkConstant_105 nn) (fun _ _ z => z)
  · refine fm_xl ?_; intro v15
    refine fm_ca F_h (ff_X13_unfit nn) (nw_sub rfl) ?_; intro u17 F_u17
    exact fm_tl F_u17 (fj_X13_checkConstant_105 nn) (fun _ _ z => z)
set_option maxRecDepth 4000 in
theorem fj_X13_checkConstant_75 (nn : Nat) {l1 : Int} {h : ms_M} : Fm_ (fun c k => nw_F wl_X13_checkConstant wf_X13_checkConstant false false c k = true) h (qj_X13_checkConstant_75 nn l1 h) (fun r => r) := by
  unfold qj_X13_checkConstant_75
  have F_h : ∀ c k : Nat, (fun c k => nw_F wl_X13_checkConstant wf_X13_checkConstant false false c k = true) c k → h c k = h c k := fun _ _ _ => rfl
  refine fm_xl ?_; intro v19
  refine fm_ca F_h (ff_X13_unfit nn) (nw_sub rfl) ?_; intro u21 F_u21
  exact fm_tl F_u21 (fj_X13_checkConstant_82 nn) (fun _ _ z => z)
set_option maxRecDepth 4000 in
theorem fj_X13_checkConstant_33 (nn : Nat) {l1 : Int} {h : ms_M} : Fm_ (fun c k => nw_F wl_X13_checkConstant wf_X13_checkConstant false false c k = true) h (qj_X13_checkConstant_33 nn l1 h) (fun r => r) := by
  unfold qj_X13_checkConstant_33
  have F_h : ∀ c k : Nat, (fun c k => nw_F wl_X13_checkConstant wf_X13_checkConstant false false c k = true) c k → h c k = h c k := fun _ _ _ => rfl
  refine fm_rd ?_; intro v23
  refine fm_if ?_ ?_
  · refine fm_xl ?_; intro v26
    refine fm_rd ?_; intro v27
    refine fm_pu ?_; intro u29
    refine fm_if ?_ ?_
    · exact fm_tl F_h (fj_X13_checkConstant_75 nn) (fun _ _ z => z)
    · refine fm_rd ?_; intro v31
      refine fm_if ?_ ?_
      · exact fm_tl F_h (fj_X13_checkConstant_82 nn) (fun _ _ z => z)
      · exact fm_tl F_h (fj_X13_checkConstant_75 nn) (fun _ _ z => z)
  · exact fm_ret F_h
set_option maxRecDepth 4000 in
theorem ff_X13_checkConstant (nn : Nat) {a1 : Int} {h : ms_M} : Fm_ (fun c k => nw_F wl_X13_checkConstant wf_X13_checkConstant false false c k = true) h (qf_X13_checkConstant nn a1 h) (fun r => r) := by
  unfold qf_X13_checkConstant
  have F_h : ∀ c k : Nat, (fun c k => nw_F wl_X13_checkConstant wf_X13_checkConstant false false c k = true) c k → h c k = h c k := fun _ _ _ => rfl
  refine fm_rd ?_; intro v36
  refine fm_if ?_ ?_
  · exact fm_tl F_h (fj_X13_checkConstant_33 nn) (fun _ _ z => z)
  · refine fm_xl ?_; intro v38
    refine fm_rd ?_; intro v39
    refine fm_pu ?_; intro u41
    refine fm_if ?_ ?_
    · exact fm_tl F_h (fj_X13_checkConstant_33 nn) (fun _ _ z => z)
    · refine fm_xl ?_; intro v42
      refine fm_ca F_h (ff_X13_unfit nn) (nw_sub rfl) ?_; intro u44 F_u44
      exact fm_tl F_u44 (fj_X13_checkConstant_33 nn) (fun _ _ z => z)
set_option maxRecDepth 4000 in
theorem fj_X13_isByte_26 (nn : Nat) {h : ms_M} : Fm_ (fun c k => nw_F wl_X13_isByte wf_X13_isByte false false c k = true) h (qj_X13_isByte_26 nn h) (fun r => r.2) := by
  unfold qj_X13_isByte_26
  have F_h : ∀ c k : Nat, (fun c k => nw_F wl_X13_isByte wf_X13_isByte false false c k = true) c k → h c k = h c k := fun _ _ _ => rfl
  refine fm_if ?_ ?_
  · exact fm_ret F_h
  · exact fm_ret F_h
set_option maxRecDepth 4000 in
theorem ff_X13_isByte (nn : Nat) {a1 : Int} {h : ms_M} : Fm_ (fun c k => nw_F wl_X13_isByte wf_X13_isByte false false c k = true) h (qf_X13_isByte nn a1 h) (fun r => r.2) := by
  unfold qf_X13_isByte
  have F_h : ∀ c k : Nat, (fun c k => nw_F wl_X13_isByte wf_X13_isByte false false c k = true) c k → h c k = h c k := fun _ _ _ => rfl
  refine fm_if ?_ ?_
  · refine fm_if ?_ ?_
    · exact fm_tl F_h (fj_X13_isByte_26 nn) (fun _ _ z => z)
    · refine fm_up F_h (nw_nf rfl) ?_; intro h6 F_h6
      exact fm_tl F_h6 (fj_X13_isByte_26 nn) (fun _ _ z => z)
  · exact fm_ret F_h
set_option maxRecDepth 4000 in
theorem fj_X13_scanConstant_147 (nn : Nat) {l1 : Int} {l2 : Int} {h : ms_M} : Fm_ (fun c k => nw_F wl_X13_scanConstant wf_X13_scanConstant false false c k = true) h (qj_X13_scanConstant_147 nn l1 l2 h) (fun r => r.2) := by
  unfold qj_X13_scanConstant_147
  have F_h : ∀ c k : Nat, (fun c k => nw_F wl_X13_scanConstant wf_X13_scanConstant false false c k = true) c k → h c k = h c k := fun _ _ _ => rfl
  refine fm_xl ?_; intro v1
  refine fm_xl ?_; intro v2
  exact fm_ret F_h
set_option maxRecDepth 4000 in
theorem fj_X13_scanConstant_132 (nn : Nat) {qkk_77 : Int → Int → Int → ms_M → Option (Int × ms_M)} (hk_kk_77 : ∀ {l1 : Int} {l2 : Int} {l3 : Int} {h : ms_M}, Fm_ (fun c k => nw_F wl_X13_scanConstant wf_X13_scanConstant false false c k = true) h (qkk_77 l1 l2 l3 h) (fun r => r.2)) {l1 : Int} {l2 : Int} {l3 : Int} {h : ms_M} : Fm_ (fun c k => nw_F wl_X13_scanConstant wf_X13_scanConstant false false c k = true) h (qj_X13_scanConstant_132 nn qkk_77 l1 l2 l3 h) (fun r => r.2) := by
  unfold qj_X13_scanConstant_132
  have F_h : ∀ c k : Nat, (fun c k => nw_F wl_X13_scanConstant wf_X13_scanConstant false false c k = true) c k → h c k = h c k := fun _ _ _ => rfl
  refine fm_xl ?_; intro v3
  refine fm_xl ?_; intro v4
  refine fm_ca F_h (ff_X13_unfit nn) (nw_sub rfl) ?_; intro u6 F_u6
  refine fm_xl ?_; intro v7
  exact fm_tl F_u6 (hk_kk_77) (fun _ _ z => z)
set_option maxRecDepth 4000 in
theorem fw_X13_scanConstant_77 (nn : Nat) : ∀ (k : Nat) {l1 : Int} {l2 : Int} {l3 : Int} {h : ms_M}, Fm_ (fun c k => nw_F wl_X13_scanConstant wf_X13_scanConstant false false c k = true) h (qw_X13_scanConstant_77 nn k l1 l2 l3 h) (fun r => r.2) := by
  intro k
  induction k with
  | zero => intros; exact fm_no
  | succ k ih =>
    intro l1 l2 l3 h
    unfold qw_X13_scanConstant_77
    have F_h : ∀ c k : Nat, (fun c k => nw_F wl_X13_scanConstant wf_X13_scanConstant false false c k = true) c k → h c k = h c k := fun _ _ _ => rfl
    refine fm_if ?_ ?_
    · exact fm_tl F_h (fj_X13_scanConstant_147 nn) (fun _ _ z => z)
    · refine fm_if ?_ ?_
      · exact fm_tl F_h (fj_X13_scanConstant_147 nn) (fun _ _ z => z)
      · refine fm_xl ?_; intro v9
        refine fm_xl ?_; intro v10
        refine fm_ca F_h (ff_X13_isByte nn) (nw_sub rfl) ?_; intro u12 F_u12
        refine fm_if ?_ ?_
        · refine fm_xl ?_; intro v13
          exact fm_tl F_u12 (ih ) (fun _ _ z => z)
        · refine fm_xl ?_; intro v15
          refine fm_xl ?_; intro v16
          refine fm_rd ?_; intro v17
          refine fm_if ?_ ?_
          · exact fm_tl F_u12 (fj_X13_scanConstant_132 nn ih) (fun _ _ z => z)
          · refine fm_xl ?_; intro v19
            refine fm_xl ?_; intro v20
            refine fm_rd ?_; intro v21
            refine fm_if ?_ ?_
            · refine fm_xl ?_; intro v22
              exact fm_tl F_u12 (ih ) (fun _ _ z => z)
            · exact fm_tl F_u12 (fj_X13_scanConstant_132 nn ih) (fun _ _ z => z)
