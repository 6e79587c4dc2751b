set_option maxRecDepth 4000 in
theorem fj_X13_scanConstant_68 (nn : Nat) {l1 : Int} {l2 : Int} {h : ms_M} : Fm_ (fun c k => nw_F wl_X13_scanConstant wf_X13_scanConstant false false c k = true) h (qj_X13_scanConstant_68 nn l1 l2 h) (fun r => r.2) := by
  unfold qj_X13_scanConstant_68
  have F_h : ∀ c k : Nat, (fun c k => nw_F wl_X13_scanConstant wf_X13_scanConstant false false c k = true) c k → h c k = h c k := fun _ _ _ => rfl
  refine fm_xl ?_; intro v28
  refine fm_ca F_h (ff_X13_unfit nn) (nw_sub rfl) ?_; intro u30 F_u30
  exact fm_tl F_u30 (fw_X13_scanConstant_77 nn _) (fun _ _ z => z)
set_option maxRecDepth 4000 in
theorem ff_X13_scanConstant (nn : Nat) {a1 : Int} {h : ms_M} : Fm_ (fun c k => nw_F wl_X13_scanConstant wf_X13_scanConstant false false c k = true) h (qf_X13_scanConstant nn a1 h) (fun r => r.2) := by
  unfold qf_X13_scanConstant
  have F_h : ∀ c k : Nat, (fun c k => nw_F wl_X13_scanConstant wf_X13_scanConstant false false c k = true) c k → h c k = h c k := fun _ _ _ => rfl
  refine fm_rd ?_; intro v32
  refine fm_if ?_ ?_
  · refine fm_xl ?_; intro v35
    refine fm_ca F_h (ff_X13_isByte nn) (nw_sub rfl) ?_; intro u37 F_u37
    refine fm_if ?_ ?_
    · refine fm_xl ?_; intro v39
      refine fm_rd ?_; intro v40
      refine fm_if ?_ ?_
      · exact fm_tl F_u37 (fj_X13_scanConstant_68 nn) (fun _ _ z => z)
      · refine fm_if ?_ ?_
        · exact fm_tl F_u37 (fw_X13_scanConstant_77 nn _) (fun _ _ z => z)
        · exact fm_tl F_u37 (fj_X13_scanConstant_68 nn) (fun _ _ z => z)
    · exact fm_ret F_u37
  · refine fm_if ?_ ?_
    · refine fm_xl ?_; intro v44
      refine fm_ca F_h (ff_X13_isByte nn) (nw_sub rfl) ?_; intro u46 F_u46
      refine fm_xl ?_; intro v47
      exact fm_ret F_u46
    · refine fm_if ?_ ?_
      · refine fm_xl ?_; intro v48
        refine fm_ca F_h (ff_X13_isByte nn) (nw_sub rfl) ?_; intro u50 F_u50
        refine fm_xl ?_; intro v51
        exact fm_ret F_u50
      · refine fm_if ?_ ?_
        · refine fm_xl ?_; intro v52
          refine fm_ca F_h (ff_X13_isByte nn) (nw_sub rfl) ?_; intro u54 F_u54
          refine fm_xl ?_; intro v55
          exact fm_ret F_u54
        · refine fm_ca F_h (ff_X13_unfit nn) (nw_sub rfl) ?_; intro u34 F_u34
          exact fm_ret F_u34
set_option maxRecDepth 4000 in
theorem fj_X13_scanFields_94 (nn : Nat) {qkk_35 : Int → Int → Int → Int → ms_M → Option (Int × ms_M)} (hk_kk_35 : ∀ {l1 : Int} {l2 : Int} {l3 : Int} {l4 : Int} {h : ms_M}, Fm_ (fun c k => nw_F wl_X13_scanFields wf_X13_scanFields false false c k = true) h (qkk_35 l1 l2 l3 l4 h) (fun r => r.2)) {l1 : Int} {l2 : Int} {l3 : Int} {l4 : Int} {h : ms_M} : Fm_ (fun c k => nw_F wl_X13_scanFields wf_X13_scanFields false false c k = true) h (qj_X13_scanFields_94 nn qkk_35 l1 l2 l3 l4 h) (fun r => r.2) := by
  unfold qj_X13_scanFields_94
  have F_h : ∀ c k : Nat, (fun c k => nw_F wl_X13_scanFields wf_X13_scanFields false false c k = true) c k → h c k = h c k := fun _ _ _ => rfl
  refine fm_xl ?_; intro v1
  refine fm_ca F_h (ff_X13_isByte nn) (nw_sub rfl) ?_; intro u3 F_u3
  refine fm_if ?_ ?_
  · refine fm_xl ?_; intro v4
    refine fm_xl ?_; intro v5
    exact fm_tl F_u3 (hk_kk_35) (fun _ _ z => z)
  · refine fm_xl ?_; intro v7
    refine fm_rd ?_; intro v8
    refine fm_pu ?_; intro u10
    refine fm_if ?_ ?_
    · refine fm_xl ?_; intro v11
      refine fm_xl ?_; intro v12
      exact fm_tl F_u3 (hk_kk_35) (fun _ _ z => z)
    · refine fm_xl ?_; intro v13
      refine fm_ca F_u3 (ff_X13_unfit nn) (nw_sub rfl) ?_; intro u15 F_u15
      refine fm_xl ?_; intro v16
      refine fm_xl ?_; intro v17
      exact fm_tl F_u15 (hk_kk_35) (fun _ _ z => z)
set_option maxRecDepth 4000 in
theorem fw_X13_scanFields_35 (nn : Nat) : ∀ (k : Nat) {l1 : Int} {l2 : Int} {l3 : Int} {l4 : Int} {h : ms_M}, Fm_ (fun c k => nw_F wl_X13_scanFields wf_X13_scanFields false false c k = true) h (qw_X13_scanFields_35 nn k l1 l2 l3 l4 h) (fun r => r.2) := by
  intro k
  induction k with
  | zero => intros; exact fm_no
  | succ k ih =>
    intro l1 l2 l3 l4 h
    unfold qw_X13_scanFields_35
    have F_h : ∀ c k : Nat, (fun c k => nw_F wl_X13_scanFields wf_X13_scanFields false false c k = true) c k → h c k = h c k := fun _ _ _ => rfl
    refine fm_rd ?_; intro v21
    refine fm_if ?_ ?_
    · exact fm_ret F_h
    · refine fm_if ?_ ?_
      · exact fm_ret F_h
      · refine fm_xl ?_; intro v24
        refine fm_xl ?_; intro v25
        refine fm_wA F_h (nw_ne rfl) ?_; intro h26 F_h26
        refine fm_ca F_h26 (ff_X13_isByte nn) (nw_sub rfl) ?_; intro u28 F_u28
        refine fm_if ?_ ?_
        · exact fm_tl F_u28 (fj_X13_scanFields_94 nn ih) (fun _ _ z => z)
        · refine fm_rd ?_; intro v30
          refine fm_pu ?_; intro u32
          refine fm_if ?_ ?_
          · exact fm_tl F_u28 (fj_X13_scanFields_94 nn ih) (fun _ _ z => z)
          · refine fm_ca F_u28 (ff_X13_unfit nn) (nw_sub rfl) ?_; intro u34 F_u34
            exact fm_tl F_u34 (fj_X13_scanFields_94 nn ih) (fun _ _ z => z)
set_option maxRecDepth 4000 in
theorem fj_X13_scanFields_16 (nn : Nat) {l1 : Int} {l2 : Int} {h : ms_M} : Fm_ (fun c k => nw_F wl_X13_scanFields wf_X13_scanFields false false c k = true) h (qj_X13_scanFields_16 nn l1 l2 h) (fun r => r.2) := by
  unfold qj_X13_scanFields_16
  have F_h : ∀ c k : Nat, (fun c k => nw_F wl_X13_scanFields wf_X13_scanFields false false c k = true) c k → h c k = h c k := fun _ _ _ => rfl
  refine fm_rd ?_; intro v41
  refine fm_wA F_h (nw_ne rfl) ?_; intro h42 F_h42
  refine fm_xl ?_; intro v43
  exact fm_tl F_h42 (fw_X13_scanFields_35 nn _) (fun _ _ z => z)
set_option maxRecDepth 4000 in
theorem ff_X13_scanFields (nn : Nat) {a1 : Int} {a2 : Int} {h : ms_M} : Fm_ (fun c k => nw_F wl_X13_scanFields wf_X13_scanFields false false c k = true) h (qf_X13_scanFields nn a1 a2 h) (fun r => r.2) := by
  unfold qf_X13_scanFields
  have F_h : ∀ c k : Nat, (fun c k => nw_F wl_X13_scanFields wf_X13_scanFields false false c k = true) c k → h c k = h c k := fun _ _ _ => rfl
  refine fm_rd ?_; intro v45
  refine fm_if ?_ ?_
  · exact fm_tl F_h (fj_X13_scanFields_16 nn) (fun _ _ z => z)
  · refine fm_ca F_h (ff_X13_unfit nn) (nw_sub rfl) ?_; intro u47 F_u47
    exact fm_tl F_u47 (fj_X13_scanFields_16 nn) (fun _ _ z => z)
set_option maxRecDepth 4000 in
theorem fj_X13_scanTypes_55 (nn : Nat) {qkk_24 : Int → Int → Int → ms_M → Option (Int × ms_M)} (hk_kk_24 : ∀ {l2 : Int} {l3 : Int} {l4 : Int} {h : ms_M}, Fm_ (fun c k => nw_F wl_X13_scanTypes wf_X13_scanTypes false false c k = true) h (qkk_24 l2 l3 l4 h) (fun r => r.2)) {l2 : Int} {l3 : Int} {l4 : Int} {h : ms_M} : Fm_ (fun c k => nw_F wl_X13_scanTypes wf_X13_scanTypes false false c k = true) h (qj_X13_scanTypes_55 nn qkk_24 l2 l3 l4 h) (fun r => r.2) := by
  unfold qj_X13_scanTypes_55
  have F_h : ∀ c k : Nat, (fun c k => nw_F wl_X13_scanTypes wf_X13_scanTypes false false c k = true) c k → h c k = h c k := fun _ _ _ => rfl
  refine fm_rd ?_; intro v2
  refine fm_if ?_ ?_
  · refine fm_xl ?_; intro v3
    refine fm_xl ?_; intro v4
    exact fm_tl F_h (hk_kk_24) (fun _ _ z => z)
  · refine fm_xl ?_; intro v5
    refine fm_ca F_h (ff_X13_isByte nn) (nw_sub rfl) ?_; intro u7 F_u7
    refine fm_if ?_ ?_
    · refine fm_xl ?_; intro v8
      refine fm_xl ?_; intro v9
      exact fm_tl F_u7 (hk_kk_24) (fun _ _ z => z)
    · refine fm_rd ?_; intro v11
      refine fm_pu ?_; intro u13
      refine fm_if ?_ ?_
      · refine fm_xl ?_; intro v14
        refine fm_xl ?_; intro v15
        exact fm_tl F_u7 (hk_kk_24) (fun _ _ z => z)
      · refine fm_ca F_u7 (ff_X13_unfit nn) (nw_sub rfl) ?_; intro u17 F_u17
        refine fm_xl ?_; intro v18
        refine fm_xl ?_; intro v19
        exact fm_tl F_u17 (hk_kk_24) (fun _ _ z => z)
set_option maxRecDepth 4000 in
theorem fw_X13_scanTypes_24 (nn : Nat) : ∀ (k : Nat) {l2 : Int} {l3 : Int} {l4 : Int} {h : ms_M}, Fm_ (fun c k => nw_F wl_X13_scanTypes wf_X13_scanTypes false false c k = true) h (qw_X13_scanTypes_24 nn k l2 l3 l4 h) (fun r => r.2) := by
  intro k
  induction k with
  | zero => intros; exact fm_no
  | succ k ih =>
    intro l2 l3 l4 h
    unfold qw_X13_scanTypes_24
    have F_h : ∀ c k : Nat, (fun c k => nw_F wl_X13_scanTypes wf_X13_scanTypes false false c k = true) c k → h c k = h c k := fun _ _ _ => rfl
    refine fm_if ?_ ?_
    · exact fm_ret F_h
    · refine fm_ca F_h (ff_X13_isByte nn) (nw_sub rfl) ?_; intro u24 F_u24
      refine fm_if ?_ ?_
      · refine fm_rd ?_; intro v26
        refine fm_if ?_ ?_
        · exact fm_tl F_u24 (fj_X13_scanTypes_55 nn ih) (fun _ _ z => z)
        · refine fm_ca F_u24 (ff_X13_unfit nn) (nw_sub rfl) ?_; intro u28 F_u28
          exact fm_tl F_u28 (fj_X13_scanTypes_55 nn ih) (fun _ _ z => z)
      · exact fm_ret F_u24
set_option maxRecDepth 4000 in
theorem ff_X13_scanTypes (nn : Nat) {a1 : Int} {h : ms_M} : Fm_ (fun c k => nw_F wl_X13_scanTypes wf_X13_scanTypes false false c k = true) h (qf_X13_scanTypes nn a1 h) (fun r => r.2) := by
  unfold qf_X13_scanTypes
  have F_h : ∀ c k : Nat, (fun c k => nw_F wl_X13_scanTypes wf_X13_scanTypes false false c k = true) c k → h c k = h c k := fun _ _ _ => rfl
  refine fm_ca F_h (ff_X13_isByte nn) (nw_sub rfl) ?_; intro u33 F_u33
  refine fm_if ?_ ?_
  · refine fm_rd ?_; intro v35
    refine fm_xl ?_; intro v36
    exact fm_tl F_u33 (fw_X13_scanTypes_24 nn _) (fun _ _ z => z)
  · exact fm_ret F_u33
set_option maxRecDepth 4000 in
theorem fw_X13_scanMethod_497 (nn : Nat) : ∀ (k : Nat) {l4 : Int} {l9 : Int} {l10 : Int} {h : ms_M}, Fm_ (fun c k => nw_F wl_X13_scanMethod wf_X13_scanMethod false false c k = true) h (qw_X13_scanMethod_497 nn k l4 l9 l10 h) (fun r => r.2) := by
  intro k
  induction k with
  | zero => intros; exact fm_no
  | succ k ih =>
    intro l4 l9 l10 h
    unfold qw_X13_scanMethod_497
    have F_h : ∀ c k : Nat, (fun c k => nw_F wl_X13_scanMethod wf_X13_scanMethod false false c k = true) c k → h c k = h c k := fun _ _ _ => rfl
    refine fm_if ?_ ?_
    · exact fm_ret F_h
    · refine fm_if ?_ ?_
      · exact fm_ret F_h
      · refine fm_xl ?_; intro v2
        refine fm_ca F_h (ff_X13_isByte nn) (nw_sub rfl) ?_; intro u4 F_u4
        refine fm_if ?_ ?_
        · refine fm_xl ?_; intro v5
          refine fm_ca F_u4 (ff_X13_scanTypes nn) (nw_sub rfl) ?_; intro u7 F_u7
          refine fm_ca F_u7 (ff_X13_scanTypes nn) (nw_sub rfl) ?_; intro u9 F_u9
          refine fm_xl ?_; intro v10
          exact fm_tl F_u9 (ih ) (fun _ _ z => z)
        · exact fm_ret F_u4
set_option maxRecDepth 4000 in
theorem fj_X13_scanMethod_444 (nn : Nat) {l1 : Int} {l2 : Int} {l4 : Int} {h : ms_M} : Fm_ (fun c k => nw_F wl_X13_scanMethod wf_X13_scanMethod false false c k = true) h (qj_X13_scanMethod_444 nn l1 l2 l4 h) (fun r => r.2) := by
  unfold qj_X13_scanMethod_444
  have F_h : ∀ c k : Nat, (fun c k => nw_F wl_X13_scanMethod wf_X13_scanMethod false false c k = true) c k → h c k = h c k := fun _ _ _ => rfl
  refine fm_ca F_h (ff_X13_isByte nn) (nw_sub rfl) ?_; intro u15 F_u15
  refine fm_if ?_ ?_
  · refine fm_xl ?_; intro v17
    refine fm_xl ?_; intro v18
    refine fm_wA F_u15 (nw_ne rfl) ?_; intro h19 F_h19
    refine fm_rd ?_; intro v21
    refine fm_if ?_ ?_
    · refine fm_xl ?_; intro v22
      exact fm_tl F_h19 (fw_X13_scanMethod_497 nn _) (fun _ _ z => z)
    · refine fm_ca F_h19 (ff_X13_unfit nn) (nw_sub rfl) ?_; intro u24 F_u24
      refine fm_xl ?_; intro v25
      exact fm_tl F_u24 (fw_X13_scanMethod_497 nn _) (fun _ _ z => z)
  · exact fm_ret F_u15
set_option maxRecDepth 4000 in
theorem fw_X13_scanMethod_381 (nn : Nat) : ∀ (k : Nat) {l1 : Int} {l2 : Int} {l4 : Int} {l8 : Int} {l9 : Int} {h : ms_M}, Fm_ (fun c k => nw_F wl_X13_scanMethod wf_X13_scanMethod false false c k = true) h (qw_X13_scanMethod_381 nn k l1 l2 l4 l8 l9 h) (fun r => r.2) := by
  intro k
  induction k with
  | zero => intros; exact fm_no
  | succ k ih =>
    intro l1 l2 l4 l8 l9 h
    unfold qw_X13_scanMethod_381
    have F_h : ∀ c k : Nat, (fun c k => nw_F wl_X13_scanMethod wf_X13_scanMethod false false c k = true) c k → h c k = h c k := fun _ _ _ => rfl
    refine fm_if ?_ ?_
    · exact fm_tl F_h (fj_X13_scanMethod_444 nn) (fun _ _ z => z)
    · refine fm_if ?_ ?_
      · exact fm_tl F_h (fj_X13_scanMethod_444 nn) (fun _ _ z => z)
      · refine fm_xl ?_; intro v29
        refine fm_ca F_h (ff_X13_isByte nn) (nw_sub rfl) ?_; intro u31 F_u31
        refine fm_if ?_ ?_
        · refine fm_xl ?_; intro v32
          refine fm_xl ?_; intro v33
          exact fm_tl F_u31 (ih ) (fun _ _ z => z)
        · refine fm_xl ?_; intro v35
          refine fm_rd ?_; intro v36
          refine fm_pu ?_; intro u38
          refine fm_if ?_ ?_
          · refine fm_xl ?_; intro v39
            refine fm_xl ?_; intro v40
            exact fm_tl F_u31 (ih ) (fun _ _ z => z)
          · refine fm_xl ?_; intro v41
            refine fm_ca F_u31 (ff_X13_unfit nn) (nw_sub rfl) ?_; intro u43 F_u43
            refine fm_xl ?_; intro v44
            refine fm_xl ?_; intro v45
            exact fm_tl F_u43 (ih ) (fun _ _ z => z)
set_option maxRecDepth 4000 in
theorem fj_X13_scanMethod_328 (nn : Nat) {l1 : Int} {l2 : Int} {l4 : Int} {h : ms_M} : Fm_ (fun c k => nw_F wl_X13_scanMethod wf_X13_scanMethod false false c k = true) h (qj_X13_scanMethod_328 nn l1 l2 l4 h) (fun r => r.2) := by
  unfold qj_X13_scanMethod_328
  have F_h : ∀ c k : Nat, (fun c k => nw_F wl_X13_scanMethod wf_X13_scanMethod false false c k = true) c k → h c k = h c k := fun _ _ _ => rfl
  refine fm_ca F_h (ff_X13_isByte nn) (nw_sub rfl) ?_; intro u51 F_u51
  refine fm_if ?_ ?_
  · refine fm_xl ?_; intro v53
    refine fm_xl ?_; intro v54
    refine fm_wA F_u51 (nw_ne rfl) ?_; intro h55 F_h55
    refine fm_rd ?_; intro v57
    refine fm_if ?_ ?_
    · refine fm_xl ?_; intro v58
      exact fm_tl F_h55 (fw_X13_scanMethod_381 nn _) (fun _ _ z => z)
    · refine fm_ca F_h55 (ff_X13_unfit nn) (nw_sub rfl) ?_; intro u60 F_u60
      refine fm_xl ?_; intro v61
      exact fm_tl F_u60 (fw_X13_scanMethod_381 nn _) (fun _ _ z => z)
  · exact fm_ret F_u51
set_option maxRecDepth 4000 in
theorem fj_X13_scanMethod_293 (nn : Nat) {l1 : Int} {l2 : Int} {l4 : Int} {l7 : Int} {h : ms_M} : Fm_ (fun c k => nw_F wl_X13_scanMethod wf_X13_scanMethod false false c k = true) h (qj_X13_scanMethod_293 nn l1 l2 l4 l7 h) (fun r => r.2) := by
  unfold qj_X13_scanMethod_293
  have F_h : ∀ c k : Nat, (fun c k => nw_F wl_X13_scanMethod wf_X13_scanMethod false false c k = true) c k → h c k = h c k := fun _ _ _ => rfl
  refine fm_xl ?_; intro v64
  refine fm_xl ?_; intro v65
  refine fm_if ?_ ?_
  · exact fm_tl F_h (fj_X13_scanMethod_328 nn) (fun _ _ z => z)
  · refine fm_if ?_ ?_
    · exact fm_tl F_h (fj_X13_scanMethod_328 nn) (fun _ _ z => z)
    · refine fm_up F_h (nw_nf rfl) ?_; intro h69 F_h69
      exact fm_tl F_h69 (fj_X13_scanMethod_328 nn) (fun _ _ z => z)
set_option maxRecDepth 4000 in
theorem fj_X13_scanMethod_285 (nn : Nat) {l1 : Int} {l2 : Int} {l4 : Int} {l7 : Int} {h : ms_M} : Fm_ (fun c k => nw_F wl_X13_scanMethod wf_X13_scanMethod false false c k = true) h (qj_X13_scanMethod_285 nn l1 l2 l4 l7 h) (fun r => r.2) := by
  unfold qj_X13_scanMethod_285
  have F_h : ∀ c k : Nat, (fun c k => nw_F wl_X13_scanMethod wf_X13_scanMethod false false c k = true) c k → h c k = h c k := fun _ _ _ => rfl
  refine fm_xl ?_; intro v72
  refine fm_ca F_h (ff_X13_unfit nn) (nw_sub rfl) ?_; intro u74 F_u74
  exact fm_tl F_u74 (fj_X13_scanMethod_293 nn) (fun _ _ z => z)
set_option maxRecDepth 4000 in
theorem fj_X13_scanMethod_232 (nn : Nat) {l1 : Int} {l2 : Int} {l4 : Int} {h : ms_M} : Fm_ (fun c k => nw_F wl_X13_scanMethod wf_X13_scanMethod false false c k = true) h (qj_X13_scanMethod_232 nn l1 l2 l4 h) (fun r => r.2) := by
  unfold qj_X13_scanMethod_232
  have F_h : ∀ c k : Nat, (fun c k => nw_F wl_X13_scanMethod wf_X13_scanMethod false false c k = true) c k → h c k = h c k := fun _ _ _ => rfl
  refine fm_xl ?_; intro v75
  refine fm_ca F_h (ff_X13_isByte nn) (nw_sub rfl) ?_; intro u77 F_u77
  refine fm_if ?_ ?_
  · refine fm_xl ?_; intro v78
    refine fm_ca F_u77 (ff_X13_isByte nn) (nw_sub rfl) ?_; intro u80 F_u80
    refine fm_if ?_ ?_
    · refine fm_xl ?_; intro v81
      refine fm_pu ?_; intro u83
      refine fm_if ?_ ?_
      · exact fm_tl F_u80 (fj_X13_scanMethod_285 nn) (fun _ _ z => z)
      · refine fm_if ?_ ?_
        · exact fm_tl F_u80 (fj_X13_scanMethod_293 nn) (fun _ _ z => z)
        · exact fm_tl F_u80 (fj_X13_scanMethod_285 nn) (fun _ _ z => z)
    · exact fm_ret F_u80
  · exact fm_ret F_u77
set_option maxRecDepth 4000 in
theorem fj_X13_scanMethod_224 (nn : Nat) {l1 : Int} {l2 : Int} {l4 : Int} {h : ms_M} : Fm_ (fun c k => nw_F wl_X13_scanMethod wf_X13_scanMethod false false c k = true) h (qj_X13_scanMethod_224 nn l1 l2 l4 h) (fun r => r.2) := by
  unfold qj_X13_scanMethod_224
  have F_h : ∀ c k : Nat, (fun c k => nw_F wl_X13_scanMethod wf_X13_scanMethod false false c k = true) c k → h c k = h c k := fun _ _ _ => rfl
  refine fm_xl ?_; intro v88
  refine fm_ca F_h (ff_X13_unfit nn) (nw_sub rfl) ?_; intro u90 F_u90
  exact fm_tl F_u90 (fj_X13_scanMethod_232 nn) (fun _ _ z => z)
set_option maxRecDepth 4000 in
theorem fj_X13_scanMethod_134 (nn : Nat) {l1 : Int} {l2 : Int} {l4 : Int} {h : ms_M} : Fm_ (fun c k => nw_F wl_X13_scanMethod wf_X13_scanMethod false false c k = true) h (qj_X13_scanMethod_134 nn l1 l2 l4 h) (fun r => r.2) := by
  unfold qj_X13_scanMethod_134
  have F_h : ∀ c k : Nat, (fun c k => nw_F wl_X13_scanMethod wf_X13_scanMethod false false c k = true) c k → h c k = h c k := fun _ _ _ => rfl
  refine fm_xl ?_; intro v91
  refine fm_ca F_h (ff_X13_isByte nn) (nw_sub rfl) ?_; intro u93 F_u93
  refine fm_if ?_ ?_
  · refine fm_xl ?_; intro v95
    refine fm_rd ?_; intro v96
    refine fm_pu ?_; intro u98
    refine fm_xl ?_; intro v100
    refine fm_xl ?_; intro v102
    refine fm_rd ?_; intro v103
    refine fm_pu ?_; intro u104
    refine fm_xl ?_; intro v105
    refine fm_rd ?_; intro v107
    refine fm_xl ?_; intro v108
    refine fm_xl ?_; intro v110
    refine fm_rd ?_; intro v111
    refine fm_if ?_ ?_
    · exact fm_tl F_u93 (fj_X13_scanMethod_224 nn) (fun _ _ z => z)
    · refine fm_xl ?_; intro v113
      refine fm_rd ?_; intro v114
      refine fm_if ?_ ?_
      · exact fm_tl F_u93 (fj_X13_scanMethod_232 nn) (fun _ _ z => z)
      · exact fm_tl F_u93 (fj_X13_scanMethod_224 nn) (fun _ _ z => z)
  · exact fm_ret F_u93
set_option maxRecDepth 4000 in
theorem fj_X13_scanMethod_101 (nn : Nat) {l1 : Int} {l2 : Int} {l4 : Int} {h : ms_M} : Fm_ (fun c k => nw_F wl_X13_scanMethod wf_X13_scanMethod false false c k = true) h (qj_X13_scanMethod_101 nn l1 l2 l4 h) (fun r => r.2) := by
  unfold qj_X13_scanMethod_101
  have F_h : ∀ c k : Nat, (fun c k => nw_F wl_X13_scanMethod wf_X13_scanMethod false false c k = true) c k → h c k = h c k := fun _ _ _ => rfl
  refine fm_xl ?_; intro v118
  refine fm_ca F_h (ff_X13_isByte nn) (nw_sub rfl) ?_; intro u120 F_u120
  refine fm_if ?_ ?_
  · exact fm_tl F_u120 (fj_X13_scanMethod_134 nn) (fun _ _ z => z)
  · refine fm_xl ?_; intro v122
    refine fm_rd ?_; intro v123
    refine fm_if ?_ ?_
    · exact fm_tl F_u120 (fj_X13_scanMethod_134 nn) (fun _ _ z => z)
    · refine fm_xl ?_; intro v124
      refine fm_ca F_u120 (ff_X13_unfit nn) (nw_sub rfl) ?_; intro u126 F_u126
      exact fm_tl F_u126 (fj_X13_scanMethod_134 nn) (fun _ _ z => z)
set_option maxRecDepth 4000 in
theorem fj_X13_scanMethod_65 (nn : Nat) {l1 : Int} {l2 : Int} {l4 : Int} {h : ms_M} : Fm_ (fun c k => nw_F wl_X13_scanMethod wf_X13_scanMethod false false c k = true) h (qj_X13_scanMethod_65 nn l1 l2 l4 h) (fun r => r.2) := by
  unfold qj_X13_scanMethod_65
  have F_h : ∀ c k : Nat, (fun c k => nw_F wl_X13_scanMethod wf_X13_scanMethod false false c k = true) c k → h c k = h c k := fun _ _ _ => rfl
  refine fm_xl ?_; intro v129
  refine fm_ca F_h (ff_X13_isByte nn) (nw_sub rfl) ?_; intro u131 F_u131
  refine fm_if ?_ ?_
  · exact fm_tl F_u131 (fj_X13_scanMethod_101 nn) (fun _ _ z => z)
  · refine fm_xl ?_; intro v133
    refine fm_rd ?_; intro v134
    refine fm_pu ?_; intro u136
    refine fm_if ?_ ?_
    · exact fm_tl F_u131 (fj_X13_scanMethod_101 nn) (fun _ _ z => z)
    · refine fm_xl ?_; intro v137
      refine fm_ca F_u131 (ff_X13_unfit nn) (nw_sub rfl) ?_; intro u139 F_u139
      exact fm_tl F_u139 (fj_X13_scanMethod_101 nn) (fun _ _ z => z)
set_option maxRecDepth 4000 in
theorem fj_X13_scanMethod_29 (nn : Nat) {l1 : Int} {l2 : Int} {l4 : Int} {h : ms_M} : Fm_ (fun c k => nw_F wl_X13_scanMethod wf_X13_scanMethod false false c k = true) h (qj_X13_scanMethod_29 nn l1 l2 l4 h) (fun r => r.2) := by
  unfold qj_X13_scanMethod_29
  have F_h : ∀ c k : Nat, (fun c k => nw_F wl_X13_scanMethod wf_X13_scanMethod false false c k = true) c k → h c k = h c k := fun _ _ _ => rfl
  refine fm_xl ?_; intro v142
  refine fm_ca F_h (ff_X13_isByte nn) (nw_sub rfl) ?_; intro u144 F_u144
  refine fm_if ?_ ?_
  · exact fm_tl F_u144 (fj_X13_scanMethod_65 nn) (fun _ _ z => z)
  · refine fm_xl ?_; intro v146
    refine fm_rd ?_; intro v147
    refine fm_pu ?_; intro u149
    refine fm_if ?_ ?_
    · exact fm_tl F_u144 (fj_X13_scanMethod_65 nn) (fun _ _ z => z)
    · refine fm_xl ?_; intro v150
      refine fm_ca F_u144 (ff_X13_unfit nn) (nw_sub rfl) ?_; intro u152 F_u152
      exact fm_tl F_u152 (fj_X13_scanMethod_65 nn) (fun _ _ z => z)
set_option maxRecDepth 4000 in
theorem ff_X13_scanMethod (nn : Nat) {a1 : Int} {a2 : Int} {a3 : Int} {h : ms_M} : Fm_ (fun c k => nw_F wl_X13_scanMethod wf_X13_scanMethod false false c k = true) h (qf_X13_scanMethod nn a1 a2 a3 h) (fun r => r.2) := by
  unfold qf_X13_scanMethod
  have F_h : ∀ c k : Nat, (fun c k => nw_F wl_X13_scanMethod wf_X13_scanMethod false false c k = true) c k → h c k = h c k := fun _ _ _ => rfl
  refine fm_ca F_h (ff_X13_isByte nn) (nw_sub rfl) ?_; intro u156 F_u156
  refine fm_if ?_ ?_
  · exact fm_tl F_u156 (fj_X13_scanMethod_29 nn) (fun _ _ z => z)
  · refine fm_rd ?_; intro v158
    refine fm_if ?_ ?_
    · exact fm_tl F_u156 (fj_X13_scanMethod_29 nn) (fun _ _ z => z)
    · refine fm_ca F_u156 (ff_X13_unfit nn) (nw_sub rfl) ?_; intro u160 F_u160
      exact fm_tl F_u160 (fj_X13_scanMethod_29 nn) (fun _ _ z => z)
set_option maxRecDepth 4000 in
theorem fj_X13_scan_379 (nn : Nat) {l3 : Int} {h : ms_M} : Fm_ (fun c k => nw_F wl_X13_scan wf_X13_scan false false c k = true) h (qj_X13_scan_379 nn l3 h) (fun r => r) := by
  unfold qj_X13_scan_379
  have F_h : ∀ c k : Nat, (fun c k => nw_F wl_X13_scan wf_X13_scan false false c k = true) c k → h c k = h c k := fun _ _ _ => rfl
  refine fm_if ?_ ?_
  · exact fm_ret F_h
  · refine fm_if ?_ ?_
    · exact fm_ret F_h
    · refine fm_ca F_h (ff_X13_unfit nn) (nw_sub rfl) ?_; intro u4 F_u4
      exact fm_ret F_u4
set_option maxRecDepth 4000 in
theorem fw_X13_scan_332 (nn : Nat) : ∀ (k : Nat) {l1 : Int} {l3 : Int} {l4 : Int} {h : ms_M}, Fm_ (fun c k => nw_F wl_X13_scan wf_X13_scan false false c k = true) h (qw_X13_scan_332 nn k l1 l3 l4 h) (fun r => r) := by
  intro k
  induction k with
  | zero => intros; exact fm_no
  | succ k ih =>
    intro l1 l3 l4 h
    unfold qw_X13_scan_332
    have F_h : ∀ c k : Nat, (fun c k => nw_F wl_X13_scan wf_X13_scan false false c k = true) c k → h c k = h c k := fun _ _ _ => rfl
    refine fm_if ?_ ?_
    · exact fm_tl F_h (fj_X13_scan_379 nn) (fun _ _ z => z)
    · refine fm_rd ?_; intro v9
      refine fm_if ?_ ?_
      · exact fm_tl F_h (fj_X13_scan_379 nn) (fun _ _ z => z)
      · refine fm_xl ?_; intro v11
        refine fm_xl ?_; intro v12
        refine fm_wA F_h (nw_ne rfl) ?_; intro h13 F_h13
        refine fm_ca F_h13 (ff_X13_scanMethod nn) (nw_sub rfl) ?_; intro u15 F_u15
        refine fm_xl ?_; intro v16
        exact fm_tl F_u15 (ih ) (fun _ _ z => z)
set_option maxRecDepth 4000 in
theorem fj_X13_scan_314 (nn : Nat) {l1 : Int} {l3 : Int} {h : ms_M} : Fm_ (fun c k => nw_F wl_X13_scan wf_X13_scan false false c k = true) h (qj_X13_scan_314 nn l1 l3 h) (fun r => r) := by
  unfold qj_X13_scan_314
  have F_h : ∀ c k : Nat, (fun c k => nw_F wl_X13_scan wf_X13_scan false false c k = true) c k → h c k = h c k := fun _ _ _ => rfl
  refine fm_rd ?_; intro v21
  refine fm_wA F_h (nw_ne rfl) ?_; intro h22 F_h22
  refine fm_xl ?_; intro v23
  exact fm_tl F_h22 (fw_X13_scan_332 nn _) (fun _ _ z => z)
set_option maxRecDepth 4000 in
theorem fj_X13_scan_243 (nn : Nat) {l1 : Int} {l3 : Int} {h : ms_M} : Fm_ (fun c k => nw_F wl_X13_scan wf_X13_scan false false c k = true) h (qj_X13_scan_243 nn l1 l3 h) (fun r => r) := by
  unfold qj_X13_scan_243
  have F_h : ∀ c k : Nat, (fun c k => nw_F wl_X13_scan wf_X13_scan false false c k = true) c k → h c k = h c k := fun _ _ _ => rfl
  refine fm_xl ?_; intro v24
  refine fm_ca F_h (ff_X13_isByte nn) (nw_sub rfl) ?_; intro u26 F_u26
  refine fm_if ?_ ?_
  · refine fm_rd ?_; intro v29
    refine fm_wA F_u26 (nw_ne rfl) ?_; intro h30 F_h30
    refine fm_xl ?_; intro v33
    refine fm_rd ?_; intro v34
    refine fm_wA F_h30 (nw_ne rfl) ?_; intro h35 F_h35
    refine fm_xl ?_; intro v36
    refine fm_ca F_h35 (ff_X13_scanFields nn) (nw_sub rfl) ?_; intro u38 F_u38
    refine fm_ca F_u38 (ff_X13_isByte nn) (nw_sub rfl) ?_; intro u40 F_u40
    refine fm_if ?_ ?_
    · refine fm_rd ?_; intro v42
      refine fm_if ?_ ?_
      · exact fm_tl F_u40 (fj_X13_scan_314 nn) (fun _ _ z => z)
      · refine fm_ca F_u40 (ff_X13_unfit nn) (nw_sub rfl) ?_; intro u44 F_u44
        exact fm_tl F_u44 (fj_X13_scan_314 nn) (fun _ _ z => z)
    · exact fm_ret F_u40
  · exact fm_ret F_u26
set_option maxRecDepth 4000 in
theorem fj_X13_scan_210 (nn : Nat) {l1 : Int} {l3 : Int} {h : ms_M} : Fm_ (fun c k => nw_F wl_X13_scan wf_X13_scan false false c k = true) h (qj_X13_scan_210 nn l1 l3 h) (fun r => r) := by
  unfold qj_X13_scan_210
  have F_h : ∀ c k : Nat, (fun c k => nw_F wl_X13_scan wf_X13_scan false false c k = true) c k → h c k = h c k := fun _ _ _ => rfl
  refine fm_xl ?_; intro v48
  refine fm_ca F_h (ff_X13_isByte nn) (nw_sub rfl) ?_; intro u50 F_u50
  refine fm_if ?_ ?_
  · exact fm_tl F_u50 (fj_X13_scan_243 nn) (fun _ _ z => z)
  · refine fm_xl ?_; intro v52
    refine fm_rd ?_; intro v53
    refine fm_pu ?_; intro u55
    refine fm_if ?_ ?_
    · exact fm_tl F_u50 (fj_X13_scan_243 nn) (fun _ _ z => z)
    · refine fm_xl ?_; intro v56
      refine fm_ca F_u50 (ff_X13_unfit nn) (nw_sub rfl) ?_; intro u58 F_u58
      exact fm_tl F_u58 (fj_X13_scan_243 nn) (fun _ _ z => z)
set_option maxRecDepth 4000 in
theorem fj_X13_scan_183 (nn : Nat) {l1 : Int} {l3 : Int} {h : ms_M} : Fm_ (fun c k => nw_F wl_X13_scan wf_X13_scan false false c k = true) h (qj_X13_scan_183 nn l1 l3 h) (fun r => r) := by
  unfold qj_X13_scan_183
  have F_h : ∀ c k : Nat, (fun c k => nw_F wl_X13_scan wf_X13_scan false false c k = true) c k → h c k = h c k := fun _ _ _ => rfl
  refine fm_ca F_h (ff_X13_isByte nn) (nw_sub rfl) ?_; intro u62 F_u62
  refine fm_if ?_ ?_
  · exact fm_tl F_u62 (fj_X13_scan_210 nn) (fun _ _ z => z)
  · refine fm_rd ?_; intro v64
    refine fm_pu ?_; intro u66
    refine fm_if ?_ ?_
    · exact fm_tl F_u62 (fj_X13_scan_210 nn) (fun _ _ z => z)
    · refine fm_ca F_u62 (ff_X13_unfit nn) (nw_sub rfl) ?_; intro u68 F_u68
      exact fm_tl F_u68 (fj_X13_scan_210 nn) (fun _ _ z => z)
set_option maxRecDepth 4000 in
theorem fw_X13_scan_146 (nn : Nat) : ∀ (k : Nat) {l1 : Int} {l2 : Int} {l3 : Int} {l4 : Int} {h : ms_M}, Fm_ (fun c k => nw_F wl_X13_scan wf_X13_scan false false c k = true) h (qw_X13_scan_146 nn k l1 l2 l3 l4 h) (fun r => r) := by
  intro k
  induction k with
  | zero => intros; exact fm_no
  | succ k ih =>
    intro l1 l2 l3 l4 h
    unfold qw_X13_scan_146
    have F_h : ∀ c k : Nat, (fun c k => nw_F wl_X13_scan wf_X13_scan false false c k = true) c k → h c k = h c k := fun _ _ _ => rfl
    refine fm_if ?_ ?_
    · exact fm_tl F_h (fj_X13_scan_183 nn) (fun _ _ z => z)
    · refine fm_if ?_ ?_
      · exact fm_tl F_h (fj_X13_scan_183 nn) (fun _ _ z => z)
      · refine fm_xl ?_; intro v73
        refine fm_xl ?_; intro v74
        refine fm_rd ?_; intro v75
        refine fm_ca F_h (ff_X13_checkConstant nn) (nw_sub rfl) ?_; intro u77 F_u77
        refine fm_xl ?_; intro v78
        exact fm_tl F_u77 (ih ) (fun _ _ z => z)
set_option maxRecDepth 4000 in
theorem fw_X13_scan_86 (nn : Nat) : ∀ (k : Nat) {l1 : Int} {l2 : Int} {l3 : Int} {l4 : Int} {h : ms_M}, Fm_ (fun c k => nw_F wl_X13_scan wf_X13_scan false false c k = true) h (qw_X13_scan_86 nn k l1 l2 l3 l4 h) (fun r => r) := by
  intro k
  induction k with
  | zero => intros; exact fm_no
  | succ k ih =>
    intro l1 l2 l3 l4 h
    unfold qw_X13_scan_86
    have F_h : ∀ c k : Nat, (fun c k => nw_F wl_X13_scan wf_X13_scan false false c k = true) c k → h c k = h c k := fun _ _ _ => rfl
    refine fm_if ?_ ?_
    · exact fm_tl F_h (fw_X13_scan_146 nn _) (fun _ _ z => z)
    · refine fm_if ?_ ?_
      · exact fm_tl F_h (fw_X13_scan_146 nn _) (fun _ _ z => z)
      · refine fm_ca F_h (ff_X13_isByte nn) (nw_sub rfl) ?_; intro u83 F_u83
        refine fm_if ?_ ?_
        · refine fm_xl ?_; intro v85
          refine fm_xl ?_; intro v86
          refine fm_wA F_u83 (nw_ne rfl) ?_; intro h87 F_h87
          refine fm_wA F_h87 (nw_ne rfl) ?_; intro h89 F_h89
          refine fm_ca F_h89 (ff_X13_scanConstant nn) (nw_sub rfl) ?_; intro u91 F_u91
          refine fm_xl ?_; intro v92
          exact fm_tl F_u91 (ih ) (fun _ _ z => z)
        · exact fm_ret F_u83
set_option maxRecDepth 4000 in
theorem fj_X13_scan_65 (nn : Nat) {l1 : Int} {h : ms_M} : Fm_ (fun c k => nw_F wl_X13_scan wf_X13_scan false false c k = true) h (qj_X13_scan_65 nn l1 h) (fun r => r) := by
  unfold qj_X13_scan_65
  have F_h : ∀ c k : Nat, (fun c k => nw_F wl_X13_scan wf_X13_scan false false c k = true) c k → h c k = h c k := fun _ _ _ => rfl
  refine fm_ca F_h (ff_X13_isByte nn) (nw_sub rfl) ?_; intro u97 F_u97
  refine fm_if ?_ ?_
  · refine fm_rd ?_; intro v99
    exact fm_tl F_u97 (fw_X13_scan_86 nn _) (fun _ _ z => z)
  · exact fm_ret F_u97
set_option maxRecDepth 4000 in
theorem fj_X13_scan_41 (nn : Nat) {l1 : Int} {h : ms_M} : Fm_ (fun c k => nw_F wl_X13_scan wf_X13_scan false false c k = true) h (qj_X13_scan_41 nn l1 h) (fun r => r) := by
  unfold qj_X13_scan_41
  have F_h : ∀ c k : Nat, (fun c k => nw_F wl_X13_scan wf_X13_scan false false c k = true) c k → h c k = h c k := fun _ _ _ => rfl
  refine fm_ca F_h (ff_X13_isByte nn) (nw_sub rfl) ?_; intro u102 F_u102
  refine fm_if ?_ ?_
  · exact fm_tl F_u102 (fj_X13_scan_65 nn) (fun _ _ z => z)
  · refine fm_rd ?_; intro v104
    refine fm_if ?_ ?_
    · exact fm_tl F_u102 (fj_X13_scan_65 nn) (fun _ _ z => z)
    · refine fm_ca F_u102 (ff_X13_unfit nn) (nw_sub rfl) ?_; intro u106 F_u106
      exact fm_tl F_u106 (fj_X13_scan_65 nn) (fun _ _ z => z)
set_option maxRecDepth 4000 in
theorem ff_X13_scan (nn : Nat) {a1 : Int} {h : ms_M} : Fm_ (fun c k => nw_F wl_X13_scan wf_X13_scan false false c k = true) h (qf_X13_scan nn a1 h) (fun r => r) := by
  unfold qf_X13_scan
  have F_h : ∀ c k : Nat, (fun c k => nw_F wl_X13_scan wf_X13_scan false false c k = true) c k → h c k = h c k := fun _ _ _ => rfl
  refine fm_up F_h (nw_nf rfl) ?_; intro h109 F_h109
  refine fm_up F_h109 (nw_nf rfl) ?_; intro h110 F_h110
  refine fm_wA F_h110 (nw_ne rfl) ?_; intro h112 F_h112
  refine fm_ca F_h112 (ff_X13_isByte nn) (nw_sub rfl) ?_; intro u114 F_u114
  refine fm_if ?_ ?_
  · exact fm_tl F_u114 (fj_X13_scan_41 nn) (fun _ _ z => z)
  · refine fm_rd ?_; intro v116
    refine fm_if ?_ ?_
    · exact fm_tl F_u114 (fj_X13_scan_41 nn) (fun _ _ z => z)
    · refine fm_ca F_u114 (ff_X13_unfit nn) (nw_sub rfl) ?_; intro u118 F_u118
      exact fm_tl F_u118 (fj_X13_scan_41 nn) (fun _ _ z => z)
set_option maxRecDepth 4000 in
theorem fj_X13_loaded_138 (nn : Nat) {h : ms_M} : Fm_ (fun c k => nw_F wl_X13_loaded wf_X13_loaded false false c k = true) h (qj_X13_loaded_138 nn h) (fun r => r.2) := by
  unfold qj_X13_loaded_138
  have F_h : ∀ c k : Nat, (fun c k => nw_F wl_X13_loaded wf_X13_loaded false false c k = true) c k → h c k = h c k := fun _ _ _ => rfl
  exact fm_ret F_h
set_option maxRecDepth 4000 in
theorem ff_X13_loaded (nn : Nat) {h : ms_M} : Fm_ (fun c k => nw_F wl_X13_loaded wf_X13_loaded false false c k = true) h (qf_X13_loaded nn h) (fun r => r.2) := by
  unfold qf_X13_loaded
  have F_h : ∀ c k : Nat, (fun c k => nw_F wl_X13_loaded wf_X13_loaded false false c k = true) c k → h c k = h c k := fun _ _ _ => rfl
  refine fm_if ?_ ?_
  · refine fm_ca F_h (ff_X13_scan nn) (nw_sub rfl) ?_; intro u4 F_u4
    refine fm_if ?_ ?_
    · refine fm_xl ?_; intro v8
      refine fm_xl ?_; intro v12
      refine fm_rd ?_; intro v15
      refine fm_xl ?_; intro v16
      refine fm_rd ?_; intro v17
      refine fm_xl ?_; intro v18
      refine fm_rd ?_; intro v19
      refine fm_xl ?_; intro v20
      refine fm_rd ?_; intro v21
      refine fm_xl ?_; intro v23
      refine fm_xl ?_; intro v25
      refine fm_rd ?_; intro v26
      refine fm_pu ?_; intro u28
      refine fm_if ?_ ?_
      · refine fm_ca F_u4 (ff_X13_install nn) (nw_sub rfl) ?_; intro u31 F_u31
        refine fm_xl ?_; intro v33
        refine fm_up F_u31 (nw_nf rfl) ?_; intro h34 F_h34
        refine fm_up F_h34 (nw_nf rfl) ?_; intro h35 F_h35
        refine fm_up F_h35 (nw_nf rfl) ?_; intro h36 F_h36
        exact fm_ret F_h36
      · exact fm_tl F_u4 (fj_X13_loaded_138 nn) (fun _ _ z => z)
    · refine fm_xl ?_; intro v39
      exact fm_ret F_u4
  · refine fm_ca F_h (ff_X13_aside nn) (nw_sub rfl) ?_; intro u42 F_u42
    refine fm_ca F_u42 (ff_X13_scan nn) (nw_sub rfl) ?_; intro u44 F_u44
    refine fm_ca F_u44 (ff_X13_again nn) (nw_sub rfl) ?_; intro u47 F_u47
    refine fm_if ?_ ?_
    · exact fm_ret F_u47
    · refine fm_xl ?_; intro v48
      exact fm_ret F_u47
set_option maxRecDepth 4000 in
theorem fw_X13_keep_26 (nn : Nat) : ∀ (k : Nat) {l1 : Int} {l2 : Int} {h : ms_M}, Fm_ (fun c k => nw_F wl_X13_keep wf_X13_keep false false c k = true) h (qw_X13_keep_26 nn k l1 l2 h) (fun r => r.2) := by
  intro k
  induction k with
  | zero => intros; exact fm_no
  | succ k ih =>
    intro l1 l2 h
    unfold qw_X13_keep_26
    have F_h : ∀ c k : Nat, (fun c k => nw_F wl_X13_keep wf_X13_keep false false c k = true) c k → h c k = h c k := fun _ _ _ => rfl
    refine fm_if ?_ ?_
    · refine fm_ca F_h (ff_X13_loaded nn) (nw_sub rfl) ?_; intro u3 F_u3
      exact fm_ret F_u3
    · refine fm_xl ?_; intro v6
      refine fm_xl ?_; intro v7
      refine fm_rd ?_; intro v8
      refine fm_wA F_h (nw_ne rfl) ?_; intro h9 F_h9
      refine fm_xl ?_; intro v10
      exact fm_tl F_h9 (ih ) (fun _ _ z => z)
set_option maxRecDepth 4000 in
theorem ff_X13_keep (nn : Nat) {a1 : Int} {h : ms_M} : Fm_ (fun c k => nw_F wl_X13_keep wf_X13_keep false false c k = true) h (qf_X13_keep nn a1 h) (fun r => r.2) := by
  unfold qf_X13_keep
  have F_h : ∀ c k : Nat, (fun c k => nw_F wl_X13_keep wf_X13_keep false false c k = true) c k → h c k = h c k := fun _ _ _ => rfl
  refine fm_if ?_ ?_
  · exact fm_ret F_h
  · refine fm_if ?_ ?_
    · refine fm_rd ?_; intro v14
      refine fm_up F_h (nw_nf rfl) ?_; intro h15 F_h15
      exact fm_tl F_h15 (fw_X13_keep_26 nn _) (fun _ _ z => z)
    · exact fm_ret F_h
set_option maxRecDepth 4000 in
theorem fw_X13_load_10 (nn : Nat) : ∀ (k : Nat) {l1 : Int} {h : ms_M}, Fm_ (fun c k => nw_F wl_X13_load wf_X13_load false false c k = true) h (qw_X13_load_10 nn k l1 h) (fun r => r.2) := by
  intro k
  induction k with
  | zero => intros; exact fm_no
  | succ k ih =>
    intro l1 h
    unfold qw_X13_load_10
    have F_h : ∀ c k : Nat, (fun c k => nw_F wl_X13_load wf_X13_load false false c k = true) c k → h c k = h c k := fun _ _ _ => rfl
    refine fm_if ?_ ?_
    · refine fm_up F_h (nw_nf rfl) ?_; intro h2 F_h2
      refine fm_ca F_h2 (ff_X13_loaded nn) (nw_sub rfl) ?_; intro u4 F_u4
      exact fm_ret F_u4
    · refine fm_rd ?_; intro v7
      refine fm_wA F_h (nw_ne rfl) ?_; intro h8 F_h8
      refine fm_xl ?_; intro v9
      exact fm_tl F_h8 (ih ) (fun _ _ z => z)
set_option maxRecDepth 4000 in
theorem ff_X13_load (nn : Nat) {h : ms_M} : Fm_ (fun c k => nw_F wl_X13_load wf_X13_load false false c k = true) h (qf_X13_load nn h) (fun r => r.2) := by
  unfold qf_X13_load
  have F_h : ∀ c k : Nat, (fun c k => nw_F wl_X13_load wf_X13_load false false c k = true) c k → h c k = h c k := fun _ _ _ => rfl
  refine fm_up F_h (nw_nf rfl) ?_; intro h12 F_h12
  exact fm_tl F_h12 (fw_X13_load_10 nn _) (fun _ _ z => z)
set_option maxRecDepth 4000 in
theorem fj_X13_patch_235 (nn : Nat) {l4 : Int} {l5 : Int} {h : ms_M} : Fm_ (fun c k => nw_F wl_X13_patch wf_X13_patch false false c k = true) h (qj_X13_patch_235 nn l4 l5 h) (fun r => r.2) := by
  unfold qj_X13_patch_235
  have F_h : ∀ c k : Nat, (fun c k => nw_F wl_X13_patch wf_X13_patch false false c k = true) c k → h c k = h c k := fun _ _ _ => rfl
  refine fm_if ?_ ?_
  · refine fm_ca F_h (ff_X13_install nn) (nw_sub rfl) ?_; intro u2 F_u2
    refine fm_up F_u2 (nw_nf rfl) ?_; intro h3 F_h3
    refine fm_up F_h3 (nw_nf rfl) ?_; intro h4 F_h4
    exact fm_ret F_h4
  · refine fm_ca F_h (ff_X13_again nn) (nw_sub rfl) ?_; intro u6 F_u6
    exact fm_ret F_u6
set_option maxRecDepth 4000 in
theorem fj_X13_patch_222 (nn : Nat) {qkk_173 : Int → Int → Int → Int → Int → ms_M → Option (Int × ms_M)} (hk_kk_173 : ∀ {l1 : Int} {l4 : Int} {l5 : Int} {l6 : Int} {l7 : Int} {h : ms_M}, Fm_ (fun c k => nw_F wl_X13_patch wf_X13_patch false false c k = true) h (qkk_173 l1 l4 l5 l6 l7 h) (fun r => r.2)) {l1 : Int} {l4 : Int} {l6 : Int} {l7 : Int} {h : ms_M} : Fm_ (fun c k => nw_F wl_X13_patch wf_X13_patch false false c k = true) h (qj_X13_patch_222 nn qkk_173 l1 l4 l6 l7 h) (fun r => r.2) := by
  unfold qj_X13_patch_222
  have F_h : ∀ c k : Nat, (fun c k => nw_F wl_X13_patch wf_X13_patch false false c k = true) c k → h c k = h c k := fun _ _ _ => rfl
  refine fm_xl ?_; intro v8
  exact fm_tl F_h (hk_kk_173) (fun _ _ z => z)
set_option maxRecDepth 4000 in
theorem fw_X13_patch_173 (nn : Nat) : ∀ (k : Nat) {l1 : Int} {l4 : Int} {l5 : Int} {l6 : Int} {l7 : Int} {h : ms_M}, Fm_ (fun c k => nw_F wl_X13_patch wf_X13_patch false false c k = true) h (qw_X13_patch_173 nn k l1 l4 l5 l6 l7 h) (fun r => r.2) := by
  intro k
  induction k with
  | zero => intros; exact fm_no
  | succ k ih =>
    intro l1 l4 l5 l6 l7 h
    unfold qw_X13_patch_173
    have F_h : ∀ c k : Nat, (fun c k => nw_F wl_X13_patch wf_X13_patch false false c k = true) c k → h c k = h c k := fun _ _ _ => rfl
    refine fm_xl ?_; intro v10
    refine fm_if ?_ ?_
    · exact fm_tl F_h (fj_X13_patch_235 nn) (fun _ _ z => z)
    · refine fm_if ?_ ?_
      · exact fm_tl F_h (fj_X13_patch_235 nn) (fun _ _ z => z)
      · refine fm_if ?_ ?_
        · exact fm_tl F_h (fj_X13_patch_222 nn ih) (fun _ _ z => z)
        · refine fm_xl ?_; intro v12
          refine fm_xl ?_; intro v14
          refine fm_rd ?_; intro v15
          refine fm_pu ?_; intro u17
          refine fm_if ?_ ?_
          · refine fm_xl ?_; intro v18
            exact fm_tl F_h (ih ) (fun _ _ z => z)
          · exact fm_tl F_h (fj_X13_patch_222 nn ih) (fun _ _ z => z)
set_option maxRecDepth 4000 in
theorem fj_X13_patch_123 (nn : Nat) {l1 : Int} {l4 : Int} {s0 : Int} {h : ms_M} : Fm_ (fun c k => nw_F wl_X13_patch wf_X13_patch false false c k = true) h (qj_X13_patch_123 nn l1 l4 s0 h) (fun r => r.2) := by
  unfold qj_X13_patch_123
  have F_h : ∀ c k : Nat, (fun c k => nw_F wl_X13_patch wf_X13_patch false false c k = true) c k → h c k = h c k := fun _ _ _ => rfl
  refine fm_if ?_ ?_
  · exact fm_tl F_h (fj_X13_patch_235 nn) (fun _ _ z => z)
  · refine fm_xl ?_; intro v24
    refine fm_xl ?_; intro v27
    refine fm_rd ?_; intro v29
    refine fm_xl ?_; intro v30
    refine fm_rd ?_; intro v31
    refine fm_xl ?_; intro v32
    refine fm_rd ?_; intro v33
    refine fm_xl ?_; intro v34
    refine fm_rd ?_; intro v35
    exact fm_tl F_h (fw_X13_patch_173 nn _) (fun _ _ z => z)
set_option maxRecDepth 4000 in
theorem fw_X13_patch_51 (nn : Nat) : ∀ (k : Nat) {l1 : Int} {l2 : Int} {l3 : Int} {l4 : Int} {l5 : Int} {h : ms_M}, Fm_ (fun c k => nw_F wl_X13_patch wf_X13_patch false false c k = true) h (qw_X13_patch_51 nn k l1 l2 l3 l4 l5 h) (fun r => r.2) := by
  intro k
  induction k with
  | zero => intros; exact fm_no
  | succ k ih =>
    intro l1 l2 l3 l4 l5 h
    unfold qw_X13_patch_51
    have F_h : ∀ c k : Nat, (fun c k => nw_F wl_X13_patch wf_X13_patch false false c k = true) c k → h c k = h c k := fun _ _ _ => rfl
    refine fm_if ?_ ?_
    · refine fm_xl ?_; intro v39
      refine fm_wA F_h (nw_ne rfl) ?_; intro h40 F_h40
      refine fm_ca F_h40 (ff_X13_aside nn) (nw_sub rfl) ?_; intro u42 F_u42
      refine fm_ca F_u42 (ff_X13_scan nn) (nw_sub rfl) ?_; intro u44 F_u44
      refine fm_if ?_ ?_
      · exact fm_tl F_u44 (fj_X13_patch_123 nn) (fun _ _ z => z)
      · exact fm_tl F_u44 (fj_X13_patch_123 nn) (fun _ _ z => z)
    · refine fm_xl ?_; intro v49
      refine fm_xl ?_; intro v50
      refine fm_rd ?_; intro v51
      refine fm_wA F_h (nw_ne rfl) ?_; intro h52 F_h52
      refine fm_xl ?_; intro v53
      exact fm_tl F_h52 (ih ) (fun _ _ z => z)
set_option maxRecDepth 4000 in
theorem ff_X13_patch (nn : Nat) {a1 : Int} {a2 : Int} {a3 : Int} {h : ms_M} : Fm_ (fun c k => nw_F wl_X13_patch wf_X13_patch false false c k = true) h (qf_X13_patch nn a1 a2 a3 h) (fun r => r.2) := by
  unfold qf_X13_patch
  have F_h : ∀ c k : Nat, (fun c k => nw_F wl_X13_patch wf_X13_patch false false c k = true) c k → h c k = h c k := fun _ _ _ => rfl
  refine fm_xl ?_; intro v55
  refine fm_if ?_ ?_
  · exact fm_ret F_h
  · refine fm_if ?_ ?_
    · exact fm_ret F_h
    · refine fm_if ?_ ?_
      · exact fm_ret F_h
      · refine fm_rd ?_; intro v58
        refine fm_if ?_ ?_
        · refine fm_rd ?_; intro v60
          refine fm_up F_h (nw_nf rfl) ?_; intro h61 F_h61
          exact fm_tl F_h61 (fw_X13_patch_51 nn _) (fun _ _ z => z)
        · exact fm_ret F_h
set_option maxRecDepth 4000 in
theorem ff_X13_drop (nn : Nat) {h : ms_M} : Fm_ (fun c k => nw_F wl_X13_drop wf_X13_drop false false c k = true) h (qf_X13_drop nn h) (fun r => r.2) := by
  unfold qf_X13_drop
  have F_h : ∀ c k : Nat, (fun c k => nw_F wl_X13_drop wf_X13_drop false false c k = true) c k → h c k = h c k := fun _ _ _ => rfl
  refine fm_xl ?_; intro v2
  refine fm_rd ?_; intro v4
  refine fm_xl ?_; intro v5
  refine fm_wA F_h (nw_ne rfl) ?_; intro h6 F_h6
  refine fm_xl ?_; intro v8
  refine fm_xl ?_; intro v9
  refine fm_rd ?_; intro v11
  refine fm_xl ?_; intro v12
  refine fm_rd ?_; intro v13
  exact fm_ret F_h6
set_option maxRecDepth 4000 in
theorem ff_X13_give (nn : Nat) {a1 : Int} {h : ms_M} : Fm_ (fun c k => nw_F wl_X13_give wf_X13_give false false c k = true) h (qf_X13_give nn a1 h) (fun r => r) := by
  unfold qf_X13_give
  have F_h : ∀ c k : Nat, (fun c k => nw_F wl_X13_give wf_X13_give false false c k = true) c k → h c k = h c k := fun _ _ _ => rfl
  refine fm_xl ?_; intro v2
  refine fm_xl ?_; intro v4
  refine fm_xl ?_; intro v5
  refine fm_rd ?_; intro v7
  refine fm_xl ?_; intro v8
  refine fm_wA F_h (nw_ne rfl) ?_; intro h9 F_h9
  refine fm_rd ?_; intro v11
  refine fm_xl ?_; intro v12
  refine fm_wA F_h9 (nw_ne rfl) ?_; intro h13 F_h13
  exact fm_ret F_h13
set_option maxRecDepth 4000 in
theorem ff_X13_on (nn : Nat) {a1 : Int} {h : ms_M} : Fm_ (fun c k => nw_F wl_X13_on wf_X13_on false false c k = true) h (qf_X13_on nn a1 h) (fun r => r) := by
  unfold qf_X13_on
  have F_h : ∀ c k : Nat, (fun c k => nw_F wl_X13_on wf_X13_on false false c k = true) c k → h c k = h c k := fun _ _ _ => rfl
  refine fm_xl ?_; intro v3
  refine fm_rd ?_; intro v4
  refine fm_xl ?_; intro v5
  refine fm_wA F_h (nw_ne rfl) ?_; intro h6 F_h6
  exact fm_ret F_h6
set_option maxRecDepth 4000 in
theorem fj_X13_back_45 (nn : Nat) {h : ms_M} : Fm_ (fun c k => nw_F wl_X13_back wf_X13_back false false c k = true) h (qj_X13_back_45 nn h) (fun r => r) := by
  unfold qj_X13_back_45
  have F_h : ∀ c k : Nat, (fun c k => nw_F wl_X13_back wf_X13_back false false c k = true) c k → h c k = h c k := fun _ _ _ => rfl
  refine fm_ca F_h (ff_X13_on nn) (nw_sub rfl) ?_; intro u2 F_u2
  exact fm_ret F_u2
set_option maxRecDepth 4000 in
theorem fj_X13_back_15 (nn : Nat) {l1 : Int} {s0 : Int} {h : ms_M} : Fm_ (fun c k => nw_F wl_X13_back wf_X13_back false false c k = true) h (qj_X13_back_15 nn l1 s0 h) (fun r => r) := by
  unfold qj_X13_back_15
  have F_h : ∀ c k : Nat, (fun c k => nw_F wl_X13_back wf_X13_back false false c k = true) c k → h c k = h c k := fun _ _ _ => rfl
  refine fm_xl ?_; intro v4
  refine fm_up F_h (nw_nf rfl) ?_; intro h5 F_h5
  refine fm_if ?_ ?_
  · refine fm_up F_h5 (nw_nf rfl) ?_; intro h7 F_h7
    refine fm_if ?_ ?_
    · refine fm_if ?_ ?_
      · exact fm_ret F_h7
      · refine fm_if ?_ ?_
        · exact fm_ret F_h7
        · refine fm_pu ?_; intro u9
          refine fm_up F_h7 (nw_nf rfl) ?_; intro h10 F_h10
          exact fm_ret F_h10
    · refine fm_up F_h7 (nw_nf rfl) ?_; intro h13 F_h13
      exact fm_ret F_h13
  · refine fm_if ?_ ?_
    · exact fm_tl F_h5 (fj_X13_back_45 nn) (fun _ _ z => z)
    · refine fm_ca F_h5 (ff_X13_give nn) (nw_sub rfl) ?_; intro u16 F_u16
      exact fm_tl F_u16 (fj_X13_back_45 nn) (fun _ _ z => z)
set_option maxRecDepth 4000 in
theorem ff_X13_back (nn : Nat) {a1 : Int} {h : ms_M} : Fm_ (fun c k => nw_F wl_X13_back wf_X13_back false false c k = true) h (qf_X13_back nn a1 h) (fun r => r) := by
  unfold qf_X13_back
  have F_h : ∀ c k : Nat, (fun c k => nw_F wl_X13_back wf_X13_back false false c k = true) c k → h c k = h c k := fun _ _ _ => rfl
  refine fm_if ?_ ?_
  · refine fm_ca F_h (ff_X13_drop nn) (nw_sub rfl) ?_; intro u20 F_u20
    exact fm_tl F_u20 (fj_X13_back_15 nn) (fun _ _ z => z)
  · exact fm_tl F_h (fj_X13_back_15 nn) (fun _ _ z => z)
set_option maxRecDepth 4000 in
theorem fw_X13_enter_42 (nn : Nat) : ∀ (k : Nat) {l3 : Int} {h : ms_M}, Fm_ (fun c k => nw_F wl_X13_enter wf_X13_enter false false c k = true) h (qw_X13_enter_42 nn k l3 h) (fun r => r) := by
  intro k
  induction k with
  | zero => intros; exact fm_no
  | succ k ih =>
    intro l3 h
    unfold qw_X13_enter_42
    have F_h : ∀ c k : Nat, (fun c k => nw_F wl_X13_enter wf_X13_enter false false c k = true) c k → h c k = h c k := fun _ _ _ => rfl
    refine fm_if ?_ ?_
    · refine fm_xl ?_; intro v2
      refine fm_up F_h (nw_nf rfl) ?_; intro h3 F_h3
      exact fm_ret F_h3
    · refine fm_xl ?_; intro v6
      refine fm_xl ?_; intro v7
      refine fm_wA F_h (nw_ne rfl) ?_; intro h8 F_h8
      refine fm_xl ?_; intro v9
      exact fm_tl F_h8 (ih ) (fun _ _ z => z)
set_option maxRecDepth 4000 in
theorem ff_X13_enter (nn : Nat) {a1 : Int} {a2 : Int} {h : ms_M} : Fm_ (fun c k => nw_F wl_X13_enter wf_X13_enter false false c k = true) h (qf_X13_enter nn a1 a2 h) (fun r => r) := by
  unfold qf_X13_enter
  have F_h : ∀ c k : Nat, (fun c k => nw_F wl_X13_enter wf_X13_enter false false c k = true) c k → h c k = h c k := fun _ _ _ => rfl
  refine fm_wA F_h (nw_ne rfl) ?_; intro h13 F_h13
  refine fm_wA F_h13 (nw_ne rfl) ?_; intro h16 F_h16
  refine fm_wA F_h16 (nw_ne rfl) ?_; intro h19 F_h19
  refine fm_wA F_h19 (nw_ne rfl) ?_; intro h22 F_h22
  exact fm_tl F_h22 (fw_X13_enter_42 nn _) (fun _ _ z => z)
set_option maxRecDepth 4000 in
theorem fw_X13_make__74 (nn : Nat) : ∀ (k : Nat) {l2 : Int} {l3 : Int} {h : ms_M}, Fm_ (fun c k => nw_F wl_X13_make_ wf_X13_make_ false false c k = true) h (qw_X13_make__74 nn k l2 l3 h) (fun r => r.2) := by
  intro k
  induction k with
  | zero => intros; exact fm_no
  | succ k ih =>
    intro l2 l3 h
    unfold qw_X13_make__74
    have F_h : ∀ c k : Nat, (fun c k => nw_F wl_X13_make_ wf_X13_make_ false false c k = true) c k → h c k = h c k := fun _ _ _ => rfl
    refine fm_if ?_ ?_
    · refine fm_xl ?_; intro v2
      refine fm_up F_h (nw_nf rfl) ?_; intro h3 F_h3
      exact fm_ret F_h3
    · refine fm_xl ?_; intro v7
      refine fm_wA F_h (nw_ne rfl) ?_; intro h8 F_h8
      refine fm_xl ?_; intro v9
      exact fm_tl F_h8 (ih ) (fun _ _ z => z)
set_option maxRecDepth 4000 in
theorem fj_X13_make__22 (nn : Nat) {h : ms_M} : Fm_ (fun c k => nw_F wl_X13_make_ wf_X13_make_ false false c k = true) h (qj_X13_make__22 nn h) (fun r => r.2) := by
  unfold qj_X13_make__22
  have F_h : ∀ c k : Nat, (fun c k => nw_F wl_X13_make_ wf_X13_make_ false false c k = true) c k → h c k = h c k := fun _ _ _ => rfl
  refine fm_up F_h (nw_nf rfl) ?_; intro h11 F_h11
  exact fm_ret F_h11
set_option maxRecDepth 4000 in
theorem ff_X13_make_ (nn : Nat) {a1 : Int} {a2 : Int} {h : ms_M} : Fm_ (fun c k => nw_F wl_X13_make_ wf_X13_make_ false false c k = true) h (qf_X13_make_ nn a1 a2 h) (fun r => r.2) := by
  unfold qf_X13_make_
  have F_h : ∀ c k : Nat, (fun c k => nw_F wl_X13_make_ wf_X13_make_ false false c k = true) c k → h c k = h c k := fun _ _ _ => rfl
  refine fm_if ?_ ?_
  · exact fm_tl F_h (fj_X13_make__22 nn) (fun _ _ z => z)
  · refine fm_xl ?_; intro v14
    refine fm_if ?_ ?_
    · refine fm_xl ?_; intro v16
      refine fm_up F_h (nw_nf rfl) ?_; intro h17 F_h17
      refine fm_wA F_h17 (nw_ne rfl) ?_; intro h20 F_h20
      refine fm_wA F_h20 (nw_ne rfl) ?_; intro h24 F_h24
      refine fm_wA F_h24 (nw_ne rfl) ?_; intro h27 F_h27
      exact fm_tl F_h27 (fw_X13_make__74 nn _) (fun _ _ z => z)
    · exact fm_tl F_h (fj_X13_make__22 nn) (fun _ _ z => z)
set_option maxRecDepth 4000 in
theorem fj_X13_thrown_196 (nn : Nat) {l1 : Int} {l2 : Int} {h : ms_M} : Fm_ (fun c k => nw_F wl_X13_thrown wf_X13_thrown false false c k = true) h (qj_X13_thrown_196 nn l1 l2 h) (fun r => r) := by
  unfold qj_X13_thrown_196
  have F_h : ∀ c k : Nat, (fun c k => nw_F wl_X13_thrown wf_X13_thrown false false c k = true) c k → h c k = h c k := fun _ _ _ => rfl
  refine fm_wA F_h (nw_ne rfl) ?_; intro h2 F_h2
  refine fm_ca F_h2 (ff_X13_give nn) (nw_sub rfl) ?_; intro u4 F_u4
  exact fm_ret F_u4
set_option maxRecDepth 4000 in
theorem fw_X13_thrown_45 (nn : Nat) {qkk_0 : Int → ms_M → Option ms_M} (hk_kk_0 : ∀ {l1 : Int} {h : ms_M}, Fm_ (fun c k => nw_F wl_X13_thrown wf_X13_thrown false false c k = true) h (qkk_0 l1 h) (fun r => r)) : ∀ (k : Nat) {l1 : Int} {l2 : Int} {l3 : Int} {l4 : Int} {l5 : Int} {h : ms_M}, Fm_ (fun c k => nw_F wl_X13_thrown wf_X13_thrown false false c k = true) h (qw_X13_thrown_45 nn qkk_0 k l1 l2 l3 l4 l5 h) (fun r => r) := by
  intro k
  induction k with
  | zero => intros; exact fm_no
  | succ k ih =>
    intro l1 l2 l3 l4 l5 h
    unfold qw_X13_thrown_45
    have F_h : ∀ c k : Nat, (fun c k => nw_F wl_X13_thrown wf_X13_thrown false false c k = true) c k → h c k = h c k := fun _ _ _ => rfl
    refine fm_pu ?_; intro u6
    refine fm_if ?_ ?_
    · refine fm_xl ?_; intro v8
      refine fm_up F_h (nw_nf rfl) ?_; intro h9 F_h9
      exact fm_tl F_h9 (hk_kk_0) (fun _ _ z => z)
    · refine fm_xl ?_; intro v10
      refine fm_xl ?_; intro v11
      refine fm_xl ?_; intro v12
      refine fm_pu ?_; intro u14
      refine fm_xl ?_; intro v15
      refine fm_xl ?_; intro v16
      refine fm_pu ?_; intro u18
      refine fm_xl ?_; intro v19
      refine fm_xl ?_; intro v20
      refine fm_pu ?_; intro u22
      refine fm_xl ?_; intro v23
      refine fm_xl ?_; intro v24
      refine fm_pu ?_; intro u26
      refine fm_xl ?_; intro v27
      refine fm_rd ?_; intro v29
      refine fm_if ?_ ?_
      · refine fm_xl ?_; intro v30
        exact fm_tl F_h (ih ) (fun _ _ z => z)
      · refine fm_rd ?_; intro v32
        refine fm_if ?_ ?_
        · refine fm_xl ?_; intro v33
          exact fm_tl F_h (ih ) (fun _ _ z => z)
        · refine fm_xl ?_; intro v34
          refine fm_pu ?_; intro u36
          refine fm_pu ?_; intro u38
          refine fm_pu ?_; intro u40
          refine fm_pu ?_; intro u42
          refine fm_if ?_ ?_
          · refine fm_xl ?_; intro v44
            refine fm_pu ?_; intro u46
            refine fm_xl ?_; intro v47
            refine fm_xl ?_; intro v48
            refine fm_pu ?_; intro u50
            refine fm_xl ?_; intro v51
            refine fm_wA F_h (nw_ne rfl) ?_; intro h52 F_h52
            exact fm_tl F_h52 (fj_X13_thrown_196 nn) (fun _ _ z => z)
          · refine fm_xl ?_; intro v53
            exact fm_tl F_h (ih ) (fun _ _ z => z)
set_option maxRecDepth 4000 in
theorem fw_X13_thrown_0 (nn : Nat) : ∀ (k : Nat) {l1 : Int} {h : ms_M}, Fm_ (fun c k => nw_F wl_X13_thrown wf_X13_thrown false false c k = true) h (qw_X13_thrown_0 nn k l1 h) (fun r => r) := by
  intro k
  induction k with
  | zero => intros; exact fm_no
  | succ k ih =>
    intro l1 h
    unfold qw_X13_thrown_0
    have F_h : ∀ c k : Nat, (fun c k => nw_F wl_X13_thrown wf_X13_thrown false false c k = true) c k → h c k = h c k := fun _ _ _ => rfl
    refine fm_if ?_ ?_
    · refine fm_up F_h (nw_nf rfl) ?_; intro h59 F_h59
      refine fm_rd ?_; intro v61
      refine fm_up F_h59 (nw_nf rfl) ?_; intro h62 F_h62
      exact fm_ret F_h62
    · refine fm_xl ?_; intro v64
      refine fm_rd ?_; intro v66
      refine fm_xl ?_; intro v67
      refine fm_xl ?_; intro v69
      refine fm_rd ?_; intro v71
      refine fm_xl ?_; intro v72
      refine fm_rd ?_; intro v73
      exact fm_tl F_h (fw_X13_thrown_45 nn ih _) (fun _ _ z => z)
set_option maxRecDepth 4000 in
theorem ff_X13_thrown (nn : Nat) {a1 : Int} {h : ms_M} : Fm_ (fun c k => nw_F wl_X13_thrown wf_X13_thrown false false c k = true) h (qf_X13_thrown nn a1 h) (fun r => r) := by
  unfold qf_X13_thrown
  have F_h : ∀ c k : Nat, (fun c k => nw_F wl_X13_thrown wf_X13_thrown false false c k = true) c k → h c k = h c k := fun _ _ _ => rfl
  exact fm_tl F_h (fw_X13_thrown_0 nn _) (fun _ _ z => z)
set_option maxRecDepth 4000 in
theorem ff_X13_fails (nn : Nat) {a1 : Int} {h : ms_M} : Fm_ (fun c k => nw_F wl_X13_fails wf_X13_fails false false c k = true) h (qf_X13_fails nn a1 h) (fun r => r) := by
  unfold qf_X13_fails
  have F_h : ∀ c k : Nat, (fun c k => nw_F wl_X13_fails wf_X13_fails false false c k = true) c k → h c k = h c k := fun _ _ _ => rfl
  refine fm_ca F_h (ff_X13_make_ nn) (nw_sub rfl) ?_; intro u2 F_u2
  refine fm_if ?_ ?_
  · exact fm_ret F_u2
  · refine fm_ca F_u2 (ff_X13_thrown nn) (nw_sub rfl) ?_; intro u4 F_u4
    exact fm_ret F_u4
set_option maxRecDepth 4000 in
theorem fj_X13_holder_148 (nn : Nat) {qkk_6 : Int → Int → Int → Int → Int → ms_M → Option (Int × ms_M)} (hk_kk_6 : ∀ {l2 : Int} {l3 : Int} {l4 : Int} {l5 : Int} {l6 : Int} {h : ms_M}, Fm_ (fun c k => nw_F wl_X13_holder wf_X13_holder false false c k = true) h (qkk_6 l2 l3 l4 l5 l6 h) (fun r => r.2)) {l2 : Int} {l3 : Int} {l4 : Int} {l5 : Int} {l6 : Int} {h : ms_M} : Fm_ (fun c k => nw_F wl_X13_holder wf_X13_holder false false c k = true) h (qj_X13_holder_148 nn qkk_6 l2 l3 l4 l5 l6 h) (fun r => r.2) := by
  unfold qj_X13_holder_148
  have F_h : ∀ c k : Nat, (fun c k => nw_F wl_X13_holder wf_X13_holder false false c k = true) c k → h c k = h c k := fun _ _ _ => rfl
  refine fm_pu ?_; intro u2
  refine fm_xl ?_; intro v3
  exact fm_tl F_h (hk_kk_6) (fun _ _ z => z)
set_option maxRecDepth 4000 in
theorem fj_X13_holder_115 (nn : Nat) {qkk_6 : Int → Int → Int → Int → Int → ms_M → Option (Int × ms_M)} (hk_kk_6 : ∀ {l2 : Int} {l3 : Int} {l4 : Int} {l5 : Int} {l6 : Int} {h : ms_M}, Fm_ (fun c k => nw_F wl_X13_holder wf_X13_holder false false c k = true) h (qkk_6 l2 l3 l4 l5 l6 h) (fun r => r.2)) {qkk_60 : Int → Int → Int → Int → Int → Int → Int → Int → ms_M → Option (Int × ms_M)} (hk_kk_60 : ∀ {l2 : Int} {l3 : Int} {l4 : Int} {l5 : Int} {l6 : Int} {l7 : Int} {l8 : Int} {l9 : Int} {h : ms_M}, Fm_ (fun c k => nw_F wl_X13_holder wf_X13_holder false false c k = true) h (qkk_60 l2 l3 l4 l5 l6 l7 l8 l9 h) (fun r => r.2)) {l2 : Int} {l3 : Int} {l4 : Int} {l5 : Int} {l6 : Int} {l7 : Int} {l8 : Int} {l9 : Int} {s0 : Int} {h : ms_M} : Fm_ (fun c k => nw_F wl_X13_holder wf_X13_holder false false c k = true) h (qj_X13_holder_115 nn qkk_6 qkk_60 l2 l3 l4 l5 l6 l7 l8 l9 s0 h) (fun r => r.2) := by
  unfold qj_X13_holder_115
  have F_h : ∀ c k : Nat, (fun c k => nw_F wl_X13_holder wf_X13_holder false false c k = true) c k → h c k = h c k := fun _ _ _ => rfl
  refine fm_pu ?_; intro u5
  refine fm_if ?_ ?_
  · refine fm_up F_h (nw_nf rfl) ?_; intro h6 F_h6
    exact fm_ret F_h6
  · refine fm_xl ?_; intro v7
    exact fm_tl F_h (hk_kk_60) (fun _ _ z => z)
set_option maxRecDepth 4000 in
theorem fw_X13_holder_60 (nn : Nat) {qkk_6 : Int → Int → Int → Int → Int → ms_M → Option (Int × ms_M)} (hk_kk_6 : ∀ {l2 : Int} {l3 : Int} {l4 : Int} {l5 : Int} {l6 : Int} {h : ms_M}, Fm_ (fun c k => nw_F wl_X13_holder wf_X13_holder false false c k = true) h (qkk_6 l2 l3 l4 l5 l6 h) (fun r => r.2)) : ∀ (k : Nat) {l2 : Int} {l3 : Int} {l4 : Int} {l5 : Int} {l6 : Int} {l7 : Int} {l8 : Int} {l9 : Int} {h : ms_M}, Fm_ (fun c k => nw_F wl_X13_holder wf_X13_holder false false c k = true) h (qw_X13_holder_60 nn qkk_6 k l2 l3 l4 l5 l6 l7 l8 l9 h) (fun r => r.2) := by
  intro k
  induction k with
  | zero => intros; exact fm_no
  | succ k ih =>
    intro l2 l3 l4 l5 l6 l7 l8 l9 h
    unfold qw_X13_holder_60
    have F_h : ∀ c k : Nat, (fun c k => nw_F wl_X13_holder wf_X13_holder false false c k = true) c k → h c k = h c k := fun _ _ _ => rfl
    refine fm_if ?_ ?_
    · exact fm_tl F_h (fj_X13_holder_148 nn hk_kk_6) (fun _ _ z => z)
    · refine fm_if ?_ ?_
      · refine fm_xl ?_; intro v10
        refine fm_xl ?_; intro v11
        refine fm_rd ?_; intro v12
        refine fm_pu ?_; intro u14
        exact fm_tl F_h (fj_X13_holder_115 nn hk_kk_6 ih) (fun _ _ z => z)
      · refine fm_xl ?_; intro v16
        refine fm_xl ?_; intro v17
        refine fm_rd ?_; intro v18
        refine fm_xl ?_; intro v19
        refine fm_pu ?_; intro u21
        exact fm_tl F_h (fj_X13_holder_115 nn hk_kk_6 ih) (fun _ _ z => z)
set_option maxRecDepth 4000 in
theorem fw_X13_holder_6 (nn : Nat) : ∀ (k : Nat) {l2 : Int} {l3 : Int} {l4 : Int} {l5 : Int} {l6 : Int} {h : ms_M}, Fm_ (fun c k => nw_F wl_X13_holder wf_X13_holder false false c k = true) h (qw_X13_holder_6 nn k l2 l3 l4 l5 l6 h) (fun r => r.2) := by
  intro k
  induction k with
  | zero => intros; exact fm_no
  | succ k ih =>
    intro l2 l3 l4 l5 l6 h
    unfold qw_X13_holder_6
    have F_h : ∀ c k : Nat, (fun c k => nw_F wl_X13_holder wf_X13_holder false false c k = true) c k → h c k = h c k := fun _ _ _ => rfl
    refine fm_if ?_ ?_
    · exact fm_ret F_h
    · refine fm_if ?_ ?_
      · exact fm_ret F_h
      · refine fm_if ?_ ?_
        · exact fm_tl F_h (fj_X13_holder_148 nn ih) (fun _ _ z => z)
        · refine fm_xl ?_; intro v24
          refine fm_if ?_ ?_
          · refine fm_rd ?_; intro v26
            exact fm_tl F_h (fw_X13_holder_60 nn ih _) (fun _ _ z => z)
          · refine fm_rd ?_; intro v28
            exact fm_tl F_h (fw_X13_holder_60 nn ih _) (fun _ _ z => z)
set_option maxRecDepth 4000 in
theorem ff_X13_holder (nn : Nat) {a1 : Int} {a2 : Int} {a3 : Int} {a4 : Int} {h : ms_M} : Fm_ (fun c k => nw_F wl_X13_holder wf_X13_holder false false c k = true) h (qf_X13_holder nn a1 a2 a3 a4 h) (fun r => r.2) := by
  unfold qf_X13_holder
  have F_h : ∀ c k : Nat, (fun c k => nw_F wl_X13_holder wf_X13_holder false false c k = true) c k → h c k = h c k := fun _ _ _ => rfl
  exact fm_tl F_h (fw_X13_holder_6 nn _) (fun _ _ z => z)
set_option maxRecDepth 4000 in
theorem fw_X13_call_228 (nn : Nat) : ∀ (k : Nat) {l5 : Int} {l7 : Int} {l11 : Int} {h : ms_M}, Fm_ (fun c k => nw_F wl_X13_call wf_X13_call false false c k = true) h (qw_X13_call_228 nn k l5 l7 l11 h) (fun r => r) := by
  intro k
  induction k with
  | zero => intros; exact fm_no
  | succ k ih =>
    intro l5 l7 l11 h
    unfold qw_X13_call_228
    have F_h : ∀ c k : Nat, (fun c k => nw_F wl_X13_call wf_X13_call false false c k = true) c k → h c k = h c k := fun _ _ _ => rfl
    refine fm_if ?_ ?_
    · exact fm_ret F_h
    · refine fm_xl ?_; intro v3
      refine fm_xl ?_; intro v4
      refine fm_xl ?_; intro v5
      refine fm_xl ?_; intro v7
      refine fm_rd ?_; intro v8
      refine fm_wA F_h (nw_ne rfl) ?_; intro h9 F_h9
      refine fm_xl ?_; intro v10
      exact fm_tl F_h9 (ih ) (fun _ _ z => z)
set_option maxRecDepth 4000 in
theorem fj_X13_call_168 (nn : Nat) {l2 : Int} {l3 : Int} {l5 : Int} {l6 : Int} {l7 : Int} {l8 : Int} {h : ms_M} : Fm_ (fun c k => nw_F wl_X13_call wf_X13_call false false c k = true) h (qj_X13_call_168 nn l2 l3 l5 l6 l7 l8 h) (fun r => r) := by
  unfold qj_X13_call_168
  have F_h : ∀ c k : Nat, (fun c k => nw_F wl_X13_call wf_X13_call false false c k = true) c k → h c k = h c k := fun _ _ _ => rfl
  refine fm_pu ?_; intro u13
  refine fm_ca F_h (ff_X13_holder nn) (nw_sub rfl) ?_; intro u15 F_u15
  refine fm_if ?_ ?_
  · refine fm_rd ?_; intro v19
    refine fm_xl ?_; intro v20
    refine fm_wA F_u15 (nw_ne rfl) ?_; intro h21 F_h21
    refine fm_ca F_h21 (ff_X13_enter nn) (nw_sub rfl) ?_; intro u23 F_u23
    exact fm_tl F_u23 (fw_X13_call_228 nn _) (fun _ _ z => z)
  · refine fm_up F_u15 (nw_nf rfl) ?_; intro h24 F_h24
    exact fm_ret F_h24
set_option maxRecDepth 4000 in
theorem fj_X13_call_166 (nn : Nat) {l2 : Int} {l3 : Int} {l5 : Int} {l6 : Int} {l7 : Int} {s0 : Int} {h : ms_M} : Fm_ (fun c k => nw_F wl_X13_call wf_X13_call false false c k = true) h (qj_X13_call_166 nn l2 l3 l5 l6 l7 s0 h) (fun r => r) := by
  unfold qj_X13_call_166
  have F_h : ∀ c k : Nat, (fun c k => nw_F wl_X13_call wf_X13_call false false c k = true) c k → h c k = h c k := fun _ _ _ => rfl
  exact fm_tl F_h (fj_X13_call_168 nn) (fun _ _ z => z)
set_option maxRecDepth 4000 in
theorem fj_X13_call_72 (nn : Nat) {l1 : Int} {l2 : Int} {l3 : Int} {s0 : Int} {s1 : Int} {h : ms_M} : Fm_ (fun c k => nw_F wl_X13_call wf_X13_call false false c k = true) h (qj_X13_call_72 nn l1 l2 l3 s0 s1 h) (fun r => r) := by
  unfold qj_X13_call_72
  have F_h : ∀ c k : Nat, (fun c k => nw_F wl_X13_call wf_X13_call false false c k = true) c k → h c k = h c k := fun _ _ _ => rfl
  refine fm_xl ?_; intro v26
  refine fm_xl ?_; intro v28
  refine fm_xl ?_; intro v29
  refine fm_xl ?_; intro v30
  refine fm_rd ?_; intro v32
  refine fm_xl ?_; intro v33
  refine fm_xl ?_; intro v34
  refine fm_pu ?_; intro u36
  refine fm_pu ?_; intro u38
  refine fm_if ?_ ?_
  · exact fm_tl F_h (fj_X13_call_168 nn) (fun _ _ z => z)
  · refine fm_rd ?_; intro v40
    refine fm_if ?_ ?_
    · refine fm_rd ?_; intro v42
      refine fm_if ?_ ?_
      · refine fm_rd ?_; intro v44
        exact fm_tl F_h (fj_X13_call_166 nn) (fun _ _ z => z)
      · exact fm_tl F_h (fj_X13_call_166 nn) (fun _ _ z => z)
    · refine fm_ca F_h (ff_X13_fails nn) (nw_sub rfl) ?_; intro u47 F_u47
      exact fm_ret F_u47
set_option maxRecDepth 4000 in
theorem ff_X13_call (nn : Nat) {a1 : Int} {a2 : Int} {h : ms_M} : Fm_ (fun c k => nw_F wl_X13_call wf_X13_call false false c k = true) h (qf_X13_call nn a1 a2 h) (fun r => r) := by
  unfold qf_X13_call
  have F_h : ∀ c k : Nat, (fun c k => nw_F wl_X13_call wf_X13_call false false c k = true) c k → h c k = h c k := fun _ _ _ => rfl
  refine fm_xl ?_; intro v52
  refine fm_rd ?_; intro v53
  refine fm_xl ?_; intro v54
  refine fm_xl ?_; intro v55
  refine fm_xl ?_; intro v57
  refine fm_pu ?_; intro u59
  refine fm_xl ?_; intro v60
  refine fm_rd ?_; intro v61
  refine fm_xl ?_; intro v62
  refine fm_xl ?_; intro v64
  refine fm_xl ?_; intro v66
  refine fm_rd ?_; intro v67
  refine fm_pu ?_; intro u68
  refine fm_if ?_ ?_
  · exact fm_tl F_h (fj_X13_call_72 nn) (fun _ _ z => z)
  · exact fm_tl F_h (fj_X13_call_72 nn) (fun _ _ z => z)
set_option maxRecDepth 4000 in
theorem fj_X13_element_141 (nn : Nat) {h : ms_M} : Fm_ (fun c k => nw_F wl_X13_element wf_X13_element false false c k = true) h (qj_X13_element_141 nn h) (fun r => r) := by
  unfold qj_X13_element_141
  have F_h : ∀ c k : Nat, (fun c k => nw_F wl_X13_element wf_X13_element false false c k = true) c k → h c k = h c k := fun _ _ _ => rfl
  refine fm_ca F_h (ff_X13_on nn) (nw_sub rfl) ?_; intro u2 F_u2
  exact fm_ret F_u2
set_option maxRecDepth 4000 in
theorem fj_X13_element_99 (nn : Nat) {l1 : Int} {l2 : Int} {l3 : Int} {l4 : Int} {h : ms_M} : Fm_ (fun c k => nw_F wl_X13_element wf_X13_element false false c k = true) h (qj_X13_element_99 nn l1 l2 l3 l4 h) (fun r => r) := by
  unfold qj_X13_element_99
  have F_h : ∀ c k : Nat, (fun c k => nw_F wl_X13_element wf_X13_element false false c k = true) c k → h c k = h c k := fun _ _ _ => rfl
  refine fm_if ?_ ?_
  · refine fm_rd ?_; intro v5
    refine fm_xl ?_; intro v6
    refine fm_rd ?_; intro v7
    refine fm_ca F_h (ff_X13_give nn) (nw_sub rfl) ?_; intro u9 F_u9
    exact fm_tl F_u9 (fj_X13_element_141 nn) (fun _ _ z => z)
  · refine fm_rd ?_; intro v12
    refine fm_xl ?_; intro v13
    refine fm_wA F_h (nw_ne rfl) ?_; intro h14 F_h14
    exact fm_tl F_h14 (fj_X13_element_141 nn) (fun _ _ z => z)
set_option maxRecDepth 4000 in
theorem fj_X13_element_54 (nn : Nat) {h : ms_M} : Fm_ (fun c k => nw_F wl_X13_element wf_X13_element false false c k = true) h (qj_X13_element_54 nn h) (fun r => r) := by
  unfold qj_X13_element_54
  have F_h : ∀ c k : Nat, (fun c k => nw_F wl_X13_element wf_X13_element false false c k = true) c k → h c k = h c k := fun _ _ _ => rfl
  refine fm_ca F_h (ff_X13_fails nn) (nw_sub rfl) ?_; intro u17 F_u17
  exact fm_ret F_u17
set_option maxRecDepth 4000 in
theorem fj_X13_element_14 (nn : Nat) {l1 : Int} {s0 : Int} {h : ms_M} : Fm_ (fun c k => nw_F wl_X13_element wf_X13_element false false c k = true) h (qj_X13_element_14 nn l1 s0 h) (fun r => r) := by
  unfold qj_X13_element_14
  have F_h : ∀ c k : Nat, (fun c k => nw_F wl_X13_element wf_X13_element false false c k = true) c k → h c k = h c k := fun _ _ _ => rfl
  refine fm_ca F_h (ff_X13_drop nn) (nw_sub rfl) ?_; intro u19 F_u19
  refine fm_ca F_u19 (ff_X13_drop nn) (nw_sub rfl) ?_; intro u21 F_u21
  refine fm_if ?_ ?_
  · refine fm_if ?_ ?_
    · exact fm_tl F_u21 (fj_X13_element_54 nn) (fun _ _ z => z)
    · refine fm_rd ?_; intro v23
      refine fm_if ?_ ?_
      · refine fm_if ?_ ?_
        · exact fm_tl F_u21 (fj_X13_element_99 nn) (fun _ _ z => z)
        · refine fm_if ?_ ?_
          · exact fm_tl F_u21 (fj_X13_element_99 nn) (fun _ _ z => z)
          · refine fm_rd ?_; intro v25
            refine fm_xl ?_; intro v26
            refine fm_pu ?_; intro u28
            refine fm_if ?_ ?_
            · exact fm_tl F_u21 (fj_X13_element_99 nn) (fun _ _ z => z)
            · refine fm_ca F_u21 (ff_X13_fails nn) (nw_sub rfl) ?_; intro u30 F_u30
              exact fm_ret F_u30
      · exact fm_tl F_u21 (fj_X13_element_54 nn) (fun _ _ z => z)
  · refine fm_ca F_u21 (ff_X13_fails nn) (nw_sub rfl) ?_; intro u37 F_u37
    exact fm_ret F_u37
set_option maxRecDepth 4000 in
theorem ff_X13_element (nn : Nat) {a1 : Int} {h : ms_M} : Fm_ (fun c k => nw_F wl_X13_element wf_X13_element false false c k = true) h (qf_X13_element nn a1 h) (fun r => r) := by
  unfold qf_X13_element
  have F_h : ∀ c k : Nat, (fun c k => nw_F wl_X13_element wf_X13_element false false c k = true) c k → h c k = h c k := fun _ _ _ => rfl
  refine fm_if ?_ ?_
  · exact fm_tl F_h (fj_X13_element_14 nn) (fun _ _ z => z)
  · refine fm_ca F_h (ff_X13_drop nn) (nw_sub rfl) ?_; intro u40 F_u40
    exact fm_tl F_u40 (fj_X13_element_14 nn) (fun _ _ z => z)
set_option maxRecDepth 4000 in
theorem fj_X13_fieldOf_147 (nn : Nat) {l3 : Int} {h : ms_M} : Fm_ (fun c k => nw_F wl_X13_fieldOf wf_X13_fieldOf false false c k = true) h (qj_X13_fieldOf_147 nn l3 h) (fun r => r) := by
  unfold qj_X13_fieldOf_147
  have F_h : ∀ c k : Nat, (fun c k => nw_F wl_X13_fieldOf wf_X13_fieldOf false false c k = true) c k → h c k = h c k := fun _ _ _ => rfl
  refine fm_ca F_h (ff_X13_on nn) (nw_sub rfl) ?_; intro u2 F_u2
  exact fm_ret F_u2
set_option maxRecDepth 4000 in
theorem fj_X13_fieldOf_15 (nn : Nat) {l1 : Int} {l2 : Int} {l3 : Int} {s0 : Int} {h : ms_M} : Fm_ (fun c k => nw_F wl_X13_fieldOf wf_X13_fieldOf false false c k = true) h (qj_X13_fieldOf_15 nn l1 l2 l3 s0 h) (fun r => r) := by
  unfold qj_X13_fieldOf_15
  have F_h : ∀ c k : Nat, (fun c k => nw_F wl_X13_fieldOf wf_X13_fieldOf false false c k = true) c k → h c k = h c k := fun _ _ _ => rfl
  refine fm_ca F_h (ff_X13_drop nn) (nw_sub rfl) ?_; intro u4 F_u4
  refine fm_if ?_ ?_
  · refine fm_if ?_ ?_
    · refine fm_pu ?_; intro u6
      refine fm_pu ?_; intro u8
      refine fm_xl ?_; intro v11
      refine fm_rd ?_; intro v12
      refine fm_xl ?_; intro v13
      refine fm_pu ?_; intro u15
      refine fm_ca F_u4 (ff_X13_holder nn) (nw_sub rfl) ?_; intro u17 F_u17
      refine fm_rd ?_; intro v19
      refine fm_pu ?_; intro u21
      refine fm_pu ?_; intro u23
      refine fm_xl ?_; intro v24
      refine fm_xl ?_; intro v26
      refine fm_if ?_ ?_
      · refine fm_wA F_u17 (nw_ne rfl) ?_; intro h28 F_h28
        exact fm_tl F_h28 (fj_X13_fieldOf_147 nn) (fun _ _ z => z)
      · refine fm_rd ?_; intro v30
        refine fm_ca F_u17 (ff_X13_give nn) (nw_sub rfl) ?_; intro u32 F_u32
        exact fm_tl F_u32 (fj_X13_fieldOf_147 nn) (fun _ _ z => z)
    · refine fm_rd ?_; intro v35
      refine fm_ca F_u4 (ff_X13_give nn) (nw_sub rfl) ?_; intro u37 F_u37
      exact fm_tl F_u37 (fj_X13_fieldOf_147 nn) (fun _ _ z => z)
  · refine fm_ca F_u4 (ff_X13_fails nn) (nw_sub rfl) ?_; intro u40 F_u40
    exact fm_ret F_u40
set_option maxRecDepth 4000 in
theorem ff_X13_fieldOf (nn : Nat) {a1 : Int} {a2 : Int} {a3 : Int} {h : ms_M} : Fm_ (fun c k => nw_F wl_X13_fieldOf wf_X13_fieldOf false false c k = true) h (qf_X13_fieldOf nn a1 a2 a3 h) (fun r => r) := by
  unfold qf_X13_fieldOf
  have F_h : ∀ c k : Nat, (fun c k => nw_F wl_X13_fieldOf wf_X13_fieldOf false false c k = true) c k → h c k = h c k := fun _ _ _ => rfl
  refine fm_if ?_ ?_
  · exact fm_tl F_h (fj_X13_fieldOf_15 nn) (fun _ _ z => z)
  · refine fm_ca F_h (ff_X13_drop nn) (nw_sub rfl) ?_; intro u43 F_u43
    exact fm_tl F_u43 (fj_X13_fieldOf_15 nn) (fun _ _ z => z)
set_option maxRecDepth 4000 in
theorem fj_X13_fresh__89 (nn : Nat) {s0 : Int} {h : ms_M} : Fm_ (fun c k => nw_F wl_X13_fresh_ wf_X13_fresh_ false false c k = true) h (qj_X13_fresh__89 nn s0 h) (fun r => r) := by
  unfold qj_X13_fresh__89
  have F_h : ∀ c k : Nat, (fun c k => nw_F wl_X13_fresh_ wf_X13_fresh_ false false c k = true) c k → h c k = h c k := fun _ _ _ => rfl
  refine fm_if ?_ ?_
  · refine fm_ca F_h (ff_X13_give nn) (nw_sub rfl) ?_; intro u2 F_u2
    refine fm_ca F_u2 (ff_X13_on nn) (nw_sub rfl) ?_; intro u4 F_u4
    exact fm_ret F_u4
  · exact fm_ret F_h
set_option maxRecDepth 4000 in
theorem fj_X13_fresh__85 (nn : Nat) {l3 : Int} {s0 : Int} {h : ms_M} : Fm_ (fun c k => nw_F wl_X13_fresh_ wf_X13_fresh_ false false c k = true) h (qj_X13_fresh__85 nn l3 s0 h) (fun r => r) := by
  unfold qj_X13_fresh__85
  have F_h : ∀ c k : Nat, (fun c k => nw_F wl_X13_fresh_ wf_X13_fresh_ false false c k = true) c k → h c k = h c k := fun _ _ _ => rfl
  refine fm_ca F_h (ff_X13_make_ nn) (nw_sub rfl) ?_; intro u7 F_u7
  exact fm_tl F_u7 (fj_X13_fresh__89 nn) (fun _ _ z => z)
set_option maxRecDepth 4000 in
theorem fj_X13_fresh__43 (nn : Nat) {l1 : Int} {l3 : Int} {s0 : Int} {h : ms_M} : Fm_ (fun c k => nw_F wl_X13_fresh_ wf_X13_fresh_ false false c k = true) h (qj_X13_fresh__43 nn l1 l3 s0 h) (fun r => r) := by
  unfold qj_X13_fresh__43
  have F_h : ∀ c k : Nat, (fun c k => nw_F wl_X13_fresh_ wf_X13_fresh_ false false c k = true) c k → h c k = h c k := fun _ _ _ => rfl
  refine fm_if ?_ ?_
  · refine fm_if ?_ ?_
    · refine fm_xl ?_; intro v8
      exact fm_tl F_h (fj_X13_fresh__85 nn) (fun _ _ z => z)
    · exact fm_tl F_h (fj_X13_fresh__85 nn) (fun _ _ z => z)
  · refine fm_pu ?_; intro u11
    refine fm_ca F_h (ff_X13_make_ nn) (nw_sub rfl) ?_; intro u13 F_u13
    exact fm_tl F_u13 (fj_X13_fresh__89 nn) (fun _ _ z => z)
set_option maxRecDepth 4000 in
theorem fj_X13_fresh__15 (nn : Nat) {l1 : Int} {l2 : Int} {s0 : Int} {h : ms_M} : Fm_ (fun c k => nw_F wl_X13_fresh_ wf_X13_fresh_ false false c k = true) h (qj_X13_fresh__15 nn l1 l2 s0 h) (fun r => r) := by
  unfold qj_X13_fresh__15
  have F_h : ∀ c k : Nat, (fun c k => nw_F wl_X13_fresh_ wf_X13_fresh_ false false c k = true) c k → h c k = h c k := fun _ _ _ => rfl
  refine fm_if ?_ ?_
  · refine fm_if ?_ ?_
    · refine fm_pu ?_; intro u16
      exact fm_tl F_h (fj_X13_fresh__43 nn) (fun _ _ z => z)
    · exact fm_tl F_h (fj_X13_fresh__43 nn) (fun _ _ z => z)
  · refine fm_ca F_h (ff_X13_fails nn) (nw_sub rfl) ?_; intro u19 F_u19
    exact fm_ret F_u19
set_option maxRecDepth 4000 in
theorem ff_X13_fresh_ (nn : Nat) {a1 : Int} {a2 : Int} {h : ms_M} : Fm_ (fun c k => nw_F wl_X13_fresh_ wf_X13_fresh_ false false c k = true) h (qf_X13_fresh_ nn a1 a2 h) (fun r => r) := by
  unfold qf_X13_fresh_
  have F_h : ∀ c k : Nat, (fun c k => nw_F wl_X13_fresh_ wf_X13_fresh_ false false c k = true) c k → h c k = h c k := fun _ _ _ => rfl
  refine fm_if ?_ ?_
  · refine fm_ca F_h (ff_X13_drop nn) (nw_sub rfl) ?_; intro u22 F_u22
    exact fm_tl F_u22 (fj_X13_fresh__15 nn) (fun _ _ z => z)
  · exact fm_tl F_h (fj_X13_fresh__15 nn) (fun _ _ z => z)
set_option maxRecDepth 4000 in
theorem fj_X13_is_68 (nn : Nat) {l3 : Int} {h : ms_M} : Fm_ (fun c k => nw_F wl_X13_is wf_X13_is false false c k = true) h (qj_X13_is_68 nn l3 h) (fun r => r.2) := by
  unfold qj_X13_is_68
  have F_h : ∀ c k : Nat, (fun c k => nw_F wl_X13_is wf_X13_is false false c k = true) c k → h c k = h c k := fun _ _ _ => rfl
  refine fm_ca F_h (ff_X13_give nn) (nw_sub rfl) ?_; intro u2 F_u2
  exact fm_ret F_u2
set_option maxRecDepth 4000 in
theorem fj_X13_is_27 (nn : Nat) {l1 : Int} {l3 : Int} {s0 : Int} {h : ms_M} : Fm_ (fun c k => nw_F wl_X13_is wf_X13_is false false c k = true) h (qj_X13_is_27 nn l1 l3 s0 h) (fun r => r.2) := by
  unfold qj_X13_is_27
  have F_h : ∀ c k : Nat, (fun c k => nw_F wl_X13_is wf_X13_is false false c k = true) c k → h c k = h c k := fun _ _ _ => rfl
  refine fm_if ?_ ?_
  · refine fm_if ?_ ?_
    · exact fm_tl F_h (fj_X13_is_68 nn) (fun _ _ z => z)
    · refine fm_if ?_ ?_
      · exact fm_tl F_h (fj_X13_is_68 nn) (fun _ _ z => z)
      · refine fm_ca F_h (ff_X13_fails nn) (nw_sub rfl) ?_; intro u4 F_u4
        exact fm_ret F_u4
  · refine fm_if ?_ ?_
    · refine fm_ca F_h (ff_X13_give nn) (nw_sub rfl) ?_; intro u8 F_u8
      exact fm_ret F_u8
    · refine fm_ca F_h (ff_X13_give nn) (nw_sub rfl) ?_; intro u10 F_u10
      exact fm_ret F_u10
set_option maxRecDepth 4000 in
theorem fj_X13_is_26 (nn : Nat) {l1 : Int} {l3 : Int} {h : ms_M} : Fm_ (fun c k => nw_F wl_X13_is wf_X13_is false false c k = true) h (qj_X13_is_26 nn l1 l3 h) (fun r => r.2) := by
  unfold qj_X13_is_26
  have F_h : ∀ c k : Nat, (fun c k => nw_F wl_X13_is wf_X13_is false false c k = true) c k → h c k = h c k := fun _ _ _ => rfl
  exact fm_tl F_h (fj_X13_is_27 nn) (fun _ _ z => z)
set_option maxRecDepth 4000 in
theorem ff_X13_is (nn : Nat) {a1 : Int} {a2 : Int} {h : ms_M} : Fm_ (fun c k => nw_F wl_X13_is wf_X13_is false false c k = true) h (qf_X13_is nn a1 a2 h) (fun r => r.2) := by
  unfold qf_X13_is
  have F_h : ∀ c k : Nat, (fun c k => nw_F wl_X13_is wf_X13_is false false c k = true) c k → h c k = h c k := fun _ _ _ => rfl
  refine fm_ca F_h (ff_X13_drop nn) (nw_sub rfl) ?_; intro u14 F_u14
  refine fm_if ?_ ?_
  · exact fm_tl F_u14 (fj_X13_is_26 nn) (fun _ _ z => z)
  · refine fm_pu ?_; intro u16
    refine fm_pu ?_; intro u18
    refine fm_if ?_ ?_
    · exact fm_tl F_u14 (fj_X13_is_26 nn) (fun _ _ z => z)
    · exact fm_tl F_u14 (fj_X13_is_27 nn) (fun _ _ z => z)
set_option maxRecDepth 4000 in
theorem fj_X13_jumps_155 (nn : Nat) {l2 : Int} {l3 : Int} {h : ms_M} : Fm_ (fun c k => nw_F wl_X13_jumps wf_X13_jumps false false c k = true) h (qj_X13_jumps_155 nn l2 l3 h) (fun r => r.2) := by
  unfold qj_X13_jumps_155
  have F_h : ∀ c k : Nat, (fun c k => nw_F wl_X13_jumps wf_X13_jumps false false c k = true) c k → h c k = h c k := fun _ _ _ => rfl
  refine fm_if ?_ ?_
  · exact fm_ret F_h
  · exact fm_ret F_h
set_option maxRecDepth 4000 in
theorem fj_X13_jumps_111 (nn : Nat) {l2 : Int} {l3 : Int} {h : ms_M} : Fm_ (fun c k => nw_F wl_X13_jumps wf_X13_jumps false false c k = true) h (qj_X13_jumps_111 nn l2 l3 h) (fun r => r.2) := by
  unfold qj_X13_jumps_111
  have F_h : ∀ c k : Nat, (fun c k => nw_F wl_X13_jumps wf_X13_jumps false false c k = true) c k → h c k = h c k := fun _ _ _ => rfl
  refine fm_if ?_ ?_
  · exact fm_ret F_h
  · exact fm_ret F_h
set_option maxRecDepth 4000 in
theorem fj_X13_jumps_100 (nn : Nat) {l2 : Int} {l3 : Int} {h : ms_M} : Fm_ (fun c k => nw_F wl_X13_jumps wf_X13_jumps false false c k = true) h (qj_X13_jumps_100 nn l2 l3 h) (fun r => r.2) := by
  unfold qj_X13_jumps_100
  have F_h : ∀ c k : Nat, (fun c k => nw_F wl_X13_jumps wf_X13_jumps false false c k = true) c k → h c k = h c k := fun _ _ _ => rfl
  refine fm_if ?_ ?_
  · exact fm_ret F_h
  · exact fm_ret F_h
set_option maxRecDepth 4000 in
theorem ff_X13_jumps (nn : Nat) {a1 : Int} {h : ms_M} : Fm_ (fun c k => nw_F wl_X13_jumps wf_X13_jumps false false c k = true) h (qf_X13_jumps nn a1 h) (fun r => r.2) := by
  unfold qf_X13_jumps
  have F_h : ∀ c k : Nat, (fun c k => nw_F wl_X13_jumps wf_X13_jumps false false c k = true) c k → h c k = h c k := fun _ _ _ => rfl
  refine fm_if ?_ ?_
  · refine fm_ca F_h (ff_X13_drop nn) (nw_sub rfl) ?_; intro u5 F_u5
    refine fm_if ?_ ?_
    · refine fm_if ?_ ?_
      · refine fm_ca F_u5 (ff_X13_drop nn) (nw_sub rfl) ?_; intro u7 F_u7
        refine fm_if ?_ ?_
        · exact fm_tl F_u7 (fj_X13_jumps_100 nn) (fun _ _ z => z)
        · refine fm_if ?_ ?_
          · exact fm_tl F_u7 (fj_X13_jumps_111 nn) (fun _ _ z => z)
          · refine fm_if ?_ ?_
            · refine fm_if ?_ ?_
              · exact fm_ret F_u7
              · exact fm_ret F_u7
            · refine fm_if ?_ ?_
              · refine fm_if ?_ ?_
                · exact fm_ret F_u7
                · exact fm_ret F_u7
              · refine fm_if ?_ ?_
                · refine fm_if ?_ ?_
                  · exact fm_ret F_u7
                  · exact fm_ret F_u7
                · refine fm_if ?_ ?_
                  · exact fm_tl F_u7 (fj_X13_jumps_100 nn) (fun _ _ z => z)
                  · refine fm_if ?_ ?_
                    · exact fm_tl F_u7 (fj_X13_jumps_111 nn) (fun _ _ z => z)
                    · exact fm_tl F_u7 (fj_X13_jumps_155 nn) (fun _ _ z => z)
      · refine fm_if ?_ ?_
        · exact fm_ret F_u5
        · exact fm_ret F_u5
    · refine fm_if ?_ ?_
      · exact fm_ret F_u5
      · exact fm_ret F_u5
  · exact fm_ret F_h
set_option maxRecDepth 4000 in
theorem fj_X13_step_1150 (nn : Nat) {l3 : Int} {h : ms_M} : Fm_ (fun c k => nw_F wl_X13_step wf_X13_step false false c k = true) h (qj_X13_step_1150 nn l3 h) (fun r => r) := by
  unfold qj_X13_step_1150
  have F_h : ∀ c k : Nat, (fun c k => nw_F wl_X13_step wf_X13_step false false c k = true) c k → h c k = h c k := fun _ _ _ => rfl
  refine fm_ca F_h (ff_X13_on nn) (nw_sub rfl) ?_; intro u2 F_u2
  exact fm_ret F_u2
set_option maxRecDepth 4000 in
theorem fj_X13_step_1122 (nn : Nat) {l1 : Int} {l2 : Int} {l3 : Int} {h : ms_M} : Fm_ (fun c k => nw_F wl_X13_step wf_X13_step false false c k = true) h (qj_X13_step_1122 nn l1 l2 l3 h) (fun r => r) := by
  unfold qj_X13_step_1122
  have F_h : ∀ c k : Nat, (fun c k => nw_F wl_X13_step wf_X13_step false false c k = true) c k → h c k = h c k := fun _ _ _ => rfl
  refine fm_ca F_h (ff_X13_jumps nn) (nw_sub rfl) ?_; intro u4 F_u4
  refine fm_if ?_ ?_
  · exact fm_tl F_u4 (fj_X13_step_1150 nn) (fun _ _ z => z)
  · refine fm_xl ?_; intro v5
    refine fm_pu ?_; intro u7
    refine fm_xl ?_; intro v8
    refine fm_xl ?_; intro v9
    refine fm_pu ?_; intro u11
    refine fm_xl ?_; intro v12
    refine fm_xl ?_; intro v13
    exact fm_tl F_u4 (fj_X13_step_1150 nn) (fun _ _ z => z)
set_option maxRecDepth 4000 in
theorem fj_X13_step_1111 (nn : Nat) {l2 : Int} {l3 : Int} {l4 : Int} {h : ms_M} : Fm_ (fun c k => nw_F wl_X13_step wf_X13_step false false c k = true) h (qj_X13_step_1111 nn l2 l3 l4 h) (fun r => r) := by
  unfold qj_X13_step_1111
  have F_h : ∀ c k : Nat, (fun c k => nw_F wl_X13_step wf_X13_step false false c k = true) c k → h c k = h c k := fun _ _ _ => rfl
  refine fm_ca F_h (ff_X13_is nn) (nw_sub rfl) ?_; intro u16 F_u16
  refine fm_if ?_ ?_
  · exact fm_tl F_u16 (fj_X13_step_1150 nn) (fun _ _ z => z)
  · exact fm_ret F_u16
set_option maxRecDepth 4000 in
theorem fj_X13_step_1077 (nn : Nat) {l2 : Int} {l4 : Int} {h : ms_M} : Fm_ (fun c k => nw_F wl_X13_step wf_X13_step false false c k = true) h (qj_X13_step_1077 nn l2 l4 h) (fun r => r) := by
  unfold qj_X13_step_1077
  have F_h : ∀ c k : Nat, (fun c k => nw_F wl_X13_step wf_X13_step false false c k = true) c k → h c k = h c k := fun _ _ _ => rfl
  refine fm_ca F_h (ff_X13_fresh_ nn) (nw_sub rfl) ?_; intro u19 F_u19
  exact fm_ret F_u19
set_option maxRecDepth 4000 in
theorem fj_X13_step_1064 (nn : Nat) {l3 : Int} {h : ms_M} : Fm_ (fun c k => nw_F wl_X13_step wf_X13_step false false c k = true) h (qj_X13_step_1064 nn l3 h) (fun r => r) := by
  unfold qj_X13_step_1064
  have F_h : ∀ c k : Nat, (fun c k => nw_F wl_X13_step wf_X13_step false false c k = true) c k → h c k = h c k := fun _ _ _ => rfl
  refine fm_xl ?_; intro v21
  refine fm_up F_h (nw_nf rfl) ?_; intro h22 F_h22
  exact fm_tl F_h22 (fj_X13_step_1150 nn) (fun _ _ z => z)
set_option maxRecDepth 4000 in
theorem fj_X13_step_1029 (nn : Nat) {l2 : Int} {l4 : Int} {h : ms_M} : Fm_ (fun c k => nw_F wl_X13_step wf_X13_step false false c k = true) h (qj_X13_step_1029 nn l2 l4 h) (fun r => r) := by
  unfold qj_X13_step_1029
  have F_h : ∀ c k : Nat, (fun c k => nw_F wl_X13_step wf_X13_step false false c k = true) c k → h c k = h c k := fun _ _ _ => rfl
  refine fm_ca F_h (ff_X13_call nn) (nw_sub rfl) ?_; intro u24 F_u24
  exact fm_ret F_u24
set_option maxRecDepth 4000 in
theorem fj_X13_step_1020 (nn : Nat) {l2 : Int} {l3 : Int} {l4 : Int} {h : ms_M} : Fm_ (fun c k => nw_F wl_X13_step wf_X13_step false false c k = true) h (qj_X13_step_1020 nn l2 l3 l4 h) (fun r => r) := by
  unfold qj_X13_step_1020
  have F_h : ∀ c k : Nat, (fun c k => nw_F wl_X13_step wf_X13_step false false c k = true) c k → h c k = h c k := fun _ _ _ => rfl
  refine fm_ca F_h (ff_X13_fieldOf nn) (nw_sub rfl) ?_; intro u26 F_u26
  exact fm_ret F_u26
set_option maxRecDepth 4000 in
theorem fj_X13_step_1014 (nn : Nat) {l2 : Int} {h : ms_M} : Fm_ (fun c k => nw_F wl_X13_step wf_X13_step false false c k = true) h (qj_X13_step_1014 nn l2 h) (fun r => r) := by
  unfold qj_X13_step_1014
  have F_h : ∀ c k : Nat, (fun c k => nw_F wl_X13_step wf_X13_step false false c k = true) c k → h c k = h c k := fun _ _ _ => rfl
  refine fm_ca F_h (ff_X13_back nn) (nw_sub rfl) ?_; intro u28 F_u28
  exact fm_ret F_u28
set_option maxRecDepth 4000 in
theorem fj_X13_step_999 (nn : Nat) {l2 : Int} {l3 : Int} {l5 : Int} {l6 : Int} {h : ms_M} : Fm_ (fun c k => nw_F wl_X13_step wf_X13_step false false c k = true) h (qj_X13_step_999 nn l2 l3 l5 l6 h) (fun r => r) := by
  unfold qj_X13_step_999
  have F_h : ∀ c k : Nat, (fun c k => nw_F wl_X13_step wf_X13_step false false c k = true) c k → h c k = h c k := fun _ _ _ => rfl
  refine fm_pu ?_; intro u29
  refine fm_ca F_h (ff_X13_give nn) (nw_sub rfl) ?_; intro u31 F_u31
  exact fm_tl F_u31 (fj_X13_step_1150 nn) (fun _ _ z => z)
set_option maxRecDepth 4000 in
theorem fj_X13_step_993 (nn : Nat) {h : ms_M} : Fm_ (fun c k => nw_F wl_X13_step wf_X13_step false false c k = true) h (qj_X13_step_993 nn h) (fun r => r) := by
  unfold qj_X13_step_993
  have F_h : ∀ c k : Nat, (fun c k => nw_F wl_X13_step wf_X13_step false false c k = true) c k → h c k = h c k := fun _ _ _ => rfl
  refine fm_ca F_h (ff_X13_fails nn) (nw_sub rfl) ?_; intro u33 F_u33
  exact fm_ret F_u33
set_option maxRecDepth 4000 in
theorem fj_X13_step_964 (nn : Nat) {l2 : Int} {l3 : Int} {h : ms_M} : Fm_ (fun c k => nw_F wl_X13_step wf_X13_step false false c k = true) h (qj_X13_step_964 nn l2 l3 h) (fun r => r) := by
  unfold qj_X13_step_964
  have F_h : ∀ c k : Nat, (fun c k => nw_F wl_X13_step wf_X13_step false false c k = true) c k → h c k = h c k := fun _ _ _ => rfl
  refine fm_ca F_h (ff_X13_drop nn) (nw_sub rfl) ?_; intro u35 F_u35
  refine fm_ca F_u35 (ff_X13_drop nn) (nw_sub rfl) ?_; intro u37 F_u37
  refine fm_if ?_ ?_
  · exact fm_tl F_u37 (fj_X13_step_999 nn) (fun _ _ z => z)
  · refine fm_if ?_ ?_
    · exact fm_tl F_u37 (fj_X13_step_993 nn) (fun _ _ z => z)
    · refine fm_if ?_ ?_
      · exact fm_tl F_u37 (fj_X13_step_999 nn) (fun _ _ z => z)
      · exact fm_tl F_u37 (fj_X13_step_993 nn) (fun _ _ z => z)
set_option maxRecDepth 4000 in
theorem fj_X13_step_958 (nn : Nat) {l2 : Int} {h : ms_M} : Fm_ (fun c k => nw_F wl_X13_step wf_X13_step false false c k = true) h (qj_X13_step_958 nn l2 h) (fun r => r) := by
  unfold qj_X13_step_958
  have F_h : ∀ c k : Nat, (fun c k => nw_F wl_X13_step wf_X13_step false false c k = true) c k → h c k = h c k := fun _ _ _ => rfl
  refine fm_ca F_h (ff_X13_element nn) (nw_sub rfl) ?_; intro u42 F_u42
  exact fm_ret F_u42
set_option maxRecDepth 4000 in
theorem fj_X13_step_889 (nn : Nat) {l3 : Int} {l4 : Int} {h : ms_M} : Fm_ (fun c k => nw_F wl_X13_step wf_X13_step false false c k = true) h (qj_X13_step_889 nn l3 l4 h) (fun r => r) := by
  unfold qj_X13_step_889
  have F_h : ∀ c k : Nat, (fun c k => nw_F wl_X13_step wf_X13_step false false c k = true) c k → h c k = h c k := fun _ _ _ => rfl
  refine fm_ca F_h (ff_X13_drop nn) (nw_sub rfl) ?_; intro u44 F_u44
  refine fm_xl ?_; intro v47
  refine fm_xl ?_; intro v48
  refine fm_xl ?_; intro v49
  refine fm_wA F_u44 (nw_ne rfl) ?_; intro h50 F_h50
  exact fm_tl F_h50 (fj_X13_step_1150 nn) (fun _ _ z => z)
set_option maxRecDepth 4000 in
theorem fj_X13_step_876 (nn : Nat) {l3 : Int} {l4 : Int} {h : ms_M} : Fm_ (fun c k => nw_F wl_X13_step wf_X13_step false false c k = true) h (qj_X13_step_876 nn l3 l4 h) (fun r => r) := by
  unfold qj_X13_step_876
  have F_h : ∀ c k : Nat, (fun c k => nw_F wl_X13_step wf_X13_step false false c k = true) c k → h c k = h c k := fun _ _ _ => rfl
  refine fm_pu ?_; intro u52
  refine fm_ca F_h (ff_X13_give nn) (nw_sub rfl) ?_; intro u54 F_u54
  exact fm_tl F_u54 (fj_X13_step_1150 nn) (fun _ _ z => z)
set_option maxRecDepth 4000 in
theorem fj_X13_step_843 (nn : Nat) {l2 : Int} {l3 : Int} {h : ms_M} : Fm_ (fun c k => nw_F wl_X13_step wf_X13_step false false c k = true) h (qj_X13_step_843 nn l2 l3 h) (fun r => r) := by
  unfold qj_X13_step_843
  have F_h : ∀ c k : Nat, (fun c k => nw_F wl_X13_step wf_X13_step false false c k = true) c k → h c k = h c k := fun _ _ _ => rfl
  refine fm_xl ?_; intro v55
  refine fm_ca F_h (ff_X13_give nn) (nw_sub rfl) ?_; intro u57 F_u57
  exact fm_tl F_u57 (fj_X13_step_1150 nn) (fun _ _ z => z)
set_option maxRecDepth 4000 in
theorem fj_X13_step_835 (nn : Nat) {l3 : Int} {h : ms_M} : Fm_ (fun c k => nw_F wl_X13_step wf_X13_step false false c k = true) h (qj_X13_step_835 nn l3 h) (fun r => r) := by
  unfold qj_X13_step_835
  have F_h : ∀ c k : Nat, (fun c k => nw_F wl_X13_step wf_X13_step false false c k = true) c k → h c k = h c k := fun _ _ _ => rfl
  refine fm_ca F_h (ff_X13_give nn) (nw_sub rfl) ?_; intro u59 F_u59
  exact fm_tl F_u59 (fj_X13_step_1150 nn) (fun _ _ z => z)
set_option maxRecDepth 4000 in
theorem fj_X13_step_39 (nn : Nat) {l1 : Int} {l2 : Int} {l3 : Int} {s0 : Int} {h : ms_M} : Fm_ (fun c k => nw_F wl_X13_step wf_X13_step false false c k = true) h (qj_X13_step_39 nn l1 l2 l3 s0 h) (fun r => r) := by
  unfold qj_X13_step_39
  have F_h : ∀ c k : Nat, (fun c k => nw_F wl_X13_step wf_X13_step false false c k = true) c k → h c k = h c k := fun _ _ _ => rfl
  refine fm_if ?_ ?_
  · exact fm_tl F_h (fj_X13_step_1150 nn) (fun _ _ z => z)
  · refine fm_if ?_ ?_
    · exact fm_tl F_h (fj_X13_step_835 nn) (fun _ _ z => z)
    · refine fm_if ?_ ?_
      · exact fm_tl F_h (fj_X13_step_843 nn) (fun _ _ z => z)
      · refine fm_if ?_ ?_
        · exact fm_tl F_h (fj_X13_step_835 nn) (fun _ _ z => z)
        · refine fm_if ?_ ?_
          · exact fm_tl F_h (fj_X13_step_843 nn) (fun _ _ z => z)
          · refine fm_if ?_ ?_
            · exact fm_tl F_h (fj_X13_step_843 nn) (fun _ _ z => z)
            · refine fm_if ?_ ?_
              · exact fm_tl F_h (fj_X13_step_843 nn) (fun _ _ z => z)
              · refine fm_if ?_ ?_
                · exact fm_tl F_h (fj_X13_step_843 nn) (fun _ _ z => z)
                · refine fm_if ?_ ?_
                  · exact fm_tl F_h (fj_X13_step_843 nn) (fun _ _ z => z)
                  · refine fm_if ?_ ?_
                    · refine fm_xl ?_; intro v60
                      refine fm_ca F_h (ff_X13_give nn) (nw_sub rfl) ?_; intro u62 F_u62
                      exact fm_tl F_u62 (fj_X13_step_1150 nn) (fun _ _ z => z)
                    · refine fm_if ?_ ?_
                      · refine fm_pu ?_; intro u64
                        refine fm_ca F_h (ff_X13_give nn) (nw_sub rfl) ?_; intro u66 F_u66
                        exact fm_tl F_u66 (fj_X13_step_1150 nn) (fun _ _ z => z)
                      · refine fm_if ?_ ?_
                        · exact fm_tl F_h (fj_X13_step_876 nn) (fun _ _ z => z)
                        · refine fm_if ?_ ?_
                          · exact fm_tl F_h (fj_X13_step_876 nn) (fun _ _ z => z)
                          · refine fm_if ?_ ?_
                            · exact fm_tl F_h (fj_X13_step_958 nn) (fun _ _ z => z)
                            · refine fm_if ?_ ?_
                              · exact fm_tl F_h (fj_X13_step_958 nn) (fun _ _ z => z)
                              · refine fm_if ?_ ?_
                                · exact fm_tl F_h (fj_X13_step_889 nn) (fun _ _ z => z)
                                · refine fm_if ?_ ?_
                                  · exact fm_tl F_h (fj_X13_step_889 nn) (fun _ _ z => z)
                                  · refine fm_if ?_ ?_
                                    · exact fm_tl F_h (fj_X13_step_958 nn) (fun _ _ z => z)
                                    · refine fm_if ?_ ?_
                                      · exact fm_tl F_h (fj_X13_step_958 nn) (fun _ _ z => z)
                                      · refine fm_if ?_ ?_
                                        · refine fm_ca F_h (ff_X13_drop nn) (nw_sub rfl) ?_; intro u68 F_u68
                                          exact fm_tl F_u68 (fj_X13_step_1150 nn) (fun _ _ z => z)
                                        · refine fm_if ?_ ?_
                                          · refine fm_ca F_h (ff_X13_drop nn) (nw_sub rfl) ?_; intro u70 F_u70
                                            refine fm_ca F_u70 (ff_X13_give nn) (nw_sub rfl) ?_; intro u72 F_u72
                                            refine fm_ca F_u72 (ff_X13_give nn) (nw_sub rfl) ?_; intro u74 F_u74
                                            exact fm_tl F_u74 (fj_X13_step_1150 nn) (fun _ _ z => z)
                                          · refine fm_if ?_ ?_
                                            · exact fm_tl F_h (fj_X13_step_964 nn) (fun _ _ z => z)
                                            · refine fm_if ?_ ?_
                                              · exact fm_tl F_h (fj_X13_step_964 nn) (fun _ _ z => z)
                                              · refine fm_if ?_ ?_
                                                · exact fm_tl F_h (fj_X13_step_964 nn) (fun _ _ z => z)
                                                · refine fm_if ?_ ?_
                                                  · exact fm_tl F_h (fj_X13_step_964 nn) (fun _ _ z => z)
                                                  · refine fm_if ?_ ?_
                                                    · exact fm_tl F_h (fj_X13_step_964 nn) (fun _ _ z => z)
                                                    · refine fm_if ?_ ?_
                                                      · refine fm_ca F_h (ff_X13_drop nn) (nw_sub rfl) ?_; intro u76 F_u76
                                                        refine fm_xl ?_; intro v77
                                                        refine fm_ca F_u76 (ff_X13_give nn) (nw_sub rfl) ?_; intro u79 F_u79
                                                        exact fm_tl F_u79 (fj_X13_step_1150 nn) (fun _ _ z => z)
                                                      · refine fm_if ?_ ?_
                                                        · exact fm_tl F_h (fj_X13_step_964 nn) (fun _ _ z => z)
                                                        · refine fm_if ?_ ?_
                                                          · exact fm_tl F_h (fj_X13_step_964 nn) (fun _ _ z => z)
                                                          · refine fm_if ?_ ?_
                                                            · exact fm_tl F_h (fj_X13_step_964 nn) (fun _ _ z => z)
                                                            · refine fm_if ?_ ?_
                                                              · exact fm_tl F_h (fj_X13_step_964 nn) (fun _ _ z => z)
                                                              · refine fm_if ?_ ?_
                                                                · exact fm_tl F_h (fj_X13_step_964 nn) (fun _ _ z => z)
                                                                · refine fm_if ?_ ?_
                                                                  · exact fm_tl F_h (fj_X13_step_964 nn) (fun _ _ z => z)
                                                                  · refine fm_if ?_ ?_
                                                                    · exact fm_tl F_h (fj_X13_step_1014 nn) (fun _ _ z => z)
                                                                    · refine fm_if ?_ ?_
                                                                      · exact fm_tl F_h (fj_X13_step_1014 nn) (fun _ _ z => z)
                                                                      · refine fm_if ?_ ?_
                                                                        · exact fm_tl F_h (fj_X13_step_1014 nn) (fun _ _ z => z)
                                                                        · refine fm_if ?_ ?_
                                                                          · exact fm_tl F_h (fj_X13_step_1020 nn) (fun _ _ z => z)
                                                                          · refine fm_if ?_ ?_
                                                                            · exact fm_tl F_h (fj_X13_step_1020 nn) (fun _ _ z => z)
                                                                            · refine fm_if ?_ ?_
                                                                              · exact fm_tl F_h (fj_X13_step_1029 nn) (fun _ _ z => z)
                                                                              · refine fm_if ?_ ?_
                                                                                · exact fm_tl F_h (fj_X13_step_1029 nn) (fun _ _ z => z)
                                                                                · refine fm_if ?_ ?_
                                                                                  · refine fm_ca F_h (ff_X13_drop nn) (nw_sub rfl) ?_; intro u81 F_u81
                                                                                    refine fm_if ?_ ?_
                                                                                    · exact fm_tl F_u81 (fj_X13_step_1064 nn) (fun _ _ z => z)
                                                                                    · refine fm_wA F_u81 (nw_ne rfl) ?_; intro h85 F_h85
                                                                                      exact fm_tl F_h85 (fj_X13_step_1064 nn) (fun _ _ z => z)
                                                                                  · refine fm_if ?_ ?_
                                                                                    · exact fm_tl F_h (fj_X13_step_1077 nn) (fun _ _ z => z)
                                                                                    · refine fm_if ?_ ?_
                                                                                      · exact fm_tl F_h (fj_X13_step_1077 nn) (fun _ _ z => z)
                                                                                      · refine fm_if ?_ ?_
                                                                                        · exact fm_tl F_h (fj_X13_step_1077 nn) (fun _ _ z => z)
                                                                                        · refine fm_if ?_ ?_
                                                                                          · exact fm_tl F_h (fj_X13_step_1020 nn) (fun _ _ z => z)
                                                                                          · refine fm_if ?_ ?_
                                                                                            · refine fm_ca F_h (ff_X13_drop nn) (nw_sub rfl) ?_; intro u88 F_u88
                                                                                              refine fm_if ?_ ?_
                                                                                              · refine fm_ca F_u88 (ff_X13_thrown nn) (nw_sub rfl) ?_; intro u90 F_u90
                                                                                                exact fm_ret F_u90
                                                                                              · refine fm_ca F_u88 (ff_X13_fails nn) (nw_sub rfl) ?_; intro u92 F_u92
                                                                                                exact fm_ret F_u92
                                                                                            · refine fm_if ?_ ?_
                                                                                              · exact fm_tl F_h (fj_X13_step_1111 nn) (fun _ _ z => z)
                                                                                              · refine fm_if ?_ ?_
                                                                                                · exact fm_tl F_h (fj_X13_step_1111 nn) (fun _ _ z => z)
                                                                                                · exact fm_tl F_h (fj_X13_step_1122 nn) (fun _ _ z => z)
