set_option maxRecDepth 4000 in
theorem ff_X13_step (nn : Nat) {h : ms_M} : Fm_ (fun c k => nw_F wl_X13_step wf_X13_step false false c k = true) h (qf_X13_step nn h) (fun r => r) := by
  unfold qf_X13_step
  have F_h : ∀ c k : Nat, (fun c k => nw_F wl_X13_step wf_X13_step false false c k = true) c k → h c k = h c k := fun _ _ _ => rfl
  refine fm_xl ?_; intro v96
  refine fm_rd ?_; intro v97
  refine fm_pu ?_; intro u99
  refine fm_pu ?_; intro u100
  refine fm_if ?_ ?_
  · exact fm_tl F_h (fj_X13_step_39 nn) (fun _ _ z => z)
  · refine fm_xl ?_; intro v101
    refine fm_pu ?_; intro u103
    exact fm_tl F_h (fj_X13_step_39 nn) (fun _ _ z => z)
set_option maxRecDepth 4000 in
theorem fj_X13_run_39 (nn : Nat) {l2 : Int} {h : ms_M} : Fm_ (fun c k => nw_F wl_X13_run wf_X13_run false false c k = true) h (qj_X13_run_39 nn l2 h) (fun r => r.2) := by
  unfold qj_X13_run_39
  have F_h : ∀ c k : Nat, (fun c k => nw_F wl_X13_run wf_X13_run false false c k = true) c k → h c k = h c k := fun _ _ _ => rfl
  refine fm_xl ?_; intro v2
  refine fm_up F_h (nw_nf rfl) ?_; intro h3 F_h3
  exact fm_ret F_h3
set_option maxRecDepth 4000 in
theorem fw_X13_run_16 (nn : Nat) : ∀ (k : Nat) {l1 : Int} {l2 : Int} {h : ms_M}, Fm_ (fun c k => nw_F wl_X13_run wf_X13_run false false c k = true) h (qw_X13_run_16 nn k l1 l2 h) (fun r => r.2) := by
  intro k
  induction k with
  | zero => intros; exact fm_no
  | succ k ih =>
    intro l1 l2 h
    unfold qw_X13_run_16
    have F_h : ∀ c k : Nat, (fun c k => nw_F wl_X13_run wf_X13_run false false c k = true) c k → h c k = h c k := fun _ _ _ => rfl
    refine fm_if ?_ ?_
    · exact fm_tl F_h (fj_X13_run_39 nn) (fun _ _ z => z)
    · refine fm_if ?_ ?_
      · exact fm_tl F_h (fj_X13_run_39 nn) (fun _ _ z => z)
      · refine fm_ca F_h (ff_X13_step nn) (nw_sub rfl) ?_; intro u6 F_u6
        refine fm_xl ?_; intro v7
        exact fm_tl F_u6 (ih ) (fun _ _ z => z)
set_option maxRecDepth 4000 in
theorem ff_X13_run (nn : Nat) {a1 : Int} {h : ms_M} : Fm_ (fun c k => nw_F wl_X13_run wf_X13_run false false c k = true) h (qf_X13_run nn a1 h) (fun r => r.2) := by
  unfold qf_X13_run
  have F_h : ∀ c k : Nat, (fun c k => nw_F wl_X13_run wf_X13_run false false c k = true) c k → h c k = h c k := fun _ _ _ => rfl
  refine fm_if ?_ ?_
  · exact fm_ret F_h
  · refine fm_if ?_ ?_
    · exact fm_tl F_h (fw_X13_run_16 nn _) (fun _ _ z => z)
    · exact fm_ret F_h
set_option maxRecDepth 4000 in
theorem fj_X13_start_133 (nn : Nat) {l1 : Int} {l2 : Int} {h : ms_M} : Fm_ (fun c k => nw_F wl_X13_start wf_X13_start false false c k = true) h (qj_X13_start_133 nn l1 l2 h) (fun r => r.2) := by
  unfold qj_X13_start_133
  have F_h : ∀ c k : Nat, (fun c k => nw_F wl_X13_start wf_X13_start false false c k = true) c k → h c k = h c k := fun _ _ _ => rfl
  refine fm_up F_h (nw_nf rfl) ?_; intro h1 F_h1
  refine fm_ca F_h1 (ff_X13_enter nn) (nw_sub rfl) ?_; intro u3 F_u3
  exact fm_ret F_u3
set_option maxRecDepth 4000 in
theorem ff_X13_start (nn : Nat) {a1 : Int} {a2 : Int} {h : ms_M} : Fm_ (fun c k => nw_F wl_X13_start wf_X13_start false false c k = true) h (qf_X13_start nn a1 a2 h) (fun r => r.2) := by
  unfold qf_X13_start
  have F_h : ∀ c k : Nat, (fun c k => nw_F wl_X13_start wf_X13_start false false c k = true) c k → h c k = h c k := fun _ _ _ => rfl
  refine fm_xl ?_; intro v4
  refine fm_if ?_ ?_
  · exact fm_ret F_h
  · refine fm_if ?_ ?_
    · exact fm_ret F_h
    · refine fm_if ?_ ?_
      · exact fm_ret F_h
      · refine fm_if ?_ ?_
        · exact fm_ret F_h
        · refine fm_rd ?_; intro v8
          refine fm_if ?_ ?_
          · refine fm_xl ?_; intro v9
            refine fm_xl ?_; intro v11
            refine fm_pu ?_; intro u13
            refine fm_xl ?_; intro v14
            refine fm_rd ?_; intro v15
            refine fm_xl ?_; intro v16
            refine fm_xl ?_; intro v17
            refine fm_xl ?_; intro v19
            refine fm_xl ?_; intro v20
            refine fm_rd ?_; intro v21
            refine fm_pu ?_; intro u23
            refine fm_if ?_ ?_
            · exact fm_ret F_h
            · refine fm_xl ?_; intro v25
              refine fm_rd ?_; intro v26
              refine fm_if ?_ ?_
              · refine fm_up F_h (nw_nf rfl) ?_; intro h27 F_h27
                refine fm_up F_h27 (nw_nf rfl) ?_; intro h28 F_h28
                refine fm_up F_h28 (nw_nf rfl) ?_; intro h29 F_h29
                refine fm_up F_h29 (nw_nf rfl) ?_; intro h30 F_h30
                refine fm_up F_h30 (nw_nf rfl) ?_; intro h31 F_h31
                refine fm_up F_h31 (nw_nf rfl) ?_; intro h32 F_h32
                exact fm_tl F_h32 (fj_X13_start_133 nn) (fun _ _ z => z)
              · exact fm_ret F_h
          · exact fm_ret F_h
set_option maxRecDepth 4000 in
theorem ff_X13_bad (nn : Nat) {a1 : Int} {a2 : Int} {a3 : Int} {a4 : Int} {h : ms_M} : Fm_ (fun c k => nw_F wl_X13_bad wf_X13_bad false false c k = true) h (qf_X13_bad nn a1 a2 a3 a4 h) (fun r => r.2) := by
  unfold qf_X13_bad
  have F_h : ∀ c k : Nat, (fun c k => nw_F wl_X13_bad wf_X13_bad false false c k = true) c k → h c k = h c k := fun _ _ _ => rfl
  refine fm_up F_h (nw_nf rfl) ?_; intro h1 F_h1
  refine fm_up F_h1 (nw_nf rfl) ?_; intro h2 F_h2
  refine fm_up F_h2 (nw_nf rfl) ?_; intro h3 F_h3
  refine fm_up F_h3 (nw_nf rfl) ?_; intro h4 F_h4
  exact fm_ret F_h4
set_option maxRecDepth 4000 in
theorem fj_X13_nameNumber_102 (nn : Nat) {qkk_21 : Int → Int → Int → ms_M → Option (Int × ms_M)} (hk_kk_21 : ∀ {l1 : Int} {l2 : Int} {l4 : Int} {h : ms_M}, Fm_ (fun c k => nw_F wl_X13_nameNumber wf_X13_nameNumber false false c k = true) h (qkk_21 l1 l2 l4 h) (fun r => r.2)) {l1 : Int} {l2 : Int} {l4 : Int} {l5 : Int} {h : ms_M} : Fm_ (fun c k => nw_F wl_X13_nameNumber wf_X13_nameNumber false false c k = true) h (qj_X13_nameNumber_102 nn qkk_21 l1 l2 l4 l5 h) (fun r => r.2) := by
  unfold qj_X13_nameNumber_102
  have F_h : ∀ c k : Nat, (fun c k => nw_F wl_X13_nameNumber wf_X13_nameNumber false false c k = true) c k → h c k = h c k := fun _ _ _ => rfl
  refine fm_if ?_ ?_
  · refine fm_xl ?_; intro v1
    exact fm_tl F_h (hk_kk_21) (fun _ _ z => z)
  · refine fm_xl ?_; intro v2
    exact fm_ret F_h
set_option maxRecDepth 4000 in
theorem fw_X13_nameNumber_51 (nn : Nat) {qkk_21 : Int → Int → Int → ms_M → Option (Int × ms_M)} (hk_kk_21 : ∀ {l1 : Int} {l2 : Int} {l4 : Int} {h : ms_M}, Fm_ (fun c k => nw_F wl_X13_nameNumber wf_X13_nameNumber false false c k = true) h (qkk_21 l1 l2 l4 h) (fun r => r.2)) : ∀ (k : Nat) {l1 : Int} {l2 : Int} {l4 : Int} {l5 : Int} {l6 : Int} {h : ms_M}, Fm_ (fun c k => nw_F wl_X13_nameNumber wf_X13_nameNumber false false c k = true) h (qw_X13_nameNumber_51 nn qkk_21 k l1 l2 l4 l5 l6 h) (fun r => r.2) := by
  intro k
  induction k with
  | zero => intros; exact fm_no
  | succ k ih =>
    intro l1 l2 l4 l5 l6 h
    unfold qw_X13_nameNumber_51
    have F_h : ∀ c k : Nat, (fun c k => nw_F wl_X13_nameNumber wf_X13_nameNumber false false c k = true) c k → h c k = h c k := fun _ _ _ => rfl
    refine fm_if ?_ ?_
    · exact fm_tl F_h (fj_X13_nameNumber_102 nn hk_kk_21) (fun _ _ z => z)
    · refine fm_if ?_ ?_
      · exact fm_tl F_h (fj_X13_nameNumber_102 nn hk_kk_21) (fun _ _ z => z)
      · refine fm_rd ?_; intro v6
        refine fm_xl ?_; intro v7
        refine fm_rd ?_; intro v8
        refine fm_xl ?_; intro v10
        refine fm_rd ?_; intro v11
        refine fm_if ?_ ?_
        · refine fm_xl ?_; intro v12
          exact fm_tl F_h (ih ) (fun _ _ z => z)
        · refine fm_xl ?_; intro v13
          exact fm_tl F_h (ih ) (fun _ _ z => z)
set_option maxRecDepth 4000 in
theorem fw_X13_nameNumber_21 (nn : Nat) : ∀ (k : Nat) {l1 : Int} {l2 : Int} {l4 : Int} {h : ms_M}, Fm_ (fun c k => nw_F wl_X13_nameNumber wf_X13_nameNumber false false c k = true) h (qw_X13_nameNumber_21 nn k l1 l2 l4 h) (fun r => r.2) := by
  intro k
  induction k with
  | zero => intros; exact fm_no
  | succ k ih =>
    intro l1 l2 l4 h
    unfold qw_X13_nameNumber_21
    have F_h : ∀ c k : Nat, (fun c k => nw_F wl_X13_nameNumber wf_X13_nameNumber false false c k = true) c k → h c k = h c k := fun _ _ _ => rfl
    refine fm_if ?_ ?_
    · refine fm_wA F_h (nw_ne rfl) ?_; intro h20 F_h20
      refine fm_wA F_h20 (nw_ne rfl) ?_; intro h23 F_h23
      refine fm_xl ?_; intro v25
      refine fm_up F_h23 (nw_nf rfl) ?_; intro h26 F_h26
      refine fm_xl ?_; intro v28
      refine fm_xl ?_; intro v29
      exact fm_ret F_h26
    · refine fm_rd ?_; intro v31
      refine fm_if ?_ ?_
      · exact fm_tl F_h (fw_X13_nameNumber_51 nn ih _) (fun _ _ z => z)
      · exact fm_tl F_h (fw_X13_nameNumber_51 nn ih _) (fun _ _ z => z)
set_option maxRecDepth 4000 in
theorem ff_X13_nameNumber (nn : Nat) {a1 : Int} {a2 : Int} {h : ms_M} : Fm_ (fun c k => nw_F wl_X13_nameNumber wf_X13_nameNumber false false c k = true) h (qf_X13_nameNumber nn a1 a2 h) (fun r => r.2) := by
  unfold qf_X13_nameNumber
  have F_h : ∀ c k : Nat, (fun c k => nw_F wl_X13_nameNumber wf_X13_nameNumber false false c k = true) c k → h c k = h c k := fun _ _ _ => rfl
  refine fm_pu ?_; intro u36
  refine fm_if ?_ ?_
  · exact fm_tl F_h (fw_X13_nameNumber_21 nn _) (fun _ _ z => z)
  · exact fm_ret F_h
set_option maxRecDepth 4000 in
theorem fw_X13_typeAt_75 (nn : Nat) : ∀ (k : Nat) {l2 : Int} {l3 : Int} {l4 : Int} {h : ms_M}, Fm_ (fun c k => nw_F wl_X13_typeAt wf_X13_typeAt false false c k = true) h (qw_X13_typeAt_75 nn k l2 l3 l4 h) (fun r => r.2) := by
  intro k
  induction k with
  | zero => intros; exact fm_no
  | succ k ih =>
    intro l2 l3 l4 h
    unfold qw_X13_typeAt_75
    have F_h : ∀ c k : Nat, (fun c k => nw_F wl_X13_typeAt wf_X13_typeAt false false c k = true) c k → h c k = h c k := fun _ _ _ => rfl
    refine fm_rd ?_; intro v2
    refine fm_if ?_ ?_
    · refine fm_xl ?_; intro v3
      refine fm_up F_h (nw_nf rfl) ?_; intro h4 F_h4
      refine fm_xl ?_; intro v5
      refine fm_xl ?_; intro v6
      refine fm_xl ?_; intro v7
      refine fm_ca F_h4 (ff_X13_nameNumber nn) (nw_sub rfl) ?_; intro u9 F_u9
      refine fm_xl ?_; intro v10
      refine fm_xl ?_; intro v11
      refine fm_if ?_ ?_
      · refine fm_xl ?_; intro v12
        exact fm_ret F_u9
      · refine fm_xl ?_; intro v13
        exact fm_ret F_u9
    · refine fm_xl ?_; intro v15
      exact fm_tl F_h (ih ) (fun _ _ z => z)
set_option maxRecDepth 4000 in
theorem fj_X13_typeAt_49 (nn : Nat) {l2 : Int} {s0 : Int} {h : ms_M} : Fm_ (fun c k => nw_F wl_X13_typeAt wf_X13_typeAt false false c k = true) h (qj_X13_typeAt_49 nn l2 s0 h) (fun r => r.2) := by
  unfold qj_X13_typeAt_49
  have F_h : ∀ c k : Nat, (fun c k => nw_F wl_X13_typeAt wf_X13_typeAt false false c k = true) c k → h c k = h c k := fun _ _ _ => rfl
  refine fm_rd ?_; intro v18
  refine fm_if ?_ ?_
  · refine fm_xl ?_; intro v19
    exact fm_tl F_h (fw_X13_typeAt_75 nn _) (fun _ _ z => z)
  · refine fm_xl ?_; intro v20
    refine fm_up F_h (nw_nf rfl) ?_; intro h21 F_h21
    exact fm_ret F_h21
set_option maxRecDepth 4000 in
theorem ff_X13_typeAt (nn : Nat) {a1 : Int} {h : ms_M} : Fm_ (fun c k => nw_F wl_X13_typeAt wf_X13_typeAt false false c k = true) h (qf_X13_typeAt nn a1 h) (fun r => r.2) := by
  unfold qf_X13_typeAt
  have F_h : ∀ c k : Nat, (fun c k => nw_F wl_X13_typeAt wf_X13_typeAt false false c k = true) c k → h c k = h c k := fun _ _ _ => rfl
  refine fm_rd ?_; intro v24
  refine fm_xl ?_; intro v25
  refine fm_up F_h (nw_nf rfl) ?_; intro h26 F_h26
  refine fm_if ?_ ?_
  · exact fm_ret F_h26
  · refine fm_if ?_ ?_
    · refine fm_if ?_ ?_
      · refine fm_if ?_ ?_
        · exact fm_tl F_h26 (fj_X13_typeAt_49 nn) (fun _ _ z => z)
        · refine fm_xl ?_; intro v27
          exact fm_tl F_h26 (fj_X13_typeAt_49 nn) (fun _ _ z => z)
      · exact fm_ret F_h26
    · exact fm_ret F_h26
set_option maxRecDepth 4000 in
theorem ff_X13_kindType (nn : Nat) {a1 : Int} {a2 : Int} {h : ms_M} : Fm_ (fun c k => nw_F wl_X13_kindType wf_X13_kindType false false c k = true) h (qf_X13_kindType nn a1 a2 h) (fun r => r.2) := by
  unfold qf_X13_kindType
  have F_h : ∀ c k : Nat, (fun c k => nw_F wl_X13_kindType wf_X13_kindType false false c k = true) c k → h c k = h c k := fun _ _ _ => rfl
  refine fm_xl ?_; intro v1
  refine fm_xl ?_; intro v3
  refine fm_xl ?_; intro v4
  refine fm_rd ?_; intro v5
  refine fm_xl ?_; intro v6
  refine fm_xl ?_; intro v7
  refine fm_ca F_h (ff_X13_typeAt nn) (nw_sub rfl) ?_; intro u9 F_u9
  exact fm_ret F_u9
set_option maxRecDepth 4000 in
theorem fj_X13_kindsAreThere_141 (nn : Nat) {qkk_42 : Int → Int → Int → ms_M → Option (Int × ms_M)} (hk_kk_42 : ∀ {l1 : Int} {l2 : Int} {l3 : Int} {h : ms_M}, Fm_ (fun c k => nw_F wl_X13_kindsAreThere wf_X13_kindsAreThere false false c k = true) h (qkk_42 l1 l2 l3 h) (fun r => r.2)) {l1 : Int} {l3 : Int} {h : ms_M} : Fm_ (fun c k => nw_F wl_X13_kindsAreThere wf_X13_kindsAreThere false false c k = true) h (qj_X13_kindsAreThere_141 nn qkk_42 l1 l3 h) (fun r => r.2) := by
  unfold qj_X13_kindsAreThere_141
  have F_h : ∀ c k : Nat, (fun c k => nw_F wl_X13_kindsAreThere wf_X13_kindsAreThere false false c k = true) c k → h c k = h c k := fun _ _ _ => rfl
  refine fm_xl ?_; intro v1
  exact fm_tl F_h (hk_kk_42) (fun _ _ z => z)
set_option maxRecDepth 4000 in
theorem fj_X13_kindsAreThere_119 (nn : Nat) {qkk_42 : Int → Int → Int → ms_M → Option (Int × ms_M)} (hk_kk_42 : ∀ {l1 : Int} {l2 : Int} {l3 : Int} {h : ms_M}, Fm_ (fun c k => nw_F wl_X13_kindsAreThere wf_X13_kindsAreThere false false c k = true) h (qkk_42 l1 l2 l3 h) (fun r => r.2)) {l1 : Int} {l2 : Int} {l3 : Int} {l4 : Int} {h : ms_M} : Fm_ (fun c k => nw_F wl_X13_kindsAreThere wf_X13_kindsAreThere false false c k = true) h (qj_X13_kindsAreThere_119 nn qkk_42 l1 l2 l3 l4 h) (fun r => r.2) := by
  unfold qj_X13_kindsAreThere_119
  have F_h : ∀ c k : Nat, (fun c k => nw_F wl_X13_kindsAreThere wf_X13_kindsAreThere false false c k = true) c k → h c k = h c k := fun _ _ _ => rfl
  refine fm_if ?_ ?_
  · exact fm_tl F_h (fj_X13_kindsAreThere_141 nn hk_kk_42) (fun _ _ z => z)
  · refine fm_xl ?_; intro v2
    refine fm_ca F_h (ff_X13_typeAt nn) (nw_sub rfl) ?_; intro u4 F_u4
    refine fm_pu ?_; intro u5
    refine fm_if ?_ ?_
    · exact fm_tl F_u4 (fj_X13_kindsAreThere_141 nn hk_kk_42) (fun _ _ z => z)
    · refine fm_xl ?_; intro v6
      exact fm_tl F_u4 (hk_kk_42) (fun _ _ z => z)
set_option maxRecDepth 4000 in
theorem fw_X13_kindsAreThere_84 (nn : Nat) {qkk_42 : Int → Int → Int → ms_M → Option (Int × ms_M)} (hk_kk_42 : ∀ {l1 : Int} {l2 : Int} {l3 : Int} {h : ms_M}, Fm_ (fun c k => nw_F wl_X13_kindsAreThere wf_X13_kindsAreThere false false c k = true) h (qkk_42 l1 l2 l3 h) (fun r => r.2)) : ∀ (k : Nat) {l1 : Int} {l2 : Int} {l3 : Int} {l4 : Int} {h : ms_M}, Fm_ (fun c k => nw_F wl_X13_kindsAreThere wf_X13_kindsAreThere false false c k = true) h (qw_X13_kindsAreThere_84 nn qkk_42 k l1 l2 l3 l4 h) (fun r => r.2) := by
  intro k
  induction k with
  | zero => intros; exact fm_no
  | succ k ih =>
    intro l1 l2 l3 l4 h
    unfold qw_X13_kindsAreThere_84
    have F_h : ∀ c k : Nat, (fun c k => nw_F wl_X13_kindsAreThere wf_X13_kindsAreThere false false c k = true) c k → h c k = h c k := fun _ _ _ => rfl
    refine fm_rd ?_; intro v10
    refine fm_if ?_ ?_
    · exact fm_tl F_h (fj_X13_kindsAreThere_119 nn hk_kk_42) (fun _ _ z => z)
    · refine fm_if ?_ ?_
      · exact fm_tl F_h (fj_X13_kindsAreThere_119 nn hk_kk_42) (fun _ _ z => z)
      · refine fm_ca F_h (ff_X13_typeAt nn) (nw_sub rfl) ?_; intro u12 F_u12
        refine fm_pu ?_; intro u13
        exact fm_tl F_u12 (ih ) (fun _ _ z => z)
set_option maxRecDepth 4000 in
theorem fw_X13_kindsAreThere_42 (nn : Nat) : ∀ (k : Nat) {l1 : Int} {l2 : Int} {l3 : Int} {h : ms_M}, Fm_ (fun c k => nw_F wl_X13_kindsAreThere wf_X13_kindsAreThere false false c k = true) h (qw_X13_kindsAreThere_42 nn k l1 l2 l3 h) (fun r => r.2) := by
  intro k
  induction k with
  | zero => intros; exact fm_no
  | succ k ih =>
    intro l1 l2 l3 h
    unfold qw_X13_kindsAreThere_42
    have F_h : ∀ c k : Nat, (fun c k => nw_F wl_X13_kindsAreThere wf_X13_kindsAreThere false false c k = true) c k → h c k = h c k := fun _ _ _ => rfl
    refine fm_rd ?_; intro v18
    refine fm_if ?_ ?_
    · refine fm_ck ?_; intro _
      exact fm_ret F_h
    · refine fm_if ?_ ?_
      · refine fm_ck ?_; intro _
        exact fm_ret F_h
      · refine fm_xl ?_; intro v21
        refine fm_xl ?_; intro v23
        refine fm_pu ?_; intro u25
        refine fm_xl ?_; intro v26
        refine fm_rd ?_; intro v27
        refine fm_xl ?_; intro v28
        refine fm_xl ?_; intro v29
        exact fm_tl F_h (fw_X13_kindsAreThere_84 nn ih _) (fun _ _ z => z)
set_option maxRecDepth 4000 in
theorem fw_X13_kindsAreThere_4 (nn : Nat) : ∀ (k : Nat) {l1 : Int} {l2 : Int} {l3 : Int} {h : ms_M}, Fm_ (fun c k => nw_F wl_X13_kindsAreThere wf_X13_kindsAreThere false false c k = true) h (qw_X13_kindsAreThere_4 nn k l1 l2 l3 h) (fun r => r.2) := by
  intro k
  induction k with
  | zero => intros; exact fm_no
  | succ k ih =>
    intro l1 l2 l3 h
    unfold qw_X13_kindsAreThere_4
    have F_h : ∀ c k : Nat, (fun c k => nw_F wl_X13_kindsAreThere wf_X13_kindsAreThere false false c k = true) c k → h c k = h c k := fun _ _ _ => rfl
    refine fm_rd ?_; intro v33
    refine fm_if ?_ ?_
    · exact fm_tl F_h (fw_X13_kindsAreThere_42 nn _) (fun _ _ z => z)
    · refine fm_if ?_ ?_
      · exact fm_tl F_h (fw_X13_kindsAreThere_42 nn _) (fun _ _ z => z)
      · refine fm_pu ?_; intro u35
        refine fm_ca F_h (ff_X13_kindType nn) (nw_sub rfl) ?_; intro u37 F_u37
        refine fm_pu ?_; intro u38
        refine fm_xl ?_; intro v39
        exact fm_tl F_u37 (ih ) (fun _ _ z => z)
set_option maxRecDepth 4000 in
theorem ff_X13_kindsAreThere (nn : Nat) {a1 : Int} {h : ms_M} : Fm_ (fun c k => nw_F wl_X13_kindsAreThere wf_X13_kindsAreThere false false c k = true) h (qf_X13_kindsAreThere nn a1 h) (fun r => r.2) := by
  unfold qf_X13_kindsAreThere
  have F_h : ∀ c k : Nat, (fun c k => nw_F wl_X13_kindsAreThere wf_X13_kindsAreThere false false c k = true) c k → h c k = h c k := fun _ _ _ => rfl
  exact fm_tl F_h (fw_X13_kindsAreThere_4 nn _) (fun _ _ z => z)
set_option maxRecDepth 4000 in
theorem fj_X13_classFits_331 (nn : Nat) {l1 : Int} {h : ms_M} : Fm_ (fun c k => nw_F wl_X13_classFits wf_X13_classFits false false c k = true) h (qj_X13_classFits_331 nn l1 h) (fun r => r.2) := by
  unfold qj_X13_classFits_331
  have F_h : ∀ c k : Nat, (fun c k => nw_F wl_X13_classFits wf_X13_classFits false false c k = true) c k → h c k = h c k := fun _ _ _ => rfl
  refine fm_ca F_h (ff_X13_bad nn) (nw_sub rfl) ?_; intro u2 F_u2
  refine fm_ck ?_; intro _
  exact fm_ret F_u2
set_option maxRecDepth 4000 in
theorem fw_X13_classFits_204 (nn : Nat) : ∀ (k : Nat) {l1 : Int} {l2 : Int} {l4 : Int} {h : ms_M}, Fm_ (fun c k => nw_F wl_X13_classFits wf_X13_classFits false false c k = true) h (qw_X13_classFits_204 nn k l1 l2 l4 h) (fun r => r.2) := by
  intro k
  induction k with
  | zero => intros; exact fm_no
  | succ k ih =>
    intro l1 l2 l4 h
    unfold qw_X13_classFits_204
    have F_h : ∀ c k : Nat, (fun c k => nw_F wl_X13_classFits wf_X13_classFits false false c k = true) c k → h c k = h c k := fun _ _ _ => rfl
    refine fm_rd ?_; intro v5
    refine fm_if ?_ ?_
    · exact fm_ret F_h
    · refine fm_pu ?_; intro u7
      refine fm_pu ?_; intro u9
      refine fm_ca F_h (ff_X13_holder nn) (nw_sub rfl) ?_; intro u11 F_u11
      refine fm_if ?_ ?_
      · refine fm_xl ?_; intro v12
        refine fm_pu ?_; intro u15
        refine fm_pu ?_; intro u17
        refine fm_pu ?_; intro u19
        refine fm_if ?_ ?_
        · exact fm_tl F_u11 (fj_X13_classFits_331 nn) (fun _ _ z => z)
        · refine fm_xl ?_; intro v21
          refine fm_xl ?_; intro v23
          refine fm_rd ?_; intro v24
          refine fm_pu ?_; intro u26
          refine fm_if ?_ ?_
          · exact fm_tl F_u11 (fj_X13_classFits_331 nn) (fun _ _ z => z)
          · refine fm_xl ?_; intro v28
            refine fm_xl ?_; intro v29
            refine fm_rd ?_; intro v30
            refine fm_pu ?_; intro u32
            refine fm_if ?_ ?_
            · refine fm_xl ?_; intro v33
              exact fm_tl F_u11 (ih ) (fun _ _ z => z)
            · exact fm_tl F_u11 (fj_X13_classFits_331 nn) (fun _ _ z => z)
      · refine fm_xl ?_; intro v37
        exact fm_tl F_u11 (ih ) (fun _ _ z => z)
set_option maxRecDepth 4000 in
theorem fj_X13_classFits_165 (nn : Nat) {qkk_77 : Int → Int → Int → ms_M → Option (Int × ms_M)} (hk_kk_77 : ∀ {l1 : Int} {l2 : Int} {l4 : Int} {h : ms_M}, Fm_ (fun c k => nw_F wl_X13_classFits wf_X13_classFits false false c k = true) h (qkk_77 l1 l2 l4 h) (fun r => r.2)) {qkk_109 : Int → Int → Int → Int → Int → ms_M → Option (Int × ms_M)} (hk_kk_109 : ∀ {l1 : Int} {l2 : Int} {l4 : Int} {l5 : Int} {l6 : Int} {h : ms_M}, Fm_ (fun c k => nw_F wl_X13_classFits wf_X13_classFits false false c k = true) h (qkk_109 l1 l2 l4 l5 l6 h) (fun r => r.2)) {qkk_122 : Int → Int → Int → Int → Int → Int → ms_M → Option (Int × ms_M)} (hk_kk_122 : ∀ {l1 : Int} {l2 : Int} {l4 : Int} {l5 : Int} {l6 : Int} {l7 : Int} {h : ms_M}, Fm_ (fun c k => nw_F wl_X13_classFits wf_X13_classFits false false c k = true) h (qkk_122 l1 l2 l4 l5 l6 l7 h) (fun r => r.2)) {l1 : Int} {l2 : Int} {l4 : Int} {l5 : Int} {l6 : Int} {l7 : Int} {s0 : Int} {s1 : Int} {s2 : Int} {s4 : Int} {s5 : Int} {s6 : Int} {h : ms_M} : Fm_ (fun c k => nw_F wl_X13_classFits wf_X13_classFits false false c k = true) h (qj_X13_classFits_165 nn qkk_77 qkk_109 qkk_122 l1 l2 l4 l5 l6 l7 s0 s1 s2 s4 s5 s6 h) (fun r => r.2) := by
  unfold qj_X13_classFits_165
  have F_h : ∀ c k : Nat, (fun c k => nw_F wl_X13_classFits wf_X13_classFits false false c k = true) c k → h c k = h c k := fun _ _ _ => rfl
  refine fm_pu ?_; intro u41
  refine fm_pu ?_; intro u43
  refine fm_if ?_ ?_
  · refine fm_xl ?_; intro v44
    exact fm_tl F_h (hk_kk_122) (fun _ _ z => z)
  · refine fm_ca F_h (ff_X13_bad nn) (nw_sub rfl) ?_; intro u46 F_u46
    refine fm_ck ?_; intro _
    exact fm_ret F_u46
set_option maxRecDepth 4000 in
theorem fj_X13_classFits_146 (nn : Nat) {qkk_77 : Int → Int → Int → ms_M → Option (Int × ms_M)} (hk_kk_77 : ∀ {l1 : Int} {l2 : Int} {l4 : Int} {h : ms_M}, Fm_ (fun c k => nw_F wl_X13_classFits wf_X13_classFits false false c k = true) h (qkk_77 l1 l2 l4 h) (fun r => r.2)) {qkk_109 : Int → Int → Int → Int → Int → ms_M → Option (Int × ms_M)} (hk_kk_109 : ∀ {l1 : Int} {l2 : Int} {l4 : Int} {l5 : Int} {l6 : Int} {h : ms_M}, Fm_ (fun c k => nw_F wl_X13_classFits wf_X13_classFits false false c k = true) h (qkk_109 l1 l2 l4 l5 l6 h) (fun r => r.2)) {qkk_122 : Int → Int → Int → Int → Int → Int → ms_M → Option (Int × ms_M)} (hk_kk_122 : ∀ {l1 : Int} {l2 : Int} {l4 : Int} {l5 : Int} {l6 : Int} {l7 : Int} {h : ms_M}, Fm_ (fun c k => nw_F wl_X13_classFits wf_X13_classFits false false c k = true) h (qkk_122 l1 l2 l4 l5 l6 l7 h) (fun r => r.2)) {l1 : Int} {l2 : Int} {l4 : Int} {l5 : Int} {l6 : Int} {l7 : Int} {s0 : Int} {s1 : Int} {s2 : Int} {s4 : Int} {h : ms_M} : Fm_ (fun c k => nw_F wl_X13_classFits wf_X13_classFits false false c k = true) h (qj_X13_classFits_146 nn qkk_77 qkk_109 qkk_122 l1 l2 l4 l5 l6 l7 s0 s1 s2 s4 h) (fun r => r.2) := by
  unfold qj_X13_classFits_146
  have F_h : ∀ c k : Nat, (fun c k => nw_F wl_X13_classFits wf_X13_classFits false false c k = true) c k → h c k = h c k := fun _ _ _ => rfl
  refine fm_pu ?_; intro u50
  refine fm_if ?_ ?_
  · exact fm_tl F_h (fj_X13_classFits_165 nn hk_kk_77 hk_kk_109 hk_kk_122) (fun _ _ z => z)
  · exact fm_tl F_h (fj_X13_classFits_165 nn hk_kk_77 hk_kk_109 hk_kk_122) (fun _ _ z => z)
set_option maxRecDepth 4000 in
theorem fw_X13_classFits_122 (nn : Nat) {qkk_77 : Int → Int → Int → ms_M → Option (Int × ms_M)} (hk_kk_77 : ∀ {l1 : Int} {l2 : Int} {l4 : Int} {h : ms_M}, Fm_ (fun c k => nw_F wl_X13_classFits wf_X13_classFits false false c k = true) h (qkk_77 l1 l2 l4 h) (fun r => r.2)) {qkk_109 : Int → Int → Int → Int → Int → ms_M → Option (Int × ms_M)} (hk_kk_109 : ∀ {l1 : Int} {l2 : Int} {l4 : Int} {l5 : Int} {l6 : Int} {h : ms_M}, Fm_ (fun c k => nw_F wl_X13_classFits wf_X13_classFits false false c k = true) h (qkk_109 l1 l2 l4 l5 l6 h) (fun r => r.2)) : ∀ (k : Nat) {l1 : Int} {l2 : Int} {l4 : Int} {l5 : Int} {l6 : Int} {l7 : Int} {h : ms_M}, Fm_ (fun c k => nw_F wl_X13_classFits wf_X13_classFits false false c k = true) h (qw_X13_classFits_122 nn qkk_77 qkk_109 k l1 l2 l4 l5 l6 l7 h) (fun r => r.2) := by
  intro k
  induction k with
  | zero => intros; exact fm_no
  | succ k ih =>
    intro l1 l2 l4 l5 l6 l7 h
    unfold qw_X13_classFits_122
    have F_h : ∀ c k : Nat, (fun c k => nw_F wl_X13_classFits wf_X13_classFits false false c k = true) c k → h c k = h c k := fun _ _ _ => rfl
    refine fm_if ?_ ?_
    · refine fm_xl ?_; intro v52
      exact fm_tl F_h (hk_kk_109) (fun _ _ z => z)
    · refine fm_if ?_ ?_
      · exact fm_tl F_h (fj_X13_classFits_146 nn hk_kk_77 hk_kk_109 ih) (fun _ _ z => z)
      · exact fm_tl F_h (fj_X13_classFits_146 nn hk_kk_77 hk_kk_109 ih) (fun _ _ z => z)
set_option maxRecDepth 4000 in
theorem fw_X13_classFits_109 (nn : Nat) {qkk_77 : Int → Int → Int → ms_M → Option (Int × ms_M)} (hk_kk_77 : ∀ {l1 : Int} {l2 : Int} {l4 : Int} {h : ms_M}, Fm_ (fun c k => nw_F wl_X13_classFits wf_X13_classFits false false c k = true) h (qkk_77 l1 l2 l4 h) (fun r => r.2)) : ∀ (k : Nat) {l1 : Int} {l2 : Int} {l4 : Int} {l5 : Int} {l6 : Int} {h : ms_M}, Fm_ (fun c k => nw_F wl_X13_classFits wf_X13_classFits false false c k = true) h (qw_X13_classFits_109 nn qkk_77 k l1 l2 l4 l5 l6 h) (fun r => r.2) := by
  intro k
  induction k with
  | zero => intros; exact fm_no
  | succ k ih =>
    intro l1 l2 l4 l5 l6 h
    unfold qw_X13_classFits_109
    have F_h : ∀ c k : Nat, (fun c k => nw_F wl_X13_classFits wf_X13_classFits false false c k = true) c k → h c k = h c k := fun _ _ _ => rfl
    refine fm_if ?_ ?_
    · refine fm_xl ?_; intro v55
      exact fm_tl F_h (hk_kk_77) (fun _ _ z => z)
    · refine fm_xl ?_; intro v56
      exact fm_tl F_h (fw_X13_classFits_122 nn hk_kk_77 ih _) (fun _ _ z => z)
set_option maxRecDepth 4000 in
theorem fw_X13_classFits_77 (nn : Nat) : ∀ (k : Nat) {l1 : Int} {l2 : Int} {l4 : Int} {h : ms_M}, Fm_ (fun c k => nw_F wl_X13_classFits wf_X13_classFits false false c k = true) h (qw_X13_classFits_77 nn k l1 l2 l4 h) (fun r => r.2) := by
  intro k
  induction k with
  | zero => intros; exact fm_no
  | succ k ih =>
    intro l1 l2 l4 h
    unfold qw_X13_classFits_77
    have F_h : ∀ c k : Nat, (fun c k => nw_F wl_X13_classFits wf_X13_classFits false false c k = true) c k → h c k = h c k := fun _ _ _ => rfl
    refine fm_if ?_ ?_
    · exact fm_tl F_h (fw_X13_classFits_204 nn _) (fun _ _ z => z)
    · refine fm_if ?_ ?_
      · refine fm_rd ?_; intro v59
        exact fm_tl F_h (fw_X13_classFits_109 nn ih _) (fun _ _ z => z)
      · refine fm_rd ?_; intro v61
        exact fm_tl F_h (fw_X13_classFits_109 nn ih _) (fun _ _ z => z)
set_option maxRecDepth 4000 in
theorem fj_X13_classFits_60 (nn : Nat) {l1 : Int} {l2 : Int} {l3 : Int} {h : ms_M} : Fm_ (fun c k => nw_F wl_X13_classFits wf_X13_classFits false false c k = true) h (qj_X13_classFits_60 nn l1 l2 l3 h) (fun r => r.2) := by
  unfold qj_X13_classFits_60
  have F_h : ∀ c k : Nat, (fun c k => nw_F wl_X13_classFits wf_X13_classFits false false c k = true) c k → h c k = h c k := fun _ _ _ => rfl
  refine fm_if ?_ ?_
  · exact fm_tl F_h (fw_X13_classFits_77 nn _) (fun _ _ z => z)
  · refine fm_ca F_h (ff_X13_bad nn) (nw_sub rfl) ?_; intro u65 F_u65
    refine fm_ck ?_; intro _
    exact fm_ret F_u65
set_option maxRecDepth 4000 in
theorem fw_X13_classFits_36 (nn : Nat) : ∀ (k : Nat) {l1 : Int} {l2 : Int} {l3 : Int} {l4 : Int} {h : ms_M}, Fm_ (fun c k => nw_F wl_X13_classFits wf_X13_classFits false false c k = true) h (qw_X13_classFits_36 nn k l1 l2 l3 l4 h) (fun r => r.2) := by
  intro k
  induction k with
  | zero => intros; exact fm_no
  | succ k ih =>
    intro l1 l2 l3 l4 h
    unfold qw_X13_classFits_36
    have F_h : ∀ c k : Nat, (fun c k => nw_F wl_X13_classFits wf_X13_classFits false false c k = true) c k → h c k = h c k := fun _ _ _ => rfl
    refine fm_if ?_ ?_
    · exact fm_tl F_h (fj_X13_classFits_60 nn) (fun _ _ z => z)
    · refine fm_if ?_ ?_
      · exact fm_tl F_h (fj_X13_classFits_60 nn) (fun _ _ z => z)
      · refine fm_pu ?_; intro u69
        refine fm_xl ?_; intro v70
        exact fm_tl F_h (ih ) (fun _ _ z => z)
set_option maxRecDepth 4000 in
theorem fj_X13_classFits_22 (nn : Nat) {l1 : Int} {h : ms_M} : Fm_ (fun c k => nw_F wl_X13_classFits wf_X13_classFits false false c k = true) h (qj_X13_classFits_22 nn l1 h) (fun r => r.2) := by
  unfold qj_X13_classFits_22
  have F_h : ∀ c k : Nat, (fun c k => nw_F wl_X13_classFits wf_X13_classFits false false c k = true) c k → h c k = h c k := fun _ _ _ => rfl
  refine fm_ca F_h (ff_X13_bad nn) (nw_sub rfl) ?_; intro u74 F_u74
  refine fm_ck ?_; intro _
  exact fm_ret F_u74
set_option maxRecDepth 4000 in
theorem ff_X13_classFits (nn : Nat) {a1 : Int} {h : ms_M} : Fm_ (fun c k => nw_F wl_X13_classFits wf_X13_classFits false false c k = true) h (qf_X13_classFits nn a1 h) (fun r => r.2) := by
  unfold qf_X13_classFits
  have F_h : ∀ c k : Nat, (fun c k => nw_F wl_X13_classFits wf_X13_classFits false false c k = true) c k → h c k = h c k := fun _ _ _ => rfl
  refine fm_xl ?_; intro v76
  refine fm_pu ?_; intro u78
  refine fm_if ?_ ?_
  · exact fm_tl F_h (fj_X13_classFits_22 nn) (fun _ _ z => z)
  · refine fm_ca F_h (ff_X13_kindsAreThere nn) (nw_sub rfl) ?_; intro u80 F_u80
    refine fm_if ?_ ?_
    · exact fm_tl F_u80 (fw_X13_classFits_36 nn _) (fun _ _ z => z)
    · exact fm_tl F_u80 (fj_X13_classFits_22 nn) (fun _ _ z => z)
set_option maxRecDepth 4000 in
theorem ff_X13_at_ (nn : Nat) {a1 : Int} {a2 : Int} {h : ms_M} : Fm_ (fun c k => nw_F wl_X13_at_ wf_X13_at_ false false c k = true) h (qf_X13_at_ nn a1 a2 h) (fun r => r) := by
  unfold qf_X13_at_
  have F_h : ∀ c k : Nat, (fun c k => nw_F wl_X13_at_ wf_X13_at_ false false c k = true) c k → h c k = h c k := fun _ _ _ => rfl
  refine fm_xl ?_; intro v1
  refine fm_up F_h (nw_nf rfl) ?_; intro h2 F_h2
  refine fm_up F_h2 (nw_nf rfl) ?_; intro h3 F_h3
  refine fm_xl ?_; intro v6
  refine fm_xl ?_; intro v7
  refine fm_rd ?_; intro v8
  refine fm_xl ?_; intro v10
  refine fm_pu ?_; intro u12
  refine fm_up F_h3 (nw_nf rfl) ?_; intro h13 F_h13
  refine fm_xl ?_; intro v15
  refine fm_pu ?_; intro u17
  refine fm_up F_h13 (nw_nf rfl) ?_; intro h18 F_h18
  refine fm_xl ?_; intro v19
  refine fm_pu ?_; intro u21
  refine fm_up F_h18 (nw_nf rfl) ?_; intro h22 F_h22
  refine fm_xl ?_; intro v23
  refine fm_up F_h22 (nw_nf rfl) ?_; intro h24 F_h24
  exact fm_ret F_h24
set_option maxRecDepth 4000 in
theorem ff_X13_typeOfClass (nn : Nat) {a1 : Int} {a2 : Int} {h : ms_M} : Fm_ (fun c k => nw_F wl_X13_typeOfClass wf_X13_typeOfClass false false c k = true) h (qf_X13_typeOfClass nn a1 a2 h) (fun r => r.2) := by
  unfold qf_X13_typeOfClass
  have F_h : ∀ c k : Nat, (fun c k => nw_F wl_X13_typeOfClass wf_X13_typeOfClass false false c k = true) c k → h c k = h c k := fun _ _ _ => rfl
  refine fm_pu ?_; intro u2
  refine fm_xl ?_; intro v3
  refine fm_xl ?_; intro v5
  refine fm_xl ?_; intro v6
  refine fm_rd ?_; intro v7
  refine fm_xl ?_; intro v8
  refine fm_xl ?_; intro v10
  refine fm_rd ?_; intro v11
  refine fm_if ?_ ?_
  · refine fm_xl ?_; intro v12
    refine fm_xl ?_; intro v14
    refine fm_rd ?_; intro v15
    refine fm_ca F_h (ff_X13_nameNumber nn) (nw_sub rfl) ?_; intro u17 F_u17
    refine fm_xl ?_; intro v18
    refine fm_xl ?_; intro v19
    exact fm_ret F_u17
  · refine fm_xl ?_; intro v20
    refine fm_ca F_h (ff_X13_typeAt nn) (nw_sub rfl) ?_; intro u22 F_u22
    exact fm_ret F_u22
set_option maxRecDepth 4000 in
theorem ff_X13_framed (nn : Nat) {a1 : Int} {h : ms_M} : Fm_ (fun c k => nw_F wl_X13_framed wf_X13_framed false false c k = true) h (qf_X13_framed nn a1 h) (fun r => r.2) := by
  unfold qf_X13_framed
  have F_h : ∀ c k : Nat, (fun c k => nw_F wl_X13_framed wf_X13_framed false false c k = true) c k → h c k = h c k := fun _ _ _ => rfl
  refine fm_pu ?_; intro u3
  refine fm_if ?_ ?_
  · refine fm_xl ?_; intro v6
    refine fm_pu ?_; intro u8
    refine fm_ca F_h (ff_X13_typeOfClass nn) (nw_sub rfl) ?_; intro u10 F_u10
    exact fm_ret F_u10
  · refine fm_pu ?_; intro u13
    exact fm_ret F_h
set_option maxRecDepth 4000 in
theorem fj_X13_becomes_151 (nn : Nat) {qkk_114 : Int → Int → Int → ms_M → Option ms_M} (hk_kk_114 : ∀ {l2 : Int} {l3 : Int} {l4 : Int} {h : ms_M}, Fm_ (fun c k => nw_F wl_X13_becomes wf_X13_becomes false false c k = true) h (qkk_114 l2 l3 l4 h) (fun r => r)) {l3 : Int} {l4 : Int} {s0 : Int} {s1 : Int} {h : ms_M} : Fm_ (fun c k => nw_F wl_X13_becomes wf_X13_becomes false false c k = true) h (qj_X13_becomes_151 nn qkk_114 l3 l4 s0 s1 h) (fun r => r) := by
  unfold qj_X13_becomes_151
  have F_h : ∀ c k : Nat, (fun c k => nw_F wl_X13_becomes wf_X13_becomes false false c k = true) c k → h c k = h c k := fun _ _ _ => rfl
  refine fm_xl ?_; intro v1
  refine fm_xl ?_; intro v2
  exact fm_tl F_h (hk_kk_114) (fun _ _ z => z)
set_option maxRecDepth 4000 in
theorem fw_X13_becomes_114 (nn : Nat) : ∀ (k : Nat) {l2 : Int} {l3 : Int} {l4 : Int} {h : ms_M}, Fm_ (fun c k => nw_F wl_X13_becomes wf_X13_becomes false false c k = true) h (qw_X13_becomes_114 nn k l2 l3 l4 h) (fun r => r) := by
  intro k
  induction k with
  | zero => intros; exact fm_no
  | succ k ih =>
    intro l2 l3 l4 h
    unfold qw_X13_becomes_114
    have F_h : ∀ c k : Nat, (fun c k => nw_F wl_X13_becomes wf_X13_becomes false false c k = true) c k → h c k = h c k := fun _ _ _ => rfl
    refine fm_if ?_ ?_
    · exact fm_ret F_h
    · refine fm_ca F_h (ff_X13_framed nn) (nw_sub rfl) ?_; intro u5 F_u5
      refine fm_wA F_u5 (nw_ne rfl) ?_; intro h6 F_h6
      refine fm_pu ?_; intro u9
      refine fm_if ?_ ?_
      · exact fm_tl F_h6 (fj_X13_becomes_151 nn ih) (fun _ _ z => z)
      · exact fm_tl F_h6 (fj_X13_becomes_151 nn ih) (fun _ _ z => z)
set_option maxRecDepth 4000 in
theorem fj_X13_becomes_77 (nn : Nat) {qkk_20 : Int → Int → Int → Int → ms_M → Option ms_M} (hk_kk_20 : ∀ {l1 : Int} {l2 : Int} {l3 : Int} {l4 : Int} {h : ms_M}, Fm_ (fun c k => nw_F wl_X13_becomes wf_X13_becomes false false c k = true) h (qkk_20 l1 l2 l3 l4 h) (fun r => r)) {l1 : Int} {l3 : Int} {l4 : Int} {s0 : Int} {s1 : Int} {h : ms_M} : Fm_ (fun c k => nw_F wl_X13_becomes wf_X13_becomes false false c k = true) h (qj_X13_becomes_77 nn qkk_20 l1 l3 l4 s0 s1 h) (fun r => r) := by
  unfold qj_X13_becomes_77
  have F_h : ∀ c k : Nat, (fun c k => nw_F wl_X13_becomes wf_X13_becomes false false c k = true) c k → h c k = h c k := fun _ _ _ => rfl
  refine fm_xl ?_; intro v12
  refine fm_xl ?_; intro v13
  exact fm_tl F_h (hk_kk_20) (fun _ _ z => z)
set_option maxRecDepth 4000 in
theorem fw_X13_becomes_20 (nn : Nat) : ∀ (k : Nat) {l1 : Int} {l2 : Int} {l3 : Int} {l4 : Int} {h : ms_M}, Fm_ (fun c k => nw_F wl_X13_becomes wf_X13_becomes false false c k = true) h (qw_X13_becomes_20 nn k l1 l2 l3 l4 h) (fun r => r) := by
  intro k
  induction k with
  | zero => intros; exact fm_no
  | succ k ih =>
    intro l1 l2 l3 l4 h
    unfold qw_X13_becomes_20
    have F_h : ∀ c k : Nat, (fun c k => nw_F wl_X13_becomes wf_X13_becomes false false c k = true) c k → h c k = h c k := fun _ _ _ => rfl
    refine fm_if ?_ ?_
    · refine fm_xl ?_; intro v15
      refine fm_pu ?_; intro u17
      refine fm_pu ?_; intro u20
      refine fm_xl ?_; intro v21
      refine fm_up F_h (nw_nf rfl) ?_; intro h22 F_h22
      exact fm_tl F_h22 (fw_X13_becomes_114 nn _) (fun _ _ z => z)
    · refine fm_wA F_h (nw_ne rfl) ?_; intro h24 F_h24
      refine fm_if ?_ ?_
      · refine fm_ca F_h24 (ff_X13_framed nn) (nw_sub rfl) ?_; intro u27 F_u27
        refine fm_wA F_u27 (nw_ne rfl) ?_; intro h28 F_h28
        refine fm_pu ?_; intro u31
        refine fm_if ?_ ?_
        · exact fm_tl F_h28 (fj_X13_becomes_77 nn ih) (fun _ _ z => z)
        · exact fm_tl F_h28 (fj_X13_becomes_77 nn ih) (fun _ _ z => z)
      · refine fm_xl ?_; intro v33
        exact fm_tl F_h24 (ih ) (fun _ _ z => z)
set_option maxRecDepth 4000 in
theorem ff_X13_becomes (nn : Nat) {a1 : Int} {h : ms_M} : Fm_ (fun c k => nw_F wl_X13_becomes wf_X13_becomes false false c k = true) h (qf_X13_becomes nn a1 h) (fun r => r) := by
  unfold qf_X13_becomes
  have F_h : ∀ c k : Nat, (fun c k => nw_F wl_X13_becomes wf_X13_becomes false false c k = true) c k → h c k = h c k := fun _ _ _ => rfl
  refine fm_xl ?_; intro v36
  refine fm_pu ?_; intro u39
  refine fm_xl ?_; intro v40
  exact fm_tl F_h (fw_X13_becomes_20 nn _) (fun _ _ z => z)
set_option maxRecDepth 4000 in
theorem fj_X13_localsFit_66 (nn : Nat) {qkk_20 : Int → Int → Int → ms_M → Option (Int × ms_M)} (hk_kk_20 : ∀ {l2 : Int} {l3 : Int} {l4 : Int} {h : ms_M}, Fm_ (fun c k => nw_F wl_X13_localsFit wf_X13_localsFit false false c k = true) h (qkk_20 l2 l3 l4 h) (fun r => r.2)) {l3 : Int} {l4 : Int} {s0 : Int} {s1 : Int} {h : ms_M} : Fm_ (fun c k => nw_F wl_X13_localsFit wf_X13_localsFit false false c k = true) h (qj_X13_localsFit_66 nn qkk_20 l3 l4 s0 s1 h) (fun r => r.2) := by
  unfold qj_X13_localsFit_66
  have F_h : ∀ c k : Nat, (fun c k => nw_F wl_X13_localsFit wf_X13_localsFit false false c k = true) c k → h c k = h c k := fun _ _ _ => rfl
  refine fm_xl ?_; intro v1
  refine fm_xl ?_; intro v2
  exact fm_tl F_h (hk_kk_20) (fun _ _ z => z)
set_option maxRecDepth 4000 in
theorem fw_X13_localsFit_20 (nn : Nat) : ∀ (k : Nat) {l2 : Int} {l3 : Int} {l4 : Int} {h : ms_M}, Fm_ (fun c k => nw_F wl_X13_localsFit wf_X13_localsFit false false c k = true) h (qw_X13_localsFit_20 nn k l2 l3 l4 h) (fun r => r.2) := by
  intro k
  induction k with
  | zero => intros; exact fm_no
  | succ k ih =>
    intro l2 l3 l4 h
    unfold qw_X13_localsFit_20
    have F_h : ∀ c k : Nat, (fun c k => nw_F wl_X13_localsFit wf_X13_localsFit false false c k = true) c k → h c k = h c k := fun _ _ _ => rfl
    refine fm_if ?_ ?_
    · exact fm_ret F_h
    · refine fm_rd ?_; intro v4
      refine fm_ca F_h (ff_X13_framed nn) (nw_sub rfl) ?_; intro u6 F_u6
      refine fm_pu ?_; intro u8
      refine fm_if ?_ ?_
      · refine fm_pu ?_; intro u11
        refine fm_if ?_ ?_
        · exact fm_tl F_u6 (fj_X13_localsFit_66 nn ih) (fun _ _ z => z)
        · exact fm_tl F_u6 (fj_X13_localsFit_66 nn ih) (fun _ _ z => z)
      · exact fm_ret F_u6
set_option maxRecDepth 4000 in
theorem ff_X13_localsFit (nn : Nat) {a1 : Int} {h : ms_M} : Fm_ (fun c k => nw_F wl_X13_localsFit wf_X13_localsFit false false c k = true) h (qf_X13_localsFit nn a1 h) (fun r => r.2) := by
  unfold qf_X13_localsFit
  have F_h : ∀ c k : Nat, (fun c k => nw_F wl_X13_localsFit wf_X13_localsFit false false c k = true) c k → h c k = h c k := fun _ _ _ => rfl
  refine fm_xl ?_; intro v15
  refine fm_pu ?_; intro u18
  refine fm_xl ?_; intro v19
  exact fm_tl F_h (fw_X13_localsFit_20 nn _) (fun _ _ z => z)
set_option maxRecDepth 4000 in
theorem fw_X13_handled_20 (nn : Nat) : ∀ (k : Nat) {l1 : Int} {l2 : Int} {l3 : Int} {h : ms_M}, Fm_ (fun c k => nw_F wl_X13_handled wf_X13_handled false false c k = true) h (qw_X13_handled_20 nn k l1 l2 l3 h) (fun r => r.2) := by
  intro k
  induction k with
  | zero => intros; exact fm_no
  | succ k ih =>
    intro l1 l2 l3 h
    unfold qw_X13_handled_20
    have F_h : ∀ c k : Nat, (fun c k => nw_F wl_X13_handled wf_X13_handled false false c k = true) c k → h c k = h c k := fun _ _ _ => rfl
    refine fm_pu ?_; intro u3
    refine fm_if ?_ ?_
    · exact fm_ret F_h
    · refine fm_xl ?_; intro v4
      refine fm_xl ?_; intro v5
      refine fm_xl ?_; intro v6
      refine fm_pu ?_; intro u8
      refine fm_if ?_ ?_
      · refine fm_xl ?_; intro v9
        exact fm_tl F_h (ih ) (fun _ _ z => z)
      · refine fm_xl ?_; intro v10
        refine fm_pu ?_; intro u12
        refine fm_if ?_ ?_
        · refine fm_xl ?_; intro v13
          refine fm_pu ?_; intro u15
          refine fm_pu ?_; intro u17
          refine fm_ca F_h (ff_X13_localsFit nn) (nw_sub rfl) ?_; intro u19 F_u19
          refine fm_if ?_ ?_
          · refine fm_xl ?_; intro v20
            refine fm_pu ?_; intro u22
            refine fm_pu ?_; intro u25
            refine fm_if ?_ ?_
            · exact fm_ret F_u19
            · refine fm_xl ?_; intro v28
              refine fm_pu ?_; intro u30
              refine fm_ca F_u19 (ff_X13_typeOfClass nn) (nw_sub rfl) ?_; intro u32 F_u32
              refine fm_xl ?_; intro v33
              refine fm_ca F_u32 (ff_X13_framed nn) (nw_sub rfl) ?_; intro u35 F_u35
              refine fm_pu ?_; intro u37
              refine fm_if ?_ ?_
              · refine fm_xl ?_; intro v38
                exact fm_tl F_u35 (ih ) (fun _ _ z => z)
              · exact fm_ret F_u35
          · exact fm_ret F_u19
        · refine fm_xl ?_; intro v42
          exact fm_tl F_h (ih ) (fun _ _ z => z)
set_option maxRecDepth 4000 in
theorem ff_X13_handled (nn : Nat) {a1 : Int} {h : ms_M} : Fm_ (fun c k => nw_F wl_X13_handled wf_X13_handled false false c k = true) h (qf_X13_handled nn a1 h) (fun r => r.2) := by
  unfold qf_X13_handled
  have F_h : ∀ c k : Nat, (fun c k => nw_F wl_X13_handled wf_X13_handled false false c k = true) c k → h c k = h c k := fun _ _ _ => rfl
  refine fm_xl ?_; intro v48
  refine fm_xl ?_; intro v50
  refine fm_rd ?_; intro v51
  exact fm_tl F_h (fw_X13_handled_20 nn _) (fun _ _ z => z)
set_option maxRecDepth 4000 in
theorem fj_X13_right_356 (nn : Nat) {s0 : Int} {s1 : Int} {h : ms_M} : Fm_ (fun c k => nw_F wl_X13_right wf_X13_right false false c k = true) h (qj_X13_right_356 nn s0 s1 h) (fun r => r.2) := by
  unfold qj_X13_right_356
  have F_h : ∀ c k : Nat, (fun c k => nw_F wl_X13_right wf_X13_right false false c k = true) c k → h c k = h c k := fun _ _ _ => rfl
  refine fm_if ?_ ?_
  · exact fm_ret F_h
  · exact fm_ret F_h
set_option maxRecDepth 4000 in
theorem fj_X13_right_244 (nn : Nat) {l2 : Int} {l3 : Int} {l5 : Int} {s0 : Int} {h : ms_M} : Fm_ (fun c k => nw_F wl_X13_right wf_X13_right false false c k = true) h (qj_X13_right_244 nn l2 l3 l5 s0 h) (fun r => r.2) := by
  unfold qj_X13_right_244
  have F_h : ∀ c k : Nat, (fun c k => nw_F wl_X13_right wf_X13_right false false c k = true) c k → h c k = h c k := fun _ _ _ => rfl
  refine fm_xl ?_; intro v2
  refine fm_xl ?_; intro v3
  refine fm_pu ?_; intro u6
  refine fm_ca F_h (ff_X13_holder nn) (nw_sub rfl) ?_; intro u8 F_u8
  refine fm_if ?_ ?_
  · refine fm_xl ?_; intro v9
    refine fm_pu ?_; intro u12
    refine fm_pu ?_; intro u15
    refine fm_pu ?_; intro u17
    refine fm_if ?_ ?_
    · refine fm_if ?_ ?_
      · exact fm_ret F_u8
      · refine fm_xl ?_; intro v19
        refine fm_xl ?_; intro v21
        refine fm_rd ?_; intro v22
        refine fm_pu ?_; intro u24
        refine fm_if ?_ ?_
        · exact fm_tl F_u8 (fj_X13_right_356 nn) (fun _ _ z => z)
        · exact fm_tl F_u8 (fj_X13_right_356 nn) (fun _ _ z => z)
    · exact fm_ret F_u8
  · exact fm_ret F_u8
set_option maxRecDepth 4000 in
theorem fj_X13_right_187 (nn : Nat) {l2 : Int} {l3 : Int} {h : ms_M} : Fm_ (fun c k => nw_F wl_X13_right wf_X13_right false false c k = true) h (qj_X13_right_187 nn l2 l3 h) (fun r => r.2) := by
  unfold qj_X13_right_187
  have F_h : ∀ c k : Nat, (fun c k => nw_F wl_X13_right wf_X13_right false false c k = true) c k → h c k = h c k := fun _ _ _ => rfl
  refine fm_pu ?_; intro u30
  refine fm_if ?_ ?_
  · refine fm_pu ?_; intro u33
    refine fm_ca F_h (ff_X13_typeOfClass nn) (nw_sub rfl) ?_; intro u35 F_u35
    refine fm_pu ?_; intro u36
    refine fm_if ?_ ?_
    · exact fm_ret F_u35
    · refine fm_pu ?_; intro u37
      refine fm_if ?_ ?_
      · refine fm_if ?_ ?_
        · exact fm_tl F_u35 (fj_X13_right_244 nn) (fun _ _ z => z)
        · exact fm_tl F_u35 (fj_X13_right_244 nn) (fun _ _ z => z)
      · exact fm_ret F_u35
  · exact fm_ret F_h
set_option maxRecDepth 4000 in
theorem fj_X13_right_131 (nn : Nat) {l3 : Int} {h : ms_M} : Fm_ (fun c k => nw_F wl_X13_right wf_X13_right false false c k = true) h (qj_X13_right_131 nn l3 h) (fun r => r.2) := by
  unfold qj_X13_right_131
  have F_h : ∀ c k : Nat, (fun c k => nw_F wl_X13_right wf_X13_right false false c k = true) c k → h c k = h c k := fun _ _ _ => rfl
  refine fm_pu ?_; intro u43
  refine fm_if ?_ ?_
  · refine fm_ca F_h (ff_X13_typeOfClass nn) (nw_sub rfl) ?_; intro u46 F_u46
    refine fm_pu ?_; intro u47
    refine fm_if ?_ ?_
    · exact fm_ret F_u46
    · refine fm_pu ?_; intro u48
      refine fm_if ?_ ?_
      · exact fm_ret F_u46
      · exact fm_ret F_u46
  · exact fm_ret F_h
set_option maxRecDepth 4000 in
theorem fj_X13_right_25 (nn : Nat) {l2 : Int} {s0 : Int} {h : ms_M} : Fm_ (fun c k => nw_F wl_X13_right wf_X13_right false false c k = true) h (qj_X13_right_25 nn l2 s0 h) (fun r => r.2) := by
  unfold qj_X13_right_25
  have F_h : ∀ c k : Nat, (fun c k => nw_F wl_X13_right wf_X13_right false false c k = true) c k → h c k = h c k := fun _ _ _ => rfl
  refine fm_if ?_ ?_
  · refine fm_pu ?_; intro u53
    refine fm_if ?_ ?_
    · exact fm_ret F_h
    · exact fm_ret F_h
  · refine fm_if ?_ ?_
    · exact fm_tl F_h (fj_X13_right_187 nn) (fun _ _ z => z)
    · refine fm_if ?_ ?_
      · exact fm_tl F_h (fj_X13_right_187 nn) (fun _ _ z => z)
      · refine fm_if ?_ ?_
        · exact fm_tl F_h (fj_X13_right_187 nn) (fun _ _ z => z)
        · refine fm_if ?_ ?_
          · exact fm_tl F_h (fj_X13_right_187 nn) (fun _ _ z => z)
          · refine fm_if ?_ ?_
            · exact fm_tl F_h (fj_X13_right_131 nn) (fun _ _ z => z)
            · refine fm_if ?_ ?_
              · refine fm_if ?_ ?_
                · exact fm_ret F_h
                · exact fm_ret F_h
              · refine fm_if ?_ ?_
                · exact fm_tl F_h (fj_X13_right_131 nn) (fun _ _ z => z)
                · refine fm_if ?_ ?_
                  · exact fm_tl F_h (fj_X13_right_131 nn) (fun _ _ z => z)
                  · refine fm_if ?_ ?_
                    · exact fm_tl F_h (fj_X13_right_131 nn) (fun _ _ z => z)
                    · exact fm_ret F_h
set_option maxRecDepth 4000 in
theorem ff_X13_right (nn : Nat) {a1 : Int} {h : ms_M} : Fm_ (fun c k => nw_F wl_X13_right wf_X13_right false false c k = true) h (qf_X13_right nn a1 h) (fun r => r.2) := by
  unfold qf_X13_right
  have F_h : ∀ c k : Nat, (fun c k => nw_F wl_X13_right wf_X13_right false false c k = true) c k → h c k = h c k := fun _ _ _ => rfl
  refine fm_pu ?_; intro u57
  refine fm_pu ?_; intro u58
  refine fm_if ?_ ?_
  · exact fm_tl F_h (fj_X13_right_25 nn) (fun _ _ z => z)
  · refine fm_xl ?_; intro v59
    refine fm_pu ?_; intro u61
    exact fm_tl F_h (fj_X13_right_25 nn) (fun _ _ z => z)
set_option maxRecDepth 4000 in
theorem fj_X13_stackFits_80 (nn : Nat) {qkk_34 : Int → Int → Int → ms_M → Option (Int × ms_M)} (hk_kk_34 : ∀ {l2 : Int} {l3 : Int} {l4 : Int} {h : ms_M}, Fm_ (fun c k => nw_F wl_X13_stackFits wf_X13_stackFits false false c k = true) h (qkk_34 l2 l3 l4 h) (fun r => r.2)) {l3 : Int} {l4 : Int} {s0 : Int} {s1 : Int} {h : ms_M} : Fm_ (fun c k => nw_F wl_X13_stackFits wf_X13_stackFits false false c k = true) h (qj_X13_stackFits_80 nn qkk_34 l3 l4 s0 s1 h) (fun r => r.2) := by
  unfold qj_X13_stackFits_80
  have F_h : ∀ c k : Nat, (fun c k => nw_F wl_X13_stackFits wf_X13_stackFits false false c k = true) c k → h c k = h c k := fun _ _ _ => rfl
  refine fm_xl ?_; intro v1
  refine fm_xl ?_; intro v2
  exact fm_tl F_h (hk_kk_34) (fun _ _ z => z)
set_option maxRecDepth 4000 in
theorem fw_X13_stackFits_34 (nn : Nat) : ∀ (k : Nat) {l2 : Int} {l3 : Int} {l4 : Int} {h : ms_M}, Fm_ (fun c k => nw_F wl_X13_stackFits wf_X13_stackFits false false c k = true) h (qw_X13_stackFits_34 nn k l2 l3 l4 h) (fun r => r.2) := by
  intro k
  induction k with
  | zero => intros; exact fm_no
  | succ k ih =>
    intro l2 l3 l4 h
    unfold qw_X13_stackFits_34
    have F_h : ∀ c k : Nat, (fun c k => nw_F wl_X13_stackFits wf_X13_stackFits false false c k = true) c k → h c k = h c k := fun _ _ _ => rfl
    refine fm_if ?_ ?_
    · exact fm_ret F_h
    · refine fm_rd ?_; intro v4
      refine fm_ca F_h (ff_X13_framed nn) (nw_sub rfl) ?_; intro u6 F_u6
      refine fm_pu ?_; intro u8
      refine fm_if ?_ ?_
      · refine fm_pu ?_; intro u11
        refine fm_if ?_ ?_
        · exact fm_tl F_u6 (fj_X13_stackFits_80 nn ih) (fun _ _ z => z)
        · exact fm_tl F_u6 (fj_X13_stackFits_80 nn ih) (fun _ _ z => z)
      · exact fm_ret F_u6
set_option maxRecDepth 4000 in
theorem ff_X13_stackFits (nn : Nat) {a1 : Int} {h : ms_M} : Fm_ (fun c k => nw_F wl_X13_stackFits wf_X13_stackFits false false c k = true) h (qf_X13_stackFits nn a1 h) (fun r => r.2) := by
  unfold qf_X13_stackFits
  have F_h : ∀ c k : Nat, (fun c k => nw_F wl_X13_stackFits wf_X13_stackFits false false c k = true) c k → h c k = h c k := fun _ _ _ => rfl
  refine fm_xl ?_; intro v15
  refine fm_pu ?_; intro u17
  refine fm_pu ?_; intro u20
  refine fm_xl ?_; intro v21
  refine fm_if ?_ ?_
  · exact fm_tl F_h (fw_X13_stackFits_34 nn _) (fun _ _ z => z)
  · exact fm_ret F_h
set_option maxRecDepth 4000 in
theorem ff_X13_comesBack (nn : Nat) {a1 : Int} {h : ms_M} : Fm_ (fun c k => nw_F wl_X13_comesBack wf_X13_comesBack false false c k = true) h (qf_X13_comesBack nn a1 h) (fun r => r.2) := by
  unfold qf_X13_comesBack
  have F_h : ∀ c k : Nat, (fun c k => nw_F wl_X13_comesBack wf_X13_comesBack false false c k = true) c k → h c k = h c k := fun _ _ _ => rfl
  refine fm_if ?_ ?_
  · refine fm_wA F_h (nw_ne rfl) ?_; intro h5 F_h5
    refine fm_xl ?_; intro v7
    refine fm_up F_h5 (nw_nf rfl) ?_; intro h8 F_h8
    exact fm_ret F_h8
  · exact fm_ret F_h
set_option maxRecDepth 4000 in
theorem ff_X13_pull (nn : Nat) {h : ms_M} : Fm_ (fun c k => nw_F wl_X13_pull wf_X13_pull false false c k = true) h (qf_X13_pull nn h) (fun r => r.2) := by
  unfold qf_X13_pull
  have F_h : ∀ c k : Nat, (fun c k => nw_F wl_X13_pull wf_X13_pull false false c k = true) c k → h c k = h c k := fun _ _ _ => rfl
  refine fm_if ?_ ?_
  · refine fm_xl ?_; intro v3
    refine fm_up F_h (nw_nf rfl) ?_; intro h4 F_h4
    refine fm_rd ?_; intro v7
    exact fm_ret F_h4
  · exact fm_ret F_h
set_option maxRecDepth 4000 in
theorem ff_X13_pullFit (nn : Nat) {a1 : Int} {h : ms_M} : Fm_ (fun c k => nw_F wl_X13_pullFit wf_X13_pullFit false false c k = true) h (qf_X13_pullFit nn a1 h) (fun r => r.2) := by
  unfold qf_X13_pullFit
  have F_h : ∀ c k : Nat, (fun c k => nw_F wl_X13_pullFit wf_X13_pullFit false false c k = true) c k → h c k = h c k := fun _ _ _ => rfl
  refine fm_ca F_h (ff_X13_pull nn) (nw_sub rfl) ?_; intro u2 F_u2
  refine fm_if ?_ ?_
  · exact fm_ret F_u2
  · refine fm_pu ?_; intro u4
    refine fm_if ?_ ?_
    · exact fm_ret F_u2
    · exact fm_ret F_u2
set_option maxRecDepth 4000 in
theorem fj_X13_calls_129 (nn : Nat) {l3 : Int} {h : ms_M} : Fm_ (fun c k => nw_F wl_X13_calls wf_X13_calls false false c k = true) h (qj_X13_calls_129 nn l3 h) (fun r => r.2) := by
  unfold qj_X13_calls_129
  have F_h : ∀ c k : Nat, (fun c k => nw_F wl_X13_calls wf_X13_calls false false c k = true) c k → h c k = h c k := fun _ _ _ => rfl
  refine fm_xl ?_; intro v1
  refine fm_ca F_h (ff_X13_typeAt nn) (nw_sub rfl) ?_; intro u3 F_u3
  refine fm_if ?_ ?_
  · exact fm_ret F_u3
  · refine fm_ca F_u3 (ff_X13_comesBack nn) (nw_sub rfl) ?_; intro u5 F_u5
    refine fm_if ?_ ?_
    · exact fm_ret F_u5
    · exact fm_ret F_u5
set_option maxRecDepth 4000 in
theorem fw_X13_calls_75 (nn : Nat) : ∀ (k : Nat) {l1 : Int} {l2 : Int} {l3 : Int} {l5 : Int} {h : ms_M}, Fm_ (fun c k => nw_F wl_X13_calls wf_X13_calls false false c k = true) h (qw_X13_calls_75 nn k l1 l2 l3 l5 h) (fun r => r.2) := by
  intro k
  induction k with
  | zero => intros; exact fm_no
  | succ k ih =>
    intro l1 l2 l3 l5 h
    unfold qw_X13_calls_75
    have F_h : ∀ c k : Nat, (fun c k => nw_F wl_X13_calls wf_X13_calls false false c k = true) c k → h c k = h c k := fun _ _ _ => rfl
    refine fm_if ?_ ?_
    · refine fm_if ?_ ?_
      · exact fm_tl F_h (fj_X13_calls_129 nn) (fun _ _ z => z)
      · refine fm_pu ?_; intro u10
        refine fm_ca F_h (ff_X13_typeOfClass nn) (nw_sub rfl) ?_; intro u12 F_u12
        refine fm_ca F_u12 (ff_X13_pullFit nn) (nw_sub rfl) ?_; intro u14 F_u14
        refine fm_if ?_ ?_
        · exact fm_tl F_u14 (fj_X13_calls_129 nn) (fun _ _ z => z)
        · exact fm_ret F_u14
    · refine fm_rd ?_; intro v18
      refine fm_ca F_h (ff_X13_pullFit nn) (nw_sub rfl) ?_; intro u20 F_u20
      refine fm_if ?_ ?_
      · refine fm_xl ?_; intro v21
        exact fm_tl F_u20 (ih ) (fun _ _ z => z)
      · exact fm_ret F_u20
set_option maxRecDepth 4000 in
theorem fw_X13_calls_35 (nn : Nat) : ∀ (k : Nat) {l1 : Int} {l2 : Int} {l3 : Int} {l4 : Int} {h : ms_M}, Fm_ (fun c k => nw_F wl_X13_calls wf_X13_calls false false c k = true) h (qw_X13_calls_35 nn k l1 l2 l3 l4 h) (fun r => r.2) := by
  intro k
  induction k with
  | zero => intros; exact fm_no
  | succ k ih =>
    intro l1 l2 l3 l4 h
    unfold qw_X13_calls_35
    have F_h : ∀ c k : Nat, (fun c k => nw_F wl_X13_calls wf_X13_calls false false c k = true) c k → h c k = h c k := fun _ _ _ => rfl
    refine fm_rd ?_; intro v25
    refine fm_if ?_ ?_
    · refine fm_xl ?_; intro v26
      exact fm_tl F_h (fw_X13_calls_75 nn _) (fun _ _ z => z)
    · refine fm_ca F_h (ff_X13_typeAt nn) (nw_sub rfl) ?_; intro u29 F_u29
      refine fm_wA F_u29 (nw_ne rfl) ?_; intro h30 F_h30
      refine fm_xl ?_; intro v31
      exact fm_tl F_h30 (ih ) (fun _ _ z => z)
set_option maxRecDepth 4000 in
theorem ff_X13_calls (nn : Nat) {a1 : Int} {a2 : Int} {h : ms_M} : Fm_ (fun c k => nw_F wl_X13_calls wf_X13_calls false false c k = true) h (qf_X13_calls nn a1 a2 h) (fun r => r.2) := by
  unfold qf_X13_calls
  have F_h : ∀ c k : Nat, (fun c k => nw_F wl_X13_calls wf_X13_calls false false c k = true) c k → h c k = h c k := fun _ _ _ => rfl
  refine fm_xl ?_; intro v35
  refine fm_xl ?_; intro v38
  refine fm_pu ?_; intro u40
  refine fm_xl ?_; intro v41
  refine fm_rd ?_; intro v42
  refine fm_xl ?_; intro v43
  refine fm_xl ?_; intro v44
  exact fm_tl F_h (fw_X13_calls_35 nn _) (fun _ _ z => z)
set_option maxRecDepth 4000 in
theorem fw_X13_pullInts_2 (nn : Nat) : ∀ (k : Nat) {l1 : Int} {l2 : Int} {h : ms_M}, Fm_ (fun c k => nw_F wl_X13_pullInts wf_X13_pullInts false false c k = true) h (qw_X13_pullInts_2 nn k l1 l2 h) (fun r => r.2) := by
  intro k
  induction k with
  | zero => intros; exact fm_no
  | succ k ih =>
    intro l1 l2 h
    unfold qw_X13_pullInts_2
    have F_h : ∀ c k : Nat, (fun c k => nw_F wl_X13_pullInts wf_X13_pullInts false false c k = true) c k → h c k = h c k := fun _ _ _ => rfl
    refine fm_if ?_ ?_
    · exact fm_ret F_h
    · refine fm_ca F_h (ff_X13_pull nn) (nw_sub rfl) ?_; intro u2 F_u2
      refine fm_if ?_ ?_
      · refine fm_xl ?_; intro v3
        exact fm_tl F_u2 (ih ) (fun _ _ z => z)
      · exact fm_ret F_u2
set_option maxRecDepth 4000 in
theorem ff_X13_pullInts (nn : Nat) {a1 : Int} {h : ms_M} : Fm_ (fun c k => nw_F wl_X13_pullInts wf_X13_pullInts false false c k = true) h (qf_X13_pullInts nn a1 h) (fun r => r.2) := by
  unfold qf_X13_pullInts
  have F_h : ∀ c k : Nat, (fun c k => nw_F wl_X13_pullInts wf_X13_pullInts false false c k = true) c k → h c k = h c k := fun _ _ _ => rfl
  exact fm_tl F_h (fw_X13_pullInts_2 nn _) (fun _ _ z => z)
set_option maxRecDepth 4000 in
theorem ff_X13_pullThing (nn : Nat) {h : ms_M} : Fm_ (fun c k => nw_F wl_X13_pullThing wf_X13_pullThing false false c k = true) h (qf_X13_pullThing nn h) (fun r => r.2) := by
  unfold qf_X13_pullThing
  have F_h : ∀ c k : Nat, (fun c k => nw_F wl_X13_pullThing wf_X13_pullThing false false c k = true) c k → h c k = h c k := fun _ _ _ => rfl
  refine fm_ca F_h (ff_X13_pull nn) (nw_sub rfl) ?_; intro u2 F_u2
  refine fm_if ?_ ?_
  · exact fm_ret F_u2
  · exact fm_ret F_u2
set_option maxRecDepth 4000 in
theorem fj_X13_wanted_1642 (nn : Nat) {h : ms_M} : Fm_ (fun c k => nw_F wl_X13_wanted wf_X13_wanted false false c k = true) h (qj_X13_wanted_1642 nn h) (fun r => r.2) := by
  unfold qj_X13_wanted_1642
  have F_h : ∀ c k : Nat, (fun c k => nw_F wl_X13_wanted wf_X13_wanted false false c k = true) c k → h c k = h c k := fun _ _ _ => rfl
  refine fm_ca F_h (ff_X13_pullThing nn) (nw_sub rfl) ?_; intro u2 F_u2
  refine fm_if ?_ ?_
  · exact fm_ret F_u2
  · refine fm_ca F_u2 (ff_X13_comesBack nn) (nw_sub rfl) ?_; intro u4 F_u4
    refine fm_if ?_ ?_
    · exact fm_ret F_u4
    · exact fm_ret F_u4
set_option maxRecDepth 4000 in
theorem fj_X13_wanted_1592 (nn : Nat) {h : ms_M} : Fm_ (fun c k => nw_F wl_X13_wanted wf_X13_wanted false false c k = true) h (qj_X13_wanted_1592 nn h) (fun r => r.2) := by
  unfold qj_X13_wanted_1592
  have F_h : ∀ c k : Nat, (fun c k => nw_F wl_X13_wanted wf_X13_wanted false false c k = true) c k → h c k = h c k := fun _ _ _ => rfl
  refine fm_ca F_h (ff_X13_comesBack nn) (nw_sub rfl) ?_; intro u8 F_u8
  refine fm_if ?_ ?_
  · exact fm_ret F_u8
  · exact fm_ret F_u8
set_option maxRecDepth 4000 in
theorem fj_X13_wanted_1480 (nn : Nat) {l2 : Int} {l3 : Int} {h : ms_M} : Fm_ (fun c k => nw_F wl_X13_wanted wf_X13_wanted false false c k = true) h (qj_X13_wanted_1480 nn l2 l3 h) (fun r => r.2) := by
  unfold qj_X13_wanted_1480
  have F_h : ∀ c k : Nat, (fun c k => nw_F wl_X13_wanted wf_X13_wanted false false c k = true) c k → h c k = h c k := fun _ _ _ => rfl
  refine fm_if ?_ ?_
  · refine fm_ca F_h (ff_X13_calls nn) (nw_sub rfl) ?_; intro u11 F_u11
    refine fm_ck ?_; intro _
    exact fm_ret F_u11
  · refine fm_ca F_h (ff_X13_calls nn) (nw_sub rfl) ?_; intro u14 F_u14
    refine fm_ck ?_; intro _
    exact fm_ret F_u14
set_option maxRecDepth 4000 in
theorem fj_X13_wanted_1453 (nn : Nat) {l3 : Int} {h : ms_M} : Fm_ (fun c k => nw_F wl_X13_wanted wf_X13_wanted false false c k = true) h (qj_X13_wanted_1453 nn l3 h) (fun r => r.2) := by
  unfold qj_X13_wanted_1453
  have F_h : ∀ c k : Nat, (fun c k => nw_F wl_X13_wanted wf_X13_wanted false false c k = true) c k → h c k = h c k := fun _ _ _ => rfl
  refine fm_pu ?_; intro u19
  refine fm_ca F_h (ff_X13_typeOfClass nn) (nw_sub rfl) ?_; intro u21 F_u21
  refine fm_ca F_u21 (ff_X13_pullFit nn) (nw_sub rfl) ?_; intro u23 F_u23
  refine fm_if ?_ ?_
  · exact fm_ret F_u23
  · exact fm_ret F_u23
set_option maxRecDepth 4000 in
theorem fj_X13_wanted_1287 (nn : Nat) {h : ms_M} : Fm_ (fun c k => nw_F wl_X13_wanted wf_X13_wanted false false c k = true) h (qj_X13_wanted_1287 nn h) (fun r => r.2) := by
  unfold qj_X13_wanted_1287
  have F_h : ∀ c k : Nat, (fun c k => nw_F wl_X13_wanted wf_X13_wanted false false c k = true) c k → h c k = h c k := fun _ _ _ => rfl
  refine fm_ca F_h (ff_X13_pullInts nn) (nw_sub rfl) ?_; intro u26 F_u26
  refine fm_if ?_ ?_
  · exact fm_ret F_u26
  · exact fm_ret F_u26
set_option maxRecDepth 4000 in
theorem fj_X13_wanted_1239 (nn : Nat) {h : ms_M} : Fm_ (fun c k => nw_F wl_X13_wanted wf_X13_wanted false false c k = true) h (qj_X13_wanted_1239 nn h) (fun r => r.2) := by
  unfold qj_X13_wanted_1239
  have F_h : ∀ c k : Nat, (fun c k => nw_F wl_X13_wanted wf_X13_wanted false false c k = true) c k → h c k = h c k := fun _ _ _ => rfl
  refine fm_ca F_h (ff_X13_pullThing nn) (nw_sub rfl) ?_; intro u29 F_u29
  refine fm_if ?_ ?_
  · exact fm_ret F_u29
  · refine fm_ca F_u29 (ff_X13_pullThing nn) (nw_sub rfl) ?_; intro u31 F_u31
    refine fm_if ?_ ?_
    · exact fm_ret F_u31
    · exact fm_ret F_u31
set_option maxRecDepth 4000 in
theorem fj_X13_wanted_1233 (nn : Nat) {h : ms_M} : Fm_ (fun c k => nw_F wl_X13_wanted wf_X13_wanted false false c k = true) h (qj_X13_wanted_1233 nn h) (fun r => r.2) := by
  unfold qj_X13_wanted_1233
  have F_h : ∀ c k : Nat, (fun c k => nw_F wl_X13_wanted wf_X13_wanted false false c k = true) c k → h c k = h c k := fun _ _ _ => rfl
  refine fm_ca F_h (ff_X13_pullInts nn) (nw_sub rfl) ?_; intro u35 F_u35
  refine fm_ck ?_; intro _
  exact fm_ret F_u35
set_option maxRecDepth 4000 in
theorem fj_X13_wanted_1227 (nn : Nat) {h : ms_M} : Fm_ (fun c k => nw_F wl_X13_wanted wf_X13_wanted false false c k = true) h (qj_X13_wanted_1227 nn h) (fun r => r.2) := by
  unfold qj_X13_wanted_1227
  have F_h : ∀ c k : Nat, (fun c k => nw_F wl_X13_wanted wf_X13_wanted false false c k = true) c k → h c k = h c k := fun _ _ _ => rfl
  refine fm_ca F_h (ff_X13_pullInts nn) (nw_sub rfl) ?_; intro u38 F_u38
  refine fm_ck ?_; intro _
  exact fm_ret F_u38
set_option maxRecDepth 4000 in
theorem fj_X13_wanted_1183 (nn : Nat) {h : ms_M} : Fm_ (fun c k => nw_F wl_X13_wanted wf_X13_wanted false false c k = true) h (qj_X13_wanted_1183 nn h) (fun r => r.2) := by
  unfold qj_X13_wanted_1183
  have F_h : ∀ c k : Nat, (fun c k => nw_F wl_X13_wanted wf_X13_wanted false false c k = true) c k → h c k = h c k := fun _ _ _ => rfl
  refine fm_ca F_h (ff_X13_pullInts nn) (nw_sub rfl) ?_; intro u41 F_u41
  refine fm_if ?_ ?_
  · exact fm_ret F_u41
  · refine fm_ca F_u41 (ff_X13_comesBack nn) (nw_sub rfl) ?_; intro u43 F_u43
    refine fm_if ?_ ?_
    · exact fm_ret F_u43
    · exact fm_ret F_u43
set_option maxRecDepth 4000 in
theorem fj_X13_wanted_1136 (nn : Nat) {h : ms_M} : Fm_ (fun c k => nw_F wl_X13_wanted wf_X13_wanted false false c k = true) h (qj_X13_wanted_1136 nn h) (fun r => r.2) := by
  unfold qj_X13_wanted_1136
  have F_h : ∀ c k : Nat, (fun c k => nw_F wl_X13_wanted wf_X13_wanted false false c k = true) c k → h c k = h c k := fun _ _ _ => rfl
  exact fm_ret F_h
set_option maxRecDepth 4000 in
theorem fj_X13_wanted_982 (nn : Nat) {h : ms_M} : Fm_ (fun c k => nw_F wl_X13_wanted wf_X13_wanted false false c k = true) h (qj_X13_wanted_982 nn h) (fun r => r.2) := by
  unfold qj_X13_wanted_982
  have F_h : ∀ c k : Nat, (fun c k => nw_F wl_X13_wanted wf_X13_wanted false false c k = true) c k → h c k = h c k := fun _ _ _ => rfl
  refine fm_ca F_h (ff_X13_comesBack nn) (nw_sub rfl) ?_; intro u47 F_u47
  refine fm_if ?_ ?_
  · exact fm_ret F_u47
  · exact fm_ret F_u47
set_option maxRecDepth 4000 in
theorem fj_X13_wanted_962 (nn : Nat) {h : ms_M} : Fm_ (fun c k => nw_F wl_X13_wanted wf_X13_wanted false false c k = true) h (qj_X13_wanted_962 nn h) (fun r => r.2) := by
  unfold qj_X13_wanted_962
  have F_h : ∀ c k : Nat, (fun c k => nw_F wl_X13_wanted wf_X13_wanted false false c k = true) c k → h c k = h c k := fun _ _ _ => rfl
  exact fm_ret F_h
set_option maxRecDepth 4000 in
theorem fj_X13_wanted_820 (nn : Nat) {h : ms_M} : Fm_ (fun c k => nw_F wl_X13_wanted wf_X13_wanted false false c k = true) h (qj_X13_wanted_820 nn h) (fun r => r.2) := by
  unfold qj_X13_wanted_820
  have F_h : ∀ c k : Nat, (fun c k => nw_F wl_X13_wanted wf_X13_wanted false false c k = true) c k → h c k = h c k := fun _ _ _ => rfl
  refine fm_ca F_h (ff_X13_comesBack nn) (nw_sub rfl) ?_; intro u50 F_u50
  refine fm_ck ?_; intro _
  exact fm_ret F_u50
set_option maxRecDepth 4000 in
theorem fj_X13_wanted_812 (nn : Nat) {h : ms_M} : Fm_ (fun c k => nw_F wl_X13_wanted wf_X13_wanted false false c k = true) h (qj_X13_wanted_812 nn h) (fun r => r.2) := by
  unfold qj_X13_wanted_812
  have F_h : ∀ c k : Nat, (fun c k => nw_F wl_X13_wanted wf_X13_wanted false false c k = true) c k → h c k = h c k := fun _ _ _ => rfl
  exact fm_ret F_h
set_option maxRecDepth 4000 in
theorem fj_X13_wanted_25 (nn : Nat) {l2 : Int} {s0 : Int} {h : ms_M} : Fm_ (fun c k => nw_F wl_X13_wanted wf_X13_wanted false false c k = true) h (qj_X13_wanted_25 nn l2 s0 h) (fun r => r.2) := by
  unfold qj_X13_wanted_25
  have F_h : ∀ c k : Nat, (fun c k => nw_F wl_X13_wanted wf_X13_wanted false false c k = true) c k → h c k = h c k := fun _ _ _ => rfl
  refine fm_if ?_ ?_
  · exact fm_tl F_h (fj_X13_wanted_812 nn) (fun _ _ z => z)
  · refine fm_if ?_ ?_
    · refine fm_ca F_h (ff_X13_comesBack nn) (nw_sub rfl) ?_; intro u53 F_u53
      refine fm_ck ?_; intro _
      exact fm_ret F_u53
    · refine fm_if ?_ ?_
      · exact fm_tl F_h (fj_X13_wanted_820 nn) (fun _ _ z => z)
      · refine fm_if ?_ ?_
        · exact fm_tl F_h (fj_X13_wanted_820 nn) (fun _ _ z => z)
        · refine fm_if ?_ ?_
          · exact fm_tl F_h (fj_X13_wanted_820 nn) (fun _ _ z => z)
          · refine fm_if ?_ ?_
            · exact fm_tl F_h (fj_X13_wanted_820 nn) (fun _ _ z => z)
            · refine fm_if ?_ ?_
              · exact fm_tl F_h (fj_X13_wanted_820 nn) (fun _ _ z => z)
              · refine fm_if ?_ ?_
                · exact fm_tl F_h (fj_X13_wanted_820 nn) (fun _ _ z => z)
                · refine fm_if ?_ ?_
                  · exact fm_tl F_h (fj_X13_wanted_820 nn) (fun _ _ z => z)
                  · refine fm_if ?_ ?_
                    · exact fm_tl F_h (fj_X13_wanted_820 nn) (fun _ _ z => z)
                    · refine fm_if ?_ ?_
                      · exact fm_tl F_h (fj_X13_wanted_820 nn) (fun _ _ z => z)
                      · refine fm_if ?_ ?_
                        · refine fm_if ?_ ?_
                          · exact fm_ret F_h
                          · refine fm_rd ?_; intro v57
                            refine fm_if ?_ ?_
                            · exact fm_ret F_h
                            · refine fm_ca F_h (ff_X13_comesBack nn) (nw_sub rfl) ?_; intro u59 F_u59
                              refine fm_if ?_ ?_
                              · exact fm_ret F_u59
                              · exact fm_ret F_u59
                        · refine fm_if ?_ ?_
                          · refine fm_if ?_ ?_
                            · exact fm_ret F_h
                            · refine fm_rd ?_; intro v65
                              refine fm_if ?_ ?_
                              · exact fm_ret F_h
                              · refine fm_rd ?_; intro v67
                                refine fm_ca F_h (ff_X13_comesBack nn) (nw_sub rfl) ?_; intro u69 F_u69
                                refine fm_if ?_ ?_
                                · exact fm_ret F_u69
                                · exact fm_ret F_u69
                          · refine fm_if ?_ ?_
                            · refine fm_ca F_h (ff_X13_pullInts nn) (nw_sub rfl) ?_; intro u74 F_u74
                              refine fm_if ?_ ?_
                              · refine fm_ca F_u74 (ff_X13_pull nn) (nw_sub rfl) ?_; intro u76 F_u76
                                refine fm_if ?_ ?_
                                · exact fm_tl F_u76 (fj_X13_wanted_982 nn) (fun _ _ z => z)
                                · refine fm_if ?_ ?_
                                  · exact fm_ret F_u76
                                  · exact fm_tl F_u76 (fj_X13_wanted_982 nn) (fun _ _ z => z)
                              · exact fm_tl F_u74 (fj_X13_wanted_962 nn) (fun _ _ z => z)
                            · refine fm_if ?_ ?_
                              · refine fm_ca F_h (ff_X13_pullInts nn) (nw_sub rfl) ?_; intro u81 F_u81
                                refine fm_if ?_ ?_
                                · refine fm_ca F_u81 (ff_X13_pull nn) (nw_sub rfl) ?_; intro u83 F_u83
                                  refine fm_if ?_ ?_
                                  · refine fm_if ?_ ?_
                                    · exact fm_ret F_u83
                                    · refine fm_pu ?_; intro u84
                                      refine fm_if ?_ ?_
                                      · exact fm_ret F_u83
                                      · refine fm_xl ?_; intro v85
                                        refine fm_ca F_u83 (ff_X13_comesBack nn) (nw_sub rfl) ?_; intro u87 F_u87
                                        refine fm_if ?_ ?_
                                        · exact fm_ret F_u87
                                        · exact fm_ret F_u87
                                  · refine fm_ca F_u83 (ff_X13_comesBack nn) (nw_sub rfl) ?_; intro u92 F_u92
                                    refine fm_ck ?_; intro _
                                    exact fm_ret F_u92
                                · exact fm_ret F_u81
                              · refine fm_if ?_ ?_
                                · refine fm_if ?_ ?_
                                  · exact fm_ret F_h
                                  · refine fm_ca F_h (ff_X13_pull nn) (nw_sub rfl) ?_; intro u98 F_u98
                                    refine fm_if ?_ ?_
                                    · refine fm_wA F_u98 (nw_ne rfl) ?_; intro h100 F_h100
                                      exact fm_ret F_h100
                                    · exact fm_ret F_u98
                                · refine fm_if ?_ ?_
                                  · refine fm_ca F_h (ff_X13_pull nn) (nw_sub rfl) ?_; intro u104 F_u104
                                    refine fm_if ?_ ?_
                                    · exact fm_ret F_u104
                                    · refine fm_if ?_ ?_
                                      · refine fm_wA F_u104 (nw_ne rfl) ?_; intro h107 F_h107
                                        exact fm_ret F_h107
                                      · exact fm_ret F_u104
                                  · refine fm_if ?_ ?_
                                    · refine fm_ca F_h (ff_X13_pullInts nn) (nw_sub rfl) ?_; intro u111 F_u111
                                      refine fm_if ?_ ?_
                                      · refine fm_ca F_u111 (ff_X13_pull nn) (nw_sub rfl) ?_; intro u113 F_u113
                                        refine fm_if ?_ ?_
                                        · exact fm_ret F_u113
                                        · refine fm_if ?_ ?_
                                          · exact fm_ret F_u113
                                          · exact fm_ret F_u113
                                      · exact fm_ret F_u111
                                    · refine fm_if ?_ ?_
                                      · refine fm_ca F_h (ff_X13_pullThing nn) (nw_sub rfl) ?_; intro u118 F_u118
                                        refine fm_if ?_ ?_
                                        · exact fm_ret F_u118
                                        · refine fm_ca F_u118 (ff_X13_pullInts nn) (nw_sub rfl) ?_; intro u120 F_u120
                                          refine fm_if ?_ ?_
                                          · refine fm_ca F_u120 (ff_X13_pull nn) (nw_sub rfl) ?_; intro u122 F_u122
                                            refine fm_if ?_ ?_
                                            · exact fm_ret F_u122
                                            · refine fm_if ?_ ?_
                                              · exact fm_tl F_u122 (fj_X13_wanted_1136 nn) (fun _ _ z => z)
                                              · refine fm_pu ?_; intro u123
                                                refine fm_if ?_ ?_
                                                · exact fm_tl F_u122 (fj_X13_wanted_1136 nn) (fun _ _ z => z)
                                                · exact fm_ret F_u122
                                          · exact fm_ret F_u120
                                      · refine fm_if ?_ ?_
                                        · refine fm_ca F_h (ff_X13_pull nn) (nw_sub rfl) ?_; intro u130 F_u130
                                          refine fm_if ?_ ?_
                                          · exact fm_ret F_u130
                                          · exact fm_ret F_u130
                                        · refine fm_if ?_ ?_
                                          · refine fm_if ?_ ?_
                                            · exact fm_ret F_h
                                            · refine fm_xl ?_; intro v135
                                              refine fm_rd ?_; intro v136
                                              refine fm_ca F_h (ff_X13_comesBack nn) (nw_sub rfl) ?_; intro u138 F_u138
                                              refine fm_if ?_ ?_
                                              · exact fm_ret F_u138
                                              · exact fm_ret F_u138
                                          · refine fm_if ?_ ?_
                                            · exact fm_tl F_h (fj_X13_wanted_1183 nn) (fun _ _ z => z)
                                            · refine fm_if ?_ ?_
                                              · exact fm_tl F_h (fj_X13_wanted_1183 nn) (fun _ _ z => z)
                                              · refine fm_if ?_ ?_
                                                · exact fm_tl F_h (fj_X13_wanted_1183 nn) (fun _ _ z => z)
                                                · refine fm_if ?_ ?_
                                                  · exact fm_tl F_h (fj_X13_wanted_1183 nn) (fun _ _ z => z)
                                                  · refine fm_if ?_ ?_
                                                    · exact fm_tl F_h (fj_X13_wanted_1183 nn) (fun _ _ z => z)
                                                    · refine fm_if ?_ ?_
                                                      · refine fm_ca F_h (ff_X13_pullInts nn) (nw_sub rfl) ?_; intro u142 F_u142
                                                        refine fm_if ?_ ?_
                                                        · exact fm_ret F_u142
                                                        · refine fm_ca F_u142 (ff_X13_comesBack nn) (nw_sub rfl) ?_; intro u144 F_u144
                                                          refine fm_if ?_ ?_
                                                          · exact fm_ret F_u144
                                                          · exact fm_ret F_u144
                                                      · refine fm_if ?_ ?_
                                                        · exact fm_tl F_h (fj_X13_wanted_1183 nn) (fun _ _ z => z)
                                                        · refine fm_if ?_ ?_
                                                          · exact fm_tl F_h (fj_X13_wanted_1183 nn) (fun _ _ z => z)
                                                          · refine fm_if ?_ ?_
                                                            · exact fm_tl F_h (fj_X13_wanted_1183 nn) (fun _ _ z => z)
                                                            · refine fm_if ?_ ?_
                                                              · exact fm_tl F_h (fj_X13_wanted_1183 nn) (fun _ _ z => z)
                                                              · refine fm_if ?_ ?_
                                                                · exact fm_tl F_h (fj_X13_wanted_1183 nn) (fun _ _ z => z)
                                                                · refine fm_if ?_ ?_
                                                                  · exact fm_tl F_h (fj_X13_wanted_1183 nn) (fun _ _ z => z)
                                                                  · refine fm_if ?_ ?_
                                                                    · exact fm_tl F_h (fj_X13_wanted_1227 nn) (fun _ _ z => z)
                                                                    · refine fm_if ?_ ?_
                                                                      · exact fm_tl F_h (fj_X13_wanted_1227 nn) (fun _ _ z => z)
                                                                      · refine fm_if ?_ ?_
                                                                        · exact fm_tl F_h (fj_X13_wanted_1233 nn) (fun _ _ z => z)
                                                                        · refine fm_if ?_ ?_
                                                                          · exact fm_tl F_h (fj_X13_wanted_1233 nn) (fun _ _ z => z)
                                                                          · refine fm_if ?_ ?_
                                                                            · exact fm_tl F_h (fj_X13_wanted_1233 nn) (fun _ _ z => z)
                                                                            · refine fm_if ?_ ?_
                                                                              · exact fm_tl F_h (fj_X13_wanted_1233 nn) (fun _ _ z => z)
                                                                              · refine fm_if ?_ ?_
                                                                                · exact fm_tl F_h (fj_X13_wanted_1233 nn) (fun _ _ z => z)
                                                                                · refine fm_if ?_ ?_
                                                                                  · exact fm_tl F_h (fj_X13_wanted_1233 nn) (fun _ _ z => z)
                                                                                  · refine fm_if ?_ ?_
                                                                                    · exact fm_tl F_h (fj_X13_wanted_1239 nn) (fun _ _ z => z)
                                                                                    · refine fm_if ?_ ?_
                                                                                      · exact fm_tl F_h (fj_X13_wanted_1239 nn) (fun _ _ z => z)
                                                                                      · refine fm_if ?_ ?_
                                                                                        · exact fm_tl F_h (fj_X13_wanted_812 nn) (fun _ _ z => z)
                                                                                        · refine fm_if ?_ ?_
                                                                                          · refine fm_rd ?_; intro v149
                                                                                            refine fm_if ?_ ?_
                                                                                            · exact fm_tl F_h (fj_X13_wanted_1287 nn) (fun _ _ z => z)
                                                                                            · refine fm_rd ?_; intro v152
                                                                                              refine fm_if ?_ ?_
                                                                                              · exact fm_ret F_h
                                                                                              · exact fm_tl F_h (fj_X13_wanted_1287 nn) (fun _ _ z => z)
                                                                                          · refine fm_if ?_ ?_
                                                                                            · refine fm_rd ?_; intro v157
                                                                                              refine fm_if ?_ ?_
                                                                                              · exact fm_ret F_h
                                                                                              · refine fm_rd ?_; intro v160
                                                                                                refine fm_if ?_ ?_
                                                                                                · exact fm_ret F_h
                                                                                                · refine fm_rd ?_; intro v163
                                                                                                  refine fm_if ?_ ?_
                                                                                                  · exact fm_ret F_h
                                                                                                  · refine fm_ca F_h (ff_X13_typeAt nn) (nw_sub rfl) ?_; intro u166 F_u166
                                                                                                    refine fm_ca F_u166 (ff_X13_pullFit nn) (nw_sub rfl) ?_; intro u168 F_u168
                                                                                                    refine fm_if ?_ ?_
                                                                                                    · exact fm_ret F_u168
                                                                                                    · exact fm_ret F_u168
                                                                                            · refine fm_if ?_ ?_
                                                                                              · refine fm_rd ?_; intro v175
                                                                                                refine fm_if ?_ ?_
                                                                                                · exact fm_ret F_h
                                                                                                · exact fm_ret F_h
                                                                                              · refine fm_if ?_ ?_
                                                                                                · refine fm_pu ?_; intro u179
                                                                                                  refine fm_ca F_h (ff_X13_typeOfClass nn) (nw_sub rfl) ?_; intro u181 F_u181
                                                                                                  refine fm_ca F_u181 (ff_X13_pullFit nn) (nw_sub rfl) ?_; intro u183 F_u183
                                                                                                  refine fm_if ?_ ?_
                                                                                                  · exact fm_ret F_u183
                                                                                                  · refine fm_pu ?_; intro u186
                                                                                                    refine fm_ca F_u183 (ff_X13_kindType nn) (nw_sub rfl) ?_; intro u188 F_u188
                                                                                                    refine fm_ca F_u188 (ff_X13_comesBack nn) (nw_sub rfl) ?_; intro u190 F_u190
                                                                                                    refine fm_if ?_ ?_
                                                                                                    · exact fm_ret F_u190
                                                                                                    · exact fm_ret F_u190
                                                                                                · refine fm_if ?_ ?_
                                                                                                  · refine fm_pu ?_; intro u195
                                                                                                    refine fm_ca F_h (ff_X13_kindType nn) (nw_sub rfl) ?_; intro u197 F_u197
                                                                                                    refine fm_ca F_u197 (ff_X13_pullFit nn) (nw_sub rfl) ?_; intro u199 F_u199
                                                                                                    refine fm_if ?_ ?_
                                                                                                    · exact fm_ret F_u199
                                                                                                    · exact fm_tl F_u199 (fj_X13_wanted_1453 nn) (fun _ _ z => z)
                                                                                                  · refine fm_if ?_ ?_
                                                                                                    · exact fm_tl F_h (fj_X13_wanted_1480 nn) (fun _ _ z => z)
                                                                                                    · refine fm_if ?_ ?_
                                                                                                      · exact fm_tl F_h (fj_X13_wanted_1480 nn) (fun _ _ z => z)
                                                                                                      · refine fm_if ?_ ?_
                                                                                                        · exact fm_tl F_h (fj_X13_wanted_1227 nn) (fun _ _ z => z)
                                                                                                        · refine fm_if ?_ ?_
                                                                                                          · refine fm_ca F_h (ff_X13_typeOfClass nn) (nw_sub rfl) ?_; intro u203 F_u203
                                                                                                            refine fm_ca F_u203 (ff_X13_comesBack nn) (nw_sub rfl) ?_; intro u205 F_u205
                                                                                                            refine fm_ck ?_; intro _
                                                                                                            exact fm_ret F_u205
                                                                                                          · refine fm_if ?_ ?_
                                                                                                            · refine fm_ca F_h (ff_X13_pullInts nn) (nw_sub rfl) ?_; intro u208 F_u208
                                                                                                              refine fm_if ?_ ?_
                                                                                                              · exact fm_ret F_u208
                                                                                                              · refine fm_ca F_u208 (ff_X13_comesBack nn) (nw_sub rfl) ?_; intro u210 F_u210
                                                                                                                refine fm_if ?_ ?_
                                                                                                                · exact fm_ret F_u210
                                                                                                                · exact fm_ret F_u210
                                                                                                            · refine fm_if ?_ ?_
                                                                                                              · refine fm_ca F_h (ff_X13_pullInts nn) (nw_sub rfl) ?_; intro u214 F_u214
                                                                                                                refine fm_if ?_ ?_
                                                                                                                · exact fm_ret F_u214
                                                                                                                · refine fm_ca F_u214 (ff_X13_typeOfClass nn) (nw_sub rfl) ?_; intro u217 F_u217
                                                                                                                  refine fm_xl ?_; intro v218
                                                                                                                  refine fm_ca F_u217 (ff_X13_comesBack nn) (nw_sub rfl) ?_; intro u220 F_u220
                                                                                                                  refine fm_if ?_ ?_
                                                                                                                  · exact fm_ret F_u220
                                                                                                                  · exact fm_ret F_u220
                                                                                                              · refine fm_if ?_ ?_
                                                                                                                · refine fm_ca F_h (ff_X13_pull nn) (nw_sub rfl) ?_; intro u224 F_u224
                                                                                                                  refine fm_if ?_ ?_
                                                                                                                  · exact fm_tl F_u224 (fj_X13_wanted_1592 nn) (fun _ _ z => z)
                                                                                                                  · refine fm_if ?_ ?_
                                                                                                                    · exact fm_ret F_u224
                                                                                                                    · refine fm_pu ?_; intro u225
                                                                                                                      refine fm_if ?_ ?_
                                                                                                                      · exact fm_ret F_u224
                                                                                                                      · exact fm_tl F_u224 (fj_X13_wanted_1592 nn) (fun _ _ z => z)
                                                                                                                · refine fm_if ?_ ?_
                                                                                                                  · refine fm_ca F_h (ff_X13_pullFit nn) (nw_sub rfl) ?_; intro u230 F_u230
                                                                                                                    refine fm_ck ?_; intro _
                                                                                                                    exact fm_ret F_u230
                                                                                                                  · refine fm_if ?_ ?_
                                                                                                                    · refine fm_ca F_h (ff_X13_pullThing nn) (nw_sub rfl) ?_; intro u233 F_u233
                                                                                                                      refine fm_if ?_ ?_
                                                                                                                      · exact fm_ret F_u233
                                                                                                                      · refine fm_ca F_u233 (ff_X13_typeOfClass nn) (nw_sub rfl) ?_; intro u236 F_u236
                                                                                                                        refine fm_ca F_u236 (ff_X13_comesBack nn) (nw_sub rfl) ?_; intro u238 F_u238
                                                                                                                        refine fm_if ?_ ?_
                                                                                                                        · exact fm_ret F_u238
                                                                                                                        · exact fm_ret F_u238
                                                                                                                    · exact fm_tl F_h (fj_X13_wanted_1642 nn) (fun _ _ z => z)
set_option maxRecDepth 4000 in
theorem ff_X13_wanted (nn : Nat) {a1 : Int} {h : ms_M} : Fm_ (fun c k => nw_F wl_X13_wanted wf_X13_wanted false false c k = true) h (qf_X13_wanted nn a1 h) (fun r => r.2) := by
  unfold qf_X13_wanted
  have F_h : ∀ c k : Nat, (fun c k => nw_F wl_X13_wanted wf_X13_wanted false false c k = true) c k → h c k = h c k := fun _ _ _ => rfl
  refine fm_pu ?_; intro u242
  refine fm_pu ?_; intro u243
  refine fm_if ?_ ?_
  · exact fm_tl F_h (fj_X13_wanted_25 nn) (fun _ _ z => z)
  · refine fm_xl ?_; intro v244
    refine fm_pu ?_; intro u246
    exact fm_tl F_h (fj_X13_wanted_25 nn) (fun _ _ z => z)
set_option maxRecDepth 4000 in
theorem fj_X13_flows_408 (nn : Nat) {qkk_155 : Int → Int → Int → Int → ms_M → Option (Int × ms_M)} (hk_kk_155 : ∀ {l1 : Int} {l2 : Int} {l5 : Int} {l6 : Int} {h : ms_M}, Fm_ (fun c k => nw_F wl_X13_flows wf_X13_flows false false c k = true) h (qkk_155 l1 l2 l5 l6 h) (fun r => r.2)) {l1 : Int} {l2 : Int} {l6 : Int} {s0 : Int} {h : ms_M} : Fm_ (fun c k => nw_F wl_X13_flows wf_X13_flows false false c k = true) h (qj_X13_flows_408 nn qkk_155 l1 l2 l6 s0 h) (fun r => r.2) := by
  unfold qj_X13_flows_408
  have F_h : ∀ c k : Nat, (fun c k => nw_F wl_X13_flows wf_X13_flows false false c k = true) c k → h c k = h c k := fun _ _ _ => rfl
  refine fm_pu ?_; intro u2
  refine fm_pu ?_; intro u3
  refine fm_xl ?_; intro v4
  exact fm_tl F_h (hk_kk_155) (fun _ _ z => z)
