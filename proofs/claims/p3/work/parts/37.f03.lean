set_option maxRecDepth 4000 in
theorem fo_X8_readUnary (nn : Nat) {rc : tq_X8_readValue} (hr : fgr_X8_readValue rc) {a1 : Int} {h : ms_M} : Fm_ (fun c k => nw_F wl_X8_readUnary wf_X8_readUnary false false c k = true) h (qo_X8_readUnary nn rc a1 h) (fun r => r) := by
  unfold qo_X8_readUnary
  have F_h : ∀ c k : Nat, (fun c k => nw_F wl_X8_readUnary wf_X8_readUnary false false c k = true) c k → h c k = h c k := fun _ _ _ => rfl
  refine fm_pu ?_; intro u14
  refine fm_pu ?_; intro u17
  refine fm_if ?_ ?_
  · exact fm_tl F_h (fj_X8_readUnary_44 nn hr) (fun _ _ z => z)
  · refine fm_if ?_ ?_
    · exact fm_tl F_h (fj_X8_readUnary_44 nn hr) (fun _ _ z => z)
    · refine fm_if ?_ ?_
      · exact fm_tl F_h (fj_X8_readUnary_44 nn hr) (fun _ _ z => z)
      · refine fm_if ?_ ?_
        · exact fm_tl F_h (fj_X8_readUnary_44 nn hr) (fun _ _ z => z)
        · refine fm_ca F_h (hr.2.2.1) (fun _ _ z => z) ?_; intro u19 F_u19
          exact fm_ret F_u19
set_option maxRecDepth 4000 in
theorem fj_X8_readPrimary_160 (nn : Nat) {rc : tq_X8_readValue} (hr : fgr_X8_readValue rc) {l1 : Int} {h : ms_M} : Fm_ (fun c k => nw_F wl_X8_readPrimary wf_X8_readPrimary false false c k = true) h (qj_X8_readPrimary_160 nn rc l1 h) (fun r => r) := by
  unfold qj_X8_readPrimary_160
  have F_h : ∀ c k : Nat, (fun c k => nw_F wl_X8_readPrimary wf_X8_readPrimary false false c k = true) c k → h c k = h c k := fun _ _ _ => rfl
  refine fm_ca F_h (hr.2.2.2.1) (fun _ _ z => z) ?_; intro u2 F_u2
  exact fm_ret F_u2
set_option maxRecDepth 4000 in
theorem fj_X8_readPrimary_80 (nn : Nat) {rc : tq_X8_readValue} (hr : fgr_X8_readValue rc) {l1 : Int} {h : ms_M} : Fm_ (fun c k => nw_F wl_X8_readPrimary wf_X8_readPrimary false false c k = true) h (qj_X8_readPrimary_80 nn rc l1 h) (fun r => r) := by
  unfold qj_X8_readPrimary_80
  have F_h : ∀ c k : Nat, (fun c k => nw_F wl_X8_readPrimary wf_X8_readPrimary false false c k = true) c k → h c k = h c k := fun _ _ _ => rfl
  refine fm_xl ?_; intro v5
  refine fm_up F_h (nw_nf rfl) ?_; intro h6 F_h6
  exact fm_tl F_h6 (fj_X8_readPrimary_160 nn hr) (fun _ _ z => z)
set_option maxRecDepth 4000 in
theorem fo_X8_readPrimary (nn : Nat) {rc : tq_X8_readValue} (hr : fgr_X8_readValue rc) {a1 : Int} {h : ms_M} : Fm_ (fun c k => nw_F wl_X8_readPrimary wf_X8_readPrimary false false c k = true) h (qo_X8_readPrimary nn rc a1 h) (fun r => r) := by
  unfold qo_X8_readPrimary
  have F_h : ∀ c k : Nat, (fun c k => nw_F wl_X8_readPrimary wf_X8_readPrimary false false c k = true) c k → h c k = h c k := fun _ _ _ => rfl
  refine fm_pu ?_; intro u9
  refine fm_if ?_ ?_
  · refine fm_xl ?_; intro v15
    refine fm_up F_h (nw_nf rfl) ?_; intro h16 F_h16
    refine fm_ca F_h16 (hr.2.2.2.2.2) (fun _ _ z => z) ?_; intro u18 F_u18
    exact fm_tl F_u18 (fj_X8_readPrimary_160 nn hr) (fun _ _ z => z)
  · refine fm_if ?_ ?_
    · exact fm_tl F_h (fj_X8_readPrimary_80 nn hr) (fun _ _ z => z)
    · refine fm_if ?_ ?_
      · exact fm_tl F_h (fj_X8_readPrimary_80 nn hr) (fun _ _ z => z)
      · refine fm_if ?_ ?_
        · refine fm_ca F_h (hr.2.2.2.2.1) (fun _ _ z => z) ?_; intro u20 F_u20
          exact fm_tl F_u20 (fj_X8_readPrimary_160 nn hr) (fun _ _ z => z)
        · refine fm_if ?_ ?_
          · exact fm_tl F_h (fj_X8_readPrimary_80 nn hr) (fun _ _ z => z)
          · refine fm_if ?_ ?_
            · exact fm_tl F_h (fj_X8_readPrimary_80 nn hr) (fun _ _ z => z)
            · refine fm_if ?_ ?_
              · exact fm_tl F_h (fj_X8_readPrimary_80 nn hr) (fun _ _ z => z)
              · refine fm_if ?_ ?_
                · refine fm_xl ?_; intro v23
                  refine fm_up F_h (nw_nf rfl) ?_; intro h24 F_h24
                  refine fm_ca F_h24 (hr.1) (fun _ _ z => z) ?_; intro u26 F_u26
                  refine fm_ca F_u26 (ff_X8_need nn) (nw_sub rfl) ?_; intro u28 F_u28
                  exact fm_tl F_u28 (fj_X8_readPrimary_160 nn hr) (fun _ _ z => z)
                · refine fm_ca F_h (ff_X9_tellHere nn) (nw_sub rfl) ?_; intro u12 F_u12
                  exact fm_tl F_u12 (fj_X8_readPrimary_160 nn hr) (fun _ _ z => z)
set_option maxRecDepth 4000 in
theorem fw_X8_readBehind_4 (nn : Nat) {rc : tq_X8_readValue} (hr : fgr_X8_readValue rc) : ∀ (k : Nat) {l1 : Int} {l2 : Int} {l3 : Int} {h : ms_M}, Fm_ (fun c k => nw_F wl_X8_readBehind wf_X8_readBehind false false c k = true) h (qw_X8_readBehind_4 nn rc k l1 l2 l3 h) (fun r => r) := by
  intro k
  induction k with
  | zero => intros; exact fm_no
  | succ k ih =>
    intro l1 l2 l3 h
    unfold qw_X8_readBehind_4
    have F_h : ∀ c k : Nat, (fun c k => nw_F wl_X8_readBehind wf_X8_readBehind false false c k = true) c k → h c k = h c k := fun _ _ _ => rfl
    refine fm_if ?_ ?_
    · exact fm_ret F_h
    · refine fm_if ?_ ?_
      · exact fm_ret F_h
      · refine fm_ca F_h (ff_X8_accept nn) (nw_sub rfl) ?_; intro u2 F_u2
        refine fm_if ?_ ?_
        · refine fm_ca F_u2 (ff_X8_accept nn) (nw_sub rfl) ?_; intro u4 F_u4
          refine fm_if ?_ ?_
          · refine fm_xl ?_; intro v5
            exact fm_tl F_u4 (ih ) (fun _ _ z => z)
          · refine fm_ca F_u4 (hr.1) (fun _ _ z => z) ?_; intro u7 F_u7
            refine fm_ca F_u7 (ff_X8_need nn) (nw_sub rfl) ?_; intro u9 F_u9
            refine fm_xl ?_; intro v10
            exact fm_tl F_u9 (ih ) (fun _ _ z => z)
        · refine fm_ca F_u2 (ff_X8_need nn) (nw_sub rfl) ?_; intro u13 F_u13
          refine fm_ca F_u13 (hr.2.2.2.2.2) (fun _ _ z => z) ?_; intro u15 F_u15
          refine fm_xl ?_; intro v16
          exact fm_tl F_u15 (ih ) (fun _ _ z => z)
set_option maxRecDepth 4000 in
theorem fo_X8_readBehind (nn : Nat) {rc : tq_X8_readValue} (hr : fgr_X8_readValue rc) {a1 : Int} {h : ms_M} : Fm_ (fun c k => nw_F wl_X8_readBehind wf_X8_readBehind false false c k = true) h (qo_X8_readBehind nn rc a1 h) (fun r => r) := by
  unfold qo_X8_readBehind
  have F_h : ∀ c k : Nat, (fun c k => nw_F wl_X8_readBehind wf_X8_readBehind false false c k = true) c k → h c k = h c k := fun _ _ _ => rfl
  exact fm_tl F_h (fw_X8_readBehind_4 nn hr _) (fun _ _ z => z)
set_option maxRecDepth 4000 in
theorem fj_X8_readNew_45 (nn : Nat) {rc : tq_X8_readValue} (hr : fgr_X8_readValue rc) {l1 : Int} {h : ms_M} : Fm_ (fun c k => nw_F wl_X8_readNew wf_X8_readNew false false c k = true) h (qj_X8_readNew_45 nn rc l1 h) (fun r => r) := by
  unfold qj_X8_readNew_45
  have F_h : ∀ c k : Nat, (fun c k => nw_F wl_X8_readNew wf_X8_readNew false false c k = true) c k → h c k = h c k := fun _ _ _ => rfl
  refine fm_ca F_h (ff_X8_need nn) (nw_sub rfl) ?_; intro u2 F_u2
  refine fm_ca F_u2 (hr.1) (fun _ _ z => z) ?_; intro u4 F_u4
  refine fm_ca F_u4 (ff_X8_need nn) (nw_sub rfl) ?_; intro u6 F_u6
  exact fm_ret F_u6
set_option maxRecDepth 4000 in
theorem fo_X8_readNew (nn : Nat) {rc : tq_X8_readValue} (hr : fgr_X8_readValue rc) {a1 : Int} {h : ms_M} : Fm_ (fun c k => nw_F wl_X8_readNew wf_X8_readNew false false c k = true) h (qo_X8_readNew nn rc a1 h) (fun r => r) := by
  unfold qo_X8_readNew
  have F_h : ∀ c k : Nat, (fun c k => nw_F wl_X8_readNew wf_X8_readNew false false c k = true) c k → h c k = h c k := fun _ _ _ => rfl
  refine fm_xl ?_; intro v9
  refine fm_up F_h (nw_nf rfl) ?_; intro h10 F_h10
  refine fm_ca F_h10 (ff_X8_accept nn) (nw_sub rfl) ?_; intro u12 F_u12
  refine fm_if ?_ ?_
  · exact fm_tl F_u12 (fj_X8_readNew_45 nn hr) (fun _ _ z => z)
  · refine fm_ca F_u12 (ff_X8_need nn) (nw_sub rfl) ?_; intro u14 F_u14
    refine fm_ca F_u14 (ff_X8_accept nn) (nw_sub rfl) ?_; intro u16 F_u16
    refine fm_if ?_ ?_
    · exact fm_tl F_u16 (fj_X8_readNew_45 nn hr) (fun _ _ z => z)
    · refine fm_ca F_u16 (ff_X8_need nn) (nw_sub rfl) ?_; intro u18 F_u18
      exact fm_ret F_u18
set_option maxRecDepth 4000 in
theorem fj_X8_readArguments_52 (nn : Nat) {rc : tq_X8_readValue} (hr : fgr_X8_readValue rc) {h : ms_M} : Fm_ (fun c k => nw_F wl_X8_readArguments wf_X8_readArguments false false c k = true) h (qj_X8_readArguments_52 nn rc h) (fun r => r) := by
  unfold qj_X8_readArguments_52
  have F_h : ∀ c k : Nat, (fun c k => nw_F wl_X8_readArguments wf_X8_readArguments false false c k = true) c k → h c k = h c k := fun _ _ _ => rfl
  refine fm_ca F_h (ff_X8_need nn) (nw_sub rfl) ?_; intro u2 F_u2
  exact fm_ret F_u2
set_option maxRecDepth 4000 in
theorem fw_X8_readArguments_23 (nn : Nat) {rc : tq_X8_readValue} (hr : fgr_X8_readValue rc) : ∀ (k : Nat) {l1 : Int} {l2 : Int} {l3 : Int} {h : ms_M}, Fm_ (fun c k => nw_F wl_X8_readArguments wf_X8_readArguments false false c k = true) h (qw_X8_readArguments_23 nn rc k l1 l2 l3 h) (fun r => r) := by
  intro k
  induction k with
  | zero => intros; exact fm_no
  | succ k ih =>
    intro l1 l2 l3 h
    unfold qw_X8_readArguments_23
    have F_h : ∀ c k : Nat, (fun c k => nw_F wl_X8_readArguments wf_X8_readArguments false false c k = true) c k → h c k = h c k := fun _ _ _ => rfl
    refine fm_if ?_ ?_
    · exact fm_tl F_h (fj_X8_readArguments_52 nn hr) (fun _ _ z => z)
    · refine fm_if ?_ ?_
      · exact fm_tl F_h (fj_X8_readArguments_52 nn hr) (fun _ _ z => z)
      · refine fm_ca F_h (hr.1) (fun _ _ z => z) ?_; intro u4 F_u4
        refine fm_ca F_u4 (ff_X8_accept nn) (nw_sub rfl) ?_; intro u6 F_u6
        refine fm_xl ?_; intro v7
        exact fm_tl F_u6 (ih ) (fun _ _ z => z)
set_option maxRecDepth 4000 in
theorem fo_X8_readArguments (nn : Nat) {rc : tq_X8_readValue} (hr : fgr_X8_readValue rc) {a1 : Int} {h : ms_M} : Fm_ (fun c k => nw_F wl_X8_readArguments wf_X8_readArguments false false c k = true) h (qo_X8_readArguments nn rc a1 h) (fun r => r) := by
  unfold qo_X8_readArguments
  have F_h : ∀ c k : Nat, (fun c k => nw_F wl_X8_readArguments wf_X8_readArguments false false c k = true) c k → h c k = h c k := fun _ _ _ => rfl
  refine fm_ca F_h (ff_X8_accept nn) (nw_sub rfl) ?_; intro u11 F_u11
  refine fm_if ?_ ?_
  · exact fm_ret F_u11
  · refine fm_ca F_u11 (ff_X8_accept nn) (nw_sub rfl) ?_; intro u13 F_u13
    refine fm_if ?_ ?_
    · exact fm_tl F_u13 (fw_X8_readArguments_23 nn hr _) (fun _ _ z => z)
    · exact fm_ret F_u13
set_option maxRecDepth 4000 in
theorem fg_X8_readValue (nn : Nat) : ∀ d, fgr_X8_readValue (qg_X8_readValue nn d) := by
  intro d
  induction d with
  | zero => exact ⟨(by intros; exact fm_no), (by intros; exact fm_no), (by intros; exact fm_no), (by intros; exact fm_no), (by intros; exact fm_no), (by intros; exact fm_no)⟩
  | succ d ih => exact ⟨fo_X8_readValue nn ih, fo_X8_readUnary nn ih, fo_X8_readPrimary nn ih, fo_X8_readBehind nn ih, fo_X8_readNew nn ih, fo_X8_readArguments nn ih⟩
set_option maxRecDepth 4000 in
theorem ff_X8_readValue (nn : Nat) {a1 : Int} {h : ms_M} : Fm_ (fun c k => nw_F wl_X8_readValue wf_X8_readValue false false c k = true) h (qf_X8_readValue nn a1 h) (fun r => r) := (fg_X8_readValue nn 260).1
set_option maxRecDepth 4000 in
theorem ff_X8_readUnary (nn : Nat) {a1 : Int} {h : ms_M} : Fm_ (fun c k => nw_F wl_X8_readUnary wf_X8_readUnary false false c k = true) h (qf_X8_readUnary nn a1 h) (fun r => r) := (fg_X8_readValue nn 260).2.1
set_option maxRecDepth 4000 in
theorem ff_X8_readPrimary (nn : Nat) {a1 : Int} {h : ms_M} : Fm_ (fun c k => nw_F wl_X8_readPrimary wf_X8_readPrimary false false c k = true) h (qf_X8_readPrimary nn a1 h) (fun r => r) := (fg_X8_readValue nn 260).2.2.1
set_option maxRecDepth 4000 in
theorem ff_X8_readBehind (nn : Nat) {a1 : Int} {h : ms_M} : Fm_ (fun c k => nw_F wl_X8_readBehind wf_X8_readBehind false false c k = true) h (qf_X8_readBehind nn a1 h) (fun r => r) := (fg_X8_readValue nn 260).2.2.2.1
set_option maxRecDepth 4000 in
theorem ff_X8_readNew (nn : Nat) {a1 : Int} {h : ms_M} : Fm_ (fun c k => nw_F wl_X8_readNew wf_X8_readNew false false c k = true) h (qf_X8_readNew nn a1 h) (fun r => r) := (fg_X8_readValue nn 260).2.2.2.2.1
set_option maxRecDepth 4000 in
theorem ff_X8_readArguments (nn : Nat) {a1 : Int} {h : ms_M} : Fm_ (fun c k => nw_F wl_X8_readArguments wf_X8_readArguments false false c k = true) h (qf_X8_readArguments nn a1 h) (fun r => r) := (fg_X8_readValue nn 260).2.2.2.2.2
set_option maxRecDepth 4000 in
theorem ff_X8_readCondition (nn : Nat) {a1 : Int} {h : ms_M} : Fm_ (fun c k => nw_F wl_X8_readCondition wf_X8_readCondition false false c k = true) h (qf_X8_readCondition nn a1 h) (fun r => r) := by
  unfold qf_X8_readCondition
  have F_h : ∀ c k : Nat, (fun c k => nw_F wl_X8_readCondition wf_X8_readCondition false false c k = true) c k → h c k = h c k := fun _ _ _ => rfl
  refine fm_xl ?_; intro v3
  refine fm_up F_h (nw_nf rfl) ?_; intro h4 F_h4
  refine fm_ca F_h4 (ff_X8_need nn) (nw_sub rfl) ?_; intro u6 F_u6
  refine fm_ca F_u6 (ff_X8_readValue nn) (nw_sub rfl) ?_; intro u8 F_u8
  refine fm_ca F_u8 (ff_X8_need nn) (nw_sub rfl) ?_; intro u10 F_u10
  exact fm_ret F_u10
set_option maxRecDepth 4000 in
theorem fj_X8_readPlain_56 (nn : Nat) {h : ms_M} : Fm_ (fun c k => nw_F wl_X8_readPlain wf_X8_readPlain false false c k = true) h (qj_X8_readPlain_56 nn h) (fun r => r) := by
  unfold qj_X8_readPlain_56
  have F_h : ∀ c k : Nat, (fun c k => nw_F wl_X8_readPlain wf_X8_readPlain false false c k = true) c k → h c k = h c k := fun _ _ _ => rfl
  refine fm_xl ?_; intro v3
  refine fm_up F_h (nw_nf rfl) ?_; intro h4 F_h4
  exact fm_ret F_h4
set_option maxRecDepth 4000 in
theorem ff_X8_readPlain (nn : Nat) {a1 : Int} {h : ms_M} : Fm_ (fun c k => nw_F wl_X8_readPlain wf_X8_readPlain false false c k = true) h (qf_X8_readPlain nn a1 h) (fun r => r) := by
  unfold qf_X8_readPlain
  have F_h : ∀ c k : Nat, (fun c k => nw_F wl_X8_readPlain wf_X8_readPlain false false c k = true) c k → h c k = h c k := fun _ _ _ => rfl
  refine fm_pu ?_; intro u7
  refine fm_if ?_ ?_
  · exact fm_tl F_h (fj_X8_readPlain_56 nn) (fun _ _ z => z)
  · refine fm_if ?_ ?_
    · exact fm_tl F_h (fj_X8_readPlain_56 nn) (fun _ _ z => z)
    · refine fm_if ?_ ?_
      · refine fm_ca F_h (ff_X8_readCondition nn) (nw_sub rfl) ?_; intro u16 F_u16
        exact fm_ret F_u16
      · refine fm_if ?_ ?_
        · refine fm_xl ?_; intro v19
          refine fm_up F_h (nw_nf rfl) ?_; intro h20 F_h20
          refine fm_pu ?_; intro u23
          refine fm_if ?_ ?_
          · exact fm_ret F_h20
          · refine fm_ca F_h20 (ff_X8_readValue nn) (nw_sub rfl) ?_; intro u25 F_u25
            exact fm_ret F_u25
        · refine fm_if ?_ ?_
          · refine fm_xl ?_; intro v29
            refine fm_up F_h (nw_nf rfl) ?_; intro h30 F_h30
            refine fm_ca F_h30 (ff_X8_readValue nn) (nw_sub rfl) ?_; intro u32 F_u32
            exact fm_ret F_u32
          · refine fm_ca F_h (ff_X8_readValue nn) (nw_sub rfl) ?_; intro u9 F_u9
            refine fm_ca F_u9 (ff_X8_accept nn) (nw_sub rfl) ?_; intro u11 F_u11
            refine fm_if ?_ ?_
            · exact fm_ret F_u11
            · refine fm_ca F_u11 (ff_X8_readValue nn) (nw_sub rfl) ?_; intro u13 F_u13
              exact fm_ret F_u13
set_option maxRecDepth 4000 in
theorem fj_X8_readType_24 (nn : Nat) {h : ms_M} : Fm_ (fun c k => nw_F wl_X8_readType wf_X8_readType false false c k = true) h (qj_X8_readType_24 nn h) (fun r => r) := by
  unfold qj_X8_readType_24
  have F_h : ∀ c k : Nat, (fun c k => nw_F wl_X8_readType wf_X8_readType false false c k = true) c k → h c k = h c k := fun _ _ _ => rfl
  refine fm_ca F_h (ff_X8_accept nn) (nw_sub rfl) ?_; intro u2 F_u2
  refine fm_if ?_ ?_
  · exact fm_ret F_u2
  · refine fm_ca F_u2 (ff_X8_need nn) (nw_sub rfl) ?_; intro u4 F_u4
    exact fm_ret F_u4
set_option maxRecDepth 4000 in
theorem ff_X8_readType (nn : Nat) {h : ms_M} : Fm_ (fun c k => nw_F wl_X8_readType wf_X8_readType false false c k = true) h (qf_X8_readType nn h) (fun r => r) := by
  unfold qf_X8_readType
  have F_h : ∀ c k : Nat, (fun c k => nw_F wl_X8_readType wf_X8_readType false false c k = true) c k → h c k = h c k := fun _ _ _ => rfl
  refine fm_ca F_h (ff_X8_accept nn) (nw_sub rfl) ?_; intro u7 F_u7
  refine fm_if ?_ ?_
  · refine fm_ca F_u7 (ff_X8_accept nn) (nw_sub rfl) ?_; intro u9 F_u9
    refine fm_if ?_ ?_
    · exact fm_tl F_u9 (fj_X8_readType_24 nn) (fun _ _ z => z)
    · refine fm_ca F_u9 (ff_X8_need nn) (nw_sub rfl) ?_; intro u11 F_u11
      exact fm_tl F_u11 (fj_X8_readType_24 nn) (fun _ _ z => z)
  · exact fm_ret F_u7
set_option maxRecDepth 4000 in
theorem ff_X8_readVariable (nn : Nat) {a1 : Int} {h : ms_M} : Fm_ (fun c k => nw_F wl_X8_readVariable wf_X8_readVariable false false c k = true) h (qf_X8_readVariable nn a1 h) (fun r => r) := by
  unfold qf_X8_readVariable
  have F_h : ∀ c k : Nat, (fun c k => nw_F wl_X8_readVariable wf_X8_readVariable false false c k = true) c k → h c k = h c k := fun _ _ _ => rfl
  refine fm_ca F_h (ff_X8_readType nn) (nw_sub rfl) ?_; intro u2 F_u2
  refine fm_ca F_u2 (ff_X8_need nn) (nw_sub rfl) ?_; intro u4 F_u4
  refine fm_ca F_u4 (ff_X8_need nn) (nw_sub rfl) ?_; intro u6 F_u6
  refine fm_ca F_u6 (ff_X8_readValue nn) (nw_sub rfl) ?_; intro u8 F_u8
  exact fm_ret F_u8
def fgr_X8_readBlock (rc : tq_X8_readBlock) : Prop := (∀ {a1 : Int} {h : ms_M}, Fm_ (fun c k => nw_F wl_X8_readBlock wf_X8_readBlock false false c k = true) h (rc.1 a1 h) (fun r => r)) ∧ (∀ {a1 : Int} {h : ms_M}, Fm_ (fun c k => nw_F wl_X8_readStatement wf_X8_readStatement false false c k = true) h (rc.2.1 a1 h) (fun r => r)) ∧ (∀ {a1 : Int} {h : ms_M}, Fm_ (fun c k => nw_F wl_X8_readTry wf_X8_readTry false false c k = true) h (rc.2.2 a1 h) (fun r => r))
set_option maxRecDepth 4000 in
theorem fj_X8_readBlock_48 (nn : Nat) {rc : tq_X8_readBlock} (hr : fgr_X8_readBlock rc) {h : ms_M} : Fm_ (fun c k => nw_F wl_X8_readBlock wf_X8_readBlock false false c k = true) h (qj_X8_readBlock_48 nn rc h) (fun r => r) := by
  unfold qj_X8_readBlock_48
  have F_h : ∀ c k : Nat, (fun c k => nw_F wl_X8_readBlock wf_X8_readBlock false false c k = true) c k → h c k = h c k := fun _ _ _ => rfl
  refine fm_ca F_h (ff_X8_need nn) (nw_sub rfl) ?_; intro u2 F_u2
  exact fm_ret F_u2
set_option maxRecDepth 4000 in
theorem fw_X8_readBlock_8 (nn : Nat) {rc : tq_X8_readBlock} (hr : fgr_X8_readBlock rc) : ∀ (k : Nat) {l1 : Int} {l2 : Int} {h : ms_M}, Fm_ (fun c k => nw_F wl_X8_readBlock wf_X8_readBlock false false c k = true) h (qw_X8_readBlock_8 nn rc k l1 l2 h) (fun r => r) := by
  intro k
  induction k with
  | zero => intros; exact fm_no
  | succ k ih =>
    intro l1 l2 h
    unfold qw_X8_readBlock_8
    have F_h : ∀ c k : Nat, (fun c k => nw_F wl_X8_readBlock wf_X8_readBlock false false c k = true) c k → h c k = h c k := fun _ _ _ => rfl
    refine fm_if ?_ ?_
    · exact fm_tl F_h (fj_X8_readBlock_48 nn hr) (fun _ _ z => z)
    · refine fm_if ?_ ?_
      · exact fm_tl F_h (fj_X8_readBlock_48 nn hr) (fun _ _ z => z)
      · refine fm_pu ?_; intro u7
        refine fm_if ?_ ?_
        · exact fm_tl F_h (fj_X8_readBlock_48 nn hr) (fun _ _ z => z)
        · refine fm_ca F_h (hr.2.1) (fun _ _ z => z) ?_; intro u9 F_u9
          refine fm_xl ?_; intro v10
          exact fm_tl F_u9 (ih ) (fun _ _ z => z)
set_option maxRecDepth 4000 in
theorem fo_X8_readBlock (nn : Nat) {rc : tq_X8_readBlock} (hr : fgr_X8_readBlock rc) {a1 : Int} {h : ms_M} : Fm_ (fun c k => nw_F wl_X8_readBlock wf_X8_readBlock false false c k = true) h (qo_X8_readBlock nn rc a1 h) (fun r => r) := by
  unfold qo_X8_readBlock
  have F_h : ∀ c k : Nat, (fun c k => nw_F wl_X8_readBlock wf_X8_readBlock false false c k = true) c k → h c k = h c k := fun _ _ _ => rfl
  refine fm_ca F_h (ff_X8_need nn) (nw_sub rfl) ?_; intro u15 F_u15
  exact fm_tl F_u15 (fw_X8_readBlock_8 nn hr _) (fun _ _ z => z)
set_option maxRecDepth 4000 in
theorem fj_X8_readStatement_157 (nn : Nat) {rc : tq_X8_readBlock} (hr : fgr_X8_readBlock rc) {h : ms_M} : Fm_ (fun c k => nw_F wl_X8_readStatement wf_X8_readStatement false false c k = true) h (qj_X8_readStatement_157 nn rc h) (fun r => r) := by
  unfold qj_X8_readStatement_157
  have F_h : ∀ c k : Nat, (fun c k => nw_F wl_X8_readStatement wf_X8_readStatement false false c k = true) c k → h c k = h c k := fun _ _ _ => rfl
  refine fm_ca F_h (ff_X8_need nn) (nw_sub rfl) ?_; intro u2 F_u2
  exact fm_ret F_u2
set_option maxRecDepth 4000 in
theorem fo_X8_readStatement (nn : Nat) {rc : tq_X8_readBlock} (hr : fgr_X8_readBlock rc) {a1 : Int} {h : ms_M} : Fm_ (fun c k => nw_F wl_X8_readStatement wf_X8_readStatement false false c k = true) h (qo_X8_readStatement nn rc a1 h) (fun r => r) := by
  unfold qo_X8_readStatement
  have F_h : ∀ c k : Nat, (fun c k => nw_F wl_X8_readStatement wf_X8_readStatement false false c k = true) c k → h c k = h c k := fun _ _ _ => rfl
  refine fm_ca F_h (ff_X8_tooDeep nn) (nw_sub rfl) ?_; intro u4 F_u4
  refine fm_if ?_ ?_
  · refine fm_pu ?_; intro u7
    refine fm_if ?_ ?_
    · refine fm_xl ?_; intro v18
      refine fm_ca F_u4 (ff_X8_readCondition nn) (nw_sub rfl) ?_; intro u20 F_u20
      refine fm_xl ?_; intro v21
      refine fm_ca F_u20 (hr.2.1) (fun _ _ z => z) ?_; intro u23 F_u23
      refine fm_ca F_u23 (ff_X8_accept nn) (nw_sub rfl) ?_; intro u25 F_u25
      refine fm_if ?_ ?_
      · exact fm_ret F_u25
      · refine fm_xl ?_; intro v26
        refine fm_ca F_u25 (hr.2.1) (fun _ _ z => z) ?_; intro u28 F_u28
        exact fm_ret F_u28
    · refine fm_if ?_ ?_
      · refine fm_xl ?_; intro v30
        refine fm_ca F_u4 (hr.2.2) (fun _ _ z => z) ?_; intro u32 F_u32
        exact fm_ret F_u32
      · refine fm_if ?_ ?_
        · refine fm_xl ?_; intro v33
          refine fm_ca F_u4 (ff_X8_readCondition nn) (nw_sub rfl) ?_; intro u35 F_u35
          refine fm_xl ?_; intro v36
          refine fm_ca F_u35 (hr.2.1) (fun _ _ z => z) ?_; intro u38 F_u38
          exact fm_ret F_u38
        · refine fm_if ?_ ?_
          · refine fm_xl ?_; intro v39
            refine fm_ca F_u4 (hr.1) (fun _ _ z => z) ?_; intro u41 F_u41
            exact fm_ret F_u41
          · refine fm_pu ?_; intro u10
            refine fm_if ?_ ?_
            · refine fm_xl ?_; intro v11
              refine fm_ca F_u4 (ff_X8_readPlain nn) (nw_sub rfl) ?_; intro u13 F_u13
              exact fm_tl F_u13 (fj_X8_readStatement_157 nn hr) (fun _ _ z => z)
            · refine fm_xl ?_; intro v14
              refine fm_ca F_u4 (ff_X8_readVariable nn) (nw_sub rfl) ?_; intro u16 F_u16
              exact fm_tl F_u16 (fj_X8_readStatement_157 nn hr) (fun _ _ z => z)
  · exact fm_ret F_u4
set_option maxRecDepth 4000 in
theorem fo_X8_readTry (nn : Nat) {rc : tq_X8_readBlock} (hr : fgr_X8_readBlock rc) {a1 : Int} {h : ms_M} : Fm_ (fun c k => nw_F wl_X8_readTry wf_X8_readTry false false c k = true) h (qo_X8_readTry nn rc a1 h) (fun r => r) := by
  unfold qo_X8_readTry
  have F_h : ∀ c k : Nat, (fun c k => nw_F wl_X8_readTry wf_X8_readTry false false c k = true) c k → h c k = h c k := fun _ _ _ => rfl
  refine fm_xl ?_; intro v3
  refine fm_up F_h (nw_nf rfl) ?_; intro h4 F_h4
  refine fm_ca F_h4 (hr.1) (fun _ _ z => z) ?_; intro u6 F_u6
  refine fm_ca F_u6 (ff_X8_need nn) (nw_sub rfl) ?_; intro u8 F_u8
  refine fm_ca F_u8 (ff_X8_need nn) (nw_sub rfl) ?_; intro u10 F_u10
  refine fm_ca F_u10 (ff_X8_need nn) (nw_sub rfl) ?_; intro u12 F_u12
  refine fm_ca F_u12 (ff_X8_need nn) (nw_sub rfl) ?_; intro u14 F_u14
  refine fm_ca F_u14 (ff_X8_need nn) (nw_sub rfl) ?_; intro u16 F_u16
  refine fm_ca F_u16 (hr.1) (fun _ _ z => z) ?_; intro u18 F_u18
  exact fm_ret F_u18
set_option maxRecDepth 4000 in
theorem fg_X8_readBlock (nn : Nat) : ∀ d, fgr_X8_readBlock (qg_X8_readBlock nn d) := by
  intro d
  induction d with
  | zero => exact ⟨(by intros; exact fm_no), (by intros; exact fm_no), (by intros; exact fm_no)⟩
  | succ d ih => exact ⟨fo_X8_readBlock nn ih, fo_X8_readStatement nn ih, fo_X8_readTry nn ih⟩
set_option maxRecDepth 4000 in
theorem ff_X8_readBlock (nn : Nat) {a1 : Int} {h : ms_M} : Fm_ (fun c k => nw_F wl_X8_readBlock wf_X8_readBlock false false c k = true) h (qf_X8_readBlock nn a1 h) (fun r => r) := (fg_X8_readBlock nn 150).1
set_option maxRecDepth 4000 in
theorem ff_X8_readStatement (nn : Nat) {a1 : Int} {h : ms_M} : Fm_ (fun c k => nw_F wl_X8_readStatement wf_X8_readStatement false false c k = true) h (qf_X8_readStatement nn a1 h) (fun r => r) := (fg_X8_readBlock nn 150).2.1
set_option maxRecDepth 4000 in
theorem ff_X8_readTry (nn : Nat) {a1 : Int} {h : ms_M} : Fm_ (fun c k => nw_F wl_X8_readTry wf_X8_readTry false false c k = true) h (qf_X8_readTry nn a1 h) (fun r => r) := (fg_X8_readBlock nn 150).2.2
set_option maxRecDepth 4000 in
theorem fw_X8_readParameters_4 (nn : Nat) : ∀ (k : Nat) {l1 : Int} {l2 : Int} {h : ms_M}, Fm_ (fun c k => nw_F wl_X8_readParameters wf_X8_readParameters false false c k = true) h (qw_X8_readParameters_4 nn k l1 l2 h) (fun r => r) := by
  intro k
  induction k with
  | zero => intros; exact fm_no
  | succ k ih =>
    intro l1 l2 h
    unfold qw_X8_readParameters_4
    have F_h : ∀ c k : Nat, (fun c k => nw_F wl_X8_readParameters wf_X8_readParameters false false c k = true) c k → h c k = h c k := fun _ _ _ => rfl
    refine fm_if ?_ ?_
    · exact fm_ret F_h
    · refine fm_if ?_ ?_
      · exact fm_ret F_h
      · refine fm_ca F_h (ff_X8_readType nn) (nw_sub rfl) ?_; intro u2 F_u2
        refine fm_ca F_u2 (ff_X8_need nn) (nw_sub rfl) ?_; intro u4 F_u4
        refine fm_ca F_u4 (ff_X8_accept nn) (nw_sub rfl) ?_; intro u6 F_u6
        refine fm_xl ?_; intro v7
        exact fm_tl F_u6 (ih ) (fun _ _ z => z)
set_option maxRecDepth 4000 in
theorem ff_X8_readParameters (nn : Nat) {h : ms_M} : Fm_ (fun c k => nw_F wl_X8_readParameters wf_X8_readParameters false false c k = true) h (qf_X8_readParameters nn h) (fun r => r) := by
  unfold qf_X8_readParameters
  have F_h : ∀ c k : Nat, (fun c k => nw_F wl_X8_readParameters wf_X8_readParameters false false c k = true) c k → h c k = h c k := fun _ _ _ => rfl
  exact fm_tl F_h (fw_X8_readParameters_4 nn _) (fun _ _ z => z)
set_option maxRecDepth 4000 in
theorem fj_X8_readMember_66 (nn : Nat) {h : ms_M} : Fm_ (fun c k => nw_F wl_X8_readMember wf_X8_readMember false false c k = true) h (qj_X8_readMember_66 nn h) (fun r => r) := by
  unfold qj_X8_readMember_66
  have F_h : ∀ c k : Nat, (fun c k => nw_F wl_X8_readMember wf_X8_readMember false false c k = true) c k → h c k = h c k := fun _ _ _ => rfl
  refine fm_ca F_h (ff_X8_need nn) (nw_sub rfl) ?_; intro u2 F_u2
  refine fm_ca F_u2 (ff_X8_readBlock nn) (nw_sub rfl) ?_; intro u4 F_u4
  exact fm_ret F_u4
set_option maxRecDepth 4000 in
theorem fj_X8_readMember_44 (nn : Nat) {h : ms_M} : Fm_ (fun c k => nw_F wl_X8_readMember wf_X8_readMember false false c k = true) h (qj_X8_readMember_44 nn h) (fun r => r) := by
  unfold qj_X8_readMember_44
  have F_h : ∀ c k : Nat, (fun c k => nw_F wl_X8_readMember wf_X8_readMember false false c k = true) c k → h c k = h c k := fun _ _ _ => rfl
  refine fm_ca F_h (ff_X8_need nn) (nw_sub rfl) ?_; intro u6 F_u6
  refine fm_pu ?_; intro u9
  refine fm_if ?_ ?_
  · exact fm_tl F_u6 (fj_X8_readMember_66 nn) (fun _ _ z => z)
  · refine fm_ca F_u6 (ff_X8_readParameters nn) (nw_sub rfl) ?_; intro u11 F_u11
    exact fm_tl F_u11 (fj_X8_readMember_66 nn) (fun _ _ z => z)
set_option maxRecDepth 4000 in
theorem fj_X8_readMember_25 (nn : Nat) {l1 : Int} {h : ms_M} : Fm_ (fun c k => nw_F wl_X8_readMember wf_X8_readMember false false c k = true) h (qj_X8_readMember_25 nn l1 h) (fun r => r) := by
  unfold qj_X8_readMember_25
  have F_h : ∀ c k : Nat, (fun c k => nw_F wl_X8_readMember wf_X8_readMember false false c k = true) c k → h c k = h c k := fun _ _ _ => rfl
  refine fm_ca F_h (ff_X8_need nn) (nw_sub rfl) ?_; intro u14 F_u14
  refine fm_if ?_ ?_
  · exact fm_tl F_u14 (fj_X8_readMember_44 nn) (fun _ _ z => z)
  · refine fm_ca F_u14 (ff_X8_accept nn) (nw_sub rfl) ?_; intro u16 F_u16
    refine fm_if ?_ ?_
    · exact fm_tl F_u16 (fj_X8_readMember_44 nn) (fun _ _ z => z)
    · exact fm_ret F_u16
set_option maxRecDepth 4000 in
theorem ff_X8_readMember (nn : Nat) {h : ms_M} : Fm_ (fun c k => nw_F wl_X8_readMember wf_X8_readMember false false c k = true) h (qf_X8_readMember nn h) (fun r => r) := by
  unfold qf_X8_readMember
  have F_h : ∀ c k : Nat, (fun c k => nw_F wl_X8_readMember wf_X8_readMember false false c k = true) c k → h c k = h c k := fun _ _ _ => rfl
  refine fm_ca F_h (ff_X8_accept nn) (nw_sub rfl) ?_; intro u20 F_u20
  refine fm_ca F_u20 (ff_X8_accept nn) (nw_sub rfl) ?_; intro u22 F_u22
  refine fm_if ?_ ?_
  · refine fm_ca F_u22 (ff_X8_readType nn) (nw_sub rfl) ?_; intro u24 F_u24
    exact fm_tl F_u24 (fj_X8_readMember_25 nn) (fun _ _ z => z)
  · exact fm_tl F_u22 (fj_X8_readMember_25 nn) (fun _ _ z => z)
set_option maxRecDepth 4000 in
theorem fj_X8_readClass_86 (nn : Nat) {h : ms_M} : Fm_ (fun c k => nw_F wl_X8_readClass wf_X8_readClass false false c k = true) h (qj_X8_readClass_86 nn h) (fun r => r) := by
  unfold qj_X8_readClass_86
  have F_h : ∀ c k : Nat, (fun c k => nw_F wl_X8_readClass wf_X8_readClass false false c k = true) c k → h c k = h c k := fun _ _ _ => rfl
  refine fm_ca F_h (ff_X8_need nn) (nw_sub rfl) ?_; intro u2 F_u2
  exact fm_ret F_u2
set_option maxRecDepth 4000 in
theorem fw_X8_readClass_47 (nn : Nat) : ∀ (k : Nat) {l1 : Int} {h : ms_M}, Fm_ (fun c k => nw_F wl_X8_readClass wf_X8_readClass false false c k = true) h (qw_X8_readClass_47 nn k l1 h) (fun r => r) := by
  intro k
  induction k with
  | zero => intros; exact fm_no
  | succ k ih =>
    intro l1 h
    unfold qw_X8_readClass_47
    have F_h : ∀ c k : Nat, (fun c k => nw_F wl_X8_readClass wf_X8_readClass false false c k = true) c k → h c k = h c k := fun _ _ _ => rfl
    refine fm_if ?_ ?_
    · exact fm_tl F_h (fj_X8_readClass_86 nn) (fun _ _ z => z)
    · refine fm_if ?_ ?_
      · exact fm_tl F_h (fj_X8_readClass_86 nn) (fun _ _ z => z)
      · refine fm_pu ?_; intro u7
        refine fm_if ?_ ?_
        · exact fm_tl F_h (fj_X8_readClass_86 nn) (fun _ _ z => z)
        · refine fm_ca F_h (ff_X8_readMember nn) (nw_sub rfl) ?_; intro u9 F_u9
          refine fm_xl ?_; intro v10
          exact fm_tl F_u9 (ih ) (fun _ _ z => z)
set_option maxRecDepth 4000 in
theorem fj_X8_readClass_39 (nn : Nat) {h : ms_M} : Fm_ (fun c k => nw_F wl_X8_readClass wf_X8_readClass false false c k = true) h (qj_X8_readClass_39 nn h) (fun r => r) := by
  unfold qj_X8_readClass_39
  have F_h : ∀ c k : Nat, (fun c k => nw_F wl_X8_readClass wf_X8_readClass false false c k = true) c k → h c k = h c k := fun _ _ _ => rfl
  refine fm_ca F_h (ff_X8_need nn) (nw_sub rfl) ?_; intro u15 F_u15
  exact fm_tl F_u15 (fw_X8_readClass_47 nn _) (fun _ _ z => z)
set_option maxRecDepth 4000 in
theorem ff_X8_readClass (nn : Nat) {h : ms_M} : Fm_ (fun c k => nw_F wl_X8_readClass wf_X8_readClass false false c k = true) h (qf_X8_readClass nn h) (fun r => r) := by
  unfold qf_X8_readClass
  have F_h : ∀ c k : Nat, (fun c k => nw_F wl_X8_readClass wf_X8_readClass false false c k = true) c k → h c k = h c k := fun _ _ _ => rfl
  refine fm_ca F_h (ff_X8_need nn) (nw_sub rfl) ?_; intro u17 F_u17
  refine fm_ca F_u17 (ff_X2_addClass nn) (nw_sub rfl) ?_; intro u22 F_u22
  refine fm_ca F_u22 (ff_X8_need nn) (nw_sub rfl) ?_; intro u24 F_u24
  refine fm_ca F_u24 (ff_X8_accept nn) (nw_sub rfl) ?_; intro u26 F_u26
  refine fm_if ?_ ?_
  · exact fm_tl F_u26 (fj_X8_readClass_39 nn) (fun _ _ z => z)
  · refine fm_ca F_u26 (ff_X8_need nn) (nw_sub rfl) ?_; intro u28 F_u28
    exact fm_tl F_u28 (fj_X8_readClass_39 nn) (fun _ _ z => z)
set_option maxRecDepth 4000 in
theorem fj_X8_readProgram_33 (nn : Nat) {qkk_2 : Int → ms_M → Option ms_M} (hk_kk_2 : ∀ {l1 : Int} {h : ms_M}, Fm_ (fun c k => nw_F wl_X8_readProgram wf_X8_readProgram false false c k = true) h (qkk_2 l1 h) (fun r => r)) {l1 : Int} {h : ms_M} : Fm_ (fun c k => nw_F wl_X8_readProgram wf_X8_readProgram false false c k = true) h (qj_X8_readProgram_33 nn qkk_2 l1 h) (fun r => r) := by
  unfold qj_X8_readProgram_33
  have F_h : ∀ c k : Nat, (fun c k => nw_F wl_X8_readProgram wf_X8_readProgram false false c k = true) c k → h c k = h c k := fun _ _ _ => rfl
  refine fm_ca F_h (ff_X8_readClass nn) (nw_sub rfl) ?_; intro u2 F_u2
  refine fm_xl ?_; intro v3
  exact fm_tl F_u2 (hk_kk_2) (fun _ _ z => z)
set_option maxRecDepth 4000 in
theorem fw_X8_readProgram_2 (nn : Nat) : ∀ (k : Nat) {l1 : Int} {h : ms_M}, Fm_ (fun c k => nw_F wl_X8_readProgram wf_X8_readProgram false false c k = true) h (qw_X8_readProgram_2 nn k l1 h) (fun r => r) := by
  intro k
  induction k with
  | zero => intros; exact fm_no
  | succ k ih =>
    intro l1 h
    unfold qw_X8_readProgram_2
    have F_h : ∀ c k : Nat, (fun c k => nw_F wl_X8_readProgram wf_X8_readProgram false false c k = true) c k → h c k = h c k := fun _ _ _ => rfl
    refine fm_if ?_ ?_
    · exact fm_ret F_h
    · refine fm_if ?_ ?_
      · exact fm_ret F_h
      · refine fm_if ?_ ?_
        · exact fm_tl F_h (fj_X8_readProgram_33 nn ih) (fun _ _ z => z)
        · refine fm_pu ?_; intro u8
          refine fm_if ?_ ?_
          · exact fm_ret F_h
          · exact fm_tl F_h (fj_X8_readProgram_33 nn ih) (fun _ _ z => z)
set_option maxRecDepth 4000 in
theorem ff_X8_readProgram (nn : Nat) {h : ms_M} : Fm_ (fun c k => nw_F wl_X8_readProgram wf_X8_readProgram false false c k = true) h (qf_X8_readProgram nn h) (fun r => r) := by
  unfold qf_X8_readProgram
  have F_h : ∀ c k : Nat, (fun c k => nw_F wl_X8_readProgram wf_X8_readProgram false false c k = true) c k → h c k = h c k := fun _ _ _ => rfl
  exact fm_tl F_h (fw_X8_readProgram_2 nn _) (fun _ _ z => z)
set_option maxRecDepth 4000 in
theorem ff_X9_refuse (nn : Nat) {a1 : Int} {a2 : Int} {h : ms_M} : Fm_ (fun c k => nw_F wl_X9_refuse wf_X9_refuse false false c k = true) h (qf_X9_refuse nn a1 a2 h) (fun r => r) := by
  unfold qf_X9_refuse
  have F_h : ∀ c k : Nat, (fun c k => nw_F wl_X9_refuse wf_X9_refuse false false c k = true) c k → h c k = h c k := fun _ _ _ => rfl
  refine fm_up F_h (nw_nf rfl) ?_; intro h1 F_h1
  refine fm_up F_h1 (nw_nf rfl) ?_; intro h2 F_h2
  exact fm_ret F_h2
set_option maxRecDepth 4000 in
theorem ff_X9_addToken (nn : Nat) {a1 : Int} {a2 : Int} {a3 : Int} {h : ms_M} : Fm_ (fun c k => nw_F wl_X9_addToken wf_X9_addToken false false c k = true) h (qf_X9_addToken nn a1 a2 a3 h) (fun r => r) := by
  unfold qf_X9_addToken
  have F_h : ∀ c k : Nat, (fun c k => nw_F wl_X9_addToken wf_X9_addToken false false c k = true) c k → h c k = h c k := fun _ _ _ => rfl
  refine fm_if ?_ ?_
  · exact fm_ret F_h
  · refine fm_wA F_h (nw_ne rfl) ?_; intro h6 F_h6
    refine fm_wA F_h6 (nw_ne rfl) ?_; intro h9 F_h9
    refine fm_wA F_h9 (nw_ne rfl) ?_; intro h12 F_h12
    refine fm_xl ?_; intro v14
    refine fm_up F_h12 (nw_nf rfl) ?_; intro h15 F_h15
    exact fm_ret F_h15
set_option maxRecDepth 4000 in
theorem fj_X9_scanNumber_96 (nn : Nat) {l3 : Int} {l4 : Int} {l6 : Int} {l7 : Int} {s0 : Int} {h : ms_M} : Fm_ (fun c k => nw_F wl_X9_scanNumber wf_X9_scanNumber false false c k = true) h (qj_X9_scanNumber_96 nn l3 l4 l6 l7 s0 h) (fun r => r.2) := by
  unfold qj_X9_scanNumber_96
  have F_h : ∀ c k : Nat, (fun c k => nw_F wl_X9_scanNumber wf_X9_scanNumber false false c k = true) c k → h c k = h c k := fun _ _ _ => rfl
  refine fm_if ?_ ?_
  · exact fm_ret F_h
  · refine fm_if ?_ ?_
    · exact fm_ret F_h
    · refine fm_xl ?_; intro v1
      refine fm_if ?_ ?_
      · refine fm_xl ?_; intro v2
        refine fm_ca F_h (ff_X9_addToken nn) (nw_sub rfl) ?_; intro u4 F_u4
        refine fm_xl ?_; intro v5
        exact fm_ret F_u4
      · exact fm_ret F_h
set_option maxRecDepth 4000 in
theorem fj_X9_scanNumber_95 (nn : Nat) {l3 : Int} {l4 : Int} {l6 : Int} {l7 : Int} {h : ms_M} : Fm_ (fun c k => nw_F wl_X9_scanNumber wf_X9_scanNumber false false c k = true) h (qj_X9_scanNumber_95 nn l3 l4 l6 l7 h) (fun r => r.2) := by
  unfold qj_X9_scanNumber_95
  have F_h : ∀ c k : Nat, (fun c k => nw_F wl_X9_scanNumber wf_X9_scanNumber false false c k = true) c k → h c k = h c k := fun _ _ _ => rfl
  exact fm_tl F_h (fj_X9_scanNumber_96 nn) (fun _ _ z => z)
set_option maxRecDepth 4000 in
theorem fj_X9_scanNumber_73 (nn : Nat) {l2 : Int} {l3 : Int} {l4 : Int} {l6 : Int} {s0 : Int} {h : ms_M} : Fm_ (fun c k => nw_F wl_X9_scanNumber wf_X9_scanNumber false false c k = true) h (qj_X9_scanNumber_73 nn l2 l3 l4 l6 s0 h) (fun r => r.2) := by
  unfold qj_X9_scanNumber_73
  have F_h : ∀ c k : Nat, (fun c k => nw_F wl_X9_scanNumber wf_X9_scanNumber false false c k = true) c k → h c k = h c k := fun _ _ _ => rfl
  refine fm_if ?_ ?_
  · exact fm_tl F_h (fj_X9_scanNumber_95 nn) (fun _ _ z => z)
  · refine fm_rd ?_; intro v9
    refine fm_pu ?_; intro u10
    refine fm_if ?_ ?_
    · exact fm_tl F_h (fj_X9_scanNumber_95 nn) (fun _ _ z => z)
    · exact fm_tl F_h (fj_X9_scanNumber_96 nn) (fun _ _ z => z)
set_option maxRecDepth 4000 in
theorem fj_X9_scanNumber_72 (nn : Nat) {l2 : Int} {l3 : Int} {l4 : Int} {l6 : Int} {h : ms_M} : Fm_ (fun c k => nw_F wl_X9_scanNumber wf_X9_scanNumber false false c k = true) h (qj_X9_scanNumber_72 nn l2 l3 l4 l6 h) (fun r => r.2) := by
  unfold qj_X9_scanNumber_72
  have F_h : ∀ c k : Nat, (fun c k => nw_F wl_X9_scanNumber wf_X9_scanNumber false false c k = true) c k → h c k = h c k := fun _ _ _ => rfl
  exact fm_tl F_h (fj_X9_scanNumber_73 nn) (fun _ _ z => z)
set_option maxRecDepth 4000 in
theorem fj_X9_scanNumber_52 (nn : Nat) {l2 : Int} {l3 : Int} {l4 : Int} {l6 : Int} {h : ms_M} : Fm_ (fun c k => nw_F wl_X9_scanNumber wf_X9_scanNumber false false c k = true) h (qj_X9_scanNumber_52 nn l2 l3 l4 l6 h) (fun r => r.2) := by
  unfold qj_X9_scanNumber_52
  have F_h : ∀ c k : Nat, (fun c k => nw_F wl_X9_scanNumber wf_X9_scanNumber false false c k = true) c k → h c k = h c k := fun _ _ _ => rfl
  refine fm_rd ?_; intro v13
  refine fm_if ?_ ?_
  · exact fm_tl F_h (fj_X9_scanNumber_72 nn) (fun _ _ z => z)
  · refine fm_xl ?_; intro v14
    refine fm_if ?_ ?_
    · exact fm_tl F_h (fj_X9_scanNumber_72 nn) (fun _ _ z => z)
    · exact fm_tl F_h (fj_X9_scanNumber_73 nn) (fun _ _ z => z)
set_option maxRecDepth 4000 in
theorem fw_X9_scanNumber_6 (nn : Nat) : ∀ (k : Nat) {l2 : Int} {l3 : Int} {l4 : Int} {l6 : Int} {h : ms_M}, Fm_ (fun c k => nw_F wl_X9_scanNumber wf_X9_scanNumber false false c k = true) h (qw_X9_scanNumber_6 nn k l2 l3 l4 l6 h) (fun r => r.2) := by
  intro k
  induction k with
  | zero => intros; exact fm_no
  | succ k ih =>
    intro l2 l3 l4 l6 h
    unfold qw_X9_scanNumber_6
    have F_h : ∀ c k : Nat, (fun c k => nw_F wl_X9_scanNumber wf_X9_scanNumber false false c k = true) c k → h c k = h c k := fun _ _ _ => rfl
    refine fm_if ?_ ?_
    · exact fm_tl F_h (fj_X9_scanNumber_52 nn) (fun _ _ z => z)
    · refine fm_rd ?_; intro v17
      refine fm_pu ?_; intro u18
      refine fm_if ?_ ?_
      · exact fm_tl F_h (fj_X9_scanNumber_52 nn) (fun _ _ z => z)
      · refine fm_c6 ?_; intro v19
        refine fm_rd ?_; intro v20
        refine fm_xl ?_; intro v21
        refine fm_c6 ?_; intro v22
        refine fm_c6 ?_; intro v23
        refine fm_xl ?_; intro v24
        refine fm_xl ?_; intro v25
        exact fm_tl F_h (ih ) (fun _ _ z => z)
set_option maxRecDepth 4000 in
theorem ff_X9_scanNumber (nn : Nat) {a2 : Int} {a3 : Int} {h : ms_M} : Fm_ (fun c k => nw_F wl_X9_scanNumber wf_X9_scanNumber false false c k = true) h (qf_X9_scanNumber nn a2 a3 h) (fun r => r.2) := by
  unfold qf_X9_scanNumber
  have F_h : ∀ c k : Nat, (fun c k => nw_F wl_X9_scanNumber wf_X9_scanNumber false false c k = true) c k → h c k = h c k := fun _ _ _ => rfl
  exact fm_tl F_h (fw_X9_scanNumber_6 nn _) (fun _ _ z => z)
set_option maxRecDepth 4000 in
theorem fj_X9_scanWord_89 (nn : Nat) {l3 : Int} {l5 : Int} {l6 : Int} {s0 : Int} {h : ms_M} : Fm_ (fun c k => nw_F wl_X9_scanWord wf_X9_scanWord false false c k = true) h (qj_X9_scanWord_89 nn l3 l5 l6 s0 h) (fun r => r.2) := by
  unfold qj_X9_scanWord_89
  have F_h : ∀ c k : Nat, (fun c k => nw_F wl_X9_scanWord wf_X9_scanWord false false c k = true) c k → h c k = h c k := fun _ _ _ => rfl
  refine fm_ca F_h (ff_X9_addToken nn) (nw_sub rfl) ?_; intro u2 F_u2
  exact fm_ret F_u2
set_option maxRecDepth 4000 in
theorem fj_X9_scanWord_69 (nn : Nat) {l3 : Int} {l5 : Int} {l6 : Int} {s0 : Int} {h : ms_M} : Fm_ (fun c k => nw_F wl_X9_scanWord wf_X9_scanWord false false c k = true) h (qj_X9_scanWord_69 nn l3 l5 l6 s0 h) (fun r => r.2) := by
  unfold qj_X9_scanWord_69
  have F_h : ∀ c k : Nat, (fun c k => nw_F wl_X9_scanWord wf_X9_scanWord false false c k = true) c k → h c k = h c k := fun _ _ _ => rfl
  refine fm_if ?_ ?_
  · exact fm_tl F_h (fj_X9_scanWord_89 nn) (fun _ _ z => z)
  · refine fm_xl ?_; intro v3
    refine fm_xl ?_; intro v4
    exact fm_tl F_h (fj_X9_scanWord_89 nn) (fun _ _ z => z)
set_option maxRecDepth 4000 in
theorem fj_X9_scanWord_68 (nn : Nat) {l3 : Int} {l5 : Int} {l6 : Int} {h : ms_M} : Fm_ (fun c k => nw_F wl_X9_scanWord wf_X9_scanWord false false c k = true) h (qj_X9_scanWord_68 nn l3 l5 l6 h) (fun r => r.2) := by
  unfold qj_X9_scanWord_68
  have F_h : ∀ c k : Nat, (fun c k => nw_F wl_X9_scanWord wf_X9_scanWord false false c k = true) c k → h c k = h c k := fun _ _ _ => rfl
  exact fm_tl F_h (fj_X9_scanWord_69 nn) (fun _ _ z => z)
set_option maxRecDepth 4000 in
theorem fj_X9_scanWord_25 (nn : Nat) {l3 : Int} {l4 : Int} {h : ms_M} : Fm_ (fun c k => nw_F wl_X9_scanWord wf_X9_scanWord false false c k = true) h (qj_X9_scanWord_25 nn l3 l4 h) (fun r => r.2) := by
  unfold qj_X9_scanWord_25
  have F_h : ∀ c k : Nat, (fun c k => nw_F wl_X9_scanWord wf_X9_scanWord false false c k = true) c k → h c k = h c k := fun _ _ _ => rfl
  refine fm_xl ?_; intro v6
  refine fm_if ?_ ?_
  · refine fm_ca F_h (ff_X9_nameOf nn) (nw_sub rfl) ?_; intro u8 F_u8
    refine fm_if ?_ ?_
    · exact fm_tl F_u8 (fj_X9_scanWord_68 nn) (fun _ _ z => z)
    · refine fm_if ?_ ?_
      · exact fm_tl F_u8 (fj_X9_scanWord_68 nn) (fun _ _ z => z)
      · exact fm_tl F_u8 (fj_X9_scanWord_69 nn) (fun _ _ z => z)
  · exact fm_ret F_h
set_option maxRecDepth 4000 in
theorem fw_X9_scanWord_3 (nn : Nat) : ∀ (k : Nat) {l2 : Int} {l3 : Int} {l4 : Int} {h : ms_M}, Fm_ (fun c k => nw_F wl_X9_scanWord wf_X9_scanWord false false c k = true) h (qw_X9_scanWord_3 nn k l2 l3 l4 h) (fun r => r.2) := by
  intro k
  induction k with
  | zero => intros; exact fm_no
  | succ k ih =>
    intro l2 l3 l4 h
    unfold qw_X9_scanWord_3
    have F_h : ∀ c k : Nat, (fun c k => nw_F wl_X9_scanWord wf_X9_scanWord false false c k = true) c k → h c k = h c k := fun _ _ _ => rfl
    refine fm_if ?_ ?_
    · exact fm_tl F_h (fj_X9_scanWord_25 nn) (fun _ _ z => z)
    · refine fm_rd ?_; intro v12
      refine fm_pu ?_; intro u13
      refine fm_if ?_ ?_
      · exact fm_tl F_h (fj_X9_scanWord_25 nn) (fun _ _ z => z)
      · refine fm_xl ?_; intro v14
        exact fm_tl F_h (ih ) (fun _ _ z => z)
set_option maxRecDepth 4000 in
theorem ff_X9_scanWord (nn : Nat) {a2 : Int} {a3 : Int} {h : ms_M} : Fm_ (fun c k => nw_F wl_X9_scanWord wf_X9_scanWord false false c k = true) h (qf_X9_scanWord nn a2 a3 h) (fun r => r.2) := by
  unfold qf_X9_scanWord
  have F_h : ∀ c k : Nat, (fun c k => nw_F wl_X9_scanWord wf_X9_scanWord false false c k = true) c k → h c k = h c k := fun _ _ _ => rfl
  exact fm_tl F_h (fw_X9_scanWord_3 nn _) (fun _ _ z => z)
set_option maxRecDepth 4000 in
theorem fj_X9_scanToken_110 (nn : Nat) {l3 : Int} {s0 : Int} {h : ms_M} : Fm_ (fun c k => nw_F wl_X9_scanToken wf_X9_scanToken false false c k = true) h (qj_X9_scanToken_110 nn l3 s0 h) (fun r => r.2) := by
  unfold qj_X9_scanToken_110
  have F_h : ∀ c k : Nat, (fun c k => nw_F wl_X9_scanToken wf_X9_scanToken false false c k = true) c k → h c k = h c k := fun _ _ _ => rfl
  refine fm_if ?_ ?_
  · refine fm_pu ?_; intro u1
    exact fm_ret F_h
  · refine fm_ca F_h (ff_X9_addToken nn) (nw_sub rfl) ?_; intro u3 F_u3
    refine fm_pu ?_; intro u4
    exact fm_ret F_u3
set_option maxRecDepth 4000 in
theorem fj_X9_scanToken_103 (nn : Nat) {l3 : Int} {l4 : Int} {l5 : Int} {h : ms_M} : Fm_ (fun c k => nw_F wl_X9_scanToken wf_X9_scanToken false false c k = true) h (qj_X9_scanToken_103 nn l3 l4 l5 h) (fun r => r.2) := by
  unfold qj_X9_scanToken_103
  have F_h : ∀ c k : Nat, (fun c k => nw_F wl_X9_scanToken wf_X9_scanToken false false c k = true) c k → h c k = h c k := fun _ _ _ => rfl
  refine fm_pu ?_; intro u6
  exact fm_tl F_h (fj_X9_scanToken_110 nn) (fun _ _ z => z)
set_option maxRecDepth 4000 in
theorem fj_X9_scanToken_84 (nn : Nat) {l3 : Int} {l4 : Int} {l5 : Int} {s0 : Int} {h : ms_M} : Fm_ (fun c k => nw_F wl_X9_scanToken wf_X9_scanToken false false c k = true) h (qj_X9_scanToken_84 nn l3 l4 l5 s0 h) (fun r => r.2) := by
  unfold qj_X9_scanToken_84
  have F_h : ∀ c k : Nat, (fun c k => nw_F wl_X9_scanToken wf_X9_scanToken false false c k = true) c k → h c k = h c k := fun _ _ _ => rfl
  refine fm_if ?_ ?_
  · exact fm_tl F_h (fj_X9_scanToken_103 nn) (fun _ _ z => z)
  · refine fm_if ?_ ?_
    · exact fm_tl F_h (fj_X9_scanToken_103 nn) (fun _ _ z => z)
    · exact fm_tl F_h (fj_X9_scanToken_110 nn) (fun _ _ z => z)
set_option maxRecDepth 4000 in
theorem fj_X9_scanToken_83 (nn : Nat) {l3 : Int} {l4 : Int} {l5 : Int} {h : ms_M} : Fm_ (fun c k => nw_F wl_X9_scanToken wf_X9_scanToken false false c k = true) h (qj_X9_scanToken_83 nn l3 l4 l5 h) (fun r => r.2) := by
  unfold qj_X9_scanToken_83
  have F_h : ∀ c k : Nat, (fun c k => nw_F wl_X9_scanToken wf_X9_scanToken false false c k = true) c k → h c k = h c k := fun _ _ _ => rfl
  exact fm_tl F_h (fj_X9_scanToken_84 nn) (fun _ _ z => z)
set_option maxRecDepth 4000 in
theorem fj_X9_scanToken_53 (nn : Nat) {l2 : Int} {l3 : Int} {l4 : Int} {s0 : Int} {h : ms_M} : Fm_ (fun c k => nw_F wl_X9_scanToken wf_X9_scanToken false false c k = true) h (qj_X9_scanToken_53 nn l2 l3 l4 s0 h) (fun r => r.2) := by
  unfold qj_X9_scanToken_53
  have F_h : ∀ c k : Nat, (fun c k => nw_F wl_X9_scanToken wf_X9_scanToken false false c k = true) c k → h c k = h c k := fun _ _ _ => rfl
  refine fm_if ?_ ?_
  · exact fm_tl F_h (fj_X9_scanToken_83 nn) (fun _ _ z => z)
  · refine fm_xl ?_; intro v9
    refine fm_if ?_ ?_
    · exact fm_tl F_h (fj_X9_scanToken_83 nn) (fun _ _ z => z)
    · refine fm_xl ?_; intro v10
      refine fm_rd ?_; intro v11
      refine fm_if ?_ ?_
      · exact fm_tl F_h (fj_X9_scanToken_83 nn) (fun _ _ z => z)
      · exact fm_tl F_h (fj_X9_scanToken_84 nn) (fun _ _ z => z)
set_option maxRecDepth 4000 in
theorem ff_X9_scanToken (nn : Nat) {a2 : Int} {a3 : Int} {h : ms_M} : Fm_ (fun c k => nw_F wl_X9_scanToken wf_X9_scanToken false false c k = true) h (qf_X9_scanToken nn a2 a3 h) (fun r => r.2) := by
  unfold qf_X9_scanToken
  have F_h : ∀ c k : Nat, (fun c k => nw_F wl_X9_scanToken wf_X9_scanToken false false c k = true) c k → h c k = h c k := fun _ _ _ => rfl
  refine fm_rd ?_; intro v15
  refine fm_pu ?_; intro u16
  refine fm_if ?_ ?_
  · refine fm_pu ?_; intro u17
    refine fm_if ?_ ?_
    · refine fm_xl ?_; intro v18
      refine fm_if ?_ ?_
      · exact fm_tl F_h (fj_X9_scanToken_53 nn) (fun _ _ z => z)
      · refine fm_xl ?_; intro v19
        refine fm_rd ?_; intro v20
        exact fm_tl F_h (fj_X9_scanToken_53 nn) (fun _ _ z => z)
    · refine fm_ca F_h (ff_X9_scanNumber nn) (nw_sub rfl) ?_; intro u23 F_u23
      exact fm_ret F_u23
  · refine fm_ca F_h (ff_X9_scanWord nn) (nw_sub rfl) ?_; intro u26 F_u26
    exact fm_ret F_u26
set_option maxRecDepth 4000 in
theorem fj_X9_scan_102 (nn : Nat) {l2 : Int} {h : ms_M} : Fm_ (fun c k => nw_F wl_X9_scan wf_X9_scan false false c k = true) h (qj_X9_scan_102 nn l2 h) (fun r => r) := by
  unfold qj_X9_scan_102
  have F_h : ∀ c k : Nat, (fun c k => nw_F wl_X9_scan wf_X9_scan false false c k = true) c k → h c k = h c k := fun _ _ _ => rfl
  refine fm_ca F_h (ff_X9_addToken nn) (nw_sub rfl) ?_; intro u2 F_u2
  exact fm_ret F_u2
set_option maxRecDepth 4000 in
theorem fw_X9_scan_51 (nn : Nat) : ∀ (k : Nat) {l2 : Int} {l3 : Int} {l4 : Int} {h : ms_M}, Fm_ (fun c k => nw_F wl_X9_scan wf_X9_scan false false c k = true) h (qw_X9_scan_51 nn k l2 l3 l4 h) (fun r => r) := by
  intro k
  induction k with
  | zero => intros; exact fm_no
  | succ k ih =>
    intro l2 l3 l4 h
    unfold qw_X9_scan_51
    have F_h : ∀ c k : Nat, (fun c k => nw_F wl_X9_scan wf_X9_scan false false c k = true) c k → h c k = h c k := fun _ _ _ => rfl
    refine fm_if ?_ ?_
    · exact fm_tl F_h (fj_X9_scan_102 nn) (fun _ _ z => z)
    · refine fm_if ?_ ?_
      · exact fm_tl F_h (fj_X9_scan_102 nn) (fun _ _ z => z)
      · refine fm_ca F_h (ff_X9_scanToken nn) (nw_sub rfl) ?_; intro u4 F_u4
        refine fm_if ?_ ?_
        · refine fm_xl ?_; intro v5
          refine fm_pu ?_; intro u6
          refine fm_xl ?_; intro v7
          exact fm_tl F_u4 (ih ) (fun _ _ z => z)
        · refine fm_ca F_u4 (ff_X9_addToken nn) (nw_sub rfl) ?_; intro u9 F_u9
          exact fm_ret F_u9
set_option maxRecDepth 4000 in
theorem ff_X9_scan (nn : Nat) {a2 : Int} {h : ms_M} : Fm_ (fun c k => nw_F wl_X9_scan wf_X9_scan false false c k = true) h (qf_X9_scan nn a2 h) (fun r => r) := by
  unfold qf_X9_scan
  have F_h : ∀ c k : Nat, (fun c k => nw_F wl_X9_scan wf_X9_scan false false c k = true) c k → h c k = h c k := fun _ _ _ => rfl
  refine fm_up F_h (nw_nf rfl) ?_; intro h13 F_h13
  refine fm_cp F_h13 (fun _ => nw_ne rfl) ?_; intro h16 F_h16
  refine fm_up F_h16 (nw_nf rfl) ?_; intro h17 F_h17
  refine fm_up F_h17 (nw_nf rfl) ?_; intro h18 F_h18
  refine fm_up F_h18 (nw_nf rfl) ?_; intro h19 F_h19
  refine fm_up F_h19 (nw_nf rfl) ?_; intro h20 F_h20
  refine fm_pu ?_; intro u21
  exact fm_tl F_h20 (fw_X9_scan_51 nn _) (fun _ _ z => z)
set_option maxRecDepth 4000 in
theorem fj_X12_compile_175 (nn : Nat) {h : ms_M} {c : Nat} {s : Nat} : Fm_ (fun c k => nw_F wl_X12_compile wf_X12_compile false true c k = true) h (qj_X12_compile_175 nn h c s) (fun r => r.2.1) := by
  unfold qj_X12_compile_175
  have F_h : ∀ c k : Nat, (fun c k => nw_F wl_X12_compile wf_X12_compile false true c k = true) c k → h c k = h c k := fun _ _ _ => rfl
  refine fm_ca F_h (ff_X0_closeProgram nn) (nw_sub rfl) ?_; intro u3 F_u3
  refine fm_if ?_ ?_
  · exact fm_ret F_u3
  · refine fm_ca F_u3 (ff_X12_takeImages nn) (nw_sub rfl) ?_; intro u7 F_u7
    exact fm_ret F_u7
set_option maxRecDepth 4000 in
theorem fj_X12_compile_161 (nn : Nat) {qkk_93 : Int → ms_M → Nat → Nat → Option (Int × ms_M × Nat × Nat)} (hk_kk_93 : ∀ {l2 : Int} {h : ms_M} {c : Nat} {s : Nat}, Fm_ (fun c k => nw_F wl_X12_compile wf_X12_compile false true c k = true) h (qkk_93 l2 h c s) (fun r => r.2.1)) {l2 : Int} {h : ms_M} {c : Nat} {s : Nat} : Fm_ (fun c k => nw_F wl_X12_compile wf_X12_compile false true c k = true) h (qj_X12_compile_161 nn qkk_93 l2 h c s) (fun r => r.2.1) := by
  unfold qj_X12_compile_161
  have F_h : ∀ c k : Nat, (fun c k => nw_F wl_X12_compile wf_X12_compile false true c k = true) c k → h c k = h c k := fun _ _ _ => rfl
  refine fm_ca F_h (ff_X0_closeClass nn) (nw_sub rfl) ?_; intro u11 F_u11
  refine fm_xl ?_; intro v12
  exact fm_tl F_u11 (hk_kk_93) (fun _ _ z => z)
set_option maxRecDepth 4000 in
theorem fw_X12_compile_124 (nn : Nat) {qkk_93 : Int → ms_M → Nat → Nat → Option (Int × ms_M × Nat × Nat)} (hk_kk_93 : ∀ {l2 : Int} {h : ms_M} {c : Nat} {s : Nat}, Fm_ (fun c k => nw_F wl_X12_compile wf_X12_compile false true c k = true) h (qkk_93 l2 h c s) (fun r => r.2.1)) : ∀ (k : Nat) {l2 : Int} {l3 : Int} {h : ms_M} {c : Nat} {s : Nat}, Fm_ (fun c k => nw_F wl_X12_compile wf_X12_compile false true c k = true) h (qw_X12_compile_124 nn qkk_93 k l2 l3 h c s) (fun r => r.2.1) := by
  intro k
  induction k with
  | zero => intros; exact fm_no
  | succ k ih =>
    intro l2 l3 h c s
    unfold qw_X12_compile_124
    have F_h : ∀ c k : Nat, (fun c k => nw_F wl_X12_compile wf_X12_compile false true c k = true) c k → h c k = h c k := fun _ _ _ => rfl
    refine fm_pu ?_; intro u15
    refine fm_if ?_ ?_
    · exact fm_tl F_h (fj_X12_compile_161 nn hk_kk_93) (fun _ _ z => z)
    · refine fm_if ?_ ?_
      · exact fm_tl F_h (fj_X12_compile_161 nn hk_kk_93) (fun _ _ z => z)
      · refine fm_ca F_h (ff_X0_makeMethod nn) (nw_sub rfl) ?_; intro u20 F_u20
        refine fm_xl ?_; intro v21
        exact fm_tl F_u20 (ih ) (fun _ _ z => z)
set_option maxRecDepth 4000 in
theorem fw_X12_compile_93 (nn : Nat) : ∀ (k : Nat) {l2 : Int} {h : ms_M} {c : Nat} {s : Nat}, Fm_ (fun c k => nw_F wl_X12_compile wf_X12_compile false true c k = true) h (qw_X12_compile_93 nn k l2 h c s) (fun r => r.2.1) := by
  intro k
  induction k with
  | zero => intros; exact fm_no
  | succ k ih =>
    intro l2 h c s
    unfold qw_X12_compile_93
    have F_h : ∀ c k : Nat, (fun c k => nw_F wl_X12_compile wf_X12_compile false true c k = true) c k → h c k = h c k := fun _ _ _ => rfl
    refine fm_if ?_ ?_
    · exact fm_tl F_h (fj_X12_compile_175 nn) (fun _ _ z => z)
    · refine fm_if ?_ ?_
      · exact fm_tl F_h (fj_X12_compile_175 nn) (fun _ _ z => z)
      · refine fm_ca F_h (ff_X0_beginClass nn) (nw_sub rfl) ?_; intro u30 F_u30
        exact fm_tl F_u30 (fw_X12_compile_124 nn ih _) (fun _ _ z => z)
set_option maxRecDepth 4000 in
theorem ff_X12_compile (nn : Nat) {h : ms_M} : Fm_ (fun c k => nw_F wl_X12_compile wf_X12_compile false true c k = true) h (qf_X12_compile nn h) (fun r => r.2.1) := by
  unfold qf_X12_compile
  have F_h : ∀ c k : Nat, (fun c k => nw_F wl_X12_compile wf_X12_compile false true c k = true) c k → h c k = h c k := fun _ _ _ => rfl
  refine fm_up F_h (nw_nf rfl) ?_; intro h34 F_h34
  refine fm_if ?_ ?_
  · refine fm_ca F_h34 (ff_X9_scan nn) (nw_sub rfl) ?_; intro u38 F_u38
    refine fm_ca F_u38 (ff_X2_forget nn) (nw_sub rfl) ?_; intro u41 F_u41
    refine fm_ca F_u41 (ff_X8_readProgram nn) (nw_sub rfl) ?_; intro u44 F_u44
    refine fm_ca F_u44 (ff_X2_readClasses nn) (nw_sub rfl) ?_; intro u47 F_u47
    refine fm_ca F_u47 (ff_X2_readMembers nn) (nw_sub rfl) ?_; intro u50 F_u50
    refine fm_ca F_u50 (ff_X2_checkOverrides nn) (nw_sub rfl) ?_; intro u53 F_u53
    refine fm_ca F_u53 (ff_X2_nameKinds nn) (nw_sub rfl) ?_; intro u56 F_u56
    refine fm_ca F_u56 (ff_X0_beginProgram nn) (nw_sub rfl) ?_; intro u59 F_u59
    exact fm_tl F_u59 (fw_X12_compile_93 nn _) (fun _ _ z => z)
  · refine fm_ca F_h34 (ff_X9_refuse nn) (nw_sub rfl) ?_; intro u62 F_u62
    exact fm_ret F_u62
set_option maxRecDepth 4000 in
theorem ff_X12_end (nn : Nat) {a1 : Int} {h : ms_M} : Fm_ (fun c k => nw_F wl_X12_end wf_X12_end false false c k = true) h (qf_X12_end nn a1 h) (fun r => r.2) := by
  unfold qf_X12_end
  have F_h : ∀ c k : Nat, (fun c k => nw_F wl_X12_end wf_X12_end false false c k = true) c k → h c k = h c k := fun _ _ _ => rfl
  refine fm_if ?_ ?_
  · exact fm_ret F_h
  · refine fm_if ?_ ?_
    · refine fm_up F_h (nw_nf rfl) ?_; intro h2 F_h2
      exact fm_ret F_h2
    · exact fm_ret F_h
set_option maxRecDepth 4000 in
theorem fw_X12_putNumber_3 (nn : Nat) : ∀ (k : Nat) {l1 : Int} {l2 : Int} {h : ms_M}, Fm_ (fun c k => nw_F wl_X12_putNumber wf_X12_putNumber false false c k = true) h (qw_X12_putNumber_3 nn k l1 l2 h) (fun r => r) := by
  intro k
  induction k with
  | zero => intros; exact fm_no
  | succ k ih =>
    intro l1 l2 h
    unfold qw_X12_putNumber_3
    have F_h : ∀ c k : Nat, (fun c k => nw_F wl_X12_putNumber wf_X12_putNumber false false c k = true) c k → h c k = h c k := fun _ _ _ => rfl
    refine fm_if ?_ ?_
    · exact fm_ret F_h
    · refine fm_if ?_ ?_
      · refine fm_xl ?_; intro v4
        exact fm_tl F_h (ih ) (fun _ _ z => z)
      · refine fm_xl ?_; intro v7
        refine fm_xl ?_; intro v8
        refine fm_wB F_h (nw_ne rfl) ?_; intro h9 F_h9
        refine fm_xl ?_; intro v11
        refine fm_up F_h9 (nw_nf rfl) ?_; intro h12 F_h12
        refine fm_xl ?_; intro v13
        exact fm_tl F_h12 (ih ) (fun _ _ z => z)
set_option maxRecDepth 4000 in
theorem ff_X12_putNumber (nn : Nat) {a1 : Int} {h : ms_M} : Fm_ (fun c k => nw_F wl_X12_putNumber wf_X12_putNumber false false c k = true) h (qf_X12_putNumber nn a1 h) (fun r => r) := by
  unfold qf_X12_putNumber
  have F_h : ∀ c k : Nat, (fun c k => nw_F wl_X12_putNumber wf_X12_putNumber false false c k = true) c k → h c k = h c k := fun _ _ _ => rfl
  exact fm_tl F_h (fw_X12_putNumber_3 nn _) (fun _ _ z => z)
set_option maxRecDepth 4000 in
theorem ff_X12_feed (nn : Nat) {a1 : Int} {a2 : Int} {a3 : Int} {a4 : Int} {a5 : Int} {h : ms_M} : Fm_ (fun c k => nw_F wl_X12_feed wf_X12_feed false false c k = true) h (qf_X12_feed nn a1 a2 a3 a4 a5 h) (fun r => r.2) := by
  unfold qf_X12_feed
  have F_h : ∀ c k : Nat, (fun c k => nw_F wl_X12_feed wf_X12_feed false false c k = true) c k → h c k = h c k := fun _ _ _ => rfl
  refine fm_xl ?_; intro v2
  refine fm_if ?_ ?_
  · refine fm_ca F_h (ff_X12_putNumber nn) (nw_sub rfl) ?_; intro u4 F_u4
    refine fm_ca F_u4 (ff_X12_putNumber nn) (nw_sub rfl) ?_; intro u6 F_u6
    refine fm_ca F_u6 (ff_X12_putNumber nn) (nw_sub rfl) ?_; intro u8 F_u8
    refine fm_ca F_u8 (ff_X12_putNumber nn) (nw_sub rfl) ?_; intro u10 F_u10
    refine fm_ca F_u10 (ff_X12_putNumber nn) (nw_sub rfl) ?_; intro u12 F_u12
    exact fm_ret F_u12
  · exact fm_ret F_h
set_option maxRecDepth 4000 in
theorem ff_J7_copyOf_9075b (nn : Nat) {a0 : Nat} {a1 : Int} {h : ms_M} : Fm_ (fun c k => nw_F wl_J7_copyOf_9075b wf_J7_copyOf_9075b false true c k = true) h (qf_J7_copyOf_9075b nn a0 a1 h) (fun r => r.2.1) := by
  intro r hr c k hc
  unfold qf_J7_copyOf_9075b at hr
  split at hr
  · rename_i q
    cases hr
    have hb : ly_T (cn_M h) = 1 := ly_Tbig (by unfold cn_M; omega)
    dsimp only
    unfold nw_M
    rw [if_neg (nw_neB hb c k hc), if_neg (fun z => nw_neB (ly_Tbig (by decide : 256 ≤ 900000)) c k hc z.1), if_neg (fun z => nw_neB (ly_Tbig (by decide : 256 ≤ 900001)) c k hc z.1)]
  · cases hr
set_option maxRecDepth 4000 in
theorem ff_X3_keepOwn (nn : Nat) {a0 : Nat} {h : ms_M} (hb_a0 : kc_O a0 = 3) : Fm_ (fun c k => nw_F wl_X3_keepOwn wf_X3_keepOwn true true c k = true) h (qf_X3_keepOwn nn a0 h) (fun r => r.1) := by
  unfold qf_X3_keepOwn
  have F_h : ∀ c k : Nat, (fun c k => nw_F wl_X3_keepOwn wf_X3_keepOwn true true c k = true) c k → h c k = h c k := fun _ _ _ => rfl
  refine fm_ck ?_; intro _
  refine fm_ca F_h (ff_J7_copyOf_9075b nn) (nw_sub rfl) ?_; intro u3 F_u3
  refine fm_wR F_u3 (nw_fI hb_a0) ?_; intro h4 F_h4
  exact fm_ret F_h4
set_option maxRecDepth 4000 in
theorem ff_X3_bad (nn : Nat) {a0 : Nat} {a1 : Int} {h : ms_M} (hb_a0 : kc_O a0 = 3) : Fm_ (fun c k => nw_F wl_X3_bad wf_X3_bad true false c k = true) h (qf_X3_bad nn a0 a1 h) (fun r => r) := by
  unfold qf_X3_bad
  have F_h : ∀ c k : Nat, (fun c k => nw_F wl_X3_bad wf_X3_bad true false c k = true) c k → h c k = h c k := fun _ _ _ => rfl
  refine fm_if ?_ ?_
  · exact fm_ret F_h
  · refine fm_up F_h (nw_fI hb_a0) ?_; intro h2 F_h2
    exact fm_ret F_h2
set_option maxRecDepth 4000 in
theorem ff_X3_next (nn : Nat) {a0 : Nat} {h : ms_M} (hb_a0 : kc_O a0 = 3) : Fm_ (fun c k => nw_F wl_X3_next wf_X3_next true false c k = true) h (qf_X3_next nn a0 h) (fun r => r.2) := by
  unfold qf_X3_next
  have F_h : ∀ c k : Nat, (fun c k => nw_F wl_X3_next wf_X3_next true false c k = true) c k → h c k = h c k := fun _ _ _ => rfl
  refine fm_if ?_ ?_
  · refine fm_xl ?_; intro v4
    refine fm_up F_h (nw_fI hb_a0) ?_; intro h5 F_h5
    refine fm_ck ?_; intro _
    refine fm_xl ?_; intro v8
    refine fm_rdT ?_; intro v9
    refine fm_xl ?_; intro v10
    exact fm_ret F_h5
  · refine fm_if ?_ ?_
    · refine fm_up F_h (nw_fI hb_a0) ?_; intro h13 F_h13
      exact fm_ret F_h13
    · refine fm_up F_h (nw_fI hb_a0) ?_; intro h15 F_h15
      exact fm_ret F_h15
set_option maxRecDepth 4000 in
theorem fj_X3_nextPlainClass_29 (nn : Nat) {l0 : Nat} {l2 : Int} {h : ms_M} (hb_l0 : kc_O l0 = 3) : Fm_ (fun c k => nw_F wl_X3_nextPlainClass wf_X3_nextPlainClass true false c k = true) h (qj_X3_nextPlainClass_29 nn l0 l2 h) (fun r => r.2) := by
  unfold qj_X3_nextPlainClass_29
  have F_h : ∀ c k : Nat, (fun c k => nw_F wl_X3_nextPlainClass wf_X3_nextPlainClass true false c k = true) c k → h c k = h c k := fun _ _ _ => rfl
  refine fm_xl ?_; intro v2
  refine fm_ca F_h (ff_X3_bad nn hb_l0) (nw_sub rfl) ?_; intro u4 F_u4
  exact fm_ret F_u4
set_option maxRecDepth 4000 in
theorem ff_X3_nextPlainClass (nn : Nat) {a0 : Nat} {h : ms_M} (hb_a0 : kc_O a0 = 3) : Fm_ (fun c k => nw_F wl_X3_nextPlainClass wf_X3_nextPlainClass true false c k = true) h (qf_X3_nextPlainClass nn a0 h) (fun r => r.2) := by
  unfold qf_X3_nextPlainClass
  have F_h : ∀ c k : Nat, (fun c k => nw_F wl_X3_nextPlainClass wf_X3_nextPlainClass true false c k = true) c k → h c k = h c k := fun _ _ _ => rfl
  refine fm_ca F_h (ff_X3_next nn hb_a0) (nw_sub rfl) ?_; intro u6 F_u6
  refine fm_pu ?_; intro u8
  refine fm_pu ?_; intro u10
  refine fm_if ?_ ?_
  · exact fm_tl F_u6 (fj_X3_nextPlainClass_29 nn hb_a0) (fun _ _ z => z)
  · refine fm_pu ?_; intro u12
    refine fm_if ?_ ?_
    · exact fm_ret F_u6
    · exact fm_tl F_u6 (fj_X3_nextPlainClass_29 nn hb_a0) (fun _ _ z => z)
set_option maxRecDepth 4000 in
theorem fj_X3_nextUpTo_15 (nn : Nat) {l0 : Nat} {l3 : Int} {h : ms_M} (hb_l0 : kc_O l0 = 3) : Fm_ (fun c k => nw_F wl_X3_nextUpTo wf_X3_nextUpTo true false c k = true) h (qj_X3_nextUpTo_15 nn l0 l3 h) (fun r => r.2) := by
  unfold qj_X3_nextUpTo_15
  have F_h : ∀ c k : Nat, (fun c k => nw_F wl_X3_nextUpTo wf_X3_nextUpTo true false c k = true) c k → h c k = h c k := fun _ _ _ => rfl
  refine fm_xl ?_; intro v2
  refine fm_ca F_h (ff_X3_bad nn hb_l0) (nw_sub rfl) ?_; intro u4 F_u4
  exact fm_ret F_u4
set_option maxRecDepth 4000 in
theorem ff_X3_nextUpTo (nn : Nat) {a0 : Nat} {a1 : Int} {a2 : Int} {h : ms_M} (hb_a0 : kc_O a0 = 3) : Fm_ (fun c k => nw_F wl_X3_nextUpTo wf_X3_nextUpTo true false c k = true) h (qf_X3_nextUpTo nn a0 a1 a2 h) (fun r => r.2) := by
  unfold qf_X3_nextUpTo
  have F_h : ∀ c k : Nat, (fun c k => nw_F wl_X3_nextUpTo wf_X3_nextUpTo true false c k = true) c k → h c k = h c k := fun _ _ _ => rfl
  refine fm_ca F_h (ff_X3_next nn hb_a0) (nw_sub rfl) ?_; intro u6 F_u6
  refine fm_if ?_ ?_
  · exact fm_tl F_u6 (fj_X3_nextUpTo_15 nn hb_a0) (fun _ _ z => z)
  · refine fm_if ?_ ?_
    · exact fm_ret F_u6
    · exact fm_tl F_u6 (fj_X3_nextUpTo_15 nn hb_a0) (fun _ _ z => z)
set_option maxRecDepth 4000 in
theorem fj_X3_checkConstant_109 (nn : Nat) {l0 : Nat} {l2 : Int} {l3 : Int} {h : ms_M} (hb_l0 : kc_O l0 = 3) : Fm_ (fun c k => nw_F wl_X3_checkConstant wf_X3_checkConstant true false c k = true) h (qj_X3_checkConstant_109 nn l0 l2 l3 h) (fun r => r) := by
  unfold qj_X3_checkConstant_109
  have F_h : ∀ c k : Nat, (fun c k => nw_F wl_X3_checkConstant wf_X3_checkConstant true false c k = true) c k → h c k = h c k := fun _ _ _ => rfl
  refine fm_pu ?_; intro u2
  refine fm_if ?_ ?_
  · exact fm_ret F_h
  · refine fm_pu ?_; intro u4
    refine fm_if ?_ ?_
    · exact fm_ret F_h
    · refine fm_xl ?_; intro v5
      refine fm_ca F_h (ff_X3_bad nn hb_l0) (nw_sub rfl) ?_; intro u7 F_u7
      exact fm_ret F_u7
set_option maxRecDepth 4000 in
theorem fj_X3_checkConstant_89 (nn : Nat) {l0 : Nat} {l1 : Int} {l2 : Int} {l3 : Int} {h : ms_M} (hb_l0 : kc_O l0 = 3) : Fm_ (fun c k => nw_F wl_X3_checkConstant wf_X3_checkConstant true false c k = true) h (qj_X3_checkConstant_89 nn l0 l1 l2 l3 h) (fun r => r) := by
  unfold qj_X3_checkConstant_89
  have F_h : ∀ c k : Nat, (fun c k => nw_F wl_X3_checkConstant wf_X3_checkConstant true false c k = true) c k → h c k = h c k := fun _ _ _ => rfl
  refine fm_pu ?_; intro u11
  refine fm_pu ?_; intro u13
  refine fm_if ?_ ?_
  · exact fm_tl F_h (fj_X3_checkConstant_109 nn hb_l0) (fun _ _ z => z)
  · refine fm_xl ?_; intro v14
    refine fm_ca F_h (ff_X3_bad nn hb_l0) (nw_sub rfl) ?_; intro u16 F_u16
    exact fm_tl F_u16 (fj_X3_checkConstant_109 nn hb_l0) (fun _ _ z => z)
set_option maxRecDepth 4000 in
theorem fj_X3_checkConstant_53 (nn : Nat) {l0 : Nat} {l1 : Int} {l2 : Int} {h : ms_M} (hb_l0 : kc_O l0 = 3) : Fm_ (fun c k => nw_F wl_X3_checkConstant wf_X3_checkConstant true false c k = true) h (qj_X3_checkConstant_53 nn l0 l1 l2 h) (fun r => r) := by
  unfold qj_X3_checkConstant_53
  have F_h : ∀ c k : Nat, (fun c k => nw_F wl_X3_checkConstant wf_X3_checkConstant true false c k = true) c k → h c k = h c k := fun _ _ _ => rfl
  refine fm_rd ?_; intro v19
  refine fm_if ?_ ?_
  · exact fm_ret F_h
  · refine fm_pu ?_; intro u21
    refine fm_pu ?_; intro u23
    refine fm_pu ?_; intro u25
    refine fm_if ?_ ?_
    · exact fm_tl F_h (fj_X3_checkConstant_89 nn hb_l0) (fun _ _ z => z)
    · refine fm_ca F_h (ff_X3_bad nn hb_l0) (nw_sub rfl) ?_; intro u27 F_u27
      exact fm_tl F_u27 (fj_X3_checkConstant_89 nn hb_l0) (fun _ _ z => z)
set_option maxRecDepth 4000 in
theorem fj_X3_checkConstant_48 (nn : Nat) {l0 : Nat} {l1 : Int} {l2 : Int} {h : ms_M} (hb_l0 : kc_O l0 = 3) : Fm_ (fun c k => nw_F wl_X3_checkConstant wf_X3_checkConstant true false c k = true) h (qj_X3_checkConstant_48 nn l0 l1 l2 h) (fun r => r) := by
  unfold qj_X3_checkConstant_48
  have F_h : ∀ c k : Nat, (fun c k => nw_F wl_X3_checkConstant wf_X3_checkConstant true false c k = true) c k → h c k = h c k := fun _ _ _ => rfl
  refine fm_ca F_h (ff_X3_bad nn hb_l0) (nw_sub rfl) ?_; intro u31 F_u31
  exact fm_tl F_u31 (fj_X3_checkConstant_53 nn hb_l0) (fun _ _ z => z)
set_option maxRecDepth 4000 in
theorem ff_X3_checkConstant (nn : Nat) {a0 : Nat} {a1 : Int} {h : ms_M} (hb_a0 : kc_O a0 = 3) : Fm_ (fun c k => nw_F wl_X3_checkConstant wf_X3_checkConstant true false c k = true) h (qf_X3_checkConstant nn a0 a1 h) (fun r => r) := by
  unfold qf_X3_checkConstant
  have F_h : ∀ c k : Nat, (fun c k => nw_F wl_X3_checkConstant wf_X3_checkConstant true false c k = true) c k → h c k = h c k := fun _ _ _ => rfl
  refine fm_rd ?_; intro v33
  refine fm_rd ?_; intro v35
  refine fm_if ?_ ?_
  · exact fm_tl F_h (fj_X3_checkConstant_53 nn hb_a0) (fun _ _ z => z)
  · refine fm_pu ?_; intro u37
    refine fm_pu ?_; intro u39
    refine fm_if ?_ ?_
    · exact fm_tl F_h (fj_X3_checkConstant_53 nn hb_a0) (fun _ _ z => z)
    · refine fm_pu ?_; intro u41
      refine fm_if ?_ ?_
      · exact fm_tl F_h (fj_X3_checkConstant_48 nn hb_a0) (fun _ _ z => z)
      · refine fm_pu ?_; intro u43
        refine fm_if ?_ ?_
        · exact fm_tl F_h (fj_X3_checkConstant_53 nn hb_a0) (fun _ _ z => z)
        · exact fm_tl F_h (fj_X3_checkConstant_48 nn hb_a0) (fun _ _ z => z)
set_option maxRecDepth 4000 in
theorem fw_X3_readConstant_84 (nn : Nat) : ∀ (k : Nat) {l0 : Nat} {l2 : Int} {l3 : Int} {l4 : Int} {h : ms_M} (hb_l0 : kc_O l0 = 3), Fm_ (fun c k => nw_F wl_X3_readConstant wf_X3_readConstant true false c k = true) h (qw_X3_readConstant_84 nn k l0 l2 l3 l4 h) (fun r => r) := by
  intro k
  induction k with
  | zero => intros; exact fm_no
  | succ k ih =>
    intro l0 l2 l3 l4 h hb_l0
    unfold qw_X3_readConstant_84
    have F_h : ∀ c k : Nat, (fun c k => nw_F wl_X3_readConstant wf_X3_readConstant true false c k = true) c k → h c k = h c k := fun _ _ _ => rfl
    refine fm_if ?_ ?_
    · exact fm_ret F_h
    · refine fm_if ?_ ?_
      · exact fm_ret F_h
      · refine fm_if ?_ ?_
        · refine fm_ca F_h (ff_X3_next nn hb_l0) (nw_sub rfl) ?_; intro u3 F_u3
          refine fm_xl ?_; intro v4
          exact fm_tl F_u3 (ih hb_l0) (fun _ _ z => z)
        · refine fm_ca F_h (ff_X3_nextUpTo nn hb_l0) (nw_sub rfl) ?_; intro u6 F_u6
          refine fm_xl ?_; intro v7
          exact fm_tl F_u6 (ih hb_l0) (fun _ _ z => z)
set_option maxRecDepth 4000 in
theorem fj_X3_readConstant_40 (nn : Nat) {l0 : Nat} {l1 : Int} {l2 : Int} {l3 : Int} {h : ms_M} (hb_l0 : kc_O l0 = 3) : Fm_ (fun c k => nw_F wl_X3_readConstant wf_X3_readConstant true false c k = true) h (qj_X3_readConstant_40 nn l0 l1 l2 l3 h) (fun r => r) := by
  unfold qj_X3_readConstant_40
  have F_h : ∀ c k : Nat, (fun c k => nw_F wl_X3_readConstant wf_X3_readConstant true false c k = true) c k → h c k = h c k := fun _ _ _ => rfl
  refine fm_wA F_h (nw_neI hb_l0 (by decide)) ?_; intro h12 F_h12
  refine fm_wA F_h12 (nw_neI hb_l0 (by decide)) ?_; intro h15 F_h15
  refine fm_if ?_ ?_
  · refine fm_wA F_h15 (nw_neI hb_l0 (by decide)) ?_; intro h18 F_h18
    exact fm_tl F_h18 (fw_X3_readConstant_84 nn _ hb_l0) (fun _ _ z => z)
  · refine fm_xl ?_; intro v20
    refine fm_wA F_h15 (nw_neI hb_l0 (by decide)) ?_; intro h21 F_h21
    exact fm_tl F_h21 (fw_X3_readConstant_84 nn _ hb_l0) (fun _ _ z => z)
set_option maxRecDepth 4000 in
theorem fj_X3_readConstant_26 (nn : Nat) {l0 : Nat} {l1 : Int} {l2 : Int} {s0 : Int} {h : ms_M} (hb_l0 : kc_O l0 = 3) : Fm_ (fun c k => nw_F wl_X3_readConstant wf_X3_readConstant true false c k = true) h (qj_X3_readConstant_26 nn l0 l1 l2 s0 h) (fun r => r) := by
  unfold qj_X3_readConstant_26
  have F_h : ∀ c k : Nat, (fun c k => nw_F wl_X3_readConstant wf_X3_readConstant true false c k = true) c k → h c k = h c k := fun _ _ _ => rfl
  refine fm_if ?_ ?_
  · exact fm_tl F_h (fj_X3_readConstant_40 nn hb_l0) (fun _ _ z => z)
  · refine fm_ca F_h (ff_X3_nextUpTo nn hb_l0) (nw_sub rfl) ?_; intro u24 F_u24
    exact fm_tl F_u24 (fj_X3_readConstant_40 nn hb_l0) (fun _ _ z => z)
set_option maxRecDepth 4000 in
theorem ff_X3_readConstant (nn : Nat) {a0 : Nat} {a1 : Int} {h : ms_M} (hb_a0 : kc_O a0 = 3) : Fm_ (fun c k => nw_F wl_X3_readConstant wf_X3_readConstant true false c k = true) h (qf_X3_readConstant nn a0 a1 h) (fun r => r) := by
  unfold qf_X3_readConstant
  have F_h : ∀ c k : Nat, (fun c k => nw_F wl_X3_readConstant wf_X3_readConstant true false c k = true) c k → h c k = h c k := fun _ _ _ => rfl
  refine fm_ca F_h (ff_X3_nextUpTo nn hb_a0) (nw_sub rfl) ?_; intro u27 F_u27
  refine fm_if ?_ ?_
  · refine fm_if ?_ ?_
    · exact fm_tl F_u27 (fj_X3_readConstant_26 nn hb_a0) (fun _ _ z => z)
    · exact fm_tl F_u27 (fj_X3_readConstant_26 nn hb_a0) (fun _ _ z => z)
  · exact fm_tl F_u27 (fj_X3_readConstant_26 nn hb_a0) (fun _ _ z => z)
set_option maxRecDepth 4000 in
theorem fw_X3_readConstants_57 (nn : Nat) : ∀ (k : Nat) {l0 : Nat} {l1 : Int} {h : ms_M} (hb_l0 : kc_O l0 = 3), Fm_ (fun c k => nw_F wl_X3_readConstants wf_X3_readConstants true false c k = true) h (qw_X3_readConstants_57 nn k l0 l1 h) (fun r => r) := by
  intro k
  induction k with
  | zero => intros; exact fm_no
  | succ k ih =>
    intro l0 l1 h hb_l0
    unfold qw_X3_readConstants_57
    have F_h : ∀ c k : Nat, (fun c k => nw_F wl_X3_readConstants wf_X3_readConstants true false c k = true) c k → h c k = h c k := fun _ _ _ => rfl
    refine fm_if ?_ ?_
    · exact fm_ret F_h
    · refine fm_if ?_ ?_
      · exact fm_ret F_h
      · refine fm_ca F_h (ff_X3_checkConstant nn hb_l0) (nw_sub rfl) ?_; intro u4 F_u4
        refine fm_xl ?_; intro v5
        exact fm_tl F_u4 (ih hb_l0) (fun _ _ z => z)
set_option maxRecDepth 4000 in
theorem fw_X3_readConstants_28 (nn : Nat) : ∀ (k : Nat) {l0 : Nat} {l1 : Int} {h : ms_M} (hb_l0 : kc_O l0 = 3), Fm_ (fun c k => nw_F wl_X3_readConstants wf_X3_readConstants true false c k = true) h (qw_X3_readConstants_28 nn k l0 l1 h) (fun r => r) := by
  intro k
  induction k with
  | zero => intros; exact fm_no
  | succ k ih =>
    intro l0 l1 h hb_l0
    unfold qw_X3_readConstants_28
    have F_h : ∀ c k : Nat, (fun c k => nw_F wl_X3_readConstants wf_X3_readConstants true false c k = true) c k → h c k = h c k := fun _ _ _ => rfl
    refine fm_if ?_ ?_
    · exact fm_tl F_h (fw_X3_readConstants_57 nn _ hb_l0) (fun _ _ z => z)
    · refine fm_if ?_ ?_
      · exact fm_tl F_h (fw_X3_readConstants_57 nn _ hb_l0) (fun _ _ z => z)
      · refine fm_ca F_h (ff_X3_readConstant nn hb_l0) (nw_sub rfl) ?_; intro u11 F_u11
        refine fm_xl ?_; intro v12
        exact fm_tl F_u11 (ih hb_l0) (fun _ _ z => z)
set_option maxRecDepth 4000 in
theorem ff_X3_readConstants (nn : Nat) {a0 : Nat} {h : ms_M} (hb_a0 : kc_O a0 = 3) : Fm_ (fun c k => nw_F wl_X3_readConstants wf_X3_readConstants true false c k = true) h (qf_X3_readConstants nn a0 h) (fun r => r) := by
  unfold qf_X3_readConstants
  have F_h : ∀ c k : Nat, (fun c k => nw_F wl_X3_readConstants wf_X3_readConstants true false c k = true) c k → h c k = h c k := fun _ _ _ => rfl
  refine fm_ca F_h (ff_X3_nextUpTo nn hb_a0) (nw_sub rfl) ?_; intro u16 F_u16
  refine fm_ca F_u16 (ff_X3_nextUpTo nn hb_a0) (nw_sub rfl) ?_; intro u18 F_u18
  refine fm_ca F_u18 (ff_X3_next nn hb_a0) (nw_sub rfl) ?_; intro u20 F_u20
  refine fm_up F_u20 (nw_fI hb_a0) ?_; intro h21 F_h21
  exact fm_tl F_h21 (fw_X3_readConstants_28 nn _ hb_a0) (fun _ _ z => z)
set_option maxRecDepth 4000 in
theorem ff_X3_nextName (nn : Nat) {a0 : Nat} {h : ms_M} (hb_a0 : kc_O a0 = 3) : Fm_ (fun c k => nw_F wl_X3_nextName wf_X3_nextName true false c k = true) h (qf_X3_nextName nn a0 h) (fun r => r.2) := by
  unfold qf_X3_nextName
  have F_h : ∀ c k : Nat, (fun c k => nw_F wl_X3_nextName wf_X3_nextName true false c k = true) c k → h c k = h c k := fun _ _ _ => rfl
  refine fm_ca F_h (ff_X3_next nn hb_a0) (nw_sub rfl) ?_; intro u2 F_u2
  refine fm_pu ?_; intro u4
  refine fm_if ?_ ?_
  · exact fm_ret F_u2
  · refine fm_xl ?_; intro v6
    refine fm_ca F_u2 (ff_X3_bad nn hb_a0) (nw_sub rfl) ?_; intro u8 F_u8
    exact fm_ret F_u8
set_option maxRecDepth 4000 in
theorem fj_X3_readFields_58 (nn : Nat) {qkk_10 : Nat → Int → Int → ms_M → Option ms_M} (hk_kk_10 : ∀ {l0 : Nat} {l1 : Int} {l2 : Int} {h : ms_M} (hb_l0 : kc_O l0 = 3), Fm_ (fun c k => nw_F wl_X3_readFields wf_X3_readFields true false c k = true) h (qkk_10 l0 l1 l2 h) (fun r => r)) {l0 : Nat} {l1 : Int} {l2 : Int} {l3 : Int} {h : ms_M} (hb_l0 : kc_O l0 = 3) : Fm_ (fun c k => nw_F wl_X3_readFields wf_X3_readFields true false c k = true) h (qj_X3_readFields_58 nn qkk_10 l0 l1 l2 l3 h) (fun r => r) := by
  unfold qj_X3_readFields_58
  have F_h : ∀ c k : Nat, (fun c k => nw_F wl_X3_readFields wf_X3_readFields true false c k = true) c k → h c k = h c k := fun _ _ _ => rfl
  refine fm_xl ?_; intro v2
  refine fm_xl ?_; intro v3
  refine fm_wA F_h (nw_neI hb_l0 (by decide)) ?_; intro h4 F_h4
  refine fm_xl ?_; intro v6
  refine fm_up F_h4 (nw_fI hb_l0) ?_; intro h7 F_h7
  refine fm_xl ?_; intro v8
  exact fm_tl F_h7 (hk_kk_10 hb_l0) (fun _ _ z => z)
set_option maxRecDepth 4000 in
theorem fw_X3_readFields_10 (nn : Nat) : ∀ (k : Nat) {l0 : Nat} {l1 : Int} {l2 : Int} {h : ms_M} (hb_l0 : kc_O l0 = 3), Fm_ (fun c k => nw_F wl_X3_readFields wf_X3_readFields true false c k = true) h (qw_X3_readFields_10 nn k l0 l1 l2 h) (fun r => r) := by
  intro k
  induction k with
  | zero => intros; exact fm_no
  | succ k ih =>
    intro l0 l1 l2 h hb_l0
    unfold qw_X3_readFields_10
    have F_h : ∀ c k : Nat, (fun c k => nw_F wl_X3_readFields wf_X3_readFields true false c k = true) c k → h c k = h c k := fun _ _ _ => rfl
    refine fm_if ?_ ?_
    · exact fm_ret F_h
    · refine fm_if ?_ ?_
      · exact fm_ret F_h
      · refine fm_xl ?_; intro v11
        refine fm_ca F_h (ff_X3_nextName nn hb_l0) (nw_sub rfl) ?_; intro u13 F_u13
        refine fm_wA F_u13 (nw_neI hb_l0 (by decide)) ?_; intro h14 F_h14
        refine fm_ca F_h14 (ff_X3_next nn hb_l0) (nw_sub rfl) ?_; intro u16 F_u16
        refine fm_pu ?_; intro u18
        refine fm_if ?_ ?_
        · exact fm_tl F_u16 (fj_X3_readFields_58 nn ih hb_l0) (fun _ _ z => z)
        · refine fm_xl ?_; intro v20
          refine fm_ca F_u16 (ff_X3_bad nn hb_l0) (nw_sub rfl) ?_; intro u22 F_u22
          exact fm_tl F_u22 (fj_X3_readFields_58 nn ih hb_l0) (fun _ _ z => z)
set_option maxRecDepth 4000 in
theorem ff_X3_readFields (nn : Nat) {a0 : Nat} {h : ms_M} (hb_a0 : kc_O a0 = 3) : Fm_ (fun c k => nw_F wl_X3_readFields wf_X3_readFields true false c k = true) h (qf_X3_readFields nn a0 h) (fun r => r) := by
  unfold qf_X3_readFields
  have F_h : ∀ c k : Nat, (fun c k => nw_F wl_X3_readFields wf_X3_readFields true false c k = true) c k → h c k = h c k := fun _ _ _ => rfl
  refine fm_ca F_h (ff_X3_nextUpTo nn hb_a0) (nw_sub rfl) ?_; intro u27 F_u27
  exact fm_tl F_u27 (fw_X3_readFields_10 nn _ hb_a0) (fun _ _ z => z)
set_option maxRecDepth 4000 in
theorem fj_X3_readCode_85 (nn : Nat) {l0 : Nat} {l4 : Int} {h : ms_M} (hb_l0 : kc_O l0 = 3) : Fm_ (fun c k => nw_F wl_X3_readCode wf_X3_readCode true false c k = true) h (qj_X3_readCode_85 nn l0 l4 h) (fun r => r) := by
  unfold qj_X3_readCode_85
  have F_h : ∀ c k : Nat, (fun c k => nw_F wl_X3_readCode wf_X3_readCode true false c k = true) c k → h c k = h c k := fun _ _ _ => rfl
  refine fm_xl ?_; intro v2
  refine fm_xl ?_; intro v4
  refine fm_up F_h (nw_fI hb_l0) ?_; intro h5 F_h5
  exact fm_ret F_h5
set_option maxRecDepth 4000 in
theorem fj_X3_readCode_40 (nn : Nat) {l0 : Nat} {l1 : Int} {l4 : Int} {h : ms_M} (hb_l0 : kc_O l0 = 3) : Fm_ (fun c k => nw_F wl_X3_readCode wf_X3_readCode true false c k = true) h (qj_X3_readCode_40 nn l0 l1 l4 h) (fun r => r) := by
  unfold qj_X3_readCode_40
  have F_h : ∀ c k : Nat, (fun c k => nw_F wl_X3_readCode wf_X3_readCode true false c k = true) c k → h c k = h c k := fun _ _ _ => rfl
  refine fm_xl ?_; intro v7
  refine fm_wA F_h (nw_neI hb_l0 (by decide)) ?_; intro h8 F_h8
  refine fm_xl ?_; intro v10
  refine fm_wA F_h8 (nw_neI hb_l0 (by decide)) ?_; intro h12 F_h12
  refine fm_xl ?_; intro v14
  refine fm_if ?_ ?_
  · exact fm_tl F_h12 (fj_X3_readCode_85 nn hb_l0) (fun _ _ z => z)
  · refine fm_ca F_h12 (ff_X3_bad nn hb_l0) (nw_sub rfl) ?_; intro u18 F_u18
    exact fm_tl F_u18 (fj_X3_readCode_85 nn hb_l0) (fun _ _ z => z)
set_option maxRecDepth 4000 in
theorem fj_X3_readCode_35 (nn : Nat) {l0 : Nat} {l1 : Int} {l2 : Int} {l4 : Int} {h : ms_M} (hb_l0 : kc_O l0 = 3) : Fm_ (fun c k => nw_F wl_X3_readCode wf_X3_readCode true false c k = true) h (qj_X3_readCode_35 nn l0 l1 l2 l4 h) (fun r => r) := by
  unfold qj_X3_readCode_35
  have F_h : ∀ c k : Nat, (fun c k => nw_F wl_X3_readCode wf_X3_readCode true false c k = true) c k → h c k = h c k := fun _ _ _ => rfl
  refine fm_ca F_h (ff_X3_bad nn hb_l0) (nw_sub rfl) ?_; intro u21 F_u21
  exact fm_tl F_u21 (fj_X3_readCode_40 nn hb_l0) (fun _ _ z => z)
set_option maxRecDepth 4000 in
theorem ff_X3_readCode (nn : Nat) {a0 : Nat} {a1 : Int} {h : ms_M} (hb_a0 : kc_O a0 = 3) : Fm_ (fun c k => nw_F wl_X3_readCode wf_X3_readCode true false c k = true) h (qf_X3_readCode nn a0 a1 h) (fun r => r) := by
  unfold qf_X3_readCode
  have F_h : ∀ c k : Nat, (fun c k => nw_F wl_X3_readCode wf_X3_readCode true false c k = true) c k → h c k = h c k := fun _ _ _ => rfl
  refine fm_ca F_h (ff_X3_next nn hb_a0) (nw_sub rfl) ?_; intro u24 F_u24
  refine fm_xl ?_; intro v25
  refine fm_ca F_u24 (ff_X3_next nn hb_a0) (nw_sub rfl) ?_; intro u27 F_u27
  refine fm_xl ?_; intro v28
  refine fm_if ?_ ?_
  · exact fm_tl F_u27 (fj_X3_readCode_35 nn hb_a0) (fun _ _ z => z)
  · refine fm_if ?_ ?_
    · exact fm_tl F_u27 (fj_X3_readCode_40 nn hb_a0) (fun _ _ z => z)
    · exact fm_tl F_u27 (fj_X3_readCode_35 nn hb_a0) (fun _ _ z => z)
set_option maxRecDepth 4000 in
theorem ff_X3_nextClass (nn : Nat) {a0 : Nat} {h : ms_M} (hb_a0 : kc_O a0 = 3) : Fm_ (fun c k => nw_F wl_X3_nextClass wf_X3_nextClass true false c k = true) h (qf_X3_nextClass nn a0 h) (fun r => r) := by
  unfold qf_X3_nextClass
  have F_h : ∀ c k : Nat, (fun c k => nw_F wl_X3_nextClass wf_X3_nextClass true false c k = true) c k → h c k = h c k := fun _ _ _ => rfl
  refine fm_ca F_h (ff_X3_next nn hb_a0) (nw_sub rfl) ?_; intro u2 F_u2
  refine fm_pu ?_; intro u4
  refine fm_if ?_ ?_
  · exact fm_ret F_u2
  · refine fm_xl ?_; intro v6
    refine fm_ca F_u2 (ff_X3_bad nn hb_a0) (nw_sub rfl) ?_; intro u8 F_u8
    exact fm_ret F_u8
set_option maxRecDepth 4000 in
theorem fw_X3_readFrameTypes_7 (nn : Nat) : ∀ (k : Nat) {l0 : Nat} {l1 : Int} {l2 : Int} {h : ms_M} (hb_l0 : kc_O l0 = 3), Fm_ (fun c k => nw_F wl_X3_readFrameTypes wf_X3_readFrameTypes true false c k = true) h (qw_X3_readFrameTypes_7 nn k l0 l1 l2 h) (fun r => r) := by
  intro k
  induction k with
  | zero => intros; exact fm_no
  | succ k ih =>
    intro l0 l1 l2 h hb_l0
    unfold qw_X3_readFrameTypes_7
    have F_h : ∀ c k : Nat, (fun c k => nw_F wl_X3_readFrameTypes wf_X3_readFrameTypes true false c k = true) c k → h c k = h c k := fun _ _ _ => rfl
    refine fm_if ?_ ?_
    · exact fm_ret F_h
    · refine fm_if ?_ ?_
      · exact fm_ret F_h
      · refine fm_ca F_h (ff_X3_nextUpTo nn hb_l0) (nw_sub rfl) ?_; intro u3 F_u3
        refine fm_if ?_ ?_
        · refine fm_xl ?_; intro v4
          exact fm_tl F_u3 (ih hb_l0) (fun _ _ z => z)
        · refine fm_ca F_u3 (ff_X3_nextClass nn hb_l0) (nw_sub rfl) ?_; intro u6 F_u6
          refine fm_xl ?_; intro v7
          exact fm_tl F_u6 (ih hb_l0) (fun _ _ z => z)
set_option maxRecDepth 4000 in
theorem ff_X3_readFrameTypes (nn : Nat) {a0 : Nat} {h : ms_M} (hb_a0 : kc_O a0 = 3) : Fm_ (fun c k => nw_F wl_X3_readFrameTypes wf_X3_readFrameTypes true false c k = true) h (qf_X3_readFrameTypes nn a0 h) (fun r => r) := by
  unfold qf_X3_readFrameTypes
  have F_h : ∀ c k : Nat, (fun c k => nw_F wl_X3_readFrameTypes wf_X3_readFrameTypes true false c k = true) c k → h c k = h c k := fun _ _ _ => rfl
  refine fm_ca F_h (ff_X3_next nn hb_a0) (nw_sub rfl) ?_; intro u12 F_u12
  exact fm_tl F_u12 (fw_X3_readFrameTypes_7 nn _ hb_a0) (fun _ _ z => z)
set_option maxRecDepth 4000 in
theorem fw_X3_skipPairs_2 (nn : Nat) : ∀ (k : Nat) {l0 : Nat} {l1 : Int} {l2 : Int} {h : ms_M} (hb_l0 : kc_O l0 = 3), Fm_ (fun c k => nw_F wl_X3_skipPairs wf_X3_skipPairs true false c k = true) h (qw_X3_skipPairs_2 nn k l0 l1 l2 h) (fun r => r) := by
  intro k
  induction k with
  | zero => intros; exact fm_no
  | succ k ih =>
    intro l0 l1 l2 h hb_l0
    unfold qw_X3_skipPairs_2
    have F_h : ∀ c k : Nat, (fun c k => nw_F wl_X3_skipPairs wf_X3_skipPairs true false c k = true) c k → h c k = h c k := fun _ _ _ => rfl
    refine fm_xl ?_; intro v1
    refine fm_if ?_ ?_
    · exact fm_ret F_h
    · refine fm_ca F_h (ff_X3_next nn hb_l0) (nw_sub rfl) ?_; intro u3 F_u3
      refine fm_xl ?_; intro v4
      exact fm_tl F_u3 (ih hb_l0) (fun _ _ z => z)
set_option maxRecDepth 4000 in
theorem ff_X3_skipPairs (nn : Nat) {a0 : Nat} {a1 : Int} {h : ms_M} (hb_a0 : kc_O a0 = 3) : Fm_ (fun c k => nw_F wl_X3_skipPairs wf_X3_skipPairs true false c k = true) h (qf_X3_skipPairs nn a0 a1 h) (fun r => r) := by
  unfold qf_X3_skipPairs
  have F_h : ∀ c k : Nat, (fun c k => nw_F wl_X3_skipPairs wf_X3_skipPairs true false c k = true) c k → h c k = h c k := fun _ _ _ => rfl
  exact fm_tl F_h (fw_X3_skipPairs_2 nn _ hb_a0) (fun _ _ z => z)
set_option maxRecDepth 4000 in
theorem fw_X3_readFrames_33 (nn : Nat) : ∀ (k : Nat) {l0 : Nat} {l2 : Int} {l3 : Int} {h : ms_M} (hb_l0 : kc_O l0 = 3), Fm_ (fun c k => nw_F wl_X3_readFrames wf_X3_readFrames true false c k = true) h (qw_X3_readFrames_33 nn k l0 l2 l3 h) (fun r => r) := by
  intro k
  induction k with
  | zero => intros; exact fm_no
  | succ k ih =>
    intro l0 l2 l3 h hb_l0
    unfold qw_X3_readFrames_33
    have F_h : ∀ c k : Nat, (fun c k => nw_F wl_X3_readFrames wf_X3_readFrames true false c k = true) c k → h c k = h c k := fun _ _ _ => rfl
    refine fm_if ?_ ?_
    · exact fm_ret F_h
    · refine fm_if ?_ ?_
      · exact fm_ret F_h
      · refine fm_ca F_h (ff_X3_skipPairs nn hb_l0) (nw_sub rfl) ?_; intro u3 F_u3
        refine fm_ca F_u3 (ff_X3_readFrameTypes nn hb_l0) (nw_sub rfl) ?_; intro u5 F_u5
        refine fm_ca F_u5 (ff_X3_readFrameTypes nn hb_l0) (nw_sub rfl) ?_; intro u7 F_u7
        refine fm_xl ?_; intro v8
        exact fm_tl F_u7 (ih hb_l0) (fun _ _ z => z)
set_option maxRecDepth 4000 in
theorem ff_X3_readFrames (nn : Nat) {a0 : Nat} {a1 : Int} {h : ms_M} (hb_a0 : kc_O a0 = 3) : Fm_ (fun c k => nw_F wl_X3_readFrames wf_X3_readFrames true false c k = true) h (qf_X3_readFrames nn a0 a1 h) (fun r => r) := by
  unfold qf_X3_readFrames
  have F_h : ∀ c k : Nat, (fun c k => nw_F wl_X3_readFrames wf_X3_readFrames true false c k = true) c k → h c k = h c k := fun _ _ _ => rfl
  refine fm_ca F_h (ff_X3_nextUpTo nn hb_a0) (nw_sub rfl) ?_; intro u12 F_u12
  refine fm_xl ?_; intro v14
  refine fm_wA F_u12 (nw_neI hb_a0 (by decide)) ?_; intro h15 F_h15
  refine fm_xl ?_; intro v17
  refine fm_wA F_h15 (nw_neI hb_a0 (by decide)) ?_; intro h19 F_h19
  exact fm_tl F_h19 (fw_X3_readFrames_33 nn _ hb_a0) (fun _ _ z => z)
set_option maxRecDepth 4000 in
theorem fw_X3_readHandlers_33 (nn : Nat) : ∀ (k : Nat) {l0 : Nat} {l2 : Int} {l3 : Int} {h : ms_M} (hb_l0 : kc_O l0 = 3), Fm_ (fun c k => nw_F wl_X3_readHandlers wf_X3_readHandlers true false c k = true) h (qw_X3_readHandlers_33 nn k l0 l2 l3 h) (fun r => r) := by
  intro k
  induction k with
  | zero => intros; exact fm_no
  | succ k ih =>
    intro l0 l2 l3 h hb_l0
    unfold qw_X3_readHandlers_33
    have F_h : ∀ c k : Nat, (fun c k => nw_F wl_X3_readHandlers wf_X3_readHandlers true false c k = true) c k → h c k = h c k := fun _ _ _ => rfl
    refine fm_if ?_ ?_
    · exact fm_ret F_h
    · refine fm_if ?_ ?_
      · exact fm_ret F_h
      · refine fm_ca F_h (ff_X3_skipPairs nn hb_l0) (nw_sub rfl) ?_; intro u3 F_u3
        refine fm_ca F_u3 (ff_X3_nextClass nn hb_l0) (nw_sub rfl) ?_; intro u5 F_u5
        refine fm_xl ?_; intro v6
        exact fm_tl F_u5 (ih hb_l0) (fun _ _ z => z)
set_option maxRecDepth 4000 in
theorem ff_X3_readHandlers (nn : Nat) {a0 : Nat} {a1 : Int} {h : ms_M} (hb_a0 : kc_O a0 = 3) : Fm_ (fun c k => nw_F wl_X3_readHandlers wf_X3_readHandlers true false c k = true) h (qf_X3_readHandlers nn a0 a1 h) (fun r => r) := by
  unfold qf_X3_readHandlers
  have F_h : ∀ c k : Nat, (fun c k => nw_F wl_X3_readHandlers wf_X3_readHandlers true false c k = true) c k → h c k = h c k := fun _ _ _ => rfl
  refine fm_ca F_h (ff_X3_nextUpTo nn hb_a0) (nw_sub rfl) ?_; intro u10 F_u10
  refine fm_xl ?_; intro v12
  refine fm_wA F_u10 (nw_neI hb_a0 (by decide)) ?_; intro h13 F_h13
  refine fm_xl ?_; intro v15
  refine fm_wA F_h13 (nw_neI hb_a0 (by decide)) ?_; intro h17 F_h17
  exact fm_tl F_h17 (fw_X3_readHandlers_33 nn _ hb_a0) (fun _ _ z => z)
set_option maxRecDepth 4000 in
theorem fj_X3_readMethod_52 (nn : Nat) {l0 : Nat} {l1 : Int} {l2 : Int} {l3 : Int} {h : ms_M} (hb_l0 : kc_O l0 = 3) : Fm_ (fun c k => nw_F wl_X3_readMethod wf_X3_readMethod true false c k = true) h (qj_X3_readMethod_52 nn l0 l1 l2 l3 h) (fun r => r) := by
  unfold qj_X3_readMethod_52
  have F_h : ∀ c k : Nat, (fun c k => nw_F wl_X3_readMethod wf_X3_readMethod true false c k = true) c k → h c k = h c k := fun _ _ _ => rfl
  refine fm_xl ?_; intro v2
  refine fm_wA F_h (nw_neI hb_l0 (by decide)) ?_; intro h3 F_h3
  refine fm_xl ?_; intro v5
  refine fm_wA F_h3 (nw_neI hb_l0 (by decide)) ?_; intro h6 F_h6
  refine fm_xl ?_; intro v8
  refine fm_ca F_h6 (ff_X3_nextUpTo nn hb_l0) (nw_sub rfl) ?_; intro u10 F_u10
  refine fm_wA F_u10 (nw_neI hb_l0 (by decide)) ?_; intro h11 F_h11
  refine fm_xl ?_; intro v13
  refine fm_xl ?_; intro v14
  refine fm_xl ?_; intro v16
  refine fm_rd ?_; intro v17
  refine fm_xl ?_; intro v18
  refine fm_ca F_h11 (ff_X3_nextUpTo nn hb_l0) (nw_sub rfl) ?_; intro u20 F_u20
  refine fm_wA F_u20 (nw_neI hb_l0 (by decide)) ?_; intro h21 F_h21
  refine fm_ca F_h21 (ff_X3_readCode nn hb_l0) (nw_sub rfl) ?_; intro u23 F_u23
  refine fm_ca F_u23 (ff_X3_readHandlers nn hb_l0) (nw_sub rfl) ?_; intro u25 F_u25
  refine fm_ca F_u25 (ff_X3_readFrames nn hb_l0) (nw_sub rfl) ?_; intro u27 F_u27
  exact fm_ret F_u27
set_option maxRecDepth 4000 in
theorem ff_X3_readMethod (nn : Nat) {a0 : Nat} {a1 : Int} {h : ms_M} (hb_a0 : kc_O a0 = 3) : Fm_ (fun c k => nw_F wl_X3_readMethod wf_X3_readMethod true false c k = true) h (qf_X3_readMethod nn a0 a1 h) (fun r => r) := by
  unfold qf_X3_readMethod
  have F_h : ∀ c k : Nat, (fun c k => nw_F wl_X3_readMethod wf_X3_readMethod true false c k = true) c k → h c k = h c k := fun _ _ _ => rfl
  refine fm_xl ?_; intro v29
  refine fm_ca F_h (ff_X3_nextUpTo nn hb_a0) (nw_sub rfl) ?_; intro u31 F_u31
  refine fm_wA F_u31 (nw_neI hb_a0 (by decide)) ?_; intro h32 F_h32
  refine fm_xl ?_; intro v34
  refine fm_ca F_h32 (ff_X3_nextName nn hb_a0) (nw_sub rfl) ?_; intro u36 F_u36
  refine fm_wA F_u36 (nw_neI hb_a0 (by decide)) ?_; intro h37 F_h37
  refine fm_ca F_h37 (ff_X3_next nn hb_a0) (nw_sub rfl) ?_; intro u39 F_u39
  refine fm_pu ?_; intro u41
  refine fm_if ?_ ?_
  · exact fm_tl F_u39 (fj_X3_readMethod_52 nn hb_a0) (fun _ _ z => z)
  · refine fm_xl ?_; intro v43
    refine fm_ca F_u39 (ff_X3_bad nn hb_a0) (nw_sub rfl) ?_; intro u45 F_u45
    exact fm_tl F_u45 (fj_X3_readMethod_52 nn hb_a0) (fun _ _ z => z)
set_option maxRecDepth 4000 in
theorem fj_X3_read_109 (nn : Nat) {l0 : Nat} {h : ms_M} (hb_l0 : kc_O l0 = 3) : Fm_ (fun c k => nw_F wl_X3_read wf_X3_read true false c k = true) h (qj_X3_read_109 nn l0 h) (fun r => r.2) := by
  unfold qj_X3_read_109
  have F_h : ∀ c k : Nat, (fun c k => nw_F wl_X3_read wf_X3_read true false c k = true) c k → h c k = h c k := fun _ _ _ => rfl
  refine fm_if ?_ ?_
  · exact fm_ret F_h
  · refine fm_ca F_h (ff_X3_bad nn hb_l0) (nw_sub rfl) ?_; intro u6 F_u6
    exact fm_ret F_u6
set_option maxRecDepth 4000 in
theorem fw_X3_read_70 (nn : Nat) : ∀ (k : Nat) {l0 : Nat} {l3 : Int} {l4 : Int} {h : ms_M} (hb_l0 : kc_O l0 = 3), Fm_ (fun c k => nw_F wl_X3_read wf_X3_read true false c k = true) h (qw_X3_read_70 nn k l0 l3 l4 h) (fun r => r.2) := by
  intro k
  induction k with
  | zero => intros; exact fm_no
  | succ k ih =>
    intro l0 l3 l4 h hb_l0
    unfold qw_X3_read_70
    have F_h : ∀ c k : Nat, (fun c k => nw_F wl_X3_read wf_X3_read true false c k = true) c k → h c k = h c k := fun _ _ _ => rfl
    refine fm_if ?_ ?_
    · exact fm_tl F_h (fj_X3_read_109 nn hb_l0) (fun _ _ z => z)
    · refine fm_if ?_ ?_
      · exact fm_tl F_h (fj_X3_read_109 nn hb_l0) (fun _ _ z => z)
      · refine fm_xl ?_; intro v10
        refine fm_ca F_h (ff_X3_readMethod nn hb_l0) (nw_sub rfl) ?_; intro u12 F_u12
        refine fm_xl ?_; intro v14
        refine fm_up F_u12 (nw_fI hb_l0) ?_; intro h15 F_h15
        refine fm_xl ?_; intro v16
        exact fm_tl F_h15 (ih hb_l0) (fun _ _ z => z)
set_option maxRecDepth 4000 in
theorem ff_X3_read (nn : Nat) {a0 : Nat} {a1 : Nat} {a2 : Int} {h : ms_M} (hb_a0 : kc_O a0 = 3) : Fm_ (fun c k => nw_F wl_X3_read wf_X3_read true false c k = true) h (qf_X3_read nn a0 a1 a2 h) (fun r => r.2) := by
  unfold qf_X3_read
  have F_h : ∀ c k : Nat, (fun c k => nw_F wl_X3_read wf_X3_read true false c k = true) c k → h c k = h c k := fun _ _ _ => rfl
  refine fm_wR F_h (nw_fI hb_a0) ?_; intro h19 F_h19
  refine fm_lnS ?_; intro v20
  refine fm_xl ?_; intro v21
  refine fm_up F_h19 (nw_fI hb_a0) ?_; intro h22 F_h22
  refine fm_up F_h22 (nw_fI hb_a0) ?_; intro h23 F_h23
  refine fm_up F_h23 (nw_fI hb_a0) ?_; intro h24 F_h24
  refine fm_up F_h24 (nw_fI hb_a0) ?_; intro h25 F_h25
  refine fm_up F_h25 (nw_fI hb_a0) ?_; intro h26 F_h26
  refine fm_ca F_h26 (ff_X3_readConstants nn hb_a0) (nw_sub rfl) ?_; intro u28 F_u28
  refine fm_ca F_u28 (ff_X3_nextPlainClass nn hb_a0) (nw_sub rfl) ?_; intro u30 F_u30
  refine fm_up F_u30 (nw_fI hb_a0) ?_; intro h31 F_h31
  refine fm_ca F_h31 (ff_X3_nextPlainClass nn hb_a0) (nw_sub rfl) ?_; intro u33 F_u33
  refine fm_up F_u33 (nw_fI hb_a0) ?_; intro h34 F_h34
  refine fm_ca F_h34 (ff_X3_readFields nn hb_a0) (nw_sub rfl) ?_; intro u36 F_u36
  refine fm_ca F_u36 (ff_X3_nextUpTo nn hb_a0) (nw_sub rfl) ?_; intro u38 F_u38
  exact fm_tl F_u38 (fw_X3_read_70 nn _ hb_a0) (fun _ _ z => z)
set_option maxRecDepth 4000 in
theorem fw_X7_relate_14 (nn : Nat) : ∀ (k : Nat) {l1 : Int} {h : ms_M}, Fm_ (fun c k => nw_F wl_X7_relate wf_X7_relate false false c k = true) h (qw_X7_relate_14 nn k l1 h) (fun r => r) := by
  intro k
  induction k with
  | zero => intros; exact fm_no
  | succ k ih =>
    intro l1 h
    unfold qw_X7_relate_14
    have F_h : ∀ c k : Nat, (fun c k => nw_F wl_X7_relate wf_X7_relate false false c k = true) c k → h c k = h c k := fun _ _ _ => rfl
    refine fm_if ?_ ?_
    · refine fm_ca F_h (ff_X4_settle nn rfl) (fun c k z => ⟨nw_ne rfl c k z, nw_ne rfl c k z⟩) ?_; intro u4 F_u4
      exact fm_ret F_u4
    · refine fm_rd ?_; intro v6
      refine fm_ck ?_; intro _
      refine fm_ck ?_; intro hb1
      refine fm_xl ?_; intro v10
      refine fm_rd ?_; intro v12
      refine fm_rd ?_; intro v14
      refine fm_ck ?_; intro _
      refine fm_ck ?_; intro hb2
      refine fm_pu ?_; intro u17
      refine fm_rd ?_; intro v19
      refine fm_ck ?_; intro _
      refine fm_ck ?_; intro hb3
      refine fm_pu ?_; intro u22
      refine fm_ck ?_; intro _
      refine fm_pu ?_; intro u25
      refine fm_ca F_h (ff_X4_setAbove nn rfl) (fun c k z => ⟨nw_ne rfl c k z, nw_ne rfl c k z⟩) ?_; intro u27 F_u27
      refine fm_xl ?_; intro v28
      exact fm_tl F_u27 (ih ) (fun _ _ z => z)
set_option maxRecDepth 4000 in
theorem ff_X7_relate (nn : Nat) {h : ms_M} : Fm_ (fun c k => nw_F wl_X7_relate wf_X7_relate false false c k = true) h (qf_X7_relate nn h) (fun r => r) := by
  unfold qf_X7_relate
  have F_h : ∀ c k : Nat, (fun c k => nw_F wl_X7_relate wf_X7_relate false false c k = true) c k → h c k = h c k := fun _ _ _ => rfl
  refine fm_up F_h (nw_nf rfl) ?_; intro h30 F_h30
  refine fm_ca F_h30 (ff_X4_forget nn rfl) (fun c k z => ⟨nw_ne rfl c k z, nw_ne rfl c k z⟩) ?_; intro u33 F_u33
  exact fm_tl F_u33 (fw_X7_relate_14 nn _) (fun _ _ z => z)
set_option maxRecDepth 4000 in
theorem ff_X7_swapSpare (nn : Nat) {a1 : Int} {h : ms_M} : Fm_ (fun c k => nw_F wl_X7_swapSpare wf_X7_swapSpare false false c k = true) h (qf_X7_swapSpare nn a1 h) (fun r => r) := by
  unfold qf_X7_swapSpare
  have F_h : ∀ c k : Nat, (fun c k => nw_F wl_X7_swapSpare wf_X7_swapSpare false false c k = true) c k → h c k = h c k := fun _ _ _ => rfl
  refine fm_rd ?_; intro v2
  refine fm_ck ?_; intro _
  refine fm_wQI F_h (nw_ne rfl) ?_; intro h5 F_h5
  refine fm_wR F_h5 (nw_nf rfl) ?_; intro h6 F_h6
  exact fm_ret F_h6
set_option maxRecDepth 4000 in
theorem ff_X7_bring (nn : Nat) {a1 : Nat} {a2 : Int} {h : ms_M} : Fm_ (fun c k => nw_F wl_X7_bring wf_X7_bring true true c k = true) h (qf_X7_bring nn a1 a2 h) (fun r => r.2.1) := by
  unfold qf_X7_bring
  have F_h : ∀ c k : Nat, (fun c k => nw_F wl_X7_bring wf_X7_bring true true c k = true) c k → h c k = h c k := fun _ _ _ => rfl
  refine fm_ck ?_; intro _
  refine fm_ck ?_; intro hb1
  refine fm_ca F_h (ff_X3_read nn hb1) (nw_sub rfl) ?_; intro u3 F_u3
  refine fm_if ?_ ?_
  · refine fm_ck ?_; intro _
    refine fm_ck ?_; intro hb2
    refine fm_if ?_ ?_
    · exact fm_ret F_u3
    · refine fm_ck ?_; intro _
      refine fm_ck ?_; intro _
      refine fm_pu ?_; intro u10
      refine fm_ck ?_; intro _
      refine fm_pu ?_; intro u13
      refine fm_pu ?_; intro u15
      refine fm_if ?_ ?_
      · refine fm_ck ?_; intro _
        refine fm_ca F_u3 (ff_X3_keepOwn nn hb2) (nw_sub rfl) ?_; intro u18 F_u18
        refine fm_ca F_u18 (ff_X7_swapSpare nn) (nw_sub rfl) ?_; intro u21 F_u21
        refine fm_xl ?_; intro v23
        refine fm_up F_u21 (nw_nf rfl) ?_; intro h24 F_h24
        refine fm_ca F_h24 (ff_X7_relate nn) (nw_sub rfl) ?_; intro u26 F_u26
        refine fm_xl ?_; intro v28
        refine fm_xl ?_; intro v29
        exact fm_ret F_u26
      · exact fm_ret F_u3
  · refine fm_xl ?_; intro v32
    exact fm_ret F_u3
