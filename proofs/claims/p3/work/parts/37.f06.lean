set_option maxRecDepth 4000 in
theorem fo_X13_invoked (nn : Nat) {rc : tq_X13_condition} (hr : fgr_X13_condition rc) {a1 : Int} {h : ms_M} : Fm_ (fun c k => nw_F wl_X13_invoked wf_X13_invoked false false c k = true) h (qo_X13_invoked nn rc a1 h) (fun r => r.2) := by
  unfold qo_X13_invoked
  have F_h : ∀ c k : Nat, (fun c k => nw_F wl_X13_invoked wf_X13_invoked false false c k = true) c k → h c k = h c k := fun _ _ _ => rfl
  refine fm_rd ?_; intro v40
  refine fm_pu ?_; intro u42
  refine fm_if ?_ ?_
  · refine fm_ca F_h (ff_X13_led nn) (nw_sub rfl) ?_; intro u44 F_u44
    refine fm_if ?_ ?_
    · refine fm_if ?_ ?_
      · exact fm_tl F_u44 (fj_X13_invoked_86 nn hr) (fun _ _ z => z)
      · refine fm_pu ?_; intro u46
        refine fm_if ?_ ?_
        · refine fm_pu ?_; intro u47
          refine fm_if ?_ ?_
          · exact fm_tl F_u44 (fj_X13_invoked_119 nn hr) (fun _ _ z => z)
          · refine fm_rd ?_; intro v49
            refine fm_ca F_u44 (ff_X13_wrong nn) (nw_sub rfl) ?_; intro u51 F_u51
            exact fm_tl F_u51 (fj_X13_invoked_119 nn hr) (fun _ _ z => z)
        · exact fm_tl F_u44 (fj_X13_invoked_86 nn hr) (fun _ _ z => z)
    · exact fm_ret F_u44
  · refine fm_rd ?_; intro v57
    refine fm_pu ?_; intro u59
    refine fm_if ?_ ?_
    · exact fm_tl F_h (fj_X13_invoked_46 nn hr) (fun _ _ z => z)
    · refine fm_rd ?_; intro v61
      refine fm_ca F_h (ff_X13_wrong nn) (nw_sub rfl) ?_; intro u63 F_u63
      exact fm_tl F_u63 (fj_X13_invoked_46 nn hr) (fun _ _ z => z)
set_option maxRecDepth 4000 in
theorem fj_X13_called_138 (nn : Nat) {rc : tq_X13_condition} (hr : fgr_X13_condition rc) {l2 : Int} {h : ms_M} : Fm_ (fun c k => nw_F wl_X13_called wf_X13_called false false c k = true) h (qj_X13_called_138 nn rc l2 h) (fun r => r.2) := by
  unfold qj_X13_called_138
  have F_h : ∀ c k : Nat, (fun c k => nw_F wl_X13_called wf_X13_called false false c k = true) c k → h c k = h c k := fun _ _ _ => rfl
  refine fm_rd ?_; intro v2
  exact fm_ret F_h
set_option maxRecDepth 4000 in
theorem fj_X13_called_126 (nn : Nat) {rc : tq_X13_condition} (hr : fgr_X13_condition rc) {l1 : Int} {l2 : Int} {h : ms_M} : Fm_ (fun c k => nw_F wl_X13_called wf_X13_called false false c k = true) h (qj_X13_called_126 nn rc l1 l2 h) (fun r => r.2) := by
  unfold qj_X13_called_126
  have F_h : ∀ c k : Nat, (fun c k => nw_F wl_X13_called wf_X13_called false false c k = true) c k → h c k = h c k := fun _ _ _ => rfl
  refine fm_rd ?_; intro v4
  refine fm_ca F_h (ff_X13_wrong nn) (nw_sub rfl) ?_; intro u6 F_u6
  exact fm_tl F_u6 (fj_X13_called_138 nn hr) (fun _ _ z => z)
set_option maxRecDepth 4000 in
theorem fj_X13_called_110 (nn : Nat) {rc : tq_X13_condition} (hr : fgr_X13_condition rc) {l1 : Int} {l2 : Int} {l4 : Int} {l5 : Int} {h : ms_M} : Fm_ (fun c k => nw_F wl_X13_called wf_X13_called false false c k = true) h (qj_X13_called_110 nn rc l1 l2 l4 l5 h) (fun r => r.2) := by
  unfold qj_X13_called_110
  have F_h : ∀ c k : Nat, (fun c k => nw_F wl_X13_called wf_X13_called false false c k = true) c k → h c k = h c k := fun _ _ _ => rfl
  refine fm_if ?_ ?_
  · exact fm_tl F_h (fj_X13_called_126 nn hr) (fun _ _ z => z)
  · refine fm_rd ?_; intro v8
    refine fm_if ?_ ?_
    · exact fm_tl F_h (fj_X13_called_138 nn hr) (fun _ _ z => z)
    · exact fm_tl F_h (fj_X13_called_126 nn hr) (fun _ _ z => z)
set_option maxRecDepth 4000 in
theorem fj_X13_called_93 (nn : Nat) {rc : tq_X13_condition} (hr : fgr_X13_condition rc) {qkk_23 : Int → Int → Int → Int → Int → ms_M → Option (Int × ms_M)} (hk_kk_23 : ∀ {l1 : Int} {l2 : Int} {l4 : Int} {l5 : Int} {l6 : Int} {h : ms_M}, Fm_ (fun c k => nw_F wl_X13_called wf_X13_called false false c k = true) h (qkk_23 l1 l2 l4 l5 l6 h) (fun r => r.2)) {l1 : Int} {l2 : Int} {l5 : Int} {l6 : Int} {s0 : Int} {h : ms_M} : Fm_ (fun c k => nw_F wl_X13_called wf_X13_called false false c k = true) h (qj_X13_called_93 nn rc qkk_23 l1 l2 l5 l6 s0 h) (fun r => r.2) := by
  unfold qj_X13_called_93
  have F_h : ∀ c k : Nat, (fun c k => nw_F wl_X13_called wf_X13_called false false c k = true) c k → h c k = h c k := fun _ _ _ => rfl
  refine fm_xl ?_; intro v11
  refine fm_rd ?_; intro v13
  exact fm_tl F_h (hk_kk_23) (fun _ _ z => z)
set_option maxRecDepth 4000 in
theorem fj_X13_called_92 (nn : Nat) {rc : tq_X13_condition} (hr : fgr_X13_condition rc) {qkk_23 : Int → Int → Int → Int → Int → ms_M → Option (Int × ms_M)} (hk_kk_23 : ∀ {l1 : Int} {l2 : Int} {l4 : Int} {l5 : Int} {l6 : Int} {h : ms_M}, Fm_ (fun c k => nw_F wl_X13_called wf_X13_called false false c k = true) h (qkk_23 l1 l2 l4 l5 l6 h) (fun r => r.2)) {l1 : Int} {l2 : Int} {l5 : Int} {l6 : Int} {h : ms_M} : Fm_ (fun c k => nw_F wl_X13_called wf_X13_called false false c k = true) h (qj_X13_called_92 nn rc qkk_23 l1 l2 l5 l6 h) (fun r => r.2) := by
  unfold qj_X13_called_92
  have F_h : ∀ c k : Nat, (fun c k => nw_F wl_X13_called wf_X13_called false false c k = true) c k → h c k = h c k := fun _ _ _ => rfl
  exact fm_tl F_h (fj_X13_called_93 nn hr hk_kk_23) (fun _ _ z => z)
set_option maxRecDepth 4000 in
theorem fw_X13_called_23 (nn : Nat) {rc : tq_X13_condition} (hr : fgr_X13_condition rc) : ∀ (k : Nat) {l1 : Int} {l2 : Int} {l4 : Int} {l5 : Int} {l6 : Int} {h : ms_M}, Fm_ (fun c k => nw_F wl_X13_called wf_X13_called false false c k = true) h (qw_X13_called_23 nn rc k l1 l2 l4 l5 l6 h) (fun r => r.2) := by
  intro k
  induction k with
  | zero => intros; exact fm_no
  | succ k ih =>
    intro l1 l2 l4 l5 l6 h
    unfold qw_X13_called_23
    have F_h : ∀ c k : Nat, (fun c k => nw_F wl_X13_called wf_X13_called false false c k = true) c k → h c k = h c k := fun _ _ _ => rfl
    refine fm_if ?_ ?_
    · exact fm_tl F_h (fj_X13_called_110 nn hr) (fun _ _ z => z)
    · refine fm_if ?_ ?_
      · exact fm_tl F_h (fj_X13_called_110 nn hr) (fun _ _ z => z)
      · refine fm_rd ?_; intro v16
        refine fm_ca F_h (hr.2.1) (fun _ _ z => z) ?_; intro u18 F_u18
        refine fm_if ?_ ?_
        · exact fm_tl F_u18 (fj_X13_called_92 nn hr ih) (fun _ _ z => z)
        · refine fm_rd ?_; intro v20
          refine fm_if ?_ ?_
          · exact fm_tl F_u18 (fj_X13_called_92 nn hr ih) (fun _ _ z => z)
          · refine fm_rd ?_; intro v23
            refine fm_xl ?_; intro v24
            refine fm_rd ?_; intro v25
            refine fm_pu ?_; intro u27
            refine fm_if ?_ ?_
            · exact fm_tl F_u18 (fj_X13_called_92 nn hr ih) (fun _ _ z => z)
            · exact fm_tl F_u18 (fj_X13_called_93 nn hr ih) (fun _ _ z => z)
set_option maxRecDepth 4000 in
theorem fo_X13_called (nn : Nat) {rc : tq_X13_condition} (hr : fgr_X13_condition rc) {a1 : Int} {a2 : Int} {a3 : Int} {h : ms_M} : Fm_ (fun c k => nw_F wl_X13_called wf_X13_called false false c k = true) h (qo_X13_called nn rc a1 a2 a3 h) (fun r => r.2) := by
  unfold qo_X13_called
  have F_h : ∀ c k : Nat, (fun c k => nw_F wl_X13_called wf_X13_called false false c k = true) c k → h c k = h c k := fun _ _ _ => rfl
  refine fm_if ?_ ?_
  · refine fm_rd ?_; intro v35
    exact fm_tl F_h (fw_X13_called_23 nn hr _) (fun _ _ z => z)
  · exact fm_ret F_h
set_option maxRecDepth 4000 in
theorem fg_X13_condition (nn : Nat) : ∀ d, fgr_X13_condition (qg_X13_condition nn d) := by
  intro d
  induction d with
  | zero => exact ⟨(by intros; exact fm_no), (by intros; exact fm_no), (by intros; exact fm_no), (by intros; exact fm_no), (by intros; exact fm_no), (by intros; exact fm_no), (by intros; exact fm_no)⟩
  | succ d ih => exact ⟨fo_X13_condition nn ih, fo_X13_given nn ih, fo_X13_worked nn ih, fo_X13_rule nn ih, fo_X13_both nn ih, fo_X13_invoked nn ih, fo_X13_called nn ih⟩
set_option maxRecDepth 4000 in
theorem ff_X13_condition (nn : Nat) {a1 : Int} {h : ms_M} : Fm_ (fun c k => nw_F wl_X13_condition wf_X13_condition false false c k = true) h (qf_X13_condition nn a1 h) (fun r => r) := (fg_X13_condition nn 1600).1
set_option maxRecDepth 4000 in
theorem ff_X13_given (nn : Nat) {a1 : Int} {h : ms_M} : Fm_ (fun c k => nw_F wl_X13_given wf_X13_given false false c k = true) h (qf_X13_given nn a1 h) (fun r => r.2) := (fg_X13_condition nn 1600).2.1
set_option maxRecDepth 4000 in
theorem ff_X13_worked (nn : Nat) {a1 : Int} {h : ms_M} : Fm_ (fun c k => nw_F wl_X13_worked wf_X13_worked false false c k = true) h (qf_X13_worked nn a1 h) (fun r => r.2) := (fg_X13_condition nn 1600).2.2.1
set_option maxRecDepth 4000 in
theorem ff_X13_rule (nn : Nat) {a1 : Int} {h : ms_M} : Fm_ (fun c k => nw_F wl_X13_rule wf_X13_rule false false c k = true) h (qf_X13_rule nn a1 h) (fun r => r.2) := (fg_X13_condition nn 1600).2.2.2.1
set_option maxRecDepth 4000 in
theorem ff_X13_both (nn : Nat) {a1 : Int} {h : ms_M} : Fm_ (fun c k => nw_F wl_X13_both wf_X13_both false false c k = true) h (qf_X13_both nn a1 h) (fun r => r.2) := (fg_X13_condition nn 1600).2.2.2.2.1
set_option maxRecDepth 4000 in
theorem ff_X13_invoked (nn : Nat) {a1 : Int} {h : ms_M} : Fm_ (fun c k => nw_F wl_X13_invoked wf_X13_invoked false false c k = true) h (qf_X13_invoked nn a1 h) (fun r => r.2) := (fg_X13_condition nn 1600).2.2.2.2.2.1
set_option maxRecDepth 4000 in
theorem ff_X13_called (nn : Nat) {a1 : Int} {a2 : Int} {a3 : Int} {h : ms_M} : Fm_ (fun c k => nw_F wl_X13_called wf_X13_called false false c k = true) h (qf_X13_called nn a1 a2 a3 h) (fun r => r.2) := (fg_X13_condition nn 1600).2.2.2.2.2.2
set_option maxRecDepth 4000 in
theorem fj_X13_typeOf_56 (nn : Nat) {l3 : Int} {l4 : Int} {h : ms_M} : Fm_ (fun c k => nw_F wl_X13_typeOf wf_X13_typeOf false false c k = true) h (qj_X13_typeOf_56 nn l3 l4 h) (fun r => r.2) := by
  unfold qj_X13_typeOf_56
  have F_h : ∀ c k : Nat, (fun c k => nw_F wl_X13_typeOf wf_X13_typeOf false false c k = true) c k → h c k = h c k := fun _ _ _ => rfl
  refine fm_xl ?_; intro v1
  refine fm_xl ?_; intro v2
  refine fm_if ?_ ?_
  · refine fm_xl ?_; intro v3
    exact fm_ret F_h
  · refine fm_xl ?_; intro v4
    exact fm_ret F_h
set_option maxRecDepth 4000 in
theorem ff_X13_typeOf (nn : Nat) {a1 : Int} {a2 : Int} {a3 : Int} {h : ms_M} : Fm_ (fun c k => nw_F wl_X13_typeOf wf_X13_typeOf false false c k = true) h (qf_X13_typeOf nn a1 a2 a3 h) (fun r => r.2) := by
  unfold qf_X13_typeOf
  have F_h : ∀ c k : Nat, (fun c k => nw_F wl_X13_typeOf wf_X13_typeOf false false c k = true) c k → h c k = h c k := fun _ _ _ => rfl
  refine fm_if ?_ ?_
  · refine fm_if ?_ ?_
    · refine fm_if ?_ ?_
      · refine fm_if ?_ ?_
        · refine fm_pu ?_; intro u8
          refine fm_if ?_ ?_
          · exact fm_tl F_h (fj_X13_typeOf_56 nn) (fun _ _ z => z)
          · refine fm_ca F_h (ff_X13_wrong nn) (nw_sub rfl) ?_; intro u10 F_u10
            exact fm_tl F_u10 (fj_X13_typeOf_56 nn) (fun _ _ z => z)
        · exact fm_ret F_h
      · exact fm_ret F_h
    · refine fm_if ?_ ?_
      · exact fm_ret F_h
      · exact fm_ret F_h
  · exact fm_ret F_h
def fgr_X13_ruled (rc : tq_X13_ruled) : Prop := (∀ {a1 : Int} {h : ms_M}, Fm_ (fun c k => nw_F wl_X13_ruled wf_X13_ruled false false c k = true) h (rc a1 h) (fun r => r.2))
set_option maxRecDepth 4000 in
theorem fj_X13_ruled_954 (nn : Nat) {rc : tq_X13_ruled} (hr : fgr_X13_ruled rc) {l1 : Int} {h : ms_M} : Fm_ (fun c k => nw_F wl_X13_ruled wf_X13_ruled false false c k = true) h (qj_X13_ruled_954 nn rc l1 h) (fun r => r.2) := by
  unfold qj_X13_ruled_954
  have F_h : ∀ c k : Nat, (fun c k => nw_F wl_X13_ruled wf_X13_ruled false false c k = true) c k → h c k = h c k := fun _ _ _ => rfl
  refine fm_rd ?_; intro v2
  refine fm_ca F_h (ff_X13_wrong nn) (nw_sub rfl) ?_; intro u4 F_u4
  exact fm_ret F_u4
set_option maxRecDepth 4000 in
theorem fj_X13_ruled_887 (nn : Nat) {rc : tq_X13_ruled} (hr : fgr_X13_ruled rc) {l1 : Int} {h : ms_M} : Fm_ (fun c k => nw_F wl_X13_ruled wf_X13_ruled false false c k = true) h (qj_X13_ruled_887 nn rc l1 h) (fun r => r.2) := by
  unfold qj_X13_ruled_887
  have F_h : ∀ c k : Nat, (fun c k => nw_F wl_X13_ruled wf_X13_ruled false false c k = true) c k → h c k = h c k := fun _ _ _ => rfl
  refine fm_rd ?_; intro v7
  refine fm_rd ?_; intro v8
  refine fm_ca F_h (ff_X13_wrong nn) (nw_sub rfl) ?_; intro u10 F_u10
  exact fm_ret F_u10
set_option maxRecDepth 4000 in
theorem fj_X13_ruled_840 (nn : Nat) {rc : tq_X13_ruled} (hr : fgr_X13_ruled rc) {l1 : Int} {s0 : Int} {s1 : Int} {h : ms_M} : Fm_ (fun c k => nw_F wl_X13_ruled wf_X13_ruled false false c k = true) h (qj_X13_ruled_840 nn rc l1 s0 s1 h) (fun r => r.2) := by
  unfold qj_X13_ruled_840
  have F_h : ∀ c k : Nat, (fun c k => nw_F wl_X13_ruled wf_X13_ruled false false c k = true) c k → h c k = h c k := fun _ _ _ => rfl
  refine fm_wA F_h (nw_ne rfl) ?_; intro h11 F_h11
  refine fm_rd ?_; intro v14
  refine fm_rd ?_; intro v15
  refine fm_if ?_ ?_
  · exact fm_tl F_h11 (fj_X13_ruled_887 nn hr) (fun _ _ z => z)
  · refine fm_rd ?_; intro v18
    refine fm_rd ?_; intro v19
    refine fm_if ?_ ?_
    · exact fm_ret F_h11
    · refine fm_rd ?_; intro v22
      refine fm_rd ?_; intro v23
      refine fm_if ?_ ?_
      · exact fm_ret F_h11
      · exact fm_tl F_h11 (fj_X13_ruled_887 nn hr) (fun _ _ z => z)
set_option maxRecDepth 4000 in
theorem fj_X13_ruled_738 (nn : Nat) {rc : tq_X13_ruled} (hr : fgr_X13_ruled rc) {l1 : Int} {l2 : Int} {l3 : Int} {h : ms_M} : Fm_ (fun c k => nw_F wl_X13_ruled wf_X13_ruled false false c k = true) h (qj_X13_ruled_738 nn rc l1 l2 l3 h) (fun r => r.2) := by
  unfold qj_X13_ruled_738
  have F_h : ∀ c k : Nat, (fun c k => nw_F wl_X13_ruled wf_X13_ruled false false c k = true) c k → h c k = h c k := fun _ _ _ => rfl
  refine fm_rd ?_; intro v28
  refine fm_ca F_h (hr) (fun _ _ z => z) ?_; intro u30 F_u30
  refine fm_up F_u30 (nw_nf rfl) ?_; intro h31 F_h31
  refine fm_if ?_ ?_
  · exact fm_ret F_h31
  · refine fm_if ?_ ?_
    · exact fm_ret F_h31
    · exact fm_ret F_h31
set_option maxRecDepth 4000 in
theorem fj_X13_ruled_711 (nn : Nat) {rc : tq_X13_ruled} (hr : fgr_X13_ruled rc) {l1 : Int} {l2 : Int} {l3 : Int} {l5 : Int} {h : ms_M} : Fm_ (fun c k => nw_F wl_X13_ruled wf_X13_ruled false false c k = true) h (qj_X13_ruled_711 nn rc l1 l2 l3 l5 h) (fun r => r.2) := by
  unfold qj_X13_ruled_711
  have F_h : ∀ c k : Nat, (fun c k => nw_F wl_X13_ruled wf_X13_ruled false false c k = true) c k → h c k = h c k := fun _ _ _ => rfl
  refine fm_wA F_h (nw_ne rfl) ?_; intro h35 F_h35
  refine fm_if ?_ ?_
  · exact fm_tl F_h35 (fj_X13_ruled_738 nn hr) (fun _ _ z => z)
  · refine fm_rd ?_; intro v38
    refine fm_ca F_h35 (ff_X13_come nn) (nw_sub rfl) ?_; intro u40 F_u40
    exact fm_tl F_u40 (fj_X13_ruled_738 nn hr) (fun _ _ z => z)
set_option maxRecDepth 4000 in
theorem fj_X13_ruled_679 (nn : Nat) {rc : tq_X13_ruled} (hr : fgr_X13_ruled rc) {l1 : Int} {l2 : Int} {l3 : Int} {l5 : Int} {h : ms_M} : Fm_ (fun c k => nw_F wl_X13_ruled wf_X13_ruled false false c k = true) h (qj_X13_ruled_679 nn rc l1 l2 l3 l5 h) (fun r => r.2) := by
  unfold qj_X13_ruled_679
  have F_h : ∀ c k : Nat, (fun c k => nw_F wl_X13_ruled wf_X13_ruled false false c k = true) c k → h c k = h c k := fun _ _ _ => rfl
  refine fm_if ?_ ?_
  · exact fm_tl F_h (fj_X13_ruled_711 nn hr) (fun _ _ z => z)
  · refine fm_rd ?_; intro v44
    refine fm_pu ?_; intro u46
    refine fm_if ?_ ?_
    · exact fm_tl F_h (fj_X13_ruled_711 nn hr) (fun _ _ z => z)
    · refine fm_rd ?_; intro v48
      refine fm_ca F_h (ff_X13_wrong nn) (nw_sub rfl) ?_; intro u50 F_u50
      exact fm_tl F_u50 (fj_X13_ruled_711 nn hr) (fun _ _ z => z)
set_option maxRecDepth 4000 in
theorem fj_X13_ruled_617 (nn : Nat) {rc : tq_X13_ruled} (hr : fgr_X13_ruled rc) {l1 : Int} {h : ms_M} : Fm_ (fun c k => nw_F wl_X13_ruled wf_X13_ruled false false c k = true) h (qj_X13_ruled_617 nn rc l1 h) (fun r => r.2) := by
  unfold qj_X13_ruled_617
  have F_h : ∀ c k : Nat, (fun c k => nw_F wl_X13_ruled wf_X13_ruled false false c k = true) c k → h c k = h c k := fun _ _ _ => rfl
  refine fm_rd ?_; intro v54
  refine fm_ca F_h (ff_X13_wrong nn) (nw_sub rfl) ?_; intro u56 F_u56
  exact fm_ret F_u56
set_option maxRecDepth 4000 in
theorem fj_X13_ruled_536 (nn : Nat) {rc : tq_X13_ruled} (hr : fgr_X13_ruled rc) {l1 : Int} {h : ms_M} : Fm_ (fun c k => nw_F wl_X13_ruled wf_X13_ruled false false c k = true) h (qj_X13_ruled_536 nn rc l1 h) (fun r => r.2) := by
  unfold qj_X13_ruled_536
  have F_h : ∀ c k : Nat, (fun c k => nw_F wl_X13_ruled wf_X13_ruled false false c k = true) c k → h c k = h c k := fun _ _ _ => rfl
  refine fm_rd ?_; intro v58
  refine fm_if ?_ ?_
  · exact fm_ret F_h
  · refine fm_rd ?_; intro v60
    refine fm_ca F_h (ff_X13_given nn) (nw_sub rfl) ?_; intro u62 F_u62
    refine fm_rd ?_; intro v65
    refine fm_pu ?_; intro u67
    refine fm_if ?_ ?_
    · exact fm_ret F_u62
    · refine fm_rd ?_; intro v69
      refine fm_ca F_u62 (ff_X13_wrong nn) (nw_sub rfl) ?_; intro u71 F_u71
      exact fm_ret F_u71
set_option maxRecDepth 4000 in
theorem fj_X13_ruled_521 (nn : Nat) {rc : tq_X13_ruled} (hr : fgr_X13_ruled rc) {l1 : Int} {s0 : Int} {s1 : Int} {h : ms_M} : Fm_ (fun c k => nw_F wl_X13_ruled wf_X13_ruled false false c k = true) h (qj_X13_ruled_521 nn rc l1 s0 s1 h) (fun r => r.2) := by
  unfold qj_X13_ruled_521
  have F_h : ∀ c k : Nat, (fun c k => nw_F wl_X13_ruled wf_X13_ruled false false c k = true) c k → h c k = h c k := fun _ _ _ => rfl
  refine fm_if ?_ ?_
  · exact fm_tl F_h (fj_X13_ruled_536 nn hr) (fun _ _ z => z)
  · refine fm_rd ?_; intro v75
    refine fm_ca F_h (ff_X13_wrong nn) (nw_sub rfl) ?_; intro u77 F_u77
    exact fm_tl F_u77 (fj_X13_ruled_536 nn hr) (fun _ _ z => z)
set_option maxRecDepth 4000 in
theorem fj_X13_ruled_503 (nn : Nat) {rc : tq_X13_ruled} (hr : fgr_X13_ruled rc) {l1 : Int} {s0 : Int} {h : ms_M} : Fm_ (fun c k => nw_F wl_X13_ruled wf_X13_ruled false false c k = true) h (qj_X13_ruled_503 nn rc l1 s0 h) (fun r => r.2) := by
  unfold qj_X13_ruled_503
  have F_h : ∀ c k : Nat, (fun c k => nw_F wl_X13_ruled wf_X13_ruled false false c k = true) c k → h c k = h c k := fun _ _ _ => rfl
  refine fm_rd ?_; intro v81
  refine fm_if ?_ ?_
  · exact fm_tl F_h (fj_X13_ruled_521 nn hr) (fun _ _ z => z)
  · exact fm_tl F_h (fj_X13_ruled_521 nn hr) (fun _ _ z => z)
set_option maxRecDepth 4000 in
theorem fj_X13_ruled_444 (nn : Nat) {rc : tq_X13_ruled} (hr : fgr_X13_ruled rc) {l1 : Int} {h : ms_M} : Fm_ (fun c k => nw_F wl_X13_ruled wf_X13_ruled false false c k = true) h (qj_X13_ruled_444 nn rc l1 h) (fun r => r.2) := by
  unfold qj_X13_ruled_444
  have F_h : ∀ c k : Nat, (fun c k => nw_F wl_X13_ruled wf_X13_ruled false false c k = true) c k → h c k = h c k := fun _ _ _ => rfl
  refine fm_if ?_ ?_
  · refine fm_rd ?_; intro v85
    refine fm_if ?_ ?_
    · exact fm_ret F_h
    · refine fm_wZ F_h (nw_ne rfl) ?_; intro h88 F_h88
      exact fm_ret F_h88
  · refine fm_rd ?_; intro v91
    refine fm_ca F_h (ff_X13_wrong nn) (nw_sub rfl) ?_; intro u93 F_u93
    exact fm_ret F_u93
set_option maxRecDepth 4000 in
theorem fj_X13_ruled_431 (nn : Nat) {rc : tq_X13_ruled} (hr : fgr_X13_ruled rc) {l3 : Int} {s0 : Int} {s1 : Int} {h : ms_M} : Fm_ (fun c k => nw_F wl_X13_ruled wf_X13_ruled false false c k = true) h (qj_X13_ruled_431 nn rc l3 s0 s1 h) (fun r => r.2) := by
  unfold qj_X13_ruled_431
  have F_h : ∀ c k : Nat, (fun c k => nw_F wl_X13_ruled wf_X13_ruled false false c k = true) c k → h c k = h c k := fun _ _ _ => rfl
  refine fm_wA F_h (nw_ne rfl) ?_; intro h95 F_h95
  refine fm_xl ?_; intro v97
  refine fm_up F_h95 (nw_nf rfl) ?_; intro h98 F_h98
  refine fm_ck ?_; intro _
  exact fm_ret F_h98
set_option maxRecDepth 4000 in
theorem fj_X13_ruled_408 (nn : Nat) {rc : tq_X13_ruled} (hr : fgr_X13_ruled rc) {l1 : Int} {s0 : Int} {h : ms_M} : Fm_ (fun c k => nw_F wl_X13_ruled wf_X13_ruled false false c k = true) h (qj_X13_ruled_408 nn rc l1 s0 h) (fun r => r.2) := by
  unfold qj_X13_ruled_408
  have F_h : ∀ c k : Nat, (fun c k => nw_F wl_X13_ruled wf_X13_ruled false false c k = true) c k → h c k = h c k := fun _ _ _ => rfl
  refine fm_rd ?_; intro v103
  refine fm_if ?_ ?_
  · exact fm_tl F_h (fj_X13_ruled_431 nn hr) (fun _ _ z => z)
  · exact fm_tl F_h (fj_X13_ruled_431 nn hr) (fun _ _ z => z)
set_option maxRecDepth 4000 in
theorem fj_X13_ruled_403 (nn : Nat) {rc : tq_X13_ruled} (hr : fgr_X13_ruled rc) {l1 : Int} {h : ms_M} : Fm_ (fun c k => nw_F wl_X13_ruled wf_X13_ruled false false c k = true) h (qj_X13_ruled_403 nn rc l1 h) (fun r => r.2) := by
  unfold qj_X13_ruled_403
  have F_h : ∀ c k : Nat, (fun c k => nw_F wl_X13_ruled wf_X13_ruled false false c k = true) c k → h c k = h c k := fun _ _ _ => rfl
  exact fm_tl F_h (fj_X13_ruled_408 nn hr) (fun _ _ z => z)
set_option maxRecDepth 4000 in
theorem fj_X13_ruled_377 (nn : Nat) {rc : tq_X13_ruled} (hr : fgr_X13_ruled rc) {l1 : Int} {l2 : Int} {h : ms_M} : Fm_ (fun c k => nw_F wl_X13_ruled wf_X13_ruled false false c k = true) h (qj_X13_ruled_377 nn rc l1 l2 h) (fun r => r.2) := by
  unfold qj_X13_ruled_377
  have F_h : ∀ c k : Nat, (fun c k => nw_F wl_X13_ruled wf_X13_ruled false false c k = true) c k → h c k = h c k := fun _ _ _ => rfl
  refine fm_up F_h (nw_nf rfl) ?_; intro h105 F_h105
  refine fm_rd ?_; intro v107
  refine fm_if ?_ ?_
  · exact fm_tl F_h105 (fj_X13_ruled_403 nn hr) (fun _ _ z => z)
  · refine fm_rd ?_; intro v110
    refine fm_if ?_ ?_
    · exact fm_tl F_h105 (fj_X13_ruled_408 nn hr) (fun _ _ z => z)
    · exact fm_tl F_h105 (fj_X13_ruled_403 nn hr) (fun _ _ z => z)
set_option maxRecDepth 4000 in
theorem fj_X13_ruled_244 (nn : Nat) {rc : tq_X13_ruled} (hr : fgr_X13_ruled rc) {l1 : Int} {l5 : Int} {h : ms_M} : Fm_ (fun c k => nw_F wl_X13_ruled wf_X13_ruled false false c k = true) h (qj_X13_ruled_244 nn rc l1 l5 h) (fun r => r.2) := by
  unfold qj_X13_ruled_244
  have F_h : ∀ c k : Nat, (fun c k => nw_F wl_X13_ruled wf_X13_ruled false false c k = true) c k → h c k = h c k := fun _ _ _ => rfl
  refine fm_wA F_h (nw_ne rfl) ?_; intro h114 F_h114
  refine fm_rd ?_; intro v116
  refine fm_ca F_h114 (ff_X13_come nn) (nw_sub rfl) ?_; intro u118 F_u118
  exact fm_ret F_u118
set_option maxRecDepth 4000 in
theorem fj_X13_ruled_209 (nn : Nat) {rc : tq_X13_ruled} (hr : fgr_X13_ruled rc) {l1 : Int} {l5 : Int} {h : ms_M} : Fm_ (fun c k => nw_F wl_X13_ruled wf_X13_ruled false false c k = true) h (qj_X13_ruled_209 nn rc l1 l5 h) (fun r => r.2) := by
  unfold qj_X13_ruled_209
  have F_h : ∀ c k : Nat, (fun c k => nw_F wl_X13_ruled wf_X13_ruled false false c k = true) c k → h c k = h c k := fun _ _ _ => rfl
  refine fm_rd ?_; intro v120
  refine fm_ca F_h (ff_X13_given nn) (nw_sub rfl) ?_; intro u122 F_u122
  refine fm_pu ?_; intro u124
  refine fm_if ?_ ?_
  · exact fm_tl F_u122 (fj_X13_ruled_244 nn hr) (fun _ _ z => z)
  · refine fm_rd ?_; intro v126
    refine fm_ca F_u122 (ff_X13_wrong nn) (nw_sub rfl) ?_; intro u128 F_u128
    exact fm_tl F_u128 (fj_X13_ruled_244 nn hr) (fun _ _ z => z)
set_option maxRecDepth 4000 in
theorem fj_X13_ruled_179 (nn : Nat) {rc : tq_X13_ruled} (hr : fgr_X13_ruled rc) {l1 : Int} {s0 : Int} {s1 : Int} {s2 : Int} {h : ms_M} : Fm_ (fun c k => nw_F wl_X13_ruled wf_X13_ruled false false c k = true) h (qj_X13_ruled_179 nn rc l1 s0 s1 s2 h) (fun r => r.2) := by
  unfold qj_X13_ruled_179
  have F_h : ∀ c k : Nat, (fun c k => nw_F wl_X13_ruled wf_X13_ruled false false c k = true) c k → h c k = h c k := fun _ _ _ => rfl
  refine fm_ca F_h (ff_X13_typeOf nn) (nw_sub rfl) ?_; intro u131 F_u131
  refine fm_rd ?_; intro v133
  refine fm_pu ?_; intro u135
  refine fm_if ?_ ?_
  · exact fm_tl F_u131 (fj_X13_ruled_209 nn hr) (fun _ _ z => z)
  · refine fm_rd ?_; intro v137
    refine fm_ca F_u131 (ff_X13_wrong nn) (nw_sub rfl) ?_; intro u139 F_u139
    exact fm_tl F_u139 (fj_X13_ruled_209 nn hr) (fun _ _ z => z)
set_option maxRecDepth 4000 in
theorem fj_X13_ruled_140 (nn : Nat) {rc : tq_X13_ruled} (hr : fgr_X13_ruled rc) {l2 : Int} {l3 : Int} {h : ms_M} : Fm_ (fun c k => nw_F wl_X13_ruled wf_X13_ruled false false c k = true) h (qj_X13_ruled_140 nn rc l2 l3 h) (fun r => r.2) := by
  unfold qj_X13_ruled_140
  have F_h : ∀ c k : Nat, (fun c k => nw_F wl_X13_ruled wf_X13_ruled false false c k = true) c k → h c k = h c k := fun _ _ _ => rfl
  refine fm_up F_h (nw_nf rfl) ?_; intro h141 F_h141
  refine fm_ck ?_; intro _
  exact fm_ret F_h141
set_option maxRecDepth 4000 in
theorem fj_X13_ruled_128 (nn : Nat) {rc : tq_X13_ruled} (hr : fgr_X13_ruled rc) {qkk_88 : Int → Int → Int → ms_M → Option (Int × ms_M)} (hk_kk_88 : ∀ {l2 : Int} {l3 : Int} {l6 : Int} {h : ms_M}, Fm_ (fun c k => nw_F wl_X13_ruled wf_X13_ruled false false c k = true) h (qkk_88 l2 l3 l6 h) (fun r => r.2)) {l2 : Int} {l3 : Int} {l6 : Int} {h : ms_M} : Fm_ (fun c k => nw_F wl_X13_ruled wf_X13_ruled false false c k = true) h (qj_X13_ruled_128 nn rc qkk_88 l2 l3 l6 h) (fun r => r.2) := by
  unfold qj_X13_ruled_128
  have F_h : ∀ c k : Nat, (fun c k => nw_F wl_X13_ruled wf_X13_ruled false false c k = true) c k → h c k = h c k := fun _ _ _ => rfl
  refine fm_rd ?_; intro v144
  exact fm_tl F_h (hk_kk_88) (fun _ _ z => z)
set_option maxRecDepth 4000 in
theorem fw_X13_ruled_88 (nn : Nat) {rc : tq_X13_ruled} (hr : fgr_X13_ruled rc) : ∀ (k : Nat) {l2 : Int} {l3 : Int} {l6 : Int} {h : ms_M}, Fm_ (fun c k => nw_F wl_X13_ruled wf_X13_ruled false false c k = true) h (qw_X13_ruled_88 nn rc k l2 l3 l6 h) (fun r => r.2) := by
  intro k
  induction k with
  | zero => intros; exact fm_no
  | succ k ih =>
    intro l2 l3 l6 h
    unfold qw_X13_ruled_88
    have F_h : ∀ c k : Nat, (fun c k => nw_F wl_X13_ruled wf_X13_ruled false false c k = true) c k → h c k = h c k := fun _ _ _ => rfl
    refine fm_if ?_ ?_
    · exact fm_tl F_h (fj_X13_ruled_140 nn hr) (fun _ _ z => z)
    · refine fm_if ?_ ?_
      · exact fm_tl F_h (fj_X13_ruled_140 nn hr) (fun _ _ z => z)
      · refine fm_if ?_ ?_
        · refine fm_ca F_h (hr) (fun _ _ z => z) ?_; intro u147 F_u147
          exact fm_tl F_u147 (fj_X13_ruled_128 nn hr ih) (fun _ _ z => z)
        · refine fm_rd ?_; intro v149
          refine fm_ca F_h (ff_X13_wrong nn) (nw_sub rfl) ?_; intro u151 F_u151
          exact fm_tl F_u151 (fj_X13_ruled_128 nn hr ih) (fun _ _ z => z)
set_option maxRecDepth 4000 in
theorem fo_X13_ruled (nn : Nat) {rc : tq_X13_ruled} (hr : fgr_X13_ruled rc) {a1 : Int} {h : ms_M} : Fm_ (fun c k => nw_F wl_X13_ruled wf_X13_ruled false false c k = true) h (qo_X13_ruled nn rc a1 h) (fun r => r.2) := by
  unfold qo_X13_ruled
  have F_h : ∀ c k : Nat, (fun c k => nw_F wl_X13_ruled wf_X13_ruled false false c k = true) c k → h c k = h c k := fun _ _ _ => rfl
  refine fm_if ?_ ?_
  · refine fm_rd ?_; intro v158
    refine fm_if ?_ ?_
    · refine fm_rd ?_; intro v176
      exact fm_tl F_h (fw_X13_ruled_88 nn hr _) (fun _ _ z => z)
    · refine fm_if ?_ ?_
      · refine fm_rd ?_; intro v178
        refine fm_rd ?_; intro v180
        refine fm_xl ?_; intro v181
        refine fm_rd ?_; intro v183
        refine fm_xl ?_; intro v184
        refine fm_if ?_ ?_
        · exact fm_tl F_h (fj_X13_ruled_179 nn hr) (fun _ _ z => z)
        · exact fm_tl F_h (fj_X13_ruled_179 nn hr) (fun _ _ z => z)
      · refine fm_if ?_ ?_
        · refine fm_rd ?_; intro v187
          refine fm_ca F_h (ff_X13_condition nn) (nw_sub rfl) ?_; intro u189 F_u189
          refine fm_rd ?_; intro v191
          refine fm_ca F_u189 (hr) (fun _ _ z => z) ?_; intro u193 F_u193
          refine fm_up F_u193 (nw_nf rfl) ?_; intro h194 F_h194
          refine fm_rd ?_; intro v196
          refine fm_if ?_ ?_
          · refine fm_rd ?_; intro v198
            refine fm_ca F_h194 (hr) (fun _ _ z => z) ?_; intro u200 F_u200
            refine fm_up F_u200 (nw_nf rfl) ?_; intro h201 F_h201
            refine fm_if ?_ ?_
            · exact fm_ret F_h201
            · refine fm_if ?_ ?_
              · exact fm_ret F_h201
              · exact fm_ret F_h201
          · exact fm_ret F_h194
        · refine fm_if ?_ ?_
          · refine fm_rd ?_; intro v206
            refine fm_ca F_h (ff_X13_condition nn) (nw_sub rfl) ?_; intro u208 F_u208
            refine fm_xl ?_; intro v210
            refine fm_up F_u208 (nw_nf rfl) ?_; intro h211 F_h211
            refine fm_wZ F_h211 (nw_ne rfl) ?_; intro h214 F_h214
            refine fm_rd ?_; intro v216
            refine fm_ca F_h214 (hr) (fun _ _ z => z) ?_; intro u218 F_u218
            exact fm_tl F_u218 (fj_X13_ruled_377 nn hr) (fun _ _ z => z)
          · refine fm_if ?_ ?_
            · exact fm_tl F_h (fj_X13_ruled_444 nn hr) (fun _ _ z => z)
            · refine fm_if ?_ ?_
              · exact fm_tl F_h (fj_X13_ruled_444 nn hr) (fun _ _ z => z)
              · refine fm_if ?_ ?_
                · refine fm_rd ?_; intro v220
                  refine fm_if ?_ ?_
                  · exact fm_tl F_h (fj_X13_ruled_503 nn hr) (fun _ _ z => z)
                  · exact fm_tl F_h (fj_X13_ruled_503 nn hr) (fun _ _ z => z)
                · refine fm_if ?_ ?_
                  · refine fm_rd ?_; intro v223
                    refine fm_ca F_h (ff_X13_given nn) (nw_sub rfl) ?_; intro u225 F_u225
                    refine fm_pu ?_; intro u226
                    refine fm_if ?_ ?_
                    · exact fm_tl F_u225 (fj_X13_ruled_617 nn hr) (fun _ _ z => z)
                    · refine fm_pu ?_; intro u228
                      refine fm_if ?_ ?_
                      · exact fm_ret F_u225
                      · exact fm_tl F_u225 (fj_X13_ruled_617 nn hr) (fun _ _ z => z)
                  · refine fm_if ?_ ?_
                    · refine fm_rd ?_; intro v232
                      refine fm_ca F_h (hr) (fun _ _ z => z) ?_; intro u234 F_u234
                      refine fm_rd ?_; intro v236
                      refine fm_ca F_u234 (ff_X13_typeOf nn) (nw_sub rfl) ?_; intro u238 F_u238
                      refine fm_pu ?_; intro u240
                      refine fm_if ?_ ?_
                      · exact fm_tl F_u238 (fj_X13_ruled_679 nn hr) (fun _ _ z => z)
                      · refine fm_rd ?_; intro v242
                        refine fm_ca F_u238 (ff_X13_wrong nn) (nw_sub rfl) ?_; intro u244 F_u244
                        exact fm_tl F_u244 (fj_X13_ruled_679 nn hr) (fun _ _ z => z)
                    · refine fm_if ?_ ?_
                      · refine fm_rd ?_; intro v247
                        refine fm_ca F_h (ff_X13_given nn) (nw_sub rfl) ?_; intro u249 F_u249
                        refine fm_if ?_ ?_
                        · exact fm_ret F_u249
                        · refine fm_rd ?_; intro v251
                          refine fm_ca F_u249 (ff_X13_wrong nn) (nw_sub rfl) ?_; intro u253 F_u253
                          exact fm_ret F_u253
                      · refine fm_if ?_ ?_
                        · refine fm_rd ?_; intro v258
                          refine fm_rd ?_; intro v259
                          refine fm_if ?_ ?_
                          · refine fm_rd ?_; intro v261
                            refine fm_ca F_h (ff_X13_worked nn) (nw_sub rfl) ?_; intro u263 F_u263
                            exact fm_tl F_u263 (fj_X13_ruled_840 nn hr) (fun _ _ z => z)
                          · refine fm_rd ?_; intro v265
                            refine fm_ca F_h (ff_X13_given nn) (nw_sub rfl) ?_; intro u267 F_u267
                            exact fm_tl F_u267 (fj_X13_ruled_840 nn hr) (fun _ _ z => z)
                        · refine fm_rd ?_; intro v160
                          refine fm_ca F_h (ff_X13_given nn) (nw_sub rfl) ?_; intro u162 F_u162
                          refine fm_rd ?_; intro v164
                          refine fm_ca F_u162 (ff_X13_given nn) (nw_sub rfl) ?_; intro u166 F_u166
                          refine fm_rd ?_; intro v168
                          refine fm_pu ?_; intro u170
                          refine fm_if ?_ ?_
                          · exact fm_tl F_u166 (fj_X13_ruled_954 nn hr) (fun _ _ z => z)
                          · refine fm_pu ?_; intro u172
                            refine fm_if ?_ ?_
                            · exact fm_ret F_u166
                            · exact fm_tl F_u166 (fj_X13_ruled_954 nn hr) (fun _ _ z => z)
  · exact fm_ret F_h
set_option maxRecDepth 4000 in
theorem fg_X13_ruled (nn : Nat) : ∀ d, fgr_X13_ruled (qg_X13_ruled nn d) := by
  intro d
  induction d with
  | zero => unfold fgr_X13_ruled; intros; exact fm_no
  | succ d ih => exact fo_X13_ruled nn ih
set_option maxRecDepth 4000 in
theorem ff_X13_ruled (nn : Nat) {a1 : Int} {h : ms_M} : Fm_ (fun c k => nw_F wl_X13_ruled wf_X13_ruled false false c k = true) h (qf_X13_ruled nn a1 h) (fun r => r.2) := (fg_X13_ruled nn 200)
set_option maxRecDepth 4000 in
theorem fw_X13_bodies_83 (nn : Nat) {qkk_2 : Int → ms_M → Option ms_M} (hk_kk_2 : ∀ {l1 : Int} {h : ms_M}, Fm_ (fun c k => nw_F wl_X13_bodies wf_X13_bodies false false c k = true) h (qkk_2 l1 h) (fun r => r)) : ∀ (k : Nat) {l1 : Int} {l2 : Int} {h : ms_M}, Fm_ (fun c k => nw_F wl_X13_bodies wf_X13_bodies false false c k = true) h (qw_X13_bodies_83 nn qkk_2 k l1 l2 h) (fun r => r) := by
  intro k
  induction k with
  | zero => intros; exact fm_no
  | succ k ih =>
    intro l1 l2 h
    unfold qw_X13_bodies_83
    have F_h : ∀ c k : Nat, (fun c k => nw_F wl_X13_bodies wf_X13_bodies false false c k = true) c k → h c k = h c k := fun _ _ _ => rfl
    refine fm_rd ?_; intro v2
    refine fm_if ?_ ?_
    · refine fm_rd ?_; intro v4
      refine fm_ca F_h (ff_X13_ruled nn) (nw_sub rfl) ?_; intro u6 F_u6
      refine fm_if ?_ ?_
      · refine fm_xl ?_; intro v7
        exact fm_tl F_u6 (hk_kk_2) (fun _ _ z => z)
      · refine fm_rd ?_; intro v9
        refine fm_if ?_ ?_
        · refine fm_xl ?_; intro v10
          exact fm_tl F_u6 (hk_kk_2) (fun _ _ z => z)
        · refine fm_rd ?_; intro v12
          refine fm_ca F_u6 (ff_X13_wrong nn) (nw_sub rfl) ?_; intro u14 F_u14
          refine fm_xl ?_; intro v15
          exact fm_tl F_u14 (hk_kk_2) (fun _ _ z => z)
    · refine fm_rd ?_; intro v20
      refine fm_xl ?_; intro v21
      refine fm_rd ?_; intro v22
      refine fm_rd ?_; intro v25
      refine fm_xl ?_; intro v26
      refine fm_rd ?_; intro v27
      refine fm_ca F_h (ff_X13_come nn) (nw_sub rfl) ?_; intro u29 F_u29
      refine fm_xl ?_; intro v30
      exact fm_tl F_u29 (ih ) (fun _ _ z => z)
set_option maxRecDepth 4000 in
theorem fj_X13_bodies_63 (nn : Nat) {qkk_2 : Int → ms_M → Option ms_M} (hk_kk_2 : ∀ {l1 : Int} {h : ms_M}, Fm_ (fun c k => nw_F wl_X13_bodies wf_X13_bodies false false c k = true) h (qkk_2 l1 h) (fun r => r)) {l1 : Int} {s0 : Int} {h : ms_M} : Fm_ (fun c k => nw_F wl_X13_bodies wf_X13_bodies false false c k = true) h (qj_X13_bodies_63 nn qkk_2 l1 s0 h) (fun r => r) := by
  unfold qj_X13_bodies_63
  have F_h : ∀ c k : Nat, (fun c k => nw_F wl_X13_bodies wf_X13_bodies false false c k = true) c k → h c k = h c k := fun _ _ _ => rfl
  refine fm_ck ?_; intro _
  refine fm_up F_h (nw_nf rfl) ?_; intro h33 F_h33
  refine fm_up F_h33 (nw_nf rfl) ?_; intro h34 F_h34
  refine fm_up F_h34 (nw_nf rfl) ?_; intro h35 F_h35
  refine fm_up F_h35 (nw_nf rfl) ?_; intro h36 F_h36
  exact fm_tl F_h36 (fw_X13_bodies_83 nn hk_kk_2 _) (fun _ _ z => z)
set_option maxRecDepth 4000 in
theorem fw_X13_bodies_2 (nn : Nat) : ∀ (k : Nat) {l1 : Int} {h : ms_M}, Fm_ (fun c k => nw_F wl_X13_bodies wf_X13_bodies false false c k = true) h (qw_X13_bodies_2 nn k l1 h) (fun r => r) := by
  intro k
  induction k with
  | zero => intros; exact fm_no
  | succ k ih =>
    intro l1 h
    unfold qw_X13_bodies_2
    have F_h : ∀ c k : Nat, (fun c k => nw_F wl_X13_bodies wf_X13_bodies false false c k = true) c k → h c k = h c k := fun _ _ _ => rfl
    refine fm_if ?_ ?_
    · exact fm_ret F_h
    · refine fm_if ?_ ?_
      · exact fm_ret F_h
      · refine fm_rd ?_; intro v40
        refine fm_if ?_ ?_
        · refine fm_up F_h (nw_nf rfl) ?_; intro h41 F_h41
          refine fm_rd ?_; intro v43
          refine fm_xl ?_; intro v44
          refine fm_up F_h41 (nw_nf rfl) ?_; intro h45 F_h45
          refine fm_rd ?_; intro v47
          refine fm_if ?_ ?_
          · exact fm_tl F_h45 (fj_X13_bodies_63 nn ih) (fun _ _ z => z)
          · exact fm_tl F_h45 (fj_X13_bodies_63 nn ih) (fun _ _ z => z)
        · refine fm_xl ?_; intro v49
          exact fm_tl F_h (ih ) (fun _ _ z => z)
set_option maxRecDepth 4000 in
theorem ff_X13_bodies (nn : Nat) {h : ms_M} : Fm_ (fun c k => nw_F wl_X13_bodies wf_X13_bodies false false c k = true) h (qf_X13_bodies nn h) (fun r => r) := by
  unfold qf_X13_bodies
  have F_h : ∀ c k : Nat, (fun c k => nw_F wl_X13_bodies wf_X13_bodies false false c k = true) c k → h c k = h c k := fun _ _ _ => rfl
  exact fm_tl F_h (fw_X13_bodies_2 nn _) (fun _ _ z => z)
set_option maxRecDepth 4000 in
theorem fw_X13_memberHead_239 (nn : Nat) {qkk_157 : Int → Int → ms_M → Option ms_M} (hk_kk_157 : ∀ {l1 : Int} {l4 : Int} {h : ms_M}, Fm_ (fun c k => nw_F wl_X13_memberHead wf_X13_memberHead false false c k = true) h (qkk_157 l1 l4 h) (fun r => r)) : ∀ (k : Nat) {l1 : Int} {l4 : Int} {l5 : Int} {l6 : Int} {h : ms_M}, Fm_ (fun c k => nw_F wl_X13_memberHead wf_X13_memberHead false false c k = true) h (qw_X13_memberHead_239 nn qkk_157 k l1 l4 l5 l6 h) (fun r => r) := by
  intro k
  induction k with
  | zero => intros; exact fm_no
  | succ k ih =>
    intro l1 l4 l5 l6 h
    unfold qw_X13_memberHead_239
    have F_h : ∀ c k : Nat, (fun c k => nw_F wl_X13_memberHead wf_X13_memberHead false false c k = true) c k → h c k = h c k := fun _ _ _ => rfl
    refine fm_if ?_ ?_
    · refine fm_xl ?_; intro v1
      exact fm_tl F_h (hk_kk_157) (fun _ _ z => z)
    · refine fm_rd ?_; intro v3
      refine fm_rd ?_; intro v5
      refine fm_pu ?_; intro u7
      refine fm_if ?_ ?_
      · refine fm_xl ?_; intro v8
        exact fm_tl F_h (ih ) (fun _ _ z => z)
      · refine fm_rd ?_; intro v10
        refine fm_ca F_h (ff_X13_wrong nn) (nw_sub rfl) ?_; intro u12 F_u12
        refine fm_xl ?_; intro v13
        exact fm_tl F_u12 (ih ) (fun _ _ z => z)
set_option maxRecDepth 4000 in
theorem fj_X13_memberHead_231 (nn : Nat) {qkk_157 : Int → Int → ms_M → Option ms_M} (hk_kk_157 : ∀ {l1 : Int} {l4 : Int} {h : ms_M}, Fm_ (fun c k => nw_F wl_X13_memberHead wf_X13_memberHead false false c k = true) h (qkk_157 l1 l4 h) (fun r => r)) {l1 : Int} {l4 : Int} {l5 : Int} {h : ms_M} : Fm_ (fun c k => nw_F wl_X13_memberHead wf_X13_memberHead false false c k = true) h (qj_X13_memberHead_231 nn qkk_157 l1 l4 l5 h) (fun r => r) := by
  unfold qj_X13_memberHead_231
  have F_h : ∀ c k : Nat, (fun c k => nw_F wl_X13_memberHead wf_X13_memberHead false false c k = true) c k → h c k = h c k := fun _ _ _ => rfl
  refine fm_rd ?_; intro v17
  exact fm_tl F_h (fw_X13_memberHead_239 nn hk_kk_157 _) (fun _ _ z => z)
set_option maxRecDepth 4000 in
theorem fw_X13_memberHead_157 (nn : Nat) : ∀ (k : Nat) {l1 : Int} {l4 : Int} {h : ms_M}, Fm_ (fun c k => nw_F wl_X13_memberHead wf_X13_memberHead false false c k = true) h (qw_X13_memberHead_157 nn k l1 l4 h) (fun r => r) := by
  intro k
  induction k with
  | zero => intros; exact fm_no
  | succ k ih =>
    intro l1 l4 h
    unfold qw_X13_memberHead_157
    have F_h : ∀ c k : Nat, (fun c k => nw_F wl_X13_memberHead wf_X13_memberHead false false c k = true) c k → h c k = h c k := fun _ _ _ => rfl
    refine fm_rd ?_; intro v19
    refine fm_if ?_ ?_
    · exact fm_ret F_h
    · refine fm_rd ?_; intro v21
      refine fm_xl ?_; intro v22
      refine fm_rd ?_; intro v25
      refine fm_rd ?_; intro v27
      refine fm_rd ?_; intro v29
      refine fm_ca F_h (ff_X13_typeOf nn) (nw_sub rfl) ?_; intro u31 F_u31
      refine fm_wA F_u31 (nw_ne rfl) ?_; intro h32 F_h32
      refine fm_if ?_ ?_
      · exact fm_tl F_h32 (fj_X13_memberHead_231 nn ih) (fun _ _ z => z)
      · refine fm_rd ?_; intro v34
        refine fm_ca F_h32 (ff_X13_wrong nn) (nw_sub rfl) ?_; intro u36 F_u36
        exact fm_tl F_u36 (fj_X13_memberHead_231 nn ih) (fun _ _ z => z)
set_option maxRecDepth 4000 in
theorem fj_X13_memberHead_139 (nn : Nat) {l1 : Int} {l3 : Int} {h : ms_M} : Fm_ (fun c k => nw_F wl_X13_memberHead wf_X13_memberHead false false c k = true) h (qj_X13_memberHead_139 nn l1 l3 h) (fun r => r) := by
  unfold qj_X13_memberHead_139
  have F_h : ∀ c k : Nat, (fun c k => nw_F wl_X13_memberHead wf_X13_memberHead false false c k = true) c k → h c k = h c k := fun _ _ _ => rfl
  refine fm_if ?_ ?_
  · exact fm_tl F_h (fw_X13_memberHead_157 nn _) (fun _ _ z => z)
  · refine fm_rd ?_; intro v40
    refine fm_ca F_h (ff_X13_wrong nn) (nw_sub rfl) ?_; intro u42 F_u42
    exact fm_tl F_u42 (fw_X13_memberHead_157 nn _) (fun _ _ z => z)
set_option maxRecDepth 4000 in
theorem fj_X13_memberHead_86 (nn : Nat) {qkk_35 : Int → Int → Int → Int → ms_M → Option ms_M} (hk_kk_35 : ∀ {l1 : Int} {l2 : Int} {l3 : Int} {l4 : Int} {h : ms_M}, Fm_ (fun c k => nw_F wl_X13_memberHead wf_X13_memberHead false false c k = true) h (qkk_35 l1 l2 l3 l4 h) (fun r => r)) {l1 : Int} {l2 : Int} {l3 : Int} {l4 : Int} {s0 : Int} {s1 : Int} {h : ms_M} : Fm_ (fun c k => nw_F wl_X13_memberHead wf_X13_memberHead false false c k = true) h (qj_X13_memberHead_86 nn qkk_35 l1 l2 l3 l4 s0 s1 h) (fun r => r) := by
  unfold qj_X13_memberHead_86
  have F_h : ∀ c k : Nat, (fun c k => nw_F wl_X13_memberHead wf_X13_memberHead false false c k = true) c k → h c k = h c k := fun _ _ _ => rfl
  refine fm_if ?_ ?_
  · refine fm_xl ?_; intro v44
    refine fm_rd ?_; intro v46
    refine fm_rd ?_; intro v48
    refine fm_pu ?_; intro u50
    refine fm_xl ?_; intro v51
    refine fm_xl ?_; intro v52
    exact fm_tl F_h (hk_kk_35) (fun _ _ z => z)
  · refine fm_xl ?_; intro v53
    exact fm_tl F_h (hk_kk_35) (fun _ _ z => z)
set_option maxRecDepth 4000 in
theorem fj_X13_memberHead_72 (nn : Nat) {qkk_35 : Int → Int → Int → Int → ms_M → Option ms_M} (hk_kk_35 : ∀ {l1 : Int} {l2 : Int} {l3 : Int} {l4 : Int} {h : ms_M}, Fm_ (fun c k => nw_F wl_X13_memberHead wf_X13_memberHead false false c k = true) h (qkk_35 l1 l2 l3 l4 h) (fun r => r)) {l1 : Int} {l2 : Int} {l3 : Int} {l4 : Int} {s0 : Int} {h : ms_M} : Fm_ (fun c k => nw_F wl_X13_memberHead wf_X13_memberHead false false c k = true) h (qj_X13_memberHead_72 nn qkk_35 l1 l2 l3 l4 s0 h) (fun r => r) := by
  unfold qj_X13_memberHead_72
  have F_h : ∀ c k : Nat, (fun c k => nw_F wl_X13_memberHead wf_X13_memberHead false false c k = true) c k → h c k = h c k := fun _ _ _ => rfl
  refine fm_rd ?_; intro v56
  refine fm_if ?_ ?_
  · exact fm_tl F_h (fj_X13_memberHead_86 nn hk_kk_35) (fun _ _ z => z)
  · exact fm_tl F_h (fj_X13_memberHead_86 nn hk_kk_35) (fun _ _ z => z)
set_option maxRecDepth 4000 in
theorem fw_X13_memberHead_35 (nn : Nat) : ∀ (k : Nat) {l1 : Int} {l2 : Int} {l3 : Int} {l4 : Int} {h : ms_M}, Fm_ (fun c k => nw_F wl_X13_memberHead wf_X13_memberHead false false c k = true) h (qw_X13_memberHead_35 nn k l1 l2 l3 l4 h) (fun r => r) := by
  intro k
  induction k with
  | zero => intros; exact fm_no
  | succ k ih =>
    intro l1 l2 l3 l4 h
    unfold qw_X13_memberHead_35
    have F_h : ∀ c k : Nat, (fun c k => nw_F wl_X13_memberHead wf_X13_memberHead false false c k = true) c k → h c k = h c k := fun _ _ _ => rfl
    refine fm_if ?_ ?_
    · refine fm_if ?_ ?_
      · exact fm_tl F_h (fj_X13_memberHead_139 nn) (fun _ _ z => z)
      · refine fm_rd ?_; intro v59
        refine fm_ca F_h (ff_X13_wrong nn) (nw_sub rfl) ?_; intro u61 F_u61
        exact fm_tl F_u61 (fj_X13_memberHead_139 nn) (fun _ _ z => z)
    · refine fm_rd ?_; intro v64
      refine fm_rd ?_; intro v66
      refine fm_if ?_ ?_
      · refine fm_xl ?_; intro v67
        exact fm_tl F_h (ih ) (fun _ _ z => z)
      · refine fm_rd ?_; intro v69
        refine fm_if ?_ ?_
        · exact fm_tl F_h (fj_X13_memberHead_72 nn ih) (fun _ _ z => z)
        · exact fm_tl F_h (fj_X13_memberHead_72 nn ih) (fun _ _ z => z)
set_option maxRecDepth 4000 in
theorem ff_X13_memberHead (nn : Nat) {a1 : Int} {h : ms_M} : Fm_ (fun c k => nw_F wl_X13_memberHead wf_X13_memberHead false false c k = true) h (qf_X13_memberHead nn a1 h) (fun r => r) := by
  unfold qf_X13_memberHead
  have F_h : ∀ c k : Nat, (fun c k => nw_F wl_X13_memberHead wf_X13_memberHead false false c k = true) c k → h c k = h c k := fun _ _ _ => rfl
  refine fm_rd ?_; intro v75
  refine fm_rd ?_; intro v77
  refine fm_rd ?_; intro v79
  refine fm_ca F_h (ff_X13_typeOf nn) (nw_sub rfl) ?_; intro u81 F_u81
  refine fm_wA F_u81 (nw_ne rfl) ?_; intro h82 F_h82
  exact fm_tl F_h82 (fw_X13_memberHead_35 nn _) (fun _ _ z => z)
set_option maxRecDepth 4000 in
theorem fj_X13_overrides_148 (nn : Nat) {l1 : Int} {l3 : Int} {h : ms_M} : Fm_ (fun c k => nw_F wl_X13_overrides wf_X13_overrides false false c k = true) h (qj_X13_overrides_148 nn l1 l3 h) (fun r => r) := by
  unfold qj_X13_overrides_148
  have F_h : ∀ c k : Nat, (fun c k => nw_F wl_X13_overrides wf_X13_overrides false false c k = true) c k → h c k = h c k := fun _ _ _ => rfl
  refine fm_if ?_ ?_
  · exact fm_ret F_h
  · refine fm_rd ?_; intro v2
    refine fm_ca F_h (ff_X13_wrong nn) (nw_sub rfl) ?_; intro u4 F_u4
    exact fm_ret F_u4
set_option maxRecDepth 4000 in
theorem fw_X13_overrides_90 (nn : Nat) : ∀ (k : Nat) {l1 : Int} {l2 : Int} {l3 : Int} {l4 : Int} {h : ms_M}, Fm_ (fun c k => nw_F wl_X13_overrides wf_X13_overrides false false c k = true) h (qw_X13_overrides_90 nn k l1 l2 l3 l4 h) (fun r => r) := by
  intro k
  induction k with
  | zero => intros; exact fm_no
  | succ k ih =>
    intro l1 l2 l3 l4 h
    unfold qw_X13_overrides_90
    have F_h : ∀ c k : Nat, (fun c k => nw_F wl_X13_overrides wf_X13_overrides false false c k = true) c k → h c k = h c k := fun _ _ _ => rfl
    refine fm_rd ?_; intro v7
    refine fm_if ?_ ?_
    · exact fm_tl F_h (fj_X13_overrides_148 nn) (fun _ _ z => z)
    · refine fm_if ?_ ?_
      · exact fm_tl F_h (fj_X13_overrides_148 nn) (fun _ _ z => z)
      · refine fm_rd ?_; intro v10
        refine fm_xl ?_; intro v11
        refine fm_rd ?_; intro v12
        refine fm_rd ?_; intro v15
        refine fm_xl ?_; intro v16
        refine fm_rd ?_; intro v17
        refine fm_if ?_ ?_
        · refine fm_xl ?_; intro v18
          exact fm_tl F_h (ih ) (fun _ _ z => z)
        · refine fm_xl ?_; intro v19
          exact fm_tl F_h (ih ) (fun _ _ z => z)
set_option maxRecDepth 4000 in
theorem fj_X13_overrides_85 (nn : Nat) {l1 : Int} {l2 : Int} {h : ms_M} : Fm_ (fun c k => nw_F wl_X13_overrides wf_X13_overrides false false c k = true) h (qj_X13_overrides_85 nn l1 l2 h) (fun r => r) := by
  unfold qj_X13_overrides_85
  have F_h : ∀ c k : Nat, (fun c k => nw_F wl_X13_overrides wf_X13_overrides false false c k = true) c k → h c k = h c k := fun _ _ _ => rfl
  exact fm_tl F_h (fw_X13_overrides_90 nn _) (fun _ _ z => z)
set_option maxRecDepth 4000 in
theorem ff_X13_overrides (nn : Nat) {a1 : Int} {h : ms_M} : Fm_ (fun c k => nw_F wl_X13_overrides wf_X13_overrides false false c k = true) h (qf_X13_overrides nn a1 h) (fun r => r) := by
  unfold qf_X13_overrides
  have F_h : ∀ c k : Nat, (fun c k => nw_F wl_X13_overrides wf_X13_overrides false false c k = true) c k → h c k = h c k := fun _ _ _ => rfl
  refine fm_rd ?_; intro v24
  refine fm_xl ?_; intro v25
  refine fm_pu ?_; intro u27
  refine fm_rd ?_; intro v29
  refine fm_pu ?_; intro u31
  refine fm_if ?_ ?_
  · refine fm_rd ?_; intro v33
    refine fm_if ?_ ?_
    · exact fm_tl F_h (fj_X13_overrides_85 nn) (fun _ _ z => z)
    · refine fm_rd ?_; intro v35
      refine fm_if ?_ ?_
      · exact fm_tl F_h (fj_X13_overrides_85 nn) (fun _ _ z => z)
      · refine fm_rd ?_; intro v37
        refine fm_rd ?_; intro v39
        refine fm_if ?_ ?_
        · exact fm_tl F_h (fj_X13_overrides_85 nn) (fun _ _ z => z)
        · refine fm_rd ?_; intro v41
          refine fm_rd ?_; intro v43
          refine fm_if ?_ ?_
          · exact fm_tl F_h (fj_X13_overrides_85 nn) (fun _ _ z => z)
          · exact fm_tl F_h (fw_X13_overrides_90 nn _) (fun _ _ z => z)
  · exact fm_ret F_h
set_option maxRecDepth 4000 in
theorem fw_X13_heads_220 (nn : Nat) : ∀ (k : Nat) {l1 : Int} {h : ms_M}, Fm_ (fun c k => nw_F wl_X13_heads wf_X13_heads false false c k = true) h (qw_X13_heads_220 nn k l1 h) (fun r => r) := by
  intro k
  induction k with
  | zero => intros; exact fm_no
  | succ k ih =>
    intro l1 h
    unfold qw_X13_heads_220
    have F_h : ∀ c k : Nat, (fun c k => nw_F wl_X13_heads wf_X13_heads false false c k = true) c k → h c k = h c k := fun _ _ _ => rfl
    refine fm_if ?_ ?_
    · exact fm_ret F_h
    · refine fm_if ?_ ?_
      · exact fm_ret F_h
      · refine fm_rd ?_; intro v4
        refine fm_if ?_ ?_
        · refine fm_xl ?_; intro v5
          exact fm_tl F_h (ih ) (fun _ _ z => z)
        · refine fm_ca F_h (ff_X13_overrides nn) (nw_sub rfl) ?_; intro u7 F_u7
          refine fm_xl ?_; intro v8
          exact fm_tl F_u7 (ih ) (fun _ _ z => z)
set_option maxRecDepth 4000 in
theorem fw_X13_heads_192 (nn : Nat) : ∀ (k : Nat) {l1 : Int} {h : ms_M}, Fm_ (fun c k => nw_F wl_X13_heads wf_X13_heads false false c k = true) h (qw_X13_heads_192 nn k l1 h) (fun r => r) := by
  intro k
  induction k with
  | zero => intros; exact fm_no
  | succ k ih =>
    intro l1 h
    unfold qw_X13_heads_192
    have F_h : ∀ c k : Nat, (fun c k => nw_F wl_X13_heads wf_X13_heads false false c k = true) c k → h c k = h c k := fun _ _ _ => rfl
    refine fm_if ?_ ?_
    · exact fm_tl F_h (fw_X13_heads_220 nn _) (fun _ _ z => z)
    · refine fm_if ?_ ?_
      · exact fm_tl F_h (fw_X13_heads_220 nn _) (fun _ _ z => z)
      · refine fm_ca F_h (ff_X13_memberHead nn) (nw_sub rfl) ?_; intro u15 F_u15
        refine fm_xl ?_; intro v16
        exact fm_tl F_u15 (ih ) (fun _ _ z => z)
set_option maxRecDepth 4000 in
theorem fj_X13_heads_167 (nn : Nat) {qkk_50 : Int → ms_M → Option ms_M} (hk_kk_50 : ∀ {l1 : Int} {h : ms_M}, Fm_ (fun c k => nw_F wl_X13_heads wf_X13_heads false false c k = true) h (qkk_50 l1 h) (fun r => r)) {l1 : Int} {l2 : Int} {h : ms_M} : Fm_ (fun c k => nw_F wl_X13_heads wf_X13_heads false false c k = true) h (qj_X13_heads_167 nn qkk_50 l1 l2 h) (fun r => r) := by
  unfold qj_X13_heads_167
  have F_h : ∀ c k : Nat, (fun c k => nw_F wl_X13_heads wf_X13_heads false false c k = true) c k → h c k = h c k := fun _ _ _ => rfl
  refine fm_if ?_ ?_
  · refine fm_xl ?_; intro v19
    exact fm_tl F_h (hk_kk_50) (fun _ _ z => z)
  · refine fm_rd ?_; intro v21
    refine fm_ca F_h (ff_X13_wrong nn) (nw_sub rfl) ?_; intro u23 F_u23
    refine fm_xl ?_; intro v24
    exact fm_tl F_u23 (hk_kk_50) (fun _ _ z => z)
set_option maxRecDepth 4000 in
theorem fw_X13_heads_139 (nn : Nat) {qkk_50 : Int → ms_M → Option ms_M} (hk_kk_50 : ∀ {l1 : Int} {h : ms_M}, Fm_ (fun c k => nw_F wl_X13_heads wf_X13_heads false false c k = true) h (qkk_50 l1 h) (fun r => r)) : ∀ (k : Nat) {l1 : Int} {l2 : Int} {l3 : Int} {h : ms_M}, Fm_ (fun c k => nw_F wl_X13_heads wf_X13_heads false false c k = true) h (qw_X13_heads_139 nn qkk_50 k l1 l2 l3 h) (fun r => r) := by
  intro k
  induction k with
  | zero => intros; exact fm_no
  | succ k ih =>
    intro l1 l2 l3 h
    unfold qw_X13_heads_139
    have F_h : ∀ c k : Nat, (fun c k => nw_F wl_X13_heads wf_X13_heads false false c k = true) c k → h c k = h c k := fun _ _ _ => rfl
    refine fm_xl ?_; intro v27
    refine fm_if ?_ ?_
    · exact fm_tl F_h (fj_X13_heads_167 nn hk_kk_50) (fun _ _ z => z)
    · refine fm_if ?_ ?_
      · exact fm_tl F_h (fj_X13_heads_167 nn hk_kk_50) (fun _ _ z => z)
      · refine fm_pu ?_; intro u29
        refine fm_xl ?_; intro v30
        exact fm_tl F_h (ih ) (fun _ _ z => z)
set_option maxRecDepth 4000 in
theorem fj_X13_heads_132 (nn : Nat) {qkk_50 : Int → ms_M → Option ms_M} (hk_kk_50 : ∀ {l1 : Int} {h : ms_M}, Fm_ (fun c k => nw_F wl_X13_heads wf_X13_heads false false c k = true) h (qkk_50 l1 h) (fun r => r)) {l1 : Int} {h : ms_M} : Fm_ (fun c k => nw_F wl_X13_heads wf_X13_heads false false c k = true) h (qj_X13_heads_132 nn qkk_50 l1 h) (fun r => r) := by
  unfold qj_X13_heads_132
  have F_h : ∀ c k : Nat, (fun c k => nw_F wl_X13_heads wf_X13_heads false false c k = true) c k → h c k = h c k := fun _ _ _ => rfl
  refine fm_xl ?_; intro v33
  exact fm_tl F_h (fw_X13_heads_139 nn hk_kk_50 _) (fun _ _ z => z)
set_option maxRecDepth 4000 in
theorem fj_X13_heads_111 (nn : Nat) {qkk_50 : Int → ms_M → Option ms_M} (hk_kk_50 : ∀ {l1 : Int} {h : ms_M}, Fm_ (fun c k => nw_F wl_X13_heads wf_X13_heads false false c k = true) h (qkk_50 l1 h) (fun r => r)) {l1 : Int} {h : ms_M} : Fm_ (fun c k => nw_F wl_X13_heads wf_X13_heads false false c k = true) h (qj_X13_heads_111 nn qkk_50 l1 h) (fun r => r) := by
  unfold qj_X13_heads_111
  have F_h : ∀ c k : Nat, (fun c k => nw_F wl_X13_heads wf_X13_heads false false c k = true) c k → h c k = h c k := fun _ _ _ => rfl
  refine fm_rd ?_; intro v35
  refine fm_if ?_ ?_
  · exact fm_tl F_h (fj_X13_heads_132 nn hk_kk_50) (fun _ _ z => z)
  · refine fm_rd ?_; intro v37
    refine fm_ca F_h (ff_X13_wrong nn) (nw_sub rfl) ?_; intro u39 F_u39
    exact fm_tl F_u39 (fj_X13_heads_132 nn hk_kk_50) (fun _ _ z => z)
set_option maxRecDepth 4000 in
theorem fj_X13_heads_83 (nn : Nat) {qkk_50 : Int → ms_M → Option ms_M} (hk_kk_50 : ∀ {l1 : Int} {h : ms_M}, Fm_ (fun c k => nw_F wl_X13_heads wf_X13_heads false false c k = true) h (qkk_50 l1 h) (fun r => r)) {l1 : Int} {h : ms_M} : Fm_ (fun c k => nw_F wl_X13_heads wf_X13_heads false false c k = true) h (qj_X13_heads_83 nn qkk_50 l1 h) (fun r => r) := by
  unfold qj_X13_heads_83
  have F_h : ∀ c k : Nat, (fun c k => nw_F wl_X13_heads wf_X13_heads false false c k = true) c k → h c k = h c k := fun _ _ _ => rfl
  refine fm_rd ?_; intro v42
  refine fm_pu ?_; intro u44
  refine fm_xl ?_; intro v45
  refine fm_if ?_ ?_
  · exact fm_tl F_h (fj_X13_heads_111 nn hk_kk_50) (fun _ _ z => z)
  · refine fm_rd ?_; intro v47
    refine fm_ca F_h (ff_X13_wrong nn) (nw_sub rfl) ?_; intro u49 F_u49
    exact fm_tl F_u49 (fj_X13_heads_111 nn hk_kk_50) (fun _ _ z => z)
set_option maxRecDepth 4000 in
theorem fw_X13_heads_50 (nn : Nat) : ∀ (k : Nat) {l1 : Int} {h : ms_M}, Fm_ (fun c k => nw_F wl_X13_heads wf_X13_heads false false c k = true) h (qw_X13_heads_50 nn k l1 h) (fun r => r) := by
  intro k
  induction k with
  | zero => intros; exact fm_no
  | succ k ih =>
    intro l1 h
    unfold qw_X13_heads_50
    have F_h : ∀ c k : Nat, (fun c k => nw_F wl_X13_heads wf_X13_heads false false c k = true) c k → h c k = h c k := fun _ _ _ => rfl
    refine fm_if ?_ ?_
    · exact fm_tl F_h (fw_X13_heads_192 nn _) (fun _ _ z => z)
    · refine fm_if ?_ ?_
      · exact fm_tl F_h (fw_X13_heads_192 nn _) (fun _ _ z => z)
      · refine fm_if ?_ ?_
        · exact fm_tl F_h (fj_X13_heads_83 nn ih) (fun _ _ z => z)
        · refine fm_rd ?_; intro v54
          refine fm_ca F_h (ff_X13_wrong nn) (nw_sub rfl) ?_; intro u56 F_u56
          exact fm_tl F_u56 (fj_X13_heads_83 nn ih) (fun _ _ z => z)
set_option maxRecDepth 4000 in
theorem fj_X13_heads_34 (nn : Nat) {qkk_2 : Int → ms_M → Option ms_M} (hk_kk_2 : ∀ {l1 : Int} {h : ms_M}, Fm_ (fun c k => nw_F wl_X13_heads wf_X13_heads false false c k = true) h (qkk_2 l1 h) (fun r => r)) {l1 : Int} {s0 : Int} {h : ms_M} : Fm_ (fun c k => nw_F wl_X13_heads wf_X13_heads false false c k = true) h (qj_X13_heads_34 nn qkk_2 l1 s0 h) (fun r => r) := by
  unfold qj_X13_heads_34
  have F_h : ∀ c k : Nat, (fun c k => nw_F wl_X13_heads wf_X13_heads false false c k = true) c k → h c k = h c k := fun _ _ _ => rfl
  refine fm_wA F_h (nw_ne rfl) ?_; intro h61 F_h61
  refine fm_xl ?_; intro v62
  exact fm_tl F_h61 (hk_kk_2) (fun _ _ z => z)
set_option maxRecDepth 4000 in
theorem fw_X13_heads_2 (nn : Nat) : ∀ (k : Nat) {l1 : Int} {h : ms_M}, Fm_ (fun c k => nw_F wl_X13_heads wf_X13_heads false false c k = true) h (qw_X13_heads_2 nn k l1 h) (fun r => r) := by
  intro k
  induction k with
  | zero => intros; exact fm_no
  | succ k ih =>
    intro l1 h
    unfold qw_X13_heads_2
    have F_h : ∀ c k : Nat, (fun c k => nw_F wl_X13_heads wf_X13_heads false false c k = true) c k → h c k = h c k := fun _ _ _ => rfl
    refine fm_if ?_ ?_
    · exact fm_tl F_h (fw_X13_heads_50 nn _) (fun _ _ z => z)
    · refine fm_rd ?_; intro v65
      refine fm_if ?_ ?_
      · refine fm_rd ?_; intro v67
        refine fm_pu ?_; intro u69
        exact fm_tl F_h (fj_X13_heads_34 nn ih) (fun _ _ z => z)
      · exact fm_tl F_h (fj_X13_heads_34 nn ih) (fun _ _ z => z)
set_option maxRecDepth 4000 in
theorem ff_X13_heads (nn : Nat) {h : ms_M} : Fm_ (fun c k => nw_F wl_X13_heads wf_X13_heads false false c k = true) h (qf_X13_heads nn h) (fun r => r) := by
  unfold qf_X13_heads
  have F_h : ∀ c k : Nat, (fun c k => nw_F wl_X13_heads wf_X13_heads false false c k = true) c k → h c k = h c k := fun _ _ _ => rfl
  exact fm_tl F_h (fw_X13_heads_2 nn _) (fun _ _ z => z)
set_option maxRecDepth 4000 in
theorem fj_X13_constant_71 (nn : Nat) {l1 : Int} {l2 : Int} {l3 : Int} {l4 : Int} {h : ms_M} : Fm_ (fun c k => nw_F wl_X13_constant wf_X13_constant false false c k = true) h (qj_X13_constant_71 nn l1 l2 l3 l4 h) (fun r => r.2) := by
  unfold qj_X13_constant_71
  have F_h : ∀ c k : Nat, (fun c k => nw_F wl_X13_constant wf_X13_constant false false c k = true) c k → h c k = h c k := fun _ _ _ => rfl
  refine fm_xl ?_; intro v2
  refine fm_up F_h (nw_nf rfl) ?_; intro h3 F_h3
  refine fm_wA F_h3 (nw_ne rfl) ?_; intro h6 F_h6
  refine fm_wA F_h6 (nw_ne rfl) ?_; intro h9 F_h9
  refine fm_wA F_h9 (nw_ne rfl) ?_; intro h12 F_h12
  refine fm_wA F_h12 (nw_ne rfl) ?_; intro h15 F_h15
  exact fm_ret F_h15
set_option maxRecDepth 4000 in
theorem fw_X13_constant_8 (nn : Nat) : ∀ (k : Nat) {l1 : Int} {l2 : Int} {l3 : Int} {l4 : Int} {l5 : Int} {h : ms_M}, Fm_ (fun c k => nw_F wl_X13_constant wf_X13_constant false false c k = true) h (qw_X13_constant_8 nn k l1 l2 l3 l4 l5 h) (fun r => r.2) := by
  intro k
  induction k with
  | zero => intros; exact fm_no
  | succ k ih =>
    intro l1 l2 l3 l4 l5 h
    unfold qw_X13_constant_8
    have F_h : ∀ c k : Nat, (fun c k => nw_F wl_X13_constant wf_X13_constant false false c k = true) c k → h c k = h c k := fun _ _ _ => rfl
    refine fm_if ?_ ?_
    · exact fm_tl F_h (fj_X13_constant_71 nn) (fun _ _ z => z)
    · refine fm_rd ?_; intro v19
      refine fm_if ?_ ?_
      · refine fm_xl ?_; intro v20
        exact fm_tl F_h (ih ) (fun _ _ z => z)
      · refine fm_rd ?_; intro v22
        refine fm_if ?_ ?_
        · refine fm_xl ?_; intro v23
          exact fm_tl F_h (ih ) (fun _ _ z => z)
        · refine fm_rd ?_; intro v25
          refine fm_if ?_ ?_
          · refine fm_xl ?_; intro v26
            exact fm_tl F_h (ih ) (fun _ _ z => z)
          · refine fm_rd ?_; intro v28
            refine fm_if ?_ ?_
            · refine fm_xl ?_; intro v29
              exact fm_tl F_h (ih ) (fun _ _ z => z)
            · exact fm_ret F_h
set_option maxRecDepth 4000 in
theorem ff_X13_constant (nn : Nat) {a1 : Int} {a2 : Int} {a3 : Int} {a4 : Int} {h : ms_M} : Fm_ (fun c k => nw_F wl_X13_constant wf_X13_constant false false c k = true) h (qf_X13_constant nn a1 a2 a3 a4 h) (fun r => r.2) := by
  unfold qf_X13_constant
  have F_h : ∀ c k : Nat, (fun c k => nw_F wl_X13_constant wf_X13_constant false false c k = true) c k → h c k = h c k := fun _ _ _ => rfl
  refine fm_if ?_ ?_
  · exact fm_tl F_h (fj_X13_constant_71 nn) (fun _ _ z => z)
  · exact fm_tl F_h (fw_X13_constant_8 nn _) (fun _ _ z => z)
set_option maxRecDepth 4000 in
theorem ff_X13_spell (nn : Nat) {a1 : Int} {h : ms_M} : Fm_ (fun c k => nw_F wl_X13_spell wf_X13_spell false false c k = true) h (qf_X13_spell nn a1 h) (fun r => r) := by
  unfold qf_X13_spell
  have F_h : ∀ c k : Nat, (fun c k => nw_F wl_X13_spell wf_X13_spell false false c k = true) c k → h c k = h c k := fun _ _ _ => rfl
  refine fm_wA F_h (nw_ne rfl) ?_; intro h3 F_h3
  refine fm_xl ?_; intro v5
  refine fm_up F_h3 (nw_nf rfl) ?_; intro h6 F_h6
  exact fm_ret F_h6
set_option maxRecDepth 4000 in
theorem fw_X13_spellToken_2 (nn : Nat) : ∀ (k : Nat) {l1 : Int} {l2 : Int} {h : ms_M}, Fm_ (fun c k => nw_F wl_X13_spellToken wf_X13_spellToken false false c k = true) h (qw_X13_spellToken_2 nn k l1 l2 h) (fun r => r) := by
  intro k
  induction k with
  | zero => intros; exact fm_no
  | succ k ih =>
    intro l1 l2 h
    unfold qw_X13_spellToken_2
    have F_h : ∀ c k : Nat, (fun c k => nw_F wl_X13_spellToken wf_X13_spellToken false false c k = true) c k → h c k = h c k := fun _ _ _ => rfl
    refine fm_rd ?_; intro v2
    refine fm_if ?_ ?_
    · exact fm_ret F_h
    · refine fm_rd ?_; intro v5
      refine fm_xl ?_; intro v6
      refine fm_rd ?_; intro v7
      refine fm_ca F_h (ff_X13_spell nn) (nw_sub rfl) ?_; intro u9 F_u9
      refine fm_xl ?_; intro v10
      exact fm_tl F_u9 (ih ) (fun _ _ z => z)
set_option maxRecDepth 4000 in
theorem ff_X13_spellToken (nn : Nat) {a1 : Int} {h : ms_M} : Fm_ (fun c k => nw_F wl_X13_spellToken wf_X13_spellToken false false c k = true) h (qf_X13_spellToken nn a1 h) (fun r => r) := by
  unfold qf_X13_spellToken
  have F_h : ∀ c k : Nat, (fun c k => nw_F wl_X13_spellToken wf_X13_spellToken false false c k = true) c k → h c k = h c k := fun _ _ _ => rfl
  exact fm_tl F_h (fw_X13_spellToken_2 nn _) (fun _ _ z => z)
set_option maxRecDepth 4000 in
theorem fw_X13_spellClass_24 (nn : Nat) : ∀ (k : Nat) {l1 : Int} {l2 : Int} {l3 : Int} {h : ms_M}, Fm_ (fun c k => nw_F wl_X13_spellClass wf_X13_spellClass false false c k = true) h (qw_X13_spellClass_24 nn k l1 l2 l3 h) (fun r => r) := by
  intro k
  induction k with
  | zero => intros; exact fm_no
  | succ k ih =>
    intro l1 l2 l3 h
    unfold qw_X13_spellClass_24
    have F_h : ∀ c k : Nat, (fun c k => nw_F wl_X13_spellClass wf_X13_spellClass false false c k = true) c k → h c k = h c k := fun _ _ _ => rfl
    refine fm_lnX ?_; intro v1
    refine fm_if ?_ ?_
    · exact fm_ret F_h
    · refine fm_rdX ?_; intro v2
      refine fm_if ?_ ?_
      · refine fm_if ?_ ?_
        · refine fm_xl ?_; intro v3
          exact fm_tl F_h (ih ) (fun _ _ z => z)
        · refine fm_rdX ?_; intro v4
          refine fm_ca F_h (ff_X13_spell nn) (nw_sub rfl) ?_; intro u6 F_u6
          refine fm_xl ?_; intro v7
          exact fm_tl F_u6 (ih ) (fun _ _ z => z)
      · refine fm_xl ?_; intro v9
        refine fm_xl ?_; intro v10
        exact fm_tl F_h (ih ) (fun _ _ z => z)
set_option maxRecDepth 4000 in
theorem ff_X13_spellClass (nn : Nat) {a1 : Int} {h : ms_M} : Fm_ (fun c k => nw_F wl_X13_spellClass wf_X13_spellClass false false c k = true) h (qf_X13_spellClass nn a1 h) (fun r => r) := by
  unfold qf_X13_spellClass
  have F_h : ∀ c k : Nat, (fun c k => nw_F wl_X13_spellClass wf_X13_spellClass false false c k = true) c k → h c k = h c k := fun _ _ _ => rfl
  refine fm_if ?_ ?_
  · exact fm_tl F_h (fw_X13_spellClass_24 nn _) (fun _ _ z => z)
  · refine fm_xl ?_; intro v14
    refine fm_rd ?_; intro v15
    refine fm_ca F_h (ff_X13_spellToken nn) (nw_sub rfl) ?_; intro u17 F_u17
    exact fm_ret F_u17
set_option maxRecDepth 4000 in
theorem fj_X13_spellKind_54 (nn : Nat) {l1 : Int} {h : ms_M} : Fm_ (fun c k => nw_F wl_X13_spellKind wf_X13_spellKind false false c k = true) h (qj_X13_spellKind_54 nn l1 h) (fun r => r) := by
  unfold qj_X13_spellKind_54
  have F_h : ∀ c k : Nat, (fun c k => nw_F wl_X13_spellKind wf_X13_spellKind false false c k = true) c k → h c k = h c k := fun _ _ _ => rfl
  refine fm_if ?_ ?_
  · refine fm_ca F_h (ff_X13_spell nn) (nw_sub rfl) ?_; intro u2 F_u2
    refine fm_xl ?_; intro v3
    refine fm_xl ?_; intro v4
    refine fm_ca F_u2 (ff_X13_spellClass nn) (nw_sub rfl) ?_; intro u6 F_u6
    refine fm_ca F_u6 (ff_X13_spell nn) (nw_sub rfl) ?_; intro u8 F_u8
    exact fm_ret F_u8
  · refine fm_ca F_h (ff_X13_spell nn) (nw_sub rfl) ?_; intro u10 F_u10
    exact fm_ret F_u10
set_option maxRecDepth 4000 in
theorem ff_X13_spellKind (nn : Nat) {a1 : Int} {h : ms_M} : Fm_ (fun c k => nw_F wl_X13_spellKind wf_X13_spellKind false false c k = true) h (qf_X13_spellKind nn a1 h) (fun r => r) := by
  unfold qf_X13_spellKind
  have F_h : ∀ c k : Nat, (fun c k => nw_F wl_X13_spellKind wf_X13_spellKind false false c k = true) c k → h c k = h c k := fun _ _ _ => rfl
  refine fm_if ?_ ?_
  · refine fm_if ?_ ?_
    · refine fm_if ?_ ?_
      · refine fm_pu ?_; intro u12
        refine fm_if ?_ ?_
        · exact fm_tl F_h (fj_X13_spellKind_54 nn) (fun _ _ z => z)
        · refine fm_ca F_h (ff_X13_spell nn) (nw_sub rfl) ?_; intro u14 F_u14
          exact fm_tl F_u14 (fj_X13_spellKind_54 nn) (fun _ _ z => z)
      · refine fm_ca F_h (ff_X13_spell nn) (nw_sub rfl) ?_; intro u17 F_u17
        exact fm_ret F_u17
    · refine fm_ca F_h (ff_X13_spell nn) (nw_sub rfl) ?_; intro u20 F_u20
      exact fm_ret F_u20
  · refine fm_ca F_h (ff_X13_spell nn) (nw_sub rfl) ?_; intro u23 F_u23
    exact fm_ret F_u23
set_option maxRecDepth 4000 in
theorem fw_X13_spelling_109 (nn : Nat) : ∀ (k : Nat) {l1 : Int} {l2 : Int} {h : ms_M}, Fm_ (fun c k => nw_F wl_X13_spelling wf_X13_spelling false false c k = true) h (qw_X13_spelling_109 nn k l1 l2 h) (fun r => r.2) := by
  intro k
  induction k with
  | zero => intros; exact fm_no
  | succ k ih =>
    intro l1 l2 h
    unfold qw_X13_spelling_109
    have F_h : ∀ c k : Nat, (fun c k => nw_F wl_X13_spelling wf_X13_spelling false false c k = true) c k → h c k = h c k := fun _ _ _ => rfl
    refine fm_if ?_ ?_
    · refine fm_ca F_h (ff_X13_constant nn) (nw_sub rfl) ?_; intro u3 F_u3
      refine fm_xl ?_; intro v5
      refine fm_up F_u3 (nw_nf rfl) ?_; intro h6 F_h6
      exact fm_ret F_h6
    · refine fm_xl ?_; intro v9
      refine fm_rd ?_; intro v11
      refine fm_wA F_h (nw_ne rfl) ?_; intro h12 F_h12
      refine fm_xl ?_; intro v13
      exact fm_tl F_h12 (ih ) (fun _ _ z => z)
set_option maxRecDepth 4000 in
theorem fj_X13_spelling_95 (nn : Nat) {qkk_12 : Int → Int → ms_M → Option (Int × ms_M)} (hk_kk_12 : ∀ {l1 : Int} {l2 : Int} {h : ms_M}, Fm_ (fun c k => nw_F wl_X13_spelling wf_X13_spelling false false c k = true) h (qkk_12 l1 l2 h) (fun r => r.2)) {l1 : Int} {l2 : Int} {l3 : Int} {h : ms_M} : Fm_ (fun c k => nw_F wl_X13_spelling wf_X13_spelling false false c k = true) h (qj_X13_spelling_95 nn qkk_12 l1 l2 l3 h) (fun r => r.2) := by
  unfold qj_X13_spelling_95
  have F_h : ∀ c k : Nat, (fun c k => nw_F wl_X13_spelling wf_X13_spelling false false c k = true) c k → h c k = h c k := fun _ _ _ => rfl
  refine fm_if ?_ ?_
  · refine fm_xl ?_; intro v15
    exact fm_tl F_h (hk_kk_12) (fun _ _ z => z)
  · exact fm_ret F_h
set_option maxRecDepth 4000 in
theorem fw_X13_spelling_49 (nn : Nat) {qkk_12 : Int → Int → ms_M → Option (Int × ms_M)} (hk_kk_12 : ∀ {l1 : Int} {l2 : Int} {h : ms_M}, Fm_ (fun c k => nw_F wl_X13_spelling wf_X13_spelling false false c k = true) h (qkk_12 l1 l2 h) (fun r => r.2)) : ∀ (k : Nat) {l1 : Int} {l2 : Int} {l3 : Int} {l4 : Int} {h : ms_M}, Fm_ (fun c k => nw_F wl_X13_spelling wf_X13_spelling false false c k = true) h (qw_X13_spelling_49 nn qkk_12 k l1 l2 l3 l4 h) (fun r => r.2) := by
  intro k
  induction k with
  | zero => intros; exact fm_no
  | succ k ih =>
    intro l1 l2 l3 l4 h
    unfold qw_X13_spelling_49
    have F_h : ∀ c k : Nat, (fun c k => nw_F wl_X13_spelling wf_X13_spelling false false c k = true) c k → h c k = h c k := fun _ _ _ => rfl
    refine fm_if ?_ ?_
    · exact fm_tl F_h (fj_X13_spelling_95 nn hk_kk_12) (fun _ _ z => z)
    · refine fm_if ?_ ?_
      · exact fm_tl F_h (fj_X13_spelling_95 nn hk_kk_12) (fun _ _ z => z)
      · refine fm_rd ?_; intro v19
        refine fm_xl ?_; intro v20
        refine fm_rd ?_; intro v21
        refine fm_rd ?_; intro v23
        refine fm_if ?_ ?_
        · refine fm_xl ?_; intro v24
          exact fm_tl F_h (ih ) (fun _ _ z => z)
        · refine fm_xl ?_; intro v25
          exact fm_tl F_h (ih ) (fun _ _ z => z)
set_option maxRecDepth 4000 in
theorem fj_X13_spelling_44 (nn : Nat) {qkk_12 : Int → Int → ms_M → Option (Int × ms_M)} (hk_kk_12 : ∀ {l1 : Int} {l2 : Int} {h : ms_M}, Fm_ (fun c k => nw_F wl_X13_spelling wf_X13_spelling false false c k = true) h (qkk_12 l1 l2 h) (fun r => r.2)) {l1 : Int} {l2 : Int} {h : ms_M} : Fm_ (fun c k => nw_F wl_X13_spelling wf_X13_spelling false false c k = true) h (qj_X13_spelling_44 nn qkk_12 l1 l2 h) (fun r => r.2) := by
  unfold qj_X13_spelling_44
  have F_h : ∀ c k : Nat, (fun c k => nw_F wl_X13_spelling wf_X13_spelling false false c k = true) c k → h c k = h c k := fun _ _ _ => rfl
  exact fm_tl F_h (fw_X13_spelling_49 nn hk_kk_12 _) (fun _ _ z => z)
set_option maxRecDepth 4000 in
theorem fw_X13_spelling_12 (nn : Nat) : ∀ (k : Nat) {l1 : Int} {l2 : Int} {h : ms_M}, Fm_ (fun c k => nw_F wl_X13_spelling wf_X13_spelling false false c k = true) h (qw_X13_spelling_12 nn k l1 l2 h) (fun r => r.2) := by
  intro k
  induction k with
  | zero => intros; exact fm_no
  | succ k ih =>
    intro l1 l2 h
    unfold qw_X13_spelling_12
    have F_h : ∀ c k : Nat, (fun c k => nw_F wl_X13_spelling wf_X13_spelling false false c k = true) c k → h c k = h c k := fun _ _ _ => rfl
    refine fm_if ?_ ?_
    · exact fm_tl F_h (fw_X13_spelling_109 nn _) (fun _ _ z => z)
    · refine fm_rd ?_; intro v31
      refine fm_if ?_ ?_
      · exact fm_tl F_h (fj_X13_spelling_44 nn ih) (fun _ _ z => z)
      · refine fm_rd ?_; intro v33
        refine fm_if ?_ ?_
        · exact fm_tl F_h (fj_X13_spelling_44 nn ih) (fun _ _ z => z)
        · exact fm_tl F_h (fw_X13_spelling_49 nn ih _) (fun _ _ z => z)
set_option maxRecDepth 4000 in
theorem ff_X13_spelling (nn : Nat) {h : ms_M} : Fm_ (fun c k => nw_F wl_X13_spelling wf_X13_spelling false false c k = true) h (qf_X13_spelling nn h) (fun r => r.2) := by
  unfold qf_X13_spelling
  have F_h : ∀ c k : Nat, (fun c k => nw_F wl_X13_spelling wf_X13_spelling false false c k = true) c k → h c k = h c k := fun _ _ _ => rfl
  refine fm_up F_h (nw_nf rfl) ?_; intro h38 F_h38
  exact fm_tl F_h38 (fw_X13_spelling_12 nn _) (fun _ _ z => z)
set_option maxRecDepth 4000 in
theorem fj_X13_classConstant_38 (nn : Nat) {h : ms_M} : Fm_ (fun c k => nw_F wl_X13_classConstant wf_X13_classConstant false false c k = true) h (qj_X13_classConstant_38 nn h) (fun r => r.2) := by
  unfold qj_X13_classConstant_38
  have F_h : ∀ c k : Nat, (fun c k => nw_F wl_X13_classConstant wf_X13_classConstant false false c k = true) c k → h c k = h c k := fun _ _ _ => rfl
  refine fm_ca F_h (ff_X13_spelling nn) (nw_sub rfl) ?_; intro u2 F_u2
  refine fm_ca F_u2 (ff_X13_constant nn) (nw_sub rfl) ?_; intro u4 F_u4
  exact fm_ret F_u4
set_option maxRecDepth 4000 in
theorem ff_X13_classConstant (nn : Nat) {a1 : Int} {h : ms_M} : Fm_ (fun c k => nw_F wl_X13_classConstant wf_X13_classConstant false false c k = true) h (qf_X13_classConstant nn a1 h) (fun r => r.2) := by
  unfold qf_X13_classConstant
  have F_h : ∀ c k : Nat, (fun c k => nw_F wl_X13_classConstant wf_X13_classConstant false false c k = true) c k → h c k = h c k := fun _ _ _ => rfl
  refine fm_if ?_ ?_
  · refine fm_pu ?_; intro u5
    refine fm_if ?_ ?_
    · refine fm_xl ?_; intro v6
      refine fm_xl ?_; intro v7
      refine fm_ca F_h (ff_X13_spellClass nn) (nw_sub rfl) ?_; intro u9 F_u9
      exact fm_tl F_u9 (fj_X13_classConstant_38 nn) (fun _ _ z => z)
    · refine fm_ca F_h (ff_X13_spellKind nn) (nw_sub rfl) ?_; intro u11 F_u11
      exact fm_tl F_u11 (fj_X13_classConstant_38 nn) (fun _ _ z => z)
  · refine fm_ca F_h (ff_X13_spellKind nn) (nw_sub rfl) ?_; intro u14 F_u14
    exact fm_tl F_u14 (fj_X13_classConstant_38 nn) (fun _ _ z => z)
set_option maxRecDepth 4000 in
theorem fj_X13_kindOf_56 (nn : Nat) {l1 : Int} {h : ms_M} : Fm_ (fun c k => nw_F wl_X13_kindOf wf_X13_kindOf false false c k = true) h (qj_X13_kindOf_56 nn l1 h) (fun r => r.2) := by
  unfold qj_X13_kindOf_56
  have F_h : ∀ c k : Nat, (fun c k => nw_F wl_X13_kindOf wf_X13_kindOf false false c k = true) c k → h c k = h c k := fun _ _ _ => rfl
  refine fm_rd ?_; intro v2
  refine fm_ca F_h (ff_X13_spellKind nn) (nw_sub rfl) ?_; intro u4 F_u4
  refine fm_ca F_u4 (ff_X13_spelling nn) (nw_sub rfl) ?_; intro u6 F_u6
  exact fm_ret F_u6
set_option maxRecDepth 4000 in
theorem fw_X13_kindOf_17 (nn : Nat) : ∀ (k : Nat) {l1 : Int} {l2 : Int} {h : ms_M}, Fm_ (fun c k => nw_F wl_X13_kindOf wf_X13_kindOf false false c k = true) h (qw_X13_kindOf_17 nn k l1 l2 h) (fun r => r.2) := by
  intro k
  induction k with
  | zero => intros; exact fm_no
  | succ k ih =>
    intro l1 l2 h
    unfold qw_X13_kindOf_17
    have F_h : ∀ c k : Nat, (fun c k => nw_F wl_X13_kindOf wf_X13_kindOf false false c k = true) c k → h c k = h c k := fun _ _ _ => rfl
    refine fm_rd ?_; intro v8
    refine fm_if ?_ ?_
    · refine fm_ca F_h (ff_X13_spell nn) (nw_sub rfl) ?_; intro u10 F_u10
      exact fm_tl F_u10 (fj_X13_kindOf_56 nn) (fun _ _ z => z)
    · refine fm_rd ?_; intro v13
      refine fm_xl ?_; intro v14
      refine fm_rd ?_; intro v15
      refine fm_ca F_h (ff_X13_spellKind nn) (nw_sub rfl) ?_; intro u17 F_u17
      refine fm_xl ?_; intro v18
      exact fm_tl F_u17 (ih ) (fun _ _ z => z)
set_option maxRecDepth 4000 in
theorem ff_X13_kindOf (nn : Nat) {a1 : Int} {h : ms_M} : Fm_ (fun c k => nw_F wl_X13_kindOf wf_X13_kindOf false false c k = true) h (qf_X13_kindOf nn a1 h) (fun r => r.2) := by
  unfold qf_X13_kindOf
  have F_h : ∀ c k : Nat, (fun c k => nw_F wl_X13_kindOf wf_X13_kindOf false false c k = true) c k → h c k = h c k := fun _ _ _ => rfl
  refine fm_rd ?_; intro v21
  refine fm_if ?_ ?_
  · exact fm_tl F_h (fj_X13_kindOf_56 nn) (fun _ _ z => z)
  · refine fm_ca F_h (ff_X13_spell nn) (nw_sub rfl) ?_; intro u23 F_u23
    exact fm_tl F_u23 (fw_X13_kindOf_17 nn _) (fun _ _ z => z)
set_option maxRecDepth 4000 in
theorem ff_X13_comes (nn : Nat) {a1 : Int} {a2 : Int} {h : ms_M} : Fm_ (fun c k => nw_F wl_X13_comes wf_X13_comes false false c k = true) h (qf_X13_comes nn a1 a2 h) (fun r => r) := by
  unfold qf_X13_comes
  have F_h : ∀ c k : Nat, (fun c k => nw_F wl_X13_comes wf_X13_comes false false c k = true) c k → h c k = h c k := fun _ _ _ => rfl
  refine fm_ca F_h (ff_X13_come nn) (nw_sub rfl) ?_; intro u2 F_u2
  refine fm_xl ?_; intro v5
  refine fm_up F_u2 (nw_nf rfl) ?_; intro h6 F_h6
  exact fm_ret F_h6
set_option maxRecDepth 4000 in
theorem ff_X13_textOf (nn : Nat) {a1 : Int} {h : ms_M} : Fm_ (fun c k => nw_F wl_X13_textOf wf_X13_textOf false false c k = true) h (qf_X13_textOf nn a1 h) (fun r => r.2) := by
  unfold qf_X13_textOf
  have F_h : ∀ c k : Nat, (fun c k => nw_F wl_X13_textOf wf_X13_textOf false false c k = true) c k → h c k = h c k := fun _ _ _ => rfl
  refine fm_ca F_h (ff_X13_spellToken nn) (nw_sub rfl) ?_; intro u2 F_u2
  refine fm_ca F_u2 (ff_X13_spelling nn) (nw_sub rfl) ?_; intro u4 F_u4
  exact fm_ret F_u4
set_option maxRecDepth 4000 in
theorem ff_X13_memberConstant (nn : Nat) {a1 : Int} {a2 : Int} {h : ms_M} : Fm_ (fun c k => nw_F wl_X13_memberConstant wf_X13_memberConstant false false c k = true) h (qf_X13_memberConstant nn a1 a2 h) (fun r => r.2) := by
  unfold qf_X13_memberConstant
  have F_h : ∀ c k : Nat, (fun c k => nw_F wl_X13_memberConstant wf_X13_memberConstant false false c k = true) c k → h c k = h c k := fun _ _ _ => rfl
  refine fm_xl ?_; intro v1
  refine fm_xl ?_; intro v2
  refine fm_ca F_h (ff_X13_classConstant nn) (nw_sub rfl) ?_; intro u4 F_u4
  refine fm_rd ?_; intro v6
  refine fm_ca F_u4 (ff_X13_textOf nn) (nw_sub rfl) ?_; intro u8 F_u8
  refine fm_ca F_u8 (ff_X13_kindOf nn) (nw_sub rfl) ?_; intro u10 F_u10
  refine fm_ca F_u10 (ff_X13_constant nn) (nw_sub rfl) ?_; intro u12 F_u12
  exact fm_ret F_u12
set_option maxRecDepth 4000 in
theorem fj_X13_put_24 (nn : Nat) {h : ms_M} : Fm_ (fun c k => nw_F wl_X13_put wf_X13_put false false c k = true) h (qj_X13_put_24 nn h) (fun r => r) := by
  unfold qj_X13_put_24
  have F_h : ∀ c k : Nat, (fun c k => nw_F wl_X13_put wf_X13_put false false c k = true) c k → h c k = h c k := fun _ _ _ => rfl
  refine fm_xl ?_; intro v2
  refine fm_up F_h (nw_nf rfl) ?_; intro h3 F_h3
  exact fm_ret F_h3
set_option maxRecDepth 4000 in
theorem ff_X13_put (nn : Nat) {a1 : Int} {h : ms_M} : Fm_ (fun c k => nw_F wl_X13_put wf_X13_put false false c k = true) h (qf_X13_put nn a1 h) (fun r => r) := by
  unfold qf_X13_put
  have F_h : ∀ c k : Nat, (fun c k => nw_F wl_X13_put wf_X13_put false false c k = true) c k → h c k = h c k := fun _ _ _ => rfl
  refine fm_if ?_ ?_
  · exact fm_tl F_h (fj_X13_put_24 nn) (fun _ _ z => z)
  · refine fm_xl ?_; intro v7
    refine fm_wA F_h (nw_ne rfl) ?_; intro h8 F_h8
    exact fm_tl F_h8 (fj_X13_put_24 nn) (fun _ _ z => z)
set_option maxRecDepth 4000 in
theorem ff_X13_push (nn : Nat) {a1 : Int} {h : ms_M} : Fm_ (fun c k => nw_F wl_X13_push wf_X13_push false false c k = true) h (qf_X13_push nn a1 h) (fun r => r) := by
  unfold qf_X13_push
  have F_h : ∀ c k : Nat, (fun c k => nw_F wl_X13_push wf_X13_push false false c k = true) c k → h c k = h c k := fun _ _ _ => rfl
  refine fm_wA F_h (nw_ne rfl) ?_; intro h3 F_h3
  refine fm_xl ?_; intro v5
  refine fm_up F_h3 (nw_nf rfl) ?_; intro h6 F_h6
  refine fm_xl ?_; intro v9
  refine fm_up F_h6 (nw_nf rfl) ?_; intro h10 F_h10
  exact fm_ret F_h10
set_option maxRecDepth 4000 in
theorem ff_X13_self (nn : Nat) {h : ms_M} : Fm_ (fun c k => nw_F wl_X13_self wf_X13_self false false c k = true) h (qf_X13_self nn h) (fun r => r) := by
  unfold qf_X13_self
  have F_h : ∀ c k : Nat, (fun c k => nw_F wl_X13_self wf_X13_self false false c k = true) c k → h c k = h c k := fun _ _ _ => rfl
  refine fm_ca F_h (ff_X13_put nn) (nw_sub rfl) ?_; intro u2 F_u2
  refine fm_ca F_u2 (ff_X13_put nn) (nw_sub rfl) ?_; intro u4 F_u4
  refine fm_xl ?_; intro v6
  refine fm_xl ?_; intro v7
  refine fm_ca F_u4 (ff_X13_push nn) (nw_sub rfl) ?_; intro u9 F_u9
  exact fm_ret F_u9
set_option maxRecDepth 4000 in
theorem ff_X13_jump (nn : Nat) {a1 : Int} {a2 : Int} {h : ms_M} : Fm_ (fun c k => nw_F wl_X13_jump wf_X13_jump false false c k = true) h (qf_X13_jump nn a1 a2 h) (fun r => r) := by
  unfold qf_X13_jump
  have F_h : ∀ c k : Nat, (fun c k => nw_F wl_X13_jump wf_X13_jump false false c k = true) c k → h c k = h c k := fun _ _ _ => rfl
  refine fm_wA F_h (nw_ne rfl) ?_; intro h4 F_h4
  refine fm_wA F_h4 (nw_ne rfl) ?_; intro h7 F_h7
  refine fm_xl ?_; intro v9
  refine fm_up F_h7 (nw_nf rfl) ?_; intro h10 F_h10
  refine fm_ca F_h10 (ff_X13_put nn) (nw_sub rfl) ?_; intro u12 F_u12
  refine fm_ca F_u12 (ff_X13_put nn) (nw_sub rfl) ?_; intro u14 F_u14
  refine fm_ca F_u14 (ff_X13_put nn) (nw_sub rfl) ?_; intro u16 F_u16
  exact fm_ret F_u16
set_option maxRecDepth 4000 in
theorem ff_X13_label (nn : Nat) {h : ms_M} : Fm_ (fun c k => nw_F wl_X13_label wf_X13_label false false c k = true) h (qf_X13_label nn h) (fun r => r.2) := by
  unfold qf_X13_label
  have F_h : ∀ c k : Nat, (fun c k => nw_F wl_X13_label wf_X13_label false false c k = true) c k → h c k = h c k := fun _ _ _ => rfl
  refine fm_xl ?_; intro v2
  refine fm_up F_h (nw_nf rfl) ?_; intro h3 F_h3
  exact fm_ret F_h3
set_option maxRecDepth 4000 in
theorem fj_X13_number_60 (nn : Nat) {h : ms_M} : Fm_ (fun c k => nw_F wl_X13_number wf_X13_number false false c k = true) h (qj_X13_number_60 nn h) (fun r => r) := by
  unfold qj_X13_number_60
  have F_h : ∀ c k : Nat, (fun c k => nw_F wl_X13_number wf_X13_number false false c k = true) c k → h c k = h c k := fun _ _ _ => rfl
  refine fm_ca F_h (ff_X13_push nn) (nw_sub rfl) ?_; intro u2 F_u2
  exact fm_ret F_u2
set_option maxRecDepth 4000 in
theorem ff_X13_number (nn : Nat) {a1 : Int} {h : ms_M} : Fm_ (fun c k => nw_F wl_X13_number wf_X13_number false false c k = true) h (qf_X13_number nn a1 h) (fun r => r) := by
  unfold qf_X13_number
  have F_h : ∀ c k : Nat, (fun c k => nw_F wl_X13_number wf_X13_number false false c k = true) c k → h c k = h c k := fun _ _ _ => rfl
  refine fm_rd ?_; intro v4
  refine fm_if ?_ ?_
  · refine fm_if ?_ ?_
    · refine fm_ca F_h (ff_X13_put nn) (nw_sub rfl) ?_; intro u6 F_u6
      refine fm_ca F_u6 (ff_X13_constant nn) (nw_sub rfl) ?_; intro u8 F_u8
      refine fm_ca F_u8 (ff_X13_put nn) (nw_sub rfl) ?_; intro u10 F_u10
      exact fm_tl F_u10 (fj_X13_number_60 nn) (fun _ _ z => z)
    · refine fm_ca F_h (ff_X13_put nn) (nw_sub rfl) ?_; intro u12 F_u12
      refine fm_ca F_u12 (ff_X13_put nn) (nw_sub rfl) ?_; intro u14 F_u14
      exact fm_tl F_u14 (fj_X13_number_60 nn) (fun _ _ z => z)
  · refine fm_xl ?_; intro v16
    refine fm_ca F_h (ff_X13_put nn) (nw_sub rfl) ?_; intro u18 F_u18
    exact fm_tl F_u18 (fj_X13_number_60 nn) (fun _ _ z => z)
set_option maxRecDepth 4000 in
theorem fw_X13_frame_192 (nn : Nat) : ∀ (k : Nat) {l3 : Int} {l4 : Int} {h : ms_M}, Fm_ (fun c k => nw_F wl_X13_frame wf_X13_frame false false c k = true) h (qw_X13_frame_192 nn k l3 l4 h) (fun r => r) := by
  intro k
  induction k with
  | zero => intros; exact fm_no
  | succ k ih =>
    intro l3 l4 h
    unfold qw_X13_frame_192
    have F_h : ∀ c k : Nat, (fun c k => nw_F wl_X13_frame wf_X13_frame false false c k = true) c k → h c k = h c k := fun _ _ _ => rfl
    refine fm_if ?_ ?_
    · refine fm_xl ?_; intro v4
      refine fm_xl ?_; intro v6
      refine fm_xl ?_; intro v7
      refine fm_up F_h (nw_nf rfl) ?_; intro h8 F_h8
      exact fm_ret F_h8
    · refine fm_xl ?_; intro v11
      refine fm_xl ?_; intro v13
      refine fm_xl ?_; intro v14
      refine fm_rd ?_; intro v16
      refine fm_wA F_h (nw_ne rfl) ?_; intro h17 F_h17
      refine fm_xl ?_; intro v18
      exact fm_tl F_h17 (ih ) (fun _ _ z => z)
set_option maxRecDepth 4000 in
theorem fw_X13_frame_153 (nn : Nat) : ∀ (k : Nat) {l3 : Int} {l4 : Int} {h : ms_M}, Fm_ (fun c k => nw_F wl_X13_frame wf_X13_frame false false c k = true) h (qw_X13_frame_153 nn k l3 l4 h) (fun r => r) := by
  intro k
  induction k with
  | zero => intros; exact fm_no
  | succ k ih =>
    intro l3 l4 h
    unfold qw_X13_frame_153
    have F_h : ∀ c k : Nat, (fun c k => nw_F wl_X13_frame wf_X13_frame false false c k = true) c k → h c k = h c k := fun _ _ _ => rfl
    refine fm_if ?_ ?_
    · exact fm_tl F_h (fw_X13_frame_192 nn _) (fun _ _ z => z)
    · refine fm_xl ?_; intro v23
      refine fm_xl ?_; intro v24
      refine fm_rd ?_; intro v26
      refine fm_wA F_h (nw_ne rfl) ?_; intro h27 F_h27
      refine fm_xl ?_; intro v28
      exact fm_tl F_h27 (ih ) (fun _ _ z => z)
set_option maxRecDepth 4000 in
theorem fj_X13_frame_80 (nn : Nat) {l2 : Int} {s0 : Int} {h : ms_M} : Fm_ (fun c k => nw_F wl_X13_frame wf_X13_frame false false c k = true) h (qj_X13_frame_80 nn l2 s0 h) (fun r => r) := by
  unfold qj_X13_frame_80
  have F_h : ∀ c k : Nat, (fun c k => nw_F wl_X13_frame wf_X13_frame false false c k = true) c k → h c k = h c k := fun _ _ _ => rfl
  refine fm_xl ?_; intro v32
  refine fm_wA F_h (nw_ne rfl) ?_; intro h33 F_h33
  refine fm_wA F_h33 (nw_ne rfl) ?_; intro h36 F_h36
  refine fm_xl ?_; intro v39
  refine fm_xl ?_; intro v40
  refine fm_xl ?_; intro v42
  refine fm_if ?_ ?_
  · refine fm_if ?_ ?_
    · exact fm_tl F_h36 (fw_X13_frame_153 nn _) (fun _ _ z => z)
    · refine fm_xl ?_; intro v47
      refine fm_xl ?_; intro v48
      refine fm_wA F_h36 (nw_ne rfl) ?_; intro h49 F_h49
      exact fm_tl F_h49 (fw_X13_frame_153 nn _) (fun _ _ z => z)
  · exact fm_ret F_h36
set_option maxRecDepth 4000 in
theorem fj_X13_frame_51 (nn : Nat) {l1 : Int} {l2 : Int} {h : ms_M} : Fm_ (fun c k => nw_F wl_X13_frame wf_X13_frame false false c k = true) h (qj_X13_frame_51 nn l1 l2 h) (fun r => r) := by
  unfold qj_X13_frame_51
  have F_h : ∀ c k : Nat, (fun c k => nw_F wl_X13_frame wf_X13_frame false false c k = true) c k → h c k = h c k := fun _ _ _ => rfl
  refine fm_wA F_h (nw_ne rfl) ?_; intro h53 F_h53
  refine fm_wA F_h53 (nw_ne rfl) ?_; intro h56 F_h56
  refine fm_if ?_ ?_
  · exact fm_tl F_h56 (fj_X13_frame_80 nn) (fun _ _ z => z)
  · exact fm_tl F_h56 (fj_X13_frame_80 nn) (fun _ _ z => z)
set_option maxRecDepth 4000 in
theorem fw_X13_frame_7 (nn : Nat) : ∀ (k : Nat) {l1 : Int} {l2 : Int} {l3 : Int} {h : ms_M}, Fm_ (fun c k => nw_F wl_X13_frame wf_X13_frame false false c k = true) h (qw_X13_frame_7 nn k l1 l2 l3 h) (fun r => r) := by
  intro k
  induction k with
  | zero => intros; exact fm_no
  | succ k ih =>
    intro l1 l2 l3 h
    unfold qw_X13_frame_7
    have F_h : ∀ c k : Nat, (fun c k => nw_F wl_X13_frame wf_X13_frame false false c k = true) c k → h c k = h c k := fun _ _ _ => rfl
    refine fm_if ?_ ?_
    · refine fm_if ?_ ?_
      · exact fm_tl F_h (fj_X13_frame_51 nn) (fun _ _ z => z)
      · refine fm_xl ?_; intro v62
        refine fm_up F_h (nw_nf rfl) ?_; intro h63 F_h63
        exact fm_tl F_h63 (fj_X13_frame_51 nn) (fun _ _ z => z)
    · refine fm_rd ?_; intro v66
      refine fm_if ?_ ?_
      · refine fm_xl ?_; intro v67
        exact fm_tl F_h (ih ) (fun _ _ z => z)
      · refine fm_xl ?_; intro v68
        exact fm_tl F_h (ih ) (fun _ _ z => z)
set_option maxRecDepth 4000 in
theorem ff_X13_frame (nn : Nat) {a1 : Int} {h : ms_M} : Fm_ (fun c k => nw_F wl_X13_frame wf_X13_frame false false c k = true) h (qf_X13_frame nn a1 h) (fun r => r) := by
  unfold qf_X13_frame
  have F_h : ∀ c k : Nat, (fun c k => nw_F wl_X13_frame wf_X13_frame false false c k = true) c k → h c k = h c k := fun _ _ _ => rfl
  exact fm_tl F_h (fw_X13_frame_7 nn _) (fun _ _ z => z)
set_option maxRecDepth 4000 in
theorem fj_X13_stands_154 (nn : Nat) {h : ms_M} : Fm_ (fun c k => nw_F wl_X13_stands wf_X13_stands false false c k = true) h (qj_X13_stands_154 nn h) (fun r => r) := by
  unfold qj_X13_stands_154
  have F_h : ∀ c k : Nat, (fun c k => nw_F wl_X13_stands wf_X13_stands false false c k = true) c k → h c k = h c k := fun _ _ _ => rfl
  exact fm_ret F_h
set_option maxRecDepth 4000 in
theorem fw_X13_stands_8 (nn : Nat) : ∀ (k : Nat) {l1 : Int} {l2 : Int} {l3 : Int} {l4 : Int} {l5 : Int} {h : ms_M}, Fm_ (fun c k => nw_F wl_X13_stands wf_X13_stands false false c k = true) h (qw_X13_stands_8 nn k l1 l2 l3 l4 l5 h) (fun r => r) := by
  intro k
  induction k with
  | zero => intros; exact fm_no
  | succ k ih =>
    intro l1 l2 l3 l4 l5 h
    unfold qw_X13_stands_8
    have F_h : ∀ c k : Nat, (fun c k => nw_F wl_X13_stands wf_X13_stands false false c k = true) c k → h c k = h c k := fun _ _ _ => rfl
    refine fm_if ?_ ?_
    · refine fm_up F_h (nw_nf rfl) ?_; intro h2 F_h2
      refine fm_if ?_ ?_
      · exact fm_tl F_h2 (fj_X13_stands_154 nn) (fun _ _ z => z)
      · refine fm_ca F_h2 (ff_X13_frame nn) (nw_sub rfl) ?_; intro u4 F_u4
        exact fm_tl F_u4 (fj_X13_stands_154 nn) (fun _ _ z => z)
    · refine fm_rd ?_; intro v7
      refine fm_if ?_ ?_
      · refine fm_rd ?_; intro v10
        refine fm_wA F_h (nw_ne rfl) ?_; intro h11 F_h11
        refine fm_rd ?_; intro v14
        refine fm_wA F_h11 (nw_ne rfl) ?_; intro h15 F_h15
        refine fm_xl ?_; intro v16
        refine fm_xl ?_; intro v17
        exact fm_tl F_h15 (ih ) (fun _ _ z => z)
      · refine fm_rd ?_; intro v19
        refine fm_xl ?_; intro v20
        refine fm_rd ?_; intro v22
        refine fm_xl ?_; intro v23
        refine fm_if ?_ ?_
        · refine fm_xl ?_; intro v24
          exact fm_tl F_h (ih ) (fun _ _ z => z)
        · refine fm_rd ?_; intro v27
          refine fm_xl ?_; intro v28
          refine fm_xl ?_; intro v29
          refine fm_xl ?_; intro v30
          refine fm_wA F_h (nw_ne rfl) ?_; intro h31 F_h31
          refine fm_rd ?_; intro v34
          refine fm_xl ?_; intro v35
          refine fm_xl ?_; intro v36
          refine fm_wA F_h31 (nw_ne rfl) ?_; intro h37 F_h37
          refine fm_xl ?_; intro v38
          exact fm_tl F_h37 (ih ) (fun _ _ z => z)
set_option maxRecDepth 4000 in
theorem ff_X13_stands (nn : Nat) {a1 : Int} {a2 : Int} {h : ms_M} : Fm_ (fun c k => nw_F wl_X13_stands wf_X13_stands false false c k = true) h (qf_X13_stands nn a1 a2 h) (fun r => r) := by
  unfold qf_X13_stands
  have F_h : ∀ c k : Nat, (fun c k => nw_F wl_X13_stands wf_X13_stands false false c k = true) c k → h c k = h c k := fun _ _ _ => rfl
  exact fm_tl F_h (fw_X13_stands_8 nn _) (fun _ _ z => z)
set_option maxRecDepth 4000 in
theorem ff_X13_truth (nn : Nat) {a1 : Int} {a2 : Int} {h : ms_M} : Fm_ (fun c k => nw_F wl_X13_truth wf_X13_truth false false c k = true) h (qf_X13_truth nn a1 a2 h) (fun r => r) := by
  unfold qf_X13_truth
  have F_h : ∀ c k : Nat, (fun c k => nw_F wl_X13_truth wf_X13_truth false false c k = true) c k → h c k = h c k := fun _ _ _ => rfl
  refine fm_ca F_h (ff_X13_label nn) (nw_sub rfl) ?_; intro u2 F_u2
  refine fm_ca F_u2 (ff_X13_label nn) (nw_sub rfl) ?_; intro u4 F_u4
  refine fm_xl ?_; intro v6
  refine fm_up F_u4 (nw_nf rfl) ?_; intro h7 F_h7
  refine fm_ca F_h7 (ff_X13_jump nn) (nw_sub rfl) ?_; intro u9 F_u9
  refine fm_ca F_u9 (ff_X13_put nn) (nw_sub rfl) ?_; intro u11 F_u11
  refine fm_ca F_u11 (ff_X13_push nn) (nw_sub rfl) ?_; intro u13 F_u13
  refine fm_xl ?_; intro v15
  refine fm_up F_u13 (nw_nf rfl) ?_; intro h16 F_h16
  refine fm_ca F_h16 (ff_X13_jump nn) (nw_sub rfl) ?_; intro u18 F_u18
  refine fm_ca F_u18 (ff_X13_stands nn) (nw_sub rfl) ?_; intro u21 F_u21
  refine fm_ca F_u21 (ff_X13_put nn) (nw_sub rfl) ?_; intro u23 F_u23
  refine fm_ca F_u23 (ff_X13_push nn) (nw_sub rfl) ?_; intro u25 F_u25
  refine fm_ca F_u25 (ff_X13_stands nn) (nw_sub rfl) ?_; intro u28 F_u28
  exact fm_ret F_u28
set_option maxRecDepth 4000 in
theorem ff_X13_turn (nn : Nat) {a1 : Int} {a2 : Int} {h : ms_M} : Fm_ (fun c k => nw_F wl_X13_turn wf_X13_turn false false c k = true) h (qf_X13_turn nn a1 a2 h) (fun r => r) := by
  unfold qf_X13_turn
  have F_h : ∀ c k : Nat, (fun c k => nw_F wl_X13_turn wf_X13_turn false false c k = true) c k → h c k = h c k := fun _ _ _ => rfl
  refine fm_xl ?_; intro v2
  refine fm_up F_h (nw_nf rfl) ?_; intro h3 F_h3
  refine fm_if ?_ ?_
  · exact fm_ret F_h3
  · refine fm_ca F_h3 (ff_X13_push nn) (nw_sub rfl) ?_; intro u5 F_u5
    exact fm_ret F_u5
def fgr_X13_work (rc : tq_X13_work) : Prop := (∀ {a1 : Int} {h : ms_M}, Fm_ (fun c k => nw_F wl_X13_work wf_X13_work false false c k = true) h (rc.1 a1 h) (fun r => r)) ∧ (∀ {a1 : Int} {h : ms_M}, Fm_ (fun c k => nw_F wl_X13_workOne wf_X13_workOne false false c k = true) h (rc.2.1 a1 h) (fun r => r)) ∧ (∀ {a1 : Int} {a2 : Int} {a3 : Int} {h : ms_M}, Fm_ (fun c k => nw_F wl_X13_workCall wf_X13_workCall false false c k = true) h (rc.2.2.1 a1 a2 a3 h) (fun r => r)) ∧ (∀ {a1 : Int} {h : ms_M}, Fm_ (fun c k => nw_F wl_X13_workBoth wf_X13_workBoth false false c k = true) h (rc.2.2.2 a1 h) (fun r => r))
set_option maxRecDepth 4000 in
theorem fw_X13_work_50 (nn : Nat) {rc : tq_X13_work} (hr : fgr_X13_work rc) : ∀ (k : Nat) {l2 : Int} {h : ms_M}, Fm_ (fun c k => nw_F wl_X13_work wf_X13_work false false c k = true) h (qw_X13_work_50 nn rc k l2 h) (fun r => r) := by
  intro k
  induction k with
  | zero => intros; exact fm_no
  | succ k ih =>
    intro l2 h
    unfold qw_X13_work_50
    have F_h : ∀ c k : Nat, (fun c k => nw_F wl_X13_work wf_X13_work false false c k = true) c k → h c k = h c k := fun _ _ _ => rfl
    refine fm_if ?_ ?_
    · exact fm_ret F_h
    · refine fm_xl ?_; intro v3
      refine fm_up F_h (nw_nf rfl) ?_; intro h4 F_h4
      refine fm_rd ?_; intro v7
      refine fm_ca F_h4 (hr.2.1) (fun _ _ z => z) ?_; intro u9 F_u9
      exact fm_tl F_u9 (ih ) (fun _ _ z => z)
set_option maxRecDepth 4000 in
theorem fw_X13_work_7 (nn : Nat) {rc : tq_X13_work} (hr : fgr_X13_work rc) : ∀ (k : Nat) {l2 : Int} {l3 : Int} {h : ms_M}, Fm_ (fun c k => nw_F wl_X13_work wf_X13_work false false c k = true) h (qw_X13_work_7 nn rc k l2 l3 h) (fun r => r) := by
  intro k
  induction k with
  | zero => intros; exact fm_no
  | succ k ih =>
    intro l2 l3 h
    unfold qw_X13_work_7
    have F_h : ∀ c k : Nat, (fun c k => nw_F wl_X13_work wf_X13_work false false c k = true) c k → h c k = h c k := fun _ _ _ => rfl
    refine fm_pu ?_; intro u12
    refine fm_if ?_ ?_
    · refine fm_ca F_h (hr.2.1) (fun _ _ z => z) ?_; intro u14 F_u14
      exact fm_tl F_u14 (fw_X13_work_50 nn hr _) (fun _ _ z => z)
    · refine fm_wA F_h (nw_ne rfl) ?_; intro h17 F_h17
      refine fm_xl ?_; intro v19
      refine fm_up F_h17 (nw_nf rfl) ?_; intro h20 F_h20
      refine fm_rd ?_; intro v22
      exact fm_tl F_h20 (ih ) (fun _ _ z => z)
set_option maxRecDepth 4000 in
theorem fo_X13_work (nn : Nat) {rc : tq_X13_work} (hr : fgr_X13_work rc) {a1 : Int} {h : ms_M} : Fm_ (fun c k => nw_F wl_X13_work wf_X13_work false false c k = true) h (qo_X13_work nn rc a1 h) (fun r => r) := by
  unfold qo_X13_work
  have F_h : ∀ c k : Nat, (fun c k => nw_F wl_X13_work wf_X13_work false false c k = true) c k → h c k = h c k := fun _ _ _ => rfl
  exact fm_tl F_h (fw_X13_work_7 nn hr _) (fun _ _ z => z)
set_option maxRecDepth 4000 in
theorem fj_X13_workOne_775 (nn : Nat) {rc : tq_X13_work} (hr : fgr_X13_work rc) {h : ms_M} : Fm_ (fun c k => nw_F wl_X13_workOne wf_X13_workOne false false c k = true) h (qj_X13_workOne_775 nn rc h) (fun r => r) := by
  unfold qj_X13_workOne_775
  have F_h : ∀ c k : Nat, (fun c k => nw_F wl_X13_workOne wf_X13_workOne false false c k = true) c k → h c k = h c k := fun _ _ _ => rfl
  exact fm_ret F_h
set_option maxRecDepth 4000 in
theorem fj_X13_workOne_630 (nn : Nat) {rc : tq_X13_work} (hr : fgr_X13_work rc) {l1 : Int} {l2 : Int} {s0 : Int} {h : ms_M} : Fm_ (fun c k => nw_F wl_X13_workOne wf_X13_workOne false false c k = true) h (qj_X13_workOne_630 nn rc l1 l2 s0 h) (fun r => r) := by
  unfold qj_X13_workOne_630
  have F_h : ∀ c k : Nat, (fun c k => nw_F wl_X13_workOne wf_X13_workOne false false c k = true) c k → h c k = h c k := fun _ _ _ => rfl
  refine fm_ca F_h (ff_X13_put nn) (nw_sub rfl) ?_; intro u2 F_u2
  refine fm_rd ?_; intro v4
  refine fm_ca F_u2 (ff_X13_classConstant nn) (nw_sub rfl) ?_; intro u6 F_u6
  refine fm_ca F_u6 (ff_X13_put nn) (nw_sub rfl) ?_; intro u8 F_u8
  refine fm_ca F_u8 (ff_X13_turn nn) (nw_sub rfl) ?_; intro u10 F_u10
  exact fm_ret F_u10
set_option maxRecDepth 4000 in
theorem fj_X13_workOne_609 (nn : Nat) {rc : tq_X13_work} (hr : fgr_X13_work rc) {l1 : Int} {l2 : Int} {h : ms_M} : Fm_ (fun c k => nw_F wl_X13_workOne wf_X13_workOne false false c k = true) h (qj_X13_workOne_609 nn rc l1 l2 h) (fun r => r) := by
  unfold qj_X13_workOne_609
  have F_h : ∀ c k : Nat, (fun c k => nw_F wl_X13_workOne wf_X13_workOne false false c k = true) c k → h c k = h c k := fun _ _ _ => rfl
  refine fm_rd ?_; intro v12
  refine fm_if ?_ ?_
  · exact fm_tl F_h (fj_X13_workOne_630 nn hr) (fun _ _ z => z)
  · exact fm_tl F_h (fj_X13_workOne_630 nn hr) (fun _ _ z => z)
