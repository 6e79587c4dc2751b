set_option maxRecDepth 4000 in
theorem fj_X12_keep_24 (nn : Nat) {s0 : Int} {h : ms_M} {c : Nat} {s : Nat} : Fm_ (fun c k => nw_F wl_X12_keep wf_X12_keep true true c k = true) h (qj_X12_keep_24 nn s0 h c s) (fun r => r.2.1) := by
  unfold qj_X12_keep_24
  have F_h : ∀ c k : Nat, (fun c k => nw_F wl_X12_keep wf_X12_keep true true c k = true) c k → h c k = h c k := fun _ _ _ => rfl
  refine fm_if ?_ ?_
  · exact fm_ret F_h
  · refine fm_ca F_h (ff_X5_forget nn) (nw_sub rfl) ?_; intro u3 F_u3
    exact fm_ret F_u3
set_option maxRecDepth 4000 in
theorem ff_X12_keep (nn : Nat) {a1 : Int} {h : ms_M} : Fm_ (fun c k => nw_F wl_X12_keep wf_X12_keep true true c k = true) h (qf_X12_keep nn a1 h) (fun r => r.2.1) := by
  unfold qf_X12_keep
  have F_h : ∀ c k : Nat, (fun c k => nw_F wl_X12_keep wf_X12_keep true true c k = true) c k → h c k = h c k := fun _ _ _ => rfl
  refine fm_pu ?_; intro u6
  refine fm_if ?_ ?_
  · exact fm_tl F_h (fj_X12_keep_24 nn) (fun _ _ z => z)
  · refine fm_lnS ?_; intro v10
    refine fm_ca F_h (ff_X7_bring nn) (nw_sub rfl) ?_; intro u12 F_u12
    exact fm_tl F_u12 (fj_X12_keep_24 nn) (fun _ _ z => z)
set_option maxRecDepth 4000 in
theorem ff_X12_load (nn : Nat) {h : ms_M} : Fm_ (fun c k => nw_F wl_X12_load wf_X12_load true true c k = true) h (qf_X12_load nn h) (fun r => r.2.1) := by
  unfold qf_X12_load
  have F_h : ∀ c k : Nat, (fun c k => nw_F wl_X12_load wf_X12_load true true c k = true) c k → h c k = h c k := fun _ _ _ => rfl
  refine fm_ca F_h (ff_X7_bring nn) (nw_sub rfl) ?_; intro u5 F_u5
  refine fm_up F_u5 (nw_nf rfl) ?_; intro h6 F_h6
  refine fm_if ?_ ?_
  · exact fm_ret F_h6
  · refine fm_ca F_h6 (ff_X5_forget nn) (nw_sub rfl) ?_; intro u9 F_u9
    exact fm_ret F_u9
set_option maxRecDepth 4000 in
theorem fj_X7_change_72 (nn : Nat) {l2 : Int} {l5 : Int} {l6 : Int} {h : ms_M} : Fm_ (fun c k => nw_F wl_X7_change wf_X7_change true true c k = true) h (qj_X7_change_72 nn l2 l5 l6 h) (fun r => r.2) := by
  unfold qj_X7_change_72
  have F_h : ∀ c k : Nat, (fun c k => nw_F wl_X7_change wf_X7_change true true c k = true) c k → h c k = h c k := fun _ _ _ => rfl
  refine fm_ck ?_; intro _
  refine fm_wT F_h (fun z => nw_neB z) ?_; intro h2 F_h2
  exact fm_ret F_h2
set_option maxRecDepth 4000 in
theorem ff_X7_change (nn : Nat) {a1 : Int} {a2 : Int} {a3 : Int} {h : ms_M} : Fm_ (fun c k => nw_F wl_X7_change wf_X7_change true true c k = true) h (qf_X7_change nn a1 a2 a3 h) (fun r => r.2) := by
  unfold qf_X7_change
  have F_h : ∀ c k : Nat, (fun c k => nw_F wl_X7_change wf_X7_change true true c k = true) c k → h c k = h c k := fun _ _ _ => rfl
  refine fm_pu ?_; intro u4
  refine fm_if ?_ ?_
  · exact fm_ret F_h
  · refine fm_if ?_ ?_
    · exact fm_ret F_h
    · refine fm_ck ?_; intro hb1
      refine fm_if ?_ ?_
      · refine fm_pu ?_; intro u9
        refine fm_ck ?_; intro _
        refine fm_rdT ?_; intro v11
        refine fm_xl ?_; intro v12
        refine fm_wT F_h (fun z => nw_neB z) ?_; intro h13 F_h13
        refine fm_ck ?_; intro _
        refine fm_ck ?_; intro hb2
        refine fm_ca F_h13 (ff_X3_read nn hb2) (nw_sub rfl) ?_; intro u17 F_u17
        refine fm_if ?_ ?_
        · exact fm_tl F_u17 (fj_X7_change_72 nn) (fun _ _ z => z)
        · refine fm_pu ?_; intro u19
          refine fm_if ?_ ?_
          · refine fm_xl ?_; intro v20
            refine fm_ca F_u17 (ff_X7_swapSpare nn) (nw_sub rfl) ?_; intro u22 F_u22
            refine fm_ca F_u22 (ff_X7_relate nn) (nw_sub rfl) ?_; intro u24 F_u24
            exact fm_ret F_u24
          · exact fm_tl F_u17 (fj_X7_change_72 nn) (fun _ _ z => z)
      · exact fm_ret F_h
set_option maxRecDepth 4000 in
theorem ff_X12_patch (nn : Nat) {a1 : Int} {a2 : Int} {a3 : Int} {h : ms_M} : Fm_ (fun c k => nw_F wl_X12_patch wf_X12_patch true true c k = true) h (qf_X12_patch nn a1 a2 a3 h) (fun r => r.2) := by
  unfold qf_X12_patch
  have F_h : ∀ c k : Nat, (fun c k => nw_F wl_X12_patch wf_X12_patch true true c k = true) c k → h c k = h c k := fun _ _ _ => rfl
  refine fm_ca F_h (ff_X7_change nn) (nw_sub rfl) ?_; intro u3 F_u3
  refine fm_if ?_ ?_
  · refine fm_ck ?_; intro _
    exact fm_ret F_u3
  · refine fm_ca F_u3 (ff_X5_forget nn) (nw_sub rfl) ?_; intro u7 F_u7
    refine fm_ck ?_; intro _
    exact fm_ret F_u7
set_option maxRecDepth 4000 in
theorem fw_J7_fill_fda19_10 (nn : Nat) : ∀ (k : Nat) {l0 : Nat} {l2 : Int} {l3 : Int} {l4 : Int} {h : ms_M}, Fm_ (fun c (_ : Nat) => c ≠ l0) h (qw_J7_fill_fda19_10 nn k l0 l2 l3 l4 h) (fun r => r) := by
  intro k
  induction k with
  | zero => intros; exact fm_no
  | succ k ih =>
    intro l0 l2 l3 l4 h
    unfold qw_J7_fill_fda19_10
    have F_h : ∀ c k : Nat, (fun c (_ : Nat) => c ≠ l0) c k → h c k = h c k := fun _ _ _ => rfl
    have hn : ∀ d i : Nat, (fun c (_ : Nat) => c ≠ l0) d i → d ≠ l0 := fun _ _ z => z
    refine fm_if ?_ ?_
    · exact fm_ret F_h
    · refine fm_wS F_h hn ?_; intro h1 F_h1
      refine fm_xl ?_; intro v2
      exact fm_tl F_h1 (ih ) (fun _ _ z => z)
set_option maxRecDepth 4000 in
theorem ff_J7_fill_fda19 (nn : Nat) {a0 : Nat} {a1 : Int} {a2 : Int} {a3 : Int} {h : ms_M} : Fm_ (fun c (_ : Nat) => c ≠ a0) h (qf_J7_fill_fda19 nn a0 a1 a2 a3 h) (fun r => r) := by
  unfold qf_J7_fill_fda19
  have F_h : ∀ c k : Nat, (fun c (_ : Nat) => c ≠ a0) c k → h c k = h c k := fun _ _ _ => rfl
  have hn : ∀ d i : Nat, (fun c (_ : Nat) => c ≠ a0) d i → d ≠ a0 := fun _ _ z => z
  refine fm_lnS ?_; intro v4
  refine fm_pu ?_; intro u5
  exact fm_tl F_h (fw_J7_fill_fda19_10 nn _) (fun _ _ z => z)
set_option maxRecDepth 4000 in
theorem fj_X5_make_26 (nn : Nat) {h : ms_M} : Fm_ (fun c k => nw_F wl_X5_make wf_X5_make false false c k = true) h (qj_X5_make_26 nn h) (fun r => r.2) := by
  unfold qj_X5_make_26
  have F_h : ∀ c k : Nat, (fun c k => nw_F wl_X5_make wf_X5_make false false c k = true) c k → h c k = h c k := fun _ _ _ => rfl
  refine fm_up F_h (nw_nf rfl) ?_; intro h1 F_h1
  exact fm_ret F_h1
set_option maxRecDepth 4000 in
theorem ff_X5_make (nn : Nat) {a1 : Int} {a2 : Int} {h : ms_M} : Fm_ (fun c k => nw_F wl_X5_make wf_X5_make false false c k = true) h (qf_X5_make nn a1 a2 h) (fun r => r.2) := by
  unfold qf_X5_make
  have F_h : ∀ c k : Nat, (fun c k => nw_F wl_X5_make wf_X5_make false false c k = true) c k → h c k = h c k := fun _ _ _ => rfl
  refine fm_if ?_ ?_
  · exact fm_tl F_h (fj_X5_make_26 nn) (fun _ _ z => z)
  · refine fm_if ?_ ?_
    · exact fm_tl F_h (fj_X5_make_26 nn) (fun _ _ z => z)
    · refine fm_xl ?_; intro v4
      refine fm_if ?_ ?_
      · refine fm_xl ?_; intro v6
        refine fm_up F_h (nw_nf rfl) ?_; intro h7 F_h7
        refine fm_wA F_h7 (nw_ne rfl) ?_; intro h10 F_h10
        refine fm_wA F_h10 (nw_ne rfl) ?_; intro h14 F_h14
        refine fm_xl ?_; intro v18
        refine fm_ca F_h14 (ff_J7_fill_fda19 nn) (nw_ne rfl) ?_; intro u19 F_u19
        refine fm_xl ?_; intro v21
        refine fm_up F_u19 (nw_nf rfl) ?_; intro h22 F_h22
        refine fm_xl ?_; intro v25
        refine fm_wA F_h22 (nw_ne rfl) ?_; intro h27 F_h27
        exact fm_ret F_h27
      · exact fm_tl F_h (fj_X5_make_26 nn) (fun _ _ z => z)
set_option maxRecDepth 4000 in
theorem ff_X5_goOn (nn : Nat) {a1 : Int} {h : ms_M} : Fm_ (fun c k => nw_F wl_X5_goOn wf_X5_goOn false false c k = true) h (qf_X5_goOn nn a1 h) (fun r => r) := by
  unfold qf_X5_goOn
  have F_h : ∀ c k : Nat, (fun c k => nw_F wl_X5_goOn wf_X5_goOn false false c k = true) c k → h c k = h c k := fun _ _ _ => rfl
  refine fm_rd ?_; intro v3
  refine fm_xl ?_; intro v4
  refine fm_wA F_h (nw_ne rfl) ?_; intro h5 F_h5
  exact fm_ret F_h5
set_option maxRecDepth 4000 in
theorem ff_X5_push (nn : Nat) {a1 : Int} {h : ms_M} : Fm_ (fun c k => nw_F wl_X5_push wf_X5_push false false c k = true) h (qf_X5_push nn a1 h) (fun r => r) := by
  unfold qf_X5_push
  have F_h : ∀ c k : Nat, (fun c k => nw_F wl_X5_push wf_X5_push false false c k = true) c k → h c k = h c k := fun _ _ _ => rfl
  refine fm_rd ?_; intro v3
  refine fm_if ?_ ?_
  · refine fm_xl ?_; intro v6
    refine fm_xl ?_; intro v7
    refine fm_wA F_h (nw_ne rfl) ?_; intro h8 F_h8
    refine fm_xl ?_; intro v11
    refine fm_wA F_h8 (nw_ne rfl) ?_; intro h12 F_h12
    exact fm_ret F_h12
  · refine fm_up F_h (nw_nf rfl) ?_; intro h13 F_h13
    exact fm_ret F_h13
set_option maxRecDepth 4000 in
theorem ff_X5_give (nn : Nat) {a1 : Int} {a2 : Int} {h : ms_M} : Fm_ (fun c k => nw_F wl_X5_give wf_X5_give false false c k = true) h (qf_X5_give nn a1 a2 h) (fun r => r) := by
  unfold qf_X5_give
  have F_h : ∀ c k : Nat, (fun c k => nw_F wl_X5_give wf_X5_give false false c k = true) c k → h c k = h c k := fun _ _ _ => rfl
  refine fm_ca F_h (ff_X5_push nn) (nw_sub rfl) ?_; intro u2 F_u2
  refine fm_ca F_u2 (ff_X5_goOn nn) (nw_sub rfl) ?_; intro u4 F_u4
  exact fm_ret F_u4
set_option maxRecDepth 4000 in
theorem ff_X5_pop (nn : Nat) {h : ms_M} : Fm_ (fun c k => nw_F wl_X5_pop wf_X5_pop false false c k = true) h (qf_X5_pop nn h) (fun r => r.2) := by
  unfold qf_X5_pop
  have F_h : ∀ c k : Nat, (fun c k => nw_F wl_X5_pop wf_X5_pop false false c k = true) c k → h c k = h c k := fun _ _ _ => rfl
  refine fm_rd ?_; intro v3
  refine fm_xl ?_; intro v4
  refine fm_if ?_ ?_
  · refine fm_wA F_h (nw_ne rfl) ?_; intro h7 F_h7
    refine fm_xl ?_; intro v10
    refine fm_xl ?_; intro v11
    refine fm_rd ?_; intro v12
    exact fm_ret F_h7
  · refine fm_up F_h (nw_nf rfl) ?_; intro h13 F_h13
    exact fm_ret F_h13
set_option maxRecDepth 4000 in
theorem fj_X5_stepArithmetic_35 (nn : Nat) {l1 : Int} {l2 : Int} {l3 : Int} {h : ms_M} : Fm_ (fun c k => nw_F wl_X5_stepArithmetic wf_X5_stepArithmetic false false c k = true) h (qj_X5_stepArithmetic_35 nn l1 l2 l3 h) (fun r => r) := by
  unfold qj_X5_stepArithmetic_35
  have F_h : ∀ c k : Nat, (fun c k => nw_F wl_X5_stepArithmetic wf_X5_stepArithmetic false false c k = true) c k → h c k = h c k := fun _ _ _ => rfl
  refine fm_pu ?_; intro u1
  refine fm_ca F_h (ff_X5_give nn) (nw_sub rfl) ?_; intro u3 F_u3
  exact fm_ret F_u3
set_option maxRecDepth 4000 in
theorem fj_X5_stepArithmetic_26 (nn : Nat) {h : ms_M} : Fm_ (fun c k => nw_F wl_X5_stepArithmetic wf_X5_stepArithmetic false false c k = true) h (qj_X5_stepArithmetic_26 nn h) (fun r => r) := by
  unfold qj_X5_stepArithmetic_26
  have F_h : ∀ c k : Nat, (fun c k => nw_F wl_X5_stepArithmetic wf_X5_stepArithmetic false false c k = true) c k → h c k = h c k := fun _ _ _ => rfl
  refine fm_up F_h (nw_nf rfl) ?_; intro h4 F_h4
  exact fm_ret F_h4
set_option maxRecDepth 4000 in
theorem ff_X5_stepArithmetic (nn : Nat) {a1 : Int} {h : ms_M} : Fm_ (fun c k => nw_F wl_X5_stepArithmetic wf_X5_stepArithmetic false false c k = true) h (qf_X5_stepArithmetic nn a1 h) (fun r => r) := by
  unfold qf_X5_stepArithmetic
  have F_h : ∀ c k : Nat, (fun c k => nw_F wl_X5_stepArithmetic wf_X5_stepArithmetic false false c k = true) c k → h c k = h c k := fun _ _ _ => rfl
  refine fm_ca F_h (ff_X5_pop nn) (nw_sub rfl) ?_; intro u6 F_u6
  refine fm_ca F_u6 (ff_X5_pop nn) (nw_sub rfl) ?_; intro u8 F_u8
  refine fm_if ?_ ?_
  · exact fm_tl F_u8 (fj_X5_stepArithmetic_35 nn) (fun _ _ z => z)
  · refine fm_if ?_ ?_
    · exact fm_tl F_u8 (fj_X5_stepArithmetic_26 nn) (fun _ _ z => z)
    · refine fm_if ?_ ?_
      · exact fm_tl F_u8 (fj_X5_stepArithmetic_35 nn) (fun _ _ z => z)
      · exact fm_tl F_u8 (fj_X5_stepArithmetic_26 nn) (fun _ _ z => z)
set_option maxRecDepth 4000 in
theorem fj_X5_stepJump_76 (nn : Nat) {l2 : Int} {l3 : Int} {h : ms_M} : Fm_ (fun c k => nw_F wl_X5_stepJump wf_X5_stepJump false false c k = true) h (qj_X5_stepJump_76 nn l2 l3 h) (fun r => r) := by
  unfold qj_X5_stepJump_76
  have F_h : ∀ c k : Nat, (fun c k => nw_F wl_X5_stepJump wf_X5_stepJump false false c k = true) c k → h c k = h c k := fun _ _ _ => rfl
  refine fm_if ?_ ?_
  · refine fm_ca F_h (ff_X5_goOn nn) (nw_sub rfl) ?_; intro u2 F_u2
    exact fm_ret F_u2
  · refine fm_ck ?_; intro _
    refine fm_xl ?_; intro v5
    refine fm_xl ?_; intro v6
    refine fm_ck ?_; intro hb1
    refine fm_pu ?_; intro u8
    refine fm_xl ?_; intro v9
    refine fm_ca F_h (ff_X5_goOn nn) (nw_sub rfl) ?_; intro u11 F_u11
    exact fm_ret F_u11
set_option maxRecDepth 4000 in
theorem fj_X5_stepJump_44 (nn : Nat) {l2 : Int} {s0 : Int} {h : ms_M} : Fm_ (fun c k => nw_F wl_X5_stepJump wf_X5_stepJump false false c k = true) h (qj_X5_stepJump_44 nn l2 s0 h) (fun r => r) := by
  unfold qj_X5_stepJump_44
  have F_h : ∀ c k : Nat, (fun c k => nw_F wl_X5_stepJump wf_X5_stepJump false false c k = true) c k → h c k = h c k := fun _ _ _ => rfl
  exact fm_tl F_h (fj_X5_stepJump_76 nn) (fun _ _ z => z)
set_option maxRecDepth 4000 in
theorem fj_X5_stepJump_21 (nn : Nat) {l2 : Int} {s0 : Int} {h : ms_M} : Fm_ (fun c k => nw_F wl_X5_stepJump wf_X5_stepJump false false c k = true) h (qj_X5_stepJump_21 nn l2 s0 h) (fun r => r) := by
  unfold qj_X5_stepJump_21
  have F_h : ∀ c k : Nat, (fun c k => nw_F wl_X5_stepJump wf_X5_stepJump false false c k = true) c k → h c k = h c k := fun _ _ _ => rfl
  exact fm_tl F_h (fj_X5_stepJump_76 nn) (fun _ _ z => z)
set_option maxRecDepth 4000 in
theorem ff_X5_stepJump (nn : Nat) {a1 : Int} {a2 : Int} {h : ms_M} : Fm_ (fun c k => nw_F wl_X5_stepJump wf_X5_stepJump false false c k = true) h (qf_X5_stepJump nn a1 a2 h) (fun r => r) := by
  unfold qf_X5_stepJump
  have F_h : ∀ c k : Nat, (fun c k => nw_F wl_X5_stepJump wf_X5_stepJump false false c k = true) c k → h c k = h c k := fun _ _ _ => rfl
  refine fm_if ?_ ?_
  · refine fm_if ?_ ?_
    · refine fm_if ?_ ?_
      · exact fm_tl F_h (fj_X5_stepJump_76 nn) (fun _ _ z => z)
      · refine fm_ca F_h (ff_X5_pop nn) (nw_sub rfl) ?_; intro u14 F_u14
        refine fm_ca F_u14 (ff_X5_pop nn) (nw_sub rfl) ?_; intro u16 F_u16
        refine fm_pu ?_; intro u17
        exact fm_tl F_u16 (fj_X5_stepJump_76 nn) (fun _ _ z => z)
    · refine fm_ca F_h (ff_X5_pop nn) (nw_sub rfl) ?_; intro u20 F_u20
      refine fm_if ?_ ?_
      · exact fm_tl F_u20 (fj_X5_stepJump_44 nn) (fun _ _ z => z)
      · exact fm_tl F_u20 (fj_X5_stepJump_44 nn) (fun _ _ z => z)
  · refine fm_ca F_h (ff_X5_pop nn) (nw_sub rfl) ?_; intro u24 F_u24
    refine fm_if ?_ ?_
    · exact fm_tl F_u24 (fj_X5_stepJump_21 nn) (fun _ _ z => z)
    · exact fm_tl F_u24 (fj_X5_stepJump_21 nn) (fun _ _ z => z)
set_option maxRecDepth 4000 in
theorem fj_X5_stepLocal_37 (nn : Nat) {l3 : Int} {h : ms_M} : Fm_ (fun c k => nw_F wl_X5_stepLocal wf_X5_stepLocal false false c k = true) h (qj_X5_stepLocal_37 nn l3 h) (fun r => r) := by
  unfold qj_X5_stepLocal_37
  have F_h : ∀ c k : Nat, (fun c k => nw_F wl_X5_stepLocal wf_X5_stepLocal false false c k = true) c k → h c k = h c k := fun _ _ _ => rfl
  refine fm_rd ?_; intro v2
  refine fm_ca F_h (ff_X5_give nn) (nw_sub rfl) ?_; intro u4 F_u4
  exact fm_ret F_u4
set_option maxRecDepth 4000 in
theorem ff_X5_stepLocal (nn : Nat) {a1 : Int} {a2 : Int} {h : ms_M} : Fm_ (fun c k => nw_F wl_X5_stepLocal wf_X5_stepLocal false false c k = true) h (qf_X5_stepLocal nn a1 a2 h) (fun r => r) := by
  unfold qf_X5_stepLocal
  have F_h : ∀ c k : Nat, (fun c k => nw_F wl_X5_stepLocal wf_X5_stepLocal false false c k = true) c k → h c k = h c k := fun _ _ _ => rfl
  refine fm_xl ?_; intro v6
  refine fm_xl ?_; intro v7
  refine fm_if ?_ ?_
  · refine fm_if ?_ ?_
    · exact fm_tl F_h (fj_X5_stepLocal_37 nn) (fun _ _ z => z)
    · refine fm_if ?_ ?_
      · refine fm_ca F_h (ff_X5_pop nn) (nw_sub rfl) ?_; intro u10 F_u10
        refine fm_wA F_u10 (nw_ne rfl) ?_; intro h11 F_h11
        refine fm_ca F_h11 (ff_X5_goOn nn) (nw_sub rfl) ?_; intro u13 F_u13
        exact fm_ret F_u13
      · exact fm_tl F_h (fj_X5_stepLocal_37 nn) (fun _ _ z => z)
  · refine fm_up F_h (nw_nf rfl) ?_; intro h16 F_h16
    exact fm_ret F_h16
set_option maxRecDepth 4000 in
theorem ff_X5_giveNew (nn : Nat) {a1 : Int} {a2 : Int} {h : ms_M} : Fm_ (fun c k => nw_F wl_X5_giveNew wf_X5_giveNew false false c k = true) h (qf_X5_giveNew nn a1 a2 h) (fun r => r) := by
  unfold qf_X5_giveNew
  have F_h : ∀ c k : Nat, (fun c k => nw_F wl_X5_giveNew wf_X5_giveNew false false c k = true) c k → h c k = h c k := fun _ _ _ => rfl
  refine fm_ca F_h (ff_X5_make nn) (nw_sub rfl) ?_; intro u2 F_u2
  refine fm_if ?_ ?_
  · exact fm_ret F_u2
  · refine fm_ca F_u2 (ff_X5_give nn) (nw_sub rfl) ?_; intro u4 F_u4
    exact fm_ret F_u4
set_option maxRecDepth 4000 in
theorem ff_X5_takeTop (nn : Nat) {h : ms_M} : Fm_ (fun c k => nw_F wl_X5_takeTop wf_X5_takeTop false false c k = true) h (qf_X5_takeTop nn h) (fun r => r) := by
  unfold qf_X5_takeTop
  have F_h : ∀ c k : Nat, (fun c k => nw_F wl_X5_takeTop wf_X5_takeTop false false c k = true) c k → h c k = h c k := fun _ _ _ => rfl
  refine fm_xl ?_; intro v2
  refine fm_xl ?_; intro v3
  refine fm_up F_h (nw_nf rfl) ?_; intro h4 F_h4
  refine fm_rd ?_; intro v8
  refine fm_pu ?_; intro u10
  refine fm_if ?_ ?_
  · refine fm_up F_h4 (nw_nf rfl) ?_; intro h13 F_h13
    exact fm_ret F_h13
  · refine fm_wR F_h4 (nw_nf rfl) ?_; intro h14 F_h14
    refine fm_ck ?_; intro _
    refine fm_rd ?_; intro v18
    refine fm_xl ?_; intro v19
    refine fm_ck ?_; intro hb1
    refine fm_pu ?_; intro u21
    refine fm_up F_h14 (nw_nf rfl) ?_; intro h22 F_h22
    exact fm_ret F_h22
set_option maxRecDepth 4000 in
theorem ff_X5_beginMethod (nn : Nat) {a1 : Int} {a2 : Int} {a3 : Int} {h : ms_M} : Fm_ (fun c k => nw_F wl_X5_beginMethod wf_X5_beginMethod false false c k = true) h (qf_X5_beginMethod nn a1 a2 a3 h) (fun r => r) := by
  unfold qf_X5_beginMethod
  have F_h : ∀ c k : Nat, (fun c k => nw_F wl_X5_beginMethod wf_X5_beginMethod false false c k = true) c k → h c k = h c k := fun _ _ _ => rfl
  refine fm_if ?_ ?_
  · refine fm_xl ?_; intro v3
    refine fm_xl ?_; intro v5
    refine fm_ca F_h (ff_J7_fill_fda19 nn) (nw_ne rfl) ?_; intro u6 F_u6
    refine fm_cp F_u6 (fun _ => nw_ne rfl) ?_; intro h9 F_h9
    refine fm_wA F_h9 (nw_ne rfl) ?_; intro h12 F_h12
    refine fm_wA F_h12 (nw_ne rfl) ?_; intro h15 F_h15
    refine fm_wA F_h15 (nw_ne rfl) ?_; intro h18 F_h18
    refine fm_xl ?_; intro v20
    refine fm_up F_h18 (nw_nf rfl) ?_; intro h21 F_h21
    refine fm_ca F_h21 (ff_X5_takeTop nn) (nw_sub rfl) ?_; intro u23 F_u23
    exact fm_ret F_u23
  · refine fm_up F_h (nw_nf rfl) ?_; intro h24 F_h24
    exact fm_ret F_h24
set_option maxRecDepth 4000 in
theorem fj_X5_stepCall_136 (nn : Nat) {l3 : Int} {l5 : Int} {l6 : Int} {h : ms_M} : Fm_ (fun c k => nw_F wl_X5_stepCall wf_X5_stepCall false false c k = true) h (qj_X5_stepCall_136 nn l3 l5 l6 h) (fun r => r) := by
  unfold qj_X5_stepCall_136
  have F_h : ∀ c k : Nat, (fun c k => nw_F wl_X5_stepCall wf_X5_stepCall false false c k = true) c k → h c k = h c k := fun _ _ _ => rfl
  refine fm_wA F_h (nw_ne rfl) ?_; intro h3 F_h3
  refine fm_xl ?_; intro v5
  refine fm_xl ?_; intro v6
  refine fm_ca F_h3 (ff_X5_beginMethod nn) (nw_sub rfl) ?_; intro u8 F_u8
  exact fm_ret F_u8
set_option maxRecDepth 4000 in
theorem fj_X5_stepCall_51 (nn : Nat) {l1 : Int} {l3 : Int} {s0 : Int} {s1 : Int} {h : ms_M} : Fm_ (fun c k => nw_F wl_X5_stepCall wf_X5_stepCall false false c k = true) h (qj_X5_stepCall_51 nn l1 l3 s0 s1 h) (fun r => r) := by
  unfold qj_X5_stepCall_51
  have F_h : ∀ c k : Nat, (fun c k => nw_F wl_X5_stepCall wf_X5_stepCall false false c k = true) c k → h c k = h c k := fun _ _ _ => rfl
  refine fm_xl ?_; intro v9
  refine fm_rd ?_; intro v12
  refine fm_xl ?_; intro v13
  refine fm_if ?_ ?_
  · refine fm_if ?_ ?_
    · exact fm_tl F_h (fj_X5_stepCall_136 nn) (fun _ _ z => z)
    · refine fm_xl ?_; intro v16
      refine fm_xl ?_; intro v17
      refine fm_rd ?_; intro v18
      refine fm_pu ?_; intro u20
      refine fm_if ?_ ?_
      · refine fm_rd ?_; intro v23
        refine fm_pu ?_; intro u25
        exact fm_tl F_h (fj_X5_stepCall_136 nn) (fun _ _ z => z)
      · refine fm_up F_h (nw_nf rfl) ?_; intro h26 F_h26
        exact fm_ret F_h26
  · refine fm_up F_h (nw_nf rfl) ?_; intro h29 F_h29
    exact fm_ret F_h29
set_option maxRecDepth 4000 in
theorem ff_X5_stepCall (nn : Nat) {a1 : Int} {a2 : Int} {h : ms_M} : Fm_ (fun c k => nw_F wl_X5_stepCall wf_X5_stepCall false false c k = true) h (qf_X5_stepCall nn a1 a2 h) (fun r => r) := by
  unfold qf_X5_stepCall
  have F_h : ∀ c k : Nat, (fun c k => nw_F wl_X5_stepCall wf_X5_stepCall false false c k = true) c k → h c k = h c k := fun _ _ _ => rfl
  refine fm_pu ?_; intro u32
  refine fm_pu ?_; intro u35
  refine fm_if ?_ ?_
  · refine fm_up F_h (nw_nf rfl) ?_; intro h38 F_h38
    exact fm_ret F_h38
  · refine fm_xl ?_; intro v39
    refine fm_ck ?_; intro hb1
    refine fm_pu ?_; intro u41
    refine fm_if ?_ ?_
    · exact fm_tl F_h (fj_X5_stepCall_51 nn) (fun _ _ z => z)
    · exact fm_tl F_h (fj_X5_stepCall_51 nn) (fun _ _ z => z)
set_option maxRecDepth 4000 in
theorem fj_X5_cellOf_39 (nn : Nat) {h : ms_M} : Fm_ (fun c k => nw_F wl_X5_cellOf wf_X5_cellOf false false c k = true) h (qj_X5_cellOf_39 nn h) (fun r => r.2) := by
  unfold qj_X5_cellOf_39
  have F_h : ∀ c k : Nat, (fun c k => nw_F wl_X5_cellOf wf_X5_cellOf false false c k = true) c k → h c k = h c k := fun _ _ _ => rfl
  refine fm_up F_h (nw_nf rfl) ?_; intro h1 F_h1
  exact fm_ret F_h1
set_option maxRecDepth 4000 in
theorem ff_X5_cellOf (nn : Nat) {a1 : Int} {a2 : Int} {h : ms_M} : Fm_ (fun c k => nw_F wl_X5_cellOf wf_X5_cellOf false false c k = true) h (qf_X5_cellOf nn a1 a2 h) (fun r => r.2) := by
  unfold qf_X5_cellOf
  have F_h : ∀ c k : Nat, (fun c k => nw_F wl_X5_cellOf wf_X5_cellOf false false c k = true) c k → h c k = h c k := fun _ _ _ => rfl
  refine fm_pu ?_; intro u3
  refine fm_if ?_ ?_
  · refine fm_if ?_ ?_
    · exact fm_tl F_h (fj_X5_cellOf_39 nn) (fun _ _ z => z)
    · refine fm_xl ?_; intro v5
      refine fm_rd ?_; intro v6
      refine fm_rd ?_; intro v8
      refine fm_xl ?_; intro v9
      refine fm_if ?_ ?_
      · refine fm_rd ?_; intro v11
        refine fm_xl ?_; intro v12
        exact fm_ret F_h
      · exact fm_tl F_h (fj_X5_cellOf_39 nn) (fun _ _ z => z)
  · refine fm_up F_h (nw_nf rfl) ?_; intro h15 F_h15
    exact fm_ret F_h15
set_option maxRecDepth 4000 in
theorem ff_X5_stepElement (nn : Nat) {h : ms_M} : Fm_ (fun c k => nw_F wl_X5_stepElement wf_X5_stepElement false false c k = true) h (qf_X5_stepElement nn h) (fun r => r) := by
  unfold qf_X5_stepElement
  have F_h : ∀ c k : Nat, (fun c k => nw_F wl_X5_stepElement wf_X5_stepElement false false c k = true) c k → h c k = h c k := fun _ _ _ => rfl
  refine fm_ca F_h (ff_X5_pop nn) (nw_sub rfl) ?_; intro u2 F_u2
  refine fm_ca F_u2 (ff_X5_pop nn) (nw_sub rfl) ?_; intro u4 F_u4
  refine fm_ca F_u4 (ff_X5_cellOf nn) (nw_sub rfl) ?_; intro u6 F_u6
  refine fm_if ?_ ?_
  · exact fm_ret F_u6
  · refine fm_if ?_ ?_
    · exact fm_ret F_u6
    · refine fm_rd ?_; intro v8
      refine fm_ca F_u6 (ff_X5_give nn) (nw_sub rfl) ?_; intro u10 F_u10
      exact fm_ret F_u10
set_option maxRecDepth 4000 in
theorem ff_X5_stepField (nn : Nat) {a1 : Int} {h : ms_M} : Fm_ (fun c k => nw_F wl_X5_stepField wf_X5_stepField false false c k = true) h (qf_X5_stepField nn a1 h) (fun r => r) := by
  unfold qf_X5_stepField
  have F_h : ∀ c k : Nat, (fun c k => nw_F wl_X5_stepField wf_X5_stepField false false c k = true) c k → h c k = h c k := fun _ _ _ => rfl
  refine fm_ca F_h (ff_X5_pop nn) (nw_sub rfl) ?_; intro u2 F_u2
  refine fm_pu ?_; intro u4
  refine fm_pu ?_; intro u6
  refine fm_if ?_ ?_
  · refine fm_rd ?_; intro v8
    refine fm_ca F_u2 (ff_X5_give nn) (nw_sub rfl) ?_; intro u10 F_u10
    exact fm_ret F_u10
  · refine fm_up F_u2 (nw_nf rfl) ?_; intro h11 F_h11
    exact fm_ret F_h11
set_option maxRecDepth 4000 in
theorem fj_X5_stepGiveElement_89 (nn : Nat) {l2 : Int} {l5 : Int} {h : ms_M} : Fm_ (fun c k => nw_F wl_X5_stepGiveElement wf_X5_stepGiveElement false false c k = true) h (qj_X5_stepGiveElement_89 nn l2 l5 h) (fun r => r) := by
  unfold qj_X5_stepGiveElement_89
  have F_h : ∀ c k : Nat, (fun c k => nw_F wl_X5_stepGiveElement wf_X5_stepGiveElement false false c k = true) c k → h c k = h c k := fun _ _ _ => rfl
  refine fm_wA F_h (nw_ne rfl) ?_; intro h2 F_h2
  refine fm_ca F_h2 (ff_X5_goOn nn) (nw_sub rfl) ?_; intro u4 F_u4
  exact fm_ret F_u4
set_option maxRecDepth 4000 in
theorem ff_X5_stepGiveElement (nn : Nat) {a1 : Int} {h : ms_M} : Fm_ (fun c k => nw_F wl_X5_stepGiveElement wf_X5_stepGiveElement false false c k = true) h (qf_X5_stepGiveElement nn a1 h) (fun r => r) := by
  unfold qf_X5_stepGiveElement
  have F_h : ∀ c k : Nat, (fun c k => nw_F wl_X5_stepGiveElement wf_X5_stepGiveElement false false c k = true) c k → h c k = h c k := fun _ _ _ => rfl
  refine fm_ca F_h (ff_X5_pop nn) (nw_sub rfl) ?_; intro u6 F_u6
  refine fm_ca F_u6 (ff_X5_pop nn) (nw_sub rfl) ?_; intro u8 F_u8
  refine fm_ca F_u8 (ff_X5_pop nn) (nw_sub rfl) ?_; intro u10 F_u10
  refine fm_ca F_u10 (ff_X5_cellOf nn) (nw_sub rfl) ?_; intro u12 F_u12
  refine fm_if ?_ ?_
  · exact fm_ret F_u12
  · refine fm_if ?_ ?_
    · refine fm_if ?_ ?_
      · exact fm_tl F_u12 (fj_X5_stepGiveElement_89 nn) (fun _ _ z => z)
      · refine fm_pu ?_; intro u14
        refine fm_if ?_ ?_
        · exact fm_tl F_u12 (fj_X5_stepGiveElement_89 nn) (fun _ _ z => z)
        · refine fm_rd ?_; intro v18
          refine fm_rd ?_; intro v20
          refine fm_pu ?_; intro u21
          refine fm_pu ?_; intro u23
          refine fm_if ?_ ?_
          · exact fm_tl F_u12 (fj_X5_stepGiveElement_89 nn) (fun _ _ z => z)
          · refine fm_up F_u12 (nw_nf rfl) ?_; intro h24 F_h24
            exact fm_ret F_h24
    · exact fm_ret F_u12
set_option maxRecDepth 4000 in
theorem ff_X5_stepGiveField (nn : Nat) {a1 : Int} {h : ms_M} : Fm_ (fun c k => nw_F wl_X5_stepGiveField wf_X5_stepGiveField false false c k = true) h (qf_X5_stepGiveField nn a1 h) (fun r => r) := by
  unfold qf_X5_stepGiveField
  have F_h : ∀ c k : Nat, (fun c k => nw_F wl_X5_stepGiveField wf_X5_stepGiveField false false c k = true) c k → h c k = h c k := fun _ _ _ => rfl
  refine fm_ca F_h (ff_X5_pop nn) (nw_sub rfl) ?_; intro u2 F_u2
  refine fm_ca F_u2 (ff_X5_pop nn) (nw_sub rfl) ?_; intro u4 F_u4
  refine fm_pu ?_; intro u6
  refine fm_pu ?_; intro u8
  refine fm_if ?_ ?_
  · refine fm_wA F_u4 (nw_ne rfl) ?_; intro h10 F_h10
    refine fm_ca F_h10 (ff_X5_goOn nn) (nw_sub rfl) ?_; intro u12 F_u12
    exact fm_ret F_u12
  · refine fm_up F_u4 (nw_nf rfl) ?_; intro h13 F_h13
    exact fm_ret F_h13
set_option maxRecDepth 4000 in
theorem fj_X5_stepKin_74 (nn : Nat) {l3 : Int} {h : ms_M} : Fm_ (fun c k => nw_F wl_X5_stepKin wf_X5_stepKin false false c k = true) h (qj_X5_stepKin_74 nn l3 h) (fun r => r) := by
  unfold qj_X5_stepKin_74
  have F_h : ∀ c k : Nat, (fun c k => nw_F wl_X5_stepKin wf_X5_stepKin false false c k = true) c k → h c k = h c k := fun _ _ _ => rfl
  refine fm_ca F_h (ff_X5_give nn) (nw_sub rfl) ?_; intro u2 F_u2
  exact fm_ret F_u2
set_option maxRecDepth 4000 in
theorem fj_X5_stepKin_58 (nn : Nat) {s0 : Int} {h : ms_M} : Fm_ (fun c k => nw_F wl_X5_stepKin wf_X5_stepKin false false c k = true) h (qj_X5_stepKin_58 nn s0 h) (fun r => r) := by
  unfold qj_X5_stepKin_58
  have F_h : ∀ c k : Nat, (fun c k => nw_F wl_X5_stepKin wf_X5_stepKin false false c k = true) c k → h c k = h c k := fun _ _ _ => rfl
  refine fm_ca F_h (ff_X5_give nn) (nw_sub rfl) ?_; intro u4 F_u4
  exact fm_ret F_u4
set_option maxRecDepth 4000 in
theorem fj_X5_stepKin_38 (nn : Nat) {l1 : Int} {l3 : Int} {s0 : Int} {h : ms_M} : Fm_ (fun c k => nw_F wl_X5_stepKin wf_X5_stepKin false false c k = true) h (qj_X5_stepKin_38 nn l1 l3 s0 h) (fun r => r) := by
  unfold qj_X5_stepKin_38
  have F_h : ∀ c k : Nat, (fun c k => nw_F wl_X5_stepKin wf_X5_stepKin false false c k = true) c k → h c k = h c k := fun _ _ _ => rfl
  refine fm_if ?_ ?_
  · refine fm_if ?_ ?_
    · exact fm_tl F_h (fj_X5_stepKin_74 nn) (fun _ _ z => z)
    · refine fm_if ?_ ?_
      · refine fm_up F_h (nw_nf rfl) ?_; intro h5 F_h5
        exact fm_ret F_h5
      · exact fm_tl F_h (fj_X5_stepKin_74 nn) (fun _ _ z => z)
  · refine fm_if ?_ ?_
    · exact fm_tl F_h (fj_X5_stepKin_58 nn) (fun _ _ z => z)
    · exact fm_tl F_h (fj_X5_stepKin_58 nn) (fun _ _ z => z)
set_option maxRecDepth 4000 in
theorem fj_X5_stepKin_37 (nn : Nat) {l1 : Int} {l3 : Int} {h : ms_M} : Fm_ (fun c k => nw_F wl_X5_stepKin wf_X5_stepKin false false c k = true) h (qj_X5_stepKin_37 nn l1 l3 h) (fun r => r) := by
  unfold qj_X5_stepKin_37
  have F_h : ∀ c k : Nat, (fun c k => nw_F wl_X5_stepKin wf_X5_stepKin false false c k = true) c k → h c k = h c k := fun _ _ _ => rfl
  exact fm_tl F_h (fj_X5_stepKin_38 nn) (fun _ _ z => z)
set_option maxRecDepth 4000 in
theorem ff_X5_stepKin (nn : Nat) {a1 : Int} {a2 : Int} {h : ms_M} : Fm_ (fun c k => nw_F wl_X5_stepKin wf_X5_stepKin false false c k = true) h (qf_X5_stepKin nn a1 a2 h) (fun r => r) := by
  unfold qf_X5_stepKin
  have F_h : ∀ c k : Nat, (fun c k => nw_F wl_X5_stepKin wf_X5_stepKin false false c k = true) c k → h c k = h c k := fun _ _ _ => rfl
  refine fm_ca F_h (ff_X5_pop nn) (nw_sub rfl) ?_; intro u11 F_u11
  refine fm_pu ?_; intro u13
  refine fm_if ?_ ?_
  · exact fm_tl F_u11 (fj_X5_stepKin_37 nn) (fun _ _ z => z)
  · refine fm_rd ?_; intro v17
    refine fm_pu ?_; intro u19
    refine fm_if ?_ ?_
    · exact fm_tl F_u11 (fj_X5_stepKin_37 nn) (fun _ _ z => z)
    · exact fm_tl F_u11 (fj_X5_stepKin_38 nn) (fun _ _ z => z)
set_option maxRecDepth 4000 in
theorem ff_X5_stepLength (nn : Nat) {h : ms_M} : Fm_ (fun c k => nw_F wl_X5_stepLength wf_X5_stepLength false false c k = true) h (qf_X5_stepLength nn h) (fun r => r) := by
  unfold qf_X5_stepLength
  have F_h : ∀ c k : Nat, (fun c k => nw_F wl_X5_stepLength wf_X5_stepLength false false c k = true) c k → h c k = h c k := fun _ _ _ => rfl
  refine fm_ca F_h (ff_X5_pop nn) (nw_sub rfl) ?_; intro u2 F_u2
  refine fm_pu ?_; intro u4
  refine fm_if ?_ ?_
  · refine fm_up F_u2 (nw_nf rfl) ?_; intro h5 F_h5
    exact fm_ret F_h5
  · refine fm_xl ?_; intro v7
    refine fm_rd ?_; intro v8
    refine fm_rd ?_; intro v10
    refine fm_xl ?_; intro v11
    refine fm_ca F_u2 (ff_X5_give nn) (nw_sub rfl) ?_; intro u13 F_u13
    exact fm_ret F_u13
set_option maxRecDepth 4000 in
theorem ff_X5_stepNewArray (nn : Nat) {a1 : Int} {h : ms_M} : Fm_ (fun c k => nw_F wl_X5_stepNewArray wf_X5_stepNewArray false false c k = true) h (qf_X5_stepNewArray nn a1 h) (fun r => r) := by
  unfold qf_X5_stepNewArray
  have F_h : ∀ c k : Nat, (fun c k => nw_F wl_X5_stepNewArray wf_X5_stepNewArray false false c k = true) c k → h c k = h c k := fun _ _ _ => rfl
  refine fm_ca F_h (ff_X5_pop nn) (nw_sub rfl) ?_; intro u2 F_u2
  refine fm_if ?_ ?_
  · refine fm_ca F_u2 (ff_X5_giveNew nn) (nw_sub rfl) ?_; intro u4 F_u4
    exact fm_ret F_u4
  · refine fm_up F_u2 (nw_nf rfl) ?_; intro h5 F_h5
    exact fm_ret F_h5
set_option maxRecDepth 4000 in
theorem fj_X5_stepPrint_25 (nn : Nat) {h : ms_M} : Fm_ (fun c k => nw_F wl_X5_stepPrint wf_X5_stepPrint false false c k = true) h (qj_X5_stepPrint_25 nn h) (fun r => r) := by
  unfold qj_X5_stepPrint_25
  have F_h : ∀ c k : Nat, (fun c k => nw_F wl_X5_stepPrint wf_X5_stepPrint false false c k = true) c k → h c k = h c k := fun _ _ _ => rfl
  refine fm_xl ?_; intro v2
  refine fm_up F_h (nw_nf rfl) ?_; intro h3 F_h3
  refine fm_ca F_h3 (ff_X5_goOn nn) (nw_sub rfl) ?_; intro u5 F_u5
  exact fm_ret F_u5
set_option maxRecDepth 4000 in
theorem ff_X5_stepPrint (nn : Nat) {h : ms_M} : Fm_ (fun c k => nw_F wl_X5_stepPrint wf_X5_stepPrint false false c k = true) h (qf_X5_stepPrint nn h) (fun r => r) := by
  unfold qf_X5_stepPrint
  have F_h : ∀ c k : Nat, (fun c k => nw_F wl_X5_stepPrint wf_X5_stepPrint false false c k = true) c k → h c k = h c k := fun _ _ _ => rfl
  refine fm_ca F_h (ff_X5_pop nn) (nw_sub rfl) ?_; intro u7 F_u7
  refine fm_if ?_ ?_
  · exact fm_tl F_u7 (fj_X5_stepPrint_25 nn) (fun _ _ z => z)
  · refine fm_wA F_u7 (nw_ne rfl) ?_; intro h11 F_h11
    exact fm_tl F_h11 (fj_X5_stepPrint_25 nn) (fun _ _ z => z)
set_option maxRecDepth 4000 in
theorem fj_X5_stepReturn_15 (nn : Nat) {l1 : Int} {s0 : Int} {h : ms_M} : Fm_ (fun c k => nw_F wl_X5_stepReturn wf_X5_stepReturn false false c k = true) h (qj_X5_stepReturn_15 nn l1 s0 h) (fun r => r) := by
  unfold qj_X5_stepReturn_15
  have F_h : ∀ c k : Nat, (fun c k => nw_F wl_X5_stepReturn wf_X5_stepReturn false false c k = true) c k → h c k = h c k := fun _ _ _ => rfl
  refine fm_xl ?_; intro v2
  refine fm_up F_h (nw_nf rfl) ?_; intro h3 F_h3
  refine fm_if ?_ ?_
  · refine fm_up F_h3 (nw_nf rfl) ?_; intro h5 F_h5
    refine fm_if ?_ ?_
    · refine fm_pu ?_; intro u7
      refine fm_if ?_ ?_
      · refine fm_up F_h5 (nw_nf rfl) ?_; intro h8 F_h8
        exact fm_ret F_h8
      · refine fm_rd ?_; intro v10
        refine fm_up F_h5 (nw_nf rfl) ?_; intro h11 F_h11
        exact fm_ret F_h11
    · refine fm_up F_h5 (nw_nf rfl) ?_; intro h13 F_h13
      exact fm_ret F_h13
  · refine fm_ca F_h3 (ff_X5_takeTop nn) (nw_sub rfl) ?_; intro u16 F_u16
    refine fm_ca F_u16 (ff_X5_goOn nn) (nw_sub rfl) ?_; intro u18 F_u18
    refine fm_if ?_ ?_
    · exact fm_ret F_u18
    · refine fm_ca F_u18 (ff_X5_push nn) (nw_sub rfl) ?_; intro u20 F_u20
      exact fm_ret F_u20
set_option maxRecDepth 4000 in
theorem ff_X5_stepReturn (nn : Nat) {a1 : Int} {h : ms_M} : Fm_ (fun c k => nw_F wl_X5_stepReturn wf_X5_stepReturn false false c k = true) h (qf_X5_stepReturn nn a1 h) (fun r => r) := by
  unfold qf_X5_stepReturn
  have F_h : ∀ c k : Nat, (fun c k => nw_F wl_X5_stepReturn wf_X5_stepReturn false false c k = true) c k → h c k = h c k := fun _ _ _ => rfl
  refine fm_if ?_ ?_
  · refine fm_ca F_h (ff_X5_pop nn) (nw_sub rfl) ?_; intro u24 F_u24
    exact fm_tl F_u24 (fj_X5_stepReturn_15 nn) (fun _ _ z => z)
  · exact fm_tl F_h (fj_X5_stepReturn_15 nn) (fun _ _ z => z)
set_option maxRecDepth 4000 in
theorem ff_X5_stepThrow (nn : Nat) {h : ms_M} : Fm_ (fun c k => nw_F wl_X5_stepThrow wf_X5_stepThrow false false c k = true) h (qf_X5_stepThrow nn h) (fun r => r) := by
  unfold qf_X5_stepThrow
  have F_h : ∀ c k : Nat, (fun c k => nw_F wl_X5_stepThrow wf_X5_stepThrow false false c k = true) c k → h c k = h c k := fun _ _ _ => rfl
  refine fm_ca F_h (ff_X5_pop nn) (nw_sub rfl) ?_; intro u2 F_u2
  refine fm_if ?_ ?_
  · refine fm_up F_u2 (nw_nf rfl) ?_; intro h3 F_h3
    exact fm_ret F_h3
  · refine fm_up F_u2 (nw_nf rfl) ?_; intro h4 F_h4
    exact fm_ret F_h4
set_option maxRecDepth 4000 in
theorem fj_X5_stepObject_285 (nn : Nat) {l1 : Int} {l2 : Int} {h : ms_M} : Fm_ (fun c k => nw_F wl_X5_stepObject wf_X5_stepObject false false c k = true) h (qj_X5_stepObject_285 nn l1 l2 h) (fun r => r) := by
  unfold qj_X5_stepObject_285
  have F_h : ∀ c k : Nat, (fun c k => nw_F wl_X5_stepObject wf_X5_stepObject false false c k = true) c k → h c k = h c k := fun _ _ _ => rfl
  refine fm_pu ?_; intro u2
  refine fm_ca F_h (ff_X5_stepKin nn) (nw_sub rfl) ?_; intro u4 F_u4
  exact fm_ret F_u4
set_option maxRecDepth 4000 in
theorem fj_X5_stepObject_243 (nn : Nat) {l1 : Int} {l2 : Int} {h : ms_M} : Fm_ (fun c k => nw_F wl_X5_stepObject wf_X5_stepObject false false c k = true) h (qj_X5_stepObject_243 nn l1 l2 h) (fun r => r) := by
  unfold qj_X5_stepObject_243
  have F_h : ∀ c k : Nat, (fun c k => nw_F wl_X5_stepObject wf_X5_stepObject false false c k = true) c k → h c k = h c k := fun _ _ _ => rfl
  refine fm_if ?_ ?_
  · refine fm_pu ?_; intro u6
    refine fm_xl ?_; intro v7
    refine fm_ca F_h (ff_X5_stepNewArray nn) (nw_sub rfl) ?_; intro u9 F_u9
    exact fm_ret F_u9
  · refine fm_ca F_h (ff_X5_stepNewArray nn) (nw_sub rfl) ?_; intro u11 F_u11
    exact fm_ret F_u11
set_option maxRecDepth 4000 in
theorem fj_X5_stepObject_203 (nn : Nat) {l1 : Int} {l2 : Int} {h : ms_M} : Fm_ (fun c k => nw_F wl_X5_stepObject wf_X5_stepObject false false c k = true) h (qj_X5_stepObject_203 nn l1 l2 h) (fun r => r) := by
  unfold qj_X5_stepObject_203
  have F_h : ∀ c k : Nat, (fun c k => nw_F wl_X5_stepObject wf_X5_stepObject false false c k = true) c k → h c k = h c k := fun _ _ _ => rfl
  refine fm_ca F_h (ff_X5_stepCall nn) (nw_sub rfl) ?_; intro u14 F_u14
  exact fm_ret F_u14
set_option maxRecDepth 4000 in
theorem fj_X5_stepObject_179 (nn : Nat) {l1 : Int} {h : ms_M} : Fm_ (fun c k => nw_F wl_X5_stepObject wf_X5_stepObject false false c k = true) h (qj_X5_stepObject_179 nn l1 h) (fun r => r) := by
  unfold qj_X5_stepObject_179
  have F_h : ∀ c k : Nat, (fun c k => nw_F wl_X5_stepObject wf_X5_stepObject false false c k = true) c k → h c k = h c k := fun _ _ _ => rfl
  refine fm_ca F_h (ff_X5_stepReturn nn) (nw_sub rfl) ?_; intro u16 F_u16
  exact fm_ret F_u16
set_option maxRecDepth 4000 in
theorem fj_X5_stepObject_171 (nn : Nat) {l1 : Int} {h : ms_M} : Fm_ (fun c k => nw_F wl_X5_stepObject wf_X5_stepObject false false c k = true) h (qj_X5_stepObject_171 nn l1 h) (fun r => r) := by
  unfold qj_X5_stepObject_171
  have F_h : ∀ c k : Nat, (fun c k => nw_F wl_X5_stepObject wf_X5_stepObject false false c k = true) c k → h c k = h c k := fun _ _ _ => rfl
  refine fm_ca F_h (ff_X5_stepGiveElement nn) (nw_sub rfl) ?_; intro u18 F_u18
  exact fm_ret F_u18
set_option maxRecDepth 4000 in
theorem fj_X5_stepObject_164 (nn : Nat) {h : ms_M} : Fm_ (fun c k => nw_F wl_X5_stepObject wf_X5_stepObject false false c k = true) h (qj_X5_stepObject_164 nn h) (fun r => r) := by
  unfold qj_X5_stepObject_164
  have F_h : ∀ c k : Nat, (fun c k => nw_F wl_X5_stepObject wf_X5_stepObject false false c k = true) c k → h c k = h c k := fun _ _ _ => rfl
  refine fm_ca F_h (ff_X5_stepElement nn) (nw_sub rfl) ?_; intro u20 F_u20
  exact fm_ret F_u20
set_option maxRecDepth 4000 in
theorem ff_X5_stepObject (nn : Nat) {a1 : Int} {a2 : Int} {h : ms_M} : Fm_ (fun c k => nw_F wl_X5_stepObject wf_X5_stepObject false false c k = true) h (qf_X5_stepObject nn a1 a2 h) (fun r => r) := by
  unfold qf_X5_stepObject
  have F_h : ∀ c k : Nat, (fun c k => nw_F wl_X5_stepObject wf_X5_stepObject false false c k = true) c k → h c k = h c k := fun _ _ _ => rfl
  refine fm_if ?_ ?_
  · exact fm_tl F_h (fj_X5_stepObject_164 nn) (fun _ _ z => z)
  · refine fm_if ?_ ?_
    · exact fm_tl F_h (fj_X5_stepObject_164 nn) (fun _ _ z => z)
    · refine fm_if ?_ ?_
      · exact fm_tl F_h (fj_X5_stepObject_171 nn) (fun _ _ z => z)
      · refine fm_if ?_ ?_
        · exact fm_tl F_h (fj_X5_stepObject_171 nn) (fun _ _ z => z)
        · refine fm_if ?_ ?_
          · exact fm_tl F_h (fj_X5_stepObject_179 nn) (fun _ _ z => z)
          · refine fm_if ?_ ?_
            · exact fm_tl F_h (fj_X5_stepObject_179 nn) (fun _ _ z => z)
            · refine fm_if ?_ ?_
              · exact fm_tl F_h (fj_X5_stepObject_179 nn) (fun _ _ z => z)
              · refine fm_if ?_ ?_
                · refine fm_ca F_h (ff_X5_stepField nn) (nw_sub rfl) ?_; intro u23 F_u23
                  exact fm_ret F_u23
                · refine fm_if ?_ ?_
                  · refine fm_ca F_h (ff_X5_stepGiveField nn) (nw_sub rfl) ?_; intro u25 F_u25
                    exact fm_ret F_u25
                  · refine fm_if ?_ ?_
                    · exact fm_tl F_h (fj_X5_stepObject_203 nn) (fun _ _ z => z)
                    · refine fm_if ?_ ?_
                      · exact fm_tl F_h (fj_X5_stepObject_203 nn) (fun _ _ z => z)
                      · refine fm_if ?_ ?_
                        · refine fm_ca F_h (ff_X5_stepPrint nn) (nw_sub rfl) ?_; intro u27 F_u27
                          exact fm_ret F_u27
                        · refine fm_if ?_ ?_
                          · refine fm_pu ?_; intro u29
                            refine fm_pu ?_; intro u32
                            refine fm_pu ?_; intro u34
                            refine fm_ca F_h (ff_X5_giveNew nn) (nw_sub rfl) ?_; intro u36 F_u36
                            exact fm_ret F_u36
                          · refine fm_if ?_ ?_
                            · exact fm_tl F_h (fj_X5_stepObject_243 nn) (fun _ _ z => z)
                            · refine fm_if ?_ ?_
                              · exact fm_tl F_h (fj_X5_stepObject_243 nn) (fun _ _ z => z)
                              · refine fm_if ?_ ?_
                                · refine fm_ca F_h (ff_X5_stepLength nn) (nw_sub rfl) ?_; intro u38 F_u38
                                  exact fm_ret F_u38
                                · refine fm_if ?_ ?_
                                  · refine fm_ca F_h (ff_X5_stepThrow nn) (nw_sub rfl) ?_; intro u40 F_u40
                                    exact fm_ret F_u40
                                  · refine fm_if ?_ ?_
                                    · exact fm_tl F_h (fj_X5_stepObject_285 nn) (fun _ _ z => z)
                                    · refine fm_if ?_ ?_
                                      · exact fm_tl F_h (fj_X5_stepObject_285 nn) (fun _ _ z => z)
                                      · refine fm_up F_h (nw_nf rfl) ?_; intro h21 F_h21
                                        exact fm_ret F_h21
set_option maxRecDepth 4000 in
theorem fj_X5_step_247 (nn : Nat) {l2 : Int} {l3 : Int} {h : ms_M} : Fm_ (fun c k => nw_F wl_X5_step wf_X5_step false false c k = true) h (qj_X5_step_247 nn l2 l3 h) (fun r => r) := by
  unfold qj_X5_step_247
  have F_h : ∀ c k : Nat, (fun c k => nw_F wl_X5_step wf_X5_step false false c k = true) c k → h c k = h c k := fun _ _ _ => rfl
  refine fm_ca F_h (ff_X5_stepLocal nn) (nw_sub rfl) ?_; intro u2 F_u2
  exact fm_ret F_u2
set_option maxRecDepth 4000 in
theorem fj_X5_step_213 (nn : Nat) {l2 : Int} {h : ms_M} : Fm_ (fun c k => nw_F wl_X5_step wf_X5_step false false c k = true) h (qj_X5_step_213 nn l2 h) (fun r => r) := by
  unfold qj_X5_step_213
  have F_h : ∀ c k : Nat, (fun c k => nw_F wl_X5_step wf_X5_step false false c k = true) c k → h c k = h c k := fun _ _ _ => rfl
  refine fm_xl ?_; intro v3
  refine fm_ca F_h (ff_X5_give nn) (nw_sub rfl) ?_; intro u5 F_u5
  exact fm_ret F_u5
set_option maxRecDepth 4000 in
theorem ff_X5_step (nn : Nat) {h : ms_M} : Fm_ (fun c k => nw_F wl_X5_step wf_X5_step false false c k = true) h (qf_X5_step nn h) (fun r => r) := by
  unfold qf_X5_step
  have F_h : ∀ c k : Nat, (fun c k => nw_F wl_X5_step wf_X5_step false false c k = true) c k → h c k = h c k := fun _ _ _ => rfl
  refine fm_rd ?_; intro v8
  refine fm_ck ?_; intro _
  refine fm_xl ?_; intro v11
  refine fm_ck ?_; intro hb1
  refine fm_pu ?_; intro u13
  refine fm_ck ?_; intro _
  refine fm_xl ?_; intro v16
  refine fm_xl ?_; intro v17
  refine fm_pu ?_; intro u19
  refine fm_if ?_ ?_
  · refine fm_ca F_h (ff_X5_goOn nn) (nw_sub rfl) ?_; intro u31 F_u31
    exact fm_ret F_u31
  · refine fm_if ?_ ?_
    · refine fm_ca F_h (ff_X5_give nn) (nw_sub rfl) ?_; intro u33 F_u33
      exact fm_ret F_u33
    · refine fm_if ?_ ?_
      · exact fm_tl F_h (fj_X5_step_213 nn) (fun _ _ z => z)
      · refine fm_if ?_ ?_
        · exact fm_tl F_h (fj_X5_step_213 nn) (fun _ _ z => z)
        · refine fm_if ?_ ?_
          · exact fm_tl F_h (fj_X5_step_213 nn) (fun _ _ z => z)
          · refine fm_if ?_ ?_
            · exact fm_tl F_h (fj_X5_step_213 nn) (fun _ _ z => z)
            · refine fm_if ?_ ?_
              · exact fm_tl F_h (fj_X5_step_213 nn) (fun _ _ z => z)
              · refine fm_if ?_ ?_
                · exact fm_tl F_h (fj_X5_step_213 nn) (fun _ _ z => z)
                · refine fm_if ?_ ?_
                  · exact fm_tl F_h (fj_X5_step_213 nn) (fun _ _ z => z)
                  · refine fm_if ?_ ?_
                    · refine fm_xl ?_; intro v34
                      refine fm_ca F_h (ff_X5_give nn) (nw_sub rfl) ?_; intro u36 F_u36
                      exact fm_ret F_u36
                    · refine fm_if ?_ ?_
                      · refine fm_pu ?_; intro u38
                        refine fm_ca F_h (ff_X5_give nn) (nw_sub rfl) ?_; intro u40 F_u40
                        exact fm_ret F_u40
                      · refine fm_if ?_ ?_
                        · exact fm_tl F_h (fj_X5_step_247 nn) (fun _ _ z => z)
                        · refine fm_if ?_ ?_
                          · exact fm_tl F_h (fj_X5_step_247 nn) (fun _ _ z => z)
                          · refine fm_if ?_ ?_
                            · exact fm_tl F_h (fj_X5_step_247 nn) (fun _ _ z => z)
                            · refine fm_if ?_ ?_
                              · exact fm_tl F_h (fj_X5_step_247 nn) (fun _ _ z => z)
                              · refine fm_if ?_ ?_
                                · refine fm_ca F_h (ff_X5_pop nn) (nw_sub rfl) ?_; intro u42 F_u42
                                  refine fm_ca F_u42 (ff_X5_goOn nn) (nw_sub rfl) ?_; intro u44 F_u44
                                  exact fm_ret F_u44
                                · refine fm_if ?_ ?_
                                  · refine fm_ca F_h (ff_X5_pop nn) (nw_sub rfl) ?_; intro u46 F_u46
                                    refine fm_ca F_u46 (ff_X5_push nn) (nw_sub rfl) ?_; intro u48 F_u48
                                    refine fm_ca F_u48 (ff_X5_give nn) (nw_sub rfl) ?_; intro u50 F_u50
                                    exact fm_ret F_u50
                                  · refine fm_if ?_ ?_
                                    · refine fm_ca F_h (ff_X5_pop nn) (nw_sub rfl) ?_; intro u52 F_u52
                                      refine fm_xl ?_; intro v53
                                      refine fm_ca F_u52 (ff_X5_give nn) (nw_sub rfl) ?_; intro u55 F_u55
                                      exact fm_ret F_u55
                                    · refine fm_pu ?_; intro u20
                                      refine fm_if ?_ ?_
                                      · refine fm_pu ?_; intro u21
                                        refine fm_if ?_ ?_
                                        · refine fm_ca F_h (ff_X5_stepObject nn) (nw_sub rfl) ?_; intro u23 F_u23
                                          exact fm_ret F_u23
                                        · refine fm_ca F_h (ff_X5_stepArithmetic nn) (nw_sub rfl) ?_; intro u25 F_u25
                                          exact fm_ret F_u25
                                      · refine fm_ca F_h (ff_X5_stepJump nn) (nw_sub rfl) ?_; intro u28 F_u28
                                        exact fm_ret F_u28
set_option maxRecDepth 4000 in
theorem fj_X5_isCaught_89 (nn : Nat) {qkk_27 : Int → Int → Int → Int → ms_M → Option (Int × ms_M)} (hk_kk_27 : ∀ {l1 : Int} {l2 : Int} {l3 : Int} {l4 : Int} {h : ms_M}, Fm_ (fun c k => nw_F wl_X5_isCaught wf_X5_isCaught false false c k = true) h (qkk_27 l1 l2 l3 l4 h) (fun r => r.2)) {l1 : Int} {l2 : Int} {l3 : Int} {l4 : Int} {s0 : Int} {h : ms_M} : Fm_ (fun c k => nw_F wl_X5_isCaught wf_X5_isCaught false false c k = true) h (qj_X5_isCaught_89 nn qkk_27 l1 l2 l3 l4 s0 h) (fun r => r.2) := by
  unfold qj_X5_isCaught_89
  have F_h : ∀ c k : Nat, (fun c k => nw_F wl_X5_isCaught wf_X5_isCaught false false c k = true) c k → h c k = h c k := fun _ _ _ => rfl
  refine fm_if ?_ ?_
  · refine fm_xl ?_; intro v1
    refine fm_xl ?_; intro v2
    exact fm_tl F_h (hk_kk_27) (fun _ _ z => z)
  · refine fm_rd ?_; intro v6
    refine fm_ck ?_; intro _
    refine fm_xl ?_; intro v8
    refine fm_ck ?_; intro hb1
    refine fm_pu ?_; intro u10
    refine fm_pu ?_; intro u12
    refine fm_pu ?_; intro u14
    refine fm_if ?_ ?_
    · refine fm_xl ?_; intro v15
      refine fm_xl ?_; intro v16
      exact fm_tl F_h (hk_kk_27) (fun _ _ z => z)
    · refine fm_wA F_h (nw_ne rfl) ?_; intro h19 F_h19
      refine fm_ck ?_; intro _
      refine fm_xl ?_; intro v21
      refine fm_ck ?_; intro hb2
      refine fm_pu ?_; intro u23
      refine fm_rd ?_; intro v26
      refine fm_xl ?_; intro v27
      refine fm_ca F_h19 (ff_X5_give nn) (nw_sub rfl) ?_; intro u29 F_u29
      exact fm_ret F_u29
set_option maxRecDepth 4000 in
theorem fj_X5_isCaught_88 (nn : Nat) {qkk_27 : Int → Int → Int → Int → ms_M → Option (Int × ms_M)} (hk_kk_27 : ∀ {l1 : Int} {l2 : Int} {l3 : Int} {l4 : Int} {h : ms_M}, Fm_ (fun c k => nw_F wl_X5_isCaught wf_X5_isCaught false false c k = true) h (qkk_27 l1 l2 l3 l4 h) (fun r => r.2)) {l1 : Int} {l2 : Int} {l3 : Int} {l4 : Int} {h : ms_M} : Fm_ (fun c k => nw_F wl_X5_isCaught wf_X5_isCaught false false c k = true) h (qj_X5_isCaught_88 nn qkk_27 l1 l2 l3 l4 h) (fun r => r.2) := by
  unfold qj_X5_isCaught_88
  have F_h : ∀ c k : Nat, (fun c k => nw_F wl_X5_isCaught wf_X5_isCaught false false c k = true) c k → h c k = h c k := fun _ _ _ => rfl
  exact fm_tl F_h (fj_X5_isCaught_89 nn hk_kk_27) (fun _ _ z => z)
set_option maxRecDepth 4000 in
theorem fw_X5_isCaught_27 (nn : Nat) : ∀ (k : Nat) {l1 : Int} {l2 : Int} {l3 : Int} {l4 : Int} {h : ms_M}, Fm_ (fun c k => nw_F wl_X5_isCaught wf_X5_isCaught false false c k = true) h (qw_X5_isCaught_27 nn k l1 l2 l3 l4 h) (fun r => r.2) := by
  intro k
  induction k with
  | zero => intros; exact fm_no
  | succ k ih =>
    intro l1 l2 l3 l4 h
    unfold qw_X5_isCaught_27
    have F_h : ∀ c k : Nat, (fun c k => nw_F wl_X5_isCaught wf_X5_isCaught false false c k = true) c k → h c k = h c k := fun _ _ _ => rfl
    refine fm_ck ?_; intro _
    refine fm_ck ?_; intro hb1
    refine fm_pu ?_; intro u34
    refine fm_if ?_ ?_
    · exact fm_ret F_h
    · refine fm_rd ?_; intro v37
      refine fm_ck ?_; intro _
      refine fm_pu ?_; intro u40
      refine fm_if ?_ ?_
      · exact fm_tl F_h (fj_X5_isCaught_88 nn ih) (fun _ _ z => z)
      · refine fm_rd ?_; intro v43
        refine fm_ck ?_; intro _
        refine fm_xl ?_; intro v45
        refine fm_pu ?_; intro u47
        refine fm_if ?_ ?_
        · exact fm_tl F_h (fj_X5_isCaught_88 nn ih) (fun _ _ z => z)
        · exact fm_tl F_h (fj_X5_isCaught_89 nn ih) (fun _ _ z => z)
set_option maxRecDepth 4000 in
theorem ff_X5_isCaught (nn : Nat) {a1 : Int} {h : ms_M} : Fm_ (fun c k => nw_F wl_X5_isCaught wf_X5_isCaught false false c k = true) h (qf_X5_isCaught nn a1 h) (fun r => r.2) := by
  unfold qf_X5_isCaught
  have F_h : ∀ c k : Nat, (fun c k => nw_F wl_X5_isCaught wf_X5_isCaught false false c k = true) c k → h c k = h c k := fun _ _ _ => rfl
  refine fm_rd ?_; intro v53
  refine fm_xl ?_; intro v54
  refine fm_ck ?_; intro _
  refine fm_ck ?_; intro hb1
  refine fm_pu ?_; intro u57
  exact fm_tl F_h (fw_X5_isCaught_27 nn _) (fun _ _ z => z)
set_option maxRecDepth 4000 in
theorem fj_X5_throwUp_59 (nn : Nat) {l1 : Int} {h : ms_M} : Fm_ (fun c k => nw_F wl_X5_throwUp wf_X5_throwUp false false c k = true) h (qj_X5_throwUp_59 nn l1 h) (fun r => r) := by
  unfold qj_X5_throwUp_59
  have F_h : ∀ c k : Nat, (fun c k => nw_F wl_X5_throwUp wf_X5_throwUp false false c k = true) c k → h c k = h c k := fun _ _ _ => rfl
  refine fm_up F_h (nw_nf rfl) ?_; intro h1 F_h1
  refine fm_rd ?_; intro v3
  refine fm_up F_h1 (nw_nf rfl) ?_; intro h4 F_h4
  exact fm_ret F_h4
set_option maxRecDepth 4000 in
theorem fw_X5_throwUp_17 (nn : Nat) : ∀ (k : Nat) {l1 : Int} {l2 : Int} {h : ms_M}, Fm_ (fun c k => nw_F wl_X5_throwUp wf_X5_throwUp false false c k = true) h (qw_X5_throwUp_17 nn k l1 l2 h) (fun r => r) := by
  intro k
  induction k with
  | zero => intros; exact fm_no
  | succ k ih =>
    intro l1 l2 h
    unfold qw_X5_throwUp_17
    have F_h : ∀ c k : Nat, (fun c k => nw_F wl_X5_throwUp wf_X5_throwUp false false c k = true) c k → h c k = h c k := fun _ _ _ => rfl
    refine fm_if ?_ ?_
    · exact fm_tl F_h (fj_X5_throwUp_59 nn) (fun _ _ z => z)
    · refine fm_if ?_ ?_
      · exact fm_tl F_h (fj_X5_throwUp_59 nn) (fun _ _ z => z)
      · refine fm_ca F_h (ff_X5_takeTop nn) (nw_sub rfl) ?_; intro u7 F_u7
        refine fm_ca F_u7 (ff_X5_isCaught nn) (nw_sub rfl) ?_; intro u9 F_u9
        refine fm_if ?_ ?_
        · refine fm_xl ?_; intro v11
          refine fm_up F_u9 (nw_nf rfl) ?_; intro h12 F_h12
          refine fm_xl ?_; intro v13
          exact fm_tl F_h12 (ih ) (fun _ _ z => z)
        · exact fm_ret F_u9
set_option maxRecDepth 4000 in
theorem ff_X5_throwUp (nn : Nat) {a1 : Int} {h : ms_M} : Fm_ (fun c k => nw_F wl_X5_throwUp wf_X5_throwUp false false c k = true) h (qf_X5_throwUp nn a1 h) (fun r => r) := by
  unfold qf_X5_throwUp
  have F_h : ∀ c k : Nat, (fun c k => nw_F wl_X5_throwUp wf_X5_throwUp false false c k = true) c k → h c k = h c k := fun _ _ _ => rfl
  refine fm_pu ?_; intro u18
  refine fm_if ?_ ?_
  · exact fm_tl F_h (fw_X5_throwUp_17 nn _) (fun _ _ z => z)
  · refine fm_up F_h (nw_nf rfl) ?_; intro h19 F_h19
    exact fm_ret F_h19
set_option maxRecDepth 4000 in
theorem fj_X5_go_66 (nn : Nat) {l2 : Int} {h : ms_M} : Fm_ (fun c k => nw_F wl_X5_go wf_X5_go false false c k = true) h (qj_X5_go_66 nn l2 h) (fun r => r.2) := by
  unfold qj_X5_go_66
  have F_h : ∀ c k : Nat, (fun c k => nw_F wl_X5_go wf_X5_go false false c k = true) c k → h c k = h c k := fun _ _ _ => rfl
  refine fm_xl ?_; intro v2
  refine fm_up F_h (nw_nf rfl) ?_; intro h3 F_h3
  exact fm_ret F_h3
set_option maxRecDepth 4000 in
theorem fj_X5_go_55 (nn : Nat) {qkk_2 : Int → Int → ms_M → Option (Int × ms_M)} (hk_kk_2 : ∀ {l1 : Int} {l2 : Int} {h : ms_M}, Fm_ (fun c k => nw_F wl_X5_go wf_X5_go false false c k = true) h (qkk_2 l1 l2 h) (fun r => r.2)) {l1 : Int} {l2 : Int} {h : ms_M} : Fm_ (fun c k => nw_F wl_X5_go wf_X5_go false false c k = true) h (qj_X5_go_55 nn qkk_2 l1 l2 h) (fun r => r.2) := by
  unfold qj_X5_go_55
  have F_h : ∀ c k : Nat, (fun c k => nw_F wl_X5_go wf_X5_go false false c k = true) c k → h c k = h c k := fun _ _ _ => rfl
  refine fm_up F_h (nw_nf rfl) ?_; intro h4 F_h4
  refine fm_xl ?_; intro v5
  exact fm_tl F_h4 (hk_kk_2) (fun _ _ z => z)
set_option maxRecDepth 4000 in
theorem fj_X5_go_40 (nn : Nat) {qkk_2 : Int → Int → ms_M → Option (Int × ms_M)} (hk_kk_2 : ∀ {l1 : Int} {l2 : Int} {h : ms_M}, Fm_ (fun c k => nw_F wl_X5_go wf_X5_go false false c k = true) h (qkk_2 l1 l2 h) (fun r => r.2)) {l1 : Int} {l2 : Int} {h : ms_M} : Fm_ (fun c k => nw_F wl_X5_go wf_X5_go false false c k = true) h (qj_X5_go_40 nn qkk_2 l1 l2 h) (fun r => r.2) := by
  unfold qj_X5_go_40
  have F_h : ∀ c k : Nat, (fun c k => nw_F wl_X5_go wf_X5_go false false c k = true) c k → h c k = h c k := fun _ _ _ => rfl
  refine fm_if ?_ ?_
  · exact fm_tl F_h (fj_X5_go_55 nn hk_kk_2) (fun _ _ z => z)
  · refine fm_ca F_h (ff_X5_throwUp nn) (nw_sub rfl) ?_; intro u9 F_u9
    exact fm_tl F_u9 (fj_X5_go_55 nn hk_kk_2) (fun _ _ z => z)
set_option maxRecDepth 4000 in
theorem fw_X5_go_2 (nn : Nat) : ∀ (k : Nat) {l1 : Int} {l2 : Int} {h : ms_M}, Fm_ (fun c k => nw_F wl_X5_go wf_X5_go false false c k = true) h (qw_X5_go_2 nn k l1 l2 h) (fun r => r.2) := by
  intro k
  induction k with
  | zero => intros; exact fm_no
  | succ k ih =>
    intro l1 l2 h
    unfold qw_X5_go_2
    have F_h : ∀ c k : Nat, (fun c k => nw_F wl_X5_go wf_X5_go false false c k = true) c k → h c k = h c k := fun _ _ _ => rfl
    refine fm_if ?_ ?_
    · exact fm_tl F_h (fj_X5_go_66 nn) (fun _ _ z => z)
    · refine fm_if ?_ ?_
      · exact fm_tl F_h (fj_X5_go_66 nn) (fun _ _ z => z)
      · refine fm_ca F_h (ff_X5_step nn) (nw_sub rfl) ?_; intro u13 F_u13
        refine fm_if ?_ ?_
        · exact fm_tl F_u13 (fj_X5_go_40 nn ih) (fun _ _ z => z)
        · refine fm_xl ?_; intro v16
          refine fm_ca F_u13 (ff_X5_make nn) (nw_sub rfl) ?_; intro u18 F_u18
          refine fm_up F_u18 (nw_nf rfl) ?_; intro h19 F_h19
          exact fm_tl F_h19 (fj_X5_go_40 nn ih) (fun _ _ z => z)
set_option maxRecDepth 4000 in
theorem ff_X5_go (nn : Nat) {a1 : Int} {h : ms_M} : Fm_ (fun c k => nw_F wl_X5_go wf_X5_go false false c k = true) h (qf_X5_go nn a1 h) (fun r => r.2) := by
  unfold qf_X5_go
  have F_h : ∀ c k : Nat, (fun c k => nw_F wl_X5_go wf_X5_go false false c k = true) c k → h c k = h c k := fun _ _ _ => rfl
  exact fm_tl F_h (fw_X5_go_2 nn _) (fun _ _ z => z)
set_option maxRecDepth 4000 in
theorem ff_X12_run (nn : Nat) {a1 : Int} {h : ms_M} : Fm_ (fun c k => nw_F wl_X12_run wf_X12_run false false c k = true) h (qf_X12_run nn a1 h) (fun r => r.2) := by
  unfold qf_X12_run
  have F_h : ∀ c k : Nat, (fun c k => nw_F wl_X12_run wf_X12_run false false c k = true) c k → h c k = h c k := fun _ _ _ => rfl
  refine fm_if ?_ ?_
  · exact fm_ret F_h
  · refine fm_if ?_ ?_
    · refine fm_ca F_h (ff_X5_go nn) (nw_sub rfl) ?_; intro u3 F_u3
      exact fm_ret F_u3
    · exact fm_ret F_h
set_option maxRecDepth 4000 in
theorem ff_X5_beginRun (nn : Nat) {a1 : Int} {a2 : Int} {h : ms_M} : Fm_ (fun c k => nw_F wl_X5_beginRun wf_X5_beginRun false false c k = true) h (qf_X5_beginRun nn a1 a2 h) (fun r => r) := by
  unfold qf_X5_beginRun
  have F_h : ∀ c k : Nat, (fun c k => nw_F wl_X5_beginRun wf_X5_beginRun false false c k = true) c k → h c k = h c k := fun _ _ _ => rfl
  refine fm_ca F_h (ff_X5_forget nn) (nw_sub rfl) ?_; intro u2 F_u2
  refine fm_up F_u2 (nw_nf rfl) ?_; intro h3 F_h3
  refine fm_xl ?_; intro v4
  refine fm_xl ?_; intro v5
  refine fm_xl ?_; intro v6
  refine fm_ca F_h3 (ff_X5_beginMethod nn) (nw_sub rfl) ?_; intro u8 F_u8
  exact fm_ret F_u8
set_option maxRecDepth 4000 in
theorem ff_X12_start (nn : Nat) {a1 : Int} {a2 : Int} {h : ms_M} : Fm_ (fun c k => nw_F wl_X12_start wf_X12_start false false c k = true) h (qf_X12_start nn a1 a2 h) (fun r => r.2) := by
  unfold qf_X12_start
  have F_h : ∀ c k : Nat, (fun c k => nw_F wl_X12_start wf_X12_start false false c k = true) c k → h c k = h c k := fun _ _ _ => rfl
  refine fm_pu ?_; intro u3
  refine fm_if ?_ ?_
  · exact fm_ret F_h
  · refine fm_if ?_ ?_
    · exact fm_ret F_h
    · refine fm_if ?_ ?_
      · exact fm_ret F_h
      · refine fm_ck ?_; intro hb1
        refine fm_if ?_ ?_
        · refine fm_pu ?_; intro u10
          refine fm_if ?_ ?_
          · exact fm_ret F_h
          · refine fm_pu ?_; intro u12
            refine fm_if ?_ ?_
            · refine fm_ca F_h (ff_X5_beginRun nn) (nw_sub rfl) ?_; intro u15 F_u15
              exact fm_ret F_u15
            · exact fm_ret F_h
        · exact fm_ret F_h
set_option maxRecDepth 4000 in
theorem fj_X7_readKind_130 (nn : Nat) {l1 : Nat} {l4 : Int} {l5 : Int} {l6 : Int} {l7 : Int} {h : ms_M} : Fm_ (fun c k => nw_F wl_X7_readKind wf_X7_readKind false false c k = true) h (qj_X7_readKind_130 nn l1 l4 l5 l6 l7 h) (fun r => r.2) := by
  unfold qj_X7_readKind_130
  have F_h : ∀ c k : Nat, (fun c k => nw_F wl_X7_readKind wf_X7_readKind false false c k = true) c k → h c k = h c k := fun _ _ _ => rfl
  refine fm_xl ?_; intro v1
  refine fm_pu ?_; intro u3
  refine fm_wA F_h (nw_ne rfl) ?_; intro h4 F_h4
  exact fm_ret F_h4
set_option maxRecDepth 4000 in
theorem fw_X7_readKind_63 (nn : Nat) : ∀ (k : Nat) {l1 : Nat} {l4 : Int} {l5 : Int} {l6 : Int} {l7 : Int} {h : ms_M}, Fm_ (fun c k => nw_F wl_X7_readKind wf_X7_readKind false false c k = true) h (qw_X7_readKind_63 nn k l1 l4 l5 l6 l7 h) (fun r => r.2) := by
  intro k
  induction k with
  | zero => intros; exact fm_no
  | succ k ih =>
    intro l1 l4 l5 l6 l7 h
    unfold qw_X7_readKind_63
    have F_h : ∀ c k : Nat, (fun c k => nw_F wl_X7_readKind wf_X7_readKind false false c k = true) c k → h c k = h c k := fun _ _ _ => rfl
    refine fm_if ?_ ?_
    · exact fm_tl F_h (fj_X7_readKind_130 nn) (fun _ _ z => z)
    · refine fm_if ?_ ?_
      · exact fm_tl F_h (fj_X7_readKind_130 nn) (fun _ _ z => z)
      · refine fm_if ?_ ?_
        · exact fm_tl F_h (fj_X7_readKind_130 nn) (fun _ _ z => z)
        · refine fm_ck ?_; intro hb1
          refine fm_pu ?_; intro u6
          refine fm_if ?_ ?_
          · exact fm_tl F_h (fj_X7_readKind_130 nn) (fun _ _ z => z)
          · refine fm_pu ?_; intro u8
            refine fm_xl ?_; intro v9
            refine fm_xl ?_; intro v10
            refine fm_pu ?_; intro u12
            refine fm_wA F_h (nw_ne rfl) ?_; intro h13 F_h13
            exact fm_tl F_h13 (ih ) (fun _ _ z => z)
set_option maxRecDepth 4000 in
theorem ff_X7_readKind (nn : Nat) {a1 : Nat} {a2 : Int} {a4 : Int} {h : ms_M} : Fm_ (fun c k => nw_F wl_X7_readKind wf_X7_readKind false false c k = true) h (qf_X7_readKind nn a1 a2 a4 h) (fun r => r.2) := by
  unfold qf_X7_readKind
  have F_h : ∀ c k : Nat, (fun c k => nw_F wl_X7_readKind wf_X7_readKind false false c k = true) c k → h c k = h c k := fun _ _ _ => rfl
  refine fm_ck ?_; intro hb1
  refine fm_pu ?_; intro u19
  refine fm_pu ?_; intro u21
  refine fm_if ?_ ?_
  · exact fm_ret F_h
  · refine fm_xl ?_; intro v22
    refine fm_if ?_ ?_
    · refine fm_pu ?_; intro u25
      refine fm_if ?_ ?_
      · refine fm_xl ?_; intro v26
        exact fm_tl F_h (fw_X7_readKind_63 nn _) (fun _ _ z => z)
      · refine fm_pu ?_; intro u28
        refine fm_wA F_h (nw_ne rfl) ?_; intro h29 F_h29
        exact fm_ret F_h29
    · exact fm_ret F_h
set_option maxRecDepth 4000 in
theorem fj_X11_areKindsThere_133 (nn : Nat) {qkk_68 : Int → Int → ms_M → Option (Int × ms_M)} (hk_kk_68 : ∀ {l1 : Int} {l2 : Int} {h : ms_M}, Fm_ (fun c k => nw_F wl_X11_areKindsThere wf_X11_areKindsThere false false c k = true) h (qkk_68 l1 l2 h) (fun r => r.2)) {qkk_108 : Int → Int → Int → Int → ms_M → Option (Int × ms_M)} (hk_kk_108 : ∀ {l1 : Int} {l2 : Int} {l3 : Int} {l4 : Int} {h : ms_M}, Fm_ (fun c k => nw_F wl_X11_areKindsThere wf_X11_areKindsThere false false c k = true) h (qkk_108 l1 l2 l3 l4 h) (fun r => r.2)) {l2 : Int} {l3 : Int} {l4 : Int} {h : ms_M} : Fm_ (fun c k => nw_F wl_X11_areKindsThere wf_X11_areKindsThere false false c k = true) h (qj_X11_areKindsThere_133 nn qkk_68 qkk_108 l2 l3 l4 h) (fun r => r.2) := by
  unfold qj_X11_areKindsThere_133
  have F_h : ∀ c k : Nat, (fun c k => nw_F wl_X11_areKindsThere wf_X11_areKindsThere false false c k = true) c k → h c k = h c k := fun _ _ _ => rfl
  refine fm_xl ?_; intro v1
  exact fm_tl F_h (hk_kk_108) (fun _ _ z => z)
set_option maxRecDepth 4000 in
theorem fw_X11_areKindsThere_108 (nn : Nat) {qkk_68 : Int → Int → ms_M → Option (Int × ms_M)} (hk_kk_68 : ∀ {l1 : Int} {l2 : Int} {h : ms_M}, Fm_ (fun c k => nw_F wl_X11_areKindsThere wf_X11_areKindsThere false false c k = true) h (qkk_68 l1 l2 h) (fun r => r.2)) : ∀ (k : Nat) {l1 : Int} {l2 : Int} {l3 : Int} {l4 : Int} {h : ms_M}, Fm_ (fun c k => nw_F wl_X11_areKindsThere wf_X11_areKindsThere false false c k = true) h (qw_X11_areKindsThere_108 nn qkk_68 k l1 l2 l3 l4 h) (fun r => r.2) := by
  intro k
  induction k with
  | zero => intros; exact fm_no
  | succ k ih =>
    intro l1 l2 l3 l4 h
    unfold qw_X11_areKindsThere_108
    have F_h : ∀ c k : Nat, (fun c k => nw_F wl_X11_areKindsThere wf_X11_areKindsThere false false c k = true) c k → h c k = h c k := fun _ _ _ => rfl
    refine fm_if ?_ ?_
    · refine fm_xl ?_; intro v2
      exact fm_tl F_h (hk_kk_68) (fun _ _ z => z)
    · refine fm_if ?_ ?_
      · exact fm_tl F_h (fj_X11_areKindsThere_133 nn hk_kk_68 ih) (fun _ _ z => z)
      · refine fm_rd ?_; intro v4
        refine fm_if ?_ ?_
        · exact fm_tl F_h (fj_X11_areKindsThere_133 nn hk_kk_68 ih) (fun _ _ z => z)
        · refine fm_xl ?_; intro v5
          exact fm_tl F_h (ih ) (fun _ _ z => z)
set_option maxRecDepth 4000 in
theorem fw_X11_areKindsThere_68 (nn : Nat) : ∀ (k : Nat) {l1 : Int} {l2 : Int} {h : ms_M}, Fm_ (fun c k => nw_F wl_X11_areKindsThere wf_X11_areKindsThere false false c k = true) h (qw_X11_areKindsThere_68 nn k l1 l2 h) (fun r => r.2) := by
  intro k
  induction k with
  | zero => intros; exact fm_no
  | succ k ih =>
    intro l1 l2 h
    unfold qw_X11_areKindsThere_68
    have F_h : ∀ c k : Nat, (fun c k => nw_F wl_X11_areKindsThere wf_X11_areKindsThere false false c k = true) c k → h c k = h c k := fun _ _ _ => rfl
    refine fm_ck ?_; intro _
    refine fm_ck ?_; intro hb1
    refine fm_if ?_ ?_
    · refine fm_ck ?_; intro _
      exact fm_ret F_h
    · refine fm_ck ?_; intro _
      refine fm_ck ?_; intro _
      refine fm_pu ?_; intro u16
      refine fm_ca F_h (ff_X7_readKind nn) (nw_sub rfl) ?_; intro u19 F_u19
      exact fm_tl F_u19 (fw_X11_areKindsThere_108 nn ih _) (fun _ _ z => z)
set_option maxRecDepth 4000 in
theorem fj_X11_areKindsThere_58 (nn : Nat) {qkk_4 : Int → Int → ms_M → Option (Int × ms_M)} (hk_kk_4 : ∀ {l1 : Int} {l2 : Int} {h : ms_M}, Fm_ (fun c k => nw_F wl_X11_areKindsThere wf_X11_areKindsThere false false c k = true) h (qkk_4 l1 l2 h) (fun r => r.2)) {l2 : Int} {h : ms_M} : Fm_ (fun c k => nw_F wl_X11_areKindsThere wf_X11_areKindsThere false false c k = true) h (qj_X11_areKindsThere_58 nn qkk_4 l2 h) (fun r => r.2) := by
  unfold qj_X11_areKindsThere_58
  have F_h : ∀ c k : Nat, (fun c k => nw_F wl_X11_areKindsThere wf_X11_areKindsThere false false c k = true) c k → h c k = h c k := fun _ _ _ => rfl
  refine fm_xl ?_; intro v21
  exact fm_tl F_h (hk_kk_4) (fun _ _ z => z)
set_option maxRecDepth 4000 in
theorem fw_X11_areKindsThere_4 (nn : Nat) : ∀ (k : Nat) {l1 : Int} {l2 : Int} {h : ms_M}, Fm_ (fun c k => nw_F wl_X11_areKindsThere wf_X11_areKindsThere false false c k = true) h (qw_X11_areKindsThere_4 nn k l1 l2 h) (fun r => r.2) := by
  intro k
  induction k with
  | zero => intros; exact fm_no
  | succ k ih =>
    intro l1 l2 h
    unfold qw_X11_areKindsThere_4
    have F_h : ∀ c k : Nat, (fun c k => nw_F wl_X11_areKindsThere wf_X11_areKindsThere false false c k = true) c k → h c k = h c k := fun _ _ _ => rfl
    refine fm_ck ?_; intro _
    refine fm_ck ?_; intro hb1
    refine fm_if ?_ ?_
    · exact fm_tl F_h (fw_X11_areKindsThere_68 nn _) (fun _ _ z => z)
    · refine fm_ck ?_; intro _
      refine fm_ck ?_; intro _
      refine fm_pu ?_; intro u28
      refine fm_ca F_h (ff_X7_readKind nn) (nw_sub rfl) ?_; intro u31 F_u31
      refine fm_if ?_ ?_
      · exact fm_tl F_u31 (fj_X11_areKindsThere_58 nn ih) (fun _ _ z => z)
      · refine fm_rd ?_; intro v33
        refine fm_if ?_ ?_
        · exact fm_tl F_u31 (fj_X11_areKindsThere_58 nn ih) (fun _ _ z => z)
        · refine fm_xl ?_; intro v34
          exact fm_tl F_u31 (ih ) (fun _ _ z => z)
set_option maxRecDepth 4000 in
theorem ff_X11_areKindsThere (nn : Nat) {h : ms_M} : Fm_ (fun c k => nw_F wl_X11_areKindsThere wf_X11_areKindsThere false false c k = true) h (qf_X11_areKindsThere nn h) (fun r => r.2) := by
  unfold qf_X11_areKindsThere
  have F_h : ∀ c k : Nat, (fun c k => nw_F wl_X11_areKindsThere wf_X11_areKindsThere false false c k = true) c k → h c k = h c k := fun _ _ _ => rfl
  exact fm_tl F_h (fw_X11_areKindsThere_4 nn _) (fun _ _ z => z)
set_option maxRecDepth 4000 in
theorem ff_X11_takeImage (nn : Nat) {a1 : Int} {h : ms_M} : Fm_ (fun c k => nw_F wl_X11_takeImage wf_X11_takeImage false false c k = true) h (qf_X11_takeImage nn a1 h) (fun r => r) := by
  unfold qf_X11_takeImage
  have F_h : ∀ c k : Nat, (fun c k => nw_F wl_X11_takeImage wf_X11_takeImage false false c k = true) c k → h c k = h c k := fun _ _ _ => rfl
  refine fm_pu ?_; intro u3
  refine fm_if ?_ ?_
  · exact fm_ret F_h
  · refine fm_wR F_h (nw_nf rfl) ?_; intro h6 F_h6
    exact fm_ret F_h6
set_option maxRecDepth 4000 in
theorem ff_X11_tellNumber (nn : Nat) {a1 : Int} {a2 : Int} {a3 : Int} {a4 : Int} {h : ms_M} : Fm_ (fun c k => nw_F wl_X11_tellNumber wf_X11_tellNumber false false c k = true) h (qf_X11_tellNumber nn a1 a2 a3 a4 h) (fun r => r.2) := by
  unfold qf_X11_tellNumber
  have F_h : ∀ c k : Nat, (fun c k => nw_F wl_X11_tellNumber wf_X11_tellNumber false false c k = true) c k → h c k = h c k := fun _ _ _ => rfl
  refine fm_up F_h (nw_nf rfl) ?_; intro h1 F_h1
  refine fm_up F_h1 (nw_nf rfl) ?_; intro h2 F_h2
  refine fm_up F_h2 (nw_nf rfl) ?_; intro h3 F_h3
  exact fm_ret F_h3
set_option maxRecDepth 4000 in
theorem fj_X11_proveHeads_81 (nn : Nat) {qkk_3 : Int → ms_M → Option (Int × ms_M)} (hk_kk_3 : ∀ {l1 : Int} {h : ms_M}, Fm_ (fun c k => nw_F wl_X11_proveHeads wf_X11_proveHeads false false c k = true) h (qkk_3 l1 h) (fun r => r.2)) {l1 : Int} {l2 : Int} {h : ms_M} : Fm_ (fun c k => nw_F wl_X11_proveHeads wf_X11_proveHeads false false c k = true) h (qj_X11_proveHeads_81 nn qkk_3 l1 l2 h) (fun r => r.2) := by
  unfold qj_X11_proveHeads_81
  have F_h : ∀ c k : Nat, (fun c k => nw_F wl_X11_proveHeads wf_X11_proveHeads false false c k = true) c k → h c k = h c k := fun _ _ _ => rfl
  refine fm_if ?_ ?_
  · refine fm_xl ?_; intro v1
    exact fm_tl F_h (hk_kk_3) (fun _ _ z => z)
  · refine fm_ca F_h (ff_X11_tellNumber nn) (nw_sub rfl) ?_; intro u3 F_u3
    exact fm_ret F_u3
set_option maxRecDepth 4000 in
theorem fj_X11_proveHeads_54 (nn : Nat) {qkk_3 : Int → ms_M → Option (Int × ms_M)} (hk_kk_3 : ∀ {l1 : Int} {h : ms_M}, Fm_ (fun c k => nw_F wl_X11_proveHeads wf_X11_proveHeads false false c k = true) h (qkk_3 l1 h) (fun r => r.2)) {l1 : Int} {h : ms_M} : Fm_ (fun c k => nw_F wl_X11_proveHeads wf_X11_proveHeads false false c k = true) h (qj_X11_proveHeads_54 nn qkk_3 l1 h) (fun r => r.2) := by
  unfold qj_X11_proveHeads_54
  have F_h : ∀ c k : Nat, (fun c k => nw_F wl_X11_proveHeads wf_X11_proveHeads false false c k = true) c k → h c k = h c k := fun _ _ _ => rfl
  exact fm_tl F_h (fj_X11_proveHeads_81 nn hk_kk_3) (fun _ _ z => z)
set_option maxRecDepth 4000 in
theorem fw_X11_proveHeads_3 (nn : Nat) : ∀ (k : Nat) {l1 : Int} {h : ms_M}, Fm_ (fun c k => nw_F wl_X11_proveHeads wf_X11_proveHeads false false c k = true) h (qw_X11_proveHeads_3 nn k l1 h) (fun r => r.2) := by
  intro k
  induction k with
  | zero => intros; exact fm_no
  | succ k ih =>
    intro l1 h
    unfold qw_X11_proveHeads_3
    have F_h : ∀ c k : Nat, (fun c k => nw_F wl_X11_proveHeads wf_X11_proveHeads false false c k = true) c k → h c k = h c k := fun _ _ _ => rfl
    refine fm_xl ?_; intro v7
    refine fm_if ?_ ?_
    · exact fm_ret F_h
    · refine fm_ca F_h (ff_X11_takeImage nn) (nw_sub rfl) ?_; intro u9 F_u9
      refine fm_pu ?_; intro u12
      refine fm_if ?_ ?_
      · exact fm_tl F_u9 (fj_X11_proveHeads_54 nn ih) (fun _ _ z => z)
      · refine fm_ca F_u9 (ff_X11_areKindsThere nn) (nw_sub rfl) ?_; intro u14 F_u14
        refine fm_if ?_ ?_
        · exact fm_tl F_u14 (fj_X11_proveHeads_54 nn ih) (fun _ _ z => z)
        · refine fm_pu ?_; intro u17
          refine fm_if ?_ ?_
          · refine fm_pu ?_; intro u19
            refine fm_if ?_ ?_
            · refine fm_pu ?_; intro u21
              refine fm_if ?_ ?_
              · exact fm_tl F_u14 (fj_X11_proveHeads_81 nn ih) (fun _ _ z => z)
              · exact fm_tl F_u14 (fj_X11_proveHeads_81 nn ih) (fun _ _ z => z)
            · exact fm_tl F_u14 (fj_X11_proveHeads_81 nn ih) (fun _ _ z => z)
          · exact fm_tl F_u14 (fj_X11_proveHeads_54 nn ih) (fun _ _ z => z)
set_option maxRecDepth 4000 in
theorem ff_X11_proveHeads (nn : Nat) {h : ms_M} : Fm_ (fun c k => nw_F wl_X11_proveHeads wf_X11_proveHeads false false c k = true) h (qf_X11_proveHeads nn h) (fun r => r.2) := by
  unfold qf_X11_proveHeads
  have F_h : ∀ c k : Nat, (fun c k => nw_F wl_X11_proveHeads wf_X11_proveHeads false false c k = true) c k → h c k = h c k := fun _ _ _ => rfl
  exact fm_tl F_h (fw_X11_proveHeads_3 nn _) (fun _ _ z => z)
set_option maxRecDepth 4000 in
theorem fj_X11_beginState_83 (nn : Nat) {l2 : Int} {l3 : Int} {h : ms_M} : Fm_ (fun c k => nw_F wl_X11_beginState wf_X11_beginState false false c k = true) h (qj_X11_beginState_83 nn l2 l3 h) (fun r => r) := by
  unfold qj_X11_beginState_83
  have F_h : ∀ c k : Nat, (fun c k => nw_F wl_X11_beginState wf_X11_beginState false false c k = true) c k → h c k = h c k := fun _ _ _ => rfl
  refine fm_cp F_h (fun _ => nw_ne rfl) ?_; intro h3 F_h3
  exact fm_ret F_h3
set_option maxRecDepth 4000 in
theorem ff_X11_beginState (nn : Nat) {a1 : Int} {h : ms_M} : Fm_ (fun c k => nw_F wl_X11_beginState wf_X11_beginState false false c k = true) h (qf_X11_beginState nn a1 h) (fun r => r) := by
  unfold qf_X11_beginState
  have F_h : ∀ c k : Nat, (fun c k => nw_F wl_X11_beginState wf_X11_beginState false false c k = true) c k → h c k = h c k := fun _ _ _ => rfl
  refine fm_up F_h (nw_nf rfl) ?_; intro h4 F_h4
  refine fm_ca F_h4 (ff_J7_fill_53178 nn) (nw_ne rfl) ?_; intro u6 F_u6
  refine fm_pu ?_; intro u8
  refine fm_xl ?_; intro v11
  refine fm_up F_u6 (nw_nf rfl) ?_; intro h12 F_h12
  refine fm_ck ?_; intro _
  refine fm_pu ?_; intro u16
  refine fm_ca F_h12 (ff_X7_readKind nn) (nw_sub rfl) ?_; intro u19 F_u19
  refine fm_rd ?_; intro v21
  refine fm_up F_u19 (nw_nf rfl) ?_; intro h22 F_h22
  refine fm_pu ?_; intro u24
  refine fm_if ?_ ?_
  · exact fm_tl F_h22 (fj_X11_beginState_83 nn) (fun _ _ z => z)
  · refine fm_wA F_h22 (nw_ne rfl) ?_; intro h26 F_h26
    exact fm_tl F_h26 (fj_X11_beginState_83 nn) (fun _ _ z => z)
set_option maxRecDepth 4000 in
theorem ff_X11_at (nn : Nat) {a1 : Int} {a2 : Int} {h : ms_M} : Fm_ (fun c k => nw_F wl_X11_at wf_X11_at false false c k = true) h (qf_X11_at nn a1 a2 h) (fun r => r.2) := by
  unfold qf_X11_at
  have F_h : ∀ c k : Nat, (fun c k => nw_F wl_X11_at wf_X11_at false false c k = true) c k → h c k = h c k := fun _ _ _ => rfl
  refine fm_up F_h (nw_nf rfl) ?_; intro h1 F_h1
  exact fm_ret F_h1
set_option maxRecDepth 4000 in
theorem fj_X11_proveFrames_116 (nn : Nat) {qkk_4 : Int → Int → ms_M → Option (Int × ms_M)} (hk_kk_4 : ∀ {l1 : Int} {l2 : Int} {h : ms_M}, Fm_ (fun c k => nw_F wl_X11_proveFrames wf_X11_proveFrames false false c k = true) h (qkk_4 l1 l2 h) (fun r => r.2)) {l2 : Int} {l3 : Int} {s0 : Int} {h : ms_M} : Fm_ (fun c k => nw_F wl_X11_proveFrames wf_X11_proveFrames false false c k = true) h (qj_X11_proveFrames_116 nn qkk_4 l2 l3 s0 h) (fun r => r.2) := by
  unfold qj_X11_proveFrames_116
  have F_h : ∀ c k : Nat, (fun c k => nw_F wl_X11_proveFrames wf_X11_proveFrames false false c k = true) c k → h c k = h c k := fun _ _ _ => rfl
  refine fm_if ?_ ?_
  · refine fm_rd ?_; intro v2
    refine fm_xl ?_; intro v3
    exact fm_tl F_h (hk_kk_4) (fun _ _ z => z)
  · refine fm_ca F_h (ff_X11_at nn) (nw_sub rfl) ?_; intro u5 F_u5
    exact fm_ret F_u5
set_option maxRecDepth 4000 in
theorem fj_X11_proveFrames_115 (nn : Nat) {qkk_4 : Int → Int → ms_M → Option (Int × ms_M)} (hk_kk_4 : ∀ {l1 : Int} {l2 : Int} {h : ms_M}, Fm_ (fun c k => nw_F wl_X11_proveFrames wf_X11_proveFrames false false c k = true) h (qkk_4 l1 l2 h) (fun r => r.2)) {l2 : Int} {l3 : Int} {h : ms_M} : Fm_ (fun c k => nw_F wl_X11_proveFrames wf_X11_proveFrames false false c k = true) h (qj_X11_proveFrames_115 nn qkk_4 l2 l3 h) (fun r => r.2) := by
  unfold qj_X11_proveFrames_115
  have F_h : ∀ c k : Nat, (fun c k => nw_F wl_X11_proveFrames wf_X11_proveFrames false false c k = true) c k → h c k = h c k := fun _ _ _ => rfl
  exact fm_tl F_h (fj_X11_proveFrames_116 nn hk_kk_4) (fun _ _ z => z)
set_option maxRecDepth 4000 in
theorem fw_X11_proveFrames_4 (nn : Nat) : ∀ (k : Nat) {l1 : Int} {l2 : Int} {h : ms_M}, Fm_ (fun c k => nw_F wl_X11_proveFrames wf_X11_proveFrames false false c k = true) h (qw_X11_proveFrames_4 nn k l1 l2 h) (fun r => r.2) := by
  intro k
  induction k with
  | zero => intros; exact fm_no
  | succ k ih =>
    intro l1 l2 h
    unfold qw_X11_proveFrames_4
    have F_h : ∀ c k : Nat, (fun c k => nw_F wl_X11_proveFrames wf_X11_proveFrames false false c k = true) c k → h c k = h c k := fun _ _ _ => rfl
    refine fm_pu ?_; intro u8
    refine fm_if ?_ ?_
    · exact fm_ret F_h
    · refine fm_xl ?_; intro v9
      refine fm_rd ?_; intro v11
      refine fm_pu ?_; intro u13
      refine fm_if ?_ ?_
      · exact fm_tl F_h (fj_X11_proveFrames_115 nn ih) (fun _ _ z => z)
      · refine fm_rd ?_; intro v15
        refine fm_if ?_ ?_
        · exact fm_tl F_h (fj_X11_proveFrames_115 nn ih) (fun _ _ z => z)
        · refine fm_xl ?_; intro v17
          refine fm_rd ?_; intro v18
          refine fm_pu ?_; intro u20
          refine fm_if ?_ ?_
          · exact fm_tl F_h (fj_X11_proveFrames_115 nn ih) (fun _ _ z => z)
          · refine fm_xl ?_; intro v22
            refine fm_rd ?_; intro v23
            refine fm_pu ?_; intro u25
            refine fm_if ?_ ?_
            · exact fm_tl F_h (fj_X11_proveFrames_115 nn ih) (fun _ _ z => z)
            · refine fm_xl ?_; intro v26
              refine fm_xl ?_; intro v28
              refine fm_rd ?_; intro v29
              refine fm_pu ?_; intro u31
              refine fm_if ?_ ?_
              · exact fm_tl F_h (fj_X11_proveFrames_115 nn ih) (fun _ _ z => z)
              · refine fm_xl ?_; intro v32
                refine fm_xl ?_; intro v34
                refine fm_rd ?_; intro v35
                refine fm_pu ?_; intro u37
                refine fm_if ?_ ?_
                · exact fm_tl F_h (fj_X11_proveFrames_115 nn ih) (fun _ _ z => z)
                · exact fm_tl F_h (fj_X11_proveFrames_116 nn ih) (fun _ _ z => z)
set_option maxRecDepth 4000 in
theorem ff_X11_proveFrames (nn : Nat) {h : ms_M} : Fm_ (fun c k => nw_F wl_X11_proveFrames wf_X11_proveFrames false false c k = true) h (qf_X11_proveFrames nn h) (fun r => r.2) := by
  unfold qf_X11_proveFrames
  have F_h : ∀ c k : Nat, (fun c k => nw_F wl_X11_proveFrames wf_X11_proveFrames false false c k = true) c k → h c k = h c k := fun _ _ _ => rfl
  exact fm_tl F_h (fw_X11_proveFrames_4 nn _) (fun _ _ z => z)
set_option maxRecDepth 4000 in
theorem fj_X11_proveHandlers_100 (nn : Nat) {l1 : Int} {h : ms_M} : Fm_ (fun c k => nw_F wl_X11_proveHandlers wf_X11_proveHandlers false false c k = true) h (qj_X11_proveHandlers_100 nn l1 h) (fun r => r.2) := by
  unfold qj_X11_proveHandlers_100
  have F_h : ∀ c k : Nat, (fun c k => nw_F wl_X11_proveHandlers wf_X11_proveHandlers false false c k = true) c k → h c k = h c k := fun _ _ _ => rfl
  refine fm_ca F_h (ff_X11_at nn) (nw_sub rfl) ?_; intro u2 F_u2
  exact fm_ret F_u2
set_option maxRecDepth 4000 in
theorem fj_X11_proveHandlers_68 (nn : Nat) {qkk_2 : Int → ms_M → Option (Int × ms_M)} (hk_kk_2 : ∀ {l1 : Int} {h : ms_M}, Fm_ (fun c k => nw_F wl_X11_proveHandlers wf_X11_proveHandlers false false c k = true) h (qkk_2 l1 h) (fun r => r.2)) {l1 : Int} {l4 : Int} {s0 : Int} {h : ms_M} : Fm_ (fun c k => nw_F wl_X11_proveHandlers wf_X11_proveHandlers false false c k = true) h (qj_X11_proveHandlers_68 nn qkk_2 l1 l4 s0 h) (fun r => r.2) := by
  unfold qj_X11_proveHandlers_68
  have F_h : ∀ c k : Nat, (fun c k => nw_F wl_X11_proveHandlers wf_X11_proveHandlers false false c k = true) c k → h c k = h c k := fun _ _ _ => rfl
  refine fm_if ?_ ?_
  · exact fm_tl F_h (fj_X11_proveHandlers_100 nn) (fun _ _ z => z)
  · refine fm_pu ?_; intro u4
    refine fm_if ?_ ?_
    · exact fm_tl F_h (fj_X11_proveHandlers_100 nn) (fun _ _ z => z)
    · refine fm_pu ?_; intro u7
      refine fm_pu ?_; intro u9
      refine fm_if ?_ ?_
      · refine fm_xl ?_; intro v10
        exact fm_tl F_h (hk_kk_2) (fun _ _ z => z)
      · exact fm_tl F_h (fj_X11_proveHandlers_100 nn) (fun _ _ z => z)
set_option maxRecDepth 4000 in
theorem fj_X11_proveHandlers_67 (nn : Nat) {qkk_2 : Int → ms_M → Option (Int × ms_M)} (hk_kk_2 : ∀ {l1 : Int} {h : ms_M}, Fm_ (fun c k => nw_F wl_X11_proveHandlers wf_X11_proveHandlers false false c k = true) h (qkk_2 l1 h) (fun r => r.2)) {l1 : Int} {l4 : Int} {h : ms_M} : Fm_ (fun c k => nw_F wl_X11_proveHandlers wf_X11_proveHandlers false false c k = true) h (qj_X11_proveHandlers_67 nn qkk_2 l1 l4 h) (fun r => r.2) := by
  unfold qj_X11_proveHandlers_67
  have F_h : ∀ c k : Nat, (fun c k => nw_F wl_X11_proveHandlers wf_X11_proveHandlers false false c k = true) c k → h c k = h c k := fun _ _ _ => rfl
  exact fm_tl F_h (fj_X11_proveHandlers_68 nn hk_kk_2) (fun _ _ z => z)
set_option maxRecDepth 4000 in
theorem fj_X11_proveHandlers_58 (nn : Nat) {qkk_2 : Int → ms_M → Option (Int × ms_M)} (hk_kk_2 : ∀ {l1 : Int} {h : ms_M}, Fm_ (fun c k => nw_F wl_X11_proveHandlers wf_X11_proveHandlers false false c k = true) h (qkk_2 l1 h) (fun r => r.2)) {l1 : Int} {l2 : Int} {l3 : Int} {l4 : Int} {h : ms_M} : Fm_ (fun c k => nw_F wl_X11_proveHandlers wf_X11_proveHandlers false false c k = true) h (qj_X11_proveHandlers_58 nn qkk_2 l1 l2 l3 l4 h) (fun r => r.2) := by
  unfold qj_X11_proveHandlers_58
  have F_h : ∀ c k : Nat, (fun c k => nw_F wl_X11_proveHandlers wf_X11_proveHandlers false false c k = true) c k → h c k = h c k := fun _ _ _ => rfl
  refine fm_if ?_ ?_
  · exact fm_tl F_h (fj_X11_proveHandlers_67 nn hk_kk_2) (fun _ _ z => z)
  · exact fm_tl F_h (fj_X11_proveHandlers_68 nn hk_kk_2) (fun _ _ z => z)
set_option maxRecDepth 4000 in
theorem fw_X11_proveHandlers_2 (nn : Nat) : ∀ (k : Nat) {l1 : Int} {h : ms_M}, Fm_ (fun c k => nw_F wl_X11_proveHandlers wf_X11_proveHandlers false false c k = true) h (qw_X11_proveHandlers_2 nn k l1 h) (fun r => r.2) := by
  intro k
  induction k with
  | zero => intros; exact fm_no
  | succ k ih =>
    intro l1 h
    unfold qw_X11_proveHandlers_2
    have F_h : ∀ c k : Nat, (fun c k => nw_F wl_X11_proveHandlers wf_X11_proveHandlers false false c k = true) c k → h c k = h c k := fun _ _ _ => rfl
    refine fm_pu ?_; intro u16
    refine fm_if ?_ ?_
    · exact fm_ret F_h
    · refine fm_pu ?_; intro u18
      refine fm_pu ?_; intro u20
      refine fm_pu ?_; intro u22
      refine fm_pu ?_; intro u24
      refine fm_if ?_ ?_
      · exact fm_tl F_h (fj_X11_proveHandlers_67 nn ih) (fun _ _ z => z)
      · refine fm_pu ?_; intro u26
        refine fm_if ?_ ?_
        · exact fm_tl F_h (fj_X11_proveHandlers_58 nn ih) (fun _ _ z => z)
        · refine fm_if ?_ ?_
          · exact fm_tl F_h (fj_X11_proveHandlers_67 nn ih) (fun _ _ z => z)
          · exact fm_tl F_h (fj_X11_proveHandlers_58 nn ih) (fun _ _ z => z)
set_option maxRecDepth 4000 in
theorem ff_X11_proveHandlers (nn : Nat) {h : ms_M} : Fm_ (fun c k => nw_F wl_X11_proveHandlers wf_X11_proveHandlers false false c k = true) h (qf_X11_proveHandlers nn h) (fun r => r.2) := by
  unfold qf_X11_proveHandlers
  have F_h : ∀ c k : Nat, (fun c k => nw_F wl_X11_proveHandlers wf_X11_proveHandlers false false c k = true) c k → h c k = h c k := fun _ _ _ => rfl
  exact fm_tl F_h (fw_X11_proveHandlers_2 nn _) (fun _ _ z => z)
set_option maxRecDepth 4000 in
theorem fj_X11_proveInstructions_64 (nn : Nat) {l1 : Int} {h : ms_M} : Fm_ (fun c k => nw_F wl_X11_proveInstructions wf_X11_proveInstructions false false c k = true) h (qj_X11_proveInstructions_64 nn l1 h) (fun r => r.2) := by
  unfold qj_X11_proveInstructions_64
  have F_h : ∀ c k : Nat, (fun c k => nw_F wl_X11_proveInstructions wf_X11_proveInstructions false false c k = true) c k → h c k = h c k := fun _ _ _ => rfl
  refine fm_ca F_h (ff_X11_at nn) (nw_sub rfl) ?_; intro u2 F_u2
  exact fm_ret F_u2
set_option maxRecDepth 4000 in
theorem fw_X11_proveInstructions_33 (nn : Nat) : ∀ (k : Nat) {l1 : Int} {h : ms_M}, Fm_ (fun c k => nw_F wl_X11_proveInstructions wf_X11_proveInstructions false false c k = true) h (qw_X11_proveInstructions_33 nn k l1 h) (fun r => r.2) := by
  intro k
  induction k with
  | zero => intros; exact fm_no
  | succ k ih =>
    intro l1 h
    unfold qw_X11_proveInstructions_33
    have F_h : ∀ c k : Nat, (fun c k => nw_F wl_X11_proveInstructions wf_X11_proveInstructions false false c k = true) c k → h c k = h c k := fun _ _ _ => rfl
    refine fm_if ?_ ?_
    · exact fm_ret F_h
    · refine fm_pu ?_; intro u5
      refine fm_pu ?_; intro u6
      refine fm_if ?_ ?_
      · exact fm_tl F_h (fj_X11_proveInstructions_64 nn) (fun _ _ z => z)
      · refine fm_xl ?_; intro v7
        refine fm_if ?_ ?_
        · refine fm_wA F_h (nw_ne rfl) ?_; intro h10 F_h10
          refine fm_xl ?_; intro v11
          exact fm_tl F_h10 (ih ) (fun _ _ z => z)
        · exact fm_tl F_h (fj_X11_proveInstructions_64 nn) (fun _ _ z => z)
set_option maxRecDepth 4000 in
theorem ff_X11_proveInstructions (nn : Nat) {h : ms_M} : Fm_ (fun c k => nw_F wl_X11_proveInstructions wf_X11_proveInstructions false false c k = true) h (qf_X11_proveInstructions nn h) (fun r => r.2) := by
  unfold qf_X11_proveInstructions
  have F_h : ∀ c k : Nat, (fun c k => nw_F wl_X11_proveInstructions wf_X11_proveInstructions false false c k = true) c k → h c k = h c k := fun _ _ _ => rfl
  refine fm_pu ?_; intro u16
  refine fm_xl ?_; intro v19
  refine fm_up F_h (nw_nf rfl) ?_; intro h20 F_h20
  refine fm_ca F_h20 (ff_J7_fill_fda19 nn) (nw_ne rfl) ?_; intro u23 F_u23
  exact fm_tl F_u23 (fw_X11_proveInstructions_33 nn _) (fun _ _ z => z)
set_option maxRecDepth 4000 in
theorem fw_X11_proveJumps_2 (nn : Nat) : ∀ (k : Nat) {l1 : Int} {h : ms_M}, Fm_ (fun c k => nw_F wl_X11_proveJumps wf_X11_proveJumps false false c k = true) h (qw_X11_proveJumps_2 nn k l1 h) (fun r => r.2) := by
  intro k
  induction k with
  | zero => intros; exact fm_no
  | succ k ih =>
    intro l1 h
    unfold qw_X11_proveJumps_2
    have F_h : ∀ c k : Nat, (fun c k => nw_F wl_X11_proveJumps wf_X11_proveJumps false false c k = true) c k → h c k = h c k := fun _ _ _ => rfl
    refine fm_if ?_ ?_
    · exact fm_ret F_h
    · refine fm_pu ?_; intro u3
      refine fm_if ?_ ?_
      · refine fm_xl ?_; intro v4
        exact fm_tl F_h (ih ) (fun _ _ z => z)
      · refine fm_pu ?_; intro u6
        refine fm_pu ?_; intro u7
        refine fm_if ?_ ?_
        · refine fm_xl ?_; intro v8
          exact fm_tl F_h (ih ) (fun _ _ z => z)
        · refine fm_pu ?_; intro u10
          refine fm_pu ?_; intro u12
          refine fm_if ?_ ?_
          · refine fm_xl ?_; intro v13
            exact fm_tl F_h (ih ) (fun _ _ z => z)
          · refine fm_ca F_h (ff_X11_at nn) (nw_sub rfl) ?_; intro u15 F_u15
            exact fm_ret F_u15
set_option maxRecDepth 4000 in
theorem ff_X11_proveJumps (nn : Nat) {h : ms_M} : Fm_ (fun c k => nw_F wl_X11_proveJumps wf_X11_proveJumps false false c k = true) h (qf_X11_proveJumps nn h) (fun r => r.2) := by
  unfold qf_X11_proveJumps
  have F_h : ∀ c k : Nat, (fun c k => nw_F wl_X11_proveJumps wf_X11_proveJumps false false c k = true) c k → h c k = h c k := fun _ _ _ => rfl
  exact fm_tl F_h (fw_X11_proveJumps_2 nn _) (fun _ _ z => z)
set_option maxRecDepth 4000 in
theorem ff_X11_pop (nn : Nat) {h : ms_M} : Fm_ (fun c k => nw_F wl_X11_pop wf_X11_pop false false c k = true) h (qf_X11_pop nn h) (fun r => r.2) := by
  unfold qf_X11_pop
  have F_h : ∀ c k : Nat, (fun c k => nw_F wl_X11_pop wf_X11_pop false false c k = true) c k → h c k = h c k := fun _ _ _ => rfl
  refine fm_if ?_ ?_
  · refine fm_xl ?_; intro v3
    refine fm_up F_h (nw_nf rfl) ?_; intro h4 F_h4
    refine fm_rd ?_; intro v7
    exact fm_ret F_h4
  · refine fm_up F_h (nw_nf rfl) ?_; intro h8 F_h8
    exact fm_ret F_h8
set_option maxRecDepth 4000 in
theorem ff_X11_push (nn : Nat) {a1 : Int} {h : ms_M} : Fm_ (fun c k => nw_F wl_X11_push wf_X11_push false false c k = true) h (qf_X11_push nn a1 h) (fun r => r) := by
  unfold qf_X11_push
  have F_h : ∀ c k : Nat, (fun c k => nw_F wl_X11_push wf_X11_push false false c k = true) c k → h c k = h c k := fun _ _ _ => rfl
  refine fm_if ?_ ?_
  · refine fm_wA F_h (nw_ne rfl) ?_; intro h5 F_h5
    refine fm_xl ?_; intro v7
    refine fm_up F_h5 (nw_nf rfl) ?_; intro h8 F_h8
    exact fm_ret F_h8
  · refine fm_up F_h (nw_nf rfl) ?_; intro h9 F_h9
    exact fm_ret F_h9
set_option maxRecDepth 4000 in
theorem fj_X11_want_32 (nn : Nat) {h : ms_M} : Fm_ (fun c k => nw_F wl_X11_want wf_X11_want false false c k = true) h (qj_X11_want_32 nn h) (fun r => r) := by
  unfold qj_X11_want_32
  have F_h : ∀ c k : Nat, (fun c k => nw_F wl_X11_want wf_X11_want false false c k = true) c k → h c k = h c k := fun _ _ _ => rfl
  refine fm_up F_h (nw_nf rfl) ?_; intro h1 F_h1
  exact fm_ret F_h1
set_option maxRecDepth 4000 in
theorem ff_X11_want (nn : Nat) {a1 : Int} {h : ms_M} : Fm_ (fun c k => nw_F wl_X11_want wf_X11_want false false c k = true) h (qf_X11_want nn a1 h) (fun r => r) := by
  unfold qf_X11_want
  have F_h : ∀ c k : Nat, (fun c k => nw_F wl_X11_want wf_X11_want false false c k = true) c k → h c k = h c k := fun _ _ _ => rfl
  refine fm_ca F_h (ff_X11_pop nn) (nw_sub rfl) ?_; intro u3 F_u3
  refine fm_if ?_ ?_
  · refine fm_up F_u3 (nw_nf rfl) ?_; intro h5 F_h5
    exact fm_ret F_h5
  · refine fm_if ?_ ?_
    · exact fm_tl F_u3 (fj_X11_want_32 nn) (fun _ _ z => z)
    · refine fm_pu ?_; intro u8
      refine fm_if ?_ ?_
      · refine fm_up F_u3 (nw_nf rfl) ?_; intro h9 F_h9
        exact fm_ret F_h9
      · exact fm_tl F_u3 (fj_X11_want_32 nn) (fun _ _ z => z)
set_option maxRecDepth 4000 in
theorem fj_X11_wantArray_61 (nn : Nat) {l3 : Int} {h : ms_M} : Fm_ (fun c k => nw_F wl_X11_wantArray wf_X11_wantArray false false c k = true) h (qj_X11_wantArray_61 nn l3 h) (fun r => r.2) := by
  unfold qj_X11_wantArray_61
  have F_h : ∀ c k : Nat, (fun c k => nw_F wl_X11_wantArray wf_X11_wantArray false false c k = true) c k → h c k = h c k := fun _ _ _ => rfl
  refine fm_up F_h (nw_nf rfl) ?_; intro h1 F_h1
  exact fm_ret F_h1
set_option maxRecDepth 4000 in
theorem fj_X11_wantArray_42 (nn : Nat) {l3 : Int} {s0 : Int} {h : ms_M} : Fm_ (fun c k => nw_F wl_X11_wantArray wf_X11_wantArray false false c k = true) h (qj_X11_wantArray_42 nn l3 s0 h) (fun r => r.2) := by
  unfold qj_X11_wantArray_42
  have F_h : ∀ c k : Nat, (fun c k => nw_F wl_X11_wantArray wf_X11_wantArray false false c k = true) c k → h c k = h c k := fun _ _ _ => rfl
  refine fm_if ?_ ?_
  · exact fm_tl F_h (fj_X11_wantArray_61 nn) (fun _ _ z => z)
  · refine fm_if ?_ ?_
    · exact fm_tl F_h (fj_X11_wantArray_61 nn) (fun _ _ z => z)
    · refine fm_up F_h (nw_nf rfl) ?_; intro h3 F_h3
      exact fm_ret F_h3
set_option maxRecDepth 4000 in
theorem fj_X11_wantArray_41 (nn : Nat) {l3 : Int} {h : ms_M} : Fm_ (fun c k => nw_F wl_X11_wantArray wf_X11_wantArray false false c k = true) h (qj_X11_wantArray_41 nn l3 h) (fun r => r.2) := by
  unfold qj_X11_wantArray_41
  have F_h : ∀ c k : Nat, (fun c k => nw_F wl_X11_wantArray wf_X11_wantArray false false c k = true) c k → h c k = h c k := fun _ _ _ => rfl
  exact fm_tl F_h (fj_X11_wantArray_42 nn) (fun _ _ z => z)
set_option maxRecDepth 4000 in
theorem fj_X11_wantArray_37 (nn : Nat) {l3 : Int} {h : ms_M} : Fm_ (fun c k => nw_F wl_X11_wantArray wf_X11_wantArray false false c k = true) h (qj_X11_wantArray_37 nn l3 h) (fun r => r.2) := by
  unfold qj_X11_wantArray_37
  have F_h : ∀ c k : Nat, (fun c k => nw_F wl_X11_wantArray wf_X11_wantArray false false c k = true) c k → h c k = h c k := fun _ _ _ => rfl
  exact fm_tl F_h (fj_X11_wantArray_42 nn) (fun _ _ z => z)
set_option maxRecDepth 4000 in
theorem ff_X11_wantArray (nn : Nat) {a1 : Int} {a2 : Int} {h : ms_M} : Fm_ (fun c k => nw_F wl_X11_wantArray wf_X11_wantArray false false c k = true) h (qf_X11_wantArray nn a1 a2 h) (fun r => r.2) := by
  unfold qf_X11_wantArray
  have F_h : ∀ c k : Nat, (fun c k => nw_F wl_X11_wantArray wf_X11_wantArray false false c k = true) c k → h c k = h c k := fun _ _ _ => rfl
  refine fm_ca F_h (ff_X11_pop nn) (nw_sub rfl) ?_; intro u7 F_u7
  refine fm_if ?_ ?_
  · exact fm_tl F_u7 (fj_X11_wantArray_37 nn) (fun _ _ z => z)
  · refine fm_if ?_ ?_
    · refine fm_if ?_ ?_
      · exact fm_tl F_u7 (fj_X11_wantArray_41 nn) (fun _ _ z => z)
      · refine fm_pu ?_; intro u8
        refine fm_if ?_ ?_
        · exact fm_tl F_u7 (fj_X11_wantArray_41 nn) (fun _ _ z => z)
        · exact fm_tl F_u7 (fj_X11_wantArray_37 nn) (fun _ _ z => z)
    · refine fm_if ?_ ?_
      · exact fm_tl F_u7 (fj_X11_wantArray_41 nn) (fun _ _ z => z)
      · exact fm_tl F_u7 (fj_X11_wantArray_37 nn) (fun _ _ z => z)
set_option maxRecDepth 4000 in
theorem fj_X11_wantReference_24 (nn : Nat) {l1 : Int} {h : ms_M} : Fm_ (fun c k => nw_F wl_X11_wantReference wf_X11_wantReference false false c k = true) h (qj_X11_wantReference_24 nn l1 h) (fun r => r.2) := by
  unfold qj_X11_wantReference_24
  have F_h : ∀ c k : Nat, (fun c k => nw_F wl_X11_wantReference wf_X11_wantReference false false c k = true) c k → h c k = h c k := fun _ _ _ => rfl
  refine fm_up F_h (nw_nf rfl) ?_; intro h1 F_h1
  exact fm_ret F_h1
set_option maxRecDepth 4000 in
theorem ff_X11_wantReference (nn : Nat) {h : ms_M} : Fm_ (fun c k => nw_F wl_X11_wantReference wf_X11_wantReference false false c k = true) h (qf_X11_wantReference nn h) (fun r => r.2) := by
  unfold qf_X11_wantReference
  have F_h : ∀ c k : Nat, (fun c k => nw_F wl_X11_wantReference wf_X11_wantReference false false c k = true) c k → h c k = h c k := fun _ _ _ => rfl
  refine fm_ca F_h (ff_X11_pop nn) (nw_sub rfl) ?_; intro u3 F_u3
  refine fm_if ?_ ?_
  · exact fm_tl F_u3 (fj_X11_wantReference_24 nn) (fun _ _ z => z)
  · refine fm_pu ?_; intro u5
    refine fm_if ?_ ?_
    · exact fm_tl F_u3 (fj_X11_wantReference_24 nn) (fun _ _ z => z)
    · refine fm_up F_u3 (nw_nf rfl) ?_; intro h6 F_h6
      exact fm_ret F_h6
set_option maxRecDepth 4000 in
theorem ff_X11_applyArray (nn : Nat) {a1 : Int} {h : ms_M} : Fm_ (fun c k => nw_F wl_X11_applyArray wf_X11_applyArray false false c k = true) h (qf_X11_applyArray nn a1 h) (fun r => r) := by
  unfold qf_X11_applyArray
  have F_h : ∀ c k : Nat, (fun c k => nw_F wl_X11_applyArray wf_X11_applyArray false false c k = true) c k → h c k = h c k := fun _ _ _ => rfl
  refine fm_if ?_ ?_
  · refine fm_ca F_h (ff_X11_want nn) (nw_sub rfl) ?_; intro u2 F_u2
    refine fm_ca F_u2 (ff_X11_wantArray nn) (nw_sub rfl) ?_; intro u4 F_u4
    refine fm_ca F_u4 (ff_X11_push nn) (nw_sub rfl) ?_; intro u6 F_u6
    exact fm_ret F_u6
  · refine fm_if ?_ ?_
    · refine fm_ca F_h (ff_X11_want nn) (nw_sub rfl) ?_; intro u8 F_u8
      refine fm_ca F_u8 (ff_X11_wantArray nn) (nw_sub rfl) ?_; intro u10 F_u10
      refine fm_if ?_ ?_
      · refine fm_pu ?_; intro u11
        refine fm_ca F_u10 (ff_X11_push nn) (nw_sub rfl) ?_; intro u13 F_u13
        exact fm_ret F_u13
      · refine fm_ca F_u10 (ff_X11_push nn) (nw_sub rfl) ?_; intro u15 F_u15
        exact fm_ret F_u15
    · refine fm_if ?_ ?_
      · refine fm_ca F_h (ff_X11_want nn) (nw_sub rfl) ?_; intro u18 F_u18
        refine fm_ca F_u18 (ff_X11_want nn) (nw_sub rfl) ?_; intro u20 F_u20
        refine fm_ca F_u20 (ff_X11_wantArray nn) (nw_sub rfl) ?_; intro u22 F_u22
        exact fm_ret F_u22
      · refine fm_if ?_ ?_
        · refine fm_ca F_h (ff_X11_wantReference nn) (nw_sub rfl) ?_; intro u24 F_u24
          refine fm_ca F_u24 (ff_X11_want nn) (nw_sub rfl) ?_; intro u26 F_u26
          refine fm_ca F_u26 (ff_X11_wantArray nn) (nw_sub rfl) ?_; intro u28 F_u28
          exact fm_ret F_u28
        · refine fm_if ?_ ?_
          · refine fm_ca F_h (ff_X11_pop nn) (nw_sub rfl) ?_; intro u30 F_u30
            exact fm_ret F_u30
          · refine fm_if ?_ ?_
            · refine fm_ca F_h (ff_X11_pop nn) (nw_sub rfl) ?_; intro u32 F_u32
              refine fm_ca F_u32 (ff_X11_push nn) (nw_sub rfl) ?_; intro u34 F_u34
              refine fm_ca F_u34 (ff_X11_push nn) (nw_sub rfl) ?_; intro u36 F_u36
              exact fm_ret F_u36
            · refine fm_if ?_ ?_
              · refine fm_ca F_h (ff_X11_want nn) (nw_sub rfl) ?_; intro u38 F_u38
                refine fm_ca F_u38 (ff_X11_push nn) (nw_sub rfl) ?_; intro u40 F_u40
                exact fm_ret F_u40
              · exact fm_ret F_h
