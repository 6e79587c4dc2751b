set_option maxRecDepth 4000 in
theorem fj_X10_closeSign_42 (nn : Nat) {l1 : Int} {h : ms_M} : Fm_ (fun c k => nw_F wl_X10_closeSign wf_X10_closeSign false false c k = true) h (qj_X10_closeSign_42 nn l1 h) (fun r => r) := by
  unfold qj_X10_closeSign_42
  have F_h : ∀ c k : Nat, (fun c k => nw_F wl_X10_closeSign wf_X10_closeSign false false c k = true) c k → h c k = h c k := fun _ _ _ => rfl
  refine fm_rd ?_; intro v56
  refine fm_ca F_h (ff_X10_closeShort nn) (nw_sub rfl) ?_; intro u58 F_u58
  exact fm_tl F_u58 (fj_X10_closeSign_293 nn) (fun _ _ z => z)
set_option maxRecDepth 4000 in
theorem ff_X10_closeSign (nn : Nat) {h : ms_M} : Fm_ (fun c k => nw_F wl_X10_closeSign wf_X10_closeSign false false c k = true) h (qf_X10_closeSign nn h) (fun r => r) := by
  unfold qf_X10_closeSign
  have F_h : ∀ c k : Nat, (fun c k => nw_F wl_X10_closeSign wf_X10_closeSign false false c k = true) c k → h c k = h c k := fun _ _ _ => rfl
  refine fm_xl ?_; intro v60
  refine fm_up F_h (nw_nf rfl) ?_; intro h61 F_h61
  refine fm_rd ?_; intro v64
  refine fm_rd ?_; intro v67
  refine fm_if ?_ ?_
  · exact fm_tl F_h61 (fj_X10_closeSign_42 nn) (fun _ _ z => z)
  · refine fm_if ?_ ?_
    · refine fm_if ?_ ?_
      · exact fm_tl F_h61 (fj_X10_closeSign_71 nn) (fun _ _ z => z)
      · refine fm_if ?_ ?_
        · refine fm_pu ?_; intro u68
          refine fm_if ?_ ?_
          · refine fm_if ?_ ?_
            · exact fm_tl F_h61 (fj_X10_closeSign_207 nn) (fun _ _ z => z)
            · refine fm_if ?_ ?_
              · exact fm_tl F_h61 (fj_X10_closeSign_207 nn) (fun _ _ z => z)
              · refine fm_if ?_ ?_
                · exact fm_tl F_h61 (fj_X10_closeSign_212 nn) (fun _ _ z => z)
                · exact fm_tl F_h61 (fj_X10_closeSign_207 nn) (fun _ _ z => z)
          · refine fm_if ?_ ?_
            · exact fm_tl F_h61 (fj_X10_closeSign_153 nn) (fun _ _ z => z)
            · refine fm_if ?_ ?_
              · exact fm_tl F_h61 (fj_X10_closeSign_153 nn) (fun _ _ z => z)
              · exact fm_tl F_h61 (fj_X10_closeSign_154 nn) (fun _ _ z => z)
        · exact fm_tl F_h61 (fj_X10_closeSign_71 nn) (fun _ _ z => z)
    · exact fm_tl F_h61 (fj_X10_closeSign_42 nn) (fun _ _ z => z)
set_option maxRecDepth 4000 in
theorem fj_X10_openSign_159 (nn : Nat) {h : ms_M} : Fm_ (fun c k => nw_F wl_X10_openSign wf_X10_openSign false false c k = true) h (qj_X10_openSign_159 nn h) (fun r => r) := by
  unfold qj_X10_openSign_159
  have F_h : ∀ c k : Nat, (fun c k => nw_F wl_X10_openSign wf_X10_openSign false false c k = true) c k → h c k = h c k := fun _ _ _ => rfl
  refine fm_xl ?_; intro v3
  refine fm_up F_h (nw_nf rfl) ?_; intro h4 F_h4
  exact fm_ret F_h4
set_option maxRecDepth 4000 in
theorem fj_X10_openSign_149 (nn : Nat) {h : ms_M} : Fm_ (fun c k => nw_F wl_X10_openSign wf_X10_openSign false false c k = true) h (qj_X10_openSign_149 nn h) (fun r => r) := by
  unfold qj_X10_openSign_149
  have F_h : ∀ c k : Nat, (fun c k => nw_F wl_X10_openSign wf_X10_openSign false false c k = true) c k → h c k = h c k := fun _ _ _ => rfl
  refine fm_xl ?_; intro v6
  refine fm_up F_h (nw_nf rfl) ?_; intro h7 F_h7
  exact fm_tl F_h7 (fj_X10_openSign_159 nn) (fun _ _ z => z)
set_option maxRecDepth 4000 in
theorem fj_X10_openSign_144 (nn : Nat) {s0 : Int} {s2 : Int} {h : ms_M} : Fm_ (fun c k => nw_F wl_X10_openSign wf_X10_openSign false false c k = true) h (qj_X10_openSign_144 nn s0 s2 h) (fun r => r) := by
  unfold qj_X10_openSign_144
  have F_h : ∀ c k : Nat, (fun c k => nw_F wl_X10_openSign wf_X10_openSign false false c k = true) c k → h c k = h c k := fun _ _ _ => rfl
  refine fm_ca F_h (ff_X1_jump nn) (nw_sub rfl) ?_; intro u9 F_u9
  refine fm_wA F_u9 (nw_ne rfl) ?_; intro h10 F_h10
  exact fm_tl F_h10 (fj_X10_openSign_149 nn) (fun _ _ z => z)
set_option maxRecDepth 4000 in
theorem fj_X10_openSign_110 (nn : Nat) {l1 : Int} {s0 : Int} {h : ms_M} : Fm_ (fun c k => nw_F wl_X10_openSign wf_X10_openSign false false c k = true) h (qj_X10_openSign_110 nn l1 s0 h) (fun r => r) := by
  unfold qj_X10_openSign_110
  have F_h : ∀ c k : Nat, (fun c k => nw_F wl_X10_openSign wf_X10_openSign false false c k = true) c k → h c k = h c k := fun _ _ _ => rfl
  refine fm_ca F_h (ff_X10_wantType nn) (nw_sub rfl) ?_; intro u13 F_u13
  refine fm_if ?_ ?_
  · exact fm_tl F_u13 (fj_X10_openSign_144 nn) (fun _ _ z => z)
  · exact fm_tl F_u13 (fj_X10_openSign_144 nn) (fun _ _ z => z)
set_option maxRecDepth 4000 in
theorem fj_X10_openSign_94 (nn : Nat) {l1 : Int} {h : ms_M} : Fm_ (fun c k => nw_F wl_X10_openSign wf_X10_openSign false false c k = true) h (qj_X10_openSign_94 nn l1 h) (fun r => r) := by
  unfold qj_X10_openSign_94
  have F_h : ∀ c k : Nat, (fun c k => nw_F wl_X10_openSign wf_X10_openSign false false c k = true) c k → h c k = h c k := fun _ _ _ => rfl
  refine fm_if ?_ ?_
  · exact fm_tl F_h (fj_X10_openSign_110 nn) (fun _ _ z => z)
  · exact fm_tl F_h (fj_X10_openSign_110 nn) (fun _ _ z => z)
set_option maxRecDepth 4000 in
theorem ff_X10_openSign (nn : Nat) {h : ms_M} : Fm_ (fun c k => nw_F wl_X10_openSign wf_X10_openSign false false c k = true) h (qf_X10_openSign nn h) (fun r => r) := by
  unfold qf_X10_openSign
  have F_h : ∀ c k : Nat, (fun c k => nw_F wl_X10_openSign wf_X10_openSign false false c k = true) c k → h c k = h c k := fun _ _ _ => rfl
  refine fm_pu ?_; intro u22
  refine fm_if ?_ ?_
  · exact fm_tl F_h (fj_X10_openSign_159 nn) (fun _ _ z => z)
  · refine fm_wA F_h (nw_ne rfl) ?_; intro h28 F_h28
    refine fm_wA F_h28 (nw_ne rfl) ?_; intro h33 F_h33
    refine fm_wA F_h33 (nw_ne rfl) ?_; intro h37 F_h37
    refine fm_wA F_h37 (nw_ne rfl) ?_; intro h41 F_h41
    refine fm_wA F_h41 (nw_ne rfl) ?_; intro h44 F_h44
    refine fm_if ?_ ?_
    · exact fm_tl F_h44 (fj_X10_openSign_94 nn) (fun _ _ z => z)
    · refine fm_if ?_ ?_
      · exact fm_tl F_h44 (fj_X10_openSign_149 nn) (fun _ _ z => z)
      · exact fm_tl F_h44 (fj_X10_openSign_94 nn) (fun _ _ z => z)
set_option maxRecDepth 4000 in
theorem fj_X10_readNamedClass_23 (nn : Nat) {l2 : Int} {l3 : Int} {h : ms_M} : Fm_ (fun c k => nw_F wl_X10_readNamedClass wf_X10_readNamedClass false false c k = true) h (qj_X10_readNamedClass_23 nn l2 l3 h) (fun r => r.2) := by
  unfold qj_X10_readNamedClass_23
  have F_h : ∀ c k : Nat, (fun c k => nw_F wl_X10_readNamedClass wf_X10_readNamedClass false false c k = true) c k → h c k = h c k := fun _ _ _ => rfl
  refine fm_up F_h (nw_nf rfl) ?_; intro h2 F_h2
  exact fm_ret F_h2
set_option maxRecDepth 4000 in
theorem ff_X10_readNamedClass (nn : Nat) {a1 : Int} {a2 : Int} {h : ms_M} : Fm_ (fun c k => nw_F wl_X10_readNamedClass wf_X10_readNamedClass false false c k = true) h (qf_X10_readNamedClass nn a1 a2 h) (fun r => r.2) := by
  unfold qf_X10_readNamedClass
  have F_h : ∀ c k : Nat, (fun c k => nw_F wl_X10_readNamedClass wf_X10_readNamedClass false false c k = true) c k → h c k = h c k := fun _ _ _ => rfl
  refine fm_pu ?_; intro u5
  refine fm_if ?_ ?_
  · exact fm_tl F_h (fj_X10_readNamedClass_23 nn) (fun _ _ z => z)
  · refine fm_ca F_h (ff_X9_tell nn) (nw_sub rfl) ?_; intro u8 F_u8
    exact fm_tl F_u8 (fj_X10_readNamedClass_23 nn) (fun _ _ z => z)
set_option maxRecDepth 4000 in
theorem fj_X10_wantKinOf_30 (nn : Nat) {l2 : Int} {h : ms_M} : Fm_ (fun c k => nw_F wl_X10_wantKinOf wf_X10_wantKinOf false false c k = true) h (qj_X10_wantKinOf_30 nn l2 h) (fun r => r) := by
  unfold qj_X10_wantKinOf_30
  have F_h : ∀ c k : Nat, (fun c k => nw_F wl_X10_wantKinOf wf_X10_wantKinOf false false c k = true) c k → h c k = h c k := fun _ _ _ => rfl
  refine fm_ca F_h (ff_X10_wantType nn) (nw_sub rfl) ?_; intro u2 F_u2
  exact fm_ret F_u2
set_option maxRecDepth 4000 in
theorem ff_X10_wantKinOf (nn : Nat) {a1 : Int} {a2 : Int} {h : ms_M} : Fm_ (fun c k => nw_F wl_X10_wantKinOf wf_X10_wantKinOf false false c k = true) h (qf_X10_wantKinOf nn a1 a2 h) (fun r => r) := by
  unfold qf_X10_wantKinOf
  have F_h : ∀ c k : Nat, (fun c k => nw_F wl_X10_wantKinOf wf_X10_wantKinOf false false c k = true) c k → h c k = h c k := fun _ _ _ => rfl
  refine fm_pu ?_; intro u4
  refine fm_if ?_ ?_
  · exact fm_tl F_h (fj_X10_wantKinOf_30 nn) (fun _ _ z => z)
  · refine fm_pu ?_; intro u8
    refine fm_if ?_ ?_
    · exact fm_tl F_h (fj_X10_wantKinOf_30 nn) (fun _ _ z => z)
    · refine fm_ca F_h (ff_X10_wantType nn) (nw_sub rfl) ?_; intro u10 F_u10
      exact fm_ret F_u10
set_option maxRecDepth 4000 in
theorem ff_X1_op_ (nn : Nat) {a1 : Int} {a2 : Int} {h : ms_M} : Fm_ (fun c k => nw_F wl_X1_op_ wf_X1_op_ false false c k = true) h (qf_X1_op_ nn a1 a2 h) (fun r => r) := by
  unfold qf_X1_op_
  have F_h : ∀ c k : Nat, (fun c k => nw_F wl_X1_op_ wf_X1_op_ false false c k = true) c k → h c k = h c k := fun _ _ _ => rfl
  refine fm_ca F_h (ff_X1_op nn) (nw_sub rfl) ?_; intro u2 F_u2
  refine fm_ca F_u2 (ff_X1_op nn) (nw_sub rfl) ?_; intro u4 F_u4
  exact fm_ret F_u4
set_option maxRecDepth 4000 in
theorem fj_X10_readInstanceof_66 (nn : Nat) {h : ms_M} : Fm_ (fun c k => nw_F wl_X10_readInstanceof wf_X10_readInstanceof false false c k = true) h (qj_X10_readInstanceof_66 nn h) (fun r => r) := by
  unfold qj_X10_readInstanceof_66
  have F_h : ∀ c k : Nat, (fun c k => nw_F wl_X10_readInstanceof wf_X10_readInstanceof false false c k = true) c k → h c k = h c k := fun _ _ _ => rfl
  refine fm_up F_h (nw_nf rfl) ?_; intro h1 F_h1
  refine fm_up F_h1 (nw_nf rfl) ?_; intro h2 F_h2
  exact fm_ret F_h2
set_option maxRecDepth 4000 in
theorem ff_X10_readInstanceof (nn : Nat) {h : ms_M} : Fm_ (fun c k => nw_F wl_X10_readInstanceof wf_X10_readInstanceof false false c k = true) h (qf_X10_readInstanceof nn h) (fun r => r) := by
  unfold qf_X10_readInstanceof
  have F_h : ∀ c k : Nat, (fun c k => nw_F wl_X10_readInstanceof wf_X10_readInstanceof false false c k = true) c k → h c k = h c k := fun _ _ _ => rfl
  refine fm_xl ?_; intro v5
  refine fm_xl ?_; intro v6
  refine fm_ca F_h (ff_X10_readNamedClass nn) (nw_sub rfl) ?_; intro u8 F_u8
  refine fm_if ?_ ?_
  · exact fm_tl F_u8 (fj_X10_readInstanceof_66 nn) (fun _ _ z => z)
  · refine fm_ca F_u8 (ff_X10_wantKinOf nn) (nw_sub rfl) ?_; intro u10 F_u10
    refine fm_ca F_u10 (ff_X6_classOf nn) (nw_sub rfl) ?_; intro u14 F_u14
    refine fm_ca F_u14 (ff_X1_op_ nn) (nw_sub rfl) ?_; intro u16 F_u16
    refine fm_ca F_u16 (ff_X1_pop nn) (nw_sub rfl) ?_; intro u19 F_u19
    refine fm_ca F_u19 (ff_X1_push nn) (nw_sub rfl) ?_; intro u22 F_u22
    exact fm_tl F_u22 (fj_X10_readInstanceof_66 nn) (fun _ _ z => z)
set_option maxRecDepth 4000 in
theorem ff_X10_closeCast (nn : Nat) {a1 : Int} {a2 : Int} {h : ms_M} : Fm_ (fun c k => nw_F wl_X10_closeCast wf_X10_closeCast false false c k = true) h (qf_X10_closeCast nn a1 a2 h) (fun r => r) := by
  unfold qf_X10_closeCast
  have F_h : ∀ c k : Nat, (fun c k => nw_F wl_X10_closeCast wf_X10_closeCast false false c k = true) c k → h c k = h c k := fun _ _ _ => rfl
  refine fm_up F_h (nw_nf rfl) ?_; intro h1 F_h1
  refine fm_if ?_ ?_
  · refine fm_ca F_h1 (ff_X10_wantKinOf nn) (nw_sub rfl) ?_; intro u3 F_u3
    refine fm_ca F_u3 (ff_X6_classOf nn) (nw_sub rfl) ?_; intro u7 F_u7
    refine fm_ca F_u7 (ff_X1_op_ nn) (nw_sub rfl) ?_; intro u9 F_u9
    refine fm_ca F_u9 (ff_X1_pop nn) (nw_sub rfl) ?_; intro u12 F_u12
    refine fm_ca F_u12 (ff_X1_push nn) (nw_sub rfl) ?_; intro u15 F_u15
    refine fm_up F_u15 (nw_nf rfl) ?_; intro h16 F_h16
    exact fm_ret F_h16
  · exact fm_ret F_h1
set_option maxRecDepth 4000 in
theorem fj_X10_closeUnary_62 (nn : Nat) {l1 : Int} {l2 : Int} {s0 : Int} {h : ms_M} : Fm_ (fun c k => nw_F wl_X10_closeUnary wf_X10_closeUnary false false c k = true) h (qj_X10_closeUnary_62 nn l1 l2 s0 h) (fun r => r) := by
  unfold qj_X10_closeUnary_62
  have F_h : ∀ c k : Nat, (fun c k => nw_F wl_X10_closeUnary wf_X10_closeUnary false false c k = true) c k → h c k = h c k := fun _ _ _ => rfl
  refine fm_ca F_h (ff_X10_wantType nn) (nw_sub rfl) ?_; intro u2 F_u2
  refine fm_if ?_ ?_
  · refine fm_ca F_u2 (ff_X1_push nn) (nw_sub rfl) ?_; intro u5 F_u5
    refine fm_ca F_u5 (ff_X1_op_ nn) (nw_sub rfl) ?_; intro u8 F_u8
    refine fm_ca F_u8 (ff_X1_pop nn) (nw_sub rfl) ?_; intro u11 F_u11
    exact fm_ret F_u11
  · refine fm_ca F_u2 (ff_X1_op nn) (nw_sub rfl) ?_; intro u14 F_u14
    exact fm_ret F_u14
set_option maxRecDepth 4000 in
theorem fj_X10_closeUnary_27 (nn : Nat) {s0 : Int} {h : ms_M} : Fm_ (fun c k => nw_F wl_X10_closeUnary wf_X10_closeUnary false false c k = true) h (qj_X10_closeUnary_27 nn s0 h) (fun r => r) := by
  unfold qj_X10_closeUnary_27
  have F_h : ∀ c k : Nat, (fun c k => nw_F wl_X10_closeUnary wf_X10_closeUnary false false c k = true) c k → h c k = h c k := fun _ _ _ => rfl
  refine fm_ca F_h (ff_X10_wantType nn) (nw_sub rfl) ?_; intro u18 F_u18
  refine fm_ca F_u18 (ff_X1_truth nn) (nw_sub rfl) ?_; intro u21 F_u21
  exact fm_ret F_u21
set_option maxRecDepth 4000 in
theorem ff_X10_closeUnary (nn : Nat) {a1 : Int} {a2 : Int} {h : ms_M} : Fm_ (fun c k => nw_F wl_X10_closeUnary wf_X10_closeUnary false false c k = true) h (qf_X10_closeUnary nn a1 a2 h) (fun r => r) := by
  unfold qf_X10_closeUnary
  have F_h : ∀ c k : Nat, (fun c k => nw_F wl_X10_closeUnary wf_X10_closeUnary false false c k = true) c k → h c k = h c k := fun _ _ _ => rfl
  refine fm_up F_h (nw_nf rfl) ?_; intro h22 F_h22
  refine fm_if ?_ ?_
  · refine fm_if ?_ ?_
    · exact fm_tl F_h22 (fj_X10_closeUnary_62 nn) (fun _ _ z => z)
    · exact fm_tl F_h22 (fj_X10_closeUnary_62 nn) (fun _ _ z => z)
  · refine fm_if ?_ ?_
    · exact fm_tl F_h22 (fj_X10_closeUnary_27 nn) (fun _ _ z => z)
    · exact fm_tl F_h22 (fj_X10_closeUnary_27 nn) (fun _ _ z => z)
set_option maxRecDepth 4000 in
theorem ff_X6_fieldOf (nn : Nat) {a1 : Int} {a2 : Int} {h : ms_M} : Fm_ (fun c k => nw_F wl_X6_fieldOf wf_X6_fieldOf false false c k = true) h (qf_X6_fieldOf nn a1 a2 h) (fun r => r.2) := by
  unfold qf_X6_fieldOf
  have F_h : ∀ c k : Nat, (fun c k => nw_F wl_X6_fieldOf wf_X6_fieldOf false false c k = true) c k → h c k = h c k := fun _ _ _ => rfl
  refine fm_ca F_h (ff_X6_classOf nn) (nw_sub rfl) ?_; intro u2 F_u2
  refine fm_pu ?_; intro u5
  refine fm_ca F_u2 (ff_X6_constant nn) (nw_sub rfl) ?_; intro u7 F_u7
  refine fm_xl ?_; intro v8
  refine fm_xl ?_; intro v9
  refine fm_xl ?_; intro v10
  refine fm_pu ?_; intro u13
  refine fm_ca F_u7 (ff_X6_constant nn) (nw_sub rfl) ?_; intro u15 F_u15
  refine fm_xl ?_; intro v16
  refine fm_ca F_u15 (ff_X6_constant nn) (nw_sub rfl) ?_; intro u18 F_u18
  exact fm_ret F_u18
set_option maxRecDepth 4000 in
theorem fj_X10_fetch_135 (nn : Nat) {h : ms_M} : Fm_ (fun c k => nw_F wl_X10_fetch wf_X10_fetch false false c k = true) h (qj_X10_fetch_135 nn h) (fun r => r) := by
  unfold qj_X10_fetch_135
  have F_h : ∀ c k : Nat, (fun c k => nw_F wl_X10_fetch wf_X10_fetch false false c k = true) c k → h c k = h c k := fun _ _ _ => rfl
  refine fm_ca F_h (ff_X1_push nn) (nw_sub rfl) ?_; intro u4 F_u4
  refine fm_up F_u4 (nw_nf rfl) ?_; intro h5 F_h5
  exact fm_ret F_h5
set_option maxRecDepth 4000 in
theorem fj_X10_fetch_120 (nn : Nat) {s0 : Int} {h : ms_M} : Fm_ (fun c k => nw_F wl_X10_fetch wf_X10_fetch false false c k = true) h (qj_X10_fetch_120 nn s0 h) (fun r => r) := by
  unfold qj_X10_fetch_120
  have F_h : ∀ c k : Nat, (fun c k => nw_F wl_X10_fetch wf_X10_fetch false false c k = true) c k → h c k = h c k := fun _ _ _ => rfl
  refine fm_ca F_h (ff_X1_op nn) (nw_sub rfl) ?_; intro u7 F_u7
  refine fm_ca F_u7 (ff_X1_pop nn) (nw_sub rfl) ?_; intro u10 F_u10
  exact fm_tl F_u10 (fj_X10_fetch_135 nn) (fun _ _ z => z)
set_option maxRecDepth 4000 in
theorem fj_X10_fetch_53 (nn : Nat) {s0 : Int} {h : ms_M} : Fm_ (fun c k => nw_F wl_X10_fetch wf_X10_fetch false false c k = true) h (qj_X10_fetch_53 nn s0 h) (fun r => r) := by
  unfold qj_X10_fetch_53
  have F_h : ∀ c k : Nat, (fun c k => nw_F wl_X10_fetch wf_X10_fetch false false c k = true) c k → h c k = h c k := fun _ _ _ => rfl
  refine fm_ca F_h (ff_X1_op_ nn) (nw_sub rfl) ?_; intro u13 F_u13
  exact fm_tl F_u13 (fj_X10_fetch_135 nn) (fun _ _ z => z)
set_option maxRecDepth 4000 in
theorem ff_X10_fetch (nn : Nat) {h : ms_M} : Fm_ (fun c k => nw_F wl_X10_fetch wf_X10_fetch false false c k = true) h (qf_X10_fetch nn h) (fun r => r) := by
  unfold qf_X10_fetch
  have F_h : ∀ c k : Nat, (fun c k => nw_F wl_X10_fetch wf_X10_fetch false false c k = true) c k → h c k = h c k := fun _ _ _ => rfl
  refine fm_if ?_ ?_
  · refine fm_pu ?_; intro u17
    refine fm_if ?_ ?_
    · exact fm_tl F_h (fj_X10_fetch_53 nn) (fun _ _ z => z)
    · exact fm_tl F_h (fj_X10_fetch_53 nn) (fun _ _ z => z)
  · refine fm_if ?_ ?_
    · refine fm_ca F_h (ff_X6_fieldOf nn) (nw_sub rfl) ?_; intro u24 F_u24
      refine fm_ca F_u24 (ff_X1_op_ nn) (nw_sub rfl) ?_; intro u26 F_u26
      refine fm_ca F_u26 (ff_X1_pop nn) (nw_sub rfl) ?_; intro u29 F_u29
      exact fm_tl F_u29 (fj_X10_fetch_135 nn) (fun _ _ z => z)
    · refine fm_if ?_ ?_
      · refine fm_if ?_ ?_
        · exact fm_tl F_h (fj_X10_fetch_120 nn) (fun _ _ z => z)
        · exact fm_tl F_h (fj_X10_fetch_120 nn) (fun _ _ z => z)
      · exact fm_ret F_h
set_option maxRecDepth 4000 in
theorem ff_X10_give (nn : Nat) {a1 : Int} {h : ms_M} : Fm_ (fun c k => nw_F wl_X10_give wf_X10_give false false c k = true) h (qf_X10_give nn a1 h) (fun r => r) := by
  unfold qf_X10_give
  have F_h : ∀ c k : Nat, (fun c k => nw_F wl_X10_give wf_X10_give false false c k = true) c k → h c k = h c k := fun _ _ _ => rfl
  refine fm_ca F_h (ff_X1_push nn) (nw_sub rfl) ?_; intro u3 F_u3
  refine fm_up F_u3 (nw_nf rfl) ?_; intro h4 F_h4
  refine fm_up F_h4 (nw_nf rfl) ?_; intro h5 F_h5
  exact fm_ret F_h5
set_option maxRecDepth 4000 in
theorem ff_X10_nameField (nn : Nat) {a1 : Int} {a2 : Int} {h : ms_M} : Fm_ (fun c k => nw_F wl_X10_nameField wf_X10_nameField false false c k = true) h (qf_X10_nameField nn a1 a2 h) (fun r => r) := by
  unfold qf_X10_nameField
  have F_h : ∀ c k : Nat, (fun c k => nw_F wl_X10_nameField wf_X10_nameField false false c k = true) c k → h c k = h c k := fun _ _ _ => rfl
  refine fm_up F_h (nw_nf rfl) ?_; intro h1 F_h1
  refine fm_up F_h1 (nw_nf rfl) ?_; intro h2 F_h2
  refine fm_up F_h2 (nw_nf rfl) ?_; intro h3 F_h3
  refine fm_pu ?_; intro u6
  refine fm_up F_h3 (nw_nf rfl) ?_; intro h7 F_h7
  exact fm_ret F_h7
set_option maxRecDepth 4000 in
theorem fj_X10_closeCall_45 (nn : Nat) {l1 : Int} {h : ms_M} : Fm_ (fun c k => nw_F wl_X10_closeCall wf_X10_closeCall false false c k = true) h (qj_X10_closeCall_45 nn l1 h) (fun r => r) := by
  unfold qj_X10_closeCall_45
  have F_h : ∀ c k : Nat, (fun c k => nw_F wl_X10_closeCall wf_X10_closeCall false false c k = true) c k → h c k = h c k := fun _ _ _ => rfl
  refine fm_up F_h (nw_nf rfl) ?_; intro h1 F_h1
  refine fm_up F_h1 (nw_nf rfl) ?_; intro h2 F_h2
  exact fm_ret F_h2
set_option maxRecDepth 4000 in
theorem fj_X10_closeCall_35 (nn : Nat) {l1 : Int} {l2 : Int} {h : ms_M} : Fm_ (fun c k => nw_F wl_X10_closeCall wf_X10_closeCall false false c k = true) h (qj_X10_closeCall_35 nn l1 l2 h) (fun r => r) := by
  unfold qj_X10_closeCall_35
  have F_h : ∀ c k : Nat, (fun c k => nw_F wl_X10_closeCall wf_X10_closeCall false false c k = true) c k → h c k = h c k := fun _ _ _ => rfl
  refine fm_ca F_h (ff_X9_tell nn) (nw_sub rfl) ?_; intro u5 F_u5
  exact fm_tl F_u5 (fj_X10_closeCall_45 nn) (fun _ _ z => z)
set_option maxRecDepth 4000 in
theorem ff_X10_closeCall (nn : Nat) {a1 : Int} {a2 : Int} {a3 : Int} {h : ms_M} : Fm_ (fun c k => nw_F wl_X10_closeCall wf_X10_closeCall false false c k = true) h (qf_X10_closeCall nn a1 a2 a3 h) (fun r => r) := by
  unfold qf_X10_closeCall
  have F_h : ∀ c k : Nat, (fun c k => nw_F wl_X10_closeCall wf_X10_closeCall false false c k = true) c k → h c k = h c k := fun _ _ _ => rfl
  refine fm_if ?_ ?_
  · refine fm_if ?_ ?_
    · exact fm_tl F_h (fj_X10_closeCall_35 nn) (fun _ _ z => z)
    · refine fm_pu ?_; intro u9
      refine fm_if ?_ ?_
      · exact fm_tl F_h (fj_X10_closeCall_45 nn) (fun _ _ z => z)
      · exact fm_tl F_h (fj_X10_closeCall_35 nn) (fun _ _ z => z)
  · refine fm_ca F_h (ff_X10_give nn) (nw_sub rfl) ?_; intro u13 F_u13
    exact fm_tl F_u13 (fj_X10_closeCall_45 nn) (fun _ _ z => z)
set_option maxRecDepth 4000 in
theorem ff_X6_methodOf (nn : Nat) {a1 : Int} {a2 : Int} {h : ms_M} : Fm_ (fun c k => nw_F wl_X6_methodOf wf_X6_methodOf false false c k = true) h (qf_X6_methodOf nn a1 a2 h) (fun r => r.2) := by
  unfold qf_X6_methodOf
  have F_h : ∀ c k : Nat, (fun c k => nw_F wl_X6_methodOf wf_X6_methodOf false false c k = true) c k → h c k = h c k := fun _ _ _ => rfl
  refine fm_ca F_h (ff_X6_classOf nn) (nw_sub rfl) ?_; intro u2 F_u2
  refine fm_pu ?_; intro u5
  refine fm_ca F_u2 (ff_X6_constant nn) (nw_sub rfl) ?_; intro u7 F_u7
  refine fm_xl ?_; intro v8
  refine fm_xl ?_; intro v9
  refine fm_xl ?_; intro v10
  refine fm_pu ?_; intro u13
  refine fm_ca F_u7 (ff_X6_constant nn) (nw_sub rfl) ?_; intro u15 F_u15
  refine fm_xl ?_; intro v16
  refine fm_ca F_u15 (ff_X6_constant nn) (nw_sub rfl) ?_; intro u18 F_u18
  exact fm_ret F_u18
set_option maxRecDepth 4000 in
theorem fj_X10_giveThis_17 (nn : Nat) {h : ms_M} : Fm_ (fun c k => nw_F wl_X10_giveThis wf_X10_giveThis false false c k = true) h (qj_X10_giveThis_17 nn h) (fun r => r) := by
  unfold qj_X10_giveThis_17
  have F_h : ∀ c k : Nat, (fun c k => nw_F wl_X10_giveThis wf_X10_giveThis false false c k = true) c k → h c k = h c k := fun _ _ _ => rfl
  refine fm_ca F_h (ff_X1_op_ nn) (nw_sub rfl) ?_; intro u3 F_u3
  refine fm_ca F_u3 (ff_X10_give nn) (nw_sub rfl) ?_; intro u6 F_u6
  exact fm_ret F_u6
set_option maxRecDepth 4000 in
theorem ff_X10_giveThis (nn : Nat) {a1 : Int} {h : ms_M} : Fm_ (fun c k => nw_F wl_X10_giveThis wf_X10_giveThis false false c k = true) h (qf_X10_giveThis nn a1 h) (fun r => r) := by
  unfold qf_X10_giveThis
  have F_h : ∀ c k : Nat, (fun c k => nw_F wl_X10_giveThis wf_X10_giveThis false false c k = true) c k → h c k = h c k := fun _ _ _ => rfl
  refine fm_if ?_ ?_
  · exact fm_tl F_h (fj_X10_giveThis_17 nn) (fun _ _ z => z)
  · refine fm_ca F_h (ff_X9_tell nn) (nw_sub rfl) ?_; intro u10 F_u10
    exact fm_tl F_u10 (fj_X10_giveThis_17 nn) (fun _ _ z => z)
set_option maxRecDepth 4000 in
theorem ff_X6_numberOf (nn : Nat) {a1 : Int} {h : ms_M} : Fm_ (fun c k => nw_F wl_X6_numberOf wf_X6_numberOf false false c k = true) h (qf_X6_numberOf nn a1 h) (fun r => r.2) := by
  unfold qf_X6_numberOf
  have F_h : ∀ c k : Nat, (fun c k => nw_F wl_X6_numberOf wf_X6_numberOf false false c k = true) c k → h c k = h c k := fun _ _ _ => rfl
  refine fm_ca F_h (ff_X6_constant nn) (nw_sub rfl) ?_; intro u2 F_u2
  exact fm_ret F_u2
set_option maxRecDepth 4000 in
theorem fj_X10_readNumber_54 (nn : Nat) {h : ms_M} : Fm_ (fun c k => nw_F wl_X10_readNumber wf_X10_readNumber false false c k = true) h (qj_X10_readNumber_54 nn h) (fun r => r) := by
  unfold qj_X10_readNumber_54
  have F_h : ∀ c k : Nat, (fun c k => nw_F wl_X10_readNumber wf_X10_readNumber false false c k = true) c k → h c k = h c k := fun _ _ _ => rfl
  refine fm_ca F_h (ff_X10_give nn) (nw_sub rfl) ?_; intro u2 F_u2
  exact fm_ret F_u2
set_option maxRecDepth 4000 in
theorem ff_X10_readNumber (nn : Nat) {a1 : Int} {h : ms_M} : Fm_ (fun c k => nw_F wl_X10_readNumber wf_X10_readNumber false false c k = true) h (qf_X10_readNumber nn a1 h) (fun r => r) := by
  unfold qf_X10_readNumber
  have F_h : ∀ c k : Nat, (fun c k => nw_F wl_X10_readNumber wf_X10_readNumber false false c k = true) c k → h c k = h c k := fun _ _ _ => rfl
  refine fm_if ?_ ?_
  · refine fm_if ?_ ?_
    · refine fm_ca F_h (ff_X6_numberOf nn) (nw_sub rfl) ?_; intro u6 F_u6
      refine fm_ca F_u6 (ff_X1_op_ nn) (nw_sub rfl) ?_; intro u8 F_u8
      exact fm_tl F_u8 (fj_X10_readNumber_54 nn) (fun _ _ z => z)
    · refine fm_ca F_h (ff_X1_op_ nn) (nw_sub rfl) ?_; intro u11 F_u11
      exact fm_tl F_u11 (fj_X10_readNumber_54 nn) (fun _ _ z => z)
  · refine fm_xl ?_; intro v14
    refine fm_ca F_h (ff_X1_op nn) (nw_sub rfl) ?_; intro u16 F_u16
    exact fm_tl F_u16 (fj_X10_readNumber_54 nn) (fun _ _ z => z)
set_option maxRecDepth 4000 in
theorem ff_X10_readConstant (nn : Nat) {h : ms_M} : Fm_ (fun c k => nw_F wl_X10_readConstant wf_X10_readConstant false false c k = true) h (qf_X10_readConstant nn h) (fun r => r) := by
  unfold qf_X10_readConstant
  have F_h : ∀ c k : Nat, (fun c k => nw_F wl_X10_readConstant wf_X10_readConstant false false c k = true) c k → h c k = h c k := fun _ _ _ => rfl
  refine fm_xl ?_; intro v5
  refine fm_up F_h (nw_nf rfl) ?_; intro h6 F_h6
  refine fm_pu ?_; intro u9
  refine fm_if ?_ ?_
  · refine fm_pu ?_; intro u14
    refine fm_ca F_h6 (ff_X10_readNumber nn) (nw_sub rfl) ?_; intro u16 F_u16
    exact fm_ret F_u16
  · refine fm_if ?_ ?_
    · refine fm_ca F_h6 (ff_X1_op nn) (nw_sub rfl) ?_; intro u19 F_u19
      refine fm_ca F_u19 (ff_X10_give nn) (nw_sub rfl) ?_; intro u21 F_u21
      exact fm_ret F_u21
    · refine fm_if ?_ ?_
      · refine fm_ca F_h6 (ff_X1_op nn) (nw_sub rfl) ?_; intro u24 F_u24
        refine fm_ca F_u24 (ff_X10_give nn) (nw_sub rfl) ?_; intro u26 F_u26
        exact fm_ret F_u26
      · refine fm_if ?_ ?_
        · refine fm_ca F_h6 (ff_X1_op nn) (nw_sub rfl) ?_; intro u29 F_u29
          refine fm_ca F_u29 (ff_X10_give nn) (nw_sub rfl) ?_; intro u31 F_u31
          exact fm_ret F_u31
        · refine fm_ca F_h6 (ff_X10_giveThis nn) (nw_sub rfl) ?_; intro u11 F_u11
          exact fm_ret F_u11
set_option maxRecDepth 4000 in
theorem ff_X10_methodNamed (nn : Nat) {a1 : Int} {a2 : Int} {h : ms_M} : Fm_ (fun c k => nw_F wl_X10_methodNamed wf_X10_methodNamed false false c k = true) h (qf_X10_methodNamed nn a1 a2 h) (fun r => r.2) := by
  unfold qf_X10_methodNamed
  have F_h : ∀ c k : Nat, (fun c k => nw_F wl_X10_methodNamed wf_X10_methodNamed false false c k = true) c k → h c k = h c k := fun _ _ _ => rfl
  refine fm_pu ?_; intro u4
  refine fm_pu ?_; intro u6
  refine fm_if ?_ ?_
  · exact fm_ret F_h
  · refine fm_ca F_h (ff_X9_tell nn) (nw_sub rfl) ?_; intro u9 F_u9
    exact fm_ret F_u9
def fgr_X10_readValue (rc : tq_X10_readValue) : Prop := (∀ {a1 : Int} {h : ms_M}, Fm_ (fun c k => nw_F wl_X10_readValue wf_X10_readValue false false c k = true) h (rc.1 a1 h) (fun r => r)) ∧ (∀ {a1 : Int} {a2 : Int} {h : ms_M}, Fm_ (fun c k => nw_F wl_X10_readChoice wf_X10_readChoice false false c k = true) h (rc.2.1 a1 a2 h) (fun r => r)) ∧ (∀ {a1 : Int} {h : ms_M}, Fm_ (fun c k => nw_F wl_X10_readUnary wf_X10_readUnary false false c k = true) h (rc.2.2.1 a1 h) (fun r => r)) ∧ (∀ {a1 : Int} {h : ms_M}, Fm_ (fun c k => nw_F wl_X10_readPrimary wf_X10_readPrimary false false c k = true) h (rc.2.2.2.1 a1 h) (fun r => r)) ∧ (∀ {a1 : Int} {h : ms_M}, Fm_ (fun c k => nw_F wl_X10_readNew wf_X10_readNew false false c k = true) h (rc.2.2.2.2.1 a1 h) (fun r => r)) ∧ (∀ {a1 : Int} {h : ms_M}, Fm_ (fun c k => nw_F wl_X10_readElement wf_X10_readElement false false c k = true) h (rc.2.2.2.2.2.1 a1 h) (fun r => r)) ∧ (∀ {a1 : Int} {h : ms_M}, Fm_ (fun c k => nw_F wl_X10_readNamed wf_X10_readNamed false false c k = true) h (rc.2.2.2.2.2.2.1 a1 h) (fun r => r)) ∧ (∀ {a1 : Int} {a2 : Int} {h : ms_M}, Fm_ (fun c k => nw_F wl_X10_readBehindPoint wf_X10_readBehindPoint false false c k = true) h (rc.2.2.2.2.2.2.2.1 a1 a2 h) (fun r => r)) ∧ (∀ {a1 : Int} {a2 : Int} {a3 : Int} {a4 : Int} {a5 : Int} {a6 : Int} {h : ms_M}, Fm_ (fun c k => nw_F wl_X10_readCall wf_X10_readCall false false c k = true) h (rc.2.2.2.2.2.2.2.2 a1 a2 a3 a4 a5 a6 h) (fun r => r))
set_option maxRecDepth 4000 in
theorem fj_X10_readValue_156 (nn : Nat) {rc : tq_X10_readValue} (hr : fgr_X10_readValue rc) {l1 : Int} {l2 : Int} {h : ms_M} : Fm_ (fun c k => nw_F wl_X10_readValue wf_X10_readValue false false c k = true) h (qj_X10_readValue_156 nn rc l1 l2 h) (fun r => r) := by
  unfold qj_X10_readValue_156
  have F_h : ∀ c k : Nat, (fun c k => nw_F wl_X10_readValue wf_X10_readValue false false c k = true) c k → h c k = h c k := fun _ _ _ => rfl
  refine fm_pu ?_; intro u3
  refine fm_if ?_ ?_
  · exact fm_ret F_h
  · refine fm_ca F_h (hr.2.1) (fun _ _ z => z) ?_; intro u5 F_u5
    exact fm_ret F_u5
set_option maxRecDepth 4000 in
theorem fw_X10_readValue_129 (nn : Nat) {rc : tq_X10_readValue} (hr : fgr_X10_readValue rc) : ∀ (k : Nat) {l1 : Int} {l2 : Int} {l3 : Int} {l4 : Int} {h : ms_M}, Fm_ (fun c k => nw_F wl_X10_readValue wf_X10_readValue false false c k = true) h (qw_X10_readValue_129 nn rc k l1 l2 l3 l4 h) (fun r => r) := by
  intro k
  induction k with
  | zero => intros; exact fm_no
  | succ k ih =>
    intro l1 l2 l3 l4 h
    unfold qw_X10_readValue_129
    have F_h : ∀ c k : Nat, (fun c k => nw_F wl_X10_readValue wf_X10_readValue false false c k = true) c k → h c k = h c k := fun _ _ _ => rfl
    refine fm_if ?_ ?_
    · exact fm_tl F_h (fj_X10_readValue_156 nn hr) (fun _ _ z => z)
    · refine fm_pu ?_; intro u8
      refine fm_if ?_ ?_
      · exact fm_tl F_h (fj_X10_readValue_156 nn hr) (fun _ _ z => z)
      · refine fm_ca F_h (ff_X10_closeSign nn) (nw_sub rfl) ?_; intro u10 F_u10
        refine fm_xl ?_; intro v11
        exact fm_tl F_u10 (ih ) (fun _ _ z => z)
set_option maxRecDepth 4000 in
theorem fj_X10_readValue_90 (nn : Nat) {rc : tq_X10_readValue} (hr : fgr_X10_readValue rc) {qkk_30 : Int → Int → Int → Int → ms_M → Option ms_M} (hk_kk_30 : ∀ {l1 : Int} {l2 : Int} {l3 : Int} {l4 : Int} {h : ms_M}, Fm_ (fun c k => nw_F wl_X10_readValue wf_X10_readValue false false c k = true) h (qkk_30 l1 l2 l3 l4 h) (fun r => r)) {l1 : Int} {l2 : Int} {l3 : Int} {l4 : Int} {h : ms_M} : Fm_ (fun c k => nw_F wl_X10_readValue wf_X10_readValue false false c k = true) h (qj_X10_readValue_90 nn rc qkk_30 l1 l2 l3 l4 h) (fun r => r) := by
  unfold qj_X10_readValue_90
  have F_h : ∀ c k : Nat, (fun c k => nw_F wl_X10_readValue wf_X10_readValue false false c k = true) c k → h c k = h c k := fun _ _ _ => rfl
  refine fm_pu ?_; intro u16
  refine fm_if ?_ ?_
  · refine fm_ca F_h (ff_X10_openSign nn) (nw_sub rfl) ?_; intro u18 F_u18
    refine fm_xl ?_; intro v19
    refine fm_ca F_u18 (hr.2.2.1) (fun _ _ z => z) ?_; intro u21 F_u21
    refine fm_xl ?_; intro v22
    exact fm_tl F_u21 (hk_kk_30) (fun _ _ z => z)
  · refine fm_ca F_h (ff_X10_readInstanceof nn) (nw_sub rfl) ?_; intro u24 F_u24
    refine fm_xl ?_; intro v25
    exact fm_tl F_u24 (hk_kk_30) (fun _ _ z => z)
set_option maxRecDepth 4000 in
theorem fw_X10_readValue_54 (nn : Nat) {rc : tq_X10_readValue} (hr : fgr_X10_readValue rc) {qkk_30 : Int → Int → Int → Int → ms_M → Option ms_M} (hk_kk_30 : ∀ {l1 : Int} {l2 : Int} {l3 : Int} {l4 : Int} {h : ms_M}, Fm_ (fun c k => nw_F wl_X10_readValue wf_X10_readValue false false c k = true) h (qkk_30 l1 l2 l3 l4 h) (fun r => r)) : ∀ (k : Nat) {l1 : Int} {l2 : Int} {l3 : Int} {l4 : Int} {l5 : Int} {h : ms_M}, Fm_ (fun c k => nw_F wl_X10_readValue wf_X10_readValue false false c k = true) h (qw_X10_readValue_54 nn rc qkk_30 k l1 l2 l3 l4 l5 h) (fun r => r) := by
  intro k
  induction k with
  | zero => intros; exact fm_no
  | succ k ih =>
    intro l1 l2 l3 l4 l5 h
    unfold qw_X10_readValue_54
    have F_h : ∀ c k : Nat, (fun c k => nw_F wl_X10_readValue wf_X10_readValue false false c k = true) c k → h c k = h c k := fun _ _ _ => rfl
    refine fm_if ?_ ?_
    · exact fm_tl F_h (fj_X10_readValue_90 nn hr hk_kk_30) (fun _ _ z => z)
    · refine fm_pu ?_; intro u29
      refine fm_pu ?_; intro u30
      refine fm_pu ?_; intro u32
      refine fm_if ?_ ?_
      · exact fm_tl F_h (fj_X10_readValue_90 nn hr hk_kk_30) (fun _ _ z => z)
      · refine fm_ca F_h (ff_X10_closeSign nn) (nw_sub rfl) ?_; intro u34 F_u34
        refine fm_xl ?_; intro v35
        exact fm_tl F_u34 (ih ) (fun _ _ z => z)
set_option maxRecDepth 4000 in
theorem fw_X10_readValue_30 (nn : Nat) {rc : tq_X10_readValue} (hr : fgr_X10_readValue rc) : ∀ (k : Nat) {l1 : Int} {l2 : Int} {l3 : Int} {l4 : Int} {h : ms_M}, Fm_ (fun c k => nw_F wl_X10_readValue wf_X10_readValue false false c k = true) h (qw_X10_readValue_30 nn rc k l1 l2 l3 l4 h) (fun r => r) := by
  intro k
  induction k with
  | zero => intros; exact fm_no
  | succ k ih =>
    intro l1 l2 l3 l4 h
    unfold qw_X10_readValue_30
    have F_h : ∀ c k : Nat, (fun c k => nw_F wl_X10_readValue wf_X10_readValue false false c k = true) c k → h c k = h c k := fun _ _ _ => rfl
    refine fm_if ?_ ?_
    · exact fm_tl F_h (fw_X10_readValue_129 nn hr _) (fun _ _ z => z)
    · refine fm_pu ?_; intro u40
      refine fm_pu ?_; intro u41
      refine fm_if ?_ ?_
      · exact fm_tl F_h (fw_X10_readValue_129 nn hr _) (fun _ _ z => z)
      · exact fm_tl F_h (fw_X10_readValue_54 nn hr ih _) (fun _ _ z => z)
set_option maxRecDepth 4000 in
theorem fo_X10_readValue (nn : Nat) {rc : tq_X10_readValue} (hr : fgr_X10_readValue rc) {a1 : Int} {h : ms_M} : Fm_ (fun c k => nw_F wl_X10_readValue wf_X10_readValue false false c k = true) h (qo_X10_readValue nn rc a1 h) (fun r => r) := by
  unfold qo_X10_readValue
  have F_h : ∀ c k : Nat, (fun c k => nw_F wl_X10_readValue wf_X10_readValue false false c k = true) c k → h c k = h c k := fun _ _ _ => rfl
  refine fm_if ?_ ?_
  · refine fm_xl ?_; intro v47
    refine fm_ca F_h (hr.2.2.1) (fun _ _ z => z) ?_; intro u49 F_u49
    exact fm_tl F_u49 (fw_X10_readValue_30 nn hr _) (fun _ _ z => z)
  · exact fm_ret F_h
set_option maxRecDepth 4000 in
theorem fj_X10_readChoice_158 (nn : Nat) {rc : tq_X10_readValue} (hr : fgr_X10_readValue rc) {l6 : Int} {s0 : Int} {h : ms_M} : Fm_ (fun c k => nw_F wl_X10_readChoice wf_X10_readChoice false false c k = true) h (qj_X10_readChoice_158 nn rc l6 s0 h) (fun r => r) := by
  unfold qj_X10_readChoice_158
  have F_h : ∀ c k : Nat, (fun c k => nw_F wl_X10_readChoice wf_X10_readChoice false false c k = true) c k → h c k = h c k := fun _ _ _ => rfl
  refine fm_up F_h (nw_nf rfl) ?_; intro h1 F_h1
  refine fm_ca F_h1 (ff_X1_pop nn) (nw_sub rfl) ?_; intro u4 F_u4
  refine fm_ca F_u4 (ff_X1_push nn) (nw_sub rfl) ?_; intro u8 F_u8
  refine fm_ca F_u8 (ff_X1_aimHere nn) (nw_sub rfl) ?_; intro u11 F_u11
  refine fm_up F_u11 (nw_nf rfl) ?_; intro h12 F_h12
  exact fm_ret F_h12
set_option maxRecDepth 4000 in
theorem fj_X10_readChoice_24 (nn : Nat) {rc : tq_X10_readValue} (hr : fgr_X10_readValue rc) {l1 : Int} {l2 : Int} {l3 : Int} {s0 : Int} {h : ms_M} : Fm_ (fun c k => nw_F wl_X10_readChoice wf_X10_readChoice false false c k = true) h (qj_X10_readChoice_24 nn rc l1 l2 l3 s0 h) (fun r => r) := by
  unfold qj_X10_readChoice_24
  have F_h : ∀ c k : Nat, (fun c k => nw_F wl_X10_readChoice wf_X10_readChoice false false c k = true) c k → h c k = h c k := fun _ _ _ => rfl
  refine fm_ca F_h (ff_X10_wantType nn) (nw_sub rfl) ?_; intro u14 F_u14
  refine fm_ca F_u14 (ff_X1_jump nn) (nw_sub rfl) ?_; intro u17 F_u17
  refine fm_xl ?_; intro v20
  refine fm_up F_u17 (nw_nf rfl) ?_; intro h21 F_h21
  refine fm_xl ?_; intro v22
  refine fm_ca F_h21 (hr.1) (fun _ _ z => z) ?_; intro u24 F_u24
  refine fm_ca F_u24 (ff_X1_jump nn) (nw_sub rfl) ?_; intro u28 F_u28
  refine fm_ca F_u28 (ff_X1_pop nn) (nw_sub rfl) ?_; intro u31 F_u31
  refine fm_ca F_u31 (ff_X1_aimHere nn) (nw_sub rfl) ?_; intro u34 F_u34
  refine fm_xl ?_; intro v37
  refine fm_up F_u34 (nw_nf rfl) ?_; intro h38 F_h38
  refine fm_xl ?_; intro v39
  refine fm_ca F_h38 (hr.1) (fun _ _ z => z) ?_; intro u41 F_u41
  refine fm_pu ?_; intro u44
  refine fm_ca F_u41 (ff_X10_wantType nn) (nw_sub rfl) ?_; intro u46 F_u46
  refine fm_pu ?_; intro u50
  refine fm_if ?_ ?_
  · exact fm_tl F_u46 (fj_X10_readChoice_158 nn hr) (fun _ _ z => z)
  · exact fm_tl F_u46 (fj_X10_readChoice_158 nn hr) (fun _ _ z => z)
set_option maxRecDepth 4000 in
theorem fo_X10_readChoice (nn : Nat) {rc : tq_X10_readValue} (hr : fgr_X10_readValue rc) {a1 : Int} {a2 : Int} {h : ms_M} : Fm_ (fun c k => nw_F wl_X10_readChoice wf_X10_readChoice false false c k = true) h (qo_X10_readChoice nn rc a1 a2 h) (fun r => r) := by
  unfold qo_X10_readChoice
  have F_h : ∀ c k : Nat, (fun c k => nw_F wl_X10_readChoice wf_X10_readChoice false false c k = true) c k → h c k = h c k := fun _ _ _ => rfl
  refine fm_if ?_ ?_
  · exact fm_tl F_h (fj_X10_readChoice_24 nn hr) (fun _ _ z => z)
  · exact fm_tl F_h (fj_X10_readChoice_24 nn hr) (fun _ _ z => z)
set_option maxRecDepth 4000 in
theorem fj_X10_readUnary_116 (nn : Nat) {rc : tq_X10_readValue} (hr : fgr_X10_readValue rc) {l2 : Int} {h : ms_M} : Fm_ (fun c k => nw_F wl_X10_readUnary wf_X10_readUnary false false c k = true) h (qj_X10_readUnary_116 nn rc l2 h) (fun r => r) := by
  unfold qj_X10_readUnary_116
  have F_h : ∀ c k : Nat, (fun c k => nw_F wl_X10_readUnary wf_X10_readUnary false false c k = true) c k → h c k = h c k := fun _ _ _ => rfl
  refine fm_up F_h (nw_nf rfl) ?_; intro h1 F_h1
  exact fm_ret F_h1
set_option maxRecDepth 4000 in
theorem fj_X10_readUnary_41 (nn : Nat) {rc : tq_X10_readValue} (hr : fgr_X10_readValue rc) {l1 : Int} {l2 : Int} {l3 : Int} {h : ms_M} : Fm_ (fun c k => nw_F wl_X10_readUnary wf_X10_readUnary false false c k = true) h (qj_X10_readUnary_41 nn rc l1 l2 l3 h) (fun r => r) := by
  unfold qj_X10_readUnary_41
  have F_h : ∀ c k : Nat, (fun c k => nw_F wl_X10_readUnary wf_X10_readUnary false false c k = true) c k → h c k = h c k := fun _ _ _ => rfl
  refine fm_xl ?_; intro v4
  refine fm_up F_h (nw_nf rfl) ?_; intro h5 F_h5
  refine fm_xl ?_; intro v6
  refine fm_ca F_h5 (hr.2.2.1) (fun _ _ z => z) ?_; intro u8 F_u8
  refine fm_ca F_u8 (ff_X10_closeUnary nn) (nw_sub rfl) ?_; intro u10 F_u10
  exact fm_tl F_u10 (fj_X10_readUnary_116 nn hr) (fun _ _ z => z)
set_option maxRecDepth 4000 in
theorem fo_X10_readUnary (nn : Nat) {rc : tq_X10_readValue} (hr : fgr_X10_readValue rc) {a1 : Int} {h : ms_M} : Fm_ (fun c k => nw_F wl_X10_readUnary wf_X10_readUnary false false c k = true) h (qo_X10_readUnary nn rc a1 h) (fun r => r) := by
  unfold qo_X10_readUnary
  have F_h : ∀ c k : Nat, (fun c k => nw_F wl_X10_readUnary wf_X10_readUnary false false c k = true) c k → h c k = h c k := fun _ _ _ => rfl
  refine fm_if ?_ ?_
  · refine fm_pu ?_; intro u15
    refine fm_if ?_ ?_
    · exact fm_tl F_h (fj_X10_readUnary_41 nn hr) (fun _ _ z => z)
    · refine fm_if ?_ ?_
      · exact fm_tl F_h (fj_X10_readUnary_41 nn hr) (fun _ _ z => z)
      · refine fm_if ?_ ?_
        · refine fm_pu ?_; intro u18
          refine fm_if ?_ ?_
          · refine fm_ca F_h (hr.2.2.2.1) (fun _ _ z => z) ?_; intro u20 F_u20
            exact fm_tl F_u20 (fj_X10_readUnary_116 nn hr) (fun _ _ z => z)
          · refine fm_xl ?_; intro v21
            refine fm_xl ?_; intro v22
            refine fm_ca F_h (ff_X10_readNamedClass nn) (nw_sub rfl) ?_; intro u24 F_u24
            refine fm_xl ?_; intro v25
            refine fm_ca F_u24 (hr.2.2.1) (fun _ _ z => z) ?_; intro u27 F_u27
            refine fm_xl ?_; intro v28
            refine fm_ca F_u27 (ff_X10_closeCast nn) (nw_sub rfl) ?_; intro u30 F_u30
            exact fm_tl F_u30 (fj_X10_readUnary_116 nn hr) (fun _ _ z => z)
        · exact fm_tl F_h (fj_X10_readUnary_41 nn hr) (fun _ _ z => z)
  · exact fm_ret F_h
set_option maxRecDepth 4000 in
theorem fj_X10_readPrimary_176 (nn : Nat) {rc : tq_X10_readValue} (hr : fgr_X10_readValue rc) {l3 : Int} {h : ms_M} : Fm_ (fun c k => nw_F wl_X10_readPrimary wf_X10_readPrimary false false c k = true) h (qj_X10_readPrimary_176 nn rc l3 h) (fun r => r) := by
  unfold qj_X10_readPrimary_176
  have F_h : ∀ c k : Nat, (fun c k => nw_F wl_X10_readPrimary wf_X10_readPrimary false false c k = true) c k → h c k = h c k := fun _ _ _ => rfl
  refine fm_if ?_ ?_
  · exact fm_ret F_h
  · refine fm_ca F_h (ff_X10_fetch nn) (nw_sub rfl) ?_; intro u2 F_u2
    exact fm_ret F_u2
set_option maxRecDepth 4000 in
theorem fj_X10_readPrimary_162 (nn : Nat) {rc : tq_X10_readValue} (hr : fgr_X10_readValue rc) {qkk_118 : Int → Int → Int → Int → ms_M → Option ms_M} (hk_kk_118 : ∀ {l1 : Int} {l2 : Int} {l3 : Int} {l4 : Int} {h : ms_M}, Fm_ (fun c k => nw_F wl_X10_readPrimary wf_X10_readPrimary false false c k = true) h (qkk_118 l1 l2 l3 l4 h) (fun r => r)) {l1 : Int} {l2 : Int} {l4 : Int} {h : ms_M} : Fm_ (fun c k => nw_F wl_X10_readPrimary wf_X10_readPrimary false false c k = true) h (qj_X10_readPrimary_162 nn rc qkk_118 l1 l2 l4 h) (fun r => r) := by
  unfold qj_X10_readPrimary_162
  have F_h : ∀ c k : Nat, (fun c k => nw_F wl_X10_readPrimary wf_X10_readPrimary false false c k = true) c k → h c k = h c k := fun _ _ _ => rfl
  refine fm_pu ?_; intro u6
  refine fm_xl ?_; intro v7
  exact fm_tl F_h (hk_kk_118) (fun _ _ z => z)
set_option maxRecDepth 4000 in
theorem fj_X10_readPrimary_138 (nn : Nat) {rc : tq_X10_readValue} (hr : fgr_X10_readValue rc) {qkk_118 : Int → Int → Int → Int → ms_M → Option ms_M} (hk_kk_118 : ∀ {l1 : Int} {l2 : Int} {l3 : Int} {l4 : Int} {h : ms_M}, Fm_ (fun c k => nw_F wl_X10_readPrimary wf_X10_readPrimary false false c k = true) h (qkk_118 l1 l2 l3 l4 h) (fun r => r)) {l1 : Int} {l2 : Int} {l3 : Int} {l4 : Int} {h : ms_M} : Fm_ (fun c k => nw_F wl_X10_readPrimary wf_X10_readPrimary false false c k = true) h (qj_X10_readPrimary_138 nn rc qkk_118 l1 l2 l3 l4 h) (fun r => r) := by
  unfold qj_X10_readPrimary_138
  have F_h : ∀ c k : Nat, (fun c k => nw_F wl_X10_readPrimary wf_X10_readPrimary false false c k = true) c k → h c k = h c k := fun _ _ _ => rfl
  refine fm_ca F_h (ff_X10_fetch nn) (nw_sub rfl) ?_; intro u9 F_u9
  refine fm_if ?_ ?_
  · refine fm_ca F_u9 (hr.2.2.2.2.2.1) (fun _ _ z => z) ?_; intro u11 F_u11
    exact fm_tl F_u11 (fj_X10_readPrimary_162 nn hr hk_kk_118) (fun _ _ z => z)
  · refine fm_ca F_u9 (hr.2.2.2.2.2.2.2.1) (fun _ _ z => z) ?_; intro u13 F_u13
    exact fm_tl F_u13 (fj_X10_readPrimary_162 nn hr hk_kk_118) (fun _ _ z => z)
set_option maxRecDepth 4000 in
theorem fw_X10_readPrimary_118 (nn : Nat) {rc : tq_X10_readValue} (hr : fgr_X10_readValue rc) : ∀ (k : Nat) {l1 : Int} {l2 : Int} {l3 : Int} {l4 : Int} {h : ms_M}, Fm_ (fun c k => nw_F wl_X10_readPrimary wf_X10_readPrimary false false c k = true) h (qw_X10_readPrimary_118 nn rc k l1 l2 l3 l4 h) (fun r => r) := by
  intro k
  induction k with
  | zero => intros; exact fm_no
  | succ k ih =>
    intro l1 l2 l3 l4 h
    unfold qw_X10_readPrimary_118
    have F_h : ∀ c k : Nat, (fun c k => nw_F wl_X10_readPrimary wf_X10_readPrimary false false c k = true) c k → h c k = h c k := fun _ _ _ => rfl
    refine fm_if ?_ ?_
    · exact fm_tl F_h (fj_X10_readPrimary_176 nn hr) (fun _ _ z => z)
    · refine fm_if ?_ ?_
      · exact fm_tl F_h (fj_X10_readPrimary_138 nn hr ih) (fun _ _ z => z)
      · refine fm_if ?_ ?_
        · exact fm_tl F_h (fj_X10_readPrimary_176 nn hr) (fun _ _ z => z)
        · exact fm_tl F_h (fj_X10_readPrimary_138 nn hr ih) (fun _ _ z => z)
set_option maxRecDepth 4000 in
theorem fj_X10_readPrimary_107 (nn : Nat) {rc : tq_X10_readValue} (hr : fgr_X10_readValue rc) {l1 : Int} {l2 : Int} {h : ms_M} : Fm_ (fun c k => nw_F wl_X10_readPrimary wf_X10_readPrimary false false c k = true) h (qj_X10_readPrimary_107 nn rc l1 l2 h) (fun r => r) := by
  unfold qj_X10_readPrimary_107
  have F_h : ∀ c k : Nat, (fun c k => nw_F wl_X10_readPrimary wf_X10_readPrimary false false c k = true) c k → h c k = h c k := fun _ _ _ => rfl
  refine fm_pu ?_; intro u20
  exact fm_tl F_h (fw_X10_readPrimary_118 nn hr _) (fun _ _ z => z)
set_option maxRecDepth 4000 in
theorem fo_X10_readPrimary (nn : Nat) {rc : tq_X10_readValue} (hr : fgr_X10_readValue rc) {a1 : Int} {h : ms_M} : Fm_ (fun c k => nw_F wl_X10_readPrimary wf_X10_readPrimary false false c k = true) h (qo_X10_readPrimary nn rc a1 h) (fun r => r) := by
  unfold qo_X10_readPrimary
  have F_h : ∀ c k : Nat, (fun c k => nw_F wl_X10_readPrimary wf_X10_readPrimary false false c k = true) c k → h c k = h c k := fun _ _ _ => rfl
  refine fm_pu ?_; intro u25
  refine fm_if ?_ ?_
  · refine fm_ca F_h (hr.2.2.2.2.2.2.1) (fun _ _ z => z) ?_; intro u29 F_u29
    exact fm_tl F_u29 (fj_X10_readPrimary_107 nn hr) (fun _ _ z => z)
  · refine fm_if ?_ ?_
    · refine fm_ca F_h (hr.2.2.2.2.1) (fun _ _ z => z) ?_; intro u31 F_u31
      exact fm_tl F_u31 (fj_X10_readPrimary_107 nn hr) (fun _ _ z => z)
    · refine fm_if ?_ ?_
      · refine fm_xl ?_; intro v34
        refine fm_up F_h (nw_nf rfl) ?_; intro h35 F_h35
        refine fm_ca F_h35 (hr.1) (fun _ _ z => z) ?_; intro u37 F_u37
        refine fm_xl ?_; intro v40
        refine fm_up F_u37 (nw_nf rfl) ?_; intro h41 F_h41
        refine fm_up F_h41 (nw_nf rfl) ?_; intro h42 F_h42
        exact fm_tl F_h42 (fj_X10_readPrimary_107 nn hr) (fun _ _ z => z)
      · refine fm_ca F_h (ff_X10_readConstant nn) (nw_sub rfl) ?_; intro u27 F_u27
        exact fm_tl F_u27 (fj_X10_readPrimary_107 nn hr) (fun _ _ z => z)
set_option maxRecDepth 4000 in
theorem fj_X10_readNew_188 (nn : Nat) {rc : tq_X10_readValue} (hr : fgr_X10_readValue rc) {l3 : Int} {l4 : Int} {s0 : Int} {s1 : Int} {h : ms_M} : Fm_ (fun c k => nw_F wl_X10_readNew wf_X10_readNew false false c k = true) h (qj_X10_readNew_188 nn rc l3 l4 s0 s1 h) (fun r => r) := by
  unfold qj_X10_readNew_188
  have F_h : ∀ c k : Nat, (fun c k => nw_F wl_X10_readNew wf_X10_readNew false false c k = true) c k → h c k = h c k := fun _ _ _ => rfl
  refine fm_ca F_h (ff_X1_op_ nn) (nw_sub rfl) ?_; intro u2 F_u2
  refine fm_ca F_u2 (ff_X1_pop nn) (nw_sub rfl) ?_; intro u5 F_u5
  refine fm_if ?_ ?_
  · refine fm_xl ?_; intro v6
    refine fm_ca F_u5 (ff_X10_give nn) (nw_sub rfl) ?_; intro u8 F_u8
    exact fm_ret F_u8
  · refine fm_ca F_u5 (ff_X10_give nn) (nw_sub rfl) ?_; intro u10 F_u10
    exact fm_ret F_u10
set_option maxRecDepth 4000 in
theorem fj_X10_readNew_170 (nn : Nat) {rc : tq_X10_readValue} (hr : fgr_X10_readValue rc) {l3 : Int} {l4 : Int} {s0 : Int} {h : ms_M} : Fm_ (fun c k => nw_F wl_X10_readNew wf_X10_readNew false false c k = true) h (qj_X10_readNew_170 nn rc l3 l4 s0 h) (fun r => r) := by
  unfold qj_X10_readNew_170
  have F_h : ∀ c k : Nat, (fun c k => nw_F wl_X10_readNew wf_X10_readNew false false c k = true) c k → h c k = h c k := fun _ _ _ => rfl
  refine fm_if ?_ ?_
  · refine fm_ca F_h (ff_X6_classOf nn) (nw_sub rfl) ?_; intro u14 F_u14
    exact fm_tl F_u14 (fj_X10_readNew_188 nn hr) (fun _ _ z => z)
  · exact fm_tl F_h (fj_X10_readNew_188 nn hr) (fun _ _ z => z)
set_option maxRecDepth 4000 in
theorem fj_X10_readNew_147 (nn : Nat) {rc : tq_X10_readValue} (hr : fgr_X10_readValue rc) {l2 : Int} {l3 : Int} {l4 : Int} {s0 : Int} {h : ms_M} : Fm_ (fun c k => nw_F wl_X10_readNew wf_X10_readNew false false c k = true) h (qj_X10_readNew_147 nn rc l2 l3 l4 s0 h) (fun r => r) := by
  unfold qj_X10_readNew_147
  have F_h : ∀ c k : Nat, (fun c k => nw_F wl_X10_readNew wf_X10_readNew false false c k = true) c k → h c k = h c k := fun _ _ _ => rfl
  refine fm_xl ?_; intro v16
  refine fm_ca F_h (ff_X10_wantType nn) (nw_sub rfl) ?_; intro u18 F_u18
  refine fm_if ?_ ?_
  · exact fm_tl F_u18 (fj_X10_readNew_170 nn hr) (fun _ _ z => z)
  · exact fm_tl F_u18 (fj_X10_readNew_170 nn hr) (fun _ _ z => z)
set_option maxRecDepth 4000 in
theorem fj_X10_readNew_43 (nn : Nat) {rc : tq_X10_readValue} (hr : fgr_X10_readValue rc) {l1 : Int} {l2 : Int} {l3 : Int} {s0 : Int} {h : ms_M} : Fm_ (fun c k => nw_F wl_X10_readNew wf_X10_readNew false false c k = true) h (qj_X10_readNew_43 nn rc l1 l2 l3 s0 h) (fun r => r) := by
  unfold qj_X10_readNew_43
  have F_h : ∀ c k : Nat, (fun c k => nw_F wl_X10_readNew wf_X10_readNew false false c k = true) c k → h c k = h c k := fun _ _ _ => rfl
  refine fm_if ?_ ?_
  · refine fm_xl ?_; intro v22
    refine fm_pu ?_; intro u24
    refine fm_if ?_ ?_
    · refine fm_xl ?_; intro v26
      refine fm_up F_h (nw_nf rfl) ?_; intro h27 F_h27
      refine fm_ca F_h27 (hr.1) (fun _ _ z => z) ?_; intro u29 F_u29
      refine fm_xl ?_; intro v32
      refine fm_up F_u29 (nw_nf rfl) ?_; intro h33 F_h33
      refine fm_if ?_ ?_
      · exact fm_tl F_h33 (fj_X10_readNew_147 nn hr) (fun _ _ z => z)
      · exact fm_tl F_h33 (fj_X10_readNew_147 nn hr) (fun _ _ z => z)
    · refine fm_xl ?_; intro v37
      refine fm_up F_h (nw_nf rfl) ?_; intro h38 F_h38
      refine fm_ca F_h38 (ff_X6_classOf nn) (nw_sub rfl) ?_; intro u42 F_u42
      refine fm_ca F_u42 (ff_X1_op_ nn) (nw_sub rfl) ?_; intro u44 F_u44
      refine fm_ca F_u44 (ff_X10_give nn) (nw_sub rfl) ?_; intro u46 F_u46
      exact fm_ret F_u46
  · exact fm_ret F_h
set_option maxRecDepth 4000 in
theorem fj_X10_readNew_28 (nn : Nat) {rc : tq_X10_readValue} (hr : fgr_X10_readValue rc) {l1 : Int} {l2 : Int} {s0 : Int} {h : ms_M} : Fm_ (fun c k => nw_F wl_X10_readNew wf_X10_readNew false false c k = true) h (qj_X10_readNew_28 nn rc l1 l2 s0 h) (fun r => r) := by
  unfold qj_X10_readNew_28
  have F_h : ∀ c k : Nat, (fun c k => nw_F wl_X10_readNew wf_X10_readNew false false c k = true) c k → h c k = h c k := fun _ _ _ => rfl
  refine fm_if ?_ ?_
  · refine fm_ca F_h (ff_X10_readNamedClass nn) (nw_sub rfl) ?_; intro u50 F_u50
    exact fm_tl F_u50 (fj_X10_readNew_43 nn hr) (fun _ _ z => z)
  · exact fm_tl F_h (fj_X10_readNew_43 nn hr) (fun _ _ z => z)
set_option maxRecDepth 4000 in
theorem fo_X10_readNew (nn : Nat) {rc : tq_X10_readValue} (hr : fgr_X10_readValue rc) {a1 : Int} {h : ms_M} : Fm_ (fun c k => nw_F wl_X10_readNew wf_X10_readNew false false c k = true) h (qo_X10_readNew nn rc a1 h) (fun r => r) := by
  unfold qo_X10_readNew
  have F_h : ∀ c k : Nat, (fun c k => nw_F wl_X10_readNew wf_X10_readNew false false c k = true) c k → h c k = h c k := fun _ _ _ => rfl
  refine fm_xl ?_; intro v54
  refine fm_pu ?_; intro u57
  refine fm_if ?_ ?_
  · exact fm_tl F_h (fj_X10_readNew_28 nn hr) (fun _ _ z => z)
  · exact fm_tl F_h (fj_X10_readNew_28 nn hr) (fun _ _ z => z)
set_option maxRecDepth 4000 in
theorem fj_X10_readElement_67 (nn : Nat) {rc : tq_X10_readValue} (hr : fgr_X10_readValue rc) {l2 : Int} {l3 : Int} {s0 : Int} {h : ms_M} : Fm_ (fun c k => nw_F wl_X10_readElement wf_X10_readElement false false c k = true) h (qj_X10_readElement_67 nn rc l2 l3 s0 h) (fun r => r) := by
  unfold qj_X10_readElement_67
  have F_h : ∀ c k : Nat, (fun c k => nw_F wl_X10_readElement wf_X10_readElement false false c k = true) c k → h c k = h c k := fun _ _ _ => rfl
  refine fm_ca F_h (ff_X10_wantType nn) (nw_sub rfl) ?_; intro u2 F_u2
  refine fm_pu ?_; intro u3
  refine fm_up F_u2 (nw_nf rfl) ?_; intro h4 F_h4
  refine fm_up F_h4 (nw_nf rfl) ?_; intro h5 F_h5
  exact fm_ret F_h5
set_option maxRecDepth 4000 in
theorem fj_X10_readElement_66 (nn : Nat) {rc : tq_X10_readValue} (hr : fgr_X10_readValue rc) {l2 : Int} {l3 : Int} {h : ms_M} : Fm_ (fun c k => nw_F wl_X10_readElement wf_X10_readElement false false c k = true) h (qj_X10_readElement_66 nn rc l2 l3 h) (fun r => r) := by
  unfold qj_X10_readElement_66
  have F_h : ∀ c k : Nat, (fun c k => nw_F wl_X10_readElement wf_X10_readElement false false c k = true) c k → h c k = h c k := fun _ _ _ => rfl
  exact fm_tl F_h (fj_X10_readElement_67 nn hr) (fun _ _ z => z)
set_option maxRecDepth 4000 in
theorem fo_X10_readElement (nn : Nat) {rc : tq_X10_readValue} (hr : fgr_X10_readValue rc) {a1 : Int} {h : ms_M} : Fm_ (fun c k => nw_F wl_X10_readElement wf_X10_readElement false false c k = true) h (qo_X10_readElement nn rc a1 h) (fun r => r) := by
  unfold qo_X10_readElement
  have F_h : ∀ c k : Nat, (fun c k => nw_F wl_X10_readElement wf_X10_readElement false false c k = true) c k → h c k = h c k := fun _ _ _ => rfl
  refine fm_xl ?_; intro v11
  refine fm_up F_h (nw_nf rfl) ?_; intro h12 F_h12
  refine fm_ca F_h12 (hr.1) (fun _ _ z => z) ?_; intro u14 F_u14
  refine fm_xl ?_; intro v17
  refine fm_up F_u14 (nw_nf rfl) ?_; intro h18 F_h18
  refine fm_pu ?_; intro u19
  refine fm_if ?_ ?_
  · exact fm_tl F_h18 (fj_X10_readElement_66 nn hr) (fun _ _ z => z)
  · refine fm_if ?_ ?_
    · exact fm_tl F_h18 (fj_X10_readElement_66 nn hr) (fun _ _ z => z)
    · exact fm_tl F_h18 (fj_X10_readElement_67 nn hr) (fun _ _ z => z)
set_option maxRecDepth 4000 in
theorem fj_X10_readNamed_123 (nn : Nat) {rc : tq_X10_readValue} (hr : fgr_X10_readValue rc) {l1 : Int} {l2 : Int} {l4 : Int} {s0 : Int} {h : ms_M} : Fm_ (fun c k => nw_F wl_X10_readNamed wf_X10_readNamed false false c k = true) h (qj_X10_readNamed_123 nn rc l1 l2 l4 s0 h) (fun r => r) := by
  unfold qj_X10_readNamed_123
  have F_h : ∀ c k : Nat, (fun c k => nw_F wl_X10_readNamed wf_X10_readNamed false false c k = true) c k → h c k = h c k := fun _ _ _ => rfl
  refine fm_if ?_ ?_
  · refine fm_if ?_ ?_
    · refine fm_xl ?_; intro v1
      refine fm_pu ?_; intro u3
      refine fm_if ?_ ?_
      · refine fm_ca F_h (ff_X9_tell nn) (nw_sub rfl) ?_; intro u6 F_u6
        exact fm_ret F_u6
      · refine fm_xl ?_; intro v7
        refine fm_ca F_h (ff_X10_readNamedClass nn) (nw_sub rfl) ?_; intro u9 F_u9
        refine fm_xl ?_; intro v10
        refine fm_ca F_u9 (ff_X10_methodNamed nn) (nw_sub rfl) ?_; intro u12 F_u12
        refine fm_xl ?_; intro v13
        refine fm_ca F_u12 (hr.2.2.2.2.2.2.2.2) (fun _ _ z => z) ?_; intro u15 F_u15
        exact fm_ret F_u15
    · refine fm_ca F_h (ff_X10_giveThis nn) (nw_sub rfl) ?_; intro u18 F_u18
      refine fm_ca F_u18 (ff_X10_nameField nn) (nw_sub rfl) ?_; intro u21 F_u21
      exact fm_ret F_u21
  · refine fm_up F_h (nw_nf rfl) ?_; intro h23 F_h23
    refine fm_up F_h23 (nw_nf rfl) ?_; intro h24 F_h24
    refine fm_pu ?_; intro u27
    refine fm_up F_h24 (nw_nf rfl) ?_; intro h28 F_h28
    exact fm_ret F_h28
set_option maxRecDepth 4000 in
theorem fj_X10_readNamed_76 (nn : Nat) {rc : tq_X10_readValue} (hr : fgr_X10_readValue rc) {l1 : Int} {l2 : Int} {l4 : Int} {h : ms_M} : Fm_ (fun c k => nw_F wl_X10_readNamed wf_X10_readNamed false false c k = true) h (qj_X10_readNamed_76 nn rc l1 l2 l4 h) (fun r => r) := by
  unfold qj_X10_readNamed_76
  have F_h : ∀ c k : Nat, (fun c k => nw_F wl_X10_readNamed wf_X10_readNamed false false c k = true) c k → h c k = h c k := fun _ _ _ => rfl
  refine fm_ca F_h (hr.2.2.2.2.2.2.2.2) (fun _ _ z => z) ?_; intro u32 F_u32
  exact fm_ret F_u32
set_option maxRecDepth 4000 in
theorem fo_X10_readNamed (nn : Nat) {rc : tq_X10_readValue} (hr : fgr_X10_readValue rc) {a1 : Int} {h : ms_M} : Fm_ (fun c k => nw_F wl_X10_readNamed wf_X10_readNamed false false c k = true) h (qo_X10_readNamed nn rc a1 h) (fun r => r) := by
  unfold qo_X10_readNamed
  have F_h : ∀ c k : Nat, (fun c k => nw_F wl_X10_readNamed wf_X10_readNamed false false c k = true) c k → h c k = h c k := fun _ _ _ => rfl
  refine fm_pu ?_; intro u37
  refine fm_xl ?_; intro v40
  refine fm_up F_h (nw_nf rfl) ?_; intro h41 F_h41
  refine fm_pu ?_; intro u44
  refine fm_if ?_ ?_
  · refine fm_pu ?_; intro u47
    refine fm_if ?_ ?_
    · exact fm_tl F_h41 (fj_X10_readNamed_123 nn hr) (fun _ _ z => z)
    · refine fm_pu ?_; intro u51
      exact fm_tl F_h41 (fj_X10_readNamed_123 nn hr) (fun _ _ z => z)
  · refine fm_ca F_h41 (ff_X10_methodNamed nn) (nw_sub rfl) ?_; intro u55 F_u55
    refine fm_if ?_ ?_
    · exact fm_tl F_u55 (fj_X10_readNamed_76 nn hr) (fun _ _ z => z)
    · refine fm_pu ?_; intro u58
      refine fm_if ?_ ?_
      · exact fm_tl F_u55 (fj_X10_readNamed_76 nn hr) (fun _ _ z => z)
      · refine fm_ca F_u55 (ff_X10_giveThis nn) (nw_sub rfl) ?_; intro u60 F_u60
        exact fm_tl F_u60 (fj_X10_readNamed_76 nn hr) (fun _ _ z => z)
set_option maxRecDepth 4000 in
theorem fj_X10_readBehindPoint_149 (nn : Nat) {rc : tq_X10_readValue} (hr : fgr_X10_readValue rc) {l1 : Int} {l2 : Int} {l3 : Int} {l5 : Int} {l6 : Int} {l7 : Int} {h : ms_M} : Fm_ (fun c k => nw_F wl_X10_readBehindPoint wf_X10_readBehindPoint false false c k = true) h (qj_X10_readBehindPoint_149 nn rc l1 l2 l3 l5 l6 l7 h) (fun r => r) := by
  unfold qj_X10_readBehindPoint_149
  have F_h : ∀ c k : Nat, (fun c k => nw_F wl_X10_readBehindPoint wf_X10_readBehindPoint false false c k = true) c k → h c k = h c k := fun _ _ _ => rfl
  refine fm_xl ?_; intro v2
  refine fm_up F_h (nw_nf rfl) ?_; intro h3 F_h3
  refine fm_if ?_ ?_
  · refine fm_if ?_ ?_
    · refine fm_ca F_h3 (ff_X10_nameField nn) (nw_sub rfl) ?_; intro u6 F_u6
      exact fm_ret F_u6
    · refine fm_ca F_h3 (ff_X1_op nn) (nw_sub rfl) ?_; intro u9 F_u9
      refine fm_ca F_u9 (ff_X1_pop nn) (nw_sub rfl) ?_; intro u12 F_u12
      refine fm_ca F_u12 (ff_X10_give nn) (nw_sub rfl) ?_; intro u14 F_u14
      exact fm_ret F_u14
  · refine fm_ca F_h3 (hr.2.2.2.2.2.2.2.2) (fun _ _ z => z) ?_; intro u18 F_u18
    exact fm_ret F_u18
set_option maxRecDepth 4000 in
theorem fj_X10_readBehindPoint_140 (nn : Nat) {rc : tq_X10_readValue} (hr : fgr_X10_readValue rc) {l1 : Int} {l2 : Int} {l3 : Int} {l5 : Int} {l6 : Int} {l7 : Int} {h : ms_M} : Fm_ (fun c k => nw_F wl_X10_readBehindPoint wf_X10_readBehindPoint false false c k = true) h (qj_X10_readBehindPoint_140 nn rc l1 l2 l3 l5 l6 l7 h) (fun r => r) := by
  unfold qj_X10_readBehindPoint_140
  have F_h : ∀ c k : Nat, (fun c k => nw_F wl_X10_readBehindPoint wf_X10_readBehindPoint false false c k = true) c k → h c k = h c k := fun _ _ _ => rfl
  refine fm_ca F_h (ff_X9_tell nn) (nw_sub rfl) ?_; intro u22 F_u22
  exact fm_tl F_u22 (fj_X10_readBehindPoint_149 nn hr) (fun _ _ z => z)
set_option maxRecDepth 4000 in
theorem fj_X10_readBehindPoint_112 (nn : Nat) {rc : tq_X10_readValue} (hr : fgr_X10_readValue rc) {l1 : Int} {l2 : Int} {l3 : Int} {l4 : Int} {l5 : Int} {l6 : Int} {s0 : Int} {h : ms_M} : Fm_ (fun c k => nw_F wl_X10_readBehindPoint wf_X10_readBehindPoint false false c k = true) h (qj_X10_readBehindPoint_112 nn rc l1 l2 l3 l4 l5 l6 s0 h) (fun r => r) := by
  unfold qj_X10_readBehindPoint_112
  have F_h : ∀ c k : Nat, (fun c k => nw_F wl_X10_readBehindPoint wf_X10_readBehindPoint false false c k = true) c k → h c k = h c k := fun _ _ _ => rfl
  refine fm_if ?_ ?_
  · refine fm_if ?_ ?_
    · exact fm_tl F_h (fj_X10_readBehindPoint_149 nn hr) (fun _ _ z => z)
    · exact fm_tl F_h (fj_X10_readBehindPoint_140 nn hr) (fun _ _ z => z)
  · refine fm_if ?_ ?_
    · exact fm_tl F_h (fj_X10_readBehindPoint_140 nn hr) (fun _ _ z => z)
    · refine fm_if ?_ ?_
      · exact fm_tl F_h (fj_X10_readBehindPoint_149 nn hr) (fun _ _ z => z)
      · exact fm_tl F_h (fj_X10_readBehindPoint_140 nn hr) (fun _ _ z => z)
set_option maxRecDepth 4000 in
theorem fj_X10_readBehindPoint_72 (nn : Nat) {rc : tq_X10_readValue} (hr : fgr_X10_readValue rc) {l1 : Int} {l2 : Int} {l3 : Int} {l4 : Int} {l5 : Int} {l6 : Int} {s0 : Int} {h : ms_M} : Fm_ (fun c k => nw_F wl_X10_readBehindPoint wf_X10_readBehindPoint false false c k = true) h (qj_X10_readBehindPoint_72 nn rc l1 l2 l3 l4 l5 l6 s0 h) (fun r => r) := by
  unfold qj_X10_readBehindPoint_72
  have F_h : ∀ c k : Nat, (fun c k => nw_F wl_X10_readBehindPoint wf_X10_readBehindPoint false false c k = true) c k → h c k = h c k := fun _ _ _ => rfl
  refine fm_xl ?_; intro v27
  refine fm_ca F_h (ff_X10_wantType nn) (nw_sub rfl) ?_; intro u29 F_u29
  refine fm_if ?_ ?_
  · refine fm_pu ?_; intro u33
    exact fm_tl F_u29 (fj_X10_readBehindPoint_112 nn hr) (fun _ _ z => z)
  · refine fm_pu ?_; intro u37
    exact fm_tl F_u29 (fj_X10_readBehindPoint_112 nn hr) (fun _ _ z => z)
set_option maxRecDepth 4000 in
theorem fj_X10_readBehindPoint_67 (nn : Nat) {rc : tq_X10_readValue} (hr : fgr_X10_readValue rc) {l1 : Int} {l2 : Int} {l3 : Int} {l4 : Int} {l5 : Int} {l6 : Int} {h : ms_M} : Fm_ (fun c k => nw_F wl_X10_readBehindPoint wf_X10_readBehindPoint false false c k = true) h (qj_X10_readBehindPoint_67 nn rc l1 l2 l3 l4 l5 l6 h) (fun r => r) := by
  unfold qj_X10_readBehindPoint_67
  have F_h : ∀ c k : Nat, (fun c k => nw_F wl_X10_readBehindPoint wf_X10_readBehindPoint false false c k = true) c k → h c k = h c k := fun _ _ _ => rfl
  exact fm_tl F_h (fj_X10_readBehindPoint_72 nn hr) (fun _ _ z => z)
set_option maxRecDepth 4000 in
theorem fj_X10_readBehindPoint_40 (nn : Nat) {rc : tq_X10_readValue} (hr : fgr_X10_readValue rc) {l1 : Int} {l2 : Int} {l3 : Int} {l4 : Int} {s0 : Int} {h : ms_M} : Fm_ (fun c k => nw_F wl_X10_readBehindPoint wf_X10_readBehindPoint false false c k = true) h (qj_X10_readBehindPoint_40 nn rc l1 l2 l3 l4 s0 h) (fun r => r) := by
  unfold qj_X10_readBehindPoint_40
  have F_h : ∀ c k : Nat, (fun c k => nw_F wl_X10_readBehindPoint wf_X10_readBehindPoint false false c k = true) c k → h c k = h c k := fun _ _ _ => rfl
  refine fm_pu ?_; intro u40
  refine fm_if ?_ ?_
  · exact fm_tl F_h (fj_X10_readBehindPoint_67 nn hr) (fun _ _ z => z)
  · refine fm_pu ?_; intro u42
    refine fm_if ?_ ?_
    · exact fm_tl F_h (fj_X10_readBehindPoint_72 nn hr) (fun _ _ z => z)
    · exact fm_tl F_h (fj_X10_readBehindPoint_67 nn hr) (fun _ _ z => z)
set_option maxRecDepth 4000 in
theorem fo_X10_readBehindPoint (nn : Nat) {rc : tq_X10_readValue} (hr : fgr_X10_readValue rc) {a1 : Int} {a2 : Int} {h : ms_M} : Fm_ (fun c k => nw_F wl_X10_readBehindPoint wf_X10_readBehindPoint false false c k = true) h (qo_X10_readBehindPoint nn rc a1 a2 h) (fun r => r) := by
  unfold qo_X10_readBehindPoint
  have F_h : ∀ c k : Nat, (fun c k => nw_F wl_X10_readBehindPoint wf_X10_readBehindPoint false false c k = true) c k → h c k = h c k := fun _ _ _ => rfl
  refine fm_xl ?_; intro v47
  refine fm_pu ?_; intro u50
  refine fm_xl ?_; intro v52
  refine fm_pu ?_; intro u54
  refine fm_if ?_ ?_
  · exact fm_tl F_h (fj_X10_readBehindPoint_40 nn hr) (fun _ _ z => z)
  · exact fm_tl F_h (fj_X10_readBehindPoint_40 nn hr) (fun _ _ z => z)
set_option maxRecDepth 4000 in
theorem fj_X10_readCall_275 (nn : Nat) {rc : tq_X10_readValue} (hr : fgr_X10_readValue rc) {l2 : Int} {l3 : Int} {l5 : Int} {s0 : Int} {h : ms_M} : Fm_ (fun c k => nw_F wl_X10_readCall wf_X10_readCall false false c k = true) h (qj_X10_readCall_275 nn rc l2 l3 l5 s0 h) (fun r => r) := by
  unfold qj_X10_readCall_275
  have F_h : ∀ c k : Nat, (fun c k => nw_F wl_X10_readCall wf_X10_readCall false false c k = true) c k → h c k = h c k := fun _ _ _ => rfl
  refine fm_ca F_h (ff_X1_pop nn) (nw_sub rfl) ?_; intro u2 F_u2
  refine fm_pu ?_; intro u5
  refine fm_ca F_u2 (ff_X10_closeCall nn) (nw_sub rfl) ?_; intro u7 F_u7
  exact fm_ret F_u7
set_option maxRecDepth 4000 in
theorem fj_X10_readCall_245 (nn : Nat) {rc : tq_X10_readValue} (hr : fgr_X10_readValue rc) {l1 : Int} {l2 : Int} {l3 : Int} {l5 : Int} {l7 : Int} {l9 : Int} {s0 : Int} {h : ms_M} : Fm_ (fun c k => nw_F wl_X10_readCall wf_X10_readCall false false c k = true) h (qj_X10_readCall_245 nn rc l1 l2 l3 l5 l7 l9 s0 h) (fun r => r) := by
  unfold qj_X10_readCall_245
  have F_h : ∀ c k : Nat, (fun c k => nw_F wl_X10_readCall wf_X10_readCall false false c k = true) c k → h c k = h c k := fun _ _ _ => rfl
  refine fm_ca F_h (ff_X6_methodOf nn) (nw_sub rfl) ?_; intro u10 F_u10
  refine fm_ca F_u10 (ff_X1_op_ nn) (nw_sub rfl) ?_; intro u12 F_u12
  refine fm_if ?_ ?_
  · refine fm_xl ?_; intro v14
    exact fm_tl F_u12 (fj_X10_readCall_275 nn hr) (fun _ _ z => z)
  · exact fm_tl F_u12 (fj_X10_readCall_275 nn hr) (fun _ _ z => z)
set_option maxRecDepth 4000 in
theorem fj_X10_readCall_223 (nn : Nat) {rc : tq_X10_readValue} (hr : fgr_X10_readValue rc) {l1 : Int} {l2 : Int} {l3 : Int} {l5 : Int} {l7 : Int} {l9 : Int} {s0 : Int} {h : ms_M} : Fm_ (fun c k => nw_F wl_X10_readCall wf_X10_readCall false false c k = true) h (qj_X10_readCall_223 nn rc l1 l2 l3 l5 l7 l9 s0 h) (fun r => r) := by
  unfold qj_X10_readCall_223
  have F_h : ∀ c k : Nat, (fun c k => nw_F wl_X10_readCall wf_X10_readCall false false c k = true) c k → h c k = h c k := fun _ _ _ => rfl
  refine fm_ca F_h (ff_X10_wantType nn) (nw_sub rfl) ?_; intro u17 F_u17
  refine fm_if ?_ ?_
  · exact fm_tl F_u17 (fj_X10_readCall_245 nn hr) (fun _ _ z => z)
  · exact fm_tl F_u17 (fj_X10_readCall_245 nn hr) (fun _ _ z => z)
set_option maxRecDepth 4000 in
theorem fj_X10_readCall_222 (nn : Nat) {rc : tq_X10_readValue} (hr : fgr_X10_readValue rc) {l1 : Int} {l2 : Int} {l3 : Int} {l5 : Int} {l7 : Int} {l9 : Int} {h : ms_M} : Fm_ (fun c k => nw_F wl_X10_readCall wf_X10_readCall false false c k = true) h (qj_X10_readCall_222 nn rc l1 l2 l3 l5 l7 l9 h) (fun r => r) := by
  unfold qj_X10_readCall_222
  have F_h : ∀ c k : Nat, (fun c k => nw_F wl_X10_readCall wf_X10_readCall false false c k = true) c k → h c k = h c k := fun _ _ _ => rfl
  exact fm_tl F_h (fj_X10_readCall_223 nn hr) (fun _ _ z => z)
set_option maxRecDepth 4000 in
theorem fj_X10_readCall_192 (nn : Nat) {rc : tq_X10_readValue} (hr : fgr_X10_readValue rc) {l1 : Int} {l2 : Int} {l3 : Int} {l5 : Int} {l7 : Int} {l8 : Int} {l9 : Int} {s0 : Int} {h : ms_M} : Fm_ (fun c k => nw_F wl_X10_readCall wf_X10_readCall false false c k = true) h (qj_X10_readCall_192 nn rc l1 l2 l3 l5 l7 l8 l9 s0 h) (fun r => r) := by
  unfold qj_X10_readCall_192
  have F_h : ∀ c k : Nat, (fun c k => nw_F wl_X10_readCall wf_X10_readCall false false c k = true) c k → h c k = h c k := fun _ _ _ => rfl
  refine fm_if ?_ ?_
  · exact fm_tl F_h (fj_X10_readCall_222 nn hr) (fun _ _ z => z)
  · refine fm_if ?_ ?_
    · exact fm_tl F_h (fj_X10_readCall_222 nn hr) (fun _ _ z => z)
    · refine fm_pu ?_; intro u22
      refine fm_if ?_ ?_
      · exact fm_tl F_h (fj_X10_readCall_222 nn hr) (fun _ _ z => z)
      · exact fm_tl F_h (fj_X10_readCall_223 nn hr) (fun _ _ z => z)
set_option maxRecDepth 4000 in
theorem fj_X10_readCall_128 (nn : Nat) {rc : tq_X10_readValue} (hr : fgr_X10_readValue rc) {l1 : Int} {l2 : Int} {l3 : Int} {l4 : Int} {l5 : Int} {l7 : Int} {l8 : Int} {h : ms_M} : Fm_ (fun c k => nw_F wl_X10_readCall wf_X10_readCall false false c k = true) h (qj_X10_readCall_128 nn rc l1 l2 l3 l4 l5 l7 l8 h) (fun r => r) := by
  unfold qj_X10_readCall_128
  have F_h : ∀ c k : Nat, (fun c k => nw_F wl_X10_readCall wf_X10_readCall false false c k = true) c k → h c k = h c k := fun _ _ _ => rfl
  refine fm_xl ?_; intro v28
  refine fm_up F_h (nw_nf rfl) ?_; intro h29 F_h29
  refine fm_if ?_ ?_
  · refine fm_pu ?_; intro u34
    refine fm_if ?_ ?_
    · refine fm_if ?_ ?_
      · exact fm_tl F_h29 (fj_X10_readCall_192 nn hr) (fun _ _ z => z)
      · exact fm_tl F_h29 (fj_X10_readCall_192 nn hr) (fun _ _ z => z)
    · refine fm_if ?_ ?_
      · exact fm_tl F_h29 (fj_X10_readCall_192 nn hr) (fun _ _ z => z)
      · exact fm_tl F_h29 (fj_X10_readCall_192 nn hr) (fun _ _ z => z)
  · exact fm_ret F_h29
set_option maxRecDepth 4000 in
theorem fj_X10_readCall_92 (nn : Nat) {rc : tq_X10_readValue} (hr : fgr_X10_readValue rc) {qkk_22 : Int → Int → Int → Int → Int → Int → Int → Int → Int → ms_M → Option ms_M} (hk_kk_22 : ∀ {l1 : Int} {l2 : Int} {l3 : Int} {l4 : Int} {l5 : Int} {l6 : Int} {l7 : Int} {l8 : Int} {l9 : Int} {h : ms_M}, Fm_ (fun c k => nw_F wl_X10_readCall wf_X10_readCall false false c k = true) h (qkk_22 l1 l2 l3 l4 l5 l6 l7 l8 l9 h) (fun r => r)) {l1 : Int} {l2 : Int} {l3 : Int} {l4 : Int} {l5 : Int} {l6 : Int} {l7 : Int} {l9 : Int} {s0 : Int} {h : ms_M} : Fm_ (fun c k => nw_F wl_X10_readCall wf_X10_readCall false false c k = true) h (qj_X10_readCall_92 nn rc qkk_22 l1 l2 l3 l4 l5 l6 l7 l9 s0 h) (fun r => r) := by
  unfold qj_X10_readCall_92
  have F_h : ∀ c k : Nat, (fun c k => nw_F wl_X10_readCall wf_X10_readCall false false c k = true) c k → h c k = h c k := fun _ _ _ => rfl
  refine fm_xl ?_; intro v39
  refine fm_pu ?_; intro u42
  refine fm_if ?_ ?_
  · refine fm_xl ?_; intro v43
    exact fm_tl F_h (hk_kk_22) (fun _ _ z => z)
  · refine fm_xl ?_; intro v46
    refine fm_up F_h (nw_nf rfl) ?_; intro h47 F_h47
    refine fm_xl ?_; intro v48
    exact fm_tl F_h47 (hk_kk_22) (fun _ _ z => z)
set_option maxRecDepth 4000 in
theorem fj_X10_readCall_91 (nn : Nat) {rc : tq_X10_readValue} (hr : fgr_X10_readValue rc) {qkk_22 : Int → Int → Int → Int → Int → Int → Int → Int → Int → ms_M → Option ms_M} (hk_kk_22 : ∀ {l1 : Int} {l2 : Int} {l3 : Int} {l4 : Int} {l5 : Int} {l6 : Int} {l7 : Int} {l8 : Int} {l9 : Int} {h : ms_M}, Fm_ (fun c k => nw_F wl_X10_readCall wf_X10_readCall false false c k = true) h (qkk_22 l1 l2 l3 l4 l5 l6 l7 l8 l9 h) (fun r => r)) {l1 : Int} {l2 : Int} {l3 : Int} {l4 : Int} {l5 : Int} {l6 : Int} {l7 : Int} {l9 : Int} {h : ms_M} : Fm_ (fun c k => nw_F wl_X10_readCall wf_X10_readCall false false c k = true) h (qj_X10_readCall_91 nn rc qkk_22 l1 l2 l3 l4 l5 l6 l7 l9 h) (fun r => r) := by
  unfold qj_X10_readCall_91
  have F_h : ∀ c k : Nat, (fun c k => nw_F wl_X10_readCall wf_X10_readCall false false c k = true) c k → h c k = h c k := fun _ _ _ => rfl
  exact fm_tl F_h (fj_X10_readCall_92 nn hr hk_kk_22) (fun _ _ z => z)
set_option maxRecDepth 4000 in
theorem fw_X10_readCall_22 (nn : Nat) {rc : tq_X10_readValue} (hr : fgr_X10_readValue rc) : ∀ (k : Nat) {l1 : Int} {l2 : Int} {l3 : Int} {l4 : Int} {l5 : Int} {l6 : Int} {l7 : Int} {l8 : Int} {l9 : Int} {h : ms_M}, Fm_ (fun c k => nw_F wl_X10_readCall wf_X10_readCall false false c k = true) h (qw_X10_readCall_22 nn rc k l1 l2 l3 l4 l5 l6 l7 l8 l9 h) (fun r => r) := by
  intro k
  induction k with
  | zero => intros; exact fm_no
  | succ k ih =>
    intro l1 l2 l3 l4 l5 l6 l7 l8 l9 h
    unfold qw_X10_readCall_22
    have F_h : ∀ c k : Nat, (fun c k => nw_F wl_X10_readCall wf_X10_readCall false false c k = true) c k → h c k = h c k := fun _ _ _ => rfl
    refine fm_if ?_ ?_
    · exact fm_tl F_h (fj_X10_readCall_128 nn hr) (fun _ _ z => z)
    · refine fm_if ?_ ?_
      · exact fm_tl F_h (fj_X10_readCall_128 nn hr) (fun _ _ z => z)
      · refine fm_pu ?_; intro u54
        refine fm_if ?_ ?_
        · exact fm_tl F_h (fj_X10_readCall_128 nn hr) (fun _ _ z => z)
        · refine fm_ca F_h (hr.1) (fun _ _ z => z) ?_; intro u56 F_u56
          refine fm_if ?_ ?_
          · exact fm_tl F_u56 (fj_X10_readCall_91 nn hr ih) (fun _ _ z => z)
          · refine fm_pu ?_; intro u61
            refine fm_pu ?_; intro u63
            refine fm_if ?_ ?_
            · exact fm_tl F_u56 (fj_X10_readCall_91 nn hr ih) (fun _ _ z => z)
            · exact fm_tl F_u56 (fj_X10_readCall_92 nn hr ih) (fun _ _ z => z)
set_option maxRecDepth 4000 in
theorem fo_X10_readCall (nn : Nat) {rc : tq_X10_readValue} (hr : fgr_X10_readValue rc) {a1 : Int} {a2 : Int} {a3 : Int} {a4 : Int} {a5 : Int} {a6 : Int} {h : ms_M} : Fm_ (fun c k => nw_F wl_X10_readCall wf_X10_readCall false false c k = true) h (qo_X10_readCall nn rc a1 a2 a3 a4 a5 a6 h) (fun r => r) := by
  unfold qo_X10_readCall
  have F_h : ∀ c k : Nat, (fun c k => nw_F wl_X10_readCall wf_X10_readCall false false c k = true) c k → h c k = h c k := fun _ _ _ => rfl
  refine fm_xl ?_; intro v71
  refine fm_up F_h (nw_nf rfl) ?_; intro h72 F_h72
  exact fm_tl F_h72 (fw_X10_readCall_22 nn hr _) (fun _ _ z => z)
set_option maxRecDepth 4000 in
theorem fg_X10_readValue (nn : Nat) : ∀ d, fgr_X10_readValue (qg_X10_readValue nn d) := by
  intro d
  induction d with
  | zero => exact ⟨(by intros; exact fm_no), (by intros; exact fm_no), (by intros; exact fm_no), (by intros; exact fm_no), (by intros; exact fm_no), (by intros; exact fm_no), (by intros; exact fm_no), (by intros; exact fm_no), (by intros; exact fm_no)⟩
  | succ d ih => exact ⟨fo_X10_readValue nn ih, fo_X10_readChoice nn ih, fo_X10_readUnary nn ih, fo_X10_readPrimary nn ih, fo_X10_readNew nn ih, fo_X10_readElement nn ih, fo_X10_readNamed nn ih, fo_X10_readBehindPoint nn ih, fo_X10_readCall nn ih⟩
set_option maxRecDepth 4000 in
theorem ff_X10_readValue (nn : Nat) {a1 : Int} {h : ms_M} : Fm_ (fun c k => nw_F wl_X10_readValue wf_X10_readValue false false c k = true) h (qf_X10_readValue nn a1 h) (fun r => r) := (fg_X10_readValue nn 420).1
set_option maxRecDepth 4000 in
theorem ff_X10_readChoice (nn : Nat) {a1 : Int} {a2 : Int} {h : ms_M} : Fm_ (fun c k => nw_F wl_X10_readChoice wf_X10_readChoice false false c k = true) h (qf_X10_readChoice nn a1 a2 h) (fun r => r) := (fg_X10_readValue nn 420).2.1
set_option maxRecDepth 4000 in
theorem ff_X10_readUnary (nn : Nat) {a1 : Int} {h : ms_M} : Fm_ (fun c k => nw_F wl_X10_readUnary wf_X10_readUnary false false c k = true) h (qf_X10_readUnary nn a1 h) (fun r => r) := (fg_X10_readValue nn 420).2.2.1
set_option maxRecDepth 4000 in
theorem ff_X10_readPrimary (nn : Nat) {a1 : Int} {h : ms_M} : Fm_ (fun c k => nw_F wl_X10_readPrimary wf_X10_readPrimary false false c k = true) h (qf_X10_readPrimary nn a1 h) (fun r => r) := (fg_X10_readValue nn 420).2.2.2.1
set_option maxRecDepth 4000 in
theorem ff_X10_readNew (nn : Nat) {a1 : Int} {h : ms_M} : Fm_ (fun c k => nw_F wl_X10_readNew wf_X10_readNew false false c k = true) h (qf_X10_readNew nn a1 h) (fun r => r) := (fg_X10_readValue nn 420).2.2.2.2.1
set_option maxRecDepth 4000 in
theorem ff_X10_readElement (nn : Nat) {a1 : Int} {h : ms_M} : Fm_ (fun c k => nw_F wl_X10_readElement wf_X10_readElement false false c k = true) h (qf_X10_readElement nn a1 h) (fun r => r) := (fg_X10_readValue nn 420).2.2.2.2.2.1
set_option maxRecDepth 4000 in
theorem ff_X10_readNamed (nn : Nat) {a1 : Int} {h : ms_M} : Fm_ (fun c k => nw_F wl_X10_readNamed wf_X10_readNamed false false c k = true) h (qf_X10_readNamed nn a1 h) (fun r => r) := (fg_X10_readValue nn 420).2.2.2.2.2.2.1
set_option maxRecDepth 4000 in
theorem ff_X10_readBehindPoint (nn : Nat) {a1 : Int} {a2 : Int} {h : ms_M} : Fm_ (fun c k => nw_F wl_X10_readBehindPoint wf_X10_readBehindPoint false false c k = true) h (qf_X10_readBehindPoint nn a1 a2 h) (fun r => r) := (fg_X10_readValue nn 420).2.2.2.2.2.2.2.1
set_option maxRecDepth 4000 in
theorem ff_X10_readCall (nn : Nat) {a1 : Int} {a2 : Int} {a3 : Int} {a4 : Int} {a5 : Int} {a6 : Int} {h : ms_M} : Fm_ (fun c k => nw_F wl_X10_readCall wf_X10_readCall false false c k = true) h (qf_X10_readCall nn a1 a2 a3 a4 a5 a6 h) (fun r => r) := (fg_X10_readValue nn 420).2.2.2.2.2.2.2.2
set_option maxRecDepth 4000 in
theorem fj_X10_readCondition_39 (nn : Nat) {l2 : Int} {s0 : Int} {h : ms_M} : Fm_ (fun c k => nw_F wl_X10_readCondition wf_X10_readCondition false false c k = true) h (qj_X10_readCondition_39 nn l2 s0 h) (fun r => r.2) := by
  unfold qj_X10_readCondition_39
  have F_h : ∀ c k : Nat, (fun c k => nw_F wl_X10_readCondition wf_X10_readCondition false false c k = true) c k → h c k = h c k := fun _ _ _ => rfl
  refine fm_ca F_h (ff_X10_wantType nn) (nw_sub rfl) ?_; intro u2 F_u2
  refine fm_xl ?_; intro v5
  refine fm_up F_u2 (nw_nf rfl) ?_; intro h6 F_h6
  refine fm_ca F_h6 (ff_X1_jump nn) (nw_sub rfl) ?_; intro u9 F_u9
  exact fm_ret F_u9
set_option maxRecDepth 4000 in
theorem ff_X10_readCondition (nn : Nat) {a1 : Int} {h : ms_M} : Fm_ (fun c k => nw_F wl_X10_readCondition wf_X10_readCondition false false c k = true) h (qf_X10_readCondition nn a1 h) (fun r => r.2) := by
  unfold qf_X10_readCondition
  have F_h : ∀ c k : Nat, (fun c k => nw_F wl_X10_readCondition wf_X10_readCondition false false c k = true) c k → h c k = h c k := fun _ _ _ => rfl
  refine fm_xl ?_; intro v12
  refine fm_up F_h (nw_nf rfl) ?_; intro h14 F_h14
  refine fm_ca F_h14 (ff_X10_readValue nn) (nw_sub rfl) ?_; intro u16 F_u16
  refine fm_if ?_ ?_
  · exact fm_tl F_u16 (fj_X10_readCondition_39 nn) (fun _ _ z => z)
  · exact fm_tl F_u16 (fj_X10_readCondition_39 nn) (fun _ _ z => z)
set_option maxRecDepth 4000 in
theorem ff_X1_jumpBack (nn : Nat) {a1 : Int} {a2 : Int} {h : ms_M} : Fm_ (fun c k => nw_F wl_X1_jumpBack wf_X1_jumpBack false false c k = true) h (qf_X1_jumpBack nn a1 a2 h) (fun r => r) := by
  unfold qf_X1_jumpBack
  have F_h : ∀ c k : Nat, (fun c k => nw_F wl_X1_jumpBack wf_X1_jumpBack false false c k = true) c k → h c k = h c k := fun _ _ _ => rfl
  refine fm_ca F_h (ff_X1_jump nn) (nw_sub rfl) ?_; intro u2 F_u2
  refine fm_ca F_u2 (ff_X1_aimAt nn) (nw_sub rfl) ?_; intro u4 F_u4
  refine fm_ca F_u4 (ff_X1_slotOfFrame nn) (nw_sub rfl) ?_; intro u6 F_u6
  refine fm_ca F_u6 (ff_X1_fillFrame nn) (nw_sub rfl) ?_; intro u8 F_u8
  exact fm_ret F_u8
set_option maxRecDepth 4000 in
theorem fj_X0_readLeave_99 (nn : Nat) {h : ms_M} : Fm_ (fun c k => nw_F wl_X0_readLeave wf_X0_readLeave false false c k = true) h (qj_X0_readLeave_99 nn h) (fun r => r.2) := by
  unfold qj_X0_readLeave_99
  have F_h : ∀ c k : Nat, (fun c k => nw_F wl_X0_readLeave wf_X0_readLeave false false c k = true) c k → h c k = h c k := fun _ _ _ => rfl
  refine fm_xl ?_; intro v3
  refine fm_up F_h (nw_nf rfl) ?_; intro h4 F_h4
  exact fm_ret F_h4
set_option maxRecDepth 4000 in
theorem ff_X0_readLeave (nn : Nat) {h : ms_M} : Fm_ (fun c k => nw_F wl_X0_readLeave wf_X0_readLeave false false c k = true) h (qf_X0_readLeave nn h) (fun r => r.2) := by
  unfold qf_X0_readLeave
  have F_h : ∀ c k : Nat, (fun c k => nw_F wl_X0_readLeave wf_X0_readLeave false false c k = true) c k → h c k = h c k := fun _ _ _ => rfl
  refine fm_if ?_ ?_
  · refine fm_pu ?_; intro u8
    refine fm_if ?_ ?_
    · refine fm_if ?_ ?_
      · exact fm_tl F_h (fj_X0_readLeave_99 nn) (fun _ _ z => z)
      · refine fm_ca F_h (ff_X1_jump nn) (nw_sub rfl) ?_; intro u16 F_u16
        refine fm_wA F_u16 (nw_ne rfl) ?_; intro h17 F_h17
        refine fm_xl ?_; intro v19
        refine fm_up F_h17 (nw_nf rfl) ?_; intro h20 F_h20
        exact fm_tl F_h20 (fj_X0_readLeave_99 nn) (fun _ _ z => z)
    · refine fm_ca F_h (ff_X1_jumpBack nn) (nw_sub rfl) ?_; intro u26 F_u26
      exact fm_tl F_u26 (fj_X0_readLeave_99 nn) (fun _ _ z => z)
  · refine fm_ca F_h (ff_X9_tell nn) (nw_sub rfl) ?_; intro u32 F_u32
    exact fm_tl F_u32 (fj_X0_readLeave_99 nn) (fun _ _ z => z)
set_option maxRecDepth 4000 in
theorem fj_X0_closeAlone_21 (nn : Nat) {h : ms_M} : Fm_ (fun c k => nw_F wl_X0_closeAlone wf_X0_closeAlone false false c k = true) h (qj_X0_closeAlone_21 nn h) (fun r => r) := by
  unfold qj_X0_closeAlone_21
  have F_h : ∀ c k : Nat, (fun c k => nw_F wl_X0_closeAlone wf_X0_closeAlone false false c k = true) c k → h c k = h c k := fun _ _ _ => rfl
  refine fm_if ?_ ?_
  · exact fm_ret F_h
  · refine fm_ca F_h (ff_X1_op nn) (nw_sub rfl) ?_; intro u5 F_u5
    refine fm_ca F_u5 (ff_X1_pop nn) (nw_sub rfl) ?_; intro u8 F_u8
    exact fm_ret F_u8
set_option maxRecDepth 4000 in
theorem ff_X0_closeAlone (nn : Nat) {a1 : Int} {h : ms_M} : Fm_ (fun c k => nw_F wl_X0_closeAlone wf_X0_closeAlone false false c k = true) h (qf_X0_closeAlone nn a1 h) (fun r => r) := by
  unfold qf_X0_closeAlone
  have F_h : ∀ c k : Nat, (fun c k => nw_F wl_X0_closeAlone wf_X0_closeAlone false false c k = true) c k → h c k = h c k := fun _ _ _ => rfl
  refine fm_if ?_ ?_
  · exact fm_tl F_h (fj_X0_closeAlone_21 nn) (fun _ _ z => z)
  · refine fm_ca F_h (ff_X9_tell nn) (nw_sub rfl) ?_; intro u14 F_u14
    exact fm_tl F_u14 (fj_X0_closeAlone_21 nn) (fun _ _ z => z)
set_option maxRecDepth 4000 in
theorem fj_X1_store_15 (nn : Nat) {l1 : Int} {s0 : Int} {h : ms_M} : Fm_ (fun c k => nw_F wl_X1_store wf_X1_store false false c k = true) h (qj_X1_store_15 nn l1 s0 h) (fun r => r) := by
  unfold qj_X1_store_15
  have F_h : ∀ c k : Nat, (fun c k => nw_F wl_X1_store wf_X1_store false false c k = true) c k → h c k = h c k := fun _ _ _ => rfl
  refine fm_ca F_h (ff_X1_op_ nn) (nw_sub rfl) ?_; intro u2 F_u2
  refine fm_ca F_u2 (ff_X1_pop nn) (nw_sub rfl) ?_; intro u4 F_u4
  exact fm_ret F_u4
set_option maxRecDepth 4000 in
theorem ff_X1_store (nn : Nat) {a1 : Int} {a2 : Int} {h : ms_M} : Fm_ (fun c k => nw_F wl_X1_store wf_X1_store false false c k = true) h (qf_X1_store nn a1 a2 h) (fun r => r) := by
  unfold qf_X1_store
  have F_h : ∀ c k : Nat, (fun c k => nw_F wl_X1_store wf_X1_store false false c k = true) c k → h c k = h c k := fun _ _ _ => rfl
  refine fm_pu ?_; intro u5
  refine fm_if ?_ ?_
  · exact fm_tl F_h (fj_X1_store_15 nn) (fun _ _ z => z)
  · exact fm_tl F_h (fj_X1_store_15 nn) (fun _ _ z => z)
set_option maxRecDepth 4000 in
theorem fj_X0_closeGiving_90 (nn : Nat) {s0 : Int} {h : ms_M} : Fm_ (fun c k => nw_F wl_X0_closeGiving wf_X0_closeGiving false false c k = true) h (qj_X0_closeGiving_90 nn s0 h) (fun r => r) := by
  unfold qj_X0_closeGiving_90
  have F_h : ∀ c k : Nat, (fun c k => nw_F wl_X0_closeGiving wf_X0_closeGiving false false c k = true) c k → h c k = h c k := fun _ _ _ => rfl
  refine fm_ca F_h (ff_X1_op nn) (nw_sub rfl) ?_; intro u2 F_u2
  refine fm_ca F_u2 (ff_X1_pop nn) (nw_sub rfl) ?_; intro u5 F_u5
  exact fm_ret F_u5
set_option maxRecDepth 4000 in
theorem ff_X0_closeGiving (nn : Nat) {a1 : Int} {a2 : Int} {a3 : Int} {a4 : Int} {h : ms_M} : Fm_ (fun c k => nw_F wl_X0_closeGiving wf_X0_closeGiving false false c k = true) h (qf_X0_closeGiving nn a1 a2 a3 a4 h) (fun r => r) := by
  unfold qf_X0_closeGiving
  have F_h : ∀ c k : Nat, (fun c k => nw_F wl_X0_closeGiving wf_X0_closeGiving false false c k = true) c k → h c k = h c k := fun _ _ _ => rfl
  refine fm_if ?_ ?_
  · refine fm_ca F_h (ff_X1_store nn) (nw_sub rfl) ?_; intro u10 F_u10
    exact fm_ret F_u10
  · refine fm_if ?_ ?_
    · refine fm_ca F_h (ff_X6_fieldOf nn) (nw_sub rfl) ?_; intro u14 F_u14
      refine fm_ca F_u14 (ff_X1_op_ nn) (nw_sub rfl) ?_; intro u16 F_u16
      refine fm_ca F_u16 (ff_X1_pop nn) (nw_sub rfl) ?_; intro u19 F_u19
      exact fm_ret F_u19
    · refine fm_if ?_ ?_
      · exact fm_tl F_h (fj_X0_closeGiving_90 nn) (fun _ _ z => z)
      · exact fm_tl F_h (fj_X0_closeGiving_90 nn) (fun _ _ z => z)
set_option maxRecDepth 4000 in
theorem ff_X10_readWhole (nn : Nat) {a1 : Int} {h : ms_M} : Fm_ (fun c k => nw_F wl_X10_readWhole wf_X10_readWhole false false c k = true) h (qf_X10_readWhole nn a1 h) (fun r => r) := by
  unfold qf_X10_readWhole
  have F_h : ∀ c k : Nat, (fun c k => nw_F wl_X10_readWhole wf_X10_readWhole false false c k = true) c k → h c k = h c k := fun _ _ _ => rfl
  refine fm_ca F_h (ff_X10_readValue nn) (nw_sub rfl) ?_; intro u2 F_u2
  exact fm_ret F_u2
set_option maxRecDepth 4000 in
theorem fj_X0_readPlain_156 (nn : Nat) {h : ms_M} : Fm_ (fun c k => nw_F wl_X0_readPlain wf_X0_readPlain false false c k = true) h (qj_X0_readPlain_156 nn h) (fun r => r.2) := by
  unfold qj_X0_readPlain_156
  have F_h : ∀ c k : Nat, (fun c k => nw_F wl_X0_readPlain wf_X0_readPlain false false c k = true) c k → h c k = h c k := fun _ _ _ => rfl
  refine fm_xl ?_; intro v3
  refine fm_up F_h (nw_nf rfl) ?_; intro h4 F_h4
  exact fm_ret F_h4
set_option maxRecDepth 4000 in
theorem fj_X0_readPlain_136 (nn : Nat) {l4 : Int} {l5 : Int} {l6 : Int} {l7 : Int} {h : ms_M} : Fm_ (fun c k => nw_F wl_X0_readPlain wf_X0_readPlain false false c k = true) h (qj_X0_readPlain_136 nn l4 l5 l6 l7 h) (fun r => r.2) := by
  unfold qj_X0_readPlain_136
  have F_h : ∀ c k : Nat, (fun c k => nw_F wl_X0_readPlain wf_X0_readPlain false false c k = true) c k → h c k = h c k := fun _ _ _ => rfl
  refine fm_ca F_h (ff_X0_closeGiving nn) (nw_sub rfl) ?_; intro u6 F_u6
  exact fm_tl F_u6 (fj_X0_readPlain_156 nn) (fun _ _ z => z)
set_option maxRecDepth 4000 in
theorem fj_X0_readPlain_126 (nn : Nat) {l3 : Int} {l4 : Int} {l5 : Int} {l6 : Int} {l7 : Int} {h : ms_M} : Fm_ (fun c k => nw_F wl_X0_readPlain wf_X0_readPlain false false c k = true) h (qj_X0_readPlain_126 nn l3 l4 l5 l6 l7 h) (fun r => r.2) := by
  unfold qj_X0_readPlain_126
  have F_h : ∀ c k : Nat, (fun c k => nw_F wl_X0_readPlain wf_X0_readPlain false false c k = true) c k → h c k = h c k := fun _ _ _ => rfl
  refine fm_ca F_h (ff_X9_tell nn) (nw_sub rfl) ?_; intro u9 F_u9
  exact fm_tl F_u9 (fj_X0_readPlain_136 nn) (fun _ _ z => z)
set_option maxRecDepth 4000 in
theorem ff_X0_readPlain (nn : Nat) {a1 : Int} {h : ms_M} : Fm_ (fun c k => nw_F wl_X0_readPlain wf_X0_readPlain false false c k = true) h (qf_X0_readPlain nn a1 h) (fun r => r.2) := by
  unfold qf_X0_readPlain
  have F_h : ∀ c k : Nat, (fun c k => nw_F wl_X0_readPlain wf_X0_readPlain false false c k = true) c k → h c k = h c k := fun _ _ _ => rfl
  refine fm_up F_h (nw_nf rfl) ?_; intro h13 F_h13
  refine fm_ca F_h13 (ff_X10_readWhole nn) (nw_sub rfl) ?_; intro u16 F_u16
  refine fm_pu ?_; intro u19
  refine fm_if ?_ ?_
  · refine fm_ca F_u16 (ff_X0_closeAlone nn) (nw_sub rfl) ?_; intro u21 F_u21
    exact fm_tl F_u21 (fj_X0_readPlain_156 nn) (fun _ _ z => z)
  · refine fm_xl ?_; intro v34
    refine fm_up F_u16 (nw_nf rfl) ?_; intro h35 F_h35
    refine fm_ca F_h35 (ff_X10_readWhole nn) (nw_sub rfl) ?_; intro u38 F_u38
    refine fm_if ?_ ?_
    · exact fm_tl F_u38 (fj_X0_readPlain_126 nn) (fun _ _ z => z)
    · refine fm_pu ?_; intro u43
      refine fm_if ?_ ?_
      · exact fm_tl F_u38 (fj_X0_readPlain_136 nn) (fun _ _ z => z)
      · exact fm_tl F_u38 (fj_X0_readPlain_126 nn) (fun _ _ z => z)
set_option maxRecDepth 4000 in
theorem fj_X0_readPrint_52 (nn : Nat) {h : ms_M} : Fm_ (fun c k => nw_F wl_X0_readPrint wf_X0_readPrint false false c k = true) h (qj_X0_readPrint_52 nn h) (fun r => r.2) := by
  unfold qj_X0_readPrint_52
  have F_h : ∀ c k : Nat, (fun c k => nw_F wl_X0_readPrint wf_X0_readPrint false false c k = true) c k → h c k = h c k := fun _ _ _ => rfl
  refine fm_ca F_h (ff_X1_op nn) (nw_sub rfl) ?_; intro u3 F_u3
  refine fm_ca F_u3 (ff_X1_pop nn) (nw_sub rfl) ?_; intro u6 F_u6
  refine fm_xl ?_; intro v9
  refine fm_up F_u6 (nw_nf rfl) ?_; intro h10 F_h10
  exact fm_ret F_h10
set_option maxRecDepth 4000 in
theorem ff_X0_readPrint (nn : Nat) {a1 : Int} {h : ms_M} : Fm_ (fun c k => nw_F wl_X0_readPrint wf_X0_readPrint false false c k = true) h (qf_X0_readPrint nn a1 h) (fun r => r.2) := by
  unfold qf_X0_readPrint
  have F_h : ∀ c k : Nat, (fun c k => nw_F wl_X0_readPrint wf_X0_readPrint false false c k = true) c k → h c k = h c k := fun _ _ _ => rfl
  refine fm_xl ?_; intro v15
  refine fm_up F_h (nw_nf rfl) ?_; intro h16 F_h16
  refine fm_ca F_h16 (ff_X10_readWhole nn) (nw_sub rfl) ?_; intro u19 F_u19
  refine fm_pu ?_; intro u22
  refine fm_if ?_ ?_
  · exact fm_tl F_u19 (fj_X0_readPrint_52 nn) (fun _ _ z => z)
  · refine fm_ca F_u19 (ff_X9_tell nn) (nw_sub rfl) ?_; intro u25 F_u25
    exact fm_tl F_u25 (fj_X0_readPrint_52 nn) (fun _ _ z => z)
set_option maxRecDepth 4000 in
theorem fj_X0_readReturn_158 (nn : Nat) {h : ms_M} : Fm_ (fun c k => nw_F wl_X0_readReturn wf_X0_readReturn false false c k = true) h (qj_X0_readReturn_158 nn h) (fun r => r.2) := by
  unfold qj_X0_readReturn_158
  have F_h : ∀ c k : Nat, (fun c k => nw_F wl_X0_readReturn wf_X0_readReturn false false c k = true) c k → h c k = h c k := fun _ _ _ => rfl
  refine fm_xl ?_; intro v3
  refine fm_up F_h (nw_nf rfl) ?_; intro h4 F_h4
  exact fm_ret F_h4
set_option maxRecDepth 4000 in
theorem fj_X0_readReturn_147 (nn : Nat) {s0 : Int} {h : ms_M} : Fm_ (fun c k => nw_F wl_X0_readReturn wf_X0_readReturn false false c k = true) h (qj_X0_readReturn_147 nn s0 h) (fun r => r.2) := by
  unfold qj_X0_readReturn_147
  have F_h : ∀ c k : Nat, (fun c k => nw_F wl_X0_readReturn wf_X0_readReturn false false c k = true) c k → h c k = h c k := fun _ _ _ => rfl
  refine fm_ca F_h (ff_X1_op nn) (nw_sub rfl) ?_; intro u6 F_u6
  refine fm_ca F_u6 (ff_X1_pop nn) (nw_sub rfl) ?_; intro u9 F_u9
  exact fm_tl F_u9 (fj_X0_readReturn_158 nn) (fun _ _ z => z)
set_option maxRecDepth 4000 in
theorem fj_X0_readReturn_124 (nn : Nat) {h : ms_M} : Fm_ (fun c k => nw_F wl_X0_readReturn wf_X0_readReturn false false c k = true) h (qj_X0_readReturn_124 nn h) (fun r => r.2) := by
  unfold qj_X0_readReturn_124
  have F_h : ∀ c k : Nat, (fun c k => nw_F wl_X0_readReturn wf_X0_readReturn false false c k = true) c k → h c k = h c k := fun _ _ _ => rfl
  refine fm_pu ?_; intro u12
  refine fm_if ?_ ?_
  · exact fm_tl F_h (fj_X0_readReturn_147 nn) (fun _ _ z => z)
  · exact fm_tl F_h (fj_X0_readReturn_147 nn) (fun _ _ z => z)
set_option maxRecDepth 4000 in
theorem fj_X0_readReturn_68 (nn : Nat) {l1 : Int} {l2 : Int} {l3 : Int} {h : ms_M} : Fm_ (fun c k => nw_F wl_X0_readReturn wf_X0_readReturn false false c k = true) h (qj_X0_readReturn_68 nn l1 l2 l3 h) (fun r => r.2) := by
  unfold qj_X0_readReturn_68
  have F_h : ∀ c k : Nat, (fun c k => nw_F wl_X0_readReturn wf_X0_readReturn false false c k = true) c k → h c k = h c k := fun _ _ _ => rfl
  refine fm_if ?_ ?_
  · refine fm_ca F_h (ff_X10_readWhole nn) (nw_sub rfl) ?_; intro u16 F_u16
    refine fm_pu ?_; intro u22
    refine fm_if ?_ ?_
    · exact fm_tl F_u16 (fj_X0_readReturn_124 nn) (fun _ _ z => z)
    · refine fm_ca F_u16 (ff_X9_tell nn) (nw_sub rfl) ?_; intro u25 F_u25
      exact fm_tl F_u25 (fj_X0_readReturn_124 nn) (fun _ _ z => z)
  · refine fm_ca F_h (ff_X1_op nn) (nw_sub rfl) ?_; intro u29 F_u29
    exact fm_tl F_u29 (fj_X0_readReturn_158 nn) (fun _ _ z => z)
set_option maxRecDepth 4000 in
theorem fj_X0_readReturn_55 (nn : Nat) {l1 : Int} {l2 : Int} {l3 : Int} {s0 : Int} {s1 : Int} {h : ms_M} : Fm_ (fun c k => nw_F wl_X0_readReturn wf_X0_readReturn false false c k = true) h (qj_X0_readReturn_55 nn l1 l2 l3 s0 s1 h) (fun r => r.2) := by
  unfold qj_X0_readReturn_55
  have F_h : ∀ c k : Nat, (fun c k => nw_F wl_X0_readReturn wf_X0_readReturn false false c k = true) c k → h c k = h c k := fun _ _ _ => rfl
  refine fm_if ?_ ?_
  · exact fm_tl F_h (fj_X0_readReturn_68 nn) (fun _ _ z => z)
  · refine fm_ca F_h (ff_X9_tell nn) (nw_sub rfl) ?_; intro u33 F_u33
    exact fm_tl F_u33 (fj_X0_readReturn_68 nn) (fun _ _ z => z)
set_option maxRecDepth 4000 in
theorem fj_X0_readReturn_38 (nn : Nat) {l1 : Int} {l2 : Int} {s0 : Int} {h : ms_M} : Fm_ (fun c k => nw_F wl_X0_readReturn wf_X0_readReturn false false c k = true) h (qj_X0_readReturn_38 nn l1 l2 s0 h) (fun r => r.2) := by
  unfold qj_X0_readReturn_38
  have F_h : ∀ c k : Nat, (fun c k => nw_F wl_X0_readReturn wf_X0_readReturn false false c k = true) c k → h c k = h c k := fun _ _ _ => rfl
  refine fm_if ?_ ?_
  · exact fm_tl F_h (fj_X0_readReturn_55 nn) (fun _ _ z => z)
  · exact fm_tl F_h (fj_X0_readReturn_55 nn) (fun _ _ z => z)
set_option maxRecDepth 4000 in
theorem ff_X0_readReturn (nn : Nat) {a1 : Int} {h : ms_M} : Fm_ (fun c k => nw_F wl_X0_readReturn wf_X0_readReturn false false c k = true) h (qf_X0_readReturn nn a1 h) (fun r => r.2) := by
  unfold qf_X0_readReturn
  have F_h : ∀ c k : Nat, (fun c k => nw_F wl_X0_readReturn wf_X0_readReturn false false c k = true) c k → h c k = h c k := fun _ _ _ => rfl
  refine fm_xl ?_; intro v41
  refine fm_up F_h (nw_nf rfl) ?_; intro h42 F_h42
  refine fm_pu ?_; intro u45
  refine fm_if ?_ ?_
  · exact fm_tl F_h42 (fj_X0_readReturn_38 nn) (fun _ _ z => z)
  · exact fm_tl F_h42 (fj_X0_readReturn_38 nn) (fun _ _ z => z)
set_option maxRecDepth 4000 in
theorem fj_X0_readThrow_57 (nn : Nat) {h : ms_M} : Fm_ (fun c k => nw_F wl_X0_readThrow wf_X0_readThrow false false c k = true) h (qj_X0_readThrow_57 nn h) (fun r => r.2) := by
  unfold qj_X0_readThrow_57
  have F_h : ∀ c k : Nat, (fun c k => nw_F wl_X0_readThrow wf_X0_readThrow false false c k = true) c k → h c k = h c k := fun _ _ _ => rfl
  refine fm_ca F_h (ff_X1_op nn) (nw_sub rfl) ?_; intro u3 F_u3
  refine fm_ca F_u3 (ff_X1_pop nn) (nw_sub rfl) ?_; intro u6 F_u6
  refine fm_xl ?_; intro v9
  refine fm_up F_u6 (nw_nf rfl) ?_; intro h10 F_h10
  exact fm_ret F_h10
set_option maxRecDepth 4000 in
theorem ff_X0_readThrow (nn : Nat) {a1 : Int} {h : ms_M} : Fm_ (fun c k => nw_F wl_X0_readThrow wf_X0_readThrow false false c k = true) h (qf_X0_readThrow nn a1 h) (fun r => r.2) := by
  unfold qf_X0_readThrow
  have F_h : ∀ c k : Nat, (fun c k => nw_F wl_X0_readThrow wf_X0_readThrow false false c k = true) c k → h c k = h c k := fun _ _ _ => rfl
  refine fm_xl ?_; intro v15
  refine fm_up F_h (nw_nf rfl) ?_; intro h16 F_h16
  refine fm_ca F_h16 (ff_X10_readWhole nn) (nw_sub rfl) ?_; intro u19 F_u19
  refine fm_pu ?_; intro u24
  refine fm_if ?_ ?_
  · exact fm_tl F_u19 (fj_X0_readThrow_57 nn) (fun _ _ z => z)
  · refine fm_ca F_u19 (ff_X9_tell nn) (nw_sub rfl) ?_; intro u27 F_u27
    exact fm_tl F_u27 (fj_X0_readThrow_57 nn) (fun _ _ z => z)
set_option maxRecDepth 4000 in
theorem ff_X0_checkTwice (nn : Nat) {a1 : Int} {h : ms_M} : Fm_ (fun c k => nw_F wl_X0_checkTwice wf_X0_checkTwice false false c k = true) h (qf_X0_checkTwice nn a1 h) (fun r => r) := by
  unfold qf_X0_checkTwice
  have F_h : ∀ c k : Nat, (fun c k => nw_F wl_X0_checkTwice wf_X0_checkTwice false false c k = true) c k → h c k = h c k := fun _ _ _ => rfl
  refine fm_pu ?_; intro u4
  refine fm_pu ?_; intro u6
  refine fm_if ?_ ?_
  · exact fm_ret F_h
  · refine fm_ca F_h (ff_X9_tell nn) (nw_sub rfl) ?_; intro u9 F_u9
    exact fm_ret F_u9
set_option maxRecDepth 4000 in
theorem fj_X1_addHandler_76 (nn : Nat) {l3 : Int} {h : ms_M} : Fm_ (fun c k => nw_F wl_X1_addHandler wf_X1_addHandler false false c k = true) h (qj_X1_addHandler_76 nn l3 h) (fun r => r) := by
  unfold qj_X1_addHandler_76
  have F_h : ∀ c k : Nat, (fun c k => nw_F wl_X1_addHandler wf_X1_addHandler false false c k = true) c k → h c k = h c k := fun _ _ _ => rfl
  refine fm_ca F_h (ff_X1_push nn) (nw_sub rfl) ?_; intro u2 F_u2
  refine fm_ca F_u2 (ff_X1_slotOfFrame nn) (nw_sub rfl) ?_; intro u5 F_u5
  refine fm_ca F_u5 (ff_X1_fillFrame nn) (nw_sub rfl) ?_; intro u9 F_u9
  exact fm_ret F_u9
set_option maxRecDepth 4000 in
theorem ff_X1_addHandler (nn : Nat) {a1 : Int} {a2 : Int} {a3 : Int} {h : ms_M} : Fm_ (fun c k => nw_F wl_X1_addHandler wf_X1_addHandler false false c k = true) h (qf_X1_addHandler nn a1 a2 a3 h) (fun r => r) := by
  unfold qf_X1_addHandler
  have F_h : ∀ c k : Nat, (fun c k => nw_F wl_X1_addHandler wf_X1_addHandler false false c k = true) c k → h c k = h c k := fun _ _ _ => rfl
  refine fm_if ?_ ?_
  · refine fm_xl ?_; intro v12
    refine fm_wA F_h (nw_ne rfl) ?_; intro h14 F_h14
    refine fm_xl ?_; intro v16
    refine fm_wA F_h14 (nw_ne rfl) ?_; intro h17 F_h17
    refine fm_xl ?_; intro v19
    refine fm_wA F_h17 (nw_ne rfl) ?_; intro h21 F_h21
    refine fm_xl ?_; intro v23
    refine fm_wA F_h21 (nw_ne rfl) ?_; intro h24 F_h24
    refine fm_xl ?_; intro v26
    refine fm_up F_h24 (nw_nf rfl) ?_; intro h27 F_h27
    exact fm_tl F_h27 (fj_X1_addHandler_76 nn) (fun _ _ z => z)
  · refine fm_up F_h (nw_nf rfl) ?_; intro h28 F_h28
    exact fm_tl F_h28 (fj_X1_addHandler_76 nn) (fun _ _ z => z)
set_option maxRecDepth 4000 in
theorem fj_X1_addLocal_28 (nn : Nat) {l3 : Int} {h : ms_M} : Fm_ (fun c k => nw_F wl_X1_addLocal wf_X1_addLocal false false c k = true) h (qj_X1_addLocal_28 nn l3 h) (fun r => r.2) := by
  unfold qj_X1_addLocal_28
  have F_h : ∀ c k : Nat, (fun c k => nw_F wl_X1_addLocal wf_X1_addLocal false false c k = true) c k → h c k = h c k := fun _ _ _ => rfl
  refine fm_xl ?_; intro v2
  refine fm_up F_h (nw_nf rfl) ?_; intro h3 F_h3
  refine fm_xl ?_; intro v6
  refine fm_up F_h3 (nw_nf rfl) ?_; intro h7 F_h7
  exact fm_ret F_h7
set_option maxRecDepth 4000 in
theorem ff_X1_addLocal (nn : Nat) {a1 : Int} {a2 : Int} {h : ms_M} : Fm_ (fun c k => nw_F wl_X1_addLocal wf_X1_addLocal false false c k = true) h (qf_X1_addLocal nn a1 a2 h) (fun r => r.2) := by
  unfold qf_X1_addLocal
  have F_h : ∀ c k : Nat, (fun c k => nw_F wl_X1_addLocal wf_X1_addLocal false false c k = true) c k → h c k = h c k := fun _ _ _ => rfl
  refine fm_if ?_ ?_
  · exact fm_tl F_h (fj_X1_addLocal_28 nn) (fun _ _ z => z)
  · refine fm_wA F_h (nw_ne rfl) ?_; intro h12 F_h12
    refine fm_wA F_h12 (nw_ne rfl) ?_; intro h14 F_h14
    exact fm_tl F_h14 (fj_X1_addLocal_28 nn) (fun _ _ z => z)
