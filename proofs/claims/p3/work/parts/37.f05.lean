set_option maxRecDepth 4000 in
theorem fj_X11_applyJump_22 (nn : Nat) {h : ms_M} : Fm_ (fun c k => nw_F wl_X11_applyJump wf_X11_applyJump false false c k = true) h (qj_X11_applyJump_22 nn h) (fun r => r) := by
  unfold qj_X11_applyJump_22
  have F_h : ∀ c k : Nat, (fun c k => nw_F wl_X11_applyJump wf_X11_applyJump false false c k = true) c k → h c k = h c k := fun _ _ _ => rfl
  refine fm_ca F_h (ff_X11_wantReference nn) (nw_sub rfl) ?_; intro u2 F_u2
  refine fm_ca F_u2 (ff_X11_wantReference nn) (nw_sub rfl) ?_; intro u4 F_u4
  exact fm_ret F_u4
set_option maxRecDepth 4000 in
theorem ff_X11_applyJump (nn : Nat) {a1 : Int} {h : ms_M} : Fm_ (fun c k => nw_F wl_X11_applyJump wf_X11_applyJump false false c k = true) h (qf_X11_applyJump nn a1 h) (fun r => r) := by
  unfold qf_X11_applyJump
  have F_h : ∀ c k : Nat, (fun c k => nw_F wl_X11_applyJump wf_X11_applyJump false false c k = true) c k → h c k = h c k := fun _ _ _ => rfl
  refine fm_if ?_ ?_
  · refine fm_if ?_ ?_
    · exact fm_tl F_h (fj_X11_applyJump_22 nn) (fun _ _ z => z)
    · refine fm_if ?_ ?_
      · refine fm_ca F_h (ff_X11_want nn) (nw_sub rfl) ?_; intro u6 F_u6
        refine fm_if ?_ ?_
        · exact fm_ret F_u6
        · refine fm_ca F_u6 (ff_X11_want nn) (nw_sub rfl) ?_; intro u8 F_u8
          exact fm_ret F_u8
      · exact fm_tl F_h (fj_X11_applyJump_22 nn) (fun _ _ z => z)
  · exact fm_ret F_h
set_option maxRecDepth 4000 in
theorem fj_X11_applyLocal_91 (nn : Nat) {l2 : Int} {s0 : Int} {h : ms_M} : Fm_ (fun c k => nw_F wl_X11_applyLocal wf_X11_applyLocal false false c k = true) h (qj_X11_applyLocal_91 nn l2 s0 h) (fun r => r) := by
  unfold qj_X11_applyLocal_91
  have F_h : ∀ c k : Nat, (fun c k => nw_F wl_X11_applyLocal wf_X11_applyLocal false false c k = true) c k → h c k = h c k := fun _ _ _ => rfl
  refine fm_ck ?_; intro _
  refine fm_up F_h (nw_nf rfl) ?_; intro h2 F_h2
  refine fm_rd ?_; intro v4
  refine fm_ca F_h2 (ff_X11_push nn) (nw_sub rfl) ?_; intro u6 F_u6
  exact fm_ret F_u6
set_option maxRecDepth 4000 in
theorem fj_X11_applyLocal_90 (nn : Nat) {l2 : Int} {h : ms_M} : Fm_ (fun c k => nw_F wl_X11_applyLocal wf_X11_applyLocal false false c k = true) h (qj_X11_applyLocal_90 nn l2 h) (fun r => r) := by
  unfold qj_X11_applyLocal_90
  have F_h : ∀ c k : Nat, (fun c k => nw_F wl_X11_applyLocal wf_X11_applyLocal false false c k = true) c k → h c k = h c k := fun _ _ _ => rfl
  exact fm_tl F_h (fj_X11_applyLocal_91 nn) (fun _ _ z => z)
set_option maxRecDepth 4000 in
theorem fj_X11_applyLocal_73 (nn : Nat) {l2 : Int} {s0 : Int} {h : ms_M} : Fm_ (fun c k => nw_F wl_X11_applyLocal wf_X11_applyLocal false false c k = true) h (qj_X11_applyLocal_73 nn l2 s0 h) (fun r => r) := by
  unfold qj_X11_applyLocal_73
  have F_h : ∀ c k : Nat, (fun c k => nw_F wl_X11_applyLocal wf_X11_applyLocal false false c k = true) c k → h c k = h c k := fun _ _ _ => rfl
  refine fm_if ?_ ?_
  · exact fm_tl F_h (fj_X11_applyLocal_90 nn) (fun _ _ z => z)
  · refine fm_if ?_ ?_
    · exact fm_tl F_h (fj_X11_applyLocal_90 nn) (fun _ _ z => z)
    · exact fm_tl F_h (fj_X11_applyLocal_91 nn) (fun _ _ z => z)
set_option maxRecDepth 4000 in
theorem fj_X11_applyLocal_38 (nn : Nat) {l1 : Int} {l2 : Int} {h : ms_M} : Fm_ (fun c k => nw_F wl_X11_applyLocal wf_X11_applyLocal false false c k = true) h (qj_X11_applyLocal_38 nn l1 l2 h) (fun r => r) := by
  unfold qj_X11_applyLocal_38
  have F_h : ∀ c k : Nat, (fun c k => nw_F wl_X11_applyLocal wf_X11_applyLocal false false c k = true) c k → h c k = h c k := fun _ _ _ => rfl
  refine fm_if ?_ ?_
  · refine fm_rd ?_; intro v11
    refine fm_pu ?_; intro u12
    exact fm_tl F_h (fj_X11_applyLocal_73 nn) (fun _ _ z => z)
  · refine fm_rd ?_; intro v14
    refine fm_if ?_ ?_
    · exact fm_tl F_h (fj_X11_applyLocal_73 nn) (fun _ _ z => z)
    · exact fm_tl F_h (fj_X11_applyLocal_73 nn) (fun _ _ z => z)
set_option maxRecDepth 4000 in
theorem fj_X11_applyLocal_18 (nn : Nat) {h : ms_M} : Fm_ (fun c k => nw_F wl_X11_applyLocal wf_X11_applyLocal false false c k = true) h (qj_X11_applyLocal_18 nn h) (fun r => r) := by
  unfold qj_X11_applyLocal_18
  have F_h : ∀ c k : Nat, (fun c k => nw_F wl_X11_applyLocal wf_X11_applyLocal false false c k = true) c k → h c k = h c k := fun _ _ _ => rfl
  refine fm_up F_h (nw_nf rfl) ?_; intro h17 F_h17
  exact fm_ret F_h17
set_option maxRecDepth 4000 in
theorem ff_X11_applyLocal (nn : Nat) {a1 : Int} {a2 : Int} {h : ms_M} : Fm_ (fun c k => nw_F wl_X11_applyLocal wf_X11_applyLocal false false c k = true) h (qf_X11_applyLocal nn a1 a2 h) (fun r => r) := by
  unfold qf_X11_applyLocal
  have F_h : ∀ c k : Nat, (fun c k => nw_F wl_X11_applyLocal wf_X11_applyLocal false false c k = true) c k → h c k = h c k := fun _ _ _ => rfl
  refine fm_pu ?_; intro u19
  refine fm_if ?_ ?_
  · exact fm_tl F_h (fj_X11_applyLocal_18 nn) (fun _ _ z => z)
  · refine fm_if ?_ ?_
    · refine fm_if ?_ ?_
      · exact fm_tl F_h (fj_X11_applyLocal_38 nn) (fun _ _ z => z)
      · refine fm_if ?_ ?_
        · refine fm_if ?_ ?_
          · refine fm_ca F_h (ff_X11_wantReference nn) (nw_sub rfl) ?_; intro u24 F_u24
            refine fm_wA F_u24 (nw_ne rfl) ?_; intro h25 F_h25
            exact fm_ret F_h25
          · refine fm_ca F_h (ff_X11_want nn) (nw_sub rfl) ?_; intro u27 F_u27
            refine fm_wA F_u27 (nw_ne rfl) ?_; intro h29 F_h29
            exact fm_ret F_h29
        · exact fm_tl F_h (fj_X11_applyLocal_38 nn) (fun _ _ z => z)
    · exact fm_tl F_h (fj_X11_applyLocal_18 nn) (fun _ _ z => z)
set_option maxRecDepth 4000 in
theorem fj_X11_applyMember_131 (nn : Nat) {l4 : Int} {h : ms_M} : Fm_ (fun c k => nw_F wl_X11_applyMember wf_X11_applyMember false false c k = true) h (qj_X11_applyMember_131 nn l4 h) (fun r => r) := by
  unfold qj_X11_applyMember_131
  have F_h : ∀ c k : Nat, (fun c k => nw_F wl_X11_applyMember wf_X11_applyMember false false c k = true) c k → h c k = h c k := fun _ _ _ => rfl
  refine fm_rd ?_; intro v2
  refine fm_if ?_ ?_
  · exact fm_ret F_h
  · refine fm_rd ?_; intro v4
    refine fm_ca F_h (ff_X11_push nn) (nw_sub rfl) ?_; intro u6 F_u6
    exact fm_ret F_u6
set_option maxRecDepth 4000 in
theorem fw_X11_applyMember_94 (nn : Nat) : ∀ (k : Nat) {l1 : Int} {l3 : Int} {l4 : Int} {l5 : Int} {h : ms_M}, Fm_ (fun c k => nw_F wl_X11_applyMember wf_X11_applyMember false false c k = true) h (qw_X11_applyMember_94 nn k l1 l3 l4 l5 h) (fun r => r) := by
  intro k
  induction k with
  | zero => intros; exact fm_no
  | succ k ih =>
    intro l1 l3 l4 l5 h
    unfold qw_X11_applyMember_94
    have F_h : ∀ c k : Nat, (fun c k => nw_F wl_X11_applyMember wf_X11_applyMember false false c k = true) c k → h c k = h c k := fun _ _ _ => rfl
    refine fm_if ?_ ?_
    · refine fm_if ?_ ?_
      · exact fm_tl F_h (fj_X11_applyMember_131 nn) (fun _ _ z => z)
      · refine fm_ca F_h (ff_X11_want nn) (nw_sub rfl) ?_; intro u9 F_u9
        exact fm_tl F_u9 (fj_X11_applyMember_131 nn) (fun _ _ z => z)
    · refine fm_xl ?_; intro v12
      refine fm_rd ?_; intro v13
      refine fm_ca F_h (ff_X11_want nn) (nw_sub rfl) ?_; intro u15 F_u15
      refine fm_xl ?_; intro v16
      exact fm_tl F_u15 (ih ) (fun _ _ z => z)
set_option maxRecDepth 4000 in
theorem ff_X11_applyMember (nn : Nat) {a1 : Int} {a2 : Int} {h : ms_M} : Fm_ (fun c k => nw_F wl_X11_applyMember wf_X11_applyMember false false c k = true) h (qf_X11_applyMember nn a1 a2 h) (fun r => r) := by
  unfold qf_X11_applyMember
  have F_h : ∀ c k : Nat, (fun c k => nw_F wl_X11_applyMember wf_X11_applyMember false false c k = true) c k → h c k = h c k := fun _ _ _ => rfl
  refine fm_ck ?_; intro _
  refine fm_ck ?_; intro hb1
  refine fm_pu ?_; intro u21
  refine fm_rd ?_; intro v22
  refine fm_xl ?_; intro v23
  refine fm_if ?_ ?_
  · refine fm_ca F_h (ff_X11_want nn) (nw_sub rfl) ?_; intro u27 F_u27
    refine fm_rd ?_; intro v29
    refine fm_ca F_u27 (ff_X11_push nn) (nw_sub rfl) ?_; intro u31 F_u31
    exact fm_ret F_u31
  · refine fm_if ?_ ?_
    · refine fm_rd ?_; intro v33
      refine fm_ca F_h (ff_X11_want nn) (nw_sub rfl) ?_; intro u35 F_u35
      refine fm_ca F_u35 (ff_X11_want nn) (nw_sub rfl) ?_; intro u37 F_u37
      exact fm_ret F_u37
    · refine fm_rd ?_; intro v25
      exact fm_tl F_h (fw_X11_applyMember_94 nn _) (fun _ _ z => z)
set_option maxRecDepth 4000 in
theorem ff_X11_applyObject (nn : Nat) {a1 : Int} {a2 : Int} {h : ms_M} : Fm_ (fun c k => nw_F wl_X11_applyObject wf_X11_applyObject false false c k = true) h (qf_X11_applyObject nn a1 a2 h) (fun r => r) := by
  unfold qf_X11_applyObject
  have F_h : ∀ c k : Nat, (fun c k => nw_F wl_X11_applyObject wf_X11_applyObject false false c k = true) c k → h c k = h c k := fun _ _ _ => rfl
  refine fm_if ?_ ?_
  · refine fm_ca F_h (ff_X11_want nn) (nw_sub rfl) ?_; intro u6 F_u6
    exact fm_ret F_u6
  · refine fm_if ?_ ?_
    · refine fm_rd ?_; intro v8
      refine fm_ca F_h (ff_X11_push nn) (nw_sub rfl) ?_; intro u10 F_u10
      exact fm_ret F_u10
    · refine fm_if ?_ ?_
      · refine fm_ca F_h (ff_X11_want nn) (nw_sub rfl) ?_; intro u12 F_u12
        refine fm_ca F_u12 (ff_X11_push nn) (nw_sub rfl) ?_; intro u14 F_u14
        exact fm_ret F_u14
      · refine fm_if ?_ ?_
        · refine fm_ca F_h (ff_X11_want nn) (nw_sub rfl) ?_; intro u16 F_u16
          refine fm_rd ?_; intro v18
          refine fm_xl ?_; intro v19
          refine fm_ca F_u16 (ff_X11_push nn) (nw_sub rfl) ?_; intro u21 F_u21
          exact fm_ret F_u21
        · refine fm_if ?_ ?_
          · refine fm_ca F_h (ff_X11_wantArray nn) (nw_sub rfl) ?_; intro u23 F_u23
            refine fm_ca F_u23 (ff_X11_push nn) (nw_sub rfl) ?_; intro u25 F_u25
            exact fm_ret F_u25
          · refine fm_if ?_ ?_
            · refine fm_ca F_h (ff_X11_want nn) (nw_sub rfl) ?_; intro u27 F_u27
              exact fm_ret F_u27
            · refine fm_if ?_ ?_
              · refine fm_ca F_h (ff_X11_wantReference nn) (nw_sub rfl) ?_; intro u29 F_u29
                refine fm_rd ?_; intro v31
                refine fm_ca F_u29 (ff_X11_push nn) (nw_sub rfl) ?_; intro u33 F_u33
                exact fm_ret F_u33
              · refine fm_ca F_h (ff_X11_wantReference nn) (nw_sub rfl) ?_; intro u2 F_u2
                refine fm_ca F_u2 (ff_X11_push nn) (nw_sub rfl) ?_; intro u4 F_u4
                exact fm_ret F_u4
set_option maxRecDepth 4000 in
theorem fj_X11_applyReturn_65 (nn : Nat) {h : ms_M} : Fm_ (fun c k => nw_F wl_X11_applyReturn wf_X11_applyReturn false false c k = true) h (qj_X11_applyReturn_65 nn h) (fun r => r) := by
  unfold qj_X11_applyReturn_65
  have F_h : ∀ c k : Nat, (fun c k => nw_F wl_X11_applyReturn wf_X11_applyReturn false false c k = true) c k → h c k = h c k := fun _ _ _ => rfl
  refine fm_up F_h (nw_nf rfl) ?_; intro h1 F_h1
  exact fm_ret F_h1
set_option maxRecDepth 4000 in
theorem ff_X11_applyReturn (nn : Nat) {a1 : Int} {h : ms_M} : Fm_ (fun c k => nw_F wl_X11_applyReturn wf_X11_applyReturn false false c k = true) h (qf_X11_applyReturn nn a1 h) (fun r => r) := by
  unfold qf_X11_applyReturn
  have F_h : ∀ c k : Nat, (fun c k => nw_F wl_X11_applyReturn wf_X11_applyReturn false false c k = true) c k → h c k = h c k := fun _ _ _ => rfl
  refine fm_if ?_ ?_
  · refine fm_if ?_ ?_
    · refine fm_ca F_h (ff_X11_want nn) (nw_sub rfl) ?_; intro u4 F_u4
      refine fm_if ?_ ?_
      · refine fm_up F_u4 (nw_nf rfl) ?_; intro h6 F_h6
        exact fm_ret F_h6
      · refine fm_if ?_ ?_
        · refine fm_up F_u4 (nw_nf rfl) ?_; intro h8 F_h8
          exact fm_ret F_h8
        · refine fm_if ?_ ?_
          · refine fm_up F_u4 (nw_nf rfl) ?_; intro h10 F_h10
            exact fm_ret F_h10
          · refine fm_up F_u4 (nw_nf rfl) ?_; intro h11 F_h11
            exact fm_ret F_h11
    · refine fm_ca F_h (ff_X11_want nn) (nw_sub rfl) ?_; intro u16 F_u16
      refine fm_if ?_ ?_
      · exact fm_tl F_u16 (fj_X11_applyReturn_65 nn) (fun _ _ z => z)
      · refine fm_if ?_ ?_
        · exact fm_tl F_u16 (fj_X11_applyReturn_65 nn) (fun _ _ z => z)
        · refine fm_up F_u16 (nw_nf rfl) ?_; intro h19 F_h19
          exact fm_ret F_h19
  · refine fm_if ?_ ?_
    · refine fm_up F_h (nw_nf rfl) ?_; intro h24 F_h24
      exact fm_ret F_h24
    · refine fm_up F_h (nw_nf rfl) ?_; intro h25 F_h25
      exact fm_ret F_h25
set_option maxRecDepth 4000 in
theorem fj_X11_applySimple_103 (nn : Nat) {l1 : Int} {l2 : Int} {h : ms_M} : Fm_ (fun c k => nw_F wl_X11_applySimple wf_X11_applySimple false false c k = true) h (qj_X11_applySimple_103 nn l1 l2 h) (fun r => r) := by
  unfold qj_X11_applySimple_103
  have F_h : ∀ c k : Nat, (fun c k => nw_F wl_X11_applySimple wf_X11_applySimple false false c k = true) c k → h c k = h c k := fun _ _ _ => rfl
  refine fm_ca F_h (ff_X11_applyLocal nn) (nw_sub rfl) ?_; intro u2 F_u2
  exact fm_ret F_u2
set_option maxRecDepth 4000 in
theorem fj_X11_applySimple_38 (nn : Nat) {h : ms_M} : Fm_ (fun c k => nw_F wl_X11_applySimple wf_X11_applySimple false false c k = true) h (qj_X11_applySimple_38 nn h) (fun r => r) := by
  unfold qj_X11_applySimple_38
  have F_h : ∀ c k : Nat, (fun c k => nw_F wl_X11_applySimple wf_X11_applySimple false false c k = true) c k → h c k = h c k := fun _ _ _ => rfl
  refine fm_ca F_h (ff_X11_push nn) (nw_sub rfl) ?_; intro u4 F_u4
  exact fm_ret F_u4
set_option maxRecDepth 4000 in
theorem fj_X11_applySimple_26 (nn : Nat) {l1 : Int} {l2 : Int} {h : ms_M} : Fm_ (fun c k => nw_F wl_X11_applySimple wf_X11_applySimple false false c k = true) h (qj_X11_applySimple_26 nn l1 l2 h) (fun r => r) := by
  unfold qj_X11_applySimple_26
  have F_h : ∀ c k : Nat, (fun c k => nw_F wl_X11_applySimple wf_X11_applySimple false false c k = true) c k → h c k = h c k := fun _ _ _ => rfl
  refine fm_if ?_ ?_
  · exact fm_tl F_h (fj_X11_applySimple_38 nn) (fun _ _ z => z)
  · refine fm_if ?_ ?_
    · refine fm_pu ?_; intro u5
      refine fm_if ?_ ?_
      · refine fm_if ?_ ?_
        · exact fm_tl F_h (fj_X11_applySimple_103 nn) (fun _ _ z => z)
        · refine fm_if ?_ ?_
          · exact fm_tl F_h (fj_X11_applySimple_103 nn) (fun _ _ z => z)
          · refine fm_if ?_ ?_
            · exact fm_tl F_h (fj_X11_applySimple_103 nn) (fun _ _ z => z)
            · refine fm_if ?_ ?_
              · refine fm_pu ?_; intro u6
                refine fm_if ?_ ?_
                · refine fm_if ?_ ?_
                  · refine fm_if ?_ ?_
                    · refine fm_if ?_ ?_
                      · refine fm_ca F_h (ff_X11_applyObject nn) (nw_sub rfl) ?_; intro u8 F_u8
                        exact fm_ret F_u8
                      · refine fm_ca F_h (ff_X11_applyMember nn) (nw_sub rfl) ?_; intro u10 F_u10
                        exact fm_ret F_u10
                    · refine fm_ca F_h (ff_X11_applyReturn nn) (nw_sub rfl) ?_; intro u13 F_u13
                      exact fm_ret F_u13
                  · refine fm_ca F_h (ff_X11_applyArray nn) (nw_sub rfl) ?_; intro u16 F_u16
                    exact fm_ret F_u16
                · refine fm_ca F_h (ff_X11_applyJump nn) (nw_sub rfl) ?_; intro u19 F_u19
                  exact fm_ret F_u19
              · exact fm_tl F_h (fj_X11_applySimple_103 nn) (fun _ _ z => z)
      · refine fm_ca F_h (ff_X11_want nn) (nw_sub rfl) ?_; intro u26 F_u26
        refine fm_ca F_u26 (ff_X11_want nn) (nw_sub rfl) ?_; intro u28 F_u28
        refine fm_ca F_u28 (ff_X11_push nn) (nw_sub rfl) ?_; intro u30 F_u30
        exact fm_ret F_u30
    · exact fm_tl F_h (fj_X11_applySimple_38 nn) (fun _ _ z => z)
set_option maxRecDepth 4000 in
theorem ff_X11_applySimple (nn : Nat) {a1 : Int} {a2 : Int} {h : ms_M} : Fm_ (fun c k => nw_F wl_X11_applySimple wf_X11_applySimple false false c k = true) h (qf_X11_applySimple nn a1 a2 h) (fun r => r) := by
  unfold qf_X11_applySimple
  have F_h : ∀ c k : Nat, (fun c k => nw_F wl_X11_applySimple wf_X11_applySimple false false c k = true) c k → h c k = h c k := fun _ _ _ => rfl
  refine fm_if ?_ ?_
  · refine fm_if ?_ ?_
    · exact fm_tl F_h (fj_X11_applySimple_26 nn) (fun _ _ z => z)
    · refine fm_if ?_ ?_
      · exact fm_tl F_h (fj_X11_applySimple_38 nn) (fun _ _ z => z)
      · exact fm_tl F_h (fj_X11_applySimple_26 nn) (fun _ _ z => z)
  · refine fm_ca F_h (ff_X11_push nn) (nw_sub rfl) ?_; intro u37 F_u37
    exact fm_ret F_u37
set_option maxRecDepth 4000 in
theorem ff_X11_takeFrame (nn : Nat) {a1 : Int} {h : ms_M} : Fm_ (fun c k => nw_F wl_X11_takeFrame wf_X11_takeFrame false false c k = true) h (qf_X11_takeFrame nn a1 h) (fun r => r) := by
  unfold qf_X11_takeFrame
  have F_h : ∀ c k : Nat, (fun c k => nw_F wl_X11_takeFrame wf_X11_takeFrame false false c k = true) c k → h c k = h c k := fun _ _ _ => rfl
  refine fm_xl ?_; intro v1
  refine fm_ca F_h (ff_J7_fill_53178 nn) (nw_ne rfl) ?_; intro u3 F_u3
  refine fm_xl ?_; intro v5
  refine fm_xl ?_; intro v8
  refine fm_rd ?_; intro v9
  refine fm_cp F_u3 (fun _ => nw_ne rfl) ?_; intro h10 F_h10
  refine fm_xl ?_; intro v12
  refine fm_rd ?_; intro v13
  refine fm_up F_h10 (nw_nf rfl) ?_; intro h14 F_h14
  refine fm_xl ?_; intro v16
  refine fm_cp F_h14 (fun _ => nw_ne rfl) ?_; intro h19 F_h19
  exact fm_ret F_h19
set_option maxRecDepth 4000 in
theorem fj_X11_proveState_139 (nn : Nat) {h : ms_M} : Fm_ (fun c k => nw_F wl_X11_proveState wf_X11_proveState false false c k = true) h (qj_X11_proveState_139 nn h) (fun r => r.2) := by
  unfold qj_X11_proveState_139
  have F_h : ∀ c k : Nat, (fun c k => nw_F wl_X11_proveState wf_X11_proveState false false c k = true) c k → h c k = h c k := fun _ _ _ => rfl
  refine fm_if ?_ ?_
  · exact fm_ret F_h
  · exact fm_ret F_h
set_option maxRecDepth 4000 in
theorem fj_X11_proveState_136 (nn : Nat) {s0 : Int} {h : ms_M} : Fm_ (fun c k => nw_F wl_X11_proveState wf_X11_proveState false false c k = true) h (qj_X11_proveState_136 nn s0 h) (fun r => r.2) := by
  unfold qj_X11_proveState_136
  have F_h : ∀ c k : Nat, (fun c k => nw_F wl_X11_proveState wf_X11_proveState false false c k = true) c k → h c k = h c k := fun _ _ _ => rfl
  refine fm_ck ?_; intro _
  refine fm_up F_h (nw_nf rfl) ?_; intro h4 F_h4
  exact fm_tl F_h4 (fj_X11_proveState_139 nn) (fun _ _ z => z)
set_option maxRecDepth 4000 in
theorem fj_X11_proveState_135 (nn : Nat) {h : ms_M} : Fm_ (fun c k => nw_F wl_X11_proveState wf_X11_proveState false false c k = true) h (qj_X11_proveState_135 nn h) (fun r => r.2) := by
  unfold qj_X11_proveState_135
  have F_h : ∀ c k : Nat, (fun c k => nw_F wl_X11_proveState wf_X11_proveState false false c k = true) c k → h c k = h c k := fun _ _ _ => rfl
  exact fm_tl F_h (fj_X11_proveState_136 nn) (fun _ _ z => z)
set_option maxRecDepth 4000 in
theorem fj_X11_proveState_46 (nn : Nat) {l1 : Int} {l2 : Int} {h : ms_M} : Fm_ (fun c k => nw_F wl_X11_proveState wf_X11_proveState false false c k = true) h (qj_X11_proveState_46 nn l1 l2 h) (fun r => r.2) := by
  unfold qj_X11_proveState_46
  have F_h : ∀ c k : Nat, (fun c k => nw_F wl_X11_proveState wf_X11_proveState false false c k = true) c k → h c k = h c k := fun _ _ _ => rfl
  refine fm_pu ?_; intro u6
  refine fm_if ?_ ?_
  · refine fm_xl ?_; intro v7
    refine fm_pu ?_; intro u9
    refine fm_pu ?_; intro u11
    refine fm_if ?_ ?_
    · refine fm_up F_h (nw_nf rfl) ?_; intro h12 F_h12
      refine fm_ca F_h12 (ff_X11_applySimple nn) (nw_sub rfl) ?_; intro u14 F_u14
      refine fm_pu ?_; intro u15
      refine fm_if ?_ ?_
      · exact fm_tl F_u14 (fj_X11_proveState_139 nn) (fun _ _ z => z)
      · refine fm_if ?_ ?_
        · exact fm_tl F_u14 (fj_X11_proveState_139 nn) (fun _ _ z => z)
        · refine fm_pu ?_; intro u18
          refine fm_pu ?_; intro u20
          refine fm_if ?_ ?_
          · exact fm_tl F_u14 (fj_X11_proveState_135 nn) (fun _ _ z => z)
          · refine fm_pu ?_; intro u22
            refine fm_if ?_ ?_
            · exact fm_tl F_u14 (fj_X11_proveState_135 nn) (fun _ _ z => z)
            · exact fm_tl F_u14 (fj_X11_proveState_136 nn) (fun _ _ z => z)
    · exact fm_ret F_h
  · exact fm_ret F_h
set_option maxRecDepth 4000 in
theorem fj_X11_proveState_40 (nn : Nat) {l1 : Int} {l2 : Int} {l4 : Int} {h : ms_M} : Fm_ (fun c k => nw_F wl_X11_proveState wf_X11_proveState false false c k = true) h (qj_X11_proveState_40 nn l1 l2 l4 h) (fun r => r.2) := by
  unfold qj_X11_proveState_40
  have F_h : ∀ c k : Nat, (fun c k => nw_F wl_X11_proveState wf_X11_proveState false false c k = true) c k → h c k = h c k := fun _ _ _ => rfl
  refine fm_ca F_h (ff_X11_takeFrame nn) (nw_sub rfl) ?_; intro u30 F_u30
  exact fm_tl F_u30 (fj_X11_proveState_46 nn) (fun _ _ z => z)
set_option maxRecDepth 4000 in
theorem fj_X11_proveState_19 (nn : Nat) {l1 : Int} {l2 : Int} {l3 : Int} {l4 : Int} {h : ms_M} : Fm_ (fun c k => nw_F wl_X11_proveState wf_X11_proveState false false c k = true) h (qj_X11_proveState_19 nn l1 l2 l3 l4 h) (fun r => r.2) := by
  unfold qj_X11_proveState_19
  have F_h : ∀ c k : Nat, (fun c k => nw_F wl_X11_proveState wf_X11_proveState false false c k = true) c k → h c k = h c k := fun _ _ _ => rfl
  refine fm_if ?_ ?_
  · exact fm_tl F_h (fj_X11_proveState_46 nn) (fun _ _ z => z)
  · refine fm_if ?_ ?_
    · exact fm_tl F_h (fj_X11_proveState_40 nn) (fun _ _ z => z)
    · refine fm_pu ?_; intro u32
      refine fm_if ?_ ?_
      · exact fm_tl F_h (fj_X11_proveState_40 nn) (fun _ _ z => z)
      · exact fm_ret F_h
set_option maxRecDepth 4000 in
theorem ff_X11_proveState (nn : Nat) {a1 : Int} {a2 : Int} {a3 : Int} {h : ms_M} : Fm_ (fun c k => nw_F wl_X11_proveState wf_X11_proveState false false c k = true) h (qf_X11_proveState nn a1 a2 a3 h) (fun r => r.2) := by
  unfold qf_X11_proveState
  have F_h : ∀ c k : Nat, (fun c k => nw_F wl_X11_proveState wf_X11_proveState false false c k = true) c k → h c k = h c k := fun _ _ _ => rfl
  refine fm_pu ?_; intro u37
  refine fm_if ?_ ?_
  · exact fm_tl F_h (fj_X11_proveState_19 nn) (fun _ _ z => z)
  · refine fm_if ?_ ?_
    · exact fm_tl F_h (fj_X11_proveState_19 nn) (fun _ _ z => z)
    · exact fm_ret F_h
set_option maxRecDepth 4000 in
theorem fj_X11_proveStates_52 (nn : Nat) {qkk_4 : Int → Int → ms_M → Option (Int × ms_M)} (hk_kk_4 : ∀ {l1 : Int} {l2 : Int} {h : ms_M}, Fm_ (fun c k => nw_F wl_X11_proveStates wf_X11_proveStates false false c k = true) h (qkk_4 l1 l2 h) (fun r => r.2)) {l2 : Int} {l3 : Int} {s0 : Int} {h : ms_M} : Fm_ (fun c k => nw_F wl_X11_proveStates wf_X11_proveStates false false c k = true) h (qj_X11_proveStates_52 nn qkk_4 l2 l3 s0 h) (fun r => r.2) := by
  unfold qj_X11_proveStates_52
  have F_h : ∀ c k : Nat, (fun c k => nw_F wl_X11_proveStates wf_X11_proveStates false false c k = true) c k → h c k = h c k := fun _ _ _ => rfl
  refine fm_pu ?_; intro u1
  refine fm_xl ?_; intro v2
  refine fm_xl ?_; intro v3
  exact fm_tl F_h (hk_kk_4) (fun _ _ z => z)
set_option maxRecDepth 4000 in
theorem fw_X11_proveStates_4 (nn : Nat) : ∀ (k : Nat) {l1 : Int} {l2 : Int} {h : ms_M}, Fm_ (fun c k => nw_F wl_X11_proveStates wf_X11_proveStates false false c k = true) h (qw_X11_proveStates_4 nn k l1 l2 h) (fun r => r.2) := by
  intro k
  induction k with
  | zero => intros; exact fm_no
  | succ k ih =>
    intro l1 l2 h
    unfold qw_X11_proveStates_4
    have F_h : ∀ c k : Nat, (fun c k => nw_F wl_X11_proveStates wf_X11_proveStates false false c k = true) c k → h c k = h c k := fun _ _ _ => rfl
    refine fm_if ?_ ?_
    · refine fm_if ?_ ?_
      · exact fm_ret F_h
      · refine fm_ca F_h (ff_X11_at nn) (nw_sub rfl) ?_; intro u7 F_u7
        exact fm_ret F_u7
    · refine fm_pu ?_; intro u10
      refine fm_ca F_h (ff_X11_proveState nn) (nw_sub rfl) ?_; intro u12 F_u12
      refine fm_if ?_ ?_
      · refine fm_pu ?_; intro u13
        refine fm_if ?_ ?_
        · exact fm_tl F_u12 (fj_X11_proveStates_52 nn ih) (fun _ _ z => z)
        · exact fm_tl F_u12 (fj_X11_proveStates_52 nn ih) (fun _ _ z => z)
      · refine fm_ca F_u12 (ff_X11_at nn) (nw_sub rfl) ?_; intro u16 F_u16
        exact fm_ret F_u16
set_option maxRecDepth 4000 in
theorem ff_X11_proveStates (nn : Nat) {h : ms_M} : Fm_ (fun c k => nw_F wl_X11_proveStates wf_X11_proveStates false false c k = true) h (qf_X11_proveStates nn h) (fun r => r.2) := by
  unfold qf_X11_proveStates
  have F_h : ∀ c k : Nat, (fun c k => nw_F wl_X11_proveStates wf_X11_proveStates false false c k = true) c k → h c k = h c k := fun _ _ _ => rfl
  exact fm_tl F_h (fw_X11_proveStates_4 nn _) (fun _ _ z => z)
set_option maxRecDepth 4000 in
theorem fj_X11_takeMember_153 (nn : Nat) {l1 : Int} {l3 : Int} {l5 : Int} {s0 : Int} {s1 : Int} {h : ms_M} : Fm_ (fun c k => nw_F wl_X11_takeMember wf_X11_takeMember false false c k = true) h (qj_X11_takeMember_153 nn l1 l3 l5 s0 s1 h) (fun r => r) := by
  unfold qj_X11_takeMember_153
  have F_h : ∀ c k : Nat, (fun c k => nw_F wl_X11_takeMember wf_X11_takeMember false false c k = true) c k → h c k = h c k := fun _ _ _ => rfl
  refine fm_ck ?_; intro _
  refine fm_ck ?_; intro _
  refine fm_ck ?_; intro hb1
  refine fm_pu ?_; intro u4
  refine fm_if ?_ ?_
  · exact fm_ret F_h
  · refine fm_wA F_h (nw_ne rfl) ?_; intro h6 F_h6
    refine fm_ck ?_; intro _
    refine fm_xl ?_; intro v11
    refine fm_ca F_h6 (ff_X7_readKind nn) (nw_sub rfl) ?_; intro u13 F_u13
    refine fm_wA F_u13 (nw_ne rfl) ?_; intro h14 F_h14
    exact fm_ret F_h14
set_option maxRecDepth 4000 in
theorem fj_X11_takeMember_102 (nn : Nat) {l1 : Int} {l3 : Int} {l4 : Int} {s0 : Int} {h : ms_M} : Fm_ (fun c k => nw_F wl_X11_takeMember wf_X11_takeMember false false c k = true) h (qj_X11_takeMember_102 nn l1 l3 l4 s0 h) (fun r => r) := by
  unfold qj_X11_takeMember_102
  have F_h : ∀ c k : Nat, (fun c k => nw_F wl_X11_takeMember wf_X11_takeMember false false c k = true) c k → h c k = h c k := fun _ _ _ => rfl
  refine fm_pu ?_; intro u18
  refine fm_if ?_ ?_
  · exact fm_ret F_h
  · refine fm_xl ?_; intro v21
    refine fm_if ?_ ?_
    · refine fm_ck ?_; intro hb1
      refine fm_pu ?_; intro u23
      exact fm_tl F_h (fj_X11_takeMember_153 nn) (fun _ _ z => z)
    · refine fm_ck ?_; intro hb2
      refine fm_pu ?_; intro u25
      exact fm_tl F_h (fj_X11_takeMember_153 nn) (fun _ _ z => z)
set_option maxRecDepth 4000 in
theorem fj_X11_takeMember_50 (nn : Nat) {l1 : Int} {l2 : Int} {l3 : Int} {s0 : Int} {h : ms_M} : Fm_ (fun c k => nw_F wl_X11_takeMember wf_X11_takeMember false false c k = true) h (qj_X11_takeMember_50 nn l1 l2 l3 s0 h) (fun r => r) := by
  unfold qj_X11_takeMember_50
  have F_h : ∀ c k : Nat, (fun c k => nw_F wl_X11_takeMember wf_X11_takeMember false false c k = true) c k → h c k = h c k := fun _ _ _ => rfl
  refine fm_if ?_ ?_
  · refine fm_ck ?_; intro _
    refine fm_ck ?_; intro _
    refine fm_ck ?_; intro hb1
    refine fm_pu ?_; intro u31
    refine fm_pu ?_; intro u33
    exact fm_tl F_h (fj_X11_takeMember_102 nn) (fun _ _ z => z)
  · refine fm_ck ?_; intro _
    refine fm_ck ?_; intro _
    refine fm_ck ?_; intro hb2
    refine fm_pu ?_; intro u38
    refine fm_pu ?_; intro u40
    exact fm_tl F_h (fj_X11_takeMember_102 nn) (fun _ _ z => z)
set_option maxRecDepth 4000 in
theorem ff_X11_takeMember (nn : Nat) {a1 : Int} {h : ms_M} : Fm_ (fun c k => nw_F wl_X11_takeMember wf_X11_takeMember false false c k = true) h (qf_X11_takeMember nn a1 h) (fun r => r) := by
  unfold qf_X11_takeMember
  have F_h : ∀ c k : Nat, (fun c k => nw_F wl_X11_takeMember wf_X11_takeMember false false c k = true) c k → h c k = h c k := fun _ _ _ => rfl
  refine fm_ck ?_; intro _
  refine fm_ck ?_; intro hb1
  refine fm_pu ?_; intro u45
  refine fm_rd ?_; intro v46
  refine fm_ck ?_; intro _
  refine fm_pu ?_; intro u49
  refine fm_ck ?_; intro _
  refine fm_ck ?_; intro _
  refine fm_pu ?_; intro u53
  refine fm_pu ?_; intro u55
  refine fm_if ?_ ?_
  · exact fm_tl F_h (fj_X11_takeMember_50 nn) (fun _ _ z => z)
  · exact fm_tl F_h (fj_X11_takeMember_50 nn) (fun _ _ z => z)
set_option maxRecDepth 4000 in
theorem fw_X11_takeConstants_55 (nn : Nat) : ∀ (k : Nat) {l1 : Int} {h : ms_M}, Fm_ (fun c k => nw_F wl_X11_takeConstants wf_X11_takeConstants false false c k = true) h (qw_X11_takeConstants_55 nn k l1 h) (fun r => r) := by
  intro k
  induction k with
  | zero => intros; exact fm_no
  | succ k ih =>
    intro l1 h
    unfold qw_X11_takeConstants_55
    have F_h : ∀ c k : Nat, (fun c k => nw_F wl_X11_takeConstants wf_X11_takeConstants false false c k = true) c k → h c k = h c k := fun _ _ _ => rfl
    refine fm_ck ?_; intro _
    refine fm_ck ?_; intro hb1
    refine fm_if ?_ ?_
    · exact fm_ret F_h
    · refine fm_wA F_h (nw_ne rfl) ?_; intro h4 F_h4
      refine fm_ck ?_; intro _
      refine fm_ck ?_; intro hb2
      refine fm_pu ?_; intro u7
      refine fm_if ?_ ?_
      · refine fm_xl ?_; intro v8
        exact fm_tl F_h4 (ih ) (fun _ _ z => z)
      · refine fm_ca F_h4 (ff_X11_takeMember nn) (nw_sub rfl) ?_; intro u10 F_u10
        refine fm_xl ?_; intro v11
        exact fm_tl F_u10 (ih ) (fun _ _ z => z)
set_option maxRecDepth 4000 in
theorem fw_X11_takeConstants_2 (nn : Nat) : ∀ (k : Nat) {l1 : Int} {h : ms_M}, Fm_ (fun c k => nw_F wl_X11_takeConstants wf_X11_takeConstants false false c k = true) h (qw_X11_takeConstants_2 nn k l1 h) (fun r => r) := by
  intro k
  induction k with
  | zero => intros; exact fm_no
  | succ k ih =>
    intro l1 h
    unfold qw_X11_takeConstants_2
    have F_h : ∀ c k : Nat, (fun c k => nw_F wl_X11_takeConstants wf_X11_takeConstants false false c k = true) c k → h c k = h c k := fun _ _ _ => rfl
    refine fm_ck ?_; intro _
    refine fm_ck ?_; intro hb1
    refine fm_if ?_ ?_
    · exact fm_tl F_h (fw_X11_takeConstants_55 nn _) (fun _ _ z => z)
    · refine fm_ck ?_; intro _
      refine fm_pu ?_; intro u19
      refine fm_if ?_ ?_
      · refine fm_wA F_h (nw_ne rfl) ?_; intro h20 F_h20
        refine fm_xl ?_; intro v21
        exact fm_tl F_h20 (ih ) (fun _ _ z => z)
      · refine fm_ck ?_; intro _
        refine fm_pu ?_; intro u25
        refine fm_wA F_h (nw_ne rfl) ?_; intro h26 F_h26
        refine fm_xl ?_; intro v27
        exact fm_tl F_h26 (ih ) (fun _ _ z => z)
set_option maxRecDepth 4000 in
theorem ff_X11_takeConstants (nn : Nat) {h : ms_M} : Fm_ (fun c k => nw_F wl_X11_takeConstants wf_X11_takeConstants false false c k = true) h (qf_X11_takeConstants nn h) (fun r => r) := by
  unfold qf_X11_takeConstants
  have F_h : ∀ c k : Nat, (fun c k => nw_F wl_X11_takeConstants wf_X11_takeConstants false false c k = true) c k → h c k = h c k := fun _ _ _ => rfl
  exact fm_tl F_h (fw_X11_takeConstants_2 nn _) (fun _ _ z => z)
set_option maxRecDepth 4000 in
theorem fj_X11_takeTypes_80 (nn : Nat) {qkk_17 : Int → Int → Int → Int → ms_M → Option (Int × ms_M)} (hk_kk_17 : ∀ {l2 : Int} {l3 : Int} {l4 : Int} {l5 : Int} {h : ms_M}, Fm_ (fun c k => nw_F wl_X11_takeTypes wf_X11_takeTypes false false c k = true) h (qkk_17 l2 l3 l4 l5 h) (fun r => r.2)) {l2 : Int} {l3 : Int} {l5 : Int} {s0 : Int} {s1 : Int} {h : ms_M} : Fm_ (fun c k => nw_F wl_X11_takeTypes wf_X11_takeTypes false false c k = true) h (qj_X11_takeTypes_80 nn qkk_17 l2 l3 l5 s0 s1 h) (fun r => r.2) := by
  unfold qj_X11_takeTypes_80
  have F_h : ∀ c k : Nat, (fun c k => nw_F wl_X11_takeTypes wf_X11_takeTypes false false c k = true) c k → h c k = h c k := fun _ _ _ => rfl
  refine fm_xl ?_; intro v1
  refine fm_xl ?_; intro v2
  exact fm_tl F_h (hk_kk_17) (fun _ _ z => z)
set_option maxRecDepth 4000 in
theorem fj_X11_takeTypes_67 (nn : Nat) {qkk_17 : Int → Int → Int → Int → ms_M → Option (Int × ms_M)} (hk_kk_17 : ∀ {l2 : Int} {l3 : Int} {l4 : Int} {l5 : Int} {h : ms_M}, Fm_ (fun c k => nw_F wl_X11_takeTypes wf_X11_takeTypes false false c k = true) h (qkk_17 l2 l3 l4 l5 h) (fun r => r.2)) {l2 : Int} {l3 : Int} {l4 : Int} {l5 : Int} {l6 : Int} {h : ms_M} : Fm_ (fun c k => nw_F wl_X11_takeTypes wf_X11_takeTypes false false c k = true) h (qj_X11_takeTypes_67 nn qkk_17 l2 l3 l4 l5 l6 h) (fun r => r.2) := by
  unfold qj_X11_takeTypes_67
  have F_h : ∀ c k : Nat, (fun c k => nw_F wl_X11_takeTypes wf_X11_takeTypes false false c k = true) c k → h c k = h c k := fun _ _ _ => rfl
  refine fm_if ?_ ?_
  · exact fm_tl F_h (fj_X11_takeTypes_80 nn hk_kk_17) (fun _ _ z => z)
  · exact fm_tl F_h (fj_X11_takeTypes_80 nn hk_kk_17) (fun _ _ z => z)
set_option maxRecDepth 4000 in
theorem fw_X11_takeTypes_17 (nn : Nat) : ∀ (k : Nat) {l2 : Int} {l3 : Int} {l4 : Int} {l5 : Int} {h : ms_M}, Fm_ (fun c k => nw_F wl_X11_takeTypes wf_X11_takeTypes false false c k = true) h (qw_X11_takeTypes_17 nn k l2 l3 l4 l5 h) (fun r => r.2) := by
  intro k
  induction k with
  | zero => intros; exact fm_no
  | succ k ih =>
    intro l2 l3 l4 l5 h
    unfold qw_X11_takeTypes_17
    have F_h : ∀ c k : Nat, (fun c k => nw_F wl_X11_takeTypes wf_X11_takeTypes false false c k = true) c k → h c k = h c k := fun _ _ _ => rfl
    refine fm_if ?_ ?_
    · exact fm_ret F_h
    · refine fm_ck ?_; intro _
      refine fm_ck ?_; intro hb1
      refine fm_pu ?_; intro u6
      refine fm_if ?_ ?_
      · exact fm_tl F_h (fj_X11_takeTypes_67 nn ih) (fun _ _ z => z)
      · refine fm_xl ?_; intro v8
        refine fm_ck ?_; intro _
        refine fm_xl ?_; intro v10
        refine fm_pu ?_; intro u12
        refine fm_pu ?_; intro u14
        refine fm_wA F_h (nw_ne rfl) ?_; intro h15 F_h15
        exact fm_tl F_h15 (fj_X11_takeTypes_67 nn ih) (fun _ _ z => z)
set_option maxRecDepth 4000 in
theorem ff_X11_takeTypes (nn : Nat) {a1 : Int} {a2 : Int} {h : ms_M} : Fm_ (fun c k => nw_F wl_X11_takeTypes wf_X11_takeTypes false false c k = true) h (qf_X11_takeTypes nn a1 a2 h) (fun r => r.2) := by
  unfold qf_X11_takeTypes
  have F_h : ∀ c k : Nat, (fun c k => nw_F wl_X11_takeTypes wf_X11_takeTypes false false c k = true) c k → h c k = h c k := fun _ _ _ => rfl
  refine fm_ck ?_; intro _
  refine fm_ck ?_; intro hb1
  refine fm_pu ?_; intro u20
  refine fm_xl ?_; intro v21
  exact fm_tl F_h (fw_X11_takeTypes_17 nn _) (fun _ _ z => z)
set_option maxRecDepth 4000 in
theorem fw_X11_takeFrames_9 (nn : Nat) : ∀ (k : Nat) {l1 : Int} {l2 : Int} {l3 : Int} {h : ms_M}, Fm_ (fun c k => nw_F wl_X11_takeFrames wf_X11_takeFrames false false c k = true) h (qw_X11_takeFrames_9 nn k l1 l2 l3 h) (fun r => r) := by
  intro k
  induction k with
  | zero => intros; exact fm_no
  | succ k ih =>
    intro l1 l2 l3 h
    unfold qw_X11_takeFrames_9
    have F_h : ∀ c k : Nat, (fun c k => nw_F wl_X11_takeFrames wf_X11_takeFrames false false c k = true) c k → h c k = h c k := fun _ _ _ => rfl
    refine fm_pu ?_; intro u2
    refine fm_if ?_ ?_
    · exact fm_ret F_h
    · refine fm_if ?_ ?_
      · exact fm_ret F_h
      · refine fm_xl ?_; intro v3
        refine fm_ck ?_; intro _
        refine fm_ck ?_; intro hb1
        refine fm_pu ?_; intro u6
        refine fm_wA F_h (nw_ne rfl) ?_; intro h8 F_h8
        refine fm_xl ?_; intro v10
        refine fm_ck ?_; intro _
        refine fm_xl ?_; intro v12
        refine fm_ck ?_; intro hb2
        refine fm_pu ?_; intro u14
        refine fm_wA F_h8 (nw_ne rfl) ?_; intro h15 F_h15
        refine fm_xl ?_; intro v16
        refine fm_xl ?_; intro v17
        refine fm_ca F_h15 (ff_X11_takeTypes nn) (nw_sub rfl) ?_; intro u19 F_u19
        refine fm_xl ?_; intro v21
        refine fm_ck ?_; intro _
        refine fm_ck ?_; intro hb3
        refine fm_pu ?_; intro u24
        refine fm_wA F_u19 (nw_ne rfl) ?_; intro h25 F_h25
        refine fm_xl ?_; intro v26
        refine fm_ca F_h25 (ff_X11_takeTypes nn) (nw_sub rfl) ?_; intro u28 F_u28
        refine fm_pu ?_; intro u30
        refine fm_if ?_ ?_
        · refine fm_xl ?_; intro v31
          exact fm_tl F_u28 (ih ) (fun _ _ z => z)
        · refine fm_rd ?_; intro v33
          refine fm_if ?_ ?_
          · refine fm_xl ?_; intro v34
            exact fm_tl F_u28 (ih ) (fun _ _ z => z)
          · refine fm_wA F_u28 (nw_ne rfl) ?_; intro h36 F_h36
            refine fm_xl ?_; intro v37
            exact fm_tl F_h36 (ih ) (fun _ _ z => z)
set_option maxRecDepth 4000 in
theorem ff_X11_takeFrames (nn : Nat) {a1 : Int} {h : ms_M} : Fm_ (fun c k => nw_F wl_X11_takeFrames wf_X11_takeFrames false false c k = true) h (qf_X11_takeFrames nn a1 h) (fun r => r) := by
  unfold qf_X11_takeFrames
  have F_h : ∀ c k : Nat, (fun c k => nw_F wl_X11_takeFrames wf_X11_takeFrames false false c k = true) c k → h c k = h c k := fun _ _ _ => rfl
  refine fm_pu ?_; intro u43
  exact fm_tl F_h (fw_X11_takeFrames_9 nn _) (fun _ _ z => z)
set_option maxRecDepth 4000 in
theorem fj_X11_proveMethods_118 (nn : Nat) {qkk_3 : Int → ms_M → Option (Int × ms_M)} (hk_kk_3 : ∀ {l1 : Int} {h : ms_M}, Fm_ (fun c k => nw_F wl_X11_proveMethods wf_X11_proveMethods false false c k = true) h (qkk_3 l1 h) (fun r => r.2)) {qkk_28 : Int → Int → ms_M → Option (Int × ms_M)} (hk_kk_28 : ∀ {l1 : Int} {l2 : Int} {h : ms_M}, Fm_ (fun c k => nw_F wl_X11_proveMethods wf_X11_proveMethods false false c k = true) h (qkk_28 l1 l2 h) (fun r => r.2)) {l1 : Int} {l2 : Int} {s0 : Int} {h : ms_M} : Fm_ (fun c k => nw_F wl_X11_proveMethods wf_X11_proveMethods false false c k = true) h (qj_X11_proveMethods_118 nn qkk_3 qkk_28 l1 l2 s0 h) (fun r => r.2) := by
  unfold qj_X11_proveMethods_118
  have F_h : ∀ c k : Nat, (fun c k => nw_F wl_X11_proveMethods wf_X11_proveMethods false false c k = true) c k → h c k = h c k := fun _ _ _ => rfl
  refine fm_if ?_ ?_
  · refine fm_xl ?_; intro v1
    exact fm_tl F_h (hk_kk_28) (fun _ _ z => z)
  · refine fm_ca F_h (ff_X11_tellNumber nn) (nw_sub rfl) ?_; intro u4 F_u4
    exact fm_ret F_u4
set_option maxRecDepth 4000 in
theorem fj_X11_proveMethods_100 (nn : Nat) {qkk_3 : Int → ms_M → Option (Int × ms_M)} (hk_kk_3 : ∀ {l1 : Int} {h : ms_M}, Fm_ (fun c k => nw_F wl_X11_proveMethods wf_X11_proveMethods false false c k = true) h (qkk_3 l1 h) (fun r => r.2)) {qkk_28 : Int → Int → ms_M → Option (Int × ms_M)} (hk_kk_28 : ∀ {l1 : Int} {l2 : Int} {h : ms_M}, Fm_ (fun c k => nw_F wl_X11_proveMethods wf_X11_proveMethods false false c k = true) h (qkk_28 l1 l2 h) (fun r => r.2)) {l1 : Int} {l2 : Int} {s0 : Int} {h : ms_M} : Fm_ (fun c k => nw_F wl_X11_proveMethods wf_X11_proveMethods false false c k = true) h (qj_X11_proveMethods_100 nn qkk_3 qkk_28 l1 l2 s0 h) (fun r => r.2) := by
  unfold qj_X11_proveMethods_100
  have F_h : ∀ c k : Nat, (fun c k => nw_F wl_X11_proveMethods wf_X11_proveMethods false false c k = true) c k → h c k = h c k := fun _ _ _ => rfl
  refine fm_ca F_h (ff_X11_beginState nn) (nw_sub rfl) ?_; intro u7 F_u7
  refine fm_if ?_ ?_
  · refine fm_ca F_u7 (ff_X11_proveStates nn) (nw_sub rfl) ?_; intro u9 F_u9
    exact fm_tl F_u9 (fj_X11_proveMethods_118 nn hk_kk_3 hk_kk_28) (fun _ _ z => z)
  · exact fm_tl F_u7 (fj_X11_proveMethods_118 nn hk_kk_3 hk_kk_28) (fun _ _ z => z)
set_option maxRecDepth 4000 in
theorem fj_X11_proveMethods_87 (nn : Nat) {qkk_3 : Int → ms_M → Option (Int × ms_M)} (hk_kk_3 : ∀ {l1 : Int} {h : ms_M}, Fm_ (fun c k => nw_F wl_X11_proveMethods wf_X11_proveMethods false false c k = true) h (qkk_3 l1 h) (fun r => r.2)) {qkk_28 : Int → Int → ms_M → Option (Int × ms_M)} (hk_kk_28 : ∀ {l1 : Int} {l2 : Int} {h : ms_M}, Fm_ (fun c k => nw_F wl_X11_proveMethods wf_X11_proveMethods false false c k = true) h (qkk_28 l1 l2 h) (fun r => r.2)) {l1 : Int} {l2 : Int} {s0 : Int} {h : ms_M} : Fm_ (fun c k => nw_F wl_X11_proveMethods wf_X11_proveMethods false false c k = true) h (qj_X11_proveMethods_87 nn qkk_3 qkk_28 l1 l2 s0 h) (fun r => r.2) := by
  unfold qj_X11_proveMethods_87
  have F_h : ∀ c k : Nat, (fun c k => nw_F wl_X11_proveMethods wf_X11_proveMethods false false c k = true) c k → h c k = h c k := fun _ _ _ => rfl
  refine fm_if ?_ ?_
  · refine fm_ca F_h (ff_X11_proveFrames nn) (nw_sub rfl) ?_; intro u12 F_u12
    exact fm_tl F_u12 (fj_X11_proveMethods_100 nn hk_kk_3 hk_kk_28) (fun _ _ z => z)
  · exact fm_tl F_h (fj_X11_proveMethods_100 nn hk_kk_3 hk_kk_28) (fun _ _ z => z)
set_option maxRecDepth 4000 in
theorem fj_X11_proveMethods_72 (nn : Nat) {qkk_3 : Int → ms_M → Option (Int × ms_M)} (hk_kk_3 : ∀ {l1 : Int} {h : ms_M}, Fm_ (fun c k => nw_F wl_X11_proveMethods wf_X11_proveMethods false false c k = true) h (qkk_3 l1 h) (fun r => r.2)) {qkk_28 : Int → Int → ms_M → Option (Int × ms_M)} (hk_kk_28 : ∀ {l1 : Int} {l2 : Int} {h : ms_M}, Fm_ (fun c k => nw_F wl_X11_proveMethods wf_X11_proveMethods false false c k = true) h (qkk_28 l1 l2 h) (fun r => r.2)) {l1 : Int} {l2 : Int} {l3 : Int} {s0 : Int} {h : ms_M} : Fm_ (fun c k => nw_F wl_X11_proveMethods wf_X11_proveMethods false false c k = true) h (qj_X11_proveMethods_72 nn qkk_3 qkk_28 l1 l2 l3 s0 h) (fun r => r.2) := by
  unfold qj_X11_proveMethods_72
  have F_h : ∀ c k : Nat, (fun c k => nw_F wl_X11_proveMethods wf_X11_proveMethods false false c k = true) c k → h c k = h c k := fun _ _ _ => rfl
  refine fm_ca F_h (ff_X11_takeFrames nn) (nw_sub rfl) ?_; intro u15 F_u15
  refine fm_if ?_ ?_
  · refine fm_ca F_u15 (ff_X11_proveHandlers nn) (nw_sub rfl) ?_; intro u17 F_u17
    exact fm_tl F_u17 (fj_X11_proveMethods_87 nn hk_kk_3 hk_kk_28) (fun _ _ z => z)
  · exact fm_tl F_u15 (fj_X11_proveMethods_87 nn hk_kk_3 hk_kk_28) (fun _ _ z => z)
set_option maxRecDepth 4000 in
theorem fj_X11_proveMethods_61 (nn : Nat) {qkk_3 : Int → ms_M → Option (Int × ms_M)} (hk_kk_3 : ∀ {l1 : Int} {h : ms_M}, Fm_ (fun c k => nw_F wl_X11_proveMethods wf_X11_proveMethods false false c k = true) h (qkk_3 l1 h) (fun r => r.2)) {qkk_28 : Int → Int → ms_M → Option (Int × ms_M)} (hk_kk_28 : ∀ {l1 : Int} {l2 : Int} {h : ms_M}, Fm_ (fun c k => nw_F wl_X11_proveMethods wf_X11_proveMethods false false c k = true) h (qkk_28 l1 l2 h) (fun r => r.2)) {l1 : Int} {l2 : Int} {s0 : Int} {h : ms_M} : Fm_ (fun c k => nw_F wl_X11_proveMethods wf_X11_proveMethods false false c k = true) h (qj_X11_proveMethods_61 nn qkk_3 qkk_28 l1 l2 s0 h) (fun r => r.2) := by
  unfold qj_X11_proveMethods_61
  have F_h : ∀ c k : Nat, (fun c k => nw_F wl_X11_proveMethods wf_X11_proveMethods false false c k = true) c k → h c k = h c k := fun _ _ _ => rfl
  refine fm_if ?_ ?_
  · exact fm_tl F_h (fj_X11_proveMethods_72 nn hk_kk_3 hk_kk_28) (fun _ _ z => z)
  · exact fm_tl F_h (fj_X11_proveMethods_72 nn hk_kk_3 hk_kk_28) (fun _ _ z => z)
set_option maxRecDepth 4000 in
theorem fw_X11_proveMethods_28 (nn : Nat) {qkk_3 : Int → ms_M → Option (Int × ms_M)} (hk_kk_3 : ∀ {l1 : Int} {h : ms_M}, Fm_ (fun c k => nw_F wl_X11_proveMethods wf_X11_proveMethods false false c k = true) h (qkk_3 l1 h) (fun r => r.2)) : ∀ (k : Nat) {l1 : Int} {l2 : Int} {h : ms_M}, Fm_ (fun c k => nw_F wl_X11_proveMethods wf_X11_proveMethods false false c k = true) h (qw_X11_proveMethods_28 nn qkk_3 k l1 l2 h) (fun r => r.2) := by
  intro k
  induction k with
  | zero => intros; exact fm_no
  | succ k ih =>
    intro l1 l2 h
    unfold qw_X11_proveMethods_28
    have F_h : ∀ c k : Nat, (fun c k => nw_F wl_X11_proveMethods wf_X11_proveMethods false false c k = true) c k → h c k = h c k := fun _ _ _ => rfl
    refine fm_ck ?_; intro _
    refine fm_ck ?_; intro hb1
    refine fm_if ?_ ?_
    · refine fm_xl ?_; intro v22
      exact fm_tl F_h (hk_kk_3) (fun _ _ z => z)
    · refine fm_up F_h (nw_nf rfl) ?_; intro h23 F_h23
      refine fm_ca F_h23 (ff_X11_proveInstructions nn) (nw_sub rfl) ?_; intro u25 F_u25
      refine fm_if ?_ ?_
      · refine fm_ca F_u25 (ff_X11_proveJumps nn) (nw_sub rfl) ?_; intro u27 F_u27
        exact fm_tl F_u27 (fj_X11_proveMethods_61 nn hk_kk_3 ih) (fun _ _ z => z)
      · exact fm_tl F_u25 (fj_X11_proveMethods_61 nn hk_kk_3 ih) (fun _ _ z => z)
set_option maxRecDepth 4000 in
theorem fw_X11_proveMethods_3 (nn : Nat) : ∀ (k : Nat) {l1 : Int} {h : ms_M}, Fm_ (fun c k => nw_F wl_X11_proveMethods wf_X11_proveMethods false false c k = true) h (qw_X11_proveMethods_3 nn k l1 h) (fun r => r.2) := by
  intro k
  induction k with
  | zero => intros; exact fm_no
  | succ k ih =>
    intro l1 h
    unfold qw_X11_proveMethods_3
    have F_h : ∀ c k : Nat, (fun c k => nw_F wl_X11_proveMethods wf_X11_proveMethods false false c k = true) c k → h c k = h c k := fun _ _ _ => rfl
    refine fm_xl ?_; intro v32
    refine fm_if ?_ ?_
    · exact fm_ret F_h
    · refine fm_ca F_h (ff_X11_takeImage nn) (nw_sub rfl) ?_; intro u34 F_u34
      refine fm_ca F_u34 (ff_X11_takeConstants nn) (nw_sub rfl) ?_; intro u36 F_u36
      exact fm_tl F_u36 (fw_X11_proveMethods_28 nn ih _) (fun _ _ z => z)
set_option maxRecDepth 4000 in
theorem ff_X11_proveMethods (nn : Nat) {h : ms_M} : Fm_ (fun c k => nw_F wl_X11_proveMethods wf_X11_proveMethods false false c k = true) h (qf_X11_proveMethods nn h) (fun r => r.2) := by
  unfold qf_X11_proveMethods
  have F_h : ∀ c k : Nat, (fun c k => nw_F wl_X11_proveMethods wf_X11_proveMethods false false c k = true) c k → h c k = h c k := fun _ _ _ => rfl
  exact fm_tl F_h (fw_X11_proveMethods_3 nn _) (fun _ _ z => z)
set_option maxRecDepth 4000 in
theorem fw_X7_linkMethods_29 (nn : Nat) {qkk_7 : Int → Int → Int → ms_M → Option ms_M} (hk_kk_7 : ∀ {l1 : Int} {l2 : Int} {l3 : Int} {h : ms_M}, Fm_ (fun c k => nw_F wl_X7_linkMethods wf_X7_linkMethods false false c k = true) h (qkk_7 l1 l2 l3 h) (fun r => r)) : ∀ (k : Nat) {l1 : Int} {l2 : Int} {l3 : Int} {l4 : Int} {l5 : Int} {h : ms_M}, Fm_ (fun c k => nw_F wl_X7_linkMethods wf_X7_linkMethods false false c k = true) h (qw_X7_linkMethods_29 nn qkk_7 k l1 l2 l3 l4 l5 h) (fun r => r) := by
  intro k
  induction k with
  | zero => intros; exact fm_no
  | succ k ih =>
    intro l1 l2 l3 l4 l5 h
    unfold qw_X7_linkMethods_29
    have F_h : ∀ c k : Nat, (fun c k => nw_F wl_X7_linkMethods wf_X7_linkMethods false false c k = true) c k → h c k = h c k := fun _ _ _ => rfl
    refine fm_ck ?_; intro _
    refine fm_ck ?_; intro hb1
    refine fm_if ?_ ?_
    · refine fm_pu ?_; intro u5
      refine fm_xl ?_; intro v6
      exact fm_tl F_h (hk_kk_7) (fun _ _ z => z)
    · refine fm_xl ?_; intro v8
      refine fm_pu ?_; intro u10
      refine fm_xl ?_; intro v11
      refine fm_xl ?_; intro v12
      refine fm_pu ?_; intro u14
      refine fm_pu ?_; intro u16
      refine fm_wA F_h (nw_ne rfl) ?_; intro h17 F_h17
      refine fm_xl ?_; intro v18
      exact fm_tl F_h17 (ih ) (fun _ _ z => z)
set_option maxRecDepth 4000 in
theorem fw_X7_linkMethods_7 (nn : Nat) : ∀ (k : Nat) {l1 : Int} {l2 : Int} {l3 : Int} {h : ms_M}, Fm_ (fun c k => nw_F wl_X7_linkMethods wf_X7_linkMethods false false c k = true) h (qw_X7_linkMethods_7 nn k l1 l2 l3 h) (fun r => r) := by
  intro k
  induction k with
  | zero => intros; exact fm_no
  | succ k ih =>
    intro l1 l2 l3 h
    unfold qw_X7_linkMethods_7
    have F_h : ∀ c k : Nat, (fun c k => nw_F wl_X7_linkMethods wf_X7_linkMethods false false c k = true) c k → h c k = h c k := fun _ _ _ => rfl
    refine fm_if ?_ ?_
    · exact fm_ret F_h
    · refine fm_pu ?_; intro u21
      refine fm_if ?_ ?_
      · exact fm_ret F_h
      · exact fm_tl F_h (fw_X7_linkMethods_29 nn ih _) (fun _ _ z => z)
set_option maxRecDepth 4000 in
theorem ff_X7_linkMethods (nn : Nat) {a1 : Int} {h : ms_M} : Fm_ (fun c k => nw_F wl_X7_linkMethods wf_X7_linkMethods false false c k = true) h (qf_X7_linkMethods nn a1 h) (fun r => r) := by
  unfold qf_X7_linkMethods
  have F_h : ∀ c k : Nat, (fun c k => nw_F wl_X7_linkMethods wf_X7_linkMethods false false c k = true) c k → h c k = h c k := fun _ _ _ => rfl
  refine fm_xl ?_; intro v25
  exact fm_tl F_h (fw_X7_linkMethods_7 nn _) (fun _ _ z => z)
set_option maxRecDepth 4000 in
theorem fw_X7_linkAll_42 (nn : Nat) {qkk_32 : Int → ms_M → Option ms_M} (hk_kk_32 : ∀ {l1 : Int} {h : ms_M}, Fm_ (fun c k => nw_F wl_X7_linkAll wf_X7_linkAll false false c k = true) h (qkk_32 l1 h) (fun r => r)) : ∀ (k : Nat) {l1 : Int} {l2 : Int} {h : ms_M}, Fm_ (fun c k => nw_F wl_X7_linkAll wf_X7_linkAll false false c k = true) h (qw_X7_linkAll_42 nn qkk_32 k l1 l2 h) (fun r => r) := by
  intro k
  induction k with
  | zero => intros; exact fm_no
  | succ k ih =>
    intro l1 l2 h
    unfold qw_X7_linkAll_42
    have F_h : ∀ c k : Nat, (fun c k => nw_F wl_X7_linkAll wf_X7_linkAll false false c k = true) c k → h c k = h c k := fun _ _ _ => rfl
    refine fm_rd ?_; intro v2
    refine fm_ck ?_; intro _
    refine fm_ck ?_; intro hb1
    refine fm_if ?_ ?_
    · refine fm_ca F_h (ff_X7_linkMethods nn) (nw_sub rfl) ?_; intro u6 F_u6
      refine fm_xl ?_; intro v7
      exact fm_tl F_u6 (hk_kk_32) (fun _ _ z => z)
    · refine fm_xl ?_; intro v9
      refine fm_xl ?_; intro v10
      refine fm_rd ?_; intro v12
      refine fm_ck ?_; intro _
      refine fm_pu ?_; intro u15
      refine fm_wA F_h (nw_ne rfl) ?_; intro h16 F_h16
      refine fm_xl ?_; intro v17
      exact fm_tl F_h16 (ih ) (fun _ _ z => z)
set_option maxRecDepth 4000 in
theorem fw_X7_linkAll_32 (nn : Nat) : ∀ (k : Nat) {l1 : Int} {h : ms_M}, Fm_ (fun c k => nw_F wl_X7_linkAll wf_X7_linkAll false false c k = true) h (qw_X7_linkAll_32 nn k l1 h) (fun r => r) := by
  intro k
  induction k with
  | zero => intros; exact fm_no
  | succ k ih =>
    intro l1 h
    unfold qw_X7_linkAll_32
    have F_h : ∀ c k : Nat, (fun c k => nw_F wl_X7_linkAll wf_X7_linkAll false false c k = true) c k → h c k = h c k := fun _ _ _ => rfl
    refine fm_if ?_ ?_
    · exact fm_ret F_h
    · exact fm_tl F_h (fw_X7_linkAll_42 nn ih _) (fun _ _ z => z)
set_option maxRecDepth 4000 in
theorem fw_X7_linkAll_2 (nn : Nat) : ∀ (k : Nat) {l1 : Int} {h : ms_M}, Fm_ (fun c k => nw_F wl_X7_linkAll wf_X7_linkAll false false c k = true) h (qw_X7_linkAll_2 nn k l1 h) (fun r => r) := by
  intro k
  induction k with
  | zero => intros; exact fm_no
  | succ k ih =>
    intro l1 h
    unfold qw_X7_linkAll_2
    have F_h : ∀ c k : Nat, (fun c k => nw_F wl_X7_linkAll wf_X7_linkAll false false c k = true) c k → h c k = h c k := fun _ _ _ => rfl
    refine fm_xl ?_; intro v22
    refine fm_if ?_ ?_
    · exact fm_tl F_h (fw_X7_linkAll_32 nn _) (fun _ _ z => z)
    · refine fm_pu ?_; intro u25
      refine fm_wA F_h (nw_ne rfl) ?_; intro h26 F_h26
      refine fm_xl ?_; intro v27
      exact fm_tl F_h26 (ih ) (fun _ _ z => z)
set_option maxRecDepth 4000 in
theorem ff_X7_linkAll (nn : Nat) {h : ms_M} : Fm_ (fun c k => nw_F wl_X7_linkAll wf_X7_linkAll false false c k = true) h (qf_X7_linkAll nn h) (fun r => r) := by
  unfold qf_X7_linkAll
  have F_h : ∀ c k : Nat, (fun c k => nw_F wl_X7_linkAll wf_X7_linkAll false false c k = true) c k → h c k = h c k := fun _ _ _ => rfl
  exact fm_tl F_h (fw_X7_linkAll_2 nn _) (fun _ _ z => z)
set_option maxRecDepth 4000 in
theorem fj_X12_verify_33 (nn : Nat) {l1 : Int} {s0 : Int} {h : ms_M} : Fm_ (fun c k => nw_F wl_X12_verify wf_X12_verify false false c k = true) h (qj_X12_verify_33 nn l1 s0 h) (fun r => r.2) := by
  unfold qj_X12_verify_33
  have F_h : ∀ c k : Nat, (fun c k => nw_F wl_X12_verify wf_X12_verify false false c k = true) c k → h c k = h c k := fun _ _ _ => rfl
  refine fm_ck ?_; intro _
  refine fm_up F_h (nw_nf rfl) ?_; intro h2 F_h2
  refine fm_if ?_ ?_
  · exact fm_ret F_h2
  · refine fm_ca F_h2 (ff_X7_linkAll nn) (nw_sub rfl) ?_; intro u7 F_u7
    exact fm_ret F_u7
set_option maxRecDepth 4000 in
theorem fj_X12_verify_20 (nn : Nat) {l1 : Int} {h : ms_M} : Fm_ (fun c k => nw_F wl_X12_verify wf_X12_verify false false c k = true) h (qj_X12_verify_20 nn l1 h) (fun r => r.2) := by
  unfold qj_X12_verify_20
  have F_h : ∀ c k : Nat, (fun c k => nw_F wl_X12_verify wf_X12_verify false false c k = true) c k → h c k = h c k := fun _ _ _ => rfl
  refine fm_if ?_ ?_
  · exact fm_tl F_h (fj_X12_verify_33 nn) (fun _ _ z => z)
  · exact fm_tl F_h (fj_X12_verify_33 nn) (fun _ _ z => z)
set_option maxRecDepth 4000 in
theorem ff_X12_verify (nn : Nat) {h : ms_M} : Fm_ (fun c k => nw_F wl_X12_verify wf_X12_verify false false c k = true) h (qf_X12_verify nn h) (fun r => r.2) := by
  unfold qf_X12_verify
  have F_h : ∀ c k : Nat, (fun c k => nw_F wl_X12_verify wf_X12_verify false false c k = true) c k → h c k = h c k := fun _ _ _ => rfl
  refine fm_ca F_h (ff_X11_proveHeads nn) (nw_sub rfl) ?_; intro u13 F_u13
  refine fm_if ?_ ?_
  · exact fm_tl F_u13 (fj_X12_verify_20 nn) (fun _ _ z => z)
  · refine fm_ca F_u13 (ff_X11_proveMethods nn) (nw_sub rfl) ?_; intro u16 F_u16
    exact fm_tl F_u16 (fj_X12_verify_20 nn) (fun _ _ z => z)
set_option maxRecDepth 4000 in
theorem ff_X13_clear (nn : Nat) {h : ms_M} : Fm_ (fun c k => nw_F wl_X13_clear wf_X13_clear false false c k = true) h (qf_X13_clear nn h) (fun r => r) := by
  unfold qf_X13_clear
  have F_h : ∀ c k : Nat, (fun c k => nw_F wl_X13_clear wf_X13_clear false false c k = true) c k → h c k = h c k := fun _ _ _ => rfl
  refine fm_up F_h (nw_nf rfl) ?_; intro h1 F_h1
  refine fm_up F_h1 (nw_nf rfl) ?_; intro h2 F_h2
  refine fm_up F_h2 (nw_nf rfl) ?_; intro h3 F_h3
  exact fm_ret F_h3
set_option maxRecDepth 4000 in
theorem ff_X13_come (nn : Nat) {a1 : Int} {a2 : Int} {h : ms_M} : Fm_ (fun c k => nw_F wl_X13_come wf_X13_come false false c k = true) h (qf_X13_come nn a1 a2 h) (fun r => r) := by
  unfold qf_X13_come
  have F_h : ∀ c k : Nat, (fun c k => nw_F wl_X13_come wf_X13_come false false c k = true) c k → h c k = h c k := fun _ _ _ => rfl
  refine fm_wA F_h (nw_ne rfl) ?_; intro h3 F_h3
  refine fm_wA F_h3 (nw_ne rfl) ?_; intro h6 F_h6
  refine fm_xl ?_; intro v8
  refine fm_up F_h6 (nw_nf rfl) ?_; intro h9 F_h9
  exact fm_ret F_h9
set_option maxRecDepth 4000 in
theorem ff_X13_wrong (nn : Nat) {a1 : Int} {a2 : Int} {h : ms_M} : Fm_ (fun c k => nw_F wl_X13_wrong wf_X13_wrong false false c k = true) h (qf_X13_wrong nn a1 a2 h) (fun r => r) := by
  unfold qf_X13_wrong
  have F_h : ∀ c k : Nat, (fun c k => nw_F wl_X13_wrong wf_X13_wrong false false c k = true) c k → h c k = h c k := fun _ _ _ => rfl
  refine fm_if ?_ ?_
  · refine fm_up F_h (nw_nf rfl) ?_; intro h2 F_h2
    refine fm_rd ?_; intro v4
    refine fm_up F_h2 (nw_nf rfl) ?_; intro h5 F_h5
    exact fm_ret F_h5
  · exact fm_ret F_h
set_option maxRecDepth 4000 in
theorem ff_X13_led (nn : Nat) {a1 : Int} {h : ms_M} : Fm_ (fun c k => nw_F wl_X13_led wf_X13_led false false c k = true) h (qf_X13_led nn a1 h) (fun r => r.2) := by
  unfold qf_X13_led
  have F_h : ∀ c k : Nat, (fun c k => nw_F wl_X13_led wf_X13_led false false c k = true) c k → h c k = h c k := fun _ _ _ => rfl
  refine fm_if ?_ ?_
  · refine fm_rd ?_; intro v4
    refine fm_rd ?_; intro v5
    refine fm_if ?_ ?_
    · exact fm_ret F_h
    · refine fm_rd ?_; intro v8
      refine fm_rd ?_; intro v9
      refine fm_ca F_h (ff_X13_wrong nn) (nw_sub rfl) ?_; intro u11 F_u11
      exact fm_ret F_u11
  · exact fm_ret F_h
set_option maxRecDepth 4000 in
theorem ff_X13_side (nn : Nat) {a1 : Int} {a2 : Int} {h : ms_M} : Fm_ (fun c k => nw_F wl_X13_side wf_X13_side false false c k = true) h (qf_X13_side nn a1 a2 h) (fun r => r.2) := by
  unfold qf_X13_side
  have F_h : ∀ c k : Nat, (fun c k => nw_F wl_X13_side wf_X13_side false false c k = true) c k → h c k = h c k := fun _ _ _ => rfl
  refine fm_if ?_ ?_
  · exact fm_ret F_h
  · refine fm_rd ?_; intro v2
    refine fm_ca F_h (ff_X13_wrong nn) (nw_sub rfl) ?_; intro u4 F_u4
    exact fm_ret F_u4
set_option maxRecDepth 4000 in
theorem fj_X13_field_151 (nn : Nat) {l1 : Int} {l3 : Int} {h : ms_M} : Fm_ (fun c k => nw_F wl_X13_field wf_X13_field false false c k = true) h (qj_X13_field_151 nn l1 l3 h) (fun r => r.2) := by
  unfold qj_X13_field_151
  have F_h : ∀ c k : Nat, (fun c k => nw_F wl_X13_field wf_X13_field false false c k = true) c k → h c k = h c k := fun _ _ _ => rfl
  refine fm_wA F_h (nw_ne rfl) ?_; intro h2 F_h2
  refine fm_if ?_ ?_
  · refine fm_rd ?_; intro v4
    exact fm_ret F_h2
  · exact fm_ret F_h2
set_option maxRecDepth 4000 in
theorem fj_X13_field_99 (nn : Nat) {l1 : Int} {s0 : Int} {h : ms_M} : Fm_ (fun c k => nw_F wl_X13_field wf_X13_field false false c k = true) h (qj_X13_field_99 nn l1 s0 h) (fun r => r.2) := by
  unfold qj_X13_field_99
  have F_h : ∀ c k : Nat, (fun c k => nw_F wl_X13_field wf_X13_field false false c k = true) c k → h c k = h c k := fun _ _ _ => rfl
  refine fm_if ?_ ?_
  · exact fm_ret F_h
  · refine fm_rd ?_; intro v7
    refine fm_ca F_h (ff_X13_wrong nn) (nw_sub rfl) ?_; intro u9 F_u9
    exact fm_ret F_u9
set_option maxRecDepth 4000 in
theorem fj_X13_field_98 (nn : Nat) {l1 : Int} {h : ms_M} : Fm_ (fun c k => nw_F wl_X13_field wf_X13_field false false c k = true) h (qj_X13_field_98 nn l1 h) (fun r => r.2) := by
  unfold qj_X13_field_98
  have F_h : ∀ c k : Nat, (fun c k => nw_F wl_X13_field wf_X13_field false false c k = true) c k → h c k = h c k := fun _ _ _ => rfl
  exact fm_tl F_h (fj_X13_field_99 nn) (fun _ _ z => z)
set_option maxRecDepth 4000 in
theorem fj_X13_field_27 (nn : Nat) {l1 : Int} {h : ms_M} : Fm_ (fun c k => nw_F wl_X13_field wf_X13_field false false c k = true) h (qj_X13_field_27 nn l1 h) (fun r => r.2) := by
  unfold qj_X13_field_27
  have F_h : ∀ c k : Nat, (fun c k => nw_F wl_X13_field wf_X13_field false false c k = true) c k → h c k = h c k := fun _ _ _ => rfl
  refine fm_rd ?_; intro v12
  refine fm_ca F_h (ff_X13_wrong nn) (nw_sub rfl) ?_; intro u14 F_u14
  exact fm_ret F_u14
set_option maxRecDepth 4000 in
theorem ff_X13_field (nn : Nat) {a1 : Int} {h : ms_M} : Fm_ (fun c k => nw_F wl_X13_field wf_X13_field false false c k = true) h (qf_X13_field nn a1 h) (fun r => r.2) := by
  unfold qf_X13_field
  have F_h : ∀ c k : Nat, (fun c k => nw_F wl_X13_field wf_X13_field false false c k = true) c k → h c k = h c k := fun _ _ _ => rfl
  refine fm_ca F_h (ff_X13_led nn) (nw_sub rfl) ?_; intro u16 F_u16
  refine fm_if ?_ ?_
  · refine fm_if ?_ ?_
    · exact fm_tl F_u16 (fj_X13_field_27 nn) (fun _ _ z => z)
    · refine fm_pu ?_; intro u18
      refine fm_if ?_ ?_
      · refine fm_pu ?_; intro u19
        refine fm_if ?_ ?_
        · refine fm_xl ?_; intro v20
          refine fm_xl ?_; intro v21
          refine fm_rd ?_; intro v23
          refine fm_pu ?_; intro u25
          refine fm_if ?_ ?_
          · exact fm_tl F_u16 (fj_X13_field_151 nn) (fun _ _ z => z)
          · refine fm_rd ?_; intro v27
            refine fm_ca F_u16 (ff_X13_wrong nn) (nw_sub rfl) ?_; intro u29 F_u29
            exact fm_tl F_u29 (fj_X13_field_151 nn) (fun _ _ z => z)
        · refine fm_wA F_u16 (nw_ne rfl) ?_; intro h32 F_h32
          refine fm_rd ?_; intro v35
          refine fm_rd ?_; intro v36
          refine fm_if ?_ ?_
          · exact fm_tl F_h32 (fj_X13_field_98 nn) (fun _ _ z => z)
          · refine fm_rd ?_; intro v39
            refine fm_rd ?_; intro v40
            refine fm_pu ?_; intro u42
            refine fm_if ?_ ?_
            · exact fm_tl F_h32 (fj_X13_field_98 nn) (fun _ _ z => z)
            · exact fm_tl F_h32 (fj_X13_field_99 nn) (fun _ _ z => z)
      · exact fm_tl F_u16 (fj_X13_field_27 nn) (fun _ _ z => z)
  · exact fm_ret F_u16
set_option maxRecDepth 4000 in
theorem fj_X13_named_95 (nn : Nat) {l1 : Int} {l3 : Int} {h : ms_M} : Fm_ (fun c k => nw_F wl_X13_named wf_X13_named false false c k = true) h (qj_X13_named_95 nn l1 l3 h) (fun r => r.2) := by
  unfold qj_X13_named_95
  have F_h : ∀ c k : Nat, (fun c k => nw_F wl_X13_named wf_X13_named false false c k = true) c k → h c k = h c k := fun _ _ _ => rfl
  refine fm_wA F_h (nw_ne rfl) ?_; intro h2 F_h2
  refine fm_if ?_ ?_
  · refine fm_rd ?_; intro v4
    exact fm_ret F_h2
  · exact fm_ret F_h2
set_option maxRecDepth 4000 in
theorem ff_X13_named (nn : Nat) {a1 : Int} {h : ms_M} : Fm_ (fun c k => nw_F wl_X13_named wf_X13_named false false c k = true) h (qf_X13_named nn a1 h) (fun r => r.2) := by
  unfold qf_X13_named
  have F_h : ∀ c k : Nat, (fun c k => nw_F wl_X13_named wf_X13_named false false c k = true) c k → h c k = h c k := fun _ _ _ => rfl
  refine fm_rd ?_; intro v7
  refine fm_pu ?_; intro u9
  refine fm_if ?_ ?_
  · refine fm_rd ?_; intro v12
    refine fm_pu ?_; intro u14
    refine fm_if ?_ ?_
    · refine fm_if ?_ ?_
      · exact fm_tl F_h (fj_X13_named_95 nn) (fun _ _ z => z)
      · refine fm_rd ?_; intro v17
        refine fm_ca F_h (ff_X13_wrong nn) (nw_sub rfl) ?_; intro u19 F_u19
        exact fm_tl F_u19 (fj_X13_named_95 nn) (fun _ _ z => z)
    · refine fm_rd ?_; intro v22
      refine fm_ca F_h (ff_X13_wrong nn) (nw_sub rfl) ?_; intro u24 F_u24
      exact fm_tl F_u24 (fj_X13_named_95 nn) (fun _ _ z => z)
  · refine fm_wA F_h (nw_ne rfl) ?_; intro h27 F_h27
    refine fm_pu ?_; intro u30
    refine fm_wA F_h27 (nw_ne rfl) ?_; intro h31 F_h31
    refine fm_rd ?_; intro v33
    exact fm_ret F_h31
def fgr_X13_condition (rc : tq_X13_condition) : Prop := (∀ {a1 : Int} {h : ms_M}, Fm_ (fun c k => nw_F wl_X13_condition wf_X13_condition false false c k = true) h (rc.1 a1 h) (fun r => r)) ∧ (∀ {a1 : Int} {h : ms_M}, Fm_ (fun c k => nw_F wl_X13_given wf_X13_given false false c k = true) h (rc.2.1 a1 h) (fun r => r.2)) ∧ (∀ {a1 : Int} {h : ms_M}, Fm_ (fun c k => nw_F wl_X13_worked wf_X13_worked false false c k = true) h (rc.2.2.1 a1 h) (fun r => r.2)) ∧ (∀ {a1 : Int} {h : ms_M}, Fm_ (fun c k => nw_F wl_X13_rule wf_X13_rule false false c k = true) h (rc.2.2.2.1 a1 h) (fun r => r.2)) ∧ (∀ {a1 : Int} {h : ms_M}, Fm_ (fun c k => nw_F wl_X13_both wf_X13_both false false c k = true) h (rc.2.2.2.2.1 a1 h) (fun r => r.2)) ∧ (∀ {a1 : Int} {h : ms_M}, Fm_ (fun c k => nw_F wl_X13_invoked wf_X13_invoked false false c k = true) h (rc.2.2.2.2.2.1 a1 h) (fun r => r.2)) ∧ (∀ {a1 : Int} {a2 : Int} {a3 : Int} {h : ms_M}, Fm_ (fun c k => nw_F wl_X13_called wf_X13_called false false c k = true) h (rc.2.2.2.2.2.2 a1 a2 a3 h) (fun r => r.2))
set_option maxRecDepth 4000 in
theorem fo_X13_condition (nn : Nat) {rc : tq_X13_condition} (hr : fgr_X13_condition rc) {a1 : Int} {h : ms_M} : Fm_ (fun c k => nw_F wl_X13_condition wf_X13_condition false false c k = true) h (qo_X13_condition nn rc a1 h) (fun r => r) := by
  unfold qo_X13_condition
  have F_h : ∀ c k : Nat, (fun c k => nw_F wl_X13_condition wf_X13_condition false false c k = true) c k → h c k = h c k := fun _ _ _ => rfl
  refine fm_ca F_h (hr.2.1) (fun _ _ z => z) ?_; intro u2 F_u2
  refine fm_if ?_ ?_
  · exact fm_ret F_u2
  · refine fm_rd ?_; intro v4
    refine fm_ca F_u2 (ff_X13_wrong nn) (nw_sub rfl) ?_; intro u6 F_u6
    exact fm_ret F_u6
set_option maxRecDepth 4000 in
theorem fo_X13_given (nn : Nat) {rc : tq_X13_condition} (hr : fgr_X13_condition rc) {a1 : Int} {h : ms_M} : Fm_ (fun c k => nw_F wl_X13_given wf_X13_given false false c k = true) h (qo_X13_given nn rc a1 h) (fun r => r.2) := by
  unfold qo_X13_given
  have F_h : ∀ c k : Nat, (fun c k => nw_F wl_X13_given wf_X13_given false false c k = true) c k → h c k = h c k := fun _ _ _ => rfl
  refine fm_ca F_h (hr.2.2.1) (fun _ _ z => z) ?_; intro u2 F_u2
  refine fm_if ?_ ?_
  · exact fm_ret F_u2
  · refine fm_rd ?_; intro v4
    refine fm_ca F_u2 (ff_X13_wrong nn) (nw_sub rfl) ?_; intro u6 F_u6
    exact fm_ret F_u6
set_option maxRecDepth 4000 in
theorem fw_X13_worked_65 (nn : Nat) {rc : tq_X13_condition} (hr : fgr_X13_condition rc) : ∀ (k : Nat) {l1 : Int} {l2 : Int} {h : ms_M}, Fm_ (fun c k => nw_F wl_X13_worked wf_X13_worked false false c k = true) h (qw_X13_worked_65 nn rc k l1 l2 h) (fun r => r.2) := by
  intro k
  induction k with
  | zero => intros; exact fm_no
  | succ k ih =>
    intro l1 l2 h
    unfold qw_X13_worked_65
    have F_h : ∀ c k : Nat, (fun c k => nw_F wl_X13_worked wf_X13_worked false false c k = true) c k → h c k = h c k := fun _ _ _ => rfl
    refine fm_if ?_ ?_
    · refine fm_up F_h (nw_nf rfl) ?_; intro h2 F_h2
      refine fm_if ?_ ?_
      · refine fm_rd ?_; intro v5
        exact fm_ret F_h2
      · exact fm_ret F_h2
    · refine fm_xl ?_; intro v8
      refine fm_up F_h (nw_nf rfl) ?_; intro h9 F_h9
      refine fm_rd ?_; intro v12
      refine fm_if ?_ ?_
      · refine fm_ca F_h9 (hr.2.2.2.1) (fun _ _ z => z) ?_; intro u16 F_u16
        refine fm_wA F_u16 (nw_ne rfl) ?_; intro h17 F_h17
        exact fm_tl F_h17 (ih ) (fun _ _ z => z)
      · refine fm_wA F_h9 (nw_ne rfl) ?_; intro h18 F_h18
        exact fm_tl F_h18 (ih ) (fun _ _ z => z)
set_option maxRecDepth 4000 in
theorem fw_X13_worked_16 (nn : Nat) {rc : tq_X13_condition} (hr : fgr_X13_condition rc) : ∀ (k : Nat) {l1 : Int} {l2 : Int} {l3 : Int} {h : ms_M}, Fm_ (fun c k => nw_F wl_X13_worked wf_X13_worked false false c k = true) h (qw_X13_worked_16 nn rc k l1 l2 l3 h) (fun r => r.2) := by
  intro k
  induction k with
  | zero => intros; exact fm_no
  | succ k ih =>
    intro l1 l2 l3 h
    unfold qw_X13_worked_16
    have F_h : ∀ c k : Nat, (fun c k => nw_F wl_X13_worked wf_X13_worked false false c k = true) c k → h c k = h c k := fun _ _ _ => rfl
    refine fm_pu ?_; intro u22
    refine fm_if ?_ ?_
    · refine fm_ca F_h (hr.2.2.2.1) (fun _ _ z => z) ?_; intro u25 F_u25
      refine fm_wA F_u25 (nw_ne rfl) ?_; intro h26 F_h26
      exact fm_tl F_h26 (fw_X13_worked_65 nn hr _) (fun _ _ z => z)
    · refine fm_wA F_h (nw_ne rfl) ?_; intro h29 F_h29
      refine fm_xl ?_; intro v31
      refine fm_up F_h29 (nw_nf rfl) ?_; intro h32 F_h32
      refine fm_rd ?_; intro v34
      exact fm_tl F_h32 (ih ) (fun _ _ z => z)
set_option maxRecDepth 4000 in
theorem fo_X13_worked (nn : Nat) {rc : tq_X13_condition} (hr : fgr_X13_condition rc) {a1 : Int} {h : ms_M} : Fm_ (fun c k => nw_F wl_X13_worked wf_X13_worked false false c k = true) h (qo_X13_worked nn rc a1 h) (fun r => r.2) := by
  unfold qo_X13_worked
  have F_h : ∀ c k : Nat, (fun c k => nw_F wl_X13_worked wf_X13_worked false false c k = true) c k → h c k = h c k := fun _ _ _ => rfl
  refine fm_if ?_ ?_
  · exact fm_tl F_h (fw_X13_worked_16 nn hr _) (fun _ _ z => z)
  · exact fm_ret F_h
set_option maxRecDepth 4000 in
theorem fj_X13_rule_657 (nn : Nat) {rc : tq_X13_condition} (hr : fgr_X13_condition rc) {l2 : Int} {l3 : Int} {h : ms_M} : Fm_ (fun c k => nw_F wl_X13_rule wf_X13_rule false false c k = true) h (qj_X13_rule_657 nn rc l2 l3 h) (fun r => r.2) := by
  unfold qj_X13_rule_657
  have F_h : ∀ c k : Nat, (fun c k => nw_F wl_X13_rule wf_X13_rule false false c k = true) c k → h c k = h c k := fun _ _ _ => rfl
  refine fm_pu ?_; intro u2
  refine fm_if ?_ ?_
  · exact fm_ret F_h
  · exact fm_ret F_h
set_option maxRecDepth 4000 in
theorem fj_X13_rule_574 (nn : Nat) {rc : tq_X13_condition} (hr : fgr_X13_condition rc) {l1 : Int} {l3 : Int} {h : ms_M} : Fm_ (fun c k => nw_F wl_X13_rule wf_X13_rule false false c k = true) h (qj_X13_rule_574 nn rc l1 l3 h) (fun r => r.2) := by
  unfold qj_X13_rule_574
  have F_h : ∀ c k : Nat, (fun c k => nw_F wl_X13_rule wf_X13_rule false false c k = true) c k → h c k = h c k := fun _ _ _ => rfl
  refine fm_wA F_h (nw_ne rfl) ?_; intro h5 F_h5
  refine fm_rd ?_; intro v7
  refine fm_if ?_ ?_
  · exact fm_ret F_h5
  · exact fm_ret F_h5
set_option maxRecDepth 4000 in
theorem fj_X13_rule_562 (nn : Nat) {rc : tq_X13_condition} (hr : fgr_X13_condition rc) {l1 : Int} {l3 : Int} {h : ms_M} : Fm_ (fun c k => nw_F wl_X13_rule wf_X13_rule false false c k = true) h (qj_X13_rule_562 nn rc l1 l3 h) (fun r => r.2) := by
  unfold qj_X13_rule_562
  have F_h : ∀ c k : Nat, (fun c k => nw_F wl_X13_rule wf_X13_rule false false c k = true) c k → h c k = h c k := fun _ _ _ => rfl
  refine fm_rd ?_; intro v10
  refine fm_ca F_h (ff_X13_wrong nn) (nw_sub rfl) ?_; intro u12 F_u12
  exact fm_tl F_u12 (fj_X13_rule_574 nn hr) (fun _ _ z => z)
set_option maxRecDepth 4000 in
theorem fj_X13_rule_539 (nn : Nat) {rc : tq_X13_condition} (hr : fgr_X13_condition rc) {l1 : Int} {l2 : Int} {l3 : Int} {h : ms_M} : Fm_ (fun c k => nw_F wl_X13_rule wf_X13_rule false false c k = true) h (qj_X13_rule_539 nn rc l1 l2 l3 h) (fun r => r.2) := by
  unfold qj_X13_rule_539
  have F_h : ∀ c k : Nat, (fun c k => nw_F wl_X13_rule wf_X13_rule false false c k = true) c k → h c k = h c k := fun _ _ _ => rfl
  refine fm_xl ?_; intro v13
  refine fm_xl ?_; intro v14
  refine fm_pu ?_; intro u15
  refine fm_if ?_ ?_
  · exact fm_tl F_h (fj_X13_rule_562 nn hr) (fun _ _ z => z)
  · refine fm_pu ?_; intro u17
    refine fm_if ?_ ?_
    · exact fm_tl F_h (fj_X13_rule_574 nn hr) (fun _ _ z => z)
    · exact fm_tl F_h (fj_X13_rule_562 nn hr) (fun _ _ z => z)
set_option maxRecDepth 4000 in
theorem fj_X13_rule_522 (nn : Nat) {rc : tq_X13_condition} (hr : fgr_X13_condition rc) {l1 : Int} {l3 : Int} {s0 : Int} {h : ms_M} : Fm_ (fun c k => nw_F wl_X13_rule wf_X13_rule false false c k = true) h (qj_X13_rule_522 nn rc l1 l3 s0 h) (fun r => r.2) := by
  unfold qj_X13_rule_522
  have F_h : ∀ c k : Nat, (fun c k => nw_F wl_X13_rule wf_X13_rule false false c k = true) c k → h c k = h c k := fun _ _ _ => rfl
  refine fm_if ?_ ?_
  · exact fm_tl F_h (fj_X13_rule_539 nn hr) (fun _ _ z => z)
  · refine fm_rd ?_; intro v21
    refine fm_ca F_h (ff_X13_wrong nn) (nw_sub rfl) ?_; intro u23 F_u23
    exact fm_tl F_u23 (fj_X13_rule_539 nn hr) (fun _ _ z => z)
set_option maxRecDepth 4000 in
theorem fj_X13_rule_493 (nn : Nat) {rc : tq_X13_condition} (hr : fgr_X13_condition rc) {l1 : Int} {l3 : Int} {h : ms_M} : Fm_ (fun c k => nw_F wl_X13_rule wf_X13_rule false false c k = true) h (qj_X13_rule_493 nn rc l1 l3 h) (fun r => r.2) := by
  unfold qj_X13_rule_493
  have F_h : ∀ c k : Nat, (fun c k => nw_F wl_X13_rule wf_X13_rule false false c k = true) c k → h c k = h c k := fun _ _ _ => rfl
  refine fm_rd ?_; intro v26
  refine fm_if ?_ ?_
  · refine fm_ca F_h (ff_X13_led nn) (nw_sub rfl) ?_; intro u28 F_u28
    exact fm_tl F_u28 (fj_X13_rule_522 nn hr) (fun _ _ z => z)
  · refine fm_rd ?_; intro v30
    refine fm_ca F_h (hr.2.1) (fun _ _ z => z) ?_; intro u32 F_u32
    exact fm_tl F_u32 (fj_X13_rule_522 nn hr) (fun _ _ z => z)
set_option maxRecDepth 4000 in
theorem fj_X13_rule_455 (nn : Nat) {rc : tq_X13_condition} (hr : fgr_X13_condition rc) {l1 : Int} {h : ms_M} : Fm_ (fun c k => nw_F wl_X13_rule wf_X13_rule false false c k = true) h (qj_X13_rule_455 nn rc l1 h) (fun r => r.2) := by
  unfold qj_X13_rule_455
  have F_h : ∀ c k : Nat, (fun c k => nw_F wl_X13_rule wf_X13_rule false false c k = true) c k → h c k = h c k := fun _ _ _ => rfl
  refine fm_rd ?_; intro v35
  refine fm_pu ?_; intro u37
  refine fm_if ?_ ?_
  · exact fm_tl F_h (fj_X13_rule_493 nn hr) (fun _ _ z => z)
  · refine fm_rd ?_; intro v39
    refine fm_if ?_ ?_
    · exact fm_tl F_h (fj_X13_rule_493 nn hr) (fun _ _ z => z)
    · refine fm_rd ?_; intro v41
      refine fm_ca F_h (ff_X13_wrong nn) (nw_sub rfl) ?_; intro u43 F_u43
      exact fm_tl F_u43 (fj_X13_rule_493 nn hr) (fun _ _ z => z)
set_option maxRecDepth 4000 in
theorem fj_X13_rule_416 (nn : Nat) {rc : tq_X13_condition} (hr : fgr_X13_condition rc) {l1 : Int} {h : ms_M} : Fm_ (fun c k => nw_F wl_X13_rule wf_X13_rule false false c k = true) h (qj_X13_rule_416 nn rc l1 h) (fun r => r.2) := by
  unfold qj_X13_rule_416
  have F_h : ∀ c k : Nat, (fun c k => nw_F wl_X13_rule wf_X13_rule false false c k = true) c k → h c k = h c k := fun _ _ _ => rfl
  refine fm_rd ?_; intro v47
  refine fm_ca F_h (hr.2.1) (fun _ _ z => z) ?_; intro u49 F_u49
  refine fm_if ?_ ?_
  · exact fm_ret F_u49
  · refine fm_rd ?_; intro v51
    refine fm_ca F_u49 (ff_X13_wrong nn) (nw_sub rfl) ?_; intro u53 F_u53
    exact fm_ret F_u53
set_option maxRecDepth 4000 in
theorem fj_X13_rule_403 (nn : Nat) {rc : tq_X13_condition} (hr : fgr_X13_condition rc) {l2 : Int} {h : ms_M} : Fm_ (fun c k => nw_F wl_X13_rule wf_X13_rule false false c k = true) h (qj_X13_rule_403 nn rc l2 h) (fun r => r.2) := by
  unfold qj_X13_rule_403
  have F_h : ∀ c k : Nat, (fun c k => nw_F wl_X13_rule wf_X13_rule false false c k = true) c k → h c k = h c k := fun _ _ _ => rfl
  refine fm_if ?_ ?_
  · refine fm_xl ?_; intro v55
    exact fm_ret F_h
  · exact fm_ret F_h
set_option maxRecDepth 4000 in
theorem fj_X13_rule_391 (nn : Nat) {rc : tq_X13_condition} (hr : fgr_X13_condition rc) {l1 : Int} {l2 : Int} {h : ms_M} : Fm_ (fun c k => nw_F wl_X13_rule wf_X13_rule false false c k = true) h (qj_X13_rule_391 nn rc l1 l2 h) (fun r => r.2) := by
  unfold qj_X13_rule_391
  have F_h : ∀ c k : Nat, (fun c k => nw_F wl_X13_rule wf_X13_rule false false c k = true) c k → h c k = h c k := fun _ _ _ => rfl
  refine fm_rd ?_; intro v58
  refine fm_ca F_h (ff_X13_wrong nn) (nw_sub rfl) ?_; intro u60 F_u60
  exact fm_tl F_u60 (fj_X13_rule_403 nn hr) (fun _ _ z => z)
set_option maxRecDepth 4000 in
theorem fj_X13_rule_342 (nn : Nat) {rc : tq_X13_condition} (hr : fgr_X13_condition rc) {l2 : Int} {h : ms_M} : Fm_ (fun c k => nw_F wl_X13_rule wf_X13_rule false false c k = true) h (qj_X13_rule_342 nn rc l2 h) (fun r => r.2) := by
  unfold qj_X13_rule_342
  have F_h : ∀ c k : Nat, (fun c k => nw_F wl_X13_rule wf_X13_rule false false c k = true) c k → h c k = h c k := fun _ _ _ => rfl
  refine fm_xl ?_; intro v61
  refine fm_xl ?_; intro v62
  refine fm_xl ?_; intro v63
  exact fm_ret F_h
set_option maxRecDepth 4000 in
theorem fj_X13_rule_317 (nn : Nat) {rc : tq_X13_condition} (hr : fgr_X13_condition rc) {l1 : Int} {l2 : Int} {h : ms_M} : Fm_ (fun c k => nw_F wl_X13_rule wf_X13_rule false false c k = true) h (qj_X13_rule_317 nn rc l1 l2 h) (fun r => r.2) := by
  unfold qj_X13_rule_317
  have F_h : ∀ c k : Nat, (fun c k => nw_F wl_X13_rule wf_X13_rule false false c k = true) c k → h c k = h c k := fun _ _ _ => rfl
  refine fm_rd ?_; intro v65
  refine fm_ca F_h (hr.2.1) (fun _ _ z => z) ?_; intro u67 F_u67
  refine fm_if ?_ ?_
  · exact fm_tl F_u67 (fj_X13_rule_342 nn hr) (fun _ _ z => z)
  · refine fm_rd ?_; intro v69
    refine fm_ca F_u67 (ff_X13_wrong nn) (nw_sub rfl) ?_; intro u71 F_u71
    exact fm_tl F_u71 (fj_X13_rule_342 nn hr) (fun _ _ z => z)
set_option maxRecDepth 4000 in
theorem fj_X13_rule_256 (nn : Nat) {rc : tq_X13_condition} (hr : fgr_X13_condition rc) {l2 : Int} {h : ms_M} : Fm_ (fun c k => nw_F wl_X13_rule wf_X13_rule false false c k = true) h (qj_X13_rule_256 nn rc l2 h) (fun r => r.2) := by
  unfold qj_X13_rule_256
  have F_h : ∀ c k : Nat, (fun c k => nw_F wl_X13_rule wf_X13_rule false false c k = true) c k → h c k = h c k := fun _ _ _ => rfl
  refine fm_xl ?_; intro v73
  refine fm_xl ?_; intro v74
  exact fm_ret F_h
set_option maxRecDepth 4000 in
theorem fj_X13_rule_216 (nn : Nat) {rc : tq_X13_condition} (hr : fgr_X13_condition rc) {l1 : Int} {h : ms_M} : Fm_ (fun c k => nw_F wl_X13_rule wf_X13_rule false false c k = true) h (qj_X13_rule_216 nn rc l1 h) (fun r => r.2) := by
  unfold qj_X13_rule_216
  have F_h : ∀ c k : Nat, (fun c k => nw_F wl_X13_rule wf_X13_rule false false c k = true) c k → h c k = h c k := fun _ _ _ => rfl
  refine fm_rd ?_; intro v76
  refine fm_ca F_h (hr.2.2.2.2.2.2) (fun _ _ z => z) ?_; intro u78 F_u78
  exact fm_ret F_u78
set_option maxRecDepth 4000 in
theorem fj_X13_rule_121 (nn : Nat) {rc : tq_X13_condition} (hr : fgr_X13_condition rc) {h : ms_M} : Fm_ (fun c k => nw_F wl_X13_rule wf_X13_rule false false c k = true) h (qj_X13_rule_121 nn rc h) (fun r => r.2) := by
  unfold qj_X13_rule_121
  have F_h : ∀ c k : Nat, (fun c k => nw_F wl_X13_rule wf_X13_rule false false c k = true) c k → h c k = h c k := fun _ _ _ => rfl
  refine fm_xl ?_; intro v80
  refine fm_xl ?_; intro v81
  exact fm_ret F_h
set_option maxRecDepth 4000 in
theorem fj_X13_rule_98 (nn : Nat) {rc : tq_X13_condition} (hr : fgr_X13_condition rc) {h : ms_M} : Fm_ (fun c k => nw_F wl_X13_rule wf_X13_rule false false c k = true) h (qj_X13_rule_98 nn rc h) (fun r => r.2) := by
  unfold qj_X13_rule_98
  have F_h : ∀ c k : Nat, (fun c k => nw_F wl_X13_rule wf_X13_rule false false c k = true) c k → h c k = h c k := fun _ _ _ => rfl
  exact fm_ret F_h
set_option maxRecDepth 4000 in
theorem fo_X13_rule (nn : Nat) {rc : tq_X13_condition} (hr : fgr_X13_condition rc) {a1 : Int} {h : ms_M} : Fm_ (fun c k => nw_F wl_X13_rule wf_X13_rule false false c k = true) h (qo_X13_rule nn rc a1 h) (fun r => r.2) := by
  unfold qo_X13_rule
  have F_h : ∀ c k : Nat, (fun c k => nw_F wl_X13_rule wf_X13_rule false false c k = true) c k → h c k = h c k := fun _ _ _ => rfl
  refine fm_rd ?_; intro v83
  refine fm_if ?_ ?_
  · exact fm_ret F_h
  · refine fm_if ?_ ?_
    · exact fm_tl F_h (fj_X13_rule_98 nn hr) (fun _ _ z => z)
    · refine fm_if ?_ ?_
      · exact fm_tl F_h (fj_X13_rule_98 nn hr) (fun _ _ z => z)
      · refine fm_if ?_ ?_
        · exact fm_ret F_h
        · refine fm_if ?_ ?_
          · refine fm_if ?_ ?_
            · exact fm_tl F_h (fj_X13_rule_121 nn hr) (fun _ _ z => z)
            · refine fm_rd ?_; intro v105
              refine fm_ca F_h (ff_X13_wrong nn) (nw_sub rfl) ?_; intro u107 F_u107
              exact fm_tl F_u107 (fj_X13_rule_121 nn hr) (fun _ _ z => z)
          · refine fm_if ?_ ?_
            · refine fm_ca F_h (ff_X13_named nn) (nw_sub rfl) ?_; intro u110 F_u110
              exact fm_ret F_u110
            · refine fm_if ?_ ?_
              · refine fm_rd ?_; intro v114
                refine fm_pu ?_; intro u116
                refine fm_wA F_h (nw_ne rfl) ?_; intro h117 F_h117
                refine fm_rd ?_; intro v119
                refine fm_if ?_ ?_
                · refine fm_if ?_ ?_
                  · exact fm_tl F_h117 (fj_X13_rule_216 nn hr) (fun _ _ z => z)
                  · refine fm_rd ?_; intro v123
                    refine fm_rd ?_; intro v124
                    refine fm_if ?_ ?_
                    · exact fm_tl F_h117 (fj_X13_rule_216 nn hr) (fun _ _ z => z)
                    · refine fm_rd ?_; intro v126
                      refine fm_ca F_h117 (ff_X13_wrong nn) (nw_sub rfl) ?_; intro u128 F_u128
                      exact fm_tl F_u128 (fj_X13_rule_216 nn hr) (fun _ _ z => z)
                · refine fm_rd ?_; intro v132
                  refine fm_ca F_h117 (ff_X13_wrong nn) (nw_sub rfl) ?_; intro u134 F_u134
                  exact fm_tl F_u134 (fj_X13_rule_216 nn hr) (fun _ _ z => z)
              · refine fm_if ?_ ?_
                · refine fm_rd ?_; intro v137
                  refine fm_pu ?_; intro u139
                  refine fm_if ?_ ?_
                  · exact fm_tl F_h (fj_X13_rule_256 nn hr) (fun _ _ z => z)
                  · refine fm_rd ?_; intro v141
                    refine fm_ca F_h (ff_X13_wrong nn) (nw_sub rfl) ?_; intro u143 F_u143
                    exact fm_tl F_u143 (fj_X13_rule_256 nn hr) (fun _ _ z => z)
                · refine fm_if ?_ ?_
                  · refine fm_rd ?_; intro v146
                    refine fm_ca F_h (hr.2.1) (fun _ _ z => z) ?_; intro u148 F_u148
                    refine fm_if ?_ ?_
                    · exact fm_ret F_u148
                    · refine fm_rd ?_; intro v150
                      refine fm_ca F_u148 (ff_X13_wrong nn) (nw_sub rfl) ?_; intro u152 F_u152
                      exact fm_ret F_u152
                  · refine fm_if ?_ ?_
                    · refine fm_rd ?_; intro v155
                      refine fm_pu ?_; intro u157
                      refine fm_if ?_ ?_
                      · exact fm_tl F_h (fj_X13_rule_317 nn hr) (fun _ _ z => z)
                      · refine fm_rd ?_; intro v159
                        refine fm_ca F_h (ff_X13_wrong nn) (nw_sub rfl) ?_; intro u161 F_u161
                        exact fm_tl F_u161 (fj_X13_rule_317 nn hr) (fun _ _ z => z)
                    · refine fm_if ?_ ?_
                      · refine fm_ca F_h (ff_X13_field nn) (nw_sub rfl) ?_; intro u164 F_u164
                        exact fm_ret F_u164
                      · refine fm_if ?_ ?_
                        · refine fm_ca F_h (hr.2.2.2.2.2.1) (fun _ _ z => z) ?_; intro u166 F_u166
                          exact fm_ret F_u166
                        · refine fm_if ?_ ?_
                          · refine fm_ca F_h (ff_X13_led nn) (nw_sub rfl) ?_; intro u168 F_u168
                            refine fm_rd ?_; intro v170
                            refine fm_ca F_u168 (hr.2.1) (fun _ _ z => z) ?_; intro u172 F_u172
                            refine fm_pu ?_; intro u173
                            refine fm_if ?_ ?_
                            · exact fm_tl F_u172 (fj_X13_rule_391 nn hr) (fun _ _ z => z)
                            · refine fm_if ?_ ?_
                              · exact fm_tl F_u172 (fj_X13_rule_403 nn hr) (fun _ _ z => z)
                              · exact fm_tl F_u172 (fj_X13_rule_391 nn hr) (fun _ _ z => z)
                          · refine fm_if ?_ ?_
                            · exact fm_tl F_h (fj_X13_rule_416 nn hr) (fun _ _ z => z)
                            · refine fm_if ?_ ?_
                              · refine fm_rd ?_; intro v177
                                refine fm_ca F_h (hr.1) (fun _ _ z => z) ?_; intro u179 F_u179
                                exact fm_ret F_u179
                              · refine fm_if ?_ ?_
                                · exact fm_tl F_h (fj_X13_rule_416 nn hr) (fun _ _ z => z)
                                · refine fm_if ?_ ?_
                                  · exact fm_tl F_h (fj_X13_rule_455 nn hr) (fun _ _ z => z)
                                  · refine fm_if ?_ ?_
                                    · refine fm_ca F_h (hr.2.2.2.2.1) (fun _ _ z => z) ?_; intro u181 F_u181
                                      exact fm_ret F_u181
                                    · refine fm_if ?_ ?_
                                      · exact fm_tl F_h (fj_X13_rule_455 nn hr) (fun _ _ z => z)
                                      · refine fm_rd ?_; intro v85
                                        refine fm_ca F_h (hr.1) (fun _ _ z => z) ?_; intro u87 F_u87
                                        refine fm_rd ?_; intro v89
                                        refine fm_ca F_u87 (hr.2.1) (fun _ _ z => z) ?_; intro u91 F_u91
                                        refine fm_rd ?_; intro v93
                                        refine fm_ca F_u91 (hr.2.1) (fun _ _ z => z) ?_; intro u95 F_u95
                                        refine fm_pu ?_; intro u97
                                        refine fm_if ?_ ?_
                                        · exact fm_tl F_u95 (fj_X13_rule_657 nn hr) (fun _ _ z => z)
                                        · refine fm_rd ?_; intro v99
                                          refine fm_ca F_u95 (ff_X13_wrong nn) (nw_sub rfl) ?_; intro u101 F_u101
                                          exact fm_tl F_u101 (fj_X13_rule_657 nn hr) (fun _ _ z => z)
set_option maxRecDepth 4000 in
theorem fj_X13_both_247 (nn : Nat) {rc : tq_X13_condition} (hr : fgr_X13_condition rc) {l1 : Int} {l3 : Int} {h : ms_M} : Fm_ (fun c k => nw_F wl_X13_both wf_X13_both false false c k = true) h (qj_X13_both_247 nn rc l1 l3 h) (fun r => r.2) := by
  unfold qj_X13_both_247
  have F_h : ∀ c k : Nat, (fun c k => nw_F wl_X13_both wf_X13_both false false c k = true) c k → h c k = h c k := fun _ _ _ => rfl
  refine fm_rd ?_; intro v2
  refine fm_pu ?_; intro u4
  refine fm_if ?_ ?_
  · exact fm_ret F_h
  · exact fm_ret F_h
set_option maxRecDepth 4000 in
theorem fj_X13_both_235 (nn : Nat) {rc : tq_X13_condition} (hr : fgr_X13_condition rc) {l1 : Int} {l3 : Int} {h : ms_M} : Fm_ (fun c k => nw_F wl_X13_both wf_X13_both false false c k = true) h (qj_X13_both_235 nn rc l1 l3 h) (fun r => r.2) := by
  unfold qj_X13_both_235
  have F_h : ∀ c k : Nat, (fun c k => nw_F wl_X13_both wf_X13_both false false c k = true) c k → h c k = h c k := fun _ _ _ => rfl
  refine fm_rd ?_; intro v7
  refine fm_ca F_h (ff_X13_wrong nn) (nw_sub rfl) ?_; intro u9 F_u9
  exact fm_tl F_u9 (fj_X13_both_247 nn hr) (fun _ _ z => z)
set_option maxRecDepth 4000 in
theorem fj_X13_both_213 (nn : Nat) {rc : tq_X13_condition} (hr : fgr_X13_condition rc) {l1 : Int} {l3 : Int} {l4 : Int} {s0 : Int} {h : ms_M} : Fm_ (fun c k => nw_F wl_X13_both wf_X13_both false false c k = true) h (qj_X13_both_213 nn rc l1 l3 l4 s0 h) (fun r => r.2) := by
  unfold qj_X13_both_213
  have F_h : ∀ c k : Nat, (fun c k => nw_F wl_X13_both wf_X13_both false false c k = true) c k → h c k = h c k := fun _ _ _ => rfl
  refine fm_if ?_ ?_
  · exact fm_tl F_h (fj_X13_both_235 nn hr) (fun _ _ z => z)
  · refine fm_if ?_ ?_
    · exact fm_tl F_h (fj_X13_both_247 nn hr) (fun _ _ z => z)
    · refine fm_if ?_ ?_
      · exact fm_tl F_h (fj_X13_both_235 nn hr) (fun _ _ z => z)
      · refine fm_if ?_ ?_
        · exact fm_tl F_h (fj_X13_both_247 nn hr) (fun _ _ z => z)
        · exact fm_tl F_h (fj_X13_both_235 nn hr) (fun _ _ z => z)
set_option maxRecDepth 4000 in
theorem fj_X13_both_208 (nn : Nat) {rc : tq_X13_condition} (hr : fgr_X13_condition rc) {l1 : Int} {l3 : Int} {l4 : Int} {h : ms_M} : Fm_ (fun c k => nw_F wl_X13_both wf_X13_both false false c k = true) h (qj_X13_both_208 nn rc l1 l3 l4 h) (fun r => r.2) := by
  unfold qj_X13_both_208
  have F_h : ∀ c k : Nat, (fun c k => nw_F wl_X13_both wf_X13_both false false c k = true) c k → h c k = h c k := fun _ _ _ => rfl
  exact fm_tl F_h (fj_X13_both_213 nn hr) (fun _ _ z => z)
set_option maxRecDepth 4000 in
theorem fj_X13_both_166 (nn : Nat) {rc : tq_X13_condition} (hr : fgr_X13_condition rc) {l1 : Int} {l3 : Int} {l4 : Int} {h : ms_M} : Fm_ (fun c k => nw_F wl_X13_both wf_X13_both false false c k = true) h (qj_X13_both_166 nn rc l1 l3 l4 h) (fun r => r.2) := by
  unfold qj_X13_both_166
  have F_h : ∀ c k : Nat, (fun c k => nw_F wl_X13_both wf_X13_both false false c k = true) c k → h c k = h c k := fun _ _ _ => rfl
  refine fm_pu ?_; intro u15
  refine fm_if ?_ ?_
  · exact fm_ret F_h
  · refine fm_rd ?_; intro v17
    refine fm_ca F_h (ff_X13_wrong nn) (nw_sub rfl) ?_; intro u19 F_u19
    exact fm_ret F_u19
set_option maxRecDepth 4000 in
theorem fj_X13_both_62 (nn : Nat) {rc : tq_X13_condition} (hr : fgr_X13_condition rc) {l1 : Int} {h : ms_M} : Fm_ (fun c k => nw_F wl_X13_both wf_X13_both false false c k = true) h (qj_X13_both_62 nn rc l1 h) (fun r => r.2) := by
  unfold qj_X13_both_62
  have F_h : ∀ c k : Nat, (fun c k => nw_F wl_X13_both wf_X13_both false false c k = true) c k → h c k = h c k := fun _ _ _ => rfl
  refine fm_rd ?_; intro v22
  refine fm_rd ?_; intro v24
  refine fm_ca F_h (hr.2.2.1) (fun _ _ z => z) ?_; intro u26 F_u26
  refine fm_ca F_u26 (ff_X13_side nn) (nw_sub rfl) ?_; intro u28 F_u28
  refine fm_if ?_ ?_
  · exact fm_ret F_u28
  · refine fm_rd ?_; intro v31
    refine fm_rd ?_; intro v32
    refine fm_ca F_u28 (ff_X13_wrong nn) (nw_sub rfl) ?_; intro u34 F_u34
    exact fm_ret F_u34
set_option maxRecDepth 4000 in
theorem fj_X13_both_36 (nn : Nat) {rc : tq_X13_condition} (hr : fgr_X13_condition rc) {l1 : Int} {h : ms_M} : Fm_ (fun c k => nw_F wl_X13_both wf_X13_both false false c k = true) h (qj_X13_both_36 nn rc l1 h) (fun r => r.2) := by
  unfold qj_X13_both_36
  have F_h : ∀ c k : Nat, (fun c k => nw_F wl_X13_both wf_X13_both false false c k = true) c k → h c k = h c k := fun _ _ _ => rfl
  refine fm_ca F_h (ff_X13_led nn) (nw_sub rfl) ?_; intro u37 F_u37
  refine fm_if ?_ ?_
  · exact fm_tl F_u37 (fj_X13_both_62 nn hr) (fun _ _ z => z)
  · refine fm_rd ?_; intro v40
    refine fm_rd ?_; intro v41
    refine fm_ca F_u37 (ff_X13_wrong nn) (nw_sub rfl) ?_; intro u43 F_u43
    exact fm_tl F_u43 (fj_X13_both_62 nn hr) (fun _ _ z => z)
set_option maxRecDepth 4000 in
theorem fo_X13_both (nn : Nat) {rc : tq_X13_condition} (hr : fgr_X13_condition rc) {a1 : Int} {h : ms_M} : Fm_ (fun c k => nw_F wl_X13_both wf_X13_both false false c k = true) h (qo_X13_both nn rc a1 h) (fun r => r.2) := by
  unfold qo_X13_both
  have F_h : ∀ c k : Nat, (fun c k => nw_F wl_X13_both wf_X13_both false false c k = true) c k → h c k = h c k := fun _ _ _ => rfl
  refine fm_rd ?_; intro v47
  refine fm_rd ?_; intro v48
  refine fm_pu ?_; intro u49
  refine fm_if ?_ ?_
  · exact fm_tl F_h (fj_X13_both_36 nn hr) (fun _ _ z => z)
  · refine fm_pu ?_; intro u50
    refine fm_if ?_ ?_
    · refine fm_ca F_h (ff_X13_led nn) (nw_sub rfl) ?_; intro u52 F_u52
      refine fm_rd ?_; intro v54
      refine fm_rd ?_; intro v56
      refine fm_ca F_u52 (hr.2.2.1) (fun _ _ z => z) ?_; intro u58 F_u58
      refine fm_ca F_u58 (ff_X13_side nn) (nw_sub rfl) ?_; intro u60 F_u60
      refine fm_if ?_ ?_
      · refine fm_pu ?_; intro u62
        refine fm_if ?_ ?_
        · exact fm_tl F_u60 (fj_X13_both_166 nn hr) (fun _ _ z => z)
        · refine fm_pu ?_; intro u63
          refine fm_if ?_ ?_
          · refine fm_if ?_ ?_
            · exact fm_tl F_u60 (fj_X13_both_208 nn hr) (fun _ _ z => z)
            · refine fm_if ?_ ?_
              · exact fm_tl F_u60 (fj_X13_both_208 nn hr) (fun _ _ z => z)
              · refine fm_if ?_ ?_
                · exact fm_tl F_u60 (fj_X13_both_213 nn hr) (fun _ _ z => z)
                · exact fm_tl F_u60 (fj_X13_both_208 nn hr) (fun _ _ z => z)
          · exact fm_tl F_u60 (fj_X13_both_166 nn hr) (fun _ _ z => z)
      · exact fm_ret F_u60
    · exact fm_tl F_h (fj_X13_both_36 nn hr) (fun _ _ z => z)
set_option maxRecDepth 4000 in
theorem fj_X13_invoked_237 (nn : Nat) {rc : tq_X13_condition} (hr : fgr_X13_condition rc) {s0 : Int} {s1 : Int} {s2 : Int} {h : ms_M} : Fm_ (fun c k => nw_F wl_X13_invoked wf_X13_invoked false false c k = true) h (qj_X13_invoked_237 nn rc s0 s1 s2 h) (fun r => r.2) := by
  unfold qj_X13_invoked_237
  have F_h : ∀ c k : Nat, (fun c k => nw_F wl_X13_invoked wf_X13_invoked false false c k = true) c k → h c k = h c k := fun _ _ _ => rfl
  refine fm_ca F_h (hr.2.2.2.2.2.2) (fun _ _ z => z) ?_; intro u2 F_u2
  exact fm_ret F_u2
set_option maxRecDepth 4000 in
theorem fj_X13_invoked_232 (nn : Nat) {rc : tq_X13_condition} (hr : fgr_X13_condition rc) {s0 : Int} {s1 : Int} {h : ms_M} : Fm_ (fun c k => nw_F wl_X13_invoked wf_X13_invoked false false c k = true) h (qj_X13_invoked_232 nn rc s0 s1 h) (fun r => r.2) := by
  unfold qj_X13_invoked_232
  have F_h : ∀ c k : Nat, (fun c k => nw_F wl_X13_invoked wf_X13_invoked false false c k = true) c k → h c k = h c k := fun _ _ _ => rfl
  exact fm_tl F_h (fj_X13_invoked_237 nn hr) (fun _ _ z => z)
set_option maxRecDepth 4000 in
theorem fj_X13_invoked_228 (nn : Nat) {rc : tq_X13_condition} (hr : fgr_X13_condition rc) {l3 : Int} {s0 : Int} {s1 : Int} {s2 : Int} {h : ms_M} : Fm_ (fun c k => nw_F wl_X13_invoked wf_X13_invoked false false c k = true) h (qj_X13_invoked_228 nn rc l3 s0 s1 s2 h) (fun r => r.2) := by
  unfold qj_X13_invoked_228
  have F_h : ∀ c k : Nat, (fun c k => nw_F wl_X13_invoked wf_X13_invoked false false c k = true) c k → h c k = h c k := fun _ _ _ => rfl
  refine fm_if ?_ ?_
  · exact fm_tl F_h (fj_X13_invoked_237 nn hr) (fun _ _ z => z)
  · exact fm_tl F_h (fj_X13_invoked_232 nn hr) (fun _ _ z => z)
set_option maxRecDepth 4000 in
theorem fj_X13_invoked_193 (nn : Nat) {rc : tq_X13_condition} (hr : fgr_X13_condition rc) {l1 : Int} {l3 : Int} {h : ms_M} : Fm_ (fun c k => nw_F wl_X13_invoked wf_X13_invoked false false c k = true) h (qj_X13_invoked_193 nn rc l1 l3 h) (fun r => r.2) := by
  unfold qj_X13_invoked_193
  have F_h : ∀ c k : Nat, (fun c k => nw_F wl_X13_invoked wf_X13_invoked false false c k = true) c k → h c k = h c k := fun _ _ _ => rfl
  refine fm_rd ?_; intro v5
  refine fm_if ?_ ?_
  · exact fm_tl F_h (fj_X13_invoked_232 nn hr) (fun _ _ z => z)
  · refine fm_rd ?_; intro v9
    refine fm_rd ?_; intro v10
    refine fm_if ?_ ?_
    · exact fm_tl F_h (fj_X13_invoked_228 nn hr) (fun _ _ z => z)
    · exact fm_tl F_h (fj_X13_invoked_228 nn hr) (fun _ _ z => z)
set_option maxRecDepth 4000 in
theorem fj_X13_invoked_152 (nn : Nat) {rc : tq_X13_condition} (hr : fgr_X13_condition rc) {l1 : Int} {l3 : Int} {l4 : Int} {s0 : Int} {s1 : Int} {h : ms_M} : Fm_ (fun c k => nw_F wl_X13_invoked wf_X13_invoked false false c k = true) h (qj_X13_invoked_152 nn rc l1 l3 l4 s0 s1 h) (fun r => r.2) := by
  unfold qj_X13_invoked_152
  have F_h : ∀ c k : Nat, (fun c k => nw_F wl_X13_invoked wf_X13_invoked false false c k = true) c k → h c k = h c k := fun _ _ _ => rfl
  refine fm_wA F_h (nw_ne rfl) ?_; intro h13 F_h13
  refine fm_rd ?_; intro v16
  refine fm_pu ?_; intro u18
  refine fm_wA F_h13 (nw_ne rfl) ?_; intro h19 F_h19
  refine fm_rd ?_; intro v21
  refine fm_if ?_ ?_
  · exact fm_tl F_h19 (fj_X13_invoked_193 nn hr) (fun _ _ z => z)
  · refine fm_rd ?_; intro v23
    refine fm_ca F_h19 (ff_X13_wrong nn) (nw_sub rfl) ?_; intro u25 F_u25
    exact fm_tl F_u25 (fj_X13_invoked_193 nn hr) (fun _ _ z => z)
set_option maxRecDepth 4000 in
theorem fj_X13_invoked_128 (nn : Nat) {rc : tq_X13_condition} (hr : fgr_X13_condition rc) {l1 : Int} {l3 : Int} {l4 : Int} {h : ms_M} : Fm_ (fun c k => nw_F wl_X13_invoked wf_X13_invoked false false c k = true) h (qj_X13_invoked_128 nn rc l1 l3 l4 h) (fun r => r.2) := by
  unfold qj_X13_invoked_128
  have F_h : ∀ c k : Nat, (fun c k => nw_F wl_X13_invoked wf_X13_invoked false false c k = true) c k → h c k = h c k := fun _ _ _ => rfl
  refine fm_if ?_ ?_
  · refine fm_if ?_ ?_
    · exact fm_tl F_h (fj_X13_invoked_152 nn hr) (fun _ _ z => z)
    · exact fm_tl F_h (fj_X13_invoked_152 nn hr) (fun _ _ z => z)
  · exact fm_ret F_h
set_option maxRecDepth 4000 in
theorem fj_X13_invoked_119 (nn : Nat) {rc : tq_X13_condition} (hr : fgr_X13_condition rc) {l1 : Int} {l3 : Int} {l5 : Int} {h : ms_M} : Fm_ (fun c k => nw_F wl_X13_invoked wf_X13_invoked false false c k = true) h (qj_X13_invoked_119 nn rc l1 l3 l5 h) (fun r => r.2) := by
  unfold qj_X13_invoked_119
  have F_h : ∀ c k : Nat, (fun c k => nw_F wl_X13_invoked wf_X13_invoked false false c k = true) c k → h c k = h c k := fun _ _ _ => rfl
  refine fm_xl ?_; intro v31
  refine fm_xl ?_; intro v32
  exact fm_tl F_h (fj_X13_invoked_128 nn hr) (fun _ _ z => z)
set_option maxRecDepth 4000 in
theorem fj_X13_invoked_86 (nn : Nat) {rc : tq_X13_condition} (hr : fgr_X13_condition rc) {l1 : Int} {h : ms_M} : Fm_ (fun c k => nw_F wl_X13_invoked wf_X13_invoked false false c k = true) h (qj_X13_invoked_86 nn rc l1 h) (fun r => r.2) := by
  unfold qj_X13_invoked_86
  have F_h : ∀ c k : Nat, (fun c k => nw_F wl_X13_invoked wf_X13_invoked false false c k = true) c k → h c k = h c k := fun _ _ _ => rfl
  refine fm_rd ?_; intro v34
  refine fm_ca F_h (ff_X13_wrong nn) (nw_sub rfl) ?_; intro u36 F_u36
  exact fm_ret F_u36
set_option maxRecDepth 4000 in
theorem fj_X13_invoked_46 (nn : Nat) {rc : tq_X13_condition} (hr : fgr_X13_condition rc) {l1 : Int} {l2 : Int} {l3 : Int} {l4 : Int} {h : ms_M} : Fm_ (fun c k => nw_F wl_X13_invoked wf_X13_invoked false false c k = true) h (qj_X13_invoked_46 nn rc l1 l2 l3 l4 h) (fun r => r.2) := by
  unfold qj_X13_invoked_46
  have F_h : ∀ c k : Nat, (fun c k => nw_F wl_X13_invoked wf_X13_invoked false false c k = true) c k → h c k = h c k := fun _ _ _ => rfl
  refine fm_wA F_h (nw_ne rfl) ?_; intro h38 F_h38
  exact fm_tl F_h38 (fj_X13_invoked_128 nn hr) (fun _ _ z => z)
