set_option maxRecDepth 4000 in
theorem fj_X2_readType_109 (nn : Nat) {l1 : Int} {l3 : Int} {l4 : Int} {h : ms_M} : Fm_ (fun c k => nw_F wl_X2_readType wf_X2_readType false false c k = true) h (qj_X2_readType_109 nn l1 l3 l4 h) (fun r => r.2) := by
  unfold qj_X2_readType_109
  have F_h : ∀ c k : Nat, (fun c k => nw_F wl_X2_readType wf_X2_readType false false c k = true) c k → h c k = h c k := fun _ _ _ => rfl
  refine fm_if ?_ ?_
  · refine fm_if ?_ ?_
    · exact fm_ret F_h
    · refine fm_xl ?_; intro v1
      exact fm_ret F_h
  · refine fm_if ?_ ?_
    · exact fm_ret F_h
    · exact fm_ret F_h
set_option maxRecDepth 4000 in
theorem fj_X2_readType_89 (nn : Nat) {l1 : Int} {l3 : Int} {s0 : Int} {h : ms_M} : Fm_ (fun c k => nw_F wl_X2_readType wf_X2_readType false false c k = true) h (qj_X2_readType_89 nn l1 l3 s0 h) (fun r => r.2) := by
  unfold qj_X2_readType_89
  have F_h : ∀ c k : Nat, (fun c k => nw_F wl_X2_readType wf_X2_readType false false c k = true) c k → h c k = h c k := fun _ _ _ => rfl
  refine fm_if ?_ ?_
  · exact fm_tl F_h (fj_X2_readType_109 nn) (fun _ _ z => z)
  · refine fm_xl ?_; intro v7
    refine fm_up F_h (nw_nf rfl) ?_; intro h8 F_h8
    exact fm_tl F_h8 (fj_X2_readType_109 nn) (fun _ _ z => z)
set_option maxRecDepth 4000 in
theorem fj_X2_readType_53 (nn : Nat) {l1 : Int} {l2 : Int} {s0 : Int} {h : ms_M} : Fm_ (fun c k => nw_F wl_X2_readType wf_X2_readType false false c k = true) h (qj_X2_readType_53 nn l1 l2 s0 h) (fun r => r.2) := by
  unfold qj_X2_readType_53
  have F_h : ∀ c k : Nat, (fun c k => nw_F wl_X2_readType wf_X2_readType false false c k = true) c k → h c k = h c k := fun _ _ _ => rfl
  refine fm_if ?_ ?_
  · refine fm_pu ?_; intro u12
    refine fm_if ?_ ?_
    · exact fm_tl F_h (fj_X2_readType_89 nn) (fun _ _ z => z)
    · exact fm_tl F_h (fj_X2_readType_89 nn) (fun _ _ z => z)
  · refine fm_ca F_h (ff_X9_tell nn) (nw_sub rfl) ?_; intro u16 F_u16
    exact fm_ret F_u16
set_option maxRecDepth 4000 in
theorem ff_X2_readType (nn : Nat) {h : ms_M} : Fm_ (fun c k => nw_F wl_X2_readType wf_X2_readType false false c k = true) h (qf_X2_readType nn h) (fun r => r.2) := by
  unfold qf_X2_readType
  have F_h : ∀ c k : Nat, (fun c k => nw_F wl_X2_readType wf_X2_readType false false c k = true) c k → h c k = h c k := fun _ _ _ => rfl
  refine fm_pu ?_; intro u20
  refine fm_xl ?_; intro v25
  refine fm_up F_h (nw_nf rfl) ?_; intro h26 F_h26
  refine fm_if ?_ ?_
  · refine fm_if ?_ ?_
    · exact fm_tl F_h26 (fj_X2_readType_53 nn) (fun _ _ z => z)
    · refine fm_pu ?_; intro u28
      exact fm_tl F_h26 (fj_X2_readType_53 nn) (fun _ _ z => z)
  · exact fm_ret F_h26
set_option maxRecDepth 4000 in
theorem fj_X0_readVariable_69 (nn : Nat) {l2 : Int} {l3 : Int} {h : ms_M} : Fm_ (fun c k => nw_F wl_X0_readVariable wf_X0_readVariable false false c k = true) h (qj_X0_readVariable_69 nn l2 l3 h) (fun r => r.2) := by
  unfold qj_X0_readVariable_69
  have F_h : ∀ c k : Nat, (fun c k => nw_F wl_X0_readVariable wf_X0_readVariable false false c k = true) c k → h c k = h c k := fun _ _ _ => rfl
  refine fm_pu ?_; intro u5
  refine fm_ca F_h (ff_X1_addLocal nn) (nw_sub rfl) ?_; intro u7 F_u7
  refine fm_ca F_u7 (ff_X1_store nn) (nw_sub rfl) ?_; intro u9 F_u9
  refine fm_xl ?_; intro v12
  refine fm_up F_u9 (nw_nf rfl) ?_; intro h13 F_h13
  exact fm_ret F_h13
set_option maxRecDepth 4000 in
theorem ff_X0_readVariable (nn : Nat) {a1 : Int} {h : ms_M} : Fm_ (fun c k => nw_F wl_X0_readVariable wf_X0_readVariable false false c k = true) h (qf_X0_readVariable nn a1 h) (fun r => r.2) := by
  unfold qf_X0_readVariable
  have F_h : ∀ c k : Nat, (fun c k => nw_F wl_X0_readVariable wf_X0_readVariable false false c k = true) c k → h c k = h c k := fun _ _ _ => rfl
  refine fm_ca F_h (ff_X2_readType nn) (nw_sub rfl) ?_; intro u16 F_u16
  refine fm_ca F_u16 (ff_X0_checkTwice nn) (nw_sub rfl) ?_; intro u20 F_u20
  refine fm_xl ?_; intro v22
  refine fm_up F_u20 (nw_nf rfl) ?_; intro h23 F_h23
  refine fm_ca F_h23 (ff_X10_readWhole nn) (nw_sub rfl) ?_; intro u26 F_u26
  refine fm_pu ?_; intro u31
  refine fm_if ?_ ?_
  · exact fm_tl F_u26 (fj_X0_readVariable_69 nn) (fun _ _ z => z)
  · refine fm_xl ?_; intro v33
    refine fm_ca F_u26 (ff_X9_tell nn) (nw_sub rfl) ?_; intro u35 F_u35
    exact fm_tl F_u35 (fj_X0_readVariable_69 nn) (fun _ _ z => z)
def fgr_X0_readBlock (rc : tq_X0_readBlock) : Prop := (∀ {a1 : Int} {h : ms_M}, Fm_ (fun c k => nw_F wl_X0_readBlock wf_X0_readBlock false false c k = true) h (rc.1 a1 h) (fun r => r.2)) ∧ (∀ {a1 : Int} {h : ms_M}, Fm_ (fun c k => nw_F wl_X0_readPart wf_X0_readPart false false c k = true) h (rc.2.1 a1 h) (fun r => r.2)) ∧ (∀ {a1 : Int} {h : ms_M}, Fm_ (fun c k => nw_F wl_X0_readStatement wf_X0_readStatement false false c k = true) h (rc.2.2.1 a1 h) (fun r => r.2)) ∧ (∀ {a1 : Int} {h : ms_M}, Fm_ (fun c k => nw_F wl_X0_readIf wf_X0_readIf false false c k = true) h (rc.2.2.2.1 a1 h) (fun r => r.2)) ∧ (∀ {a1 : Int} {h : ms_M}, Fm_ (fun c k => nw_F wl_X0_readWhile wf_X0_readWhile false false c k = true) h (rc.2.2.2.2.1 a1 h) (fun r => r.2)) ∧ (∀ {a1 : Int} {h : ms_M}, Fm_ (fun c k => nw_F wl_X0_readTry wf_X0_readTry false false c k = true) h (rc.2.2.2.2.2 a1 h) (fun r => r.2))
set_option maxRecDepth 4000 in
theorem fj_X0_readBlock_88 (nn : Nat) {rc : tq_X0_readBlock} (hr : fgr_X0_readBlock rc) {l2 : Int} {l3 : Int} {h : ms_M} : Fm_ (fun c k => nw_F wl_X0_readBlock wf_X0_readBlock false false c k = true) h (qj_X0_readBlock_88 nn rc l2 l3 h) (fun r => r.2) := by
  unfold qj_X0_readBlock_88
  have F_h : ∀ c k : Nat, (fun c k => nw_F wl_X0_readBlock wf_X0_readBlock false false c k = true) c k → h c k = h c k := fun _ _ _ => rfl
  refine fm_xl ?_; intro v3
  refine fm_up F_h (nw_nf rfl) ?_; intro h4 F_h4
  refine fm_up F_h4 (nw_nf rfl) ?_; intro h6 F_h6
  refine fm_ck ?_; intro _
  exact fm_ret F_h6
set_option maxRecDepth 4000 in
theorem fj_X0_readBlock_76 (nn : Nat) {rc : tq_X0_readBlock} (hr : fgr_X0_readBlock rc) {qkk_26 : Int → Int → Int → Int → ms_M → Option (Int × ms_M)} (hk_kk_26 : ∀ {l1 : Int} {l2 : Int} {l3 : Int} {l4 : Int} {h : ms_M}, Fm_ (fun c k => nw_F wl_X0_readBlock wf_X0_readBlock false false c k = true) h (qkk_26 l1 l2 l3 l4 h) (fun r => r.2)) {l1 : Int} {l2 : Int} {l4 : Int} {h : ms_M} : Fm_ (fun c k => nw_F wl_X0_readBlock wf_X0_readBlock false false c k = true) h (qj_X0_readBlock_76 nn rc qkk_26 l1 l2 l4 h) (fun r => r.2) := by
  unfold qj_X0_readBlock_76
  have F_h : ∀ c k : Nat, (fun c k => nw_F wl_X0_readBlock wf_X0_readBlock false false c k = true) c k → h c k = h c k := fun _ _ _ => rfl
  refine fm_ca F_h (hr.2.2.1) (fun _ _ z => z) ?_; intro u9 F_u9
  refine fm_xl ?_; intro v10
  exact fm_tl F_u9 (hk_kk_26) (fun _ _ z => z)
set_option maxRecDepth 4000 in
theorem fw_X0_readBlock_26 (nn : Nat) {rc : tq_X0_readBlock} (hr : fgr_X0_readBlock rc) : ∀ (k : Nat) {l1 : Int} {l2 : Int} {l3 : Int} {l4 : Int} {h : ms_M}, Fm_ (fun c k => nw_F wl_X0_readBlock wf_X0_readBlock false false c k = true) h (qw_X0_readBlock_26 nn rc k l1 l2 l3 l4 h) (fun r => r.2) := by
  intro k
  induction k with
  | zero => intros; exact fm_no
  | succ k ih =>
    intro l1 l2 l3 l4 h
    unfold qw_X0_readBlock_26
    have F_h : ∀ c k : Nat, (fun c k => nw_F wl_X0_readBlock wf_X0_readBlock false false c k = true) c k → h c k = h c k := fun _ _ _ => rfl
    refine fm_if ?_ ?_
    · exact fm_tl F_h (fj_X0_readBlock_88 nn hr) (fun _ _ z => z)
    · refine fm_if ?_ ?_
      · exact fm_tl F_h (fj_X0_readBlock_88 nn hr) (fun _ _ z => z)
      · refine fm_pu ?_; intro u15
        refine fm_if ?_ ?_
        · exact fm_tl F_h (fj_X0_readBlock_88 nn hr) (fun _ _ z => z)
        · refine fm_if ?_ ?_
          · exact fm_tl F_h (fj_X0_readBlock_76 nn hr ih) (fun _ _ z => z)
          · refine fm_ca F_h (ff_X9_tell nn) (nw_sub rfl) ?_; intro u20 F_u20
            exact fm_tl F_u20 (fj_X0_readBlock_76 nn hr ih) (fun _ _ z => z)
set_option maxRecDepth 4000 in
theorem fo_X0_readBlock (nn : Nat) {rc : tq_X0_readBlock} (hr : fgr_X0_readBlock rc) {a1 : Int} {h : ms_M} : Fm_ (fun c k => nw_F wl_X0_readBlock wf_X0_readBlock false false c k = true) h (qo_X0_readBlock nn rc a1 h) (fun r => r.2) := by
  unfold qo_X0_readBlock
  have F_h : ∀ c k : Nat, (fun c k => nw_F wl_X0_readBlock wf_X0_readBlock false false c k = true) c k → h c k = h c k := fun _ _ _ => rfl
  refine fm_xl ?_; intro v29
  refine fm_up F_h (nw_nf rfl) ?_; intro h30 F_h30
  exact fm_tl F_h30 (fw_X0_readBlock_26 nn hr _) (fun _ _ z => z)
set_option maxRecDepth 4000 in
theorem fo_X0_readPart (nn : Nat) {rc : tq_X0_readBlock} (hr : fgr_X0_readBlock rc) {a1 : Int} {h : ms_M} : Fm_ (fun c k => nw_F wl_X0_readPart wf_X0_readPart false false c k = true) h (qo_X0_readPart nn rc a1 h) (fun r => r.2) := by
  unfold qo_X0_readPart
  have F_h : ∀ c k : Nat, (fun c k => nw_F wl_X0_readPart wf_X0_readPart false false c k = true) c k → h c k = h c k := fun _ _ _ => rfl
  refine fm_ca F_h (hr.2.2.1) (fun _ _ z => z) ?_; intro u4 F_u4
  refine fm_up F_u4 (nw_nf rfl) ?_; intro h6 F_h6
  refine fm_ck ?_; intro _
  exact fm_ret F_h6
set_option maxRecDepth 4000 in
theorem fj_X0_readStatement_217 (nn : Nat) {rc : tq_X0_readBlock} (hr : fgr_X0_readBlock rc) {l1 : Int} {h : ms_M} : Fm_ (fun c k => nw_F wl_X0_readStatement wf_X0_readStatement false false c k = true) h (qj_X0_readStatement_217 nn rc l1 h) (fun r => r.2) := by
  unfold qj_X0_readStatement_217
  have F_h : ∀ c k : Nat, (fun c k => nw_F wl_X0_readStatement wf_X0_readStatement false false c k = true) c k → h c k = h c k := fun _ _ _ => rfl
  refine fm_pu ?_; intro u3
  refine fm_if ?_ ?_
  · refine fm_xl ?_; intro v4
    refine fm_ca F_h (ff_X0_readPlain nn) (nw_sub rfl) ?_; intro u6 F_u6
    refine fm_ck ?_; intro _
    exact fm_ret F_u6
  · refine fm_xl ?_; intro v8
    refine fm_ca F_h (ff_X0_readVariable nn) (nw_sub rfl) ?_; intro u10 F_u10
    refine fm_ck ?_; intro _
    exact fm_ret F_u10
set_option maxRecDepth 4000 in
theorem fj_X0_readStatement_188 (nn : Nat) {rc : tq_X0_readBlock} (hr : fgr_X0_readBlock rc) {h : ms_M} : Fm_ (fun c k => nw_F wl_X0_readStatement wf_X0_readStatement false false c k = true) h (qj_X0_readStatement_188 nn rc h) (fun r => r.2) := by
  unfold qj_X0_readStatement_188
  have F_h : ∀ c k : Nat, (fun c k => nw_F wl_X0_readStatement wf_X0_readStatement false false c k = true) c k → h c k = h c k := fun _ _ _ => rfl
  refine fm_ca F_h (ff_X0_readLeave nn) (nw_sub rfl) ?_; intro u14 F_u14
  refine fm_ck ?_; intro _
  exact fm_ret F_u14
set_option maxRecDepth 4000 in
theorem fo_X0_readStatement (nn : Nat) {rc : tq_X0_readBlock} (hr : fgr_X0_readBlock rc) {a1 : Int} {h : ms_M} : Fm_ (fun c k => nw_F wl_X0_readStatement wf_X0_readStatement false false c k = true) h (qo_X0_readStatement nn rc a1 h) (fun r => r.2) := by
  unfold qo_X0_readStatement
  have F_h : ∀ c k : Nat, (fun c k => nw_F wl_X0_readStatement wf_X0_readStatement false false c k = true) c k → h c k = h c k := fun _ _ _ => rfl
  refine fm_if ?_ ?_
  · refine fm_pu ?_; intro u18
    refine fm_if ?_ ?_
    · exact fm_tl F_h (fj_X0_readStatement_188 nn hr) (fun _ _ z => z)
    · refine fm_if ?_ ?_
      · exact fm_tl F_h (fj_X0_readStatement_188 nn hr) (fun _ _ z => z)
      · refine fm_if ?_ ?_
        · refine fm_xl ?_; intro v19
          refine fm_ca F_h (hr.2.2.2.1) (fun _ _ z => z) ?_; intro u21 F_u21
          refine fm_ck ?_; intro _
          exact fm_ret F_u21
        · refine fm_if ?_ ?_
          · refine fm_xl ?_; intro v23
            refine fm_ca F_h (ff_X0_readPrint nn) (nw_sub rfl) ?_; intro u25 F_u25
            refine fm_ck ?_; intro _
            exact fm_ret F_u25
          · refine fm_if ?_ ?_
            · refine fm_xl ?_; intro v27
              refine fm_ca F_h (ff_X0_readReturn nn) (nw_sub rfl) ?_; intro u29 F_u29
              refine fm_ck ?_; intro _
              exact fm_ret F_u29
            · refine fm_if ?_ ?_
              · refine fm_xl ?_; intro v31
                refine fm_ca F_h (ff_X0_readThrow nn) (nw_sub rfl) ?_; intro u33 F_u33
                refine fm_ck ?_; intro _
                exact fm_ret F_u33
              · refine fm_if ?_ ?_
                · refine fm_xl ?_; intro v35
                  refine fm_ca F_h (hr.2.2.2.2.2) (fun _ _ z => z) ?_; intro u37 F_u37
                  refine fm_ck ?_; intro _
                  exact fm_ret F_u37
                · refine fm_if ?_ ?_
                  · refine fm_xl ?_; intro v39
                    refine fm_ca F_h (hr.2.2.2.2.1) (fun _ _ z => z) ?_; intro u41 F_u41
                    refine fm_ck ?_; intro _
                    exact fm_ret F_u41
                  · refine fm_if ?_ ?_
                    · refine fm_xl ?_; intro v43
                      refine fm_ca F_h (hr.1) (fun _ _ z => z) ?_; intro u45 F_u45
                      refine fm_ck ?_; intro _
                      exact fm_ret F_u45
                    · exact fm_tl F_h (fj_X0_readStatement_217 nn hr) (fun _ _ z => z)
  · exact fm_ret F_h
set_option maxRecDepth 4000 in
theorem fj_X0_readIf_99 (nn : Nat) {rc : tq_X0_readBlock} (hr : fgr_X0_readBlock rc) {l3 : Int} {l5 : Int} {h : ms_M} : Fm_ (fun c k => nw_F wl_X0_readIf wf_X0_readIf false false c k = true) h (qj_X0_readIf_99 nn rc l3 l5 h) (fun r => r.2) := by
  unfold qj_X0_readIf_99
  have F_h : ∀ c k : Nat, (fun c k => nw_F wl_X0_readIf wf_X0_readIf false false c k = true) c k → h c k = h c k := fun _ _ _ => rfl
  refine fm_if ?_ ?_
  · exact fm_ret F_h
  · refine fm_if ?_ ?_
    · exact fm_ret F_h
    · exact fm_ret F_h
set_option maxRecDepth 4000 in
theorem fj_X0_readIf_69 (nn : Nat) {rc : tq_X0_readBlock} (hr : fgr_X0_readBlock rc) {l1 : Int} {l2 : Int} {l3 : Int} {s0 : Int} {h : ms_M} : Fm_ (fun c k => nw_F wl_X0_readIf wf_X0_readIf false false c k = true) h (qj_X0_readIf_69 nn rc l1 l2 l3 s0 h) (fun r => r.2) := by
  unfold qj_X0_readIf_69
  have F_h : ∀ c k : Nat, (fun c k => nw_F wl_X0_readIf wf_X0_readIf false false c k = true) c k → h c k = h c k := fun _ _ _ => rfl
  refine fm_ca F_h (ff_X1_aimHere nn) (nw_sub rfl) ?_; intro u5 F_u5
  refine fm_ca F_u5 (hr.2.1) (fun _ _ z => z) ?_; intro u7 F_u7
  refine fm_if ?_ ?_
  · exact fm_tl F_u7 (fj_X0_readIf_99 nn hr) (fun _ _ z => z)
  · refine fm_ca F_u7 (ff_X1_aimHere nn) (nw_sub rfl) ?_; intro u10 F_u10
    exact fm_tl F_u10 (fj_X0_readIf_99 nn hr) (fun _ _ z => z)
set_option maxRecDepth 4000 in
theorem fo_X0_readIf (nn : Nat) {rc : tq_X0_readBlock} (hr : fgr_X0_readBlock rc) {a1 : Int} {h : ms_M} : Fm_ (fun c k => nw_F wl_X0_readIf wf_X0_readIf false false c k = true) h (qo_X0_readIf nn rc a1 h) (fun r => r.2) := by
  unfold qo_X0_readIf
  have F_h : ∀ c k : Nat, (fun c k => nw_F wl_X0_readIf wf_X0_readIf false false c k = true) c k → h c k = h c k := fun _ _ _ => rfl
  refine fm_ca F_h (ff_X10_readCondition nn) (nw_sub rfl) ?_; intro u14 F_u14
  refine fm_ca F_u14 (hr.2.1) (fun _ _ z => z) ?_; intro u16 F_u16
  refine fm_pu ?_; intro u19
  refine fm_if ?_ ?_
  · refine fm_xl ?_; intro v22
    refine fm_up F_u16 (nw_nf rfl) ?_; intro h23 F_h23
    refine fm_if ?_ ?_
    · exact fm_tl F_h23 (fj_X0_readIf_69 nn hr) (fun _ _ z => z)
    · refine fm_ca F_h23 (ff_X1_jump nn) (nw_sub rfl) ?_; intro u26 F_u26
      exact fm_tl F_u26 (fj_X0_readIf_69 nn hr) (fun _ _ z => z)
  · refine fm_ca F_u16 (ff_X1_aimHere nn) (nw_sub rfl) ?_; intro u30 F_u30
    exact fm_ret F_u30
set_option maxRecDepth 4000 in
theorem fj_X0_readWhile_187 (nn : Nat) {rc : tq_X0_readBlock} (hr : fgr_X0_readBlock rc) {l2 : Int} {l3 : Int} {l4 : Int} {l8 : Int} {h : ms_M} : Fm_ (fun c k => nw_F wl_X0_readWhile wf_X0_readWhile false false c k = true) h (qj_X0_readWhile_187 nn rc l2 l3 l4 l8 h) (fun r => r.2) := by
  unfold qj_X0_readWhile_187
  have F_h : ∀ c k : Nat, (fun c k => nw_F wl_X0_readWhile wf_X0_readWhile false false c k = true) c k → h c k = h c k := fun _ _ _ => rfl
  refine fm_up F_h (nw_nf rfl) ?_; intro h1 F_h1
  refine fm_up F_h1 (nw_nf rfl) ?_; intro h2 F_h2
  refine fm_up F_h2 (nw_nf rfl) ?_; intro h3 F_h3
  refine fm_ck ?_; intro _
  exact fm_ret F_h3
set_option maxRecDepth 4000 in
theorem fw_X0_readWhile_148 (nn : Nat) {rc : tq_X0_readBlock} (hr : fgr_X0_readBlock rc) : ∀ (k : Nat) {l2 : Int} {l3 : Int} {l4 : Int} {l8 : Int} {l9 : Int} {h : ms_M}, Fm_ (fun c k => nw_F wl_X0_readWhile wf_X0_readWhile false false c k = true) h (qw_X0_readWhile_148 nn rc k l2 l3 l4 l8 l9 h) (fun r => r.2) := by
  intro k
  induction k with
  | zero => intros; exact fm_no
  | succ k ih =>
    intro l2 l3 l4 l8 l9 h
    unfold qw_X0_readWhile_148
    have F_h : ∀ c k : Nat, (fun c k => nw_F wl_X0_readWhile wf_X0_readWhile false false c k = true) c k → h c k = h c k := fun _ _ _ => rfl
    refine fm_if ?_ ?_
    · exact fm_tl F_h (fj_X0_readWhile_187 nn hr) (fun _ _ z => z)
    · refine fm_if ?_ ?_
      · exact fm_tl F_h (fj_X0_readWhile_187 nn hr) (fun _ _ z => z)
      · refine fm_rd ?_; intro v10
        refine fm_ca F_h (ff_X1_aimHere nn) (nw_sub rfl) ?_; intro u12 F_u12
        refine fm_xl ?_; intro v13
        exact fm_tl F_u12 (ih ) (fun _ _ z => z)
set_option maxRecDepth 4000 in
theorem fj_X0_readWhile_128 (nn : Nat) {rc : tq_X0_readBlock} (hr : fgr_X0_readBlock rc) {l2 : Int} {l3 : Int} {l4 : Int} {l5 : Int} {l7 : Int} {s0 : Int} {h : ms_M} : Fm_ (fun c k => nw_F wl_X0_readWhile wf_X0_readWhile false false c k = true) h (qj_X0_readWhile_128 nn rc l2 l3 l4 l5 l7 s0 h) (fun r => r.2) := by
  unfold qj_X0_readWhile_128
  have F_h : ∀ c k : Nat, (fun c k => nw_F wl_X0_readWhile wf_X0_readWhile false false c k = true) c k → h c k = h c k := fun _ _ _ => rfl
  refine fm_if ?_ ?_
  · exact fm_tl F_h (fw_X0_readWhile_148 nn hr _) (fun _ _ z => z)
  · refine fm_ca F_h (ff_X1_aimHere nn) (nw_sub rfl) ?_; intro u18 F_u18
    exact fm_tl F_u18 (fw_X0_readWhile_148 nn hr _) (fun _ _ z => z)
set_option maxRecDepth 4000 in
theorem fj_X0_readWhile_123 (nn : Nat) {rc : tq_X0_readBlock} (hr : fgr_X0_readBlock rc) {l2 : Int} {l3 : Int} {l4 : Int} {l5 : Int} {l7 : Int} {h : ms_M} : Fm_ (fun c k => nw_F wl_X0_readWhile wf_X0_readWhile false false c k = true) h (qj_X0_readWhile_123 nn rc l2 l3 l4 l5 l7 h) (fun r => r.2) := by
  unfold qj_X0_readWhile_123
  have F_h : ∀ c k : Nat, (fun c k => nw_F wl_X0_readWhile wf_X0_readWhile false false c k = true) c k → h c k = h c k := fun _ _ _ => rfl
  exact fm_tl F_h (fj_X0_readWhile_128 nn hr) (fun _ _ z => z)
set_option maxRecDepth 4000 in
theorem fj_X0_readWhile_109 (nn : Nat) {rc : tq_X0_readBlock} (hr : fgr_X0_readBlock rc) {l2 : Int} {l3 : Int} {l4 : Int} {l5 : Int} {l7 : Int} {h : ms_M} : Fm_ (fun c k => nw_F wl_X0_readWhile wf_X0_readWhile false false c k = true) h (qj_X0_readWhile_109 nn rc l2 l3 l4 l5 l7 h) (fun r => r.2) := by
  unfold qj_X0_readWhile_109
  have F_h : ∀ c k : Nat, (fun c k => nw_F wl_X0_readWhile wf_X0_readWhile false false c k = true) c k → h c k = h c k := fun _ _ _ => rfl
  refine fm_if ?_ ?_
  · exact fm_tl F_h (fj_X0_readWhile_123 nn hr) (fun _ _ z => z)
  · refine fm_if ?_ ?_
    · exact fm_tl F_h (fj_X0_readWhile_128 nn hr) (fun _ _ z => z)
    · exact fm_tl F_h (fj_X0_readWhile_123 nn hr) (fun _ _ z => z)
set_option maxRecDepth 4000 in
theorem fj_X0_readWhile_68 (nn : Nat) {rc : tq_X0_readBlock} (hr : fgr_X0_readBlock rc) {l1 : Int} {l2 : Int} {l3 : Int} {l4 : Int} {l5 : Int} {l6 : Int} {l7 : Int} {h : ms_M} : Fm_ (fun c k => nw_F wl_X0_readWhile wf_X0_readWhile false false c k = true) h (qj_X0_readWhile_68 nn rc l1 l2 l3 l4 l5 l6 l7 h) (fun r => r.2) := by
  unfold qj_X0_readWhile_68
  have F_h : ∀ c k : Nat, (fun c k => nw_F wl_X0_readWhile wf_X0_readWhile false false c k = true) c k → h c k = h c k := fun _ _ _ => rfl
  refine fm_up F_h (nw_nf rfl) ?_; intro h23 F_h23
  refine fm_up F_h23 (nw_nf rfl) ?_; intro h26 F_h26
  refine fm_ca F_h26 (hr.2.1) (fun _ _ z => z) ?_; intro u28 F_u28
  refine fm_if ?_ ?_
  · exact fm_tl F_u28 (fj_X0_readWhile_109 nn hr) (fun _ _ z => z)
  · refine fm_ca F_u28 (ff_X1_jumpBack nn) (nw_sub rfl) ?_; intro u33 F_u33
    exact fm_tl F_u33 (fj_X0_readWhile_109 nn hr) (fun _ _ z => z)
set_option maxRecDepth 4000 in
theorem fo_X0_readWhile (nn : Nat) {rc : tq_X0_readBlock} (hr : fgr_X0_readBlock rc) {a1 : Int} {h : ms_M} : Fm_ (fun c k => nw_F wl_X0_readWhile wf_X0_readWhile false false c k = true) h (qo_X0_readWhile nn rc a1 h) (fun r => r.2) := by
  unfold qo_X0_readWhile
  have F_h : ∀ c k : Nat, (fun c k => nw_F wl_X0_readWhile wf_X0_readWhile false false c k = true) c k → h c k = h c k := fun _ _ _ => rfl
  refine fm_pu ?_; intro u40
  refine fm_if ?_ ?_
  · refine fm_ca F_h (ff_X10_readCondition nn) (nw_sub rfl) ?_; intro u45 F_u45
    exact fm_tl F_u45 (fj_X0_readWhile_68 nn hr) (fun _ _ z => z)
  · refine fm_xl ?_; intro v48
    refine fm_up F_h (nw_nf rfl) ?_; intro h49 F_h49
    exact fm_tl F_h49 (fj_X0_readWhile_68 nn hr) (fun _ _ z => z)
set_option maxRecDepth 4000 in
theorem fj_X0_readTry_228 (nn : Nat) {rc : tq_X0_readBlock} (hr : fgr_X0_readBlock rc) {l3 : Int} {l9 : Int} {h : ms_M} : Fm_ (fun c k => nw_F wl_X0_readTry wf_X0_readTry false false c k = true) h (qj_X0_readTry_228 nn rc l3 l9 h) (fun r => r.2) := by
  unfold qj_X0_readTry_228
  have F_h : ∀ c k : Nat, (fun c k => nw_F wl_X0_readTry wf_X0_readTry false false c k = true) c k → h c k = h c k := fun _ _ _ => rfl
  refine fm_if ?_ ?_
  · exact fm_ret F_h
  · refine fm_if ?_ ?_
    · exact fm_ret F_h
    · exact fm_ret F_h
set_option maxRecDepth 4000 in
theorem fj_X0_readTry_130 (nn : Nat) {rc : tq_X0_readBlock} (hr : fgr_X0_readBlock rc) {l1 : Int} {l2 : Int} {l3 : Int} {l4 : Int} {l5 : Int} {l6 : Int} {l7 : Int} {h : ms_M} : Fm_ (fun c k => nw_F wl_X0_readTry wf_X0_readTry false false c k = true) h (qj_X0_readTry_130 nn rc l1 l2 l3 l4 l5 l6 l7 h) (fun r => r.2) := by
  unfold qj_X0_readTry_130
  have F_h : ∀ c k : Nat, (fun c k => nw_F wl_X0_readTry wf_X0_readTry false false c k = true) c k → h c k = h c k := fun _ _ _ => rfl
  refine fm_xl ?_; intro v3
  refine fm_ca F_h (ff_X0_checkTwice nn) (nw_sub rfl) ?_; intro u5 F_u5
  refine fm_ca F_u5 (ff_X1_addHandler nn) (nw_sub rfl) ?_; intro u8 F_u8
  refine fm_xl ?_; intro v14
  refine fm_pu ?_; intro u16
  refine fm_ca F_u8 (ff_X1_addLocal nn) (nw_sub rfl) ?_; intro u18 F_u18
  refine fm_ca F_u18 (ff_X1_store nn) (nw_sub rfl) ?_; intro u20 F_u20
  refine fm_xl ?_; intro v22
  refine fm_up F_u20 (nw_nf rfl) ?_; intro h23 F_h23
  refine fm_ca F_h23 (hr.1) (fun _ _ z => z) ?_; intro u25 F_u25
  refine fm_up F_u25 (nw_nf rfl) ?_; intro h27 F_h27
  refine fm_if ?_ ?_
  · exact fm_tl F_h27 (fj_X0_readTry_228 nn hr) (fun _ _ z => z)
  · refine fm_ca F_h27 (ff_X1_aimHere nn) (nw_sub rfl) ?_; intro u30 F_u30
    exact fm_tl F_u30 (fj_X0_readTry_228 nn hr) (fun _ _ z => z)
set_option maxRecDepth 4000 in
theorem fj_X0_readTry_63 (nn : Nat) {rc : tq_X0_readBlock} (hr : fgr_X0_readBlock rc) {l1 : Int} {l2 : Int} {l3 : Int} {l4 : Int} {s0 : Int} {h : ms_M} : Fm_ (fun c k => nw_F wl_X0_readTry wf_X0_readTry false false c k = true) h (qj_X0_readTry_63 nn rc l1 l2 l3 l4 s0 h) (fun r => r.2) := by
  unfold qj_X0_readTry_63
  have F_h : ∀ c k : Nat, (fun c k => nw_F wl_X0_readTry wf_X0_readTry false false c k = true) c k → h c k = h c k := fun _ _ _ => rfl
  refine fm_xl ?_; intro v34
  refine fm_pu ?_; intro u37
  refine fm_if ?_ ?_
  · refine fm_pu ?_; intro u40
    refine fm_if ?_ ?_
    · exact fm_tl F_h (fj_X0_readTry_130 nn hr) (fun _ _ z => z)
    · refine fm_ca F_h (ff_X9_tell nn) (nw_sub rfl) ?_; intro u43 F_u43
      exact fm_tl F_u43 (fj_X0_readTry_130 nn hr) (fun _ _ z => z)
  · refine fm_ca F_h (ff_X9_tell nn) (nw_sub rfl) ?_; intro u47 F_u47
    exact fm_tl F_u47 (fj_X0_readTry_130 nn hr) (fun _ _ z => z)
set_option maxRecDepth 4000 in
theorem fo_X0_readTry (nn : Nat) {rc : tq_X0_readBlock} (hr : fgr_X0_readBlock rc) {a1 : Int} {h : ms_M} : Fm_ (fun c k => nw_F wl_X0_readTry wf_X0_readTry false false c k = true) h (qo_X0_readTry nn rc a1 h) (fun r => r.2) := by
  unfold qo_X0_readTry
  have F_h : ∀ c k : Nat, (fun c k => nw_F wl_X0_readTry wf_X0_readTry false false c k = true) c k → h c k = h c k := fun _ _ _ => rfl
  refine fm_xl ?_; intro v53
  refine fm_up F_h (nw_nf rfl) ?_; intro h54 F_h54
  refine fm_ca F_h54 (ff_X1_op nn) (nw_sub rfl) ?_; intro u57 F_u57
  refine fm_ca F_u57 (hr.1) (fun _ _ z => z) ?_; intro u59 F_u59
  refine fm_if ?_ ?_
  · exact fm_tl F_u59 (fj_X0_readTry_63 nn hr) (fun _ _ z => z)
  · refine fm_ca F_u59 (ff_X1_jump nn) (nw_sub rfl) ?_; intro u64 F_u64
    exact fm_tl F_u64 (fj_X0_readTry_63 nn hr) (fun _ _ z => z)
set_option maxRecDepth 4000 in
theorem fg_X0_readBlock (nn : Nat) : ∀ d, fgr_X0_readBlock (qg_X0_readBlock nn d) := by
  intro d
  induction d with
  | zero => exact ⟨(by intros; exact fm_no), (by intros; exact fm_no), (by intros; exact fm_no), (by intros; exact fm_no), (by intros; exact fm_no), (by intros; exact fm_no)⟩
  | succ d ih => exact ⟨fo_X0_readBlock nn ih, fo_X0_readPart nn ih, fo_X0_readStatement nn ih, fo_X0_readIf nn ih, fo_X0_readWhile nn ih, fo_X0_readTry nn ih⟩
set_option maxRecDepth 4000 in
theorem ff_X0_readBlock (nn : Nat) {a1 : Int} {h : ms_M} : Fm_ (fun c k => nw_F wl_X0_readBlock wf_X0_readBlock false false c k = true) h (qf_X0_readBlock nn a1 h) (fun r => r.2) := (fg_X0_readBlock nn 240).1
set_option maxRecDepth 4000 in
theorem ff_X0_readPart (nn : Nat) {a1 : Int} {h : ms_M} : Fm_ (fun c k => nw_F wl_X0_readPart wf_X0_readPart false false c k = true) h (qf_X0_readPart nn a1 h) (fun r => r.2) := (fg_X0_readBlock nn 240).2.1
set_option maxRecDepth 4000 in
theorem ff_X0_readStatement (nn : Nat) {a1 : Int} {h : ms_M} : Fm_ (fun c k => nw_F wl_X0_readStatement wf_X0_readStatement false false c k = true) h (qf_X0_readStatement nn a1 h) (fun r => r.2) := (fg_X0_readBlock nn 240).2.2.1
set_option maxRecDepth 4000 in
theorem ff_X0_readIf (nn : Nat) {a1 : Int} {h : ms_M} : Fm_ (fun c k => nw_F wl_X0_readIf wf_X0_readIf false false c k = true) h (qf_X0_readIf nn a1 h) (fun r => r.2) := (fg_X0_readBlock nn 240).2.2.2.1
set_option maxRecDepth 4000 in
theorem ff_X0_readWhile (nn : Nat) {a1 : Int} {h : ms_M} : Fm_ (fun c k => nw_F wl_X0_readWhile wf_X0_readWhile false false c k = true) h (qf_X0_readWhile nn a1 h) (fun r => r.2) := (fg_X0_readBlock nn 240).2.2.2.2.1
set_option maxRecDepth 4000 in
theorem ff_X0_readTry (nn : Nat) {a1 : Int} {h : ms_M} : Fm_ (fun c k => nw_F wl_X0_readTry wf_X0_readTry false false c k = true) h (qf_X0_readTry nn a1 h) (fun r => r.2) := (fg_X0_readBlock nn 240).2.2.2.2.2
set_option maxRecDepth 4000 in
theorem ff_X10_beginMethod (nn : Nat) {a1 : Int} {a2 : Int} {h : ms_M} : Fm_ (fun c k => nw_F wl_X10_beginMethod wf_X10_beginMethod false false c k = true) h (qf_X10_beginMethod nn a1 a2 h) (fun r => r) := by
  unfold qf_X10_beginMethod
  have F_h : ∀ c k : Nat, (fun c k => nw_F wl_X10_beginMethod wf_X10_beginMethod false false c k = true) c k → h c k = h c k := fun _ _ _ => rfl
  refine fm_up F_h (nw_nf rfl) ?_; intro h1 F_h1
  refine fm_ck ?_; intro _
  refine fm_up F_h1 (nw_nf rfl) ?_; intro h3 F_h3
  refine fm_up F_h3 (nw_nf rfl) ?_; intro h4 F_h4
  refine fm_up F_h4 (nw_nf rfl) ?_; intro h5 F_h5
  exact fm_ret F_h5
set_option maxRecDepth 4000 in
theorem ff_X1_beginMethod (nn : Nat) {h : ms_M} : Fm_ (fun c k => nw_F wl_X1_beginMethod wf_X1_beginMethod false false c k = true) h (qf_X1_beginMethod nn h) (fun r => r) := by
  unfold qf_X1_beginMethod
  have F_h : ∀ c k : Nat, (fun c k => nw_F wl_X1_beginMethod wf_X1_beginMethod false false c k = true) c k → h c k = h c k := fun _ _ _ => rfl
  refine fm_up F_h (nw_nf rfl) ?_; intro h1 F_h1
  refine fm_up F_h1 (nw_nf rfl) ?_; intro h2 F_h2
  refine fm_up F_h2 (nw_nf rfl) ?_; intro h3 F_h3
  refine fm_up F_h3 (nw_nf rfl) ?_; intro h4 F_h4
  refine fm_up F_h4 (nw_nf rfl) ?_; intro h5 F_h5
  refine fm_up F_h5 (nw_nf rfl) ?_; intro h6 F_h6
  refine fm_up F_h6 (nw_nf rfl) ?_; intro h7 F_h7
  refine fm_up F_h7 (nw_nf rfl) ?_; intro h8 F_h8
  exact fm_ret F_h8
set_option maxRecDepth 4000 in
theorem fw_X1_writeTypes_3 (nn : Nat) : ∀ (k : Nat) {l2 : Int} {l3 : Int} {l4 : Int} {h : ms_M}, Fm_ (fun c k => nw_F wl_X1_writeTypes wf_X1_writeTypes false false c k = true) h (qw_X1_writeTypes_3 nn k l2 l3 l4 h) (fun r => r) := by
  intro k
  induction k with
  | zero => intros; exact fm_no
  | succ k ih =>
    intro l2 l3 l4 h
    unfold qw_X1_writeTypes_3
    have F_h : ∀ c k : Nat, (fun c k => nw_F wl_X1_writeTypes wf_X1_writeTypes false false c k = true) c k → h c k = h c k := fun _ _ _ => rfl
    refine fm_xl ?_; intro v1
    refine fm_if ?_ ?_
    · exact fm_ret F_h
    · refine fm_if ?_ ?_
      · exact fm_ret F_h
      · refine fm_rd ?_; intro v5
        refine fm_pu ?_; intro u6
        refine fm_if ?_ ?_
        · refine fm_if ?_ ?_
          · refine fm_ca F_h (ff_X6_put nn) (nw_sub rfl) ?_; intro u8 F_u8
            refine fm_ca F_u8 (ff_X6_classOf nn) (nw_sub rfl) ?_; intro u10 F_u10
            refine fm_ca F_u10 (ff_X6_put nn) (nw_sub rfl) ?_; intro u12 F_u12
            refine fm_xl ?_; intro v13
            exact fm_tl F_u12 (ih ) (fun _ _ z => z)
          · refine fm_ca F_h (ff_X6_put nn) (nw_sub rfl) ?_; intro u15 F_u15
            refine fm_xl ?_; intro v16
            exact fm_tl F_u15 (ih ) (fun _ _ z => z)
        · refine fm_ca F_h (ff_X6_put nn) (nw_sub rfl) ?_; intro u19 F_u19
          refine fm_xl ?_; intro v20
          exact fm_tl F_u19 (ih ) (fun _ _ z => z)
set_option maxRecDepth 4000 in
theorem ff_X1_writeTypes (nn : Nat) {a2 : Int} {a3 : Int} {h : ms_M} : Fm_ (fun c k => nw_F wl_X1_writeTypes wf_X1_writeTypes false false c k = true) h (qf_X1_writeTypes nn a2 a3 h) (fun r => r) := by
  unfold qf_X1_writeTypes
  have F_h : ∀ c k : Nat, (fun c k => nw_F wl_X1_writeTypes wf_X1_writeTypes false false c k = true) c k → h c k = h c k := fun _ _ _ => rfl
  exact fm_tl F_h (fw_X1_writeTypes_3 nn _) (fun _ _ z => z)
set_option maxRecDepth 4000 in
theorem ff_X6_putPair (nn : Nat) {a1 : Int} {h : ms_M} : Fm_ (fun c k => nw_F wl_X6_putPair wf_X6_putPair false false c k = true) h (qf_X6_putPair nn a1 h) (fun r => r) := by
  unfold qf_X6_putPair
  have F_h : ∀ c k : Nat, (fun c k => nw_F wl_X6_putPair wf_X6_putPair false false c k = true) c k → h c k = h c k := fun _ _ _ => rfl
  refine fm_xl ?_; intro v1
  refine fm_ca F_h (ff_X6_put nn) (nw_sub rfl) ?_; intro u3 F_u3
  refine fm_ca F_u3 (ff_X6_put nn) (nw_sub rfl) ?_; intro u5 F_u5
  exact fm_ret F_u5
set_option maxRecDepth 4000 in
theorem ff_X1_writeFrame (nn : Nat) {a2 : Int} {h : ms_M} : Fm_ (fun c k => nw_F wl_X1_writeFrame wf_X1_writeFrame false false c k = true) h (qf_X1_writeFrame nn a2 h) (fun r => r) := by
  unfold qf_X1_writeFrame
  have F_h : ∀ c k : Nat, (fun c k => nw_F wl_X1_writeFrame wf_X1_writeFrame false false c k = true) c k → h c k = h c k := fun _ _ _ => rfl
  refine fm_xl ?_; intro v1
  refine fm_rd ?_; intro v3
  refine fm_xl ?_; intro v5
  refine fm_rd ?_; intro v6
  refine fm_rd ?_; intro v8
  refine fm_ca F_h (ff_X6_putPair nn) (nw_sub rfl) ?_; intro u10 F_u10
  refine fm_ca F_u10 (ff_X6_put nn) (nw_sub rfl) ?_; intro u12 F_u12
  refine fm_xl ?_; intro v13
  refine fm_ca F_u12 (ff_X1_writeTypes nn) (nw_sub rfl) ?_; intro u15 F_u15
  refine fm_ca F_u15 (ff_X6_put nn) (nw_sub rfl) ?_; intro u17 F_u17
  refine fm_xl ?_; intro v18
  refine fm_xl ?_; intro v19
  refine fm_ca F_u17 (ff_X1_writeTypes nn) (nw_sub rfl) ?_; intro u21 F_u21
  exact fm_ret F_u21
set_option maxRecDepth 4000 in
theorem fw_X1_writeTo_147 (nn : Nat) : ∀ (k : Nat) {l2 : Int} {h : ms_M}, Fm_ (fun c k => nw_F wl_X1_writeTo wf_X1_writeTo false false c k = true) h (qw_X1_writeTo_147 nn k l2 h) (fun r => r) := by
  intro k
  induction k with
  | zero => intros; exact fm_no
  | succ k ih =>
    intro l2 h
    unfold qw_X1_writeTo_147
    have F_h : ∀ c k : Nat, (fun c k => nw_F wl_X1_writeTo wf_X1_writeTo false false c k = true) c k → h c k = h c k := fun _ _ _ => rfl
    refine fm_if ?_ ?_
    · exact fm_ret F_h
    · refine fm_rd ?_; intro v3
      refine fm_ca F_h (ff_X1_writeFrame nn) (nw_sub rfl) ?_; intro u5 F_u5
      refine fm_xl ?_; intro v6
      exact fm_tl F_u5 (ih ) (fun _ _ z => z)
set_option maxRecDepth 4000 in
theorem fw_X1_writeTo_69 (nn : Nat) : ∀ (k : Nat) {l2 : Int} {h : ms_M}, Fm_ (fun c k => nw_F wl_X1_writeTo wf_X1_writeTo false false c k = true) h (qw_X1_writeTo_69 nn k l2 h) (fun r => r) := by
  intro k
  induction k with
  | zero => intros; exact fm_no
  | succ k ih =>
    intro l2 h
    unfold qw_X1_writeTo_69
    have F_h : ∀ c k : Nat, (fun c k => nw_F wl_X1_writeTo wf_X1_writeTo false false c k = true) c k → h c k = h c k := fun _ _ _ => rfl
    refine fm_if ?_ ?_
    · refine fm_ca F_h (ff_X6_put nn) (nw_sub rfl) ?_; intro u11 F_u11
      exact fm_tl F_u11 (fw_X1_writeTo_147 nn _) (fun _ _ z => z)
    · refine fm_xl ?_; intro v12
      refine fm_rd ?_; intro v14
      refine fm_ca F_h (ff_X6_putPair nn) (nw_sub rfl) ?_; intro u16 F_u16
      refine fm_xl ?_; intro v18
      refine fm_rd ?_; intro v19
      refine fm_ca F_u16 (ff_X6_putPair nn) (nw_sub rfl) ?_; intro u21 F_u21
      refine fm_xl ?_; intro v23
      refine fm_rd ?_; intro v24
      refine fm_ca F_u21 (ff_X6_putPair nn) (nw_sub rfl) ?_; intro u26 F_u26
      refine fm_xl ?_; intro v28
      refine fm_rd ?_; intro v29
      refine fm_ca F_u26 (ff_X6_classOf nn) (nw_sub rfl) ?_; intro u31 F_u31
      refine fm_ca F_u31 (ff_X6_put nn) (nw_sub rfl) ?_; intro u33 F_u33
      refine fm_xl ?_; intro v34
      exact fm_tl F_u33 (ih ) (fun _ _ z => z)
set_option maxRecDepth 4000 in
theorem fj_X1_writeTo_59 (nn : Nat) {h : ms_M} : Fm_ (fun c k => nw_F wl_X1_writeTo wf_X1_writeTo false false c k = true) h (qj_X1_writeTo_59 nn h) (fun r => r) := by
  unfold qj_X1_writeTo_59
  have F_h : ∀ c k : Nat, (fun c k => nw_F wl_X1_writeTo wf_X1_writeTo false false c k = true) c k → h c k = h c k := fun _ _ _ => rfl
  refine fm_ca F_h (ff_X6_put nn) (nw_sub rfl) ?_; intro u38 F_u38
  exact fm_tl F_u38 (fw_X1_writeTo_69 nn _) (fun _ _ z => z)
set_option maxRecDepth 4000 in
theorem fw_X1_writeTo_26 (nn : Nat) : ∀ (k : Nat) {l2 : Int} {h : ms_M}, Fm_ (fun c k => nw_F wl_X1_writeTo wf_X1_writeTo false false c k = true) h (qw_X1_writeTo_26 nn k l2 h) (fun r => r) := by
  intro k
  induction k with
  | zero => intros; exact fm_no
  | succ k ih =>
    intro l2 h
    unfold qw_X1_writeTo_26
    have F_h : ∀ c k : Nat, (fun c k => nw_F wl_X1_writeTo wf_X1_writeTo false false c k = true) c k → h c k = h c k := fun _ _ _ => rfl
    refine fm_if ?_ ?_
    · exact fm_tl F_h (fj_X1_writeTo_59 nn) (fun _ _ z => z)
    · refine fm_if ?_ ?_
      · exact fm_tl F_h (fj_X1_writeTo_59 nn) (fun _ _ z => z)
      · refine fm_rd ?_; intro v43
        refine fm_ca F_h (ff_X6_put nn) (nw_sub rfl) ?_; intro u45 F_u45
        refine fm_xl ?_; intro v46
        exact fm_tl F_u45 (ih ) (fun _ _ z => z)
set_option maxRecDepth 4000 in
theorem ff_X1_writeTo (nn : Nat) {h : ms_M} : Fm_ (fun c k => nw_F wl_X1_writeTo wf_X1_writeTo false false c k = true) h (qf_X1_writeTo nn h) (fun r => r) := by
  unfold qf_X1_writeTo
  have F_h : ∀ c k : Nat, (fun c k => nw_F wl_X1_writeTo wf_X1_writeTo false false c k = true) c k → h c k = h c k := fun _ _ _ => rfl
  refine fm_ca F_h (ff_X6_put nn) (nw_sub rfl) ?_; intro u51 F_u51
  refine fm_ca F_u51 (ff_X6_put nn) (nw_sub rfl) ?_; intro u54 F_u54
  refine fm_ca F_u54 (ff_X6_putPair nn) (nw_sub rfl) ?_; intro u57 F_u57
  exact fm_tl F_u57 (fw_X1_writeTo_26 nn _) (fun _ _ z => z)
set_option maxRecDepth 4000 in
theorem fj_X6_beginMethod_17 (nn : Nat) {l1 : Int} {s0 : Int} {h : ms_M} : Fm_ (fun c k => nw_F wl_X6_beginMethod wf_X6_beginMethod false false c k = true) h (qj_X6_beginMethod_17 nn l1 s0 h) (fun r => r) := by
  unfold qj_X6_beginMethod_17
  have F_h : ∀ c k : Nat, (fun c k => nw_F wl_X6_beginMethod wf_X6_beginMethod false false c k = true) c k → h c k = h c k := fun _ _ _ => rfl
  refine fm_ca F_h (ff_X6_put nn) (nw_sub rfl) ?_; intro u2 F_u2
  refine fm_pu ?_; intro u5
  refine fm_ca F_u2 (ff_X6_constant nn) (nw_sub rfl) ?_; intro u7 F_u7
  refine fm_ca F_u7 (ff_X6_put nn) (nw_sub rfl) ?_; intro u9 F_u9
  refine fm_pu ?_; intro u12
  refine fm_ca F_u9 (ff_X6_constant nn) (nw_sub rfl) ?_; intro u14 F_u14
  refine fm_ca F_u14 (ff_X6_put nn) (nw_sub rfl) ?_; intro u16 F_u16
  exact fm_ret F_u16
set_option maxRecDepth 4000 in
theorem ff_X6_beginMethod (nn : Nat) {a1 : Int} {h : ms_M} : Fm_ (fun c k => nw_F wl_X6_beginMethod wf_X6_beginMethod false false c k = true) h (qf_X6_beginMethod nn a1 h) (fun r => r) := by
  unfold qf_X6_beginMethod
  have F_h : ∀ c k : Nat, (fun c k => nw_F wl_X6_beginMethod wf_X6_beginMethod false false c k = true) c k → h c k = h c k := fun _ _ _ => rfl
  refine fm_pu ?_; intro u19
  refine fm_if ?_ ?_
  · exact fm_tl F_h (fj_X6_beginMethod_17 nn) (fun _ _ z => z)
  · exact fm_tl F_h (fj_X6_beginMethod_17 nn) (fun _ _ z => z)
set_option maxRecDepth 4000 in
theorem fj_X0_makeMethod_199 (nn : Nat) {l3 : Int} {h : ms_M} : Fm_ (fun c k => nw_F wl_X0_makeMethod wf_X0_makeMethod false false c k = true) h (qj_X0_makeMethod_199 nn l3 h) (fun r => r) := by
  unfold qj_X0_makeMethod_199
  have F_h : ∀ c k : Nat, (fun c k => nw_F wl_X0_makeMethod wf_X0_makeMethod false false c k = true) c k → h c k = h c k := fun _ _ _ => rfl
  refine fm_ca F_h (ff_X1_writeTo nn) (nw_sub rfl) ?_; intro u4 F_u4
  refine fm_pu ?_; intro u7
  refine fm_pu ?_; intro u10
  refine fm_ca F_u4 (ff_X0_noteMuch nn) (nw_sub rfl) ?_; intro u12 F_u12
  exact fm_ret F_u12
set_option maxRecDepth 4000 in
theorem fj_X0_makeMethod_189 (nn : Nat) {l3 : Int} {h : ms_M} : Fm_ (fun c k => nw_F wl_X0_makeMethod wf_X0_makeMethod false false c k = true) h (qj_X0_makeMethod_189 nn l3 h) (fun r => r) := by
  unfold qj_X0_makeMethod_189
  have F_h : ∀ c k : Nat, (fun c k => nw_F wl_X0_makeMethod wf_X0_makeMethod false false c k = true) c k → h c k = h c k := fun _ _ _ => rfl
  refine fm_ca F_h (ff_X1_op nn) (nw_sub rfl) ?_; intro u15 F_u15
  exact fm_tl F_u15 (fj_X0_makeMethod_199 nn) (fun _ _ z => z)
set_option maxRecDepth 4000 in
theorem fw_X0_makeMethod_70 (nn : Nat) : ∀ (k : Nat) {l3 : Int} {l5 : Int} {h : ms_M}, Fm_ (fun c k => nw_F wl_X0_makeMethod wf_X0_makeMethod false false c k = true) h (qw_X0_makeMethod_70 nn k l3 l5 h) (fun r => r) := by
  intro k
  induction k with
  | zero => intros; exact fm_no
  | succ k ih =>
    intro l3 l5 h
    unfold qw_X0_makeMethod_70
    have F_h : ∀ c k : Nat, (fun c k => nw_F wl_X0_makeMethod wf_X0_makeMethod false false c k = true) c k → h c k = h c k := fun _ _ _ => rfl
    refine fm_pu ?_; intro u18
    refine fm_if ?_ ?_
    · refine fm_pu ?_; intro u21
      refine fm_up F_h (nw_nf rfl) ?_; intro h22 F_h22
      refine fm_up F_h22 (nw_nf rfl) ?_; intro h23 F_h23
      refine fm_up F_h23 (nw_nf rfl) ?_; intro h24 F_h24
      refine fm_pu ?_; intro u28
      refine fm_up F_h24 (nw_nf rfl) ?_; intro h29 F_h29
      refine fm_ca F_h29 (ff_X0_readBlock nn) (nw_sub rfl) ?_; intro u31 F_u31
      refine fm_if ?_ ?_
      · exact fm_tl F_u31 (fj_X0_makeMethod_199 nn) (fun _ _ z => z)
      · refine fm_if ?_ ?_
        · exact fm_tl F_u31 (fj_X0_makeMethod_189 nn) (fun _ _ z => z)
        · refine fm_pu ?_; intro u36
          refine fm_ca F_u31 (ff_X9_tell nn) (nw_sub rfl) ?_; intro u38 F_u38
          exact fm_tl F_u38 (fj_X0_makeMethod_189 nn) (fun _ _ z => z)
    · refine fm_pu ?_; intro u44
      refine fm_pu ?_; intro u47
      refine fm_ca F_h (ff_X1_addLocal nn) (nw_sub rfl) ?_; intro u49 F_u49
      refine fm_xl ?_; intro v50
      exact fm_tl F_u49 (ih ) (fun _ _ z => z)
set_option maxRecDepth 4000 in
theorem ff_X0_makeMethod (nn : Nat) {a1 : Int} {a2 : Int} {h : ms_M} : Fm_ (fun c k => nw_F wl_X0_makeMethod wf_X0_makeMethod false false c k = true) h (qf_X0_makeMethod nn a1 a2 h) (fun r => r) := by
  unfold qf_X0_makeMethod
  have F_h : ∀ c k : Nat, (fun c k => nw_F wl_X0_makeMethod wf_X0_makeMethod false false c k = true) c k → h c k = h c k := fun _ _ _ => rfl
  refine fm_xl ?_; intro v52
  refine fm_xl ?_; intro v53
  refine fm_xl ?_; intro v54
  refine fm_ca F_h (ff_X6_beginMethod nn) (nw_sub rfl) ?_; intro u57 F_u57
  refine fm_ca F_u57 (ff_X1_beginMethod nn) (nw_sub rfl) ?_; intro u60 F_u60
  refine fm_pu ?_; intro u64
  refine fm_ca F_u60 (ff_X10_beginMethod nn) (nw_sub rfl) ?_; intro u66 F_u66
  refine fm_pu ?_; intro u69
  refine fm_if ?_ ?_
  · exact fm_tl F_u66 (fw_X0_makeMethod_70 nn _) (fun _ _ z => z)
  · refine fm_ca F_u66 (ff_X1_addLocal nn) (nw_sub rfl) ?_; intro u72 F_u72
    exact fm_tl F_u72 (fw_X0_makeMethod_70 nn _) (fun _ _ z => z)
set_option maxRecDepth 4000 in
theorem fw_X12_takeImages_13 (nn : Nat) : ∀ (k : Nat) {l1 : Int} {h : ms_M}, Fm_ (fun c k => nw_F wl_X12_takeImages wf_X12_takeImages false false c k = true) h (qw_X12_takeImages_13 nn k l1 h) (fun r => r.2) := by
  intro k
  induction k with
  | zero => intros; exact fm_no
  | succ k ih =>
    intro l1 h
    unfold qw_X12_takeImages_13
    have F_h : ∀ c k : Nat, (fun c k => nw_F wl_X12_takeImages wf_X12_takeImages false false c k = true) c k → h c k = h c k := fun _ _ _ => rfl
    refine fm_if ?_ ?_
    · exact fm_ret F_h
    · refine fm_if ?_ ?_
      · exact fm_ret F_h
      · refine fm_pu ?_; intro u9
        refine fm_wQB F_h (nw_ne rfl) ?_; intro h10 F_h10
        refine fm_xl ?_; intro v11
        exact fm_tl F_h10 (ih ) (fun _ _ z => z)
set_option maxRecDepth 4000 in
theorem ff_X12_takeImages (nn : Nat) {h : ms_M} : Fm_ (fun c k => nw_F wl_X12_takeImages wf_X12_takeImages false false c k = true) h (qf_X12_takeImages nn h) (fun r => r.2) := by
  unfold qf_X12_takeImages
  have F_h : ∀ c k : Nat, (fun c k => nw_F wl_X12_takeImages wf_X12_takeImages false false c k = true) c k → h c k = h c k := fun _ _ _ => rfl
  refine fm_up F_h (nw_nf rfl) ?_; intro h16 F_h16
  exact fm_tl F_h16 (fw_X12_takeImages_13 nn _) (fun _ _ z => z)
set_option maxRecDepth 4000 in
theorem fj_X2_checkOverride_131 (nn : Nat) {l1 : Int} {l3 : Int} {h : ms_M} : Fm_ (fun c k => nw_F wl_X2_checkOverride wf_X2_checkOverride false false c k = true) h (qj_X2_checkOverride_131 nn l1 l3 h) (fun r => r) := by
  unfold qj_X2_checkOverride_131
  have F_h : ∀ c k : Nat, (fun c k => nw_F wl_X2_checkOverride wf_X2_checkOverride false false c k = true) c k → h c k = h c k := fun _ _ _ => rfl
  refine fm_if ?_ ?_
  · exact fm_ret F_h
  · refine fm_rd ?_; intro v3
    refine fm_ca F_h (ff_X9_tell nn) (nw_sub rfl) ?_; intro u5 F_u5
    exact fm_ret F_u5
set_option maxRecDepth 4000 in
theorem fw_X2_checkOverride_87 (nn : Nat) : ∀ (k : Nat) {l1 : Int} {l2 : Int} {l3 : Int} {l4 : Int} {h : ms_M}, Fm_ (fun c k => nw_F wl_X2_checkOverride wf_X2_checkOverride false false c k = true) h (qw_X2_checkOverride_87 nn k l1 l2 l3 l4 h) (fun r => r) := by
  intro k
  induction k with
  | zero => intros; exact fm_no
  | succ k ih =>
    intro l1 l2 l3 l4 h
    unfold qw_X2_checkOverride_87
    have F_h : ∀ c k : Nat, (fun c k => nw_F wl_X2_checkOverride wf_X2_checkOverride false false c k = true) c k → h c k = h c k := fun _ _ _ => rfl
    refine fm_rd ?_; intro v8
    refine fm_if ?_ ?_
    · exact fm_tl F_h (fj_X2_checkOverride_131 nn) (fun _ _ z => z)
    · refine fm_if ?_ ?_
      · exact fm_tl F_h (fj_X2_checkOverride_131 nn) (fun _ _ z => z)
      · refine fm_pu ?_; intro u10
        refine fm_pu ?_; intro u12
        refine fm_if ?_ ?_
        · refine fm_xl ?_; intro v13
          exact fm_tl F_h (ih ) (fun _ _ z => z)
        · refine fm_xl ?_; intro v14
          exact fm_tl F_h (ih ) (fun _ _ z => z)
set_option maxRecDepth 4000 in
theorem fj_X2_checkOverride_82 (nn : Nat) {l1 : Int} {l2 : Int} {h : ms_M} : Fm_ (fun c k => nw_F wl_X2_checkOverride wf_X2_checkOverride false false c k = true) h (qj_X2_checkOverride_82 nn l1 l2 h) (fun r => r) := by
  unfold qj_X2_checkOverride_82
  have F_h : ∀ c k : Nat, (fun c k => nw_F wl_X2_checkOverride wf_X2_checkOverride false false c k = true) c k → h c k = h c k := fun _ _ _ => rfl
  exact fm_tl F_h (fw_X2_checkOverride_87 nn _) (fun _ _ z => z)
set_option maxRecDepth 4000 in
theorem ff_X2_checkOverride (nn : Nat) {a1 : Int} {h : ms_M} : Fm_ (fun c k => nw_F wl_X2_checkOverride wf_X2_checkOverride false false c k = true) h (qf_X2_checkOverride nn a1 h) (fun r => r) := by
  unfold qf_X2_checkOverride
  have F_h : ∀ c k : Nat, (fun c k => nw_F wl_X2_checkOverride wf_X2_checkOverride false false c k = true) c k → h c k = h c k := fun _ _ _ => rfl
  refine fm_xl ?_; intro v19
  refine fm_xl ?_; intro v20
  refine fm_pu ?_; intro u22
  refine fm_pu ?_; intro u24
  refine fm_pu ?_; intro u26
  refine fm_if ?_ ?_
  · refine fm_rd ?_; intro v28
    refine fm_if ?_ ?_
    · exact fm_tl F_h (fj_X2_checkOverride_82 nn) (fun _ _ z => z)
    · refine fm_rd ?_; intro v30
      refine fm_if ?_ ?_
      · exact fm_tl F_h (fj_X2_checkOverride_82 nn) (fun _ _ z => z)
      · refine fm_rd ?_; intro v32
        refine fm_rd ?_; intro v34
        refine fm_if ?_ ?_
        · exact fm_tl F_h (fj_X2_checkOverride_82 nn) (fun _ _ z => z)
        · refine fm_rd ?_; intro v36
          refine fm_rd ?_; intro v38
          refine fm_if ?_ ?_
          · exact fm_tl F_h (fj_X2_checkOverride_82 nn) (fun _ _ z => z)
          · exact fm_tl F_h (fw_X2_checkOverride_87 nn _) (fun _ _ z => z)
  · exact fm_ret F_h
set_option maxRecDepth 4000 in
theorem fw_X2_checkOverrides_2 (nn : Nat) : ∀ (k : Nat) {l1 : Int} {h : ms_M}, Fm_ (fun c k => nw_F wl_X2_checkOverrides wf_X2_checkOverrides false false c k = true) h (qw_X2_checkOverrides_2 nn k l1 h) (fun r => r) := by
  intro k
  induction k with
  | zero => intros; exact fm_no
  | succ k ih =>
    intro l1 h
    unfold qw_X2_checkOverrides_2
    have F_h : ∀ c k : Nat, (fun c k => nw_F wl_X2_checkOverrides wf_X2_checkOverrides false false c k = true) c k → h c k = h c k := fun _ _ _ => rfl
    refine fm_if ?_ ?_
    · exact fm_ret F_h
    · refine fm_if ?_ ?_
      · exact fm_ret F_h
      · refine fm_pu ?_; intro u6
        refine fm_if ?_ ?_
        · refine fm_xl ?_; intro v7
          exact fm_tl F_h (ih ) (fun _ _ z => z)
        · refine fm_ca F_h (ff_X2_checkOverride nn) (nw_sub rfl) ?_; intro u9 F_u9
          refine fm_xl ?_; intro v10
          exact fm_tl F_u9 (ih ) (fun _ _ z => z)
set_option maxRecDepth 4000 in
theorem ff_X2_checkOverrides (nn : Nat) {h : ms_M} : Fm_ (fun c k => nw_F wl_X2_checkOverrides wf_X2_checkOverrides false false c k = true) h (qf_X2_checkOverrides nn h) (fun r => r) := by
  unfold qf_X2_checkOverrides
  have F_h : ∀ c k : Nat, (fun c k => nw_F wl_X2_checkOverrides wf_X2_checkOverrides false false c k = true) c k → h c k = h c k := fun _ _ _ => rfl
  exact fm_tl F_h (fw_X2_checkOverrides_2 nn _) (fun _ _ z => z)
set_option maxRecDepth 4000 in
theorem ff_X2_forget (nn : Nat) {h : ms_M} : Fm_ (fun c k => nw_F wl_X2_forget wf_X2_forget false false c k = true) h (qf_X2_forget nn h) (fun r => r) := by
  unfold qf_X2_forget
  have F_h : ∀ c k : Nat, (fun c k => nw_F wl_X2_forget wf_X2_forget false false c k = true) c k → h c k = h c k := fun _ _ _ => rfl
  refine fm_up F_h (nw_nf rfl) ?_; intro h1 F_h1
  refine fm_ca F_h1 (ff_J7_fill_53178 nn) (nw_ne rfl) ?_; intro u3 F_u3
  refine fm_ca F_u3 (ff_J7_fill_53178 nn) (nw_ne rfl) ?_; intro u5 F_u5
  refine fm_ca F_u5 (ff_X4_forget nn rfl) (fun c k z => ⟨nw_ne rfl c k z, nw_ne rfl c k z⟩) ?_; intro u8 F_u8
  exact fm_ret F_u8
set_option maxRecDepth 4000 in
theorem ff_X2_addKindByte (nn : Nat) {a1 : Int} {h : ms_M} : Fm_ (fun c k => nw_F wl_X2_addKindByte wf_X2_addKindByte false false c k = true) h (qf_X2_addKindByte nn a1 h) (fun r => r) := by
  unfold qf_X2_addKindByte
  have F_h : ∀ c k : Nat, (fun c k => nw_F wl_X2_addKindByte wf_X2_addKindByte false false c k = true) c k → h c k = h c k := fun _ _ _ => rfl
  refine fm_if ?_ ?_
  · exact fm_ret F_h
  · refine fm_xl ?_; intro v6
    refine fm_wB F_h (nw_ne rfl) ?_; intro h7 F_h7
    refine fm_xl ?_; intro v9
    refine fm_up F_h7 (nw_nf rfl) ?_; intro h10 F_h10
    exact fm_ret F_h10
set_option maxRecDepth 4000 in
theorem fj_X2_addKind_20 (nn : Nat) {l2 : Int} {h : ms_M} : Fm_ (fun c k => nw_F wl_X2_addKind wf_X2_addKind false true c k = true) h (qj_X2_addKind_20 nn l2 h) (fun r => r) := by
  unfold qj_X2_addKind_20
  have F_h : ∀ c k : Nat, (fun c k => nw_F wl_X2_addKind wf_X2_addKind false true c k = true) c k → h c k = h c k := fun _ _ _ => rfl
  refine fm_pu ?_; intro u1
  refine fm_if ?_ ?_
  · refine fm_ca F_h (ff_X2_addKindByte nn) (nw_sub rfl) ?_; intro u3 F_u3
    refine fm_rd ?_; intro v5
    refine fm_ca F_u3 (ff_X9_copyName nn) (nw_sub rfl) ?_; intro u10 F_u10
    refine fm_pu ?_; intro u14
    refine fm_xl ?_; intro v15
    refine fm_xl ?_; intro v18
    refine fm_up F_u10 (nw_nf rfl) ?_; intro h19 F_h19
    refine fm_ca F_h19 (ff_X2_addKindByte nn) (nw_sub rfl) ?_; intro u21 F_u21
    exact fm_ret F_u21
  · refine fm_if ?_ ?_
    · refine fm_if ?_ ?_
      · refine fm_ca F_h (ff_X2_addKindByte nn) (nw_sub rfl) ?_; intro u23 F_u23
        exact fm_ret F_u23
      · refine fm_ca F_h (ff_X2_addKindByte nn) (nw_sub rfl) ?_; intro u25 F_u25
        exact fm_ret F_u25
    · refine fm_ca F_h (ff_X2_addKindByte nn) (nw_sub rfl) ?_; intro u28 F_u28
      exact fm_ret F_u28
set_option maxRecDepth 4000 in
theorem ff_X2_addKind (nn : Nat) {a1 : Int} {h : ms_M} : Fm_ (fun c k => nw_F wl_X2_addKind wf_X2_addKind false true c k = true) h (qf_X2_addKind nn a1 h) (fun r => r) := by
  unfold qf_X2_addKind
  have F_h : ∀ c k : Nat, (fun c k => nw_F wl_X2_addKind wf_X2_addKind false true c k = true) c k → h c k = h c k := fun _ _ _ => rfl
  refine fm_pu ?_; intro u31
  refine fm_if ?_ ?_
  · exact fm_tl F_h (fj_X2_addKind_20 nn) (fun _ _ z => z)
  · refine fm_ca F_h (ff_X2_addKindByte nn) (nw_sub rfl) ?_; intro u33 F_u33
    refine fm_pu ?_; intro u34
    exact fm_tl F_u33 (fj_X2_addKind_20 nn) (fun _ _ z => z)
set_option maxRecDepth 4000 in
theorem ff_X9_closeName (nn : Nat) {a1 : Int} {h : ms_M} : Fm_ (fun c k => nw_F wl_X9_closeName wf_X9_closeName false false c k = true) h (qf_X9_closeName nn a1 h) (fun r => r) := by
  unfold qf_X9_closeName
  have F_h : ∀ c k : Nat, (fun c k => nw_F wl_X9_closeName wf_X9_closeName false false c k = true) c k → h c k = h c k := fun _ _ _ => rfl
  refine fm_rd ?_; intro v3
  refine fm_xl ?_; intro v5
  refine fm_pu ?_; intro u6
  refine fm_rd ?_; intro v10
  refine fm_wA F_h (nw_ne rfl) ?_; intro h11 F_h11
  refine fm_wA F_h11 (nw_ne rfl) ?_; intro h14 F_h14
  refine fm_xl ?_; intro v16
  refine fm_up F_h14 (nw_nf rfl) ?_; intro h17 F_h17
  refine fm_wA F_h17 (nw_ne rfl) ?_; intro h20 F_h20
  exact fm_ret F_h20
set_option maxRecDepth 4000 in
theorem fj_X9_nameOf_79 (nn : Nat) {l1 : Nat} {l2 : Int} {l3 : Int} {h : ms_M} : Fm_ (fun c k => nw_F wl_X9_nameOf wf_X9_nameOf false false c k = true) h (qj_X9_nameOf_79 nn l1 l2 l3 h) (fun r => r.2) := by
  unfold qj_X9_nameOf_79
  have F_h : ∀ c k : Nat, (fun c k => nw_F wl_X9_nameOf wf_X9_nameOf false false c k = true) c k → h c k = h c k := fun _ _ _ => rfl
  refine fm_rd ?_; intro v3
  refine fm_if ?_ ?_
  · exact fm_ret F_h
  · refine fm_xl ?_; intro v5
    refine fm_if ?_ ?_
    · refine fm_cp F_h (fun _ => nw_ne rfl) ?_; intro h9 F_h9
      refine fm_xl ?_; intro v10
      refine fm_ca F_h9 (ff_X9_closeName nn) (nw_sub rfl) ?_; intro u12 F_u12
      refine fm_xl ?_; intro v14
      exact fm_ret F_u12
    · exact fm_ret F_h
set_option maxRecDepth 4000 in
theorem fw_X9_nameOf_35 (nn : Nat) : ∀ (k : Nat) {l1 : Nat} {l2 : Int} {l3 : Int} {l4 : Int} {l5 : Int} {h : ms_M}, Fm_ (fun c k => nw_F wl_X9_nameOf wf_X9_nameOf false false c k = true) h (qw_X9_nameOf_35 nn k l1 l2 l3 l4 l5 h) (fun r => r.2) := by
  intro k
  induction k with
  | zero => intros; exact fm_no
  | succ k ih =>
    intro l1 l2 l3 l4 l5 h
    unfold qw_X9_nameOf_35
    have F_h : ∀ c k : Nat, (fun c k => nw_F wl_X9_nameOf wf_X9_nameOf false false c k = true) c k → h c k = h c k := fun _ _ _ => rfl
    refine fm_if ?_ ?_
    · exact fm_tl F_h (fj_X9_nameOf_79 nn) (fun _ _ z => z)
    · refine fm_if ?_ ?_
      · exact fm_tl F_h (fj_X9_nameOf_79 nn) (fun _ _ z => z)
      · refine fm_pu ?_; intro u18
        refine fm_if ?_ ?_
        · refine fm_rd ?_; intro v20
          refine fm_xl ?_; intro v21
          exact fm_tl F_h (ih ) (fun _ _ z => z)
        · exact fm_ret F_h
set_option maxRecDepth 4000 in
theorem ff_X9_nameOf (nn : Nat) {a1 : Nat} {a2 : Int} {a3 : Int} {h : ms_M} : Fm_ (fun c k => nw_F wl_X9_nameOf wf_X9_nameOf false false c k = true) h (qf_X9_nameOf nn a1 a2 a3 h) (fun r => r.2) := by
  unfold qf_X9_nameOf
  have F_h : ∀ c k : Nat, (fun c k => nw_F wl_X9_nameOf wf_X9_nameOf false false c k = true) c k → h c k = h c k := fun _ _ _ => rfl
  refine fm_if ?_ ?_
  · exact fm_ret F_h
  · refine fm_if ?_ ?_
    · exact fm_ret F_h
    · refine fm_xl ?_; intro v25
      refine fm_lnS ?_; intro v26
      refine fm_if ?_ ?_
      · refine fm_pu ?_; intro u28
        refine fm_rd ?_; intro v29
        exact fm_tl F_h (fw_X9_nameOf_35 nn _) (fun _ _ z => z)
      · exact fm_ret F_h
set_option maxRecDepth 4000 in
theorem ff_X2_nameKind (nn : Nat) {a1 : Int} {h : ms_M} : Fm_ (fun c k => nw_F wl_X2_nameKind wf_X2_nameKind false true c k = true) h (qf_X2_nameKind nn a1 h) (fun r => r.2) := by
  unfold qf_X2_nameKind
  have F_h : ∀ c k : Nat, (fun c k => nw_F wl_X2_nameKind wf_X2_nameKind false true c k = true) c k → h c k = h c k := fun _ _ _ => rfl
  refine fm_up F_h (nw_nf rfl) ?_; intro h1 F_h1
  refine fm_ca F_h1 (ff_X2_addKind nn) (nw_sub rfl) ?_; intro u3 F_u3
  refine fm_ca F_u3 (ff_X9_nameOf nn) (nw_sub rfl) ?_; intro u8 F_u8
  exact fm_ret F_u8
set_option maxRecDepth 4000 in
theorem fw_X2_nameMethodKind_13 (nn : Nat) : ∀ (k : Nat) {l1 : Int} {l2 : Int} {h : ms_M}, Fm_ (fun c k => nw_F wl_X2_nameMethodKind wf_X2_nameMethodKind false true c k = true) h (qw_X2_nameMethodKind_13 nn k l1 l2 h) (fun r => r.2) := by
  intro k
  induction k with
  | zero => intros; exact fm_no
  | succ k ih =>
    intro l1 l2 h
    unfold qw_X2_nameMethodKind_13
    have F_h : ∀ c k : Nat, (fun c k => nw_F wl_X2_nameMethodKind wf_X2_nameMethodKind false true c k = true) c k → h c k = h c k := fun _ _ _ => rfl
    refine fm_rd ?_; intro v2
    refine fm_if ?_ ?_
    · refine fm_ca F_h (ff_X2_addKindByte nn) (nw_sub rfl) ?_; intro u4 F_u4
      refine fm_rd ?_; intro v6
      refine fm_ca F_u4 (ff_X2_addKind nn) (nw_sub rfl) ?_; intro u8 F_u8
      refine fm_ca F_u8 (ff_X9_nameOf nn) (nw_sub rfl) ?_; intro u13 F_u13
      exact fm_ret F_u13
    · refine fm_pu ?_; intro u15
      refine fm_ca F_h (ff_X2_addKind nn) (nw_sub rfl) ?_; intro u17 F_u17
      refine fm_xl ?_; intro v18
      exact fm_tl F_u17 (ih ) (fun _ _ z => z)
set_option maxRecDepth 4000 in
theorem ff_X2_nameMethodKind (nn : Nat) {a1 : Int} {h : ms_M} : Fm_ (fun c k => nw_F wl_X2_nameMethodKind wf_X2_nameMethodKind false true c k = true) h (qf_X2_nameMethodKind nn a1 h) (fun r => r.2) := by
  unfold qf_X2_nameMethodKind
  have F_h : ∀ c k : Nat, (fun c k => nw_F wl_X2_nameMethodKind wf_X2_nameMethodKind false true c k = true) c k → h c k = h c k := fun _ _ _ => rfl
  refine fm_up F_h (nw_nf rfl) ?_; intro h20 F_h20
  refine fm_ca F_h20 (ff_X2_addKindByte nn) (nw_sub rfl) ?_; intro u22 F_u22
  exact fm_tl F_u22 (fw_X2_nameMethodKind_13 nn _) (fun _ _ z => z)
set_option maxRecDepth 4000 in
theorem fw_X2_nameKinds_144 (nn : Nat) : ∀ (k : Nat) {l1 : Int} {h : ms_M}, Fm_ (fun c k => nw_F wl_X2_nameKinds wf_X2_nameKinds false true c k = true) h (qw_X2_nameKinds_144 nn k l1 h) (fun r => r) := by
  intro k
  induction k with
  | zero => intros; exact fm_no
  | succ k ih =>
    intro l1 h
    unfold qw_X2_nameKinds_144
    have F_h : ∀ c k : Nat, (fun c k => nw_F wl_X2_nameKinds wf_X2_nameKinds false true c k = true) c k → h c k = h c k := fun _ _ _ => rfl
    refine fm_if ?_ ?_
    · exact fm_ret F_h
    · refine fm_if ?_ ?_
      · exact fm_ret F_h
      · refine fm_pu ?_; intro u6
        refine fm_if ?_ ?_
        · refine fm_xl ?_; intro v7
          exact fm_tl F_h (ih ) (fun _ _ z => z)
        · refine fm_ca F_h (ff_X2_nameMethodKind nn) (nw_sub rfl) ?_; intro u10 F_u10
          refine fm_wA F_u10 (nw_ne rfl) ?_; intro h11 F_h11
          refine fm_xl ?_; intro v12
          exact fm_tl F_h11 (ih ) (fun _ _ z => z)
set_option maxRecDepth 4000 in
theorem fw_X2_nameKinds_85 (nn : Nat) : ∀ (k : Nat) {l1 : Int} {h : ms_M}, Fm_ (fun c k => nw_F wl_X2_nameKinds wf_X2_nameKinds false true c k = true) h (qw_X2_nameKinds_85 nn k l1 h) (fun r => r) := by
  intro k
  induction k with
  | zero => intros; exact fm_no
  | succ k ih =>
    intro l1 h
    unfold qw_X2_nameKinds_85
    have F_h : ∀ c k : Nat, (fun c k => nw_F wl_X2_nameKinds wf_X2_nameKinds false true c k = true) c k → h c k = h c k := fun _ _ _ => rfl
    refine fm_if ?_ ?_
    · exact fm_tl F_h (fw_X2_nameKinds_144 nn _) (fun _ _ z => z)
    · refine fm_if ?_ ?_
      · exact fm_tl F_h (fw_X2_nameKinds_144 nn _) (fun _ _ z => z)
      · refine fm_xl ?_; intro v20
        refine fm_xl ?_; intro v22
        refine fm_rd ?_; intro v23
        refine fm_if ?_ ?_
        · refine fm_xl ?_; intro v24
          exact fm_tl F_h (ih ) (fun _ _ z => z)
        · refine fm_rd ?_; intro v27
          refine fm_ca F_h (ff_X2_nameKind nn) (nw_sub rfl) ?_; intro u29 F_u29
          refine fm_wA F_u29 (nw_ne rfl) ?_; intro h30 F_h30
          refine fm_xl ?_; intro v31
          exact fm_tl F_h30 (ih ) (fun _ _ z => z)
set_option maxRecDepth 4000 in
theorem fj_X2_nameKinds_59 (nn : Nat) {qkk_2 : Int → ms_M → Option ms_M} (hk_kk_2 : ∀ {l1 : Int} {h : ms_M}, Fm_ (fun c k => nw_F wl_X2_nameKinds wf_X2_nameKinds false true c k = true) h (qkk_2 l1 h) (fun r => r)) {l1 : Int} {s0 : Int} {s1 : Int} {h : ms_M} : Fm_ (fun c k => nw_F wl_X2_nameKinds wf_X2_nameKinds false true c k = true) h (qj_X2_nameKinds_59 nn qkk_2 l1 s0 s1 h) (fun r => r) := by
  unfold qj_X2_nameKinds_59
  have F_h : ∀ c k : Nat, (fun c k => nw_F wl_X2_nameKinds wf_X2_nameKinds false true c k = true) c k → h c k = h c k := fun _ _ _ => rfl
  refine fm_wA F_h (nw_ne rfl) ?_; intro h35 F_h35
  refine fm_xl ?_; intro v37
  refine fm_xl ?_; intro v38
  refine fm_ca F_h35 (ff_X2_nameKind nn) (nw_sub rfl) ?_; intro u40 F_u40
  refine fm_wA F_u40 (nw_ne rfl) ?_; intro h41 F_h41
  refine fm_xl ?_; intro v42
  exact fm_tl F_h41 (hk_kk_2) (fun _ _ z => z)
set_option maxRecDepth 4000 in
theorem fw_X2_nameKinds_2 (nn : Nat) : ∀ (k : Nat) {l1 : Int} {h : ms_M}, Fm_ (fun c k => nw_F wl_X2_nameKinds wf_X2_nameKinds false true c k = true) h (qw_X2_nameKinds_2 nn k l1 h) (fun r => r) := by
  intro k
  induction k with
  | zero => intros; exact fm_no
  | succ k ih =>
    intro l1 h
    unfold qw_X2_nameKinds_2
    have F_h : ∀ c k : Nat, (fun c k => nw_F wl_X2_nameKinds wf_X2_nameKinds false true c k = true) c k → h c k = h c k := fun _ _ _ => rfl
    refine fm_xl ?_; intro v44
    refine fm_if ?_ ?_
    · exact fm_tl F_h (fw_X2_nameKinds_85 nn _) (fun _ _ z => z)
    · refine fm_if ?_ ?_
      · exact fm_tl F_h (fw_X2_nameKinds_85 nn _) (fun _ _ z => z)
      · refine fm_if ?_ ?_
        · exact fm_tl F_h (fw_X2_nameKinds_85 nn _) (fun _ _ z => z)
        · refine fm_if ?_ ?_
          · refine fm_xl ?_; intro v49
            refine fm_pu ?_; intro u51
            refine fm_pu ?_; intro u53
            exact fm_tl F_h (fj_X2_nameKinds_59 nn ih) (fun _ _ z => z)
          · exact fm_tl F_h (fj_X2_nameKinds_59 nn ih) (fun _ _ z => z)
set_option maxRecDepth 4000 in
theorem ff_X2_nameKinds (nn : Nat) {h : ms_M} : Fm_ (fun c k => nw_F wl_X2_nameKinds wf_X2_nameKinds false true c k = true) h (qf_X2_nameKinds nn h) (fun r => r) := by
  unfold qf_X2_nameKinds
  have F_h : ∀ c k : Nat, (fun c k => nw_F wl_X2_nameKinds wf_X2_nameKinds false true c k = true) c k → h c k = h c k := fun _ _ _ => rfl
  exact fm_tl F_h (fw_X2_nameKinds_2 nn _) (fun _ _ z => z)
set_option maxRecDepth 4000 in
theorem fj_X2_checkClassHead_64 (nn : Nat) {l1 : Int} {l2 : Int} {h : ms_M} : Fm_ (fun c k => nw_F wl_X2_checkClassHead wf_X2_checkClassHead false false c k = true) h (qj_X2_checkClassHead_64 nn l1 l2 h) (fun r => r) := by
  unfold qj_X2_checkClassHead_64
  have F_h : ∀ c k : Nat, (fun c k => nw_F wl_X2_checkClassHead wf_X2_checkClassHead false false c k = true) c k → h c k = h c k := fun _ _ _ => rfl
  refine fm_pu ?_; intro u2
  refine fm_if ?_ ?_
  · exact fm_ret F_h
  · refine fm_xl ?_; intro v4
    refine fm_ca F_h (ff_X9_tell nn) (nw_sub rfl) ?_; intro u6 F_u6
    exact fm_ret F_u6
set_option maxRecDepth 4000 in
theorem fj_X2_checkClassHead_44 (nn : Nat) {l1 : Int} {l2 : Int} {h : ms_M} : Fm_ (fun c k => nw_F wl_X2_checkClassHead wf_X2_checkClassHead false false c k = true) h (qj_X2_checkClassHead_44 nn l1 l2 h) (fun r => r) := by
  unfold qj_X2_checkClassHead_44
  have F_h : ∀ c k : Nat, (fun c k => nw_F wl_X2_checkClassHead wf_X2_checkClassHead false false c k = true) c k → h c k = h c k := fun _ _ _ => rfl
  refine fm_pu ?_; intro u9
  refine fm_if ?_ ?_
  · exact fm_tl F_h (fj_X2_checkClassHead_64 nn) (fun _ _ z => z)
  · refine fm_xl ?_; intro v11
    refine fm_ca F_h (ff_X9_tell nn) (nw_sub rfl) ?_; intro u13 F_u13
    exact fm_tl F_u13 (fj_X2_checkClassHead_64 nn) (fun _ _ z => z)
set_option maxRecDepth 4000 in
theorem fj_X2_checkClassHead_23 (nn : Nat) {l1 : Int} {l2 : Int} {h : ms_M} : Fm_ (fun c k => nw_F wl_X2_checkClassHead wf_X2_checkClassHead false false c k = true) h (qj_X2_checkClassHead_23 nn l1 l2 h) (fun r => r) := by
  unfold qj_X2_checkClassHead_23
  have F_h : ∀ c k : Nat, (fun c k => nw_F wl_X2_checkClassHead wf_X2_checkClassHead false false c k = true) c k → h c k = h c k := fun _ _ _ => rfl
  refine fm_pu ?_; intro u16
  refine fm_xl ?_; intro v17
  refine fm_if ?_ ?_
  · exact fm_tl F_h (fj_X2_checkClassHead_44 nn) (fun _ _ z => z)
  · refine fm_ca F_h (ff_X9_tell nn) (nw_sub rfl) ?_; intro u20 F_u20
    exact fm_tl F_u20 (fj_X2_checkClassHead_44 nn) (fun _ _ z => z)
set_option maxRecDepth 4000 in
theorem ff_X2_checkClassHead (nn : Nat) {a1 : Int} {h : ms_M} : Fm_ (fun c k => nw_F wl_X2_checkClassHead wf_X2_checkClassHead false false c k = true) h (qf_X2_checkClassHead nn a1 h) (fun r => r) := by
  unfold qf_X2_checkClassHead
  have F_h : ∀ c k : Nat, (fun c k => nw_F wl_X2_checkClassHead wf_X2_checkClassHead false false c k = true) c k → h c k = h c k := fun _ _ _ => rfl
  refine fm_rd ?_; intro v23
  refine fm_if ?_ ?_
  · exact fm_tl F_h (fj_X2_checkClassHead_23 nn) (fun _ _ z => z)
  · refine fm_ca F_h (ff_X9_tell nn) (nw_sub rfl) ?_; intro u26 F_u26
    exact fm_tl F_u26 (fj_X2_checkClassHead_23 nn) (fun _ _ z => z)
set_option maxRecDepth 4000 in
theorem fw_X2_nameClasses_47 (nn : Nat) : ∀ (k : Nat) {l1 : Int} {h : ms_M}, Fm_ (fun c k => nw_F wl_X2_nameClasses wf_X2_nameClasses false false c k = true) h (qw_X2_nameClasses_47 nn k l1 h) (fun r => r) := by
  intro k
  induction k with
  | zero => intros; exact fm_no
  | succ k ih =>
    intro l1 h
    unfold qw_X2_nameClasses_47
    have F_h : ∀ c k : Nat, (fun c k => nw_F wl_X2_nameClasses wf_X2_nameClasses false false c k = true) c k → h c k = h c k := fun _ _ _ => rfl
    refine fm_if ?_ ?_
    · exact fm_ret F_h
    · refine fm_rd ?_; intro v4
      refine fm_pu ?_; intro u6
      refine fm_if ?_ ?_
      · refine fm_xl ?_; intro v9
        exact fm_tl F_h (ih ) (fun _ _ z => z)
      · refine fm_rd ?_; intro v11
        refine fm_if ?_ ?_
        · refine fm_xl ?_; intro v12
          exact fm_tl F_h (ih ) (fun _ _ z => z)
        · refine fm_xl ?_; intro v14
          refine fm_wA F_h (nw_ne rfl) ?_; intro h15 F_h15
          refine fm_xl ?_; intro v16
          exact fm_tl F_h15 (ih ) (fun _ _ z => z)
set_option maxRecDepth 4000 in
theorem fw_X2_nameClasses_2 (nn : Nat) : ∀ (k : Nat) {l1 : Int} {h : ms_M}, Fm_ (fun c k => nw_F wl_X2_nameClasses wf_X2_nameClasses false false c k = true) h (qw_X2_nameClasses_2 nn k l1 h) (fun r => r) := by
  intro k
  induction k with
  | zero => intros; exact fm_no
  | succ k ih =>
    intro l1 h
    unfold qw_X2_nameClasses_2
    have F_h : ∀ c k : Nat, (fun c k => nw_F wl_X2_nameClasses wf_X2_nameClasses false false c k = true) c k → h c k = h c k := fun _ _ _ => rfl
    refine fm_if ?_ ?_
    · exact fm_tl F_h (fw_X2_nameClasses_47 nn _) (fun _ _ z => z)
    · refine fm_if ?_ ?_
      · exact fm_tl F_h (fw_X2_nameClasses_47 nn _) (fun _ _ z => z)
      · refine fm_if ?_ ?_
        · refine fm_wA F_h (nw_ne rfl) ?_; intro h25 F_h25
          refine fm_xl ?_; intro v26
          exact fm_tl F_h25 (ih ) (fun _ _ z => z)
        · refine fm_wA F_h (nw_ne rfl) ?_; intro h27 F_h27
          refine fm_xl ?_; intro v28
          exact fm_tl F_h27 (ih ) (fun _ _ z => z)
set_option maxRecDepth 4000 in
theorem ff_X2_nameClasses (nn : Nat) {h : ms_M} : Fm_ (fun c k => nw_F wl_X2_nameClasses wf_X2_nameClasses false false c k = true) h (qf_X2_nameClasses nn h) (fun r => r) := by
  unfold qf_X2_nameClasses
  have F_h : ∀ c k : Nat, (fun c k => nw_F wl_X2_nameClasses wf_X2_nameClasses false false c k = true) c k → h c k = h c k := fun _ _ _ => rfl
  exact fm_tl F_h (fw_X2_nameClasses_2 nn _) (fun _ _ z => z)
set_option maxRecDepth 4000 in
theorem ff_X4_setAbove (nn : Nat) {a0 : Nat} {a1 : Int} {a2 : Int} {h : ms_M} (hb_a0 : kc_O a0 = 4) : Fm_ (fun c (_ : Nat) => c ≠ a0 + 1 ∧ c ≠ a0 + 2) h (qf_X4_setAbove nn a0 a1 a2 h) (fun r => r) := by
  unfold qf_X4_setAbove
  have F_h : ∀ c k : Nat, (fun c (_ : Nat) => c ≠ a0 + 1 ∧ c ≠ a0 + 2) c k → h c k = h c k := fun _ _ _ => rfl
  refine fm_pu ?_; intro u1
  refine fm_if ?_ ?_
  · exact fm_ret F_h
  · refine fm_wA F_h (fun _ _ z => z.1) ?_; intro h3 F_h3
    exact fm_ret F_h3
set_option maxRecDepth 4000 in
theorem fj_X2_readClasses_88 (nn : Nat) {h : ms_M} : Fm_ (fun c k => nw_F wl_X2_readClasses wf_X2_readClasses false false c k = true) h (qj_X2_readClasses_88 nn h) (fun r => r) := by
  unfold qj_X2_readClasses_88
  have F_h : ∀ c k : Nat, (fun c k => nw_F wl_X2_readClasses wf_X2_readClasses false false c k = true) c k → h c k = h c k := fun _ _ _ => rfl
  refine fm_ca F_h (ff_X4_settle nn rfl) (fun c k z => ⟨nw_ne rfl c k z, nw_ne rfl c k z⟩) ?_; intro u3 F_u3
  exact fm_ret F_u3
set_option maxRecDepth 4000 in
theorem fw_X2_readClasses_48 (nn : Nat) : ∀ (k : Nat) {l1 : Int} {h : ms_M}, Fm_ (fun c k => nw_F wl_X2_readClasses wf_X2_readClasses false false c k = true) h (qw_X2_readClasses_48 nn k l1 h) (fun r => r) := by
  intro k
  induction k with
  | zero => intros; exact fm_no
  | succ k ih =>
    intro l1 h
    unfold qw_X2_readClasses_48
    have F_h : ∀ c k : Nat, (fun c k => nw_F wl_X2_readClasses wf_X2_readClasses false false c k = true) c k → h c k = h c k := fun _ _ _ => rfl
    refine fm_if ?_ ?_
    · exact fm_tl F_h (fj_X2_readClasses_88 nn) (fun _ _ z => z)
    · refine fm_if ?_ ?_
      · exact fm_tl F_h (fj_X2_readClasses_88 nn) (fun _ _ z => z)
      · refine fm_xl ?_; intro v8
        refine fm_pu ?_; intro u10
        refine fm_ca F_h (ff_X4_setAbove nn rfl) (fun c k z => ⟨nw_ne rfl c k z, nw_ne rfl c k z⟩) ?_; intro u12 F_u12
        refine fm_xl ?_; intro v13
        exact fm_tl F_u12 (ih ) (fun _ _ z => z)
set_option maxRecDepth 4000 in
theorem fw_X2_readClasses_17 (nn : Nat) : ∀ (k : Nat) {l1 : Int} {h : ms_M}, Fm_ (fun c k => nw_F wl_X2_readClasses wf_X2_readClasses false false c k = true) h (qw_X2_readClasses_17 nn k l1 h) (fun r => r) := by
  intro k
  induction k with
  | zero => intros; exact fm_no
  | succ k ih =>
    intro l1 h
    unfold qw_X2_readClasses_17
    have F_h : ∀ c k : Nat, (fun c k => nw_F wl_X2_readClasses wf_X2_readClasses false false c k = true) c k → h c k = h c k := fun _ _ _ => rfl
    refine fm_if ?_ ?_
    · exact fm_tl F_h (fw_X2_readClasses_48 nn _) (fun _ _ z => z)
    · refine fm_if ?_ ?_
      · exact fm_tl F_h (fw_X2_readClasses_48 nn _) (fun _ _ z => z)
      · refine fm_ca F_h (ff_X2_checkClassHead nn) (nw_sub rfl) ?_; intro u20 F_u20
        refine fm_xl ?_; intro v21
        exact fm_tl F_u20 (ih ) (fun _ _ z => z)
set_option maxRecDepth 4000 in
theorem ff_X2_readClasses (nn : Nat) {h : ms_M} : Fm_ (fun c k => nw_F wl_X2_readClasses wf_X2_readClasses false false c k = true) h (qf_X2_readClasses nn h) (fun r => r) := by
  unfold qf_X2_readClasses
  have F_h : ∀ c k : Nat, (fun c k => nw_F wl_X2_readClasses wf_X2_readClasses false false c k = true) c k → h c k = h c k := fun _ _ _ => rfl
  refine fm_if ?_ ?_
  · refine fm_ca F_h (ff_X2_nameClasses nn) (nw_sub rfl) ?_; intro u27 F_u27
    exact fm_tl F_u27 (fw_X2_readClasses_17 nn _) (fun _ _ z => z)
  · exact fm_ret F_h
set_option maxRecDepth 4000 in
theorem fj_X2_addField_52 (nn : Nat) {l1 : Int} {l3 : Int} {l4 : Int} {h : ms_M} : Fm_ (fun c k => nw_F wl_X2_addField wf_X2_addField false false c k = true) h (qj_X2_addField_52 nn l1 l3 l4 h) (fun r => r) := by
  unfold qj_X2_addField_52
  have F_h : ∀ c k : Nat, (fun c k => nw_F wl_X2_addField wf_X2_addField false false c k = true) c k → h c k = h c k := fun _ _ _ => rfl
  refine fm_xl ?_; intro v1
  refine fm_rd ?_; intro v3
  refine fm_xl ?_; intro v4
  refine fm_wA F_h (nw_ne rfl) ?_; intro h6 F_h6
  refine fm_wA F_h6 (nw_ne rfl) ?_; intro h8 F_h8
  refine fm_rd ?_; intro v10
  refine fm_xl ?_; intro v11
  refine fm_wA F_h8 (nw_ne rfl) ?_; intro h12 F_h12
  exact fm_ret F_h12
set_option maxRecDepth 4000 in
theorem ff_X2_addField (nn : Nat) {a1 : Int} {a2 : Int} {a3 : Int} {h : ms_M} : Fm_ (fun c k => nw_F wl_X2_addField wf_X2_addField false false c k = true) h (qf_X2_addField nn a1 a2 a3 h) (fun r => r) := by
  unfold qf_X2_addField
  have F_h : ∀ c k : Nat, (fun c k => nw_F wl_X2_addField wf_X2_addField false false c k = true) c k → h c k = h c k := fun _ _ _ => rfl
  refine fm_rd ?_; intro v14
  refine fm_if ?_ ?_
  · refine fm_pu ?_; intro u17
    refine fm_pu ?_; intro u19
    refine fm_if ?_ ?_
    · exact fm_tl F_h (fj_X2_addField_52 nn) (fun _ _ z => z)
    · refine fm_ca F_h (ff_X9_tell nn) (nw_sub rfl) ?_; intro u22 F_u22
      exact fm_tl F_u22 (fj_X2_addField_52 nn) (fun _ _ z => z)
  · refine fm_ca F_h (ff_X9_tell nn) (nw_sub rfl) ?_; intro u26 F_u26
    exact fm_ret F_u26
set_option maxRecDepth 4000 in
theorem fw_X2_addParameter_54 (nn : Nat) : ∀ (k : Nat) {l1 : Int} {l2 : Int} {l3 : Int} {l4 : Int} {l5 : Int} {l6 : Int} {h : ms_M}, Fm_ (fun c k => nw_F wl_X2_addParameter wf_X2_addParameter false false c k = true) h (qw_X2_addParameter_54 nn k l1 l2 l3 l4 l5 l6 h) (fun r => r) := by
  intro k
  induction k with
  | zero => intros; exact fm_no
  | succ k ih =>
    intro l1 l2 l3 l4 l5 l6 h
    unfold qw_X2_addParameter_54
    have F_h : ∀ c k : Nat, (fun c k => nw_F wl_X2_addParameter wf_X2_addParameter false false c k = true) c k → h c k = h c k := fun _ _ _ => rfl
    refine fm_rd ?_; intro v2
    refine fm_if ?_ ?_
    · refine fm_rd ?_; intro v5
      refine fm_xl ?_; intro v6
      refine fm_wA F_h (nw_ne rfl) ?_; intro h7 F_h7
      refine fm_rd ?_; intro v10
      refine fm_xl ?_; intro v11
      refine fm_wA F_h7 (nw_ne rfl) ?_; intro h12 F_h12
      refine fm_rd ?_; intro v14
      refine fm_xl ?_; intro v15
      refine fm_wA F_h12 (nw_ne rfl) ?_; intro h16 F_h16
      refine fm_xl ?_; intro v19
      refine fm_up F_h16 (nw_nf rfl) ?_; intro h20 F_h20
      refine fm_pu ?_; intro u23
      refine fm_if ?_ ?_
      · exact fm_ret F_h20
      · refine fm_xl ?_; intro v26
        refine fm_up F_h20 (nw_nf rfl) ?_; intro h27 F_h27
        exact fm_ret F_h27
    · refine fm_xl ?_; intro v30
      refine fm_rd ?_; intro v31
      refine fm_if ?_ ?_
      · refine fm_xl ?_; intro v32
        exact fm_tl F_h (ih ) (fun _ _ z => z)
      · refine fm_ca F_h (ff_X9_tell nn) (nw_sub rfl) ?_; intro u35 F_u35
        refine fm_xl ?_; intro v36
        exact fm_tl F_u35 (ih ) (fun _ _ z => z)
set_option maxRecDepth 4000 in
theorem ff_X2_addParameter (nn : Nat) {a1 : Int} {h : ms_M} : Fm_ (fun c k => nw_F wl_X2_addParameter wf_X2_addParameter false false c k = true) h (qf_X2_addParameter nn a1 h) (fun r => r) := by
  unfold qf_X2_addParameter
  have F_h : ∀ c k : Nat, (fun c k => nw_F wl_X2_addParameter wf_X2_addParameter false false c k = true) c k → h c k = h c k := fun _ _ _ => rfl
  refine fm_ca F_h (ff_X2_readType nn) (nw_sub rfl) ?_; intro u40 F_u40
  refine fm_pu ?_; intro u45
  refine fm_xl ?_; intro v46
  refine fm_rd ?_; intro v48
  refine fm_if ?_ ?_
  · exact fm_tl F_u40 (fw_X2_addParameter_54 nn _) (fun _ _ z => z)
  · refine fm_ca F_u40 (ff_X9_tell nn) (nw_sub rfl) ?_; intro u51 F_u51
    exact fm_ret F_u51
set_option maxRecDepth 4000 in
theorem fj_X2_skipBlock_60 (nn : Nat) {qkk_6 : Int → Int → Int → ms_M → Option ms_M} (hk_kk_6 : ∀ {l1 : Int} {l2 : Int} {l3 : Int} {h : ms_M}, Fm_ (fun c k => nw_F wl_X2_skipBlock wf_X2_skipBlock false false c k = true) h (qkk_6 l1 l2 l3 h) (fun r => r)) {l1 : Int} {l3 : Int} {h : ms_M} : Fm_ (fun c k => nw_F wl_X2_skipBlock wf_X2_skipBlock false false c k = true) h (qj_X2_skipBlock_60 nn qkk_6 l1 l3 h) (fun r => r) := by
  unfold qj_X2_skipBlock_60
  have F_h : ∀ c k : Nat, (fun c k => nw_F wl_X2_skipBlock wf_X2_skipBlock false false c k = true) c k → h c k = h c k := fun _ _ _ => rfl
  refine fm_xl ?_; intro v3
  refine fm_up F_h (nw_nf rfl) ?_; intro h4 F_h4
  refine fm_if ?_ ?_
  · refine fm_xl ?_; intro v5
    exact fm_tl F_h4 (hk_kk_6) (fun _ _ z => z)
  · refine fm_xl ?_; intro v6
    exact fm_tl F_h4 (hk_kk_6) (fun _ _ z => z)
set_option maxRecDepth 4000 in
theorem fw_X2_skipBlock_6 (nn : Nat) : ∀ (k : Nat) {l1 : Int} {l2 : Int} {l3 : Int} {h : ms_M}, Fm_ (fun c k => nw_F wl_X2_skipBlock wf_X2_skipBlock false false c k = true) h (qw_X2_skipBlock_6 nn k l1 l2 l3 h) (fun r => r) := by
  intro k
  induction k with
  | zero => intros; exact fm_no
  | succ k ih =>
    intro l1 l2 l3 h
    unfold qw_X2_skipBlock_6
    have F_h : ∀ c k : Nat, (fun c k => nw_F wl_X2_skipBlock wf_X2_skipBlock false false c k = true) c k → h c k = h c k := fun _ _ _ => rfl
    refine fm_if ?_ ?_
    · exact fm_ret F_h
    · refine fm_if ?_ ?_
      · exact fm_ret F_h
      · refine fm_pu ?_; intro u10
        refine fm_if ?_ ?_
        · exact fm_ret F_h
        · refine fm_pu ?_; intro u13
          refine fm_if ?_ ?_
          · refine fm_pu ?_; intro u16
            refine fm_if ?_ ?_
            · exact fm_tl F_h (fj_X2_skipBlock_60 nn ih) (fun _ _ z => z)
            · refine fm_xl ?_; intro v17
              exact fm_tl F_h (fj_X2_skipBlock_60 nn ih) (fun _ _ z => z)
          · refine fm_xl ?_; intro v19
            exact fm_tl F_h (fj_X2_skipBlock_60 nn ih) (fun _ _ z => z)
set_option maxRecDepth 4000 in
theorem ff_X2_skipBlock (nn : Nat) {h : ms_M} : Fm_ (fun c k => nw_F wl_X2_skipBlock wf_X2_skipBlock false false c k = true) h (qf_X2_skipBlock nn h) (fun r => r) := by
  unfold qf_X2_skipBlock
  have F_h : ∀ c k : Nat, (fun c k => nw_F wl_X2_skipBlock wf_X2_skipBlock false false c k = true) c k → h c k = h c k := fun _ _ _ => rfl
  exact fm_tl F_h (fw_X2_skipBlock_6 nn _) (fun _ _ z => z)
set_option maxRecDepth 4000 in
theorem fj_X2_addMethod_162 (nn : Nat) {l5 : Int} {h : ms_M} : Fm_ (fun c k => nw_F wl_X2_addMethod wf_X2_addMethod false false c k = true) h (qj_X2_addMethod_162 nn l5 h) (fun r => r) := by
  unfold qj_X2_addMethod_162
  have F_h : ∀ c k : Nat, (fun c k => nw_F wl_X2_addMethod wf_X2_addMethod false false c k = true) c k → h c k = h c k := fun _ _ _ => rfl
  refine fm_xl ?_; intro v3
  refine fm_up F_h (nw_nf rfl) ?_; intro h4 F_h4
  refine fm_wA F_h4 (nw_ne rfl) ?_; intro h8 F_h8
  refine fm_ca F_h8 (ff_X2_skipBlock nn) (nw_sub rfl) ?_; intro u10 F_u10
  exact fm_ret F_u10
set_option maxRecDepth 4000 in
theorem fw_X2_addMethod_120 (nn : Nat) : ∀ (k : Nat) {l5 : Int} {l6 : Int} {h : ms_M}, Fm_ (fun c k => nw_F wl_X2_addMethod wf_X2_addMethod false false c k = true) h (qw_X2_addMethod_120 nn k l5 l6 h) (fun r => r) := by
  intro k
  induction k with
  | zero => intros; exact fm_no
  | succ k ih =>
    intro l5 l6 h
    unfold qw_X2_addMethod_120
    have F_h : ∀ c k : Nat, (fun c k => nw_F wl_X2_addMethod wf_X2_addMethod false false c k = true) c k → h c k = h c k := fun _ _ _ => rfl
    refine fm_if ?_ ?_
    · exact fm_tl F_h (fj_X2_addMethod_162 nn) (fun _ _ z => z)
    · refine fm_if ?_ ?_
      · exact fm_tl F_h (fj_X2_addMethod_162 nn) (fun _ _ z => z)
      · refine fm_pu ?_; intro u15
        refine fm_if ?_ ?_
        · exact fm_tl F_h (fj_X2_addMethod_162 nn) (fun _ _ z => z)
        · refine fm_ca F_h (ff_X2_addParameter nn) (nw_sub rfl) ?_; intro u17 F_u17
          refine fm_xl ?_; intro v18
          exact fm_tl F_u17 (ih ) (fun _ _ z => z)
set_option maxRecDepth 4000 in
theorem fj_X2_addMethod_48 (nn : Nat) {l1 : Int} {l2 : Int} {l3 : Int} {l4 : Int} {h : ms_M} : Fm_ (fun c k => nw_F wl_X2_addMethod wf_X2_addMethod false false c k = true) h (qj_X2_addMethod_48 nn l1 l2 l3 l4 h) (fun r => r) := by
  unfold qj_X2_addMethod_48
  have F_h : ∀ c k : Nat, (fun c k => nw_F wl_X2_addMethod wf_X2_addMethod false false c k = true) c k → h c k = h c k := fun _ _ _ => rfl
  refine fm_xl ?_; intro v22
  refine fm_rd ?_; intro v24
  refine fm_xl ?_; intro v25
  refine fm_wA F_h (nw_ne rfl) ?_; intro h27 F_h27
  refine fm_wA F_h27 (nw_ne rfl) ?_; intro h29 F_h29
  refine fm_wZ F_h29 (nw_ne rfl) ?_; intro h31 F_h31
  refine fm_wA F_h31 (nw_ne rfl) ?_; intro h33 F_h33
  refine fm_rd ?_; intro v35
  refine fm_xl ?_; intro v36
  refine fm_wA F_h33 (nw_ne rfl) ?_; intro h37 F_h37
  refine fm_xl ?_; intro v40
  refine fm_up F_h37 (nw_nf rfl) ?_; intro h41 F_h41
  exact fm_tl F_h41 (fw_X2_addMethod_120 nn _) (fun _ _ z => z)
set_option maxRecDepth 4000 in
theorem ff_X2_addMethod (nn : Nat) {a1 : Int} {a2 : Int} {a3 : Int} {a4 : Int} {h : ms_M} : Fm_ (fun c k => nw_F wl_X2_addMethod wf_X2_addMethod false false c k = true) h (qf_X2_addMethod nn a1 a2 a3 a4 h) (fun r => r) := by
  unfold qf_X2_addMethod
  have F_h : ∀ c k : Nat, (fun c k => nw_F wl_X2_addMethod wf_X2_addMethod false false c k = true) c k → h c k = h c k := fun _ _ _ => rfl
  refine fm_rd ?_; intro v43
  refine fm_if ?_ ?_
  · refine fm_pu ?_; intro u46
    refine fm_pu ?_; intro u48
    refine fm_if ?_ ?_
    · exact fm_tl F_h (fj_X2_addMethod_48 nn) (fun _ _ z => z)
    · refine fm_ca F_h (ff_X9_tell nn) (nw_sub rfl) ?_; intro u51 F_u51
      exact fm_tl F_u51 (fj_X2_addMethod_48 nn) (fun _ _ z => z)
  · refine fm_ca F_h (ff_X9_tell nn) (nw_sub rfl) ?_; intro u55 F_u55
    exact fm_ret F_u55
set_option maxRecDepth 4000 in
theorem fj_X2_readMember_72 (nn : Nat) {l1 : Int} {l2 : Int} {l3 : Int} {h : ms_M} : Fm_ (fun c k => nw_F wl_X2_readMember wf_X2_readMember false false c k = true) h (qj_X2_readMember_72 nn l1 l2 l3 h) (fun r => r) := by
  unfold qj_X2_readMember_72
  have F_h : ∀ c k : Nat, (fun c k => nw_F wl_X2_readMember wf_X2_readMember false false c k = true) c k → h c k = h c k := fun _ _ _ => rfl
  refine fm_xl ?_; intro v5
  refine fm_up F_h (nw_nf rfl) ?_; intro h6 F_h6
  refine fm_pu ?_; intro u9
  refine fm_if ?_ ?_
  · refine fm_if ?_ ?_
    · exact fm_ret F_h6
    · refine fm_ca F_h6 (ff_X2_addMethod nn) (nw_sub rfl) ?_; intro u13 F_u13
      exact fm_ret F_u13
  · refine fm_xl ?_; intro v17
    refine fm_up F_h6 (nw_nf rfl) ?_; intro h18 F_h18
    refine fm_ca F_h18 (ff_X2_addField nn) (nw_sub rfl) ?_; intro u20 F_u20
    exact fm_ret F_u20
set_option maxRecDepth 4000 in
theorem fj_X2_readMember_35 (nn : Nat) {l1 : Int} {l2 : Int} {h : ms_M} : Fm_ (fun c k => nw_F wl_X2_readMember wf_X2_readMember false false c k = true) h (qj_X2_readMember_35 nn l1 l2 h) (fun r => r) := by
  unfold qj_X2_readMember_35
  have F_h : ∀ c k : Nat, (fun c k => nw_F wl_X2_readMember wf_X2_readMember false false c k = true) c k → h c k = h c k := fun _ _ _ => rfl
  refine fm_pu ?_; intro u24
  refine fm_if ?_ ?_
  · refine fm_ca F_h (ff_X2_readType nn) (nw_sub rfl) ?_; intro u26 F_u26
    exact fm_tl F_u26 (fj_X2_readMember_72 nn) (fun _ _ z => z)
  · refine fm_xl ?_; intro v29
    refine fm_up F_h (nw_nf rfl) ?_; intro h30 F_h30
    exact fm_tl F_h30 (fj_X2_readMember_72 nn) (fun _ _ z => z)
set_option maxRecDepth 4000 in
theorem fj_X2_readMember_17 (nn : Nat) {l1 : Int} {s0 : Int} {h : ms_M} : Fm_ (fun c k => nw_F wl_X2_readMember wf_X2_readMember false false c k = true) h (qj_X2_readMember_17 nn l1 s0 h) (fun r => r) := by
  unfold qj_X2_readMember_17
  have F_h : ∀ c k : Nat, (fun c k => nw_F wl_X2_readMember wf_X2_readMember false false c k = true) c k → h c k = h c k := fun _ _ _ => rfl
  refine fm_if ?_ ?_
  · exact fm_tl F_h (fj_X2_readMember_35 nn) (fun _ _ z => z)
  · refine fm_xl ?_; intro v34
    refine fm_up F_h (nw_nf rfl) ?_; intro h35 F_h35
    exact fm_tl F_h35 (fj_X2_readMember_35 nn) (fun _ _ z => z)
set_option maxRecDepth 4000 in
theorem ff_X2_readMember (nn : Nat) {a1 : Int} {h : ms_M} : Fm_ (fun c k => nw_F wl_X2_readMember wf_X2_readMember false false c k = true) h (qf_X2_readMember nn a1 h) (fun r => r) := by
  unfold qf_X2_readMember
  have F_h : ∀ c k : Nat, (fun c k => nw_F wl_X2_readMember wf_X2_readMember false false c k = true) c k → h c k = h c k := fun _ _ _ => rfl
  refine fm_pu ?_; intro u39
  refine fm_if ?_ ?_
  · exact fm_tl F_h (fj_X2_readMember_17 nn) (fun _ _ z => z)
  · exact fm_tl F_h (fj_X2_readMember_17 nn) (fun _ _ z => z)
set_option maxRecDepth 4000 in
theorem fw_X2_readMembers_57 (nn : Nat) {qkk_2 : Int → ms_M → Option ms_M} (hk_kk_2 : ∀ {l1 : Int} {h : ms_M}, Fm_ (fun c k => nw_F wl_X2_readMembers wf_X2_readMembers false false c k = true) h (qkk_2 l1 h) (fun r => r)) : ∀ (k : Nat) {l1 : Int} {l3 : Int} {h : ms_M}, Fm_ (fun c k => nw_F wl_X2_readMembers wf_X2_readMembers false false c k = true) h (qw_X2_readMembers_57 nn qkk_2 k l1 l3 h) (fun r => r) := by
  intro k
  induction k with
  | zero => intros; exact fm_no
  | succ k ih =>
    intro l1 l3 h
    unfold qw_X2_readMembers_57
    have F_h : ∀ c k : Nat, (fun c k => nw_F wl_X2_readMembers wf_X2_readMembers false false c k = true) c k → h c k = h c k := fun _ _ _ => rfl
    refine fm_if ?_ ?_
    · refine fm_xl ?_; intro v1
      exact fm_tl F_h (hk_kk_2) (fun _ _ z => z)
    · refine fm_if ?_ ?_
      · refine fm_xl ?_; intro v4
        exact fm_tl F_h (hk_kk_2) (fun _ _ z => z)
      · refine fm_pu ?_; intro u7
        refine fm_if ?_ ?_
        · refine fm_xl ?_; intro v8
          exact fm_tl F_h (hk_kk_2) (fun _ _ z => z)
        · refine fm_ca F_h (ff_X2_readMember nn) (nw_sub rfl) ?_; intro u10 F_u10
          refine fm_xl ?_; intro v11
          exact fm_tl F_u10 (ih ) (fun _ _ z => z)
set_option maxRecDepth 4000 in
theorem fj_X2_readMembers_51 (nn : Nat) {qkk_2 : Int → ms_M → Option ms_M} (hk_kk_2 : ∀ {l1 : Int} {h : ms_M}, Fm_ (fun c k => nw_F wl_X2_readMembers wf_X2_readMembers false false c k = true) h (qkk_2 l1 h) (fun r => r)) {l1 : Int} {s0 : Int} {s1 : Int} {h : ms_M} : Fm_ (fun c k => nw_F wl_X2_readMembers wf_X2_readMembers false false c k = true) h (qj_X2_readMembers_51 nn qkk_2 l1 s0 s1 h) (fun r => r) := by
  unfold qj_X2_readMembers_51
  have F_h : ∀ c k : Nat, (fun c k => nw_F wl_X2_readMembers wf_X2_readMembers false false c k = true) c k → h c k = h c k := fun _ _ _ => rfl
  refine fm_xl ?_; intro v15
  refine fm_up F_h (nw_nf rfl) ?_; intro h16 F_h16
  exact fm_tl F_h16 (fw_X2_readMembers_57 nn hk_kk_2 _) (fun _ _ z => z)
set_option maxRecDepth 4000 in
theorem fw_X2_readMembers_2 (nn : Nat) : ∀ (k : Nat) {l1 : Int} {h : ms_M}, Fm_ (fun c k => nw_F wl_X2_readMembers wf_X2_readMembers false false c k = true) h (qw_X2_readMembers_2 nn k l1 h) (fun r => r) := by
  intro k
  induction k with
  | zero => intros; exact fm_no
  | succ k ih =>
    intro l1 h
    unfold qw_X2_readMembers_2
    have F_h : ∀ c k : Nat, (fun c k => nw_F wl_X2_readMembers wf_X2_readMembers false false c k = true) c k → h c k = h c k := fun _ _ _ => rfl
    refine fm_if ?_ ?_
    · exact fm_ret F_h
    · refine fm_if ?_ ?_
      · exact fm_ret F_h
      · refine fm_pu ?_; intro u21
        refine fm_xl ?_; intro v24
        refine fm_pu ?_; intro u26
        refine fm_if ?_ ?_
        · exact fm_tl F_h (fj_X2_readMembers_51 nn ih) (fun _ _ z => z)
        · exact fm_tl F_h (fj_X2_readMembers_51 nn ih) (fun _ _ z => z)
set_option maxRecDepth 4000 in
theorem ff_X2_readMembers (nn : Nat) {h : ms_M} : Fm_ (fun c k => nw_F wl_X2_readMembers wf_X2_readMembers false false c k = true) h (qf_X2_readMembers nn h) (fun r => r) := by
  unfold qf_X2_readMembers
  have F_h : ∀ c k : Nat, (fun c k => nw_F wl_X2_readMembers wf_X2_readMembers false false c k = true) c k → h c k = h c k := fun _ _ _ => rfl
  exact fm_tl F_h (fw_X2_readMembers_2 nn _) (fun _ _ z => z)
set_option maxRecDepth 4000 in
theorem ff_X2_addClass (nn : Nat) {a1 : Int} {h : ms_M} : Fm_ (fun c k => nw_F wl_X2_addClass wf_X2_addClass false false c k = true) h (qf_X2_addClass nn a1 h) (fun r => r) := by
  unfold qf_X2_addClass
  have F_h : ∀ c k : Nat, (fun c k => nw_F wl_X2_addClass wf_X2_addClass false false c k = true) c k → h c k = h c k := fun _ _ _ => rfl
  refine fm_if ?_ ?_
  · exact fm_ret F_h
  · refine fm_wA F_h (nw_ne rfl) ?_; intro h6 F_h6
    refine fm_xl ?_; intro v8
    refine fm_up F_h6 (nw_nf rfl) ?_; intro h9 F_h9
    exact fm_ret F_h9
set_option maxRecDepth 4000 in
theorem ff_X8_accept (nn : Nat) {a1 : Int} {h : ms_M} : Fm_ (fun c k => nw_F wl_X8_accept wf_X8_accept false false c k = true) h (qf_X8_accept nn a1 h) (fun r => r.2) := by
  unfold qf_X8_accept
  have F_h : ∀ c k : Nat, (fun c k => nw_F wl_X8_accept wf_X8_accept false false c k = true) c k → h c k = h c k := fun _ _ _ => rfl
  refine fm_pu ?_; intro u3
  refine fm_if ?_ ?_
  · refine fm_xl ?_; intro v6
    refine fm_up F_h (nw_nf rfl) ?_; intro h7 F_h7
    exact fm_ret F_h7
  · exact fm_ret F_h
set_option maxRecDepth 4000 in
theorem fj_X9_tellHere_44 (nn : Nat) {s0 : Int} {h : ms_M} : Fm_ (fun c k => nw_F wl_X9_tellHere wf_X9_tellHere false false c k = true) h (qj_X9_tellHere_44 nn s0 h) (fun r => r) := by
  unfold qj_X9_tellHere_44
  have F_h : ∀ c k : Nat, (fun c k => nw_F wl_X9_tellHere wf_X9_tellHere false false c k = true) c k → h c k = h c k := fun _ _ _ => rfl
  refine fm_up F_h (nw_nf rfl) ?_; intro h1 F_h1
  refine fm_rd ?_; intro v4
  refine fm_up F_h1 (nw_nf rfl) ?_; intro h5 F_h5
  exact fm_ret F_h5
set_option maxRecDepth 4000 in
theorem ff_X9_tellHere (nn : Nat) {a1 : Int} {h : ms_M} : Fm_ (fun c k => nw_F wl_X9_tellHere wf_X9_tellHere false false c k = true) h (qf_X9_tellHere nn a1 h) (fun r => r) := by
  unfold qf_X9_tellHere
  have F_h : ∀ c k : Nat, (fun c k => nw_F wl_X9_tellHere wf_X9_tellHere false false c k = true) c k → h c k = h c k := fun _ _ _ => rfl
  refine fm_if ?_ ?_
  · exact fm_ret F_h
  · refine fm_if ?_ ?_
    · exact fm_ret F_h
    · refine fm_if ?_ ?_
      · exact fm_ret F_h
      · refine fm_rd ?_; intro v12
        refine fm_if ?_ ?_
        · exact fm_tl F_h (fj_X9_tellHere_44 nn) (fun _ _ z => z)
        · exact fm_tl F_h (fj_X9_tellHere_44 nn) (fun _ _ z => z)
set_option maxRecDepth 4000 in
theorem ff_X8_need (nn : Nat) {a1 : Int} {h : ms_M} : Fm_ (fun c k => nw_F wl_X8_need wf_X8_need false false c k = true) h (qf_X8_need nn a1 h) (fun r => r) := by
  unfold qf_X8_need
  have F_h : ∀ c k : Nat, (fun c k => nw_F wl_X8_need wf_X8_need false false c k = true) c k → h c k = h c k := fun _ _ _ => rfl
  refine fm_pu ?_; intro u3
  refine fm_if ?_ ?_
  · refine fm_ca F_h (ff_X9_tellHere nn) (nw_sub rfl) ?_; intro u6 F_u6
    exact fm_ret F_u6
  · refine fm_xl ?_; intro v9
    refine fm_up F_h (nw_nf rfl) ?_; intro h10 F_h10
    exact fm_ret F_h10
set_option maxRecDepth 4000 in
theorem fj_X8_tooDeep_14 (nn : Nat) {h : ms_M} : Fm_ (fun c k => nw_F wl_X8_tooDeep wf_X8_tooDeep false false c k = true) h (qj_X8_tooDeep_14 nn h) (fun r => r.2) := by
  unfold qj_X8_tooDeep_14
  have F_h : ∀ c k : Nat, (fun c k => nw_F wl_X8_tooDeep wf_X8_tooDeep false false c k = true) c k → h c k = h c k := fun _ _ _ => rfl
  refine fm_if ?_ ?_
  · exact fm_ret F_h
  · exact fm_ret F_h
set_option maxRecDepth 4000 in
theorem ff_X8_tooDeep (nn : Nat) {a1 : Int} {h : ms_M} : Fm_ (fun c k => nw_F wl_X8_tooDeep wf_X8_tooDeep false false c k = true) h (qf_X8_tooDeep nn a1 h) (fun r => r.2) := by
  unfold qf_X8_tooDeep
  have F_h : ∀ c k : Nat, (fun c k => nw_F wl_X8_tooDeep wf_X8_tooDeep false false c k = true) c k → h c k = h c k := fun _ _ _ => rfl
  refine fm_if ?_ ?_
  · exact fm_tl F_h (fj_X8_tooDeep_14 nn) (fun _ _ z => z)
  · refine fm_ca F_h (ff_X9_tellHere nn) (nw_sub rfl) ?_; intro u6 F_u6
    exact fm_tl F_u6 (fj_X8_tooDeep_14 nn) (fun _ _ z => z)
def fgr_X8_readValue (rc : tq_X8_readValue) : Prop := (∀ {a1 : Int} {h : ms_M}, Fm_ (fun c k => nw_F wl_X8_readValue wf_X8_readValue false false c k = true) h (rc.1 a1 h) (fun r => r)) ∧ (∀ {a1 : Int} {h : ms_M}, Fm_ (fun c k => nw_F wl_X8_readUnary wf_X8_readUnary false false c k = true) h (rc.2.1 a1 h) (fun r => r)) ∧ (∀ {a1 : Int} {h : ms_M}, Fm_ (fun c k => nw_F wl_X8_readPrimary wf_X8_readPrimary false false c k = true) h (rc.2.2.1 a1 h) (fun r => r)) ∧ (∀ {a1 : Int} {h : ms_M}, Fm_ (fun c k => nw_F wl_X8_readBehind wf_X8_readBehind false false c k = true) h (rc.2.2.2.1 a1 h) (fun r => r)) ∧ (∀ {a1 : Int} {h : ms_M}, Fm_ (fun c k => nw_F wl_X8_readNew wf_X8_readNew false false c k = true) h (rc.2.2.2.2.1 a1 h) (fun r => r)) ∧ (∀ {a1 : Int} {h : ms_M}, Fm_ (fun c k => nw_F wl_X8_readArguments wf_X8_readArguments false false c k = true) h (rc.2.2.2.2.2 a1 h) (fun r => r))
set_option maxRecDepth 4000 in
theorem fj_X8_readValue_88 (nn : Nat) {rc : tq_X8_readValue} (hr : fgr_X8_readValue rc) {l1 : Int} {h : ms_M} : Fm_ (fun c k => nw_F wl_X8_readValue wf_X8_readValue false false c k = true) h (qj_X8_readValue_88 nn rc l1 h) (fun r => r) := by
  unfold qj_X8_readValue_88
  have F_h : ∀ c k : Nat, (fun c k => nw_F wl_X8_readValue wf_X8_readValue false false c k = true) c k → h c k = h c k := fun _ _ _ => rfl
  refine fm_ca F_h (ff_X8_accept nn) (nw_sub rfl) ?_; intro u2 F_u2
  refine fm_if ?_ ?_
  · exact fm_ret F_u2
  · refine fm_xl ?_; intro v3
    refine fm_ca F_u2 (hr.1) (fun _ _ z => z) ?_; intro u5 F_u5
    refine fm_ca F_u5 (ff_X8_need nn) (nw_sub rfl) ?_; intro u7 F_u7
    refine fm_xl ?_; intro v8
    refine fm_ca F_u7 (hr.1) (fun _ _ z => z) ?_; intro u10 F_u10
    exact fm_ret F_u10
set_option maxRecDepth 4000 in
theorem fj_X8_readValue_49 (nn : Nat) {rc : tq_X8_readValue} (hr : fgr_X8_readValue rc) {qkk_20 : Int → Int → Int → ms_M → Option ms_M} (hk_kk_20 : ∀ {l1 : Int} {l2 : Int} {l3 : Int} {h : ms_M}, Fm_ (fun c k => nw_F wl_X8_readValue wf_X8_readValue false false c k = true) h (qkk_20 l1 l2 l3 h) (fun r => r)) {l1 : Int} {l3 : Int} {s0 : Int} {h : ms_M} : Fm_ (fun c k => nw_F wl_X8_readValue wf_X8_readValue false false c k = true) h (qj_X8_readValue_49 nn rc qkk_20 l1 l3 s0 h) (fun r => r) := by
  unfold qj_X8_readValue_49
  have F_h : ∀ c k : Nat, (fun c k => nw_F wl_X8_readValue wf_X8_readValue false false c k = true) c k → h c k = h c k := fun _ _ _ => rfl
  refine fm_if ?_ ?_
  · refine fm_ca F_h (ff_X8_need nn) (nw_sub rfl) ?_; intro u13 F_u13
    refine fm_xl ?_; intro v14
    exact fm_tl F_u13 (hk_kk_20) (fun _ _ z => z)
  · refine fm_xl ?_; intro v17
    refine fm_up F_h (nw_nf rfl) ?_; intro h18 F_h18
    refine fm_xl ?_; intro v19
    refine fm_ca F_h18 (hr.2.1) (fun _ _ z => z) ?_; intro u21 F_u21
    refine fm_xl ?_; intro v22
    exact fm_tl F_u21 (hk_kk_20) (fun _ _ z => z)
set_option maxRecDepth 4000 in
theorem fw_X8_readValue_20 (nn : Nat) {rc : tq_X8_readValue} (hr : fgr_X8_readValue rc) : ∀ (k : Nat) {l1 : Int} {l2 : Int} {l3 : Int} {h : ms_M}, Fm_ (fun c k => nw_F wl_X8_readValue wf_X8_readValue false false c k = true) h (qw_X8_readValue_20 nn rc k l1 l2 l3 h) (fun r => r) := by
  intro k
  induction k with
  | zero => intros; exact fm_no
  | succ k ih =>
    intro l1 l2 l3 h
    unfold qw_X8_readValue_20
    have F_h : ∀ c k : Nat, (fun c k => nw_F wl_X8_readValue wf_X8_readValue false false c k = true) c k → h c k = h c k := fun _ _ _ => rfl
    refine fm_if ?_ ?_
    · exact fm_tl F_h (fj_X8_readValue_88 nn hr) (fun _ _ z => z)
    · refine fm_pu ?_; intro u25
      refine fm_if ?_ ?_
      · exact fm_tl F_h (fj_X8_readValue_88 nn hr) (fun _ _ z => z)
      · refine fm_ca F_h (ff_X8_accept nn) (nw_sub rfl) ?_; intro u27 F_u27
        refine fm_if ?_ ?_
        · exact fm_tl F_u27 (fj_X8_readValue_49 nn hr ih) (fun _ _ z => z)
        · exact fm_tl F_u27 (fj_X8_readValue_49 nn hr ih) (fun _ _ z => z)
set_option maxRecDepth 4000 in
theorem fo_X8_readValue (nn : Nat) {rc : tq_X8_readValue} (hr : fgr_X8_readValue rc) {a1 : Int} {h : ms_M} : Fm_ (fun c k => nw_F wl_X8_readValue wf_X8_readValue false false c k = true) h (qo_X8_readValue nn rc a1 h) (fun r => r) := by
  unfold qo_X8_readValue
  have F_h : ∀ c k : Nat, (fun c k => nw_F wl_X8_readValue wf_X8_readValue false false c k = true) c k → h c k = h c k := fun _ _ _ => rfl
  refine fm_ca F_h (ff_X8_tooDeep nn) (nw_sub rfl) ?_; intro u32 F_u32
  refine fm_if ?_ ?_
  · refine fm_xl ?_; intro v33
    refine fm_ca F_u32 (hr.2.1) (fun _ _ z => z) ?_; intro u35 F_u35
    exact fm_tl F_u35 (fw_X8_readValue_20 nn hr _) (fun _ _ z => z)
  · exact fm_ret F_u32
set_option maxRecDepth 4000 in
theorem fj_X8_readUnary_70 (nn : Nat) {rc : tq_X8_readValue} (hr : fgr_X8_readValue rc) {l1 : Int} {s0 : Int} {s1 : Int} {h : ms_M} : Fm_ (fun c k => nw_F wl_X8_readUnary wf_X8_readUnary false false c k = true) h (qj_X8_readUnary_70 nn rc l1 s0 s1 h) (fun r => r) := by
  unfold qj_X8_readUnary_70
  have F_h : ∀ c k : Nat, (fun c k => nw_F wl_X8_readUnary wf_X8_readUnary false false c k = true) c k → h c k = h c k := fun _ _ _ => rfl
  refine fm_xl ?_; intro v1
  refine fm_up F_h (nw_nf rfl) ?_; intro h2 F_h2
  refine fm_xl ?_; intro v3
  refine fm_ca F_h2 (hr.2.1) (fun _ _ z => z) ?_; intro u5 F_u5
  exact fm_ret F_u5
set_option maxRecDepth 4000 in
theorem fj_X8_readUnary_44 (nn : Nat) {rc : tq_X8_readValue} (hr : fgr_X8_readValue rc) {l1 : Int} {l3 : Int} {h : ms_M} : Fm_ (fun c k => nw_F wl_X8_readUnary wf_X8_readUnary false false c k = true) h (qj_X8_readUnary_44 nn rc l1 l3 h) (fun r => r) := by
  unfold qj_X8_readUnary_44
  have F_h : ∀ c k : Nat, (fun c k => nw_F wl_X8_readUnary wf_X8_readUnary false false c k = true) c k → h c k = h c k := fun _ _ _ => rfl
  refine fm_ca F_h (ff_X8_tooDeep nn) (nw_sub rfl) ?_; intro u7 F_u7
  refine fm_if ?_ ?_
  · refine fm_if ?_ ?_
    · exact fm_tl F_u7 (fj_X8_readUnary_70 nn hr) (fun _ _ z => z)
    · exact fm_tl F_u7 (fj_X8_readUnary_70 nn hr) (fun _ _ z => z)
  · exact fm_ret F_u7
