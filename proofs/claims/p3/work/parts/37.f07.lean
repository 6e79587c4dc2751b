set_option maxRecDepth 4000 in
theorem fj_X13_workOne_588 (nn : Nat) {rc : tq_X13_work} (hr : fgr_X13_work rc) {l1 : Int} {l2 : Int} {h : ms_M} : Fm_ (fun c k => nw_F wl_X13_workOne wf_X13_workOne false false c k = true) h (qj_X13_workOne_588 nn rc l1 l2 h) (fun r => r) := by
  unfold qj_X13_workOne_588
  have F_h : ∀ c k : Nat, (fun c k => nw_F wl_X13_workOne wf_X13_workOne false false c k = true) c k → h c k = h c k := fun _ _ _ => rfl
  refine fm_rd ?_; intro v15
  refine fm_if ?_ ?_
  · exact fm_tl F_h (fj_X13_workOne_609 nn hr) (fun _ _ z => z)
  · refine fm_rd ?_; intro v17
    refine fm_ca F_h (hr.1) (fun _ _ z => z) ?_; intro u19 F_u19
    exact fm_tl F_u19 (fj_X13_workOne_609 nn hr) (fun _ _ z => z)
set_option maxRecDepth 4000 in
theorem fj_X13_workOne_508 (nn : Nat) {rc : tq_X13_work} (hr : fgr_X13_work rc) {l2 : Int} {s0 : Int} {h : ms_M} : Fm_ (fun c k => nw_F wl_X13_workOne wf_X13_workOne false false c k = true) h (qj_X13_workOne_508 nn rc l2 s0 h) (fun r => r) := by
  unfold qj_X13_workOne_508
  have F_h : ∀ c k : Nat, (fun c k => nw_F wl_X13_workOne wf_X13_workOne false false c k = true) c k → h c k = h c k := fun _ _ _ => rfl
  refine fm_ca F_h (ff_X13_put nn) (nw_sub rfl) ?_; intro u22 F_u22
  refine fm_ca F_u22 (ff_X13_turn nn) (nw_sub rfl) ?_; intro u24 F_u24
  exact fm_ret F_u24
set_option maxRecDepth 4000 in
theorem fj_X13_workOne_479 (nn : Nat) {rc : tq_X13_work} (hr : fgr_X13_work rc) {l2 : Int} {h : ms_M} : Fm_ (fun c k => nw_F wl_X13_workOne wf_X13_workOne false false c k = true) h (qj_X13_workOne_479 nn rc l2 h) (fun r => r) := by
  unfold qj_X13_workOne_479
  have F_h : ∀ c k : Nat, (fun c k => nw_F wl_X13_workOne wf_X13_workOne false false c k = true) c k → h c k = h c k := fun _ _ _ => rfl
  refine fm_ca F_h (ff_X13_turn nn) (nw_sub rfl) ?_; intro u26 F_u26
  exact fm_ret F_u26
set_option maxRecDepth 4000 in
theorem fj_X13_workOne_316 (nn : Nat) {rc : tq_X13_work} (hr : fgr_X13_work rc) {l1 : Int} {s0 : Int} {s1 : Int} {h : ms_M} : Fm_ (fun c k => nw_F wl_X13_workOne wf_X13_workOne false false c k = true) h (qj_X13_workOne_316 nn rc l1 s0 s1 h) (fun r => r) := by
  unfold qj_X13_workOne_316
  have F_h : ∀ c k : Nat, (fun c k => nw_F wl_X13_workOne wf_X13_workOne false false c k = true) c k → h c k = h c k := fun _ _ _ => rfl
  refine fm_rd ?_; intro v28
  refine fm_if ?_ ?_
  · refine fm_ca F_h (hr.2.2.1) (fun _ _ z => z) ?_; intro u30 F_u30
    exact fm_ret F_u30
  · refine fm_ca F_h (hr.2.2.1) (fun _ _ z => z) ?_; intro u32 F_u32
    exact fm_ret F_u32
set_option maxRecDepth 4000 in
theorem fj_X13_workOne_268 (nn : Nat) {rc : tq_X13_work} (hr : fgr_X13_work rc) {l1 : Int} {l3 : Int} {h : ms_M} : Fm_ (fun c k => nw_F wl_X13_workOne wf_X13_workOne false false c k = true) h (qj_X13_workOne_268 nn rc l1 l3 h) (fun r => r) := by
  unfold qj_X13_workOne_268
  have F_h : ∀ c k : Nat, (fun c k => nw_F wl_X13_workOne wf_X13_workOne false false c k = true) c k → h c k = h c k := fun _ _ _ => rfl
  refine fm_ca F_h (hr.2.2.1) (fun _ _ z => z) ?_; intro u36 F_u36
  exact fm_ret F_u36
set_option maxRecDepth 4000 in
theorem fj_X13_workOne_259 (nn : Nat) {rc : tq_X13_work} (hr : fgr_X13_work rc) {l1 : Int} {s0 : Int} {h : ms_M} : Fm_ (fun c k => nw_F wl_X13_workOne wf_X13_workOne false false c k = true) h (qj_X13_workOne_259 nn rc l1 s0 h) (fun r => r) := by
  unfold qj_X13_workOne_259
  have F_h : ∀ c k : Nat, (fun c k => nw_F wl_X13_workOne wf_X13_workOne false false c k = true) c k → h c k = h c k := fun _ _ _ => rfl
  refine fm_if ?_ ?_
  · exact fm_tl F_h (fj_X13_workOne_268 nn hr) (fun _ _ z => z)
  · refine fm_ca F_h (ff_X13_self nn) (nw_sub rfl) ?_; intro u38 F_u38
    exact fm_tl F_u38 (fj_X13_workOne_268 nn hr) (fun _ _ z => z)
set_option maxRecDepth 4000 in
theorem fj_X13_workOne_184 (nn : Nat) {rc : tq_X13_work} (hr : fgr_X13_work rc) {l1 : Int} {l2 : Int} {s0 : Int} {h : ms_M} : Fm_ (fun c k => nw_F wl_X13_workOne wf_X13_workOne false false c k = true) h (qj_X13_workOne_184 nn rc l1 l2 s0 h) (fun r => r) := by
  unfold qj_X13_workOne_184
  have F_h : ∀ c k : Nat, (fun c k => nw_F wl_X13_workOne wf_X13_workOne false false c k = true) c k → h c k = h c k := fun _ _ _ => rfl
  refine fm_ca F_h (ff_X13_put nn) (nw_sub rfl) ?_; intro u41 F_u41
  refine fm_rd ?_; intro v43
  refine fm_ca F_u41 (ff_X13_put nn) (nw_sub rfl) ?_; intro u45 F_u45
  refine fm_ca F_u45 (ff_X13_push nn) (nw_sub rfl) ?_; intro u47 F_u47
  exact fm_ret F_u47
set_option maxRecDepth 4000 in
theorem fj_X13_workOne_147 (nn : Nat) {rc : tq_X13_work} (hr : fgr_X13_work rc) {l2 : Int} {s0 : Int} {h : ms_M} : Fm_ (fun c k => nw_F wl_X13_workOne wf_X13_workOne false false c k = true) h (qj_X13_workOne_147 nn rc l2 s0 h) (fun r => r) := by
  unfold qj_X13_workOne_147
  have F_h : ∀ c k : Nat, (fun c k => nw_F wl_X13_workOne wf_X13_workOne false false c k = true) c k → h c k = h c k := fun _ _ _ => rfl
  refine fm_ca F_h (ff_X13_put nn) (nw_sub rfl) ?_; intro u49 F_u49
  refine fm_ca F_u49 (ff_X13_push nn) (nw_sub rfl) ?_; intro u51 F_u51
  exact fm_ret F_u51
set_option maxRecDepth 4000 in
theorem fj_X13_workOne_115 (nn : Nat) {rc : tq_X13_work} (hr : fgr_X13_work rc) {l1 : Int} {l2 : Int} {h : ms_M} : Fm_ (fun c k => nw_F wl_X13_workOne wf_X13_workOne false false c k = true) h (qj_X13_workOne_115 nn rc l1 l2 h) (fun r => r) := by
  unfold qj_X13_workOne_115
  have F_h : ∀ c k : Nat, (fun c k => nw_F wl_X13_workOne wf_X13_workOne false false c k = true) c k → h c k = h c k := fun _ _ _ => rfl
  refine fm_rd ?_; intro v53
  refine fm_if ?_ ?_
  · refine fm_rd ?_; intro v55
    refine fm_if ?_ ?_
    · exact fm_tl F_h (fj_X13_workOne_147 nn hr) (fun _ _ z => z)
    · exact fm_tl F_h (fj_X13_workOne_147 nn hr) (fun _ _ z => z)
  · exact fm_tl F_h (fj_X13_workOne_147 nn hr) (fun _ _ z => z)
set_option maxRecDepth 4000 in
theorem fo_X13_workOne (nn : Nat) {rc : tq_X13_work} (hr : fgr_X13_work rc) {a1 : Int} {h : ms_M} : Fm_ (fun c k => nw_F wl_X13_workOne wf_X13_workOne false false c k = true) h (qo_X13_workOne nn rc a1 h) (fun r => r) := by
  unfold qo_X13_workOne
  have F_h : ∀ c k : Nat, (fun c k => nw_F wl_X13_workOne wf_X13_workOne false false c k = true) c k → h c k = h c k := fun _ _ _ => rfl
  refine fm_rd ?_; intro v59
  refine fm_rd ?_; intro v61
  refine fm_if ?_ ?_
  · refine fm_rd ?_; intro v100
    refine fm_ca F_h (ff_X13_number nn) (nw_sub rfl) ?_; intro u102 F_u102
    exact fm_ret F_u102
  · refine fm_if ?_ ?_
    · exact fm_tl F_h (fj_X13_workOne_115 nn hr) (fun _ _ z => z)
    · refine fm_if ?_ ?_
      · exact fm_tl F_h (fj_X13_workOne_115 nn hr) (fun _ _ z => z)
      · refine fm_if ?_ ?_
        · exact fm_tl F_h (fj_X13_workOne_115 nn hr) (fun _ _ z => z)
        · refine fm_if ?_ ?_
          · refine fm_ca F_h (ff_X13_self nn) (nw_sub rfl) ?_; intro u104 F_u104
            exact fm_ret F_u104
          · refine fm_if ?_ ?_
            · refine fm_rd ?_; intro v106
              refine fm_if ?_ ?_
              · refine fm_ca F_h (ff_X13_self nn) (nw_sub rfl) ?_; intro u108 F_u108
                refine fm_ca F_u108 (ff_X13_put nn) (nw_sub rfl) ?_; intro u110 F_u110
                refine fm_rd ?_; intro v113
                refine fm_ca F_u110 (ff_X13_memberConstant nn) (nw_sub rfl) ?_; intro u115 F_u115
                refine fm_ca F_u115 (ff_X13_put nn) (nw_sub rfl) ?_; intro u117 F_u117
                refine fm_ca F_u117 (ff_X13_turn nn) (nw_sub rfl) ?_; intro u119 F_u119
                exact fm_ret F_u119
              · refine fm_if ?_ ?_
                · exact fm_tl F_h (fj_X13_workOne_184 nn hr) (fun _ _ z => z)
                · exact fm_tl F_h (fj_X13_workOne_184 nn hr) (fun _ _ z => z)
            · refine fm_if ?_ ?_
              · refine fm_rd ?_; intro v124
                refine fm_rd ?_; intro v125
                refine fm_if ?_ ?_
                · exact fm_tl F_h (fj_X13_workOne_259 nn hr) (fun _ _ z => z)
                · exact fm_tl F_h (fj_X13_workOne_259 nn hr) (fun _ _ z => z)
              · refine fm_if ?_ ?_
                · refine fm_ca F_h (ff_X13_put nn) (nw_sub rfl) ?_; intro u128 F_u128
                  refine fm_ca F_u128 (ff_X13_classConstant nn) (nw_sub rfl) ?_; intro u130 F_u130
                  refine fm_ca F_u130 (ff_X13_put nn) (nw_sub rfl) ?_; intro u132 F_u132
                  refine fm_ca F_u132 (ff_X13_push nn) (nw_sub rfl) ?_; intro u134 F_u134
                  exact fm_ret F_u134
                · refine fm_if ?_ ?_
                  · refine fm_rd ?_; intro v136
                    refine fm_ca F_h (hr.1) (fun _ _ z => z) ?_; intro u138 F_u138
                    refine fm_ca F_u138 (ff_X13_put nn) (nw_sub rfl) ?_; intro u140 F_u140
                    refine fm_ca F_u140 (ff_X13_put nn) (nw_sub rfl) ?_; intro u142 F_u142
                    refine fm_ca F_u142 (ff_X13_turn nn) (nw_sub rfl) ?_; intro u144 F_u144
                    exact fm_ret F_u144
                  · refine fm_if ?_ ?_
                    · refine fm_rd ?_; intro v146
                      refine fm_ca F_h (hr.1) (fun _ _ z => z) ?_; intro u148 F_u148
                      refine fm_ca F_u148 (ff_X13_put nn) (nw_sub rfl) ?_; intro u150 F_u150
                      refine fm_xl ?_; intro v151
                      refine fm_ca F_u150 (ff_X13_classConstant nn) (nw_sub rfl) ?_; intro u153 F_u153
                      refine fm_ca F_u153 (ff_X13_put nn) (nw_sub rfl) ?_; intro u155 F_u155
                      refine fm_ca F_u155 (ff_X13_turn nn) (nw_sub rfl) ?_; intro u157 F_u157
                      exact fm_ret F_u157
                    · refine fm_if ?_ ?_
                      · refine fm_rd ?_; intro v159
                        refine fm_if ?_ ?_
                        · refine fm_ca F_h (ff_X13_put nn) (nw_sub rfl) ?_; intro u161 F_u161
                          refine fm_rd ?_; intro v164
                          refine fm_rd ?_; intro v165
                          refine fm_xl ?_; intro v166
                          refine fm_xl ?_; intro v167
                          refine fm_rd ?_; intro v169
                          refine fm_ca F_u161 (ff_X13_memberConstant nn) (nw_sub rfl) ?_; intro u171 F_u171
                          refine fm_ca F_u171 (ff_X13_put nn) (nw_sub rfl) ?_; intro u173 F_u173
                          exact fm_tl F_u173 (fj_X13_workOne_479 nn hr) (fun _ _ z => z)
                        · refine fm_ca F_h (ff_X13_put nn) (nw_sub rfl) ?_; intro u175 F_u175
                          exact fm_tl F_u175 (fj_X13_workOne_479 nn hr) (fun _ _ z => z)
                      · refine fm_if ?_ ?_
                        · refine fm_rd ?_; intro v178
                          refine fm_if ?_ ?_
                          · refine fm_rd ?_; intro v180
                            exact fm_tl F_h (fj_X13_workOne_316 nn hr) (fun _ _ z => z)
                          · refine fm_rd ?_; intro v183
                            refine fm_rd ?_; intro v184
                            refine fm_xl ?_; intro v185
                            refine fm_xl ?_; intro v186
                            exact fm_tl F_h (fj_X13_workOne_316 nn hr) (fun _ _ z => z)
                        · refine fm_if ?_ ?_
                          · refine fm_rd ?_; intro v189
                            refine fm_ca F_h (hr.1) (fun _ _ z => z) ?_; intro u191 F_u191
                            refine fm_if ?_ ?_
                            · exact fm_tl F_u191 (fj_X13_workOne_508 nn hr) (fun _ _ z => z)
                            · exact fm_tl F_u191 (fj_X13_workOne_508 nn hr) (fun _ _ z => z)
                          · refine fm_if ?_ ?_
                            · refine fm_rd ?_; intro v194
                              refine fm_ca F_h (hr.1) (fun _ _ z => z) ?_; intro u196 F_u196
                              refine fm_ca F_u196 (ff_X13_put nn) (nw_sub rfl) ?_; intro u198 F_u198
                              exact fm_ret F_u198
                            · refine fm_if ?_ ?_
                              · refine fm_rd ?_; intro v200
                                refine fm_ca F_h (hr.1) (fun _ _ z => z) ?_; intro u202 F_u202
                                refine fm_ca F_u202 (ff_X13_truth nn) (nw_sub rfl) ?_; intro u204 F_u204
                                exact fm_ret F_u204
                              · refine fm_if ?_ ?_
                                · refine fm_rd ?_; intro v206
                                  refine fm_ca F_h (hr.1) (fun _ _ z => z) ?_; intro u208 F_u208
                                  refine fm_ca F_u208 (ff_X13_put nn) (nw_sub rfl) ?_; intro u210 F_u210
                                  refine fm_ca F_u210 (ff_X13_push nn) (nw_sub rfl) ?_; intro u212 F_u212
                                  refine fm_ca F_u212 (ff_X13_put nn) (nw_sub rfl) ?_; intro u214 F_u214
                                  refine fm_ca F_u214 (ff_X13_turn nn) (nw_sub rfl) ?_; intro u216 F_u216
                                  exact fm_ret F_u216
                                · refine fm_if ?_ ?_
                                  · exact fm_tl F_h (fj_X13_workOne_588 nn hr) (fun _ _ z => z)
                                  · refine fm_if ?_ ?_
                                    · refine fm_ca F_h (hr.2.2.2) (fun _ _ z => z) ?_; intro u218 F_u218
                                      exact fm_ret F_u218
                                    · refine fm_if ?_ ?_
                                      · exact fm_tl F_h (fj_X13_workOne_588 nn hr) (fun _ _ z => z)
                                      · refine fm_ca F_h (ff_X13_label nn) (nw_sub rfl) ?_; intro u63 F_u63
                                        refine fm_ca F_u63 (ff_X13_label nn) (nw_sub rfl) ?_; intro u65 F_u65
                                        refine fm_rd ?_; intro v67
                                        refine fm_ca F_u65 (hr.1) (fun _ _ z => z) ?_; intro u69 F_u69
                                        refine fm_xl ?_; intro v71
                                        refine fm_up F_u69 (nw_nf rfl) ?_; intro h72 F_h72
                                        refine fm_ca F_h72 (ff_X13_jump nn) (nw_sub rfl) ?_; intro u74 F_u74
                                        refine fm_rd ?_; intro v76
                                        refine fm_ca F_u74 (hr.1) (fun _ _ z => z) ?_; intro u78 F_u78
                                        refine fm_xl ?_; intro v80
                                        refine fm_up F_u78 (nw_nf rfl) ?_; intro h81 F_h81
                                        refine fm_ca F_h81 (ff_X13_jump nn) (nw_sub rfl) ?_; intro u83 F_u83
                                        refine fm_ca F_u83 (ff_X13_stands nn) (nw_sub rfl) ?_; intro u86 F_u86
                                        refine fm_rd ?_; intro v88
                                        refine fm_ca F_u86 (hr.1) (fun _ _ z => z) ?_; intro u90 F_u90
                                        refine fm_xl ?_; intro v92
                                        refine fm_up F_u90 (nw_nf rfl) ?_; intro h93 F_h93
                                        refine fm_ca F_h93 (ff_X13_push nn) (nw_sub rfl) ?_; intro u95 F_u95
                                        refine fm_ca F_u95 (ff_X13_stands nn) (nw_sub rfl) ?_; intro u98 F_u98
                                        exact fm_tl F_u98 (fj_X13_workOne_775 nn hr) (fun _ _ z => z)
set_option maxRecDepth 4000 in
theorem fj_X13_workCall_65 (nn : Nat) {rc : tq_X13_work} (hr : fgr_X13_work rc) {l1 : Int} {l2 : Int} {l4 : Int} {s0 : Int} {h : ms_M} : Fm_ (fun c k => nw_F wl_X13_workCall wf_X13_workCall false false c k = true) h (qj_X13_workCall_65 nn rc l1 l2 l4 s0 h) (fun r => r) := by
  unfold qj_X13_workCall_65
  have F_h : ∀ c k : Nat, (fun c k => nw_F wl_X13_workCall wf_X13_workCall false false c k = true) c k → h c k = h c k := fun _ _ _ => rfl
  refine fm_ca F_h (ff_X13_put nn) (nw_sub rfl) ?_; intro u2 F_u2
  refine fm_rd ?_; intro v4
  refine fm_ca F_u2 (ff_X13_memberConstant nn) (nw_sub rfl) ?_; intro u6 F_u6
  refine fm_ca F_u6 (ff_X13_put nn) (nw_sub rfl) ?_; intro u8 F_u8
  refine fm_rd ?_; intro v10
  refine fm_ca F_u8 (ff_X13_turn nn) (nw_sub rfl) ?_; intro u12 F_u12
  exact fm_ret F_u12
set_option maxRecDepth 4000 in
theorem fw_X13_workCall_19 (nn : Nat) {rc : tq_X13_work} (hr : fgr_X13_work rc) : ∀ (k : Nat) {l1 : Int} {l2 : Int} {l3 : Int} {l4 : Int} {l5 : Int} {h : ms_M}, Fm_ (fun c k => nw_F wl_X13_workCall wf_X13_workCall false false c k = true) h (qw_X13_workCall_19 nn rc k l1 l2 l3 l4 l5 h) (fun r => r) := by
  intro k
  induction k with
  | zero => intros; exact fm_no
  | succ k ih =>
    intro l1 l2 l3 l4 l5 h
    unfold qw_X13_workCall_19
    have F_h : ∀ c k : Nat, (fun c k => nw_F wl_X13_workCall wf_X13_workCall false false c k = true) c k → h c k = h c k := fun _ _ _ => rfl
    refine fm_if ?_ ?_
    · refine fm_if ?_ ?_
      · exact fm_tl F_h (fj_X13_workCall_65 nn hr) (fun _ _ z => z)
      · exact fm_tl F_h (fj_X13_workCall_65 nn hr) (fun _ _ z => z)
    · refine fm_rd ?_; intro v15
      refine fm_ca F_h (hr.1) (fun _ _ z => z) ?_; intro u17 F_u17
      refine fm_xl ?_; intro v18
      refine fm_rd ?_; intro v20
      exact fm_tl F_u17 (ih ) (fun _ _ z => z)
set_option maxRecDepth 4000 in
theorem fj_X13_workCall_9 (nn : Nat) {rc : tq_X13_work} (hr : fgr_X13_work rc) {l1 : Int} {l2 : Int} {l3 : Int} {s0 : Int} {h : ms_M} : Fm_ (fun c k => nw_F wl_X13_workCall wf_X13_workCall false false c k = true) h (qj_X13_workCall_9 nn rc l1 l2 l3 s0 h) (fun r => r) := by
  unfold qj_X13_workCall_9
  have F_h : ∀ c k : Nat, (fun c k => nw_F wl_X13_workCall wf_X13_workCall false false c k = true) c k → h c k = h c k := fun _ _ _ => rfl
  refine fm_rd ?_; intro v23
  exact fm_tl F_h (fw_X13_workCall_19 nn hr _) (fun _ _ z => z)
set_option maxRecDepth 4000 in
theorem fo_X13_workCall (nn : Nat) {rc : tq_X13_work} (hr : fgr_X13_work rc) {a1 : Int} {a2 : Int} {a3 : Int} {h : ms_M} : Fm_ (fun c k => nw_F wl_X13_workCall wf_X13_workCall false false c k = true) h (qo_X13_workCall nn rc a1 a2 a3 h) (fun r => r) := by
  unfold qo_X13_workCall
  have F_h : ∀ c k : Nat, (fun c k => nw_F wl_X13_workCall wf_X13_workCall false false c k = true) c k → h c k = h c k := fun _ _ _ => rfl
  refine fm_if ?_ ?_
  · exact fm_tl F_h (fj_X13_workCall_9 nn hr) (fun _ _ z => z)
  · exact fm_tl F_h (fj_X13_workCall_9 nn hr) (fun _ _ z => z)
set_option maxRecDepth 4000 in
theorem fj_X13_workBoth_315 (nn : Nat) {rc : tq_X13_work} (hr : fgr_X13_work rc) {s0 : Int} {h : ms_M} : Fm_ (fun c k => nw_F wl_X13_workBoth wf_X13_workBoth false false c k = true) h (qj_X13_workBoth_315 nn rc s0 h) (fun r => r) := by
  unfold qj_X13_workBoth_315
  have F_h : ∀ c k : Nat, (fun c k => nw_F wl_X13_workBoth wf_X13_workBoth false false c k = true) c k → h c k = h c k := fun _ _ _ => rfl
  refine fm_ca F_h (ff_X13_truth nn) (nw_sub rfl) ?_; intro u2 F_u2
  exact fm_ret F_u2
set_option maxRecDepth 4000 in
theorem fj_X13_workBoth_210 (nn : Nat) {rc : tq_X13_work} (hr : fgr_X13_work rc) {l2 : Int} {s0 : Int} {h : ms_M} : Fm_ (fun c k => nw_F wl_X13_workBoth wf_X13_workBoth false false c k = true) h (qj_X13_workBoth_210 nn rc l2 s0 h) (fun r => r) := by
  unfold qj_X13_workBoth_210
  have F_h : ∀ c k : Nat, (fun c k => nw_F wl_X13_workBoth wf_X13_workBoth false false c k = true) c k → h c k = h c k := fun _ _ _ => rfl
  refine fm_pu ?_; intro u3
  refine fm_if ?_ ?_
  · refine fm_pu ?_; intro u4
    refine fm_if ?_ ?_
    · refine fm_if ?_ ?_
      · refine fm_pu ?_; intro u5
        refine fm_if ?_ ?_
        · refine fm_if ?_ ?_
          · exact fm_tl F_h (fj_X13_workBoth_315 nn hr) (fun _ _ z => z)
          · exact fm_tl F_h (fj_X13_workBoth_315 nn hr) (fun _ _ z => z)
        · exact fm_tl F_h (fj_X13_workBoth_315 nn hr) (fun _ _ z => z)
      · exact fm_tl F_h (fj_X13_workBoth_315 nn hr) (fun _ _ z => z)
    · refine fm_if ?_ ?_
      · exact fm_tl F_h (fj_X13_workBoth_315 nn hr) (fun _ _ z => z)
      · exact fm_tl F_h (fj_X13_workBoth_315 nn hr) (fun _ _ z => z)
  · refine fm_if ?_ ?_
    · exact fm_tl F_h (fj_X13_workBoth_315 nn hr) (fun _ _ z => z)
    · exact fm_tl F_h (fj_X13_workBoth_315 nn hr) (fun _ _ z => z)
set_option maxRecDepth 4000 in
theorem fj_X13_workBoth_190 (nn : Nat) {rc : tq_X13_work} (hr : fgr_X13_work rc) {l1 : Int} {l2 : Int} {h : ms_M} : Fm_ (fun c k => nw_F wl_X13_workBoth wf_X13_workBoth false false c k = true) h (qj_X13_workBoth_190 nn rc l1 l2 h) (fun r => r) := by
  unfold qj_X13_workBoth_190
  have F_h : ∀ c k : Nat, (fun c k => nw_F wl_X13_workBoth wf_X13_workBoth false false c k = true) c k → h c k = h c k := fun _ _ _ => rfl
  refine fm_rd ?_; intro v15
  refine fm_rd ?_; intro v16
  refine fm_if ?_ ?_
  · exact fm_tl F_h (fj_X13_workBoth_210 nn hr) (fun _ _ z => z)
  · exact fm_tl F_h (fj_X13_workBoth_210 nn hr) (fun _ _ z => z)
set_option maxRecDepth 4000 in
theorem fj_X13_workBoth_136 (nn : Nat) {rc : tq_X13_work} (hr : fgr_X13_work rc) {l5 : Int} {s0 : Int} {h : ms_M} : Fm_ (fun c k => nw_F wl_X13_workBoth wf_X13_workBoth false false c k = true) h (qj_X13_workBoth_136 nn rc l5 s0 h) (fun r => r) := by
  unfold qj_X13_workBoth_136
  have F_h : ∀ c k : Nat, (fun c k => nw_F wl_X13_workBoth wf_X13_workBoth false false c k = true) c k → h c k = h c k := fun _ _ _ => rfl
  refine fm_ca F_h (ff_X13_put nn) (nw_sub rfl) ?_; intro u19 F_u19
  refine fm_ca F_u19 (ff_X13_push nn) (nw_sub rfl) ?_; intro u21 F_u21
  refine fm_ca F_u21 (ff_X13_stands nn) (nw_sub rfl) ?_; intro u24 F_u24
  exact fm_ret F_u24
set_option maxRecDepth 4000 in
theorem fj_X13_workBoth_82 (nn : Nat) {rc : tq_X13_work} (hr : fgr_X13_work rc) {l1 : Int} {l3 : Int} {l4 : Int} {l5 : Int} {s0 : Int} {h : ms_M} : Fm_ (fun c k => nw_F wl_X13_workBoth wf_X13_workBoth false false c k = true) h (qj_X13_workBoth_82 nn rc l1 l3 l4 l5 s0 h) (fun r => r) := by
  unfold qj_X13_workBoth_82
  have F_h : ∀ c k : Nat, (fun c k => nw_F wl_X13_workBoth wf_X13_workBoth false false c k = true) c k → h c k = h c k := fun _ _ _ => rfl
  refine fm_ca F_h (ff_X13_jump nn) (nw_sub rfl) ?_; intro u26 F_u26
  refine fm_rd ?_; intro v28
  refine fm_ca F_u26 (hr.1) (fun _ _ z => z) ?_; intro u30 F_u30
  refine fm_xl ?_; intro v32
  refine fm_up F_u30 (nw_nf rfl) ?_; intro h33 F_h33
  refine fm_ca F_h33 (ff_X13_jump nn) (nw_sub rfl) ?_; intro u35 F_u35
  refine fm_ca F_u35 (ff_X13_stands nn) (nw_sub rfl) ?_; intro u38 F_u38
  refine fm_if ?_ ?_
  · exact fm_tl F_u38 (fj_X13_workBoth_136 nn hr) (fun _ _ z => z)
  · exact fm_tl F_u38 (fj_X13_workBoth_136 nn hr) (fun _ _ z => z)
set_option maxRecDepth 4000 in
theorem fj_X13_workBoth_46 (nn : Nat) {rc : tq_X13_work} (hr : fgr_X13_work rc) {l1 : Int} {l3 : Int} {h : ms_M} : Fm_ (fun c k => nw_F wl_X13_workBoth wf_X13_workBoth false false c k = true) h (qj_X13_workBoth_46 nn rc l1 l3 h) (fun r => r) := by
  unfold qj_X13_workBoth_46
  have F_h : ∀ c k : Nat, (fun c k => nw_F wl_X13_workBoth wf_X13_workBoth false false c k = true) c k → h c k = h c k := fun _ _ _ => rfl
  refine fm_ca F_h (ff_X13_label nn) (nw_sub rfl) ?_; intro u41 F_u41
  refine fm_ca F_u41 (ff_X13_label nn) (nw_sub rfl) ?_; intro u43 F_u43
  refine fm_xl ?_; intro v45
  refine fm_up F_u43 (nw_nf rfl) ?_; intro h46 F_h46
  refine fm_if ?_ ?_
  · exact fm_tl F_h46 (fj_X13_workBoth_82 nn hr) (fun _ _ z => z)
  · exact fm_tl F_h46 (fj_X13_workBoth_82 nn hr) (fun _ _ z => z)
set_option maxRecDepth 4000 in
theorem fj_X13_workBoth_29 (nn : Nat) {rc : tq_X13_work} (hr : fgr_X13_work rc) {l1 : Int} {l2 : Int} {s0 : Int} {h : ms_M} : Fm_ (fun c k => nw_F wl_X13_workBoth wf_X13_workBoth false false c k = true) h (qj_X13_workBoth_29 nn rc l1 l2 s0 h) (fun r => r) := by
  unfold qj_X13_workBoth_29
  have F_h : ∀ c k : Nat, (fun c k => nw_F wl_X13_workBoth wf_X13_workBoth false false c k = true) c k → h c k = h c k := fun _ _ _ => rfl
  refine fm_if ?_ ?_
  · exact fm_tl F_h (fj_X13_workBoth_46 nn hr) (fun _ _ z => z)
  · refine fm_pu ?_; intro u48
    refine fm_if ?_ ?_
    · refine fm_rd ?_; intro v50
      refine fm_ca F_h (hr.1) (fun _ _ z => z) ?_; intro u52 F_u52
      refine fm_rd ?_; intro v54
      refine fm_pu ?_; intro u56
      refine fm_if ?_ ?_
      · exact fm_tl F_u52 (fj_X13_workBoth_190 nn hr) (fun _ _ z => z)
      · refine fm_if ?_ ?_
        · refine fm_pu ?_; intro u57
          refine fm_ca F_u52 (ff_X13_put nn) (nw_sub rfl) ?_; intro u59 F_u59
          refine fm_rd ?_; intro v61
          refine fm_ca F_u59 (ff_X13_turn nn) (nw_sub rfl) ?_; intro u63 F_u63
          exact fm_ret F_u63
        · exact fm_tl F_u52 (fj_X13_workBoth_190 nn hr) (fun _ _ z => z)
    · exact fm_tl F_h (fj_X13_workBoth_46 nn hr) (fun _ _ z => z)
set_option maxRecDepth 4000 in
theorem fo_X13_workBoth (nn : Nat) {rc : tq_X13_work} (hr : fgr_X13_work rc) {a1 : Int} {h : ms_M} : Fm_ (fun c k => nw_F wl_X13_workBoth wf_X13_workBoth false false c k = true) h (qo_X13_workBoth nn rc a1 h) (fun r => r) := by
  unfold qo_X13_workBoth
  have F_h : ∀ c k : Nat, (fun c k => nw_F wl_X13_workBoth wf_X13_workBoth false false c k = true) c k → h c k = h c k := fun _ _ _ => rfl
  refine fm_rd ?_; intro v70
  refine fm_rd ?_; intro v71
  refine fm_pu ?_; intro u72
  refine fm_if ?_ ?_
  · exact fm_tl F_h (fj_X13_workBoth_29 nn hr) (fun _ _ z => z)
  · exact fm_tl F_h (fj_X13_workBoth_29 nn hr) (fun _ _ z => z)
set_option maxRecDepth 4000 in
theorem fg_X13_work (nn : Nat) : ∀ d, fgr_X13_work (qg_X13_work nn d) := by
  intro d
  induction d with
  | zero => exact ⟨(by intros; exact fm_no), (by intros; exact fm_no), (by intros; exact fm_no), (by intros; exact fm_no)⟩
  | succ d ih => exact ⟨fo_X13_work nn ih, fo_X13_workOne nn ih, fo_X13_workCall nn ih, fo_X13_workBoth nn ih⟩
set_option maxRecDepth 4000 in
theorem ff_X13_work (nn : Nat) {a1 : Int} {h : ms_M} : Fm_ (fun c k => nw_F wl_X13_work wf_X13_work false false c k = true) h (qf_X13_work nn a1 h) (fun r => r) := (fg_X13_work nn 1450).1
set_option maxRecDepth 4000 in
theorem ff_X13_workOne (nn : Nat) {a1 : Int} {h : ms_M} : Fm_ (fun c k => nw_F wl_X13_workOne wf_X13_workOne false false c k = true) h (qf_X13_workOne nn a1 h) (fun r => r) := (fg_X13_work nn 1450).2.1
set_option maxRecDepth 4000 in
theorem ff_X13_workCall (nn : Nat) {a1 : Int} {a2 : Int} {a3 : Int} {h : ms_M} : Fm_ (fun c k => nw_F wl_X13_workCall wf_X13_workCall false false c k = true) h (qf_X13_workCall nn a1 a2 a3 h) (fun r => r) := (fg_X13_work nn 1450).2.2.1
set_option maxRecDepth 4000 in
theorem ff_X13_workBoth (nn : Nat) {a1 : Int} {h : ms_M} : Fm_ (fun c k => nw_F wl_X13_workBoth wf_X13_workBoth false false c k = true) h (qf_X13_workBoth nn a1 h) (fun r => r) := (fg_X13_work nn 1450).2.2.2
set_option maxRecDepth 4000 in
theorem fj_X13_assign_241 (nn : Nat) {s0 : Int} {h : ms_M} : Fm_ (fun c k => nw_F wl_X13_assign wf_X13_assign false false c k = true) h (qj_X13_assign_241 nn s0 h) (fun r => r) := by
  unfold qj_X13_assign_241
  have F_h : ∀ c k : Nat, (fun c k => nw_F wl_X13_assign wf_X13_assign false false c k = true) c k → h c k = h c k := fun _ _ _ => rfl
  refine fm_ca F_h (ff_X13_put nn) (nw_sub rfl) ?_; intro u2 F_u2
  refine fm_xl ?_; intro v4
  refine fm_up F_u2 (nw_nf rfl) ?_; intro h5 F_h5
  exact fm_ret F_h5
set_option maxRecDepth 4000 in
theorem fj_X13_assign_209 (nn : Nat) {l1 : Int} {l2 : Int} {h : ms_M} : Fm_ (fun c k => nw_F wl_X13_assign wf_X13_assign false false c k = true) h (qj_X13_assign_209 nn l1 l2 h) (fun r => r) := by
  unfold qj_X13_assign_209
  have F_h : ∀ c k : Nat, (fun c k => nw_F wl_X13_assign wf_X13_assign false false c k = true) c k → h c k = h c k := fun _ _ _ => rfl
  refine fm_rd ?_; intro v7
  refine fm_ca F_h (ff_X13_work nn) (nw_sub rfl) ?_; intro u9 F_u9
  refine fm_ca F_u9 (ff_X13_work nn) (nw_sub rfl) ?_; intro u11 F_u11
  refine fm_rd ?_; intro v13
  refine fm_if ?_ ?_
  · exact fm_tl F_u11 (fj_X13_assign_241 nn) (fun _ _ z => z)
  · exact fm_tl F_u11 (fj_X13_assign_241 nn) (fun _ _ z => z)
set_option maxRecDepth 4000 in
theorem fj_X13_assign_65 (nn : Nat) {l1 : Int} {s0 : Int} {h : ms_M} : Fm_ (fun c k => nw_F wl_X13_assign wf_X13_assign false false c k = true) h (qj_X13_assign_65 nn l1 s0 h) (fun r => r) := by
  unfold qj_X13_assign_65
  have F_h : ∀ c k : Nat, (fun c k => nw_F wl_X13_assign wf_X13_assign false false c k = true) c k → h c k = h c k := fun _ _ _ => rfl
  refine fm_ca F_h (ff_X13_put nn) (nw_sub rfl) ?_; intro u16 F_u16
  refine fm_rd ?_; intro v18
  refine fm_ca F_u16 (ff_X13_put nn) (nw_sub rfl) ?_; intro u20 F_u20
  refine fm_xl ?_; intro v22
  refine fm_up F_u20 (nw_nf rfl) ?_; intro h23 F_h23
  exact fm_ret F_h23
set_option maxRecDepth 4000 in
theorem ff_X13_assign (nn : Nat) {a1 : Int} {a2 : Int} {h : ms_M} : Fm_ (fun c k => nw_F wl_X13_assign wf_X13_assign false false c k = true) h (qf_X13_assign nn a1 a2 h) (fun r => r) := by
  unfold qf_X13_assign
  have F_h : ∀ c k : Nat, (fun c k => nw_F wl_X13_assign wf_X13_assign false false c k = true) c k → h c k = h c k := fun _ _ _ => rfl
  refine fm_rd ?_; intro v25
  refine fm_if ?_ ?_
  · refine fm_rd ?_; intro v31
    refine fm_if ?_ ?_
    · refine fm_ca F_h (ff_X13_self nn) (nw_sub rfl) ?_; intro u33 F_u33
      refine fm_ca F_u33 (ff_X13_work nn) (nw_sub rfl) ?_; intro u35 F_u35
      refine fm_ca F_u35 (ff_X13_put nn) (nw_sub rfl) ?_; intro u37 F_u37
      refine fm_rd ?_; intro v40
      refine fm_ca F_u37 (ff_X13_memberConstant nn) (nw_sub rfl) ?_; intro u42 F_u42
      refine fm_ca F_u42 (ff_X13_put nn) (nw_sub rfl) ?_; intro u44 F_u44
      refine fm_xl ?_; intro v46
      refine fm_up F_u44 (nw_nf rfl) ?_; intro h47 F_h47
      exact fm_ret F_h47
    · refine fm_ca F_h (ff_X13_work nn) (nw_sub rfl) ?_; intro u49 F_u49
      refine fm_rd ?_; intro v51
      refine fm_if ?_ ?_
      · exact fm_tl F_u49 (fj_X13_assign_65 nn) (fun _ _ z => z)
      · exact fm_tl F_u49 (fj_X13_assign_65 nn) (fun _ _ z => z)
  · refine fm_if ?_ ?_
    · refine fm_rd ?_; intro v55
      refine fm_ca F_h (ff_X13_work nn) (nw_sub rfl) ?_; intro u57 F_u57
      refine fm_rd ?_; intro v60
      refine fm_rd ?_; intro v61
      refine fm_xl ?_; intro v62
      refine fm_xl ?_; intro v63
      refine fm_ca F_u57 (ff_X13_work nn) (nw_sub rfl) ?_; intro u65 F_u65
      refine fm_ca F_u65 (ff_X13_put nn) (nw_sub rfl) ?_; intro u67 F_u67
      refine fm_rd ?_; intro v69
      refine fm_ca F_u67 (ff_X13_memberConstant nn) (nw_sub rfl) ?_; intro u71 F_u71
      refine fm_ca F_u71 (ff_X13_put nn) (nw_sub rfl) ?_; intro u73 F_u73
      refine fm_xl ?_; intro v75
      refine fm_up F_u73 (nw_nf rfl) ?_; intro h76 F_h76
      exact fm_ret F_h76
    · refine fm_rd ?_; intro v27
      refine fm_ca F_h (ff_X13_work nn) (nw_sub rfl) ?_; intro u29 F_u29
      exact fm_tl F_u29 (fj_X13_assign_209 nn) (fun _ _ z => z)
set_option maxRecDepth 4000 in
theorem fj_X13_store_13 (nn : Nat) {l2 : Int} {s0 : Int} {h : ms_M} : Fm_ (fun c k => nw_F wl_X13_store wf_X13_store false false c k = true) h (qj_X13_store_13 nn l2 s0 h) (fun r => r) := by
  unfold qj_X13_store_13
  have F_h : ∀ c k : Nat, (fun c k => nw_F wl_X13_store wf_X13_store false false c k = true) c k → h c k = h c k := fun _ _ _ => rfl
  refine fm_ca F_h (ff_X13_put nn) (nw_sub rfl) ?_; intro u2 F_u2
  refine fm_pu ?_; intro u4
  refine fm_ca F_u2 (ff_X13_put nn) (nw_sub rfl) ?_; intro u6 F_u6
  refine fm_xl ?_; intro v8
  refine fm_up F_u6 (nw_nf rfl) ?_; intro h9 F_h9
  exact fm_ret F_h9
set_option maxRecDepth 4000 in
theorem ff_X13_store (nn : Nat) {a1 : Int} {a2 : Int} {h : ms_M} : Fm_ (fun c k => nw_F wl_X13_store wf_X13_store false false c k = true) h (qf_X13_store nn a1 a2 h) (fun r => r) := by
  unfold qf_X13_store
  have F_h : ∀ c k : Nat, (fun c k => nw_F wl_X13_store wf_X13_store false false c k = true) c k → h c k = h c k := fun _ _ _ => rfl
  refine fm_if ?_ ?_
  · exact fm_tl F_h (fj_X13_store_13 nn) (fun _ _ z => z)
  · exact fm_tl F_h (fj_X13_store_13 nn) (fun _ _ z => z)
def fgr_X13_make (rc : tq_X13_make) : Prop := (∀ {a1 : Int} {h : ms_M}, Fm_ (fun c k => nw_F wl_X13_make wf_X13_make false false c k = true) h (rc.1 a1 h) (fun r => r.2)) ∧ (∀ {a1 : Int} {a2 : Int} {h : ms_M}, Fm_ (fun c k => nw_F wl_X13_makeLoop wf_X13_makeLoop false false c k = true) h (rc.2.1 a1 a2 h) (fun r => r.2)) ∧ (∀ {a1 : Int} {a2 : Int} {h : ms_M}, Fm_ (fun c k => nw_F wl_X13_guard wf_X13_guard false false c k = true) h (rc.2.2 a1 a2 h) (fun r => r.2))
set_option maxRecDepth 4000 in
theorem fj_X13_make_459 (nn : Nat) {rc : tq_X13_make} (hr : fgr_X13_make rc) {h : ms_M} : Fm_ (fun c k => nw_F wl_X13_make wf_X13_make false false c k = true) h (qj_X13_make_459 nn rc h) (fun r => r.2) := by
  unfold qj_X13_make_459
  have F_h : ∀ c k : Nat, (fun c k => nw_F wl_X13_make wf_X13_make false false c k = true) c k → h c k = h c k := fun _ _ _ => rfl
  refine fm_xl ?_; intro v2
  refine fm_up F_h (nw_nf rfl) ?_; intro h3 F_h3
  refine fm_ca F_h3 (ff_X13_put nn) (nw_sub rfl) ?_; intro u5 F_u5
  exact fm_ret F_u5
set_option maxRecDepth 4000 in
theorem fj_X13_make_305 (nn : Nat) {rc : tq_X13_make} (hr : fgr_X13_make rc) {l1 : Int} {h : ms_M} : Fm_ (fun c k => nw_F wl_X13_make wf_X13_make false false c k = true) h (qj_X13_make_305 nn rc l1 h) (fun r => r.2) := by
  unfold qj_X13_make_305
  have F_h : ∀ c k : Nat, (fun c k => nw_F wl_X13_make wf_X13_make false false c k = true) c k → h c k = h c k := fun _ _ _ => rfl
  refine fm_rd ?_; intro v7
  refine fm_if ?_ ?_
  · refine fm_rd ?_; intro v10
    refine fm_ca F_h (ff_X13_jump nn) (nw_sub rfl) ?_; intro u12 F_u12
    exact fm_ret F_u12
  · refine fm_rd ?_; intro v15
    refine fm_ca F_h (ff_X13_jump nn) (nw_sub rfl) ?_; intro u17 F_u17
    exact fm_ret F_u17
set_option maxRecDepth 4000 in
theorem fj_X13_make_246 (nn : Nat) {rc : tq_X13_make} (hr : fgr_X13_make rc) {l1 : Int} {l2 : Int} {l3 : Int} {l5 : Int} {l6 : Int} {h : ms_M} : Fm_ (fun c k => nw_F wl_X13_make wf_X13_make false false c k = true) h (qj_X13_make_246 nn rc l1 l2 l3 l5 l6 h) (fun r => r.2) := by
  unfold qj_X13_make_246
  have F_h : ∀ c k : Nat, (fun c k => nw_F wl_X13_make wf_X13_make false false c k = true) c k → h c k = h c k := fun _ _ _ => rfl
  refine fm_ca F_h (ff_X13_stands nn) (nw_sub rfl) ?_; intro u21 F_u21
  refine fm_rd ?_; intro v23
  refine fm_ca F_u21 (hr.1) (fun _ _ z => z) ?_; intro u25 F_u25
  refine fm_up F_u25 (nw_nf rfl) ?_; intro h26 F_h26
  refine fm_ca F_h26 (ff_X13_stands nn) (nw_sub rfl) ?_; intro u29 F_u29
  refine fm_if ?_ ?_
  · exact fm_ret F_u29
  · refine fm_if ?_ ?_
    · exact fm_ret F_u29
    · exact fm_ret F_u29
set_option maxRecDepth 4000 in
theorem fj_X13_make_225 (nn : Nat) {rc : tq_X13_make} (hr : fgr_X13_make rc) {h : ms_M} : Fm_ (fun c k => nw_F wl_X13_make wf_X13_make false false c k = true) h (qj_X13_make_225 nn rc h) (fun r => r.2) := by
  unfold qj_X13_make_225
  have F_h : ∀ c k : Nat, (fun c k => nw_F wl_X13_make wf_X13_make false false c k = true) c k → h c k = h c k := fun _ _ _ => rfl
  exact fm_ret F_h
set_option maxRecDepth 4000 in
theorem fw_X13_make_80 (nn : Nat) {rc : tq_X13_make} (hr : fgr_X13_make rc) : ∀ (k : Nat) {l2 : Int} {l3 : Int} {l7 : Int} {h : ms_M}, Fm_ (fun c k => nw_F wl_X13_make wf_X13_make false false c k = true) h (qw_X13_make_80 nn rc k l2 l3 l7 h) (fun r => r.2) := by
  intro k
  induction k with
  | zero => intros; exact fm_no
  | succ k ih =>
    intro l2 l3 l7 h
    unfold qw_X13_make_80
    have F_h : ∀ c k : Nat, (fun c k => nw_F wl_X13_make wf_X13_make false false c k = true) c k → h c k = h c k := fun _ _ _ => rfl
    refine fm_if ?_ ?_
    · refine fm_up F_h (nw_nf rfl) ?_; intro h32 F_h32
      refine fm_ck ?_; intro _
      exact fm_ret F_h32
    · refine fm_ca F_h (hr.1) (fun _ _ z => z) ?_; intro u35 F_u35
      refine fm_rd ?_; intro v37
      exact fm_tl F_u35 (ih ) (fun _ _ z => z)
set_option maxRecDepth 4000 in
theorem fo_X13_make (nn : Nat) {rc : tq_X13_make} (hr : fgr_X13_make rc) {a1 : Int} {h : ms_M} : Fm_ (fun c k => nw_F wl_X13_make wf_X13_make false false c k = true) h (qo_X13_make nn rc a1 h) (fun r => r.2) := by
  unfold qo_X13_make
  have F_h : ∀ c k : Nat, (fun c k => nw_F wl_X13_make wf_X13_make false false c k = true) c k → h c k = h c k := fun _ _ _ => rfl
  refine fm_rd ?_; intro v41
  refine fm_if ?_ ?_
  · refine fm_rd ?_; intro v49
    exact fm_tl F_h (fw_X13_make_80 nn hr _) (fun _ _ z => z)
  · refine fm_if ?_ ?_
    · refine fm_rd ?_; intro v51
      refine fm_ca F_h (ff_X13_work nn) (nw_sub rfl) ?_; intro u53 F_u53
      refine fm_rd ?_; intro v55
      refine fm_ca F_u53 (ff_X13_store nn) (nw_sub rfl) ?_; intro u58 F_u58
      refine fm_rd ?_; intro v60
      refine fm_rd ?_; intro v62
      refine fm_ca F_u58 (ff_X13_comes nn) (nw_sub rfl) ?_; intro u64 F_u64
      exact fm_ret F_u64
    · refine fm_if ?_ ?_
      · refine fm_ca F_h (ff_X13_label nn) (nw_sub rfl) ?_; intro u66 F_u66
        refine fm_rd ?_; intro v68
        refine fm_ca F_u66 (ff_X13_work nn) (nw_sub rfl) ?_; intro u70 F_u70
        refine fm_xl ?_; intro v72
        refine fm_up F_u70 (nw_nf rfl) ?_; intro h73 F_h73
        refine fm_ca F_h73 (ff_X13_jump nn) (nw_sub rfl) ?_; intro u75 F_u75
        refine fm_rd ?_; intro v77
        refine fm_ca F_u75 (hr.1) (fun _ _ z => z) ?_; intro u79 F_u79
        refine fm_up F_u79 (nw_nf rfl) ?_; intro h80 F_h80
        refine fm_rd ?_; intro v82
        refine fm_if ?_ ?_
        · refine fm_ca F_h80 (ff_X13_label nn) (nw_sub rfl) ?_; intro u84 F_u84
          refine fm_if ?_ ?_
          · exact fm_tl F_u84 (fj_X13_make_246 nn hr) (fun _ _ z => z)
          · refine fm_ca F_u84 (ff_X13_jump nn) (nw_sub rfl) ?_; intro u86 F_u86
            exact fm_tl F_u86 (fj_X13_make_246 nn hr) (fun _ _ z => z)
        · refine fm_ca F_h80 (ff_X13_stands nn) (nw_sub rfl) ?_; intro u90 F_u90
          exact fm_tl F_u90 (fj_X13_make_225 nn hr) (fun _ _ z => z)
      · refine fm_if ?_ ?_
        · refine fm_ca F_h (hr.2.1) (fun _ _ z => z) ?_; intro u93 F_u93
          refine fm_ck ?_; intro _
          exact fm_ret F_u93
        · refine fm_if ?_ ?_
          · exact fm_tl F_h (fj_X13_make_305 nn hr) (fun _ _ z => z)
          · refine fm_if ?_ ?_
            · exact fm_tl F_h (fj_X13_make_305 nn hr) (fun _ _ z => z)
            · refine fm_if ?_ ?_
              · refine fm_rd ?_; intro v96
                refine fm_if ?_ ?_
                · refine fm_rd ?_; intro v98
                  refine fm_ca F_h (ff_X13_work nn) (nw_sub rfl) ?_; intro u100 F_u100
                  refine fm_xl ?_; intro v102
                  refine fm_up F_u100 (nw_nf rfl) ?_; intro h103 F_h103
                  refine fm_rd ?_; intro v106
                  refine fm_if ?_ ?_
                  · refine fm_ca F_h103 (ff_X13_put nn) (nw_sub rfl) ?_; intro u108 F_u108
                    exact fm_ret F_u108
                  · refine fm_ca F_h103 (ff_X13_put nn) (nw_sub rfl) ?_; intro u110 F_u110
                    exact fm_ret F_u110
                · refine fm_ca F_h (ff_X13_put nn) (nw_sub rfl) ?_; intro u113 F_u113
                  exact fm_ret F_u113
              · refine fm_if ?_ ?_
                · refine fm_rd ?_; intro v116
                  refine fm_ca F_h (ff_X13_work nn) (nw_sub rfl) ?_; intro u118 F_u118
                  refine fm_xl ?_; intro v120
                  refine fm_up F_u118 (nw_nf rfl) ?_; intro h121 F_h121
                  refine fm_ca F_h121 (ff_X13_put nn) (nw_sub rfl) ?_; intro u123 F_u123
                  exact fm_ret F_u123
                · refine fm_if ?_ ?_
                  · refine fm_ca F_h (hr.2.2) (fun _ _ z => z) ?_; intro u125 F_u125
                    refine fm_ck ?_; intro _
                    exact fm_ret F_u125
                  · refine fm_if ?_ ?_
                    · refine fm_rd ?_; intro v128
                      refine fm_ca F_h (ff_X13_work nn) (nw_sub rfl) ?_; intro u130 F_u130
                      exact fm_tl F_u130 (fj_X13_make_459 nn hr) (fun _ _ z => z)
                    · refine fm_if ?_ ?_
                      · refine fm_rd ?_; intro v132
                        refine fm_ca F_h (ff_X13_work nn) (nw_sub rfl) ?_; intro u134 F_u134
                        refine fm_rd ?_; intro v137
                        refine fm_rd ?_; intro v138
                        refine fm_if ?_ ?_
                        · exact fm_ret F_u134
                        · refine fm_ca F_u134 (ff_X13_put nn) (nw_sub rfl) ?_; intro u140 F_u140
                          refine fm_xl ?_; intro v142
                          refine fm_up F_u140 (nw_nf rfl) ?_; intro h143 F_h143
                          exact fm_ret F_h143
                      · refine fm_rd ?_; intro v43
                        refine fm_rd ?_; intro v45
                        refine fm_ca F_h (ff_X13_assign nn) (nw_sub rfl) ?_; intro u47 F_u47
                        exact fm_ret F_u47
set_option maxRecDepth 4000 in
theorem fj_X13_makeLoop_126 (nn : Nat) {rc : tq_X13_make} (hr : fgr_X13_make rc) {l1 : Int} {l3 : Int} {l4 : Int} {l5 : Int} {h : ms_M} : Fm_ (fun c k => nw_F wl_X13_makeLoop wf_X13_makeLoop false false c k = true) h (qj_X13_makeLoop_126 nn rc l1 l3 l4 l5 h) (fun r => r.2) := by
  unfold qj_X13_makeLoop_126
  have F_h : ∀ c k : Nat, (fun c k => nw_F wl_X13_makeLoop wf_X13_makeLoop false false c k = true) c k → h c k = h c k := fun _ _ _ => rfl
  refine fm_ca F_h (ff_X13_stands nn) (nw_sub rfl) ?_; intro u2 F_u2
  refine fm_ca F_u2 (ff_X13_stands nn) (nw_sub rfl) ?_; intro u5 F_u5
  refine fm_rd ?_; intro v7
  refine fm_if ?_ ?_
  · exact fm_ret F_u5
  · refine fm_rd ?_; intro v9
    refine fm_if ?_ ?_
    · exact fm_ret F_u5
    · exact fm_ret F_u5
set_option maxRecDepth 4000 in
theorem fj_X13_makeLoop_55 (nn : Nat) {rc : tq_X13_make} (hr : fgr_X13_make rc) {l1 : Int} {l2 : Int} {l3 : Int} {l4 : Int} {l5 : Int} {h : ms_M} : Fm_ (fun c k => nw_F wl_X13_makeLoop wf_X13_makeLoop false false c k = true) h (qj_X13_makeLoop_55 nn rc l1 l2 l3 l4 l5 h) (fun r => r.2) := by
  unfold qj_X13_makeLoop_55
  have F_h : ∀ c k : Nat, (fun c k => nw_F wl_X13_makeLoop wf_X13_makeLoop false false c k = true) c k → h c k = h c k := fun _ _ _ => rfl
  refine fm_xl ?_; intro v13
  refine fm_up F_h (nw_nf rfl) ?_; intro h14 F_h14
  refine fm_wA F_h14 (nw_ne rfl) ?_; intro h17 F_h17
  refine fm_wA F_h17 (nw_ne rfl) ?_; intro h20 F_h20
  refine fm_rd ?_; intro v22
  refine fm_ca F_h20 (hr.1) (fun _ _ z => z) ?_; intro u24 F_u24
  refine fm_xl ?_; intro v26
  refine fm_up F_u24 (nw_nf rfl) ?_; intro h27 F_h27
  refine fm_up F_h27 (nw_nf rfl) ?_; intro h28 F_h28
  refine fm_if ?_ ?_
  · exact fm_tl F_h28 (fj_X13_makeLoop_126 nn hr) (fun _ _ z => z)
  · refine fm_ca F_h28 (ff_X13_jump nn) (nw_sub rfl) ?_; intro u30 F_u30
    exact fm_tl F_u30 (fj_X13_makeLoop_126 nn hr) (fun _ _ z => z)
set_option maxRecDepth 4000 in
theorem fo_X13_makeLoop (nn : Nat) {rc : tq_X13_make} (hr : fgr_X13_make rc) {a1 : Int} {a2 : Int} {h : ms_M} : Fm_ (fun c k => nw_F wl_X13_makeLoop wf_X13_makeLoop false false c k = true) h (qo_X13_makeLoop nn rc a1 a2 h) (fun r => r.2) := by
  unfold qo_X13_makeLoop
  have F_h : ∀ c k : Nat, (fun c k => nw_F wl_X13_makeLoop wf_X13_makeLoop false false c k = true) c k → h c k = h c k := fun _ _ _ => rfl
  refine fm_ca F_h (ff_X13_label nn) (nw_sub rfl) ?_; intro u33 F_u33
  refine fm_ca F_u33 (ff_X13_label nn) (nw_sub rfl) ?_; intro u35 F_u35
  refine fm_rd ?_; intro v38
  refine fm_if ?_ ?_
  · exact fm_tl F_u35 (fj_X13_makeLoop_55 nn hr) (fun _ _ z => z)
  · refine fm_rd ?_; intro v40
    refine fm_ca F_u35 (ff_X13_work nn) (nw_sub rfl) ?_; intro u42 F_u42
    refine fm_xl ?_; intro v44
    refine fm_up F_u42 (nw_nf rfl) ?_; intro h45 F_h45
    refine fm_ca F_h45 (ff_X13_jump nn) (nw_sub rfl) ?_; intro u47 F_u47
    exact fm_tl F_u47 (fj_X13_makeLoop_55 nn hr) (fun _ _ z => z)
set_option maxRecDepth 4000 in
theorem fj_X13_guard_47 (nn : Nat) {rc : tq_X13_make} (hr : fgr_X13_make rc) {l1 : Int} {l2 : Int} {l3 : Int} {l4 : Int} {l5 : Int} {l6 : Int} {h : ms_M} : Fm_ (fun c k => nw_F wl_X13_guard wf_X13_guard false false c k = true) h (qj_X13_guard_47 nn rc l1 l2 l3 l4 l5 l6 h) (fun r => r.2) := by
  unfold qj_X13_guard_47
  have F_h : ∀ c k : Nat, (fun c k => nw_F wl_X13_guard wf_X13_guard false false c k = true) c k → h c k = h c k := fun _ _ _ => rfl
  refine fm_xl ?_; intro v3
  refine fm_up F_h (nw_nf rfl) ?_; intro h4 F_h4
  refine fm_wA F_h4 (nw_ne rfl) ?_; intro h6 F_h6
  refine fm_wA F_h6 (nw_ne rfl) ?_; intro h8 F_h8
  refine fm_wA F_h8 (nw_ne rfl) ?_; intro h11 F_h11
  refine fm_rd ?_; intro v14
  refine fm_wA F_h11 (nw_ne rfl) ?_; intro h15 F_h15
  refine fm_rd ?_; intro v17
  refine fm_ca F_h15 (ff_X13_push nn) (nw_sub rfl) ?_; intro u19 F_u19
  refine fm_ca F_u19 (ff_X13_frame nn) (nw_sub rfl) ?_; intro u22 F_u22
  refine fm_ca F_u22 (ff_X13_store nn) (nw_sub rfl) ?_; intro u25 F_u25
  refine fm_rd ?_; intro v27
  refine fm_rd ?_; intro v29
  refine fm_ca F_u25 (ff_X13_comes nn) (nw_sub rfl) ?_; intro u31 F_u31
  refine fm_rd ?_; intro v33
  refine fm_ca F_u31 (hr.1) (fun _ _ z => z) ?_; intro u35 F_u35
  refine fm_up F_u35 (nw_nf rfl) ?_; intro h36 F_h36
  refine fm_ca F_h36 (ff_X13_stands nn) (nw_sub rfl) ?_; intro u39 F_u39
  refine fm_if ?_ ?_
  · exact fm_ret F_u39
  · refine fm_if ?_ ?_
    · exact fm_ret F_u39
    · exact fm_ret F_u39
set_option maxRecDepth 4000 in
theorem fo_X13_guard (nn : Nat) {rc : tq_X13_make} (hr : fgr_X13_make rc) {a1 : Int} {a2 : Int} {h : ms_M} : Fm_ (fun c k => nw_F wl_X13_guard wf_X13_guard false false c k = true) h (qo_X13_guard nn rc a1 a2 h) (fun r => r.2) := by
  unfold qo_X13_guard
  have F_h : ∀ c k : Nat, (fun c k => nw_F wl_X13_guard wf_X13_guard false false c k = true) c k → h c k = h c k := fun _ _ _ => rfl
  refine fm_ca F_h (ff_X13_label nn) (nw_sub rfl) ?_; intro u43 F_u43
  refine fm_ca F_u43 (ff_X13_put nn) (nw_sub rfl) ?_; intro u46 F_u46
  refine fm_rd ?_; intro v48
  refine fm_ca F_u46 (hr.1) (fun _ _ z => z) ?_; intro u50 F_u50
  refine fm_if ?_ ?_
  · exact fm_tl F_u50 (fj_X13_guard_47 nn hr) (fun _ _ z => z)
  · refine fm_ca F_u50 (ff_X13_jump nn) (nw_sub rfl) ?_; intro u53 F_u53
    exact fm_tl F_u53 (fj_X13_guard_47 nn hr) (fun _ _ z => z)
set_option maxRecDepth 4000 in
theorem fg_X13_make (nn : Nat) : ∀ d, fgr_X13_make (qg_X13_make nn d) := by
  intro d
  induction d with
  | zero => exact ⟨(by intros; exact fm_no), (by intros; exact fm_no), (by intros; exact fm_no)⟩
  | succ d ih => exact ⟨fo_X13_make nn ih, fo_X13_makeLoop nn ih, fo_X13_guard nn ih⟩
set_option maxRecDepth 4000 in
theorem ff_X13_make (nn : Nat) {a1 : Int} {h : ms_M} : Fm_ (fun c k => nw_F wl_X13_make wf_X13_make false false c k = true) h (qf_X13_make nn a1 h) (fun r => r.2) := (fg_X13_make nn 200).1
set_option maxRecDepth 4000 in
theorem ff_X13_makeLoop (nn : Nat) {a1 : Int} {a2 : Int} {h : ms_M} : Fm_ (fun c k => nw_F wl_X13_makeLoop wf_X13_makeLoop false false c k = true) h (qf_X13_makeLoop nn a1 a2 h) (fun r => r.2) := (fg_X13_make nn 200).2.1
set_option maxRecDepth 4000 in
theorem ff_X13_guard (nn : Nat) {a1 : Int} {a2 : Int} {h : ms_M} : Fm_ (fun c k => nw_F wl_X13_guard wf_X13_guard false false c k = true) h (qf_X13_guard nn a1 a2 h) (fun r => r.2) := (fg_X13_make nn 200).2.2
set_option maxRecDepth 4000 in
theorem fj_X13_tell_26 (nn : Nat) {h : ms_M} : Fm_ (fun c k => nw_F wl_X13_tell wf_X13_tell false false c k = true) h (qj_X13_tell_26 nn h) (fun r => r) := by
  unfold qj_X13_tell_26
  have F_h : ∀ c k : Nat, (fun c k => nw_F wl_X13_tell wf_X13_tell false false c k = true) c k → h c k = h c k := fun _ _ _ => rfl
  refine fm_xl ?_; intro v2
  refine fm_up F_h (nw_nf rfl) ?_; intro h3 F_h3
  exact fm_ret F_h3
set_option maxRecDepth 4000 in
theorem ff_X13_tell (nn : Nat) {a1 : Int} {h : ms_M} : Fm_ (fun c k => nw_F wl_X13_tell wf_X13_tell false false c k = true) h (qf_X13_tell nn a1 h) (fun r => r) := by
  unfold qf_X13_tell
  have F_h : ∀ c k : Nat, (fun c k => nw_F wl_X13_tell wf_X13_tell false false c k = true) c k → h c k = h c k := fun _ _ _ => rfl
  refine fm_if ?_ ?_
  · exact fm_tl F_h (fj_X13_tell_26 nn) (fun _ _ z => z)
  · refine fm_xl ?_; intro v9
    refine fm_wA F_h (nw_ne rfl) ?_; intro h10 F_h10
    exact fm_tl F_h10 (fj_X13_tell_26 nn) (fun _ _ z => z)
set_option maxRecDepth 4000 in
theorem ff_X13_tellPair (nn : Nat) {a1 : Int} {h : ms_M} : Fm_ (fun c k => nw_F wl_X13_tellPair wf_X13_tellPair false false c k = true) h (qf_X13_tellPair nn a1 h) (fun r => r) := by
  unfold qf_X13_tellPair
  have F_h : ∀ c k : Nat, (fun c k => nw_F wl_X13_tellPair wf_X13_tellPair false false c k = true) c k → h c k = h c k := fun _ _ _ => rfl
  refine fm_xl ?_; intro v1
  refine fm_ca F_h (ff_X13_tell nn) (nw_sub rfl) ?_; intro u3 F_u3
  refine fm_ca F_u3 (ff_X13_tell nn) (nw_sub rfl) ?_; intro u5 F_u5
  exact fm_ret F_u5
set_option maxRecDepth 4000 in
theorem fj_X13_tellType_20 (nn : Nat) {l1 : Int} {s0 : Int} {h : ms_M} : Fm_ (fun c k => nw_F wl_X13_tellType wf_X13_tellType false false c k = true) h (qj_X13_tellType_20 nn l1 s0 h) (fun r => r) := by
  unfold qj_X13_tellType_20
  have F_h : ∀ c k : Nat, (fun c k => nw_F wl_X13_tellType wf_X13_tellType false false c k = true) c k → h c k = h c k := fun _ _ _ => rfl
  refine fm_ca F_h (ff_X13_tell nn) (nw_sub rfl) ?_; intro u2 F_u2
  refine fm_if ?_ ?_
  · exact fm_ret F_u2
  · refine fm_ca F_u2 (ff_X13_classConstant nn) (nw_sub rfl) ?_; intro u4 F_u4
    refine fm_ca F_u4 (ff_X13_tell nn) (nw_sub rfl) ?_; intro u6 F_u6
    exact fm_ret F_u6
set_option maxRecDepth 4000 in
theorem ff_X13_tellType (nn : Nat) {a1 : Int} {h : ms_M} : Fm_ (fun c k => nw_F wl_X13_tellType wf_X13_tellType false false c k = true) h (qf_X13_tellType nn a1 h) (fun r => r) := by
  unfold qf_X13_tellType
  have F_h : ∀ c k : Nat, (fun c k => nw_F wl_X13_tellType wf_X13_tellType false false c k = true) c k → h c k = h c k := fun _ _ _ => rfl
  refine fm_if ?_ ?_
  · refine fm_if ?_ ?_
    · exact fm_tl F_h (fj_X13_tellType_20 nn) (fun _ _ z => z)
    · exact fm_tl F_h (fj_X13_tellType_20 nn) (fun _ _ z => z)
  · exact fm_tl F_h (fj_X13_tellType_20 nn) (fun _ _ z => z)
set_option maxRecDepth 4000 in
theorem fw_X13_makeMethod_561 (nn : Nat) {qkk_412 : Int → Int → ms_M → Option ms_M} (hk_kk_412 : ∀ {l5 : Int} {l6 : Int} {h : ms_M}, Fm_ (fun c k => nw_F wl_X13_makeMethod wf_X13_makeMethod false false c k = true) h (qkk_412 l5 l6 h) (fun r => r)) : ∀ (k : Nat) {l5 : Int} {l6 : Int} {l7 : Int} {l8 : Int} {h : ms_M}, Fm_ (fun c k => nw_F wl_X13_makeMethod wf_X13_makeMethod false false c k = true) h (qw_X13_makeMethod_561 nn qkk_412 k l5 l6 l7 l8 h) (fun r => r) := by
  intro k
  induction k with
  | zero => intros; exact fm_no
  | succ k ih =>
    intro l5 l6 l7 l8 h
    unfold qw_X13_makeMethod_561
    have F_h : ∀ c k : Nat, (fun c k => nw_F wl_X13_makeMethod wf_X13_makeMethod false false c k = true) c k → h c k = h c k := fun _ _ _ => rfl
    refine fm_rd ?_; intro v2
    refine fm_if ?_ ?_
    · refine fm_xl ?_; intro v3
      exact fm_tl F_h (hk_kk_412) (fun _ _ z => z)
    · refine fm_rd ?_; intro v6
      refine fm_rd ?_; intro v8
      refine fm_xl ?_; intro v9
      refine fm_xl ?_; intro v10
      refine fm_rd ?_; intro v11
      refine fm_ca F_h (ff_X13_tellType nn) (nw_sub rfl) ?_; intro u13 F_u13
      refine fm_xl ?_; intro v14
      exact fm_tl F_u13 (ih ) (fun _ _ z => z)
set_option maxRecDepth 4000 in
theorem fw_X13_makeMethod_510 (nn : Nat) {qkk_412 : Int → Int → ms_M → Option ms_M} (hk_kk_412 : ∀ {l5 : Int} {l6 : Int} {h : ms_M}, Fm_ (fun c k => nw_F wl_X13_makeMethod wf_X13_makeMethod false false c k = true) h (qkk_412 l5 l6 h) (fun r => r)) : ∀ (k : Nat) {l5 : Int} {l6 : Int} {l7 : Int} {l8 : Int} {h : ms_M}, Fm_ (fun c k => nw_F wl_X13_makeMethod wf_X13_makeMethod false false c k = true) h (qw_X13_makeMethod_510 nn qkk_412 k l5 l6 l7 l8 h) (fun r => r) := by
  intro k
  induction k with
  | zero => intros; exact fm_no
  | succ k ih =>
    intro l5 l6 l7 l8 h
    unfold qw_X13_makeMethod_510
    have F_h : ∀ c k : Nat, (fun c k => nw_F wl_X13_makeMethod wf_X13_makeMethod false false c k = true) c k → h c k = h c k := fun _ _ _ => rfl
    refine fm_rd ?_; intro v17
    refine fm_if ?_ ?_
    · refine fm_rd ?_; intro v19
      refine fm_ca F_h (ff_X13_tell nn) (nw_sub rfl) ?_; intro u21 F_u21
      exact fm_tl F_u21 (fw_X13_makeMethod_561 nn hk_kk_412 _) (fun _ _ z => z)
    · refine fm_rd ?_; intro v24
      refine fm_xl ?_; intro v25
      refine fm_rd ?_; intro v26
      refine fm_ca F_h (ff_X13_tellType nn) (nw_sub rfl) ?_; intro u28 F_u28
      refine fm_xl ?_; intro v29
      exact fm_tl F_u28 (ih ) (fun _ _ z => z)
set_option maxRecDepth 4000 in
theorem fj_X13_makeMethod_471 (nn : Nat) {qkk_412 : Int → Int → ms_M → Option ms_M} (hk_kk_412 : ∀ {l5 : Int} {l6 : Int} {h : ms_M}, Fm_ (fun c k => nw_F wl_X13_makeMethod wf_X13_makeMethod false false c k = true) h (qkk_412 l5 l6 h) (fun r => r)) {qkk_427 : Int → Int → Int → Int → ms_M → Option ms_M} (hk_kk_427 : ∀ {l5 : Int} {l6 : Int} {l7 : Int} {l8 : Int} {h : ms_M}, Fm_ (fun c k => nw_F wl_X13_makeMethod wf_X13_makeMethod false false c k = true) h (qkk_427 l5 l6 l7 l8 h) (fun r => r)) {l5 : Int} {l6 : Int} {l8 : Int} {h : ms_M} : Fm_ (fun c k => nw_F wl_X13_makeMethod wf_X13_makeMethod false false c k = true) h (qj_X13_makeMethod_471 nn qkk_412 qkk_427 l5 l6 l8 h) (fun r => r) := by
  unfold qj_X13_makeMethod_471
  have F_h : ∀ c k : Nat, (fun c k => nw_F wl_X13_makeMethod wf_X13_makeMethod false false c k = true) c k → h c k = h c k := fun _ _ _ => rfl
  refine fm_xl ?_; intro v31
  exact fm_tl F_h (hk_kk_427) (fun _ _ z => z)
set_option maxRecDepth 4000 in
theorem fw_X13_makeMethod_427 (nn : Nat) {qkk_412 : Int → Int → ms_M → Option ms_M} (hk_kk_412 : ∀ {l5 : Int} {l6 : Int} {h : ms_M}, Fm_ (fun c k => nw_F wl_X13_makeMethod wf_X13_makeMethod false false c k = true) h (qkk_412 l5 l6 h) (fun r => r)) : ∀ (k : Nat) {l5 : Int} {l6 : Int} {l7 : Int} {l8 : Int} {h : ms_M}, Fm_ (fun c k => nw_F wl_X13_makeMethod wf_X13_makeMethod false false c k = true) h (qw_X13_makeMethod_427 nn qkk_412 k l5 l6 l7 l8 h) (fun r => r) := by
  intro k
  induction k with
  | zero => intros; exact fm_no
  | succ k ih =>
    intro l5 l6 l7 l8 h
    unfold qw_X13_makeMethod_427
    have F_h : ∀ c k : Nat, (fun c k => nw_F wl_X13_makeMethod wf_X13_makeMethod false false c k = true) c k → h c k = h c k := fun _ _ _ => rfl
    refine fm_if ?_ ?_
    · refine fm_rd ?_; intro v34
      refine fm_ca F_h (ff_X13_tellPair nn) (nw_sub rfl) ?_; intro u36 F_u36
      refine fm_rd ?_; intro v38
      refine fm_ca F_u36 (ff_X13_tell nn) (nw_sub rfl) ?_; intro u40 F_u40
      exact fm_tl F_u40 (fw_X13_makeMethod_510 nn hk_kk_412 _) (fun _ _ z => z)
    · refine fm_rd ?_; intro v42
      refine fm_if ?_ ?_
      · refine fm_xl ?_; intro v43
        exact fm_tl F_h (ih ) (fun _ _ z => z)
      · refine fm_if ?_ ?_
        · exact fm_tl F_h (fj_X13_makeMethod_471 nn hk_kk_412 ih) (fun _ _ z => z)
        · refine fm_rd ?_; intro v45
          refine fm_rd ?_; intro v47
          refine fm_if ?_ ?_
          · refine fm_xl ?_; intro v48
            exact fm_tl F_h (ih ) (fun _ _ z => z)
          · exact fm_tl F_h (fj_X13_makeMethod_471 nn hk_kk_412 ih) (fun _ _ z => z)
set_option maxRecDepth 4000 in
theorem fw_X13_makeMethod_412 (nn : Nat) : ∀ (k : Nat) {l5 : Int} {l6 : Int} {h : ms_M}, Fm_ (fun c k => nw_F wl_X13_makeMethod wf_X13_makeMethod false false c k = true) h (qw_X13_makeMethod_412 nn k l5 l6 h) (fun r => r) := by
  intro k
  induction k with
  | zero => intros; exact fm_no
  | succ k ih =>
    intro l5 l6 h
    unfold qw_X13_makeMethod_412
    have F_h : ∀ c k : Nat, (fun c k => nw_F wl_X13_makeMethod wf_X13_makeMethod false false c k = true) c k → h c k = h c k := fun _ _ _ => rfl
    refine fm_if ?_ ?_
    · exact fm_ret F_h
    · exact fm_tl F_h (fw_X13_makeMethod_427 nn ih _) (fun _ _ z => z)
set_option maxRecDepth 4000 in
theorem fw_X13_makeMethod_335 (nn : Nat) : ∀ (k : Nat) {l5 : Int} {h : ms_M}, Fm_ (fun c k => nw_F wl_X13_makeMethod wf_X13_makeMethod false false c k = true) h (qw_X13_makeMethod_335 nn k l5 h) (fun r => r) := by
  intro k
  induction k with
  | zero => intros; exact fm_no
  | succ k ih =>
    intro l5 h
    unfold qw_X13_makeMethod_335
    have F_h : ∀ c k : Nat, (fun c k => nw_F wl_X13_makeMethod wf_X13_makeMethod false false c k = true) c k → h c k = h c k := fun _ _ _ => rfl
    refine fm_if ?_ ?_
    · refine fm_ca F_h (ff_X13_tell nn) (nw_sub rfl) ?_; intro u58 F_u58
      exact fm_tl F_u58 (fw_X13_makeMethod_412 nn _) (fun _ _ z => z)
    · refine fm_rd ?_; intro v60
      refine fm_ca F_h (ff_X13_tellPair nn) (nw_sub rfl) ?_; intro u62 F_u62
      refine fm_rd ?_; intro v64
      refine fm_ca F_u62 (ff_X13_tellPair nn) (nw_sub rfl) ?_; intro u66 F_u66
      refine fm_rd ?_; intro v68
      refine fm_ca F_u66 (ff_X13_tellPair nn) (nw_sub rfl) ?_; intro u70 F_u70
      refine fm_rd ?_; intro v72
      refine fm_ca F_u70 (ff_X13_classConstant nn) (nw_sub rfl) ?_; intro u74 F_u74
      refine fm_ca F_u74 (ff_X13_tell nn) (nw_sub rfl) ?_; intro u76 F_u76
      refine fm_xl ?_; intro v77
      exact fm_tl F_u76 (ih ) (fun _ _ z => z)
set_option maxRecDepth 4000 in
theorem fw_X13_makeMethod_298 (nn : Nat) : ∀ (k : Nat) {l5 : Int} {h : ms_M}, Fm_ (fun c k => nw_F wl_X13_makeMethod wf_X13_makeMethod false false c k = true) h (qw_X13_makeMethod_298 nn k l5 h) (fun r => r) := by
  intro k
  induction k with
  | zero => intros; exact fm_no
  | succ k ih =>
    intro l5 h
    unfold qw_X13_makeMethod_298
    have F_h : ∀ c k : Nat, (fun c k => nw_F wl_X13_makeMethod wf_X13_makeMethod false false c k = true) c k → h c k = h c k := fun _ _ _ => rfl
    refine fm_if ?_ ?_
    · refine fm_ca F_h (ff_X13_tell nn) (nw_sub rfl) ?_; intro u82 F_u82
      exact fm_tl F_u82 (fw_X13_makeMethod_335 nn _) (fun _ _ z => z)
    · refine fm_rd ?_; intro v84
      refine fm_ca F_h (ff_X13_tell nn) (nw_sub rfl) ?_; intro u86 F_u86
      refine fm_xl ?_; intro v87
      exact fm_tl F_u86 (ih ) (fun _ _ z => z)
set_option maxRecDepth 4000 in
theorem fj_X13_makeMethod_260 (nn : Nat) {l2 : Int} {l3 : Int} {l4 : Int} {s0 : Int} {h : ms_M} : Fm_ (fun c k => nw_F wl_X13_makeMethod wf_X13_makeMethod false false c k = true) h (qj_X13_makeMethod_260 nn l2 l3 l4 s0 h) (fun r => r) := by
  unfold qj_X13_makeMethod_260
  have F_h : ∀ c k : Nat, (fun c k => nw_F wl_X13_makeMethod wf_X13_makeMethod false false c k = true) c k → h c k = h c k := fun _ _ _ => rfl
  refine fm_ca F_h (ff_X13_tell nn) (nw_sub rfl) ?_; intro u90 F_u90
  refine fm_ca F_u90 (ff_X13_tell nn) (nw_sub rfl) ?_; intro u92 F_u92
  refine fm_ca F_u92 (ff_X13_tell nn) (nw_sub rfl) ?_; intro u94 F_u94
  refine fm_ca F_u94 (ff_X13_tell nn) (nw_sub rfl) ?_; intro u97 F_u97
  refine fm_ca F_u97 (ff_X13_tell nn) (nw_sub rfl) ?_; intro u99 F_u99
  refine fm_ca F_u99 (ff_X13_tellPair nn) (nw_sub rfl) ?_; intro u102 F_u102
  exact fm_tl F_u102 (fw_X13_makeMethod_298 nn _) (fun _ _ z => z)
set_option maxRecDepth 4000 in
theorem fj_X13_makeMethod_239 (nn : Nat) {l2 : Int} {l3 : Int} {l4 : Int} {h : ms_M} : Fm_ (fun c k => nw_F wl_X13_makeMethod wf_X13_makeMethod false false c k = true) h (qj_X13_makeMethod_239 nn l2 l3 l4 h) (fun r => r) := by
  unfold qj_X13_makeMethod_239
  have F_h : ∀ c k : Nat, (fun c k => nw_F wl_X13_makeMethod wf_X13_makeMethod false false c k = true) c k → h c k = h c k := fun _ _ _ => rfl
  refine fm_if ?_ ?_
  · refine fm_if ?_ ?_
    · exact fm_tl F_h (fj_X13_makeMethod_260 nn) (fun _ _ z => z)
    · exact fm_tl F_h (fj_X13_makeMethod_260 nn) (fun _ _ z => z)
  · exact fm_ret F_h
set_option maxRecDepth 4000 in
theorem fj_X13_makeMethod_227 (nn : Nat) {l1 : Int} {l2 : Int} {l3 : Int} {l4 : Int} {h : ms_M} : Fm_ (fun c k => nw_F wl_X13_makeMethod wf_X13_makeMethod false false c k = true) h (qj_X13_makeMethod_227 nn l1 l2 l3 l4 h) (fun r => r) := by
  unfold qj_X13_makeMethod_227
  have F_h : ∀ c k : Nat, (fun c k => nw_F wl_X13_makeMethod wf_X13_makeMethod false false c k = true) c k → h c k = h c k := fun _ _ _ => rfl
  refine fm_rd ?_; intro v108
  refine fm_ca F_h (ff_X13_wrong nn) (nw_sub rfl) ?_; intro u110 F_u110
  exact fm_tl F_u110 (fj_X13_makeMethod_239 nn) (fun _ _ z => z)
set_option maxRecDepth 4000 in
theorem fj_X13_makeMethod_180 (nn : Nat) {l1 : Int} {l2 : Int} {l3 : Int} {s0 : Int} {s1 : Int} {h : ms_M} : Fm_ (fun c k => nw_F wl_X13_makeMethod wf_X13_makeMethod false false c k = true) h (qj_X13_makeMethod_180 nn l1 l2 l3 s0 s1 h) (fun r => r) := by
  unfold qj_X13_makeMethod_180
  have F_h : ∀ c k : Nat, (fun c k => nw_F wl_X13_makeMethod wf_X13_makeMethod false false c k = true) c k → h c k = h c k := fun _ _ _ => rfl
  refine fm_xl ?_; intro v111
  refine fm_if ?_ ?_
  · exact fm_tl F_h (fj_X13_makeMethod_227 nn) (fun _ _ z => z)
  · refine fm_if ?_ ?_
    · exact fm_tl F_h (fj_X13_makeMethod_227 nn) (fun _ _ z => z)
    · refine fm_if ?_ ?_
      · exact fm_tl F_h (fj_X13_makeMethod_227 nn) (fun _ _ z => z)
      · refine fm_if ?_ ?_
        · exact fm_tl F_h (fj_X13_makeMethod_227 nn) (fun _ _ z => z)
        · refine fm_if ?_ ?_
          · exact fm_tl F_h (fj_X13_makeMethod_239 nn) (fun _ _ z => z)
          · exact fm_tl F_h (fj_X13_makeMethod_227 nn) (fun _ _ z => z)
set_option maxRecDepth 4000 in
theorem fj_X13_makeMethod_164 (nn : Nat) {l1 : Int} {l2 : Int} {l3 : Int} {h : ms_M} : Fm_ (fun c k => nw_F wl_X13_makeMethod wf_X13_makeMethod false false c k = true) h (qj_X13_makeMethod_164 nn l1 l2 l3 h) (fun r => r) := by
  unfold qj_X13_makeMethod_164
  have F_h : ∀ c k : Nat, (fun c k => nw_F wl_X13_makeMethod wf_X13_makeMethod false false c k = true) c k → h c k = h c k := fun _ _ _ => rfl
  refine fm_if ?_ ?_
  · exact fm_tl F_h (fj_X13_makeMethod_180 nn) (fun _ _ z => z)
  · exact fm_tl F_h (fj_X13_makeMethod_180 nn) (fun _ _ z => z)
set_option maxRecDepth 4000 in
theorem fw_X13_makeMethod_81 (nn : Nat) : ∀ (k : Nat) {l1 : Int} {l2 : Int} {h : ms_M}, Fm_ (fun c k => nw_F wl_X13_makeMethod wf_X13_makeMethod false false c k = true) h (qw_X13_makeMethod_81 nn k l1 l2 h) (fun r => r) := by
  intro k
  induction k with
  | zero => intros; exact fm_no
  | succ k ih =>
    intro l1 l2 h
    unfold qw_X13_makeMethod_81
    have F_h : ∀ c k : Nat, (fun c k => nw_F wl_X13_makeMethod wf_X13_makeMethod false false c k = true) c k → h c k = h c k := fun _ _ _ => rfl
    refine fm_rd ?_; intro v125
    refine fm_if ?_ ?_
    · refine fm_rd ?_; intro v127
      refine fm_ca F_h (ff_X13_textOf nn) (nw_sub rfl) ?_; intro u129 F_u129
      refine fm_ca F_u129 (ff_X13_kindOf nn) (nw_sub rfl) ?_; intro u131 F_u131
      refine fm_rd ?_; intro v133
      refine fm_ca F_u131 (ff_X13_make nn) (nw_sub rfl) ?_; intro u135 F_u135
      refine fm_if ?_ ?_
      · exact fm_tl F_u135 (fj_X13_makeMethod_164 nn) (fun _ _ z => z)
      · refine fm_ca F_u135 (ff_X13_put nn) (nw_sub rfl) ?_; intro u137 F_u137
        exact fm_tl F_u137 (fj_X13_makeMethod_164 nn) (fun _ _ z => z)
    · refine fm_rd ?_; intro v141
      refine fm_xl ?_; intro v142
      refine fm_rd ?_; intro v143
      refine fm_rd ?_; intro v146
      refine fm_xl ?_; intro v147
      refine fm_rd ?_; intro v148
      refine fm_ca F_h (ff_X13_comes nn) (nw_sub rfl) ?_; intro u150 F_u150
      refine fm_xl ?_; intro v151
      exact fm_tl F_u150 (ih ) (fun _ _ z => z)
set_option maxRecDepth 4000 in
theorem fj_X13_makeMethod_21 (nn : Nat) {l1 : Int} {s0 : Int} {h : ms_M} : Fm_ (fun c k => nw_F wl_X13_makeMethod wf_X13_makeMethod false false c k = true) h (qj_X13_makeMethod_21 nn l1 s0 h) (fun r => r) := by
  unfold qj_X13_makeMethod_21
  have F_h : ∀ c k : Nat, (fun c k => nw_F wl_X13_makeMethod wf_X13_makeMethod false false c k = true) c k → h c k = h c k := fun _ _ _ => rfl
  refine fm_ck ?_; intro _
  refine fm_up F_h (nw_nf rfl) ?_; intro h154 F_h154
  refine fm_up F_h154 (nw_nf rfl) ?_; intro h155 F_h155
  refine fm_up F_h155 (nw_nf rfl) ?_; intro h156 F_h156
  refine fm_up F_h156 (nw_nf rfl) ?_; intro h157 F_h157
  refine fm_up F_h157 (nw_nf rfl) ?_; intro h158 F_h158
  refine fm_up F_h158 (nw_nf rfl) ?_; intro h159 F_h159
  refine fm_up F_h159 (nw_nf rfl) ?_; intro h160 F_h160
  refine fm_up F_h160 (nw_nf rfl) ?_; intro h161 F_h161
  refine fm_up F_h161 (nw_nf rfl) ?_; intro h162 F_h162
  refine fm_up F_h162 (nw_nf rfl) ?_; intro h163 F_h163
  refine fm_up F_h163 (nw_nf rfl) ?_; intro h164 F_h164
  refine fm_up F_h164 (nw_nf rfl) ?_; intro h165 F_h165
  exact fm_tl F_h165 (fw_X13_makeMethod_81 nn _) (fun _ _ z => z)
set_option maxRecDepth 4000 in
theorem ff_X13_makeMethod (nn : Nat) {a1 : Int} {h : ms_M} : Fm_ (fun c k => nw_F wl_X13_makeMethod wf_X13_makeMethod false false c k = true) h (qf_X13_makeMethod nn a1 h) (fun r => r) := by
  unfold qf_X13_makeMethod
  have F_h : ∀ c k : Nat, (fun c k => nw_F wl_X13_makeMethod wf_X13_makeMethod false false c k = true) c k → h c k = h c k := fun _ _ _ => rfl
  refine fm_up F_h (nw_nf rfl) ?_; intro h166 F_h166
  refine fm_rd ?_; intro v168
  refine fm_if ?_ ?_
  · exact fm_tl F_h166 (fj_X13_makeMethod_21 nn) (fun _ _ z => z)
  · exact fm_tl F_h166 (fj_X13_makeMethod_21 nn) (fun _ _ z => z)
set_option maxRecDepth 4000 in
theorem fw_X13_writeConstant_119 (nn : Nat) : ∀ (k : Nat) {l1 : Int} {l3 : Int} {l4 : Int} {h : ms_M}, Fm_ (fun c k => nw_F wl_X13_writeConstant wf_X13_writeConstant false false c k = true) h (qw_X13_writeConstant_119 nn k l1 l3 l4 h) (fun r => r.2) := by
  intro k
  induction k with
  | zero => intros; exact fm_no
  | succ k ih =>
    intro l1 l3 l4 h
    unfold qw_X13_writeConstant_119
    have F_h : ∀ c k : Nat, (fun c k => nw_F wl_X13_writeConstant wf_X13_writeConstant false false c k = true) c k → h c k = h c k := fun _ _ _ => rfl
    refine fm_if ?_ ?_
    · refine fm_xl ?_; intro v1
      exact fm_ret F_h
    · refine fm_xl ?_; intro v3
      refine fm_rd ?_; intro v5
      refine fm_xl ?_; intro v6
      refine fm_xl ?_; intro v7
      refine fm_xl ?_; intro v8
      refine fm_xl ?_; intro v9
      refine fm_wA F_h (nw_ne rfl) ?_; intro h10 F_h10
      refine fm_xl ?_; intro v11
      exact fm_tl F_h10 (ih ) (fun _ _ z => z)
set_option maxRecDepth 4000 in
theorem fw_X13_writeConstant_63 (nn : Nat) : ∀ (k : Nat) {l1 : Int} {l3 : Int} {l4 : Int} {h : ms_M}, Fm_ (fun c k => nw_F wl_X13_writeConstant wf_X13_writeConstant false false c k = true) h (qw_X13_writeConstant_63 nn k l1 l3 l4 h) (fun r => r.2) := by
  intro k
  induction k with
  | zero => intros; exact fm_no
  | succ k ih =>
    intro l1 l3 l4 h
    unfold qw_X13_writeConstant_63
    have F_h : ∀ c k : Nat, (fun c k => nw_F wl_X13_writeConstant wf_X13_writeConstant false false c k = true) c k → h c k = h c k := fun _ _ _ => rfl
    refine fm_rd ?_; intro v14
    refine fm_if ?_ ?_
    · refine fm_xl ?_; intro v15
      refine fm_rd ?_; intro v17
      refine fm_xl ?_; intro v18
      exact fm_ret F_h
    · refine fm_xl ?_; intro v20
      refine fm_xl ?_; intro v21
      refine fm_rd ?_; intro v24
      refine fm_xl ?_; intro v25
      refine fm_rd ?_; intro v26
      refine fm_wA F_h (nw_ne rfl) ?_; intro h27 F_h27
      refine fm_xl ?_; intro v28
      exact fm_tl F_h27 (ih ) (fun _ _ z => z)
set_option maxRecDepth 4000 in
theorem ff_X13_writeConstant (nn : Nat) {a1 : Int} {a2 : Int} {h : ms_M} : Fm_ (fun c k => nw_F wl_X13_writeConstant wf_X13_writeConstant false false c k = true) h (qf_X13_writeConstant nn a1 a2 h) (fun r => r.2) := by
  unfold qf_X13_writeConstant
  have F_h : ∀ c k : Nat, (fun c k => nw_F wl_X13_writeConstant wf_X13_writeConstant false false c k = true) c k → h c k = h c k := fun _ _ _ => rfl
  refine fm_rd ?_; intro v32
  refine fm_wA F_h (nw_ne rfl) ?_; intro h33 F_h33
  refine fm_xl ?_; intro v34
  refine fm_rd ?_; intro v36
  refine fm_if ?_ ?_
  · refine fm_rd ?_; intro v54
    refine fm_wA F_h33 (nw_ne rfl) ?_; intro h55 F_h55
    exact fm_tl F_h55 (fw_X13_writeConstant_63 nn _) (fun _ _ z => z)
  · refine fm_if ?_ ?_
    · exact fm_tl F_h33 (fw_X13_writeConstant_119 nn _) (fun _ _ z => z)
    · refine fm_if ?_ ?_
      · refine fm_rd ?_; intro v58
        refine fm_wA F_h33 (nw_ne rfl) ?_; intro h59 F_h59
        refine fm_xl ?_; intro v60
        exact fm_ret F_h59
      · refine fm_rd ?_; intro v39
        refine fm_wA F_h33 (nw_ne rfl) ?_; intro h40 F_h40
        refine fm_xl ?_; intro v42
        refine fm_rd ?_; intro v44
        refine fm_wA F_h40 (nw_ne rfl) ?_; intro h45 F_h45
        refine fm_xl ?_; intro v47
        refine fm_rd ?_; intro v49
        refine fm_wA F_h45 (nw_ne rfl) ?_; intro h50 F_h50
        refine fm_xl ?_; intro v51
        exact fm_ret F_h50
set_option maxRecDepth 4000 in
theorem fw_X13_makeClass_440 (nn : Nat) : ∀ (k : Nat) {l1 : Int} {l2 : Int} {l3 : Int} {l4 : Int} {h : ms_M}, Fm_ (fun c k => nw_F wl_X13_makeClass wf_X13_makeClass false false c k = true) h (qw_X13_makeClass_440 nn k l1 l2 l3 l4 h) (fun r => r) := by
  intro k
  induction k with
  | zero => intros; exact fm_no
  | succ k ih =>
    intro l1 l2 l3 l4 h
    unfold qw_X13_makeClass_440
    have F_h : ∀ c k : Nat, (fun c k => nw_F wl_X13_makeClass wf_X13_makeClass false false c k = true) c k → h c k = h c k := fun _ _ _ => rfl
    refine fm_if ?_ ?_
    · refine fm_wA F_h (nw_ne rfl) ?_; intro h3 F_h3
      exact fm_ret F_h3
    · refine fm_xl ?_; intro v5
      refine fm_rd ?_; intro v7
      refine fm_wA F_h (nw_ne rfl) ?_; intro h8 F_h8
      refine fm_xl ?_; intro v9
      exact fm_tl F_h8 (ih ) (fun _ _ z => z)
set_option maxRecDepth 4000 in
theorem fw_X13_makeClass_414 (nn : Nat) : ∀ (k : Nat) {l1 : Int} {l2 : Int} {l3 : Int} {l4 : Int} {h : ms_M}, Fm_ (fun c k => nw_F wl_X13_makeClass wf_X13_makeClass false false c k = true) h (qw_X13_makeClass_414 nn k l1 l2 l3 l4 h) (fun r => r) := by
  intro k
  induction k with
  | zero => intros; exact fm_no
  | succ k ih =>
    intro l1 l2 l3 l4 h
    unfold qw_X13_makeClass_414
    have F_h : ∀ c k : Nat, (fun c k => nw_F wl_X13_makeClass wf_X13_makeClass false false c k = true) c k → h c k = h c k := fun _ _ _ => rfl
    refine fm_if ?_ ?_
    · exact fm_tl F_h (fw_X13_makeClass_440 nn _) (fun _ _ z => z)
    · refine fm_ca F_h (ff_X13_writeConstant nn) (nw_sub rfl) ?_; intro u13 F_u13
      refine fm_xl ?_; intro v14
      exact fm_tl F_u13 (ih ) (fun _ _ z => z)
set_option maxRecDepth 4000 in
theorem fj_X13_makeClass_364 (nn : Nat) {l1 : Int} {l2 : Int} {h : ms_M} : Fm_ (fun c k => nw_F wl_X13_makeClass wf_X13_makeClass false false c k = true) h (qj_X13_makeClass_364 nn l1 l2 h) (fun r => r) := by
  unfold qj_X13_makeClass_364
  have F_h : ∀ c k : Nat, (fun c k => nw_F wl_X13_makeClass wf_X13_makeClass false false c k = true) c k → h c k = h c k := fun _ _ _ => rfl
  refine fm_if ?_ ?_
  · refine fm_xl ?_; intro v17
    refine fm_wA F_h (nw_ne rfl) ?_; intro h19 F_h19
    refine fm_xl ?_; intro v21
    refine fm_wA F_h19 (nw_ne rfl) ?_; intro h22 F_h22
    refine fm_xl ?_; intro v24
    refine fm_wA F_h22 (nw_ne rfl) ?_; intro h26 F_h26
    refine fm_xl ?_; intro v27
    exact fm_tl F_h26 (fw_X13_makeClass_414 nn _) (fun _ _ z => z)
  · exact fm_ret F_h
set_option maxRecDepth 4000 in
theorem fj_X13_makeClass_352 (nn : Nat) {l1 : Int} {l2 : Int} {h : ms_M} : Fm_ (fun c k => nw_F wl_X13_makeClass wf_X13_makeClass false false c k = true) h (qj_X13_makeClass_352 nn l1 l2 h) (fun r => r) := by
  unfold qj_X13_makeClass_352
  have F_h : ∀ c k : Nat, (fun c k => nw_F wl_X13_makeClass wf_X13_makeClass false false c k = true) c k → h c k = h c k := fun _ _ _ => rfl
  refine fm_rd ?_; intro v30
  refine fm_ca F_h (ff_X13_wrong nn) (nw_sub rfl) ?_; intro u32 F_u32
  exact fm_tl F_u32 (fj_X13_makeClass_364 nn) (fun _ _ z => z)
set_option maxRecDepth 4000 in
theorem fj_X13_makeClass_320 (nn : Nat) {qkk_261 : Int → Int → Int → ms_M → Option ms_M} (hk_kk_261 : ∀ {l1 : Int} {l2 : Int} {l3 : Int} {h : ms_M}, Fm_ (fun c k => nw_F wl_X13_makeClass wf_X13_makeClass false false c k = true) h (qkk_261 l1 l2 l3 h) (fun r => r)) {l1 : Int} {l3 : Int} {s0 : Int} {s1 : Int} {h : ms_M} : Fm_ (fun c k => nw_F wl_X13_makeClass wf_X13_makeClass false false c k = true) h (qj_X13_makeClass_320 nn qkk_261 l1 l3 s0 s1 h) (fun r => r) := by
  unfold qj_X13_makeClass_320
  have F_h : ∀ c k : Nat, (fun c k => nw_F wl_X13_makeClass wf_X13_makeClass false false c k = true) c k → h c k = h c k := fun _ _ _ => rfl
  refine fm_xl ?_; intro v33
  refine fm_xl ?_; intro v34
  exact fm_tl F_h (hk_kk_261) (fun _ _ z => z)
set_option maxRecDepth 4000 in
theorem fw_X13_makeClass_261 (nn : Nat) : ∀ (k : Nat) {l1 : Int} {l2 : Int} {l3 : Int} {h : ms_M}, Fm_ (fun c k => nw_F wl_X13_makeClass wf_X13_makeClass false false c k = true) h (qw_X13_makeClass_261 nn k l1 l2 l3 h) (fun r => r) := by
  intro k
  induction k with
  | zero => intros; exact fm_no
  | succ k ih =>
    intro l1 l2 l3 h
    unfold qw_X13_makeClass_261
    have F_h : ∀ c k : Nat, (fun c k => nw_F wl_X13_makeClass wf_X13_makeClass false false c k = true) c k → h c k = h c k := fun _ _ _ => rfl
    refine fm_if ?_ ?_
    · refine fm_if ?_ ?_
      · exact fm_tl F_h (fj_X13_makeClass_364 nn) (fun _ _ z => z)
      · refine fm_if ?_ ?_
        · exact fm_tl F_h (fj_X13_makeClass_352 nn) (fun _ _ z => z)
        · refine fm_if ?_ ?_
          · exact fm_tl F_h (fj_X13_makeClass_364 nn) (fun _ _ z => z)
          · exact fm_tl F_h (fj_X13_makeClass_352 nn) (fun _ _ z => z)
    · refine fm_rd ?_; intro v42
      refine fm_if ?_ ?_
      · refine fm_rd ?_; intro v44
        refine fm_if ?_ ?_
        · refine fm_rd ?_; intro v46
          refine fm_if ?_ ?_
          · exact fm_tl F_h (fj_X13_makeClass_320 nn ih) (fun _ _ z => z)
          · exact fm_tl F_h (fj_X13_makeClass_320 nn ih) (fun _ _ z => z)
        · exact fm_tl F_h (fj_X13_makeClass_320 nn ih) (fun _ _ z => z)
      · refine fm_rd ?_; intro v50
        refine fm_xl ?_; intro v51
        exact fm_tl F_h (fj_X13_makeClass_320 nn ih) (fun _ _ z => z)
set_option maxRecDepth 4000 in
theorem fj_X13_makeClass_195 (nn : Nat) {qkk_68 : Int → Int → ms_M → Option ms_M} (hk_kk_68 : ∀ {l1 : Int} {l2 : Int} {h : ms_M}, Fm_ (fun c k => nw_F wl_X13_makeClass wf_X13_makeClass false false c k = true) h (qkk_68 l1 l2 h) (fun r => r)) {qkk_143 : Int → Int → Int → ms_M → Option ms_M} (hk_kk_143 : ∀ {l1 : Int} {l2 : Int} {l4 : Int} {h : ms_M}, Fm_ (fun c k => nw_F wl_X13_makeClass wf_X13_makeClass false false c k = true) h (qkk_143 l1 l2 l4 h) (fun r => r)) {l1 : Int} {l2 : Int} {l4 : Int} {s0 : Int} {s1 : Int} {h : ms_M} : Fm_ (fun c k => nw_F wl_X13_makeClass wf_X13_makeClass false false c k = true) h (qj_X13_makeClass_195 nn qkk_68 qkk_143 l1 l2 l4 s0 s1 h) (fun r => r) := by
  unfold qj_X13_makeClass_195
  have F_h : ∀ c k : Nat, (fun c k => nw_F wl_X13_makeClass wf_X13_makeClass false false c k = true) c k → h c k = h c k := fun _ _ _ => rfl
  refine fm_if ?_ ?_
  · refine fm_if ?_ ?_
    · refine fm_rd ?_; intro v55
      refine fm_ca F_h (ff_X13_textOf nn) (nw_sub rfl) ?_; intro u57 F_u57
      refine fm_ca F_u57 (ff_X13_tell nn) (nw_sub rfl) ?_; intro u59 F_u59
      refine fm_ca F_u59 (ff_X13_kindOf nn) (nw_sub rfl) ?_; intro u61 F_u61
      refine fm_ca F_u61 (ff_X13_tell nn) (nw_sub rfl) ?_; intro u63 F_u63
      refine fm_xl ?_; intro v64
      exact fm_tl F_u63 (hk_kk_143) (fun _ _ z => z)
    · refine fm_ca F_h (ff_X13_makeMethod nn) (nw_sub rfl) ?_; intro u66 F_u66
      refine fm_xl ?_; intro v67
      exact fm_tl F_u66 (hk_kk_143) (fun _ _ z => z)
  · refine fm_xl ?_; intro v69
    exact fm_tl F_h (hk_kk_143) (fun _ _ z => z)
set_option maxRecDepth 4000 in
theorem fj_X13_makeClass_185 (nn : Nat) {qkk_68 : Int → Int → ms_M → Option ms_M} (hk_kk_68 : ∀ {l1 : Int} {l2 : Int} {h : ms_M}, Fm_ (fun c k => nw_F wl_X13_makeClass wf_X13_makeClass false false c k = true) h (qkk_68 l1 l2 h) (fun r => r)) {qkk_143 : Int → Int → Int → ms_M → Option ms_M} (hk_kk_143 : ∀ {l1 : Int} {l2 : Int} {l4 : Int} {h : ms_M}, Fm_ (fun c k => nw_F wl_X13_makeClass wf_X13_makeClass false false c k = true) h (qkk_143 l1 l2 l4 h) (fun r => r)) {l1 : Int} {l2 : Int} {l4 : Int} {s0 : Int} {h : ms_M} : Fm_ (fun c k => nw_F wl_X13_makeClass wf_X13_makeClass false false c k = true) h (qj_X13_makeClass_185 nn qkk_68 qkk_143 l1 l2 l4 s0 h) (fun r => r) := by
  unfold qj_X13_makeClass_185
  have F_h : ∀ c k : Nat, (fun c k => nw_F wl_X13_makeClass wf_X13_makeClass false false c k = true) c k → h c k = h c k := fun _ _ _ => rfl
  refine fm_if ?_ ?_
  · exact fm_tl F_h (fj_X13_makeClass_195 nn hk_kk_68 hk_kk_143) (fun _ _ z => z)
  · exact fm_tl F_h (fj_X13_makeClass_195 nn hk_kk_68 hk_kk_143) (fun _ _ z => z)
set_option maxRecDepth 4000 in
theorem fw_X13_makeClass_143 (nn : Nat) {qkk_68 : Int → Int → ms_M → Option ms_M} (hk_kk_68 : ∀ {l1 : Int} {l2 : Int} {h : ms_M}, Fm_ (fun c k => nw_F wl_X13_makeClass wf_X13_makeClass false false c k = true) h (qkk_68 l1 l2 h) (fun r => r)) : ∀ (k : Nat) {l1 : Int} {l2 : Int} {l4 : Int} {h : ms_M}, Fm_ (fun c k => nw_F wl_X13_makeClass wf_X13_makeClass false false c k = true) h (qw_X13_makeClass_143 nn qkk_68 k l1 l2 l4 h) (fun r => r) := by
  intro k
  induction k with
  | zero => intros; exact fm_no
  | succ k ih =>
    intro l1 l2 l4 h
    unfold qw_X13_makeClass_143
    have F_h : ∀ c k : Nat, (fun c k => nw_F wl_X13_makeClass wf_X13_makeClass false false c k = true) c k → h c k = h c k := fun _ _ _ => rfl
    refine fm_if ?_ ?_
    · refine fm_xl ?_; intro v73
      exact fm_tl F_h (hk_kk_68) (fun _ _ z => z)
    · refine fm_if ?_ ?_
      · refine fm_xl ?_; intro v75
        exact fm_tl F_h (hk_kk_68) (fun _ _ z => z)
      · refine fm_rd ?_; intro v77
        refine fm_if ?_ ?_
        · refine fm_xl ?_; intro v78
          exact fm_tl F_h (ih ) (fun _ _ z => z)
        · refine fm_rd ?_; intro v80
          refine fm_if ?_ ?_
          · exact fm_tl F_h (fj_X13_makeClass_185 nn hk_kk_68 ih) (fun _ _ z => z)
          · exact fm_tl F_h (fj_X13_makeClass_185 nn hk_kk_68 ih) (fun _ _ z => z)
set_option maxRecDepth 4000 in
theorem fj_X13_makeClass_123 (nn : Nat) {qkk_68 : Int → Int → ms_M → Option ms_M} (hk_kk_68 : ∀ {l1 : Int} {l2 : Int} {h : ms_M}, Fm_ (fun c k => nw_F wl_X13_makeClass wf_X13_makeClass false false c k = true) h (qkk_68 l1 l2 h) (fun r => r)) {qkk_78 : Int → Int → Int → Int → ms_M → Option ms_M} (hk_kk_78 : ∀ {l1 : Int} {l2 : Int} {l3 : Int} {l4 : Int} {h : ms_M}, Fm_ (fun c k => nw_F wl_X13_makeClass wf_X13_makeClass false false c k = true) h (qkk_78 l1 l2 l3 l4 h) (fun r => r)) {l1 : Int} {l2 : Int} {l3 : Int} {l4 : Int} {s0 : Int} {s1 : Int} {h : ms_M} : Fm_ (fun c k => nw_F wl_X13_makeClass wf_X13_makeClass false false c k = true) h (qj_X13_makeClass_123 nn qkk_68 qkk_78 l1 l2 l3 l4 s0 s1 h) (fun r => r) := by
  unfold qj_X13_makeClass_123
  have F_h : ∀ c k : Nat, (fun c k => nw_F wl_X13_makeClass wf_X13_makeClass false false c k = true) c k → h c k = h c k := fun _ _ _ => rfl
  refine fm_if ?_ ?_
  · refine fm_xl ?_; intro v85
    exact fm_tl F_h (hk_kk_78) (fun _ _ z => z)
  · refine fm_xl ?_; intro v86
    refine fm_xl ?_; intro v87
    exact fm_tl F_h (hk_kk_78) (fun _ _ z => z)
set_option maxRecDepth 4000 in
theorem fj_X13_makeClass_113 (nn : Nat) {qkk_68 : Int → Int → ms_M → Option ms_M} (hk_kk_68 : ∀ {l1 : Int} {l2 : Int} {h : ms_M}, Fm_ (fun c k => nw_F wl_X13_makeClass wf_X13_makeClass false false c k = true) h (qkk_68 l1 l2 h) (fun r => r)) {qkk_78 : Int → Int → Int → Int → ms_M → Option ms_M} (hk_kk_78 : ∀ {l1 : Int} {l2 : Int} {l3 : Int} {l4 : Int} {h : ms_M}, Fm_ (fun c k => nw_F wl_X13_makeClass wf_X13_makeClass false false c k = true) h (qkk_78 l1 l2 l3 l4 h) (fun r => r)) {l1 : Int} {l2 : Int} {l3 : Int} {l4 : Int} {s0 : Int} {h : ms_M} : Fm_ (fun c k => nw_F wl_X13_makeClass wf_X13_makeClass false false c k = true) h (qj_X13_makeClass_113 nn qkk_68 qkk_78 l1 l2 l3 l4 s0 h) (fun r => r) := by
  unfold qj_X13_makeClass_113
  have F_h : ∀ c k : Nat, (fun c k => nw_F wl_X13_makeClass wf_X13_makeClass false false c k = true) c k → h c k = h c k := fun _ _ _ => rfl
  refine fm_if ?_ ?_
  · exact fm_tl F_h (fj_X13_makeClass_123 nn hk_kk_68 hk_kk_78) (fun _ _ z => z)
  · exact fm_tl F_h (fj_X13_makeClass_123 nn hk_kk_68 hk_kk_78) (fun _ _ z => z)
set_option maxRecDepth 4000 in
theorem fw_X13_makeClass_78 (nn : Nat) {qkk_68 : Int → Int → ms_M → Option ms_M} (hk_kk_68 : ∀ {l1 : Int} {l2 : Int} {h : ms_M}, Fm_ (fun c k => nw_F wl_X13_makeClass wf_X13_makeClass false false c k = true) h (qkk_68 l1 l2 h) (fun r => r)) : ∀ (k : Nat) {l1 : Int} {l2 : Int} {l3 : Int} {l4 : Int} {h : ms_M}, Fm_ (fun c k => nw_F wl_X13_makeClass wf_X13_makeClass false false c k = true) h (qw_X13_makeClass_78 nn qkk_68 k l1 l2 l3 l4 h) (fun r => r) := by
  intro k
  induction k with
  | zero => intros; exact fm_no
  | succ k ih =>
    intro l1 l2 l3 l4 h
    unfold qw_X13_makeClass_78
    have F_h : ∀ c k : Nat, (fun c k => nw_F wl_X13_makeClass wf_X13_makeClass false false c k = true) c k → h c k = h c k := fun _ _ _ => rfl
    refine fm_if ?_ ?_
    · refine fm_ca F_h (ff_X13_tell nn) (nw_sub rfl) ?_; intro u92 F_u92
      exact fm_tl F_u92 (fw_X13_makeClass_143 nn hk_kk_68 _) (fun _ _ z => z)
    · refine fm_rd ?_; intro v94
      refine fm_if ?_ ?_
      · refine fm_xl ?_; intro v95
        exact fm_tl F_h (ih ) (fun _ _ z => z)
      · refine fm_rd ?_; intro v97
        refine fm_if ?_ ?_
        · exact fm_tl F_h (fj_X13_makeClass_113 nn hk_kk_68 ih) (fun _ _ z => z)
        · exact fm_tl F_h (fj_X13_makeClass_113 nn hk_kk_68 ih) (fun _ _ z => z)
set_option maxRecDepth 4000 in
theorem fw_X13_makeClass_68 (nn : Nat) : ∀ (k : Nat) {l1 : Int} {l2 : Int} {h : ms_M}, Fm_ (fun c k => nw_F wl_X13_makeClass wf_X13_makeClass false false c k = true) h (qw_X13_makeClass_68 nn k l1 l2 h) (fun r => r) := by
  intro k
  induction k with
  | zero => intros; exact fm_no
  | succ k ih =>
    intro l1 l2 h
    unfold qw_X13_makeClass_68
    have F_h : ∀ c k : Nat, (fun c k => nw_F wl_X13_makeClass wf_X13_makeClass false false c k = true) c k → h c k = h c k := fun _ _ _ => rfl
    refine fm_if ?_ ?_
    · refine fm_xl ?_; intro v102
      exact fm_tl F_h (fw_X13_makeClass_261 nn _) (fun _ _ z => z)
    · exact fm_tl F_h (fw_X13_makeClass_78 nn ih _) (fun _ _ z => z)
set_option maxRecDepth 4000 in
theorem ff_X13_makeClass (nn : Nat) {a1 : Int} {h : ms_M} : Fm_ (fun c k => nw_F wl_X13_makeClass wf_X13_makeClass false false c k = true) h (qf_X13_makeClass nn a1 h) (fun r => r) := by
  unfold qf_X13_makeClass
  have F_h : ∀ c k : Nat, (fun c k => nw_F wl_X13_makeClass wf_X13_makeClass false false c k = true) c k → h c k = h c k := fun _ _ _ => rfl
  refine fm_up F_h (nw_nf rfl) ?_; intro h104 F_h104
  refine fm_up F_h104 (nw_nf rfl) ?_; intro h105 F_h105
  refine fm_up F_h105 (nw_nf rfl) ?_; intro h106 F_h106
  refine fm_up F_h106 (nw_nf rfl) ?_; intro h107 F_h107
  refine fm_xl ?_; intro v108
  refine fm_up F_h107 (nw_nf rfl) ?_; intro h109 F_h109
  refine fm_xl ?_; intro v111
  refine fm_xl ?_; intro v112
  refine fm_ca F_h109 (ff_X13_classConstant nn) (nw_sub rfl) ?_; intro u114 F_u114
  refine fm_ca F_u114 (ff_X13_tell nn) (nw_sub rfl) ?_; intro u116 F_u116
  refine fm_pu ?_; intro u119
  refine fm_xl ?_; intro v120
  refine fm_xl ?_; intro v121
  refine fm_ca F_u116 (ff_X13_classConstant nn) (nw_sub rfl) ?_; intro u123 F_u123
  refine fm_ca F_u123 (ff_X13_tell nn) (nw_sub rfl) ?_; intro u125 F_u125
  exact fm_tl F_u125 (fw_X13_makeClass_68 nn _) (fun _ _ z => z)
set_option maxRecDepth 4000 in
theorem ff_X13_add (nn : Nat) {a1 : Int} {a2 : Int} {a3 : Int} {h : ms_M} : Fm_ (fun c k => nw_F wl_X13_add wf_X13_add false false c k = true) h (qf_X13_add nn a1 a2 a3 h) (fun r => r.2) := by
  unfold qf_X13_add
  have F_h : ∀ c k : Nat, (fun c k => nw_F wl_X13_add wf_X13_add false false c k = true) c k → h c k = h c k := fun _ _ _ => rfl
  refine fm_wA F_h (nw_ne rfl) ?_; intro h3 F_h3
  refine fm_wA F_h3 (nw_ne rfl) ?_; intro h6 F_h6
  refine fm_wA F_h6 (nw_ne rfl) ?_; intro h9 F_h9
  refine fm_wA F_h9 (nw_ne rfl) ?_; intro h12 F_h12
  refine fm_wA F_h12 (nw_ne rfl) ?_; intro h15 F_h15
  refine fm_wA F_h15 (nw_ne rfl) ?_; intro h18 F_h18
  refine fm_wA F_h18 (nw_ne rfl) ?_; intro h21 F_h21
  refine fm_wA F_h21 (nw_ne rfl) ?_; intro h24 F_h24
  refine fm_wA F_h24 (nw_ne rfl) ?_; intro h27 F_h27
  refine fm_wA F_h27 (nw_ne rfl) ?_; intro h30 F_h30
  refine fm_wZ F_h30 (nw_ne rfl) ?_; intro h33 F_h33
  refine fm_xl ?_; intro v35
  refine fm_up F_h33 (nw_nf rfl) ?_; intro h36 F_h36
  refine fm_xl ?_; intro v38
  exact fm_ret F_h36
set_option maxRecDepth 4000 in
theorem fj_X13_misplaced_20 (nn : Nat) {s0 : Int} {h : ms_M} : Fm_ (fun c k => nw_F wl_X13_misplaced wf_X13_misplaced false false c k = true) h (qj_X13_misplaced_20 nn s0 h) (fun r => r) := by
  unfold qj_X13_misplaced_20
  have F_h : ∀ c k : Nat, (fun c k => nw_F wl_X13_misplaced wf_X13_misplaced false false c k = true) c k → h c k = h c k := fun _ _ _ => rfl
  refine fm_ca F_h (ff_X13_wrong nn) (nw_sub rfl) ?_; intro u3 F_u3
  exact fm_ret F_u3
set_option maxRecDepth 4000 in
theorem ff_X13_misplaced (nn : Nat) {h : ms_M} : Fm_ (fun c k => nw_F wl_X13_misplaced wf_X13_misplaced false false c k = true) h (qf_X13_misplaced nn h) (fun r => r) := by
  unfold qf_X13_misplaced
  have F_h : ∀ c k : Nat, (fun c k => nw_F wl_X13_misplaced wf_X13_misplaced false false c k = true) c k → h c k = h c k := fun _ _ _ => rfl
  refine fm_rd ?_; intro v6
  refine fm_if ?_ ?_
  · exact fm_tl F_h (fj_X13_misplaced_20 nn) (fun _ _ z => z)
  · exact fm_tl F_h (fj_X13_misplaced_20 nn) (fun _ _ z => z)
set_option maxRecDepth 4000 in
theorem ff_X13_sign_ (nn : Nat) {a1 : Int} {h : ms_M} : Fm_ (fun c k => nw_F wl_X13_sign_ wf_X13_sign_ false false c k = true) h (qf_X13_sign_ nn a1 h) (fun r => r) := by
  unfold qf_X13_sign_
  have F_h : ∀ c k : Nat, (fun c k => nw_F wl_X13_sign_ wf_X13_sign_ false false c k = true) c k → h c k = h c k := fun _ _ _ => rfl
  refine fm_if ?_ ?_
  · refine fm_pu ?_; intro u4
    refine fm_if ?_ ?_
    · refine fm_ca F_h (ff_X13_misplaced nn) (nw_sub rfl) ?_; intro u6 F_u6
      exact fm_ret F_u6
    · refine fm_xl ?_; intro v8
      refine fm_up F_h (nw_nf rfl) ?_; intro h9 F_h9
      exact fm_ret F_h9
  · exact fm_ret F_h
set_option maxRecDepth 4000 in
theorem fj_X13_isDeep_37 (nn : Nat) {s0 : Int} {h : ms_M} : Fm_ (fun c k => nw_F wl_X13_isDeep wf_X13_isDeep false false c k = true) h (qj_X13_isDeep_37 nn s0 h) (fun r => r.2) := by
  unfold qj_X13_isDeep_37
  have F_h : ∀ c k : Nat, (fun c k => nw_F wl_X13_isDeep wf_X13_isDeep false false c k = true) c k → h c k = h c k := fun _ _ _ => rfl
  refine fm_ca F_h (ff_X13_wrong nn) (nw_sub rfl) ?_; intro u3 F_u3
  exact fm_ret F_u3
set_option maxRecDepth 4000 in
theorem ff_X13_isDeep (nn : Nat) {a1 : Int} {h : ms_M} : Fm_ (fun c k => nw_F wl_X13_isDeep wf_X13_isDeep false false c k = true) h (qf_X13_isDeep nn a1 h) (fun r => r.2) := by
  unfold qf_X13_isDeep
  have F_h : ∀ c k : Nat, (fun c k => nw_F wl_X13_isDeep wf_X13_isDeep false false c k = true) c k → h c k = h c k := fun _ _ _ => rfl
  refine fm_if ?_ ?_
  · refine fm_if ?_ ?_
    · refine fm_rd ?_; intro v7
      refine fm_if ?_ ?_
      · exact fm_tl F_h (fj_X13_isDeep_37 nn) (fun _ _ z => z)
      · exact fm_tl F_h (fj_X13_isDeep_37 nn) (fun _ _ z => z)
    · exact fm_ret F_h
  · exact fm_ret F_h
set_option maxRecDepth 4000 in
theorem ff_X13_name (nn : Nat) {h : ms_M} : Fm_ (fun c k => nw_F wl_X13_name wf_X13_name false false c k = true) h (qf_X13_name nn h) (fun r => r.2) := by
  unfold qf_X13_name
  have F_h : ∀ c k : Nat, (fun c k => nw_F wl_X13_name wf_X13_name false false c k = true) c k → h c k = h c k := fun _ _ _ => rfl
  refine fm_if ?_ ?_
  · refine fm_rd ?_; intro v4
    refine fm_if ?_ ?_
    · refine fm_xl ?_; intro v6
      refine fm_up F_h (nw_nf rfl) ?_; intro h7 F_h7
      refine fm_xl ?_; intro v9
      exact fm_ret F_h7
    · refine fm_ca F_h (ff_X13_misplaced nn) (nw_sub rfl) ?_; intro u11 F_u11
      exact fm_ret F_u11
  · exact fm_ret F_h
def fgr_X13_expression (rc : tq_X13_expression) : Prop := (∀ {a1 : Int} {h : ms_M}, Fm_ (fun c k => nw_F wl_X13_expression wf_X13_expression false false c k = true) h (rc.1 a1 h) (fun r => r.2)) ∧ (∀ {a1 : Int} {a2 : Int} {h : ms_M}, Fm_ (fun c k => nw_F wl_X13_sides wf_X13_sides false false c k = true) h (rc.2.1 a1 a2 h) (fun r => r.2)) ∧ (∀ {a1 : Int} {h : ms_M}, Fm_ (fun c k => nw_F wl_X13_unary wf_X13_unary false false c k = true) h (rc.2.2.1 a1 h) (fun r => r.2)) ∧ (∀ {a1 : Int} {h : ms_M}, Fm_ (fun c k => nw_F wl_X13_arguments wf_X13_arguments false false c k = true) h (rc.2.2.2.1 a1 h) (fun r => r.2)) ∧ (∀ {a1 : Int} {h : ms_M}, Fm_ (fun c k => nw_F wl_X13_postfix wf_X13_postfix false false c k = true) h (rc.2.2.2.2.1 a1 h) (fun r => r.2)) ∧ (∀ {a1 : Int} {h : ms_M}, Fm_ (fun c k => nw_F wl_X13_primary wf_X13_primary false false c k = true) h (rc.2.2.2.2.2.1 a1 h) (fun r => r.2)) ∧ (∀ {a1 : Int} {h : ms_M}, Fm_ (fun c k => nw_F wl_X13_fresh wf_X13_fresh false false c k = true) h (rc.2.2.2.2.2.2 a1 h) (fun r => r.2))
set_option maxRecDepth 4000 in
theorem fo_X13_expression (nn : Nat) {rc : tq_X13_expression} (hr : fgr_X13_expression rc) {a1 : Int} {h : ms_M} : Fm_ (fun c k => nw_F wl_X13_expression wf_X13_expression false false c k = true) h (qo_X13_expression nn rc a1 h) (fun r => r.2) := by
  unfold qo_X13_expression
  have F_h : ∀ c k : Nat, (fun c k => nw_F wl_X13_expression wf_X13_expression false false c k = true) c k → h c k = h c k := fun _ _ _ => rfl
  refine fm_ca F_h (ff_X13_isDeep nn) (nw_sub rfl) ?_; intro u2 F_u2
  refine fm_if ?_ ?_
  · refine fm_xl ?_; intro v4
    refine fm_ca F_u2 (hr.2.1) (fun _ _ z => z) ?_; intro u6 F_u6
    refine fm_if ?_ ?_
    · exact fm_ret F_u6
    · refine fm_pu ?_; intro u10
      refine fm_if ?_ ?_
      · refine fm_ca F_u6 (ff_X13_add nn) (nw_sub rfl) ?_; intro u13 F_u13
        refine fm_xl ?_; intro v15
        refine fm_up F_u13 (nw_nf rfl) ?_; intro h16 F_h16
        refine fm_wA F_h16 (nw_ne rfl) ?_; intro h18 F_h18
        refine fm_xl ?_; intro v20
        refine fm_ca F_h18 (hr.1) (fun _ _ z => z) ?_; intro u22 F_u22
        refine fm_wA F_u22 (nw_ne rfl) ?_; intro h23 F_h23
        refine fm_ca F_h23 (ff_X13_sign_ nn) (nw_sub rfl) ?_; intro u25 F_u25
        refine fm_xl ?_; intro v27
        refine fm_ca F_u25 (hr.1) (fun _ _ z => z) ?_; intro u29 F_u29
        refine fm_wA F_u29 (nw_ne rfl) ?_; intro h30 F_h30
        exact fm_ret F_h30
      · exact fm_ret F_u6
  · exact fm_ret F_u2
set_option maxRecDepth 4000 in
theorem fj_X13_sides_157 (nn : Nat) {rc : tq_X13_expression} (hr : fgr_X13_expression rc) {qkk_37 : Int → Int → Int → Int → Int → Int → ms_M → Option (Int × ms_M)} (hk_kk_37 : ∀ {l1 : Int} {l2 : Int} {l3 : Int} {l4 : Int} {l5 : Int} {l6 : Int} {h : ms_M}, Fm_ (fun c k => nw_F wl_X13_sides wf_X13_sides false false c k = true) h (qkk_37 l1 l2 l3 l4 l5 l6 h) (fun r => r.2)) {l1 : Int} {l2 : Int} {l3 : Int} {l4 : Int} {l6 : Int} {h : ms_M} : Fm_ (fun c k => nw_F wl_X13_sides wf_X13_sides false false c k = true) h (qj_X13_sides_157 nn rc qkk_37 l1 l2 l3 l4 l6 h) (fun r => r.2) := by
  unfold qj_X13_sides_157
  have F_h : ∀ c k : Nat, (fun c k => nw_F wl_X13_sides wf_X13_sides false false c k = true) c k → h c k = h c k := fun _ _ _ => rfl
  refine fm_if ?_ ?_
  · exact fm_tl F_h (hk_kk_37) (fun _ _ z => z)
  · refine fm_pu ?_; intro u4
    exact fm_tl F_h (hk_kk_37) (fun _ _ z => z)
set_option maxRecDepth 4000 in
theorem fw_X13_sides_37 (nn : Nat) {rc : tq_X13_expression} (hr : fgr_X13_expression rc) : ∀ (k : Nat) {l1 : Int} {l2 : Int} {l3 : Int} {l4 : Int} {l5 : Int} {l6 : Int} {h : ms_M}, Fm_ (fun c k => nw_F wl_X13_sides wf_X13_sides false false c k = true) h (qw_X13_sides_37 nn rc k l1 l2 l3 l4 l5 l6 h) (fun r => r.2) := by
  intro k
  induction k with
  | zero => intros; exact fm_no
  | succ k ih =>
    intro l1 l2 l3 l4 l5 l6 h
    unfold qw_X13_sides_37
    have F_h : ∀ c k : Nat, (fun c k => nw_F wl_X13_sides wf_X13_sides false false c k = true) c k → h c k = h c k := fun _ _ _ => rfl
    refine fm_if ?_ ?_
    · exact fm_ret F_h
    · refine fm_if ?_ ?_
      · exact fm_ret F_h
      · refine fm_if ?_ ?_
        · exact fm_ret F_h
        · refine fm_xl ?_; intro v9
          refine fm_up F_h (nw_nf rfl) ?_; intro h10 F_h10
          refine fm_pu ?_; intro u12
          refine fm_if ?_ ?_
          · refine fm_ca F_h10 (ff_X13_add nn) (nw_sub rfl) ?_; intro u14 F_u14
            refine fm_wA F_u14 (nw_ne rfl) ?_; intro h16 F_h16
            refine fm_xl ?_; intro v18
            refine fm_ca F_h16 (hr.2.1) (fun _ _ z => z) ?_; intro u20 F_u20
            refine fm_wA F_u20 (nw_ne rfl) ?_; intro h21 F_h21
            exact fm_tl F_h21 (fj_X13_sides_157 nn hr ih) (fun _ _ z => z)
          · refine fm_ca F_h10 (ff_X13_name nn) (nw_sub rfl) ?_; intro u23 F_u23
            refine fm_ca F_u23 (ff_X13_add nn) (nw_sub rfl) ?_; intro u25 F_u25
            refine fm_wA F_u25 (nw_ne rfl) ?_; intro h27 F_h27
            exact fm_tl F_h27 (fj_X13_sides_157 nn hr ih) (fun _ _ z => z)
set_option maxRecDepth 4000 in
theorem fo_X13_sides (nn : Nat) {rc : tq_X13_expression} (hr : fgr_X13_expression rc) {a1 : Int} {a2 : Int} {h : ms_M} : Fm_ (fun c k => nw_F wl_X13_sides wf_X13_sides false false c k = true) h (qo_X13_sides nn rc a1 a2 h) (fun r => r.2) := by
  unfold qo_X13_sides
  have F_h : ∀ c k : Nat, (fun c k => nw_F wl_X13_sides wf_X13_sides false false c k = true) c k → h c k = h c k := fun _ _ _ => rfl
  refine fm_ca F_h (hr.2.2.1) (fun _ _ z => z) ?_; intro u34 F_u34
  refine fm_if ?_ ?_
  · exact fm_tl F_u34 (fw_X13_sides_37 nn hr _) (fun _ _ z => z)
  · refine fm_pu ?_; intro u38
    exact fm_tl F_u34 (fw_X13_sides_37 nn hr _) (fun _ _ z => z)
