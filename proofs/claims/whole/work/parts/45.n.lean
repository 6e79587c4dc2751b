/- the group of work keeps rowTop and the rows below it -/
section
variable {nn : Nat} {h g r : ms_M}
def RKpG_X13_work (rc : tq_X13_work) : Prop := (∀ {a1 : Int} {h : ms_M}, (0 ≤ h 160 57 ∧ h 160 57 ≤ 10000) → Pc (rc.1 a1 h) (fun u => RKp h u)) ∧ (∀ {a1 : Int} {h : ms_M}, (0 ≤ h 160 57 ∧ h 160 57 ≤ 10000) → Pc (rc.2.1 a1 h) (fun u => RKp h u)) ∧ (∀ {a1 : Int} {a2 : Int} {a3 : Int} {h : ms_M}, (0 ≤ h 160 57 ∧ h 160 57 ≤ 10000) → Pc (rc.2.2.1 a1 a2 a3 h) (fun u => RKp h u)) ∧ (∀ {a1 : Int} {h : ms_M}, (0 ≤ h 160 57 ∧ h 160 57 ≤ 10000) → Pc (rc.2.2.2 a1 h) (fun u => RKp h u))
theorem rk_qf_X13_classConstant {a1 : Int} {h : ms_M} (S : 0 ≤ h 160 57 ∧ h 160 57 ≤ 10000) : Pc (qf_X13_classConstant nn a1 h) (fun u => RKp h u.2) := fun u e => ⟨ff_X13_classConstant nn u e 160 57 rfl, fun j _ => ff_X13_classConstant nn u e 199 j (nw_ar rfl j)⟩
theorem rk_qf_X13_memberConstant {a1 : Int} {a2 : Int} {h : ms_M} (S : 0 ≤ h 160 57 ∧ h 160 57 ≤ 10000) : Pc (qf_X13_memberConstant nn a1 a2 h) (fun u => RKp h u.2) := fun u e => ⟨ff_X13_memberConstant nn u e 160 57 rfl, fun j _ => ff_X13_memberConstant nn u e 199 j (nw_ar rfl j)⟩
theorem rk_qf_X13_put {a1 : Int} {h : ms_M} (S : 0 ≤ h 160 57 ∧ h 160 57 ≤ 10000) : Pc (qf_X13_put nn a1 h) (fun u => RKp h u) := fun u e => ⟨ff_X13_put nn u e 160 57 rfl, fun j _ => ff_X13_put nn u e 199 j (nw_ar rfl j)⟩
theorem rk_qf_X13_push {a1 : Int} {h : ms_M} (S : 0 ≤ h 160 57 ∧ h 160 57 ≤ 10000) : Pc (qf_X13_push nn a1 h) (fun u => RKp h u) := fun u e => ⟨ff_X13_push nn u e 160 57 rfl, fun j _ => ff_X13_push nn u e 199 j (nw_ar rfl j)⟩
theorem rk_qf_X13_self {h : ms_M} (S : 0 ≤ h 160 57 ∧ h 160 57 ≤ 10000) : Pc (qf_X13_self nn h) (fun u => RKp h u) := fun u e => ⟨ff_X13_self nn u e 160 57 rfl, fun j _ => ff_X13_self nn u e 199 j (nw_ar rfl j)⟩
theorem rk_qf_X13_jump {a1 : Int} {a2 : Int} {h : ms_M} (S : 0 ≤ h 160 57 ∧ h 160 57 ≤ 10000) : Pc (qf_X13_jump nn a1 a2 h) (fun u => RKp h u) := fun u e => ⟨ff_X13_jump nn u e 160 57 rfl, fun j _ => ff_X13_jump nn u e 199 j (nw_ar rfl j)⟩
theorem rk_qf_X13_label {h : ms_M} (S : 0 ≤ h 160 57 ∧ h 160 57 ≤ 10000) : Pc (qf_X13_label nn h) (fun u => RKp h u.2) := fun u e => ⟨ff_X13_label nn u e 160 57 rfl, fun j _ => ff_X13_label nn u e 199 j (nw_ar rfl j)⟩
theorem rk_qf_X13_number {a1 : Int} {h : ms_M} (S : 0 ≤ h 160 57 ∧ h 160 57 ≤ 10000) : Pc (qf_X13_number nn a1 h) (fun u => RKp h u) := fun u e => ⟨ff_X13_number nn u e 160 57 rfl, fun j _ => ff_X13_number nn u e 199 j (nw_ar rfl j)⟩
theorem rk_qf_X13_stands {a1 : Int} {a2 : Int} {h : ms_M} (S : 0 ≤ h 160 57 ∧ h 160 57 ≤ 10000) : Pc (qf_X13_stands nn a1 a2 h) (fun u => RKp h u) := fun u e => ⟨ff_X13_stands nn u e 160 57 rfl, fun j _ => ff_X13_stands nn u e 199 j (nw_ar rfl j)⟩
theorem rk_qf_X13_truth {a1 : Int} {a2 : Int} {h : ms_M} (S : 0 ≤ h 160 57 ∧ h 160 57 ≤ 10000) : Pc (qf_X13_truth nn a1 a2 h) (fun u => RKp h u) := fun u e => ⟨ff_X13_truth nn u e 160 57 rfl, fun j _ => ff_X13_truth nn u e 199 j (nw_ar rfl j)⟩
theorem rk_qf_X13_turn {a1 : Int} {a2 : Int} {h : ms_M} (S : 0 ≤ h 160 57 ∧ h 160 57 ≤ 10000) : Pc (qf_X13_turn nn a1 a2 h) (fun u => RKp h u) := fun u e => ⟨ff_X13_turn nn u e 160 57 rfl, fun j _ => ff_X13_turn nn u e 199 j (nw_ar rfl j)⟩
theorem rk_qj_X13_workOne_775 {rc : tq_X13_work} (G : RKpG_X13_work rc) {h : ms_M} (S : (0 ≤ h 160 57 ∧ h 160 57 ≤ 10000)) : Pc (qj_X13_workOne_775 nn rc h) (fun u => RKp h u) := by
  have F : RKp h h := rk_r
  unfold qj_X13_workOne_775
  exact pc_ret F
theorem rk_qj_X13_workOne_630 {rc : tq_X13_work} {l1 : Int} {l2 : Int} {s0 : Int} (G : RKpG_X13_work rc) {h : ms_M} (S : (0 ≤ h 160 57 ∧ h 160 57 ≤ 10000)) : Pc (qj_X13_workOne_630 nn rc l1 l2 s0 h) (fun u => RKp h u) := by
  have F : RKp h h := rk_r
  unfold qj_X13_workOne_630
  refine pc_sv (rk_qf_X13_put (rk_n S F)) ?_; intro u2 Qu2
  have Fu2 : RKp h u2 := rk_t F Qu2
  refine pc_rA ?_; intro _ _ v4 _
  refine pc_sv (rk_qf_X13_classConstant (rk_n S Fu2)) ?_; intro u6 Qu6
  have Fu6 : RKp h u6.2 := rk_t Fu2 Qu6
  refine pc_sv (rk_qf_X13_put (rk_n S Fu6)) ?_; intro u8 Qu8
  have Fu8 : RKp h u8 := rk_t Fu6 Qu8
  refine pc_sv (rk_qf_X13_turn (rk_n S Fu8)) ?_; intro u10 Qu10
  have Fu10 : RKp h u10 := rk_t Fu8 Qu10
  exact pc_ret Fu10
theorem rk_qj_X13_workOne_609 {rc : tq_X13_work} {l1 : Int} {l2 : Int} (G : RKpG_X13_work rc) {h : ms_M} (S : (0 ≤ h 160 57 ∧ h 160 57 ≤ 10000)) : Pc (qj_X13_workOne_609 nn rc l1 l2 h) (fun u => RKp h u) := by
  have F : RKp h h := rk_r
  unfold qj_X13_workOne_609
  refine pc_rA ?_; intro _ _ v12 _
  refine pc_if (fun _ => ?_) (fun _ => ?_)
  · exact pc_imp (rk_qj_X13_workOne_630 G (rk_n S F)) (fun _ q => rk_t F q)
  · exact pc_imp (rk_qj_X13_workOne_630 G (rk_n S F)) (fun _ q => rk_t F q)
theorem rk_qj_X13_workOne_588 {rc : tq_X13_work} {l1 : Int} {l2 : Int} (G : RKpG_X13_work rc) {h : ms_M} (S : (0 ≤ h 160 57 ∧ h 160 57 ≤ 10000)) : Pc (qj_X13_workOne_588 nn rc l1 l2 h) (fun u => RKp h u) := by
  have F : RKp h h := rk_r
  unfold qj_X13_workOne_588
  refine pc_rA ?_; intro _ _ v15 _
  refine pc_if (fun _ => ?_) (fun _ => ?_)
  · exact pc_imp (rk_qj_X13_workOne_609 G (rk_n S F)) (fun _ q => rk_t F q)
  · refine pc_rA ?_; intro _ _ v17 _
    refine pc_sv (G.1 (rk_n S F)) ?_; intro u19 Qu19
    have Fu19 : RKp h u19 := rk_t F Qu19
    exact pc_imp (rk_qj_X13_workOne_609 G (rk_n S Fu19)) (fun _ q => rk_t Fu19 q)
theorem rk_qj_X13_workOne_508 {rc : tq_X13_work} {l2 : Int} {s0 : Int} (G : RKpG_X13_work rc) {h : ms_M} (S : (0 ≤ h 160 57 ∧ h 160 57 ≤ 10000)) : Pc (qj_X13_workOne_508 nn rc l2 s0 h) (fun u => RKp h u) := by
  have F : RKp h h := rk_r
  unfold qj_X13_workOne_508
  refine pc_sv (rk_qf_X13_put (rk_n S F)) ?_; intro u22 Qu22
  have Fu22 : RKp h u22 := rk_t F Qu22
  refine pc_sv (rk_qf_X13_turn (rk_n S Fu22)) ?_; intro u24 Qu24
  have Fu24 : RKp h u24 := rk_t Fu22 Qu24
  exact pc_ret Fu24
theorem rk_qj_X13_workOne_479 {rc : tq_X13_work} {l2 : Int} (G : RKpG_X13_work rc) {h : ms_M} (S : (0 ≤ h 160 57 ∧ h 160 57 ≤ 10000)) : Pc (qj_X13_workOne_479 nn rc l2 h) (fun u => RKp h u) := by
  have F : RKp h h := rk_r
  unfold qj_X13_workOne_479
  refine pc_sv (rk_qf_X13_turn (rk_n S F)) ?_; intro u26 Qu26
  have Fu26 : RKp h u26 := rk_t F Qu26
  exact pc_ret Fu26
theorem rk_qj_X13_workOne_316 {rc : tq_X13_work} {l1 : Int} {s0 : Int} {s1 : Int} (G : RKpG_X13_work rc) {h : ms_M} (S : (0 ≤ h 160 57 ∧ h 160 57 ≤ 10000)) : Pc (qj_X13_workOne_316 nn rc l1 s0 s1 h) (fun u => RKp h u) := by
  have F : RKp h h := rk_r
  unfold qj_X13_workOne_316
  refine pc_rA ?_; intro _ _ v28 _
  refine pc_if (fun _ => ?_) (fun _ => ?_)
  · refine pc_sv (G.2.2.1 (rk_n S F)) ?_; intro u30 Qu30
    have Fu30 : RKp h u30 := rk_t F Qu30
    exact pc_ret Fu30
  · refine pc_sv (G.2.2.1 (rk_n S F)) ?_; intro u32 Qu32
    have Fu32 : RKp h u32 := rk_t F Qu32
    exact pc_ret Fu32
theorem rk_qj_X13_workOne_268 {rc : tq_X13_work} {l1 : Int} {l3 : Int} (G : RKpG_X13_work rc) {h : ms_M} (S : (0 ≤ h 160 57 ∧ h 160 57 ≤ 10000)) : Pc (qj_X13_workOne_268 nn rc l1 l3 h) (fun u => RKp h u) := by
  have F : RKp h h := rk_r
  unfold qj_X13_workOne_268
  refine pc_sv (G.2.2.1 (rk_n S F)) ?_; intro u36 Qu36
  have Fu36 : RKp h u36 := rk_t F Qu36
  exact pc_ret Fu36
theorem rk_qj_X13_workOne_259 {rc : tq_X13_work} {l1 : Int} {s0 : Int} (G : RKpG_X13_work rc) {h : ms_M} (S : (0 ≤ h 160 57 ∧ h 160 57 ≤ 10000)) : Pc (qj_X13_workOne_259 nn rc l1 s0 h) (fun u => RKp h u) := by
  have F : RKp h h := rk_r
  unfold qj_X13_workOne_259
  refine pc_if (fun _ => ?_) (fun _ => ?_)
  · exact pc_imp (rk_qj_X13_workOne_268 G (rk_n S F)) (fun _ q => rk_t F q)
  · refine pc_sv (rk_qf_X13_self (rk_n S F)) ?_; intro u38 Qu38
    have Fu38 : RKp h u38 := rk_t F Qu38
    exact pc_imp (rk_qj_X13_workOne_268 G (rk_n S Fu38)) (fun _ q => rk_t Fu38 q)
theorem rk_qj_X13_workOne_184 {rc : tq_X13_work} {l1 : Int} {l2 : Int} {s0 : Int} (G : RKpG_X13_work rc) {h : ms_M} (S : (0 ≤ h 160 57 ∧ h 160 57 ≤ 10000)) : Pc (qj_X13_workOne_184 nn rc l1 l2 s0 h) (fun u => RKp h u) := by
  have F : RKp h h := rk_r
  unfold qj_X13_workOne_184
  refine pc_sv (rk_qf_X13_put (rk_n S F)) ?_; intro u41 Qu41
  have Fu41 : RKp h u41 := rk_t F Qu41
  refine pc_rA ?_; intro _ _ v43 _
  refine pc_sv (rk_qf_X13_put (rk_n S Fu41)) ?_; intro u45 Qu45
  have Fu45 : RKp h u45 := rk_t Fu41 Qu45
  refine pc_sv (rk_qf_X13_push (rk_n S Fu45)) ?_; intro u47 Qu47
  have Fu47 : RKp h u47 := rk_t Fu45 Qu47
  exact pc_ret Fu47
theorem rk_qj_X13_workOne_147 {rc : tq_X13_work} {l2 : Int} {s0 : Int} (G : RKpG_X13_work rc) {h : ms_M} (S : (0 ≤ h 160 57 ∧ h 160 57 ≤ 10000)) : Pc (qj_X13_workOne_147 nn rc l2 s0 h) (fun u => RKp h u) := by
  have F : RKp h h := rk_r
  unfold qj_X13_workOne_147
  refine pc_sv (rk_qf_X13_put (rk_n S F)) ?_; intro u49 Qu49
  have Fu49 : RKp h u49 := rk_t F Qu49
  refine pc_sv (rk_qf_X13_push (rk_n S Fu49)) ?_; intro u51 Qu51
  have Fu51 : RKp h u51 := rk_t Fu49 Qu51
  exact pc_ret Fu51
theorem rk_qj_X13_workOne_115 {rc : tq_X13_work} {l1 : Int} {l2 : Int} (G : RKpG_X13_work rc) {h : ms_M} (S : (0 ≤ h 160 57 ∧ h 160 57 ≤ 10000)) : Pc (qj_X13_workOne_115 nn rc l1 l2 h) (fun u => RKp h u) := by
  have F : RKp h h := rk_r
  unfold qj_X13_workOne_115
  refine pc_rA ?_; intro _ _ v53 _
  refine pc_if (fun _ => ?_) (fun _ => ?_)
  · refine pc_rA ?_; intro _ _ v55 _
    refine pc_if (fun _ => ?_) (fun _ => ?_)
    · exact pc_imp (rk_qj_X13_workOne_147 G (rk_n S F)) (fun _ q => rk_t F q)
    · exact pc_imp (rk_qj_X13_workOne_147 G (rk_n S F)) (fun _ q => rk_t F q)
  · exact pc_imp (rk_qj_X13_workOne_147 G (rk_n S F)) (fun _ q => rk_t F q)
theorem rk_qo_X13_workOne {rc : tq_X13_work} {a1 : Int} (G : RKpG_X13_work rc) {h : ms_M} (S : (0 ≤ h 160 57 ∧ h 160 57 ≤ 10000)) : Pc (qo_X13_workOne nn rc a1 h) (fun u => RKp h u) := by
  have F : RKp h h := rk_r
  unfold qo_X13_workOne
  refine pc_rA ?_; intro _ _ v59 _
  refine pc_rA ?_; intro _ _ v61 _
  refine pc_if (fun _ => ?_) (fun _ => ?_)
  · refine pc_rA ?_; intro _ _ v100 _
    refine pc_sv (rk_qf_X13_number (rk_n S F)) ?_; intro u102 Qu102
    have Fu102 : RKp h u102 := rk_t F Qu102
    exact pc_ret Fu102
  · refine pc_if (fun _ => ?_) (fun _ => ?_)
    · exact pc_imp (rk_qj_X13_workOne_115 G (rk_n S F)) (fun _ q => rk_t F q)
    · refine pc_if (fun _ => ?_) (fun _ => ?_)
      · exact pc_imp (rk_qj_X13_workOne_115 G (rk_n S F)) (fun _ q => rk_t F q)
      · refine pc_if (fun _ => ?_) (fun _ => ?_)
        · exact pc_imp (rk_qj_X13_workOne_115 G (rk_n S F)) (fun _ q => rk_t F q)
        · refine pc_if (fun _ => ?_) (fun _ => ?_)
          · refine pc_sv (rk_qf_X13_self (rk_n S F)) ?_; intro u104 Qu104
            have Fu104 : RKp h u104 := rk_t F Qu104
            exact pc_ret Fu104
          · refine pc_if (fun _ => ?_) (fun _ => ?_)
            · refine pc_rA ?_; intro _ _ v106 _
              refine pc_if (fun _ => ?_) (fun _ => ?_)
              · refine pc_sv (rk_qf_X13_self (rk_n S F)) ?_; intro u108 Qu108
                have Fu108 : RKp h u108 := rk_t F Qu108
                refine pc_sv (rk_qf_X13_put (rk_n S Fu108)) ?_; intro u110 Qu110
                have Fu110 : RKp h u110 := rk_t Fu108 Qu110
                refine pc_rA ?_; intro _ _ v113 _
                refine pc_sv (rk_qf_X13_memberConstant (rk_n S Fu110)) ?_; intro u115 Qu115
                have Fu115 : RKp h u115.2 := rk_t Fu110 Qu115
                refine pc_sv (rk_qf_X13_put (rk_n S Fu115)) ?_; intro u117 Qu117
                have Fu117 : RKp h u117 := rk_t Fu115 Qu117
                refine pc_sv (rk_qf_X13_turn (rk_n S Fu117)) ?_; intro u119 Qu119
                have Fu119 : RKp h u119 := rk_t Fu117 Qu119
                exact pc_ret Fu119
              · refine pc_if (fun _ => ?_) (fun _ => ?_)
                · exact pc_imp (rk_qj_X13_workOne_184 G (rk_n S F)) (fun _ q => rk_t F q)
                · exact pc_imp (rk_qj_X13_workOne_184 G (rk_n S F)) (fun _ q => rk_t F q)
            · refine pc_if (fun _ => ?_) (fun _ => ?_)
              · refine pc_rA ?_; intro _ _ v124 _
                refine pc_rA ?_; intro _ _ v125 _
                refine pc_if (fun _ => ?_) (fun _ => ?_)
                · exact pc_imp (rk_qj_X13_workOne_259 G (rk_n S F)) (fun _ q => rk_t F q)
                · exact pc_imp (rk_qj_X13_workOne_259 G (rk_n S F)) (fun _ q => rk_t F q)
              · refine pc_if (fun _ => ?_) (fun _ => ?_)
                · refine pc_sv (rk_qf_X13_put (rk_n S F)) ?_; intro u128 Qu128
                  have Fu128 : RKp h u128 := rk_t F Qu128
                  refine pc_sv (rk_qf_X13_classConstant (rk_n S Fu128)) ?_; intro u130 Qu130
                  have Fu130 : RKp h u130.2 := rk_t Fu128 Qu130
                  refine pc_sv (rk_qf_X13_put (rk_n S Fu130)) ?_; intro u132 Qu132
                  have Fu132 : RKp h u132 := rk_t Fu130 Qu132
                  refine pc_sv (rk_qf_X13_push (rk_n S Fu132)) ?_; intro u134 Qu134
                  have Fu134 : RKp h u134 := rk_t Fu132 Qu134
                  exact pc_ret Fu134
                · refine pc_if (fun _ => ?_) (fun _ => ?_)
                  · refine pc_rA ?_; intro _ _ v136 _
                    refine pc_sv (G.1 (rk_n S F)) ?_; intro u138 Qu138
                    have Fu138 : RKp h u138 := rk_t F Qu138
                    refine pc_sv (rk_qf_X13_put (rk_n S Fu138)) ?_; intro u140 Qu140
                    have Fu140 : RKp h u140 := rk_t Fu138 Qu140
                    refine pc_sv (rk_qf_X13_put (rk_n S Fu140)) ?_; intro u142 Qu142
                    have Fu142 : RKp h u142 := rk_t Fu140 Qu142
                    refine pc_sv (rk_qf_X13_turn (rk_n S Fu142)) ?_; intro u144 Qu144
                    have Fu144 : RKp h u144 := rk_t Fu142 Qu144
                    exact pc_ret Fu144
                  · refine pc_if (fun _ => ?_) (fun _ => ?_)
                    · refine pc_rA ?_; intro _ _ v146 _
                      refine pc_sv (G.1 (rk_n S F)) ?_; intro u148 Qu148
                      have Fu148 : RKp h u148 := rk_t F Qu148
                      refine pc_sv (rk_qf_X13_put (rk_n S Fu148)) ?_; intro u150 Qu150
                      have Fu150 : RKp h u150 := rk_t Fu148 Qu150
                      refine pc_xl ?_; intro v151 _
                      refine pc_sv (rk_qf_X13_classConstant (rk_n S Fu150)) ?_; intro u153 Qu153
                      have Fu153 : RKp h u153.2 := rk_t Fu150 Qu153
                      refine pc_sv (rk_qf_X13_put (rk_n S Fu153)) ?_; intro u155 Qu155
                      have Fu155 : RKp h u155 := rk_t Fu153 Qu155
                      refine pc_sv (rk_qf_X13_turn (rk_n S Fu155)) ?_; intro u157 Qu157
                      have Fu157 : RKp h u157 := rk_t Fu155 Qu157
                      exact pc_ret Fu157
                    · refine pc_if (fun _ => ?_) (fun _ => ?_)
                      · refine pc_rA ?_; intro _ _ v159 _
                        refine pc_if (fun _ => ?_) (fun _ => ?_)
                        · refine pc_sv (rk_qf_X13_put (rk_n S F)) ?_; intro u161 Qu161
                          have Fu161 : RKp h u161 := rk_t F Qu161
                          refine pc_rA ?_; intro _ _ v164 _
                          refine pc_rA ?_; intro _ _ v165 _
                          refine pc_xl ?_; intro v166 _
                          refine pc_xl ?_; intro v167 _
                          refine pc_rA ?_; intro _ _ v169 _
                          refine pc_sv (rk_qf_X13_memberConstant (rk_n S Fu161)) ?_; intro u171 Qu171
                          have Fu171 : RKp h u171.2 := rk_t Fu161 Qu171
                          refine pc_sv (rk_qf_X13_put (rk_n S Fu171)) ?_; intro u173 Qu173
                          have Fu173 : RKp h u173 := rk_t Fu171 Qu173
                          exact pc_imp (rk_qj_X13_workOne_479 G (rk_n S Fu173)) (fun _ q => rk_t Fu173 q)
                        · refine pc_sv (rk_qf_X13_put (rk_n S F)) ?_; intro u175 Qu175
                          have Fu175 : RKp h u175 := rk_t F Qu175
                          exact pc_imp (rk_qj_X13_workOne_479 G (rk_n S Fu175)) (fun _ q => rk_t Fu175 q)
                      · refine pc_if (fun _ => ?_) (fun _ => ?_)
                        · refine pc_rA ?_; intro _ _ v178 _
                          refine pc_if (fun _ => ?_) (fun _ => ?_)
                          · refine pc_rA ?_; intro _ _ v180 _
                            exact pc_imp (rk_qj_X13_workOne_316 G (rk_n S F)) (fun _ q => rk_t F q)
                          · refine pc_rA ?_; intro _ _ v183 _
                            refine pc_rA ?_; intro _ _ v184 _
                            refine pc_xl ?_; intro v185 _
                            refine pc_xl ?_; intro v186 _
                            exact pc_imp (rk_qj_X13_workOne_316 G (rk_n S F)) (fun _ q => rk_t F q)
                        · refine pc_if (fun _ => ?_) (fun _ => ?_)
                          · refine pc_rA ?_; intro _ _ v189 _
                            refine pc_sv (G.1 (rk_n S F)) ?_; intro u191 Qu191
                            have Fu191 : RKp h u191 := rk_t F Qu191
                            refine pc_if (fun _ => ?_) (fun _ => ?_)
                            · exact pc_imp (rk_qj_X13_workOne_508 G (rk_n S Fu191)) (fun _ q => rk_t Fu191 q)
                            · exact pc_imp (rk_qj_X13_workOne_508 G (rk_n S Fu191)) (fun _ q => rk_t Fu191 q)
                          · refine pc_if (fun _ => ?_) (fun _ => ?_)
                            · refine pc_rA ?_; intro _ _ v194 _
                              refine pc_sv (G.1 (rk_n S F)) ?_; intro u196 Qu196
                              have Fu196 : RKp h u196 := rk_t F Qu196
                              refine pc_sv (rk_qf_X13_put (rk_n S Fu196)) ?_; intro u198 Qu198
                              have Fu198 : RKp h u198 := rk_t Fu196 Qu198
                              exact pc_ret Fu198
                            · refine pc_if (fun _ => ?_) (fun _ => ?_)
                              · refine pc_rA ?_; intro _ _ v200 _
                                refine pc_sv (G.1 (rk_n S F)) ?_; intro u202 Qu202
                                have Fu202 : RKp h u202 := rk_t F Qu202
                                refine pc_sv (rk_qf_X13_truth (rk_n S Fu202)) ?_; intro u204 Qu204
                                have Fu204 : RKp h u204 := rk_t Fu202 Qu204
                                exact pc_ret Fu204
                              · refine pc_if (fun _ => ?_) (fun _ => ?_)
                                · refine pc_rA ?_; intro _ _ v206 _
                                  refine pc_sv (G.1 (rk_n S F)) ?_; intro u208 Qu208
                                  have Fu208 : RKp h u208 := rk_t F Qu208
                                  refine pc_sv (rk_qf_X13_put (rk_n S Fu208)) ?_; intro u210 Qu210
                                  have Fu210 : RKp h u210 := rk_t Fu208 Qu210
                                  refine pc_sv (rk_qf_X13_push (rk_n S Fu210)) ?_; intro u212 Qu212
                                  have Fu212 : RKp h u212 := rk_t Fu210 Qu212
                                  refine pc_sv (rk_qf_X13_put (rk_n S Fu212)) ?_; intro u214 Qu214
                                  have Fu214 : RKp h u214 := rk_t Fu212 Qu214
                                  refine pc_sv (rk_qf_X13_turn (rk_n S Fu214)) ?_; intro u216 Qu216
                                  have Fu216 : RKp h u216 := rk_t Fu214 Qu216
                                  exact pc_ret Fu216
                                · refine pc_if (fun _ => ?_) (fun _ => ?_)
                                  · exact pc_imp (rk_qj_X13_workOne_588 G (rk_n S F)) (fun _ q => rk_t F q)
                                  · refine pc_if (fun _ => ?_) (fun _ => ?_)
                                    · refine pc_sv (G.2.2.2 (rk_n S F)) ?_; intro u218 Qu218
                                      have Fu218 : RKp h u218 := rk_t F Qu218
                                      exact pc_ret Fu218
                                    · refine pc_if (fun _ => ?_) (fun _ => ?_)
                                      · exact pc_imp (rk_qj_X13_workOne_588 G (rk_n S F)) (fun _ q => rk_t F q)
                                      · refine pc_sv (rk_qf_X13_label (rk_n S F)) ?_; intro u63 Qu63
                                        have Fu63 : RKp h u63.2 := rk_t F Qu63
                                        refine pc_sv (rk_qf_X13_label (rk_n S Fu63)) ?_; intro u65 Qu65
                                        have Fu65 : RKp h u65.2 := rk_t Fu63 Qu65
                                        refine pc_rA ?_; intro _ _ v67 _
                                        refine pc_sv (G.1 (rk_n S Fu65)) ?_; intro u69 Qu69
                                        have Fu69 : RKp h u69 := rk_t Fu65 Qu69
                                        refine pc_xl ?_; intro v71 _
                                        refine pc_xl ?_; intro h72 Eh72
                                        have Fh72 : RKp h h72 := by rw [Eh72]; exact rk_u Fu69 (by omega)
                                        refine pc_sv (rk_qf_X13_jump (rk_n S Fh72)) ?_; intro u74 Qu74
                                        have Fu74 : RKp h u74 := rk_t Fh72 Qu74
                                        refine pc_rA ?_; intro _ _ v76 _
                                        refine pc_sv (G.1 (rk_n S Fu74)) ?_; intro u78 Qu78
                                        have Fu78 : RKp h u78 := rk_t Fu74 Qu78
                                        refine pc_xl ?_; intro v80 _
                                        refine pc_xl ?_; intro h81 Eh81
                                        have Fh81 : RKp h h81 := by rw [Eh81]; exact rk_u Fu78 (by omega)
                                        refine pc_sv (rk_qf_X13_jump (rk_n S Fh81)) ?_; intro u83 Qu83
                                        have Fu83 : RKp h u83 := rk_t Fh81 Qu83
                                        refine pc_sv (rk_qf_X13_stands (rk_n S Fu83)) ?_; intro u86 Qu86
                                        have Fu86 : RKp h u86 := rk_t Fu83 Qu86
                                        refine pc_rA ?_; intro _ _ v88 _
                                        refine pc_sv (G.1 (rk_n S Fu86)) ?_; intro u90 Qu90
                                        have Fu90 : RKp h u90 := rk_t Fu86 Qu90
                                        refine pc_xl ?_; intro v92 _
                                        refine pc_xl ?_; intro h93 Eh93
                                        have Fh93 : RKp h h93 := by rw [Eh93]; exact rk_u Fu90 (by omega)
                                        refine pc_sv (rk_qf_X13_push (rk_n S Fh93)) ?_; intro u95 Qu95
                                        have Fu95 : RKp h u95 := rk_t Fh93 Qu95
                                        refine pc_sv (rk_qf_X13_stands (rk_n S Fu95)) ?_; intro u98 Qu98
                                        have Fu98 : RKp h u98 := rk_t Fu95 Qu98
                                        exact pc_imp (rk_qj_X13_workOne_775 G (rk_n S Fu98)) (fun _ q => rk_t Fu98 q)
theorem rk_qj_X13_workCall_65 {rc : tq_X13_work} {l1 : Int} {l2 : Int} {l4 : Int} {s0 : Int} (G : RKpG_X13_work rc) {h : ms_M} (S : (0 ≤ h 160 57 ∧ h 160 57 ≤ 10000)) : Pc (qj_X13_workCall_65 nn rc l1 l2 l4 s0 h) (fun u => RKp h u) := by
  have F : RKp h h := rk_r
  unfold qj_X13_workCall_65
  refine pc_sv (rk_qf_X13_put (rk_n S F)) ?_; intro u2 Qu2
  have Fu2 : RKp h u2 := rk_t F Qu2
  refine pc_rA ?_; intro _ _ v4 _
  refine pc_sv (rk_qf_X13_memberConstant (rk_n S Fu2)) ?_; intro u6 Qu6
  have Fu6 : RKp h u6.2 := rk_t Fu2 Qu6
  refine pc_sv (rk_qf_X13_put (rk_n S Fu6)) ?_; intro u8 Qu8
  have Fu8 : RKp h u8 := rk_t Fu6 Qu8
  refine pc_rA ?_; intro _ _ v10 _
  refine pc_sv (rk_qf_X13_turn (rk_n S Fu8)) ?_; intro u12 Qu12
  have Fu12 : RKp h u12 := rk_t Fu8 Qu12
  exact pc_ret Fu12
theorem rk_qw_X13_workCall_19 {rc : tq_X13_work} (G : RKpG_X13_work rc) : ∀ (k : Nat) (l1 : Int) (l2 : Int) (l3 : Int) (l4 : Int) (l5 : Int) (h : ms_M), (0 ≤ h 160 57 ∧ h 160 57 ≤ 10000) → Pc (qw_X13_workCall_19 nn rc k l1 l2 l3 l4 l5 h) (fun u => RKp h u) := by
  intro k
  induction k with
  | zero => intros; exact pc_none
  | succ k ih =>
    intro l1 l2 l3 l4 l5 h S
    have F : RKp h h := rk_r
    unfold qw_X13_workCall_19
    refine pc_if (fun _ => ?_) (fun _ => ?_)
    · refine pc_if (fun _ => ?_) (fun _ => ?_)
      · exact pc_imp (rk_qj_X13_workCall_65 G (rk_n S F)) (fun _ q => rk_t F q)
      · exact pc_imp (rk_qj_X13_workCall_65 G (rk_n S F)) (fun _ q => rk_t F q)
    · refine pc_rA ?_; intro _ _ v15 _
      refine pc_sv (G.1 (rk_n S F)) ?_; intro u17 Qu17
      have Fu17 : RKp h u17 := rk_t F Qu17
      refine pc_xl ?_; intro v18 _
      refine pc_rA ?_; intro _ _ v20 _
      exact pc_imp (ih _ _ _ _ _ _ (rk_n S Fu17)) (fun _ q => rk_t Fu17 q)
theorem rk_qj_X13_workCall_9 {rc : tq_X13_work} {l1 : Int} {l2 : Int} {l3 : Int} {s0 : Int} (G : RKpG_X13_work rc) {h : ms_M} (S : (0 ≤ h 160 57 ∧ h 160 57 ≤ 10000)) : Pc (qj_X13_workCall_9 nn rc l1 l2 l3 s0 h) (fun u => RKp h u) := by
  have F : RKp h h := rk_r
  unfold qj_X13_workCall_9
  refine pc_rA ?_; intro _ _ v23 _
  exact pc_imp (rk_qw_X13_workCall_19 G _ _ _ _ _ _ _ (rk_n S F)) (fun _ q => rk_t F q)
theorem rk_qo_X13_workCall {rc : tq_X13_work} {a1 : Int} {a2 : Int} {a3 : Int} (G : RKpG_X13_work rc) {h : ms_M} (S : (0 ≤ h 160 57 ∧ h 160 57 ≤ 10000)) : Pc (qo_X13_workCall nn rc a1 a2 a3 h) (fun u => RKp h u) := by
  have F : RKp h h := rk_r
  unfold qo_X13_workCall
  refine pc_if (fun _ => ?_) (fun _ => ?_)
  · exact pc_imp (rk_qj_X13_workCall_9 G (rk_n S F)) (fun _ q => rk_t F q)
  · exact pc_imp (rk_qj_X13_workCall_9 G (rk_n S F)) (fun _ q => rk_t F q)
theorem rk_qj_X13_workBoth_315 {rc : tq_X13_work} {s0 : Int} (G : RKpG_X13_work rc) {h : ms_M} (S : (0 ≤ h 160 57 ∧ h 160 57 ≤ 10000)) : Pc (qj_X13_workBoth_315 nn rc s0 h) (fun u => RKp h u) := by
  have F : RKp h h := rk_r
  unfold qj_X13_workBoth_315
  refine pc_sv (rk_qf_X13_truth (rk_n S F)) ?_; intro u2 Qu2
  have Fu2 : RKp h u2 := rk_t F Qu2
  exact pc_ret Fu2
theorem rk_qj_X13_workBoth_210 {rc : tq_X13_work} {l2 : Int} {s0 : Int} (G : RKpG_X13_work rc) {h : ms_M} (S : (0 ≤ h 160 57 ∧ h 160 57 ≤ 10000)) : Pc (qj_X13_workBoth_210 nn rc l2 s0 h) (fun u => RKp h u) := by
  have F : RKp h h := rk_r
  unfold qj_X13_workBoth_210
  refine pc_se ?_; intro u3 _
  refine pc_if (fun _ => ?_) (fun _ => ?_)
  · refine pc_se ?_; intro u4 _
    refine pc_if (fun _ => ?_) (fun _ => ?_)
    · refine pc_if (fun _ => ?_) (fun _ => ?_)
      · refine pc_se ?_; intro u5 _
        refine pc_if (fun _ => ?_) (fun _ => ?_)
        · refine pc_if (fun _ => ?_) (fun _ => ?_)
          · exact pc_imp (rk_qj_X13_workBoth_315 G (rk_n S F)) (fun _ q => rk_t F q)
          · exact pc_imp (rk_qj_X13_workBoth_315 G (rk_n S F)) (fun _ q => rk_t F q)
        · exact pc_imp (rk_qj_X13_workBoth_315 G (rk_n S F)) (fun _ q => rk_t F q)
      · exact pc_imp (rk_qj_X13_workBoth_315 G (rk_n S F)) (fun _ q => rk_t F q)
    · refine pc_if (fun _ => ?_) (fun _ => ?_)
      · exact pc_imp (rk_qj_X13_workBoth_315 G (rk_n S F)) (fun _ q => rk_t F q)
      · exact pc_imp (rk_qj_X13_workBoth_315 G (rk_n S F)) (fun _ q => rk_t F q)
  · refine pc_if (fun _ => ?_) (fun _ => ?_)
    · exact pc_imp (rk_qj_X13_workBoth_315 G (rk_n S F)) (fun _ q => rk_t F q)
    · exact pc_imp (rk_qj_X13_workBoth_315 G (rk_n S F)) (fun _ q => rk_t F q)
theorem rk_qj_X13_workBoth_190 {rc : tq_X13_work} {l1 : Int} {l2 : Int} (G : RKpG_X13_work rc) {h : ms_M} (S : (0 ≤ h 160 57 ∧ h 160 57 ≤ 10000)) : Pc (qj_X13_workBoth_190 nn rc l1 l2 h) (fun u => RKp h u) := by
  have F : RKp h h := rk_r
  unfold qj_X13_workBoth_190
  refine pc_rA ?_; intro _ _ v15 _
  refine pc_rA ?_; intro _ _ v16 _
  refine pc_if (fun _ => ?_) (fun _ => ?_)
  · exact pc_imp (rk_qj_X13_workBoth_210 G (rk_n S F)) (fun _ q => rk_t F q)
  · exact pc_imp (rk_qj_X13_workBoth_210 G (rk_n S F)) (fun _ q => rk_t F q)
theorem rk_qj_X13_workBoth_136 {rc : tq_X13_work} {l5 : Int} {s0 : Int} (G : RKpG_X13_work rc) {h : ms_M} (S : (0 ≤ h 160 57 ∧ h 160 57 ≤ 10000)) : Pc (qj_X13_workBoth_136 nn rc l5 s0 h) (fun u => RKp h u) := by
  have F : RKp h h := rk_r
  unfold qj_X13_workBoth_136
  refine pc_sv (rk_qf_X13_put (rk_n S F)) ?_; intro u19 Qu19
  have Fu19 : RKp h u19 := rk_t F Qu19
  refine pc_sv (rk_qf_X13_push (rk_n S Fu19)) ?_; intro u21 Qu21
  have Fu21 : RKp h u21 := rk_t Fu19 Qu21
  refine pc_sv (rk_qf_X13_stands (rk_n S Fu21)) ?_; intro u24 Qu24
  have Fu24 : RKp h u24 := rk_t Fu21 Qu24
  exact pc_ret Fu24
theorem rk_qj_X13_workBoth_82 {rc : tq_X13_work} {l1 : Int} {l3 : Int} {l4 : Int} {l5 : Int} {s0 : Int} (G : RKpG_X13_work rc) {h : ms_M} (S : (0 ≤ h 160 57 ∧ h 160 57 ≤ 10000)) : Pc (qj_X13_workBoth_82 nn rc l1 l3 l4 l5 s0 h) (fun u => RKp h u) := by
  have F : RKp h h := rk_r
  unfold qj_X13_workBoth_82
  refine pc_sv (rk_qf_X13_jump (rk_n S F)) ?_; intro u26 Qu26
  have Fu26 : RKp h u26 := rk_t F Qu26
  refine pc_rA ?_; intro _ _ v28 _
  refine pc_sv (G.1 (rk_n S Fu26)) ?_; intro u30 Qu30
  have Fu30 : RKp h u30 := rk_t Fu26 Qu30
  refine pc_xl ?_; intro v32 _
  refine pc_xl ?_; intro h33 Eh33
  have Fh33 : RKp h h33 := by rw [Eh33]; exact rk_u Fu30 (by omega)
  refine pc_sv (rk_qf_X13_jump (rk_n S Fh33)) ?_; intro u35 Qu35
  have Fu35 : RKp h u35 := rk_t Fh33 Qu35
  refine pc_sv (rk_qf_X13_stands (rk_n S Fu35)) ?_; intro u38 Qu38
  have Fu38 : RKp h u38 := rk_t Fu35 Qu38
  refine pc_if (fun _ => ?_) (fun _ => ?_)
  · exact pc_imp (rk_qj_X13_workBoth_136 G (rk_n S Fu38)) (fun _ q => rk_t Fu38 q)
  · exact pc_imp (rk_qj_X13_workBoth_136 G (rk_n S Fu38)) (fun _ q => rk_t Fu38 q)
theorem rk_qj_X13_workBoth_46 {rc : tq_X13_work} {l1 : Int} {l3 : Int} (G : RKpG_X13_work rc) {h : ms_M} (S : (0 ≤ h 160 57 ∧ h 160 57 ≤ 10000)) : Pc (qj_X13_workBoth_46 nn rc l1 l3 h) (fun u => RKp h u) := by
  have F : RKp h h := rk_r
  unfold qj_X13_workBoth_46
  refine pc_sv (rk_qf_X13_label (rk_n S F)) ?_; intro u41 Qu41
  have Fu41 : RKp h u41.2 := rk_t F Qu41
  refine pc_sv (rk_qf_X13_label (rk_n S Fu41)) ?_; intro u43 Qu43
  have Fu43 : RKp h u43.2 := rk_t Fu41 Qu43
  refine pc_xl ?_; intro v45 _
  refine pc_xl ?_; intro h46 Eh46
  have Fh46 : RKp h h46 := by rw [Eh46]; exact rk_u Fu43 (by omega)
  refine pc_if (fun _ => ?_) (fun _ => ?_)
  · exact pc_imp (rk_qj_X13_workBoth_82 G (rk_n S Fh46)) (fun _ q => rk_t Fh46 q)
  · exact pc_imp (rk_qj_X13_workBoth_82 G (rk_n S Fh46)) (fun _ q => rk_t Fh46 q)
theorem rk_qj_X13_workBoth_29 {rc : tq_X13_work} {l1 : Int} {l2 : Int} {s0 : Int} (G : RKpG_X13_work rc) {h : ms_M} (S : (0 ≤ h 160 57 ∧ h 160 57 ≤ 10000)) : Pc (qj_X13_workBoth_29 nn rc l1 l2 s0 h) (fun u => RKp h u) := by
  have F : RKp h h := rk_r
  unfold qj_X13_workBoth_29
  refine pc_if (fun _ => ?_) (fun _ => ?_)
  · exact pc_imp (rk_qj_X13_workBoth_46 G (rk_n S F)) (fun _ q => rk_t F q)
  · refine pc_se ?_; intro u48 _
    refine pc_if (fun _ => ?_) (fun _ => ?_)
    · refine pc_rA ?_; intro _ _ v50 _
      refine pc_sv (G.1 (rk_n S F)) ?_; intro u52 Qu52
      have Fu52 : RKp h u52 := rk_t F Qu52
      refine pc_rA ?_; intro _ _ v54 _
      refine pc_se ?_; intro u56 _
      refine pc_if (fun _ => ?_) (fun _ => ?_)
      · exact pc_imp (rk_qj_X13_workBoth_190 G (rk_n S Fu52)) (fun _ q => rk_t Fu52 q)
      · refine pc_if (fun _ => ?_) (fun _ => ?_)
        · refine pc_se ?_; intro u57 _
          refine pc_sv (rk_qf_X13_put (rk_n S Fu52)) ?_; intro u59 Qu59
          have Fu59 : RKp h u59 := rk_t Fu52 Qu59
          refine pc_rA ?_; intro _ _ v61 _
          refine pc_sv (rk_qf_X13_turn (rk_n S Fu59)) ?_; intro u63 Qu63
          have Fu63 : RKp h u63 := rk_t Fu59 Qu63
          exact pc_ret Fu63
        · exact pc_imp (rk_qj_X13_workBoth_190 G (rk_n S Fu52)) (fun _ q => rk_t Fu52 q)
    · exact pc_imp (rk_qj_X13_workBoth_46 G (rk_n S F)) (fun _ q => rk_t F q)
theorem rk_qo_X13_workBoth {rc : tq_X13_work} {a1 : Int} (G : RKpG_X13_work rc) {h : ms_M} (S : (0 ≤ h 160 57 ∧ h 160 57 ≤ 10000)) : Pc (qo_X13_workBoth nn rc a1 h) (fun u => RKp h u) := by
  have F : RKp h h := rk_r
  unfold qo_X13_workBoth
  refine pc_rA ?_; intro _ _ v70 _
  refine pc_rA ?_; intro _ _ v71 _
  refine pc_se ?_; intro u72 _
  refine pc_if (fun _ => ?_) (fun _ => ?_)
  · exact pc_imp (rk_qj_X13_workBoth_29 G (rk_n S F)) (fun _ q => rk_t F q)
  · exact pc_imp (rk_qj_X13_workBoth_29 G (rk_n S F)) (fun _ q => rk_t F q)
theorem rk_50 {rc : tq_X13_work} (G : RKpG_X13_work rc) {l2 : Int} (l0 : 0 ≤ l2) : ∀ (k : Nat) (h : ms_M), l2 ≤ h 160 57 → h 160 57 ≤ 10000 → Pc (qw_X13_work_50 nn rc k l2 h) (fun u => u 160 57 = l2 ∧ ∀ j : Nat, (j : Int) < l2 → u 199 j = h 199 j) := by
  intro k
  induction k with
  | zero => intros; exact pc_none
  | succ k ih =>
    intro h hb h6
    unfold qw_X13_work_50
    refine pc_if (fun z => pc_ret ⟨by omega, fun _ _ => rfl⟩) (fun z => ?_)
    refine pc_sub (by omega) ?_; intro v8 e8
    refine pc_xl ?_; intro h9 e9
    have t9 : h9 160 57 = h 160 57 - 1 := by rw [e9, up_s]; exact e8
    have k9 : ∀ j : Nat, h9 199 j = h 199 j := fun j => by rw [e9, up_n (by omega)]
    refine pc_rA ?_; intro _ _ v12 _
    refine pc_sv (G.2.1 (by omega)) ?_; intro u16 q16
    have t17 : u16 160 57 = h 160 57 - 1 := q16.1.trans t9
    refine pc_imp (ih u16 (by omega) (by omega)) (fun u q => ⟨q.1, fun j hj => ?_⟩)
    rw [q.2 j hj, q16.2 j (by omega)]; exact k9 j
theorem rk_7 {rc : tq_X13_work} (G : RKpG_X13_work rc) {l2 : Int} (l0 : 0 ≤ l2) : ∀ (k : Nat) (a : Int) (h : ms_M), l2 ≤ h 160 57 → h 160 57 ≤ 10000 → Pc (qw_X13_work_7 nn rc k l2 a h) (fun u => u 160 57 = l2 ∧ ∀ j : Nat, (j : Int) < l2 → u 199 j = h 199 j) := by
  intro k
  induction k with
  | zero => intros; exact pc_none
  | succ k ih =>
    intro a h hb h6
    unfold qw_X13_work_7
    refine pc_se ?_; intro u22 _
    refine pc_if (fun z => ?_) (fun z => ?_)
    · refine pc_sv (G.2.1 (by omega)) ?_; intro u25 q25
      have t26 : u25 160 57 = h 160 57 := q25.1
      refine pc_imp (rk_50 G l0 nn u25 (by omega) (by omega)) (fun u q => ⟨q.1, fun j hj => ?_⟩)
      rw [q.2 j hj, q25.2 j (by omega)]
    · refine pc_wA ?_; intro b1 b2 h29 e29
      have t29 : h29 160 57 = h 160 57 := by rw [e29, up_n (by omega)]
      refine pc_add (by omega) ?_; intro v31 e31
      refine pc_xl ?_; intro h32 e32
      have t32 : h32 160 57 = h 160 57 + 1 := by rw [e32, up_s]; omega
      refine pc_rA ?_; intro _ _ v34 _
      refine pc_imp (ih v34 h32 (by omega) (by omega)) (fun u q => ⟨q.1, fun j hj => ?_⟩)
      rw [q.2 j hj, e32, up_n (by omega), e29, up_n (by omega)]
theorem rk_qo_X13_work {rc : tq_X13_work} (G : RKpG_X13_work rc) {a1 : Int} {h : ms_M} (S : 0 ≤ h 160 57 ∧ h 160 57 ≤ 10000) : Pc (qo_X13_work nn rc a1 h) (fun u => RKp h u) := by
  unfold qo_X13_work
  exact rk_7 G S.1 nn _ h (by omega) S.2
theorem rkg_work (nn : Nat) : ∀ d : Nat, RKpG_X13_work (qg_X13_work nn d) := by
  intro d
  induction d with
  | zero => exact ⟨fun _ => pc_none, fun _ => pc_none, fun _ => pc_none, fun _ => pc_none⟩
  | succ d ih => exact ⟨fun S => rk_qo_X13_work ih S, fun S => rk_qo_X13_workOne ih S, fun S => rk_qo_X13_workCall ih S, fun S => rk_qo_X13_workBoth ih S⟩
end
