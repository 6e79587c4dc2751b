/- the group of rule keeps rowTop and the rows below it -/
section
variable {nn : Nat} {h g r : ms_M}
theorem rk_r : RKp h h := ⟨rfl, fun _ _ => rfl⟩
theorem rk_t (A : RKp h g) (B : RKp g r) : RKp h r := ⟨B.1.trans A.1, fun j hj => (B.2 j (by rw [A.1]; exact hj)).trans (A.2 j hj)⟩
theorem rk_n (S : 0 ≤ h 160 57 ∧ h 160 57 ≤ 10000) (F : RKp h g) : 0 ≤ g 160 57 ∧ g 160 57 ≤ 10000 := by rw [F.1]; exact S
theorem rk_u {c k : Nat} {v : Int} (A : RKp h g) (q : ¬ (c = 160 ∧ k = 57) ∧ ¬ c = 199) : RKp h (up_M g c k v) := ⟨by rw [up_n (by omega)]; exact A.1, fun j hj => by rw [up_n (by omega)]; exact A.2 j hj⟩
def RKpG_X13_condition (rc : tq_X13_condition) : Prop := (∀ {a1 : Int} {h : ms_M}, (0 ≤ h 160 57 ∧ h 160 57 ≤ 10000) → Pc (rc.1 a1 h) (fun u => RKp h u)) ∧ (∀ {a1 : Int} {h : ms_M}, (0 ≤ h 160 57 ∧ h 160 57 ≤ 10000) → Pc (rc.2.1 a1 h) (fun u => RKp h u.2)) ∧ (∀ {a1 : Int} {h : ms_M}, (0 ≤ h 160 57 ∧ h 160 57 ≤ 10000) → Pc (rc.2.2.1 a1 h) (fun u => RKp h u.2)) ∧ (∀ {a1 : Int} {h : ms_M}, (0 ≤ h 160 57 ∧ h 160 57 ≤ 10000) → Pc (rc.2.2.2.1 a1 h) (fun u => RKp h u.2)) ∧ (∀ {a1 : Int} {h : ms_M}, (0 ≤ h 160 57 ∧ h 160 57 ≤ 10000) → Pc (rc.2.2.2.2.1 a1 h) (fun u => RKp h u.2)) ∧ (∀ {a1 : Int} {h : ms_M}, (0 ≤ h 160 57 ∧ h 160 57 ≤ 10000) → Pc (rc.2.2.2.2.2.1 a1 h) (fun u => RKp h u.2)) ∧ (∀ {a1 : Int} {a2 : Int} {a3 : Int} {h : ms_M}, (0 ≤ h 160 57 ∧ h 160 57 ≤ 10000) → Pc (rc.2.2.2.2.2.2 a1 a2 a3 h) (fun u => RKp h u.2))
theorem rk_qf_X13_wrong {a1 : Int} {a2 : Int} {h : ms_M} (S : 0 ≤ h 160 57 ∧ h 160 57 ≤ 10000) : Pc (qf_X13_wrong nn a1 a2 h) (fun u => RKp h u) := fun u e => ⟨ff_X13_wrong nn u e 160 57 rfl, fun j _ => ff_X13_wrong nn u e 199 j (nw_ar rfl j)⟩
theorem rk_qf_X13_led {a1 : Int} {h : ms_M} (S : 0 ≤ h 160 57 ∧ h 160 57 ≤ 10000) : Pc (qf_X13_led nn a1 h) (fun u => RKp h u.2) := fun u e => ⟨ff_X13_led nn u e 160 57 rfl, fun j _ => ff_X13_led nn u e 199 j (nw_ar rfl j)⟩
theorem rk_qf_X13_side {a1 : Int} {a2 : Int} {h : ms_M} (S : 0 ≤ h 160 57 ∧ h 160 57 ≤ 10000) : Pc (qf_X13_side nn a1 a2 h) (fun u => RKp h u.2) := fun u e => ⟨ff_X13_side nn u e 160 57 rfl, fun j _ => ff_X13_side nn u e 199 j (nw_ar rfl j)⟩
theorem rk_qf_X13_field {a1 : Int} {h : ms_M} (S : 0 ≤ h 160 57 ∧ h 160 57 ≤ 10000) : Pc (qf_X13_field nn a1 h) (fun u => RKp h u.2) := fun u e => ⟨ff_X13_field nn u e 160 57 rfl, fun j _ => ff_X13_field nn u e 199 j (nw_ar rfl j)⟩
theorem rk_qf_X13_named {a1 : Int} {h : ms_M} (S : 0 ≤ h 160 57 ∧ h 160 57 ≤ 10000) : Pc (qf_X13_named nn a1 h) (fun u => RKp h u.2) := fun u e => ⟨ff_X13_named nn u e 160 57 rfl, fun j _ => ff_X13_named nn u e 199 j (nw_ar rfl j)⟩
theorem rk_qo_X13_condition {rc : tq_X13_condition} {a1 : Int} (G : RKpG_X13_condition rc) {h : ms_M} (S : (0 ≤ h 160 57 ∧ h 160 57 ≤ 10000)) : Pc (qo_X13_condition nn rc a1 h) (fun u => RKp h u) := by
  have F : RKp h h := rk_r
  unfold qo_X13_condition
  refine pc_sv (G.2.1 (rk_n S F)) ?_; intro u2 Qu2
  have Fu2 : RKp h u2.2 := rk_t F Qu2
  refine pc_if (fun _ => ?_) (fun _ => ?_)
  · exact pc_ret Fu2
  · refine pc_rA ?_; intro _ _ v4 _
    refine pc_sv (rk_qf_X13_wrong (rk_n S Fu2)) ?_; intro u6 Qu6
    have Fu6 : RKp h u6 := rk_t Fu2 Qu6
    exact pc_ret Fu6
theorem rk_qo_X13_given {rc : tq_X13_condition} {a1 : Int} (G : RKpG_X13_condition rc) {h : ms_M} (S : (0 ≤ h 160 57 ∧ h 160 57 ≤ 10000)) : Pc (qo_X13_given nn rc a1 h) (fun u => RKp h u.2) := by
  have F : RKp h h := rk_r
  unfold qo_X13_given
  refine pc_sv (G.2.2.1 (rk_n S F)) ?_; intro u2 Qu2
  have Fu2 : RKp h u2.2 := rk_t F Qu2
  refine pc_if (fun _ => ?_) (fun _ => ?_)
  · exact pc_ret Fu2
  · refine pc_rA ?_; intro _ _ v4 _
    refine pc_sv (rk_qf_X13_wrong (rk_n S Fu2)) ?_; intro u6 Qu6
    have Fu6 : RKp h u6 := rk_t Fu2 Qu6
    exact pc_ret Fu6
theorem rk_qj_X13_rule_657 {rc : tq_X13_condition} {l2 : Int} {l3 : Int} (G : RKpG_X13_condition rc) {h : ms_M} (S : (0 ≤ h 160 57 ∧ h 160 57 ≤ 10000)) : Pc (qj_X13_rule_657 nn rc l2 l3 h) (fun u => RKp h u.2) := by
  have F : RKp h h := rk_r
  unfold qj_X13_rule_657
  refine pc_se ?_; intro u2 _
  refine pc_if (fun _ => ?_) (fun _ => ?_)
  · exact pc_ret F
  · exact pc_ret F
theorem rk_qj_X13_rule_574 {rc : tq_X13_condition} {l1 : Int} {l3 : Int} (G : RKpG_X13_condition rc) {h : ms_M} (S : (0 ≤ h 160 57 ∧ h 160 57 ≤ 10000)) : Pc (qj_X13_rule_574 nn rc l1 l3 h) (fun u => RKp h u.2) := by
  have F : RKp h h := rk_r
  unfold qj_X13_rule_574
  refine pc_wA ?_; intro _ _ h5 Eh5
  have Fh5 : RKp h h5 := by rw [Eh5]; exact rk_u F (by omega)
  refine pc_rA ?_; intro _ _ v7 _
  refine pc_if (fun _ => ?_) (fun _ => ?_)
  · exact pc_ret Fh5
  · exact pc_ret Fh5
theorem rk_qj_X13_rule_562 {rc : tq_X13_condition} {l1 : Int} {l3 : Int} (G : RKpG_X13_condition rc) {h : ms_M} (S : (0 ≤ h 160 57 ∧ h 160 57 ≤ 10000)) : Pc (qj_X13_rule_562 nn rc l1 l3 h) (fun u => RKp h u.2) := by
  have F : RKp h h := rk_r
  unfold qj_X13_rule_562
  refine pc_rA ?_; intro _ _ v10 _
  refine pc_sv (rk_qf_X13_wrong (rk_n S F)) ?_; intro u12 Qu12
  have Fu12 : RKp h u12 := rk_t F Qu12
  exact pc_imp (rk_qj_X13_rule_574 G (rk_n S Fu12)) (fun _ q => rk_t Fu12 q)
theorem rk_qj_X13_rule_539 {rc : tq_X13_condition} {l1 : Int} {l2 : Int} {l3 : Int} (G : RKpG_X13_condition rc) {h : ms_M} (S : (0 ≤ h 160 57 ∧ h 160 57 ≤ 10000)) : Pc (qj_X13_rule_539 nn rc l1 l2 l3 h) (fun u => RKp h u.2) := by
  have F : RKp h h := rk_r
  unfold qj_X13_rule_539
  refine pc_xl ?_; intro v13 _
  refine pc_xl ?_; intro v14 _
  refine pc_se ?_; intro u15 _
  refine pc_if (fun _ => ?_) (fun _ => ?_)
  · exact pc_imp (rk_qj_X13_rule_562 G (rk_n S F)) (fun _ q => rk_t F q)
  · refine pc_se ?_; intro u17 _
    refine pc_if (fun _ => ?_) (fun _ => ?_)
    · exact pc_imp (rk_qj_X13_rule_574 G (rk_n S F)) (fun _ q => rk_t F q)
    · exact pc_imp (rk_qj_X13_rule_562 G (rk_n S F)) (fun _ q => rk_t F q)
theorem rk_qj_X13_rule_522 {rc : tq_X13_condition} {l1 : Int} {l3 : Int} {s0 : Int} (G : RKpG_X13_condition rc) {h : ms_M} (S : (0 ≤ h 160 57 ∧ h 160 57 ≤ 10000)) : Pc (qj_X13_rule_522 nn rc l1 l3 s0 h) (fun u => RKp h u.2) := by
  have F : RKp h h := rk_r
  unfold qj_X13_rule_522
  refine pc_if (fun _ => ?_) (fun _ => ?_)
  · exact pc_imp (rk_qj_X13_rule_539 G (rk_n S F)) (fun _ q => rk_t F q)
  · refine pc_rA ?_; intro _ _ v21 _
    refine pc_sv (rk_qf_X13_wrong (rk_n S F)) ?_; intro u23 Qu23
    have Fu23 : RKp h u23 := rk_t F Qu23
    exact pc_imp (rk_qj_X13_rule_539 G (rk_n S Fu23)) (fun _ q => rk_t Fu23 q)
theorem rk_qj_X13_rule_493 {rc : tq_X13_condition} {l1 : Int} {l3 : Int} (G : RKpG_X13_condition rc) {h : ms_M} (S : (0 ≤ h 160 57 ∧ h 160 57 ≤ 10000)) : Pc (qj_X13_rule_493 nn rc l1 l3 h) (fun u => RKp h u.2) := by
  have F : RKp h h := rk_r
  unfold qj_X13_rule_493
  refine pc_rA ?_; intro _ _ v26 _
  refine pc_if (fun _ => ?_) (fun _ => ?_)
  · refine pc_sv (rk_qf_X13_led (rk_n S F)) ?_; intro u28 Qu28
    have Fu28 : RKp h u28.2 := rk_t F Qu28
    exact pc_imp (rk_qj_X13_rule_522 G (rk_n S Fu28)) (fun _ q => rk_t Fu28 q)
  · refine pc_rA ?_; intro _ _ v30 _
    refine pc_sv (G.2.1 (rk_n S F)) ?_; intro u32 Qu32
    have Fu32 : RKp h u32.2 := rk_t F Qu32
    exact pc_imp (rk_qj_X13_rule_522 G (rk_n S Fu32)) (fun _ q => rk_t Fu32 q)
theorem rk_qj_X13_rule_455 {rc : tq_X13_condition} {l1 : Int} (G : RKpG_X13_condition rc) {h : ms_M} (S : (0 ≤ h 160 57 ∧ h 160 57 ≤ 10000)) : Pc (qj_X13_rule_455 nn rc l1 h) (fun u => RKp h u.2) := by
  have F : RKp h h := rk_r
  unfold qj_X13_rule_455
  refine pc_rA ?_; intro _ _ v35 _
  refine pc_se ?_; intro u37 _
  refine pc_if (fun _ => ?_) (fun _ => ?_)
  · exact pc_imp (rk_qj_X13_rule_493 G (rk_n S F)) (fun _ q => rk_t F q)
  · refine pc_rA ?_; intro _ _ v39 _
    refine pc_if (fun _ => ?_) (fun _ => ?_)
    · exact pc_imp (rk_qj_X13_rule_493 G (rk_n S F)) (fun _ q => rk_t F q)
    · refine pc_rA ?_; intro _ _ v41 _
      refine pc_sv (rk_qf_X13_wrong (rk_n S F)) ?_; intro u43 Qu43
      have Fu43 : RKp h u43 := rk_t F Qu43
      exact pc_imp (rk_qj_X13_rule_493 G (rk_n S Fu43)) (fun _ q => rk_t Fu43 q)
theorem rk_qj_X13_rule_416 {rc : tq_X13_condition} {l1 : Int} (G : RKpG_X13_condition rc) {h : ms_M} (S : (0 ≤ h 160 57 ∧ h 160 57 ≤ 10000)) : Pc (qj_X13_rule_416 nn rc l1 h) (fun u => RKp h u.2) := by
  have F : RKp h h := rk_r
  unfold qj_X13_rule_416
  refine pc_rA ?_; intro _ _ v47 _
  refine pc_sv (G.2.1 (rk_n S F)) ?_; intro u49 Qu49
  have Fu49 : RKp h u49.2 := rk_t F Qu49
  refine pc_if (fun _ => ?_) (fun _ => ?_)
  · exact pc_ret Fu49
  · refine pc_rA ?_; intro _ _ v51 _
    refine pc_sv (rk_qf_X13_wrong (rk_n S Fu49)) ?_; intro u53 Qu53
    have Fu53 : RKp h u53 := rk_t Fu49 Qu53
    exact pc_ret Fu53
theorem rk_qj_X13_rule_403 {rc : tq_X13_condition} {l2 : Int} (G : RKpG_X13_condition rc) {h : ms_M} (S : (0 ≤ h 160 57 ∧ h 160 57 ≤ 10000)) : Pc (qj_X13_rule_403 nn rc l2 h) (fun u => RKp h u.2) := by
  have F : RKp h h := rk_r
  unfold qj_X13_rule_403
  refine pc_if (fun _ => ?_) (fun _ => ?_)
  · refine pc_xl ?_; intro v55 _
    exact pc_ret F
  · exact pc_ret F
theorem rk_qj_X13_rule_391 {rc : tq_X13_condition} {l1 : Int} {l2 : Int} (G : RKpG_X13_condition rc) {h : ms_M} (S : (0 ≤ h 160 57 ∧ h 160 57 ≤ 10000)) : Pc (qj_X13_rule_391 nn rc l1 l2 h) (fun u => RKp h u.2) := by
  have F : RKp h h := rk_r
  unfold qj_X13_rule_391
  refine pc_rA ?_; intro _ _ v58 _
  refine pc_sv (rk_qf_X13_wrong (rk_n S F)) ?_; intro u60 Qu60
  have Fu60 : RKp h u60 := rk_t F Qu60
  exact pc_imp (rk_qj_X13_rule_403 G (rk_n S Fu60)) (fun _ q => rk_t Fu60 q)
theorem rk_qj_X13_rule_342 {rc : tq_X13_condition} {l2 : Int} (G : RKpG_X13_condition rc) {h : ms_M} (S : (0 ≤ h 160 57 ∧ h 160 57 ≤ 10000)) : Pc (qj_X13_rule_342 nn rc l2 h) (fun u => RKp h u.2) := by
  have F : RKp h h := rk_r
  unfold qj_X13_rule_342
  refine pc_xl ?_; intro v61 _
  refine pc_xl ?_; intro v62 _
  refine pc_xl ?_; intro v63 _
  exact pc_ret F
theorem rk_qj_X13_rule_317 {rc : tq_X13_condition} {l1 : Int} {l2 : Int} (G : RKpG_X13_condition rc) {h : ms_M} (S : (0 ≤ h 160 57 ∧ h 160 57 ≤ 10000)) : Pc (qj_X13_rule_317 nn rc l1 l2 h) (fun u => RKp h u.2) := by
  have F : RKp h h := rk_r
  unfold qj_X13_rule_317
  refine pc_rA ?_; intro _ _ v65 _
  refine pc_sv (G.2.1 (rk_n S F)) ?_; intro u67 Qu67
  have Fu67 : RKp h u67.2 := rk_t F Qu67
  refine pc_if (fun _ => ?_) (fun _ => ?_)
  · exact pc_imp (rk_qj_X13_rule_342 G (rk_n S Fu67)) (fun _ q => rk_t Fu67 q)
  · refine pc_rA ?_; intro _ _ v69 _
    refine pc_sv (rk_qf_X13_wrong (rk_n S Fu67)) ?_; intro u71 Qu71
    have Fu71 : RKp h u71 := rk_t Fu67 Qu71
    exact pc_imp (rk_qj_X13_rule_342 G (rk_n S Fu71)) (fun _ q => rk_t Fu71 q)
theorem rk_qj_X13_rule_256 {rc : tq_X13_condition} {l2 : Int} (G : RKpG_X13_condition rc) {h : ms_M} (S : (0 ≤ h 160 57 ∧ h 160 57 ≤ 10000)) : Pc (qj_X13_rule_256 nn rc l2 h) (fun u => RKp h u.2) := by
  have F : RKp h h := rk_r
  unfold qj_X13_rule_256
  refine pc_xl ?_; intro v73 _
  refine pc_xl ?_; intro v74 _
  exact pc_ret F
theorem rk_qj_X13_rule_216 {rc : tq_X13_condition} {l1 : Int} (G : RKpG_X13_condition rc) {h : ms_M} (S : (0 ≤ h 160 57 ∧ h 160 57 ≤ 10000)) : Pc (qj_X13_rule_216 nn rc l1 h) (fun u => RKp h u.2) := by
  have F : RKp h h := rk_r
  unfold qj_X13_rule_216
  refine pc_rA ?_; intro _ _ v76 _
  refine pc_sv (G.2.2.2.2.2.2 (rk_n S F)) ?_; intro u78 Qu78
  have Fu78 : RKp h u78.2 := rk_t F Qu78
  exact pc_ret Fu78
theorem rk_qj_X13_rule_121 {rc : tq_X13_condition} (G : RKpG_X13_condition rc) {h : ms_M} (S : (0 ≤ h 160 57 ∧ h 160 57 ≤ 10000)) : Pc (qj_X13_rule_121 nn rc h) (fun u => RKp h u.2) := by
  have F : RKp h h := rk_r
  unfold qj_X13_rule_121
  refine pc_xl ?_; intro v80 _
  refine pc_xl ?_; intro v81 _
  exact pc_ret F
theorem rk_qj_X13_rule_98 {rc : tq_X13_condition} (G : RKpG_X13_condition rc) {h : ms_M} (S : (0 ≤ h 160 57 ∧ h 160 57 ≤ 10000)) : Pc (qj_X13_rule_98 nn rc h) (fun u => RKp h u.2) := by
  have F : RKp h h := rk_r
  unfold qj_X13_rule_98
  exact pc_ret F
theorem rk_qo_X13_rule {rc : tq_X13_condition} {a1 : Int} (G : RKpG_X13_condition rc) {h : ms_M} (S : (0 ≤ h 160 57 ∧ h 160 57 ≤ 10000)) : Pc (qo_X13_rule nn rc a1 h) (fun u => RKp h u.2) := by
  have F : RKp h h := rk_r
  unfold qo_X13_rule
  refine pc_rA ?_; intro _ _ v83 _
  refine pc_if (fun _ => ?_) (fun _ => ?_)
  · exact pc_ret F
  · refine pc_if (fun _ => ?_) (fun _ => ?_)
    · exact pc_imp (rk_qj_X13_rule_98 G (rk_n S F)) (fun _ q => rk_t F q)
    · refine pc_if (fun _ => ?_) (fun _ => ?_)
      · exact pc_imp (rk_qj_X13_rule_98 G (rk_n S F)) (fun _ q => rk_t F q)
      · refine pc_if (fun _ => ?_) (fun _ => ?_)
        · exact pc_ret F
        · refine pc_if (fun _ => ?_) (fun _ => ?_)
          · refine pc_if (fun _ => ?_) (fun _ => ?_)
            · exact pc_imp (rk_qj_X13_rule_121 G (rk_n S F)) (fun _ q => rk_t F q)
            · refine pc_rA ?_; intro _ _ v105 _
              refine pc_sv (rk_qf_X13_wrong (rk_n S F)) ?_; intro u107 Qu107
              have Fu107 : RKp h u107 := rk_t F Qu107
              exact pc_imp (rk_qj_X13_rule_121 G (rk_n S Fu107)) (fun _ q => rk_t Fu107 q)
          · refine pc_if (fun _ => ?_) (fun _ => ?_)
            · refine pc_sv (rk_qf_X13_named (rk_n S F)) ?_; intro u110 Qu110
              have Fu110 : RKp h u110.2 := rk_t F Qu110
              exact pc_ret Fu110
            · refine pc_if (fun _ => ?_) (fun _ => ?_)
              · refine pc_rA ?_; intro _ _ v114 _
                refine pc_se ?_; intro u116 _
                refine pc_wA ?_; intro _ _ h117 Eh117
                have Fh117 : RKp h h117 := by rw [Eh117]; exact rk_u F (by omega)
                refine pc_rA ?_; intro _ _ v119 _
                refine pc_if (fun _ => ?_) (fun _ => ?_)
                · refine pc_if (fun _ => ?_) (fun _ => ?_)
                  · exact pc_imp (rk_qj_X13_rule_216 G (rk_n S Fh117)) (fun _ q => rk_t Fh117 q)
                  · refine pc_rA ?_; intro _ _ v123 _
                    refine pc_rA ?_; intro _ _ v124 _
                    refine pc_if (fun _ => ?_) (fun _ => ?_)
                    · exact pc_imp (rk_qj_X13_rule_216 G (rk_n S Fh117)) (fun _ q => rk_t Fh117 q)
                    · refine pc_rA ?_; intro _ _ v126 _
                      refine pc_sv (rk_qf_X13_wrong (rk_n S Fh117)) ?_; intro u128 Qu128
                      have Fu128 : RKp h u128 := rk_t Fh117 Qu128
                      exact pc_imp (rk_qj_X13_rule_216 G (rk_n S Fu128)) (fun _ q => rk_t Fu128 q)
                · refine pc_rA ?_; intro _ _ v132 _
                  refine pc_sv (rk_qf_X13_wrong (rk_n S Fh117)) ?_; intro u134 Qu134
                  have Fu134 : RKp h u134 := rk_t Fh117 Qu134
                  exact pc_imp (rk_qj_X13_rule_216 G (rk_n S Fu134)) (fun _ q => rk_t Fu134 q)
              · refine pc_if (fun _ => ?_) (fun _ => ?_)
                · refine pc_rA ?_; intro _ _ v137 _
                  refine pc_se ?_; intro u139 _
                  refine pc_if (fun _ => ?_) (fun _ => ?_)
                  · exact pc_imp (rk_qj_X13_rule_256 G (rk_n S F)) (fun _ q => rk_t F q)
                  · refine pc_rA ?_; intro _ _ v141 _
                    refine pc_sv (rk_qf_X13_wrong (rk_n S F)) ?_; intro u143 Qu143
                    have Fu143 : RKp h u143 := rk_t F Qu143
                    exact pc_imp (rk_qj_X13_rule_256 G (rk_n S Fu143)) (fun _ q => rk_t Fu143 q)
                · refine pc_if (fun _ => ?_) (fun _ => ?_)
                  · refine pc_rA ?_; intro _ _ v146 _
                    refine pc_sv (G.2.1 (rk_n S F)) ?_; intro u148 Qu148
                    have Fu148 : RKp h u148.2 := rk_t F Qu148
                    refine pc_if (fun _ => ?_) (fun _ => ?_)
                    · exact pc_ret Fu148
                    · refine pc_rA ?_; intro _ _ v150 _
                      refine pc_sv (rk_qf_X13_wrong (rk_n S Fu148)) ?_; intro u152 Qu152
                      have Fu152 : RKp h u152 := rk_t Fu148 Qu152
                      exact pc_ret Fu152
                  · refine pc_if (fun _ => ?_) (fun _ => ?_)
                    · refine pc_rA ?_; intro _ _ v155 _
                      refine pc_se ?_; intro u157 _
                      refine pc_if (fun _ => ?_) (fun _ => ?_)
                      · exact pc_imp (rk_qj_X13_rule_317 G (rk_n S F)) (fun _ q => rk_t F q)
                      · refine pc_rA ?_; intro _ _ v159 _
                        refine pc_sv (rk_qf_X13_wrong (rk_n S F)) ?_; intro u161 Qu161
                        have Fu161 : RKp h u161 := rk_t F Qu161
                        exact pc_imp (rk_qj_X13_rule_317 G (rk_n S Fu161)) (fun _ q => rk_t Fu161 q)
                    · refine pc_if (fun _ => ?_) (fun _ => ?_)
                      · refine pc_sv (rk_qf_X13_field (rk_n S F)) ?_; intro u164 Qu164
                        have Fu164 : RKp h u164.2 := rk_t F Qu164
                        exact pc_ret Fu164
                      · refine pc_if (fun _ => ?_) (fun _ => ?_)
                        · refine pc_sv (G.2.2.2.2.2.1 (rk_n S F)) ?_; intro u166 Qu166
                          have Fu166 : RKp h u166.2 := rk_t F Qu166
                          exact pc_ret Fu166
                        · refine pc_if (fun _ => ?_) (fun _ => ?_)
                          · refine pc_sv (rk_qf_X13_led (rk_n S F)) ?_; intro u168 Qu168
                            have Fu168 : RKp h u168.2 := rk_t F Qu168
                            refine pc_rA ?_; intro _ _ v170 _
                            refine pc_sv (G.2.1 (rk_n S Fu168)) ?_; intro u172 Qu172
                            have Fu172 : RKp h u172.2 := rk_t Fu168 Qu172
                            refine pc_se ?_; intro u173 _
                            refine pc_if (fun _ => ?_) (fun _ => ?_)
                            · exact pc_imp (rk_qj_X13_rule_391 G (rk_n S Fu172)) (fun _ q => rk_t Fu172 q)
                            · refine pc_if (fun _ => ?_) (fun _ => ?_)
                              · exact pc_imp (rk_qj_X13_rule_403 G (rk_n S Fu172)) (fun _ q => rk_t Fu172 q)
                              · exact pc_imp (rk_qj_X13_rule_391 G (rk_n S Fu172)) (fun _ q => rk_t Fu172 q)
                          · refine pc_if (fun _ => ?_) (fun _ => ?_)
                            · exact pc_imp (rk_qj_X13_rule_416 G (rk_n S F)) (fun _ q => rk_t F q)
                            · refine pc_if (fun _ => ?_) (fun _ => ?_)
                              · refine pc_rA ?_; intro _ _ v177 _
                                refine pc_sv (G.1 (rk_n S F)) ?_; intro u179 Qu179
                                have Fu179 : RKp h u179 := rk_t F Qu179
                                exact pc_ret Fu179
                              · refine pc_if (fun _ => ?_) (fun _ => ?_)
                                · exact pc_imp (rk_qj_X13_rule_416 G (rk_n S F)) (fun _ q => rk_t F q)
                                · refine pc_if (fun _ => ?_) (fun _ => ?_)
                                  · exact pc_imp (rk_qj_X13_rule_455 G (rk_n S F)) (fun _ q => rk_t F q)
                                  · refine pc_if (fun _ => ?_) (fun _ => ?_)
                                    · refine pc_sv (G.2.2.2.2.1 (rk_n S F)) ?_; intro u181 Qu181
                                      have Fu181 : RKp h u181.2 := rk_t F Qu181
                                      exact pc_ret Fu181
                                    · refine pc_if (fun _ => ?_) (fun _ => ?_)
                                      · exact pc_imp (rk_qj_X13_rule_455 G (rk_n S F)) (fun _ q => rk_t F q)
                                      · refine pc_rA ?_; intro _ _ v85 _
                                        refine pc_sv (G.1 (rk_n S F)) ?_; intro u87 Qu87
                                        have Fu87 : RKp h u87 := rk_t F Qu87
                                        refine pc_rA ?_; intro _ _ v89 _
                                        refine pc_sv (G.2.1 (rk_n S Fu87)) ?_; intro u91 Qu91
                                        have Fu91 : RKp h u91.2 := rk_t Fu87 Qu91
                                        refine pc_rA ?_; intro _ _ v93 _
                                        refine pc_sv (G.2.1 (rk_n S Fu91)) ?_; intro u95 Qu95
                                        have Fu95 : RKp h u95.2 := rk_t Fu91 Qu95
                                        refine pc_se ?_; intro u97 _
                                        refine pc_if (fun _ => ?_) (fun _ => ?_)
                                        · exact pc_imp (rk_qj_X13_rule_657 G (rk_n S Fu95)) (fun _ q => rk_t Fu95 q)
                                        · refine pc_rA ?_; intro _ _ v99 _
                                          refine pc_sv (rk_qf_X13_wrong (rk_n S Fu95)) ?_; intro u101 Qu101
                                          have Fu101 : RKp h u101 := rk_t Fu95 Qu101
                                          exact pc_imp (rk_qj_X13_rule_657 G (rk_n S Fu101)) (fun _ q => rk_t Fu101 q)
theorem rk_qj_X13_both_247 {rc : tq_X13_condition} {l1 : Int} {l3 : Int} (G : RKpG_X13_condition rc) {h : ms_M} (S : (0 ≤ h 160 57 ∧ h 160 57 ≤ 10000)) : Pc (qj_X13_both_247 nn rc l1 l3 h) (fun u => RKp h u.2) := by
  have F : RKp h h := rk_r
  unfold qj_X13_both_247
  refine pc_rA ?_; intro _ _ v2 _
  refine pc_se ?_; intro u4 _
  refine pc_if (fun _ => ?_) (fun _ => ?_)
  · exact pc_ret F
  · exact pc_ret F
theorem rk_qj_X13_both_235 {rc : tq_X13_condition} {l1 : Int} {l3 : Int} (G : RKpG_X13_condition rc) {h : ms_M} (S : (0 ≤ h 160 57 ∧ h 160 57 ≤ 10000)) : Pc (qj_X13_both_235 nn rc l1 l3 h) (fun u => RKp h u.2) := by
  have F : RKp h h := rk_r
  unfold qj_X13_both_235
  refine pc_rA ?_; intro _ _ v7 _
  refine pc_sv (rk_qf_X13_wrong (rk_n S F)) ?_; intro u9 Qu9
  have Fu9 : RKp h u9 := rk_t F Qu9
  exact pc_imp (rk_qj_X13_both_247 G (rk_n S Fu9)) (fun _ q => rk_t Fu9 q)
theorem rk_qj_X13_both_213 {rc : tq_X13_condition} {l1 : Int} {l3 : Int} {l4 : Int} {s0 : Int} (G : RKpG_X13_condition rc) {h : ms_M} (S : (0 ≤ h 160 57 ∧ h 160 57 ≤ 10000)) : Pc (qj_X13_both_213 nn rc l1 l3 l4 s0 h) (fun u => RKp h u.2) := by
  have F : RKp h h := rk_r
  unfold qj_X13_both_213
  refine pc_if (fun _ => ?_) (fun _ => ?_)
  · exact pc_imp (rk_qj_X13_both_235 G (rk_n S F)) (fun _ q => rk_t F q)
  · refine pc_if (fun _ => ?_) (fun _ => ?_)
    · exact pc_imp (rk_qj_X13_both_247 G (rk_n S F)) (fun _ q => rk_t F q)
    · refine pc_if (fun _ => ?_) (fun _ => ?_)
      · exact pc_imp (rk_qj_X13_both_235 G (rk_n S F)) (fun _ q => rk_t F q)
      · refine pc_if (fun _ => ?_) (fun _ => ?_)
        · exact pc_imp (rk_qj_X13_both_247 G (rk_n S F)) (fun _ q => rk_t F q)
        · exact pc_imp (rk_qj_X13_both_235 G (rk_n S F)) (fun _ q => rk_t F q)
theorem rk_qj_X13_both_208 {rc : tq_X13_condition} {l1 : Int} {l3 : Int} {l4 : Int} (G : RKpG_X13_condition rc) {h : ms_M} (S : (0 ≤ h 160 57 ∧ h 160 57 ≤ 10000)) : Pc (qj_X13_both_208 nn rc l1 l3 l4 h) (fun u => RKp h u.2) := by
  have F : RKp h h := rk_r
  unfold qj_X13_both_208
  exact pc_imp (rk_qj_X13_both_213 G (rk_n S F)) (fun _ q => rk_t F q)
theorem rk_qj_X13_both_166 {rc : tq_X13_condition} {l1 : Int} {l3 : Int} {l4 : Int} (G : RKpG_X13_condition rc) {h : ms_M} (S : (0 ≤ h 160 57 ∧ h 160 57 ≤ 10000)) : Pc (qj_X13_both_166 nn rc l1 l3 l4 h) (fun u => RKp h u.2) := by
  have F : RKp h h := rk_r
  unfold qj_X13_both_166
  refine pc_se ?_; intro u15 _
  refine pc_if (fun _ => ?_) (fun _ => ?_)
  · exact pc_ret F
  · refine pc_rA ?_; intro _ _ v17 _
    refine pc_sv (rk_qf_X13_wrong (rk_n S F)) ?_; intro u19 Qu19
    have Fu19 : RKp h u19 := rk_t F Qu19
    exact pc_ret Fu19
theorem rk_qj_X13_both_62 {rc : tq_X13_condition} {l1 : Int} (G : RKpG_X13_condition rc) {h : ms_M} (S : (0 ≤ h 160 57 ∧ h 160 57 ≤ 10000)) : Pc (qj_X13_both_62 nn rc l1 h) (fun u => RKp h u.2) := by
  have F : RKp h h := rk_r
  unfold qj_X13_both_62
  refine pc_rA ?_; intro _ _ v22 _
  refine pc_rA ?_; intro _ _ v24 _
  refine pc_sv (G.2.2.1 (rk_n S F)) ?_; intro u26 Qu26
  have Fu26 : RKp h u26.2 := rk_t F Qu26
  refine pc_sv (rk_qf_X13_side (rk_n S Fu26)) ?_; intro u28 Qu28
  have Fu28 : RKp h u28.2 := rk_t Fu26 Qu28
  refine pc_if (fun _ => ?_) (fun _ => ?_)
  · exact pc_ret Fu28
  · refine pc_rA ?_; intro _ _ v31 _
    refine pc_rA ?_; intro _ _ v32 _
    refine pc_sv (rk_qf_X13_wrong (rk_n S Fu28)) ?_; intro u34 Qu34
    have Fu34 : RKp h u34 := rk_t Fu28 Qu34
    exact pc_ret Fu34
theorem rk_qj_X13_both_36 {rc : tq_X13_condition} {l1 : Int} (G : RKpG_X13_condition rc) {h : ms_M} (S : (0 ≤ h 160 57 ∧ h 160 57 ≤ 10000)) : Pc (qj_X13_both_36 nn rc l1 h) (fun u => RKp h u.2) := by
  have F : RKp h h := rk_r
  unfold qj_X13_both_36
  refine pc_sv (rk_qf_X13_led (rk_n S F)) ?_; intro u37 Qu37
  have Fu37 : RKp h u37.2 := rk_t F Qu37
  refine pc_if (fun _ => ?_) (fun _ => ?_)
  · exact pc_imp (rk_qj_X13_both_62 G (rk_n S Fu37)) (fun _ q => rk_t Fu37 q)
  · refine pc_rA ?_; intro _ _ v40 _
    refine pc_rA ?_; intro _ _ v41 _
    refine pc_sv (rk_qf_X13_wrong (rk_n S Fu37)) ?_; intro u43 Qu43
    have Fu43 : RKp h u43 := rk_t Fu37 Qu43
    exact pc_imp (rk_qj_X13_both_62 G (rk_n S Fu43)) (fun _ q => rk_t Fu43 q)
theorem rk_qo_X13_both {rc : tq_X13_condition} {a1 : Int} (G : RKpG_X13_condition rc) {h : ms_M} (S : (0 ≤ h 160 57 ∧ h 160 57 ≤ 10000)) : Pc (qo_X13_both nn rc a1 h) (fun u => RKp h u.2) := by
  have F : RKp h h := rk_r
  unfold qo_X13_both
  refine pc_rA ?_; intro _ _ v47 _
  refine pc_rA ?_; intro _ _ v48 _
  refine pc_se ?_; intro u49 _
  refine pc_if (fun _ => ?_) (fun _ => ?_)
  · exact pc_imp (rk_qj_X13_both_36 G (rk_n S F)) (fun _ q => rk_t F q)
  · refine pc_se ?_; intro u50 _
    refine pc_if (fun _ => ?_) (fun _ => ?_)
    · refine pc_sv (rk_qf_X13_led (rk_n S F)) ?_; intro u52 Qu52
      have Fu52 : RKp h u52.2 := rk_t F Qu52
      refine pc_rA ?_; intro _ _ v54 _
      refine pc_rA ?_; intro _ _ v56 _
      refine pc_sv (G.2.2.1 (rk_n S Fu52)) ?_; intro u58 Qu58
      have Fu58 : RKp h u58.2 := rk_t Fu52 Qu58
      refine pc_sv (rk_qf_X13_side (rk_n S Fu58)) ?_; intro u60 Qu60
      have Fu60 : RKp h u60.2 := rk_t Fu58 Qu60
      refine pc_if (fun _ => ?_) (fun _ => ?_)
      · refine pc_se ?_; intro u62 _
        refine pc_if (fun _ => ?_) (fun _ => ?_)
        · exact pc_imp (rk_qj_X13_both_166 G (rk_n S Fu60)) (fun _ q => rk_t Fu60 q)
        · refine pc_se ?_; intro u63 _
          refine pc_if (fun _ => ?_) (fun _ => ?_)
          · refine pc_if (fun _ => ?_) (fun _ => ?_)
            · exact pc_imp (rk_qj_X13_both_208 G (rk_n S Fu60)) (fun _ q => rk_t Fu60 q)
            · refine pc_if (fun _ => ?_) (fun _ => ?_)
              · exact pc_imp (rk_qj_X13_both_208 G (rk_n S Fu60)) (fun _ q => rk_t Fu60 q)
              · refine pc_if (fun _ => ?_) (fun _ => ?_)
                · exact pc_imp (rk_qj_X13_both_213 G (rk_n S Fu60)) (fun _ q => rk_t Fu60 q)
                · exact pc_imp (rk_qj_X13_both_208 G (rk_n S Fu60)) (fun _ q => rk_t Fu60 q)
          · exact pc_imp (rk_qj_X13_both_166 G (rk_n S Fu60)) (fun _ q => rk_t Fu60 q)
      · exact pc_ret Fu60
    · exact pc_imp (rk_qj_X13_both_36 G (rk_n S F)) (fun _ q => rk_t F q)
theorem rk_qj_X13_invoked_237 {rc : tq_X13_condition} {s0 : Int} {s1 : Int} {s2 : Int} (G : RKpG_X13_condition rc) {h : ms_M} (S : (0 ≤ h 160 57 ∧ h 160 57 ≤ 10000)) : Pc (qj_X13_invoked_237 nn rc s0 s1 s2 h) (fun u => RKp h u.2) := by
  have F : RKp h h := rk_r
  unfold qj_X13_invoked_237
  refine pc_sv (G.2.2.2.2.2.2 (rk_n S F)) ?_; intro u2 Qu2
  have Fu2 : RKp h u2.2 := rk_t F Qu2
  exact pc_ret Fu2
theorem rk_qj_X13_invoked_232 {rc : tq_X13_condition} {s0 : Int} {s1 : Int} (G : RKpG_X13_condition rc) {h : ms_M} (S : (0 ≤ h 160 57 ∧ h 160 57 ≤ 10000)) : Pc (qj_X13_invoked_232 nn rc s0 s1 h) (fun u => RKp h u.2) := by
  have F : RKp h h := rk_r
  unfold qj_X13_invoked_232
  exact pc_imp (rk_qj_X13_invoked_237 G (rk_n S F)) (fun _ q => rk_t F q)
theorem rk_qj_X13_invoked_228 {rc : tq_X13_condition} {l3 : Int} {s0 : Int} {s1 : Int} {s2 : Int} (G : RKpG_X13_condition rc) {h : ms_M} (S : (0 ≤ h 160 57 ∧ h 160 57 ≤ 10000)) : Pc (qj_X13_invoked_228 nn rc l3 s0 s1 s2 h) (fun u => RKp h u.2) := by
  have F : RKp h h := rk_r
  unfold qj_X13_invoked_228
  refine pc_if (fun _ => ?_) (fun _ => ?_)
  · exact pc_imp (rk_qj_X13_invoked_237 G (rk_n S F)) (fun _ q => rk_t F q)
  · exact pc_imp (rk_qj_X13_invoked_232 G (rk_n S F)) (fun _ q => rk_t F q)
theorem rk_qj_X13_invoked_193 {rc : tq_X13_condition} {l1 : Int} {l3 : Int} (G : RKpG_X13_condition rc) {h : ms_M} (S : (0 ≤ h 160 57 ∧ h 160 57 ≤ 10000)) : Pc (qj_X13_invoked_193 nn rc l1 l3 h) (fun u => RKp h u.2) := by
  have F : RKp h h := rk_r
  unfold qj_X13_invoked_193
  refine pc_rA ?_; intro _ _ v5 _
  refine pc_if (fun _ => ?_) (fun _ => ?_)
  · exact pc_imp (rk_qj_X13_invoked_232 G (rk_n S F)) (fun _ q => rk_t F q)
  · refine pc_rA ?_; intro _ _ v9 _
    refine pc_rA ?_; intro _ _ v10 _
    refine pc_if (fun _ => ?_) (fun _ => ?_)
    · exact pc_imp (rk_qj_X13_invoked_228 G (rk_n S F)) (fun _ q => rk_t F q)
    · exact pc_imp (rk_qj_X13_invoked_228 G (rk_n S F)) (fun _ q => rk_t F q)
theorem rk_qj_X13_invoked_152 {rc : tq_X13_condition} {l1 : Int} {l3 : Int} {l4 : Int} {s0 : Int} {s1 : Int} (G : RKpG_X13_condition rc) {h : ms_M} (S : (0 ≤ h 160 57 ∧ h 160 57 ≤ 10000)) : Pc (qj_X13_invoked_152 nn rc l1 l3 l4 s0 s1 h) (fun u => RKp h u.2) := by
  have F : RKp h h := rk_r
  unfold qj_X13_invoked_152
  refine pc_wA ?_; intro _ _ h13 Eh13
  have Fh13 : RKp h h13 := by rw [Eh13]; exact rk_u F (by omega)
  refine pc_rA ?_; intro _ _ v16 _
  refine pc_se ?_; intro u18 _
  refine pc_wA ?_; intro _ _ h19 Eh19
  have Fh19 : RKp h h19 := by rw [Eh19]; exact rk_u Fh13 (by omega)
  refine pc_rA ?_; intro _ _ v21 _
  refine pc_if (fun _ => ?_) (fun _ => ?_)
  · exact pc_imp (rk_qj_X13_invoked_193 G (rk_n S Fh19)) (fun _ q => rk_t Fh19 q)
  · refine pc_rA ?_; intro _ _ v23 _
    refine pc_sv (rk_qf_X13_wrong (rk_n S Fh19)) ?_; intro u25 Qu25
    have Fu25 : RKp h u25 := rk_t Fh19 Qu25
    exact pc_imp (rk_qj_X13_invoked_193 G (rk_n S Fu25)) (fun _ q => rk_t Fu25 q)
theorem rk_qj_X13_invoked_128 {rc : tq_X13_condition} {l1 : Int} {l3 : Int} {l4 : Int} (G : RKpG_X13_condition rc) {h : ms_M} (S : (0 ≤ h 160 57 ∧ h 160 57 ≤ 10000)) : Pc (qj_X13_invoked_128 nn rc l1 l3 l4 h) (fun u => RKp h u.2) := by
  have F : RKp h h := rk_r
  unfold qj_X13_invoked_128
  refine pc_if (fun _ => ?_) (fun _ => ?_)
  · refine pc_if (fun _ => ?_) (fun _ => ?_)
    · exact pc_imp (rk_qj_X13_invoked_152 G (rk_n S F)) (fun _ q => rk_t F q)
    · exact pc_imp (rk_qj_X13_invoked_152 G (rk_n S F)) (fun _ q => rk_t F q)
  · exact pc_ret F
theorem rk_qj_X13_invoked_119 {rc : tq_X13_condition} {l1 : Int} {l3 : Int} {l5 : Int} (G : RKpG_X13_condition rc) {h : ms_M} (S : (0 ≤ h 160 57 ∧ h 160 57 ≤ 10000)) : Pc (qj_X13_invoked_119 nn rc l1 l3 l5 h) (fun u => RKp h u.2) := by
  have F : RKp h h := rk_r
  unfold qj_X13_invoked_119
  refine pc_xl ?_; intro v31 _
  refine pc_xl ?_; intro v32 _
  exact pc_imp (rk_qj_X13_invoked_128 G (rk_n S F)) (fun _ q => rk_t F q)
theorem rk_qj_X13_invoked_86 {rc : tq_X13_condition} {l1 : Int} (G : RKpG_X13_condition rc) {h : ms_M} (S : (0 ≤ h 160 57 ∧ h 160 57 ≤ 10000)) : Pc (qj_X13_invoked_86 nn rc l1 h) (fun u => RKp h u.2) := by
  have F : RKp h h := rk_r
  unfold qj_X13_invoked_86
  refine pc_rA ?_; intro _ _ v34 _
  refine pc_sv (rk_qf_X13_wrong (rk_n S F)) ?_; intro u36 Qu36
  have Fu36 : RKp h u36 := rk_t F Qu36
  exact pc_ret Fu36
theorem rk_qj_X13_invoked_46 {rc : tq_X13_condition} {l1 : Int} {l2 : Int} {l3 : Int} {l4 : Int} (G : RKpG_X13_condition rc) {h : ms_M} (S : (0 ≤ h 160 57 ∧ h 160 57 ≤ 10000)) : Pc (qj_X13_invoked_46 nn rc l1 l2 l3 l4 h) (fun u => RKp h u.2) := by
  have F : RKp h h := rk_r
  unfold qj_X13_invoked_46
  refine pc_wA ?_; intro _ _ h38 Eh38
  have Fh38 : RKp h h38 := by rw [Eh38]; exact rk_u F (by omega)
  exact pc_imp (rk_qj_X13_invoked_128 G (rk_n S Fh38)) (fun _ q => rk_t Fh38 q)
theorem rk_qo_X13_invoked {rc : tq_X13_condition} {a1 : Int} (G : RKpG_X13_condition rc) {h : ms_M} (S : (0 ≤ h 160 57 ∧ h 160 57 ≤ 10000)) : Pc (qo_X13_invoked nn rc a1 h) (fun u => RKp h u.2) := by
  have F : RKp h h := rk_r
  unfold qo_X13_invoked
  refine pc_rA ?_; intro _ _ v40 _
  refine pc_se ?_; intro u42 _
  refine pc_if (fun _ => ?_) (fun _ => ?_)
  · refine pc_sv (rk_qf_X13_led (rk_n S F)) ?_; intro u44 Qu44
    have Fu44 : RKp h u44.2 := rk_t F Qu44
    refine pc_if (fun _ => ?_) (fun _ => ?_)
    · refine pc_if (fun _ => ?_) (fun _ => ?_)
      · exact pc_imp (rk_qj_X13_invoked_86 G (rk_n S Fu44)) (fun _ q => rk_t Fu44 q)
      · refine pc_se ?_; intro u46 _
        refine pc_if (fun _ => ?_) (fun _ => ?_)
        · refine pc_se ?_; intro u47 _
          refine pc_if (fun _ => ?_) (fun _ => ?_)
          · exact pc_imp (rk_qj_X13_invoked_119 G (rk_n S Fu44)) (fun _ q => rk_t Fu44 q)
          · refine pc_rA ?_; intro _ _ v49 _
            refine pc_sv (rk_qf_X13_wrong (rk_n S Fu44)) ?_; intro u51 Qu51
            have Fu51 : RKp h u51 := rk_t Fu44 Qu51
            exact pc_imp (rk_qj_X13_invoked_119 G (rk_n S Fu51)) (fun _ q => rk_t Fu51 q)
        · exact pc_imp (rk_qj_X13_invoked_86 G (rk_n S Fu44)) (fun _ q => rk_t Fu44 q)
    · exact pc_ret Fu44
  · refine pc_rA ?_; intro _ _ v57 _
    refine pc_se ?_; intro u59 _
    refine pc_if (fun _ => ?_) (fun _ => ?_)
    · exact pc_imp (rk_qj_X13_invoked_46 G (rk_n S F)) (fun _ q => rk_t F q)
    · refine pc_rA ?_; intro _ _ v61 _
      refine pc_sv (rk_qf_X13_wrong (rk_n S F)) ?_; intro u63 Qu63
      have Fu63 : RKp h u63 := rk_t F Qu63
      exact pc_imp (rk_qj_X13_invoked_46 G (rk_n S Fu63)) (fun _ q => rk_t Fu63 q)
theorem rk_qj_X13_called_138 {rc : tq_X13_condition} {l2 : Int} (G : RKpG_X13_condition rc) {h : ms_M} (S : (0 ≤ h 160 57 ∧ h 160 57 ≤ 10000)) : Pc (qj_X13_called_138 nn rc l2 h) (fun u => RKp h u.2) := by
  have F : RKp h h := rk_r
  unfold qj_X13_called_138
  refine pc_rA ?_; intro _ _ v2 _
  exact pc_ret F
theorem rk_qj_X13_called_126 {rc : tq_X13_condition} {l1 : Int} {l2 : Int} (G : RKpG_X13_condition rc) {h : ms_M} (S : (0 ≤ h 160 57 ∧ h 160 57 ≤ 10000)) : Pc (qj_X13_called_126 nn rc l1 l2 h) (fun u => RKp h u.2) := by
  have F : RKp h h := rk_r
  unfold qj_X13_called_126
  refine pc_rA ?_; intro _ _ v4 _
  refine pc_sv (rk_qf_X13_wrong (rk_n S F)) ?_; intro u6 Qu6
  have Fu6 : RKp h u6 := rk_t F Qu6
  exact pc_imp (rk_qj_X13_called_138 G (rk_n S Fu6)) (fun _ q => rk_t Fu6 q)
theorem rk_qj_X13_called_110 {rc : tq_X13_condition} {l1 : Int} {l2 : Int} {l4 : Int} {l5 : Int} (G : RKpG_X13_condition rc) {h : ms_M} (S : (0 ≤ h 160 57 ∧ h 160 57 ≤ 10000)) : Pc (qj_X13_called_110 nn rc l1 l2 l4 l5 h) (fun u => RKp h u.2) := by
  have F : RKp h h := rk_r
  unfold qj_X13_called_110
  refine pc_if (fun _ => ?_) (fun _ => ?_)
  · exact pc_imp (rk_qj_X13_called_126 G (rk_n S F)) (fun _ q => rk_t F q)
  · refine pc_rA ?_; intro _ _ v8 _
    refine pc_if (fun _ => ?_) (fun _ => ?_)
    · exact pc_imp (rk_qj_X13_called_138 G (rk_n S F)) (fun _ q => rk_t F q)
    · exact pc_imp (rk_qj_X13_called_126 G (rk_n S F)) (fun _ q => rk_t F q)
theorem rk_qj_X13_called_93 {rc : tq_X13_condition} {l1 : Int} {l2 : Int} {l5 : Int} {l6 : Int} {s0 : Int} (G : RKpG_X13_condition rc) {qkk_23 : Int → Int → Int → Int → Int → ms_M → Option (Int × ms_M)} (Hqkk_23 : ∀ (z0 : Int) (z1 : Int) (z2 : Int) (z3 : Int) (z4 : Int) (z5 : ms_M), (0 ≤ z5 160 57 ∧ z5 160 57 ≤ 10000) → Pc (qkk_23 z0 z1 z2 z3 z4 z5) (fun u => RKp z5 u.2)) {h : ms_M} (S : (0 ≤ h 160 57 ∧ h 160 57 ≤ 10000)) : Pc (qj_X13_called_93 nn rc qkk_23 l1 l2 l5 l6 s0 h) (fun u => RKp h u.2) := by
  have F : RKp h h := rk_r
  unfold qj_X13_called_93
  refine pc_xl ?_; intro v11 _
  refine pc_rA ?_; intro _ _ v13 _
  exact pc_imp (Hqkk_23 _ _ _ _ _ _ (rk_n S F)) (fun _ q => rk_t F q)
theorem rk_qj_X13_called_92 {rc : tq_X13_condition} {l1 : Int} {l2 : Int} {l5 : Int} {l6 : Int} (G : RKpG_X13_condition rc) {qkk_23 : Int → Int → Int → Int → Int → ms_M → Option (Int × ms_M)} (Hqkk_23 : ∀ (z0 : Int) (z1 : Int) (z2 : Int) (z3 : Int) (z4 : Int) (z5 : ms_M), (0 ≤ z5 160 57 ∧ z5 160 57 ≤ 10000) → Pc (qkk_23 z0 z1 z2 z3 z4 z5) (fun u => RKp z5 u.2)) {h : ms_M} (S : (0 ≤ h 160 57 ∧ h 160 57 ≤ 10000)) : Pc (qj_X13_called_92 nn rc qkk_23 l1 l2 l5 l6 h) (fun u => RKp h u.2) := by
  have F : RKp h h := rk_r
  unfold qj_X13_called_92
  exact pc_imp (rk_qj_X13_called_93 G Hqkk_23 (rk_n S F)) (fun _ q => rk_t F q)
theorem rk_qw_X13_called_23 {rc : tq_X13_condition} (G : RKpG_X13_condition rc) : ∀ (k : Nat) (l1 : Int) (l2 : Int) (l4 : Int) (l5 : Int) (l6 : Int) (h : ms_M), (0 ≤ h 160 57 ∧ h 160 57 ≤ 10000) → Pc (qw_X13_called_23 nn rc k l1 l2 l4 l5 l6 h) (fun u => RKp h u.2) := by
  intro k
  induction k with
  | zero => intros; exact pc_none
  | succ k ih =>
    intro l1 l2 l4 l5 l6 h S
    have F : RKp h h := rk_r
    unfold qw_X13_called_23
    refine pc_if (fun _ => ?_) (fun _ => ?_)
    · exact pc_imp (rk_qj_X13_called_110 G (rk_n S F)) (fun _ q => rk_t F q)
    · refine pc_if (fun _ => ?_) (fun _ => ?_)
      · exact pc_imp (rk_qj_X13_called_110 G (rk_n S F)) (fun _ q => rk_t F q)
      · refine pc_rA ?_; intro _ _ v16 _
        refine pc_sv (G.2.1 (rk_n S F)) ?_; intro u18 Qu18
        have Fu18 : RKp h u18.2 := rk_t F Qu18
        refine pc_if (fun _ => ?_) (fun _ => ?_)
        · exact pc_imp (rk_qj_X13_called_92 G (fun _ _ _ _ _ _ S => ih _ _ _ _ _ _ S) (rk_n S Fu18)) (fun _ q => rk_t Fu18 q)
        · refine pc_rA ?_; intro _ _ v20 _
          refine pc_if (fun _ => ?_) (fun _ => ?_)
          · exact pc_imp (rk_qj_X13_called_92 G (fun _ _ _ _ _ _ S => ih _ _ _ _ _ _ S) (rk_n S Fu18)) (fun _ q => rk_t Fu18 q)
          · refine pc_rA ?_; intro _ _ v23 _
            refine pc_xl ?_; intro v24 _
            refine pc_rA ?_; intro _ _ v25 _
            refine pc_se ?_; intro u27 _
            refine pc_if (fun _ => ?_) (fun _ => ?_)
            · exact pc_imp (rk_qj_X13_called_92 G (fun _ _ _ _ _ _ S => ih _ _ _ _ _ _ S) (rk_n S Fu18)) (fun _ q => rk_t Fu18 q)
            · exact pc_imp (rk_qj_X13_called_93 G (fun _ _ _ _ _ _ S => ih _ _ _ _ _ _ S) (rk_n S Fu18)) (fun _ q => rk_t Fu18 q)
theorem rk_qo_X13_called {rc : tq_X13_condition} {a1 : Int} {a2 : Int} {a3 : Int} (G : RKpG_X13_condition rc) {h : ms_M} (S : (0 ≤ h 160 57 ∧ h 160 57 ≤ 10000)) : Pc (qo_X13_called nn rc a1 a2 a3 h) (fun u => RKp h u.2) := by
  have F : RKp h h := rk_r
  unfold qo_X13_called
  refine pc_if (fun _ => ?_) (fun _ => ?_)
  · refine pc_rA ?_; intro _ _ v35 _
    exact pc_imp (rk_qw_X13_called_23 G _ _ _ _ _ _ _ (rk_n S F)) (fun _ q => rk_t F q)
  · exact pc_ret F
theorem rk_65 {rc : tq_X13_condition} (G : RKpG_X13_condition rc) {l1 l2 : Int} (l0 : 0 ≤ l2) : ∀ (k : Nat) (h : ms_M), l2 ≤ h 160 57 → h 160 57 ≤ 10000 → Pc (qw_X13_worked_65 nn rc k l1 l2 h) (fun u => u.2 160 57 = l2 ∧ ∀ j : Nat, (j : Int) < l2 → u.2 199 j = h 199 j) := by
  intro k
  induction k with
  | zero => intros; exact pc_none
  | succ k ih =>
    intro h hb h6
    unfold qw_X13_worked_65
    refine pc_if (fun z => ?_) (fun z => ?_)
    · refine pc_xl ?_; intro h2 e2
      have E : h2 160 57 = l2 ∧ ∀ j : Nat, (j : Int) < l2 → h2 199 j = h 199 j := ⟨by rw [e2, up_s], fun j _ => by rw [e2, up_n (by omega)]⟩
      refine pc_if (fun _ => ?_) (fun _ => pc_ret E)
      refine pc_rA ?_; intro _ _ v5 _
      exact pc_ret E
    · refine pc_sub (by omega) ?_; intro v8 e8
      refine pc_xl ?_; intro h9 e9
      have t9 : h9 160 57 = h 160 57 - 1 := by rw [e9, up_s]; exact e8
      have k9 : ∀ j : Nat, h9 199 j = h 199 j := fun j => by rw [e9, up_n (by omega)]
      refine pc_rA ?_; intro _ _ v12 _
      refine pc_if (fun f => ?_) (fun f => ?_)
      · refine pc_sv (G.2.2.2.1 (by omega)) ?_; intro u16 q16
        refine pc_wA ?_; intro _ _ h17 e17
        have t17 : h17 160 57 = h 160 57 - 1 := by rw [e17, up_n (by omega), q16.1]; exact t9
        refine pc_imp (ih h17 (by omega) (by omega)) (fun u q => ⟨q.1, fun j hj => ?_⟩)
        rw [q.2 j hj, e17, up_n (by omega), q16.2 j (by omega)]; exact k9 j
      · refine pc_wA ?_; intro _ _ h18 e18
        have t18 : h18 160 57 = h 160 57 - 1 := by rw [e18, up_n (by omega)]; exact t9
        refine pc_imp (ih h18 (by omega) (by omega)) (fun u q => ⟨q.1, fun j hj => ?_⟩)
        rw [q.2 j hj, e18, up_n (by omega)]; exact k9 j
theorem rk_16 {rc : tq_X13_condition} (G : RKpG_X13_condition rc) {l1 l2 : Int} (l0 : 0 ≤ l2) : ∀ (k : Nat) (a : Int) (h : ms_M), l2 ≤ h 160 57 → h 160 57 ≤ 10000 → Pc (qw_X13_worked_16 nn rc k l1 l2 a h) (fun u => u.2 160 57 = l2 ∧ ∀ j : Nat, (j : Int) < l2 → u.2 199 j = h 199 j) := by
  intro k
  induction k with
  | zero => intros; exact pc_none
  | succ k ih =>
    intro a h hb h6
    unfold qw_X13_worked_16
    refine pc_se ?_; intro u22 _
    refine pc_if (fun z => ?_) (fun z => ?_)
    · refine pc_sv (G.2.2.2.1 (by omega)) ?_; intro u25 q25
      refine pc_wA ?_; intro _ _ h26 e26
      have t26 : h26 160 57 = h 160 57 := by rw [e26, up_n (by omega), q25.1]
      refine pc_imp (rk_65 G l0 nn h26 (by omega) (by omega)) (fun u q => ⟨q.1, fun j hj => ?_⟩)
      rw [q.2 j hj, e26, up_n (by omega), q25.2 j (by omega)]
    · refine pc_wA ?_; intro b1 b2 h29 e29
      have t29 : h29 160 57 = h 160 57 := by rw [e29, up_n (by omega)]
      refine pc_add (by omega) ?_; intro v31 e31
      refine pc_xl ?_; intro h32 e32
      have t32 : h32 160 57 = h 160 57 + 1 := by rw [e32, up_s]; omega
      refine pc_rA ?_; intro _ _ v34 _
      refine pc_imp (ih v34 h32 (by omega) (by omega)) (fun u q => ⟨q.1, fun j hj => ?_⟩)
      rw [q.2 j hj, e32, up_n (by omega), e29, up_n (by omega)]
theorem rk_qo_X13_worked {rc : tq_X13_condition} (G : RKpG_X13_condition rc) {a1 : Int} {h : ms_M} (S : 0 ≤ h 160 57 ∧ h 160 57 ≤ 10000) : Pc (qo_X13_worked nn rc a1 h) (fun u => RKp h u.2) := by
  unfold qo_X13_worked
  refine pc_if (fun _ => ?_) (fun _ => pc_ret rk_r)
  exact rk_16 G S.1 nn _ h (by omega) S.2
theorem rkg_condition (nn : Nat) : ∀ d : Nat, RKpG_X13_condition (qg_X13_condition nn d) := by
  intro d
  induction d with
  | zero => exact ⟨fun _ => pc_none, fun _ => pc_none, fun _ => pc_none, fun _ => pc_none, fun _ => pc_none, fun _ => pc_none, fun _ => pc_none⟩
  | succ d ih => exact ⟨fun S => rk_qo_X13_condition ih S, fun S => rk_qo_X13_given ih S, fun S => rk_qo_X13_worked ih S, fun S => rk_qo_X13_rule ih S, fun S => rk_qo_X13_both ih S, fun S => rk_qo_X13_invoked ih S, fun S => rk_qo_X13_called ih S⟩
end
