/- which row of rule, which row of workOne -/
section
variable {nn : Nat} {e : Int} {r m : ms_M}
theorem ru_26 {rc : tq_X13_condition} {Q : Int × ms_M → Prop} (k : r 167 e.toNat = 26) (H : Pc (rd_A 9000 168 e r fun v114 => mx_sv (qf_X13_memberOf nn (r 160 52) v114 1 r) fun u116 => wr_A 9000 175 e u116 r fun h117 => rd_A 9000 175 e h117 fun v119 => if ¬ v119 = (-1) then (if (h117 160 53) = 0 then (qj_X13_rule_216 nn rc e h117) else (rd_A 9000 175 e h117 fun v123 => rd_A 800 182 v123 h117 fun v124 => if ¬ v124 = 1 then (qj_X13_rule_216 nn rc e h117) else (rd_A 9000 168 e h117 fun v126 => mx_sv (qf_X13_wrong nn 7 v126 h117) fun u128 => qj_X13_rule_216 nn rc e u128))) else (rd_A 9000 168 e h117 fun v132 => mx_sv (qf_X13_wrong nn 5 v132 h117) fun u134 => qj_X13_rule_216 nn rc e u134)) Q) : Pc (qo_X13_rule nn rc e r) Q := by
  unfold qo_X13_rule
  refine pc_rA ?_; intro _ _ v83 e83
  rw [k] at e83
  rw [e83]
  iterate 6 refine pc_if (fun z => absurd z (by decide)) (fun _ => ?_)
  exact pc_if (fun _ => H) (fun z => absurd rfl z)
theorem ru_31 {rc : tq_X13_condition} {Q : Int × ms_M → Prop} (k : r 167 e.toNat = 31) (H : Pc (mx_sv (rc.2.2.2.2.2.1 e r) fun u166 => some (u166.1, u166.2)) Q) : Pc (qo_X13_rule nn rc e r) Q := by
  unfold qo_X13_rule
  refine pc_rA ?_; intro _ _ v83 e83
  rw [k] at e83
  rw [e83]
  iterate 11 refine pc_if (fun z => absurd z (by decide)) (fun _ => ?_)
  exact pc_if (fun _ => H) (fun z => absurd rfl z)
theorem ru_33 {rc : tq_X13_condition} {Q : Int × ms_M → Prop} (k : r 167 e.toNat = 33) (H : Pc (qj_X13_rule_416 nn rc e r) Q) : Pc (qo_X13_rule nn rc e r) Q := by
  unfold qo_X13_rule
  refine pc_rA ?_; intro _ _ v83 e83
  rw [k] at e83
  rw [e83]
  iterate 13 refine pc_if (fun z => absurd z (by decide)) (fun _ => ?_)
  exact pc_if (fun _ => H) (fun z => absurd rfl z)
theorem ru_34 {rc : tq_X13_condition} {Q : Int × ms_M → Prop} (k : r 167 e.toNat = 34) (H : Pc (rd_A 9000 170 e r fun v177 => mx_sv (rc.1 v177 r) fun u179 => some (1, u179)) Q) : Pc (qo_X13_rule nn rc e r) Q := by
  unfold qo_X13_rule
  refine pc_rA ?_; intro _ _ v83 e83
  rw [k] at e83
  rw [e83]
  iterate 14 refine pc_if (fun z => absurd z (by decide)) (fun _ => ?_)
  exact pc_if (fun _ => H) (fun z => absurd rfl z)
theorem ru_35 {rc : tq_X13_condition} {Q : Int × ms_M → Prop} (k : r 167 e.toNat = 35) (H : Pc (qj_X13_rule_416 nn rc e r) Q) : Pc (qo_X13_rule nn rc e r) Q := by
  unfold qo_X13_rule
  refine pc_rA ?_; intro _ _ v83 e83
  rw [k] at e83
  rw [e83]
  iterate 15 refine pc_if (fun z => absurd z (by decide)) (fun _ => ?_)
  exact pc_if (fun _ => H) (fun z => absurd rfl z)
theorem ru_36 {rc : tq_X13_condition} {Q : Int × ms_M → Prop} (k : r 167 e.toNat = 36) (H : Pc (qj_X13_rule_455 nn rc e r) Q) : Pc (qo_X13_rule nn rc e r) Q := by
  unfold qo_X13_rule
  refine pc_rA ?_; intro _ _ v83 e83
  rw [k] at e83
  rw [e83]
  iterate 16 refine pc_if (fun z => absurd z (by decide)) (fun _ => ?_)
  exact pc_if (fun _ => H) (fun z => absurd rfl z)
theorem ru_37 {rc : tq_X13_condition} {Q : Int × ms_M → Prop} (k : r 167 e.toNat = 37) (H : Pc (mx_sv (rc.2.2.2.2.1 e r) fun u181 => some (u181.1, u181.2)) Q) : Pc (qo_X13_rule nn rc e r) Q := by
  unfold qo_X13_rule
  refine pc_rA ?_; intro _ _ v83 e83
  rw [k] at e83
  rw [e83]
  iterate 17 refine pc_if (fun z => absurd z (by decide)) (fun _ => ?_)
  exact pc_if (fun _ => H) (fun z => absurd rfl z)
theorem ru_38 {rc : tq_X13_condition} {Q : Int × ms_M → Prop} (k : r 167 e.toNat = 38) (H : Pc (qj_X13_rule_455 nn rc e r) Q) : Pc (qo_X13_rule nn rc e r) Q := by
  unfold qo_X13_rule
  refine pc_rA ?_; intro _ _ v83 e83
  rw [k] at e83
  rw [e83]
  iterate 18 refine pc_if (fun z => absurd z (by decide)) (fun _ => ?_)
  exact pc_if (fun _ => H) (fun z => absurd rfl z)
theorem ru_39 {rc : tq_X13_condition} {Q : Int × ms_M → Prop} (k : r 167 e.toNat = 39) (H : Pc (rd_A 9000 170 e r fun v85 => mx_sv (rc.1 v85 r) fun u87 => rd_A 9000 171 e u87 fun v89 => mx_sv (rc.2.1 v89 u87) fun u91 => rd_A 9000 172 e u91.2 fun v93 => mx_sv (rc.2.1 v93 u91.2) fun u95 => mx_sv (qf_X13_goTogether nn u91.1 u95.1 u95.2) fun u97 => if ¬ u97 = 0 then (qj_X13_rule_657 nn rc u91.1 u95.1 u95.2) else (rd_A 9000 168 e u95.2 fun v99 => mx_sv (qf_X13_wrong nn 6 v99 u95.2) fun u101 => qj_X13_rule_657 nn rc u91.1 u95.1 u101)) Q) : Pc (qo_X13_rule nn rc e r) Q := by
  unfold qo_X13_rule
  refine pc_rA ?_; intro _ _ v83 e83
  rw [k] at e83
  rw [e83]
  iterate 19 refine pc_if (fun z => absurd z (by decide)) (fun _ => ?_)
  exact H
theorem wo_26 {rc : tq_X13_work} {t : Int} {Q : ms_M → Prop} (k : m 167 e.toNat = 26) (g : m 174 e.toNat = t) (H : Pc (rd_A 9000 175 e m fun v124 => rd_A 800 182 v124 m fun v125 => if ¬ v125 = 2 then (qj_X13_workOne_259 nn rc e 0 m) else (qj_X13_workOne_259 nn rc e 1 m)) Q) : Pc (qo_X13_workOne nn rc e m) Q := by
  unfold qo_X13_workOne
  refine pc_rA ?_; intro _ _ v59 e59
  refine pc_rA ?_; intro _ _ v61 e61
  rw [g] at e59
  rw [k] at e61
  rw [e59, e61]
  iterate 6 refine pc_if (fun z => absurd z (by decide)) (fun _ => ?_)
  exact pc_if (fun _ => H) (fun z => absurd rfl z)
theorem wo_31 {rc : tq_X13_work} {t : Int} {Q : ms_M → Prop} (k : m 167 e.toNat = 31) (g : m 174 e.toNat = t) (H : Pc (rd_A 9000 176 e m fun v178 => if ¬ v178 = (-1) then (rd_A 9000 176 e m fun v180 => qj_X13_workOne_316 nn rc e v180 e m) else (rd_A 9000 170 e m fun v183 => rd_A 9000 174 v183 m fun v184 => xl (oq_sub v184 8) fun v185 => xl (Int.tdiv v185 2) fun v186 => qj_X13_workOne_316 nn rc e v186 e m)) Q) : Pc (qo_X13_workOne nn rc e m) Q := by
  unfold qo_X13_workOne
  refine pc_rA ?_; intro _ _ v59 e59
  refine pc_rA ?_; intro _ _ v61 e61
  rw [g] at e59
  rw [k] at e61
  rw [e59, e61]
  iterate 11 refine pc_if (fun z => absurd z (by decide)) (fun _ => ?_)
  exact pc_if (fun _ => H) (fun z => absurd rfl z)
theorem wo_33 {rc : tq_X13_work} {t : Int} {Q : ms_M → Prop} (k : m 167 e.toNat = 33) (g : m 174 e.toNat = t) (H : Pc (rd_A 9000 170 e m fun v194 => mx_sv (rc.1 v194 m) fun u196 => mx_sv (qf_X13_put nn 116 u196) fun u198 => some u198) Q) : Pc (qo_X13_workOne nn rc e m) Q := by
  unfold qo_X13_workOne
  refine pc_rA ?_; intro _ _ v59 e59
  refine pc_rA ?_; intro _ _ v61 e61
  rw [g] at e59
  rw [k] at e61
  rw [e59, e61]
  iterate 13 refine pc_if (fun z => absurd z (by decide)) (fun _ => ?_)
  exact pc_if (fun _ => H) (fun z => absurd rfl z)
theorem wo_34 {rc : tq_X13_work} {t : Int} {Q : ms_M → Prop} (k : m 167 e.toNat = 34) (g : m 174 e.toNat = t) (H : Pc (rd_A 9000 170 e m fun v200 => mx_sv (rc.1 v200 m) fun u202 => mx_sv (qf_X13_truth nn 153 1 u202) fun u204 => some u204) Q) : Pc (qo_X13_workOne nn rc e m) Q := by
  unfold qo_X13_workOne
  refine pc_rA ?_; intro _ _ v59 e59
  refine pc_rA ?_; intro _ _ v61 e61
  rw [g] at e59
  rw [k] at e61
  rw [e59, e61]
  iterate 14 refine pc_if (fun z => absurd z (by decide)) (fun _ => ?_)
  exact pc_if (fun _ => H) (fun z => absurd rfl z)
theorem wo_35 {rc : tq_X13_work} {t : Int} {Q : ms_M → Prop} (k : m 167 e.toNat = 35) (g : m 174 e.toNat = t) (H : Pc (rd_A 9000 170 e m fun v206 => mx_sv (rc.1 v206 m) fun u208 => mx_sv (qf_X13_put nn 2 u208) fun u210 => mx_sv (qf_X13_push nn 0 u210) fun u212 => mx_sv (qf_X13_put nn 130 u212) fun u214 => mx_sv (qf_X13_turn nn 2 0 u214) fun u216 => some u216) Q) : Pc (qo_X13_workOne nn rc e m) Q := by
  unfold qo_X13_workOne
  refine pc_rA ?_; intro _ _ v59 e59
  refine pc_rA ?_; intro _ _ v61 e61
  rw [g] at e59
  rw [k] at e61
  rw [e59, e61]
  iterate 15 refine pc_if (fun z => absurd z (by decide)) (fun _ => ?_)
  exact pc_if (fun _ => H) (fun z => absurd rfl z)
theorem wo_36 {rc : tq_X13_work} {t : Int} {Q : ms_M → Prop} (k : m 167 e.toNat = 36) (g : m 174 e.toNat = t) (H : Pc (qj_X13_workOne_588 nn rc e t m) Q) : Pc (qo_X13_workOne nn rc e m) Q := by
  unfold qo_X13_workOne
  refine pc_rA ?_; intro _ _ v59 e59
  refine pc_rA ?_; intro _ _ v61 e61
  rw [g] at e59
  rw [k] at e61
  rw [e59, e61]
  iterate 16 refine pc_if (fun z => absurd z (by decide)) (fun _ => ?_)
  exact pc_if (fun _ => H) (fun z => absurd rfl z)
theorem wo_37 {rc : tq_X13_work} {t : Int} {Q : ms_M → Prop} (k : m 167 e.toNat = 37) (g : m 174 e.toNat = t) (H : Pc (mx_sv (rc.2.2.2 e m) fun u218 => some u218) Q) : Pc (qo_X13_workOne nn rc e m) Q := by
  unfold qo_X13_workOne
  refine pc_rA ?_; intro _ _ v59 e59
  refine pc_rA ?_; intro _ _ v61 e61
  rw [g] at e59
  rw [k] at e61
  rw [e59, e61]
  iterate 17 refine pc_if (fun z => absurd z (by decide)) (fun _ => ?_)
  exact pc_if (fun _ => H) (fun z => absurd rfl z)
theorem wo_38 {rc : tq_X13_work} {t : Int} {Q : ms_M → Prop} (k : m 167 e.toNat = 38) (g : m 174 e.toNat = t) (H : Pc (qj_X13_workOne_588 nn rc e t m) Q) : Pc (qo_X13_workOne nn rc e m) Q := by
  unfold qo_X13_workOne
  refine pc_rA ?_; intro _ _ v59 e59
  refine pc_rA ?_; intro _ _ v61 e61
  rw [g] at e59
  rw [k] at e61
  rw [e59, e61]
  iterate 18 refine pc_if (fun z => absurd z (by decide)) (fun _ => ?_)
  exact pc_if (fun _ => H) (fun z => absurd rfl z)
theorem wo_39 {rc : tq_X13_work} {t : Int} {Q : ms_M → Prop} (k : m 167 e.toNat = 39) (g : m 174 e.toNat = t) (H : Pc (mx_sv (qf_X13_label nn m) fun u63 => mx_sv (qf_X13_label nn u63.2) fun u65 => rd_A 9000 170 e u65.2 fun v67 => mx_sv (rc.1 v67 u65.2) fun u69 => xl (oq_sub (u69 160 70) 1) fun v71 => xl (up_M u69 160 70 v71) fun h72 => mx_sv (qf_X13_jump nn 153 u63.1 h72) fun u74 => rd_A 9000 171 e u74 fun v76 => mx_sv (rc.1 v76 u74) fun u78 => xl (oq_sub (u78 160 70) 1) fun v80 => xl (up_M u78 160 70 v80) fun h81 => mx_sv (qf_X13_jump nn 167 u65.1 h81) fun u83 => mx_sv (qf_X13_stands nn u63.1 (u83 160 68) u83) fun u86 => rd_A 9000 172 e u86 fun v88 => mx_sv (rc.1 v88 u86) fun u90 => xl (oq_sub (u90 160 70) 1) fun v92 => xl (up_M u90 160 70 v92) fun h93 => mx_sv (qf_X13_push nn t h93) fun u95 => mx_sv (qf_X13_stands nn u65.1 (u95 160 68) u95) fun u98 => qj_X13_workOne_775 nn rc u98) Q) : Pc (qo_X13_workOne nn rc e m) Q := by
  unfold qo_X13_workOne
  refine pc_rA ?_; intro _ _ v59 e59
  refine pc_rA ?_; intro _ _ v61 e61
  rw [g] at e59
  rw [k] at e61
  rw [e59, e61]
  iterate 19 refine pc_if (fun z => absurd z (by decide)) (fun _ => ?_)
  exact H
end
