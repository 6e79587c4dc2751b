/- S of both sides: which one it is -/
section
variable {nn : Nat} {X : BCx} {e d k : Int} {h r m : ms_M}
theorem sju_1 {rc : tq_X13_ruled} {Q : Int × ms_M → Prop} (f : r 160 9 = 0) (k : r 167 e.toNat = 1) (H : Pc (rd_A 9000 170 e r fun v176 => qw_X13_ruled_88 nn rc nn (r 160 50) 1 v176 r) Q) : Pc (qo_X13_ruled nn rc e r) Q := by
  unfold qo_X13_ruled
  refine pc_if (fun _ => ?_) (fun z => absurd f z)
  refine pc_rA ?_; intro _ _ v0 e0
  rw [k] at e0
  rw [e0]
  exact pc_if (fun _ => H) (fun z => absurd rfl z)
theorem sju_2 {rc : tq_X13_ruled} {Q : Int × ms_M → Prop} (f : r 160 9 = 0) (k : r 167 e.toNat = 2) (H : Pc (rd_A 9000 175 e r fun v178 => rd_A 9000 172 e r fun v180 => xl (Int.tdiv v180 4) fun v181 => rd_A 9000 172 e r fun v183 => xl (Int.tmod v183 4) fun v184 => if ¬ v184 = 2 then (qj_X13_ruled_179 nn rc e 0 v181 v178 r) else (qj_X13_ruled_179 nn rc e 1 v181 v178 r)) Q) : Pc (qo_X13_ruled nn rc e r) Q := by
  unfold qo_X13_ruled
  refine pc_if (fun _ => ?_) (fun z => absurd f z)
  refine pc_rA ?_; intro _ _ v0 e0
  rw [k] at e0
  rw [e0]
  refine pc_if (fun z => absurd z (by decide)) (fun _ => ?_)
  exact pc_if (fun _ => H) (fun z => absurd rfl z)
theorem sju_3 {rc : tq_X13_ruled} {Q : Int × ms_M → Prop} (f : r 160 9 = 0) (k : r 167 e.toNat = 3) (H : Pc (rd_A 9000 170 e r fun v187 => mx_sv (qf_X13_condition nn v187 r) fun u189 => rd_A 9000 171 e u189 fun v191 => mx_sv (rc v191 u189) fun u193 => xl (up_M u193.2 160 50 (r 160 50)) fun h194 => rd_A 9000 172 e h194 fun v196 => if ¬ v196 = (-1) then (rd_A 9000 172 e h194 fun v198 => mx_sv (rc v198 h194) fun u200 => xl (up_M u200.2 160 50 (r 160 50)) fun h201 => if ¬ u193.1 = 0 then (some (1, h201)) else (if u200.1 = 0 then (some (0, h201)) else (some (1, h201)))) else (some (1, h194))) Q) : Pc (qo_X13_ruled nn rc e r) Q := by
  unfold qo_X13_ruled
  refine pc_if (fun _ => ?_) (fun z => absurd f z)
  refine pc_rA ?_; intro _ _ v0 e0
  rw [k] at e0
  rw [e0]
  refine pc_if (fun z => absurd z (by decide)) (fun _ => ?_)
  refine pc_if (fun z => absurd z (by decide)) (fun _ => ?_)
  exact pc_if (fun _ => H) (fun z => absurd rfl z)
theorem sju_4 {rc : tq_X13_ruled} {Q : Int × ms_M → Prop} (f : r 160 9 = 0) (k : r 167 e.toNat = 4) (H : Pc (rd_A 9000 170 e r fun v206 => mx_sv (qf_X13_condition nn v206 r) fun u208 => xl (oq_add (u208 160 54) 1) fun v210 => xl (up_M u208 160 54 v210) fun h211 => wr_Z 3000 198 (h211 160 54) 0 h211 fun h214 => rd_A 9000 171 e h214 fun v216 => mx_sv (rc v216 h214) fun u218 => qj_X13_ruled_377 nn rc e (r 160 50) u218.2) Q) : Pc (qo_X13_ruled nn rc e r) Q := by
  unfold qo_X13_ruled
  refine pc_if (fun _ => ?_) (fun z => absurd f z)
  refine pc_rA ?_; intro _ _ v0 e0
  rw [k] at e0
  rw [e0]
  refine pc_if (fun z => absurd z (by decide)) (fun _ => ?_)
  refine pc_if (fun z => absurd z (by decide)) (fun _ => ?_)
  refine pc_if (fun z => absurd z (by decide)) (fun _ => ?_)
  exact pc_if (fun _ => H) (fun z => absurd rfl z)
theorem sju_5 {rc : tq_X13_ruled} {Q : Int × ms_M → Prop} (f : r 160 9 = 0) (k : r 167 e.toNat = 5) (H : Pc (qj_X13_ruled_444 nn rc e r) Q) : Pc (qo_X13_ruled nn rc e r) Q := by
  unfold qo_X13_ruled
  refine pc_if (fun _ => ?_) (fun z => absurd f z)
  refine pc_rA ?_; intro _ _ v0 e0
  rw [k] at e0
  rw [e0]
  refine pc_if (fun z => absurd z (by decide)) (fun _ => ?_)
  refine pc_if (fun z => absurd z (by decide)) (fun _ => ?_)
  refine pc_if (fun z => absurd z (by decide)) (fun _ => ?_)
  refine pc_if (fun z => absurd z (by decide)) (fun _ => ?_)
  exact pc_if (fun _ => H) (fun z => absurd rfl z)
theorem sju_6 {rc : tq_X13_ruled} {Q : Int × ms_M → Prop} (f : r 160 9 = 0) (k : r 167 e.toNat = 6) (H : Pc (qj_X13_ruled_444 nn rc e r) Q) : Pc (qo_X13_ruled nn rc e r) Q := by
  unfold qo_X13_ruled
  refine pc_if (fun _ => ?_) (fun z => absurd f z)
  refine pc_rA ?_; intro _ _ v0 e0
  rw [k] at e0
  rw [e0]
  refine pc_if (fun z => absurd z (by decide)) (fun _ => ?_)
  refine pc_if (fun z => absurd z (by decide)) (fun _ => ?_)
  refine pc_if (fun z => absurd z (by decide)) (fun _ => ?_)
  refine pc_if (fun z => absurd z (by decide)) (fun _ => ?_)
  refine pc_if (fun z => absurd z (by decide)) (fun _ => ?_)
  exact pc_if (fun _ => H) (fun z => absurd rfl z)
theorem sju_7 {rc : tq_X13_ruled} {Q : Int × ms_M → Prop} (f : r 160 9 = 0) (k : r 167 e.toNat = 7) (H : Pc (rd_A 9000 170 e r fun v220 => if ¬ v220 = (-1) then (qj_X13_ruled_503 nn rc e 0 r) else (qj_X13_ruled_503 nn rc e 1 r)) Q) : Pc (qo_X13_ruled nn rc e r) Q := by
  unfold qo_X13_ruled
  refine pc_if (fun _ => ?_) (fun z => absurd f z)
  refine pc_rA ?_; intro _ _ v0 e0
  rw [k] at e0
  rw [e0]
  refine pc_if (fun z => absurd z (by decide)) (fun _ => ?_)
  refine pc_if (fun z => absurd z (by decide)) (fun _ => ?_)
  refine pc_if (fun z => absurd z (by decide)) (fun _ => ?_)
  refine pc_if (fun z => absurd z (by decide)) (fun _ => ?_)
  refine pc_if (fun z => absurd z (by decide)) (fun _ => ?_)
  refine pc_if (fun z => absurd z (by decide)) (fun _ => ?_)
  exact pc_if (fun _ => H) (fun z => absurd rfl z)
theorem sju_8 {rc : tq_X13_ruled} {Q : Int × ms_M → Prop} (f : r 160 9 = 0) (k : r 167 e.toNat = 8) (H : Pc (rd_A 9000 170 e r fun v223 => mx_sv (qf_X13_given nn v223 r) fun u225 => mx_sv (qf_X13_isThing nn u225.1 u225.2) fun u226 => if u226 = 0 then (qj_X13_ruled_617 nn rc e u225.2) else (mx_sv (qf_X13_fits nn u225.1 10 u225.2) fun u228 => if ¬ u228 = 0 then (some (0, u225.2)) else (qj_X13_ruled_617 nn rc e u225.2))) Q) : Pc (qo_X13_ruled nn rc e r) Q := by
  unfold qo_X13_ruled
  refine pc_if (fun _ => ?_) (fun z => absurd f z)
  refine pc_rA ?_; intro _ _ v0 e0
  rw [k] at e0
  rw [e0]
  refine pc_if (fun z => absurd z (by decide)) (fun _ => ?_)
  refine pc_if (fun z => absurd z (by decide)) (fun _ => ?_)
  refine pc_if (fun z => absurd z (by decide)) (fun _ => ?_)
  refine pc_if (fun z => absurd z (by decide)) (fun _ => ?_)
  refine pc_if (fun z => absurd z (by decide)) (fun _ => ?_)
  refine pc_if (fun z => absurd z (by decide)) (fun _ => ?_)
  refine pc_if (fun z => absurd z (by decide)) (fun _ => ?_)
  exact pc_if (fun _ => H) (fun z => absurd rfl z)
theorem sju_9 {rc : tq_X13_ruled} {Q : Int × ms_M → Prop} (f : r 160 9 = 0) (k : r 167 e.toNat = 9) (H : Pc (rd_A 9000 170 e r fun v232 => mx_sv (rc v232 r) fun u234 => rd_A 9000 168 e u234.2 fun v236 => mx_sv (qf_X13_typeOf nn 3 v236 0 u234.2) fun u238 => mx_sv (qf_X13_fits nn u238.1 10 u238.2) fun u240 => if ¬ u240 = 0 then (qj_X13_ruled_679 nn rc e (r 160 50) u234.1 u238.1 u238.2) else (rd_A 9000 168 e u238.2 fun v242 => mx_sv (qf_X13_wrong nn 6 v242 u238.2) fun u244 => qj_X13_ruled_679 nn rc e (r 160 50) u234.1 u238.1 u244)) Q) : Pc (qo_X13_ruled nn rc e r) Q := by
  unfold qo_X13_ruled
  refine pc_if (fun _ => ?_) (fun z => absurd f z)
  refine pc_rA ?_; intro _ _ v0 e0
  rw [k] at e0
  rw [e0]
  refine pc_if (fun z => absurd z (by decide)) (fun _ => ?_)
  refine pc_if (fun z => absurd z (by decide)) (fun _ => ?_)
  refine pc_if (fun z => absurd z (by decide)) (fun _ => ?_)
  refine pc_if (fun z => absurd z (by decide)) (fun _ => ?_)
  refine pc_if (fun z => absurd z (by decide)) (fun _ => ?_)
  refine pc_if (fun z => absurd z (by decide)) (fun _ => ?_)
  refine pc_if (fun z => absurd z (by decide)) (fun _ => ?_)
  refine pc_if (fun z => absurd z (by decide)) (fun _ => ?_)
  exact pc_if (fun _ => H) (fun z => absurd rfl z)
theorem sju_10 {rc : tq_X13_ruled} {Q : Int × ms_M → Prop} (f : r 160 9 = 0) (k : r 167 e.toNat = 10) (H : Pc (rd_A 9000 170 e r fun v247 => mx_sv (qf_X13_given nn v247 r) fun u249 => if u249.1 ≤ 1 then (some (1, u249.2)) else (rd_A 9000 168 e u249.2 fun v251 => mx_sv (qf_X13_wrong nn 6 v251 u249.2) fun u253 => some (1, u253))) Q) : Pc (qo_X13_ruled nn rc e r) Q := by
  unfold qo_X13_ruled
  refine pc_if (fun _ => ?_) (fun z => absurd f z)
  refine pc_rA ?_; intro _ _ v0 e0
  rw [k] at e0
  rw [e0]
  refine pc_if (fun z => absurd z (by decide)) (fun _ => ?_)
  refine pc_if (fun z => absurd z (by decide)) (fun _ => ?_)
  refine pc_if (fun z => absurd z (by decide)) (fun _ => ?_)
  refine pc_if (fun z => absurd z (by decide)) (fun _ => ?_)
  refine pc_if (fun z => absurd z (by decide)) (fun _ => ?_)
  refine pc_if (fun z => absurd z (by decide)) (fun _ => ?_)
  refine pc_if (fun z => absurd z (by decide)) (fun _ => ?_)
  refine pc_if (fun z => absurd z (by decide)) (fun _ => ?_)
  refine pc_if (fun z => absurd z (by decide)) (fun _ => ?_)
  exact pc_if (fun _ => H) (fun z => absurd rfl z)
theorem sju_11 {rc : tq_X13_ruled} {Q : Int × ms_M → Prop} (f : r 160 9 = 0) (k : r 167 e.toNat = 11) (H : Pc (rd_A 9000 170 e r fun v258 => rd_A 9000 177 v258 r fun v259 => if v259 = 0 then (rd_A 9000 170 e r fun v261 => mx_sv (qf_X13_worked nn v261 r) fun u263 => qj_X13_ruled_840 nn rc e u263.1 e u263.2) else (rd_A 9000 170 e r fun v265 => mx_sv (qf_X13_given nn v265 r) fun u267 => qj_X13_ruled_840 nn rc e u267.1 e u267.2)) Q) : Pc (qo_X13_ruled nn rc e r) Q := by
  unfold qo_X13_ruled
  refine pc_if (fun _ => ?_) (fun z => absurd f z)
  refine pc_rA ?_; intro _ _ v0 e0
  rw [k] at e0
  rw [e0]
  refine pc_if (fun z => absurd z (by decide)) (fun _ => ?_)
  refine pc_if (fun z => absurd z (by decide)) (fun _ => ?_)
  refine pc_if (fun z => absurd z (by decide)) (fun _ => ?_)
  refine pc_if (fun z => absurd z (by decide)) (fun _ => ?_)
  refine pc_if (fun z => absurd z (by decide)) (fun _ => ?_)
  refine pc_if (fun z => absurd z (by decide)) (fun _ => ?_)
  refine pc_if (fun z => absurd z (by decide)) (fun _ => ?_)
  refine pc_if (fun z => absurd z (by decide)) (fun _ => ?_)
  refine pc_if (fun z => absurd z (by decide)) (fun _ => ?_)
  refine pc_if (fun z => absurd z (by decide)) (fun _ => ?_)
  exact pc_if (fun _ => H) (fun z => absurd rfl z)
theorem sju_d {rc : tq_X13_ruled} {Q : Int × ms_M → Prop} (f : r 160 9 = 0) (k : ¬ r 167 e.toNat = 1 ∧ ¬ r 167 e.toNat = 2 ∧ ¬ r 167 e.toNat = 3 ∧ ¬ r 167 e.toNat = 4 ∧ ¬ r 167 e.toNat = 5 ∧ ¬ r 167 e.toNat = 6 ∧ ¬ r 167 e.toNat = 7 ∧ ¬ r 167 e.toNat = 8 ∧ ¬ r 167 e.toNat = 9 ∧ ¬ r 167 e.toNat = 10 ∧ ¬ r 167 e.toNat = 11) (H : Pc (rd_A 9000 170 e r fun v160 => mx_sv (qf_X13_given nn v160 r) fun u162 => rd_A 9000 171 e u162.2 fun v164 => mx_sv (qf_X13_given nn v164 u162.2) fun u166 => rd_A 9000 170 e u166.2 fun v168 => mx_sv (qf_X13_canTake nn v168 u166.2) fun u170 => if u170 = 0 then (qj_X13_ruled_954 nn rc e u166.2) else (mx_sv (qf_X13_fits nn u166.1 u162.1 u166.2) fun u172 => if ¬ u172 = 0 then (some (1, u166.2)) else (qj_X13_ruled_954 nn rc e u166.2))) Q) : Pc (qo_X13_ruled nn rc e r) Q := by
  unfold qo_X13_ruled
  refine pc_if (fun _ => ?_) (fun z => absurd f z)
  refine pc_rA ?_; intro _ _ v0 e0
  refine pc_if (fun z => absurd (show r 167 e.toNat = 1 by omega) (by omega)) (fun _ => ?_)
  refine pc_if (fun z => absurd (show r 167 e.toNat = 2 by omega) (by omega)) (fun _ => ?_)
  refine pc_if (fun z => absurd (show r 167 e.toNat = 3 by omega) (by omega)) (fun _ => ?_)
  refine pc_if (fun z => absurd (show r 167 e.toNat = 4 by omega) (by omega)) (fun _ => ?_)
  refine pc_if (fun z => absurd (show r 167 e.toNat = 5 by omega) (by omega)) (fun _ => ?_)
  refine pc_if (fun z => absurd (show r 167 e.toNat = 6 by omega) (by omega)) (fun _ => ?_)
  refine pc_if (fun z => absurd (show r 167 e.toNat = 7 by omega) (by omega)) (fun _ => ?_)
  refine pc_if (fun z => absurd (show r 167 e.toNat = 8 by omega) (by omega)) (fun _ => ?_)
  refine pc_if (fun z => absurd (show r 167 e.toNat = 9 by omega) (by omega)) (fun _ => ?_)
  refine pc_if (fun z => absurd (show r 167 e.toNat = 10 by omega) (by omega)) (fun _ => ?_)
  refine pc_if (fun z => absurd (show r 167 e.toNat = 11 by omega) (by omega)) (fun _ => ?_)
  exact H
theorem sjm_1 {rc : tq_X13_make} {Q : Int × ms_M → Prop} (k : m 167 e.toNat = 1) (H : Pc (rd_A 9000 170 e m fun v49 => qw_X13_make_80 nn rc nn (m 160 50) 1 v49 m) Q) : Pc (qo_X13_make nn rc e m) Q := by
  unfold qo_X13_make
  refine pc_rA ?_; intro _ _ v0 e0
  rw [k] at e0
  rw [e0]
  exact pc_if (fun _ => H) (fun z => absurd rfl z)
theorem sjm_2 {rc : tq_X13_make} {Q : Int × ms_M → Prop} (k : m 167 e.toNat = 2) (H : Pc (rd_A 9000 170 e m fun v51 => mx_sv (qf_X13_work nn v51 m) fun u53 => rd_A 9000 174 e u53 fun v55 => mx_sv (qf_X13_store nn v55 (u53 160 50) u53) fun u58 => rd_A 9000 168 e u58 fun v60 => rd_A 9000 174 e u58 fun v62 => mx_sv (qf_X13_comes nn v60 v62 u58) fun u64 => some (1, u64)) Q) : Pc (qo_X13_make nn rc e m) Q := by
  unfold qo_X13_make
  refine pc_rA ?_; intro _ _ v0 e0
  rw [k] at e0
  rw [e0]
  refine pc_if (fun z => absurd z (by decide)) (fun _ => ?_)
  exact pc_if (fun _ => H) (fun z => absurd rfl z)
theorem sjm_3 {rc : tq_X13_make} {Q : Int × ms_M → Prop} (k : m 167 e.toNat = 3) (H : Pc (mx_sv (qf_X13_label nn m) fun u66 => rd_A 9000 170 e u66.2 fun v68 => mx_sv (qf_X13_work nn v68 u66.2) fun u70 => xl (oq_sub (u70 160 70) 1) fun v72 => xl (up_M u70 160 70 v72) fun h73 => mx_sv (qf_X13_jump nn 153 u66.1 h73) fun u75 => rd_A 9000 171 e u75 fun v77 => mx_sv (rc.1 v77 u75) fun u79 => xl (up_M u79.2 160 50 (m 160 50)) fun h80 => rd_A 9000 172 e h80 fun v82 => if ¬ v82 = (-1) then (mx_sv (qf_X13_label nn h80) fun u84 => if u79.1 = 0 then (qj_X13_make_246 nn rc e (m 160 50) u79.1 u66.1 u84.1 u84.2) else (mx_sv (qf_X13_jump nn 167 u84.1 u84.2) fun u86 => qj_X13_make_246 nn rc e (m 160 50) u79.1 u66.1 u84.1 u86)) else (mx_sv (qf_X13_stands nn u66.1 (h80 160 68) h80) fun u90 => qj_X13_make_225 nn rc u90)) Q) : Pc (qo_X13_make nn rc e m) Q := by
  unfold qo_X13_make
  refine pc_rA ?_; intro _ _ v0 e0
  rw [k] at e0
  rw [e0]
  refine pc_if (fun z => absurd z (by decide)) (fun _ => ?_)
  refine pc_if (fun z => absurd z (by decide)) (fun _ => ?_)
  exact pc_if (fun _ => H) (fun z => absurd rfl z)
theorem sjm_4 {rc : tq_X13_make} {Q : Int × ms_M → Prop} (k : m 167 e.toNat = 4) (H : Pc (mx_sv (rc.2.1 e (m 160 50) m) fun u93 => ck_B (u93.1 = 0 ∨ u93.1 = 1) <| some (u93.1, u93.2)) Q) : Pc (qo_X13_make nn rc e m) Q := by
  unfold qo_X13_make
  refine pc_rA ?_; intro _ _ v0 e0
  rw [k] at e0
  rw [e0]
  refine pc_if (fun z => absurd z (by decide)) (fun _ => ?_)
  refine pc_if (fun z => absurd z (by decide)) (fun _ => ?_)
  refine pc_if (fun z => absurd z (by decide)) (fun _ => ?_)
  exact pc_if (fun _ => H) (fun z => absurd rfl z)
theorem sjm_5 {rc : tq_X13_make} {Q : Int × ms_M → Prop} (k : m 167 e.toNat = 5) (H : Pc (qj_X13_make_305 nn rc e m) Q) : Pc (qo_X13_make nn rc e m) Q := by
  unfold qo_X13_make
  refine pc_rA ?_; intro _ _ v0 e0
  rw [k] at e0
  rw [e0]
  refine pc_if (fun z => absurd z (by decide)) (fun _ => ?_)
  refine pc_if (fun z => absurd z (by decide)) (fun _ => ?_)
  refine pc_if (fun z => absurd z (by decide)) (fun _ => ?_)
  refine pc_if (fun z => absurd z (by decide)) (fun _ => ?_)
  exact pc_if (fun _ => H) (fun z => absurd rfl z)
theorem sjm_6 {rc : tq_X13_make} {Q : Int × ms_M → Prop} (k : m 167 e.toNat = 6) (H : Pc (qj_X13_make_305 nn rc e m) Q) : Pc (qo_X13_make nn rc e m) Q := by
  unfold qo_X13_make
  refine pc_rA ?_; intro _ _ v0 e0
  rw [k] at e0
  rw [e0]
  refine pc_if (fun z => absurd z (by decide)) (fun _ => ?_)
  refine pc_if (fun z => absurd z (by decide)) (fun _ => ?_)
  refine pc_if (fun z => absurd z (by decide)) (fun _ => ?_)
  refine pc_if (fun z => absurd z (by decide)) (fun _ => ?_)
  refine pc_if (fun z => absurd z (by decide)) (fun _ => ?_)
  exact pc_if (fun _ => H) (fun z => absurd rfl z)
theorem sjm_7 {rc : tq_X13_make} {Q : Int × ms_M → Prop} (k : m 167 e.toNat = 7) (H : Pc (rd_A 9000 170 e m fun v96 => if ¬ v96 = (-1) then (rd_A 9000 170 e m fun v98 => mx_sv (qf_X13_work nn v98 m) fun u100 => xl (oq_sub (u100 160 70) 1) fun v102 => xl (up_M u100 160 70 v102) fun h103 => rd_A 800 187 (h103 160 51) h103 fun v106 => if 1 < v106 then (mx_sv (qf_X13_put nn 176 h103) fun u108 => some (0, u108)) else (mx_sv (qf_X13_put nn 172 h103) fun u110 => some (0, u110))) else (mx_sv (qf_X13_put nn 177 m) fun u113 => some (0, u113))) Q) : Pc (qo_X13_make nn rc e m) Q := by
  unfold qo_X13_make
  refine pc_rA ?_; intro _ _ v0 e0
  rw [k] at e0
  rw [e0]
  refine pc_if (fun z => absurd z (by decide)) (fun _ => ?_)
  refine pc_if (fun z => absurd z (by decide)) (fun _ => ?_)
  refine pc_if (fun z => absurd z (by decide)) (fun _ => ?_)
  refine pc_if (fun z => absurd z (by decide)) (fun _ => ?_)
  refine pc_if (fun z => absurd z (by decide)) (fun _ => ?_)
  refine pc_if (fun z => absurd z (by decide)) (fun _ => ?_)
  exact pc_if (fun _ => H) (fun z => absurd rfl z)
theorem sjm_8 {rc : tq_X13_make} {Q : Int × ms_M → Prop} (k : m 167 e.toNat = 8) (H : Pc (rd_A 9000 170 e m fun v116 => mx_sv (qf_X13_work nn v116 m) fun u118 => xl (oq_sub (u118 160 70) 1) fun v120 => xl (up_M u118 160 70 v120) fun h121 => mx_sv (qf_X13_put nn 191 h121) fun u123 => some (0, u123)) Q) : Pc (qo_X13_make nn rc e m) Q := by
  unfold qo_X13_make
  refine pc_rA ?_; intro _ _ v0 e0
  rw [k] at e0
  rw [e0]
  refine pc_if (fun z => absurd z (by decide)) (fun _ => ?_)
  refine pc_if (fun z => absurd z (by decide)) (fun _ => ?_)
  refine pc_if (fun z => absurd z (by decide)) (fun _ => ?_)
  refine pc_if (fun z => absurd z (by decide)) (fun _ => ?_)
  refine pc_if (fun z => absurd z (by decide)) (fun _ => ?_)
  refine pc_if (fun z => absurd z (by decide)) (fun _ => ?_)
  refine pc_if (fun z => absurd z (by decide)) (fun _ => ?_)
  exact pc_if (fun _ => H) (fun z => absurd rfl z)
theorem sjm_9 {rc : tq_X13_make} {Q : Int × ms_M → Prop} (k : m 167 e.toNat = 9) (H : Pc (mx_sv (rc.2.2 e (m 160 50) m) fun u125 => ck_B (u125.1 = 0 ∨ u125.1 = 1) <| some (u125.1, u125.2)) Q) : Pc (qo_X13_make nn rc e m) Q := by
  unfold qo_X13_make
  refine pc_rA ?_; intro _ _ v0 e0
  rw [k] at e0
  rw [e0]
  refine pc_if (fun z => absurd z (by decide)) (fun _ => ?_)
  refine pc_if (fun z => absurd z (by decide)) (fun _ => ?_)
  refine pc_if (fun z => absurd z (by decide)) (fun _ => ?_)
  refine pc_if (fun z => absurd z (by decide)) (fun _ => ?_)
  refine pc_if (fun z => absurd z (by decide)) (fun _ => ?_)
  refine pc_if (fun z => absurd z (by decide)) (fun _ => ?_)
  refine pc_if (fun z => absurd z (by decide)) (fun _ => ?_)
  refine pc_if (fun z => absurd z (by decide)) (fun _ => ?_)
  exact pc_if (fun _ => H) (fun z => absurd rfl z)
theorem sjm_10 {rc : tq_X13_make} {Q : Int × ms_M → Prop} (k : m 167 e.toNat = 10) (H : Pc (rd_A 9000 170 e m fun v128 => mx_sv (qf_X13_work nn v128 m) fun u130 => qj_X13_make_459 nn rc u130) Q) : Pc (qo_X13_make nn rc e m) Q := by
  unfold qo_X13_make
  refine pc_rA ?_; intro _ _ v0 e0
  rw [k] at e0
  rw [e0]
  refine pc_if (fun z => absurd z (by decide)) (fun _ => ?_)
  refine pc_if (fun z => absurd z (by decide)) (fun _ => ?_)
  refine pc_if (fun z => absurd z (by decide)) (fun _ => ?_)
  refine pc_if (fun z => absurd z (by decide)) (fun _ => ?_)
  refine pc_if (fun z => absurd z (by decide)) (fun _ => ?_)
  refine pc_if (fun z => absurd z (by decide)) (fun _ => ?_)
  refine pc_if (fun z => absurd z (by decide)) (fun _ => ?_)
  refine pc_if (fun z => absurd z (by decide)) (fun _ => ?_)
  refine pc_if (fun z => absurd z (by decide)) (fun _ => ?_)
  exact pc_if (fun _ => H) (fun z => absurd rfl z)
theorem sjm_11 {rc : tq_X13_make} {Q : Int × ms_M → Prop} (k : m 167 e.toNat = 11) (H : Pc (rd_A 9000 170 e m fun v132 => mx_sv (qf_X13_work nn v132 m) fun u134 => rd_A 9000 170 e u134 fun v137 => rd_A 9000 174 v137 u134 fun v138 => if v138 = 3 then (some (1, u134)) else (mx_sv (qf_X13_put nn 87 u134) fun u140 => xl (oq_sub (u140 160 70) 1) fun v142 => xl (up_M u140 160 70 v142) fun h143 => some (1, h143))) Q) : Pc (qo_X13_make nn rc e m) Q := by
  unfold qo_X13_make
  refine pc_rA ?_; intro _ _ v0 e0
  rw [k] at e0
  rw [e0]
  refine pc_if (fun z => absurd z (by decide)) (fun _ => ?_)
  refine pc_if (fun z => absurd z (by decide)) (fun _ => ?_)
  refine pc_if (fun z => absurd z (by decide)) (fun _ => ?_)
  refine pc_if (fun z => absurd z (by decide)) (fun _ => ?_)
  refine pc_if (fun z => absurd z (by decide)) (fun _ => ?_)
  refine pc_if (fun z => absurd z (by decide)) (fun _ => ?_)
  refine pc_if (fun z => absurd z (by decide)) (fun _ => ?_)
  refine pc_if (fun z => absurd z (by decide)) (fun _ => ?_)
  refine pc_if (fun z => absurd z (by decide)) (fun _ => ?_)
  refine pc_if (fun z => absurd z (by decide)) (fun _ => ?_)
  exact pc_if (fun _ => H) (fun z => absurd rfl z)
theorem sjm_d {rc : tq_X13_make} {Q : Int × ms_M → Prop} (k : ¬ m 167 e.toNat = 1 ∧ ¬ m 167 e.toNat = 2 ∧ ¬ m 167 e.toNat = 3 ∧ ¬ m 167 e.toNat = 4 ∧ ¬ m 167 e.toNat = 5 ∧ ¬ m 167 e.toNat = 6 ∧ ¬ m 167 e.toNat = 7 ∧ ¬ m 167 e.toNat = 8 ∧ ¬ m 167 e.toNat = 9 ∧ ¬ m 167 e.toNat = 10 ∧ ¬ m 167 e.toNat = 11) (H : Pc (rd_A 9000 170 e m fun v43 => rd_A 9000 171 e m fun v45 => mx_sv (qf_X13_assign nn v43 v45 m) fun u47 => some (1, u47)) Q) : Pc (qo_X13_make nn rc e m) Q := by
  unfold qo_X13_make
  refine pc_rA ?_; intro _ _ v0 e0
  refine pc_if (fun z => absurd (show m 167 e.toNat = 1 by omega) (by omega)) (fun _ => ?_)
  refine pc_if (fun z => absurd (show m 167 e.toNat = 2 by omega) (by omega)) (fun _ => ?_)
  refine pc_if (fun z => absurd (show m 167 e.toNat = 3 by omega) (by omega)) (fun _ => ?_)
  refine pc_if (fun z => absurd (show m 167 e.toNat = 4 by omega) (by omega)) (fun _ => ?_)
  refine pc_if (fun z => absurd (show m 167 e.toNat = 5 by omega) (by omega)) (fun _ => ?_)
  refine pc_if (fun z => absurd (show m 167 e.toNat = 6 by omega) (by omega)) (fun _ => ?_)
  refine pc_if (fun z => absurd (show m 167 e.toNat = 7 by omega) (by omega)) (fun _ => ?_)
  refine pc_if (fun z => absurd (show m 167 e.toNat = 8 by omega) (by omega)) (fun _ => ?_)
  refine pc_if (fun z => absurd (show m 167 e.toNat = 9 by omega) (by omega)) (fun _ => ?_)
  refine pc_if (fun z => absurd (show m 167 e.toNat = 10 by omega) (by omega)) (fun _ => ?_)
  refine pc_if (fun z => absurd (show m 167 e.toNat = 11 by omega) (by omega)) (fun _ => ?_)
  exact H
theorem sjc_11 {rc : tq_X0_readBlock} {p : Nat} {Q : Int × ms_M → Prop} (Y : CXs X) (TB : TBc (bK X) (bP X) (bc X) h) (hp : h 2 10 = (p : Int)) (pc : p < bc X) (f : h 2 11 = 0) (hd : d ≤ 42) (k : bK X p = 11) (H : Pc (qj_X0_readStatement_188 nn rc h) Q) : Pc (qo_X0_readStatement nn rc d h) Q := by
  unfold qo_X0_readStatement
  refine pc_if (fun _ => ?_) (fun z => absurd hd z)
  refine pc_sv (c_kind Y.1 TB pc hp f) ?_; intro u0 q0
  rw [k] at q0
  rw [q0]
  exact pc_if (fun _ => H) (fun z => absurd rfl z)
theorem sjc_14 {rc : tq_X0_readBlock} {p : Nat} {Q : Int × ms_M → Prop} (Y : CXs X) (TB : TBc (bK X) (bP X) (bc X) h) (hp : h 2 10 = (p : Int)) (pc : p < bc X) (f : h 2 11 = 0) (hd : d ≤ 42) (k : bK X p = 14) (H : Pc (qj_X0_readStatement_188 nn rc h) Q) : Pc (qo_X0_readStatement nn rc d h) Q := by
  unfold qo_X0_readStatement
  refine pc_if (fun _ => ?_) (fun z => absurd hd z)
  refine pc_sv (c_kind Y.1 TB pc hp f) ?_; intro u0 q0
  rw [k] at q0
  rw [q0]
  refine pc_if (fun z => absurd z (by decide)) (fun _ => ?_)
  exact pc_if (fun _ => H) (fun z => absurd rfl z)
theorem sjc_18 {rc : tq_X0_readBlock} {p : Nat} {Q : Int × ms_M → Prop} (Y : CXs X) (TB : TBc (bK X) (bP X) (bc X) h) (hp : h 2 10 = (p : Int)) (pc : p < bc X) (f : h 2 11 = 0) (hd : d ≤ 42) (k : bK X p = 18) (H : Pc (xl (oq_add d 1) fun v19 => mx_sv (rc.2.2.2.1 v19 h) fun u21 => ck_B (u21.1 = 0 ∨ u21.1 = 1) <| some (u21.1, u21.2)) Q) : Pc (qo_X0_readStatement nn rc d h) Q := by
  unfold qo_X0_readStatement
  refine pc_if (fun _ => ?_) (fun z => absurd hd z)
  refine pc_sv (c_kind Y.1 TB pc hp f) ?_; intro u0 q0
  rw [k] at q0
  rw [q0]
  refine pc_if (fun z => absurd z (by decide)) (fun _ => ?_)
  refine pc_if (fun z => absurd z (by decide)) (fun _ => ?_)
  exact pc_if (fun _ => H) (fun z => absurd rfl z)
theorem sjc_23 {rc : tq_X0_readBlock} {p : Nat} {Q : Int × ms_M → Prop} (Y : CXs X) (TB : TBc (bK X) (bP X) (bc X) h) (hp : h 2 10 = (p : Int)) (pc : p < bc X) (f : h 2 11 = 0) (hd : d ≤ 42) (k : bK X p = 23) (H : Pc (xl (oq_add d 1) fun v23 => mx_sv (qf_X0_readPrint nn v23 h) fun u25 => ck_B (u25.1 = 0 ∨ u25.1 = 1) <| some (u25.1, u25.2)) Q) : Pc (qo_X0_readStatement nn rc d h) Q := by
  unfold qo_X0_readStatement
  refine pc_if (fun _ => ?_) (fun z => absurd hd z)
  refine pc_sv (c_kind Y.1 TB pc hp f) ?_; intro u0 q0
  rw [k] at q0
  rw [q0]
  refine pc_if (fun z => absurd z (by decide)) (fun _ => ?_)
  refine pc_if (fun z => absurd z (by decide)) (fun _ => ?_)
  refine pc_if (fun z => absurd z (by decide)) (fun _ => ?_)
  exact pc_if (fun _ => H) (fun z => absurd rfl z)
theorem sjc_24 {rc : tq_X0_readBlock} {p : Nat} {Q : Int × ms_M → Prop} (Y : CXs X) (TB : TBc (bK X) (bP X) (bc X) h) (hp : h 2 10 = (p : Int)) (pc : p < bc X) (f : h 2 11 = 0) (hd : d ≤ 42) (k : bK X p = 24) (H : Pc (xl (oq_add d 1) fun v27 => mx_sv (qf_X0_readReturn nn v27 h) fun u29 => ck_B (u29.1 = 0 ∨ u29.1 = 1) <| some (u29.1, u29.2)) Q) : Pc (qo_X0_readStatement nn rc d h) Q := by
  unfold qo_X0_readStatement
  refine pc_if (fun _ => ?_) (fun z => absurd hd z)
  refine pc_sv (c_kind Y.1 TB pc hp f) ?_; intro u0 q0
  rw [k] at q0
  rw [q0]
  refine pc_if (fun z => absurd z (by decide)) (fun _ => ?_)
  refine pc_if (fun z => absurd z (by decide)) (fun _ => ?_)
  refine pc_if (fun z => absurd z (by decide)) (fun _ => ?_)
  refine pc_if (fun z => absurd z (by decide)) (fun _ => ?_)
  exact pc_if (fun _ => H) (fun z => absurd rfl z)
theorem sjc_27 {rc : tq_X0_readBlock} {p : Nat} {Q : Int × ms_M → Prop} (Y : CXs X) (TB : TBc (bK X) (bP X) (bc X) h) (hp : h 2 10 = (p : Int)) (pc : p < bc X) (f : h 2 11 = 0) (hd : d ≤ 42) (k : bK X p = 27) (H : Pc (xl (oq_add d 1) fun v31 => mx_sv (qf_X0_readThrow nn v31 h) fun u33 => ck_B (u33.1 = 0 ∨ u33.1 = 1) <| some (u33.1, u33.2)) Q) : Pc (qo_X0_readStatement nn rc d h) Q := by
  unfold qo_X0_readStatement
  refine pc_if (fun _ => ?_) (fun z => absurd hd z)
  refine pc_sv (c_kind Y.1 TB pc hp f) ?_; intro u0 q0
  rw [k] at q0
  rw [q0]
  refine pc_if (fun z => absurd z (by decide)) (fun _ => ?_)
  refine pc_if (fun z => absurd z (by decide)) (fun _ => ?_)
  refine pc_if (fun z => absurd z (by decide)) (fun _ => ?_)
  refine pc_if (fun z => absurd z (by decide)) (fun _ => ?_)
  refine pc_if (fun z => absurd z (by decide)) (fun _ => ?_)
  exact pc_if (fun _ => H) (fun z => absurd rfl z)
theorem sjc_29 {rc : tq_X0_readBlock} {p : Nat} {Q : Int × ms_M → Prop} (Y : CXs X) (TB : TBc (bK X) (bP X) (bc X) h) (hp : h 2 10 = (p : Int)) (pc : p < bc X) (f : h 2 11 = 0) (hd : d ≤ 42) (k : bK X p = 29) (H : Pc (xl (oq_add d 1) fun v35 => mx_sv (rc.2.2.2.2.2 v35 h) fun u37 => ck_B (u37.1 = 0 ∨ u37.1 = 1) <| some (u37.1, u37.2)) Q) : Pc (qo_X0_readStatement nn rc d h) Q := by
  unfold qo_X0_readStatement
  refine pc_if (fun _ => ?_) (fun z => absurd hd z)
  refine pc_sv (c_kind Y.1 TB pc hp f) ?_; intro u0 q0
  rw [k] at q0
  rw [q0]
  refine pc_if (fun z => absurd z (by decide)) (fun _ => ?_)
  refine pc_if (fun z => absurd z (by decide)) (fun _ => ?_)
  refine pc_if (fun z => absurd z (by decide)) (fun _ => ?_)
  refine pc_if (fun z => absurd z (by decide)) (fun _ => ?_)
  refine pc_if (fun z => absurd z (by decide)) (fun _ => ?_)
  refine pc_if (fun z => absurd z (by decide)) (fun _ => ?_)
  exact pc_if (fun _ => H) (fun z => absurd rfl z)
theorem sjc_31 {rc : tq_X0_readBlock} {p : Nat} {Q : Int × ms_M → Prop} (Y : CXs X) (TB : TBc (bK X) (bP X) (bc X) h) (hp : h 2 10 = (p : Int)) (pc : p < bc X) (f : h 2 11 = 0) (hd : d ≤ 42) (k : bK X p = 31) (H : Pc (xl (oq_add d 1) fun v39 => mx_sv (rc.2.2.2.2.1 v39 h) fun u41 => ck_B (u41.1 = 0 ∨ u41.1 = 1) <| some (u41.1, u41.2)) Q) : Pc (qo_X0_readStatement nn rc d h) Q := by
  unfold qo_X0_readStatement
  refine pc_if (fun _ => ?_) (fun z => absurd hd z)
  refine pc_sv (c_kind Y.1 TB pc hp f) ?_; intro u0 q0
  rw [k] at q0
  rw [q0]
  refine pc_if (fun z => absurd z (by decide)) (fun _ => ?_)
  refine pc_if (fun z => absurd z (by decide)) (fun _ => ?_)
  refine pc_if (fun z => absurd z (by decide)) (fun _ => ?_)
  refine pc_if (fun z => absurd z (by decide)) (fun _ => ?_)
  refine pc_if (fun z => absurd z (by decide)) (fun _ => ?_)
  refine pc_if (fun z => absurd z (by decide)) (fun _ => ?_)
  refine pc_if (fun z => absurd z (by decide)) (fun _ => ?_)
  exact pc_if (fun _ => H) (fun z => absurd rfl z)
theorem sjc_42 {rc : tq_X0_readBlock} {p : Nat} {Q : Int × ms_M → Prop} (Y : CXs X) (TB : TBc (bK X) (bP X) (bc X) h) (hp : h 2 10 = (p : Int)) (pc : p < bc X) (f : h 2 11 = 0) (hd : d ≤ 42) (k : bK X p = 42) (H : Pc (xl (oq_add d 1) fun v43 => mx_sv (rc.1 v43 h) fun u45 => ck_B (u45.1 = 0 ∨ u45.1 = 1) <| some (u45.1, u45.2)) Q) : Pc (qo_X0_readStatement nn rc d h) Q := by
  unfold qo_X0_readStatement
  refine pc_if (fun _ => ?_) (fun z => absurd hd z)
  refine pc_sv (c_kind Y.1 TB pc hp f) ?_; intro u0 q0
  rw [k] at q0
  rw [q0]
  refine pc_if (fun z => absurd z (by decide)) (fun _ => ?_)
  refine pc_if (fun z => absurd z (by decide)) (fun _ => ?_)
  refine pc_if (fun z => absurd z (by decide)) (fun _ => ?_)
  refine pc_if (fun z => absurd z (by decide)) (fun _ => ?_)
  refine pc_if (fun z => absurd z (by decide)) (fun _ => ?_)
  refine pc_if (fun z => absurd z (by decide)) (fun _ => ?_)
  refine pc_if (fun z => absurd z (by decide)) (fun _ => ?_)
  refine pc_if (fun z => absurd z (by decide)) (fun _ => ?_)
  exact pc_if (fun _ => H) (fun z => absurd rfl z)
theorem sjc_d {rc : tq_X0_readBlock} {p : Nat} {Q : Int × ms_M → Prop} (Y : CXs X) (TB : TBc (bK X) (bP X) (bc X) h) (hp : h 2 10 = (p : Int)) (pc : p < bc X) (f : h 2 11 = 0) (hd : d ≤ 42) (k : ¬ bK X p = 11 ∧ ¬ bK X p = 14 ∧ ¬ bK X p = 18 ∧ ¬ bK X p = 23 ∧ ¬ bK X p = 24 ∧ ¬ bK X p = 27 ∧ ¬ bK X p = 29 ∧ ¬ bK X p = 31 ∧ ¬ bK X p = 42) (H : Pc (qj_X0_readStatement_217 nn rc d h) Q) : Pc (qo_X0_readStatement nn rc d h) Q := by
  unfold qo_X0_readStatement
  refine pc_if (fun _ => ?_) (fun z => absurd hd z)
  refine pc_sv (c_kind Y.1 TB pc hp f) ?_; intro u0 q0
  refine pc_if (fun z => absurd (show bK X p = 11 by omega) (by omega)) (fun _ => ?_)
  refine pc_if (fun z => absurd (show bK X p = 14 by omega) (by omega)) (fun _ => ?_)
  refine pc_if (fun z => absurd (show bK X p = 18 by omega) (by omega)) (fun _ => ?_)
  refine pc_if (fun z => absurd (show bK X p = 23 by omega) (by omega)) (fun _ => ?_)
  refine pc_if (fun z => absurd (show bK X p = 24 by omega) (by omega)) (fun _ => ?_)
  refine pc_if (fun z => absurd (show bK X p = 27 by omega) (by omega)) (fun _ => ?_)
  refine pc_if (fun z => absurd (show bK X p = 29 by omega) (by omega)) (fun _ => ?_)
  refine pc_if (fun z => absurd (show bK X p = 31 by omega) (by omega)) (fun _ => ?_)
  refine pc_if (fun z => absurd (show bK X p = 42 by omega) (by omega)) (fun _ => ?_)
  exact H
end
