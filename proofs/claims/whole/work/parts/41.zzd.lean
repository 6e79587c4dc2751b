/- RUN: places and locals of both machines, told exactly -/
section
variable {nn : Nat} {t H x : Nat} {h g : ms_M} {v w a : Int}
theorem rr_on (ht : h 160 149 = (t : Int) + 1) (t60 : t < 60) (p : 0 ≤ h 253 t ∧ h 253 t ≤ 10000) (hw : -10000 ≤ w ∧ w ≤ 10000) : Pc (qf_X13_on nn w h) (fun g => g = up_M h 253 t (h 253 t + w)) := by
  unfold qf_X13_on
  rw [ht]
  refine pc_sub (by omega) ?_; intro v3 e3
  rw [show v3 = (t : Int) by omega]
  refine pc_rA ?_; intro _ _ v4 e4
  rw [Int.toNat_natCast] at e4
  refine pc_add (by omega) ?_; intro v5 e5
  refine pc_wA ?_; intro _ _ h6 e6
  rw [Int.toNat_natCast, e5, e4] at e6
  exact pc_ret e6
theorem rr_cell (ht : h 160 149 = (t : Int) + 1) (t60 : t < 60) (hx : x < 60) : Pc (qf_X13_cell nn (x : Int) h) (fun u => u = h 255 (60 * t + x)) := by
  unfold qf_X13_cell
  rw [ht]
  refine pc_sub (by omega) ?_; intro v3 e3
  refine pc_xl ?_; intro v4 e4
  rw [oq_mul_eq (by omega) (by omega) (by omega)] at e4
  refine pc_add (by omega) ?_; intro v5 e5
  refine pc_rA ?_; intro _ _ v6 e6
  rw [show v5.toNat = 60 * t + x by omega] at e6
  exact pc_ret e6
/-- a value is given and the place goes on -/
theorem rc_gv (ht : h 143 17 = (t : Int)) (t60 : t < 60) (eH : h 150 t = (H : Int)) (h30 : H < 30) (p : 0 ≤ h 149 t ∧ h 149 t ≤ 10000) (hw : -10000 ≤ w ∧ w ≤ 10000) : Pc (qf_X5_give nn v w h) (fun g => g = up_M (up_M (up_M h 152 (30 * t + H) v) 150 t ((H + 1 : Nat) : Int)) 149 t (h 149 t + w)) := by
  unfold qf_X5_give
  refine pc_sv (rc_push (v := v) ht t60 eH h30) ?_; intro u2 q2
  have e9 : u2 149 t = h 149 t := by rw [q2, up_n (by omega), up_n (by omega)]
  refine pc_sv (rc_go (t := t) (w := w) (by rw [q2, up_n (by omega), up_n (by omega)]; exact ht) (by rw [e9]; exact p) hw) ?_; intro u4 q4
  rw [e9, q2] at q4
  exact pc_ret q4
theorem rr_gv (ht : h 160 149 = (t : Int) + 1) (t60 : t < 60) (eH : h 254 t = (H : Int)) (h30 : H < 30) (p : 0 ≤ h 253 t ∧ h 253 t ≤ 10000) (hw : -10000 ≤ w ∧ w ≤ 10000) : Pc (mx_sv (qf_X13_give nn v h) fun u => qj_X13_step_1150 nn w u) (fun g => g = up_M (up_M (up_M h 255 (60 * t + 30 + H) v) 254 t ((H + 1 : Nat) : Int)) 253 t (h 253 t + w)) := by
  refine pc_sv (rr_give (v := v) ht t60 eH h30) ?_; intro u2 q2
  have e9 : u2 253 t = h 253 t := by rw [q2, up_n (by omega), up_n (by omega)]
  unfold qj_X13_step_1150
  refine pc_sv (rr_on (t := t) (w := w) (by rw [q2, up_n (by omega), up_n (by omega)]; exact ht) t60 (by rw [e9]; exact p) hw) ?_; intro u4 q4
  rw [e9, q2] at q4
  exact pc_ret q4
/-- loads (21, 25) and stores (54, 58) of local x -/
theorem rc_load (hx : x < 30) (ha : a = 21 ∨ a = 25) (ht : h 143 17 = (t : Int)) (t60 : t < 60) (eH : h 150 t = (H : Int)) (h30 : H < 30) (p : 0 ≤ h 149 t ∧ h 149 t ≤ 10000) : Pc (qf_X5_stepLocal nn a (x : Int) h) (fun g => g = up_M (up_M (up_M h 152 (30 * t + H) (h 151 (30 * t + x))) 150 t ((H + 1 : Nat) : Int)) 149 t (h 149 t + 2)) := by
  have E : ∀ v7 : Int, v7.toNat = 30 * t + x → Pc (qj_X5_stepLocal_37 nn v7 h) (fun g => g = up_M (up_M (up_M h 152 (30 * t + H) (h 151 (30 * t + x))) 150 t ((H + 1 : Nat) : Int)) 149 t (h 149 t + 2)) := fun v7 e7 => by
    unfold qj_X5_stepLocal_37
    refine pc_rA ?_; intro _ _ v2 e2
    rw [e7] at e2
    rw [e2]
    refine pc_sv (rc_gv ht t60 eH h30 p (by omega)) ?_; intro u4 q4
    exact pc_ret q4
  unfold qf_X5_stepLocal
  rw [ht]
  refine pc_xl ?_; intro v6 e6
  rw [oq_mul_eq (by omega) (by omega) (by omega)] at e6
  refine pc_add (by omega) ?_; intro v7 e7
  refine pc_if (fun _ => ?_) (fun z => absurd (show (x : Int) < 30 by omega) z)
  refine pc_if (fun _ => E v7 (by omega)) (fun z1 => ?_)
  exact pc_if (fun z2 => absurd (show a = 25 by omega) z2) (fun _ => E v7 (by omega))
theorem rc_store (hx : x < 30) (ha : a = 54 ∨ a = 58) (ht : h 143 17 = (t : Int)) (t60 : t < 60) (eH : h 150 t = ((H + 1 : Nat) : Int)) (h30 : H < 30) (p : 0 ≤ h 149 t ∧ h 149 t ≤ 10000) : Pc (qf_X5_stepLocal nn a (x : Int) h) (fun g => g = up_M (up_M (up_M h 150 t (H : Int)) 151 (30 * t + x) (h 152 (30 * t + H))) 149 t (h 149 t + 2)) := by
  unfold qf_X5_stepLocal
  rw [ht]
  refine pc_xl ?_; intro v6 e6
  rw [oq_mul_eq (by omega) (by omega) (by omega)] at e6
  refine pc_add (by omega) ?_; intro v7 e7
  refine pc_if (fun _ => ?_) (fun z => absurd (show (x : Int) < 30 by omega) z)
  refine pc_if (fun z => absurd z (by omega)) (fun _ => ?_)
  refine pc_if (fun _ => ?_) (fun z => absurd (show ¬ a = 25 by omega) z)
  refine pc_sv (rc_pop ht t60 eH h30) ?_; intro u10 ⟨q1, q2⟩
  refine pc_wA ?_; intro _ _ h11 e11
  rw [show v7.toNat = 30 * t + x by omega, q1, q2] at e11
  have e9 : h11 149 t = h 149 t := by rw [e11, up_n (by omega), up_n (by omega)]
  refine pc_sv (rc_go (t := t) (w := 2) (by rw [e11, up_n (by omega), up_n (by omega)]; exact ht) (by rw [e9]; exact p) (by omega)) ?_; intro u13 q13
  rw [e9, e11] at q13
  exact pc_ret q13
theorem rr_load (hx : x < 30) (ht : h 160 149 = (t : Int) + 1) (t60 : t < 60) (eH : h 254 t = (H : Int)) (h30 : H < 30) (p : 0 ≤ h 253 t ∧ h 253 t ≤ 10000) : Pc (qj_X13_step_876 nn 2 (x : Int) h) (fun g => g = up_M (up_M (up_M h 255 (60 * t + 30 + H) (h 255 (60 * t + x))) 254 t ((H + 1 : Nat) : Int)) 253 t (h 253 t + 2)) := by
  unfold qj_X13_step_876
  refine pc_sv (rr_cell (x := x) ht t60 (by omega)) ?_; intro u52 q52
  rw [q52]
  exact rr_gv ht t60 eH h30 p (by omega)
theorem rr_store (hx : x < 30) (ht : h 160 149 = (t : Int) + 1) (t60 : t < 60) (eH : h 254 t = ((H + 1 : Nat) : Int)) (h30 : H < 30) (p : 0 ≤ h 253 t ∧ h 253 t ≤ 10000) : Pc (qj_X13_step_889 nn 2 (x : Int) h) (fun g => g = up_M (up_M (up_M h 254 t (H : Int)) 255 (60 * t + x) (h 255 (60 * t + 30 + H))) 253 t (h 253 t + 2)) := by
  unfold qj_X13_step_889
  refine pc_sv (rr_drop ht t60 eH h30) ?_; intro u44 ⟨q1, q2⟩
  have t1 : u44.2 160 149 = (t : Int) + 1 := by rw [q2, up_n (by omega)]; exact ht
  rw [t1]
  refine pc_sub (by omega) ?_; intro v47 e47
  refine pc_xl ?_; intro v48 e48
  rw [oq_mul_eq (by omega) (by omega) (by omega)] at e48
  refine pc_add (by omega) ?_; intro v49 e49
  refine pc_wA ?_; intro _ _ h50 e50
  rw [show v49.toNat = 60 * t + x by omega, q1, q2] at e50
  have e9 : h50 253 t = h 253 t := by rw [e50, up_n (by omega), up_n (by omega)]
  unfold qj_X13_step_1150
  refine pc_sv (rr_on (t := t) (w := 2) (by rw [e50, up_n (by omega), up_n (by omega)]; exact ht) t60 (by rw [e9]; exact p) (by omega)) ?_; intro u4 q4
  rw [e9, e50] at q4
  exact pc_ret q4
end
