/- an E that is not led -/
section
variable {nn : Nat} {h g : ms_M}
theorem wk_one {rc : tq_X13_condition} (HR : ∀ (e : Int) (h : ms_M), 0 ≤ h 160 57 ∧ h 160 57 ≤ 10000 → Pc (rc.2.2.2.1 e h) (fun u => RKp h u.2)) {Q : Int × ms_M → Prop} {e : Int} (b : 0 ≤ h 160 57 ∧ h 160 57 ≤ 10000) (hf : h 160 9 = 0) (hl : Pc (qf_X13_isLed nn e h) (fun u => u = 0)) (T : Pc (rc.2.2.2.1 e h) (fun u => ∀ z : ms_M, z = up_M u.2 174 e.toNat u.1 → (z 160 9 = 0 → Q (u.1, z)) ∧ (¬ z 160 9 = 0 → Q (0, z)))) : Pc (qo_X13_worked nn rc e h) Q := by
  unfold qo_X13_worked
  refine pc_if (fun _ => ?_) (fun z => absurd hf z)
  cases nn with
  | zero => exact pc_none
  | succ f =>
    unfold qw_X13_worked_16
    refine pc_sv hl ?_; intro u22 q22
    refine pc_if (fun _ => ?_) (fun z => absurd q22 z)
    refine pc_se ?_; intro u16 e16
    have K := HR e h b _ e16
    have T := T _ e16
    refine pc_wA ?_; intro _ _ h17 e17
    obtain ⟨x1, x2⟩ := T h17 e17
    have t17 : h17 160 57 = h 160 57 := by rw [e17, up_n (by omega)]; exact K.1
    unfold qw_X13_worked_65
    refine pc_if (fun _ => ?_) (fun y => absurd (by omega) y)
    rw [up_id t17.symm]
    refine pc_xl ?_; intro h2 e2
    rw [e2]
    refine pc_if (fun y => ?_) (fun y => pc_ret (x2 y))
    refine pc_rA ?_; intro _ _ v5 e5
    rw [e5, show h17 174 e.toNat = u16.1 by rw [e17, up_s]]
    exact pc_ret (x1 y)
/-- the rule of each level keeps its rows -/
theorem rk_rule (d : Nat) : ∀ (e : Int) (h : ms_M), 0 ≤ h 160 57 ∧ h 160 57 ≤ 10000 → Pc ((qg_X13_condition nn d).2.2.2.1 e h) (fun u => RKp h u.2) := fun _ _ S => (rkg_condition nn d).2.2.2.1 S
theorem rk_work1 (d : Nat) : ∀ (e : Int) (h : ms_M), 0 ≤ h 160 57 ∧ h 160 57 ≤ 10000 → Pc ((qg_X13_work nn d).2.1 e h) (fun u => RKp h u) := fun _ _ S => (rkg_work nn d).2.1 S
end
