/- RUN: what two numbers make -/
/-- the number that instruction a makes of x and y -/
def cm_V (a x y : Int) : Int := if a = 96 then oq_add x y else if a = 100 then oq_sub x y else if a = 104 then oq_mul x y else if a = 108 then oq_div x y else if a = 112 then oq_rem x y else if a = 120 then oq_shl x y else if a = 122 then oq_shr x y else if a = 124 then oq_ushr x y else if a = 126 then oq_and x y else if a = 128 then oq_or x y else oq_xor x y
section
variable {nn : Nat} {t H : Nat} {h : ms_M} {a x y w : Int}
theorem rc_cmp (hy : a = 108 ∨ a = 112 → ¬ y = 0) : Pc (qf_X5_computed nn a x y h) (fun u => u = cm_V a x y) := by
  unfold qf_X5_computed cm_V
  by_cases e96 : a = 96
  · rw [if_pos e96, if_pos e96]; exact pc_xl (fun v q => pc_ret q)
  rw [if_neg e96, if_neg e96]
  by_cases e100 : a = 100
  · rw [if_pos e100, if_pos e100]; exact pc_xl (fun v q => pc_ret q)
  rw [if_neg e100, if_neg e100]
  by_cases e104 : a = 104
  · rw [if_pos e104, if_pos e104]; exact pc_xl (fun v q => pc_ret q)
  rw [if_neg e104, if_neg e104]
  by_cases e108 : a = 108
  · rw [if_pos e108, if_pos e108]
    refine pc_if (fun _ => ?_) (fun z => absurd (hy (by omega)) z)
    exact pc_if (fun _ => pc_none) (fun _ => pc_xl (fun v q => pc_ret q))
  rw [if_neg e108, if_neg e108]
  by_cases e112 : a = 112
  · rw [if_pos e112, if_pos e112]
    refine pc_if (fun _ => ?_) (fun z => absurd (hy (by omega)) z)
    exact pc_if (fun _ => pc_none) (fun _ => pc_xl (fun v q => pc_ret q))
  rw [if_neg e112, if_neg e112]
  by_cases e120 : a = 120
  · rw [if_pos e120, if_pos e120]; exact pc_xl (fun v q => pc_ret q)
  rw [if_neg e120, if_neg e120]
  by_cases e122 : a = 122
  · rw [if_pos e122, if_pos e122]; exact pc_xl (fun v q => pc_ret q)
  rw [if_neg e122, if_neg e122]
  by_cases e124 : a = 124
  · rw [if_pos e124, if_pos e124]; exact pc_xl (fun v q => pc_ret q)
  rw [if_neg e124, if_neg e124]
  by_cases e126 : a = 126
  · rw [if_pos e126, if_pos e126]; exact pc_xl (fun v q => pc_ret q)
  rw [if_neg e126, if_neg e126]
  by_cases e128 : a = 128
  · rw [if_pos e128, if_pos e128]; exact pc_xl (fun v q => pc_ret q)
  rw [if_neg e128, if_neg e128]
  unfold qj_X5_computed_204
  exact pc_xl (fun v q => pc_ret q)
theorem rr_rec : Pc (qf_X13_reckon nn a x y h) (fun u => u = cm_V a x y) := by
  unfold qf_X13_reckon cm_V
  by_cases e96 : a = 96
  · rw [if_pos e96, if_pos e96]; exact pc_xl (fun v q => pc_ret q)
  rw [if_neg e96, if_neg e96]
  by_cases e100 : a = 100
  · rw [if_pos e100, if_pos e100]; exact pc_xl (fun v q => pc_ret q)
  rw [if_neg e100, if_neg e100]
  by_cases e104 : a = 104
  · rw [if_pos e104, if_pos e104]; exact pc_xl (fun v q => pc_ret q)
  rw [if_neg e104, if_neg e104]
  by_cases e108 : a = 108
  · rw [if_pos e108, if_pos e108]; exact pc_if (fun _ => pc_none) (fun _ => pc_xl (fun v q => pc_ret q))
  rw [if_neg e108, if_neg e108]
  by_cases e112 : a = 112
  · rw [if_pos e112, if_pos e112]; exact pc_if (fun _ => pc_none) (fun _ => pc_xl (fun v q => pc_ret q))
  rw [if_neg e112, if_neg e112]
  by_cases e120 : a = 120
  · rw [if_pos e120, if_pos e120]; exact pc_xl (fun v q => pc_ret q)
  rw [if_neg e120, if_neg e120]
  by_cases e122 : a = 122
  · rw [if_pos e122, if_pos e122]; exact pc_xl (fun v q => pc_ret q)
  rw [if_neg e122, if_neg e122]
  by_cases e124 : a = 124
  · rw [if_pos e124, if_pos e124]; exact pc_xl (fun v q => pc_ret q)
  rw [if_neg e124, if_neg e124]
  by_cases e126 : a = 126
  · rw [if_pos e126, if_pos e126]; exact pc_xl (fun v q => pc_ret q)
  rw [if_neg e126, if_neg e126]
  by_cases e128 : a = 128
  · rw [if_pos e128, if_pos e128]; exact pc_xl (fun v q => pc_ret q)
  rw [if_neg e128, if_neg e128]
  unfold qj_X13_reckon_188
  exact pc_xl (fun v q => pc_ret q)
/-- two numbers are taken, one is given -/
theorem rc_arith (hy : a = 108 ∨ a = 112 → ¬ h 152 (30 * t + H + 1) = 0) (ht : h 143 17 = (t : Int)) (t60 : t < 60) (eH : h 150 t = ((H + 2 : Nat) : Int)) (h30 : H + 1 < 30) (p : 0 ≤ h 149 t ∧ h 149 t ≤ 10000) : Pc (qf_X5_stepArithmetic nn a h) (fun g => ∃ z : ms_M, (∀ c j : Nat, ¬ (c = 150 ∧ j = t) → z c j = h c j) ∧ z 150 t = (H : Int) ∧ g = up_M (up_M (up_M z 152 (30 * t + H) (cm_V a (h 152 (30 * t + H)) (h 152 (30 * t + H + 1)))) 150 t ((H + 1 : Nat) : Int)) 149 t (h 149 t + 1)) := by
  unfold qf_X5_stepArithmetic
  refine pc_sv (rc_pop (H := H + 1) ht t60 eH h30) ?_; intro u6 ⟨q6, p6⟩
  refine pc_sv (rc_pop (t := t) (H := H) (by rw [p6, up_n (by omega)]; exact ht) t60 (by rw [p6, up_s]) (by omega)) ?_; intro u8 ⟨q8, p8⟩
  have F8 : ∀ c j : Nat, ¬ (c = 150 ∧ j = t) → u8.2 c j = h c j := fun c j w => by rw [p8, up_n w, p6, up_n w]
  have q8 : u8.1 = h 152 (30 * t + H) := by rw [q8, p6, up_n (by omega)]
  have q6 : u6.1 = h 152 (30 * t + H + 1) := q6
  have E : Pc (qj_X5_stepArithmetic_35 nn a u6.1 u8.1 u8.2) (fun g => ∃ z : ms_M, (∀ c j : Nat, ¬ (c = 150 ∧ j = t) → z c j = h c j) ∧ z 150 t = (H : Int) ∧ g = up_M (up_M (up_M z 152 (30 * t + H) (cm_V a (h 152 (30 * t + H)) (h 152 (30 * t + H + 1)))) 150 t ((H + 1 : Nat) : Int)) 149 t (h 149 t + 1)) := by
    unfold qj_X5_stepArithmetic_35
    rw [q6, q8]
    refine pc_sv (rc_cmp hy) ?_; intro u1 q1
    rw [q1]
    have e9 : u8.2 149 t = h 149 t := F8 149 t (by omega)
    have e0 : u8.2 150 t = (H : Int) := by rw [p8, up_s]
    refine pc_sv (rc_gv (t := t) (H := H) (w := 1) (by rw [F8 143 17 (by omega)]; exact ht) t60 e0 (by omega) (by rw [e9]; exact p) (by omega)) ?_; intro u3 q3
    rw [e9] at q3
    exact pc_ret ⟨u8.2, F8, e0, q3⟩
  refine pc_if (fun _ => E) (fun z => ?_)
  have z : h 152 (30 * t + H + 1) = 0 := by rw [← q6]; exact Classical.byContradiction z
  refine pc_if (fun e => absurd z (hy (by omega))) (fun e1 => ?_)
  exact pc_if (fun _ => E) (fun e => absurd z (hy (by omega)))
end
