/- E of both sides: an element -/
section
variable {nn : Nat} {X : BCx} {dp i a b e : Int} {p q : Nat} {h g u r w m : ms_M} {v : Int × ms_M}
theorem c_arr2 {t : Int} : Pc (qf_X4_isArray nn t h) (fun u => (u = 1 ∧ 100 ≤ t ∧ t ≤ 200) ∨ (u = 0 ∧ ¬ (100 ≤ t ∧ t ≤ 200))) := by
  unfold qf_X4_isArray
  refine pc_if (fun z => pc_ret (.inr ⟨rfl, by omega⟩)) (fun z => ?_)
  exact pc_if (fun z2 => pc_ret (.inr ⟨rfl, by omega⟩)) (fun z2 => pc_ret (.inl ⟨rfl, by omega⟩))
theorem c_elem {t : Int} (ht : 100 ≤ t ∧ t ≤ 200) : Pc (qf_X4_elementOf nn t h) (fun u => (t = 200 ∧ u = 301) ∨ (¬ t = 200 ∧ u = t - 100)) := by
  unfold qf_X4_elementOf
  refine pc_if (fun z => ?_) (fun z => pc_ret (.inl ⟨Classical.byContradiction z, rfl⟩))
  refine pc_if (fun y => absurd y (by omega)) (fun _ => ?_)
  refine pc_if (fun y => absurd y (by omega)) (fun _ => ?_)
  refine pc_sub (by omega) ?_; intro v1 e1
  exact pc_ret (.inr ⟨z, e1⟩)
theorem r_isArr (n8 : bn X ≤ 8) {t : Int} (V : VTn (bn X) t) : Pc (qf_X13_isArray nn (ty_T t) r) (fun u => (u = 1 ∧ 100 ≤ t ∧ t ≤ 200) ∨ (u = 0 ∧ ¬ (100 ≤ t ∧ t ≤ 200))) := by
  have c := ty_c (vtn_v n8 V)
  have V2 := V
  unfold VTn at V2
  unfold qf_X13_isArray
  refine pc_if (fun z => pc_ret (.inl ⟨rfl, by omega⟩)) (fun z => ?_)
  refine pc_if (fun z2 => pc_ret (.inr ⟨rfl, by omega⟩)) (fun z2 => ?_)
  refine pc_xl ?_; intro v1 e1
  rw [Int.tmod_eq_emod_of_nonneg (by omega)] at e1
  exact pc_if (fun z3 => pc_ret (.inr ⟨rfl, by omega⟩)) (fun z3 => pc_ret (.inl ⟨rfl, by omega⟩))
/-- led, where the left side is no void -/
theorem r_ledv {t1 : Int} (hf : r 160 9 = 0) (e1 : r 170 e.toNat = bT X 170 e.toNat) (e2 : r 174 (bT X 170 e.toNat).toNat = t1) (n3 : ¬ t1 = 3) : Pc (qf_X13_led nn e r) (fun u => u = (t1, r)) := by
  unfold qf_X13_led
  refine pc_if (fun _ => ?_) (fun z => absurd hf z)
  refine pc_rA ?_; intro _ _ v4 e4
  rw [e1] at e4
  refine pc_rA ?_; intro _ _ v5 e5
  rw [e4, e2] at e5
  exact pc_if (fun _ => pc_ret (by rw [e5])) (fun z => absurd (show ¬ v5 = 3 by omega) z)
/-- .. and where it is -/
theorem r_led3 {tk : Nat} (TQ : TBq (bK X) (bP X) (bc X) r) (hf : r 160 9 = 0) (e1 : r 170 e.toNat = bT X 170 e.toNat) (e2 : r 174 (bT X 170 e.toNat).toNat = 3) (e3 : r 168 (bT X 170 e.toNat).toNat = (tk : Int)) (ht : tk < bc X) : Pc (qf_X13_led nn e r) (fun u => u.1 = 3 ∧ u.2 160 9 = 6 ∧ u.2 160 10 = bP X tk) := by
  unfold qf_X13_led
  refine pc_if (fun _ => ?_) (fun z => absurd hf z)
  refine pc_rA ?_; intro _ _ v4 e4
  rw [e1] at e4
  refine pc_rA ?_; intro _ _ v5 e5
  rw [e4, e2] at e5
  refine pc_if (fun z => absurd e5 z) (fun _ => ?_)
  refine pc_rA ?_; intro _ _ v8 e8
  rw [e1] at e8
  refine pc_rA ?_; intro _ _ v9 e9
  rw [e8, e3] at e9
  refine pc_sv (r_wrong TQ ht hf e9) ?_; intro u11 ⟨w1, w2⟩
  exact pc_ret ⟨e5, w1, w2⟩
end
