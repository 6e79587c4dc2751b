/- THE INVARIANT THROUGH A WHOLE SCRIPT -/
def VPt (nn t : Nat) (M : ms_M) (c s : Nat) : Prop := ∃ u, u ≤ t ∧ u ≤ 512 ∧ VRm nn u M c s
theorem vp_m {nn t : Nat} {M : ms_M} {c s : Nat} (V : VPt nn t M c s) : VPt nn (t + 1) M c s := by
  obtain ⟨u, h1, h2, h3⟩ := V
  exact ⟨u, by omega, h2, h3⟩
theorem vp_0 {nn : Nat} : VPt nn 0 M_0 256 648382 := by
  have k := KCl_0
  have e9 : M_0 900000 0 = 256 := rfl
  refine ⟨0, Nat.le_refl _, by omega, BVa_0, k.1, k.2, by omega, by omega, ?_⟩
  have t := k.2.1
  have e1 : M_0 0 1 = 0 := KCl_1
  rw [e1]; omega
theorem vp_b {nn t : Nat} {M : ms_M} {c s : Nat} (V : VPt nn t M c s) : c ≤ 600000 ∧ s ≤ 7302250 := by
  obtain ⟨u, h1, h2, h3, h4, h5, h6, h7, h8⟩ := V
  have := h5.2.1
  omega
