/- THE START: the word 'class', the empty tapes -/
def iz_Y : Bool := match in_0 with
  | some (_, _, h, _, _) => decide (rd_H h 7 12 = 91 ∧ rd_H h 7 13 = 96 ∧ rd_H h 0 1 = 0 ∧ rd_H h 160 1 = 0)
  | none => false
theorem iz_y : iz_Y = true := by decide +kernel
theorem m0_r5 {c k : Nat} (hc : c < 256) : M_0 c k = rd_H h_0 c k := by
  show M_H h_0 c k = _
  unfold M_H; rw [if_neg (by omega), if_pos hc]
theorem KCl_a : KCl M_0 ∧ tp_R M_0 ∧ M_0 0 1 = 0 := by
  have h := iz_y
  unfold iz_Y at h
  rw [in_all.1] at h
  have h : _ = true := h
  obtain ⟨h1, h2, h3, h4⟩ := of_decide_eq_true h
  have R : ∀ {c k : Nat}, c < 256 → M_0 c k = rd_H h_0 c k := m0_r5
  rw [← R (by decide)] at h1 h2 h3 h4
  exact ⟨⟨h1, h2⟩, tp_zero h4 h3, h3⟩
theorem KCl_0 : KCl M_0 ∧ tp_R M_0 := ⟨KCl_a.1, KCl_a.2.1⟩
theorem KCl_1 : M_0 0 1 = 0 := KCl_a.2.2
