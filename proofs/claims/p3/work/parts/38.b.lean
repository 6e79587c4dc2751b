/-- FAULT and PLACE of the latest text -/
def ft_R (M : ms_M) : Prop := M 160 9 = M 2 11 ∧ M 160 10 = M 2 12 ∧ 0 ≤ M 2 11
theorem fault_2 {nn : Nat} {a : Int} {M : ms_M} (h : ft_R M) : ∃ r, qf_X12_fault nn a M = some r ∧ qf_X13_fault nn a M = some r := by
  obtain ⟨h1, h2, h3⟩ := h
  unfold qf_X12_fault qf_X13_fault
  rw [h1, h2]
  by_cases q0 : a = 0
  · refine ⟨M 2 11, ?_, ?_⟩ <;> simp (disch := omega) only [if_pos, if_neg]
  by_cases q1 : a = 1
  · by_cases q2 : M 2 11 = 0
    · refine ⟨-1, ?_, ?_⟩ <;> simp (disch := omega) only [if_pos, if_neg]
    · refine ⟨M 2 12, ?_, ?_⟩ <;> simp (disch := omega) only [if_pos, if_neg]
  · refine ⟨-1, ?_, ?_⟩ <;> simp (disch := omega) only [if_pos, if_neg]
/-- where the latest verify that told a number told it -/
def wh_R (M : ms_M) : Prop := M 160 123 = M 127 2 ∧ M 160 124 = M 127 3 ∧ M 160 125 = M 127 4
theorem where_2 {nn : Nat} {a : Int} {M : ms_M} (h : wh_R M) : ∃ r, qf_X12_where nn a M = some r ∧ qf_X13_where nn a M = some r := by
  obtain ⟨h1, h2, h3⟩ := h
  unfold qf_X12_where qf_X13_where
  rw [h1, h2, h3]
  by_cases q0 : a = 0
  · refine ⟨M 127 2, ?_, ?_⟩ <;> simp (disch := omega) only [if_pos, if_neg]
  by_cases q1 : a = 1
  · refine ⟨M 127 3, ?_, ?_⟩ <;> simp (disch := omega) only [if_pos, if_neg]
  by_cases q2 : a = 2
  · refine ⟨M 127 4, ?_, ?_⟩ <;> simp (disch := omega) only [if_pos, if_neg]
  · refine ⟨-1, ?_, ?_⟩ <;> simp (disch := omega) only [if_pos, if_neg]
/-- the IMAGES of the latest text: class: cell 0 field 7, cell 55 (which cells); reference: cell 160 field 93, cells 221, 222 -/
def im_R (M : ms_M) : Prop := M 160 93 = M 0 7 ∧ (0 ≤ M 0 7 ∧ M 0 7 ≤ 8) ∧ ∀ k : Nat, (k : Int) < M 0 7 → (256 ≤ M 55 k ∧ (M 55 k).toNat < cn_M M) ∧ (0 ≤ M 222 k ∧ M 222 k ≤ 6000) ∧ M 900001 (M 55 k).toNat = M 222 k ∧ ∀ i : Nat, (i : Int) < M 222 k → M 221 (6000 * k + i) = M (M 55 k).toNat i % 256 ∧ in_R (M (M 55 k).toNat i)
theorem rd_ok {α : Type} {n : Int} {c : Nat} {j : Int} {M : ms_M} {G : Int → Option α} (h : 0 ≤ j ∧ j < n) : rd_A n c j M G = G (M c j.toNat) := by unfold rd_A; rw [if_pos h]
theorem image_2 {nn : Nat} {a b : Int} {M : ms_M} (h : im_R M) (hb : in_R b) : ∃ r, qf_X12_image nn a b M = some r ∧ qf_X13_image nn a b M = some r := by
  obtain ⟨h1, h2, h3⟩ := h
  unfold qf_X12_image qf_X12_imageOf qf_X13_image ln_S rd_T
  rw [h1]
  by_cases q0 : a < 0
  · refine ⟨-1, ?_, ?_⟩ <;> simp (disch := omega) only [if_pos, if_neg, mx_svs]
  by_cases q1 : M 0 7 ≤ a
  · refine ⟨-1, ?_, ?_⟩ <;> simp (disch := omega) only [if_pos, if_neg, mx_svs]
  obtain ⟨⟨g1, g2⟩, g3, g4, g5⟩ := h3 a.toNat (by omega)
  have hl : ln_I M (M 55 a.toNat).toNat = M 222 a.toNat := by unfold ln_I; rw [if_neg (by omega), g4]
  have ht : ly_T (M 55 a.toNat).toNat = 1 := ly_Tbig (by omega)
  by_cases q2 : b = -1
  · refine ⟨M 222 a.toNat, ?_, ?_⟩ <;> simp (disch := omega) only [if_pos, if_neg, mx_svs, rd_ok, hl]
  by_cases q3 : b < 0
  · refine ⟨-1, ?_, ?_⟩ <;> simp (disch := omega) only [if_pos, if_neg, mx_svs, rd_ok, hl]
  by_cases q4 : M 222 a.toNat ≤ b
  · refine ⟨-1, ?_, ?_⟩ <;> simp (disch := omega) only [if_pos, if_neg, mx_svs, rd_ok, hl]
  obtain ⟨g6, g7⟩ := g5 b.toNat (by omega)
  have z : (6000 * a + b).toNat = 6000 * a.toNat + b.toNat := by omega
  refine ⟨M (M 55 a.toNat).toNat b.toNat % 256, ?_, ?_⟩
  · simp (disch := omega) only [if_pos, if_neg, mx_svs, rd_ok, hl, xl_eq, oq_and_255 g7]
  · simp (disch := omega) only [if_pos, if_neg, mx_svs, rd_ok, hl, xl_eq, oq_mul_eq, oq_add_eq, z, g6]
/-- the run, as the calls see it. Class: cell 143 (1 state, 2 gave, 3 steps, 4 objects, 5 fields and elements, 6 depth, 7 prints, 17 the uppermost), 144 printed, 148 methods, 149 places, 150 heights; reference: cell 160 (138 state, 139 gave, 140 steps, 141 objects, 142 made, 143 prints, 149 depth), 250 printed, 251 to 254 -/
def rn_R (M : ms_M) : Prop := M 160 138 = M 143 1 ∧ (0 ≤ M 143 1 ∧ M 143 1 ≤ 5) ∧
  (M 143 1 = 0 → M 143 2 = -1 ∧ M 143 3 = 0 ∧ M 143 4 = 0 ∧ M 143 5 = 0 ∧ M 143 6 = 0 ∧ M 143 7 = 0) ∧
  (M 143 1 ≠ 0 → M 160 140 = M 143 3 ∧ M 160 141 = M 143 4 ∧ M 160 142 = M 143 5 ∧ M 160 149 = M 143 6 ∧ M 160 143 = M 143 7 ∧ (∀ i : Nat, (i : Int) < M 143 7 → i < 1000 → M 250 i = M 144 i)) ∧
  (M 143 1 = 2 ∨ M 143 1 = 3 → M 160 139 = M 143 2) ∧ (M 143 1 ≠ 2 → M 143 1 ≠ 3 → M 143 2 = -1) ∧
  (M 143 1 = 1 → (1 ≤ M 143 6 ∧ M 143 6 ≤ 60) ∧ M 143 17 = M 143 6 - 1 ∧ ∀ j : Nat, (j : Int) < M 143 6 → (8 ≤ M 251 j ∧ M 251 j < 16) ∧ (0 ≤ M 252 j ∧ M 252 j < 12) ∧ M 148 j = (M 251 j - 8) * 12 + M 252 j ∧ M 149 j = M 253 j ∧ M 150 j = M 254 j)
theorem out_2 {nn : Nat} {a : Int} {M : ms_M} (h : rn_R M) : ∃ r, qf_X12_out nn a M = some r ∧ qf_X13_out nn a M = some r := by
  obtain ⟨h1, h2, h3, h4, -⟩ := h
  unfold qf_X12_out qf_X5_printedAt qf_X13_out
  rw [h1]
  by_cases q : M 143 1 = 0
  · have z := h3 q
    refine ⟨0, ?_, ?_⟩
    · by_cases q0 : a < 0 <;> simp (disch := omega) only [if_pos, if_neg, mx_svs]
    · simp (disch := omega) only [if_pos, if_neg, mx_svs]
  · obtain ⟨-, -, -, -, z1, z2⟩ := h4 q
    rw [z1]
    by_cases q0 : a < 0
    · refine ⟨0, ?_, ?_⟩ <;> simp (disch := omega) only [if_pos, if_neg, mx_svs]
    by_cases q1 : M 143 7 ≤ a
    · refine ⟨0, ?_, ?_⟩ <;> simp (disch := omega) only [if_pos, if_neg, mx_svs]
    by_cases q2 : 1000 ≤ a
    · refine ⟨0, ?_, ?_⟩ <;> simp (disch := omega) only [if_pos, if_neg, mx_svs]
    have z3 := z2 a.toNat (by omega) (by omega)
    refine ⟨M 144 a.toNat, ?_, ?_⟩ <;> simp (disch := omega) only [if_pos, if_neg, mx_svs, rd_ok, z3]
/-- how many classes of the space, and whether it is verified: class: cell 56 (3, 4); reference: cell 160 (98, 99) -/
def sp_R (M : ms_M) : Prop := M 160 98 = M 56 3 ∧ (0 ≤ M 56 3 ∧ M 56 3 ≤ 8) ∧ M 160 99 = M 56 4
theorem if_2 {α : Type} {p : Prop} [Decidable p] {A A2 B B2 : Option α} (h1 : p → ∃ r, A = some r ∧ A2 = some r) (h2 : ¬ p → ∃ r, B = some r ∧ B2 = some r) : ∃ r, (if p then A else B) = some r ∧ (if p then A2 else B2) = some r := by
  by_cases q : p
  · rw [if_pos q, if_pos q]; exact h1 q
  · rw [if_neg q, if_neg q]; exact h2 q
theorem look_2 {nn : Nat} {a : Int} {M : ms_M} (h : rn_R M) (ht : tp_R M) (hs : sp_R M) : ∃ r, qf_X12_look nn a M = some r ∧ qf_X13_look nn a M = some r := by
  obtain ⟨h1, h2, h3, h4, h5, h6, h7⟩ := h
  obtain ⟨s1, s2, s3⟩ := hs
  have t1 := ht.1
  unfold qf_X12_look qf_X13_look qj_X12_look_80 qf_X5_tell qf_X5_tellTop qj_X13_look_93 qj_X13_look_252
  rw [h1, s1, s3, t1]
  by_cases q11 : a = 11
  · subst q11; exact ⟨_, rfl, rfl⟩
  by_cases q12 : a = 12
  · subst q12
    refine if_2 (p := M 56 4 = 0) (A := some 0) (A2 := some 0) (B := some 1) (B2 := some 1) (fun _ => ⟨_, rfl, rfl⟩) (fun _ => ⟨_, rfl, rfl⟩)
  by_cases q13 : a = 13
  · subst q13; exact ⟨_, rfl, rfl⟩
  have st : M 143 1 = 0 ∨ M 143 1 = 1 ∨ M 143 1 = 2 ∨ M 143 1 = 3 ∨ (M 143 1 ≠ 0 ∧ M 143 1 ≠ 1 ∧ M 143 1 ≠ 2 ∧ M 143 1 ≠ 3) := by omega
  by_cases q0 : a = 0
  · refine ⟨M 143 1, ?_, ?_⟩ <;> simp (disch := omega) only [if_pos, if_neg, mx_svs]
  by_cases q1 : a = 1
  · by_cases z2 : M 143 1 = 2
    · have := h5 (.inl z2)
      refine ⟨M 143 2, ?_, ?_⟩ <;> simp (disch := omega) only [if_pos, if_neg, mx_svs, this]
    by_cases z3 : M 143 1 = 3
    · have := h5 (.inr z3)
      refine ⟨M 143 2, ?_, ?_⟩ <;> simp (disch := omega) only [if_pos, if_neg, mx_svs, this]
    have := h6 z2 z3
    refine ⟨-1, ?_, ?_⟩ <;> simp (disch := omega) only [if_pos, if_neg, mx_svs, this]
  by_cases qz : M 143 1 = 0
  · obtain ⟨z1, z2, z3, z4, z5, z6⟩ := h3 qz
    by_cases q2 : 2 ≤ a ∧ a ≤ 6
    · refine ⟨0, ?_, ?_⟩
      · have : a = 2 ∨ a = 3 ∨ a = 4 ∨ a = 5 ∨ a = 6 := by omega
        rcases this with v | v | v | v | v <;> simp (disch := omega) only [if_pos, if_neg, mx_svs, z2, z3, z4, z5, z6]
      · have : a = 2 ∨ a = 3 ∨ a = 4 ∨ a = 5 ∨ a = 6 := by omega
        rcases this with v | v | v | v | v <;> simp (disch := omega) only [if_pos, if_neg]
    · refine ⟨-1, ?_, ?_⟩
      · by_cases w : a < 7
        · simp (disch := omega) only [if_pos, if_neg, mx_svs]
        · by_cases w2 : 10 < a <;> simp (disch := omega) only [if_pos, if_neg, mx_svs]
      · have : a = 7 ∨ a = 8 ∨ a = 9 ∨ a = 10 ∨ (a ≠ 7 ∧ a ≠ 8 ∧ a ≠ 9 ∧ a ≠ 10) := by omega
        rcases this with w | w | w | w | w <;> simp (disch := omega) only [if_pos, if_neg]
  · obtain ⟨z1, z2, z3, z4, z5, -⟩ := h4 qz
    rw [z1, z2, z3, z4, z5]
    by_cases q2 : 2 ≤ a ∧ a ≤ 6
    · have : a = 2 ∨ a = 3 ∨ a = 4 ∨ a = 5 ∨ a = 6 := by omega
      rcases this with v | v | v | v | v
      · refine ⟨M 143 3, ?_, ?_⟩ <;> simp (disch := omega) only [if_pos, if_neg, mx_svs]
      · refine ⟨M 143 4, ?_, ?_⟩ <;> simp (disch := omega) only [if_pos, if_neg, mx_svs]
      · refine ⟨M 143 5, ?_, ?_⟩ <;> simp (disch := omega) only [if_pos, if_neg, mx_svs]
      · refine ⟨M 143 6, ?_, ?_⟩ <;> simp (disch := omega) only [if_pos, if_neg, mx_svs]
      · refine ⟨M 143 7, ?_, ?_⟩ <;> simp (disch := omega) only [if_pos, if_neg, mx_svs]
    · by_cases w : 7 ≤ a ∧ a ≤ 10
      · by_cases qs : M 143 1 = 1
        · obtain ⟨k1, k2, k3⟩ := h7 qs
          obtain ⟨m1, m2, m3, m4, m5⟩ := k3 (M 143 6 - 1).toNat (by omega)
          have e1 : Int.tdiv ((M 251 (M 143 6 - 1).toNat - 8) * 12 + M 252 (M 143 6 - 1).toNat) 12 = M 251 (M 143 6 - 1).toNat - 8 := by
            rw [Int.tdiv_eq_ediv_of_nonneg (by omega)]; omega
          have e2 : Int.tmod ((M 251 (M 143 6 - 1).toNat - 8) * 12 + M 252 (M 143 6 - 1).toNat) 12 = M 252 (M 143 6 - 1).toNat := by
            rw [Int.tmod_eq_emod_of_nonneg (by omega)]; omega
          have e3 : 8 + (M 251 (M 143 6 - 1).toNat - 8) = M 251 (M 143 6 - 1).toNat := by omega
          have e4 : oq_sub (M 143 6) 1 = M 143 6 - 1 := oq_sub_eq (by omega) (by omega) (by omega)
          have e5 : oq_add 8 (M 251 (M 143 6 - 1).toNat - 8) = M 251 (M 143 6 - 1).toNat := by rw [oq_add_eq (by omega) (by omega) (by omega), e3]
          rw [k2]
          have : a = 7 ∨ a = 8 ∨ a = 9 ∨ a = 10 := by omega
          rcases this with v | v | v | v
          · refine ⟨M 251 (M 143 6 - 1).toNat, ?_, ?_⟩ <;> simp (disch := omega) only [if_pos, if_neg, mx_svs, xl_eq, e4, rd_ok, m3, e1, e5]
          · refine ⟨M 252 (M 143 6 - 1).toNat, ?_, ?_⟩ <;> simp (disch := omega) only [if_pos, if_neg, mx_svs, xl_eq, e4, rd_ok, m3, e2]
          · refine ⟨M 253 (M 143 6 - 1).toNat, ?_, ?_⟩ <;> simp (disch := omega) only [if_pos, if_neg, mx_svs, xl_eq, e4, rd_ok, m4]
          · refine ⟨M 254 (M 143 6 - 1).toNat, ?_, ?_⟩ <;> simp (disch := omega) only [if_pos, if_neg, mx_svs, xl_eq, e4, rd_ok, m5]
        · have : a = 7 ∨ a = 8 ∨ a = 9 ∨ a = 10 := by omega
          rcases this with v | v | v | v <;> (refine ⟨-1, ?_, ?_⟩ <;> simp (disch := omega) only [if_pos, if_neg, mx_svs])
      · refine ⟨-1, ?_, ?_⟩
        · by_cases w1 : a < 7
          · simp (disch := omega) only [if_pos, if_neg, mx_svs]
          · simp (disch := omega) only [if_pos, if_neg, mx_svs]
        · simp (disch := omega) only [if_pos, if_neg]
