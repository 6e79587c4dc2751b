/- THE START HAS THE INVARIANT OF BOTH (behind 39.y100 and all of 39.zzz..) -/
def iz_Z : Bool := match in_0 with
  | some (_, _, h, _, _) => (decide (32 ≤ rd_H h 2 9) && (List.range (rd_H h 2 9).toNat).all (fun k => decide (rd_H h 7 k ≤ rd_H h 7 (k + 1)))) && (((List.range 8).all (fun k => decide (rd_H h (rd_H h 60 k).toNat 12 = 0) && (decide (rd_H h 60 k ≠ rd_H h 56 2) && (List.range 8).all (fun j => Nat.beq j k || decide (rd_H h 60 j ≠ rd_H h 60 k))))) && ((decide (rd_H h 56 3 = 0 ∧ rd_H h 56 4 = 0 ∧ rd_H h 143 1 = 0 ∧ rd_H h 143 7 = 0 ∧ rd_H h 160 98 = 0 ∧ rd_H h 160 99 = 0 ∧ rd_H h 160 138 = 0 ∧ rd_H h 160 143 = 0 ∧ rd_H h 160 88 = 0)) && ((List.range 3002).all (fun t => decide (rd_H h 164 t + rd_H h 165 t ≤ 3000 ∧ rd_H h 165 t ≤ 12)) && ((List.range 800).all (fun t => decide (rd_H h 188 t + rd_H h 189 t ≤ 1500)) && (List.range 3000).all (fun t => decide (rd_H h 219 t ≤ 0 ∧ rd_H h 220 t ≤ 0))))))
  | none => false
theorem iz_z : iz_Z = true := by decide +kernel
theorem BVa_0 {nn : Nat} : BVa nn 0 0 M_0 := by
  have h := iz_z
  unfold iz_Z at h
  rw [in_all.1] at h
  have h : _ = true := h
  obtain ⟨h1, h⟩ := Bool.and_eq_true_iff.mp h
  obtain ⟨h2, h⟩ := Bool.and_eq_true_iff.mp h
  obtain ⟨h3, h⟩ := Bool.and_eq_true_iff.mp h
  obtain ⟨h4, h⟩ := Bool.and_eq_true_iff.mp h
  obtain ⟨h5, h6⟩ := Bool.and_eq_true_iff.mp h
  obtain ⟨a1, a2⟩ := Bool.and_eq_true_iff.mp h1
  have h3 := of_decide_eq_true h3
  have R : ∀ {c k : Nat}, c < 256 → M_0 c k = rd_H h_0 c k := m0_rd
  have V := VS_0
  have I : ∀ k : Nat, k < 8 → 0 ≤ M_0 60 k ∧ kc_O (M_0 60 k).toNat = 3 := V.2.2.2.2.1
  rw [← R (by decide), ← R (by decide), ← R (by decide), ← R (by decide), ← R (by decide), ← R (by decide), ← R (by decide), ← R (by decide), ← R (by decide)] at h3
  obtain ⟨e3, e4, e1, e7, f98, f99, f138, f143, f88⟩ := h3
  have N : NM_ M_0 := by
    unfold NM_
    refine ⟨by rw [R (by decide)]; exact of_decide_eq_true a1, fun k hk => ?_⟩
    rw [R (by decide)] at hk
    rw [R (by decide), R (by decide)]
    exact of_decide_eq_true (List.all_eq_true.mp a2 k (List.mem_range.mpr (by omega)))
  have S8 : ∀ k : Nat, k < 8 → M_0 (M_0 60 k).toNat 12 = 0 ∧ M_0 60 k ≠ M_0 56 2 ∧ ∀ j : Nat, j < 8 → j ≠ k → M_0 60 j ≠ M_0 60 k := by
    intro k hk
    have z := List.all_eq_true.mp h2 k (List.mem_range.mpr hk)
    obtain ⟨z1, z⟩ := Bool.and_eq_true_iff.mp z
    obtain ⟨z2, z3⟩ := Bool.and_eq_true_iff.mp z
    have z1 := of_decide_eq_true z1
    have z2 := of_decide_eq_true z2
    have i := (I k hk).2
    refine ⟨?_, ?_, fun j hj hjk => ?_⟩
    · rw [R (kc_256 i), R (by decide)]; exact z1
    · rw [R (by decide), R (by decide)]; exact z2
    · have z := List.all_eq_true.mp z3 j (List.mem_range.mpr hj)
      rw [Bool.or_eq_true] at z
      rcases z with z | z
      · exact absurd (Nat.eq_of_beq_eq_true z) hjk
      · rw [R (by decide), R (by decide)]; exact of_decide_eq_true z
  have S : SI_ M_0 := by
    refine ⟨fun k hk m hm => ?_, fun j k hj hk hjk => (S8 k hk).2.2 j hj hjk, fun k hk => (S8 k hk).2.1⟩
    rw [(S8 k hk).1] at hm; omega
  refine ⟨⟨⟨V, N, S, .inl (by omega), by omega⟩, fun q => by omega, fun q => absurd e4 q, fun k hk => by omega⟩, ⟨⟨fun t ht => ?_, fun m hm => ?_⟩, fun t ht => ?_, fun i hi => ?_, by omega⟩, fun c c0 c1 => by omega, fun q => absurd f99 q, fun q => by omega, by omega⟩
  · have z := of_decide_eq_true (List.all_eq_true.mp h4 t (List.mem_range.mpr (by omega)))
    rw [R (by decide), R (by decide)]; exact z.1
  · have z := of_decide_eq_true (List.all_eq_true.mp h5 m (List.mem_range.mpr (by omega)))
    rw [R (by decide), R (by decide)]; exact z
  · have z := of_decide_eq_true (List.all_eq_true.mp h4 t (List.mem_range.mpr ht.1))
    rw [R (by decide)]; exact z.2
  · have z := of_decide_eq_true (List.all_eq_true.mp h6 i (List.mem_range.mpr hi))
    rw [f88, R (by decide), R (by decide)]; exact z
