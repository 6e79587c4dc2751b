/- PARSE: from the tokens of both sides -/
/-- the kinds of the class's tokens, 0 behind the last -/
def kn_T (u : ms_M) (i : Nat) : Int := if (i : Int) < u 2 3 then u 3 i else 0
theorem tkf_b {A : Nat → Int} {n : Nat} {u v : ms_M} (H : TKFn A n u v) : TBn (kn_T u) (u 2 3).toNat ∧ TBc (kn_T u) (u 4) (u 2 3).toNat u ∧ TBq (kn_T u) (u 4) (u 2 3).toNat v ∧ GPo (kn_T u) (u 4) (u 2 3).toNat := by
  obtain ⟨-, -, ⟨t1, t2⟩, ⟨⟨c1, c2⟩, c3⟩, e4, tr, -, po⟩ := H
  have n3 := tr.1
  have ki : ∀ i : Nat, (i : Int) < u 2 3 → kn_T u i = u 3 i := fun i hi => by unfold kn_T; rw [if_pos hi]
  have ko : ∀ i : Nat, ¬ (i : Int) < u 2 3 → kn_T u i = 0 := fun i hi => by unfold kn_T; rw [if_neg hi]
  have mo : ∀ d i : Nat, (i : Int) + d + 1 = u 2 3 → 0 ≤ u 4 i ∧ u 4 i ≤ (n : Int) := by
    intro d
    induction d with
    | zero => intro i hi; have q := po.2 i (by omega); exact ⟨q.1, by omega⟩
    | succ d ih => intro i hi; have q := po.1 i (by omega); have q2 := ih (i + 1) (by omega); exact ⟨q.1, by omega⟩
  refine ⟨⟨fun i hi => ko i (by omega), by omega, ?_, fun i => ?_⟩, ⟨by omega, fun i hi => ⟨(ki i (by omega)).symm, rfl⟩⟩, ⟨fun i hi => ?_, fun i hi => (t2 i (by omega)).2.1, fun i i1 i2 => ?_, fun i i1 => ?_⟩, (mo (u 2 3 - 1).toNat 0 (by omega)).1, fun i hi => ?_, fun i hi => ?_⟩
  · rw [ki ((u 2 3).toNat - 1) (by omega), show (u 2 3).toNat - 1 = (u 2 3 - 1).toNat by omega]; exact c3
  · by_cases z : (i : Int) < u 2 3
    · rw [ki i z]; exact (t2 i z).2.2.1
    · rw [ko i z]; exact .inl rfl
  · by_cases z : (i : Int) < u 2 3
    · rw [ki i z]; exact (t2 i z).1
    · rw [ko i z, e4 i (by omega) (by omega)]; rfl
  · have z : (i : Int) < u 2 3 := Decidable.byContradiction fun z => by rw [ko i z] at i1; omega
    rw [ki i z] at i1 i2 ⊢; exact (t2 i z).2.2.2.2.1 i1 i2
  · have z : (i : Int) < u 2 3 := Decidable.byContradiction fun z => by rw [ko i z] at i1; omega
    rw [ki i z] at i1 ⊢; exact (t2 i z).2.2.2.2.2.1 i1
  · have q := po.1 i (by omega)
    rw [ki i (by omega), ki (i + 1) (by omega)]; exact ⟨q.2.1, q.2.2.1⟩
  · have q := mo (u 2 3 - 1 - i).toNat i (by omega); omega
