/- jumps of both sides held together -/
section
variable {nC : Nat} {h g m w : ms_M} {PB : Nat → Prop}
theorem cb_jump {o n l : Int} (C : CBY PB h m) (A : CJu o n h g) (B : RJu o l m w) (hv : in_R o) : CBY PB g w := by
  obtain ⟨⟨c1, c2⟩, c3⟩ := C
  obtain ⟨a1, -, ⟨a2, a3, a4⟩, a5⟩ := A
  obtain ⟨-, b1, -, -, -, ⟨b2, b3, b4⟩, b5⟩ := B
  have z0 : in_R 0 := by unfold in_R; omega
  have g5 := a5 45 5 (by omega) (by omega)
  refine ⟨by omega, fun q l x hx p => ?_⟩
  rw [g5] at q
  by_cases q0 : (x : Int) = h 34 1
  · rw [show x = (h 34 1).toNat by omega, a2 (by omega), c1, b2 (by omega)]
    exact by_rel hv
  · by_cases q1 : (x : Int) = h 34 1 + 1
    · rw [show x = (h 34 1).toNat + 1 by omega, a3 (by omega), c1, b3 (by omega)]
      exact by_rel z0
    · by_cases q2 : (x : Int) = h 34 1 + 2
      · rw [show x = (h 34 1).toNat + 2 by omega, a4 (by omega), c1, b4 (by omega)]
        exact by_rel z0
      · rw [b5 206 x (by omega) (by omega) (by omega), a5 35 x (by omega) (by omega)]
        exact c3 q (by omega) x (by omega) p
theorem sk_jump {o n : Int} (S : SKJ nC h m) (A : CJu o n h g) (hn : 0 ≤ n ∧ n ≤ h 34 3) (e7 : w 160 70 = m 160 70 - n) (e2 : ∀ cc x : Nat, (cc = 160 ∧ x = 71) ∨ cc = 207 → w cc x = m cc x) : SKJ nC g w := by
  obtain ⟨⟨s1, s2, s3, s4⟩, s5⟩ := S
  obtain ⟨-, a1, -, a2⟩ := A
  have a3 : g 34 3 = h 34 3 - n := by rw [a1]; split <;> omega
  have a4 : g 34 4 = h 34 4 := a2 34 4 (by omega) (by omega)
  refine ⟨⟨by omega, by rw [a4, e2 160 71 (by omega)]; exact s2, by omega, by omega⟩, fun i hi h2 => ?_⟩
  rw [e2 207 i (by omega), a2 36 i (by omega) (by omega)]
  exact s5 i (by omega) h2
theorem jl_jump {o l : Int} {L : List (Int × Int)} (J : JLs m L) (B : RJu o l m w) : JLs w (L ++ [(m 160 68, l)]) := by
  obtain ⟨j1, j2⟩ := J
  obtain ⟨-, -, b1, b2, b3, -, b5⟩ := B
  have lk : (L ++ [(m 160 68, l)]).length = L.length + 1 := by rw [List.length_append]; rfl
  refine ⟨by rw [lk]; omega, fun k hk => ?_⟩
  rw [lk] at hk
  by_cases q : k = L.length
  · rw [q, gp_e]
    rw [show (m 160 87).toNat = L.length by omega] at b2 b3
    exact ⟨b2, b3⟩
  · rw [gp_l L k (by omega), b5 217 k (by omega) (by omega) (by omega), b5 218 k (by omega) (by omega) (by omega)]
    exact j2 k (by omega)
theorem jl_k {L : List (Int × Int)} (J : JLs m L) (e : ∀ cc x : Nat, (cc = 160 ∧ x = 87) ∨ cc = 217 ∨ cc = 218 → w cc x = m cc x) : JLs w L :=
  ⟨by rw [e 160 87 (by omega)]; exact J.1, fun k hk => by rw [e 217 k (by omega), e 218 k (by omega)]; exact J.2 k hk⟩
end
