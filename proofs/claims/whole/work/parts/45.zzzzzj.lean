/- compile, whole: the bodies of all methods -/
section
variable {X : BCx} {N0 q0 b0 : Int} {pp qq aa bb : Nat → Int}
theorem g_mbo (ME : MEM (bK X) (bB X) N0 0 (bM X) 0 q0 0 b0 pp qq aa bb) (b9 : b0 ≤ 8999) (q4 : q0 ≤ 4000) (eT : bT X = bB X) (M : MTB (bV X) (bC X) (bn X) (bM X) (bq X) (bA X) (bB X)) : ∃ p q : Nat → Nat, MBO X aa bb p q := by
  have C0 : ∀ j : Nat, ∃ x : Nat, j < bM X → 0 < bB X 182 j → pp j ≤ (x : Int) ∧ (x : Int) ≤ qq j ∧ LKn 0 (bK X) (bB X) 8 0 0 (aa j) (bb j) (x : Int) (qq j) (bB X 190 j) ∧ bB X 169 (bB X 190 j).toNat = (x : Int) := fun j => by
    by_cases z : j < bM X ∧ 0 < bB X 182 j
    · obtain ⟨m1, m2, m3, m4, -⟩ := ME j (Nat.zero_le _) z.1
      obtain ⟨-, -, x, x1, x2, x3, x4⟩ := rmb_m (by omega) m1 m4.1 z.2
      have e : x = ((x.toNat : Nat) : Int) := by omega
      refine ⟨x.toNat, fun _ _ => ?_⟩
      rw [← e]; exact ⟨x1, x2, x3, x4⟩
    · exact ⟨0, fun h1 h2 => absurd ⟨h1, h2⟩ z⟩
  obtain ⟨p, hp⟩ := Classical.axiomOfChoice C0
  refine ⟨p, fun j => (qq j).toNat, fun j hj m => ?_, fun i j ij hj mi mj => ?_⟩
  · obtain ⟨m1, m2, m3, m4, -⟩ := ME j (Nat.zero_le _) hj
    obtain ⟨a1, a2, -⟩ := rmb_m (by omega) m1 m4.1 m
    obtain ⟨x1, x2, x3, x4⟩ := hp j hj m
    have e : (((qq j).toNat : Nat) : Int) = qq j := by omega
    refine ⟨?_, by omega, ⟨?_, ?_⟩, a1, fun k hk ms => ?_, a2⟩
    · show LKn 0 (bK X) (bT X) 8 0 0 (aa j) (bb j) (p j : Int) (((qq j).toNat : Nat) : Int) (bB X 190 j)
      rw [eT, e]; exact x3
    · show p j ≤ (qq j).toNat
      omega
    · show (qq j).toNat ≤ 4000
      omega
    · obtain ⟨y1, y2, y3, y4, y5, y6⟩ := M.2.2.1 j k hj hk ms
      exact y5.trans x4
  · obtain ⟨-, n2, -⟩ := ME i (Nat.zero_le _) (by omega)
    obtain ⟨m1, m2, m3, m4, m5⟩ := ME j (Nat.zero_le _) hj
    obtain ⟨x1, x2, x3, x4⟩ := hp j hj mj
    obtain ⟨o1, o2⟩ := m5 i (Nat.zero_le _) ij
    refine ⟨o2, ?_⟩
    show (qq i).toNat ≤ p j
    omega
end
