/- S of both sides: one after the other -/
/-- as SKk, perhaps nothing -/
def SKl (X : BCx) (a b : Int) (p q : Nat) (bb : Int) (h r u v : ms_M) : Prop := (u 2 10 = (q : Int) ∧ q < bc X ∧ p ≤ q ∧ u 2 11 = 0 ∧ v 160 9 = 0) ∧ (BX X u v ∧ CFs h u ∧ RFz a b r v) ∧ (FRc u ∧ u 34 1 + 20 * (p : Int) ≤ h 34 1 + 20 * (q : Int) ∧ u 34 3 = 0 ∧ u 49 10 = 0 ∧ u 49 18 ≤ (q : Int)) ∧ 5 * u 34 7 + (p : Int) ≤ 5 * h 34 7 + (q : Int) ∧ 6 * u 33 12 + bP X p ≤ 6 * h 33 12 + bP X q ∧ LPx bb u v
section
variable {nn : Nat} {X : BCx} {dp i a b a1 b1 a2 b2 e s bb lb lh d d1 o en k ix : Int} {p q t uu : Nat} {h g u r w w1 m z v vF : ms_M} {PB : Nat → Prop} {WL : Int → Int → Prop} {L Z1 : List (Int × Int)}
theorem skl_k (K : SKk X a b p q bb h r u v) : SKl X a b p q bb h r u v := ⟨⟨K.1.1, K.1.2.1, by have := K.1.2.2.1; omega, K.1.2.2.2⟩, K.2⟩
theorem skl_0 (Q : SPq X d p bb h r) : SKl X a b p p bb h r h r := ⟨⟨Q.1.2.1.1, Q.1.2.1.2.1, Nat.le_refl _, Q.1.2.1.2.2.1, Q.1.2.1.2.2.2⟩, ⟨Q.1.1, cfs_r, rfs_r⟩, ⟨Q.1.2.2.1.1, Int.le_refl _, Q.2.1.1, Q.2.1.2.1, Q.1.2.2.2.2.2⟩, Int.le_refl _, Int.le_refl _, Q.2.2.1.1⟩
theorem skl_t (A : SKl X a1 b1 p t bb h r g w) (B : SKl X a2 b2 t q bb g w u v) (h1 : a ≤ a1 ∧ b1 ≤ b) (h2 : a ≤ a2 ∧ b2 ≤ b) : SKl X a b p q bb h r u v := by
  obtain ⟨x1, ⟨-, x3, x4⟩, ⟨-, x6, -⟩, x7, x8, -⟩ := A
  obtain ⟨⟨y0, y0', y0'', y0'''⟩, ⟨y2, y3, y4⟩, ⟨y5, y6, y9⟩, y7, y8, y10⟩ := B
  exact ⟨⟨y0, y0', by have := x1.2.2.1; omega, y0'''⟩, ⟨y2, cfs_t x3 y3, rfs_t x4 y4 h1 h2⟩, ⟨y5, by omega, y9⟩, by omega, by omega, y10⟩
theorem spq_n (Q : SPq X d p bb h r) (K : SKl X a b p t bb h r g v) : SPq X d t bb g v := by
  obtain ⟨⟨B, ⟨q1, q2, q3, q4⟩, ⟨f1, f2, f3⟩, o1⟩, ⟨h3, h10, r57, h7⟩, ⟨LP, l54, br⟩, ⟨vR, nR⟩, b51, rR⟩ := Q
  obtain ⟨⟨k1, k2, k3, k4, k5⟩, ⟨k6, k7, k8⟩, ⟨k9, k10, k11, k12, k13⟩, k14, k15, k16⟩ := K
  have c8 : g 33 8 = h 33 8 := k7.1 33 8 (by omega)
  have c51 : v 160 51 = r 160 51 := k8.1 160 51 (by omega)
  have l1 := k7.2.2.2.2.1
  exact ⟨⟨k6, ⟨k1, k2, k4, k5⟩, ⟨k9, ⟨by omega, by omega⟩, by omega, by omega⟩, by omega, by omega, k13⟩, ⟨k11, k12, by rw [k8.2.2.1.2.1]; exact r57, by omega⟩, ⟨k16, by rw [k8.2.2.1.1]; exact l54, by omega⟩, by rw [c8]; exact ⟨vR, nR⟩, by rw [c51]; exact b51, by rw [c51, k8.1 187 _ (by omega), c8]; exact rR⟩
theorem spq_d (Q : SPq X d p bb h r) (hd : d ≤ d1) : SPq X d1 p bb h r := ⟨epr_d Q.1 hd, Q.2.1, ⟨Q.2.2.1.1, by have := Q.2.2.1.2.1; omega, Q.2.2.1.2.2⟩, Q.2.2.2⟩
/-- ahead of what stands behind an S -/
theorem mgi_n (I : MGi X PB WL L lb lh a b p q h r vF m) (LP : LPx bb h r) (K : SKl X a1 b1 p t bb h r g v) (Z : MGz X PB WL L lb lh h r g w1 Z1) (F : MWf m w1 ∧ m 160 88 ≤ w1 160 88 ∧ w1 160 88 + 4 * (p : Int) ≤ m 160 88 + 4 * (t : Int)) (A2 : AN a2 b2 vF w1) : MGi X (PBz PB lb Z1) (WLz WL (h 33 9) (h 33 10) lb Z1) (L ++ Z1) lb lh a2 b2 t q g v vF w1 := by
  obtain ⟨-, ⟨m57, m88, m54, m51⟩, LB, WN, CO⟩ := I
  obtain ⟨-, ⟨-, k7, k8⟩, -⟩ := K
  have v54 := k8.2.2.1.1
  have l7 := k7.2.1.2.2.2
  have LP10 : 0 < r 160 54 → h 33 10 ≤ h 34 7 := fun y => by
    rcases LP.2 with z | z
    · omega
    · exact z.2.2.1.2
  have Z0 : ∀ j, (j, lb) ∈ Z1 → 0 < r 160 54 ∨ r 160 54 < 0 := fun j hj => by
    by_cases y : r 160 54 = 0
    · rw [Z.2.2.1 y] at hj; exact nomatch hj
    · omega
  have LPn : 0 ≤ r 160 54 := by
    rcases LP.2 with z | z <;> omega
  refine ⟨⟨Z.1, A2⟩, ⟨by rw [F.1.1.1]; exact m57, by omega, by rw [F.1.1.2.1, m54, v54], by rw [F.1.1.2.2, m51]; exact (k8.1 160 51 (by omega)).symm⟩, fun y => ?_, fun p' n' y => ?_, fun y k' y2 => ?_⟩
  · rw [v54] at y ⊢
    obtain ⟨b1, b2, b3, b4⟩ := LB y
    have f := F.1.2.2 (r 160 54).toNat (by rw [m54]; omega)
    exact ⟨f.1.trans b1, f.2.trans b2, b3, by omega⟩
  · rcases y with y | ⟨⟨j, y1⟩, y2, y3⟩
    · have := WN p' n' y; omega
    · have := Z0 j y1
      have := LP10 (by omega)
      omega
  · rw [v54] at y
    rw [k7.2.1.1] at y2
    rw [k7.2.1.2.1]
    rcases y2 with y2 | ⟨-, -, y3⟩
    · exact CO y k' y2
    · exact y3
end
