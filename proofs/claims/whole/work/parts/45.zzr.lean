/- the tree's tokens; a call behind a point, whole -/
section
variable {K : Nat → Int} {T T2 : ms_M}
theorem lk_pq {s : Nat} {d i l a b p q e : Int} (H : LKn d K T s i l a b p q e) : 0 ≤ p → (if s = 7 then p else p + 1) ≤ q := by
  refine lk_ind (fun d s i l a b p q e => 0 ≤ p → (if s = 7 then p else p + 1) ≤ q) ?_ ?_ ?_ ?_ ?_ ?_ ?_ ?_ ?_ ?_ ?_ ?_ ?_ ?_ ?_ ?_ ?_ ?_ ?_ ?_ ?_ ?_ ?_ ?_ ?_ ?_ ?_ ?_ ?_ ?_ ?_ ?_ ?_ ?_ ?_ ?_ ?_ ?_ H
  · intro d i a b p q e h0 h1
    intro hp
    have c0 : p + 1 ≤ q := h0.2 (by omega)
    show p + 1 ≤ q
    omega
  · intro d ix iy iz t u y a b p q e h0 h1 h2 h3 h4 h5 h6 h7 h8 h9 h10
    intro hp
    have c3 : p + 1 ≤ t := h3.2 (by omega)
    have c6 : (t + 1) + 1 ≤ u := h6.2 (by omega)
    have c9 : (u + 1) + 1 ≤ q := h9.2 (by omega)
    show p + 1 ≤ q
    omega
  · intro d i l a b p q e h0
    intro hp
    have c0 : p + 1 ≤ q := h0.2 (by omega)
    show p + 1 ≤ q
    omega
  · intro d ix iy l s t a b p q e h0 h1 h2 h3 h4 h5 h6
    intro hp
    have c3 : p + 1 ≤ t := h3.2 (by omega)
    have c5 : (t + 1) + 1 ≤ q := h5.2 (by omega)
    show p + 1 ≤ q
    omega
  · intro d ix l t a b p q e h0 h1 h2 h3 h4
    intro hp
    have c3 : p + 1 ≤ t := h3.2 (by omega)
    show p + 1 ≤ q
    omega
  · intro d ix a b p q e h0 h1 h2 h3
    intro hp
    have c2 : (p + 1) + 1 ≤ q := h2.2 (by omega)
    show p + 1 ≤ q
    omega
  · intro d ix a b p q e h0 h1 h2 h3
    intro hp
    have c2 : (p + 3) + 1 ≤ q := h2.2 (by omega)
    show p + 1 ≤ q
    omega
  · intro d i a b p q e h0 h1
    intro hp
    have c0 : p + 1 ≤ q := h0.2 (by omega)
    show p + 1 ≤ q
    omega
  · intro d a b p q e h0 h1 h2
    intro hp
    show p + 1 ≤ q
    omega
  · intro d a b p q e h0 h1 h2 h3
    intro hp
    show p + 1 ≤ q
    omega
  · intro d a b p q e h0 h1 h2 h3 h4
    intro hp
    have c3 : (p + 1) + 1 ≤ q := h3.2 (by omega)
    show p + 1 ≤ q
    omega
  · intro d i t a b p q e h0 h1
    intro hp
    have c1 : (p + 1) + 1 ≤ t := h1.2 (by omega)
    show p + 1 ≤ q
    omega
  · intro d ix t a b p q e h0 h1 h2 h3 h4 h5
    intro hp
    have c3 : (p + 3) + 1 ≤ t := h3.2 (by omega)
    show p + 1 ≤ q
    omega
  · intro d a b p q e h0 h1 h2 h3
    intro hp
    show p + 1 ≤ q
    omega
  · intro d ix t a b p q e h0 h1 h2 h3 h4 h5
    intro hp
    have c3 : (p + 3) + 1 ≤ t := h3.2 (by omega)
    show p + 1 ≤ q
    omega
  · intro d ix t a b p q e h0 h1 h2 h3 h4
    intro hp
    have c3 : p + 1 ≤ t := h3.2 (by omega)
    show p + 1 ≤ q
    omega
  · intro d ix t a b p q e h0 h1 h2 h3 h4 h5
    intro hp
    have c3 : p + 1 ≤ t := h3.2 (by omega)
    have c5 : (t + 2) + 1 ≤ q := h5.2 (by omega)
    show p + 1 ≤ q
    omega
  · intro d ix iy t u a b p q e h0 h1 h2 h3 h4 h5 h6
    intro hp
    have c3 : p + 1 ≤ t := h3.2 (by omega)
    have c5 : (t + 1) + 1 ≤ u := h5.2 (by omega)
    show p + 1 ≤ q
    omega
  · intro d a b p q h0
    intro hp
    show p + 1 ≤ q
    omega
  · intro d a b p q e h0 h1
    intro hp
    have c1 : (p + 1) + 1 ≤ q := h1.2 (by omega)
    show p + 1 ≤ q
    omega
  · intro d ix t a b p q e h0 h1 h2 h3
    intro hp
    have c1 : p + 1 ≤ t := h1.2 (by omega)
    show p + 1 ≤ q
    omega
  · intro d ix t a b p q e h0 h1 h2 h3 h4
    intro hp
    have c1 : p + 1 ≤ t := h1.2 (by omega)
    have c4 : (t + 1) + 1 ≤ q := h4.2 (by omega)
    show p + 1 ≤ q
    omega
  · intro d a b p q e h0
    intro hp
    have c0 : p + 1 ≤ q := h0.2 (by omega)
    show p + 1 ≤ q
    omega
  · intro d ix t u bs rw a b p q e h0 h1 h2 h3 h4 h5
    intro hp
    have ty := h2.1
    unfold TYk at ty
    have c3 : (t + 2) + 1 ≤ u := h3.2 (by omega)
    show p + 1 ≤ q
    omega
  · intro d ix t y a b p q e h0 h1 h2 h3 h4 h5 h6 h7
    intro hp
    have c4 : (p + 2) + 1 ≤ t := h4.2 (by omega)
    have c7 : (t + 1) + 1 ≤ q := h7.2 (by omega)
    show p + 1 ≤ q
    omega
  · intro d ix t u y z a b p q e h0 h1 h2 h3 h4 h5 h6 h7 h8
    intro hp
    have c4 : (p + 2) + 1 ≤ t := h4.2 (by omega)
    have c7 : (t + 1) + 1 ≤ u := h7.2 (by omega)
    have c8 : (u + 1) + 1 ≤ q := h8.2 (by omega)
    show p + 1 ≤ q
    omega
  · intro d ix t y a b p q e h0 h1 h2 h3 h4 h5 h6 h7 h8
    intro hp
    have c5 : (p + 2) + 1 ≤ t := h5.2 (by omega)
    have c8 : (t + 1) + 1 ≤ q := h8.2 (by omega)
    show p + 1 ≤ q
    omega
  · intro d a b p q e h0 h1 h2 h3
    intro hp
    show p + 1 ≤ q
    omega
  · intro d a b p q e h0 h1 h2 h3
    intro hp
    show p + 1 ≤ q
    omega
  · intro d ix t a b p q e h0 h1 h2 h3 h4 h5
    intro hp
    have c3 : (p + 1) + 1 ≤ t := h3.2 (by omega)
    show p + 1 ≤ q
    omega
  · intro d ix t a b p q e h0 h1 h2 h3 h4 h5
    intro hp
    have c3 : (p + 1) + 1 ≤ t := h3.2 (by omega)
    show p + 1 ≤ q
    omega
  · intro d ix t a b p q e h0 h1 h2 h3 h4 h5
    intro hp
    have c3 : (p + 2) + 1 ≤ t := h3.2 (by omega)
    show p + 1 ≤ q
    omega
  · intro d t y a b p q e h0 h1 h2 h3 h4 h5 h6
    intro hp
    have c4 : (p + 1) + 1 ≤ t := h4.2 (by omega)
    have c6 : (t + 5) + 1 ≤ q := h6.2 (by omega)
    show p + 1 ≤ q
    omega
  · intro d ix t a b p q e h0 h1 h2 h3 h4 h5
    intro hp
    have c3 : p + 1 ≤ t := h3.2 (by omega)
    show p + 1 ≤ q
    omega
  · intro d ix iy t u y a b p q e h0 h1 h2 h3 h4 h5 h6 h7 h8 h9
    intro hp
    have c4 : p + 1 ≤ t := h4.2 (by omega)
    have c7 : (t + 1) + 1 ≤ u := h7.2 (by omega)
    show p + 1 ≤ q
    omega
  · intro d a b p h0 h1
    intro hp
    show p ≤ p
    omega
  · intro d t y a b p q e h0 h1 h2 h3
    intro hp
    have c2 : p + 1 ≤ t := h2.2 (by omega)
    have c3 : t ≤ q := h3.2 (by omega)
    show p ≤ q
    omega
  · intro d t a b p q e h0 h1 h2 h3 h4
    intro hp
    have c3 : (p + 1) ≤ t := h3.2 (by omega)
    show p + 1 ≤ q
    omega
theorem lk_fk {s : Nat} {d i l a b p q e : Int} (H : LKn d K T s i l a b p q e) : (s ≤ 3 ∨ s = 5) → ¬ K p.toNat = 41 ∧ ¬ K p.toNat = 46 := by
  refine lk_ind (fun d s i l a b p q e => (s ≤ 3 ∨ s = 5) → ¬ K p.toNat = 41 ∧ ¬ K p.toNat = 46) ?_ ?_ ?_ ?_ ?_ ?_ ?_ ?_ ?_ ?_ ?_ ?_ ?_ ?_ ?_ ?_ ?_ ?_ ?_ ?_ ?_ ?_ ?_ ?_ ?_ ?_ ?_ ?_ ?_ ?_ ?_ ?_ ?_ ?_ ?_ ?_ ?_ ?_ H
  · intro d i a b p q e h0 h1
    exact fun _ => h0.2 (by decide)
  · intro d ix iy iz t u y a b p q e h0 h1 h2 h3 h4 h5 h6 h7 h8 h9 h10
    exact fun _ => h3.2 (by decide)
  · intro d i l a b p q e h0
    exact fun _ => h0.2 (by decide)
  · intro d ix iy l s t a b p q e h0 h1 h2 h3 h4 h5 h6
    exact fun _ => h3.2 (by decide)
  · intro d ix l t a b p q e h0 h1 h2 h3 h4
    exact fun _ => h3.2 (by decide)
  · intro d ix a b p q e h0 h1 h2 h3
    exact fun _ => by omega
  · intro d ix a b p q e h0 h1 h2 h3
    exact fun _ => by have := h1.1.1; omega
  · intro d i a b p q e h0 h1
    exact fun _ => h0.2 (by decide)
  · intro d a b p q e h0 h1 h2
    exact fun _ => by omega
  · intro d a b p q e h0 h1 h2 h3
    exact fun _ => by omega
  · intro d a b p q e h0 h1 h2 h3 h4
    exact fun _ => by omega
  · intro d i t a b p q e h0 h1
    exact fun _ => by omega
  · intro d ix t a b p q e h0 h1 h2 h3 h4 h5
    exact fun _ => by omega
  · intro d a b p q e h0 h1 h2 h3
    exact fun _ => by omega
  · intro d ix t a b p q e h0 h1 h2 h3 h4 h5
    exact fun _ => by omega
  · intro d ix t a b p q e h0 h1 h2 h3 h4
    exact fun _ => h3.2 (by decide)
  · intro d ix t a b p q e h0 h1 h2 h3 h4 h5
    exact fun _ => h3.2 (by decide)
  · intro d ix iy t u a b p q e h0 h1 h2 h3 h4 h5 h6
    exact fun _ => h3.2 (by decide)
  · intro d a b p q h0
    exact fun z => absurd z (by decide)
  · intro d a b p q e h0 h1
    exact fun z => absurd z (by decide)
  · intro d ix t a b p q e h0 h1 h2 h3
    exact fun _ => h1.2 (by decide)
  · intro d ix t a b p q e h0 h1 h2 h3 h4
    exact fun _ => h1.2 (by decide)
  · intro d a b p q e h0
    exact fun z => absurd z (by decide)
  · intro d ix t u bs rw a b p q e h0 h1 h2 h3 h4 h5
    exact fun z => absurd z (by decide)
  · intro d ix t y a b p q e h0 h1 h2 h3 h4 h5 h6 h7
    exact fun z => absurd z (by decide)
  · intro d ix t u y z a b p q e h0 h1 h2 h3 h4 h5 h6 h7 h8
    exact fun z => absurd z (by decide)
  · intro d ix t y a b p q e h0 h1 h2 h3 h4 h5 h6 h7 h8
    exact fun z => absurd z (by decide)
  · intro d a b p q e h0 h1 h2 h3
    exact fun z => absurd z (by decide)
  · intro d a b p q e h0 h1 h2 h3
    exact fun z => absurd z (by decide)
  · intro d ix t a b p q e h0 h1 h2 h3 h4 h5
    exact fun z => absurd z (by decide)
  · intro d ix t a b p q e h0 h1 h2 h3 h4 h5
    exact fun z => absurd z (by decide)
  · intro d ix t a b p q e h0 h1 h2 h3 h4 h5
    exact fun z => absurd z (by decide)
  · intro d t y a b p q e h0 h1 h2 h3 h4 h5 h6
    exact fun z => absurd z (by decide)
  · intro d ix t a b p q e h0 h1 h2 h3 h4 h5
    exact fun z => absurd z (by decide)
  · intro d ix iy t u y a b p q e h0 h1 h2 h3 h4 h5 h6 h7 h8 h9
    exact fun z => absurd z (by decide)
  · intro d a b p h0 h1
    exact fun z => absurd z (by decide)
  · intro d t y a b p q e h0 h1 h2 h3
    exact fun z => absurd z (by decide)
  · intro d t a b p q e h0 h1 h2 h3 h4
    exact fun z => absurd z (by decide)
theorem lk_ar {s : Nat} {d i l a b p q e : Int} (H : LKn d K T s i l a b p q e) : (s = 4 ∨ s = 5) → 0 ≤ p → p + 2 ≤ q ∧ K (q - 1).toNat = 41 := by
  refine lk_ind (fun d s i l a b p q e => (s = 4 ∨ s = 5) → 0 ≤ p → p + 2 ≤ q ∧ K (q - 1).toNat = 41) ?_ ?_ ?_ ?_ ?_ ?_ ?_ ?_ ?_ ?_ ?_ ?_ ?_ ?_ ?_ ?_ ?_ ?_ ?_ ?_ ?_ ?_ ?_ ?_ ?_ ?_ ?_ ?_ ?_ ?_ ?_ ?_ ?_ ?_ ?_ ?_ ?_ ?_ H
  · intro d i a b p q e h0 h1
    exact fun z => absurd z (by decide)
  · intro d ix iy iz t u y a b p q e h0 h1 h2 h3 h4 h5 h6 h7 h8 h9 h10
    exact fun z => absurd z (by decide)
  · intro d i l a b p q e h0
    exact fun z => absurd z (by decide)
  · intro d ix iy l s t a b p q e h0 h1 h2 h3 h4 h5 h6
    exact fun z => absurd z (by decide)
  · intro d ix l t a b p q e h0 h1 h2 h3 h4
    exact fun z => absurd z (by decide)
  · intro d ix a b p q e h0 h1 h2 h3
    exact fun z => absurd z (by decide)
  · intro d ix a b p q e h0 h1 h2 h3
    exact fun z => absurd z (by decide)
  · intro d i a b p q e h0 h1
    exact fun z => absurd z (by decide)
  · intro d a b p q e h0 h1 h2
    exact fun z => absurd z (by decide)
  · intro d a b p q e h0 h1 h2 h3
    exact fun z => absurd z (by decide)
  · intro d a b p q e h0 h1 h2 h3 h4
    exact fun z => absurd z (by decide)
  · intro d i t a b p q e h0 h1
    exact fun z => absurd z (by decide)
  · intro d ix t a b p q e h0 h1 h2 h3 h4 h5
    exact fun z => absurd z (by decide)
  · intro d a b p q e h0 h1 h2 h3
    exact fun z => absurd z (by decide)
  · intro d ix t a b p q e h0 h1 h2 h3 h4 h5
    exact fun z => absurd z (by decide)
  · intro d ix t a b p q e h0 h1 h2 h3 h4
    exact fun z => absurd z (by decide)
  · intro d ix t a b p q e h0 h1 h2 h3 h4 h5
    exact fun z => absurd z (by decide)
  · intro d ix iy t u a b p q e h0 h1 h2 h3 h4 h5 h6
    exact fun z => absurd z (by decide)
  · intro d a b p q h0
    exact fun _ _ => ⟨by omega, by rw [show q - 1 = p + 1 by omega]; exact h0.2.1⟩
  · intro d a b p q e h0 h1
    intro _ hp
    obtain ⟨c1, c2⟩ := h1.2 (by decide) (by omega)
    exact ⟨by omega, c2⟩
  · intro d ix t a b p q e h0 h1 h2 h3
    intro _ hp
    have c1 : p + 1 ≤ t := lk_pq h1.1 hp
    exact ⟨by omega, by rw [show q - 1 = t by omega]; exact h3.2.1⟩
  · intro d ix t a b p q e h0 h1 h2 h3 h4
    intro _ hp
    have c1 : p + 1 ≤ t := lk_pq h1.1 hp
    obtain ⟨c2, c3⟩ := h4.2 (by decide) (by omega)
    exact ⟨by omega, c3⟩
  · intro d a b p q e h0
    exact fun z => absurd z (by decide)
  · intro d ix t u bs rw a b p q e h0 h1 h2 h3 h4 h5
    exact fun z => absurd z (by decide)
  · intro d ix t y a b p q e h0 h1 h2 h3 h4 h5 h6 h7
    exact fun z => absurd z (by decide)
  · intro d ix t u y z a b p q e h0 h1 h2 h3 h4 h5 h6 h7 h8
    exact fun z => absurd z (by decide)
  · intro d ix t y a b p q e h0 h1 h2 h3 h4 h5 h6 h7 h8
    exact fun z => absurd z (by decide)
  · intro d a b p q e h0 h1 h2 h3
    exact fun z => absurd z (by decide)
  · intro d a b p q e h0 h1 h2 h3
    exact fun z => absurd z (by decide)
  · intro d ix t a b p q e h0 h1 h2 h3 h4 h5
    exact fun z => absurd z (by decide)
  · intro d ix t a b p q e h0 h1 h2 h3 h4 h5
    exact fun z => absurd z (by decide)
  · intro d ix t a b p q e h0 h1 h2 h3 h4 h5
    exact fun z => absurd z (by decide)
  · intro d t y a b p q e h0 h1 h2 h3 h4 h5 h6
    exact fun z => absurd z (by decide)
  · intro d ix t a b p q e h0 h1 h2 h3 h4 h5
    exact fun z => absurd z (by decide)
  · intro d ix iy t u y a b p q e h0 h1 h2 h3 h4 h5 h6 h7 h8 h9
    exact fun z => absurd z (by decide)
  · intro d a b p h0 h1
    exact fun z => absurd z (by decide)
  · intro d t y a b p q e h0 h1 h2 h3
    exact fun z => absurd z (by decide)
  · intro d t a b p q e h0 h1 h2 h3 h4
    exact fun z => absurd z (by decide)
theorem lk_a0 {s : Nat} {d i l a b p q e : Int} (H : LKn d K T s i l a b p q e) : s = 4 → K p.toNat = 40 := by
  refine lk_ind (fun d s i l a b p q e => s = 4 → K p.toNat = 40) ?_ ?_ ?_ ?_ ?_ ?_ ?_ ?_ ?_ ?_ ?_ ?_ ?_ ?_ ?_ ?_ ?_ ?_ ?_ ?_ ?_ ?_ ?_ ?_ ?_ ?_ ?_ ?_ ?_ ?_ ?_ ?_ ?_ ?_ ?_ ?_ ?_ ?_ H
  · intro d i a b p q e h0 h1
    exact fun z => absurd z (by decide)
  · intro d ix iy iz t u y a b p q e h0 h1 h2 h3 h4 h5 h6 h7 h8 h9 h10
    exact fun z => absurd z (by decide)
  · intro d i l a b p q e h0
    exact fun z => absurd z (by decide)
  · intro d ix iy l s t a b p q e h0 h1 h2 h3 h4 h5 h6
    exact fun z => absurd z (by decide)
  · intro d ix l t a b p q e h0 h1 h2 h3 h4
    exact fun z => absurd z (by decide)
  · intro d ix a b p q e h0 h1 h2 h3
    exact fun z => absurd z (by decide)
  · intro d ix a b p q e h0 h1 h2 h3
    exact fun z => absurd z (by decide)
  · intro d i a b p q e h0 h1
    exact fun z => absurd z (by decide)
  · intro d a b p q e h0 h1 h2
    exact fun z => absurd z (by decide)
  · intro d a b p q e h0 h1 h2 h3
    exact fun z => absurd z (by decide)
  · intro d a b p q e h0 h1 h2 h3 h4
    exact fun z => absurd z (by decide)
  · intro d i t a b p q e h0 h1
    exact fun z => absurd z (by decide)
  · intro d ix t a b p q e h0 h1 h2 h3 h4 h5
    exact fun z => absurd z (by decide)
  · intro d a b p q e h0 h1 h2 h3
    exact fun z => absurd z (by decide)
  · intro d ix t a b p q e h0 h1 h2 h3 h4 h5
    exact fun z => absurd z (by decide)
  · intro d ix t a b p q e h0 h1 h2 h3 h4
    exact fun z => absurd z (by decide)
  · intro d ix t a b p q e h0 h1 h2 h3 h4 h5
    exact fun z => absurd z (by decide)
  · intro d ix iy t u a b p q e h0 h1 h2 h3 h4 h5 h6
    exact fun z => absurd z (by decide)
  · intro d a b p q h0
    exact fun _ => h0.1
  · intro d a b p q e h0 h1
    exact fun _ => h0.1
  · intro d ix t a b p q e h0 h1 h2 h3
    exact fun z => absurd z (by decide)
  · intro d ix t a b p q e h0 h1 h2 h3 h4
    exact fun z => absurd z (by decide)
  · intro d a b p q e h0
    exact fun z => absurd z (by decide)
  · intro d ix t u bs rw a b p q e h0 h1 h2 h3 h4 h5
    exact fun z => absurd z (by decide)
  · intro d ix t y a b p q e h0 h1 h2 h3 h4 h5 h6 h7
    exact fun z => absurd z (by decide)
  · intro d ix t u y z a b p q e h0 h1 h2 h3 h4 h5 h6 h7 h8
    exact fun z => absurd z (by decide)
  · intro d ix t y a b p q e h0 h1 h2 h3 h4 h5 h6 h7 h8
    exact fun z => absurd z (by decide)
  · intro d a b p q e h0 h1 h2 h3
    exact fun z => absurd z (by decide)
  · intro d a b p q e h0 h1 h2 h3
    exact fun z => absurd z (by decide)
  · intro d ix t a b p q e h0 h1 h2 h3 h4 h5
    exact fun z => absurd z (by decide)
  · intro d ix t a b p q e h0 h1 h2 h3 h4 h5
    exact fun z => absurd z (by decide)
  · intro d ix t a b p q e h0 h1 h2 h3 h4 h5
    exact fun z => absurd z (by decide)
  · intro d t y a b p q e h0 h1 h2 h3 h4 h5 h6
    exact fun z => absurd z (by decide)
  · intro d ix t a b p q e h0 h1 h2 h3 h4 h5
    exact fun z => absurd z (by decide)
  · intro d ix iy t u y a b p q e h0 h1 h2 h3 h4 h5 h6 h7 h8 h9
    exact fun z => absurd z (by decide)
  · intro d a b p h0 h1
    exact fun z => absurd z (by decide)
  · intro d t y a b p q e h0 h1 h2 h3
    exact fun z => absurd z (by decide)
  · intro d t a b p q e h0 h1 h2 h3 h4
    exact fun z => absurd z (by decide)
theorem lk_pn2 {s : Nat} {d i l a b p q e : Int} (H : LKn d K T s i l a b p q e) : s = 3 → i = 0 → T 167 e.toNat = 25 → q = p + 1 ∧ K p.toNat = 2 ∧ T 168 e.toNat = p := by
  refine lk_ind (fun d s i l a b p q e => s = 3 → i = 0 → T 167 e.toNat = 25 → q = p + 1 ∧ K p.toNat = 2 ∧ T 168 e.toNat = p) ?_ ?_ ?_ ?_ ?_ ?_ ?_ ?_ ?_ ?_ ?_ ?_ ?_ ?_ ?_ ?_ ?_ ?_ ?_ ?_ ?_ ?_ ?_ ?_ ?_ ?_ ?_ ?_ ?_ ?_ ?_ ?_ ?_ ?_ ?_ ?_ ?_ ?_ H
  · intro d i a b p q e h0 h1
    exact fun z => absurd z (by decide)
  · intro d ix iy iz t u y a b p q e h0 h1 h2 h3 h4 h5 h6 h7 h8 h9 h10
    exact fun z => absurd z (by decide)
  · intro d i l a b p q e h0
    exact fun z => absurd z (by decide)
  · intro d ix iy l s t a b p q e h0 h1 h2 h3 h4 h5 h6
    exact fun z => absurd z (by decide)
  · intro d ix l t a b p q e h0 h1 h2 h3 h4
    exact fun z => absurd z (by decide)
  · intro d ix a b p q e h0 h1 h2 h3
    exact fun z => absurd z (by decide)
  · intro d ix a b p q e h0 h1 h2 h3
    exact fun z => absurd z (by decide)
  · intro d i a b p q e h0 h1
    exact fun z => absurd z (by decide)
  · intro d a b p q e h0 h1 h2
    exact fun _ _ z => by omega
  · intro d a b p q e h0 h1 h2 h3
    exact fun _ _ _ => ⟨h2.2.2, h2.1, h1.2⟩
  · intro d a b p q e h0 h1 h2 h3 h4
    exact fun _ _ z => by omega
  · intro d i t a b p q e h0 h1
    exact fun _ z => absurd z (by decide)
  · intro d ix t a b p q e h0 h1 h2 h3 h4 h5
    exact fun _ _ z => by omega
  · intro d a b p q e h0 h1 h2 h3
    exact fun _ _ z => by omega
  · intro d ix t a b p q e h0 h1 h2 h3 h4 h5
    exact fun _ _ z => by omega
  · intro d ix t a b p q e h0 h1 h2 h3 h4
    exact fun _ _ z => by omega
  · intro d ix t a b p q e h0 h1 h2 h3 h4 h5
    exact fun _ _ z => by omega
  · intro d ix iy t u a b p q e h0 h1 h2 h3 h4 h5 h6
    exact fun _ _ z => by omega
  · intro d a b p q h0
    exact fun z => absurd z (by decide)
  · intro d a b p q e h0 h1
    exact fun z => absurd z (by decide)
  · intro d ix t a b p q e h0 h1 h2 h3
    exact fun z => absurd z (by decide)
  · intro d ix t a b p q e h0 h1 h2 h3 h4
    exact fun z => absurd z (by decide)
  · intro d a b p q e h0
    exact fun z => absurd z (by decide)
  · intro d ix t u bs rw a b p q e h0 h1 h2 h3 h4 h5
    exact fun z => absurd z (by decide)
  · intro d ix t y a b p q e h0 h1 h2 h3 h4 h5 h6 h7
    exact fun z => absurd z (by decide)
  · intro d ix t u y z a b p q e h0 h1 h2 h3 h4 h5 h6 h7 h8
    exact fun z => absurd z (by decide)
  · intro d ix t y a b p q e h0 h1 h2 h3 h4 h5 h6 h7 h8
    exact fun z => absurd z (by decide)
  · intro d a b p q e h0 h1 h2 h3
    exact fun z => absurd z (by decide)
  · intro d a b p q e h0 h1 h2 h3
    exact fun z => absurd z (by decide)
  · intro d ix t a b p q e h0 h1 h2 h3 h4 h5
    exact fun z => absurd z (by decide)
  · intro d ix t a b p q e h0 h1 h2 h3 h4 h5
    exact fun z => absurd z (by decide)
  · intro d ix t a b p q e h0 h1 h2 h3 h4 h5
    exact fun z => absurd z (by decide)
  · intro d t y a b p q e h0 h1 h2 h3 h4 h5 h6
    exact fun z => absurd z (by decide)
  · intro d ix t a b p q e h0 h1 h2 h3 h4 h5
    exact fun z => absurd z (by decide)
  · intro d ix iy t u y a b p q e h0 h1 h2 h3 h4 h5 h6 h7 h8 h9
    exact fun z => absurd z (by decide)
  · intro d a b p h0 h1
    exact fun z => absurd z (by decide)
  · intro d t y a b p q e h0 h1 h2 h3
    exact fun z => absurd z (by decide)
  · intro d t a b p q e h0 h1 h2 h3 h4
    exact fun z => absurd z (by decide)
end
section
variable {nn : Nat} {X : BCx} {dp i l a b e s k c st fit how at_ : Int} {p q t tk pa x j : Nat} {h hA g u r rA w m v : ms_M}
theorem p3_pd {t2 : Nat} {ix : Int} (Y : CXs X) (ne : 0 ≤ a ∧ a ≤ e ∧ e < b) (nd : bT X 167 e.toNat = 31 ∧ bT X 168 e.toNat = ((t + 1 : Nat) : Int) ∧ bT X 172 e.toNat = (t : Int)) (kk : bK X t = 48 ∧ bK X (t + 1) = 2 ∧ bK X (t + 2) = 40) (r1 : a ≤ bT X 170 e.toNat ∧ bT X 170 e.toNat < e) (L1 : bT X 177 (bT X 170 e.toNat).toNat = ix) (CH : P3 nn X dp ix a e p t (bT X 170 e.toNat)) (AR : A4 nn X dp (e + 1) b (t + 2) t2 (bT X 171 e.toNat)) (k41 : bK X t2 = 41) (pt : p < t ∧ t + 2 < t2) (HO : ix = 0 → bT X 167 (bT X 170 e.toNat).toNat = 25 → t = p + 1 ∧ bK X p = 2 ∧ bT X 168 (bT X 170 e.toNat).toNat = (p : Int)) : P3 nn X dp 0 a b p (t2 + 1) e := by
  intro d d2 h r Z Q b57 HB HC HF
  have own := Y.2.2.2.1
  by_cases pl : ix = 0 ∧ bT X 167 (bT X 170 e.toNat).toNat = 25
  · obtain ⟨tp, kp, o68⟩ := HO pl.1 pl.2
    subst tp
    have Q0 := Q
    obtain ⟨B, ⟨q1, q2, q3, q4⟩, -, -⟩ := Q0
    have TB : TBc (bK X) (bP X) (bc X) h := B.1.1.1.1
    have VL : VLc (bK X) (bV X) (bc X) h := B.1.1.1.2.1
    have c3 := Y.1.2.1
    have p1 : p + 1 < bc X := jp_lt Y.1 q2 (by omega)
    have E41 : ∀ cc x : Nat, ¬ (cc = 2 ∧ x = 10) → up_M h 2 10 ((p + 1 : Nat) : Int) cc x = h cc x := fun cc x z => up_n z
    have BV : ∀ r2 : ms_M, BX X h r2 → BX X (up_M h 2 10 ((p + 1 : Nat) : Int)) r2 := fun r2 B2 => bx_k B2 (fun cc x z => E41 cc x (by omega)) (fun _ _ _ => rfl)
    have S : Pc (qo_X10_readPrimary nn (qg_X10_readValue nn d) dp h) (fun _ => ∃ u47, qf_X1_localOf nn (bV X p) (up_M h 2 10 ((p + 1 : Nat) : Int)) = some u47 ∧ (u47 = -1 → ∃ u51, qf_X2_fieldOf nn (bo X) (bV X p) (up_M h 2 10 ((p + 1 : Nat) : Int)) = some u51)) := by
      unfold qo_X10_readPrimary
      refine pc_sv (c_kind Y.1 TB q2 q1 q3) ?_; intro u25 q25
      refine pc_if (fun _ => ?_) (fun z => absurd (show u25 = 2 by omega) z)
      refine pc_sv (P := fun _ => ∃ u47, qf_X1_localOf nn (bV X p) (up_M h 2 10 ((p + 1 : Nat) : Int)) = some u47 ∧ (u47 = -1 → ∃ u51, qf_X2_fieldOf nn (bo X) (bV X p) (up_M h 2 10 ((p + 1 : Nat) : Int)) = some u51)) ?_ (fun _ Hu _ _ => Hu)
      cases d with
      | zero => exact fun _ z => nomatch z
      | succ d =>
        show Pc (qo_X10_readNamed nn (qg_X10_readValue nn d) dp h) _
        unfold qo_X10_readNamed
        rw [q1]
        refine pc_sv (c_valueAt Y.1 TB VL kp rfl) ?_; intro u37 q37
        refine pc_add (by omega) ?_; intro v40 e40
        refine pc_xl ?_; intro h41 e41
        rw [show v40 = ((p + 1 : Nat) : Int) by omega] at e41
        have B1 := BV r B
        rw [← e41] at B1
        refine pc_sv (c_kind Y.1 B1.1.1.1.1 p1 (by rw [e41, up_s]) (by rw [e41, up_n (by omega)]; exact q3)) ?_; intro u44 q44
        refine pc_if (fun _ => ?_) (fun z => absurd (show ¬ u44 = 40 by omega) z)
        rw [q37, ← e41]
        refine pc_se ?_; intro u47 e47
        refine pc_if (fun z => ?_) (fun z => ?_)
        · exact fun _ _ => ⟨u47, e47, fun y => absurd y z⟩
        · rw [show h41 49 16 = bo X by rw [e41, up_n (by omega)]; exact B.2.2.1.1]
          refine pc_se ?_; intro u51 e51
          exact fun _ _ => ⟨u47, e47, fun _ => ⟨u51, e51⟩⟩
    intro uF eF
    obtain ⟨u47, e47, H51⟩ := S uF eF
    by_cases z47 : u47 = -1
    · obtain ⟨u51, e51⟩ := H51 z47
      by_cases z51 : u51 = -1
      · rw [z47] at e47
        rw [z51] at e51
        have W : Pc (qo_X10_readPrimary nn (qg_X10_readValue nn d) dp h) (fun uF => Pc ((qg_X13_condition nn d2).2.2.1 e r) (fun v => Z uF v)) := by
          unfold qo_X10_readPrimary
          refine pc_sv (c_kind Y.1 TB q2 q1 q3) ?_; intro u25 q25
          refine pc_if (fun _ => ?_) (fun z => absurd (show u25 = 2 by omega) z)
          refine p3_fin Y Q ?_ HC HF q1
          cases d with
          | zero => exact pc_none
          | succ d => exact p_bycl Y Q b57 ne ⟨nd.1, nd.2.1⟩ r1 ⟨pl.2, o68, L1.trans pl.1⟩ ⟨kp, kk.1, kk.2.1, kk.2.2⟩ k41 (by omega) AR e47 e51 d d2
        exact W uF eF
      · refine p3_pdv Y ne nd kk r1 L1 CH AR k41 pt d d2 h r Z Q b57 (fun _ _ => ⟨o68, fun r2 B2 => .inr ?_⟩) HC HF uF eF
        refine pc_imp (j_fieldOf (nn := nn) Y.1 Y.2.1 (BV r2 B2).1 kp (a := bo X) (by omega) _ e51) (fun v L => ?_)
        rcases L with y | ⟨jj, kk, -, -, -, -, y, -⟩
        · exact absurd y.1 z51
        · omega
    · refine p3_pdv Y ne nd kk r1 L1 CH AR k41 pt d d2 h r Z Q b57 (fun _ _ => ⟨o68, fun r2 B2 => .inl ?_⟩) HC HF uF eF
      refine pc_imp (j_loc Y.1 (BV r2 B2).1.1.2.2.2.1 (BV r2 B2).2.1 kp rfl rfl _ e47) (fun v L => ?_)
      rcases L with y | ⟨s, y1, y2, y3⟩
      · exact absurd y.1 z47
      · omega
  · exact p3_pdv Y ne nd kk r1 L1 CH AR k41 pt d d2 h r Z Q b57 (fun i0 k25 => absurd ⟨i0, k25⟩ pl) HC HF
end
