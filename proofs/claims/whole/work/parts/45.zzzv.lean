/- while: out of the loop, class and rules -/
section
variable {nn : Nat} {X : BCx} {dp i a b e s bb lb lh d A y0 hb : Int} {p q t t2 : Nat} {h g g26 gB z0 u r w m v vB h214 z : ms_M}
theorem lp_out (Q : SPq X d p bb h r) (Wb : BRw X) (ne : 0 ≤ a ∧ a ≤ s ∧ s < b) (yb : s < y0 ∧ y0 ≤ b) (KL : SKl X (s + 1) y0 p t2 bb h r g v) (g7 : g 34 7 = h 34 7) (g12 : g 33 12 = h 33 12) (v50 : v 160 50 = r 160 50) (eA : A = h 34 1) (e26 : g26 = up_M (up_M g 33 9 A) 33 10 (g 34 7)) (e214 : h214 = up_M (up_M v 160 54 (v 160 54 + 1)) 198 (v 160 54 + 1).toNat 0) (SK : SKl X y0 b t2 q (g 33 12) g26 h214 gB vB) (pq : p < t2) (gl : g 34 1 + 20 * (p : Int) + 20 ≤ h 34 1 + 20 * (t2 : Int)) (EC : ∀ cc x : Nat, ¬ (cc = 34 ∧ (x = 1 ∨ x = 3 ∨ x = 7 ∨ x = 14 ∨ x = 15)) → ¬ (cc = 35 ∧ A ≤ (x : Int)) → ¬ (40 ≤ cc ∧ cc ≤ 42) → z0 cc x = gB cc x) (z7 : z0 34 7 = g26 34 7) (z1 : gB 34 1 ≤ z0 34 1 ∧ z0 34 1 ≤ gB 34 1 + 3) (z3 : z0 34 3 = 0) (Fz : FRc z0) (ez : z = up_M (up_M (up_M z0 33 12 (h 33 12)) 33 9 (h 33 9)) 33 10 (h 33 10)) (ew : w = up_M (up_M (up_M vB 160 50 (r 160 50)) 176 s.toNat hb) 160 54 (vB 160 54 - 1)) : SKk X a b p q bb h r z w := by
  obtain ⟨⟨B, -, -, -⟩, -, ⟨LP, l54, br⟩, -⟩ := Q
  obtain ⟨⟨k1, k2, k3, k4, k5⟩, ⟨k6, k7, k8⟩, ⟨k9, k10, k11, k12, k13⟩, k14, k15, k16⟩ := KL
  obtain ⟨⟨m1, m2, m3, m4, m5⟩, ⟨m6, m7, m8⟩, ⟨m9, m10, m11, m12, m13⟩, m14, m15, m16⟩ := SK
  have bm := brw_l Wb (p := p) (q := q) (by omega) m2
  have s1 := B.2.1.1
  obtain ⟨b1, ⟨b2, b3, b4, b5⟩, b6, b7, b8, b9⟩ := k7
  obtain ⟨a1, ⟨a2, a3, a4, a5⟩, a6, a7, a8, a9⟩ := m7
  obtain ⟨c1, c2, ⟨c3, c4, c5⟩, c6, c7⟩ := k8
  obtain ⟨d1, d2, ⟨d3, d4, d5⟩, d6, d7⟩ := m8
  have G : ∀ cc x : Nat, ¬ (cc = 33 ∧ (x = 9 ∨ x = 10)) → g26 cc x = g cc x := fun cc x q => by rw [e26, up_n (by omega), up_n (by omega)]
  have V : ∀ cc x : Nat, ¬ (cc = 160 ∧ x = 54) → ¬ (cc = 198 ∧ x = (v 160 54 + 1).toNat) → h214 cc x = v cc x := fun cc x q1 q2 => by rw [e214, up_n q2, up_n q1]
  have v54 : h214 160 54 = v 160 54 + 1 := by rw [e214, up_n (by omega), up_s]
  have ZZ : ∀ cc x : Nat, ¬ (cc = 33 ∧ (x = 9 ∨ x = 10 ∨ x = 12)) → z cc x = z0 cc x := fun cc x q => by rw [ez, up_n (by omega), up_n (by omega), up_n (by omega)]
  have W : ∀ cc x : Nat, ¬ (cc = 160 ∧ (x = 50 ∨ x = 54)) → ¬ (cc = 176 ∧ x = s.toNat) → w cc x = vB cc x := fun cc x q1 q2 => by rw [ew, up_n (by omega), up_n (by omega), up_n (by omega)]
  have w50 : w 160 50 = r 160 50 := by rw [ew, up_n (by omega), up_n (by omega), up_s]
  have w54 : w 160 54 = v 160 54 := by rw [ew, up_s]; omega
  have z9 : z 33 9 = h 33 9 := by rw [ez, up_n (by omega), up_s]
  have z10 : z 33 10 = h 33 10 := by rw [ez, up_s]
  have z12 : z 33 12 = h 33 12 := by rw [ez, up_n (by omega), up_n (by omega), up_s]
  have G1 := G 34 1 (by omega)
  have G7 := G 34 7 (by omega)
  have G12 := G 33 12 (by omega)
  have V50 := V 160 50 (by omega) (by omega)
  have Z1 := ZZ 34 1 (by omega)
  have Z7 := ZZ 34 7 (by omega)
  have BZ : BX X z w := by
    have B1 : BX X (up_M gB 34 7 (h 34 7)) (up_M vB 160 50 (r 160 50)) := bx_sight m6 rfl rfl (by omega) (by omega) (by omega)
    refine bx_k B1 (fun cc x q => ?_) (fun cc x q => ?_)
    · by_cases y : cc = 34 ∧ x = 7
      · rw [y.1, y.2, up_s]; omega
      · rw [up_n y, ZZ cc x (by omega)]; exact EC cc x (by omega) (by omega) (by omega)
    · rw [ew, up_n (by omega), up_n (by omega)]
  refine ⟨⟨by rw [ZZ 2 10 (by omega), EC 2 10 (by omega) (by omega) (by omega)]; exact m1, m2, by omega, by rw [ZZ 2 11 (by omega), EC 2 11 (by omega) (by omega) (by omega)]; exact m4, by rw [W 160 9 (by omega) (by omega)]; exact m5⟩, ⟨BZ, ?_, ?_⟩, ⟨frc_k Fz (fun cc x q => ZZ cc x (by omega)), by omega, by rw [ZZ 34 3 (by omega)]; exact z3, by rw [ZZ 49 10 (by omega), EC 49 10 (by omega) (by omega) (by omega)]; exact m12, by rw [ZZ 49 18 (by omega), EC 49 18 (by omega) (by omega) (by omega)]; exact m13⟩, by omega, by omega, ?_⟩
  · refine ⟨fun cc x q => ?_, ⟨z9, z10, by omega, by omega⟩, fun x hx => ?_, ⟨fun x hx => ?_, fun x q1 q2 => absurd q2 (by omega)⟩, by omega, fun x hx => ?_⟩
    · rw [ZZ cc x (by omega), EC cc x (by omega) (by omega) (by omega), a1 cc x q, G cc x (by omega)]; exact b1 cc x q
    · have y1 := a6 x (by omega)
      have y2 := b6 x hx
      exact ⟨by rw [ZZ 37 x (by omega), EC 37 x (by omega) (by omega) (by omega), y1.1, G 37 x (by omega)]; exact y2.1, by rw [ZZ 38 x (by omega), EC 38 x (by omega) (by omega) (by omega), y1.2, G 38 x (by omega)]; exact y2.2⟩
    · rw [ZZ 44 x (by omega), EC 44 x (by omega) (by omega) (by omega), a7.1 x (by omega), G 44 x (by omega)]; exact b7.1 x hx
    · rw [ZZ 35 x (by omega), EC 35 x (by omega) (by omega) (by omega), a9 x (by omega), G 35 x (by omega)]; exact b9 x hx
  · refine ⟨fun cc x q => ?_, fun cc x q1 q2 q3 => ?_, ⟨by omega, by rw [W 160 57 (by omega) (by omega), d4, V 160 57 (by omega) (by omega)]; exact c4, by omega⟩, fun x hx => ?_, fun x hx => ?_⟩
    · rw [W cc x (by omega) (by omega), d1 cc x q, V cc x (by omega) (by omega)]; exact c1 cc x q
    · rw [W cc x (by omega) (by omega), d2 cc x q1 q2 (by omega), V cc x (by omega) (by omega)]; exact c2 cc x q1 q2 (by omega)
    · have y1 := d6 x (by omega)
      have y2 := c6 x hx
      exact ⟨by rw [W 196 x (by omega) (by omega), y1.1, V 196 x (by omega) (by omega)]; exact y2.1, by rw [W 197 x (by omega) (by omega), y1.2, V 197 x (by omega) (by omega)]; exact y2.2⟩
    · rw [W 198 x (by omega) (by omega), d7 x (by omega), V 198 x (by omega) (by omega)]; exact c7 x hx
  · refine lpx_k k16 (by omega) (by omega) (by omega) (by omega) (by omega) w54 ?_
    rw [W 198 _ (by omega) (by omega), d7 _ (by omega), V 198 _ (by omega) (by omega)]
end
