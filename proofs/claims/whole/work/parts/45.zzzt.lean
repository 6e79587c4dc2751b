/- while: the tree of 'true', the rules of it -/
section
variable {K : Nat → Int} {T : ms_M}
theorem lk_true {s : Nat} {d i l a b p q e : Int} (H : LKn d K T s i l a b p q e) : s ≤ 3 → 0 ≤ p → K p.toNat = 28 → K (p + 1).toNat = 41 → q = p + 1 ∧ i = 0 ∧ T 167 e.toNat = 21 ∧ (a ≤ e ∧ e < b) := by
  refine lk_ind (fun d s i l a b p q e => s ≤ 3 → 0 ≤ p → K p.toNat = 28 → K (p + 1).toNat = 41 → q = p + 1 ∧ i = 0 ∧ T 167 e.toNat = 21 ∧ (a ≤ e ∧ e < b)) ?_ ?_ ?_ ?_ ?_ ?_ ?_ ?_ ?_ ?_ ?_ ?_ ?_ ?_ ?_ ?_ ?_ ?_ ?_ ?_ ?_ ?_ ?_ ?_ ?_ ?_ ?_ ?_ ?_ ?_ ?_ ?_ ?_ ?_ ?_ ?_ ?_ ?_ H
  · intro d i a b p q e h0 h1
    exact fun _ h1' h2' h3' => h0.2 (by decide) h1' h2' h3'
  · intro d ix iy iz t u y a b p q e h0 h1 h2 h3 h4 h5 h6 h7 h8 h9 h10
    intro _ hp k1 k2
    have c := (h3.2 (by decide) hp k1 k2).1
    rw [← c] at k2
    omega
  · intro d i l a b p q e h0
    exact fun _ h1' h2' h3' => h0.2 (by decide) h1' h2' h3'
  · intro d ix iy l s t a b p q e h0 h1 h2 h3 h4 h5 h6
    intro _ hp k1 k2
    have c := (h3.2 (by decide) hp k1 k2).1
    rw [← c] at k2
    have y := h2.1
    rw [k2] at y
    have y2 : st_T 41 = -1 := by decide
    omega
  · intro d ix l t a b p q e h0 h1 h2 h3 h4
    intro _ hp k1 k2
    have c := (h3.2 (by decide) hp k1 k2).1
    rw [← c] at k2
    omega
  · intro d ix a b p q e h0 h1 h2 h3
    exact fun _ hp k1 k2 => by omega
  · intro d ix a b p q e h0 h1 h2 h3
    exact fun _ hp k1 k2 => absurd h1.1.1 (by omega)
  · intro d i a b p q e h0 h1
    exact fun _ h1' h2' h3' => h0.2 (by decide) h1' h2' h3'
  · intro d a b p q e h0 h1 h2
    exact fun _ hp k1 k2 => ⟨h1.2.2, rfl, by omega, h0.2⟩
  · intro d a b p q e h0 h1 h2 h3
    exact fun _ hp k1 k2 => by omega
  · intro d a b p q e h0 h1 h2 h3 h4
    exact fun _ hp k1 k2 => by omega
  · intro d i t a b p q e h0 h1
    exact fun _ hp k1 k2 => by omega
  · intro d ix t a b p q e h0 h1 h2 h3 h4 h5
    exact fun _ hp k1 k2 => by omega
  · intro d a b p q e h0 h1 h2 h3
    exact fun _ hp k1 k2 => by omega
  · intro d ix t a b p q e h0 h1 h2 h3 h4 h5
    exact fun _ hp k1 k2 => by omega
  · intro d ix t a b p q e h0 h1 h2 h3 h4
    intro _ hp k1 k2
    have c := (h3.2 (by decide) hp k1 k2).1
    rw [← c] at k2
    omega
  · intro d ix t a b p q e h0 h1 h2 h3 h4 h5
    intro _ hp k1 k2
    have c := (h3.2 (by decide) hp k1 k2).1
    rw [← c] at k2
    omega
  · intro d ix iy t u a b p q e h0 h1 h2 h3 h4 h5 h6
    intro _ hp k1 k2
    have c := (h3.2 (by decide) hp k1 k2).1
    rw [← c] at k2
    omega
  · intro d a b p q h0
    exact fun z => absurd z (by decide)
  · intro d a b p q e h0 h1
    exact fun z => absurd z (by decide)
  · intro d ix t a b p q e h0 h1 h2 h3
    exact fun z => absurd z (by decide)
  · intro d ix t a b p q e h0 h1 h2 h3 h4
    exact fun z => absurd z (by decide)
  · intro d a b p q e h0
    exact fun z => absurd z (by decide)
  · intro d ix t u bs rw a b p q e h0 h1 h2 h3 h4 h5
    exact fun z => absurd z (by decide)
  · intro d ix t y a b p q e h0 h1 h2 h3 h4 h5 h6 h7
    exact fun z => absurd z (by decide)
  · intro d ix t u y z a b p q e h0 h1 h2 h3 h4 h5 h6 h7 h8
    exact fun z => absurd z (by decide)
  · intro d ix t y a b p q e h0 h1 h2 h3 h4 h5 h6 h7 h8
    exact fun z => absurd z (by decide)
  · intro d a b p q e h0 h1 h2 h3
    exact fun z => absurd z (by decide)
  · intro d a b p q e h0 h1 h2 h3
    exact fun z => absurd z (by decide)
  · intro d ix t a b p q e h0 h1 h2 h3 h4 h5
    exact fun z => absurd z (by decide)
  · intro d ix t a b p q e h0 h1 h2 h3 h4 h5
    exact fun z => absurd z (by decide)
  · intro d ix t a b p q e h0 h1 h2 h3 h4 h5
    exact fun z => absurd z (by decide)
  · intro d t y a b p q e h0 h1 h2 h3 h4 h5 h6
    exact fun z => absurd z (by decide)
  · intro d ix t a b p q e h0 h1 h2 h3 h4 h5
    exact fun z => absurd z (by decide)
  · intro d ix iy t u y a b p q e h0 h1 h2 h3 h4 h5 h6 h7 h8 h9
    exact fun z => absurd z (by decide)
  · intro d a b p h0 h1
    exact fun z => absurd z (by decide)
  · intro d t y a b p q e h0 h1 h2 h3
    exact fun z => absurd z (by decide)
  · intro d t a b p q e h0 h1 h2 h3 h4
    exact fun z => absurd z (by decide)
end
section
variable {nn : Nat} {X : BCx} {dp i a b e s bb lb lh d : Int} {p q t : Nat} {h g u r w m v z : ms_M} {A9 : Int}
/-- the rules of 'true' as a condition -/
theorem r_true (r57 : r 160 57 = 0) (q4 : r 160 9 = 0) (k : r 167 e.toNat = 21) : Pc (qf_X13_condition nn e r) (fun v => v = up_M r 174 e.toNat 1) := by
  have W : ∀ d : Nat, Pc ((qg_X13_condition nn d).2.2.1 e r) (fun y => y = (1, up_M r 174 e.toNat 1)) := fun d => by
    refine w_one (by omega) q4 (r_nled (by omega)) (fun d => ?_) d
    have FIN : Pc (some ((1 : Int), r)) (fun u => ∀ z : ms_M, z = up_M u.2 174 e.toNat u.1 → (z 160 9 = 0 → ((u.1, z) : Int × ms_M) = (1, up_M r 174 e.toNat 1)) ∧ (¬ z 160 9 = 0 → (((0 : Int), z) : Int × ms_M) = (1, up_M r 174 e.toNat 1))) := pc_ret (fun z ez => ⟨fun _ => by rw [ez], fun y => absurd (by rw [ez, up_n (by omega)]; exact q4) y⟩)
    unfold qo_X13_rule
    refine pc_rA ?_; intro _ _ v83 e83
    refine pc_if (fun z => absurd z (by omega)) (fun _ => ?_)
    refine pc_if (fun z => by unfold qj_X13_rule_98; exact FIN) (fun z => ?_)
    exact absurd (show v83 = 21 by omega) z
  unfold qf_X13_condition
  show Pc (qo_X13_condition nn (qg_X13_condition nn 1599) e r) _
  unfold qo_X13_condition
  refine pc_sv (P := fun y => y = (1, up_M r 174 e.toNat 1)) ?_ ?_
  · show Pc (qo_X13_given nn (qg_X13_condition nn 1598) e r) _
    unfold qo_X13_given
    refine pc_sv (W 1598) ?_; intro u2 e2
    rw [e2]
    exact pc_if (fun _ => pc_ret rfl) (fun z => absurd (show ¬ (1 : Int) = 3 by decide) z)
  · intro u2 e2
    rw [e2]
    exact pc_if (fun _ => pc_ret rfl) (fun z => absurd rfl z)
/-- into a loop -/
theorem lp_in (Q : SPq X d p bb h r) (eg : g = up_M (up_M h 33 9 A9) 33 10 (h 34 7)) (hA : 0 ≤ A9 ∧ A9 ≤ h 34 1) (ev : v = up_M (up_M r 160 54 (r 160 54 + 1)) 198 (r 160 54 + 1).toNat 0) : SPq X (d + 1) p (h 33 12) g v := by
  obtain ⟨⟨B, ⟨q1, q2, q3, q4⟩, ⟨f1, f2, f3⟩, o1⟩, ⟨h3, h10, r57, h7⟩, ⟨LP, l54, br⟩, ⟨vR, nR⟩, b51, rR⟩ := Q
  have G : ∀ cc x : Nat, ¬ (cc = 33 ∧ (x = 9 ∨ x = 10)) → g cc x = h cc x := fun cc x q => by rw [eg, up_n (by omega), up_n (by omega)]
  have V : ∀ cc x : Nat, ¬ (cc = 160 ∧ x = 54) → ¬ cc = 198 → v cc x = r cc x := fun cc x c1 c2 => by rw [ev, up_n (by omega), up_n (by omega)]
  have g9 : g 33 9 = A9 := by rw [eg, up_n (by omega), up_s]
  have g10 : g 33 10 = h 34 7 := by rw [eg, up_s]
  have v54 : v 160 54 = r 160 54 + 1 := by rw [ev, up_n (by omega), up_s]
  have v98 : v 198 (r 160 54 + 1).toNat = 0 := by rw [ev, up_s]
  have sg := B.2.1.1
  have e12 := G 33 12 (by omega)
  have e1 := G 34 1 (by omega)
  have e7 := G 34 7 (by omega)
  have e8 := G 33 8 (by omega)
  have w51 := V 160 51 (by omega) (by omega)
  refine ⟨⟨bx_k B (fun cc x z => G cc x (by omega)) (fun cc x z => V cc x (by omega) (by omega)), ⟨by rw [G 2 10 (by omega)]; exact q1, q2, by rw [G 2 11 (by omega)]; exact q3, by rw [V 160 9 (by omega) (by omega)]; exact q4⟩, ⟨frc_k f1 (fun cc x z => G cc x (by omega)), by rw [e1]; exact f2, by rw [G 34 3 (by omega)]; exact f3⟩, by rw [G 49 10 (by omega)]; omega, by rw [G 49 10 (by omega)]; omega, by rw [G 49 18 (by omega)]; exact o1.2.2⟩, ⟨by rw [G 34 3 (by omega)]; exact h3, by rw [G 49 10 (by omega)]; exact h10, by rw [V 160 57 (by omega) (by omega)]; exact r57, by rw [e7]; exact h7⟩, ⟨⟨⟨by have := LP.1; omega, by omega⟩, .inr ⟨by omega, by omega, by omega, .inl ⟨by rw [v54]; exact v98, e12⟩⟩⟩, by omega, by omega⟩, ⟨by rw [e8]; exact vR, by rw [e8]; exact nR⟩, by rw [w51]; exact b51, by rw [w51, V 187 _ (by omega) (by omega), e8]; exact rR⟩
end
