/- START ANSWERS ALIKE -/
section
variable {nn : Nat} {Bf : Nat → Nat → Int} {nf : Nat → Nat} {cnt : Int} {M h g : ms_M} {a1 a2 : Int}
theorem csp_r (S : CSp Bf nf h) (c0 : 0 ≤ h 56 3 ∧ h 56 3 ≤ 8) (A : ∀ c j : Nat, c < 160 ∨ 256 ≤ c → ¬ (143 ≤ c ∧ c ≤ 152) → g c j = h c j) : CSp Bf nf g := by
  have W : CSw Bf nf g := csw_r ⟨⟨c0, S.1⟩, S.2.1⟩ A
  have e3 : g 56 3 = h 56 3 := A _ _ (by omega) (by omega)
  refine ⟨W.1.2, W.2, ?_⟩
  obtain ⟨s1, _, s3⟩ := S
  intro j k hj hk jk
  have ij := im_at (s1 j (by omega)).1.1.1
  have ik := im_at (s1 k (by omega)).1.1.1
  rw [A 60 j (by omega) (by omega), A 60 k (by omega) (by omega), A (h 60 j).toNat 0 (by omega) (by omega), A (h 60 k).toNat 0 (by omega) (by omega)]
  exact s3 j k (by omega) (by omega) jk
/-- .. and what they leave behind -/
theorem st_V (E : SPE Bf nf M) (R : rn_R M) (W : wh_R M) (ra : -2147483648 ≤ a1 ∧ a1 ≤ 2147483647) {u v : Int × ms_M} (e1 : qf_X12_start nn a1 a2 M = some u) (e2 : qf_X13_start nn a1 a2 u.2 = some v) : u.1 = v.1 ∧ SPE Bf nf v.2 ∧ rn_R v.2 ∧ wh_R v.2 ∧ ((u.1 = 0 ∧ v.2 = M) ∨ (u.1 = 1 ∧ ∃ k i : Nat, STg Bf nf (M 56 3) (M 56 4) a1 a2 k i ∧ SCl Bf nf k i M u.2 ∧ SRf k i u.2 v.2)) := by
  have E' := E
  obtain ⟨⟨p1, p2, p3⟩, C, TB, N⟩ := E
  have S : CSw Bf nf M := ⟨⟨p2, C.1⟩, C.2.1⟩
  have RM : RSv Bf nf M := ⟨by rw [p1]; exact p2, TB⟩
  have qc := vc_start (nn := nn) (a1 := a1) (a2 := a2) S u e1
  rcases qc with ⟨eu, n0⟩ | ⟨k, i, G, u1, CL⟩
  · rw [eu] at e2 ⊢
    have qr := vr_startR (nn := nn) (a2 := a2) ra RM v e2
    rcases qr with ⟨ev, _⟩ | ⟨k, i, G, _⟩
    · rw [ev]
      exact ⟨rfl, E', R, W, .inl ⟨rfl, rfl⟩⟩
    · rw [p1, p3] at G
      exact absurd G (n0 k i)
  · have C1 := CL.1
    have RS : RSv Bf nf u.2 := rsv_k RM (fun x j w => C1 x j (by omega) (by omega) (by omega)) (C1 160 98 (by omega) (by omega) (by omega))
    have qr := vr_startR (nn := nn) (a2 := a2) ra RS v e2
    unfold QSr at qr
    rw [C1 160 98 (by omega) (by omega) (by omega), C1 160 99 (by omega) (by omega) (by omega), p1, p3] at qr
    rcases qr with ⟨_, n0⟩ | ⟨k2, i2, G2, v1, SR⟩
    · exact absurd G (n0 k i)
    have ek : k2 = k := by have := G.2.1.1; have := G2.2.1.1; omega
    have ei : i2 = i := by have := G.2.1.2; have := G2.2.1.2; omega
    rw [ek, ei] at SR
    have hk := G.2.2.1
    have hi := G.2.2.2.1
    have m12 := ((cg_im (S.1.2 k hk)).1).2.2.1
    have SR' := SR
    have CL' := CL
    obtain ⟨R1, ⟨r138, r139, r140, r141, r142, r143, r149⟩, ⟨r251, r252, r253, r254⟩, _⟩ := SR
    obtain ⟨_, ⟨c1, c2, c3, c4, c5, c6, c7⟩, ⟨c17, _, _⟩, ⟨c148, c149, c150⟩, _⟩ := CL
    have v143 : ∀ j : Nat, v.2 143 j = u.2 143 j := fun j => R1 143 j (by omega) (by omega) (by omega)
    have VM : ∀ c j : Nat, ¬ (143 ≤ c ∧ c ≤ 152) → ¬ (c = 160 ∧ ((138 ≤ j ∧ j ≤ 143) ∨ j = 149)) → ¬ (251 ≤ c ∧ c ≤ 255) → v.2 c j = M c j := fun c j w1 w2 w3 => (R1 c j w2 (by omega) (by omega)).trans (C1 c j (by omega) (by omega) (by omega))
    have v563 : v.2 56 3 = M 56 3 := VM 56 3 (by omega) (by omega) (by omega)
    have v98 : v.2 160 98 = M 160 98 := VM 160 98 (by omega) (by omega) (by omega)
    refine ⟨by rw [u1, v1], ⟨⟨by rw [v98, v563, p1], by rw [v563]; exact p2, ?_⟩, csp_r C p2 (fun c j w1 w2 => VM c j w2 (by omega) (by omega)), ?_, by rw [v563]; exact N⟩, ?_, ?_, .inr ⟨u1, k, i, G, CL', SR'⟩⟩
    · rw [VM 160 99 (by omega) (by omega) (by omega), VM 56 4 (by omega) (by omega) (by omega)]; exact p3
    · exact (rsv_k RM (fun x j w => VM x j (by omega) (by omega) (by omega)) v98).2
    · unfold rn_R
      rw [v143 1, v143 2, v143 3, v143 4, v143 5, v143 6, v143 7, v143 17, c1, c2, c3, c4, c5, c6, c7, c17]
      refine ⟨r138, by omega, fun z => absurd z (by decide), fun _ => ⟨r140, r141, r142, r149, r143, fun i z _ => absurd z (by omega)⟩, fun z => by omega, fun _ _ => rfl, fun _ => ⟨by omega, by omega, fun j hj => ?_⟩⟩
      have j0 : j = 0 := by omega
      rw [j0, r251, r252, r253, r254, R1 148 0 (by omega) (by omega) (by omega), R1 149 0 (by omega) (by omega) (by omega), R1 150 0 (by omega) (by omega) (by omega), c148, c149, c150]
      exact ⟨by omega, by omega, by omega, rfl, rfl⟩
    · obtain ⟨w1, w2, w3⟩ := W
      unfold wh_R
      rw [VM 160 123 (by omega) (by omega) (by omega), VM 160 124 (by omega) (by omega) (by omega), VM 160 125 (by omega) (by omega) (by omega), VM 127 2 (by omega) (by omega) (by omega), VM 127 3 (by omega) (by omega) (by omega), VM 127 4 (by omega) (by omega) (by omega)]
      exact ⟨w1, w2, w3⟩
end
