/- VERIFY: where all is right, all is linked -/
section
variable {nn : Nat} {Bf : Nat → Nat → Int} {nf : Nat → Nat} {M : ms_M}
theorem vf_lk (hn : 1000000 ≤ nn) (E : SPE Bf nf M) : Pc (qf_X12_verify nn M) (fun u => u.2 56 4 = 1 → LKt Bf nf (M 56 3) u.2) := by
  obtain ⟨⟨p1, p2, p3⟩, C, TB, N⟩ := E
  have S : CSw Bf nf M := ⟨⟨p2, C.1⟩, C.2.1⟩
  have E20 : ∀ (l : Int) (g : ms_M), VCk M g → (l = 0 → HGo Bf nf (M 56 3)) → Pc (qj_X12_verify_20 nn l g) (fun u => u.2 56 4 = 1 → LKt Bf nf (M 56 3) u.2) := fun l g Vg Hg => by
    unfold qj_X12_verify_20 qj_X12_verify_33
    refine pc_if (fun z => ?_) (fun z => ?_)
    · refine pc_ck (fun _ => ?_)
      refine pc_xl ?_; intro h2 e2
      refine pc_if (fun w => pc_ret (fun v => ?_)) (fun w => absurd (by rw [e2, up_s]) w)
      have v : h2 56 4 = 1 := v
      omega
    · refine pc_ck (fun _ => ?_)
      refine pc_xl ?_; intro h2 e2
      have F2 : ∀ x y : Nat, ¬ (x = 56 ∧ y = 4) → h2 x y = g x y := fun x y w => by rw [e2, up_n w]
      refine pc_if (fun w => absurd w (by rw [e2, up_s]; decide)) (fun _ => ?_)
      have C2 : CSp Bf nf h2 := csp_v C (fun c j w1 w2 w3 w4 => by rw [F2 c j w4]; exact Vg c j w2)
      have e3 : h2 56 3 = M 56 3 := (F2 56 3 (by omega)).trans (Vg 56 3 (by omega))
      have S2 : CSw Bf nf h2 := ⟨⟨by rw [e3]; exact p2, C2.1⟩, C2.2.1⟩
      refine pc_sv (vc_linkAll (Hg (by omega)) S2 e3) ?_; intro u7 q7
      exact pc_ret (fun _ => q7.2.2)
  unfold qf_X12_verify
  refine pc_sv (vc_heads (nn := nn) hn S) ?_; intro u13 ⟨V13, Z13⟩
  rcases Z13 with ⟨n0, A, T⟩ | ⟨j, _, j2, j3, j4, j5, j6, j7⟩
  · refine pc_if (fun z => absurd n0 z) (fun _ => ?_)
    have A' : ∀ j : Nat, (j : Int) < M 56 3 → HOk Bf nf (M 56 3) j := fun j hj => A j (by omega) hj
    have H := hgo_of S.1 rfl A'
    refine pc_sv (vc_methods hn H (csw_v S V13) (V13 56 3 (by omega))) ?_; intro u16 ⟨V16, _, _⟩
    exact E20 u16.1 u16.2 (vck_t V13 V16) (fun _ => H)
  · have nz := (num_ok j4).2
    refine pc_if (fun _ => ?_) (fun z => absurd (show ¬ u13.1 = 0 by omega) z)
    exact E20 u13.1 u13.2 V13 (fun z => absurd z (by omega))
end
