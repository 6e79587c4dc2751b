/- VERIFY: instructions of a method, the class's side, whole -/
section
variable {nn : Nat} {Bf : Nat → Nat → Int} {nf : Nat → Nat} {cnt : Int} {B C D : Nat → Int} {n m b d k o i L : Nat} {M h g r h0 : ms_M} {t c : Int}
/-- what the class's reading of instructions leaves -/
def PIn (D : Nat → Int) (L : Nat) (h : ms_M) (u : Int × ms_M) : Prop := VCk h u.2 ∧ (∀ x j : Nat, ¬ x = 132 → ¬ (x = 127 ∧ (j = 7 ∨ j = 16)) → u.2 x j = h x j) ∧ u.2 127 16 = (L : Int) ∧ ((u.1 = 0 ∧ IOk D L ∧ ∀ p : Nat, p < L → (u.2 132 p = -1 ∧ BGn D L p) ∨ (u.2 132 p = -2 ∧ ¬ BGn D L p)) ∨ (u.1 = 6 ∧ ∃ p : Nat, INo D L p ∧ u.2 127 7 = (p : Int)))
theorem vc_ins (S : CSv Bf nf h) (hk : (k : Int) < h 56 3) (e5 : h 127 5 = h 60 k) (e6 : h 127 6 = (i : Int)) (hi : (i : Int) < mc_S (Bf k) (nf k)) : Pc (qf_X11_proveInstructions nn h) (PIn (cd_S (Bf k) (nf k) i) (cl_N (Bf k) (nf k) i) h) := by
  have X := S.2 k hk
  obtain ⟨G, -, -, MD⟩ := cg_im X
  have l1 := (G.2.2.2 i hi).2.2.2.1.1
  have eL : ln_N (Bf k) (ma_S (Bf k) (nf k) i + 5) = (cl_N (Bf k) (nf k) i : Int) := by unfold cl_N; omega
  unfold qf_X11_proveInstructions qf_X11_info
  refine pc_sv (P := fun u => u = (cl_N (Bf k) (nf k) i : Int)) ?_ ?_
  · rw [e5]
    refine pc_ck (fun _ => pc_ck (fun _ => ?_))
    rw [e6]
    refine pc_sv (vq_of (nn := nn) X hi (w := 5) (by decide) (MD i hi).2.1.1) ?_; intro u4 q4
    exact pc_ret (q4.trans eL)
  intro u16 q16
  refine pc_xl ?_; intro v19 e19
  rw [if_neg (by omega), q16] at e19
  refine pc_xl ?_; intro h20 e20
  have w16 : h20 127 16 = (cl_N (Bf k) (nf k) i : Int) := by rw [e20, up_s, e19]
  rw [w16]
  refine pc_se ?_; intro u23 e23
  have F23 : ∀ x j : Nat, ¬ x = 132 → u23 x j = h20 x j := fun x j z => (ff_J7_fill_fda19 nn) u23 e23 x j z
  have V23 := fr_v (by omega) e23
  have N23 : ∀ x j : Nat, ¬ x = 132 → ¬ (x = 127 ∧ j = 16) → u23 x j = h x j := fun x j z1 z2 => by rw [F23 x j z1, e20, up_n z2]
  have q := vc_33 (nn := nn) (h0 := h) S hk hi nn 0 u23 (fun c j z => N23 c j (by omega) (by omega)) (by rw [N23 127 5 (by omega) (by omega), N23 60 k (by omega) (by omega)]; exact e5) (by rw [N23 127 6 (by omega) (by omega)]; exact e6) (by rw [F23 127 16 (by omega)]; exact w16) (fun x hx => absurd hx (by omega)) (fun p hp => .inr ⟨V23 p (by omega), fun ⟨x, x1, _⟩ => absurd x1 (by omega)⟩)
  refine pc_imp q (fun u ⟨a1, a2, a3⟩ => ⟨a1, fun x j z1 z2 => ?_, ?_, a3⟩)
  · rw [a2 x j z1 (by omega)]; exact N23 x j z1 (by omega)
  · rw [a2 127 16 (by omega) (by omega), F23 127 16 (by omega)]; exact w16
end
