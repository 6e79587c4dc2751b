section
variable {nn : Nat} {h g r z w v : ms_M} {c d k : Int}
theorem mv_width {a : Int} : Ok_ (qf_X13_widthOf nn a h) (fun u => 0 ≤ u ∧ u ≤ 3) := by
  unfold qf_X13_widthOf qj_X13_widthOf_736 qj_X13_widthOf_738 qj_X13_widthOf_740 qj_X13_widthOf_742
  repeat' (first | exact ok_ret (by omega) | (refine ok_if (fun _ => ?_) (fun _ => ?_)))
theorem mv_jump {a : Int} : Ok_ (qf_X13_isJump nn a h) (fun u => (u = 0 ∧ ¬ (153 ≤ a ∧ a ≤ 167)) ∨ (u = 1 ∧ 153 ≤ a ∧ a ≤ 167)) := by
  unfold qf_X13_isJump
  refine ok_if (fun _ => ok_ret (.inl ⟨rfl, by omega⟩)) (fun A => ?_)
  exact ok_if (fun _ => ok_ret (.inl ⟨rfl, by omega⟩)) (fun _ => ok_ret (.inr ⟨rfl, by omega, by omega⟩))
/-- a byte of the code -/
theorem mv_code (V : VS_ h) (M : MC h c k w) {p : Int} (hp : 0 ≤ p ∧ p ≤ h 160 135) : Ok_ (qf_X13_code nn p h) (fun u => u = w 238 (h 160 134 + p).toNat ∧ (0 ≤ u ∧ u ≤ 255)) := by
  have cd := mc_code M
  have g134 := gF_160_134 V
  obtain ⟨hc, hk, W, e1, _⟩ := M
  have g3 := gF_160_113 W.1
  unfold qf_X13_code
  rw [e1]
  refine ok_add (by omega) ?_; intro v3 e3
  refine ok_sv (mv_bytew V hc W (by omega)) ?_; intro u5 P5
  rw [e3] at P5
  exact ok_ret P5
/-- the place of frame f -/
theorem mv_frameAt (hn : 1000000 ≤ nn) (V : VS_ h) (M : MC h c k w) {f : Int} (hf : 0 ≤ f ∧ f < w 238 (h 237 (12 * c + k).toNat).toNat) : Ok_ (qf_X13_frameAt nn f h) (fun u => FRa w c u ∧ FRm w c (w 238 (h 237 (12 * c + k).toNat).toNat).toNat (h 237 (12 * c + k).toNat + 1) u) := by
  obtain ⟨hc, hk, W, e2, e3, _⟩ := M
  have g3 := gF_160_113 W.1
  obtain ⟨k12, _, m⟩ := wi_mt W hc hk
  obtain ⟨_, _, _, f1, f2, q, q1, fr⟩ := mth_fr m
  have L : ∀ (j : Nat) (n : Nat) (l2 l3 : Int), 0 ≤ l2 → (0 ≤ l3 ∧ l3 ≤ f) → f - l3 < n → FRn w c n l2 q → f - l3 < j → Ok_ (qw_X13_frameAt_22 nn j f l2 l3 h) (fun u => FRa w c u ∧ FRm w c n l2 u) := by
    intro j
    induction j with
    | zero => intro n l2 l3 a b e1 y hm; exfalso; omega
    | succ j ih =>
      intro n l2 l3 a b e1 y hm
      cases n with
      | zero => exfalso; omega
      | succ n =>
        obtain ⟨x, y1, z1, z2, z3⟩ := y
        have l1 := ty_le _ _ _ z1
        have l2' := ty_le _ _ _ z2
        have l3' := fr_le _ _ _ z3
        unfold qw_X13_frameAt_22
        refine ok_if (fun _ => ok_ret ⟨⟨a, x, y1, z1, z2, by omega⟩, .inl rfl⟩) (fun D => ?_)
        refine ok_add (by omega) ?_; intro v5 e5
        refine ok_sv (mv_ends hn V hc W e2 (q := x) (by omega) (by omega) (by rw [e5]; exact z1)) ?_; intro u7 P7
        refine ok_sv (mv_ends hn V hc W e2 (q := y1) (by omega) (by omega) (by rw [P7]; exact z2)) ?_; intro u9 P9
        refine ok_add (by omega) ?_; intro v10 e10
        refine ok_im (ih n u9 v10 (by omega) (by omega) (by omega) (by rw [P9]; exact z3) (by omega)) (fun u P => ?_)
        rw [P9] at P
        exact ⟨P.1, .inr ⟨x, y1, z1, z2, P.2⟩⟩
  unfold qf_X13_frameAt
  rw [e2, e3]
  refine ok_mul (by omega) ?_; intro v15 e15
  refine ok_add (by omega) ?_; intro v17 e17
  refine ok_rd (by omega) (gA_237 V) ?_; intro v18 e18 a18 _
  rw [e17, e15] at e18
  refine ok_add (by omega) ?_; intro v19 e19
  refine ok_im (L nn (w 238 (h 237 (12 * c + k).toNat).toNat).toNat v19 0 (by omega) (by omega) (by omega) (by rw [e19, e18]; exact fr) (by omega)) (fun u P => ?_)
  rw [e19, e18] at P
  exact P
end
