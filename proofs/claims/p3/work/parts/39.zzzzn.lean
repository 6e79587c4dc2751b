section
variable {nn : Nat} {h g r z w v : ms_M} {c d k : Int}
/-- sameText tells: as long, and the same bytes -/
theorem rs_same (hn : 1000000 ≤ nn) (V : VS_ h) (hc : 0 ≤ c ∧ c ≤ 7) (hd : 0 ≤ d ∧ d ≤ 7) (W : WI h c w) (X : WI h d v) {i j : Int} (t : TX w c i) (s : TX v d j) : Ok_ (qf_X13_sameText nn c i d j h) (fun u => (u = 0 ∨ u = 1) ∧ (¬ u = 0 → w 238 (pl w c i + 1).toNat = v 238 (pl v d j + 1).toNat ∧ ∀ m : Int, 0 ≤ m → m < w 238 (pl w c i + 1).toNat → w 238 (pl w c i + 2 + m).toNat = v 238 (pl v d j + 2 + m).toNat)) := by
  obtain ⟨a1, a2, a3, a4, a5⟩ := wi_tx W hc t
  obtain ⟨b1, b2, b3, b4, b5⟩ := wi_tx X hd s
  have L : ∀ (l5 l6 n : Int), (0 ≤ l5 ∧ l5 + 2 + n ≤ 48000) → (1 ≤ n ∧ n ≤ 120) → h 226 (l5 + 1).toNat = n → (0 ≤ l6) → ∀ (m : Nat) (l7 l8 : Int), (l7 = 0 ∨ (l7 = 1 ∧ l6 + 2 + n ≤ 48000)) → (¬ l7 = 0 → ∀ q : Int, 0 ≤ q → q < l8 → h 226 (l5 + 2 + q).toNat = h 226 (l6 + 2 + q).toNat) → (0 ≤ l8 ∧ l8 ≤ n) → n - l8 < (m : Int) → Ok_ (qw_X13_sameText_72 nn m l5 l6 l7 l8 h) (fun u => (u = 0 ∨ u = 1) ∧ (¬ u = 0 → l7 = 1 ∧ ∀ q : Int, 0 ≤ q → q < n → h 226 (l5 + 2 + q).toNat = h 226 (l6 + 2 + q).toNat)) := by
    intro l5 l6 n p1 p2 p3 p4 m
    induction m with
    | zero => intro l7 l8 a y b hm; exfalso; omega
    | succ m ih =>
      intro l7 l8 a y b hm
      have a' : l7 = 0 ∨ l7 = 1 := by omega
      unfold qw_X13_sameText_72
      refine ok_add (by omega) ?_; intro v2 e2
      refine ok_rd (by omega) (gA_226 V) ?_; intro v3 e3 _ _
      rw [e2, p3] at e3
      refine ok_if (fun C => ok_ck a' (ok_ret ⟨a', fun z => ⟨by omega, fun q q1 q2 => y z q q1 (by omega)⟩⟩)) (fun C => ?_)
      refine ok_if (fun D => ok_ck a' (ok_ret ⟨a', fun z => absurd D z⟩)) (fun D => ?_)
      refine ok_add (by omega) ?_; intro v7 e7
      refine ok_add (by omega) ?_; intro v8 e8
      refine ok_rd (by omega) (gA_226 V) ?_; intro v9 e9 _ _
      refine ok_add (by omega) ?_; intro v11 e11
      refine ok_add (by omega) ?_; intro v12 e12
      refine ok_rd (by omega) (gA_226 V) ?_; intro v13 e13 _ _
      refine ok_if (fun _ => ?_) (fun E => ?_)
      · refine ok_add (by omega) ?_; intro v14 e14
        exact ok_im (ih 0 v14 (.inl rfl) (fun z => absurd rfl z) (by omega) (by omega)) (fun u P => ⟨P.1, fun z => by have := (P.2 z).1; exfalso; omega⟩)
      · have E : v9 = v13 := Decidable.not_not.1 E
        refine ok_add (by omega) ?_; intro v15 e15
        refine ok_im (ih 1 v15 (.inr ⟨rfl, by omega⟩) (fun _ q q1 q2 => ?_) (by omega) (by omega)) (fun u P => ⟨P.1, fun z => ⟨by omega, (P.2 z).2⟩⟩)
        by_cases q0 : q = l8
        · rw [q0, show l5 + 2 + l8 = v8 by omega, show l6 + 2 + l8 = v12 by omega, ← e9, ← e13]; exact E
        · exact y D q q1 (by omega)
  unfold qf_X13_sameText
  refine ok_mul (by omega) ?_; intro v19 e19
  refine ok_mul (by omega) ?_; intro v21 e21
  refine ok_add (by omega) ?_; intro v22 e22
  refine ok_rd (by omega) (gA_228 V) ?_; intro v23 e23 _ _
  rw [e22, e21, a2] at e23
  refine ok_add (by omega) ?_; intro v24 e24
  refine ok_mul (by omega) ?_; intro v25 e25
  refine ok_mul (by omega) ?_; intro v27 e27
  refine ok_add (by omega) ?_; intro v28 e28
  refine ok_rd (by omega) (gA_228 V) ?_; intro v29 e29 _ _
  rw [e28, e27, b2] at e29
  refine ok_add (by omega) ?_; intro v30 e30
  refine ok_add (by omega) ?_; intro v32 e32
  refine ok_rd (by omega) (gA_226 V) ?_; intro v33 e33 _ _
  rw [show v32 = 6000 * c + pl w c i + 1 by omega, a5] at e33
  refine ok_add (by omega) ?_; intro v35 e35
  refine ok_rd (by omega) (gA_226 V) ?_; intro v36 e36 _ _
  rw [show v35 = 6000 * d + pl v d j + 1 by omega, b5] at e36
  have p3 : h 226 (v24 + 1).toNat = v33 := by rw [show v24 + 1 = 6000 * c + pl w c i + 1 by omega, a5, e33]
  refine ok_if (fun _ => ok_im (L v24 v30 v33 (by omega) (by omega) p3 (by omega) nn 0 0 (.inl rfl) (fun z => absurd rfl z) (by omega) (by omega)) (fun u P => ⟨P.1, fun z => by have := (P.2 z).1; exfalso; omega⟩)) (fun D => ?_)
  have D : v33 = v36 := Decidable.not_not.1 D
  refine ok_im (L v24 v30 v33 (by omega) (by omega) p3 (by omega) nn 1 0 (.inr ⟨rfl, by omega⟩) (fun _ q q1 q2 => by exfalso; omega) (by omega) (by omega)) (fun u P => ⟨P.1, fun z => ⟨by omega, fun m m1 m2 => ?_⟩⟩)
  have y := (P.2 z).2 m m1 (by omega)
  rw [show v24 + 2 + m = 6000 * c + (pl w c i + 2 + m) by omega, show v30 + 2 + m = 6000 * d + (pl v d j + 2 + m) by omega, W.2.2.1 _ (by omega) (by omega), X.2.2.1 _ (by omega) (by omega)] at y
  exact y
end
