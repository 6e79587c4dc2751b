section
variable {nn : Nat} {h g r z w v : ms_M} {c d k : Int}
/-- a method's parts: the places of its handlers and frames -/
theorem mth_fr (m : MTH w c h k) : (h 236 (12 * c + k).toNat < w 160 113 ∧ w 238 (h 236 (12 * c + k).toNat).toNat ≤ 20) ∧ (∀ i : Int, 0 ≤ i → i < w 238 (h 236 (12 * c + k).toNat).toNat → CL w c (w 238 (h 236 (12 * c + k).toNat + 1 + 7 * i + 6).toNat)) ∧ h 237 (12 * c + k).toNat = h 236 (12 * c + k).toNat + 1 + 7 * w 238 (h 236 (12 * c + k).toNat).toNat ∧ h 237 (12 * c + k).toNat < w 160 113 ∧ w 238 (h 237 (12 * c + k).toNat).toNat ≤ 100 ∧ ∃ q : Int, q ≤ w 160 113 ∧ FRn w c (w 238 (h 237 (12 * c + k).toNat).toNat).toNat (h 237 (12 * c + k).toNat + 1) q := by
  obtain ⟨q, q1, m⟩ := m
  unfold XM XI XG XE XD XC XR XH XF FRM at m
  obtain ⟨_, _, _, _, _, _, _, e6, a6, b6, hh, e7, a7, b7, fr⟩ := m
  rw [← e6] at a6 b6 hh e7 a7 b7 fr
  rw [← e7] at a7 b7 fr
  exact ⟨⟨a6, b6⟩, hh, e7, a7, b7, q, q1, fr⟩
theorem mv_ends17 (V : VS_ h) (hc : 0 ≤ c ∧ c ≤ 7) (W : WI h c w) (e : h 160 132 = c) {l2 q : Int} (hl : l2 ≤ 255) (hq : q ≤ w 160 113) : ∀ (j : Nat) (n : Nat) (l3 l4 : Int), 0 ≤ l3 → (0 ≤ l4 ∧ l4 ≤ 255) → l2 - l4 = n → TYn w c n l3 q → (n : Int) < j → Ok_ (qw_X13_typesEnd_17 nn j l2 l3 l4 h) (fun u => u = q) := by
  have g3 := gF_160_113 W.1
  intro j
  induction j with
  | zero => intro n l3 l4 a b e1 t hm; exfalso; omega
  | succ j ih =>
    intro n l3 l4 a b e1 t hm
    unfold qw_X13_typesEnd_17
    cases n with
    | zero =>
      have t : l3 = q := t
      rw [if_pos (show l2 ≤ l4 by omega)]
      exact ok_ret t
    | succ n =>
      rw [if_neg (show ¬ l2 ≤ l4 by omega), e]
      have le := ty_le _ _ _ t
      refine ok_sv (mv_bytew V hc W (by omega)) ?_; intro u5 P5
      rcases t with ⟨t1, t2⟩ | ⟨t1, _, t2⟩
      · rw [if_pos (show ¬ u5 = 3 by have := P5.1; omega)]
        unfold qj_X13_typesEnd_42
        refine ok_add (by omega) ?_; intro v1 e2
        refine ok_add (by omega) ?_; intro v2 e3
        exact ih n v1 v2 (by omega) (by omega) (by omega) (by rw [e2]; exact t2) (by omega)
      · rw [if_neg (show ¬ ¬ u5 = 3 by have := P5.1; omega)]
        unfold qj_X13_typesEnd_42
        refine ok_add (by omega) ?_; intro v1 e2
        refine ok_add (by omega) ?_; intro v2 e3
        exact ih n v1 v2 (by omega) (by omega) (by omega) (by rw [e2]; exact t2) (by omega)
theorem mv_ends (hn : 1000000 ≤ nn) (V : VS_ h) (hc : 0 ≤ c ∧ c ≤ 7) (W : WI h c w) (e : h 160 132 = c) {p q : Int} (hp : 0 ≤ p) (hq : q ≤ w 160 113) (t : TYr w c p q) : Ok_ (qf_X13_typesEnd nn p h) (fun u => u = q) := by
  have g3 := gF_160_113 W.1
  have le := ty_le _ _ _ t
  unfold qf_X13_typesEnd
  rw [e]
  refine ok_sv (mv_bytew V hc W (by omega)) ?_; intro u10 P10
  have b := P10.2
  refine ok_add (by omega) ?_; intro v11 e11
  refine mv_ends17 V hc W e b.2 hq nn u10.toNat v11 0 (by omega) (by omega) (by omega) ?_ (by omega)
  rw [P10.1, e11]; exact t
theorem mv_many (V : VS_ h) (M : MC h c k w) : Ok_ (qf_X13_frameMany nn h) (fun u => u = w 238 (h 237 (12 * c + k).toNat).toNat ∧ (0 ≤ u ∧ u ≤ 255)) := by
  obtain ⟨hc, hk, W, e2, e3, _⟩ := M
  obtain ⟨k12, _, m⟩ := wi_mt W hc hk
  have f := mth_fr m
  unfold qf_X13_frameMany
  rw [e2, e3]
  refine ok_mul (by omega) ?_; intro v4 e4
  refine ok_add (by omega) ?_; intro v6 e6
  refine ok_rd (by omega) (gA_237 V) ?_; intro v7 e7 a7 _
  rw [e6, e4] at e7
  rw [← e7] at f
  refine ok_sv (mv_bytew V hc W (by have := f.2.2.2.1; omega)) ?_; intro u9 P9
  rw [← e7]
  exact ok_ret P9
/-- u is the place of one of n frames from p on -/
def FRm (w : ms_M) (c : Int) : Nat → Int → Int → Prop
  | 0, _, _ => False
  | n + 1, p, u => u = p ∨ ∃ a b : Int, TYr w c (p + 2) a ∧ TYr w c a b ∧ FRm w c n b u
/-- a frame lies at p -/
def FRa (w : ms_M) (c p : Int) : Prop := 0 ≤ p ∧ ∃ a b : Int, TYr w c (p + 2) a ∧ TYr w c a b ∧ b ≤ w 160 113
theorem fr_le : ∀ (n : Nat) (p q : Int), FRn w c n p q → p + 4 * n ≤ q := by
  intro n
  induction n with
  | zero => intro p q y; have y : p = q := y; omega
  | succ n ih =>
    intro p q y
    obtain ⟨a, b, y1, y2, y3⟩ := y
    have := ty_le _ _ _ y1
    have := ty_le _ _ _ y2
    have := ih _ _ y3
    omega
theorem mv_for (hn : 1000000 ≤ nn) (V : VS_ h) (M : MC h c k w) {t : Int} : Ok_ (qf_X13_frameFor nn t h) (fun u => u = -1 ∨ (FRa w c u ∧ FRm w c (w 238 (h 237 (12 * c + k).toNat).toNat).toNat (h 237 (12 * c + k).toNat + 1) u)) := by
  have M0 := M
  obtain ⟨hc, hk, W, e2, e3, _⟩ := M
  have g3 := gF_160_113 W.1
  obtain ⟨k12, _, m⟩ := wi_mt W hc hk
  obtain ⟨_, _, _, f1, f2, q, q1, fr⟩ := mth_fr m
  have L : ∀ (j : Nat) (n : Nat) (l2 l3 : Int), 0 ≤ l2 → (0 ≤ l3 ∧ l3 ≤ 255) → w 238 (h 237 (12 * c + k).toNat).toNat - l3 = n → FRn w c n l2 q → (n : Int) < j → Ok_ (qw_X13_frameFor_22 nn j t l2 l3 h) (fun u => u = -1 ∨ (FRa w c u ∧ FRm w c n l2 u)) := by
    intro j
    induction j with
    | zero => intro n l2 l3 a b e1 y hm; exfalso; omega
    | succ j ih =>
      intro n l2 l3 a b e1 y hm
      unfold qw_X13_frameFor_22
      refine ok_sv (mv_many V M0) ?_; intro u2 P2
      cases n with
      | zero =>
        rw [if_pos (show u2 ≤ l3 by have := P2.1; omega)]
        exact ok_ret (.inl rfl)
      | succ n =>
        rw [if_neg (show ¬ u2 ≤ l3 by have := P2.1; omega)]
        obtain ⟨x, y1, z1, z2, z3⟩ := y
        have l1 := ty_le _ _ _ z1
        have l2' := ty_le _ _ _ z2
        have l3' := fr_le _ _ _ z3
        refine ok_sv (mv_pairw V hc W e2 (by omega)) ?_; intro u4 _
        refine ok_if (fun _ => ?_) (fun _ => ok_ret (.inr ⟨⟨a, x, y1, z1, z2, by omega⟩, .inl rfl⟩))
        refine ok_add (by omega) ?_; intro v5 e5
        refine ok_sv (mv_ends hn V hc W e2 (q := x) (by omega) (by omega) (by rw [e5]; exact z1)) ?_; intro u7 P7
        refine ok_sv (mv_ends hn V hc W e2 (q := y1) (by omega) (by omega) (by rw [P7]; exact z2)) ?_; intro u9 P9
        refine ok_add (by omega) ?_; intro v10 e10
        refine ok_im (ih n u9 v10 (by omega) (by omega) (by omega) (by rw [P9]; exact z3) (by omega)) (fun u P => ?_)
        rcases P with P | P
        · exact .inl P
        · rw [P9] at P
          exact .inr ⟨P.1, .inr ⟨x, y1, z1, z2, P.2⟩⟩
  unfold qf_X13_frameFor
  rw [e2, e3]
  refine ok_mul (by omega) ?_; intro v15 e15
  refine ok_add (by omega) ?_; intro v17 e17
  refine ok_rd (by omega) (gA_237 V) ?_; intro v18 e18 a18 _
  rw [e17, e15] at e18
  refine ok_add (by omega) ?_; intro v19 e19
  have b0 : 0 ≤ w 238 (h 237 (12 * c + k).toNat).toNat := (gA_238 W.1 _ (by omega)).1
  refine ok_im (L nn (w 238 (h 237 (12 * c + k).toNat).toNat).toNat v19 0 (by omega) (by omega) (by omega) (by rw [e19, e18]; exact fr) (by omega)) (fun u P => ?_)
  rw [e19, e18] at P
  exact P
end
