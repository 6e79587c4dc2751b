section
variable {nn : Nat} {h g r z w v : ms_M} {c d k : Int}
theorem ty_det : ∀ (n : Nat) (p q u : Int), TYn w c n p q → TYn w c n p u → q = u := by
  intro n
  induction n with
  | zero => intro p q u a b; have a : p = q := a; have b : p = u := b; omega
  | succ n ih =>
    intro p q u a b
    rcases a with ⟨a1, a2⟩ | ⟨a1, _, a2⟩
    · rcases b with ⟨b1, b2⟩ | ⟨b1, _, b2⟩
      · exact ih _ _ _ a2 b2
      · exfalso; omega
    · rcases b with ⟨b1, b2⟩ | ⟨b1, _, b2⟩
      · exfalso; omega
      · exact ih _ _ _ a2 b2
/-- one of n frames from p on has the place t -/
def FRp (w : ms_M) (c : Int) : Nat → Int → Int → Prop
  | 0, _, _ => False
  | n + 1, p, t => pw (w 238 p.toNat) (w 238 (p + 1).toNat) = t ∨ ∃ a b : Int, TYr w c (p + 2) a ∧ TYr w c a b ∧ FRp w c n b t
/-- the method under check has a frame at t -/
def HFr (h : ms_M) (c k : Int) (w : ms_M) (t : Int) : Prop := FRp w c (w 238 (h 237 (12 * c + k).toNat).toNat).toNat (h 237 (12 * c + k).toNat + 1) t
theorem mv_for2 (hn : 1000000 ≤ nn) (V : VS_ h) (M : MC h c k w) {t : Int} : Ok_ (qf_X13_frameFor nn t h) (fun u => (u = -1 ∧ ¬ HFr h c k w t) ∨ ((FRa w c u ∧ FRm w c (w 238 (h 237 (12 * c + k).toNat).toNat).toNat (h 237 (12 * c + k).toNat + 1) u) ∧ HFr h c k w t)) := by
  have M0 := M
  obtain ⟨hc, hk, W, e2, e3, _⟩ := M
  have g3 := gF_160_113 W.1
  obtain ⟨k12, _, m⟩ := wi_mt W hc hk
  obtain ⟨_, _, _, f1, f2, q, q1, fr⟩ := mth_fr m
  have L : ∀ (j : Nat) (n : Nat) (l2 l3 : Int), 0 ≤ l2 → (0 ≤ l3 ∧ l3 ≤ 255) → w 238 (h 237 (12 * c + k).toNat).toNat - l3 = n → FRn w c n l2 q → (n : Int) < j → Ok_ (qw_X13_frameFor_22 nn j t l2 l3 h) (fun u => (u = -1 ∧ ¬ FRp w c n l2 t) ∨ ((FRa w c u ∧ FRm w c n l2 u) ∧ FRp w c n l2 t)) := by
    intro j
    induction j with
    | zero => intro n l2 l3 a b e1 y hm; exfalso; omega
    | succ j ih =>
      intro n l2 l3 a b e1 y hm
      unfold qw_X13_frameFor_22
      refine ok_sv (mv_many V M0) ?_; intro u2 P2
      cases n with
      | zero =>
        rw [if_pos (show u2 ≤ l3 by have := P2.1; omega)]
        exact ok_ret (.inl ⟨rfl, fun y => y⟩)
      | succ n =>
        rw [if_neg (show ¬ u2 ≤ l3 by have := P2.1; omega)]
        obtain ⟨x, y1, z1, z2, z3⟩ := y
        have l1 := ty_le _ _ _ z1
        have l2' := ty_le _ _ _ z2
        have l3' := fr_le _ _ _ z3
        refine ok_sv (mv_pairw V hc W e2 (by omega)) ?_; intro u4 P4
        refine ok_if (fun D => ?_) (fun D => ok_ret (.inr ⟨⟨⟨a, x, y1, z1, z2, by omega⟩, .inl rfl⟩, .inl (P4.2.symm.trans (Decidable.not_not.1 D))⟩))
        refine ok_add (by omega) ?_; intro v5 e5
        refine ok_sv (mv_ends hn V hc W e2 (q := x) (by omega) (by omega) (by rw [e5]; exact z1)) ?_; intro u7 P7
        refine ok_sv (mv_ends hn V hc W e2 (q := y1) (by omega) (by omega) (by rw [P7]; exact z2)) ?_; intro u9 P9
        refine ok_add (by omega) ?_; intro v10 e10
        refine ok_im (ih n u9 v10 (by omega) (by omega) (by omega) (by rw [P9]; exact z3) (by omega)) (fun u P => ?_)
        rw [P9] at P
        rcases P with P | P
        · refine .inl ⟨P.1, fun y => ?_⟩
          rcases y with y | ⟨x2, y2, w1, w2, w3⟩
          · exact D (P4.2.trans y)
          · have ex : x2 = x := ty_det _ _ _ _ w1 z1
            rw [ex] at w2
            have ey : y2 = y1 := ty_det _ _ _ _ w2 z2
            rw [ey] at w3
            exact P.2 w3
        · exact .inr ⟨⟨P.1.1, .inr ⟨x, y1, z1, z2, P.1.2⟩⟩, .inr ⟨x, y1, z1, z2, P.2⟩⟩
  unfold HFr
  unfold qf_X13_frameFor
  rw [e2, e3]
  refine ok_mul (by omega) ?_; intro v15 e15
  refine ok_add (by omega) ?_; intro v17 e17
  refine ok_rd (by omega) (gA_237 V) ?_; intro v18 e18 a18 _
  rw [e17, e15] at e18
  refine ok_add (by omega) ?_; intro v19 e19
  have b0 : 0 ≤ w 238 (h 237 (12 * c + k).toNat).toNat := (gA_238 W.1 _ (by omega)).1
  refine ok_im (L nn (w 238 (h 237 (12 * c + k).toNat).toNat).toNat v19 0 (by omega) (by omega) (by omega) (by rw [e19, e18]; exact fr) (by omega)) (fun u P => ?_)
  rw [e19, e18] at P
  exact P
/-- the code of the method under check -/
theorem mc_code (M : MC h c k w) : (1 ≤ h 160 135 ∧ h 160 135 ≤ 1500) ∧ h 160 134 + h 160 135 < w 160 113 := by
  obtain ⟨hc, hk, W, _, _, _, _, e5, e6⟩ := M
  obtain ⟨_, _, m⟩ := wi_mt W hc hk
  obtain ⟨q, _, m⟩ := m
  unfold XM XI XG XE XD XC XR at m
  obtain ⟨_, _, _, _, _, _, n1, _, hp, _⟩ := m
  rw [e5, e6]
  exact ⟨n1, hp⟩
/-- a handler's check is safe, and tells -/
theorem mo_handler (hn : 1000000 ≤ nn) (V : VS_ h) (S : SPD h) (O : OI h) (room : h 160 117 ≤ 2090) (M : MC h c k w) {p : Int} (hp : 0 ≤ p ∧ p + 7 ≤ w 160 113) (t : CL w c (w 238 (p + 6).toNat)) : Ok_ (qf_X13_handlerFits nn p h) (fun u => GK h u.1 u.2 ∧ (¬ u.1 = 0 → CFd nn h c w (w 238 (p + 6).toNat) ∧ HFr h c k w (pw (w 238 (p + 4).toNat) (w 238 (p + 5).toNat)))) := by
  have cd := mc_code M
  have M0 := M
  have G : GK h 1 h := ⟨V, ny_rf, O, .inl ⟨rfl, rfl⟩⟩
  obtain ⟨hc, hk, W, e2, _⟩ := M
  have g3 := gF_160_113 W.1
  have J : ∀ (a s : Int), a = pw (w 238 (p + 4).toNat) (w 238 (p + 5).toNat) → Ok_ (qj_X13_handlerFits_94 nn p a s h) (fun u => GK h u.1 u.2 ∧ (¬ u.1 = 0 → CFd nn h c w (w 238 (p + 6).toNat) ∧ HFr h c k w (pw (w 238 (p + 4).toNat) (w 238 (p + 5).toNat)))) := fun a s ea => by
    unfold qj_X13_handlerFits_94
    rw [e2, ← ea]
    refine ok_add (by omega) ?_; intro v3 e3
    refine ok_sv (mv_bytew V hc W (by omega)) ?_; intro u5 P5
    have q5 := P5.1
    rw [e3] at q5
    rw [← q5] at t ⊢
    refine ok_sv (ro_typeOf hn V S O (by omega) hc W t) ?_; intro u7 P7
    obtain ⟨tr, F⟩ := P7
    have V7 := tr.1
    have b7 := tr_rg V tr
    have g98 := gF_160_98 V
    have no : Ok_ (some ((0 : Int), u7.2)) (fun u : Int × ms_M => GK h u.1 u.2 ∧ (¬ u.1 = 0 → CFd nn h c w u5 ∧ HFr h c k w a)) := ok_ret ⟨⟨tr.1, tr.2.1, tr.2.2.1, .inr ⟨rfl, by have := tr.2.2.2; show u7.2 160 117 ≤ _; omega⟩⟩, fun z => absurd rfl z⟩
    refine ok_if (fun _ => no) (fun _ => ?_)
    have M7 : MC u7.2 c k w := mc_ny tr.2.1 M0
    refine ok_sv (mv_for2 hn V7 M7) ?_; intro u9 P9
    refine ok_if (fun _ => no) (fun C => ?_)
    refine ok_sv (rv_there b7) ?_; intro u10 P10
    refine ok_if (fun _ => no) (fun D => ?_)
    have f98 : u7.2 160 98 = h 160 98 := tr.2.1 160 98 (by decide) (by decide) (by decide)
    have t4 := tr.2.2.2
    refine ok_sv (rv_goes hn V7 (ny_spd V tr.2.1 S) ⟨by omega, by omega⟩ (by omega)) ?_; intro u12 _
    refine ok_if (fun _ => no) (fun _ => ok_ret ⟨⟨tr.1, tr.2.1, tr.2.2.1, .inl ⟨rfl, by show u7.2 160 117 = _; omega⟩⟩, fun _ => ⟨F (by omega), ?_⟩⟩)
    rcases P9 with P9 | P9
    · exact absurd P9.1 C
    · have x := P9.2
      unfold HFr at x ⊢
      rw [tr.2.1 237 _ (by omega) (by decide) (by decide)] at x
      exact x
  unfold qf_X13_handlerFits
  refine ok_sv (mv_pairw V hc W e2 (by omega)) ?_; intro u19 P19
  refine ok_add (by omega) ?_; intro v20 e20
  refine ok_sv (mv_pairw V hc W e2 (by omega)) ?_; intro u22 P22
  refine ok_add (by omega) ?_; intro v23 e23
  refine ok_sv (mv_pairw V hc W e2 (by omega)) ?_; intro u25 P25
  have ea : u25 = pw (w 238 (p + 4).toNat) (w 238 (p + 5).toNat) := by rw [P25.2, e23, show p + 4 + 1 = p + 5 by omega]
  have b19 := P19.1
  have b22 := P22.1
  have b25 := P25.1
  have J3 : Ok_ (qj_X13_handlerFits_93 nn p u25 h) (fun u => GK h u.1 u.2 ∧ (¬ u.1 = 0 → CFd nn h c w (w 238 (p + 6).toNat) ∧ HFr h c k w (pw (w 238 (p + 4).toNat) (w 238 (p + 5).toNat)))) := by
    unfold qj_X13_handlerFits_93
    exact J u25 0 ea
  have J4 : Ok_ (qj_X13_handlerFits_84 nn p u19 u22 u25 h) (fun u => GK h u.1 u.2 ∧ (¬ u.1 = 0 → CFd nn h c w (w 238 (p + 6).toNat) ∧ HFr h c k w (pw (w 238 (p + 4).toNat) (w 238 (p + 5).toNat)))) := by
    unfold qj_X13_handlerFits_84
    exact ok_if (fun _ => J3) (fun _ => J u25 1 ea)
  refine ok_if (fun _ => J3) (fun A => ?_)
  refine ok_rd (by omega) (gA_242 V) ?_; intro v28 _ _ _
  refine ok_if (fun _ => J3) (fun _ => ?_)
  refine ok_if (fun _ => J3) (fun B => ?_)
  refine ok_rd (by omega) (gA_242 V) ?_; intro v31 _ _ _
  refine ok_if (fun _ => J3) (fun _ => ?_)
  refine ok_if (fun _ => J4) (fun _ => ?_)
  refine ok_if (fun _ => J3) (fun C => ?_)
  refine ok_rd (by omega) (gA_242 V) ?_; intro v35 _ _ _
  exact ok_if (fun _ => J3) (fun _ => J4)
end
