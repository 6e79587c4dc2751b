section
variable {nn : Nat} {h g r z w v : ms_M} {c d k : Int}
theorem mc_k (A : ∀ x j : Nat, ¬ (x = 160 ∧ (j < 129 ∨ 135 < j)) → x < 238 → r x j = h x j) (M : MC h c k w) : MC r c k w := by
  obtain ⟨hc, hk, W, e1, e2, e3, e4, e5, e6⟩ := M
  refine ⟨hc, ?_, wi_k (fun x j _ _ => A x j (by omega) (by omega)) W, ?_, ?_, ?_, ?_, ?_, ?_⟩
  · rw [A 234 _ (by omega) (by decide)]; exact hk
  · rw [A 160 132 (by omega) (by decide)]; exact e1
  · rw [A 160 133 (by omega) (by decide)]; exact e2
  · rw [A 160 130 (by omega) (by decide), A 235 _ (by omega) (by decide)]; exact e3
  · rw [A 160 129 (by omega) (by decide), A 235 _ (by omega) (by decide)]; exact e4
  · rw [A 160 135 (by omega) (by decide), A 235 _ (by omega) (by decide)]; exact e5
  · rw [A 160 134 (by omega) (by decide), A 235 _ (by omega) (by decide)]; exact e6
theorem mc_ny (N : NY h r) (M : MC h c k w) : MC r c k w := mc_k (fun x j y y2 => N x j (by omega) (by omega) (by omega)) M
/-- n types from p to q, all their classes are there -/
def TYf (nn : Nat) (h : ms_M) (c : Int) (w : ms_M) : Nat → Int → Int → Prop
  | 0, p, q => p = q
  | n + 1, p, q => (w 238 p.toNat ≤ 2 ∧ TYf nn h c w n (p + 1) q) ∨ (w 238 p.toNat = 3 ∧ (CL w c (w 238 (p + 1).toNat) ∧ CFd nn h c w (w 238 (p + 1).toNat)) ∧ TYf nn h c w n (p + 2) q)
theorem tyf_c (A : AGc h g) : ∀ (n : Nat) (p q : Int), TYf nn h c w n p q → TYf nn g c w n p q := by
  intro n
  induction n with
  | zero => intro p q y; exact y
  | succ n ih =>
    intro p q y
    rcases y with ⟨a, b⟩ | ⟨a, b, d⟩
    · exact .inl ⟨a, ih _ _ b⟩
    · exact .inr ⟨a, ⟨b.1, cfd_c A b.2⟩, ih _ _ d⟩
theorem mo_framed (hn : 1000000 ≤ nn) (V : VS_ h) (S : SPD h) (O : OI h) (room : h 160 117 ≤ 2099) (M : MC h c k w) {p : Int} (hp : 0 ≤ p ∧ p < w 160 113) (t : w 238 p.toNat ≤ 2 ∨ (w 238 p.toNat = 3 ∧ p + 1 < w 160 113 ∧ CL w c (w 238 (p + 1).toNat))) : Ok_ (qf_X13_framed nn p h) (fun u => TR h u ∧ (u.1 < 36 → w 238 p.toNat = 3 → CFd nn h c w (w 238 (p + 1).toNat))) := by
  obtain ⟨hc, hk, W, e1, _⟩ := M
  have g3 := gF_160_113 W.1
  have g98 := gF_160_98 V
  unfold qf_X13_framed
  rw [e1]
  refine ok_sv (mv_bytew V hc W hp) ?_; intro u3 P3
  have q3 := P3.1
  refine ok_if (fun C => ?_) (fun C => ?_)
  · rcases t with t | ⟨t, p1, cl⟩
    · exfalso; omega
    refine ok_add (by omega) ?_; intro v6 e6
    refine ok_sv (mv_bytew V hc W (by omega)) ?_; intro u8 P8
    have q8 := P8.1
    rw [e6] at q8
    rw [← q8] at cl ⊢
    refine ok_sv (ro_typeOf hn V S O room hc W cl) ?_; intro u10 P10
    exact ok_ret ⟨P10.1, fun y _ => P10.2 y⟩
  · refine ok_sv (mv_bytew V hc W hp) ?_; intro u13 P13
    have q13 := P13.1
    have b13 := P13.2
    exact ok_ret ⟨⟨V, ny_rf, O, .inl ⟨by show 0 ≤ u13; omega, by show u13 < _; omega, rfl⟩⟩, fun _ y => by exfalso; omega⟩
theorem mo_50 (hn : 1000000 ≤ nn) (V : VS_ h) (S : SPD h) (room : h 160 117 ≤ 2090) (M : MC h c k w) {X : Prop} {q l3 l4 : Int} {K : Int → Int → ms_M → Option (Int × ms_M)} (h3 : 0 ≤ l3 ∧ l3 ≤ 1) (h4 : l4 ≤ 255) (hq : q ≤ w 160 113) (HK : ∀ f : ms_M, GK h 1 f → Ok_ (K q (l3 + 1) f) (fun u => GK h u.1 u.2 ∧ (¬ u.1 = 0 → X))) : ∀ (j : Nat) (n : Nat) (l2 l5 : Int) (f : ms_M), GK h 1 f → 0 ≤ l2 → (0 ≤ l5 ∧ l5 ≤ 255) → l4 - l5 = n → TYn w c n l2 q → (n : Int) < j → Ok_ (qw_X13_frameIsThere_50 nn K j l2 l3 l4 l5 f) (fun u => GK h u.1 u.2 ∧ (¬ u.1 = 0 → TYf nn h c w n l2 q ∧ X)) := by
  have g3 := gF_160_113 M.2.2.1.1
  intro j
  induction j with
  | zero => intro n l2 l5 f G a b e t hm; exfalso; omega
  | succ j ih =>
    intro n l2 l5 f G a b e t hm
    have Nf := G.2.1
    have Mf : MC f c k w := mc_ny Nf M
    have Sf : SPD f := ny_spd V Nf S
    have e117 : f 160 117 = h 160 117 := by have := G.2.2.2; omega
    unfold qw_X13_frameIsThere_50
    cases n with
    | zero =>
      have t : l2 = q := t
      rw [if_pos (show l4 ≤ l5 by omega)]
      refine ok_add (by omega) ?_; intro v3 e3
      rw [t, e3]
      exact ok_im (HK f G) (fun u P => ⟨P.1, fun y => ⟨rfl, P.2 y⟩⟩)
    | succ n =>
      rw [if_neg (show ¬ l4 ≤ l5 by omega)]
      have le := ty_le _ _ _ t
      have tt : w 238 l2.toNat ≤ 2 ∨ (w 238 l2.toNat = 3 ∧ l2 + 1 < w 160 113 ∧ CL w c (w 238 (l2 + 1).toNat)) := by
        rcases t with ⟨t1, _⟩ | ⟨t1, t2, t3⟩
        · exact .inl t1
        · have := ty_le _ _ _ t3
          exact .inr ⟨t1, by omega, t2⟩
      refine ok_sv (mo_framed hn G.1 Sf G.2.2.1 (by omega) Mf (by omega) tt) ?_; intro u5 P5
      obtain ⟨tr, F5⟩ := P5
      refine ok_sv (rv_there (tr_rg G.1 tr)) ?_; intro u6 P6
      refine ok_if (fun y => ?_) (fun y => ok_ret ⟨show GK h 0 u5.2 from gk_ty G tr (.inr ⟨rfl, by omega⟩), fun z => absurd rfl z⟩)
      have G5 : GK h 1 u5.2 := gk_ty G tr (by omega)
      have M5 : MC u5.2 c k w := mc_ny G5.2.1 M
      rw [M5.2.2.2.1]
      refine ok_sv (mv_bytew G5.1 M.1 M5.2.2.1 (by omega)) ?_; intro u9 P9
      have q9 := P9.1
      rcases t with ⟨t1, t2⟩ | ⟨t1, t2, t3⟩
      · rw [if_pos (show ¬ u9 = 3 by omega)]
        unfold qj_X13_frameIsThere_89
        refine ok_add (by omega) ?_; intro v1 e1
        refine ok_add (by omega) ?_; intro v2 e2
        rw [show v1 = l2 + 1 by omega]
        exact ok_im (ih n (l2 + 1) v2 u5.2 G5 (by omega) (by omega) (by omega) t2 (by omega)) (fun u P => ⟨P.1, fun z => ⟨.inl ⟨t1, (P.2 z).1⟩, (P.2 z).2⟩⟩)
      · rw [if_neg (show ¬ ¬ u9 = 3 by omega)]
        unfold qj_X13_frameIsThere_89
        refine ok_add (by omega) ?_; intro v1 e1
        refine ok_add (by omega) ?_; intro v2 e2
        rw [show v1 = l2 + 2 by omega]
        have cf : CFd nn h c w (w 238 (l2 + 1).toNat) := cfd_c (ag_sy (ny_ag Nf)) (F5 (by omega) t1)
        exact ok_im (ih n (l2 + 2) v2 u5.2 G5 (by omega) (by omega) (by omega) t3 (by omega)) (fun u P => ⟨P.1, fun z => ⟨.inr ⟨t1, ⟨t2, cf⟩, (P.2 z).1⟩, (P.2 z).2⟩⟩)
/-- the frame at p: its types are there, and they fit in -/
def FOK (nn : Nat) (h : ms_M) (c k : Int) (w : ms_M) (p : Int) : Prop := ∃ a b : Int, (w 238 (p + 2).toNat ≤ h 160 129 ∧ TYf nn h c w (w 238 (p + 2).toNat).toNat (p + 3) a) ∧ (w 238 a.toNat ≤ h 160 130 ∧ TYf nn h c w (w 238 a.toNat).toNat (a + 1) b) ∧ b ≤ w 160 113
theorem mo_frame (hn : 1000000 ≤ nn) (V : VS_ h) (S : SPD h) (O : OI h) (room : h 160 117 ≤ 2090) (M : MC h c k w) {p : Int} (F : FRa w c p) : Ok_ (qf_X13_frameIsThere nn p h) (fun u => GK h u.1 u.2 ∧ (¬ u.1 = 0 → FOK nn h c k w p)) := by
  have g3 := gF_160_113 M.2.2.1.1
  have hc := M.1
  obtain ⟨p0, a, b, t1, t2, lb⟩ := F
  have l1 := ty_le _ _ _ t1
  have l2 := ty_le _ _ _ t2
  unfold TYr at t1 t2
  have w2 := gA_238 M.2.2.1.1 (p + 2).toNat (by omega)
  have wa := gA_238 M.2.2.1.1 a.toNat (by omega)
  -- the second part
  have K2 : ∀ (j : Nat) (f : ms_M), 3 ≤ j → GK h 1 f → Ok_ (qw_X13_frameIsThere_6 nn (j - 1) a 1 f) (fun u => GK h u.1 u.2 ∧ (¬ u.1 = 0 → w 238 a.toNat ≤ h 160 130 ∧ TYf nn h c w (w 238 a.toNat).toNat (a + 1) b)) := fun j f hj G => by
    obtain ⟨i, rfl⟩ : ∃ i, j = i + 3 := ⟨j - 3, by omega⟩
    have Mf : MC f c k w := mc_ny G.2.1 M
    have f130 : f 160 130 = h 160 130 := G.2.1 160 130 (by decide) (by decide) (by decide)
    show Ok_ (qw_X13_frameIsThere_6 nn (i + 1 + 1) a 1 f) _
    unfold qw_X13_frameIsThere_6
    rw [if_neg (show ¬ (2 : Int) ≤ 1 by decide), Mf.2.2.2.1]
    refine ok_sv (mv_bytew G.1 hc Mf.2.2.1 (by omega)) ?_; intro u17 P17
    have q17 := P17.1
    rw [if_pos (show ¬ (1 : Int) = 0 by decide)]
    unfold qj_X13_frameIsThere_39
    refine ok_if (fun C => ?_) (fun C => ok_ret ⟨⟨G.1, G.2.1, G.2.2.1, .inr ⟨rfl, by have := G.2.2.2; show f 160 117 ≤ _; omega⟩⟩, fun z => absurd rfl z⟩)
    refine ok_add (by omega) ?_; intro v13 e13
    have fin : ∀ f2 : ms_M, GK h 1 f2 → Ok_ (qw_X13_frameIsThere_6 nn (i + 1) b (1 + 1) f2) (fun u => GK h u.1 u.2 ∧ (¬ u.1 = 0 → True)) := fun f2 G2 => by
      unfold qw_X13_frameIsThere_6
      rw [if_pos (show (2 : Int) ≤ 1 + 1 by decide)]
      exact ok_ret ⟨G2, fun _ => trivial⟩
    refine ok_im (mo_50 hn V S room M (X := True) (q := b) (l3 := 1) (l4 := u17) (by omega) (by omega) lb fin nn (w 238 a.toNat).toNat v13 0 f G (by omega) (by omega) (by omega) (by rw [e13]; exact t2) (by omega)) (fun u P => ⟨P.1, fun z => ⟨by omega, ?_⟩⟩)
    have := (P.2 z).1
    rw [e13] at this; exact this
  unfold qf_X13_frameIsThere
  refine ok_add (by omega) ?_; intro v22 e22
  obtain ⟨i, rfl⟩ : ∃ i, nn = i + 3 := ⟨nn - 3, by omega⟩
  have G : GK h 1 h := ⟨V, ny_rf, O, .inl ⟨rfl, rfl⟩⟩
  show Ok_ (qw_X13_frameIsThere_6 (i + 3) (i + 2 + 1) v22 0 h) _
  unfold qw_X13_frameIsThere_6
  rw [if_neg (show ¬ (2 : Int) ≤ 0 by decide), M.2.2.2.1]
  refine ok_sv (mv_bytew V hc M.2.2.1 (by omega)) ?_; intro u17 P17
  have q17 := P17.1
  rw [e22] at q17
  rw [if_neg (show ¬ ¬ (0 : Int) = 0 by decide)]
  unfold qj_X13_frameIsThere_39
  refine ok_if (fun C => ?_) (fun C => ok_ret ⟨⟨V, ny_rf, O, .inr ⟨rfl, by show h 160 117 ≤ _; omega⟩⟩, fun z => absurd rfl z⟩)
  refine ok_add (by omega) ?_; intro v13 e13
  refine ok_im (mo_50 hn V S room M (q := a) (l3 := 0) (l4 := u17) (by omega) (by omega) (by omega) (fun f Gf => K2 (i + 3) f (by omega) Gf) (i + 3) (w 238 (p + 2).toNat).toNat v13 0 h G (by omega) (by omega) (by omega) (by rw [e13, e22]; exact t1) (by omega)) (fun u P => ⟨P.1, fun z => ?_⟩)
  obtain ⟨x, y1, y2⟩ := P.2 z
  rw [e13, e22, show p + 2 + 1 = p + 3 by omega] at x
  exact ⟨a, b, ⟨by omega, x⟩, ⟨y1, y2⟩, lb⟩
end
