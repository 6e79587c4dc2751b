section
variable {nn : Nat} {h g r z : ms_M} {c : Int}
theorem ok_both {α : Type} {x : Option α} {P Q : α → Prop} (a : Ok_ x P) (b : Ok_ x Q) : Ok_ x (fun u => P u ∧ Q u) := by
  obtain ⟨u, e, p⟩ := a
  obtain ⟨v, e2, q⟩ := b
  rw [e] at e2
  cases e2
  exact ⟨u, e, p, q⟩
/-- two bytes as a number -/
def pw (a b : Int) : Int := oq_or (256 * a) b
theorem sr_pair (V : VS_ g) {p : Int} (hp : 0 ≤ p ∧ p + 1 < 6000) : Ok_ (qf_X13_pairAt nn p g) (fun u => (0 ≤ u ∧ u ≤ 65535) ∧ u = pw (g 238 p.toNat) (g 238 (p + 1).toNat)) := by
  unfold qf_X13_pairAt
  refine ok_rd (by omega) (gA_238 V) ?_; intro v2 e2 a2 b2
  refine ok_shl8 ⟨a2, b2⟩ ?_; intro v3 e3
  refine ok_add (by omega) ?_; intro v5 e5
  refine ok_rd (by omega) (gA_238 V) ?_; intro v6 e6 a6 b6
  refine ok_xl ?_; intro v7 e7
  have w := oq_or_rg (x := v3) (y := v6) (by omega) (by omega)
  refine ok_ret ⟨by rw [e7]; exact w, ?_⟩
  unfold pw
  rw [e7, ← e2, ← e5, ← e6, show (256 : Int) * v2 = v3 by omega]
/-- a method's kind has its parameters counted -/
theorem sk_par2 (hn : 1000000 ≤ nn) (V : VS_ h) (hc : h 160 115 = c) (S : CSn h c (h 229 c.toNat)) {i : Int} : Ok_ (qf_X13_isText nn i 2 h) (fun u => ¬ u = 0 → ∃ m : Int, (0 ≤ m ∧ m ≤ 6) ∧ qf_X13_parametersIn nn 238 (pl h c i + 2) (h 238 (pl h c i + 1).toNat) h = some m) := by
  have g := gF_160_115 V
  have g3 := gF_160_113 V
  unfold qf_X13_isText
  refine ok_sv (sq_const V (c := h 160 115) (by omega)) ?_; intro u3 P3
  refine ok_if (fun _ => ok_ret (fun y => absurd rfl y)) (fun C => ?_)
  rcases P3 with P3 | ⟨P3, P4, P5, P6⟩
  · exfalso; omega
  rw [hc] at P3 P4
  have K := S i P3.1 P3.2
  rw [← P4] at K
  obtain ⟨K0, K⟩ := K
  refine ok_rd (by omega) (gA_238 V) ?_; intro v5 e5 _ _
  refine ok_if (fun D => ?_) (fun _ => ok_ret (fun y => absurd rfl y))
  have K : (1 ≤ h 238 (u3 + 1).toNat ∧ h 238 (u3 + 1).toNat ≤ 120) ∧ u3 + 2 + h 238 (u3 + 1).toNat ≤ h 160 113 := by
    rcases K with K | K | K | K
    · exact K.2
    · exfalso; omega
    · exfalso; omega
    · exfalso; omega
  refine ok_add (by omega) ?_; intro v7 e7
  refine ok_rd (by omega) (gA_238 V) ?_; intro v8 e8 _ _
  rw [e7] at e8
  refine ok_if (fun E => absurd E (by decide)) (fun _ => ?_)
  refine ok_if (fun E => absurd E (by decide)) (fun _ => ?_)
  refine ok_if (fun _ => ?_) (fun E => absurd rfl E)
  refine ok_add (by omega) ?_; intro v22 e22
  unfold qf_X13_isMethodKind
  obtain ⟨u1, e1, P1⟩ := sc_pars hn (c := 238) (n := 6000) (.inl ⟨rfl, rfl⟩) V (a := v22) (l := v8) (by omega) (by omega) (by omega)
  rw [← P4, ← e8, ← e22, e1, mx_svs]
  refine ok_sv (P := fun u => (u = 0 ∨ u = 1) ∧ (¬ u = 0 → 0 ≤ u1 ∧ u1 ≤ 6)) ?_ ?_
  · refine ok_if (fun _ => ok_ret ⟨.inl rfl, fun y => absurd rfl y⟩) (fun C2 => ?_)
    exact ok_if (fun _ => ok_ret ⟨.inl rfl, fun y => absurd rfl y⟩) (fun C3 => ok_ret ⟨.inr rfl, fun _ => by omega⟩)
  · intro u P
    exact ok_ck P.1 (ok_ret (fun y => ⟨u1, P.2 y, rfl⟩))
theorem st9_text2 (hn : 1000000 ≤ nn) (S : ST8 h g c) (B : SI8 h c) {i : Int} : Ok_ (qf_X13_isText nn i 2 g) (fun u => (u = 0 ∨ u = 1) ∧ (¬ u = 0 → TS 2 h c i ∧ ∃ m : Int, (0 ≤ m ∧ m ≤ 6) ∧ qf_X13_parametersIn nn 238 (pl h c i + 2) (h 238 (pl h c i + 1).toNat) g = some m)) := by
  have K := S.2.1
  have Bg := si8_ke K B
  refine ok_im (ok_both (st9_text hn S B) (sk_par2 hn S.1 Bg.1 Bg.2.1)) (fun u P => ⟨P.1.1, fun y => ⟨P.1.2 y, ?_⟩⟩)
  have t := P.2 y
  rw [pl_ke K, (K.1 _).1] at t
  exact t
/-- behind the code: the handlers and the frames -/
theorem sr_293 (hn : 1000000 ≤ nn) (V0 : VS_ h) (hc : 0 ≤ c ∧ c ≤ 7) (B : Live h → SI8 h c) {l2 l4 l7 : Int} (h2 : 0 ≤ l2 ∧ l2 < 12) (h7 : 0 ≤ l7 ∧ l7 ≤ 65535) (S : ST8 h g c) (a : 0 ≤ l4 ∧ l4 ≤ 6000) : Ok_ (qj_X13_scanMethod_293 nn c l2 l4 l7 g) (QM9 236 (XR h c l2 (l4 + 7 + l7)) h c l2 g) := by
  have g113 := gF_160_113 S.1
  unfold qj_X13_scanMethod_293
  refine ok_add (by omega) ?_; intro v64 e64
  refine ok_add (by omega) ?_; intro v65 e65
  rw [show l4 + 7 + l7 = v65 by omega]
  refine ok_if (fun _ => sr_328 hn V0 hc B h2 S (by omega)) (fun D => ?_)
  refine ok_if (fun _ => sr_328 hn V0 hc B h2 S (by omega)) (fun _ => ?_)
  refine ok_xl ?_; intro h69 E69
  have q : h69 160 114 = g 160 113 := by rw [E69, up_s]
  have d : ¬ Live h69 := by unfold Live; omega
  have N : NB g h69 := fun x k w => by rw [E69, up_n w]
  have S69 : ST8 h h69 c := ⟨by rw [E69]; exact wF_160_114 S.1 (by omega), ke8_tr S.2.1 (ke_nb N), nt8_tr S.2.2.1 (nt8_nb N), fun y => absurd y d⟩
  exact ok_im (sr_328 hn V0 hc B h2 S69 (by omega)) (fun u w => qm_dead (Nat.le_refl _) d (n6_nb N) w)
theorem sr_285 {X : Int → ms_M → Prop} (hn : 1000000 ≤ nn) (V0 : VS_ h) (hc : 0 ≤ c ∧ c ≤ 7) (B : Live h → SI8 h c) {l2 l4 l7 : Int} (h2 : 0 ≤ l2 ∧ l2 < 12) (h7 : 0 ≤ l7 ∧ l7 ≤ 65535) (S : ST8 h g c) (a : 0 ≤ l4 ∧ l4 ≤ 6000) : Ok_ (qj_X13_scanMethod_285 nn c l2 l4 l7 g) (QM9 236 X h c l2 g) := by
  unfold qj_X13_scanMethod_285
  refine ok_add (by omega) ?_; intro v72 e72
  refine ok_sv (st9_unfit S (by omega)) ?_; intro u74 P
  exact ok_im (sr_293 hn V0 hc B h2 h7 P.1 a) (fun u w => qm_dead (Nat.le_refl _) P.2.2 (n6_nb P.2.1) w)
/-- the code of the method at p and what is behind it -/
def XC (h : ms_M) (c k p q : Int) (r : ms_M) : Prop := (1 ≤ pw (h 238 (p + 5).toNat) (h 238 (p + 6).toNat) ∧ pw (h 238 (p + 5).toNat) (h 238 (p + 6).toNat) ≤ 1500) ∧ XR h c k (p + 7 + pw (h 238 (p + 5).toNat) (h 238 (p + 6).toNat)) q r
theorem sr_232 (hn : 1000000 ≤ nn) (V0 : VS_ h) (hc : 0 ≤ c ∧ c ≤ 7) (B : Live h → SI8 h c) {l2 l4 : Int} (h2 : 0 ≤ l2 ∧ l2 < 12) (S : ST8 h g c) (a : 0 ≤ l4 ∧ l4 ≤ 6000) : Ok_ (qj_X13_scanMethod_232 nn c l2 l4 g) (QM9 236 (XC h c l2 l4) h c l2 g) := by
  have g113 := gF_160_113 V0
  unfold qj_X13_scanMethod_232
  refine ok_add (by omega) ?_; intro v75 e75
  refine ok_sv (st9_byte S) ?_; intro u77 P
  obtain ⟨S77, N77, P⟩ := P
  rcases P with ⟨p1, p2, p3, p4⟩ | ⟨p1, p2⟩
  · rw [if_pos (show ¬ u77.1 = 0 by omega), p2]
    refine ok_add (by omega) ?_; intro v78 e78
    refine ok_sv (st9_byte S) ?_; intro u80 P
    obtain ⟨S80, N80, P⟩ := P
    rcases P with ⟨q1, q2, q3, q4⟩ | ⟨q1, q2⟩
    · rw [if_pos (show ¬ u80.1 = 0 by omega), q2]
      refine ok_add (by omega) ?_; intro v81 e81
      refine ok_sv (sr_pair S.1 (by omega)) ?_; intro u83 P83
      obtain ⟨P83, W⟩ := P83
      rw [f238 S.2.1, e81, show l4 + 5 + 1 = l4 + 6 by omega] at W
      refine ok_if (fun _ => sr_285 hn V0 hc B h2 P83 S a) (fun E => ?_)
      refine ok_if (fun F => ?_) (fun _ => sr_285 hn V0 hc B h2 P83 S a)
      refine ok_im (sr_293 hn V0 hc B h2 P83 S a) (fun u q => qm_live (Nat.le_refl _) id (n6_nb nb_rf) (fun q r _ w => ?_) q)
      unfold XC
      rw [← W]
      exact ⟨by omega, w⟩
    · rw [if_neg (show ¬ ¬ u80.1 = 0 by omega)]
      exact ok_ret ⟨⟨S80, by show 0 ≤ l4 ∧ l4 ≤ 80000; omega, fun y => absurd y q2⟩, n6_nb N80, fun y => absurd y q2⟩
  · rw [if_neg (show ¬ ¬ u77.1 = 0 by omega)]
    exact ok_ret ⟨⟨S77, by show 0 ≤ l4 ∧ l4 ≤ 80000; omega, fun y => absurd y p2⟩, n6_nb N77, fun y => absurd y p2⟩
/-- its locals hold its parameters -/
def XD (h : ms_M) (c k p q : Int) (r : ms_M) : Prop := h 238 (p + 4).toNat ≤ 30 ∧ (∃ m : Nat, m ≤ 6 ∧ MKn (h 238) m (pl h c (h 238 (p + 2).toNat) + 2) (pl h c (h 238 (p + 2).toNat) + 2 + h 238 (pl h c (h 238 (p + 2).toNat) + 1).toNat) ∧ (m : Int) + 1 ≤ h 238 (p + 4).toNat + h 238 p.toNat) ∧ XC h c k p q r
theorem sr_134 (hn : 1000000 ≤ nn) (V0 : VS_ h) (hc : 0 ≤ c ∧ c ≤ 7) (B : Live h → SI8 h c) {l2 l4 : Int} (h2 : 0 ≤ l2 ∧ l2 < 12) (S : ST8 h g c) (a : 0 ≤ l4 ∧ l4 ≤ 6000) (t : Live g → TS 2 h c (h 238 (l4 + 2).toNat) ∧ ∃ m : Int, (0 ≤ m ∧ m ≤ 6) ∧ qf_X13_parametersIn nn 238 (pl h c (h 238 (l4 + 2).toNat) + 2) (h 238 (pl h c (h 238 (l4 + 2).toNat) + 1).toNat) g = some m) : Ok_ (qj_X13_scanMethod_134 nn c l2 l4 g) (QM9 236 (XD h c l2 l4) h c l2 g) := by
  have g113 := gF_160_113 V0
  have K := S.2.1
  unfold qj_X13_scanMethod_134
  refine ok_add (by omega) ?_; intro v91 e91
  refine ok_sv (st9_byte S) ?_; intro u93 P
  obtain ⟨S93, N93, P⟩ := P
  rcases P with ⟨p1, p2, p3, p4⟩ | ⟨p1, p2⟩
  · rw [if_pos (show ¬ u93.1 = 0 by omega), p2]
    have Bh := B (S.2.2.2 p3)
    obtain ⟨t, m, m0, em⟩ := t p3
    have t := t.1
    refine ok_add (by omega) ?_; intro v95 e95
    refine ok_rd (by omega) (gA_238 S.1) ?_; intro v96 e96 _ _
    rw [e95, (K.1 _).1] at e96
    unfold XD
    rw [← e96] at t em ⊢
    refine ok_sv (sq_const S.1 hc) ?_; intro u98 P98
    have P98 : u98 = pl h c v96 ∧ 0 ≤ u98 ∧ u98 ≤ 6000 := by
      rcases P98 with P98 | P98
      · exfalso; have := t.1; rw [K.2.2.2] at P98; exact P98.2 this
      · exact ⟨by rw [P98.2.1, pl_ke K], P98.2.2⟩
    have cp := Bh.2.1 v96 t.1.1 t.1.2
    rw [← P98.1] at cp em ⊢
    have tg : h 238 u98.toNat = 1 := by rw [P98.1]; exact t.2
    have cp2 : (1 ≤ h 238 (u98 + 1).toNat ∧ h 238 (u98 + 1).toNat ≤ 120) ∧ u98 + 2 + h 238 (u98 + 1).toNat ≤ h 160 113 := by
      obtain ⟨_, x⟩ := cp
      rcases x with x | x | x | x
      · exact x.2
      · exfalso; omega
      · exfalso; omega
      · exfalso; omega
    refine ok_add (by omega) ?_; intro v100 e100
    refine ok_add (by omega) ?_; intro v102 e102
    refine ok_rd (by omega) (gA_238 S.1) ?_; intro v103 e103 _ _
    rw [e102, (K.1 _).1] at e103
    rw [← e100, ← e103] at em ⊢
    have MK : MKn (h 238) m.toNat v100 (v100 + v103) := by
      obtain ⟨u, eu, Pu⟩ := sk_pars hn (c := 238) (n := 6000) (.inl ⟨rfl, rfl⟩) S.1 (a := v100) (l := v103) (by omega) (by omega) (by omega)
      rw [em] at eu
      cases eu
      rcases Pu with Pu | Pu
      · exfalso; omega
      · rw [f238 K] at Pu; exact Pu.2
    rw [em, mx_svs]
    refine ok_add (by omega) ?_; intro v105 e105
    refine ok_rd (by omega) (gA_238 S.1) ?_; intro v107 e107 _ _
    rw [(K.1 _).1] at e107
    refine ok_sub (by omega) ?_; intro v108 e108
    refine ok_add (by omega) ?_; intro v110 e110
    refine ok_rd (by omega) (gA_238 S.1) ?_; intro v111 e111 _ _
    rw [(K.1 _).1, e110] at e111
    have bad : ∀ X : Int → ms_M → Prop, Ok_ (qj_X13_scanMethod_224 nn c l2 l4 g) (QM9 236 X h c l2 g) := fun X => by
      unfold qj_X13_scanMethod_224
      refine ok_add (by omega) ?_; intro v88 e88
      refine ok_sv (st9_unfit S (by omega)) ?_; intro u90 P90
      exact ok_im (sr_232 hn V0 hc B h2 P90.1 a) (fun u w => qm_dead (Nat.le_refl _) P90.2.2 (n6_nb P90.2.1) w)
    refine ok_if (fun _ => bad _) (fun F => ?_)
    refine ok_add (by omega) ?_; intro v113 e113
    refine ok_rd (by omega) (gA_238 S.1) ?_; intro v114 e114 _ _
    rw [(K.1 _).1, e113] at e114
    refine ok_if (fun G => ?_) (fun _ => bad _)
    refine ok_im (sr_232 hn V0 hc B h2 S a) (fun u q => qm_live (Nat.le_refl _) id (n6_nb nb_rf) (fun q r _ w => ⟨by omega, ⟨m.toNat, by omega, MK, by omega⟩, w⟩) q)
  · rw [if_neg (show ¬ ¬ u93.1 = 0 by omega)]
    exact ok_ret ⟨⟨S93, by show 0 ≤ l4 ∧ l4 ≤ 80000; omega, fun y => absurd y p2⟩, n6_nb N93, fun y => absurd y p2⟩
def XE (h : ms_M) (c k p q : Int) (r : ms_M) : Prop := h 238 (p + 3).toNat ≤ 30 ∧ XD h c k p q r
theorem sr_101 (hn : 1000000 ≤ nn) (V0 : VS_ h) (hc : 0 ≤ c ∧ c ≤ 7) (B : Live h → SI8 h c) {l2 l4 : Int} (h2 : 0 ≤ l2 ∧ l2 < 12) (S : ST8 h g c) (a : 0 ≤ l4 ∧ l4 ≤ 6000) (t : Live g → TS 2 h c (h 238 (l4 + 2).toNat) ∧ ∃ m : Int, (0 ≤ m ∧ m ≤ 6) ∧ qf_X13_parametersIn nn 238 (pl h c (h 238 (l4 + 2).toNat) + 2) (h 238 (pl h c (h 238 (l4 + 2).toNat) + 1).toNat) g = some m) : Ok_ (qj_X13_scanMethod_101 nn c l2 l4 g) (QM9 236 (XE h c l2 l4) h c l2 g) := by
  have g113 := gF_160_113 V0
  unfold qj_X13_scanMethod_101
  refine ok_add (by omega) ?_; intro v118 e118
  refine ok_sv (st9_byte S) ?_; intro u120 P
  obtain ⟨S120, N120, P⟩ := P
  rcases P with ⟨p1, p2, p3, p4⟩ | ⟨p1, p2⟩
  · rw [if_neg (show ¬ u120.1 = 0 by omega), p2]
    refine ok_add (by omega) ?_; intro v122 e122
    refine ok_rd (by omega) (gA_238 S.1) ?_; intro v123 e123 _ _
    rw [(S.2.1.1 _).1, e122] at e123
    refine ok_if (fun F => ?_) (fun _ => ?_)
    · exact ok_im (sr_134 hn V0 hc B h2 S a t) (fun u q => qm_live (Nat.le_refl _) id (n6_nb nb_rf) (fun q r _ w => ⟨by omega, w⟩) q)
    refine ok_add (by omega) ?_; intro v124 e124
    refine ok_sv (st9_unfit S (by omega)) ?_; intro u126 P126
    exact ok_im (sr_134 hn V0 hc B h2 P126.1 a (fun y => absurd y P126.2.2)) (fun u w => qm_dead (Nat.le_refl _) P126.2.2 (n6_nb P126.2.1) w)
  · rw [if_pos p1]
    exact ok_im (sr_134 hn V0 hc B h2 S120 a (fun y => absurd y p2)) (fun u w => qm_dead (Nat.le_refl _) p2 (n6_nb N120) w)
def XG (h : ms_M) (c k p q : Int) (r : ms_M) : Prop := TS 2 h c (h 238 (p + 2).toNat) ∧ XE h c k p q r
theorem sr_65 (hn : 1000000 ≤ nn) (V0 : VS_ h) (hc : 0 ≤ c ∧ c ≤ 7) (B : Live h → SI8 h c) {l2 l4 : Int} (h2 : 0 ≤ l2 ∧ l2 < 12) (S : ST8 h g c) (a : 0 ≤ l4 ∧ l4 ≤ 6000) : Ok_ (qj_X13_scanMethod_65 nn c l2 l4 g) (QM9 236 (XG h c l2 l4) h c l2 g) := by
  have g113 := gF_160_113 V0
  have K := S.2.1
  unfold qj_X13_scanMethod_65
  refine ok_add (by omega) ?_; intro v118 e118
  refine ok_sv (st9_byte S) ?_; intro u120 P
  obtain ⟨S120, N120, P⟩ := P
  rcases P with ⟨p1, p2, p3, p4⟩ | ⟨p1, p2⟩
  · rw [if_neg (show ¬ u120.1 = 0 by omega), p2]
    have Bh := B (S.2.2.2 p3)
    refine ok_add (by omega) ?_; intro v122 e122
    refine ok_rd (by omega) (gA_238 S.1) ?_; intro v123 e123 _ _
    rw [e122, (K.1 _).1] at e123
    refine ok_sv (st9_text2 hn S Bh) ?_; intro u136 P136
    refine ok_if (fun F => ?_) (fun _ => ?_)
    · have w := P136.2 F
      rw [e123] at w
      exact ok_im (sr_101 hn V0 hc B h2 S a (fun _ => w)) (fun u q => qm_live (Nat.le_refl _) id (n6_nb nb_rf) (fun q r _ y => ⟨w.1, y⟩) q)
    refine ok_add (by omega) ?_; intro v124 e124
    refine ok_sv (st9_unfit S (by omega)) ?_; intro u126 P126
    exact ok_im (sr_101 hn V0 hc B h2 P126.1 a (fun y => absurd y P126.2.2)) (fun u w => qm_dead (Nat.le_refl _) P126.2.2 (n6_nb P126.2.1) w)
  · rw [if_pos p1]
    exact ok_im (sr_101 hn V0 hc B h2 S120 a (fun y => absurd y p2)) (fun u w => qm_dead (Nat.le_refl _) p2 (n6_nb N120) w)
def XI (h : ms_M) (c k p q : Int) (r : ms_M) : Prop := TS 0 h c (h 238 (p + 1).toNat) ∧ XG h c k p q r
theorem sr_29 (hn : 1000000 ≤ nn) (V0 : VS_ h) (hc : 0 ≤ c ∧ c ≤ 7) (B : Live h → SI8 h c) {l2 l4 : Int} (h2 : 0 ≤ l2 ∧ l2 < 12) (S : ST8 h g c) (a : 0 ≤ l4 ∧ l4 ≤ 6000) : Ok_ (qj_X13_scanMethod_29 nn c l2 l4 g) (QM9 236 (XI h c l2 l4) h c l2 g) := by
  have g113 := gF_160_113 V0
  have K := S.2.1
  unfold qj_X13_scanMethod_29
  refine ok_add (by omega) ?_; intro v118 e118
  refine ok_sv (st9_byte S) ?_; intro u120 P
  obtain ⟨S120, N120, P⟩ := P
  rcases P with ⟨p1, p2, p3, p4⟩ | ⟨p1, p2⟩
  · rw [if_neg (show ¬ u120.1 = 0 by omega), p2]
    have Bh := B (S.2.2.2 p3)
    refine ok_add (by omega) ?_; intro v122 e122
    refine ok_rd (by omega) (gA_238 S.1) ?_; intro v123 e123 _ _
    rw [e122, (K.1 _).1] at e123
    refine ok_sv (st9_text hn S Bh) ?_; intro u136 P136
    refine ok_if (fun F => ?_) (fun _ => ?_)
    · have w := P136.2 F
      rw [e123] at w
      exact ok_im (sr_65 hn V0 hc B h2 S a) (fun u q => qm_live (Nat.le_refl _) id (n6_nb nb_rf) (fun q r _ y => ⟨w, y⟩) q)
    refine ok_add (by omega) ?_; intro v124 e124
    refine ok_sv (st9_unfit S (by omega)) ?_; intro u126 P126
    exact ok_im (sr_65 hn V0 hc B h2 P126.1 a) (fun u w => qm_dead (Nat.le_refl _) P126.2.2 (n6_nb P126.2.1) w)
  · rw [if_pos p1]
    exact ok_im (sr_65 hn V0 hc B h2 S120 a) (fun u w => qm_dead (Nat.le_refl _) p2 (n6_nb N120) w)
/-- the method k of image c, from p to q -/
def XM (h : ms_M) (c k p q : Int) (r : ms_M) : Prop := h 238 p.toNat ≤ 1 ∧ XI h c k p q r
theorem sr_method (hn : 1000000 ≤ nn) (V0 : VS_ h) (hc : 0 ≤ c ∧ c ≤ 7) (B : Live h → SI8 h c) {l2 l4 : Int} (h2 : 0 ≤ l2 ∧ l2 < 12) (S : ST8 h g c) (a : 0 ≤ l4 ∧ l4 ≤ 6000) : Ok_ (qf_X13_scanMethod nn c l2 l4 g) (QM9 236 (XM h c l2 l4) h c l2 g) := by
  have g113 := gF_160_113 V0
  unfold qf_X13_scanMethod
  refine ok_sv (st9_byte S) ?_; intro u120 P
  obtain ⟨S120, N120, P⟩ := P
  rcases P with ⟨p1, p2, p3, p4⟩ | ⟨p1, p2⟩
  · rw [if_neg (show ¬ u120.1 = 0 by omega), p2]
    refine ok_rd (by omega) (gA_238 S.1) ?_; intro v158 e158 _ _
    rw [(S.2.1.1 _).1] at e158
    refine ok_if (fun F => ?_) (fun _ => ?_)
    · exact ok_im (sr_29 hn V0 hc B h2 S a) (fun u q => qm_live (Nat.le_refl _) id (n6_nb nb_rf) (fun q r _ y => ⟨by omega, y⟩) q)
    refine ok_sv (st9_unfit S (by omega)) ?_; intro u126 P126
    exact ok_im (sr_29 hn V0 hc B h2 P126.1 a) (fun u w => qm_dead (Nat.le_refl _) P126.2.2 (n6_nb P126.2.1) w)
  · rw [if_pos p1]
    exact ok_im (sr_29 hn V0 hc B h2 S120 a) (fun u w => qm_dead (Nat.le_refl _) p2 (n6_nb N120) w)
end
