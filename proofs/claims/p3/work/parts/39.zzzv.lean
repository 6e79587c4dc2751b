section
variable {nn : Nat} {h g r z w : ms_M} {c : Int}
/-- what reading fields from number a on writes -/
def NF (a c : Int) (g r : ms_M) : Prop := ∀ x j : Nat, ¬ (x = 160 ∧ j = 114) → ¬ (x = 233 ∧ 12 * c + a ≤ (j : Int) ∧ (j : Int) < 12 * c + 12) → r x j = g x j
theorem nf_nb {a : Int} (N : NB g r) : NF a c g r := fun x j w _ => N x j w
theorem nf_tr {a : Int} (p : NF a c g z) (b : NF a c z r) : NF a c g r := fun x j w1 w2 => (b x j w1 w2).trans (p x j w1 w2)
theorem nf_mo {a b : Int} (ab : b ≤ a) (p : NF a c g r) : NF b c g r := fun x j w1 w2 => p x j w1 (by omega)
/-- field j of image c at p -/
def FLD (h : ms_M) (c : Int) (r : ms_M) (j p : Int) : Prop := r 233 (12 * c + j).toNat = p ∧ (0 ≤ p ∧ p + 2 ≤ h 160 113) ∧ TS 0 h c (h 238 p.toNat) ∧ TS 1 h c (h 238 (p + 1).toNat)
def QF9 (a n : Int) (l : Int) (h : ms_M) (c : Int) (g : ms_M) (u : Int × ms_M) : Prop := QP8 h c g u ∧ NF a c g u.2 ∧ (Live u.2 → ∀ j : Int, a ≤ j → j < n → FLD h c u.2 j (l + 2 * (j - a)))
theorem sr_35 (hn : 1000000 ≤ nn) (V0 : VS_ h) (hc : 0 ≤ c ∧ c ≤ 7) (B : Live h → SI8 h c) {l2 : Int} (h2 : 0 ≤ l2 ∧ l2 < 6000) : ∀ (k : Nat) (l3 l4 : Int) (g : ms_M), ST8 h g c → (0 ≤ l3 ∧ l3 ≤ 80000) → (Live g → l3 ≤ h 160 113 ∧ h 238 l2.toNat ≤ 12) → (0 ≤ l4 ∧ l4 ≤ 255) → 256 - l4 < (k : Int) → Ok_ (qw_X13_scanFields_35 nn k c l2 l3 l4 g) (QF9 l4 (h 238 l2.toNat) l3 h c g) := by
  have g113 := gF_160_113 V0
  intro k
  induction k with
  | zero => intro l3 l4 g S a l b hm; exfalso; omega
  | succ k ih =>
    intro l3 l4 g S a l b hm
    have K := S.2.1
    unfold qw_X13_scanFields_35
    refine ok_rd (by omega) (gA_238 S.1) ?_; intro v21 e21 a21 b21
    rw [(K.1 _).1] at e21
    refine ok_if (fun _ => ok_ret ⟨⟨S, a, fun y => ⟨y, (l y).1⟩⟩, nf_nb nb_rf, fun _ j j1 j2 => by exfalso; omega⟩) (fun C => ?_)
    refine ok_if (fun D => ok_ret ⟨⟨S, a, fun y => absurd y D⟩, nf_nb nb_rf, fun y => absurd y D⟩) (fun D => ?_)
    have D : Live g := Classical.not_not.1 D
    have l := l D
    have Bh := B (S.2.2.2 D)
    refine ok_mul (by omega) ?_; intro v24 e24
    refine ok_add (by omega) ?_; intro v25 e25
    refine ok_wA (by omega) ?_; intro h26 E26
    have V26 : VS_ h26 := by rw [E26]; exact wA_233 S.1 (by omega)
    obtain ⟨S26, L26⟩ := st8_up S E26 V26 (by decide) (.inr ⟨by decide, by omega, by omega⟩)
    have N26 : NF l4 c g h26 := fun x j w1 w2 => by rw [E26, up_n (by omega)]
    have f26 : h26 233 (12 * c + l4).toNat = l3 := by rw [E26, show 12 * c + l4 = v25 by omega, up_s]
    have J : ∀ f : ms_M, ST8 h f c → NB h26 f → (Live f → Live g ∧ TS 0 h c (h 238 l3.toNat)) → Ok_ (qj_X13_scanFields_94 nn (qw_X13_scanFields_35 nn k) c l2 l3 l4 f) (QF9 l4 (h 238 l2.toNat) l3 h c g) := fun f Sf Nf lf => by
      have dead : ∀ (f2 : ms_M) (v w2 : Int) (u : Int × ms_M), ¬ Live f2 → NB h26 f2 → w2 = l4 + 1 → QF9 w2 (h 238 l2.toNat) v h c f2 u → QF9 l4 (h 238 l2.toNat) l3 h c g u := fun f2 v w2 u d N e q => ⟨qp_dead d q.1, nf_tr N26 (nf_tr (nf_nb N) (nf_mo (by omega) q.2.1)), fun y => absurd (q.1.2.2 y).1 d⟩
      unfold qj_X13_scanFields_94
      refine ok_add (by omega) ?_; intro v1 e1
      refine ok_sv (st9_byte Sf) ?_; intro u3 P3
      obtain ⟨S3, N3, P3⟩ := P3
      rcases P3 with ⟨q1, q2, q3, q4⟩ | ⟨q1, q2⟩
      · rw [if_neg (show ¬ u3.1 = 0 by omega), q2]
        refine ok_add (by omega) ?_; intro v7 e7
        refine ok_rd (by omega) (gA_238 Sf.1) ?_; intro v8 e8 _ _
        rw [(Sf.2.1.1 _).1, e7] at e8
        refine ok_sv (st9_text hn Sf Bh) ?_; intro u10 P10
        refine ok_if (fun F => ?_) (fun _ => ?_)
        · refine ok_add (by omega) ?_; intro v11 e11
          refine ok_add (by omega) ?_; intro v12 e12
          refine ok_im (ih v11 v12 f Sf (by omega) (fun _ => by omega) (by omega) (by omega)) (fun u q => ⟨qp_live (fun y => (lf y).1) q.1, nf_tr N26 (nf_tr (nf_nb Nf) (nf_mo (by omega) q.2.1)), fun y j j1 j2 => ?_⟩)
          by_cases z : j = l4
          · rw [z, show l3 + 2 * (l4 - l4) = l3 by omega]
            refine ⟨?_, by omega, (lf (q.1.2.2 y).1).2, by rw [← e8]; exact P10.2 F⟩
            rw [q.2.1 233 _ (by omega) (by omega), Nf 233 _ (by omega)]; exact f26
          · have w := q.2.2 y j (by omega) j2
            rw [show v11 + 2 * (j - v12) = l3 + 2 * (j - l4) by omega] at w
            exact w
        · refine ok_add (by omega) ?_; intro v13 e13
          refine ok_sv (st9_unfit Sf (by omega)) ?_; intro u15 P15
          refine ok_add (by omega) ?_; intro v16 e16
          refine ok_add (by omega) ?_; intro v17 e17
          exact ok_im (ih v16 v17 u15 P15.1 (by omega) (fun y => absurd y P15.2.2) (by omega) (by omega)) (fun u q => dead u15 v16 v17 u P15.2.2 (nb_tr Nf P15.2.1) e17 q)
      · rw [if_pos q1]
        refine ok_add (by omega) ?_; intro v4 e4
        refine ok_add (by omega) ?_; intro v5 e5
        exact ok_im (ih v4 v5 u3.2 S3 (by omega) (fun y => absurd y q2) (by omega) (by omega)) (fun u q => dead u3.2 v4 v5 u q2 (nb_tr Nf N3) e5 q)
    refine ok_sv (st9_byte S26) ?_; intro u28 P
    obtain ⟨S28, N28, P⟩ := P
    rcases P with ⟨p1, p2, p3, p4⟩ | ⟨p1, p2⟩
    · rw [if_neg (show ¬ u28.1 = 0 by omega), p2]
      refine ok_rd (by omega) (gA_238 V26) ?_; intro v30 e30 _ _
      rw [(S26.2.1.1 _).1] at e30
      refine ok_sv (st9_text hn S26 Bh) ?_; intro u32 P32
      refine ok_if (fun F => J h26 S26 nb_rf (fun y => ⟨L26 y, by rw [← e30]; exact P32.2 F⟩)) (fun _ => ?_)
      refine ok_sv (st9_unfit S26 (by omega)) ?_; intro u34 P34
      exact J u34 P34.1 P34.2.1 (fun y => absurd y P34.2.2)
    · rw [if_pos p1]
      exact J u28.2 S28 N28 (fun y => absurd y p2)
/-- what reading the fields writes -/
def NFa (c : Int) (g r : ms_M) : Prop := ∀ x j : Nat, ¬ (x = 160 ∧ j = 114) → ¬ (x = 232 ∧ (j : Int) = c) → ¬ (x = 233 ∧ 12 * c ≤ (j : Int) ∧ (j : Int) < 12 * c + 12) → r x j = g x j
def FLDS (h : ms_M) (c : Int) (r : ms_M) : Prop := r 232 c.toNat ≤ 12 ∧ ∀ j : Int, 0 ≤ j → j < r 232 c.toNat → ∃ p : Int, FLD h c r j p
theorem sr_fields (hn : 1000000 ≤ nn) (V0 : VS_ h) (hc : 0 ≤ c ∧ c ≤ 7) (B : Live h → SI8 h c) {l2 : Int} (h2 : 0 ≤ l2 ∧ l2 < h 160 113) (S : ST8 h g c) : Ok_ (qf_X13_scanFields nn c l2 g) (fun u => QP8 h c g u ∧ NFa c g u.2 ∧ (Live u.2 → FLDS h c u.2)) := by
  have g113 := gF_160_113 V0
  have K := S.2.1
  have J : ∀ f : ms_M, ST8 h f c → NB g f → (Live f → Live g ∧ h 238 l2.toNat ≤ 12) → Ok_ (qj_X13_scanFields_16 nn c l2 f) (fun u => QP8 h c g u ∧ NFa c g u.2 ∧ (Live u.2 → FLDS h c u.2)) := fun f Sf Nf lf => by
    unfold qj_X13_scanFields_16
    refine ok_rd (by omega) (gA_238 Sf.1) ?_; intro v41 e41 a41 b41
    rw [(Sf.2.1.1 _).1] at e41
    refine ok_wA (by omega) ?_; intro h42 E42
    have V42 : VS_ h42 := by rw [E42]; exact wA_232 Sf.1 (by omega)
    obtain ⟨S42, L42⟩ := st8_up Sf E42 V42 (by decide) (.inl ⟨by decide, by omega⟩)
    refine ok_add (by omega) ?_; intro v43 e43
    refine ok_im (sr_35 hn V0 hc B (by omega) nn v43 0 h42 S42 (by omega) (fun y => ⟨by omega, (lf (L42 y)).2⟩) (by omega) (by omega)) (fun u q => ⟨qp_live (fun y => (lf (L42 y)).1) q.1, fun x j w1 w2 w3 => ?_, fun y => ?_⟩)
    · rw [q.2.1 x j w1 (by omega), E42, up_n (by omega)]; exact Nf x j w1
    · have e : u.2 232 c.toNat = h 238 l2.toNat := by rw [q.2.1 232 _ (by omega) (by omega), E42, up_s]; exact e41
      unfold FLDS
      rw [e]
      exact ⟨(lf (L42 (q.1.2.2 y).1)).2, fun j j1 j2 => ⟨_, q.2.2 y j j1 j2⟩⟩
  unfold qf_X13_scanFields
  refine ok_rd (by omega) (gA_238 S.1) ?_; intro v45 e45 _ _
  rw [(K.1 _).1] at e45
  refine ok_if (fun F => J g S nb_rf (fun y => ⟨y, by omega⟩)) (fun _ => ?_)
  refine ok_sv (st9_unfit S (by omega)) ?_; intro u47 P47
  exact J u47 P47.1 P47.2.1 (fun y => absurd y P47.2.2)
theorem xm_eq {k p q : Int} (x : XM h c k p q r) (a : z 236 (12 * c + k).toNat = r 236 (12 * c + k).toNat) (b : z 237 (12 * c + k).toNat = r 237 (12 * c + k).toNat) : XM h c k p q z := by
  unfold XM XI XG XE XD XC XR XH XF at x ⊢
  rw [a, b]; exact x
/-- method j of image c -/
def MTH (h : ms_M) (c : Int) (r : ms_M) (j : Int) : Prop := ∃ q : Int, q ≤ h 160 113 ∧ XM h c j (r 235 (12 * c + j).toNat) q r
/-- what reading methods from number a on writes -/
def NMa (a c : Int) (g r : ms_M) : Prop := ∀ x j : Nat, ¬ (x = 160 ∧ j = 114) → ¬ ((x = 235 ∨ x = 236 ∨ x = 237) ∧ 12 * c + a ≤ (j : Int) ∧ (j : Int) < 12 * c + 12) → r x j = g x j
theorem sr_379 {l3 : Int} (V0 : VS_ h) (S : ST8 h g c) (a : 0 ≤ l3) : Ok_ (qj_X13_scan_379 nn l3 g) (fun r => QE8 h c g r ∧ NB g r) := by
  have g113 := gF_160_113 S.1
  unfold qj_X13_scan_379
  refine ok_if (fun D => ok_ret ⟨⟨S, id⟩, nb_rf⟩) (fun _ => ?_)
  refine ok_if (fun _ => ok_ret ⟨⟨S, id⟩, nb_rf⟩) (fun _ => ?_)
  refine ok_sv (st9_unfit S (by omega)) ?_; intro u4 P4
  exact ok_ret ⟨⟨P4.1, fun y => absurd y P4.2.2⟩, P4.2.1⟩
theorem sr_332 (hn : 1000000 ≤ nn) (V0 : VS_ h) (hc : 0 ≤ c ∧ c ≤ 7) (B : Live h → SI8 h c) : ∀ (k : Nat) (l3 l4 : Int) (g : ms_M), ST8 h g c → (0 ≤ l3 ∧ l3 ≤ 80000) → (Live g → l3 ≤ h 160 113 ∧ g 234 c.toNat ≤ 12) → (0 ≤ l4 ∧ l4 ≤ 255) → 256 - l4 < (k : Int) → Ok_ (qw_X13_scan_332 nn k c l3 l4 g) (fun r => QE8 h c g r ∧ NMa l4 c g r ∧ (Live r → ∀ j : Int, l4 ≤ j → j < g 234 c.toNat → MTH h c r j)) := by
  have g113 := gF_160_113 V0
  intro k
  induction k with
  | zero => intro l3 l4 g S a l b hm; exfalso; omega
  | succ k ih =>
    intro l3 l4 g S a l b hm
    have g234 := gA_234 S.1 c.toNat (by omega)
    unfold qw_X13_scan_332
    refine ok_if (fun D => ok_im (sr_379 V0 S a.1) (fun r q => ⟨q.1, fun x j w1 _ => q.2 x j w1, fun y => absurd (q.1.2 y) D⟩)) (fun D => ?_)
    have D : Live g := Classical.not_not.1 D
    have l := l D
    refine ok_rd (by omega) (gA_234 S.1) ?_; intro v9 e9 _ _
    refine ok_if (fun _ => ok_im (sr_379 V0 S a.1) (fun r q => ⟨q.1, fun x j w1 _ => q.2 x j w1, fun y j j1 j2 => by exfalso; omega⟩)) (fun C => ?_)
    refine ok_mul (by omega) ?_; intro v11 e11
    refine ok_add (by omega) ?_; intro v12 e12
    refine ok_wA (by omega) ?_; intro h13 E13
    have V13 : VS_ h13 := by rw [E13]; exact wA_235 S.1 (by omega)
    obtain ⟨S13, L13⟩ := st8_up S E13 V13 (by decide) (.inr ⟨by decide, by omega, by omega⟩)
    have f13 : h13 235 (12 * c + l4).toNat = l3 := by rw [E13, show 12 * c + l4 = v12 by omega, up_s]
    refine ok_sv (sr_method hn V0 hc B (l2 := l4) (l4 := l3) (by omega) S13 (by omega)) ?_; intro u15 P15
    have f : u15.2 234 c.toNat = h13 234 c.toNat := P15.2.1 234 _ (by omega) (by omega)
    have f2 : h13 234 c.toNat = g 234 c.toNat := by rw [E13, up_n (by omega)]
    have f3 : u15.2 235 (12 * c + l4).toNat = l3 := by rw [P15.2.1 235 _ (by omega) (by omega)]; exact f13
    refine ok_add (by omega) ?_; intro v16 e16
    refine ok_im (ih u15.1 v16 u15.2 P15.1.1 P15.1.2.1 (fun y => ⟨(P15.1.2.2 y).2, by omega⟩) (by omega) (by omega)) (fun r w => ⟨⟨w.1.1, fun y => L13 (P15.1.2.2 (w.1.2 y)).1⟩, fun x j w1 w2 => ?_, fun y j j1 j2 => ?_⟩)
    · rw [w.2.1 x j w1 (by omega), P15.2.1 x j w1 (by omega), E13, up_n (by omega)]
    · by_cases q : j = l4
      · rw [q]
        have y2 := w.1.2 y
        refine ⟨u15.1, (P15.1.2.2 y2).2, ?_⟩
        rw [w.2.1 235 _ (by omega) (by omega), f3]
        exact xm_eq (P15.2.2 y2) (w.2.1 236 _ (by omega) (by omega)) (w.2.1 237 _ (by omega) (by omega))
      · exact w.2.2 y j (by omega) (by rw [f, f2]; exact j2)
def MTHS (h : ms_M) (c : Int) (r : ms_M) : Prop := r 234 c.toNat ≤ 12 ∧ ∀ j : Int, 0 ≤ j → j < r 234 c.toNat → MTH h c r j
def NMb (c : Int) (g r : ms_M) : Prop := ∀ x j : Nat, ¬ (x = 160 ∧ j = 114) → ¬ (x = 234 ∧ (j : Int) = c) → ¬ ((x = 235 ∨ x = 236 ∨ x = 237) ∧ 12 * c ≤ (j : Int) ∧ (j : Int) < 12 * c + 12) → r x j = g x j
theorem sr_314 (hn : 1000000 ≤ nn) (V0 : VS_ h) (hc : 0 ≤ c ∧ c ≤ 7) (B : Live h → SI8 h c) {l3 : Int} (S : ST8 h g c) (a : 0 ≤ l3 ∧ l3 < h 160 113) (l : Live g → h 238 l3.toNat ≤ 12) : Ok_ (qj_X13_scan_314 nn c l3 g) (fun r => QE8 h c g r ∧ NMb c g r ∧ (Live r → MTHS h c r)) := by
  have g113 := gF_160_113 V0
  have K := S.2.1
  unfold qj_X13_scan_314
  refine ok_rd (by omega) (gA_238 S.1) ?_; intro v21 e21 a21 b21
  rw [(K.1 _).1] at e21
  refine ok_wA (by omega) ?_; intro h22 E22
  have V22 : VS_ h22 := by rw [E22]; exact wA_234 S.1 (by omega)
  obtain ⟨S22, L22⟩ := st8_up S E22 V22 (by decide) (.inl ⟨by decide, by omega⟩)
  have f : h22 234 c.toNat = v21 := by rw [E22, up_s]
  refine ok_add (by omega) ?_; intro v23 e23
  refine ok_im (sr_332 hn V0 hc B nn v23 0 h22 S22 (by omega) (fun y => ⟨by omega, by have := l (L22 y); omega⟩) (by omega) (by omega)) (fun r w => ⟨⟨w.1.1, fun y => L22 (w.1.2 y)⟩, fun x j w1 w2 w3 => ?_, fun y => ?_⟩)
  · rw [w.2.1 x j w1 (by omega), E22, up_n (by omega)]
  · have e : r 234 c.toNat = h22 234 c.toNat := w.2.1 234 _ (by omega) (by omega)
    have := l (L22 (w.1.2 y))
    refine ⟨by omega, fun j j1 j2 => w.2.2 y j j1 (by omega)⟩
/-- an image that was read without FORM: all of it (w: the memory behind its heads) -/
def IM9 (r : ms_M) (c : Int) : Prop := ∃ w : ms_M, VS_ w ∧ KE8 w r c ∧ SI9 w c ∧ (CL w c (r 230 c.toNat) ∧ CL w c (r 231 c.toNat)) ∧ FLDS w c r ∧ MTHS w c r
def QR9 (c : Int) (h r : ms_M) : Prop := QR8 c h r ∧ (Live r → IM9 r c)
theorem sr_243 (hn : 1000000 ≤ nn) (V0 : VS_ h) (hc : 0 ≤ c ∧ c ≤ 7) (B : Live h → SI9 h c) {l3 : Int} (S : ST8 h g c) (a : 3 ≤ l3 ∧ l3 ≤ 6300) (l : Live g → CL h c (h 238 l3.toNat) ∧ CL h c (h 238 (l3 + 1).toNat)) : Ok_ (qj_X13_scan_243 nn c l3 g) (QR9 c h) := by
  have g113 := gF_160_113 V0
  have K := S.2.1
  unfold qj_X13_scan_243
  refine ok_add (by omega) ?_; intro v24 e24
  refine ok_sv (st9_byte S) ?_; intro u26 P
  obtain ⟨S26, N26, P⟩ := P
  rcases P with ⟨p1, p2, p3, p4⟩ | ⟨p1, p2⟩
  · rw [if_pos (show ¬ u26.1 = 0 by omega), p2]
    have Bh := B (S.2.2.2 p3)
    obtain ⟨c1, c2⟩ := l p3
    refine ok_rd (by omega) (gA_238 S.1) ?_; intro v29 e29 a29 b29
    rw [(K.1 _).1] at e29
    refine ok_wA (by omega) ?_; intro h30 E30
    have V30 : VS_ h30 := by rw [E30]; exact wA_230 S.1 (by omega)
    refine ok_add (by omega) ?_; intro v33 e33
    refine ok_rd (by omega) (gA_238 V30) ?_; intro v34 e34 a34 b34
    rw [e33, E30, up_n (by omega), (K.1 _).1] at e34
    refine ok_wA (by omega) ?_; intro h35 E35
    have V35 : VS_ h35 := by rw [E35]; exact wA_231 V30 (by omega)
    have K35 : KE8 h h35 c := ke8_tr K (ke8_tr (ke8_up E30 (by decide)) (ke8_up E35 (by decide)))
    have q0 : h35 230 c.toNat = v29 := by rw [E35, up_n (by omega), E30, up_s]
    have q1 : h35 231 c.toNat = v34 := by rw [E35, up_s]
    have B35 : SI9 h35 c := si9_ke K35 Bh
    have d0 : CL h35 c (h35 230 c.toNat) := by rw [q0, e29]; exact cl_ke K35 c1
    have d1 : CL h35 c (h35 231 c.toNat) := by rw [q1, e34]; exact cl_ke K35 c2
    have I8 := si9_8 B35
    have N35 : NTa c h h35 := nta_tr (nta_8 S.2.2.1) (fun x k w1 w2 w3 w4 => by rw [E35, up_n (by omega), E30, up_n (by omega)])
    have e113 : h35 160 113 = h 160 113 := K35.2.1
    have S35 : ST8 h35 h35 c := st8_0 V35
    have fin : ∀ r : ms_M, ST8 h35 r c → (Live r → FLDS h35 c r ∧ MTHS h35 c r) → QR9 c h r := fun r Sr FM => by
      have K8 := Sr.2.1
      have w0 : r 230 c.toNat = h35 230 c.toNat := Sr.2.2.1 230 _ (by omega) (by omega) (by omega) (by omega)
      have w1 : r 231 c.toNat = h35 231 c.toNat := Sr.2.2.1 231 _ (by omega) (by omega) (by omega) (by omega)
      exact ⟨⟨Sr.1, nta_tr N35 (nta_8 Sr.2.2.1), fun _ => ⟨si8_ke K8 I8, by rw [w0]; exact cl_ke K8 d0, by rw [w1]; exact cl_ke K8 d1⟩⟩, fun y => ⟨h35, V35, K8, B35, ⟨by rw [w0]; exact d0, by rw [w1]; exact d1⟩, FM y⟩⟩
    refine ok_add (by omega) ?_; intro v36 e36
    refine ok_sv (sr_fields hn V35 hc (fun _ => I8) (by omega) S35) ?_; intro u38 P38
    refine ok_sv (st9_byte P38.1.1) ?_; intro u40 P40
    obtain ⟨S40, N40, P40⟩ := P40
    rcases P40 with ⟨r1, r2, r3, r4⟩ | ⟨r1, r2⟩
    · rw [if_pos (show ¬ u40.1 = 0 by omega), r2]
      have b38 := P38.1.2.1
      have K38 := P38.1.1.2.1
      have FL := P38.2.2 r3
      refine ok_rd (by omega) (gA_238 P38.1.1.1) ?_; intro v42 e42 _ _
      rw [(K38.1 _).1] at e42
      have carry : ∀ r : ms_M, NMb c u38.2 r → FLDS h35 c r := fun r N => by
        have e2 : r 232 c.toNat = u38.2 232 c.toNat := N 232 _ (by omega) (by omega) (by omega)
        have e3 : ∀ j : Nat, r 233 j = u38.2 233 j := fun j => N 233 j (by omega) (by omega) (by omega)
        unfold FLDS FLD at FL ⊢
        rw [e2]
        refine ⟨FL.1, fun j j1 j2 => ?_⟩
        rw [e3]; exact FL.2 j j1 j2
      refine ok_if (fun F => ?_) (fun _ => ?_)
      · exact ok_im (sr_314 hn V35 hc (fun _ => I8) P38.1.1 (by omega) (fun _ => by omega)) (fun r w => fin r w.1.1 (fun y => ⟨carry r w.2.1, w.2.2 y⟩))
      · refine ok_sv (st9_unfit P38.1.1 (by omega)) ?_; intro u44 P44
        exact ok_im (sr_314 hn V35 hc (fun _ => I8) P44.1 (by omega) (fun y => absurd y P44.2.2)) (fun r w => fin r w.1.1 (fun y => absurd (w.1.2 y) P44.2.2))
    · rw [if_neg (show ¬ ¬ u40.1 = 0 by omega)]
      exact ok_ret (fin u40.2 S40 (fun y => absurd y r2))
  · rw [if_neg (show ¬ ¬ u26.1 = 0 by omega)]
    exact ok_ret ⟨⟨S26.1, nta_8 S26.2.2.1, fun y => absurd y p2⟩, fun y => absurd y p2⟩
end
