section
variable {nn : Nat} {h g r z : ms_M} {c : Int}
theorem f238 (K : KE8 h g c) : g 238 = h 238 := funext fun k => (K.1 k).1
theorem ke8_sy (K : KE8 h g c) : KE8 g h c := ⟨fun k => ⟨((K.1 k).1).symm, ((K.1 k).2).symm⟩, K.2.1.symm, K.2.2.1.symm, K.2.2.2.symm⟩
theorem ts_ke {k i : Int} (K : KE8 h g c) (t : TS k g c i) : TS k h c i := by
  unfold TS TX at t ⊢
  rw [K.2.2.2, pl_ke K, f238 K] at t
  exact t
/-- what a constant names is there, and of its sort -/
def CK9 (h : ms_M) (c p : Int) : Prop := (h 238 p.toNat = 3 → TS 4 h c (h 238 (p + 1).toNat)) ∧ (h 238 p.toNat = 4 → CL h c (h 238 (p + 1).toNat) ∧ TS 0 h c (h 238 (p + 2).toNat) ∧ TS 3 h c (h 238 (p + 3).toNat))
def SI9 (h : ms_M) (c : Int) : Prop := h 160 115 = c ∧ CSn h c (h 229 c.toNat) ∧ ∀ i : Int, 1 ≤ i → i ≤ h 229 c.toNat → CK9 h c (pl h c i)
theorem ck9_8 {p : Int} (x : CK9 h c p) : CK8 h c p := ⟨fun y => (x.1 y).1, fun y => ⟨(x.2 y).1, (x.2 y).2.1.1, (x.2 y).2.2.1⟩⟩
theorem si9_8 (x : SI9 h c) : SI8 h c := ⟨x.1, x.2.1, fun i a b => ck9_8 (x.2.2 i a b)⟩
theorem ck9_ke {p : Int} (K : KE8 h r c) (x : CK9 h c p) : CK9 r c p := by
  have k2 := ke8_sy K
  unfold CK9 at x ⊢
  rw [(K.1 _).1, (K.1 _).1, (K.1 _).1, (K.1 _).1]
  exact ⟨fun y => ts_ke k2 (x.1 y), fun y => ⟨cl_ke K (x.2 y).1, ts_ke k2 (x.2 y).2.1, ts_ke k2 (x.2 y).2.2⟩⟩
theorem si9_ke (K : KE8 h r c) (x : SI9 h c) : SI9 r c := ⟨K.2.2.1.trans x.1, by rw [K.2.2.2]; exact cs_ke K x.2.1, fun i a b => by rw [pl_ke K]; rw [K.2.2.2] at b; exact ck9_ke K (x.2.2 i a b)⟩
theorem st9_byte (S : ST8 h g c) {p : Int} : Ok_ (qf_X13_isByte nn p g) (fun u => ST8 h u.2 c ∧ NB g u.2 ∧ ((u.1 = 1 ∧ u.2 = g ∧ Live g ∧ p < h 160 113) ∨ (u.1 = 0 ∧ ¬ Live u.2))) := by
  obtain ⟨s1, s2, s3, s4⟩ := S
  refine ok_im (sq_byte s1) (fun u P => ?_)
  obtain ⟨V, N, P⟩ := P
  refine ⟨⟨V, ke8_tr s2 (ke_nb N), nt8_tr s3 (nt8_nb N), fun y => ?_⟩, N, ?_⟩
  · rcases P with ⟨_, _, q, _⟩ | ⟨_, q⟩
    · exact s4 q
    · exact absurd y q
  · rcases P with ⟨q1, q2, q3, q4⟩ | q
    · exact .inl ⟨q1, q2, q3, by rw [← s2.2.1]; exact q4⟩
    · exact .inr q
theorem st9_unfit (S : ST8 h g c) {p : Int} (hp : 0 ≤ p ∧ p ≤ 6010) : Ok_ (qf_X13_unfit nn p g) (fun r => ST8 h r c ∧ NB g r ∧ ¬ Live r) := by
  obtain ⟨s1, s2, s3, s4⟩ := S
  refine ok_im (sq_unfit s1 hp) (fun u P => ?_)
  exact ⟨⟨P.1, ke8_tr s2 (ke_nb P.2.1), nt8_tr s3 (nt8_nb P.2.1), fun y => absurd y P.2.2⟩, P.2.1, P.2.2⟩
theorem st9_text (hn : 1000000 ≤ nn) (S : ST8 h g c) (B : SI8 h c) {i k : Int} : Ok_ (qf_X13_isText nn i k g) (fun u => (u = 0 ∨ u = 1) ∧ (¬ u = 0 → TS k h c i)) := by
  have K := S.2.1
  have Bg := si8_ke K B
  exact ok_im (sk_text hn S.1 Bg.1 Bg.2.1) (fun u P => ⟨P.1, fun y => ts_ke K (P.2 y)⟩)
/-- k types from p to q -/
def TYn (h : ms_M) (c : Int) : Nat → Int → Int → Prop
  | 0, p, q => p = q
  | k + 1, p, q => (h 238 p.toNat ≤ 2 ∧ TYn h c k (p + 1) q) ∨ (h 238 p.toNat = 3 ∧ CL h c (h 238 (p + 1).toNat) ∧ TYn h c k (p + 2) q)
def TYr (h : ms_M) (c p q : Int) : Prop := TYn h c (h 238 p.toNat).toNat (p + 1) q
theorem ty_le : ∀ (k : Nat) (p q : Int), TYn h c k p q → p + k ≤ q := by
  intro k
  induction k with
  | zero => intro p q y; have y : p = q := y; omega
  | succ k ih =>
    intro p q y
    rcases y with ⟨_, y⟩ | ⟨_, _, y⟩
    · have := ih _ _ y; omega
    · have := ih _ _ y; omega
/-- k frames from p to q -/
def FRn (h : ms_M) (c : Int) : Nat → Int → Int → Prop
  | 0, p, q => p = q
  | k + 1, p, q => ∃ a b : Int, TYr h c (p + 2) a ∧ TYr h c a b ∧ FRn h c k b q
def FRM (h : ms_M) (c p q : Int) : Prop := h 238 p.toNat ≤ 100 ∧ FRn h c (h 238 p.toNat).toNat (p + 1) q
/-- reading goes on behind; only the mark moves; what was read is X -/
def QT9 (X : Int → Prop) (h : ms_M) (c : Int) (g : ms_M) (u : Int × ms_M) : Prop := QP8 h c g u ∧ NB g u.2 ∧ (Live u.2 → X u.1)
theorem qt_dead {X Y : Int → Prop} {f : ms_M} {u : Int × ms_M} (d : ¬ Live f) (N : NB g f) (P : QT9 Y h c f u) : QT9 X h c g u := ⟨qp_dead d P.1, nb_tr N P.2.1, fun y => absurd (P.1.2.2 y).1 d⟩
theorem qt_live {X Y : Int → Prop} {f : ms_M} {u : Int × ms_M} (d : Live f → Live g) (N : NB g f) (w : ∀ q, Live f → Y q → X q) (P : QT9 Y h c f u) : QT9 X h c g u := ⟨qp_live d P.1, nb_tr N P.2.1, fun y => w _ (P.1.2.2 y).1 (P.2.2 y)⟩
theorem sr_24 (hn : 1000000 ≤ nn) (V0 : VS_ h) (B : Live h → SI8 h c) {l2 : Int} (h2 : 0 ≤ l2 ∧ l2 ≤ 255) : ∀ (k : Nat) (l3 l4 : Int) (g : ms_M), ST8 h g c → (0 ≤ l3 ∧ l3 ≤ 80000) → (Live g → l3 ≤ h 160 113) → (0 ≤ l4 ∧ l4 ≤ l2) → l2 - l4 < (k : Int) → Ok_ (qw_X13_scanTypes_24 nn k l2 l3 l4 g) (QT9 (TYn h c (l2 - l4).toNat l3) h c g) := by
  have g113 := gF_160_113 V0
  intro k
  induction k with
  | zero => intro l3 l4 g S a l b hm; exfalso; omega
  | succ k ih =>
    intro l3 l4 g S a l b hm
    unfold qw_X13_scanTypes_24
    refine ok_if (fun _ => ok_ret ⟨⟨S, a, fun y => ⟨y, l y⟩⟩, nb_rf, fun _ => ?_⟩) (fun C => ?_)
    · rw [show (l2 - l4).toNat = 0 by omega]; rfl
    refine ok_sv (st9_byte S) ?_; intro u24 P
    obtain ⟨S24, N24, P⟩ := P
    rcases P with ⟨p1, p2, p3, p4⟩ | ⟨p1, p2⟩
    · rw [if_pos (show ¬ u24.1 = 0 by omega), p2]
      have V := S.1
      have Bh := B (S.2.2.2 p3)
      refine ok_rd (by omega) (gA_238 V) ?_; intro v26 e26 _ _
      rw [(S.2.1.1 _).1] at e26
      have J : ∀ f : ms_M, ST8 h f c → NB g f → (Live f → Live g ∧ h 238 l3.toNat ≤ 3) → Ok_ (qj_X13_scanTypes_55 nn (qw_X13_scanTypes_24 nn k) l2 l3 l4 f) (QT9 (TYn h c (l2 - l4).toNat l3) h c g) := fun f Sf Nf lf => by
        unfold qj_X13_scanTypes_55
        refine ok_rd (by omega) (gA_238 Sf.1) ?_; intro v2 e2 _ _
        rw [(Sf.2.1.1 _).1] at e2
        refine ok_if (fun F => ?_) (fun F => ?_)
        · refine ok_add (by omega) ?_; intro v3 e3
          refine ok_add (by omega) ?_; intro v4 e4
          refine ok_im (ih v3 v4 f Sf (by omega) (fun _ => by omega) (by omega) (by omega)) (fun u q => qt_live (fun y => (lf y).1) Nf (fun q y w => ?_) q)
          rw [show (l2 - l4).toNat = (l2 - v4).toNat + 1 by omega]
          have := (lf y).2
          exact .inl ⟨by omega, by rw [← e3]; exact w⟩
        · refine ok_add (by omega) ?_; intro v5 e5
          refine ok_sv (st9_byte Sf) ?_; intro u7 P7
          obtain ⟨S7, N7, P7⟩ := P7
          rcases P7 with ⟨q1, q2, q3, q4⟩ | ⟨q1, q2⟩
          · rw [if_neg (show ¬ u7.1 = 0 by omega), q2]
            refine ok_rd (by omega) (gA_238 Sf.1) ?_; intro v11 e11 _ _
            rw [(Sf.2.1.1 _).1] at e11
            refine ok_sv (st8_class Sf Bh) ?_; intro u13 P13
            refine ok_if (fun G => ?_) (fun _ => ?_)
            · refine ok_add (by omega) ?_; intro v14 e14
              refine ok_add (by omega) ?_; intro v15 e15
              refine ok_im (ih v14 v15 f Sf (by omega) (fun _ => by omega) (by omega) (by omega)) (fun u q => qt_live (fun y => (lf y).1) Nf (fun q y w => ?_) q)
              rw [show (l2 - l4).toNat = (l2 - v15).toNat + 1 by omega]
              exact .inr ⟨by omega, by rw [← e5, ← e11]; exact P13.2 G, by rw [show l3 + 2 = v14 by omega]; exact w⟩
            · refine ok_sv (st9_unfit Sf (by omega)) ?_; intro u17 P17
              refine ok_add (by omega) ?_; intro v18 e18
              refine ok_add (by omega) ?_; intro v19 e19
              exact ok_im (ih v18 v19 u17 P17.1 (by omega) (fun y => absurd y P17.2.2) (by omega) (by omega)) (fun u q => qt_dead P17.2.2 (nb_tr Nf P17.2.1) q)
          · rw [if_pos q1]
            refine ok_add (by omega) ?_; intro v8 e8
            refine ok_add (by omega) ?_; intro v9 e9
            exact ok_im (ih v8 v9 u7.2 S7 (by omega) (fun y => absurd y q2) (by omega) (by omega)) (fun u q => qt_dead q2 (nb_tr Nf N7) q)
      refine ok_if (fun F => J g S nb_rf (fun y => ⟨y, by omega⟩)) (fun _ => ?_)
      refine ok_sv (st9_unfit S (by omega)) ?_; intro u28 P28
      exact J u28 P28.1 P28.2.1 (fun y => absurd y P28.2.2)
    · rw [if_neg (show ¬ ¬ u24.1 = 0 by omega)]
      exact ok_ret ⟨⟨S24, a, fun y => absurd y p2⟩, N24, fun y => absurd y p2⟩
theorem sr_types (hn : 1000000 ≤ nn) (V0 : VS_ h) (B : Live h → SI8 h c) {p : Int} (S : ST8 h g c) (a : 0 ≤ p ∧ p ≤ 80000) : Ok_ (qf_X13_scanTypes nn p g) (QT9 (TYr h c p) h c g) := by
  have g113 := gF_160_113 V0
  unfold qf_X13_scanTypes
  refine ok_sv (st9_byte S) ?_; intro u33 P
  obtain ⟨S33, N33, P⟩ := P
  rcases P with ⟨p1, p2, p3, p4⟩ | ⟨p1, p2⟩
  · rw [if_pos (show ¬ u33.1 = 0 by omega), p2]
    refine ok_rd (by omega) (gA_238 S.1) ?_; intro v35 e35 a35 b35
    rw [(S.2.1.1 _).1] at e35
    refine ok_add (by omega) ?_; intro v36 e36
    refine ok_im (sr_24 hn V0 B ⟨a35, b35⟩ nn v36 0 g S (by omega) (fun _ => by omega) (by omega) (by omega)) (fun u q => qt_live id nb_rf (fun q _ w => ?_) q)
    unfold TYr
    rw [← e35, ← e36, show v35.toNat = (v35 - 0).toNat by omega]; exact w
  · rw [if_neg (show ¬ ¬ u33.1 = 0 by omega)]
    exact ok_ret ⟨⟨S33, a, fun y => absurd y p2⟩, N33, fun y => absurd y p2⟩
/-- the frames -/
theorem sr_497 (hn : 1000000 ≤ nn) (V0 : VS_ h) (B : Live h → SI8 h c) {l9 : Int} (h9 : 0 ≤ l9 ∧ l9 ≤ 255) : ∀ (k : Nat) (l4 l10 : Int) (g : ms_M), ST8 h g c → (0 ≤ l4 ∧ l4 ≤ 80000) → (Live g → l4 ≤ h 160 113) → (0 ≤ l10 ∧ l10 ≤ l9) → l9 - l10 < (k : Int) → Ok_ (qw_X13_scanMethod_497 nn k l4 l9 l10 g) (QT9 (FRn h c (l9 - l10).toNat l4) h c g) := by
  have g113 := gF_160_113 V0
  intro k
  induction k with
  | zero => intro l4 l10 g S a l b hm; exfalso; omega
  | succ k ih =>
    intro l4 l10 g S a l b hm
    unfold qw_X13_scanMethod_497
    refine ok_if (fun _ => ok_ret ⟨⟨S, a, fun y => ⟨y, l y⟩⟩, nb_rf, fun _ => ?_⟩) (fun C => ?_)
    · rw [show (l9 - l10).toNat = 0 by omega]; rfl
    refine ok_if (fun D => ok_ret ⟨⟨S, a, fun y => absurd y D⟩, nb_rf, fun y => absurd y D⟩) (fun D => ?_)
    refine ok_add (by omega) ?_; intro v2 e2
    refine ok_sv (st9_byte S) ?_; intro u4 P
    obtain ⟨S4, N4, P⟩ := P
    rcases P with ⟨p1, p2, p3, p4⟩ | ⟨p1, p2⟩
    · rw [if_pos (show ¬ u4.1 = 0 by omega), p2]
      refine ok_add (by omega) ?_; intro v5 e5
      refine ok_sv (sr_types hn V0 B S (by omega)) ?_; intro u7 P7
      refine ok_sv (sr_types hn V0 B P7.1.1 P7.1.2.1) ?_; intro u9 P9
      refine ok_add (by omega) ?_; intro v10 e10
      refine ok_im (ih u9.1 v10 u9.2 P9.1.1 P9.1.2.1 (fun y => (P9.1.2.2 y).2) (by omega) (by omega)) (fun u q => qt_live (fun y => (P7.1.2.2 (P9.1.2.2 y).1).1) (nb_tr P7.2.1 P9.2.1) (fun q y w => ?_) q)
      rw [show (l9 - l10).toNat = (l9 - v10).toNat + 1 by omega]
      exact ⟨u7.1, u9.1, by rw [← e5]; exact P7.2.2 (P9.1.2.2 y).1, P9.2.2 y, w⟩
    · rw [if_neg (show ¬ ¬ u4.1 = 0 by omega)]
      exact ok_ret ⟨⟨S4, a, fun y => absurd y p2⟩, N4, fun y => absurd y p2⟩
/-- a method's rows: which places of the tables it writes (from table a on) -/
def NB6 (a : Nat) (c k : Int) (g r : ms_M) : Prop := ∀ x j : Nat, ¬ (x = 160 ∧ j = 114) → ¬ ((a ≤ x ∧ x ≤ 237) ∧ (j : Int) = 12 * c + k) → r x j = g x j
theorem n6_nb {a : Nat} {k : Int} (N : NB g r) : NB6 a c k g r := fun x j w _ => N x j w
theorem n6_tr {a : Nat} {k : Int} (p : NB6 a c k g z) (b : NB6 a c k z r) : NB6 a c k g r := fun x j w1 w2 => (b x j w1 w2).trans (p x j w1 w2)
theorem n6_mo {a b : Nat} {k : Int} (ab : b ≤ a) (p : NB6 a c k g r) : NB6 b c k g r := fun x j w1 w2 => p x j w1 (by omega)
/-- reading goes on behind; what was read is X (place, memory) -/
def QM9 (a : Nat) (X : Int → ms_M → Prop) (h : ms_M) (c k : Int) (g : ms_M) (u : Int × ms_M) : Prop := QP8 h c g u ∧ NB6 a c k g u.2 ∧ (Live u.2 → X u.1 u.2)
theorem qm_dead {a b : Nat} {X Y : Int → ms_M → Prop} {k : Int} {f : ms_M} {u : Int × ms_M} (ab : a ≤ b) (d : ¬ Live f) (N : NB6 a c k g f) (P : QM9 b Y h c k f u) : QM9 a X h c k g u := ⟨qp_dead d P.1, n6_tr N (n6_mo ab P.2.1), fun y => absurd (P.1.2.2 y).1 d⟩
theorem qm_live {a b : Nat} {X Y : Int → ms_M → Prop} {k : Int} {f : ms_M} {u : Int × ms_M} (ab : a ≤ b) (d : Live f → Live g) (N : NB6 a c k g f) (w : ∀ q r, Live f → Y q r → X q r) (P : QM9 b Y h c k f u) : QM9 a X h c k g u := ⟨qp_live d P.1, n6_tr N (n6_mo ab P.2.1), fun y => w _ _ (P.1.2.2 y).1 (P.2.2 y)⟩
/-- frames from p on, and their place is kept -/
def XF (h : ms_M) (c k p q : Int) (r : ms_M) : Prop := r 237 (12 * c + k).toNat = p ∧ p < h 160 113 ∧ FRM h c p q
theorem sr_444 (hn : 1000000 ≤ nn) (V0 : VS_ h) (hc : 0 ≤ c ∧ c ≤ 7) (B : Live h → SI8 h c) {l2 l4 : Int} (h2 : 0 ≤ l2 ∧ l2 < 12) (S : ST8 h g c) (a : 0 ≤ l4 ∧ l4 ≤ 80000) : Ok_ (qj_X13_scanMethod_444 nn c l2 l4 g) (QM9 237 (XF h c l2 l4) h c l2 g) := by
  have g113 := gF_160_113 V0
  unfold qj_X13_scanMethod_444
  refine ok_sv (st9_byte S) ?_; intro u15 P
  obtain ⟨S15, N15, P⟩ := P
  rcases P with ⟨p1, p2, p3, p4⟩ | ⟨p1, p2⟩
  · rw [if_pos (show ¬ u15.1 = 0 by omega), p2]
    refine ok_mul (by omega) ?_; intro v17 e17
    refine ok_add (by omega) ?_; intro v18 e18
    refine ok_wA (by omega) ?_; intro h19 E19
    have V19 : VS_ h19 := by rw [E19]; exact wA_237 S.1 (by omega)
    obtain ⟨S19, L19⟩ := st8_up S E19 V19 (by decide) (.inr ⟨by decide, by omega, by omega⟩)
    have N19 : NB6 237 c l2 g h19 := fun x j w1 w2 => by rw [E19, up_n (by omega)]
    have f19 : h19 237 (12 * c + l2).toNat = l4 := by rw [E19, show 12 * c + l2 = v18 by omega, up_s]
    refine ok_rd (by omega) (gA_238 V19) ?_; intro v21 e21 a21 b21
    rw [(S19.2.1.1 _).1] at e21
    refine ok_if (fun F => ?_) (fun _ => ?_)
    · refine ok_add (by omega) ?_; intro v22 e22
      refine ok_im (sr_497 hn V0 B ⟨a21, b21⟩ nn v22 0 h19 S19 (by omega) (fun _ => by omega) (by omega) (by omega)) (fun u q => ⟨qp_live L19 q.1, n6_tr N19 (n6_nb q.2.1), fun y => ⟨?_, by omega, by omega, ?_⟩⟩)
      · rw [q.2.1 237 _ (by omega)]; exact f19
      · rw [← e21, ← e22, show v21.toNat = (v21 - 0).toNat by omega]; exact q.2.2 y
    · refine ok_sv (st9_unfit S19 (by omega)) ?_; intro u24 P24
      refine ok_add (by omega) ?_; intro v25 e25
      exact ok_im (sr_497 hn V0 B ⟨a21, b21⟩ nn v25 0 u24 P24.1 (by omega) (fun y => absurd y P24.2.2) (by omega) (by omega)) (fun u q => ⟨qp_dead P24.2.2 q.1, n6_tr N19 (n6_tr (n6_nb P24.2.1) (n6_nb q.2.1)), fun y => absurd (q.1.2.2 y).1 P24.2.2⟩)
  · rw [if_neg (show ¬ ¬ u15.1 = 0 by omega)]
    exact ok_ret ⟨⟨S15, a, fun y => absurd y p2⟩, n6_nb N15, fun y => absurd y p2⟩
/-- n handlers from p on, then the frames -/
def XH (h : ms_M) (c k n p q : Int) (r : ms_M) : Prop := (∀ i : Int, 0 ≤ i → i < n → CL h c (h 238 (p + 7 * i + 6).toNat)) ∧ XF h c k (p + 7 * n) q r
theorem sr_381 (hn : 1000000 ≤ nn) (V0 : VS_ h) (hc : 0 ≤ c ∧ c ≤ 7) (B : Live h → SI8 h c) {l2 l8 : Int} (h2 : 0 ≤ l2 ∧ l2 < 12) (h8 : 0 ≤ l8 ∧ l8 ≤ 255) : ∀ (k : Nat) (l4 l9 : Int) (g : ms_M), ST8 h g c → (0 ≤ l4 ∧ l4 ≤ 80000) → (Live g → l4 ≤ h 160 113) → (0 ≤ l9 ∧ l9 ≤ l8) → l8 - l9 < (k : Int) → Ok_ (qw_X13_scanMethod_381 nn k c l2 l4 l8 l9 g) (QM9 237 (XH h c l2 (l8 - l9) l4) h c l2 g) := by
  have g113 := gF_160_113 V0
  intro k
  induction k with
  | zero => intro l4 l9 g S a l b hm; exfalso; omega
  | succ k ih =>
    intro l4 l9 g S a l b hm
    unfold qw_X13_scanMethod_381
    refine ok_if (fun C => ?_) (fun C => ?_)
    · refine ok_im (sr_444 hn V0 hc B h2 S a) (fun u q => qm_live (Nat.le_refl _) id (n6_nb nb_rf) (fun q r _ w => ⟨fun i i1 i2 => by exfalso; omega, ?_⟩) q)
      rw [show l4 + 7 * (l8 - l9) = l4 by omega]; exact w
    refine ok_if (fun D => ?_) (fun D => ?_)
    · exact ok_im (sr_444 hn V0 hc B h2 S a) (fun u q => qm_dead (Nat.le_refl _) D (n6_nb nb_rf) q)
    have l := l (Classical.not_not.1 D)
    refine ok_add (by omega) ?_; intro v29 e29
    refine ok_sv (st9_byte S) ?_; intro u31 P
    obtain ⟨S31, N31, P⟩ := P
    rcases P with ⟨p1, p2, p3, p4⟩ | ⟨p1, p2⟩
    · rw [if_neg (show ¬ u31.1 = 0 by omega), p2]
      have Bh := B (S.2.2.2 p3)
      refine ok_add (by omega) ?_; intro v35 e35
      refine ok_rd (by omega) (gA_238 S.1) ?_; intro v36 e36 _ _
      rw [(S.2.1.1 _).1, e35] at e36
      refine ok_sv (st8_class S Bh) ?_; intro u38 P38
      refine ok_if (fun F => ?_) (fun _ => ?_)
      · refine ok_add (by omega) ?_; intro v39 e39
        refine ok_add (by omega) ?_; intro v40 e40
        refine ok_im (ih v39 v40 g S (by omega) (fun _ => by omega) (by omega) (by omega)) (fun u q => qm_live (Nat.le_refl _) id (n6_nb nb_rf) (fun q r _ w => ⟨fun i i1 i2 => ?_, ?_⟩) q)
        · by_cases z : i = 0
          · rw [z, show l4 + 7 * 0 + 6 = l4 + 6 by omega, ← e36]; exact P38.2 F
          · have := w.1 (i - 1) (by omega) (by omega)
            rw [show v39 + 7 * (i - 1) + 6 = l4 + 7 * i + 6 by omega] at this
            exact this
        · rw [show l4 + 7 * (l8 - l9) = v39 + 7 * (l8 - v40) by omega]; exact w.2
      · refine ok_add (by omega) ?_; intro v41 e41
        refine ok_sv (st9_unfit S (by omega)) ?_; intro u43 P43
        refine ok_add (by omega) ?_; intro v44 e44
        refine ok_add (by omega) ?_; intro v45 e45
        exact ok_im (ih v44 v45 u43 P43.1 (by omega) (fun y => absurd y P43.2.2) (by omega) (by omega)) (fun u q => qm_dead (Nat.le_refl _) P43.2.2 (n6_nb P43.2.1) q)
    · rw [if_pos p1]
      refine ok_add (by omega) ?_; intro v32 e32
      refine ok_add (by omega) ?_; intro v33 e33
      exact ok_im (ih v32 v33 u31.2 S31 (by omega) (fun y => absurd y p2) (by omega) (by omega)) (fun u q => qm_dead (Nat.le_refl _) p2 (n6_nb N31) q)
/-- the handlers' row at p, and its place is kept -/
def XR (h : ms_M) (c k p q : Int) (r : ms_M) : Prop := r 236 (12 * c + k).toNat = p ∧ p < h 160 113 ∧ h 238 p.toNat ≤ 20 ∧ XH h c k (h 238 p.toNat) (p + 1) q r
theorem sr_328 (hn : 1000000 ≤ nn) (V0 : VS_ h) (hc : 0 ≤ c ∧ c ≤ 7) (B : Live h → SI8 h c) {l2 l4 : Int} (h2 : 0 ≤ l2 ∧ l2 < 12) (S : ST8 h g c) (a : 0 ≤ l4 ∧ l4 ≤ 80000) : Ok_ (qj_X13_scanMethod_328 nn c l2 l4 g) (QM9 236 (XR h c l2 l4) h c l2 g) := by
  have g113 := gF_160_113 V0
  unfold qj_X13_scanMethod_328
  refine ok_sv (st9_byte S) ?_; intro u15 P
  obtain ⟨S15, N15, P⟩ := P
  rcases P with ⟨p1, p2, p3, p4⟩ | ⟨p1, p2⟩
  · rw [if_pos (show ¬ u15.1 = 0 by omega), p2]
    refine ok_mul (by omega) ?_; intro v17 e17
    refine ok_add (by omega) ?_; intro v18 e18
    refine ok_wA (by omega) ?_; intro h19 E19
    have V19 : VS_ h19 := by rw [E19]; exact wA_236 S.1 (by omega)
    obtain ⟨S19, L19⟩ := st8_up S E19 V19 (by decide) (.inr ⟨by decide, by omega, by omega⟩)
    have N19 : NB6 236 c l2 g h19 := fun x j w1 w2 => by rw [E19, up_n (by omega)]
    have f19 : h19 236 (12 * c + l2).toNat = l4 := by rw [E19, show 12 * c + l2 = v18 by omega, up_s]
    refine ok_rd (by omega) (gA_238 V19) ?_; intro v21 e21 a21 b21
    rw [(S19.2.1.1 _).1] at e21
    refine ok_if (fun F => ?_) (fun _ => ?_)
    · refine ok_add (by omega) ?_; intro v22 e22
      obtain ⟨u, e1, q⟩ := sr_381 hn V0 hc B h2 ⟨a21, b21⟩ nn v22 0 h19 S19 (by omega) (fun _ => by omega) (by omega) (by omega)
      refine ⟨u, e1, qp_live L19 q.1, n6_tr N19 (n6_mo (by decide) q.2.1), fun y => ⟨?_, by omega, by omega, ?_⟩⟩
      · rw [q.2.1 236 _ (by omega) (by omega)]; exact f19
      · have w := q.2.2 y
        rw [← e21, ← e22, show v21 = v21 - 0 by omega]; exact w
    · refine ok_sv (st9_unfit S19 (by omega)) ?_; intro u24 P24
      refine ok_add (by omega) ?_; intro v25 e25
      exact ok_im (sr_381 hn V0 hc B h2 ⟨a21, b21⟩ nn v25 0 u24 P24.1 (by omega) (fun y => absurd y P24.2.2) (by omega) (by omega)) (fun u q => ⟨qp_dead P24.2.2 q.1, n6_tr N19 (n6_tr (n6_nb P24.2.1) (n6_mo (by decide) q.2.1)), fun y => absurd (q.1.2.2 y).1 P24.2.2⟩)
  · rw [if_neg (show ¬ ¬ u15.1 = 0 by omega)]
    exact ok_ret ⟨⟨S15, a, fun y => absurd y p2⟩, n6_nb N15, fun y => absurd y p2⟩
end
