section
variable {nn : Nat} {h g r z w v x : ms_M} {c d e k : Int} {ω : Int → ms_M}
/-- n bytes alike -/
def EB (f l : Nat → Int) (a b n : Int) : Prop := ∀ m : Int, 0 ≤ m → m < n → f (a + m).toNat = l (b + m).toNat
theorem kn_p {f l : Nat → Int} {a b n m q : Int} (E : EB f l a b n) (m0 : 0 ≤ m) (q0 : q ≤ n) (K : KN f (a + m) (a + q)) : KN l (b + m) (b + q) := by
  obtain ⟨k1, k2, k3, k4⟩ := K
  refine ⟨by rw [← E m m0 (by omega)]; exact k1, ⟨by omega, fun i i1 i2 => ?_⟩, ?_, fun i i1 i2 => ?_⟩
  · have y := k2.2 i i1 (by omega)
    rw [show a + m + 1 + i = a + (m + 1 + i) by omega, E (m + 1 + i) (by omega) (by omega)] at y
    rw [show b + m + 1 + i = b + (m + 1 + i) by omega]; exact y
  · rw [show b + q - 1 = b + (q - 1) by omega, ← E (q - 1) (by omega) (by omega), show a + (q - 1) = a + q - 1 by omega]; exact k3
  · have y := k4 (a + (i - b)) (by omega) (by omega)
    rw [E (i - b) (by omega) (by omega), show b + (i - b) = i by omega] at y
    exact y
theorem kk_p {f l : Nat → Int} {a b n m q : Int} (E : EB f l a b n) (m0 : 0 ≤ m) (q0 : q ≤ n) (K : KK f (a + m) (a + q)) : KK l (b + m) (b + q) := by
  rcases K with K | K
  · exact .inl ⟨by rw [← E m m0 (by omega)]; exact K.1, by omega⟩
  · exact .inr (kn_p E m0 q0 K)
theorem kd_p {f l : Nat → Int} {a b n m q : Int} (E : EB f l a b n) (m0 : 0 ≤ m) (q0 : q ≤ n) (K : KD f (a + m) (a + q)) : KD l (b + m) (b + q) := by
  have lt := kd_lt K
  have e0 := E m m0 (by omega)
  rcases K with K | K | K
  · exact .inl ⟨by rw [← e0]; exact K.1, by omega⟩
  · exact .inr (.inl ⟨by rw [← e0]; exact K.1, kk_p E m0 q0 K.2⟩)
  · refine .inr (.inr ⟨by rw [← e0]; exact K.1, ?_⟩)
    have y := K.2
    rw [show a + m + 1 = a + (m + 1) by omega] at y
    rw [show b + m + 1 = b + (m + 1) by omega]
    exact kk_p E (by omega) q0 y
theorem rtk_p {f l : Nat → Int} {a b n m q : Int} (E : EB f l a b n) (m0 : 0 ≤ m) (q0 : q ≤ n) (K : RTk f (a + m) (a + q)) : RTk l (b + m) (b + q) := by
  rcases K with K | K
  · exact .inl ⟨by rw [← E m m0 (by omega)]; exact K.1, by omega⟩
  · exact .inr (kd_p E m0 q0 K)
/-- the bytes of an image in the space -/
theorem eb_sb (X : WI h d v) (W : WI h c w) (hd : 0 ≤ d ∧ d ≤ 7) (hc : 0 ≤ c ∧ c ≤ 7) {a b n m l : Int} (E : EB (v 238) (w 238) a b n) (a0 : 0 ≤ a ∧ a + n ≤ v 160 113) (b0 : 0 ≤ b ∧ b + n ≤ w 160 113) (hm : 0 ≤ m ∧ m + l ≤ n) (hl : 0 ≤ l ∧ l ≤ 255) : SB h (6000 * d + (a + m)) (6000 * c + (b + m)) l := by
  have g1 := gF_160_113 X.1
  have g2 := gF_160_113 W.1
  refine ⟨by omega, by omega, hl, fun i i1 i2 => ?_⟩
  rw [show 6000 * d + (a + m) + i = 6000 * d + (a + m + i) by omega, show 6000 * c + (b + m) + i = 6000 * c + (b + m + i) by omega, X.2.2.1 _ (by omega) (by omega), W.2.2.1 _ (by omega) (by omega)]
  have y := E (m + i) (by omega) (by omega)
  rw [show a + (m + i) = a + m + i by omega, show b + (m + i) = b + m + i by omega] at y
  exact y
theorem ktv_p (X : WI h d v) (W : WI h c w) (hd : 0 ≤ d ∧ d ≤ 7) (hc : 0 ≤ c ∧ c ≤ 7) {a b n m q t : Int} (E : EB (v 238) (w 238) a b n) (a0 : 0 ≤ a ∧ a + n ≤ v 160 113) (b0 : 0 ≤ b ∧ b + n ≤ w 160 113) (m0 : 0 ≤ m) (q0 : q ≤ n) (R : RTk (v 238) (a + m) (a + q)) (K : KTv nn h d (v 238) (a + m) (a + q) t) : KTv nn h c (w 238) (b + m) (b + q) t := by
  have lt : m < q := by
    rcases R with R | R
    · omega
    · have := kd_lt R; omega
  have e0 := E m m0 (by omega)
  rcases K with K | K | ⟨k1, u, k2, k3⟩ | ⟨k1, k2, k3⟩ | ⟨k1, k2, u, k3, k4⟩
  · exact .inl ⟨by rw [← e0]; exact K.1, K.2⟩
  · exact .inr (.inl ⟨by rw [← e0]; exact K.1, K.2⟩)
  · have kn : KN (v 238) (a + m) (a + q) := by
      rcases R with R | R | ⟨_, R⟩ | R
      · exfalso; omega
      · exfalso; omega
      · rcases R with R | R
        · exfalso; omega
        · exact R
      · exfalso; omega
    have b3 := kn.2.1
    refine .inr (.inr (.inl ⟨by rw [← e0]; exact k1, u, ?_, k3⟩))
    have s := eb_sb X W hd hc E a0 b0 (m := m + 1) (l := q - m - 2) (by omega) (by omega)
    rw [show 6000 * d + (a + (m + 1)) = 6000 * d + (a + m) + 1 by omega, show 6000 * c + (b + (m + 1)) = 6000 * c + (b + m) + 1 by omega] at s
    rw [show a + q - (a + m) - 2 = q - m - 2 by omega] at k2
    rw [show b + q - (b + m) - 2 = q - m - 2 by omega]
    exact cn_p s k2
  · have : m + 1 < n := by
      rcases R with R | R | ⟨_, R⟩ | R
      · exfalso; omega
      · exfalso; omega
      · rcases R with R | R
        · exfalso; omega
        · have := R.1; exfalso; omega
      · have := kk_lt R.2; omega
    refine .inr (.inr (.inr (.inl ⟨by rw [← e0]; exact k1, ?_, k3⟩)))
    rw [show b + m + 1 = b + (m + 1) by omega, ← E (m + 1) (by omega) (by omega), show a + (m + 1) = a + m + 1 by omega]; exact k2
  · have kn : KN (v 238) (a + m + 1) (a + q) := by
      rcases R with R | R | ⟨_, R⟩ | R
      · exfalso; omega
      · exfalso; omega
      · rcases R with R | R
        · exfalso; omega
        · have := R.1; exfalso; omega
      · rcases R.2 with R | R
        · exfalso; omega
        · exact R
    have b3 := kn.2.1
    refine .inr (.inr (.inr (.inr ⟨by rw [← e0]; exact k1, ?_, u, ?_, k4⟩)))
    · rw [show b + m + 1 = b + (m + 1) by omega, ← E (m + 1) (by omega) (by omega), show a + (m + 1) = a + m + 1 by omega]; exact k2
    have s := eb_sb X W hd hc E a0 b0 (m := m + 2) (l := q - m - 3) (by omega) (by omega)
    rw [show 6000 * d + (a + (m + 2)) = 6000 * d + (a + m) + 2 by omega, show 6000 * c + (b + (m + 2)) = 6000 * c + (b + m) + 2 by omega] at s
    rw [show a + q - (a + m) - 3 = q - m - 3 by omega] at k3
    rw [show b + q - (b + m) - 3 = q - m - 3 by omega]
    exact cn_p s k3
/-- n parameters from p to q: their types are L from i on -/
def PVn (nn : Nat) (h : ms_M) (c : Int) (f : Nat → Int) (L : Int → Int) : Nat → Int → Int → Int → Prop
  | 0, _, p, q => p = q
  | n + 1, i, p, q => ∃ e : Int, (KD f p e ∧ KTv nn h c f p e (L i)) ∧ PVn nn h c f L n (i + 1) e q
/-- a method's kind from a to e: m parameters of types L, result t (at q + 1) -/
def MKV (nn : Nat) (h : ms_M) (c : Int) (f : Nat → Int) (a e m : Int) (L : Int → Int) (q t : Int) : Prop := (0 ≤ m ∧ m ≤ 6) ∧ PVn nn h c f L m.toNat 0 (a + 1) q ∧ f q.toNat = 41 ∧ RTk f (q + 1) e ∧ KTv nn h c f (q + 1) e t
theorem pv_lt {f : Nat → Int} {L : Int → Int} : ∀ (n : Nat) (i p q : Int), PVn nn h c f L n i p q → p + n ≤ q := by
  intro n
  induction n with
  | zero => intro i p q a; have a : p = q := a; omega
  | succ n ih =>
    intro i p q a
    obtain ⟨e, ⟨b, _⟩, d⟩ := a
    have := kd_lt b
    have := ih _ _ _ d
    omega
theorem pv_c {f : Nat → Int} {L : Int → Int} (A : AGc h g) : ∀ (n : Nat) (i p q : Int), PVn nn h c f L n i p q → PVn nn g c f L n i p q := by
  intro n
  induction n with
  | zero => intro i p q a; exact a
  | succ n ih =>
    intro i p q a
    obtain ⟨e, ⟨b, b2⟩, d⟩ := a
    exact ⟨e, ⟨b, ktv_c A b2⟩, ih _ _ _ d⟩
theorem mkv_c {f : Nat → Int} {L : Int → Int} {a e m q t : Int} (A : AGc h g) (K : MKV nn h c f a e m L q t) : MKV nn g c f a e m L q t := ⟨K.1, pv_c A _ _ _ _ K.2.1, K.2.2.1, K.2.2.2.1, ktv_c A K.2.2.2.2⟩
theorem pv_ext {f : Nat → Int} {L K : Int → Int} : ∀ (n : Nat) (i p q : Int), (∀ x : Int, i ≤ x → L x = K x) → PVn nn h c f L n i p q → PVn nn h c f K n i p q := by
  intro n
  induction n with
  | zero => intro i p q y a; exact a
  | succ n ih =>
    intro i p q y a
    obtain ⟨e, ⟨b, b2⟩, d⟩ := a
    exact ⟨e, ⟨b, by rw [← y i (by omega)]; exact b2⟩, ih _ _ _ (fun x hx => y x (by omega)) d⟩
theorem pv_of {f : Nat → Int} : ∀ (n : Nat) (i p q : Int), PFn nn h c f n p q → ∃ L : Int → Int, PVn nn h c f L n i p q := by
  intro n
  induction n with
  | zero => intro i p q a; exact ⟨fun _ => 0, a⟩
  | succ n ih =>
    intro i p q a
    obtain ⟨e, ⟨b, b2⟩, d⟩ := a
    obtain ⟨L, y⟩ := ih (i + 1) _ _ d
    obtain ⟨t, kt⟩ := ktv_ex (.inr b) b2
    refine ⟨fun x => if x = i then t else L x, e, ⟨b, ?_⟩, pv_ext _ _ _ _ (fun x hx => ?_) y⟩
    · show KTv nn h c f p e (if i = i then t else L i)
      rw [if_pos rfl]; exact kt
    · rw [if_neg (show ¬ x = i by omega)]
theorem mkv_of {f : Nat → Int} {a e : Int} (K : MKF nn h c f a e) : ∃ (m : Int) (L : Int → Int) (q t : Int), MKV nn h c f a e m L q t := by
  obtain ⟨m, q, m6, pf, f41, rt, kf⟩ := K
  obtain ⟨L, y⟩ := pv_of _ 0 _ _ pf
  obtain ⟨t, kt⟩ := ktv_ex rt kf
  exact ⟨m, L, q, t, by omega, by rw [show ((m : Int)).toNat = m by omega]; exact y, f41, rt, kt⟩
theorem kd_41 {f : Nat → Int} {p e : Int} (K : KD f p e) : ¬ f p.toNat = 41 := by
  rcases K with K | ⟨_, K⟩ | K
  · omega
  · rcases K with K | K
    · omega
    · have := K.1; omega
  · omega
theorem kn_det {f : Nat → Int} {p e e2 : Int} (K : KN f p e) (J : KN f p e2) : e = e2 := by
  obtain ⟨k1, k2, k3, k4⟩ := K
  obtain ⟨j1, j2, j3, j4⟩ := J
  by_cases y : e < e2
  · exact absurd k3 (j4 (e - 1) (by omega) (by omega))
  · by_cases y2 : e2 < e
    · exact absurd j3 (k4 (e2 - 1) (by omega) (by omega))
    · omega
theorem kk_det {f : Nat → Int} {p e e2 : Int} (K : KK f p e) (J : KK f p e2) : e = e2 := by
  rcases K with K | K <;> rcases J with J | J
  · omega
  · have := J.1; omega
  · have := K.1; omega
  · exact kn_det K J
theorem kd_det {f : Nat → Int} {p e e2 : Int} (K : KD f p e) (J : KD f p e2) : e = e2 := by
  rcases K with K | ⟨K, K2⟩ | ⟨K, K2⟩ <;> rcases J with J | ⟨J, J2⟩ | ⟨J, J2⟩
  · omega
  · rcases J2 with J2 | J2
    · omega
    · have := J2.1; omega
  · omega
  · rcases K2 with K2 | K2
    · omega
    · have := K2.1; omega
  · exact kk_det K2 J2
  · exact absurd J K
  · omega
  · exact absurd K J
  · exact kk_det K2 J2
theorem pr_41 {f : Nat → Int} : ∀ (n m : Nat) (p q q2 : Int), PRn f n p q → PRn f m p q2 → f q.toNat = 41 → f q2.toNat = 41 → n = m ∧ q = q2 := by
  intro n
  induction n with
  | zero =>
    intro m p q q2 a b f1 f2
    have a : p = q := a
    cases m with
    | zero => have b : p = q2 := b; exact ⟨rfl, by omega⟩
    | succ m =>
      obtain ⟨e, b1, _⟩ := b
      rw [← a] at f1
      exact absurd f1 (kd_41 b1)
  | succ n ih =>
    intro m p q q2 a b f1 f2
    obtain ⟨e, a1, a2⟩ := a
    cases m with
    | zero =>
      have b : p = q2 := b
      rw [← b] at f2
      exact absurd f2 (kd_41 a1)
    | succ m =>
      obtain ⟨e2, b1, b2⟩ := b
      rw [kd_det b1 a1] at b2
      obtain ⟨y1, y2⟩ := ih m _ _ _ a2 b2 f1 f2
      exact ⟨by omega, y2⟩
theorem pv_pr {f : Nat → Int} {L : Int → Int} : ∀ (n : Nat) (i p q : Int), PVn nn h c f L n i p q → PRn f n p q := by
  intro n
  induction n with
  | zero => intro i p q a; exact a
  | succ n ih =>
    intro i p q a
    obtain ⟨e, ⟨b, _⟩, d⟩ := a
    exact ⟨e, b, ih _ _ _ d⟩
theorem pv_det {f : Nat → Int} {L K : Int → Int} : ∀ (n : Nat) (i p q q2 : Int), PVn nn h c f L n i p q → PVn nn h c f K n i p q2 → ∀ x : Int, i ≤ x → x < i + n → L x = K x := by
  intro n
  induction n with
  | zero => intro i p q q2 a b x x1 x2; exfalso; omega
  | succ n ih =>
    intro i p q q2 a b x x1 x2
    obtain ⟨e, ⟨a1, a2⟩, a3⟩ := a
    obtain ⟨e2, ⟨b1, b2⟩, b3⟩ := b
    rw [kd_det b1 a1] at b2 b3
    by_cases y : x = i
    · rw [y]; exact ktv_det a2 b2
    · exact ih _ _ _ _ a3 b3 x (by omega) (by omega)
theorem mkv_det {f : Nat → Int} {L K : Int → Int} {a e m m2 q q2 t t2 : Int} (A : MKV nn h c f a e m L q t) (B : MKV nn h c f a e m2 K q2 t2) : m = m2 ∧ (∀ x : Int, 0 ≤ x → x < m → L x = K x) ∧ q = q2 ∧ t = t2 := by
  obtain ⟨a0, a1, a2, a3, a4⟩ := A
  obtain ⟨b0, b1, b2, b3, b4⟩ := B
  obtain ⟨y1, y2⟩ := pr_41 _ _ _ _ _ (pv_pr _ _ _ _ a1) (pv_pr _ _ _ _ b1) a2 b2
  rw [← y2] at b4
  rw [← y1] at b1
  exact ⟨by omega, fun x x1 x2 => pv_det _ _ _ _ _ a1 b1 x x1 (by omega), y2, ktv_det a4 b4⟩
theorem pv_p (X : WI h d v) (W : WI h c w) (hd : 0 ≤ d ∧ d ≤ 7) (hc : 0 ≤ c ∧ c ≤ 7) {a b n : Int} {L : Int → Int} (E : EB (v 238) (w 238) a b n) (a0 : 0 ≤ a ∧ a + n ≤ v 160 113) (b0 : 0 ≤ b ∧ b + n ≤ w 160 113) : ∀ (l : Nat) (i m q : Int), 0 ≤ m → q ≤ n → PVn nn h d (v 238) L l i (a + m) (a + q) → PVn nn h c (w 238) L l i (b + m) (b + q) := by
  intro l
  induction l with
  | zero => intro i m q m0 q0 y; have y : a + m = a + q := y; show b + m = b + q; omega
  | succ l ih =>
    intro i m q m0 q0 y
    obtain ⟨e, ⟨y1, y2⟩, y3⟩ := y
    have lt := kd_lt y1
    have le := pv_lt _ _ _ _ y3
    obtain ⟨e', ee⟩ : ∃ e' : Int, e = a + e' := ⟨e - a, by omega⟩
    rw [ee] at y1 y2 y3
    exact ⟨b + e', ⟨kd_p E m0 (by omega) y1, ktv_p X W hd hc E a0 b0 m0 (by omega) (.inr y1) y2⟩, ih _ _ _ (by omega) q0 y3⟩
theorem mkv_p (X : WI h d v) (W : WI h c w) (hd : 0 ≤ d ∧ d ≤ 7) (hc : 0 ≤ c ∧ c ≤ 7) {a b n m q t : Int} {L : Int → Int} (E : EB (v 238) (w 238) a b n) (a0 : 0 ≤ a ∧ a + n ≤ v 160 113) (b0 : 0 ≤ b ∧ b + n ≤ w 160 113) (K : MKV nn h d (v 238) a (a + n) m L q t) : MKV nn h c (w 238) b (b + n) m L (b + (q - a)) t := by
  obtain ⟨k0, k1, k2, k3, k4⟩ := K
  have le := pv_lt _ _ _ _ k1
  have lt : q + 1 < a + n := by
    rcases k3 with R | R
    · omega
    · have := kd_lt R; omega
  obtain ⟨q', eq⟩ : ∃ q' : Int, q = a + q' := ⟨q - a, by omega⟩
  rw [eq] at k1 k2 k3 k4
  rw [show b + (q - a) = b + q' by omega]
  rw [show a + q' + 1 = a + (q' + 1) by omega] at k3 k4
  refine ⟨k0, pv_p X W hd hc E a0 b0 _ _ _ _ (by omega) (by omega) k1, ?_, ?_, ?_⟩
  · rw [← E q' (by omega) (by omega)]; exact k2
  · rw [show b + q' + 1 = b + (q' + 1) by omega]; exact rtk_p E (by omega) (by omega) k3
  · rw [show b + q' + 1 = b + (q' + 1) by omega]; exact ktv_p X W hd hc E a0 b0 (by omega) (by omega) k3 k4
/-- text i of image c as a method's kind -/
def TKV (nn : Nat) (h : ms_M) (c : Int) (w : ms_M) (i m : Int) (L : Int → Int) (q t : Int) : Prop := MKV nn h c (w 238) (pl w c i + 2) (pl w c i + 2 + w 238 (pl w c i + 1).toNat) m L q t
/-- text i of image c as a field's kind -/
def TKU (nn : Nat) (h : ms_M) (c : Int) (w : ms_M) (i t : Int) : Prop := KD (w 238) (pl w c i + 2) (pl w c i + 2 + w 238 (pl w c i + 1).toNat) ∧ KTv nn h c (w 238) (pl w c i + 2) (pl w c i + 2 + w 238 (pl w c i + 1).toNat) t
theorem eqt_eb {i j : Int} (E : EQT v d i w c j) : EB (v 238) (w 238) (pl v d i + 2) (pl w c j + 2) (v 238 (pl v d i + 1).toNat) := fun m a b => E.2 m a b
theorem tkv_p (X : WI h d v) (W : WI h c w) (hd : 0 ≤ d ∧ d ≤ 7) (hc : 0 ≤ c ∧ c ≤ 7) {i j m q t : Int} {L : Int → Int} (ti : TX v d i) (tj : TX w c j) (E : EQT v d i w c j) (K : TKV nn h d v i m L q t) : ∃ q2 : Int, TKV nn h c w j m L q2 t := by
  obtain ⟨_, _, a3, a4, _⟩ := wi_tx X hd ti
  obtain ⟨_, _, b3, b4, _⟩ := wi_tx W hc tj
  have e1 := E.1
  refine ⟨pl w c j + 2 + (q - (pl v d i + 2)), ?_⟩
  unfold TKV
  rw [← e1]
  exact mkv_p X W hd hc (eqt_eb E) (by omega) (by omega) K
theorem tku_p (X : WI h d v) (W : WI h c w) (hd : 0 ≤ d ∧ d ≤ 7) (hc : 0 ≤ c ∧ c ≤ 7) {i j t : Int} (ti : TX v d i) (tj : TX w c j) (E : EQT v d i w c j) (K : TKU nn h d v i t) : TKU nn h c w j t := by
  obtain ⟨_, _, a3, a4, _⟩ := wi_tx X hd ti
  obtain ⟨_, _, b3, b4, _⟩ := wi_tx W hc tj
  have e1 := E.1
  unfold TKU
  rw [← e1]
  have k1 := K.1
  have k2 := K.2
  have z : ∀ y : Int, y = y + 0 := fun y => by omega
  rw [z (pl v d i + 2)] at k1 k2
  rw [z (pl w c j + 2)]
  rw [show pl v d i + 2 + 0 + v 238 (pl v d i + 1).toNat = pl v d i + 2 + v 238 (pl v d i + 1).toNat by omega] at k1 k2
  rw [show pl w c j + 2 + 0 + v 238 (pl v d i + 1).toNat = pl w c j + 2 + v 238 (pl v d i + 1).toNat by omega]
  exact ⟨kd_p (eqt_eb E) (by omega) (by omega) k1, ktv_p X W hd hc (eqt_eb E) (by omega) (by omega) (by omega) (by omega) (.inr k1) k2⟩
end
