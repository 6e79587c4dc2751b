section
variable {nn : Nat} {h g r z w v x f R : ms_M} {c d e k : Int} {ω : Int → ms_M}
/-- all that a good verify tells of the space g -/
def VRC (nn : Nat) (ω : Int → ms_M) (g : ms_M) : Prop := (VS_ g ∧ SPD g) ∧ OM g ω ∧ CLA nn g ω ∧ ∀ c k : Int, 0 ≤ c → c < g 160 98 → 0 ≤ k → k < g 234 c.toNat → MOK nn g ω c k
/-- the space of h was verified -/
def VRD (nn : Nat) (h : ms_M) : Prop := ∃ (ω : Int → ms_M) (g : ms_M), VRC nn ω g ∧ AGe g h
theorem vrd_of (V : VS_ h) (S : SPD h) (X : VER nn h) : VRD nn h := by
  obtain ⟨ω, o, a, b⟩ := X
  exact ⟨ω, h, ⟨⟨V, S⟩, o, a, b⟩, age_rf⟩
theorem vrd_e (A : AGe h r) (X : VRD nn h) : VRD nn r := by
  obtain ⟨ω, g, a, b⟩ := X
  exact ⟨ω, g, a, age_tr b A⟩
theorem su_rg (hn : 1000000 ≤ nn) (V : VS_ g) (S : SPD g) (hk : 0 ≤ k ∧ k < 8 + g 160 98) : ∃ y : Int, qf_X13_superOf nn k g = some y ∧ (-1 ≤ y ∧ y < 8 + g 160 98) := by
  obtain ⟨y, e, p⟩ := rv_super hn V S hk
  exact ⟨y, e, p⟩
theorem su_0 : qf_X13_superOf nn 0 g = some (-1) := by
  unfold qf_X13_superOf
  rw [if_neg (by decide), if_neg (by decide)]
theorem su_1 : qf_X13_superOf nn 1 g = some 0 := by
  unfold qf_X13_superOf
  rw [if_neg (by decide), if_pos (by decide), if_neg (by decide)]
theorem su_b (hk : 2 ≤ k ∧ k < 8) : qf_X13_superOf nn k g = some 1 := by
  unfold qf_X13_superOf
  rw [if_neg (by omega), if_pos (by omega), if_pos (by omega)]
theorem chn_b (hk : 0 ≤ k ∧ k < 8) : CHn nn g 17 k := by
  have c0 : ∀ n : Nat, CHn nn g (n + 2) 0 := fun n => .inr ⟨by decide, -1, su_0, .inl rfl⟩
  have c1 : ∀ n : Nat, CHn nn g (n + 3) 1 := fun n => .inr ⟨by decide, 0, su_1, c0 n⟩
  by_cases y0 : k = 0
  · rw [y0]; exact c0 15
  · by_cases y1 : k = 1
    · rw [y1]; exact c1 14
    · exact .inr ⟨by omega, 1, su_b (by omega), c1 13⟩
theorem chn_a (C : CLA nn g ω) (hk : 0 ≤ k ∧ k < 8 + g 160 98) : CHn nn g 17 k := by
  by_cases y : 8 ≤ k
  · exact (C k y hk.2).2.1
  · exact chn_b (by omega)
/-- t is n steps above k -/
def UPn (nn : Nat) (g : ms_M) : Nat → Int → Int → Prop
  | 0, k, t => k = t
  | n + 1, k, t => ¬ k = -1 ∧ ∃ y : Int, qf_X13_superOf nn k g = some y ∧ UPn nn g n y t
/-- class k is t or below it -/
def UNd (nn : Nat) (g : ms_M) (k t : Int) : Prop := ¬ t = -1 ∧ ∃ n : Nat, UPn nn g n k t
theorem upn_tr : ∀ (n m : Nat) (a b t : Int), UPn nn g n a b → UPn nn g m b t → UPn nn g (n + m) a t := by
  intro n
  induction n with
  | zero => intro m a b t p q; have p : a = b := p; rw [p, Nat.zero_add]; exact q
  | succ n ih =>
    intro m a b t p q
    obtain ⟨p1, y, p2, p3⟩ := p
    rw [show n + 1 + m = (n + m) + 1 by omega]
    exact ⟨p1, y, p2, ih m _ _ _ p3 q⟩
theorem und_tr {a b t : Int} (p : UNd nn g a b) (q : UNd nn g b t) : UNd nn g a t := by
  obtain ⟨p1, n, p2⟩ := p
  obtain ⟨q1, m, q2⟩ := q
  exact ⟨q1, n + m, upn_tr n m _ _ _ p2 q2⟩
theorem und_rf {a : Int} (p : ¬ a = -1) : UNd nn g a a := ⟨p, 0, rfl⟩
theorem und_0 {t : Int} (p : UNd nn g 0 t) : t = 0 := by
  obtain ⟨p1, n, p2⟩ := p
  cases n with
  | zero => have p2 : (0 : Int) = t := p2; omega
  | succ n =>
    obtain ⟨_, y, q1, q2⟩ := p2
    rw [su_0] at q1
    have q1 : (-1 : Int) = y := Option.some.inj q1
    rw [← q1] at q2
    cases n with
    | zero => have q2 : (-1 : Int) = t := q2; omega
    | succ n => exact absurd rfl q2.1
theorem upn_rg (hn : 1000000 ≤ nn) (V : VS_ g) (S : SPD g) : ∀ (n : Nat) (k t : Int), (-1 ≤ k ∧ k < 8 + g 160 98) → UPn nn g n k t → (-1 ≤ t ∧ t < 8 + g 160 98) := by
  intro n
  induction n with
  | zero => intro k t a b; have b : k = t := b; omega
  | succ n ih =>
    intro k t a b
    obtain ⟨b1, y, b2, b3⟩ := b
    obtain ⟨y', e, p⟩ := su_rg hn V S (k := k) (by omega)
    have : y = y' := Option.some.inj (b2.symm.trans e)
    rw [this] at b3
    exact ih _ _ p b3
/-- isUnder tells -/
theorem rt_under (hn : 1000000 ≤ nn) (X : VRC nn ω g) (A : AGe g R) (VR : VS_ R) {k t : Int} (hk : -1 ≤ k ∧ k < 8 + g 160 98) (ht : ¬ t = -1) : Ok_ (qf_X13_isUnder nn k t R) (fun u => (u = 1 ∧ UNd nn g k t) ∨ (u = 0 ∧ ¬ UNd nn g k t)) := by
  obtain ⟨⟨V, S⟩, O, C, _⟩ := X
  have L : ∀ (j : Nat) (n : Nat) (l3 l4 : Int), (-1 ≤ l3 ∧ l3 < 8 + g 160 98) → 0 ≤ l4 → l4 + n = 17 → CHn nn g n l3 → (n : Int) < j → Ok_ (qw_X13_isUnder_5 nn j t l3 l4 R) (fun u => (u = 1 ∧ UNd nn g l3 t) ∨ (u = 0 ∧ ¬ UNd nn g l3 t)) := by
    intro j
    induction j with
    | zero => intro n l3 l4 a b b2 C hm; exfalso; omega
    | succ j ih =>
      intro n l3 l4 a b b2 C hm
      have no : l3 = -1 → ¬ UNd nn g l3 t := fun e q => by
        obtain ⟨_, m, q⟩ := q
        cases m with
        | zero => have q : l3 = t := q; omega
        | succ m => exact q.1 e
      unfold qw_X13_isUnder_5
      cases n with
      | zero =>
        rw [if_pos (show 16 < l4 by omega)]
        exact ok_ret (.inr ⟨rfl, no C⟩)
      | succ n =>
      rw [if_neg (show ¬ 16 < l4 by omega)]
      refine ok_if (fun y => ok_ret (.inr ⟨rfl, no y⟩)) (fun y => ?_)
      refine ok_if (fun y2 => ?_) (fun y2 => ok_ret (.inl ⟨rfl, ht, 0, show l3 = t from Decidable.not_not.1 y2⟩))
      obtain ⟨u, e, p⟩ := su_rg hn V S (k := l3) (by omega)
      rw [ce_super V VR O A (by omega), e, mx_svs]
      refine ok_add (by omega) ?_; intro v3 e3
      have C2 : CHn nn g n u := by
        rcases C with q | ⟨_, y', q, q2⟩
        · exact absurd q y
        · rw [Option.some.inj (e.symm.trans q)]; exact q2
      refine ok_im (ih n u v3 p (by omega) (by omega) C2 (by omega)) (fun x P => ?_)
      rcases P with ⟨P1, P2, m, P3⟩ | ⟨P1, P2⟩
      · exact .inl ⟨P1, P2, m + 1, y, u, e, P3⟩
      · refine .inr ⟨P1, fun q => P2 ?_⟩
        obtain ⟨q1, m, q2⟩ := q
        cases m with
        | zero => exact absurd q2 y2
        | succ m =>
          obtain ⟨_, y', q3, q4⟩ := q2
          rw [← Option.some.inj (e.symm.trans q3)] at q4
          exact ⟨q1, m, q4⟩
  unfold qf_X13_isUnder
  by_cases y : k = -1
  · refine L nn 17 k 0 hk (by omega) (by omega) (.inl y) (by omega)
  · exact L nn 17 k 0 hk (by omega) (by omega) (chn_a C (by omega)) (by omega)
/-- how many fields an object of class k has -/
def fm (g : ms_M) (k : Int) : Int := if 8 ≤ k then g 232 (k - 8).toNat else 0
def FOn (nn : Nat) (g : ms_M) : Nat → Int → Int → Prop
  | 0, k, s => k = -1 ∧ s = 0
  | n + 1, k, s => (k = -1 ∧ s = 0) ∨ (¬ k = -1 ∧ ∃ y t : Int, qf_X13_superOf nn k g = some y ∧ FOn nn g n y t ∧ s = t + fm g k)
def FO (nn : Nat) (g : ms_M) (k s : Int) : Prop := ∃ n : Nat, FOn nn g n k s
theorem fon_det : ∀ (n m : Nat) (k s t : Int), FOn nn g n k s → FOn nn g m k t → s = t := by
  intro n
  induction n with
  | zero =>
    intro m k s t a b
    cases m with
    | zero => have := a.2; have := b.2; omega
    | succ m =>
      rcases b with b | b
      · have := a.2; omega
      · exact absurd a.1 b.1
  | succ n ih =>
    intro m k s t a b
    rcases a with a | ⟨a1, y, t1, a2, a3, a4⟩
    · cases m with
      | zero => have := b.2; omega
      | succ m =>
        rcases b with b | b
        · omega
        · exact absurd a.1 b.1
    · cases m with
      | zero => exact absurd b.1 a1
      | succ m =>
        rcases b with b | ⟨b1, y2, t2, b2, b3, b4⟩
        · exact absurd b.1 a1
        · rw [← Option.some.inj (a2.symm.trans b2)] at b3
          have := ih m y t1 t2 a3 b3
          omega
theorem fo_det {s t : Int} (a : FO nn g k s) (b : FO nn g k t) : s = t := by
  obtain ⟨n, a⟩ := a
  obtain ⟨m, b⟩ := b
  exact fon_det n m k s t a b
theorem fm_rg (V : VS_ g) (O : OM g ω) (hk : k < 8 + g 160 98) : 0 ≤ fm g k ∧ fm g k ≤ 12 := by
  have g98 := gF_160_98 V
  unfold fm
  by_cases y : 8 ≤ k
  · rw [if_pos y]
    have W := O (k - 8) (by omega) (by omega)
    exact ⟨(gA_232 V _ (by omega)).1, W.2.2.2.2.2.2.1.1⟩
  · rw [if_neg y]; exact ⟨by decide, by decide⟩
theorem fo_nn (hn : 1000000 ≤ nn) (V : VS_ g) (S : SPD g) (O : OM g ω) : ∀ (n : Nat) (k s : Int), (-1 ≤ k ∧ k < 8 + g 160 98) → FOn nn g n k s → 0 ≤ s := by
  intro n
  induction n with
  | zero => intro k s _ a; have := a.2; omega
  | succ n ih =>
    intro k s hk a
    rcases a with a | ⟨a1, y, t1, a2, a3, a4⟩
    · omega
    · obtain ⟨y', e, p⟩ := su_rg hn V S (k := k) (by omega)
      rw [← Option.some.inj (a2.symm.trans e)] at p
      have := ih y t1 p a3
      have := (fm_rg V O hk.2).1
      omega
/-- up the chain there are not more -/
theorem fo_up (hn : 1000000 ≤ nn) (V : VS_ g) (S : SPD g) (O : OM g ω) : ∀ (n : Nat) (k a s : Int), (-1 ≤ k ∧ k < 8 + g 160 98) → UPn nn g n k a → FO nn g k s → ∃ t : Int, FO nn g a t ∧ t ≤ s ∧ (¬ n = 0 → ∃ y u : Int, qf_X13_superOf nn k g = some y ∧ FO nn g y u ∧ t ≤ u) := by
  intro n
  induction n with
  | zero => intro k a s _ b d; have b : k = a := b; rw [← b]; exact ⟨s, d, by omega, fun y => absurd rfl y⟩
  | succ n ih =>
    intro k a s hk b d
    obtain ⟨b1, y, b2, b3⟩ := b
    obtain ⟨m, d⟩ := d
    have d2 : ∃ t1 : Int, FO nn g y t1 ∧ s = t1 + fm g k := by
      cases m with
      | zero => exact absurd d.1 b1
      | succ m =>
        rcases d with d | ⟨_, y2, t2, q2, q3, q4⟩
        · exact absurd d.1 b1
        · rw [← Option.some.inj (b2.symm.trans q2)] at q3
          exact ⟨t2, ⟨m, q3⟩, q4⟩
    obtain ⟨t1, d2, d3⟩ := d2
    obtain ⟨y', e, p⟩ := su_rg hn V S (k := k) (by omega)
    rw [← Option.some.inj (b2.symm.trans e)] at p
    obtain ⟨t, q1, q2, _⟩ := ih y a t1 p b3 d2
    have := (fm_rg V O hk.2).1
    exact ⟨t, q1, by omega, fun _ => ⟨y, t1, b2, d2, q2⟩⟩
/-- the fields of one class: above it there are as many less -/
theorem fo_su {s y : Int} (d : FO nn g k s) (b1 : ¬ k = -1) (b2 : qf_X13_superOf nn k g = some y) : FO nn g y (s - fm g k) := by
  obtain ⟨m, d⟩ := d
  cases m with
  | zero => exact absurd d.1 b1
  | succ m =>
    rcases d with d | ⟨_, y2, t2, q2, q3, q4⟩
    · exact absurd d.1 b1
    · rw [← Option.some.inj (b2.symm.trans q2)] at q3
      rw [show s - fm g k = t2 by omega]
      exact ⟨m, q3⟩
theorem fo_ex (hn : 1000000 ≤ nn) (V : VS_ g) (S : SPD g) (O : OM g ω) : ∀ (n : Nat) (k : Int), (-1 ≤ k ∧ k < 8 + g 160 98) → CHn nn g n k → ∃ s : Int, FOn nn g n k s ∧ (0 ≤ s ∧ s ≤ 12 * n) := by
  intro n
  induction n with
  | zero => intro k _ a; exact ⟨0, ⟨a, rfl⟩, by omega, by omega⟩
  | succ n ih =>
    intro k hk a
    rcases a with a | ⟨a1, y, a2, a3⟩
    · exact ⟨0, .inl ⟨a, rfl⟩, by omega, by omega⟩
    · obtain ⟨y', e, p⟩ := su_rg hn V S (k := k) (by omega)
      rw [← Option.some.inj (a2.symm.trans e)] at p
      obtain ⟨s, s1, s2⟩ := ih y p a3
      have := fm_rg V O hk.2
      exact ⟨s + fm g k, .inr ⟨a1, y, s, a2, s1, rfl⟩, by omega, by omega⟩
theorem rt_fields (hn : 1000000 ≤ nn) (X : VRC nn ω g) (A : AGe g R) (VR : VS_ R) (hk : -1 ≤ k ∧ k < 8 + g 160 98) : Ok_ (qf_X13_fieldsOf nn k R) (fun u => FO nn g k u ∧ (0 ≤ u ∧ u ≤ 204)) := by
  obtain ⟨⟨V, S⟩, O, C, _⟩ := X
  have g98 := gF_160_98 V
  have L : ∀ (n : Nat) (j : Nat) (l2 l3 s : Int), (-1 ≤ l3 ∧ l3 < 8 + g 160 98) → (0 ≤ l2 ∧ l2 + s ≤ 1000) → FOn nn g n l3 s → (0 ≤ s ∧ s ≤ 204) → n ≤ 17 → n < j → Ok_ (qw_X13_fieldsOf_4 nn j l2 l3 R) (fun u => u = l2 + s) := by
    intro n
    induction n with
    | zero =>
      intro j l2 l3 s a b F sb n17 hm
      cases j with
      | zero => exfalso; omega
      | succ j =>
        unfold qw_X13_fieldsOf_4
        rw [if_pos F.1]
        exact ok_ret (by have := F.2; omega)
    | succ n ih =>
      intro j l2 l3 s a b F sb n17 hm
      cases j with
      | zero => exfalso; omega
      | succ j =>
        unfold qw_X13_fieldsOf_4
        rcases F with F | ⟨F1, y, t, F2, F3, F4⟩
        · rw [if_pos F.1]
          exact ok_ret (by omega)
        rw [if_neg F1]
        obtain ⟨y', e, p⟩ := su_rg hn V S (k := l3) (by omega)
        rw [← Option.some.inj (F2.symm.trans e)] at p
        have fr := fm_rg V O a.2
        have t0 := fo_nn hn V S O n y t p F3
        have go : ∀ s0 : Int, s0 = fm g l3 → Ok_ (qj_X13_fieldsOf_29 nn (qw_X13_fieldsOf_4 nn j) l3 s0 l2 R) (fun u => u = l2 + s) := fun s0 es => by
          unfold qj_X13_fieldsOf_29
          refine ok_add (by omega) ?_; intro v1 e1
          rw [ce_super V VR O A (by omega), F2, mx_svs]
          exact ok_im (ih j v1 y t p (by omega) F3 (by omega) (by omega) (by omega)) (fun u P => by omega)
        refine ok_if (fun y8 => ?_) (fun y8 => go 0 (by unfold fm; rw [if_neg y8]))
        refine ok_sub (by omega) ?_; intro v5 e5
        refine ok_rd (by omega) (gA_232 VR) ?_; intro v6 e6 _ _
        refine go v6 ?_
        unfold fm
        rw [if_pos y8, e6, e5, (A.2 (l3 - 8) (by omega) (by omega)).2.2.1.2.2.2.1]
  unfold qf_X13_fieldsOf
  have ch : CHn nn g 17 k := by
    by_cases y : k = -1
    · exact .inl y
    · exact chn_a C (by omega)
  obtain ⟨s, s1, s2⟩ := fo_ex hn V S O 17 k hk ch
  refine ok_im (L 17 nn 0 k s hk (by omega) s1 (by omega) (by omega) (by omega)) (fun u P => ?_)
  rw [show u = s by omega]
  exact ⟨⟨17, s1⟩, by omega⟩
/-- value y is of type t -/
def CVt (nn : Nat) (g R : ms_M) (t y : Int) : Prop := t = 0 ∨ t = 1 ∨ y = 0 ∨ ((1 ≤ y ∧ y ≤ R 160 141) ∧ ((t = 3 ∧ R 246 y.toNat = 99) ∨ (∃ u : Int, 0 ≤ u ∧ t = 4 + 2 * u ∧ ((99 ≤ R 246 y.toNat ∧ u = 0) ∨ (R 246 y.toNat < 99 ∧ UNd nn g (R 246 y.toNat) u))) ∨ (∃ u : Int, 0 ≤ u ∧ t = 5 + 2 * u ∧ 100 ≤ R 246 y.toNat ∧ UNd nn g (R 246 y.toNat - 100) u)))
/-- the heap has only grown -/
def HX (R r : ms_M) : Prop := R 160 141 ≤ r 160 141 ∧ ∀ o : Int, 1 ≤ o → o ≤ R 160 141 → r 246 o.toNat = R 246 o.toNat
theorem hx_rf : HX R R := ⟨by omega, fun _ _ _ => rfl⟩
theorem hx_tr (a : HX R z) (b : HX z r) : HX R r := ⟨by have := a.1; have := b.1; omega, fun o p q => (b.2 o p (by have := a.1; omega)).trans (a.2 o p q)⟩
theorem hx_eq (a : r 160 141 = R 160 141) (b : r 246 = R 246) : HX R r := ⟨by omega, fun o _ _ => by rw [b]⟩
theorem cv_x {t y : Int} (a : HX R r) (C : CVt nn g R t y) : CVt nn g r t y := by
  rcases C with C | C | C | ⟨C, D⟩
  · exact .inl C
  · exact .inr (.inl C)
  · exact .inr (.inr (.inl C))
  · refine .inr (.inr (.inr ⟨⟨C.1, by have := a.1; omega⟩, ?_⟩))
    rw [a.2 y C.1 C.2]
    exact D
theorem cv_0 {t : Int} : CVt nn g R t 0 := .inr (.inr (.inl rfl))
theorem cv_i {y : Int} : CVt nn g R 1 y := .inr (.inl rfl)
theorem cv_t {y : Int} : CVt nn g R 0 y := .inl rfl
/-- what goes, goes -/
theorem cv_goes (hn : 1000000 ≤ nn) (X : VRC nn ω g) {a b y : Int} (ga : GTs g a) (gb : GTs g b) (G : GOt nn g a b) (C : CVt nn g R a y) : CVt nn g R b y := by
  have X0 := X
  obtain ⟨⟨V, S⟩, O, CA, _⟩ := X
  have g98 := gF_160_98 V
  have ga1 : 0 ≤ a ∧ a < 20 + 2 * g 160 98 := ga
  have gb1 : 0 ≤ b ∧ b < 20 + 2 * g 160 98 := gb
  unfold GOt qf_X13_goes at G
  by_cases b0 : b = 0
  · exact .inl b0
  rw [if_neg b0] at G
  by_cases ab : a = b
  · rw [← ab]; exact C
  rw [if_pos ab] at G
  by_cases a0 : a = 0
  · rw [if_pos a0] at G; cases G
  rw [if_neg a0] at G
  by_cases a1 : a = 1
  · rw [if_pos a1] at G; cases G
  rw [if_neg a1] at G
  by_cases b1 : b = 1
  · rw [if_pos b1] at G; cases G
  rw [if_neg b1] at G
  by_cases b2 : b = 2
  · rw [if_neg (fun z => z b2)] at G; cases G
  rw [if_pos b2] at G
  rcases C with C | C | C | ⟨C, D⟩
  · exact absurd C a0
  · exact absurd C a1
  · exact .inr (.inr (.inl C))
  by_cases a2 : a = 2
  · exfalso
    rcases D with D | ⟨u, D⟩ | ⟨u, D⟩ <;> omega
  rw [if_pos a2] at G
  obtain ⟨q, eq, Q⟩ := mr_row (nn := nn) (h := g) (t := a) (by omega)
  rw [eq, mx_svs] at G
  have J : qj_X13_goes_53 nn a b g = some 1 → CVt nn g R b y := fun G => by
    unfold qj_X13_goes_53 at G
    by_cases a4 : a < 4
    · rw [if_pos a4] at G; cases G
    rw [if_neg a4] at G
    by_cases b4 : b < 4
    · rw [if_pos b4] at G; cases G
    rw [if_neg b4] at G
    have G : (if Int.tmod a 2 = Int.tmod b 2 then (if 16 ≤ Int.tdiv (oq_sub a 4) 2 then (some 0) else (if 16 ≤ Int.tdiv (oq_sub b 4) 2 then (some 0) else (mx_sv (qf_X13_isUnder nn (Int.tdiv (oq_sub a 4) 2) (Int.tdiv (oq_sub b 4) 2) g) fun u8 => if u8 = 0 then (some 0) else (some 1)))) else (some (0 : Int))) = some 1 := G
    rw [oq_sub_eq (x := a) (y := 4) (by omega) (by omega) (by omega), oq_sub_eq (x := b) (y := 4) (by omega) (by omega) (by omega), Int.tmod_eq_emod_of_nonneg (show 0 ≤ a by omega), Int.tmod_eq_emod_of_nonneg (show 0 ≤ b by omega), Int.tdiv_eq_ediv_of_nonneg (show 0 ≤ a - 4 by omega), Int.tdiv_eq_ediv_of_nonneg (show 0 ≤ b - 4 by omega)] at G
    by_cases par : a % 2 = b % 2
    · rw [if_pos par, if_neg (by omega), if_neg (by omega)] at G
      obtain ⟨u, eu, U⟩ := rt_under hn X0 (R := g) age_rf V (k := (a - 4) / 2) (t := (b - 4) / 2) (by omega) (by omega)
      rw [eu, mx_svs] at G
      have un : UNd nn g ((a - 4) / 2) ((b - 4) / 2) := by
        rcases U with U | U
        · exact U.2
        · rw [if_pos U.1] at G; cases G
      refine .inr (.inr (.inr ⟨C, ?_⟩))
      rcases D with D | ⟨u, u0, D1, D2⟩ | ⟨u, u0, D1, D2, D3⟩
      · exfalso; omega
      · have ea : (a - 4) / 2 = u := by omega
        rw [ea] at un
        refine .inr (.inl ⟨(b - 4) / 2, by omega, by omega, ?_⟩)
        rcases D2 with D2 | D2
        · rw [D2.2] at un
          exact .inl ⟨D2.1, und_0 un⟩
        · exact .inr ⟨D2.1, und_tr D2.2 un⟩
      · have ea : (a - 4) / 2 = u := by omega
        rw [ea] at un
        exact .inr (.inr ⟨(b - 4) / 2, by omega, by omega, D2, und_tr D3 un⟩)
    · rw [if_neg par] at G; cases G
  by_cases q0 : q = 0
  · rw [if_pos q0] at G
    exact J G
  rw [if_neg q0] at G
  by_cases b4 : b = 4
  · rcases Q with Q | Q
    · refine .inr (.inr (.inr ⟨C, .inr (.inl ⟨0, by decide, by omega, .inl ⟨?_, rfl⟩⟩)⟩))
      rcases D with D | ⟨u, u0, D1, D2⟩ | ⟨u, u0, D1, D2, D3⟩ <;> omega
    · exact absurd Q.1 q0
  · rw [if_pos b4] at G
    exact J G
/-- isOne tells -/
theorem rt_isOne (hn : 1000000 ≤ nn) (X : VRC nn ω g) (A : AGe g R) (VR : VS_ R) {o t : Int} (ho : 1 ≤ o ∧ o ≤ 2000) (hs : R 246 o.toNat < 99 → 0 ≤ R 246 o.toNat ∧ R 246 o.toNat < 8 + g 160 98) (ht : ¬ t = -1) : Ok_ (qf_X13_isOne nn o t R) (fun u => (u = 1 ∧ ((99 ≤ R 246 o.toNat ∧ t = 0) ∨ (R 246 o.toNat < 99 ∧ UNd nn g (R 246 o.toNat) t))) ∨ (u = 0 ∧ ¬ ((99 ≤ R 246 o.toNat ∧ t = 0) ∨ (R 246 o.toNat < 99 ∧ UNd nn g (R 246 o.toNat) t)))) := by
  unfold qf_X13_isOne
  refine ok_rd (by omega) (gA_246 VR) ?_; intro v2 e2 _ _
  refine ok_if (fun y => ?_) (fun y => ?_)
  · refine ok_rd (by omega) (gA_246 VR) ?_; intro v4 e4 _ _
    rw [e4]
    have := hs (by omega)
    refine ok_sv (rt_under hn X A VR (by omega) ht) ?_; intro u6 P6
    refine ok_ck (by omega) (ok_ret ?_)
    rcases P6 with P | P
    · exact .inl ⟨P.1, .inr ⟨by omega, P.2⟩⟩
    · refine .inr ⟨P.1, fun q => ?_⟩
      rcases q with q | q
      · exfalso; omega
      · exact P.2 q.2
  · refine ok_if (fun y2 => ok_ret (.inr ⟨rfl, fun q => ?_⟩)) (fun y2 => ok_ret (.inl ⟨rfl, .inl ⟨by omega, by omega⟩⟩))
    rcases q with q | q
    · exact y2 q.2
    · have := q.1; exfalso; omega
end
