section
/-- n letters of a name from a on -/
def NMl (f : Nat → Int) (a n : Int) : Prop := ∀ i : Int, 0 ≤ i → i < n → qf_X13_isNamePart 0 (f (a + i).toNat) (if i = 0 then 1 else 0) (fun _ _ => 0) = some 1
/-- the name of a kind: from its L to behind its semicolon -/
def KN (f : Nat → Int) (p e : Int) : Prop := f p.toNat = 76 ∧ ((p + 3 ≤ e ∧ e ≤ p + 14) ∧ NMl f (p + 1) (e - p - 2)) ∧ f (e - 1).toNat = 59 ∧ ∀ i : Int, p < i → i < e - 1 → ¬ f i.toNat = 59
def KK (f : Nat → Int) (p e : Int) : Prop := (f p.toNat = 73 ∧ e = p + 1) ∨ KN f p e
/-- a kind from a to e -/
def KD (f : Nat → Int) (a e : Int) : Prop := (f a.toNat = 90 ∧ e = a + 1) ∨ (¬ f a.toNat = 91 ∧ KK f a e) ∨ (f a.toNat = 91 ∧ KK f (a + 1) e)
/-- k kinds one behind the other -/
def PRn (f : Nat → Int) : Nat → Int → Int → Prop
  | 0, p, q => p = q
  | k + 1, p, q => ∃ e : Int, KD f p e ∧ PRn f k e q
/-- what a method gives: V, or a kind -/
def RTk (f : Nat → Int) (p e : Int) : Prop := (f p.toNat = 86 ∧ e = p + 1) ∨ KD f p e
/-- a method's kind with m parameters -/
def MKn (f : Nat → Int) (m : Nat) (a e : Int) : Prop := f a.toNat = 40 ∧ ∃ q : Int, PRn f m (a + 1) q ∧ f q.toNat = 41 ∧ RTk f (q + 1) e
theorem kk_lt {f : Nat → Int} {p e : Int} (k : KK f p e) : p < e ∧ e ≤ p + 14 := by
  rcases k with k | k
  · omega
  · have := k.2.1; omega
theorem kd_lt {f : Nat → Int} {a e : Int} (k : KD f a e) : a < e ∧ e ≤ a + 15 := by
  rcases k with k | k | k
  · omega
  · have := kk_lt k.2; omega
  · have := kk_lt k.2; omega
theorem kd_no {f : Nat → Int} {a e : Int} (k : KD f a e) : ¬ f a.toNat = 41 := by
  rcases k with k | ⟨_, k⟩ | ⟨k, _⟩
  · omega
  · rcases k with k | k
    · omega
    · have := k.1; omega
  · omega
theorem pr_le {f : Nat → Int} : ∀ (k : Nat) (p q : Int), PRn f k p q → p + k ≤ q ∧ q ≤ p + 15 * k := by
  intro k
  induction k with
  | zero => intro p q y; have y : p = q := y; omega
  | succ k ih =>
    intro p q y
    obtain ⟨e, y1, y2⟩ := y
    have a := kd_lt y1
    have b := ih e q y2
    omega
variable {nn : Nat} {M : ms_M} {c : Nat} {n : Int}
theorem nm_part {a b : Int} : qf_X13_isNamePart nn a b M = qf_X13_isNamePart 0 a b (fun _ _ => 0) := rfl
theorem sk_name (hn : 1000000 ≤ nn) (R : RW_ c n) (V : VS_ M) {l1 l2 : Int} (r1 : 0 ≤ l1 ∧ l1 + l2 ≤ n) : Ok_ (qf_X13_isName nn c l1 l2 M) (fun u => (u = 0 ∨ u = 1) ∧ (¬ u = 0 → (1 ≤ l2 ∧ l2 ≤ 12) ∧ NMl (M c) l1 l2)) := by
  have hn' : n ≤ 48000 := by rcases R with ⟨_, e⟩ | ⟨_, e⟩ <;> omega
  have Z : ∀ k : Nat, 0 < k → Ok_ (qw_X13_isName_20 nn k c l1 l2 0 0 M) (fun u => (u = 0 ∨ u = 1) ∧ (¬ u = 0 → (1 ≤ l2 ∧ l2 ≤ 12) ∧ NMl (M c) l1 l2)) := fun k hk => by
    cases k with
    | zero => exact absurd hk (by decide)
    | succ k =>
      unfold qw_X13_isName_20
      exact ok_if (fun _ => ok_ck (.inl rfl) (ok_ret ⟨.inl rfl, fun y => absurd rfl y⟩)) (fun _ => ok_if (fun _ => ok_ck (.inl rfl) (ok_ret ⟨.inl rfl, fun y => absurd rfl y⟩)) (fun y => absurd rfl y))
  have J : Ok_ (qj_X13_isName_15 nn c l1 l2 M) (fun u => (u = 0 ∨ u = 1) ∧ (¬ u = 0 → (1 ≤ l2 ∧ l2 ≤ 12) ∧ NMl (M c) l1 l2)) := by
    unfold qj_X13_isName_15
    exact Z nn (by omega)
  unfold qf_X13_isName
  refine ok_if (fun _ => J) (fun C => ?_)
  refine ok_if (fun _ => J) (fun D => ?_)
  have L : ∀ (k : Nat) (l3 l4 : Int), (l3 = 0 ∨ l3 = 1) → (0 ≤ l4 ∧ l4 ≤ l2) → l2 - l4 < (k : Int) → Ok_ (qw_X13_isName_20 nn k c l1 l2 l3 l4 M) (fun u => (u = 0 ∨ u = 1) ∧ (¬ u = 0 → ¬ l3 = 0 ∧ ∀ i : Int, l4 ≤ i → i < l2 → qf_X13_isNamePart 0 (M c (l1 + i).toNat) (if i = 0 then 1 else 0) (fun _ _ => 0) = some 1)) := by
    intro k
    induction k with
    | zero => intro l3 l4 a b hm; exfalso; omega
    | succ k ih =>
      intro l3 l4 a b hm
      unfold qw_X13_isName_20
      refine ok_if (fun C => ok_ck a (ok_ret ⟨a, fun y => ⟨y, fun i i1 i2 => by exfalso; omega⟩⟩)) (fun C => ?_)
      refine ok_if (fun C2 => ok_ck a (ok_ret ⟨a, fun y => absurd C2 y⟩)) (fun C2 => ?_)
      refine ok_add (by omega) ?_; intro v5 e5
      refine ok_rS R V (by omega) ?_; intro v6 e6 a6 b6
      have J : ∀ s0 : Int, s0 = (if l4 = 0 then 1 else 0) → Ok_ (qj_X13_isName_46 nn (qw_X13_isName_20 nn k) c l1 l2 l4 s0 v6 M) (fun u => (u = 0 ∨ u = 1) ∧ (¬ u = 0 → ¬ l3 = 0 ∧ ∀ i : Int, l4 ≤ i → i < l2 → qf_X13_isNamePart 0 (M c (l1 + i).toNat) (if i = 0 then 1 else 0) (fun _ _ => 0) = some 1)) := fun s0 es => by
        unfold qj_X13_isName_46
        obtain ⟨u1, E1, P1⟩ := sc_part hn V (a := v6) (b := s0) ⟨a6, b6⟩
        rw [E1, mx_svs]
        refine ok_add (by omega) ?_; intro v2 e2
        refine ok_im (ih u1 v2 P1 (by omega) (by omega)) (fun u P => ⟨P.1, fun y => ⟨C2, fun i i1 i2 => ?_⟩⟩)
        by_cases i0 : i = l4
        · have u11 : u1 = 1 := by have := (P.2 y).1; omega
          rw [i0, ← es, show l1 + l4 = v5 by omega, ← e6, ← nm_part (nn := nn) (M := M), E1, u11]
        · exact (P.2 y).2 i (by omega) i2
      refine ok_if (fun y => J 0 (by rw [if_neg y])) (fun y => J 1 (by rw [if_pos (Decidable.not_not.1 y)]))
  exact ok_im (L nn 1 0 (.inr rfl) (by omega) (by omega)) (fun u P => ⟨P.1, fun y => ⟨⟨by omega, by omega⟩, fun i i1 i2 => (P.2 y).2 i i1 i2⟩⟩)
def KQ (f : Nat → Int) (a e p u : Int) : Prop := u = 0 ∨ (a + u ≤ e ∧ KK f p (a + u))
theorem sk_93 (hn : 1000000 ≤ nn) (R : RW_ c n) (V : VS_ M) {l1 l2 l3 l4 : Int} (r1 : 0 ≤ l1 ∧ l1 ≤ l3 ∧ l3 < l4 ∧ l2 ≤ n) (x : M c l3.toNat = 76) (y : ∀ i : Int, l3 < i → i < l4 → ¬ M c i.toNat = 59) (w : l4 < l2 → M c l4.toNat = 59) : Ok_ (qj_X13_kindBytes_93 nn c l1 l2 l3 l4 M) (KQ (M c) l1 l2 l3) := by
  have hn' : n ≤ 48000 := by rcases R with ⟨_, e⟩ | ⟨_, e⟩ <;> omega
  unfold qj_X13_kindBytes_93
  refine ok_if (fun _ => ok_ret (.inl rfl)) (fun C => ?_)
  refine ok_add (by omega) ?_; intro v1 e1
  refine ok_sub (by omega) ?_; intro v2 e2
  refine ok_sub (by omega) ?_; intro v3 e3
  refine ok_sv (sk_name hn R V (by omega)) ?_; intro u4 P4
  refine ok_if (fun _ => ok_ret (.inl rfl)) (fun D => ?_)
  have b := (P4.2 D).1
  have nm := (P4.2 D).2
  rw [e1] at nm
  refine ok_add (by omega) ?_; intro v5 e5
  refine ok_sub (by omega) ?_; intro v6 e6
  have E : l1 + v6 = l4 + 1 := by omega
  refine ok_ret (.inr ⟨by omega, .inr ⟨x, ⟨by omega, by rw [show l1 + v6 - l3 - 2 = v3 by omega]; exact nm⟩, ?_, fun i a b => y i a (by omega)⟩⟩)
  rw [show l1 + v6 - 1 = l4 by omega]; exact w (by omega)
theorem sk_72 (hn : 1000000 ≤ nn) (R : RW_ c n) (V : VS_ M) {l1 l2 l3 : Int} (r1 : 0 ≤ l1 ∧ l1 ≤ l3 ∧ l2 ≤ n) (x : M c l3.toNat = 76) : ∀ (k : Nat) (l4 : Int), l3 < l4 → l4 ≤ 48001 → (∀ i : Int, l3 < i → i < l4 → ¬ M c i.toNat = 59) → 48002 - l4 < (k : Int) → Ok_ (qw_X13_kindBytes_72 nn k c l1 l2 l3 l4 M) (KQ (M c) l1 l2 l3) := by
  have hn' : n ≤ 48000 := by rcases R with ⟨_, e⟩ | ⟨_, e⟩ <;> omega
  intro k
  induction k with
  | zero => intro l4 a b y hm; exfalso; omega
  | succ k ih =>
    intro l4 a b y hm
    unfold qw_X13_kindBytes_72
    refine ok_if (fun C => sk_93 hn R V (by omega) x y (fun w => by exfalso; omega)) (fun C => ?_)
    refine ok_rS R V (by omega) ?_; intro v9 e9 _ _
    refine ok_if (fun D => sk_93 hn R V (by omega) x y (fun _ => by rw [← e9]; exact D)) (fun D => ?_)
    refine ok_add (by omega) ?_; intro v10 e10
    refine ih v10 (by omega) (by omega) (fun i p q => ?_) (by omega)
    by_cases z : i = l4
    · rw [z, ← e9]; exact D
    · exact y i p (by omega)
theorem sk_52 (hn : 1000000 ≤ nn) (R : RW_ c n) (V : VS_ M) {l1 l2 l3 : Int} (r1 : 0 ≤ l1 ∧ l1 ≤ l3 ∧ l2 ≤ n) (r3 : l3 ≤ 48000) : Ok_ (qj_X13_kindBytes_52 nn c l1 l2 l3 M) (KQ (M c) l1 l2 l3) := by
  unfold qj_X13_kindBytes_52
  refine ok_if (fun _ => ok_ret (.inl rfl)) (fun C => ?_)
  refine ok_rS R V (by omega) ?_; intro v13 e13 _ _
  refine ok_if (fun D => ?_) (fun _ => ok_ret (.inl rfl))
  refine ok_add (by omega) ?_; intro v14 e14
  exact sk_72 hn R V r1 (by rw [← e13]; exact D) nn v14 (by omega) (by omega) (fun i p q => by exfalso; omega) (by omega)
theorem sk_33 (hn : 1000000 ≤ nn) (R : RW_ c n) (V : VS_ M) {l1 l2 l3 : Int} (r1 : 0 ≤ l1 ∧ l1 ≤ l3 ∧ l2 ≤ n) (r3 : l3 ≤ 48000) : Ok_ (qj_X13_kindBytes_33 nn c l1 l2 l3 M) (KQ (M c) l1 l2 l3) := by
  have hn' : n ≤ 48000 := by rcases R with ⟨_, e⟩ | ⟨_, e⟩ <;> omega
  unfold qj_X13_kindBytes_33
  refine ok_if (fun _ => sk_52 hn R V r1 r3) (fun C => ?_)
  refine ok_rS R V (by omega) ?_; intro v17 e17 _ _
  refine ok_if (fun _ => sk_52 hn R V r1 r3) (fun D => ?_)
  refine ok_add (by omega) ?_; intro v18 e18
  refine ok_sub (by omega) ?_; intro v19 e19
  exact ok_ret (.inr ⟨by omega, .inl ⟨by rw [← e17]; exact Decidable.not_not.1 D, by omega⟩⟩)
/-- how long a kind is, or 0: told -/
def KB2 (f : Nat → Int) (a e u : Int) : Prop := u = 0 ∨ (1 ≤ u ∧ a + u ≤ e ∧ KD f a (a + u))
theorem sk_17 (hn : 1000000 ≤ nn) (R : RW_ c n) (V : VS_ M) {a e : Int} (r1 : 0 ≤ a ∧ e ≤ n) (r3 : a ≤ 48000) : Ok_ (qj_X13_kindBytes_17 nn c a e a M) (KB2 (M c) a e) := by
  have hn' : n ≤ 48000 := by rcases R with ⟨_, e⟩ | ⟨_, e⟩ <;> omega
  unfold qj_X13_kindBytes_17
  refine ok_if (fun C => ?_) (fun C => ?_)
  · obtain ⟨u, e1, P⟩ := sk_33 hn R V (l1 := a) (l2 := e) (l3 := a) (by omega) (by omega)
    rcases P with P | ⟨P, Q⟩
    · exact ⟨u, e1, .inl P⟩
    · have := kk_lt Q
      exfalso; omega
  refine ok_rS R V (by omega) ?_; intro v22 e22 _ _
  refine ok_if (fun D => ?_) (fun D => ?_)
  · obtain ⟨u, e1, P⟩ := sk_33 hn R V (l1 := a) (l2 := e) (l3 := a) (by omega) (by omega)
    rcases P with P | ⟨P, Q⟩
    · exact ⟨u, e1, .inl P⟩
    · have := kk_lt Q
      exact ⟨u, e1, .inr ⟨by omega, P, .inr (.inl ⟨by rw [← e22]; exact D, Q⟩)⟩⟩
  · refine ok_add (by omega) ?_; intro v23 e23
    obtain ⟨u, e1, P⟩ := sk_33 hn R V (l1 := a) (l2 := e) (l3 := v23) (by omega) (by omega)
    rcases P with P | ⟨P, Q⟩
    · exact ⟨u, e1, .inl P⟩
    · have := kk_lt Q
      refine ⟨u, e1, .inr ⟨by omega, P, .inr (.inr ⟨by rw [← e22]; exact Decidable.not_not.1 D, ?_⟩)⟩⟩
      rw [← e23]; exact Q
theorem sk_kind (hn : 1000000 ≤ nn) (R : RW_ c n) (V : VS_ M) {a e : Int} (r1 : 0 ≤ a ∧ a ≤ 48000 ∧ e ≤ n) : Ok_ (qf_X13_kindBytes nn c a e M) (KB2 (M c) a e) := by
  unfold qf_X13_kindBytes
  refine ok_if (fun _ => sk_17 hn R V (by omega) (by omega)) (fun C => ?_)
  refine ok_rS R V (by omega) ?_; intro v26 e26 _ _
  exact ok_if (fun _ => sk_17 hn R V (by omega) (by omega)) (fun D => ok_ret (.inr ⟨by omega, by omega, .inl ⟨by rw [← e26]; exact Decidable.not_not.1 D, rfl⟩⟩))
theorem sk_field (hn : 1000000 ≤ nn) (R : RW_ c n) (V : VS_ M) {a l : Int} (r1 : 0 ≤ a ∧ a ≤ 48000 ∧ a + l ≤ n) (r2 : -60000 ≤ l) : Ok_ (qf_X13_isFieldKind nn c a l M) (fun u => (u = 0 ∨ u = 1) ∧ (¬ u = 0 → KD (M c) a (a + l))) := by
  have hn' : n ≤ 48000 := by rcases R with ⟨_, e⟩ | ⟨_, e⟩ <;> omega
  unfold qf_X13_isFieldKind
  refine ok_if (fun _ => ok_ret ⟨.inl rfl, fun y => absurd rfl y⟩) (fun C => ?_)
  refine ok_add (by omega) ?_; intro v1 e1
  refine ok_sv (sk_kind hn R V (by omega)) ?_; intro u2 P
  refine ok_if (fun _ => ok_ret ⟨.inl rfl, fun y => absurd rfl y⟩) (fun D => ok_ret ⟨.inr rfl, fun _ => ?_⟩)
  have D : u2 = l := Decidable.not_not.1 D
  rcases P with P | ⟨_, _, P⟩
  · exfalso; omega
  · rw [← D]; exact P
/-- what parametersIn tells from place p on, with m counted before -/
def PM (f : Nat → Int) (p e m u : Int) : Prop := u = -1 ∨ ((m ≤ u ∧ u ≤ 48000) ∧ ∃ q : Int, PRn f (u - m).toNat p q ∧ f q.toNat = 41 ∧ RTk f (q + 1) e)
theorem sk_71 (hn : 1000000 ≤ nn) (R : RW_ c n) (V : VS_ M) {l3 l4 l5 : Int} (r1 : 0 ≤ l4 ∧ l4 ≤ l3 ∧ l3 ≤ n) (r5 : 0 ≤ l5 ∧ l5 ≤ 48000) (x : l4 < l3 → M c l4.toNat = 41) : Ok_ (qj_X13_parametersIn_71 nn c l3 l4 l5 M) (PM (M c) l4 l3 l5) := by
  have hn' : n ≤ 48000 := by rcases R with ⟨_, e⟩ | ⟨_, e⟩ <;> omega
  unfold qj_X13_parametersIn_71
  refine ok_if (fun C => ?_) (fun _ => ok_ret (.inl rfl))
  refine ok_add (by omega) ?_; intro v5 e5
  refine ok_add (by omega) ?_; intro v6 e6
  have J2 : RTk (M c) (l4 + 1) l3 → Ok_ (qj_X13_parametersIn_112 nn l5 M) (PM (M c) l4 l3 l5) := fun y => by
    unfold qj_X13_parametersIn_112 qj_X13_parametersIn_117
    refine ok_if (fun z => absurd z (by decide)) (fun _ => ok_ret (.inr ⟨by omega, l4, ?_, x C, y⟩))
    rw [show (l5 - l5).toNat = 0 by omega]; rfl
  have K : Ok_ (qj_X13_parametersIn_99 nn c l3 v5 l5 M) (PM (M c) l4 l3 l5) := by
    unfold qj_X13_parametersIn_99
    refine ok_sub (by omega) ?_; intro v2 e2
    refine ok_sv (sk_field hn R V (by omega) (by omega)) ?_; intro u3 P3
    refine ok_if (fun _ => ?_) (fun D => J2 (.inr ?_))
    · unfold qj_X13_parametersIn_117
      exact ok_if (fun _ => ok_ret (.inl rfl)) (fun z => absurd rfl z)
    · have k := P3.2 D
      rw [show v5 + v2 = l3 by omega, e5] at k
      exact k
  refine ok_if (fun _ => K) (fun D => ?_)
  refine ok_rS R V (by omega) ?_; intro v7 e7 _ _
  exact ok_if (fun E => J2 (.inl ⟨by rw [← e5, ← e7]; exact E, by omega⟩)) (fun _ => K)
theorem sk_27 (hn : 1000000 ≤ nn) (R : RW_ c n) (V : VS_ M) {l3 : Int} (r3 : l3 ≤ n) : ∀ (k : Nat) (l4 l5 : Int), (0 ≤ l4 ∧ l4 ≤ l3) → (0 ≤ l5 ∧ l5 ≤ l4) → l3 - l4 < (k : Int) → Ok_ (qw_X13_parametersIn_27 nn k c l3 l4 l5 M) (PM (M c) l4 l3 l5) := by
  have hn' : n ≤ 48000 := by rcases R with ⟨_, e⟩ | ⟨_, e⟩ <;> omega
  intro k
  induction k with
  | zero => intro l4 l5 a b hm; exfalso; omega
  | succ k ih =>
    intro l4 l5 a b hm
    unfold qw_X13_parametersIn_27
    refine ok_if (fun _ => sk_71 hn R V (by omega) (by omega) (fun y => by exfalso; omega)) (fun C => ?_)
    refine ok_rS R V (by omega) ?_; intro v11 e11 _ _
    refine ok_if (fun D => sk_71 hn R V (by omega) (by omega) (fun _ => by rw [← e11]; exact D)) (fun _ => ?_)
    refine ok_sv (sk_kind hn R V (by omega)) ?_; intro u12 P12
    refine ok_if (fun D => ?_) (fun _ => ok_ret (.inl rfl))
    rcases P12 with P12 | ⟨p1, p2, p3⟩
    · exact absurd P12 D
    · refine ok_add (by omega) ?_; intro v13 e13
      refine ok_add (by omega) ?_; intro v14 e14
      obtain ⟨u, e1, P⟩ := ih v13 v14 (by omega) (by omega) (by omega)
      refine ⟨u, e1, ?_⟩
      rcases P with P | ⟨P, q, Q1, Q2⟩
      · exact .inl P
      · refine .inr ⟨by omega, q, ?_, Q2⟩
        rw [show (u - l5).toNat = (u - v14).toNat + 1 by omega]
        exact ⟨l4 + u12, p3, by rw [← e13]; exact Q1⟩
theorem sk_pars (hn : 1000000 ≤ nn) (R : RW_ c n) (V : VS_ M) {a l : Int} (r1 : 0 ≤ a ∧ a + l ≤ n) (r2 : -60000 ≤ l) (r3 : a ≤ 48000) : Ok_ (qf_X13_parametersIn nn c a l M) (fun u => u = -1 ∨ ((0 ≤ u ∧ u ≤ 48000) ∧ MKn (M c) u.toNat a (a + l))) := by
  have hn' : n ≤ 48000 := by rcases R with ⟨_, e⟩ | ⟨_, e⟩ <;> omega
  unfold qf_X13_parametersIn
  refine ok_add (by omega) ?_; intro v18 e18
  refine ok_if (fun _ => ok_ret (.inl rfl)) (fun C => ?_)
  refine ok_rS R V (by omega) ?_; intro v19 e19 _ _
  refine ok_if (fun D => ?_) (fun _ => ok_ret (.inl rfl))
  refine ok_add (by omega) ?_; intro v20 e20
  obtain ⟨u, e1, P⟩ := sk_27 hn R V (l3 := v18) (by omega) nn v20 0 (by omega) (by omega) (by omega)
  refine ⟨u, e1, ?_⟩
  rcases P with P | ⟨P, q, Q1, Q2, Q3⟩
  · exact .inl P
  · refine .inr ⟨P, by rw [← e19]; exact D, q, ?_, Q2, by rw [← e18]; exact Q3⟩
    rw [← e20]
    rw [show (u - 0).toNat = u.toNat by omega] at Q1
    exact Q1
theorem sk_method (hn : 1000000 ≤ nn) (V : VS_ M) {a l : Int} (r1 : 0 ≤ a ∧ a + l ≤ 6000) (r2 : -6000 ≤ l) : Ok_ (qf_X13_isMethodKind nn a l M) (fun u => (u = 0 ∨ u = 1) ∧ (¬ u = 0 → ∃ m : Nat, m ≤ 6 ∧ MKn (M 238) m a (a + l))) := by
  unfold qf_X13_isMethodKind
  refine ok_sv (sk_pars hn (.inl ⟨rfl, rfl⟩) V r1 (by omega) (by omega)) ?_; intro u1 P
  refine ok_if (fun _ => ok_ret ⟨.inl rfl, fun y => absurd rfl y⟩) (fun C => ?_)
  refine ok_if (fun _ => ok_ret ⟨.inl rfl, fun y => absurd rfl y⟩) (fun D => ?_)
  rcases P with P | ⟨P, Q⟩
  · exfalso; omega
  · exact ok_ret ⟨.inr rfl, fun _ => ⟨u1.toNat, by omega, Q⟩⟩
/-- a class's text: a name, or the kind of a row -/
def CTx (f : Nat → Int) (a l : Int) : Prop := (f a.toNat = 91 ∧ KD f a (a + l)) ∨ (¬ f a.toNat = 91 ∧ 1 ≤ l ∧ l ≤ 12)
theorem sk_ctext (hn : 1000000 ≤ nn) (V : VS_ M) {a l : Int} (r1 : 0 ≤ a ∧ a + l ≤ 6000) (r2 : 1 ≤ l) : Ok_ (qf_X13_isClassText nn a l M) (fun u => (u = 0 ∨ u = 1) ∧ (¬ u = 0 → CTx (M 238) a l)) := by
  unfold qf_X13_isClassText
  refine ok_if (fun y => by exfalso; omega) (fun C => ?_)
  refine ok_rd (by omega) (gA_238 V) ?_; intro v3 e3 _ _
  refine ok_if (fun D => ?_) (fun D => ?_)
  · unfold qj_X13_isClassText_19
    refine ok_sv (sk_name hn (.inl ⟨rfl, rfl⟩) V r1) ?_; intro u1 P1
    exact ok_ck P1.1 (ok_ret ⟨P1.1, fun y => .inr ⟨by rw [← e3]; exact D, (P1.2 y).1⟩⟩)
  · refine ok_sv (sk_field hn (.inl ⟨rfl, rfl⟩) V (by omega) (by omega)) ?_; intro u4 P4
    exact ok_ck P4.1 (ok_ret ⟨P4.1, fun y => .inl ⟨by rw [← e3]; exact Decidable.not_not.1 D, P4.2 y⟩⟩)
end
section
variable {nn : Nat} {h r z : ms_M} {c : Int}
/-- the text from a, l long, is of sort k -/
def TSk (f : Nat → Int) (k a l : Int) : Prop := (k = 0 → l ≤ 12) ∧ (k = 1 → KD f a (a + l)) ∧ (k = 2 → ∃ m : Nat, m ≤ 6 ∧ MKn f m a (a + l)) ∧ (k = 3 → KD f a (a + l) ∨ ∃ m : Nat, m ≤ 6 ∧ MKn f m a (a + l)) ∧ (k = 4 → CTx f a l)
/-- constant i is a text of sort k -/
def TS (k : Int) (h : ms_M) (c i : Int) : Prop := TX h c i ∧ TSk (h 238) k (pl h c i + 2) (h 238 (pl h c i + 1).toNat)
theorem sk_text (hn : 1000000 ≤ nn) (V : VS_ h) (hc : h 160 115 = c) (S : CSn h c (h 229 c.toNat)) {i k : Int} : Ok_ (qf_X13_isText nn i k h) (fun u => (u = 0 ∨ u = 1) ∧ (¬ u = 0 → TS k h c i)) := by
  have g := gF_160_115 V
  have g3 := gF_160_113 V
  unfold qf_X13_isText
  refine ok_sv (sq_const V (c := h 160 115) (by omega)) ?_; intro u3 P3
  refine ok_if (fun _ => ok_ret ⟨.inl rfl, fun y => absurd rfl y⟩) (fun C => ?_)
  rcases P3 with P3 | ⟨P3, P4, P5, P6⟩
  · exfalso; omega
  rw [hc] at P3 P4
  have K := S i P3.1 P3.2
  rw [← P4] at K
  obtain ⟨K0, K⟩ := K
  refine ok_rd (by omega) (gA_238 V) ?_; intro v5 e5 _ _
  refine ok_if (fun D => ?_) (fun _ => ok_ret ⟨.inl rfl, fun y => absurd rfl y⟩)
  have K : (1 ≤ h 238 (u3 + 1).toNat ∧ h 238 (u3 + 1).toNat ≤ 120) ∧ u3 + 2 + h 238 (u3 + 1).toNat ≤ h 160 113 := by
    rcases K with K | K | K | K
    · exact K.2
    · exfalso; omega
    · exfalso; omega
    · exfalso; omega
  refine ok_add (by omega) ?_; intro v7 e7
  refine ok_rd (by omega) (gA_238 V) ?_; intro v8 e8 _ _
  rw [e7] at e8
  have F : ∀ u : Int, (u = 0 ∨ u = 1) → (¬ u = 0 → TSk (h 238) k (u3 + 2) v8) → (u = 0 ∨ u = 1) ∧ (¬ u = 0 → TS k h c i) := fun u hu y => ⟨hu, fun z => ⟨⟨P3, by rw [← P4, ← e5]; exact D⟩, by rw [← P4, ← e8]; exact y z⟩⟩
  refine ok_if (fun E => ?_) (fun E0 => ?_)
  · refine ok_add (by omega) ?_; intro v14 e14
    refine ok_sv (sk_name hn (.inl ⟨rfl, rfl⟩) V (by omega)) ?_; intro u P
    exact ok_ck P.1 (ok_ret (F u P.1 (fun y => ⟨fun _ => (P.2 y).1.2, fun _ => by exfalso; omega, fun _ => by exfalso; omega, fun _ => by exfalso; omega, fun _ => by exfalso; omega⟩)))
  refine ok_if (fun E => ?_) (fun E1 => ?_)
  · refine ok_add (by omega) ?_; intro v14 e14
    refine ok_sv (sk_field hn (.inl ⟨rfl, rfl⟩) V (by omega) (by omega)) ?_; intro u P
    rw [e14] at P
    exact ok_ck P.1 (ok_ret (F u P.1 (fun y => ⟨fun _ => by exfalso; omega, fun _ => P.2 y, fun _ => by exfalso; omega, fun _ => by exfalso; omega, fun _ => by exfalso; omega⟩)))
  refine ok_if (fun E => ?_) (fun E2 => ?_)
  · refine ok_add (by omega) ?_; intro v14 e14
    refine ok_sv (sk_method hn V (by omega) (by omega)) ?_; intro u P
    rw [e14] at P
    exact ok_ck P.1 (ok_ret (F u P.1 (fun y => ⟨fun _ => by exfalso; omega, fun _ => by exfalso; omega, fun _ => P.2 y, fun _ => by exfalso; omega, fun _ => by exfalso; omega⟩)))
  refine ok_if (fun E => ?_) (fun E3 => ?_)
  · refine ok_add (by omega) ?_; intro v26 e26
    refine ok_sv (sk_field hn (.inl ⟨rfl, rfl⟩) V (by omega) (by omega)) ?_; intro u27 P
    rw [e26] at P
    refine ok_if (fun y => ok_ret (F 1 (.inr rfl) (fun _ => ⟨fun _ => by exfalso; omega, fun _ => by exfalso; omega, fun _ => by exfalso; omega, fun _ => .inl (P.2 y), fun _ => by exfalso; omega⟩))) (fun _ => ?_)
    refine ok_add (by omega) ?_; intro v29 e29
    refine ok_sv (sk_method hn V (by omega) (by omega)) ?_; intro u30 P
    rw [e29] at P
    exact ok_if (fun _ => ok_ret (F 0 (.inl rfl) (fun y => absurd rfl y))) (fun y => ok_ret (F 1 (.inr rfl) (fun _ => ⟨fun _ => by exfalso; omega, fun _ => by exfalso; omega, fun _ => by exfalso; omega, fun _ => .inr (P.2 y), fun _ => by exfalso; omega⟩)))
  · refine ok_add (by omega) ?_; intro v14 e14
    refine ok_sv (sk_ctext hn V (by omega) (by omega)) ?_; intro u P
    rw [e14] at P
    exact ok_ck P.1 (ok_ret (F u P.1 (fun y => ⟨fun _ => by exfalso; omega, fun _ => by exfalso; omega, fun _ => by exfalso; omega, fun _ => by exfalso; omega, fun _ => P.2 y⟩)))
end
