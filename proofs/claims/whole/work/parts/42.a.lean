section
/- TOKENS: the text, blanks, words, numbers -/
abbrev lt_T (c : Int) : Prop := (97 ≤ c ∧ c ≤ 122) ∨ (65 ≤ c ∧ c ≤ 90)
abbrev dg_T (c : Int) : Prop := 48 ≤ c ∧ c ≤ 57
abbrev np_T (c : Int) : Prop := ((97 ≤ c ∧ c ≤ 122) ∨ (65 ≤ c ∧ c ≤ 90)) ∨ (48 ≤ c ∧ c ≤ 57) ∨ c = 95
/-- the class's text: n bytes, with sign -/
def TXc (h : ms_M) (A : Nat → Int) (n : Nat) : Prop := n ≤ 3000 ∧ ∀ i : Nat, i < n → (-128 ≤ h 1 i ∧ h 1 i ≤ 127) ∧ A i = h 1 i % 256
/-- the reference's -/
def TXr (r : ms_M) (A : Nat → Int) (n : Nat) : Prop := n ≤ 3000 ∧ r 160 3 = (n : Int) ∧ ∀ i : Nat, i < n → (0 ≤ A i ∧ A i ≤ 255) ∧ r 162 i = A i
/-- behind blanks and remarks; m: within a remark -/
def bk_T (A : Nat → Int) (n : Nat) : Nat → Int → Nat → Nat
  | 0, _, p => p
  | f + 1, m, p => if n ≤ p then p else if A p = 47 ∧ p + 1 < n ∧ A (p + 1) = 47 then bk_T A n f 1 (p + 1) else if A p = 10 then bk_T A n f 0 (p + 1) else if A p = 32 ∨ ¬ m = 0 then bk_T A n f m (p + 1) else p
/-- behind a word, behind digits -/
def we_T (A : Nat → Int) (n : Nat) : Nat → Nat → Nat
  | 0, p => p
  | f + 1, p => if p < n ∧ np_T (A p) then we_T A n f (p + 1) else p
def de_T (A : Nat → Int) (n : Nat) : Nat → Nat → Nat
  | 0, p => p
  | f + 1, p => if p < n ∧ dg_T (A p) then de_T A n f (p + 1) else p
/-- the number of k digits from p on -/
def nv_T (A : Nat → Int) (p : Nat) : Nat → Int
  | 0 => 0
  | k + 1 => 10 * nv_T A p k + A (p + k) - 48
/-- the class stops at 2147483648 -/
def nc_T (v : Int) : Int := if 2147483647 < v then 2147483648 else v
/-- the reference goes on to above 3000000000 -/
def nr_T (v x : Int) : Prop := (0 ≤ x ∧ x ≤ 40000000000) ∧ (v ≤ 2147483647 → x = v) ∧ (2147483647 < v → 2147483647 < x)
section
variable {nn : Nat} {h g r : ms_M} {A : Nat → Int} {n : Nat} {α : Type} {Q : α → Prop}
theorem pc_c6e {z : Int} {G : Int → Option α} (k : ∀ v, v = z → Pc (G v) Q) : Pc (ck_6 z G) Q := by
  unfold ck_6; exact pc_if (fun _ => k z rfl) (fun _ => pc_none)
theorem pc_cmp {x y : Int} {F : Int → Option α} (k : ∀ v, (v = 1 ∧ y < x ∨ v = 0 ∧ x = y ∨ v = -1 ∧ x < y) → Pc (F v) Q) : Pc (xl (oq_cmp x y) F) Q := by
  refine pc_xl ?_; intro v e
  refine k v ?_
  unfold oq_cmp at e
  by_cases a : y < x
  · rw [if_pos a] at e; omega
  · rw [if_neg a] at e
    by_cases b : x = y
    · rw [if_pos b] at e; omega
    · rw [if_neg b] at e; omega
theorem c_letter {x : Int} : Pc (qf_X9_isLetter nn x h) (fun u => (u = 0 ∧ ¬ lt_T x) ∨ (u = 1 ∧ lt_T x)) := by
  unfold qf_X9_isLetter qj_X9_isLetter_12
  refine pc_if (fun a => pc_if (fun b => pc_ret ?_) (fun b => pc_if (fun c => pc_ret ?_) (fun c => pc_ret ?_))) (fun a => pc_if (fun b => pc_ret ?_) (fun b => pc_if (fun c => pc_ret ?_) (fun c => pc_if (fun d => pc_ret ?_) (fun d => pc_ret ?_)))) <;> omega
theorem c_digit {x : Int} : Pc (qf_X9_isDigit nn x h) (fun u => (u = 0 ∧ ¬ dg_T x) ∨ (u = 1 ∧ dg_T x)) := by
  unfold qf_X9_isDigit
  refine pc_if (fun a => pc_ret ?_) (fun a => pc_if (fun b => pc_ret ?_) (fun b => pc_ret ?_)) <;> omega
theorem ct_part {x : Int} : Pc (qf_X9_isNamePart nn x h) (fun u => (u = 0 ∧ ¬ np_T x) ∨ (u = 1 ∧ np_T x)) := by
  unfold qf_X9_isNamePart
  refine pc_sv c_letter ?_; intro u1 q1
  refine pc_if (fun a => pc_ret ?_) (fun a => ?_)
  · omega
  refine pc_sv c_digit ?_; intro u2 q2
  refine pc_if (fun b => pc_ret ?_) (fun b => pc_if (fun c => pc_ret ?_) (fun c => pc_ret ?_)) <;> omega
theorem r_letter {x : Int} : Pc (qf_X13_isLetter nn x h) (fun u => (u = 0 ∧ ¬ lt_T x) ∨ (u = 1 ∧ lt_T x)) := by
  unfold qf_X13_isLetter qj_X13_isLetter_12
  refine pc_if (fun a => pc_if (fun b => pc_ret ?_) (fun b => pc_if (fun c => pc_ret ?_) (fun c => pc_ret ?_))) (fun a => pc_if (fun b => pc_ret ?_) (fun b => pc_if (fun c => pc_ret ?_) (fun c => pc_if (fun d => pc_ret ?_) (fun d => pc_ret ?_)))) <;> omega
theorem r_digit {x : Int} : Pc (qf_X13_isDigit nn x h) (fun u => (u = 0 ∧ ¬ dg_T x) ∨ (u = 1 ∧ dg_T x)) := by
  unfold qf_X13_isDigit
  refine pc_if (fun a => pc_ret ?_) (fun a => pc_if (fun b => pc_ret ?_) (fun b => pc_ret ?_)) <;> omega
theorem r_at (T : TXr r A n) {x : Nat} {y : Int} (hy : y = (x : Int)) : Pc (qf_X13_at nn y r) (fun u => (x < n ∧ u = A x) ∨ (¬ x < n ∧ u = 0)) := by
  subst hy
  have t := T.2.1
  unfold qf_X13_at
  refine pc_if (fun c => pc_ret (.inr ⟨by omega, rfl⟩)) (fun c => ?_)
  refine pc_rA ?_; intro i1 i2 v e
  exact pc_ret (.inl ⟨by omega, by rw [e, Int.toNat_natCast]; exact (T.2.2 x (by omega)).2⟩)
/- blanks -/
theorem bbk_45 (T : TXc h A n) {k p f : Nat} {m v : Int} (ih : ∀ (m : Int), Pc (qw_X9_behindBlanks_5 nn k (n : Int) ((p + 1 : Nat) : Int) m h) (fun u => u = ((bk_T A n f m (p + 1) : Nat) : Int))) (hp : p < n) (hv : v = h 1 p) (hs : ¬ (A p = 47 ∧ p + 1 < n ∧ A (p + 1) = 47)) : Pc (qj_X9_behindBlanks_45 nn (qw_X9_behindBlanks_5 nn k) (n : Int) (p : Int) m v h) (fun u => u = ((bk_T A n (f + 1) m p : Nat) : Int)) := by
  obtain ⟨t0, t1⟩ := T
  have t1 := t1 p hp
  have eb : bk_T A n (f + 1) m p = (if A p = 10 then bk_T A n f 0 (p + 1) else if A p = 32 ∨ ¬ m = 0 then bk_T A n f m (p + 1) else p) := by
    show (if n ≤ p then p else if A p = 47 ∧ p + 1 < n ∧ A (p + 1) = 47 then bk_T A n f 1 (p + 1) else _) = _
    rw [if_neg (by omega), if_neg hs]
  rw [eb]
  unfold qj_X9_behindBlanks_45
  refine pc_if (fun c => ?_) (fun c => ?_)
  · have a10 : ¬ A p = 10 := by omega
    rw [if_neg a10]
    refine pc_if (fun c2 => ?_) (fun c2 => ?_)
    · rw [if_pos (show A p = 32 ∨ ¬ m = 0 from .inl (by omega))]
      refine pc_add (by omega) ?_; intro v1 e1
      rw [show v1 = ((p + 1 : Nat) : Int) by omega]
      exact ih m
    · refine pc_if (fun c3 => ?_) (fun c3 => ?_)
      · rw [if_pos (show A p = 32 ∨ ¬ m = 0 from .inr c3)]
        refine pc_add (by omega) ?_; intro v2 e2
        rw [show v2 = ((p + 1 : Nat) : Int) by omega]
        exact ih m
      · rw [if_neg (show ¬ (A p = 32 ∨ ¬ m = 0) by omega)]
        exact pc_ret rfl
  · rw [if_pos (show A p = 10 by omega)]
    refine pc_add (by omega) ?_; intro v5 e5
    rw [show v5 = ((p + 1 : Nat) : Int) by omega]
    exact ih 0
theorem bbk_5 (T : TXc h A n) : ∀ (k p f : Nat) (m : Int), n ≤ p + f → Pc (qw_X9_behindBlanks_5 nn k (n : Int) (p : Int) m h) (fun u => u = ((bk_T A n f m p : Nat) : Int)) := by
  intro k
  induction k with
  | zero => intro p f m hf; exact pc_none
  | succ k ih =>
    intro p f m hf
    unfold qw_X9_behindBlanks_5
    refine pc_if (fun c => ?_) (fun c => ?_)
    · have e : bk_T A n f m p = p := by
        cases f with
        | zero => rfl
        | succ f => show (if n ≤ p then p else _) = p; rw [if_pos (by omega)]
      rw [e]; exact pc_ret rfl
    · obtain ⟨f, rfl⟩ : ∃ j, f = j + 1 := ⟨f - 1, by omega⟩
      have t0 := T.1
      have t1 := T.2 p (by omega)
      refine pc_rA ?_; intro i1 i2 v7 e7
      rw [Int.toNat_natCast] at e7
      have B := fun (hs : ¬ (A p = 47 ∧ p + 1 < n ∧ A (p + 1) = 47)) => bbk_45 (nn := nn) (m := m) T (fun m => ih (p + 1) f m (by omega)) (by omega) e7 hs
      refine pc_if (fun c2 => B (fun z => by omega)) (fun c2 => ?_)
      refine pc_add (by omega) ?_; intro v8 e8
      refine pc_if (fun c3 => B (fun z => by omega)) (fun c3 => ?_)
      refine pc_add (by omega) ?_; intro v9 e9
      refine pc_rA ?_; intro j1 j2 v10 e10
      have e10 : v10 = h 1 (p + 1) := by rw [e10]; congr 1; omega
      have t2 := T.2 (p + 1) (by omega)
      refine pc_if (fun c4 => B (fun z => by omega)) (fun c4 => ?_)
      refine pc_add (by omega) ?_; intro v11 e11
      have eb : bk_T A n (f + 1) m p = bk_T A n f 1 (p + 1) := by
        show (if n ≤ p then p else if A p = 47 ∧ p + 1 < n ∧ A (p + 1) = 47 then bk_T A n f 1 (p + 1) else _) = _
        rw [if_neg (by omega), if_pos ⟨by omega, by omega, by omega⟩]
      rw [eb, show v11 = ((p + 1 : Nat) : Int) by omega]
      exact ih (p + 1) f 1 (by omega)
theorem bb_c (T : TXc h A n) {p : Nat} {x : Int} (hx : x = (p : Int)) : Pc (qf_X9_behindBlanks nn (n : Int) x h) (fun u => u = ((bk_T A n n 0 p : Nat) : Int)) := by
  subst hx
  unfold qf_X9_behindBlanks
  exact bbk_5 T nn p n 0 (by omega)
theorem bk_q : ∀ (f : Nat) (m : Int) (p : Nat), n ≤ p + f → p ≤ n → (p ≤ bk_T A n f m p ∧ bk_T A n f m p ≤ n) ∧ (bk_T A n f m p = n ∨ (¬ A (bk_T A n f m p) = 32 ∧ ¬ A (bk_T A n f m p) = 10 ∧ ¬ (A (bk_T A n f m p) = 47 ∧ bk_T A n f m p + 1 < n ∧ A (bk_T A n f m p + 1) = 47))) := by
  intro f
  induction f with
  | zero => intro m p h1 h2; have e : bk_T A n 0 m p = p := rfl; rw [e]; exact ⟨by omega, .inl (by omega)⟩
  | succ f ih =>
    intro m p h1 h2
    have e : bk_T A n (f + 1) m p = if n ≤ p then p else if A p = 47 ∧ p + 1 < n ∧ A (p + 1) = 47 then bk_T A n f 1 (p + 1) else if A p = 10 then bk_T A n f 0 (p + 1) else if A p = 32 ∨ ¬ m = 0 then bk_T A n f m (p + 1) else p := rfl
    by_cases a : n ≤ p
    · rw [if_pos a] at e
      rw [e]; exact ⟨by omega, .inl (by omega)⟩
    · rw [if_neg a] at e
      have I := fun m => ih m (p + 1) (by omega) (by omega)
      by_cases b : A p = 47 ∧ p + 1 < n ∧ A (p + 1) = 47
      · rw [if_pos b] at e
        rw [e]; have i := I 1; exact ⟨⟨by omega, i.1.2⟩, i.2⟩
      · rw [if_neg b] at e
        by_cases c : A p = 10
        · rw [if_pos c] at e
          rw [e]; have i := I 0; exact ⟨⟨by omega, i.1.2⟩, i.2⟩
        · rw [if_neg c] at e
          by_cases d : A p = 32 ∨ ¬ m = 0
          · rw [if_pos d] at e
            rw [e]; have i := I m; exact ⟨⟨by omega, i.1.2⟩, i.2⟩
          · rw [if_neg d] at e
            rw [e]; exact ⟨by omega, .inr ⟨by omega, c, b⟩⟩
/-- how much fuel does not matter -/
theorem bk_f : ∀ (f f2 : Nat) (m : Int) (p : Nat), n ≤ p + f → n ≤ p + f2 → bk_T A n f m p = bk_T A n f2 m p := by
  intro f
  induction f with
  | zero =>
    intro f2 m p h1 h2
    cases f2 with
    | zero => rfl
    | succ f2 => show p = (if n ≤ p then p else _); rw [if_pos (by omega)]
  | succ f ih =>
    intro f2 m p h1 h2
    by_cases a : n ≤ p
    · cases f2 with
      | zero => show (if n ≤ p then p else _) = p; rw [if_pos a]
      | succ f2 => show (if n ≤ p then p else _) = (if n ≤ p then p else _); rw [if_pos a, if_pos a]
    · obtain ⟨f2, rfl⟩ : ∃ j, f2 = j + 1 := ⟨f2 - 1, by omega⟩
      have I := fun m => ih f2 m (p + 1) (by omega) (by omega)
      have e : ∀ f, bk_T A n (f + 1) m p = if n ≤ p then p else if A p = 47 ∧ p + 1 < n ∧ A (p + 1) = 47 then bk_T A n f 1 (p + 1) else if A p = 10 then bk_T A n f 0 (p + 1) else if A p = 32 ∨ ¬ m = 0 then bk_T A n f m (p + 1) else p := fun _ => rfl
      rw [e f, e f2, I 1, I 0, I m]
theorem rb_58 (T : TXr r A n) {k : Nat} {Q : ms_M → Prop} (ih : ∀ (p f : Nat), n ≤ p + f → p ≤ n → (∀ j, Pc (qw_X13_tokenize_7 nn j ((bk_T A n f 0 p : Nat) : Int) r) Q) → Pc (qw_X13_tokenize_7 nn k (p : Int) r) Q) : ∀ (kk p f : Nat), n ≤ p + f → p ≤ n → (∀ j, Pc (qw_X13_tokenize_7 nn j ((bk_T A n f 1 p : Nat) : Int) r) Q) → Pc (qw_X13_tokenize_58 nn (qw_X13_tokenize_7 nn k) kk (p : Int) r) Q := by
  intro kk
  have t1 := T.2.1
  induction kk with
  | zero => intro p f h1 h2 H; exact pc_none
  | succ kk ik =>
    intro p f h1 h2 H
    unfold qw_X13_tokenize_58
    refine pc_if (fun c => ?_) (fun c => ?_)
    · have e : bk_T A n f 1 p = p := by
        cases f with
        | zero => rfl
        | succ f => show (if n ≤ p then p else _) = p; rw [if_pos (by omega)]
      rw [e] at H; exact H k
    · obtain ⟨f, rfl⟩ : ∃ j, f = j + 1 := ⟨f - 1, by omega⟩
      have t2 := T.2.2 p (by omega)
      refine pc_rA ?_; intro i1 i2 v e
      rw [Int.toNat_natCast, t2.2] at e
      have E : ∀ m, bk_T A n (f + 1) m p = if n ≤ p then p else if A p = 47 ∧ p + 1 < n ∧ A (p + 1) = 47 then bk_T A n f 1 (p + 1) else if A p = 10 then bk_T A n f 0 (p + 1) else if A p = 32 ∨ ¬ m = 0 then bk_T A n f m (p + 1) else p := fun _ => rfl
      have E0 := E 0
      have E1 := E 1
      rw [if_neg (by omega)] at E0 E1
      refine pc_if (fun d => ?_) (fun d => ?_)
      · refine ih p (f + 1) (by omega) (by omega) ?_
        rw [if_neg (by omega), if_pos (by omega)] at E0 E1
        rw [E0, ← E1]; exact H
      · refine pc_add (by omega) ?_; intro v95 e95
        rw [show v95 = ((p + 1 : Nat) : Int) by omega]
        refine ik (p + 1) f (by omega) (by omega) ?_
        by_cases s : A p = 47 ∧ p + 1 < n ∧ A (p + 1) = 47
        · rw [if_pos s] at E1; rw [← E1]; exact H
        · rw [if_neg s, if_neg (by omega), if_pos (.inr (by decide))] at E1; rw [← E1]; exact H
/-- the reference goes behind blanks -/
theorem rb_7 (T : TXr r A n) {Q : ms_M → Prop} : ∀ (k p f : Nat), n ≤ p + f → p ≤ n → (∀ j, Pc (qw_X13_tokenize_7 nn j ((bk_T A n f 0 p : Nat) : Int) r) Q) → Pc (qw_X13_tokenize_7 nn k (p : Int) r) Q := by
  intro k
  have t1 := T.2.1
  induction k with
  | zero => intro p f h1 h2 H; exact pc_none
  | succ k ih =>
    intro p f h1 h2 H
    by_cases z : bk_T A n f 0 p = p
    · rw [z] at H; exact H _
    · have hp : p < n := by
        by_cases a : n ≤ p
        · exfalso; apply z
          cases f with
          | zero => rfl
          | succ f => show (if n ≤ p then p else _) = p; rw [if_pos a]
        · omega
      obtain ⟨f, rfl⟩ : ∃ j, f = j + 1 := ⟨f - 1, by omega⟩
      have E : ∀ m, bk_T A n (f + 1) m p = if n ≤ p then p else if A p = 47 ∧ p + 1 < n ∧ A (p + 1) = 47 then bk_T A n f 1 (p + 1) else if A p = 10 then bk_T A n f 0 (p + 1) else if A p = 32 ∨ ¬ m = 0 then bk_T A n f m (p + 1) else p := fun _ => rfl
      have E0 := E 0
      have E1 := E 1
      rw [if_neg (by omega)] at E0 E1
      have t2 := T.2.2 p hp
      unfold qw_X13_tokenize_7
      refine pc_if (fun c => absurd c (by omega)) (fun _ => ?_)
      refine pc_rA ?_; intro i1 i2 v e
      rw [Int.toNat_natCast, t2.2] at e
      refine pc_if (fun c => ?_) (fun c => ?_)
      · refine pc_add (by omega) ?_; intro v5 e5
        rw [show v5 = ((p + 1 : Nat) : Int) by omega]
        refine ih (p + 1) f (by omega) (by omega) ?_
        rw [if_neg (by omega), if_neg (by omega), if_pos (.inl (by omega))] at E0
        rw [← E0]; exact H
      · refine pc_if (fun c2 => ?_) (fun c2 => ?_)
        · refine pc_if (fun c3 => ?_) (fun c3 => ?_)
          · exfalso; apply z
            rw [if_neg (by omega), if_neg (by omega), if_neg (by omega)] at E0; exact E0
          · refine pc_add (by omega) ?_; intro v6 e6
            refine pc_sv (r_at T (x := p + 1) (by omega)) ?_; intro u8 q8
            refine pc_if (fun c4 => ?_) (fun c4 => ?_)
            · exfalso; apply z
              rw [if_neg (fun w => by omega), if_neg (by omega), if_neg (by omega)] at E0; exact E0
            · refine rb_58 T ih nn p (f + 1) (by omega) (by omega) ?_
              have s : A p = 47 ∧ p + 1 < n ∧ A (p + 1) = 47 := by omega
              rw [if_pos s] at E0 E1
              rw [E1, ← E0]; exact H
        · refine pc_add (by omega) ?_; intro v5 e5
          rw [show v5 = ((p + 1 : Nat) : Int) by omega]
          refine ih (p + 1) f (by omega) (by omega) ?_
          rw [if_neg (by omega), if_pos (by omega)] at E0
          rw [← E0]; exact H
/- words -/
theorem we_q : ∀ (f p : Nat), n ≤ p + f → p ≤ n → (p ≤ we_T A n f p ∧ we_T A n f p ≤ n) ∧ (we_T A n f p = n ∨ ¬ np_T (A (we_T A n f p))) ∧ ∀ i, p ≤ i → i < we_T A n f p → np_T (A i) := by
  intro f
  induction f with
  | zero => intro p h1 h2; have e : we_T A n 0 p = p := rfl; rw [e]; exact ⟨by omega, .inl (by omega), fun i a b => by omega⟩
  | succ f ih =>
    intro p h1 h2
    have e : we_T A n (f + 1) p = if p < n ∧ np_T (A p) then we_T A n f (p + 1) else p := rfl
    by_cases a : p < n ∧ np_T (A p)
    · rw [if_pos a] at e
      obtain ⟨i1, i2, i3⟩ := ih (p + 1) (by omega) (by omega)
      rw [e]
      refine ⟨by omega, i2, fun i b c => ?_⟩
      by_cases d : i = p
      · rw [d]; exact a.2
      · exact i3 i (by omega) c
    · rw [if_neg a] at e
      rw [e]
      refine ⟨by omega, ?_, fun i b c => by omega⟩
      by_cases d : p < n
      · exact .inr (fun w => a ⟨d, w⟩)
      · exact .inl (by omega)
theorem wc_3 (T : TXc h A n) {a : Int} {Q : Int × ms_M → Prop} : ∀ (k p f : Nat), n ≤ p + f → Pc (qj_X9_scanWord_25 nn a ((we_T A n f p : Nat) : Int) h) Q → Pc (qw_X9_scanWord_3 nn k (n : Int) a (p : Int) h) Q := by
  intro k
  have t0 := T.1
  induction k with
  | zero => intro p f h1 H; exact pc_none
  | succ k ih =>
    intro p f h1 H
    unfold qw_X9_scanWord_3
    have N : ¬ (p < n ∧ np_T (A p)) → we_T A n f p = p := fun z => by
      cases f with
      | zero => rfl
      | succ f => show (if p < n ∧ np_T (A p) then _ else p) = p; rw [if_neg z]
    refine pc_if (fun c => ?_) (fun c => ?_)
    · rw [N (by omega)] at H; exact H
    · have t1 := T.2 p (by omega)
      refine pc_rA ?_; intro i1 i2 v e
      rw [Int.toNat_natCast] at e
      refine pc_sv ct_part ?_; intro u q
      refine pc_if (fun d => ?_) (fun d => ?_)
      · rw [N (by omega)] at H; exact H
      · obtain ⟨f, rfl⟩ : ∃ j, f = j + 1 := ⟨f - 1, by omega⟩
        refine pc_add (by omega) ?_; intro v4 e4
        rw [show v4 = ((p + 1 : Nat) : Int) by omega]
        refine ih (p + 1) f (by omega) ?_
        have e : we_T A n (f + 1) p = if p < n ∧ np_T (A p) then we_T A n f (p + 1) else p := rfl
        rw [if_pos (by omega)] at e
        rw [← e]; exact H
theorem wr_92 (T : TXr r A n) {qk : Int → ms_M → Option ms_M} {a : Nat} {Q : ms_M → Prop} : ∀ (k p f : Nat) (c : Int), n ≤ p + f → (a : Int) + c = (p : Int) → p ≤ n → 0 ≤ c → (∀ c2 : Int, (a : Int) + c2 = ((we_T A n f p : Nat) : Int) → Pc (mx_sv (qf_X13_among nn (1000000000 + 2) (a : Int) c2 r) fun u79 => if u79 < 0 then (if 12 < c2 then (qj_X13_tokenize_169 nn qk (a : Int) c2 u79 6 r) else (qj_X13_tokenize_169 nn qk (a : Int) c2 u79 1 r)) else (qj_X13_tokenize_169 nn qk (a : Int) c2 u79 3 r)) Q) → Pc (qw_X13_tokenize_92 nn qk k (a : Int) c r) Q := by
  intro k
  have t0 := T.1
  induction k with
  | zero => intro p f c h1 h2 h3 h4 H; exact pc_none
  | succ k ih =>
    intro p f c h1 h2 h3 h4 H
    have N : ¬ (p < n ∧ np_T (A p)) → we_T A n f p = p := fun z => by
      cases f with
      | zero => rfl
      | succ f => show (if p < n ∧ np_T (A p) then _ else p) = p; rw [if_neg z]
    have Y : p < n ∧ np_T (A p) → ∀ v : Int, v = c + 1 → Pc (qw_X13_tokenize_92 nn qk k (a : Int) v r) Q := fun z v ev => by
      obtain ⟨f, rfl⟩ : ∃ j, f = j + 1 := ⟨f - 1, by omega⟩
      have e : we_T A n (f + 1) p = if p < n ∧ np_T (A p) then we_T A n f (p + 1) else p := rfl
      rw [if_pos z] at e
      rw [e] at H
      exact ih (p + 1) f v (by omega) (by omega) (by omega) (by omega) H
    unfold qw_X13_tokenize_92
    refine pc_add (by omega) ?_; intro v1 e1
    refine pc_sv (r_at T (x := p) (by omega)) ?_; intro u1 q1
    refine pc_sv r_letter ?_; intro u2 q2
    refine pc_if (fun d => ?_) (fun d => ?_)
    · refine pc_add (by omega) ?_; intro v2 e2
      exact Y (by omega) v2 e2
    · refine pc_add (by omega) ?_; intro v3 e3
      refine pc_sv (r_at T (x := p) (by omega)) ?_; intro u3 q3
      refine pc_sv r_digit ?_; intro u4 q4
      refine pc_if (fun d2 => ?_) (fun d2 => ?_)
      · refine pc_add (by omega) ?_; intro v2 e2
        exact Y (by omega) v2 e2
      · refine pc_add (by omega) ?_; intro v4 e4
        refine pc_sv (r_at T (x := p) (by omega)) ?_; intro u5 q5
        refine pc_if (fun d3 => ?_) (fun d3 => ?_)
        · have w := N (by omega)
          exact H c (by rw [w]; omega)
        · refine pc_add (by omega) ?_; intro v2 e2
          exact Y (by omega) v2 e2
/- numbers -/
theorem de_q : ∀ (f p : Nat), n ≤ p + f → p ≤ n → (p ≤ de_T A n f p ∧ de_T A n f p ≤ n) ∧ (de_T A n f p = n ∨ ¬ dg_T (A (de_T A n f p))) ∧ ∀ i, p ≤ i → i < de_T A n f p → dg_T (A i) := by
  intro f
  induction f with
  | zero => intro p h1 h2; have e : de_T A n 0 p = p := rfl; rw [e]; exact ⟨by omega, .inl (by omega), fun i a b => by omega⟩
  | succ f ih =>
    intro p h1 h2
    have e : de_T A n (f + 1) p = if p < n ∧ dg_T (A p) then de_T A n f (p + 1) else p := rfl
    by_cases a : p < n ∧ dg_T (A p)
    · rw [if_pos a] at e
      obtain ⟨i1, i2, i3⟩ := ih (p + 1) (by omega) (by omega)
      rw [e]
      refine ⟨by omega, i2, fun i b c => ?_⟩
      by_cases d : i = p
      · rw [d]; exact a.2
      · exact i3 i (by omega) c
    · rw [if_neg a] at e
      rw [e]
      refine ⟨by omega, ?_, fun i b c => by omega⟩
      by_cases d : p < n
      · exact .inr (fun w => a ⟨d, w⟩)
      · exact .inl (by omega)
theorem nc_s {v d : Int} (hv : 0 ≤ v) (hd : 48 ≤ d ∧ d ≤ 57) : (if 2147483648 < nc_T v * 10 + d - 48 then 2147483648 else nc_T v * 10 + d - 48) = nc_T (10 * v + d - 48) := by
  unfold nc_T
  by_cases a : 2147483647 < v
  · rw [if_pos a, if_pos (show 2147483647 < 10 * v + d - 48 by omega), if_pos (by omega)]
  · rw [if_neg a]
    by_cases b : 2147483647 < 10 * v + d - 48
    · rw [if_pos b]
      by_cases c : 2147483648 < v * 10 + d - 48
      · rw [if_pos c]
      · rw [if_neg c]; omega
    · rw [if_neg b, if_neg (by omega)]; omega
theorem nc_r {v : Int} (hv : 0 ≤ v) : 0 ≤ nc_T v ∧ nc_T v ≤ 2147483648 := by
  unfold nc_T
  by_cases a : 2147483647 < v
  · rw [if_pos a]; omega
  · rw [if_neg a]; omega
theorem nc_6 (T : TXc h A n) {a : Nat} {Q : Int × ms_M → Prop} : ∀ (k j f : Nat), n ≤ a + j + f → 0 ≤ nv_T A a j → (0 ≤ nv_T A a (de_T A n f (a + j) - a) → Pc (qj_X9_scanNumber_52 nn (n : Int) (a : Int) (nc_T (nv_T A a (de_T A n f (a + j) - a))) ((de_T A n f (a + j) : Nat) : Int) h) Q) → Pc (qw_X9_scanNumber_6 nn k (n : Int) (a : Int) (nc_T (nv_T A a j)) ((a + j : Nat) : Int) h) Q := by
  intro k
  have t0 := T.1
  induction k with
  | zero => intro j f h1 h2 H; exact pc_none
  | succ k ih =>
    intro j f h1 h2 H
    unfold qw_X9_scanNumber_6
    have N : ¬ (a + j < n ∧ dg_T (A (a + j))) → de_T A n f (a + j) = a + j := fun z => by
      cases f with
      | zero => rfl
      | succ f => show (if a + j < n ∧ dg_T (A (a + j)) then _ else a + j) = a + j; rw [if_neg z]
    refine pc_if (fun c => ?_) (fun c => ?_)
    · rw [N (by omega), show a + j - a = j by omega] at H; exact H h2
    · have t1 := T.2 (a + j) (by omega)
      refine pc_rA ?_; intro i1 i2 v e
      rw [Int.toNat_natCast] at e
      refine pc_sv c_digit ?_; intro u q
      refine pc_if (fun d => ?_) (fun d => ?_)
      · rw [N (by omega), show a + j - a = j by omega] at H; exact H h2
      · obtain ⟨f, rfl⟩ : ∃ j, f = j + 1 := ⟨f - 1, by omega⟩
        have dg : dg_T (A (a + j)) := by omega
        refine pc_c6e ?_; intro v19 e19
        refine pc_rA ?_; intro k1 k2 v20 e20
        rw [Int.toNat_natCast] at e20
        refine pc_xl ?_; intro v21 e21
        refine pc_c6e ?_; intro v22 e22
        refine pc_c6e ?_; intro v23 e23
        refine pc_xl ?_; intro v24 e24
        refine pc_add (by omega) ?_; intro v25 e25
        have s := nc_s h2 dg
        have en : nv_T A a (j + 1) = 10 * nv_T A a j + A (a + j) - 48 := rfl
        have v23e : v23 = nc_T (nv_T A a j) * 10 + A (a + j) - 48 := by omega
        rw [v23e, s, ← en] at e24
        have e : de_T A n (f + 1) (a + j) = if a + j < n ∧ dg_T (A (a + j)) then de_T A n f (a + j + 1) else a + j := rfl
        rw [if_pos ⟨by omega, dg⟩] at e
        rw [e] at H
        rw [e24, show v25 = ((a + (j + 1) : Nat) : Int) by omega]
        exact ih (j + 1) f (by omega) (by omega) H
theorem nr_s {v x d : Int} (hv : 0 ≤ v) (hd : 48 ≤ d ∧ d ≤ 57) (R : nr_T v x) (hx : x ≤ 3000000000) : nr_T (10 * v + d - 48) (10 * x + d - 48) := by
  obtain ⟨r1, r2, r3⟩ := R
  refine ⟨by omega, fun a => ?_, fun a => ?_⟩
  · have := r2 (by omega); omega
  · by_cases b : v ≤ 2147483647
    · have := r2 b; omega
    · have := r3 (by omega); omega
theorem nr_t {v x d : Int} (hv : 0 ≤ v) (hd : 48 ≤ d ∧ d ≤ 57) (R : nr_T v x) (hx : 3000000000 < x) : nr_T (10 * v + d - 48) x := by
  obtain ⟨r1, r2, r3⟩ := R
  have : 2147483647 < v := by
    by_cases b : v ≤ 2147483647
    · have := r2 b; omega
    · omega
  exact ⟨r1, fun a => by omega, fun a => by omega⟩
theorem nr_189 (T : TXr r A n) {qk : Int → ms_M → Option ms_M} {a : Nat} {l2 : Int} {Q : ms_M → Prop} : ∀ (k j f : Nat) (x c : Int), n ≤ a + j + f → a + j ≤ n → c = (j : Int) → 0 ≤ nv_T A a j → nr_T (nv_T A a j) x → (∀ x2 c2 : Int, nr_T (nv_T A a (de_T A n f (a + j) - a)) x2 → (a : Int) + c2 = ((de_T A n f (a + j) : Nat) : Int) → Pc (xl (oq_cmp x2 2147483647) fun v47 => if 0 < v47 then (qj_X13_tokenize_292 nn qk (a : Int) c2 x2 r) else (if c2 = 1 then (qj_X13_tokenize_263 nn qk (a : Int) c2 x2 r) else (if l2 = 48 then (qj_X13_tokenize_292 nn qk (a : Int) c2 x2 r) else (qj_X13_tokenize_263 nn qk (a : Int) c2 x2 r)))) Q) → Pc (qw_X13_tokenize_189 nn qk k (a : Int) l2 c x r) Q := by
  intro k
  have t0 := T.1
  induction k with
  | zero => intro j f x c h1 h2 h3 h4 h5 H; exact pc_none
  | succ k ih =>
    intro j f x c h1 h2 h3 h4 h5 H
    unfold qw_X13_tokenize_189
    refine pc_add (by omega) ?_; intro v1 e1
    refine pc_sv (r_at T (x := a + j) (by omega)) ?_; intro u1 q1
    refine pc_sv r_digit ?_; intro u2 q2
    refine pc_if (fun d => ?_) (fun d => ?_)
    · have w : de_T A n f (a + j) = a + j := by
        cases f with
        | zero => rfl
        | succ f => show (if a + j < n ∧ dg_T (A (a + j)) then _ else a + j) = a + j; rw [if_neg (by omega)]
      rw [w, show a + j - a = j by omega] at H
      exact H x c h5 (by omega)
    · obtain ⟨f, rfl⟩ : ∃ j, f = j + 1 := ⟨f - 1, by omega⟩
      have hn : a + j < n := by omega
      have dg : dg_T (A (a + j)) := by omega
      have e : de_T A n (f + 1) (a + j) = if a + j < n ∧ dg_T (A (a + j)) then de_T A n f (a + j + 1) else a + j := rfl
      rw [if_pos ⟨hn, dg⟩] at e
      rw [e] at H
      have en : nv_T A a (j + 1) = 10 * nv_T A a j + A (a + j) - 48 := rfl
      refine pc_cmp ?_; intro v51 e51
      refine pc_if (fun b => ?_) (fun b => ?_)
      · refine pc_c6e ?_; intro v52 e52
        refine pc_add (by omega) ?_; intro v53 e53
        refine pc_sv (r_at T (x := a + j) (by omega)) ?_; intro u55 q55
        refine pc_xl ?_; intro v56 e56
        refine pc_c6e ?_; intro v57 e57
        refine pc_c6e ?_; intro v58 e58
        refine pc_add (by omega) ?_; intro v59 e59
        have s := nr_s h4 dg h5 (by omega)
        rw [← en, show 10 * x + A (a + j) - 48 = v58 by omega] at s
        exact ih (j + 1) f v58 v59 (by omega) (by omega) (by omega) (by omega) s H
      · refine pc_add (by omega) ?_; intro v60 e60
        have s := nr_t h4 dg h5 (by omega)
        rw [← en] at s
        exact ih (j + 1) f x v60 (by omega) (by omega) (by omega) (by omega) s H
end
end
section
/- TOKENS: the class's table of names -/
def bo_T (x y l : Int) : Int := oq_and (oq_add (oq_add (oq_mul x 5) (oq_mul y 3)) l) 63
/-- how long name i is, its bucket -/
def ln_T (h : ms_M) (i : Nat) : Int := h 7 (i + 1) - h 7 i
def bn_T (h : ms_M) (i : Nat) : Int := bo_T (h 6 (h 7 i).toNat) (h 6 (h 7 (i + 1) - 1).toNat) (ln_T h i)
/-- the last one before m with bucket b -/
def pv_T (β : Nat → Int) (b : Int) : Nat → Int
  | 0 => -1
  | m + 1 => if β m = b then (m : Int) else pv_T β b m
/-- name i is the text t, of length l -/
def NMt (h : ms_M) (i : Nat) (l : Int) (t : Nat → Int) : Prop := ln_T h i = l ∧ ∀ k : Nat, (k : Int) < l → h 6 ((h 7 i).toNat + k) = t k
/-- the table is as it must be -/
def NTB (h : ms_M) : Prop := ((32 ≤ h 2 9 ∧ h 2 9 ≤ 1740) ∧ h 7 (h 2 9).toNat ≤ 6400) ∧ (0 ≤ h 7 0 ∧ ∀ i : Nat, (i : Int) < h 2 9 → h 7 i + 1 ≤ h 7 (i + 1)) ∧ (∀ b : Nat, b < 64 → h 9 b = pv_T (bn_T h) (b : Int) (h 2 9).toNat) ∧ (∀ i : Nat, (i : Int) < h 2 9 → h 8 i = pv_T (bn_T h) (bn_T h i) i) ∧ ∀ (i j : Nat) (l : Int) (t : Nat → Int), i < j → (j : Int) < h 2 9 → NMt h i l t → NMt h j l t → False
/-- r has the names of h, and perhaps more -/
def NXt (h r : ms_M) : Prop := h 2 9 ≤ r 2 9 ∧ (∀ i : Nat, (i : Int) ≤ h 2 9 → r 7 i = h 7 i) ∧ (∀ k : Nat, (k : Int) < h 7 (h 2 9).toNat → r 6 k = h 6 k) ∧ ∀ i : Nat, (i : Int) < h 2 9 → r 8 i = h 8 i
section
variable {nn : Nat} {h g r : ms_M} {α : Type} {Q : α → Prop} {β γ : Nat → Int} {b : Int}
theorem pvt_c : ∀ m : Nat, (pv_T β b m = -1 ∧ ∀ i, i < m → ¬ β i = b) ∨ ∃ i : Nat, pv_T β b m = (i : Int) ∧ i < m ∧ β i = b ∧ ∀ j, i < j → j < m → ¬ β j = b := by
  intro m
  induction m with
  | zero => exact .inl ⟨rfl, fun i a => by omega⟩
  | succ m ih =>
    have e : pv_T β b (m + 1) = if β m = b then (m : Int) else pv_T β b m := rfl
    by_cases a : β m = b
    · rw [if_pos a] at e
      exact .inr ⟨m, e, by omega, a, fun j c d => by omega⟩
    · rw [if_neg a] at e
      rcases ih with ⟨x, y⟩ | ⟨i, x, y, z, w⟩
      · refine .inl ⟨by rw [e]; exact x, fun i c => ?_⟩
        by_cases d : i = m
        · rw [d]; exact a
        · exact y i (by omega)
      · refine .inr ⟨i, by rw [e]; exact x, by omega, z, fun j c d => ?_⟩
        by_cases f : j = m
        · rw [f]; exact a
        · exact w j c (by omega)
theorem pv_e : ∀ m : Nat, (∀ i, i < m → β i = γ i) → pv_T β b m = pv_T γ b m := by
  intro m
  induction m with
  | zero => intro _; rfl
  | succ m ih =>
    intro H
    show (if β m = b then (m : Int) else pv_T β b m) = (if γ m = b then (m : Int) else pv_T γ b m)
    rw [H m (by omega), ih (fun i a => H i (by omega))]
theorem nx_r : NXt h h := ⟨Int.le_refl _, fun _ _ => rfl, fun _ _ => rfl, fun _ _ => rfl⟩
theorem ntb_7 (T : NTB h) : ∀ i j : Nat, i ≤ j → (j : Int) ≤ h 2 9 → 0 ≤ h 7 i ∧ h 7 i + ((j : Int) - i) ≤ h 7 j := by
  obtain ⟨t0, ⟨t1, t2⟩, -⟩ := T
  intro i j
  have Z : ∀ i : Nat, (i : Int) ≤ h 2 9 → 0 ≤ h 7 i := by
    intro i
    induction i with
    | zero => intro _; exact t1
    | succ i ih => intro a; have := ih (by omega); have := t2 i (by omega); omega
  induction j with
  | zero => intro a c; have := Z i (by omega); have : i = 0 := by omega
            subst this; omega
  | succ j ih =>
    intro a c
    by_cases d : i = j + 1
    · have := Z i (by omega); subst d; omega
    · have := ih (by omega) (by omega); have := t2 j (by omega); omega
theorem nx_t (T : NTB h) (Tg : NTB g) (X : NXt h g) (Y : NXt g r) : NXt h r := by
  obtain ⟨x1, x2, x3, x4⟩ := X
  obtain ⟨y1, y2, y3, y4⟩ := Y
  have t0 := T.1.1
  have e7 : g 7 (h 2 9).toNat = h 7 (h 2 9).toNat := x2 _ (by omega)
  refine ⟨by omega, fun i a => by rw [y2 i (by omega)]; exact x2 i a, fun k a => ?_, fun i a => by rw [y4 i (by omega)]; exact x4 i a⟩
  rw [← x3 k a]
  refine y3 k ?_
  have a7 := ntb_7 Tg (h 2 9).toNat (g 2 9).toNat (by omega) (by have := Tg.1.1; omega)
  rw [e7] at a7
  omega
theorem nmt_x (T : NTB h) (X : NXt h r) {i : Nat} {l : Int} {t : Nat → Int} (hi : (i : Int) < h 2 9) (N : NMt h i l t) : NMt r i l t := by
  obtain ⟨x1, x2, x3, x4⟩ := X
  obtain ⟨n1, n2⟩ := N
  have e0 := x2 i (by omega)
  have e1 := x2 (i + 1) (by omega)
  have a := ntb_7 T i (i + 1) (by omega) (by omega)
  have c := ntb_7 T (i + 1) (h 2 9).toNat (by omega) (by omega)
  unfold ln_T at n1
  refine ⟨by unfold ln_T; rw [e0, e1]; exact n1, fun k hk => ?_⟩
  rw [e0, x3 _ (by omega)]
  exact n2 k hk
theorem bo_c {a0 : Nat} {a1 a2 : Int} (h1 : 0 ≤ a1 ∧ a1 ≤ 7000) (h2 : 1 ≤ a2 ∧ a2 ≤ 200) : Pc (qf_X9_bucketOf nn a0 a1 a2 h) (fun u => u = bo_T (h a0 a1.toNat) (h a0 (a1 + a2 - 1).toNat) a2) := by
  unfold qf_X9_bucketOf
  refine pc_rT ?_; intro v1 e1
  refine pc_xl ?_; intro v2 e2
  refine pc_add (by omega) ?_; intro v3 e3
  refine pc_sub (by omega) ?_; intro v4 e4
  refine pc_rT ?_; intro v5 e5
  refine pc_xl ?_; intro v6 e6
  refine pc_xl ?_; intro v7 e7
  refine pc_xl ?_; intro v8 e8
  refine pc_xl ?_; intro v9 e9
  refine pc_ret ?_
  show v9 = _
  unfold bo_T
  rw [e9, e8, e7, e6, e5, e2, e1, show v4 = a1 + a2 - 1 by omega]
theorem bn_n {i : Nat} {l : Int} {t : Nat → Int} (h0 : 0 ≤ h 7 i) (hl : 1 ≤ l) (N : NMt h i l t) : bn_T h i = bo_T (t 0) (t (l - 1).toNat) l := by
  obtain ⟨n1, n2⟩ := N
  unfold bn_T
  have a := n2 0 (by omega)
  have c := n2 (l - 1).toNat (by omega)
  rw [Nat.add_zero] at a
  unfold ln_T at n1
  rw [a, show (h 7 (i + 1) - 1).toNat = (h 7 i).toNat + (l - 1).toNat by omega, c]
  unfold ln_T
  rw [n1]
theorem in_29 {i a2 : Nat} {a3 l : Int} {t : Nat → Int} (hi : 0 ≤ h 7 i ∧ h 7 i ≤ 6400) (h3 : 0 ≤ a3 ∧ a3 ≤ 7000) (hl : l ≤ 200) (ht : ∀ k : Nat, (k : Int) < l → h a2 (a3.toNat + k) = t k) : ∀ (f k : Nat), (∀ j : Nat, j < k → (j : Int) < l → h 6 ((h 7 i).toNat + j) = t j) → Pc (qw_X9_isNamed_29 nn f a2 a3 l (h 7 i) (k : Int) h) (fun u => (u = 1 ∧ ∀ j : Nat, (j : Int) < l → h 6 ((h 7 i).toNat + j) = t j) ∨ (u = 0 ∧ ¬ ∀ j : Nat, (j : Int) < l → h 6 ((h 7 i).toNat + j) = t j)) := by
  intro f
  induction f with
  | zero => intro k _; exact pc_none
  | succ f ih =>
    intro k H
    unfold qw_X9_isNamed_29
    refine pc_if (fun c => pc_ret (.inl ⟨rfl, fun j a => H j (by omega) a⟩)) (fun c => ?_)
    refine pc_add (by omega) ?_; intro v2 e2
    refine pc_rA ?_; intro i1 i2 v3 e3
    refine pc_add (by omega) ?_; intro v4 e4
    refine pc_rT ?_; intro v5 e5
    have e3 : v3 = h 6 ((h 7 i).toNat + k) := by rw [e3]; congr 1; omega
    have e5 : v5 = t k := by rw [e5, ← ht k (by omega)]; congr 1; omega
    refine pc_if (fun d => ?_) (fun d => ?_)
    · refine pc_add (by omega) ?_; intro v6 e6
      rw [show v6 = ((k + 1 : Nat) : Int) by omega]
      refine ih (k + 1) (fun j a c2 => ?_)
      by_cases z : j = k
      · rw [z, ← e3, ← e5]; exact d
      · exact H j (by omega) c2
    · exact pc_ret (.inr ⟨rfl, fun z => d (by rw [e3, e5]; exact z k (by omega))⟩)
theorem in_c (T : NTB h) {i a2 : Nat} {x a3 l : Int} {t : Nat → Int} (hx : x = (i : Int)) (hi : (i : Int) < h 2 9) (h3 : 0 ≤ a3 ∧ a3 ≤ 7000) (hl : l ≤ 200) (ht : ∀ k : Nat, (k : Int) < l → h a2 (a3.toNat + k) = t k) : Pc (qf_X9_isNamed nn x a2 a3 l h) (fun u => (u = 1 ∧ NMt h i l t) ∨ (u = 0 ∧ ¬ NMt h i l t)) := by
  subst hx
  have a := ntb_7 T i (i + 1) (by omega) (by omega)
  have c := ntb_7 T (i + 1) (h 2 9).toNat (by omega) (by omega)
  have t0 := T.1
  unfold qf_X9_isNamed
  refine pc_rA ?_; intro i1 i2 v10 e10
  refine pc_add (by omega) ?_; intro v12 e12
  refine pc_rA ?_; intro j1 j2 v13 e13
  rw [Int.toNat_natCast] at e10
  rw [show v12.toNat = i + 1 by omega] at e13
  refine pc_sub (by omega) ?_; intro v14 e14
  refine pc_if (fun d => ?_) (fun d => ?_)
  · rw [e10]
    refine pc_imp (in_29 (t := t) (by omega) h3 hl ht nn 0 (fun j z => by omega)) (fun u q => ?_)
    have el : ln_T h i = l := by unfold ln_T; omega
    rcases q with ⟨q1, q2⟩ | ⟨q1, q2⟩
    · exact .inl ⟨q1, el, q2⟩
    · exact .inr ⟨q1, fun z => q2 z.2⟩
  · refine pc_ret (.inr ⟨rfl, fun z => d ?_⟩)
    have := z.1
    unfold ln_T at this
    omega
/-- a name more -/
theorem nt_add (T : NTB h) {l v : Int} {t : Nat → Int} (hN : h 2 9 < 1740) (hl : 1 ≤ l ∧ l ≤ 200) (hs : h 7 (h 2 9).toNat + l ≤ 6400) (e9 : r 2 9 = h 2 9 + 1) (e7 : ∀ i : Nat, (i : Int) ≤ h 2 9 → r 7 i = h 7 i) (e7n : r 7 ((h 2 9).toNat + 1) = h 7 (h 2 9).toNat + l) (e6 : ∀ k : Nat, (k : Int) < h 7 (h 2 9).toNat → r 6 k = h 6 k) (e6n : ∀ k : Nat, (k : Int) < l → r 6 ((h 7 (h 2 9).toNat).toNat + k) = t k) (e8 : ∀ i : Nat, (i : Int) < h 2 9 → r 8 i = h 8 i) (hv : 0 ≤ v ∧ v < 64) (ev : v = bo_T (t 0) (t (l - 1).toNat) l) (e8n : r 8 (h 2 9).toNat = h 9 v.toNat) (eb : ∀ b : Nat, ¬ b = v.toNat → r 9 b = h 9 b) (ebn : r 9 v.toNat = h 2 9) (no : ∀ i : Nat, (i : Int) < h 2 9 → ¬ NMt h i l t) : NTB r ∧ NXt h r ∧ NMt r (h 2 9).toNat l t := by
  have X : NXt h r := ⟨by omega, e7, e6, e8⟩
  obtain ⟨N, hNN⟩ : ∃ N : Nat, h 2 9 = (N : Int) := ⟨(h 2 9).toNat, by have := T.1.1; omega⟩
  have nN : (h 2 9).toNat = N := by omega
  rw [nN] at hs e7n e6n e6 e8n
  have a := ntb_7 T N N (by omega) (by omega)
  have NN : NMt r N l t := by
    refine ⟨?_, fun k hk => ?_⟩
    · unfold ln_T; rw [e7n, e7 N (by omega)]; omega
    · rw [e7 N (by omega)]; exact e6n k hk
  have bN : bn_T r N = v := by
    rw [bn_n (by rw [e7 N (by omega)]; omega) hl.1 NN, ← ev]
  have bE : ∀ i : Nat, i < N → bn_T r i = bn_T h i := by
    intro i hi
    have c := ntb_7 T i (i + 1) (by omega) (by omega)
    have d := ntb_7 T (i + 1) N (by omega) (by omega)
    unfold bn_T ln_T
    rw [e7 i (by omega), e7 (i + 1) (by omega), e6 _ (by omega), e6 _ (by omega)]
  refine ⟨⟨⟨by have := T.1.1; omega, ?_⟩, ⟨?_, fun i hi => ?_⟩, fun c hc => ?_, fun i hi => ?_, fun i j l2 t2 ij hj M1 M2 => ?_⟩, X, by rw [nN]; exact NN⟩
  · rw [e9, show (h 2 9 + 1).toNat = N + 1 by omega, e7n]; exact hs
  · rw [e7 0 (by omega)]; exact T.2.1.1
  · by_cases z : i = N
    · rw [z, e7n, e7 N (by omega)]; omega
    · rw [e7 i (by omega), e7 (i + 1) (by omega)]; exact T.2.1.2 i (by omega)
  · rw [e9, show (h 2 9 + 1).toNat = N + 1 by omega]
    show r 9 c = if bn_T r N = (c : Int) then (N : Int) else pv_T (bn_T r) (c : Int) N
    rw [bN]
    by_cases z : v = (c : Int)
    · rw [if_pos z, show c = v.toNat by omega, ebn]; exact hNN
    · rw [if_neg z, eb c (by omega), T.2.2.1 c hc, nN]
      exact (pv_e N (fun i hi => (bE i hi))).symm
  · by_cases z : i = N
    · rw [z, e8n, bN, T.2.2.1 v.toNat (by omega), nN, show ((v.toNat : Nat) : Int) = v by omega]
      exact (pv_e N (fun i hi => (bE i hi))).symm
    · rw [e8 i (by omega), T.2.2.2.1 i (by omega), bE i (by omega)]
      exact (pv_e i (fun j hj => (bE j (by omega)))).symm
  · have back : ∀ i : Nat, i < N → NMt r i l2 t2 → NMt h i l2 t2 := by
      intro i hi M
      have c := ntb_7 T i (i + 1) (by omega) (by omega)
      have d := ntb_7 T (i + 1) N (by omega) (by omega)
      obtain ⟨m1, m2⟩ := M
      unfold ln_T at m1
      rw [e7 i (by omega), e7 (i + 1) (by omega)] at m1
      refine ⟨m1, fun k hk => ?_⟩
      have := m2 k hk
      rw [e7 i (by omega), e6 _ (by omega)] at this
      exact this
    have I := back i (by omega) M1
    by_cases z : j = N
    · rw [z] at M2
      refine no i (by omega) ⟨?_, fun k hk => ?_⟩
      · rw [I.1, ← M2.1]; exact NN.1
      · have l3 : l2 = l := by rw [← M2.1]; exact NN.1
        rw [I.2 k (by omega), ← M2.2 k (by omega)]; exact NN.2 k hk
    · exact T.2.2.2.2 i j l2 t2 ij (by omega) I (back j (by omega) M2)
/-- what nameOf leaves -/
def NO_ (h : ms_M) (l : Int) (t : Nat → Int) (u : Int × ms_M) : Prop := ∃ i : Nat, u.1 = (i : Int) ∧ (i : Int) < u.2 2 9 ∧ NMt u.2 i l t ∧ NTB u.2 ∧ NXt h u.2 ∧ u.2 2 9 ≤ h 2 9 + 1 ∧ u.2 7 (u.2 2 9).toNat ≤ h 7 (h 2 9).toNat + l
theorem no_79 (T : NTB h) {a1 : Nat} {a2 l : Int} {t : Nat → Int} (hN : h 2 9 < 1740) (h2 : 0 ≤ a2 ∧ a2 ≤ 6000) (hl : 1 ≤ l ∧ l ≤ 200) (hs : h 7 (h 2 9).toNat + l ≤ 6400) (ht : ∀ k : Nat, (k : Int) < l → h a1 (a2.toNat + k) = t k) (hb : 0 ≤ bo_T (t 0) (t (l - 1).toNat) l ∧ bo_T (t 0) (t (l - 1).toNat) l < 64) (no : ∀ i : Nat, (i : Int) < h 2 9 → ¬ NMt h i l t) : Pc (qj_X9_nameOf_79 nn a1 a2 l h) (NO_ h l t) := by
  have t0 := T.1
  have a := ntb_7 T (h 2 9).toNat (h 2 9).toNat (by omega) (by omega)
  unfold qj_X9_nameOf_79
  refine pc_rA ?_; intro i1 i2 v3 e3
  refine pc_if (fun c => absurd c (by omega)) (fun _ => ?_)
  refine pc_add (by omega) ?_; intro v5 e5
  refine pc_if (fun _ => ?_) (fun c => absurd (by omega) c)
  refine pc_cpS ?_; intro h9 e9
  refine pc_add (by omega) ?_; intro v10 e10
  have r9 : ∀ c k : Nat, ¬ c = 6 → h9 c k = h c k := fun c k z => by rw [e9]; exact cp_ne z
  have r6 : ∀ k : Nat, (k : Int) < h 7 (h 2 9).toNat → h9 6 k = h 6 k := fun k z => by
    rw [e9]; unfold cp_M; rw [if_neg (by omega)]
  have r6n : ∀ k : Nat, (k : Int) < l → h9 6 ((h 7 (h 2 9).toNat).toNat + k) = t k := fun k z => by
    rw [e9]; unfold cp_M
    rw [if_pos ⟨rfl, by omega, by omega⟩, ← ht k z]; congr 1; omega
  refine pc_se ?_; intro u12 e12
  have P : Pc (qf_X9_closeName nn v10 h9) (fun r => r 2 9 = h 2 9 + 1 ∧ (∀ i : Nat, (i : Int) ≤ h 2 9 → r 7 i = h 7 i) ∧ r 7 ((h 2 9).toNat + 1) = h 7 (h 2 9).toNat + l ∧ (∀ k : Nat, r 6 k = h9 6 k) ∧ (∀ i : Nat, (i : Int) < h 2 9 → r 8 i = h 8 i) ∧ r 8 (h 2 9).toNat = h 9 (bo_T (t 0) (t (l - 1).toNat) l).toNat ∧ (∀ b : Nat, ¬ b = (bo_T (t 0) (t (l - 1).toNat) l).toNat → r 9 b = h 9 b) ∧ r 9 (bo_T (t 0) (t (l - 1).toNat) l).toNat = h 2 9) := by
    unfold qf_X9_closeName
    have q29 : h9 2 9 = h 2 9 := r9 2 9 (by decide)
    rw [q29]
    refine pc_rA ?_; intro i1 i2 w3 f3
    rw [r9 7 _ (by decide)] at f3
    refine pc_sub (by omega) ?_; intro w5 f5
    refine pc_sv (bo_c (by omega) (by omega)) ?_; intro w6 f6
    have w5l : w5 = l := by omega
    have x0 := r6n 0 (by omega)
    have x1 := r6n (l - 1).toNat (by omega)
    rw [Nat.add_zero] at x0
    rw [w5l, f3, x0, show (h 7 (h 2 9).toNat + l - 1).toNat = (h 7 (h 2 9).toNat).toNat + (l - 1).toNat by omega, x1] at f6
    refine pc_rA ?_; intro j1 j2 w10 f10
    rw [r9 9 _ (by decide)] at f10
    refine pc_wA ?_; intro k1 k2 h11 g11
    have q11 : h11 2 9 = h 2 9 := by rw [g11, up_n (by omega)]; exact q29
    rw [q11]
    refine pc_wA ?_; intro m1 m2 h14 g14
    have q14 : h14 2 9 = h 2 9 := by rw [g14, up_n (by omega)]; exact q11
    rw [q14]
    refine pc_add (by omega) ?_; intro w16 f16
    refine pc_xl ?_; intro h17 g17
    have q17 : h17 2 9 = h 2 9 + 1 := by rw [g17, up_s]; omega
    refine pc_wA ?_; intro n1 n2 h20 g20
    rw [q17] at g20
    refine pc_ret ⟨?_, fun i hi => ?_, ?_, fun k => ?_, fun i hi => ?_, ?_, fun b hb => ?_, ?_⟩
    · rw [g20, up_n (by omega)]; exact q17
    · rw [g20, up_n (by omega), g17, up_n (by omega), g14, up_n (by omega), g11, up_n (by omega)]; exact r9 7 i (by decide)
    · rw [g20, show (h 2 9 + 1).toNat = (h 2 9).toNat + 1 by omega, up_s]; omega
    · rw [g20, up_n (by omega), g17, up_n (by omega), g14, up_n (by omega), g11, up_n (by omega)]
    · rw [g20, up_n (by omega), g17, up_n (by omega), g14, up_n (by omega), g11, up_n (by omega)]; exact r9 8 i (by decide)
    · rw [g20, up_n (by omega), g17, up_n (by omega), g14, up_n (by omega), g11, up_s, f10, f6]
    · rw [g20, up_n (by omega), g17, up_n (by omega), g14, up_n (by rw [f6]; omega), g11, up_n (by omega)]; exact r9 9 b (by decide)
    · rw [g20, up_n (by omega), g17, up_n (by omega), g14, ← f6, up_s]
  obtain ⟨p1, p2, p3, p4, p5, p6, p7, p8⟩ := P _ e12
  refine pc_sub (by omega) ?_; intro v14 e14
  obtain ⟨A1, A2, A3⟩ := nt_add T hN hl hs p1 p2 p3 (fun k hk => by rw [p4]; exact r6 k hk) (fun k hk => by rw [p4]; exact r6n k hk) p5 hb rfl p6 p7 p8 no
  refine pc_ret ⟨(h 2 9).toNat, ?_, ?_, A3, A1, A2, ?_, ?_⟩
  · show v14 = _; omega
  · show _ < u12 2 9; omega
  · show u12 2 9 ≤ _; omega
  · show u12 7 (u12 2 9).toNat ≤ _
    rw [p1, show (h 2 9 + 1).toNat = (h 2 9).toNat + 1 by omega, p3]; omega
theorem no_35 (T : NTB h) {a1 : Nat} {a2 l : Int} {t : Nat → Int} (hN : h 2 9 < 1740) (h2 : 0 ≤ a2 ∧ a2 ≤ 6000) (hl : 1 ≤ l ∧ l ≤ 200) (hs : h 7 (h 2 9).toNat + l ≤ 6400) (ht : ∀ k : Nat, (k : Int) < l → h a1 (a2.toNat + k) = t k) (hb : 0 ≤ bo_T (t 0) (t (l - 1).toNat) l ∧ bo_T (t 0) (t (l - 1).toNat) l < 64) : ∀ (f m : Nat) (x c : Int), (m : Int) ≤ h 2 9 → x = pv_T (bn_T h) (bo_T (t 0) (t (l - 1).toNat) l) m → 0 ≤ c → c ≤ h 2 9 - m → (∀ i : Nat, m ≤ i → (i : Int) < h 2 9 → ¬ NMt h i l t) → Pc (qw_X9_nameOf_35 nn f a1 a2 l x c h) (NO_ h l t) := by
  intro f
  induction f with
  | zero => intro m x c _ _ _ _ _; exact pc_none
  | succ f ih =>
    intro m x c hm hx c0 hc no
    have t0 := T.1
    have D := fun no => no_79 (nn := nn) T hN h2 hl hs ht hb no
    unfold qw_X9_nameOf_35
    refine pc_if (fun z => ?_) (fun z => ?_)
    · exact D (fun i hi => no i (by omega) hi)
    rcases pvt_c (β := bn_T h) (b := bo_T (t 0) (t (l - 1).toNat) l) m with ⟨p1, p2⟩ | ⟨i, p1, p2, p3, p4⟩
    · refine pc_if (fun _ => ?_) (fun y => absurd (by omega) y)
      refine D (fun i hi N => ?_)
      by_cases y : m ≤ i
      · exact no i y hi N
      · have b7 := ntb_7 T i i (by omega) (by omega)
        exact p2 i (by omega) (bn_n b7.1 hl.1 N)
    · refine pc_if (fun y => absurd y (by omega)) (fun _ => ?_)
      refine pc_sv (in_c T (i := i) (t := t) (by omega) (by omega) (by omega) (by omega) ht) ?_; intro u18 q18
      refine pc_if (fun y => ?_) (fun y => ?_)
      · refine pc_rA ?_; intro i1 i2 v20 e20
        refine pc_add (by omega) ?_; intro v21 e21
        rw [hx, p1, Int.toNat_natCast, T.2.2.2.1 i (by omega), p3] at e20
        refine ih i v20 v21 (by omega) e20 (by omega) (by omega) (fun j a b N => ?_)
        by_cases w : j = i
        · rw [w] at N
          rcases q18 with q | q
          · omega
          · exact q.2 N
        · by_cases w2 : m ≤ j
          · exact no j w2 b N
          · have b7 := ntb_7 T j j (by omega) (by omega)
            exact p4 j (by omega) (by omega) (bn_n b7.1 hl.1 N)
      · rcases q18 with q | q
        · refine pc_ret ⟨i, ?_, ?_, q.2, T, nx_r, ?_, ?_⟩
          · show x = _; omega
          · show _ < h 2 9; omega
          · show h 2 9 ≤ _; omega
          · show h 7 (h 2 9).toNat ≤ _; omega
        · exact absurd q.1 y
theorem bo_b {x y l : Int} : 0 ≤ bo_T x y l ∧ bo_T x y l < 64 := by
  unfold bo_T
  have := oq_and_rg (x := oq_add (oq_add (oq_mul x 5) (oq_mul y 3)) l) (c := 63) (by decide)
  omega
/-- nameOf finds a name, or makes it -/
theorem no_c (T : NTB h) {a1 : Nat} {a2 l : Int} {t : Nat → Int} (hN : h 2 9 < 1740) (h2 : 0 ≤ a2 ∧ a2 ≤ 6000) (hl : 1 ≤ l ∧ l ≤ 200) (hs : h 7 (h 2 9).toNat + l ≤ 6400) (hr : a2 + l ≤ ln_I h a1) (ht : ∀ k : Nat, (k : Int) < l → h a1 (a2.toNat + k) = t k) : Pc (qf_X9_nameOf nn a1 a2 l h) (NO_ h l t) := by
  have t0 := T.1
  have b0 := bo_b (x := t 0) (y := t (l - 1).toNat) (l := l)
  unfold qf_X9_nameOf
  refine pc_if (fun c => absurd c (by omega)) (fun _ => ?_)
  refine pc_if (fun c => absurd c (by omega)) (fun _ => ?_)
  refine pc_add (by omega) ?_; intro v25 e25
  refine pc_lS ?_; intro v26 e26
  refine pc_if (fun _ => ?_) (fun c => absurd (by omega) c)
  refine pc_sv (bo_c (by omega) (by omega)) ?_; intro u28 q28
  have x0 := ht 0 (by omega)
  have x1 := ht (l - 1).toNat (by omega)
  rw [Nat.add_zero] at x0
  rw [x0, show (a2 + l - 1).toNat = a2.toNat + (l - 1).toNat by omega, x1] at q28
  refine pc_rA ?_; intro i1 i2 v29 e29
  rw [T.2.2.1 u28.toNat (by omega), show ((u28.toNat : Nat) : Int) = u28 by omega, q28] at e29
  exact no_35 T hN h2 hl hs ht b0 nn (h 2 9).toNat v29 0 (by omega) e29 (by omega) (by omega) (fun i a b => by omega)
/-- two numbers are the same where the texts are -/
theorem nt_eq (T : NTB h) {i j : Nat} {l : Int} {t : Nat → Int} (hi : (i : Int) < h 2 9) (hj : (j : Int) < h 2 9) (M : NMt h i l t) (N : NMt h j l t) : i = j := by
  by_cases a : i < j
  · exact (T.2.2.2.2 i j l t a hj M N).elim
  · by_cases b : j < i
    · exact (T.2.2.2.2 j i l t b hi N M).elim
    · omega
end
end
section
/- TOKENS: known names, word lists, signs -/
def kl_L : List (List Int) := [[79, 98, 106, 101, 99, 116], [70, 97, 117, 108, 116], [78, 117, 108, 108, 70, 97, 117, 108, 116], [73, 110, 100, 101, 120, 70, 97, 117, 108, 116], [65, 114, 105, 116, 104, 70, 97, 117, 108, 116], [67, 97, 115, 116, 70, 97, 117, 108, 116], [83, 105, 122, 101, 70, 97, 117, 108, 116], [83, 116, 111, 114, 101, 70, 97, 117, 108, 116], [108, 101, 110, 103, 116, 104], [98, 111, 111, 108, 101, 97, 110], [98, 114, 101, 97, 107], [99, 97, 116, 99, 104], [99, 108, 97, 115, 115], [99, 111, 110, 116, 105, 110, 117, 101], [101, 108, 115, 101], [101, 120, 116, 101, 110, 100, 115], [102, 97, 108, 115, 101], [105, 102], [105, 110, 115, 116, 97, 110, 99, 101, 111, 102], [105, 110, 116], [110, 101, 119], [110, 117, 108, 108], [112, 114, 105, 110, 116], [114, 101, 116, 117, 114, 110], [115, 116, 97, 116, 105, 99], [116, 104, 105, 115], [116, 104, 114, 111, 119], [116, 114, 117, 101], [116, 114, 121], [118, 111, 105, 100], [119, 104, 105, 108, 101], [91, 73]]
def kl_T (i : Nat) : List Int := kl_L.getD i []
def ka_L : List Int := [0, 6, 11, 20, 30, 40, 49, 58, 68, 74, 81, 86, 91, 96, 104, 108, 115, 120, 122, 132, 135, 138, 142, 147, 153, 159, 163, 168, 172, 175, 179, 184, 186]
def kb_L : List Int := [79, 98, 106, 101, 99, 116, 70, 97, 117, 108, 116, 78, 117, 108, 108, 70, 97, 117, 108, 116, 73, 110, 100, 101, 120, 70, 97, 117, 108, 116, 65, 114, 105, 116, 104, 70, 97, 117, 108, 116, 67, 97, 115, 116, 70, 97, 117, 108, 116, 83, 105, 122, 101, 70, 97, 117, 108, 116, 83, 116, 111, 114, 101, 70, 97, 117, 108, 116, 108, 101, 110, 103, 116, 104, 98, 111, 111, 108, 101, 97, 110, 98, 114, 101, 97, 107, 99, 97, 116, 99, 104, 99, 108, 97, 115, 115, 99, 111, 110, 116, 105, 110, 117, 101, 101, 108, 115, 101, 101, 120, 116, 101, 110, 100, 115, 102, 97, 108, 115, 101, 105, 102, 105, 110, 115, 116, 97, 110, 99, 101, 111, 102, 105, 110, 116, 110, 101, 119, 110, 117, 108, 108, 112, 114, 105, 110, 116, 114, 101, 116, 117, 114, 110, 115, 116, 97, 116, 105, 99, 116, 104, 105, 115, 116, 104, 114, 111, 119, 116, 114, 117, 101, 116, 114, 121, 118, 111, 105, 100, 119, 104, 105, 108, 101, 91, 73]
def ks_L : List Int := [-1, -1, -1, -1, 2, -1, -1, -1, -1, -1, -1, -1, -1, -1, 11, -1, -1, -1, -1, 14, -1, -1, -1, -1, 21, -1, 24, -1, 16, -1, -1, -1]
def kk_L : List Int := [-1, 17, -1, -1, 6, 7, -1, 30, -1, 18, 23, -1, -1, 12, 20, -1, -1, 22, -1, 3, -1, -1, -1, -1, -1, 15, 8, -1, -1, -1, -1, -1, -1, 25, -1, -1, 31, -1, 13, -1, -1, -1, -1, 4, 19, 0, 26, -1, 10, -1, 28, -1, 5, -1, -1, 27, -1, -1, -1, 9, -1, -1, 29, 1]
def ka_T (i : Nat) : Int := ka_L.getD i 0
def kb_T (i : Nat) : Int := kb_L.getD i 0
def ks_T (i : Nat) : Int := ks_L.getD i 0
def kk_T (i : Nat) : Int := kk_L.getD i 0
/-- the known names stand in the class's table -/
def KT_ (h : ms_M) : Prop := (∀ i : Nat, i ≤ 32 → h 7 i = ka_T i) ∧ ∀ k : Nat, k < 186 → h 6 k = kb_T k
def KNB (h : ms_M) : Prop := KT_ h ∧ (∀ i : Nat, i < 32 → h 8 i = ks_T i) ∧ ∀ b : Nat, b < 64 → h 10 b = kk_T b
theorem kn_1 : (List.range 32).all (fun i => decide (ka_T (i + 1) - ka_T i = ((kl_T i).length : Int)) && decide (0 ≤ ka_T i) && decide (ka_T (i + 1) ≤ 186) && (List.range (kl_T i).length).all (fun k => decide (kb_T ((ka_T i).toNat + k) = (kl_T i).getD k 0))) = true := by decide +kernel
theorem kt_n {h : ms_M} (K : KT_ h) {i : Nat} (hi : i < 32) : NMt h i ((kl_T i).length : Int) (fun k => (kl_T i).getD k 0) := by
  have q := List.all_eq_true.1 kn_1 i (List.mem_range.2 hi)
  simp only [Bool.and_eq_true, decide_eq_true_eq, List.all_eq_true, List.mem_range] at q
  obtain ⟨⟨⟨q1, q2⟩, q3⟩, q4⟩ := q
  refine ⟨by unfold ln_T; rw [K.1 i (by omega), K.1 (i + 1) (by omega)]; exact q1, fun k hk => ?_⟩
  rw [K.1 i (by omega), K.2 _ (by omega)]
  exact q4 k (by omega)
/-- the class's sign of a byte, of a byte and the next one, of three -/
def ps_T (a : Int) : Int := if a = 37 then 65 else (if a = 40 then 40 else (if a = 41 then 41 else (if a = 42 then 63 else (if a = 43 then 61 else (if a = 44 then 47 else (if a = 45 then 62 else (if a = 46 then 48 else (if a = 47 then 64 else (if a = 58 then 50 else (if a = 59 then 46 else (if a = 63 then 49 else (if a = 91 then 44 else (if a = 93 then 45 else (if a = 94 then 70 else (if a = 123 then 42 else (if a = 125 then 43 else (if a = 126 then 72 else (0))))))))))))))))))
def so_T (a d : Int) : Int := if a = 33 then (if d = 61 then 53 else 71) else (if a = 38 then (if d = 38 then 67 else 66) else (if a = 60 then (if d = 61 then 55 else (if d = 60 then 58 else 54)) else (if a = 61 then (if d = 61 then 52 else 51) else (if a = 62 then (if d = 61 then 57 else (if d = 62 then 59 else 56)) else (if a = 124 then (if d = 124 then 69 else 68) else (ps_T a))))))
def sg_T (a d e : Int) : Int := if a = 62 ∧ d = 62 ∧ e = 62 then 60 else so_T a d
/-- how long it is; its value in the reference -/
def sl_T (k : Int) : Int := if k = 0 then 0 else (if k = 52 then 2 else (if k = 53 then 2 else (if k = 55 then 2 else (if k = 57 then 2 else (if k = 58 then 2 else (if k = 59 then 2 else (if k = 60 then 3 else (if k = 67 then 2 else (if k = 69 then 2 else (1))))))))))
def sv_L : List Int := [40, 41, 123, 125, 91, 93, 59, 44, 46, 63, 58, 61, 7869, 4285, 60, 7741, 62, 7997, 7740, 7998, 1023806, 43, 45, 42, 47, 37, 38, 4902, 124, 15996, 94, 33, 126]
def sv_T (k : Int) : Int := sv_L.getD (k - 40).toNat 0
section
variable {nn : Nat} {h g r : ms_M} {α : Type}
theorem ps_c {v a : Int} (hv : (0 ≤ v ∧ v = a) ∨ (v < 0 ∧ 128 ≤ a)) : Pc (qf_X9_plainSignOf nn v h) (fun u => u = ps_T a) := by
  unfold qf_X9_plainSignOf
  refine pc_if (fun c => pc_ret ?_) (fun c0 => ?_)
  · show (65 : Int) = ps_T a
    unfold ps_T; rw [if_pos (by omega)]
  refine pc_if (fun c => pc_ret ?_) (fun c1 => ?_)
  · show (40 : Int) = ps_T a
    unfold ps_T; rw [if_neg (by omega), if_pos (by omega)]
  refine pc_if (fun c => pc_ret ?_) (fun c2 => ?_)
  · show (41 : Int) = ps_T a
    unfold ps_T; rw [if_neg (by omega), if_neg (by omega), if_pos (by omega)]
  refine pc_if (fun c => pc_ret ?_) (fun c3 => ?_)
  · show (63 : Int) = ps_T a
    unfold ps_T; rw [if_neg (by omega), if_neg (by omega), if_neg (by omega), if_pos (by omega)]
  refine pc_if (fun c => pc_ret ?_) (fun c4 => ?_)
  · show (61 : Int) = ps_T a
    unfold ps_T; rw [if_neg (by omega), if_neg (by omega), if_neg (by omega), if_neg (by omega), if_pos (by omega)]
  refine pc_if (fun c => pc_ret ?_) (fun c5 => ?_)
  · show (47 : Int) = ps_T a
    unfold ps_T; rw [if_neg (by omega), if_neg (by omega), if_neg (by omega), if_neg (by omega), if_neg (by omega), if_pos (by omega)]
  refine pc_if (fun c => pc_ret ?_) (fun c6 => ?_)
  · show (62 : Int) = ps_T a
    unfold ps_T; rw [if_neg (by omega), if_neg (by omega), if_neg (by omega), if_neg (by omega), if_neg (by omega), if_neg (by omega), if_pos (by omega)]
  refine pc_if (fun c => pc_ret ?_) (fun c7 => ?_)
  · show (48 : Int) = ps_T a
    unfold ps_T; rw [if_neg (by omega), if_neg (by omega), if_neg (by omega), if_neg (by omega), if_neg (by omega), if_neg (by omega), if_neg (by omega), if_pos (by omega)]
  refine pc_if (fun c => pc_ret ?_) (fun c8 => ?_)
  · show (64 : Int) = ps_T a
    unfold ps_T; rw [if_neg (by omega), if_neg (by omega), if_neg (by omega), if_neg (by omega), if_neg (by omega), if_neg (by omega), if_neg (by omega), if_neg (by omega), if_pos (by omega)]
  refine pc_if (fun c => pc_ret ?_) (fun c9 => ?_)
  · show (50 : Int) = ps_T a
    unfold ps_T; rw [if_neg (by omega), if_neg (by omega), if_neg (by omega), if_neg (by omega), if_neg (by omega), if_neg (by omega), if_neg (by omega), if_neg (by omega), if_neg (by omega), if_pos (by omega)]
  refine pc_if (fun c => pc_ret ?_) (fun c10 => ?_)
  · show (46 : Int) = ps_T a
    unfold ps_T; rw [if_neg (by omega), if_neg (by omega), if_neg (by omega), if_neg (by omega), if_neg (by omega), if_neg (by omega), if_neg (by omega), if_neg (by omega), if_neg (by omega), if_neg (by omega), if_pos (by omega)]
  refine pc_if (fun c => pc_ret ?_) (fun c11 => ?_)
  · show (49 : Int) = ps_T a
    unfold ps_T; rw [if_neg (by omega), if_neg (by omega), if_neg (by omega), if_neg (by omega), if_neg (by omega), if_neg (by omega), if_neg (by omega), if_neg (by omega), if_neg (by omega), if_neg (by omega), if_neg (by omega), if_pos (by omega)]
  refine pc_if (fun c => pc_ret ?_) (fun c12 => ?_)
  · show (44 : Int) = ps_T a
    unfold ps_T; rw [if_neg (by omega), if_neg (by omega), if_neg (by omega), if_neg (by omega), if_neg (by omega), if_neg (by omega), if_neg (by omega), if_neg (by omega), if_neg (by omega), if_neg (by omega), if_neg (by omega), if_neg (by omega), if_pos (by omega)]
  refine pc_if (fun c => pc_ret ?_) (fun c13 => ?_)
  · show (45 : Int) = ps_T a
    unfold ps_T; rw [if_neg (by omega), if_neg (by omega), if_neg (by omega), if_neg (by omega), if_neg (by omega), if_neg (by omega), if_neg (by omega), if_neg (by omega), if_neg (by omega), if_neg (by omega), if_neg (by omega), if_neg (by omega), if_neg (by omega), if_pos (by omega)]
  refine pc_if (fun c => pc_ret ?_) (fun c14 => ?_)
  · show (70 : Int) = ps_T a
    unfold ps_T; rw [if_neg (by omega), if_neg (by omega), if_neg (by omega), if_neg (by omega), if_neg (by omega), if_neg (by omega), if_neg (by omega), if_neg (by omega), if_neg (by omega), if_neg (by omega), if_neg (by omega), if_neg (by omega), if_neg (by omega), if_neg (by omega), if_pos (by omega)]
  refine pc_if (fun c => pc_ret ?_) (fun c15 => ?_)
  · show (42 : Int) = ps_T a
    unfold ps_T; rw [if_neg (by omega), if_neg (by omega), if_neg (by omega), if_neg (by omega), if_neg (by omega), if_neg (by omega), if_neg (by omega), if_neg (by omega), if_neg (by omega), if_neg (by omega), if_neg (by omega), if_neg (by omega), if_neg (by omega), if_neg (by omega), if_neg (by omega), if_pos (by omega)]
  refine pc_if (fun c => pc_ret ?_) (fun c16 => ?_)
  · show (43 : Int) = ps_T a
    unfold ps_T; rw [if_neg (by omega), if_neg (by omega), if_neg (by omega), if_neg (by omega), if_neg (by omega), if_neg (by omega), if_neg (by omega), if_neg (by omega), if_neg (by omega), if_neg (by omega), if_neg (by omega), if_neg (by omega), if_neg (by omega), if_neg (by omega), if_neg (by omega), if_neg (by omega), if_pos (by omega)]
  refine pc_if (fun c => pc_ret ?_) (fun c17 => ?_)
  · show (72 : Int) = ps_T a
    unfold ps_T; rw [if_neg (by omega), if_neg (by omega), if_neg (by omega), if_neg (by omega), if_neg (by omega), if_neg (by omega), if_neg (by omega), if_neg (by omega), if_neg (by omega), if_neg (by omega), if_neg (by omega), if_neg (by omega), if_neg (by omega), if_neg (by omega), if_neg (by omega), if_neg (by omega), if_neg (by omega), if_pos (by omega)]
  refine pc_ret ?_
  show (0 : Int) = ps_T a
  unfold ps_T; rw [if_neg (by omega), if_neg (by omega), if_neg (by omega), if_neg (by omega), if_neg (by omega), if_neg (by omega), if_neg (by omega), if_neg (by omega), if_neg (by omega), if_neg (by omega), if_neg (by omega), if_neg (by omega), if_neg (by omega), if_neg (by omega), if_neg (by omega), if_neg (by omega), if_neg (by omega), if_neg (by omega)]
theorem so_c {v a w d : Int} (hv : (0 ≤ v ∧ v = a) ∨ (v < 0 ∧ 128 ≤ a)) (hw : (0 ≤ w ∧ w = d) ∨ (w < 0 ∧ 128 ≤ d)) : Pc (qf_X9_signOf nn v w h) (fun u => u = so_T a d) := by
  unfold qf_X9_signOf so_T
  refine pc_if (fun c => ?_) (fun c0 => ?_)
  · rw [if_pos (show a = 33 by omega)]
    refine pc_if (fun b => pc_ret ?_) (fun b => pc_ret ?_)
    · rw [if_neg (show ¬ d = 61 by omega)]
    · rw [if_pos (show d = 61 by omega)]
  rw [if_neg (show ¬ a = 33 by omega)]
  refine pc_if (fun c => ?_) (fun c1 => ?_)
  · rw [if_pos (show a = 38 by omega)]
    refine pc_if (fun b => pc_ret ?_) (fun b => pc_ret ?_)
    · rw [if_neg (show ¬ d = 38 by omega)]
    · rw [if_pos (show d = 38 by omega)]
  rw [if_neg (show ¬ a = 38 by omega)]
  refine pc_if (fun c => ?_) (fun c2 => ?_)
  · rw [if_pos (show a = 60 by omega)]
    refine pc_if (fun b => pc_if (fun b2 => pc_ret ?_) (fun b2 => pc_ret ?_)) (fun b => pc_ret ?_)
    · rw [if_neg (show ¬ d = 61 by omega), if_neg (show ¬ d = 60 by omega)]
    · rw [if_neg (show ¬ d = 61 by omega), if_pos (show d = 60 by omega)]
    · rw [if_pos (show d = 61 by omega)]
  rw [if_neg (show ¬ a = 60 by omega)]
  refine pc_if (fun c => ?_) (fun c3 => ?_)
  · rw [if_pos (show a = 61 by omega)]
    refine pc_if (fun b => pc_ret ?_) (fun b => pc_ret ?_)
    · rw [if_neg (show ¬ d = 61 by omega)]
    · rw [if_pos (show d = 61 by omega)]
  rw [if_neg (show ¬ a = 61 by omega)]
  refine pc_if (fun c => ?_) (fun c4 => ?_)
  · rw [if_pos (show a = 62 by omega)]
    refine pc_if (fun b => pc_if (fun b2 => pc_ret ?_) (fun b2 => pc_ret ?_)) (fun b => pc_ret ?_)
    · rw [if_neg (show ¬ d = 61 by omega), if_neg (show ¬ d = 62 by omega)]
    · rw [if_neg (show ¬ d = 61 by omega), if_pos (show d = 62 by omega)]
    · rw [if_pos (show d = 61 by omega)]
  rw [if_neg (show ¬ a = 62 by omega)]
  refine pc_if (fun c => ?_) (fun c5 => ?_)
  · rw [if_pos (show a = 124 by omega)]
    refine pc_if (fun b => pc_ret ?_) (fun b => pc_ret ?_)
    · rw [if_neg (show ¬ d = 124 by omega)]
    · rw [if_pos (show d = 124 by omega)]
  rw [if_neg (show ¬ a = 124 by omega)]
  refine pc_sv (ps_c hv) ?_; intro u1 q1
  exact pc_ret q1
theorem sl_c {k : Int} : Pc (qf_X9_signLength nn k h) (fun u => u = sl_T k) := by
  unfold qf_X9_signLength qj_X9_signLength_96 sl_T
  refine pc_if (fun c => pc_ret (by rw [if_pos c])) (fun c => ?_)
  rw [if_neg c]
  refine pc_if (fun c => pc_ret (by rw [if_pos c])) (fun c => ?_)
  rw [if_neg c]
  refine pc_if (fun c => pc_ret (by rw [if_pos c])) (fun c => ?_)
  rw [if_neg c]
  refine pc_if (fun c => pc_ret (by rw [if_pos c])) (fun c => ?_)
  rw [if_neg c]
  refine pc_if (fun c => pc_ret (by rw [if_pos c])) (fun c => ?_)
  rw [if_neg c]
  refine pc_if (fun c => pc_ret (by rw [if_pos c])) (fun c => ?_)
  rw [if_neg c]
  refine pc_if (fun c => pc_ret (by rw [if_pos c])) (fun c => ?_)
  rw [if_neg c]
  refine pc_if (fun c => pc_ret (by rw [if_pos c])) (fun c => ?_)
  rw [if_neg c]
  refine pc_if (fun c => pc_ret (by rw [if_pos c])) (fun c => ?_)
  rw [if_neg c]
  refine pc_if (fun c => pc_ret (by rw [if_pos c])) (fun c => ?_)
  rw [if_neg c]
  exact pc_ret rfl
theorem sg_37 {a d e : Int} (c : a = 37) : sg_T a d e = 65 := by
  unfold sg_T so_T ps_T
  rw [if_neg (fun z => absurd z.1 (by omega)), if_neg (show ¬ a = 33 by omega), if_neg (show ¬ a = 38 by omega), if_neg (show ¬ a = 60 by omega), if_neg (show ¬ a = 61 by omega), if_neg (show ¬ a = 62 by omega), if_neg (show ¬ a = 124 by omega), if_pos (show a = 37 by omega)]
theorem sg_40 {a d e : Int} (c : a = 40) : sg_T a d e = 40 := by
  unfold sg_T so_T ps_T
  rw [if_neg (fun z => absurd z.1 (by omega)), if_neg (show ¬ a = 33 by omega), if_neg (show ¬ a = 38 by omega), if_neg (show ¬ a = 60 by omega), if_neg (show ¬ a = 61 by omega), if_neg (show ¬ a = 62 by omega), if_neg (show ¬ a = 124 by omega), if_neg (show ¬ a = 37 by omega), if_pos (show a = 40 by omega)]
theorem sg_41 {a d e : Int} (c : a = 41) : sg_T a d e = 41 := by
  unfold sg_T so_T ps_T
  rw [if_neg (fun z => absurd z.1 (by omega)), if_neg (show ¬ a = 33 by omega), if_neg (show ¬ a = 38 by omega), if_neg (show ¬ a = 60 by omega), if_neg (show ¬ a = 61 by omega), if_neg (show ¬ a = 62 by omega), if_neg (show ¬ a = 124 by omega), if_neg (show ¬ a = 37 by omega), if_neg (show ¬ a = 40 by omega), if_pos (show a = 41 by omega)]
theorem sg_42 {a d e : Int} (c : a = 42) : sg_T a d e = 63 := by
  unfold sg_T so_T ps_T
  rw [if_neg (fun z => absurd z.1 (by omega)), if_neg (show ¬ a = 33 by omega), if_neg (show ¬ a = 38 by omega), if_neg (show ¬ a = 60 by omega), if_neg (show ¬ a = 61 by omega), if_neg (show ¬ a = 62 by omega), if_neg (show ¬ a = 124 by omega), if_neg (show ¬ a = 37 by omega), if_neg (show ¬ a = 40 by omega), if_neg (show ¬ a = 41 by omega), if_pos (show a = 42 by omega)]
theorem sg_43 {a d e : Int} (c : a = 43) : sg_T a d e = 61 := by
  unfold sg_T so_T ps_T
  rw [if_neg (fun z => absurd z.1 (by omega)), if_neg (show ¬ a = 33 by omega), if_neg (show ¬ a = 38 by omega), if_neg (show ¬ a = 60 by omega), if_neg (show ¬ a = 61 by omega), if_neg (show ¬ a = 62 by omega), if_neg (show ¬ a = 124 by omega), if_neg (show ¬ a = 37 by omega), if_neg (show ¬ a = 40 by omega), if_neg (show ¬ a = 41 by omega), if_neg (show ¬ a = 42 by omega), if_pos (show a = 43 by omega)]
theorem sg_44 {a d e : Int} (c : a = 44) : sg_T a d e = 47 := by
  unfold sg_T so_T ps_T
  rw [if_neg (fun z => absurd z.1 (by omega)), if_neg (show ¬ a = 33 by omega), if_neg (show ¬ a = 38 by omega), if_neg (show ¬ a = 60 by omega), if_neg (show ¬ a = 61 by omega), if_neg (show ¬ a = 62 by omega), if_neg (show ¬ a = 124 by omega), if_neg (show ¬ a = 37 by omega), if_neg (show ¬ a = 40 by omega), if_neg (show ¬ a = 41 by omega), if_neg (show ¬ a = 42 by omega), if_neg (show ¬ a = 43 by omega), if_pos (show a = 44 by omega)]
theorem sg_45 {a d e : Int} (c : a = 45) : sg_T a d e = 62 := by
  unfold sg_T so_T ps_T
  rw [if_neg (fun z => absurd z.1 (by omega)), if_neg (show ¬ a = 33 by omega), if_neg (show ¬ a = 38 by omega), if_neg (show ¬ a = 60 by omega), if_neg (show ¬ a = 61 by omega), if_neg (show ¬ a = 62 by omega), if_neg (show ¬ a = 124 by omega), if_neg (show ¬ a = 37 by omega), if_neg (show ¬ a = 40 by omega), if_neg (show ¬ a = 41 by omega), if_neg (show ¬ a = 42 by omega), if_neg (show ¬ a = 43 by omega), if_neg (show ¬ a = 44 by omega), if_pos (show a = 45 by omega)]
theorem sg_46 {a d e : Int} (c : a = 46) : sg_T a d e = 48 := by
  unfold sg_T so_T ps_T
  rw [if_neg (fun z => absurd z.1 (by omega)), if_neg (show ¬ a = 33 by omega), if_neg (show ¬ a = 38 by omega), if_neg (show ¬ a = 60 by omega), if_neg (show ¬ a = 61 by omega), if_neg (show ¬ a = 62 by omega), if_neg (show ¬ a = 124 by omega), if_neg (show ¬ a = 37 by omega), if_neg (show ¬ a = 40 by omega), if_neg (show ¬ a = 41 by omega), if_neg (show ¬ a = 42 by omega), if_neg (show ¬ a = 43 by omega), if_neg (show ¬ a = 44 by omega), if_neg (show ¬ a = 45 by omega), if_pos (show a = 46 by omega)]
theorem sg_47 {a d e : Int} (c : a = 47) : sg_T a d e = 64 := by
  unfold sg_T so_T ps_T
  rw [if_neg (fun z => absurd z.1 (by omega)), if_neg (show ¬ a = 33 by omega), if_neg (show ¬ a = 38 by omega), if_neg (show ¬ a = 60 by omega), if_neg (show ¬ a = 61 by omega), if_neg (show ¬ a = 62 by omega), if_neg (show ¬ a = 124 by omega), if_neg (show ¬ a = 37 by omega), if_neg (show ¬ a = 40 by omega), if_neg (show ¬ a = 41 by omega), if_neg (show ¬ a = 42 by omega), if_neg (show ¬ a = 43 by omega), if_neg (show ¬ a = 44 by omega), if_neg (show ¬ a = 45 by omega), if_neg (show ¬ a = 46 by omega), if_pos (show a = 47 by omega)]
theorem sg_58 {a d e : Int} (c : a = 58) : sg_T a d e = 50 := by
  unfold sg_T so_T ps_T
  rw [if_neg (fun z => absurd z.1 (by omega)), if_neg (show ¬ a = 33 by omega), if_neg (show ¬ a = 38 by omega), if_neg (show ¬ a = 60 by omega), if_neg (show ¬ a = 61 by omega), if_neg (show ¬ a = 62 by omega), if_neg (show ¬ a = 124 by omega), if_neg (show ¬ a = 37 by omega), if_neg (show ¬ a = 40 by omega), if_neg (show ¬ a = 41 by omega), if_neg (show ¬ a = 42 by omega), if_neg (show ¬ a = 43 by omega), if_neg (show ¬ a = 44 by omega), if_neg (show ¬ a = 45 by omega), if_neg (show ¬ a = 46 by omega), if_neg (show ¬ a = 47 by omega), if_pos (show a = 58 by omega)]
theorem sg_59 {a d e : Int} (c : a = 59) : sg_T a d e = 46 := by
  unfold sg_T so_T ps_T
  rw [if_neg (fun z => absurd z.1 (by omega)), if_neg (show ¬ a = 33 by omega), if_neg (show ¬ a = 38 by omega), if_neg (show ¬ a = 60 by omega), if_neg (show ¬ a = 61 by omega), if_neg (show ¬ a = 62 by omega), if_neg (show ¬ a = 124 by omega), if_neg (show ¬ a = 37 by omega), if_neg (show ¬ a = 40 by omega), if_neg (show ¬ a = 41 by omega), if_neg (show ¬ a = 42 by omega), if_neg (show ¬ a = 43 by omega), if_neg (show ¬ a = 44 by omega), if_neg (show ¬ a = 45 by omega), if_neg (show ¬ a = 46 by omega), if_neg (show ¬ a = 47 by omega), if_neg (show ¬ a = 58 by omega), if_pos (show a = 59 by omega)]
theorem sg_63 {a d e : Int} (c : a = 63) : sg_T a d e = 49 := by
  unfold sg_T so_T ps_T
  rw [if_neg (fun z => absurd z.1 (by omega)), if_neg (show ¬ a = 33 by omega), if_neg (show ¬ a = 38 by omega), if_neg (show ¬ a = 60 by omega), if_neg (show ¬ a = 61 by omega), if_neg (show ¬ a = 62 by omega), if_neg (show ¬ a = 124 by omega), if_neg (show ¬ a = 37 by omega), if_neg (show ¬ a = 40 by omega), if_neg (show ¬ a = 41 by omega), if_neg (show ¬ a = 42 by omega), if_neg (show ¬ a = 43 by omega), if_neg (show ¬ a = 44 by omega), if_neg (show ¬ a = 45 by omega), if_neg (show ¬ a = 46 by omega), if_neg (show ¬ a = 47 by omega), if_neg (show ¬ a = 58 by omega), if_neg (show ¬ a = 59 by omega), if_pos (show a = 63 by omega)]
theorem sg_91 {a d e : Int} (c : a = 91) : sg_T a d e = 44 := by
  unfold sg_T so_T ps_T
  rw [if_neg (fun z => absurd z.1 (by omega)), if_neg (show ¬ a = 33 by omega), if_neg (show ¬ a = 38 by omega), if_neg (show ¬ a = 60 by omega), if_neg (show ¬ a = 61 by omega), if_neg (show ¬ a = 62 by omega), if_neg (show ¬ a = 124 by omega), if_neg (show ¬ a = 37 by omega), if_neg (show ¬ a = 40 by omega), if_neg (show ¬ a = 41 by omega), if_neg (show ¬ a = 42 by omega), if_neg (show ¬ a = 43 by omega), if_neg (show ¬ a = 44 by omega), if_neg (show ¬ a = 45 by omega), if_neg (show ¬ a = 46 by omega), if_neg (show ¬ a = 47 by omega), if_neg (show ¬ a = 58 by omega), if_neg (show ¬ a = 59 by omega), if_neg (show ¬ a = 63 by omega), if_pos (show a = 91 by omega)]
theorem sg_93 {a d e : Int} (c : a = 93) : sg_T a d e = 45 := by
  unfold sg_T so_T ps_T
  rw [if_neg (fun z => absurd z.1 (by omega)), if_neg (show ¬ a = 33 by omega), if_neg (show ¬ a = 38 by omega), if_neg (show ¬ a = 60 by omega), if_neg (show ¬ a = 61 by omega), if_neg (show ¬ a = 62 by omega), if_neg (show ¬ a = 124 by omega), if_neg (show ¬ a = 37 by omega), if_neg (show ¬ a = 40 by omega), if_neg (show ¬ a = 41 by omega), if_neg (show ¬ a = 42 by omega), if_neg (show ¬ a = 43 by omega), if_neg (show ¬ a = 44 by omega), if_neg (show ¬ a = 45 by omega), if_neg (show ¬ a = 46 by omega), if_neg (show ¬ a = 47 by omega), if_neg (show ¬ a = 58 by omega), if_neg (show ¬ a = 59 by omega), if_neg (show ¬ a = 63 by omega), if_neg (show ¬ a = 91 by omega), if_pos (show a = 93 by omega)]
theorem sg_94 {a d e : Int} (c : a = 94) : sg_T a d e = 70 := by
  unfold sg_T so_T ps_T
  rw [if_neg (fun z => absurd z.1 (by omega)), if_neg (show ¬ a = 33 by omega), if_neg (show ¬ a = 38 by omega), if_neg (show ¬ a = 60 by omega), if_neg (show ¬ a = 61 by omega), if_neg (show ¬ a = 62 by omega), if_neg (show ¬ a = 124 by omega), if_neg (show ¬ a = 37 by omega), if_neg (show ¬ a = 40 by omega), if_neg (show ¬ a = 41 by omega), if_neg (show ¬ a = 42 by omega), if_neg (show ¬ a = 43 by omega), if_neg (show ¬ a = 44 by omega), if_neg (show ¬ a = 45 by omega), if_neg (show ¬ a = 46 by omega), if_neg (show ¬ a = 47 by omega), if_neg (show ¬ a = 58 by omega), if_neg (show ¬ a = 59 by omega), if_neg (show ¬ a = 63 by omega), if_neg (show ¬ a = 91 by omega), if_neg (show ¬ a = 93 by omega), if_pos (show a = 94 by omega)]
theorem sg_123 {a d e : Int} (c : a = 123) : sg_T a d e = 42 := by
  unfold sg_T so_T ps_T
  rw [if_neg (fun z => absurd z.1 (by omega)), if_neg (show ¬ a = 33 by omega), if_neg (show ¬ a = 38 by omega), if_neg (show ¬ a = 60 by omega), if_neg (show ¬ a = 61 by omega), if_neg (show ¬ a = 62 by omega), if_neg (show ¬ a = 124 by omega), if_neg (show ¬ a = 37 by omega), if_neg (show ¬ a = 40 by omega), if_neg (show ¬ a = 41 by omega), if_neg (show ¬ a = 42 by omega), if_neg (show ¬ a = 43 by omega), if_neg (show ¬ a = 44 by omega), if_neg (show ¬ a = 45 by omega), if_neg (show ¬ a = 46 by omega), if_neg (show ¬ a = 47 by omega), if_neg (show ¬ a = 58 by omega), if_neg (show ¬ a = 59 by omega), if_neg (show ¬ a = 63 by omega), if_neg (show ¬ a = 91 by omega), if_neg (show ¬ a = 93 by omega), if_neg (show ¬ a = 94 by omega), if_pos (show a = 123 by omega)]
theorem sg_125 {a d e : Int} (c : a = 125) : sg_T a d e = 43 := by
  unfold sg_T so_T ps_T
  rw [if_neg (fun z => absurd z.1 (by omega)), if_neg (show ¬ a = 33 by omega), if_neg (show ¬ a = 38 by omega), if_neg (show ¬ a = 60 by omega), if_neg (show ¬ a = 61 by omega), if_neg (show ¬ a = 62 by omega), if_neg (show ¬ a = 124 by omega), if_neg (show ¬ a = 37 by omega), if_neg (show ¬ a = 40 by omega), if_neg (show ¬ a = 41 by omega), if_neg (show ¬ a = 42 by omega), if_neg (show ¬ a = 43 by omega), if_neg (show ¬ a = 44 by omega), if_neg (show ¬ a = 45 by omega), if_neg (show ¬ a = 46 by omega), if_neg (show ¬ a = 47 by omega), if_neg (show ¬ a = 58 by omega), if_neg (show ¬ a = 59 by omega), if_neg (show ¬ a = 63 by omega), if_neg (show ¬ a = 91 by omega), if_neg (show ¬ a = 93 by omega), if_neg (show ¬ a = 94 by omega), if_neg (show ¬ a = 123 by omega), if_pos (show a = 125 by omega)]
theorem sg_126 {a d e : Int} (c : a = 126) : sg_T a d e = 72 := by
  unfold sg_T so_T ps_T
  rw [if_neg (fun z => absurd z.1 (by omega)), if_neg (show ¬ a = 33 by omega), if_neg (show ¬ a = 38 by omega), if_neg (show ¬ a = 60 by omega), if_neg (show ¬ a = 61 by omega), if_neg (show ¬ a = 62 by omega), if_neg (show ¬ a = 124 by omega), if_neg (show ¬ a = 37 by omega), if_neg (show ¬ a = 40 by omega), if_neg (show ¬ a = 41 by omega), if_neg (show ¬ a = 42 by omega), if_neg (show ¬ a = 43 by omega), if_neg (show ¬ a = 44 by omega), if_neg (show ¬ a = 45 by omega), if_neg (show ¬ a = 46 by omega), if_neg (show ¬ a = 47 by omega), if_neg (show ¬ a = 58 by omega), if_neg (show ¬ a = 59 by omega), if_neg (show ¬ a = 63 by omega), if_neg (show ¬ a = 91 by omega), if_neg (show ¬ a = 93 by omega), if_neg (show ¬ a = 94 by omega), if_neg (show ¬ a = 123 by omega), if_neg (show ¬ a = 125 by omega), if_pos (show a = 126 by omega)]
theorem sg_33_0 {a d e : Int} (c : a = 33) (b : d = 61) : sg_T a d e = 53 := by
  unfold sg_T so_T
  rw [if_neg (fun z => absurd z.1 (by omega)), if_pos (show a = 33 by omega), if_pos b]
theorem sg_33_1 {a d e : Int} (c : a = 33) (b : ¬ d = 61) : sg_T a d e = 71 := by
  unfold sg_T so_T
  rw [if_neg (fun z => absurd z.1 (by omega)), if_pos (show a = 33 by omega), if_neg b]
theorem sg_38_0 {a d e : Int} (c : a = 38) (b : d = 38) : sg_T a d e = 67 := by
  unfold sg_T so_T
  rw [if_neg (fun z => absurd z.1 (by omega)), if_neg (show ¬ a = 33 by omega), if_pos (show a = 38 by omega), if_pos b]
theorem sg_38_1 {a d e : Int} (c : a = 38) (b : ¬ d = 38) : sg_T a d e = 66 := by
  unfold sg_T so_T
  rw [if_neg (fun z => absurd z.1 (by omega)), if_neg (show ¬ a = 33 by omega), if_pos (show a = 38 by omega), if_neg b]
theorem sg_60_0 {a d e : Int} (c : a = 60) (b : d = 61) : sg_T a d e = 55 := by
  unfold sg_T so_T
  rw [if_neg (fun z => absurd z.1 (by omega)), if_neg (show ¬ a = 33 by omega), if_neg (show ¬ a = 38 by omega), if_pos (show a = 60 by omega), if_pos b]
theorem sg_60_1 {a d e : Int} (c : a = 60) (b : d = 60) : sg_T a d e = 58 := by
  unfold sg_T so_T
  rw [if_neg (fun z => absurd z.1 (by omega)), if_neg (show ¬ a = 33 by omega), if_neg (show ¬ a = 38 by omega), if_pos (show a = 60 by omega), if_neg (show ¬ d = 61 by omega), if_pos b]
theorem sg_60_2 {a d e : Int} (c : a = 60) (b : ¬ d = 61 ∧ ¬ d = 60) : sg_T a d e = 54 := by
  unfold sg_T so_T
  rw [if_neg (fun z => absurd z.1 (by omega)), if_neg (show ¬ a = 33 by omega), if_neg (show ¬ a = 38 by omega), if_pos (show a = 60 by omega), if_neg b.1, if_neg b.2]
theorem sg_61_0 {a d e : Int} (c : a = 61) (b : d = 61) : sg_T a d e = 52 := by
  unfold sg_T so_T
  rw [if_neg (fun z => absurd z.1 (by omega)), if_neg (show ¬ a = 33 by omega), if_neg (show ¬ a = 38 by omega), if_neg (show ¬ a = 60 by omega), if_pos (show a = 61 by omega), if_pos b]
theorem sg_61_1 {a d e : Int} (c : a = 61) (b : ¬ d = 61) : sg_T a d e = 51 := by
  unfold sg_T so_T
  rw [if_neg (fun z => absurd z.1 (by omega)), if_neg (show ¬ a = 33 by omega), if_neg (show ¬ a = 38 by omega), if_neg (show ¬ a = 60 by omega), if_pos (show a = 61 by omega), if_neg b]
theorem sg_124_0 {a d e : Int} (c : a = 124) (b : d = 124) : sg_T a d e = 69 := by
  unfold sg_T so_T
  rw [if_neg (fun z => absurd z.1 (by omega)), if_neg (show ¬ a = 33 by omega), if_neg (show ¬ a = 38 by omega), if_neg (show ¬ a = 60 by omega), if_neg (show ¬ a = 61 by omega), if_neg (show ¬ a = 62 by omega), if_pos (show a = 124 by omega), if_pos b]
theorem sg_124_1 {a d e : Int} (c : a = 124) (b : ¬ d = 124) : sg_T a d e = 68 := by
  unfold sg_T so_T
  rw [if_neg (fun z => absurd z.1 (by omega)), if_neg (show ¬ a = 33 by omega), if_neg (show ¬ a = 38 by omega), if_neg (show ¬ a = 60 by omega), if_neg (show ¬ a = 61 by omega), if_neg (show ¬ a = 62 by omega), if_pos (show a = 124 by omega), if_neg b]
theorem sg_62_0 {a d e : Int} (c : a = 62) (b : d = 61) : sg_T a d e = 57 := by
  unfold sg_T so_T
  rw [if_neg (show ¬ (a = 62 ∧ d = 62 ∧ e = 62) by omega), if_neg (show ¬ a = 33 by omega), if_neg (show ¬ a = 38 by omega), if_neg (show ¬ a = 60 by omega), if_neg (show ¬ a = 61 by omega), if_pos (show a = 62 by omega), if_pos b]
theorem sg_62_1 {a d e : Int} (c : a = 62) (b : d = 62 ∧ e = 62) : sg_T a d e = 60 := by
  unfold sg_T so_T
  rw [if_pos ⟨c, b.1, b.2⟩]
theorem sg_62_2 {a d e : Int} (c : a = 62) (b : d = 62 ∧ ¬ e = 62) : sg_T a d e = 59 := by
  unfold sg_T so_T
  rw [if_neg (show ¬ (a = 62 ∧ d = 62 ∧ e = 62) by omega), if_neg (show ¬ a = 33 by omega), if_neg (show ¬ a = 38 by omega), if_neg (show ¬ a = 60 by omega), if_neg (show ¬ a = 61 by omega), if_pos (show a = 62 by omega), if_neg (show ¬ d = 61 by omega), if_pos b.1]
theorem sg_62_3 {a d e : Int} (c : a = 62) (b : ¬ d = 61 ∧ ¬ d = 62) : sg_T a d e = 56 := by
  unfold sg_T so_T
  rw [if_neg (show ¬ (a = 62 ∧ d = 62 ∧ e = 62) by omega), if_neg (show ¬ a = 33 by omega), if_neg (show ¬ a = 38 by omega), if_neg (show ¬ a = 60 by omega), if_neg (show ¬ a = 61 by omega), if_pos (show a = 62 by omega), if_neg b.1, if_neg b.2]
theorem sg_no {a d e : Int} (c : ¬ a = 33 ∧ ¬ a = 37 ∧ ¬ a = 38 ∧ ¬ a = 40 ∧ ¬ a = 41 ∧ ¬ a = 42 ∧ ¬ a = 43 ∧ ¬ a = 44 ∧ ¬ a = 45 ∧ ¬ a = 46 ∧ ¬ a = 47 ∧ ¬ a = 58 ∧ ¬ a = 59 ∧ ¬ a = 60 ∧ ¬ a = 61 ∧ ¬ a = 62 ∧ ¬ a = 63 ∧ ¬ a = 91 ∧ ¬ a = 93 ∧ ¬ a = 94 ∧ ¬ a = 123 ∧ ¬ a = 124 ∧ ¬ a = 125 ∧ ¬ a = 126) : sg_T a d e = 0 := by
  unfold sg_T so_T ps_T
  rw [if_neg (fun z => absurd z.1 (by omega)), if_neg (show ¬ a = 33 by omega), if_neg (show ¬ a = 38 by omega), if_neg (show ¬ a = 60 by omega), if_neg (show ¬ a = 61 by omega), if_neg (show ¬ a = 62 by omega), if_neg (show ¬ a = 124 by omega), if_neg (show ¬ a = 37 by omega), if_neg (show ¬ a = 40 by omega), if_neg (show ¬ a = 41 by omega), if_neg (show ¬ a = 42 by omega), if_neg (show ¬ a = 43 by omega), if_neg (show ¬ a = 44 by omega), if_neg (show ¬ a = 45 by omega), if_neg (show ¬ a = 46 by omega), if_neg (show ¬ a = 47 by omega), if_neg (show ¬ a = 58 by omega), if_neg (show ¬ a = 59 by omega), if_neg (show ¬ a = 63 by omega), if_neg (show ¬ a = 91 by omega), if_neg (show ¬ a = 93 by omega), if_neg (show ¬ a = 94 by omega), if_neg (show ¬ a = 123 by omega), if_neg (show ¬ a = 125 by omega), if_neg (show ¬ a = 126 by omega)]
/-- a sign's width and value -/
def SWg (a d e k w v : Int) : Prop := k = sg_T a d e ∧ w = sl_T k ∧ (w = 0 ∨ (w = 1 ∧ v = a) ∨ (w = 2 ∧ v = 128 * a + d) ∨ (w = 3 ∧ v = 128 * (128 * a + d) + e)) ∧ (k = 0 ↔ w = 0) ∧ (¬ k = 0 → v = sv_T k ∧ 40 ≤ k ∧ k ≤ 72)
theorem sw_all (a d e : Int) : ∃ v, SWg a d e (sg_T a d e) (sl_T (sg_T a d e)) v := by
  by_cases c0 : a = 37
  · refine ⟨a, rfl, rfl, ?_⟩
    have q := sg_37 (d := d) (e := e) c0
    rw [q]
    refine ⟨.inr (.inl ⟨by decide, rfl⟩), ⟨fun z => absurd z (by decide), fun z => absurd z (by decide)⟩, fun _ => ⟨?_, by decide, by decide⟩⟩
    show _ = sv_T 65
    rw [show sv_T 65 = 37 by decide]; omega
  by_cases c1 : a = 40
  · refine ⟨a, rfl, rfl, ?_⟩
    have q := sg_40 (d := d) (e := e) c1
    rw [q]
    refine ⟨.inr (.inl ⟨by decide, rfl⟩), ⟨fun z => absurd z (by decide), fun z => absurd z (by decide)⟩, fun _ => ⟨?_, by decide, by decide⟩⟩
    show _ = sv_T 40
    rw [show sv_T 40 = 40 by decide]; omega
  by_cases c2 : a = 41
  · refine ⟨a, rfl, rfl, ?_⟩
    have q := sg_41 (d := d) (e := e) c2
    rw [q]
    refine ⟨.inr (.inl ⟨by decide, rfl⟩), ⟨fun z => absurd z (by decide), fun z => absurd z (by decide)⟩, fun _ => ⟨?_, by decide, by decide⟩⟩
    show _ = sv_T 41
    rw [show sv_T 41 = 41 by decide]; omega
  by_cases c3 : a = 42
  · refine ⟨a, rfl, rfl, ?_⟩
    have q := sg_42 (d := d) (e := e) c3
    rw [q]
    refine ⟨.inr (.inl ⟨by decide, rfl⟩), ⟨fun z => absurd z (by decide), fun z => absurd z (by decide)⟩, fun _ => ⟨?_, by decide, by decide⟩⟩
    show _ = sv_T 63
    rw [show sv_T 63 = 42 by decide]; omega
  by_cases c4 : a = 43
  · refine ⟨a, rfl, rfl, ?_⟩
    have q := sg_43 (d := d) (e := e) c4
    rw [q]
    refine ⟨.inr (.inl ⟨by decide, rfl⟩), ⟨fun z => absurd z (by decide), fun z => absurd z (by decide)⟩, fun _ => ⟨?_, by decide, by decide⟩⟩
    show _ = sv_T 61
    rw [show sv_T 61 = 43 by decide]; omega
  by_cases c5 : a = 44
  · refine ⟨a, rfl, rfl, ?_⟩
    have q := sg_44 (d := d) (e := e) c5
    rw [q]
    refine ⟨.inr (.inl ⟨by decide, rfl⟩), ⟨fun z => absurd z (by decide), fun z => absurd z (by decide)⟩, fun _ => ⟨?_, by decide, by decide⟩⟩
    show _ = sv_T 47
    rw [show sv_T 47 = 44 by decide]; omega
  by_cases c6 : a = 45
  · refine ⟨a, rfl, rfl, ?_⟩
    have q := sg_45 (d := d) (e := e) c6
    rw [q]
    refine ⟨.inr (.inl ⟨by decide, rfl⟩), ⟨fun z => absurd z (by decide), fun z => absurd z (by decide)⟩, fun _ => ⟨?_, by decide, by decide⟩⟩
    show _ = sv_T 62
    rw [show sv_T 62 = 45 by decide]; omega
  by_cases c7 : a = 46
  · refine ⟨a, rfl, rfl, ?_⟩
    have q := sg_46 (d := d) (e := e) c7
    rw [q]
    refine ⟨.inr (.inl ⟨by decide, rfl⟩), ⟨fun z => absurd z (by decide), fun z => absurd z (by decide)⟩, fun _ => ⟨?_, by decide, by decide⟩⟩
    show _ = sv_T 48
    rw [show sv_T 48 = 46 by decide]; omega
  by_cases c8 : a = 47
  · refine ⟨a, rfl, rfl, ?_⟩
    have q := sg_47 (d := d) (e := e) c8
    rw [q]
    refine ⟨.inr (.inl ⟨by decide, rfl⟩), ⟨fun z => absurd z (by decide), fun z => absurd z (by decide)⟩, fun _ => ⟨?_, by decide, by decide⟩⟩
    show _ = sv_T 64
    rw [show sv_T 64 = 47 by decide]; omega
  by_cases c9 : a = 58
  · refine ⟨a, rfl, rfl, ?_⟩
    have q := sg_58 (d := d) (e := e) c9
    rw [q]
    refine ⟨.inr (.inl ⟨by decide, rfl⟩), ⟨fun z => absurd z (by decide), fun z => absurd z (by decide)⟩, fun _ => ⟨?_, by decide, by decide⟩⟩
    show _ = sv_T 50
    rw [show sv_T 50 = 58 by decide]; omega
  by_cases c10 : a = 59
  · refine ⟨a, rfl, rfl, ?_⟩
    have q := sg_59 (d := d) (e := e) c10
    rw [q]
    refine ⟨.inr (.inl ⟨by decide, rfl⟩), ⟨fun z => absurd z (by decide), fun z => absurd z (by decide)⟩, fun _ => ⟨?_, by decide, by decide⟩⟩
    show _ = sv_T 46
    rw [show sv_T 46 = 59 by decide]; omega
  by_cases c11 : a = 63
  · refine ⟨a, rfl, rfl, ?_⟩
    have q := sg_63 (d := d) (e := e) c11
    rw [q]
    refine ⟨.inr (.inl ⟨by decide, rfl⟩), ⟨fun z => absurd z (by decide), fun z => absurd z (by decide)⟩, fun _ => ⟨?_, by decide, by decide⟩⟩
    show _ = sv_T 49
    rw [show sv_T 49 = 63 by decide]; omega
  by_cases c12 : a = 91
  · refine ⟨a, rfl, rfl, ?_⟩
    have q := sg_91 (d := d) (e := e) c12
    rw [q]
    refine ⟨.inr (.inl ⟨by decide, rfl⟩), ⟨fun z => absurd z (by decide), fun z => absurd z (by decide)⟩, fun _ => ⟨?_, by decide, by decide⟩⟩
    show _ = sv_T 44
    rw [show sv_T 44 = 91 by decide]; omega
  by_cases c13 : a = 93
  · refine ⟨a, rfl, rfl, ?_⟩
    have q := sg_93 (d := d) (e := e) c13
    rw [q]
    refine ⟨.inr (.inl ⟨by decide, rfl⟩), ⟨fun z => absurd z (by decide), fun z => absurd z (by decide)⟩, fun _ => ⟨?_, by decide, by decide⟩⟩
    show _ = sv_T 45
    rw [show sv_T 45 = 93 by decide]; omega
  by_cases c14 : a = 94
  · refine ⟨a, rfl, rfl, ?_⟩
    have q := sg_94 (d := d) (e := e) c14
    rw [q]
    refine ⟨.inr (.inl ⟨by decide, rfl⟩), ⟨fun z => absurd z (by decide), fun z => absurd z (by decide)⟩, fun _ => ⟨?_, by decide, by decide⟩⟩
    show _ = sv_T 70
    rw [show sv_T 70 = 94 by decide]; omega
  by_cases c15 : a = 123
  · refine ⟨a, rfl, rfl, ?_⟩
    have q := sg_123 (d := d) (e := e) c15
    rw [q]
    refine ⟨.inr (.inl ⟨by decide, rfl⟩), ⟨fun z => absurd z (by decide), fun z => absurd z (by decide)⟩, fun _ => ⟨?_, by decide, by decide⟩⟩
    show _ = sv_T 42
    rw [show sv_T 42 = 123 by decide]; omega
  by_cases c16 : a = 125
  · refine ⟨a, rfl, rfl, ?_⟩
    have q := sg_125 (d := d) (e := e) c16
    rw [q]
    refine ⟨.inr (.inl ⟨by decide, rfl⟩), ⟨fun z => absurd z (by decide), fun z => absurd z (by decide)⟩, fun _ => ⟨?_, by decide, by decide⟩⟩
    show _ = sv_T 43
    rw [show sv_T 43 = 125 by decide]; omega
  by_cases c17 : a = 126
  · refine ⟨a, rfl, rfl, ?_⟩
    have q := sg_126 (d := d) (e := e) c17
    rw [q]
    refine ⟨.inr (.inl ⟨by decide, rfl⟩), ⟨fun z => absurd z (by decide), fun z => absurd z (by decide)⟩, fun _ => ⟨?_, by decide, by decide⟩⟩
    show _ = sv_T 72
    rw [show sv_T 72 = 126 by decide]; omega
  by_cases c18 : a = 33
  · by_cases b : d = 61
    · refine ⟨128 * a + d, rfl, rfl, ?_⟩
      have q := sg_33_0 (e := e) c18 b
      rw [q]
      refine ⟨.inr (.inr (.inl ⟨by decide, rfl⟩)), ⟨fun z => absurd z (by decide), fun z => absurd z (by decide)⟩, fun _ => ⟨?_, by decide, by decide⟩⟩
      show _ = sv_T 53
      rw [show sv_T 53 = 4285 by decide]; omega
    · refine ⟨a, rfl, rfl, ?_⟩
      have q := sg_33_1 (e := e) c18 b
      rw [q]
      refine ⟨.inr (.inl ⟨by decide, rfl⟩), ⟨fun z => absurd z (by decide), fun z => absurd z (by decide)⟩, fun _ => ⟨?_, by decide, by decide⟩⟩
      show _ = sv_T 71
      rw [show sv_T 71 = 33 by decide]; omega
  by_cases c19 : a = 38
  · by_cases b : d = 38
    · refine ⟨128 * a + d, rfl, rfl, ?_⟩
      have q := sg_38_0 (e := e) c19 b
      rw [q]
      refine ⟨.inr (.inr (.inl ⟨by decide, rfl⟩)), ⟨fun z => absurd z (by decide), fun z => absurd z (by decide)⟩, fun _ => ⟨?_, by decide, by decide⟩⟩
      show _ = sv_T 67
      rw [show sv_T 67 = 4902 by decide]; omega
    · refine ⟨a, rfl, rfl, ?_⟩
      have q := sg_38_1 (e := e) c19 b
      rw [q]
      refine ⟨.inr (.inl ⟨by decide, rfl⟩), ⟨fun z => absurd z (by decide), fun z => absurd z (by decide)⟩, fun _ => ⟨?_, by decide, by decide⟩⟩
      show _ = sv_T 66
      rw [show sv_T 66 = 38 by decide]; omega
  by_cases c20 : a = 61
  · by_cases b : d = 61
    · refine ⟨128 * a + d, rfl, rfl, ?_⟩
      have q := sg_61_0 (e := e) c20 b
      rw [q]
      refine ⟨.inr (.inr (.inl ⟨by decide, rfl⟩)), ⟨fun z => absurd z (by decide), fun z => absurd z (by decide)⟩, fun _ => ⟨?_, by decide, by decide⟩⟩
      show _ = sv_T 52
      rw [show sv_T 52 = 7869 by decide]; omega
    · refine ⟨a, rfl, rfl, ?_⟩
      have q := sg_61_1 (e := e) c20 b
      rw [q]
      refine ⟨.inr (.inl ⟨by decide, rfl⟩), ⟨fun z => absurd z (by decide), fun z => absurd z (by decide)⟩, fun _ => ⟨?_, by decide, by decide⟩⟩
      show _ = sv_T 51
      rw [show sv_T 51 = 61 by decide]; omega
  by_cases c21 : a = 124
  · by_cases b : d = 124
    · refine ⟨128 * a + d, rfl, rfl, ?_⟩
      have q := sg_124_0 (e := e) c21 b
      rw [q]
      refine ⟨.inr (.inr (.inl ⟨by decide, rfl⟩)), ⟨fun z => absurd z (by decide), fun z => absurd z (by decide)⟩, fun _ => ⟨?_, by decide, by decide⟩⟩
      show _ = sv_T 69
      rw [show sv_T 69 = 15996 by decide]; omega
    · refine ⟨a, rfl, rfl, ?_⟩
      have q := sg_124_1 (e := e) c21 b
      rw [q]
      refine ⟨.inr (.inl ⟨by decide, rfl⟩), ⟨fun z => absurd z (by decide), fun z => absurd z (by decide)⟩, fun _ => ⟨?_, by decide, by decide⟩⟩
      show _ = sv_T 68
      rw [show sv_T 68 = 124 by decide]; omega
  by_cases c22 : a = 60
  · by_cases b : d = 61
    · refine ⟨128 * a + d, rfl, rfl, ?_⟩
      have q := sg_60_0 (e := e) c22 b
      rw [q]
      refine ⟨.inr (.inr (.inl ⟨by decide, rfl⟩)), ⟨fun z => absurd z (by decide), fun z => absurd z (by decide)⟩, fun _ => ⟨?_, by decide, by decide⟩⟩
      show _ = sv_T 55
      rw [show sv_T 55 = 7741 by decide]; omega
    · by_cases b2 : d = 60
      · refine ⟨128 * a + d, rfl, rfl, ?_⟩
        have q := sg_60_1 (e := e) c22 b2
        rw [q]
        refine ⟨.inr (.inr (.inl ⟨by decide, rfl⟩)), ⟨fun z => absurd z (by decide), fun z => absurd z (by decide)⟩, fun _ => ⟨?_, by decide, by decide⟩⟩
        show _ = sv_T 58
        rw [show sv_T 58 = 7740 by decide]; omega
      · refine ⟨a, rfl, rfl, ?_⟩
        have q := sg_60_2 (e := e) c22 ⟨b, b2⟩
        rw [q]
        refine ⟨.inr (.inl ⟨by decide, rfl⟩), ⟨fun z => absurd z (by decide), fun z => absurd z (by decide)⟩, fun _ => ⟨?_, by decide, by decide⟩⟩
        show _ = sv_T 54
        rw [show sv_T 54 = 60 by decide]; omega
  by_cases c23 : a = 62
  · by_cases b : d = 61
    · refine ⟨128 * a + d, rfl, rfl, ?_⟩
      have q := sg_62_0 (e := e) c23 b
      rw [q]
      refine ⟨.inr (.inr (.inl ⟨by decide, rfl⟩)), ⟨fun z => absurd z (by decide), fun z => absurd z (by decide)⟩, fun _ => ⟨?_, by decide, by decide⟩⟩
      show _ = sv_T 57
      rw [show sv_T 57 = 7997 by decide]; omega
    · by_cases b2 : d = 62
      · by_cases b3 : e = 62
        · refine ⟨128 * (128 * a + d) + e, rfl, rfl, ?_⟩
          have q := sg_62_1 c23 ⟨b2, b3⟩
          rw [q]
          refine ⟨.inr (.inr (.inr ⟨by decide, rfl⟩)), ⟨fun z => absurd z (by decide), fun z => absurd z (by decide)⟩, fun _ => ⟨?_, by decide, by decide⟩⟩
          show _ = sv_T 60
          rw [show sv_T 60 = 1023806 by decide]; omega
        · refine ⟨128 * a + d, rfl, rfl, ?_⟩
          have q := sg_62_2 c23 ⟨b2, b3⟩
          rw [q]
          refine ⟨.inr (.inr (.inl ⟨by decide, rfl⟩)), ⟨fun z => absurd z (by decide), fun z => absurd z (by decide)⟩, fun _ => ⟨?_, by decide, by decide⟩⟩
          show _ = sv_T 59
          rw [show sv_T 59 = 7998 by decide]; omega
      · refine ⟨a, rfl, rfl, ?_⟩
        have q := sg_62_3 (e := e) c23 ⟨b, b2⟩
        rw [q]
        refine ⟨.inr (.inl ⟨by decide, rfl⟩), ⟨fun z => absurd z (by decide), fun z => absurd z (by decide)⟩, fun _ => ⟨?_, by decide, by decide⟩⟩
        show _ = sv_T 56
        rw [show sv_T 56 = 62 by decide]; omega
  · refine ⟨0, rfl, rfl, ?_⟩
    have q := sg_no (a := a) (d := d) (e := e) ⟨by omega, by omega, by omega, by omega, by omega, by omega, by omega, by omega, by omega, by omega, by omega, by omega, by omega, by omega, by omega, by omega, by omega, by omega, by omega, by omega, by omega, by omega, by omega, by omega⟩
    rw [q]
    exact ⟨.inl (by decide), ⟨fun _ => by decide, fun _ => rfl⟩, fun z => absurd rfl z⟩
theorem sg_w2 {a d e : Int} (h0 : d = 0) (hw : sl_T (sg_T a d e) = 2 ∨ sl_T (sg_T a d e) = 3) : False := by
  by_cases c0 : a = 37
  · rw [sg_37 (d := d) (e := e) c0] at hw
    exact absurd hw (by decide)
  by_cases c1 : a = 40
  · rw [sg_40 (d := d) (e := e) c1] at hw
    exact absurd hw (by decide)
  by_cases c2 : a = 41
  · rw [sg_41 (d := d) (e := e) c2] at hw
    exact absurd hw (by decide)
  by_cases c3 : a = 42
  · rw [sg_42 (d := d) (e := e) c3] at hw
    exact absurd hw (by decide)
  by_cases c4 : a = 43
  · rw [sg_43 (d := d) (e := e) c4] at hw
    exact absurd hw (by decide)
  by_cases c5 : a = 44
  · rw [sg_44 (d := d) (e := e) c5] at hw
    exact absurd hw (by decide)
  by_cases c6 : a = 45
  · rw [sg_45 (d := d) (e := e) c6] at hw
    exact absurd hw (by decide)
  by_cases c7 : a = 46
  · rw [sg_46 (d := d) (e := e) c7] at hw
    exact absurd hw (by decide)
  by_cases c8 : a = 47
  · rw [sg_47 (d := d) (e := e) c8] at hw
    exact absurd hw (by decide)
  by_cases c9 : a = 58
  · rw [sg_58 (d := d) (e := e) c9] at hw
    exact absurd hw (by decide)
  by_cases c10 : a = 59
  · rw [sg_59 (d := d) (e := e) c10] at hw
    exact absurd hw (by decide)
  by_cases c11 : a = 63
  · rw [sg_63 (d := d) (e := e) c11] at hw
    exact absurd hw (by decide)
  by_cases c12 : a = 91
  · rw [sg_91 (d := d) (e := e) c12] at hw
    exact absurd hw (by decide)
  by_cases c13 : a = 93
  · rw [sg_93 (d := d) (e := e) c13] at hw
    exact absurd hw (by decide)
  by_cases c14 : a = 94
  · rw [sg_94 (d := d) (e := e) c14] at hw
    exact absurd hw (by decide)
  by_cases c15 : a = 123
  · rw [sg_123 (d := d) (e := e) c15] at hw
    exact absurd hw (by decide)
  by_cases c16 : a = 125
  · rw [sg_125 (d := d) (e := e) c16] at hw
    exact absurd hw (by decide)
  by_cases c17 : a = 126
  · rw [sg_126 (d := d) (e := e) c17] at hw
    exact absurd hw (by decide)
  by_cases c18 : a = 33
  · rw [sg_33_1 (e := e) c18 (show ¬ d = 61 by omega)] at hw
    exact absurd hw (by decide)
  by_cases c19 : a = 38
  · rw [sg_38_1 (e := e) c19 (show ¬ d = 38 by omega)] at hw
    exact absurd hw (by decide)
  by_cases c20 : a = 61
  · rw [sg_61_1 (e := e) c20 (show ¬ d = 61 by omega)] at hw
    exact absurd hw (by decide)
  by_cases c21 : a = 124
  · rw [sg_124_1 (e := e) c21 (show ¬ d = 124 by omega)] at hw
    exact absurd hw (by decide)
  by_cases c22 : a = 60
  · rw [sg_60_2 (e := e) c22 ⟨show ¬ d = 61 by omega, show ¬ d = 60 by omega⟩] at hw
    exact absurd hw (by decide)
  by_cases c23 : a = 62
  · rw [sg_62_3 (e := e) c23 ⟨show ¬ d = 61 by omega, show ¬ d = 62 by omega⟩] at hw
    exact absurd hw (by decide)
  rw [sg_no (a := a) (d := d) (e := e) ⟨by omega, by omega, by omega, by omega, by omega, by omega, by omega, by omega, by omega, by omega, by omega, by omega, by omega, by omega, by omega, by omega, by omega, by omega, by omega, by omega, by omega, by omega, by omega, by omega⟩] at hw
  exact absurd hw (by decide)
theorem sg_w3 {a d e : Int} (h0 : e = 0) (hw : sl_T (sg_T a d e) = 3) : False := by
  by_cases c0 : a = 37
  · rw [sg_37 (d := d) (e := e) c0] at hw
    exact absurd hw (by decide)
  by_cases c1 : a = 40
  · rw [sg_40 (d := d) (e := e) c1] at hw
    exact absurd hw (by decide)
  by_cases c2 : a = 41
  · rw [sg_41 (d := d) (e := e) c2] at hw
    exact absurd hw (by decide)
  by_cases c3 : a = 42
  · rw [sg_42 (d := d) (e := e) c3] at hw
    exact absurd hw (by decide)
  by_cases c4 : a = 43
  · rw [sg_43 (d := d) (e := e) c4] at hw
    exact absurd hw (by decide)
  by_cases c5 : a = 44
  · rw [sg_44 (d := d) (e := e) c5] at hw
    exact absurd hw (by decide)
  by_cases c6 : a = 45
  · rw [sg_45 (d := d) (e := e) c6] at hw
    exact absurd hw (by decide)
  by_cases c7 : a = 46
  · rw [sg_46 (d := d) (e := e) c7] at hw
    exact absurd hw (by decide)
  by_cases c8 : a = 47
  · rw [sg_47 (d := d) (e := e) c8] at hw
    exact absurd hw (by decide)
  by_cases c9 : a = 58
  · rw [sg_58 (d := d) (e := e) c9] at hw
    exact absurd hw (by decide)
  by_cases c10 : a = 59
  · rw [sg_59 (d := d) (e := e) c10] at hw
    exact absurd hw (by decide)
  by_cases c11 : a = 63
  · rw [sg_63 (d := d) (e := e) c11] at hw
    exact absurd hw (by decide)
  by_cases c12 : a = 91
  · rw [sg_91 (d := d) (e := e) c12] at hw
    exact absurd hw (by decide)
  by_cases c13 : a = 93
  · rw [sg_93 (d := d) (e := e) c13] at hw
    exact absurd hw (by decide)
  by_cases c14 : a = 94
  · rw [sg_94 (d := d) (e := e) c14] at hw
    exact absurd hw (by decide)
  by_cases c15 : a = 123
  · rw [sg_123 (d := d) (e := e) c15] at hw
    exact absurd hw (by decide)
  by_cases c16 : a = 125
  · rw [sg_125 (d := d) (e := e) c16] at hw
    exact absurd hw (by decide)
  by_cases c17 : a = 126
  · rw [sg_126 (d := d) (e := e) c17] at hw
    exact absurd hw (by decide)
  by_cases c18 : a = 33
  · by_cases b : d = 61
    · rw [sg_33_0 (e := e) c18 b] at hw
      exact absurd hw (by decide)
    · rw [sg_33_1 (e := e) c18 b] at hw
      exact absurd hw (by decide)
  by_cases c19 : a = 38
  · by_cases b : d = 38
    · rw [sg_38_0 (e := e) c19 b] at hw
      exact absurd hw (by decide)
    · rw [sg_38_1 (e := e) c19 b] at hw
      exact absurd hw (by decide)
  by_cases c20 : a = 61
  · by_cases b : d = 61
    · rw [sg_61_0 (e := e) c20 b] at hw
      exact absurd hw (by decide)
    · rw [sg_61_1 (e := e) c20 b] at hw
      exact absurd hw (by decide)
  by_cases c21 : a = 124
  · by_cases b : d = 124
    · rw [sg_124_0 (e := e) c21 b] at hw
      exact absurd hw (by decide)
    · rw [sg_124_1 (e := e) c21 b] at hw
      exact absurd hw (by decide)
  by_cases c22 : a = 60
  · by_cases b : d = 61
    · rw [sg_60_0 (e := e) c22 b] at hw
      exact absurd hw (by decide)
    · by_cases b2 : d = 60
      · rw [sg_60_1 (e := e) c22 b2] at hw
        exact absurd hw (by decide)
      · rw [sg_60_2 (e := e) c22 ⟨b, b2⟩] at hw
        exact absurd hw (by decide)
  by_cases c23 : a = 62
  · by_cases b : d = 61
    · rw [sg_62_0 (e := e) c23 b] at hw
      exact absurd hw (by decide)
    · by_cases b2 : d = 62
      · rw [sg_62_2 c23 ⟨b2, show ¬ e = 62 by omega⟩] at hw
        exact absurd hw (by decide)
      · rw [sg_62_3 (e := e) c23 ⟨b, b2⟩] at hw
        exact absurd hw (by decide)
  rw [sg_no (a := a) (d := d) (e := e) ⟨by omega, by omega, by omega, by omega, by omega, by omega, by omega, by omega, by omega, by omega, by omega, by omega, by omega, by omega, by omega, by omega, by omega, by omega, by omega, by omega, by omega, by omega, by omega, by omega⟩] at hw
  exact absurd hw (by decide)
theorem sa_r {A : Nat → Int} {n p : Nat} {x d e : Int} (T : TXr r A n) (hp : p < n) (hx : x = (p : Int)) (hd : (p + 1 < n ∧ d = A (p + 1)) ∨ (¬ p + 1 < n ∧ d = 0)) (he : (p + 2 < n ∧ e = A (p + 2)) ∨ (¬ p + 2 < n ∧ e = 0)) : Pc (qf_X13_signAt nn x r) (fun u => u = sl_T (sg_T (A p) d e)) := by
  have t0 := T.1
  unfold qf_X13_signAt
  refine pc_sv (r_at T (x := p) hx) ?_; intro u4 q4
  refine pc_add (by omega) ?_; intro v5 e5
  refine pc_sv (r_at T (x := p + 1) (by omega)) ?_; intro u7 q7
  have a4 : u4 = A p := by omega
  have a7 : u7 = d := by omega
  rw [← a4]
  unfold qj_X13_signAt_406 qj_X13_signAt_404 qj_X13_signAt_474 qj_X13_signAt_485
  refine pc_if (fun c => ?_) (fun c0 => ?_)
  · refine pc_if (fun b => pc_ret ?_) (fun b => pc_ret ?_)
    · show (1 : Int) = _
      rw [sg_33_1 (e := e) c (show ¬ d = 61 by omega)]; decide
    · show (2 : Int) = _
      rw [sg_33_0 (e := e) c (show d = 61 by omega)]; decide
  refine pc_if (fun c => ?_) (fun c1 => ?_)
  · refine pc_ret ?_
    show (1 : Int) = _
    rw [sg_37 (d := d) (e := e) c]; decide
  refine pc_if (fun c => ?_) (fun c2 => ?_)
  · refine pc_if (fun b => pc_ret ?_) (fun b => pc_ret ?_)
    · show (1 : Int) = _
      rw [sg_38_1 (e := e) c (show ¬ d = 38 by omega)]; decide
    · show (2 : Int) = _
      rw [sg_38_0 (e := e) c (show d = 38 by omega)]; decide
  refine pc_if (fun c => ?_) (fun c3 => ?_)
  · refine pc_ret ?_
    show (1 : Int) = _
    rw [sg_40 (d := d) (e := e) c]; decide
  refine pc_if (fun c => ?_) (fun c4 => ?_)
  · refine pc_ret ?_
    show (1 : Int) = _
    rw [sg_41 (d := d) (e := e) c]; decide
  refine pc_if (fun c => ?_) (fun c5 => ?_)
  · refine pc_ret ?_
    show (1 : Int) = _
    rw [sg_42 (d := d) (e := e) c]; decide
  refine pc_if (fun c => ?_) (fun c6 => ?_)
  · refine pc_ret ?_
    show (1 : Int) = _
    rw [sg_43 (d := d) (e := e) c]; decide
  refine pc_if (fun c => ?_) (fun c7 => ?_)
  · refine pc_ret ?_
    show (1 : Int) = _
    rw [sg_44 (d := d) (e := e) c]; decide
  refine pc_if (fun c => ?_) (fun c8 => ?_)
  · refine pc_ret ?_
    show (1 : Int) = _
    rw [sg_45 (d := d) (e := e) c]; decide
  refine pc_if (fun c => ?_) (fun c9 => ?_)
  · refine pc_ret ?_
    show (1 : Int) = _
    rw [sg_46 (d := d) (e := e) c]; decide
  refine pc_if (fun c => ?_) (fun c10 => ?_)
  · refine pc_ret ?_
    show (1 : Int) = _
    rw [sg_47 (d := d) (e := e) c]; decide
  refine pc_if (fun c => ?_) (fun c11 => ?_)
  · refine pc_ret ?_
    show (1 : Int) = _
    rw [sg_58 (d := d) (e := e) c]; decide
  refine pc_if (fun c => ?_) (fun c12 => ?_)
  · refine pc_ret ?_
    show (1 : Int) = _
    rw [sg_59 (d := d) (e := e) c]; decide
  refine pc_if (fun c => ?_) (fun c13 => ?_)
  · refine pc_if (fun b => pc_ret ?_) (fun b => pc_if (fun b2 => pc_ret ?_) (fun b2 => pc_ret ?_))
    · show (2 : Int) = _
      rw [sg_60_0 (e := e) c (show d = 61 by omega)]; decide
    · show (1 : Int) = _
      rw [sg_60_2 (e := e) c ⟨show ¬ d = 61 by omega, show ¬ d = 60 by omega⟩]; decide
    · show (2 : Int) = _
      rw [sg_60_1 (e := e) c (show d = 60 by omega)]; decide
  refine pc_if (fun c => ?_) (fun c14 => ?_)
  · refine pc_if (fun b => pc_ret ?_) (fun b => pc_ret ?_)
    · show (1 : Int) = _
      rw [sg_61_1 (e := e) c (show ¬ d = 61 by omega)]; decide
    · show (2 : Int) = _
      rw [sg_61_0 (e := e) c (show d = 61 by omega)]; decide
  refine pc_if (fun c => ?_) (fun c15 => ?_)
  · refine pc_if (fun b => pc_if (fun b2 => pc_ret ?_) (fun b2 => pc_ret ?_)) (fun b => ?_)
    · show (1 : Int) = _
      rw [sg_62_3 (e := e) c ⟨show ¬ d = 61 by omega, show ¬ d = 62 by omega⟩]; decide
    · show (2 : Int) = _
      rw [sg_62_0 (e := e) c (show d = 61 by omega)]; decide
    · refine pc_add (by omega) ?_; intro v11 e11
      refine pc_sv (r_at T (x := p + 2) (by omega)) ?_; intro u13 q13
      refine pc_if (fun b2 => pc_ret ?_) (fun b2 => pc_ret ?_)
      · show (2 : Int) = _
        rw [sg_62_2 c ⟨show d = 62 by omega, show ¬ e = 62 by omega⟩]; decide
      · show (3 : Int) = _
        rw [sg_62_1 c ⟨show d = 62 by omega, show e = 62 by omega⟩]; decide
  refine pc_if (fun c => ?_) (fun c16 => ?_)
  · refine pc_ret ?_
    show (1 : Int) = _
    rw [sg_63 (d := d) (e := e) c]; decide
  refine pc_if (fun c => ?_) (fun c17 => ?_)
  · refine pc_ret ?_
    show (1 : Int) = _
    rw [sg_91 (d := d) (e := e) c]; decide
  refine pc_if (fun c => ?_) (fun c18 => ?_)
  · refine pc_ret ?_
    show (1 : Int) = _
    rw [sg_93 (d := d) (e := e) c]; decide
  refine pc_if (fun c => ?_) (fun c19 => ?_)
  · refine pc_ret ?_
    show (1 : Int) = _
    rw [sg_94 (d := d) (e := e) c]; decide
  refine pc_if (fun c => ?_) (fun c20 => ?_)
  · refine pc_ret ?_
    show (1 : Int) = _
    rw [sg_123 (d := d) (e := e) c]; decide
  refine pc_if (fun c => ?_) (fun c21 => ?_)
  · refine pc_if (fun b => pc_ret ?_) (fun b => pc_ret ?_)
    · show (1 : Int) = _
      rw [sg_124_1 (e := e) c (show ¬ d = 124 by omega)]; decide
    · show (2 : Int) = _
      rw [sg_124_0 (e := e) c (show d = 124 by omega)]; decide
  refine pc_if (fun c => ?_) (fun c22 => ?_)
  · refine pc_ret ?_
    show (1 : Int) = _
    rw [sg_125 (d := d) (e := e) c]; decide
  refine pc_if (fun c => ?_) (fun c23 => ?_)
  · refine pc_ret ?_
    show (1 : Int) = _
    rw [sg_126 (d := d) (e := e) c]; decide
  refine pc_ret ?_
  show (0 : Int) = _
  rw [sg_no (a := u4) (d := d) (e := e) ⟨c0, c1, c2, c3, c4, c5, c6, c7, c8, c9, c10, c11, c12, c13, c14, c15, c16, c17, c18, c19, c20, c21, c22, c23⟩]; decide
end
end
section
/- TOKENS: among, and the known names -/
/-- the word behind place k of the list is the text at p -/
def MA_ (a n0 : Nat) (p n : Int) (h : ms_M) (k : Nat) : Prop := cx_ a (k : Int) = 32 ∧ (k : Int) + n + 1 < (n0 : Int) ∧ cx_ a ((k : Int) + n + 1) = 32 ∧ ∀ i : Nat, (i : Int) < n → cx_ a ((k : Int) + 1 + i) = h 162 (p.toNat + i)
def AMS (a n0 : Nat) (p n : Int) (h : ms_M) (u : Int) : Prop := (u = -1 ∧ ∀ k : Nat, ¬ MA_ a n0 p n h k) ∨ ∃ k : Nat, MA_ a n0 p n h k ∧ u = sp_ a k
section
variable {nn a n0 : Nat} {h g r : ms_M} {p n : Int} {Q : Int → Prop}
theorem aq_119 {qk : Nat → Int → Int → Int → Int → ms_M → Option Int} {w k l : Int} (hk : 0 ≤ k ∧ k ≤ 2000) (hy : ¬ l = 0 → Q w) (hn : l = 0 → Pc (qk a p n w (k + 1) h) Q) : Pc (qj_X13_among_119 nn qk a p n w k l h) Q := by
  unfold qj_X13_among_119
  refine pc_if (fun c => ?_) (fun c => pc_ret (hy c))
  refine pc_add (by omega) ?_; intro v e
  rw [e]; exact hn c
theorem aq_72 (X : XT_ a n0) (hp : 0 ≤ p ∧ p ≤ 3000) (h0 : 0 ≤ n ∧ n ≤ 3000) {qk : Nat → Int → Int → Int → Int → ms_M → Option Int} {w k : Int} (hk : 0 ≤ k ∧ k ≤ 1000) (Y : (∀ i : Nat, (i : Int) < n → cx_ a (k + 1 + i) = h 162 (p.toNat + i)) → Q w) (N : ¬ (∀ i : Nat, (i : Int) < n → cx_ a (k + 1 + i) = h 162 (p.toNat + i)) → Pc (qk a p n w (k + 1) h) Q) : ∀ (f : Nat) (l : Int) (i : Nat), ((l = 1 ∧ k + n + 1 < (n0 : Int) ∧ ∀ j : Nat, j < i → (j : Int) < n → cx_ a (k + 1 + j) = h 162 (p.toNat + j)) ∨ (l = 0 ∧ ¬ ∀ i : Nat, (i : Int) < n → cx_ a (k + 1 + i) = h 162 (p.toNat + i))) → Pc (qw_X13_among_72 nn qk f a p n w k l (i : Int) h) Q := by
  intro f
  have x0 := X.1
  induction f with
  | zero => intro l i _; exact pc_none
  | succ f ih =>
    intro l i H
    unfold qw_X13_among_72
    refine pc_if (fun c => aq_119 (by omega) (fun z => ?_) (fun z => ?_)) (fun c => ?_)
    · rcases H with ⟨-, -, H⟩ | ⟨H, -⟩
      · exact Y (fun j hj => H j (by omega) hj)
      · exact absurd H z
    · rcases H with ⟨H, -⟩ | ⟨-, H⟩
      · omega
      · exact N H
    refine pc_if (fun c2 => aq_119 (by omega) (fun z => absurd c2 z) (fun z => ?_)) (fun c2 => ?_)
    · rcases H with ⟨H, -⟩ | ⟨-, H⟩
      · omega
      · exact N H
    rcases H with ⟨l1, H0, H⟩ | ⟨H, -⟩
    · refine pc_add (by omega) ?_; intro v3 e3
      refine pc_add (by omega) ?_; intro v4 e4
      rw [X.2.2.1 v4 (by omega) (by omega)]
      refine pc_add (by omega) ?_; intro v7 e7
      refine pc_rA ?_; intro i1 i2 v8 e8
      have e8 : v8 = h 162 (p.toNat + i) := by rw [e8]; congr 1; omega
      have e4 : v4 = k + 1 + i := by omega
      refine pc_if (fun c3 => ?_) (fun c3 => ?_)
      · refine pc_add (by omega) ?_; intro v9 e9
        rw [show v9 = ((i + 1 : Nat) : Int) by omega]
        refine ih 0 (i + 1) (.inr ⟨rfl, fun z => c3 ?_⟩)
        rw [e8, e4]; exact z i (by omega)
      · refine pc_add (by omega) ?_; intro v9 e9
        rw [show v9 = ((i + 1 : Nat) : Int) by omega]
        refine ih 1 (i + 1) (.inl ⟨rfl, H0, fun j a1 a2 => ?_⟩)
        by_cases z : j = i
        · rw [z, ← e4, ← e8]; exact Decidable.not_not.1 c3
        · exact H j (by omega) a2
    · exact absurd H c2
theorem aq_6 (X : XT_ a n0) (hp : 0 ≤ p ∧ p ≤ 3000) (h0 : 0 ≤ n ∧ n ≤ 3000) : ∀ (f k : Nat), k ≤ n0 → (∀ k2 : Nat, k2 < k → ¬ MA_ a n0 p n h k2) → Pc (qw_X13_among_6 nn f a p n (sp_ a k - 1) (k : Int) h) (AMS a n0 p n h) := by
  intro f
  induction f with
  | zero => intro k a1 _; exact pc_none
  | succ f ih =>
    intro k a1 H
    have x0 := X.1
    have s0 := X.2.2.2 k a1
    unfold qw_X13_among_6
    refine pc_add (by omega) ?_; intro v14 e14
    rw [X.2.1]
    refine pc_if (fun c => pc_ret (.inl ⟨rfl, fun k2 m => ?_⟩)) (fun c => ?_)
    · by_cases z : k2 < k
      · exact H k2 z m
      · have := m.2.1; omega
    rw [X.2.2.1 (k : Int) (by omega) (by omega)]
    have s1 : sp_ a (k + 1) = sp_ a k + (if cx_ a (k : Int) = 32 then 1 else 0) := rfl
    have nx : ¬ MA_ a n0 p n h k → Pc (qw_X13_among_6 nn f a p n (sp_ a (k + 1) - 1) ((k : Int) + 1) h) (AMS a n0 p n h) := fun z => by
      have := ih (k + 1) (by omega) (fun k2 b => by
        by_cases y : k2 = k
        · rw [y]; exact z
        · exact H k2 (by omega))
      rw [show ((k + 1 : Nat) : Int) = (k : Int) + 1 by omega] at this
      exact this
    refine pc_if (fun c2 => ?_) (fun c2 => ?_)
    · rw [if_pos c2] at s1
      refine pc_add (by omega) ?_; intro v17 e17
      have nx : ¬ MA_ a n0 p n h k → Pc (qw_X13_among_6 nn f a p n v17 ((k : Int) + 1) h) (AMS a n0 p n h) := fun z => by rw [e17, show sp_ a k - 1 + 1 = sp_ a (k + 1) - 1 by omega]; exact nx z
      have no : ¬ MA_ a n0 p n h k → Pc (qj_X13_among_66 nn (qw_X13_among_6 nn f) a p n v17 (k : Int) h) (AMS a n0 p n h) := fun z => by
        unfold qj_X13_among_66
        cases nn with
        | zero => exact pc_none
        | succ m =>
          unfold qw_X13_among_72
          have D : Pc (qj_X13_among_119 (m + 1) (qw_X13_among_6 (m + 1) f) a p n v17 (k : Int) 0 h) (AMS a n0 p n h) := aq_119 (by omega) (fun y => absurd rfl y) (fun _ => nx z)
          exact pc_if (fun _ => D) (fun _ => pc_if (fun _ => D) (fun y => absurd rfl y))
      refine pc_add (by omega) ?_; intro v18 e18
      refine pc_add (by omega) ?_; intro v19 e19
      rw [X.2.1]
      refine pc_if (fun c3 => no (fun z => by have := z.2.1; omega)) (fun c3 => ?_)
      refine pc_add (by omega) ?_; intro v21 e21
      refine pc_add (by omega) ?_; intro v22 e22
      rw [X.2.2.1 v22 (by omega) (by omega)]
      have e22 : v22 = (k : Int) + n + 1 := by omega
      refine pc_if (fun c4 => no (fun z => c4 (by rw [e22]; exact z.2.2.1))) (fun c4 => ?_)
      have c4 : cx_ a ((k : Int) + n + 1) = 32 := by rw [← e22]; exact Decidable.not_not.1 c4
      refine aq_72 X hp h0 (by omega) (fun z => .inr ⟨k, ⟨c2, by omega, c4, z⟩, by omega⟩) (fun z => nx (fun y => z y.2.2.2)) nn 1 0 (.inl ⟨rfl, by omega, fun j b => by omega⟩)
    · rw [if_neg c2] at s1
      refine pc_add (by omega) ?_; intro v26 e26
      rw [e26, show sp_ a k - 1 = sp_ a (k + 1) - 1 by omega]
      exact nx (fun z => c2 z.1)
theorem aq_c (X : XT_ a n0) (hp : 0 ≤ p ∧ p ≤ 3000) (h0 : 0 ≤ n ∧ n ≤ 3000) : Pc (qf_X13_among nn a p n h) (AMS a n0 p n h) := by
  have := aq_6 (nn := nn) (h := h) X hp h0 nn 0 (Nat.zero_le _) (fun k2 b => by omega)
  exact this
end
/-- the list a has the known names from o on, m of them -/
def kw_T (a n0 o m : Nat) : Bool := (List.range (n0 - 1)).all (fun k => !(decide (cx_ a (k : Int) = 32)) || (decide (0 ≤ sp_ a k) && decide ((sp_ a k).toNat < m) && decide (k + (kl_T (o + (sp_ a k).toNat)).length + 1 < n0) && decide (cx_ a (((k + (kl_T (o + (sp_ a k).toNat)).length + 1 : Nat)) : Int) = 32) && (List.range (kl_T (o + (sp_ a k).toNat)).length).all (fun i => decide (cx_ a ((k + 1 + i : Nat) : Int) = (kl_T (o + (sp_ a k).toNat)).getD i 0) && !(decide ((kl_T (o + (sp_ a k).toNat)).getD i 0 = 32))))) && (List.range m).all (fun j => (List.range (n0 - 1)).any (fun k => decide (cx_ a (k : Int) = 32) && decide (sp_ a k = (j : Int))))
set_option maxRecDepth 100000 in
theorem kw_2 : kw_T (1000000000 + 2) 133 9 22 = true := by decide +kernel
set_option maxRecDepth 100000 in
theorem kw_3 : kw_T (1000000000 + 3) 77 0 8 = true := by decide +kernel
set_option maxRecDepth 100000 in
theorem kw_4 : kw_T (1000000000 + 4) 8 8 1 = true := by decide +kernel
section
variable {nn a n0 o m : Nat} {h g r : ms_M} {p n : Int}
theorem kw_k (K : kw_T a n0 o m = true) {k : Nat} (hk : k + 1 < n0) (c : cx_ a (k : Int) = 32) : ∃ j : Nat, sp_ a k = (j : Int) ∧ j < m ∧ (k + (kl_T (o + j)).length + 1 < n0) ∧ cx_ a ((k : Int) + (kl_T (o + j)).length + 1) = 32 ∧ ∀ i : Nat, i < (kl_T (o + j)).length → cx_ a ((k : Int) + 1 + i) = (kl_T (o + j)).getD i 0 ∧ ¬ (kl_T (o + j)).getD i 0 = 32 := by
  unfold kw_T at K
  rw [Bool.and_eq_true] at K
  have K1 := List.all_eq_true.1 K.1 k (List.mem_range.2 (by omega))
  rw [decide_eq_true c] at K1
  simp only [Bool.not_true, Bool.false_or, Bool.and_eq_true, decide_eq_true_eq, List.all_eq_true, List.mem_range, Bool.not_eq_true', decide_eq_false_iff_not] at K1
  obtain ⟨⟨⟨⟨k1, k2⟩, k3⟩, k4⟩, k5⟩ := K1
  refine ⟨(sp_ a k).toNat, by omega, k2, k3, ?_, fun i hi => ?_⟩
  · rw [show (k : Int) + (kl_T (o + (sp_ a k).toNat)).length + 1 = ((k + (kl_T (o + (sp_ a k).toNat)).length + 1 : Nat) : Int) by omega]; exact k4
  · have := k5 i hi
    rw [show (k : Int) + 1 + i = ((k + 1 + i : Nat) : Int) by omega]; exact this
theorem kw_j (K : kw_T a n0 o m = true) {j : Nat} (hj : j < m) : ∃ k : Nat, k + 1 < n0 ∧ cx_ a (k : Int) = 32 ∧ sp_ a k = (j : Int) := by
  unfold kw_T at K
  rw [Bool.and_eq_true] at K
  have K1 := List.all_eq_true.1 K.2 j (List.mem_range.2 hj)
  obtain ⟨k, k1, k2⟩ := List.any_eq_true.1 K1
  rw [Bool.and_eq_true, decide_eq_true_iff, decide_eq_true_iff] at k2
  have := List.mem_range.1 k1
  exact ⟨k, by omega, k2⟩
/-- the reference finds a word of the list just where the class's number says so -/
theorem am_id (K : kw_T a n0 o m = true) (ho : o + m ≤ 32) (T : NTB h) (KT : KT_ h) {i : Nat} {u : Int} (hn : 1 ≤ n) (hi : (i : Int) < h 2 9) (N : NMt h i n (fun k => r 162 (p.toNat + k))) (hs : ∀ k : Nat, (k : Int) < n → ¬ r 162 (p.toNat + k) = 32) (S : AMS a n0 p n r u) : (u = -1 ∧ ¬ (o ≤ i ∧ i < o + m)) ∨ ∃ j : Nat, u = (j : Int) ∧ j < m ∧ i = o + j := by
  have t0 := T.1.1
  rcases S with ⟨s1, s2⟩ | ⟨k, ⟨s1, s2, s3, s4⟩, s5⟩
  · refine .inl ⟨s1, fun z => ?_⟩
    obtain ⟨k, k1, k2, k3⟩ := kw_j K (j := i - o) (by omega)
    obtain ⟨j, j1, j2, j3, j4, j5⟩ := kw_k K k1 k2
    have ej : o + j = i := by omega
    rw [ej] at j3 j4 j5
    have M := kt_n KT (i := i) (by omega)
    have el : n = ((kl_T i).length : Int) := by rw [← N.1]; exact M.1
    refine s2 k ⟨k2, by omega, by rw [el]; exact j4, fun x hx => ?_⟩
    rw [(j5 x (by omega)).1]
    exact (M.2 x (by omega)).symm.trans (N.2 x hx)
  · obtain ⟨j, j1, j2, j3, j4, j5⟩ := kw_k K (k := k) (by omega) s1
    have M := kt_n KT (i := o + j) (by omega)
    have el : n = ((kl_T (o + j)).length : Int) := by
      by_cases y : ((kl_T (o + j)).length : Int) < n
      · exfalso
        refine hs _ y ?_
        rw [← s4 _ y, show (k : Int) + 1 + (kl_T (o + j)).length = (k : Int) + (kl_T (o + j)).length + 1 by omega]; exact j4
      · by_cases y2 : n < ((kl_T (o + j)).length : Int)
        · exfalso
          have w := j5 n.toNat (by omega)
          rw [show (k : Int) + 1 + (n.toNat : Nat) = (k : Int) + n + 1 by omega, s3] at w
          exact w.2 w.1.symm
        · omega
    refine .inr ⟨j, by omega, j2, ?_⟩
    refine nt_eq T hi (by omega) N ⟨by rw [el]; exact M.1, fun x hx => ?_⟩
    exact (M.2 x (by omega)).trans ((j5 x (by omega)).1.symm.trans (s4 x hx))
end
end
