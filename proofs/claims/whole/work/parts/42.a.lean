/- TOKENS: the text, blanks, words, numbers -/
abbrev lt_T (c : Int) : Prop := (97 ≤ c ∧ c ≤ 122) ∨ (65 ≤ c ∧ c ≤ 90)
abbrev dg_T (c : Int) : Prop := 48 ≤ c ∧ c ≤ 57
abbrev np_T (c : Int) : Prop := ((97 ≤ c ∧ c ≤ 122) ∨ (65 ≤ c ∧ c ≤ 90)) ∨ (48 ≤ c ∧ c ≤ 57) ∨ c = 95
/-- the class's text: n bytes, with sign -/
def TXc (h : ms_M) (A : Nat → Int) (n : Nat) : Prop := n ≤ 3000 ∧ ∀ i : Nat, i < n → (-128 ≤ h 1 i ∧ h 1 i ≤ 127) ∧ A i = h 1 i % 256
/-- the reference's -/
def TXr (r : ms_M) (A : Nat → Int) (n : Nat) : Prop := n ≤ 3000 ∧ r 160 3 = (n : Int) ∧ ∀ i : Nat, i < n → (0 ≤ A i ∧ A i ≤ 255) ∧ r 162 i = A i
/-- behind blanks and remarks; m: within a remark -/
def bk_T (A : Nat → Int) (n : Nat) : Nat → Int → Nat → Nat
  | 0, _, p => p
  | f + 1, m, p => if n ≤ p then p else if A p = 47 ∧ p + 1 < n ∧ A (p + 1) = 47 then bk_T A n f 1 (p + 1) else if A p = 10 then bk_T A n f 0 (p + 1) else if A p = 32 ∨ ¬ m = 0 then bk_T A n f m (p + 1) else p
/-- behind a word, behind digits -/
def we_T (A : Nat → Int) (n : Nat) : Nat → Nat → Nat
  | 0, p => p
  | f + 1, p => if p < n ∧ np_T (A p) then we_T A n f (p + 1) else p
def de_T (A : Nat → Int) (n : Nat) : Nat → Nat → Nat
  | 0, p => p
  | f + 1, p => if p < n ∧ dg_T (A p) then de_T A n f (p + 1) else p
/-- the number of k digits from p on -/
def nv_T (A : Nat → Int) (p : Nat) : Nat → Int
  | 0 => 0
  | k + 1 => 10 * nv_T A p k + A (p + k) - 48
/-- the class stops at 2147483648 -/
def nc_T (v : Int) : Int := if 2147483647 < v then 2147483648 else v
/-- the reference goes on to above 3000000000 -/
def nr_T (v x : Int) : Prop := (0 ≤ x ∧ x ≤ 40000000000) ∧ (v ≤ 2147483647 → x = v) ∧ (2147483647 < v → 2147483647 < x)
section
variable {nn : Nat} {h g r : ms_M} {A : Nat → Int} {n : Nat} {α : Type} {Q : α → Prop}
theorem pc_c6e {z : Int} {G : Int → Option α} (k : ∀ v, v = z → Pc (G v) Q) : Pc (ck_6 z G) Q := by
  unfold ck_6; exact pc_if (fun _ => k z rfl) (fun _ => pc_none)
theorem pc_cmp {x y : Int} {F : Int → Option α} (k : ∀ v, (v = 1 ∧ y < x ∨ v = 0 ∧ x = y ∨ v = -1 ∧ x < y) → Pc (F v) Q) : Pc (xl (oq_cmp x y) F) Q := by
  refine pc_xl ?_; intro v e
  refine k v ?_
  unfold oq_cmp at e
  by_cases a : y < x
  · rw [if_pos a] at e; omega
  · rw [if_neg a] at e
    by_cases b : x = y
    · rw [if_pos b] at e; omega
    · rw [if_neg b] at e; omega
theorem c_letter {x : Int} : Pc (qf_X9_isLetter nn x h) (fun u => (u = 0 ∧ ¬ lt_T x) ∨ (u = 1 ∧ lt_T x)) := by
  unfold qf_X9_isLetter qj_X9_isLetter_12
  refine pc_if (fun a => pc_if (fun b => pc_ret ?_) (fun b => pc_if (fun c => pc_ret ?_) (fun c => pc_ret ?_))) (fun a => pc_if (fun b => pc_ret ?_) (fun b => pc_if (fun c => pc_ret ?_) (fun c => pc_if (fun d => pc_ret ?_) (fun d => pc_ret ?_)))) <;> omega
theorem c_digit {x : Int} : Pc (qf_X9_isDigit nn x h) (fun u => (u = 0 ∧ ¬ dg_T x) ∨ (u = 1 ∧ dg_T x)) := by
  unfold qf_X9_isDigit
  refine pc_if (fun a => pc_ret ?_) (fun a => pc_if (fun b => pc_ret ?_) (fun b => pc_ret ?_)) <;> omega
theorem ct_part {x : Int} : Pc (qf_X9_isNamePart nn x h) (fun u => (u = 0 ∧ ¬ np_T x) ∨ (u = 1 ∧ np_T x)) := by
  unfold qf_X9_isNamePart
  refine pc_sv c_letter ?_; intro u1 q1
  refine pc_if (fun a => pc_ret ?_) (fun a => ?_)
  · omega
  refine pc_sv c_digit ?_; intro u2 q2
  refine pc_if (fun b => pc_ret ?_) (fun b => pc_if (fun c => pc_ret ?_) (fun c => pc_ret ?_)) <;> omega
theorem r_letter {x : Int} : Pc (qf_X13_isLetter nn x h) (fun u => (u = 0 ∧ ¬ lt_T x) ∨ (u = 1 ∧ lt_T x)) := by
  unfold qf_X13_isLetter qj_X13_isLetter_12
  refine pc_if (fun a => pc_if (fun b => pc_ret ?_) (fun b => pc_if (fun c => pc_ret ?_) (fun c => pc_ret ?_))) (fun a => pc_if (fun b => pc_ret ?_) (fun b => pc_if (fun c => pc_ret ?_) (fun c => pc_if (fun d => pc_ret ?_) (fun d => pc_ret ?_)))) <;> omega
theorem r_digit {x : Int} : Pc (qf_X13_isDigit nn x h) (fun u => (u = 0 ∧ ¬ dg_T x) ∨ (u = 1 ∧ dg_T x)) := by
  unfold qf_X13_isDigit
  refine pc_if (fun a => pc_ret ?_) (fun a => pc_if (fun b => pc_ret ?_) (fun b => pc_ret ?_)) <;> omega
theorem r_at (T : TXr r A n) {x : Nat} {y : Int} (hy : y = (x : Int)) : Pc (qf_X13_at nn y r) (fun u => (x < n ∧ u = A x) ∨ (¬ x < n ∧ u = 0)) := by
  subst hy
  have t := T.2.1
  unfold qf_X13_at
  refine pc_if (fun c => pc_ret (.inr ⟨by omega, rfl⟩)) (fun c => ?_)
  refine pc_rA ?_; intro i1 i2 v e
  exact pc_ret (.inl ⟨by omega, by rw [e, Int.toNat_natCast]; exact (T.2.2 x (by omega)).2⟩)
/- blanks -/
theorem bbk_45 (T : TXc h A n) {k p f : Nat} {m v : Int} (ih : ∀ (m : Int), Pc (qw_X9_behindBlanks_5 nn k (n : Int) ((p + 1 : Nat) : Int) m h) (fun u => u = ((bk_T A n f m (p + 1) : Nat) : Int))) (hp : p < n) (hv : v = h 1 p) (hs : ¬ (A p = 47 ∧ p + 1 < n ∧ A (p + 1) = 47)) : Pc (qj_X9_behindBlanks_45 nn (qw_X9_behindBlanks_5 nn k) (n : Int) (p : Int) m v h) (fun u => u = ((bk_T A n (f + 1) m p : Nat) : Int)) := by
  obtain ⟨t0, t1⟩ := T
  have t1 := t1 p hp
  have eb : bk_T A n (f + 1) m p = (if A p = 10 then bk_T A n f 0 (p + 1) else if A p = 32 ∨ ¬ m = 0 then bk_T A n f m (p + 1) else p) := by
    show (if n ≤ p then p else if A p = 47 ∧ p + 1 < n ∧ A (p + 1) = 47 then bk_T A n f 1 (p + 1) else _) = _
    rw [if_neg (by omega), if_neg hs]
  rw [eb]
  unfold qj_X9_behindBlanks_45
  refine pc_if (fun c => ?_) (fun c => ?_)
  · have a10 : ¬ A p = 10 := by omega
    rw [if_neg a10]
    refine pc_if (fun c2 => ?_) (fun c2 => ?_)
    · rw [if_pos (show A p = 32 ∨ ¬ m = 0 from .inl (by omega))]
      refine pc_add (by omega) ?_; intro v1 e1
      rw [show v1 = ((p + 1 : Nat) : Int) by omega]
      exact ih m
    · refine pc_if (fun c3 => ?_) (fun c3 => ?_)
      · rw [if_pos (show A p = 32 ∨ ¬ m = 0 from .inr c3)]
        refine pc_add (by omega) ?_; intro v2 e2
        rw [show v2 = ((p + 1 : Nat) : Int) by omega]
        exact ih m
      · rw [if_neg (show ¬ (A p = 32 ∨ ¬ m = 0) by omega)]
        exact pc_ret rfl
  · rw [if_pos (show A p = 10 by omega)]
    refine pc_add (by omega) ?_; intro v5 e5
    rw [show v5 = ((p + 1 : Nat) : Int) by omega]
    exact ih 0
theorem bbk_5 (T : TXc h A n) : ∀ (k p f : Nat) (m : Int), n ≤ p + f → Pc (qw_X9_behindBlanks_5 nn k (n : Int) (p : Int) m h) (fun u => u = ((bk_T A n f m p : Nat) : Int)) := by
  intro k
  induction k with
  | zero => intro p f m hf; exact pc_none
  | succ k ih =>
    intro p f m hf
    unfold qw_X9_behindBlanks_5
    refine pc_if (fun c => ?_) (fun c => ?_)
    · have e : bk_T A n f m p = p := by
        cases f with
        | zero => rfl
        | succ f => show (if n ≤ p then p else _) = p; rw [if_pos (by omega)]
      rw [e]; exact pc_ret rfl
    · obtain ⟨f, rfl⟩ : ∃ j, f = j + 1 := ⟨f - 1, by omega⟩
      have t0 := T.1
      have t1 := T.2 p (by omega)
      refine pc_rA ?_; intro i1 i2 v7 e7
      rw [Int.toNat_natCast] at e7
      have B := fun (hs : ¬ (A p = 47 ∧ p + 1 < n ∧ A (p + 1) = 47)) => bbk_45 (nn := nn) (m := m) T (fun m => ih (p + 1) f m (by omega)) (by omega) e7 hs
      refine pc_if (fun c2 => B (fun z => by omega)) (fun c2 => ?_)
      refine pc_add (by omega) ?_; intro v8 e8
      refine pc_if (fun c3 => B (fun z => by omega)) (fun c3 => ?_)
      refine pc_add (by omega) ?_; intro v9 e9
      refine pc_rA ?_; intro j1 j2 v10 e10
      have e10 : v10 = h 1 (p + 1) := by rw [e10]; congr 1; omega
      have t2 := T.2 (p + 1) (by omega)
      refine pc_if (fun c4 => B (fun z => by omega)) (fun c4 => ?_)
      refine pc_add (by omega) ?_; intro v11 e11
      have eb : bk_T A n (f + 1) m p = bk_T A n f 1 (p + 1) := by
        show (if n ≤ p then p else if A p = 47 ∧ p + 1 < n ∧ A (p + 1) = 47 then bk_T A n f 1 (p + 1) else _) = _
        rw [if_neg (by omega), if_pos ⟨by omega, by omega, by omega⟩]
      rw [eb, show v11 = ((p + 1 : Nat) : Int) by omega]
      exact ih (p + 1) f 1 (by omega)
theorem bb_c (T : TXc h A n) {p : Nat} {x : Int} (hx : x = (p : Int)) : Pc (qf_X9_behindBlanks nn (n : Int) x h) (fun u => u = ((bk_T A n n 0 p : Nat) : Int)) := by
  subst hx
  unfold qf_X9_behindBlanks
  exact bbk_5 T nn p n 0 (by omega)
theorem bk_q : ∀ (f : Nat) (m : Int) (p : Nat), n ≤ p + f → p ≤ n → (p ≤ bk_T A n f m p ∧ bk_T A n f m p ≤ n) ∧ (bk_T A n f m p = n ∨ (¬ A (bk_T A n f m p) = 32 ∧ ¬ A (bk_T A n f m p) = 10 ∧ ¬ (A (bk_T A n f m p) = 47 ∧ bk_T A n f m p + 1 < n ∧ A (bk_T A n f m p + 1) = 47))) := by
  intro f
  induction f with
  | zero => intro m p h1 h2; have e : bk_T A n 0 m p = p := rfl; rw [e]; exact ⟨by omega, .inl (by omega)⟩
  | succ f ih =>
    intro m p h1 h2
    have e : bk_T A n (f + 1) m p = if n ≤ p then p else if A p = 47 ∧ p + 1 < n ∧ A (p + 1) = 47 then bk_T A n f 1 (p + 1) else if A p = 10 then bk_T A n f 0 (p + 1) else if A p = 32 ∨ ¬ m = 0 then bk_T A n f m (p + 1) else p := rfl
    by_cases a : n ≤ p
    · rw [if_pos a] at e
      rw [e]; exact ⟨by omega, .inl (by omega)⟩
    · rw [if_neg a] at e
      have I := fun m => ih m (p + 1) (by omega) (by omega)
      by_cases b : A p = 47 ∧ p + 1 < n ∧ A (p + 1) = 47
      · rw [if_pos b] at e
        rw [e]; have i := I 1; exact ⟨⟨by omega, i.1.2⟩, i.2⟩
      · rw [if_neg b] at e
        by_cases c : A p = 10
        · rw [if_pos c] at e
          rw [e]; have i := I 0; exact ⟨⟨by omega, i.1.2⟩, i.2⟩
        · rw [if_neg c] at e
          by_cases d : A p = 32 ∨ ¬ m = 0
          · rw [if_pos d] at e
            rw [e]; have i := I m; exact ⟨⟨by omega, i.1.2⟩, i.2⟩
          · rw [if_neg d] at e
            rw [e]; exact ⟨by omega, .inr ⟨by omega, c, b⟩⟩
/-- how much fuel does not matter -/
theorem bk_f : ∀ (f f2 : Nat) (m : Int) (p : Nat), n ≤ p + f → n ≤ p + f2 → bk_T A n f m p = bk_T A n f2 m p := by
  intro f
  induction f with
  | zero =>
    intro f2 m p h1 h2
    cases f2 with
    | zero => rfl
    | succ f2 => show p = (if n ≤ p then p else _); rw [if_pos (by omega)]
  | succ f ih =>
    intro f2 m p h1 h2
    by_cases a : n ≤ p
    · cases f2 with
      | zero => show (if n ≤ p then p else _) = p; rw [if_pos a]
      | succ f2 => show (if n ≤ p then p else _) = (if n ≤ p then p else _); rw [if_pos a, if_pos a]
    · obtain ⟨f2, rfl⟩ : ∃ j, f2 = j + 1 := ⟨f2 - 1, by omega⟩
      have I := fun m => ih f2 m (p + 1) (by omega) (by omega)
      have e : ∀ f, bk_T A n (f + 1) m p = if n ≤ p then p else if A p = 47 ∧ p + 1 < n ∧ A (p + 1) = 47 then bk_T A n f 1 (p + 1) else if A p = 10 then bk_T A n f 0 (p + 1) else if A p = 32 ∨ ¬ m = 0 then bk_T A n f m (p + 1) else p := fun _ => rfl
      rw [e f, e f2, I 1, I 0, I m]
theorem rb_58 (T : TXr r A n) {k : Nat} {Q : ms_M → Prop} (ih : ∀ (p f : Nat), n ≤ p + f → p ≤ n → (∀ j, Pc (qw_X13_tokenize_7 nn j ((bk_T A n f 0 p : Nat) : Int) r) Q) → Pc (qw_X13_tokenize_7 nn k (p : Int) r) Q) : ∀ (kk p f : Nat), n ≤ p + f → p ≤ n → (∀ j, Pc (qw_X13_tokenize_7 nn j ((bk_T A n f 1 p : Nat) : Int) r) Q) → Pc (qw_X13_tokenize_58 nn (qw_X13_tokenize_7 nn k) kk (p : Int) r) Q := by
  intro kk
  have t1 := T.2.1
  induction kk with
  | zero => intro p f h1 h2 H; exact pc_none
  | succ kk ik =>
    intro p f h1 h2 H
    unfold qw_X13_tokenize_58
    refine pc_if (fun c => ?_) (fun c => ?_)
    · have e : bk_T A n f 1 p = p := by
        cases f with
        | zero => rfl
        | succ f => show (if n ≤ p then p else _) = p; rw [if_pos (by omega)]
      rw [e] at H; exact H k
    · obtain ⟨f, rfl⟩ : ∃ j, f = j + 1 := ⟨f - 1, by omega⟩
      have t2 := T.2.2 p (by omega)
      refine pc_rA ?_; intro i1 i2 v e
      rw [Int.toNat_natCast, t2.2] at e
      have E : ∀ m, bk_T A n (f + 1) m p = if n ≤ p then p else if A p = 47 ∧ p + 1 < n ∧ A (p + 1) = 47 then bk_T A n f 1 (p + 1) else if A p = 10 then bk_T A n f 0 (p + 1) else if A p = 32 ∨ ¬ m = 0 then bk_T A n f m (p + 1) else p := fun _ => rfl
      have E0 := E 0
      have E1 := E 1
      rw [if_neg (by omega)] at E0 E1
      refine pc_if (fun d => ?_) (fun d => ?_)
      · refine ih p (f + 1) (by omega) (by omega) ?_
        rw [if_neg (by omega), if_pos (by omega)] at E0 E1
        rw [E0, ← E1]; exact H
      · refine pc_add (by omega) ?_; intro v95 e95
        rw [show v95 = ((p + 1 : Nat) : Int) by omega]
        refine ik (p + 1) f (by omega) (by omega) ?_
        by_cases s : A p = 47 ∧ p + 1 < n ∧ A (p + 1) = 47
        · rw [if_pos s] at E1; rw [← E1]; exact H
        · rw [if_neg s, if_neg (by omega), if_pos (.inr (by decide))] at E1; rw [← E1]; exact H
/-- the reference goes behind blanks -/
theorem rb_7 (T : TXr r A n) {Q : ms_M → Prop} : ∀ (k p f : Nat), n ≤ p + f → p ≤ n → (∀ j, Pc (qw_X13_tokenize_7 nn j ((bk_T A n f 0 p : Nat) : Int) r) Q) → Pc (qw_X13_tokenize_7 nn k (p : Int) r) Q := by
  intro k
  have t1 := T.2.1
  induction k with
  | zero => intro p f h1 h2 H; exact pc_none
  | succ k ih =>
    intro p f h1 h2 H
    by_cases z : bk_T A n f 0 p = p
    · rw [z] at H; exact H _
    · have hp : p < n := by
        by_cases a : n ≤ p
        · exfalso; apply z
          cases f with
          | zero => rfl
          | succ f => show (if n ≤ p then p else _) = p; rw [if_pos a]
        · omega
      obtain ⟨f, rfl⟩ : ∃ j, f = j + 1 := ⟨f - 1, by omega⟩
      have E : ∀ m, bk_T A n (f + 1) m p = if n ≤ p then p else if A p = 47 ∧ p + 1 < n ∧ A (p + 1) = 47 then bk_T A n f 1 (p + 1) else if A p = 10 then bk_T A n f 0 (p + 1) else if A p = 32 ∨ ¬ m = 0 then bk_T A n f m (p + 1) else p := fun _ => rfl
      have E0 := E 0
      have E1 := E 1
      rw [if_neg (by omega)] at E0 E1
      have t2 := T.2.2 p hp
      unfold qw_X13_tokenize_7
      refine pc_if (fun c => absurd c (by omega)) (fun _ => ?_)
      refine pc_rA ?_; intro i1 i2 v e
      rw [Int.toNat_natCast, t2.2] at e
      refine pc_if (fun c => ?_) (fun c => ?_)
      · refine pc_add (by omega) ?_; intro v5 e5
        rw [show v5 = ((p + 1 : Nat) : Int) by omega]
        refine ih (p + 1) f (by omega) (by omega) ?_
        rw [if_neg (by omega), if_neg (by omega), if_pos (.inl (by omega))] at E0
        rw [← E0]; exact H
      · refine pc_if (fun c2 => ?_) (fun c2 => ?_)
        · refine pc_if (fun c3 => ?_) (fun c3 => ?_)
          · exfalso; apply z
            rw [if_neg (by omega), if_neg (by omega), if_neg (by omega)] at E0; exact E0
          · refine pc_add (by omega) ?_; intro v6 e6
            refine pc_sv (r_at T (x := p + 1) (by omega)) ?_; intro u8 q8
            refine pc_if (fun c4 => ?_) (fun c4 => ?_)
            · exfalso; apply z
              rw [if_neg (fun w => by omega), if_neg (by omega), if_neg (by omega)] at E0; exact E0
            · refine rb_58 T ih nn p (f + 1) (by omega) (by omega) ?_
              have s : A p = 47 ∧ p + 1 < n ∧ A (p + 1) = 47 := by omega
              rw [if_pos s] at E0 E1
              rw [E1, ← E0]; exact H
        · refine pc_add (by omega) ?_; intro v5 e5
          rw [show v5 = ((p + 1 : Nat) : Int) by omega]
          refine ih (p + 1) f (by omega) (by omega) ?_
          rw [if_neg (by omega), if_pos (by omega)] at E0
          rw [← E0]; exact H
/- words -/
theorem we_q : ∀ (f p : Nat), n ≤ p + f → p ≤ n → (p ≤ we_T A n f p ∧ we_T A n f p ≤ n) ∧ (we_T A n f p = n ∨ ¬ np_T (A (we_T A n f p))) ∧ ∀ i, p ≤ i → i < we_T A n f p → np_T (A i) := by
  intro f
  induction f with
  | zero => intro p h1 h2; have e : we_T A n 0 p = p := rfl; rw [e]; exact ⟨by omega, .inl (by omega), fun i a b => by omega⟩
  | succ f ih =>
    intro p h1 h2
    have e : we_T A n (f + 1) p = if p < n ∧ np_T (A p) then we_T A n f (p + 1) else p := rfl
    by_cases a : p < n ∧ np_T (A p)
    · rw [if_pos a] at e
      obtain ⟨i1, i2, i3⟩ := ih (p + 1) (by omega) (by omega)
      rw [e]
      refine ⟨by omega, i2, fun i b c => ?_⟩
      by_cases d : i = p
      · rw [d]; exact a.2
      · exact i3 i (by omega) c
    · rw [if_neg a] at e
      rw [e]
      refine ⟨by omega, ?_, fun i b c => by omega⟩
      by_cases d : p < n
      · exact .inr (fun w => a ⟨d, w⟩)
      · exact .inl (by omega)
theorem wc_3 (T : TXc h A n) {a : Int} {Q : Int × ms_M → Prop} : ∀ (k p f : Nat), n ≤ p + f → Pc (qj_X9_scanWord_25 nn a ((we_T A n f p : Nat) : Int) h) Q → Pc (qw_X9_scanWord_3 nn k (n : Int) a (p : Int) h) Q := by
  intro k
  have t0 := T.1
  induction k with
  | zero => intro p f h1 H; exact pc_none
  | succ k ih =>
    intro p f h1 H
    unfold qw_X9_scanWord_3
    have N : ¬ (p < n ∧ np_T (A p)) → we_T A n f p = p := fun z => by
      cases f with
      | zero => rfl
      | succ f => show (if p < n ∧ np_T (A p) then _ else p) = p; rw [if_neg z]
    refine pc_if (fun c => ?_) (fun c => ?_)
    · rw [N (by omega)] at H; exact H
    · have t1 := T.2 p (by omega)
      refine pc_rA ?_; intro i1 i2 v e
      rw [Int.toNat_natCast] at e
      refine pc_sv ct_part ?_; intro u q
      refine pc_if (fun d => ?_) (fun d => ?_)
      · rw [N (by omega)] at H; exact H
      · obtain ⟨f, rfl⟩ : ∃ j, f = j + 1 := ⟨f - 1, by omega⟩
        refine pc_add (by omega) ?_; intro v4 e4
        rw [show v4 = ((p + 1 : Nat) : Int) by omega]
        refine ih (p + 1) f (by omega) ?_
        have e : we_T A n (f + 1) p = if p < n ∧ np_T (A p) then we_T A n f (p + 1) else p := rfl
        rw [if_pos (by omega)] at e
        rw [← e]; exact H
theorem wr_92 (T : TXr r A n) {qk : Int → ms_M → Option ms_M} {a : Nat} {Q : ms_M → Prop} : ∀ (k p f : Nat) (c : Int), n ≤ p + f → (a : Int) + c = (p : Int) → p ≤ n → 0 ≤ c → (∀ c2 : Int, (a : Int) + c2 = ((we_T A n f p : Nat) : Int) → Pc (mx_sv (qf_X13_among nn (1000000000 + 2) (a : Int) c2 r) fun u79 => if u79 < 0 then (if 12 < c2 then (qj_X13_tokenize_169 nn qk (a : Int) c2 u79 6 r) else (qj_X13_tokenize_169 nn qk (a : Int) c2 u79 1 r)) else (qj_X13_tokenize_169 nn qk (a : Int) c2 u79 3 r)) Q) → Pc (qw_X13_tokenize_92 nn qk k (a : Int) c r) Q := by
  intro k
  have t0 := T.1
  induction k with
  | zero => intro p f c h1 h2 h3 h4 H; exact pc_none
  | succ k ih =>
    intro p f c h1 h2 h3 h4 H
    have N : ¬ (p < n ∧ np_T (A p)) → we_T A n f p = p := fun z => by
      cases f with
      | zero => rfl
      | succ f => show (if p < n ∧ np_T (A p) then _ else p) = p; rw [if_neg z]
    have Y : p < n ∧ np_T (A p) → ∀ v : Int, v = c + 1 → Pc (qw_X13_tokenize_92 nn qk k (a : Int) v r) Q := fun z v ev => by
      obtain ⟨f, rfl⟩ : ∃ j, f = j + 1 := ⟨f - 1, by omega⟩
      have e : we_T A n (f + 1) p = if p < n ∧ np_T (A p) then we_T A n f (p + 1) else p := rfl
      rw [if_pos z] at e
      rw [e] at H
      exact ih (p + 1) f v (by omega) (by omega) (by omega) (by omega) H
    unfold qw_X13_tokenize_92
    refine pc_add (by omega) ?_; intro v1 e1
    refine pc_sv (r_at T (x := p) (by omega)) ?_; intro u1 q1
    refine pc_sv r_letter ?_; intro u2 q2
    refine pc_if (fun d => ?_) (fun d => ?_)
    · refine pc_add (by omega) ?_; intro v2 e2
      exact Y (by omega) v2 e2
    · refine pc_add (by omega) ?_; intro v3 e3
      refine pc_sv (r_at T (x := p) (by omega)) ?_; intro u3 q3
      refine pc_sv r_digit ?_; intro u4 q4
      refine pc_if (fun d2 => ?_) (fun d2 => ?_)
      · refine pc_add (by omega) ?_; intro v2 e2
        exact Y (by omega) v2 e2
      · refine pc_add (by omega) ?_; intro v4 e4
        refine pc_sv (r_at T (x := p) (by omega)) ?_; intro u5 q5
        refine pc_if (fun d3 => ?_) (fun d3 => ?_)
        · have w := N (by omega)
          exact H c (by rw [w]; omega)
        · refine pc_add (by omega) ?_; intro v2 e2
          exact Y (by omega) v2 e2
/- numbers -/
theorem de_q : ∀ (f p : Nat), n ≤ p + f → p ≤ n → (p ≤ de_T A n f p ∧ de_T A n f p ≤ n) ∧ (de_T A n f p = n ∨ ¬ dg_T (A (de_T A n f p))) ∧ ∀ i, p ≤ i → i < de_T A n f p → dg_T (A i) := by
  intro f
  induction f with
  | zero => intro p h1 h2; have e : de_T A n 0 p = p := rfl; rw [e]; exact ⟨by omega, .inl (by omega), fun i a b => by omega⟩
  | succ f ih =>
    intro p h1 h2
    have e : de_T A n (f + 1) p = if p < n ∧ dg_T (A p) then de_T A n f (p + 1) else p := rfl
    by_cases a : p < n ∧ dg_T (A p)
    · rw [if_pos a] at e
      obtain ⟨i1, i2, i3⟩ := ih (p + 1) (by omega) (by omega)
      rw [e]
      refine ⟨by omega, i2, fun i b c => ?_⟩
      by_cases d : i = p
      · rw [d]; exact a.2
      · exact i3 i (by omega) c
    · rw [if_neg a] at e
      rw [e]
      refine ⟨by omega, ?_, fun i b c => by omega⟩
      by_cases d : p < n
      · exact .inr (fun w => a ⟨d, w⟩)
      · exact .inl (by omega)
theorem nc_s {v d : Int} (hv : 0 ≤ v) (hd : 48 ≤ d ∧ d ≤ 57) : (if 2147483648 < nc_T v * 10 + d - 48 then 2147483648 else nc_T v * 10 + d - 48) = nc_T (10 * v + d - 48) := by
  unfold nc_T
  by_cases a : 2147483647 < v
  · rw [if_pos a, if_pos (show 2147483647 < 10 * v + d - 48 by omega), if_pos (by omega)]
  · rw [if_neg a]
    by_cases b : 2147483647 < 10 * v + d - 48
    · rw [if_pos b]
      by_cases c : 2147483648 < v * 10 + d - 48
      · rw [if_pos c]
      · rw [if_neg c]; omega
    · rw [if_neg b, if_neg (by omega)]; omega
theorem nc_r {v : Int} (hv : 0 ≤ v) : 0 ≤ nc_T v ∧ nc_T v ≤ 2147483648 := by
  unfold nc_T
  by_cases a : 2147483647 < v
  · rw [if_pos a]; omega
  · rw [if_neg a]; omega
theorem nc_6 (T : TXc h A n) {a : Nat} {Q : Int × ms_M → Prop} : ∀ (k j f : Nat), n ≤ a + j + f → 0 ≤ nv_T A a j → (0 ≤ nv_T A a (de_T A n f (a + j) - a) → Pc (qj_X9_scanNumber_52 nn (n : Int) (a : Int) (nc_T (nv_T A a (de_T A n f (a + j) - a))) ((de_T A n f (a + j) : Nat) : Int) h) Q) → Pc (qw_X9_scanNumber_6 nn k (n : Int) (a : Int) (nc_T (nv_T A a j)) ((a + j : Nat) : Int) h) Q := by
  intro k
  have t0 := T.1
  induction k with
  | zero => intro j f h1 h2 H; exact pc_none
  | succ k ih =>
    intro j f h1 h2 H
    unfold qw_X9_scanNumber_6
    have N : ¬ (a + j < n ∧ dg_T (A (a + j))) → de_T A n f (a + j) = a + j := fun z => by
      cases f with
      | zero => rfl
      | succ f => show (if a + j < n ∧ dg_T (A (a + j)) then _ else a + j) = a + j; rw [if_neg z]
    refine pc_if (fun c => ?_) (fun c => ?_)
    · rw [N (by omega), show a + j - a = j by omega] at H; exact H h2
    · have t1 := T.2 (a + j) (by omega)
      refine pc_rA ?_; intro i1 i2 v e
      rw [Int.toNat_natCast] at e
      refine pc_sv c_digit ?_; intro u q
      refine pc_if (fun d => ?_) (fun d => ?_)
      · rw [N (by omega), show a + j - a = j by omega] at H; exact H h2
      · obtain ⟨f, rfl⟩ : ∃ j, f = j + 1 := ⟨f - 1, by omega⟩
        have dg : dg_T (A (a + j)) := by omega
        refine pc_c6e ?_; intro v19 e19
        refine pc_rA ?_; intro k1 k2 v20 e20
        rw [Int.toNat_natCast] at e20
        refine pc_xl ?_; intro v21 e21
        refine pc_c6e ?_; intro v22 e22
        refine pc_c6e ?_; intro v23 e23
        refine pc_xl ?_; intro v24 e24
        refine pc_add (by omega) ?_; intro v25 e25
        have s := nc_s h2 dg
        have en : nv_T A a (j + 1) = 10 * nv_T A a j + A (a + j) - 48 := rfl
        have v23e : v23 = nc_T (nv_T A a j) * 10 + A (a + j) - 48 := by omega
        rw [v23e, s, ← en] at e24
        have e : de_T A n (f + 1) (a + j) = if a + j < n ∧ dg_T (A (a + j)) then de_T A n f (a + j + 1) else a + j := rfl
        rw [if_pos ⟨by omega, dg⟩] at e
        rw [e] at H
        rw [e24, show v25 = ((a + (j + 1) : Nat) : Int) by omega]
        exact ih (j + 1) f (by omega) (by omega) H
theorem nr_s {v x d : Int} (hv : 0 ≤ v) (hd : 48 ≤ d ∧ d ≤ 57) (R : nr_T v x) (hx : x ≤ 3000000000) : nr_T (10 * v + d - 48) (10 * x + d - 48) := by
  obtain ⟨r1, r2, r3⟩ := R
  refine ⟨by omega, fun a => ?_, fun a => ?_⟩
  · have := r2 (by omega); omega
  · by_cases b : v ≤ 2147483647
    · have := r2 b; omega
    · have := r3 (by omega); omega
theorem nr_t {v x d : Int} (hv : 0 ≤ v) (hd : 48 ≤ d ∧ d ≤ 57) (R : nr_T v x) (hx : 3000000000 < x) : nr_T (10 * v + d - 48) x := by
  obtain ⟨r1, r2, r3⟩ := R
  have : 2147483647 < v := by
    by_cases b : v ≤ 2147483647
    · have := r2 b; omega
    · omega
  exact ⟨r1, fun a => by omega, fun a => by omega⟩
theorem nr_189 (T : TXr r A n) {qk : Int → ms_M → Option ms_M} {a : Nat} {l2 : Int} {Q : ms_M → Prop} : ∀ (k j f : Nat) (x c : Int), n ≤ a + j + f → a + j ≤ n → c = (j : Int) → 0 ≤ nv_T A a j → nr_T (nv_T A a j) x → (∀ x2 c2 : Int, nr_T (nv_T A a (de_T A n f (a + j) - a)) x2 → (a : Int) + c2 = ((de_T A n f (a + j) : Nat) : Int) → Pc (xl (oq_cmp x2 2147483647) fun v47 => if 0 < v47 then (qj_X13_tokenize_292 nn qk (a : Int) c2 x2 r) else (if c2 = 1 then (qj_X13_tokenize_263 nn qk (a : Int) c2 x2 r) else (if l2 = 48 then (qj_X13_tokenize_292 nn qk (a : Int) c2 x2 r) else (qj_X13_tokenize_263 nn qk (a : Int) c2 x2 r)))) Q) → Pc (qw_X13_tokenize_189 nn qk k (a : Int) l2 c x r) Q := by
  intro k
  have t0 := T.1
  induction k with
  | zero => intro j f x c h1 h2 h3 h4 h5 H; exact pc_none
  | succ k ih =>
    intro j f x c h1 h2 h3 h4 h5 H
    unfold qw_X13_tokenize_189
    refine pc_add (by omega) ?_; intro v1 e1
    refine pc_sv (r_at T (x := a + j) (by omega)) ?_; intro u1 q1
    refine pc_sv r_digit ?_; intro u2 q2
    refine pc_if (fun d => ?_) (fun d => ?_)
    · have w : de_T A n f (a + j) = a + j := by
        cases f with
        | zero => rfl
        | succ f => show (if a + j < n ∧ dg_T (A (a + j)) then _ else a + j) = a + j; rw [if_neg (by omega)]
      rw [w, show a + j - a = j by omega] at H
      exact H x c h5 (by omega)
    · obtain ⟨f, rfl⟩ : ∃ j, f = j + 1 := ⟨f - 1, by omega⟩
      have hn : a + j < n := by omega
      have dg : dg_T (A (a + j)) := by omega
      have e : de_T A n (f + 1) (a + j) = if a + j < n ∧ dg_T (A (a + j)) then de_T A n f (a + j + 1) else a + j := rfl
      rw [if_pos ⟨hn, dg⟩] at e
      rw [e] at H
      have en : nv_T A a (j + 1) = 10 * nv_T A a j + A (a + j) - 48 := rfl
      refine pc_cmp ?_; intro v51 e51
      refine pc_if (fun b => ?_) (fun b => ?_)
      · refine pc_c6e ?_; intro v52 e52
        refine pc_add (by omega) ?_; intro v53 e53
        refine pc_sv (r_at T (x := a + j) (by omega)) ?_; intro u55 q55
        refine pc_xl ?_; intro v56 e56
        refine pc_c6e ?_; intro v57 e57
        refine pc_c6e ?_; intro v58 e58
        refine pc_add (by omega) ?_; intro v59 e59
        have s := nr_s h4 dg h5 (by omega)
        rw [← en, show 10 * x + A (a + j) - 48 = v58 by omega] at s
        exact ih (j + 1) f v58 v59 (by omega) (by omega) (by omega) (by omega) s H
      · refine pc_add (by omega) ?_; intro v60 e60
        have s := nr_t h4 dg h5 (by omega)
        rw [← en] at s
        exact ih (j + 1) f x v60 (by omega) (by omega) (by omega) (by omega) s H
end
