/- compile, whole: the members of the program -/
section
variable {K : Nat → Int} {T : ms_M} {N : Int}
/-- the parameters' tokens -/
theorem prl_t : ∀ (n : Nat) (i p x : Int), 0 ≤ i → 0 ≤ p → PRL K T n i p x → p ≤ x ∧ ∀ j : Nat, j < n → 0 ≤ T 194 (i.toNat + j) ∧ K (T 194 (i.toNat + j)).toNat = 2 := by
  intro n
  induction n with
  | zero => intro i p x _ _ H; have e : x = p := H; exact ⟨by omega, fun j hj => absurd hj (by omega)⟩
  | succ n ih =>
    intro i p x hi hp H
    obtain ⟨t, bs, rw', TY, ⟨-, -, -, e194⟩, kt, H2⟩ := H
    have tp : p + 1 ≤ t := by unfold TYk at TY; omega
    rcases H2 with ⟨n0, e⟩ | ⟨-, -, H3⟩
    · refine ⟨by omega, fun j hj => ?_⟩
      rw [show i.toNat + j = i.toNat by omega, e194]; exact ⟨by omega, kt⟩
    · obtain ⟨h1, h2⟩ := ih (i + 1) (t + 2) x (by omega) (by omega) H3
      refine ⟨by omega, fun j hj => ?_⟩
      by_cases j0 : j = 0
      · rw [j0, Nat.add_zero, e194]; exact ⟨by omega, kt⟩
      · have a := h2 (j - 1) (by omega)
        rw [show (i + 1).toNat + (j - 1) = i.toNat + j by omega] at a
        exact a
/-- all members: their tokens [p, q), their nodes [a, b) -/
def MEM (K : Nat → Int) (T : ms_M) (N : Int) (m0 m1 : Nat) (p0 q0 a0 b0 : Int) (p q a b : Nat → Int) : Prop := ∀ j : Nat, m0 ≤ j → j < m1 → RMB K T (j : Int) (p j) (q j) (a j) (b j) ∧ (p0 ≤ p j ∧ p j < q j ∧ q j ≤ q0) ∧ (a0 ≤ a j ∧ a j ≤ b j ∧ b j ≤ b0) ∧ (0 ≤ T 188 j ∧ 0 ≤ T 189 j ∧ T 188 j + T 189 j ≤ N) ∧ ∀ i : Nat, m0 ≤ i → i < j → q i ≤ p j ∧ b i ≤ a j
theorem mem_mml : ∀ (n m : Nat) (p0 q0 a0 b0 : Int), MML K T N n (m : Int) p0 q0 a0 b0 → ∃ p q a b : Nat → Int, MEM K T N m (m + n) p0 q0 a0 b0 p q a b := by
  intro n
  induction n with
  | zero => intro m p0 q0 a0 b0 _; exact ⟨fun _ => 0, fun _ => 0, fun _ => 0, fun _ => 0, fun j h1 h2 => absurd h2 (by omega)⟩
  | succ n ih =>
    intro m p0 q0 a0 b0 H
    obtain ⟨-, p2, a2, ⟨h1, h2⟩, R, B8, H3⟩ := H
    rw [Int.toNat_natCast] at B8
    obtain ⟨o1, o2⟩ := mml_ab _ _ _ _ _ _ H3
    rw [show ((m : Int) + 1) = ((m + 1 : Nat) : Int) by omega] at H3
    obtain ⟨p, q, a, b, M⟩ := ih (m + 1) p2 q0 a2 b0 H3
    refine ⟨fun j => if j = m then p0 else p j, fun j => if j = m then p2 else q j, fun j => if j = m then a0 else a j, fun j => if j = m then a2 else b j, fun j j1 j2 => ?_⟩
    by_cases jm : j = m
    · rw [jm]
      show RMB K T (m : Int) (if m = m then p0 else p m) (if m = m then p2 else q m) (if m = m then a0 else a m) (if m = m then a2 else b m) ∧ (p0 ≤ (if m = m then p0 else p m) ∧ (if m = m then p0 else p m) < (if m = m then p2 else q m) ∧ (if m = m then p2 else q m) ≤ q0) ∧ (a0 ≤ (if m = m then a0 else a m) ∧ (if m = m then a0 else a m) ≤ (if m = m then a2 else b m) ∧ (if m = m then a2 else b m) ≤ b0) ∧ (0 ≤ T 188 m ∧ 0 ≤ T 189 m ∧ T 188 m + T 189 m ≤ N) ∧ ∀ i : Nat, m ≤ i → i < m → (if i = m then p2 else q i) ≤ (if m = m then p0 else p m) ∧ (if i = m then a2 else b i) ≤ (if m = m then a0 else a m)
      rw [if_pos rfl, if_pos rfl, if_pos rfl, if_pos rfl]
      exact ⟨R, by omega, by omega, B8, fun i i1 i2 => absurd i2 (by omega)⟩
    · obtain ⟨m1, m2, m3, m4, m5⟩ := M j (by omega) (by omega)
      show RMB K T (j : Int) (if j = m then p0 else p j) (if j = m then p2 else q j) (if j = m then a0 else a j) (if j = m then a2 else b j) ∧ (p0 ≤ (if j = m then p0 else p j) ∧ (if j = m then p0 else p j) < (if j = m then p2 else q j) ∧ (if j = m then p2 else q j) ≤ q0) ∧ (a0 ≤ (if j = m then a0 else a j) ∧ (if j = m then a0 else a j) ≤ (if j = m then a2 else b j) ∧ (if j = m then a2 else b j) ≤ b0) ∧ (0 ≤ T 188 j ∧ 0 ≤ T 189 j ∧ T 188 j + T 189 j ≤ N) ∧ ∀ i : Nat, m ≤ i → i < j → (if i = m then p2 else q i) ≤ (if j = m then p0 else p j) ∧ (if i = m then a2 else b i) ≤ (if j = m then a0 else a j)
      rw [if_neg jm, if_neg jm, if_neg jm, if_neg jm]
      refine ⟨m1, by omega, by omega, m4, fun i i1 i2 => ?_⟩
      by_cases im : i = m
      · rw [if_pos im, if_pos im]; exact ⟨m2.1, m3.1⟩
      · rw [if_neg im, if_neg im]; exact m5 i (by omega) i2
theorem mem_pgm : ∀ (d k m : Nat) (mE : Int) (p0 q0 a0 b0 : Int), PGM K T N d (k : Int) (m : Int) mE p0 q0 a0 b0 → ((m : Int) ≤ mE ∧ p0 ≤ q0 ∧ a0 ≤ b0) ∧ ∃ p q a b : Nat → Int, MEM K T N m mE.toNat p0 q0 a0 b0 p q a b := by
  intro d
  induction d with
  | zero =>
    intro k m mE p0 q0 a0 b0 H
    obtain ⟨e1, e2, e3⟩ := H
    exact ⟨by omega, fun _ => 0, fun _ => 0, fun _ => 0, fun _ => 0, fun j h1 h2 => absurd h2 (by omega)⟩
  | succ d ih =>
    intro k m mE p0 q0 a0 b0 H
    obtain ⟨n, p2, a2, h1, ⟨-, s, e, hs, MM, -, -, eq⟩, H3⟩ := H
    rw [show ((k : Int) + 1) = ((k + 1 : Nat) : Int) by omega, show ((m : Int) + (n : Int)) = ((m + n : Nat) : Int) by omega] at H3
    obtain ⟨⟨o1, o2, o3⟩, p', q', a', b', M'⟩ := ih (k + 1) (m + n) mE p2 q0 a2 b0 H3
    obtain ⟨c1, c2⟩ := mml_ab _ _ _ _ _ _ MM
    obtain ⟨p, q, a, b, M⟩ := mem_mml n m s e a0 a2 MM
    have s1 : p0 ≤ s := by omega
    refine ⟨by omega, fun j => if j < m + n then p j else p' j, fun j => if j < m + n then q j else q' j, fun j => if j < m + n then a j else a' j, fun j => if j < m + n then b j else b' j, fun j j1 j2 => ?_⟩
    show RMB K T (j : Int) (if j < m + n then p j else p' j) (if j < m + n then q j else q' j) (if j < m + n then a j else a' j) (if j < m + n then b j else b' j) ∧ (p0 ≤ (if j < m + n then p j else p' j) ∧ (if j < m + n then p j else p' j) < (if j < m + n then q j else q' j) ∧ (if j < m + n then q j else q' j) ≤ q0) ∧ (a0 ≤ (if j < m + n then a j else a' j) ∧ (if j < m + n then a j else a' j) ≤ (if j < m + n then b j else b' j) ∧ (if j < m + n then b j else b' j) ≤ b0) ∧ (0 ≤ T 188 j ∧ 0 ≤ T 189 j ∧ T 188 j + T 189 j ≤ N) ∧ ∀ i : Nat, m ≤ i → i < j → (if i < m + n then q i else q' i) ≤ (if j < m + n then p j else p' j) ∧ (if i < m + n then b i else b' i) ≤ (if j < m + n then a j else a' j)
    by_cases jm : j < m + n
    · obtain ⟨m1, m2, m3, m4, m5⟩ := M j j1 jm
      rw [if_pos jm, if_pos jm, if_pos jm, if_pos jm]
      refine ⟨m1, by omega, by omega, m4, fun i i1 i2 => ?_⟩
      rw [if_pos (by omega), if_pos (by omega)]; exact m5 i i1 i2
    · obtain ⟨m1, m2, m3, m4, m5⟩ := M' j (by omega) j2
      rw [if_neg jm, if_neg jm, if_neg jm, if_neg jm]
      refine ⟨m1, by omega, by omega, m4, fun i i1 i2 => ?_⟩
      by_cases im : i < m + n
      · obtain ⟨x1, x2, x3, -⟩ := M i i1 im
        rw [if_pos im, if_pos im]; omega
      · rw [if_neg im, if_neg im]; exact m5 i (by omega) i2
/-- a member that is a method: its body -/
theorem rmb_m {j : Nat} {p q a b : Int} (hp : 0 ≤ p) (R : RMB K T (j : Int) p q a b) (h8 : 0 ≤ T 188 j) (m : 0 < T 182 j) : T 182 j ≤ 2 ∧ (∀ i : Nat, (i : Int) < T 189 j → 0 ≤ T 194 ((T 188 j).toNat + i) ∧ K (T 194 ((T 188 j).toNat + i)).toNat = 2) ∧ ∃ x : Int, p ≤ x ∧ x ≤ q ∧ LKn 0 K T 8 0 0 a b x q (T 190 j) ∧ T 169 (T 190 j).toNat = x := by
  obtain ⟨p1, t, bs, rw', hp1, ht, ⟨-, -, -, e186, kt⟩, R2⟩ := R
  rw [Int.toNat_natCast] at R2
  have p1b : p ≤ p1 := by omega
  have tb : p1 + 1 ≤ t := by
    rcases ht with ⟨-, -, -, e⟩ | ⟨-, TY⟩
    · omega
    · unfold TYk at TY; omega
  rcases R2 with ⟨-, -, e, -⟩ | ⟨n, x, -, h182, -, e189, PR, -, LK⟩
  · omega
  · obtain ⟨x1, x2⟩ := prl_t n (T 188 j) (t + 2) x h8 (by omega) PR
    obtain ⟨bl, bk⟩ := lk_bl LK
    refine ⟨by omega, fun i hi => x2 i (by omega), x + 1, by omega, ?_, LK, (bk rfl).2⟩
    exact bl.1
/-- types of members: what tokens they stand on -/
theorem rmb_t {j : Nat} {p q a b : Int} (hp : 0 ≤ p) (R : RMB K T (j : Int) p q a b) (h8 : 0 ≤ T 188 j) : (T 183 j = 3 → K (T 184 j).toNat = 2) ∧ 0 ≤ T 182 j ∧ ∀ i : Nat, (i : Int) < T 189 j → T 191 ((T 188 j).toNat + i) = 3 → K (T 192 ((T 188 j).toNat + i)).toNat = 2 := by
  obtain ⟨p1, t, bs, rw', hp1, ht, ⟨e183, e184, -, e186, kt⟩, R2⟩ := R
  rw [Int.toNat_natCast] at R2 e183 e184
  refine ⟨fun z => ?_, ?_, ?_⟩
  · rw [e184]
    rcases ht with ⟨-, e, -⟩ | ⟨-, TY⟩
    · omega
    · unfold TYk at TY
      rcases TY with ⟨-, e, -⟩ | ⟨⟨-, e⟩ | ⟨e, -⟩, -⟩
      · omega
      · omega
      · exact e
  · rcases R2 with ⟨-, -, e, -⟩ | ⟨n, x, -, h182, -⟩
    · omega
    · omega
  · rcases R2 with ⟨-, -, -, e, -⟩ | ⟨n, x, -, -, -, e189, PR, -⟩
    · intro i hi; omega
    · have PT : ∀ (n : Nat) (i p : Int), 0 ≤ i → PRL K T n i p x → ∀ j : Nat, j < n → T 191 (i.toNat + j) = 3 → K (T 192 (i.toNat + j)).toNat = 2 := by
        intro n
        induction n with
        | zero => intro i p _ _ j hj; exact absurd hj (by omega)
        | succ n ih =>
          intro i p hi H j hj z
          obtain ⟨t, bs, rw', TY, ⟨e1, e2, -, -⟩, kt, H2⟩ := H
          by_cases j0 : j = 0
          · rw [j0, Nat.add_zero] at z ⊢
            rw [e2]
            unfold TYk at TY
            rcases TY with ⟨-, e, -⟩ | ⟨⟨-, e⟩ | ⟨e, -⟩, -⟩
            · omega
            · omega
            · exact e
          · rcases H2 with ⟨n0, -⟩ | ⟨-, -, H3⟩
            · omega
            · have a := ih (i + 1) (t + 2) (by omega) H3 (j - 1) (by omega)
              rw [show (i + 1).toNat + (j - 1) = i.toNat + j by omega] at a
              exact a z
      exact fun i hi => PT n (T 188 j) (t + 2) h8 PR i (by omega)
end
