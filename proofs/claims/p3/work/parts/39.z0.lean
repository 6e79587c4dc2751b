/-- the reference's word lists -/
def cx_ (a : Nat) (j : Int) : Int := match xsc a (Int32.ofInt j) with
  | some c => c.toInt
  | none => -1
def sp_ (a : Nat) : Nat → Int
  | 0 => 0
  | k + 1 => sp_ a k + (if cx_ a (k : Int) = 32 then 1 else 0)
def XT_ (a n : Nat) : Prop := n ≤ 1000 ∧ (∀ (G : Int → Option Int), ln_X a G = G (n : Int)) ∧ (∀ j : Int, 0 ≤ j → j < (n : Int) → ∀ (G : Int → Option Int), rd_X a j G = G (cx_ a j)) ∧ (∀ k : Nat, k ≤ n → 0 ≤ sp_ a k ∧ sp_ a k ≤ 100)
def xt_ck (a : Nat) (i : Nat) : Bool := match xsc a (Int32.ofInt (i : Int)) with
  | some _ => true
  | none => false
theorem xt_rd {a n : Nat} (h : (List.range n).all (xt_ck a) = true) (j : Int) (h0 : 0 ≤ j) (hj : j < (n : Int)) (G : Int → Option Int) : rd_X a j G = G (cx_ a j) := by
  have h1 := List.all_eq_true.1 h j.toNat (List.mem_range.2 (by omega))
  unfold xt_ck at h1
  have e : ((j.toNat : Nat) : Int) = j := by omega
  rw [e] at h1
  unfold rd_X cx_
  revert h1
  cases xsc a (Int32.ofInt j) with
  | none => intro h1; cases h1
  | some c => intro _; rfl
theorem sp_b {a : Nat} : ∀ k : Nat, 0 ≤ sp_ a k ∧ sp_ a k ≤ (k : Int) := by
  intro k
  induction k with
  | zero => exact ⟨Int.le_refl _, Int.le_refl _⟩
  | succ k ih => unfold sp_; split <;> omega
set_option maxRecDepth 100000 in
theorem XT_2 : XT_ (1000000000 + 2) 133 := by
  refine ⟨by omega, fun G => rfl, fun j h0 hj G => xt_rd (by decide +kernel) j h0 hj G, fun k hk => ?_⟩
  have h : (List.range 134).all (fun k => decide (sp_ (1000000000 + 2) k ≤ 100)) = true := by decide +kernel
  have h1 := List.all_eq_true.1 h k (List.mem_range.2 (by omega))
  exact ⟨(sp_b k).1, of_decide_eq_true h1⟩
set_option maxRecDepth 100000 in
theorem XT_3 : XT_ (1000000000 + 3) 77 := by
  refine ⟨by omega, fun G => rfl, fun j h0 hj G => xt_rd (by decide +kernel) j h0 hj G, fun k hk => ?_⟩
  have := sp_b (a := 1000000000 + 3) k
  omega
set_option maxRecDepth 100000 in
theorem XT_4 : XT_ (1000000000 + 4) 8 := by
  refine ⟨by omega, fun G => rfl, fun j h0 hj G => xt_rd (by decide +kernel) j h0 hj G, fun k hk => ?_⟩
  have := sp_b (a := 1000000000 + 4) k
  omega
/-- what among answers: nothing, or the number of a word as long as the one that is looked for -/
def QA_ (a n0 : Nat) (n : Int) (u : Int) : Prop := u = -1 ∨ ∃ k : Nat, (k : Int) + n + 1 < (n0 : Int) ∧ cx_ a (k : Int) = 32 ∧ cx_ a ((k : Int) + n + 1) = 32 ∧ u = sp_ a k
section
variable {nn a n0 : Nat} {p n : Int} {h : ms_M}
theorem am_119 {qk : Nat → Int → Int → Int → Int → ms_M → Option Int} {Q : Int → Prop} {w k l : Int} (hk : 0 ≤ k ∧ k ≤ 2000) (hw : ¬ l = 0 → Q w) (hq : Ok_ (qk a p n w (k + 1) h) Q) : Ok_ (qj_X13_among_119 nn qk a p n w k l h) Q := by
  unfold qj_X13_among_119
  refine ok_if (fun C => ?_) (fun C => ok_ret (hw C))
  refine ok_add (by omega) ?_; intro v e
  rw [e]; exact hq
theorem am_72 (X : XT_ a n0) (V : VS_ h) (hp : 0 ≤ p) (h0 : 0 ≤ n) (hpn : p + n ≤ 3000) {qk : Nat → Int → Int → Int → Int → ms_M → Option Int} {Q : Int → Prop} {w k : Int} (hk : 0 ≤ k ∧ k ≤ 2000) (hq : Ok_ (qk a p n w (k + 1) h) Q) : ∀ (f : Nat) (l i : Int), 0 ≤ i → i ≤ n → (l = 0 ∨ l = 1) → (¬ l = 0 → Q w ∧ k + n + 1 < (n0 : Int)) → n - i < (f : Int) → Ok_ (qw_X13_among_72 nn qk f a p n w k l i h) Q := by
  intro f
  induction f with
  | zero => intro l i a1 a2 a3 a4 hm; exfalso; omega
  | succ f ih =>
    intro l i a1 a2 a3 a4 hm
    unfold qw_X13_among_72
    refine ok_if (fun C => am_119 hk (fun z => (a4 z).1) hq) (fun C => ?_)
    refine ok_if (fun C2 => am_119 hk (fun z => (a4 z).1) hq) (fun C2 => ?_)
    have a5 := a4 C2
    have x0 := X.1
    refine ok_add (by omega) ?_; intro v3 e3
    refine ok_add (by omega) ?_; intro v4 e4
    rw [X.2.2.1 v4 (by omega) (by omega)]
    refine ok_add (by omega) ?_; intro v7 e7
    refine ok_rd (by omega) (gA_162 V) ?_; intro v8 e8 a8 b8
    refine ok_if (fun C3 => ?_) (fun C3 => ?_)
    · refine ok_add (by omega) ?_; intro v9 e9
      exact ih 0 v9 (by omega) (by omega) (.inl rfl) (fun z => absurd rfl z) (by omega)
    · refine ok_add (by omega) ?_; intro v9 e9
      exact ih 1 v9 (by omega) (by omega) (.inr rfl) (fun _ => a5) (by omega)
theorem am_6 (hn : 1000000 ≤ nn) (X : XT_ a n0) (V : VS_ h) (hp : 0 ≤ p) (h0 : 0 ≤ n) (hpn : p + n ≤ 3000) : ∀ (f k : Nat), k ≤ n0 → (n0 : Int) - k < (f : Int) → Ok_ (qw_X13_among_6 nn f a p n (sp_ a k - 1) (k : Int) h) (QA_ a n0 n) := by
  intro f
  induction f with
  | zero => intro k a1 hm; exfalso; omega
  | succ f ih =>
    intro k a1 hm
    have x0 := X.1
    have s0 := X.2.2.2 k a1
    unfold qw_X13_among_6
    refine ok_add (by omega) ?_; intro v14 e14
    rw [X.2.1]
    refine ok_if (fun C => ok_ret (.inl rfl)) (fun C => ?_)
    rw [X.2.2.1 (k : Int) (by omega) (by omega)]
    have nx : Ok_ (qw_X13_among_6 nn f a p n (sp_ a (k + 1) - 1) ((k : Int) + 1) h) (QA_ a n0 n) := ih (k + 1) (by omega) (by omega)
    have s1 : sp_ a (k + 1) = sp_ a k + (if cx_ a (k : Int) = 32 then 1 else 0) := rfl
    refine ok_if (fun C2 => ?_) (fun C2 => ?_)
    · rw [if_pos C2] at s1
      refine ok_add (by omega) ?_; intro v17 e17
      have nx : Ok_ (qw_X13_among_6 nn f a p n v17 ((k : Int) + 1) h) (QA_ a n0 n) := by rw [e17, show sp_ a k - 1 + 1 = sp_ a (k + 1) - 1 by omega]; exact nx
      have no : Ok_ (qj_X13_among_66 nn (qw_X13_among_6 nn f) a p n v17 (k : Int) h) (QA_ a n0 n) := by
        unfold qj_X13_among_66
        exact am_72 X V hp h0 hpn (by omega) nx nn 0 0 (by omega) (by omega) (.inl rfl) (fun z => absurd rfl z) (by omega)
      refine ok_add (by omega) ?_; intro v18 e18
      refine ok_add (by omega) ?_; intro v19 e19
      rw [X.2.1]
      refine ok_if (fun C3 => no) (fun C3 => ?_)
      refine ok_add (by omega) ?_; intro v21 e21
      refine ok_add (by omega) ?_; intro v22 e22
      rw [X.2.2.1 v22 (by omega) (by omega)]
      refine ok_if (fun C4 => no) (fun C4 => ?_)
      refine am_72 X V hp h0 hpn (by omega) nx nn 1 0 (by omega) (by omega) (.inr rfl) (fun _ => ⟨.inr ⟨k, by omega, C2, ?_, by omega⟩, by omega⟩) (by omega)
      rw [show (k : Int) + n + 1 = v22 by omega]
      exact Decidable.not_not.1 C4
    · rw [if_neg C2] at s1
      refine ok_add (by omega) ?_; intro v26 e26
      rw [e26, show sp_ a k - 1 = sp_ a (k + 1) - 1 by omega]; exact nx
theorem am_ok (hn : 1000000 ≤ nn) (X : XT_ a n0) (V : VS_ h) (hp : 0 ≤ p) (h0 : 0 ≤ n) (hpn : p + n ≤ 3000) : Ok_ (qf_X13_among nn a p n h) (QA_ a n0 n) := am_6 hn X V hp h0 hpn nn 0 (Nat.zero_le _) (by have := X.1; omega)
end
theorem sp_3 : (List.range 133).all (fun k => !(decide (cx_ (1000000000 + 2) ((k : Nat) : Int) = 32) && decide (sp_ (1000000000 + 2) k = 3)) || Nat.beq k 20) = true := by decide +kernel
theorem sp_5 : (List.range 5).all (fun n => !(decide (cx_ (1000000000 + 2) (((20 + n + 1 : Nat)) : Int) = 32))) = true := by decide +kernel
theorem qa_2 {n u : Int} (h0 : 0 ≤ n) (q : QA_ (1000000000 + 2) 133 n u) : (-1 ≤ u ∧ u ≤ 100) ∧ (u = 3 → 5 ≤ n) := by
  rcases q with q | ⟨k, k1, k2, k3, k4⟩
  · omega
  · have b := XT_2.2.2.2 k (by omega)
    refine ⟨by omega, fun z => ?_⟩
    have h1 := List.all_eq_true.1 sp_3 k (List.mem_range.2 (by omega))
    rw [decide_eq_true k2, decide_eq_true (show sp_ (1000000000 + 2) k = 3 by omega)] at h1
    have k20 : k = 20 := Nat.eq_of_beq_eq_true h1
    by_cases y : 5 ≤ n
    · exact y
    · have h2 := List.all_eq_true.1 sp_5 n.toNat (List.mem_range.2 (by omega))
      rw [show ((20 + n.toNat + 1 : Nat) : Int) = (k : Int) + n + 1 by omega, decide_eq_true k3] at h2
      cases h2
