/- TOKENS: among, and the known names -/
/-- the word behind place k of the list is the text at p -/
def MA_ (a n0 : Nat) (p n : Int) (h : ms_M) (k : Nat) : Prop := cx_ a (k : Int) = 32 ∧ (k : Int) + n + 1 < (n0 : Int) ∧ cx_ a ((k : Int) + n + 1) = 32 ∧ ∀ i : Nat, (i : Int) < n → cx_ a ((k : Int) + 1 + i) = h 162 (p.toNat + i)
def AMS (a n0 : Nat) (p n : Int) (h : ms_M) (u : Int) : Prop := (u = -1 ∧ ∀ k : Nat, ¬ MA_ a n0 p n h k) ∨ ∃ k : Nat, MA_ a n0 p n h k ∧ u = sp_ a k
section
variable {nn a n0 : Nat} {h g r : ms_M} {p n : Int} {Q : Int → Prop}
theorem aq_119 {qk : Nat → Int → Int → Int → Int → ms_M → Option Int} {w k l : Int} (hk : 0 ≤ k ∧ k ≤ 2000) (hy : ¬ l = 0 → Q w) (hn : l = 0 → Pc (qk a p n w (k + 1) h) Q) : Pc (qj_X13_among_119 nn qk a p n w k l h) Q := by
  unfold qj_X13_among_119
  refine pc_if (fun c => ?_) (fun c => pc_ret (hy c))
  refine pc_add (by omega) ?_; intro v e
  rw [e]; exact hn c
theorem aq_72 (X : XT_ a n0) (hp : 0 ≤ p ∧ p ≤ 3000) (h0 : 0 ≤ n ∧ n ≤ 3000) {qk : Nat → Int → Int → Int → Int → ms_M → Option Int} {w k : Int} (hk : 0 ≤ k ∧ k ≤ 1000) (Y : (∀ i : Nat, (i : Int) < n → cx_ a (k + 1 + i) = h 162 (p.toNat + i)) → Q w) (N : ¬ (∀ i : Nat, (i : Int) < n → cx_ a (k + 1 + i) = h 162 (p.toNat + i)) → Pc (qk a p n w (k + 1) h) Q) : ∀ (f : Nat) (l : Int) (i : Nat), ((l = 1 ∧ k + n + 1 < (n0 : Int) ∧ ∀ j : Nat, j < i → (j : Int) < n → cx_ a (k + 1 + j) = h 162 (p.toNat + j)) ∨ (l = 0 ∧ ¬ ∀ i : Nat, (i : Int) < n → cx_ a (k + 1 + i) = h 162 (p.toNat + i))) → Pc (qw_X13_among_72 nn qk f a p n w k l (i : Int) h) Q := by
  intro f
  have x0 := X.1
  induction f with
  | zero => intro l i _; exact pc_none
  | succ f ih =>
    intro l i H
    unfold qw_X13_among_72
    refine pc_if (fun c => aq_119 (by omega) (fun z => ?_) (fun z => ?_)) (fun c => ?_)
    · rcases H with ⟨-, -, H⟩ | ⟨H, -⟩
      · exact Y (fun j hj => H j (by omega) hj)
      · exact absurd H z
    · rcases H with ⟨H, -⟩ | ⟨-, H⟩
      · omega
      · exact N H
    refine pc_if (fun c2 => aq_119 (by omega) (fun z => absurd c2 z) (fun z => ?_)) (fun c2 => ?_)
    · rcases H with ⟨H, -⟩ | ⟨-, H⟩
      · omega
      · exact N H
    rcases H with ⟨l1, H0, H⟩ | ⟨H, -⟩
    · refine pc_add (by omega) ?_; intro v3 e3
      refine pc_add (by omega) ?_; intro v4 e4
      rw [X.2.2.1 v4 (by omega) (by omega)]
      refine pc_add (by omega) ?_; intro v7 e7
      refine pc_rA ?_; intro i1 i2 v8 e8
      have e8 : v8 = h 162 (p.toNat + i) := by rw [e8]; congr 1; omega
      have e4 : v4 = k + 1 + i := by omega
      refine pc_if (fun c3 => ?_) (fun c3 => ?_)
      · refine pc_add (by omega) ?_; intro v9 e9
        rw [show v9 = ((i + 1 : Nat) : Int) by omega]
        refine ih 0 (i + 1) (.inr ⟨rfl, fun z => c3 ?_⟩)
        rw [e8, e4]; exact z i (by omega)
      · refine pc_add (by omega) ?_; intro v9 e9
        rw [show v9 = ((i + 1 : Nat) : Int) by omega]
        refine ih 1 (i + 1) (.inl ⟨rfl, H0, fun j a1 a2 => ?_⟩)
        by_cases z : j = i
        · rw [z, ← e4, ← e8]; exact Decidable.not_not.1 c3
        · exact H j (by omega) a2
    · exact absurd H c2
theorem aq_6 (X : XT_ a n0) (hp : 0 ≤ p ∧ p ≤ 3000) (h0 : 0 ≤ n ∧ n ≤ 3000) : ∀ (f k : Nat), k ≤ n0 → (∀ k2 : Nat, k2 < k → ¬ MA_ a n0 p n h k2) → Pc (qw_X13_among_6 nn f a p n (sp_ a k - 1) (k : Int) h) (AMS a n0 p n h) := by
  intro f
  induction f with
  | zero => intro k a1 _; exact pc_none
  | succ f ih =>
    intro k a1 H
    have x0 := X.1
    have s0 := X.2.2.2 k a1
    unfold qw_X13_among_6
    refine pc_add (by omega) ?_; intro v14 e14
    rw [X.2.1]
    refine pc_if (fun c => pc_ret (.inl ⟨rfl, fun k2 m => ?_⟩)) (fun c => ?_)
    · by_cases z : k2 < k
      · exact H k2 z m
      · have := m.2.1; omega
    rw [X.2.2.1 (k : Int) (by omega) (by omega)]
    have s1 : sp_ a (k + 1) = sp_ a k + (if cx_ a (k : Int) = 32 then 1 else 0) := rfl
    have nx : ¬ MA_ a n0 p n h k → Pc (qw_X13_among_6 nn f a p n (sp_ a (k + 1) - 1) ((k : Int) + 1) h) (AMS a n0 p n h) := fun z => by
      have := ih (k + 1) (by omega) (fun k2 b => by
        by_cases y : k2 = k
        · rw [y]; exact z
        · exact H k2 (by omega))
      rw [show ((k + 1 : Nat) : Int) = (k : Int) + 1 by omega] at this
      exact this
    refine pc_if (fun c2 => ?_) (fun c2 => ?_)
    · rw [if_pos c2] at s1
      refine pc_add (by omega) ?_; intro v17 e17
      have nx : ¬ MA_ a n0 p n h k → Pc (qw_X13_among_6 nn f a p n v17 ((k : Int) + 1) h) (AMS a n0 p n h) := fun z => by rw [e17, show sp_ a k - 1 + 1 = sp_ a (k + 1) - 1 by omega]; exact nx z
      have no : ¬ MA_ a n0 p n h k → Pc (qj_X13_among_66 nn (qw_X13_among_6 nn f) a p n v17 (k : Int) h) (AMS a n0 p n h) := fun z => by
        unfold qj_X13_among_66
        cases nn with
        | zero => exact pc_none
        | succ m =>
          unfold qw_X13_among_72
          have D : Pc (qj_X13_among_119 (m + 1) (qw_X13_among_6 (m + 1) f) a p n v17 (k : Int) 0 h) (AMS a n0 p n h) := aq_119 (by omega) (fun y => absurd rfl y) (fun _ => nx z)
          exact pc_if (fun _ => D) (fun _ => pc_if (fun _ => D) (fun y => absurd rfl y))
      refine pc_add (by omega) ?_; intro v18 e18
      refine pc_add (by omega) ?_; intro v19 e19
      rw [X.2.1]
      refine pc_if (fun c3 => no (fun z => by have := z.2.1; omega)) (fun c3 => ?_)
      refine pc_add (by omega) ?_; intro v21 e21
      refine pc_add (by omega) ?_; intro v22 e22
      rw [X.2.2.1 v22 (by omega) (by omega)]
      have e22 : v22 = (k : Int) + n + 1 := by omega
      refine pc_if (fun c4 => no (fun z => c4 (by rw [e22]; exact z.2.2.1))) (fun c4 => ?_)
      have c4 : cx_ a ((k : Int) + n + 1) = 32 := by rw [← e22]; exact Decidable.not_not.1 c4
      refine aq_72 X hp h0 (by omega) (fun z => .inr ⟨k, ⟨c2, by omega, c4, z⟩, by omega⟩) (fun z => nx (fun y => z y.2.2.2)) nn 1 0 (.inl ⟨rfl, by omega, fun j b => by omega⟩)
    · rw [if_neg c2] at s1
      refine pc_add (by omega) ?_; intro v26 e26
      rw [e26, show sp_ a k - 1 = sp_ a (k + 1) - 1 by omega]
      exact nx (fun z => c2 z.1)
theorem aq_c (X : XT_ a n0) (hp : 0 ≤ p ∧ p ≤ 3000) (h0 : 0 ≤ n ∧ n ≤ 3000) : Pc (qf_X13_among nn a p n h) (AMS a n0 p n h) := by
  have := aq_6 (nn := nn) (h := h) X hp h0 nn 0 (Nat.zero_le _) (fun k2 b => by omega)
  exact this
end
/-- the list a has the known names from o on, m of them -/
def kw_T (a n0 o m : Nat) : Bool := (List.range (n0 - 1)).all (fun k => !(decide (cx_ a (k : Int) = 32)) || (decide (0 ≤ sp_ a k) && decide ((sp_ a k).toNat < m) && decide (k + (kl_T (o + (sp_ a k).toNat)).length + 1 < n0) && decide (cx_ a (((k + (kl_T (o + (sp_ a k).toNat)).length + 1 : Nat)) : Int) = 32) && (List.range (kl_T (o + (sp_ a k).toNat)).length).all (fun i => decide (cx_ a ((k + 1 + i : Nat) : Int) = (kl_T (o + (sp_ a k).toNat)).getD i 0) && !(decide ((kl_T (o + (sp_ a k).toNat)).getD i 0 = 32))))) && (List.range m).all (fun j => (List.range (n0 - 1)).any (fun k => decide (cx_ a (k : Int) = 32) && decide (sp_ a k = (j : Int))))
set_option maxRecDepth 100000 in
theorem kw_2 : kw_T (1000000000 + 2) 133 9 22 = true := by decide +kernel
set_option maxRecDepth 100000 in
theorem kw_3 : kw_T (1000000000 + 3) 77 0 8 = true := by decide +kernel
set_option maxRecDepth 100000 in
theorem kw_4 : kw_T (1000000000 + 4) 8 8 1 = true := by decide +kernel
section
variable {nn a n0 o m : Nat} {h g r : ms_M} {p n : Int}
theorem kw_k (K : kw_T a n0 o m = true) {k : Nat} (hk : k + 1 < n0) (c : cx_ a (k : Int) = 32) : ∃ j : Nat, sp_ a k = (j : Int) ∧ j < m ∧ (k + (kl_T (o + j)).length + 1 < n0) ∧ cx_ a ((k : Int) + (kl_T (o + j)).length + 1) = 32 ∧ ∀ i : Nat, i < (kl_T (o + j)).length → cx_ a ((k : Int) + 1 + i) = (kl_T (o + j)).getD i 0 ∧ ¬ (kl_T (o + j)).getD i 0 = 32 := by
  unfold kw_T at K
  rw [Bool.and_eq_true] at K
  have K1 := List.all_eq_true.1 K.1 k (List.mem_range.2 (by omega))
  rw [decide_eq_true c] at K1
  simp only [Bool.not_true, Bool.false_or, Bool.and_eq_true, decide_eq_true_eq, List.all_eq_true, List.mem_range, Bool.not_eq_true', decide_eq_false_iff_not] at K1
  obtain ⟨⟨⟨⟨k1, k2⟩, k3⟩, k4⟩, k5⟩ := K1
  refine ⟨(sp_ a k).toNat, by omega, k2, k3, ?_, fun i hi => ?_⟩
  · rw [show (k : Int) + (kl_T (o + (sp_ a k).toNat)).length + 1 = ((k + (kl_T (o + (sp_ a k).toNat)).length + 1 : Nat) : Int) by omega]; exact k4
  · have := k5 i hi
    rw [show (k : Int) + 1 + i = ((k + 1 + i : Nat) : Int) by omega]; exact this
theorem kw_j (K : kw_T a n0 o m = true) {j : Nat} (hj : j < m) : ∃ k : Nat, k + 1 < n0 ∧ cx_ a (k : Int) = 32 ∧ sp_ a k = (j : Int) := by
  unfold kw_T at K
  rw [Bool.and_eq_true] at K
  have K1 := List.all_eq_true.1 K.2 j (List.mem_range.2 hj)
  obtain ⟨k, k1, k2⟩ := List.any_eq_true.1 K1
  rw [Bool.and_eq_true, decide_eq_true_iff, decide_eq_true_iff] at k2
  have := List.mem_range.1 k1
  exact ⟨k, by omega, k2⟩
/-- the reference finds a word of the list just where the class's number says so -/
theorem am_id (K : kw_T a n0 o m = true) (ho : o + m ≤ 32) (T : NTB h) (KT : KT_ h) {i : Nat} {u : Int} (hn : 1 ≤ n) (hi : (i : Int) < h 2 9) (N : NMt h i n (fun k => r 162 (p.toNat + k))) (hs : ∀ k : Nat, (k : Int) < n → ¬ r 162 (p.toNat + k) = 32) (S : AMS a n0 p n r u) : (u = -1 ∧ ¬ (o ≤ i ∧ i < o + m)) ∨ ∃ j : Nat, u = (j : Int) ∧ j < m ∧ i = o + j := by
  have t0 := T.1.1
  rcases S with ⟨s1, s2⟩ | ⟨k, ⟨s1, s2, s3, s4⟩, s5⟩
  · refine .inl ⟨s1, fun z => ?_⟩
    obtain ⟨k, k1, k2, k3⟩ := kw_j K (j := i - o) (by omega)
    obtain ⟨j, j1, j2, j3, j4, j5⟩ := kw_k K k1 k2
    have ej : o + j = i := by omega
    rw [ej] at j3 j4 j5
    have M := kt_n KT (i := i) (by omega)
    have el : n = ((kl_T i).length : Int) := by rw [← N.1]; exact M.1
    refine s2 k ⟨k2, by omega, by rw [el]; exact j4, fun x hx => ?_⟩
    rw [(j5 x (by omega)).1]
    exact (M.2 x (by omega)).symm.trans (N.2 x hx)
  · obtain ⟨j, j1, j2, j3, j4, j5⟩ := kw_k K (k := k) (by omega) s1
    have M := kt_n KT (i := o + j) (by omega)
    have el : n = ((kl_T (o + j)).length : Int) := by
      by_cases y : ((kl_T (o + j)).length : Int) < n
      · exfalso
        refine hs _ y ?_
        rw [← s4 _ y, show (k : Int) + 1 + (kl_T (o + j)).length = (k : Int) + (kl_T (o + j)).length + 1 by omega]; exact j4
      · by_cases y2 : n < ((kl_T (o + j)).length : Int)
        · exfalso
          have w := j5 n.toNat (by omega)
          rw [show (k : Int) + 1 + (n.toNat : Nat) = (k : Int) + n + 1 by omega, s3] at w
          exact w.2 w.1.symm
        · omega
    refine .inr ⟨j, by omega, j2, ?_⟩
    refine nt_eq T hi (by omega) N ⟨by rw [el]; exact M.1, fun x hx => ?_⟩
    exact (M.2 x (by omega)).trans ((j5 x (by omega)).1.symm.trans (s4 x hx))
end
