/-- the parts of a constant that is no TEXT, the class -/
theorem rn_84 {nn : Nat} {b : Nat} {B : Nat → Int} {n : Nat} {tag : Int} (ht : ¬ tag = 1) : ∀ (m k q i : Nat) (M : ms_M), sr_I M b B n → M b 3 = -1 → M b 2 = (q : Int) → q ≤ n → i + m ≤ 300 → m + 1 < k → ∃ M2, qw_X3_readConstant_84 nn k b tag ((i + m : Nat) : Int) (i : Int) M = some M2 ∧ (∀ c j, ¬ (c = b ∧ (j = 2 ∨ j = 3)) → M2 c j = M c j) ∧ (q + m ≤ n → M2 b 2 = ((q + m : Nat) : Int) ∧ M2 b 3 = -1) ∧ (¬ q + m ≤ n → M2 b 3 = (n : Int)) := by
  intro m
  induction m with
  | zero =>
    intro k q i M h hf hq hqn _ h2
    obtain ⟨k, rfl⟩ : ∃ k2, k = k2 + 1 := ⟨k - 1, by omega⟩
    exact ⟨M, by unfold qw_X3_readConstant_84; rw [if_pos (by omega)], fun _ _ _ => rfl, fun _ => ⟨by omega, hf⟩, fun hz => by omega⟩
  | succ m ih =>
    intro k q i M h hf hq hqn h1 h2
    obtain ⟨k, rfl⟩ : ∃ k2, k = k2 + 2 := ⟨k - 2, by omega⟩
    have n6 := h.2.1
    have e3 : oq_add (i : Int) 1 = ((i + 1 : Nat) : Int) := by rw [oq_add_eq (by omega) (by omega) (by omega)]; omega
    have e4 : i + 1 + m = i + (m + 1) := by omega
    have head : qw_X3_readConstant_84 nn (k + 2) b tag ((i + (m + 1) : Nat) : Int) (i : Int) M = mx_sv (qf_X3_next nn b M) fun u6 => qw_X3_readConstant_84 nn (k + 1) b tag ((i + (m + 1) : Nat) : Int) ((i + 1 : Nat) : Int) u6.2 := by
      conv => lhs; unfold qw_X3_readConstant_84
      rw [if_neg (show ¬ ((i + (m + 1) : Nat) : Int) ≤ (i : Int) by omega), if_neg (fun z => z hf), if_pos ht]
      simp only [xl_eq, e3]
    rw [head]
    by_cases w : q < n
    · rw [next_in h (by omega), mx_svs, hq]
      dsimp only
      obtain ⟨M2, g1, g2, g3, g4⟩ := ih (k + 1) (q + 1) (i + 1) (up_M M b 2 ((q : Int) + 1)) (sr_up h (.inl ⟨rfl, by omega⟩)) (by rw [up_n (by omega)]; exact hf) (by rw [up_s]; omega) (by omega) (by omega) (by omega)
      rw [e4] at g1
      refine ⟨M2, g1, fun c j hc => by rw [g2 c j hc]; exact up_n (fun z => hc ⟨z.1, .inl z.2⟩), fun hz => ?_, fun hz => g4 (by omega)⟩
      obtain ⟨k1, k2⟩ := g3 (by omega)
      exact ⟨by rw [k1]; omega, k2⟩
    · rw [next_out h (by omega), if_pos hf, mx_svs]
      dsimp only
      have stop : qw_X3_readConstant_84 nn (k + 1) b tag ((i + (m + 1) : Nat) : Int) ((i + 1 : Nat) : Int) (up_M M b 3 (n : Int)) = some (up_M M b 3 (n : Int)) := by
        unfold qw_X3_readConstant_84
        by_cases w2 : ((i + (m + 1) : Nat) : Int) ≤ ((i + 1 : Nat) : Int)
        · rw [if_pos w2]
        · rw [if_neg w2, if_pos (by rw [up_s]; omega)]
      rw [stop]
      exact ⟨_, rfl, fun c j hc => up_n (fun z => hc ⟨z.1, .inr z.2⟩), fun hz => by omega, fun _ => up_s⟩
