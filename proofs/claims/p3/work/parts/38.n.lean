/-- the bytes of a TEXT, the class -/
theorem rt_84 {nn : Nat} {b : Nat} {B : Nat → Int} {n : Nat} : ∀ (m k q i : Nat) (M : ms_M), sr_I M b B n → M b 3 = -1 → M b 2 = (q : Int) → i + m ≤ 300 → m + 1 < k → ∃ M2, qw_X3_readConstant_84 nn k b 1 ((i + m : Nat) : Int) (i : Int) M = some M2 ∧ (∀ c j, ¬ (c = b ∧ (j = 2 ∨ j = 3)) → M2 c j = M c j) ∧ (tb_N B n q m = none → M2 b 2 = ((q + m : Nat) : Int) ∧ M2 b 3 = -1) ∧ ∀ f : Nat, tb_N B n q m = some f → M2 b 3 = (f : Int) := by
  intro m
  induction m with
  | zero =>
    intro k q i M h hf hq _ h2
    obtain ⟨k, rfl⟩ : ∃ k2, k = k2 + 1 := ⟨k - 1, by omega⟩
    refine ⟨M, by unfold qw_X3_readConstant_84; rw [if_pos (by omega)], fun _ _ _ => rfl, fun _ => ⟨by omega, hf⟩, fun f hz => by cases hz⟩
  | succ m ih =>
    intro k q i M h hf hq h1 h2
    obtain ⟨k, rfl⟩ : ∃ k2, k = k2 + 2 := ⟨k - 2, by omega⟩
    have n6 := h.2.1
    have e3 : oq_add (i : Int) 1 = ((i + 1 : Nat) : Int) := by rw [oq_add_eq (by omega) (by omega) (by omega)]; omega
    have e4 : i + 1 + m = i + (m + 1) := by omega
    have stop : ∀ X : ms_M, ¬ X b 3 = -1 → qw_X3_readConstant_84 nn (k + 1) b 1 ((i + (m + 1) : Nat) : Int) ((i + 1 : Nat) : Int) X = some X := by
      intro X hX
      unfold qw_X3_readConstant_84
      by_cases w : ((i + (m + 1) : Nat) : Int) ≤ ((i + 1 : Nat) : Int)
      · rw [if_pos w]
      · rw [if_neg w, if_pos hX]
    have head : qw_X3_readConstant_84 nn (k + 2) b 1 ((i + (m + 1) : Nat) : Int) (i : Int) M = mx_sv (qf_X3_nextUpTo nn b 33 126 M) fun u6 => qw_X3_readConstant_84 nn (k + 1) b 1 ((i + (m + 1) : Nat) : Int) ((i + 1 : Nat) : Int) u6.2 := by
      conv => lhs; unfold qw_X3_readConstant_84
      rw [if_neg (show ¬ ((i + (m + 1) : Nat) : Int) ≤ (i : Int) by omega), if_neg (fun z => z hf), if_neg (show ¬ ¬ (1 : Int) = 1 from fun z => z rfl)]
      simp only [xl_eq, e3]
    rw [head]
    unfold tb_N
    by_cases w : q < n
    · have hqN : (M b 2).toNat = q := by omega
      rw [if_neg (show ¬ ¬ q < n from fun z => z w), upTo_in h (by omega) hf, mx_svs, hqN, hq]
      dsimp only
      by_cases w1 : 33 ≤ B q ∧ B q ≤ 126
      · rw [if_pos w1, if_neg (show ¬ (B q < 33 ∨ 126 < B q) by omega)]
        obtain ⟨M2, g1, g2, g3, g4⟩ := ih (k + 1) (q + 1) (i + 1) (up_M M b 2 ((q : Int) + 1)) (sr_up h (.inl ⟨rfl, by omega⟩)) (by rw [up_n (by omega)]; exact hf) (by rw [up_s]; omega) (by omega) (by omega)
        rw [e4] at g1
        refine ⟨M2, g1, fun c j hc => by rw [g2 c j hc]; exact up_n (fun z => hc ⟨z.1, .inl z.2⟩), fun hz => ?_, g4⟩
        obtain ⟨k1, k2⟩ := g3 hz
        exact ⟨by rw [k1]; omega, k2⟩
      · rw [if_neg w1, if_pos (show B q < 33 ∨ 126 < B q by omega), stop _ (by rw [up_s]; omega)]
        refine ⟨_, rfl, fun c j hc => ?_, fun hz => (by cases hz), fun f hz => ?_⟩
        · rw [up_n (fun z => hc ⟨z.1, .inr z.2⟩), up_n (fun z => hc ⟨z.1, .inl z.2⟩)]
        · cases hz; exact up_s
    · have ho : qf_X3_nextUpTo nn b 33 126 M = some (0, up_M M b 3 (n : Int)) := by
        unfold qf_X3_nextUpTo qj_X3_nextUpTo_15
        rw [next_out h (by omega), if_pos hf, mx_svs]
        dsimp only
        rw [if_pos (by decide), xl_eq, bad_ok, if_neg (by rw [up_s]; omega), mx_svs]
      rw [if_pos w, ho, mx_svs]
      dsimp only
      rw [stop _ (by rw [up_s]; omega)]
      refine ⟨_, rfl, fun c j hc => up_n (fun z => hc ⟨z.1, .inr z.2⟩), fun hz => (by cases hz), fun f hz => ?_⟩
      cases hz; exact up_s
