theorem upTo_out {nn : Nat} {M : ms_M} {b : Nat} {B : Nat → Int} {n : Nat} (h : sr_I M b B n) (hp : (n : Int) ≤ M b 2) (hf : M b 3 = -1) {lo hi : Int} (hlo : 0 < lo) : qf_X3_nextUpTo nn b lo hi M = some (0, up_M M b 3 (n : Int)) := by
  unfold qf_X3_nextUpTo qj_X3_nextUpTo_15
  rw [next_out h hp, if_pos hf, mx_svs]
  dsimp only
  rw [if_pos hlo, xl_eq, bad_ok, if_neg (by rw [up_s]; omega), mx_svs]
/-- once FORM is told, the rest of a constant leaves it -/
theorem r40_bad {nn : Nat} (hn : 2 ≤ nn) {M : ms_M} {b : Nat} {k tag len : Int} (hk : 1 ≤ k ∧ k ≤ 255) (hf : ¬ M b 3 = -1) : ∃ M2, qj_X3_readConstant_40 nn b k tag len M = some M2 ∧ M2 b 3 = M b 3 ∧ ∀ c j, ¬ c = b + 2 → ¬ c = b + 3 → ¬ c = b + 4 → M2 c j = M c j := by
  obtain ⟨q, rfl⟩ : ∃ q, nn = q + 1 := ⟨nn - 1, by omega⟩
  have stop : ∀ (X : ms_M) (l : Int), ¬ X b 3 = -1 → qw_X3_readConstant_84 (q + 1) (q + 1) b tag l 0 X = some X := by
    intro X l hX
    unfold qw_X3_readConstant_84
    by_cases w : l ≤ 0
    · rw [if_pos w]
    · rw [if_neg w, if_pos hX]
  unfold qj_X3_readConstant_40
  rw [wa_ok (by omega), wa_ok (by omega)]
  by_cases w : tag = 1
  · rw [if_neg (fun z => z w), xl_eq, wa_ok (by omega)]
    rw [stop _ _ (by rw [up_n (by omega), up_n (by omega), up_n (by omega)]; exact hf)]
    exact ⟨_, rfl, by rw [up_n (by omega), up_n (by omega), up_n (by omega)], fun c j c2 c3 c4 => by rw [up_n (fun z => c4 z.1), up_n (fun z => c3 z.1), up_n (fun z => c2 z.1)]⟩
  · rw [if_pos w, wa_ok (by omega)]
    rw [stop _ _ (by rw [up_n (by omega), up_n (by omega), up_n (by omega)]; exact hf)]
    exact ⟨_, rfl, by rw [up_n (by omega), up_n (by omega), up_n (by omega)], fun c j c2 c3 c4 => by rw [up_n (fun z => c4 z.1), up_n (fun z => c3 z.1), up_n (fun z => c2 z.1)]⟩
