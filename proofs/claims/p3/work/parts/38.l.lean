/-- the bytes of a TEXT, m of them from q on: FORM, if one is wrong or wanting -/
def tb_N (B : Nat → Int) (n : Nat) : Nat → Nat → Option Nat
  | _, 0 => none
  | q, m + 1 => if ¬ q < n then some n else if B q < 33 ∨ 126 < B q then some q else tb_N B n (q + 1) m
/-- FORM is told, if there is one -/
def fm_M (M : ms_M) (o : Option Nat) : ms_M := match o with
  | none => M
  | some f => up_M M 160 114 (f : Int)
theorem sr_Mu {M : ms_M} {B : Nat → Int} {n : Nat} {v : Int} (h : sr_M M B n) : sr_M (up_M M 160 114 v) B n := by
  obtain ⟨h1, h2, h3⟩ := h
  exact ⟨h1, by rw [up_n (by omega)]; exact h2, fun i hi => by rw [up_n (by omega)]; exact h3 i hi⟩
theorem sc_end {nn k : Nat} {M : ms_M} {a l2 l3 : Int} (ha : 0 ≤ a ∧ a ≤ 10000) (hl : 0 ≤ l2 ∧ l2 ≤ 300) (h : l2 ≤ l3 ∨ ¬ M 160 114 = -1) : qw_X13_scanConstant_77 nn (k + 1) a l2 l3 M = some (a + 2 + l2, M) := by
  unfold qw_X13_scanConstant_77 qj_X13_scanConstant_147
  have e1 : oq_add a 2 = a + 2 := oq_add_eq (by omega) (by omega) (by omega)
  have e2 : oq_add (a + 2) l2 = a + 2 + l2 := oq_add_eq (by omega) (by omega) (by omega)
  simp only [xl_eq, e1, e2]
  by_cases w : l2 ≤ l3
  · rw [if_pos w]
  · rw [if_neg w, if_pos (h.resolve_left w)]
theorem sc_77 {nn : Nat} {M : ms_M} {B : Nat → Int} {n : Nat} (h : sr_M M B n) (hf : M 160 114 = -1) {a l2 : Nat} (ha : a ≤ 6000) (hl : l2 ≤ 255) : ∀ (m k i : Nat), i + m = l2 → m + 1 < k → qw_X13_scanConstant_77 nn k (a : Int) (l2 : Int) (i : Int) M = some ((a : Int) + 2 + (l2 : Int), fm_M M (tb_N B n (a + 2 + i) m)) := by
  intro m
  induction m with
  | zero =>
    intro k i h1 h2
    obtain ⟨k, rfl⟩ : ∃ k2, k = k2 + 1 := ⟨k - 1, by omega⟩
    rw [sc_end (by omega) (by omega) (.inl (by omega))]; rfl
  | succ m ih =>
    intro k i h1 h2
    obtain ⟨k, rfl⟩ : ∃ k2, k = k2 + 2 := ⟨k - 2, by omega⟩
    have e1 : oq_add (a : Int) 2 = (a : Int) + 2 := oq_add_eq (by omega) (by omega) (by omega)
    have e2 : oq_add ((a : Int) + 2) (i : Int) = ((a + 2 + i : Nat) : Int) := by rw [oq_add_eq (by omega) (by omega) (by omega)]; omega
    have e3 : oq_add (i : Int) 1 = ((i + 1 : Nat) : Int) := by rw [oq_add_eq (by omega) (by omega) (by omega)]; omega
    have e4 : ((a + 2 + i : Nat) : Int).toNat = a + 2 + i := by omega
    have hB := isByte_ok (nn := nn) h (p := ((a + 2 + i : Nat) : Int)) (by omega)
    have n6 := h.1
    unfold qw_X13_scanConstant_77 qj_X13_scanConstant_132 tb_N
    rw [if_neg (show ¬ (l2 : Int) ≤ (i : Int) by omega), if_neg (fun z => z hf)]
    simp only [xl_eq, e1, e2, e3]
    rw [hB, mx_svs]
    by_cases w : a + 2 + i < n
    · rw [if_pos (show M 160 114 = -1 ∧ ((a + 2 + i : Nat) : Int) < (n : Int) from ⟨hf, by omega⟩), if_neg (show ¬ ¬ a + 2 + i < n from fun z => z w)]
      dsimp only
      rw [if_neg (show ¬ (1 : Int) = 0 by decide), rd_ok (by omega), e4, h.2.2 _ w, unfit_ok, if_pos hf, mx_svs]
      by_cases w1 : B (a + 2 + i) < 33
      · rw [if_pos w1, if_pos (show B (a + 2 + i) < 33 ∨ 126 < B (a + 2 + i) from .inl w1), sc_end (by omega) (by omega) (.inr (by rw [up_s]; omega))]; rfl
      · rw [if_neg w1, rd_ok (by omega), e4, h.2.2 _ w]
        by_cases w2 : B (a + 2 + i) ≤ 126
        · rw [if_pos w2, if_neg (show ¬ (B (a + 2 + i) < 33 ∨ 126 < B (a + 2 + i)) by omega)]
          exact ih (k + 1) (i + 1) (by omega) (by omega)
        · rw [if_neg w2, if_pos (show B (a + 2 + i) < 33 ∨ 126 < B (a + 2 + i) from .inr (by omega)), sc_end (by omega) (by omega) (.inr (by rw [up_s]; omega))]; rfl
    · rw [if_neg (show ¬ (M 160 114 = -1 ∧ ((a + 2 + i : Nat) : Int) < (n : Int)) from fun z => w (by omega)), if_pos hf, if_pos w]
      dsimp only
      rw [if_pos rfl, sc_end (by omega) (by omega) (.inr (by rw [up_s]; omega))]; rfl
