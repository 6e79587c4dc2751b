/-- ONE CONSTANT at byte p: where the next one begins, and FORM -/
def ct_N (B : Nat → Int) (n p : Nat) : Nat × Option Nat :=
  if B p = 1 then (if p + 1 < n then (p + 2 + (B (p + 1)).toNat, if B (p + 1) < 1 ∨ 120 < B (p + 1) then some (p + 1) else tb_N B n (p + 2) (B (p + 1)).toNat) else (p, some n))
  else if B p = 2 then (p + 5, if p + 4 < n then none else some n)
  else if B p = 3 then (p + 2, if p + 1 < n then none else some n)
  else if B p = 4 then (p + 4, if p + 3 < n then none else some n)
  else (p, some p)
theorem isByte_2 {nn : Nat} {M : ms_M} {B : Nat → Int} {n : Nat} (h : sr_M M B n) (hf : M 160 114 = -1) {p : Nat} : qf_X13_isByte nn (p : Int) M = some (if p < n then 1 else 0, fm_M M (if p < n then none else some n)) := by
  rw [isByte_ok h (by omega)]
  by_cases w : p < n
  · rw [if_pos (show M 160 114 = -1 ∧ (p : Int) < (n : Int) from ⟨hf, by omega⟩), if_pos w, if_pos w]; rfl
  · rw [if_neg (show ¬ (M 160 114 = -1 ∧ (p : Int) < (n : Int)) from fun z => w (by omega)), if_pos hf, if_neg w, if_neg w]; rfl
set_option maxRecDepth 20000 in
theorem scanConstant_ok {nn : Nat} (hn : 300 ≤ nn) {M : ms_M} {B : Nat → Int} {n : Nat} (h : sr_M M B n) (hf : M 160 114 = -1) (hB : ∀ i, i < n → 0 ≤ B i ∧ B i ≤ 255) {p : Nat} (hp : p < n) : qf_X13_scanConstant nn (p : Int) M = some (((ct_N B n p).1 : Int), fm_M M (ct_N B n p).2) := by
  have n6 := h.1
  have e5 : ((p : Nat) : Int).toNat = p := by omega
  have e6 : ((p + 1 : Nat) : Int).toNat = p + 1 := by omega
  have a1 : oq_add (p : Int) 1 = ((p + 1 : Nat) : Int) := by rw [oq_add_eq (by omega) (by omega) (by omega)]; omega
  have a2 : oq_add (p : Int) 2 = ((p + 2 : Nat) : Int) := by rw [oq_add_eq (by omega) (by omega) (by omega)]; omega
  have a3 : oq_add (p : Int) 3 = ((p + 3 : Nat) : Int) := by rw [oq_add_eq (by omega) (by omega) (by omega)]; omega
  have a4 : oq_add (p : Int) 4 = ((p + 4 : Nat) : Int) := by rw [oq_add_eq (by omega) (by omega) (by omega)]; omega
  have a5 : oq_add (p : Int) 5 = ((p + 5 : Nat) : Int) := by rw [oq_add_eq (by omega) (by omega) (by omega)]; omega
  have fn : ∀ X : ms_M, fm_M X none = X := fun _ => rfl
  unfold qf_X13_scanConstant qj_X13_scanConstant_68 ct_N
  rw [rd_ok (by omega), e5, h.2.2 p hp]
  simp only [xl_eq, a1, a2, a3, a4, a5, isByte_2 h hf, mx_svs]
  by_cases w1 : B p = 1
  · rw [if_pos w1, if_pos w1]
    by_cases w : p + 1 < n
    · have r := hB (p + 1) w
      simp only [if_pos w, fn]
      rw [if_pos (show ¬ (1 : Int) = 0 by decide), rd_ok (by omega), e6, h.2.2 _ w]
      have eB : B (p + 1) = (((B (p + 1)).toNat : Nat) : Int) := by omega
      have eN : ((p + 2 + (B (p + 1)).toNat : Nat) : Int) = (p : Int) + 2 + (((B (p + 1)).toNat : Nat) : Int) := by omega
      have bad : (B (p + 1) < 1 ∨ 120 < B (p + 1)) → (mx_sv (qf_X13_unfit nn ((p + 1 : Nat) : Int) M) fun u30 => qw_X13_scanConstant_77 nn nn (p : Int) (B (p + 1)) 0 u30) = some (((p + 2 + (B (p + 1)).toNat : Nat) : Int), fm_M M (some (p + 1))) := by
        intro _
        obtain ⟨k, rfl⟩ : ∃ k2, nn = k2 + 1 := ⟨nn - 1, by omega⟩
        rw [unfit_ok, if_pos hf, mx_svs, sc_end (by omega) (by omega) (.inr (by rw [up_s]; omega)), eN, ← eB]; rfl
      by_cases w2 : B (p + 1) < 1
      · rw [if_pos w2, if_pos (show B (p + 1) < 1 ∨ 120 < B (p + 1) from .inl w2)]; exact bad (.inl w2)
      · rw [if_neg w2]
        by_cases w3 : B (p + 1) ≤ 120
        · rw [if_pos w3, if_neg (show ¬ (B (p + 1) < 1 ∨ 120 < B (p + 1)) by omega)]
          have z := sc_77 (nn := nn) h hf (a := p) (l2 := (B (p + 1)).toNat) (by omega) (by omega) (B (p + 1)).toNat nn 0 (by omega) (by omega)
          rw [← eB] at z
          have z0 : ((0 : Nat) : Int) = 0 := rfl
          have z1 : p + 2 + 0 = p + 2 := by omega
          rw [z0, z1] at z
          rw [z, eN, ← eB]
        · rw [if_neg w3, if_pos (show B (p + 1) < 1 ∨ 120 < B (p + 1) from .inr (by omega))]; exact bad (.inr (by omega))
    · simp only [if_neg w]
      rw [if_neg (show ¬ ¬ True from fun z => z trivial)]
  · rw [if_neg w1, if_neg w1]
    by_cases w2 : B p = 2
    · rw [if_pos w2, if_pos w2]
    · rw [if_neg w2, if_neg w2]
      by_cases w3 : B p = 3
      · rw [if_pos w3, if_pos w3]
      · rw [if_neg w3, if_neg w3]
        by_cases w4 : B p = 4
        · rw [if_pos w4, if_pos w4]
        · rw [if_neg w4, if_neg w4, unfit_ok, if_pos hf, mx_svs]; rfl
