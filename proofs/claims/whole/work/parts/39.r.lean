/-- with a relation between what a function finds and what it leaves -/
def QVR_ (R : ms_M → Prop) : ms_M → Prop := fun M => VS_ M ∧ R M
def QIR_ (lo hi : Int) (R : Int → ms_M → Prop) : Int × ms_M → Prop := fun x => VS_ x.2 ∧ lo ≤ x.1 ∧ x.1 ≤ hi ∧ R x.1 x.2
section
variable {α : Type} {Q : α → Prop} {M : ms_M} {R R1 R2 : ms_M → Prop} {S S1 S2 : Int → ms_M → Prop} {lo hi : Int}
theorem ok_rVR (h : VS_ M) (r : R M) : Ok_ (some M) (QVR_ R) := ⟨M, rfl, h, r⟩
theorem ok_rIR {x : Int} (h : VS_ M) (h1 : lo ≤ x) (h2 : x ≤ hi) (r : S x M) : Ok_ (some (x, M)) (QIR_ lo hi S) := ⟨_, rfl, h, h1, h2, r⟩
theorem ok_cVR {x : Option ms_M} {F : ms_M → Option α} (hx : Ok_ x (QVR_ R)) (h : ∀ a, x = some a → VS_ a → R a → Ok_ (F a) Q) : Ok_ (mx_sv x F) Q := by
  obtain ⟨a, e, hq⟩ := hx
  rw [e, mx_svs]; exact h a e hq.1 hq.2
theorem ok_cIR {x : Option (Int × ms_M)} {F : Int × ms_M → Option α} (hx : Ok_ x (QIR_ lo hi S)) (h : ∀ a, x = some a → VS_ a.2 → lo ≤ a.1 → a.1 ≤ hi → S a.1 a.2 → Ok_ (F a) Q) : Ok_ (mx_sv x F) Q := by
  obtain ⟨a, e, hq⟩ := hx
  rw [e, mx_svs]; exact h a e hq.1 hq.2.1 hq.2.2.1 hq.2.2.2
theorem ok_mV {x : Option ms_M} (hx : Ok_ x (QVR_ R1)) (h : ∀ a, VS_ a → R1 a → R2 a) : Ok_ x (QVR_ R2) := by
  obtain ⟨a, e, hq⟩ := hx
  exact ⟨a, e, hq.1, h a hq.1 hq.2⟩
theorem ok_mI {x : Option (Int × ms_M)} (hx : Ok_ x (QIR_ lo hi S1)) (h : ∀ u a, VS_ a → S1 u a → S2 u a) : Ok_ x (QIR_ lo hi S2) := by
  obtain ⟨a, e, hq⟩ := hx
  exact ⟨a, e, hq.1, hq.2.1, hq.2.2.1, h _ _ hq.1 hq.2.2.2⟩
end
theorem lm_X9_kind {nn : Nat} {h : ms_M} {u : Int} (e : qf_X9_kind nn h = some u) : u = 0 ∨ (h 2 11 = 0 ∧ h 2 10 < h 2 3) := by
  unfold qf_X9_kind at e
  split at e
  · cases e; exact .inl rfl
  · split at e
    · cases e; exact .inl rfl
    · split at e
      · cases e; exact .inl rfl
      · right; omega
theorem lm_X9_beginsCast {nn : Nat} {h : ms_M} {u : Int} (e : qf_X9_beginsCast nn h = some u) : u = 0 ∨ (h 2 11 = 0 ∧ h 2 10 < h 2 3) := by
  unfold qf_X9_beginsCast at e
  obtain ⟨b, e1, e2⟩ := sv_i e
  rcases lm_X9_kind e1 with z | z
  · subst z; rw [if_pos (by decide)] at e2; cases e2; exact .inl rfl
  · exact .inr z
theorem lm_X9_beginsVariable {nn : Nat} {h : ms_M} {u : Int} (e : qf_X9_beginsVariable nn h = some u) : u = 0 ∨ (h 2 11 = 0 ∧ h 2 10 < h 2 3) := by
  unfold qf_X9_beginsVariable at e
  obtain ⟨b, e1, e2⟩ := sv_i e
  rcases lm_X9_kind e1 with z | z
  · subst z; rw [if_neg (by decide), if_neg (by decide), if_pos (by decide)] at e2; cases e2; exact .inl rfl
  · exact .inr z
theorem lm_X9_level {nn : Nat} {a0 : Int} {h : ms_M} {u : Int} (e : qf_X9_level nn a0 h = some u) : u = 0 ∨ ¬ a0 = 0 := by
  by_cases w : a0 = 0
  · subst w
    have e2 : qf_X9_level nn 0 h = some 0 := rfl
    rw [e2] at e; cases e; exact .inl rfl
  · exact .inr w
theorem lm_X8_binaryAhead {nn : Nat} {a1 : Int} {h : ms_M} {u : Int} (e : qf_X8_binaryAhead nn a1 h = some u) : u = 0 ∨ (h 2 11 = 0 ∧ h 2 10 < h 2 3) := by
  unfold qf_X8_binaryAhead at e
  obtain ⟨b, e1, e2⟩ := sv_i e
  obtain ⟨c, e3, e4⟩ := sv_i e2
  rcases lm_X9_kind e1 with z | z
  · rcases lm_X9_level e3 with y | y
    · subst y; rw [if_pos (by decide)] at e4; cases e4; exact .inl rfl
    · omega
  · exact .inr z
theorem lm_X10_isSignDue {nn : Nat} {a1 a2 : Int} {h : ms_M} {u : Int} (e : qf_X10_isSignDue nn a1 a2 h = some u) : u = 0 ∨ a1 < h 49 10 := by
  unfold qf_X10_isSignDue at e
  split at e
  · cases e; exact .inl rfl
  · right; omega
theorem lm_X9_kindAt {nn : Nat} {a1 : Int} {h : ms_M} {u : Int} (e : qf_X9_kindAt nn a1 h = some u) : u = 0 ∨ (0 ≤ a1 ∧ a1 < h 2 3) := by
  unfold qf_X9_kindAt at e
  split at e
  · cases e; exact .inl rfl
  · split at e
    · cases e; exact .inl rfl
    · right; omega
theorem lm_X10_isCallBehindPoint {nn : Nat} {a1 : Int} {h : ms_M} {u : Int} (_ : VS_ h) (ha : 0 ≤ a1 ∧ a1 ≤ 100000000) (e : qf_X10_isCallBehindPoint nn a1 h = some u) : u = 0 ∨ a1 + 2 < h 2 3 := by
  unfold qf_X10_isCallBehindPoint at e
  obtain ⟨b, _, e2⟩ := sv_i e
  split at e2
  · cases e2; exact .inl rfl
  · unfold xl at e2
    obtain ⟨b2, _, e3⟩ := sv_i e2
    split at e3
    · cases e3; exact .inl rfl
    · dsimp only at e3
      obtain ⟨b3, z, e4⟩ := sv_i e3
      rcases lm_X9_kindAt z with y | y
      · subst y; rw [if_pos (by decide)] at e4; cases e4; exact .inl rfl
      · rw [oq_add_eq (by omega) (by omega) (by omega)] at y; exact .inr y.2
theorem ok_ite {α : Type} {Q : α → Prop} {c : Prop} {d : Decidable c} {x y : Int} {F : Int → Option α} (h : ∀ z, (c ∧ z = x ∨ ¬ c ∧ z = y) → Ok_ (F z) Q) : Ok_ (xl (if c then x else y) F) Q := by
  refine h _ ?_
  by_cases w : c
  · rw [if_pos w]; exact .inl ⟨w, rfl⟩
  · rw [if_neg w]; exact .inr ⟨w, rfl⟩
theorem lm_X2_bodyOf {nn : Nat} {a1 : Int} {h : ms_M} {u : Int} (V : VS_ h) (ha : 0 ≤ a1 ∧ a1 ≤ 95) (e : qf_X2_bodyOf nn a1 h = some u) : (0 ≤ u ∧ u ≤ 21000000) ∨ h 21 (a1 / 12).toNat ≤ a1 % 12 := by
  unfold qf_X2_bodyOf at e
  obtain ⟨b, e1, e2⟩ := sv_i e
  split at e2
  · rename_i z
    right
    unfold qf_X2_isMethod at e1
    rw [if_neg (by omega), if_neg (by omega)] at e1
    unfold xl at e1
    rw [Int.tmod_eq_emod_of_nonneg ha.1, Int.tdiv_eq_ediv_of_nonneg ha.1] at e1
    have e1 := rd_i e1
    split at e1
    · omega
    · cases e1; omega
  · left
    have e2 := rd_i e2
    cases e2
    exact gA_23 V a1.toNat (by omega)
