/-- the reference's tokens: from the last one on there is only END or BAD -/
def EK_ (M : ms_M) : Prop := 1 ≤ M 160 8 ∧ ∀ k : Nat, M 160 8 - 1 ≤ (k : Int) → (k : Int) < M 160 8 + 4 → 5 ≤ M 163 k
theorem ek_eq {M N : ms_M} (h : EK_ M) (h1 : N 160 8 = M 160 8) (h2 : ∀ k, N 163 k = M 163 k) : EK_ N := by
  refine ⟨by rw [h1]; exact h.1, fun k a b => ?_⟩
  rw [h1] at a b; rw [h2]; exact h.2 k a b
theorem ek_up {M : ms_M} {c k : Nat} {v : Int} (_ : VS_ M) (h : EK_ M) (hc : (!(Nat.beq c 163) && (!(Nat.beq c 160) || !(Nat.beq k 8))) = true) : EK_ (up_M M c k v) := by
  simp only [Bool.and_eq_true, Bool.or_eq_true] at hc
  refine ek_eq h (up_n ?_) (fun j => up_n ?_)
  · rintro ⟨rfl, rfl⟩; rcases hc.2 with z | z <;> cases z
  · rintro ⟨rfl, -⟩; cases hc.1
theorem ek_ua {M : ms_M} {c k : Nat} {v : Int} (V : VS_ M) (h : EK_ M) (hc : (!(Nat.beq c 163) && !(Nat.beq c 160)) = true) : EK_ (up_M M c k v) := by
  rw [Bool.and_eq_true] at hc
  exact ek_up V h (by simp only [Bool.and_eq_true, Bool.or_eq_true]; exact ⟨hc.1, .inl hc.2⟩)
theorem ek_fr {M N : ms_M} {L : List Nat} {LF : List (Nat × Nat)} (_ : VS_ M) (h : EK_ M) (F : ∀ c k, nw_F L LF false false c k = true → N c k = M c k) (hc : ((!(L.contains 163) && LF.all (fun q => !(Nat.beq q.1 163))) && nw_F L LF false false 160 8) = true) : EK_ N := by
  simp only [Bool.and_eq_true] at hc
  obtain ⟨⟨q1, q2⟩, q3⟩ := hc
  refine ek_eq h (F _ _ q3) (fun j => F _ _ (nw_ar ?_ j))
  simp only [Bool.and_eq_true]; exact ⟨q1, q2, rfl, rfl⟩
theorem ek_rd {h : ms_M} {j v : Int} (N : EK_ h) (hj : 0 ≤ j) (e : v = h 163 j.toNat) : j + 2 ≤ h 160 8 ∨ 5 ≤ v ∨ h 160 8 + 4 ≤ j := by
  by_cases a : j + 2 ≤ h 160 8
  · exact .inl a
  · by_cases b : h 160 8 + 4 ≤ j
    · exact .inr (.inr b)
    · rw [e]; exact .inr (.inl (N.2 j.toNat (by omega) (by omega)))
theorem lm_ek_isWord {nn : Nat} {a1 a2 u : Int} {h : ms_M} (N : EK_ h) (h0 : 0 ≤ a1) (e : qf_X13_isWord nn a1 a2 h = some u) : u = 0 ∨ a1 + 2 ≤ h 160 8 ∨ h 160 8 + 4 ≤ a1 := by
  unfold qf_X13_isWord at e
  have e := rd_i e
  split at e
  · cases e; exact .inl rfl
  · rename_i q
    have := ek_rd N h0 rfl
    omega
theorem lm_ek_isSign {nn : Nat} {a1 a2 u : Int} {h : ms_M} (N : EK_ h) (h0 : 0 ≤ a1) (e : qf_X13_isSign nn a1 a2 h = some u) : u = 0 ∨ a1 + 2 ≤ h 160 8 ∨ h 160 8 + 4 ≤ a1 := by
  unfold qf_X13_isSign at e
  have e := rd_i e
  split at e
  · cases e; exact .inl rfl
  · rename_i q
    have := ek_rd N h0 rfl
    omega
theorem lm_ek_strength {nn : Nat} {a1 u : Int} {h : ms_M} (N : EK_ h) (h0 : 0 ≤ a1) (e : qf_X13_strength nn a1 h = some u) : u = -1 ∨ a1 + 2 ≤ h 160 8 ∨ h 160 8 + 4 ≤ a1 := by
  unfold qf_X13_strength at e
  obtain ⟨w, e1, e⟩ := sv_i e
  by_cases q : w = 0
  · rw [if_pos q] at e
    have e := rd_i e
    by_cases q2 : h 163 a1.toNat = 4
    · have := ek_rd N h0 rfl
      omega
    · rw [if_neg q2] at e
      cases e; exact .inl rfl
  · have := lm_ek_isWord N h0 e1
    omega
theorem lm_ek_isCast {nn : Nat} {u : Int} {h : ms_M} (V : VS_ h) (N : EK_ h) (hc : h 160 23 + 1 ≤ h 160 8) (e : qf_X13_isCast nn h = some u) : u = 0 ∨ h 160 23 + 4 ≤ h 160 8 := by
  have g := gF_160_23 V
  unfold qf_X13_isCast at e
  obtain ⟨u3, e3, e⟩ := sv_i e
  have L3 := lm_ek_isSign N (by omega) e3
  by_cases q : u3 = 0
  · rw [if_pos q] at e
    cases e; exact .inl rfl
  · rw [if_neg q, xl_eq] at e
    have w1 : oq_add (h 160 23) 1 = h 160 23 + 1 := oq_add_eq (by omega) (by omega) (by omega)
    have w2 : oq_add (h 160 23) 2 = h 160 23 + 2 := oq_add_eq (by omega) (by omega) (by omega)
    have e := rd_i e
    rw [w1] at e
    by_cases q2 : h 163 (h 160 23 + 1).toNat = 1
    · rw [if_neg (fun z => z q2), xl_eq] at e
      have L7 := ek_rd (j := h 160 23 + 1) N (by omega) rfl
      obtain ⟨u11, e11, e⟩ := sv_i e
      rw [w2] at e11
      have L11 := lm_ek_isSign N (by omega) e11
      by_cases q3 : u11 = 0
      · rw [if_neg (fun z => z q3)] at e
        cases e; exact .inl rfl
      · right; omega
    · rw [if_pos q2] at e
      cases e; exact .inl rfl
