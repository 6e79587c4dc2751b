theorem rt_i {α : Type} {M : ms_M} {r : α} {c : Nat} {j : Int} {G : Int → Option α} (e : rd_T c j M G = some r) : G (M c j.toNat) = some r := by
  unfold rd_T at e; split at e
  · exact e
  · cases e
/-- behind next: either a byte was there and pos has gone on, or FORM is told -/
theorem lm_X3_next {nn : Nat} {b : Nat} {h : ms_M} (V : VS_ h) (hb : kc_O b = 3) {u : Int × ms_M} (e : qf_X3_next nn b h = some u) : (u.2 b 2 = h b 2 + 1 ∧ u.2 b 3 = h b 3) ∨ (u.2 b 2 = h b 2 ∧ ¬ u.2 b 3 = -1) := by
  have g1 := gI_1 V hb
  have g2 := gI_2 V hb
  unfold qf_X3_next at e
  split at e
  · left
    rw [xl_eq, xl_eq] at e
    obtain ⟨-, e⟩ := ck_i e
    rw [xl_eq] at e
    have e := rt_i e
    rw [xl_eq] at e
    have e := Option.some.inj e
    rw [← e]
    refine ⟨?_, up_n (by omega)⟩
    show up_M h b 2 (oq_add (h b 2) 1) b 2 = _
    rw [up_s]; exact oq_add_eq (by omega) (by omega) (by omega)
  · right
    split at e
    · rw [xl_eq] at e
      have e := Option.some.inj e
      rw [← e]
      refine ⟨up_n (by omega), ?_⟩
      show ¬ up_M h b 3 (h b 3) b 3 = -1
      rw [up_s]; assumption
    · rw [xl_eq] at e
      have e := Option.some.inj e
      rw [← e]
      refine ⟨up_n (by omega), ?_⟩
      show ¬ up_M h b 3 (h b 1) b 3 = -1
      rw [up_s]; omega
theorem lm_X3_nextUpTo {nn : Nat} {b : Nat} {h : ms_M} (V : VS_ h) (hb : kc_O b = 3) {lo hi : Int} {u : Int × ms_M} (e : qf_X3_nextUpTo nn b lo hi h = some u) : (lo ≤ u.1 ∧ u.1 ≤ hi) ∨ ¬ u.2 b 3 = -1 := by
  have g2 := gI_2 V hb
  unfold qf_X3_nextUpTo at e
  obtain ⟨w, e1, e⟩ := sv_i e
  have hw := lm_X3_next V hb e1
  have bad : ∀ {x : Int} {u : Int × ms_M}, qj_X3_nextUpTo_15 nn b x w.2 = some u → ¬ u.2 b 3 = -1 := by
    intro x u e
    unfold qj_X3_nextUpTo_15 at e
    rw [xl_eq, bad_ok, mx_svs] at e
    have e := Option.some.inj e
    rw [← e]
    by_cases q : w.2 b 3 = -1
    · rw [if_pos q]
      show ¬ up_M w.2 b 3 (oq_sub (w.2 b 2) 1) b 3 = -1
      rw [up_s]
      rcases hw with ⟨h1, h2⟩ | ⟨h1, h2⟩
      · rw [oq_sub_eq (by omega) (by omega) (by omega)]; omega
      · exact absurd q h2
    · rw [if_neg q]; exact q
  split at e
  · exact .inr (bad e)
  · split at e
    · left
      have e := Option.some.inj e
      rw [← e]
      exact ⟨by show lo ≤ w.1; omega, by show w.1 ≤ hi; omega⟩
    · exact .inr (bad e)
theorem vs_rd {M : ms_M} (h : VS_ M) {b a : Nat} {s : Int} (hb : kc_O b = 3) (ha : a < cn_M M ∧ ly_T a = 1) (hs : 0 ≤ s ∧ s ≤ 6000) (hl : s ≤ ln_I M a) : VS_ (up_M (up_M M b 0 ((a : Nat) : Int)) b 1 s) := by
  have hM := h.2.1
  obtain ⟨h1, h2, h3, h4, h5, h6, h7, h8⟩ := h
  have hbl := kc_lt hb (by decide)
  have hT := T_img hb
  have A : ∀ c2, c2 ≠ b → up_M (up_M M b 0 ((a : Nat) : Int)) b 1 s c2 = M c2 := fun c2 z => by rw [up_ne c2 z, up_ne c2 z]
  have e0 : up_M (up_M M b 0 ((a : Nat) : Int)) b 1 s b 0 = ((a : Nat) : Int) := by rw [up_n (by omega), up_s]
  have e1 : up_M (up_M M b 0 ((a : Nat) : Int)) b 1 s b 1 = s := up_s
  have en : ∀ k, 2 ≤ k → up_M (up_M M b 0 ((a : Nat) : Int)) b 1 s b k = M b k := fun k hk => by rw [up_n (by omega), up_n (by omega)]
  generalize hN : up_M (up_M M b 0 ((a : Nat) : Int)) b 1 s = N at *
  have e9 : N 900000 = M 900000 := A _ (by omega)
  have e8 : N 900001 = M 900001 := A _ (by omega)
  have ec : cn_M N = cn_M M := by unfold cn_M; rw [e9]
  have el : ∀ d, ln_I N d = ln_I M d := by intro d; unfold ln_I; rw [e8]
  have nb : ∀ c, Nat.beq (kc_O c) 3 = false → c ≠ b := fun c hc e => nI_ hb hc e.symm
  have ha7 : a < 700000 := by have := ha.1; unfold cn_M at this; omega
  refine ⟨?_, ?_, ?_, ?_, ?_, ?_, ?_, ?_⟩
  · intro c2 k2 hc2 hk2
    by_cases w : c2 = b
    · subst w
      by_cases w0 : k2 = 0
      · subst w0
        rw [e0]
        have hv := vbI_0 hb
        rw [hv]
        show -2147483648 ≤ ((a : Nat) : Int) ∧ ((a : Nat) : Int) ≤ 2147483647
        omega
      · by_cases w1 : k2 = 1
        · subst w1
          rw [e1, vbI_1 hb]; exact hs
        · rw [en k2 (by omega)]; exact h1 c2 k2 hc2 hk2
    · rw [A c2 w]; exact h1 c2 k2 hc2 hk2
  · rw [e9, e8]; exact h2
  · intro d hd
    by_cases w : d = b
    · subst w
      rw [e0, e1, ec, el]
      refine ⟨⟨by omega, ?_, ?_⟩, ?_⟩
      · show a < cn_M M
        exact ha.1
      · show ly_T a = 1
        exact ha.2
      · show s ≤ ln_I M a
        exact hl
    · rw [A d w, ec, el]; exact h3 d hd
  · intro d j hd hd2 hj
    rw [el] at hj
    rw [A d (by omega)]; exact h4 d j hd hd2 hj
  · intro j hj; rw [A 60 (nb 60 rfl)]; exact h5 j hj
  · rw [A 56 (nb 56 rfl), A 127 (nb 127 rfl), A 143 (nb 143 rfl)]; exact h6
  · intro j hj; rw [A 43 (nb 43 rfl), ec, el]; exact h7 j hj
  · intro j hj; rw [A 55 (nb 55 rfl), ec, el]; exact h8 j hj
