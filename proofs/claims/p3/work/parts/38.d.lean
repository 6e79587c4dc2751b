/-- Arrays.fill of a whole row of ints -/
theorem fl_loop {nn c : Nat} (hc : c < 256) (ht : ly_T c = 0) (hN : ly_N c ≤ 100000) {v : Int} : ∀ (k n : Nat) (l2 : Int) (h : ms_M), c < cn_M h → l2 = (ly_N c : Int) - (n : Int) → n ≤ ly_N c → n < k → ∃ h2, qw_J7_fill_53178_5 nn k c v l2 (ly_N c : Int) h = some h2 ∧ (∀ d j, ¬ d = c → h2 d j = h d j) ∧ (∀ j : Nat, (j : Int) < l2 → h2 c j = h c j) ∧ ∀ j : Nat, l2 ≤ (j : Int) → j < ly_N c → h2 c j = v := by
  intro k
  induction k with
  | zero => intro n l2 h _ _ _ h4; omega
  | succ k ih =>
    intro n l2 h hcn h3 h4 h5
    cases n with
    | zero =>
      refine ⟨h, by unfold qw_J7_fill_53178_5; rw [if_pos (by omega)], fun _ _ _ => rfl, fun _ _ => rfl, fun j h6 h7 => by omega⟩
    | succ n =>
      have hl : ln_I h c = (ly_N c : Int) := ln_fix hc
      have z : qw_J7_fill_53178_5 nn (k + 1) c v l2 (ly_N c : Int) h = qw_J7_fill_53178_5 nn k c v (l2 + 1) (ly_N c : Int) (up_M h c l2.toNat v) := by
        conv => lhs; unfold qw_J7_fill_53178_5
        unfold wr_S
        rw [hl]
        simp (disch := omega) only [if_pos, if_neg, xl_eq, oq_add_eq]
      rw [z]
      obtain ⟨h2, g1, g2, g3, g4⟩ := ih n (l2 + 1) (up_M h c l2.toNat v) (by
        have : cn_M (up_M h c l2.toNat v) = cn_M h := by unfold cn_M; rw [up_n (by omega)]
        omega) (by omega) (by omega) (by omega)
      refine ⟨h2, g1, fun d j hd => by rw [g2 d j hd]; exact up_n (fun w => hd w.1), ?_, ?_⟩
      · intro j hj
        rw [g3 j (by omega)]; exact up_n (by rintro ⟨-, w⟩; omega)
      · intro j h6 h7
        by_cases w : (j : Int) = l2
        · rw [g3 j (by omega)]
          have : j = l2.toNat := by omega
          rw [this]; exact up_s
        · exact g4 j (by omega) h7
theorem fill_ok {nn c : Nat} (hc : c < 256) (ht : ly_T c = 0) (hN : ly_N c ≤ 100000) (hn : 100001 ≤ nn) {v : Int} {h : ms_M} (hcn : c < cn_M h) : ∃ h2, qf_J7_fill_53178 nn c v h = some h2 ∧ (∀ d j, ¬ d = c → h2 d j = h d j) ∧ ∀ j : Nat, j < ly_N c → h2 c j = v := by
  obtain ⟨h2, g1, g2, g3, g4⟩ := fl_loop hc ht hN (nn := nn) (v := v) nn (ly_N c) 0 h hcn (by omega) (by omega) (by omega)
  refine ⟨h2, ?_, g2, fun j hj => g4 j (by omega) hj⟩
  unfold qf_J7_fill_53178 ln_S
  rw [if_pos ⟨hcn, by omega⟩, ln_fix hc]; exact g1
/-- what a Kin is that knows 0 to 7 alone -/
def bi_A (j : Nat) : Int := if j = 1 then 0 else if 2 ≤ j ∧ j ≤ 7 then 1 else -1
theorem fo_10 {nn : Nat} (hn : 17 ≤ nn) {l0 : Nat} : ∀ (k n : Nat) (l1 : Int) (h : ms_M), l1 = 8 - (n : Int) → n ≤ 7 → n < k → (∀ j : Nat, j < 16 → h (l0 + 1) j = if (j : Int) < l1 then bi_A j else -1) → ∃ h2, qw_X4_forget_10 nn k l0 l1 h = some h2 ∧ (∀ c j, ¬ c = l0 + 1 → ¬ c = l0 + 2 → h2 c j = h c j) ∧ (∀ j : Nat, j < 16 → h2 (l0 + 1) j = bi_A j) ∧ un_R l0 h2 := by
  intro k
  induction k with
  | zero => intro n l1 h _ _ h4; omega
  | succ k ih =>
    intro n l1 h h3 h4 h5 h6
    cases n with
    | zero =>
      obtain ⟨h2, g1, g2, g3⟩ := settle_ok hn (l0 := l0) (h := h)
      refine ⟨h2, ?_, fun c j _ hc => g2 c j hc, ?_, g3⟩
      · unfold qw_X4_forget_10; rw [if_pos (by omega), g1, mx_svs]
      · intro j hj
        rw [g2 _ _ (by omega), h6 j hj]
        by_cases w : (j : Int) < l1
        · rw [if_pos w]
        · rw [if_neg w]; unfold bi_A; rw [if_neg (by omega), if_neg (by omega)]
    | succ n =>
      have key : ∀ v : Int, v = bi_A l1.toNat → ∃ h2, qw_X4_forget_10 nn k l0 (l1 + 1) (up_M h (l0 + 1) l1.toNat v) = some h2 ∧ (∀ c j, ¬ c = l0 + 1 → ¬ c = l0 + 2 → h2 c j = h c j) ∧ (∀ j : Nat, j < 16 → h2 (l0 + 1) j = bi_A j) ∧ un_R l0 h2 := by
        intro v hv
        obtain ⟨h2, g1, g2, g3, g4⟩ := ih n (l1 + 1) (up_M h (l0 + 1) l1.toNat v) (by omega) (by omega) (by omega) (by
          intro j hj
          by_cases w : j = l1.toNat
          · rw [w, up_s, if_pos (by omega)]; exact hv
          · rw [up_n (fun z => w z.2), h6 j hj]
            by_cases w2 : (j : Int) < l1
            · rw [if_pos w2, if_pos (by omega)]
            · rw [if_neg w2, if_neg (by omega)])
        exact ⟨h2, g1, fun c j c1 c2 => by rw [g2 c j c1 c2]; exact up_n (fun w => c1 w.1), g3, g4⟩
      by_cases w : l1 = 1
      · have z : qw_X4_forget_10 nn (k + 1) l0 l1 h = qw_X4_forget_10 nn k l0 (l1 + 1) (up_M h (l0 + 1) l1.toNat 0) := by
          conv => lhs; unfold qw_X4_forget_10
          simp (disch := omega) only [if_pos, if_neg, xl_eq, wa_ok, oq_add_eq]
        rw [z]
        exact key 0 (by unfold bi_A; rw [if_pos (by omega)])
      · have z : qw_X4_forget_10 nn (k + 1) l0 l1 h = qw_X4_forget_10 nn k l0 (l1 + 1) (up_M h (l0 + 1) l1.toNat 1) := by
          conv => lhs; unfold qw_X4_forget_10
          simp (disch := omega) only [if_pos, if_neg, xl_eq, wa_ok, oq_add_eq]
        rw [z]
        exact key 1 (by unfold bi_A; rw [if_neg (by omega), if_pos (by omega)])
theorem kforget_ok {nn : Nat} (hn : 100001 ≤ nn) {l0 : Nat} (h0 : l0 = 12 ∨ l0 = 57) {h : ms_M} (hcn : 256 ≤ cn_M h) : ∃ h2, qf_X4_forget nn l0 h = some h2 ∧ (∀ c j, ¬ c = l0 + 1 → ¬ c = l0 + 2 → h2 c j = h c j) ∧ (∀ j : Nat, j < 16 → h2 (l0 + 1) j = bi_A j) ∧ un_R l0 h2 := by
  have hT : ly_T (l0 + 1) = 0 ∧ ly_N (l0 + 1) = 16 := by rcases h0 with rfl | rfl <;> exact ⟨rfl, rfl⟩
  obtain ⟨h1, g1, g2, g3⟩ := fill_ok (nn := nn) (c := l0 + 1) (by omega) hT.1 (by omega) hn (v := -1) (h := h) (by omega)
  obtain ⟨h2, k1, k2, k3, k4⟩ := fo_10 (nn := nn) (by omega) (l0 := l0) nn 7 1 h1 (by omega) (by omega) (by omega) (by
    intro j hj
    rw [g3 j (by omega)]
    by_cases w : (j : Int) < 1
    · rw [if_pos w]; unfold bi_A; rw [if_neg (by omega), if_neg (by omega)]
    · rw [if_neg w])
  refine ⟨h2, ?_, fun c j c1 c2 => by rw [k2 c j c1 c2, g2 c j c1], k3, k4⟩
  unfold qf_X4_forget
  rw [g1, mx_svs]; exact k1
/-- CLEAR, side by side -/
theorem clear_2 {nn : Nat} (hn : 100001 ≤ nn) {M : ms_M} (hcn : 256 ≤ cn_M M) : ∃ M1 M2, qf_X12_clear nn M = some M1 ∧ qf_X13_clear nn M1 = some M2 ∧ sp_R M2 ∧ rn_R M2 ∧ M2 56 3 = 0 ∧ M2 56 4 = 0 ∧ (∀ j : Nat, j < 16 → M2 58 j = bi_A j) ∧ un_R 57 M2 ∧ ∀ c k, nw_F [58, 59] [(56, 3), (56, 4), (143, 1), (143, 2), (143, 3), (143, 4), (143, 5), (143, 6), (143, 7), (160, 98), (160, 99), (160, 138)] false false c k = true → M2 c k = M c k := by
  obtain ⟨h1, g1, g2, g3, g4⟩ := kforget_ok hn (l0 := 57) (.inr rfl) (h := up_M (up_M M 56 3 0) 56 4 0) (by
    have : cn_M (up_M (up_M M 56 3 0) 56 4 0) = cn_M M := by unfold cn_M; rw [up_n (by omega), up_n (by omega)]
    omega)
  have hx : qf_X12_clear nn M = some (up_M (up_M (up_M (up_M (up_M (up_M (up_M h1 143 1 0) 143 2 (-1)) 143 3 0) 143 4 0) 143 5 0) 143 6 0) 143 7 0) := by
    unfold qf_X12_clear qf_X7_forget qf_X5_forget
    simp only [xl_eq, g1, mx_svs]
  refine ⟨_, _, hx, by unfold qf_X13_clear; simp only [xl_eq]; rfl, ?_, ?_, ?_, ?_, ?_, ?_, ?_⟩
  · refine ⟨?_, ?_, ?_⟩ <;> simp (disch := omega) only [up_s, up_n, g2]
    omega
  · refine ⟨?_, ?_, ?_, ?_, ?_, ?_, ?_⟩ <;> simp (disch := omega) only [up_s, up_n]
    all_goals first | omega | simp
  · simp (disch := omega) only [up_s, up_n, g2]
  · simp (disch := omega) only [up_s, up_n, g2]
  · intro j hj
    simp (disch := omega) only [up_n]
    exact g3 j hj
  · intro a b ha hb
    have e1 : (up_M (up_M (up_M (up_M (up_M (up_M (up_M (up_M (up_M (up_M h1 143 1 0) 143 2 (-1)) 143 3 0) 143 4 0) 143 5 0) 143 6 0) 143 7 0) 160 98 0) 160 99 0) 160 138 0) (57 + 1) = h1 (57 + 1) := by
      funext j; simp (disch := omega) only [up_n]
    have e2 : (up_M (up_M (up_M (up_M (up_M (up_M (up_M (up_M (up_M (up_M h1 143 1 0) 143 2 (-1)) 143 3 0) 143 4 0) 143 5 0) 143 6 0) 143 7 0) 160 98 0) 160 99 0) 160 138 0) (57 + 2) = h1 (57 + 2) := by
      funext j; simp (disch := omega) only [up_n]
    rw [e1, e2]; exact g4 a b ha hb
  · intro c k hc
    have n1 : ¬ c = 58 := nw_ne rfl c k hc
    have n2 : ¬ c = 59 := nw_ne rfl c k hc
    rw [up_n (nw_nf rfl c k hc), up_n (nw_nf rfl c k hc), up_n (nw_nf rfl c k hc), up_n (nw_nf rfl c k hc), up_n (nw_nf rfl c k hc), up_n (nw_nf rfl c k hc), up_n (nw_nf rfl c k hc), up_n (nw_nf rfl c k hc), up_n (nw_nf rfl c k hc), up_n (nw_nf rfl c k hc)]
    rw [g2 c k n1 n2, up_n (nw_nf rfl c k hc), up_n (nw_nf rfl c k hc)]
