/-- KIN: going up by extends, and the table of who extends whom -/
def ch_N (f : Nat → Int) : Nat → Int → Int
  | 0, a => a
  | n + 1, a => ch_N f n (if 0 ≤ a ∧ a < 16 then f a.toNat else a)
def re_N (f : Nat → Int) (n : Nat) (a b : Int) : Prop := ∃ m, m < n ∧ ch_N f m a = b
theorem wz_ok {α : Type} {n : Int} {c : Nat} {j v : Int} {M : ms_M} {G : ms_M → Option α} (h : (v = 0 ∨ v = 1) ∧ 0 ≤ j ∧ j < n) : wr_Z n c j v M G = G (up_M M c j.toNat v) := by unfold wr_Z; rw [if_pos h]
theorem wa_ok {α : Type} {n : Int} {c : Nat} {j v : Int} {M : ms_M} {G : ms_M → Option α} (h : 0 ≤ j ∧ j < n) : wr_A n c j v M G = G (up_M M c j.toNat v) := by unfold wr_A; rw [if_pos h]
theorem ch_out {f : Nat → Int} {a : Int} (h : ¬ (0 ≤ a ∧ a < 16)) : ∀ n, ch_N f n a = a := by
  intro n
  induction n with
  | zero => rfl
  | succ n ih => unfold ch_N; rw [if_neg h]; exact ih
/-- one row: from c on, n turns -/
theorem st_38 {nn : Nat} {qk : Nat → Int → ms_M → Option ms_M} {l0 : Nat} {l1 : Int} (h1 : 0 ≤ l1 ∧ l1 < 16) : ∀ (k : Nat) (n : Nat) (l2 l3 : Int) (h : ms_M), l3 = 16 - (n : Int) → n ≤ 16 → n < k → ∃ h2, qw_X4_settle_38 nn qk k l0 l1 l2 l3 h = qk l0 (l1 + 1) h2 ∧ (∀ c j, ¬ c = l0 + 2 → h2 c j = h c j) ∧ ∀ j : Nat, ((∃ b : Int, 0 ≤ b ∧ b < 16 ∧ (j : Int) = 16 * l1 + b ∧ re_N (h (l0 + 1)) n l2 b) → h2 (l0 + 2) j = 1) ∧ (¬ (∃ b : Int, 0 ≤ b ∧ b < 16 ∧ (j : Int) = 16 * l1 + b ∧ re_N (h (l0 + 1)) n l2 b) → h2 (l0 + 2) j = h (l0 + 2) j) := by
  intro k
  induction k with
  | zero => intro n l2 l3 h _ _ h4; omega
  | succ k ih =>
    intro n l2 l3 h h3 h4 h5
    have e1 : oq_add l1 1 = l1 + 1 := oq_add_eq (by omega) (by omega) (by omega)
    have stop : (¬ (∃ b : Int, 0 ≤ b ∧ b < 16 ∧ re_N (h (l0 + 1)) n l2 b)) → (∃ h2, qk l0 (l1 + 1) h = qk l0 (l1 + 1) h2 ∧ (∀ c j, ¬ c = l0 + 2 → h2 c j = h c j) ∧ ∀ j : Nat, ((∃ b : Int, 0 ≤ b ∧ b < 16 ∧ (j : Int) = 16 * l1 + b ∧ re_N (h (l0 + 1)) n l2 b) → h2 (l0 + 2) j = 1) ∧ (¬ (∃ b : Int, 0 ≤ b ∧ b < 16 ∧ (j : Int) = 16 * l1 + b ∧ re_N (h (l0 + 1)) n l2 b) → h2 (l0 + 2) j = h (l0 + 2) j)) := by
      intro hno
      refine ⟨h, rfl, fun _ _ _ => rfl, fun j => ⟨?_, fun _ => rfl⟩⟩
      rintro ⟨b, b1, b2, -, b4⟩
      exact absurd ⟨b, b1, b2, b4⟩ hno
    cases n with
    | zero =>
      have z : qw_X4_settle_38 nn qk (k + 1) l0 l1 l2 l3 h = qk l0 (l1 + 1) h := by
        unfold qw_X4_settle_38
        simp (disch := omega) only [if_pos, xl_eq, e1]
      rw [z]
      refine stop ?_
      rintro ⟨b, -, -, m, hm, -⟩; omega
    | succ n =>
      by_cases hr : 0 ≤ l2 ∧ l2 < 16
      · have z : qw_X4_settle_38 nn qk (k + 1) l0 l1 l2 l3 h = qw_X4_settle_38 nn qk k l0 l1 (h (l0 + 1) l2.toNat) (l3 + 1) (up_M h (l0 + 2) (l1 * 16 + l2).toNat 1) := by
          conv => lhs; unfold qw_X4_settle_38
          simp (disch := omega) only [if_pos, if_neg, xl_eq, oq_mul_eq, oq_add_eq, wz_ok, rd_ok]
          rw [up_n (by omega)]
        rw [z]
        obtain ⟨h2, g1, g2, g3⟩ := ih n (h (l0 + 1) l2.toNat) (l3 + 1) (up_M h (l0 + 2) (l1 * 16 + l2).toNat 1) (by omega) (by omega) (by omega)
        have ef : (up_M h (l0 + 2) (l1 * 16 + l2).toNat 1) (l0 + 1) = h (l0 + 1) := up_ne (l0 + 1) (by omega)
        rw [ef] at g3
        refine ⟨h2, g1, fun c j hc => by rw [g2 c j hc]; exact up_n (fun w => hc w.1), fun j => ?_⟩
        have key : ∀ b : Int, re_N (h (l0 + 1)) (n + 1) l2 b ↔ (b = l2 ∨ re_N (h (l0 + 1)) n (h (l0 + 1) l2.toNat) b) := by
          intro b
          constructor
          · rintro ⟨m, hm, e⟩
            cases m with
            | zero => exact .inl e.symm
            | succ m =>
              right
              unfold ch_N at e; rw [if_pos hr] at e
              exact ⟨m, by omega, e⟩
          · rintro (e | ⟨m, hm, e⟩)
            · exact ⟨0, by omega, e.symm⟩
            · exact ⟨m + 1, by omega, by unfold ch_N; rw [if_pos hr]; exact e⟩
        constructor
        · rintro ⟨b, b1, b2, b3, b4⟩
          by_cases q : ∃ b : Int, 0 ≤ b ∧ b < 16 ∧ (j : Int) = 16 * l1 + b ∧ re_N (h (l0 + 1)) n (h (l0 + 1) l2.toNat) b
          · exact (g3 j).1 q
          · rw [(g3 j).2 q]
            rcases (key b).mp b4 with e | e
            · have : j = (l1 * 16 + l2).toNat := by omega
              rw [this]; exact up_s
            · exact absurd ⟨b, b1, b2, b3, e⟩ q
        · intro hno
          rw [(g3 j).2 (by rintro ⟨b, b1, b2, b3, b4⟩; exact hno ⟨b, b1, b2, b3, (key b).mpr (.inr b4)⟩)]
          exact up_n (by rintro ⟨-, w⟩; exact hno ⟨l2, hr.1, hr.2, by omega, (key l2).mpr (.inl rfl)⟩)
      · have z : qw_X4_settle_38 nn qk (k + 1) l0 l1 l2 l3 h = qk l0 (l1 + 1) h := by
          unfold qw_X4_settle_38
          by_cases w : l2 < 0
          · simp (disch := omega) only [if_pos, if_neg, xl_eq, e1]
          · simp (disch := omega) only [if_pos, if_neg, xl_eq, e1]
        rw [z]
        refine stop ?_
        rintro ⟨b, b1, b2, m, hm, e⟩
        rw [ch_out hr] at e; omega
theorem st_10 {nn : Nat} (hn : 17 ≤ nn) {qk : Nat → Int → ms_M → Option ms_M} {l0 : Nat} {l1 : Int} (h1 : 0 ≤ l1 ∧ l1 < 16) : ∀ (k : Nat) (n : Nat) (l2 : Int) (h : ms_M), l2 = 16 - (n : Int) → n ≤ 16 → n < k → ∃ h2, qw_X4_settle_10 nn qk k l0 l1 l2 h = qk l0 (l1 + 1) h2 ∧ (∀ c j, ¬ c = l0 + 2 → h2 c j = h c j) ∧ (∀ j : Nat, ¬ (16 * l1 ≤ (j : Int) ∧ (j : Int) < 16 * l1 + 16) → h2 (l0 + 2) j = h (l0 + 2) j) ∧ ∀ b : Int, 0 ≤ b → b < 16 → (re_N (h (l0 + 1)) 16 l1 b → h2 (l0 + 2) (16 * l1 + b).toNat = 1) ∧ (¬ re_N (h (l0 + 1)) 16 l1 b → l2 ≤ b → h2 (l0 + 2) (16 * l1 + b).toNat = 0) ∧ (¬ re_N (h (l0 + 1)) 16 l1 b → b < l2 → h2 (l0 + 2) (16 * l1 + b).toNat = h (l0 + 2) (16 * l1 + b).toNat) := by
  intro k
  induction k with
  | zero => intro n l2 h _ _ h4; omega
  | succ k ih =>
    intro n l2 h h3 h4 h5
    cases n with
    | zero =>
      have z : qw_X4_settle_10 nn qk (k + 1) l0 l1 l2 h = qw_X4_settle_38 nn qk nn l0 l1 l1 0 h := by
        unfold qw_X4_settle_10; rw [if_pos (by omega)]
      rw [z]
      obtain ⟨h2, g1, g2, g3⟩ := st_38 (nn := nn) (qk := qk) (l0 := l0) h1 nn 16 l1 0 h (by omega) (by omega) (by omega)
      refine ⟨h2, g1, g2, ?_, ?_⟩
      · intro j hj
        exact (g3 j).2 (by rintro ⟨b, b1, b2, b3, -⟩; omega)
      · intro b b1 b2
        refine ⟨fun hr => (g3 _).1 ⟨b, b1, b2, by omega, hr⟩, fun hr w => by omega, fun hr w => (g3 _).2 ?_⟩
        rintro ⟨b', c1, c2, c3, c4⟩
        have : b' = b := by omega
        rw [this] at c4; exact hr c4
    | succ n =>
      have z : qw_X4_settle_10 nn qk (k + 1) l0 l1 l2 h = qw_X4_settle_10 nn qk k l0 l1 (l2 + 1) (up_M h (l0 + 2) (l1 * 16 + l2).toNat 0) := by
        conv => lhs; unfold qw_X4_settle_10
        simp (disch := omega) only [if_neg, xl_eq, oq_mul_eq, oq_add_eq, wz_ok]
      rw [z]
      obtain ⟨h2, g1, g2, g3, g4⟩ := ih n (l2 + 1) (up_M h (l0 + 2) (l1 * 16 + l2).toNat 0) (by omega) (by omega) (by omega)
      have ef : (up_M h (l0 + 2) (l1 * 16 + l2).toNat 0) (l0 + 1) = h (l0 + 1) := up_ne (l0 + 1) (by omega)
      rw [ef] at g4
      refine ⟨h2, g1, fun c j hc => by rw [g2 c j hc]; exact up_n (fun w => hc w.1), ?_, ?_⟩
      · intro j hj
        rw [g3 j hj]; exact up_n (by rintro ⟨-, w⟩; omega)
      · intro b b1 b2
        obtain ⟨k1, k2, k3⟩ := g4 b b1 b2
        refine ⟨k1, ?_, ?_⟩
        · intro hr hb
          by_cases w : b = l2
          · rw [k3 hr (by omega)]
            have : (16 * l1 + b).toNat = (l1 * 16 + l2).toNat := by omega
            rw [this]; exact up_s
          · exact k2 hr (by omega)
        · intro hr hb
          rw [k3 hr (by omega)]
          exact up_n (by rintro ⟨-, w⟩; omega)
/-- what settle leaves: the table of the Kin at cell l0 -/
def un_R (l0 : Nat) (M : ms_M) : Prop := ∀ a b : Nat, a < 16 → b < 16 → (re_N (M (l0 + 1)) 16 (a : Int) (b : Int) → M (l0 + 2) (16 * a + b) = 1) ∧ (¬ re_N (M (l0 + 1)) 16 (a : Int) (b : Int) → M (l0 + 2) (16 * a + b) = 0)
theorem st_2 {nn : Nat} (hn : 17 ≤ nn) {l0 : Nat} : ∀ (k : Nat) (n : Nat) (l1 : Int) (h : ms_M), l1 = 16 - (n : Int) → n ≤ 16 → n < k → (∀ a b : Nat, (a : Int) < l1 → b < 16 → (re_N (h (l0 + 1)) 16 (a : Int) (b : Int) → h (l0 + 2) (16 * a + b) = 1) ∧ (¬ re_N (h (l0 + 1)) 16 (a : Int) (b : Int) → h (l0 + 2) (16 * a + b) = 0)) → ∃ h2, qw_X4_settle_2 nn k l0 l1 h = some h2 ∧ (∀ c j, ¬ c = l0 + 2 → h2 c j = h c j) ∧ un_R l0 h2 := by
  intro k
  induction k with
  | zero => intro n l1 h _ _ h4; omega
  | succ k ih =>
    intro n l1 h h3 h4 h5 h6
    cases n with
    | zero =>
      refine ⟨h, by unfold qw_X4_settle_2; rw [if_pos (by omega)], fun _ _ _ => rfl, ?_⟩
      intro a b ha hb
      exact h6 a b (by omega) hb
    | succ n =>
      have z : qw_X4_settle_2 nn (k + 1) l0 l1 h = qw_X4_settle_10 nn (qw_X4_settle_2 nn k) nn l0 l1 0 h := by
        conv => lhs; unfold qw_X4_settle_2
        rw [if_neg (by omega)]
      rw [z]
      obtain ⟨h1, g1, g2, g3, g4⟩ := st_10 hn (qk := qw_X4_settle_2 nn k) (l0 := l0) (l1 := l1) (by omega) nn 16 0 h (by omega) (by omega) (by omega)
      rw [g1]
      have ef : h1 (l0 + 1) = h (l0 + 1) := by funext j; exact g2 _ j (by omega)
      obtain ⟨h2, k1, k2, k3⟩ := ih n (l1 + 1) h1 (by omega) (by omega) (by omega) (by
        intro a b ha hb
        rw [ef]
        by_cases w : (a : Int) = l1
        · have q := g4 (b : Int) (by omega) (by omega)
          have e : (16 * l1 + (b : Int)).toNat = 16 * a + b := by omega
          rw [e, ← w] at q
          exact ⟨q.1, fun hr => q.2.1 hr (by omega)⟩
        · rw [g3 (16 * a + b) (by omega)]
          exact h6 a b (by omega) hb)
      exact ⟨h2, k1, fun c j hc => by rw [k2 c j hc, g2 c j hc], k3⟩
theorem settle_ok {nn : Nat} (hn : 17 ≤ nn) {l0 : Nat} {h : ms_M} : ∃ h2, qf_X4_settle nn l0 h = some h2 ∧ (∀ c j, ¬ c = l0 + 2 → h2 c j = h c j) ∧ un_R l0 h2 := by
  unfold qf_X4_settle
  exact st_2 hn nn 16 0 h (by omega) (by omega) (by omega) (by intro a b ha; omega)
