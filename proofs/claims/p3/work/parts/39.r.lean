/-- with a relation between what a function finds and what it leaves -/
def QVR_ (R : ms_M → Prop) : ms_M → Prop := fun M => VS_ M ∧ R M
def QIR_ (lo hi : Int) (R : Int → ms_M → Prop) : Int × ms_M → Prop := fun x => VS_ x.2 ∧ lo ≤ x.1 ∧ x.1 ≤ hi ∧ R x.1 x.2
section
variable {α : Type} {Q : α → Prop} {M : ms_M} {R R1 R2 : ms_M → Prop} {S S1 S2 : Int → ms_M → Prop} {lo hi : Int}
theorem ok_rVR (h : VS_ M) (r : R M) : Ok_ (some M) (QVR_ R) := ⟨M, rfl, h, r⟩
theorem ok_rIR {x : Int} (h : VS_ M) (h1 : lo ≤ x) (h2 : x ≤ hi) (r : S x M) : Ok_ (some (x, M)) (QIR_ lo hi S) := ⟨_, rfl, h, h1, h2, r⟩
theorem ok_cVR {x : Option ms_M} {F : ms_M → Option α} (hx : Ok_ x (QVR_ R)) (h : ∀ a, x = some a → VS_ a → R a → Ok_ (F a) Q) : Ok_ (mx_sv x F) Q := by
  obtain ⟨a, e, hq⟩ := hx
  rw [e, mx_svs]; exact h a e hq.1 hq.2
theorem ok_cIR {x : Option (Int × ms_M)} {F : Int × ms_M → Option α} (hx : Ok_ x (QIR_ lo hi S)) (h : ∀ a, x = some a → VS_ a.2 → lo ≤ a.1 → a.1 ≤ hi → S a.1 a.2 → Ok_ (F a) Q) : Ok_ (mx_sv x F) Q := by
  obtain ⟨a, e, hq⟩ := hx
  rw [e, mx_svs]; exact h a e hq.1 hq.2.1 hq.2.2.1 hq.2.2.2
theorem ok_mV {x : Option ms_M} (hx : Ok_ x (QVR_ R1)) (h : ∀ a, VS_ a → R1 a → R2 a) : Ok_ x (QVR_ R2) := by
  obtain ⟨a, e, hq⟩ := hx
  exact ⟨a, e, hq.1, h a hq.1 hq.2⟩
theorem ok_mI {x : Option (Int × ms_M)} (hx : Ok_ x (QIR_ lo hi S1)) (h : ∀ u a, VS_ a → S1 u a → S2 u a) : Ok_ x (QIR_ lo hi S2) := by
  obtain ⟨a, e, hq⟩ := hx
  exact ⟨a, e, hq.1, hq.2.1, hq.2.2.1, h _ _ hq.1 hq.2.2.2⟩
end
theorem lm_X9_kind {nn : Nat} {h : ms_M} {u : Int} (e : qf_X9_kind nn h = some u) : u = 0 ∨ (h 2 11 = 0 ∧ h 2 10 < h 2 3) := by
  unfold qf_X9_kind at e
  split at e
  · cases e; exact .inl rfl
  · split at e
    · cases e; exact .inl rfl
    · split at e
      · cases e; exact .inl rfl
      · right; omega
theorem lm_X9_beginsCast {nn : Nat} {h : ms_M} {u : Int} (e : qf_X9_beginsCast nn h = some u) : u = 0 ∨ (h 2 11 = 0 ∧ h 2 10 < h 2 3) := by
  unfold qf_X9_beginsCast at e
  obtain ⟨b, e1, e2⟩ := sv_i e
  rcases lm_X9_kind e1 with z | z
  · subst z; rw [if_pos (by decide)] at e2; cases e2; exact .inl rfl
  · exact .inr z
theorem lm_X9_beginsVariable {nn : Nat} {h : ms_M} {u : Int} (e : qf_X9_beginsVariable nn h = some u) : u = 0 ∨ (h 2 11 = 0 ∧ h 2 10 < h 2 3) := by
  unfold qf_X9_beginsVariable at e
  obtain ⟨b, e1, e2⟩ := sv_i e
  rcases lm_X9_kind e1 with z | z
  · subst z; rw [if_neg (by decide), if_neg (by decide), if_pos (by decide)] at e2; cases e2; exact .inl rfl
  · exact .inr z
theorem lm_X9_level {nn : Nat} {a0 : Int} {h : ms_M} {u : Int} (e : qf_X9_level nn a0 h = some u) : u = 0 ∨ ¬ a0 = 0 := by
  by_cases w : a0 = 0
  · subst w
    have e2 : qf_X9_level nn 0 h = some 0 := rfl
    rw [e2] at e; cases e; exact .inl rfl
  · exact .inr w
theorem lm_X8_binaryAhead {nn : Nat} {a1 : Int} {h : ms_M} {u : Int} (e : qf_X8_binaryAhead nn a1 h = some u) : u = 0 ∨ (h 2 11 = 0 ∧ h 2 10 < h 2 3) := by
  unfold qf_X8_binaryAhead at e
  obtain ⟨b, e1, e2⟩ := sv_i e
  obtain ⟨c, e3, e4⟩ := sv_i e2
  rcases lm_X9_kind e1 with z | z
  · rcases lm_X9_level e3 with y | y
    · subst y; rw [if_pos (by decide)] at e4; cases e4; exact .inl rfl
    · omega
  · exact .inr z
theorem lm_X10_isSignDue {nn : Nat} {a1 a2 : Int} {h : ms_M} {u : Int} (e : qf_X10_isSignDue nn a1 a2 h = some u) : u = 0 ∨ a1 < h 49 10 := by
  unfold qf_X10_isSignDue at e
  split at e
  · cases e; exact .inl rfl
  · right; omega
theorem lm_X9_kindAt {nn : Nat} {a1 : Int} {h : ms_M} {u : Int} (e : qf_X9_kindAt nn a1 h = some u) : u = 0 ∨ (0 ≤ a1 ∧ a1 < h 2 3) := by
  unfold qf_X9_kindAt at e
  split at e
  · cases e; exact .inl rfl
  · split at e
    · cases e; exact .inl rfl
    · right; omega
theorem lm_X10_isCallBehindPoint {nn : Nat} {a1 : Int} {h : ms_M} {u : Int} (_ : VS_ h) (ha : 0 ≤ a1 ∧ a1 ≤ 100000000) (e : qf_X10_isCallBehindPoint nn a1 h = some u) : u = 0 ∨ a1 + 2 < h 2 3 := by
  unfold qf_X10_isCallBehindPoint at e
  obtain ⟨b, _, e2⟩ := sv_i e
  split at e2
  · cases e2; exact .inl rfl
  · unfold xl at e2
    obtain ⟨b2, _, e3⟩ := sv_i e2
    split at e3
    · cases e3; exact .inl rfl
    · dsimp only at e3
      obtain ⟨b3, z, e4⟩ := sv_i e3
      rcases lm_X9_kindAt z with y | y
      · subst y; rw [if_pos (by decide)] at e4; cases e4; exact .inl rfl
      · rw [oq_add_eq (by omega) (by omega) (by omega)] at y; exact .inr y.2
theorem ok_ite {α : Type} {Q : α → Prop} {c : Prop} {d : Decidable c} {x y : Int} {F : Int → Option α} (h : ∀ z, (c ∧ z = x ∨ ¬ c ∧ z = y) → Ok_ (F z) Q) : Ok_ (xl (if c then x else y) F) Q := by
  refine h _ ?_
  by_cases w : c
  · rw [if_pos w]; exact .inl ⟨w, rfl⟩
  · rw [if_neg w]; exact .inr ⟨w, rfl⟩
theorem lm_X2_bodyOf {nn : Nat} {a1 : Int} {h : ms_M} {u : Int} (V : VS_ h) (ha : 0 ≤ a1 ∧ a1 ≤ 95) (e : qf_X2_bodyOf nn a1 h = some u) : (0 ≤ u ∧ u ≤ 21000000) ∨ h 21 (a1 / 12).toNat ≤ a1 % 12 := by
  unfold qf_X2_bodyOf at e
  obtain ⟨b, e1, e2⟩ := sv_i e
  split at e2
  · rename_i z
    right
    unfold qf_X2_isMethod at e1
    rw [if_neg (by omega), if_neg (by omega)] at e1
    unfold xl at e1
    rw [Int.tmod_eq_emod_of_nonneg ha.1, Int.tdiv_eq_ediv_of_nonneg ha.1] at e1
    have e1 := rd_i e1
    split at e1
    · omega
    · cases e1; omega
  · left
    have e2 := rd_i e2
    cases e2
    exact gA_23 V a1.toNat (by omega)
/-- the names stand one behind the other -/
def NM_ (h : ms_M) : Prop := 32 ≤ h 2 9 ∧ ∀ k : Nat, (k : Int) < h 2 9 → h 7 k ≤ h 7 (k + 1)
theorem nm_eq {M M2 : ms_M} (N : NM_ M) (h7 : ∀ k, M2 7 k = M 7 k) (h9 : M2 2 9 = M 2 9) : NM_ M2 := by
  refine ⟨by rw [h9]; exact N.1, fun k hk => ?_⟩
  rw [h7, h7]; rw [h9] at hk; exact N.2 k hk
theorem nm_up {M : ms_M} {c k : Nat} {v : Int} (N : NM_ M) (h : c ≠ 7 ∧ c ≠ 2) : NM_ (up_M M c k v) := nm_eq N (fun j => up_n (by omega)) (up_n (by omega))
theorem nm_uf {M : ms_M} {c k : Nat} {v : Int} (N : NM_ M) (h : c ≠ 7 ∧ (c ≠ 2 ∨ k ≠ 9)) : NM_ (up_M M c k v) := nm_eq N (fun j => up_n (by omega)) (up_n (by omega))
theorem nm_K {M : ms_M} (N : NM_ M) : NM_ (up_M M 2 9 32) := by
  refine ⟨by rw [up_s]; decide, fun k hk => ?_⟩
  rw [up_s] at hk
  rw [up_n (by omega), up_n (by omega)]
  exact N.2 k (by have := N.1; omega)
theorem nm_close {nn : Nat} {a1 : Int} {h u : ms_M} (N : NM_ h) (hp : h 7 (h 2 9).toNat ≤ a1) (hn : h 2 9 ≤ 1739) (e : qf_X9_closeName nn a1 h = some u) : NM_ u := by
  have N1 := N.1
  unfold qf_X9_closeName at e
  have e := rd_i e
  unfold xl at e
  obtain ⟨b, -, e⟩ := sv_i e
  have e := rd_i e
  have e := wa_i e
  have e := wa_i e
  dsimp only at e
  have e := wa_i e
  have e := Option.some.inj e
  have q : ∀ x y z w : Int, up_M (up_M h 8 x.toNat y) 9 z.toNat w 2 9 = h 2 9 := fun x y z w => by rw [up_n (by omega), up_n (by omega)]
  rw [q, oq_add_eq (by omega) (by omega) (by omega)] at e
  rw [up_s] at e
  have hk : (h 2 9 + 1).toNat = (h 2 9).toNat + 1 := by omega
  have u9 : u 2 9 = h 2 9 + 1 := by rw [← e, up_n (by omega), up_s]
  have u7 : ∀ j, j ≠ (h 2 9 + 1).toNat → u 7 j = h 7 j := fun j hj => by rw [← e, up_n (by omega), up_n (by omega), up_n (by omega), up_n (by omega)]
  have u8 : u 7 ((h 2 9).toNat + 1) = a1 := by rw [← e, hk]; exact up_s
  refine ⟨by omega, fun k hk2 => ?_⟩
  by_cases w : k = (h 2 9).toNat
  · subst w
    rw [u8, u7 _ (by omega)]; exact hp
  · rw [u7 _ (by omega), u7 _ (by omega)]; exact N.2 k (by omega)
theorem nm_len {nn : Nat} {a1 : Int} {h : ms_M} {u : Int} (N : NM_ h) (V : VS_ h) (e : qf_X9_nameLength nn a1 h = some u) : 0 ≤ u := by
  have g9 := gF_2_9 V
  unfold qf_X9_nameLength at e
  split at e
  · cases e; decide
  · split at e
    · cases e; decide
    · have e1 : oq_add a1 1 = a1 + 1 := oq_add_eq (by omega) (by omega) (by omega)
      have r1 := gA_7 V (a1 + 1).toNat (by omega)
      have r2 := gA_7 V a1.toNat (by omega)
      simp (disch := omega) only [xl_eq, e1, rd_ok, oq_sub_eq] at e
      have e := Option.some.inj e
      have := N.2 a1.toNat (by omega)
      have k1 : (a1 + 1).toNat = a1.toNat + 1 := by omega
      rw [k1] at e
      omega
theorem cp_i {α : Type} {M : ms_M} {a b : Nat} {sp dp n : Int} {G : ms_M → Option α} {r : α} (e : cp_S a sp b dp n M G = some r) : G (cp_M M a sp.toNat b dp.toNat n.toNat) = some r := by
  unfold cp_S at e; split at e
  · exact e
  · cases e
theorem nm_79 {nn l1 : Nat} {l2 l3 : Int} {h : ms_M} {u : Int × ms_M} (N : NM_ h) (V : VS_ h) (hl : 0 ≤ l3 ∧ l3 ≤ 100000) (e : qj_X9_nameOf_79 nn l1 l2 l3 h = some u) : NM_ u.2 := by
  have N1 := N.1
  have g9 := gF_2_9 V
  unfold qj_X9_nameOf_79 at e
  have e := rd_i e
  split at e
  · cases e; exact N
  · have r1 := gA_7 V (h 2 9).toNat (by omega)
    unfold xl at e
    dsimp only at e
    split at e
    · have e := cp_i e
      rw [oq_add_eq (by omega) (by omega) (by omega)] at e
      obtain ⟨z, e1, e2⟩ := sv_i e
      have e2 := Option.some.inj e2
      subst e2
      have F : ∀ c k, c ≠ 6 → cp_M h l1 l2.toNat 6 (h 7 (h 2 9).toNat).toNat l3.toNat c k = h c k := fun c k hc => by unfold cp_M; rw [if_neg (by omega)]
      refine nm_close (nm_eq N (fun k => F 7 k (by decide)) (F 2 9 (by decide))) ?_ ?_ e1
      · rw [F 2 9 (by decide), F 7 _ (by decide)]; omega
      · rw [F 2 9 (by decide)]; omega
    · cases e; exact N
theorem nm_35 {nn l1 : Nat} {l2 l3 : Int} {h : ms_M} {u : Int × ms_M} (N : NM_ h) (V : VS_ h) (hl : 0 ≤ l3 ∧ l3 ≤ 100000) : ∀ (k : Nat) (l4 l5 : Int), qw_X9_nameOf_35 nn k l1 l2 l3 l4 l5 h = some u → NM_ u.2 := by
  intro k
  induction k with
  | zero => intro _ _ e; cases e
  | succ k ih =>
    intro l4 l5 e
    unfold qw_X9_nameOf_35 at e
    split at e
    · exact nm_79 N V hl e
    · split at e
      · exact nm_79 N V hl e
      · obtain ⟨z, -, e⟩ := sv_i e
        split at e
        · have e := rd_i e
          exact ih _ _ e
        · cases e; exact N
theorem nm_nameOf {nn a1 : Nat} {a2 a3 : Int} {h : ms_M} {u : Int × ms_M} (N : NM_ h) (V : VS_ h) (hl : a3 ≤ 100000) (e : qf_X9_nameOf nn a1 a2 a3 h = some u) : NM_ u.2 := by
  unfold qf_X9_nameOf at e
  split at e
  · cases e; exact N
  · split at e
    · cases e; exact N
    · unfold xl ln_S at e
      split at e
      · dsimp only at e
        split at e
        · obtain ⟨z, -, e⟩ := sv_i e
          have e := rd_i e
          exact nm_35 N V (by omega) _ _ _ e
        · cases e; exact N
      · cases e
/-- the last token is END or BAD -/
def EI_ (h : ms_M) : Prop := 1 ≤ h 2 3 ∧ h 3 (h 2 3 - 1).toNat ≤ 1
theorem ei_eq {M M2 : ms_M} (N : EI_ M) (h3 : ∀ k, M2 3 k = M 3 k) (h9 : M2 2 3 = M 2 3) : EI_ M2 := by
  unfold EI_; rw [h9, h3]; exact N
theorem lm_X8_need {nn : Nat} {a1 : Int} {h u : ms_M} (N : EI_ h) (ha : 2 ≤ a1 ∧ 0 ≤ h 2 10 ∧ h 2 10 ≤ 100000000) (e : qf_X8_need nn a1 h = some u) : ¬ u 2 11 = 0 ∨ ¬ u 2 10 = h 2 10 + 1 ∨ h 2 10 + 1 < h 2 3 := by
  unfold qf_X8_need at e
  obtain ⟨b, e1, e2⟩ := sv_i e
  by_cases w : b = a1
  · right; right
    unfold qf_X9_kind at e1
    split at e1
    · cases e1; omega
    · split at e1
      · cases e1; omega
      · split at e1
        · cases e1; omega
        · have e1 := rd_i e1
          have e1 := Option.some.inj e1
          have := N.2
          by_cases y : h 2 10 = h 2 3 - 1
          · rw [← y] at this; omega
          · omega
  · right; left
    rw [if_pos w] at e2
    obtain ⟨c, e3, e4⟩ := sv_i e2
    cases e4
    have : u 2 10 = h 2 10 := (ff_X9_tellHere nn) _ e3 2 10 rfl
    omega
theorem lm_X2_addClass {nn : Nat} {a1 : Int} {h u : ms_M} (V : VS_ h) (e : qf_X2_addClass nn a1 h = some u) : (u 15 8 = h 15 8 ∧ ¬ h 11 2 = 8) ∨ (h 11 2 = 8 ∧ u 15 8 = a1) := by
  have g := gF_11_2 V
  unfold qf_X2_addClass at e
  split at e
  · cases e; left; exact ⟨rfl, by omega⟩
  · have e := wa_i e
    unfold xl at e
    dsimp only at e
    have e := Option.some.inj e
    by_cases w : h 11 2 = 8
    · right
      refine ⟨w, ?_⟩
      rw [← e, up_n (by omega), w]; exact up_s
    · left
      refine ⟨?_, w⟩
      rw [← e, up_n (by omega), up_n (by omega)]
theorem lm_X9_addToken {nn : Nat} {a1 a2 a3 : Int} {h u : ms_M} (V : VS_ h) (e : qf_X9_addToken nn a1 a2 a3 h = some u) : 3001 ≤ h 2 3 ∨ (u 2 3 = h 2 3 + 1 ∧ u 3 (u 2 3 - 1).toNat = a1) := by
  have g := gF_2_3 V
  unfold qf_X9_addToken at e
  split at e
  · cases e; left; omega
  · right
    have e := wa_i e
    have e := wa_i e
    have e := wa_i e
    unfold xl at e
    dsimp only at e
    have e := Option.some.inj e
    have q : ∀ x y z : Int, ∀ a b c : Nat, up_M (up_M (up_M h 3 a x) 4 b y) 5 c z 2 3 = h 2 3 := fun x y z a b c => by rw [up_n (by omega), up_n (by omega), up_n (by omega)]
    have u1 : u 2 3 = h 2 3 + 1 := by
      rw [← e, up_s, q, oq_add_eq (by omega) (by omega) (by omega)]
    refine ⟨u1, ?_⟩
    rw [u1]
    have k1 : (h 2 3 + 1 - 1).toNat = (h 2 3).toNat := by omega
    rw [k1, ← e, up_n (by omega), up_n (by omega), up_n (by omega)]
    exact up_s
