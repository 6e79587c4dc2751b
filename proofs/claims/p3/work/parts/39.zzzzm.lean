section
variable {nn : Nat} {h g r z w v : ms_M} {c d k : Int}
/-- the same n bytes lie at a and b -/
def SB (h : ms_M) (a b n : Int) : Prop := (0 ≤ a ∧ a + n ≤ 48000) ∧ (0 ≤ b ∧ b + n ≤ 48000) ∧ (0 ≤ n ∧ n ≤ 255) ∧ ∀ i : Int, 0 ≤ i → i < n → h 226 (a + i).toNat = h 226 (b + i).toNat
theorem rdS_p {α : Type} {a b n i : Int} {G : Int → Option α} (B : SB h a b n) (i1 : 0 ≤ i) (i2 : i < n) : rd_S 226 (a + i) h G = rd_S 226 (b + i) h G := by
  obtain ⟨b1, b2, b3, b4⟩ := B
  have l : ln_I h 226 = 48000 := by rw [ln_I, if_pos (by decide)]; rfl
  unfold rd_S
  rw [l]
  by_cases q : (226 < cn_M h ∧ ly_T 226 = 0)
  · rw [if_pos ⟨q, by omega, by omega⟩, if_pos ⟨q, by omega, by omega⟩, b4 i i1 i2]
  · rw [if_neg (fun y => q y.1), if_neg (fun y => q y.1)]
theorem cp_184 {a b n l5 : Int} (B : SB h a b n) : ∀ (k : Nat) (l6 l7 : Int), 0 ≤ l7 → qw_X13_isNamed_184 nn k 226 a n l5 l6 l7 h = qw_X13_isNamed_184 nn k 226 b n l5 l6 l7 h := by
  have B0 := B
  obtain ⟨b1, b2, b3, _⟩ := B
  intro k
  induction k with
  | zero => intro l6 l7 _; rfl
  | succ k ih =>
    intro l6 l7 p
    unfold qw_X13_isNamed_184
    by_cases q : n ≤ l7
    · rw [if_pos q, if_pos q]
    · rw [if_neg q, if_neg q]
      simp only [xl_eq]
      rw [oq_add_eq (x := a) (y := l7) (by omega) (by omega) (by omega), oq_add_eq (x := b) (y := l7) (by omega) (by omega) (by omega), oq_add_eq (x := l7) (y := 1) (by omega) (by omega) (by omega)]
      simp only [rdS_p B0 p (show l7 < n by omega), ih _ (l7 + 1) (by omega)]
theorem cp_97 {a b n l6 : Int} (B : SB h a b n) : ∀ (k : Nat) (l7 l8 : Int), 0 ≤ l8 → qw_X13_isNamed_97 nn k 226 a n l6 l7 l8 h = qw_X13_isNamed_97 nn k 226 b n l6 l7 l8 h := by
  have B0 := B
  obtain ⟨b1, b2, b3, _⟩ := B
  intro k
  induction k with
  | zero => intro l7 l8 _; rfl
  | succ k ih =>
    intro l7 l8 p
    unfold qw_X13_isNamed_97
    by_cases q : n ≤ l8
    · rw [if_pos q, if_pos q]
    · rw [if_neg q, if_neg q]
      simp only [xl_eq]
      rw [oq_add_eq (x := a) (y := l8) (by omega) (by omega) (by omega), oq_add_eq (x := b) (y := l8) (by omega) (by omega) (by omega), oq_add_eq (x := l8) (y := 1) (by omega) (by omega) (by omega)]
      simp only [rdS_p B0 p (show l8 < n by omega), ih _ (l8 + 1) (by omega)]
theorem cp_12 {a b n l1 : Int} (B : SB h a b n) : ∀ (k : Nat) (l5 l6 : Int), qw_X13_isNamed_12 nn k l1 226 a n l5 l6 h = qw_X13_isNamed_12 nn k l1 226 b n l5 l6 h := by
  intro k
  induction k with
  | zero => intro l5 l6; rfl
  | succ k ih =>
    intro l5 l6
    unfold qw_X13_isNamed_12 qj_X13_isNamed_91
    simp only [cp_97 B _ _ 0 (by decide), ih]
theorem cp_isNamed {a b n l1 : Int} (B : SB h a b n) : qf_X13_isNamed nn l1 226 a n h = qf_X13_isNamed nn l1 226 b n h := by
  unfold qf_X13_isNamed
  simp only [cp_184 B _ _ 0 (by decide), cp_12 B]
theorem cp_classNamed {a b n : Int} (B : SB h a b n) : qf_X13_classNamed nn 226 a n h = qf_X13_classNamed nn 226 b n h := by
  have L : ∀ (k : Nat) (l : Int), qw_X13_classNamed_3 nn k 226 a n l h = qw_X13_classNamed_3 nn k 226 b n l h := by
    intro k
    induction k with
    | zero => intro l; rfl
    | succ k ih =>
      intro l
      unfold qw_X13_classNamed_3
      simp only [cp_isNamed B, ih]
  unfold qf_X13_classNamed
  exact L nn 0
/-- the same name at another place is a class's too -/
theorem fn_p {a b n : Int} (B : SB h a b n) (F : FNm nn h a n) : FNm nn h b n := by
  obtain ⟨u, x, e⟩ := F
  exact ⟨u, x, by rw [← cp_classNamed B]; exact e⟩
end
