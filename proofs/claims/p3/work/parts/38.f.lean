/-- NAMES -/
def lt_N (x : Int) : Bool := (decide (97 ≤ x) && decide (x ≤ 122)) || (decide (65 ≤ x) && decide (x ≤ 90))
def np_N (i : Nat) (x : Int) : Bool := lt_N x || (decide (0 < i) && ((decide (48 ≤ x) && decide (x ≤ 57)) || decide (x = 95)))
def al_N (p : Nat → Bool) : Nat → Nat → Bool
  | _, 0 => true
  | i, n + 1 => p i && al_N p (i + 1) n
def nm_N (f : Nat → Int) (len : Nat) : Bool := (decide (1 ≤ len) && decide (len ≤ 12)) && al_N (fun i => np_N i (f i)) 0 len
def bi_N (b : Bool) : Int := if b = true then 1 else 0
theorem cn_body {nn : Nat} {qk : Nat → Int → Int → Int → Int → ms_M → Option Int} {l0 : Nat} {l1 l2 l4 v : Int} {h : ms_M} {i : Nat} (h4 : l4 = l1 + (i : Int)) (r1 : 0 ≤ l1 ∧ l1 ≤ 1000000) (r2 : i ≤ 20) : (if v < 97 then (qj_X9_isName_62 nn qk l0 l1 l2 l4 v h) else (if v ≤ 122 then (qj_X9_isName_76 nn qk l0 l1 l2 l4 v h) else (qj_X9_isName_62 nn qk l0 l1 l2 l4 v h))) = qk l0 l1 l2 (bi_N (np_N i v)) (l4 + 1) h := by
  have e1 : oq_add l4 1 = l4 + 1 := oq_add_eq (by omega) (by omega) (by omega)
  unfold qj_X9_isName_62 qj_X9_isName_76 qj_X9_isName_80 qj_X9_isName_81 qj_X9_isName_108 qj_X9_isName_119 qj_X9_isName_115
  simp only [xl_eq, e1]
  have one : np_N i v = true → qk l0 l1 l2 1 (l4 + 1) h = qk l0 l1 l2 (bi_N (np_N i v)) (l4 + 1) h := fun z => by rw [z]; rfl
  have zero : np_N i v = false → qk l0 l1 l2 0 (l4 + 1) h = qk l0 l1 l2 (bi_N (np_N i v)) (l4 + 1) h := fun z => by rw [z]; rfl
  by_cases L : (97 ≤ v ∧ v ≤ 122) ∨ (65 ≤ v ∧ v ≤ 90)
  · have hp : np_N i v = true := by
      unfold np_N lt_N
      rcases L with ⟨a, b⟩ | ⟨a, b⟩ <;> simp [a, b]
    rw [← one hp]
    rcases L with L | L
    · simp (disch := omega) only [if_pos, if_neg, not_true_eq_false, not_false_eq_true, ↓reduceIte, true_or, or_true]
    · simp (disch := omega) only [if_pos, if_neg, not_true_eq_false, not_false_eq_true, ↓reduceIte, true_or, or_true]
  · have hl : lt_N v = false := by
      unfold lt_N
      simp only [Bool.or_eq_false_iff, Bool.and_eq_false_iff, decide_eq_false_iff_not]
      omega
    by_cases D : 0 < i ∧ ((48 ≤ v ∧ v ≤ 57) ∨ v = 95)
    · have hp : np_N i v = true := by
        unfold np_N; rw [hl]
        obtain ⟨a, b⟩ := D
        rcases b with ⟨b, c⟩ | b <;> simp [a, b, *]
      rw [← one hp]
      obtain ⟨D1, D2⟩ := D
      by_cases w : v < 97
      · by_cases w2 : v < 65
        · by_cases w3 : 48 ≤ v ∧ v ≤ 57
          · simp (disch := omega) only [if_pos, if_neg, not_true_eq_false, not_false_eq_true, ↓reduceIte, true_or, or_true]
          · omega
        · have : v = 95 := by omega
          simp (disch := omega) only [if_pos, if_neg, not_true_eq_false, not_false_eq_true, ↓reduceIte, true_or, or_true]
      · omega
    · have hp : np_N i v = false := by
        unfold np_N; rw [hl]
        simp only [Bool.false_or, Bool.and_eq_false_iff, Bool.or_eq_false_iff, decide_eq_false_iff_not]
        omega
      rw [← zero hp]
      by_cases i0 : i = 0
      · by_cases w : v < 97
        · by_cases w2 : v < 65
          · simp (disch := omega) only [if_pos, if_neg, not_true_eq_false, not_false_eq_true, ↓reduceIte, true_or, or_true]
          · simp (disch := omega) only [if_pos, if_neg, not_true_eq_false, not_false_eq_true, ↓reduceIte, true_or, or_true]
        · simp (disch := omega) only [if_pos, if_neg, not_true_eq_false, not_false_eq_true, ↓reduceIte, true_or, or_true]
      · by_cases w : v < 97
        · by_cases w2 : v < 65
          · by_cases w3 : v < 48
            · simp (disch := omega) only [if_pos, if_neg, not_true_eq_false, not_false_eq_true, ↓reduceIte, true_or, or_true]
            · simp (disch := omega) only [if_pos, if_neg, not_true_eq_false, not_false_eq_true, ↓reduceIte, true_or, or_true]
          · simp (disch := omega) only [if_pos, if_neg, not_true_eq_false, not_false_eq_true, ↓reduceIte, true_or, or_true]
        · simp (disch := omega) only [if_pos, if_neg, not_true_eq_false, not_false_eq_true, ↓reduceIte, true_or, or_true]
theorem cn_zero {nn k : Nat} {l0 : Nat} {l1 l2 l4 : Int} {h : ms_M} : qw_X9_isName_32 nn (k + 1) l0 l1 l2 0 l4 h = some 0 := by
  unfold qw_X9_isName_32 ck_B
  by_cases q : l2 ≤ l4
  · simp (disch := omega) only [if_pos, if_neg, not_true_eq_false, not_false_eq_true, ↓reduceIte, true_or, or_true]
  · simp (disch := omega) only [if_pos, if_neg, not_true_eq_false, not_false_eq_true, ↓reduceIte, true_or, or_true]
theorem cn_loop {nn : Nat} {l0 : Nat} {l1 l2 : Int} {h : ms_M} (hc : l0 < cn_M h) (ht : ly_T l0 = 1) (r1 : 0 ≤ l1 ∧ l1 ≤ 1000000) (hl : l2 ≤ ln_I h l0) (h12 : l2 - l1 ≤ 12) : ∀ (k n i : Nat) (l4 : Int), l4 = l1 + (i : Int) → l2 = l4 + (n : Int) → n + 1 < k → qw_X9_isName_32 nn k l0 l1 l2 1 l4 h = some (bi_N (al_N (fun j => np_N j (h l0 (l1.toNat + j))) i n)) := by
  intro k
  induction k with
  | zero => intro n i l4 _ _ h5; omega
  | succ k ih =>
    intro n i l4 h4 h5 h6
    cases n with
    | zero =>
      unfold qw_X9_isName_32 ck_B
      simp (disch := omega) only [if_pos, or_true, ↓reduceIte]
      rfl
    | succ n =>
      have e : l4.toNat = l1.toNat + i := by omega
      have z : qw_X9_isName_32 nn (k + 1) l0 l1 l2 1 l4 h = qw_X9_isName_32 nn k l0 l1 l2 (bi_N (np_N i (h l0 (l1.toNat + i)))) (l4 + 1) h := by
        conv => lhs; unfold qw_X9_isName_32
        unfold rd_T
        rw [if_neg (by omega), if_neg (by omega), if_pos ⟨⟨hc, ht⟩, by omega, by omega⟩]
        dsimp only
        rw [cn_body h4 r1 (by omega), e]
      rw [z]
      unfold al_N
      cases hp : np_N i (h l0 (l1.toNat + i)) with
      | false =>
        obtain ⟨k2, rfl⟩ : ∃ k2, k = k2 + 1 := ⟨k - 1, by omega⟩
        show qw_X9_isName_32 nn (k2 + 1) l0 l1 l2 0 (l4 + 1) h = _
        rw [cn_zero]; rfl
      | true =>
        show qw_X9_isName_32 nn k l0 l1 l2 1 (l4 + 1) h = _
        rw [ih n (i + 1) (l4 + 1) (by omega) (by omega) (by omega)]
        rfl
/-- the class's isName -/
theorem cname_ok {nn : Nat} (hn : 20 ≤ nn) {c : Nat} {a b : Int} {h : ms_M} (hc : c < cn_M h) (ht : ly_T c = 1) (ra : -1 ≤ a ∧ a ≤ 1000000) (rb : -1 ≤ b ∧ b ≤ 1000000) : qf_X9_isName nn c a b h = some (bi_N (decide (0 ≤ a ∧ a < b ∧ b ≤ ln_I h c) && nm_N (fun i => h c (a.toNat + i)) (b - a).toNat)) := by
  obtain ⟨k, rfl⟩ : ∃ k, nn = k + 1 := ⟨nn - 1, by omega⟩
  unfold qf_X9_isName qj_X9_isName_27 ln_S
  simp only [cn_zero, xl_eq]
  have no : ¬ (0 ≤ a ∧ a < b ∧ b ≤ ln_I h c) → some (0 : Int) = some (bi_N (decide (0 ≤ a ∧ a < b ∧ b ≤ ln_I h c) && nm_N (fun i => h c (a.toNat + i)) (b - a).toNat)) := fun q => by
    rw [decide_eq_false q]; rfl
  by_cases q0 : a < 0
  · rw [if_pos q0]; exact no (by omega)
  by_cases q1 : b ≤ a
  · rw [if_neg q0, if_pos q1]; exact no (by omega)
  rw [if_neg q0, if_neg q1, if_pos ⟨hc, by omega⟩]
  by_cases q2 : ln_I h c < b
  · rw [if_pos q2]; exact no (by omega)
  rw [if_neg q2, oq_sub_eq (by omega) (by omega) (by omega), decide_eq_true (show 0 ≤ a ∧ a < b ∧ b ≤ ln_I h c by omega)]
  by_cases q3 : 12 < b - a
  · rw [if_pos q3]
    have : nm_N (fun i => h c (a.toNat + i)) (b - a).toNat = false := by
      unfold nm_N; rw [decide_eq_false (show ¬ (b - a).toNat ≤ 12 by omega)]; simp
    rw [this]; rfl
  rw [if_neg q3, cn_loop hc ht (by omega) (by omega) (by omega) (k + 1) (b - a).toNat 0 a (by omega) (by omega) (by omega)]
  unfold nm_N
  rw [decide_eq_true (show 1 ≤ (b - a).toNat by omega), decide_eq_true (show (b - a).toNat ≤ 12 by omega)]
  rfl
/-- the reference's isName -/
theorem isLetter_ok {nn : Nat} {x : Int} {h : ms_M} : qf_X13_isLetter nn x h = some (bi_N (lt_N x)) := by
  unfold qf_X13_isLetter qj_X13_isLetter_12
  by_cases L : (97 ≤ x ∧ x ≤ 122) ∨ (65 ≤ x ∧ x ≤ 90)
  · have hp : lt_N x = true := by
      unfold lt_N
      rcases L with ⟨a, b⟩ | ⟨a, b⟩ <;> simp [a, b]
    rw [hp]
    rcases L with L | L
    · simp (disch := omega) only [if_pos, if_neg]; rfl
    · simp (disch := omega) only [if_pos, if_neg]; rfl
  · have hl : lt_N x = false := by
      unfold lt_N
      simp only [Bool.or_eq_false_iff, Bool.and_eq_false_iff, decide_eq_false_iff_not]
      omega
    rw [hl]
    by_cases w : x < 97
    · by_cases w2 : x < 65
      · simp (disch := omega) only [if_pos, if_neg]; rfl
      · simp (disch := omega) only [if_pos, if_neg]; rfl
    · simp (disch := omega) only [if_pos, if_neg]; rfl
theorem isDigit_ok {nn : Nat} {x : Int} {h : ms_M} : qf_X13_isDigit nn x h = some (bi_N (decide (48 ≤ x) && decide (x ≤ 57))) := by
  unfold qf_X13_isDigit
  by_cases a : x < 48
  · rw [if_pos a, decide_eq_false (show ¬ 48 ≤ x by omega)]; rfl
  · rw [if_neg a, decide_eq_true (show 48 ≤ x by omega)]
    by_cases b : 57 < x
    · rw [if_pos b, decide_eq_false (show ¬ x ≤ 57 by omega)]; rfl
    · rw [if_neg b, decide_eq_true (show x ≤ 57 by omega)]; rfl
theorem namePart_ok {nn : Nat} {x : Int} {i : Nat} {h : ms_M} : qf_X13_isNamePart nn x (if i = 0 then 1 else 0) h = some (bi_N (np_N i x)) := by
  unfold qf_X13_isNamePart np_N
  rw [isLetter_ok, mx_svs, isDigit_ok, mx_svs]
  cases lt_N x with
  | true => rfl
  | false =>
    by_cases hi : i = 0
    · subst hi; rfl
    · rw [if_neg hi, decide_eq_true (show 0 < i by omega)]
      cases (decide (48 ≤ x) && decide (x ≤ 57)) with
      | true => rfl
      | false =>
        by_cases w : x = 95
        · rw [decide_eq_true w]; simp [bi_N, w]
        · rw [decide_eq_false w]; simp [bi_N, w]
theorem mn_zero {nn k : Nat} {l0 : Nat} {l1 l2 l4 : Int} {h : ms_M} : qw_X13_isName_20 nn (k + 1) l0 l1 l2 0 l4 h = some 0 := by
  unfold qw_X13_isName_20 ck_B
  by_cases q : l2 ≤ l4
  · simp (disch := omega) only [if_pos, if_neg, not_true_eq_false, not_false_eq_true, ↓reduceIte, true_or, or_true]
  · simp (disch := omega) only [if_pos, if_neg, not_true_eq_false, not_false_eq_true, ↓reduceIte, true_or, or_true]
theorem mn_loop {nn : Nat} {l0 : Nat} {l1 l2 : Int} {h : ms_M} (hc : l0 < cn_M h) (ht : ly_T l0 = 0) (r1 : 0 ≤ l1 ∧ l1 ≤ 1000000) (hl : l1 + l2 ≤ ln_I h l0) (h12 : l2 ≤ 12) : ∀ (k n i : Nat) (l4 : Int), l4 = (i : Int) → l2 = l4 + (n : Int) → n + 1 < k → qw_X13_isName_20 nn k l0 l1 l2 1 l4 h = some (bi_N (al_N (fun j => np_N j (h l0 (l1.toNat + j))) i n)) := by
  intro k
  induction k with
  | zero => intro n i l4 _ _ h5; omega
  | succ k ih =>
    intro n i l4 h4 h5 h6
    cases n with
    | zero =>
      unfold qw_X13_isName_20 ck_B
      simp (disch := omega) only [if_pos, or_true, ↓reduceIte]
      rfl
    | succ n =>
      have e : (l1 + l4).toNat = l1.toNat + i := by omega
      have z : qw_X13_isName_20 nn (k + 1) l0 l1 l2 1 l4 h = qw_X13_isName_20 nn k l0 l1 l2 (bi_N (np_N i (h l0 (l1.toNat + i)))) (l4 + 1) h := by
        conv => lhs; unfold qw_X13_isName_20
        unfold rd_S qj_X13_isName_46
        simp only [xl_eq]
        rw [if_neg (by omega), if_neg (by omega), oq_add_eq (by omega) (by omega) (by omega), if_pos ⟨⟨hc, ht⟩, by omega, by omega⟩, e]
        have np := namePart_ok (nn := nn) (x := h l0 (l1.toNat + i)) (i := i) (h := h)
        by_cases hi : i = 0
        · rw [if_pos hi] at np
          rw [if_neg (by omega), np, mx_svs, oq_add_eq (by omega) (by omega) (by omega)]
        · rw [if_neg hi] at np
          rw [if_pos (by omega), np, mx_svs, oq_add_eq (by omega) (by omega) (by omega)]
      rw [z]
      unfold al_N
      cases hp : np_N i (h l0 (l1.toNat + i)) with
      | false =>
        obtain ⟨k2, rfl⟩ : ∃ k2, k = k2 + 1 := ⟨k - 1, by omega⟩
        show qw_X13_isName_20 nn (k2 + 1) l0 l1 l2 0 (l4 + 1) h = _
        rw [mn_zero]; rfl
      | true =>
        show qw_X13_isName_20 nn k l0 l1 l2 1 (l4 + 1) h = _
        rw [ih n (i + 1) (l4 + 1) (by omega) (by omega) (by omega)]
        rfl
theorem mname_ok {nn : Nat} (hn : 20 ≤ nn) {c : Nat} {a b : Int} {h : ms_M} (hc : c < cn_M h) (ht : ly_T c = 0) (ra : 0 ≤ a ∧ a ≤ 1000000) (hb : 1 ≤ b → b ≤ 12 → a + b ≤ ln_I h c) : qf_X13_isName nn c a b h = some (bi_N (nm_N (fun i => h c (a.toNat + i)) b.toNat)) := by
  obtain ⟨k, rfl⟩ : ∃ k, nn = k + 1 := ⟨nn - 1, by omega⟩
  unfold qf_X13_isName qj_X13_isName_15
  simp only [mn_zero]
  by_cases q0 : b < 1
  · rw [if_pos q0]
    have : nm_N (fun i => h c (a.toNat + i)) b.toNat = false := by
      unfold nm_N; rw [decide_eq_false (show ¬ 1 ≤ b.toNat by omega)]; simp
    rw [this]; rfl
  by_cases q1 : 12 < b
  · rw [if_neg q0, if_pos q1]
    have : nm_N (fun i => h c (a.toNat + i)) b.toNat = false := by
      unfold nm_N; rw [decide_eq_false (show ¬ b.toNat ≤ 12 by omega)]; simp
    rw [this]; rfl
  rw [if_neg q0, if_neg q1, mn_loop hc ht ra (hb (by omega) (by omega)) (by omega) (k + 1) b.toNat 0 0 (by omega) (by omega) (by omega)]
  unfold nm_N
  rw [decide_eq_true (show 1 ≤ b.toNat by omega), decide_eq_true (show b.toNat ≤ 12 by omega)]
  rfl
