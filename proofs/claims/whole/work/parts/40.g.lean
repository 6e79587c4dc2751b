/- THE REFERENCE SCANS AN IMAGE: steps -/
section
variable {nn : Nat} {M M1 M2 g : ms_M} {c : Int} {B : Nat → Int} {n : Nat} {st s : Nat ⊕ Nat} {α : Type} {Q : α → Prop}
/-- what the constants are, once they are read -/
def KVs (B : Nat → Int) (n : Nat) (k : Int) : Prop := pl_S B n k < n ∧ (B (pl_S B n k) = 1 → pl_S B n k + 2 + tl_S B n k ≤ n ∧ 1 ≤ tl_S B n k ∧ tl_S B n k ≤ 120 ∧ B (pl_S B n k + 1) = (tl_S B n k : Int)) ∧ (B (pl_S B n k) = 3 → pl_S B n k + 2 ≤ n) ∧ (B (pl_S B n k) = 4 ∨ B (pl_S B n k) = 2 → pl_S B n k + 4 ≤ n ∧ (B (pl_S B n k) = 2 → pl_S B n k + 5 ≤ n))
theorem ct_v {p q : Nat} (hB : ∀ i, i < n → 0 ≤ B i ∧ B i ≤ 255) (e : ct_S B n p = .inr q) : p < n ∧ (B p = 1 → p + 2 + (B (p + 1)).toNat ≤ n ∧ 1 ≤ (B (p + 1)).toNat ∧ (B (p + 1)).toNat ≤ 120 ∧ B (p + 1) = ((B (p + 1)).toNat : Int)) ∧ (B p = 3 → p + 2 ≤ n) ∧ (B p = 4 ∨ B p = 2 → p + 4 ≤ n ∧ (B p = 2 → p + 5 ≤ n)) ∧ q ≤ n := by
  unfold ct_S at e
  by_cases w : p < n
  · rw [if_pos w] at e
    unfold ct_N at e
    by_cases b1 : B p = 1
    · rw [if_pos b1] at e
      by_cases w1 : p + 1 < n
      · rw [if_pos w1] at e
        dsimp only at e
        have hp := hB (p + 1) w1
        by_cases x : B (p + 1) < 1 ∨ 120 < B (p + 1)
        · rw [if_pos x] at e; cases e
        · rw [if_neg x] at e
          cases z : tb_N B n (p + 2) (B (p + 1)).toNat with
          | some f => rw [z] at e; cases e
          | none =>
            rw [z] at e
            have := tb_le _ _ (by omega) z
            cases e
            refine ⟨w, fun _ => ⟨this, by omega, by omega, by omega⟩, fun y => by omega, fun y => by omega, by omega⟩
      · rw [if_neg w1] at e; cases e
    · rw [if_neg b1] at e
      by_cases b2 : B p = 2
      · rw [if_pos b2] at e
        dsimp only at e
        by_cases x : p + 4 < n
        · rw [if_pos x] at e; cases e
          exact ⟨w, fun y => absurd y b1, fun y => by omega, fun y => by omega, by omega⟩
        · rw [if_neg x] at e; cases e
      · rw [if_neg b2] at e
        by_cases b3 : B p = 3
        · rw [if_pos b3] at e
          dsimp only at e
          by_cases x : p + 1 < n
          · rw [if_pos x] at e; cases e
            exact ⟨w, fun y => absurd y b1, fun y => by omega, fun y => by omega, by omega⟩
          · rw [if_neg x] at e; cases e
        · rw [if_neg b3] at e
          by_cases b4 : B p = 4
          · rw [if_pos b4] at e
            dsimp only at e
            by_cases x : p + 3 < n
            · rw [if_pos x] at e; cases e
              exact ⟨w, fun y => absurd y b1, fun y => by omega, fun y => by omega, by omega⟩
            · rw [if_neg x] at e; cases e
          · rw [if_neg b4] at e; cases e
  · rw [if_neg w] at e; cases e
/-- the reference's side: what is read, into which class -/
def ERs (c : Int) (n : Nat) (B : Nat → Int) (M : ms_M) : Prop := M 160 115 = c ∧ (0 ≤ c ∧ c ≤ 7) ∧ M 160 113 = (n : Int) ∧ n ≤ 6000 ∧ (∀ i, M 238 i = B i) ∧ 238 < cn_M M ∧ ∀ i, i < n → 0 ≤ B i ∧ B i ≤ 255
/-- its FORM -/
def RSs (s : Nat ⊕ Nat) (M : ms_M) : Prop := match s with
  | .inl e => M 160 114 = (e : Int)
  | .inr _ => M 160 114 = -1
/-- only FORM has changed -/
def FQp (M M2 : ms_M) : Prop := ∀ c k, ¬ (c = 160 ∧ k = 114) → M2 c k = M c k
theorem fq_r : FQp M M := fun _ _ _ => rfl
theorem fq_t (A : FQp M M1) (C : FQp M1 M2) : FQp M M2 := fun c k q => (C c k q).trans (A c k q)
theorem fq_u {v : Int} : FQp M (up_M M 160 114 v) := fun c k q => up_n (by omega)
theorem er_k (e5 : M2 160 115 = M 160 115) (e3 : M2 160 113 = M 160 113) (e8 : ∀ i, M2 238 i = M 238 i) (e0 : M2 900000 0 = M 900000 0) (E : ERs c n B M) : ERs c n B M2 := by
  obtain ⟨x1, x2, x3, x4, x5, x6, x7⟩ := E
  exact ⟨e5.trans x1, x2, e3.trans x3, x4, fun i => (e8 i).trans (x5 i), by unfold cn_M at *; rw [e0]; exact x6, x7⟩
theorem er_fq (F : FQp M M2) (E : ERs c n B M) : ERs c n B M2 := er_k (F _ _ (by omega)) (F _ _ (by omega)) (fun i => F _ _ (by omega)) (F _ _ (by omega)) E
theorem er_sr (E : ERs c n B M) : sr_M M B n := ⟨E.2.2.2.1, E.2.2.1, fun i _ => E.2.2.2.2.1 i⟩
theorem er_238 (E : ERs c n B M) : M 238 = B := funext E.2.2.2.2.1
theorem r_isB (E : ERs c n B M) {x : Nat} : (¬ M 160 114 = -1 ∧ qf_X13_isByte nn (x : Int) M = some (0, M)) ∨ (M 160 114 = -1 ∧ x < n ∧ qf_X13_isByte nn (x : Int) M = some (1, M)) ∨ (M 160 114 = -1 ∧ ¬ x < n ∧ qf_X13_isByte nn (x : Int) M = some (0, up_M M 160 114 (n : Int))) := by
  have e := isByte_ok (nn := nn) (er_sr E) (p := (x : Int)) (by omega)
  by_cases a : M 160 114 = -1
  · by_cases w : x < n
    · rw [if_pos ⟨a, by omega⟩] at e; exact .inr (.inl ⟨a, w, e⟩)
    · rw [if_neg (by omega), if_pos a] at e; exact .inr (.inr ⟨a, w, e⟩)
  · rw [if_neg (fun z => a z.1), if_neg a] at e; exact .inl ⟨a, e⟩
theorem rs_l {e : Nat} (R : RSs (.inl e) M) : ¬ M 160 114 = -1 := by
  have R : M 160 114 = (e : Int) := R
  omega
/-- a byte at p, tested -/
theorem r_by {p : Nat} {t : Int → Bool} {K : ms_M → Option α} {G : Int → ms_M → Option α} (E : ERs c n B M) (R : RSs s M) (hs : ∀ q, s = .inr q → q = p) (hK : ∀ g, FQp M g → RSs (bd_S s (by_S B n t)) g → (∀ q, s = .inr q → ¬ p < n) → Pc (K g) Q) (hT : s = .inr p → p < n → Pc (G (B p) M) Q) : Pc (mx_sv (qf_X13_isByte nn (p : Int) M) fun u => if u.1 = 0 then K u.2 else (rd_A 6000 238 (p : Int) u.2 fun v => G v u.2)) Q := by
  rcases r_isB (nn := nn) E (x := p) with ⟨a, e⟩ | ⟨a, w, e⟩ | ⟨a, w, e⟩
  · rw [e, mx_svs]
    refine pc_if (fun _ => hK M fq_r ?_ ?_) (fun z => absurd rfl z)
    · cases s with
      | inl x => exact R
      | inr q => exact absurd R a
    · intro q z; rw [z] at R; exact absurd R a
  · rw [e, mx_svs]
    refine pc_if (fun z => absurd (show (1 : Int) = 0 from z) (by decide)) (fun _ => ?_)
    refine pc_rA ?_; intro i1 i2 v ev
    rw [ev]
    have sp : s = .inr p := by
      cases s with
      | inl x => exact absurd a (rs_l R)
      | inr q => rw [hs q rfl]
    show Pc (G (M 238 ((p : Nat) : Int).toNat) M) Q
    rw [Int.toNat_natCast, E.2.2.2.2.1]
    exact hT sp w
  · rw [e, mx_svs]
    refine pc_if (fun _ => hK _ fq_u ?_ (fun _ _ => w)) (fun z => absurd rfl z)
    cases s with
    | inl x => exact absurd a (rs_l R)
    | inr q =>
      have eq := hs q rfl
      rw [bd_r]; unfold by_S; rw [eq, if_neg w]
      show up_M M 160 114 (n : Int) 160 114 = (n : Int)
      exact up_s
/-- the same, the other way about -/
theorem r_by2 {p : Nat} {t : Int → Bool} {K : ms_M → Option α} {G : Int × ms_M → Option α} (E : ERs c n B M) (R : RSs s M) (hs : ∀ q, s = .inr q → q = p) (hK : ∀ g, FQp M g → RSs (bd_S s (by_S B n t)) g → (∀ q, s = .inr q → ¬ p < n) → Pc (K g) Q) (hT : s = .inr p → p < n → Pc (G (1, M)) Q) : Pc (mx_sv (qf_X13_isByte nn (p : Int) M) fun u => if ¬ u.1 = 0 then G u else K u.2) Q := by
  rcases r_isB (nn := nn) E (x := p) with ⟨a, e⟩ | ⟨a, w, e⟩ | ⟨a, w, e⟩
  · rw [e, mx_svs]
    refine pc_if (fun z => absurd rfl z) (fun _ => hK M fq_r ?_ ?_)
    · cases s with
      | inl x => exact R
      | inr q => exact absurd R a
    · intro q z; rw [z] at R; exact absurd R a
  · rw [e, mx_svs]
    refine pc_if (fun _ => ?_) (fun z => absurd (show (1 : Int) = 0 from Decidable.not_not.1 z) (by decide))
    have sp : s = .inr p := by
      cases s with
      | inl x => exact absurd a (rs_l R)
      | inr q => rw [hs q rfl]
    exact hT sp w
  · rw [e, mx_svs]
    refine pc_if (fun z => absurd rfl z) (fun _ => hK _ fq_u ?_ (fun _ _ => w))
    cases s with
    | inl x => exact absurd a (rs_l R)
    | inr q =>
      have eq := hs q rfl
      rw [bd_r]; unfold by_S; rw [eq, if_neg w]
      show up_M M 160 114 (n : Int) 160 114 = (n : Int)
      exact up_s
theorem rs_ok {p : Nat} {t : Int → Bool} (R : RSs (.inr p) M) (w : p < n) (h : t (B p) = true) : RSs (bd_S (.inr p) (by_S B n t)) M := by
  rw [bd_r]; unfold by_S; rw [if_pos w, if_pos h]; exact R
/-- the test has failed: FORM -/
theorem r_unfit {p : Nat} {t : Int → Bool} {K : ms_M → Option α} (R : RSs (.inr p) M) (w : p < n) (h : ¬ t (B p) = true) (hK : ∀ g, FQp M g → RSs (bd_S (.inr p) (by_S B n t)) g → Pc (K g) Q) : Pc (mx_sv (qf_X13_unfit nn (p : Int) M) fun u => K u) Q := by
  have R : M 160 114 = -1 := R
  rw [unfit_ok, if_pos R, mx_svs]
  refine hK _ fq_u ?_
  rw [bd_r]; unfold by_S; rw [if_pos w, if_neg h]
  exact up_s
/-- FORM at x, if there is none -/
theorem r_unx {x : Nat} {K : ms_M → Option α} (R : RSs s M) (hK : ∀ g, FQp M g → RSs (bd_S s (fun _ => .inl x)) g → Pc (K g) Q) : Pc (mx_sv (qf_X13_unfit nn (x : Int) M) fun u => K u) Q := by
  rw [unfit_ok, mx_svs]
  cases s with
  | inl e => rw [if_neg (rs_l R)]; exact hK M fq_r R
  | inr q =>
    have R : M 160 114 = -1 := R
    rw [if_pos R]; exact hK _ fq_u up_s
/-- the tables of constants are there -/
def TTr (c : Int) (n : Nat) (B : Nat → Int) (M : ms_M) : Prop := ERs c n B M ∧ M 229 c.toNat = B 2 ∧ (0 ≤ B 2 ∧ B 2 ≤ 255) ∧ (∀ k : Int, 1 ≤ k → k ≤ B 2 → M 228 (256 * c + k).toNat = (pl_S B n k : Int)) ∧ ∀ k : Int, 1 ≤ k → k ≤ B 2 → KVs B n k
theorem ttr_k (F : FQp M M2) (T : TTr c n B M) : TTr c n B M2 := by
  obtain ⟨t1, t2, t3, t4, t5⟩ := T
  exact ⟨er_fq F t1, by rw [F _ _ (by omega)]; exact t2, t3, fun k a b => by rw [F _ _ (by omega)]; exact t4 k a b, t5⟩
theorem r_of (T : TTr c n B M) {k : Int} : qf_X13_constantOf nn c k M = some (if 1 ≤ k ∧ k ≤ B 2 then (pl_S B n k : Int) else -1) := by
  obtain ⟨⟨x1, x2, x3⟩, t2, t3, t4, t5⟩ := T
  by_cases q : 1 ≤ k ∧ k ≤ B 2
  · rw [if_pos q]
    have := constantOf_in (nn := nn) (M := M) (k := k) (p := pl_S B n k) ⟨by omega, by rw [x1, t2]; omega, by rw [x1]; exact t4 k q.1 q.2⟩
    rw [x1] at this; exact this
  · rw [if_neg q]
    have := constantOf_out (nn := nn) (M := M) (k := k) (by omega) (by rw [x1, t2]; exact q)
    rw [x1] at this; exact this
theorem r_tx (T : TTr c n B M) {k : Int} (q : tg_S B n k = 1) : tx_M M k (pl_S B n k + 2) (pl_S B n k + 2 + tl_S B n k) := by
  obtain ⟨⟨x1, x2, x3, x4, x5, x6, x7⟩, t2, t3, t4, t5⟩ := T
  obtain ⟨w1, w2, w3⟩ := tg_in (B := B) (n := n) (k := k) (by omega)
  obtain ⟨v1, v2, -⟩ := t5 k w1 w2
  have v2 := v2 (by omega)
  refine ⟨pl_S B n k, ⟨by omega, by rw [x1, t2]; omega, by rw [x1]; exact t4 k w1 w2⟩, rfl, by omega, by omega, by rw [x5]; omega, ?_⟩
  rw [x5, v2.2.2.2]; omega
theorem r_notx (T : TTr c n B M) {k a : Int} (q : ¬ tg_S B n k = 1) : qf_X13_isText nn k a M = some 0 := by
  have e := r_of (nn := nn) T (k := k)
  obtain ⟨⟨x1, x2, x3, x4, x5, x6, x7⟩, t2, t3, t4, t5⟩ := T
  unfold qf_X13_isText
  rw [x1, e, mx_svs]
  unfold tg_S at q
  by_cases w : 1 ≤ k ∧ k ≤ B 2
  · rw [if_pos w] at q ⊢
    have v := (t5 k w.1 w.2).1
    rw [if_neg (by omega)]
    unfold rd_A
    rw [if_pos (by omega), Int.toNat_natCast, x5]
    dsimp only
    rw [if_neg q]
  · rw [if_neg w, if_pos (by omega)]
theorem r_isText0 (hn : 1000000 ≤ nn) (T : TTr c n B M) {k : Int} : qf_X13_isText nn k 0 M = some (bi_N (nm_S B n k)) := by
  unfold nm_S
  by_cases q : tg_S B n k = 1
  · rw [isText_in (by omega) T.1.2.2.2.2.2.1 (r_tx T q) (by omega), if_pos rfl, er_238 T.1, decide_eq_true q, Bool.true_and]
    congr 3; omega
  · rw [r_notx T q, decide_eq_false q, Bool.false_and]; rfl
theorem r_isText1 (hn : 1000000 ≤ nn) (T : TTr c n B M) {k : Int} : qf_X13_isText nn k 1 M = some (bi_N (fk_S B n k)) := by
  unfold fk_S
  by_cases q : tg_S B n k = 1
  · rw [isText_in (by omega) T.1.2.2.2.2.2.1 (r_tx T q) (by omega), if_neg (by decide), if_pos rfl, er_238 T.1, decide_eq_true q, Bool.true_and]
  · rw [r_notx T q, decide_eq_false q, Bool.false_and]; rfl
theorem r_isText2 (hn : 1000000 ≤ nn) (T : TTr c n B M) {k : Int} : qf_X13_isText nn k 2 M = some (bi_N (pi_S B n k).isSome) := by
  unfold pi_S
  by_cases q : tg_S B n k = 1
  · rw [isText_in (by omega) T.1.2.2.2.2.2.1 (r_tx T q) (by omega), if_neg (by decide), if_neg (by decide), if_pos rfl, er_238 T.1, if_pos q]
  · rw [r_notx T q, if_neg q]; rfl
theorem r_isText3 (hn : 1000000 ≤ nn) (T : TTr c n B M) {k : Int} : qf_X13_isText nn k 3 M = some (bi_N (fk_S B n k || (pi_S B n k).isSome)) := by
  unfold fk_S pi_S
  by_cases q : tg_S B n k = 1
  · rw [isText_in (by omega) T.1.2.2.2.2.2.1 (r_tx T q) (by omega), if_neg (by decide), if_neg (by decide), if_neg (by decide), if_pos rfl, er_238 T.1, if_pos q, decide_eq_true q, Bool.true_and]
  · rw [r_notx T q, if_neg q, decide_eq_false q, Bool.false_and]; rfl
theorem nm_91 {f : Nat → Int} {m : Nat} (h : nm_N f m = true) : ¬ f 0 = 91 := by
  intro z
  unfold nm_N at h
  rw [Bool.and_eq_true, Bool.and_eq_true, decide_eq_true_iff] at h
  obtain ⟨⟨h1, -⟩, h2⟩ := h
  obtain ⟨j, rfl⟩ : ∃ j, m = j + 1 := ⟨m - 1, by omega⟩
  unfold al_N np_N lt_N at h2
  rw [z] at h2
  exact absurd (Bool.and_eq_true_iff.mp h2).1 (by decide)
theorem r_isText4 (hn : 1000000 ≤ nn) (T : TTr c n B M) {k : Int} : qf_X13_isText nn k 4 M = some (bi_N (nm_S B n k || (ar_S B n k && fk_S B n k))) := by
  by_cases q : tg_S B n k = 1
  · rw [isText_in (by omega) T.1.2.2.2.2.2.1 (r_tx T q) (by omega), if_neg (by decide), if_neg (by decide), if_neg (by decide), if_neg (by decide), er_238 T.1]
    have el : pl_S B n k + 2 + tl_S B n k - (pl_S B n k + 2) = tl_S B n k := by omega
    rw [el]
    unfold nm_S ar_S fk_S
    rw [decide_eq_true q, Bool.true_and, Bool.true_and, Bool.true_and]
    by_cases w : B (pl_S B n k + 2) = 91
    · rw [if_pos w, decide_eq_true w, Bool.true_and]
      have : nm_N (fun i => B (pl_S B n k + 2 + i)) (tl_S B n k) = false := by
        cases z : nm_N (fun i => B (pl_S B n k + 2 + i)) (tl_S B n k) with
        | false => rfl
        | true => exact absurd w (nm_91 z)
      rw [this, Bool.false_or]
    · rw [if_neg w, decide_eq_false w, Bool.false_and, Bool.or_false]
  · unfold nm_S ar_S
    rw [r_notx T q, decide_eq_false q, Bool.false_and, Bool.false_and, Bool.false_and]; rfl
theorem r_class1 (T : TTr c n B M) {k : Int} : Pc (qf_X13_isClassConstant nn k 1 M) (fun u => u = bi_N (cl_S B n k)) := by
  have e := r_of (nn := nn) T (k := k)
  obtain ⟨⟨x1, x2, x3, x4, x5, x6, x7⟩, t2, t3, t4, t5⟩ := T
  unfold qf_X13_isClassConstant cl_S
  rw [x1, e, mx_svs]
  unfold tg_S
  by_cases w : 1 ≤ k ∧ k ≤ B 2
  · rw [if_pos w, if_pos w]
    refine pc_if (fun z => absurd z (by omega)) (fun _ => ?_)
    refine pc_rA ?_; intro i1 i2 v5 e5
    rw [Int.toNat_natCast, x5] at e5
    refine pc_if (fun z => ?_) (fun z => pc_ret ?_)
    · refine pc_xl ?_; intro v8 e8
      refine pc_rA ?_; intro j1 j2 v9 e9
      refine pc_se ?_; intro u11 e11
      refine pc_if (fun _ => pc_ret ?_) (fun y => absurd (by decide) y)
      rw [decide_eq_true (by omega)]; rfl
    · rw [decide_eq_false (by omega)]; rfl
  · rw [if_neg w, if_neg w]
    refine pc_if (fun _ => pc_ret rfl) (fun z => absurd (by decide) z)
theorem r_class0 (T : TTr c n B M) {k : Int} (hc : tg_S B n k = 3 → tg_S B n (pt_S B n k 0) = 1) : Pc (qf_X13_isClassConstant nn k 0 M) (fun u => u = bi_N (pc_S B n k)) := by
  have e := fun k => r_of (nn := nn) T (k := k)
  obtain ⟨⟨x1, x2, x3, x4, x5, x6, x7⟩, t2, t3, t4, t5⟩ := T
  unfold qf_X13_isClassConstant pc_S cl_S
  rw [x1, e k, mx_svs]
  by_cases w : 1 ≤ k ∧ k ≤ B 2
  · have tk : tg_S B n k = B (pl_S B n k) := by unfold tg_S; rw [if_pos w]
    rw [if_pos w]
    refine pc_if (fun z => absurd z (by omega)) (fun _ => ?_)
    refine pc_rA ?_; intro i1 i2 v5 e5
    rw [Int.toNat_natCast, x5] at e5
    have lt := (t5 k w.1 w.2).1
    refine pc_if (fun z => ?_) (fun z => pc_ret ?_)
    · have t3 : tg_S B n k = 3 := by omega
      have h1 := hc t3
      refine pc_add (by omega) ?_; intro v8 e8
      refine pc_rA ?_; intro j1 j2 v9 e9
      have v9p : v9 = pt_S B n k 0 := by
        rw [e9, x5]; unfold pt_S; congr 1; omega
      rw [v9p, e, mx_svs]
      obtain ⟨w1, w2, w3⟩ := tg_in (B := B) (n := n) (k := pt_S B n k 0) (by omega)
      refine pc_if (fun y => absurd y (by decide)) (fun _ => ?_)
      rw [if_pos (show 1 ≤ pt_S B n k 0 ∧ pt_S B n k 0 ≤ B 2 from ⟨w1, w2⟩)]
      refine pc_if (fun y => absurd y (by omega)) (fun _ => ?_)
      refine pc_rA ?_; intro k1 k2 v13 e13
      rw [Int.toNat_natCast, x5] at e13
      refine pc_if (fun y => absurd (by omega) y) (fun _ => ?_)
      have l2 := (t5 _ w1 w2).1
      refine pc_add (by omega) ?_; intro v15 e15
      refine pc_rA ?_; intro l1 l2 v16 e16
      have e16 : v16 = B (pl_S B n (pt_S B n k 0) + 2) := by
        rw [e16, x5]; congr 1; omega
      unfold ar_S
      rw [decide_eq_true t3, decide_eq_true h1, Bool.true_and, Bool.true_and]
      refine pc_if (fun y => pc_ret ?_) (fun y => pc_ret ?_)
      · rw [decide_eq_true (by omega)]; rfl
      · rw [decide_eq_false (by omega)]; rfl
    · rw [decide_eq_false (by omega), Bool.false_and]; rfl
  · have tk : tg_S B n k = 0 := by unfold tg_S; rw [if_neg w]
    rw [if_neg w]
    refine pc_if (fun _ => pc_ret ?_) (fun z => absurd (by decide) z)
    rw [decide_eq_false (by omega), Bool.false_and]; rfl
end
