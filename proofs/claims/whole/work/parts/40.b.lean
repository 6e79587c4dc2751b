/- THE CLASS READS AN IMAGE: steps that only go on -/
section
variable {nn : Nat} {M M1 M2 : ms_M} {b : Nat} {B : Nat → Int} {n : Nat} {st : Nat ⊕ Nat}
/-- the state of the class's reading -/
def CRs (b n : Nat) (s : Nat ⊕ Nat) (M : ms_M) : Prop := match s with
  | .inl e => M b 3 = (e : Int)
  | .inr p => M b 3 = -1 ∧ M b 2 = (p : Int) ∧ p ≤ n
/-- only pos and form have changed -/
def FRz (b : Nat) (M M2 : ms_M) : Prop := ∀ c k, ¬ (c = b ∧ (k = 2 ∨ k = 3)) → M2 c k = M c k
theorem frp_r : FRz b M M := fun _ _ _ => rfl
theorem frp_t (A : FRz b M M1) (C : FRz b M1 M2) : FRz b M M2 := fun c k q => (C c k q).trans (A c k q)
theorem frp_2 {v : Int} : FRz b M (up_M M b 2 v) := fun c k q => up_n (by omega)
theorem frp_3 {v : Int} : FRz b M (up_M M b 3 v) := fun c k q => up_n (by omega)
theorem sr_row (h : sr_I M b B n) : (M b 0).toNat ≠ b ∧ ∀ off, 2 ≤ off → off ≤ 6 → (M b 0).toNat ≠ b + off := by
  obtain ⟨h1, h2, h3, h4, h5, h6, h7, h8⟩ := h
  refine ⟨fun z => ?_, fun off a1 a2 z => ?_⟩
  · rw [z, T_img h1] at h6; omega
  · rw [z, T_arr h1 ⟨a1, a2⟩] at h6; omega
/-- the Image's own numbers and rows may have changed -/
def IFp (b : Nat) (M M2 : ms_M) : Prop := ∀ c k, ¬ (c = b ∧ 2 ≤ k) → ¬ (b + 2 ≤ c ∧ c ≤ b + 6) → M2 c k = M c k
theorem ifp_t (A : IFp b M M1) (C : IFp b M1 M2) : IFp b M M2 := fun c k q w => (C c k q w).trans (A c k q w)
theorem ifp_r : IFp b M M := fun _ _ _ _ => rfl
theorem ifp_p (A : FRz b M M1) : IFp b M M1 := fun c k q _ => A c k (fun z => q ⟨z.1, by omega⟩)
theorem ifp_u {c k : Nat} {v : Int} (q : (c = b ∧ 2 ≤ k) ∨ (b + 2 ≤ c ∧ c ≤ b + 6)) : IFp b M (up_M M c k v) := fun c2 k2 w1 w2 => up_n (by omega)
theorem sr_if (h : sr_I M b B n) (A : IFp b M M2) : sr_I M2 b B n := by
  have w := sr_row h
  obtain ⟨h1, h2, h3, h4, h5, h6, h7, h8⟩ := h
  have ib := im_at h1
  have e0 : M2 b 0 = M b 0 := A b 0 (by omega) (by omega)
  have e1 : M2 b 1 = M b 1 := A b 1 (by omega) (by omega)
  have ec : cn_M M2 = cn_M M := by unfold cn_M; rw [A 900000 0 (by omega) (by omega)]
  have el : ln_I M2 (M b 0).toNat = ln_I M (M b 0).toNat := by
    unfold ln_I
    split
    · rfl
    · exact A _ _ (by omega) (by omega)
  have er : ∀ i, M2 (M b 0).toNat i = M (M b 0).toNat i := fun i => A _ _ (fun z => w.1 z.1) (fun z => w.2 ((M b 0).toNat - b) (by omega) (by omega) (by omega))
  refine ⟨h1, h2, by rw [e1]; exact h3, by rw [e0]; exact h4, by rw [e0, ec]; exact h5, by rw [e0]; exact h6, by rw [e0, el]; exact h7, fun i hi => ?_⟩
  rw [e0, er]; exact h8 i hi
theorem sr_fr (h : sr_I M b B n) (A : FRz b M M2) : sr_I M2 b B n := sr_if h (ifp_p A)
theorem c_next (I : sr_I M b B n) (C : CRs b n st M) : Pc (qf_X3_next nn b M) (fun u => FRz b M u.2 ∧ CRs b n (bd_S st (nx_S n)) u.2 ∧ ∀ p, st = .inr p → p < n → u.1 = B p) := by
  cases st with
  | inl e =>
    have C : M b 3 = (e : Int) := C
    unfold qf_X3_next
    refine pc_if (fun _ => ?_) (fun _ => ?_)
    · refine pc_xl ?_; intro v4 e4
      refine pc_xl ?_; intro h5 e5
      refine pc_ck (fun _ => pc_xl (fun v8 _ => pc_rT (fun v9 _ => pc_xl (fun v10 _ => pc_ret ⟨?_, ?_, fun p z => nomatch z⟩))))
      · rw [e5]; exact frp_2
      · show h5 b 3 = (e : Int)
        rw [e5, up_n (by omega)]; exact C
    · refine pc_if (fun _ => pc_xl (fun h13 e13 => pc_ret ⟨?_, ?_, fun p z => nomatch z⟩)) (fun q => absurd (by omega) q)
      · rw [e13]; exact frp_3
      · show h13 b 3 = (e : Int)
        rw [e13, up_s]; exact C
  | inr p =>
    obtain ⟨c1, c2, c3⟩ : M b 3 = -1 ∧ M b 2 = (p : Int) ∧ p ≤ n := C
    by_cases w : p < n
    · rw [next_in I (by omega)]
      refine pc_ret ⟨frp_2, ?_, fun p2 z _ => ?_⟩
      · rw [bd_r]; unfold nx_S; rw [if_pos w]
        refine ⟨?_, ?_, w⟩
        · show up_M M b 2 _ b 3 = -1
          rw [up_n (by omega)]; exact c1
        · show up_M M b 2 _ b 2 = _
          rw [up_s]; omega
      · cases z
        show B (M b 2).toNat = B p
        rw [c2]; rfl
    · rw [next_out I (by omega), if_pos c1]
      refine pc_ret ⟨frp_3, ?_, fun p2 z y => ?_⟩
      · rw [bd_r]; unfold nx_S; rw [if_neg w]
        show up_M M b 3 _ b 3 = (n : Int)
        exact up_s
      · cases z; exact absurd y w
/-- a byte was read, and is tested -/
theorem c_by {t : Int → Bool} {v : Int} (I : sr_I M b B n) (C : CRs b n (bd_S st (nx_S n)) M) (hv : ∀ p, st = .inr p → p < n → v = B p) : (t v = true → CRs b n (bd_S st (by_S B n t)) M) ∧ (¬ t v = true → ∀ x, x = oq_sub (M b 2) 1 → Pc (qf_X3_bad nn b x M) (fun M2 => FRz b M M2 ∧ CRs b n (bd_S st (by_S B n t)) M2)) := by
  cases st with
  | inl e =>
    have C : M b 3 = (e : Int) := C
    refine ⟨fun _ => C, fun _ x _ => ?_⟩
    rw [bad_ok, if_neg (by omega)]
    exact pc_ret ⟨frp_r, C⟩
  | inr p =>
    rw [bd_r] at C ⊢
    unfold nx_S at C
    by_cases w : p < n
    · rw [if_pos w] at C
      obtain ⟨c1, c2, c3⟩ : M b 3 = -1 ∧ M b 2 = ((p + 1 : Nat) : Int) ∧ p + 1 ≤ n := C
      have ev := hv p rfl w
      have n6 := I.2.1
      refine ⟨fun h => ?_, fun h x ex => ?_⟩
      · unfold by_S; rw [if_pos w, ← ev, if_pos h]; exact ⟨c1, c2, c3⟩
      · unfold by_S; rw [if_pos w, ← ev, if_neg h]
        rw [bad_ok, if_pos c1]
        refine pc_ret ⟨frp_3, ?_⟩
        show up_M M b 3 x b 3 = (p : Int)
        rw [up_s, ex, c2, oq_sub_eq (by omega) (by omega) (by omega)]; omega
    · rw [if_neg w] at C
      have C : M b 3 = (n : Int) := C
      unfold by_S; rw [if_neg w]
      refine ⟨fun _ => C, fun _ x _ => ?_⟩
      rw [bad_ok, if_neg (by omega)]
      exact pc_ret ⟨frp_r, C⟩
/-- what a step leaves: the value, if it was read -/
def CVs (b n : Nat) (B : Nat → Int) (st : Nat ⊕ Nat) (t : Int → Bool) (M : ms_M) : Int × ms_M → Prop := fun u => FRz b M u.2 ∧ CRs b n (bd_S st (by_S B n t)) u.2 ∧ ∀ p, st = .inr p → p < n → u.1 = B p
theorem c_upTo {lo hi : Int} (I : sr_I M b B n) (C : CRs b n st M) : Pc (qf_X3_nextUpTo nn b lo hi M) (CVs b n B st (up_T lo hi) M) := by
  unfold qf_X3_nextUpTo
  refine pc_sv (c_next I C) ?_; intro u6 q6
  obtain ⟨f6, C6, v6⟩ := q6
  have T := c_by (nn := nn) (t := up_T lo hi) (sr_fr I f6) C6 v6
  have bad : ¬ up_T lo hi u6.1 = true → Pc (qj_X3_nextUpTo_15 nn b u6.1 u6.2) (CVs b n B st (up_T lo hi) M) := fun z => by
    unfold qj_X3_nextUpTo_15
    refine pc_xl ?_; intro v2 e2
    refine pc_sv (T.2 z v2 e2) ?_; intro u4 q4
    exact pc_ret ⟨frp_t f6 q4.1, q4.2, v6⟩
  refine pc_if (fun c1 => bad ?_) (fun c1 => pc_if (fun c2 => pc_ret ⟨f6, T.1 ?_, v6⟩) (fun c2 => bad ?_))
  · intro z; unfold up_T at z; rw [Bool.and_eq_true, decide_eq_true_iff, decide_eq_true_iff] at z; omega
  · unfold up_T; rw [Bool.and_eq_true, decide_eq_true_iff, decide_eq_true_iff]; omega
  · intro z; unfold up_T at z; rw [Bool.and_eq_true, decide_eq_true_iff, decide_eq_true_iff] at z; omega
theorem c_skip {a : Int} (ha : a = 1 ∨ a = 3) : ∀ (m k : Nat) (i : Int) (st : Nat ⊕ Nat) (M : ms_M), 2 * a = i + m → 0 ≤ i → sr_I M b B n → CRs b n st M → Pc (qw_X3_skipPairs_2 nn k b a i M) (fun r => FRz b M r ∧ CRs b n (bd_S st (sk_S n m)) r) := by
  intro m
  induction m with
  | zero =>
    intro k i st M hm hi I C
    cases k with
    | zero => exact pc_none
    | succ k =>
      unfold qw_X3_skipPairs_2
      refine pc_xl ?_; intro v1 e1
      rw [oq_mul_eq (by omega) (by omega) (by omega)] at e1
      refine pc_if (fun _ => pc_ret ⟨frp_r, ?_⟩) (fun z => absurd (by omega) z)
      cases st with
      | inl e => exact C
      | inr p => rw [bd_r, sk_0 C.2.2]; exact C
  | succ m ih =>
    intro k i st M hm hi I C
    cases k with
    | zero => exact pc_none
    | succ k =>
      unfold qw_X3_skipPairs_2
      refine pc_xl ?_; intro v1 e1
      rw [oq_mul_eq (by omega) (by omega) (by omega)] at e1
      refine pc_if (fun z => absurd z (by omega)) (fun _ => ?_)
      refine pc_sv (c_next I C) ?_; intro u3 q3
      obtain ⟨f3, C3, -⟩ := q3
      refine pc_add (by omega) ?_; intro v4 e4
      refine pc_imp (ih k v4 _ u3.2 (by omega) (by omega) (sr_fr I f3) C3) (fun r q => ⟨frp_t f3 q.1, ?_⟩)
      have e : bd_S (bd_S st (nx_S n)) (sk_S n m) = bd_S st (sk_S n (m + 1)) := by
        cases st with
        | inl e => rfl
        | inr p => rw [bd_r, bd_r, sk_1 C.2.2]
      rw [← e]; exact q.2
theorem c_skipPairs {a : Int} {m : Nat} (ha : a = 1 ∨ a = 3) (hm : 2 * a = (m : Int)) (I : sr_I M b B n) (C : CRs b n st M) : Pc (qf_X3_skipPairs nn b a M) (fun r => FRz b M r ∧ CRs b n (bd_S st (sk_S n m)) r) := by
  unfold qf_X3_skipPairs
  exact c_skip ha m _ _ _ _ (by omega) (by omega) I C
/-- the constants' tables as far as j -/
def TTj (b n : Nat) (B : Nat → Int) (j : Int) (M : ms_M) : Prop := ∀ k : Int, 1 ≤ k → k ≤ j → M (b + 2) k.toNat = B (pl_S B n k) ∧ (B (pl_S B n k) = 1 → M (b + 3) k.toNat = ((pl_S B n k + 2 : Nat) : Int) ∧ M (b + 4) k.toNat = ((pl_S B n k + 2 + tl_S B n k : Nat) : Int) ∧ pl_S B n k + 2 + tl_S B n k ≤ n ∧ 1 ≤ tl_S B n k ∧ tl_S B n k ≤ 120 ∧ B (pl_S B n k + 1) = (tl_S B n k : Int)) ∧ (B (pl_S B n k) = 3 → M (b + 3) k.toNat = ((pl_S B n k + 1 : Nat) : Int) ∧ pl_S B n k + 2 ≤ n) ∧ (B (pl_S B n k) = 4 ∨ B (pl_S B n k) = 2 → M (b + 3) k.toNat = ((pl_S B n k + 1 : Nat) : Int) ∧ pl_S B n k + 4 ≤ n ∧ (B (pl_S B n k) = 2 → pl_S B n k + 5 ≤ n))
/-- all constants are read -/
def TTc (b n : Nat) (B : Nat → Int) (M : ms_M) : Prop := sr_I M b B n ∧ M b 7 = B 2 ∧ (0 ≤ B 2 ∧ B 2 ≤ 255) ∧ TTj b n B (B 2) M
theorem ttj_k {j : Int} (e2 : ∀ k, M2 (b + 2) k = M (b + 2) k) (e3 : ∀ k, M2 (b + 3) k = M (b + 3) k) (e4 : ∀ k, M2 (b + 4) k = M (b + 4) k) (T : TTj b n B j M) : TTj b n B j M2 := fun k h1 h2 => by
  rw [e2, e3, e4]; exact T k h1 h2
theorem ttc_k (A : IFp b M M2) (e7 : M2 b 7 = M b 7) (e2 : ∀ k, M2 (b + 2) k = M (b + 2) k) (e3 : ∀ k, M2 (b + 3) k = M (b + 3) k) (e4 : ∀ k, M2 (b + 4) k = M (b + 4) k) (T : TTc b n B M) : TTc b n B M2 := by
  obtain ⟨t1, t2, t3, t4⟩ := T
  exact ⟨sr_if t1 A, e7.trans t2, t3, ttj_k e2 e3 e4 t4⟩
theorem ttc_fr (A : FRz b M M2) (T : TTc b n B M) : TTc b n B M2 := ttc_k (ifp_p A) (A b 7 (by omega)) (fun k => A _ _ (by omega)) (fun k => A _ _ (by omega)) (fun k => A _ _ (by omega)) T
theorem c_tag (T : TTc b n B M) {k : Int} : qf_X3_tagOf nn b k M = some (tg_S B n k) := by
  obtain ⟨t1, t2, t3, t4⟩ := T
  rw [tagOf_ok (by omega), t2]
  unfold tg_S
  by_cases q : 1 ≤ k ∧ k ≤ B 2
  · rw [if_pos q, if_pos q, (t4 k q.1 q.2).1]
  · rw [if_neg q, if_neg q]
theorem tg_in {k : Int} (q : ¬ tg_S B n k = 0) : 1 ≤ k ∧ k ≤ B 2 ∧ tg_S B n k = B (pl_S B n k) := by
  unfold tg_S at q ⊢
  by_cases w : 1 ≤ k ∧ k ≤ B 2
  · rw [if_pos w]; exact ⟨w.1, w.2, rfl⟩
  · rw [if_neg w] at q; exact absurd rfl q
theorem c_tx (T : TTc b n B M) {k : Int} (q : tg_S B n k = 1) : tx_I M b k (pl_S B n k + 2) (pl_S B n k + 2 + tl_S B n k) ∧ pl_S B n k + 2 < pl_S B n k + 2 + tl_S B n k ∧ pl_S B n k + 2 + tl_S B n k ≤ n := by
  obtain ⟨t1, t2, t3, t4⟩ := T
  obtain ⟨w1, w2, w3⟩ := tg_in (B := B) (n := n) (k := k) (by omega)
  obtain ⟨x1, x2, -⟩ := t4 k w1 w2
  have x2 := x2 (by omega)
  exact ⟨⟨by omega, by omega, x2.1, x2.2.1⟩, by omega, by omega⟩
theorem c_no (T : TTc b n B M) {k : Int} (q : ¬ tg_S B n k = 1) : ¬ (1 ≤ k ∧ k ≤ M b 7 ∧ M (b + 2) k.toNat = 1) := by
  obtain ⟨t1, t2, t3, t4⟩ := T
  intro z
  have y := (t4 k z.1 (by omega)).1
  unfold tg_S at q
  rw [if_pos (by omega)] at q
  omega
theorem c_isName (hn : 1000000 ≤ nn) (T : TTc b n B M) {k : Int} : qf_X3_isNameText nn b k M = some (bi_N (nm_S B n k)) := by
  unfold nm_S
  by_cases q : tg_S B n k = 1
  · obtain ⟨x, y, z⟩ := c_tx T q
    rw [nameText_ok (by omega) T.1 x y z]
    have e : pl_S B n k + 2 + tl_S B n k - (pl_S B n k + 2) = tl_S B n k := by omega
    rw [e, decide_eq_true q, Bool.true_and]
  · rw [(noText (by have := T.2.1; have := T.2.2.1; omega) (c_no T q)).1, decide_eq_false q, Bool.false_and]; rfl
theorem c_isField (hn : 1000000 ≤ nn) (T : TTc b n B M) {k : Int} : qf_X3_isFieldKind nn b k M = some (bi_N (fk_S B n k)) := by
  unfold fk_S
  by_cases q : tg_S B n k = 1
  · obtain ⟨x, y, z⟩ := c_tx T q
    rw [fieldKind_ok (by omega) T.1 x y z, decide_eq_true q, Bool.true_and]
  · rw [(noText (by have := T.2.1; have := T.2.2.1; omega) (c_no T q)).2.1, decide_eq_false q, Bool.false_and]; rfl
theorem c_isArr (T : TTc b n B M) {k : Int} : qf_X3_isArrayText nn b k M = some (bi_N (ar_S B n k)) := by
  unfold ar_S
  by_cases q : tg_S B n k = 1
  · obtain ⟨x, y, z⟩ := c_tx T q
    rw [arrayText_ok T.1 x y z, decide_eq_true q, Bool.true_and]
  · rw [(noText (by have := T.2.1; have := T.2.2.1; omega) (c_no T q)).2.2.1, decide_eq_false q, Bool.false_and]; rfl
theorem c_par (hn : 1000000 ≤ nn) (T : TTc b n B M) {k : Int} : qf_X3_parametersIn nn b k M = some (op_E (pi_S B n k)) := by
  unfold pi_S
  by_cases q : tg_S B n k = 1
  · obtain ⟨x, y, z⟩ := c_tx T q
    rw [if_pos q, params_X (by omega) T.1 (by have := T.2.1; have := T.2.2.1; omega) ⟨x.1.1, x.1.2.1⟩ x.2.1 x.2.2.1 x.2.2.2 y z]
  · rw [if_neg q, (noText (by have := T.2.1; have := T.2.2.1; omega) (c_no T q)).2.2.2]; rfl
/-- a part of a CLASS or a MEMBER -/
theorem c_part (T : TTc b n B M) {k : Int} {i : Nat} (q : (tg_S B n k = 3 ∧ i = 0) ∨ (tg_S B n k = 4 ∧ i ≤ 2)) : qf_X3_partOf nn b k (i : Int) M = some (pt_S B n k i) := by
  obtain ⟨t1, t2, t3, t4⟩ := T
  obtain ⟨w1, w2, w3⟩ := tg_in (B := B) (n := n) (k := k) (by omega)
  obtain ⟨x1, -, x3, x4⟩ := t4 k w1 w2
  have y : M (b + 3) k.toNat = ((pl_S B n k + 1 : Nat) : Int) ∧ pl_S B n k + 1 + i < n := by
    rcases q with ⟨q, w⟩ | ⟨q, w⟩
    · have := x3 (by omega); exact ⟨this.1, by omega⟩
    · have := x4 (by omega); exact ⟨this.1, by omega⟩
  have n6 := t1.2.1
  have i2 : i ≤ 2 := by omega
  unfold qf_X3_partOf rd_A
  rw [if_neg (show ¬ k < 1 by omega), if_neg (show ¬ M b 7 < k by omega), if_neg (show ¬ 256 ≤ k by omega), if_pos (show 0 ≤ k ∧ k < 256 by omega)]
  dsimp only
  rw [xl_eq, y.1, oq_add_eq (by omega) (by omega) (by omega), byteAt_ok t1, mx_svs, if_pos (by omega)]
  unfold pt_S
  congr 2
theorem bi_0 {x : Bool} : bi_N x = 0 ↔ x = false := by cases x <;> decide
theorem bi_t {x : Bool} (q : ¬ bi_N x = 0) : x = true := by cases x; exact absurd rfl q; rfl
theorem bi_f {x : Bool} (q : bi_N x = 0) : ¬ x = true := by cases x; decide; exact absurd q (by decide)
theorem c_name (hn : 1000000 ≤ nn) (T : TTc b n B M) (C : CRs b n st M) : Pc (qf_X3_nextName nn b M) (CVs b n B st (nm_S B n) M) := by
  unfold qf_X3_nextName
  refine pc_sv (c_next T.1 C) ?_; intro u2 q2
  obtain ⟨f2, C2, v2⟩ := q2
  have T2 := ttc_fr f2 T
  have K := c_by (nn := nn) (t := nm_S B n) T2.1 C2 v2
  rw [c_isName hn T2, mx_svs]
  refine pc_if (fun c => pc_ret ⟨f2, K.1 (bi_t c), v2⟩) (fun c => ?_)
  refine pc_xl ?_; intro v6 e6
  refine pc_sv (K.2 (bi_f (Decidable.byContradiction c)) v6 e6) ?_; intro u8 q8
  exact pc_ret ⟨frp_t f2 q8.1, q8.2, v2⟩
theorem c_class (T : TTc b n B M) (C : CRs b n st M) : Pc (qf_X3_nextClass nn b M) (fun r => FRz b M r ∧ CRs b n (bd_S st (by_S B n (cl_S B n))) r) := by
  unfold qf_X3_nextClass
  refine pc_sv (c_next T.1 C) ?_; intro u2 q2
  obtain ⟨f2, C2, v2⟩ := q2
  have T2 := ttc_fr f2 T
  have K := c_by (nn := nn) (t := cl_S B n) T2.1 C2 v2
  rw [c_tag T2, mx_svs]
  refine pc_if (fun c => pc_ret ⟨f2, K.1 (decide_eq_true c)⟩) (fun c => ?_)
  refine pc_xl ?_; intro v6 e6
  refine pc_sv (K.2 (fun z => c (of_decide_eq_true z)) v6 e6) ?_; intro u8 q8
  exact pc_ret ⟨frp_t f2 q8.1, q8.2⟩
theorem c_plain (T : TTc b n B M) (C : CRs b n st M) : Pc (qf_X3_nextPlainClass nn b M) (fun u => FRz b M u.2 ∧ CRs b n (bd_S st (by_S B n (pc_S B n))) u.2 ∧ ∀ p q, st = .inr p → by_S B n (pc_S B n) p = .inr q → u.1 = pt_S B n (B p) 0) := by
  unfold qf_X3_nextPlainClass
  refine pc_sv (c_next T.1 C) ?_; intro u6 q6
  obtain ⟨f6, C6, v6⟩ := q6
  have T6 := ttc_fr f6 T
  have K := c_by (nn := nn) (t := pc_S B n) T6.1 C6 v6
  refine pc_se ?_; intro u8 e8
  rw [c_tag T6, mx_svs]
  have e8' : tg_S B n u6.1 = 3 → u8 = pt_S B n u6.1 0 := fun z => by
    have w := c_part (nn := nn) T6 (k := u6.1) (i := 0) (.inl ⟨z, rfl⟩)
    rw [show ((0 : Nat) : Int) = 0 from rfl, e8] at w
    exact Option.some.inj w
  have V : ∀ p q, st = .inr p → by_S B n (pc_S B n) p = .inr q → u8 = pt_S B n (B p) 0 := fun p q z y => by
    obtain ⟨-, y1, y2⟩ := by_le y
    have e := v6 p z y1
    rw [← e] at y2 ⊢
    unfold pc_S cl_S at y2
    rw [Bool.and_eq_true, decide_eq_true_iff] at y2
    exact e8' y2.1
  have bad : ¬ pc_S B n u6.1 = true → Pc (qj_X3_nextPlainClass_29 nn b u8 u6.2) (fun u => FRz b M u.2 ∧ CRs b n (bd_S st (by_S B n (pc_S B n))) u.2 ∧ ∀ p q, st = .inr p → by_S B n (pc_S B n) p = .inr q → u.1 = pt_S B n (B p) 0) := fun z => by
    unfold qj_X3_nextPlainClass_29
    refine pc_xl ?_; intro v2 e2
    refine pc_sv (K.2 z v2 e2) ?_; intro u4 q4
    exact pc_ret ⟨frp_t f6 q4.1, q4.2, V⟩
  refine pc_if (fun c => bad ?_) (fun c => ?_)
  · intro z; unfold pc_S cl_S at z; rw [Bool.and_eq_true, decide_eq_true_iff] at z; exact c z.1
  have c := Decidable.not_not.1 c
  rw [c_isArr T6, mx_svs]
  refine pc_if (fun d => ?_) (fun d => ?_)
  · have k : pc_S B n u6.1 = true := by
      unfold pc_S cl_S
      rw [Bool.and_eq_true, decide_eq_true_iff, Bool.not_eq_true', ← e8' c]
      exact ⟨c, bi_0.1 d⟩
    exact pc_ret ⟨f6, K.1 k, V⟩
  · refine bad ?_
    intro z
    unfold pc_S at z
    rw [Bool.and_eq_true, Bool.not_eq_true', ← e8' c] at z
    exact d (bi_0.2 z.2)
end
