section
variable {nn : Nat} {g t : ms_M} {w : Int}
/-- the code is made, and it is small -/
def FZ (g t : ms_M) : Prop := (0 ≤ t 160 68 ∧ t 160 68 ≤ 1500) ∧ (0 ≤ t 160 84 ∧ t 160 84 ≤ 20) ∧ (0 ≤ t 160 78 ∧ t 160 78 ≤ 100) ∧ (∀ f : Nat, (f : Int) < t 160 84 → 0 ≤ t 216 f ∧ t 216 f < 24 + 2 * g 160 24) ∧ (∀ f : Nat, (f : Int) < t 160 78 → (0 ≤ t 209 f ∧ 0 ≤ t 210 f ∧ 0 ≤ t 211 f ∧ t 209 f + t 210 f + t 211 f ≤ 26520 ∧ t 210 f ≤ 31 ∧ t 211 f ≤ 20 ∧ 0 ≤ t 208 f) ∧ ∀ x : Nat, (x : Int) < t 209 f + t 210 f + t 211 f → 0 ≤ t 212 x ∧ t 212 x < 24 + 2 * g 160 24) ∧ (∀ f k : Nat, (f : Int) < t 160 78 → (k : Int) < t 160 78 → t 208 f = t 208 k → f = k)
def QTL (g : ms_M) (w : Int) (t : ms_M) (L : Int) (r : ms_M) : Prop := CT g w r ∧ NQ t r ∧ r 160 97 ≤ L
theorem qtl_le {L M : Int} {h : ms_M} (x : QTL g w t L h) (hl : L ≤ M) : QTL g w t M h := ⟨x.1, x.2.1, Int.le_trans x.2.2 hl⟩
theorem qtl_tell {L x : Int} {h : ms_M} (q : QTL g w t L h) (hl : L ≤ 890000000) : Ok_ (qf_X13_tell nn x h) (QTL g w t (L + 1)) := by
  have := q.2.2
  exact ok_im (ct_tell q.1 (by omega)) (fun r P => ⟨P.1, nq_tr q.2.1 (nq_nt P.2.1), by have := P.2.2; omega⟩)
theorem qtl_pair {L x : Int} {h : ms_M} (q : QTL g w t L h) (hl : L ≤ 890000000) : Ok_ (qf_X13_tellPair nn x h) (QTL g w t (L + 2)) := by
  have := q.2.2
  exact ok_im (ct_pair q.1 (by omega)) (fun r P => ⟨P.1, nq_tr q.2.1 (nq_nt P.2.1), by have := P.2.2; omega⟩)
theorem qtl_type (hn : 1000000 ≤ nn) (P : SP g) {L x : Int} {h : ms_M} (q : QTL g w t L h) (hw : w ≤ 3001) (hx : 0 ≤ x ∧ x < 24 + 2 * g 160 24) (hl : L ≤ 890000000) : Ok_ (qf_X13_tellType nn x h) (QTL g w t (L + 2)) := by
  have := q.2.2
  exact ok_im (ct_type hn P q.1 hw hx (by omega)) (fun r P => ⟨P.1, nq_tr q.2.1 P.2.1, by have := P.2.2; omega⟩)
theorem qtl_class (hn : 1000000 ≤ nn) (P : SP g) {L x : Int} {h : ms_M} (q : QTL g w t L h) (hw : w ≤ 3001) (hx : 0 ≤ x ∧ x < 24 + 2 * g 160 24) : Ok_ (qf_X13_classConstant nn x h) (fun u => QTL g w t L u.2) := by
  have := q.2.2
  exact ok_im (ct_class hn P q.1 hw (by omega)) (fun u P => ⟨P.1, nq_tr q.2.1 (nq_np P.2.1), by have := P.2.1 160 97 (by decide) (by decide); omega⟩)
theorem mm_561 (hn : 1000000 ≤ nn) (P : SP g) (F : FZ g t) (hw : w ≤ 3001) {Q : ms_M → Prop} {qk : Int → Int → ms_M → Option ms_M} {l5 l6 l7 B : Int} (r7 : 0 ≤ l7 ∧ l7 < t 160 78) (hB : 0 ≤ B ∧ B ≤ 800000000) (r6 : 0 ≤ l6 ∧ l6 ≤ 100) (hk : ∀ h, QTL g w t (B + 106) h → Ok_ (qk l5 (l6 + 1) h) Q) : ∀ (k : Nat) (l8 : Int) (h : ms_M), QTL g w t (B + 66 + 2 * l8) h → 0 ≤ l8 → l8 ≤ t 211 l7.toNat → t 211 l7.toNat - l8 < (k : Int) → Ok_ (qw_X13_makeMethod_561 nn qk k l5 l6 l7 l8 h) Q := by
  obtain ⟨⟨f9, f10, f11, fs, f31, f20, f8⟩, fw⟩ := F.2.2.2.2.1 l7.toNat (by omega)
  have f100 := F.2.2.1
  intro k
  induction k with
  | zero => intro l8 h q a1 a2 hm; exfalso; omega
  | succ k ih =>
    intro l8 h q a1 a2 hm
    have V := q.1.1
    unfold qw_X13_makeMethod_561
    refine ok_rd (by omega) (gA_211 V) ?_; intro v2 e2 _ _
    rw [q.2.1 211 _ (by decide) (by omega) (by omega)] at e2
    refine ok_if (fun C => ?_) (fun C => ?_)
    · refine ok_add (by omega) ?_; intro v3 e3
      rw [e3]
      exact hk h (qtl_le q (by omega))
    · refine ok_rd (by omega) (gA_209 V) ?_; intro v6 e6 _ _
      rw [q.2.1 209 _ (by decide) (by omega) (by omega)] at e6
      refine ok_rd (by omega) (gA_210 V) ?_; intro v8 e8 _ _
      rw [q.2.1 210 _ (by decide) (by omega) (by omega)] at e8
      refine ok_add (by omega) ?_; intro v9 e9
      refine ok_add (by omega) ?_; intro v10 e10
      refine ok_rd (by omega) (gA_212 V) ?_; intro v11 e11 _ _
      rw [q.2.1 212 _ (by decide) (by omega) (by omega)] at e11
      have ft := fw v10.toNat (by omega)
      refine ok_sv (qtl_type hn P q hw (by omega) (by omega)) ?_; intro u13 q13
      refine ok_add (by omega) ?_; intro v14 e14
      exact ih v14 u13 (qtl_le q13 (by omega)) (by omega) (by omega) (by omega)
theorem mm_510 (hn : 1000000 ≤ nn) (P : SP g) (F : FZ g t) (hw : w ≤ 3001) {Q : ms_M → Prop} {qk : Int → Int → ms_M → Option ms_M} {l5 l6 l7 B : Int} (r7 : 0 ≤ l7 ∧ l7 < t 160 78) (hB : 0 ≤ B ∧ B ≤ 800000000) (r6 : 0 ≤ l6 ∧ l6 ≤ 100) (hk : ∀ h, QTL g w t (B + 106) h → Ok_ (qk l5 (l6 + 1) h) Q) : ∀ (k : Nat) (l8 : Int) (h : ms_M), QTL g w t (B + 3 + 2 * l8) h → 0 ≤ l8 → l8 ≤ t 210 l7.toNat → t 210 l7.toNat - l8 < (k : Int) → Ok_ (qw_X13_makeMethod_510 nn qk k l5 l6 l7 l8 h) Q := by
  obtain ⟨⟨f9, f10, f11, fs, f31, f20, f8⟩, fw⟩ := F.2.2.2.2.1 l7.toNat (by omega)
  have f100 := F.2.2.1
  intro k
  induction k with
  | zero => intro l8 h q a1 a2 hm; exfalso; omega
  | succ k ih =>
    intro l8 h q a1 a2 hm
    have V := q.1.1
    unfold qw_X13_makeMethod_510
    refine ok_rd (by omega) (gA_210 V) ?_; intro v17 e17 _ _
    rw [q.2.1 210 _ (by decide) (by omega) (by omega)] at e17
    refine ok_if (fun C => ?_) (fun C => ?_)
    · refine ok_rd (by omega) (gA_211 V) ?_; intro v19 e19 _ _
      refine ok_sv (qtl_tell q (by omega)) ?_; intro u21 q21
      exact mm_561 hn P F hw r7 hB r6 hk nn 0 u21 (qtl_le q21 (by omega)) (by omega) (by omega) (by omega)
    · refine ok_rd (by omega) (gA_209 V) ?_; intro v24 e24 _ _
      rw [q.2.1 209 _ (by decide) (by omega) (by omega)] at e24
      refine ok_add (by omega) ?_; intro v25 e25
      refine ok_rd (by omega) (gA_212 V) ?_; intro v26 e26 _ _
      rw [q.2.1 212 _ (by decide) (by omega) (by omega)] at e26
      have ft := fw v25.toNat (by omega)
      refine ok_sv (qtl_type hn P q hw (by omega) (by omega)) ?_; intro u28 q28
      refine ok_add (by omega) ?_; intro v29 e29
      exact ih v29 u28 (qtl_le q28 (by omega)) (by omega) (by omega) (by omega)
/-- how many frames stand at v or before -/
def cnt (t : ms_M) (v : Int) : Int := cs w1 (fun i => decide (t 208 i ≤ v)) (t 160 78).toNat
theorem cs_cg {f : Nat → Int} {b c : Nat → Bool} : ∀ n : Nat, (∀ i, i < n → b i = c i) → cs f b n = cs f c n := by
  intro n
  induction n with
  | zero => intro _; rfl
  | succ n ih =>
    intro H
    show cs f b n + _ = cs f c n + _
    rw [ih (fun i hi => H i (by omega)), H n (by omega)]
theorem cs_all {b : Nat → Bool} : ∀ n : Nat, (∀ i, i < n → b i = true) → cs w1 b n = (n : Int) := by
  intro n
  induction n with
  | zero => intro _; rfl
  | succ n ih =>
    intro H
    show cs w1 b n + _ = _
    rw [ih (fun i hi => H i (by omega)), if_pos (H n (by omega))]
    show (n : Int) + 1 = _
    omega
theorem cs_non {b : Nat → Bool} : ∀ n : Nat, (∀ i, i < n → ¬ b i = true) → cs w1 b n = 0 := by
  intro n
  induction n with
  | zero => intro _; rfl
  | succ n ih =>
    intro H
    show cs w1 b n + _ = _
    rw [ih (fun i hi => H i (by omega)), if_neg (H n (by omega))]
    rfl
theorem cnt_next (F : FZ g t) {v : Int} {x : Nat} (hx : (x : Int) < t 160 78) (h1 : v < t 208 x) (h2 : ∀ i : Nat, (i : Int) < t 160 78 → v < t 208 i → t 208 x ≤ t 208 i) : cnt t (t 208 x) = cnt t v + 1 := by
  have f100 := F.2.2.1
  have nb : ¬ (fun i => decide (t 208 i ≤ v)) x = true := fun y => by have := of_decide_eq_true y; omega
  have q := cs_up (f := w1) (b := fun i => decide (t 208 i ≤ v)) (i := x) nb (t 160 78).toNat
  rw [if_pos (show x < (t 160 78).toNat by omega)] at q
  have q1 : w1 x = 1 := rfl
  unfold cnt
  rw [q1] at q
  rw [← q]
  refine cs_cg _ (fun i hi => ?_)
  unfold bu
  by_cases y : i = x
  · rw [if_pos y, y]; exact decide_eq_true (Int.le_refl _)
  · rw [if_neg y]
    by_cases z : v < t 208 i
    · have a := h2 i (by omega) z
      have b : ¬ t 208 i = t 208 x := fun e => y (F.2.2.2.2.2 i x (by omega) hx e)
      show decide (t 208 i ≤ t 208 x) = decide (t 208 i ≤ v)
      rw [decide_eq_false (show ¬ t 208 i ≤ t 208 x by omega), decide_eq_false (show ¬ t 208 i ≤ v by omega)]
    · show decide (t 208 i ≤ t 208 x) = decide (t 208 i ≤ v)
      rw [decide_eq_true (show t 208 i ≤ t 208 x by omega), decide_eq_true (show t 208 i ≤ v by omega)]
theorem mm_427 (hn : 1000000 ≤ nn) (P : SP g) (F : FZ g t) (hw : w ≤ 3001) {Q : ms_M → Prop} {qk : Int → Int → ms_M → Option ms_M} {l5 l6 B : Int} (hB : 0 ≤ B ∧ B ≤ 800000000) (r6 : 0 ≤ l6 ∧ l6 < t 160 78) (hc : cnt t l5 = l6) (hk : ∀ (v : Int) (h : ms_M), cnt t v = l6 + 1 → QTL g w t (B + 106) h → Ok_ (qk v (l6 + 1) h) Q) : ∀ (k : Nat) (l7 l8 : Int) (h : ms_M), QTL g w t B h → 0 ≤ l8 → l8 ≤ t 160 78 → ((l7 = -1 ∧ ∀ i : Nat, (i : Int) < l8 → t 208 i ≤ l5) ∨ (0 ≤ l7 ∧ l7 < l8 ∧ l5 < t 208 l7.toNat ∧ ∀ i : Nat, (i : Int) < l8 → l5 < t 208 i → t 208 l7.toNat ≤ t 208 i)) → t 160 78 - l8 < (k : Int) → Ok_ (qw_X13_makeMethod_427 nn qk k l5 l6 l7 l8 h) Q := by
  have f100 := F.2.2.1
  intro k
  induction k with
  | zero => intro l7 l8 h q a1 a2 H hm; exfalso; omega
  | succ k ih =>
    intro l7 l8 h q a1 a2 H hm
    have V := q.1.1
    have e78 := q.2.1 160 78 (by decide) (by decide) (by decide)
    unfold qw_X13_makeMethod_427
    refine ok_if (fun C => ?_) (fun C => ?_)
    · have e8 : l8 = t 160 78 := by omega
      rcases H with ⟨H1, H2⟩ | ⟨H1, H2, H3, H4⟩
      · exfalso
        have := cs_all (b := fun i => decide (t 208 i ≤ l5)) (t 160 78).toNat (fun i hi => decide_eq_true (H2 i (by omega)))
        unfold cnt at hc
        omega
      · refine ok_rd (by omega) (gA_208 V) ?_; intro v34 e34 _ _
        rw [q.2.1 208 _ (by decide) (by omega) (by omega)] at e34
        refine ok_sv (qtl_pair q (by omega)) ?_; intro u36 q36
        refine ok_rd (by omega) (gA_210 q36.1.1) ?_; intro v38 e38 _ _
        refine ok_sv (qtl_tell q36 (by omega)) ?_; intro u40 q40
        have cn := cnt_next F (v := l5) (x := l7.toNat) (by omega) H3 (fun i hi => H4 i (by omega))
        rw [← e34] at cn
        have f10 := (F.2.2.2.2.1 l7.toNat (by omega)).1.2.1
        have f11 := (F.2.2.2.2.1 l7.toNat (by omega)).1.2.2.2.2.1
        exact mm_510 hn P F hw (by omega) hB (by omega) (fun h qh => hk v34 h (by omega) qh) nn 0 u40 (qtl_le q40 (by omega)) (by omega) (by omega) (by omega)
    · refine ok_rd (by omega) (gA_208 V) ?_; intro v42 e42 _ _
      rw [q.2.1 208 _ (by decide) (by omega) (by omega)] at e42
      have take : l5 < v42 → (l7 = -1 ∨ v42 < t 208 l7.toNat) → Ok_ (qj_X13_makeMethod_471 nn qk (qw_X13_makeMethod_427 nn qk k) l5 l6 l8 h) Q := fun hv hl => by
        unfold qj_X13_makeMethod_471
        refine ok_add (by omega) ?_; intro v31 e31
        refine ih l8 v31 h q (by omega) (by omega) (.inr ⟨a1, by omega, by rw [← e42]; exact hv, fun i hi hl5 => ?_⟩) (by omega)
        by_cases y : (i : Int) = l8
        · rw [show i = l8.toNat by omega]; exact Int.le_refl _
        · rw [← e42]
          rcases H with ⟨H1, H2⟩ | ⟨H1, H2, H3, H4⟩
          · have := H2 i (by omega); exfalso; omega
          · have := H4 i (by omega) hl5
            omega
      refine ok_if (fun C2 => ?_) (fun C2 => ?_)
      · refine ok_add (by omega) ?_; intro v43 e43
        refine ih l7 v43 h q (by omega) (by omega) ?_ (by omega)
        rcases H with ⟨H1, H2⟩ | ⟨H1, H2, H3, H4⟩
        · refine .inl ⟨H1, fun i hi => ?_⟩
          by_cases y : (i : Int) = l8
          · rw [show i = l8.toNat by omega, ← e42]; exact C2
          · exact H2 i (by omega)
        · refine .inr ⟨H1, by omega, H3, fun i hi hl5 => ?_⟩
          by_cases y : (i : Int) = l8
          · exfalso; rw [show i = l8.toNat by omega, ← e42] at hl5; omega
          · exact H4 i (by omega) hl5
      · refine ok_if (fun C3 => take (by omega) (.inl C3)) (fun C3 => ?_)
        rcases H with ⟨H1, H2⟩ | ⟨H1, H2, H3, H4⟩
        · exact absurd H1 C3
        · refine ok_rd (by omega) (gA_208 V) ?_; intro v45 e45 _ _
          rw [q.2.1 208 _ (by decide) (by omega) (by omega)] at e45
          refine ok_rd (by omega) (gA_208 V) ?_; intro v47 e47 _ _
          rw [q.2.1 208 _ (by decide) (by omega) (by omega)] at e47
          refine ok_if (fun C4 => ?_) (fun C4 => take (by omega) (.inr (by omega)))
          refine ok_add (by omega) ?_; intro v48 e48
          refine ih l7 v48 h q (by omega) (by omega) (.inr ⟨H1, by omega, H3, fun i hi hl5 => ?_⟩) (by omega)
          by_cases y : (i : Int) = l8
          · rw [show i = l8.toNat by omega]; omega
          · exact H4 i (by omega) hl5
theorem mm_412 (hn : 1000000 ≤ nn) (P : SP g) (F : FZ g t) (hw : w ≤ 3001) {B : Int} (hB : 0 ≤ B ∧ B ≤ 700000000) : ∀ (k : Nat) (l5 l6 : Int) (h : ms_M), QTL g w t (B + 106 * l6) h → (0 ≤ l6 ∧ l6 ≤ t 160 78) → cnt t l5 = l6 → t 160 78 - l6 < (k : Int) → Ok_ (qw_X13_makeMethod_412 nn k l5 l6 h) (QTL g w t (B + 10600)) := by
  have f100 := F.2.2.1
  intro k
  induction k with
  | zero => intro l5 l6 h q a1 c hm; exfalso; omega
  | succ k ih =>
    intro l5 l6 h q a1 c hm
    have e78 := q.2.1 160 78 (by decide) (by decide) (by decide)
    unfold qw_X13_makeMethod_412
    refine ok_if (fun C => ok_ret (qtl_le q (by omega))) (fun C => ?_)
    exact mm_427 hn P F hw (B := B + 106 * l6) (by omega) (by omega) c (fun v h cv qh => ih v (l6 + 1) h (qtl_le qh (by omega)) (by omega) cv (by omega)) nn (-1) 0 h q (by omega) (by omega) (.inl ⟨rfl, fun i hi => by exfalso; omega⟩) (by omega)
theorem mm_335 (hn : 1000000 ≤ nn) (P : SP g) (F : FZ g t) (hw : w ≤ 3001) {B : Int} (hB : 0 ≤ B ∧ B ≤ 600000000) : ∀ (k : Nat) (l5 : Int) (h : ms_M), QTL g w t (B + 7 * l5) h → (0 ≤ l5 ∧ l5 ≤ t 160 84) → t 160 84 - l5 < (k : Int) → Ok_ (qw_X13_makeMethod_335 nn k l5 h) (QTL g w t (B + 10800)) := by
  have f100 := F.2.2.1
  have f84 := F.2.1
  intro k
  induction k with
  | zero => intro l5 h q a1 hm; exfalso; omega
  | succ k ih =>
    intro l5 h q a1 hm
    have e84 := q.2.1 160 84 (by decide) (by decide) (by decide)
    unfold qw_X13_makeMethod_335
    refine ok_if (fun C => ?_) (fun C => ?_)
    · refine ok_sv (qtl_tell q (by omega)) ?_; intro u58 q58
      have c0 : cnt t (-1) = 0 := cs_non _ (fun i hi y => by have := of_decide_eq_true y; have := (F.2.2.2.2.1 i (by omega)).1.2.2.2.2.2.2; omega)
      exact ok_im (mm_412 hn P F hw (B := B + 141) (by omega) nn (-1) 0 u58 (qtl_le q58 (by omega)) (by omega) c0 (by omega)) (fun r qr => qtl_le qr (by omega))
    · refine ok_rd (by omega) (gA_213 q.1.1) ?_; intro v60 _ _ _
      refine ok_sv (qtl_pair q (by omega)) ?_; intro u62 q62
      refine ok_rd (by omega) (gA_214 q62.1.1) ?_; intro v64 _ _ _
      refine ok_sv (qtl_pair q62 (by omega)) ?_; intro u66 q66
      refine ok_rd (by omega) (gA_215 q66.1.1) ?_; intro v68 _ _ _
      refine ok_sv (qtl_pair q66 (by omega)) ?_; intro u70 q70
      refine ok_rd (by omega) (gA_216 q70.1.1) ?_; intro v72 e72 _ _
      rw [q70.2.1 216 _ (by decide) (by omega) (by omega)] at e72
      have f216 := F.2.2.2.1 l5.toNat (by omega)
      refine ok_sv (qtl_class hn P q70 hw (by omega)) ?_; intro u74 q74
      refine ok_sv (qtl_tell q74 (by omega)) ?_; intro u76 q76
      refine ok_add (by omega) ?_; intro v77 e77
      exact ih v77 u76 (qtl_le q76 (by omega)) (by omega) (by omega)
theorem mm_298 (hn : 1000000 ≤ nn) (P : SP g) (F : FZ g t) (hw : w ≤ 3001) {B : Int} (hB : 0 ≤ B ∧ B ≤ 500000000) : ∀ (k : Nat) (l5 : Int) (h : ms_M), QTL g w t (B + l5) h → (0 ≤ l5 ∧ l5 ≤ t 160 68) → t 160 68 - l5 < (k : Int) → Ok_ (qw_X13_makeMethod_298 nn k l5 h) (QTL g w t (B + 12400)) := by
  have f84 := F.2.1
  have f68 := F.1
  intro k
  induction k with
  | zero => intro l5 h q a1 hm; exfalso; omega
  | succ k ih =>
    intro l5 h q a1 hm
    have e68 := q.2.1 160 68 (by decide) (by decide) (by decide)
    unfold qw_X13_makeMethod_298
    refine ok_if (fun C => ?_) (fun C => ?_)
    · refine ok_sv (qtl_tell q (by omega)) ?_; intro u82 q82
      exact ok_im (mm_335 hn P F hw (B := B + 1501) (by omega) nn 0 u82 (qtl_le q82 (by omega)) (by omega) (by omega)) (fun r qr => qtl_le qr (by omega))
    · refine ok_rd (by omega) (gA_206 q.1.1) ?_; intro v84 _ _ _
      refine ok_sv (qtl_tell q (by omega)) ?_; intro u86 q86
      refine ok_add (by omega) ?_; intro v87 e87
      exact ih v87 u86 (qtl_le q86 (by omega)) (by omega) (by omega)
theorem mm_260 (hn : 1000000 ≤ nn) (P : SP g) (F : FZ g t) (hw : w ≤ 3001) {B l2 l3 l4 s0 : Int} (hB : 0 ≤ B ∧ B ≤ 400000000) (q : QTL g w t B t) : Ok_ (qj_X13_makeMethod_260 nn l2 l3 l4 s0 t) (QTL g w t (B + 12500)) := by
  have f68 := F.1
  unfold qj_X13_makeMethod_260
  refine ok_sv (qtl_tell q (by omega)) ?_; intro u90 q90
  refine ok_sv (qtl_tell q90 (by omega)) ?_; intro u92 q92
  refine ok_sv (qtl_tell q92 (by omega)) ?_; intro u94 q94
  refine ok_sv (qtl_tell q94 (by omega)) ?_; intro u97 q97
  refine ok_sv (qtl_tell q97 (by omega)) ?_; intro u99 q99
  refine ok_sv (qtl_pair q99 (by omega)) ?_; intro u102 q102
  exact ok_im (mm_298 hn P F hw (B := B + 7) (by omega) nn 0 u102 (qtl_le q102 (by omega)) (by omega) (by omega)) (fun r qr => qtl_le qr (by omega))
end
