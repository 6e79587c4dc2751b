/- THE REFERENCE SCANS AN IMAGE: fields, constants, all of it -/
section
variable {nn : Nat} {M M1 M2 g : ms_M} {c : Int} {B : Nat → Int} {n : Nat} {s : Nat ⊕ Nat}
theorem r_35l (h : ¬ M 160 114 = -1) {l1 l2 l3 l4 : Int} {f : Nat} : Pc (qw_X13_scanFields_35 nn f l1 l2 l3 l4 M) (fun u => u.2 = M) := by
  cases f with
  | zero => exact pc_none
  | succ f =>
    unfold qw_X13_scanFields_35
    exact pc_rA (fun _ _ _ _ => pc_if (fun _ => pc_ret rfl) (fun _ => pc_if (fun _ => pc_ret rfl) (fun z => absurd h z)))
theorem r_94l (h : ¬ M 160 114 = -1) {l1 l2 l3 l4 : Int} {f : Nat} : Pc (qj_X13_scanFields_94 nn (qw_X13_scanFields_35 nn f) l1 l2 l3 l4 M) (fun u => u.2 = M) := by
  unfold qj_X13_scanFields_94
  refine pc_xl (fun _ _ => ?_)
  rw [r_isBl h, mx_svs]
  exact pc_if (fun _ => pc_xl (fun _ _ => pc_xl (fun _ _ => r_35l h))) (fun z => absurd rfl z)
/-- FORM, and the places of fields -/
def FGp (M M2 : ms_M) : Prop := ∀ a j, ¬ (a = 160 ∧ j = 114) → ¬ a = 233 → M2 a j = M a j
theorem fg_q (A : FQp M M1) : FGp M M1 := fun a j q _ => A a j q
theorem fg_t (A : FGp M M1) (C : FGp M1 M2) : FGp M M2 := fun a j q w => (C a j q w).trans (A a j q w)
theorem ttr_g (F : FGp M M2) (T : TTr c n B M) : TTr c n B M2 := ttr_z (fun a j q w => F a j q (by omega)) T
/-- the places of fields as far as f, from p on -/
def FAt (c : Int) (p : Nat) (f : Int) (M : ms_M) : Prop := ∀ j : Int, 0 ≤ j → j < f → M 233 (12 * c + j).toNat = ((p + (2 * j).toNat : Nat) : Int)
theorem r_35 (hn : 1000000 ≤ nn) {a : Nat} (ha : a < n) (h12 : 0 ≤ B a ∧ B a ≤ 12) : ∀ (m f : Nat) (i : Int) (p : Nat) (M : ms_M), (i + m = B a ∧ 0 ≤ i) → p = a + 1 + (2 * i).toNat → p ≤ n → TTr c n B M → RSs (.inr p) M → FAt c (a + 1) i M → Pc (qw_X13_scanFields_35 nn f c (a : Int) (p : Int) i M) (fun u => FGp M u.2 ∧ RSs (fl_S B n m p) u.2 ∧ ∀ q, fl_S B n m p = .inr q → u.1 = (q : Int) ∧ FAt c (a + 1) (B a) u.2) := by
  intro m
  induction m with
  | zero =>
    intro f i p M hm ep hp T R FA
    cases f with
    | zero => exact pc_none
    | succ f =>
      unfold qw_X13_scanFields_35
      refine pc_rA ?_; intro i1 i2 v21 e21
      have e21 : v21 = B a := by rw [e21]; exact T.1.2.2.2.2.1 _
      refine pc_if (fun _ => pc_ret ⟨fun _ _ _ _ => rfl, R, fun q z => ?_⟩) (fun z => absurd (by omega) z)
      unfold fl_S at z; cases z
      exact ⟨rfl, by rw [show B a = i by omega]; exact FA⟩
  | succ m ih =>
    intro f i p M hm ep hp T R FA
    have n6 := T.1.2.2.2.1
    have hc := T.1.2.1
    cases f with
    | zero => exact pc_none
    | succ f =>
      have et : fl_S B n (m + 1) p = bd_S (bd_S (by_S B n (nm_S B n) p) (by_S B n (fk_S B n))) (fl_S B n m) := rfl
      unfold qw_X13_scanFields_35
      refine pc_rA ?_; intro i1 i2 v21 e21
      have e21 : v21 = B a := by rw [e21]; exact T.1.2.2.2.2.1 _
      refine pc_if (fun z => absurd z (by omega)) (fun _ => pc_if (fun z => absurd R z) (fun _ => ?_))
      refine pc_xl ?_; intro v24 e24
      rw [oq_mul_eq (by omega) (by omega) (by omega)] at e24
      refine pc_add (by omega) ?_; intro v25 e25
      refine pc_wA ?_; intro j1 j2 h26 e26
      have F26 : FGp M h26 := fun a j q w => by rw [e26, up_n (by omega)]
      have T26 := ttr_g F26 T
      have R26 : RSs (.inr p) h26 := rs_k (by rw [e26, up_n (by omega)]) R
      have A26 : FAt c (a + 1) (i + 1) h26 := fun j q1 q2 => by
        by_cases qj : j = i
        · rw [qj, e26, show v25.toNat = (12 * c + i).toNat by omega, up_s, ep]
        · rw [e26, up_n (by omega)]; exact FA j q1 (by omega)
      have out : ∀ {e : Nat} {g : ms_M} {l3 l4 : Int}, FQp h26 g → RSs (.inl e) g → bd_S (by_S B n (nm_S B n) p) (by_S B n (fk_S B n)) = .inl e → Pc (qw_X13_scanFields_35 nn f c (a : Int) l3 l4 g) (fun u => FGp M u.2 ∧ RSs (fl_S B n (m + 1) p) u.2 ∧ ∀ q, fl_S B n (m + 1) p = .inr q → u.1 = (q : Int) ∧ FAt c (a + 1) (B a) u.2) := by
        intro e g l3 l4 Fg Rg hz
        rw [et, hz]
        exact pc_imp (r_35l (rs_l Rg)) (fun u q => ⟨by rw [q]; exact fg_t F26 (fg_q Fg), by rw [q]; exact Rg, fun x z => by cases z⟩)
      have out94 : ∀ {e : Nat} {g : ms_M}, FQp h26 g → RSs (.inl e) g → by_S B n (nm_S B n) p = .inl e → Pc (qj_X13_scanFields_94 nn (qw_X13_scanFields_35 nn f) c (a : Int) (p : Int) i g) (fun u => FGp M u.2 ∧ RSs (fl_S B n (m + 1) p) u.2 ∧ ∀ q, fl_S B n (m + 1) p = .inr q → u.1 = (q : Int) ∧ FAt c (a + 1) (B a) u.2) := by
        intro e g Fg Rg hz
        rw [et, hz]
        exact pc_imp (r_94l (rs_l Rg)) (fun u q => ⟨by rw [q]; exact fg_t F26 (fg_q Fg), by rw [q]; exact Rg, fun x z => by cases z⟩)
      rcases r_isB (nn := nn) T26.1 (x := p) with ⟨a1, e⟩ | ⟨a1, w, e⟩ | ⟨a1, w, e⟩
      · exact absurd R26 a1
      · rw [e, mx_svs]
        dsimp only
        refine pc_if (fun z => absurd z (by decide)) (fun _ => ?_)
        refine pc_rA ?_; intro k1 k2 v30 e30
        have e30 : v30 = B p := by rw [e30]; exact T26.1.2.2.2.2.1 _
        rw [e30]
        show Pc (mx_sv (qf_X13_isText nn (B p) 0 h26) _) _
        rw [r_isText0 hn T26, mx_svs]
        refine pc_if (fun y => ?_) (fun y => ?_)
        · have e1 : by_S B n (nm_S B n) p = .inr (p + 1) := by unfold by_S; rw [if_pos w, if_pos (bi_t y)]
          unfold qj_X13_scanFields_94
          refine pc_add (by omega) ?_; intro v1 ev1
          rw [show v1 = ((p + 1 : Nat) : Int) by omega]
          show Pc (mx_sv (qf_X13_isByte nn ((p + 1 : Nat) : Int) h26) _) _
          rcases r_isB (nn := nn) T26.1 (x := p + 1) with ⟨a2, e2⟩ | ⟨a2, w2, e2⟩ | ⟨a2, w2, e2⟩
          · exact absurd R26 a2
          · rw [e2, mx_svs]
            try dsimp only
            refine pc_if (fun z => absurd z (by decide)) (fun _ => ?_)
            refine pc_add (by omega) ?_; intro v7 ev7
            refine pc_rA ?_; intro l1 l2 v8 ev8
            have ev8 : v8 = B (p + 1) := by rw [ev8, show v7.toNat = p + 1 by omega]; exact T26.1.2.2.2.2.1 _
            rw [ev8]
            show Pc (mx_sv (qf_X13_isText nn (B (p + 1)) 1 h26) _) _
            rw [r_isText1 hn T26, mx_svs]
            refine pc_if (fun y2 => ?_) (fun y2 => ?_)
            · have e3 : by_S B n (fk_S B n) (p + 1) = .inr (p + 1 + 1) := by unfold by_S; rw [if_pos w2, if_pos (bi_t y2)]
              refine pc_add (by omega) ?_; intro v11 ev11
              refine pc_add (by omega) ?_; intro v12 ev12
              rw [et, e1, bd_r, e3, bd_r, show v11 = ((p + 1 + 1 : Nat) : Int) by omega]
              refine pc_imp (ih f v12 (p + 1 + 1) h26 (by omega) (by omega) (by omega) T26 R26 (by rw [ev12]; exact A26)) (fun u q => ⟨fg_t F26 q.1, q.2⟩)
            · have no := bi_f (Decidable.not_not.1 y2)
              have e3 : by_S B n (fk_S B n) (p + 1) = .inl (p + 1) := by unfold by_S; rw [if_pos w2, if_neg no]
              refine pc_add (by omega) ?_; intro v13 ev13
              rw [show v13 = ((p + 1 : Nat) : Int) by omega]
              exact r_unx (s := .inr (p + 1)) R26 (fun g Fg Rg => pc_xl (fun _ _ => pc_xl (fun _ _ => out Fg Rg (by rw [e1, bd_r, e3]))))
          · have e3 : by_S B n (fk_S B n) (p + 1) = .inl n := by unfold by_S; rw [if_neg w2]
            rw [e2, mx_svs]
            refine pc_if (fun _ => ?_) (fun z => absurd rfl z)
            exact pc_xl (fun _ _ => pc_xl (fun _ _ => out (e := n) fq_u (show up_M h26 160 114 (n : Int) 160 114 = (n : Int) from up_s) (by rw [e1, bd_r, e3])))
        · have no := bi_f (Decidable.not_not.1 y)
          have e1 : by_S B n (nm_S B n) p = .inl p := by unfold by_S; rw [if_pos w, if_neg no]
          exact r_unx (s := .inr p) R26 (fun g Fg Rg => out94 Fg Rg e1)
      · have e1 : by_S B n (nm_S B n) p = .inl n := by unfold by_S; rw [if_neg w]
        rw [e, mx_svs]
        dsimp only
        refine pc_if (fun _ => ?_) (fun z => absurd rfl z)
        exact out94 (e := n) fq_u up_s e1
theorem fl_le {p q : Nat} : ∀ m, p ≤ n → fl_S B n m p = .inr q → q ≤ n := by
  intro m
  induction m generalizing p with
  | zero => intro h e; unfold fl_S at e; cases e; exact h
  | succ m ih =>
    intro h e
    unfold fl_S at e
    obtain ⟨x, hx, e⟩ := bd_inr e
    obtain ⟨y, hy, hx⟩ := bd_inr hx
    have := by_le hx
    exact ih (by omega) e
/-- fields: FORM, rows 232 and 233 -/
theorem r_fields (hn : 1000000 ≤ nn) {a : Nat} (ha : a < n) (T : TTr c n B M) (R : RSs (.inr a) M) : Pc (qf_X13_scanFields nn c (a : Int) M) (fun u => (∀ x j, ¬ (x = 160 ∧ j = 114) → ¬ x = 233 → ¬ (x = 232 ∧ j = c.toNat) → u.2 x j = M x j) ∧ RSs (fs_S B n a) u.2 ∧ ∀ q, fs_S B n a = .inr q → u.1 = (q : Int) ∧ q ≤ n ∧ u.2 232 c.toNat = B a ∧ FAt c (a + 1) (B a) u.2) := by
  have n6 := T.1.2.2.2.1
  have hc := T.1.2.1
  have hB := T.1.2.2.2.2.2.2 a ha
  unfold qf_X13_scanFields
  refine pc_rA ?_; intro i1 i2 v45 e45
  have e45 : v45 = B a := by rw [e45]; exact T.1.2.2.2.2.1 _
  refine pc_if (fun z => ?_) (fun z => ?_)
  · unfold qj_X13_scanFields_16
    refine pc_rA ?_; intro j1 j2 v41 e41
    have e41 : v41 = B a := by rw [e41]; exact T.1.2.2.2.2.1 _
    refine pc_wA ?_; intro k1 k2 h42 e42
    have F42 : ∀ x j, ¬ (x = 232 ∧ j = c.toNat) → h42 x j = M x j := fun x j q => by rw [e42, up_n (by omega)]
    have T42 : TTr c n B h42 := ttr_z (fun x j q w => F42 x j (by omega)) T
    have R42 : RSs (.inr (a + 1)) h42 := rs_k (s := .inr (a + 1)) (F42 _ _ (by omega)) R
    refine pc_add (by omega) ?_; intro v43 e43
    have e1 : by_S B n (up_T 0 12) a = .inr (a + 1) := by
      unfold by_S up_T
      rw [if_pos ha, if_pos (by rw [Bool.and_eq_true, decide_eq_true_iff, decide_eq_true_iff]; omega)]
    have ef : fs_S B n a = fl_S B n (B a).toNat (a + 1) := by unfold fs_S; rw [e1]; rfl
    rw [ef, show v43 = ((a + 1 : Nat) : Int) by omega]
    refine pc_imp (r_35 hn ha (by omega) (B a).toNat nn 0 (a + 1) h42 (by omega) (by omega) (by omega) T42 R42 (fun j q1 q2 => by omega)) (fun u q => ⟨fun x j q1 q2 q3 => (q.1 x j q1 q2).trans (F42 x j q3), q.2.1, fun y hy => ?_⟩)
    obtain ⟨r1, r2⟩ := q.2.2 y hy
    refine ⟨r1, fl_le _ (by omega) hy, ?_, r2⟩
    rw [q.1 _ _ (by omega) (by omega), e42, up_s]; exact e41
  · have no : ¬ up_T 0 12 (B a) = true := fun y => by have := up_Tt y; omega
    have e1 : by_S B n (up_T 0 12) a = .inl a := by unfold by_S; rw [if_pos ha, if_neg no]
    have ef : fs_S B n a = .inl a := by unfold fs_S; rw [e1]; rfl
    rw [ef]
    refine r_unx (s := .inr a) R (fun g Fg Rg => ?_)
    unfold qj_X13_scanFields_16
    refine pc_rA ?_; intro j1 j2 v41 e41
    refine pc_wA ?_; intro k1 k2 h42 e42
    refine pc_xl ?_; intro v43 e43
    have R42 : RSs (.inl a) h42 := rs_k (s := .inl a) (by rw [e42, up_n (by omega)]) Rg
    refine pc_imp (r_35l (rs_l R42)) (fun u q => ⟨fun x j q1 q2 q3 => ?_, by rw [q]; exact R42, fun y hy => by cases hy⟩)
    rw [q, e42, up_n (by omega)]; exact Fg x j q1
/- checks of constants -/
theorem r_chk (hn : 1000000 ≤ nn) {k : Int} {p : Nat} (T : TTr c n B M) (w : 1 ≤ k ∧ k ≤ B 2) (R : RSs (.inr p) M) : Pc (qf_X13_checkConstant nn (pl_S B n k : Int) M) (fun r => FQp M r ∧ RSs (match ck_S B n k with
    | some e => .inl e
    | none => .inr p) r) := by
  have n6 := T.1.2.2.2.1
  obtain ⟨v1, v2, v3, v4⟩ := T.2.2.2.2 k w.1 w.2
  have tk : tg_S B n k = B (pl_S B n k) := by unfold tg_S; rw [if_pos w]
  have L : ∀ {g : ms_M}, TTr c n B g → ∀ i : Nat, g 238 i = B i := fun Tg => Tg.1.2.2.2.2.1
  have r105 : ∀ {g : ms_M} {s : Nat ⊕ Nat}, tg_S B n k = 4 → TTr c n B g → RSs s g → Pc (qj_X13_checkConstant_105 nn (pl_S B n k : Int) g) (fun r => FQp g r ∧ RSs (bd_S s (te_S (fk_S B n (pt_S B n k 2) || (pi_S B n (pt_S B n k 2)).isSome) (pl_S B n k + 3))) r) := by
    intro g s t4 Tg Rg
    have v4 := v4 (by omega)
    unfold qj_X13_checkConstant_105
    refine pc_add (by omega) ?_; intro x2 ex2
    refine pc_rA ?_; intro i1 i2 x3 ex3
    have ex3 : x3 = pt_S B n k 2 := by rw [ex3, L Tg]; unfold pt_S; congr 1; omega
    rw [ex3, r_isText3 hn Tg, mx_svs]
    refine pc_if (fun y => pc_ret ⟨fq_r, ?_⟩) (fun y => ?_)
    · cases s with
      | inl e => exact Rg
      | inr q => rw [bd_r]; unfold te_S; rw [if_pos (bi_t y)]; exact Rg
    · refine pc_add (by omega) ?_; intro x6 ex6
      rw [show x6 = ((pl_S B n k + 3 : Nat) : Int) by omega]
      refine r_unx Rg (fun r Fr Rr => pc_ret ⟨Fr, ?_⟩)
      cases s with
      | inl e => exact Rr
      | inr q => rw [bd_r]; unfold te_S; rw [if_neg (bi_f (Decidable.not_not.1 y))]; exact Rr
  have r82 : ∀ {g : ms_M} {s : Nat ⊕ Nat}, tg_S B n k = 4 → TTr c n B g → RSs s g → Pc (qj_X13_checkConstant_82 nn (pl_S B n k : Int) g) (fun r => FQp g r ∧ RSs (bd_S (bd_S s (te_S (nm_S B n (pt_S B n k 1)) (pl_S B n k + 2))) (te_S (fk_S B n (pt_S B n k 2) || (pi_S B n (pt_S B n k 2)).isSome) (pl_S B n k + 3))) r) := by
    intro g s t4 Tg Rg
    have v4 := v4 (by omega)
    unfold qj_X13_checkConstant_82
    refine pc_add (by omega) ?_; intro x2 ex2
    refine pc_rA ?_; intro i1 i2 x3 ex3
    have ex3 : x3 = pt_S B n k 1 := by rw [ex3, L Tg]; unfold pt_S; congr 1; omega
    rw [ex3, r_isText0 hn Tg, mx_svs]
    refine pc_if (fun y => r105 t4 Tg ?_) (fun y => ?_)
    · cases s with
      | inl e => exact Rg
      | inr q => rw [bd_r]; unfold te_S; rw [if_pos (bi_t y)]; exact Rg
    · refine pc_add (by omega) ?_; intro x6 ex6
      rw [show x6 = ((pl_S B n k + 2 : Nat) : Int) by omega]
      refine r_unx Rg (fun r Fr Rr => ?_)
      refine pc_imp (r105 t4 (ttr_k Fr Tg) (s := bd_S s (te_S (nm_S B n (pt_S B n k 1)) (pl_S B n k + 2))) ?_) (fun z q => ⟨fq_t Fr q.1, q.2⟩)
      cases s with
      | inl e => exact Rr
      | inr q => rw [bd_r]; unfold te_S; rw [if_neg (bi_f (Decidable.not_not.1 y))]; exact Rr
  have r33 : ∀ {g : ms_M} {s : Nat ⊕ Nat}, TTr c n B g → RSs s g → Pc (qj_X13_checkConstant_33 nn (pl_S B n k : Int) g) (fun r => FQp g r ∧ RSs (if tg_S B n k = 4 then bd_S (bd_S (bd_S s (te_S (cl_S B n (pt_S B n k 0)) (pl_S B n k + 1))) (te_S (nm_S B n (pt_S B n k 1)) (pl_S B n k + 2))) (te_S (fk_S B n (pt_S B n k 2) || (pi_S B n (pt_S B n k 2)).isSome) (pl_S B n k + 3)) else s) r) := by
    intro g s Tg Rg
    unfold qj_X13_checkConstant_33
    refine pc_rA ?_; intro i1 i2 x3 ex3
    have ex3 : x3 = tg_S B n k := by rw [ex3, Int.toNat_natCast, L Tg]; exact tk.symm
    refine pc_if (fun t4 => ?_) (fun t4 => pc_ret ⟨fq_r, ?_⟩)
    · have t4 : tg_S B n k = 4 := by omega
      have v4 := v4 (by omega)
      rw [if_pos t4]
      refine pc_add (by omega) ?_; intro x26 ex26
      refine pc_rA ?_; intro j1 j2 x27 ex27
      have ex27 : x27 = pt_S B n k 0 := by rw [ex27, L Tg]; unfold pt_S; congr 1; omega
      rw [ex27, Tg.1.1, r_of Tg, mx_svs]
      have bad : ¬ cl_S B n (pt_S B n k 0) = true → Pc (qj_X13_checkConstant_75 nn (pl_S B n k : Int) g) (fun r => FQp g r ∧ RSs (bd_S (bd_S (bd_S s (te_S (cl_S B n (pt_S B n k 0)) (pl_S B n k + 1))) (te_S (nm_S B n (pt_S B n k 1)) (pl_S B n k + 2))) (te_S (fk_S B n (pt_S B n k 2) || (pi_S B n (pt_S B n k 2)).isSome) (pl_S B n k + 3))) r) := fun y => by
        unfold qj_X13_checkConstant_75
        refine pc_add (by omega) ?_; intro x6 ex6
        rw [show x6 = ((pl_S B n k + 1 : Nat) : Int) by omega]
        refine r_unx Rg (fun r Fr Rr => ?_)
        refine pc_imp (r82 t4 (ttr_k Fr Tg) (s := bd_S s (te_S (cl_S B n (pt_S B n k 0)) (pl_S B n k + 1))) ?_) (fun z q => ⟨fq_t Fr q.1, q.2⟩)
        cases s with
        | inl e => exact Rr
        | inr q => rw [bd_r]; unfold te_S; rw [if_neg y]; exact Rr
      have good : cl_S B n (pt_S B n k 0) = true → Pc (qj_X13_checkConstant_82 nn (pl_S B n k : Int) g) (fun r => FQp g r ∧ RSs (bd_S (bd_S (bd_S s (te_S (cl_S B n (pt_S B n k 0)) (pl_S B n k + 1))) (te_S (nm_S B n (pt_S B n k 1)) (pl_S B n k + 2))) (te_S (fk_S B n (pt_S B n k 2) || (pi_S B n (pt_S B n k 2)).isSome) (pl_S B n k + 3))) r) := fun y => by
        refine r82 t4 Tg ?_
        cases s with
        | inl e => exact Rg
        | inr q => rw [bd_r]; unfold te_S; rw [if_pos y]; exact Rg
      by_cases q : 1 ≤ pt_S B n k 0 ∧ pt_S B n k 0 ≤ B 2
      · have te : tg_S B n (pt_S B n k 0) = B (pl_S B n (pt_S B n k 0)) := by unfold tg_S; rw [if_pos q]
        rw [if_pos q]
        refine pc_if (fun z => absurd z (by omega)) (fun _ => ?_)
        refine pc_rA ?_; intro k1 k2 x31 ex31
        have ex31 : x31 = tg_S B n (pt_S B n k 0) := by rw [ex31, Int.toNat_natCast, L Tg, te]
        refine pc_if (fun z => good (decide_eq_true (by omega))) (fun z => bad (fun y => z (by have : tg_S B n (pt_S B n k 0) = 3 := of_decide_eq_true y; omega)))
      · have te : tg_S B n (pt_S B n k 0) = 0 := by unfold tg_S; rw [if_neg q]
        rw [if_neg q]
        refine pc_if (fun _ => bad (fun y => by have : tg_S B n (pt_S B n k 0) = 3 := of_decide_eq_true y; omega)) (fun z => absurd (by decide) z)
    · rw [if_neg (by omega)]; exact Rg
  unfold qf_X13_checkConstant
  refine pc_rA ?_; intro i1 i2 x36 ex36
  have ex36 : x36 = tg_S B n k := by rw [ex36, Int.toNat_natCast, L T]; exact tk.symm
  have fin4 : ¬ tg_S B n k = 3 → ∀ r, RSs (if tg_S B n k = 4 then bd_S (bd_S (bd_S (.inr p) (te_S (cl_S B n (pt_S B n k 0)) (pl_S B n k + 1))) (te_S (nm_S B n (pt_S B n k 1)) (pl_S B n k + 2))) (te_S (fk_S B n (pt_S B n k 2) || (pi_S B n (pt_S B n k 2)).isSome) (pl_S B n k + 3)) else .inr p) r → RSs (match ck_S B n k with
      | some e => .inl e
      | none => .inr p) r := fun t3 r q2 => by
    unfold ck_S
    rw [if_neg t3]
    by_cases t4 : tg_S B n k = 4
    · rw [if_pos t4] at q2 ⊢
      rw [bd_r] at q2
      unfold te_S at q2
      by_cases y1 : cl_S B n (pt_S B n k 0) = true
      · rw [if_pos y1] at q2 ⊢
        rw [bd_r] at q2
        by_cases y2 : nm_S B n (pt_S B n k 1) = true
        · rw [if_pos y2] at q2 ⊢
          rw [bd_r] at q2
          by_cases y3 : (fk_S B n (pt_S B n k 2) || (pi_S B n (pt_S B n k 2)).isSome) = true
          · rw [if_pos y3] at q2 ⊢; exact q2
          · rw [if_neg y3] at q2 ⊢; exact q2
        · rw [if_neg y2] at q2 ⊢; exact q2
      · rw [if_neg y1] at q2 ⊢; exact q2
    · rw [if_neg t4] at q2 ⊢; exact q2
  refine pc_if (fun t3 => ?_) (fun t3 => ?_)
  · exact pc_imp (r33 (s := .inr p) T R) (fun r q => ⟨q.1, fin4 (by omega) r q.2⟩)
  · have t3 : tg_S B n k = 3 := by omega
    have v3 := v3 (by omega)
    refine pc_add (by omega) ?_; intro x38 ex38
    refine pc_rA ?_; intro j1 j2 x39 ex39
    have ex39 : x39 = pt_S B n k 0 := by rw [ex39, L T]; unfold pt_S; congr 1; omega
    rw [ex39, r_isText4 hn T, mx_svs]
    refine pc_if (fun y => ?_) (fun y => ?_)
    · refine pc_imp (r33 (s := .inr p) T R) (fun r q => ⟨q.1, ?_⟩)
      have q2 := q.2
      rw [if_neg (by omega)] at q2
      unfold ck_S
      rw [if_pos t3, if_pos (bi_t y)]; exact q2
    · refine pc_add (by omega) ?_; intro x42 ex42
      rw [show x42 = ((pl_S B n k + 1 : Nat) : Int) by omega]
      refine r_unx (s := .inr p) R (fun g Fg Rg => ?_)
      refine pc_imp (r33 (s := .inl (pl_S B n k + 1)) (ttr_k Fg T) Rg) (fun r q => ⟨fq_t Fg q.1, ?_⟩)
      have q2 := q.2
      rw [if_neg (by omega)] at q2
      unfold ck_S
      rw [if_pos t3, if_neg (bi_f (Decidable.not_not.1 y))]; exact q2
end
