/- THE REFERENCE SCANS AN IMAGE: a method -/
section
variable {nn : Nat} {M M1 M2 g : ms_M} {c : Int} {B : Nat → Int} {n : Nat} {s : Nat ⊕ Nat}
/-- FORM, and the places of handlers and frames of one method -/
def FWp (i : Nat) (M M2 : ms_M) : Prop := ∀ a j, ¬ (a = 160 ∧ j = 114) → ¬ ((a = 236 ∨ a = 237) ∧ j = i) → M2 a j = M a j
theorem fw_q {i : Nat} (A : FQp M M1) : FWp i M M1 := fun a j q _ => A a j q
theorem fw_t {i : Nat} (A : FWp i M M1) (C : FWp i M1 M2) : FWp i M M2 := fun a j q w => (C a j q w).trans (A a j q w)
theorem fw_r {i : Nat} : FWp i M M := fun _ _ _ _ => rfl
theorem ttr_z (F : ∀ a j, ¬ (a = 160 ∧ j = 114) → ¬ (230 ≤ a ∧ a ≤ 237) → M2 a j = M a j) (T : TTr c n B M) : TTr c n B M2 := by
  obtain ⟨t1, t2, t3, t4, t5⟩ := T
  exact ⟨er_k (F _ _ (by omega) (by omega)) (F _ _ (by omega) (by omega)) (fun i => F _ _ (by omega) (by omega)) (F _ _ (by omega) (by omega)) t1, by rw [F _ _ (by omega) (by omega)]; exact t2, t3, fun k a b => by rw [F _ _ (by omega) (by omega)]; exact t4 k a b, t5⟩
theorem ttr_w {i : Nat} (F : FWp i M M2) (T : TTr c n B M) : TTr c n B M2 := ttr_z (fun a j q w => F a j q (fun z => w (by omega))) T
theorem rs_k (e : M2 160 114 = M 160 114) (R : RSs s M) : RSs s M2 := by
  cases s with
  | inl x => exact e.trans R
  | inr x => exact e.trans R
theorem r_444 {l2 : Int} {p : Nat} (h2 : 0 ≤ l2 ∧ l2 ≤ 11) (T : TTr c n B M) (hp : p ≤ 6000) (R : RSs (.inr p) M) : Pc (qj_X13_scanMethod_444 nn c l2 (p : Int) M) (fun u => FWp (12 * c + l2).toNat M u.2 ∧ RSs (ff_S B n p) u.2 ∧ (∀ k, u.2 236 k = M 236 k) ∧ ∀ q, ff_S B n p = .inr q → u.1 = (q : Int) ∧ u.2 237 (12 * c + l2).toNat = (p : Int)) := by
  have n6 := T.1.2.2.2.1
  have hc := T.1.2.1
  unfold qj_X13_scanMethod_444
  refine r_by2 (K := fun g => some ((p : Int), g)) (t := up_T 0 100) T.1 R (fun q z => by cases z; rfl) (fun g Fg Rg W => ?_) (fun _ w => ?_)
  · refine pc_ret ⟨fw_q Fg, ?_, fun k => Fg _ _ (by omega), fun q z => ?_⟩
    · have e1 : by_S B n (up_T 0 100) p = .inl n := by unfold by_S; rw [if_neg (W p rfl)]
      unfold ff_S; rw [e1]
      rw [bd_r, e1] at Rg; exact Rg
    · have e1 : by_S B n (up_T 0 100) p = .inl n := by unfold by_S; rw [if_neg (W p rfl)]
      unfold ff_S at z; rw [e1] at z; cases z
  · have hB := T.1.2.2.2.2.2.2 p w
    show Pc (xl (oq_mul 12 c) _) _
    dsimp only
    refine pc_xl ?_; intro v17 e17
    rw [oq_mul_eq (by omega) (by omega) (by omega)] at e17
    refine pc_add (by omega) ?_; intro v18 e18
    show Pc (wr_A 96 237 v18 (p : Int) M _) _
    refine pc_wA ?_; intro i1 i2 h19 e19
    have F19 : FWp (12 * c + l2).toNat M h19 := fun a j q z => by rw [e19, up_n (by omega)]
    have T19 := ttr_w F19 T
    have R19 : RSs (.inr p) h19 := rs_k (by rw [e19, up_n (by omega)]) R
    refine pc_rA ?_; intro j1 j2 v21 e21
    rw [Int.toNat_natCast, T19.1.2.2.2.2.1] at e21
    refine pc_if (fun d => ?_) (fun d => ?_)
    · have e1 : by_S B n (up_T 0 100) p = .inr (p + 1) := by
        unfold by_S up_T
        rw [if_pos w, if_pos (by rw [Bool.and_eq_true, decide_eq_true_iff, decide_eq_true_iff]; omega)]
      have ef : ff_S B n p = fr_S B n (B p).toNat (p + 1) := by unfold ff_S; rw [e1]; rfl
      refine pc_add (by omega) ?_; intro v22 e22
      rw [ef, show v22 = ((p + 1 : Nat) : Int) by omega, e21]
      refine pc_imp (r_497 (B p).toNat nn (B p) 0 (p + 1) h19 (by omega) (by omega) T19 R19) (fun u q => ⟨fw_t F19 (fw_q q.1), q.2.1, fun k => ?_, fun x z => ⟨q.2.2 x z, ?_⟩⟩)
      · rw [q.1 _ _ (by omega), e19, up_n (by omega)]
      · rw [q.1 _ _ (by omega), e19, show v18.toNat = (12 * c + l2).toNat by omega, up_s]
    · have h3 : ¬ up_T 0 100 (B p) = true := fun z => by have := up_Tt z; omega
      have e1 : by_S B n (up_T 0 100) p = .inl p := by unfold by_S; rw [if_pos w, if_neg h3]
      have ef : ff_S B n p = .inl p := by unfold ff_S; rw [e1]; rfl
      rw [ef]
      refine r_unfit (t := up_T 0 100) (B := B) (n := n) R19 w h3 (fun g Fg Rg => ?_)
      rw [bd_r, e1] at Rg
      refine pc_xl (fun _ _ => pc_imp (r_497l (rs_l Rg)) (fun u q => ⟨by rw [q]; exact fw_t F19 (fw_q Fg), by rw [q]; exact Rg, fun k => by rw [q, Fg _ _ (by omega), e19, up_n (by omega)], fun x z => by cases z⟩))
/-- handlers, from i on, then frames -/
theorem r_381 {l2 : Int} (h2 : 0 ≤ l2 ∧ l2 ≤ 11) : ∀ (m f : Nat) (l8 i : Int) (p : Nat) (M : ms_M), (i + m = l8 ∧ 0 ≤ i ∧ l8 ≤ 255) → p ≤ n → TTr c n B M → RSs (.inr p) M → Pc (qw_X13_scanMethod_381 nn f c l2 (p : Int) l8 i M) (fun u => FWp (12 * c + l2).toNat M u.2 ∧ RSs (bd_S (hd_S B n m p) (ff_S B n)) u.2 ∧ (∀ k, u.2 236 k = M 236 k) ∧ ∀ x q, hd_S B n m p = .inr x → ff_S B n x = .inr q → u.1 = (q : Int) ∧ u.2 237 (12 * c + l2).toNat = (x : Int)) := by
  intro m
  induction m with
  | zero =>
    intro f l8 i p M hm hp T R
    have n6 := T.1.2.2.2.1
    cases f with
    | zero => exact pc_none
    | succ f =>
      unfold qw_X13_scanMethod_381
      refine pc_if (fun _ => ?_) (fun z => absurd (by omega) z)
      exact pc_imp (r_444 h2 T (by omega) R) (fun u q => ⟨q.1, q.2.1, q.2.2.1, fun x y z1 z2 => by unfold hd_S at z1; cases z1; exact q.2.2.2 y z2⟩)
  | succ m ih =>
    intro f l8 i p M hm hp T R
    have n6 := T.1.2.2.2.1
    cases f with
    | zero => exact pc_none
    | succ f =>
      have et : hd_S B n (m + 1) p = bd_S (bd_S (sk_S n 6 p) (by_S B n (cl_S B n))) (hd_S B n m) := rfl
      have out : ∀ {e : Nat} {g : ms_M} {l4 l8 l9 : Int} {f : Nat}, FQp M g → RSs (.inl e) g → bd_S (sk_S n 6 p) (by_S B n (cl_S B n)) = .inl e → Pc (qw_X13_scanMethod_381 nn f c l2 l4 l8 l9 g) (fun u => FWp (12 * c + l2).toNat M u.2 ∧ RSs (bd_S (hd_S B n (m + 1) p) (ff_S B n)) u.2 ∧ (∀ k, u.2 236 k = M 236 k) ∧ ∀ x q, hd_S B n (m + 1) p = .inr x → ff_S B n x = .inr q → u.1 = (q : Int) ∧ u.2 237 (12 * c + l2).toNat = (x : Int)) := by
        intro e g l4 l8 l9 f Fg Rg hz
        rw [et, hz]
        exact pc_imp (r_381l (rs_l Rg)) (fun u q => ⟨by rw [q]; exact fw_q Fg, by rw [q]; exact Rg, fun k => by rw [q]; exact Fg _ _ (by omega), fun x y z1 z2 => by cases z1⟩)
      unfold qw_X13_scanMethod_381
      refine pc_if (fun z => absurd z (by omega)) (fun _ => pc_if (fun z => absurd R z) (fun _ => ?_))
      refine pc_add (by omega) ?_; intro v29 e29
      rw [show v29 = ((p + 6 : Nat) : Int) by omega]
      rcases r_isB (nn := nn) T.1 (x := p + 6) with ⟨a, e⟩ | ⟨a, w, e⟩ | ⟨a, w, e⟩
      · exact absurd R a
      · have hB := T.1.2.2.2.2.2.2 (p + 6) w
        have e6 : sk_S n 6 p = .inr (p + 6) := by unfold sk_S; rw [if_pos (by omega)]
        rw [e, mx_svs]
        dsimp only
        refine pc_if (fun z => absurd z (by decide)) (fun _ => ?_)
        refine pc_add (by omega) ?_; intro v35 e35
        refine pc_rA ?_; intro i1 i2 v36 e36
        have e36 : v36 = B (p + 6) := by
          rw [e36, show v35.toNat = p + 6 by omega]; exact T.1.2.2.2.2.1 _
        refine pc_sv (r_class1 T) ?_; intro u38 q38
        rw [e36] at q38
        refine pc_if (fun y => ?_) (fun y => ?_)
        · refine pc_add (by omega) ?_; intro v39 e39
          refine pc_add (by omega) ?_; intro v40 e40
          have e7 : by_S B n (cl_S B n) (p + 6) = .inr (p + 6 + 1) := by unfold by_S; rw [if_pos w, if_pos (bi_t (by rw [← q38]; exact y))]
          rw [et, e6, bd_r, e7, bd_r, show v39 = ((p + 6 + 1 : Nat) : Int) by omega]
          exact ih f l8 v40 (p + 6 + 1) M (by omega) (by omega) T R
        · refine pc_add (by omega) ?_; intro v41 e41
          rw [show v41 = ((p + 6 : Nat) : Int) by omega]
          have no := bi_f (x := cl_S B n (B (p + 6))) (by rw [← q38]; exact Decidable.not_not.1 y)
          have e7 : by_S B n (cl_S B n) (p + 6) = .inl (p + 6) := by unfold by_S; rw [if_pos w, if_neg no]
          refine r_unfit (t := cl_S B n) (p := p + 6) (B := B) (n := n) R w no (fun g Fg Rg => ?_)
          rw [bd_r, e7] at Rg
          exact pc_xl (fun _ _ => pc_xl (fun _ _ => out Fg Rg (by rw [e6, bd_r, e7])))
      · have e6 : bd_S (sk_S n 6 p) (by_S B n (cl_S B n)) = .inl n := by
          unfold sk_S
          by_cases q : p + 6 ≤ n
          · rw [if_pos q, bd_r]; unfold by_S; rw [if_neg w]
          · rw [if_neg q]; rfl
        rw [e, mx_svs]
        dsimp only
        refine pc_if (fun _ => ?_) (fun z => absurd rfl z)
        exact pc_xl (fun _ _ => pc_xl (fun _ _ => out (e := n) fq_u up_s e6))
theorem r_328 {l2 : Int} {p : Nat} (h2 : 0 ≤ l2 ∧ l2 ≤ 11) (T : TTr c n B M) (hp : p ≤ 6000) (R : RSs (.inr p) M) : Pc (qj_X13_scanMethod_328 nn c l2 (p : Int) M) (fun u => FWp (12 * c + l2).toNat M u.2 ∧ RSs (bd_S (hs_S B n p) (ff_S B n)) u.2 ∧ ∀ x q, hs_S B n p = .inr x → ff_S B n x = .inr q → u.1 = (q : Int) ∧ u.2 236 (12 * c + l2).toNat = (p : Int) ∧ u.2 237 (12 * c + l2).toNat = (x : Int)) := by
  have n6 := T.1.2.2.2.1
  have hc := T.1.2.1
  unfold qj_X13_scanMethod_328
  refine r_by2 (K := fun g => some ((p : Int), g)) (t := up_T 0 20) T.1 R (fun q z => by cases z; rfl) (fun g Fg Rg W => ?_) (fun _ w => ?_)
  · refine pc_ret ⟨fw_q Fg, ?_, fun x q z => ?_⟩
    · have e1 : by_S B n (up_T 0 20) p = .inl n := by unfold by_S; rw [if_neg (W p rfl)]
      unfold hs_S; rw [e1]
      rw [bd_r, e1] at Rg; exact Rg
    · have e1 : by_S B n (up_T 0 20) p = .inl n := by unfold by_S; rw [if_neg (W p rfl)]
      unfold hs_S at z; rw [e1] at z; cases z
  · have hB := T.1.2.2.2.2.2.2 p w
    show Pc (xl (oq_mul 12 c) _) _
    dsimp only
    refine pc_xl ?_; intro v17 e17
    rw [oq_mul_eq (by omega) (by omega) (by omega)] at e17
    refine pc_add (by omega) ?_; intro v18 e18
    show Pc (wr_A 96 236 v18 (p : Int) M _) _
    refine pc_wA ?_; intro i1 i2 h19 e19
    have F19 : FWp (12 * c + l2).toNat M h19 := fun a j q z => by rw [e19, up_n (by omega)]
    have T19 := ttr_w F19 T
    have R19 : RSs (.inr p) h19 := rs_k (by rw [e19, up_n (by omega)]) R
    refine pc_rA ?_; intro j1 j2 v21 e21
    rw [Int.toNat_natCast, T19.1.2.2.2.2.1] at e21
    refine pc_if (fun d => ?_) (fun d => ?_)
    · have e1 : by_S B n (up_T 0 20) p = .inr (p + 1) := by
        unfold by_S up_T
        rw [if_pos w, if_pos (by rw [Bool.and_eq_true, decide_eq_true_iff, decide_eq_true_iff]; omega)]
      have ef : hs_S B n p = hd_S B n (B p).toNat (p + 1) := by unfold hs_S; rw [e1]; rfl
      refine pc_add (by omega) ?_; intro v22 e22
      rw [ef, show v22 = ((p + 1 : Nat) : Int) by omega, e21]
      refine pc_imp (r_381 h2 (B p).toNat nn (B p) 0 (p + 1) h19 (by omega) (by omega) T19 R19) (fun u q => ⟨fw_t F19 q.1, q.2.1, fun x y z1 z2 => ?_⟩)
      obtain ⟨r1, r2⟩ := q.2.2.2 x y z1 z2
      refine ⟨r1, ?_, r2⟩
      rw [q.2.2.1, e19, show v18.toNat = (12 * c + l2).toNat by omega, up_s]
    · have h3 : ¬ up_T 0 20 (B p) = true := fun z => by have := up_Tt z; omega
      have e1 : by_S B n (up_T 0 20) p = .inl p := by unfold by_S; rw [if_pos w, if_neg h3]
      have ef : hs_S B n p = .inl p := by unfold hs_S; rw [e1]; rfl
      rw [ef]
      refine r_unfit (t := up_T 0 20) (B := B) (n := n) R19 w h3 (fun g Fg Rg => ?_)
      rw [bd_r, e1] at Rg
      exact pc_xl (fun _ _ => pc_imp (r_381l (rs_l Rg)) (fun u q => ⟨by rw [q]; exact fw_t F19 (fw_q Fg), by rw [q]; exact Rg, fun x y z => by cases z⟩))
/-- what a method's scan leaves, from a place on -/
def RMs (c l2 : Int) (n : Nat) (B : Nat → Int) (sc : Nat ⊕ Nat) (M : ms_M) : Int × ms_M → Prop := fun u => FWp (12 * c + l2).toNat M u.2 ∧ RSs (bd_S (bd_S sc (hs_S B n)) (ff_S B n)) u.2 ∧ ∀ h x q, sc = .inr h → hs_S B n h = .inr x → ff_S B n x = .inr q → u.1 = (q : Int) ∧ u.2 236 (12 * c + l2).toNat = (h : Int) ∧ u.2 237 (12 * c + l2).toNat = (x : Int)
theorem rm_l {l2 : Int} {e : Nat} {g : ms_M} {u : Int × ms_M} (F : FQp M g) (R : RSs (.inl e) g) (q : u.2 = g) : RMs c l2 n B (.inl e) M u := ⟨by rw [q]; exact fw_q F, by rw [q]; exact R, fun h x y z => nomatch z⟩
theorem rm_t {l2 : Int} {sc : Nat ⊕ Nat} {u : Int × ms_M} (F : FQp M M1) (q : RMs c l2 n B sc M1 u) : RMs c l2 n B sc M u := ⟨fw_t (fw_q F) q.1, q.2⟩
theorem r_232 {l2 : Int} {p : Nat} (h2 : 0 ≤ l2 ∧ l2 ≤ 11) (T : TTr c n B M) (hp : p + 5 ≤ n) (R : RSs (.inr p) M) : Pc (qj_X13_scanMethod_232 nn c l2 (p : Int) M) (RMs c l2 n B (co_S B n (p + 5)) M) := by
  have n6 := T.1.2.2.2.1
  unfold qj_X13_scanMethod_232
  refine pc_add (by omega) ?_; intro v75 e75
  rw [show v75 = ((p + 5 : Nat) : Int) by omega]
  refine r_by2 (p := p + 5) (K := fun g => some ((p : Int), g)) (t := fun _ => true) (s := .inr (p + 5)) T.1 R (fun q z => by cases z; rfl) (fun g Fg Rg W => pc_ret ?_) (fun _ w => ?_)
  · have e1 : co_S B n (p + 5) = .inl n := by unfold co_S sk_S; rw [if_neg (by have := W _ rfl; omega)]; rfl
    rw [bd_r, ← nx_by] at Rg
    unfold nx_S at Rg
    rw [if_neg (W _ rfl)] at Rg
    rw [e1]; exact rm_l Fg Rg rfl
  show Pc (xl (oq_add (p : Int) 6) _) _
  dsimp only
  refine pc_add (by omega) ?_; intro v78 e78
  rw [show v78 = ((p + 6 : Nat) : Int) by omega]
  show Pc (mx_sv (qf_X13_isByte nn ((p + 6 : Nat) : Int) M) _) _
  try dsimp only
  refine r_by2 (p := p + 6) (K := fun g => some ((p : Int), g)) (t := fun _ => true) (s := .inr (p + 6)) T.1 R (fun q z => by cases z; rfl) (fun g Fg Rg W => pc_ret ?_) (fun _ w6 => ?_)
  · have e1 : co_S B n (p + 5) = .inl n := by unfold co_S sk_S; rw [if_neg (by have := W _ rfl; omega)]; rfl
    rw [bd_r, ← nx_by] at Rg
    unfold nx_S at Rg
    rw [if_neg (W _ rfl)] at Rg
    rw [e1]; exact rm_l Fg Rg rfl
  show Pc (xl (oq_add (p : Int) 5) _) _
  dsimp only
  have h5 := T.1.2.2.2.2.2.2 (p + 5) w
  have h6 := T.1.2.2.2.2.2.2 (p + 6) w6
  refine pc_add (by omega) ?_; intro v81 e81
  refine pc_sv (P := fun u => u = ln_N B (p + 5)) ?_ ?_
  · unfold qf_X13_pairAt
    refine pc_rA ?_; intro i1 i2 v2 e2
    refine pc_xl ?_; intro v3 e3
    refine pc_add (by omega) ?_; intro v5 e5
    refine pc_rA ?_; intro j1 j2 v6 e6
    refine pc_xl ?_; intro v7 e7
    refine pc_ret ?_
    show v7 = _
    rw [e7, e3, e2, e6]
    unfold ln_N
    rw [show v81.toNat = p + 5 by omega, show v5.toNat = p + 5 + 1 by omega]
    show oq_or (oq_shl (M 238 _) 8) (M 238 _) = _
    rw [T.1.2.2.2.2.1, T.1.2.2.2.2.1]
  intro u83 q83
  have lr : 0 ≤ ln_N B (p + 5) ∧ ln_N B (p + 5) ≤ 65535 := by
    unfold ln_N
    rw [oq_shl_8 h5]
    have e56 : B (p + 5 + 1) = B (p + 6) := rfl
    exact oq_or_rg (by omega) (by omega)
  have e2 : sk_S n 2 (p + 5) = .inr (p + 5 + 2) := by unfold sk_S; rw [if_pos (by omega)]
  have bad : (u83 < 1 ∨ 1500 < u83) → Pc (qj_X13_scanMethod_285 nn c l2 (p : Int) u83 M) (RMs c l2 n B (co_S B n (p + 5)) M) := fun z => by
    have e1 : co_S B n (p + 5) = .inl (p + 5) := by unfold co_S; rw [e2, bd_r, if_pos (by omega)]
    rw [e1]
    unfold qj_X13_scanMethod_285
    refine pc_add (by omega) ?_; intro v72 e72
    rw [show v72 = ((p + 5 : Nat) : Int) by omega]
    exact r_unx (s := .inr (p + 5)) R (fun g Fg Rg => pc_imp (r_293l (rs_l Rg)) (fun u q => rm_l Fg Rg q))
  refine pc_if (fun z => bad (.inl z)) (fun z1 => pc_if (fun z2 => ?_) (fun z2 => bad (.inr (by omega))))
  show Pc (qj_X13_scanMethod_293 nn c l2 (p : Int) u83 M) _
  unfold qj_X13_scanMethod_293
  refine pc_add (by omega) ?_; intro v64 e64
  refine pc_add (by omega) ?_; intro v65 e65
  refine pc_if (fun z => absurd R z) (fun _ => ?_)
  rw [T.1.2.2.1]
  refine pc_if (fun z => ?_) (fun z => ?_)
  · have e1 : co_S B n (p + 5) = .inr (p + 7 + (ln_N B (p + 5)).toNat) := by
      unfold co_S
      rw [e2, bd_r, if_neg (by omega), if_pos (by omega)]
    rw [e1, show v65 = ((p + 7 + (ln_N B (p + 5)).toNat : Nat) : Int) by omega]
    refine pc_imp (r_328 h2 T (by omega) R) (fun u q => ⟨q.1, q.2.1, fun h x y z1 z2 z3 => ?_⟩)
    cases z1
    exact q.2.2 x y z2 z3
  · have e1 : co_S B n (p + 5) = .inl n := by
      unfold co_S
      rw [e2, bd_r, if_neg (by omega), if_neg (by omega)]
    rw [e1]
    refine pc_xl ?_; intro h69 e69
    have R69 : RSs (.inl n) h69 := by rw [e69]; exact up_s
    exact pc_imp (r_328l (rs_l R69)) (fun u q => rm_l (by rw [e69]; exact fq_u) R69 q)
theorem r_134 (hn : 1000000 ≤ nn) {l2 : Int} {p : Nat} (h2 : 0 ≤ l2 ∧ l2 ≤ 11) (T : TTr c n B M) (hp : p + 4 ≤ n) (H : (0 ≤ B p ∧ B p ≤ 1) ∧ (pi_S B n (B (p + 2))).isSome = true) (R : RSs (.inr p) M) : Pc (qj_X13_scanMethod_134 nn c l2 (p : Int) M) (RMs c l2 n B (bd_S (by_S B n (up_T (le_S B n p) 30) (p + 4)) (co_S B n)) M) := by
  have n6 := T.1.2.2.2.1
  unfold qj_X13_scanMethod_134
  refine pc_add (by omega) ?_; intro v91 e91
  rw [show v91 = ((p + 4 : Nat) : Int) by omega]
  refine r_by2 (p := p + 4) (K := fun g => some ((p : Int), g)) (t := fun _ => true) (s := .inr (p + 4)) T.1 R (fun q z => by cases z; rfl) (fun g Fg Rg W => pc_ret ?_) (fun _ w => ?_)
  · have e1 : by_S B n (up_T (le_S B n p) 30) (p + 4) = .inl n := by unfold by_S; rw [if_neg (W _ rfl)]
    rw [bd_r, ← nx_by] at Rg
    unfold nx_S at Rg
    rw [if_neg (W _ rfl)] at Rg
    rw [e1]; exact rm_l Fg Rg rfl
  have hk := T.1.2.2.2.2.2.2 (p + 2) (by omega)
  have h4 := T.1.2.2.2.2.2.2 (p + 4) w
  have tx : tg_S B n (B (p + 2)) = 1 := by
    by_cases z : tg_S B n (B (p + 2)) = 1
    · exact z
    · have := H.2; unfold pi_S at this; rw [if_neg z] at this; cases this
  obtain ⟨k1, k2, k3⟩ := tg_in (B := B) (n := n) (k := B (p + 2)) (by omega)
  obtain ⟨y1, y2, -⟩ := T.2.2.2.2 _ k1 k2
  have y2 := y2 (by omega)
  show Pc (xl (oq_add (p : Int) 2) _) _
  dsimp only
  refine pc_add (by omega) ?_; intro v95 e95
  refine pc_rA ?_; intro i1 i2 v96 e96
  have e96 : v96 = B (p + 2) := by rw [e96, show v95.toNat = p + 2 by omega]; exact T.1.2.2.2.2.1 _
  rw [e96, r_of T, mx_svs, if_pos ⟨k1, k2⟩]
  refine pc_add (by omega) ?_; intro v100 e100
  refine pc_add (by omega) ?_; intro v102 e102
  refine pc_rA ?_; intro j1 j2 v103 e103
  have e103 : v103 = (tl_S B n (B (p + 2)) : Int) := by
    rw [e103, show v102.toNat = pl_S B n (B (p + 2)) + 1 by omega]
    exact (T.1.2.2.2.2.1 _).trans y2.2.2.2
  have pm := params_M (nn := nn) (by omega) (M := M) (c := 238) T.1.2.2.2.2.2.1 rfl (a := pl_S B n (B (p + 2)) + 2) (m := tl_S B n (B (p + 2))) (by rw [l_238]; omega) (by omega)
  rw [er_238 T.1] at pm
  rw [e103, show v100 = ((pl_S B n (B (p + 2)) + 2 : Nat) : Int) by omega]
  show Pc (mx_sv (qf_X13_parametersIn nn 238 _ _ M) _) _
  rw [pm, mx_svs]
  have pe : ∃ m, pi_N B (pl_S B n (B (p + 2)) + 2) (pl_S B n (B (p + 2)) + 2 + tl_S B n (B (p + 2))) = some m ∧ m ≤ 6 ∧ pi_S B n (B (p + 2)) = some m := by
    have h := H.2
    unfold pi_S at h ⊢
    rw [if_pos tx] at h ⊢
    cases z : pi_N B (pl_S B n (B (p + 2)) + 2) (pl_S B n (B (p + 2)) + 2 + tl_S B n (B (p + 2))) with
    | none => rw [z] at h; cases h
    | some m =>
      rw [z] at h
      unfold up_6 at h ⊢
      dsimp only at h ⊢
      by_cases w6 : m ≤ 6
      · exact ⟨m, rfl, w6, if_pos w6⟩
      · rw [if_neg w6] at h; cases h
  obtain ⟨m, m1, m2, m3⟩ := pe
  rw [m1]
  show Pc (xl (oq_add (m : Int) 1) _) _
  refine pc_add (by omega) ?_; intro v105 e105
  refine pc_rA ?_; intro k1 k2 v107 e107
  have e107 : v107 = B p := by rw [e107]; exact T.1.2.2.2.2.1 _
  refine pc_sub (by omega) ?_; intro v108 e108
  have el : v108 = le_S B n p := by
    unfold le_S; rw [m3]; show v108 = (m : Int) + 1 - B p; omega
  refine pc_add (by omega) ?_; intro v110 e110
  refine pc_rA ?_; intro l1 l3 v111 e111
  have e111 : v111 = B (p + 4) := by rw [e111, show v110.toNat = p + 4 by omega]; exact T.1.2.2.2.2.1 _
  have bad : ¬ up_T (le_S B n p) 30 (B (p + 4)) = true → Pc (qj_X13_scanMethod_224 nn c l2 (p : Int) M) (RMs c l2 n B (bd_S (by_S B n (up_T (le_S B n p) 30) (p + 4)) (co_S B n)) M) := fun z => by
    have e1 : by_S B n (up_T (le_S B n p) 30) (p + 4) = .inl (p + 4) := by unfold by_S; rw [if_pos w, if_neg z]
    rw [e1]
    unfold qj_X13_scanMethod_224
    refine pc_add (by omega) ?_; intro v88 e88
    rw [show v88 = ((p + 4 : Nat) : Int) by omega]
    exact r_unx (s := .inr (p + 4)) R (fun g Fg Rg => pc_imp (r_232l (rs_l Rg)) (fun u q => rm_l Fg Rg q))
  refine pc_if (fun z => bad (fun y => by have := up_Tt y; omega)) (fun z => ?_)
  refine pc_add (by omega) ?_; intro v113 e113
  refine pc_rA ?_; intro o1 o2 v114 e114
  have e114 : v114 = B (p + 4) := by rw [e114, show v113.toNat = p + 4 by omega]; exact T.1.2.2.2.2.1 _
  refine pc_if (fun y => ?_) (fun y => bad (fun x => by have := up_Tt x; omega))
  have e1 : by_S B n (up_T (le_S B n p) 30) (p + 4) = .inr (p + 4 + 1) := by
    unfold by_S up_T
    rw [if_pos w, if_pos (by rw [Bool.and_eq_true, decide_eq_true_iff, decide_eq_true_iff]; omega)]
  rw [e1, bd_r]
  exact r_232 h2 T (by omega) R
/-- the head of a method, byte by byte -/
theorem r_101 (hn : 1000000 ≤ nn) {l2 : Int} {p : Nat} (h2 : 0 ≤ l2 ∧ l2 ≤ 11) (T : TTr c n B M) (hp : p + 3 ≤ n) (H : (0 ≤ B p ∧ B p ≤ 1) ∧ (pi_S B n (B (p + 2))).isSome = true) (R : RSs (.inr p) M) : Pc (qj_X13_scanMethod_101 nn c l2 (p : Int) M) (RMs c l2 n B (bd_S (bd_S (by_S B n (up_T 0 30) (p + 3)) (by_S B n (up_T (le_S B n p) 30))) (co_S B n)) M) := by
  have n6 := T.1.2.2.2.1
  unfold qj_X13_scanMethod_101
  refine pc_add (by omega) ?_; intro v118 e118
  rw [show v118 = ((p + 3 : Nat) : Int) by omega]
  rcases r_isB (nn := nn) T.1 (x := p + 3) with ⟨a, e⟩ | ⟨a, w, e⟩ | ⟨a, w, e⟩
  · exact absurd R a
  · have h3 := T.1.2.2.2.2.2.2 (p + 3) w
    rw [e, mx_svs]
    dsimp only
    refine pc_if (fun z => absurd z (by decide)) (fun _ => ?_)
    refine pc_add (by omega) ?_; intro v122 e122
    refine pc_rA ?_; intro i1 i2 v123 e123
    have e123 : v123 = B (p + 3) := by rw [e123, show v122.toNat = p + 3 by omega]; exact T.1.2.2.2.2.1 _
    refine pc_if (fun y => ?_) (fun y => ?_)
    · have e1 : by_S B n (up_T 0 30) (p + 3) = .inr (p + 3 + 1) := by
        unfold by_S up_T
        rw [if_pos w, if_pos (by rw [Bool.and_eq_true, decide_eq_true_iff, decide_eq_true_iff]; omega)]
      rw [e1, bd_r]
      exact r_134 hn h2 T (by omega) H R
    · have no : ¬ up_T 0 30 (B (p + 3)) = true := fun z => by have := up_Tt z; omega
      have e1 : by_S B n (up_T 0 30) (p + 3) = .inl (p + 3) := by unfold by_S; rw [if_pos w, if_neg no]
      rw [e1]
      refine pc_add (by omega) ?_; intro v124 e124
      rw [show v124 = ((p + 3 : Nat) : Int) by omega]
      exact r_unx (s := .inr (p + 3)) R (fun g Fg Rg => pc_imp (r_134l (rs_l Rg)) (fun u q => rm_l Fg Rg q))
  · have e1 : by_S B n (up_T 0 30) (p + 3) = .inl n := by unfold by_S; rw [if_neg w]
    rw [e, mx_svs, e1]
    dsimp only
    refine pc_if (fun _ => ?_) (fun z => absurd rfl z)
    have Rg : RSs (.inl n) (up_M M 160 114 (n : Int)) := up_s
    exact pc_imp (r_134l (rs_l Rg)) (fun u q => rm_l fq_u Rg q)
theorem r_101l (h : ¬ M 160 114 = -1) {l1 l2 l4 : Int} : Pc (qj_X13_scanMethod_101 nn l1 l2 l4 M) (fun u => u.2 = M) := by
  unfold qj_X13_scanMethod_101
  refine pc_xl (fun _ _ => ?_)
  rw [r_isBl h, mx_svs]
  exact pc_if (fun _ => r_134l h) (fun z => absurd rfl z)
theorem r_65l (h : ¬ M 160 114 = -1) {l1 l2 l4 : Int} : Pc (qj_X13_scanMethod_65 nn l1 l2 l4 M) (fun u => u.2 = M) := by
  unfold qj_X13_scanMethod_65
  refine pc_xl (fun _ _ => ?_)
  rw [r_isBl h, mx_svs]
  exact pc_if (fun _ => r_101l h) (fun z => absurd rfl z)
theorem r_29l (h : ¬ M 160 114 = -1) {l1 l2 l4 : Int} : Pc (qj_X13_scanMethod_29 nn l1 l2 l4 M) (fun u => u.2 = M) := by
  unfold qj_X13_scanMethod_29
  refine pc_xl (fun _ _ => ?_)
  rw [r_isBl h, mx_svs]
  exact pc_if (fun _ => r_65l h) (fun z => absurd rfl z)
theorem r_65 (hn : 1000000 ≤ nn) {l2 : Int} {p : Nat} (h2 : 0 ≤ l2 ∧ l2 ≤ 11) (T : TTr c n B M) (hp : p + 2 ≤ n) (H : 0 ≤ B p ∧ B p ≤ 1) (R : RSs (.inr p) M) : Pc (qj_X13_scanMethod_65 nn c l2 (p : Int) M) (RMs c l2 n B (bd_S (bd_S (bd_S (by_S B n (fun k => (pi_S B n k).isSome) (p + 2)) (by_S B n (up_T 0 30))) (by_S B n (up_T (le_S B n p) 30))) (co_S B n)) M) := by
  have n6 := T.1.2.2.2.1
  unfold qj_X13_scanMethod_65
  refine pc_add (by omega) ?_; intro v118 e118
  rw [show v118 = ((p + 2 : Nat) : Int) by omega]
  rcases r_isB (nn := nn) T.1 (x := p + 2) with ⟨a, e⟩ | ⟨a, w, e⟩ | ⟨a, w, e⟩
  · exact absurd R a
  · rw [e, mx_svs]
    dsimp only
    refine pc_if (fun z => absurd z (by decide)) (fun _ => ?_)
    refine pc_add (by omega) ?_; intro v122 e122
    refine pc_rA ?_; intro i1 i2 v123 e123
    have e123 : v123 = B (p + 2) := by rw [e123, show v122.toNat = p + 2 by omega]; exact T.1.2.2.2.2.1 _
    rw [e123]
    show Pc (mx_sv (qf_X13_isText nn (B (p + 2)) 2 M) _) _
    rw [r_isText2 hn T, mx_svs]
    refine pc_if (fun y => ?_) (fun y => ?_)
    · have e1 : by_S B n (fun k => (pi_S B n k).isSome) (p + 2) = .inr (p + 2 + 1) := by
        unfold by_S
        rw [if_pos w, if_pos (bi_t y)]
      rw [e1, bd_r]
      exact r_101 hn h2 T (by omega) ⟨H, bi_t y⟩ R
    · have no := bi_f (Decidable.not_not.1 y)
      have e1 : by_S B n (fun k => (pi_S B n k).isSome) (p + 2) = .inl (p + 2) := by unfold by_S; rw [if_pos w, if_neg no]
      rw [e1]
      refine pc_add (by omega) ?_; intro v124 e124
      rw [show v124 = ((p + 2 : Nat) : Int) by omega]
      exact r_unx (s := .inr (p + 2)) R (fun g Fg Rg => pc_imp (r_101l (rs_l Rg)) (fun u q => rm_l Fg Rg q))
  · have e1 : by_S B n (fun k => (pi_S B n k).isSome) (p + 2) = .inl n := by unfold by_S; rw [if_neg w]
    rw [e, mx_svs, e1]
    dsimp only
    refine pc_if (fun _ => ?_) (fun z => absurd rfl z)
    have Rg : RSs (.inl n) (up_M M 160 114 (n : Int)) := up_s
    exact pc_imp (r_101l (rs_l Rg)) (fun u q => rm_l fq_u Rg q)
theorem r_29 (hn : 1000000 ≤ nn) {l2 : Int} {p : Nat} (h2 : 0 ≤ l2 ∧ l2 ≤ 11) (T : TTr c n B M) (hp : p + 1 ≤ n) (H : 0 ≤ B p ∧ B p ≤ 1) (R : RSs (.inr p) M) : Pc (qj_X13_scanMethod_29 nn c l2 (p : Int) M) (RMs c l2 n B (bd_S (bd_S (bd_S (bd_S (by_S B n (nm_S B n) (p + 1)) (by_S B n (fun k => (pi_S B n k).isSome))) (by_S B n (up_T 0 30))) (by_S B n (up_T (le_S B n p) 30))) (co_S B n)) M) := by
  have n6 := T.1.2.2.2.1
  unfold qj_X13_scanMethod_29
  refine pc_add (by omega) ?_; intro v118 e118
  rw [show v118 = ((p + 1 : Nat) : Int) by omega]
  rcases r_isB (nn := nn) T.1 (x := p + 1) with ⟨a, e⟩ | ⟨a, w, e⟩ | ⟨a, w, e⟩
  · exact absurd R a
  · rw [e, mx_svs]
    dsimp only
    refine pc_if (fun z => absurd z (by decide)) (fun _ => ?_)
    refine pc_add (by omega) ?_; intro v122 e122
    refine pc_rA ?_; intro i1 i2 v123 e123
    have e123 : v123 = B (p + 1) := by rw [e123, show v122.toNat = p + 1 by omega]; exact T.1.2.2.2.2.1 _
    rw [e123]
    show Pc (mx_sv (qf_X13_isText nn (B (p + 1)) 0 M) _) _
    rw [r_isText0 hn T, mx_svs]
    refine pc_if (fun y => ?_) (fun y => ?_)
    · have e1 : by_S B n (nm_S B n) (p + 1) = .inr (p + 1 + 1) := by
        unfold by_S
        rw [if_pos w, if_pos (bi_t y)]
      rw [e1, bd_r]
      exact r_65 hn h2 T (by omega) H R
    · have no := bi_f (Decidable.not_not.1 y)
      have e1 : by_S B n (nm_S B n) (p + 1) = .inl (p + 1) := by unfold by_S; rw [if_pos w, if_neg no]
      rw [e1]
      refine pc_add (by omega) ?_; intro v124 e124
      rw [show v124 = ((p + 1 : Nat) : Int) by omega]
      exact r_unx (s := .inr (p + 1)) R (fun g Fg Rg => pc_imp (r_65l (rs_l Rg)) (fun u q => rm_l Fg Rg q))
  · have e1 : by_S B n (nm_S B n) (p + 1) = .inl n := by unfold by_S; rw [if_neg w]
    rw [e, mx_svs, e1]
    dsimp only
    refine pc_if (fun _ => ?_) (fun z => absurd rfl z)
    have Rg : RSs (.inl n) (up_M M 160 114 (n : Int)) := up_s
    exact pc_imp (r_65l (rs_l Rg)) (fun u q => rm_l fq_u Rg q)
theorem r_method (hn : 1000000 ≤ nn) {l2 : Int} {p : Nat} (h2 : 0 ≤ l2 ∧ l2 ≤ 11) (T : TTr c n B M) (hp : p ≤ n) (R : RSs (.inr p) M) : Pc (qf_X13_scanMethod nn c l2 (p : Int) M) (RMs c l2 n B (bd_S (mh_S B n p) (co_S B n)) M) := by
  have n6 := T.1.2.2.2.1
  unfold qf_X13_scanMethod mh_S
  rcases r_isB (nn := nn) T.1 (x := p) with ⟨a, e⟩ | ⟨a, w, e⟩ | ⟨a, w, e⟩
  · exact absurd R a
  · have hB := T.1.2.2.2.2.2.2 p w
    rw [e, mx_svs]
    dsimp only
    refine pc_if (fun z => absurd z (by decide)) (fun _ => ?_)
    refine pc_rA ?_; intro i1 i2 v123 e123
    have e123 : v123 = B p := by rw [e123]; exact T.1.2.2.2.2.1 _
    refine pc_if (fun y => ?_) (fun y => ?_)
    · have e1 : by_S B n (up_T 0 1) p = .inr (p + 1) := by
        unfold by_S up_T
        rw [if_pos w, if_pos (by rw [Bool.and_eq_true, decide_eq_true_iff, decide_eq_true_iff]; omega)]
      rw [e1, bd_r]
      exact r_29 hn h2 T (by omega) (by omega) R
    · have no : ¬ up_T 0 1 (B p) = true := fun z => by have := up_Tt z; omega
      have e1 : by_S B n (up_T 0 1) p = .inl p := by unfold by_S; rw [if_pos w, if_neg no]
      rw [e1]
      exact r_unx (s := .inr p) R (fun g Fg Rg => pc_imp (r_29l (rs_l Rg)) (fun u q => rm_l Fg Rg q))
  · have e1 : by_S B n (up_T 0 1) p = .inl n := by unfold by_S; rw [if_neg w]
    rw [e, mx_svs, e1]
    dsimp only
    refine pc_if (fun _ => ?_) (fun z => absurd rfl z)
    have Rg : RSs (.inl n) (up_M M 160 114 (n : Int)) := up_s
    exact pc_imp (r_29l (rs_l Rg)) (fun u q => rm_l fq_u Rg q)
end
