/- lists of types, frames -/
section
variable {nn : Nat} {M M1 M2 g : ms_M} {c : Int} {B : Nat → Int} {n : Nat} {s : Nat ⊕ Nat}
theorem r_ts {p : Nat} (hp : p ≤ 6000) (T : TTr c n B M) (R : RSs (.inr p) M) : Pc (qf_X13_scanTypes nn (p : Int) M) (fun u => FQp M u.2 ∧ RSs (ts_S B n p) u.2 ∧ ∀ q, ts_S B n p = .inr q → u.1 = (q : Int)) := by
  unfold qf_X13_scanTypes
  refine r_by2 (K := fun g => some ((p : Int), g)) (t := fun _ => true) T.1 R (fun q z => by cases z; rfl) (fun g Fg Rg W => ?_) (fun _ w => ?_)
  · refine pc_ret ⟨Fg, ?_, fun q z => ?_⟩
    · have e1 : nx_S n p = .inl n := by unfold nx_S; rw [if_neg (W p rfl)]
      unfold ts_S; rw [e1]
      rw [bd_r, ← nx_by, e1] at Rg; exact Rg
    · have e1 : nx_S n p = .inl n := by unfold nx_S; rw [if_neg (W p rfl)]
      unfold ts_S at z; rw [e1] at z; cases z
  · have hB := T.1.2.2.2.2.2.2 p w
    show Pc (rd_A 6000 238 (p : Int) M _) _
    dsimp only
    refine pc_rA ?_; intro i1 i2 v35 e35
    rw [Int.toNat_natCast, T.1.2.2.2.2.1] at e35
    refine pc_add (by omega) ?_; intro v36 e36
    have e1 : nx_S n p = .inr (p + 1) := by unfold nx_S; rw [if_pos w]
    have n6 := T.1.2.2.2.1
    have ef : ts_S B n p = ty_S B n (B p).toNat (p + 1) := by unfold ts_S; rw [e1]; rfl
    rw [ef, show v36 = ((p + 1 : Nat) : Int) by omega, e35]
    exact r_24 (B p).toNat nn (B p) 0 (p + 1) M (by omega) (by omega) T R
/-- frames, from i on -/
theorem r_497 : ∀ (m f : Nat) (l9 i : Int) (p : Nat) (M : ms_M), (i + m = l9 ∧ 0 ≤ i ∧ l9 ≤ 255) → p ≤ n → TTr c n B M → RSs (.inr p) M → Pc (qw_X13_scanMethod_497 nn f (p : Int) l9 i M) (fun u => FQp M u.2 ∧ RSs (fr_S B n m p) u.2 ∧ ∀ q, fr_S B n m p = .inr q → u.1 = (q : Int)) := by
  intro m
  induction m with
  | zero =>
    intro f l2 i p M hm hp T R
    cases f with
    | zero => exact pc_none
    | succ f =>
      unfold qw_X13_scanMethod_497
      refine pc_if (fun _ => pc_ret ⟨fq_r, R, fun q z => ?_⟩) (fun z => absurd (by omega) z)
      unfold fr_S at z; cases z; rfl
  | succ m ih =>
    intro f l2 i p M hm hp T R
    have n6 := T.1.2.2.2.1
    cases f with
    | zero => exact pc_none
    | succ f =>
      have et : fr_S B n (m + 1) p = bd_S (bd_S (bd_S (sk_S n 2 p) (ts_S B n)) (ts_S B n)) (fr_S B n m) := rfl
      unfold qw_X13_scanMethod_497
      refine pc_if (fun z => absurd z (by omega)) (fun _ => pc_if (fun z => absurd R z) (fun _ => ?_))
      refine pc_add (by omega) ?_; intro v2 e2
      rw [show v2 = ((p + 1 : Nat) : Int) by omega]
      refine r_by2 (K := fun g => some ((p : Int), g)) (t := fun _ => true) (s := .inr (p + 1)) T.1 R (fun q z => by cases z; rfl) (fun g Fg Rg W => ?_) (fun _ w => ?_)
      · refine pc_ret ⟨Fg, ?_, fun q z => ?_⟩
        · have e1 : sk_S n 2 p = .inl n := by unfold sk_S; rw [if_neg (by have := W _ rfl; omega)]
          rw [et, e1]
          rw [bd_r, ← nx_by] at Rg
          unfold nx_S at Rg
          rw [if_neg (W _ rfl)] at Rg
          exact Rg
        · have e1 : sk_S n 2 p = .inl n := by unfold sk_S; rw [if_neg (by have := W _ rfl; omega)]
          rw [et, e1] at z; cases z
      · have e1 : sk_S n 2 p = .inr (p + 2) := by unfold sk_S; rw [if_pos (by omega)]
        refine pc_add (by omega) ?_; intro v5 e5
        rw [show v5 = ((p + 2 : Nat) : Int) by omega, et, e1, bd_r]
        show Pc (mx_sv (qf_X13_scanTypes nn ((p + 2 : Nat) : Int) M) _) _
        refine pc_sv (r_ts (by omega) T R) ?_; intro u7 q7
        obtain ⟨F7, R7, P7⟩ := q7
        have T7 := ttr_k F7 T
        cases z1 : ts_S B n (p + 2) with
        | inl e =>
          rw [z1] at R7
          refine pc_sv (r_tsl (rs_l R7)) ?_; intro u9 q9
          rw [q9]
          refine pc_xl (fun v10 _ => ?_)
          exact pc_imp (r_497l (rs_l R7)) (fun u q => ⟨by rw [q]; exact F7, by rw [q]; exact R7, fun x z => by cases z⟩)
        | inr x =>
          rw [z1] at R7
          rw [P7 x z1, bd_r]
          have xl : x ≤ n := ts_le z1
          refine pc_sv (r_ts (by omega) T7 R7) ?_; intro u9 q9
          obtain ⟨F9, R9, P9⟩ := q9
          refine pc_add (by omega) ?_; intro v10 e10
          cases z2 : ts_S B n x with
          | inl e =>
            rw [z2] at R9
            exact pc_imp (r_497l (rs_l R9)) (fun u q => ⟨by rw [q]; exact fq_t F7 F9, by rw [q]; exact R9, fun x z => by cases z⟩)
          | inr y =>
            rw [z2] at R9
            rw [P9 y z2, bd_r]
            exact pc_imp (ih f l2 v10 y u9.2 (by omega) (ts_le z2) (ttr_k F9 T7) R9) (fun u q => ⟨fq_t (fq_t F7 F9) q.1, q.2⟩)
end
