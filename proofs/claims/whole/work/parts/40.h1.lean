/- types -/
section
variable {nn : Nat} {M M1 M2 g : ms_M} {c : Int} {B : Nat → Int} {n : Nat} {s : Nat ⊕ Nat}
/-- types, from i on -/
theorem r_24 : ∀ (m f : Nat) (l2 i : Int) (p : Nat) (M : ms_M), (i + m = l2 ∧ 0 ≤ i ∧ l2 ≤ 255) → p ≤ 6000 → TTr c n B M → RSs (.inr p) M → Pc (qw_X13_scanTypes_24 nn f l2 (p : Int) i M) (fun u => FQp M u.2 ∧ RSs (ty_S B n m p) u.2 ∧ ∀ q, ty_S B n m p = .inr q → u.1 = (q : Int)) := by
  intro m
  induction m with
  | zero =>
    intro f l2 i p M hm hp T R
    cases f with
    | zero => exact pc_none
    | succ f =>
      unfold qw_X13_scanTypes_24
      refine pc_if (fun _ => pc_ret ⟨fq_r, R, fun q z => ?_⟩) (fun z => absurd (by omega) z)
      unfold ty_S at z; cases z; rfl
  | succ m ih =>
    intro f l2 i p M hm hp T R
    have n6 := T.1.2.2.2.1
    cases f with
    | zero => exact pc_none
    | succ f =>
      have et : ty_S B n (m + 1) p = bd_S (bd_S (by_S B n (up_T 0 3) p) (fun q => if B p = 3 then by_S B n (cl_S B n) q else .inr q)) (ty_S B n m) := rfl
      unfold qw_X13_scanTypes_24
      refine pc_if (fun z => absurd z (by omega)) (fun _ => ?_)
      refine r_by2 (K := fun g => some ((p : Int), g)) (t := up_T 0 3) T.1 R (fun q z => by cases z; rfl) (fun g Fg Rg W => ?_) (fun _ w => ?_)
      · refine pc_ret ⟨Fg, ?_, fun q z => ?_⟩
        · have : by_S B n (up_T 0 3) p = .inl n := by unfold by_S; rw [if_neg (W p rfl)]
          rw [et, this]
          rw [bd_r, this] at Rg
          exact Rg
        · have : by_S B n (up_T 0 3) p = .inl n := by unfold by_S; rw [if_neg (W p rfl)]
          rw [et, this] at z; cases z
      · have hB := T.1.2.2.2.2.2.2 p w
        show Pc (rd_A 6000 238 (p : Int) M _) _
        dsimp only
        refine pc_rA ?_; intro i1 i2 v26 e26
        rw [Int.toNat_natCast, T.1.2.2.2.2.1] at e26
        refine pc_if (fun c3 => ?_) (fun c3 => ?_)
        · have e1 : by_S B n (up_T 0 3) p = .inr (p + 1) := by
            unfold by_S up_T
            rw [if_pos w, if_pos (by rw [Bool.and_eq_true, decide_eq_true_iff, decide_eq_true_iff]; omega)]
          rw [et, e1, bd_r]
          unfold qj_X13_scanTypes_55
          refine pc_rA ?_; intro j1 j2 v2 e2
          rw [Int.toNat_natCast, T.1.2.2.2.2.1] at e2
          refine pc_if (fun d => ?_) (fun d => ?_)
          · refine pc_add (by omega) ?_; intro v3 e3
            refine pc_add (by omega) ?_; intro v4 e4
            rw [if_neg (by omega), bd_r, show v3 = ((p + 1 : Nat) : Int) by omega]
            exact ih f l2 v4 (p + 1) M (by omega) (by omega) T R
          · refine pc_add (by omega) ?_; intro v5 e5
            rw [if_pos (by omega), show v5 = ((p + 1 : Nat) : Int) by omega]
            refine r_by (p := p + 1) (K := fun g => xl (oq_add ((p + 1 : Nat) : Int) 1) fun v8 => xl (oq_add i 1) fun v9 => qw_X13_scanTypes_24 nn f l2 v8 v9 g) (G := fun v11 g => mx_sv (qf_X13_isClassConstant nn v11 1 g) fun u13 => if ¬ u13 = 0 then (xl (oq_add ((p + 1 : Nat) : Int) 1) fun v14 => xl (oq_add i 1) fun v15 => qw_X13_scanTypes_24 nn f l2 v14 v15 g) else (mx_sv (qf_X13_unfit nn ((p + 1 : Nat) : Int) g) fun u17 => xl (oq_add ((p + 1 : Nat) : Int) 1) fun v18 => xl (oq_add i 1) fun v19 => qw_X13_scanTypes_24 nn f l2 v18 v19 u17)) (t := cl_S B n) (s := .inr (p + 1)) T.1 R (fun q z => by cases z; rfl) (fun g Fg Rg W => ?_) (fun _ w1 => ?_)
            · have e2 : by_S B n (cl_S B n) (p + 1) = .inl n := by unfold by_S; rw [if_neg (W _ rfl)]
              rw [bd_r, e2] at Rg
              rw [e2]
              refine pc_xl (fun _ _ => pc_xl (fun _ _ => pc_imp (r_24l (rs_l Rg)) (fun u q => ⟨by rw [q]; exact Fg, by rw [q]; exact Rg, fun x z => by cases z⟩)))
            · refine pc_sv (r_class1 T) ?_; intro u13 q13
              refine pc_if (fun y => ?_) (fun y => ?_)
              · have e2 : by_S B n (cl_S B n) (p + 1) = .inr (p + 1 + 1) := by unfold by_S; rw [if_pos w1, if_pos (bi_t (by rw [← q13]; exact y))]
                rw [e2, bd_r]
                refine pc_add (by omega) ?_; intro v14 e14
                refine pc_add (by omega) ?_; intro v15 e15
                rw [show v14 = ((p + 1 + 1 : Nat) : Int) by omega]
                exact ih f l2 v15 (p + 1 + 1) M (by omega) (by omega) T R
              · refine r_unfit (t := cl_S B n) (p := p + 1) (B := B) (n := n) R w1 (bi_f (by rw [← q13]; exact Decidable.not_not.1 y)) (fun g Fg Rg => ?_)
                have e2 : by_S B n (cl_S B n) (p + 1) = .inl (p + 1) := by unfold by_S; rw [if_pos w1, if_neg (bi_f (by rw [← q13]; exact Decidable.not_not.1 y))]
                rw [bd_r, e2] at Rg
                rw [e2]
                refine pc_xl (fun _ _ => pc_xl (fun _ _ => pc_imp (r_24l (rs_l Rg)) (fun u q => ⟨by rw [q]; exact Fg, by rw [q]; exact Rg, fun x z => by cases z⟩)))
        · have h3 : ¬ up_T 0 3 (B p) = true := fun z => by have := up_Tt z; omega
          refine r_unfit (t := up_T 0 3) (B := B) (n := n) R w h3 (fun g Fg Rg => ?_)
          have e1 : by_S B n (up_T 0 3) p = .inl p := by unfold by_S; rw [if_pos w, if_neg h3]
          rw [bd_r, e1] at Rg
          rw [et, e1]
          exact pc_imp (r_55l (rs_l Rg)) (fun u q => ⟨by rw [q]; exact Fg, by rw [q]; exact Rg, fun x z => by cases z⟩)
end
