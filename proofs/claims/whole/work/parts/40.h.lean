/- THE REFERENCE SCANS AN IMAGE: methods -/
section
variable {nn : Nat} {M M1 M2 g : ms_M} {c : Int} {B : Nat → Int} {n : Nat} {s : Nat ⊕ Nat}
theorem r_isBl {x : Int} (h : ¬ M 160 114 = -1) : qf_X13_isByte nn x M = some (0, M) := by
  unfold qf_X13_isByte; rw [if_neg h]
theorem r_unl {x : Int} (h : ¬ M 160 114 = -1) : qf_X13_unfit nn x M = some M := by
  unfold qf_X13_unfit; rw [if_pos h]
theorem r_24l (h : ¬ M 160 114 = -1) {l2 l3 l4 : Int} {f : Nat} : Pc (qw_X13_scanTypes_24 nn f l2 l3 l4 M) (fun u => u.2 = M) := by
  cases f with
  | zero => exact pc_none
  | succ f =>
    unfold qw_X13_scanTypes_24
    refine pc_if (fun _ => pc_ret rfl) (fun _ => ?_)
    rw [r_isBl h, mx_svs]
    exact pc_if (fun z => absurd rfl z) (fun _ => pc_ret rfl)
theorem r_55l (h : ¬ M 160 114 = -1) {l2 l3 l4 : Int} {f : Nat} : Pc (qj_X13_scanTypes_55 nn (qw_X13_scanTypes_24 nn f) l2 l3 l4 M) (fun u => u.2 = M) := by
  unfold qj_X13_scanTypes_55
  refine pc_rA ?_; intro i1 i2 v2 e2
  refine pc_if (fun _ => pc_xl (fun _ _ => pc_xl (fun _ _ => r_24l h))) (fun _ => pc_xl (fun v5 _ => ?_))
  rw [r_isBl h, mx_svs]
  exact pc_if (fun _ => pc_xl (fun _ _ => pc_xl (fun _ _ => r_24l h))) (fun z => absurd rfl z)
theorem r_tsl (h : ¬ M 160 114 = -1) {x : Int} : Pc (qf_X13_scanTypes nn x M) (fun u => u.2 = M) := by
  unfold qf_X13_scanTypes
  rw [r_isBl h, mx_svs]
  exact pc_if (fun z => absurd rfl z) (fun _ => pc_ret rfl)
theorem r_497l (h : ¬ M 160 114 = -1) {l4 l9 l10 : Int} {f : Nat} : Pc (qw_X13_scanMethod_497 nn f l4 l9 l10 M) (fun u => u.2 = M) := by
  cases f with
  | zero => exact pc_none
  | succ f =>
    unfold qw_X13_scanMethod_497
    exact pc_if (fun _ => pc_ret rfl) (fun _ => pc_if (fun _ => pc_ret rfl) (fun z => absurd h z))
theorem r_444l (h : ¬ M 160 114 = -1) {l1 l2 l4 : Int} : Pc (qj_X13_scanMethod_444 nn l1 l2 l4 M) (fun u => u.2 = M) := by
  unfold qj_X13_scanMethod_444
  rw [r_isBl h, mx_svs]
  exact pc_if (fun z => absurd rfl z) (fun _ => pc_ret rfl)
theorem r_381l (h : ¬ M 160 114 = -1) {l1 l2 l4 l8 l9 : Int} {f : Nat} : Pc (qw_X13_scanMethod_381 nn f l1 l2 l4 l8 l9 M) (fun u => u.2 = M) := by
  cases f with
  | zero => exact pc_none
  | succ f =>
    unfold qw_X13_scanMethod_381
    exact pc_if (fun _ => r_444l h) (fun _ => pc_if (fun _ => r_444l h) (fun z => absurd h z))
theorem r_328l (h : ¬ M 160 114 = -1) {l1 l2 l4 : Int} : Pc (qj_X13_scanMethod_328 nn l1 l2 l4 M) (fun u => u.2 = M) := by
  unfold qj_X13_scanMethod_328
  rw [r_isBl h, mx_svs]
  exact pc_if (fun z => absurd rfl z) (fun _ => pc_ret rfl)
theorem r_293l (h : ¬ M 160 114 = -1) {l1 l2 l4 l7 : Int} : Pc (qj_X13_scanMethod_293 nn l1 l2 l4 l7 M) (fun u => u.2 = M) := by
  unfold qj_X13_scanMethod_293
  exact pc_xl (fun _ _ => pc_xl (fun _ _ => pc_if (fun _ => r_328l h) (fun z => absurd h z)))
theorem r_232l (h : ¬ M 160 114 = -1) {l1 l2 l4 : Int} : Pc (qj_X13_scanMethod_232 nn l1 l2 l4 M) (fun u => u.2 = M) := by
  unfold qj_X13_scanMethod_232
  refine pc_xl (fun _ _ => ?_)
  rw [r_isBl h, mx_svs]
  exact pc_if (fun z => absurd rfl z) (fun _ => pc_ret rfl)
theorem r_134l (h : ¬ M 160 114 = -1) {l1 l2 l4 : Int} : Pc (qj_X13_scanMethod_134 nn l1 l2 l4 M) (fun u => u.2 = M) := by
  unfold qj_X13_scanMethod_134
  refine pc_xl (fun _ _ => ?_)
  rw [r_isBl h, mx_svs]
  exact pc_if (fun z => absurd rfl z) (fun _ => pc_ret rfl)
end
