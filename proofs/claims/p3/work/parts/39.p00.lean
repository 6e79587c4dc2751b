def np_S (b : Nat) (L : List Nat) (c k : Nat) : Prop := c = b ∧ L.contains k = false
theorem np_f {b k0 : Nat} {L : List Nat} (h : L.contains k0 = true) : ∀ c k, np_S b L c k → ¬ (c = b ∧ k = k0) := by
  rintro c k ⟨-, z⟩ ⟨-, rfl⟩; rw [h] at z; cases z
theorem np_a {b off : Nat} {L : List Nat} (h : 0 < off) : ∀ c k, np_S b L c k → c ≠ b + off := by
  rintro c k ⟨z, -⟩ e; omega
theorem np_s {b : Nat} {L1 L2 : List Nat} (h : L2.all (fun x => L1.contains x) = true) : ∀ c k, np_S b L1 c k → np_S b L2 c k := by
  rintro c k ⟨z, y⟩
  refine ⟨z, ?_⟩
  cases e : L2.contains k with
  | false => rfl
  | true =>
    have := List.all_eq_true.1 h k (List.contains_iff_mem.1 e)
    rw [y] at this; cases this
set_option maxRecDepth 4000 in
theorem pf_X3_bad (nn : Nat) {a0 : Nat} {a1 : Int} {h : ms_M} (hb_a0 : kc_O a0 = 3) : Fm_ (np_S a0 [3]) h (qf_X3_bad nn a0 a1 h) (fun r => r) := by
  unfold qf_X3_bad
  have F_h : ∀ c k : Nat, (np_S a0 [3]) c k → h c k = h c k := fun _ _ _ => rfl
  refine fm_if ?_ ?_
  · exact fm_ret F_h
  · refine fm_up F_h (np_f rfl) ?_; intro h2 F_h2
    exact fm_ret F_h2
set_option maxRecDepth 4000 in
theorem pf_X3_next (nn : Nat) {a0 : Nat} {h : ms_M} (hb_a0 : kc_O a0 = 3) : Fm_ (np_S a0 [2, 3]) h (qf_X3_next nn a0 h) (fun r => r.2) := by
  unfold qf_X3_next
  have F_h : ∀ c k : Nat, (np_S a0 [2, 3]) c k → h c k = h c k := fun _ _ _ => rfl
  refine fm_if ?_ ?_
  · refine fm_xl ?_; intro v4
    refine fm_up F_h (np_f rfl) ?_; intro h5 F_h5
    refine fm_ck ?_; intro _
    refine fm_xl ?_; intro v8
    refine fm_rdT ?_; intro v9
    refine fm_xl ?_; intro v10
    exact fm_ret F_h5
  · refine fm_if ?_ ?_
    · refine fm_up F_h (np_f rfl) ?_; intro h13 F_h13
      exact fm_ret F_h13
    · refine fm_up F_h (np_f rfl) ?_; intro h15 F_h15
      exact fm_ret F_h15
set_option maxRecDepth 4000 in
theorem pj_X3_nextPlainClass_29 (nn : Nat) {l0 : Nat} {l2 : Int} {h : ms_M} (hb_l0 : kc_O l0 = 3) : Fm_ (np_S l0 [2, 3]) h (qj_X3_nextPlainClass_29 nn l0 l2 h) (fun r => r.2) := by
  unfold qj_X3_nextPlainClass_29
  have F_h : ∀ c k : Nat, (np_S l0 [2, 3]) c k → h c k = h c k := fun _ _ _ => rfl
  refine fm_xl ?_; intro v2
  refine fm_ca F_h (pf_X3_bad nn hb_l0) (np_s rfl) ?_; intro u4 F_u4
  exact fm_ret F_u4
set_option maxRecDepth 4000 in
theorem pf_X3_nextPlainClass (nn : Nat) {a0 : Nat} {h : ms_M} (hb_a0 : kc_O a0 = 3) : Fm_ (np_S a0 [2, 3]) h (qf_X3_nextPlainClass nn a0 h) (fun r => r.2) := by
  unfold qf_X3_nextPlainClass
  have F_h : ∀ c k : Nat, (np_S a0 [2, 3]) c k → h c k = h c k := fun _ _ _ => rfl
  refine fm_ca F_h (pf_X3_next nn hb_a0) (np_s rfl) ?_; intro u6 F_u6
  refine fm_pu ?_; intro u8
  refine fm_pu ?_; intro u10
  refine fm_if ?_ ?_
  · exact fm_tl F_u6 (pj_X3_nextPlainClass_29 nn hb_a0) (fun _ _ z => z)
  · refine fm_pu ?_; intro u12
    refine fm_if ?_ ?_
    · exact fm_ret F_u6
    · exact fm_tl F_u6 (pj_X3_nextPlainClass_29 nn hb_a0) (fun _ _ z => z)
set_option maxRecDepth 4000 in
theorem pj_X3_nextUpTo_15 (nn : Nat) {l0 : Nat} {l3 : Int} {h : ms_M} (hb_l0 : kc_O l0 = 3) : Fm_ (np_S l0 [2, 3]) h (qj_X3_nextUpTo_15 nn l0 l3 h) (fun r => r.2) := by
  unfold qj_X3_nextUpTo_15
  have F_h : ∀ c k : Nat, (np_S l0 [2, 3]) c k → h c k = h c k := fun _ _ _ => rfl
  refine fm_xl ?_; intro v2
  refine fm_ca F_h (pf_X3_bad nn hb_l0) (np_s rfl) ?_; intro u4 F_u4
  exact fm_ret F_u4
set_option maxRecDepth 4000 in
theorem pf_X3_nextUpTo (nn : Nat) {a0 : Nat} {a1 : Int} {a2 : Int} {h : ms_M} (hb_a0 : kc_O a0 = 3) : Fm_ (np_S a0 [2, 3]) h (qf_X3_nextUpTo nn a0 a1 a2 h) (fun r => r.2) := by
  unfold qf_X3_nextUpTo
  have F_h : ∀ c k : Nat, (np_S a0 [2, 3]) c k → h c k = h c k := fun _ _ _ => rfl
  refine fm_ca F_h (pf_X3_next nn hb_a0) (np_s rfl) ?_; intro u6 F_u6
  refine fm_if ?_ ?_
  · exact fm_tl F_u6 (pj_X3_nextUpTo_15 nn hb_a0) (fun _ _ z => z)
  · refine fm_if ?_ ?_
    · exact fm_ret F_u6
    · exact fm_tl F_u6 (pj_X3_nextUpTo_15 nn hb_a0) (fun _ _ z => z)
set_option maxRecDepth 4000 in
theorem pj_X3_checkConstant_109 (nn : Nat) {l0 : Nat} {l2 : Int} {l3 : Int} {h : ms_M} (hb_l0 : kc_O l0 = 3) : Fm_ (np_S l0 [3]) h (qj_X3_checkConstant_109 nn l0 l2 l3 h) (fun r => r) := by
  unfold qj_X3_checkConstant_109
  have F_h : ∀ c k : Nat, (np_S l0 [3]) c k → h c k = h c k := fun _ _ _ => rfl
  refine fm_pu ?_; intro u2
  refine fm_if ?_ ?_
  · exact fm_ret F_h
  · refine fm_pu ?_; intro u4
    refine fm_if ?_ ?_
    · exact fm_ret F_h
    · refine fm_xl ?_; intro v5
      refine fm_ca F_h (pf_X3_bad nn hb_l0) (np_s rfl) ?_; intro u7 F_u7
      exact fm_ret F_u7
set_option maxRecDepth 4000 in
theorem pj_X3_checkConstant_89 (nn : Nat) {l0 : Nat} {l1 : Int} {l2 : Int} {l3 : Int} {h : ms_M} (hb_l0 : kc_O l0 = 3) : Fm_ (np_S l0 [3]) h (qj_X3_checkConstant_89 nn l0 l1 l2 l3 h) (fun r => r) := by
  unfold qj_X3_checkConstant_89
  have F_h : ∀ c k : Nat, (np_S l0 [3]) c k → h c k = h c k := fun _ _ _ => rfl
  refine fm_pu ?_; intro u11
  refine fm_pu ?_; intro u13
  refine fm_if ?_ ?_
  · exact fm_tl F_h (pj_X3_checkConstant_109 nn hb_l0) (fun _ _ z => z)
  · refine fm_xl ?_; intro v14
    refine fm_ca F_h (pf_X3_bad nn hb_l0) (np_s rfl) ?_; intro u16 F_u16
    exact fm_tl F_u16 (pj_X3_checkConstant_109 nn hb_l0) (fun _ _ z => z)
set_option maxRecDepth 4000 in
theorem pj_X3_checkConstant_53 (nn : Nat) {l0 : Nat} {l1 : Int} {l2 : Int} {h : ms_M} (hb_l0 : kc_O l0 = 3) : Fm_ (np_S l0 [3]) h (qj_X3_checkConstant_53 nn l0 l1 l2 h) (fun r => r) := by
  unfold qj_X3_checkConstant_53
  have F_h : ∀ c k : Nat, (np_S l0 [3]) c k → h c k = h c k := fun _ _ _ => rfl
  refine fm_rd ?_; intro v19
  refine fm_if ?_ ?_
  · exact fm_ret F_h
  · refine fm_pu ?_; intro u21
    refine fm_pu ?_; intro u23
    refine fm_pu ?_; intro u25
    refine fm_if ?_ ?_
    · exact fm_tl F_h (pj_X3_checkConstant_89 nn hb_l0) (fun _ _ z => z)
    · refine fm_ca F_h (pf_X3_bad nn hb_l0) (np_s rfl) ?_; intro u27 F_u27
      exact fm_tl F_u27 (pj_X3_checkConstant_89 nn hb_l0) (fun _ _ z => z)
set_option maxRecDepth 4000 in
theorem pj_X3_checkConstant_48 (nn : Nat) {l0 : Nat} {l1 : Int} {l2 : Int} {h : ms_M} (hb_l0 : kc_O l0 = 3) : Fm_ (np_S l0 [3]) h (qj_X3_checkConstant_48 nn l0 l1 l2 h) (fun r => r) := by
  unfold qj_X3_checkConstant_48
  have F_h : ∀ c k : Nat, (np_S l0 [3]) c k → h c k = h c k := fun _ _ _ => rfl
  refine fm_ca F_h (pf_X3_bad nn hb_l0) (np_s rfl) ?_; intro u31 F_u31
  exact fm_tl F_u31 (pj_X3_checkConstant_53 nn hb_l0) (fun _ _ z => z)
set_option maxRecDepth 4000 in
theorem pf_X3_checkConstant (nn : Nat) {a0 : Nat} {a1 : Int} {h : ms_M} (hb_a0 : kc_O a0 = 3) : Fm_ (np_S a0 [3]) h (qf_X3_checkConstant nn a0 a1 h) (fun r => r) := by
  unfold qf_X3_checkConstant
  have F_h : ∀ c k : Nat, (np_S a0 [3]) c k → h c k = h c k := fun _ _ _ => rfl
  refine fm_rd ?_; intro v33
  refine fm_rd ?_; intro v35
  refine fm_if ?_ ?_
  · exact fm_tl F_h (pj_X3_checkConstant_53 nn hb_a0) (fun _ _ z => z)
  · refine fm_pu ?_; intro u37
    refine fm_pu ?_; intro u39
    refine fm_if ?_ ?_
    · exact fm_tl F_h (pj_X3_checkConstant_53 nn hb_a0) (fun _ _ z => z)
    · refine fm_pu ?_; intro u41
      refine fm_if ?_ ?_
      · exact fm_tl F_h (pj_X3_checkConstant_48 nn hb_a0) (fun _ _ z => z)
      · refine fm_pu ?_; intro u43
        refine fm_if ?_ ?_
        · exact fm_tl F_h (pj_X3_checkConstant_53 nn hb_a0) (fun _ _ z => z)
        · exact fm_tl F_h (pj_X3_checkConstant_48 nn hb_a0) (fun _ _ z => z)
set_option maxRecDepth 4000 in
theorem pw_X3_readConstant_84 (nn : Nat) : ∀ (k : Nat) {l0 : Nat} {l2 : Int} {l3 : Int} {l4 : Int} {h : ms_M} (hb_l0 : kc_O l0 = 3), Fm_ (np_S l0 [2, 3]) h (qw_X3_readConstant_84 nn k l0 l2 l3 l4 h) (fun r => r) := by
  intro k
  induction k with
  | zero => intros; exact fm_no
  | succ k ih =>
    intro l0 l2 l3 l4 h hb_l0
    unfold qw_X3_readConstant_84
    have F_h : ∀ c k : Nat, (np_S l0 [2, 3]) c k → h c k = h c k := fun _ _ _ => rfl
    refine fm_if ?_ ?_
    · exact fm_ret F_h
    · refine fm_if ?_ ?_
      · exact fm_ret F_h
      · refine fm_if ?_ ?_
        · refine fm_ca F_h (pf_X3_next nn hb_l0) (np_s rfl) ?_; intro u3 F_u3
          refine fm_xl ?_; intro v4
          exact fm_tl F_u3 (ih hb_l0) (fun _ _ z => z)
        · refine fm_ca F_h (pf_X3_nextUpTo nn hb_l0) (np_s rfl) ?_; intro u6 F_u6
          refine fm_xl ?_; intro v7
          exact fm_tl F_u6 (ih hb_l0) (fun _ _ z => z)
set_option maxRecDepth 4000 in
theorem pj_X3_readConstant_40 (nn : Nat) {l0 : Nat} {l1 : Int} {l2 : Int} {l3 : Int} {h : ms_M} (hb_l0 : kc_O l0 = 3) : Fm_ (np_S l0 [2, 3]) h (qj_X3_readConstant_40 nn l0 l1 l2 l3 h) (fun r => r) := by
  unfold qj_X3_readConstant_40
  have F_h : ∀ c k : Nat, (np_S l0 [2, 3]) c k → h c k = h c k := fun _ _ _ => rfl
  refine fm_wA F_h (np_a (by decide)) ?_; intro h12 F_h12
  refine fm_wA F_h12 (np_a (by decide)) ?_; intro h15 F_h15
  refine fm_if ?_ ?_
  · refine fm_wA F_h15 (np_a (by decide)) ?_; intro h18 F_h18
    exact fm_tl F_h18 (pw_X3_readConstant_84 nn _ hb_l0) (fun _ _ z => z)
  · refine fm_xl ?_; intro v20
    refine fm_wA F_h15 (np_a (by decide)) ?_; intro h21 F_h21
    exact fm_tl F_h21 (pw_X3_readConstant_84 nn _ hb_l0) (fun _ _ z => z)
set_option maxRecDepth 4000 in
theorem pj_X3_readConstant_26 (nn : Nat) {l0 : Nat} {l1 : Int} {l2 : Int} {s0 : Int} {h : ms_M} (hb_l0 : kc_O l0 = 3) : Fm_ (np_S l0 [2, 3]) h (qj_X3_readConstant_26 nn l0 l1 l2 s0 h) (fun r => r) := by
  unfold qj_X3_readConstant_26
  have F_h : ∀ c k : Nat, (np_S l0 [2, 3]) c k → h c k = h c k := fun _ _ _ => rfl
  refine fm_if ?_ ?_
  · exact fm_tl F_h (pj_X3_readConstant_40 nn hb_l0) (fun _ _ z => z)
  · refine fm_ca F_h (pf_X3_nextUpTo nn hb_l0) (np_s rfl) ?_; intro u24 F_u24
    exact fm_tl F_u24 (pj_X3_readConstant_40 nn hb_l0) (fun _ _ z => z)
set_option maxRecDepth 4000 in
theorem pf_X3_readConstant (nn : Nat) {a0 : Nat} {a1 : Int} {h : ms_M} (hb_a0 : kc_O a0 = 3) : Fm_ (np_S a0 [2, 3]) h (qf_X3_readConstant nn a0 a1 h) (fun r => r) := by
  unfold qf_X3_readConstant
  have F_h : ∀ c k : Nat, (np_S a0 [2, 3]) c k → h c k = h c k := fun _ _ _ => rfl
  refine fm_ca F_h (pf_X3_nextUpTo nn hb_a0) (np_s rfl) ?_; intro u27 F_u27
  refine fm_if ?_ ?_
  · refine fm_if ?_ ?_
    · exact fm_tl F_u27 (pj_X3_readConstant_26 nn hb_a0) (fun _ _ z => z)
    · exact fm_tl F_u27 (pj_X3_readConstant_26 nn hb_a0) (fun _ _ z => z)
  · exact fm_tl F_u27 (pj_X3_readConstant_26 nn hb_a0) (fun _ _ z => z)
set_option maxRecDepth 4000 in
theorem pw_X3_readConstants_57 (nn : Nat) : ∀ (k : Nat) {l0 : Nat} {l1 : Int} {h : ms_M} (hb_l0 : kc_O l0 = 3), Fm_ (np_S l0 [2, 3, 7]) h (qw_X3_readConstants_57 nn k l0 l1 h) (fun r => r) := by
  intro k
  induction k with
  | zero => intros; exact fm_no
  | succ k ih =>
    intro l0 l1 h hb_l0
    unfold qw_X3_readConstants_57
    have F_h : ∀ c k : Nat, (np_S l0 [2, 3, 7]) c k → h c k = h c k := fun _ _ _ => rfl
    refine fm_if ?_ ?_
    · exact fm_ret F_h
    · refine fm_if ?_ ?_
      · exact fm_ret F_h
      · refine fm_ca F_h (pf_X3_checkConstant nn hb_l0) (np_s rfl) ?_; intro u4 F_u4
        refine fm_xl ?_; intro v5
        exact fm_tl F_u4 (ih hb_l0) (fun _ _ z => z)
set_option maxRecDepth 4000 in
theorem pw_X3_readConstants_28 (nn : Nat) : ∀ (k : Nat) {l0 : Nat} {l1 : Int} {h : ms_M} (hb_l0 : kc_O l0 = 3), Fm_ (np_S l0 [2, 3, 7]) h (qw_X3_readConstants_28 nn k l0 l1 h) (fun r => r) := by
  intro k
  induction k with
  | zero => intros; exact fm_no
  | succ k ih =>
    intro l0 l1 h hb_l0
    unfold qw_X3_readConstants_28
    have F_h : ∀ c k : Nat, (np_S l0 [2, 3, 7]) c k → h c k = h c k := fun _ _ _ => rfl
    refine fm_if ?_ ?_
    · exact fm_tl F_h (pw_X3_readConstants_57 nn _ hb_l0) (fun _ _ z => z)
    · refine fm_if ?_ ?_
      · exact fm_tl F_h (pw_X3_readConstants_57 nn _ hb_l0) (fun _ _ z => z)
      · refine fm_ca F_h (pf_X3_readConstant nn hb_l0) (np_s rfl) ?_; intro u11 F_u11
        refine fm_xl ?_; intro v12
        exact fm_tl F_u11 (ih hb_l0) (fun _ _ z => z)
set_option maxRecDepth 4000 in
theorem pf_X3_readConstants (nn : Nat) {a0 : Nat} {h : ms_M} (hb_a0 : kc_O a0 = 3) : Fm_ (np_S a0 [2, 3, 7]) h (qf_X3_readConstants nn a0 h) (fun r => r) := by
  unfold qf_X3_readConstants
  have F_h : ∀ c k : Nat, (np_S a0 [2, 3, 7]) c k → h c k = h c k := fun _ _ _ => rfl
  refine fm_ca F_h (pf_X3_nextUpTo nn hb_a0) (np_s rfl) ?_; intro u16 F_u16
  refine fm_ca F_u16 (pf_X3_nextUpTo nn hb_a0) (np_s rfl) ?_; intro u18 F_u18
  refine fm_ca F_u18 (pf_X3_next nn hb_a0) (np_s rfl) ?_; intro u20 F_u20
  refine fm_up F_u20 (np_f rfl) ?_; intro h21 F_h21
  exact fm_tl F_h21 (pw_X3_readConstants_28 nn _ hb_a0) (fun _ _ z => z)
set_option maxRecDepth 4000 in
theorem pf_X3_nextName (nn : Nat) {a0 : Nat} {h : ms_M} (hb_a0 : kc_O a0 = 3) : Fm_ (np_S a0 [2, 3]) h (qf_X3_nextName nn a0 h) (fun r => r.2) := by
  unfold qf_X3_nextName
  have F_h : ∀ c k : Nat, (np_S a0 [2, 3]) c k → h c k = h c k := fun _ _ _ => rfl
  refine fm_ca F_h (pf_X3_next nn hb_a0) (np_s rfl) ?_; intro u2 F_u2
  refine fm_pu ?_; intro u4
  refine fm_if ?_ ?_
  · exact fm_ret F_u2
  · refine fm_xl ?_; intro v6
    refine fm_ca F_u2 (pf_X3_bad nn hb_a0) (np_s rfl) ?_; intro u8 F_u8
    exact fm_ret F_u8
set_option maxRecDepth 4000 in
theorem pj_X3_readFields_58 (nn : Nat) {qkk_10 : Nat → Int → Int → ms_M → Option ms_M} (hk_kk_10 : ∀ {l0 : Nat} {l1 : Int} {l2 : Int} {h : ms_M} (hb_l0 : kc_O l0 = 3), Fm_ (np_S l0 [2, 3, 10]) h (qkk_10 l0 l1 l2 h) (fun r => r)) {l0 : Nat} {l1 : Int} {l2 : Int} {l3 : Int} {h : ms_M} (hb_l0 : kc_O l0 = 3) : Fm_ (np_S l0 [2, 3, 10]) h (qj_X3_readFields_58 nn qkk_10 l0 l1 l2 l3 h) (fun r => r) := by
  unfold qj_X3_readFields_58
  have F_h : ∀ c k : Nat, (np_S l0 [2, 3, 10]) c k → h c k = h c k := fun _ _ _ => rfl
  refine fm_xl ?_; intro v2
  refine fm_xl ?_; intro v3
  refine fm_wA F_h (np_a (by decide)) ?_; intro h4 F_h4
  refine fm_xl ?_; intro v6
  refine fm_up F_h4 (np_f rfl) ?_; intro h7 F_h7
  refine fm_xl ?_; intro v8
  exact fm_tl F_h7 (hk_kk_10 hb_l0) (fun _ _ z => z)
set_option maxRecDepth 4000 in
theorem pw_X3_readFields_10 (nn : Nat) : ∀ (k : Nat) {l0 : Nat} {l1 : Int} {l2 : Int} {h : ms_M} (hb_l0 : kc_O l0 = 3), Fm_ (np_S l0 [2, 3, 10]) h (qw_X3_readFields_10 nn k l0 l1 l2 h) (fun r => r) := by
  intro k
  induction k with
  | zero => intros; exact fm_no
  | succ k ih =>
    intro l0 l1 l2 h hb_l0
    unfold qw_X3_readFields_10
    have F_h : ∀ c k : Nat, (np_S l0 [2, 3, 10]) c k → h c k = h c k := fun _ _ _ => rfl
    refine fm_if ?_ ?_
    · exact fm_ret F_h
    · refine fm_if ?_ ?_
      · exact fm_ret F_h
      · refine fm_xl ?_; intro v11
        refine fm_ca F_h (pf_X3_nextName nn hb_l0) (np_s rfl) ?_; intro u13 F_u13
        refine fm_wA F_u13 (np_a (by decide)) ?_; intro h14 F_h14
        refine fm_ca F_h14 (pf_X3_next nn hb_l0) (np_s rfl) ?_; intro u16 F_u16
        refine fm_pu ?_; intro u18
        refine fm_if ?_ ?_
        · exact fm_tl F_u16 (pj_X3_readFields_58 nn ih hb_l0) (fun _ _ z => z)
        · refine fm_xl ?_; intro v20
          refine fm_ca F_u16 (pf_X3_bad nn hb_l0) (np_s rfl) ?_; intro u22 F_u22
          exact fm_tl F_u22 (pj_X3_readFields_58 nn ih hb_l0) (fun _ _ z => z)
set_option maxRecDepth 4000 in
theorem pf_X3_readFields (nn : Nat) {a0 : Nat} {h : ms_M} (hb_a0 : kc_O a0 = 3) : Fm_ (np_S a0 [2, 3, 10]) h (qf_X3_readFields nn a0 h) (fun r => r) := by
  unfold qf_X3_readFields
  have F_h : ∀ c k : Nat, (np_S a0 [2, 3, 10]) c k → h c k = h c k := fun _ _ _ => rfl
  refine fm_ca F_h (pf_X3_nextUpTo nn hb_a0) (np_s rfl) ?_; intro u27 F_u27
  exact fm_tl F_u27 (pw_X3_readFields_10 nn _ hb_a0) (fun _ _ z => z)
set_option maxRecDepth 4000 in
theorem pj_X3_readCode_85 (nn : Nat) {l0 : Nat} {l4 : Int} {h : ms_M} (hb_l0 : kc_O l0 = 3) : Fm_ (np_S l0 [2, 3]) h (qj_X3_readCode_85 nn l0 l4 h) (fun r => r) := by
  unfold qj_X3_readCode_85
  have F_h : ∀ c k : Nat, (np_S l0 [2, 3]) c k → h c k = h c k := fun _ _ _ => rfl
  refine fm_xl ?_; intro v2
  refine fm_xl ?_; intro v4
  refine fm_up F_h (np_f rfl) ?_; intro h5 F_h5
  exact fm_ret F_h5
set_option maxRecDepth 4000 in
theorem pj_X3_readCode_40 (nn : Nat) {l0 : Nat} {l1 : Int} {l4 : Int} {h : ms_M} (hb_l0 : kc_O l0 = 3) : Fm_ (np_S l0 [2, 3]) h (qj_X3_readCode_40 nn l0 l1 l4 h) (fun r => r) := by
  unfold qj_X3_readCode_40
  have F_h : ∀ c k : Nat, (np_S l0 [2, 3]) c k → h c k = h c k := fun _ _ _ => rfl
  refine fm_xl ?_; intro v7
  refine fm_wA F_h (np_a (by decide)) ?_; intro h8 F_h8
  refine fm_xl ?_; intro v10
  refine fm_wA F_h8 (np_a (by decide)) ?_; intro h12 F_h12
  refine fm_xl ?_; intro v14
  refine fm_if ?_ ?_
  · exact fm_tl F_h12 (pj_X3_readCode_85 nn hb_l0) (fun _ _ z => z)
  · refine fm_ca F_h12 (pf_X3_bad nn hb_l0) (np_s rfl) ?_; intro u18 F_u18
    exact fm_tl F_u18 (pj_X3_readCode_85 nn hb_l0) (fun _ _ z => z)
set_option maxRecDepth 4000 in
theorem pj_X3_readCode_35 (nn : Nat) {l0 : Nat} {l1 : Int} {l2 : Int} {l4 : Int} {h : ms_M} (hb_l0 : kc_O l0 = 3) : Fm_ (np_S l0 [2, 3]) h (qj_X3_readCode_35 nn l0 l1 l2 l4 h) (fun r => r) := by
  unfold qj_X3_readCode_35
  have F_h : ∀ c k : Nat, (np_S l0 [2, 3]) c k → h c k = h c k := fun _ _ _ => rfl
  refine fm_ca F_h (pf_X3_bad nn hb_l0) (np_s rfl) ?_; intro u21 F_u21
  exact fm_tl F_u21 (pj_X3_readCode_40 nn hb_l0) (fun _ _ z => z)
set_option maxRecDepth 4000 in
theorem pf_X3_readCode (nn : Nat) {a0 : Nat} {a1 : Int} {h : ms_M} (hb_a0 : kc_O a0 = 3) : Fm_ (np_S a0 [2, 3]) h (qf_X3_readCode nn a0 a1 h) (fun r => r) := by
  unfold qf_X3_readCode
  have F_h : ∀ c k : Nat, (np_S a0 [2, 3]) c k → h c k = h c k := fun _ _ _ => rfl
  refine fm_ca F_h (pf_X3_next nn hb_a0) (np_s rfl) ?_; intro u24 F_u24
  refine fm_xl ?_; intro v25
  refine fm_ca F_u24 (pf_X3_next nn hb_a0) (np_s rfl) ?_; intro u27 F_u27
  refine fm_xl ?_; intro v28
  refine fm_if ?_ ?_
  · exact fm_tl F_u27 (pj_X3_readCode_35 nn hb_a0) (fun _ _ z => z)
  · refine fm_if ?_ ?_
    · exact fm_tl F_u27 (pj_X3_readCode_40 nn hb_a0) (fun _ _ z => z)
    · exact fm_tl F_u27 (pj_X3_readCode_35 nn hb_a0) (fun _ _ z => z)
set_option maxRecDepth 4000 in
theorem pf_X3_nextClass (nn : Nat) {a0 : Nat} {h : ms_M} (hb_a0 : kc_O a0 = 3) : Fm_ (np_S a0 [2, 3]) h (qf_X3_nextClass nn a0 h) (fun r => r) := by
  unfold qf_X3_nextClass
  have F_h : ∀ c k : Nat, (np_S a0 [2, 3]) c k → h c k = h c k := fun _ _ _ => rfl
  refine fm_ca F_h (pf_X3_next nn hb_a0) (np_s rfl) ?_; intro u2 F_u2
  refine fm_pu ?_; intro u4
  refine fm_if ?_ ?_
  · exact fm_ret F_u2
  · refine fm_xl ?_; intro v6
    refine fm_ca F_u2 (pf_X3_bad nn hb_a0) (np_s rfl) ?_; intro u8 F_u8
    exact fm_ret F_u8
set_option maxRecDepth 4000 in
theorem pw_X3_readFrameTypes_7 (nn : Nat) : ∀ (k : Nat) {l0 : Nat} {l1 : Int} {l2 : Int} {h : ms_M} (hb_l0 : kc_O l0 = 3), Fm_ (np_S l0 [2, 3]) h (qw_X3_readFrameTypes_7 nn k l0 l1 l2 h) (fun r => r) := by
  intro k
  induction k with
  | zero => intros; exact fm_no
  | succ k ih =>
    intro l0 l1 l2 h hb_l0
    unfold qw_X3_readFrameTypes_7
    have F_h : ∀ c k : Nat, (np_S l0 [2, 3]) c k → h c k = h c k := fun _ _ _ => rfl
    refine fm_if ?_ ?_
    · exact fm_ret F_h
    · refine fm_if ?_ ?_
      · exact fm_ret F_h
      · refine fm_ca F_h (pf_X3_nextUpTo nn hb_l0) (np_s rfl) ?_; intro u3 F_u3
        refine fm_if ?_ ?_
        · refine fm_xl ?_; intro v4
          exact fm_tl F_u3 (ih hb_l0) (fun _ _ z => z)
        · refine fm_ca F_u3 (pf_X3_nextClass nn hb_l0) (np_s rfl) ?_; intro u6 F_u6
          refine fm_xl ?_; intro v7
          exact fm_tl F_u6 (ih hb_l0) (fun _ _ z => z)
set_option maxRecDepth 4000 in
theorem pf_X3_readFrameTypes (nn : Nat) {a0 : Nat} {h : ms_M} (hb_a0 : kc_O a0 = 3) : Fm_ (np_S a0 [2, 3]) h (qf_X3_readFrameTypes nn a0 h) (fun r => r) := by
  unfold qf_X3_readFrameTypes
  have F_h : ∀ c k : Nat, (np_S a0 [2, 3]) c k → h c k = h c k := fun _ _ _ => rfl
  refine fm_ca F_h (pf_X3_next nn hb_a0) (np_s rfl) ?_; intro u12 F_u12
  exact fm_tl F_u12 (pw_X3_readFrameTypes_7 nn _ hb_a0) (fun _ _ z => z)
set_option maxRecDepth 4000 in
theorem pw_X3_skipPairs_2 (nn : Nat) : ∀ (k : Nat) {l0 : Nat} {l1 : Int} {l2 : Int} {h : ms_M} (hb_l0 : kc_O l0 = 3), Fm_ (np_S l0 [2, 3]) h (qw_X3_skipPairs_2 nn k l0 l1 l2 h) (fun r => r) := by
  intro k
  induction k with
  | zero => intros; exact fm_no
  | succ k ih =>
    intro l0 l1 l2 h hb_l0
    unfold qw_X3_skipPairs_2
    have F_h : ∀ c k : Nat, (np_S l0 [2, 3]) c k → h c k = h c k := fun _ _ _ => rfl
    refine fm_xl ?_; intro v1
    refine fm_if ?_ ?_
    · exact fm_ret F_h
    · refine fm_ca F_h (pf_X3_next nn hb_l0) (np_s rfl) ?_; intro u3 F_u3
      refine fm_xl ?_; intro v4
      exact fm_tl F_u3 (ih hb_l0) (fun _ _ z => z)
set_option maxRecDepth 4000 in
theorem pf_X3_skipPairs (nn : Nat) {a0 : Nat} {a1 : Int} {h : ms_M} (hb_a0 : kc_O a0 = 3) : Fm_ (np_S a0 [2, 3]) h (qf_X3_skipPairs nn a0 a1 h) (fun r => r) := by
  unfold qf_X3_skipPairs
  have F_h : ∀ c k : Nat, (np_S a0 [2, 3]) c k → h c k = h c k := fun _ _ _ => rfl
  exact fm_tl F_h (pw_X3_skipPairs_2 nn _ hb_a0) (fun _ _ z => z)
set_option maxRecDepth 4000 in
theorem pw_X3_readFrames_33 (nn : Nat) : ∀ (k : Nat) {l0 : Nat} {l2 : Int} {l3 : Int} {h : ms_M} (hb_l0 : kc_O l0 = 3), Fm_ (np_S l0 [2, 3]) h (qw_X3_readFrames_33 nn k l0 l2 l3 h) (fun r => r) := by
  intro k
  induction k with
  | zero => intros; exact fm_no
  | succ k ih =>
    intro l0 l2 l3 h hb_l0
    unfold qw_X3_readFrames_33
    have F_h : ∀ c k : Nat, (np_S l0 [2, 3]) c k → h c k = h c k := fun _ _ _ => rfl
    refine fm_if ?_ ?_
    · exact fm_ret F_h
    · refine fm_if ?_ ?_
      · exact fm_ret F_h
      · refine fm_ca F_h (pf_X3_skipPairs nn hb_l0) (np_s rfl) ?_; intro u3 F_u3
        refine fm_ca F_u3 (pf_X3_readFrameTypes nn hb_l0) (np_s rfl) ?_; intro u5 F_u5
        refine fm_ca F_u5 (pf_X3_readFrameTypes nn hb_l0) (np_s rfl) ?_; intro u7 F_u7
        refine fm_xl ?_; intro v8
        exact fm_tl F_u7 (ih hb_l0) (fun _ _ z => z)
set_option maxRecDepth 4000 in
theorem pf_X3_readFrames (nn : Nat) {a0 : Nat} {a1 : Int} {h : ms_M} (hb_a0 : kc_O a0 = 3) : Fm_ (np_S a0 [2, 3]) h (qf_X3_readFrames nn a0 a1 h) (fun r => r) := by
  unfold qf_X3_readFrames
  have F_h : ∀ c k : Nat, (np_S a0 [2, 3]) c k → h c k = h c k := fun _ _ _ => rfl
  refine fm_ca F_h (pf_X3_nextUpTo nn hb_a0) (np_s rfl) ?_; intro u12 F_u12
  refine fm_xl ?_; intro v14
  refine fm_wA F_u12 (np_a (by decide)) ?_; intro h15 F_h15
  refine fm_xl ?_; intro v17
  refine fm_wA F_h15 (np_a (by decide)) ?_; intro h19 F_h19
  exact fm_tl F_h19 (pw_X3_readFrames_33 nn _ hb_a0) (fun _ _ z => z)
set_option maxRecDepth 4000 in
theorem pw_X3_readHandlers_33 (nn : Nat) : ∀ (k : Nat) {l0 : Nat} {l2 : Int} {l3 : Int} {h : ms_M} (hb_l0 : kc_O l0 = 3), Fm_ (np_S l0 [2, 3]) h (qw_X3_readHandlers_33 nn k l0 l2 l3 h) (fun r => r) := by
  intro k
  induction k with
  | zero => intros; exact fm_no
  | succ k ih =>
    intro l0 l2 l3 h hb_l0
    unfold qw_X3_readHandlers_33
    have F_h : ∀ c k : Nat, (np_S l0 [2, 3]) c k → h c k = h c k := fun _ _ _ => rfl
    refine fm_if ?_ ?_
    · exact fm_ret F_h
    · refine fm_if ?_ ?_
      · exact fm_ret F_h
      · refine fm_ca F_h (pf_X3_skipPairs nn hb_l0) (np_s rfl) ?_; intro u3 F_u3
        refine fm_ca F_u3 (pf_X3_nextClass nn hb_l0) (np_s rfl) ?_; intro u5 F_u5
        refine fm_xl ?_; intro v6
        exact fm_tl F_u5 (ih hb_l0) (fun _ _ z => z)
set_option maxRecDepth 4000 in
theorem pf_X3_readHandlers (nn : Nat) {a0 : Nat} {a1 : Int} {h : ms_M} (hb_a0 : kc_O a0 = 3) : Fm_ (np_S a0 [2, 3]) h (qf_X3_readHandlers nn a0 a1 h) (fun r => r) := by
  unfold qf_X3_readHandlers
  have F_h : ∀ c k : Nat, (np_S a0 [2, 3]) c k → h c k = h c k := fun _ _ _ => rfl
  refine fm_ca F_h (pf_X3_nextUpTo nn hb_a0) (np_s rfl) ?_; intro u10 F_u10
  refine fm_xl ?_; intro v12
  refine fm_wA F_u10 (np_a (by decide)) ?_; intro h13 F_h13
  refine fm_xl ?_; intro v15
  refine fm_wA F_h13 (np_a (by decide)) ?_; intro h17 F_h17
  exact fm_tl F_h17 (pw_X3_readHandlers_33 nn _ hb_a0) (fun _ _ z => z)
set_option maxRecDepth 4000 in
theorem pj_X3_readMethod_52 (nn : Nat) {l0 : Nat} {l1 : Int} {l2 : Int} {l3 : Int} {h : ms_M} (hb_l0 : kc_O l0 = 3) : Fm_ (np_S l0 [2, 3]) h (qj_X3_readMethod_52 nn l0 l1 l2 l3 h) (fun r => r) := by
  unfold qj_X3_readMethod_52
  have F_h : ∀ c k : Nat, (np_S l0 [2, 3]) c k → h c k = h c k := fun _ _ _ => rfl
  refine fm_xl ?_; intro v2
  refine fm_wA F_h (np_a (by decide)) ?_; intro h3 F_h3
  refine fm_xl ?_; intro v5
  refine fm_wA F_h3 (np_a (by decide)) ?_; intro h6 F_h6
  refine fm_xl ?_; intro v8
  refine fm_ca F_h6 (pf_X3_nextUpTo nn hb_l0) (np_s rfl) ?_; intro u10 F_u10
  refine fm_wA F_u10 (np_a (by decide)) ?_; intro h11 F_h11
  refine fm_xl ?_; intro v13
  refine fm_xl ?_; intro v14
  refine fm_xl ?_; intro v16
  refine fm_rd ?_; intro v17
  refine fm_xl ?_; intro v18
  refine fm_ca F_h11 (pf_X3_nextUpTo nn hb_l0) (np_s rfl) ?_; intro u20 F_u20
  refine fm_wA F_u20 (np_a (by decide)) ?_; intro h21 F_h21
  refine fm_ca F_h21 (pf_X3_readCode nn hb_l0) (np_s rfl) ?_; intro u23 F_u23
  refine fm_ca F_u23 (pf_X3_readHandlers nn hb_l0) (np_s rfl) ?_; intro u25 F_u25
  refine fm_ca F_u25 (pf_X3_readFrames nn hb_l0) (np_s rfl) ?_; intro u27 F_u27
  exact fm_ret F_u27
set_option maxRecDepth 4000 in
theorem pf_X3_readMethod (nn : Nat) {a0 : Nat} {a1 : Int} {h : ms_M} (hb_a0 : kc_O a0 = 3) : Fm_ (np_S a0 [2, 3]) h (qf_X3_readMethod nn a0 a1 h) (fun r => r) := by
  unfold qf_X3_readMethod
  have F_h : ∀ c k : Nat, (np_S a0 [2, 3]) c k → h c k = h c k := fun _ _ _ => rfl
  refine fm_xl ?_; intro v29
  refine fm_ca F_h (pf_X3_nextUpTo nn hb_a0) (np_s rfl) ?_; intro u31 F_u31
  refine fm_wA F_u31 (np_a (by decide)) ?_; intro h32 F_h32
  refine fm_xl ?_; intro v34
  refine fm_ca F_h32 (pf_X3_nextName nn hb_a0) (np_s rfl) ?_; intro u36 F_u36
  refine fm_wA F_u36 (np_a (by decide)) ?_; intro h37 F_h37
  refine fm_ca F_h37 (pf_X3_next nn hb_a0) (np_s rfl) ?_; intro u39 F_u39
  refine fm_pu ?_; intro u41
  refine fm_if ?_ ?_
  · exact fm_tl F_u39 (pj_X3_readMethod_52 nn hb_a0) (fun _ _ z => z)
  · refine fm_xl ?_; intro v43
    refine fm_ca F_u39 (pf_X3_bad nn hb_a0) (np_s rfl) ?_; intro u45 F_u45
    exact fm_tl F_u45 (pj_X3_readMethod_52 nn hb_a0) (fun _ _ z => z)
