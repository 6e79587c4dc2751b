/- E of both sides: new rows as a P -/
section
variable {nn : Nat} {X : BCx} {dp i a b e : Int} {p q : Nat} {h g u r w m : ms_M} {v : Int × ms_M}
/-- what given leaves of the tree -/
theorem gv_fr (d : Nat) {x : Int} : Pc ((qg_X13_condition nn d).2.1 x r) (fun z => ∀ cc y : Nat, ¬ (cc = 160 ∧ (y = 9 ∨ y = 10 ∨ y = 57)) → ¬ cc = 199 → ¬ (174 ≤ cc ∧ cc ≤ 176) → z.2 cc y = r cc y) := fun z ez cc y c1 c2 c3 => (fg_X13_condition nn d).2.1 z ez cc y (nw_of (by unfold wl_X13_given; simp only [List.mem_cons, List.not_mem_nil, or_false]; omega) (by unfold wf_X13_given; simp only [List.mem_cons, List.not_mem_nil, or_false, Prod.mk.injEq]; omega))
theorem p3_pi {t : Nat} {ix : Int} (Y : CXs X) (ne : 0 ≤ a ∧ a ≤ e ∧ e < b) (nd : bT X 167 e.toNat = 28 ∧ bT X 168 e.toNat = ((p + 2 : Nat) : Int)) (kk : bK X p = 21 ∧ bK X (p + 1) = 20 ∧ bK X (p + 2) = 44) (H : E0 nn X dp ix (e + 1) b (p + 3) t (bT X 170 e.toNat)) (kt : bK X t = 45 ∧ q = t + 1) (pt : p + 3 < t) : P3 nn X dp 0 a b p q e := by
  intro d d2 h r Z Q b57 HB HC HF
  obtain ⟨kt1, hq⟩ := kt
  subst hq
  have Q0 := Q
  obtain ⟨B, ⟨q1, q2, q3, q4⟩, -, -⟩ := Q0
  have T : ∀ cc : Nat, 163 ≤ cc ∧ cc ≤ 173 → r cc e.toNat = bT X cc e.toNat := fun cc z => B.2.2.2.2.2.1 cc e.toNat (by omega)
  have TB : TBc (bK X) (bP X) (bc X) h := B.1.1.1.1
  have c3 := Y.1.2.1
  have p2c : p + 2 < bc X := tb_lt Y.1 (by omega)
  have nl : ¬ bT X 167 e.toNat = 30 ∧ ¬ bT X 167 e.toNat = 31 ∧ ¬ bT X 167 e.toNat = 32 ∧ ¬ bT X 167 e.toNat = 37 ∧ ¬ bT X 167 e.toNat = 38 := by omega
  unfold qo_X10_readPrimary
  refine pc_sv (c_kind Y.1 TB q2 q1 q3) ?_; intro u25 q25
  refine pc_if (fun z => absurd z (by omega)) (fun _ => ?_)
  refine pc_if (fun _ => ?_) (fun z => absurd (show u25 = 21 by omega) z)
  refine p3_fin Y Q ?_ HC HF q1
  cases d with
  | zero => exact pc_none
  | succ d =>
    show Pc (qo_X10_readNew nn (qg_X10_readValue nn d) dp h) _
    unfold qo_X10_readNew
    rw [q1]
    refine pc_add (by omega) ?_; intro v54 e54
    refine pc_sv (c_kindAt Y.1 TB (t := p + 1) (by omega)) ?_; intro u57 q57
    refine pc_if (fun z => absurd (show u57 = 20 by omega) z) (fun _ => ?_)
    unfold qj_X10_readNew_28
    refine pc_if (fun z => absurd z (by decide)) (fun _ => ?_)
    unfold qj_X10_readNew_43
    refine pc_if (fun _ => ?_) (fun z => absurd (by decide) z)
    refine pc_add (by omega) ?_; intro v22 e22
    refine pc_sv (c_kindAt Y.1 TB (t := p + 2) (by omega)) ?_; intro u24 q24
    refine pc_if (fun _ => ?_) (fun z => absurd (show ¬ u24 = 40 by omega) z)
    refine pc_add (by omega) ?_; intro v26 e26
    refine pc_xl ?_; intro h27 e27
    refine p_arr (cl := 0) (l3 := 1) (tk := 0) Y Q b57 ne ⟨kt1, pt⟩ (.inl ⟨nd.1, rfl, rfl⟩) p2c H (h1 := h27) (fun cc x z => by rw [e27, up_n z]) (by rw [e27, up_s]; omega) d (fun RES HN d2 => ?_) d2 (by omega)
    refine w_one (by omega) q4 (r_nled (by rw [T 167 (by omega)]; exact nl)) (fun d => ?_) d2
    unfold qo_X13_rule
    refine pc_rA ?_; intro _ _ v83 e83
    rw [T 167 (by omega), nd.1] at e83
    rw [e83]
    refine pc_if (fun z => absurd z (by decide)) (fun _ => ?_)
    refine pc_if (fun z => absurd z (by decide)) (fun _ => ?_)
    refine pc_if (fun z => absurd z (by decide)) (fun _ => ?_)
    refine pc_if (fun z => absurd z (by decide)) (fun _ => ?_)
    refine pc_if (fun z => absurd z (by decide)) (fun _ => ?_)
    refine pc_if (fun z => absurd z (by decide)) (fun _ => ?_)
    refine pc_if (fun z => absurd z (by decide)) (fun _ => ?_)
    refine pc_if (fun z => absurd z (by decide)) (fun _ => ?_)
    refine pc_if (fun _ => ?_) (fun z => absurd rfl z)
    refine pc_rA ?_; intro _ _ v146 e146
    rw [T 170 (by omega)] at e146
    rw [e146]
    refine pc_se ?_; intro u148 e148
    have F8 := gv_fr d u148 e148
    have HA := pi_sv (HN d) e148
    rw [if_pos rfl] at HA
    refine pc_if (fun z => pi_p HA z) (fun z => ?_)
    have HA := pi_n HA z
    refine pc_rA ?_; intro _ _ v150 e150
    rw [F8 168 _ (by omega) (by omega) (by omega), T 168 (by omega), nd.2] at e150
    rw [e150]
    exact HA
theorem p3_pr {t : Nat} {ix : Int} (Y : CXs X) (ne : 0 ≤ a ∧ a ≤ e ∧ e < b) (nd : bT X 167 e.toNat = 29 ∧ bT X 168 e.toNat = ((p + 1 : Nat) : Int) ∧ bT X 172 e.toNat = ((p + 2 : Nat) : Int)) (kk : bK X p = 21 ∧ bK X (p + 1) = 2 ∧ bK X (p + 2) = 44) (H : E0 nn X dp ix (e + 1) b (p + 3) t (bT X 170 e.toNat)) (kt : bK X t = 45 ∧ q = t + 1) (pt : p + 3 < t) : P3 nn X dp 0 a b p q e := by
  intro d d2 h r Z Q b57 HB HC HF
  obtain ⟨kt1, hq⟩ := kt
  subst hq
  have Q0 := Q
  obtain ⟨B, ⟨q1, q2, q3, q4⟩, -, -⟩ := Q0
  have T : ∀ cc : Nat, 163 ≤ cc ∧ cc ≤ 173 → r cc e.toNat = bT X cc e.toNat := fun cc z => B.2.2.2.2.2.1 cc e.toNat (by omega)
  have TB : TBc (bK X) (bP X) (bc X) h := B.1.1.1.1
  have TQ : TBq (bK X) (bP X) (bc X) r := B.1.1.2.2.1
  have c3 := Y.1.2.1
  have n8 := Y.2.2.1
  have p2c : p + 2 < bc X := tb_lt Y.1 (by omega)
  have v0 := (B.1.1.2.2.2.1.1 (p + 1) (by omega) kk.2.1).1.1
  have nl : ¬ bT X 167 e.toNat = 30 ∧ ¬ bT X 167 e.toNat = 31 ∧ ¬ bT X 167 e.toNat = 32 ∧ ¬ bT X 167 e.toNat = 37 ∧ ¬ bT X 167 e.toNat = 38 := by omega
  have RULE : ∀ (RES : Int × ms_M → Prop), (∀ (d : Nat) (u157 : Int), CLz (fun k => bV X (bC X k)) (bn X) (bV X (p + 1)) u157 → Pc (if ¬ u157 = (-1) then (qj_X13_rule_317 nn (qg_X13_condition nn d) e u157 r) else (rd_A 9000 168 e r fun v159 => mx_sv (qf_X13_wrong nn 5 v159 r) fun u161 => qj_X13_rule_317 nn (qg_X13_condition nn d) e u157 u161)) (fun u => ∀ z : ms_M, z = up_M u.2 174 e.toNat u.1 → (z 160 9 = 0 → RES (u.1, z)) ∧ (¬ z 160 9 = 0 → RES (0, z)))) → ∀ d2 : Nat, Pc ((qg_X13_condition nn d2).2.2.1 e r) RES := fun RES HN d2 => by
    refine w_one (by omega) q4 (r_nled (by rw [T 167 (by omega)]; exact nl)) (fun d => ?_) d2
    unfold qo_X13_rule
    refine pc_rA ?_; intro _ _ v83 e83
    rw [T 167 (by omega), nd.1] at e83
    rw [e83]
    refine pc_if (fun z => absurd z (by decide)) (fun _ => ?_)
    refine pc_if (fun z => absurd z (by decide)) (fun _ => ?_)
    refine pc_if (fun z => absurd z (by decide)) (fun _ => ?_)
    refine pc_if (fun z => absurd z (by decide)) (fun _ => ?_)
    refine pc_if (fun z => absurd z (by decide)) (fun _ => ?_)
    refine pc_if (fun z => absurd z (by decide)) (fun _ => ?_)
    refine pc_if (fun z => absurd z (by decide)) (fun _ => ?_)
    refine pc_if (fun z => absurd z (by decide)) (fun _ => ?_)
    refine pc_if (fun z => absurd z (by decide)) (fun _ => ?_)
    refine pc_if (fun _ => ?_) (fun z => absurd rfl z)
    refine pc_rA ?_; intro _ _ v155 e155
    rw [T 168 (by omega), nd.2.1] at e155
    refine pc_sv (r_classOf Y.1 Y.2.1 B.1.1.2.2 kk.2.1 e155) ?_; intro u157 q157
    exact HN d u157 q157
  unfold qo_X10_readPrimary
  refine pc_sv (c_kind Y.1 TB q2 q1 q3) ?_; intro u25 q25
  refine pc_if (fun z => absurd z (by omega)) (fun _ => ?_)
  refine pc_if (fun _ => ?_) (fun z => absurd (show u25 = 21 by omega) z)
  refine p3_fin Y Q ?_ HC HF q1
  cases d with
  | zero => exact pc_none
  | succ d =>
    show Pc (qo_X10_readNew nn (qg_X10_readValue nn d) dp h) _
    unfold qo_X10_readNew
    rw [q1]
    refine pc_add (by omega) ?_; intro v54 e54
    refine pc_sv (c_kindAt Y.1 TB (t := p + 1) (by omega)) ?_; intro u57 q57
    refine pc_if (fun _ => ?_) (fun z => absurd (show ¬ u57 = 20 by omega) z)
    unfold qj_X10_readNew_28
    refine pc_if (fun _ => ?_) (fun z => absurd rfl z)
    refine pc_sv (c_rnc Y B q3 kk.2.1 (x := v54) (y := v54) (by omega)) ?_; intro u50 q50
    rcases q50 with ⟨cl, cn, eu⟩ | ⟨cl, cn, t1, t2⟩
    · have cb := clz_v cl v0 cn
      unfold qj_X10_readNew_43
      refine pc_if (fun _ => ?_) (fun z => absurd cn z)
      refine pc_add (by omega) ?_; intro v22 e22
      rw [eu]
      have TB2 : TBc (bK X) (bP X) (bc X) (up_M h 2 10 v54) := tbc_k TB (fun cc y z => up_n (by omega))
      refine pc_sv (c_kindAt Y.1 TB2 (t := p + 2) (by omega)) ?_; intro u24 q24
      refine pc_if (fun _ => ?_) (fun z => absurd (show ¬ u24 = 40 by omega) z)
      refine pc_add (by omega) ?_; intro v26 e26
      refine pc_xl ?_; intro h27 e27
      refine p_arr (cl := u50.1) (l3 := 0) (tk := 0) Y Q b57 ne ⟨kt1, pt⟩ (.inr ⟨nd.1, rfl, cb⟩) p2c H (h1 := h27) (fun cc x z => by rw [e27, up_n z, up_n z]) (by rw [e27, up_s]; omega) d (fun RES HN d2 => ?_) d2 (by omega)
      refine RULE RES (fun d u157 cl2 => ?_) d2
      have ec := cls_d cl2 cl
      rw [ec]
      refine pc_if (fun _ => ?_) (fun z => absurd cn z)
      unfold qj_X13_rule_317
      refine pc_rA ?_; intro _ _ v65 e65
      rw [T 170 (by omega)] at e65
      rw [e65]
      refine pc_se ?_; intro u67 e67
      have F8 := gv_fr d u67 e67
      have HA := pi_sv (HN d) e67
      rw [if_neg (show ¬ (0 : Int) = 1 by decide)] at HA
      have tyr := ty_c (t := 100 + u50.1) (.inr (.inr (.inr (.inr (.inr (.inr (by omega)))))))
      have R342 : ∀ (z1 : ms_M) (QQ : Int × ms_M → Prop), Pc (some (ty_T (100 + u50.1), z1)) QQ → Pc (qj_X13_rule_342 nn (qg_X13_condition nn d) u50.1 z1) QQ := fun z1 QQ HQ => by
        unfold qj_X13_rule_342
        refine pc_xl ?_; intro v61 e61
        rw [oq_mul_eq (by omega) (by omega) (by omega)] at e61
        refine pc_add (by omega) ?_; intro v62 e62
        refine pc_add (by omega) ?_; intro v63 e63
        rw [show v63 = ty_T (100 + u50.1) by omega]
        exact HQ
      refine pc_if (fun z => R342 _ _ (pi_p HA z)) (fun z => ?_)
      have HA := pi_n HA z
      refine pc_rA ?_; intro _ _ v69 e69
      rw [F8 172 _ (by omega) (by omega) (by omega), T 172 (by omega), nd.2.2] at e69
      rw [e69]
      refine pc_se ?_; intro u71 e71
      have HB2 := pi_sv HA e71
      exact R342 _ _ HB2
    · unfold qj_X10_readNew_43
      refine pc_if (fun z => absurd cn z) (fun _ => ?_)
      refine pc_ret (RULE _ (fun d u157 cl2 => ?_) d2)
      have ec := cls_d cl2 cl
      refine pc_if (fun z => absurd ec z) (fun _ => ?_)
      refine pc_rA ?_; intro _ _ v159 e159
      rw [T 168 (by omega), nd.2.1] at e159
      refine pc_sv (r_wrong TQ (p := p + 1) (by omega) q4 e159) ?_; intro u161 ⟨w1, w2⟩
      refine pc_imp (ft_qj_X13_rule_317 (ftg_X13_condition nn d) (by omega)) (fun y F => fun zz ez => ?_)
      have y9 : zz 160 9 = 5 := by rw [ez, up_n (by omega), F.1]; exact w1
      have y10 : zz 160 10 = bP X (p + 1) := by rw [ez, up_n (by omega), F.2]; exact w2
      refine ⟨fun y => absurd y (by omega), fun _ => .inl (.inl ⟨by omega, ?_, ?_⟩)⟩
      · show zz 160 9 = u50.2 2 11
        rw [y9, t1]
      · show zz 160 10 = u50.2 2 12
        rw [y10, t2]
end
