/- E of both sides: a NAME -/
section
variable {nn : Nat} {X : BCx} {dp i a b e : Int} {p q : Nat} {h g u r w m : ms_M} {v : Int × ms_M}
/-- a member that both sides have found -/
theorem mbx_of {s x : Int} {j k : Nat} (B : BX X h r) (hs : s = 0 ∨ s = 1) (hj : j < bM X) (hk : k < 8) (A : MSm r k s j) (hx : x = ((12 * k + mcn_T r k s j : Nat) : Int)) : MBx X s x (j : Int) ∧ MSm (bB X) k s j ∧ mcn_T r k s j = mcn_T (bB X) k s j := by
  have R := B.2.2.2.2.2.2.1
  have mc : mcn_T r k s j = mcn_T (bB X) k s j := mcn_k (fun cc x z => R cc x (by omega)) j
  have ms : MSm (bB X) k s j := (msm_k (R 181 j (by omega)) (R 182 j (by omega))).mp A
  exact ⟨⟨j, k, ⟨hj, hk⟩, ms, rfl, by rw [hx, mc]⟩, ms, mc⟩
/-- a field's type on both sides -/
theorem fld_ty (Y : CXs X) (B : BX X h r) {j k : Nat} {x : Int} (hj : j < bM X) (hk : k < 8) (A : MSm r k 0 j) (hx : x = ((12 * k + mcn_T r k 0 j : Nat) : Int)) : (0 ≤ x ∧ x < 96) ∧ r 187 j = ty_T (h 19 x.toNat) ∧ VTn (bn X) (h 19 x.toNat) ∧ ¬ h 19 x.toNat = 303 := by
  obtain ⟨MX, ms, mc⟩ := mbx_of B (.inl rfl) hj hk A hx
  have HM := B.1.2.2.1
  obtain ⟨f1, f2, f3, f4⟩ := HM.2.1 j k hj hk A
  have TF := Y.2.2.2.2.2.2.2.2.1 j k hj hk ms
  have ix := mb_ix Y.2.2.2.2.2.2.1.2.2.1 hj hk (.inl rfl) ms
  have e19 := B.2.2.2.2.2.2.2.1 19 x.toNat (by omega)
  have xe : x.toNat = 12 * k + mcn_T r k 0 j := by omega
  refine ⟨by omega, ?_, ?_, ?_⟩
  · rw [xe]; exact f2.2.2
  · rw [e19, xe, mc]; exact TF
  · rw [xe]; exact f3
theorem c_tyF {x : Int} (hx : 0 ≤ x ∧ x < 96) : Pc (qf_X2_typeOfField nn x h) (fun u => u = h 19 x.toNat) := by
  unfold qf_X2_typeOfField
  refine pc_if (fun z => absurd z (by omega)) (fun _ => ?_)
  refine pc_if (fun z => absurd z (by omega)) (fun _ => ?_)
  refine pc_rA ?_; intro _ _ v4 e4
  exact pc_ret e4
theorem c_nmF {x c : Int} (hx : 0 ≤ x ∧ x < 96) : Pc (qf_X10_nameField nn c x h) (fun u => (u 49 11 = 3 ∧ u 49 13 = c ∧ u 49 14 = x ∧ u 49 12 = h 19 x.toNat) ∧ ∀ cc y : Nat, ¬ (cc = 49 ∧ (y = 11 ∨ y = 12 ∨ y = 13 ∨ y = 14)) → u cc y = h cc y) := by
  unfold qf_X10_nameField
  refine pc_xl ?_; intro h1 e1
  refine pc_xl ?_; intro h2 e2
  refine pc_xl ?_; intro h3 e3
  refine pc_sv (c_tyF hx) ?_; intro u6 q6
  refine pc_xl ?_; intro h7 e7
  rw [e3, up_n (by omega), e2, up_n (by omega), e1, up_n (by omega)] at q6
  refine pc_ret ⟨⟨?_, ?_, ?_, ?_⟩, fun cc y z => ?_⟩
  · rw [e7, up_n (by omega), e3, up_n (by omega), e2, up_n (by omega), e1, up_s]
  · rw [e7, up_n (by omega), e3, up_n (by omega), e2, up_s]
  · rw [e7, up_n (by omega), e3, up_s]
  · rw [e7, up_s]; exact q6
  · rw [e7, up_n (by omega), e3, up_n (by omega), e2, up_n (by omega), e1, up_n (by omega)]
/-- is a call of a class's name behind it -/
theorem c_icb {t : Nat} {x : Int} (Y : CXs X) (TB : TBc (bK X) (bP X) (bc X) h) (hx : x = (t : Int)) (ht : t < bc X) : Pc (qf_X10_isCallBehindPoint nn x h) (fun u => (u = 1 ∧ bK X t = 48 ∧ bK X (t + 1) = 2 ∧ bK X (t + 2) = 40) ∨ (u = 0 ∧ ¬ (bK X t = 48 ∧ bK X (t + 1) = 2 ∧ bK X (t + 2) = 40))) := by
  subst hx
  have c3 := Y.1.2.1
  unfold qf_X10_isCallBehindPoint
  refine pc_sv (c_kindAt Y.1 TB (t := t) rfl) ?_; intro u3 q3
  refine pc_if (fun z => pc_ret (.inr ⟨rfl, fun y => z (q3.trans y.1)⟩)) (fun z => ?_)
  refine pc_add (by omega) ?_; intro v5 e5
  refine pc_sv (c_kindAt Y.1 TB (t := t + 1) (by omega)) ?_; intro u7 q7
  refine pc_if (fun z2 => pc_ret (.inr ⟨rfl, fun y => z2 (q7.trans y.2.1)⟩)) (fun z2 => ?_)
  refine pc_add (by omega) ?_; intro v9 e9
  refine pc_sv (c_kindAt Y.1 TB (t := t + 2) (by omega)) ?_; intro u11 q11
  refine pc_if (fun z3 => pc_ret (.inr ⟨rfl, fun y => z3 (q11.trans y.2.2)⟩)) (fun z3 => ?_)
  exact pc_ret (.inl ⟨rfl, q3.symm.trans (Classical.byContradiction z), q7.symm.trans (Classical.byContradiction z2), q11.symm.trans (Classical.byContradiction z3)⟩)
/-- a variable, a field of one's own, or neither -/
theorem p_name (Y : CXs X) (Q : EPr X dp p h r) (b57 : 0 ≤ r 160 57 ∧ r 160 57 ≤ 10000) (ne : 0 ≤ a ∧ a ≤ e ∧ e < b) (nd : bT X 167 e.toNat = 25 ∧ bT X 168 e.toNat = (p : Int)) (kp : bK X p = 2) (k1 : ¬ bK X (p + 1) = 40) (p1 : p + 1 < bc X) (HB : bK X (p + 1) = 48 → bK X (p + 1 + 1) = 2 → bK X (p + 1 + 2) = 40 → (0 : Int) = 0 → bT X 167 e.toNat = 25 → Pc (qf_X13_sightOf nn (p : Int) r) (fun u => ¬ u = -1) ∨ Pc (qf_X13_memberOf nn (bo X) (p : Int) 0 r) (fun u => ¬ u = -1)) (d d2 : Nat) : Pc (qo_X10_readNamed nn (qg_X10_readValue nn d) dp h) (fun u => Pc ((qg_X13_condition nn d2).2.2.1 e r) (fun v => (SFj u v.2 ∨ VDj X 0 a b p (p + 1) e h r u v) ∨ POk nn X 0 a b p (p + 1) e h r u v)) := by
  have Q0 := Q
  obtain ⟨B, ⟨q1, q2, q3, q4⟩, ⟨f1, f2, f3⟩, o1⟩ := Q0
  have T : ∀ cc : Nat, 163 ≤ cc ∧ cc ≤ 173 → r cc e.toNat = bT X cc e.toNat := fun cc z => B.2.2.2.2.2.1 cc e.toNat (by omega)
  have BK := Y.1
  have SK := Y.2.1
  have n8 := Y.2.2.1
  have own := Y.2.2.2.1
  have c3 := BK.2.1
  have H := B.1
  have TB : TBc (bK X) (bP X) (bc X) h := H.1.1.1
  have VL : VLc (bK X) (bV X) (bc X) h := H.1.1.2.1
  have TQ : TBq (bK X) (bP X) (bc X) r := H.1.2.2.1
  have NR : NMr (bK X) (bV X) (bc X) r := H.1.2.2.2.1
  have nl : ¬ bT X 167 e.toNat = 30 ∧ ¬ bT X 167 e.toNat = 31 ∧ ¬ bT X 167 e.toNat = 32 ∧ ¬ bT X 167 e.toNat = 37 ∧ ¬ bT X 167 e.toNat = 38 := by omega
  unfold qo_X10_readNamed
  rw [q1]
  refine pc_sv (c_valueAt BK TB VL kp rfl) ?_; intro u37 q37
  rw [q37]
  refine pc_add (by omega) ?_; intro v40 e40
  refine pc_xl ?_; intro h41 e41
  rw [show v40 = ((p + 1 : Nat) : Int) by omega] at e41
  have E41 : ∀ cc x : Nat, ¬ (cc = 2 ∧ x = 10) → h41 cc x = h cc x := fun cc x z => by rw [e41, up_n z]
  have TB1 : TBc (bK X) (bP X) (bc X) h41 := tbc_k TB (fun cc y z => E41 cc y (by omega))
  have B1 : BX X h41 r := bx_k B (fun cc x z => E41 cc x (by omega)) (fun _ _ _ => rfl)
  refine pc_sv (c_kind BK TB1 p1 (by rw [e41, up_s]) (by rw [E41 2 11 (by omega)]; exact q3)) ?_; intro u44 q44
  refine pc_if (fun _ => ?_) (fun z => absurd (show ¬ u44 = 40 by omega) z)
  refine pc_se ?_; intro u47 e47
  have JL := j_loc (nn := nn) BK NR B1.2.1 (t := p) kp (x := bV X p) (y := (p : Int)) rfl rfl u47 e47
  -- the reference's side of a name
  have RULE : ∀ (RES : Int × ms_M → Prop), (∀ d : Nat, Pc (qf_X13_named nn e r) (fun u => ∀ z : ms_M, z = up_M u.2 174 e.toNat u.1 → (z 160 9 = 0 → RES (u.1, z)) ∧ (¬ z 160 9 = 0 → RES (0, z)))) → Pc ((qg_X13_condition nn d2).2.2.1 e r) RES := fun RES HN => by
    refine w_one b57 q4 (r_nled (by rw [T 167 (by omega)]; exact nl)) (fun d => ?_) d2
    unfold qo_X13_rule
    refine pc_rA ?_; intro _ _ v83 e83
    rw [T 167 (by omega), nd.1] at e83
    rw [e83]
    refine pc_if (fun z => absurd z (by decide)) (fun _ => ?_)
    refine pc_if (fun z => absurd z (by decide)) (fun _ => ?_)
    refine pc_if (fun z => absurd z (by decide)) (fun _ => ?_)
    refine pc_if (fun z => absurd z (by decide)) (fun _ => ?_)
    refine pc_if (fun z => absurd z (by decide)) (fun _ => ?_)
    refine pc_if (fun _ => ?_) (fun z => absurd rfl z)
    refine pc_sv (HN d) ?_; intro u110 q110
    exact pc_ret q110
  refine pc_if (fun z47 => ?_) (fun z47 => ?_)
  · -- a variable
    unfold qj_X10_readNamed_123
    refine pc_if (fun z => absurd z z47) (fun _ => ?_)
    refine pc_xl ?_; intro h23 e23
    refine pc_xl ?_; intro h24 e24
    have RES : ∀ (s : Nat), (s : Int) < r 160 50 → u47 = ((s + bF X : Nat) : Int) → Pc (mx_sv (qf_X1_typeOfLocal nn u47 h24) fun u27 => xl (up_M h24 49 12 u27) fun h28 => some h28) (fun u => ∀ z : ms_M, z = up_M (up_M (up_M r 175 e.toNat (-1)) 176 e.toNat ((s : Int) + (bF X : Int))) 174 e.toNat (r 197 s) → POk nn X 0 a b p (p + 1) e h r u (r 197 s, z)) := fun s hs es => by
      obtain ⟨⟨a1, a2, a3⟩, -, a5⟩ := B.2.1
      have s5 := a5 s hs
      refine pc_sv (c_typeOfLocal es (by omega)) ?_; intro u27 q27
      have E24 : ∀ cc x : Nat, ¬ (cc = 49 ∧ (x = 11 ∨ x = 14)) → ¬ (cc = 2 ∧ x = 10) → h24 cc x = h cc x := fun cc x z1 z2 => by rw [e24, up_n (by omega), e23, up_n (by omega)]; exact E41 cc x z2
      rw [E24 38 _ (by omega) (by omega)] at q27
      have vt := B.2.2.2.2.2.2.2.2 (s + bF X) (by omega)
      refine pc_xl ?_; intro h28 e28
      have E28 : ∀ cc x : Nat, ¬ (cc = 49 ∧ (x = 11 ∨ x = 12 ∨ x = 14)) → ¬ (cc = 2 ∧ x = 10) → h28 cc x = h cc x := fun cc x z1 z2 => by rw [e28, up_n (by omega)]; exact E24 cc x (by omega) z2
      have t12 : h28 49 12 = h 38 (s + bF X) := by rw [e28, up_s]; exact q27
      have t14 : h28 49 14 = u47 := by rw [e28, up_n (by omega), e24, up_s]
      have t11 : h28 49 11 = 2 := by rw [e28, up_n (by omega), e24, up_n (by omega), e23, up_s]
      refine pc_ret (fun z ez => ?_)
      refine ⟨⟨?_, p1, by omega, ?_, ?_⟩, ⟨?_, ?_, ?_⟩, ⟨?_, ?_, ?_⟩, ⟨?_, ?_, ?_⟩, .inr (.inl ⟨⟨t11, rfl, nd.1⟩, ⟨?_, ?_, ?_, ?_, ?_⟩, ?_⟩)⟩
      · rw [e28, up_n (by omega), e24, up_n (by omega), e23, up_n (by omega), e41, up_s]
      · rw [E28 2 11 (by omega) (by omega)]; exact q3
      · show z 160 9 = 0
        rw [ez, up_n (by omega), up_n (by omega), up_n (by omega)]; exact q4
      · show r 197 s = ty_T (h28 49 12)
        rw [t12]; exact s5.2.2.2
      · rw [t12]; exact vt.1
      · show z 174 e.toNat = r 197 s
        rw [ez, up_s]
      · exact fun cc x a1 a2 a3 a4 a5 a6 a7 a8 => E28 cc x (by omega) (by omega)
      · exact ⟨fun cc x z1 z2 z3 => by show z cc x = _; rw [ez, up_n (by omega), up_n (by omega), up_n (by omega)], fun cc x z1 z2 z3 => by show z cc x = _; rw [ez, up_n (by omega), up_n (by omega), up_n (by omega)]⟩
      · exact ⟨E28 49 10 (by omega) (by omega), fun cc x z1 z2 z3 => E28 cc x (by omega) (by omega)⟩
      · exact frc_k f1 (fun cc x z => E28 cc x (by omega) (by omega))
      · rw [E28 34 1 (by omega) (by omega)]; omega
      · rw [E28 34 3 (by omega) (by omega)]; omega
      · show z 175 e.toNat = -1
        rw [ez, up_n (by omega), up_n (by omega), up_s]
      · show z 176 e.toNat = h28 49 14
        rw [ez, up_n (by omega), up_s, t14]; omega
      · rw [t14]; omega
      · rw [t14]; omega
      · rw [t12]; exact vt.2
      · exact fun cc x z => E28 cc x (by rcases z with z | z | z <;> first | (unfold RLc at z; omega) | omega) (by rcases z with z | z | z <;> first | (unfold RLc at z; omega) | omega)
    refine pc_fl ?_
    refine RULE _ (fun d => ?_)
    unfold qf_X13_named
    refine pc_rA ?_; intro _ _ v7 e7
    rw [T 168 (by omega), nd.2] at e7
    rw [e7]
    refine pc_sv JL ?_; intro u9 q9
    rcases q9 with ⟨z, -⟩ | ⟨s, s1, s2, s3⟩
    · exact absurd z z47
    · refine pc_if (fun z => absurd z (by omega)) (fun _ => ?_)
      refine pc_wA ?_; intro _ _ h27 e27
      have hF : (h27 160 53 = 0 ∧ bF X = 1) ∨ (¬ h27 160 53 = 0 ∧ bF X = 0) := by
        rw [e27, up_n (by omega)]
        rcases B.2.2.2.1 with ⟨y1, -, y2⟩ | ⟨y1, -, y2⟩
        · exact .inl ⟨y1, y2⟩
        · exact .inr ⟨y1, y2⟩
      refine pc_sv (r_local hF (by have := B.2.1.1; omega)) ?_; intro u30 q30
      refine pc_wA ?_; intro _ _ h31 e31
      refine pc_rA ?_; intro _ _ v33 e33
      rw [s2, Int.toNat_natCast, e31, up_n (by omega), e27, up_n (by omega)] at e33
      have R0 := RES s s1 s3
      refine pc_ret (fun z (ez : z = up_M h31 174 e.toNat v33) => ⟨fun _ => pc_imp R0 (fun u K => .inr ?_), fun y => absurd (by rw [ez, up_n (by omega), e31, up_n (by omega), e27, up_n (by omega)]; exact q4) y⟩)
      have K2 := K z (by rw [ez, e31, e27, q30, s2, e33])
      rw [e33]
      exact K2
  · -- no variable
    have u47' : u47 = -1 := Classical.byContradiction z47
    have e16 : h41 49 16 = bo X := by rw [E41 49 16 (by omega)]; exact B.2.2.1.1
    rw [e16]
    refine pc_se ?_; intro u51 e51
    have JF := j_fieldOf (nn := nn) BK SK B1.1 (t := p) kp (a := bo X) (by omega) u51 e51
    unfold qj_X10_readNamed_123
    refine pc_if (fun _ => ?_) (fun z => absurd u47' z)
    -- what the reference does
    have REF : ∀ RES : Int × ms_M → Prop, (∀ u14 : Int, LKR (bV X) (bM X) 0 (bV X p) r u51 u14 → qf_X13_memberOf nn (bo X) (p : Int) 0 r = some u14 → qf_X13_sightOf nn (p : Int) r = some (-1) → Pc (if ¬ u14 = (-1) then (if (r 160 53) = 0 then (qj_X13_named_95 nn e u14 r) else (rd_A 9000 168 e r fun v17 => mx_sv (qf_X13_wrong nn 7 v17 r) fun u19 => qj_X13_named_95 nn e u14 u19)) else (rd_A 9000 168 e r fun v22 => mx_sv (qf_X13_wrong nn 5 v22 r) fun u24 => qj_X13_named_95 nn e u14 u24)) (fun u => ∀ z : ms_M, z = up_M u.2 174 e.toNat u.1 → (z 160 9 = 0 → RES (u.1, z)) ∧ (¬ z 160 9 = 0 → RES (0, z)))) → Pc ((qg_X13_condition nn d2).2.2.1 e r) RES := fun RES HH => by
      refine RULE RES (fun d => ?_)
      unfold qf_X13_named
      refine pc_rA ?_; intro _ _ v7 e7
      rw [T 168 (by omega), nd.2] at e7
      rw [e7]
      refine pc_sv (pc_and JL (fun u eu => eu)) ?_; intro u9 ⟨q9, e9⟩
      rcases q9 with ⟨-, z9⟩ | ⟨s, -, -, s3⟩
      · rw [z9] at e9 ⊢
        refine pc_if (fun _ => ?_) (fun z => absurd rfl z)
        refine pc_rA ?_; intro _ _ v12 e12
        rw [T 168 (by omega), nd.2] at e12
        rw [e12, B.2.2.1.2]
        refine pc_sv (pc_and JF (fun u eu => eu)) ?_; intro u14 ⟨q14, e14⟩
        exact HH u14 q14 e14 e9
      · exact absurd u47' (by omega)
    have R187 : ∀ (j : Int) (z : ms_M) (zf : ¬ z 160 9 = 0), Pc (qj_X13_named_95 nn e j z) (fun u => FSr z u.2) := fun j z zf => ft_qj_X13_named_95 zf
    refine pc_if (fun z51 => ?_) (fun z51 => ?_)
    · -- neither
      refine pc_add (by omega) ?_; intro v1 e1
      refine pc_sv (c_icb Y TB1 (t := p + 1) (by omega) p1) ?_; intro u3 q3'
      refine pc_if (fun z3 => ?_) (fun z3 => ?_)
      · refine pc_sv (c_tell TB1 (by rw [E41 2 11 (by omega)]; exact q3) q2 rfl) ?_; intro u6 ⟨⟨t1, t2⟩, _⟩
        refine pc_ret (REF _ (fun u14 L e14 _ => ?_))
        have n14 : u14 = -1 := by
          rcases L with ⟨-, y⟩ | ⟨j, k, -, -, -, -, -, y⟩
          · exact y
          · exact absurd z51 (by omega)
        refine pc_if (fun z => absurd n14 z) (fun _ => ?_)
        refine pc_rA ?_; intro _ _ v22 e22
        rw [T 168 (by omega), nd.2] at e22
        refine pc_sv (r_wrong TQ q2 q4 e22) ?_; intro u24 ⟨w1, w2⟩
        refine pc_imp (R187 u14 u24 (by omega)) (fun y F => fun zz ez => ?_)
        have y9 : zz 160 9 = 5 := by rw [ez, up_n (by omega), F.1]; exact w1
        have y10 : zz 160 10 = bP X p := by rw [ez, up_n (by omega), F.2]; exact w2
        refine ⟨fun y => absurd y (by omega), fun _ => .inl (.inl ⟨by omega, ?_, ?_⟩)⟩
        · show zz 160 9 = u6 2 11
          rw [y9, t1]
        · show zz 160 10 = u6 2 12
          rw [y10, t2]
      · -- a class's name: it is not so
        have y : bK X (p + 1) = 48 ∧ bK X (p + 1 + 1) = 2 ∧ bK X (p + 1 + 2) = 40 := by
          rcases q3' with ⟨-, y⟩ | ⟨y, -⟩
          · exact y
          · exact absurd y z3
        intro uu _
        refine REF _ (fun u14 L e14 e9 => ?_)
        exfalso
        rcases HB y.1 y.2.1 y.2.2 rfl nd.1 with X1 | X1
        · exact X1 _ e9 rfl
        · have := X1 _ e14
          rcases L with ⟨-, y⟩ | ⟨j, k, -, -, -, -, -, y⟩
          · exact this y
          · exact absurd z51 (by omega)
    · -- a field
      refine pc_sv (c_this TB1 (by rw [E41 2 11 (by omega)]; exact q3) q2 rfl (by rw [E41 34 1 (by omega)]; omega) (by rw [E41 34 3 (by omega)]; omega)) ?_; intro u18 q18
      rw [E41 49 17 (by omega)] at q18
      rcases q18 with ⟨z17, CT⟩ | ⟨z17, t1, t2⟩
      · obtain ⟨⟨c1, c2, c3', c4⟩, c5⟩ := cth_f CT
        rw [E41 34 1 (by omega)] at c1
        rw [E41 34 3 (by omega)] at c2
        have C5 : ∀ cc x : Nat, ¬ (cc = 34 ∧ (x = 1 ∨ x = 3 ∨ x = 4)) → ¬ (cc = 35 ∨ cc = 36) → ¬ (cc = 49 ∧ (x = 11 ∨ x = 12)) → ¬ (cc = 2 ∧ x = 10) → u18 cc x = h cc x := fun cc x z1 z2 z3 z4 => by rw [c5 cc x z1 z2 z3]; exact E41 cc x z4
        have o16 : u18 49 16 = bo X := by rw [C5 49 16 (by omega) (by omega) (by omega) (by omega)]; exact B.2.2.1.1
        rw [o16]
        have st0 : r 160 53 = 0 := by
          rcases B.2.2.2.1 with ⟨y1, -⟩ | ⟨-, y2, -⟩
          · exact y1
          · exact absurd z17 y2
        refine pc_fl (REF _ (fun u14 L e14 _ => ?_))
        rcases L with ⟨y, -⟩ | ⟨j, k, j1, k8, ms, vn, y14, y51⟩
        · exact absurd y z51
        · obtain ⟨x96, ty1, ty2, ty3⟩ := fld_ty Y B j1 k8 ms y51
          obtain ⟨MX, -, -⟩ := mbx_of B (.inl rfl) j1 k8 ms y51
          refine pc_if (fun _ => ?_) (fun z => absurd (show ¬ u14 = -1 by omega) z)
          refine pc_if (fun _ => ?_) (fun z => absurd st0 z)
          unfold qj_X13_named_95
          refine pc_wA ?_; intro _ _ h2 e2
          refine pc_if (fun _ => ?_) (fun z => absurd (show ¬ u14 = -1 by omega) z)
          refine pc_rA ?_; intro _ _ v4 e4
          rw [y14, Int.toNat_natCast, e2, up_n (by omega), ty1] at e4
          refine pc_ret (fun z (ez : z = up_M h2 174 e.toNat v4) => ⟨fun _ => ?_, fun y => absurd (by rw [ez, up_n (by omega), e2, up_n (by omega)]; exact q4) y⟩)
          refine pc_sv (c_nmF x96) ?_; intro u21 ⟨⟨n1, n2, n3, n4⟩, n5⟩
          have t12 : u21 49 12 = h 19 u51.toNat := by rw [n4]; exact C5 19 _ (by omega) (by omega) (by omega) (by omega)
          have N5 : ∀ cc x : Nat, ¬ (cc = 34 ∧ (x = 1 ∨ x = 3 ∨ x = 4)) → ¬ (cc = 35 ∨ cc = 36) → ¬ (cc = 49 ∧ (x = 11 ∨ x = 12 ∨ x = 13 ∨ x = 14)) → ¬ (cc = 2 ∧ x = 10) → u21 cc x = h cc x := fun cc x z1 z2 z3 z4 => by rw [n5 cc x z3]; exact C5 cc x z1 z2 (by omega) z4
          have l1 : u21 34 1 = h 34 1 + 2 := by rw [n5 34 1 (by omega)]; exact c1
          have l3 : u21 34 3 = h 34 3 + 1 := by rw [n5 34 3 (by omega)]; exact c2
          refine pc_ret (.inr ?_)
          refine ⟨⟨?_, p1, by omega, ?_, ?_⟩, ⟨?_, ?_, ?_⟩, ⟨?_, ?_, ?_⟩, ⟨?_, by omega, by omega⟩, .inr (.inr (.inl ⟨⟨n1, rfl, by rw [n2]; omega, by rw [t12]; exact ty3⟩, ⟨?_, l3, by omega⟩, .inl ⟨nd.1, n2, fun PB WL L m M => ?_⟩⟩))⟩
          · rw [n5 2 10 (by omega), c5 2 10 (by omega) (by omega) (by omega), e41, up_s]
          · rw [N5 2 11 (by omega) (by omega) (by omega) (by omega)]; exact q3
          · show z 160 9 = 0
            rw [ez, up_n (by omega), e2, up_n (by omega)]; exact q4
          · show v4 = ty_T (u21 49 12)
            rw [t12]; exact e4
          · rw [t12]; exact ty2
          · show z 174 e.toNat = v4
            rw [ez, up_s]
          · exact fun cc x a1 a2 a3 a4 a5 a6 a7 a8 => N5 cc x (by omega) (by omega) (by omega) (by omega)
          · exact ⟨fun cc x z1 z2 z3 => by show z cc x = _; rw [ez, up_n (by omega), e2, up_n (by omega)], fun cc x z1 z2 z3 => by show z cc x = _; rw [ez, up_n (by omega), e2, up_n (by omega)]⟩
          · exact ⟨N5 49 10 (by omega) (by omega) (by omega) (by omega), fun cc x z1 z2 z3 => N5 cc x (by omega) (by omega) (by omega) (by omega)⟩
          · exact frc_k f1 (fun cc x z => N5 cc x (by omega) (by omega) (by omega) (by omega))
          · show MBx X 0 (u21 49 14) (z 175 e.toNat)
            rw [n3, ez, up_n (by omega), e2, up_s, y14]; exact MX
          · have M1 : MKx X PB WL L h41 m := mkx_c M (fun cc x z1 z2 z3 => E41 cc x (by omega))
            refine pc_imp (m_self CT e16 Y M1 (by rw [E41 34 1 (by omega)]; omega)) (fun w y => ⟨mkx_c y.1 (fun cc x z1 z2 z3 => n5 cc x (by omega)), y.2⟩)
      · -- this in a static method
        have S18 : ¬ u18 2 11 = 0 := by omega
        have st1 : ¬ r 160 53 = 0 := by
          rcases B.2.2.2.1 with ⟨-, y2, -⟩ | ⟨y1, -⟩
          · exact absurd y2 z17
          · exact y1
        have CF : Pc (mx_sv (qf_X10_nameField nn (u18 49 16) u51 u18) fun u21 => some u21) (fun u => FSc u18 u) := by
          refine pc_sv (fs_qf_X10_nameField S18) ?_; intro u21 F
          exact pc_ret F
        refine pc_imp CF (fun u F => REF _ (fun u14 L e14 _ => ?_))
        have n14 : ¬ u14 = -1 := by
          rcases L with ⟨y, -⟩ | ⟨j, k, -, -, -, -, y, -⟩
          · exact absurd y z51
          · omega
        refine pc_if (fun _ => ?_) (fun z => absurd n14 z)
        refine pc_if (fun z => absurd z st1) (fun _ => ?_)
        refine pc_rA ?_; intro _ _ v17 e17
        rw [T 168 (by omega), nd.2] at e17
        refine pc_sv (r_wrong TQ q2 q4 e17) ?_; intro u19 ⟨w1, w2⟩
        refine pc_imp (R187 u14 u19 (by omega)) (fun y F2 => fun zz ez => ?_)
        have y9 : zz 160 9 = 7 := by rw [ez, up_n (by omega), F2.1]; exact w1
        have y10 : zz 160 10 = bP X p := by rw [ez, up_n (by omega), F2.2]; exact w2
        refine ⟨fun y => absurd y (by omega), fun _ => .inl (.inl ⟨by rw [F.1]; exact S18, ?_, ?_⟩)⟩
        · show zz 160 9 = u 2 11
          rw [y9, F.1, t1]
        · show zz 160 10 = u 2 12
          rw [y10, F.2, t2]
end
