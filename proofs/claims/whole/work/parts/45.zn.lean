/- E of both sides: an element as a P -/
section
variable {nn : Nat} {X : BCx} {dp i a b e : Int} {p q : Nat} {h g u r w m : ms_M} {v : Int × ms_M}
theorem p3_pe {t uu : Nat} {ix iy : Int} (Y : CXs X) (ne : 0 ≤ a ∧ a ≤ e ∧ e < b) (nd : bT X 167 e.toNat = 32 ∧ bT X 168 e.toNat = (t : Int)) (kk : bK X t = 44 ∧ bK X uu = 45 ∧ q = uu + 1) (r1 : a ≤ bT X 170 e.toNat ∧ bT X 170 e.toNat < e) (CH : P3 nn X dp ix a e p t (bT X 170 e.toNat)) (H : E0 nn X dp iy (e + 1) b (t + 1) uu (bT X 171 e.toNat)) (tu : t + 1 < uu) (pt : p < t) : P3 nn X dp 0 a b p q e := by
  intro d d2 h r Z Q b57 HB HC HF
  obtain ⟨k44, k45, hq⟩ := kk
  have BK := Y.1
  have n8 := Y.2.2.1
  have c3 := BK.2.1
  have tc : t < bc X := tb_lt BK (by omega)
  have uc : uu < bc X := tb_lt BK (by omega)
  have u1c : uu + 1 < bc X := jp_lt BK uc (by omega)
  have NEX : ∀ (v83 : Int) (A : Option (Int × ms_M)) (F : Int → Option (Int × ms_M)), v83 = 32 → True := fun _ _ _ _ => trivial
  refine p3_led Y ne r1 CH (.inr k44) (fun r B => r_led4 (by rw [B.2.2.2.2.2.1 167 e.toNat (by omega), nd.1]; omega)) (fun r _ z => absurd z (by omega)) (fun r2 d2 y _ TQ TT hf g3 tk ey => ?_) (fun d d2 r r1' u9 v1 Q Q1 b57 R1 K9 FX n303 => ?_) d d2 r Z Q b57 HC HF (by omega)
  · -- the left side is void
    cases d2 with
    | zero => exact absurd ey (fun z => nomatch z)
    | succ d2 =>
      have W : Pc (qo_X13_rule nn (qg_X13_condition nn d2) e r2) (fun y => y.2 160 9 = 6 ∧ y.2 160 10 = bP X (bT X 168 (bT X 170 e.toNat).toNat).toNat) := by
        unfold qo_X13_rule
        refine pc_rA ?_; intro _ _ v83 e83
        rw [TT 167 e.toNat (by omega), nd.1] at e83
        rw [e83]
        refine pc_if (fun z => absurd z (by decide)) (fun _ => ?_)
        refine pc_if (fun z => absurd z (by decide)) (fun _ => ?_)
        refine pc_if (fun z => absurd z (by decide)) (fun _ => ?_)
        refine pc_if (fun z => absurd z (by decide)) (fun _ => ?_)
        refine pc_if (fun z => absurd z (by decide)) (fun _ => ?_)
        refine pc_if (fun z => absurd z (by decide)) (fun _ => ?_)
        refine pc_if (fun z => absurd z (by decide)) (fun _ => ?_)
        refine pc_if (fun z => absurd z (by decide)) (fun _ => ?_)
        refine pc_if (fun z => absurd z (by decide)) (fun _ => ?_)
        refine pc_if (fun z => absurd z (by decide)) (fun _ => ?_)
        refine pc_if (fun z => absurd z (by decide)) (fun _ => ?_)
        refine pc_if (fun z => absurd z (by decide)) (fun _ => ?_)
        refine pc_if (fun _ => ?_) (fun z => absurd rfl z)
        refine pc_sv (r_led3 TQ hf (TT 170 e.toNat (by omega)) g3 (tk := (bT X 168 (bT X 170 e.toNat).toNat).toNat) (by rw [TT 168 _ (by omega)]; omega) (by omega)) ?_; intro u168 ⟨_, s1, s2⟩
        have S1 : ¬ u168.2 160 9 = 0 := by omega
        refine pc_rA ?_; intro _ _ v170 e170
        refine pc_sv ((ftg_X13_condition nn d2).2.1 S1) ?_; intro u172 F1
        have S2 : ¬ u172.2 160 9 = 0 := by rw [F1.1]; exact S1
        have E1 : ∀ y : Int × ms_M, FSr u172.2 y.2 → y.2 160 9 = 6 ∧ y.2 160 10 = bP X (bT X 168 (bT X 170 e.toNat).toNat).toNat := fun y F => ⟨by rw [F.1, F1.1]; exact s1, by rw [F.2, F1.2]; exact s2⟩
        refine pc_se ?_; intro u173 _
        refine pc_if (fun _ => pc_imp (ft_qj_X13_rule_391 (ftg_X13_condition nn d2) S2) E1) (fun _ => ?_)
        exact pc_if (fun _ => pc_imp (ft_qj_X13_rule_403 (ftg_X13_condition nn d2) S2) E1) (fun _ => pc_imp (ft_qj_X13_rule_391 (ftg_X13_condition nn d2) S2) E1)
      exact W y ey
  · have Q0 := Q
    obtain ⟨B, ⟨q1, q2, q3, q4⟩, ⟨f1, f2, f3⟩, o1⟩ := Q0
    rw [if_pos (show ¬ bK X t = 48 by omega)]
    have K0 := K9
    obtain ⟨⟨x1, x2, x3, x4, x5⟩, ⟨x6, x7, x8⟩, ⟨x9, x10, x11⟩, ⟨x12, x13, x14⟩, -⟩ := K9
    obtain ⟨⟨y1, -⟩, y2⟩ := FX.2.2 (by omega)
    rw [if_neg n303] at y1
    have V7 := x7
    unfold VTn at V7
    cases d with
    | zero => exact pc_none
    | succ d =>
      have G := fsg_X10_readValue nn d
      show Pc (qo_X10_readElement nn (qg_X10_readValue nn d) dp u9) _
      unfold qo_X10_readElement
      rw [x1]
      refine pc_add (by omega) ?_; intro v11 e11
      refine pc_xl ?_; intro h12 e12
      rw [show v11 = ((t + 1 : Nat) : Int) by omega] at e12
      have E12 : ∀ cc x : Nat, ¬ (cc = 2 ∧ x = 10) → h12 cc x = u9 cc x := fun cc x z => by rw [e12, up_n z]
      refine pc_se ?_; intro u14 e14
      -- all that is left, for the given rules' memory
      have B9 : BX X u9 v1.2 := bx_e Q1.1 x9 x10
      have MAIN : ∀ (r2 : ms_M), r2 = up_M v1.2 160 57 (r 160 57) → ∀ d2 : Nat, Pc (qo_X13_rule nn (qg_X13_condition nn d2) e r2) (fun y => ∀ z : ms_M, z = up_M y.2 174 e.toNat y.1 → Pc (xl (oq_add (u14 2 10) 1) fun v17 => xl (up_M u14 2 10 v17) fun h18 => mx_sv (qf_X4_isArray nn (u9 49 12) h18) fun u19 => if u19 = 0 then (qj_X10_readElement_66 nn (qg_X10_readValue nn d) (t : Int) (u9 49 12) h18) else (if ¬ (h18 49 12) = 301 then (qj_X10_readElement_66 nn (qg_X10_readValue nn d) (t : Int) (u9 49 12) h18) else (qj_X10_readElement_67 nn (qg_X10_readValue nn d) (t : Int) (u9 49 12) 1 h18))) (fun u13 => (¬ z 160 9 = 0 → SFj u13 z) ∧ (z 160 9 = 0 → VDj X 0 a b p q e h r u13 (y.1, z) ∨ POk nn X 0 a b p q e h r u13 (y.1, z)))) := fun r2 er2 d2 => by
        have E2 : ∀ cc x : Nat, ¬ (cc = 160 ∧ x = 57) → r2 cc x = v1.2 cc x := fun cc x z => by rw [er2, up_n z]
        have s57 : r2 160 57 = r 160 57 := by rw [er2, up_s]
        have B2 : BX X h12 r2 := bx_k B9 (fun cc x z => E12 cc x (by omega)) (fun cc x z => E2 cc x (by omega))
        have T2 : ∀ cc x : Nat, ((163 ≤ cc ∧ cc ≤ 173) ∨ cc = 177) → r2 cc x = bT X cc x := B2.2.2.2.2.2.1
        have TQ2 : TBq (bK X) (bP X) (bc X) r2 := B2.1.1.2.2.1
        have Q2 : EPr X dp (t + 1) h12 r2 := by
          refine ⟨B2, ⟨by rw [e12, up_s], by omega, by rw [E12 2 11 (by omega)]; exact x4, by rw [E2 160 9 (by omega)]; exact x5⟩, ⟨frc_k x12 (fun cc x z => E12 cc x (by omega)), ?_, ?_⟩, ?_⟩
          · rw [E12 34 1 (by omega)]; omega
          · rw [E12 34 3 (by omega)]; omega
          · rw [E12 49 10 (by omega), x11.1, E12 49 18 (by omega), x9 49 18 (by omega) (by omega) (by omega) (by omega) (by omega) (by omega) (by omega) (by omega)]; omega
        have GV := j_given (nn := nn) (X := X) (x := (qg_X10_readValue nn d).1 dp h12) TQ2 (fun cc y z => T2 cc y (by omega)) n8 (fun d2 => H (.inr (.inl k45)) d d2 h12 r2 Q2 (by omega)) (fun z => absurd z (by omega)) (by omega)
        have a174 : r2 174 (bT X 170 e.toNat).toNat = ty_T (u9 49 12) := by rw [E2 174 _ (by omega), x8]; exact x6
        unfold qo_X13_rule
        refine pc_rA ?_; intro _ _ v83 e83
        rw [T2 167 e.toNat (by omega), nd.1] at e83
        rw [e83]
        refine pc_if (fun z => absurd z (by decide)) (fun _ => ?_)
        refine pc_if (fun z => absurd z (by decide)) (fun _ => ?_)
        refine pc_if (fun z => absurd z (by decide)) (fun _ => ?_)
        refine pc_if (fun z => absurd z (by decide)) (fun _ => ?_)
        refine pc_if (fun z => absurd z (by decide)) (fun _ => ?_)
        refine pc_if (fun z => absurd z (by decide)) (fun _ => ?_)
        refine pc_if (fun z => absurd z (by decide)) (fun _ => ?_)
        refine pc_if (fun z => absurd z (by decide)) (fun _ => ?_)
        refine pc_if (fun z => absurd z (by decide)) (fun _ => ?_)
        refine pc_if (fun z => absurd z (by decide)) (fun _ => ?_)
        refine pc_if (fun z => absurd z (by decide)) (fun _ => ?_)
        refine pc_if (fun z => absurd z (by decide)) (fun _ => ?_)
        refine pc_if (fun _ => ?_) (fun z => absurd rfl z)
        refine pc_sv (r_ledv (X := X) (by rw [E2 160 9 (by omega)]; exact x5) (T2 170 e.toNat (by omega)) a174 (fun z => n303 ((ty_3 (X := X) n8 x7).mp z))) ?_; intro u168 q168
        rw [q168]
        dsimp only
        refine pc_rA ?_; intro _ _ v170 e170
        rw [T2 171 e.toNat (by omega)] at e170
        rw [e170]
        refine pc_sv (pc_and (GV d2 u14 e14) (gv_fr d2)) ?_; intro v2 ⟨hv, F2⟩
        have TQ3 : TBq (bK X) (bP X) (bc X) v2.2 := tbq_f TQ2 (fun cc x z => F2 cc x (by omega) (by omega) (by omega))
        -- behind a FAULT of the class
        have TF : ¬ u14 2 11 = 0 → Pc (xl (oq_add (u14 2 10) 1) fun v17 => xl (up_M u14 2 10 v17) fun h18 => mx_sv (qf_X4_isArray nn (u9 49 12) h18) fun u19 => if u19 = 0 then (qj_X10_readElement_66 nn (qg_X10_readValue nn d) (t : Int) (u9 49 12) h18) else (if ¬ (h18 49 12) = 301 then (qj_X10_readElement_66 nn (qg_X10_readValue nn d) (t : Int) (u9 49 12) h18) else (qj_X10_readElement_67 nn (qg_X10_readValue nn d) (t : Int) (u9 49 12) 1 h18))) (fun u => FSc u14 u) := fun S => by
          refine pc_xl ?_; intro v17 e17
          refine pc_xl ?_; intro h18 e18
          have F18 : FSc u14 h18 := ⟨by rw [e18, up_n (by omega)], by rw [e18, up_n (by omega)]⟩
          have S18 : ¬ h18 2 11 = 0 := by rw [F18.1]; exact S
          refine pc_se ?_; intro u19 _
          refine pc_if (fun _ => pc_imp (fs_qj_X10_readElement_66 G S18) (fun u F => fs_t F18 F)) (fun _ => ?_)
          exact pc_if (fun _ => pc_imp (fs_qj_X10_readElement_66 G S18) (fun u F => fs_t F18 F)) (fun _ => pc_imp (fs_qj_X10_readElement_67 G S18) (fun u F => fs_t F18 F))
        refine pc_sv (r_isArr n8 x7) ?_; intro u173 q173
        rcases hv with S | ⟨⟨K, K15, KF⟩, FX2, m303⟩
        · have SR := sf_r S
          have DN : ∀ y : Int × ms_M, FSr v2.2 y.2 → ∀ z : ms_M, z = up_M y.2 174 e.toNat y.1 → Pc (xl (oq_add (u14 2 10) 1) fun v17 => xl (up_M u14 2 10 v17) fun h18 => mx_sv (qf_X4_isArray nn (u9 49 12) h18) fun u19 => if u19 = 0 then (qj_X10_readElement_66 nn (qg_X10_readValue nn d) (t : Int) (u9 49 12) h18) else (if ¬ (h18 49 12) = 301 then (qj_X10_readElement_66 nn (qg_X10_readValue nn d) (t : Int) (u9 49 12) h18) else (qj_X10_readElement_67 nn (qg_X10_readValue nn d) (t : Int) (u9 49 12) 1 h18))) (fun u13 => (¬ z 160 9 = 0 → SFj u13 z) ∧ (z 160 9 = 0 → VDj X 0 a b p q e h r u13 (y.1, z) ∨ POk nn X 0 a b p q e h r u13 (y.1, z))) := fun y F z ez => pc_imp (TF S.1) (fun u F2 => by
            have SF : SFj u z := sf_k S F2 ⟨by rw [ez, up_n (by omega)]; exact F.1, by rw [ez, up_n (by omega)]; exact F.2⟩
            exact ⟨fun _ => SF, fun y => absurd y (sf_r SF)⟩)
          refine pc_if (fun _ => pc_imp (ft_qj_X13_rule_391 (ftg_X13_condition nn d2) SR) DN) (fun _ => ?_)
          exact pc_if (fun _ => pc_imp (ft_qj_X13_rule_403 (ftg_X13_condition nn d2) SR) DN) (fun _ => pc_imp (ft_qj_X13_rule_391 (ftg_X13_condition nn d2) SR) DN)
        · obtain ⟨⟨z1, z2, z3, z4, z5⟩, ⟨z6, z7, z8⟩, ⟨z9, z10, z11⟩, ⟨z12, z13, z14⟩, -⟩ := K
          have t0 : ty_T (u14 49 12) = 0 ↔ u14 49 12 = 301 := by
            have c := ty_c (vtn_v n8 z7)
            omega
          have TB14 : TBc (bK X) (bP X) (bc X) u14 := pk_b Q2 ⟨⟨z1, z2, z3, z4, z5⟩, ⟨z6, z7, z8⟩, ⟨z9, z10, z11⟩, ⟨z12, z13, z14⟩, .inl FX2⟩
          -- wrong
          have BAD : ¬ ((100 ≤ u9 49 12 ∧ u9 49 12 ≤ 200) ∧ u14 49 12 = 301) → Pc (qj_X13_rule_391 nn (qg_X13_condition nn d2) e (ty_T (u9 49 12)) v2.2) (fun y => ∀ z : ms_M, z = up_M y.2 174 e.toNat y.1 → Pc (xl (oq_add (u14 2 10) 1) fun v17 => xl (up_M u14 2 10 v17) fun h18 => mx_sv (qf_X4_isArray nn (u9 49 12) h18) fun u19 => if u19 = 0 then (qj_X10_readElement_66 nn (qg_X10_readValue nn d) (t : Int) (u9 49 12) h18) else (if ¬ (h18 49 12) = 301 then (qj_X10_readElement_66 nn (qg_X10_readValue nn d) (t : Int) (u9 49 12) h18) else (qj_X10_readElement_67 nn (qg_X10_readValue nn d) (t : Int) (u9 49 12) 1 h18))) (fun u13 => (¬ z 160 9 = 0 → SFj u13 z) ∧ (z 160 9 = 0 → VDj X 0 a b p q e h r u13 (y.1, z) ∨ POk nn X 0 a b p q e h r u13 (y.1, z)))) := fun nb => by
            unfold qj_X13_rule_391
            refine pc_rA ?_; intro _ _ v58 e58
            rw [F2 168 _ (by omega) (by omega) (by omega), T2 168 e.toNat (by omega), nd.2] at e58
            refine pc_sv (r_wrong TQ3 tc z5 e58) ?_; intro u60 ⟨w1, w2⟩
            refine pc_imp (ft_qj_X13_rule_403 (ftg_X13_condition nn d2) (by omega)) (fun y F => fun z ez => ?_)
            have s9 : z 160 9 = 6 := by rw [ez, up_n (by omega), F.1]; exact w1
            have s10 : z 160 10 = bP X t := by rw [ez, up_n (by omega), F.2]; exact w2
            rw [z1]
            refine pc_add (by omega) ?_; intro v17 e17
            refine pc_xl ?_; intro h18 e18
            have E18 : ∀ cc x : Nat, ¬ (cc = 2 ∧ x = 10) → h18 cc x = u14 cc x := fun cc x y => by rw [e18, up_n y]
            have TB18 : TBc (bK X) (bP X) (bc X) h18 := tbc_k TB14 (fun cc y z => E18 cc y (by omega))
            have C67 : Pc (qj_X10_readElement_66 nn (qg_X10_readValue nn d) (t : Int) (u9 49 12) h18) (fun u13 => (¬ z 160 9 = 0 → SFj u13 z) ∧ (z 160 9 = 0 → VDj X 0 a b p q e h r u13 (y.1, z) ∨ POk nn X 0 a b p q e h r u13 (y.1, z))) := by
              unfold qj_X10_readElement_66 qj_X10_readElement_67
              have WT : Pc (qf_X10_wantType nn 0 (t : Int) h18) (fun y => y 2 11 = 6 ∧ y 2 12 = bP X t) := by
                unfold qf_X10_wantType
                refine pc_if (fun z => absurd rfl z) (fun _ => ?_)
                refine pc_sv (c_tell TB18 (by rw [E18 2 11 (by omega)]; exact z4) tc rfl) ?_; intro u3 ⟨t1, _⟩
                exact pc_ret t1
              refine pc_sv WT ?_; intro u2 ⟨p1, p2⟩
              refine pc_se ?_; intro u3 _
              refine pc_xl ?_; intro h4 e4
              refine pc_xl ?_; intro h5 e5
              have SF : SFj h5 z := ⟨by rw [e5, up_n (by omega), e4, up_n (by omega)]; omega, by rw [e5, up_n (by omega), e4, up_n (by omega), s9, p1], by rw [e5, up_n (by omega), e4, up_n (by omega), s10, p2]⟩
              exact pc_ret ⟨fun _ => SF, fun y => absurd y (sf_r SF)⟩
            refine pc_sv c_arr2 ?_; intro u19 q19
            refine pc_if (fun _ => C67) (fun y19 => ?_)
            refine pc_if (fun _ => C67) (fun y12 => ?_)
            exfalso
            rw [E18 49 12 (by omega)] at y12
            exact nb ⟨by omega, Classical.byContradiction y12⟩
          refine pc_if (fun y0 => BAD (by omega)) (fun y0 => ?_)
          refine pc_if (fun y3 => ?_) (fun y3 => BAD (fun w => y3 (by show v2.1 = 0; rw [z6]; exact t0.mpr w.2)))
          have ar : 100 ≤ u9 49 12 ∧ u9 49 12 ≤ 200 := by omega
          have i301 : u14 49 12 = 301 := t0.mp (by rw [← z6]; exact y3)
          obtain ⟨⟨c1, -⟩, c2⟩ := FX2.2.2 (by omega)
          rw [if_neg m303, E12 34 3 (by omega)] at c1
          rw [E12 34 1 (by omega)] at z13
          have tyA := ty_c (vtn_v n8 x7)
          -- the element's type
          have R403 : ∃ et : Int, VTn (bn X) et ∧ ¬ et = 303 ∧ ((u9 49 12 = 200 ∧ et = 301) ∨ (¬ u9 49 12 = 200 ∧ et = u9 49 12 - 100)) ∧ ∀ QQ : Int × ms_M → Prop, QQ (ty_T et, v2.2) → Pc (qj_X13_rule_403 nn (qg_X13_condition nn d2) (ty_T (u9 49 12)) v2.2) QQ := by
            by_cases a200 : u9 49 12 = 200
            · refine ⟨301, .inl rfl, by decide, .inl ⟨a200, rfl⟩, fun QQ HQ => ?_⟩
              unfold qj_X13_rule_403
              refine pc_if (fun w => absurd (show ty_T (u9 49 12) = 4 by omega) w) (fun _ => pc_ret HQ)
            · have ve : VTn (bn X) (u9 49 12 - 100) := by unfold VTn; omega
              have tyE := ty_c (vtn_v n8 ve)
              refine ⟨u9 49 12 - 100, ve, by omega, .inr ⟨a200, rfl⟩, fun QQ HQ => ?_⟩
              unfold qj_X13_rule_403
              refine pc_if (fun w => ?_) (fun w => absurd (show ¬ ty_T (u9 49 12) = 4 by omega) w)
              refine pc_sub (by omega) ?_; intro v55 e55
              rw [show v55 = ty_T (u9 49 12 - 100) by omega]
              exact pc_ret HQ
          obtain ⟨et, ve, n3e, ek, R4⟩ := R403
          refine R4 _ (fun z (ez : z = up_M v2.2 174 e.toNat (ty_T et)) => ?_)
          rw [z1]
          refine pc_add (by omega) ?_; intro v17 e17
          refine pc_xl ?_; intro h18 e18
          rw [show v17 = ((uu + 1 : Nat) : Int) by omega] at e18
          have E18 : ∀ cc x : Nat, ¬ (cc = 2 ∧ x = 10) → h18 cc x = u14 cc x := fun cc x y => by rw [e18, up_n y]
          refine pc_sv c_arr2 ?_; intro u19 q19
          refine pc_if (fun y => absurd y (by omega)) (fun _ => ?_)
          refine pc_if (fun y => absurd (show h18 49 12 = 301 by rw [E18 49 12 (by omega)]; exact i301) y) (fun _ => ?_)
          unfold qj_X10_readElement_67
          have WT : Pc (qf_X10_wantType nn 1 (t : Int) h18) (fun y => y = h18) := by
            unfold qf_X10_wantType
            exact pc_if (fun _ => pc_ret rfl) (fun z => absurd (by decide) z)
          refine pc_sv WT ?_; intro u2 q2'
          rw [q2']
          refine pc_sv (c_elem ar) ?_; intro u3 q3'
          refine pc_xl ?_; intro h4 e4
          refine pc_xl ?_; intro h5 e5
          have eu3 : u3 = et := by omega
          have E5 : ∀ cc x : Nat, ¬ (cc = 2 ∧ x = 10) → ¬ (cc = 49 ∧ (x = 11 ∨ x = 12)) → h5 cc x = u14 cc x := fun cc x y1 y2 => by rw [e5, up_n (by omega), e4, up_n (by omega)]; exact E18 cc x y1
          have t12 : h5 49 12 = et := by rw [e5, up_n (by omega), e4, up_s, eu3]
          have t11 : h5 49 11 = 4 := by rw [e5, up_s]
          have l3 : h5 34 3 = h 34 3 + 2 := by rw [E5 34 3 (by omega) (by omega)]; omega
          have l1 := E5 34 1 (by omega) (by omega)
          have z99 : z 160 9 = 0 := by rw [ez, up_n (by omega)]; exact z5
          refine pc_ret ⟨fun y => absurd z99 y, fun _ => .inr ?_⟩
          rw [hq]
          have RR : RFe a b r z := by
            refine ⟨fun cc x s1 s2 s3 => ?_, fun cc x s1 s2 s3 => ?_⟩
            · rw [ez, up_n (by omega), z10.1 cc x s1 s2 s3, E2 cc x (by omega), x10.1 cc x s1 s2 s3]; exact R1.1 cc x s1 s2 s3
            · rw [ez, up_n (by omega), z10.2 cc x s1 s2 (by omega), E2 cc x (by omega), x10.2 cc x s1 s2 (by omega)]; exact R1.2 cc x s1 s2 s3
          refine ⟨⟨?_, u1c, by omega, ?_, z99⟩, ⟨?_, ?_, ?_⟩, ⟨?_, RR, ?_⟩, ⟨?_, ?_, by omega⟩, .inr (.inr (.inr ⟨⟨t11, rfl, nd.1, by rw [t12]; exact n3e⟩, ⟨l3, by omega⟩, t, u9, ⟨by omega, by omega⟩, ?_, ?_⟩))⟩
          · rw [e5, up_n (by omega), e4, up_n (by omega), e18, up_s]
          · rw [E5 2 11 (by omega) (by omega)]; exact z4
          · show ty_T et = ty_T (h5 49 12)
            rw [t12]
          · rw [t12]; exact ve
          · show z 174 e.toNat = ty_T et
            rw [ez, up_s]
          · exact cfe_t x9 (cfe_t (cfe_w z9 E12 (fun cc x _ _ => rfl)) (fun cc x a1 a2 a3 a4 a5 a6 a7 a8 => E5 cc x (by omega) (by omega)))
          · refine sgb_t x11 ⟨by rw [E5 49 10 (by omega) (by omega), z11.1]; exact E12 49 10 (by omega), fun cc x s1 s2 s3 => ?_⟩
            rw [E5 cc x (by omega) (by omega), z11.2 cc x s1 s2 (by rw [E12 49 10 (by omega)]; exact s3)]
            exact E12 cc x (by omega)
          · exact frc_k z12 (fun cc x y => E5 cc x (by omega) (by omega))
          · omega
          · refine mkc_v y2 (fun cc x s1 s2 s3 s4 => ?_)
            show z cc x = _
            rw [ez, up_n (by omega), z10.2 cc x s1 s2 (by omega), E2 cc x (by omega)]
          · refine mkc_v (v1 := v2.2) (mkc_w c2 (fun cc x s1 s2 s3 => E12 cc x (by omega)) (fun cc x s1 s2 s3 => E5 cc x (by omega) (by omega)) (by omega) (by omega)) (fun cc x s1 s2 s3 s4 => ?_)
            show z cc x = _
            rw [ez, up_n (by omega)]
      intro u13 e13 r2 er2
      cases d2 with
      | zero => exact pc_none
      | succ d2 => exact pc_imp (MAIN r2 er2 d2) (fun y Hy => fun z ez => Hy z ez u13 e13)
end
