section
/- calls: behind a point -/
section
variable {nn : Nat} {X : BCx} {dp i l a b e s k c st fit how at_ : Int} {p q t tk pa x j : Nat} {h hA g u r rA w m v : ms_M}
theorem crq_st {uF : ms_M} {y : Int × ms_M} (C : CRq nn X a b p q e h r uF y) : ∀ z : ms_M, z = up_M y.2 174 e.toNat y.1 → (¬ z 160 9 = 0 → SFj uF z) ∧ (z 160 9 = 0 → VDj X 0 a b p q e h r uF (y.1, z) ∨ POk nn X 0 a b p q e h r uF (y.1, z)) := fun z ez => by
  refine ⟨fun n => ?_, fun z0 => ?_⟩
  · rcases (C z ez).2 n with (S | V) | K
    · exact S
    · exact absurd V.2.1.2.1 n
    · exact absurd K.1.2.2.2.2 n
  · rcases (C z ez).1 z0 with (S | V) | K
    · exact absurd (S.2.1.symm.trans z0) S.1
    · exact .inl V
    · exact .inr K
theorem p3_pdv {t2 : Nat} {ix : Int} (Y : CXs X) (ne : 0 ≤ a ∧ a ≤ e ∧ e < b) (nd : bT X 167 e.toNat = 31 ∧ bT X 168 e.toNat = ((t + 1 : Nat) : Int) ∧ bT X 172 e.toNat = (t : Int)) (kk : bK X t = 48 ∧ bK X (t + 1) = 2 ∧ bK X (t + 2) = 40) (r1 : a ≤ bT X 170 e.toNat ∧ bT X 170 e.toNat < e) (L1 : bT X 177 (bT X 170 e.toNat).toNat = ix) (CH : P3 nn X dp ix a e p t (bT X 170 e.toNat)) (AR : A4 nn X dp (e + 1) b (t + 2) t2 (bT X 171 e.toNat)) (k41 : bK X t2 = 41) (pt : p < t ∧ t + 2 < t2) (d d2 : Nat) (h r : ms_M) (Z : ms_M → Int × ms_M → Prop) (Q : EPr X dp p h r) (b57 : 0 ≤ r 160 57 ∧ r 160 57 + (b - a) < 9000 ∧ b ≤ 9000) (VAL : ix = 0 → bT X 167 (bT X 170 e.toNat).toNat = 25 → bT X 168 (bT X 170 e.toNat).toNat = (p : Int) ∧ ∀ r2 : ms_M, BX X h r2 → Pc (qf_X13_sightOf nn (p : Int) r2) (fun u => ¬ u = -1) ∨ Pc (qf_X13_memberOf nn (bo X) (p : Int) 0 r2) (fun u => ¬ u = -1)) (HC : ∀ (k : Nat) (t : Int) (u : ms_M) (v : Int × ms_M), POk nn X 0 a b p (t2 + 1) e h r u v → (0 ≤ t ∧ t ≤ ((t2 + 1 : Nat) : Int)) → Pc (qw_X10_readPrimary_118 nn (qg_X10_readValue nn d) k dp (p : Int) (bK X (t2 + 1)) t u) (fun uF => Z uF v)) (HF : ∀ (uF : ms_M) (v : Int × ms_M), (SFj uF v.2 ∨ VDj X 0 a b p (t2 + 1) e h r uF v) → Z uF v) : Pc (qo_X10_readPrimary nn (qg_X10_readValue nn d) dp h) (fun uF => Pc ((qg_X13_condition nn d2).2.2.1 e r) (fun v => Z uF v)) := by
  obtain ⟨k48, k2, k40⟩ := kk
  have BK := Y.1
  have SK := Y.2.1
  have n8 := Y.2.2.1
  have c3 := BK.2.1
  have t1c : t + 1 < bc X := tb_lt BK (by omega)
  have tc : t < bc X := by omega
  have t2c : t + 2 < bc X := jp_lt BK t1c (by omega)
  have t2c' : t2 < bc X := tb_lt BK (by omega)
  have t3c' : t2 + 1 < bc X := jp_lt BK t2c' (by omega)
  have NBC : ∀ r2 : ms_M, BX X h r2 → Pc (qf_X13_isByClass nn e r2) (fun u => u = 0) := fun r2 B2 => by
    have T2 := B2.2.2.2.2.2.1
    unfold qf_X13_isByClass
    refine pc_rA ?_; intro _ _ v2 e2
    rw [T2 170 _ (by omega)] at e2
    rw [e2]
    refine pc_rA ?_; intro _ _ v4 e4
    rw [T2 167 _ (by omega)] at e4
    refine pc_if (fun _ => pc_ret rfl) (fun z25 => ?_)
    refine pc_rA ?_; intro _ _ v6 e6
    rw [T2 177 _ (by omega), L1] at e6
    refine pc_if (fun _ => pc_ret rfl) (fun z6 => ?_)
    obtain ⟨o68, HV⟩ := VAL (by omega) (by omega)
    refine pc_rA ?_; intro _ _ v8 e8
    rw [T2 168 _ (by omega), o68] at e8
    rw [e8]
    rcases HV r2 B2 with y | y
    · refine pc_sv y ?_; intro u10 q10
      exact pc_if (fun _ => pc_ret rfl) (fun z => absurd q10 z)
    · refine pc_se ?_; intro u10 _
      refine pc_if (fun _ => pc_ret rfl) (fun _ => ?_)
      refine pc_rA ?_; intro _ _ v13 e13
      rw [T2 168 _ (by omega), o68] at e13
      rw [e13, B2.2.2.1.2]
      refine pc_sv y ?_; intro u15 q15
      exact pc_if (fun _ => pc_ret rfl) (fun z => absurd q15 z)
  have LED : ∀ r2 : ms_M, BX X h r2 → Pc (qf_X13_isLed nn e r2) (fun u => ¬ u = 0) := fun r2 B2 => by
    have T2 := B2.2.2.2.2.2.1
    unfold qf_X13_isLed
    refine pc_rA ?_; intro _ _ v2 e2
    rw [T2 167 _ (by omega), nd.1] at e2
    rw [e2]
    refine pc_if (fun z => absurd z (by decide)) (fun _ => ?_)
    refine pc_if (fun z => absurd z (by decide)) (fun _ => ?_)
    refine pc_if (fun z => absurd z (by decide)) (fun _ => ?_)
    refine pc_if (fun z => absurd z (by decide)) (fun _ => ?_)
    refine pc_if (fun z => absurd rfl z) (fun _ => ?_)
    refine pc_sv (NBC r2 B2) ?_; intro u4 q4
    exact pc_if (fun z => absurd q4 z) (fun _ => pc_ret (by decide))
  refine p3_led Y ne r1 CH (.inl k48) LED (fun r2 B _ _ _ i0 k25 => (VAL i0 k25).2 r2 B) (fun r2 d2 y B2 TQ TT hf g3 tk ey => ?_) (fun d d2 r r1' u9 v1 Q Q1 b57 R1 K9 FX n303 => ?_) d d2 r Z Q b57 HC HF (by omega)
  · cases d2 with
    | zero => exact absurd ey (fun z => nomatch z)
    | succ d2 =>
      have W : Pc (qo_X13_rule nn (qg_X13_condition nn d2) e r2) (fun y => y.2 160 9 = 6 ∧ y.2 160 10 = bP X (bT X 168 (bT X 170 e.toNat).toNat).toNat) := by
        refine ru_31 ((TT 167 e.toNat (by omega)).trans nd.1) ?_
        cases d2 with
        | zero => exact fun _ z => nomatch z
        | succ d2 =>
          refine pc_sb (pc_imp ?_ (fun y hy => pc_ret hy))
          show Pc (qo_X13_invoked nn (qg_X13_condition nn d2) e r2) (fun y => y.2 160 9 = 6 ∧ y.2 160 10 = bP X (bT X 168 (bT X 170 e.toNat).toNat).toNat)
          unfold qo_X13_invoked
          refine pc_rA ?_; intro _ _ v40 e40
          refine pc_sv (NBC r2 B2) ?_; intro u42 q42
          refine pc_if (fun _ => ?_) (fun z => absurd q42 z)
          refine pc_sv (r_led3 TQ hf (TT 170 e.toNat (by omega)) g3 (tk := (bT X 168 (bT X 170 e.toNat).toNat).toNat) (by rw [TT 168 _ (by omega)]; omega) (by omega)) ?_; intro u44 s
          exact pc_if (fun z => absurd z (by have := s.2.1; omega)) (fun _ => pc_ret s.2)
      exact W y ey
  · have Q0 := Q
    obtain ⟨B, ⟨q1, q2, q3, q4⟩, ⟨f1, f2, f3⟩, o1⟩ := Q0
    rw [if_neg (show ¬ ¬ bK X t = 48 by omega)]
    obtain ⟨⟨x1, x2, x3, x4, x5⟩, ⟨x6, x7, x8⟩, ⟨x9, x10, x11⟩, ⟨x12, x13, x14⟩, -⟩ := K9
    obtain ⟨⟨y1, -⟩, y2⟩ := FX.2.2 (by omega)
    rw [if_neg n303] at y1
    have V7 := x7
    unfold VTn at V7
    have tyA := ty_c (vtn_v n8 x7)
    have B9 : BX X u9 v1.2 := bx_e Q1.1 x9 x10
    have TB9 : TBc (bK X) (bP X) (bc X) u9 := B9.1.1.1.1
    have VL9 : VLc (bK X) (bV X) (bc X) u9 := B9.1.1.1.2.1
    cases d with
    | zero => exact pc_none
    | succ d =>
      have G := fsg_X10_readValue nn d
      show Pc (qo_X10_readBehindPoint nn (qg_X10_readValue nn d) (p : Int) dp u9) _
      -- the reference's rule, given what the class leaves
      have RULE : ∀ (u13 : ms_M), (∀ (d : Nat) (r2 : ms_M), r2 = up_M v1.2 160 57 (r 160 57) → BX X u9 r2 → r2 160 9 = 0 → (∀ cc x : Nat, ((163 ≤ cc ∧ cc ≤ 173) ∨ cc = 177) → r2 cc x = bT X cc x) → Pc (if ty_T (u9 49 12) = 2 then (qj_X13_invoked_86 nn (qg_X13_condition nn d) e r2) else (mx_sv (qf_X13_isThing nn (ty_T (u9 49 12)) r2) fun u46 => if ¬ u46 = 0 then (mx_sv (qf_X13_isArray nn (ty_T (u9 49 12)) r2) fun u47 => if u47 = 0 then (qj_X13_invoked_119 nn (qg_X13_condition nn d) e 0 (ty_T (u9 49 12)) r2) else (rd_A 9000 168 e r2 fun v49 => mx_sv (qf_X13_wrong nn 5 v49 r2) fun u51 => qj_X13_invoked_119 nn (qg_X13_condition nn d) e 0 (ty_T (u9 49 12)) u51)) else (qj_X13_invoked_86 nn (qg_X13_condition nn d) e r2))) (CRq nn X a b p (t2 + 1) e h r u13)) → ∀ r2 : ms_M, r2 = up_M v1.2 160 57 (r 160 57) → Pc ((qg_X13_condition nn d2).2.2.2.1 e r2) (fun y => ∀ z : ms_M, z = up_M y.2 174 e.toNat y.1 → (¬ z 160 9 = 0 → SFj u13 z) ∧ (z 160 9 = 0 → VDj X 0 a b p (t2 + 1) e h r u13 (y.1, z) ∨ POk nn X 0 a b p (t2 + 1) e h r u13 (y.1, z))) := fun u13 HN r2 er2 => by
        have E2 : ∀ cc x : Nat, ¬ (cc = 160 ∧ x = 57) → r2 cc x = v1.2 cc x := fun cc x z => by rw [er2, up_n z]
        have B2 : BX X u9 r2 := bx_k B9 (fun _ _ _ => rfl) (fun cc x z => E2 cc x (by omega))
        have T2 := B2.2.2.2.2.2.1
        have a174 : r2 174 (bT X 170 e.toNat).toNat = ty_T (u9 49 12) := by rw [E2 174 _ (by omega), x8]; exact x6
        have hf : r2 160 9 = 0 := by rw [E2 160 9 (by omega)]; exact x5
        have BH2 : BX X h r2 := bx_k Q1.1 (fun _ _ _ => rfl) (fun cc x z => by rw [E2 cc x (by omega)]; exact x10.1 cc x (by omega) (by omega) (by omega))
        cases d2 with
        | zero => exact pc_none
        | succ d2 =>
          refine ru_31 ((T2 167 e.toNat (by omega)).trans nd.1) ?_
          cases d2 with
          | zero => exact fun _ z => nomatch z
          | succ d2 =>
            refine pc_sb (pc_imp (Q := fun y => Pc (some (y.1, y.2)) (fun y => ∀ z : ms_M, z = up_M y.2 174 e.toNat y.1 → (¬ z 160 9 = 0 → SFj u13 z) ∧ (z 160 9 = 0 → VDj X 0 a b p (t2 + 1) e h r u13 (y.1, z) ∨ POk nn X 0 a b p (t2 + 1) e h r u13 (y.1, z)))) (P := CRq nn X a b p (t2 + 1) e h r u13) ?_ (fun y hy => pc_ret (crq_st hy)))
            show Pc (qo_X13_invoked nn (qg_X13_condition nn d2) e r2) (CRq nn X a b p (t2 + 1) e h r u13)
            unfold qo_X13_invoked
            refine pc_rA ?_; intro _ _ v40 e40
            refine pc_sv (NBC r2 BH2) ?_; intro u42 q42
            rw [q42]
            refine pc_if (fun _ => ?_) (fun z => absurd rfl z)
            refine pc_sv (r_ledv (X := X) hf (T2 170 e.toNat (by omega)) a174 (fun z => n303 ((ty_3 (X := X) n8 x7).mp z))) ?_; intro u16 q16
            rw [q16]
            dsimp only
            exact pc_if (fun _ => HN d2 r2 er2 B2 hf T2) (fun z => absurd hf z)
      -- wrong(6, three)
      have R86 : ∀ (u13 r2 : ms_M) (d : Nat), BX X u9 r2 → r2 160 9 = 0 → (u13 2 11 = 6 ∧ u13 2 12 = bP X t) → Pc (qj_X13_invoked_86 nn (qg_X13_condition nn d) e r2) (CRq nn X a b p (t2 + 1) e h r u13) := fun u13 r2 d B2 hf s1 => by
        unfold qj_X13_invoked_86
        refine pc_rA ?_; intro _ _ v12 e12
        rw [B2.2.2.2.2.2.1 172 e.toNat (by omega), nd.2.2] at e12
        refine pc_sv (r_wrong B2.1.1.2.2.1 tc hf e12) ?_; intro u14 w1
        exact pc_ret (crq_f (c := 6) (pl := bP X t) (by decide) s1.1 s1.2 w1.1 w1.2)
      unfold qo_X10_readBehindPoint
      rw [x1]
      refine pc_add (by omega) ?_; intro v47 e47
      refine pc_sv (c_valueAt BK TB9 VL9 (t := t + 1) k2 (by omega)) ?_; intro u50 q50
      rw [q50]
      refine pc_add (by omega) ?_; intro v52 e52
      refine pc_sv (c_kindAt BK TB9 (t := t + 2) (by omega)) ?_; intro u54 q54
      refine pc_if (fun z => absurd (show u54 = 40 by omega) z) (fun _ => ?_)
      unfold qj_X10_readBehindPoint_40
      refine pc_sv c_arr2 ?_; intro u40 q40
      refine pc_if (fun z40 => ?_) (fun z40 => ?_)
      · -- an array
        have ar : 100 ≤ u9 49 12 ∧ u9 49 12 ≤ 200 := by omega
        unfold qj_X10_readBehindPoint_67 qj_X10_readBehindPoint_72
        refine pc_sub (by omega) ?_; intro v27 e27
        refine pc_sv c_want1 ?_; intro u29 q29
        rw [q29]
        refine pc_if (fun z => absurd z (by decide)) (fun _ => ?_)
        refine pc_se ?_; intro u37 _
        unfold qj_X10_readBehindPoint_112
        refine pc_if (fun z => absurd z z40) (fun _ => ?_)
        refine pc_if (fun _ => ?_) (fun z => absurd (by decide) z)
        unfold qj_X10_readBehindPoint_140
        refine pc_sv (c_tell TB9 x4 t1c (by omega)) ?_; intro u22 ⟨s1, _⟩
        have S22 : ¬ u22 2 11 = 0 := by omega
        refine pc_imp (fs_qj_X10_readBehindPoint_149 G S22) (fun u F => RULE u (fun d r2 er2 B2 hf T2 => ?_))
        refine pc_if (fun z => absurd z (by omega)) (fun _ => ?_)
        refine pc_sv (r_isTh n8 x7) ?_; intro u18 q18
        refine pc_if (fun _ => ?_) (fun z => absurd (show ¬ u18 = 0 by omega) z)
        refine pc_sv (r_isArr n8 x7) ?_; intro u19 q19
        refine pc_if (fun z => absurd z (by omega)) (fun _ => ?_)
        refine pc_rA ?_; intro _ _ v49 e49
        rw [T2 168 e.toNat (by omega), nd.2.1] at e49
        refine pc_sv (r_wrong B2.1.1.2.2.1 t1c hf e49) ?_; intro u51 w1
        refine pc_imp (ft_qj_X13_invoked_119 (ftg_X13_condition nn d) (h := u51) (by omega)) (fun y Fy => ?_)
        exact crq_f (c := 5) (pl := bP X (t + 1)) (by decide) (by rw [F.1]; exact s1.1) (by rw [F.2]; exact s1.2) (Fy.1.trans w1.1) (Fy.2.trans w1.2)
      · -- no array
        have nar : ¬ (100 ≤ u9 49 12 ∧ u9 49 12 ≤ 200) := by omega
        refine pc_sv c_isCl ?_; intro u42 q42
        refine pc_if (fun z42 => ?_) (fun z42 => ?_)
        · -- neither: TYPE
          unfold qj_X10_readBehindPoint_72
          refine pc_sub (by omega) ?_; intro v27 e27
          refine pc_sv (c_want0 TB9 x4 tc (by omega)) ?_; intro u29 s1
          have S29 : ¬ u29 2 11 = 0 := by omega
          refine pc_if (fun z => absurd z (by decide)) (fun _ => ?_)
          refine pc_se ?_; intro u37 _
          refine pc_imp (fs_qj_X10_readBehindPoint_112 G S29) (fun u F => RULE u (fun d r2 er2 B2 hf T2 => ?_))
          have FIN : Pc (qj_X13_invoked_86 nn (qg_X13_condition nn d) e r2) (CRq nn X a b p (t2 + 1) e h r u) := R86 u r2 d B2 hf ⟨by rw [F.1]; exact s1.1, by rw [F.2]; exact s1.2⟩
          refine pc_if (fun _ => FIN) (fun z2 => ?_)
          refine pc_sv (r_isTh n8 x7) ?_; intro u18 q18
          exact pc_if (fun z => absurd z (by omega)) (fun _ => FIN)
        · -- a class
          have cl : 0 ≤ u9 49 12 ∧ u9 49 12 < 8 + (bn X : Int) := by omega
          unfold qj_X10_readBehindPoint_67 qj_X10_readBehindPoint_72
          refine pc_sub (by omega) ?_; intro v27 e27
          refine pc_sv c_want1 ?_; intro u29 q29
          rw [q29]
          refine pc_if (fun z => absurd z (by decide)) (fun _ => ?_)
          refine pc_se ?_; intro u37 e37
          unfold qj_X10_readBehindPoint_112
          have z40' : u40 = 0 := by omega
          refine pc_if (fun _ => ?_) (fun z => absurd z40' z)
          generalize hrB : up_M (up_M v1.2 160 57 (r 160 57)) 176 e.toNat (-1) = rB
          have EB : ∀ cc y : Nat, ¬ (cc = 160 ∧ y = 57) → ¬ (cc = 176 ∧ y = e.toNat) → rB cc y = v1.2 cc y := fun cc y z1 z2 => by rw [← hrB, up_n z2, up_n z1]
          have rB57 : rB 160 57 = r 160 57 := by rw [← hrB, up_n (by omega), up_s]
          have BB : BX X u9 rB := bx_k B9 (fun _ _ _ => rfl) (fun cc y z => EB cc y (by omega) (by omega))
          have JM := j_methodOf (nn := nn) BK SK BB.1 (t := t + 1) k2 (a := u9 49 12) (by omega) u37 e37
          -- the reference looks it up, too
          have REFM : ∀ (u13 : ms_M), (∀ (d : Nat) (u18 : Int), qf_X13_memberOf nn (u9 49 12) ((t + 1 : Nat) : Int) 1 rB = some u18 → LKR (bV X) (bM X) 1 (bV X (t + 1)) rB u37 u18 → ∀ h19 : ms_M, h19 = up_M rB 175 e.toNat u18 → Pc (if ¬ u18 = (-1) then (qj_X13_invoked_193 nn (qg_X13_condition nn d) e 0 h19) else (rd_A 9000 168 e h19 fun v23 => mx_sv (qf_X13_wrong nn 5 v23 h19) fun u25 => qj_X13_invoked_193 nn (qg_X13_condition nn d) e 0 u25)) (CRq nn X a b p (t2 + 1) e h r u13)) → ∀ r2 : ms_M, r2 = up_M v1.2 160 57 (r 160 57) → Pc ((qg_X13_condition nn d2).2.2.2.1 e r2) (fun y => ∀ z : ms_M, z = up_M y.2 174 e.toNat y.1 → (¬ z 160 9 = 0 → SFj u13 z) ∧ (z 160 9 = 0 → VDj X 0 a b p (t2 + 1) e h r u13 (y.1, z) ∨ POk nn X 0 a b p (t2 + 1) e h r u13 (y.1, z))) := fun u13 HH => by
            refine RULE u13 (fun d r2 er2 B2 hf T2 => ?_)
            refine pc_if (fun z => absurd z (by omega)) (fun _ => ?_)
            refine pc_sv (r_isTh n8 x7) ?_; intro u18 q18
            refine pc_if (fun _ => ?_) (fun z => absurd (show ¬ u18 = 0 by omega) z)
            refine pc_sv (r_isArr n8 x7) ?_; intro u19 q19
            refine pc_if (fun _ => ?_) (fun z => absurd (show u19 = 0 by omega) z)
            unfold qj_X13_invoked_119
            refine pc_sub (by omega) ?_; intro v31 e31
            refine pc_xl ?_; intro v32 e32
            have d2 : v32 = u9 49 12 := by rw [e32, Int.tdiv_eq_ediv_of_nonneg (by omega)]; omega
            rw [d2]
            unfold qj_X13_invoked_128
            refine pc_if (fun _ => ?_) (fun z => absurd hf z)
            refine pc_if (fun _ => ?_) (fun z => absurd rfl z)
            unfold qj_X13_invoked_152
            refine pc_wA ?_; intro _ _ h13 e13
            rw [er2, hrB] at e13
            rw [e13]
            refine pc_rA ?_; intro _ _ v16 e16
            rw [BB.2.2.2.2.2.1 168 _ (by omega), nd.2.1] at e16
            rw [e16]
            refine pc_se ?_; intro u18 e18
            refine pc_wA ?_; intro _ _ h19 e19
            refine pc_rA ?_; intro _ _ v21 e21
            rw [e19, up_s] at e21
            rw [e21]
            exact HH d u18 e18 (JM u18 e18) h19 e19
          have rB9 : rB 160 9 = 0 := by rw [EB 160 9 (by omega) (by omega)]; exact x5
          refine pc_if (fun z37 => ?_) (fun z37 => ?_)
          · -- found
            unfold qj_X10_readBehindPoint_149
            refine pc_add (by omega) ?_; intro v2 e2
            refine pc_xl ?_; intro hA eA
            rw [show v2 = ((t + 2 : Nat) : Int) by omega] at eA
            have EA : ∀ cc x : Nat, ¬ (cc = 2 ∧ x = 10) → hA cc x = u9 cc x := fun cc x z => by rw [eA, up_n z]
            have hA10 : hA 2 10 = ((t + 2 : Nat) : Int) := by rw [eA, up_s]
            refine pc_if (fun z => absurd z (by decide)) (fun _ => ?_)
            rw [EA 49 12 (by omega)]
            cases hm : qf_X13_memberOf nn (u9 49 12) ((t + 1 : Nat) : Int) 1 rB with
            | none => exact fun u _ => REFM u (fun d u18 e18 => by rw [hm] at e18; exact nomatch e18)
            | some j0 =>
              have MB : MBx X 1 u37 j0 := by
                rcases JM j0 hm with y | ⟨jj, kk, h1, h2, h3, h4, h5, h6⟩
                · exact absurd y.1 z37
                · rw [h5]
                  exact (mbx_of BB (.inr rfl) h1 h2 h3 h6).1
              obtain ⟨xn, jn, ex, ej, MF⟩ := mtf_of Y BB MB
              rw [ex] at MB ⊢
              rw [ej] at MB hm
              generalize hrA : up_M rB 175 e.toNat (jn : Int) = rA
              have ER : ∀ cc y : Nat, ¬ (cc = 175 ∧ y = e.toNat) → rA cc y = rB cc y := fun cc y z => by rw [← hrA, up_n z]
              have rA5 : rA 175 e.toNat = (jn : Int) := by rw [← hrA, up_s]
              have rA6 : rA 176 e.toNat = -1 := by rw [ER 176 _ (by omega), ← hrB, up_s]
              have RRA : RFe a b r rA := by
                refine ⟨fun cc y z1 z2 z3 => ?_, fun cc y z1 z2 z3 => ?_⟩
                · rw [ER cc y (by omega), EB cc y (by omega) (by omega), x10.1 cc y z1 z2 z3]; exact R1.1 cc y z1 z2 z3
                · rw [ER cc y (by omega), EB cc y (by omega) (by omega), x10.2 cc y z1 z2 (by omega)]; exact R1.2 cc y z1 z2 z3
              have BAA : BX X hA rA := bx_k BB (fun cc y z => EA cc y (by omega)) (fun cc y z => ER cc y (by omega))
              have MFA : MTf X hA rA xn jn := mtf_k MF (fun cc y z => EA cc y (by omega)) (fun cc y z => ER cc y (by omega))
              have rA9 : rA 160 9 = 0 := by rw [ER 160 9 (by omega)]; exact rB9
              have rA57 : rA 160 57 = r 160 57 := by rw [ER 160 57 (by omega)]; exact rB57
              have l1A := EA 34 1 (by omega)
              have l3A := EA 34 3 (by omega)
              have W10 : hA 49 10 = h 49 10 := by rw [EA 49 10 (by omega)]; exact x11.1
              have W18 : hA 49 18 = h 49 18 := by rw [EA 49 18 (by omega)]; exact x9 49 18 (by omega) (by omega) (by omega) (by omega) (by omega) (by omega) (by omega) (by omega)
              have QA2 : EPr X dp (t + 2) hA rA := ⟨BAA, ⟨hA10, t2c, by rw [EA 2 11 (by omega)]; exact x4, rA9⟩, ⟨frc_k x12 (fun cc y z => EA cc y (by omega)), ⟨by omega, by omega⟩, by omega, by omega⟩, by omega, by omega, by omega⟩
              have REFC : ∀ (u13 : ms_M), (∀ (d4 : Nat) (fit : Int), ((fit = 0 ∧ rA 182 jn = 2) ∨ (fit = 1 ∧ rA 182 jn = 1)) → Pc (qo_X13_called nn (qg_X13_condition nn d4) e (jn : Int) fit rA) (CRq nn X a b p (t2 + 1) e h r u13)) → ∀ r2 : ms_M, r2 = up_M v1.2 160 57 (r 160 57) → Pc ((qg_X13_condition nn d2).2.2.2.1 e r2) (fun y => ∀ z : ms_M, z = up_M y.2 174 e.toNat y.1 → (¬ z 160 9 = 0 → SFj u13 z) ∧ (z 160 9 = 0 → VDj X 0 a b p (t2 + 1) e h r u13 (y.1, z) ∨ POk nn X 0 a b p (t2 + 1) e h r u13 (y.1, z))) := fun u13 HH => by
                refine REFM u13 (fun d u18 e18 _ h19 e19 => ?_)
                have e18' : u18 = (jn : Int) := Option.some.inj (e18.symm.trans hm)
                rw [e18', hrA] at e19
                rw [e18', e19]
                refine pc_if (fun _ => ?_) (fun z => absurd (show ¬ (jn : Int) = -1 by omega) z)
                have C7 : ∀ fit : Int, ((fit = 0 ∧ rA 182 jn = 2) ∨ (fit = 1 ∧ rA 182 jn = 1)) → Pc (qj_X13_invoked_237 nn (qg_X13_condition nn d) fit (jn : Int) e rA) (CRq nn X a b p (t2 + 1) e h r u13) := fun fit hfit => by
                  unfold qj_X13_invoked_237
                  cases d with
                  | zero => exact fun _ z => nomatch z
                  | succ d4 => exact pc_sb (pc_imp (HH d4 fit hfit) (fun y hy => pc_ret hy))
                unfold qj_X13_invoked_193
                refine pc_rA ?_; intro _ _ v5 e5
                rw [rA5] at e5
                rw [e5]
                refine pc_if (fun z => absurd rA9 z) (fun _ => ?_)
                refine pc_rA ?_; intro _ _ v9 e9
                rw [rA5] at e9
                refine pc_rA ?_; intro _ _ v10 e10
                rw [e9, Int.toNat_natCast] at e10
                have k12 := MFA.2.1
                refine pc_if (fun z => ?_) (fun z => ?_)
                · unfold qj_X13_invoked_228 qj_X13_invoked_232
                  exact pc_if (fun z => absurd rfl z) (fun _ => C7 1 (.inr ⟨rfl, by omega⟩))
                · unfold qj_X13_invoked_228
                  exact pc_if (fun _ => C7 0 (.inl ⟨rfl, by omega⟩)) (fun z => absurd (by decide) z)
              cases d with
              | zero => exact fun _ z => nomatch z
              | succ d =>
                refine pc_sv (P := fun uF => ∀ (d4 : Nat) (fit : Int), ((fit = 0 ∧ rA 182 jn = 2) ∨ (fit = 1 ∧ rA 182 jn = 1)) → Pc (qo_X13_called nn (qg_X13_condition nn d4) e (jn : Int) fit rA) (CRq nn X a b p (t2 + 1) e h r uF)) ?_ (fun u32 H32 => pc_ret (REFC u32 H32))
                show Pc (qo_X10_readCall nn (qg_X10_readValue nn d) (u9 49 12) (xn : Int) v47 1 (p : Int) dp hA) _
                intro uF eF d4 fit hfit
                refine call_core (c := u9 49 12) (at_ := v47) (how := 1) (st := (p : Int)) (fit := fit) (tk := t + 1) Y (by omega) AR k41 QA2 (by omega) MFA MB cl (by omega) t1c nd.2.1 (by omega) ⟨fun z => by omega, fun z => by omega⟩ d d4 (fun uF y => CRq nn X a b p (t2 + 1) e h r uF y) (fun uF y C => ?_) uF eF
                refine crq_c (dl := 1) (c := u9 49 12) (st := (p : Int)) (fit := fit) (tk := t + 1) Y Q ne (.inr nd.1) k41 nd.2.1 t1c (cfe_t x9 (fun cc y a1 a2 a3 a4 a5 a6 a7 a8 => EA cc y (by omega))) RRA ⟨W10, fun cc y z1 z2 z3 => by rw [EA cc y (by omega)]; exact x11.2 cc y z1 z2 z3⟩ QA2.2.2.1.1 (by omega) (by omega) (by omega) MFA rfl (fun _ => by omega) (fun u v z n AO CM ez nf => ?_) C
                have vA : ∀ cc : Nat, 174 ≤ cc → cc ≤ 176 → v cc e.toNat = rA cc e.toNat := fun cc c1 c2 => AO.2.1.2.1.2 cc _ c1 c2 (by omega)
                have vO : ∀ cc y : Nat, 174 ≤ cc → cc ≤ 176 → (y : Int) < e → z cc y = v1.2 cc y := fun cc y c1 c2 c4 => by rw [ez, up_n (by omega), AO.2.1.2.1.2 cc _ c1 c2 (by omega), ER cc y (by omega)]; exact EB cc y (by omega) (by omega)
                have z6 : z 176 e.toNat = -1 := by rw [ez, up_n (by omega), vA 176 (by omega) (by omega)]; exact rA6
                have t3 : t2 < bc X := AO.1.2.1
                have nt : t + 2 + 1 + n ≤ t2 := AO.2.2.1.2.2.2
                have M1 : MKC nn X (bT X 170 e.toNat) a e p t h (up_M hA 2 10 ((t + 2 + 1 : Nat) : Int)) z := mkc_v (mkc_w y2 (fun _ _ _ _ _ => rfl) (fun cc x s1 s2 s3 => by rw [up_n (by omega)]; exact EA cc x (by omega)) (Nat.le_refl _) (Nat.le_refl _)) (fun cc x s1 s2 s3 s4 => vO cc x s1 s2 s4)
                refine mkc_led (.inr ⟨nd.1, z6⟩) ne M1 (by omega) (fun PB WL L m dd M AM b1 b2 => ?_)
                obtain ⟨MT, -, -, -⟩ := mk_t M
                have a4 : m 174 e.toNat = ty_T (u 24 xn) := by rw [AM 174 e.toNat (by omega) (by omega) (by omega) (by omega), ez, up_s]
                have a5 : m 175 e.toNat = (jn : Int) := by rw [AM 175 e.toNat (by omega) (by omega) (by omega) (by omega), ez, up_n (by omega), vA 175 (by omega) (by omega)]; exact rA5
                have a6 : m 176 e.toNat = -1 := by rw [AM 176 e.toNat (by omega) (by omega) (by omega) (by omega)]; exact z6
                have ao : m 174 (bT X 170 e.toNat).toNat = ty_T (u9 49 12) := by rw [AM 174 _ (by omega) (by omega) (by omega) (by omega), vO 174 _ (by omega) (by omega) (by omega), x8]; exact x6
                have AM2 : AN (e + 1) b v m := an_s AM ⟨by omega, Int.le_refl _⟩ (fun cc y c1 c2 c4 c5 => by rw [ez, up_n (by omega)])
                refine wo_31 ((MT 167 _ (by omega)).trans nd.1) a4 ?_
                refine pc_rA ?_; intro _ _ v178 e178
                rw [a6] at e178
                refine pc_if (fun z => absurd e178 z) (fun _ => ?_)
                refine pc_rA ?_; intro _ _ v183 e183
                rw [MT 170 _ (by omega)] at e183
                rw [e183]
                refine pc_rA ?_; intro _ _ v184 e184
                rw [ao] at e184
                rw [e184]
                refine pc_sub (by omega) ?_; intro v185 e185
                refine pc_xl ?_; intro v186 e186
                have d2 : v186 = u9 49 12 := by rw [e186, Int.tdiv_eq_ediv_of_nonneg (by omega)]; omega
                rw [d2]
                unfold qj_X13_workOne_316
                refine pc_rA ?_; intro _ _ v28 e28
                rw [a6] at e28
                refine pc_if (fun _ => ?_) (fun z => absurd e28 z)
                cases dd with
                | zero => exact fun _ z => nomatch z
                | succ dd =>
                  refine pc_sb (pc_imp (m_wcall (pa := t + 2) (t := t2) (x := xn) (j := jn) (c := u9 49 12) (a3 := 0) M AO.2.2.2 CM AM2 a5 a4 (.inl ⟨rfl, by rw [if_neg (by omega)], by rw [if_neg (by omega)]⟩) (by omega) (by omega) (by omega)) (fun w2 y => pc_ret ⟨y.1, by omega⟩))
          · -- not found
            have u37' : u37 = -1 := Classical.byContradiction z37
            unfold qj_X10_readBehindPoint_140
            refine pc_sv (c_tell TB9 x4 t1c (by omega)) ?_; intro u22 ⟨s1, _⟩
            have S22 : ¬ u22 2 11 = 0 := by omega
            refine pc_imp (fs_qj_X10_readBehindPoint_149 G S22) (fun u F => REFM u (fun d u18 e18 LK h19 e19 => ?_))
            have j1 : u18 = -1 := by
              rcases LK with y | ⟨jj, kk, -, -, -, -, -, y⟩
              · exact y.2
              · omega
            refine pc_if (fun z => absurd j1 z) (fun _ => ?_)
            refine pc_rA ?_; intro _ _ v23 e23
            rw [e19, up_n (by omega), BB.2.2.2.2.2.1 168 _ (by omega), nd.2.1] at e23
            refine pc_sv (r_wrong (tbq_f BB.1.1.2.2.1 (fun cc y z => by rw [e19, up_n (by omega)])) t1c (by rw [e19, up_n (by omega)]; exact rB9) e23) ?_; intro u25 w1
            refine pc_imp (ft_qj_X13_invoked_193 (ftg_X13_condition nn d) (h := u25) (by omega)) (fun y Fy => ?_)
            exact crq_f (c := 5) (pl := bP X (t + 1)) (by decide) (by rw [F.1]; exact s1.1) (by rw [F.2]; exact s1.2) (Fy.1.trans w1.1) (Fy.2.trans w1.2)
end
end
section
/- the tree's tokens; a call behind a point, whole -/
section
variable {K : Nat → Int} {T T2 : ms_M}
theorem lk_pq {s : Nat} {d i l a b p q e : Int} (H : LKn d K T s i l a b p q e) : 0 ≤ p → (if s = 7 then p else p + 1) ≤ q := by
  refine lk_ind (fun d s i l a b p q e => 0 ≤ p → (if s = 7 then p else p + 1) ≤ q) ?_ ?_ ?_ ?_ ?_ ?_ ?_ ?_ ?_ ?_ ?_ ?_ ?_ ?_ ?_ ?_ ?_ ?_ ?_ ?_ ?_ ?_ ?_ ?_ ?_ ?_ ?_ ?_ ?_ ?_ ?_ ?_ ?_ ?_ ?_ ?_ ?_ ?_ H
  · intro d i a b p q e h0 h1
    intro hp
    have c0 : p + 1 ≤ q := h0.2 (by omega)
    show p + 1 ≤ q
    omega
  · intro d ix iy iz t u y a b p q e h0 h1 h2 h3 h4 h5 h6 h7 h8 h9 h10
    intro hp
    have c3 : p + 1 ≤ t := h3.2 (by omega)
    have c6 : (t + 1) + 1 ≤ u := h6.2 (by omega)
    have c9 : (u + 1) + 1 ≤ q := h9.2 (by omega)
    show p + 1 ≤ q
    omega
  · intro d i l a b p q e h0
    intro hp
    have c0 : p + 1 ≤ q := h0.2 (by omega)
    show p + 1 ≤ q
    omega
  · intro d ix iy l s t a b p q e h0 h1 h2 h3 h4 h5 h6
    intro hp
    have c3 : p + 1 ≤ t := h3.2 (by omega)
    have c5 : (t + 1) + 1 ≤ q := h5.2 (by omega)
    show p + 1 ≤ q
    omega
  · intro d ix l t a b p q e h0 h1 h2 h3 h4
    intro hp
    have c3 : p + 1 ≤ t := h3.2 (by omega)
    show p + 1 ≤ q
    omega
  · intro d ix a b p q e h0 h1 h2 h3
    intro hp
    have c2 : (p + 1) + 1 ≤ q := h2.2 (by omega)
    show p + 1 ≤ q
    omega
  · intro d ix a b p q e h0 h1 h2 h3
    intro hp
    have c2 : (p + 3) + 1 ≤ q := h2.2 (by omega)
    show p + 1 ≤ q
    omega
  · intro d i a b p q e h0 h1
    intro hp
    have c0 : p + 1 ≤ q := h0.2 (by omega)
    show p + 1 ≤ q
    omega
  · intro d a b p q e h0 h1 h2
    intro hp
    show p + 1 ≤ q
    omega
  · intro d a b p q e h0 h1 h2 h3
    intro hp
    show p + 1 ≤ q
    omega
  · intro d a b p q e h0 h1 h2 h3 h4
    intro hp
    have c3 : (p + 1) + 1 ≤ q := h3.2 (by omega)
    show p + 1 ≤ q
    omega
  · intro d i t a b p q e h0 h1
    intro hp
    have c1 : (p + 1) + 1 ≤ t := h1.2 (by omega)
    show p + 1 ≤ q
    omega
  · intro d ix t a b p q e h0 h1 h2 h3 h4 h5
    intro hp
    have c3 : (p + 3) + 1 ≤ t := h3.2 (by omega)
    show p + 1 ≤ q
    omega
  · intro d a b p q e h0 h1 h2 h3
    intro hp
    show p + 1 ≤ q
    omega
  · intro d ix t a b p q e h0 h1 h2 h3 h4 h5
    intro hp
    have c3 : (p + 3) + 1 ≤ t := h3.2 (by omega)
    show p + 1 ≤ q
    omega
  · intro d ix t a b p q e h0 h1 h2 h3 h4
    intro hp
    have c3 : p + 1 ≤ t := h3.2 (by omega)
    show p + 1 ≤ q
    omega
  · intro d ix t a b p q e h0 h1 h2 h3 h4 h5
    intro hp
    have c3 : p + 1 ≤ t := h3.2 (by omega)
    have c5 : (t + 2) + 1 ≤ q := h5.2 (by omega)
    show p + 1 ≤ q
    omega
  · intro d ix iy t u a b p q e h0 h1 h2 h3 h4 h5 h6
    intro hp
    have c3 : p + 1 ≤ t := h3.2 (by omega)
    have c5 : (t + 1) + 1 ≤ u := h5.2 (by omega)
    show p + 1 ≤ q
    omega
  · intro d a b p q h0
    intro hp
    show p + 1 ≤ q
    omega
  · intro d a b p q e h0 h1
    intro hp
    have c1 : (p + 1) + 1 ≤ q := h1.2 (by omega)
    show p + 1 ≤ q
    omega
  · intro d ix t a b p q e h0 h1 h2 h3
    intro hp
    have c1 : p + 1 ≤ t := h1.2 (by omega)
    show p + 1 ≤ q
    omega
  · intro d ix t a b p q e h0 h1 h2 h3 h4
    intro hp
    have c1 : p + 1 ≤ t := h1.2 (by omega)
    have c4 : (t + 1) + 1 ≤ q := h4.2 (by omega)
    show p + 1 ≤ q
    omega
  · intro d a b p q e h0
    intro hp
    have c0 : p + 1 ≤ q := h0.2 (by omega)
    show p + 1 ≤ q
    omega
  · intro d ix t u bs rw a b p q e h0 h1 h2 h3 h4 h5
    intro hp
    have ty := h2.1
    unfold TYk at ty
    have c3 : (t + 2) + 1 ≤ u := h3.2 (by omega)
    show p + 1 ≤ q
    omega
  · intro d ix t y a b p q e h0 h1 h2 h3 h4 h5 h6 h7
    intro hp
    have c4 : (p + 2) + 1 ≤ t := h4.2 (by omega)
    have c7 : (t + 1) + 1 ≤ q := h7.2 (by omega)
    show p + 1 ≤ q
    omega
  · intro d ix t u y z a b p q e h0 h1 h2 h3 h4 h5 h6 h7 h8
    intro hp
    have c4 : (p + 2) + 1 ≤ t := h4.2 (by omega)
    have c7 : (t + 1) + 1 ≤ u := h7.2 (by omega)
    have c8 : (u + 1) + 1 ≤ q := h8.2 (by omega)
    show p + 1 ≤ q
    omega
  · intro d ix t y a b p q e h0 h1 h2 h3 h4 h5 h6 h7 h8
    intro hp
    have c5 : (p + 2) + 1 ≤ t := h5.2 (by omega)
    have c8 : (t + 1) + 1 ≤ q := h8.2 (by omega)
    show p + 1 ≤ q
    omega
  · intro d a b p q e h0 h1 h2 h3
    intro hp
    show p + 1 ≤ q
    omega
  · intro d a b p q e h0 h1 h2 h3
    intro hp
    show p + 1 ≤ q
    omega
  · intro d ix t a b p q e h0 h1 h2 h3 h4 h5
    intro hp
    have c3 : (p + 1) + 1 ≤ t := h3.2 (by omega)
    show p + 1 ≤ q
    omega
  · intro d ix t a b p q e h0 h1 h2 h3 h4 h5
    intro hp
    have c3 : (p + 1) + 1 ≤ t := h3.2 (by omega)
    show p + 1 ≤ q
    omega
  · intro d ix t a b p q e h0 h1 h2 h3 h4 h5
    intro hp
    have c3 : (p + 2) + 1 ≤ t := h3.2 (by omega)
    show p + 1 ≤ q
    omega
  · intro d t y a b p q e h0 h1 h2 h3 h4 h5 h6
    intro hp
    have c4 : (p + 1) + 1 ≤ t := h4.2 (by omega)
    have c6 : (t + 5) + 1 ≤ q := h6.2 (by omega)
    show p + 1 ≤ q
    omega
  · intro d ix t a b p q e h0 h1 h2 h3 h4 h5
    intro hp
    have c3 : p + 1 ≤ t := h3.2 (by omega)
    show p + 1 ≤ q
    omega
  · intro d ix iy t u y a b p q e h0 h1 h2 h3 h4 h5 h6 h7 h8 h9
    intro hp
    have c4 : p + 1 ≤ t := h4.2 (by omega)
    have c7 : (t + 1) + 1 ≤ u := h7.2 (by omega)
    show p + 1 ≤ q
    omega
  · intro d a b p h0 h1
    intro hp
    show p ≤ p
    omega
  · intro d t y a b p q e h0 h1 h2 h3
    intro hp
    have c2 : p + 1 ≤ t := h2.2 (by omega)
    have c3 : t ≤ q := h3.2 (by omega)
    show p ≤ q
    omega
  · intro d t a b p q e h0 h1 h2 h3 h4
    intro hp
    have c3 : (p + 1) ≤ t := h3.2 (by omega)
    show p + 1 ≤ q
    omega
theorem lk_fk {s : Nat} {d i l a b p q e : Int} (H : LKn d K T s i l a b p q e) : (s ≤ 3 ∨ s = 5) → ¬ K p.toNat = 41 ∧ ¬ K p.toNat = 46 := by
  refine lk_ind (fun d s i l a b p q e => (s ≤ 3 ∨ s = 5) → ¬ K p.toNat = 41 ∧ ¬ K p.toNat = 46) ?_ ?_ ?_ ?_ ?_ ?_ ?_ ?_ ?_ ?_ ?_ ?_ ?_ ?_ ?_ ?_ ?_ ?_ ?_ ?_ ?_ ?_ ?_ ?_ ?_ ?_ ?_ ?_ ?_ ?_ ?_ ?_ ?_ ?_ ?_ ?_ ?_ ?_ H
  · intro d i a b p q e h0 h1
    exact fun _ => h0.2 (by decide)
  · intro d ix iy iz t u y a b p q e h0 h1 h2 h3 h4 h5 h6 h7 h8 h9 h10
    exact fun _ => h3.2 (by decide)
  · intro d i l a b p q e h0
    exact fun _ => h0.2 (by decide)
  · intro d ix iy l s t a b p q e h0 h1 h2 h3 h4 h5 h6
    exact fun _ => h3.2 (by decide)
  · intro d ix l t a b p q e h0 h1 h2 h3 h4
    exact fun _ => h3.2 (by decide)
  · intro d ix a b p q e h0 h1 h2 h3
    exact fun _ => by omega
  · intro d ix a b p q e h0 h1 h2 h3
    exact fun _ => by have := h1.1.1; omega
  · intro d i a b p q e h0 h1
    exact fun _ => h0.2 (by decide)
  · intro d a b p q e h0 h1 h2
    exact fun _ => by omega
  · intro d a b p q e h0 h1 h2 h3
    exact fun _ => by omega
  · intro d a b p q e h0 h1 h2 h3 h4
    exact fun _ => by omega
  · intro d i t a b p q e h0 h1
    exact fun _ => by omega
  · intro d ix t a b p q e h0 h1 h2 h3 h4 h5
    exact fun _ => by omega
  · intro d a b p q e h0 h1 h2 h3
    exact fun _ => by omega
  · intro d ix t a b p q e h0 h1 h2 h3 h4 h5
    exact fun _ => by omega
  · intro d ix t a b p q e h0 h1 h2 h3 h4
    exact fun _ => h3.2 (by decide)
  · intro d ix t a b p q e h0 h1 h2 h3 h4 h5
    exact fun _ => h3.2 (by decide)
  · intro d ix iy t u a b p q e h0 h1 h2 h3 h4 h5 h6
    exact fun _ => h3.2 (by decide)
  · intro d a b p q h0
    exact fun z => absurd z (by decide)
  · intro d a b p q e h0 h1
    exact fun z => absurd z (by decide)
  · intro d ix t a b p q e h0 h1 h2 h3
    exact fun _ => h1.2 (by decide)
  · intro d ix t a b p q e h0 h1 h2 h3 h4
    exact fun _ => h1.2 (by decide)
  · intro d a b p q e h0
    exact fun z => absurd z (by decide)
  · intro d ix t u bs rw a b p q e h0 h1 h2 h3 h4 h5
    exact fun z => absurd z (by decide)
  · intro d ix t y a b p q e h0 h1 h2 h3 h4 h5 h6 h7
    exact fun z => absurd z (by decide)
  · intro d ix t u y z a b p q e h0 h1 h2 h3 h4 h5 h6 h7 h8
    exact fun z => absurd z (by decide)
  · intro d ix t y a b p q e h0 h1 h2 h3 h4 h5 h6 h7 h8
    exact fun z => absurd z (by decide)
  · intro d a b p q e h0 h1 h2 h3
    exact fun z => absurd z (by decide)
  · intro d a b p q e h0 h1 h2 h3
    exact fun z => absurd z (by decide)
  · intro d ix t a b p q e h0 h1 h2 h3 h4 h5
    exact fun z => absurd z (by decide)
  · intro d ix t a b p q e h0 h1 h2 h3 h4 h5
    exact fun z => absurd z (by decide)
  · intro d ix t a b p q e h0 h1 h2 h3 h4 h5
    exact fun z => absurd z (by decide)
  · intro d t y a b p q e h0 h1 h2 h3 h4 h5 h6
    exact fun z => absurd z (by decide)
  · intro d ix t a b p q e h0 h1 h2 h3 h4 h5
    exact fun z => absurd z (by decide)
  · intro d ix iy t u y a b p q e h0 h1 h2 h3 h4 h5 h6 h7 h8 h9
    exact fun z => absurd z (by decide)
  · intro d a b p h0 h1
    exact fun z => absurd z (by decide)
  · intro d t y a b p q e h0 h1 h2 h3
    exact fun z => absurd z (by decide)
  · intro d t a b p q e h0 h1 h2 h3 h4
    exact fun z => absurd z (by decide)
theorem lk_ar {s : Nat} {d i l a b p q e : Int} (H : LKn d K T s i l a b p q e) : (s = 4 ∨ s = 5) → 0 ≤ p → p + 2 ≤ q ∧ K (q - 1).toNat = 41 := by
  refine lk_ind (fun d s i l a b p q e => (s = 4 ∨ s = 5) → 0 ≤ p → p + 2 ≤ q ∧ K (q - 1).toNat = 41) ?_ ?_ ?_ ?_ ?_ ?_ ?_ ?_ ?_ ?_ ?_ ?_ ?_ ?_ ?_ ?_ ?_ ?_ ?_ ?_ ?_ ?_ ?_ ?_ ?_ ?_ ?_ ?_ ?_ ?_ ?_ ?_ ?_ ?_ ?_ ?_ ?_ ?_ H
  · intro d i a b p q e h0 h1
    exact fun z => absurd z (by decide)
  · intro d ix iy iz t u y a b p q e h0 h1 h2 h3 h4 h5 h6 h7 h8 h9 h10
    exact fun z => absurd z (by decide)
  · intro d i l a b p q e h0
    exact fun z => absurd z (by decide)
  · intro d ix iy l s t a b p q e h0 h1 h2 h3 h4 h5 h6
    exact fun z => absurd z (by decide)
  · intro d ix l t a b p q e h0 h1 h2 h3 h4
    exact fun z => absurd z (by decide)
  · intro d ix a b p q e h0 h1 h2 h3
    exact fun z => absurd z (by decide)
  · intro d ix a b p q e h0 h1 h2 h3
    exact fun z => absurd z (by decide)
  · intro d i a b p q e h0 h1
    exact fun z => absurd z (by decide)
  · intro d a b p q e h0 h1 h2
    exact fun z => absurd z (by decide)
  · intro d a b p q e h0 h1 h2 h3
    exact fun z => absurd z (by decide)
  · intro d a b p q e h0 h1 h2 h3 h4
    exact fun z => absurd z (by decide)
  · intro d i t a b p q e h0 h1
    exact fun z => absurd z (by decide)
  · intro d ix t a b p q e h0 h1 h2 h3 h4 h5
    exact fun z => absurd z (by decide)
  · intro d a b p q e h0 h1 h2 h3
    exact fun z => absurd z (by decide)
  · intro d ix t a b p q e h0 h1 h2 h3 h4 h5
    exact fun z => absurd z (by decide)
  · intro d ix t a b p q e h0 h1 h2 h3 h4
    exact fun z => absurd z (by decide)
  · intro d ix t a b p q e h0 h1 h2 h3 h4 h5
    exact fun z => absurd z (by decide)
  · intro d ix iy t u a b p q e h0 h1 h2 h3 h4 h5 h6
    exact fun z => absurd z (by decide)
  · intro d a b p q h0
    exact fun _ _ => ⟨by omega, by rw [show q - 1 = p + 1 by omega]; exact h0.2.1⟩
  · intro d a b p q e h0 h1
    intro _ hp
    obtain ⟨c1, c2⟩ := h1.2 (by decide) (by omega)
    exact ⟨by omega, c2⟩
  · intro d ix t a b p q e h0 h1 h2 h3
    intro _ hp
    have c1 : p + 1 ≤ t := lk_pq h1.1 hp
    exact ⟨by omega, by rw [show q - 1 = t by omega]; exact h3.2.1⟩
  · intro d ix t a b p q e h0 h1 h2 h3 h4
    intro _ hp
    have c1 : p + 1 ≤ t := lk_pq h1.1 hp
    obtain ⟨c2, c3⟩ := h4.2 (by decide) (by omega)
    exact ⟨by omega, c3⟩
  · intro d a b p q e h0
    exact fun z => absurd z (by decide)
  · intro d ix t u bs rw a b p q e h0 h1 h2 h3 h4 h5
    exact fun z => absurd z (by decide)
  · intro d ix t y a b p q e h0 h1 h2 h3 h4 h5 h6 h7
    exact fun z => absurd z (by decide)
  · intro d ix t u y z a b p q e h0 h1 h2 h3 h4 h5 h6 h7 h8
    exact fun z => absurd z (by decide)
  · intro d ix t y a b p q e h0 h1 h2 h3 h4 h5 h6 h7 h8
    exact fun z => absurd z (by decide)
  · intro d a b p q e h0 h1 h2 h3
    exact fun z => absurd z (by decide)
  · intro d a b p q e h0 h1 h2 h3
    exact fun z => absurd z (by decide)
  · intro d ix t a b p q e h0 h1 h2 h3 h4 h5
    exact fun z => absurd z (by decide)
  · intro d ix t a b p q e h0 h1 h2 h3 h4 h5
    exact fun z => absurd z (by decide)
  · intro d ix t a b p q e h0 h1 h2 h3 h4 h5
    exact fun z => absurd z (by decide)
  · intro d t y a b p q e h0 h1 h2 h3 h4 h5 h6
    exact fun z => absurd z (by decide)
  · intro d ix t a b p q e h0 h1 h2 h3 h4 h5
    exact fun z => absurd z (by decide)
  · intro d ix iy t u y a b p q e h0 h1 h2 h3 h4 h5 h6 h7 h8 h9
    exact fun z => absurd z (by decide)
  · intro d a b p h0 h1
    exact fun z => absurd z (by decide)
  · intro d t y a b p q e h0 h1 h2 h3
    exact fun z => absurd z (by decide)
  · intro d t a b p q e h0 h1 h2 h3 h4
    exact fun z => absurd z (by decide)
theorem lk_a0 {s : Nat} {d i l a b p q e : Int} (H : LKn d K T s i l a b p q e) : s = 4 → K p.toNat = 40 := by
  refine lk_ind (fun d s i l a b p q e => s = 4 → K p.toNat = 40) ?_ ?_ ?_ ?_ ?_ ?_ ?_ ?_ ?_ ?_ ?_ ?_ ?_ ?_ ?_ ?_ ?_ ?_ ?_ ?_ ?_ ?_ ?_ ?_ ?_ ?_ ?_ ?_ ?_ ?_ ?_ ?_ ?_ ?_ ?_ ?_ ?_ ?_ H
  · intro d i a b p q e h0 h1
    exact fun z => absurd z (by decide)
  · intro d ix iy iz t u y a b p q e h0 h1 h2 h3 h4 h5 h6 h7 h8 h9 h10
    exact fun z => absurd z (by decide)
  · intro d i l a b p q e h0
    exact fun z => absurd z (by decide)
  · intro d ix iy l s t a b p q e h0 h1 h2 h3 h4 h5 h6
    exact fun z => absurd z (by decide)
  · intro d ix l t a b p q e h0 h1 h2 h3 h4
    exact fun z => absurd z (by decide)
  · intro d ix a b p q e h0 h1 h2 h3
    exact fun z => absurd z (by decide)
  · intro d ix a b p q e h0 h1 h2 h3
    exact fun z => absurd z (by decide)
  · intro d i a b p q e h0 h1
    exact fun z => absurd z (by decide)
  · intro d a b p q e h0 h1 h2
    exact fun z => absurd z (by decide)
  · intro d a b p q e h0 h1 h2 h3
    exact fun z => absurd z (by decide)
  · intro d a b p q e h0 h1 h2 h3 h4
    exact fun z => absurd z (by decide)
  · intro d i t a b p q e h0 h1
    exact fun z => absurd z (by decide)
  · intro d ix t a b p q e h0 h1 h2 h3 h4 h5
    exact fun z => absurd z (by decide)
  · intro d a b p q e h0 h1 h2 h3
    exact fun z => absurd z (by decide)
  · intro d ix t a b p q e h0 h1 h2 h3 h4 h5
    exact fun z => absurd z (by decide)
  · intro d ix t a b p q e h0 h1 h2 h3 h4
    exact fun z => absurd z (by decide)
  · intro d ix t a b p q e h0 h1 h2 h3 h4 h5
    exact fun z => absurd z (by decide)
  · intro d ix iy t u a b p q e h0 h1 h2 h3 h4 h5 h6
    exact fun z => absurd z (by decide)
  · intro d a b p q h0
    exact fun _ => h0.1
  · intro d a b p q e h0 h1
    exact fun _ => h0.1
  · intro d ix t a b p q e h0 h1 h2 h3
    exact fun z => absurd z (by decide)
  · intro d ix t a b p q e h0 h1 h2 h3 h4
    exact fun z => absurd z (by decide)
  · intro d a b p q e h0
    exact fun z => absurd z (by decide)
  · intro d ix t u bs rw a b p q e h0 h1 h2 h3 h4 h5
    exact fun z => absurd z (by decide)
  · intro d ix t y a b p q e h0 h1 h2 h3 h4 h5 h6 h7
    exact fun z => absurd z (by decide)
  · intro d ix t u y z a b p q e h0 h1 h2 h3 h4 h5 h6 h7 h8
    exact fun z => absurd z (by decide)
  · intro d ix t y a b p q e h0 h1 h2 h3 h4 h5 h6 h7 h8
    exact fun z => absurd z (by decide)
  · intro d a b p q e h0 h1 h2 h3
    exact fun z => absurd z (by decide)
  · intro d a b p q e h0 h1 h2 h3
    exact fun z => absurd z (by decide)
  · intro d ix t a b p q e h0 h1 h2 h3 h4 h5
    exact fun z => absurd z (by decide)
  · intro d ix t a b p q e h0 h1 h2 h3 h4 h5
    exact fun z => absurd z (by decide)
  · intro d ix t a b p q e h0 h1 h2 h3 h4 h5
    exact fun z => absurd z (by decide)
  · intro d t y a b p q e h0 h1 h2 h3 h4 h5 h6
    exact fun z => absurd z (by decide)
  · intro d ix t a b p q e h0 h1 h2 h3 h4 h5
    exact fun z => absurd z (by decide)
  · intro d ix iy t u y a b p q e h0 h1 h2 h3 h4 h5 h6 h7 h8 h9
    exact fun z => absurd z (by decide)
  · intro d a b p h0 h1
    exact fun z => absurd z (by decide)
  · intro d t y a b p q e h0 h1 h2 h3
    exact fun z => absurd z (by decide)
  · intro d t a b p q e h0 h1 h2 h3 h4
    exact fun z => absurd z (by decide)
theorem lk_pn2 {s : Nat} {d i l a b p q e : Int} (H : LKn d K T s i l a b p q e) : s = 3 → i = 0 → T 167 e.toNat = 25 → q = p + 1 ∧ K p.toNat = 2 ∧ T 168 e.toNat = p := by
  refine lk_ind (fun d s i l a b p q e => s = 3 → i = 0 → T 167 e.toNat = 25 → q = p + 1 ∧ K p.toNat = 2 ∧ T 168 e.toNat = p) ?_ ?_ ?_ ?_ ?_ ?_ ?_ ?_ ?_ ?_ ?_ ?_ ?_ ?_ ?_ ?_ ?_ ?_ ?_ ?_ ?_ ?_ ?_ ?_ ?_ ?_ ?_ ?_ ?_ ?_ ?_ ?_ ?_ ?_ ?_ ?_ ?_ ?_ H
  · intro d i a b p q e h0 h1
    exact fun z => absurd z (by decide)
  · intro d ix iy iz t u y a b p q e h0 h1 h2 h3 h4 h5 h6 h7 h8 h9 h10
    exact fun z => absurd z (by decide)
  · intro d i l a b p q e h0
    exact fun z => absurd z (by decide)
  · intro d ix iy l s t a b p q e h0 h1 h2 h3 h4 h5 h6
    exact fun z => absurd z (by decide)
  · intro d ix l t a b p q e h0 h1 h2 h3 h4
    exact fun z => absurd z (by decide)
  · intro d ix a b p q e h0 h1 h2 h3
    exact fun z => absurd z (by decide)
  · intro d ix a b p q e h0 h1 h2 h3
    exact fun z => absurd z (by decide)
  · intro d i a b p q e h0 h1
    exact fun z => absurd z (by decide)
  · intro d a b p q e h0 h1 h2
    exact fun _ _ z => by omega
  · intro d a b p q e h0 h1 h2 h3
    exact fun _ _ _ => ⟨h2.2.2, h2.1, h1.2⟩
  · intro d a b p q e h0 h1 h2 h3 h4
    exact fun _ _ z => by omega
  · intro d i t a b p q e h0 h1
    exact fun _ z => absurd z (by decide)
  · intro d ix t a b p q e h0 h1 h2 h3 h4 h5
    exact fun _ _ z => by omega
  · intro d a b p q e h0 h1 h2 h3
    exact fun _ _ z => by omega
  · intro d ix t a b p q e h0 h1 h2 h3 h4 h5
    exact fun _ _ z => by omega
  · intro d ix t a b p q e h0 h1 h2 h3 h4
    exact fun _ _ z => by omega
  · intro d ix t a b p q e h0 h1 h2 h3 h4 h5
    exact fun _ _ z => by omega
  · intro d ix iy t u a b p q e h0 h1 h2 h3 h4 h5 h6
    exact fun _ _ z => by omega
  · intro d a b p q h0
    exact fun z => absurd z (by decide)
  · intro d a b p q e h0 h1
    exact fun z => absurd z (by decide)
  · intro d ix t a b p q e h0 h1 h2 h3
    exact fun z => absurd z (by decide)
  · intro d ix t a b p q e h0 h1 h2 h3 h4
    exact fun z => absurd z (by decide)
  · intro d a b p q e h0
    exact fun z => absurd z (by decide)
  · intro d ix t u bs rw a b p q e h0 h1 h2 h3 h4 h5
    exact fun z => absurd z (by decide)
  · intro d ix t y a b p q e h0 h1 h2 h3 h4 h5 h6 h7
    exact fun z => absurd z (by decide)
  · intro d ix t u y z a b p q e h0 h1 h2 h3 h4 h5 h6 h7 h8
    exact fun z => absurd z (by decide)
  · intro d ix t y a b p q e h0 h1 h2 h3 h4 h5 h6 h7 h8
    exact fun z => absurd z (by decide)
  · intro d a b p q e h0 h1 h2 h3
    exact fun z => absurd z (by decide)
  · intro d a b p q e h0 h1 h2 h3
    exact fun z => absurd z (by decide)
  · intro d ix t a b p q e h0 h1 h2 h3 h4 h5
    exact fun z => absurd z (by decide)
  · intro d ix t a b p q e h0 h1 h2 h3 h4 h5
    exact fun z => absurd z (by decide)
  · intro d ix t a b p q e h0 h1 h2 h3 h4 h5
    exact fun z => absurd z (by decide)
  · intro d t y a b p q e h0 h1 h2 h3 h4 h5 h6
    exact fun z => absurd z (by decide)
  · intro d ix t a b p q e h0 h1 h2 h3 h4 h5
    exact fun z => absurd z (by decide)
  · intro d ix iy t u y a b p q e h0 h1 h2 h3 h4 h5 h6 h7 h8 h9
    exact fun z => absurd z (by decide)
  · intro d a b p h0 h1
    exact fun z => absurd z (by decide)
  · intro d t y a b p q e h0 h1 h2 h3
    exact fun z => absurd z (by decide)
  · intro d t a b p q e h0 h1 h2 h3 h4
    exact fun z => absurd z (by decide)
end
section
variable {nn : Nat} {X : BCx} {dp i l a b e s k c st fit how at_ : Int} {p q t tk pa x j : Nat} {h hA g u r rA w m v : ms_M}
theorem p3_pd {t2 : Nat} {ix : Int} (Y : CXs X) (ne : 0 ≤ a ∧ a ≤ e ∧ e < b) (nd : bT X 167 e.toNat = 31 ∧ bT X 168 e.toNat = ((t + 1 : Nat) : Int) ∧ bT X 172 e.toNat = (t : Int)) (kk : bK X t = 48 ∧ bK X (t + 1) = 2 ∧ bK X (t + 2) = 40) (r1 : a ≤ bT X 170 e.toNat ∧ bT X 170 e.toNat < e) (L1 : bT X 177 (bT X 170 e.toNat).toNat = ix) (CH : P3 nn X dp ix a e p t (bT X 170 e.toNat)) (AR : A4 nn X dp (e + 1) b (t + 2) t2 (bT X 171 e.toNat)) (k41 : bK X t2 = 41) (pt : p < t ∧ t + 2 < t2) (HO : ix = 0 → bT X 167 (bT X 170 e.toNat).toNat = 25 → t = p + 1 ∧ bK X p = 2 ∧ bT X 168 (bT X 170 e.toNat).toNat = (p : Int)) : P3 nn X dp 0 a b p (t2 + 1) e := by
  intro d d2 h r Z Q b57 HB HC HF
  have own := Y.2.2.2.1
  by_cases pl : ix = 0 ∧ bT X 167 (bT X 170 e.toNat).toNat = 25
  · obtain ⟨tp, kp, o68⟩ := HO pl.1 pl.2
    subst tp
    have Q0 := Q
    obtain ⟨B, ⟨q1, q2, q3, q4⟩, -, -⟩ := Q0
    have TB : TBc (bK X) (bP X) (bc X) h := B.1.1.1.1
    have VL : VLc (bK X) (bV X) (bc X) h := B.1.1.1.2.1
    have c3 := Y.1.2.1
    have p1 : p + 1 < bc X := jp_lt Y.1 q2 (by omega)
    have E41 : ∀ cc x : Nat, ¬ (cc = 2 ∧ x = 10) → up_M h 2 10 ((p + 1 : Nat) : Int) cc x = h cc x := fun cc x z => up_n z
    have BV : ∀ r2 : ms_M, BX X h r2 → BX X (up_M h 2 10 ((p + 1 : Nat) : Int)) r2 := fun r2 B2 => bx_k B2 (fun cc x z => E41 cc x (by omega)) (fun _ _ _ => rfl)
    have S : Pc (qo_X10_readPrimary nn (qg_X10_readValue nn d) dp h) (fun _ => ∃ u47, qf_X1_localOf nn (bV X p) (up_M h 2 10 ((p + 1 : Nat) : Int)) = some u47 ∧ (u47 = -1 → ∃ u51, qf_X2_fieldOf nn (bo X) (bV X p) (up_M h 2 10 ((p + 1 : Nat) : Int)) = some u51)) := by
      unfold qo_X10_readPrimary
      refine pc_sv (c_kind Y.1 TB q2 q1 q3) ?_; intro u25 q25
      refine pc_if (fun _ => ?_) (fun z => absurd (show u25 = 2 by omega) z)
      refine pc_sv (P := fun _ => ∃ u47, qf_X1_localOf nn (bV X p) (up_M h 2 10 ((p + 1 : Nat) : Int)) = some u47 ∧ (u47 = -1 → ∃ u51, qf_X2_fieldOf nn (bo X) (bV X p) (up_M h 2 10 ((p + 1 : Nat) : Int)) = some u51)) ?_ (fun _ Hu _ _ => Hu)
      cases d with
      | zero => exact fun _ z => nomatch z
      | succ d =>
        show Pc (qo_X10_readNamed nn (qg_X10_readValue nn d) dp h) _
        unfold qo_X10_readNamed
        rw [q1]
        refine pc_sv (c_valueAt Y.1 TB VL kp rfl) ?_; intro u37 q37
        refine pc_add (by omega) ?_; intro v40 e40
        refine pc_xl ?_; intro h41 e41
        rw [show v40 = ((p + 1 : Nat) : Int) by omega] at e41
        have B1 := BV r B
        rw [← e41] at B1
        refine pc_sv (c_kind Y.1 B1.1.1.1.1 p1 (by rw [e41, up_s]) (by rw [e41, up_n (by omega)]; exact q3)) ?_; intro u44 q44
        refine pc_if (fun _ => ?_) (fun z => absurd (show ¬ u44 = 40 by omega) z)
        rw [q37, ← e41]
        refine pc_se ?_; intro u47 e47
        refine pc_if (fun z => ?_) (fun z => ?_)
        · exact fun _ _ => ⟨u47, e47, fun y => absurd y z⟩
        · rw [show h41 49 16 = bo X by rw [e41, up_n (by omega)]; exact B.2.2.1.1]
          refine pc_se ?_; intro u51 e51
          exact fun _ _ => ⟨u47, e47, fun _ => ⟨u51, e51⟩⟩
    intro uF eF
    obtain ⟨u47, e47, H51⟩ := S uF eF
    by_cases z47 : u47 = -1
    · obtain ⟨u51, e51⟩ := H51 z47
      by_cases z51 : u51 = -1
      · rw [z47] at e47
        rw [z51] at e51
        have W : Pc (qo_X10_readPrimary nn (qg_X10_readValue nn d) dp h) (fun uF => Pc ((qg_X13_condition nn d2).2.2.1 e r) (fun v => Z uF v)) := by
          unfold qo_X10_readPrimary
          refine pc_sv (c_kind Y.1 TB q2 q1 q3) ?_; intro u25 q25
          refine pc_if (fun _ => ?_) (fun z => absurd (show u25 = 2 by omega) z)
          refine p3_fin Y Q ?_ HC HF q1
          cases d with
          | zero => exact pc_none
          | succ d => exact p_bycl Y Q b57 ne ⟨nd.1, nd.2.1⟩ r1 ⟨pl.2, o68, L1.trans pl.1⟩ ⟨kp, kk.1, kk.2.1, kk.2.2⟩ k41 (by omega) AR e47 e51 d d2
        exact W uF eF
      · refine p3_pdv Y ne nd kk r1 L1 CH AR k41 pt d d2 h r Z Q b57 (fun _ _ => ⟨o68, fun r2 B2 => .inr ?_⟩) HC HF uF eF
        refine pc_imp (j_fieldOf (nn := nn) Y.1 Y.2.1 (BV r2 B2).1 kp (a := bo X) (by omega) _ e51) (fun v L => ?_)
        rcases L with y | ⟨jj, kk, -, -, -, -, y, -⟩
        · exact absurd y.1 z51
        · omega
    · refine p3_pdv Y ne nd kk r1 L1 CH AR k41 pt d d2 h r Z Q b57 (fun _ _ => ⟨o68, fun r2 B2 => .inl ?_⟩) HC HF uF eF
      refine pc_imp (j_loc Y.1 (BV r2 B2).1.1.2.2.2.1 (BV r2 B2).2.1 kp rfl rfl _ e47) (fun v L => ?_)
      rcases L with y | ⟨s, y1, y2, y3⟩
      · exact absurd y.1 z47
      · omega
  · exact p3_pdv Y ne nd kk r1 L1 CH AR k41 pt d d2 h r Z Q b57 (fun i0 k25 => absurd ⟨i0, k25⟩ pl) HC HF
end
end
section
/- all E of both sides -/
def EAl (nn : Nat) (X : BCx) : LkT := fun d s i l a b p q e => (0 ≤ d ∧ (s = 1 → 1 ≤ d)) → ∀ pn qn : Nat, p = (pn : Int) → q = (qn : Int) → (s = 0 → E0 nn X d i a b pn qn e) ∧ (s = 1 → S1 nn X d i l a b pn qn e) ∧ (s = 2 → E2 nn X d i a b pn qn e) ∧ (s = 3 → P3 nn X d i a b pn qn e) ∧ (s = 4 → ∀ tn : Nat, qn = tn + 1 → A4 nn X d a b pn tn e) ∧ (s = 5 → ∀ tn : Nat, qn = tn + 1 → A5 nn X d a b pn tn e)
section
variable {nn : Nat} {X : BCx}
theorem kt_e {K : Nat → Int} {p : Int} {n : Nat} (h : p = (n : Int)) : K p.toNat = K n := by rw [h, Int.toNat_natCast]
theorem kt_f {K : Nat → Int} {p v : Int} {n : Nat} (h : p = (n : Int)) (e : K p.toNat = v) : K n = v := by rw [h, Int.toNat_natCast] at e; exact e
theorem kt_g {K : Nat → Int} {p v : Int} {n : Nat} (h : p = (n : Int)) (e : ¬ K p.toNat = v) : ¬ K n = v := by rw [h, Int.toNat_natCast] at e; exact e
theorem ex_n {t : Int} (h : 0 ≤ t) : ∃ n : Nat, t = (n : Int) := ⟨t.toNat, by omega⟩
theorem el_0 {d i l a b e : Int} {pn qn : Nat} (H : E0 nn X d i a b pn qn e) : ((0 : Nat) = 0 → E0 nn X d i a b pn qn e) ∧ ((0 : Nat) = 1 → S1 nn X d i l a b pn qn e) ∧ ((0 : Nat) = 2 → E2 nn X d i a b pn qn e) ∧ ((0 : Nat) = 3 → P3 nn X d i a b pn qn e) ∧ ((0 : Nat) = 4 → ∀ tn : Nat, qn = tn + 1 → A4 nn X d a b pn tn e) ∧ ((0 : Nat) = 5 → ∀ tn : Nat, qn = tn + 1 → A5 nn X d a b pn tn e) := ⟨fun _ => H, fun z => absurd z (by decide), fun z => absurd z (by decide), fun z => absurd z (by decide), fun z => absurd z (by decide), fun z => absurd z (by decide)⟩
theorem el_1 {d i l a b e : Int} {pn qn : Nat} (H : S1 nn X d i l a b pn qn e) : ((1 : Nat) = 0 → E0 nn X d i a b pn qn e) ∧ ((1 : Nat) = 1 → S1 nn X d i l a b pn qn e) ∧ ((1 : Nat) = 2 → E2 nn X d i a b pn qn e) ∧ ((1 : Nat) = 3 → P3 nn X d i a b pn qn e) ∧ ((1 : Nat) = 4 → ∀ tn : Nat, qn = tn + 1 → A4 nn X d a b pn tn e) ∧ ((1 : Nat) = 5 → ∀ tn : Nat, qn = tn + 1 → A5 nn X d a b pn tn e) := ⟨fun z => absurd z (by decide), fun _ => H, fun z => absurd z (by decide), fun z => absurd z (by decide), fun z => absurd z (by decide), fun z => absurd z (by decide)⟩
theorem el_2 {d i l a b e : Int} {pn qn : Nat} (H : E2 nn X d i a b pn qn e) : ((2 : Nat) = 0 → E0 nn X d i a b pn qn e) ∧ ((2 : Nat) = 1 → S1 nn X d i l a b pn qn e) ∧ ((2 : Nat) = 2 → E2 nn X d i a b pn qn e) ∧ ((2 : Nat) = 3 → P3 nn X d i a b pn qn e) ∧ ((2 : Nat) = 4 → ∀ tn : Nat, qn = tn + 1 → A4 nn X d a b pn tn e) ∧ ((2 : Nat) = 5 → ∀ tn : Nat, qn = tn + 1 → A5 nn X d a b pn tn e) := ⟨fun z => absurd z (by decide), fun z => absurd z (by decide), fun _ => H, fun z => absurd z (by decide), fun z => absurd z (by decide), fun z => absurd z (by decide)⟩
theorem el_3 {d i l a b e : Int} {pn qn : Nat} (H : P3 nn X d i a b pn qn e) : ((3 : Nat) = 0 → E0 nn X d i a b pn qn e) ∧ ((3 : Nat) = 1 → S1 nn X d i l a b pn qn e) ∧ ((3 : Nat) = 2 → E2 nn X d i a b pn qn e) ∧ ((3 : Nat) = 3 → P3 nn X d i a b pn qn e) ∧ ((3 : Nat) = 4 → ∀ tn : Nat, qn = tn + 1 → A4 nn X d a b pn tn e) ∧ ((3 : Nat) = 5 → ∀ tn : Nat, qn = tn + 1 → A5 nn X d a b pn tn e) := ⟨fun z => absurd z (by decide), fun z => absurd z (by decide), fun z => absurd z (by decide), fun _ => H, fun z => absurd z (by decide), fun z => absurd z (by decide)⟩
theorem el_4 {d i l a b e : Int} {pn qn : Nat} (H : ∀ tn : Nat, qn = tn + 1 → A4 nn X d a b pn tn e) : ((4 : Nat) = 0 → E0 nn X d i a b pn qn e) ∧ ((4 : Nat) = 1 → S1 nn X d i l a b pn qn e) ∧ ((4 : Nat) = 2 → E2 nn X d i a b pn qn e) ∧ ((4 : Nat) = 3 → P3 nn X d i a b pn qn e) ∧ ((4 : Nat) = 4 → ∀ tn : Nat, qn = tn + 1 → A4 nn X d a b pn tn e) ∧ ((4 : Nat) = 5 → ∀ tn : Nat, qn = tn + 1 → A5 nn X d a b pn tn e) := ⟨fun z => absurd z (by decide), fun z => absurd z (by decide), fun z => absurd z (by decide), fun z => absurd z (by decide), fun _ => H, fun z => absurd z (by decide)⟩
theorem el_5 {d i l a b e : Int} {pn qn : Nat} (H : ∀ tn : Nat, qn = tn + 1 → A5 nn X d a b pn tn e) : ((5 : Nat) = 0 → E0 nn X d i a b pn qn e) ∧ ((5 : Nat) = 1 → S1 nn X d i l a b pn qn e) ∧ ((5 : Nat) = 2 → E2 nn X d i a b pn qn e) ∧ ((5 : Nat) = 3 → P3 nn X d i a b pn qn e) ∧ ((5 : Nat) = 4 → ∀ tn : Nat, qn = tn + 1 → A4 nn X d a b pn tn e) ∧ ((5 : Nat) = 5 → ∀ tn : Nat, qn = tn + 1 → A5 nn X d a b pn tn e) := ⟨fun z => absurd z (by decide), fun z => absurd z (by decide), fun z => absurd z (by decide), fun z => absurd z (by decide), fun z => absurd z (by decide), fun _ => H⟩
theorem e_all (Y : CXs X) {s : Nat} {d i l a b p q e : Int} (H : LKn d (bK X) (bT X) s i l a b p q e) : EAl nn X d s i l a b p q e := by
  refine lk_ind (EAl nn X) ?_ ?_ ?_ ?_ ?_ ?_ ?_ ?_ ?_ ?_ ?_ ?_ ?_ ?_ ?_ ?_ ?_ ?_ ?_ ?_ ?_ ?_ ?_ ?_ ?_ ?_ ?_ ?_ ?_ ?_ ?_ ?_ ?_ ?_ ?_ ?_ ?_ ?_ H
  · intro d i a b p q e h0 h1 hd pn qn hp hq
    have o0 : p + 1 ≤ q := lk_pq h0.1 (by omega)
    have c0 := (h0.2 ⟨by omega, fun _ => by omega⟩ pn qn (by omega) (by omega)).2.1 rfl
    exact el_0 (e0_es Y ⟨hd.1, by have := (lk_dp h0.1).1 (by decide) (by decide); omega⟩ c0)
  · intro d ix iy iz t u y a b p q e h0 h1 h2 h3 h4 h5 h6 h7 h8 h9 h10 hd pn qn hp hq
    have o3 : p + 1 ≤ t := lk_pq h3.1 (by omega)
    obtain ⟨tn, ht⟩ := ex_n (t := t) (by omega)
    have c3 := (h3.2 ⟨by omega, fun _ => by omega⟩ pn tn (by omega) (by omega)).2.1 rfl
    have o6 : (t + 1) + 1 ≤ u := lk_pq h6.1 (by omega)
    obtain ⟨un, hu⟩ := ex_n (t := u) (by omega)
    have c6 := (h6.2 ⟨by omega, fun _ => by omega⟩ (tn + 1) un (by omega) (by omega)).1 rfl
    have o9 : (u + 1) + 1 ≤ q := lk_pq h9.1 (by omega)
    have c9 := (h9.2 ⟨by omega, fun _ => by omega⟩ (un + 1) qn (by omega) (by omega)).1 rfl
    exact el_0 (e0_ec (t := tn) (uu := un) Y h0 h1 ⟨hd.1, by have := (lk_dp h3.1).1 (by decide) (by decide); omega⟩ ⟨h2.1, by omega⟩ c3 (by omega) (kt_f ht (h5)) c6 (kt_f hu (h8)) c9 (by omega))
  · intro d i l a b p q e h0 hd pn qn hp hq
    have d1 := hd.2 rfl
    have o0 : p + 1 ≤ q := lk_pq h0.1 (by omega)
    have c0 := (h0.2 ⟨by omega, fun _ => by omega⟩ pn qn (by omega) (by omega)).2.2.1 rfl
    exact el_1 (s1_su Y (by have := (lk_dp h0.1).1 (by decide) (by decide); omega) c0)
  · intro d ix iy l s t a b p q e h0 h1 h2 h3 h4 h5 h6 hd pn qn hp hq
    have d1 := hd.2 rfl
    have o3 : p + 1 ≤ t := lk_pq h3.1 (by omega)
    obtain ⟨tn, ht⟩ := ex_n (t := t) (by omega)
    have c3 := (h3.2 ⟨by omega, fun _ => by omega⟩ pn tn (by omega) (by omega)).2.1 rfl
    have o5 : (t + 1) + 1 ≤ q := lk_pq h5.1 (by omega)
    have c5 := (h5.2 ⟨by omega, fun _ => by omega⟩ (tn + 1) qn (by omega) (by omega)).2.1 rfl
    exact el_1 (s1_sb (t := tn) Y h0 ⟨hd.2 rfl, by have := (lk_dp h3.1).1 (by decide) (by decide); omega⟩ ⟨h1.1, by omega⟩ (by have e := kt_e (K := bK X) ht; rw [e] at h2; exact h2) (lk_rg h3.1 (by decide) (by decide)).2 c3 (by omega) c5 (by omega) (by omega) (by omega))
  · intro d ix l t a b p q e h0 h1 h2 h3 h4 hd pn qn hp hq
    have d1 := hd.2 rfl
    have o3 : p + 1 ≤ t := lk_pq h3.1 (by omega)
    obtain ⟨tn, ht⟩ := ex_n (t := t) (by omega)
    have c3 := (h3.2 ⟨by omega, fun _ => by omega⟩ pn tn (by omega) (by omega)).2.1 rfl
    exact el_1 (s1_si (t := tn) Y h0 ⟨hd.2 rfl, by have := (lk_dp h3.1).1 (by decide) (by decide); omega⟩ ⟨h1.1, by omega⟩ ⟨h2.1, kt_f ht (h2.2.1), kt_f (p := t + 1) (by omega) (h2.2.2.1), by omega⟩ (lk_rg h3.1 (by decide) (by decide)).2 c3 (by omega))
  · intro d ix a b p q e h0 h1 h2 h3 hd pn qn hp hq
    have o2 : (p + 1) + 1 ≤ q := lk_pq h2.1 (by omega)
    have c2 := (h2.2 ⟨by omega, fun _ => by omega⟩ (pn + 1) qn (by omega) (by omega)).2.2.1 rfl
    exact el_2 (e2_us Y h0 ⟨hd.1, by have := (lk_dp h2.1).1 (by decide) (by decide); omega⟩ ⟨by have e := kt_e (K := bK X) hp; rw [e] at h1; exact h1.1, by omega⟩ c2 (by omega) (by omega))
  · intro d ix a b p q e h0 h1 h2 h3 hd pn qn hp hq
    have o2 : (p + 3) + 1 ≤ q := lk_pq h2.1 (by omega)
    have c2 := (h2.2 ⟨by omega, fun _ => by omega⟩ (pn + 3) qn (by omega) (by omega)).2.2.1 rfl
    exact el_2 (e2_uc Y h0 ⟨hd.1, by have := (lk_dp h2.1).1 (by decide) (by decide); omega⟩ ⟨by rw [← hp]; exact h1.1, h1.2.1, by omega⟩ c2 (by omega))
  · intro d i a b p q e h0 h1 hd pn qn hp hq
    have o0 : p + 1 ≤ q := lk_pq h0.1 (by omega)
    have c0 := (h0.2 ⟨by omega, fun _ => by omega⟩ pn qn (by omega) (by omega)).2.2.2.1 rfl
    exact el_2 (e2_up Y (lk_rg h0.1 (by decide) (by decide)) (by have := (lk_dp h0.1).1 (by decide) (by decide); omega) c0 (by have e := kt_e (K := bK X) hp; have e2 := kt_e (K := bK X) hq; rw [e, e2, hp] at h1; exact h1))
  · intro d a b p q e h0 h1 h2 hd pn qn hp hq
    exact el_3 (p3_pl Y h0 ⟨by have e := kt_e (K := bK X) hp; rw [e] at h1; exact h1.1, by omega⟩ (by omega))
  · intro d a b p q e h0 h1 h2 h3 hd pn qn hp hq
    exact el_3 (p3_pn Y h0 ⟨h1.1, by omega⟩ (kt_f hp (h2.1)) (kt_g (p := p + 1) (by omega) h2.2.1) (by omega))
  · intro d a b p q e h0 h1 h2 h3 h4 hd pn qn hp hq
    have ax := lk_ar h3.1 (by decide) (by omega)
    have o3 : (p + 1) + 1 ≤ q := lk_pq h3.1 (by omega)
    obtain ⟨tn, hw⟩ := ex_n (t := q - 1) (by omega)
    have c3 := (h3.2 ⟨by omega, fun z => absurd z (by decide)⟩ (pn + 1) qn (by omega) hq).2.2.2.2.1 rfl tn (by omega)
    exact el_3 (p3_pc (t := tn) Y h0 ⟨h1.1, by omega⟩ (kt_f hp (h2)) (kt_f (p := p + 1) (by omega) (lk_a0 h3.1 rfl)) (kt_f (p := q - 1) (by omega) (ax.2)) (by omega) c3 (by omega))
  · intro d i t a b p q e h0 h1 hd pn qn hp hq
    have o1 : (p + 1) + 1 ≤ t := lk_pq h1.1 (by omega)
    obtain ⟨tn, ht⟩ := ex_n (t := t) (by omega)
    have c1 := (h1.2 ⟨by omega, fun _ => by omega⟩ (pn + 1) tn (by omega) (by omega)).1 rfl
    exact el_3 (p3_pb (t := tn) Y (lk_rg h1.1 (by decide) (by decide)) ⟨kt_f hp (h0.1), kt_f ht (h0.2.1), by omega⟩ c1)
  · intro d ix t a b p q e h0 h1 h2 h3 h4 h5 hd pn qn hp hq
    have o3 : (p + 3) + 1 ≤ t := lk_pq h3.1 (by omega)
    obtain ⟨tn, ht⟩ := ex_n (t := t) (by omega)
    have c3 := (h3.2 ⟨by omega, fun _ => by omega⟩ (pn + 3) tn (by omega) (by omega)).1 rfl
    exact el_3 (p3_pi (t := tn) Y h0 ⟨h1.1, by omega⟩ ⟨kt_f hp (h2.1), kt_f (p := p + 1) (by omega) (h2.2.1), kt_f (p := p + 2) (by omega) (h2.2.2)⟩ c3 ⟨kt_f ht (h5.1), by omega⟩ (by omega))
  · intro d a b p q e h0 h1 h2 h3 hd pn qn hp hq
    exact el_3 (p3_pm Y h0 ⟨h1.1, by omega⟩ ⟨kt_f hp (h2.1), kt_f (p := p + 1) (by omega) (h2.2.1), kt_f (p := p + 2) (by omega) (h2.2.2.1), kt_f (p := p + 3) (by omega) (h2.2.2.2.1)⟩ (by omega))
  · intro d ix t a b p q e h0 h1 h2 h3 h4 h5 hd pn qn hp hq
    have o3 : (p + 3) + 1 ≤ t := lk_pq h3.1 (by omega)
    obtain ⟨tn, ht⟩ := ex_n (t := t) (by omega)
    have c3 := (h3.2 ⟨by omega, fun _ => by omega⟩ (pn + 3) tn (by omega) (by omega)).1 rfl
    exact el_3 (p3_pr (t := tn) Y h0 ⟨h1.1, by omega, by omega⟩ ⟨kt_f hp (h2.1), kt_f (p := p + 1) (by omega) (h2.2.1), kt_f (p := p + 2) (by omega) (h2.2.2)⟩ c3 ⟨kt_f ht (h5.1), by omega⟩ (by omega))
  · intro d ix t a b p q e h0 h1 h2 h3 h4 hd pn qn hp hq
    have o3 : p + 1 ≤ t := lk_pq h3.1 (by omega)
    obtain ⟨tn, ht⟩ := ex_n (t := t) (by omega)
    have c3 := (h3.2 ⟨by omega, fun _ => by omega⟩ pn tn (by omega) (by omega)).2.2.2.1 rfl
    exact el_3 (p3_pf (t := tn) Y h0 ⟨h1.1, by omega, by omega⟩ ⟨kt_f ht (h2.1), kt_f (p := t + 1) (by omega) (h2.2.1), kt_g (p := t + 2) (by omega) h2.2.2.1, by omega⟩ (lk_rg h3.1 (by decide) (by decide)).2 c3 (by omega))
  · intro d ix t a b p q e h0 h1 h2 h3 h4 h5 hd pn qn hp hq
    have o3 : p + 1 ≤ t := lk_pq h3.1 (by omega)
    obtain ⟨tn, ht⟩ := ex_n (t := t) (by omega)
    have c3 := (h3.2 ⟨by omega, fun _ => by omega⟩ pn tn (by omega) (by omega)).2.2.2.1 rfl
    have ax := lk_ar h5.1 (by decide) (by omega)
    have o5 : (t + 2) + 1 ≤ q := lk_pq h5.1 (by omega)
    obtain ⟨sn, hw⟩ := ex_n (t := q - 1) (by omega)
    have c5 := (h5.2 ⟨by omega, fun z => absurd z (by decide)⟩ (tn + 2) qn (by omega) hq).2.2.2.2.1 rfl sn (by omega)
    exact el_3 (by rw [show qn = sn + 1 by omega]; exact p3_pd (t := tn) (t2 := sn) Y h0 ⟨h1.1, by omega, by omega⟩ ⟨kt_f ht (h2.1), kt_f (p := t + 1) (by omega) (h2.2), kt_f (p := t + 2) (by omega) (lk_a0 h5.1 rfl)⟩ (lk_rg h3.1 (by decide) (by decide)).2 h4.2 c3 c5 (kt_f (p := q - 1) (by omega) (ax.2)) (by omega) (fun i0 k25 => by obtain ⟨y1, y2, y3⟩ := lk_pn2 h3.1 rfl i0 k25; exact ⟨by omega, kt_f hp (y2), by omega⟩))
  · intro d ix iy t u a b p q e h0 h1 h2 h3 h4 h5 h6 hd pn qn hp hq
    have o3 : p + 1 ≤ t := lk_pq h3.1 (by omega)
    obtain ⟨tn, ht⟩ := ex_n (t := t) (by omega)
    have c3 := (h3.2 ⟨by omega, fun _ => by omega⟩ pn tn (by omega) (by omega)).2.2.2.1 rfl
    have o5 : (t + 1) + 1 ≤ u := lk_pq h5.1 (by omega)
    obtain ⟨un, hu⟩ := ex_n (t := u) (by omega)
    have c5 := (h5.2 ⟨by omega, fun _ => by omega⟩ (tn + 1) un (by omega) (by omega)).1 rfl
    exact el_3 (p3_pe (t := tn) (uu := un) Y h0 ⟨h1.1, by omega⟩ ⟨kt_f ht (h2.1), kt_f hu (h2.2.1), by omega⟩ (lk_rg h3.1 (by decide) (by decide)).2 c3 c5 (by omega) (by omega))
  · intro d a b p q h0 hd pn qn hp hq
    exact el_4 (fun tn ht => by rw [show tn = pn + 1 by omega]; exact a4_an Y (kt_f hp (h0.1)) (kt_f (p := p + 1) (by omega) (h0.2.1)))
  · intro d a b p q e h0 h1 hd pn qn hp hq
    have ax := lk_ar h1.1 (by decide) (by omega)
    have o1 : (p + 1) + 1 ≤ q := lk_pq h1.1 (by omega)
    have c1 := (h1.2 ⟨by omega, fun _ => by omega⟩ (pn + 1) qn (by omega) (by omega)).2.2.2.2.2 rfl
    exact el_4 (fun tn ht => a4_al Y (kt_f hp (h0.1)) (c1 tn ht))
  · intro d ix t a b p q e h0 h1 h2 h3 hd pn qn hp hq
    have o1 : p + 1 ≤ t := lk_pq h1.1 (by omega)
    obtain ⟨tn, ht⟩ := ex_n (t := t) (by omega)
    have c1 := (h1.2 ⟨by omega, fun _ => by omega⟩ pn tn (by omega) (by omega)).1 rfl
    exact el_5 (fun sn hs => by rw [show sn = tn by omega]; exact a5_ao Y h0 (kt_g hp (lk_fk h1.1 (by decide)).1) c1 (kt_f ht (h3.2.1)) h3.1 (by omega))
  · intro d ix t a b p q e h0 h1 h2 h3 h4 hd pn qn hp hq
    have o1 : p + 1 ≤ t := lk_pq h1.1 (by omega)
    obtain ⟨tn, ht⟩ := ex_n (t := t) (by omega)
    have c1 := (h1.2 ⟨by omega, fun _ => by omega⟩ pn tn (by omega) (by omega)).1 rfl
    have ax := lk_ar h4.1 (by decide) (by omega)
    have o4 : (t + 1) + 1 ≤ q := lk_pq h4.1 (by omega)
    have c4 := (h4.2 ⟨by omega, fun _ => by omega⟩ (tn + 1) qn (by omega) (by omega)).2.2.2.2.2 rfl
    exact el_5 (fun sn hs => a5_am (t := tn) Y h0 (kt_g hp (lk_fk h1.1 (by decide)).1) c1 (kt_f ht (h3)) (c4 sn hs) (by omega))
  · intro d a b p q e h0 hd pn qn hp hq
    exact ⟨fun z => absurd z (by decide), fun z => absurd z (by decide), fun z => absurd z (by decide), fun z => absurd z (by decide), fun z => absurd z (by decide), fun z => absurd z (by decide)⟩
  · intro d ix t u bs rw a b p q e h0 h1 h2 h3 h4 h5 hd pn qn hp hq
    exact ⟨fun z => absurd z (by decide), fun z => absurd z (by decide), fun z => absurd z (by decide), fun z => absurd z (by decide), fun z => absurd z (by decide), fun z => absurd z (by decide)⟩
  · intro d ix t y a b p q e h0 h1 h2 h3 h4 h5 h6 h7 hd pn qn hp hq
    exact ⟨fun z => absurd z (by decide), fun z => absurd z (by decide), fun z => absurd z (by decide), fun z => absurd z (by decide), fun z => absurd z (by decide), fun z => absurd z (by decide)⟩
  · intro d ix t u y z a b p q e h0 h1 h2 h3 h4 h5 h6 h7 h8 hd pn qn hp hq
    exact ⟨fun z => absurd z (by decide), fun z => absurd z (by decide), fun z => absurd z (by decide), fun z => absurd z (by decide), fun z => absurd z (by decide), fun z => absurd z (by decide)⟩
  · intro d ix t y a b p q e h0 h1 h2 h3 h4 h5 h6 h7 h8 hd pn qn hp hq
    exact ⟨fun z => absurd z (by decide), fun z => absurd z (by decide), fun z => absurd z (by decide), fun z => absurd z (by decide), fun z => absurd z (by decide), fun z => absurd z (by decide)⟩
  · intro d a b p q e h0 h1 h2 h3 hd pn qn hp hq
    exact ⟨fun z => absurd z (by decide), fun z => absurd z (by decide), fun z => absurd z (by decide), fun z => absurd z (by decide), fun z => absurd z (by decide), fun z => absurd z (by decide)⟩
  · intro d a b p q e h0 h1 h2 h3 hd pn qn hp hq
    exact ⟨fun z => absurd z (by decide), fun z => absurd z (by decide), fun z => absurd z (by decide), fun z => absurd z (by decide), fun z => absurd z (by decide), fun z => absurd z (by decide)⟩
  · intro d ix t a b p q e h0 h1 h2 h3 h4 h5 hd pn qn hp hq
    exact ⟨fun z => absurd z (by decide), fun z => absurd z (by decide), fun z => absurd z (by decide), fun z => absurd z (by decide), fun z => absurd z (by decide), fun z => absurd z (by decide)⟩
  · intro d ix t a b p q e h0 h1 h2 h3 h4 h5 hd pn qn hp hq
    exact ⟨fun z => absurd z (by decide), fun z => absurd z (by decide), fun z => absurd z (by decide), fun z => absurd z (by decide), fun z => absurd z (by decide), fun z => absurd z (by decide)⟩
  · intro d ix t a b p q e h0 h1 h2 h3 h4 h5 hd pn qn hp hq
    exact ⟨fun z => absurd z (by decide), fun z => absurd z (by decide), fun z => absurd z (by decide), fun z => absurd z (by decide), fun z => absurd z (by decide), fun z => absurd z (by decide)⟩
  · intro d t y a b p q e h0 h1 h2 h3 h4 h5 h6 hd pn qn hp hq
    exact ⟨fun z => absurd z (by decide), fun z => absurd z (by decide), fun z => absurd z (by decide), fun z => absurd z (by decide), fun z => absurd z (by decide), fun z => absurd z (by decide)⟩
  · intro d ix t a b p q e h0 h1 h2 h3 h4 h5 hd pn qn hp hq
    exact ⟨fun z => absurd z (by decide), fun z => absurd z (by decide), fun z => absurd z (by decide), fun z => absurd z (by decide), fun z => absurd z (by decide), fun z => absurd z (by decide)⟩
  · intro d ix iy t u y a b p q e h0 h1 h2 h3 h4 h5 h6 h7 h8 h9 hd pn qn hp hq
    exact ⟨fun z => absurd z (by decide), fun z => absurd z (by decide), fun z => absurd z (by decide), fun z => absurd z (by decide), fun z => absurd z (by decide), fun z => absurd z (by decide)⟩
  · intro d a b p h0 h1 hd pn qn hp hq
    exact ⟨fun z => absurd z (by decide), fun z => absurd z (by decide), fun z => absurd z (by decide), fun z => absurd z (by decide), fun z => absurd z (by decide), fun z => absurd z (by decide)⟩
  · intro d t y a b p q e h0 h1 h2 h3 hd pn qn hp hq
    exact ⟨fun z => absurd z (by decide), fun z => absurd z (by decide), fun z => absurd z (by decide), fun z => absurd z (by decide), fun z => absurd z (by decide), fun z => absurd z (by decide)⟩
  · intro d t a b p q e h0 h1 h2 h3 h4 hd pn qn hp hq
    exact ⟨fun z => absurd z (by decide), fun z => absurd z (by decide), fun z => absurd z (by decide), fun z => absurd z (by decide), fun z => absurd z (by decide), fun z => absurd z (by decide)⟩
end
end
