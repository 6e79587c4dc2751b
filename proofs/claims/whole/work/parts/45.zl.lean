/- E of both sides: what stands behind a P -/
section
variable {nn : Nat} {X : BCx} {dp i a b e : Int} {p q : Nat} {h g u r w m : ms_M} {v : Int × ms_M}
/-- .. the reference's rows of open nodes come back -/
theorem p3_rk (H : P3 nn X dp i a b p q e) (d d2 : Nat) (h r : ms_M) (Z : ms_M → Int × ms_M → Prop) (Q : EPr X dp p h r) (b57 : 0 ≤ r 160 57 ∧ r 160 57 + (b - a) < 9000 ∧ b ≤ 9000) (lb : a ≤ b) (HB : bK X q = 48 → bK X (q + 1) = 2 → bK X (q + 2) = 40 → i = 0 → bT X 167 e.toNat = 25 → Pc (qf_X13_sightOf nn (p : Int) r) (fun u => ¬ u = -1) ∨ Pc (qf_X13_memberOf nn (bo X) (p : Int) 0 r) (fun u => ¬ u = -1)) (HC : ∀ (k : Nat) (t : Int) (u : ms_M) (v : Int × ms_M), POk nn X i a b p q e h r u v → RKp r v.2 → (0 ≤ t ∧ t ≤ (q : Int)) → Pc (qw_X10_readPrimary_118 nn (qg_X10_readValue nn d) k dp (p : Int) (bK X q) t u) (fun uF => Z uF v)) (HF : ∀ (uF : ms_M) (v : Int × ms_M), (SFj uF v.2 ∨ VDj X i a b p q e h r uF v) → RKp r v.2 → Z uF v) : Pc (qo_X10_readPrimary nn (qg_X10_readValue nn d) dp h) (fun uF => Pc ((qg_X13_condition nn d2).2.2.1 e r) (fun v => Z uF v)) := by
  have W := H d d2 h r (fun uF v => RKp r v.2 → Z uF v) Q b57 HB (fun k t u v K ht uF eF RK => HC k t u v K RK ht uF eF) (fun uF v S RK => HF uF v S RK)
  have RK := (rkg_condition nn d2).2.2.1 (a1 := e) (h := r) (by omega)
  exact pc_imp W (fun uF Hu => pc_imp (pc_and Hu RK) (fun v y => y.1 y.2))
/-- a point or an index behind a P: STEP is one turn of the class's loop and the rule of e -/
theorem p3_led {t : Nat} {ix : Int} (Y : CXs X) (ne : 0 ≤ a ∧ a ≤ e ∧ e < b) (r1 : a ≤ bT X 170 e.toNat ∧ bT X 170 e.toNat < e) (CH : P3 nn X dp ix a e p t (bT X 170 e.toNat)) (kt : bK X t = 48 ∨ bK X t = 44) (LED : ∀ r : ms_M, BX X h r → Pc (qf_X13_isLed nn e r) (fun u => ¬ u = 0)) (HBc : ∀ r : ms_M, BX X h r → bK X t = 48 → bK X (t + 1) = 2 → bK X (t + 2) = 40 → ix = 0 → bT X 167 (bT X 170 e.toNat).toNat = 25 → Pc (qf_X13_sightOf nn (p : Int) r) (fun u => ¬ u = -1) ∨ Pc (qf_X13_memberOf nn (bo X) (p : Int) 0 r) (fun u => ¬ u = -1)) (VOID : ∀ (r2 : ms_M) (d2 : Nat) (y : Int × ms_M), BX X h r2 → TBq (bK X) (bP X) (bc X) r2 → (∀ cc x : Nat, ((163 ≤ cc ∧ cc ≤ 173) ∨ cc = 177) → r2 cc x = bT X cc x) → r2 160 9 = 0 → r2 174 (bT X 170 e.toNat).toNat = 3 → (0 ≤ bT X 168 (bT X 170 e.toNat).toNat ∧ bT X 168 (bT X 170 e.toNat).toNat < (bc X : Int)) → (qg_X13_condition nn d2).2.2.2.1 e r2 = some y → y.2 160 9 = 6 ∧ y.2 160 10 = bP X (bT X 168 (bT X 170 e.toNat).toNat).toNat) (STEP : ∀ (d d2 : Nat) (r r1 u9 : ms_M) (v1 : Int × ms_M), EPr X dp p h r → EPr X dp p h r1 → (0 ≤ r 160 57 ∧ r 160 57 + (b - a) < 9000 ∧ b ≤ 9000) → RFe a b r r1 → POk nn X ix a e p t (bT X 170 e.toNat) h r1 u9 v1 → FM01 nn X ix a e p t (bT X 170 e.toNat) h u9 v1.2 → ¬ u9 49 12 = 303 → Pc (if ¬ bK X t = 48 then ((qg_X10_readValue nn d).2.2.2.2.2.1 dp u9) else ((qg_X10_readValue nn d).2.2.2.2.2.2.2.1 (p : Int) dp u9)) (fun u13 => ∀ r2 : ms_M, r2 = up_M v1.2 160 57 (r 160 57) → Pc ((qg_X13_condition nn d2).2.2.2.1 e r2) (fun y => ∀ z : ms_M, z = up_M y.2 174 e.toNat y.1 → (¬ z 160 9 = 0 → SFj u13 z) ∧ (z 160 9 = 0 → VDj X 0 a b p q e h r u13 (y.1, z) ∨ POk nn X 0 a b p q e h r u13 (y.1, z))))) (d d2 : Nat) (r : ms_M) (Z : ms_M → Int × ms_M → Prop) (Q : EPr X dp p h r) (b57 : 0 ≤ r 160 57 ∧ r 160 57 + (b - a) < 9000 ∧ b ≤ 9000) (HC : ∀ (k : Nat) (t : Int) (u : ms_M) (v : Int × ms_M), POk nn X 0 a b p q e h r u v → (0 ≤ t ∧ t ≤ (q : Int)) → Pc (qw_X10_readPrimary_118 nn (qg_X10_readValue nn d) k dp (p : Int) (bK X q) t u) (fun uF => Z uF v)) (HF : ∀ (uF : ms_M) (v : Int × ms_M), (SFj uF v.2 ∨ VDj X 0 a b p q e h r uF v) → Z uF v) (tq : t < q) : Pc (qo_X10_readPrimary nn (qg_X10_readValue nn d) dp h) (fun uF => Pc ((qg_X13_condition nn d2).2.2.1 e r) (fun v => Z uF v)) := by
  have Q0 := Q
  obtain ⟨B, ⟨q1, q2, q3, q4⟩, fx, ox⟩ := Q0
  have T : ∀ cc : Nat, 163 ≤ cc ∧ cc ≤ 173 → r cc e.toNat = bT X cc e.toNat := fun cc z => B.2.2.2.2.2.1 cc e.toNat (by omega)
  have c3 := Y.1.2.1
  cases d2 with
  | zero => exact fun _ _ => pc_none
  | succ d2 =>
    have G := fsg_X10_readValue nn d
    generalize hr1 : up_M (up_M r 199 (r 160 57).toNat e) 160 57 (r 160 57 + 1) = r1'
    have E1 : ∀ cc x : Nat, ¬ cc = 199 → ¬ (cc = 160 ∧ x = 57) → r1' cc x = r cc x := fun cc x z1 z2 => by rw [← hr1, up_n (by omega), up_n (by omega)]
    have s57 : r1' 160 57 = r 160 57 + 1 := by rw [← hr1, up_s]
    have s199 : r1' 199 (r 160 57).toNat = e := by rw [← hr1, up_n (by omega), up_s]
    have B1 : BX X h r1' := bx_k B (fun _ _ _ => rfl) (fun cc x z => E1 cc x (by omega) (by omega))
    have Q1 : EPr X dp p h r1' := ⟨B1, ⟨q1, q2, q3, by rw [E1 160 9 (by omega) (by omega)]; exact q4⟩, fx, ox⟩
    have R1 : RFe a b r r1' := ⟨fun cc x z1 z2 z3 => E1 cc x z2 (by omega), fun cc x z1 z2 z3 => E1 cc x (by omega) (by omega)⟩
    -- from what the child leaves up to the rule of e
    have UP : ∀ (v1 : Int × ms_M), RKp r1' v1.2 → v1.2 160 57 = r 160 57 + 1 ∧ v1.2 199 (r 160 57).toNat = e := fun v1 RK => ⟨by rw [RK.1]; exact s57, by rw [RK.2 _ (by omega)]; exact s199⟩
    have W : Pc (qo_X10_readPrimary nn (qg_X10_readValue nn d) dp h) (fun uF => Pc ((qg_X13_condition nn (d2 + 1)).2.2.1 (bT X 170 e.toNat) r1') (fun v1 => ∀ k2 : Nat, Pc (qw_X13_worked_65 nn (qg_X13_condition nn d2) k2 e (r 160 57) v1.2) (Z uF))) := by
      refine p3_rk CH d (d2 + 1) h r1' (fun uF v1 => ∀ k2 : Nat, Pc (qw_X13_worked_65 nn (qg_X13_condition nn d2) k2 e (r 160 57) v1.2) (Z uF)) Q1 (by omega) (by omega) (HBc r1' B1) (fun k tt u v1 K RK ht => ?_) (fun uF v1 S RK k2 => ?_)
      · -- the class's loop
        obtain ⟨w57, w199⟩ := UP v1 RK
        have x2 := K.1.2.1
        have x2' : t + 1 < bc X := jp_lt Y.1 x2 (by omega)
        have LOOP : ∀ (k : Nat) (u9 : ms_M), POk nn X ix a e p t (bT X 170 e.toNat) h r1' u9 v1 → (u9 49 11 = 0 ∨ u9 49 11 = 1) → Pc (mx_sv (if ¬ bK X t = 48 then ((qg_X10_readValue nn d).2.2.2.2.2.1 dp u9) else ((qg_X10_readValue nn d).2.2.2.2.2.2.2.1 (p : Int) dp u9)) fun u13 => qj_X10_readPrimary_162 nn (qg_X10_readValue nn d) (qw_X10_readPrimary_118 nn (qg_X10_readValue nn d) k) dp (p : Int) tt u13) (fun uF => ∀ k2 : Nat, Pc (qw_X13_worked_65 nn (qg_X13_condition nn d2) k2 e (r 160 57) v1.2) (Z uF)) := fun k u9 K9 F9 => by
          have FX : FM01 nn X ix a e p t (bT X 170 e.toNat) h u9 v1.2 := by
            rcases K9.2.2.2.2 with F | F | F | F
            · exact F
            · exact absurd F.1.1 (by omega)
            · exact absurd F.1.1 (by omega)
            · exact absurd F.1.1 (by omega)
          have n303 : ¬ u9 49 12 = 303 := fun z => by
            rcases FX.1 with ⟨-, -, -, y⟩ | ⟨-, -, y⟩
            · have := (y z).1; omega
            · exact y z
          refine pc_sv (STEP d d2 r r1' u9 v1 Q Q1 b57 R1 K9 FX n303) ?_; intro u13 q13
          have FS2 : ¬ u13 2 11 = 0 → Pc (qj_X10_readPrimary_162 nn (qg_X10_readValue nn d) (qw_X10_readPrimary_118 nn (qg_X10_readValue nn d) k) dp (p : Int) tt u13) (fun u => FSc u13 u) := fun S => fs_qj_X10_readPrimary_162 G (fun z0 z1 z2 z3 z4 S4 => fs_qw_X10_readPrimary_118 G k z0 z1 z2 z3 z4 S4) S
          intro uF eF k2
          refine wk_pop (rk_rule d2) (by omega) (by omega) w57 w199 (fun z => absurd K9.1.2.2.2.2 z) (fun _ => ?_) k2
          refine pc_imp (q13 _ rfl) (fun y Hy => fun z ez => ?_)
          obtain ⟨y1, y2⟩ := Hy z ez
          refine ⟨fun z9 => ?_, fun z9 => ?_⟩
          · rcases y2 z9 with VD | PK
            · exact HF uF (y.1, z) (.inr (vd_c VD (FS2 (vd_n VD) uF eF)))
            · have PP : Pc (qj_X10_readPrimary_162 nn (qg_X10_readValue nn d) (qw_X10_readPrimary_118 nn (qg_X10_readValue nn d) k) dp (p : Int) tt u13) (fun uF => Z uF (y.1, z)) := by
                unfold qj_X10_readPrimary_162
                refine pc_sv (c_kind Y.1 (pk_b Q PK) PK.1.2.1 PK.1.1 PK.1.2.2.2.1) ?_; intro u6 q6
                rw [q6]
                refine pc_add (by omega) ?_; intro v7 e7
                exact HC k v7 u13 (y.1, z) PK (by omega)
              exact PP uF eF
          · have S := y1 z9
            exact HF uF (0, z) (.inl (sf_c S (FS2 S.1 uF eF)))
        have G138 : ∀ k : Nat, Pc (qj_X10_readPrimary_138 nn (qg_X10_readValue nn d) (qw_X10_readPrimary_118 nn (qg_X10_readValue nn d) k) dp (p : Int) (bK X t) tt u) (fun uF => ∀ k2 : Nat, Pc (qw_X13_worked_65 nn (qg_X13_condition nn d2) k2 e (r 160 57) v1.2) (Z uF)) := fun k => by
          unfold qj_X10_readPrimary_138
          refine pc_sv (p_fetch Y Q1 ⟨ne.1, r1.1, r1.2⟩ K (by omega)) ?_; intro u9 ⟨K9, F9⟩
          have LP := LOOP k u9 K9 F9
          refine pc_if (fun z => ?_) (fun z => ?_)
          · rw [if_pos z] at LP; exact LP
          · rw [if_neg z] at LP; exact LP
        cases k with
        | zero => exact pc_none
        | succ k =>
          unfold qw_X10_readPrimary_118
          refine pc_if (fun z => absurd z (by omega)) (fun _ => ?_)
          refine pc_if (fun _ => G138 k) (fun z => ?_)
          exact pc_if (fun y => absurd kt (by omega)) (fun _ => G138 k)
      · -- a FAULT in the child
        obtain ⟨w57, w199⟩ := UP v1 RK
        rcases S with S | S
        · refine wk_pop (rk_rule d2) (by omega) (by omega) w57 w199 (fun _ z ez => ?_) (fun z => absurd z (sf_r S)) k2
          exact HF uF (0, z) (.inl ⟨S.1, by show z 160 9 = _; rw [ez, up_n (by omega), up_n (by omega)]; exact S.2.1, by show z 160 10 = _; rw [ez, up_n (by omega), up_n (by omega)]; exact S.2.2⟩)
        · obtain ⟨⟨s1, s2, s3, s4⟩, ⟨s5, s6, s7⟩, s8⟩ := S
          refine wk_pop (rk_rule d2) (by omega) (by omega) w57 w199 (fun z => absurd s6 z) (fun _ => fun y ey z ez => ?_) k2
          have TQ1 : TBq (bK X) (bP X) (bc X) r1' := B1.1.1.2.2.1
          obtain ⟨w1, w2⟩ := VOID (up_M v1.2 160 57 (r 160 57)) d2 y (bx_k (bx_e B1 cfe_r s8) (fun _ _ _ => rfl) (fun cc x z => up_n (by omega))) (tbq_f TQ1 (fun cc x z => by rw [up_n (by omega)]; exact s8.1 cc x (by omega) (by omega) (by omega))) (fun cc x z => by rw [up_n (by omega), s8.1 cc x (by omega) (by omega) (by omega)]; exact B1.2.2.2.2.2.1 cc x z) (by rw [up_n (by omega)]; exact s6) (by rw [up_n (by omega)]; exact s7) ⟨s3, s4.1⟩ ey
          have z9 : z 160 9 = 6 := by rw [ez, up_n (by omega)]; exact w1
          have z10 : z 160 10 = bP X (bT X 168 (bT X 170 e.toNat).toNat).toNat := by rw [ez, up_n (by omega)]; exact w2
          refine ⟨fun x => absurd x (by omega), fun _ => HF uF (0, z) (.inl ⟨by omega, ?_, ?_⟩)⟩
          · show z 160 9 = uF 2 11
            rw [z9, s1]
          · show z 160 10 = uF 2 12
            rw [z10, s2]
    refine pc_imp W (fun uF Hu => ?_)
    refine wk_ldd (rk_rule d2) (Q := Z uF) (R := fun v1 => ∀ k2 : Nat, Pc (qw_X13_worked_65 nn (qg_X13_condition nn d2) k2 e (r 160 57) v1.2) (Z uF)) (fun z Hz k2 => Hz k2) rfl (by omega) q4 (LED r B) (by rw [T 170 (by omega)]; omega) (fun g eg => ?_)
    rw [T 170 (by omega), eg, hr1]
    exact Hu
end
