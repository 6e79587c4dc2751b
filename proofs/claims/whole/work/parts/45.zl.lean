section
/- E of both sides: what stands behind a P -/
section
variable {nn : Nat} {X : BCx} {dp i a b e : Int} {p q : Nat} {h g u r w m : ms_M} {v : Int × ms_M}
/-- .. the reference's rows of open nodes come back -/
theorem p3_rk (H : P3 nn X dp i a b p q e) (d d2 : Nat) (h r : ms_M) (Z : ms_M → Int × ms_M → Prop) (Q : EPr X dp p h r) (b57 : 0 ≤ r 160 57 ∧ r 160 57 + (b - a) < 9000 ∧ b ≤ 9000) (lb : a ≤ b) (HB : bK X q = 48 → bK X (q + 1) = 2 → bK X (q + 2) = 40 → i = 0 → bT X 167 e.toNat = 25 → Pc (qf_X13_sightOf nn (p : Int) r) (fun u => ¬ u = -1) ∨ Pc (qf_X13_memberOf nn (bo X) (p : Int) 0 r) (fun u => ¬ u = -1)) (HC : ∀ (k : Nat) (t : Int) (u : ms_M) (v : Int × ms_M), POk nn X i a b p q e h r u v → RKp r v.2 → (0 ≤ t ∧ t ≤ (q : Int)) → Pc (qw_X10_readPrimary_118 nn (qg_X10_readValue nn d) k dp (p : Int) (bK X q) t u) (fun uF => Z uF v)) (HF : ∀ (uF : ms_M) (v : Int × ms_M), (SFj uF v.2 ∨ VDj X i a b p q e h r uF v) → RKp r v.2 → Z uF v) : Pc (qo_X10_readPrimary nn (qg_X10_readValue nn d) dp h) (fun uF => Pc ((qg_X13_condition nn d2).2.2.1 e r) (fun v => Z uF v)) := by
  have W := H d d2 h r (fun uF v => RKp r v.2 → Z uF v) Q b57 HB (fun k t u v K ht uF eF RK => HC k t u v K RK ht uF eF) (fun uF v S RK => HF uF v S RK)
  have RK := (rkg_condition nn d2).2.2.1 (a1 := e) (h := r) (by omega)
  exact pc_imp W (fun uF Hu => pc_imp (pc_and Hu RK) (fun v y => y.1 y.2))
/-- a point or an index behind a P: STEP is one turn of the class's loop and the rule of e -/
theorem p3_led {t : Nat} {ix : Int} (Y : CXs X) (ne : 0 ≤ a ∧ a ≤ e ∧ e < b) (r1 : a ≤ bT X 170 e.toNat ∧ bT X 170 e.toNat < e) (CH : P3 nn X dp ix a e p t (bT X 170 e.toNat)) (kt : bK X t = 48 ∨ bK X t = 44) (LED : ∀ r : ms_M, BX X h r → Pc (qf_X13_isLed nn e r) (fun u => ¬ u = 0)) (HBc : ∀ r : ms_M, BX X h r → bK X t = 48 → bK X (t + 1) = 2 → bK X (t + 2) = 40 → ix = 0 → bT X 167 (bT X 170 e.toNat).toNat = 25 → Pc (qf_X13_sightOf nn (p : Int) r) (fun u => ¬ u = -1) ∨ Pc (qf_X13_memberOf nn (bo X) (p : Int) 0 r) (fun u => ¬ u = -1)) (VOID : ∀ (r2 : ms_M) (d2 : Nat) (y : Int × ms_M), BX X h r2 → TBq (bK X) (bP X) (bc X) r2 → (∀ cc x : Nat, ((163 ≤ cc ∧ cc ≤ 173) ∨ cc = 177) → r2 cc x = bT X cc x) → r2 160 9 = 0 → r2 174 (bT X 170 e.toNat).toNat = 3 → (0 ≤ bT X 168 (bT X 170 e.toNat).toNat ∧ bT X 168 (bT X 170 e.toNat).toNat < (bc X : Int)) → (qg_X13_condition nn d2).2.2.2.1 e r2 = some y → y.2 160 9 = 6 ∧ y.2 160 10 = bP X (bT X 168 (bT X 170 e.toNat).toNat).toNat) (STEP : ∀ (d d2 : Nat) (r r1 u9 : ms_M) (v1 : Int × ms_M), EPr X dp p h r → EPr X dp p h r1 → (0 ≤ r 160 57 ∧ r 160 57 + (b - a) < 9000 ∧ b ≤ 9000) → RFe a b r r1 → POk nn X ix a e p t (bT X 170 e.toNat) h r1 u9 v1 → FM01 nn X ix a e p t (bT X 170 e.toNat) h u9 v1.2 → ¬ u9 49 12 = 303 → Pc (if ¬ bK X t = 48 then ((qg_X10_readValue nn d).2.2.2.2.2.1 dp u9) else ((qg_X10_readValue nn d).2.2.2.2.2.2.2.1 (p : Int) dp u9)) (fun u13 => ∀ r2 : ms_M, r2 = up_M v1.2 160 57 (r 160 57) → Pc ((qg_X13_condition nn d2).2.2.2.1 e r2) (fun y => ∀ z : ms_M, z = up_M y.2 174 e.toNat y.1 → (¬ z 160 9 = 0 → SFj u13 z) ∧ (z 160 9 = 0 → VDj X 0 a b p q e h r u13 (y.1, z) ∨ POk nn X 0 a b p q e h r u13 (y.1, z))))) (d d2 : Nat) (r : ms_M) (Z : ms_M → Int × ms_M → Prop) (Q : EPr X dp p h r) (b57 : 0 ≤ r 160 57 ∧ r 160 57 + (b - a) < 9000 ∧ b ≤ 9000) (HC : ∀ (k : Nat) (t : Int) (u : ms_M) (v : Int × ms_M), POk nn X 0 a b p q e h r u v → (0 ≤ t ∧ t ≤ (q : Int)) → Pc (qw_X10_readPrimary_118 nn (qg_X10_readValue nn d) k dp (p : Int) (bK X q) t u) (fun uF => Z uF v)) (HF : ∀ (uF : ms_M) (v : Int × ms_M), (SFj uF v.2 ∨ VDj X 0 a b p q e h r uF v) → Z uF v) (tq : t < q) : Pc (qo_X10_readPrimary nn (qg_X10_readValue nn d) dp h) (fun uF => Pc ((qg_X13_condition nn d2).2.2.1 e r) (fun v => Z uF v)) := by
  have Q0 := Q
  obtain ⟨B, ⟨q1, q2, q3, q4⟩, fx, ox⟩ := Q0
  have T : ∀ cc : Nat, 163 ≤ cc ∧ cc ≤ 173 → r cc e.toNat = bT X cc e.toNat := fun cc z => B.2.2.2.2.2.1 cc e.toNat (by omega)
  have c3 := Y.1.2.1
  cases d2 with
  | zero => exact fun _ _ => pc_none
  | succ d2 =>
    have G := fsg_X10_readValue nn d
    generalize hr1 : up_M (up_M r 199 (r 160 57).toNat e) 160 57 (r 160 57 + 1) = r1'
    have E1 : ∀ cc x : Nat, ¬ cc = 199 → ¬ (cc = 160 ∧ x = 57) → r1' cc x = r cc x := fun cc x z1 z2 => by rw [← hr1, up_n (by omega), up_n (by omega)]
    have s57 : r1' 160 57 = r 160 57 + 1 := by rw [← hr1, up_s]
    have s199 : r1' 199 (r 160 57).toNat = e := by rw [← hr1, up_n (by omega), up_s]
    have B1 : BX X h r1' := bx_k B (fun _ _ _ => rfl) (fun cc x z => E1 cc x (by omega) (by omega))
    have Q1 : EPr X dp p h r1' := ⟨B1, ⟨q1, q2, q3, by rw [E1 160 9 (by omega) (by omega)]; exact q4⟩, fx, ox⟩
    have R1 : RFe a b r r1' := ⟨fun cc x z1 z2 z3 => E1 cc x z2 (by omega), fun cc x z1 z2 z3 => E1 cc x (by omega) (by omega)⟩
    -- from what the child leaves up to the rule of e
    have UP : ∀ (v1 : Int × ms_M), RKp r1' v1.2 → v1.2 160 57 = r 160 57 + 1 ∧ v1.2 199 (r 160 57).toNat = e := fun v1 RK => ⟨by rw [RK.1]; exact s57, by rw [RK.2 _ (by omega)]; exact s199⟩
    have W : Pc (qo_X10_readPrimary nn (qg_X10_readValue nn d) dp h) (fun uF => Pc ((qg_X13_condition nn (d2 + 1)).2.2.1 (bT X 170 e.toNat) r1') (fun v1 => ∀ k2 : Nat, Pc (qw_X13_worked_65 nn (qg_X13_condition nn d2) k2 e (r 160 57) v1.2) (Z uF))) := by
      refine p3_rk CH d (d2 + 1) h r1' (fun uF v1 => ∀ k2 : Nat, Pc (qw_X13_worked_65 nn (qg_X13_condition nn d2) k2 e (r 160 57) v1.2) (Z uF)) Q1 (by omega) (by omega) (HBc r1' B1) (fun k tt u v1 K RK ht => ?_) (fun uF v1 S RK k2 => ?_)
      · -- the class's loop
        obtain ⟨w57, w199⟩ := UP v1 RK
        have x2 := K.1.2.1
        have x2' : t + 1 < bc X := jp_lt Y.1 x2 (by omega)
        have LOOP : ∀ (k : Nat) (u9 : ms_M), POk nn X ix a e p t (bT X 170 e.toNat) h r1' u9 v1 → (u9 49 11 = 0 ∨ u9 49 11 = 1) → Pc (mx_sv (if ¬ bK X t = 48 then ((qg_X10_readValue nn d).2.2.2.2.2.1 dp u9) else ((qg_X10_readValue nn d).2.2.2.2.2.2.2.1 (p : Int) dp u9)) fun u13 => qj_X10_readPrimary_162 nn (qg_X10_readValue nn d) (qw_X10_readPrimary_118 nn (qg_X10_readValue nn d) k) dp (p : Int) tt u13) (fun uF => ∀ k2 : Nat, Pc (qw_X13_worked_65 nn (qg_X13_condition nn d2) k2 e (r 160 57) v1.2) (Z uF)) := fun k u9 K9 F9 => by
          have FX : FM01 nn X ix a e p t (bT X 170 e.toNat) h u9 v1.2 := by
            rcases K9.2.2.2.2 with F | F | F | F
            · exact F
            · exact absurd F.1.1 (by omega)
            · exact absurd F.1.1 (by omega)
            · exact absurd F.1.1 (by omega)
          have n303 : ¬ u9 49 12 = 303 := fun z => by
            rcases FX.1 with ⟨-, -, -, y⟩ | ⟨-, -, y⟩
            · have := (y z).1; omega
            · exact y z
          refine pc_sv (STEP d d2 r r1' u9 v1 Q Q1 b57 R1 K9 FX n303) ?_; intro u13 q13
          have FS2 : ¬ u13 2 11 = 0 → Pc (qj_X10_readPrimary_162 nn (qg_X10_readValue nn d) (qw_X10_readPrimary_118 nn (qg_X10_readValue nn d) k) dp (p : Int) tt u13) (fun u => FSc u13 u) := fun S => fs_qj_X10_readPrimary_162 G (fun z0 z1 z2 z3 z4 S4 => fs_qw_X10_readPrimary_118 G k z0 z1 z2 z3 z4 S4) S
          intro uF eF k2
          refine wk_pop (rk_rule d2) (by omega) (by omega) w57 w199 (fun z => absurd K9.1.2.2.2.2 z) (fun _ => ?_) k2
          refine pc_imp (q13 _ rfl) (fun y Hy => fun z ez => ?_)
          obtain ⟨y1, y2⟩ := Hy z ez
          refine ⟨fun z9 => ?_, fun z9 => ?_⟩
          · rcases y2 z9 with VD | PK
            · exact HF uF (y.1, z) (.inr (vd_c VD (FS2 (vd_n VD) uF eF)))
            · have PP : Pc (qj_X10_readPrimary_162 nn (qg_X10_readValue nn d) (qw_X10_readPrimary_118 nn (qg_X10_readValue nn d) k) dp (p : Int) tt u13) (fun uF => Z uF (y.1, z)) := by
                unfold qj_X10_readPrimary_162
                refine pc_sv (c_kind Y.1 (pk_b Q PK) PK.1.2.1 PK.1.1 PK.1.2.2.2.1) ?_; intro u6 q6
                rw [q6]
                refine pc_add (by omega) ?_; intro v7 e7
                exact HC k v7 u13 (y.1, z) PK (by omega)
              exact PP uF eF
          · have S := y1 z9
            exact HF uF (0, z) (.inl (sf_c S (FS2 S.1 uF eF)))
        have G138 : ∀ k : Nat, Pc (qj_X10_readPrimary_138 nn (qg_X10_readValue nn d) (qw_X10_readPrimary_118 nn (qg_X10_readValue nn d) k) dp (p : Int) (bK X t) tt u) (fun uF => ∀ k2 : Nat, Pc (qw_X13_worked_65 nn (qg_X13_condition nn d2) k2 e (r 160 57) v1.2) (Z uF)) := fun k => by
          unfold qj_X10_readPrimary_138
          refine pc_sv (p_fetch Y Q1 ⟨ne.1, r1.1, r1.2⟩ K (by omega)) ?_; intro u9 ⟨K9, F9⟩
          have LP := LOOP k u9 K9 F9
          refine pc_if (fun z => ?_) (fun z => ?_)
          · rw [if_pos z] at LP; exact LP
          · rw [if_neg z] at LP; exact LP
        cases k with
        | zero => exact pc_none
        | succ k =>
          unfold qw_X10_readPrimary_118
          refine pc_if (fun z => absurd z (by omega)) (fun _ => ?_)
          refine pc_if (fun _ => G138 k) (fun z => ?_)
          exact pc_if (fun y => absurd kt (by omega)) (fun _ => G138 k)
      · -- a FAULT in the child
        obtain ⟨w57, w199⟩ := UP v1 RK
        rcases S with S | S
        · refine wk_pop (rk_rule d2) (by omega) (by omega) w57 w199 (fun _ z ez => ?_) (fun z => absurd z (sf_r S)) k2
          exact HF uF (0, z) (.inl ⟨S.1, by show z 160 9 = _; rw [ez, up_n (by omega), up_n (by omega)]; exact S.2.1, by show z 160 10 = _; rw [ez, up_n (by omega), up_n (by omega)]; exact S.2.2⟩)
        · obtain ⟨⟨s1, s2, s3, s4⟩, ⟨s5, s6, s7⟩, s8⟩ := S
          refine wk_pop (rk_rule d2) (by omega) (by omega) w57 w199 (fun z => absurd s6 z) (fun _ => fun y ey z ez => ?_) k2
          have TQ1 : TBq (bK X) (bP X) (bc X) r1' := B1.1.1.2.2.1
          obtain ⟨w1, w2⟩ := VOID (up_M v1.2 160 57 (r 160 57)) d2 y (bx_k (bx_e B1 cfe_r s8) (fun _ _ _ => rfl) (fun cc x z => up_n (by omega))) (tbq_f TQ1 (fun cc x z => by rw [up_n (by omega)]; exact s8.1 cc x (by omega) (by omega) (by omega))) (fun cc x z => by rw [up_n (by omega), s8.1 cc x (by omega) (by omega) (by omega)]; exact B1.2.2.2.2.2.1 cc x z) (by rw [up_n (by omega)]; exact s6) (by rw [up_n (by omega)]; exact s7) ⟨s3, s4.1⟩ ey
          have z9 : z 160 9 = 6 := by rw [ez, up_n (by omega)]; exact w1
          have z10 : z 160 10 = bP X (bT X 168 (bT X 170 e.toNat).toNat).toNat := by rw [ez, up_n (by omega)]; exact w2
          refine ⟨fun x => absurd x (by omega), fun _ => HF uF (0, z) (.inl ⟨by omega, ?_, ?_⟩)⟩
          · show z 160 9 = uF 2 11
            rw [z9, s1]
          · show z 160 10 = uF 2 12
            rw [z10, s2]
    refine pc_imp W (fun uF Hu => ?_)
    refine wk_ldd (rk_rule d2) (Q := Z uF) (R := fun v1 => ∀ k2 : Nat, Pc (qw_X13_worked_65 nn (qg_X13_condition nn d2) k2 e (r 160 57) v1.2) (Z uF)) (fun z Hz k2 => Hz k2) rfl (by omega) q4 (LED r B) (by rw [T 170 (by omega)]; omega) (fun g eg => ?_)
    rw [T 170 (by omega), eg, hr1]
    exact Hu
end
end
section
/- E of both sides: an element -/
section
variable {nn : Nat} {X : BCx} {dp i a b e : Int} {p q : Nat} {h g u r w m : ms_M} {v : Int × ms_M}
theorem c_arr2 {t : Int} : Pc (qf_X4_isArray nn t h) (fun u => (u = 1 ∧ 100 ≤ t ∧ t ≤ 200) ∨ (u = 0 ∧ ¬ (100 ≤ t ∧ t ≤ 200))) := by
  unfold qf_X4_isArray
  refine pc_if (fun z => pc_ret (.inr ⟨rfl, by omega⟩)) (fun z => ?_)
  exact pc_if (fun z2 => pc_ret (.inr ⟨rfl, by omega⟩)) (fun z2 => pc_ret (.inl ⟨rfl, by omega⟩))
theorem c_elem {t : Int} (ht : 100 ≤ t ∧ t ≤ 200) : Pc (qf_X4_elementOf nn t h) (fun u => (t = 200 ∧ u = 301) ∨ (¬ t = 200 ∧ u = t - 100)) := by
  unfold qf_X4_elementOf
  refine pc_if (fun z => ?_) (fun z => pc_ret (.inl ⟨Classical.byContradiction z, rfl⟩))
  refine pc_if (fun y => absurd y (by omega)) (fun _ => ?_)
  refine pc_if (fun y => absurd y (by omega)) (fun _ => ?_)
  refine pc_sub (by omega) ?_; intro v1 e1
  exact pc_ret (.inr ⟨z, e1⟩)
theorem r_isArr (n8 : bn X ≤ 8) {t : Int} (V : VTn (bn X) t) : Pc (qf_X13_isArray nn (ty_T t) r) (fun u => (u = 1 ∧ 100 ≤ t ∧ t ≤ 200) ∨ (u = 0 ∧ ¬ (100 ≤ t ∧ t ≤ 200))) := by
  have c := ty_c (vtn_v n8 V)
  have V2 := V
  unfold VTn at V2
  unfold qf_X13_isArray
  refine pc_if (fun z => pc_ret (.inl ⟨rfl, by omega⟩)) (fun z => ?_)
  refine pc_if (fun z2 => pc_ret (.inr ⟨rfl, by omega⟩)) (fun z2 => ?_)
  refine pc_xl ?_; intro v1 e1
  rw [Int.tmod_eq_emod_of_nonneg (by omega)] at e1
  exact pc_if (fun z3 => pc_ret (.inr ⟨rfl, by omega⟩)) (fun z3 => pc_ret (.inl ⟨rfl, by omega⟩))
/-- led, where the left side is no void -/
theorem r_ledv {t1 : Int} (hf : r 160 9 = 0) (e1 : r 170 e.toNat = bT X 170 e.toNat) (e2 : r 174 (bT X 170 e.toNat).toNat = t1) (n3 : ¬ t1 = 3) : Pc (qf_X13_led nn e r) (fun u => u = (t1, r)) := by
  unfold qf_X13_led
  refine pc_if (fun _ => ?_) (fun z => absurd hf z)
  refine pc_rA ?_; intro _ _ v4 e4
  rw [e1] at e4
  refine pc_rA ?_; intro _ _ v5 e5
  rw [e4, e2] at e5
  exact pc_if (fun _ => pc_ret (by rw [e5])) (fun z => absurd (show ¬ v5 = 3 by omega) z)
/-- .. and where it is -/
theorem r_led3 {tk : Nat} (TQ : TBq (bK X) (bP X) (bc X) r) (hf : r 160 9 = 0) (e1 : r 170 e.toNat = bT X 170 e.toNat) (e2 : r 174 (bT X 170 e.toNat).toNat = 3) (e3 : r 168 (bT X 170 e.toNat).toNat = (tk : Int)) (ht : tk < bc X) : Pc (qf_X13_led nn e r) (fun u => u.1 = 3 ∧ u.2 160 9 = 6 ∧ u.2 160 10 = bP X tk) := by
  unfold qf_X13_led
  refine pc_if (fun _ => ?_) (fun z => absurd hf z)
  refine pc_rA ?_; intro _ _ v4 e4
  rw [e1] at e4
  refine pc_rA ?_; intro _ _ v5 e5
  rw [e4, e2] at e5
  refine pc_if (fun z => absurd e5 z) (fun _ => ?_)
  refine pc_rA ?_; intro _ _ v8 e8
  rw [e1] at e8
  refine pc_rA ?_; intro _ _ v9 e9
  rw [e8, e3] at e9
  refine pc_sv (r_wrong TQ ht hf e9) ?_; intro u11 ⟨w1, w2⟩
  exact pc_ret ⟨e5, w1, w2⟩
end
end
section
/- E of both sides: an element as a P -/
section
variable {nn : Nat} {X : BCx} {dp i a b e : Int} {p q : Nat} {h g u r w m : ms_M} {v : Int × ms_M}
theorem p3_pe {t uu : Nat} {ix iy : Int} (Y : CXs X) (ne : 0 ≤ a ∧ a ≤ e ∧ e < b) (nd : bT X 167 e.toNat = 32 ∧ bT X 168 e.toNat = (t : Int)) (kk : bK X t = 44 ∧ bK X uu = 45 ∧ q = uu + 1) (r1 : a ≤ bT X 170 e.toNat ∧ bT X 170 e.toNat < e) (CH : P3 nn X dp ix a e p t (bT X 170 e.toNat)) (H : E0 nn X dp iy (e + 1) b (t + 1) uu (bT X 171 e.toNat)) (tu : t + 1 < uu) (pt : p < t) : P3 nn X dp 0 a b p q e := by
  intro d d2 h r Z Q b57 HB HC HF
  obtain ⟨k44, k45, hq⟩ := kk
  have BK := Y.1
  have n8 := Y.2.2.1
  have c3 := BK.2.1
  have tc : t < bc X := tb_lt BK (by omega)
  have uc : uu < bc X := tb_lt BK (by omega)
  have u1c : uu + 1 < bc X := jp_lt BK uc (by omega)
  have NEX : ∀ (v83 : Int) (A : Option (Int × ms_M)) (F : Int → Option (Int × ms_M)), v83 = 32 → True := fun _ _ _ _ => trivial
  refine p3_led Y ne r1 CH (.inr k44) (fun r B => r_led4 (by rw [B.2.2.2.2.2.1 167 e.toNat (by omega), nd.1]; omega)) (fun r _ z => absurd z (by omega)) (fun r2 d2 y _ TQ TT hf g3 tk ey => ?_) (fun d d2 r r1' u9 v1 Q Q1 b57 R1 K9 FX n303 => ?_) d d2 r Z Q b57 HC HF (by omega)
  · -- the left side is void
    cases d2 with
    | zero => exact absurd ey (fun z => nomatch z)
    | succ d2 =>
      have W : Pc (qo_X13_rule nn (qg_X13_condition nn d2) e r2) (fun y => y.2 160 9 = 6 ∧ y.2 160 10 = bP X (bT X 168 (bT X 170 e.toNat).toNat).toNat) := by
        unfold qo_X13_rule
        refine pc_rA ?_; intro _ _ v83 e83
        rw [TT 167 e.toNat (by omega), nd.1] at e83
        rw [e83]
        refine pc_if (fun z => absurd z (by decide)) (fun _ => ?_)
        refine pc_if (fun z => absurd z (by decide)) (fun _ => ?_)
        refine pc_if (fun z => absurd z (by decide)) (fun _ => ?_)
        refine pc_if (fun z => absurd z (by decide)) (fun _ => ?_)
        refine pc_if (fun z => absurd z (by decide)) (fun _ => ?_)
        refine pc_if (fun z => absurd z (by decide)) (fun _ => ?_)
        refine pc_if (fun z => absurd z (by decide)) (fun _ => ?_)
        refine pc_if (fun z => absurd z (by decide)) (fun _ => ?_)
        refine pc_if (fun z => absurd z (by decide)) (fun _ => ?_)
        refine pc_if (fun z => absurd z (by decide)) (fun _ => ?_)
        refine pc_if (fun z => absurd z (by decide)) (fun _ => ?_)
        refine pc_if (fun z => absurd z (by decide)) (fun _ => ?_)
        refine pc_if (fun _ => ?_) (fun z => absurd rfl z)
        refine pc_sv (r_led3 TQ hf (TT 170 e.toNat (by omega)) g3 (tk := (bT X 168 (bT X 170 e.toNat).toNat).toNat) (by rw [TT 168 _ (by omega)]; omega) (by omega)) ?_; intro u168 ⟨_, s1, s2⟩
        have S1 : ¬ u168.2 160 9 = 0 := by omega
        refine pc_rA ?_; intro _ _ v170 e170
        refine pc_sv ((ftg_X13_condition nn d2).2.1 S1) ?_; intro u172 F1
        have S2 : ¬ u172.2 160 9 = 0 := by rw [F1.1]; exact S1
        have E1 : ∀ y : Int × ms_M, FSr u172.2 y.2 → y.2 160 9 = 6 ∧ y.2 160 10 = bP X (bT X 168 (bT X 170 e.toNat).toNat).toNat := fun y F => ⟨by rw [F.1, F1.1]; exact s1, by rw [F.2, F1.2]; exact s2⟩
        refine pc_se ?_; intro u173 _
        refine pc_if (fun _ => pc_imp (ft_qj_X13_rule_391 (ftg_X13_condition nn d2) S2) E1) (fun _ => ?_)
        exact pc_if (fun _ => pc_imp (ft_qj_X13_rule_403 (ftg_X13_condition nn d2) S2) E1) (fun _ => pc_imp (ft_qj_X13_rule_391 (ftg_X13_condition nn d2) S2) E1)
      exact W y ey
  · have Q0 := Q
    obtain ⟨B, ⟨q1, q2, q3, q4⟩, ⟨f1, f2, f3⟩, o1⟩ := Q0
    rw [if_pos (show ¬ bK X t = 48 by omega)]
    have K0 := K9
    obtain ⟨⟨x1, x2, x3, x4, x5⟩, ⟨x6, x7, x8⟩, ⟨x9, x10, x11⟩, ⟨x12, x13, x14⟩, -⟩ := K9
    obtain ⟨⟨y1, -⟩, y2⟩ := FX.2.2 (by omega)
    rw [if_neg n303] at y1
    have V7 := x7
    unfold VTn at V7
    cases d with
    | zero => exact pc_none
    | succ d =>
      have G := fsg_X10_readValue nn d
      show Pc (qo_X10_readElement nn (qg_X10_readValue nn d) dp u9) _
      unfold qo_X10_readElement
      rw [x1]
      refine pc_add (by omega) ?_; intro v11 e11
      refine pc_xl ?_; intro h12 e12
      rw [show v11 = ((t + 1 : Nat) : Int) by omega] at e12
      have E12 : ∀ cc x : Nat, ¬ (cc = 2 ∧ x = 10) → h12 cc x = u9 cc x := fun cc x z => by rw [e12, up_n z]
      refine pc_se ?_; intro u14 e14
      -- all that is left, for the given rules' memory
      have B9 : BX X u9 v1.2 := bx_e Q1.1 x9 x10
      have MAIN : ∀ (r2 : ms_M), r2 = up_M v1.2 160 57 (r 160 57) → ∀ d2 : Nat, Pc (qo_X13_rule nn (qg_X13_condition nn d2) e r2) (fun y => ∀ z : ms_M, z = up_M y.2 174 e.toNat y.1 → Pc (xl (oq_add (u14 2 10) 1) fun v17 => xl (up_M u14 2 10 v17) fun h18 => mx_sv (qf_X4_isArray nn (u9 49 12) h18) fun u19 => if u19 = 0 then (qj_X10_readElement_66 nn (qg_X10_readValue nn d) (t : Int) (u9 49 12) h18) else (if ¬ (h18 49 12) = 301 then (qj_X10_readElement_66 nn (qg_X10_readValue nn d) (t : Int) (u9 49 12) h18) else (qj_X10_readElement_67 nn (qg_X10_readValue nn d) (t : Int) (u9 49 12) 1 h18))) (fun u13 => (¬ z 160 9 = 0 → SFj u13 z) ∧ (z 160 9 = 0 → VDj X 0 a b p q e h r u13 (y.1, z) ∨ POk nn X 0 a b p q e h r u13 (y.1, z)))) := fun r2 er2 d2 => by
        have E2 : ∀ cc x : Nat, ¬ (cc = 160 ∧ x = 57) → r2 cc x = v1.2 cc x := fun cc x z => by rw [er2, up_n z]
        have s57 : r2 160 57 = r 160 57 := by rw [er2, up_s]
        have B2 : BX X h12 r2 := bx_k B9 (fun cc x z => E12 cc x (by omega)) (fun cc x z => E2 cc x (by omega))
        have T2 : ∀ cc x : Nat, ((163 ≤ cc ∧ cc ≤ 173) ∨ cc = 177) → r2 cc x = bT X cc x := B2.2.2.2.2.2.1
        have TQ2 : TBq (bK X) (bP X) (bc X) r2 := B2.1.1.2.2.1
        have Q2 : EPr X dp (t + 1) h12 r2 := by
          refine ⟨B2, ⟨by rw [e12, up_s], by omega, by rw [E12 2 11 (by omega)]; exact x4, by rw [E2 160 9 (by omega)]; exact x5⟩, ⟨frc_k x12 (fun cc x z => E12 cc x (by omega)), ?_, ?_⟩, ?_⟩
          · rw [E12 34 1 (by omega)]; omega
          · rw [E12 34 3 (by omega)]; omega
          · rw [E12 49 10 (by omega), x11.1, E12 49 18 (by omega), x9 49 18 (by omega) (by omega) (by omega) (by omega) (by omega) (by omega) (by omega) (by omega)]; omega
        have GV := j_given (nn := nn) (X := X) (x := (qg_X10_readValue nn d).1 dp h12) TQ2 (fun cc y z => T2 cc y (by omega)) n8 (fun d2 => H (.inr (.inl k45)) d d2 h12 r2 Q2 (by omega)) (fun z => absurd z (by omega)) (by omega)
        have a174 : r2 174 (bT X 170 e.toNat).toNat = ty_T (u9 49 12) := by rw [E2 174 _ (by omega), x8]; exact x6
        unfold qo_X13_rule
        refine pc_rA ?_; intro _ _ v83 e83
        rw [T2 167 e.toNat (by omega), nd.1] at e83
        rw [e83]
        refine pc_if (fun z => absurd z (by decide)) (fun _ => ?_)
        refine pc_if (fun z => absurd z (by decide)) (fun _ => ?_)
        refine pc_if (fun z => absurd z (by decide)) (fun _ => ?_)
        refine pc_if (fun z => absurd z (by decide)) (fun _ => ?_)
        refine pc_if (fun z => absurd z (by decide)) (fun _ => ?_)
        refine pc_if (fun z => absurd z (by decide)) (fun _ => ?_)
        refine pc_if (fun z => absurd z (by decide)) (fun _ => ?_)
        refine pc_if (fun z => absurd z (by decide)) (fun _ => ?_)
        refine pc_if (fun z => absurd z (by decide)) (fun _ => ?_)
        refine pc_if (fun z => absurd z (by decide)) (fun _ => ?_)
        refine pc_if (fun z => absurd z (by decide)) (fun _ => ?_)
        refine pc_if (fun z => absurd z (by decide)) (fun _ => ?_)
        refine pc_if (fun _ => ?_) (fun z => absurd rfl z)
        refine pc_sv (r_ledv (X := X) (by rw [E2 160 9 (by omega)]; exact x5) (T2 170 e.toNat (by omega)) a174 (fun z => n303 ((ty_3 (X := X) n8 x7).mp z))) ?_; intro u168 q168
        rw [q168]
        dsimp only
        refine pc_rA ?_; intro _ _ v170 e170
        rw [T2 171 e.toNat (by omega)] at e170
        rw [e170]
        refine pc_sv (pc_and (GV d2 u14 e14) (gv_fr d2)) ?_; intro v2 ⟨hv, F2⟩
        have TQ3 : TBq (bK X) (bP X) (bc X) v2.2 := tbq_f TQ2 (fun cc x z => F2 cc x (by omega) (by omega) (by omega))
        -- behind a FAULT of the class
        have TF : ¬ u14 2 11 = 0 → Pc (xl (oq_add (u14 2 10) 1) fun v17 => xl (up_M u14 2 10 v17) fun h18 => mx_sv (qf_X4_isArray nn (u9 49 12) h18) fun u19 => if u19 = 0 then (qj_X10_readElement_66 nn (qg_X10_readValue nn d) (t : Int) (u9 49 12) h18) else (if ¬ (h18 49 12) = 301 then (qj_X10_readElement_66 nn (qg_X10_readValue nn d) (t : Int) (u9 49 12) h18) else (qj_X10_readElement_67 nn (qg_X10_readValue nn d) (t : Int) (u9 49 12) 1 h18))) (fun u => FSc u14 u) := fun S => by
          refine pc_xl ?_; intro v17 e17
          refine pc_xl ?_; intro h18 e18
          have F18 : FSc u14 h18 := ⟨by rw [e18, up_n (by omega)], by rw [e18, up_n (by omega)]⟩
          have S18 : ¬ h18 2 11 = 0 := by rw [F18.1]; exact S
          refine pc_se ?_; intro u19 _
          refine pc_if (fun _ => pc_imp (fs_qj_X10_readElement_66 G S18) (fun u F => fs_t F18 F)) (fun _ => ?_)
          exact pc_if (fun _ => pc_imp (fs_qj_X10_readElement_66 G S18) (fun u F => fs_t F18 F)) (fun _ => pc_imp (fs_qj_X10_readElement_67 G S18) (fun u F => fs_t F18 F))
        refine pc_sv (r_isArr n8 x7) ?_; intro u173 q173
        rcases hv with S | ⟨⟨K, K15, KF⟩, FX2, m303⟩
        · have SR := sf_r S
          have DN : ∀ y : Int × ms_M, FSr v2.2 y.2 → ∀ z : ms_M, z = up_M y.2 174 e.toNat y.1 → Pc (xl (oq_add (u14 2 10) 1) fun v17 => xl (up_M u14 2 10 v17) fun h18 => mx_sv (qf_X4_isArray nn (u9 49 12) h18) fun u19 => if u19 = 0 then (qj_X10_readElement_66 nn (qg_X10_readValue nn d) (t : Int) (u9 49 12) h18) else (if ¬ (h18 49 12) = 301 then (qj_X10_readElement_66 nn (qg_X10_readValue nn d) (t : Int) (u9 49 12) h18) else (qj_X10_readElement_67 nn (qg_X10_readValue nn d) (t : Int) (u9 49 12) 1 h18))) (fun u13 => (¬ z 160 9 = 0 → SFj u13 z) ∧ (z 160 9 = 0 → VDj X 0 a b p q e h r u13 (y.1, z) ∨ POk nn X 0 a b p q e h r u13 (y.1, z))) := fun y F z ez => pc_imp (TF S.1) (fun u F2 => by
            have SF : SFj u z := sf_k S F2 ⟨by rw [ez, up_n (by omega)]; exact F.1, by rw [ez, up_n (by omega)]; exact F.2⟩
            exact ⟨fun _ => SF, fun y => absurd y (sf_r SF)⟩)
          refine pc_if (fun _ => pc_imp (ft_qj_X13_rule_391 (ftg_X13_condition nn d2) SR) DN) (fun _ => ?_)
          exact pc_if (fun _ => pc_imp (ft_qj_X13_rule_403 (ftg_X13_condition nn d2) SR) DN) (fun _ => pc_imp (ft_qj_X13_rule_391 (ftg_X13_condition nn d2) SR) DN)
        · obtain ⟨⟨z1, z2, z3, z4, z5⟩, ⟨z6, z7, z8⟩, ⟨z9, z10, z11⟩, ⟨z12, z13, z14⟩, -⟩ := K
          have t0 : ty_T (u14 49 12) = 0 ↔ u14 49 12 = 301 := by
            have c := ty_c (vtn_v n8 z7)
            omega
          have TB14 : TBc (bK X) (bP X) (bc X) u14 := pk_b Q2 ⟨⟨z1, z2, z3, z4, z5⟩, ⟨z6, z7, z8⟩, ⟨z9, z10, z11⟩, ⟨z12, z13, z14⟩, .inl FX2⟩
          -- wrong
          have BAD : ¬ ((100 ≤ u9 49 12 ∧ u9 49 12 ≤ 200) ∧ u14 49 12 = 301) → Pc (qj_X13_rule_391 nn (qg_X13_condition nn d2) e (ty_T (u9 49 12)) v2.2) (fun y => ∀ z : ms_M, z = up_M y.2 174 e.toNat y.1 → Pc (xl (oq_add (u14 2 10) 1) fun v17 => xl (up_M u14 2 10 v17) fun h18 => mx_sv (qf_X4_isArray nn (u9 49 12) h18) fun u19 => if u19 = 0 then (qj_X10_readElement_66 nn (qg_X10_readValue nn d) (t : Int) (u9 49 12) h18) else (if ¬ (h18 49 12) = 301 then (qj_X10_readElement_66 nn (qg_X10_readValue nn d) (t : Int) (u9 49 12) h18) else (qj_X10_readElement_67 nn (qg_X10_readValue nn d) (t : Int) (u9 49 12) 1 h18))) (fun u13 => (¬ z 160 9 = 0 → SFj u13 z) ∧ (z 160 9 = 0 → VDj X 0 a b p q e h r u13 (y.1, z) ∨ POk nn X 0 a b p q e h r u13 (y.1, z)))) := fun nb => by
            unfold qj_X13_rule_391
            refine pc_rA ?_; intro _ _ v58 e58
            rw [F2 168 _ (by omega) (by omega) (by omega), T2 168 e.toNat (by omega), nd.2] at e58
            refine pc_sv (r_wrong TQ3 tc z5 e58) ?_; intro u60 ⟨w1, w2⟩
            refine pc_imp (ft_qj_X13_rule_403 (ftg_X13_condition nn d2) (by omega)) (fun y F => fun z ez => ?_)
            have s9 : z 160 9 = 6 := by rw [ez, up_n (by omega), F.1]; exact w1
            have s10 : z 160 10 = bP X t := by rw [ez, up_n (by omega), F.2]; exact w2
            rw [z1]
            refine pc_add (by omega) ?_; intro v17 e17
            refine pc_xl ?_; intro h18 e18
            have E18 : ∀ cc x : Nat, ¬ (cc = 2 ∧ x = 10) → h18 cc x = u14 cc x := fun cc x y => by rw [e18, up_n y]
            have TB18 : TBc (bK X) (bP X) (bc X) h18 := tbc_k TB14 (fun cc y z => E18 cc y (by omega))
            have C67 : Pc (qj_X10_readElement_66 nn (qg_X10_readValue nn d) (t : Int) (u9 49 12) h18) (fun u13 => (¬ z 160 9 = 0 → SFj u13 z) ∧ (z 160 9 = 0 → VDj X 0 a b p q e h r u13 (y.1, z) ∨ POk nn X 0 a b p q e h r u13 (y.1, z))) := by
              unfold qj_X10_readElement_66 qj_X10_readElement_67
              have WT : Pc (qf_X10_wantType nn 0 (t : Int) h18) (fun y => y 2 11 = 6 ∧ y 2 12 = bP X t) := by
                unfold qf_X10_wantType
                refine pc_if (fun z => absurd rfl z) (fun _ => ?_)
                refine pc_sv (c_tell TB18 (by rw [E18 2 11 (by omega)]; exact z4) tc rfl) ?_; intro u3 ⟨t1, _⟩
                exact pc_ret t1
              refine pc_sv WT ?_; intro u2 ⟨p1, p2⟩
              refine pc_se ?_; intro u3 _
              refine pc_xl ?_; intro h4 e4
              refine pc_xl ?_; intro h5 e5
              have SF : SFj h5 z := ⟨by rw [e5, up_n (by omega), e4, up_n (by omega)]; omega, by rw [e5, up_n (by omega), e4, up_n (by omega), s9, p1], by rw [e5, up_n (by omega), e4, up_n (by omega), s10, p2]⟩
              exact pc_ret ⟨fun _ => SF, fun y => absurd y (sf_r SF)⟩
            refine pc_sv c_arr2 ?_; intro u19 q19
            refine pc_if (fun _ => C67) (fun y19 => ?_)
            refine pc_if (fun _ => C67) (fun y12 => ?_)
            exfalso
            rw [E18 49 12 (by omega)] at y12
            exact nb ⟨by omega, Classical.byContradiction y12⟩
          refine pc_if (fun y0 => BAD (by omega)) (fun y0 => ?_)
          refine pc_if (fun y3 => ?_) (fun y3 => BAD (fun w => y3 (by show v2.1 = 0; rw [z6]; exact t0.mpr w.2)))
          have ar : 100 ≤ u9 49 12 ∧ u9 49 12 ≤ 200 := by omega
          have i301 : u14 49 12 = 301 := t0.mp (by rw [← z6]; exact y3)
          obtain ⟨⟨c1, -⟩, c2⟩ := FX2.2.2 (by omega)
          rw [if_neg m303, E12 34 3 (by omega)] at c1
          rw [E12 34 1 (by omega)] at z13
          have tyA := ty_c (vtn_v n8 x7)
          -- the element's type
          have R403 : ∃ et : Int, VTn (bn X) et ∧ ¬ et = 303 ∧ ((u9 49 12 = 200 ∧ et = 301) ∨ (¬ u9 49 12 = 200 ∧ et = u9 49 12 - 100)) ∧ ∀ QQ : Int × ms_M → Prop, QQ (ty_T et, v2.2) → Pc (qj_X13_rule_403 nn (qg_X13_condition nn d2) (ty_T (u9 49 12)) v2.2) QQ := by
            by_cases a200 : u9 49 12 = 200
            · refine ⟨301, .inl rfl, by decide, .inl ⟨a200, rfl⟩, fun QQ HQ => ?_⟩
              unfold qj_X13_rule_403
              refine pc_if (fun w => absurd (show ty_T (u9 49 12) = 4 by omega) w) (fun _ => pc_ret HQ)
            · have ve : VTn (bn X) (u9 49 12 - 100) := by unfold VTn; omega
              have tyE := ty_c (vtn_v n8 ve)
              refine ⟨u9 49 12 - 100, ve, by omega, .inr ⟨a200, rfl⟩, fun QQ HQ => ?_⟩
              unfold qj_X13_rule_403
              refine pc_if (fun w => ?_) (fun w => absurd (show ¬ ty_T (u9 49 12) = 4 by omega) w)
              refine pc_sub (by omega) ?_; intro v55 e55
              rw [show v55 = ty_T (u9 49 12 - 100) by omega]
              exact pc_ret HQ
          obtain ⟨et, ve, n3e, ek, R4⟩ := R403
          refine R4 _ (fun z (ez : z = up_M v2.2 174 e.toNat (ty_T et)) => ?_)
          rw [z1]
          refine pc_add (by omega) ?_; intro v17 e17
          refine pc_xl ?_; intro h18 e18
          rw [show v17 = ((uu + 1 : Nat) : Int) by omega] at e18
          have E18 : ∀ cc x : Nat, ¬ (cc = 2 ∧ x = 10) → h18 cc x = u14 cc x := fun cc x y => by rw [e18, up_n y]
          refine pc_sv c_arr2 ?_; intro u19 q19
          refine pc_if (fun y => absurd y (by omega)) (fun _ => ?_)
          refine pc_if (fun y => absurd (show h18 49 12 = 301 by rw [E18 49 12 (by omega)]; exact i301) y) (fun _ => ?_)
          unfold qj_X10_readElement_67
          have WT : Pc (qf_X10_wantType nn 1 (t : Int) h18) (fun y => y = h18) := by
            unfold qf_X10_wantType
            exact pc_if (fun _ => pc_ret rfl) (fun z => absurd (by decide) z)
          refine pc_sv WT ?_; intro u2 q2'
          rw [q2']
          refine pc_sv (c_elem ar) ?_; intro u3 q3'
          refine pc_xl ?_; intro h4 e4
          refine pc_xl ?_; intro h5 e5
          have eu3 : u3 = et := by omega
          have E5 : ∀ cc x : Nat, ¬ (cc = 2 ∧ x = 10) → ¬ (cc = 49 ∧ (x = 11 ∨ x = 12)) → h5 cc x = u14 cc x := fun cc x y1 y2 => by rw [e5, up_n (by omega), e4, up_n (by omega)]; exact E18 cc x y1
          have t12 : h5 49 12 = et := by rw [e5, up_n (by omega), e4, up_s, eu3]
          have t11 : h5 49 11 = 4 := by rw [e5, up_s]
          have l3 : h5 34 3 = h 34 3 + 2 := by rw [E5 34 3 (by omega) (by omega)]; omega
          have l1 := E5 34 1 (by omega) (by omega)
          have z99 : z 160 9 = 0 := by rw [ez, up_n (by omega)]; exact z5
          refine pc_ret ⟨fun y => absurd z99 y, fun _ => .inr ?_⟩
          rw [hq]
          have RR : RFe a b r z := by
            refine ⟨fun cc x s1 s2 s3 => ?_, fun cc x s1 s2 s3 => ?_⟩
            · rw [ez, up_n (by omega), z10.1 cc x s1 s2 s3, E2 cc x (by omega), x10.1 cc x s1 s2 s3]; exact R1.1 cc x s1 s2 s3
            · rw [ez, up_n (by omega), z10.2 cc x s1 s2 (by omega), E2 cc x (by omega), x10.2 cc x s1 s2 (by omega)]; exact R1.2 cc x s1 s2 s3
          refine ⟨⟨?_, u1c, by omega, ?_, z99⟩, ⟨?_, ?_, ?_⟩, ⟨?_, RR, ?_⟩, ⟨?_, ?_, by omega⟩, .inr (.inr (.inr ⟨⟨t11, rfl, nd.1, by rw [t12]; exact n3e⟩, ⟨l3, by omega⟩, t, u9, ⟨by omega, by omega⟩, ?_, ?_⟩))⟩
          · rw [e5, up_n (by omega), e4, up_n (by omega), e18, up_s]
          · rw [E5 2 11 (by omega) (by omega)]; exact z4
          · show ty_T et = ty_T (h5 49 12)
            rw [t12]
          · rw [t12]; exact ve
          · show z 174 e.toNat = ty_T et
            rw [ez, up_s]
          · exact cfe_t x9 (cfe_t (cfe_w z9 E12 (fun cc x _ _ => rfl)) (fun cc x a1 a2 a3 a4 a5 a6 a7 a8 => E5 cc x (by omega) (by omega)))
          · refine sgb_t x11 ⟨by rw [E5 49 10 (by omega) (by omega), z11.1]; exact E12 49 10 (by omega), fun cc x s1 s2 s3 => ?_⟩
            rw [E5 cc x (by omega) (by omega), z11.2 cc x s1 s2 (by rw [E12 49 10 (by omega)]; exact s3)]
            exact E12 cc x (by omega)
          · exact frc_k z12 (fun cc x y => E5 cc x (by omega) (by omega))
          · omega
          · refine mkc_v y2 (fun cc x s1 s2 s3 s4 => ?_)
            show z cc x = _
            rw [ez, up_n (by omega), z10.2 cc x s1 s2 (by omega), E2 cc x (by omega)]
          · refine mkc_v (v1 := v2.2) (mkc_w c2 (fun cc x s1 s2 s3 => E12 cc x (by omega)) (fun cc x s1 s2 s3 => E5 cc x (by omega) (by omega)) (by omega) (by omega)) (fun cc x s1 s2 s3 s4 => ?_)
            show z cc x = _
            rw [ez, up_n (by omega)]
      intro u13 e13 r2 er2
      cases d2 with
      | zero => exact pc_none
      | succ d2 => exact pc_imp (MAIN r2 er2 d2) (fun y Hy => fun z ez => Hy z ez u13 e13)
end
end
section
/- E of both sides: a field behind a point -/
section
variable {nn : Nat} {X : BCx} {K P V : Nat → Int} {c : Nat} {dp i a b e t : Int} {p q : Nat} {h g u r w m : ms_M} {v : Int × ms_M}
theorem cx4 : (List.range 8).all (fun j => decide (cx_ (1000000000 + 4) ((j : Nat) : Int) = 32 ↔ (j = 0 ∨ j = 7))) = true := by decide +kernel
/-- a NAME that is length has six letters -/
theorem nmr_len (NR : NMr K V c r) {i : Nat} (hi : i < c) (ki : K i = 2) (h8 : V i = 8) : r 165 i = 6 := by
  obtain ⟨-, a2, -, -, a5⟩ := NR.1 i hi ki
  by_cases ex : ∃ k : Nat, MA_ (1000000000 + 4) 8 (r 164 i) (r 165 i) r k
  · obtain ⟨k, m1, m2, m3, -⟩ := ex
    have C : ∀ j : Nat, j < 8 → (cx_ (1000000000 + 4) (j : Int) = 32 ↔ (j = 0 ∨ j = 7)) := fun j hj => of_decide_eq_true (List.all_eq_true.mp cx4 j (List.mem_range.mpr hj))
    have k0 := (C k (by omega)).mp m1
    have e : (k : Int) + r 165 i + 1 = ((k + (r 165 i).toNat + 1 : Nat) : Int) := by omega
    rw [e] at m3
    have k7 := (C _ (by omega)).mp m3
    omega
  · exfalso
    rcases a5 (-1) (.inl ⟨rfl, fun k hk => ex ⟨k, hk⟩⟩) with ⟨-, z⟩ | ⟨z, -⟩
    · exact z h8
    · exact absurd z (by decide)
theorem r_isTh (n8 : bn X ≤ 8) (V1 : VTn (bn X) t) : Pc (qf_X13_isThing nn (ty_T t) r) (fun u => (u = 1 ∧ (t = 300 ∨ (0 ≤ t ∧ t ≤ 200))) ∨ (u = 0 ∧ (t = 301 ∨ t = 302 ∨ t = 303))) := by
  have c := ty_c (vtn_v n8 V1)
  unfold VTn at V1
  unfold qf_X13_isThing
  refine pc_if (fun z => pc_ret (.inl ⟨rfl, by omega⟩)) (fun z => ?_)
  refine pc_if (fun z2 => pc_ret (.inl ⟨rfl, by omega⟩)) (fun z2 => ?_)
  exact pc_if (fun z3 => pc_ret (.inr ⟨rfl, by omega⟩)) (fun z3 => pc_ret (.inl ⟨rfl, by omega⟩))
theorem c_isCl : Pc (qf_X4_isClass nn t h) (fun u => (u = 1 ∧ 0 ≤ t ∧ t < 16) ∨ (u = 0 ∧ ¬ (0 ≤ t ∧ t < 16))) := by
  unfold qf_X4_isClass
  refine pc_if (fun z => pc_ret (.inr ⟨rfl, by omega⟩)) (fun z => ?_)
  exact pc_if (fun z2 => pc_ret (.inr ⟨rfl, by omega⟩)) (fun z2 => pc_ret (.inl ⟨rfl, by omega⟩))
theorem c_nmG {x c : Int} : Pc (qf_X10_nameField nn c x h) (fun u => (u 49 11 = 3 ∧ u 49 13 = c ∧ u 49 14 = x ∧ (0 ≤ x ∧ x < 96 → u 49 12 = h 19 x.toNat)) ∧ ∀ cc y : Nat, ¬ (cc = 49 ∧ (y = 11 ∨ y = 12 ∨ y = 13 ∨ y = 14)) → u cc y = h cc y) := by
  by_cases hx : 0 ≤ x ∧ x < 96
  · exact pc_imp (c_nmF hx) (fun u q => ⟨⟨q.1.1, q.1.2.1, q.1.2.2.1, fun _ => q.1.2.2.2⟩, q.2⟩)
  · unfold qf_X10_nameField
    refine pc_xl ?_; intro h1 e1
    refine pc_xl ?_; intro h2 e2
    refine pc_xl ?_; intro h3 e3
    refine pc_se ?_; intro u6 _
    refine pc_xl ?_; intro h7 e7
    refine pc_ret ⟨⟨?_, ?_, ?_, fun z => absurd z hx⟩, fun cc y z => ?_⟩
    · rw [e7, up_n (by omega), e3, up_n (by omega), e2, up_n (by omega), e1, up_s]
    · rw [e7, up_n (by omega), e3, up_n (by omega), e2, up_s]
    · rw [e7, up_n (by omega), e3, up_s]
    · rw [e7, up_n (by omega), e3, up_n (by omega), e2, up_n (by omega), e1, up_n (by omega)]
theorem c_want1 {x : Int} : Pc (qf_X10_wantType nn 1 x h) (fun y => y = h) := by
  unfold qf_X10_wantType
  exact pc_if (fun _ => pc_ret rfl) (fun z => absurd (by decide) z)
theorem c_want0 {tk : Nat} {x : Int} (TB : TBc (bK X) (bP X) (bc X) h) (hf : h 2 11 = 0) (ht : tk < bc X) (hx : x = (tk : Int)) : Pc (qf_X10_wantType nn 0 x h) (fun y => y 2 11 = 6 ∧ y 2 12 = bP X tk) := by
  unfold qf_X10_wantType
  refine pc_if (fun z => absurd rfl z) (fun _ => ?_)
  refine pc_sv (c_tell TB hf ht hx) ?_; intro u3 ⟨t1, _⟩
  exact pc_ret t1
end
section
variable {nn : Nat} {X : BCx} {dp i a b e : Int} {p q : Nat} {h g u r w m : ms_M} {v : Int × ms_M}
theorem p3_pf {t : Nat} {ix : Int} (Y : CXs X) (ne : 0 ≤ a ∧ a ≤ e ∧ e < b) (nd : bT X 167 e.toNat = 30 ∧ bT X 168 e.toNat = ((t + 1 : Nat) : Int) ∧ bT X 172 e.toNat = (t : Int)) (kk : bK X t = 48 ∧ bK X (t + 1) = 2 ∧ ¬ bK X (t + 2) = 40 ∧ q = t + 2) (r1 : a ≤ bT X 170 e.toNat ∧ bT X 170 e.toNat < e) (CH : P3 nn X dp ix a e p t (bT X 170 e.toNat)) (pt : p < t) : P3 nn X dp 0 a b p q e := by
  intro d d2 h r Z Q b57 HB HC HF
  obtain ⟨k48, k2, k40, hq⟩ := kk
  have BK := Y.1
  have SK := Y.2.1
  have n8 := Y.2.2.1
  have c3 := BK.2.1
  have t1c : t + 1 < bc X := tb_lt BK (by omega)
  have tc : t < bc X := by omega
  have t2c : t + 2 < bc X := jp_lt BK t1c (by omega)
  refine p3_led Y ne r1 CH (.inl k48) (fun r B => r_led4 (by rw [B.2.2.2.2.2.1 167 e.toNat (by omega), nd.1]; omega)) (fun r _ _ _ z => absurd z k40) (fun r2 d2 y _ TQ TT hf g3 tk ey => ?_) (fun d d2 r r1' u9 v1 Q Q1 b57 R1 K9 FX n303 => ?_) d d2 r Z Q b57 HC HF (by omega)
  · cases d2 with
    | zero => exact absurd ey (fun z => nomatch z)
    | succ d2 =>
      have W : Pc (qo_X13_rule nn (qg_X13_condition nn d2) e r2) (fun y => y.2 160 9 = 6 ∧ y.2 160 10 = bP X (bT X 168 (bT X 170 e.toNat).toNat).toNat) := by
        unfold qo_X13_rule
        refine pc_rA ?_; intro _ _ v83 e83
        rw [TT 167 e.toNat (by omega), nd.1] at e83
        rw [e83]
        refine pc_if (fun z => absurd z (by decide)) (fun _ => ?_)
        refine pc_if (fun z => absurd z (by decide)) (fun _ => ?_)
        refine pc_if (fun z => absurd z (by decide)) (fun _ => ?_)
        refine pc_if (fun z => absurd z (by decide)) (fun _ => ?_)
        refine pc_if (fun z => absurd z (by decide)) (fun _ => ?_)
        refine pc_if (fun z => absurd z (by decide)) (fun _ => ?_)
        refine pc_if (fun z => absurd z (by decide)) (fun _ => ?_)
        refine pc_if (fun z => absurd z (by decide)) (fun _ => ?_)
        refine pc_if (fun z => absurd z (by decide)) (fun _ => ?_)
        refine pc_if (fun z => absurd z (by decide)) (fun _ => ?_)
        refine pc_if (fun _ => ?_) (fun z => absurd rfl z)
        unfold qf_X13_field
        refine pc_sv (pc_sv (r_led3 TQ hf (TT 170 e.toNat (by omega)) g3 (tk := (bT X 168 (bT X 170 e.toNat).toNat).toNat) (by rw [TT 168 _ (by omega)]; omega) (by omega)) (fun u16 s => pc_if (Q := fun y : Int × ms_M => y.2 160 9 = 6 ∧ y.2 160 10 = bP X (bT X 168 (bT X 170 e.toNat).toNat).toNat) (fun z => absurd z (by have := s.2.1; omega)) (fun _ => pc_ret s.2))) ?_; intro u164 q164
        exact pc_ret q164
      exact W y ey
  · have Q0 := Q
    obtain ⟨B, ⟨q1, q2, q3, q4⟩, ⟨f1, f2, f3⟩, o1⟩ := Q0
    rw [if_neg (show ¬ ¬ bK X t = 48 by omega)]
    obtain ⟨⟨x1, x2, x3, x4, x5⟩, ⟨x6, x7, x8⟩, ⟨x9, x10, x11⟩, ⟨x12, x13, x14⟩, -⟩ := K9
    obtain ⟨⟨y1, -⟩, y2⟩ := FX.2.2 (by omega)
    rw [if_neg n303] at y1
    have V7 := x7
    unfold VTn at V7
    have tyA := ty_c (vtn_v n8 x7)
    have B9 : BX X u9 v1.2 := bx_e Q1.1 x9 x10
    have TB9 : TBc (bK X) (bP X) (bc X) u9 := B9.1.1.1.1
    have VL9 : VLc (bK X) (bV X) (bc X) u9 := B9.1.1.1.2.1
    cases d with
    | zero => exact pc_none
    | succ d =>
      have G := fsg_X10_readValue nn d
      show Pc (qo_X10_readBehindPoint nn (qg_X10_readValue nn d) (p : Int) dp u9) _
      -- the reference's rule, given what the class leaves
      have RULE : ∀ (u13 : ms_M), (∀ (r2 : ms_M), r2 = up_M v1.2 160 57 (r 160 57) → BX X u9 r2 → r2 160 9 = 0 → (∀ cc x : Nat, ((163 ≤ cc ∧ cc ≤ 173) ∨ cc = 177) → r2 cc x = bT X cc x) → Pc (if ty_T (u9 49 12) = 2 then (qj_X13_field_27 nn e r2) else (mx_sv (qf_X13_isThing nn (ty_T (u9 49 12)) r2) fun u18 => if ¬ u18 = 0 then (mx_sv (qf_X13_isArray nn (ty_T (u9 49 12)) r2) fun u19 => if u19 = 0 then (xl (oq_sub (ty_T (u9 49 12)) 8) fun v20 => xl (Int.tdiv v20 2) fun v21 => rd_A 9000 168 e r2 fun v23 => mx_sv (qf_X13_memberOf nn v21 v23 0 r2) fun u25 => if ¬ u25 = (-1) then (qj_X13_field_151 nn e u25 r2) else (rd_A 9000 168 e r2 fun v27 => mx_sv (qf_X13_wrong nn 5 v27 r2) fun u29 => qj_X13_field_151 nn e u25 u29)) else (wr_A 9000 175 e (-1) r2 fun h32 => rd_A 9000 168 e h32 fun v35 => rd_A 3002 165 v35 h32 fun v36 => if ¬ v36 = 6 then (qj_X13_field_98 nn e h32) else (rd_A 9000 168 e h32 fun v39 => rd_A 3002 164 v39 h32 fun v40 => mx_sv (qf_X13_among nn (1000000000 + 4) v40 6 h32) fun u42 => if ¬ u42 = 0 then (qj_X13_field_98 nn e h32) else (qj_X13_field_99 nn e 1 h32)))) else (qj_X13_field_27 nn e r2))) (fun y => ∀ z : ms_M, z = up_M y.2 174 e.toNat y.1 → (¬ z 160 9 = 0 → SFj u13 z) ∧ (z 160 9 = 0 → VDj X 0 a b p q e h r u13 (y.1, z) ∨ POk nn X 0 a b p q e h r u13 (y.1, z)))) → ∀ r2 : ms_M, r2 = up_M v1.2 160 57 (r 160 57) → Pc ((qg_X13_condition nn d2).2.2.2.1 e r2) (fun y => ∀ z : ms_M, z = up_M y.2 174 e.toNat y.1 → (¬ z 160 9 = 0 → SFj u13 z) ∧ (z 160 9 = 0 → VDj X 0 a b p q e h r u13 (y.1, z) ∨ POk nn X 0 a b p q e h r u13 (y.1, z))) := fun u13 HN r2 er2 => by
        have E2 : ∀ cc x : Nat, ¬ (cc = 160 ∧ x = 57) → r2 cc x = v1.2 cc x := fun cc x z => by rw [er2, up_n z]
        have B2 : BX X u9 r2 := bx_k B9 (fun _ _ _ => rfl) (fun cc x z => E2 cc x (by omega))
        have T2 := B2.2.2.2.2.2.1
        have a174 : r2 174 (bT X 170 e.toNat).toNat = ty_T (u9 49 12) := by rw [E2 174 _ (by omega), x8]; exact x6
        have hf : r2 160 9 = 0 := by rw [E2 160 9 (by omega)]; exact x5
        cases d2 with
        | zero => exact pc_none
        | succ d2 =>
          show Pc (qo_X13_rule nn (qg_X13_condition nn d2) e r2) _
          unfold qo_X13_rule
          refine pc_rA ?_; intro _ _ v83 e83
          rw [T2 167 e.toNat (by omega), nd.1] at e83
          rw [e83]
          refine pc_if (fun z => absurd z (by decide)) (fun _ => ?_)
          refine pc_if (fun z => absurd z (by decide)) (fun _ => ?_)
          refine pc_if (fun z => absurd z (by decide)) (fun _ => ?_)
          refine pc_if (fun z => absurd z (by decide)) (fun _ => ?_)
          refine pc_if (fun z => absurd z (by decide)) (fun _ => ?_)
          refine pc_if (fun z => absurd z (by decide)) (fun _ => ?_)
          refine pc_if (fun z => absurd z (by decide)) (fun _ => ?_)
          refine pc_if (fun z => absurd z (by decide)) (fun _ => ?_)
          refine pc_if (fun z => absurd z (by decide)) (fun _ => ?_)
          refine pc_if (fun z => absurd z (by decide)) (fun _ => ?_)
          refine pc_if (fun _ => ?_) (fun z => absurd rfl z)
          unfold qf_X13_field
          refine pc_sv (P := fun y => ∀ z : ms_M, z = up_M y.2 174 e.toNat y.1 → (¬ z 160 9 = 0 → SFj u13 z) ∧ (z 160 9 = 0 → VDj X 0 a b p q e h r u13 (y.1, z) ∨ POk nn X 0 a b p q e h r u13 (y.1, z))) ?_ (fun u164 q164 => pc_ret q164)
          refine pc_sv (r_ledv (X := X) hf (T2 170 e.toNat (by omega)) a174 (fun z => n303 ((ty_3 (X := X) n8 x7).mp z))) ?_; intro u16 q16
          rw [q16]
          dsimp only
          refine pc_if (fun _ => HN r2 er2 B2 hf T2) (fun z => absurd hf z)
      -- a FAULT on both sides
      have FLT : ∀ (u13 r2 z : ms_M) (k : Int) (tk : Nat) (y : Int × ms_M), (u13 2 11 = k ∧ u13 2 12 = bP X tk) → ¬ k = 0 → (y.2 160 9 = k ∧ y.2 160 10 = bP X tk) → z = up_M y.2 174 e.toNat y.1 → (¬ z 160 9 = 0 → SFj u13 z) ∧ (z 160 9 = 0 → VDj X 0 a b p q e h r u13 (y.1, z) ∨ POk nn X 0 a b p q e h r u13 (y.1, z)) := fun u13 r2 z k tk y s1 k0 s2 ez => by
        have z9 : z 160 9 = k := by rw [ez, up_n (by omega)]; exact s2.1
        have z10 : z 160 10 = bP X tk := by rw [ez, up_n (by omega)]; exact s2.2
        exact ⟨fun _ => ⟨by rw [s1.1]; exact k0, by rw [z9, s1.1], by rw [z10, s1.2]⟩, fun w => absurd (z9.symm.trans w) k0⟩
      -- wrong(6, three)
      have R27 : ∀ r2 : ms_M, BX X u9 r2 → r2 160 9 = 0 → Pc (qj_X13_field_27 nn e r2) (fun y => y.2 160 9 = 6 ∧ y.2 160 10 = bP X t) := fun r2 B2 hf => by
        unfold qj_X13_field_27
        refine pc_rA ?_; intro _ _ v12 e12
        rw [B2.2.2.2.2.2.1 172 e.toNat (by omega), nd.2.2] at e12
        refine pc_sv (r_wrong B2.1.1.2.2.1 tc hf e12) ?_; intro u14 w1
        exact pc_ret w1
      unfold qo_X10_readBehindPoint
      rw [x1]
      refine pc_add (by omega) ?_; intro v47 e47
      refine pc_sv (c_valueAt BK TB9 VL9 (t := t + 1) k2 (by omega)) ?_; intro u50 q50
      rw [q50]
      refine pc_add (by omega) ?_; intro v52 e52
      refine pc_sv (c_kindAt BK TB9 (t := t + 2) (by omega)) ?_; intro u54 q54
      refine pc_if (fun _ => ?_) (fun z => absurd (show ¬ u54 = 40 by omega) z)
      unfold qj_X10_readBehindPoint_40
      refine pc_sv c_arr2 ?_; intro u40 q40
      refine pc_if (fun z40 => ?_) (fun z40 => ?_)
      · -- an array
        have ar : 100 ≤ u9 49 12 ∧ u9 49 12 ≤ 200 := by omega
        unfold qj_X10_readBehindPoint_67 qj_X10_readBehindPoint_72
        refine pc_sub (by omega) ?_; intro v27 e27
        refine pc_sv c_want1 ?_; intro u29 q29
        rw [q29]
        refine pc_if (fun _ => ?_) (fun z => absurd rfl z)
        refine pc_se ?_; intro u33 _
        unfold qj_X10_readBehindPoint_112
        refine pc_if (fun z => absurd z z40) (fun _ => ?_)
        refine pc_if (fun z => absurd rfl z) (fun _ => ?_)
        -- the reference's side of length
        have RL : ∀ (r2 : ms_M) (QQ : Int × ms_M → Prop), BX X u9 r2 → r2 160 9 = 0 → ((bV X (t + 1) = 8 → QQ (0, up_M r2 175 e.toNat (-1))) ∧ (¬ bV X (t + 1) = 8 → ∀ w : ms_M, (w 160 9 = 5 ∧ w 160 10 = bP X (t + 1)) → QQ (0, w))) → Pc (if ty_T (u9 49 12) = 2 then (qj_X13_field_27 nn e r2) else (mx_sv (qf_X13_isThing nn (ty_T (u9 49 12)) r2) fun u18 => if ¬ u18 = 0 then (mx_sv (qf_X13_isArray nn (ty_T (u9 49 12)) r2) fun u19 => if u19 = 0 then (xl (oq_sub (ty_T (u9 49 12)) 8) fun v20 => xl (Int.tdiv v20 2) fun v21 => rd_A 9000 168 e r2 fun v23 => mx_sv (qf_X13_memberOf nn v21 v23 0 r2) fun u25 => if ¬ u25 = (-1) then (qj_X13_field_151 nn e u25 r2) else (rd_A 9000 168 e r2 fun v27 => mx_sv (qf_X13_wrong nn 5 v27 r2) fun u29 => qj_X13_field_151 nn e u25 u29)) else (wr_A 9000 175 e (-1) r2 fun h32 => rd_A 9000 168 e h32 fun v35 => rd_A 3002 165 v35 h32 fun v36 => if ¬ v36 = 6 then (qj_X13_field_98 nn e h32) else (rd_A 9000 168 e h32 fun v39 => rd_A 3002 164 v39 h32 fun v40 => mx_sv (qf_X13_among nn (1000000000 + 4) v40 6 h32) fun u42 => if ¬ u42 = 0 then (qj_X13_field_98 nn e h32) else (qj_X13_field_99 nn e 1 h32)))) else (qj_X13_field_27 nn e r2))) QQ := fun r2 QQ B2 hf HQ => by
          have T2 := B2.2.2.2.2.2.1
          have NR : NMr (bK X) (bV X) (bc X) r2 := B2.1.1.2.2.2.1
          obtain ⟨-, nr2, nr3, -, nr5⟩ := NR.1 (t + 1) t1c k2
          refine pc_if (fun z => absurd z (by omega)) (fun _ => ?_)
          refine pc_sv (r_isTh n8 x7) ?_; intro u18 q18
          refine pc_if (fun _ => ?_) (fun z => absurd (show ¬ u18 = 0 by omega) z)
          refine pc_sv (r_isArr n8 x7) ?_; intro u19 q19
          refine pc_if (fun z => absurd z (by omega)) (fun _ => ?_)
          refine pc_wA ?_; intro _ _ h32 e32
          have E3 : ∀ cc x : Nat, ¬ cc = 175 → h32 cc x = r2 cc x := fun cc x z => by rw [e32, up_n (by omega)]
          have TQ3 : TBq (bK X) (bP X) (bc X) h32 := tbq_f B2.1.1.2.2.1 (fun cc x z => E3 cc x (by omega))
          have R98 : ¬ bV X (t + 1) = 8 → Pc (qj_X13_field_98 nn e h32) QQ := fun n8' => by
            unfold qj_X13_field_98 qj_X13_field_99
            refine pc_if (fun z => absurd rfl z) (fun _ => ?_)
            refine pc_rA ?_; intro _ _ v7 e7
            rw [E3 168 _ (by omega), T2 168 e.toNat (by omega), nd.2.1] at e7
            refine pc_sv (r_wrong TQ3 t1c (by rw [E3 160 9 (by omega)]; exact hf) e7) ?_; intro u9' w1
            exact pc_ret (HQ.2 n8' u9' w1)
          refine pc_rA ?_; intro _ _ v35 e35
          rw [E3 168 _ (by omega), T2 168 e.toNat (by omega), nd.2.1] at e35
          refine pc_rA ?_; intro _ _ v36 e36
          rw [e35, Int.toNat_natCast, E3 165 _ (by omega)] at e36
          refine pc_if (fun z => R98 (fun y8 => z (e36.trans (nmr_len NR t1c k2 y8)))) (fun z => ?_)
          have w6 : r2 165 (t + 1) = 6 := e36.symm.trans (Classical.byContradiction z)
          refine pc_rA ?_; intro _ _ v39 e39
          rw [E3 168 _ (by omega), T2 168 e.toNat (by omega), nd.2.1] at e39
          refine pc_rA ?_; intro _ _ v40 e40
          rw [e39, Int.toNat_natCast, E3 164 _ (by omega)] at e40
          refine pc_sv (aq_c XT_4 (by omega) (by decide)) ?_; intro u42 q42
          have q42' := ams_k (fun k => E3 162 k (by omega)) q42
          rw [e40, ← w6] at q42'
          rcases nr5 u42 (by rw [w6] at q42' ⊢; exact q42') with ⟨s1, s2⟩ | ⟨s1, s2⟩
          · exact pc_if (fun _ => R98 s2) (fun y => absurd (show ¬ u42 = 0 by omega) y)
          · refine pc_if (fun y => absurd s1 y) (fun _ => ?_)
            unfold qj_X13_field_99
            refine pc_if (fun _ => pc_ret (by rw [e32]; exact HQ.1 s2)) (fun y => absurd (by decide) y)
        refine pc_if (fun z8 => ?_) (fun z8 => ?_)
        · -- its length
          unfold qj_X10_readBehindPoint_149
          refine pc_add (by omega) ?_; intro v2 e2
          refine pc_xl ?_; intro h3 e3
          rw [show v2 = ((t + 2 : Nat) : Int) by omega] at e3
          have E3 : ∀ cc x : Nat, ¬ (cc = 2 ∧ x = 10) → h3 cc x = u9 cc x := fun cc x z => by rw [e3, up_n z]
          refine pc_if (fun _ => ?_) (fun z => absurd rfl z)
          refine pc_if (fun z => absurd z z40) (fun _ => ?_)
          have l3 := E3 34 1 (by omega)
          have h33 := E3 34 3 (by omega)
          refine pc_sv (c_op (by omega)) ?_; intro u9' A1
          have h39 : u9' 34 3 = u9 34 3 := by rw [A1.2.2 34 3 (by omega) (by omega)]; exact h33
          refine pc_sv (c_pop (by omega) (by omega)) ?_; intro u12 A3
          have h12 : u12 34 3 = h 34 3 := by rw [A3.1, h39]; split <;> omega
          refine pc_sv (c_give (by omega)) ?_; intro u14 ⟨g8, CP, eu⟩
          have G12 : ∀ cc x : Nat, ¬ (cc = 34 ∧ (x = 1 ∨ x = 3)) → ¬ cc = 35 → ¬ (cc = 2 ∧ x = 10) → u12 cc x = u9 cc x := fun cc x z1 z2 z3 => by rw [A3.2 cc x (by omega), A1.2.2 cc x (by omega) (by omega)]; exact E3 cc x z3
          have l12 : u12 34 1 = u9 34 1 + 1 := by rw [A3.2 34 1 (by omega), A1.1]; omega
          have t11 : u14 49 11 = 0 := by rw [eu, up_s]
          have t12 : u14 49 12 = 301 := by rw [eu, up_n (by omega), up_s]
          have t3 : u14 34 3 = h 34 3 + 1 := by rw [eu, up_n (by omega), up_n (by omega), CP.1, h12]
          refine pc_ret (RULE u14 (fun r2 er2 B2 hf T2 => ?_))
          refine RL r2 _ B2 hf ⟨fun _ => ?_, fun y => absurd z8 y⟩
          intro z (ez : z = up_M (up_M r2 175 e.toNat (-1)) 174 e.toNat 0)
          have E2 : ∀ cc x : Nat, ¬ (cc = 160 ∧ x = 57) → r2 cc x = v1.2 cc x := fun cc x z => by rw [er2, up_n z]
          refine ⟨fun y => absurd (by rw [ez, up_n (by omega), up_n (by omega)]; exact hf) y, fun _ => .inr ?_⟩
          rw [hq]
          refine pok_give (t := 301) (g := u12) (v := up_M r2 175 e.toNat (-1)) Q ⟨t2c, by omega⟩ ne ?_ ?_ ?_ ?_ ?_ ?_ ?_ CP eu ⟨.inl rfl, by decide⟩ ?_ (by rw [up_n (by omega)]; exact hf) (by rw [ez]; rfl) ?_
          · exact cfe_t x9 (fun cc x a1 a2 a3 a4 a5 a6 a7 a8 => G12 cc x (by omega) (by omega) (by omega))
          · exact sgb_t x11 ⟨G12 49 10 (by omega) (by omega) (by omega), fun cc x z1 z2 z3 => G12 cc x (by omega) (by omega) (by omega)⟩
          · rw [A3.2 2 10 (by omega), A1.2.2 2 10 (by omega) (by omega), e3, up_s]
          · rw [G12 2 11 (by omega) (by omega) (by omega)]; exact x4
          · exact frc_k x12 (fun cc x z => G12 cc x (by omega) (by omega) (by omega))
          · omega
          · omega
          · refine ⟨fun cc x s1 s2 s3 => ?_, fun cc x s1 s2 s3 => ?_⟩
            · rw [up_n (by omega), E2 cc x (by omega), x10.1 cc x s1 s2 s3]; exact R1.1 cc x s1 s2 s3
            · rw [up_n (by omega), E2 cc x (by omega), x10.2 cc x s1 s2 (by omega)]; exact R1.2 cc x s1 s2 s3
          · refine ⟨.inr ⟨t11, by omega, by rw [t12]; decide⟩, fun _ => .inl ⟨by omega, by omega, fun _ => by rw [up_n (by omega), up_s]⟩, fun _ => ⟨⟨by rw [t12, if_neg (by decide)]; exact t3, top_g CP (by omega) eu⟩, ?_⟩⟩
            have M1 : MKC nn X (bT X 170 e.toNat) a e p t h h3 (up_M (up_M r2 175 e.toNat (-1)) 174 e.toNat (ty_T 301)) := mkc_v (mkc_w y2 (fun _ _ _ _ _ => rfl) (fun cc x s1 s2 s3 => E3 cc x (by omega)) (Nat.le_refl _) (Nat.le_refl _)) (fun cc x s1 s2 s3 s4 => by rw [up_n (by omega), up_n (by omega)]; exact E2 cc x (by omega))
            refine mkc_led (.inl (.inl nd.1)) ne M1 (by omega) (fun PB WL L m d M A z1 z2 => ?_)
            obtain ⟨MT, -, ⟨m1, m2, m3, m4⟩, -⟩ := mk_t M
            have a4 : m 174 e.toNat = 0 := by rw [A 174 e.toNat (by omega) (by omega) (by omega) (by omega), up_s]; rfl
            have a5 : m 175 e.toNat = -1 := by rw [A 175 e.toNat (by omega) (by omega) (by omega) (by omega), up_n (by omega), up_s]
            unfold qo_X13_workOne
            refine pc_rA ?_; intro _ _ v59 e59
            rw [a4] at e59
            refine pc_rA ?_; intro _ _ v61 e61
            rw [MT 167 e.toNat (by omega), nd.1] at e61
            rw [e59, e61]
            refine pc_if (fun z => absurd z (by decide)) (fun _ => ?_)
            refine pc_if (fun z => absurd z (by decide)) (fun _ => ?_)
            refine pc_if (fun z => absurd z (by decide)) (fun _ => ?_)
            refine pc_if (fun z => absurd z (by decide)) (fun _ => ?_)
            refine pc_if (fun z => absurd z (by decide)) (fun _ => ?_)
            refine pc_if (fun z => absurd z (by decide)) (fun _ => ?_)
            refine pc_if (fun z => absurd z (by decide)) (fun _ => ?_)
            refine pc_if (fun z => absurd z (by decide)) (fun _ => ?_)
            refine pc_if (fun z => absurd z (by decide)) (fun _ => ?_)
            refine pc_if (fun z => absurd z (by decide)) (fun _ => ?_)
            refine pc_if (fun _ => ?_) (fun z => absurd rfl z)
            refine pc_rA ?_; intro _ _ v159 e159
            rw [a5] at e159
            refine pc_if (fun z => absurd e159 z) (fun _ => ?_)
            refine pc_sv (r_put (by omega)) ?_; intro u175 b1
            unfold qj_X13_workOne_479
            have M2 := mk_op M A1 b1 (fun _ => rfl) (by unfold in_R; omega)
            refine pc_sv (m_turnG M2 A3 CP (by omega) (by omega) ⟨rfl, .inl rfl, by decide⟩ (by decide) eu) ?_; intro w5 ⟨M3, l5⟩
            exact pc_ret ⟨M3, by rw [l5, b1.2.2 160 88 (by omega) (by omega)]; omega⟩
        · -- no such field
          unfold qj_X10_readBehindPoint_140
          refine pc_sv (c_tell TB9 x4 t1c (by omega)) ?_; intro u22 ⟨s1, _⟩
          have S22 : ¬ u22 2 11 = 0 := by omega
          refine pc_imp (fs_qj_X10_readBehindPoint_149 G S22) (fun u F => RULE u (fun r2 er2 B2 hf T2 => ?_))
          refine RL r2 _ B2 hf ⟨fun y => absurd y z8, fun _ w hw => ?_⟩
          exact fun z ez => FLT u r2 z 5 (t + 1) (0, w) ⟨by rw [F.1]; exact s1.1, by rw [F.2]; exact s1.2⟩ (by decide) hw ez
      · -- no array
        have nar : ¬ (100 ≤ u9 49 12 ∧ u9 49 12 ≤ 200) := by omega
        refine pc_sv c_isCl ?_; intro u42 q42
        refine pc_if (fun z42 => ?_) (fun z42 => ?_)
        · -- neither: TYPE
          unfold qj_X10_readBehindPoint_72
          refine pc_sub (by omega) ?_; intro v27 e27
          refine pc_sv (c_want0 TB9 x4 tc (by omega)) ?_; intro u29 s1
          have S29 : ¬ u29 2 11 = 0 := by omega
          refine pc_if (fun _ => ?_) (fun z => absurd rfl z)
          refine pc_se ?_; intro u33 _
          refine pc_imp (fs_qj_X10_readBehindPoint_112 G S29) (fun u F => RULE u (fun r2 er2 B2 hf T2 => ?_))
          have FIN : Pc (qj_X13_field_27 nn e r2) (fun y => ∀ z : ms_M, z = up_M y.2 174 e.toNat y.1 → (¬ z 160 9 = 0 → SFj u z) ∧ (z 160 9 = 0 → VDj X 0 a b p q e h r u (y.1, z) ∨ POk nn X 0 a b p q e h r u (y.1, z))) := pc_imp (R27 r2 B2 hf) (fun y hy z ez => FLT u r2 z 6 t y ⟨by rw [F.1]; exact s1.1, by rw [F.2]; exact s1.2⟩ (by decide) hy ez)
          refine pc_if (fun _ => FIN) (fun z2 => ?_)
          refine pc_sv (r_isTh n8 x7) ?_; intro u18 q18
          refine pc_if (fun z => absurd z (by omega)) (fun _ => FIN)
        · -- a class
          have cl : 0 ≤ u9 49 12 ∧ u9 49 12 < 8 + (bn X : Int) := by omega
          unfold qj_X10_readBehindPoint_67 qj_X10_readBehindPoint_72
          refine pc_sub (by omega) ?_; intro v27 e27
          refine pc_sv c_want1 ?_; intro u29 q29
          rw [q29]
          refine pc_if (fun _ => ?_) (fun z => absurd rfl z)
          refine pc_se ?_; intro u33 e33
          unfold qj_X10_readBehindPoint_112
          have z40' : u40 = 0 := by omega
          refine pc_if (fun _ => ?_) (fun z => absurd z40' z)
          -- the reference looks it up, too
          have RC : ∀ (r2 : ms_M) (QQ : Int × ms_M → Prop), BX X u9 r2 → (∀ u25 : Int, LKR (bV X) (bM X) 0 (bV X (t + 1)) r2 u33 u25 → Pc (if ¬ u25 = (-1) then (qj_X13_field_151 nn e u25 r2) else (rd_A 9000 168 e r2 fun v27 => mx_sv (qf_X13_wrong nn 5 v27 r2) fun u29 => qj_X13_field_151 nn e u25 u29)) QQ) → Pc (if ty_T (u9 49 12) = 2 then (qj_X13_field_27 nn e r2) else (mx_sv (qf_X13_isThing nn (ty_T (u9 49 12)) r2) fun u18 => if ¬ u18 = 0 then (mx_sv (qf_X13_isArray nn (ty_T (u9 49 12)) r2) fun u19 => if u19 = 0 then (xl (oq_sub (ty_T (u9 49 12)) 8) fun v20 => xl (Int.tdiv v20 2) fun v21 => rd_A 9000 168 e r2 fun v23 => mx_sv (qf_X13_memberOf nn v21 v23 0 r2) fun u25 => if ¬ u25 = (-1) then (qj_X13_field_151 nn e u25 r2) else (rd_A 9000 168 e r2 fun v27 => mx_sv (qf_X13_wrong nn 5 v27 r2) fun u29 => qj_X13_field_151 nn e u25 u29)) else (wr_A 9000 175 e (-1) r2 fun h32 => rd_A 9000 168 e h32 fun v35 => rd_A 3002 165 v35 h32 fun v36 => if ¬ v36 = 6 then (qj_X13_field_98 nn e h32) else (rd_A 9000 168 e h32 fun v39 => rd_A 3002 164 v39 h32 fun v40 => mx_sv (qf_X13_among nn (1000000000 + 4) v40 6 h32) fun u42 => if ¬ u42 = 0 then (qj_X13_field_98 nn e h32) else (qj_X13_field_99 nn e 1 h32)))) else (qj_X13_field_27 nn e r2))) QQ := fun r2 QQ B2 HQ => by
            have T2 := B2.2.2.2.2.2.1
            refine pc_if (fun z => absurd z (by omega)) (fun _ => ?_)
            refine pc_sv (r_isTh n8 x7) ?_; intro u18 q18
            refine pc_if (fun _ => ?_) (fun z => absurd (show ¬ u18 = 0 by omega) z)
            refine pc_sv (r_isArr n8 x7) ?_; intro u19 q19
            refine pc_if (fun _ => ?_) (fun z => absurd (show u19 = 0 by omega) z)
            refine pc_sub (by omega) ?_; intro v20 e20
            refine pc_xl ?_; intro v21 e21
            have d2 : v21 = u9 49 12 := by rw [e21, Int.tdiv_eq_ediv_of_nonneg (by omega)]; omega
            rw [d2]
            refine pc_rA ?_; intro _ _ v23 e23
            rw [T2 168 e.toNat (by omega), nd.2.1] at e23
            rw [e23]
            refine pc_sv (j_fieldOf (nn := nn) BK SK B2.1 (t := t + 1) k2 (a := u9 49 12) (by omega) u33 e33) ?_; intro u25 q25
            exact HQ u25 q25
          refine pc_if (fun z33 => ?_) (fun z33 => ?_)
          · -- found
            unfold qj_X10_readBehindPoint_149
            refine pc_add (by omega) ?_; intro v2 e2
            refine pc_xl ?_; intro h3 e3
            rw [show v2 = ((t + 2 : Nat) : Int) by omega] at e3
            have E3 : ∀ cc x : Nat, ¬ (cc = 2 ∧ x = 10) → h3 cc x = u9 cc x := fun cc x z => by rw [e3, up_n z]
            refine pc_if (fun _ => ?_) (fun z => absurd rfl z)
            refine pc_if (fun _ => ?_) (fun z => absurd z40' z)
            rw [E3 49 12 (by omega)]
            refine pc_sv c_nmG ?_; intro u6 ⟨⟨n1, n2, n3, n4'⟩, n5⟩
            have N5 : ∀ cc x : Nat, ¬ (cc = 49 ∧ (x = 11 ∨ x = 12 ∨ x = 13 ∨ x = 14)) → ¬ (cc = 2 ∧ x = 10) → u6 cc x = u9 cc x := fun cc x z1 z2 => by rw [n5 cc x z1]; exact E3 cc x z2
            refine pc_ret (RULE u6 (fun r2 er2 B2 hf T2 => ?_))
            have E2 : ∀ cc x : Nat, ¬ (cc = 160 ∧ x = 57) → r2 cc x = v1.2 cc x := fun cc x z => by rw [er2, up_n z]
            refine RC r2 _ B2 (fun u25 L => ?_)
            rcases L with ⟨y, -⟩ | ⟨j, k, j1, k8, ms, vn, y25, y33⟩
            · exact absurd y z33
            · obtain ⟨x96, ty1, ty2, ty3⟩ := fld_ty Y B2 j1 k8 ms y33
              have n4 := n4' x96
              obtain ⟨MX, -, -⟩ := mbx_of B2 (.inl rfl) j1 k8 ms y33
              refine pc_if (fun _ => ?_) (fun z => absurd (show ¬ u25 = -1 by omega) z)
              unfold qj_X13_field_151
              refine pc_wA ?_; intro _ _ h2 e2'
              refine pc_if (fun _ => ?_) (fun z => absurd (show ¬ u25 = -1 by omega) z)
              refine pc_rA ?_; intro _ _ v4 e4
              rw [y25, Int.toNat_natCast, e2', up_n (by omega), ty1] at e4
              have t12 : u6 49 12 = u9 19 u33.toNat := by rw [n4]; exact E3 19 _ (by omega)
              refine pc_ret (fun z (ez : z = up_M h2 174 e.toNat v4) => ?_)
              have z9 : z 160 9 = 0 := by rw [ez, up_n (by omega), e2', up_n (by omega)]; exact hf
              refine ⟨fun y => absurd z9 y, fun _ => .inr ?_⟩
              rw [hq]
              have l1 := N5 34 1 (by omega) (by omega)
              have l3 := N5 34 3 (by omega) (by omega)
              have RR : RFe a b r z := by
                refine ⟨fun cc x s1 s2 s3 => ?_, fun cc x s1 s2 s3 => ?_⟩
                · rw [ez, up_n (by omega), e2', up_n (by omega), E2 cc x (by omega), x10.1 cc x s1 s2 s3]; exact R1.1 cc x s1 s2 s3
                · rw [ez, up_n (by omega), e2', up_n (by omega), E2 cc x (by omega), x10.2 cc x s1 s2 (by omega)]; exact R1.2 cc x s1 s2 s3
              refine ⟨⟨?_, t2c, by omega, ?_, z9⟩, ⟨?_, ?_, ?_⟩, ⟨?_, RR, ?_⟩, ⟨?_, by omega, by omega⟩, .inr (.inr (.inl ⟨⟨n1, rfl, by rw [n2]; exact cl, by rw [t12]; exact ty3⟩, ⟨?_, by omega, by omega⟩, .inr ⟨nd.1, r1, ?_, ?_⟩⟩))⟩
              · rw [n5 2 10 (by omega), e3, up_s]
              · rw [N5 2 11 (by omega) (by omega)]; exact x4
              · show v4 = ty_T (u6 49 12)
                rw [t12]; exact e4
              · rw [t12]; exact ty2
              · show z 174 e.toNat = v4
                rw [ez, up_s]
              · exact cfe_t x9 (fun cc x a1 a2 a3 a4 a5 a6 a7 a8 => N5 cc x (by omega) (by omega))
              · exact sgb_t x11 ⟨N5 49 10 (by omega) (by omega), fun cc x z1 z2 z3 => N5 cc x (by omega) (by omega)⟩
              · exact frc_k x12 (fun cc x z => N5 cc x (by omega) (by omega))
              · show MBx X 0 (u6 49 14) (z 175 e.toNat)
                rw [n3, ez, up_n (by omega), e2', up_s, y25]; exact MX
              · show z 174 _ = _
                rw [n2, ez, up_n (by omega), e2', up_n (by omega), E2 174 _ (by omega), x8]; exact x6
              · refine mkc_v (v1 := v1.2) (mkc_w y2 (fun _ _ _ _ _ => rfl) (fun cc x s1 s2 s3 => N5 cc x (by omega) (by omega)) (Nat.le_refl _) (by omega)) (fun cc x s1 s2 s3 s4 => ?_)
                show z cc x = _
                rw [ez, up_n (by omega), e2', up_n (by omega), E2 cc x (by omega)]
          · -- not found
            have u33' : u33 = -1 := Classical.byContradiction z33
            unfold qj_X10_readBehindPoint_140
            refine pc_sv (c_tell TB9 x4 t1c (by omega)) ?_; intro u22 ⟨s1, _⟩
            have S22 : ¬ u22 2 11 = 0 := by omega
            refine pc_imp (fs_qj_X10_readBehindPoint_149 G S22) (fun u F => RULE u (fun r2 er2 B2 hf T2 => ?_))
            refine RC r2 _ B2 (fun u25 L => ?_)
            have n25 : u25 = -1 := by
              rcases L with ⟨-, y⟩ | ⟨j, k, -, -, -, -, -, y⟩
              · exact y
              · exact absurd u33' (by omega)
            refine pc_if (fun z => absurd n25 z) (fun _ => ?_)
            refine pc_rA ?_; intro _ _ v27' e27'
            rw [T2 168 e.toNat (by omega), nd.2.1] at e27'
            refine pc_sv (r_wrong B2.1.1.2.2.1 t1c hf e27') ?_; intro u29' w1
            refine pc_imp (ft_qj_X13_field_151 (by omega)) (fun y F3 z ez => FLT u r2 z 5 (t + 1) y ⟨by rw [F.1]; exact s1.1, by rw [F.2]; exact s1.2⟩ (by decide) ⟨by rw [F3.1]; exact w1.1, by rw [F3.2]; exact w1.2⟩ ez)
end
end
section
/- a jump made to a boolean, both sides -/
def CTr (o k : Int) (h u : ms_M) : Prop := ∃ g1 g2 g3 g4 g5 g6 g7 g8 : ms_M, CJu o k h g1 ∧ CPu 302 g1 g2 ∧ COp 3 g2 g3 ∧ CJu 167 0 g3 g4 ∧ CPo 1 g4 g5 ∧ CAH (h 34 1) g5 g6 ∧ CPu 302 g6 g7 ∧ COp 4 g7 g8 ∧ CAH (g3 34 1) g8 u
section
variable {nn : Nat} {X : BCx} {dp i a b e o k : Int} {p q : Nat} {h g u r w m : ms_M} {PB : Nat → Prop} {WL : Int → Int → Prop} {L : List (Int × Int)}
theorem hs_no {f : Int} : ∀ L : List (Int × Int), (∀ i : Nat, i < L.length → (L.getD i (0, 0)).2 < f) → ¬ hs_L f L := by
  intro L
  induction L with
  | nil => exact fun _ z => z
  | cons x L ih =>
    intro H z
    rcases z with z | z
    · have q := H 0 (Nat.succ_pos _)
      have q2 : x.2 < f := q
      omega
    · exact ih (fun i hi => H (i + 1) (Nat.succ_lt_succ hi)) z
theorem c_truth (hk : 0 ≤ k ∧ k ≤ 2) (l1 : 0 ≤ h 34 1 ∧ h 34 1 ≤ 900000) (l3 : 0 ≤ h 34 3 ∧ h 34 3 ≤ 2999) (h7 : 0 ≤ h 34 7) (Fc : FRc h) : Pc (qf_X1_truth nn o k h) (fun u => CTr o k h u ∧ (u 34 1 = h 34 1 + 8 ∧ u 34 3 = (if k ≤ h 34 3 then h 34 3 - k else 0) + 1) ∧ FRc u ∧ ∀ cc x : Nat, ¬ (cc = 34 ∧ (x = 1 ∨ x = 3 ∨ x = 4 ∨ x = 14 ∨ x = 15)) → ¬ (cc = 35 ∨ cc = 36) → ¬ (40 ≤ cc ∧ cc ≤ 42) → u cc x = h cc x) := by
  unfold qf_X1_truth
  refine pc_sv (c_jump (by omega) (by omega) (by omega)) ?_; intro u2 ⟨a0, A1⟩
  have a1 := A1.1
  generalize hs : (if k ≤ h 34 3 then h 34 3 - k else 0) = sx
  have sb : 0 ≤ sx ∧ sx ≤ h 34 3 := by rw [← hs]; split <;> omega
  have a3 : u2.2 34 3 = sx := by rw [A1.2.1, ← hs]; split <;> split <;> omega
  have E1 : ∀ cc x : Nat, ¬ (cc = 34 ∧ (x = 1 ∨ x = 3)) → ¬ cc = 35 → u2.2 cc x = h cc x := fun cc x z1 z2 => A1.2.2.2 cc x z1 (by omega)
  refine pc_sv (c_push (by omega)) ?_; intro u4 A2
  have b3 := A2.1
  have E2 : ∀ cc x : Nat, ¬ (cc = 34 ∧ (x = 3 ∨ x = 4)) → ¬ cc = 36 → u4 cc x = u2.2 cc x := fun cc x z1 z2 => A2.2.2.2 cc x z1 (by omega)
  have b1 := E2 34 1 (by omega) (by omega)
  refine pc_sv (c_op (by omega)) ?_; intro u6 A3
  have c1 := A3.1
  have E3 : ∀ cc x : Nat, ¬ (cc = 34 ∧ x = 1) → ¬ cc = 35 → u6 cc x = u4 cc x := fun cc x z1 z2 => A3.2.2 cc x z1 (by omega)
  have c3 := E3 34 3 (by omega) (by omega)
  refine pc_sv (c_jump (by omega) (by omega) (by omega)) ?_; intro u8 ⟨d0, A4⟩
  have d1 := A4.1
  have d3 : u8.2 34 3 = u6 34 3 := by rw [A4.2.1]; split <;> omega
  have E4 : ∀ cc x : Nat, ¬ (cc = 34 ∧ (x = 1 ∨ x = 3)) → ¬ cc = 35 → u8.2 cc x = u6 cc x := fun cc x z1 z2 => A4.2.2.2 cc x z1 (by omega)
  refine pc_sv (c_pop (by omega) (by omega)) ?_; intro u10 A5
  have f3 : u10 34 3 = sx := by rw [A5.1, d3, c3, b3, a3]; split <;> omega
  have E5 := A5.2
  have f1 := E5 34 1 (by omega)
  have H10 : ∀ cc x : Nat, ¬ (cc = 34 ∧ (x = 1 ∨ x = 3 ∨ x = 4)) → ¬ (cc = 35 ∨ cc = 36) → u10 cc x = h cc x := fun cc x z1 z2 => by rw [E5 cc x (by omega), E4 cc x (by omega) (by omega), E3 cc x (by omega) (by omega), E2 cc x (by omega) (by omega), E1 cc x (by omega) (by omega)]
  have F10 : FRc u10 := frc_k Fc (fun cc x z => H10 cc x (by omega) (by omega))
  rw [a0]
  refine pc_sv (c_aimHere (by omega) (by omega) (by rw [H10 34 7 (by omega) (by omega)]; exact h7) (by omega) F10) ?_; intro u12 A6
  obtain ⟨F12, H12⟩ := cah_fr F10 A6
  have g1 := H12 34 1 (by omega) (by omega) (by omega)
  have g3 := H12 34 3 (by omega) (by omega) (by omega)
  refine pc_sv (c_push (by omega)) ?_; intro u14 A7
  have i3 := A7.1
  have E7 : ∀ cc x : Nat, ¬ (cc = 34 ∧ (x = 3 ∨ x = 4)) → ¬ cc = 36 → u14 cc x = u12 cc x := fun cc x z1 z2 => A7.2.2.2 cc x z1 (by omega)
  have i1 := E7 34 1 (by omega) (by omega)
  refine pc_sv (c_op (by omega)) ?_; intro u16 A8
  have j1 := A8.1
  have E8 : ∀ cc x : Nat, ¬ (cc = 34 ∧ x = 1) → ¬ cc = 35 → u16 cc x = u14 cc x := fun cc x z1 z2 => A8.2.2 cc x z1 (by omega)
  have j3 := E8 34 3 (by omega) (by omega)
  have H16 : ∀ cc x : Nat, ¬ (cc = 34 ∧ (x = 1 ∨ x = 3 ∨ x = 4 ∨ x = 14 ∨ x = 15)) → ¬ (cc = 35 ∨ cc = 36) → ¬ (40 ≤ cc ∧ cc ≤ 42) → u16 cc x = h cc x := fun cc x z1 z2 z3 => by rw [E8 cc x (by omega) (by omega), E7 cc x (by omega) (by omega), H12 cc x (by omega) z3 (by omega)]; exact H10 cc x (by omega) z2
  have F16 : FRc u16 := frc_k F12 (fun cc x z => by rw [E8 cc x (by omega) (by omega)]; exact E7 cc x (by omega) (by omega))
  refine pc_sv (c_aimHere (by omega) (by omega) (by rw [H16 34 7 (by omega) (by omega) (by omega)]; exact h7) (by omega) F16) ?_; intro u18 A9
  obtain ⟨F18, H18⟩ := cah_fr F16 A9
  rw [d0] at A9
  refine pc_ret ⟨⟨u2.2, u4, u6, u8.2, u10, u12, u14, u16, A1, A2, A3, A4, A5, A6, A7, A8, A9⟩, ⟨?_, ?_⟩, F18, fun cc x z1 z2 z3 => ?_⟩
  · rw [H18 34 1 (by omega) (by omega) (by omega)]; omega
  · rw [H18 34 3 (by omega) (by omega) (by omega)]; omega
  · rw [H18 cc x (by omega) z3 (by omega)]; exact H16 cc x z1 z2 z3
theorem m_truth (H : CTr o k h u) (M : MKx X PB WL L h m) (hk : 0 ≤ k ∧ k ≤ h 34 3) (ho : in_R o) (l1 : h 34 1 ≤ 900000) (l3 : h 34 3 ≤ 2999) (lb : m 160 88 ≤ 2100000000) : Pc (qf_X13_truth nn o k m) (fun w => MKx X PB WL L u w ∧ w 160 88 = m 160 88 + 2) := by
  obtain ⟨g1, g2, g3, g4, g5, g6, g7, g8, A1, A2, A3, A4, A5, A6, A7, A8, A9⟩ := H
  have M0 := M
  obtain ⟨-, -, ⟨m1, m2, m3, m4⟩, -⟩ := mk_t M
  have lb0 : 0 ≤ m 160 88 := M0.1.2.1.2.2.2.2
  have JB := M0.1.2.1.2
  have a1 := A1.1
  have a3 : g1 34 3 = h 34 3 - k := by rw [A1.2.1]; split <;> omega
  have b3 := A2.1
  have b1 : g2 34 1 = g1 34 1 := A2.2.2.2 34 1 (by omega) (by omega)
  have c1 := A3.1
  have c3 : g3 34 3 = g2 34 3 := A3.2.2 34 3 (by omega) (by omega)
  have d1 := A4.1
  have d3 : g4 34 3 = g3 34 3 := by rw [A4.2.1]; split <;> omega
  have f3 : g5 34 3 = h 34 3 - k := by rw [A5.1, d3, c3, b3, a3]; split <;> omega
  have f1 : g5 34 1 = g4 34 1 := A5.2 34 1 (by omega)
  unfold qf_X13_truth qf_X13_label
  -- two labels
  refine pc_sv (P := fun y => y = (m 160 88 + 1, up_M m 160 88 (m 160 88 + 1))) (pc_add (by omega) (fun v2 e2 => pc_xl (fun h3 e3 => pc_ret (by rw [e3, e2, up_s])))) ?_; intro u2 q2
  rw [q2]
  dsimp only
  have ML1 : MKx X PB WL L h (up_M m 160 88 (m 160 88 + 1)) := mk_lab M rfl
  rw [show up_M m 160 88 (m 160 88 + 1) 160 88 = m 160 88 + 1 from up_s]
  generalize hm1 : up_M m 160 88 (m 160 88 + 1) = w1 at *
  have s1 : w1 160 88 = m 160 88 + 1 := by rw [← hm1, up_s]
  refine pc_sv (P := fun y => y = (m 160 88 + 2, up_M w1 160 88 (w1 160 88 + 1))) (pc_add (by omega) (fun v2 e2 => pc_xl (fun h3 e3 => pc_ret (by rw [e3, e2, up_s, s1]; congr 1; omega)))) ?_; intro u4 q4
  rw [q4]
  dsimp only
  have ML2 : MKx X PB WL L h (up_M w1 160 88 (w1 160 88 + 1)) := mk_lab ML1 rfl
  generalize hm2 : up_M w1 160 88 (w1 160 88 + 1) = w2 at *
  have s2 : w2 160 88 = m 160 88 + 2 := by rw [← hm2, up_s, s1]; omega
  obtain ⟨-, -, ⟨n1, n2, n3, n4⟩, -⟩ := mk_t ML2
  refine pc_sub (by omega) ?_; intro v6 e6
  refine pc_xl ?_; intro h7 e7
  have x68 : h7 160 68 = w2 160 68 := by rw [e7, up_n (by omega)]
  refine pc_sv (r_jump (by omega)) ?_; intro w9 B1
  have MJ : MKx X PB WL (L ++ [(w2 160 68, m 160 88 + 1)]) g1 w9 := mk_jump ML2 A1 hk (by rw [e7, e6]) B1 ho (by omega)
  have t68 : w9 160 68 = w2 160 68 + 3 := by rw [B1.2.1, x68]
  have t88 : w9 160 88 = m 160 88 + 2 := by rw [B1.2.2.2.2.2.2 160 88 (by omega) (by omega) (by omega), e7, up_n (by omega)]; exact s2
  refine pc_sv (r_put (by omega)) ?_; intro u11 B2
  refine pc_sv r_push ?_; intro u13 B3
  have p13 : u13 160 70 = w9 160 70 + 1 := by rw [B3.2.1, B2.2.2 160 70 (by omega) (by omega)]
  have j70 := MJ.2.1.1
  refine pc_sub (by omega) ?_; intro v15 e15
  refine pc_xl ?_; intro h16 e16
  have y68 : h16 160 68 = w9 160 68 + 1 := by rw [e16, up_n (by omega), B3.2.2.2.2 160 68 (by omega) (by omega), B2.1]
  refine pc_sv (r_jump (by omega)) ?_; intro u18 B4
  -- all but the stack
  have K1 : MA (bK X) (bV X) (bC X) (bW X) (bn X) (bF X) (bo X) (bA X) (bB X) (bT X) PB WL (L ++ [(w2 160 68, m 160 88 + 1)]) g2 w9 := ma_c MJ.1 (fun cc x z => A2.2.2.2 cc x (by unfold RLc at z; omega) (by unfold RLc at z; omega)) (by rw [A2.2.1]; split <;> omega)
  have K2 := ma_op K1 A3 B2 (fun _ => rfl) (by unfold in_R; omega)
  have K3 := ma_r (w := h16) K2 (fun cc x z => by rw [e16, up_n (by unfold RLm at z; omega)]; exact B3.2.2.2.2 cc x (by unfold RLm at z; omega) (by unfold RLm at z; omega))
  have y88 : h16 160 88 = m 160 88 + 2 := by rw [e16, up_n (by omega), B3.2.2.2.2 160 88 (by omega) (by omega), B2.2.2 160 88 (by omega) (by omega)]; exact t88
  have K4 := ma_jump K3 A4 B4 (by unfold in_R; omega) (by rw [y88]; exact Int.le_refl _ : m 160 88 + 2 ≤ h16 160 88)
  have K5 := ma_c (g := g5) K4 (fun cc x z => A5.2 cc x (by unfold RLc at z; omega)) (by rw [A5.2 34 4 (by omega)]; exact Int.le_refl _)
  have SKJ1 := MJ.2
  have SK5 : SKJ (bn X) g5 u18 := by
    obtain ⟨⟨k1, k2, k3, k4⟩, k5⟩ := SKJ1
    have r70 : u18 160 70 = w9 160 70 := by rw [B4.2.2.2.2.2.2 160 70 (by omega) (by omega) (by omega), e16, up_s, e15, p13]; omega
    have r71 : u18 160 71 = if w9 160 71 < w9 160 70 + 1 then w9 160 70 + 1 else w9 160 71 := by rw [B4.2.2.2.2.2.2 160 71 (by omega) (by omega) (by omega), e16, up_n (by omega), B3.2.2.1, B2.2.2 160 70 (by omega) (by omega), B2.2.2 160 71 (by omega) (by omega)]
    have q4' : g5 34 4 = if g1 34 4 < g1 34 3 + 1 then g1 34 3 + 1 else g1 34 4 := by rw [A5.2 34 4 (by omega), A4.2.2.2 34 4 (by omega) (by omega), A3.2.2 34 4 (by omega) (by omega), A2.2.1]
    refine ⟨⟨by omega, by rw [q4', r71, k1, k2], by omega, by rw [q4']; split <;> omega⟩, fun ii hi h2 => ?_⟩
    rw [B4.2.2.2.2.2.2 207 ii (by omega) (by omega) (by omega), e16, up_n (by omega), B3.2.2.2.2 207 ii (by omega) (by rw [B2.2.2 160 70 (by omega) (by omega)]; omega), B2.2.2 207 ii (by omega) (by omega), A5.2 36 ii (by omega), A4.2.2.2 36 ii (by omega) (by omega), A3.2.2 36 ii (by omega) (by omega), A2.2.2.2 36 ii (by omega) (by omega)]
    exact k5 ii (by omega) h2
  have M5 : MKx X PB WL (L ++ [(w2 160 68, m 160 88 + 1)] ++ [(h16 160 68, m 160 88 + 2)]) g5 u18 := ⟨K5, SK5⟩
  have nL : ∀ f : Int, m 160 88 < f → ¬ hs_L f L := fun f hf => hs_no L (fun ii hi => by have := (JB.2.1 ii hi).2.2; omega)
  have z68 : u18 160 68 = g5 34 1 := (M5.1.1.1.1).symm
  refine pc_sv (mk_aim (A := L) (B := [(h16 160 68, m 160 88 + 2)]) (j := h 34 1) (f := m 160 88 + 1) M5 (by rw [List.append_assoc, ← n1]; rfl) (nL _ (by omega)) (fun z => by
    rcases z with z | z
    · have z2 : m 160 88 + 2 = m 160 88 + 1 := z
      omega
    · exact z) A6 rfl (by omega) (by omega)) ?_; intro u21 ⟨M6, F6, v6'⟩
  have o88 : u18 160 88 = m 160 88 + 2 := by rw [B4.2.2.2.2.2.2 160 88 (by omega) (by omega) (by omega)]; exact y88
  have M6' : MKx X PB WL (L ++ [(h16 160 68, m 160 88 + 2)]) g6 u21 := M6
  obtain ⟨-, -, ⟨w1', w2', w3', w4'⟩, -⟩ := mk_t M6'
  have A6f : g6 34 1 = g5 34 1 ∧ g6 34 3 = g5 34 3 := by
    obtain ⟨y1, y2, y3, CA, SL, FL⟩ := A6
    have FR := cah_fr (K5.2.2.1.1.1) ⟨y1, y2, y3, CA, SL, FL⟩
    exact ⟨FR.2 34 1 (by omega) (by omega) (by omega), FR.2 34 3 (by omega) (by omega) (by omega)⟩
  refine pc_sv (r_put (by omega)) ?_; intro u23 C1
  refine pc_sv r_push ?_; intro u25 C2
  have N1 := ma_c (g := g7) M6'.1 (fun cc x z => A7.2.2.2 cc x (by unfold RLc at z; omega) (by unfold RLc at z; omega)) (by rw [A7.2.1]; split <;> omega)
  have N2 := ma_op N1 A8 C1 (fun _ => rfl) (by unfold in_R; omega)
  have N3 := ma_r (w := u25) N2 (fun cc x z => C2.2.2.2.2 cc x (by unfold RLm at z; omega) (by unfold RLm at z; omega))
  have S1 : SKJ (bn X) g6 u23 := skj_k M6'.2 (fun _ _ _ => rfl) (fun cc x z => C1.2.2 cc x (by omega) (by omega))
  have S2 := sk_push S1 A7 C2 ⟨rfl, .inr (.inl rfl), by decide⟩
  have S3 : SKJ (bn X) g8 u25 := skj_k S2 (fun cc x z => A8.2.2 cc x (by omega) (by omega)) (fun _ _ _ => rfl)
  have M8 : MKx X PB WL (L ++ (h16 160 68, m 160 88 + 2) :: []) g8 u25 := ⟨N3, S3⟩
  have g83 : g8 34 3 = g6 34 3 + 1 := by rw [A8.2.2 34 3 (by omega) (by omega), A7.1]
  have g81 : g8 34 1 = g6 34 1 + 1 := by rw [A8.1, A7.2.2.2 34 1 (by omega) (by omega)]
  have j2 : g3 34 1 = h16 160 68 := by omega
  rw [j2] at A9
  refine pc_sv (mk_aim (A := L) (B := []) M8 rfl (nL _ (by omega)) (fun z => z) A9 rfl (by omega) (by omega)) ?_; intro u28 ⟨M9, F9, v9⟩
  rw [List.append_nil] at M9
  refine pc_ret ⟨M9, ?_⟩
  rw [v9, C2.2.2.2.2 160 88 (by omega) (by omega), C1.2.2 160 88 (by omega) (by omega), v6', o88]
end
end
section
/- E of both sides: signs ahead of a U -/
section
variable {nn : Nat} {X : BCx} {dp i a b e : Int} {p q : Nat} {h g u r w m : ms_M} {v : Int × ms_M}
theorem j_given2 {x : Option ms_M} (TQ : TBq (bK X) (bP X) (bc X) r) (T8 : ∀ cc y : Nat, 163 ≤ cc ∧ cc ≤ 173 → r cc y = bT X cc y) (n8 : bn X ≤ 8) (H : ∀ d2 : Nat, Pc x (fun u => Pc ((qg_X13_condition nn d2).2.2.1 e r) (fun v => (SFj u v.2 ∨ VDj X i a b p q e h r u v) ∨ EOk nn X i a b p q e h r u v))) (na : bK X q = 46 → ¬ h 49 18 = (p : Int)) : ∀ d2 : Nat, Pc x (fun u => Pc ((qg_X13_condition nn d2).2.1 e r) (fun v => SFj u v.2 ∨ (EOk nn X i a b p q e h r u v ∧ ¬ u 49 12 = 303 ∧ (¬ bK X q = 51 → FM01 nn X i a b p q e h u v.2)))) := by
  intro d2
  cases d2 with
  | zero => exact fun _ _ => pc_none
  | succ d2 =>
    refine pc_imp (H d2) (fun u Hu => ?_)
    show Pc (qo_X13_given nn (qg_X13_condition nn d2) e r) _
    unfold qo_X13_given
    refine pc_sv Hu ?_; intro u2 hv
    rcases hv with (S | S) | K
    · refine pc_if (fun _ => pc_ret (.inl S)) (fun _ => ?_)
      refine pc_rA ?_; intro _ _ v4 e4
      refine pc_sv (ft_qf_X13_wrong (sf_r S)) ?_; intro u6 F
      exact pc_ret (.inl (sf_k S fs_r F))
    · obtain ⟨⟨s1, s2, s3, s4⟩, ⟨s5, s6, s7⟩, s8⟩ := S
      refine pc_if (fun z => absurd s5 z) (fun _ => ?_)
      refine pc_rA ?_; intro _ _ v4 e4
      rw [s8.1 168 _ (by omega) (by omega) (by omega), T8 168 _ (by omega)] at e4
      have TQ2 : TBq (bK X) (bP X) (bc X) u2.2 := tbq_f TQ (fun cc y z => s8.1 cc y (by omega) (by omega) (by omega))
      refine pc_sv (r_wrong TQ2 (p := (bT X 168 e.toNat).toNat) (by omega) s6 (k := 6) (x := v4) (by omega)) ?_; intro u6 ⟨w1, w2⟩
      exact pc_ret (.inl ⟨by omega, by show u6 160 9 = _; omega, by show u6 160 10 = _; omega⟩)
    · have K0 := K
      obtain ⟨K, K15, KF⟩ := K
      have A18 : u 49 18 = h 49 18 := K.2.2.1.1 49 18 (by omega) (by omega) (by omega) (by omega) (by omega) (by omega) (by omega) (by omega)
      have n303 : ¬ u 49 12 = 303 := fun z => by
        rcases K.2.2.2.2 with F | F | F | F
        · rcases F.1 with ⟨-, -, -, y⟩ | ⟨-, -, y⟩
          · obtain ⟨y1, y2⟩ := y z
            exact na y1 (by rw [← A18]; exact y2)
          · exact y z
        · exact F.2.1.2.2.2.2 z
        · exact F.1.2.2.2 z
        · exact F.1.2.2.2 z
      have n3 : ¬ u2.1 = 3 := by
        rw [K.2.1.1]
        exact fun z => n303 ((ty_3 (X := X) n8 K.2.1.2.1).mp z)
      refine pc_if (fun _ => pc_ret (.inr ⟨K0, n303, fun n51 => ?_⟩)) (fun z => absurd n3 z)
      have := KF n51
      rcases K.2.2.2.2 with F | F | F | F
      · exact F
      · exact absurd F.1.1 (by omega)
      · exact absurd F.1.1 (by omega)
      · exact absurd F.1.1 (by omega)
/-- push and pop leave the stack as it was -/
theorem sk_touch {nC : Nat} {t : Int} {g1 g2 : ms_M} (S : SKJ nC h m) (A : CPu t h g1) (E : ∀ cc x : Nat, (cc = 34 ∧ (x = 3 ∨ x = 4)) ∨ cc = 36 → g2 cc x = g1 cc x) (B : CPo 1 g2 g) : g 34 3 = h 34 3 ∧ (g 34 4 = if h 34 4 < h 34 3 + 1 then h 34 3 + 1 else h 34 4) ∧ ∀ i : Nat, (i : Int) < h 34 3 → g 36 i = h 36 i := by
  have s3 := S.1.2.2.1
  refine ⟨?_, ?_, fun i hi => ?_⟩
  · rw [B.1, E 34 3 (by omega), A.1]; split <;> omega
  · rw [B.2 34 4 (by omega), E 34 4 (by omega), A.2.1]
  · rw [B.2 36 i (by omega), E 36 i (by omega), A.2.2.2 36 i (by omega) (by omega)]
/-- the end of closeUnary -/
theorem eok_un {t1 : Int} {u8 u10 : ms_M} {v1 : Int × ms_M} {ix : Int} (Y : CXs X) (Q : EPr X dp p h r) (ne : 0 ≤ a ∧ a ≤ e ∧ e < b) (nk : 33 ≤ bT X 167 e.toNat ∧ bT X 167 e.toNat ≤ 36) (E5 : ∀ cc x : Nat, ¬ (cc = 2 ∧ x = 10) → g cc x = h cc x) (pq : p + 1 < q) {p2 : Nat} (hp2 : p < p2) (K : POk nn X ix (e + 1) b p2 q (bT X 170 e.toNat) g r u8 v1) (U : ∀ cc x : Nat, ¬ (cc = 34 ∧ (x = 1 ∨ x = 3 ∨ x = 4 ∨ x = 14 ∨ x = 15)) → ¬ (cc = 35 ∨ cc = 36) → ¬ (40 ≤ cc ∧ cc ≤ 42) → ¬ (cc = 45 ∧ (x = 4 ∨ x = 5)) → ¬ (cc = 46 ∨ cc = 47) → ¬ (cc = 49 ∧ (x = 11 ∨ x = 12)) → u10 cc x = u8 cc x) (Fu : FRc u10) (l1 : u8 34 1 ≤ u10 34 1 ∧ u10 34 1 ≤ u8 34 1 + 10) (l3 : 0 ≤ u10 34 3 ∧ u10 34 3 ≤ u8 34 3 + 1) (f11 : u10 49 11 = 0) (f12 : u10 49 12 = t1) (vt : VTn (bn X) t1 ∧ ¬ t1 = 303) {vv z : ms_M} (R : RFe a b r vv) (v9 : vv 160 9 = 0) (ez : z = up_M vv 174 e.toNat (ty_T t1)) (MC : ¬ bK X q = 51 → (u10 34 3 = h 34 3 + 1 ∧ (u10 49 12 = 303 ∨ 20 < u10 34 3 ∨ u10 36 (u10 34 3 - 1).toNat = u10 49 12)) ∧ MKC nn X e a b p q h u10 z) : EOk nn X 0 a b p q e h r (up_M u10 49 15 (p : Int)) (ty_T t1, z) := by
  obtain ⟨⟨x1, x2, x3, x4, x5⟩, -, ⟨x9, x10, x11⟩, ⟨x12, x13, x14⟩, -⟩ := K
  rw [E5 34 1 (by omega)] at x13
  rw [E5 34 3 (by omega)] at x14
  have KP : POk nn X 0 a b p q e h r u10 (ty_T t1, z) := by
    refine ⟨⟨by rw [U 2 10 (by omega) (by omega) (by omega) (by omega) (by omega) (by omega)]; exact x1, x2, by omega, by rw [U 2 11 (by omega) (by omega) (by omega) (by omega) (by omega) (by omega)]; exact x4, ?_⟩, ⟨?_, ?_, ?_⟩, ⟨?_, ?_, ?_⟩, ⟨Fu, by omega, by omega⟩, .inl ⟨.inr ⟨f11, by omega, by rw [f12]; exact vt.2⟩, fun _ => .inl ⟨by omega, by omega, fun y => absurd y (by omega)⟩, fun n51 => ⟨⟨by rw [f12, if_neg vt.2]; exact (MC n51).1.1, (MC n51).1.2⟩, (MC n51).2⟩⟩⟩
    · show z 160 9 = 0
      rw [ez, up_n (by omega)]; exact v9
    · show ty_T t1 = ty_T (u10 49 12)
      rw [f12]
    · rw [f12]; exact vt.1
    · show z 174 e.toNat = ty_T t1
      rw [ez, up_s]
    · exact cfe_t (cfe_w x9 E5 (fun _ _ _ _ => rfl)) (fun cc x a1 a2 a3 a4 a5 a6 a7 a8 => U cc x (by omega) (by omega) (by omega) (by omega) (by omega) (by omega))
    · show RFe a b r z
      rw [ez]
      exact ⟨fun cc x z1 z2 z3 => by rw [up_n (by omega)]; exact R.1 cc x z1 z2 z3, fun cc x z1 z2 z3 => by rw [up_n (by omega)]; exact R.2 cc x z1 z2 z3⟩
    · refine ⟨by rw [U 49 10 (by omega) (by omega) (by omega) (by omega) (by omega) (by omega), x11.1]; exact E5 49 10 (by omega), fun cc x z1 z2 z3 => ?_⟩
      rw [U cc x (by omega) (by omega) (by omega) (by omega) (by omega) (by omega), x11.2 cc x z1 z2 (by rw [E5 49 10 (by omega)]; exact z3)]
      exact E5 cc x (by omega)
  exact ⟨pok_c KP (fun cc x z => up_n z), up_s, fun _ => .inl (by rw [up_n (by omega)]; exact f11)⟩
end
end
section
/- which row of rule, which row of workOne -/
section
variable {nn : Nat} {e : Int} {r m : ms_M}
theorem ru_26 {rc : tq_X13_condition} {Q : Int × ms_M → Prop} (k : r 167 e.toNat = 26) (H : Pc (rd_A 9000 168 e r fun v114 => mx_sv (qf_X13_memberOf nn (r 160 52) v114 1 r) fun u116 => wr_A 9000 175 e u116 r fun h117 => rd_A 9000 175 e h117 fun v119 => if ¬ v119 = (-1) then (if (h117 160 53) = 0 then (qj_X13_rule_216 nn rc e h117) else (rd_A 9000 175 e h117 fun v123 => rd_A 800 182 v123 h117 fun v124 => if ¬ v124 = 1 then (qj_X13_rule_216 nn rc e h117) else (rd_A 9000 168 e h117 fun v126 => mx_sv (qf_X13_wrong nn 7 v126 h117) fun u128 => qj_X13_rule_216 nn rc e u128))) else (rd_A 9000 168 e h117 fun v132 => mx_sv (qf_X13_wrong nn 5 v132 h117) fun u134 => qj_X13_rule_216 nn rc e u134)) Q) : Pc (qo_X13_rule nn rc e r) Q := by
  unfold qo_X13_rule
  refine pc_rA ?_; intro _ _ v83 e83
  rw [k] at e83
  rw [e83]
  iterate 6 refine pc_if (fun z => absurd z (by decide)) (fun _ => ?_)
  exact pc_if (fun _ => H) (fun z => absurd rfl z)
theorem ru_31 {rc : tq_X13_condition} {Q : Int × ms_M → Prop} (k : r 167 e.toNat = 31) (H : Pc (mx_sv (rc.2.2.2.2.2.1 e r) fun u166 => some (u166.1, u166.2)) Q) : Pc (qo_X13_rule nn rc e r) Q := by
  unfold qo_X13_rule
  refine pc_rA ?_; intro _ _ v83 e83
  rw [k] at e83
  rw [e83]
  iterate 11 refine pc_if (fun z => absurd z (by decide)) (fun _ => ?_)
  exact pc_if (fun _ => H) (fun z => absurd rfl z)
theorem ru_33 {rc : tq_X13_condition} {Q : Int × ms_M → Prop} (k : r 167 e.toNat = 33) (H : Pc (qj_X13_rule_416 nn rc e r) Q) : Pc (qo_X13_rule nn rc e r) Q := by
  unfold qo_X13_rule
  refine pc_rA ?_; intro _ _ v83 e83
  rw [k] at e83
  rw [e83]
  iterate 13 refine pc_if (fun z => absurd z (by decide)) (fun _ => ?_)
  exact pc_if (fun _ => H) (fun z => absurd rfl z)
theorem ru_34 {rc : tq_X13_condition} {Q : Int × ms_M → Prop} (k : r 167 e.toNat = 34) (H : Pc (rd_A 9000 170 e r fun v177 => mx_sv (rc.1 v177 r) fun u179 => some (1, u179)) Q) : Pc (qo_X13_rule nn rc e r) Q := by
  unfold qo_X13_rule
  refine pc_rA ?_; intro _ _ v83 e83
  rw [k] at e83
  rw [e83]
  iterate 14 refine pc_if (fun z => absurd z (by decide)) (fun _ => ?_)
  exact pc_if (fun _ => H) (fun z => absurd rfl z)
theorem ru_35 {rc : tq_X13_condition} {Q : Int × ms_M → Prop} (k : r 167 e.toNat = 35) (H : Pc (qj_X13_rule_416 nn rc e r) Q) : Pc (qo_X13_rule nn rc e r) Q := by
  unfold qo_X13_rule
  refine pc_rA ?_; intro _ _ v83 e83
  rw [k] at e83
  rw [e83]
  iterate 15 refine pc_if (fun z => absurd z (by decide)) (fun _ => ?_)
  exact pc_if (fun _ => H) (fun z => absurd rfl z)
theorem ru_36 {rc : tq_X13_condition} {Q : Int × ms_M → Prop} (k : r 167 e.toNat = 36) (H : Pc (qj_X13_rule_455 nn rc e r) Q) : Pc (qo_X13_rule nn rc e r) Q := by
  unfold qo_X13_rule
  refine pc_rA ?_; intro _ _ v83 e83
  rw [k] at e83
  rw [e83]
  iterate 16 refine pc_if (fun z => absurd z (by decide)) (fun _ => ?_)
  exact pc_if (fun _ => H) (fun z => absurd rfl z)
theorem ru_37 {rc : tq_X13_condition} {Q : Int × ms_M → Prop} (k : r 167 e.toNat = 37) (H : Pc (mx_sv (rc.2.2.2.2.1 e r) fun u181 => some (u181.1, u181.2)) Q) : Pc (qo_X13_rule nn rc e r) Q := by
  unfold qo_X13_rule
  refine pc_rA ?_; intro _ _ v83 e83
  rw [k] at e83
  rw [e83]
  iterate 17 refine pc_if (fun z => absurd z (by decide)) (fun _ => ?_)
  exact pc_if (fun _ => H) (fun z => absurd rfl z)
theorem ru_38 {rc : tq_X13_condition} {Q : Int × ms_M → Prop} (k : r 167 e.toNat = 38) (H : Pc (qj_X13_rule_455 nn rc e r) Q) : Pc (qo_X13_rule nn rc e r) Q := by
  unfold qo_X13_rule
  refine pc_rA ?_; intro _ _ v83 e83
  rw [k] at e83
  rw [e83]
  iterate 18 refine pc_if (fun z => absurd z (by decide)) (fun _ => ?_)
  exact pc_if (fun _ => H) (fun z => absurd rfl z)
theorem ru_39 {rc : tq_X13_condition} {Q : Int × ms_M → Prop} (k : r 167 e.toNat = 39) (H : Pc (rd_A 9000 170 e r fun v85 => mx_sv (rc.1 v85 r) fun u87 => rd_A 9000 171 e u87 fun v89 => mx_sv (rc.2.1 v89 u87) fun u91 => rd_A 9000 172 e u91.2 fun v93 => mx_sv (rc.2.1 v93 u91.2) fun u95 => mx_sv (qf_X13_goTogether nn u91.1 u95.1 u95.2) fun u97 => if ¬ u97 = 0 then (qj_X13_rule_657 nn rc u91.1 u95.1 u95.2) else (rd_A 9000 168 e u95.2 fun v99 => mx_sv (qf_X13_wrong nn 6 v99 u95.2) fun u101 => qj_X13_rule_657 nn rc u91.1 u95.1 u101)) Q) : Pc (qo_X13_rule nn rc e r) Q := by
  unfold qo_X13_rule
  refine pc_rA ?_; intro _ _ v83 e83
  rw [k] at e83
  rw [e83]
  iterate 19 refine pc_if (fun z => absurd z (by decide)) (fun _ => ?_)
  exact H
theorem wo_26 {rc : tq_X13_work} {t : Int} {Q : ms_M → Prop} (k : m 167 e.toNat = 26) (g : m 174 e.toNat = t) (H : Pc (rd_A 9000 175 e m fun v124 => rd_A 800 182 v124 m fun v125 => if ¬ v125 = 2 then (qj_X13_workOne_259 nn rc e 0 m) else (qj_X13_workOne_259 nn rc e 1 m)) Q) : Pc (qo_X13_workOne nn rc e m) Q := by
  unfold qo_X13_workOne
  refine pc_rA ?_; intro _ _ v59 e59
  refine pc_rA ?_; intro _ _ v61 e61
  rw [g] at e59
  rw [k] at e61
  rw [e59, e61]
  iterate 6 refine pc_if (fun z => absurd z (by decide)) (fun _ => ?_)
  exact pc_if (fun _ => H) (fun z => absurd rfl z)
theorem wo_31 {rc : tq_X13_work} {t : Int} {Q : ms_M → Prop} (k : m 167 e.toNat = 31) (g : m 174 e.toNat = t) (H : Pc (rd_A 9000 176 e m fun v178 => if ¬ v178 = (-1) then (rd_A 9000 176 e m fun v180 => qj_X13_workOne_316 nn rc e v180 e m) else (rd_A 9000 170 e m fun v183 => rd_A 9000 174 v183 m fun v184 => xl (oq_sub v184 8) fun v185 => xl (Int.tdiv v185 2) fun v186 => qj_X13_workOne_316 nn rc e v186 e m)) Q) : Pc (qo_X13_workOne nn rc e m) Q := by
  unfold qo_X13_workOne
  refine pc_rA ?_; intro _ _ v59 e59
  refine pc_rA ?_; intro _ _ v61 e61
  rw [g] at e59
  rw [k] at e61
  rw [e59, e61]
  iterate 11 refine pc_if (fun z => absurd z (by decide)) (fun _ => ?_)
  exact pc_if (fun _ => H) (fun z => absurd rfl z)
theorem wo_33 {rc : tq_X13_work} {t : Int} {Q : ms_M → Prop} (k : m 167 e.toNat = 33) (g : m 174 e.toNat = t) (H : Pc (rd_A 9000 170 e m fun v194 => mx_sv (rc.1 v194 m) fun u196 => mx_sv (qf_X13_put nn 116 u196) fun u198 => some u198) Q) : Pc (qo_X13_workOne nn rc e m) Q := by
  unfold qo_X13_workOne
  refine pc_rA ?_; intro _ _ v59 e59
  refine pc_rA ?_; intro _ _ v61 e61
  rw [g] at e59
  rw [k] at e61
  rw [e59, e61]
  iterate 13 refine pc_if (fun z => absurd z (by decide)) (fun _ => ?_)
  exact pc_if (fun _ => H) (fun z => absurd rfl z)
theorem wo_34 {rc : tq_X13_work} {t : Int} {Q : ms_M → Prop} (k : m 167 e.toNat = 34) (g : m 174 e.toNat = t) (H : Pc (rd_A 9000 170 e m fun v200 => mx_sv (rc.1 v200 m) fun u202 => mx_sv (qf_X13_truth nn 153 1 u202) fun u204 => some u204) Q) : Pc (qo_X13_workOne nn rc e m) Q := by
  unfold qo_X13_workOne
  refine pc_rA ?_; intro _ _ v59 e59
  refine pc_rA ?_; intro _ _ v61 e61
  rw [g] at e59
  rw [k] at e61
  rw [e59, e61]
  iterate 14 refine pc_if (fun z => absurd z (by decide)) (fun _ => ?_)
  exact pc_if (fun _ => H) (fun z => absurd rfl z)
theorem wo_35 {rc : tq_X13_work} {t : Int} {Q : ms_M → Prop} (k : m 167 e.toNat = 35) (g : m 174 e.toNat = t) (H : Pc (rd_A 9000 170 e m fun v206 => mx_sv (rc.1 v206 m) fun u208 => mx_sv (qf_X13_put nn 2 u208) fun u210 => mx_sv (qf_X13_push nn 0 u210) fun u212 => mx_sv (qf_X13_put nn 130 u212) fun u214 => mx_sv (qf_X13_turn nn 2 0 u214) fun u216 => some u216) Q) : Pc (qo_X13_workOne nn rc e m) Q := by
  unfold qo_X13_workOne
  refine pc_rA ?_; intro _ _ v59 e59
  refine pc_rA ?_; intro _ _ v61 e61
  rw [g] at e59
  rw [k] at e61
  rw [e59, e61]
  iterate 15 refine pc_if (fun z => absurd z (by decide)) (fun _ => ?_)
  exact pc_if (fun _ => H) (fun z => absurd rfl z)
theorem wo_36 {rc : tq_X13_work} {t : Int} {Q : ms_M → Prop} (k : m 167 e.toNat = 36) (g : m 174 e.toNat = t) (H : Pc (qj_X13_workOne_588 nn rc e t m) Q) : Pc (qo_X13_workOne nn rc e m) Q := by
  unfold qo_X13_workOne
  refine pc_rA ?_; intro _ _ v59 e59
  refine pc_rA ?_; intro _ _ v61 e61
  rw [g] at e59
  rw [k] at e61
  rw [e59, e61]
  iterate 16 refine pc_if (fun z => absurd z (by decide)) (fun _ => ?_)
  exact pc_if (fun _ => H) (fun z => absurd rfl z)
theorem wo_37 {rc : tq_X13_work} {t : Int} {Q : ms_M → Prop} (k : m 167 e.toNat = 37) (g : m 174 e.toNat = t) (H : Pc (mx_sv (rc.2.2.2 e m) fun u218 => some u218) Q) : Pc (qo_X13_workOne nn rc e m) Q := by
  unfold qo_X13_workOne
  refine pc_rA ?_; intro _ _ v59 e59
  refine pc_rA ?_; intro _ _ v61 e61
  rw [g] at e59
  rw [k] at e61
  rw [e59, e61]
  iterate 17 refine pc_if (fun z => absurd z (by decide)) (fun _ => ?_)
  exact pc_if (fun _ => H) (fun z => absurd rfl z)
theorem wo_38 {rc : tq_X13_work} {t : Int} {Q : ms_M → Prop} (k : m 167 e.toNat = 38) (g : m 174 e.toNat = t) (H : Pc (qj_X13_workOne_588 nn rc e t m) Q) : Pc (qo_X13_workOne nn rc e m) Q := by
  unfold qo_X13_workOne
  refine pc_rA ?_; intro _ _ v59 e59
  refine pc_rA ?_; intro _ _ v61 e61
  rw [g] at e59
  rw [k] at e61
  rw [e59, e61]
  iterate 18 refine pc_if (fun z => absurd z (by decide)) (fun _ => ?_)
  exact pc_if (fun _ => H) (fun z => absurd rfl z)
theorem wo_39 {rc : tq_X13_work} {t : Int} {Q : ms_M → Prop} (k : m 167 e.toNat = 39) (g : m 174 e.toNat = t) (H : Pc (mx_sv (qf_X13_label nn m) fun u63 => mx_sv (qf_X13_label nn u63.2) fun u65 => rd_A 9000 170 e u65.2 fun v67 => mx_sv (rc.1 v67 u65.2) fun u69 => xl (oq_sub (u69 160 70) 1) fun v71 => xl (up_M u69 160 70 v71) fun h72 => mx_sv (qf_X13_jump nn 153 u63.1 h72) fun u74 => rd_A 9000 171 e u74 fun v76 => mx_sv (rc.1 v76 u74) fun u78 => xl (oq_sub (u78 160 70) 1) fun v80 => xl (up_M u78 160 70 v80) fun h81 => mx_sv (qf_X13_jump nn 167 u65.1 h81) fun u83 => mx_sv (qf_X13_stands nn u63.1 (u83 160 68) u83) fun u86 => rd_A 9000 172 e u86 fun v88 => mx_sv (rc.1 v88 u86) fun u90 => xl (oq_sub (u90 160 70) 1) fun v92 => xl (up_M u90 160 70 v92) fun h93 => mx_sv (qf_X13_push nn t h93) fun u95 => mx_sv (qf_X13_stands nn u65.1 (u95 160 68) u95) fun u98 => qj_X13_workOne_775 nn rc u98) Q) : Pc (qo_X13_workOne nn rc e m) Q := by
  unfold qo_X13_workOne
  refine pc_rA ?_; intro _ _ v59 e59
  refine pc_rA ?_; intro _ _ v61 e61
  rw [g] at e59
  rw [k] at e61
  rw [e59, e61]
  iterate 19 refine pc_if (fun z => absurd z (by decide)) (fun _ => ?_)
  exact H
end
end
section
/- E of both sides: - ! ~ ahead of a U -/
section
variable {nn : Nat} {X : BCx} {dp i a b e : Int} {p q : Nat} {h g u r w m : ms_M} {v : Int × ms_M}
theorem p2_x {α β γ : Type} {x : α} {F : α → Option β} {G : β → Option γ} {Q : γ → Prop} (H : ∀ z : α, z = x → Pc (mx_sv (F z) G) Q) : Pc (mx_sv (xl x F) G) Q := H x rfl
theorem p2_m {α β γ : Type} {x : Option α} {F : α → Option β} {G : β → Option γ} {Q : γ → Prop} (H : Pc x (fun a => Pc (mx_sv (F a) G) Q)) : Pc (mx_sv (mx_sv x F) G) Q := by
  cases hx : x with
  | none => exact fun r e => nomatch e
  | some a => exact H a hx
/-- ~ on both sides: push, two bytes, pop against put, push, put, turn -/
theorem m_tilde {PB : Nat → Prop} {WL : Int → Int → Prop} {L : List (Int × Int)} {g1 g2 g3 g4 : ms_M} (M : MKx X PB WL L h m) (A1 : CPu 301 h g1) (A2 : COp 2 g1 g2) (A3 : COp 130 g2 g3) (A4 : CPo 1 g3 g4) (h1 : 1 ≤ h 34 3 ∧ h 34 3 ≤ 2999) (l1 : h 34 1 ≤ 900000) (top : 20 < h 34 3 ∨ h 36 (h 34 3 - 1).toNat = 301) : Pc (mx_sv (qf_X13_put nn 2 m) fun u210 => mx_sv (qf_X13_push nn 0 u210) fun u212 => mx_sv (qf_X13_put nn 130 u212) fun u214 => mx_sv (qf_X13_turn nn 2 0 u214) fun u216 => some u216) (fun w => MKx X PB WL L g4 w ∧ w 160 88 = m 160 88) := by
  obtain ⟨-, -, ⟨m1, m2, m3, m4⟩, -⟩ := mk_t M
  refine pc_sv (r_put (by omega)) ?_; intro w1 B1
  refine pc_sv r_push ?_; intro w2 B2
  have p1 : w1 160 70 = m 160 70 := B1.2.2 160 70 (by omega) (by omega)
  have p2 : w2 160 70 = m 160 70 + 1 := by rw [B2.2.1, p1]
  refine pc_sv (r_put (by rw [B2.2.2.2.2 160 68 (by omega) (by omega), B1.1]; omega)) ?_; intro w3 B3
  have p3 : w3 160 70 = m 160 70 + 1 := by rw [B3.2.2 160 70 (by omega) (by omega)]; exact p2
  unfold qf_X13_turn
  refine pc_sv (P := fun w => MKx X PB WL L g4 w ∧ w 160 88 = m 160 88) ?_ (fun u216 q => pc_ret q)
  refine pc_sub (by omega) ?_; intro v2 e2
  refine pc_xl ?_; intro h3 e3
  refine pc_if (fun z => absurd z (by decide)) (fun _ => ?_)
  refine pc_sv r_push ?_; intro w5 B5
  have p4 : h3 160 70 = m 160 70 - 1 := by rw [e3, up_s, e2, p3]; omega
  have K1 := ma_c (g := g1) M.1 (fun cc x z => A1.2.2.2 cc x (by unfold RLc at z; omega) (by unfold RLc at z; omega)) (by rw [A1.2.1]; split <;> omega)
  have K2 := ma_op K1 A2 B1 (fun _ => rfl) (by unfold in_R; omega)
  have K3 := ma_r (w := w2) K2 (fun cc x z => B2.2.2.2.2 cc x (by unfold RLm at z; omega) (by unfold RLm at z; omega))
  have K4 := ma_op K3 A3 B3 (fun _ => rfl) (by unfold in_R; omega)
  have K5 := ma_r (w := w5) K4 (fun cc x z => by rw [B5.2.2.2.2 cc x (by unfold RLm at z; omega) (by unfold RLm at z; omega), e3, up_n (by unfold RLm at z; omega)])
  have K6 := ma_c (g := g4) K5 (fun cc x z => A4.2 cc x (by unfold RLc at z; omega)) (by rw [A4.2 34 4 (by omega)]; exact Int.le_refl _)
  obtain ⟨t1, t2, t3⟩ := sk_touch M.2 A1 (g2 := g3) (fun cc x z => by rw [A3.2.2 cc x (by omega) (by omega), A2.2.2 cc x (by omega) (by omega)]) A4
  obtain ⟨⟨k1, k2, k3, k4⟩, k5⟩ := M.2
  have r70 : w5 160 70 = m 160 70 := by rw [B5.2.1, p4]; omega
  have q71 : w2 160 71 = if m 160 71 < m 160 70 + 1 then m 160 70 + 1 else m 160 71 := by rw [B2.2.2.1, p1, B1.2.2 160 71 (by omega) (by omega)]
  have r71 : w5 160 71 = if m 160 71 < m 160 70 + 1 then m 160 70 + 1 else m 160 71 := by
    rw [B5.2.2.1, p4, e3, up_n (by omega), B3.2.2 160 71 (by omega) (by omega), q71]
    split <;> split <;> omega
  refine pc_ret ⟨⟨K6, ⟨by omega, by rw [t2, r71, k1, k2], by omega, by rw [t2]; split <;> omega⟩, fun ii hi h2 => ?_⟩, ?_⟩
  · rw [t1] at hi
    rw [t3 ii hi]
    by_cases z : (ii : Int) = h 34 3 - 1
    · have ei : ii = (h3 160 70).toNat := by omega
      rw [ei, B5.2.2.2.1]
      rcases top with y | y
      · omega
      · rw [show (h3 160 70).toNat = (h 34 3 - 1).toNat by omega, y]; exact ⟨rfl, .inl rfl, by decide⟩
    · rw [B5.2.2.2.2 207 ii (by omega) (by omega), e3, up_n (by omega), B3.2.2 207 ii (by omega) (by omega), B2.2.2.2.2 207 ii (by omega) (by omega), B1.2.2 207 ii (by omega) (by omega)]
      exact k5 ii hi h2
  · rw [B5.2.2.2.2 160 88 (by omega) (by omega), e3, up_n (by omega), B3.2.2 160 88 (by omega) (by omega), B2.2.2.2.2 160 88 (by omega) (by omega), B1.2.2 160 88 (by omega) (by omega)]
theorem ctr_top {o k : Int} (H : CTr o k h u) (h0 : 0 ≤ h 34 3) (Fc : FRc h) : (302 : Int) = 303 ∨ 20 < u 34 3 ∨ u 36 (u 34 3 - 1).toNat = 302 := by
  obtain ⟨g1, g2, g3, g4, g5, g6, g7, g8, A1, A2, A3, A4, A5, A6, A7, A8, A9⟩ := H
  have E5 : ∀ cc x : Nat, ¬ (cc = 34 ∧ (x = 1 ∨ x = 3 ∨ x = 4)) → ¬ (cc = 35 ∨ cc = 36) → g5 cc x = h cc x := fun cc x z1 z2 => by rw [A5.2 cc x (by omega), A4.2.2.2 cc x (by omega) (by omega), A3.2.2 cc x (by omega) (by omega), A2.2.2.2 cc x (by omega) (by omega), A1.2.2.2 cc x (by omega) (by omega)]
  have F5 : FRc g5 := frc_k Fc (fun cc x z => E5 cc x (by omega) (by omega))
  have s5 : 0 ≤ g5 34 3 := by rw [A5.1]; split <;> omega
  obtain ⟨F6, H6⟩ := cah_fr F5 A6
  have s6 := H6 34 3 (by omega) (by omega) (by omega)
  have F8 : FRc g8 := frc_k F6 (fun cc x z => by rw [A8.2.2 cc x (by omega) (by omega), A7.2.2.2 cc x (by omega) (by omega)])
  obtain ⟨F9, H9⟩ := cah_fr F8 A9
  have s9 : u 34 3 = g6 34 3 + 1 := by rw [H9 34 3 (by omega) (by omega) (by omega), A8.2.2 34 3 (by omega) (by omega)]; exact A7.1
  by_cases z : g6 34 3 < 20
  · right; right
    rw [s9, show (g6 34 3 + 1 - 1).toNat = (g6 34 3).toNat by omega, H9 36 _ (by omega) (by omega) (by omega), A8.2.2 36 _ (by omega) (by omega)]
    exact A7.2.2.1 z
  · right; left; omega
/-- what the making of a node does behind its U -/
theorem wo_un {R Q : ms_M → Prop} {d : Nat} {ch k : Int} (hk : m 167 e.toNat = k) (k3 : k = 33 ∨ k = 34 ∨ k = 35) (t0 : m 170 e.toNat = ch) (CH : Pc ((qg_X13_work nn d).1 ch m) R) (H3 : k = 33 → ∀ w : ms_M, R w → Pc (mx_sv (qf_X13_put nn 116 w) fun u198 => some u198) Q) (H4 : k = 34 → ∀ w : ms_M, R w → Pc (mx_sv (qf_X13_truth nn 153 1 w) fun u204 => some u204) Q) (H5 : k = 35 → ∀ w : ms_M, R w → Pc (mx_sv (qf_X13_put nn 2 w) fun u210 => mx_sv (qf_X13_push nn 0 u210) fun u212 => mx_sv (qf_X13_put nn 130 u212) fun u214 => mx_sv (qf_X13_turn nn 2 0 u214) fun u216 => some u216) Q) : Pc (qo_X13_workOne nn (qg_X13_work nn d) e m) Q := by
  have C : ∀ F : ms_M → Option ms_M, (∀ w : ms_M, R w → Pc (F w) Q) → Pc (rd_A 9000 170 e m fun v => mx_sv ((qg_X13_work nn d).1 v m) F) Q := fun F HF => by
    refine pc_rA ?_; intro _ _ v e0
    rw [t0] at e0
    rw [e0]
    exact pc_sv CH HF
  rcases k3 with y | y | y
  · exact wo_33 (hk.trans y) rfl (C _ (H3 y))
  · exact wo_34 (hk.trans y) rfl (C _ (H4 y))
  · exact wo_35 (hk.trans y) rfl (C _ (H5 y))
/-- closeUnary where the type is right -/
def CUr (nn : Nat) (X : BCx) (k t1 : Int) (u8 u10 : ms_M) : Prop := (∀ cc y : Nat, ¬ (cc = 34 ∧ (y = 1 ∨ y = 3 ∨ y = 4 ∨ y = 14 ∨ y = 15)) → ¬ (cc = 35 ∨ cc = 36) → ¬ (40 ≤ cc ∧ cc ≤ 42) → ¬ (cc = 49 ∧ (y = 11 ∨ y = 12)) → u10 cc y = u8 cc y) ∧ FRc u10 ∧ ((u8 34 1 ≤ u10 34 1 ∧ u10 34 1 ≤ u8 34 1 + 10) ∧ (0 ≤ u10 34 3 ∧ u10 34 3 ≤ u8 34 3 + 1)) ∧ (u10 49 11 = 0 ∧ u10 49 12 = t1) ∧ (1 ≤ u8 34 3 → (20 < u8 34 3 ∨ u8 36 (u8 34 3 - 1).toNat = t1) → (u10 34 3 = u8 34 3 ∧ (u10 49 12 = 303 ∨ 20 < u10 34 3 ∨ u10 36 (u10 34 3 - 1).toNat = u10 49 12)) ∧ ∀ (PB : Nat → Prop) (WL : Int → Int → Prop) (L : List (Int × Int)) (w : ms_M), MKx X PB WL L u8 w → w 160 88 ≤ 2050000000 → (k = 33 → Pc (mx_sv (qf_X13_put nn 116 w) fun u198 => some u198) (fun w2 => MKx X PB WL L u10 w2 ∧ (w 160 88 ≤ w2 160 88 ∧ w2 160 88 ≤ w 160 88 + 2))) ∧ (k = 34 → Pc (mx_sv (qf_X13_truth nn 153 1 w) fun u204 => some u204) (fun w2 => MKx X PB WL L u10 w2 ∧ (w 160 88 ≤ w2 160 88 ∧ w2 160 88 ≤ w 160 88 + 2))) ∧ (k = 35 → Pc (mx_sv (qf_X13_put nn 2 w) fun u210 => mx_sv (qf_X13_push nn 0 u210) fun u212 => mx_sv (qf_X13_put nn 130 u212) fun u214 => mx_sv (qf_X13_turn nn 2 0 u214) fun u216 => some u216) (fun w2 => MKx X PB WL L u10 w2 ∧ (w 160 88 ≤ w2 160 88 ∧ w2 160 88 ≤ w 160 88 + 2))))
theorem c_closeU {u8 : ms_M} {kp k t1 x : Int} (hk : (kp = 62 ∧ k = 33 ∧ t1 = 301) ∨ (kp = 71 ∧ k = 34 ∧ t1 = 302) ∨ (kp = 72 ∧ k = 35 ∧ t1 = 301)) (et : u8 49 12 = t1) (Fc : FRc u8) (l1 : 0 ≤ u8 34 1 ∧ u8 34 1 ≤ 900000) (l3 : 0 ≤ u8 34 3 ∧ u8 34 3 ≤ 2999) (h7 : 0 ≤ u8 34 7) : Pc (qf_X10_closeUnary nn kp x u8) (fun u10 => CUr nn X k t1 u8 u10) := by
  unfold qf_X10_closeUnary
  refine pc_xl ?_; intro h22 e22
  have E22 : ∀ cc x : Nat, ¬ (cc = 49 ∧ x = 11) → h22 cc x = u8 cc x := fun cc x z => by rw [e22, up_n z]
  have t12 : h22 49 12 = t1 := by rw [E22 49 12 (by omega)]; exact et
  have a1 := E22 34 1 (by omega)
  have a3 := E22 34 3 (by omega)
  have F22 : FRc h22 := frc_k Fc (fun cc x z => E22 cc x (by omega))
  have MK22 : ∀ (PB : Nat → Prop) (WL : Int → Int → Prop) (L : List (Int × Int)) (w : ms_M), MKx X PB WL L u8 w → MKx X PB WL L h22 w := fun PB WL L w Mw => mkx_c Mw (fun cc x z1 z2 z3 => E22 cc x (by omega))
  rcases hk with ⟨k1, k2, k3⟩ | ⟨k1, k2, k3⟩ | ⟨k1, k2, k3⟩
  · -- -
    subst k1 k2 k3
    refine pc_if (fun _ => ?_) (fun z => absurd (by decide) z)
    refine pc_if (fun z => absurd t12 z) (fun _ => ?_)
    unfold qj_X10_closeUnary_62
    refine pc_sv c_want1 ?_; intro u2 q2'
    rw [q2']
    refine pc_if (fun z => absurd rfl z) (fun _ => ?_)
    refine pc_sv (c_op (by omega)) ?_; intro u14 A1
    have U : ∀ cc y : Nat, ¬ (cc = 34 ∧ y = 1) → ¬ cc = 35 → u14 cc y = h22 cc y := fun cc y z1 z2 => A1.2.2 cc y (by omega) (by omega)
    have d3' := U 34 3 (by omega) (by omega)
    have d1' := A1.1
    refine pc_ret ⟨fun cc y z1 z2 z3 z4 => by rw [U cc y (by omega) (by omega)]; exact E22 cc y (by omega), frc_k F22 (fun cc x z => U cc x (by omega) (by omega)), ⟨by omega, by omega⟩, ⟨by rw [U 49 11 (by omega) (by omega), e22, up_s], by rw [U 49 12 (by omega) (by omega)]; exact t12⟩, fun h1 ht => ⟨⟨by omega, ?_⟩, fun PB WL L w Mw lw => ⟨fun _ => ?_, fun z => absurd z (by decide), fun z => absurd z (by decide)⟩⟩⟩
    · rw [d3', U 49 12 (by omega) (by omega), U 36 _ (by omega) (by omega), t12, E22 36 _ (by omega), a3]
      exact .inr ht
    · have M2 := MK22 PB WL L w Mw
      obtain ⟨-, -, ⟨m1, m2, m3, m4⟩, -⟩ := mk_t M2
      refine pc_sv (r_put (by omega)) ?_; intro u198 b1
      exact pc_ret ⟨mk_op M2 A1 b1 (fun _ => rfl) (by unfold in_R; omega), by rw [b1.2.2 160 88 (by omega) (by omega)]; omega⟩
  · -- !
    subst k1 k2 k3
    refine pc_if (fun z => absurd rfl z) (fun _ => ?_)
    refine pc_if (fun z => absurd t12 z) (fun _ => ?_)
    unfold qj_X10_closeUnary_27
    refine pc_sv c_want1 ?_; intro u18 q18
    rw [q18]
    refine pc_sv (c_truth (by omega) (by omega) (by omega) (by rw [E22 34 7 (by omega)]; exact h7) F22) ?_; intro u21 ⟨CT, ⟨d1', d3'⟩, F21, U⟩
    have b3' : u21 34 3 ≤ u8 34 3 + 1 ∧ 1 ≤ u21 34 3 := by rw [d3', a3]; split <;> omega
    refine pc_ret ⟨fun cc y z1 z2 z3 z4 => by rw [U cc y z1 z2 z3]; exact E22 cc y (by omega), F21, ⟨by omega, by omega⟩, ⟨by rw [U 49 11 (by omega) (by omega) (by omega), e22, up_s], by rw [U 49 12 (by omega) (by omega) (by omega)]; exact t12⟩, fun h1 _ => ⟨⟨?_, ?_⟩, fun PB WL L w Mw lw => ⟨fun z => absurd z (by decide), fun _ => ?_, fun z => absurd z (by decide)⟩⟩⟩
    · rw [d3', a3, if_pos (by omega)]; omega
    · rw [U 49 12 (by omega) (by omega) (by omega), t12]
      exact ctr_top CT (by omega) F22
    · refine pc_sv (m_truth CT (MK22 PB WL L w Mw) (by omega) (by unfold in_R; omega) (by omega) (by omega) (by omega)) ?_; intro w2 y
      exact pc_ret ⟨y.1, by rw [y.2]; omega⟩
  · -- ~
    subst k1 k2 k3
    refine pc_if (fun _ => ?_) (fun z => absurd (by decide) z)
    refine pc_if (fun z => absurd t12 z) (fun _ => ?_)
    unfold qj_X10_closeUnary_62
    refine pc_sv c_want1 ?_; intro u2 q2'
    rw [q2']
    refine pc_if (fun _ => ?_) (fun z => absurd (by decide) z)
    refine pc_sv (c_push (by omega)) ?_; intro u5 A1
    have b3 := A1.1
    have b1 : u5 34 1 = h22 34 1 := A1.2.2.2 34 1 (by omega) (by omega)
    refine pc_sv (c_op2 (by omega)) ?_; intro u8' ⟨g1, A2, A3⟩
    have c3' : u8' 34 3 = u5 34 3 := by rw [A3.2.2 34 3 (by omega) (by omega), A2.2.2 34 3 (by omega) (by omega)]
    have c1' : u8' 34 1 = u5 34 1 + 2 := by rw [A3.1, A2.1]; omega
    refine pc_sv (c_pop (by omega) (by omega)) ?_; intro u11 A4
    have d3' : u11 34 3 = u8 34 3 := by rw [A4.1, c3', b3, a3]; split <;> omega
    have d1' : u11 34 1 = u8 34 1 + 2 := by rw [A4.2 34 1 (by omega), c1', b1, a1]
    have U : ∀ cc y : Nat, ¬ (cc = 34 ∧ (y = 1 ∨ y = 3 ∨ y = 4)) → ¬ (cc = 35 ∨ cc = 36) → u11 cc y = h22 cc y := fun cc y z1 z2 => by rw [A4.2 cc y (by omega), A3.2.2 cc y (by omega) (by omega), A2.2.2 cc y (by omega) (by omega), A1.2.2.2 cc y (by omega) (by omega)]
    have U36 : ∀ ii : Nat, (ii : Int) < h22 34 3 → u11 36 ii = h22 36 ii := fun ii hi => by rw [A4.2 36 ii (by omega), A3.2.2 36 ii (by omega) (by omega), A2.2.2 36 ii (by omega) (by omega), A1.2.2.2 36 ii (by omega) (by omega)]
    refine pc_ret ⟨fun cc y z1 z2 z3 z4 => by rw [U cc y (by omega) z2]; exact E22 cc y (by omega), frc_k F22 (fun cc x z => U cc x (by omega) (by omega)), ⟨by omega, by omega⟩, ⟨by rw [U 49 11 (by omega) (by omega), e22, up_s], by rw [U 49 12 (by omega) (by omega)]; exact t12⟩, fun h1 ht => ⟨⟨d3', ?_⟩, fun PB WL L w Mw lw => ⟨fun z => absurd z (by decide), fun z => absurd z (by decide), fun _ => ?_⟩⟩⟩
    · rw [d3', U 49 12 (by omega) (by omega), U36 _ (by omega), t12, E22 36 _ (by omega)]
      exact .inr ht
    · refine pc_imp (m_tilde (MK22 PB WL L w Mw) A1 A2 A3 A4 (by omega) (by omega) ?_) (fun w2 y => ⟨y.1, by rw [y.2]; omega⟩)
      rw [a3, E22 36 _ (by omega)]
      exact ht
/-- closeUnary where it is wrong -/
theorem c_closeT {u8 : ms_M} {kp : Int} {tk : Nat} {G : tq_X10_readValue} (G0 : FScG_X10_readValue G) (ht : tk < bc X) (x4 : u8 2 11 = 0) (TB8 : TBc (bK X) (bP X) (bc X) u8) (hk : (kp = 71 ∧ ¬ u8 49 12 = 302 ∧ u8 49 15 = (tk : Int)) ∨ (¬ kp = 71 ∧ ¬ u8 49 12 = 301 ∧ tk = p)) : Pc (mx_sv (qf_X10_closeUnary nn kp (p : Int) u8) fun u10 => qj_X10_readUnary_116 nn G (p : Int) u10) (fun u => u 2 11 = 6 ∧ u 2 12 = bP X tk) := by
  have CB : ∀ (u2 : ms_M) (tk : Nat), (u2 2 11 = 6 ∧ u2 2 12 = bP X tk) → ∀ (x : Option ms_M), Pc x (fun u => FSc u2 u) → Pc (mx_sv x fun u10 => qj_X10_readUnary_116 nn G (p : Int) u10) (fun u => u 2 11 = 6 ∧ u 2 12 = bP X tk) := fun u2 tk s1 x HX => by
    refine pc_sv HX ?_; intro u10 F
    exact pc_imp (fs_qj_X10_readUnary_116 G0 (by rw [F.1]; omega)) (fun u F2 => ⟨by rw [F2.1, F.1]; exact s1.1, by rw [F2.2, F.2]; exact s1.2⟩)
  unfold qf_X10_closeUnary
  refine p2_x ?_
  intro h22 e22
  have E22 : ∀ cc x : Nat, ¬ (cc = 49 ∧ x = 11) → h22 cc x = u8 cc x := fun cc x z => by rw [e22, up_n z]
  have TB22 : TBc (bK X) (bP X) (bc X) h22 := tbc_k TB8 (fun cc y z => E22 cc y (by omega))
  have h11 : h22 2 11 = 0 := by rw [E22 2 11 (by omega)]; exact x4
  rcases hk with ⟨k1, k2, k3⟩ | ⟨k1, k2, k3⟩
  · rw [if_neg (show ¬ ¬ kp = 71 from fun z => z k1), if_pos (show ¬ h22 49 12 = 302 by rw [E22 49 12 (by omega)]; exact k2)]
    unfold qj_X10_closeUnary_27
    refine p2_m ?_
    refine pc_imp (c_want0 TB22 h11 ht (by rw [E22 49 15 (by omega)]; exact k3)) (fun u18 s => CB u18 tk s _ ?_)
    refine pc_sv (fs_qf_X1_truth (by omega)) ?_; intro u21 F
    exact pc_ret F
  · rw [if_pos k1, if_pos (show ¬ h22 49 12 = 301 by rw [E22 49 12 (by omega)]; exact k2)]
    unfold qj_X10_closeUnary_62
    refine p2_m ?_
    refine pc_imp (c_want0 TB22 h11 ht (by rw [k3])) (fun u2 s => CB u2 tk s _ ?_)
    have S2 : ¬ u2 2 11 = 0 := by omega
    refine pc_if (fun _ => ?_) (fun _ => ?_)
    · refine pc_sv (fs_qf_X1_push S2) ?_; intro u5 F1
      have S5 : ¬ u5 2 11 = 0 := by rw [F1.1]; exact S2
      refine pc_sv (fs_qf_X1_op_ S5) ?_; intro u8' F2
      have S8 : ¬ u8' 2 11 = 0 := by rw [F2.1]; exact S5
      refine pc_sv (fs_qf_X1_pop S8) ?_; intro u11 F3
      exact pc_ret (fs_t F1 (fs_t F2 F3))
    · refine pc_sv (fs_qf_X1_op S2) ?_; intro u14 F1
      exact pc_ret F1
end
end
