/- E of both sides: ?:, the whole -/
/-- what is wanted of an E, where the reference answers y -/
def CRz (nn : Nat) (X : BCx) (a b : Int) (p q : Nat) (e : Int) (h r uF : ms_M) (y : Int × ms_M) : Prop := ∀ z : ms_M, z = up_M y.2 174 e.toNat y.1 → (z 160 9 = 0 → (SFj uF z ∨ VDj X 0 a b p q e h r uF (y.1, z)) ∨ EOz nn X 0 a b p q e h r uF (y.1, z)) ∧ (¬ z 160 9 = 0 → (SFj uF z ∨ VDj X 0 a b p q e h r uF (0, z)) ∨ EOz nn X 0 a b p q e h r uF (0, z))
section
variable {nn : Nat} {X : BCx} {dp i l a b e s k x : Int} {p q t uu : Nat} {h g u r w m : ms_M} {v : Int × ms_M}
theorem crz_f {uF : ms_M} {y : Int × ms_M} {c pl : Int} (c0 : ¬ c = 0) (a1 : uF 2 11 = c) (a2 : uF 2 12 = pl) (a3 : y.2 160 9 = c) (a4 : y.2 160 10 = pl) : CRz nn X a b p q e h r uF y := fun z ez => by
  have z9 : z 160 9 = c := by rw [ez, up_n (by omega)]; exact a3
  have z10 : z 160 10 = pl := by rw [ez, up_n (by omega)]; exact a4
  exact ⟨fun y => absurd (z9.symm.trans y) c0, fun _ => .inl (.inl ⟨by omega, by rw [z9, a1], by rw [z10, a2]⟩)⟩
theorem crz_s {uF : ms_M} {y : Int × ms_M} (S : SFj uF y.2) : CRz nn X a b p q e h r uF y := crz_f S.1 rfl rfl S.2.1 S.2.2
theorem crz_ok {uF z0 : ms_M} {y : Int × ms_M} (ez : z0 = up_M y.2 174 e.toNat y.1) (z9 : z0 160 9 = 0) (K : EOz nn X 0 a b p q e h r uF (y.1, z0)) : CRz nn X a b p q e h r uF y := fun z ez2 => by
  rw [ez2, ← ez]
  exact ⟨fun _ => .inr K, fun y => absurd z9 y⟩
theorem e0_ec {y0 ix iy iz : Int} (Y : CXs X) (ne : 0 ≤ a ∧ a ≤ e ∧ e < b) (yb : e < y0 ∧ y0 ≤ b) (hd : 0 ≤ dp ∧ dp + 1 ≤ 40) (nd : bT X 167 e.toNat = 39 ∧ bT X 168 e.toNat = (t : Int)) (S : S1 nn X (dp + 1) ix 0 a e p t (bT X 170 e.toNat)) (L1 : bT X 169 (bT X 170 e.toNat).toNat = (p : Int)) (kt : bK X t = 49) (H2 : E0 nn X (dp + 1) iy (e + 1) y0 (t + 1) uu (bT X 171 e.toNat)) (ku : bK X uu = 50) (H3 : E0 nn X (dp + 1) iz y0 b (uu + 1) q (bT X 172 e.toNat)) (pt : p < t ∧ t + 1 < uu ∧ uu + 1 < q) : E0 nn X dp 0 a b p q e := by
  intro EN d d2 h r Q b57
  have Q0 := Q
  obtain ⟨B, ⟨q1, q2, q3, q4⟩, ⟨f1, f2, f3⟩, o1⟩ := Q0
  have T : ∀ cc x : Nat, 163 ≤ cc ∧ cc ≤ 173 → r cc x = bT X cc x := fun cc x z => B.2.2.2.2.2.1 cc x (by omega)
  have TQ : TBq (bK X) (bP X) (bc X) r := B.1.1.2.2.1
  have n8 := Y.2.2.1
  have c3 := Y.1.2.1
  have nl : ¬ bT X 167 e.toNat = 30 ∧ ¬ bT X 167 e.toNat = 31 ∧ ¬ bT X 167 e.toNat = 32 ∧ ¬ bT X 167 e.toNat = 37 ∧ ¬ bT X 167 e.toNat = 38 := by omega
  have tc : t < bc X := tb_lt Y.1 (by omega)
  have tc1 : t + 1 < bc X := jp_lt Y.1 tc (by omega)
  have uc : uu < bc X := tb_lt Y.1 (by omega)
  have uc1 : uu + 1 < bc X := jp_lt Y.1 uc (by omega)
  cases d with
  | zero => exact pc_none
  | succ d =>
    show Pc (qo_X10_readValue nn (qg_X10_readValue nn d) dp h) _
    have K1 : ∀ d2 : Nat, Pc (qo_X10_readValue nn (qg_X10_readValue nn d) dp h) (fun uF => Pc ((qg_X13_condition nn d2).2.2.1 (bT X 170 e.toNat) r) (fun v1 => RKp r v1.2 → ∀ w, CDN X (bT X 170 e.toNat) p v1 w → ∀ d3 : Nat, Pc (rst_R nn (qg_X13_condition nn d3) e w) (CRz nn X a b p q e h r uF))) := fun d2 => by
      refine c_rv Y hd Q (by omega) S (by rw [kt]; decide) (fun u1 v1 K => ?_) (fun uF v1 SV _ w hw d3 => ?_)
      · by_cases RK : RKp r v1.2
        case neg => exact fun _ _ RK2 => absurd RK2 RK
        obtain ⟨⟨x1, x2, x3, x4, x5⟩, ⟨x6, x7, x8⟩, ⟨x9, x10, x11⟩, ⟨x12, x13, x14⟩, x15⟩ := K.1
        have TB1 := pk_b Q K.1
        have B1 : BX X u1 v1.2 := bx_e B x9 x10
        have FX : FM01 nn X ix a e p t (bT X 170 e.toNat) h u1 v1.2 := by
          have := K.2.2 (by omega)
          rcases x15 with F | F | F | F
          · exact F
          · exact absurd F.1.1 (by omega)
          · exact absurd F.1.1 (by omega)
          · exact absurd F.1.1 (by omega)
        have n303 : ¬ u1 49 12 = 303 := fun z => by
          rcases FX.1 with ⟨-, -, -, y⟩ | ⟨-, -, y⟩
          · have := (y z).1
            omega
          · exact y z
        obtain ⟨⟨FH, -⟩, FM⟩ := FX.2.2 (by omega)
        rw [if_neg n303] at FH
        unfold qj_X10_readValue_156
        refine pc_sv (c_kind Y.1 TB1 x2 x1 x4) ?_; intro u3 q3'
        refine pc_if (fun z => absurd (q3'.trans kt) z) (fun _ => ?_)
        refine pc_sv (P := fun uF => ∀ w, CDN X (bT X 170 e.toNat) p v1 w → ∀ d3 : Nat, Pc (rst_R nn (qg_X13_condition nn d3) e w) (CRz nn X a b p q e h r uF)) ?_ (fun u5 H5 => pc_ret (fun _ => H5))
        cases d with
        | zero => exact fun _ z => nomatch z
        | succ d =>
          have G := fsg_X10_readValue nn d
          show Pc (qo_X10_readChoice nn (qg_X10_readValue nn d) (p : Int) dp u1) _
          unfold qo_X10_readChoice
          by_cases tb : u1 49 12 = 302
          · rw [if_neg (fun y => y tb), x1]
            suffices GOOD : ∀ d3 : Nat, Pc (qj_X10_readChoice_24 nn (qg_X10_readValue nn d) (p : Int) dp (t : Int) 1 u1) (fun uF => Pc (rst_R nn (qg_X13_condition nn d3) e v1.2) (CRz nn X a b p q e h r uF)) by
              intro uF eF w hw d3
              rcases hw.2.2 x5 (u1 49 12) x7 n303 x6 with ⟨-, y⟩ | ⟨y, -⟩
              · rw [y]
                exact GOOD d3 uF eF
              · exact absurd tb y
            intro d3
            have Gt := ftg_X13_condition nn d3
            unfold qj_X10_readChoice_24
            refine pc_sv c_want1 ?_; intro u14 e14
            rw [e14]
            refine pc_sv (c_jump (by omega) (by omega) (by omega)) ?_; intro u17 ⟨j1, A1⟩
            have a1 := A1.1
            have a3 : u17.2 34 3 = h 34 3 := by rw [A1.2.1]; split <;> omega
            have U1 := A1.2.2.2
            rw [U1 2 10 (by omega) (by omega), x1]
            refine pc_add (by omega) ?_; intro v20 e20
            refine pc_xl ?_; intro h21 e21
            rw [show v20 = ((t + 1 : Nat) : Int) by omega] at e21
            have E21 : ∀ cc x : Nat, ¬ (cc = 2 ∧ x = 10) → h21 cc x = u17.2 cc x := fun cc x z => by rw [e21, up_n z]
            have W21 : ∀ cc x : Nat, ¬ (cc = 2 ∧ x = 10) → ¬ (cc = 34 ∧ (x = 1 ∨ x = 3)) → ¬ cc = 35 → h21 cc x = u1 cc x := fun cc x z1 z2 z3 => by rw [E21 cc x z1]; exact U1 cc x z2 (by omega)
            have b21 : h21 34 1 = u1 34 1 + 3 := by rw [E21 34 1 (by omega)]; exact a1
            have c21 : h21 34 3 = h 34 3 := by rw [E21 34 3 (by omega)]; exact a3
            have a18 : h21 49 18 = h 49 18 := by rw [W21 49 18 (by omega) (by omega) (by omega)]; exact x9 49 18 (by omega) (by omega) (by omega) (by omega) (by omega) (by omega) (by omega) (by omega)
            have o21 : h21 49 10 = h 49 10 := by rw [W21 49 10 (by omega) (by omega) (by omega)]; exact x11.1
            have F21 : FRc h21 := frc_k x12 (fun cc x z => W21 cc x (by omega) (by omega) (by omega))
            have Q21 : EPr X (dp + 1) (t + 1) h21 v1.2 := ⟨bx_k B1 (fun cc x z => W21 cc x (by omega) (by omega) (by omega)) (fun _ _ _ => rfl), ⟨by rw [e21, up_s], tc1, by rw [W21 2 11 (by omega) (by omega) (by omega)]; exact x4, x5⟩, ⟨F21, ⟨by omega, by omega⟩, by omega, by omega⟩, by omega, by omega, by omega⟩
            refine pc_add (by omega) ?_; intro v22 e22
            rw [e22]
            have T1 : ∀ cc x : Nat, 163 ≤ cc ∧ cc ≤ 173 → v1.2 cc x = bT X cc x := fun cc x z => B1.2.2.2.2.2.1 cc x (by omega)
            have RK1 := RK.1
            have GV2 := j_given (nn := nn) (X := X) (x := (qg_X10_readValue nn d).1 (dp + 1) h21) B1.1.1.2.2.1 T1 n8 (fun d2 => H2 (by unfold ENDk; omega) d d2 h21 v1.2 Q21 (by omega)) (fun z => by omega) (by omega)
            suffices GO2 : Pc (mx_sv ((qg_X10_readValue nn d).1 (dp + 1) h21) fun u24 => mx_sv (qf_X1_jump nn 167 0 u24) fun u28 => mx_sv (qf_X1_pop nn 1 u28.2) fun u31 => mx_sv (qf_X1_aimHere nn u17.1 u31) fun u34 => xl (oq_add (u34 2 10) 1) fun v37 => xl (up_M u34 2 10 v37) fun h38 => xl (oq_add dp 1) fun v39 => mx_sv ((qg_X10_readValue nn d).1 v39 h38) fun u41 => mx_sv (qf_X10_isPair nn (u24 49 12) (u41 49 12) u41) fun u44 => mx_sv (qf_X10_wantType nn u44 (t : Int) u41) fun u46 => mx_sv (qf_X4_fits nn 12 (u24 49 12) (u46 49 12) u46) fun u50 => if u50 = 0 then (qj_X10_readChoice_158 nn (qg_X10_readValue nn d) u28.1 (u24 49 12) u46) else (qj_X10_readChoice_158 nn (qg_X10_readValue nn d) u28.1 (u46 49 12) u46)) (fun uF => Pc (mx_sv ((qg_X13_condition nn d3).2.1 (bT X 171 e.toNat) v1.2) fun u91 => rd_A 9000 172 e u91.2 fun v93 => mx_sv ((qg_X13_condition nn d3).2.1 v93 u91.2) fun u95 => mx_sv (qf_X13_goTogether nn u91.1 u95.1 u95.2) fun u97 => if ¬ u97 = 0 then (qj_X13_rule_657 nn (qg_X13_condition nn d3) u91.1 u95.1 u95.2) else (rd_A 9000 168 e u95.2 fun v99 => mx_sv (qf_X13_wrong nn 6 v99 u95.2) fun u101 => qj_X13_rule_657 nn (qg_X13_condition nn d3) u91.1 u95.1 u101)) (CRz nn X a b p q e h r uF)) by
              refine pc_imp GO2 (fun uF HU => ?_)
              unfold rst_R
              refine pc_rA ?_; intro _ _ v89 e89
              rw [T1 171 _ (by omega)] at e89
              rw [e89]
              exact HU
            refine p2_sv (pc_imp (GV2 d3) (fun u Hu => pc_and Hu ((rkg_condition nn d3).2.1 (a1 := bT X 171 e.toNat) (h := v1.2) (by omega)))) (fun u24 v2 hR => ?_)
            obtain ⟨R2, RK2⟩ := hR
            rcases R2 with S2 | ⟨K2, FX2, n3⟩
            · exact pj_sf (o := fun u => u) (q := fun y => y.2) S2 (chf_2 S2.1 G) (rst_f1 (sf_r S2) Gt) (fun u y S => crz_s S)
            obtain ⟨⟨i1, i2, i3, i4, i5⟩, ⟨i6, i7, i8⟩, ⟨i9, i10, i11⟩, ⟨i12, i13, i14⟩, -⟩ := K2.1
            obtain ⟨⟨FH2, -⟩, FM2⟩ := FX2.2.2 (by omega)
            rw [if_neg n3] at FH2
            have B2 : BX X u24 v2.2 := bx_e Q21.1 i9 i10
            refine pc_sv (c_jump (by omega) (by omega) (by omega)) ?_; intro u28 ⟨j2, A2⟩
            have d3' : u28.2 34 3 = u24 34 3 := by rw [A2.2.1]; split <;> omega
            refine pc_sv (c_pop (by omega) (by omega)) ?_; intro u31 A3
            have AJ : CJu 167 1 u24 u31 := cju_pop A2 A3 (by omega)
            have b31 := AJ.1
            have c31 : u31 34 3 = h 34 3 := by rw [AJ.2.1]; split <;> omega
            have U3 := AJ.2.2.2
            have F31 : FRc u31 := frc_k i12 (fun cc x z => U3 cc x (by omega) (by omega))
            have h7 : ∀ cc : Nat, cc = 34 → u24 cc 7 = h cc 7 := fun cc z => by
              subst z
              rw [i9 34 7 (by omega) (by omega) (by omega) (by omega) (by omega) (by omega) (by omega) (by omega), W21 34 7 (by omega) (by omega) (by omega)]
              exact x9 34 7 (by omega) (by omega) (by omega) (by omega) (by omega) (by omega) (by omega) (by omega)
            have h70 : 0 ≤ h 34 7 := by have := B.2.1.1; omega
            rw [j1]
            refine pc_sv (c_aimHere (by omega) (by omega) (by rw [U3 34 7 (by omega) (by omega), h7 34 rfl]; exact h70) (by omega) F31) ?_; intro u34 A4
            obtain ⟨F34, U4⟩ := cah_fr F31 A4
            rw [U4 2 10 (by omega) (by omega) (by omega), U3 2 10 (by omega) (by omega), i1]
            refine pc_add (by omega) ?_; intro v37 e37
            refine pc_xl ?_; intro h38 e38
            rw [show v37 = ((uu + 1 : Nat) : Int) by omega] at e38
            have E38 : ∀ cc x : Nat, ¬ (cc = 2 ∧ x = 10) → h38 cc x = u34 cc x := fun cc x z => by rw [e38, up_n z]
            have W38 : ∀ cc x : Nat, ¬ (cc = 2 ∧ x = 10) → ¬ (cc = 34 ∧ (x = 1 ∨ x = 3 ∨ x = 14 ∨ x = 15)) → ¬ cc = 35 → ¬ (40 ≤ cc ∧ cc ≤ 42) → h38 cc x = u24 cc x := fun cc x z1 z2 z3 z4 => by rw [E38 cc x z1, U4 cc x z3 z4 (by omega)]; exact U3 cc x (by omega) (by omega)
            have b38 : h38 34 1 = u24 34 1 + 3 := by rw [E38 34 1 (by omega), U4 34 1 (by omega) (by omega) (by omega)]; exact b31
            have c38 : h38 34 3 = h 34 3 := by rw [E38 34 3 (by omega), U4 34 3 (by omega) (by omega) (by omega)]; exact c31
            have a38 : h38 49 18 = h 49 18 := by rw [W38 49 18 (by omega) (by omega) (by omega) (by omega), i9 49 18 (by omega) (by omega) (by omega) (by omega) (by omega) (by omega) (by omega) (by omega)]; exact a18
            have o38 : h38 49 10 = h 49 10 := by rw [W38 49 10 (by omega) (by omega) (by omega) (by omega), i11.1]; exact o21
            have F38 : FRc h38 := frc_k F34 (fun cc x z => E38 cc x (by omega))
            have Q38 : EPr X (dp + 1) (uu + 1) h38 v2.2 := ⟨bx_k B2 (fun cc x z => W38 cc x (by omega) (by omega) (by omega) (by omega)) (fun _ _ _ => rfl), ⟨by rw [e38, up_s], uc1, by rw [W38 2 11 (by omega) (by omega) (by omega) (by omega)]; exact i4, i5⟩, ⟨F38, ⟨by omega, by omega⟩, by omega, by omega⟩, by omega, by omega, by omega⟩
            refine pc_add (by omega) ?_; intro v39 e39
            rw [e39]
            have T2 : ∀ cc x : Nat, 163 ≤ cc ∧ cc ≤ 173 → v2.2 cc x = bT X cc x := fun cc x z => B2.2.2.2.2.2.1 cc x (by omega)
            have RK2' := RK2.1
            have GV3 := j_given3 (nn := nn) (X := X) (x := (qg_X10_readValue nn d).1 (dp + 1) h38) B2.1.1.2.2.1 T2 n8 (fun d2 => H3 EN d d2 h38 v2.2 Q38 (by omega)) (fun _ z => by omega)
            suffices GO3 : Pc (mx_sv ((qg_X10_readValue nn d).1 (dp + 1) h38) fun u41 => mx_sv (qf_X10_isPair nn (u24 49 12) (u41 49 12) u41) fun u44 => mx_sv (qf_X10_wantType nn u44 (t : Int) u41) fun u46 => mx_sv (qf_X4_fits nn 12 (u24 49 12) (u46 49 12) u46) fun u50 => if u50 = 0 then (qj_X10_readChoice_158 nn (qg_X10_readValue nn d) u28.1 (u24 49 12) u46) else (qj_X10_readChoice_158 nn (qg_X10_readValue nn d) u28.1 (u46 49 12) u46)) (fun uF => Pc (mx_sv ((qg_X13_condition nn d3).2.1 (bT X 172 e.toNat) v2.2) fun u95 => mx_sv (qf_X13_goTogether nn v2.1 u95.1 u95.2) fun u97 => if ¬ u97 = 0 then (qj_X13_rule_657 nn (qg_X13_condition nn d3) v2.1 u95.1 u95.2) else (rd_A 9000 168 e u95.2 fun v99 => mx_sv (qf_X13_wrong nn 6 v99 u95.2) fun u101 => qj_X13_rule_657 nn (qg_X13_condition nn d3) v2.1 u95.1 u101)) (CRz nn X a b p q e h r uF)) by
              refine pc_imp GO3 (fun uF HU => ?_)
              refine pc_rA ?_; intro _ _ v93 e93
              rw [T2 172 _ (by omega)] at e93
              rw [e93]
              exact HU
            refine p2_sv (GV3 d3) (fun u41 v3 hR => ?_)
            rcases hR with S3 | ⟨K3, n33, FX3⟩
            · exact pj_sf (o := fun u => u) (q := fun y => y.2) S3 (chf_3 S3.1 G) (rst_f2 (sf_r S3) Gt) (fun u y S => crz_s S)
            obtain ⟨⟨k1, k2, k3, k4, k5⟩, ⟨k6, k7, k8⟩, ⟨k9, k10, k11⟩, ⟨k12, k13, k14⟩, -⟩ := K3.1
            have B3 : BX X u41 v3.2 := bx_e Q38.1 k9 k10
            have e8 : v3.2 180 = bB X 180 := bx_180 B3
            have t68 : v3.2 168 e.toNat = (t : Int) := (B3.2.2.2.2.2.1 168 _ (by omega)).trans nd.2
            -- the reference
            have REFX : ∀ {QQ : Int × ms_M → Prop}, (PRt X (u24 49 12) (u41 49 12) → (FTS (bB X 180) (u24 49 12) (u41 49 12) → QQ (ty_T (u41 49 12), v3.2)) ∧ (¬ FTS (bB X 180) (u24 49 12) (u41 49 12) → QQ (ty_T (u24 49 12), v3.2))) → (¬ PRt X (u24 49 12) (u41 49 12) → ∀ y : Int × ms_M, y.2 160 9 = 6 → y.2 160 10 = bP X t → QQ y) → Pc (mx_sv (qf_X13_goTogether nn v2.1 v3.1 v3.2) fun u97 => if ¬ u97 = 0 then (qj_X13_rule_657 nn (qg_X13_condition nn d3) v2.1 v3.1 v3.2) else (rd_A 9000 168 e v3.2 fun v99 => mx_sv (qf_X13_wrong nn 6 v99 v3.2) fun u101 => qj_X13_rule_657 nn (qg_X13_condition nn d3) v2.1 v3.1 u101)) QQ := fun {QQ} HA HB => by
              rw [i6, k6]
              refine pc_sv (r_goP Y e8 ⟨i7, n3⟩ ⟨k7, n33⟩) ?_; intro u97 q97
              refine pc_if (fun z => ?_) (fun z => ?_)
              · have pr : PRt X (u24 49 12) (u41 49 12) := by
                  rcases q97 with y | y
                  · exact y.2
                  · exact absurd y.1 z
                unfold qj_X13_rule_657
                refine pc_sv (r_fit Y e8 i7 k7) ?_; intro u2 q2'
                refine pc_if (fun z0 => pc_ret ((HA pr).2 ?_)) (fun z0 => pc_ret ((HA pr).1 ?_))
                · rcases q2' with y | y
                  · omega
                  · exact y.2
                · rcases q2' with y | y
                  · exact y.2
                  · exact absurd y.1 z0
              · have npr : ¬ PRt X (u24 49 12) (u41 49 12) := by
                  rcases q97 with y | y
                  · omega
                  · exact y.2
                refine pc_rA ?_; intro _ _ v99 e99
                rw [t68] at e99
                refine pc_sv (r_wrong B3.1.1.2.2.1 tc k5 e99) ?_; intro u101 w1
                exact pc_imp (ft_qj_X13_rule_657 Gt (h := u101) (by omega)) (fun y F => HB npr y (F.1.trans w1.1) (F.2.trans w1.2))
            -- the class's end
            have FIN : ∀ ty : Int, VTn (bn X) ty ∧ ¬ ty = 303 → Pc (qj_X10_readChoice_158 nn (qg_X10_readValue nn d) u28.1 ty u41) (fun uF => CRz nn X a b p q e h r uF (ty_T ty, v3.2)) := fun ty vty => by
              unfold qj_X10_readChoice_158
              refine pc_xl ?_; intro h1 e1
              have E1 : ∀ cc x : Nat, ¬ (cc = 49 ∧ x = 12) → h1 cc x = u41 cc x := fun cc x z => by rw [e1, up_n z]
              have e13 := E1 34 3 (by omega)
              have e11 := E1 34 1 (by omega)
              refine pc_sv (c_pop (by omega) (by omega)) ?_; intro u4 A5
              have t4 : u4 49 12 = ty := by rw [A5.2 49 12 (by omega), e1, up_s]
              have c4 : 0 ≤ u4 34 3 ∧ u4 34 3 ≤ u41 34 3 ∧ (1 ≤ u41 34 3 → u4 34 3 = u41 34 3 - 1) := by rw [A5.1]; split <;> omega
              rw [t4]
              refine pc_sv (c_push (by omega)) ?_; intro u8 A6
              have U8 : ∀ cc x : Nat, ¬ (cc = 34 ∧ (x = 3 ∨ x = 4)) → ¬ cc = 36 → ¬ (cc = 49 ∧ x = 12) → u8 cc x = u41 cc x := fun cc x z1 z2 z3 => by rw [A6.2.2.2 cc x z1 (by omega), A5.2 cc x (by omega)]; exact E1 cc x z3
              have b8 : u8 34 1 = u41 34 1 := U8 34 1 (by omega) (by omega) (by omega)
              have F8 : FRc u8 := frc_k k12 (fun cc x z => U8 cc x (by omega) (by omega) (by omega))
              rw [j2]
              refine pc_sv (c_aimHere (by omega) (by omega) (by rw [U8 34 7 (by omega) (by omega) (by omega), k9 34 7 (by omega) (by omega) (by omega) (by omega) (by omega) (by omega) (by omega) (by omega), W38 34 7 (by omega) (by omega) (by omega) (by omega), h7 34 rfl]; exact h70) (by have := A6.1; omega) F8) ?_; intro u11 A7
              obtain ⟨F11, U11⟩ := cah_fr F8 A7
              refine pc_xl ?_; intro h12 e12
              refine pc_ret ?_
              have E12 : ∀ cc x : Nat, ¬ (cc = 49 ∧ x = 11) → h12 cc x = u11 cc x := fun cc x z => by rw [e12, up_n z]
              have TOT : ∀ cc x : Nat, ¬ (cc = 34 ∧ (x = 3 ∨ x = 4 ∨ x = 14 ∨ x = 15)) → ¬ (cc = 35 ∨ cc = 36) → ¬ (40 ≤ cc ∧ cc ≤ 42) → ¬ (cc = 49 ∧ (x = 11 ∨ x = 12)) → h12 cc x = u41 cc x := fun cc x z1 z2 z3 z4 => by rw [E12 cc x (by omega), U11 cc x (by omega) z3 (by omega)]; exact U8 cc x (by omega) (by omega) (by omega)
              have t11 : h12 49 11 = 0 := by rw [e12, up_s]
              have t12 : h12 49 12 = ty := by rw [E12 49 12 (by omega), U11 49 12 (by omega) (by omega) (by omega), A6.2.2.2 49 12 (by omega) (by omega)]; exact t4
              have g1 : h12 34 1 = u41 34 1 := TOT 34 1 (by omega) (by omega) (by omega) (by omega)
              have g3 : h12 34 3 = u4 34 3 + 1 := by rw [E12 34 3 (by omega), U11 34 3 (by omega) (by omega) (by omega)]; exact A6.1
              generalize hz : up_M v3.2 174 e.toNat (ty_T ty) = z0
              have Z0 : ∀ cc x : Nat, ¬ (cc = 174 ∧ x = e.toNat) → z0 cc x = v3.2 cc x := fun cc x z => by rw [← hz, up_n z]
              have z9 : z0 160 9 = 0 := (Z0 160 9 (by omega)).trans k5
              have CF : CFe h h12 := by
                refine cfe_t x9 (cfe_t (g := h21) (fun cc x z1 z2 z3 z4 z5 z6 z7 z8 => W21 cc x (by omega) (by omega) (by omega)) (cfe_t i9 (cfe_t (g := h38) (fun cc x z1 z2 z3 z4 z5 z6 z7 z8 => W38 cc x (by omega) (by omega) (by omega) z4) (cfe_t k9 (fun cc x z1 z2 z3 z4 z5 z6 z7 z8 => TOT cc x (by omega) z3 z4 (by omega))))))
              have SB : SGb h h12 := by
                refine sgb_t x11 (sgb_t (g := h21) ⟨W21 49 10 (by omega) (by omega) (by omega), fun cc x z1 z2 z3 => W21 cc x (by omega) (by omega) (by omega)⟩ (sgb_t i11 (sgb_t (g := h38) ⟨W38 49 10 (by omega) (by omega) (by omega) (by omega), fun cc x z1 z2 z3 => W38 cc x (by omega) (by omega) (by omega) (by omega)⟩ (sgb_t k11 ⟨TOT 49 10 (by omega) (by omega) (by omega) (by omega), fun cc x z1 z2 z3 => TOT cc x (by omega) (by omega) (by omega) (by omega)⟩))))
              have RF0 : RFe a b r v3.2 := rfe_t (rfe_t x10 i10 (a := a) (b := b) ⟨Int.le_refl _, by omega⟩ ⟨by omega, by omega⟩) k10 ⟨Int.le_refl _, Int.le_refl _⟩ ⟨by omega, Int.le_refl _⟩
              have RF : RFe a b r z0 := ⟨fun cc x z1 z2 z3 => (Z0 cc x (by omega)).trans (RF0.1 cc x z1 z2 z3), fun cc x z1 z2 z3 => (Z0 cc x (by omega)).trans (RF0.2 cc x z1 z2 z3)⟩
              refine crz_ok (z0 := z0) hz.symm z9 ⟨⟨⟨(TOT 2 10 (by omega) (by omega) (by omega) (by omega)).trans k1, k2, by omega, (TOT 2 11 (by omega) (by omega) (by omega) (by omega)).trans k4, z9⟩, ⟨by rw [t12], by rw [t12]; exact vty.1, by show z0 174 e.toNat = _; rw [← hz, up_s]⟩, ⟨CF, RF, SB⟩, ⟨frc_k F11 (fun cc x z => E12 cc x (by omega)), ⟨by omega, by omega⟩, by omega, by omega⟩, .inl ⟨.inr ⟨t11, fun z => by have := z.2; omega, by rw [t12]; exact vty.2⟩, fun _ => .inl ⟨by omega, by omega, fun z => by omega⟩, fun nq => ?_⟩⟩, trivial, fun _ => .inl t11⟩
              obtain ⟨⟨FH3, -⟩, FM3⟩ := (FX3 nq).2.2 nq
              rw [if_neg n33] at FH3
              refine ⟨⟨by rw [if_neg (by rw [t12]; exact vty.2)]; omega, cp_top A6 (by omega) (by omega) (fun x => by rw [E12 36 x (by omega), U11 36 x (by omega) (by omega) (by omega)]) t12⟩, mkc_one nl ne (fun PB WL L m dd M A z1 z2 => ?_)⟩
              have V1 : ∀ cc x : Nat, 174 ≤ cc → cc ≤ 176 → a ≤ (x : Int) → (x : Int) < e → z0 cc x = v1.2 cc x := fun cc x c1 c2 c4 c5 => by rw [Z0 cc x (by omega), k10.2 cc x c1 c2 (by omega)]; exact i10.2 cc x c1 c2 (by omega)
              have V2 : ∀ cc x : Nat, 174 ≤ cc → cc ≤ 176 → e + 1 ≤ (x : Int) → (x : Int) < y0 → z0 cc x = v2.2 cc x := fun cc x c1 c2 c4 c5 => by rw [Z0 cc x (by omega)]; exact k10.2 cc x c1 c2 (by omega)
              have V3 : ∀ cc x : Nat, 174 ≤ cc → cc ≤ 176 → y0 ≤ (x : Int) → (x : Int) < b → z0 cc x = v3.2 cc x := fun cc x c1 c2 c4 c5 => Z0 cc x (by omega)
              exact m_choice (v := z0) (ty := ty) (y0 := y0) (u1 := u1) (g1 := u17.2) (h21 := h21) (u24 := u24) (g3 := u31) (g4 := u34) (h38 := h38) (u41 := u41) (u46 := h1) (g5 := u4) (g6 := u8) (g7 := u11) ne yb M (mkc_v FM V1) A1 E21 (mkc_v FM2 V2) AJ A4 E38 (mkc_v FM3 V3) (fun cc x z => E1 cc x (by omega)) A5 A6 A7 (fun cc x z => E12 cc x (by omega)) nd.1 A (by rw [← hz, up_s]) z1 z2 (by omega) FH FH2 FH3 (by omega) (by omega) (by omega) (by omega) vty
            refine pc_sv (c_isPair Y B3 i7 k7) ?_; intro u44 q44
            rcases q44 with ⟨y1, pr⟩ | ⟨y1, npr⟩
            · rw [y1]
              refine pc_sv c_want1 ?_; intro u46 e46
              rw [e46]
              refine pc_sv (c_fit Y B3 i7 k7) ?_; intro u50 q50
              refine pc_if (fun z => ?_) (fun z => ?_)
              · have nf : ¬ FTS (bB X 180) (u24 49 12) (u41 49 12) := by
                  rcases q50 with y | y
                  · omega
                  · exact y.2
                exact pc_imp (FIN (u24 49 12) ⟨i7, n3⟩) (fun uF HU => REFX (fun _ => ⟨fun f => absurd f nf, fun _ => HU⟩) (fun z => absurd pr z))
              · have nf : FTS (bB X 180) (u24 49 12) (u41 49 12) := by
                  rcases q50 with y | y
                  · exact y.2
                  · exact absurd y.1 z
                exact pc_imp (FIN (u41 49 12) ⟨k7, n33⟩) (fun uF HU => REFX (fun _ => ⟨fun _ => HU, fun f => absurd nf f⟩) (fun z => absurd pr z))
            · rw [y1]
              refine c_wf B3.1.1.1.1 k4 tc rfl (fun g S => ?_) (fun uF y => REFX (fun z => absurd z npr) (fun _ y' y9 y10 => crz_f (c := 6) (by omega) y.1 y.2 y9 y10))
              refine pc_sv pc_any ?_; intro u50 _
              exact pc_if (fun _ => fs_qj_X10_readChoice_158 G S) (fun _ => fs_qj_X10_readChoice_158 G S)
          · rw [if_pos tb]
            unfold qj_X10_readChoice_24
            refine c_wf TB1 x4 q2 rfl (fun g S => chf_1 S G) (fun uF y w hw d3 => ?_)
            rcases hw.2.2 x5 (u1 49 12) x7 n303 x6 with ⟨y2, -⟩ | ⟨-, w1, w2⟩
            · exact absurd y2 tb
            · exact pc_imp (rst_f (by omega) (ftg_X13_condition nn d3)) (fun y' F => crz_f (c := 6) (by omega) y.1 y.2 (F.1.trans w1) (F.2.trans w2))
      · have FW : ¬ uF 2 11 = 0 ∧ w 160 9 = uF 2 11 ∧ w 160 10 = uF 2 12 := by
          rcases SV with SV | SV
          · have F := hw.1 (sf_r SV)
            exact ⟨SV.1, F.1.trans SV.2.1, F.2.trans SV.2.2⟩
          · obtain ⟨⟨s1, s2, s3, s4⟩, ⟨s5, s6, s7⟩, s8⟩ := SV
            obtain ⟨y1, y2⟩ := hw.2.1 s6 s5
            exact ⟨by omega, by omega, by rw [y2 ⟨s3, s4.1⟩, s2]⟩
        exact pc_imp (rst_f (by rw [FW.2.1]; exact FW.1) (ftg_X13_condition nn d3)) (fun y F => crz_f FW.1 rfl rfl (F.1.trans FW.2.1) (F.2.trans FW.2.2))
    intro uF eF
    refine w_one (by omega) q4 (r_nled (by rw [T 167 _ (by omega)]; exact nl)) (fun d3 => ?_) d2
    refine ru_39 ((T 167 _ (by omega)).trans nd.1) ?_
    refine pc_rA ?_; intro _ _ v85 e85
    rw [T 170 _ (by omega)] at e85
    rw [e85]
    exact pc_sb (r_condA Y TQ T L1 q2 (fun d => pc_imp (pc_and (K1 d uF eF) ((rkg_condition nn d).2.2.1 (a1 := bT X 170 e.toNat) (h := r) (by omega))) (fun v1 HZ w hw => HZ.1 HZ.2 w hw d3)) d3)
end
