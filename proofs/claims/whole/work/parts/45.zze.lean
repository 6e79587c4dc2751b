/- E of both sides: instanceof -/
section
variable {nn : Nat} {X : BCx} {dp i l a b e s k : Int} {p q t : Nat} {h g u r w m : ms_M} {v : Int × ms_M}
/-- the class's loop behind a part -/
theorem c_v30 {rc : tq_X10_readValue} {st bs tn : Int} {kf : Nat} {Z : ms_M → Prop} (Y : CXs X) (TB : TBc (bK X) (bP X) (bc X) u) (qc : q < bc X) (hp : u 2 10 = (q : Int)) (hf : u 2 11 = 0) (ht : tn < 3000) (C : CLP nn rc (bK X q) dp st bs tn 0 u Z) : Pc (qw_X10_readValue_30 nn rc kf dp st bs tn u) Z := by
  cases kf with
  | zero => exact pc_none
  | succ k =>
    unfold qw_X10_readValue_30
    refine pc_if (fun z => absurd z (by omega)) (fun _ => ?_)
    refine pc_sv (c_kind Y.1 TB qc hp hf) ?_; intro u40 q40
    rw [q40]
    refine pc_sv c_lev ?_; intro u41 q41
    exact pc_if (fun z => C.2 (by omega) nn) (fun z => C.1 (by omega) nn k)
theorem s1_si {ix : Int} (Y : CXs X) (ne : 0 ≤ a ∧ a ≤ e ∧ e < b) (hd : 1 ≤ dp ∧ dp ≤ 40) (nd : bT X 167 e.toNat = 38 ∧ bT X 168 e.toNat = ((t + 1 : Nat) : Int)) (sk : l ≤ 6 ∧ bK X t = 19 ∧ bK X (t + 1) = 2 ∧ q = t + 2) (r1 : a ≤ bT X 170 e.toNat ∧ bT X 170 e.toNat < e) (CH : S1 nn X dp ix 6 a e p t (bT X 170 e.toNat)) (pt : p < t) : S1 nn X dp 0 l a b p q e := by
  have n8 := Y.2.2.1
  have c3 := Y.1.2.1
  obtain ⟨k6, k19, k2, hq⟩ := sk
  subst hq
  have tc1 : t + 1 < bc X := tb_lt Y.1 (by omega)
  have tc2 : t + 2 < bc X := jp_lt Y.1 tc1 (by omega)
  refine s1_led (s := 6) Y ne r1 CH ⟨by rw [k19]; decide, by omega, by omega, k6⟩ (.inr nd.1) (fun r2 d2 y TQ TT hf g3 tk HD ey => ?_) (fun hs d d2 kf h r r1' u1 v1 st bs tn Z Q SG b57 R1 Q1 K FX n303 ht HC HF => ?_)
  · cases d2 with
    | zero => exact absurd ey (fun z => nomatch z)
    | succ d3 =>
      have W : Pc (qo_X13_rule nn (qg_X13_condition nn d3) e r2) (fun y => y.2 160 9 = 6 ∧ y.2 160 10 = bP X (bT X 168 (bT X 170 e.toNat).toNat).toNat) := by
        refine ru_38 (by rw [TT 167 _ (by omega)]; exact nd.1) ?_
        have LED : Pc (qf_X13_led nn e r2) (fun u => u.1 = 3 ∧ u.2 160 9 = 6 ∧ u.2 160 10 = bP X (bT X 168 (bT X 170 e.toNat).toNat).toNat) := r_led3 TQ hf (TT 170 _ (by omega)) g3 (tk := (bT X 168 (bT X 170 e.toNat).toNat).toNat) (by rw [TT 168 _ (by omega)]; omega) (by omega)
        have P493 : ∀ l3 : Int, Pc (qj_X13_rule_493 nn (qg_X13_condition nn d3) e l3 r2) (fun y => y.2 160 9 = 6 ∧ y.2 160 10 = bP X (bT X 168 (bT X 170 e.toNat).toNat).toNat) := fun l3 => by
          unfold qj_X13_rule_493
          refine pc_rA ?_; intro _ _ v26 e26
          rw [TT 167 _ (by omega), nd.1] at e26
          refine pc_if (fun _ => ?_) (fun z => absurd (show ¬ v26 = 36 by omega) z)
          refine pc_sv LED ?_; intro u28 ⟨z1, z2, z3⟩
          exact pc_imp (ft_qj_X13_rule_522 (ftg_X13_condition nn d3) (h := u28.2) (by omega)) (fun y F => ⟨by rw [F.1]; exact z2, by rw [F.2]; exact z3⟩)
        unfold qj_X13_rule_455
        refine pc_rA ?_; intro _ _ v35 _
        refine pc_sv pc_any ?_; intro u37 _
        refine pc_if (fun _ => P493 _) (fun _ => ?_)
        refine pc_rA ?_; intro _ _ v39 e39
        rw [TT 167 _ (by omega), nd.1] at e39
        exact pc_if (fun _ => P493 _) (fun z => absurd (show ¬ v39 = 36 by omega) z)
      exact W y ey
  · have Q0 := Q
    obtain ⟨B, ⟨q1, q2, q3, q4⟩, ⟨f1, f2, f3⟩, o1⟩ := Q0
    obtain ⟨⟨x1, x2, x3, x4, x5⟩, ⟨x6, x7, x8⟩, ⟨x9, x10, x11⟩, ⟨x12, x13, x14⟩, -⟩ := K.1
    obtain ⟨⟨FH, -⟩, FM⟩ := FX.2.2 (by omega)
    rw [if_neg n303] at FH
    have G := fsg_X10_readValue nn d
    generalize hr2 : up_M v1.2 160 57 (r 160 57) = r2
    have E2 : ∀ cc x : Nat, ¬ (cc = 160 ∧ x = 57) → r2 cc x = v1.2 cc x := fun cc x z => by rw [← hr2, up_n z]
    have Bu1 : BX X u1 v1.2 := bx_e Q1.1 x9 x10
    have Bu2 : BX X u1 r2 := bx_k Bu1 (fun _ _ _ => rfl) (fun cc x z => E2 cc x (by omega))
    have TB1 : TBc (bK X) (bP X) (bc X) u1 := Bu1.1.1.1.1
    have TQ2 : TBq (bK X) (bP X) (bc X) r2 := Bu2.1.1.2.2.1
    have T8 : ∀ cc x : Nat, 163 ≤ cc ∧ cc ≤ 173 → r2 cc x = bT X cc x := fun cc x z => Bu2.2.2.2.2.2.1 cc x (by omega)
    have r29 : r2 160 9 = 0 := by rw [E2 160 9 (by omega)]; exact x5
    have g1 : r2 174 (bT X 170 e.toNat).toNat = ty_T (u1 49 12) := by rw [E2 174 _ (by omega), x8]; exact x6
    have RR : RFe a b r r2 := by
      have R2 : RFe a b r v1.2 := rfe_t R1 x10 ⟨Int.le_refl _, Int.le_refl _⟩ ⟨Int.le_refl _, by omega⟩
      exact ⟨fun cc x z1 z2 z3 => by rw [E2 cc x (by omega)]; exact R2.1 cc x z1 z2 z3, fun cc x z1 z2 z3 => by rw [E2 cc x (by omega)]; exact R2.2 cc x z1 z2 z3⟩
    have v0 := (Bu2.1.1.2.2.2.1.1 (t + 1) (by omega) k2).1.1
    have s3 : ¬ ty_T (u1 49 12) = 3 := fun z => n303 ((ty_3 (X := X) n8 x7).mp z)
    have FB : ∀ (uF : ms_M) (y : Int × ms_M) (c pl : Int), ¬ c = 0 → uF 2 11 = c → uF 2 12 = pl → y.2 160 9 = c → y.2 160 10 = pl → ∀ z : ms_M, z = up_M y.2 174 e.toNat y.1 → (¬ z 160 9 = 0 → Z uF (0, z)) ∧ (z 160 9 = 0 → Z uF (y.1, z)) := fun uF y c pl c0 a1 a2 a3 a4 z ez => by
      have z9 : z 160 9 = c := by rw [ez, up_n (by omega)]; exact a3
      have z10 : z 160 10 = pl := by rw [ez, up_n (by omega)]; exact a4
      exact ⟨fun _ => HF uF (0, z) (.inl ⟨by omega, by show z 160 9 = _; rw [z9, a1], by show z 160 10 = _; rw [z10, a2]⟩), fun y => absurd (z9.symm.trans y) c0⟩
    suffices MAIN : ∀ d3 : Nat, Pc (qj_X10_readValue_90 nn (qg_X10_readValue nn d) (qw_X10_readValue_30 nn (qg_X10_readValue nn d) kf) (dp - 1) st bs tn u1) (fun uF => Pc (qj_X13_rule_455 nn (qg_X13_condition nn d3) e r2) (fun y => ∀ z : ms_M, z = up_M y.2 174 e.toNat y.1 → (¬ z 160 9 = 0 → Z uF (0, z)) ∧ (z 160 9 = 0 → Z uF (y.1, z)))) by
      cases d2 with
      | zero => exact fun uF _ r2' e2' => pc_none
      | succ d3 =>
        refine pc_imp (MAIN d3) (fun uF H r2' e2' => ?_)
        rw [e2']
        exact ru_38 (by rw [T8 167 _ (by omega)]; exact nd.1) H
    intro d3
    have Gt := ftg_X13_condition nn d3
    -- the reference
    have REF : ∀ {QQ : Int × ms_M → Prop} (c : Int), CLz (fun k => bV X (bC X k)) (bn X) (bV X (t + 1)) c → (c = -1 → ∀ y : Int × ms_M, y.2 160 9 = 5 → y.2 160 10 = bP X (t + 1) → QQ y) → (¬ c = -1 → ∀ y : Int × ms_M, ((KNo X (u1 49 12) c ∧ y = (1, up_M r2 176 e.toNat (ty_T c))) ∨ (¬ KNo X (u1 49 12) c ∧ y.2 160 9 = 6 ∧ y.2 160 10 = bP X (t + 1))) → QQ y) → Pc (qj_X13_rule_455 nn (qg_X13_condition nn d3) e r2) QQ := fun {QQ} c cl H1 H2 => by
      have P493 : Pc (qj_X13_rule_493 nn (qg_X13_condition nn d3) e c r2) QQ := by
        unfold qj_X13_rule_493
        refine pc_rA ?_; intro _ _ v26 e26
        rw [T8 167 _ (by omega), nd.1] at e26
        refine pc_if (fun _ => ?_) (fun z => absurd (show ¬ v26 = 36 by omega) z)
        refine pc_sv (r_ledv r29 (T8 170 _ (by omega)) g1 s3) ?_; intro u28 q28
        rw [q28]
        dsimp only
        unfold qj_X13_rule_522
        refine pc_if (fun z => ?_) (fun z => ?_)
        · refine pc_imp (r_kinOf Y TQ2 (bx_180 Bu2) r29 tc1 ((T8 168 _ (by omega)).trans nd.2) x7 n303 (clz_v cl v0 z)) (fun y hy => H2 z y ?_)
          rcases hy with ⟨y1, y2, y3⟩ | y1
          · rw [T8 167 _ (by omega), nd.1, if_pos rfl] at y2
            exact .inl ⟨y1, Prod.ext y2 y3⟩
          · exact .inr y1
        · refine pc_rA ?_; intro _ _ v21 e21
          rw [T8 168 _ (by omega), nd.2] at e21
          refine pc_sv (r_wrong TQ2 tc1 r29 e21) ?_; intro u23 w1
          exact pc_imp (ft_qj_X13_rule_539 Gt (h := u23) (by omega)) (fun y F => H1 (Classical.byContradiction z) y (by rw [F.1]; exact w1.1) (by rw [F.2]; exact w1.2))
      unfold qj_X13_rule_455
      refine pc_rA ?_; intro _ _ v35 e35
      rw [T8 168 _ (by omega), nd.2] at e35
      refine pc_sv (r_classOf Y.1 Y.2.1 Bu2.1.1.2.2 k2 e35) ?_; intro u37 q37
      rw [cls_d q37 cl]
      refine pc_if (fun _ => P493) (fun _ => ?_)
      refine pc_rA ?_; intro _ _ v39 e39
      rw [T8 167 _ (by omega), nd.1] at e39
      exact pc_if (fun _ => P493) (fun z => absurd (show ¬ v39 = 36 by omega) z)
    unfold qj_X10_readValue_90
    refine pc_sv (c_kind Y.1 TB1 x2 x1 x4) ?_; intro u16 q16
    refine pc_if (fun z => absurd (q16.trans k19) z) (fun _ => ?_)
    have TAILF : ∀ g : ms_M, ¬ g 2 11 = 0 → Pc (xl (oq_add tn 1) fun v25 => qw_X10_readValue_30 nn (qg_X10_readValue nn d) kf (dp - 1) st bs v25 g) (fun uF => FSc g uF) := fun g S => pc_xl (fun v25 _ => fs_qw_X10_readValue_30 G kf _ _ _ _ g S)
    unfold qf_X10_readInstanceof
    rw [x1]
    refine p2_x ?_; intro v5 e5
    rw [oq_add_eq (by omega) (by omega) (by omega)] at e5
    refine p2_x ?_; intro v6 e6
    rw [oq_add_eq (by omega) (by omega) (by omega)] at e6
    refine p2_m ?_
    refine pc_imp (c_rnc Y Bu2 x4 k2 (x := v5) (y := v6) (by omega)) (fun u8 q8 => ?_)
    rcases q8 with ⟨cl, cn, eu⟩ | ⟨cl, cn, w1, w2⟩
    · have cb := clz_v cl v0 cn
      rw [if_neg cn]
      have E8 : ∀ cc x : Nat, ¬ (cc = 2 ∧ x = 10) → u8.2 cc x = u1 cc x := fun cc x z => by rw [eu, up_n z]
      have p8 : u8.2 2 10 = ((t + 2 : Nat) : Int) := by rw [eu, up_s]; omega
      generalize u8.2 = h8 at E8 p8 ⊢
      generalize u8.1 = c at cl cn cb ⊢
      have B8 : BX X h8 r2 := bx_k Bu2 (fun cc x z => E8 cc x (by omega)) (fun _ _ _ => rfl)
      have t8 : h8 49 12 = u1 49 12 := E8 49 12 (by omega)
      refine p2_m ?_
      refine pc_imp (c_kinOf Y B8 (by rw [E8 2 11 (by omega)]; exact x4) tc1 (show v5 = ((t + 1 : Nat) : Int) by omega) (by rw [t8]; exact x7) cb) (fun u10 q10 => ?_)
      rw [t8] at q10
      rcases q10 with ⟨kn, e10⟩ | ⟨kn, w1, w2⟩
      · rw [e10]
        have a81 := E8 34 1 (by omega)
        have a83 := E8 34 3 (by omega)
        have CKK : Pc (mx_sv (qf_X6_classOf nn c h8) fun u14 => mx_sv (qf_X1_op_ nn 193 u14.1 u14.2) fun u16 => mx_sv (qf_X1_pop nn 1 u16) fun u19 => mx_sv (qf_X1_push nn 302 u19) fun u22 => some u22) (fun u22 => CKr nn X 193 c 302 h8 u22) := c_kr Y (by omega) (by omega) cb (by unfold in_R; omega) ⟨.inr (.inl rfl), by omega⟩ (fun u15 CK => pc_ret CK)
        refine p2_m ?_
        intro u14 e14
        refine p2_m ?_
        intro u16' e16
        refine p2_m ?_
        intro u19 e19
        refine p2_m ?_
        intro u22 e22
        have CK : CKr nn X 193 c 302 h8 u22 := CKK u22 (by rw [e14, mx_svs, e16, mx_svs, e19, mx_svs, e22, mx_svs])
        unfold qj_X10_readInstanceof_66
        refine p2_x ?_; intro h1 e1
        refine p2_x ?_; intro h2 e2
        rw [mx_svs]
        refine pc_add (by omega) ?_; intro v25 e25
        have E22 : ∀ cc x : Nat, ¬ (cc = 49 ∧ (x = 11 ∨ x = 12)) → h2 cc x = u22 cc x := fun cc x z => by rw [e2, up_n (by omega), e1, up_n (by omega)]
        have t11 : h2 49 11 = 0 := by rw [e2, up_s]
        have t12 : h2 49 12 = 302 := by rw [e2, up_n (by omega), e1, up_s]
        obtain ⟨z1, ⟨z2, z3, z4⟩, z5, z6, z7⟩ := CK
        have TOT : ∀ cc x : Nat, ¬ (cc = 2 ∧ x = 10) → ¬ (cc = 34 ∧ (x = 1 ∨ x = 3 ∨ x = 4)) → ¬ (cc = 35 ∨ cc = 36) → ¬ (cc = 45 ∧ (x = 4 ∨ x = 5)) → ¬ (cc = 46 ∨ cc = 47) → ¬ (cc = 49 ∧ (x = 11 ∨ x = 12)) → h2 cc x = u1 cc x := fun cc x c0 c1 c2 c3 c4 c5 => by rw [E22 cc x c5, z1 cc x c1 c2 c3 c4]; exact E8 cc x c0
        have g31 : h2 34 1 = u1 34 1 + 2 := by rw [E22 34 1 (by omega), z2]; omega
        have g33 : h2 34 3 = u1 34 3 := by rw [E22 34 3 (by omega), z5 (by omega)]; omega
        generalize hz : up_M (up_M r2 176 e.toNat (ty_T c)) 174 e.toNat 1 = z0
        have Z0 : ∀ cc x : Nat, ¬ (174 ≤ cc ∧ cc ≤ 176 ∧ x = e.toNat) → z0 cc x = r2 cc x := fun cc x c => by rw [← hz, up_n (by omega), up_n (by omega)]
        have za : z0 174 e.toNat = 1 := by rw [← hz, up_s]
        have zb : z0 176 e.toNat = ty_T c := by rw [← hz, up_n (by omega), up_s]
        have z09 : z0 160 9 = 0 := (Z0 160 9 (by omega)).trans r29
        have p2' : h2 2 10 = ((t + 2 : Nat) : Int) := by rw [E22 2 10 (by omega), z1 2 10 (by omega) (by omega) (by omega) (by omega)]; exact p8
        have f2' : h2 2 11 = 0 := by rw [TOT 2 11 (by omega) (by omega) (by omega) (by omega) (by omega) (by omega)]; exact x4
        have CFu : CFe u1 h2 := fun cc x c1 c2 c3 c4 c5 c6 c7 c8 => TOT cc x (by omega) (by omega) (by omega) (by omega) (by omega) (by omega)
        have EE : EOk nn X 0 a b p (t + 2) e h r h2 (1, z0) := by
          refine ⟨⟨⟨p2', tc2, by omega, f2', z09⟩, ⟨by rw [t12]; rfl, by rw [t12]; exact .inr (.inl rfl), za⟩, ⟨cfe_t x9 CFu, ⟨fun cc x c1 c2 c3 => (Z0 cc x (by omega)).trans (RR.1 cc x c1 c2 c3), fun cc x c1 c2 c3 => (Z0 cc x (by omega)).trans (RR.2 cc x c1 c2 c3)⟩, sgb_t x11 ⟨TOT 49 10 (by omega) (by omega) (by omega) (by omega) (by omega) (by omega), fun cc x c1 c2 c3 => TOT cc x (by omega) (by omega) (by omega) (by omega) (by omega) (by omega)⟩⟩, ⟨frc_k x12 (fun cc x c => TOT cc x (by omega) (by omega) (by omega) (by omega) (by omega) (by omega)), ⟨by omega, by omega⟩, by omega, by omega⟩, .inl ⟨.inr ⟨t11, fun c => by have := c.2; omega, by rw [t12]; omega⟩, fun _ => .inl ⟨by omega, by omega, fun c => by omega⟩, fun nq => ⟨⟨by rw [t12, if_neg (by decide)]; omega, .inr ?_⟩, ?_⟩⟩⟩, ?_, fun _ => .inl t11⟩
          · rw [t12, E22 34 3 (by omega), E22 36 _ (by omega)]
            exact z6
          · refine mkc_led (q1 := t) (g := u1) (.inl (.inr (.inr (.inr nd.1)))) ne (mkc_v FM (fun cc x c1 c2 c4 c5 => (Z0 cc x (by omega)).trans (E2 cc x (by omega)))) (by omega) (fun PB WL L m dd M A b1 b2 => ?_)
            obtain ⟨MT, -, -, -⟩ := mk_t M
            have a4 : m 174 e.toNat = 1 := (A 174 e.toNat (by omega) (by omega) (by omega) (by omega)).trans za
            have a6 : m 176 e.toNat = ty_T c := (A 176 e.toNat (by omega) (by omega) (by omega) (by omega)).trans zb
            refine wo_38 ((MT 167 e.toNat (by omega)).trans nd.1) a4 ?_
            unfold qj_X13_workOne_588 qj_X13_workOne_609
            refine pc_rA ?_; intro _ _ v15 e15
            rw [MT 167 e.toNat (by omega), nd.1] at e15
            refine pc_if (fun _ => ?_) (fun z => absurd (show ¬ v15 = 36 by omega) z)
            refine pc_rA ?_; intro _ _ v12 e12
            rw [MT 167 e.toNat (by omega), nd.1] at e12
            refine pc_if (fun _ => ?_) (fun z => absurd (show ¬ v12 = 36 by omega) z)
            have M8 : MKx X PB WL L h8 m := mkx_c M (fun cc x c1 c2 c3 => E8 cc x (by omega))
            refine pc_imp (w_kr (t := 302) ⟨z1, ⟨z2, z3, z4⟩, z5, z6, z7⟩ (by omega) M8 (by omega) a6 rfl) (fun w2 y => ⟨mkx_c y.1 (fun cc x c1 c2 c3 => E22 cc x (by omega)), by rw [y.2]; omega⟩)
          · rw [TOT 49 15 (by omega) (by omega) (by omega) (by omega) (by omega) (by omega)]; exact K.2.1
        have TB2 : TBc (bK X) (bP X) (bc X) h2 := tbc_k TB1 (fun cc y c => TOT cc y (by omega) (by omega) (by omega) (by omega) (by omega) (by omega))
        refine pc_imp (c_v30 Y TB2 tc2 p2' f2' (by omega) (HC h2 (1, z0) 0 v25 EE (by have := EE.1.2.2.1.2.2.1; omega) (by omega))) (fun uF HZ => REF c cl (fun z => absurd z cn) (fun _ y hy z ez => ?_))
        rcases hy with ⟨-, ey⟩ | ⟨ny, -⟩
        · rw [ey] at ez ⊢
          have ezz : z = z0 := by rw [ez, ← hz]
          rw [ezz]
          exact ⟨fun z => absurd z09 z, fun _ => HZ⟩
        · exact absurd kn ny
      · have S : ¬ u10 2 11 = 0 := by omega
        have TL : Pc (mx_sv (qf_X6_classOf nn c u10) fun u14 => mx_sv (qf_X1_op_ nn 193 u14.1 u14.2) fun u16 => mx_sv (qf_X1_pop nn 1 u16) fun u19 => mx_sv (qf_X1_push nn 302 u19) fun u22 => qj_X10_readInstanceof_66 nn u22) (fun u => FSc u10 u) := by
          refine pc_sv (fs_qf_X6_classOf S) ?_; intro u14 F1
          have S1 : ¬ u14.2 2 11 = 0 := by rw [F1.1]; exact S
          refine pc_sv (fs_qf_X1_op_ S1) ?_; intro u16' F2
          have S2 : ¬ u16' 2 11 = 0 := by rw [F2.1]; exact S1
          refine pc_sv (fs_qf_X1_pop S2) ?_; intro u19 F3
          have S3 : ¬ u19 2 11 = 0 := by rw [F3.1]; exact S2
          refine pc_sv (fs_qf_X1_push S3) ?_; intro u22 F4
          have S4 : ¬ u22 2 11 = 0 := by rw [F4.1]; exact S3
          exact pc_imp (fs_qj_X10_readInstanceof_66 S4) (fun u F5 => fs_t F1 (fs_t F2 (fs_t F3 (fs_t F4 F5))))
        refine pc_sv TL ?_; intro u24 F
        refine pc_imp (TAILF u24 (by rw [F.1]; exact S)) (fun uF F2 => REF c cl (fun z => absurd z cn) (fun _ y hy => ?_))
        rcases hy with ⟨ny, -⟩ | ⟨-, y1, y2⟩
        · exact absurd ny kn
        · exact FB uF y 6 _ (by omega) (by rw [F2.1, F.1]; exact w1) (by rw [F2.2, F.2]; exact w2) y1 y2
    · rw [if_pos cn]
      have S : ¬ u8.2 2 11 = 0 := by omega
      refine pc_sv (fs_qj_X10_readInstanceof_66 S) ?_; intro u24 F
      refine pc_imp (TAILF u24 (by rw [F.1]; exact S)) (fun uF F2 => REF (-1) cl (fun _ y y1 y2 => FB uF y 5 _ (by omega) (by rw [F2.1, F.1]; exact w1) (by rw [F2.2, F.2]; exact w2) y1 y2) (fun z => absurd rfl z))
end
