/- E of both sides: a sign with two sides -/
section
variable {nn : Nat} {X : BCx} {dp i l a b e s k : Int} {p q t : Nat} {h g u r w m : ms_M} {v : Int × ms_M}
theorem s1_sb {ix iy : Int} (Y : CXs X) (ne : 0 ≤ a ∧ a ≤ e ∧ e < b) (hd : 1 ≤ dp ∧ dp ≤ 40) (nd : bT X 167 e.toNat = 37 ∧ bT X 168 e.toNat = (t : Int)) (sk : st_T (bK X t) = s ∧ 0 ≤ s ∧ l ≤ s ∧ ¬ bK X t = 19) (r1 : a ≤ bT X 170 e.toNat ∧ bT X 170 e.toNat < e) (CH : S1 nn X dp ix s a e p t (bT X 170 e.toNat)) (L1 : bT X 169 (bT X 170 e.toNat).toNat = (p : Int)) (CR : S1 nn X dp iy (s + 1) (e + 1) b (t + 1) q (bT X 171 e.toNat)) (L2 : bT X 169 (bT X 171 e.toNat).toNat = ((t + 1 : Nat) : Int)) (pt : p < t) (tq : t + 1 < q) : S1 nn X dp 0 l a b p q e := by
  have n8 := Y.2.2.1
  have c3 := Y.1.2.1
  have s9 : s ≤ 9 := by have := st_9 (k := bK X t); omega
  have kk : SGk (bK X t) ∨ bK X t = 67 ∨ bK X t = 69 := by
    by_cases z : bK X t = 67 ∨ bK X t = 69
    · exact .inr z
    · exact .inl (sgk_of (by omega) ⟨sk.2.2.2, by omega, by omega⟩)
  have n51 : ¬ bK X t = 51 := fun z => by
    have := sk.1
    rw [z] at this
    have : st_T 51 = -1 := by decide
    omega
  refine s1_led (s := s) Y ne r1 CH ⟨sk.1, sk.2.1, s9, sk.2.2.1⟩ (.inl nd.1) (fun r2 d2 y TQ TT hf g3 tk HD ey => ?_) (fun hs d d2 kf h r r1' u1 v1 st bs tn Z Q SG b57 R1 Q1 K FX n303 ht HC HF => ?_)
  · cases d2 with
    | zero => exact absurd ey (fun z => nomatch z)
    | succ d3 =>
      have W : Pc (qo_X13_rule nn (qg_X13_condition nn d3) e r2) (fun y => y.2 160 9 = 6 ∧ y.2 160 10 = bP X (bT X 168 (bT X 170 e.toNat).toNat).toNat) := by
        refine ru_37 (by rw [TT 167 _ (by omega)]; exact nd.1) ?_
        cases d3 with
        | zero => exact fun r e => nomatch e
        | succ d4 =>
          refine pc_sb (pc_imp (r_bothV (t1 := (bT X 168 (bT X 170 e.toNat).toNat).toNat) (tk := t) TQ (fun cc x z => TT cc x (by omega)) hf g3 (by omega) (by omega)) (fun y hy => pc_ret hy))
      exact W y ey
  · have Q0 := Q
    obtain ⟨B, ⟨q1, q2, q3, q4⟩, ⟨f1, f2, f3⟩, o1⟩ := Q0
    obtain ⟨⟨x1, x2, x3, x4, x5⟩, ⟨x6, x7, x8⟩, ⟨x9, x10, x11⟩, ⟨x12, x13, x14⟩, -⟩ := K.1
    obtain ⟨⟨FH, -⟩, FM⟩ := FX.2.2 n51
    rw [if_neg n303] at FH
    have G := fsg_X10_readValue nn d
    generalize hr2 : up_M v1.2 160 57 (r 160 57) = r2
    have E2 : ∀ cc x : Nat, ¬ (cc = 160 ∧ x = 57) → r2 cc x = v1.2 cc x := fun cc x z => by rw [← hr2, up_n z]
    have s57 : r2 160 57 = r 160 57 := by rw [← hr2, up_s]
    have Bu1 : BX X u1 v1.2 := bx_e Q1.1 x9 x10
    have Bu2 : BX X u1 r2 := bx_k Bu1 (fun _ _ _ => rfl) (fun cc x z => E2 cc x (by omega))
    have TB1 : TBc (bK X) (bP X) (bc X) u1 := Bu1.1.1.1.1
    have TQ2 : TBq (bK X) (bP X) (bc X) r2 := Bu2.1.1.2.2.1
    have T8 : ∀ cc x : Nat, 163 ≤ cc ∧ cc ≤ 173 → r2 cc x = bT X cc x := fun cc x z => Bu2.2.2.2.2.2.1 cc x (by omega)
    have r29 : r2 160 9 = 0 := by rw [E2 160 9 (by omega)]; exact x5
    have g1 : r2 174 (bT X 170 e.toNat).toNat = ty_T (u1 49 12) := by rw [E2 174 _ (by omega), x8]; exact x6
    have RR : RFe a b r r2 := by
      have R2 : RFe a b r v1.2 := rfe_t R1 x10 ⟨Int.le_refl _, Int.le_refl _⟩ ⟨Int.le_refl _, by omega⟩
      exact ⟨fun cc x z1 z2 z3 => by rw [E2 cc x (by omega)]; exact R2.1 cc x z1 z2 z3, fun cc x z1 z2 z3 => by rw [E2 cc x (by omega)]; exact R2.2 cc x z1 z2 z3⟩
    have pc : p < bc X := q2
    suffices MAIN : ∀ d4 : Nat, Pc (qj_X10_readValue_90 nn (qg_X10_readValue nn d) (qw_X10_readValue_30 nn (qg_X10_readValue nn d) kf) (dp - 1) st bs tn u1) (fun uF => Pc (qo_X13_both nn (qg_X13_condition nn d4) e r2) (fun y => ∀ z : ms_M, z = up_M y.2 174 e.toNat y.1 → (¬ z 160 9 = 0 → Z uF (0, z)) ∧ (z 160 9 = 0 → Z uF (y.1, z)))) by
      cases d2 with
      | zero => exact fun uF _ r2' e2' => pc_none
      | succ d3 =>
        cases d3 with
        | zero =>
          intro uF _ r2' e2'
          rw [e2']
          exact ru_37 (by rw [T8 167 _ (by omega)]; exact nd.1) (fun r e => nomatch e)
        | succ d4 =>
          refine pc_imp (MAIN d4) (fun uF H r2' e2' => ?_)
          rw [e2']
          exact ru_37 (by rw [T8 167 _ (by omega)]; exact nd.1) (pc_sb (pc_imp H (fun y hy => pc_ret hy)))
    intro d4
    unfold qj_X10_readValue_90
    refine pc_sv (c_kind Y.1 TB1 x2 x1 x4) ?_; intro u16 q16
    refine pc_if (fun _ => ?_) (fun z => absurd (show ¬ u16 = 19 by omega) z)
    obtain ⟨o, ho⟩ : ∃ o : Nat, h 49 10 = (o : Int) := ⟨(h 49 10).toNat, by omega⟩
    have ho1 : u1 49 10 = (o : Int) := by rw [x11.1]; exact ho
    have tc1 : t + 1 < bc X := jp_lt Y.1 x2 (by unfold SGk at kk; omega)
    refine pc_sv (c_openS (o := o) (p := p) Y TB1 x2 x1 x4 ho1 (by omega) rfl kk K.2.1 pc (by omega) (by omega)) ?_; intro u18 hu18
    refine pc_add (by omega) ?_; intro v19 e19
    rw [show v19 = dp by omega]
    have e22 : oq_add tn 1 = tn + 1 := oq_add_eq (by omega) (by omega) (by omega)
    show Pc (mx_sv ((qg_X10_readValue nn d).2.2.1 dp u18) fun u21 => qw_X10_readValue_30 nn (qg_X10_readValue nn d) kf (dp - 1) st bs (oq_add tn 1) u21) _
    rw [e22]
    rcases hu18 with ⟨okl, j, OS⟩ | ⟨k2, nb, w1, w2⟩
    · obtain ⟨⟨y1, y2, y3, y4, y5, y6, y7⟩, y8, y9⟩ := OS
      have b18 : (0 ≤ u18 34 1 ∧ u18 34 1 ≤ u1 34 1 + 3) ∧ (0 ≤ u18 34 3 ∧ u18 34 3 ≤ u1 34 3) := by
        rcases y9 with ⟨-, z1, z2, -⟩ | ⟨-, -, h1, g1', E1, A1, E3⟩
        · omega
        · rw [E3 34 1 (by omega) (by omega) (by omega), E3 34 3 (by omega) (by omega) (by omega), A1.1, A1.2.1, E1 34 1 (by omega), E1 34 3 (by omega)]
          split <;> omega
      have C18 : CFe u1 u18 := fun cc x z1 z2 z3 z4 z5 z6 z7 z8 => y8 cc x (by omega) (by omega) (by omega) (by omega) (by omega)
      have B18 : BX X u18 r2 := bx_k Bu2 (fun cc x z => y8 cc x (by omega) (by omega) (by omega) (by omega) (by omega)) (fun _ _ _ => rfl)
      have F18 : FRc u18 := frc_k x12 (fun cc x z => y8 cc x (by omega) (by omega) (by omega) (by omega) (by omega))
      have a18 : u18 49 18 = h 49 18 := by rw [y8 49 18 (by omega) (by omega) (by omega) (by omega) (by omega)]; exact x9 49 18 (by omega) (by omega) (by omega) (by omega) (by omega) (by omega) (by omega) (by omega)
      have Q18 : EPr X dp (t + 1) u18 r2 := ⟨B18, ⟨y1, tc1, by rw [y8 2 11 (by omega) (by omega) (by omega) (by omega) (by omega)]; exact x4, r29⟩, ⟨F18, ⟨b18.1.1, by omega⟩, b18.2.1, by omega⟩, by have := SG.2.1; omega, by have := SG.2.1; omega, by omega⟩
      have S18 : ∀ cc x : Nat, 50 ≤ cc → cc ≤ 54 → x < o → u18 cc x = h cc x := fun cc x z1 z2 z3 => by rw [y8 cc x (by omega) (by omega) (by omega) (by omega) (by omega)]; exact x11.2 cc x z1 z2 (by omega)
      have LM : ∀ z : ms_M, (∀ cc x : Nat, 174 ≤ cc → cc ≤ 176 → a ≤ (x : Int) → (x : Int) < e → z cc x = v1.2 cc x) → MKC nn X (bT X 170 e.toNat) a e p t h u1 z := fun z E => mkc_v FM E
      rcases y9 with ⟨sg, z1, z2, z3⟩ | ⟨k2, hj, h1, g1', E1, A1, E3⟩
      · -- no short sign
        refine pc_imp (sb_core (ok := OKt X (bK X t) (u1 49 12)) (rt := rt_T (bK X t)) (tke := t) (o := o) Y hd.2 ne nd.1 Q SG ⟨sk.2.1, s9, sk.2.2.1⟩ hs (by omega) Q18 RR (cfe_t x9 C18) ho y2 S18 (by rw [y3]; exact sk.1) (by omega) (by omega) a18 pt tq (by omega) CR (fun x okx vx nx => ?_) (fun u2 v2 K2 n3 => ?_) HC HF) (fun uF HU => r_both2 (tk := t) Y rfl sg x2 (by omega) TQ2 r29 T8 nd.2 g1 ⟨x7, n303⟩ (bx_180 Bu2) HU)
        · unfold rt_T
          split
          · exact ⟨.inr (.inl rfl), by omega⟩
          · exact ⟨vx, nx⟩
        · obtain ⟨⟨i1, i2, i3, i4, i5⟩, ⟨i6, i7, i8⟩, ⟨i9, i10, i11⟩, ⟨i12, i13, i14⟩, -⟩ := K2.1
          have lo : ∀ cc : Nat, 50 ≤ cc → cc ≤ 54 → u2 cc o = u18 cc o := fun cc c1 c2 => i11.2 cc o c1 c2 (by omega)
          refine pc_imp (c_closeS (o := o) (tk := t) (pp := (p : Int)) (s := u1 49 12) (t := u2 49 12) (k := bK X t) Y (bx_e B18 i9 i10) i4 (by rw [i11.1]; exact y2) (by omega) (by rw [lo 50 (by omega) (by omega)]; exact y3) sg (by rw [lo 53 (by omega) (by omega)]; exact y6) rfl ⟨x7, n303⟩ ⟨i7, n3⟩ (by rw [lo 52 (by omega) (by omega), y5]; exact K.2.1) (by rw [lo 51 (by omega) (by omega)]; exact y4) x2 i12 (by omega) (by omega)) (fun u hu => ?_)
          rcases hu with ⟨w1, w2, w3⟩ | w
          · refine .inl ⟨w1, csr_q w2, fun nq FR z ez => ?_⟩
            obtain ⟨⟨j1, -⟩, j2⟩ := FR.2.2 nq
            rw [if_neg n3] at j1
            have h2 : 2 ≤ u2 34 3 := by omega
            refine ⟨by rw [w2.2.2.1.2.2 h2]; omega, mkc_led (q1 := t) (g := u1) (.inl (.inr (.inr (.inl nd.1)))) ne (LM z (fun cc x c1 c2 c4 c5 => by rw [ez, up_n (by omega), i10.2 cc x c1 c2 (by omega)]; exact E2 cc x (by omega))) (by omega) (fun PB WL L m dd M A b1 b2 => ?_)⟩
            obtain ⟨MT, -, -, -⟩ := mk_t M
            refine wo_37 (by rw [MT 167 _ (by omega)]; exact nd.1) rfl ?_
            cases dd with
            | zero => exact fun r e => nomatch e
            | succ dd =>
              have z174 : ∀ x : Nat, a ≤ (x : Int) → (x : Int) < b → m 174 x = z 174 x := fun x c1 c2 => A 174 x (by omega) (by omega) c1 c2
              refine pc_sb (pc_imp (m_bothN (tk := t) (t := t) (s := u1 49 12) (t2 := u2 49 12) (v := v2.2) Y (by omega) rfl sg x2 nd.2 M (fun cc x c1 c2 c4 => by
                by_cases y : (cc = 34 ∧ (x = 1 ∨ x = 3)) ∨ cc = 35
                · rcases y with ⟨rfl, rfl | rfl⟩ | rfl
                  · exact z1
                  · exact z2
                  · exact z3 x
                · exact y8 cc x c1 c2 (by omega) (by omega) (by omega)) j2 w3 h2 x7 i7 ?_ ?_ w1 (an_s A ⟨by omega, Int.le_refl _⟩ (fun cc x c1 c2 c4 c5 => by rw [ez, up_n (by omega)])) (by omega) b2 (by omega) (by omega) (by omega)) (fun w y => pc_ret y))
              · rw [z174 _ (by omega) (by omega), ez, up_n (by omega), i10.2 174 _ (by omega) (by omega) (by omega)]; exact g1
              · rw [z174 _ (by omega) (by omega), ez, up_s]
          · exact .inr w
      · -- && and ||
        have s302 : u1 49 12 = 302 := by
          rcases okl with y | y
          · unfold SGk at y
            omega
          · exact y
        refine pc_imp (sb_core (ok := fun x => x = 302) (rt := fun _ => 302) (tke := t + 1) (o := o) Y hd.2 ne nd.1 Q SG ⟨sk.2.1, s9, sk.2.2.1⟩ hs (by omega) Q18 RR (cfe_t x9 C18) ho y2 S18 (by rw [y3]; exact sk.1) (by omega) (by omega) a18 pt tq (by omega) CR (fun x okx vx nx => ⟨.inr (.inl rfl), by omega⟩) (fun u2 v2 K2 n3 => ?_) HC HF) (fun uF HU => r_bothS (p := p) (tk := t) (t := t + 1) Y k2 x2 (by omega) TQ2 r29 T8 nd.2 L1 q2 L2 tc1 g1 ⟨x7, n303⟩ (fun z => absurd s302 z) (fun _ => HU))
        obtain ⟨⟨i1, i2, i3, i4, i5⟩, ⟨i6, i7, i8⟩, ⟨i9, i10, i11⟩, ⟨i12, i13, i14⟩, -⟩ := K2.1
        have lo : ∀ cc : Nat, 50 ≤ cc → cc ≤ 54 → u2 cc o = u18 cc o := fun cc c1 c2 => i11.2 cc o c1 c2 (by omega)
        refine pc_imp (c_closeH (o := o) (tk := t + 1) (pp := (p : Int)) (j := j) (k := bK X t) Y (bx_e B18 i9 i10) i4 (by rw [i11.1]; exact y2) (by omega) (by rw [lo 50 (by omega) (by omega)]; exact y3) k2 (by rw [lo 52 (by omega) (by omega), y5]; exact K.2.1) (by rw [lo 54 (by omega) (by omega)]; exact y7) (by omega) K2.2.1 tc1 i12 (by omega) (by omega)) (fun u hu => ?_)
        rcases hu with ⟨w1, w2, w3, h2, g2, E4, A2, E5⟩ | w
        · refine .inl ⟨w1, w2, fun nq FR z ez => ?_⟩
          obtain ⟨⟨j1, -⟩, j2⟩ := FR.2.2 nq
          rw [if_neg n3] at j1
          have u183 : u18 34 3 = u1 34 3 - 1 := by
            rw [E3 34 3 (by omega) (by omega) (by omega), A1.2.1, E1 34 3 (by omega)]
            split <;> omega
          refine ⟨by rw [w3 (by omega)]; omega, mkc_led (q1 := t) (g := u1) (.inl (.inr (.inr (.inl nd.1)))) ne (LM z (fun cc x c1 c2 c4 c5 => by rw [ez, up_n (by omega), i10.2 cc x c1 c2 (by omega)]; exact E2 cc x (by omega))) (by omega) (fun PB WL L m dd M A b1 b2 => ?_)⟩
          obtain ⟨MT, -, -, -⟩ := mk_t M
          have TQm := mk_tbq Y M
          refine wo_37 (by rw [MT 167 _ (by omega)]; exact nd.1) rfl ?_
          cases dd with
          | zero => exact fun r e => nomatch e
          | succ dd =>
            have P46 : ∀ l3 : Int, ((bK X t = 67 ∧ ¬ l3 = 0) ∨ (bK X t = 69 ∧ l3 = 0)) → Pc (qj_X13_workBoth_46 nn (qg_X13_work nn dd) e l3 m) (fun w => MKx X PB WL L u w ∧ (m 160 88 ≤ w 160 88 ∧ w 160 88 + 4 * (t : Int) ≤ m 160 88 + 4 * (q : Int))) := fun l3 hl3 => m_short (t := t) (v := v2.2) hl3 M E1 A1 E3 hj j2 E4 A2 E5 (an_s A ⟨by omega, Int.le_refl _⟩ (fun cc x c1 c2 c4 c5 => by rw [ez, up_n (by omega)])) (by omega) b2 (by omega) j1 (by omega) (by omega) (by omega) (by omega)
            show Pc (mx_sv (qo_X13_workBoth nn (qg_X13_work nn dd) e m) fun u218 => some u218) _
            refine pc_sb (pc_imp ?_ (fun w y => pc_ret y))
            unfold qo_X13_workBoth
            refine pc_rA ?_; intro _ _ v70 e70
            rw [MT 168 _ (by omega), nd.2] at e70
            refine pc_rA ?_; intro _ _ v71 e71
            rw [e70, Int.toNat_natCast, TQm.2.2.2 t (by omega)] at e71
            rw [show qf_X13_sign nn 0 38 38 m = some 4902 from rfl, mx_svs]
            rcases k2 with k2 | k2
            · refine pc_if (fun z => absurd (by rw [e71, k2]; decide) z) (fun _ => ?_)
              unfold qj_X13_workBoth_29
              exact pc_if (fun _ => P46 1 (.inl ⟨k2, by omega⟩)) (fun z => absurd (show ¬ (1 : Int) = 0 by omega) z)
            · refine pc_if (fun _ => ?_) (fun z => absurd (show ¬ v71 = 4902 by rw [e71, k2]; decide) z)
              unfold qj_X13_workBoth_29
              refine pc_if (fun z => absurd rfl z) (fun _ => ?_)
              rw [show qf_X13_sign nn 0 124 124 m = some 15996 from rfl, mx_svs]
              exact pc_if (fun z => absurd (by rw [e71, k2]; decide) z) (fun _ => P46 0 (.inr ⟨k2, rfl⟩))
        · exact .inr w
    · -- the left side of && is no boolean
      have FS : Pc (mx_sv ((qg_X10_readValue nn d).2.2.1 dp u18) fun u21 => qw_X10_readValue_30 nn (qg_X10_readValue nn d) kf (dp - 1) st bs (tn + 1) u21) (fun uF => FSc u18 uF) := by
        refine pc_sv (G.2.2.1 (h := u18) (by omega)) ?_; intro u21 F
        exact pc_imp (fs_qw_X10_readValue_30 G kf _ _ _ _ u21 (by rw [F.1]; omega)) (fun uF F2 => fs_t F F2)
      refine pc_imp FS (fun uF F => r_bothS (p := p) (tk := t) (t := t + 1) Y k2 x2 (by omega) TQ2 r29 T8 nd.2 L1 q2 L2 (jp_lt Y.1 x2 (by omega)) g1 ⟨x7, n303⟩ (fun _ y y9 y10 z ez => ?_) (fun z => absurd z nb))
      have z9 : z 160 9 = 6 := by rw [ez, up_n (by omega)]; exact y9
      have z10 : z 160 10 = bP X p := by rw [ez, up_n (by omega)]; exact y10
      exact ⟨fun _ => HF uF (0, z) (.inl ⟨by rw [F.1]; omega, by show z 160 9 = _; rw [z9, F.1, w1], by show z 160 10 = _; rw [z10, F.2, w2]⟩), fun y => absurd (z9.symm.trans y) (by omega)⟩
end
