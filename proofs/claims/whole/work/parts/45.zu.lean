/- E of both sides: a CAST -/
section
variable {nn : Nat} {X : BCx} {dp i a b e t : Int} {p q : Nat} {h g u r w m : ms_M} {v : Int × ms_M}
theorem c_closeC {u8 : ms_M} {c x : Int} {tk : Nat} (Y : CXs X) (B : BX X u8 r) (hf : u8 2 11 = 0) (ht : tk < bc X) (hx : x = (tk : Int)) (vt : VTn (bn X) (u8 49 12)) (vc : 0 ≤ c ∧ c < 8 + (bn X : Int)) (l1 : 0 ≤ u8 34 1 ∧ u8 34 1 ≤ 900000) (l3 : 0 ≤ u8 34 3 ∧ u8 34 3 ≤ 900000) : Pc (qf_X10_closeCast nn c x u8) (fun u => (KNo X (u8 49 12) c ∧ ∃ u15, CKr nn X 192 c c (up_M u8 49 11 0) u15 ∧ u = up_M u15 49 12 c) ∨ (¬ KNo X (u8 49 12) c ∧ u 2 11 = 6 ∧ u 2 12 = bP X tk)) := by
  have n8 := Y.2.2.1
  unfold qf_X10_closeCast
  refine pc_xl ?_; intro h1 e1
  have E1 : ∀ cc x : Nat, ¬ (cc = 49 ∧ x = 11) → h1 cc x = u8 cc x := fun cc x z => by rw [e1, up_n z]
  have B1 : BX X h1 r := bx_k B (fun cc x z => E1 cc x (by omega)) (fun _ _ _ => rfl)
  have t12 := E1 49 12 (by omega)
  refine pc_if (fun _ => ?_) (fun z => absurd (show ¬ c = -1 by omega) z)
  refine pc_sv (c_kinOf Y B1 (by rw [E1 2 11 (by omega)]; exact hf) ht hx (by rw [t12]; exact vt) vc) ?_; intro u3 q3
  rw [t12] at q3
  rcases q3 with ⟨ok, eu⟩ | ⟨nok, f1, f2⟩
  · rw [eu]
    refine c_kr Y (by rw [E1 34 1 (by omega)]; exact l1) (by rw [E1 34 3 (by omega)]; exact l3) vc (by unfold in_R; omega) ⟨by unfold VTn; omega, by omega⟩ (fun u15 CK => ?_)
    refine pc_xl ?_; intro h16 e16
    exact pc_ret (.inl ⟨ok, u15, by rw [← e1]; exact CK, e16⟩)
  · have S3 : ¬ u3 2 11 = 0 := by omega
    refine pc_sv (fs_qf_X6_classOf S3) ?_; intro u7 F7
    have S7 : ¬ u7.2 2 11 = 0 := by rw [F7.1]; exact S3
    refine pc_sv (fs_qf_X1_op_ S7) ?_; intro u9 F9
    have S9 : ¬ u9 2 11 = 0 := by rw [F9.1]; exact S7
    refine pc_sv (fs_qf_X1_pop S9) ?_; intro u12 F12
    have S12 : ¬ u12 2 11 = 0 := by rw [F12.1]; exact S9
    refine pc_sv (fs_qf_X1_push S12) ?_; intro u15 F15
    refine pc_xl ?_; intro h16 e16
    refine pc_ret (.inr ⟨nok, ?_, ?_⟩)
    · rw [e16, up_n (by omega), F15.1, F12.1, F9.1, F7.1]; exact f1
    · rw [e16, up_n (by omega), F15.2, F12.2, F9.2, F7.2]; exact f2
theorem e2_uc {ix : Int} (Y : CXs X) (ne : 0 ≤ a ∧ a ≤ e ∧ e < b) (hd : 0 ≤ dp ∧ dp + 1 ≤ 40) (nd : CST (bK X) (p : Int) ∧ bT X 167 e.toNat = 36 ∧ bT X 168 e.toNat = ((p + 1 : Nat) : Int)) (H : E2 nn X (dp + 1) ix (e + 1) b (p + 3) q (bT X 170 e.toNat)) (pq : p + 3 < q) : E2 nn X dp 0 a b p q e := by
  intro d d2 h r Q b57
  have Q0 := Q
  obtain ⟨B, ⟨q1, q2, q3, q4⟩, ⟨f1, f2, f3⟩, o1⟩ := Q0
  have T : ∀ cc : Nat, 163 ≤ cc ∧ cc ≤ 173 → r cc e.toNat = bT X cc e.toNat := fun cc z => B.2.2.2.2.2.1 cc e.toNat (by omega)
  have TB : TBc (bK X) (bP X) (bc X) h := B.1.1.1.1
  have TQ : TBq (bK X) (bP X) (bc X) r := B.1.1.2.2.1
  have BK := Y.1
  have n8 := Y.2.2.1
  have c3 := BK.2.1
  have k0 : bK X p = 40 := by
    have := nd.1.1
    rwa [Int.toNat_natCast] at this
  have k1 : bK X (p + 1) = 2 := by
    have := nd.1.2.1
    rwa [show ((p : Int) + 1).toNat = p + 1 by omega] at this
  have k2 : bK X (p + 2) = 41 := by
    have := nd.1.2.2.1
    rwa [show ((p : Int) + 2).toNat = p + 2 by omega] at this
  have p2c : p + 2 < bc X := tb_lt BK (by omega)
  have p3c : p + 3 < bc X := jp_lt BK p2c (by omega)
  have v0 := (B.1.1.2.2.2.1.1 (p + 1) (by omega) k1).1.1
  have nl : ¬ bT X 167 e.toNat = 30 ∧ ¬ bT X 167 e.toNat = 31 ∧ ¬ bT X 167 e.toNat = 32 ∧ ¬ bT X 167 e.toNat = 37 ∧ ¬ bT X 167 e.toNat = 38 := by omega
  cases d with
  | zero => exact pc_none
  | succ d =>
    have G := fsg_X10_readValue nn d
    show Pc (qo_X10_readUnary nn (qg_X10_readValue nn d) dp h) _
    unfold qo_X10_readUnary
    refine pc_if (fun _ => ?_) (fun z => absurd (by omega) z)
    refine pc_sv (c_kind BK TB q2 q1 q3) ?_; intro u15 q15
    refine pc_if (fun z => absurd z (by omega)) (fun _ => ?_)
    refine pc_if (fun z => absurd z (by omega)) (fun _ => ?_)
    refine pc_if (fun _ => ?_) (fun z => absurd (show ¬ u15 = 71 by omega) z)
    refine pc_sv (c_cast BK TB q2 q1 q3) ?_; intro u18 q18
    have u1 : u18 = 1 := by
      rcases q18 with ⟨z, -⟩ | ⟨-, z⟩
      · exact z
      · exact absurd nd.1 z
    refine pc_if (fun z => absurd z (by omega)) (fun _ => ?_)
    rw [q1]
    refine pc_add (by omega) ?_; intro v21 e21
    refine pc_add (by omega) ?_; intro v22 e22
    refine pc_sv (c_rnc Y B q3 k1 (x := v21) (y := v22) (by omega)) ?_; intro u24 q24
    refine pc_add (by omega) ?_; intro v25 e25
    rcases q24 with ⟨cl, cn, eu⟩ | ⟨cl, cn, t1, t2⟩
    · have cb := clz_v cl v0 cn
      have E5 : ∀ cc x : Nat, ¬ (cc = 2 ∧ x = 10) → u24.2 cc x = h cc x := fun cc x z => by rw [eu, up_n z]
      have p10 : u24.2 2 10 = ((p + 3 : Nat) : Int) := by rw [eu, up_s]; omega
      generalize u24.2 = h5 at E5 p10 ⊢
      generalize u24.1 = c at cl cn cb ⊢
      clear eu
      rw [e25]
      have Q1 : EPr X (dp + 1) (p + 3) h5 r := by
        refine ⟨bx_k B (fun cc x z => E5 cc x (by omega)) (fun _ _ _ => rfl), ⟨p10, p3c, by rw [E5 2 11 (by omega)]; exact q3, q4⟩, ⟨frc_k f1 (fun cc x z => E5 cc x (by omega)), ?_, ?_⟩, ?_⟩
        · rw [E5 34 1 (by omega)]; omega
        · rw [E5 34 3 (by omega)]; omega
        · rw [E5 49 10 (by omega), E5 49 18 (by omega)]; omega
      have GV := j_given2 (nn := nn) (X := X) (x := (qg_X10_readValue nn d).2.2.1 (dp + 1) h5) TQ (fun cc y z => B.2.2.2.2.2.1 cc y (by omega)) n8 (fun d2 => H d d2 h5 r Q1 (by omega)) (fun _ z => by rw [E5 49 18 (by omega)] at z; omega)
      refine p2_sa ?_
      intro u27 e27
      have SH : ∀ (Z : ms_M → Prop), Pc (mx_sv (qf_X10_closeCast nn c ((p + 1 : Nat) : Int) u27) fun u30 => qj_X10_readUnary_116 nn (qg_X10_readValue nn d) (p : Int) u30) Z → Pc (xl (oq_add (p : Int) 1) fun v28 => mx_sv (qf_X10_closeCast nn c v28 u27) fun u30 => qj_X10_readUnary_116 nn (qg_X10_readValue nn d) (p : Int) u30) Z := fun Z HZ => by
        refine pc_add (by omega) ?_; intro v28 e28
        rw [show v28 = ((p + 1 : Nat) : Int) by omega]
        exact HZ
      have TF : ¬ u27 2 11 = 0 → Pc (mx_sv (qf_X10_closeCast nn c ((p + 1 : Nat) : Int) u27) fun u30 => qj_X10_readUnary_116 nn (qg_X10_readValue nn d) (p : Int) u30) (fun u => FSc u27 u) := fun S => by
        refine pc_sv (fs_qf_X10_closeCast S) ?_; intro u10 F
        exact pc_imp (fs_qj_X10_readUnary_116 G (by rw [F.1]; exact S)) (fun u F2 => fs_t F F2)
      refine w_one (by omega) q4 (r_nled (by rw [T 167 (by omega)]; exact nl)) (fun d3 => ?_) d2
      refine ru_36 ((T 167 (by omega)).trans nd.2.1) ?_
      unfold qj_X13_rule_455
      refine pc_rA ?_; intro _ _ v35 e35
      rw [T 168 (by omega), nd.2.2] at e35
      refine pc_sv (r_classOf BK Y.2.1 B.1.1.2.2 k1 e35) ?_; intro u37 q37
      rw [cls_d q37 cl]
      refine pc_if (fun _ => ?_) (fun z => absurd cn z)
      unfold qj_X13_rule_493
      refine pc_rA ?_; intro _ _ v26 e26
      rw [T 167 (by omega), nd.2.1] at e26
      refine pc_if (fun z => absurd e26 z) (fun _ => ?_)
      refine pc_rA ?_; intro _ _ v30 e30
      rw [T 170 (by omega)] at e30
      rw [e30]
      refine pc_sv (pc_and (GV d3 u27 e27) (gv_fr d3)) ?_; intro v1 ⟨hv, F8⟩
      rcases hv with S | ⟨K, n303, FX⟩
      · refine pc_imp (ft_qj_X13_rule_522 (ftg_X13_condition nn d3) (sf_r S)) (fun y F => fun z ez => ?_)
        have HH : ∀ c' : Int, Pc (mx_sv (qf_X10_closeCast nn c ((p + 1 : Nat) : Int) u27) fun u30 => qj_X10_readUnary_116 nn (qg_X10_readValue nn d) (p : Int) u30) (fun u => (SFj u z ∨ VDj X 0 a b p q e h r u (c', z)) ∨ EOk nn X 0 a b p q e h r u (c', z)) := fun c' => pc_imp (TF S.1) (fun u F2 => .inl (.inl (sf_k S F2 ⟨by rw [ez, up_n (by omega)]; exact F.1, by rw [ez, up_n (by omega)]; exact F.2⟩)))
        exact ⟨fun _ => SH _ (HH _), fun _ => SH _ (HH _)⟩
      · obtain ⟨K, K15, KF⟩ := K
        have K0 := K
        have B8 : BX X u27 v1.2 := bx_e Q1.1 K.2.2.1.1 K.2.2.1.2.1
        obtain ⟨⟨x1, x2, x3, x4, x5⟩, ⟨x6, x7, x8⟩, ⟨x9, x10, x11⟩, ⟨x12, x13, x14⟩, -⟩ := K
        have E134 := E5 34 1 (by omega)
        have E334 := E5 34 3 (by omega)
        rw [x6]
        unfold qj_X13_rule_522
        refine pc_if (fun _ => ?_) (fun z => absurd cn z)
        have h168 : v1.2 168 e.toNat = ((p + 1 : Nat) : Int) := by rw [F8 168 _ (by omega) (by omega) (by omega), T 168 (by omega)]; exact nd.2.2
        have h167 : v1.2 167 e.toNat = 36 := by rw [F8 167 _ (by omega) (by omega) (by omega), T 167 (by omega)]; exact nd.2.1
        refine pc_imp (r_kinOf Y B8.1.1.2.2.1 (bx_180 B8) x5 (tk := p + 1) (by omega) h168 x7 n303 cb) (fun y hy => fun z ez => ?_)
        have CC := c_closeC (nn := nn) (x := ((p + 1 : Nat) : Int)) (tk := p + 1) Y B8 x4 (by omega) rfl x7 cb (by omega) (by omega)
        rcases hy with ⟨ok, y1, y2⟩ | ⟨nok, y1, y2⟩
        · rw [h167, if_neg (by decide)] at y1
          rw [y1] at ez ⊢
          rw [y2] at ez
          have z9 : z 160 9 = 0 := by rw [ez, up_n (by omega), up_n (by omega)]; exact x5
          refine ⟨fun _ => SH _ ?_, fun y => absurd z9 y⟩
          refine pc_sv CC ?_; intro u10 hu
          rcases hu with ⟨-, u15, CK, eu⟩ | ⟨nok, -⟩
          · unfold qj_X10_readUnary_116
            refine pc_xl ?_; intro h1 e1
            rw [e1]
            have U : ∀ cc x : Nat, ¬ (cc = 34 ∧ (x = 1 ∨ x = 3 ∨ x = 4)) → ¬ (cc = 35 ∨ cc = 36) → ¬ (cc = 45 ∧ (x = 4 ∨ x = 5)) → ¬ (cc = 46 ∨ cc = 47) → ¬ (cc = 49 ∧ (x = 11 ∨ x = 12)) → u10 cc x = u27 cc x := fun cc x z1 z2 z3 z4 z5 => by rw [eu, up_n (by omega), CK.1 cc x z1 z2 z3 z4, up_n (by omega)]
            have s1 : u10 34 1 = u27 34 1 + 2 := by rw [eu, up_n (by omega), CK.2.1.1, up_n (by omega)]
            have s3 : u10 34 3 = u15 34 3 := by rw [eu, up_n (by omega)]
            have k1 := CK.2.1.2
            have k3 := CK.2.2.1
            rw [up_n (by omega)] at k1 k3
            have t11 : u10 49 11 = 0 := by rw [eu, up_n (by omega), CK.1 49 11 (by omega) (by omega) (by omega) (by omega), up_s]
            have t12 : u10 49 12 = c := by rw [eu, up_s]
            refine pc_ret (.inr (eok_un Y Q ne (by omega) E5 (by omega) (by omega) K0 (fun cc y z1 z2 z3 z4 z5 z6 => U cc y (by omega) z2 z4 z5 z6) (frc_k x12 (fun cc x z => U cc x (by omega) (by omega) (by omega) (by omega) (by omega))) (by omega) (by omega) t11 t12 ⟨by unfold VTn; omega, by omega⟩ (vv := up_M v1.2 176 e.toNat (ty_T c)) ⟨fun cc x z1 z2 z3 => by rw [up_n (by omega)]; exact x10.1 cc x z1 z2 z3, fun cc x z1 z2 z3 => by rw [up_n (by omega)]; exact x10.2 cc x z1 z2 (by omega)⟩ (by rw [up_n (by omega)]; exact x5) ez (fun n51 => ?_)))
            obtain ⟨⟨c1, -⟩, c2⟩ := (FX n51).2.2 n51
            rw [if_neg n303, E334] at c1
            refine ⟨⟨by omega, .inr ?_⟩, mkc_one nl ne (fun PB WL L m d M A z1 z2 => ?_)⟩
            · rw [s3, t12, eu, up_n (by omega)]
              exact CK.2.2.2.1
            · obtain ⟨MT, -, -, -⟩ := mk_t M
              have M1 : MKx X PB WL L h5 m := mkx_c M (fun cc x z1 z2 z3 => E5 cc x (by omega))
              have CH := c2 d PB WL L m M1 (an_s A ⟨by omega, Int.le_refl _⟩ (fun cc x c1 c2 c4 c5 => by rw [ez, up_n (by omega), up_n (by omega)])) (by omega) (by omega)
              have a4 : m 174 e.toNat = ty_T c := by rw [A 174 e.toNat (by omega) (by omega) (by omega) (by omega), ez, up_s]
              have a6 : m 176 e.toNat = ty_T c := by rw [A 176 e.toNat (by omega) (by omega) (by omega) (by omega), ez, up_n (by omega), up_s]
              refine wo_36 ((MT 167 e.toNat (by omega)).trans nd.2.1) a4 ?_
              unfold qj_X13_workOne_588
              refine pc_rA ?_; intro _ _ v15 e15
              rw [MT 167 e.toNat (by omega), nd.2.1] at e15
              refine pc_if (fun z => absurd e15 z) (fun _ => ?_)
              refine pc_rA ?_; intro _ _ v17 e17
              rw [MT 170 e.toNat (by omega)] at e17
              rw [e17]
              refine pc_sv (pc_and CH (wk_an d)) ?_; intro w ⟨⟨Mw, lw⟩, aw⟩
              unfold qj_X13_workOne_609
              have MT2 := (mk_t Mw).1
              refine pc_rA ?_; intro _ _ v12 e12
              rw [MT2 167 e.toNat (by omega), nd.2.1] at e12
              refine pc_if (fun z => absurd e12 z) (fun _ => ?_)
              have Mw2 : MKx X PB WL L (up_M u27 49 11 0) w := mkx_c Mw (fun cc x z1 z2 z3 => up_n (by omega))
              refine pc_imp (w_kr CK (by rw [up_n (by omega)]; omega) Mw2 (by rw [up_n (by omega)]; omega) (by rw [aw 176 _ (by omega) (by omega)]; exact a6) rfl) (fun w2 y => ⟨?_, by rw [y.2]; omega⟩)
              rw [eu]
              exact mkx_c y.1 (fun cc x z1 z2 z3 => up_n (by omega))
          · exact absurd ok nok
        · have z9 : z 160 9 = 6 := by rw [ez, up_n (by omega)]; exact y1
          have z10 : z 160 10 = bP X (p + 1) := by rw [ez, up_n (by omega)]; exact y2
          refine ⟨fun y => absurd y (by omega), fun _ => SH _ ?_⟩
          refine pc_sv CC ?_; intro u10 hu
          rcases hu with ⟨ok, -⟩ | ⟨-, g1, g2⟩
          · exact absurd ok nok
          · refine pc_imp (fs_qj_X10_readUnary_116 G (by omega)) (fun u F => .inl (.inl ⟨by rw [F.1]; omega, by dsimp only; rw [z9, F.1, g1], by dsimp only; rw [z10, F.2, g2]⟩))
    · -- a NAME that means no class
      have S : ¬ u24.2 2 11 = 0 := by omega
      have CL : Pc (mx_sv ((qg_X10_readValue nn d).2.2.1 v25 u24.2) fun u27 => xl (oq_add (p : Int) 1) fun v28 => mx_sv (qf_X10_closeCast nn u24.1 v28 u27) fun u30 => qj_X10_readUnary_116 nn (qg_X10_readValue nn d) (p : Int) u30) (fun u => FSc u24.2 u) := by
        refine pc_sv (G.2.2.1 S) ?_; intro u27 F1
        have S1 : ¬ u27 2 11 = 0 := by rw [F1.1]; exact S
        refine pc_add (by omega) ?_; intro v28 e28
        refine pc_sv (fs_qf_X10_closeCast S1) ?_; intro u30 F2
        have S2 : ¬ u30 2 11 = 0 := by rw [F2.1]; exact S1
        exact pc_imp (fs_qj_X10_readUnary_116 G S2) (fun u F3 => fs_t F1 (fs_t F2 F3))
      refine pc_imp CL (fun u F => ?_)
      refine w_one (by omega) q4 (r_nled (by rw [T 167 (by omega)]; exact nl)) (fun d3 => ?_) d2
      refine ru_36 ((T 167 (by omega)).trans nd.2.1) ?_
      unfold qj_X13_rule_455
      refine pc_rA ?_; intro _ _ v35 e35
      rw [T 168 (by omega), nd.2.2] at e35
      refine pc_sv (r_classOf BK Y.2.1 B.1.1.2.2 k1 e35) ?_; intro u37 q37
      refine pc_if (fun z => absurd (cls_d q37 cl) z) (fun _ => ?_)
      refine pc_rA ?_; intro _ _ v39 e39
      rw [T 167 (by omega), nd.2.1] at e39
      refine pc_if (fun z => absurd e39 z) (fun _ => ?_)
      refine pc_rA ?_; intro _ _ v41 e41
      rw [T 168 (by omega), nd.2.2] at e41
      refine pc_sv (r_wrong TQ (p := p + 1) (by omega) q4 e41) ?_; intro u43 ⟨w1, w2⟩
      refine pc_imp (ft_qj_X13_rule_493 (ftg_X13_condition nn d3) (by omega)) (fun y Fy => fun z ez => ?_)
      have z9 : z 160 9 = 5 := by rw [ez, up_n (by omega), Fy.1]; exact w1
      have z10 : z 160 10 = bP X (p + 1) := by rw [ez, up_n (by omega), Fy.2]; exact w2
      exact ⟨fun y => absurd y (by omega), fun _ => .inl (.inl ⟨by rw [F.1]; exact S, by dsimp only; rw [z9, F.1, t1], by dsimp only; rw [z10, F.2, t2]⟩)⟩
end
