/- E of both sides: - ! ~ ahead of a U: the whole -/
section
variable {nn : Nat} {X : BCx} {dp i a b e : Int} {p q : Nat} {h g u r w m : ms_M} {v : Int × ms_M}
theorem e2_us {ix : Int} (Y : CXs X) (ne : 0 ≤ a ∧ a ≤ e ∧ e < b) (hd : 0 ≤ dp ∧ dp + 1 ≤ 40) (nd : ((bK X p = 62 ∧ bT X 167 e.toNat = 33) ∨ (bK X p = 71 ∧ bT X 167 e.toNat = 34) ∨ (bK X p = 72 ∧ bT X 167 e.toNat = 35)) ∧ bT X 168 e.toNat = (p : Int)) (H : E2 nn X (dp + 1) ix (e + 1) b (p + 1) q (bT X 170 e.toNat)) (lab : bT X 169 (bT X 170 e.toNat).toNat = ((p + 1 : Nat) : Int)) (pq : p + 1 < q) : E2 nn X dp 0 a b p q e := by
  intro d d2 h r Q b57
  have Q0 := Q
  obtain ⟨B, ⟨q1, q2, q3, q4⟩, ⟨f1, f2, f3⟩, o1⟩ := Q0
  have T : ∀ cc : Nat, 163 ≤ cc ∧ cc ≤ 173 → r cc e.toNat = bT X cc e.toNat := fun cc z => B.2.2.2.2.2.1 cc e.toNat (by omega)
  have TB : TBc (bK X) (bP X) (bc X) h := B.1.1.1.1
  have TQ : TBq (bK X) (bP X) (bc X) r := B.1.1.2.2.1
  have BK := Y.1
  have n8 := Y.2.2.1
  have c3 := BK.2.1
  have p1c : p + 1 < bc X := jp_lt BK q2 (by omega)
  have nl : ¬ bT X 167 e.toNat = 30 ∧ ¬ bT X 167 e.toNat = 31 ∧ ¬ bT X 167 e.toNat = 32 ∧ ¬ bT X 167 e.toNat = 37 ∧ ¬ bT X 167 e.toNat = 38 := by omega
  cases d with
  | zero => exact pc_none
  | succ d =>
    have G := fsg_X10_readValue nn d
    show Pc (qo_X10_readUnary nn (qg_X10_readValue nn d) dp h) _
    have CORE : Pc (qj_X10_readUnary_41 nn (qg_X10_readValue nn d) dp (p : Int) (bK X p) h) (fun u => Pc ((qg_X13_condition nn d2).2.2.1 e r) (fun v => (SFj u v.2 ∨ VDj X 0 a b p q e h r u v) ∨ EOk nn X 0 a b p q e h r u v)) := by
      unfold qj_X10_readUnary_41
      rw [q1]
      refine pc_add (by omega) ?_; intro v4 e4
      refine pc_xl ?_; intro h5 e5
      rw [show v4 = ((p + 1 : Nat) : Int) by omega] at e5
      have E5 : ∀ cc x : Nat, ¬ (cc = 2 ∧ x = 10) → h5 cc x = h cc x := fun cc x z => by rw [e5, up_n z]
      refine pc_add (by omega) ?_; intro v6 e6
      rw [e6]
      have Q1 : EPr X (dp + 1) (p + 1) h5 r := by
        refine ⟨bx_k B (fun cc x z => E5 cc x (by omega)) (fun _ _ _ => rfl), ⟨by rw [e5, up_s], p1c, by rw [E5 2 11 (by omega)]; exact q3, q4⟩, ⟨frc_k f1 (fun cc x z => E5 cc x (by omega)), ?_, ?_⟩, ?_⟩
        · rw [E5 34 1 (by omega)]; omega
        · rw [E5 34 3 (by omega)]; omega
        · rw [E5 49 10 (by omega), E5 49 18 (by omega)]; omega
      have GV := j_given2 (nn := nn) (X := X) (x := (qg_X10_readValue nn d).2.2.1 (dp + 1) h5) TQ (fun cc y z => B.2.2.2.2.2.1 cc y (by omega)) n8 (fun d2 => H d d2 h5 r Q1 (by omega)) (fun _ z => by rw [E5 49 18 (by omega)] at z; omega)
      refine p2_sa ?_
      intro u8 e8
      have TF : ¬ u8 2 11 = 0 → Pc (mx_sv (qf_X10_closeUnary nn (bK X p) (p : Int) u8) fun u10 => qj_X10_readUnary_116 nn (qg_X10_readValue nn d) (p : Int) u10) (fun u => FSc u8 u) := fun S => by
        refine pc_sv (fs_qf_X10_closeUnary S) ?_; intro u10 F
        exact pc_imp (fs_qj_X10_readUnary_116 G (by rw [F.1]; exact S)) (fun u F2 => fs_t F F2)
      -- a FAULT on both sides
      have DN : ∀ (y : Int × ms_M) (v1 : ms_M), SFj u8 v1 → FSr v1 y.2 → ∀ z : ms_M, z = up_M y.2 174 e.toNat y.1 → ∀ c : Int, Pc (mx_sv (qf_X10_closeUnary nn (bK X p) (p : Int) u8) fun u10 => qj_X10_readUnary_116 nn (qg_X10_readValue nn d) (p : Int) u10) (fun u => (SFj u z ∨ VDj X 0 a b p q e h r u (c, z)) ∨ EOk nn X 0 a b p q e h r u (c, z)) := fun y v1 S F z ez c => pc_imp (TF S.1) (fun u F2 => .inl (.inl (sf_k S F2 ⟨by rw [ez, up_n (by omega)]; exact F.1, by rw [ez, up_n (by omega)]; exact F.2⟩)))
      -- told here, on both sides
      have TL : ∀ (y : Int × ms_M) (tk : Nat), (y.2 160 9 = 6 ∧ y.2 160 10 = bP X tk) → Pc (mx_sv (qf_X10_closeUnary nn (bK X p) (p : Int) u8) fun u10 => qj_X10_readUnary_116 nn (qg_X10_readValue nn d) (p : Int) u10) (fun u => u 2 11 = 6 ∧ u 2 12 = bP X tk) → ∀ z : ms_M, z = up_M y.2 174 e.toNat y.1 → (z 160 9 = 0 → Pc (mx_sv (qf_X10_closeUnary nn (bK X p) (p : Int) u8) fun u10 => qj_X10_readUnary_116 nn (qg_X10_readValue nn d) (p : Int) u10) (fun u => (SFj u z ∨ VDj X 0 a b p q e h r u (y.1, z)) ∨ EOk nn X 0 a b p q e h r u (y.1, z))) ∧ (¬ z 160 9 = 0 → Pc (mx_sv (qf_X10_closeUnary nn (bK X p) (p : Int) u8) fun u10 => qj_X10_readUnary_116 nn (qg_X10_readValue nn d) (p : Int) u10) (fun u => (SFj u z ∨ VDj X 0 a b p q e h r u (0, z)) ∨ EOk nn X 0 a b p q e h r u (0, z))) := fun y tk s1 PT z ez => by
        have z9 : z 160 9 = 6 := by rw [ez, up_n (by omega)]; exact s1.1
        have z10 : z 160 10 = bP X tk := by rw [ez, up_n (by omega)]; exact s1.2
        exact ⟨fun w => absurd w (by omega), fun _ => pc_imp PT (fun u s => .inl (.inl ⟨by omega, by rw [z9, s.1], by rw [z10, s.2]⟩))⟩
      refine w_one (by omega) q4 (r_nled (by rw [T 167 (by omega)]; exact nl)) (fun d3 => ?_) d2
      -- the good case, for both readings
      have GOOD : ∀ (v1 : Int × ms_M) (t1 : Int), EOk nn X ix (e + 1) b (p + 1) q (bT X 170 e.toNat) h5 r u8 v1 → (¬ bK X q = 51 → FM01 nn X ix (e + 1) b (p + 1) q (bT X 170 e.toNat) h5 u8 v1.2) → u8 49 12 = t1 → ((bT X 167 e.toNat = 34 ∧ t1 = 302) ∨ (¬ bT X 167 e.toNat = 34 ∧ t1 = 301)) → ∀ z : ms_M, z = up_M v1.2 174 e.toNat (ty_T t1) → (z 160 9 = 0 → Pc (mx_sv (qf_X10_closeUnary nn (bK X p) (p : Int) u8) fun u10 => qj_X10_readUnary_116 nn (qg_X10_readValue nn d) (p : Int) u10) (fun u => (SFj u z ∨ VDj X 0 a b p q e h r u (ty_T t1, z)) ∨ EOk nn X 0 a b p q e h r u (ty_T t1, z))) ∧ (¬ z 160 9 = 0 → Pc (mx_sv (qf_X10_closeUnary nn (bK X p) (p : Int) u8) fun u10 => qj_X10_readUnary_116 nn (qg_X10_readValue nn d) (p : Int) u10) (fun u => (SFj u z ∨ VDj X 0 a b p q e h r u (0, z)) ∨ EOk nn X 0 a b p q e h r u (0, z))) := fun v1 t1 K FX et tk z ez => by
        obtain ⟨K, K15, KF⟩ := K
        have K0 := K
        obtain ⟨⟨x1, x2, x3, x4, x5⟩, ⟨x6, x7, x8⟩, ⟨x9, x10, x11⟩, ⟨x12, x13, x14⟩, -⟩ := K
        have hk3 : (bK X p = 62 ∧ bT X 167 e.toNat = 33 ∧ t1 = 301) ∨ (bK X p = 71 ∧ bT X 167 e.toNat = 34 ∧ t1 = 302) ∨ (bK X p = 72 ∧ bT X 167 e.toNat = 35 ∧ t1 = 301) := by omega
        have vt : VTn (bn X) t1 ∧ ¬ t1 = 303 := ⟨by rw [← et]; exact x7, by omega⟩
        have RR : RFe a b r v1.2 := ⟨x10.1, fun cc x z1 z2 z3 => x10.2 cc x z1 z2 (by omega)⟩
        have z9 : z 160 9 = 0 := by rw [ez, up_n (by omega)]; exact x5
        refine ⟨fun _ => ?_, fun y => absurd z9 y⟩
        have E134 := E5 34 1 (by omega)
        have E334 := E5 34 3 (by omega)
        have h7 : 0 ≤ u8 34 7 := by
          rw [x9 34 7 (by omega) (by omega) (by omega) (by omega) (by omega) (by omega) (by omega) (by omega), E5 34 7 (by omega)]
          have := B.2.1.1
          omega
        have HX := c_closeU (nn := nn) (X := X) (kp := bK X p) (k := bT X 167 e.toNat) (t1 := t1) (x := (p : Int)) hk3 et x12 (by omega) (by omega) h7
        refine pc_sv HX ?_; intro u10 ⟨s1, s2, ⟨s3, s4⟩, s5, s6⟩
        unfold qj_X10_readUnary_116
        refine pc_xl ?_; intro h1 e1
        rw [e1]
        refine pc_ret (.inr (eok_un Y Q ne (by omega) E5 pq (by omega) K0 (fun cc y z1 z2 z3 _ _ z6 => s1 cc y z1 z2 z3 z6) s2 s3 s4 s5.1 s5.2 vt RR x5 ez (fun n51 => ?_)))
        obtain ⟨⟨c1, ct⟩, c2⟩ := (FX n51).2.2 n51
        rw [if_neg (by rw [et]; exact vt.2), E334] at c1
        obtain ⟨⟨y1, y2⟩, y3⟩ := s6 (by omega) (ct.elim (fun y => absurd (et.symm.trans y) vt.2) (fun y => by rw [et] at y; exact y))
        clear s6 ct
        refine ⟨⟨by omega, y2⟩, mkc_one nl ne (fun PB WL L m d M A z1 z2 => ?_)⟩
        clear y2
        obtain ⟨MT, -, -, -⟩ := mk_t M
        have M1 : MKx X PB WL L h5 m := mkx_c M (fun cc x z1 z2 z3 => E5 cc x (by omega))
        have CH := c2 d PB WL L m M1 (an_s A ⟨by omega, Int.le_refl _⟩ (fun cc x c1 c2 c4 c5 => by rw [ez, up_n (by omega)])) (by omega) (by omega)
        refine wo_un (MT 167 e.toNat (by omega)) (by omega) (MT 170 e.toNat (by omega)) CH (fun k w hw => ?_) (fun k w hw => ?_) (fun k w hw => ?_)
        · have y4 := (y3 PB WL L w hw.1 (by omega)).1 k
          exact pc_imp y4 (fun w2 y => ⟨y.1, by have := y.2; omega⟩)
        · have y4 := (y3 PB WL L w hw.1 (by omega)).2.1 k
          exact pc_imp y4 (fun w2 y => ⟨y.1, by have := y.2; omega⟩)
        · have y4 := (y3 PB WL L w hw.1 (by omega)).2.2 k
          exact pc_imp y4 (fun w2 y => ⟨y.1, by have := y.2; omega⟩)
      have PT6 : ∀ tk : Nat, tk < bc X → u8 2 11 = 0 → TBc (bK X) (bP X) (bc X) u8 → ((bK X p = 71 ∧ ¬ u8 49 12 = 302 ∧ u8 49 15 = (tk : Int)) ∨ (¬ bK X p = 71 ∧ ¬ u8 49 12 = 301 ∧ tk = p)) → Pc (mx_sv (qf_X10_closeUnary nn (bK X p) (p : Int) u8) fun u10 => qj_X10_readUnary_116 nn (qg_X10_readValue nn d) (p : Int) u10) (fun u => u 2 11 = 6 ∧ u 2 12 = bP X tk) := fun tk ht x4 TB8 hk => c_closeT G ht x4 TB8 hk
      have R416 : ¬ bT X 167 e.toNat = 34 → Pc (qj_X13_rule_416 nn (qg_X13_condition nn d3) e r) (fun u => ∀ z : ms_M, z = up_M u.2 174 e.toNat u.1 → (z 160 9 = 0 → Pc (mx_sv (qf_X10_closeUnary nn (bK X p) (p : Int) u8) fun u10 => qj_X10_readUnary_116 nn (qg_X10_readValue nn d) (p : Int) u10) (fun u' => (SFj u' z ∨ VDj X 0 a b p q e h r u' (u.1, z)) ∨ EOk nn X 0 a b p q e h r u' (u.1, z))) ∧ (¬ z 160 9 = 0 → Pc (mx_sv (qf_X10_closeUnary nn (bK X p) (p : Int) u8) fun u10 => qj_X10_readUnary_116 nn (qg_X10_readValue nn d) (p : Int) u10) (fun u' => (SFj u' z ∨ VDj X 0 a b p q e h r u' (0, z)) ∨ EOk nn X 0 a b p q e h r u' (0, z)))) := fun k34 => by
        unfold qj_X13_rule_416
        refine pc_rA ?_; intro _ _ v47 e47
        rw [T 170 (by omega)] at e47
        rw [e47]
        refine pc_sv (pc_and (GV d3 u8 e8) (gv_fr d3)) ?_; intro v1 ⟨hv, F8⟩
        rcases hv with S | ⟨K, n303, FX⟩
        · refine pc_if (fun _ => pc_ret (fun z ez => ⟨fun _ => DN (0, v1.2) v1.2 S ft_r z ez _, fun _ => DN (0, v1.2) v1.2 S ft_r z ez _⟩)) (fun _ => ?_)
          refine pc_rA ?_; intro _ _ v51 e51
          refine pc_sv (ft_qf_X13_wrong (sf_r S)) ?_; intro u53 F
          exact pc_ret (fun z ez => ⟨fun _ => DN (0, u53) v1.2 S F z ez _, fun _ => DN (0, u53) v1.2 S F z ez _⟩)
        · have x7 := K.1.2.1.2.1
          have x6 := K.1.2.1.1
          have x5 := K.1.1.2.2.2.2
          have t0 : ty_T (u8 49 12) = 0 ↔ u8 49 12 = 301 := by
            have c := ty_c (vtn_v n8 x7)
            omega
          refine pc_if (fun z0 => pc_ret ?_) (fun z0 => ?_)
          · exact GOOD v1 301 K FX (t0.mp (by rw [← x6]; exact z0)) (.inr ⟨k34, rfl⟩)
          · refine pc_rA ?_; intro _ _ v51 e51
            rw [F8 168 _ (by omega) (by omega) (by omega), T 168 (by omega), nd.2] at e51
            refine pc_sv (r_wrong (tbq_f TQ (fun cc x z => F8 cc x (by omega) (by omega) (by omega))) q2 x5 e51) ?_; intro u53 w1
            refine pc_ret (TL (0, u53) p w1 (PT6 p q2 K.1.1.2.2.2.1 (pk_b Q1 K.1) (.inr ⟨by omega, fun z => z0 (by rw [x6]; exact t0.mpr z), rfl⟩)))
      rcases nd.1 with ⟨kp, kn⟩ | ⟨kp, k34⟩ | ⟨kp, kn⟩
      · exact ru_33 ((T 167 (by omega)).trans kn) (R416 (by omega))
      · refine ru_34 ((T 167 (by omega)).trans k34) ?_
        refine pc_rA ?_; intro _ _ v177 e177
        rw [T 170 (by omega)] at e177
        rw [e177]
        cases d3 with
        | zero => exact fun r e => nomatch e
        | succ d4 =>
          refine pc_sb ?_
          show Pc (qo_X13_condition nn (qg_X13_condition nn d4) (bT X 170 e.toNat) r) _
          unfold qo_X13_condition
          refine pc_sv (pc_and (GV d4 u8 e8) (gv_fr d4)) ?_; intro v1 ⟨hv, F8⟩
          rcases hv with S | ⟨K, n303, FX⟩
          · refine pc_if (fun _ => pc_ret (pc_ret (fun z ez => ⟨fun _ => DN (1, v1.2) v1.2 S ft_r z ez _, fun _ => DN (1, v1.2) v1.2 S ft_r z ez _⟩))) (fun _ => ?_)
            refine pc_rA ?_; intro _ _ v4' e4'
            refine pc_sv (ft_qf_X13_wrong (sf_r S)) ?_; intro u6 F
            exact pc_ret (pc_ret (fun z ez => ⟨fun _ => DN (1, u6) v1.2 S F z ez _, fun _ => DN (1, u6) v1.2 S F z ez _⟩))
          · have x7 := K.1.2.1.2.1
            have x6 := K.1.2.1.1
            have x5 := K.1.1.2.2.2.2
            have t0 : ty_T (u8 49 12) = 1 ↔ u8 49 12 = 302 := by
              have c := ty_c (vtn_v n8 x7)
              omega
            refine pc_if (fun z0 => pc_ret (pc_ret ?_)) (fun z0 => ?_)
            · exact GOOD v1 302 K FX (t0.mp (by rw [← x6]; exact z0)) (.inl ⟨k34, rfl⟩)
            · refine pc_rA ?_; intro _ _ v4' e4'
              rw [F8 169 _ (by omega) (by omega) (by omega), B.2.2.2.2.2.1 169 _ (by omega), lab] at e4'
              refine pc_sv (r_wrong (tbq_f TQ (fun cc x z => F8 cc x (by omega) (by omega) (by omega))) p1c x5 e4') ?_; intro u6 w1
              refine pc_ret (pc_ret (TL (1, u6) (p + 1) w1 (PT6 (p + 1) p1c K.1.1.2.2.2.1 (pk_b Q1 K.1) (.inl ⟨by omega, fun z => z0 (by rw [x6]; exact t0.mpr z), K.2.1⟩))))
      · exact ru_35 ((T 167 (by omega)).trans kn) (R416 (by omega))
    unfold qo_X10_readUnary
    refine pc_if (fun _ => ?_) (fun z => absurd (by omega) z)
    refine pc_sv (c_kind BK TB q2 q1 q3) ?_; intro u15 q15
    rw [q15, q1]
    refine pc_if (fun _ => CORE) (fun z1 => ?_)
    refine pc_if (fun _ => CORE) (fun z2 => ?_)
    exact pc_if (fun z => absurd (show bK X p = 71 by omega) z) (fun _ => CORE)
end
