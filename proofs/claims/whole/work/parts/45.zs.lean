section
/- E of both sides: - ! ~ ahead of a U: the whole -/
section
variable {nn : Nat} {X : BCx} {dp i a b e : Int} {p q : Nat} {h g u r w m : ms_M} {v : Int × ms_M}
theorem e2_us {ix : Int} (Y : CXs X) (ne : 0 ≤ a ∧ a ≤ e ∧ e < b) (hd : 0 ≤ dp ∧ dp + 1 ≤ 40) (nd : ((bK X p = 62 ∧ bT X 167 e.toNat = 33) ∨ (bK X p = 71 ∧ bT X 167 e.toNat = 34) ∨ (bK X p = 72 ∧ bT X 167 e.toNat = 35)) ∧ bT X 168 e.toNat = (p : Int)) (H : E2 nn X (dp + 1) ix (e + 1) b (p + 1) q (bT X 170 e.toNat)) (lab : bT X 169 (bT X 170 e.toNat).toNat = ((p + 1 : Nat) : Int)) (pq : p + 1 < q) : E2 nn X dp 0 a b p q e := by
  intro d d2 h r Q b57
  have Q0 := Q
  obtain ⟨B, ⟨q1, q2, q3, q4⟩, ⟨f1, f2, f3⟩, o1⟩ := Q0
  have T : ∀ cc : Nat, 163 ≤ cc ∧ cc ≤ 173 → r cc e.toNat = bT X cc e.toNat := fun cc z => B.2.2.2.2.2.1 cc e.toNat (by omega)
  have TB : TBc (bK X) (bP X) (bc X) h := B.1.1.1.1
  have TQ : TBq (bK X) (bP X) (bc X) r := B.1.1.2.2.1
  have BK := Y.1
  have n8 := Y.2.2.1
  have c3 := BK.2.1
  have p1c : p + 1 < bc X := jp_lt BK q2 (by omega)
  have nl : ¬ bT X 167 e.toNat = 30 ∧ ¬ bT X 167 e.toNat = 31 ∧ ¬ bT X 167 e.toNat = 32 ∧ ¬ bT X 167 e.toNat = 37 ∧ ¬ bT X 167 e.toNat = 38 := by omega
  cases d with
  | zero => exact pc_none
  | succ d =>
    have G := fsg_X10_readValue nn d
    show Pc (qo_X10_readUnary nn (qg_X10_readValue nn d) dp h) _
    have CORE : Pc (qj_X10_readUnary_41 nn (qg_X10_readValue nn d) dp (p : Int) (bK X p) h) (fun u => Pc ((qg_X13_condition nn d2).2.2.1 e r) (fun v => (SFj u v.2 ∨ VDj X 0 a b p q e h r u v) ∨ EOk nn X 0 a b p q e h r u v)) := by
      unfold qj_X10_readUnary_41
      rw [q1]
      refine pc_add (by omega) ?_; intro v4 e4
      refine pc_xl ?_; intro h5 e5
      rw [show v4 = ((p + 1 : Nat) : Int) by omega] at e5
      have E5 : ∀ cc x : Nat, ¬ (cc = 2 ∧ x = 10) → h5 cc x = h cc x := fun cc x z => by rw [e5, up_n z]
      refine pc_add (by omega) ?_; intro v6 e6
      rw [e6]
      have Q1 : EPr X (dp + 1) (p + 1) h5 r := by
        refine ⟨bx_k B (fun cc x z => E5 cc x (by omega)) (fun _ _ _ => rfl), ⟨by rw [e5, up_s], p1c, by rw [E5 2 11 (by omega)]; exact q3, q4⟩, ⟨frc_k f1 (fun cc x z => E5 cc x (by omega)), ?_, ?_⟩, ?_⟩
        · rw [E5 34 1 (by omega)]; omega
        · rw [E5 34 3 (by omega)]; omega
        · rw [E5 49 10 (by omega), E5 49 18 (by omega)]; omega
      have GV := j_given2 (nn := nn) (X := X) (x := (qg_X10_readValue nn d).2.2.1 (dp + 1) h5) TQ (fun cc y z => B.2.2.2.2.2.1 cc y (by omega)) n8 (fun d2 => H d d2 h5 r Q1 (by omega)) (fun _ z => by rw [E5 49 18 (by omega)] at z; omega)
      refine p2_sa ?_
      intro u8 e8
      have TF : ¬ u8 2 11 = 0 → Pc (mx_sv (qf_X10_closeUnary nn (bK X p) (p : Int) u8) fun u10 => qj_X10_readUnary_116 nn (qg_X10_readValue nn d) (p : Int) u10) (fun u => FSc u8 u) := fun S => by
        refine pc_sv (fs_qf_X10_closeUnary S) ?_; intro u10 F
        exact pc_imp (fs_qj_X10_readUnary_116 G (by rw [F.1]; exact S)) (fun u F2 => fs_t F F2)
      -- a FAULT on both sides
      have DN : ∀ (y : Int × ms_M) (v1 : ms_M), SFj u8 v1 → FSr v1 y.2 → ∀ z : ms_M, z = up_M y.2 174 e.toNat y.1 → ∀ c : Int, Pc (mx_sv (qf_X10_closeUnary nn (bK X p) (p : Int) u8) fun u10 => qj_X10_readUnary_116 nn (qg_X10_readValue nn d) (p : Int) u10) (fun u => (SFj u z ∨ VDj X 0 a b p q e h r u (c, z)) ∨ EOk nn X 0 a b p q e h r u (c, z)) := fun y v1 S F z ez c => pc_imp (TF S.1) (fun u F2 => .inl (.inl (sf_k S F2 ⟨by rw [ez, up_n (by omega)]; exact F.1, by rw [ez, up_n (by omega)]; exact F.2⟩)))
      -- told here, on both sides
      have TL : ∀ (y : Int × ms_M) (tk : Nat), (y.2 160 9 = 6 ∧ y.2 160 10 = bP X tk) → Pc (mx_sv (qf_X10_closeUnary nn (bK X p) (p : Int) u8) fun u10 => qj_X10_readUnary_116 nn (qg_X10_readValue nn d) (p : Int) u10) (fun u => u 2 11 = 6 ∧ u 2 12 = bP X tk) → ∀ z : ms_M, z = up_M y.2 174 e.toNat y.1 → (z 160 9 = 0 → Pc (mx_sv (qf_X10_closeUnary nn (bK X p) (p : Int) u8) fun u10 => qj_X10_readUnary_116 nn (qg_X10_readValue nn d) (p : Int) u10) (fun u => (SFj u z ∨ VDj X 0 a b p q e h r u (y.1, z)) ∨ EOk nn X 0 a b p q e h r u (y.1, z))) ∧ (¬ z 160 9 = 0 → Pc (mx_sv (qf_X10_closeUnary nn (bK X p) (p : Int) u8) fun u10 => qj_X10_readUnary_116 nn (qg_X10_readValue nn d) (p : Int) u10) (fun u => (SFj u z ∨ VDj X 0 a b p q e h r u (0, z)) ∨ EOk nn X 0 a b p q e h r u (0, z))) := fun y tk s1 PT z ez => by
        have z9 : z 160 9 = 6 := by rw [ez, up_n (by omega)]; exact s1.1
        have z10 : z 160 10 = bP X tk := by rw [ez, up_n (by omega)]; exact s1.2
        exact ⟨fun w => absurd w (by omega), fun _ => pc_imp PT (fun u s => .inl (.inl ⟨by omega, by rw [z9, s.1], by rw [z10, s.2]⟩))⟩
      refine w_one (by omega) q4 (r_nled (by rw [T 167 (by omega)]; exact nl)) (fun d3 => ?_) d2
      -- the good case, for both readings
      have GOOD : ∀ (v1 : Int × ms_M) (t1 : Int), EOk nn X ix (e + 1) b (p + 1) q (bT X 170 e.toNat) h5 r u8 v1 → (¬ bK X q = 51 → FM01 nn X ix (e + 1) b (p + 1) q (bT X 170 e.toNat) h5 u8 v1.2) → u8 49 12 = t1 → ((bT X 167 e.toNat = 34 ∧ t1 = 302) ∨ (¬ bT X 167 e.toNat = 34 ∧ t1 = 301)) → ∀ z : ms_M, z = up_M v1.2 174 e.toNat (ty_T t1) → (z 160 9 = 0 → Pc (mx_sv (qf_X10_closeUnary nn (bK X p) (p : Int) u8) fun u10 => qj_X10_readUnary_116 nn (qg_X10_readValue nn d) (p : Int) u10) (fun u => (SFj u z ∨ VDj X 0 a b p q e h r u (ty_T t1, z)) ∨ EOk nn X 0 a b p q e h r u (ty_T t1, z))) ∧ (¬ z 160 9 = 0 → Pc (mx_sv (qf_X10_closeUnary nn (bK X p) (p : Int) u8) fun u10 => qj_X10_readUnary_116 nn (qg_X10_readValue nn d) (p : Int) u10) (fun u => (SFj u z ∨ VDj X 0 a b p q e h r u (0, z)) ∨ EOk nn X 0 a b p q e h r u (0, z))) := fun v1 t1 K FX et tk z ez => by
        obtain ⟨K, K15, KF⟩ := K
        have K0 := K
        obtain ⟨⟨x1, x2, x3, x4, x5⟩, ⟨x6, x7, x8⟩, ⟨x9, x10, x11⟩, ⟨x12, x13, x14⟩, -⟩ := K
        have hk3 : (bK X p = 62 ∧ bT X 167 e.toNat = 33 ∧ t1 = 301) ∨ (bK X p = 71 ∧ bT X 167 e.toNat = 34 ∧ t1 = 302) ∨ (bK X p = 72 ∧ bT X 167 e.toNat = 35 ∧ t1 = 301) := by omega
        have vt : VTn (bn X) t1 ∧ ¬ t1 = 303 := ⟨by rw [← et]; exact x7, by omega⟩
        have RR : RFe a b r v1.2 := ⟨x10.1, fun cc x z1 z2 z3 => x10.2 cc x z1 z2 (by omega)⟩
        have z9 : z 160 9 = 0 := by rw [ez, up_n (by omega)]; exact x5
        refine ⟨fun _ => ?_, fun y => absurd z9 y⟩
        have E134 := E5 34 1 (by omega)
        have E334 := E5 34 3 (by omega)
        have h7 : 0 ≤ u8 34 7 := by
          rw [x9 34 7 (by omega) (by omega) (by omega) (by omega) (by omega) (by omega) (by omega) (by omega), E5 34 7 (by omega)]
          have := B.2.1.1
          omega
        have HX := c_closeU (nn := nn) (X := X) (kp := bK X p) (k := bT X 167 e.toNat) (t1 := t1) (x := (p : Int)) hk3 et x12 (by omega) (by omega) h7
        refine pc_sv HX ?_; intro u10 ⟨s1, s2, ⟨s3, s4⟩, s5, s6⟩
        unfold qj_X10_readUnary_116
        refine pc_xl ?_; intro h1 e1
        rw [e1]
        refine pc_ret (.inr (eok_un Y Q ne (by omega) E5 pq (by omega) K0 (fun cc y z1 z2 z3 _ _ z6 => s1 cc y z1 z2 z3 z6) s2 s3 s4 s5.1 s5.2 vt RR x5 ez (fun n51 => ?_)))
        obtain ⟨⟨c1, ct⟩, c2⟩ := (FX n51).2.2 n51
        rw [if_neg (by rw [et]; exact vt.2), E334] at c1
        obtain ⟨⟨y1, y2⟩, y3⟩ := s6 (by omega) (ct.elim (fun y => absurd (et.symm.trans y) vt.2) (fun y => by rw [et] at y; exact y))
        clear s6 ct
        refine ⟨⟨by omega, y2⟩, mkc_one nl ne (fun PB WL L m d M A z1 z2 => ?_)⟩
        clear y2
        obtain ⟨MT, -, -, -⟩ := mk_t M
        have M1 : MKx X PB WL L h5 m := mkx_c M (fun cc x z1 z2 z3 => E5 cc x (by omega))
        have CH := c2 d PB WL L m M1 (an_s A ⟨by omega, Int.le_refl _⟩ (fun cc x c1 c2 c4 c5 => by rw [ez, up_n (by omega)])) (by omega) (by omega)
        refine wo_un (MT 167 e.toNat (by omega)) (by omega) (MT 170 e.toNat (by omega)) CH (fun k w hw => ?_) (fun k w hw => ?_) (fun k w hw => ?_)
        · have y4 := (y3 PB WL L w hw.1 (by omega)).1 k
          exact pc_imp y4 (fun w2 y => ⟨y.1, by have := y.2; omega⟩)
        · have y4 := (y3 PB WL L w hw.1 (by omega)).2.1 k
          exact pc_imp y4 (fun w2 y => ⟨y.1, by have := y.2; omega⟩)
        · have y4 := (y3 PB WL L w hw.1 (by omega)).2.2 k
          exact pc_imp y4 (fun w2 y => ⟨y.1, by have := y.2; omega⟩)
      have PT6 : ∀ tk : Nat, tk < bc X → u8 2 11 = 0 → TBc (bK X) (bP X) (bc X) u8 → ((bK X p = 71 ∧ ¬ u8 49 12 = 302 ∧ u8 49 15 = (tk : Int)) ∨ (¬ bK X p = 71 ∧ ¬ u8 49 12 = 301 ∧ tk = p)) → Pc (mx_sv (qf_X10_closeUnary nn (bK X p) (p : Int) u8) fun u10 => qj_X10_readUnary_116 nn (qg_X10_readValue nn d) (p : Int) u10) (fun u => u 2 11 = 6 ∧ u 2 12 = bP X tk) := fun tk ht x4 TB8 hk => c_closeT G ht x4 TB8 hk
      have R416 : ¬ bT X 167 e.toNat = 34 → Pc (qj_X13_rule_416 nn (qg_X13_condition nn d3) e r) (fun u => ∀ z : ms_M, z = up_M u.2 174 e.toNat u.1 → (z 160 9 = 0 → Pc (mx_sv (qf_X10_closeUnary nn (bK X p) (p : Int) u8) fun u10 => qj_X10_readUnary_116 nn (qg_X10_readValue nn d) (p : Int) u10) (fun u' => (SFj u' z ∨ VDj X 0 a b p q e h r u' (u.1, z)) ∨ EOk nn X 0 a b p q e h r u' (u.1, z))) ∧ (¬ z 160 9 = 0 → Pc (mx_sv (qf_X10_closeUnary nn (bK X p) (p : Int) u8) fun u10 => qj_X10_readUnary_116 nn (qg_X10_readValue nn d) (p : Int) u10) (fun u' => (SFj u' z ∨ VDj X 0 a b p q e h r u' (0, z)) ∨ EOk nn X 0 a b p q e h r u' (0, z)))) := fun k34 => by
        unfold qj_X13_rule_416
        refine pc_rA ?_; intro _ _ v47 e47
        rw [T 170 (by omega)] at e47
        rw [e47]
        refine pc_sv (pc_and (GV d3 u8 e8) (gv_fr d3)) ?_; intro v1 ⟨hv, F8⟩
        rcases hv with S | ⟨K, n303, FX⟩
        · refine pc_if (fun _ => pc_ret (fun z ez => ⟨fun _ => DN (0, v1.2) v1.2 S ft_r z ez _, fun _ => DN (0, v1.2) v1.2 S ft_r z ez _⟩)) (fun _ => ?_)
          refine pc_rA ?_; intro _ _ v51 e51
          refine pc_sv (ft_qf_X13_wrong (sf_r S)) ?_; intro u53 F
          exact pc_ret (fun z ez => ⟨fun _ => DN (0, u53) v1.2 S F z ez _, fun _ => DN (0, u53) v1.2 S F z ez _⟩)
        · have x7 := K.1.2.1.2.1
          have x6 := K.1.2.1.1
          have x5 := K.1.1.2.2.2.2
          have t0 : ty_T (u8 49 12) = 0 ↔ u8 49 12 = 301 := by
            have c := ty_c (vtn_v n8 x7)
            omega
          refine pc_if (fun z0 => pc_ret ?_) (fun z0 => ?_)
          · exact GOOD v1 301 K FX (t0.mp (by rw [← x6]; exact z0)) (.inr ⟨k34, rfl⟩)
          · refine pc_rA ?_; intro _ _ v51 e51
            rw [F8 168 _ (by omega) (by omega) (by omega), T 168 (by omega), nd.2] at e51
            refine pc_sv (r_wrong (tbq_f TQ (fun cc x z => F8 cc x (by omega) (by omega) (by omega))) q2 x5 e51) ?_; intro u53 w1
            refine pc_ret (TL (0, u53) p w1 (PT6 p q2 K.1.1.2.2.2.1 (pk_b Q1 K.1) (.inr ⟨by omega, fun z => z0 (by rw [x6]; exact t0.mpr z), rfl⟩)))
      rcases nd.1 with ⟨kp, kn⟩ | ⟨kp, k34⟩ | ⟨kp, kn⟩
      · exact ru_33 ((T 167 (by omega)).trans kn) (R416 (by omega))
      · refine ru_34 ((T 167 (by omega)).trans k34) ?_
        refine pc_rA ?_; intro _ _ v177 e177
        rw [T 170 (by omega)] at e177
        rw [e177]
        cases d3 with
        | zero => exact fun r e => nomatch e
        | succ d4 =>
          refine pc_sb ?_
          show Pc (qo_X13_condition nn (qg_X13_condition nn d4) (bT X 170 e.toNat) r) _
          unfold qo_X13_condition
          refine pc_sv (pc_and (GV d4 u8 e8) (gv_fr d4)) ?_; intro v1 ⟨hv, F8⟩
          rcases hv with S | ⟨K, n303, FX⟩
          · refine pc_if (fun _ => pc_ret (pc_ret (fun z ez => ⟨fun _ => DN (1, v1.2) v1.2 S ft_r z ez _, fun _ => DN (1, v1.2) v1.2 S ft_r z ez _⟩))) (fun _ => ?_)
            refine pc_rA ?_; intro _ _ v4' e4'
            refine pc_sv (ft_qf_X13_wrong (sf_r S)) ?_; intro u6 F
            exact pc_ret (pc_ret (fun z ez => ⟨fun _ => DN (1, u6) v1.2 S F z ez _, fun _ => DN (1, u6) v1.2 S F z ez _⟩))
          · have x7 := K.1.2.1.2.1
            have x6 := K.1.2.1.1
            have x5 := K.1.1.2.2.2.2
            have t0 : ty_T (u8 49 12) = 1 ↔ u8 49 12 = 302 := by
              have c := ty_c (vtn_v n8 x7)
              omega
            refine pc_if (fun z0 => pc_ret (pc_ret ?_)) (fun z0 => ?_)
            · exact GOOD v1 302 K FX (t0.mp (by rw [← x6]; exact z0)) (.inl ⟨k34, rfl⟩)
            · refine pc_rA ?_; intro _ _ v4' e4'
              rw [F8 169 _ (by omega) (by omega) (by omega), B.2.2.2.2.2.1 169 _ (by omega), lab] at e4'
              refine pc_sv (r_wrong (tbq_f TQ (fun cc x z => F8 cc x (by omega) (by omega) (by omega))) p1c x5 e4') ?_; intro u6 w1
              refine pc_ret (pc_ret (TL (1, u6) (p + 1) w1 (PT6 (p + 1) p1c K.1.1.2.2.2.1 (pk_b Q1 K.1) (.inl ⟨by omega, fun z => z0 (by rw [x6]; exact t0.mpr z), K.2.1⟩))))
      · exact ru_35 ((T 167 (by omega)).trans kn) (R416 (by omega))
    unfold qo_X10_readUnary
    refine pc_if (fun _ => ?_) (fun z => absurd (by omega) z)
    refine pc_sv (c_kind BK TB q2 q1 q3) ?_; intro u15 q15
    rw [q15, q1]
    refine pc_if (fun _ => CORE) (fun z1 => ?_)
    refine pc_if (fun _ => CORE) (fun z2 => ?_)
    exact pc_if (fun z => absurd (show bK X p = 71 by omega) z) (fun _ => CORE)
end
end
section
/- E of both sides: kin of a class: CAST and instanceof -/
/-- whether a type goes with a class -/
def KNo (X : BCx) (t c : Int) : Prop := (t = 300 ∨ (0 ≤ t ∧ t ≤ 200)) ∧ (FTS (bB X 180) t c ∨ FTS (bB X 180) c t)
/-- what op, pop, push do on both sides -/
def CKr (nn : Nat) (X : BCx) (o c t : Int) (u8 u : ms_M) : Prop := (∀ cc x : Nat, ¬ (cc = 34 ∧ (x = 1 ∨ x = 3 ∨ x = 4)) → ¬ (cc = 35 ∨ cc = 36) → ¬ (cc = 45 ∧ (x = 4 ∨ x = 5)) → ¬ (cc = 46 ∨ cc = 47) → u cc x = u8 cc x) ∧ (u 34 1 = u8 34 1 + 2 ∧ 1 ≤ u 34 3 ∧ u 34 3 ≤ u8 34 3 + 1) ∧ (1 ≤ u8 34 3 → u 34 3 = u8 34 3) ∧ (20 < u 34 3 ∨ u 36 (u 34 3 - 1).toNat = t) ∧ (1 ≤ u8 34 3 → ∀ (PB : Nat → Prop) (WL : Int → Int → Prop) (L : List (Int × Int)) (w : ms_M), MKx X PB WL L u8 w → Pc (mx_sv (qf_X13_put nn o w) fun w1 => mx_sv (qf_X13_classConstant nn (ty_T c) w1) fun w2 => mx_sv (qf_X13_put nn w2.1 w2.2) fun w3 => mx_sv (qf_X13_turn nn 1 (ty_T t) w3) fun w4 => some w4) (fun w2 => MKx X PB WL L u w2 ∧ w2 160 88 = w 160 88))
section
variable {nn : Nat} {X : BCx} {dp i a b e t : Int} {p q : Nat} {h g u r w m : ms_M} {v : Int × ms_M}
theorem hd_u (Y : CXs X) : ∀ k : Nat, k < bn X → -1 ≤ bB X 180 k ∧ bB X 180 k < 8 + (bn X : Int) := fun k hk => upk_b Y.2.1 hk (Y.2.2.2.2.2.2.1.2.1.2.1 k hk)
theorem bx_180 (B : BX X h r) : r 180 = bB X 180 := funext (fun x => B.2.2.2.2.2.2.1 180 x (by omega))
theorem c_fit (Y : CXs X) (B : BX X h r) {s t : Int} (vs : VTn (bn X) s) (vt : VTn (bn X) t) : Pc (qf_X4_fits nn 12 s t h) (fun u => (u = 1 ∧ FTS (bB X 180) s t) ∨ (u = 0 ∧ ¬ FTS (bB X 180) s t)) := by
  have e := bx_180 B
  have OK := B.1.2.1.2.2.1
  have KN := B.1.2.1.2.2.2
  rw [e] at OK KN
  exact c_fits Y.2.1 Y.2.2.1 (hd_u Y) OK KN vs vt
theorem c_fit1 (Y : CXs X) (B : BX X h r) {s t : Int} (vs : VTn (bn X) s) (vt : VTn (bn X) t) : Pc (qf_X4_oneFits nn s t h) (fun u => (u = 1 ∧ (FTS (bB X 180) s t ∨ FTS (bB X 180) t s)) ∨ (u = 0 ∧ ¬ (FTS (bB X 180) s t ∨ FTS (bB X 180) t s))) := by
  have e := bx_180 B
  have OK := B.1.2.1.2.2.1
  have KN := B.1.2.1.2.2.2
  rw [e] at OK KN
  exact c_one Y.2.1 Y.2.2.1 (hd_u Y) OK KN vs vt
theorem r_fit (Y : CXs X) (e : r 180 = bB X 180) {s t : Int} (vs : VTn (bn X) s) (vt : VTn (bn X) t) : Pc (qf_X13_fits nn (ty_T s) (ty_T t) r) (fun u => (u = 1 ∧ FTS (bB X 180) s t) ∨ (u = 0 ∧ ¬ FTS (bB X 180) s t)) := by
  have B := hd_u Y
  rw [← e] at B ⊢
  exact r_fits Y.2.2.1 B vs vt
theorem r_goT (Y : CXs X) (e : r 180 = bB X 180) {s t : Int} (vs : VTn (bn X) s) (vt : VTn (bn X) t) : Pc (qf_X13_goTogether nn (ty_T s) (ty_T t) r) (fun u => (u = 1 ∧ (((ty_T s < 2 ∨ ty_T t < 2) ∧ s = t) ∨ (¬ (ty_T s < 2 ∨ ty_T t < 2) ∧ (FTS (bB X 180) s t ∨ FTS (bB X 180) t s)))) ∨ (u = 0 ∧ ¬ (((ty_T s < 2 ∨ ty_T t < 2) ∧ s = t) ∨ (¬ (ty_T s < 2 ∨ ty_T t < 2) ∧ (FTS (bB X 180) s t ∨ FTS (bB X 180) t s))))) := by
  have B := hd_u Y
  rw [← e] at B ⊢
  exact r_go Y.2.2.1 B vs vt
/-- the class: want kin of c -/
theorem c_kinOf (Y : CXs X) (B : BX X h r) (hf : h 2 11 = 0) {tk : Nat} {x c : Int} (ht : tk < bc X) (hx : x = (tk : Int)) (vt : VTn (bn X) (h 49 12)) (vc : 0 ≤ c ∧ c < 8 + (bn X : Int)) : Pc (qf_X10_wantKinOf nn c x h) (fun u => (KNo X (h 49 12) c ∧ u = h) ∨ (¬ KNo X (h 49 12) c ∧ u 2 11 = 6 ∧ u 2 12 = bP X tk)) := by
  have TB : TBc (bK X) (bP X) (bc X) h := B.1.1.1.1
  have TL : ¬ KNo X (h 49 12) c → Pc (qj_X10_wantKinOf_30 nn x h) (fun u => (KNo X (h 49 12) c ∧ u = h) ∨ (¬ KNo X (h 49 12) c ∧ u 2 11 = 6 ∧ u 2 12 = bP X tk)) := fun z => by
    unfold qj_X10_wantKinOf_30
    refine pc_sv (c_want0 TB hf ht hx) ?_; intro u2 s
    exact pc_ret (.inr ⟨z, s⟩)
  unfold qf_X10_wantKinOf
  have IR : Pc (qf_X4_isReference nn (h 49 12) h) (fun u => (u = 1 ∧ (h 49 12 = 300 ∨ (0 ≤ h 49 12 ∧ h 49 12 ≤ 200))) ∨ (u = 0 ∧ ¬ (h 49 12 = 300 ∨ (0 ≤ h 49 12 ∧ h 49 12 ≤ 200)))) := by
    unfold qf_X4_isReference
    refine pc_if (fun z => pc_ret (.inl ⟨rfl, .inl z⟩)) (fun z => ?_)
    refine pc_if (fun z2 => pc_ret (.inr ⟨rfl, by omega⟩)) (fun z2 => ?_)
    exact pc_if (fun z3 => pc_ret (.inr ⟨rfl, by omega⟩)) (fun z3 => pc_ret (.inl ⟨rfl, by omega⟩))
  refine pc_sv IR ?_; intro u4 q4
  refine pc_if (fun z => TL (fun y => ?_)) (fun z => ?_)
  · rcases q4 with ⟨y1, y2⟩ | ⟨y1, y2⟩
    · omega
    · exact y2 y.1
  · rcases q4 with ⟨y1, y2⟩ | ⟨y1, y2⟩
    · refine pc_sv (c_fit1 Y B vt (t := c) (by unfold VTn; omega)) ?_; intro u8 q8
      refine pc_if (fun z8 => TL (fun y => ?_)) (fun z8 => ?_)
      · rcases q8 with ⟨w1, w2⟩ | ⟨w1, w2⟩
        · omega
        · exact w2 y.2
      · rcases q8 with ⟨w1, w2⟩ | ⟨w1, w2⟩
        · refine pc_sv c_want1 ?_; intro u10 q10
          exact pc_ret (.inl ⟨⟨y2, w2⟩, q10⟩)
        · exact absurd w1 z8
    · exact absurd y1 z
/-- the reference -/
theorem r_kinOf {rc : tq_X13_condition} (Y : CXs X) (TQ : TBq (bK X) (bP X) (bc X) r) (e8 : r 180 = bB X 180) (hf : r 160 9 = 0) {tk : Nat} {c : Int} (ht : tk < bc X) (hx : r 168 e.toNat = (tk : Int)) (vt : VTn (bn X) t) (n303 : ¬ t = 303) (vc : 0 ≤ c ∧ c < 8 + (bn X : Int)) : Pc (qj_X13_rule_539 nn rc e (ty_T t) c r) (fun u => (KNo X t c ∧ (u.1 = if r 167 e.toNat = 38 then 1 else ty_T c) ∧ u.2 = up_M r 176 e.toNat (ty_T c)) ∨ (¬ KNo X t c ∧ u.2 160 9 = 6 ∧ u.2 160 10 = bP X tk)) := by
  have n8 := Y.2.2.1
  have cc := ty_c (vtn_v n8 vt)
  have cd := ty_c (t := c) (.inr (.inr (.inr (.inr (.inr (.inl (by omega)))))))
  unfold qj_X13_rule_539
  refine pc_xl ?_; intro v13 e13
  rw [oq_mul_eq (by omega) (by omega) (by omega)] at e13
  refine pc_add (by omega) ?_; intro v14 e14
  rw [show v14 = ty_T c by omega]
  have TL : ¬ KNo X t c → Pc (qj_X13_rule_562 nn rc e (ty_T c) r) (fun u => (KNo X t c ∧ (u.1 = if r 167 e.toNat = 38 then 1 else ty_T c) ∧ u.2 = up_M r 176 e.toNat (ty_T c)) ∨ (¬ KNo X t c ∧ u.2 160 9 = 6 ∧ u.2 160 10 = bP X tk)) := fun z => by
    unfold qj_X13_rule_562
    refine pc_rA ?_; intro _ _ v10 e10
    rw [hx] at e10
    refine pc_sv (r_wrong TQ ht hf e10) ?_; intro u12 ⟨w1, w2⟩
    unfold qj_X13_rule_574
    refine pc_wA ?_; intro _ _ h5 e5
    refine pc_rA ?_; intro _ _ v7 e7
    have f1 : h5 160 9 = 6 := by rw [e5, up_n (by omega)]; exact w1
    have f2 : h5 160 10 = bP X tk := by rw [e5, up_n (by omega)]; exact w2
    exact pc_if (fun _ => pc_ret (.inr ⟨z, f1, f2⟩)) (fun _ => pc_ret (.inr ⟨z, f1, f2⟩))
  refine pc_sv (r_isTh n8 vt) ?_; intro u15 q15
  refine pc_if (fun z => TL (fun y => ?_)) (fun z => ?_)
  · have := y.1
    omega
  · refine pc_sv (r_goT Y e8 vt (t := c) (by unfold VTn; omega)) ?_; intro u17 q17
    have ir : t = 300 ∨ (0 ≤ t ∧ t ≤ 200) := by omega
    have nlt : ¬ (ty_T t < 2 ∨ ty_T c < 2) := by omega
    refine pc_if (fun z2 => ?_) (fun z2 => TL (fun y => ?_))
    · rcases q17 with ⟨y1, y2⟩ | ⟨y1, y2⟩
      · have ok : KNo X t c := by
          rcases y2 with ⟨w1, w2⟩ | ⟨w1, w2⟩
          · exact absurd w1 nlt
          · exact ⟨ir, w2⟩
        unfold qj_X13_rule_574
        refine pc_wA ?_; intro _ _ h5 e5
        refine pc_rA ?_; intro _ _ v7 e7
        rw [e5, up_n (by omega)] at e7
        refine pc_if (fun y => pc_ret (.inl ⟨ok, ?_, e5⟩)) (fun y => pc_ret (.inl ⟨ok, ?_, e5⟩))
        · exact (if_neg (by rw [← e7]; exact y)).symm
        · exact (if_pos (by rw [← e7]; exact Classical.byContradiction y)).symm
      · exact absurd y1 z2
    · rcases q17 with ⟨y1, y2⟩ | ⟨y1, y2⟩
      · omega
      · exact y2 (.inr ⟨nlt, y.2⟩)
/-- the class's part of CKr -/
theorem c_kr {o c : Int} {u8 : ms_M} {K : ms_M → Option ms_M} {QQ : ms_M → Prop} (Y : CXs X) (l1 : 0 ≤ u8 34 1 ∧ u8 34 1 ≤ 900000) (l3 : 0 ≤ u8 34 3 ∧ u8 34 3 ≤ 900000) (vc : 0 ≤ c ∧ c < 8 + (bn X : Int)) (ho : in_R o) (vt : VTn (bn X) t ∧ ¬ t = 303) (HK : ∀ u15 : ms_M, CKr nn X o c t u8 u15 → Pc (K u15) QQ) : Pc (mx_sv (qf_X6_classOf nn c u8) fun u7 => mx_sv (qf_X1_op_ nn o u7.1 u7.2) fun u9 => mx_sv (qf_X1_pop nn 1 u9) fun u12 => mx_sv (qf_X1_push nn t u12) fun u15 => K u15) QQ := by
  refine pc_sv (pc_and c_clf (fun u eu => eu)) ?_; intro u7 ⟨G7, e7⟩
  have b1 := G7 34 1 (by omega) (by omega) (by omega)
  have b3 := G7 34 3 (by omega) (by omega) (by omega)
  refine pc_sv (c_op2 (by omega)) ?_; intro u9 ⟨g1, A1, A2⟩
  have c3 : u9 34 3 = u8 34 3 := by rw [A2.2.2 34 3 (by omega) (by omega), A1.2.2 34 3 (by omega) (by omega)]; exact b3
  have c1 : u9 34 1 = u8 34 1 + 2 := by rw [A2.1, A1.1]; omega
  refine pc_sv (c_pop (by omega) (by omega)) ?_; intro u12 A3
  have d3 : u12 34 3 = if 0 < u8 34 3 - 1 then u8 34 3 - 1 else 0 := by rw [A3.1, c3]
  have d3' : 0 ≤ u12 34 3 ∧ u12 34 3 ≤ u8 34 3 ∧ (1 ≤ u8 34 3 → u12 34 3 = u8 34 3 - 1) := by rw [d3]; split <;> omega
  refine pc_sv (c_push (by omega)) ?_; intro u15 A4
  have e3 := A4.1
  have e1 : u15 34 1 = u8 34 1 + 2 := by rw [A4.2.2.2 34 1 (by omega) (by omega), A3.2 34 1 (by omega)]; exact c1
  refine HK u15 ⟨fun cc x z1 z2 z3 z4 => ?_, ⟨e1, by omega, by omega⟩, fun z => by omega, ?_, fun z PB WL L w M => ?_⟩
  · rw [A4.2.2.2 cc x (by omega) (by omega), A3.2 cc x (by omega), A2.2.2 cc x (by omega) (by omega), A1.2.2 cc x (by omega) (by omega)]
    exact G7 cc x (by omega) (by omega) (by omega)
  · by_cases z : u12 34 3 < 20
    · right
      rw [e3, show (u12 34 3 + 1 - 1).toNat = (u12 34 3).toNat by omega]
      exact A4.2.2.1 z
    · left; omega
  · have tn : ¬ ty_T t = 3 := fun y => vt.2 ((ty_3 (X := X) Y.2.2.1 vt.1).mp y)
    refine m_opC Y M (by omega) e7 A1 A2 (.inl vc) ho (fun w3 M3 l3' _ => ?_) rfl
    refine pc_sv (m_turnG M3 A3 A4 (by omega) (by omega) ⟨rfl, vt⟩ tn rfl) ?_; intro w4 ⟨M4, l4⟩
    exact pc_ret ⟨mkx_c M4 (fun cc x z1 z2 z3 => by rw [up_n (by omega), up_n (by omega)]), by rw [l4]; exact l3'⟩
theorem pc_svr {n : Int} {c : Nat} {j val : Int} {x : Option ms_M} {F : Int → ms_M → Option ms_M} {QQ : ms_M → Prop} (H1 : Pc x (fun u => u c j.toNat = val)) (H : Pc (mx_sv x fun u => F val u) QQ) : Pc (mx_sv x fun u => rd_A n c j u fun v => F v u) QQ := by
  cases hx : x with
  | none => exact fun r e => nomatch e
  | some y =>
    show Pc (rd_A n c j y fun v => F v y) QQ
    refine pc_rA ?_; intro _ _ v ev
    rw [H1 y hx] at ev
    rw [ev]
    rw [hx] at H
    exact H
/-- the making's part -/
theorem w_kr {o c l2 : Int} {u8 u15 : ms_M} {PB : Nat → Prop} {WL : Int → Int → Prop} {L : List (Int × Int)} {rc : tq_X13_work} (CK : CKr nn X o c t u8 u15) (h1 : 1 ≤ u8 34 3) (M : MKx X PB WL L u8 m) (bl : u8 34 1 ≤ 900000) (m6 : m 176 e.toNat = ty_T c) (hl : l2 = ty_T t) : Pc (qj_X13_workOne_630 nn rc e l2 o m) (fun w2 => MKx X PB WL L u15 w2 ∧ w2 160 88 = m 160 88) := by
  have R := CK.2.2.2.2 h1 PB WL L m M
  obtain ⟨-, -, ⟨m1, m2, m3, m4⟩, -⟩ := mk_t M
  unfold qj_X13_workOne_630
  rw [hl]
  exact pc_svr (val := ty_T c) (pc_imp (r_put (by omega)) (fun u b => (b.2.2 176 _ (by omega) (by omega)).trans m6)) R
end
end
section
/- E of both sides: a CAST -/
section
variable {nn : Nat} {X : BCx} {dp i a b e t : Int} {p q : Nat} {h g u r w m : ms_M} {v : Int × ms_M}
theorem c_closeC {u8 : ms_M} {c x : Int} {tk : Nat} (Y : CXs X) (B : BX X u8 r) (hf : u8 2 11 = 0) (ht : tk < bc X) (hx : x = (tk : Int)) (vt : VTn (bn X) (u8 49 12)) (vc : 0 ≤ c ∧ c < 8 + (bn X : Int)) (l1 : 0 ≤ u8 34 1 ∧ u8 34 1 ≤ 900000) (l3 : 0 ≤ u8 34 3 ∧ u8 34 3 ≤ 900000) : Pc (qf_X10_closeCast nn c x u8) (fun u => (KNo X (u8 49 12) c ∧ ∃ u15, CKr nn X 192 c c (up_M u8 49 11 0) u15 ∧ u = up_M u15 49 12 c) ∨ (¬ KNo X (u8 49 12) c ∧ u 2 11 = 6 ∧ u 2 12 = bP X tk)) := by
  have n8 := Y.2.2.1
  unfold qf_X10_closeCast
  refine pc_xl ?_; intro h1 e1
  have E1 : ∀ cc x : Nat, ¬ (cc = 49 ∧ x = 11) → h1 cc x = u8 cc x := fun cc x z => by rw [e1, up_n z]
  have B1 : BX X h1 r := bx_k B (fun cc x z => E1 cc x (by omega)) (fun _ _ _ => rfl)
  have t12 := E1 49 12 (by omega)
  refine pc_if (fun _ => ?_) (fun z => absurd (show ¬ c = -1 by omega) z)
  refine pc_sv (c_kinOf Y B1 (by rw [E1 2 11 (by omega)]; exact hf) ht hx (by rw [t12]; exact vt) vc) ?_; intro u3 q3
  rw [t12] at q3
  rcases q3 with ⟨ok, eu⟩ | ⟨nok, f1, f2⟩
  · rw [eu]
    refine c_kr Y (by rw [E1 34 1 (by omega)]; exact l1) (by rw [E1 34 3 (by omega)]; exact l3) vc (by unfold in_R; omega) ⟨by unfold VTn; omega, by omega⟩ (fun u15 CK => ?_)
    refine pc_xl ?_; intro h16 e16
    exact pc_ret (.inl ⟨ok, u15, by rw [← e1]; exact CK, e16⟩)
  · have S3 : ¬ u3 2 11 = 0 := by omega
    refine pc_sv (fs_qf_X6_classOf S3) ?_; intro u7 F7
    have S7 : ¬ u7.2 2 11 = 0 := by rw [F7.1]; exact S3
    refine pc_sv (fs_qf_X1_op_ S7) ?_; intro u9 F9
    have S9 : ¬ u9 2 11 = 0 := by rw [F9.1]; exact S7
    refine pc_sv (fs_qf_X1_pop S9) ?_; intro u12 F12
    have S12 : ¬ u12 2 11 = 0 := by rw [F12.1]; exact S9
    refine pc_sv (fs_qf_X1_push S12) ?_; intro u15 F15
    refine pc_xl ?_; intro h16 e16
    refine pc_ret (.inr ⟨nok, ?_, ?_⟩)
    · rw [e16, up_n (by omega), F15.1, F12.1, F9.1, F7.1]; exact f1
    · rw [e16, up_n (by omega), F15.2, F12.2, F9.2, F7.2]; exact f2
theorem e2_uc {ix : Int} (Y : CXs X) (ne : 0 ≤ a ∧ a ≤ e ∧ e < b) (hd : 0 ≤ dp ∧ dp + 1 ≤ 40) (nd : CST (bK X) (p : Int) ∧ bT X 167 e.toNat = 36 ∧ bT X 168 e.toNat = ((p + 1 : Nat) : Int)) (H : E2 nn X (dp + 1) ix (e + 1) b (p + 3) q (bT X 170 e.toNat)) (pq : p + 3 < q) : E2 nn X dp 0 a b p q e := by
  intro d d2 h r Q b57
  have Q0 := Q
  obtain ⟨B, ⟨q1, q2, q3, q4⟩, ⟨f1, f2, f3⟩, o1⟩ := Q0
  have T : ∀ cc : Nat, 163 ≤ cc ∧ cc ≤ 173 → r cc e.toNat = bT X cc e.toNat := fun cc z => B.2.2.2.2.2.1 cc e.toNat (by omega)
  have TB : TBc (bK X) (bP X) (bc X) h := B.1.1.1.1
  have TQ : TBq (bK X) (bP X) (bc X) r := B.1.1.2.2.1
  have BK := Y.1
  have n8 := Y.2.2.1
  have c3 := BK.2.1
  have k0 : bK X p = 40 := by
    have := nd.1.1
    rwa [Int.toNat_natCast] at this
  have k1 : bK X (p + 1) = 2 := by
    have := nd.1.2.1
    rwa [show ((p : Int) + 1).toNat = p + 1 by omega] at this
  have k2 : bK X (p + 2) = 41 := by
    have := nd.1.2.2.1
    rwa [show ((p : Int) + 2).toNat = p + 2 by omega] at this
  have p2c : p + 2 < bc X := tb_lt BK (by omega)
  have p3c : p + 3 < bc X := jp_lt BK p2c (by omega)
  have v0 := (B.1.1.2.2.2.1.1 (p + 1) (by omega) k1).1.1
  have nl : ¬ bT X 167 e.toNat = 30 ∧ ¬ bT X 167 e.toNat = 31 ∧ ¬ bT X 167 e.toNat = 32 ∧ ¬ bT X 167 e.toNat = 37 ∧ ¬ bT X 167 e.toNat = 38 := by omega
  cases d with
  | zero => exact pc_none
  | succ d =>
    have G := fsg_X10_readValue nn d
    show Pc (qo_X10_readUnary nn (qg_X10_readValue nn d) dp h) _
    unfold qo_X10_readUnary
    refine pc_if (fun _ => ?_) (fun z => absurd (by omega) z)
    refine pc_sv (c_kind BK TB q2 q1 q3) ?_; intro u15 q15
    refine pc_if (fun z => absurd z (by omega)) (fun _ => ?_)
    refine pc_if (fun z => absurd z (by omega)) (fun _ => ?_)
    refine pc_if (fun _ => ?_) (fun z => absurd (show ¬ u15 = 71 by omega) z)
    refine pc_sv (c_cast BK TB q2 q1 q3) ?_; intro u18 q18
    have u1 : u18 = 1 := by
      rcases q18 with ⟨z, -⟩ | ⟨-, z⟩
      · exact z
      · exact absurd nd.1 z
    refine pc_if (fun z => absurd z (by omega)) (fun _ => ?_)
    rw [q1]
    refine pc_add (by omega) ?_; intro v21 e21
    refine pc_add (by omega) ?_; intro v22 e22
    refine pc_sv (c_rnc Y B q3 k1 (x := v21) (y := v22) (by omega)) ?_; intro u24 q24
    refine pc_add (by omega) ?_; intro v25 e25
    rcases q24 with ⟨cl, cn, eu⟩ | ⟨cl, cn, t1, t2⟩
    · have cb := clz_v cl v0 cn
      have E5 : ∀ cc x : Nat, ¬ (cc = 2 ∧ x = 10) → u24.2 cc x = h cc x := fun cc x z => by rw [eu, up_n z]
      have p10 : u24.2 2 10 = ((p + 3 : Nat) : Int) := by rw [eu, up_s]; omega
      generalize u24.2 = h5 at E5 p10 ⊢
      generalize u24.1 = c at cl cn cb ⊢
      clear eu
      rw [e25]
      have Q1 : EPr X (dp + 1) (p + 3) h5 r := by
        refine ⟨bx_k B (fun cc x z => E5 cc x (by omega)) (fun _ _ _ => rfl), ⟨p10, p3c, by rw [E5 2 11 (by omega)]; exact q3, q4⟩, ⟨frc_k f1 (fun cc x z => E5 cc x (by omega)), ?_, ?_⟩, ?_⟩
        · rw [E5 34 1 (by omega)]; omega
        · rw [E5 34 3 (by omega)]; omega
        · rw [E5 49 10 (by omega), E5 49 18 (by omega)]; omega
      have GV := j_given2 (nn := nn) (X := X) (x := (qg_X10_readValue nn d).2.2.1 (dp + 1) h5) TQ (fun cc y z => B.2.2.2.2.2.1 cc y (by omega)) n8 (fun d2 => H d d2 h5 r Q1 (by omega)) (fun _ z => by rw [E5 49 18 (by omega)] at z; omega)
      refine p2_sa ?_
      intro u27 e27
      have SH : ∀ (Z : ms_M → Prop), Pc (mx_sv (qf_X10_closeCast nn c ((p + 1 : Nat) : Int) u27) fun u30 => qj_X10_readUnary_116 nn (qg_X10_readValue nn d) (p : Int) u30) Z → Pc (xl (oq_add (p : Int) 1) fun v28 => mx_sv (qf_X10_closeCast nn c v28 u27) fun u30 => qj_X10_readUnary_116 nn (qg_X10_readValue nn d) (p : Int) u30) Z := fun Z HZ => by
        refine pc_add (by omega) ?_; intro v28 e28
        rw [show v28 = ((p + 1 : Nat) : Int) by omega]
        exact HZ
      have TF : ¬ u27 2 11 = 0 → Pc (mx_sv (qf_X10_closeCast nn c ((p + 1 : Nat) : Int) u27) fun u30 => qj_X10_readUnary_116 nn (qg_X10_readValue nn d) (p : Int) u30) (fun u => FSc u27 u) := fun S => by
        refine pc_sv (fs_qf_X10_closeCast S) ?_; intro u10 F
        exact pc_imp (fs_qj_X10_readUnary_116 G (by rw [F.1]; exact S)) (fun u F2 => fs_t F F2)
      refine w_one (by omega) q4 (r_nled (by rw [T 167 (by omega)]; exact nl)) (fun d3 => ?_) d2
      refine ru_36 ((T 167 (by omega)).trans nd.2.1) ?_
      unfold qj_X13_rule_455
      refine pc_rA ?_; intro _ _ v35 e35
      rw [T 168 (by omega), nd.2.2] at e35
      refine pc_sv (r_classOf BK Y.2.1 B.1.1.2.2 k1 e35) ?_; intro u37 q37
      rw [cls_d q37 cl]
      refine pc_if (fun _ => ?_) (fun z => absurd cn z)
      unfold qj_X13_rule_493
      refine pc_rA ?_; intro _ _ v26 e26
      rw [T 167 (by omega), nd.2.1] at e26
      refine pc_if (fun z => absurd e26 z) (fun _ => ?_)
      refine pc_rA ?_; intro _ _ v30 e30
      rw [T 170 (by omega)] at e30
      rw [e30]
      refine pc_sv (pc_and (GV d3 u27 e27) (gv_fr d3)) ?_; intro v1 ⟨hv, F8⟩
      rcases hv with S | ⟨K, n303, FX⟩
      · refine pc_imp (ft_qj_X13_rule_522 (ftg_X13_condition nn d3) (sf_r S)) (fun y F => fun z ez => ?_)
        have HH : ∀ c' : Int, Pc (mx_sv (qf_X10_closeCast nn c ((p + 1 : Nat) : Int) u27) fun u30 => qj_X10_readUnary_116 nn (qg_X10_readValue nn d) (p : Int) u30) (fun u => (SFj u z ∨ VDj X 0 a b p q e h r u (c', z)) ∨ EOk nn X 0 a b p q e h r u (c', z)) := fun c' => pc_imp (TF S.1) (fun u F2 => .inl (.inl (sf_k S F2 ⟨by rw [ez, up_n (by omega)]; exact F.1, by rw [ez, up_n (by omega)]; exact F.2⟩)))
        exact ⟨fun _ => SH _ (HH _), fun _ => SH _ (HH _)⟩
      · obtain ⟨K, K15, KF⟩ := K
        have K0 := K
        have B8 : BX X u27 v1.2 := bx_e Q1.1 K.2.2.1.1 K.2.2.1.2.1
        obtain ⟨⟨x1, x2, x3, x4, x5⟩, ⟨x6, x7, x8⟩, ⟨x9, x10, x11⟩, ⟨x12, x13, x14⟩, -⟩ := K
        have E134 := E5 34 1 (by omega)
        have E334 := E5 34 3 (by omega)
        rw [x6]
        unfold qj_X13_rule_522
        refine pc_if (fun _ => ?_) (fun z => absurd cn z)
        have h168 : v1.2 168 e.toNat = ((p + 1 : Nat) : Int) := by rw [F8 168 _ (by omega) (by omega) (by omega), T 168 (by omega)]; exact nd.2.2
        have h167 : v1.2 167 e.toNat = 36 := by rw [F8 167 _ (by omega) (by omega) (by omega), T 167 (by omega)]; exact nd.2.1
        refine pc_imp (r_kinOf Y B8.1.1.2.2.1 (bx_180 B8) x5 (tk := p + 1) (by omega) h168 x7 n303 cb) (fun y hy => fun z ez => ?_)
        have CC := c_closeC (nn := nn) (x := ((p + 1 : Nat) : Int)) (tk := p + 1) Y B8 x4 (by omega) rfl x7 cb (by omega) (by omega)
        rcases hy with ⟨ok, y1, y2⟩ | ⟨nok, y1, y2⟩
        · rw [h167, if_neg (by decide)] at y1
          rw [y1] at ez ⊢
          rw [y2] at ez
          have z9 : z 160 9 = 0 := by rw [ez, up_n (by omega), up_n (by omega)]; exact x5
          refine ⟨fun _ => SH _ ?_, fun y => absurd z9 y⟩
          refine pc_sv CC ?_; intro u10 hu
          rcases hu with ⟨-, u15, CK, eu⟩ | ⟨nok, -⟩
          · unfold qj_X10_readUnary_116
            refine pc_xl ?_; intro h1 e1
            rw [e1]
            have U : ∀ cc x : Nat, ¬ (cc = 34 ∧ (x = 1 ∨ x = 3 ∨ x = 4)) → ¬ (cc = 35 ∨ cc = 36) → ¬ (cc = 45 ∧ (x = 4 ∨ x = 5)) → ¬ (cc = 46 ∨ cc = 47) → ¬ (cc = 49 ∧ (x = 11 ∨ x = 12)) → u10 cc x = u27 cc x := fun cc x z1 z2 z3 z4 z5 => by rw [eu, up_n (by omega), CK.1 cc x z1 z2 z3 z4, up_n (by omega)]
            have s1 : u10 34 1 = u27 34 1 + 2 := by rw [eu, up_n (by omega), CK.2.1.1, up_n (by omega)]
            have s3 : u10 34 3 = u15 34 3 := by rw [eu, up_n (by omega)]
            have k1 := CK.2.1.2
            have k3 := CK.2.2.1
            rw [up_n (by omega)] at k1 k3
            have t11 : u10 49 11 = 0 := by rw [eu, up_n (by omega), CK.1 49 11 (by omega) (by omega) (by omega) (by omega), up_s]
            have t12 : u10 49 12 = c := by rw [eu, up_s]
            refine pc_ret (.inr (eok_un Y Q ne (by omega) E5 (by omega) (by omega) K0 (fun cc y z1 z2 z3 z4 z5 z6 => U cc y (by omega) z2 z4 z5 z6) (frc_k x12 (fun cc x z => U cc x (by omega) (by omega) (by omega) (by omega) (by omega))) (by omega) (by omega) t11 t12 ⟨by unfold VTn; omega, by omega⟩ (vv := up_M v1.2 176 e.toNat (ty_T c)) ⟨fun cc x z1 z2 z3 => by rw [up_n (by omega)]; exact x10.1 cc x z1 z2 z3, fun cc x z1 z2 z3 => by rw [up_n (by omega)]; exact x10.2 cc x z1 z2 (by omega)⟩ (by rw [up_n (by omega)]; exact x5) ez (fun n51 => ?_)))
            obtain ⟨⟨c1, -⟩, c2⟩ := (FX n51).2.2 n51
            rw [if_neg n303, E334] at c1
            refine ⟨⟨by omega, .inr ?_⟩, mkc_one nl ne (fun PB WL L m d M A z1 z2 => ?_)⟩
            · rw [s3, t12, eu, up_n (by omega)]
              exact CK.2.2.2.1
            · obtain ⟨MT, -, -, -⟩ := mk_t M
              have M1 : MKx X PB WL L h5 m := mkx_c M (fun cc x z1 z2 z3 => E5 cc x (by omega))
              have CH := c2 d PB WL L m M1 (an_s A ⟨by omega, Int.le_refl _⟩ (fun cc x c1 c2 c4 c5 => by rw [ez, up_n (by omega), up_n (by omega)])) (by omega) (by omega)
              have a4 : m 174 e.toNat = ty_T c := by rw [A 174 e.toNat (by omega) (by omega) (by omega) (by omega), ez, up_s]
              have a6 : m 176 e.toNat = ty_T c := by rw [A 176 e.toNat (by omega) (by omega) (by omega) (by omega), ez, up_n (by omega), up_s]
              refine wo_36 ((MT 167 e.toNat (by omega)).trans nd.2.1) a4 ?_
              unfold qj_X13_workOne_588
              refine pc_rA ?_; intro _ _ v15 e15
              rw [MT 167 e.toNat (by omega), nd.2.1] at e15
              refine pc_if (fun z => absurd e15 z) (fun _ => ?_)
              refine pc_rA ?_; intro _ _ v17 e17
              rw [MT 170 e.toNat (by omega)] at e17
              rw [e17]
              refine pc_sv (pc_and CH (wk_an d)) ?_; intro w ⟨⟨Mw, lw⟩, aw⟩
              unfold qj_X13_workOne_609
              have MT2 := (mk_t Mw).1
              refine pc_rA ?_; intro _ _ v12 e12
              rw [MT2 167 e.toNat (by omega), nd.2.1] at e12
              refine pc_if (fun z => absurd e12 z) (fun _ => ?_)
              have Mw2 : MKx X PB WL L (up_M u27 49 11 0) w := mkx_c Mw (fun cc x z1 z2 z3 => up_n (by omega))
              refine pc_imp (w_kr CK (by rw [up_n (by omega)]; omega) Mw2 (by rw [up_n (by omega)]; omega) (by rw [aw 176 _ (by omega) (by omega)]; exact a6) rfl) (fun w2 y => ⟨?_, by rw [y.2]; omega⟩)
              rw [eu]
              exact mkx_c y.1 (fun cc x z1 z2 z3 => up_n (by omega))
          · exact absurd ok nok
        · have z9 : z 160 9 = 6 := by rw [ez, up_n (by omega)]; exact y1
          have z10 : z 160 10 = bP X (p + 1) := by rw [ez, up_n (by omega)]; exact y2
          refine ⟨fun y => absurd y (by omega), fun _ => SH _ ?_⟩
          refine pc_sv CC ?_; intro u10 hu
          rcases hu with ⟨ok, -⟩ | ⟨-, g1, g2⟩
          · exact absurd ok nok
          · refine pc_imp (fs_qj_X10_readUnary_116 G (by omega)) (fun u F => .inl (.inl ⟨by rw [F.1]; omega, by dsimp only; rw [z9, F.1, g1], by dsimp only; rw [z10, F.2, g2]⟩))
    · -- a NAME that means no class
      have S : ¬ u24.2 2 11 = 0 := by omega
      have CL : Pc (mx_sv ((qg_X10_readValue nn d).2.2.1 v25 u24.2) fun u27 => xl (oq_add (p : Int) 1) fun v28 => mx_sv (qf_X10_closeCast nn u24.1 v28 u27) fun u30 => qj_X10_readUnary_116 nn (qg_X10_readValue nn d) (p : Int) u30) (fun u => FSc u24.2 u) := by
        refine pc_sv (G.2.2.1 S) ?_; intro u27 F1
        have S1 : ¬ u27 2 11 = 0 := by rw [F1.1]; exact S
        refine pc_add (by omega) ?_; intro v28 e28
        refine pc_sv (fs_qf_X10_closeCast S1) ?_; intro u30 F2
        have S2 : ¬ u30 2 11 = 0 := by rw [F2.1]; exact S1
        exact pc_imp (fs_qj_X10_readUnary_116 G S2) (fun u F3 => fs_t F1 (fs_t F2 F3))
      refine pc_imp CL (fun u F => ?_)
      refine w_one (by omega) q4 (r_nled (by rw [T 167 (by omega)]; exact nl)) (fun d3 => ?_) d2
      refine ru_36 ((T 167 (by omega)).trans nd.2.1) ?_
      unfold qj_X13_rule_455
      refine pc_rA ?_; intro _ _ v35 e35
      rw [T 168 (by omega), nd.2.2] at e35
      refine pc_sv (r_classOf BK Y.2.1 B.1.1.2.2 k1 e35) ?_; intro u37 q37
      refine pc_if (fun z => absurd (cls_d q37 cl) z) (fun _ => ?_)
      refine pc_rA ?_; intro _ _ v39 e39
      rw [T 167 (by omega), nd.2.1] at e39
      refine pc_if (fun z => absurd e39 z) (fun _ => ?_)
      refine pc_rA ?_; intro _ _ v41 e41
      rw [T 168 (by omega), nd.2.2] at e41
      refine pc_sv (r_wrong TQ (p := p + 1) (by omega) q4 e41) ?_; intro u43 ⟨w1, w2⟩
      refine pc_imp (ft_qj_X13_rule_493 (ftg_X13_condition nn d3) (by omega)) (fun y Fy => fun z ez => ?_)
      have z9 : z 160 9 = 5 := by rw [ez, up_n (by omega), Fy.1]; exact w1
      have z10 : z 160 10 = bP X (p + 1) := by rw [ez, up_n (by omega), Fy.2]; exact w2
      exact ⟨fun y => absurd y (by omega), fun _ => .inl (.inl ⟨by rw [F.1]; exact S, by dsimp only; rw [z9, F.1, t1], by dsimp only; rw [z10, F.2, t2]⟩)⟩
end
end
section
/- E of both sides: signs; the class's flat loop as a continuation -/
/-- where the class is about to close signs, the next token being of kind kq -/
def CLP (nn : Nat) (rc : tq_X10_readValue) (kq dp st bs tn c : Int) (u : ms_M) (Z : ms_M → Prop) : Prop := (0 ≤ st_T kq → ∀ f k : Nat, Pc (qw_X10_readValue_54 nn rc (qw_X10_readValue_30 nn rc k) f dp st bs tn c u) Z) ∧ (st_T kq < 0 → ∀ f : Nat, Pc (qw_X10_readValue_129 nn rc f dp st bs c u) Z)
/-- the signs that wait -/
def SGn (dp l bs : Int) (h : ms_M) : Prop := (0 ≤ l ∧ l ≤ 10) ∧ h 49 10 ≤ 10 * (dp - 1) + l ∧ (0 ≤ bs ∧ bs ≤ h 49 10) ∧ (bs < h 49 10 → st_T (h 50 (h 49 10 - 1).toNat) < l)
/-- sides of at least l -/
def S1 (nn : Nat) (X : BCx) (dp i l a b : Int) (p q : Nat) (e : Int) : Prop := st_T (bK X q) ≤ l → ∀ (d d2 k : Nat) (h r : ms_M) (st bs tn : Int) (Z : ms_M → Int × ms_M → Prop), EPr X dp p h r → SGn dp l bs h → (0 ≤ r 160 57 ∧ r 160 57 + (b - a) < 9000 ∧ b ≤ 9000) → (0 ≤ tn ∧ tn ≤ (p : Int)) → (∀ (u : ms_M) (v : Int × ms_M) (c tn : Int), EOk nn X i a b p q e h r u v → (0 ≤ c ∧ c + u 49 10 ≤ 419) → (0 ≤ tn ∧ tn + 1 ≤ (q : Int)) → CLP nn (qg_X10_readValue nn d) (bK X q) (dp - 1) st bs tn c u (fun uF => Z uF v)) → (∀ (uF : ms_M) (v : Int × ms_M), (SFj uF v.2 ∨ VDj X i a b p q e h r uF v) → Z uF v) → Pc (mx_sv ((qg_X10_readValue nn d).2.2.1 dp h) fun u49 => qw_X10_readValue_30 nn (qg_X10_readValue nn d) k (dp - 1) st bs tn u49) (fun uF => Pc ((qg_X13_condition nn d2).2.2.1 e r) (fun v => Z uF v))
section
variable {nn : Nat} {X : BCx} {dp i l a b e : Int} {p q : Nat} {h g u r w m : ms_M} {v : Int × ms_M}
/-- sides that are one U -/
theorem s1_su (Y : CXs X) (hd : dp ≤ 40) (H : E2 nn X dp i a b p q e) : S1 nn X dp i l a b p q e := by
  intro _ d d2 k h r st bs tn Z Q SG b57 ht HC HF
  have G := fsg_X10_readValue nn d
  refine p2_sa (pc_imp (H d d2 h r Q b57) (fun u Hu => pc_imp Hu (fun v hv => ?_)))
  rcases hv with (S | S) | K
  · exact pc_imp (fs_qw_X10_readValue_30 G k _ _ _ _ u S.1) (fun uF F => HF uF v (.inl (sf_c S F)))
  · exact pc_imp (fs_qw_X10_readValue_30 G k _ _ _ _ u (vd_n S)) (fun uF F => HF uF v (.inr (vd_c S F)))
  · have x3 := K.1.1.2.2.1
    have x2 := K.1.1.2.1
    have c3 := Y.1.2.1
    have o1 := K.1.2.2.1.2.2.1
    obtain ⟨g1, g2⟩ := HC u v 0 tn K ⟨Int.le_refl _, by have := SG.2.1; have := SG.1; omega⟩ (by omega)
    cases k with
    | zero => exact pc_none
    | succ k =>
      unfold qw_X10_readValue_30
      refine pc_if (fun z => absurd z (by omega)) (fun _ => ?_)
      refine pc_sv (c_kind Y.1 (pk_b Q K.1) x2 K.1.1.1 K.1.1.2.2.2.1) ?_; intro u40 q40
      rw [q40]
      refine pc_sv c_lev ?_; intro u41 q41
      exact pc_if (fun z => g2 (by omega) nn) (fun z => g1 (by omega) nn k)
theorem s1_rk (H : S1 nn X dp i l a b p q e) (hs : st_T (bK X q) ≤ l) (d d2 k : Nat) (h r : ms_M) (st bs tn : Int) (Z : ms_M → Int × ms_M → Prop) (Q : EPr X dp p h r) (SG : SGn dp l bs h) (b57 : 0 ≤ r 160 57 ∧ r 160 57 + (b - a) < 9000 ∧ b ≤ 9000) (lb : a ≤ b) (ht : 0 ≤ tn ∧ tn ≤ (p : Int)) (HC : ∀ (u : ms_M) (v : Int × ms_M) (c tn : Int), EOk nn X i a b p q e h r u v → RKp r v.2 → (0 ≤ c ∧ c + u 49 10 ≤ 419) → (0 ≤ tn ∧ tn + 1 ≤ (q : Int)) → CLP nn (qg_X10_readValue nn d) (bK X q) (dp - 1) st bs tn c u (fun uF => Z uF v)) (HF : ∀ (uF : ms_M) (v : Int × ms_M), (SFj uF v.2 ∨ VDj X i a b p q e h r uF v) → RKp r v.2 → Z uF v) : Pc (mx_sv ((qg_X10_readValue nn d).2.2.1 dp h) fun u49 => qw_X10_readValue_30 nn (qg_X10_readValue nn d) k (dp - 1) st bs tn u49) (fun uF => Pc ((qg_X13_condition nn d2).2.2.1 e r) (fun v => Z uF v)) := by
  have W := H hs d d2 k h r st bs tn (fun uF v => RKp r v.2 → Z uF v) Q SG b57 ht (fun u v c tn K hc ht => ⟨fun z f k uF eF RK => (HC u v c tn K RK hc ht).1 z f k uF eF, fun z f uF eF RK => (HC u v c tn K RK hc ht).2 z f uF eF⟩) (fun uF v S RK => HF uF v S RK)
  have RK := (rkg_condition nn d2).2.2.1 (a1 := e) (h := r) (by omega)
  exact pc_imp W (fun uF Hu => pc_imp (pc_and Hu RK) (fun v y => y.1 y.2))
/-- what the class's loop does where a sign comes and the open ones are weaker -/
theorem c_v54 {rc : tq_X10_readValue} {t : Nat} {st bs tn c : Int} {f k : Nat} {s : Int} {Z : ms_M → Prop} (Y : CXs X) (TB : TBc (bK X) (bP X) (bc X) u) (tc : t < bc X) (hp : u 2 10 = (t : Int)) (hf : u 2 11 = 0) (sk : st_T (bK X t) = s) (hc : c ≤ 419) (ho : 0 ≤ u 49 10 ∧ u 49 10 ≤ 419) (top : bs < u 49 10 → st_T (u 50 (u 49 10 - 1).toNat) < s) (H : Pc (qj_X10_readValue_90 nn rc (qw_X10_readValue_30 nn rc k) dp st bs tn u) Z) : Pc (qw_X10_readValue_54 nn rc (qw_X10_readValue_30 nn rc k) f dp st bs tn c u) Z := by
  cases f with
  | zero => exact pc_none
  | succ f =>
    unfold qw_X10_readValue_54
    refine pc_if (fun z => absurd z (by omega)) (fun _ => ?_)
    refine pc_sv (c_kind Y.1 TB tc hp hf) ?_; intro u29 q29
    rw [q29]
    refine pc_sv c_lev ?_; intro u30 q30
    have D : Pc (qf_X10_isSignDue nn bs u30 u) (fun y => y = 0) := by
      unfold qf_X10_isSignDue
      refine pc_if (fun _ => pc_ret rfl) (fun z => ?_)
      refine pc_sub (by omega) ?_; intro v4 e4
      refine pc_rA ?_; intro _ _ v5 e5
      rw [e4] at e5
      refine pc_sv c_lev ?_; intro u6 q6
      have := top (by omega)
      rw [← e5] at this
      exact pc_if (fun _ => pc_ret rfl) (fun z2 => absurd (show u6 < u30 by omega) z2)
    refine pc_sv D ?_; intro u32 q32
    exact pc_if (fun _ => H) (fun z => absurd q32 z)
/-- .. and where the open one is due -/
theorem c_due {rc : tq_X10_readValue} {qt : Nat} {st bs tn c : Int} {s : Int} {Z : ms_M → Prop} (Y : CXs X) (TB : TBc (bK X) (bP X) (bc X) u) (tc : qt < bc X) (hp : u 2 10 = (qt : Int)) (hf : u 2 11 = 0) (hc : 0 ≤ c ∧ c ≤ 418) (ho : bs < u 49 10 ∧ 1 ≤ u 49 10 ∧ u 49 10 ≤ 419) (top : st_T (u 50 (u 49 10 - 1).toNat) = s) (s0 : 0 ≤ s ∧ st_T (bK X qt) ≤ s) (H : Pc (qf_X10_closeSign nn u) (fun u34 => CLP nn rc (bK X qt) dp st bs tn (c + 1) u34 Z)) : CLP nn rc (bK X qt) dp st bs tn c u Z := by
  have D : ∀ y : Int, y ≤ s + 1 → Pc (qf_X10_isSignDue nn bs y u) (fun y => y = 1) := fun y hy => by
    unfold qf_X10_isSignDue
    refine pc_if (fun z => absurd z (by omega)) (fun z => ?_)
    refine pc_sub (by omega) ?_; intro v4 e4
    refine pc_rA ?_; intro _ _ v5 e5
    rw [e4, ] at e5
    refine pc_sv c_lev ?_; intro u6 q6
    rw [e5, top] at q6
    exact pc_if (fun z2 => absurd z2 (by omega)) (fun _ => pc_ret rfl)
  refine ⟨fun z f k => ?_, fun z f => ?_⟩
  · cases f with
    | zero => exact pc_none
    | succ f =>
      unfold qw_X10_readValue_54
      refine pc_if (fun z => absurd z (by omega)) (fun _ => ?_)
      refine pc_sv (c_kind Y.1 TB tc hp hf) ?_; intro u29 q29
      rw [q29]
      refine pc_sv c_lev ?_; intro u30 q30
      refine pc_sv (D u30 (by omega)) ?_; intro u32 q32
      refine pc_if (fun z => absurd z (by omega)) (fun _ => ?_)
      refine pc_sv H ?_; intro u34 q34
      refine pc_add (by omega) ?_; intro v35 e35
      rw [e35]
      exact q34.1 z f k
  · cases f with
    | zero => exact pc_none
    | succ f =>
      unfold qw_X10_readValue_129
      refine pc_if (fun z => absurd z (by omega)) (fun _ => ?_)
      refine pc_sv (D 1 (by omega)) ?_; intro u8 q8
      refine pc_if (fun z => absurd z (by omega)) (fun _ => ?_)
      refine pc_sv H ?_; intro u34 q34
      refine pc_add (by omega) ?_; intro v35 e35
      rw [e35]
      exact q34.2 z f
/-- FAULTS go through -/
theorem clp_f {rc : tq_X10_readValue} (G : FScG_X10_readValue rc) {kq st bs tn c : Int} (S : ¬ u 2 11 = 0) {Z : ms_M → Prop} (H : ∀ uF : ms_M, FSc u uF → Z uF) : CLP nn rc kq dp st bs tn c u Z := ⟨fun _ f k => pc_imp (fs_qw_X10_readValue_54 G (fun z0 z1 z2 z3 z4 S4 => fs_qw_X10_readValue_30 G k z0 z1 z2 z3 z4 S4) f _ _ _ _ _ u S) H, fun _ f => pc_imp (fs_qw_X10_readValue_129 G f _ _ _ _ u S) H⟩
/-- a sign behind sides: STEP is one turn of the class's loop and the rule of e -/
theorem s1_led {t : Nat} {ix s : Int} (Y : CXs X) (ne : 0 ≤ a ∧ a ≤ e ∧ e < b) (r1 : a ≤ bT X 170 e.toNat ∧ bT X 170 e.toNat < e) (CH : S1 nn X dp ix s a e p t (bT X 170 e.toNat)) (sk : st_T (bK X t) = s ∧ 0 ≤ s ∧ s ≤ 9 ∧ l ≤ s) (kn : bT X 167 e.toNat = 37 ∨ bT X 167 e.toNat = 38) (VOID : ∀ (r2 : ms_M) (d2 : Nat) (y : Int × ms_M), TBq (bK X) (bP X) (bc X) r2 → (∀ cc x : Nat, ((163 ≤ cc ∧ cc ≤ 173) ∨ cc = 177) → r2 cc x = bT X cc x) → r2 160 9 = 0 → r2 174 (bT X 170 e.toNat).toNat = 3 → (0 ≤ bT X 168 (bT X 170 e.toNat).toNat ∧ bT X 168 (bT X 170 e.toNat).toNat < (bc X : Int)) → HDr (bK X) (bP X) (bV X) (bC X) (bc X) (bn X) r2 → (qg_X13_condition nn d2).2.2.2.1 e r2 = some y → y.2 160 9 = 6 ∧ y.2 160 10 = bP X (bT X 168 (bT X 170 e.toNat).toNat).toNat) (STEP : st_T (bK X q) ≤ l → ∀ (d d2 k : Nat) (h r r1 u1 : ms_M) (v1 : Int × ms_M) (st bs tn : Int) (Z : ms_M → Int × ms_M → Prop), EPr X dp p h r → SGn dp l bs h → (0 ≤ r 160 57 ∧ r 160 57 + (b - a) < 9000 ∧ b ≤ 9000) → RFe a b r r1 → EPr X dp p h r1 → EOk nn X ix a e p t (bT X 170 e.toNat) h r1 u1 v1 → FM01 nn X ix a e p t (bT X 170 e.toNat) h u1 v1.2 → ¬ u1 49 12 = 303 → (0 ≤ tn ∧ tn + 1 ≤ (t : Int)) → (∀ (u : ms_M) (v : Int × ms_M) (c tn : Int), EOk nn X 0 a b p q e h r u v → (0 ≤ c ∧ c + u 49 10 ≤ 419) → (0 ≤ tn ∧ tn + 1 ≤ (q : Int)) → CLP nn (qg_X10_readValue nn d) (bK X q) (dp - 1) st bs tn c u (fun uF => Z uF v)) → (∀ (uF : ms_M) (v : Int × ms_M), (SFj uF v.2 ∨ VDj X 0 a b p q e h r uF v) → Z uF v) → Pc (qj_X10_readValue_90 nn (qg_X10_readValue nn d) (qw_X10_readValue_30 nn (qg_X10_readValue nn d) k) (dp - 1) st bs tn u1) (fun uF => ∀ r2 : ms_M, r2 = up_M v1.2 160 57 (r 160 57) → Pc ((qg_X13_condition nn d2).2.2.2.1 e r2) (fun y => ∀ z : ms_M, z = up_M y.2 174 e.toNat y.1 → (¬ z 160 9 = 0 → Z uF (0, z)) ∧ (z 160 9 = 0 → Z uF (y.1, z))))) : S1 nn X dp 0 l a b p q e := by
  intro hs d d2 k h r st bs tn Z Q SG b57 ht HC HF
  have Q0 := Q
  obtain ⟨B, ⟨q1, q2, q3, q4⟩, fx, ox⟩ := Q0
  have T : ∀ cc : Nat, 163 ≤ cc ∧ cc ≤ 173 → r cc e.toNat = bT X cc e.toNat := fun cc z => B.2.2.2.2.2.1 cc e.toNat (by omega)
  have c3 := Y.1.2.1
  obtain ⟨s1, s2, s3, s4⟩ := sk
  have tk : t < bc X := Classical.byContradiction fun z => by
    have := Y.1.1 t (by omega)
    rw [this] at s1
    have : st_T 0 = -1 := by decide
    omega
  have n51 : ¬ bK X t = 51 := fun z => by
    rw [z] at s1
    have : st_T 51 = -1 := by decide
    omega
  have n46 : ¬ bK X t = 46 := fun z => by
    rw [z] at s1
    have : st_T 46 = -1 := by decide
    omega
  cases d2 with
  | zero => exact fun _ _ => pc_none
  | succ d2 =>
    have G := fsg_X10_readValue nn d
    generalize hr1 : up_M (up_M r 199 (r 160 57).toNat e) 160 57 (r 160 57 + 1) = r1'
    have E1 : ∀ cc x : Nat, ¬ cc = 199 → ¬ (cc = 160 ∧ x = 57) → r1' cc x = r cc x := fun cc x z1 z2 => by rw [← hr1, up_n (by omega), up_n (by omega)]
    have s57 : r1' 160 57 = r 160 57 + 1 := by rw [← hr1, up_s]
    have s199 : r1' 199 (r 160 57).toNat = e := by rw [← hr1, up_n (by omega), up_s]
    have B1 : BX X h r1' := bx_k B (fun _ _ _ => rfl) (fun cc x z => E1 cc x (by omega) (by omega))
    have Q1 : EPr X dp p h r1' := ⟨B1, ⟨q1, q2, q3, by rw [E1 160 9 (by omega) (by omega)]; exact q4⟩, fx, ox⟩
    have R1 : RFe a b r r1' := ⟨fun cc x z1 z2 z3 => E1 cc x z2 (by omega), fun cc x z1 z2 z3 => E1 cc x (by omega) (by omega)⟩
    have SG1 : SGn dp s bs h := ⟨by omega, by have := SG.2.1; omega, SG.2.2.1, fun z => by have := SG.2.2.2 z; omega⟩
    -- from what the child leaves up to the rule of e
    have UP : ∀ (v1 : Int × ms_M), RKp r1' v1.2 → v1.2 160 57 = r 160 57 + 1 ∧ v1.2 199 (r 160 57).toNat = e := fun v1 RK => ⟨by rw [RK.1]; exact s57, by rw [RK.2 _ (by omega)]; exact s199⟩
    have W : Pc (mx_sv ((qg_X10_readValue nn d).2.2.1 dp h) fun u49 => qw_X10_readValue_30 nn (qg_X10_readValue nn d) k (dp - 1) st bs tn u49) (fun uF => Pc ((qg_X13_condition nn (d2 + 1)).2.2.1 (bT X 170 e.toNat) r1') (fun v1 => ∀ k2 : Nat, Pc (qw_X13_worked_65 nn (qg_X13_condition nn d2) k2 e (r 160 57) v1.2) (Z uF))) := by
      refine s1_rk CH (by omega) d (d2 + 1) k h r1' st bs tn (fun uF v1 => ∀ k2 : Nat, Pc (qw_X13_worked_65 nn (qg_X13_condition nn d2) k2 e (r 160 57) v1.2) (Z uF)) Q1 SG1 (by omega) (by omega) ht (fun u v1 c tn2 K RK hc ht2 => ⟨fun _ f k => ?_, fun z => absurd z (by omega)⟩) (fun uF v1 S RK k2 => ?_)
      · -- the class's loop
        obtain ⟨w57, w199⟩ := UP v1 RK
        have FX : FM01 nn X ix a e p t (bT X 170 e.toNat) h u v1.2 := by
          have KF := K.2.2 n51
          rcases K.1.2.2.2.2 with F | F | F | F
          · exact F
          · exact absurd F.1.1 (by omega)
          · exact absurd F.1.1 (by omega)
          · exact absurd F.1.1 (by omega)
        have n303 : ¬ u 49 12 = 303 := fun z => by
          rcases FX.1 with ⟨-, -, -, y⟩ | ⟨-, -, y⟩
          · exact n46 (y z).1
          · exact y z
        have o10 := K.1.2.2.1.2.2.1
        have STP := STEP hs d d2 k h r r1' u v1 st bs tn2 Z Q SG b57 R1 Q1 K FX n303 ht2 HC HF
        have PR : Pc (qj_X10_readValue_90 nn (qg_X10_readValue nn d) (qw_X10_readValue_30 nn (qg_X10_readValue nn d) k) (dp - 1) st bs tn2 u) (fun uF => ∀ k2 : Nat, Pc (qw_X13_worked_65 nn (qg_X13_condition nn d2) k2 e (r 160 57) v1.2) (Z uF)) := by
          refine pc_imp STP (fun uF Hu k2 => ?_)
          refine wk_pop (rk_rule d2) (by omega) (by omega) w57 w199 (fun z => absurd K.1.1.2.2.2.2 z) (fun _ => ?_) k2
          exact pc_imp (Hu _ rfl) (fun y Hy => fun z ez => ⟨(Hy z ez).2, (Hy z ez).1⟩)
        refine c_v54 Y (pk_b Q1 K.1) tk K.1.1.1 K.1.1.2.2.2.1 s1 (by have := ox.1; omega) (by have := ox.1; omega) (fun z => ?_) PR
        rw [o10] at z ⊢
        have sb := SG.2.2.1
        rw [K.1.2.2.1.2.2.2 50 _ (by omega) (by omega) (by omega)]
        have := SG.2.2.2 z
        omega
      · -- a FAULT in the child
        obtain ⟨w57, w199⟩ := UP v1 RK
        rcases S with S | S
        · refine wk_pop (rk_rule d2) (by omega) (by omega) w57 w199 (fun _ z ez => ?_) (fun z => absurd z (sf_r S)) k2
          exact HF uF (0, z) (.inl ⟨S.1, by show z 160 9 = _; rw [ez, up_n (by omega), up_n (by omega)]; exact S.2.1, by show z 160 10 = _; rw [ez, up_n (by omega), up_n (by omega)]; exact S.2.2⟩)
        · obtain ⟨⟨s1, s2, s3, s4⟩, ⟨s5, s6, s7⟩, s8⟩ := S
          refine wk_pop (rk_rule d2) (by omega) (by omega) w57 w199 (fun z => absurd s6 z) (fun _ => fun y ey z ez => ?_) k2
          have TQ1 : TBq (bK X) (bP X) (bc X) r1' := B1.1.1.2.2.1
          obtain ⟨w1, w2⟩ := VOID (up_M v1.2 160 57 (r 160 57)) d2 y (tbq_f TQ1 (fun cc x z => by rw [up_n (by omega)]; exact s8.1 cc x (by omega) (by omega) (by omega))) (fun cc x z => by rw [up_n (by omega), s8.1 cc x (by omega) (by omega) (by omega)]; exact B1.2.2.2.2.2.1 cc x z) (by rw [up_n (by omega)]; exact s6) (by rw [up_n (by omega)]; exact s7) ⟨s3, s4.1⟩ (hdr_k B1.1.1.2.2 (fun cc x z => by rw [up_n (by omega)]; exact s8.1 cc x (by omega) (by omega) (by omega))) ey
          have z9 : z 160 9 = 6 := by rw [ez, up_n (by omega)]; exact w1
          have z10 : z 160 10 = bP X (bT X 168 (bT X 170 e.toNat).toNat).toNat := by rw [ez, up_n (by omega)]; exact w2
          refine ⟨fun x => absurd x (by omega), fun _ => HF uF (0, z) (.inl ⟨by omega, ?_, ?_⟩)⟩
          · show z 160 9 = uF 2 11
            rw [z9, s1]
          · show z 160 10 = uF 2 12
            rw [z10, s2]
    refine pc_imp W (fun uF Hu => ?_)
    have LED : Pc (qf_X13_isLed nn e r) (fun u => ¬ u = 0) := by
      unfold qf_X13_isLed
      refine pc_rA ?_; intro _ _ v2 e2
      rw [T 167 (by omega)] at e2
      refine pc_if (fun _ => pc_ret (by decide)) (fun z => ?_)
      exact pc_if (fun _ => pc_ret (by decide)) (fun z2 => absurd kn (by omega))
    refine wk_ldd (rk_rule d2) (Q := Z uF) (R := fun v1 => ∀ k2 : Nat, Pc (qw_X13_worked_65 nn (qg_X13_condition nn d2) k2 e (r 160 57) v1.2) (Z uF)) (fun z Hz k2 => Hz k2) rfl (by omega) q4 LED (by rw [T 170 (by omega)]; omega) (fun g eg => ?_)
    rw [T 170 (by omega), eg, hr1]
    exact Hu
end
end
section
/- E of both sides: a sign is closed (all but && and ||) -/
/-- two that may be held against each other -/
def PRt (X : BCx) (s t : Int) : Prop := ((s = 300 ∨ (0 ≤ s ∧ s ≤ 200)) ∧ (t = 300 ∨ (0 ≤ t ∧ t ≤ 200)) ∧ (FTS (bB X 180) s t ∨ FTS (bB X 180) t s)) ∨ (s = t ∧ (s = 301 ∨ s = 302))
/-- the types are right for the sign k -/
def OKt (X : BCx) (k s t : Int) : Prop := ((k = 52 ∨ k = 53) ∧ PRt X s t) ∨ ((54 ≤ k ∧ k ≤ 57) ∧ s = 301 ∧ t = 301) ∨ ((58 ≤ k ∧ k ≤ 65) ∧ s = t ∧ t = 301) ∨ ((k = 66 ∨ k = 68 ∨ k = 70) ∧ s = t ∧ (t = 301 ∨ t = 302))
def rt_T (k t : Int) : Int := if k < 58 then 302 else t
/-- signs of two sides that are not short -/
def SGk (k : Int) : Prop := (k = 52 ∨ k = 53) ∨ (54 ≤ k ∧ k ≤ 57) ∨ (58 ≤ k ∧ k ≤ 65) ∨ (k = 66 ∨ k = 68 ∨ k = 70)
def aop_T (k : Int) : Int := if k = 58 then 120 else (if k = 59 then 122 else (if k = 60 then 124 else (if k = 61 then 96 else (if k = 62 then 100 else (if k = 63 then 104 else (if k = 64 then 108 else (if k = 65 then 112 else (if k = 66 then 126 else (if k = 68 then 128 else 130)))))))))
def cm_T (k n : Int) : Int := if k = 52 then (if n = 0 then 165 else 159) else (if k = 53 then (if n = 0 then 166 else 160) else (if k = 54 then 161 else (if k = 56 then 163 else (if k = 57 then 162 else 164))))
/-- what closing leaves in the class -/
def CSr (X : BCx) (pp rt : Int) (u2 u : ms_M) : Prop := (∀ cc x : Nat, ¬ (cc = 34 ∧ (x = 1 ∨ x = 3 ∨ x = 4 ∨ x = 14 ∨ x = 15)) → ¬ (cc = 35 ∨ cc = 36) → ¬ (40 ≤ cc ∧ cc ≤ 42) → ¬ (cc = 49 ∧ (x = 10 ∨ x = 11 ∨ x = 12 ∨ x = 15)) → u cc x = u2 cc x) ∧ FRc u ∧ ((u2 34 1 ≤ u 34 1 ∧ u 34 1 ≤ u2 34 1 + 10) ∧ (0 ≤ u 34 3 ∧ u 34 3 ≤ u2 34 3 + 1) ∧ (2 ≤ u2 34 3 → u 34 3 = u2 34 3 - 1)) ∧ (u 49 10 = u2 49 10 - 1 ∧ u 49 11 = 0 ∧ u 49 12 = rt ∧ u 49 15 = pp) ∧ (u 49 12 = 303 ∨ 20 < u 34 3 ∨ u 36 (u 34 3 - 1).toNat = u 49 12)
/-- .. and in the making -/
def CSm (nn : Nat) (X : BCx) (k t : Int) (u2 u : ms_M) : Prop := 2 ≤ u2 34 3 → ∀ (PB : Nat → Prop) (WL : Int → Int → Prop) (L : List (Int × Int)) (w : ms_M), MKx X PB WL L u2 w → w 160 88 ≤ 2050000000 → (k < 58 → ∀ n : Int, ((t = 301 ∨ t = 302) → ¬ n = 0) → (¬ (t = 301 ∨ t = 302) → n = 0) → Pc (qf_X13_truth nn (cm_T k n) 2 w) (fun w2 => MKx X PB WL L u w2 ∧ (w 160 88 ≤ w2 160 88 ∧ w2 160 88 ≤ w 160 88 + 2))) ∧ (58 ≤ k → Pc (mx_sv (qf_X13_put nn (aop_T k) w) fun u59 => mx_sv (qf_X13_turn nn 2 (ty_T t) u59) fun u63 => some u63) (fun w2 => MKx X PB WL L u w2 ∧ (w 160 88 ≤ w2 160 88 ∧ w2 160 88 ≤ w 160 88 + 2)))
section
variable {nn : Nat} {X : BCx} {dp i l a b e s t k : Int} {p q : Nat} {h g u r w m : ms_M} {v : Int × ms_M}
theorem st_dis (h : 0 ≤ st_T k) : k = 19 ∨ (52 ≤ k ∧ k ≤ 70) := Classical.byContradiction fun z => by
  have := st_no (k := k) ⟨by omega, by omega, by omega, by omega, by omega, by omega, by omega, by omega, by omega, by omega, by omega, by omega, by omega, by omega, by omega, by omega, by omega, by omega, by omega, by omega⟩
  omega
theorem sgk_of (h : 0 ≤ st_T k) (n : ¬ k = 19 ∧ ¬ k = 67 ∧ ¬ k = 69) : SGk k := by
  have := st_dis h
  unfold SGk
  omega
theorem c_isPair (Y : CXs X) (B : BX X h r) (vs : VTn (bn X) s) (vt : VTn (bn X) t) : Pc (qf_X10_isPair nn s t h) (fun u => (u = 1 ∧ PRt X s t) ∨ (u = 0 ∧ ¬ PRt X s t)) := by
  have IR : ∀ s : Int, Pc (qf_X4_isReference nn s h) (fun u => (u = 1 ∧ (s = 300 ∨ (0 ≤ s ∧ s ≤ 200))) ∨ (u = 0 ∧ ¬ (s = 300 ∨ (0 ≤ s ∧ s ≤ 200)))) := fun s => by
    unfold qf_X4_isReference
    refine pc_if (fun z => pc_ret (.inl ⟨rfl, .inl z⟩)) (fun z => ?_)
    refine pc_if (fun z2 => pc_ret (.inr ⟨rfl, by omega⟩)) (fun z2 => ?_)
    exact pc_if (fun z3 => pc_ret (.inr ⟨rfl, by omega⟩)) (fun z3 => pc_ret (.inl ⟨rfl, by omega⟩))
  have P24 : ¬ ((s = 300 ∨ (0 ≤ s ∧ s ≤ 200)) ∧ (t = 300 ∨ (0 ≤ t ∧ t ≤ 200))) → Pc (qj_X10_isPair_24 nn s t h) (fun u => (u = 1 ∧ PRt X s t) ∨ (u = 0 ∧ ¬ PRt X s t)) := fun nr => by
    unfold qj_X10_isPair_24
    refine pc_if (fun z => pc_ret (.inr ⟨rfl, fun f => ?_⟩)) (fun z => ?_)
    · rcases f with ⟨f1, f2, -⟩ | ⟨f1, -⟩
      · exact nr ⟨f1, f2⟩
      · exact z f1
    · have e1 : s = t := Classical.byContradiction z
      refine pc_sv c_isNum ?_; intro u1 q1
      refine pc_if (fun z1 => pc_ret (.inr ⟨rfl, fun f => ?_⟩)) (fun z1 => pc_ret (.inl ⟨rfl, .inr ⟨e1, ?_⟩⟩))
      · rcases f with ⟨f1, f2, -⟩ | ⟨-, f2⟩
        · exact nr ⟨f1, f2⟩
        · omega
      · omega
  unfold qf_X10_isPair
  refine pc_sv (IR s) ?_; intro u4 q4
  refine pc_if (fun z => P24 (fun y => by have := y.1; omega)) (fun z => ?_)
  refine pc_sv (IR t) ?_; intro u5 q5
  refine pc_if (fun z2 => P24 (fun y => by have := y.2; omega)) (fun z2 => ?_)
  have rs : s = 300 ∨ (0 ≤ s ∧ s ≤ 200) := by omega
  have rt : t = 300 ∨ (0 ≤ t ∧ t ≤ 200) := by omega
  refine pc_sv (c_fit1 Y B vs vt) ?_; intro u8 q8
  refine pc_ck (fun _ => pc_ret ?_)
  rcases q8 with ⟨y1, y2⟩ | ⟨y1, y2⟩
  · exact .inl ⟨y1, .inl ⟨rs, rt, y2⟩⟩
  · refine .inr ⟨y1, fun f => ?_⟩
    rcases f with ⟨-, -, f⟩ | ⟨-, f⟩
    · exact y2 f
    · omega
theorem r_goP (Y : CXs X) (e8 : r 180 = bB X 180) (vs : VTn (bn X) s ∧ ¬ s = 303) (vt : VTn (bn X) t ∧ ¬ t = 303) : Pc (qf_X13_goTogether nn (ty_T s) (ty_T t) r) (fun u => (u = 1 ∧ PRt X s t) ∨ (u = 0 ∧ ¬ PRt X s t)) := by
  have cs := ty_c (vtn_v Y.2.2.1 vs.1)
  have ct := ty_c (vtn_v Y.2.2.1 vt.1)
  refine pc_imp (r_goT Y e8 vs.1 vt.1) (fun u hu => ?_)
  rcases hu with ⟨y1, y2⟩ | ⟨y1, y2⟩
  · refine .inl ⟨y1, ?_⟩
    rcases y2 with ⟨w1, w2⟩ | ⟨w1, w2⟩
    · exact .inr ⟨w2, by omega⟩
    · exact .inl ⟨by omega, by omega, w2⟩
  · refine .inr ⟨y1, fun f => y2 ?_⟩
    rcases f with ⟨f1, f2, f3⟩ | ⟨f1, f2⟩
    · exact .inr ⟨by omega, f3⟩
    · exact .inl ⟨by omega, f1⟩
theorem c_cmp {n : Int} (hk : 52 ≤ k ∧ k ≤ 57) : Pc (qf_X10_compareOp nn k n h) (fun u => u = cm_T k n) := by
  unfold qf_X10_compareOp qj_X10_compareOp_80 cm_T
  refine pc_if (fun z => ?_) (fun z => ?_)
  · rw [if_pos z]
    exact pc_if (fun y => pc_ret (if_pos y).symm) (fun y => pc_ret (if_neg y).symm)
  rw [if_neg z]
  refine pc_if (fun z => ?_) (fun z => ?_)
  · rw [if_pos z]
    exact pc_if (fun y => pc_ret (if_pos y).symm) (fun y => pc_ret (if_neg y).symm)
  rw [if_neg z]
  refine pc_if (fun z => pc_ret (if_pos z).symm) (fun z => ?_)
  rw [if_neg z]
  refine pc_if (fun z => pc_ret (if_pos z).symm) (fun z => ?_)
  rw [if_neg z]
  exact pc_if (fun z => pc_ret (if_pos z).symm) (fun z => pc_ret (if_neg z).symm)
theorem c_arop : Pc (qf_X10_arithmeticOp nn k h) (fun u => u = aop_T k) := by
  unfold qf_X10_arithmeticOp qj_X10_arithmeticOp_91 aop_T
  iterate 9 refine pc_if (fun z => pc_ret (if_pos z).symm) (fun z => ?_); rw [if_neg z]
  exact pc_if (fun z => pc_ret (if_pos z).symm) (fun z => pc_ret (if_neg z).symm)
theorem cm_in {n : Int} : in_R (cm_T k n) := by
  unfold cm_T in_R
  split
  · split <;> omega
  split
  · split <;> omega
  split
  · omega
  split
  · omega
  split <;> omega
theorem aop_in : in_R (aop_T k) := by
  unfold aop_T in_R
  iterate 9 (split; · omega)
  split <;> omega
/-- the end of closing -/
theorem c_293 {o : Nat} (ho : h 49 10 = (o : Int)) : Pc (qj_X10_closeSign_293 nn h) (fun u => u = up_M (up_M h 49 15 (h 52 o)) 49 11 0) := by
  unfold qj_X10_closeSign_293
  refine pc_rA ?_; intro _ _ v3 e3
  rw [ho, Int.toNat_natCast] at e3
  refine pc_xl ?_; intro h4 e4
  refine pc_xl ?_; intro h5 e5
  exact pc_ret (by rw [e5, e4, e3])
/-- a truth -/
theorem c_tailT {o : Nat} {n pp : Int} {h61 u2 : ms_M} (kk : 52 ≤ k ∧ k ≤ 57) (e61 : h61 = up_M u2 49 10 (o : Int)) (ho : u2 49 10 = (o : Int) + 1) (hpp : u2 52 o = pp) (Fc : FRc u2) (l1 : 0 ≤ u2 34 1 ∧ u2 34 1 ≤ 900000) (l3 : 0 ≤ u2 34 3 ∧ u2 34 3 ≤ 2999) (h7 : 0 ≤ u2 34 7) (nt : ((t = 301 ∨ t = 302) → ¬ n = 0) ∧ (¬ (t = 301 ∨ t = 302) → n = 0)) : Pc (mx_sv (qf_X10_compareOp nn k n h61) fun u35 => mx_sv (qf_X1_truth nn u35 2 h61) fun u37 => xl (up_M u37 49 12 302) fun h38 => qj_X10_closeSign_293 nn h38) (fun u => CSr X pp 302 u2 u ∧ CSm nn X k t u2 u) := by
  have E : ∀ cc x : Nat, ¬ (cc = 49 ∧ x = 10) → h61 cc x = u2 cc x := fun cc x z => by rw [e61, up_n z]
  have a1 := E 34 1 (by omega)
  have a3 := E 34 3 (by omega)
  have F61 : FRc h61 := frc_k Fc (fun cc x z => E cc x (by omega))
  refine pc_sv (c_cmp kk) ?_; intro u35 q35
  rw [q35]
  refine pc_sv (c_truth (by omega) (by omega) (by omega) (by rw [E 34 7 (by omega)]; exact h7) F61) ?_; intro u37 ⟨CT, ⟨d1, d3⟩, F37, U⟩
  refine pc_xl ?_; intro h38 e38
  have E38 : ∀ cc x : Nat, ¬ (cc = 49 ∧ x = 12) → h38 cc x = u37 cc x := fun cc x z => by rw [e38, up_n z]
  have o38 : h38 49 10 = (o : Int) := by rw [E38 49 10 (by omega), U 49 10 (by omega) (by omega) (by omega), e61, up_s]
  refine pc_imp (c_293 o38) (fun u eu => ?_)
  have p38 : h38 52 o = pp := by rw [E38 52 o (by omega), U 52 o (by omega) (by omega) (by omega), E 52 o (by omega)]; exact hpp
  rw [p38] at eu
  have EU : ∀ cc x : Nat, ¬ (cc = 49 ∧ (x = 11 ∨ x = 12 ∨ x = 15)) → u cc x = u37 cc x := fun cc x z => by rw [eu, up_n (by omega), up_n (by omega)]; exact E38 cc x (by omega)
  have b3 : 1 ≤ u37 34 3 ∧ u37 34 3 ≤ u2 34 3 + 1 ∧ (2 ≤ u2 34 3 → u37 34 3 = u2 34 3 - 1) := by rw [d3, a3]; split <;> omega
  have f1 := EU 34 1 (by omega)
  have f3 := EU 34 3 (by omega)
  have t12 : u 49 12 = 302 := by rw [eu, up_n (by omega), up_n (by omega), e38, up_s]
  refine ⟨⟨fun cc x z1 z2 z3 z4 => by rw [EU cc x (by omega), U cc x z1 z2 z3]; exact E cc x (by omega), frc_k F37 (fun cc x z => EU cc x (by omega)), ⟨by omega, by omega, by omega⟩, ⟨?_, ?_, t12, ?_⟩, ?_⟩, fun h2 PB WL L w M lw => ⟨fun _ n2 m1 m2 => ?_, fun z => absurd z (by omega)⟩⟩
  · rw [eu, up_n (by omega), up_n (by omega), o38]; omega
  · rw [eu, up_s]
  · rw [eu, up_n (by omega), up_s]
  · rw [t12, f3, EU 36 _ (by omega)]
    exact ctr_top CT (by omega) F61
  · have en : cm_T k n2 = cm_T k n := by
      by_cases z : t = 301 ∨ t = 302
      · have y1 := m1 z
        have y2 := nt.1 z
        unfold cm_T
        rw [if_neg y1, if_neg y1, if_neg y2, if_neg y2]
      · rw [m2 z, nt.2 z]
    rw [en]
    have Mw : MKx X PB WL L h61 w := mkx_c M (fun cc x z1 z2 z3 => E cc x (by omega))
    exact pc_imp (m_truth CT Mw (by omega) cm_in (by omega) (by omega) (by omega)) (fun w2 y => ⟨mkx_c y.1 (fun cc x z1 z2 z3 => EU cc x (by omega)), by rw [y.2]; omega⟩)
/-- arithmetic -/
theorem c_tailA {o : Nat} {pp : Int} {h61 u2 : ms_M} (kk : 58 ≤ k) (Y : CXs X) (e61 : h61 = up_M u2 49 10 (o : Int)) (ho : u2 49 10 = (o : Int) + 1) (hpp : u2 52 o = pp) (Fc : FRc u2) (l1 : 0 ≤ u2 34 1 ∧ u2 34 1 ≤ 900000) (l3 : 0 ≤ u2 34 3 ∧ u2 34 3 ≤ 2999) (ht : u2 49 12 = t) (vt : VTn (bn X) t ∧ ¬ t = 303) : Pc (mx_sv (qf_X10_arithmeticOp nn k h61) fun u12 => mx_sv (qf_X1_op nn u12 h61) fun u14 => mx_sv (qf_X1_pop nn 2 u14) fun u17 => mx_sv (qf_X1_push nn (u17 49 12) u17) fun u21 => qj_X10_closeSign_293 nn u21) (fun u => CSr X pp t u2 u ∧ CSm nn X k t u2 u) := by
  have E : ∀ cc x : Nat, ¬ (cc = 49 ∧ x = 10) → h61 cc x = u2 cc x := fun cc x z => by rw [e61, up_n z]
  have a1 := E 34 1 (by omega)
  have a3 := E 34 3 (by omega)
  refine pc_sv c_arop ?_; intro u12 q12
  rw [q12]
  refine pc_sv (c_op (by omega)) ?_; intro u14 A1
  have b1 := A1.1
  have b3 := A1.2.2 34 3 (by omega) (by omega)
  refine pc_sv (c_pop (by omega) (by omega)) ?_; intro u17 A2
  have d3 : 0 ≤ u17 34 3 ∧ u17 34 3 ≤ u2 34 3 ∧ (2 ≤ u2 34 3 → u17 34 3 = u2 34 3 - 2) := by rw [A2.1, b3, a3]; split <;> omega
  have t17 : u17 49 12 = t := by rw [A2.2 49 12 (by omega), A1.2.2 49 12 (by omega) (by omega), E 49 12 (by omega)]; exact ht
  rw [t17]
  refine pc_sv (c_push (by omega)) ?_; intro u21 A3
  have U : ∀ cc x : Nat, ¬ (cc = 34 ∧ (x = 1 ∨ x = 3 ∨ x = 4)) → ¬ (cc = 35 ∨ cc = 36) → u21 cc x = h61 cc x := fun cc x z1 z2 => by rw [A3.2.2.2 cc x (by omega) (by omega), A2.2 cc x (by omega), A1.2.2 cc x (by omega) (by omega)]
  have c1 : u21 34 1 = h61 34 1 + 1 := by rw [A3.2.2.2 34 1 (by omega) (by omega), A2.2 34 1 (by omega)]; exact b1
  have o21 : u21 49 10 = (o : Int) := by rw [U 49 10 (by omega) (by omega), e61, up_s]
  refine pc_imp (c_293 o21) (fun u eu => ?_)
  have p21 : u21 52 o = pp := by rw [U 52 o (by omega) (by omega), E 52 o (by omega)]; exact hpp
  rw [p21] at eu
  have EU : ∀ cc x : Nat, ¬ (cc = 49 ∧ (x = 11 ∨ x = 15)) → u cc x = u21 cc x := fun cc x z => by rw [eu, up_n (by omega), up_n (by omega)]
  have f1 := EU 34 1 (by omega)
  have f3 := EU 34 3 (by omega)
  have e3 := A3.1
  have t12 : u 49 12 = t := by rw [EU 49 12 (by omega), U 49 12 (by omega) (by omega), E 49 12 (by omega)]; exact ht
  have F61 : FRc h61 := frc_k Fc (fun cc x z => E cc x (by omega))
  refine ⟨⟨fun cc x z1 z2 z3 z4 => by rw [EU cc x (by omega), U cc x (by omega) z2]; exact E cc x (by omega), frc_k F61 (fun cc x z => by rw [EU cc x (by omega)]; exact U cc x (by omega) (by omega)), ⟨by omega, by omega, by omega⟩, ⟨?_, ?_, t12, ?_⟩, ?_⟩, fun h2 PB WL L w M lw => ⟨fun z => absurd z (by omega), fun _ => ?_⟩⟩
  · rw [EU 49 10 (by omega), o21]; omega
  · rw [eu, up_s]
  · rw [eu, up_n (by omega), up_s]
  · exact cp_top A3 (by omega) (by omega) (fun x => EU 36 x (by omega)) t12
  · have Mw : MKx X PB WL L h61 w := mkx_c M (fun cc x z1 z2 z3 => E cc x (by omega))
    obtain ⟨-, -, ⟨m1, m2, m3, m4⟩, -⟩ := mk_t Mw
    have tn : ¬ ty_T t = 3 := fun y => vt.2 ((ty_3 (X := X) Y.2.2.1 vt.1).mp y)
    refine pc_sv (r_put (by omega)) ?_; intro u59 b1
    have M1 := mk_op Mw A1 b1 (fun _ => rfl) aop_in
    refine pc_sv (m_turnG M1 A2 A3 (by omega) (by omega) ⟨rfl, vt⟩ tn rfl) ?_; intro w4 ⟨M4, l4⟩
    exact pc_ret ⟨mkx_c M4 (fun cc x z1 z2 z3 => by rw [EU cc x (by omega), up_n (by omega), up_n (by omega)]), by rw [l4, b1.2.2 160 88 (by omega) (by omega)]; omega⟩
end
end
section
/- E of both sides: a sign is closed: the class (all but && and ||) -/
section
variable {nn : Nat} {X : BCx} {dp i l a b e s t k : Int} {p q : Nat} {h g u r w m : ms_M} {v : Int × ms_M}
theorem pc_any {α : Type} {x : Option α} : Pc x (fun _ => True) := fun _ _ => trivial
theorem st_6 (kk : SGk k) (n : ¬ k = 52 ∧ ¬ k = 53) : st_T k = 6 ↔ (54 ≤ k ∧ k ≤ 57) := by
  have D : k = 54 ∨ k = 55 ∨ k = 56 ∨ k = 57 ∨ k = 58 ∨ k = 59 ∨ k = 60 ∨ k = 61 ∨ k = 62 ∨ k = 63 ∨ k = 64 ∨ k = 65 ∨ k = 66 ∨ k = 68 ∨ k = 70 := by unfold SGk at kk; omega
  rcases D with rfl | rfl | rfl | rfl | rfl | rfl | rfl | rfl | rfl | rfl | rfl | rfl | rfl | rfl | rfl <;> decide
/-- a TYPE is told, and what stands behind it leaves it -/
theorem c_wf {tk : Nat} {x : Int} {F : ms_M → Option ms_M} {Q : ms_M → Prop} (TB : TBc (bK X) (bP X) (bc X) h) (hf : h 2 11 = 0) (ht : tk < bc X) (hx : x = (tk : Int)) (FS : ∀ g : ms_M, ¬ g 2 11 = 0 → Pc (F g) (fun u => FSc g u)) (H : ∀ u : ms_M, u 2 11 = 6 ∧ u 2 12 = bP X tk → Q u) : Pc (mx_sv (qf_X10_wantType nn 0 x h) fun g => F g) Q := by
  refine pc_sv (c_want0 TB hf ht hx) ?_; intro g s
  exact pc_imp (FS g (by omega)) (fun u F => H u ⟨by rw [F.1]; exact s.1, by rw [F.2]; exact s.2⟩)
theorem c_closeS {o tk : Nat} {pp : Int} {u2 : ms_M} (Y : CXs X) (B : BX X u2 r) (hf : u2 2 11 = 0) (ho : u2 49 10 = (o : Int) + 1) (o4 : o < 420) (hk : u2 50 o = k) (kk : SGk k) (hs : u2 53 o = s) (ht : u2 49 12 = t) (vs : VTn (bn X) s ∧ ¬ s = 303) (vt : VTn (bn X) t ∧ ¬ t = 303) (hpp : u2 52 o = pp) (htk : u2 51 o = (tk : Int)) (tc : tk < bc X) (Fc : FRc u2) (l1 : 0 ≤ u2 34 1 ∧ u2 34 1 ≤ 900000) (l3 : 0 ≤ u2 34 3 ∧ u2 34 3 ≤ 2999) : Pc (qf_X10_closeSign nn u2) (fun u => (OKt X k s t ∧ CSr X pp (rt_T k t) u2 u ∧ CSm nn X k t u2 u) ∨ (¬ OKt X k s t ∧ u 2 11 = 6 ∧ u 2 12 = bP X tk)) := by
  have h7 : 0 ≤ u2 34 7 := by have := B.2.1.1; omega
  unfold qf_X10_closeSign
  refine pc_sub (by omega) ?_; intro v60 e60
  rw [show v60 = (o : Int) by omega]
  refine pc_xl ?_; intro h61 e61
  have E : ∀ cc x : Nat, ¬ (cc = 49 ∧ x = 10) → h61 cc x = u2 cc x := fun cc x z => by rw [e61, up_n z]
  have o61 : h61 49 10 = (o : Int) := by rw [e61, up_s]
  have B61 : BX X h61 r := bx_k B (fun cc x z => E cc x (by omega)) (fun _ _ _ => rfl)
  have TB61 : TBc (bK X) (bP X) (bc X) h61 := B61.1.1.1.1
  have f61 : h61 2 11 = 0 := by rw [E 2 11 (by omega)]; exact hf
  have t61 : h61 49 12 = t := by rw [E 49 12 (by omega)]; exact ht
  refine pc_rA ?_; intro _ _ v64 e64
  rw [o61, Int.toNat_natCast, E 50 o (by omega), hk] at e64
  refine pc_rA ?_; intro _ _ v67 e67
  rw [o61, Int.toNat_natCast, E 53 o (by omega), hs] at e67
  rw [e64, e67]
  have P71 : (k = 52 ∨ k = 53) → Pc (qj_X10_closeSign_71 nn k s h61) (fun u => (OKt X k s t ∧ CSr X pp (rt_T k t) u2 u ∧ CSm nn X k t u2 u) ∨ (¬ OKt X k s t ∧ u 2 11 = 6 ∧ u 2 12 = bP X tk)) := fun z => by
    have er : rt_T k t = 302 := by unfold rt_T; rw [if_pos (by omega)]
    unfold qj_X10_closeSign_71
    rw [t61]
    refine pc_sv (c_isPair Y B61 vs.1 vt.1) ?_; intro u41 q41
    refine pc_rA ?_; intro _ _ v44 e44
    rw [o61, Int.toNat_natCast, E 51 o (by omega), htk] at e44
    rcases q41 with ⟨y1, y2⟩ | ⟨y1, y2⟩
    · rw [y1]
      refine pc_sv c_want1 ?_; intro u46 e46
      rw [e46, t61]
      refine pc_sv c_isNum ?_; intro u49 q49
      refine pc_imp (c_tailT (X := X) (t := t) (by omega) e61 ho hpp Fc l1 l3 h7 ⟨fun y => by omega, fun y => by omega⟩) (fun u y => .inl ⟨.inl ⟨z, y2⟩, ?_, y.2⟩)
      rw [er]
      exact y.1
    · rw [y1]
      refine c_wf TB61 f61 tc e44 (fun g S => ?_) (fun u y => .inr ⟨fun f => ?_, y⟩)
      · refine pc_sv pc_any ?_; intro _ _
        refine pc_sv pc_any ?_; intro _ _
        refine pc_sv (fs_qf_X1_truth S) ?_; intro u52 F
        refine pc_xl ?_; intro h53 e53
        have F53 : FSc u52 h53 := ⟨by rw [e53, up_n (by omega)], by rw [e53, up_n (by omega)]⟩
        exact pc_imp (fs_qj_X10_closeSign_293 (by rw [F53.1, F.1]; exact S)) (fun u F3 => fs_t F (fs_t F53 F3))
      · rcases f with ⟨-, f⟩ | ⟨f, -⟩ | ⟨f, -⟩ | ⟨f, -⟩
        · exact y2 f
        · omega
        · omega
        · omega
  have P154 : (54 ≤ k ∧ k ≤ 57) → ∀ s0 : Int, ((s0 = 1 ∧ s = 301 ∧ t = 301) ∨ (s0 = 0 ∧ ¬ (s = 301 ∧ t = 301))) → Pc (qj_X10_closeSign_154 nn k s0 h61) (fun u => (OKt X k s t ∧ CSr X pp (rt_T k t) u2 u ∧ CSm nn X k t u2 u) ∨ (¬ OKt X k s t ∧ u 2 11 = 6 ∧ u 2 12 = bP X tk)) := fun z s0 hs0 => by
    have er : rt_T k t = 302 := by unfold rt_T; rw [if_pos (by omega)]
    unfold qj_X10_closeSign_154
    refine pc_rA ?_; intro _ _ v31 e31
    rw [o61, Int.toNat_natCast, E 51 o (by omega), htk] at e31
    rcases hs0 with ⟨y1, y2, y3⟩ | ⟨y1, y2⟩
    · rw [y1]
      refine pc_sv c_want1 ?_; intro u33 e33
      rw [e33]
      refine pc_imp (c_tailT (X := X) (t := t) (by omega) e61 ho hpp Fc l1 l3 h7 ⟨fun y => by omega, fun y => by omega⟩) (fun u y => .inl ⟨.inr (.inl ⟨z, y2, y3⟩), ?_, y.2⟩)
      rw [er]
      exact y.1
    · rw [y1]
      refine c_wf TB61 f61 tc e31 (fun g S => ?_) (fun u y => .inr ⟨fun f => ?_, y⟩)
      · refine pc_sv pc_any ?_; intro _ _
        refine pc_sv (fs_qf_X1_truth S) ?_; intro u52 F
        refine pc_xl ?_; intro h53 e53
        have F53 : FSc u52 h53 := ⟨by rw [e53, up_n (by omega)], by rw [e53, up_n (by omega)]⟩
        exact pc_imp (fs_qj_X10_closeSign_293 (by rw [F53.1, F.1]; exact S)) (fun u F3 => fs_t F (fs_t F53 F3))
      · rcases f with ⟨f, -⟩ | ⟨-, f⟩ | ⟨f, -⟩ | ⟨f, -⟩
        · omega
        · exact y2 f
        · omega
        · omega
  have P251 : 58 ≤ k → ∀ s0 : Int, ((s0 = 1 ∧ OKt X k s t) ∨ (s0 = 0 ∧ ¬ OKt X k s t)) → Pc (qj_X10_closeSign_251 nn k s0 h61) (fun u => (OKt X k s t ∧ CSr X pp (rt_T k t) u2 u ∧ CSm nn X k t u2 u) ∨ (¬ OKt X k s t ∧ u 2 11 = 6 ∧ u 2 12 = bP X tk)) := fun z s0 hs0 => by
    have er : rt_T k t = t := by unfold rt_T; rw [if_neg (by omega)]
    unfold qj_X10_closeSign_251
    refine pc_rA ?_; intro _ _ v8 e8
    rw [o61, Int.toNat_natCast, E 51 o (by omega), htk] at e8
    rcases hs0 with ⟨y1, y2⟩ | ⟨y1, y2⟩
    · rw [y1]
      refine pc_sv c_want1 ?_; intro u10 e10
      rw [e10]
      refine pc_imp (c_tailA (X := X) (t := t) z Y e61 ho hpp Fc l1 l3 ht vt) (fun u y => .inl ⟨y2, ?_, y.2⟩)
      rw [er]
      exact y.1
    · rw [y1]
      refine c_wf TB61 f61 tc e8 (fun g S => ?_) (fun u y => .inr ⟨y2, y⟩)
      refine pc_sv pc_any ?_; intro _ _
      refine pc_sv (fs_qf_X1_op S) ?_; intro u14 F1
      have S1 : ¬ u14 2 11 = 0 := by rw [F1.1]; exact S
      refine pc_sv (fs_qf_X1_pop S1) ?_; intro u17 F2
      have S2 : ¬ u17 2 11 = 0 := by rw [F2.1]; exact S1
      refine pc_sv (fs_qf_X1_push S2) ?_; intro u21 F3
      exact pc_imp (fs_qj_X10_closeSign_293 (by rw [F3.1]; exact S2)) (fun u F4 => fs_t F1 (fs_t F2 (fs_t F3 F4)))
  have P212 : 58 ≤ k → ∀ s0 : Int, ((k = 66 ∨ k = 68 ∨ k = 70) ∧ s0 = 1) ∨ (¬ (k = 66 ∨ k = 68 ∨ k = 70) ∧ s0 = 0) → Pc (qj_X10_closeSign_212 nn k s s0 h61) (fun u => (OKt X k s t ∧ CSr X pp (rt_T k t) u2 u ∧ CSm nn X k t u2 u) ∨ (¬ OKt X k s t ∧ u 2 11 = 6 ∧ u 2 12 = bP X tk)) := fun z s0 hs0 => by
    have k5 : (58 ≤ k ∧ k ≤ 65) ∨ (k = 66 ∨ k = 68 ∨ k = 70) := by unfold SGk at kk; omega
    have NO : ¬ (s = t ∧ (t = 301 ∨ ((k = 66 ∨ k = 68 ∨ k = 70) ∧ t = 302))) → ¬ OKt X k s t := fun n f => by
      rcases f with ⟨f, -⟩ | ⟨f, -⟩ | ⟨-, f1, f2⟩ | ⟨f0, f1, f2⟩
      · omega
      · omega
      · exact n ⟨f1, .inl f2⟩
      · exact n ⟨f1, f2.elim .inl (fun y => .inr ⟨f0, y⟩)⟩
    unfold qj_X10_closeSign_212 qj_X10_closeSign_250 qj_X10_closeSign_246
    rw [t61]
    refine pc_if (fun y => P251 z 0 (.inr ⟨rfl, NO (fun f => y f.1)⟩)) (fun y => ?_)
    have es : s = t := Classical.byContradiction y
    refine pc_if (fun y1 => P251 z 1 (.inl ⟨rfl, ?_⟩)) (fun y1 => ?_)
    · rcases k5 with k5 | k5
      · exact .inr (.inr (.inl ⟨k5, es, y1⟩))
      · exact .inr (.inr (.inr ⟨k5, es, .inl y1⟩))
    refine pc_if (fun y2 => P251 z 0 (.inr ⟨rfl, NO (fun f => ?_)⟩)) (fun y2 => ?_)
    · omega
    refine pc_if (fun y3 => P251 z 0 (.inr ⟨rfl, NO (fun f => ?_)⟩)) (fun y3 => P251 z 1 (.inl ⟨rfl, ?_⟩))
    · omega
    · exact .inr (.inr (.inr ⟨by omega, es, .inr (by omega)⟩))
  have nk : ¬ k = 67 ∧ ¬ k = 69 := by unfold SGk at kk; omega
  refine pc_if (fun z => absurd z nk.1) (fun _ => ?_)
  refine pc_if (fun _ => ?_) (fun z => absurd nk.2 z)
  refine pc_if (fun z => P71 (.inl z)) (fun z52 => ?_)
  refine pc_if (fun z53 => ?_) (fun z => P71 (.inr (Classical.byContradiction z)))
  refine pc_sv c_lev ?_; intro u68 q68
  have s6 := st_6 kk ⟨z52, z53⟩
  refine pc_if (fun z => ?_) (fun z => ?_)
  · have k58 : 58 ≤ k := by unfold SGk at kk; omega
    unfold qj_X10_closeSign_207
    refine pc_if (fun y => P212 k58 1 (.inl ⟨.inl y, rfl⟩)) (fun y1 => ?_)
    refine pc_if (fun y => P212 k58 1 (.inl ⟨.inr (.inl y), rfl⟩)) (fun y2 => ?_)
    exact pc_if (fun y => P212 k58 0 (.inr ⟨by omega, rfl⟩)) (fun y => P212 k58 1 (.inl ⟨.inr (.inr (Classical.byContradiction y)), rfl⟩))
  · have k54 : 54 ≤ k ∧ k ≤ 57 := s6.mp (by omega)
    unfold qj_X10_closeSign_153
    rw [t61]
    refine pc_if (fun y => P154 k54 0 (.inr ⟨rfl, fun f => y f.1⟩)) (fun y1 => ?_)
    exact pc_if (fun y => P154 k54 0 (.inr ⟨rfl, fun f => y f.2⟩)) (fun y2 => P154 k54 1 (.inl ⟨rfl, by omega, by omega⟩))
end
end
section
/- E of both sides: a sign is opened; && and || -/
/-- what opening leaves in the class -/
def OSr (t o : Nat) (k j : Int) (h u : ms_M) : Prop := (u 2 10 = ((t + 1 : Nat) : Int) ∧ u 49 10 = (o : Int) + 1 ∧ u 50 o = k ∧ u 51 o = (t : Int) ∧ u 52 o = h 49 15 ∧ u 53 o = h 49 12 ∧ u 54 o = j) ∧ (∀ cc x : Nat, ¬ (cc = 2 ∧ x = 10) → ¬ (cc = 49 ∧ x = 10) → ¬ (50 ≤ cc ∧ cc ≤ 54 ∧ x = o) → ¬ (cc = 34 ∧ (x = 1 ∨ x = 3)) → ¬ cc = 35 → u cc x = h cc x) ∧ ((SGk k ∧ u 34 1 = h 34 1 ∧ u 34 3 = h 34 3 ∧ ∀ x : Nat, u 35 x = h 35 x) ∨ ((k = 67 ∨ k = 69) ∧ j = h 34 1 ∧ ∃ h1 g1 : ms_M, (∀ cc x : Nat, ¬ (50 ≤ cc ∧ cc ≤ 54) → h1 cc x = h cc x) ∧ CJu (if k = 67 then 153 else 154) 1 h1 g1 ∧ ∀ cc x : Nat, ¬ (cc = 2 ∧ x = 10) → ¬ (cc = 49 ∧ x = 10) → ¬ (50 ≤ cc ∧ cc ≤ 54) → u cc x = g1 cc x))
/-- && and || are closed: what the class makes -/
def CSh (k j : Int) (h u : ms_M) : Prop := ∃ g1 g2 g3 g4 g5 : ms_M, CJu 167 0 h g1 ∧ CPo 1 g1 g2 ∧ CAH j g2 g3 ∧ COp (if k = 67 then 3 else 4) g3 g4 ∧ CPu 302 g4 g5 ∧ CAH (h 34 1) g5 u
/-- what closing leaves in the class, with any sign -/
def CSq (X : BCx) (pp rt : Int) (u2 u : ms_M) : Prop := (∀ cc x : Nat, ¬ (cc = 34 ∧ (x = 1 ∨ x = 3 ∨ x = 4 ∨ x = 14 ∨ x = 15)) → ¬ (cc = 35 ∨ cc = 36) → ¬ (40 ≤ cc ∧ cc ≤ 42) → ¬ (cc = 49 ∧ (x = 10 ∨ x = 11 ∨ x = 12 ∨ x = 15)) → u cc x = u2 cc x) ∧ FRc u ∧ ((u2 34 1 ≤ u 34 1 ∧ u 34 1 ≤ u2 34 1 + 10) ∧ (0 ≤ u 34 3 ∧ u 34 3 ≤ u2 34 3 + 1)) ∧ (u 49 10 = u2 49 10 - 1 ∧ u 49 11 = 0 ∧ u 49 12 = rt ∧ u 49 15 = pp) ∧ (u 49 12 = 303 ∨ 20 < u 34 3 ∨ u 36 (u 34 3 - 1).toNat = u 49 12)
section
variable {nn : Nat} {X : BCx} {dp i l a b e s k : Int} {p q t o : Nat} {h g u r w m : ms_M} {v : Int × ms_M} {PB : Nat → Prop} {WL : Int → Int → Prop} {L : List (Int × Int)}
theorem csr_q {pp rt : Int} {u2 : ms_M} (C : CSr X pp rt u2 u) : CSq X pp rt u2 u := ⟨C.1, C.2.1, ⟨C.2.2.1.1, C.2.2.1.2.1⟩, C.2.2.2.1, C.2.2.2.2⟩
theorem c_openS (Y : CXs X) (TB : TBc (bK X) (bP X) (bc X) h) (tc : t < bc X) (hp : h 2 10 = (t : Int)) (hf : h 2 11 = 0) (ho : h 49 10 = (o : Int)) (o4 : o < 420) (hk : bK X t = k) (kk : SGk k ∨ k = 67 ∨ k = 69) (f15 : h 49 15 = (p : Int)) (pc : p < bc X) (l1 : 0 ≤ h 34 1 ∧ h 34 1 ≤ 900000) (l3 : 0 ≤ h 34 3 ∧ h 34 3 ≤ 2999) : Pc (qf_X10_openSign nn h) (fun u => ((SGk k ∨ h 49 12 = 302) ∧ ∃ j, OSr t o k j h u) ∨ ((k = 67 ∨ k = 69) ∧ ¬ h 49 12 = 302 ∧ u 2 11 = 6 ∧ u 2 12 = bP X p)) := by
  have c3 := Y.1.2.1
  unfold qf_X10_openSign
  refine pc_sv (c_kind Y.1 TB tc hp hf) ?_; intro u22 q22
  rw [hk] at q22
  rw [q22]
  refine pc_if (fun z => absurd z (by omega)) (fun _ => ?_)
  refine pc_wA ?_; intro _ _ h28 e28
  rw [ho, Int.toNat_natCast] at e28
  have E28 : ∀ cc x : Nat, ¬ (cc = 50 ∧ x = o) → h28 cc x = h cc x := fun cc x z => by rw [e28, up_n z]
  rw [E28 49 10 (by omega), E28 2 10 (by omega), ho, hp]
  refine pc_wA ?_; intro _ _ h33 e33
  rw [Int.toNat_natCast] at e33
  have E33 : ∀ cc x : Nat, ¬ (50 ≤ cc ∧ cc ≤ 51 ∧ x = o) → h33 cc x = h cc x := fun cc x z => by rw [e33, up_n (by omega)]; exact E28 cc x (by omega)
  rw [E33 49 10 (by omega), E33 49 15 (by omega), ho]
  refine pc_wA ?_; intro _ _ h37 e37
  rw [Int.toNat_natCast] at e37
  have E37 : ∀ cc x : Nat, ¬ (50 ≤ cc ∧ cc ≤ 52 ∧ x = o) → h37 cc x = h cc x := fun cc x z => by rw [e37, up_n (by omega)]; exact E33 cc x (by omega)
  rw [E37 49 10 (by omega), E37 49 12 (by omega), ho]
  refine pc_wA ?_; intro _ _ h41 e41
  rw [Int.toNat_natCast] at e41
  have E41 : ∀ cc x : Nat, ¬ (50 ≤ cc ∧ cc ≤ 53 ∧ x = o) → h41 cc x = h cc x := fun cc x z => by rw [e41, up_n (by omega)]; exact E37 cc x (by omega)
  rw [E41 49 10 (by omega), ho]
  refine pc_wA ?_; intro _ _ h44 e44
  rw [Int.toNat_natCast] at e44
  have E44 : ∀ cc x : Nat, ¬ (50 ≤ cc ∧ cc ≤ 54 ∧ x = o) → h44 cc x = h cc x := fun cc x z => by rw [e44, up_n (by omega)]; exact E41 cc x (by omega)
  have r50 : h44 50 o = k := by rw [e44, up_n (by omega), e41, up_n (by omega), e37, up_n (by omega), e33, up_n (by omega), e28, up_s]
  have r51 : h44 51 o = (t : Int) := by rw [e44, up_n (by omega), e41, up_n (by omega), e37, up_n (by omega), e33, up_s]
  have r52 : h44 52 o = h 49 15 := by rw [e44, up_n (by omega), e41, up_n (by omega), e37, up_s]
  have r53 : h44 53 o = h 49 12 := by rw [e44, up_n (by omega), e41, up_s]
  have r54 : h44 54 o = -1 := by rw [e44, up_s]
  have P149 : ∀ g : ms_M, g 49 10 = (o : Int) → g 2 10 = (t : Int) → Pc (qj_X10_openSign_149 nn g) (fun u => u = up_M (up_M g 49 10 ((o : Int) + 1)) 2 10 ((t + 1 : Nat) : Int)) := fun g g1 g2 => by
    unfold qj_X10_openSign_149 qj_X10_openSign_159
    rw [g1]
    refine pc_add (by omega) ?_; intro v6 e6
    refine pc_xl ?_; intro h7 e7
    rw [show h7 2 10 = (t : Int) by rw [e7, up_n (by omega)]; exact g2]
    refine pc_add (by omega) ?_; intro v3 e3
    refine pc_xl ?_; intro h4 e4
    exact pc_ret (by rw [e4, e7, e6, e3]; rfl)
  have o44 : h44 49 10 = (o : Int) := by rw [E44 49 10 (by omega)]; exact ho
  have p44 : h44 2 10 = (t : Int) := by rw [E44 2 10 (by omega)]; exact hp
  have TB44 : TBc (bK X) (bP X) (bc X) h44 := tbc_k TB (fun cc y z => E44 cc y (by omega))
  have f44 : h44 2 11 = 0 := by rw [E44 2 11 (by omega)]; exact hf
  have P94 : (k = 67 ∨ k = 69) → Pc (qj_X10_openSign_94 nn k h44) (fun u => ((SGk k ∨ h 49 12 = 302) ∧ ∃ j, OSr t o k j h u) ∨ ((k = 67 ∨ k = 69) ∧ ¬ h 49 12 = 302 ∧ u 2 11 = 6 ∧ u 2 12 = bP X p)) := fun k2 => by
    unfold qj_X10_openSign_94
    rw [E44 49 12 (by omega)]
    refine pc_if (fun z => ?_) (fun z => ?_)
    · unfold qj_X10_openSign_110
      rw [E44 49 15 (by omega)]
      refine c_wf TB44 f44 pc f15 (fun g S => ?_) (fun u y => .inr ⟨k2, z, y⟩)
      exact pc_if (fun _ => fs_qj_X10_openSign_144 S) (fun _ => fs_qj_X10_openSign_144 S)
    · have z2 : h 49 12 = 302 := Classical.byContradiction z
      unfold qj_X10_openSign_110
      refine pc_sv c_want1 ?_; intro u13 e13
      rw [e13, o44]
      have P144 : ∀ op : Int, op = (if k = 67 then 153 else 154) → Pc (qj_X10_openSign_144 nn op (o : Int) h44) (fun u => ((SGk k ∨ h 49 12 = 302) ∧ ∃ j, OSr t o k j h u) ∨ ((k = 67 ∨ k = 69) ∧ ¬ h 49 12 = 302 ∧ u 2 11 = 6 ∧ u 2 12 = bP X p)) := fun op hop => by
        unfold qj_X10_openSign_144
        refine pc_sv (c_jump (by omega) (by rw [E44 34 1 (by omega)]; omega) (by rw [E44 34 3 (by omega)]; omega)) ?_; intro u9 ⟨j1, J⟩
        rw [E44 34 1 (by omega)] at j1
        refine pc_wA ?_; intro _ _ h10 e10
        rw [Int.toNat_natCast] at e10
        have E10 : ∀ cc x : Nat, ¬ (cc = 54 ∧ x = o) → h10 cc x = u9.2 cc x := fun cc x z => by rw [e10, up_n z]
        have J4 := J.2.2.2
        have E9 : ∀ cc x : Nat, ¬ (cc = 34 ∧ (x = 1 ∨ x = 3)) → ¬ cc = 35 → u9.2 cc x = h44 cc x := fun cc x z1 z2 => J4 cc x z1 (by omega)
        refine pc_imp (P149 h10 (by rw [E10 49 10 (by omega), E9 49 10 (by omega) (by omega)]; exact o44) (by rw [E10 2 10 (by omega), E9 2 10 (by omega) (by omega)]; exact p44)) (fun u eu => .inl ⟨.inr z2, u9.1, ?_⟩)
        have EU : ∀ cc x : Nat, ¬ (cc = 2 ∧ x = 10) → ¬ (cc = 49 ∧ x = 10) → u cc x = h10 cc x := fun cc x z1 z2 => by rw [eu, up_n z1, up_n z2]
        refine ⟨⟨by rw [eu, up_s], by rw [eu, up_n (by omega), up_s], ?_, ?_, ?_, ?_, ?_⟩, fun cc x z1 z2 z3 z4 z5 => ?_, .inr ⟨k2, j1, h44, u9.2, fun cc x z => E44 cc x (by omega), by rw [← hop]; exact J, fun cc x z1 z2 z3 => ?_⟩⟩
        · rw [EU 50 o (by omega) (by omega), E10 50 o (by omega), E9 50 o (by omega) (by omega)]; exact r50
        · rw [EU 51 o (by omega) (by omega), E10 51 o (by omega), E9 51 o (by omega) (by omega)]; exact r51
        · rw [EU 52 o (by omega) (by omega), E10 52 o (by omega), E9 52 o (by omega) (by omega)]; exact r52
        · rw [EU 53 o (by omega) (by omega), E10 53 o (by omega), E9 53 o (by omega) (by omega)]; exact r53
        · rw [EU 54 o (by omega) (by omega), e10, up_s]
        · rw [EU cc x z1 z2, E10 cc x (by omega), E9 cc x z4 z5]; exact E44 cc x z3
        · rw [EU cc x z1 z2, E10 cc x (by omega)]
      exact pc_if (fun y => P144 154 (by rw [if_neg y])) (fun y => P144 153 (by rw [if_pos (Classical.byContradiction y)]))
  refine pc_if (fun z => P94 (.inl z)) (fun z1 => ?_)
  refine pc_if (fun z2 => ?_) (fun z => P94 (.inr (Classical.byContradiction z)))
  have sk : SGk k := by
    rcases kk with y | y | y
    · exact y
    · exact absurd y z1
    · exact absurd y z2
  refine pc_imp (P149 h44 o44 p44) (fun u eu => .inl ⟨.inl sk, -1, ?_⟩)
  have EU : ∀ cc x : Nat, ¬ (cc = 2 ∧ x = 10) → ¬ (cc = 49 ∧ x = 10) → u cc x = h44 cc x := fun cc x z1 z2 => by rw [eu, up_n z1, up_n z2]
  refine ⟨⟨by rw [eu, up_s], by rw [eu, up_n (by omega), up_s], ?_, ?_, ?_, ?_, ?_⟩, fun cc x z1 z2 z3 z4 z5 => ?_, .inl ⟨sk, ?_, ?_, fun x => ?_⟩⟩
  · rw [EU 50 o (by omega) (by omega)]; exact r50
  · rw [EU 51 o (by omega) (by omega)]; exact r51
  · rw [EU 52 o (by omega) (by omega)]; exact r52
  · rw [EU 53 o (by omega) (by omega)]; exact r53
  · rw [EU 54 o (by omega) (by omega)]; exact r54
  · rw [EU cc x z1 z2]; exact E44 cc x z3
  · rw [EU 34 1 (by omega) (by omega)]; exact E44 34 1 (by omega)
  · rw [EU 34 3 (by omega) (by omega)]; exact E44 34 3 (by omega)
  · rw [EU 35 x (by omega) (by omega)]; exact E44 35 x (by omega)
/-- && and || are closed -/
theorem c_closeH {tk : Nat} {pp j : Int} {u2 : ms_M} (Y : CXs X) (B : BX X u2 r) (hf : u2 2 11 = 0) (ho : u2 49 10 = (o : Int) + 1) (o4 : o < 420) (hk : u2 50 o = k) (kk : k = 67 ∨ k = 69) (hpp : u2 52 o = pp) (hj : u2 54 o = j) (j0 : 0 ≤ j ∧ j ≤ 900000) (h15 : u2 49 15 = (tk : Int)) (tc : tk < bc X) (Fc : FRc u2) (l1 : 0 ≤ u2 34 1 ∧ u2 34 1 ≤ 900000) (l3 : 0 ≤ u2 34 3 ∧ u2 34 3 ≤ 2999) : Pc (qf_X10_closeSign nn u2) (fun u => (u2 49 12 = 302 ∧ CSq X pp 302 u2 u ∧ (1 ≤ u2 34 3 → u 34 3 = u2 34 3) ∧ ∃ h1 g1 : ms_M, (∀ cc x : Nat, ¬ cc = 49 → h1 cc x = u2 cc x) ∧ CSh k j h1 g1 ∧ ∀ cc x : Nat, ¬ cc = 49 → u cc x = g1 cc x) ∨ (¬ u2 49 12 = 302 ∧ u 2 11 = 6 ∧ u 2 12 = bP X tk)) := by
  have h7 : 0 ≤ u2 34 7 := by have := B.2.1.1; omega
  unfold qf_X10_closeSign
  refine pc_sub (by omega) ?_; intro v60 e60
  rw [show v60 = (o : Int) by omega]
  refine pc_xl ?_; intro h61 e61
  have E : ∀ cc x : Nat, ¬ (cc = 49 ∧ x = 10) → h61 cc x = u2 cc x := fun cc x z => by rw [e61, up_n z]
  have o61 : h61 49 10 = (o : Int) := by rw [e61, up_s]
  have B61 : BX X h61 r := bx_k B (fun cc x z => E cc x (by omega)) (fun _ _ _ => rfl)
  have TB61 : TBc (bK X) (bP X) (bc X) h61 := B61.1.1.1.1
  have f61 : h61 2 11 = 0 := by rw [E 2 11 (by omega)]; exact hf
  refine pc_rA ?_; intro _ _ v64 e64
  rw [o61, Int.toNat_natCast, E 50 o (by omega), hk] at e64
  refine pc_rA ?_; intro _ _ v67 e67
  rw [e64]
  have P42 : Pc (qj_X10_closeSign_42 nn k h61) (fun u => (u2 49 12 = 302 ∧ CSq X pp 302 u2 u ∧ (1 ≤ u2 34 3 → u 34 3 = u2 34 3) ∧ ∃ h1 g1 : ms_M, (∀ cc x : Nat, ¬ cc = 49 → h1 cc x = u2 cc x) ∧ CSh k j h1 g1 ∧ ∀ cc x : Nat, ¬ cc = 49 → u cc x = g1 cc x) ∨ (¬ u2 49 12 = 302 ∧ u 2 11 = 6 ∧ u 2 12 = bP X tk)) := by
    unfold qj_X10_closeSign_42
    refine pc_rA ?_; intro _ _ v56 e56
    rw [o61, Int.toNat_natCast, E 54 o (by omega), hj] at e56
    rw [e56]
    unfold qf_X10_closeShort
    rw [E 49 12 (by omega)]
    by_cases z : u2 49 12 = 302
    · rw [if_neg (fun y => y z)]
      unfold qj_X10_closeShort_16
      refine p2_m ?_
      refine pc_imp c_want1 (fun u12 e12 => ?_)
      rw [e12]
      refine p2_m ?_
      refine pc_imp (c_jump (by omega) (by rw [E 34 1 (by omega)]; omega) (by rw [E 34 3 (by omega)]; omega)) (fun u15 hu15 => ?_)
      obtain ⟨j1, A1⟩ := hu15
      have a1 := A1.1
      have a3 : u15.2 34 3 = h61 34 3 := by rw [A1.2.1]; rw [E 34 3 (by omega)]; split <;> omega
      have U1 := A1.2.2.2
      rw [E 34 1 (by omega)] at a1 j1
      rw [E 34 3 (by omega)] at a3
      refine p2_m ?_
      refine pc_imp (c_pop (by omega) (by omega)) (fun u18 A2 => ?_)
      have b3 : 0 ≤ u18 34 3 ∧ u18 34 3 ≤ u2 34 3 ∧ (1 ≤ u2 34 3 → u18 34 3 = u2 34 3 - 1) := by rw [A2.1, a3]; split <;> omega
      have b1 : u18 34 1 = u2 34 1 + 3 := by rw [A2.2 34 1 (by omega)]; exact a1
      have U2 : ∀ cc x : Nat, ¬ (cc = 34 ∧ (x = 1 ∨ x = 3)) → ¬ cc = 35 → u18 cc x = h61 cc x := fun cc x z1 z2 => by rw [A2.2 cc x (by omega)]; exact U1 cc x (by omega) (by omega)
      have F18 : FRc u18 := frc_k Fc (fun cc x z => by rw [U2 cc x (by omega) (by omega)]; exact E cc x (by omega))
      refine p2_m ?_
      refine pc_imp (c_aimHere (by omega) (by omega) (by rw [U2 34 7 (by omega) (by omega), E 34 7 (by omega)]; exact h7) (by omega) F18) (fun u21 A3 => ?_)
      obtain ⟨F21, U3⟩ := cah_fr F18 A3
      have c1 : u21 34 1 = u2 34 1 + 3 := by rw [U3 34 1 (by omega) (by omega) (by omega)]; exact b1
      have c3' : u21 34 3 = u18 34 3 := U3 34 3 (by omega) (by omega) (by omega)
      have FIN : ∀ o2 : Int, o2 = (if k = 67 then 3 else 4) → Pc (mx_sv (qj_X10_closeShort_66 nn u15.1 o2 u21) fun u58 => qj_X10_closeSign_293 nn u58) (fun u => (u2 49 12 = 302 ∧ CSq X pp 302 u2 u ∧ (1 ≤ u2 34 3 → u 34 3 = u2 34 3) ∧ ∃ h1 g1 : ms_M, (∀ cc x : Nat, ¬ cc = 49 → h1 cc x = u2 cc x) ∧ CSh k j h1 g1 ∧ ∀ cc x : Nat, ¬ cc = 49 → u cc x = g1 cc x) ∨ (¬ u2 49 12 = 302 ∧ u 2 11 = 6 ∧ u 2 12 = bP X tk)) := fun o2 ho2 => by
        unfold qj_X10_closeShort_66
        refine p2_m ?_
        refine pc_imp (c_op (by omega)) (fun u2' A4 => ?_)
        have d3 : u2' 34 3 = u18 34 3 := by rw [A4.2.2 34 3 (by omega) (by omega)]; exact c3'
        refine p2_m ?_
        refine pc_imp (c_push (by omega)) (fun u5 A5 => ?_)
        have f1 : u5 34 1 = u2 34 1 + 4 := by rw [A5.2.2.2 34 1 (by omega) (by omega), A4.1, c1]; omega
        have f3 : u5 34 3 = u18 34 3 + 1 := by rw [A5.1, d3]
        have U5 : ∀ cc x : Nat, ¬ (cc = 34 ∧ (x = 1 ∨ x = 3 ∨ x = 4)) → ¬ (cc = 35 ∨ cc = 36) → u5 cc x = u21 cc x := fun cc x z1 z2 => by rw [A5.2.2.2 cc x (by omega) (by omega)]; exact A4.2.2 cc x (by omega) (by omega)
        have F5 : FRc u5 := frc_k F21 (fun cc x z => U5 cc x (by omega) (by omega))
        refine p2_m ?_
        refine pc_imp (c_aimHere (j := u15.1) (by omega) (by omega) (by rw [U5 34 7 (by omega) (by omega), U3 34 7 (by omega) (by omega) (by omega), U2 34 7 (by omega) (by omega), E 34 7 (by omega)]; exact h7) (by omega) F5) (fun u8 A6 => ?_)
        obtain ⟨F8, U8⟩ := cah_fr F5 A6
        refine p2_x ?_
        intro h9 e9
        rw [mx_svs]
        have E9 : ∀ cc x : Nat, ¬ (cc = 49 ∧ x = 12) → h9 cc x = u8 cc x := fun cc x z => by rw [e9, up_n z]
        have TOT : ∀ cc x : Nat, ¬ (cc = 34 ∧ (x = 1 ∨ x = 3 ∨ x = 4 ∨ x = 14 ∨ x = 15)) → ¬ (cc = 35 ∨ cc = 36) → ¬ (40 ≤ cc ∧ cc ≤ 42) → u8 cc x = h61 cc x := fun cc x z1 z2 z3 => by rw [U8 cc x (by omega) z3 (by omega), U5 cc x (by omega) z2, U3 cc x (by omega) z3 (by omega), U2 cc x (by omega) (by omega)]
        have o9 : h9 49 10 = (o : Int) := by rw [E9 49 10 (by omega), TOT 49 10 (by omega) (by omega) (by omega)]; exact o61
        refine pc_imp (c_293 o9) (fun u eu => .inl ⟨z, ?_⟩)
        have p9 : h9 52 o = pp := by rw [E9 52 o (by omega), TOT 52 o (by omega) (by omega) (by omega), E 52 o (by omega)]; exact hpp
        rw [p9] at eu
        have EU : ∀ cc x : Nat, ¬ (cc = 49 ∧ (x = 11 ∨ x = 12 ∨ x = 15)) → u cc x = u8 cc x := fun cc x z => by rw [eu, up_n (by omega), up_n (by omega)]; exact E9 cc x (by omega)
        have g1 : u 34 1 = u2 34 1 + 4 := by rw [EU 34 1 (by omega), U8 34 1 (by omega) (by omega) (by omega)]; exact f1
        have g3 : u 34 3 = u18 34 3 + 1 := by rw [EU 34 3 (by omega), U8 34 3 (by omega) (by omega) (by omega)]; exact f3
        have t12 : u 49 12 = 302 := by rw [eu, up_n (by omega), up_n (by omega), e9, up_s]
        refine ⟨⟨fun cc x z1 z2 z3 z4 => by rw [EU cc x (by omega), TOT cc x z1 z2 z3]; exact E cc x (by omega), frc_k F8 (fun cc x z => EU cc x (by omega)), ⟨by omega, by omega⟩, ⟨?_, ?_, t12, ?_⟩, ?_⟩, by omega, ?_⟩
        · rw [EU 49 10 (by omega), TOT 49 10 (by omega) (by omega) (by omega), o61]; omega
        · rw [eu, up_s]
        · rw [eu, up_n (by omega), up_s]
        · exact cp_top A5 (by omega) (by omega) (fun x => by rw [EU 36 x (by omega), U8 36 x (by omega) (by omega) (by omega)]) t12
        · refine ⟨h61, u8, fun cc x z => E cc x (by omega), ⟨u15.2, u18, u21, u2', u5, A1, A2, A3, by rw [← ho2]; exact A4, A5, ?_⟩, fun cc x z => EU cc x (by omega)⟩
          rw [E 34 1 (by omega), ← j1]
          exact A6
      by_cases k7 : k = 67
      · rw [if_neg (fun y => y k7)]
        exact FIN 3 (by rw [if_pos k7])
      · rw [if_pos k7]
        exact FIN 4 (by rw [if_neg k7])
    · rw [if_pos z]
      unfold qj_X10_closeShort_16
      rw [E 49 15 (by omega)]
      refine p2_m ?_
      refine pc_imp (c_want0 TB61 f61 tc h15) (fun u12 s => ?_)
      have S : ¬ u12 2 11 = 0 := by omega
      have TAIL : Pc (mx_sv (qf_X1_jump nn 167 0 u12) fun u15 => mx_sv (qf_X1_pop nn 1 u15.2) fun u18 => mx_sv (qf_X1_aimHere nn j u18) fun u21 => if ¬ k = 67 then (qj_X10_closeShort_66 nn u15.1 4 u21) else (qj_X10_closeShort_66 nn u15.1 3 u21)) (fun u => FSc u12 u) := by
        refine pc_sv (fs_qf_X1_jump S) ?_; intro u15 F1
        have S1 : ¬ u15.2 2 11 = 0 := by rw [F1.1]; exact S
        refine pc_sv (fs_qf_X1_pop S1) ?_; intro u18 F2
        have S2 : ¬ u18 2 11 = 0 := by rw [F2.1]; exact S1
        refine pc_sv (fs_qf_X1_aimHere S2) ?_; intro u21 F3
        have S3 : ¬ u21 2 11 = 0 := by rw [F3.1]; exact S2
        exact pc_if (fun _ => pc_imp (fs_qj_X10_closeShort_66 S3) (fun u F4 => fs_t F1 (fs_t F2 (fs_t F3 F4)))) (fun _ => pc_imp (fs_qj_X10_closeShort_66 S3) (fun u F4 => fs_t F1 (fs_t F2 (fs_t F3 F4))))
      refine pc_sv TAIL ?_; intro u58 F
      exact pc_imp (fs_qj_X10_closeSign_293 (by rw [F.1]; exact S)) (fun u F2 => .inr ⟨z, by rw [F2.1, F.1]; exact s.1, by rw [F2.2, F.2]; exact s.2⟩)
  refine pc_if (fun _ => P42) (fun z1 => ?_)
  exact pc_if (fun z2 => absurd kk (by omega)) (fun _ => P42)
end
end
section
/- && and ||: the making -/
section
variable {nn : Nat} {X : BCx} {dp i l a b e s k o : Int} {p q t : Nat} {h g u r w m : ms_M} {v : Int × ms_M} {PB : Nat → Prop} {WL : Int → Int → Prop} {L : List (Int × Int)}
/-- a jump, then a pop: a jump that pops -/
theorem cju_pop {g2 : ms_M} (A : CJu o 0 h g) (B : CPo 1 g g2) (h0 : 0 ≤ h 34 3) : CJu o 1 h g2 := by
  obtain ⟨a1, a2, ⟨a3, a4, a5⟩, a6⟩ := A
  obtain ⟨b1, b2⟩ := B
  refine ⟨by rw [b2 34 1 (by omega)]; exact a1, ?_, ⟨fun z => by rw [b2 35 _ (by omega)]; exact a3 z, fun z => by rw [b2 35 _ (by omega)]; exact a4 z, fun z => by rw [b2 35 _ (by omega)]; exact a5 z⟩, fun cc x z1 z2 => by rw [b2 cc x (by omega)]; exact a6 cc x z1 z2⟩
  have a3' : g 34 3 = h 34 3 := by rw [a2]; split <;> omega
  rw [b1, a3']
theorem r_lab (b : 0 ≤ m 160 88 ∧ m 160 88 ≤ 2140000000) : Pc (qf_X13_label nn m) (fun y => y = (m 160 88 + 1, up_M m 160 88 (m 160 88 + 1))) := by
  unfold qf_X13_label
  exact pc_add (by omega) (fun v2 e2 => pc_xl (fun h3 e3 => pc_ret (by rw [e3, e2, up_s])))
/-- labels of the list are old -/
theorem mk_nL (M : MKx X PB WL L h m) {f : Int} (hf : m 160 88 < f) : ¬ hs_L f L := hs_no L (fun ii hi => by have := (M.1.2.1.2.2.1 ii hi).2.2; omega)
theorem mk_88 (M : MKx X PB WL L h m) : 0 ≤ m 160 88 := M.1.2.1.2.2.2.2
/-- what stands of the labels -/
theorem m_short {d : Nat} {j l3 : Int} {h1 g1 h2 g2 u1 u18 u2 : ms_M} {v : ms_M} (k2 : (k = 67 ∧ ¬ l3 = 0) ∨ (k = 69 ∧ l3 = 0)) (M : MKx X PB WL L u1 m) (E1 : ∀ cc x : Nat, ¬ (50 ≤ cc ∧ cc ≤ 54) → h1 cc x = u1 cc x) (A1 : CJu (if k = 67 then 153 else 154) 1 h1 g1) (E2 : ∀ cc x : Nat, ¬ (cc = 2 ∧ x = 10) → ¬ (cc = 49 ∧ x = 10) → ¬ (50 ≤ cc ∧ cc ≤ 54) → u18 cc x = g1 cc x) (hj : j = u1 34 1) (CR : MKC nn X (bT X 171 e.toNat) (e + 1) b (t + 1) q u18 u2 v) (E3 : ∀ cc x : Nat, ¬ cc = 49 → h2 cc x = u2 cc x) (A2 : CSh k j h2 g2) (E4 : ∀ cc x : Nat, ¬ cc = 49 → u cc x = g2 cc x) (AM : AN (e + 1) b v m) (b57 : 0 ≤ m 160 57 ∧ m 160 57 + (b - (e + 1)) < 9000) (b88 : m 160 88 + 4 * (q : Int) ≤ 2000000000 + 4 * (t : Int)) (s1 : 1 ≤ u1 34 3 ∧ u1 34 3 ≤ 2999) (s2 : u2 34 3 = u18 34 3 + 1) (l1 : u1 34 1 ≤ 800000) (l2 : u2 34 1 ≤ 800000) (q3 : q ≤ 3001) (t3 : t < 3001) : Pc (qj_X13_workBoth_46 nn (qg_X13_work nn d) e l3 m) (fun w => MKx X PB WL L u w ∧ (m 160 88 ≤ w 160 88 ∧ w 160 88 + 4 * (t : Int) ≤ m 160 88 + 4 * (q : Int))) := by
  have lb0 := mk_88 M
  have a1 := A1.1
  have e1 := E1 34 1 (by omega)
  have e3 := E1 34 3 (by omega)
  have a3 : g1 34 3 = u1 34 3 - 1 := by rw [A1.2.1]; split <;> omega
  have c1 := E2 34 1 (by omega) (by omega) (by omega)
  have c3 := E2 34 3 (by omega) (by omega) (by omega)
  obtain ⟨x1, x2, x3, x4, x5, D1, D2, D3, D4, D5, D6⟩ := A2
  have y1 := E3 34 1 (by omega)
  have y3 := E3 34 3 (by omega)
  have DJ : CJu 167 1 h2 x2 := cju_pop D1 D2 (by omega)
  have d1 := DJ.1
  have d3 : x2 34 3 = u2 34 3 - 1 := by rw [DJ.2.1]; split <;> omega
  unfold qj_X13_workBoth_46
  refine pc_sv (r_lab (by omega)) ?_; intro u41 q41
  rw [q41]
  dsimp only
  have ML1 : MKx X PB WL L u1 (up_M m 160 88 (m 160 88 + 1)) := mk_lab M rfl
  generalize hm1 : up_M m 160 88 (m 160 88 + 1) = w1 at *
  have f1 : w1 160 88 = m 160 88 + 1 := by rw [← hm1, up_s]
  have F1 : ∀ cc x : Nat, ¬ (cc = 160 ∧ x = 88) → w1 cc x = m cc x := fun cc x z => by rw [← hm1, up_n z]
  refine pc_sv (r_lab (by omega)) ?_; intro u43 q43
  rw [q43]
  dsimp only
  have ML2 : MKx X PB WL L u1 (up_M w1 160 88 (w1 160 88 + 1)) := mk_lab ML1 rfl
  generalize hm2 : up_M w1 160 88 (w1 160 88 + 1) = w2 at *
  have f2 : w2 160 88 = m 160 88 + 2 := by rw [← hm2, up_s, f1]; omega
  have F2 : ∀ cc x : Nat, ¬ (cc = 160 ∧ x = 88) → w2 cc x = m cc x := fun cc x z => by rw [← hm2, up_n z]; exact F1 cc x z
  have f1' : w1 160 88 + 1 = m 160 88 + 2 := by omega
  rw [f1']
  obtain ⟨-, -, ⟨n1, n2, n3, n4⟩, -⟩ := mk_t ML2
  refine pc_sub (by omega) ?_; intro v45 e45
  refine pc_xl ?_; intro h46 e46
  have MH : MKx X PB WL L h1 w2 := mkx_c ML2 (fun cc x z1 z2 z3 => E1 cc x z3)
  have P82 : ∀ op : Int, op = (if k = 67 then 153 else 154) → Pc (qj_X13_workBoth_82 nn (qg_X13_work nn d) e l3 (m 160 88 + 1) (m 160 88 + 2) op h46) (fun w => MKx X PB WL L u w ∧ (m 160 88 ≤ w 160 88 ∧ w 160 88 + 4 * (t : Int) ≤ m 160 88 + 4 * (q : Int))) := fun op hop => by
    have inop : in_R op := by rw [hop]; unfold in_R; split <;> omega
    unfold qj_X13_workBoth_82
    have x68 : h46 160 68 = w2 160 68 := by rw [e46, up_n (by omega)]
    refine pc_sv (r_jump (by omega)) ?_; intro u26 B1
    have MJ : MKx X PB WL (L ++ [(w2 160 68, m 160 88 + 1)]) g1 u26 := mk_jump (m1 := h46) MH A1 (by omega) (by rw [e46, e45]) (by rw [hop] at B1; exact B1) (by rw [← hop]; exact inop) (by omega)
    have MJ2 : MKx X PB WL (L ++ [(w2 160 68, m 160 88 + 1)]) u18 u26 := mkx_c MJ (fun cc x z1 z2 z3 => E2 cc x (by omega) (by omega) z3)
    have B1f := B1.2.2.2.2.2.2
    have G26 : ∀ cc x : Nat, ¬ (cc = 160 ∧ (x = 68 ∨ x = 87 ∨ x = 88 ∨ x = 70)) → ¬ cc = 206 → ¬ (cc = 217 ∨ cc = 218) → u26 cc x = m cc x := fun cc x z1 z2 z3 => by rw [B1f cc x (by omega) (by omega) (by omega), e46, up_n (by omega)]; exact F2 cc x (by omega)
    have t88 : u26 160 88 = m 160 88 + 2 := by rw [B1f 160 88 (by omega) (by omega) (by omega), e46, up_n (by omega)]; exact f2
    refine pc_rA ?_; intro _ _ v28 e28
    rw [(mk_t MJ2).1 171 e.toNat (by omega)] at e28
    rw [e28]
    refine pc_sv (CR d PB WL _ u26 MJ2 (an_m AM (fun cc x z1 z2 => G26 cc x (by omega) (by omega) (by omega))) (by rw [G26 160 57 (by omega) (by omega) (by omega)]; exact b57) (by rw [t88]; omega)) ?_; intro u30 ⟨M30, lb1, lb2⟩
    have M31 : MKx X PB WL (L ++ [(w2 160 68, m 160 88 + 1)]) h2 u30 := mkx_c M30 (fun cc x z1 z2 z3 => E3 cc x z2)
    obtain ⟨-, -, ⟨p1, p2, p3, p4⟩, -⟩ := mk_t M31
    refine pc_sub (by omega) ?_; intro v32 e32
    refine pc_xl ?_; intro h33 e33
    have y68 : h33 160 68 = u30 160 68 := by rw [e33, up_n (by omega)]
    refine pc_sv (r_jump (by omega)) ?_; intro u35 B2
    have MJ3 : MKx X PB WL (L ++ [(w2 160 68, m 160 88 + 1)] ++ [(u30 160 68, m 160 88 + 2)]) x2 u35 := mk_jump (m1 := h33) M31 DJ (by omega) (by rw [e33, e32]) B2 (by unfold in_R; omega) (by omega)
    have o88 : u35 160 88 = u30 160 88 := by rw [B2.2.2.2.2.2.2 160 88 (by omega) (by omega) (by omega), e33, up_n (by omega)]
    refine pc_sv (mk_aim (A := L) (B := [(u30 160 68, m 160 88 + 2)]) (j := j) (f := m 160 88 + 1) MJ3 (by rw [List.append_assoc, hj, n1]; rfl) (mk_nL M (by omega)) (fun z => by
      rcases z with z | z
      · have z2 : m 160 88 + 2 = m 160 88 + 1 := z
        omega
      · exact z) D3 rfl (by omega) (by omega)) ?_; intro u38 ⟨M38, _, v38⟩
    obtain ⟨Fx3, U3⟩ := cah_fr MJ3.1.2.2.1.1.1 D3
    have x31 : x3 34 1 = x2 34 1 := U3 34 1 (by omega) (by omega) (by omega)
    have x33 : x3 34 3 = x2 34 3 := U3 34 3 (by omega) (by omega) (by omega)
    have M38' : MKx X PB WL (L ++ [(u30 160 68, m 160 88 + 2)]) x3 u38 := M38
    obtain ⟨-, -, ⟨r1, r2, r3, r4⟩, -⟩ := mk_t M38'
    have P136 : ∀ o2 : Int, o2 = (if k = 67 then 3 else 4) → Pc (qj_X13_workBoth_136 nn (qg_X13_work nn d) (m 160 88 + 2) o2 u38) (fun w => MKx X PB WL L u w ∧ (m 160 88 ≤ w 160 88 ∧ w 160 88 + 4 * (t : Int) ≤ m 160 88 + 4 * (q : Int))) := fun o2 ho2 => by
      unfold qj_X13_workBoth_136
      refine pc_sv (r_put (by omega)) ?_; intro u19 C1
      refine pc_sv r_push ?_; intro u21 C2
      have N1 : MKx X PB WL (L ++ [(u30 160 68, m 160 88 + 2)]) x4 u19 := mk_op M38' (by rw [← ho2] at D4; exact D4) C1 (fun _ => rfl) (by rw [ho2]; unfold in_R; split <;> omega)
      have N2 : MKx X PB WL (L ++ [(u30 160 68, m 160 88 + 2)]) x5 u21 := mk_push N1 D5 C2 ⟨rfl, .inr (.inl rfl), by decide⟩
      have x41 : x4 34 1 = x3 34 1 + 1 := D4.1
      have x43 : x4 34 3 = x3 34 3 := D4.2.2 34 3 (by omega) (by omega)
      have x51 : x5 34 1 = x4 34 1 := D5.2.2.2 34 1 (by omega) (by omega)
      have x53 : x5 34 3 = x4 34 3 + 1 := D5.1
      have w88 : u21 160 88 = u30 160 88 := by rw [C2.2.2.2.2 160 88 (by omega) (by omega), C1.2.2 160 88 (by omega) (by omega), v38]; exact o88
      refine pc_sv (mk_aim (A := L) (B := []) (j := h2 34 1) (f := m 160 88 + 2) N2 (by rw [p1]) (mk_nL M (by omega)) (fun z => z) D6 rfl (by omega) (by omega)) ?_; intro u24 ⟨M24, _, v24⟩
      rw [List.append_nil] at M24
      exact pc_ret ⟨mkx_c M24 (fun cc x z1 z2 z3 => E4 cc x z2), by rw [v24, w88]; omega⟩
    rcases k2 with ⟨k3, k4⟩ | ⟨k3, k4⟩
    · exact pc_if (fun z => absurd z k4) (fun _ => P136 3 (by rw [if_pos k3]))
    · exact pc_if (fun _ => P136 4 (by rw [if_neg (by omega)])) (fun z => absurd k4 z)
  rcases k2 with ⟨k3, k4⟩ | ⟨k3, k4⟩
  · exact pc_if (fun z => absurd z k4) (fun _ => P82 153 (by rw [if_pos k3]))
  · exact pc_if (fun _ => P82 154 (by rw [if_neg (by omega)])) (fun z => absurd k4 z)
end
end
