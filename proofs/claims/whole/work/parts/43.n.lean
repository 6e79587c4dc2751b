/- PARSE: variable, plain -/
section
variable {nn : Nat} {K P : Nat → Int} {c p : Nat} {h g r w u v : ms_M}
/- TYPE NAME = E ; -/
theorem js_var (BK : TBn K c) {rc : tq_X8_readBlock} {rd : tq_X13_block} {a : Int} (ha : 0 ≤ a ∧ a < 40) (Gc : FScG_X8_readBlock rc) (Gr : FSrG_X13_block rd) (kp : TYp K (p : Int)) (J : JPp K P c p h r) (hr : 0 ≤ r 160 22) : Pc (mx_sv (qf_X8_readVariable nn (a + 1) h) fun u16 => qj_X8_readStatement_157 nn rc u16) (fun u => Pc (mx_sv (qf_X13_type nn r) fun u196 => mx_sv (qf_X13_add nn 2 0 (r 160 23) u196) fun u198 => xl (oq_mul 4 (u198.2 160 46)) fun v201 => if (u198.2 160 47) = 0 then (qj_X13_statement_78 nn rd a u198.1 0 v201 u198.1 u198.2) else (qj_X13_statement_78 nn rd a u198.1 2 v201 u198.1 u198.2)) (fun v => JS a K P c p 6 r u v)) := by
  have n3 := BK.2.1
  have J0 := J
  have g2 : r 160 23 = (p : Int) := J.2.2.1.2.1
  rw [g2]
  refine p2_sa ?_
  unfold qf_X8_readVariable
  -- behind a FAULT: the class
  have FC : ∀ a1 : ms_M, ¬ a1 2 11 = 0 → Pc (qj_X8_readStatement_157 nn rc a1) (fun U => FSc a1 U) := fun a1 S => fs_qj_X8_readStatement_157 Gc S
  refine p2_sv (j_type BK J0) ?_; intro u2 u196 q196
  rcases q196 with S | ⟨t, bs, rw', ⟨Jt, pt⟩, TK, ⟨b1, b2, b3⟩, n196, F196⟩
  · refine pj_sf (o := fun a => a) (q := fun b => b.2) S ?_ ?_ (fun a b s => pc_imp (FC a s.1) (fun U z => .inl (sf_k s z ft_r)))
    · have S1 : ¬ u2 2 11 = 0 := S.1
      have F : FSc u2 u2 := fs_r
      refine pc_sv (fs_qf_X8_need (fs_n S1 F)) ?_; intro u4 Qu4
      have Fu4 : FSc u2 u4 := fs_t F Qu4
      refine pc_sv (fs_qf_X8_need (fs_n S1 Fu4)) ?_; intro u6 Qu6
      have Fu6 : FSc u2 u6 := fs_t Fu4 Qu6
      refine pc_sv (fs_qf_X8_readValue (fs_n S1 Fu6)) ?_; intro u8 Qu8
      have Fu8 : FSc u2 u8 := fs_t Fu6 Qu8
      exact pc_ret Fu8
    · have S1 : ¬ u196 160 9 = 0 := sf_r S
      have F : FSr u196 u196 := ft_r
      refine pc_sv (ft_qf_X13_add (ft_n S1 F)) ?_; intro u198 Qu198
      have Fu198 : FSr u196 u198.2 := ft_t F Qu198
      refine pc_xl ?_; intro v201 _
      refine pc_if (fun _ => ?_) (fun _ => ?_)
      · exact pc_imp (ft_qj_X13_statement_78 Gr (ft_n S1 Fu198)) (fun _ q => ft_t Fu198 q)
      · exact pc_imp (ft_qj_X13_statement_78 Gr (ft_n S1 Fu198)) (fun _ q => ft_t Fu198 q)
  · have N196 : NDf r u196 := ⟨by omega, fun c x c1 c2 c3 => F196 c x (by omega)⟩
    refine pc_fl ?_
    refine pc_sv r_add ?_; intro u198 q198
    obtain ⟨⟨x1, x2, x3⟩, ND, FR⟩ := q198
    rw [n196] at x1 x2 x3 ND FR
    have c46 : u198.2 160 46 = (p : Int) := by rw [FR 160 46 (by omega) (by omega)]; exact b2
    have c47 : u198.2 160 47 = rw' := by rw [FR 160 47 (by omega) (by omega)]; exact b3
    have c45 : u198.2 160 45 = bs := by rw [FR 160 45 (by omega) (by omega)]; exact b1
    have J198 : JPp K P c t u2 u198.2 := jp_r Jt (fun c k z => FR c k (by omega) (by omega))
    have N198 : NDf r u198.2 := ⟨by omega, fun c x c1 c2 c3 => by rw [FR c x (by omega) (by omega)]; exact N196.2 c x c1 c2 c3⟩
    have rw01 : rw' = 0 ∨ rw' = 1 := by unfold TYk at TK; omega
    have e4p : oq_mul 4 (p : Int) = 4 * (p : Int) := by have := J.2.2.1.2.2; exact oq_mul_eq (by omega) (by omega) (by omega)
    rw [c46, c47, e4p]
    refine pc_xl ?_; intro v201 e201
    -- the rest, with what is added for [ ]
    have GO : ∀ s0 : Int, s0 = 2 * rw' → Pc (qj_X13_statement_78 nn rd a u198.1 s0 v201 u198.1 u198.2) (fun V => Pc (mx_sv (qf_X8_need nn 2 u2) fun u4 => mx_sv (qf_X8_need nn 51 u4) fun u6 => mx_sv (qf_X8_readValue nn (a + 1) u6) fun u8 => some u8) (fun aa => Pc (qj_X8_readStatement_157 nn rc aa) (fun U => JS a K P c p 6 r U V))) := fun s0 hs0 => by
      have pc3 := J.2.2.1.2.2
      unfold qj_X13_statement_78
      refine pc_add (by omega) ?_; intro v49 e49
      refine pc_wA ?_; intro i1 i2 h50 e50
      rw [x2] at e50
      have d45 : h50 160 45 = bs := by rw [e50, up_n (by omega)]; exact c45
      rw [d45]
      refine pc_wA ?_; intro i3 i4 h53 e53
      rw [x2] at e53
      have ND53 := nd_5 (z := bs) (nd_2 (z := v49) ND)
      rw [← e50, ← e53] at ND53
      have J53 : JPp K P c t u2 h53 := by rw [e53, e50]; exact jp_w (jp_w J198 (by decide)) (by decide)
      have N53 : NDf r h53 := by rw [e53, e50]; exact ndf_w (ndf_w N198 (by decide) (by omega)) (by decide) (by omega)
      have n53 : h53 160 22 = r 160 22 + 1 := by rw [e53, up_n (by omega), e50, up_n (by omega)]; exact x3
      refine pc_fl ?_
      refine p2_sv (j_name BK J53) ?_; intro u4 u56 q56
      rcases q56 with ⟨k2, m56, J56⟩ | S
      · have w56 : u56.1 = (t : Int) := by rw [m56]
        have mm56 : u56.2 = up_M h53 160 23 ((t + 1 : Nat) : Int) := by rw [m56]
        refine pc_fl ?_
        refine pc_wA ?_; intro i5 i6 h57 e57
        rw [x2] at e57
        have c57 : h57 160 23 = ((t + 1 : Nat) : Int) := by rw [e57, up_n (by omega)]; exact J56.2.2.1.2.1
        rw [c57]
        refine pc_wA ?_; intro i7 i8 h60 e60
        rw [x2] at e60
        have ND60 := nd_6 (z := ((t + 1 : Nat) : Int)) (nd_8 (z := u56.1) (nd_o (z := ((t + 1 : Nat) : Int)) (m := 160) (j := 23) ND53 (.inr (by decide))))
        rw [← mm56, ← e57, ← e60] at ND60
        have J60 : JPp K P c (t + 1) u4 h60 := by rw [e60, e57]; exact jp_w (jp_w J56 (by decide)) (by decide)
        have N60 : NDf r h60 := by rw [e60, e57, mm56]; exact ndf_w (ndf_w (ndf_c N53 (by decide)) (by decide) (by omega)) (by decide) (by omega)
        have n60 : h60 160 22 = r 160 22 + 1 := by rw [e60, up_n (by omega), e57, up_n (by omega), mm56, up_n (by omega)]; exact n53
        refine pc_fl ?_
        refine p2_sv (j_need BK J60 (k := 51) (by decide) (by decide)) ?_; intro u6 u62 q62
        rcases q62 with ⟨k51, m62, J62⟩ | S
        · have ND62 := nd_o (z := ((t + 1 + 1 : Nat) : Int)) (m := 160) (j := 23) ND60 (.inr (by decide))
          rw [← m62] at ND62
          have N62 : NDf r u62 := by rw [m62]; exact ndf_c N60 (by decide)
          have n62 : u62 160 22 = r 160 22 + 1 := by rw [m62, up_n (by omega)]; exact n60
          refine pc_fl ?_
          refine pc_add (by omega) ?_; intro v64 e64
          rw [e64, x2]
          refine pc_fl ?_
          refine j_v BK (by omega) J62 (by omega) (.inl rfl) (fun u v S => pc_ret (pc_fl (j_semiS BK Gc S))) (fun u v t2 ix e Jt2 qt Ct on R => ?_)
          refine pc_ret (pc_fl ?_)
          refine j_semi BK Jt2 (by omega) (fun k46 w ew => ?_)
          have NDv := nd_rw ND62 (by omega) (by omega) R on
          have NDw := nd_o (z := ((t2 + 1 : Nat) : Int)) (m := 160) (j := 23) NDv (.inr (by decide))
          rw [← ew] at NDw
          have R1 := R.1
          have nw : w 160 22 = v 160 22 := by rw [ew, up_n (by omega)]
          have Cw : CHl (a + 1) K w 0 ix 0 (r 160 22 + 1) (w 160 22) ((t + 1 + 1 : Nat) : Int) (t2 : Int) e := by rw [nw, ew, ← n62]; exact ch_w Ct (.inr (by decide))
          have o := NDw.2.1.1
          exact ⟨lk_tv (ix := ix) (t := (t : Int)) (u := (t2 : Int)) (bs := bs) (rw := rw') ⟨hr, Int.le_refl _, by omega⟩ ⟨NDw.1.1, by rw [NDw.1.2.1]; exact w56, NDw.1.2.2, by rw [NDw.2.1.2.2.1]; omega, NDw.2.2.1, by rw [NDw.2.2.2.1]; omega⟩ ⟨TK, kp, by rw [Int.toNat_natCast]; exact k2, by rw [show ((t : Int) + 1).toNat = t + 1 by omega]; exact k51⟩ (by rw [o, show (t : Int) + 2 = ((t + 1 + 1 : Nat) : Int) by omega]; exact Cw.1) (by rw [o, show (t : Int) + 2 = ((t + 1 + 1 : Nat) : Int) by omega]; exact ⟨Cw.2.1, Cw.2.2.1⟩) ⟨by rw [Int.toNat_natCast]; exact k46, by omega⟩, NDw.2.1.2.2.2, by rw [ew]; exact ndf_c (ndf_x N62 R (by omega)) (by decide)⟩
        · refine pj_sf (o := fun a => a) (q := fun b => b.2) S ?_ ?_ (fun a b s => pc_imp (FC a s.1) (fun U z => .inl (sf_k s z ft_r)))
          · have S1 : ¬ u6 2 11 = 0 := S.1
            have F : FSc u6 u6 := fs_r
            refine pc_sv (fs_qf_X8_readValue (fs_n S1 F)) ?_; intro u8 Qu8
            have Fu8 : FSc u6 u8 := fs_t F Qu8
            exact pc_ret Fu8
          · have S1 : ¬ u62 160 9 = 0 := sf_r S
            have F : FSr u62 u62 := ft_r
            refine pc_xl ?_; intro v64 _
            refine pc_sv (ft_qf_X13_expression (ft_n S1 F)) ?_; intro u66 Qu66
            have Fu66 : FSr u62 u66.2 := ft_t F Qu66
            refine pc_wA ?_; intro _ _ h67 Eh67
            have Fh67 : FSr u62 h67 := by rw [Eh67]; exact ft_u Fu66 (by omega)
            refine pc_sv (ft_qf_X13_sign_ (ft_n S1 Fh67)) ?_; intro u69 Qu69
            have Fu69 : FSr u62 u69 := ft_t Fh67 Qu69
            exact pc_ret Fu69
      · refine pj_sf (o := fun a => a) (q := fun b => b.2) S ?_ ?_ (fun a b s => pc_imp (FC a s.1) (fun U z => .inl (sf_k s z ft_r)))
        · have S1 : ¬ u4 2 11 = 0 := S.1
          have F : FSc u4 u4 := fs_r
          refine pc_sv (fs_qf_X8_need (fs_n S1 F)) ?_; intro u6 Qu6
          have Fu6 : FSc u4 u6 := fs_t F Qu6
          refine pc_sv (fs_qf_X8_readValue (fs_n S1 Fu6)) ?_; intro u8 Qu8
          have Fu8 : FSc u4 u8 := fs_t Fu6 Qu8
          exact pc_ret Fu8
        · have S1 : ¬ u56.2 160 9 = 0 := sf_r S
          have F : FSr u56.2 u56.2 := ft_r
          refine pc_wA ?_; intro _ _ h57 Eh57
          have Fh57 : FSr u56.2 h57 := by rw [Eh57]; exact ft_u F (by omega)
          refine pc_wA ?_; intro _ _ h60 Eh60
          have Fh60 : FSr u56.2 h60 := by rw [Eh60]; exact ft_u Fh57 (by omega)
          refine pc_sv (ft_qf_X13_sign_ (ft_n S1 Fh60)) ?_; intro u62 Qu62
          have Fu62 : FSr u56.2 u62 := ft_t Fh60 Qu62
          refine pc_xl ?_; intro v64 _
          refine pc_sv (ft_qf_X13_expression (ft_n S1 Fu62)) ?_; intro u66 Qu66
          have Fu66 : FSr u56.2 u66.2 := ft_t Fu62 Qu66
          refine pc_wA ?_; intro _ _ h67 Eh67
          have Fh67 : FSr u56.2 h67 := by rw [Eh67]; exact ft_u Fu66 (by omega)
          refine pc_sv (ft_qf_X13_sign_ (ft_n S1 Fh67)) ?_; intro u69 Qu69
          have Fu69 : FSr u56.2 u69 := ft_t Fh67 Qu69
          exact pc_ret Fu69
    refine pc_if (fun z => ?_) (fun z => ?_)
    · exact GO 0 (by omega)
    · exact GO 2 (by omega)
/- E ; or E = E ; -/
theorem js_plain (BK : TBn K c) {rc : tq_X8_readBlock} {a : Int} (ha : 0 ≤ a ∧ a < 40) (Gc : FScG_X8_readBlock rc) (kp : PLp K (p : Int)) (J : JPp K P c p h r) (hr : 0 ≤ r 160 22) : Pc (mx_sv (mx_sv (qf_X8_readValue nn (a + 1) h) fun u9 => mx_sv (qf_X8_accept nn 51 u9) fun u11 => if u11.1 = 0 then (some u11.2) else (mx_sv (qf_X8_readValue nn (a + 1) u11.2) fun u13 => some u13)) fun u13 => qj_X8_readStatement_157 nn rc u13) (fun u => Pc (qf_X13_plain nn a r) (fun v => JS a K P c p 6 r u v)) := by
  have n3 := BK.2.1
  have J0 := J
  obtain ⟨b, d, ⟨g1, g2, g3⟩, g4, g5⟩ := J
  unfold qf_X13_plain
  rw [g2]
  refine pc_fl ?_
  refine pc_sv r_add ?_; intro u6 q6
  obtain ⟨⟨x1, x2, x3⟩, ND, FR⟩ := q6
  have J6 : JPp K P c p h u6.2 := jp_r J0 (fun c k z => FR c k (by omega) (by omega))
  have N6 : NDf r u6.2 := ⟨by rw [x3]; omega, fun c x c1 c2 c3 => FR c x (by omega) (by omega)⟩
  refine pc_add (by omega) ?_; intro v8 e8
  rw [e8, x2]
  refine pc_fl ?_
  refine p2_sa ?_
  unfold qj_X13_plain_89
  refine j_v BK (by omega) J6 (by omega) (.inl rfl) (fun u v S => ?_) (fun u v t ix e Jt qt Ct on R => ?_)
  · refine pc_se ?_; intro u11 e11
    have F11 := fs_qf_X8_accept S.1 u11 e11
    refine pc_fl ?_
    refine pc_if (fun _ => ?_) (fun z => absurd (Decidable.not_not.1 z) (sf_r S))
    refine pc_fl ?_
    have S2 := sf_k S F11 ft_r
    refine pc_if (fun _ => pc_ret (pc_fl (j_semiS BK Gc S2))) (fun _ => ?_)
    refine pc_se ?_; intro u13 e13
    have F13 := fs_qf_X8_readValue S2.1 u13 e13
    exact pc_ret (pc_fl (j_semiS BK Gc (sf_k S2 F13 ft_r)))
  · have Jt' := Jt
    obtain ⟨bt, dt, ⟨l1, l2, l3⟩, l4, l5⟩ := Jt'
    have NDv := nd_rw ND (by omega) (by omega) R on
    have Nv : NDf r v := ndf_x N6 R (by omega)
    have R1 := R.1
    rw [x3] at Ct
    refine pc_sv (c_acc BK bt l3 l1 l4) ?_; intro u11 q11
    refine pc_fl ?_
    refine pc_if (fun z => absurd l5 z) (fun _ => ?_)
    rw [l2]
    refine pc_sv (r_sgn BK dt rfl (by omega) (k := 51) (by decide) (by decide)) ?_; intro u15 q15
    rcases q11 with ⟨k51, m11⟩ | ⟨k51, m11⟩
    · refine pc_if (fun z => absurd z (by omega)) (fun _ => ?_)
      refine pc_wA ?_; intro i1 i2 h17 e17
      have c17 : h17 160 23 = (t : Int) := by rw [e17, up_n (by omega)]; exact l2
      rw [c17]
      refine pc_wA ?_; intro i3 i4 h20 e20
      have c20 : h20 160 23 = (t : Int) := by rw [e20, up_n (by omega)]; exact c17
      rw [c20]
      refine pc_add (by omega) ?_; intro v22 e22
      refine pc_xl ?_; intro h23 e23
      rw [show v22 = ((t + 1 : Nat) : Int) by omega] at e23
      refine pc_add (by omega) ?_; intro v25 e25
      rw [e25]
      have ND23 := nd_o (z := ((t + 1 : Nat) : Int)) (m := 160) (j := 23) (nd_8 (z := (t : Int)) (nd_7 (z := 12) NDv)) (.inr (by decide))
      rw [← e17, ← e20, ← e23] at ND23
      have N23 : NDf r h23 := by rw [e23, e20, e17]; exact ndf_c (ndf_w (ndf_w Nv (by decide) (by omega)) (by decide) (by omega)) (by decide)
      have n23 : h23 160 22 = v 160 22 := by rw [e23, up_n (by omega), e20, up_n (by omega), e17, up_n (by omega)]
      have J20 : JPp K P c t u h20 := by rw [e20, e17]; exact jp_w (jp_w Jt (by decide)) (by decide)
      have J23 : JPp K P c (t + 1) (up_M u 2 10 ((t + 1 : Nat) : Int)) h23 := by rw [e23]; exact jp_up BK J20 (jp_lt BK l3 (by omega))
      have C23 : CHl (a + 1) K h23 0 ix 0 (r 160 22 + 1) (v 160 22) (p : Int) (t : Int) e := by
        rw [e23, e20, e17]; exact ch_w (ch_w (ch_w Ct (.inl (.inl (by omega)))) (.inl (.inl (by omega)))) (.inr (by decide))
      refine pc_fl ?_
      rw [m11]
      dsimp only
      refine pc_if (fun z => absurd z (by decide)) (fun _ => ?_)
      refine j_v BK (by omega) J23 (by omega) (.inr rfl) (fun u v S => pc_ret (pc_fl (j_semiS BK Gc S))) (fun u2 v2 t2 iy e2 Jt2 qt2 Ct2 on2 R2 => ?_)
      refine pc_ret (pc_fl ?_)
      refine j_semi BK Jt2 (by omega) (fun k46 w ew => ?_)
      have ND2 := nd_rw1 ND23 (by omega) (by omega) R2 on2
      have NDw := nd_o (z := ((t2 + 1 : Nat) : Int)) (m := 160) (j := 23) ND2 (.inr (by decide))
      rw [← ew] at NDw
      have R3 := R2.1
      have nw : w 160 22 = v2 160 22 := by rw [ew, up_n (by omega)]
      have C2w : CHl (a + 1) K w 0 iy 0 (v 160 22) (w 160 22) ((t + 1 : Nat) : Int) (t2 : Int) e2 := by rw [nw, ew, ← n23]; exact ch_w Ct2 (.inr (by decide))
      have C1w : CHl (a + 1) K w 0 ix 0 (r 160 22 + 1) (v 160 22) (p : Int) (t : Int) e := by
        rw [ew]
        refine ch_w ?_ (.inr (by decide))
        obtain ⟨c1, c2, c3, c4, c5, c6⟩ := C23
        have old : ∀ c x : Nat, 167 ≤ c → c ≤ 177 → r 160 22 + 1 ≤ (x : Int) → (x : Int) < v 160 22 → v2 c x = h23 c x := fun c x y1 y2 y3 y4 => R2.2 c x y1 y2 (by omega) (by omega)
        exact ⟨lk_map c1 (fun c x y1 y2 _ y3 y4 _ _ => old c x y1 y2 y3 y4), by rw [old 169 _ (by decide) (by decide) (by omega) (by omega)]; exact c2, by rw [old 177 _ (by decide) (by decide) (by omega) (by omega)]; exact c3, c4, c5, c6⟩
      have o0 := NDw.2.1.1
      have o1 := NDw.2.1.2.1
      exact ⟨lk_te (ix := ix) (iy := iy) (t := (t : Int)) (u := (t2 : Int)) (y := v 160 22) ⟨hr, Int.le_refl _, by omega⟩ ⟨by omega, by omega⟩ ⟨NDw.1.1, NDw.1.2.2, NDw.1.2.1⟩ kp (by rw [o0]; exact C1w.1) (by rw [o0]; exact ⟨C1w.2.1, C1w.2.2.1⟩) (by rw [Int.toNat_natCast]; exact k51) (by rw [o1, show (t : Int) + 1 = ((t + 1 : Nat) : Int) by omega]; exact C2w.1) (by rw [o1, show (t : Int) + 1 = ((t + 1 : Nat) : Int) by omega]; exact ⟨C2w.2.1, C2w.2.2.1⟩) ⟨by rw [Int.toNat_natCast]; exact k46, by omega⟩, NDw.2.1.2.2.2, by rw [ew]; exact ndf_c (ndf_x N23 R2 (by omega)) (by decide)⟩
    · refine pc_if (fun _ => ?_) (fun z => absurd (by omega) z)
      refine pc_fl ?_
      rw [m11]
      dsimp only
      refine pc_if (fun _ => ?_) (fun z => absurd rfl z)
      refine pc_ret (pc_fl ?_)
      refine j_semi BK Jt (by omega) (fun k46 w ew => ?_)
      have NDw := nd_o (z := ((t + 1 : Nat) : Int)) (m := 160) (j := 23) NDv (.inr (by decide))
      rw [← ew] at NDw
      have nw : w 160 22 = v 160 22 := by rw [ew, up_n (by omega)]
      have Cw : CHl (a + 1) K w 0 ix 0 (r 160 22 + 1) (w 160 22) (p : Int) (t : Int) e := by rw [nw, ew]; exact ch_w Ct (.inr (by decide))
      have o := NDw.2.1.1
      exact ⟨lk_ta (ix := ix) (t := (t : Int)) ⟨hr, Int.le_refl _, by omega⟩ ⟨NDw.1.1, NDw.1.2.2⟩ kp (by rw [o]; exact Cw.1) (by rw [o]; exact ⟨Cw.2.1, Cw.2.2.1⟩) ⟨by rw [Int.toNat_natCast]; exact k46, by omega⟩, NDw.2.1.2.2.2, by rw [ew]; exact ndf_c Nv (by decide)⟩
end
