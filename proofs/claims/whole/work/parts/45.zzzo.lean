/- S of both sides: an E alone -/
section
variable {nn : Nat} {X : BCx} {dp i a b a1 b1 a2 b2 e s bb lb lh d o en k ix : Int} {p q t p2 : Nat} {h g u r w m z h13 g1 g2 m1 : ms_M} {v : Int × ms_M} {PB : Nat → Prop} {WL : Int → Int → Prop} {L : List (Int × Int)}
/-- an E that stands alone: no void call is told where it is not in brackets -/
theorem se_a (Y : CXs X) (H : E0 nn X dp i a b p q e) (kq : bK X q = 46) (Q : EPr X dp p h r) (r57 : r 160 57 = 0) (nb : 0 ≤ a ∧ a ≤ b ∧ b ≤ 8999) (hd : dp ≤ 42) (h18 : h 49 18 = (p : Int)) : Pc (qf_X10_readWhole nn dp h) (fun u => (i = 0 → Pc (qf_X13_worked nn e r) (fun v => SFj u v.2 ∨ (EOz nn X i a b p q e h r u v ∧ SEq h r u v.2))) ∧ (¬ i = 0 → Pc (qf_X13_given nn e r) (fun v => SFj u v.2 ∨ (EOz nn X i a b p q e h r u v ∧ SEq h r u v.2)))) := by
  have ek : ENDk (bK X q) := .inr (.inr (.inl kq))
  have n8 := Y.2.2.1
  by_cases i0 : i = 0
  · refine pc_imp (se_w Y H ek Q r57 nb hd) (fun u Hu => ⟨fun _ => pc_imp Hu (fun v hv => ?_), fun y => absurd i0 y⟩)
    rcases hv with (S | S) | K
    · exact .inl S
    · exact absurd h18 (S.1.2.2.2.2 i0 kq)
    · exact .inr K
  · have T8 : ∀ cc y : Nat, 163 ≤ cc ∧ cc ≤ 173 → r cc y = bT X cc y := fun cc y z => Q.1.2.2.2.2.2.1 cc y (by omega)
    have TQ : TBq (bK X) (bP X) (bc X) r := Q.1.1.1.2.2.1
    unfold qf_X10_readWhole
    refine pc_sv (pc_and (H ek 420 1599 h r Q (by omega)) (se_by Y Q hd)) (fun u Hu => pc_ret ⟨fun y => absurd y i0, fun _ => ?_⟩)
    refine pc_imp (P := fun v => (SFj u v.2 ∨ EOz nn X i a b p q e h r u v) ∧ v.2 160 57 = r 160 57) ?_ (fun v y => ?_)
    · refine pc_and ?_ (pc_imp ((rkg_condition nn 1600).2.1 (a1 := e) (h := r) (by omega)) (fun v y => y.1))
      show Pc (qo_X13_given nn (qg_X13_condition nn 1599) e r) _
      unfold qo_X13_given
      refine pc_sv Hu.1 ?_; intro u2 hv
      rcases hv with (S | S) | K
      · refine pc_if (fun _ => pc_ret (.inl S)) (fun _ => ?_)
        refine pc_rA ?_; intro _ _ v4 e4
        refine pc_sv (ft_qf_X13_wrong (sf_r S)) ?_; intro u6 F
        exact pc_ret (.inl (sf_k S fs_r F))
      · obtain ⟨⟨s1, s2, s3, s4⟩, ⟨s5, s6, s7⟩, s8⟩ := S
        refine pc_if (fun z => absurd s5 z) (fun _ => ?_)
        refine pc_rA ?_; intro _ _ v4 e4
        rw [s8.1 168 _ (by omega) (by omega) (by omega), T8 168 _ (by omega)] at e4
        have TQ2 : TBq (bK X) (bP X) (bc X) u2.2 := tbq_f TQ (fun cc y z => s8.1 cc y (by omega) (by omega) (by omega))
        refine pc_sv (r_wrong TQ2 (p := (bT X 168 e.toNat).toNat) (by omega) s6 (k := 6) (x := v4) (by omega)) ?_; intro u6 ⟨w1, w2⟩
        exact pc_ret (.inl ⟨by omega, by show u6 160 9 = _; omega, by show u6 160 10 = _; omega⟩)
      · have K0 := K
        obtain ⟨K, K15, KF⟩ := K
        have n303 : ¬ u 49 12 = 303 := fun z => by
          rcases K.2.2.2.2 with F | F | F | F
          · rcases F.1 with ⟨-, y, -⟩ | ⟨-, -, y⟩
            · exact i0 y
            · exact y z
          · exact F.2.1.2.2.2.2 z
          · exact F.1.2.2.2 z
          · exact F.1.2.2.2 z
        have n3 : ¬ u2.1 = 3 := by
          rw [K.2.1.1]
          exact fun z => n303 ((ty_3 (X := X) n8 K.2.1.2.1).mp z)
        exact pc_if (fun _ => pc_ret (.inr K0)) (fun z => absurd n3 z)
    · rcases y.1 with S | K
      · exact .inl S
      · exact .inr ⟨K, Hu.2 K.1.2.2.2.1.2.1.1, y.2⟩
/-- an E alone that is right, all but how the class closes it -/
theorem sl_al (Y : CXs X) (Wb : BRw X) (Q : SPq X d p bb h r) (ne : 0 ≤ a ∧ a ≤ s ∧ s < b) (nb : b ≤ 8999) (nd : bT X 167 s.toNat = 11) (ee : e = bT X 170 s.toNat) (r1 : s + 1 ≤ e ∧ e < b) (e13 : h13 = up_M h 49 18 (p : Int)) (K : EOz nn X i (s + 1) b p t e h13 r u v) (FX : FM01 nn X i (s + 1) b p t e h13 u v.2) (kt : bK X t = 46) (SE : SEq h13 r u v.2) (pt : p < t ∧ t + 1 < bc X) (ez2 : z 2 10 = ((t + 1 : Nat) : Int)) (Zf : ∀ cc x : Nat, ¬ ((cc = 2 ∧ x = 10) ∨ (cc = 34 ∧ (x = 1 ∨ x = 3)) ∨ (cc = 35 ∧ x = (u 34 1).toNat)) → z cc x = u cc x) (z1 : u 34 1 ≤ z 34 1 ∧ z 34 1 ≤ u 34 1 + 1) (z3 : z 34 3 = 0) (ev : m1 = up_M v.2 174 s.toNat v.1) (MP : ∀ (PB : Nat → Prop) (WL : Int → Int → Prop) (L : List (Int × Int)) (w : ms_M), MKx X PB WL L u w → Pc (if v.1 = 3 then (some (1, w)) else (mx_sv (qf_X13_put nn 87 w) fun u140 => xl (oq_sub (u140 160 70) 1) fun v142 => xl (up_M u140 160 70 v142) fun h143 => some ((1 : Int), h143))) (fun w2 => w2.1 = 1 ∧ MKx X PB WL L z w2.2 ∧ ∀ cc x : Nat, ¬ (cc = 160 ∧ (x = 68 ∨ x = 70)) → ¬ cc = 206 → w2.2 cc x = w cc x)) : SOk nn X s a b p (t + 1) bb h r (1, z) (1, m1) := by
  have Q0 := Q
  obtain ⟨⟨B, ⟨q1, q2, q3, q4⟩, ⟨f1, f2, f3⟩, o1⟩, ⟨h3, h10, r57, h7⟩, ⟨LP, l54, br⟩, -⟩ := Q0
  obtain ⟨⟨x1, x2, x3, x4, x5⟩, ⟨x6, x7, x8⟩, ⟨x9, x10, x11⟩, ⟨x12, x13, x14⟩, -⟩ := K.1
  obtain ⟨-, y2⟩ := FX.2.2 (by omega)
  have E13 : ∀ cc x : Nat, ¬ (cc = 49 ∧ x = 18) → h13 cc x = h cc x := fun cc x q => by rw [e13, up_n q]
  have e1 := E13 34 1 (by omega)
  have e3 := E13 34 3 (by omega)
  have e7 := E13 34 7 (by omega)
  have c3 := Y.1.2.1
  have u18 : u 49 18 = (p : Int) := by rw [x9 49 18 (by omega) (by omega) (by omega) (by omega) (by omega) (by omega) (by omega) (by omega), e13, up_s]
  have B13 : BX X h13 r := bx_k B (fun cc x z => E13 cc x (by omega)) (fun _ _ _ => rfl)
  have Bu : BX X u v.2 := bx_e B13 x9 x10
  have C13 : CFs h h13 := cfs_o (fun cc x q => E13 cc x (by omega)) (by omega)
  have Cz : CFs h z := cfs_t (cfs_t C13 (cfs_e x9 SE.1.1 SE.1.2)) (cfs_o (fun cc x q => Zf cc x (by omega)) z1.1)
  have R1 : RFe a b r m1 := ⟨fun cc y a1 a2 a3 => by rw [ev, up_n (by omega)]; exact x10.1 cc y a1 a2 a3, fun cc y a1 a2 a3 => by rw [ev, up_n (by omega)]; exact x10.2 cc y a1 a2 (by omega)⟩
  have EV : ∀ cc x : Nat, ¬ (cc = 174 ∧ x = s.toNat) → m1 cc x = v.2 cc x := fun cc x q => by rw [ev, up_n q]
  have Bz : BX X z m1 := bx_k Bu (fun cc x q => Zf cc x (by omega)) (fun cc x q => EV cc x (by omega))
  have u10 : u 49 10 = 0 := by rw [x11.1, E13 49 10 (by omega)]; exact h10
  have z12 : z 33 12 = h 33 12 := by rw [Zf 33 12 (by omega), x9 33 12 (by omega) (by omega) (by omega) (by omega) (by omega) (by omega) (by omega) (by omega)]; exact E13 33 12 (by omega)
  refine ⟨⟨rfl, .inr rfl⟩, sk_leaf Q Wb ⟨ez2, by omega, by omega, by show z 2 11 = 0; rw [Zf 2 11 (by omega)]; exact x4, by show m1 160 9 = 0; rw [EV 160 9 (by omega)]; exact x5⟩ Bz Cz (rfs_e R1 (by show m1 160 57 = _; rw [EV 160 57 (by omega)]; exact SE.2) ⟨Int.le_refl _, Int.le_refl _⟩) z12 ?_ (R1.1 198 _ (by omega) (by omega) (by omega)) (frc_k x12 (fun cc x q => Zf cc x (by omega))) (by show z 34 1 + _ ≤ _; omega) z3 (by show z 49 10 = 0; rw [Zf 49 10 (by omega)]; exact u10) (by show z 49 18 ≤ _; rw [Zf 49 18 (by omega)]; omega), ?_⟩
  · show z 34 7 = _
    rw [Zf 34 7 (by omega), x9 34 7 (by omega) (by omega) (by omega) (by omega) (by omega) (by omega) (by omega) (by omega)]; exact e7
  · intro d2 PB WL L lb lh m I
    obtain ⟨⟨M, AM⟩, ⟨m57, m88, m54, m51⟩, -, WN, CO⟩ := I
    obtain ⟨MT, MTB, -⟩ := mk_t M
    cases d2 with
    | zero => exact fun _ z => nomatch z
    | succ d2 =>
      refine sjm_11 ((MT 167 _ (by omega)).trans nd) ?_
      refine pc_rA ?_; intro _ _ v132 e132
      rw [MT 170 _ (by omega), ← ee] at e132
      rw [e132]
      refine pc_sv (se_m (a := s + 1) (b := b) y2 (mkx_c M (fun cc x q1 q2 q3 => E13 cc x (by omega))) (an_s AM ⟨by omega, Int.le_refl _⟩ (fun cc x _ _ q1 _ => EV cc x (by omega))) m57 (by omega) (by omega)) ?_; intro w ⟨⟨Mw, lw⟩, Fw, Ew⟩
      refine pc_rA ?_; intro _ _ v137 e137
      rw [Ew 170 _ (by omega), MT 170 _ (by omega), ← ee] at e137
      rw [e137]
      refine pc_rA ?_; intro _ _ v138 e138
      have am : m 174 e.toNat = m1 174 e.toNat := AM 174 e.toNat (by omega) (by omega) (by omega) (by omega)
      rw [Ew 174 _ (by omega), am, EV 174 _ (by omega), x8] at e138
      rw [e138]
      refine pc_imp (MP PB WL L w Mw) (fun w2 ⟨en2, M2, E2⟩ => ?_)
      have l88 := E2 160 88 (by omega) (by omega)
      exact ⟨en2, mg_nil M2 (mwf_t Fw (mwf_o (fun cc x q => E2 cc x (by omega) (by omega)))) (by omega) (by omega) z12⟩
theorem s6_ta (Y : CXs X) (Wb : BRw X) (ne : 0 ≤ a ∧ a ≤ s ∧ s < b) (nb : b ≤ 8999) (hd : 0 ≤ d ∧ d ≤ 40) (nd : bT X 167 s.toNat = 11) (pl : PLp (bK X) (p : Int)) (r1 : s + 1 ≤ bT X 170 s.toNat ∧ bT X 170 s.toNat < b) (H : E0 nn X (d + 1) ix (s + 1) b p t (bT X 170 s.toNat)) (L1 : bT X 169 (bT X 170 s.toNat).toNat = (p : Int) ∧ bT X 177 (bT X 170 s.toNat).toNat = ix) (kt : bK X t = 46) (pt : p < t) : S6 nn X d a b p (t + 1) s := by
  intro dc dr h r bb Q U
  have Q0 := Q
  obtain ⟨Qe, ⟨h3, h10, r57, h7⟩, -, -⟩ := Q0
  have Qe0 := Qe
  obtain ⟨B, ⟨q1, q2, q3, q4⟩, ⟨f1, f2, f3⟩, o1⟩ := Qe0
  have T : ∀ cc y : Nat, ((163 ≤ cc ∧ cc ≤ 173) ∨ cc = 177) → r cc y = bT X cc y := B.2.2.2.2.2.1
  have c3 := Y.1.2.1
  have n8 := Y.2.2.1
  have tc : t < bc X := tb_lt Y.1 (by omega)
  have t1c : t + 1 < bc X := jp_lt Y.1 tc (by omega)
  obtain ⟨pl0, pl1⟩ := pl
  rw [Int.toNat_natCast] at pl1
  generalize ee : bT X 170 s.toNat = e at r1 H L1
  cases dc with
  | zero => exact fun _ z => nomatch z
  | succ dc =>
    refine sjc_d Y B.1.1.1.1 q1 q2 q3 (by omega) (by omega) ?_
    unfold qj_X0_readStatement_217
    refine pc_sv (c_bv0 Y B.1.1.1.1 q1 q2 q3 pl0) ?_; intro u3 q3'
    refine pc_if (fun _ => ?_) (fun z => absurd q3' z)
    refine pc_add (by omega) ?_; intro v4 e4
    rw [e4]
    refine pc_sv (P := fun x => Pc ((qg_X13_ruled nn dr) s r) (fun y => SFj x.2 y.2 ∨ SOk nn X s a b p (t + 1) bb h r x y)) ?_ (fun x Hx => pc_ck (fun _ => pc_ret Hx))
    unfold qf_X0_readPlain
    rw [q1]
    refine pc_xl ?_; intro h13 e13
    have E13 : ∀ cc x : Nat, ¬ (cc = 49 ∧ x = 18) → h13 cc x = h cc x := fun cc x z => by rw [e13, up_n z]
    have h18 : h13 49 18 = (p : Int) := by rw [e13, up_s]
    have Q13 : EPr X (d + 1) p h13 r := ⟨bx_k B (fun cc x z => E13 cc x (by omega)) (fun _ _ _ => rfl), ⟨by rw [E13 2 10 (by omega)]; exact q1, q2, by rw [E13 2 11 (by omega)]; exact q3, q4⟩, ⟨frc_k f1 (fun cc x z => E13 cc x (by omega)), by rw [E13 34 1 (by omega)]; exact f2, by rw [E13 34 3 (by omega)]; exact f3⟩, by rw [E13 49 10 (by omega)]; omega, by rw [E13 49 10 (by omega)]; omega, by omega⟩
    refine pc_sv (se_a Y H kt Q13 r57 (by omega) (by omega) h18) ?_; intro u16 H16
    intro x ex
    have R840 : ∀ {Z : Int × ms_M → Prop}, (∀ (v : Int × ms_M) (rc : tq_X13_ruled), (∃ dd, rc = qg_X13_ruled nn dd) → (SFj u16 v.2 ∨ (EOz nn X ix (s + 1) b p t e h13 r u16 v ∧ SEq h13 r u16 v.2)) → Pc (qj_X13_ruled_840 nn rc s v.1 s v.2) Z) → Pc ((qg_X13_ruled nn dr) s r) Z := fun {Z} HH => by
      cases dr with
      | zero => exact fun _ z => nomatch z
      | succ dr =>
        refine sju_11 q4 ((T 167 _ (by omega)).trans nd) ?_
        refine pc_rA ?_; intro _ _ v258 e258
        rw [T 170 _ (by omega), ee] at e258
        rw [e258]
        refine pc_rA ?_; intro _ _ v259 e259
        rw [T 177 _ (by omega), L1.2] at e259
        rw [e259]
        refine pc_if (fun z => ?_) (fun z => ?_)
        · refine pc_rA ?_; intro _ _ v261 e261
          rw [T 170 _ (by omega), ee] at e261
          rw [e261]
          exact pc_sv (H16.1 z) (fun v hv => HH v _ ⟨dr, rfl⟩ hv)
        · refine pc_rA ?_; intro _ _ v261 e261
          rw [T 170 _ (by omega), ee] at e261
          rw [e261]
          exact pc_sv (H16.2 z) (fun v hv => HH v _ ⟨dr, rfl⟩ hv)
    refine R840 (fun v rc hrc hv => ?_)
    obtain ⟨dd, erc⟩ := hrc
    rcases hv with S | ⟨K, SE⟩
    · have FX : Pc (mx_sv (qf_X9_kind nn u16) fun u19 => if ¬ u19 = 51 then (mx_sv (qf_X0_closeAlone nn (p : Int) u16) fun u21 => qj_X0_readPlain_156 nn u21) else (xl (oq_add (u16 2 10) 1) fun v34 => xl (up_M u16 2 10 v34) fun h35 => mx_sv (qf_X10_readWhole nn (d + 1) h35) fun u38 => if (u16 49 11) < 2 then (qj_X0_readPlain_126 nn (u16 2 10) (u16 49 11) (u16 49 12) (u16 49 13) (u16 49 14) u38) else (mx_sv (qf_X4_fits nn 12 (u38 49 12) (u16 49 12) u38) fun u43 => if ¬ u43 = 0 then (qj_X0_readPlain_136 nn (u16 49 11) (u16 49 12) (u16 49 13) (u16 49 14) u38) else (qj_X0_readPlain_126 nn (u16 2 10) (u16 49 11) (u16 49 12) (u16 49 13) (u16 49 14) u38)))) (fun x => FSc u16 x.2) := by
        refine pc_se ?_; intro u19 _
        refine pc_if (fun _ => ?_) (fun _ => ?_)
        · refine pc_sv (fs_qf_X0_closeAlone S.1) ?_; intro u21 F
          exact pc_imp (fs_qj_X0_readPlain_156 (fs_n S.1 F)) (fun _ q => fs_t F q)
        · refine pc_xl ?_; intro v34 _
          refine pc_xl ?_; intro h35 e35
          have F35 : FSc u16 h35 := ⟨by rw [e35, up_n (by omega)], by rw [e35, up_n (by omega)]⟩
          refine pc_sv (fs_qf_X10_readWhole (fs_n S.1 F35)) ?_; intro u38 F38'
          have F38 := fs_t F35 F38'
          have T126 := pc_imp (fs_qj_X0_readPlain_126 (nn := nn) (l3 := u16 2 10) (l4 := u16 49 11) (l5 := u16 49 12) (l6 := u16 49 13) (l7 := u16 49 14) (fs_n S.1 F38)) (fun _ q => fs_t F38 q)
          refine pc_if (fun _ => T126) (fun _ => ?_)
          refine pc_se ?_; intro u43 _
          exact pc_if (fun _ => pc_imp (fs_qj_X0_readPlain_136 (fs_n S.1 F38)) (fun _ q => fs_t F38 q)) (fun _ => T126)
      have S2 := sf_c S (FX x ex)
      rw [erc]
      exact pc_imp (ft_qj_X13_ruled_840 (ftg_X13_ruled nn dd) (sf_r S2)) (fun y F => .inl ⟨S2.1, by rw [F.1]; exact S2.2.1, by rw [F.2]; exact S2.2.2⟩)
    · have K0 := K
      obtain ⟨⟨x1, x2, x3, x4, x5⟩, ⟨x6, x7, x8⟩, ⟨x9, x10, x11⟩, ⟨x12, x13, x14⟩, FMV⟩ := K.1
      have Bu : BX X u16 v.2 := bx_e Q13.1 x9 x10
      have e1 := E13 34 1 (by omega)
      have e3 := E13 34 3 (by omega)
      have F01 : FM01 nn X ix (s + 1) b p t e h13 u16 v.2 := by
        have := K.2.2 (by omega)
        rcases FMV with F | F | F | F
        · exact F
        · exact absurd F.1.1 (by omega)
        · exact absurd F.1.1 (by omega)
        · exact absurd F.1.1 (by omega)
      have y1 := (F01.2.2 (by omega)).1.1
      -- the class as far as closeAlone
      have CK : ∀ {Z : Int × ms_M → Prop}, Pc (mx_sv (qf_X0_closeAlone nn (p : Int) u16) fun u21 => qj_X0_readPlain_156 nn u21) Z → Z x := fun {Z} HH => by
        refine (show Pc _ Z from ?_) x ex
        refine pc_sv (c_kind Y.1 Bu.1.1.1.1 x2 x1 x4) ?_; intro u19 q19
        exact pc_if (fun _ => HH) (fun z => absurd (show ¬ u19 = 51 by omega) z)
      unfold qj_X13_ruled_840
      refine pc_wA ?_; intro _ _ h11 e11
      have E11 : ∀ cc x : Nat, ¬ cc = 174 → h11 cc x = v.2 cc x := fun cc x z => by rw [e11, up_n (by omega)]
      have Tv : ∀ cc y : Nat, ((163 ≤ cc ∧ cc ≤ 173) ∨ cc = 177) → h11 cc y = bT X cc y := fun cc y z => by rw [E11 cc y (by omega)]; exact Bu.2.2.2.2.2.1 cc y z
      refine pc_rA ?_; intro _ _ v14 e14
      rw [Tv 170 _ (by omega), ee] at e14
      rw [e14]
      refine pc_rA ?_; intro _ _ v15 e15
      rw [Tv 177 _ (by omega), L1.2] at e15
      rcases F01.1 with ⟨k11, i0, nk, vd⟩ | ⟨k11, nk, n3⟩
      · -- a call
        have OK : Pc (rd_A 9000 170 s h11 fun v18 => rd_A 9000 167 v18 h11 fun v19 => if v19 = 26 then (some (1, h11)) else (rd_A 9000 170 s h11 fun v22 => rd_A 9000 167 v22 h11 fun v23 => if v23 = 31 then (some ((1 : Int), h11)) else (qj_X13_ruled_887 nn rc s h11))) (fun y => y = (1, h11)) := by
          refine pc_rA ?_; intro _ _ v18 e18
          rw [Tv 170 _ (by omega), ee] at e18
          rw [e18]
          refine pc_rA ?_; intro _ _ v19 e19
          rw [Tv 167 _ (by omega)] at e19
          refine pc_if (fun _ => pc_ret rfl) (fun z => ?_)
          refine pc_rA ?_; intro _ _ v22 e22
          rw [Tv 170 _ (by omega), ee] at e22
          rw [e22]
          refine pc_rA ?_; intro _ _ v23 e23
          rw [Tv 167 _ (by omega)] at e23
          exact pc_if (fun _ => pc_ret rfl) (fun z => absurd (show v23 = 31 by omega) z)
        refine pc_if (fun z => absurd (show v15 = 0 by omega) z) (fun _ => ?_)
        refine pc_imp OK (fun y ey => .inr ?_)
        rw [ey]
        by_cases v3 : u16 49 12 = 303
        · have ex2 : x = (1, up_M u16 2 10 ((t + 1 : Nat) : Int)) := CK (Z := fun x => x = (1, up_M u16 2 10 ((t + 1 : Nat) : Int))) (by
            unfold qf_X0_closeAlone qj_X0_closeAlone_21 qj_X0_readPlain_156
            rw [if_pos k11, if_pos v3]
            refine pc_sv (P := fun u21 => u21 = u16) (pc_ret rfl) ?_; intro u21 e21
            rw [e21]
            refine pc_add (by omega) ?_; intro v3' e3'
            refine pc_xl ?_; intro h4 e4'
            exact pc_ret (by rw [e4', show v3' = ((t + 1 : Nat) : Int) by omega]))
          rw [ex2]
          rw [if_pos v3] at y1
          refine sl_al Y Wb Q ne nb nd ee.symm r1 e13 K0 F01 kt SE ⟨pt, t1c⟩ (up_s) (fun cc x q => up_n (by omega)) (by rw [up_n (by omega)]; omega) (by rw [up_n (by omega)]; omega) e11 (fun PB WL L w Mw => ?_)
          rw [if_pos (show v.1 = 3 by rw [x6]; exact (ty_3 (X := X) n8 x7).mpr v3)]
          exact pc_ret ⟨rfl, mkx_c Mw (fun cc x q1 q2 q3 => up_n (by omega)), fun _ _ _ _ => rfl⟩
        · rw [if_neg v3] at y1
          obtain ⟨g1, g2, A1, A2, ex2⟩ := CK (Z := fun x => ∃ g1 g2, COp 87 u16 g1 ∧ CPo 1 g1 g2 ∧ x = (1, up_M g2 2 10 ((t + 1 : Nat) : Int))) (by
            unfold qf_X0_closeAlone qj_X0_closeAlone_21
            rw [if_pos k11, if_neg v3]
            refine pc_sv (P := fun u21 => ∃ g1, COp 87 u16 g1 ∧ CPo 1 g1 u21) ?_ ?_
            · refine pc_sv (c_op (by omega)) ?_; intro u5 A1
              have l3 := A1.2.2 34 3 (by omega) (by omega)
              refine pc_sv (c_pop (by omega) (by omega)) ?_; intro u8 A2
              exact pc_ret ⟨u5, A1, A2⟩
            · intro u21 ⟨g1, A1, A2⟩
              unfold qj_X0_readPlain_156
              have l10 : u21 2 10 = (t : Int) := by rw [A2.2 2 10 (by omega), A1.2.2 2 10 (by omega) (by omega)]; exact x1
              refine pc_add (by omega) ?_; intro v3' e3'
              refine pc_xl ?_; intro h4 e4'
              exact pc_ret ⟨g1, u21, A1, A2, by rw [e4', show v3' = ((t + 1 : Nat) : Int) by omega]⟩)
          rw [ex2]
          have Z : ∀ cc x : Nat, ¬ ((cc = 2 ∧ x = 10) ∨ (cc = 34 ∧ (x = 1 ∨ x = 3)) ∨ (cc = 35 ∧ x = (u16 34 1).toNat)) → up_M g2 2 10 ((t + 1 : Nat) : Int) cc x = u16 cc x := fun cc x q => by rw [up_n (by omega), A2.2 cc x (by omega)]; exact A1.2.2 cc x (by omega) (by omega)
          have z1 : up_M g2 2 10 ((t + 1 : Nat) : Int) 34 1 = u16 34 1 + 1 := by rw [up_n (by omega), A2.2 34 1 (by omega)]; exact A1.1
          have z3 : up_M g2 2 10 ((t + 1 : Nat) : Int) 34 3 = 0 := by rw [up_n (by omega), A2.1, A1.2.2 34 3 (by omega) (by omega)]; split <;> omega
          refine sl_al Y Wb Q ne nb nd ee.symm r1 e13 K0 F01 kt SE ⟨pt, t1c⟩ (up_s) Z (by omega) z3 e11 (fun PB WL L w Mw => ?_)
          rw [if_neg (show ¬ v.1 = 3 by rw [x6]; exact fun y => v3 ((ty_3 (X := X) n8 x7).mp y))]
          have sk := Mw.2.1
          have cb := Mw.1.1.1
          refine pc_sv (r_put (by omega)) ?_; intro u140 B1
          have l70 := B1.2.2 160 70 (by omega) (by omega)
          refine pc_sub (by omega) ?_; intro v142 e142
          refine pc_xl ?_; intro h143 e143
          have M1 : MKx X PB WL L g1 u140 := mk_op Mw A1 B1 (fun _ => rfl) (by unfold in_R; omega)
          have M2 : MKx X PB WL L g2 h143 := mk_pop M1 A2 (by rw [A1.2.2 34 3 (by omega) (by omega)]; omega) (by rw [e143, e142])
          exact pc_ret ⟨rfl, mkx_c M2 (fun cc x q1 q2 q3 => up_n (by omega)), fun cc x q1 q2 => by show h143 cc x = _; rw [e143, up_n (by omega)]; exact B1.2.2 cc x (by omega) (by omega)⟩
      · -- no call: TYPE
        have CC := CK (Z := fun x => x.2 2 11 = 6 ∧ x.2 2 12 = bP X p) (by
          unfold qf_X0_closeAlone
          rw [if_neg (by omega)]
          refine pc_sv (P := fun u21 => u21 2 11 = 6 ∧ u21 2 12 = bP X p) ?_ ?_
          · refine pc_sv (c_tell Bu.1.1.1.1 x4 q2 rfl) ?_; intro u14 ⟨s1, _⟩
            exact pc_imp (fs_qj_X0_closeAlone_21 (by omega)) (fun x F => ⟨by rw [F.1]; exact s1.1, by rw [F.2]; exact s1.2⟩)
          · intro u21 s1
            exact pc_imp (fs_qj_X0_readPlain_156 (by omega)) (fun x F => ⟨by rw [F.1]; exact s1.1, by rw [F.2]; exact s1.2⟩))
        have NO : Pc (qj_X13_ruled_887 nn rc s h11) (fun y => SFj x.2 y.2 ∨ SOk nn X s a b p (t + 1) bb h r x y) := by
          unfold qj_X13_ruled_887
          refine pc_rA ?_; intro _ _ v7 e7
          rw [Tv 170 _ (by omega), ee] at e7
          rw [e7]
          refine pc_rA ?_; intro _ _ v8 e8
          rw [Tv 169 _ (by omega), L1.1] at e8
          refine pc_sv (r_wrong (tbq_f Bu.1.1.2.2.1 (fun cc y z => E11 cc y (by omega))) q2 (by rw [E11 160 9 (by omega)]; exact x5) e8) ?_; intro u10 w1
          exact pc_ret (.inl (sf_mk (c := 6) (pl := bP X p) (by decide) CC.1 CC.2 w1.1 w1.2))
        refine pc_if (fun _ => NO) (fun z => ?_)
        refine pc_rA ?_; intro _ _ v18 e18
        rw [Tv 170 _ (by omega), ee] at e18
        rw [e18]
        refine pc_rA ?_; intro _ _ v19 e19
        rw [Tv 167 _ (by omega)] at e19
        refine pc_if (fun z2 => absurd ⟨show ix = 0 by omega, .inl (show bT X 167 e.toNat = 26 by omega)⟩ nk) (fun _ => ?_)
        refine pc_rA ?_; intro _ _ v22 e22
        rw [Tv 170 _ (by omega), ee] at e22
        rw [e22]
        refine pc_rA ?_; intro _ _ v23 e23
        rw [Tv 167 _ (by omega)] at e23
        exact pc_if (fun z2 => absurd ⟨show ix = 0 by omega, .inr (show bT X 167 e.toNat = 31 by omega)⟩ nk) (fun _ => NO)
end
