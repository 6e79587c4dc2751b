/- calls: by a class's name -/
section
variable {nn : Nat} {X : BCx} {dp i l a b e s k c st fit how at_ : Int} {p q t tk pa x j : Nat} {h hA g u r rA w m v : ms_M}
/-- the making of a call by a class -/
theorem mkc_o31 {v : ms_M} (k : bT X 167 e.toNat = 31) (n1 : ¬ v 176 e.toNat = -1) (ne : 0 ≤ a ∧ a ≤ e ∧ e < b) (R : ∀ (PB : Nat → Prop) (WL : Int → Int → Prop) (L : List (Int × Int)) (m : ms_M) (d : Nat), MKx X PB WL L h m → AN a b v m → (0 ≤ m 160 57 ∧ m 160 57 + (b - a) < 9000) → m 160 88 + 4 * (q : Int) ≤ 2000000000 + 4 * (p : Int) → Pc (qo_X13_workOne nn (qg_X13_work nn d) e m) (fun w => MKx X PB WL L u w ∧ (m 160 88 ≤ w 160 88 ∧ w 160 88 + 4 * (p : Int) ≤ m 160 88 + 4 * (q : Int)))) : MKC nn X e a b p q h u v := fun d PB WL L m M A z1 z2 => by
  have T := (mk_t M).1 167 e.toNat (by omega)
  have T6 := A 176 e.toNat (by omega) (by omega) (by omega) (by omega)
  refine m_one (by omega) ?_ (fun d => R PB WL L m d M A z1 z2) d
  unfold qf_X13_isLedInWords
  refine pc_rA ?_; intro _ _ v2 e2
  rw [T, k] at e2
  rw [e2]
  refine pc_if (fun z => absurd z (by decide)) (fun _ => ?_)
  refine pc_if (fun z => absurd z (by decide)) (fun _ => ?_)
  refine pc_if (fun z => absurd z (by decide)) (fun _ => ?_)
  refine pc_if (fun z => absurd z (by decide)) (fun _ => ?_)
  refine pc_if (fun z => absurd rfl z) (fun _ => ?_)
  refine pc_rA ?_; intro _ _ v4 e4
  rw [T6] at e4
  exact pc_if (fun _ => pc_ret rfl) (fun z => absurd (show ¬ v4 = -1 by rw [e4]; exact n1) z)
theorem c_mnm {y : Int} (Y : CXs X) (TB : TBc (bK X) (bP X) (bc X) h) (VL : VLc (bK X) (bV X) (bc X) h) (hf : h 2 11 = 0) (kt : bK X tk = 2) (tc : tk < bc X) (hx : y = (tk : Int)) : Pc (qf_X10_methodNamed nn c y h) (fun u => ∃ u6, qf_X2_methodOf nn c (bV X tk) h = some u6 ∧ ((¬ u6 = -1 ∧ u = (u6, h)) ∨ (u6 = -1 ∧ u.2 2 11 = 5 ∧ u.2 2 12 = bP X tk))) := by
  unfold qf_X10_methodNamed
  refine pc_sv (c_valueAt Y.1 TB VL kt hx) ?_; intro u4 q4
  rw [q4]
  refine pc_se ?_; intro u6 e6
  refine pc_if (fun z => pc_ret ⟨u6, e6, .inl ⟨z, rfl⟩⟩) (fun z => ?_)
  refine pc_sv (c_tell TB hf tc hx) ?_; intro u9 s9
  exact pc_ret ⟨u6, e6, .inr ⟨Classical.byContradiction z, s9.1.1, s9.1.2⟩⟩
theorem c_icp2 {y : Int} (Y : CXs X) (TB : TBc (bK X) (bP X) (bc X) h) (kk : bK X tk = 48 ∧ bK X (tk + 1) = 2 ∧ bK X (tk + 2) = 40) (hx : y = (tk : Int)) (tc : tk < bc X) : Pc (qf_X10_isCallBehindPoint nn y h) (fun u => u = 1) := by
  have c3 := Y.1.2.1
  unfold qf_X10_isCallBehindPoint
  refine pc_sv (c_kindAt Y.1 TB (t := tk) hx) ?_; intro u3 q3
  refine pc_if (fun z => absurd (show u3 = 48 by omega) z) (fun _ => ?_)
  refine pc_add (by omega) ?_; intro v5 e5
  refine pc_sv (c_kindAt Y.1 TB (t := tk + 1) (by omega)) ?_; intro u7 q7
  refine pc_if (fun z => absurd (show u7 = 2 by omega) z) (fun _ => ?_)
  refine pc_add (by omega) ?_; intro v9 e9
  refine pc_sv (c_kindAt Y.1 TB (t := tk + 2) (by omega)) ?_; intro u11 q11
  exact pc_if (fun z => absurd (show u11 = 40 by omega) z) (fun _ => pc_ret rfl)
/-- is it by class: the reference -/
theorem r_ibc {h1 : ms_M} (Y : CXs X) (B : BX X h1 r) (k1 : r 160 52 = bo X) (kp : bK X p = 2) (pc : p < bc X) (e70 : r 170 e.toNat = k) (no : r 167 k.toNat = 25 ∧ r 168 k.toNat = (p : Int) ∧ r 177 k.toNat = 0) (e47 : qf_X1_localOf nn (bV X p) h1 = some (-1)) (e51 : qf_X2_fieldOf nn (bo X) (bV X p) h1 = some (-1)) : Pc (qf_X13_isByClass nn e r) (fun u => u = 1) := by
  have own := Y.2.2.2.1
  have NR : NMr (bK X) (bV X) (bc X) r := B.1.1.2.2.2.1
  unfold qf_X13_isByClass
  refine pc_rA ?_; intro _ _ v2 e2
  rw [e70] at e2
  rw [e2]
  refine pc_rA ?_; intro _ _ v4 e4
  refine pc_if (fun z => absurd (e4.trans no.1) z) (fun _ => ?_)
  refine pc_rA ?_; intro _ _ v6 e6
  refine pc_if (fun z => absurd (e6.trans no.2.2) z) (fun _ => ?_)
  refine pc_rA ?_; intro _ _ v8 e8
  rw [no.2.1] at e8
  refine pc_sv (j_loc Y.1 NR B.2.1 kp rfl e8 _ e47) ?_; intro u10 L
  have n10 : u10 = -1 := by
    rcases L with y | ⟨s, y1, y2, y3⟩
    · exact y.2
    · omega
  refine pc_if (fun z => absurd n10 z) (fun _ => ?_)
  refine pc_rA ?_; intro _ _ v13 e13
  rw [no.2.1] at e13
  rw [e13, k1]
  refine pc_sv (j_fieldOf (nn := nn) Y.1 Y.2.1 B.1 kp (a := bo X) (by omega) _ e51) ?_; intro u15 L2
  have n15 : u15 = -1 := by
    rcases L2 with y | ⟨jj, kk, -, -, -, -, -, y⟩
    · exact y.2
    · omega
  exact pc_if (fun z => absurd n15 z) (fun _ => pc_ret rfl)
theorem p_bycl (Y : CXs X) (Q : EPr X dp p h r) (b57 : 0 ≤ r 160 57 ∧ r 160 57 + (b - a) < 9000 ∧ b ≤ 9000) (ne : 0 ≤ a ∧ a ≤ e ∧ e < b) (nd : bT X 167 e.toNat = 31 ∧ bT X 168 e.toNat = ((p + 2 : Nat) : Int)) (r1 : a ≤ bT X 170 e.toNat ∧ bT X 170 e.toNat < e) (no : bT X 167 (bT X 170 e.toNat).toNat = 25 ∧ bT X 168 (bT X 170 e.toNat).toNat = (p : Int) ∧ bT X 177 (bT X 170 e.toNat).toNat = 0) (kk : bK X p = 2 ∧ bK X (p + 1) = 48 ∧ bK X (p + 2) = 2 ∧ bK X (p + 3) = 40) (k41 : bK X t = 41) (pt : p + 3 < t) (A : A4 nn X dp (e + 1) b (p + 3) t (bT X 171 e.toNat)) (e47 : qf_X1_localOf nn (bV X p) (up_M h 2 10 ((p + 1 : Nat) : Int)) = some (-1)) (e51 : qf_X2_fieldOf nn (bo X) (bV X p) (up_M h 2 10 ((p + 1 : Nat) : Int)) = some (-1)) (d d2 : Nat) : Pc (qo_X10_readNamed nn (qg_X10_readValue nn d) dp h) (fun u => Pc ((qg_X13_condition nn d2).2.2.1 e r) (fun v => (SFj u v.2 ∨ VDj X 0 a b p (t + 1) e h r u v) ∨ POk nn X 0 a b p (t + 1) e h r u v)) := by
  have Q0 := Q
  obtain ⟨B, ⟨q1, q2, q3, q4⟩, ⟨f1, f2, f3⟩, o1⟩ := Q0
  obtain ⟨kp, k48, kp2, k40⟩ := kk
  have T : ∀ cc y : Nat, ((163 ≤ cc ∧ cc ≤ 173) ∨ cc = 177) → r cc y = bT X cc y := fun cc y z => B.2.2.2.2.2.1 cc y z
  have BK := Y.1
  have own := Y.2.2.2.1
  have c3 := BK.2.1
  have TB : TBc (bK X) (bP X) (bc X) h := B.1.1.1.1
  have VL : VLc (bK X) (bV X) (bc X) h := B.1.1.1.2.1
  have TQ : TBq (bK X) (bP X) (bc X) r := B.1.1.2.2.1
  have p1 : p + 1 < bc X := jp_lt BK q2 (by omega)
  have p2 : p + 2 < bc X := jp_lt BK p1 (by omega)
  have p3 : p + 3 < bc X := jp_lt BK p2 (by omega)
  have G := fsg_X10_readValue nn d
  generalize hob : bT X 170 e.toNat = ob at r1 no
  unfold qo_X10_readNamed
  rw [q1]
  refine pc_sv (c_valueAt BK TB VL kp rfl) ?_; intro u37 q37
  refine pc_add (by omega) ?_; intro v40 e40
  refine pc_xl ?_; intro h41 e41
  rw [show v40 = ((p + 1 : Nat) : Int) by omega] at e41
  rw [← e41] at e47 e51
  have E41 : ∀ cc x : Nat, ¬ (cc = 2 ∧ x = 10) → h41 cc x = h cc x := fun cc x z => by rw [e41, up_n z]
  have B1 : BX X h41 r := bx_k B (fun cc x z => E41 cc x (by omega)) (fun _ _ _ => rfl)
  have TB1 : TBc (bK X) (bP X) (bc X) h41 := B1.1.1.1.1
  have f41 : h41 2 11 = 0 := by rw [E41 2 11 (by omega)]; exact q3
  have p41 : h41 2 10 = ((p + 1 : Nat) : Int) := by rw [e41, up_s]
  refine pc_sv (c_kind BK TB1 p1 p41 f41) ?_; intro u44 q44
  refine pc_if (fun _ => ?_) (fun z => absurd (show ¬ u44 = 40 by omega) z)
  have w16 : h41 49 16 = bo X := by rw [E41 49 16 (by omega)]; exact B.2.2.1.1
  rw [q37, e47, mx_svs]
  refine pc_if (fun z => absurd rfl z) (fun _ => ?_)
  rw [w16, e51, mx_svs]
  unfold qj_X10_readNamed_123
  refine pc_if (fun _ => ?_) (fun z => absurd rfl z)
  refine pc_if (fun _ => ?_) (fun z => absurd rfl z)
  refine pc_add (by omega) ?_; intro v1 e1
  refine pc_sv (c_icp2 Y TB1 (tk := p + 1) ⟨k48, kp2, k40⟩ (by omega) p1) ?_; intro u3 q3'
  refine pc_if (fun z => absurd z (by omega)) (fun _ => ?_)
  refine pc_add (by omega) ?_; intro v7 e7
  -- the reference
  have IBC : Pc (qf_X13_isByClass nn e r) (fun u => u = 1) := r_ibc (k := ob) Y B1 B.2.2.1.2 kp q2 (by rw [T 170 _ (by omega)]; exact hob) ⟨by rw [T 167 _ (by omega)]; exact no.1, by rw [T 168 _ (by omega)]; exact no.2.1, by rw [T 177 _ (by omega)]; exact no.2.2⟩ e47 e51
  have NLED : Pc (qf_X13_isLed nn e r) (fun u => u = 0) := by
    unfold qf_X13_isLed
    refine pc_rA ?_; intro _ _ v2 e2
    rw [T 167 _ (by omega), nd.1] at e2
    rw [e2]
    refine pc_if (fun z => absurd z (by decide)) (fun _ => ?_)
    refine pc_if (fun z => absurd z (by decide)) (fun _ => ?_)
    refine pc_if (fun z => absurd z (by decide)) (fun _ => ?_)
    refine pc_if (fun z => absurd z (by decide)) (fun _ => ?_)
    refine pc_if (fun z => absurd rfl z) (fun _ => ?_)
    refine pc_sv IBC ?_; intro u4 q4
    exact pc_if (fun _ => pc_ret rfl) (fun z => absurd (show ¬ u4 = 0 by omega) z)
  have RULE : ∀ (RES : Int × ms_M → Prop), (∀ d : Nat, Pc (qo_X13_invoked nn (qg_X13_condition nn d) e r) (fun u => ∀ z : ms_M, z = up_M u.2 174 e.toNat u.1 → (z 160 9 = 0 → RES (u.1, z)) ∧ (¬ z 160 9 = 0 → RES (0, z)))) → Pc ((qg_X13_condition nn d2).2.2.1 e r) RES := fun RES HN => w_one (by omega) q4 NLED (fun d => ru_31 ((T 167 _ (by omega)).trans nd.1) (by
    cases d with
    | zero => exact fun _ z => nomatch z
    | succ d => exact pc_sb (pc_imp (HN d) (fun y hy => pc_ret hy)))) d2
  have INV : ∀ {QQ : Int × ms_M → Prop} (d : Nat), (∀ u59 : Int, CLz (fun k => bV X (bC X k)) (bn X) (bV X p) u59 → Pc (if ¬ u59 = (-1) then (qj_X13_invoked_46 nn (qg_X13_condition nn d) e ob 1 u59 r) else (rd_A 9000 168 ob r fun v61 => mx_sv (qf_X13_wrong nn 5 v61 r) fun u63 => qj_X13_invoked_46 nn (qg_X13_condition nn d) e ob 1 u59 u63)) QQ) → Pc (qo_X13_invoked nn (qg_X13_condition nn d) e r) QQ := fun {QQ} d HH => by
    unfold qo_X13_invoked
    refine pc_rA ?_; intro _ _ v40 e40
    rw [T 170 _ (by omega), hob] at e40
    rw [e40]
    refine pc_sv IBC ?_; intro u42 q42
    rw [q42]
    refine pc_if (fun z => absurd z (by decide)) (fun _ => ?_)
    refine pc_rA ?_; intro _ _ v57 e57
    rw [T 168 _ (by omega), no.2.1] at e57
    refine pc_sv (r_classOf BK Y.2.1 B.1.1.2.2 kp e57) ?_; intro u59 q59
    exact HH u59 q59
  refine pc_sv (c_rnc Y B1 f41 kp rfl) ?_; intro u9 q9
  rcases q9 with ⟨cl, cn, e9⟩ | ⟨cl, cn, t1, t2⟩
  · -- the class
    have cb := cls_b cl (Y.2.1.2.2 p kp).1
    generalize u9.1 = c at cl cn cb ⊢
    rw [e9]
    generalize hhA : up_M h41 2 10 v7 = hA
    have EA : ∀ cc x : Nat, ¬ (cc = 2 ∧ x = 10) → hA cc x = h cc x := fun cc x z => by rw [← hhA, up_n z]; exact E41 cc x z
    have hA10 : hA 2 10 = ((p + 3 : Nat) : Int) := by rw [← hhA, up_s]; omega
    have BA : BX X hA r := bx_k B (fun cc x z => EA cc x (by omega)) (fun _ _ _ => rfl)
    have QA : EPr X dp (p + 3) hA r := epr_in Q EA hA10 (by omega) p3
    have fA : hA 2 11 = 0 := by rw [EA 2 11 (by omega)]; exact q3
    refine pc_add (by omega) ?_; intro v10 e10
    refine pc_sv (c_mnm Y BA.1.1.1.1 BA.1.1.1.2.1 fA kp2 p2 (by omega)) ?_; intro u12 ⟨u6, e6, q12⟩
    refine pc_add (by omega) ?_; intro v13 e13
    generalize hrB : up_M (up_M r 174 ob.toNat 3) 176 e.toNat c = rB
    have EB : ∀ cc y : Nat, ¬ (cc = 174 ∧ y = ob.toNat) → ¬ (cc = 176 ∧ y = e.toNat) → rB cc y = r cc y := fun cc y z1 z2 => by rw [← hrB, up_n z2, up_n z1]
    have BB : BX X hA rB := bx_k BA (fun _ _ _ => rfl) (fun cc y z => EB cc y (by omega) (by omega))
    have JM := j_methodOf (nn := nn) BK Y.2.1 BB.1 kp2 (a := c) (by omega) u6 e6
    -- the reference up to its member
    have REFM : ∀ {RES : Int × ms_M → Prop}, (∀ (d : Nat) (u18 : Int), qf_X13_memberOf nn c ((p + 2 : Nat) : Int) 1 rB = some u18 → LKR (bV X) (bM X) 1 (bV X (p + 2)) rB u6 u18 → ∀ h19 : ms_M, h19 = up_M rB 175 e.toNat u18 → Pc (if ¬ u18 = (-1) then (qj_X13_invoked_193 nn (qg_X13_condition nn d) e 1 h19) else (rd_A 9000 168 e h19 fun v23 => mx_sv (qf_X13_wrong nn 5 v23 h19) fun u25 => qj_X13_invoked_193 nn (qg_X13_condition nn d) e 1 u25)) (fun u => ∀ z : ms_M, z = up_M u.2 174 e.toNat u.1 → (z 160 9 = 0 → RES (u.1, z)) ∧ (¬ z 160 9 = 0 → RES (0, z)))) → Pc ((qg_X13_condition nn d2).2.2.1 e r) RES := fun {RES} HH => by
      refine RULE _ (fun d => INV d (fun u59 cl2 => ?_))
      have ec := cls_d cl2 cl
      rw [ec]
      refine pc_if (fun _ => ?_) (fun z => absurd cn z)
      unfold qj_X13_invoked_46
      refine pc_wA ?_; intro _ _ h38 e38
      unfold qj_X13_invoked_128
      refine pc_if (fun _ => ?_) (fun z => absurd (by rw [e38, up_n (by omega)]; exact q4) z)
      refine pc_if (fun z => absurd z (by decide)) (fun _ => ?_)
      unfold qj_X13_invoked_152
      refine pc_wA ?_; intro _ _ h13 e13
      rw [e38, hrB] at e13
      rw [e13]
      refine pc_rA ?_; intro _ _ v16 e16
      rw [EB 168 _ (by omega) (by omega), T 168 _ (by omega), nd.2] at e16
      rw [e16]
      refine pc_se ?_; intro u18 e18
      refine pc_wA ?_; intro _ _ h19 e19
      refine pc_rA ?_; intro _ _ v21 e21
      rw [e19, up_s] at e21
      rw [e21]
      exact HH d u18 e18 (JM u18 e18) h19 e19
    rcases q12 with ⟨n6, e12⟩ | ⟨n6, s1, s2⟩
    · -- its method
      rw [e12]
      dsimp only
      cases hm : qf_X13_memberOf nn c ((p + 2 : Nat) : Int) 1 rB with
      | none => exact fun u _ => REFM (fun d u18 e18 => by rw [hm] at e18; exact nomatch e18)
      | some j0 =>
        have MB : MBx X 1 u6 j0 := by
          rcases JM j0 hm with y | ⟨jj, kk, h1, h2, h3, h4, h5, h6⟩
          · exact absurd y.1 n6
          · rw [h5]
            exact (mbx_of BB (.inr rfl) h1 h2 h3 h6).1
        obtain ⟨xn, jn, ex, ej, MF⟩ := mtf_of Y BB MB
        rw [ex] at MB ⊢
        rw [ej] at MB hm
        generalize hrA : up_M rB 175 e.toNat (jn : Int) = rA
        have ER : ∀ cc y : Nat, ¬ (cc = 175 ∧ y = e.toNat) → rA cc y = rB cc y := fun cc y z => by rw [← hrA, up_n z]
        have rA5 : rA 175 e.toNat = (jn : Int) := by rw [← hrA, up_s]
        have rA6 : rA 176 e.toNat = c := by rw [ER 176 _ (by omega), ← hrB, up_s]
        have RRA : RFe a b r rA := ⟨fun cc y z1 z2 z3 => by rw [ER cc y (by omega)]; exact EB cc y (by omega) (by omega), fun cc y z1 z2 z3 => by rw [ER cc y (by omega)]; exact EB cc y (by omega) (by omega)⟩
        have MFA : MTf X hA rA xn jn := mtf_k MF (fun _ _ _ => rfl) (fun cc y z => ER cc y (by omega))
        have QA2 : EPr X dp (p + 3) hA rA := ⟨bx_k BB (fun _ _ _ => rfl) (fun cc y z => ER cc y (by omega)), ⟨QA.2.1.1, QA.2.1.2.1, QA.2.1.2.2.1, by rw [ER 160 9 (by omega), EB 160 9 (by omega) (by omega)]; exact q4⟩, QA.2.2⟩
        have rA9 : rA 160 9 = 0 := QA2.2.1.2.2.2
        have rA57 : rA 160 57 = r 160 57 := by rw [ER 160 57 (by omega)]; exact EB 160 57 (by omega) (by omega)
        have REFC : ∀ {RES : Int × ms_M → Prop}, (∀ (d4 : Nat) (fit : Int), ((fit = 1 ∧ rA 182 jn = 2) ∨ (fit = 0 ∧ rA 182 jn = 1)) → Pc (qo_X13_called nn (qg_X13_condition nn d4) e (jn : Int) fit rA) (fun u => ∀ z : ms_M, z = up_M u.2 174 e.toNat u.1 → (z 160 9 = 0 → RES (u.1, z)) ∧ (¬ z 160 9 = 0 → RES (0, z)))) → Pc ((qg_X13_condition nn d2).2.2.1 e r) RES := fun {RES} HH => by
          refine REFM (fun d u18 e18 _ h19 e19 => ?_)
          have e18' : u18 = (jn : Int) := Option.some.inj (e18.symm.trans hm)
          rw [e18', hrA] at e19
          rw [e18', e19]
          refine pc_if (fun _ => ?_) (fun z => absurd (show ¬ (jn : Int) = -1 by omega) z)
          have C7 : ∀ fit : Int, ((fit = 1 ∧ rA 182 jn = 2) ∨ (fit = 0 ∧ rA 182 jn = 1)) → Pc (qj_X13_invoked_237 nn (qg_X13_condition nn d) fit (jn : Int) e rA) (fun u => ∀ z : ms_M, z = up_M u.2 174 e.toNat u.1 → (z 160 9 = 0 → RES (u.1, z)) ∧ (¬ z 160 9 = 0 → RES (0, z))) := fun fit hfit => by
            unfold qj_X13_invoked_237
            cases d with
            | zero => exact fun _ z => nomatch z
            | succ d4 => exact pc_sb (pc_imp (HH d4 fit hfit) (fun y hy => pc_ret hy))
          unfold qj_X13_invoked_193
          refine pc_rA ?_; intro _ _ v5 e5
          rw [rA5] at e5
          rw [e5]
          refine pc_if (fun z => absurd rA9 z) (fun _ => ?_)
          refine pc_rA ?_; intro _ _ v9 e9
          rw [rA5] at e9
          refine pc_rA ?_; intro _ _ v10 e10
          rw [e9, Int.toNat_natCast] at e10
          have k12 := MFA.2.1
          refine pc_if (fun z => ?_) (fun z => ?_)
          · unfold qj_X13_invoked_228
            exact pc_if (fun _ => C7 0 (.inr ⟨rfl, by omega⟩)) (fun z => absurd (by decide) z)
          · unfold qj_X13_invoked_228 qj_X13_invoked_232
            exact pc_if (fun z => absurd rfl z) (fun _ => C7 1 (.inl ⟨rfl, by omega⟩))
        cases d with
        | zero => exact fun _ z => nomatch z
        | succ d =>
          refine pc_sv (P := fun uF => ∀ (d4 : Nat) (fit : Int), ((fit = 1 ∧ rA 182 jn = 2) ∨ (fit = 0 ∧ rA 182 jn = 1)) → Pc (qo_X13_called nn (qg_X13_condition nn d4) e (jn : Int) fit rA) (CRq nn X a b p (t + 1) e h r uF)) ?_ (fun u32 H32 => pc_ret (REFC H32))
          show Pc (qo_X10_readCall nn (qg_X10_readValue nn d) c (xn : Int) v13 2 (p : Int) dp hA) _
          intro uF eF d4 fit hfit
          refine call_core (c := c) (at_ := v13) (how := 2) (st := (p : Int)) (fit := fit) (tk := p + 2) Y (by omega) A k41 QA2 (by omega) MFA MB (by omega) (by omega) p2 nd.2 (by omega) ⟨fun z => by omega, fun z => by omega⟩ d d4 (fun uF y => CRq nn X a b p (t + 1) e h r uF y) (fun uF y C => ?_) uF eF
          have l1A := EA 34 1 (by omega)
          have l3A := EA 34 3 (by omega)
          refine crq_c (dl := 0) (c := c) (st := (p : Int)) (fit := fit) (tk := p + 2) Y Q ne (.inr nd.1) k41 nd.2 p2 (fun cc y a1 a2 a3 a4 a5 a6 a7 a8 => EA cc y (by omega)) RRA ⟨EA 49 10 (by omega), fun cc y z1 z2 z3 => EA cc y (by omega)⟩ QA.2.2.1.1 (by omega) (by omega) (by omega) MFA rfl (fun _ => by omega) (fun u v z n AO CM ez nf => ?_) C
          have vA : ∀ cc : Nat, 174 ≤ cc → cc ≤ 176 → v cc e.toNat = rA cc e.toNat := fun cc c1 c2 => AO.2.1.2.1.2 cc _ c1 c2 (by omega)
          have z6 : z 176 e.toNat = c := by rw [ez, up_n (by omega), vA 176 (by omega) (by omega)]; exact rA6
          refine mkc_o31 nd.1 (by rw [z6]; exact cn) ne (fun PB WL L m dd M AM b1 b2 => ?_)
          obtain ⟨MT, -, -, -⟩ := mk_t M
          have a4 : m 174 e.toNat = ty_T (u 24 xn) := by rw [AM 174 e.toNat (by omega) (by omega) (by omega) (by omega), ez, up_s]
          have a5 : m 175 e.toNat = (jn : Int) := by rw [AM 175 e.toNat (by omega) (by omega) (by omega) (by omega), ez, up_n (by omega), vA 175 (by omega) (by omega)]; exact rA5
          have a6 : m 176 e.toNat = c := by rw [AM 176 e.toNat (by omega) (by omega) (by omega) (by omega)]; exact z6
          have AM2 : AN (e + 1) b v m := an_s AM ⟨by omega, Int.le_refl _⟩ (fun cc y c1 c2 c4 c5 => by rw [ez, up_n (by omega)])
          have t3 : t < bc X := AO.1.2.1
          have nt : p + 3 + 1 + n ≤ t := AO.2.2.1.2.2.2
          have Mw1 : MKx X PB WL L (up_M hA 2 10 ((p + 3 + 1 : Nat) : Int)) m := mkx_c M (fun cc y z1 z2 z3 => by rw [up_n (by omega)]; exact EA cc y (by omega))
          refine wo_31 ((MT 167 _ (by omega)).trans nd.1) a4 ?_
          refine pc_rA ?_; intro _ _ v178 e178
          rw [a6] at e178
          refine pc_if (fun _ => ?_) (fun z => absurd (show ¬ v178 = -1 by rw [e178]; exact cn) z)
          refine pc_rA ?_; intro _ _ v180 e180
          rw [a6] at e180
          rw [e180]
          unfold qj_X13_workOne_316
          refine pc_rA ?_; intro _ _ v28 e28
          rw [a6] at e28
          refine pc_if (fun z => absurd (e28.symm.trans z) cn) (fun _ => ?_)
          cases dd with
          | zero => exact fun _ z => nomatch z
          | succ dd =>
            refine pc_sb (pc_imp (m_wcall (pa := p + 3) (t := t) (x := xn) (j := jn) (c := c) (a3 := 1) Mw1 AO.2.2.2 CM AM2 a5 a4 (.inr ⟨rfl, by rw [if_pos (by omega)], by rw [if_pos (by omega)]⟩) (by omega) (by omega) (by omega)) (fun w2 y => pc_ret ⟨y.1, by omega⟩))
    · -- no such method
      have S12 : ¬ u12.2 2 11 = 0 := by omega
      refine pc_sv (G.2.2.2.2.2.2.2.2 S12) ?_; intro u32 F
      refine pc_ret (REFM (fun d u18 e18 LK h19 e19 => ?_))
      have j1 : u18 = -1 := by
        rcases LK with y | ⟨jj, kk, -, -, -, -, -, y⟩
        · exact y.2
        · omega
      refine pc_if (fun z => absurd j1 z) (fun _ => ?_)
      refine pc_rA ?_; intro _ _ v23 e23
      rw [e19, up_n (by omega), EB 168 _ (by omega) (by omega), T 168 _ (by omega), nd.2] at e23
      refine pc_sv (r_wrong (tbq_f TQ (fun cc y z => by rw [e19, up_n (by omega)]; exact EB cc y (by omega) (by omega))) p2 (by rw [e19, up_n (by omega), EB 160 9 (by omega) (by omega)]; exact q4) e23) ?_; intro u25 w1
      refine pc_imp (ft_qj_X13_invoked_193 (ftg_X13_condition nn d) (h := u25) (by omega)) (fun y Fy => ?_)
      exact crq_f (nn := nn) (X := X) (a := a) (b := b) (p := p) (q := t + 1) (e := e) (h := h) (r := r) (c := 5) (pl := bP X (p + 2)) (by omega) (by rw [F.1]; exact s1) (by rw [F.2]; exact s2) (Fy.1.trans w1.1) (Fy.2.trans w1.2)
  · -- no such class
    have S9 : ¬ u9.2 2 11 = 0 := by omega
    refine pc_add (by omega) ?_; intro v10 e10
    refine pc_sv (fs_qf_X10_methodNamed S9) ?_; intro u12 F1
    refine pc_add (by omega) ?_; intro v13 e13
    have S12 : ¬ u12.2 2 11 = 0 := by rw [F1.1]; exact S9
    refine pc_sv (G.2.2.2.2.2.2.2.2 S12) ?_; intro u32 F
    refine pc_ret (RULE _ (fun d => INV d (fun u59 cl2 => ?_)))
    have ec := cls_d cl2 cl
    refine pc_if (fun z => absurd ec z) (fun _ => ?_)
    refine pc_rA ?_; intro _ _ v61 e61
    rw [T 168 _ (by omega), no.2.1] at e61
    refine pc_sv (r_wrong TQ q2 q4 e61) ?_; intro u63 w1
    refine pc_imp (ft_qj_X13_invoked_46 (ftg_X13_condition nn d) (h := u63) (by omega)) (fun y Fy => ?_)
    exact crq_f (nn := nn) (X := X) (a := a) (b := b) (p := p) (q := t + 1) (e := e) (h := h) (r := r) (c := 5) (pl := bP X p) (by omega) (by rw [F.1, F1.1]; exact t1) (by rw [F.2, F1.2]; exact t2) (Fy.1.trans w1.1) (Fy.2.trans w1.2)
end
