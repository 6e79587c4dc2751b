/- calls: a method of one's own -/
def CRq (nn : Nat) (X : BCx) (a b : Int) (p q : Nat) (e : Int) (h r uF : ms_M) (y : Int × ms_M) : Prop := ∀ z : ms_M, z = up_M y.2 174 e.toNat y.1 → (z 160 9 = 0 → (SFj uF z ∨ VDj X 0 a b p q e h r uF (y.1, z)) ∨ POk nn X 0 a b p q e h r uF (y.1, z)) ∧ (¬ z 160 9 = 0 → (SFj uF z ∨ VDj X 0 a b p q e h r uF (0, z)) ∨ POk nn X 0 a b p q e h r uF (0, z))
section
variable {nn : Nat} {X : BCx} {dp i l a b e s k c st fit how at_ : Int} {p q t tk pa x j : Nat} {h hA g u r rA w m v : ms_M}
theorem crq_f {uF : ms_M} {y : Int × ms_M} {c pl : Int} (c0 : ¬ c = 0) (a1 : uF 2 11 = c) (a2 : uF 2 12 = pl) (a3 : y.2 160 9 = c) (a4 : y.2 160 10 = pl) : CRq nn X a b p q e h r uF y := fun z ez => by
  have z9 : z 160 9 = c := by rw [ez, up_n (by omega)]; exact a3
  have z10 : z 160 10 = pl := by rw [ez, up_n (by omega)]; exact a4
  exact ⟨fun y => absurd (z9.symm.trans y) c0, fun _ => .inl (.inl ⟨by omega, by rw [z9, a1], by rw [z10, a2]⟩)⟩
/-- a call that comes out: void where a value is wanted, or right -/
theorem crq_c {uF : ms_M} {y : Int × ms_M} {dl : Int} (Y : CXs X) (Q : EPr X dp p h r) (ne : 0 ≤ a ∧ a ≤ e ∧ e < b) (nk : bT X 167 e.toNat = 26 ∨ bT X 167 e.toNat = 31) (k41 : bK X t = 41) (e68 : bT X 168 e.toNat = (tk : Int)) (kc : tk < bc X) (C1 : CFe h hA) (R1 : RFe a b r rA) (S1 : SGb h hA) (FA : FRc hA) (l1 : hA 34 1 + 20 * (p : Int) ≤ h 34 1 + 20 * (pa : Int)) (l3 : hA 34 3 = h 34 3 + dl) (dl0 : 0 ≤ dl ∧ dl + (p : Int) ≤ (pa : Int)) (MFA : MTf X hA rA x j) (hst : st = (p : Int)) (hdl : ¬ fit = 0 → (rA 182 j = 2 ∧ dl = 0) ∨ (rA 182 j = 1 ∧ dl = 1)) (MC : ∀ (u v z : ms_M) (n : Nat), AOk nn X (bT X 171 e.toNat) (e + 1) b (pa + 1) t n (up_M hA 2 10 ((pa + 1 : Nat) : Int)) rA u v → (∀ (rc : tq_X13_work) (PB : Nat → Prop) (WL : Int → Int → Prop) (L : List (Int × Int)) (w : ms_M), MKx X PB WL L u w → w 175 e.toNat = (j : Int) → w 174 e.toNat = ty_T (u 24 x) → Pc (qj_X13_workCall_65 nn rc e c (if rA 182 j = 2 then (n : Int) else (n : Int) + 1) (if rA 182 j = 2 then 184 else 182) w) (fun w2 => MKx X PB WL L uF w2 ∧ w2 160 88 = w 160 88)) → z = up_M v 174 e.toNat (ty_T (u 24 x)) → ¬ fit = 0 → MKC nn X e a b p (t + 1) h uF z) (C : CPO nn X (e + 1) b e c st fit x j pa t tk hA rA uF y) : CRq nn X a b p (t + 1) e h r uF y := by
  rcases C with S | ⟨u, v, n, AO, C⟩
  · exact crq_f S.1 rfl rfl S.2.1 S.2.2
  · have v9 := AO.1.2.2.2.2
    have R2 : RFe a b r v := rfe_t R1 AO.2.1.2.1 ⟨Int.le_refl _, Int.le_refl _⟩ ⟨by omega, Int.le_refl _⟩
    have v182 : v 182 j = rA 182 j := AO.2.1.2.1.1 182 j (by omega) (by omega) (by omega)
    rcases C with ⟨ey, -, w1, w2, w3⟩ | ⟨ey, nf, CL⟩
    · rw [ey]
      intro z ez
      have z9 : z 160 9 = 0 := by rw [ez, up_n (by omega)]; exact v9
      refine ⟨fun _ => .inl (.inr ⟨⟨w1, by rw [e68, Int.toNat_natCast]; exact w2, by omega, by omega, fun _ k46 h18 => w3 ⟨k46, by rw [hst, AO.2.1.1 49 18 (by omega) (by omega) (by omega) (by omega) (by omega) (by omega) (by omega) (by omega), up_n (by omega), C1 49 18 (by omega) (by omega) (by omega) (by omega) (by omega) (by omega) (by omega) (by omega)]; exact h18.symm⟩⟩, ⟨rfl, z9, by show z 174 e.toNat = 3; rw [ez, up_s]⟩, ?_⟩), fun y => absurd z9 y⟩
      exact ⟨fun cc y a1 a2 a3 => by show z cc y = _; rw [ez, up_n (by omega)]; exact R2.1 cc y a1 a2 a3, fun cc y a1 a2 a3 => by show z cc y = _; rw [ez, up_n (by omega)]; exact R2.2 cc y a1 a2 a3⟩
    · rw [ey]
      rw [v182] at CL
      intro z ez
      have z9 : z 160 9 = 0 := by rw [ez, up_n (by omega)]; exact v9
      have hk : (if rA 182 j = 2 then (n : Int) else (n : Int) + 1) = (n : Int) + dl := by
        have := hdl nf
        split <;> omega
      have ku : (if rA 182 j = 2 then (n : Int) else (n : Int) + 1) ≤ u 34 3 := by
        have := AO.2.2.1.2.2.1
        rw [show up_M hA 2 10 ((pa + 1 : Nat) : Int) 34 3 = hA 34 3 from up_n (by omega)] at this
        have := Q.2.2.1.2.2.1
        omega
      exact ⟨fun _ => .inr (pok_call Y Q ne nk k41 C1 R1 S1 FA l1 l3 dl0 MFA AO CL hst hk ez (fun _ => MC u v z n AO (CL.2.2.2.2.2 ku) ez nf)), fun y => absurd z9 y⟩
theorem p_own (Y : CXs X) (Q : EPr X dp p h r) (b57 : 0 ≤ r 160 57 ∧ r 160 57 + (b - a) < 9000 ∧ b ≤ 9000) (ne : 0 ≤ a ∧ a ≤ e ∧ e < b) (nd : bT X 167 e.toNat = 26 ∧ bT X 168 e.toNat = (p : Int)) (kp : bK X p = 2) (k40 : bK X (p + 1) = 40) (k41 : bK X t = 41) (pt : p + 1 < t) (A : A4 nn X dp (e + 1) b (p + 1) t (bT X 171 e.toNat)) (d d2 : Nat) : Pc (qo_X10_readNamed nn (qg_X10_readValue nn d) dp h) (fun u => Pc ((qg_X13_condition nn d2).2.2.1 e r) (fun v => (SFj u v.2 ∨ VDj X 0 a b p (t + 1) e h r u v) ∨ POk nn X 0 a b p (t + 1) e h r u v)) := by
  have Q0 := Q
  obtain ⟨B, ⟨q1, q2, q3, q4⟩, ⟨f1, f2, f3⟩, o1⟩ := Q0
  have T : ∀ cc : Nat, 163 ≤ cc ∧ cc ≤ 173 → r cc e.toNat = bT X cc e.toNat := fun cc z => B.2.2.2.2.2.1 cc e.toNat (by omega)
  have BK := Y.1
  have own := Y.2.2.2.1
  have c3 := BK.2.1
  have TB : TBc (bK X) (bP X) (bc X) h := B.1.1.1.1
  have VL : VLc (bK X) (bV X) (bc X) h := B.1.1.1.2.1
  have TQ : TBq (bK X) (bP X) (bc X) r := B.1.1.2.2.1
  have p1 : p + 1 < bc X := jp_lt BK q2 (by omega)
  have nl : ¬ bT X 167 e.toNat = 30 ∧ ¬ bT X 167 e.toNat = 31 ∧ ¬ bT X 167 e.toNat = 32 ∧ ¬ bT X 167 e.toNat = 37 ∧ ¬ bT X 167 e.toNat = 38 := by omega
  have G := fsg_X10_readValue nn d
  unfold qo_X10_readNamed
  rw [q1]
  refine pc_sv (c_valueAt BK TB VL kp rfl) ?_; intro u37 q37
  refine pc_add (by omega) ?_; intro v40 e40
  refine pc_xl ?_; intro h41 e41
  rw [show v40 = ((p + 1 : Nat) : Int) by omega] at e41
  have E41 : ∀ cc x : Nat, ¬ (cc = 2 ∧ x = 10) → h41 cc x = h cc x := fun cc x z => by rw [e41, up_n z]
  have B1 : BX X h41 r := bx_k B (fun cc x z => E41 cc x (by omega)) (fun _ _ _ => rfl)
  have TB1 : TBc (bK X) (bP X) (bc X) h41 := B1.1.1.1.1
  have f41 : h41 2 11 = 0 := by rw [E41 2 11 (by omega)]; exact q3
  have p41 : h41 2 10 = ((p + 1 : Nat) : Int) := by rw [e41, up_s]
  refine pc_sv (c_kind BK TB1 p1 p41 f41) ?_; intro u44 q44
  refine pc_if (fun z => absurd (show u44 = 40 by omega) z) (fun _ => ?_)
  have w16 : h41 49 16 = bo X := by rw [E41 49 16 (by omega)]; exact B.2.2.1.1
  rw [w16]
  -- the reference
  have RULE : ∀ (RES : Int × ms_M → Prop), (∀ d : Nat, Pc (rd_A 9000 168 e r fun v114 => mx_sv (qf_X13_memberOf nn (r 160 52) v114 1 r) fun u116 => wr_A 9000 175 e u116 r fun h117 => rd_A 9000 175 e h117 fun v119 => if ¬ v119 = (-1) then (if (h117 160 53) = 0 then (qj_X13_rule_216 nn (qg_X13_condition nn d) e h117) else (rd_A 9000 175 e h117 fun v123 => rd_A 800 182 v123 h117 fun v124 => if ¬ v124 = 1 then (qj_X13_rule_216 nn (qg_X13_condition nn d) e h117) else (rd_A 9000 168 e h117 fun v126 => mx_sv (qf_X13_wrong nn 7 v126 h117) fun u128 => qj_X13_rule_216 nn (qg_X13_condition nn d) e u128))) else (rd_A 9000 168 e h117 fun v132 => mx_sv (qf_X13_wrong nn 5 v132 h117) fun u134 => qj_X13_rule_216 nn (qg_X13_condition nn d) e u134)) (fun u => ∀ z : ms_M, z = up_M u.2 174 e.toNat u.1 → (z 160 9 = 0 → RES (u.1, z)) ∧ (¬ z 160 9 = 0 → RES (0, z)))) → Pc ((qg_X13_condition nn d2).2.2.1 e r) RES := fun RES HN => w_one (by omega) q4 (r_nled (by rw [T 167 (by omega)]; exact nl)) (fun d => ru_26 ((T 167 (by omega)).trans nd.1) (HN d)) d2
  unfold qf_X10_methodNamed
  refine p2_m ?_
  refine pc_imp (c_valueAt BK TB1 B1.1.1.1.2.1 kp rfl) (fun u4 q4' => ?_)
  rw [q4']
  refine p2_m ?_
  intro u6 e6
  have JM := j_methodOf (nn := nn) BK Y.2.1 B1.1 kp (a := bo X) (by omega) u6 e6
  -- the reference up to its member
  have RM : ∀ {QQ : Int × ms_M → Prop} (d : Nat), (∀ j : Int, LKR (bV X) (bM X) 1 (bV X p) r u6 j → ∀ h117 : ms_M, h117 = up_M r 175 e.toNat j → Pc (if ¬ j = (-1) then (if (h117 160 53) = 0 then (qj_X13_rule_216 nn (qg_X13_condition nn d) e h117) else (rd_A 9000 175 e h117 fun v123 => rd_A 800 182 v123 h117 fun v124 => if ¬ v124 = 1 then (qj_X13_rule_216 nn (qg_X13_condition nn d) e h117) else (rd_A 9000 168 e h117 fun v126 => mx_sv (qf_X13_wrong nn 7 v126 h117) fun u128 => qj_X13_rule_216 nn (qg_X13_condition nn d) e u128))) else (rd_A 9000 168 e h117 fun v132 => mx_sv (qf_X13_wrong nn 5 v132 h117) fun u134 => qj_X13_rule_216 nn (qg_X13_condition nn d) e u134)) QQ) → Pc (rd_A 9000 168 e r fun v114 => mx_sv (qf_X13_memberOf nn (r 160 52) v114 1 r) fun u116 => wr_A 9000 175 e u116 r fun h117 => rd_A 9000 175 e h117 fun v119 => if ¬ v119 = (-1) then (if (h117 160 53) = 0 then (qj_X13_rule_216 nn (qg_X13_condition nn d) e h117) else (rd_A 9000 175 e h117 fun v123 => rd_A 800 182 v123 h117 fun v124 => if ¬ v124 = 1 then (qj_X13_rule_216 nn (qg_X13_condition nn d) e h117) else (rd_A 9000 168 e h117 fun v126 => mx_sv (qf_X13_wrong nn 7 v126 h117) fun u128 => qj_X13_rule_216 nn (qg_X13_condition nn d) e u128))) else (rd_A 9000 168 e h117 fun v132 => mx_sv (qf_X13_wrong nn 5 v132 h117) fun u134 => qj_X13_rule_216 nn (qg_X13_condition nn d) e u134)) QQ := fun {QQ} d HH => by
    refine pc_rA ?_; intro _ _ v114 e114
    rw [T 168 (by omega), nd.2] at e114
    rw [e114, B.2.2.1.2]
    refine pc_sv JM ?_; intro u116 q116
    refine pc_wA ?_; intro _ _ h117 e117
    refine pc_rA ?_; intro _ _ v119 e119
    rw [e117, up_s] at e119
    rw [e119]
    exact HH u116 q116 h117 e117
  by_cases z6 : u6 = -1
  · -- no such method
    rw [if_neg (fun y => y z6)]
    refine p2_m ?_
    refine pc_imp (c_tell TB1 f41 q2 rfl) (fun u9 s9 => ?_)
    rw [mx_svs]
    dsimp only
    rw [if_pos z6]
    have S9 : ¬ u9 2 11 = 0 := by rw [s9.1.1]; decide
    unfold qj_X10_readNamed_76
    refine pc_sv (G.2.2.2.2.2.2.2.2 S9) ?_; intro u32 F
    refine pc_ret (RULE _ (fun d => RM d (fun j LK h117 e117 => ?_)))
    have j1 : j = -1 := by
      rcases LK with y | ⟨jj, kk, -, -, -, -, -, y⟩
      · exact y.2
      · omega
    refine pc_if (fun z => absurd j1 z) (fun _ => ?_)
    refine pc_rA ?_; intro _ _ v132 e132
    rw [e117, up_n (by omega), T 168 (by omega), nd.2] at e132
    refine pc_sv (r_wrong (tbq_f TQ (fun cc y z => by rw [e117, up_n (by omega)])) q2 (by rw [e117, up_n (by omega)]; exact q4) e132) ?_; intro u134 w1
    refine pc_imp (ft_qj_X13_rule_216 (ftg_X13_condition nn d) (h := u134) (by omega)) (fun y Fy => ?_)
    exact crq_f (nn := nn) (X := X) (a := a) (b := b) (p := p) (q := t + 1) (e := e) (h := h) (r := r) (c := 5) (pl := bP X p) (by omega) (by rw [F.1]; exact s9.1.1) (by rw [F.2]; exact s9.1.2) (Fy.1.trans w1.1) (Fy.2.trans w1.2)
  · rw [if_pos z6, mx_svs]
    dsimp only
    rw [if_neg z6]
    -- the member of both sides
    cases hm : qf_X13_memberOf nn (bo X) (p : Int) 1 r with
    | none =>
      refine fun u _ => RULE _ (fun d => ?_)
      refine pc_rA ?_; intro _ _ v114 e114
      rw [T 168 (by omega), nd.2] at e114
      rw [e114, B.2.2.1.2, hm]
      exact fun _ z => nomatch z
    | some j0 =>
      have MB : MBx X 1 u6 j0 := by
        rcases JM j0 hm with y | ⟨jj, kk, h1, h2, h3, h4, h5, h6⟩
        · exact absurd y.1 z6
        · rw [h5]
          exact (mbx_of B (.inr rfl) h1 h2 h3 h6).1
      obtain ⟨xn, jn, ex, ej, MF⟩ := mtf_of Y B1 MB
      rw [ex] at MB ⊢
      rw [ej] at MB hm
      have T2 : ∀ cc x : Nat, (178 ≤ cc ∧ cc ≤ 195) → r cc x = bB X cc x := fun cc x z => B.2.2.2.2.2.2.1 cc x z
      generalize hrA : up_M r 175 e.toNat (jn : Int) = rA
      have ER : ∀ cc y : Nat, ¬ (cc = 175 ∧ y = e.toNat) → rA cc y = r cc y := fun cc y z => by rw [← hrA, up_n z]
      have rA5 : rA 175 e.toNat = (jn : Int) := by rw [← hrA, up_s]
      have RRA : RFe a b r rA := ⟨fun cc y z1 z2 z3 => ER cc y (by omega), fun cc y z1 z2 z3 => ER cc y (by omega)⟩
      have still := B.2.2.2.1
      -- the reference goes on to the call
      have REFC : ∀ {RES : Int × ms_M → Prop}, (r 160 53 = 0 ∨ ¬ r 182 jn = 1) → (∀ d4 : Nat, Pc (qo_X13_called nn (qg_X13_condition nn d4) e (jn : Int) 1 rA) (fun u => ∀ z : ms_M, z = up_M u.2 174 e.toNat u.1 → (z 160 9 = 0 → RES (u.1, z)) ∧ (¬ z 160 9 = 0 → RES (0, z)))) → Pc ((qg_X13_condition nn d2).2.2.1 e r) RES := fun {RES} hs HH => by
        refine RULE _ (fun d => ?_)
        have P216 : Pc (qj_X13_rule_216 nn (qg_X13_condition nn d) e rA) (fun u => ∀ z : ms_M, z = up_M u.2 174 e.toNat u.1 → (z 160 9 = 0 → RES (u.1, z)) ∧ (¬ z 160 9 = 0 → RES (0, z))) := by
          unfold qj_X13_rule_216
          refine pc_rA ?_; intro _ _ v76 e76
          rw [rA5] at e76
          rw [e76]
          cases d with
          | zero => exact fun _ z => nomatch z
          | succ d4 => exact pc_sb (pc_imp (HH d4) (fun y hy => pc_ret hy))
        refine pc_rA ?_; intro _ _ v114 e114
        rw [T 168 (by omega), nd.2] at e114
        rw [e114, B.2.2.1.2, hm, mx_svs]
        refine pc_wA ?_; intro _ _ h117 e117
        rw [hrA] at e117
        rw [e117]
        refine pc_rA ?_; intro _ _ v119 e119
        rw [rA5] at e119
        rw [e119]
        refine pc_if (fun _ => ?_) (fun z => absurd (show ¬ (jn : Int) = -1 by omega) z)
        refine pc_if (fun _ => P216) (fun z53 => ?_)
        refine pc_rA ?_; intro _ _ v123 e123
        rw [rA5] at e123
        refine pc_rA ?_; intro _ _ v124 e124
        rw [e123, Int.toNat_natCast, ER 182 _ (by omega)] at e124
        rw [ER 160 53 (by omega)] at z53
        refine pc_if (fun _ => P216) (fun z => ?_)
        rcases hs with y | y
        · exact absurd y z53
        · exact absurd (show ¬ v124 = 1 by rw [e124]; exact y) z
      have CORE : ∀ (hA : ms_M) (dl : Int), EPr X dp (p + 1) hA r → CFe h hA → SGb h hA → hA 34 1 + 20 * (p : Int) ≤ h 34 1 + 20 * ((p + 1 : Nat) : Int) → hA 34 3 = h 34 3 + dl → (r 160 53 = 0 ∨ ¬ r 182 jn = 1) → ((r 182 jn = 2 ∧ dl = 0 ∧ ∀ cc y : Nat, ¬ (cc = 2 ∧ y = 10) → hA cc y = h cc y) ∨ (r 182 jn = 1 ∧ dl = 1 ∧ CTh h41 hA)) → Pc (qj_X10_readNamed_76 nn (qg_X10_readValue nn d) dp (p : Int) (xn : Int) hA) (fun u => Pc ((qg_X13_condition nn d2).2.2.1 e r) (fun v => (SFj u v.2 ∨ VDj X 0 a b p (t + 1) e h r u v) ∨ POk nn X 0 a b p (t + 1) e h r u v)) := fun hA dl QA CA SA lA1 lA3 hs kind => by
        have QA2 : EPr X dp (p + 1) hA rA := ⟨bx_k QA.1 (fun _ _ _ => rfl) (fun cc y z => ER cc y (by omega)), ⟨QA.2.1.1, QA.2.1.2.1, QA.2.1.2.2.1, by rw [ER 160 9 (by omega)]; exact q4⟩, QA.2.2⟩
        have MFA : MTf X hA rA xn jn := mtf_k MF (fun cc y z => by rw [CA cc y (by omega) (by omega) (by omega) (by omega) (by omega) (by omega) (by omega) (by omega)]; exact (E41 cc y (by omega)).symm) (fun cc y z => ER cc y (by omega))
        have rA57 := ER 160 57 (by omega)
        unfold qj_X10_readNamed_76
        rw [QA.1.2.2.1.1]
        cases d with
        | zero => exact fun _ z => nomatch z
        | succ d =>
          refine pc_sv (P := fun uF => ∀ d4 : Nat, Pc (qo_X13_called nn (qg_X13_condition nn d4) e (jn : Int) 1 rA) (CRq nn X a b p (t + 1) e h r uF)) ?_ (fun u32 H32 => pc_ret (REFC hs H32))
          show Pc (qo_X10_readCall nn (qg_X10_readValue nn d) (bo X) (xn : Int) (p : Int) 0 (p : Int) dp hA) _
          intro uF eF d4
          refine call_core (c := bo X) (at_ := (p : Int)) (how := 0) (st := (p : Int)) (fit := 1) (tk := p) Y (by omega) A k41 QA2 (by omega) MFA MB (by omega) rfl q2 nd.2 (.inr rfl) ⟨fun z => by omega, fun z => by omega⟩ d d4 (fun uF y => CRq nn X a b p (t + 1) e h r uF y) (fun uF y C => ?_) uF eF
          have k182 := ER 182 jn (by omega)
          refine crq_c (dl := dl) (c := bo X) (st := (p : Int)) (fit := 1) (tk := p) Y Q ne (.inl nd.1) k41 nd.2 q2 CA RRA SA QA.2.2.1.1 lA1 lA3 (by omega) MFA rfl (fun _ => by rcases kind with y | y <;> omega) (fun u v z n AO CM ez _ => ?_) C
          have vA : ∀ cc : Nat, 174 ≤ cc → cc ≤ 176 → v cc e.toNat = rA cc e.toNat := fun cc c1 c2 => AO.2.1.2.1.2 cc _ c1 c2 (by omega)
          refine mkc_one nl ne (fun PB WL L m dd M AM b1 b2 => ?_)
          obtain ⟨MT, MTB, -, -, m52, -, -⟩ := mk_t M
          have a4 : m 174 e.toNat = ty_T (u 24 xn) := by rw [AM 174 e.toNat (by omega) (by omega) (by omega) (by omega), ez, up_s]
          have a5 : m 175 e.toNat = (jn : Int) := by rw [AM 175 e.toNat (by omega) (by omega) (by omega) (by omega), ez, up_n (by omega), vA 175 (by omega) (by omega)]; exact rA5
          have o52 : m 160 52 = bo X := by
            have n8 := Y.2.2.1
            have := ty_c (vtn_v Y.2.2.1 (show VTn (bn X) (bo X) from .inr (.inr (.inr (.inr (.inr (.inl (by omega))))))))
            omega
          have AM2 : AN (e + 1) b v m := an_s AM ⟨by omega, Int.le_refl _⟩ (fun cc y c1 c2 c4 c5 => by rw [ez, up_n (by omega)])
          have h1p : ∀ cc y : Nat, ¬ (cc = 2 ∧ y = 10) → up_M hA 2 10 ((p + 1 + 1 : Nat) : Int) cc y = hA cc y := fun cc y z => up_n z
          have t3 : t < bc X := AO.1.2.1
          have nt : p + 1 + 1 + n ≤ t := AO.2.2.1.2.2.2
          -- the call itself
          have WC : ∀ (w : ms_M) (a3 : Int), MKx X PB WL L hA w → w 160 88 = m 160 88 → w 160 57 = m 160 57 → w 160 52 = m 160 52 → (∀ cc y : Nat, 174 ≤ cc → cc ≤ 176 → w cc y = m cc y) → ((a3 = 0 ∧ r 182 jn = 1) ∨ (a3 = 1 ∧ r 182 jn = 2)) → Pc (qj_X13_workOne_268 nn (qg_X13_work nn dd) e a3 w) (fun w => MKx X PB WL L uF w ∧ (m 160 88 ≤ w 160 88 ∧ w 160 88 + 4 * (p : Int) ≤ m 160 88 + 4 * ((t + 1 : Nat) : Int))) := fun w a3 Mw l8 l5 l52 aw h3 => by
            unfold qj_X13_workOne_268
            rw [l52, o52]
            cases dd with
            | zero => exact fun _ z => nomatch z
            | succ dd =>
              have Mw1 : MKx X PB WL L (up_M hA 2 10 ((p + 1 + 1 : Nat) : Int)) w := mkx_c Mw (fun cc y z1 z2 z3 => h1p cc y (by omega))
              refine pc_sb (pc_imp (m_wcall (pa := p + 1) (t := t) (x := xn) (j := jn) (c := bo X) (a3 := a3) Mw1 AO.2.2.2 CM (an_m AM2 aw) (by rw [aw 175 _ (by omega) (by omega)]; exact a5) (by rw [aw 174 _ (by omega) (by omega)]; exact a4) ?_ (by omega) (by omega) (by omega)) (fun w2 y => pc_ret ⟨y.1, by omega⟩))
              rcases h3 with y | y
              · exact .inl ⟨y.1, by rw [if_neg (by omega)], by rw [if_neg (by omega)]⟩
              · exact .inr ⟨y.1, by rw [if_pos (by omega)], by rw [if_pos (by omega)]⟩
          refine wo_26 ((MT 167 _ (by omega)).trans nd.1) a4 ?_
          refine pc_rA ?_; intro _ _ v124 e124
          rw [a5] at e124
          refine pc_rA ?_; intro _ _ v125 e125
          rw [e124, Int.toNat_natCast, MTB 182 _ (by omega), ← T2 182 _ (by omega)] at e125
          unfold qj_X13_workOne_259
          rcases kind with ⟨y1, y2, y3⟩ | ⟨y1, y2, y3⟩
          · refine pc_if (fun z => absurd (show v125 = 2 by omega) z) (fun _ => ?_)
            refine pc_if (fun _ => ?_) (fun z => absurd (show ¬ (1 : Int) = 0 by decide) z)
            exact WC m 1 (mkx_c M (fun cc y z1 z2 z3 => y3 cc y (by omega))) rfl rfl rfl (fun _ _ _ _ => rfl) (.inr ⟨rfl, y1⟩)
          · refine pc_if (fun _ => ?_) (fun z => absurd (show ¬ v125 = 2 by omega) z)
            refine pc_if (fun z => absurd rfl z) (fun _ => ?_)
            have M41 : MKx X PB WL L h41 m := mkx_c M (fun cc y z1 z2 z3 => E41 cc y (by omega))
            have SF : Pc (qf_X13_self nn m) (fun w => (MKx X PB WL L hA w ∧ w 160 88 = m 160 88) ∧ (w 160 57 = m 160 57 ∧ w 160 52 = m 160 52 ∧ ∀ cc y : Nat, 174 ≤ cc → cc ≤ 176 → w cc y = m cc y)) := by
              refine pc_and (m_self y3 w16 Y M41 (by rw [E41 34 1 (by omega)]; omega)) (fun w ew => ?_)
              have FW : ∀ cc y : Nat, ¬ (cc = 160 ∧ (y = 68 ∨ y = 70 ∨ y = 71)) → ¬ (cc = 206 ∨ cc = 207) → w cc y = m cc y := fun cc y c1 c2 => ff_X13_self nn w ew cc y (nw_of (by unfold wl_X13_self; simp only [List.mem_cons, List.not_mem_nil, or_false]; omega) (by unfold wf_X13_self; simp only [List.mem_cons, List.not_mem_nil, or_false, Prod.mk.injEq]; omega))
              exact ⟨FW 160 57 (by omega) (by omega), FW 160 52 (by omega) (by omega), fun cc y c1 c2 => FW cc y (by omega) (by omega)⟩
            refine pc_sv SF ?_; intro w ⟨⟨Mw, l8⟩, l5, l52, aw⟩
            exact WC w 0 Mw l8 l5 l52 aw (.inl ⟨rfl, y1⟩)
      have e411 := E41 34 1 (by omega)
      have e413 := E41 34 3 (by omega)
      have Q41 : EPr X dp (p + 1) h41 r := epr_in Q E41 p41 (by omega) p1
      refine pc_sv (c_fixd MF) ?_; intro u58 q58
      refine pc_if (fun z => ?_) (fun z => ?_)
      · have k2 : r 182 jn = 2 := by omega
        exact CORE h41 0 Q41 (fun cc y a1 a2 a3 a4 a5 a6 a7 a8 => E41 cc y (by omega)) ⟨E41 49 10 (by omega), fun cc y a1 a2 a3 => E41 cc y (by omega)⟩ (by omega) (by omega) (.inr (by omega)) (.inl ⟨k2, rfl, E41⟩)
      · have k1 : r 182 jn = 1 := by omega
        refine pc_sv (c_this TB1 f41 q2 rfl (by omega) (by omega)) ?_; intro u60 q60
        rcases q60 with ⟨s0, CT⟩ | ⟨s0, s1, s2⟩
        · obtain ⟨⟨g1, g2, g3, g4⟩, g5⟩ := cth_f CT
          have W60 : ∀ cc y : Nat, ¬ (cc = 2 ∧ y = 10) → ¬ (cc = 34 ∧ (y = 1 ∨ y = 3 ∨ y = 4)) → ¬ (cc = 35 ∨ cc = 36) → ¬ (cc = 49 ∧ (y = 11 ∨ y = 12)) → u60 cc y = h cc y := fun cc y a1 a2 a3 a4 => by rw [g5 cc y a2 a3 a4]; exact E41 cc y a1
          have Q60 : EPr X dp (p + 1) u60 r := ⟨bx_k B (fun cc y z => W60 cc y (by omega) (by omega) (by omega) (by omega)) (fun _ _ _ => rfl), ⟨by rw [g5 2 10 (by omega) (by omega) (by omega)]; exact p41, p1, by rw [g5 2 11 (by omega) (by omega) (by omega)]; exact f41, q4⟩, ⟨frc_k f1 (fun cc y z => W60 cc y (by omega) (by omega) (by omega) (by omega)), ⟨by omega, by omega⟩, by omega, by omega⟩, by rw [W60 49 10 (by omega) (by omega) (by omega) (by omega)]; exact o1.1, by rw [W60 49 10 (by omega) (by omega) (by omega) (by omega)]; exact o1.2.1, by rw [W60 49 18 (by omega) (by omega) (by omega) (by omega)]; omega⟩
          have st0 : r 160 53 = 0 := by
            rw [E41 49 17 (by omega)] at s0
            rcases still with y | y
            · exact y.1
            · exact absurd s0 y.2.1
          exact CORE u60 1 Q60 (fun cc y a1 a2 a3 a4 a5 a6 a7 a8 => W60 cc y (by omega) (by omega) (by omega) (by omega)) ⟨W60 49 10 (by omega) (by omega) (by omega) (by omega), fun cc y a1 a2 a3 => W60 cc y (by omega) (by omega) (by omega) (by omega)⟩ (by omega) (by omega) (.inl st0) (.inr ⟨k1, rfl, CT⟩)
        · have S60 : ¬ u60 2 11 = 0 := by omega
          unfold qj_X10_readNamed_76
          refine pc_sv (G.2.2.2.2.2.2.2.2 S60) ?_; intro u32 F
          refine pc_ret (RULE _ (fun d => ?_))
          refine pc_rA ?_; intro _ _ v114 e114
          rw [T 168 (by omega), nd.2] at e114
          rw [e114, B.2.2.1.2, hm, mx_svs]
          refine pc_wA ?_; intro _ _ h117 e117
          rw [hrA] at e117
          rw [e117]
          refine pc_rA ?_; intro _ _ v119 e119
          rw [rA5] at e119
          rw [e119]
          refine pc_if (fun _ => ?_) (fun z => absurd (show ¬ (jn : Int) = -1 by omega) z)
          refine pc_if (fun z53 => ?_) (fun z53 => ?_)
          · rw [ER 160 53 (by omega)] at z53
            rw [E41 49 17 (by omega)] at s0
            rcases still with y | y
            · exact absurd y.2.1 s0
            · exact absurd z53 y.1
          refine pc_rA ?_; intro _ _ v123 e123
          rw [rA5] at e123
          refine pc_rA ?_; intro _ _ v124 e124
          rw [e123, Int.toNat_natCast, ER 182 _ (by omega)] at e124
          refine pc_if (fun z => absurd (show v124 = 1 by omega) z) (fun _ => ?_)
          refine pc_rA ?_; intro _ _ v126 e126
          rw [ER 168 _ (by omega), T 168 (by omega), nd.2] at e126
          refine pc_sv (r_wrong (tbq_f TQ (fun cc y z => ER cc y (by omega))) q2 (by rw [ER 160 9 (by omega)]; exact q4) e126) ?_; intro u128 w1
          refine pc_imp (ft_qj_X13_rule_216 (ftg_X13_condition nn d) (h := u128) (by omega)) (fun y Fy => ?_)
          exact crq_f (nn := nn) (X := X) (a := a) (b := b) (p := p) (q := t + 1) (e := e) (h := h) (r := r) (c := 7) (pl := bP X p) (by omega) (by rw [F.1]; exact s1) (by rw [F.2]; exact s2) (Fy.1.trans w1.1) (Fy.2.trans w1.2)
theorem p3_pc (Y : CXs X) (ne : 0 ≤ a ∧ a ≤ e ∧ e < b) (nd : bT X 167 e.toNat = 26 ∧ bT X 168 e.toNat = (p : Int)) (kp : bK X p = 2) (k40 : bK X (p + 1) = 40) (k41 : bK X t = 41) (pt : p + 1 < t) (A : A4 nn X dp (e + 1) b (p + 1) t (bT X 171 e.toNat)) (hq : q = t + 1) : P3 nn X dp 0 a b p q e := by
  intro d d2 h r Z Q b57 HB HC HF
  subst hq
  have Q0 := Q
  obtain ⟨B, ⟨q1, q2, q3, q4⟩, -, -⟩ := Q0
  have TB : TBc (bK X) (bP X) (bc X) h := B.1.1.1.1
  unfold qo_X10_readPrimary
  refine pc_sv (c_kind Y.1 TB q2 q1 q3) ?_; intro u25 q25
  refine pc_if (fun _ => ?_) (fun z => absurd (show u25 = 2 by omega) z)
  refine p3_fin Y Q ?_ HC HF q1
  cases d with
  | zero => exact pc_none
  | succ d => exact p_own Y Q b57 ne nd kp k40 k41 pt A d d2
end
