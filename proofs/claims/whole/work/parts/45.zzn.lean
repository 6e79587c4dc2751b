/- calls: from the bracket on -/
/-- what a call comes to -/
def CPO (nn : Nat) (X : BCx) (a b e c st fit : Int) (x j pa t tk : Nat) (hA rA uF : ms_M) (y : Int × ms_M) : Prop := SFj uF y.2 ∨ ∃ (u v : ms_M) (n : Nat), AOk nn X (bT X 171 e.toNat) a b (pa + 1) t n (up_M hA 2 10 ((pa + 1 : Nat) : Int)) rA u v ∧ ((y = (3, v) ∧ u 24 x = 303 ∧ uF 2 11 = 6 ∧ uF 2 12 = bP X tk ∧ ¬ (bK X (t + 1) = 46 ∧ st = u 49 18)) ∨ (y = (ty_T (u 24 x), v) ∧ ¬ fit = 0 ∧ CLRq nn X e c st x t n (j : Int) (if v 182 j = 2 then 184 else 182) (if v 182 j = 2 then (n : Int) else (n : Int) + 1) u uF))
section
variable {nn : Nat} {X : BCx} {dp i l a b e s k c st fit how at_ : Int} {p q t tk pa x j : Nat} {h hA g u r rA w m v : ms_M}
theorem call_core (Y : CXs X) (ne : 0 ≤ e) (A : A4 nn X dp a b pa t (bT X 171 e.toNat)) (k41 : bK X t = 41) (Q : EPr X dp pa hA rA) (b57 : 0 ≤ rA 160 57 ∧ rA 160 57 + (b - a) < 9000 ∧ b ≤ 9000) (MF : MTf X hA rA x j) (MB : MBx X 1 (x : Int) (j : Int)) (hc : 0 ≤ c ∧ c < 8 + (bn X : Int)) (hat : at_ = (tk : Int)) (kc : tk < bc X) (e68 : bT X 168 e.toNat = (tk : Int)) (hf : fit = 0 ∨ fit = 1) (way : fit = 0 ↔ ((rA 182 j = 2 ∧ how = 1) ∨ (rA 182 j = 1 ∧ how = 2))) (d d2 : Nat) (Zp : ms_M → Int × ms_M → Prop) (HZ : ∀ uF y, CPO nn X a b e c st fit x j pa t tk hA rA uF y → Zp uF y) : Pc (qo_X10_readCall nn (qg_X10_readValue nn d) c (x : Int) at_ how st dp hA) (fun uF => Pc (qo_X13_called nn (qg_X13_condition nn d2) e (j : Int) fit rA) (Zp uF)) := by
  obtain ⟨B, ⟨q1, q2, q3, q4⟩, ⟨f1, f2, f3⟩, o1⟩ := Q
  have Q : EPr X dp pa hA rA := ⟨B, ⟨q1, q2, q3, q4⟩, ⟨f1, f2, f3⟩, o1⟩
  have c3 := Y.1.2.1
  have G := fsg_X10_readValue nn d
  have Gt := ftg_X13_condition nn d2
  have tc : t < bc X := tb_lt Y.1 (by omega)
  have W : Pc (qo_X10_readCall nn (qg_X10_readValue nn d) c (x : Int) at_ how st dp hA) (fun uF => Pc (qw_X13_called_23 nn (qg_X13_condition nn d2) nn e (j : Int) fit 0 (bT X 171 e.toNat) rA) (Zp uF)) := by
    refine A d d2 hA rA c at_ how st e fit x j Zp Q b57 MF hf (fun u v n2 rt2 AO hr => ?_) (fun u v n2 rt2 gd2 S => ?_)
    · obtain ⟨⟨y1, y2, y3, y4, y5⟩, ⟨y6, y7, y8, y9⟩, ⟨y10, y11, y12, y13⟩, MA⟩ := AO
      have E : ∀ cc y : Nat, ¬ (cc = 2 ∧ y = 10) → up_M hA 2 10 ((pa + 1 : Nat) : Int) cc y = hA cc y := fun cc y z => up_n z
      have B2 : BX X u v := bx_e (bx_k B (fun cc y z => E cc y (by omega)) (fun _ _ _ => rfl)) y6 y7
      have MF2 : MTf X u v x j := mtf_k MF (fun cc y z => by rw [y6 cc y (by omega) (by omega) (by omega) (by omega) (by omega) (by omega) (by omega) (by omega)]; exact E cc y (by omega)) (fun cc y z => y7.1 cc y (by omega) (by omega) (by omega))
      have e1 := E 34 1 (by omega)
      have e3 := E 34 3 (by omega)
      rw [e1] at y11
      rw [e3] at y12
      have v182 : v 182 j = rA 182 j := y7.1 182 j (by omega) (by omega) (by omega)
      refine pc_imp (c_call (fit := fit) (st := st) (how := how) (n := n2) G Y B2 MF2 MB hc k41 y1 y2 y4 y5 hat kc ne e68 (by rw [v182]; exact way) hr (by omega) (by omega)) (fun uF HU => pc_imp HU (fun y hy => HZ uF y ?_))
      rcases hy with S | S | S
      · exact .inl S
      · exact .inr ⟨u, v, n2, ⟨⟨y1, y2, y3, y4, y5⟩, ⟨y6, y7, y8, y9⟩, ⟨y10, by rw [e1]; exact y11, by rw [e3]; exact y12, y13⟩, MA⟩, .inl S⟩
      · exact .inr ⟨u, v, n2, ⟨⟨y1, y2, y3, y4, y5⟩, ⟨y6, y7, y8, y9⟩, ⟨y10, by rw [e1]; exact y11, by rw [e3]; exact y12, y13⟩, MA⟩, .inr S⟩
    · exact pj_sf (o := fun u => u) (q := fun y => y.2) S (fs_qj_X10_readCall_128 G S.1) (ft_qj_X13_called_110 Gt (sf_r S)) (fun uF y S2 => HZ uF y (.inl S2))
  refine pc_imp W (fun uF HU => ?_)
  unfold qo_X13_called
  refine pc_if (fun _ => ?_) (fun z => absurd q4 z)
  refine pc_rA ?_; intro _ _ v35 e35
  rw [B.2.2.2.2.2.1 171 _ (by omega)] at e35
  rw [e35]
  exact HU
/-- the making of a call from its ARGS on -/
theorem m_wcall {PB : Nat → Prop} {WL : Int → Int → Prop} {L : List (Int × Int)} {d n : Nat} {a3 op kp : Int} {h1 uF : ms_M} (M : MKx X PB WL L h1 m) (MA : MKA nn X (bT X 171 e.toNat) a b (pa + 1) t n h1 u v) (CM : ∀ (rc : tq_X13_work) (PB : Nat → Prop) (WL : Int → Int → Prop) (L : List (Int × Int)) (w : ms_M), MKx X PB WL L u w → w 175 e.toNat = (j : Int) → w 174 e.toNat = ty_T (u 24 x) → Pc (qj_X13_workCall_65 nn rc e c kp op w) (fun w2 => MKx X PB WL L uF w2 ∧ w2 160 88 = w 160 88)) (AM : AN a b v m) (w5 : m 175 e.toNat = (j : Int)) (w4 : m 174 e.toNat = ty_T (u 24 x)) (h3 : (a3 = 0 ∧ op = 182 ∧ kp = (n : Int) + 1) ∨ (a3 = 1 ∧ op = 184 ∧ kp = (n : Int))) (b57 : 0 ≤ m 160 57 ∧ m 160 57 + (b - a) < 9000) (b88 : m 160 88 + 4 * (t : Int) ≤ 2000000000 + 4 * ((pa + 1 : Nat) : Int)) (n3 : n ≤ 3001) : Pc (qo_X13_workCall nn (qg_X13_work nn d) e c a3 m) (fun w => MKx X PB WL L uF w ∧ (m 160 88 ≤ w 160 88 ∧ w 160 88 + 4 * ((pa + 1 : Nat) : Int) ≤ m 160 88 + 4 * (t : Int))) := by
  have MT := (mk_t M).1
  have P9 : ∀ l4 : Int, (0 ≤ l4 ∧ l4 ≤ 1) → kp = l4 + (n : Int) → Pc (qj_X13_workCall_9 nn (qg_X13_work nn d) e c a3 l4 m) (fun w => MKx X PB WL L uF w ∧ (m 160 88 ≤ w 160 88 ∧ w 160 88 + 4 * ((pa + 1 : Nat) : Int) ≤ m 160 88 + 4 * (t : Int))) := fun l4 hl hk => by
    unfold qj_X13_workCall_9
    refine pc_rA ?_; intro _ _ v23 e23
    rw [MT 171 _ (by omega)] at e23
    rw [e23]
    refine MA d nn e c a3 l4 PB WL L m _ M AM b57 b88 (by omega) (fun f2 w Mw lw aw kw => ?_)
    cases f2 with
    | zero => exact pc_none
    | succ f2 =>
      have P65 : ∀ o : Int, o = op → Pc (qj_X13_workCall_65 nn (qg_X13_work nn d) e c (l4 + (n : Int)) o w) (fun w2 => MKx X PB WL L uF w2 ∧ (m 160 88 ≤ w2 160 88 ∧ w2 160 88 + 4 * ((pa + 1 : Nat) : Int) ≤ m 160 88 + 4 * (t : Int))) := fun o ho => by
        rw [ho, ← hk]
        exact pc_imp (CM _ PB WL L w Mw (by rw [aw 175 _ (by omega) (by omega)]; exact w5) (by rw [aw 174 _ (by omega) (by omega)]; exact w4)) (fun w2 y => ⟨y.1, by rw [y.2]; exact lw⟩)
      unfold qw_X13_workCall_19
      refine pc_if (fun _ => ?_) (fun z => absurd rfl z)
      exact pc_if (fun z => P65 182 (by omega)) (fun z => P65 184 (by omega))
  unfold qo_X13_workCall
  exact pc_if (fun z => P9 1 (by omega) (by omega)) (fun z => P9 0 (by omega) (by omega))
/-- a call that is right -/
theorem pok_call {n : Nat} {kp op dl : Int} {uF z : ms_M} (Y : CXs X) (Q : EPr X dp p h r) (ne : 0 ≤ a ∧ a ≤ e ∧ e < b) (nk : bT X 167 e.toNat = 26 ∨ bT X 167 e.toNat = 31) (k41 : bK X t = 41) (C1 : CFe h hA) (R1 : RFe a b r rA) (S1 : SGb h hA) (FA : FRc hA) (l1 : hA 34 1 + 20 * (p : Int) ≤ h 34 1 + 20 * (pa : Int)) (l3 : hA 34 3 = h 34 3 + dl) (dl0 : 0 ≤ dl ∧ dl + (p : Int) ≤ (pa : Int)) (MFA : MTf X hA rA x j) (AO : AOk nn X (bT X 171 e.toNat) (e + 1) b (pa + 1) t n (up_M hA 2 10 ((pa + 1 : Nat) : Int)) rA u v) (CL : CLRq nn X e c st x t n (j : Int) op kp u uF) (hst : st = (p : Int)) (hkp : kp = (n : Int) + dl) (ez : z = up_M v 174 e.toNat (ty_T (u 24 x))) (MC : ¬ bK X (t + 1) = 51 → MKC nn X e a b p (t + 1) h uF z) : POk nn X 0 a b p (t + 1) e h r uF (ty_T (u 24 x), z) := by
  obtain ⟨⟨y1, y2, y3, y4, y5⟩, ⟨y6, y7, y8, y9⟩, ⟨y10, y11, y12, y13⟩, -⟩ := AO
  obtain ⟨⟨z1, z2, z3, z4, z5⟩, z6, ⟨z7, z8, z9⟩, z10, z11, -⟩ := CL
  have c3 := Y.1.2.1
  have h30 := Q.2.2.1.2.2.1
  have E : ∀ cc y : Nat, ¬ (cc = 2 ∧ y = 10) → up_M hA 2 10 ((pa + 1 : Nat) : Int) cc y = hA cc y := fun cc y z => up_n z
  have e1 := E 34 1 (by omega)
  have e3 := E 34 3 (by omega)
  have e24 : u 24 x = hA 24 x := by rw [y6 24 x (by omega) (by omega) (by omega) (by omega) (by omega) (by omega) (by omega) (by omega)]; exact E 24 x (by omega)
  have v24 : VTn (bn X) (u 24 x) := by rw [e24]; exact MFA.2.2.2.2.1
  have t1c : t + 1 < bc X := jp_lt Y.1 y2 (by omega)
  have CF : CFe h uF := cfe_t C1 (cfe_t (g := up_M hA 2 10 ((pa + 1 : Nat) : Int)) (fun cc y a1 a2 a3 a4 a5 a6 a7 a8 => E cc y (by omega)) (cfe_t y6 (fun cc y a1 a2 a3 a4 a5 a6 a7 a8 => z6 cc y (by omega) (by omega) (by omega) a5 a6 (by omega))))
  have SB : SGb h uF := sgb_t S1 (sgb_t (g := up_M hA 2 10 ((pa + 1 : Nat) : Int)) ⟨E 49 10 (by omega), fun cc y a1 a2 a3 => E cc y (by omega)⟩ (sgb_t y8 ⟨z6 49 10 (by omega) (by omega) (by omega) (by omega) (by omega) (by omega), fun cc y a1 a2 a3 => z6 cc y (by omega) (by omega) (by omega) (by omega) (by omega) (by omega)⟩))
  have R2 : RFe a b r v := rfe_t R1 y7 ⟨Int.le_refl _, Int.le_refl _⟩ ⟨by omega, Int.le_refl _⟩
  have RF : RFe a b r z := ⟨fun cc y a1 a2 a3 => by rw [ez, up_n (by omega)]; exact R2.1 cc y a1 a2 a3, fun cc y a1 a2 a3 => by rw [ez, up_n (by omega)]; exact R2.2 cc y a1 a2 a3⟩
  refine ⟨⟨z1, t1c, by omega, z2, by show z 160 9 = 0; rw [ez, up_n (by omega)]; exact y5⟩, ⟨by rw [z4], by rw [z4]; exact v24, by show z 174 e.toNat = _; rw [ez, up_s]⟩, ⟨CF, RF, SB⟩, ⟨frc_k y10 (fun cc y a => z6 cc y (by omega) (by omega) (by omega) (by omega) (by omega) (by omega)), ⟨by omega, by omega⟩, z8, by omega⟩, .inl ⟨.inl ⟨z3, rfl, nk, fun w => ?_⟩, fun _ => .inl ⟨by omega, by omega, fun w => by omega⟩, fun nq => ⟨⟨?_, z11⟩, MC nq⟩⟩⟩
  · obtain ⟨w1, w2⟩ := z5 (z4.symm.trans w)
    exact ⟨w1, by rw [z6 49 18 (by omega) (by omega) (by omega) (by omega) (by omega) (by omega), ← w2]; exact hst⟩
  · rw [z10 (by omega), z4]
    omega
end
