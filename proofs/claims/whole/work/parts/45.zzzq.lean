/- S of both sides: what is given a value, the making -/
section
variable {nn : Nat} {X : BCx} {dp i a b a1 b1 a2 b2 e e1 e2 s bb lb lh d o en k ix iy y0 : Int} {p q t uu : Nat} {h g u r w m z h13 h35 u16 u38 g1 g2 g3 : ms_M} {v v1 v2 : Int × ms_M} {PB : Nat → Prop} {WL : Int → Int → Prop} {L : List (Int × Int)}
/-- a variable -/
theorem m_as2 (n8 : bn X ≤ 8) (r1 : 0 ≤ s ∧ s + 1 ≤ e1 ∧ e1 < y0 ∧ y0 ≤ b ∧ b ≤ 8999) (F : FM2 X ix e1 h13 u16 v1.2) (t4 : v1.2 174 e1.toNat = ty_T (u16 49 12)) (vt : VTn (bn X) (u16 49 12)) (e35 : h35 = up_M u16 2 10 ((t + 1 : Nat) : Int)) (y2 : MKC nn X e2 y0 b (t + 1) uu h35 u38 v2.2) (A1 : COp (if u16 49 12 = 301 ∨ u16 49 12 = 302 then 54 else 58) u38 g1) (A2 : COp (u16 49 14) g1 g2) (A3 : CPo 1 g2 g3) (ez : z = up_M g3 2 10 ((uu + 1 : Nat) : Int)) (l3 : 1 ≤ u38 34 3 ∧ u38 34 3 ≤ 100000) (l1 : u38 34 1 ≤ 900000) (pt : p < t) (M : MKx X PB WL L h13 m) (AM1 : AN (s + 1) y0 v1.2 m) (AM2 : AN y0 b v2.2 m) (m57 : m 160 57 = 0) (m88 : m 160 88 + 4 * (uu : Int) ≤ 2000000000 + 4 * (p : Int)) : Pc (qf_X13_assign nn e1 e2 m) (fun w => MKx X PB WL L z w ∧ (m 160 88 ≤ w 160 88 ∧ w 160 88 + 4 * (p : Int) ≤ m 160 88 + 4 * (uu : Int)) ∧ MWf m w) := by
  obtain ⟨⟨f1, f2, f3⟩, ⟨f4, f5, f6, f7, f8⟩, EQ⟩ := F
  obtain ⟨MT, -, -⟩ := mk_t M
  have tyc := ty_c (vtn_v n8 vt)
  have M16 : MKx X PB WL L u16 m := mk_c M EQ
  have T65 : ∀ (o : Int) (w : ms_M), o = (if u16 49 12 = 301 ∨ u16 49 12 = 302 then 54 else 58) → MKx X PB WL L u38 w → w 176 e1.toNat = u16 49 14 → Pc (qj_X13_assign_65 nn e1 o w) (fun w2 => MKx X PB WL L z w2 ∧ ∀ cc x : Nat, ¬ (cc = 160 ∧ (x = 68 ∨ x = 70)) → ¬ cc = 206 → w2 cc x = w cc x) := fun o w eo Mw w6 => by
    have cb := Mw.1.1.1
    have sk := Mw.2.1
    unfold qj_X13_assign_65
    refine pc_sv (r_put (by omega)) ?_; intro u16' B1
    refine pc_rA ?_; intro _ _ v18 e18
    rw [B1.2.2 176 _ (by omega) (by omega), w6] at e18
    rw [e18]
    have l68 := B1.1
    refine pc_sv (r_put (by omega)) ?_; intro u20 B2
    have l70 : u20 160 70 = w 160 70 := by rw [B2.2.2 160 70 (by omega) (by omega)]; exact B1.2.2 160 70 (by omega) (by omega)
    refine pc_sub (by omega) ?_; intro v22 e22
    refine pc_xl ?_; intro h23 e23
    have N1 : MKx X PB WL L g1 u16' := mk_op Mw A1 B1 (fun _ => eo) (by unfold in_R; split <;> omega)
    have N2 : MKx X PB WL L g2 u20 := mk_op N1 A2 B2 (fun _ => rfl) (by unfold in_R; omega)
    have N3 : MKx X PB WL L g3 h23 := mk_pop N2 A3 (by rw [A2.2.2 34 3 (by omega) (by omega), A1.2.2 34 3 (by omega) (by omega)]; omega) (by rw [e23, e22])
    refine pc_ret ⟨mkx_c N3 (fun cc x q1 q2 q3 => by rw [ez, up_n (by omega)]), fun cc x q1 q2 => ?_⟩
    rw [e23, up_n (by omega), B2.2.2 cc x (by omega) (by omega)]
    exact B1.2.2 cc x (by omega) (by omega)
  unfold qf_X13_assign
  refine pc_rA ?_; intro _ _ v25 e25
  rw [MT 167 _ (by omega)] at e25
  refine pc_if (fun _ => ?_) (fun z => absurd (show v25 = 25 by omega) z)
  refine pc_rA ?_; intro _ _ v31 e31
  rw [AM1 175 _ (by omega) (by omega) (by omega) (by omega), f4] at e31
  refine pc_if (fun z => absurd e31 z) (fun _ => ?_)
  refine pc_sv (se_m (a := y0) (b := b) y2 (mkx_c M16 (fun cc x q1 q2 q3 => by rw [e35, up_n (by omega)])) AM2 m57 (by omega) (by omega)) ?_; intro w ⟨⟨Mw, lw⟩, Fw, Ew⟩
  have w6 : w 176 e1.toNat = u16 49 14 := by rw [Ew 176 _ (by omega), AM1 176 _ (by omega) (by omega) (by omega) (by omega)]; exact f5
  refine pc_rA ?_; intro _ _ v51 e51
  rw [Ew 174 _ (by omega), AM1 174 _ (by omega) (by omega) (by omega) (by omega), t4] at e51
  have FIN : ∀ w2 : ms_M, (MKx X PB WL L z w2 ∧ ∀ cc x : Nat, ¬ (cc = 160 ∧ (x = 68 ∨ x = 70)) → ¬ cc = 206 → w2 cc x = w cc x) → MKx X PB WL L z w2 ∧ (m 160 88 ≤ w2 160 88 ∧ w2 160 88 + 4 * (p : Int) ≤ m 160 88 + 4 * (uu : Int)) ∧ MWf m w2 := fun w2 y => by
    have l88 := y.2 160 88 (by omega) (by omega)
    exact ⟨y.1, by omega, mwf_t Fw (mwf_o (fun cc x q => y.2 cc x (by omega) (by omega)))⟩
  refine pc_if (fun z => pc_imp (T65 58 w ?_ Mw w6) FIN) (fun z => pc_imp (T65 54 w ?_ Mw w6) FIN)
  · rw [if_neg (by omega)]
  · rw [if_pos (by omega)]
/-- a field: the end -/
theorem m_as3e {u14 : Int × ms_M} {j kk : Int} (Y : CXs X) (e14 : qf_X6_fieldOf nn kk (u16 49 14) u38 = some u14) (hk : 0 ≤ kk ∧ kk < 8 + (bn X : Int)) (MX : MBx X 0 (u16 49 14) j) (A1 : COp 181 u14.2 g1) (A2 : COp u14.1 g1 g2) (A3 : CPo 2 g2 g3) (ez : z = up_M g3 2 10 ((uu + 1 : Nat) : Int)) (l3 : 2 ≤ g2 34 3 ∧ u38 34 3 ≤ 100000) (l1 : u38 34 1 ≤ 900000) (Mw : MKx X PB WL L u38 m) (B1 : RPt 181 m w) : Pc (mx_sv (qf_X13_memberConstant nn kk j w) fun u42 => mx_sv (qf_X13_put nn u42.1 u42.2) fun u44 => xl (oq_sub (u44 160 70) 2) fun v46 => xl (up_M u44 160 70 v46) fun h47 => some h47) (fun w2 => MKx X PB WL L z w2 ∧ ∀ cc x : Nat, (cc = 160 ∧ (x = 51 ∨ x = 54 ∨ x = 57 ∨ x = 88)) ∨ (174 ≤ cc ∧ cc ≤ 176) ∨ cc = 219 ∨ cc = 220 → w2 cc x = m cc x) := by
  obtain ⟨-, -, ⟨m1, m2, m3, m4⟩, -⟩ := mk_t Mw
  obtain ⟨p1, p2, p3, p4⟩ := mk_plp Mw B1
  refine pc_sv (j_fieldC Y p4 p3 p1 p2 MX hk u14 e14) ?_; intro w3 ⟨PC, SP⟩
  refine pc_sv (r_put (by rw [PC.2.2.2.2.1 160 68 (by omega) (by omega), B1.1]; omega)) ?_; intro w4 b2
  have M1 : MKx X PB WL L g2 w4 := mk_opc Mw B1 PC SP A1 A2 b2 (by unfold in_R; omega)
  have s1 := M1.2.1
  have l70 : w4 160 70 = m 160 70 := by rw [b2.2.2 160 70 (by omega) (by omega), PC.2.2.2.2.1 160 70 (by omega) (by omega)]; exact B1.2.2 160 70 (by omega) (by omega)
  refine pc_sub (by omega) ?_; intro v46 e46
  refine pc_xl ?_; intro h47 e47
  have M2 : MKx X PB WL L g3 h47 := mk_pop M1 A3 (by omega) (by rw [e47, e46])
  refine pc_ret ⟨mkx_c M2 (fun cc x q1 q2 q3 => by rw [ez, up_n (by omega)]), fun cc x q => ?_⟩
  rw [e47, up_n (by omega), b2.2.2 cc x (by omega) (by omega), PC.2.2.2.2.1 cc x (by omega) (by omega), B1.2.2 cc x (by omega) (by omega)]
end
