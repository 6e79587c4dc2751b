/- S of both sides: a field, an element given a value, the making -/
section
variable {nn : Nat} {X : BCx} {dp i a b a1 b1 a2 b2 e e1 e2 s bb lb lh d o en k ix iy y0 : Int} {p q t uu : Nat} {h g u r w m z h13 h35 u16 u38 g1 g2 g3 : ms_M} {v v1 v2 : Int × ms_M} {PB : Nat → Prop} {WL : Int → Int → Prop} {L : List (Int × Int)}
/-- a field -/
theorem m_as3 {u14 : Int × ms_M} (Y : CXs X) (r1 : 0 ≤ s ∧ s + 1 ≤ e1 ∧ e1 < y0 ∧ y0 ≤ b ∧ b ≤ 8999) (F : FM3 nn X ix (s + 1) p t e1 h13 u16 v1.2) (e35 : h35 = up_M u16 2 10 ((t + 1 : Nat) : Int)) (y2 : MKC nn X e2 y0 b (t + 1) uu h35 u38 v2.2) (e14 : qf_X6_fieldOf nn (u16 49 13) (u16 49 14) u38 = some u14) (A1 : COp 181 u14.2 g1) (A2 : COp u14.1 g1 g2) (A3 : CPo 2 g2 g3) (ez : z = up_M g3 2 10 ((uu + 1 : Nat) : Int)) (l3 : 2 ≤ g2 34 3 ∧ u38 34 3 ≤ 100000) (l1 : u38 34 1 ≤ 900000) (pt : p < t ∧ t + 1 < uu) (M : MKx X PB WL L h13 m) (AM1 : AN (s + 1) y0 v1.2 m) (AM2 : AN y0 b v2.2 m) (m57 : m 160 57 = 0) (m88 : m 160 88 + 4 * (uu : Int) ≤ 2000000000 + 4 * (p : Int)) : Pc (qf_X13_assign nn e1 e2 m) (fun w => MKx X PB WL L z w ∧ (m 160 88 ≤ w 160 88 ∧ w 160 88 + 4 * (p : Int) ≤ m 160 88 + 4 * (uu : Int)) ∧ MWf m w) := by
  have n8 := Y.2.2.1
  obtain ⟨⟨x1, x2, x3, x4⟩, ⟨MX, k3, k1⟩, FF⟩ := F
  obtain ⟨MT, -, -⟩ := mk_t M
  have j0 : ¬ v1.2 175 e1.toNat = -1 := by
    obtain ⟨ji, kk, -, -, ej, -⟩ := MX
    omega
  have a5 : m 175 e1.toNat = v1.2 175 e1.toNat := AM1 175 _ (by omega) (by omega) (by omega) (by omega)
  -- behind the making of e2
  have FIN : ∀ (w0 w w2 : ms_M), MWf m w0 → (m 160 88 ≤ w0 160 88 ∧ w0 160 88 + 4 * (p : Int) ≤ m 160 88 + 4 * (t : Int)) → MWf w0 w → (w0 160 88 ≤ w 160 88 ∧ w 160 88 + 4 * ((t + 1 : Nat) : Int) ≤ w0 160 88 + 4 * (uu : Int)) → (MKx X PB WL L z w2 ∧ ∀ cc x : Nat, (cc = 160 ∧ (x = 51 ∨ x = 54 ∨ x = 57 ∨ x = 88)) ∨ (174 ≤ cc ∧ cc ≤ 176) ∨ cc = 219 ∨ cc = 220 → w2 cc x = w cc x) → MKx X PB WL L z w2 ∧ (m 160 88 ≤ w2 160 88 ∧ w2 160 88 + 4 * (p : Int) ≤ m 160 88 + 4 * (uu : Int)) ∧ MWf m w2 := fun w0 w w2 F0 l0 F1 l1' y => by
    have l88 := y.2 160 88 (by omega)
    exact ⟨y.1, by omega, mwf_t F0 (mwf_t F1 (mwf_o (fun cc x q => y.2 cc x (by omega))))⟩
  unfold qf_X13_assign
  refine pc_rA ?_; intro _ _ v25 e25
  rw [MT 167 _ (by omega)] at e25
  rcases FF with ⟨y1, yo, y3⟩ | ⟨y1, yr, y3, y4⟩
  · refine pc_if (fun _ => ?_) (fun z => absurd (show v25 = 25 by omega) z)
    refine pc_rA ?_; intro _ _ v31 e31
    rw [a5] at e31
    refine pc_if (fun _ => ?_) (fun z => absurd (fun y => j0 (e31.symm.trans y)) z)
    refine pc_sv (pc_and (y3 PB WL L m M) (fun w ew cc x c => ff_X13_self nn w ew cc x (nw_of (by unfold wl_X13_self; simp only [List.mem_cons, List.not_mem_nil, or_false]; omega) (by unfold wf_X13_self; simp only [List.mem_cons, List.not_mem_nil, or_false, Prod.mk.injEq]; omega)) : Pc _ (fun w : ms_M => ∀ cc x : Nat, (cc = 160 ∧ (x = 51 ∨ x = 54 ∨ x = 57)) ∨ (174 ≤ cc ∧ cc ≤ 176) ∨ cc = 219 ∨ cc = 220 → w cc x = m cc x))) ?_; intro w0 ⟨⟨M0, l0⟩, F0'⟩
    have F0 : ∀ cc x : Nat, (cc = 160 ∧ (x = 51 ∨ x = 54 ∨ x = 57)) ∨ (174 ≤ cc ∧ cc ≤ 176) ∨ cc = 219 ∨ cc = 220 → w0 cc x = m cc x := F0'
    refine pc_sv (se_m (a := y0) (b := b) y2 (mkx_c M0 (fun cc x q1 q2 q3 => by rw [e35, up_n (by omega)])) (fun cc x q1 q2 q3 q4 => by rw [F0 cc x (by omega)]; exact AM2 cc x q1 q2 q3 q4) (by rw [F0 160 57 (by omega)]; exact m57) (by omega) (by omega)) ?_; intro w ⟨⟨Mw, lw⟩, Fw, Ew⟩
    obtain ⟨-, -, ⟨m1, m2, m3, m4⟩, -, o1, o2, o3⟩ := mk_t Mw
    refine pc_sv (r_put (by omega)) ?_; intro u37 b1
    refine pc_rA ?_; intro _ _ v40 e40
    rw [b1.2.2 175 _ (by omega) (by omega), Ew 175 _ (by omega), F0 175 _ (by omega), a5] at e40
    have x52 : u37 160 52 = u16 49 13 := by
      rw [b1.2.2 160 52 (by omega) (by omega), yo]
      have ow := Y.2.2.2.1
      have c := ty_c (vtn_v n8 (show VTn (bn X) (bo X) by unfold VTn; omega))
      omega
    rw [x52, e40]
    refine pc_imp (m_as3e Y e14 x3 MX A1 A2 A3 ez l3 l1 Mw b1) (fun w2 y => FIN w0 w w2 (mwf_o F0) (by omega) Fw lw y)
  · refine pc_if (fun z => absurd z (by omega)) (fun _ => ?_)
    refine pc_if (fun _ => ?_) (fun z => absurd (show v25 = 30 by omega) z)
    refine pc_rA ?_; intro _ _ v55 e55
    rw [MT 170 _ (by omega)] at e55
    rw [e55]
    refine pc_sv (se_m (a := s + 1) (b := e1) y4 M (an_s AM1 ⟨Int.le_refl _, by omega⟩ (fun _ _ _ _ _ _ => rfl)) m57 (by omega) (by omega)) ?_; intro w0 ⟨⟨M0, l0⟩, F0, E0⟩
    refine pc_rA ?_; intro _ _ v60 e60
    rw [E0 170 _ (by omega), MT 170 _ (by omega)] at e60
    rw [e60]
    refine pc_rA ?_; intro _ _ v61 e61
    rw [E0 174 _ (by omega), AM1 174 _ (by omega) (by omega) (by omega) (by omega), y3] at e61
    have tc := ty_c (t := u16 49 13) (.inr (.inr (.inr (.inr (.inr (.inl (by omega)))))))
    refine pc_sub (by omega) ?_; intro v62 e62
    refine pc_xl ?_; intro v63 e63
    have d2 : v63 = u16 49 13 := by rw [e63, Int.tdiv_eq_ediv_of_nonneg (by omega)]; omega
    rw [d2]
    refine pc_sv (se_m (a := y0) (b := b) y2 (mkx_c M0 (fun cc x q1 q2 q3 => by rw [e35, up_n (by omega)])) (fun cc x q1 q2 q3 q4 => by rw [F0.2.1 cc x q1 q2]; exact AM2 cc x q1 q2 q3 q4) (by rw [F0.1.1]; exact m57) (by omega) (by omega)) ?_; intro w ⟨⟨Mw, lw⟩, Fw, Ew⟩
    obtain ⟨-, -, ⟨m1, m2, m3, m4⟩, -⟩ := mk_t Mw
    refine pc_sv (r_put (by omega)) ?_; intro u67 b1
    refine pc_rA ?_; intro _ _ v69 e69
    rw [b1.2.2 175 _ (by omega) (by omega), Ew 175 _ (by omega), F0.2.1 175 _ (by omega) (by omega), a5] at e69
    rw [e69]
    exact pc_imp (m_as3e Y e14 x3 MX A1 A2 A3 ez l3 l1 Mw b1) (fun w2 y => FIN w0 w w2 F0 l0 Fw lw y)
/-- an element -/
theorem m_as4 (n8 : bn X ≤ 8) (r1 : 0 ≤ s ∧ s + 1 ≤ e1 ∧ e1 < y0 ∧ y0 ≤ b ∧ b ≤ 8999) (F : FM4 nn X ix (s + 1) y0 p t e1 h13 u16 v1.2) (t4 : v1.2 174 e1.toNat = ty_T (u16 49 12)) (vt : VTn (bn X) (u16 49 12)) (e35 : h35 = up_M u16 2 10 ((t + 1 : Nat) : Int)) (y2 : MKC nn X e2 y0 b (t + 1) uu h35 u38 v2.2) (A1 : COp (if u16 49 12 = 301 then 79 else 83) u38 g2) (A3 : CPo 3 g2 g3) (ez : z = up_M g3 2 10 ((uu + 1 : Nat) : Int)) (l3 : 3 ≤ g2 34 3 ∧ u38 34 3 ≤ 100000) (l1 : u38 34 1 ≤ 900000) (pt : p < t ∧ t + 1 < uu) (M : MKx X PB WL L h13 m) (AM1 : AN (s + 1) y0 v1.2 m) (AM2 : AN y0 b v2.2 m) (m57 : m 160 57 = 0) (m88 : m 160 88 + 4 * (uu : Int) ≤ 2000000000 + 4 * (p : Int)) : Pc (qf_X13_assign nn e1 e2 m) (fun w => MKx X PB WL L z w ∧ (m 160 88 ≤ w 160 88 ∧ w 160 88 + 4 * (p : Int) ≤ m 160 88 + 4 * (uu : Int)) ∧ MWf m w) := by
  obtain ⟨⟨x1, x2, x3, x4⟩, ⟨k3, k1⟩, tt, gg, ⟨pt1, tq⟩, C1, C2⟩ := F
  obtain ⟨MT, -, -⟩ := mk_t M
  have tyc := ty_c (vtn_v n8 vt)
  unfold qf_X13_assign
  refine pc_rA ?_; intro _ _ v25 e25
  rw [MT 167 _ (by omega)] at e25
  refine pc_if (fun z => absurd z (by omega)) (fun _ => ?_)
  refine pc_if (fun z => absurd z (by omega)) (fun _ => ?_)
  refine pc_rA ?_; intro _ _ v27 e27
  rw [MT 170 _ (by omega)] at e27
  rw [e27]
  refine pc_sv (se_m (a := s + 1) (b := e1) C1 M (an_s AM1 ⟨Int.le_refl _, by omega⟩ (fun _ _ _ _ _ _ => rfl)) m57 (by omega) (by omega)) ?_; intro w0 ⟨⟨M0, l0⟩, F0, E0⟩
  unfold qj_X13_assign_209
  refine pc_rA ?_; intro _ _ v7 e7
  rw [E0 171 _ (by omega), MT 171 _ (by omega)] at e7
  rw [e7]
  refine pc_sv (se_m (a := e1 + 1) (b := y0) C2 M0 (fun cc x q1 q2 q3 q4 => by rw [F0.2.1 cc x q1 q2]; exact AM1 cc x q1 q2 (by omega) q4) (by rw [F0.1.1]; exact m57) (by omega) (by omega)) ?_; intro w1 ⟨⟨M1, l1'⟩, F1, E1⟩
  refine pc_sv (se_m (a := y0) (b := b) y2 (mkx_c M1 (fun cc x q1 q2 q3 => by rw [e35, up_n (by omega)])) (fun cc x q1 q2 q3 q4 => by rw [F1.2.1 cc x q1 q2, F0.2.1 cc x q1 q2]; exact AM2 cc x q1 q2 q3 q4) (by rw [F1.1.1, F0.1.1]; exact m57) (by omega) (by omega)) ?_; intro w ⟨⟨Mw, lw⟩, Fw, Ew⟩
  refine pc_rA ?_; intro _ _ v13 e13
  rw [Fw.2.1 174 _ (by omega) (by omega), F1.2.1 174 _ (by omega) (by omega), F0.2.1 174 _ (by omega) (by omega), AM1 174 _ (by omega) (by omega) (by omega) (by omega), t4] at e13
  have T241 : ∀ o : Int, o = (if u16 49 12 = 301 then 79 else 83) → Pc (qj_X13_assign_241 nn o w) (fun w2 => MKx X PB WL L z w2 ∧ (m 160 88 ≤ w2 160 88 ∧ w2 160 88 + 4 * (p : Int) ≤ m 160 88 + 4 * (uu : Int)) ∧ MWf m w2) := fun o eo => by
    obtain ⟨-, -, ⟨m1, m2, m3, m4⟩, -⟩ := mk_t Mw
    unfold qj_X13_assign_241
    refine pc_sv (r_put (by omega)) ?_; intro u2 B1
    have N1 : MKx X PB WL L g2 u2 := mk_op Mw A1 B1 (fun _ => eo) (by unfold in_R; split <;> omega)
    have l70 := B1.2.2 160 70 (by omega) (by omega)
    refine pc_sub (by omega) ?_; intro v4 e4
    refine pc_xl ?_; intro h5 e5
    have N2 : MKx X PB WL L g3 h5 := mk_pop N1 A3 (by omega) (by rw [e5, e4])
    have E5 : ∀ cc x : Nat, ¬ (cc = 160 ∧ (x = 68 ∨ x = 70)) → ¬ cc = 206 → h5 cc x = w cc x := fun cc x q1 q2 => by rw [e5, up_n (by omega)]; exact B1.2.2 cc x (by omega) (by omega)
    have l88 := E5 160 88 (by omega) (by omega)
    exact pc_ret ⟨mkx_c N2 (fun cc x q1 q2 q3 => by rw [ez, up_n (by omega)]), by omega, mwf_t F0 (mwf_t F1 (mwf_t Fw (mwf_o (fun cc x q => E5 cc x (by omega) (by omega)))))⟩
  refine pc_if (fun z => T241 83 ?_) (fun z => T241 79 ?_)
  · rw [if_neg (by omega)]
  · rw [if_pos (by omega)]
end
