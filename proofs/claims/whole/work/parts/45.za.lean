/- E of both sides: numbers and this -/
/-- this, on the class's stack -/
def CTh (h u : ms_M) : Prop := ∃ g1 g2 g3 : ms_M, COp 25 h g1 ∧ COp 0 g1 g2 ∧ CPu (h 49 16) g2 g3 ∧ u = up_M (up_M g3 49 12 (h 49 16)) 49 11 0
section
variable {nn : Nat} {X : BCx} {dp i a b e t : Int} {p q : Nat} {h g g2 u r v w m : ms_M}
theorem cth_f (H : CTh h u) : (u 34 1 = h 34 1 + 2 ∧ u 34 3 = h 34 3 + 1 ∧ u 49 12 = h 49 16 ∧ u 49 11 = 0) ∧ ∀ cc x : Nat, ¬ (cc = 34 ∧ (x = 1 ∨ x = 3 ∨ x = 4)) → ¬ (cc = 35 ∨ cc = 36) → ¬ (cc = 49 ∧ (x = 11 ∨ x = 12)) → u cc x = h cc x := by
  obtain ⟨g1, g2, g3, ⟨a1, a2, a3⟩, ⟨b1, b2, b3⟩, ⟨c1, c2, c3, c4⟩, eu⟩ := H
  refine ⟨⟨?_, ?_, ?_, ?_⟩, fun cc x z1 z2 z3 => ?_⟩
  · rw [eu, up_n (by omega), up_n (by omega), c4 34 1 (by omega) (by omega), b1, a1]; omega
  · rw [eu, up_n (by omega), up_n (by omega), c1, b3 34 3 (by omega) (by omega), a3 34 3 (by omega) (by omega)]
  · rw [eu, up_n (by omega), up_s]
  · rw [eu, up_s]
  · rw [eu, up_n (by omega), up_n (by omega), c4 cc x (by omega) (by omega), b3 cc x (by omega) (by omega), a3 cc x (by omega) (by omega)]
theorem c_this {K P : Nat → Int} {c tk : Nat} {x : Int} (B : TBc K P c h) (hf : h 2 11 = 0) (ht : tk < c) (hx : x = (tk : Int)) (l1 : 0 ≤ h 34 1 ∧ h 34 1 ≤ 1000000) (l3 : 0 ≤ h 34 3 ∧ h 34 3 ≤ 1000000) : Pc (qf_X10_giveThis nn x h) (fun u => (h 49 17 = 0 ∧ CTh h u) ∨ (¬ h 49 17 = 0 ∧ u 2 11 = 7 ∧ u 2 12 = P tk)) := by
  unfold qf_X10_giveThis
  refine pc_if (fun z => ?_) (fun z => ?_)
  · unfold qj_X10_giveThis_17
    refine pc_sv (c_op2 l1) ?_; intro u3 ⟨g1, a1, a2⟩
    have e16 : u3 49 16 = h 49 16 := by rw [a2.2.2 49 16 (by omega) (by omega), a1.2.2 49 16 (by omega) (by omega)]
    rw [e16]
    refine pc_sv (c_give (by rw [a2.2.2 34 3 (by omega) (by omega), a1.2.2 34 3 (by omega) (by omega)]; omega)) ?_; intro u6 ⟨g3, b1, b2⟩
    exact pc_ret (.inl ⟨z, g1, u3, g3, a1, a2, b1, b2⟩)
  · refine pc_sv (c_tell B hf ht hx) ?_; intro u10 ⟨⟨t1, t2⟩, _⟩
    have S : ¬ u10 2 11 = 0 := by omega
    refine pc_imp (fs_qj_X10_giveThis_17 S) (fun u F => .inr ⟨z, by rw [F.1]; exact t1, by rw [F.2]; exact t2⟩)
theorem m_self {PB : Nat → Prop} {WL : Int → Int → Prop} {L : List (Int × Int)} (H : CTh h u) (e16 : h 49 16 = bo X) (Y : CXs X) (M : MKx X PB WL L h m) (bl : h 34 1 ≤ 1000000) : Pc (qf_X13_self nn m) (fun w => MKx X PB WL L u w ∧ w 160 88 = m 160 88) := by
  obtain ⟨g1, g2, g3, A1, A2, A3, eu⟩ := H
  have ow := Y.2.2.2.1
  have n8 := Y.2.2.1
  obtain ⟨-, -, ⟨m1, m2, m3, m4⟩, -, o1, o2, o3⟩ := mk_t M
  unfold qf_X13_self
  refine pc_sv (r_put (by omega)) ?_; intro u2 q2
  refine pc_sv (r_put (by rw [q2.1]; omega)) ?_; intro u4 q4
  have x52 : u4 160 52 = m 160 52 := by rw [q4.2.2 160 52 (by omega) (by omega), q2.2.2 160 52 (by omega) (by omega)]
  rw [x52]
  refine pc_xl ?_; intro v6 e6
  rw [oq_mul_eq (by omega) (by omega) (by omega)] at e6
  refine pc_add (by omega) ?_; intro v7 e7
  refine pc_sv r_push ?_; intro u9 q9
  have M1 : MKx X PB WL L g1 u2 := mk_op M A1 q2 (fun _ => rfl) (by unfold in_R; omega)
  have M2 : MKx X PB WL L g2 u4 := mk_op M1 A2 q4 (fun _ => rfl) (by unfold in_R; omega)
  refine pc_ret ⟨mkx_give M2 A3 q9 ⟨by rw [e16, ← o1]; omega, by rw [e16]; exact ⟨.inr (.inr (.inr (.inr (.inr (.inl (by omega)))))), by omega⟩⟩ eu, ?_⟩
  rw [q9.2.2.2.2 160 88 (by omega) (by omega), q4.2.2 160 88 (by omega) (by omega), q2.2.2 160 88 (by omega) (by omega)]
/-- this -/
theorem p_this (Y : CXs X) (Q : EPr X dp p h r) (b57 : 0 ≤ r 160 57 ∧ r 160 57 ≤ 10000) (ne : 0 ≤ a ∧ a ≤ e ∧ e < b) (nd : bT X 167 e.toNat = 24 ∧ bT X 168 e.toNat = (p : Int)) (kp : bK X p = 26) (p1 : p + 1 < bc X) (d : Nat) {x : Int} (hx : x = (p : Int)) : Pc (qf_X10_giveThis nn x (up_M h 2 10 ((p + 1 : Nat) : Int))) (fun u => Pc ((qg_X13_condition nn d).2.2.1 e r) (fun v => SFj u v.2 ∨ POk nn X 0 a b p (p + 1) e h r u v)) := by
  have Q0 := Q
  obtain ⟨B, ⟨q1, q2, q3, q4⟩, ⟨f1, f2, f3⟩, o1⟩ := Q0
  have T : ∀ cc : Nat, 163 ≤ cc ∧ cc ≤ 173 → r cc e.toNat = bT X cc e.toNat := fun cc z => B.2.2.2.2.2.1 cc e.toNat (by omega)
  have p3 := Y.1.2.1
  have H := B.1
  have TB : TBc (bK X) (bP X) (bc X) h := H.1.1.1
  have TQ : TBq (bK X) (bP X) (bc X) r := H.1.2.2.1
  have TB1 : TBc (bK X) (bP X) (bc X) (up_M h 2 10 ((p + 1 : Nat) : Int)) := tbc_k TB (fun cc y z => up_n (by omega))
  have nl : ¬ bT X 167 e.toNat = 30 ∧ ¬ bT X 167 e.toNat = 31 ∧ ¬ bT X 167 e.toNat = 32 ∧ ¬ bT X 167 e.toNat = 37 ∧ ¬ bT X 167 e.toNat = 38 := by omega
  refine pc_imp (c_this TB1 (by rw [up_n (by omega)]; exact q3) q2 hx (by rw [up_n (by omega)]; omega) (by rw [up_n (by omega)]; omega)) (fun u Z => ?_)
  rw [up_n (by omega)] at Z
  refine w_one b57 q4 (r_nled (by rw [T 167 (by omega)]; exact nl)) (fun d => ?_) d
  unfold qo_X13_rule
  refine pc_rA ?_; intro _ _ v83 e83
  rw [T 167 (by omega), nd.1] at e83
  rw [e83]
  refine pc_if (fun z => absurd z (by decide)) (fun _ => ?_)
  refine pc_if (fun z => absurd z (by decide)) (fun _ => ?_)
  refine pc_if (fun z => absurd z (by decide)) (fun _ => ?_)
  refine pc_if (fun z => absurd z (by decide)) (fun _ => ?_)
  refine pc_if (fun _ => ?_) (fun z => absurd rfl z)
  refine pc_if (fun z => ?_) (fun z => ?_)
  · rcases Z with ⟨z1, CT⟩ | ⟨z1, -⟩
    · unfold qj_X13_rule_121
      have ow := B.2.2.1
      have own := Y.2.2.2.1
      have n8 := Y.2.2.1
      rw [ow.2]
      refine pc_xl ?_; intro v80 e80
      rw [oq_mul_eq (by omega) (by omega) (by omega)] at e80
      refine pc_add (by omega) ?_; intro v81 e81
      have ty : ty_T (bo X) = 8 + 2 * bo X := by
        unfold ty_T
        rw [if_neg (by omega), if_neg (by omega), if_neg (by omega), if_neg (by omega), if_neg (by omega), if_pos (by omega)]
      have ey : v81 = ty_T (bo X) := by omega
      rw [ey]
      obtain ⟨⟨c1, c2, c3, c4⟩, c5⟩ := cth_f CT
      have CT0 := CT
      obtain ⟨g1, g2, g3, A1, A2, A3, eu⟩ := CT
      rw [up_n (by omega)] at c1
      rw [up_n (by omega)] at c2
      rw [up_n (by omega), ow.1] at c3
      have e16 : up_M h 2 10 ((p + 1 : Nat) : Int) 49 16 = bo X := by rw [up_n (by omega)]; exact ow.1
      rw [e16] at A3 eu
      have G2 : ∀ cc x : Nat, ¬ (cc = 34 ∧ x = 1) → ¬ cc = 35 → ¬ (cc = 2 ∧ x = 10) → g2 cc x = h cc x := fun cc x z1 z2 z3 => by rw [A2.2.2 cc x (by omega) (by omega), A1.2.2 cc x (by omega) (by omega), up_n z3]
      have l2 : g2 34 1 = h 34 1 + 2 := by rw [A2.1, A1.1, up_n (by omega)]; omega
      have vt : VTn (bn X) (bo X) ∧ ¬ bo X = 303 := ⟨by unfold VTn; omega, by omega⟩
      refine pc_ret (fun zz ez => ⟨fun _ => .inr ?_, fun y => absurd (by rw [ez, up_n (by omega)]; exact q4) y⟩)
      refine pok_give (t := bo X) (g := g2) (v := r) Q ⟨p1, by omega⟩ ne ?_ ?_ ?_ ?_ ?_ ?_ ?_ A3 eu vt rfe_r q4 (by rw [ez]) ?_
      · exact fun cc x a1 a2 a3 a4 a5 a6 a7 a8 => G2 cc x (by omega) (by omega) (by omega)
      · exact ⟨G2 49 10 (by omega) (by omega) (by omega), fun cc x z1 z2 z3 => G2 cc x (by omega) (by omega) (by omega)⟩
      · rw [A2.2.2 2 10 (by omega) (by omega), A1.2.2 2 10 (by omega) (by omega), up_s]
      · rw [G2 2 11 (by omega) (by omega) (by omega)]; exact q3
      · exact frc_k f1 (fun cc x z => G2 cc x (by omega) (by omega) (by omega))
      · omega
      · rw [G2 34 3 (by omega) (by omega) (by omega)]; omega
      · refine ⟨.inr ⟨c4, by omega, by rw [c3]; exact vt.2⟩, fun _ => .inl ⟨by omega, by omega, fun z => absurd z nl.1⟩, fun _ => ⟨⟨by rw [c3, if_neg vt.2]; exact c2, top_g A3 (by rw [G2 34 3 (by omega) (by omega) (by omega)]; omega) eu⟩, ?_⟩⟩
        refine mkc_leaf nl ne (fun PB WL L m d M A => ?_) (by omega)
        have MT := (mk_t M).1
        have M1 : MKx X PB WL L (up_M h 2 10 ((p + 1 : Nat) : Int)) m := mkx_c M (fun cc x z1 z2 z3 => up_n (by omega))
        unfold qo_X13_workOne
        refine pc_rA ?_; intro _ _ v59 e59
        refine pc_rA ?_; intro _ _ v61 e61
        rw [MT 167 e.toNat (by omega), nd.1] at e61
        rw [e61]
        refine pc_if (fun z => absurd z (by decide)) (fun _ => ?_)
        refine pc_if (fun z => absurd z (by decide)) (fun _ => ?_)
        refine pc_if (fun z => absurd z (by decide)) (fun _ => ?_)
        refine pc_if (fun z => absurd z (by decide)) (fun _ => ?_)
        refine pc_if (fun _ => ?_) (fun z => absurd rfl z)
        refine pc_sv (m_self CT0 e16 Y M1 (by rw [up_n (by omega)]; omega)) ?_; intro u104 q104
        exact pc_ret q104
    · exfalso
      rcases B.2.2.2.1 with ⟨y1, y2, -⟩ | ⟨y1, -⟩
      · exact z1 y2
      · exact y1 z
  · rcases Z with ⟨z1, CT⟩ | ⟨z1, z2, z3⟩
    · exfalso
      rcases B.2.2.2.1 with ⟨y1, y2, -⟩ | ⟨y1, y2, -⟩
      · exact z y1
      · exact y2 z1
    · refine pc_rA ?_; intro _ _ v105 e105
      rw [T 168 (by omega), nd.2] at e105
      refine pc_sv (r_wrong TQ q2 q4 e105) ?_; intro u107 ⟨w1, w2⟩
      have S : ¬ u107 160 9 = 0 := by omega
      refine pc_imp (ft_qj_X13_rule_121 (ftg_X13_condition nn d) S) (fun y F => fun zz ez => ?_)
      have y9 : zz 160 9 = 7 := by rw [ez, up_n (by omega), F.1]; exact w1
      have y10 : zz 160 10 = bP X p := by rw [ez, up_n (by omega), F.2]; exact w2
      refine ⟨fun y => absurd y (by omega), fun _ => .inl ⟨by omega, ?_, ?_⟩⟩
      · show zz 160 9 = u 2 11
        rw [y9, z2]
      · show zz 160 10 = u 2 12
        rw [y10, z3]
end
