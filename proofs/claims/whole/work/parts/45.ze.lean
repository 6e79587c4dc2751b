/- E of both sides: what was only named comes to the stack -/
section
variable {nn : Nat} {X : BCx} {dp i a b e t : Int} {p q : Nat} {h g g2 u r w m : ms_M} {v : Int × ms_M}
theorem ty_3 (n8 : bn X ≤ 8) (V : VTn (bn X) t) : ty_T t = 3 ↔ t = 303 := by
  have c := ty_c (vtn_v n8 V)
  omega
theorem mkx_p1 {PB : Nat → Prop} {WL : Int → Int → Prop} {L : List (Int × Int)} {t t2 : Int} (M : MKx X PB WL L h m) (A : CPu t h g) (B : RPs t2 m w) (e : TJ (bn X) t2 t) (eu : u = up_M g 49 11 0) : MKx X PB WL L u w := mkx_c (mk_push M A B e) (fun cc x z1 z2 z3 => by rw [eu, up_n (by omega)])
/-- turn(k, t) where t is not void -/
theorem m_turn {PB : Nat → Prop} {WL : Int → Int → Prop} {L : List (Int × Int)} {t t2 k : Int} (M : MKx X PB WL L h m) (A : CPo k h g) (B : CPu t g g2) (hk : 0 ≤ k ∧ k ≤ h 34 3) (b3 : h 34 3 ≤ 1000000) (e : TJ (bn X) t2 t) (n3 : ¬ t2 = 3) (eu : u = up_M g2 49 11 0) : Pc (qf_X13_turn nn k t2 m) (fun w => MKx X PB WL L u w ∧ w 160 88 = m 160 88) := by
  obtain ⟨-, -, ⟨m1, m2, m3, m4⟩, -⟩ := mk_t M
  unfold qf_X13_turn
  refine pc_sub (by omega) ?_; intro v2 e2
  refine pc_xl ?_; intro h3 e3
  refine pc_if (fun z => absurd z n3) (fun _ => ?_)
  refine pc_sv r_push ?_; intro u5 q5
  have M1 : MKx X PB WL L g h3 := mk_pop M A hk (by rw [e3, e2])
  exact pc_ret ⟨mkx_p1 M1 B q5 e eu, by rw [q5.2.2.2.2 160 88 (by omega) (by omega), e3, up_n (by omega)]⟩
/-- the end of fetch: some bytes, some popped, one pushed -/
theorem pok_fe (K : POk nn X i a b p q e h r u v) (pq : p < q) (nq : ¬ bK X q = 51) (G : ∀ cc x : Nat, ¬ (cc = 34 ∧ (x = 1 ∨ x = 3)) → ¬ cc = 35 → ¬ (cc = 45 ∧ (x = 4 ∨ x = 5)) → ¬ (cc = 46 ∨ cc = 47) → g cc x = u cc x) (l1 : 0 ≤ g 34 1 ∧ g 34 1 + 20 * (p : Int) ≤ h 34 1 + 20 * (q : Int)) (l3 : g 34 3 = h 34 3) (h30 : 0 ≤ h 34 3) (CP : CPu (u 49 12) g g2) {u2 : ms_M} (eu : u2 = up_M g2 49 11 0) (nc : ¬ (i = 0 ∧ (bT X 167 e.toNat = 26 ∨ bT X 167 e.toNat = 31))) (n3 : ¬ u 49 12 = 303) (MC : MKC nn X e a b p q h u2 v.2) : POk nn X i a b p q e h r u2 v ∧ (u2 49 11 = 0 ∨ u2 49 11 = 1) := by
  obtain ⟨⟨k1, k2, k3, k4, k5⟩, ⟨k6, k7, k8⟩, ⟨k9, k10, k11⟩, ⟨k12, k13, k14⟩, -⟩ := K
  obtain ⟨c1, c2, c3, c4⟩ := CP
  have U : ∀ cc x : Nat, ¬ (cc = 34 ∧ (x = 1 ∨ x = 3 ∨ x = 4)) → ¬ (cc = 35 ∨ cc = 36) → ¬ (cc = 45 ∧ (x = 4 ∨ x = 5)) → ¬ (cc = 46 ∨ cc = 47) → ¬ (cc = 49 ∧ x = 11) → u2 cc x = u cc x := fun cc x z1 z2 z3 z4 z5 => by rw [eu, up_n z5, c4 cc x (by omega) (by omega)]; exact G cc x (by omega) (by omega) z3 z4
  have u11 : u2 49 11 = 0 := by rw [eu, up_s]
  have u12 : u2 49 12 = u 49 12 := U 49 12 (by omega) (by omega) (by omega) (by omega) (by omega)
  have u3 : u2 34 3 = h 34 3 + 1 := by rw [eu, up_n (by omega), c1, l3]
  have u1 : u2 34 1 = g 34 1 := by rw [eu, up_n (by omega), c4 34 1 (by omega) (by omega)]
  refine ⟨⟨⟨by rw [U 2 10 (by omega) (by omega) (by omega) (by omega) (by omega)]; exact k1, k2, k3, by rw [U 2 11 (by omega) (by omega) (by omega) (by omega) (by omega)]; exact k4, k5⟩, ⟨by rw [u12]; exact k6, by rw [u12]; exact k7, k8⟩, ⟨?_, k10, ?_⟩, ⟨?_, by omega, by omega⟩, .inl ⟨.inr ⟨u11, nc, by rw [u12]; exact n3⟩, fun _ => .inr nq, fun _ => ⟨⟨by rw [u12, if_neg n3]; exact u3, cp_top ⟨c1, c2, c3, c4⟩ (by omega) (by rw [u3, l3]) (fun x => by rw [eu, up_n (by omega)]) u12⟩, MC⟩⟩⟩, .inl u11⟩
  · exact fun cc x a1 a2 a3 a4 a5 a6 a7 a8 => by rw [U cc x (by omega) (by omega) (by omega) (by omega) (by omega)]; exact k9 cc x a1 a2 a3 a4 a5 a6 a7 a8
  · exact ⟨by rw [U 49 10 (by omega) (by omega) (by omega) (by omega) (by omega)]; exact k11.1, fun cc x z1 z2 z3 => by rw [U cc x (by omega) (by omega) (by omega) (by omega) (by omega)]; exact k11.2 cc x z1 z2 z3⟩
  · exact frc_k k12 (fun cc x z => U cc x (by omega) (by omega) (by omega) (by omega) (by omega))
theorem p_fetch (Y : CXs X) (Q : EPr X dp p h r) (ne : 0 ≤ a ∧ a ≤ e ∧ e < b) (K : POk nn X i a b p q e h r u v) (nq : ¬ bK X q = 51) : Pc (qf_X10_fetch nn u) (fun u2 => POk nn X i a b p q e h r u2 v ∧ (u2 49 11 = 0 ∨ u2 49 11 = 1)) := by
  have n8 := Y.2.2.1
  have K0 := K
  obtain ⟨⟨k1, k2, k3, k4, k5⟩, ⟨k6, k7, k8⟩, ⟨k9, k10, k11⟩, ⟨k12, k13, k14⟩, FM⟩ := K
  obtain ⟨B, ⟨q1, q2, q3, q4⟩, ⟨f1, f2, f3⟩, o1⟩ := Q
  have c3 := Y.1.2.1
  have tn := ty_num (X := X) n8 k7
  unfold qf_X10_fetch
  rcases FM with F | F | F | F
  · have F1 := F.1
    refine pc_if (fun z => absurd F1 (by omega)) (fun _ => ?_)
    refine pc_if (fun z => absurd F1 (by omega)) (fun _ => ?_)
    refine pc_if (fun z => absurd F1 (by omega)) (fun _ => ?_)
    exact pc_ret ⟨K0, by omega⟩
  · obtain ⟨⟨x1, x2, x3⟩, ⟨y1, y2, y3, y4, y5⟩, EQ⟩ := F
    have l1 : u 34 1 = h 34 1 := EQ 34 1 (.inl (by unfold RLc; omega))
    have l3 : u 34 3 = h 34 3 := EQ 34 3 (.inr (by omega))
    have nl : ¬ bT X 167 e.toNat = 30 ∧ ¬ bT X 167 e.toNat = 31 ∧ ¬ bT X 167 e.toNat = 32 ∧ ¬ bT X 167 e.toNat = 37 ∧ ¬ bT X 167 e.toNat = 38 := by omega
    have S : ∀ o : Int, ((o = 21 ∧ (u 49 12 = 301 ∨ u 49 12 = 302)) ∨ (o = 25 ∧ ¬ u 49 12 = 301 ∧ ¬ u 49 12 = 302)) → Pc (qj_X10_fetch_53 nn o u) (fun u2 => POk nn X i a b p q e h r u2 v ∧ (u2 49 11 = 0 ∨ u2 49 11 = 1)) := fun o ho => by
      unfold qj_X10_fetch_53
      refine pc_sv (c_op2 (by omega)) ?_; intro u13 ⟨g1, A1, A2⟩
      have G : ∀ cc x : Nat, ¬ (cc = 34 ∧ x = 1) → ¬ cc = 35 → u13 cc x = u cc x := fun cc x z1 z2 => by rw [A2.2.2 cc x (by omega) (by omega), A1.2.2 cc x (by omega) (by omega)]
      unfold qj_X10_fetch_135
      rw [G 49 12 (by omega) (by omega)]
      refine pc_sv (c_push (by rw [G 34 3 (by omega) (by omega)]; omega)) ?_; intro u4 q4'
      refine pc_xl ?_; intro h5 e5
      have l13 : u13 34 1 = u 34 1 + 2 := by rw [A2.1, A1.1]; omega
      refine pc_ret (pok_fe K0 k3 nq (fun cc x z1 z2 z3 z4 => G cc x (by omega) z2) (by omega) (by rw [G 34 3 (by omega) (by omega)]; exact l3) f3.1 q4' e5 (by omega) y5 ?_)
      refine mkc_leaf nl ne (fun PB WL L m d M A => ?_) (by omega)
      obtain ⟨MT, -, ⟨m1, m2, m3, m4⟩, -⟩ := mk_t M
      have M0 : MKx X PB WL L u m := mk_c M EQ
      have a4 : m 174 e.toNat = ty_T (u 49 12) := by rw [A 174 e.toNat (by omega) (by omega) (by omega) (by omega), k8, k6]
      have a5 : m 175 e.toNat = -1 := by rw [A 175 e.toNat (by omega) (by omega) (by omega) (by omega)]; exact y1
      have a6 : m 176 e.toNat = u 49 14 := by rw [A 176 e.toNat (by omega) (by omega) (by omega) (by omega)]; exact y2
      have S2 : Pc (qj_X13_workOne_184 nn (qg_X13_work nn d) e (ty_T (u 49 12)) o m) (fun w => MKx X PB WL L h5 w ∧ w 160 88 = m 160 88) := by
        unfold qj_X13_workOne_184
        refine pc_sv (r_put (by omega)) ?_; intro u41 b1
        refine pc_rA ?_; intro _ _ v43 e43
        rw [b1.2.2 176 _ (by omega) (by omega), a6] at e43
        rw [e43]
        refine pc_sv (r_put (by rw [b1.1]; omega)) ?_; intro u45 b2
        refine pc_sv r_push ?_; intro u47 b3
        have M1 := mk_op M0 A1 b1 (fun _ => rfl) (by unfold in_R; omega)
        have M2 := mk_op M1 A2 b2 (fun _ => rfl) (by unfold in_R; omega)
        exact pc_ret ⟨mkx_p1 M2 q4' b3 ⟨rfl, k7, y5⟩ e5, by rw [b3.2.2.2.2 160 88 (by omega) (by omega), b2.2.2 160 88 (by omega) (by omega), b1.2.2 160 88 (by omega) (by omega)]⟩
      unfold qo_X13_workOne
      refine pc_rA ?_; intro _ _ v59 e59
      rw [a4] at e59
      refine pc_rA ?_; intro _ _ v61 e61
      rw [MT 167 e.toNat (by omega), x3] at e61
      rw [e59, e61]
      refine pc_if (fun z => absurd z (by decide)) (fun _ => ?_)
      refine pc_if (fun z => absurd z (by decide)) (fun _ => ?_)
      refine pc_if (fun z => absurd z (by decide)) (fun _ => ?_)
      refine pc_if (fun z => absurd z (by decide)) (fun _ => ?_)
      refine pc_if (fun z => absurd z (by decide)) (fun _ => ?_)
      refine pc_if (fun _ => ?_) (fun z => absurd rfl z)
      refine pc_rA ?_; intro _ _ v106 e106
      rw [a5] at e106
      refine pc_if (fun z => absurd e106 z) (fun _ => ?_)
      refine pc_if (fun z => ?_) (fun z => ?_)
      · have o5 : o = 25 := by omega
        rw [o5] at S2; exact S2
      · have o5 : o = 21 := by omega
        rw [o5] at S2; exact S2
    refine pc_if (fun _ => ?_) (fun z => absurd x1 z)
    refine pc_sv c_isNum ?_; intro u17 q17
    refine pc_if (fun z => S 25 (by omega)) (fun z => S 21 (by omega))
  · obtain ⟨⟨x1, x2, x3, x4⟩, ⟨MX, l3, l1⟩, FF⟩ := F
    refine pc_if (fun z => absurd z (by omega)) (fun _ => ?_)
    refine pc_if (fun _ => ?_) (fun z => absurd x1 z)
    refine pc_se ?_; intro u24 e24
    have G24 : ∀ cc y : Nat, ¬ (cc = 45 ∧ (y = 4 ∨ y = 5)) → ¬ cc = 46 → ¬ cc = 47 → u24.2 cc y = u cc y := fun cc y z1 z2 z3 => ff_X6_fieldOf nn u24 e24 cc y (nw_of (by unfold wl_X6_fieldOf; simp only [List.mem_cons, List.not_mem_nil, or_false]; omega) (by unfold wf_X6_fieldOf; simp only [List.mem_cons, List.not_mem_nil, or_false, Prod.mk.injEq]; omega))
    refine pc_sv (c_op2 (by rw [G24 34 1 (by omega) (by omega) (by omega)]; omega)) ?_; intro u26 ⟨g1, A1, A2⟩
    have G26 : ∀ cc x : Nat, ¬ (cc = 34 ∧ x = 1) → ¬ cc = 35 → u26 cc x = u24.2 cc x := fun cc x z1 z2 => by rw [A2.2.2 cc x (by omega) (by omega), A1.2.2 cc x (by omega) (by omega)]
    have l24 := G24 34 1 (by omega) (by omega) (by omega)
    have l26 : u26 34 1 = u 34 1 + 2 := by rw [A2.1, A1.1]; omega
    have h26 : u26 34 3 = u 34 3 := by rw [G26 34 3 (by omega) (by omega)]; exact G24 34 3 (by omega) (by omega) (by omega)
    refine pc_sv (c_pop (by omega) (by omega)) ?_; intro u29 A3
    unfold qj_X10_fetch_135
    have t29 : u29 49 12 = u 49 12 := by rw [A3.2 49 12 (by omega), G26 49 12 (by omega) (by omega)]; exact G24 49 12 (by omega) (by omega) (by omega)
    have h29 : u29 34 3 = h 34 3 := by rw [A3.1, h26]; split <;> omega
    rw [t29]
    refine pc_sv (c_push (by omega)) ?_; intro u4 A4
    refine pc_xl ?_; intro h5 e5
    have END : ∀ (PB : Nat → Prop) (WL : Int → Int → Prop) (L : List (Int × Int)) (m w : ms_M) (j : Int), MKx X PB WL L u m → RPt 180 m w → j = v.2 175 e.toNat → Pc (mx_sv (qf_X13_memberConstant nn (u 49 13) j w) fun u115 => mx_sv (qf_X13_put nn u115.1 u115.2) fun u117 => mx_sv (qf_X13_turn nn 1 (ty_T (u 49 12)) u117) fun u119 => some u119) (fun w => MKx X PB WL L h5 w ∧ w 160 88 = m 160 88) := fun PB WL L m w j M b1 ej => by
      obtain ⟨-, -, ⟨m1, m2, m3, m4⟩, -⟩ := mk_t M
      obtain ⟨p1, p2, p3, p4⟩ := mk_plp M b1
      rw [ej]
      refine pc_sv (j_fieldC Y p4 p3 p1 p2 MX x3 u24 e24) ?_; intro w3 ⟨PC, SP⟩
      refine pc_sv (r_put (by rw [PC.2.2.2.2.1 160 68 (by omega) (by omega), b1.1]; omega)) ?_; intro w4 b2
      have M1 : MKx X PB WL L u26 w4 := mk_opc M b1 PC SP A1 A2 b2 (by unfold in_R; omega)
      refine pc_sv (m_turn M1 A3 A4 (by omega) (by omega) ⟨rfl, k7, x4⟩ (fun z => x4 ((ty_3 (X := X) n8 k7).mp z)) e5) ?_; intro w5 ⟨M2, l5⟩
      refine pc_ret ⟨M2, ?_⟩
      rw [l5, b2.2.2 160 88 (by omega) (by omega), PC.2.2.2.2.1 160 88 (by omega) (by omega), b1.2.2 160 88 (by omega) (by omega)]
    refine pc_ret (pok_fe K0 k3 nq (fun cc x z1 z2 z3 z4 => by rw [A3.2 cc x (by omega), G26 cc x (by omega) (by omega)]; exact G24 cc x z3 (by omega) (by omega)) (by rw [A3.2 34 1 (by omega)]; omega) h29 f3.1 A4 e5 ?_ x4 ?_)
    · rcases FF with ⟨y1, -⟩ | ⟨y1, -⟩ <;> omega
    · rcases FF with ⟨y1, y2, y3⟩ | ⟨y1, y2, y3, y4⟩
      · refine mkc_leaf (by omega) ne (fun PB WL L m d M A => ?_) (by omega)
        obtain ⟨MT, -, -, -⟩ := mk_t M
        have a4 : m 174 e.toNat = ty_T (u 49 12) := by rw [A 174 e.toNat (by omega) (by omega) (by omega) (by omega), k8, k6]
        have a5 : m 175 e.toNat = v.2 175 e.toNat := A 175 e.toNat (by omega) (by omega) (by omega) (by omega)
        have j0 : ¬ v.2 175 e.toNat = -1 := by
          obtain ⟨ji, kk, -, -, ej, -⟩ := MX
          omega
        unfold qo_X13_workOne
        refine pc_rA ?_; intro _ _ v59 e59
        rw [a4] at e59
        refine pc_rA ?_; intro _ _ v61 e61
        rw [MT 167 e.toNat (by omega), y1] at e61
        rw [e59, e61]
        refine pc_if (fun z => absurd z (by decide)) (fun _ => ?_)
        refine pc_if (fun z => absurd z (by decide)) (fun _ => ?_)
        refine pc_if (fun z => absurd z (by decide)) (fun _ => ?_)
        refine pc_if (fun z => absurd z (by decide)) (fun _ => ?_)
        refine pc_if (fun z => absurd z (by decide)) (fun _ => ?_)
        refine pc_if (fun _ => ?_) (fun z => absurd rfl z)
        refine pc_rA ?_; intro _ _ v106 e106
        rw [a5] at e106
        refine pc_if (fun _ => ?_) (fun z => absurd (fun y => j0 (e106.symm.trans y)) z)
        refine pc_sv (pc_and (y3 PB WL L m M) (fun w ew cc x c1 c2 => ff_X13_self nn w ew cc x (nw_of (by unfold wl_X13_self; simp only [List.mem_cons, List.not_mem_nil, or_false]; omega) (by unfold wf_X13_self; simp only [List.mem_cons, List.not_mem_nil, or_false, Prod.mk.injEq]; omega)) : Pc _ (fun w : ms_M => ∀ cc x : Nat, 174 ≤ cc → cc ≤ 176 → w cc x = m cc x))) ?_; intro u108 ⟨⟨M8, l8⟩, F8⟩
        obtain ⟨-, -, ⟨m1, m2, m3, m4⟩, -, o1, o2, o3⟩ := mk_t M8
        refine pc_sv (r_put (by omega)) ?_; intro u110 b1
        refine pc_rA ?_; intro _ _ v113 e113
        have F9 : u108 175 e.toNat = m 175 e.toNat := F8 175 _ (by omega) (by omega)
        rw [b1.2.2 175 _ (by omega) (by omega), F9, a5] at e113
        have x52 : u110 160 52 = u 49 13 := by
          rw [b1.2.2 160 52 (by omega) (by omega), y2]
          have ow := Y.2.2.2.1
          have c := ty_c (vtn_v n8 (show VTn (bn X) (bo X) by unfold VTn; omega))
          omega
        rw [x52]
        refine pc_imp (END PB WL L u108 u110 v113 M8 b1 e113) (fun w y => ⟨y.1, by rw [y.2]; exact l8⟩)
      · refine mkc_led (.inl (.inl y1)) ne y4 (by omega) (fun PB WL L m d M A z1 z2 => ?_)
        obtain ⟨MT, -, ⟨m1, m2, m3, m4⟩, -⟩ := mk_t M
        have a4 : m 174 e.toNat = ty_T (u 49 12) := by rw [A 174 e.toNat (by omega) (by omega) (by omega) (by omega), k8, k6]
        have a5 : m 175 e.toNat = v.2 175 e.toNat := A 175 e.toNat (by omega) (by omega) (by omega) (by omega)
        have a1 : m 174 (bT X 170 e.toNat).toNat = ty_T (u 49 13) := by rw [A 174 _ (by omega) (by omega) (by omega) (by omega)]; exact y3
        have j0 : ¬ v.2 175 e.toNat = -1 := by
          obtain ⟨ji, kk, -, -, ej, -⟩ := MX
          omega
        unfold qo_X13_workOne
        refine pc_rA ?_; intro _ _ v59 e59
        rw [a4] at e59
        refine pc_rA ?_; intro _ _ v61 e61
        rw [MT 167 e.toNat (by omega), y1] at e61
        rw [e59, e61]
        refine pc_if (fun z => absurd z (by decide)) (fun _ => ?_)
        refine pc_if (fun z => absurd z (by decide)) (fun _ => ?_)
        refine pc_if (fun z => absurd z (by decide)) (fun _ => ?_)
        refine pc_if (fun z => absurd z (by decide)) (fun _ => ?_)
        refine pc_if (fun z => absurd z (by decide)) (fun _ => ?_)
        refine pc_if (fun z => absurd z (by decide)) (fun _ => ?_)
        refine pc_if (fun z => absurd z (by decide)) (fun _ => ?_)
        refine pc_if (fun z => absurd z (by decide)) (fun _ => ?_)
        refine pc_if (fun z => absurd z (by decide)) (fun _ => ?_)
        refine pc_if (fun z => absurd z (by decide)) (fun _ => ?_)
        refine pc_if (fun _ => ?_) (fun z => absurd rfl z)
        refine pc_rA ?_; intro _ _ v159 e159
        rw [a5] at e159
        refine pc_if (fun _ => ?_) (fun z => absurd (fun y => j0 (e159.symm.trans y)) z)
        refine pc_sv (r_put (by omega)) ?_; intro u161 b1
        refine pc_rA ?_; intro _ _ v164 e164
        rw [b1.2.2 170 _ (by omega) (by omega), MT 170 e.toNat (by omega)] at e164
        refine pc_rA ?_; intro _ _ v165 e165
        rw [e164, b1.2.2 174 _ (by omega) (by omega), a1] at e165
        have tc := ty_c (t := u 49 13) (.inr (.inr (.inr (.inr (.inr (.inl (by omega)))))))
        refine pc_sub (by omega) ?_; intro v166 e166
        refine pc_xl ?_; intro v167 e167
        have d2 : v167 = u 49 13 := by rw [e167, Int.tdiv_eq_ediv_of_nonneg (by omega)]; omega
        rw [d2]
        refine pc_rA ?_; intro _ _ v169 e169
        rw [b1.2.2 175 _ (by omega) (by omega), a5] at e169
        unfold qj_X13_workOne_479
        refine pc_imp (END PB WL L m u161 v169 M b1 e169) (fun w y => ⟨y.1, by rw [y.2]; omega⟩)
  · obtain ⟨⟨x1, x2, x3, x4⟩, ⟨l3, l1⟩, tt, gg, ⟨pt, tq⟩, C1, C2⟩ := F
    refine pc_if (fun z => absurd z (by omega)) (fun _ => ?_)
    refine pc_if (fun z => absurd z (by omega)) (fun _ => ?_)
    refine pc_if (fun _ => ?_) (fun z => absurd x1 z)
    have S : ∀ o : Int, ((o = 46 ∧ u 49 12 = 301) ∨ (o = 50 ∧ ¬ u 49 12 = 301)) → Pc (qj_X10_fetch_120 nn o u) (fun u2 => POk nn X i a b p q e h r u2 v ∧ (u2 49 11 = 0 ∨ u2 49 11 = 1)) := fun o ho => by
      unfold qj_X10_fetch_120
      refine pc_sv (c_op (by omega)) ?_; intro u7 A1
      have G7 : ∀ cc x : Nat, ¬ (cc = 34 ∧ x = 1) → ¬ cc = 35 → u7 cc x = u cc x := fun cc x z1 z2 => A1.2.2 cc x (by omega) (by omega)
      have h7 := G7 34 3 (by omega) (by omega)
      refine pc_sv (c_pop (by omega) (by omega)) ?_; intro u10 A3
      unfold qj_X10_fetch_135
      have t10 : u10 49 12 = u 49 12 := by rw [A3.2 49 12 (by omega)]; exact G7 49 12 (by omega) (by omega)
      have h10 : u10 34 3 = h 34 3 := by rw [A3.1, h7]; split <;> omega
      rw [t10]
      refine pc_sv (c_push (by omega)) ?_; intro u4 A4
      refine pc_xl ?_; intro h5 e5
      have l7 := A1.1
      refine pc_ret (pok_fe K0 k3 nq (fun cc x z1 z2 z3 z4 => by rw [A3.2 cc x (by omega)]; exact G7 cc x (by omega) (by omega)) (by rw [A3.2 34 1 (by omega)]; omega) h10 f3.1 A4 e5 (by omega) x4 ?_)
      refine mkc_led (.inl (.inr (.inl x3))) ne C1 (by omega) (fun PB WL L m d M A z1 z2 => ?_)
      obtain ⟨MT, -, -, -⟩ := mk_t M
      have a4 : m 174 e.toNat = ty_T (u 49 12) := by rw [A 174 e.toNat (by omega) (by omega) (by omega) (by omega), k8, k6]
      have S2 : ∀ w : ms_M, MKx X PB WL L u w → (m 160 88 ≤ w 160 88 ∧ w 160 88 + 4 * (tt : Int) ≤ m 160 88 + 4 * (q : Int)) → Pc (qj_X13_workOne_508 nn (qg_X13_work nn d) (ty_T (u 49 12)) o w) (fun w => MKx X PB WL L h5 w ∧ (m 160 88 ≤ w 160 88 ∧ w 160 88 + 4 * (tt : Int) ≤ m 160 88 + 4 * (q : Int))) := fun w Mw lw => by
        obtain ⟨-, -, ⟨m1, m2, m3, m4⟩, -⟩ := mk_t Mw
        unfold qj_X13_workOne_508
        refine pc_sv (r_put (by omega)) ?_; intro u22 b1
        have M1 := mk_op Mw A1 b1 (fun _ => rfl) (by unfold in_R; omega)
        refine pc_sv (m_turn M1 A3 A4 (by omega) (by omega) ⟨rfl, k7, x4⟩ (fun z => x4 ((ty_3 (X := X) n8 k7).mp z)) e5) ?_; intro w5 ⟨M2, l5⟩
        exact pc_ret ⟨M2, by rw [l5, b1.2.2 160 88 (by omega) (by omega)]; exact lw⟩
      unfold qo_X13_workOne
      refine pc_rA ?_; intro _ _ v59 e59
      rw [a4] at e59
      refine pc_rA ?_; intro _ _ v61 e61
      rw [MT 167 e.toNat (by omega), x3] at e61
      rw [e59, e61]
      refine pc_if (fun z => absurd z (by decide)) (fun _ => ?_)
      refine pc_if (fun z => absurd z (by decide)) (fun _ => ?_)
      refine pc_if (fun z => absurd z (by decide)) (fun _ => ?_)
      refine pc_if (fun z => absurd z (by decide)) (fun _ => ?_)
      refine pc_if (fun z => absurd z (by decide)) (fun _ => ?_)
      refine pc_if (fun z => absurd z (by decide)) (fun _ => ?_)
      refine pc_if (fun z => absurd z (by decide)) (fun _ => ?_)
      refine pc_if (fun z => absurd z (by decide)) (fun _ => ?_)
      refine pc_if (fun z => absurd z (by decide)) (fun _ => ?_)
      refine pc_if (fun z => absurd z (by decide)) (fun _ => ?_)
      refine pc_if (fun z => absurd z (by decide)) (fun _ => ?_)
      refine pc_if (fun z => absurd z (by decide)) (fun _ => ?_)
      refine pc_if (fun _ => ?_) (fun z => absurd rfl z)
      refine pc_rA ?_; intro _ _ v189 e189
      rw [MT 171 e.toNat (by omega)] at e189
      rw [e189]
      refine pc_sv (C2 d PB WL L m M (an_s (v1 := v.2) A ⟨by omega, Int.le_refl _⟩ (fun _ _ _ _ _ _ => rfl)) (by omega) z2) ?_; intro u191 ⟨M9, l9⟩
      have t0 : ty_T (u 49 12) = 0 ↔ u 49 12 = 301 := by
        have c := ty_c (vtn_v n8 k7)
        omega
      refine pc_if (fun z => ?_) (fun z => ?_)
      · have o5 : o = 50 := by omega
        have S3 := S2 u191 M9 l9
        rw [o5] at S3; exact S3
      · have o5 : o = 46 := by omega
        have S3 := S2 u191 M9 l9
        rw [o5] at S3; exact S3
    refine pc_if (fun z => S 50 (by omega)) (fun z => S 46 (by omega))
end
