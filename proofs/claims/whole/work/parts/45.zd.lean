section
/- MEMBER of the pool, both sides -/
section
variable {nn : Nat} {X : BCx} {h g u r v w m : ms_M}
theorem mb_ix {s : Int} {j k : Nat} (M : MTB (bV X) (bC X) (bn X) (bM X) (bq X) (bA X) (bB X)) (hj : j < bM X) (hk : k < 8) (hs : s = 0 ∨ s = 1) (A : MSm (bB X) k s j) : mcn_T (bB X) k s j < mcn_T (bB X) k s (bM X) ∧ mcn_T (bB X) k s (bM X) ≤ 12 := by
  have lt := mcn_lt (r := bB X) hj A
  have q := (M.1 k hk).2
  rcases hs with z | z
  · rw [z] at lt ⊢; exact ⟨lt, q.1⟩
  · rw [z] at lt ⊢; exact ⟨lt, q.2⟩
theorem j_fieldC (Y : CXs X) (H : TXE (bK X) (bV X) (bC X) (bW X) (bn X) (bA X) (bB X) h m) (S : SPL m []) (R : PLR h m) (MB : MBd m) {x j k : Int} (B : MBx X 0 x j) (hk : 0 ≤ k ∧ k < 8 + (bn X : Int)) : Pc (qf_X6_fieldOf nn k x h) (fun u => Pc (qf_X13_memberConstant nn k j m) (fun w => PCo h m u w ∧ SPL w.2 [])) := by
  obtain ⟨-, -, n8, -, -, -, HD, s0, TF, -⟩ := Y
  obtain ⟨ji, kk, ⟨j1, k8⟩, ms, ej, ex⟩ := B
  have MT := HD.2.2.1
  obtain ⟨i1, i2⟩ := mb_ix MT j1 k8 (.inl rfl) ms
  obtain ⟨f1, f2, f3, f4⟩ := MT.2.1 ji kk j1 k8 ms
  have d2 := HD.2.2.2.2.1 ji j1
  have c17 := (MT.1 kk k8).1.1
  have vt := TF ji kk j1 k8 ms
  have s1 := s0 ji j1
  have b182 : bB X 182 ji = 0 := by
    rcases ms.2 with ⟨-, z⟩ | ⟨z, -⟩
    · exact absurd z (by decide)
    · omega
  generalize ec : mcn_T (bB X) kk 0 ji = cn at *
  subst ex; subst ej
  have x96 : 12 * kk + cn < 96 := by omega
  have hx : (((12 * kk + cn) % 12 : Nat) : Int) < bA X 17 ((12 * kk + cn) / 12) := by
    rw [show (12 * kk + cn) / 12 = kk by omega, show (12 * kk + cn) % 12 = cn by omega, c17]; omega
  have ek : k = ((k.toNat : Nat) : Int) := by omega
  rw [ek]
  unfold qf_X6_fieldOf
  refine j_mb3 n8 H S R MB (j := ji) (t := (bB X 186 ji).toNat) (k := k.toNat) (by omega) d2.2 (by omega) (F1 := fun g => qf_X2_nameOfField nn ((12 * kk + cn : Nat) : Int) g) (F2 := fun g => qf_X2_kindOfField nn ((12 * kk + cn : Nat) : Int) g) (fun g w G GF => ?_) (fun g w G S2 R2 B2 y ey => ?_)
  · unfold qf_X2_nameOfField
    refine pc_if (fun z => absurd z (by omega)) (fun _ => ?_)
    refine pc_if (fun z => absurd z (by omega)) (fun _ => ?_)
    refine pc_rA ?_; intro _ _ v4 e4
    rw [Int.toNat_natCast, G.2.1 18 _ (by omega), f1] at e4
    exact pc_ret e4
  · have K : Pc (qf_X2_kindOfField nn ((12 * kk + cn : Nat) : Int) g) (fun y => y = g 20 (12 * kk + cn)) := by
      unfold qf_X2_kindOfField
      refine pc_if (fun z => absurd z (by omega)) (fun _ => ?_)
      refine pc_if (fun z => absurd z (by omega)) (fun _ => ?_)
      refine pc_rA ?_; intro _ _ v4 e4
      rw [Int.toNat_natCast] at e4
      exact pc_ret e4
    rw [K y ey]
    exact j_kindF n8 G S2 R2 B2 x96 hx b182 ⟨vt, f2.2.1⟩ f2.2.2
theorem j_methC (Y : CXs X) (H : TXE (bK X) (bV X) (bC X) (bW X) (bn X) (bA X) (bB X) h m) (TB0 : TBc (bK X) (bP X) (bc X) h) (VL0 : VLc (bK X) (bV X) (bc X) h) (S : SPL m []) (R : PLR h m) (MB : MBd m) {x j k : Int} (B : MBx X 1 x j) (hk : 0 ≤ k ∧ k < 8 + (bn X : Int)) : Pc (qf_X6_methodOf nn k x h) (fun u => Pc (qf_X13_memberConstant nn k j m) (fun w => PCo h m u w ∧ SPL w.2 [])) := by
  obtain ⟨BK, -, n8, -, -, -, HD, s0, -, TM⟩ := Y
  obtain ⟨ji, kk, ⟨j1, k8⟩, ms, ej, ex⟩ := B
  have MT := HD.2.2.1
  obtain ⟨i1, i2⟩ := mb_ix MT j1 k8 (.inr rfl) ms
  obtain ⟨⟨f1, f2⟩, f3, ⟨f4, f5, f6, f7⟩, f8, -, -⟩ := MT.2.2.1 ji kk j1 k8 ms
  have d2 := HD.2.2.2.2.1 ji j1
  have c21 := (MT.1 kk k8).1.2
  obtain ⟨vt, v188, vp⟩ := TM ji kk j1 k8 ms
  have b182 : 0 < bB X 182 ji := by
    rcases ms.2 with ⟨z, -⟩ | ⟨-, z⟩
    · exact z
    · exact absurd z (by decide)
  generalize ec : mcn_T (bB X) kk 1 ji = cn at *
  subst ex; subst ej
  have x96 : 12 * kk + cn < 96 := by omega
  have hx : (((12 * kk + cn) % 12 : Nat) : Int) < bA X 21 ((12 * kk + cn) / 12) := by
    rw [show (12 * kk + cn) / 12 = kk by omega, show (12 * kk + cn) % 12 = cn by omega, c21]; omega
  have ek : k = ((k.toNat : Nat) : Int) := by omega
  rw [ek]
  unfold qf_X6_methodOf
  refine j_mb3 n8 H S R MB (j := ji) (t := (bB X 186 ji).toNat) (k := k.toNat) (by omega) d2.2 (by omega) (F1 := fun g => qf_X2_nameOfMethod nn ((12 * kk + cn : Nat) : Int) g) (F2 := fun g => qf_X2_kindOfMethod nn ((12 * kk + cn : Nat) : Int) g) (fun g w G GF => ?_) (fun g w G S2 R2 B2 y ey => ?_)
  · have TB : TBc (bK X) (bP X) (bc X) g := tbc_k TB0 (fun cc y z => GF cc y (by omega) (by omega) (by omega))
    have VL : VLc (bK X) (bV X) (bc X) g := fun i hi ki => by rw [GF 5 i (by omega) (by omega) (by omega)]; exact VL0 i hi ki
    unfold qf_X2_nameOfMethod
    have IM : Pc (qf_X2_isMethod nn ((12 * kk + cn : Nat) : Int) g) (fun y => y = 1) := by
      unfold qf_X2_isMethod
      refine pc_if (fun z => absurd z (by omega)) (fun _ => ?_)
      refine pc_if (fun z => absurd z (by omega)) (fun _ => ?_)
      refine pc_xl ?_; intro v3 e3
      refine pc_xl ?_; intro v5 e5
      have y3 : v3 = (cn : Int) := by rw [e3, Int.tmod_eq_emod_of_nonneg (by omega)]; omega
      have y5 : v5 = (kk : Int) := by rw [e5, Int.tdiv_eq_ediv_of_nonneg (by omega)]; omega
      refine pc_rA ?_; intro _ _ v6 e6
      rw [y5, Int.toNat_natCast, G.2.1 21 _ (by omega), c21] at e6
      exact pc_if (fun z => absurd z (by omega)) (fun _ => pc_ret rfl)
    refine pc_sv IM ?_; intro u2 q2
    refine pc_if (fun z => absurd z (by omega)) (fun _ => ?_)
    refine pc_rA ?_; intro _ _ v5 e5
    rw [Int.toNat_natCast, G.2.1 22 _ (by omega), f1] at e5
    refine pc_sv (c_valueAt BK TB VL (t := (bB X 186 ji).toNat) d2.2 (by omega)) ?_; intro u7 q7
    exact pc_ret q7
  · have K : Pc (qf_X2_kindOfMethod nn ((12 * kk + cn : Nat) : Int) g) (fun y => y = g 26 (12 * kk + cn)) := by
      unfold qf_X2_kindOfMethod
      refine pc_if (fun z => absurd z (by omega)) (fun _ => ?_)
      refine pc_if (fun z => absurd z (by omega)) (fun _ => ?_)
      refine pc_rA ?_; intro _ _ v4 e4
      rw [Int.toNat_natCast] at e4
      exact pc_ret e4
    rw [K y ey]
    refine j_kindM n8 G S2 R2 B2 (pn := (bB X 189 ji).toNat) (bp := (bB X 188 ji).toNat) x96 hx b182 ⟨vt, f2.2.1⟩ f2.2.2 (by omega) (by omega) (by omega) (by omega) (fun i hi => ?_)
    obtain ⟨-, p2, p3, -⟩ := f8 i (by omega)
    exact ⟨⟨vp i (by omega), p2.2.1⟩, p2.2.2⟩
end
end
section
/- E of both sides: what was only named comes to the stack -/
section
variable {nn : Nat} {X : BCx} {dp i a b e t : Int} {p q : Nat} {h g g2 u r w m : ms_M} {v : Int × ms_M}
theorem ty_3 (n8 : bn X ≤ 8) (V : VTn (bn X) t) : ty_T t = 3 ↔ t = 303 := by
  have c := ty_c (vtn_v n8 V)
  omega
theorem mkx_p1 {PB : Nat → Prop} {WL : Int → Int → Prop} {L : List (Int × Int)} {t t2 : Int} (M : MKx X PB WL L h m) (A : CPu t h g) (B : RPs t2 m w) (e : TJ (bn X) t2 t) (eu : u = up_M g 49 11 0) : MKx X PB WL L u w := mkx_c (mk_push M A B e) (fun cc x z1 z2 z3 => by rw [eu, up_n (by omega)])
/-- turn(k, t) where t is not void -/
theorem m_turn {PB : Nat → Prop} {WL : Int → Int → Prop} {L : List (Int × Int)} {t t2 k : Int} (M : MKx X PB WL L h m) (A : CPo k h g) (B : CPu t g g2) (hk : 0 ≤ k ∧ k ≤ h 34 3) (b3 : h 34 3 ≤ 1000000) (e : TJ (bn X) t2 t) (n3 : ¬ t2 = 3) (eu : u = up_M g2 49 11 0) : Pc (qf_X13_turn nn k t2 m) (fun w => MKx X PB WL L u w ∧ w 160 88 = m 160 88) := by
  obtain ⟨-, -, ⟨m1, m2, m3, m4⟩, -⟩ := mk_t M
  unfold qf_X13_turn
  refine pc_sub (by omega) ?_; intro v2 e2
  refine pc_xl ?_; intro h3 e3
  refine pc_if (fun z => absurd z n3) (fun _ => ?_)
  refine pc_sv r_push ?_; intro u5 q5
  have M1 : MKx X PB WL L g h3 := mk_pop M A hk (by rw [e3, e2])
  exact pc_ret ⟨mkx_p1 M1 B q5 e eu, by rw [q5.2.2.2.2 160 88 (by omega) (by omega), e3, up_n (by omega)]⟩
/-- the end of fetch: some bytes, some popped, one pushed -/
theorem pok_fe (K : POk nn X i a b p q e h r u v) (pq : p < q) (nq : ¬ bK X q = 51) (G : ∀ cc x : Nat, ¬ (cc = 34 ∧ (x = 1 ∨ x = 3)) → ¬ cc = 35 → ¬ (cc = 45 ∧ (x = 4 ∨ x = 5)) → ¬ (cc = 46 ∨ cc = 47) → g cc x = u cc x) (l1 : 0 ≤ g 34 1 ∧ g 34 1 + 20 * (p : Int) ≤ h 34 1 + 20 * (q : Int)) (l3 : g 34 3 = h 34 3) (h30 : 0 ≤ h 34 3) (CP : CPu (u 49 12) g g2) {u2 : ms_M} (eu : u2 = up_M g2 49 11 0) (nc : ¬ (i = 0 ∧ (bT X 167 e.toNat = 26 ∨ bT X 167 e.toNat = 31))) (n3 : ¬ u 49 12 = 303) (MC : MKC nn X e a b p q h u2 v.2) : POk nn X i a b p q e h r u2 v ∧ (u2 49 11 = 0 ∨ u2 49 11 = 1) := by
  obtain ⟨⟨k1, k2, k3, k4, k5⟩, ⟨k6, k7, k8⟩, ⟨k9, k10, k11⟩, ⟨k12, k13, k14⟩, -⟩ := K
  obtain ⟨c1, c2, c3, c4⟩ := CP
  have U : ∀ cc x : Nat, ¬ (cc = 34 ∧ (x = 1 ∨ x = 3 ∨ x = 4)) → ¬ (cc = 35 ∨ cc = 36) → ¬ (cc = 45 ∧ (x = 4 ∨ x = 5)) → ¬ (cc = 46 ∨ cc = 47) → ¬ (cc = 49 ∧ x = 11) → u2 cc x = u cc x := fun cc x z1 z2 z3 z4 z5 => by rw [eu, up_n z5, c4 cc x (by omega) (by omega)]; exact G cc x (by omega) (by omega) z3 z4
  have u11 : u2 49 11 = 0 := by rw [eu, up_s]
  have u12 : u2 49 12 = u 49 12 := U 49 12 (by omega) (by omega) (by omega) (by omega) (by omega)
  have u3 : u2 34 3 = h 34 3 + 1 := by rw [eu, up_n (by omega), c1, l3]
  have u1 : u2 34 1 = g 34 1 := by rw [eu, up_n (by omega), c4 34 1 (by omega) (by omega)]
  refine ⟨⟨⟨by rw [U 2 10 (by omega) (by omega) (by omega) (by omega) (by omega)]; exact k1, k2, k3, by rw [U 2 11 (by omega) (by omega) (by omega) (by omega) (by omega)]; exact k4, k5⟩, ⟨by rw [u12]; exact k6, by rw [u12]; exact k7, k8⟩, ⟨?_, k10, ?_⟩, ⟨?_, by omega, by omega⟩, .inl ⟨.inr ⟨u11, nc, by rw [u12]; exact n3⟩, fun _ => .inr nq, fun _ => ⟨⟨by rw [u12, if_neg n3]; exact u3, cp_top ⟨c1, c2, c3, c4⟩ (by omega) (by rw [u3, l3]) (fun x => by rw [eu, up_n (by omega)]) u12⟩, MC⟩⟩⟩, .inl u11⟩
  · exact fun cc x a1 a2 a3 a4 a5 a6 a7 a8 => by rw [U cc x (by omega) (by omega) (by omega) (by omega) (by omega)]; exact k9 cc x a1 a2 a3 a4 a5 a6 a7 a8
  · exact ⟨by rw [U 49 10 (by omega) (by omega) (by omega) (by omega) (by omega)]; exact k11.1, fun cc x z1 z2 z3 => by rw [U cc x (by omega) (by omega) (by omega) (by omega) (by omega)]; exact k11.2 cc x z1 z2 z3⟩
  · exact frc_k k12 (fun cc x z => U cc x (by omega) (by omega) (by omega) (by omega) (by omega))
theorem p_fetch (Y : CXs X) (Q : EPr X dp p h r) (ne : 0 ≤ a ∧ a ≤ e ∧ e < b) (K : POk nn X i a b p q e h r u v) (nq : ¬ bK X q = 51) : Pc (qf_X10_fetch nn u) (fun u2 => POk nn X i a b p q e h r u2 v ∧ (u2 49 11 = 0 ∨ u2 49 11 = 1)) := by
  have n8 := Y.2.2.1
  have K0 := K
  obtain ⟨⟨k1, k2, k3, k4, k5⟩, ⟨k6, k7, k8⟩, ⟨k9, k10, k11⟩, ⟨k12, k13, k14⟩, FM⟩ := K
  obtain ⟨B, ⟨q1, q2, q3, q4⟩, ⟨f1, f2, f3⟩, o1⟩ := Q
  have c3 := Y.1.2.1
  have tn := ty_num (X := X) n8 k7
  unfold qf_X10_fetch
  rcases FM with F | F | F | F
  · have F1 := F.1
    refine pc_if (fun z => absurd F1 (by omega)) (fun _ => ?_)
    refine pc_if (fun z => absurd F1 (by omega)) (fun _ => ?_)
    refine pc_if (fun z => absurd F1 (by omega)) (fun _ => ?_)
    exact pc_ret ⟨K0, by omega⟩
  · obtain ⟨⟨x1, x2, x3⟩, ⟨y1, y2, y3, y4, y5⟩, EQ⟩ := F
    have l1 : u 34 1 = h 34 1 := EQ 34 1 (.inl (by unfold RLc; omega))
    have l3 : u 34 3 = h 34 3 := EQ 34 3 (.inr (by omega))
    have nl : ¬ bT X 167 e.toNat = 30 ∧ ¬ bT X 167 e.toNat = 31 ∧ ¬ bT X 167 e.toNat = 32 ∧ ¬ bT X 167 e.toNat = 37 ∧ ¬ bT X 167 e.toNat = 38 := by omega
    have S : ∀ o : Int, ((o = 21 ∧ (u 49 12 = 301 ∨ u 49 12 = 302)) ∨ (o = 25 ∧ ¬ u 49 12 = 301 ∧ ¬ u 49 12 = 302)) → Pc (qj_X10_fetch_53 nn o u) (fun u2 => POk nn X i a b p q e h r u2 v ∧ (u2 49 11 = 0 ∨ u2 49 11 = 1)) := fun o ho => by
      unfold qj_X10_fetch_53
      refine pc_sv (c_op2 (by omega)) ?_; intro u13 ⟨g1, A1, A2⟩
      have G : ∀ cc x : Nat, ¬ (cc = 34 ∧ x = 1) → ¬ cc = 35 → u13 cc x = u cc x := fun cc x z1 z2 => by rw [A2.2.2 cc x (by omega) (by omega), A1.2.2 cc x (by omega) (by omega)]
      unfold qj_X10_fetch_135
      rw [G 49 12 (by omega) (by omega)]
      refine pc_sv (c_push (by rw [G 34 3 (by omega) (by omega)]; omega)) ?_; intro u4 q4'
      refine pc_xl ?_; intro h5 e5
      have l13 : u13 34 1 = u 34 1 + 2 := by rw [A2.1, A1.1]; omega
      refine pc_ret (pok_fe K0 k3 nq (fun cc x z1 z2 z3 z4 => G cc x (by omega) z2) (by omega) (by rw [G 34 3 (by omega) (by omega)]; exact l3) f3.1 q4' e5 (by omega) y5 ?_)
      refine mkc_leaf nl ne (fun PB WL L m d M A => ?_) (by omega)
      obtain ⟨MT, -, ⟨m1, m2, m3, m4⟩, -⟩ := mk_t M
      have M0 : MKx X PB WL L u m := mk_c M EQ
      have a4 : m 174 e.toNat = ty_T (u 49 12) := by rw [A 174 e.toNat (by omega) (by omega) (by omega) (by omega), k8, k6]
      have a5 : m 175 e.toNat = -1 := by rw [A 175 e.toNat (by omega) (by omega) (by omega) (by omega)]; exact y1
      have a6 : m 176 e.toNat = u 49 14 := by rw [A 176 e.toNat (by omega) (by omega) (by omega) (by omega)]; exact y2
      have S2 : Pc (qj_X13_workOne_184 nn (qg_X13_work nn d) e (ty_T (u 49 12)) o m) (fun w => MKx X PB WL L h5 w ∧ w 160 88 = m 160 88) := by
        unfold qj_X13_workOne_184
        refine pc_sv (r_put (by omega)) ?_; intro u41 b1
        refine pc_rA ?_; intro _ _ v43 e43
        rw [b1.2.2 176 _ (by omega) (by omega), a6] at e43
        rw [e43]
        refine pc_sv (r_put (by rw [b1.1]; omega)) ?_; intro u45 b2
        refine pc_sv r_push ?_; intro u47 b3
        have M1 := mk_op M0 A1 b1 (fun _ => rfl) (by unfold in_R; omega)
        have M2 := mk_op M1 A2 b2 (fun _ => rfl) (by unfold in_R; omega)
        exact pc_ret ⟨mkx_p1 M2 q4' b3 ⟨rfl, k7, y5⟩ e5, by rw [b3.2.2.2.2 160 88 (by omega) (by omega), b2.2.2 160 88 (by omega) (by omega), b1.2.2 160 88 (by omega) (by omega)]⟩
      unfold qo_X13_workOne
      refine pc_rA ?_; intro _ _ v59 e59
      rw [a4] at e59
      refine pc_rA ?_; intro _ _ v61 e61
      rw [MT 167 e.toNat (by omega), x3] at e61
      rw [e59, e61]
      refine pc_if (fun z => absurd z (by decide)) (fun _ => ?_)
      refine pc_if (fun z => absurd z (by decide)) (fun _ => ?_)
      refine pc_if (fun z => absurd z (by decide)) (fun _ => ?_)
      refine pc_if (fun z => absurd z (by decide)) (fun _ => ?_)
      refine pc_if (fun z => absurd z (by decide)) (fun _ => ?_)
      refine pc_if (fun _ => ?_) (fun z => absurd rfl z)
      refine pc_rA ?_; intro _ _ v106 e106
      rw [a5] at e106
      refine pc_if (fun z => absurd e106 z) (fun _ => ?_)
      refine pc_if (fun z => ?_) (fun z => ?_)
      · have o5 : o = 25 := by omega
        rw [o5] at S2; exact S2
      · have o5 : o = 21 := by omega
        rw [o5] at S2; exact S2
    refine pc_if (fun _ => ?_) (fun z => absurd x1 z)
    refine pc_sv c_isNum ?_; intro u17 q17
    refine pc_if (fun z => S 25 (by omega)) (fun z => S 21 (by omega))
  · obtain ⟨⟨x1, x2, x3, x4⟩, ⟨MX, l3, l1⟩, FF⟩ := F
    refine pc_if (fun z => absurd z (by omega)) (fun _ => ?_)
    refine pc_if (fun _ => ?_) (fun z => absurd x1 z)
    refine pc_se ?_; intro u24 e24
    have G24 : ∀ cc y : Nat, ¬ (cc = 45 ∧ (y = 4 ∨ y = 5)) → ¬ cc = 46 → ¬ cc = 47 → u24.2 cc y = u cc y := fun cc y z1 z2 z3 => ff_X6_fieldOf nn u24 e24 cc y (nw_of (by unfold wl_X6_fieldOf; simp only [List.mem_cons, List.not_mem_nil, or_false]; omega) (by unfold wf_X6_fieldOf; simp only [List.mem_cons, List.not_mem_nil, or_false, Prod.mk.injEq]; omega))
    refine pc_sv (c_op2 (by rw [G24 34 1 (by omega) (by omega) (by omega)]; omega)) ?_; intro u26 ⟨g1, A1, A2⟩
    have G26 : ∀ cc x : Nat, ¬ (cc = 34 ∧ x = 1) → ¬ cc = 35 → u26 cc x = u24.2 cc x := fun cc x z1 z2 => by rw [A2.2.2 cc x (by omega) (by omega), A1.2.2 cc x (by omega) (by omega)]
    have l24 := G24 34 1 (by omega) (by omega) (by omega)
    have l26 : u26 34 1 = u 34 1 + 2 := by rw [A2.1, A1.1]; omega
    have h26 : u26 34 3 = u 34 3 := by rw [G26 34 3 (by omega) (by omega)]; exact G24 34 3 (by omega) (by omega) (by omega)
    refine pc_sv (c_pop (by omega) (by omega)) ?_; intro u29 A3
    unfold qj_X10_fetch_135
    have t29 : u29 49 12 = u 49 12 := by rw [A3.2 49 12 (by omega), G26 49 12 (by omega) (by omega)]; exact G24 49 12 (by omega) (by omega) (by omega)
    have h29 : u29 34 3 = h 34 3 := by rw [A3.1, h26]; split <;> omega
    rw [t29]
    refine pc_sv (c_push (by omega)) ?_; intro u4 A4
    refine pc_xl ?_; intro h5 e5
    have END : ∀ (PB : Nat → Prop) (WL : Int → Int → Prop) (L : List (Int × Int)) (m w : ms_M) (j : Int), MKx X PB WL L u m → RPt 180 m w → j = v.2 175 e.toNat → Pc (mx_sv (qf_X13_memberConstant nn (u 49 13) j w) fun u115 => mx_sv (qf_X13_put nn u115.1 u115.2) fun u117 => mx_sv (qf_X13_turn nn 1 (ty_T (u 49 12)) u117) fun u119 => some u119) (fun w => MKx X PB WL L h5 w ∧ w 160 88 = m 160 88) := fun PB WL L m w j M b1 ej => by
      obtain ⟨-, -, ⟨m1, m2, m3, m4⟩, -⟩ := mk_t M
      obtain ⟨p1, p2, p3, p4⟩ := mk_plp M b1
      rw [ej]
      refine pc_sv (j_fieldC Y p4 p3 p1 p2 MX x3 u24 e24) ?_; intro w3 ⟨PC, SP⟩
      refine pc_sv (r_put (by rw [PC.2.2.2.2.1 160 68 (by omega) (by omega), b1.1]; omega)) ?_; intro w4 b2
      have M1 : MKx X PB WL L u26 w4 := mk_opc M b1 PC SP A1 A2 b2 (by unfold in_R; omega)
      refine pc_sv (m_turn M1 A3 A4 (by omega) (by omega) ⟨rfl, k7, x4⟩ (fun z => x4 ((ty_3 (X := X) n8 k7).mp z)) e5) ?_; intro w5 ⟨M2, l5⟩
      refine pc_ret ⟨M2, ?_⟩
      rw [l5, b2.2.2 160 88 (by omega) (by omega), PC.2.2.2.2.1 160 88 (by omega) (by omega), b1.2.2 160 88 (by omega) (by omega)]
    refine pc_ret (pok_fe K0 k3 nq (fun cc x z1 z2 z3 z4 => by rw [A3.2 cc x (by omega), G26 cc x (by omega) (by omega)]; exact G24 cc x z3 (by omega) (by omega)) (by rw [A3.2 34 1 (by omega)]; omega) h29 f3.1 A4 e5 ?_ x4 ?_)
    · rcases FF with ⟨y1, -⟩ | ⟨y1, -⟩ <;> omega
    · rcases FF with ⟨y1, y2, y3⟩ | ⟨y1, y2, y3, y4⟩
      · refine mkc_leaf (by omega) ne (fun PB WL L m d M A => ?_) (by omega)
        obtain ⟨MT, -, -, -⟩ := mk_t M
        have a4 : m 174 e.toNat = ty_T (u 49 12) := by rw [A 174 e.toNat (by omega) (by omega) (by omega) (by omega), k8, k6]
        have a5 : m 175 e.toNat = v.2 175 e.toNat := A 175 e.toNat (by omega) (by omega) (by omega) (by omega)
        have j0 : ¬ v.2 175 e.toNat = -1 := by
          obtain ⟨ji, kk, -, -, ej, -⟩ := MX
          omega
        unfold qo_X13_workOne
        refine pc_rA ?_; intro _ _ v59 e59
        rw [a4] at e59
        refine pc_rA ?_; intro _ _ v61 e61
        rw [MT 167 e.toNat (by omega), y1] at e61
        rw [e59, e61]
        refine pc_if (fun z => absurd z (by decide)) (fun _ => ?_)
        refine pc_if (fun z => absurd z (by decide)) (fun _ => ?_)
        refine pc_if (fun z => absurd z (by decide)) (fun _ => ?_)
        refine pc_if (fun z => absurd z (by decide)) (fun _ => ?_)
        refine pc_if (fun z => absurd z (by decide)) (fun _ => ?_)
        refine pc_if (fun _ => ?_) (fun z => absurd rfl z)
        refine pc_rA ?_; intro _ _ v106 e106
        rw [a5] at e106
        refine pc_if (fun _ => ?_) (fun z => absurd (fun y => j0 (e106.symm.trans y)) z)
        refine pc_sv (pc_and (y3 PB WL L m M) (fun w ew cc x c1 c2 => ff_X13_self nn w ew cc x (nw_of (by unfold wl_X13_self; simp only [List.mem_cons, List.not_mem_nil, or_false]; omega) (by unfold wf_X13_self; simp only [List.mem_cons, List.not_mem_nil, or_false, Prod.mk.injEq]; omega)) : Pc _ (fun w : ms_M => ∀ cc x : Nat, 174 ≤ cc → cc ≤ 176 → w cc x = m cc x))) ?_; intro u108 ⟨⟨M8, l8⟩, F8⟩
        obtain ⟨-, -, ⟨m1, m2, m3, m4⟩, -, o1, o2, o3⟩ := mk_t M8
        refine pc_sv (r_put (by omega)) ?_; intro u110 b1
        refine pc_rA ?_; intro _ _ v113 e113
        have F9 : u108 175 e.toNat = m 175 e.toNat := F8 175 _ (by omega) (by omega)
        rw [b1.2.2 175 _ (by omega) (by omega), F9, a5] at e113
        have x52 : u110 160 52 = u 49 13 := by
          rw [b1.2.2 160 52 (by omega) (by omega), y2]
          have ow := Y.2.2.2.1
          have c := ty_c (vtn_v n8 (show VTn (bn X) (bo X) by unfold VTn; omega))
          omega
        rw [x52]
        refine pc_imp (END PB WL L u108 u110 v113 M8 b1 e113) (fun w y => ⟨y.1, by rw [y.2]; exact l8⟩)
      · refine mkc_led (.inl (.inl y1)) ne y4 (by omega) (fun PB WL L m d M A z1 z2 => ?_)
        obtain ⟨MT, -, ⟨m1, m2, m3, m4⟩, -⟩ := mk_t M
        have a4 : m 174 e.toNat = ty_T (u 49 12) := by rw [A 174 e.toNat (by omega) (by omega) (by omega) (by omega), k8, k6]
        have a5 : m 175 e.toNat = v.2 175 e.toNat := A 175 e.toNat (by omega) (by omega) (by omega) (by omega)
        have a1 : m 174 (bT X 170 e.toNat).toNat = ty_T (u 49 13) := by rw [A 174 _ (by omega) (by omega) (by omega) (by omega)]; exact y3
        have j0 : ¬ v.2 175 e.toNat = -1 := by
          obtain ⟨ji, kk, -, -, ej, -⟩ := MX
          omega
        unfold qo_X13_workOne
        refine pc_rA ?_; intro _ _ v59 e59
        rw [a4] at e59
        refine pc_rA ?_; intro _ _ v61 e61
        rw [MT 167 e.toNat (by omega), y1] at e61
        rw [e59, e61]
        refine pc_if (fun z => absurd z (by decide)) (fun _ => ?_)
        refine pc_if (fun z => absurd z (by decide)) (fun _ => ?_)
        refine pc_if (fun z => absurd z (by decide)) (fun _ => ?_)
        refine pc_if (fun z => absurd z (by decide)) (fun _ => ?_)
        refine pc_if (fun z => absurd z (by decide)) (fun _ => ?_)
        refine pc_if (fun z => absurd z (by decide)) (fun _ => ?_)
        refine pc_if (fun z => absurd z (by decide)) (fun _ => ?_)
        refine pc_if (fun z => absurd z (by decide)) (fun _ => ?_)
        refine pc_if (fun z => absurd z (by decide)) (fun _ => ?_)
        refine pc_if (fun z => absurd z (by decide)) (fun _ => ?_)
        refine pc_if (fun _ => ?_) (fun z => absurd rfl z)
        refine pc_rA ?_; intro _ _ v159 e159
        rw [a5] at e159
        refine pc_if (fun _ => ?_) (fun z => absurd (fun y => j0 (e159.symm.trans y)) z)
        refine pc_sv (r_put (by omega)) ?_; intro u161 b1
        refine pc_rA ?_; intro _ _ v164 e164
        rw [b1.2.2 170 _ (by omega) (by omega), MT 170 e.toNat (by omega)] at e164
        refine pc_rA ?_; intro _ _ v165 e165
        rw [e164, b1.2.2 174 _ (by omega) (by omega), a1] at e165
        have tc := ty_c (t := u 49 13) (.inr (.inr (.inr (.inr (.inr (.inl (by omega)))))))
        refine pc_sub (by omega) ?_; intro v166 e166
        refine pc_xl ?_; intro v167 e167
        have d2 : v167 = u 49 13 := by rw [e167, Int.tdiv_eq_ediv_of_nonneg (by omega)]; omega
        rw [d2]
        refine pc_rA ?_; intro _ _ v169 e169
        rw [b1.2.2 175 _ (by omega) (by omega), a5] at e169
        unfold qj_X13_workOne_479
        refine pc_imp (END PB WL L m u161 v169 M b1 e169) (fun w y => ⟨y.1, by rw [y.2]; omega⟩)
  · obtain ⟨⟨x1, x2, x3, x4⟩, ⟨l3, l1⟩, tt, gg, ⟨pt, tq⟩, C1, C2⟩ := F
    refine pc_if (fun z => absurd z (by omega)) (fun _ => ?_)
    refine pc_if (fun z => absurd z (by omega)) (fun _ => ?_)
    refine pc_if (fun _ => ?_) (fun z => absurd x1 z)
    have S : ∀ o : Int, ((o = 46 ∧ u 49 12 = 301) ∨ (o = 50 ∧ ¬ u 49 12 = 301)) → Pc (qj_X10_fetch_120 nn o u) (fun u2 => POk nn X i a b p q e h r u2 v ∧ (u2 49 11 = 0 ∨ u2 49 11 = 1)) := fun o ho => by
      unfold qj_X10_fetch_120
      refine pc_sv (c_op (by omega)) ?_; intro u7 A1
      have G7 : ∀ cc x : Nat, ¬ (cc = 34 ∧ x = 1) → ¬ cc = 35 → u7 cc x = u cc x := fun cc x z1 z2 => A1.2.2 cc x (by omega) (by omega)
      have h7 := G7 34 3 (by omega) (by omega)
      refine pc_sv (c_pop (by omega) (by omega)) ?_; intro u10 A3
      unfold qj_X10_fetch_135
      have t10 : u10 49 12 = u 49 12 := by rw [A3.2 49 12 (by omega)]; exact G7 49 12 (by omega) (by omega)
      have h10 : u10 34 3 = h 34 3 := by rw [A3.1, h7]; split <;> omega
      rw [t10]
      refine pc_sv (c_push (by omega)) ?_; intro u4 A4
      refine pc_xl ?_; intro h5 e5
      have l7 := A1.1
      refine pc_ret (pok_fe K0 k3 nq (fun cc x z1 z2 z3 z4 => by rw [A3.2 cc x (by omega)]; exact G7 cc x (by omega) (by omega)) (by rw [A3.2 34 1 (by omega)]; omega) h10 f3.1 A4 e5 (by omega) x4 ?_)
      refine mkc_led (.inl (.inr (.inl x3))) ne C1 (by omega) (fun PB WL L m d M A z1 z2 => ?_)
      obtain ⟨MT, -, -, -⟩ := mk_t M
      have a4 : m 174 e.toNat = ty_T (u 49 12) := by rw [A 174 e.toNat (by omega) (by omega) (by omega) (by omega), k8, k6]
      have S2 : ∀ w : ms_M, MKx X PB WL L u w → (m 160 88 ≤ w 160 88 ∧ w 160 88 + 4 * (tt : Int) ≤ m 160 88 + 4 * (q : Int)) → Pc (qj_X13_workOne_508 nn (qg_X13_work nn d) (ty_T (u 49 12)) o w) (fun w => MKx X PB WL L h5 w ∧ (m 160 88 ≤ w 160 88 ∧ w 160 88 + 4 * (tt : Int) ≤ m 160 88 + 4 * (q : Int))) := fun w Mw lw => by
        obtain ⟨-, -, ⟨m1, m2, m3, m4⟩, -⟩ := mk_t Mw
        unfold qj_X13_workOne_508
        refine pc_sv (r_put (by omega)) ?_; intro u22 b1
        have M1 := mk_op Mw A1 b1 (fun _ => rfl) (by unfold in_R; omega)
        refine pc_sv (m_turn M1 A3 A4 (by omega) (by omega) ⟨rfl, k7, x4⟩ (fun z => x4 ((ty_3 (X := X) n8 k7).mp z)) e5) ?_; intro w5 ⟨M2, l5⟩
        exact pc_ret ⟨M2, by rw [l5, b1.2.2 160 88 (by omega) (by omega)]; exact lw⟩
      unfold qo_X13_workOne
      refine pc_rA ?_; intro _ _ v59 e59
      rw [a4] at e59
      refine pc_rA ?_; intro _ _ v61 e61
      rw [MT 167 e.toNat (by omega), x3] at e61
      rw [e59, e61]
      refine pc_if (fun z => absurd z (by decide)) (fun _ => ?_)
      refine pc_if (fun z => absurd z (by decide)) (fun _ => ?_)
      refine pc_if (fun z => absurd z (by decide)) (fun _ => ?_)
      refine pc_if (fun z => absurd z (by decide)) (fun _ => ?_)
      refine pc_if (fun z => absurd z (by decide)) (fun _ => ?_)
      refine pc_if (fun z => absurd z (by decide)) (fun _ => ?_)
      refine pc_if (fun z => absurd z (by decide)) (fun _ => ?_)
      refine pc_if (fun z => absurd z (by decide)) (fun _ => ?_)
      refine pc_if (fun z => absurd z (by decide)) (fun _ => ?_)
      refine pc_if (fun z => absurd z (by decide)) (fun _ => ?_)
      refine pc_if (fun z => absurd z (by decide)) (fun _ => ?_)
      refine pc_if (fun z => absurd z (by decide)) (fun _ => ?_)
      refine pc_if (fun _ => ?_) (fun z => absurd rfl z)
      refine pc_rA ?_; intro _ _ v189 e189
      rw [MT 171 e.toNat (by omega)] at e189
      rw [e189]
      refine pc_sv (C2 d PB WL L m M (an_s (v1 := v.2) A ⟨by omega, Int.le_refl _⟩ (fun _ _ _ _ _ _ => rfl)) (by omega) z2) ?_; intro u191 ⟨M9, l9⟩
      have t0 : ty_T (u 49 12) = 0 ↔ u 49 12 = 301 := by
        have c := ty_c (vtn_v n8 k7)
        omega
      refine pc_if (fun z => ?_) (fun z => ?_)
      · have o5 : o = 50 := by omega
        have S3 := S2 u191 M9 l9
        rw [o5] at S3; exact S3
      · have o5 : o = 46 := by omega
        have S3 := S2 u191 M9 l9
        rw [o5] at S3; exact S3
    refine pc_if (fun z => S 50 (by omega)) (fun z => S 46 (by omega))
end
end
section
/- E of both sides: a P, and a U that is a P -/
def EOk (nn : Nat) (X : BCx) (i a b : Int) (p q : Nat) (e : Int) (h r u : ms_M) (v : Int × ms_M) : Prop := POk nn X i a b p q e h r u v ∧ u 49 15 = (p : Int) ∧ (¬ bK X q = 51 → u 49 11 = 0 ∨ u 49 11 = 1)
/-- a P: the class goes on in its loop behind it -/
def P3 (nn : Nat) (X : BCx) (dp i a b : Int) (p q : Nat) (e : Int) : Prop := ∀ (d d2 : Nat) (h r : ms_M) (Z : ms_M → Int × ms_M → Prop), EPr X dp p h r → (0 ≤ r 160 57 ∧ r 160 57 + (b - a) < 9000 ∧ b ≤ 9000) → (bK X q = 48 → bK X (q + 1) = 2 → bK X (q + 2) = 40 → i = 0 → bT X 167 e.toNat = 25 → Pc (qf_X13_sightOf nn (p : Int) r) (fun u => ¬ u = -1) ∨ Pc (qf_X13_memberOf nn (bo X) (p : Int) 0 r) (fun u => ¬ u = -1)) → (∀ (k : Nat) (t : Int) (u : ms_M) (v : Int × ms_M), POk nn X i a b p q e h r u v → (0 ≤ t ∧ t ≤ (q : Int)) → Pc (qw_X10_readPrimary_118 nn (qg_X10_readValue nn d) k dp (p : Int) (bK X q) t u) (fun uF => Z uF v)) → (∀ (uF : ms_M) (v : Int × ms_M), (SFj uF v.2 ∨ VDj X i a b p q e h r uF v) → Z uF v) → Pc (qo_X10_readPrimary nn (qg_X10_readValue nn d) dp h) (fun uF => Pc ((qg_X13_condition nn d2).2.2.1 e r) (fun v => Z uF v))
/-- an E, a U: j which reader of the class -/
def E2 (nn : Nat) (X : BCx) (dp i a b : Int) (p q : Nat) (e : Int) : Prop := ∀ (d d2 : Nat) (h r : ms_M), EPr X dp p h r → (0 ≤ r 160 57 ∧ r 160 57 + (b - a) < 9000 ∧ b ≤ 9000) → Pc ((qg_X10_readValue nn d).2.2.1 dp h) (fun u => Pc ((qg_X13_condition nn d2).2.2.1 e r) (fun v => (SFj u v.2 ∨ VDj X i a b p q e h r u v) ∨ EOk nn X i a b p q e h r u v))
/-- what may stand behind an E -/
def ENDk (k : Int) : Prop := k = 41 ∨ k = 45 ∨ k = 46 ∨ k = 47 ∨ k = 50 ∨ k = 51
/-- .. an E: its first token may be forgotten -/
def EOz (nn : Nat) (X : BCx) (i a b : Int) (p q : Nat) (e : Int) (h r u : ms_M) (v : Int × ms_M) : Prop := POk nn X i a b p q e h r u v ∧ True ∧ (¬ bK X q = 51 → u 49 11 = 0 ∨ u 49 11 = 1)
def E0 (nn : Nat) (X : BCx) (dp i a b : Int) (p q : Nat) (e : Int) : Prop := ENDk (bK X q) → ∀ (d d2 : Nat) (h r : ms_M), EPr X dp p h r → (0 ≤ r 160 57 ∧ r 160 57 + (b - a) < 9000 ∧ b ≤ 9000) → Pc ((qg_X10_readValue nn d).1 dp h) (fun u => Pc ((qg_X13_condition nn d2).2.2.1 e r) (fun v => (SFj u v.2 ∨ VDj X i a b p q e h r u v) ∨ EOz nn X i a b p q e h r u v))
section
variable {nn : Nat} {X : BCx} {dp i a b e : Int} {p q : Nat} {h g u r w m : ms_M} {v : Int × ms_M}
theorem sf_c (S : SFj u w) (A : FSc u g) : SFj g w := ⟨by rw [A.1]; exact S.1, by rw [A.1]; exact S.2.1, by rw [A.2]; exact S.2.2⟩
theorem vd_c (S : VDj X i a b p q e h r u v) (A : FSc u g) : VDj X i a b p q e h r g v := ⟨⟨by rw [A.1]; exact S.1.1, by rw [A.2]; exact S.1.2.1, S.1.2.2⟩, S.2⟩
theorem vd_i {i2 : Int} {p2 q2 : Nat} {h2 : ms_M} (S : VDj X i a b p q e h r u v) (n : ¬ i2 = 0) : VDj X i2 a b p2 q2 e h2 r u v := ⟨⟨S.1.1, S.1.2.1, S.1.2.2.1, S.1.2.2.2.1, fun z => absurd z n⟩, S.2⟩
theorem vd_n (S : VDj X i a b p q e h r u v) : ¬ u 2 11 = 0 := by have := S.1.1; omega
/-- TBc of the class later on -/
theorem pk_b (Q : EPr X dp p h r) (K : POk nn X i a b p q e h r u v) : TBc (bK X) (bP X) (bc X) u := tbc_k Q.1.1.1.1.1 (fun cc y z => K.2.2.1.1 cc y (by omega) (by omega) (by omega) (by omega) (by omega) (by omega) (by omega) (by omega))
/-- behind the first part of a P -/
theorem p3_fin {W : Option (Int × ms_M)} {x : Option ms_M} {Z : ms_M → Int × ms_M → Prop} {d : Nat} (Y : CXs X) (Q : EPr X dp p h r) (H : Pc x (fun u => Pc W (fun v => (SFj u v.2 ∨ VDj X i a b p q e h r u v) ∨ POk nn X i a b p q e h r u v))) (HC : ∀ (k : Nat) (t : Int) (u : ms_M) (v : Int × ms_M), POk nn X i a b p q e h r u v → (0 ≤ t ∧ t ≤ (q : Int)) → Pc (qw_X10_readPrimary_118 nn (qg_X10_readValue nn d) k dp (p : Int) (bK X q) t u) (fun uF => Z uF v)) (HF : ∀ (uF : ms_M) (v : Int × ms_M), (SFj uF v.2 ∨ VDj X i a b p q e h r uF v) → Z uF v) {l2 : Int} (hl : l2 = (p : Int)) : Pc (mx_sv x fun u => qj_X10_readPrimary_107 nn (qg_X10_readValue nn d) dp l2 u) (fun uF => Pc W (fun v => Z uF v)) := by
  subst hl
  refine p2_sa (pc_imp H (fun u Hu => pc_imp Hu (fun v hv => ?_)))
  rcases hv with (S | S) | K
  · exact pc_imp (fs_qj_X10_readPrimary_107 (fsg_X10_readValue nn d) S.1) (fun uF F => HF uF v (.inl (sf_c S F)))
  · exact pc_imp (fs_qj_X10_readPrimary_107 (fsg_X10_readValue nn d) (vd_n S)) (fun uF F => HF uF v (.inr (vd_c S F)))
  · unfold qj_X10_readPrimary_107
    refine pc_sv (c_kind Y.1 (pk_b Q K) K.1.2.1 K.1.1 K.1.2.2.2.1) ?_; intro u20 q20
    rw [q20]
    exact HC nn 0 u v K ⟨by omega, by omega⟩
/-- constants and this -/
theorem p3_pl (Y : CXs X) (ne : 0 ≤ a ∧ a ≤ e ∧ e < b) (nd : ((bT X 167 e.toNat = 20 ∧ bK X p = 3) ∨ (bT X 167 e.toNat = 21 ∧ bK X p = 28) ∨ (bT X 167 e.toNat = 22 ∧ bK X p = 17) ∨ (bT X 167 e.toNat = 23 ∧ bK X p = 22) ∨ (bT X 167 e.toNat = 24 ∧ bK X p = 26)) ∧ bT X 168 e.toNat = (p : Int)) (hq : q = p + 1) : P3 nn X dp 0 a b p q e := by
  intro d d2 h r Z Q b57 _ HC HF
  subst hq
  have Q0 := Q
  obtain ⟨B, ⟨q1, q2, q3, q4⟩, ⟨f1, f2, f3⟩, o1⟩ := Q0
  have TB : TBc (bK X) (bP X) (bc X) h := B.1.1.1.1
  have BK := Y.1
  have c3 := BK.2.1
  have p1 : p + 1 < bc X := jp_lt BK q2 (by omega)
  have b57' : 0 ≤ r 160 57 ∧ r 160 57 ≤ 10000 := by omega
  unfold qo_X10_readPrimary
  refine pc_sv (c_kind BK TB q2 q1 q3) ?_; intro u25 q25
  refine pc_if (fun z => absurd z (by omega)) (fun _ => ?_)
  refine pc_if (fun z => absurd z (by omega)) (fun _ => ?_)
  refine pc_if (fun z => absurd z (by omega)) (fun _ => ?_)
  refine p3_fin Y Q ?_ HC HF q1
  unfold qf_X10_readConstant
  rw [q1]
  refine pc_add (by omega) ?_; intro v5 e5
  refine pc_xl ?_; intro h6 e6
  rw [show v5 = ((p + 1 : Nat) : Int) by omega] at e6
  have TB6 : TBc (bK X) (bP X) (bc X) h6 := tbc_k TB (fun cc y z => by rw [e6, up_n (by omega)])
  refine pc_sv (c_kindAt BK TB6 (t := p) rfl) ?_; intro u9 q9
  refine pc_if (fun z => ?_) (fun z => ?_)
  · refine pc_sv (c_valAt TB6 q2 c3.2 (x := (p : Int)) rfl) ?_; intro u14 q14
    rw [e6, up_n (by omega)] at q14
    rw [e6]
    refine pc_sv (P := fun u => Pc ((qg_X13_condition nn d2).2.2.1 e r) (fun v => POk nn X 0 a b p (p + 1) e h r u v)) (p_num Y Q b57' ne ⟨by omega, nd.2⟩ (by omega) p1 d2 q14) ?_; intro u16 q16
    exact pc_ret (pc_imp q16 (fun v k => .inr k))
  · refine pc_if (fun z2 => ?_) (fun z2 => ?_)
    · rw [e6]
      exact pc_imp (p_yes (k := 0) Y Q b57' ne (.inr (.inl ⟨by omega, by omega, rfl, rfl⟩)) p1 d2) (fun u qu => pc_imp qu (fun v k => .inr k))
    · refine pc_if (fun z3 => ?_) (fun z3 => ?_)
      · rw [e6]
        exact pc_imp (p_yes (k := 0) Y Q b57' ne (.inr (.inr ⟨by omega, by omega, rfl, rfl⟩)) p1 d2) (fun u qu => pc_imp qu (fun v k => .inr k))
      · refine pc_if (fun z4 => ?_) (fun z4 => ?_)
        · rw [e6]
          exact pc_imp (p_yes (k := 0) Y Q b57' ne (.inl ⟨by omega, by omega, rfl, rfl⟩) p1 d2) (fun u qu => pc_imp qu (fun v k => .inr k))
        · rw [e6]
          refine pc_sv (P := fun u => Pc ((qg_X13_condition nn d2).2.2.1 e r) (fun v => SFj u v.2 ∨ POk nn X 0 a b p (p + 1) e h r u v)) (p_this Y Q b57' ne ⟨by omega, nd.2⟩ (by omega) p1 d2 rfl) ?_; intro u11 q11
          exact pc_ret (pc_imp q11 (fun v k => k.elim (fun y => .inl (.inl y)) .inr))
/-- the class's field first is set -/
theorem pok_c {u2 : ms_M} (K : POk nn X i a b p q e h r u v) (E : ∀ cc x : Nat, ¬ (cc = 49 ∧ x = 15) → u2 cc x = u cc x) : POk nn X i a b p q e h r u2 v := by
  obtain ⟨⟨k1, k2, k3, k4, k5⟩, ⟨k6, k7, k8⟩, ⟨k9, k10, k11⟩, ⟨k12, k13, k14⟩, FM⟩ := K
  have e10 := E 2 10 (by omega)
  have e11 := E 2 11 (by omega)
  have t12 := E 49 12 (by omega)
  have f11 := E 49 11 (by omega)
  have f13 := E 49 13 (by omega)
  have f14 := E 49 14 (by omega)
  have l1 := E 34 1 (by omega)
  have l3 := E 34 3 (by omega)
  have MC : ∀ {e' a' b' : Int} {p' q' : Nat} {h' v' : ms_M}, MKC nn X e' a' b' p' q' h' u v' → MKC nn X e' a' b' p' q' h' u2 v' := fun M d PB WL L m M1 A z1 z2 => pc_imp (M d PB WL L m M1 A z1 z2) (fun w y => ⟨mkx_c y.1 (fun cc x z1 z2 z3 => E cc x (by omega)), y.2⟩)
  refine ⟨⟨by rw [e10]; exact k1, k2, k3, by rw [e11]; exact k4, k5⟩, ⟨by rw [t12]; exact k6, by rw [t12]; exact k7, k8⟩, ⟨fun cc x a1 a2 a3 a4 a5 a6 a7 a8 => by rw [E cc x (by omega)]; exact k9 cc x a1 a2 a3 a4 a5 a6 a7 a8, k10, ⟨by rw [E 49 10 (by omega)]; exact k11.1, fun cc x z1 z2 z3 => by rw [E cc x (by omega)]; exact k11.2 cc x z1 z2 z3⟩⟩, ⟨frc_k k12 (fun cc x z => E cc x (by omega)), by rw [l1]; exact k13, by rw [l3]; exact k14⟩, ?_⟩
  rcases FM with ⟨F1, F2, F3⟩ | ⟨F1, F2, F3⟩ | ⟨F1, F2, F3⟩ | ⟨F1, F2, t, g, F3, F4, F5⟩
  · exact .inl ⟨by rw [f11, t12, E 49 18 (by omega)]; exact F1, F2, fun z => ⟨by rw [l3, t12, E 36 _ (by omega)]; exact (F3 z).1, MC (F3 z).2⟩⟩
  · exact .inr (.inl ⟨by rw [f11]; exact F1, by rw [f14, t12]; exact F2, fun cc x z => by rw [E cc x (by rcases z with z | z | z <;> first | (unfold RLc at z; omega) | omega)]; exact F3 cc x z⟩)
  · refine .inr (.inr (.inl ⟨by rw [f11, f13, t12]; exact F1, by rw [f14, l3, l1]; exact F2, ?_⟩))
    rcases F3 with ⟨y1, y2, y3⟩ | ⟨y1, y2, y3, y4⟩
    · exact .inl ⟨y1, by rw [f13]; exact y2, fun PB WL L m M => pc_imp (y3 PB WL L m M) (fun w z => ⟨mkx_c z.1 (fun cc x z1 z2 z3 => E cc x (by omega)), z.2⟩)⟩
    · exact .inr ⟨y1, y2, by rw [f13]; exact y3, MC y4⟩
  · exact .inr (.inr (.inr ⟨by rw [f11, t12]; exact F1, by rw [l3, l1]; exact F2, t, g, F3, F4, MC F5⟩))
/-- a U that is a P -/
theorem e2_up (Y : CXs X) (ne : 0 ≤ a ∧ a ≤ e ∧ e < b) (hd : dp ≤ 40) (H : P3 nn X dp i a b p q e) (nk : ¬ CST (bK X) (p : Int) ∧ ¬ bK X p = 62 ∧ ¬ bK X p = 71 ∧ ¬ bK X p = 72 ∧ ¬ bK X q = 48 ∧ ¬ bK X q = 44) : E2 nn X dp i a b p q e := by
  intro d d2 h r Q b57
  obtain ⟨n1, n2, n3, n4, n5, n6⟩ := nk
  have Q0 := Q
  obtain ⟨B, ⟨q1, q2, q3, q4⟩, -, -⟩ := Q0
  have TB : TBc (bK X) (bP X) (bc X) h := B.1.1.1.1
  have BK := Y.1
  cases d with
  | zero => exact pc_none
  | succ d =>
    show Pc (qo_X10_readUnary nn (qg_X10_readValue nn d) dp h) _
    unfold qo_X10_readUnary
    refine pc_if (fun _ => ?_) (fun z => absurd (by omega) z)
    refine pc_sv (c_kind BK TB q2 q1 q3) ?_; intro u15 q15
    refine pc_if (fun z => absurd z (by omega)) (fun _ => ?_)
    refine pc_if (fun z => absurd z (by omega)) (fun _ => ?_)
    refine pc_if (fun _ => ?_) (fun z => absurd (show ¬ u15 = 71 by omega) z)
    refine pc_sv (c_cast BK TB q2 q1 q3) ?_; intro u18 q18
    rcases q18 with ⟨-, z⟩ | ⟨z, -⟩
    · exact absurd z n1
    · refine pc_if (fun _ => ?_) (fun y => absurd z y)
      rw [q1]
      cases d with
      | zero => exact pc_none
      | succ d =>
        refine p2_sa ?_
        refine H d d2 h r (fun uF v => Pc (qj_X10_readUnary_116 nn (qg_X10_readValue nn (d + 1)) (p : Int) uF) (fun u => (SFj u v.2 ∨ VDj X i a b p q e h r u v) ∨ EOk nn X i a b p q e h r u v)) Q b57 (fun z => absurd z n5) (fun k t u v K ht => ?_) (fun uF v S => ?_)
        · have FIN : ∀ u2 : ms_M, POk nn X i a b p q e h r u2 v → (¬ bK X q = 51 → u2 49 11 = 0 ∨ u2 49 11 = 1) → Pc (qj_X10_readUnary_116 nn (qg_X10_readValue nn (d + 1)) (p : Int) u2) (fun u => (SFj u v.2 ∨ VDj X i a b p q e h r u v) ∨ EOk nn X i a b p q e h r u v) := fun u2 K2 F2 => by
            unfold qj_X10_readUnary_116
            refine pc_xl ?_; intro h1 e1
            have E : ∀ cc x : Nat, ¬ (cc = 49 ∧ x = 15) → h1 cc x = u2 cc x := fun cc x z => by rw [e1, up_n z]
            refine pc_ret (.inr ⟨?_, by rw [e1, up_s], by rw [E 49 11 (by omega)]; exact F2⟩)
            exact pok_c K2 E
          have G176 : Pc (qj_X10_readPrimary_176 nn (qg_X10_readValue nn d) (bK X q) u) (fun uF => Pc (qj_X10_readUnary_116 nn (qg_X10_readValue nn (d + 1)) (p : Int) uF) (fun u => (SFj u v.2 ∨ VDj X i a b p q e h r u v) ∨ EOk nn X i a b p q e h r u v)) := by
            unfold qj_X10_readPrimary_176
            refine pc_if (fun z => pc_ret (FIN u K (fun y => absurd z y))) (fun z => ?_)
            refine pc_sv (p_fetch Y Q ne K z) ?_; intro u2 ⟨K2, F2⟩
            exact pc_ret (FIN u2 K2 (fun _ => F2))
          cases k with
          | zero => exact pc_none
          | succ k =>
            unfold qw_X10_readPrimary_118
            refine pc_if (fun _ => G176) (fun _ => ?_)
            refine pc_if (fun z => absurd z n5) (fun _ => ?_)
            exact pc_if (fun _ => G176) (fun z => absurd n6 z)
        · rcases S with S | S
          · exact pc_imp (fs_qj_X10_readUnary_116 (fsg_X10_readValue nn (d + 1)) S.1) (fun u F => .inl (.inl (sf_c S F)))
          · exact pc_imp (fs_qj_X10_readUnary_116 (fsg_X10_readValue nn (d + 1)) (vd_n S)) (fun u F => .inl (.inr (vd_c S F)))
end
end
section
/- E of both sides: a NAME -/
section
variable {nn : Nat} {X : BCx} {dp i a b e : Int} {p q : Nat} {h g u r w m : ms_M} {v : Int × ms_M}
/-- a member that both sides have found -/
theorem mbx_of {s x : Int} {j k : Nat} (B : BX X h r) (hs : s = 0 ∨ s = 1) (hj : j < bM X) (hk : k < 8) (A : MSm r k s j) (hx : x = ((12 * k + mcn_T r k s j : Nat) : Int)) : MBx X s x (j : Int) ∧ MSm (bB X) k s j ∧ mcn_T r k s j = mcn_T (bB X) k s j := by
  have R := B.2.2.2.2.2.2.1
  have mc : mcn_T r k s j = mcn_T (bB X) k s j := mcn_k (fun cc x z => R cc x (by omega)) j
  have ms : MSm (bB X) k s j := (msm_k (R 181 j (by omega)) (R 182 j (by omega))).mp A
  exact ⟨⟨j, k, ⟨hj, hk⟩, ms, rfl, by rw [hx, mc]⟩, ms, mc⟩
/-- a field's type on both sides -/
theorem fld_ty (Y : CXs X) (B : BX X h r) {j k : Nat} {x : Int} (hj : j < bM X) (hk : k < 8) (A : MSm r k 0 j) (hx : x = ((12 * k + mcn_T r k 0 j : Nat) : Int)) : (0 ≤ x ∧ x < 96) ∧ r 187 j = ty_T (h 19 x.toNat) ∧ VTn (bn X) (h 19 x.toNat) ∧ ¬ h 19 x.toNat = 303 := by
  obtain ⟨MX, ms, mc⟩ := mbx_of B (.inl rfl) hj hk A hx
  have HM := B.1.2.2.1
  obtain ⟨f1, f2, f3, f4⟩ := HM.2.1 j k hj hk A
  have TF := Y.2.2.2.2.2.2.2.2.1 j k hj hk ms
  have ix := mb_ix Y.2.2.2.2.2.2.1.2.2.1 hj hk (.inl rfl) ms
  have e19 := B.2.2.2.2.2.2.2.1 19 x.toNat (by omega)
  have xe : x.toNat = 12 * k + mcn_T r k 0 j := by omega
  refine ⟨by omega, ?_, ?_, ?_⟩
  · rw [xe]; exact f2.2.2
  · rw [e19, xe, mc]; exact TF
  · rw [xe]; exact f3
theorem c_tyF {x : Int} (hx : 0 ≤ x ∧ x < 96) : Pc (qf_X2_typeOfField nn x h) (fun u => u = h 19 x.toNat) := by
  unfold qf_X2_typeOfField
  refine pc_if (fun z => absurd z (by omega)) (fun _ => ?_)
  refine pc_if (fun z => absurd z (by omega)) (fun _ => ?_)
  refine pc_rA ?_; intro _ _ v4 e4
  exact pc_ret e4
theorem c_nmF {x c : Int} (hx : 0 ≤ x ∧ x < 96) : Pc (qf_X10_nameField nn c x h) (fun u => (u 49 11 = 3 ∧ u 49 13 = c ∧ u 49 14 = x ∧ u 49 12 = h 19 x.toNat) ∧ ∀ cc y : Nat, ¬ (cc = 49 ∧ (y = 11 ∨ y = 12 ∨ y = 13 ∨ y = 14)) → u cc y = h cc y) := by
  unfold qf_X10_nameField
  refine pc_xl ?_; intro h1 e1
  refine pc_xl ?_; intro h2 e2
  refine pc_xl ?_; intro h3 e3
  refine pc_sv (c_tyF hx) ?_; intro u6 q6
  refine pc_xl ?_; intro h7 e7
  rw [e3, up_n (by omega), e2, up_n (by omega), e1, up_n (by omega)] at q6
  refine pc_ret ⟨⟨?_, ?_, ?_, ?_⟩, fun cc y z => ?_⟩
  · rw [e7, up_n (by omega), e3, up_n (by omega), e2, up_n (by omega), e1, up_s]
  · rw [e7, up_n (by omega), e3, up_n (by omega), e2, up_s]
  · rw [e7, up_n (by omega), e3, up_s]
  · rw [e7, up_s]; exact q6
  · rw [e7, up_n (by omega), e3, up_n (by omega), e2, up_n (by omega), e1, up_n (by omega)]
/-- is a call of a class's name behind it -/
theorem c_icb {t : Nat} {x : Int} (Y : CXs X) (TB : TBc (bK X) (bP X) (bc X) h) (hx : x = (t : Int)) (ht : t < bc X) : Pc (qf_X10_isCallBehindPoint nn x h) (fun u => (u = 1 ∧ bK X t = 48 ∧ bK X (t + 1) = 2 ∧ bK X (t + 2) = 40) ∨ (u = 0 ∧ ¬ (bK X t = 48 ∧ bK X (t + 1) = 2 ∧ bK X (t + 2) = 40))) := by
  subst hx
  have c3 := Y.1.2.1
  unfold qf_X10_isCallBehindPoint
  refine pc_sv (c_kindAt Y.1 TB (t := t) rfl) ?_; intro u3 q3
  refine pc_if (fun z => pc_ret (.inr ⟨rfl, fun y => z (q3.trans y.1)⟩)) (fun z => ?_)
  refine pc_add (by omega) ?_; intro v5 e5
  refine pc_sv (c_kindAt Y.1 TB (t := t + 1) (by omega)) ?_; intro u7 q7
  refine pc_if (fun z2 => pc_ret (.inr ⟨rfl, fun y => z2 (q7.trans y.2.1)⟩)) (fun z2 => ?_)
  refine pc_add (by omega) ?_; intro v9 e9
  refine pc_sv (c_kindAt Y.1 TB (t := t + 2) (by omega)) ?_; intro u11 q11
  refine pc_if (fun z3 => pc_ret (.inr ⟨rfl, fun y => z3 (q11.trans y.2.2)⟩)) (fun z3 => ?_)
  exact pc_ret (.inl ⟨rfl, q3.symm.trans (Classical.byContradiction z), q7.symm.trans (Classical.byContradiction z2), q11.symm.trans (Classical.byContradiction z3)⟩)
/-- a variable, a field of one's own, or neither -/
theorem p_name (Y : CXs X) (Q : EPr X dp p h r) (b57 : 0 ≤ r 160 57 ∧ r 160 57 ≤ 10000) (ne : 0 ≤ a ∧ a ≤ e ∧ e < b) (nd : bT X 167 e.toNat = 25 ∧ bT X 168 e.toNat = (p : Int)) (kp : bK X p = 2) (k1 : ¬ bK X (p + 1) = 40) (p1 : p + 1 < bc X) (HB : bK X (p + 1) = 48 → bK X (p + 1 + 1) = 2 → bK X (p + 1 + 2) = 40 → (0 : Int) = 0 → bT X 167 e.toNat = 25 → Pc (qf_X13_sightOf nn (p : Int) r) (fun u => ¬ u = -1) ∨ Pc (qf_X13_memberOf nn (bo X) (p : Int) 0 r) (fun u => ¬ u = -1)) (d d2 : Nat) : Pc (qo_X10_readNamed nn (qg_X10_readValue nn d) dp h) (fun u => Pc ((qg_X13_condition nn d2).2.2.1 e r) (fun v => (SFj u v.2 ∨ VDj X 0 a b p (p + 1) e h r u v) ∨ POk nn X 0 a b p (p + 1) e h r u v)) := by
  have Q0 := Q
  obtain ⟨B, ⟨q1, q2, q3, q4⟩, ⟨f1, f2, f3⟩, o1⟩ := Q0
  have T : ∀ cc : Nat, 163 ≤ cc ∧ cc ≤ 173 → r cc e.toNat = bT X cc e.toNat := fun cc z => B.2.2.2.2.2.1 cc e.toNat (by omega)
  have BK := Y.1
  have SK := Y.2.1
  have n8 := Y.2.2.1
  have own := Y.2.2.2.1
  have c3 := BK.2.1
  have H := B.1
  have TB : TBc (bK X) (bP X) (bc X) h := H.1.1.1
  have VL : VLc (bK X) (bV X) (bc X) h := H.1.1.2.1
  have TQ : TBq (bK X) (bP X) (bc X) r := H.1.2.2.1
  have NR : NMr (bK X) (bV X) (bc X) r := H.1.2.2.2.1
  have nl : ¬ bT X 167 e.toNat = 30 ∧ ¬ bT X 167 e.toNat = 31 ∧ ¬ bT X 167 e.toNat = 32 ∧ ¬ bT X 167 e.toNat = 37 ∧ ¬ bT X 167 e.toNat = 38 := by omega
  unfold qo_X10_readNamed
  rw [q1]
  refine pc_sv (c_valueAt BK TB VL kp rfl) ?_; intro u37 q37
  rw [q37]
  refine pc_add (by omega) ?_; intro v40 e40
  refine pc_xl ?_; intro h41 e41
  rw [show v40 = ((p + 1 : Nat) : Int) by omega] at e41
  have E41 : ∀ cc x : Nat, ¬ (cc = 2 ∧ x = 10) → h41 cc x = h cc x := fun cc x z => by rw [e41, up_n z]
  have TB1 : TBc (bK X) (bP X) (bc X) h41 := tbc_k TB (fun cc y z => E41 cc y (by omega))
  have B1 : BX X h41 r := bx_k B (fun cc x z => E41 cc x (by omega)) (fun _ _ _ => rfl)
  refine pc_sv (c_kind BK TB1 p1 (by rw [e41, up_s]) (by rw [E41 2 11 (by omega)]; exact q3)) ?_; intro u44 q44
  refine pc_if (fun _ => ?_) (fun z => absurd (show ¬ u44 = 40 by omega) z)
  refine pc_se ?_; intro u47 e47
  have JL := j_loc (nn := nn) BK NR B1.2.1 (t := p) kp (x := bV X p) (y := (p : Int)) rfl rfl u47 e47
  -- the reference's side of a name
  have RULE : ∀ (RES : Int × ms_M → Prop), (∀ d : Nat, Pc (qf_X13_named nn e r) (fun u => ∀ z : ms_M, z = up_M u.2 174 e.toNat u.1 → (z 160 9 = 0 → RES (u.1, z)) ∧ (¬ z 160 9 = 0 → RES (0, z)))) → Pc ((qg_X13_condition nn d2).2.2.1 e r) RES := fun RES HN => by
    refine w_one b57 q4 (r_nled (by rw [T 167 (by omega)]; exact nl)) (fun d => ?_) d2
    unfold qo_X13_rule
    refine pc_rA ?_; intro _ _ v83 e83
    rw [T 167 (by omega), nd.1] at e83
    rw [e83]
    refine pc_if (fun z => absurd z (by decide)) (fun _ => ?_)
    refine pc_if (fun z => absurd z (by decide)) (fun _ => ?_)
    refine pc_if (fun z => absurd z (by decide)) (fun _ => ?_)
    refine pc_if (fun z => absurd z (by decide)) (fun _ => ?_)
    refine pc_if (fun z => absurd z (by decide)) (fun _ => ?_)
    refine pc_if (fun _ => ?_) (fun z => absurd rfl z)
    refine pc_sv (HN d) ?_; intro u110 q110
    exact pc_ret q110
  refine pc_if (fun z47 => ?_) (fun z47 => ?_)
  · -- a variable
    unfold qj_X10_readNamed_123
    refine pc_if (fun z => absurd z z47) (fun _ => ?_)
    refine pc_xl ?_; intro h23 e23
    refine pc_xl ?_; intro h24 e24
    have RES : ∀ (s : Nat), (s : Int) < r 160 50 → u47 = ((s + bF X : Nat) : Int) → Pc (mx_sv (qf_X1_typeOfLocal nn u47 h24) fun u27 => xl (up_M h24 49 12 u27) fun h28 => some h28) (fun u => ∀ z : ms_M, z = up_M (up_M (up_M r 175 e.toNat (-1)) 176 e.toNat ((s : Int) + (bF X : Int))) 174 e.toNat (r 197 s) → POk nn X 0 a b p (p + 1) e h r u (r 197 s, z)) := fun s hs es => by
      obtain ⟨⟨a1, a2, a3⟩, -, a5⟩ := B.2.1
      have s5 := a5 s hs
      refine pc_sv (c_typeOfLocal es (by omega)) ?_; intro u27 q27
      have E24 : ∀ cc x : Nat, ¬ (cc = 49 ∧ (x = 11 ∨ x = 14)) → ¬ (cc = 2 ∧ x = 10) → h24 cc x = h cc x := fun cc x z1 z2 => by rw [e24, up_n (by omega), e23, up_n (by omega)]; exact E41 cc x z2
      rw [E24 38 _ (by omega) (by omega)] at q27
      have vt := B.2.2.2.2.2.2.2.2 (s + bF X) (by omega)
      refine pc_xl ?_; intro h28 e28
      have E28 : ∀ cc x : Nat, ¬ (cc = 49 ∧ (x = 11 ∨ x = 12 ∨ x = 14)) → ¬ (cc = 2 ∧ x = 10) → h28 cc x = h cc x := fun cc x z1 z2 => by rw [e28, up_n (by omega)]; exact E24 cc x (by omega) z2
      have t12 : h28 49 12 = h 38 (s + bF X) := by rw [e28, up_s]; exact q27
      have t14 : h28 49 14 = u47 := by rw [e28, up_n (by omega), e24, up_s]
      have t11 : h28 49 11 = 2 := by rw [e28, up_n (by omega), e24, up_n (by omega), e23, up_s]
      refine pc_ret (fun z ez => ?_)
      refine ⟨⟨?_, p1, by omega, ?_, ?_⟩, ⟨?_, ?_, ?_⟩, ⟨?_, ?_, ?_⟩, ⟨?_, ?_, ?_⟩, .inr (.inl ⟨⟨t11, rfl, nd.1⟩, ⟨?_, ?_, ?_, ?_, ?_⟩, ?_⟩)⟩
      · rw [e28, up_n (by omega), e24, up_n (by omega), e23, up_n (by omega), e41, up_s]
      · rw [E28 2 11 (by omega) (by omega)]; exact q3
      · show z 160 9 = 0
        rw [ez, up_n (by omega), up_n (by omega), up_n (by omega)]; exact q4
      · show r 197 s = ty_T (h28 49 12)
        rw [t12]; exact s5.2.2.2
      · rw [t12]; exact vt.1
      · show z 174 e.toNat = r 197 s
        rw [ez, up_s]
      · exact fun cc x a1 a2 a3 a4 a5 a6 a7 a8 => E28 cc x (by omega) (by omega)
      · exact ⟨fun cc x z1 z2 z3 => by show z cc x = _; rw [ez, up_n (by omega), up_n (by omega), up_n (by omega)], fun cc x z1 z2 z3 => by show z cc x = _; rw [ez, up_n (by omega), up_n (by omega), up_n (by omega)]⟩
      · exact ⟨E28 49 10 (by omega) (by omega), fun cc x z1 z2 z3 => E28 cc x (by omega) (by omega)⟩
      · exact frc_k f1 (fun cc x z => E28 cc x (by omega) (by omega))
      · rw [E28 34 1 (by omega) (by omega)]; omega
      · rw [E28 34 3 (by omega) (by omega)]; omega
      · show z 175 e.toNat = -1
        rw [ez, up_n (by omega), up_n (by omega), up_s]
      · show z 176 e.toNat = h28 49 14
        rw [ez, up_n (by omega), up_s, t14]; omega
      · rw [t14]; omega
      · rw [t14]; omega
      · rw [t12]; exact vt.2
      · exact fun cc x z => E28 cc x (by rcases z with z | z | z <;> first | (unfold RLc at z; omega) | omega) (by rcases z with z | z | z <;> first | (unfold RLc at z; omega) | omega)
    refine pc_fl ?_
    refine RULE _ (fun d => ?_)
    unfold qf_X13_named
    refine pc_rA ?_; intro _ _ v7 e7
    rw [T 168 (by omega), nd.2] at e7
    rw [e7]
    refine pc_sv JL ?_; intro u9 q9
    rcases q9 with ⟨z, -⟩ | ⟨s, s1, s2, s3⟩
    · exact absurd z z47
    · refine pc_if (fun z => absurd z (by omega)) (fun _ => ?_)
      refine pc_wA ?_; intro _ _ h27 e27
      have hF : (h27 160 53 = 0 ∧ bF X = 1) ∨ (¬ h27 160 53 = 0 ∧ bF X = 0) := by
        rw [e27, up_n (by omega)]
        rcases B.2.2.2.1 with ⟨y1, -, y2⟩ | ⟨y1, -, y2⟩
        · exact .inl ⟨y1, y2⟩
        · exact .inr ⟨y1, y2⟩
      refine pc_sv (r_local hF (by have := B.2.1.1; omega)) ?_; intro u30 q30
      refine pc_wA ?_; intro _ _ h31 e31
      refine pc_rA ?_; intro _ _ v33 e33
      rw [s2, Int.toNat_natCast, e31, up_n (by omega), e27, up_n (by omega)] at e33
      have R0 := RES s s1 s3
      refine pc_ret (fun z (ez : z = up_M h31 174 e.toNat v33) => ⟨fun _ => pc_imp R0 (fun u K => .inr ?_), fun y => absurd (by rw [ez, up_n (by omega), e31, up_n (by omega), e27, up_n (by omega)]; exact q4) y⟩)
      have K2 := K z (by rw [ez, e31, e27, q30, s2, e33])
      rw [e33]
      exact K2
  · -- no variable
    have u47' : u47 = -1 := Classical.byContradiction z47
    have e16 : h41 49 16 = bo X := by rw [E41 49 16 (by omega)]; exact B.2.2.1.1
    rw [e16]
    refine pc_se ?_; intro u51 e51
    have JF := j_fieldOf (nn := nn) BK SK B1.1 (t := p) kp (a := bo X) (by omega) u51 e51
    unfold qj_X10_readNamed_123
    refine pc_if (fun _ => ?_) (fun z => absurd u47' z)
    -- what the reference does
    have REF : ∀ RES : Int × ms_M → Prop, (∀ u14 : Int, LKR (bV X) (bM X) 0 (bV X p) r u51 u14 → qf_X13_memberOf nn (bo X) (p : Int) 0 r = some u14 → qf_X13_sightOf nn (p : Int) r = some (-1) → Pc (if ¬ u14 = (-1) then (if (r 160 53) = 0 then (qj_X13_named_95 nn e u14 r) else (rd_A 9000 168 e r fun v17 => mx_sv (qf_X13_wrong nn 7 v17 r) fun u19 => qj_X13_named_95 nn e u14 u19)) else (rd_A 9000 168 e r fun v22 => mx_sv (qf_X13_wrong nn 5 v22 r) fun u24 => qj_X13_named_95 nn e u14 u24)) (fun u => ∀ z : ms_M, z = up_M u.2 174 e.toNat u.1 → (z 160 9 = 0 → RES (u.1, z)) ∧ (¬ z 160 9 = 0 → RES (0, z)))) → Pc ((qg_X13_condition nn d2).2.2.1 e r) RES := fun RES HH => by
      refine RULE RES (fun d => ?_)
      unfold qf_X13_named
      refine pc_rA ?_; intro _ _ v7 e7
      rw [T 168 (by omega), nd.2] at e7
      rw [e7]
      refine pc_sv (pc_and JL (fun u eu => eu)) ?_; intro u9 ⟨q9, e9⟩
      rcases q9 with ⟨-, z9⟩ | ⟨s, -, -, s3⟩
      · rw [z9] at e9 ⊢
        refine pc_if (fun _ => ?_) (fun z => absurd rfl z)
        refine pc_rA ?_; intro _ _ v12 e12
        rw [T 168 (by omega), nd.2] at e12
        rw [e12, B.2.2.1.2]
        refine pc_sv (pc_and JF (fun u eu => eu)) ?_; intro u14 ⟨q14, e14⟩
        exact HH u14 q14 e14 e9
      · exact absurd u47' (by omega)
    have R187 : ∀ (j : Int) (z : ms_M) (zf : ¬ z 160 9 = 0), Pc (qj_X13_named_95 nn e j z) (fun u => FSr z u.2) := fun j z zf => ft_qj_X13_named_95 zf
    refine pc_if (fun z51 => ?_) (fun z51 => ?_)
    · -- neither
      refine pc_add (by omega) ?_; intro v1 e1
      refine pc_sv (c_icb Y TB1 (t := p + 1) (by omega) p1) ?_; intro u3 q3'
      refine pc_if (fun z3 => ?_) (fun z3 => ?_)
      · refine pc_sv (c_tell TB1 (by rw [E41 2 11 (by omega)]; exact q3) q2 rfl) ?_; intro u6 ⟨⟨t1, t2⟩, _⟩
        refine pc_ret (REF _ (fun u14 L e14 _ => ?_))
        have n14 : u14 = -1 := by
          rcases L with ⟨-, y⟩ | ⟨j, k, -, -, -, -, -, y⟩
          · exact y
          · exact absurd z51 (by omega)
        refine pc_if (fun z => absurd n14 z) (fun _ => ?_)
        refine pc_rA ?_; intro _ _ v22 e22
        rw [T 168 (by omega), nd.2] at e22
        refine pc_sv (r_wrong TQ q2 q4 e22) ?_; intro u24 ⟨w1, w2⟩
        refine pc_imp (R187 u14 u24 (by omega)) (fun y F => fun zz ez => ?_)
        have y9 : zz 160 9 = 5 := by rw [ez, up_n (by omega), F.1]; exact w1
        have y10 : zz 160 10 = bP X p := by rw [ez, up_n (by omega), F.2]; exact w2
        refine ⟨fun y => absurd y (by omega), fun _ => .inl (.inl ⟨by omega, ?_, ?_⟩)⟩
        · show zz 160 9 = u6 2 11
          rw [y9, t1]
        · show zz 160 10 = u6 2 12
          rw [y10, t2]
      · -- a class's name: it is not so
        have y : bK X (p + 1) = 48 ∧ bK X (p + 1 + 1) = 2 ∧ bK X (p + 1 + 2) = 40 := by
          rcases q3' with ⟨-, y⟩ | ⟨y, -⟩
          · exact y
          · exact absurd y z3
        intro uu _
        refine REF _ (fun u14 L e14 e9 => ?_)
        exfalso
        rcases HB y.1 y.2.1 y.2.2 rfl nd.1 with X1 | X1
        · exact X1 _ e9 rfl
        · have := X1 _ e14
          rcases L with ⟨-, y⟩ | ⟨j, k, -, -, -, -, -, y⟩
          · exact this y
          · exact absurd z51 (by omega)
    · -- a field
      refine pc_sv (c_this TB1 (by rw [E41 2 11 (by omega)]; exact q3) q2 rfl (by rw [E41 34 1 (by omega)]; omega) (by rw [E41 34 3 (by omega)]; omega)) ?_; intro u18 q18
      rw [E41 49 17 (by omega)] at q18
      rcases q18 with ⟨z17, CT⟩ | ⟨z17, t1, t2⟩
      · obtain ⟨⟨c1, c2, c3', c4⟩, c5⟩ := cth_f CT
        rw [E41 34 1 (by omega)] at c1
        rw [E41 34 3 (by omega)] at c2
        have C5 : ∀ cc x : Nat, ¬ (cc = 34 ∧ (x = 1 ∨ x = 3 ∨ x = 4)) → ¬ (cc = 35 ∨ cc = 36) → ¬ (cc = 49 ∧ (x = 11 ∨ x = 12)) → ¬ (cc = 2 ∧ x = 10) → u18 cc x = h cc x := fun cc x z1 z2 z3 z4 => by rw [c5 cc x z1 z2 z3]; exact E41 cc x z4
        have o16 : u18 49 16 = bo X := by rw [C5 49 16 (by omega) (by omega) (by omega) (by omega)]; exact B.2.2.1.1
        rw [o16]
        have st0 : r 160 53 = 0 := by
          rcases B.2.2.2.1 with ⟨y1, -⟩ | ⟨-, y2, -⟩
          · exact y1
          · exact absurd z17 y2
        refine pc_fl (REF _ (fun u14 L e14 _ => ?_))
        rcases L with ⟨y, -⟩ | ⟨j, k, j1, k8, ms, vn, y14, y51⟩
        · exact absurd y z51
        · obtain ⟨x96, ty1, ty2, ty3⟩ := fld_ty Y B j1 k8 ms y51
          obtain ⟨MX, -, -⟩ := mbx_of B (.inl rfl) j1 k8 ms y51
          refine pc_if (fun _ => ?_) (fun z => absurd (show ¬ u14 = -1 by omega) z)
          refine pc_if (fun _ => ?_) (fun z => absurd st0 z)
          unfold qj_X13_named_95
          refine pc_wA ?_; intro _ _ h2 e2
          refine pc_if (fun _ => ?_) (fun z => absurd (show ¬ u14 = -1 by omega) z)
          refine pc_rA ?_; intro _ _ v4 e4
          rw [y14, Int.toNat_natCast, e2, up_n (by omega), ty1] at e4
          refine pc_ret (fun z (ez : z = up_M h2 174 e.toNat v4) => ⟨fun _ => ?_, fun y => absurd (by rw [ez, up_n (by omega), e2, up_n (by omega)]; exact q4) y⟩)
          refine pc_sv (c_nmF x96) ?_; intro u21 ⟨⟨n1, n2, n3, n4⟩, n5⟩
          have t12 : u21 49 12 = h 19 u51.toNat := by rw [n4]; exact C5 19 _ (by omega) (by omega) (by omega) (by omega)
          have N5 : ∀ cc x : Nat, ¬ (cc = 34 ∧ (x = 1 ∨ x = 3 ∨ x = 4)) → ¬ (cc = 35 ∨ cc = 36) → ¬ (cc = 49 ∧ (x = 11 ∨ x = 12 ∨ x = 13 ∨ x = 14)) → ¬ (cc = 2 ∧ x = 10) → u21 cc x = h cc x := fun cc x z1 z2 z3 z4 => by rw [n5 cc x z3]; exact C5 cc x z1 z2 (by omega) z4
          have l1 : u21 34 1 = h 34 1 + 2 := by rw [n5 34 1 (by omega)]; exact c1
          have l3 : u21 34 3 = h 34 3 + 1 := by rw [n5 34 3 (by omega)]; exact c2
          refine pc_ret (.inr ?_)
          refine ⟨⟨?_, p1, by omega, ?_, ?_⟩, ⟨?_, ?_, ?_⟩, ⟨?_, ?_, ?_⟩, ⟨?_, by omega, by omega⟩, .inr (.inr (.inl ⟨⟨n1, rfl, by rw [n2]; omega, by rw [t12]; exact ty3⟩, ⟨?_, l3, by omega⟩, .inl ⟨nd.1, n2, fun PB WL L m M => ?_⟩⟩))⟩
          · rw [n5 2 10 (by omega), c5 2 10 (by omega) (by omega) (by omega), e41, up_s]
          · rw [N5 2 11 (by omega) (by omega) (by omega) (by omega)]; exact q3
          · show z 160 9 = 0
            rw [ez, up_n (by omega), e2, up_n (by omega)]; exact q4
          · show v4 = ty_T (u21 49 12)
            rw [t12]; exact e4
          · rw [t12]; exact ty2
          · show z 174 e.toNat = v4
            rw [ez, up_s]
          · exact fun cc x a1 a2 a3 a4 a5 a6 a7 a8 => N5 cc x (by omega) (by omega) (by omega) (by omega)
          · exact ⟨fun cc x z1 z2 z3 => by show z cc x = _; rw [ez, up_n (by omega), e2, up_n (by omega)], fun cc x z1 z2 z3 => by show z cc x = _; rw [ez, up_n (by omega), e2, up_n (by omega)]⟩
          · exact ⟨N5 49 10 (by omega) (by omega) (by omega) (by omega), fun cc x z1 z2 z3 => N5 cc x (by omega) (by omega) (by omega) (by omega)⟩
          · exact frc_k f1 (fun cc x z => N5 cc x (by omega) (by omega) (by omega) (by omega))
          · show MBx X 0 (u21 49 14) (z 175 e.toNat)
            rw [n3, ez, up_n (by omega), e2, up_s, y14]; exact MX
          · have M1 : MKx X PB WL L h41 m := mkx_c M (fun cc x z1 z2 z3 => E41 cc x (by omega))
            refine pc_imp (m_self CT e16 Y M1 (by rw [E41 34 1 (by omega)]; omega)) (fun w y => ⟨mkx_c y.1 (fun cc x z1 z2 z3 => n5 cc x (by omega)), y.2⟩)
      · -- this in a static method
        have S18 : ¬ u18 2 11 = 0 := by omega
        have st1 : ¬ r 160 53 = 0 := by
          rcases B.2.2.2.1 with ⟨-, y2, -⟩ | ⟨y1, -⟩
          · exact absurd y2 z17
          · exact y1
        have CF : Pc (mx_sv (qf_X10_nameField nn (u18 49 16) u51 u18) fun u21 => some u21) (fun u => FSc u18 u) := by
          refine pc_sv (fs_qf_X10_nameField S18) ?_; intro u21 F
          exact pc_ret F
        refine pc_imp CF (fun u F => REF _ (fun u14 L e14 _ => ?_))
        have n14 : ¬ u14 = -1 := by
          rcases L with ⟨y, -⟩ | ⟨j, k, -, -, -, -, y, -⟩
          · exact absurd y z51
          · omega
        refine pc_if (fun _ => ?_) (fun z => absurd n14 z)
        refine pc_if (fun z => absurd z st1) (fun _ => ?_)
        refine pc_rA ?_; intro _ _ v17 e17
        rw [T 168 (by omega), nd.2] at e17
        refine pc_sv (r_wrong TQ q2 q4 e17) ?_; intro u19 ⟨w1, w2⟩
        refine pc_imp (R187 u14 u19 (by omega)) (fun y F2 => fun zz ez => ?_)
        have y9 : zz 160 9 = 7 := by rw [ez, up_n (by omega), F2.1]; exact w1
        have y10 : zz 160 10 = bP X p := by rw [ez, up_n (by omega), F2.2]; exact w2
        refine ⟨fun y => absurd y (by omega), fun _ => .inl (.inl ⟨by rw [F.1]; exact S18, ?_, ?_⟩)⟩
        · show zz 160 9 = u 2 11
          rw [y9, F.1, t1]
        · show zz 160 10 = u 2 12
          rw [y10, F.2, t2]
end
end
section
/- E of both sides: names and brackets as a P; given -/
section
variable {nn : Nat} {X : BCx} {dp i a b e : Int} {p q p1 q1 : Nat} {h h1 g u u1 r w m : ms_M} {v : Int × ms_M}
theorem p3_pn (Y : CXs X) (ne : 0 ≤ a ∧ a ≤ e ∧ e < b) (nd : bT X 167 e.toNat = 25 ∧ bT X 168 e.toNat = (p : Int)) (kp : bK X p = 2) (k1 : ¬ bK X (p + 1) = 40) (hq : q = p + 1) : P3 nn X dp 0 a b p q e := by
  intro d d2 h r Z Q b57 HB HC HF
  subst hq
  have Q0 := Q
  obtain ⟨B, ⟨q1, q2, q3, q4⟩, -, -⟩ := Q0
  have TB : TBc (bK X) (bP X) (bc X) h := B.1.1.1.1
  have p1 : p + 1 < bc X := jp_lt Y.1 q2 (by omega)
  unfold qo_X10_readPrimary
  refine pc_sv (c_kind Y.1 TB q2 q1 q3) ?_; intro u25 q25
  refine pc_if (fun _ => ?_) (fun z => absurd (show u25 = 2 by omega) z)
  refine p3_fin Y Q ?_ HC HF q1
  cases d with
  | zero => exact pc_none
  | succ d => exact p_name Y Q (by omega) ne nd kp k1 p1 HB d d2
/-- the making between states that differ in nothing of CODE -/
theorem mkc_w {v1 : ms_M} (M : MKC nn X e a b p1 q1 h1 u1 v1) (A : ∀ cc x : Nat, ¬ (cc = 2 ∧ (x = 10 ∨ x = 11 ∨ x = 12)) → ¬ cc = 49 → ¬ (50 ≤ cc ∧ cc ≤ 54) → h1 cc x = h cc x) (B : ∀ cc x : Nat, ¬ (cc = 2 ∧ (x = 10 ∨ x = 11 ∨ x = 12)) → ¬ cc = 49 → ¬ (50 ≤ cc ∧ cc ≤ 54) → u cc x = u1 cc x) (hp : p ≤ p1) (hq : q1 ≤ q) : MKC nn X e a b p q h u v1 := fun d PB WL L m M1 AA z1 z2 => pc_imp (M d PB WL L m (mkx_c M1 A) AA z1 (by omega)) (fun w y => ⟨mkx_c y.1 B, by have := y.2; omega⟩)
/-- the class's frame over irrelevant cells -/
theorem cfe_w (A : CFe h1 u1) (E1 : ∀ cc x : Nat, ¬ (cc = 2 ∧ x = 10) → h1 cc x = h cc x) (E2 : ∀ cc x : Nat, ¬ (cc = 2 ∧ x = 10) → ¬ (cc = 49 ∧ (x = 11 ∨ x = 15)) → u cc x = u1 cc x) : CFe h u := fun cc x a1 a2 a3 a4 a5 a6 a7 a8 => by rw [E2 cc x (by omega) (by omega), A cc x a1 a2 a3 a4 a5 a6 a7 a8]; exact E1 cc x (by omega)
theorem p3_pb {t : Nat} (Y : CXs X) (ne : 0 ≤ a ∧ a ≤ e ∧ e < b) (kk : bK X p = 40 ∧ bK X t = 41 ∧ q = t + 1) (H : E0 nn X dp i a b (p + 1) t e) : P3 nn X dp 1 a b p q e := by
  intro d d2 h r Z Q b57 HB HC HF
  obtain ⟨k1, k2, hq⟩ := kk
  subst hq
  have Q0 := Q
  obtain ⟨B, ⟨q1, q2, q3, q4⟩, ⟨f1, f2, f3⟩, o1⟩ := Q0
  have TB : TBc (bK X) (bP X) (bc X) h := B.1.1.1.1
  have c3 := Y.1.2.1
  have pc1 : p + 1 < bc X := jp_lt Y.1 q2 (by omega)
  unfold qo_X10_readPrimary
  refine pc_sv (c_kind Y.1 TB q2 q1 q3) ?_; intro u25 q25
  refine pc_if (fun z => absurd z (by omega)) (fun _ => ?_)
  refine pc_if (fun z => absurd z (by omega)) (fun _ => ?_)
  refine pc_if (fun _ => ?_) (fun z => absurd (show u25 = 40 by omega) z)
  rw [q1]
  refine pc_add (by omega) ?_; intro v34 e34
  refine pc_xl ?_; intro h35 e35
  rw [show v34 = ((p + 1 : Nat) : Int) by omega] at e35
  have E35 : ∀ cc x : Nat, ¬ (cc = 2 ∧ x = 10) → h35 cc x = h cc x := fun cc x z => by rw [e35, up_n z]
  have Q1 : EPr X dp (p + 1) h35 r := by
    refine ⟨bx_k B (fun cc x z => E35 cc x (by omega)) (fun _ _ _ => rfl), ⟨by rw [e35, up_s], pc1, by rw [E35 2 11 (by omega)]; exact q3, q4⟩, ⟨frc_k f1 (fun cc x z => E35 cc x (by omega)), ?_, ?_⟩, ?_⟩
    · rw [E35 34 1 (by omega)]; omega
    · rw [E35 34 3 (by omega)]; omega
    · rw [E35 49 10 (by omega), E35 49 18 (by omega)]; omega
  have HE := H (.inl k2) d d2 h35 r Q1 b57
  refine p2_sa (pc_imp HE (fun u37 Hu => pc_imp Hu (fun v hv => ?_)))
  have G := fsg_X10_readValue nn d
  rcases hv with hv | ⟨K, K15, KF⟩
  · have S37 : ¬ u37 2 11 = 0 := hv.elim (fun S => S.1) (fun S => vd_n S)
    refine pc_xl ?_; intro v40 e40
    refine pc_xl ?_; intro h41 e41
    refine pc_xl ?_; intro h42 e42
    have S42 : ¬ h42 2 11 = 0 := by rw [e42, up_n (by omega), e41, up_n (by omega)]; exact S37
    have F42 : FSc u37 h42 := ⟨by rw [e42, up_n (by omega), e41, up_n (by omega)], by rw [e42, up_n (by omega), e41, up_n (by omega)]⟩
    refine pc_imp (fs_qj_X10_readPrimary_107 G S42) (fun uF F => HF uF v ?_)
    exact hv.elim (fun S => .inl (sf_c (sf_c S F42) F)) (fun S => .inr (vd_i (vd_c (vd_c S F42) F) (by omega)))
  · have K0 := K
    obtain ⟨⟨x1, x2, x3, x4, x5⟩, ⟨x6, x7, x8⟩, ⟨x9, x10, x11⟩, ⟨x12, x13, x14⟩, FM⟩ := K
    have tc : t + 1 < bc X := jp_lt Y.1 x2 (by omega)
    rw [x1]
    refine pc_add (by omega) ?_; intro v40 e40
    refine pc_xl ?_; intro h41 e41
    rw [show v40 = ((t + 1 : Nat) : Int) by omega] at e41
    refine pc_xl ?_; intro h42 e42
    have E42 : ∀ cc x : Nat, ¬ (cc = 2 ∧ x = 10) → ¬ (cc = 49 ∧ x = 11) → h42 cc x = u37 cc x := fun cc x z1 z2 => by rw [e42, up_n z2, e41, up_n z1]
    have TB42 : TBc (bK X) (bP X) (bc X) h42 := tbc_k (pk_b Q1 K0) (fun cc y z => E42 cc y (by omega) (by omega))
    have p42 : h42 2 10 = ((t + 1 : Nat) : Int) := by rw [e42, up_n (by omega), e41, up_s]
    have n51 : ¬ bK X t = 51 := by omega
    have FX : FM01 nn X i a b (p + 1) t e h35 u37 v.2 := by
      have := KF n51
      rcases FM with F | F | F | F
      · exact F
      · exact absurd F.1.1 (by omega)
      · exact absurd F.1.1 (by omega)
      · exact absurd F.1.1 (by omega)
    have n303 : ¬ u37 49 12 = 303 := fun z => by
      rcases FX.1 with ⟨-, -, -, y⟩ | ⟨-, -, y⟩
      · have := (y z).1; omega
      · exact y z
    obtain ⟨⟨y1, yt⟩, y2⟩ := FX.2.2 n51
    rw [if_neg n303] at y1
    have KN : POk nn X 1 a b p (t + 1) e h r h42 v := by
      refine ⟨⟨p42, tc, by omega, by rw [E42 2 11 (by omega) (by omega)]; exact x4, x5⟩, ⟨by rw [E42 49 12 (by omega) (by omega)]; exact x6, by rw [E42 49 12 (by omega) (by omega)]; exact x7, x8⟩, ⟨cfe_w x9 E35 (fun cc x z1 z2 => E42 cc x z1 (by omega)), x10, ?_⟩, ⟨frc_k x12 (fun cc x z => E42 cc x (by omega) (by omega)), ?_, ?_⟩, .inl ⟨.inr ⟨?_, by omega, ?_⟩, fun z => absurd z (by omega), fun _ => ⟨⟨?_, by rw [E42 34 3 (by omega) (by omega), E42 49 12 (by omega) (by omega), E42 36 _ (by omega) (by omega)]; exact yt⟩, ?_⟩⟩⟩
      · refine ⟨by rw [E42 49 10 (by omega) (by omega), x11.1]; exact E35 49 10 (by omega), fun cc x z1 z2 z3 => ?_⟩
        rw [E42 cc x (by omega) (by omega), x11.2 cc x z1 z2 (by rw [E35 49 10 (by omega)]; exact z3)]
        exact E35 cc x (by omega)
      · rw [E42 34 1 (by omega) (by omega)]
        rw [E35 34 1 (by omega)] at x13
        omega
      · rw [E42 34 3 (by omega) (by omega)]
        rw [E35 34 3 (by omega)] at x14
        omega
      · rw [e42, up_s]
      · rw [E42 49 12 (by omega) (by omega)]; exact n303
      · rw [E42 34 3 (by omega) (by omega), E42 49 12 (by omega) (by omega), if_neg n303, y1, E35 34 3 (by omega)]
      · exact mkc_w y2 (fun cc x z1 z2 z3 => E35 cc x (by omega)) (fun cc x z1 z2 z3 => E42 cc x (by omega) (by omega)) (by omega) (by omega)
    unfold qj_X10_readPrimary_107
    refine pc_sv (c_kind Y.1 TB42 tc p42 KN.1.2.2.2.1) ?_; intro u20 q20
    rw [q20]
    exact HC nn 0 h42 v KN ⟨by omega, by omega⟩
theorem tbq_f {K P : Nat → Int} {c : Nat} (T : TBq K P c r) (E : ∀ cc y : Nat, 163 ≤ cc ∧ cc ≤ 166 → w cc y = r cc y) : TBq K P c w := ⟨fun i hi => by rw [E 163 i (by omega)]; exact T.1 i hi, fun i hi => by rw [E 164 i (by omega)]; exact T.2.1 i hi, fun i z1 z2 => by rw [E 166 i (by omega)]; exact T.2.2.1 i z1 z2, fun i z => by rw [E 166 i (by omega)]; exact T.2.2.2 i z⟩
/-- given: a void call is told -/
theorem j_given {x : Option ms_M} (TQ : TBq (bK X) (bP X) (bc X) r) (T8 : ∀ cc y : Nat, 163 ≤ cc ∧ cc ≤ 173 → r cc y = bT X cc y) (n8 : bn X ≤ 8) (H : ∀ d2 : Nat, Pc x (fun u => Pc ((qg_X13_condition nn d2).2.2.1 e r) (fun v => (SFj u v.2 ∨ VDj X i a b p q e h r u v) ∨ EOz nn X i a b p q e h r u v))) (na : bK X q = 46 → ¬ h 49 18 = (p : Int)) (n51 : ¬ bK X q = 51) : ∀ d2 : Nat, Pc x (fun u => Pc ((qg_X13_condition nn d2).2.1 e r) (fun v => SFj u v.2 ∨ (EOz nn X i a b p q e h r u v ∧ FM01 nn X i a b p q e h u v.2 ∧ ¬ u 49 12 = 303))) := by
  intro d2
  cases d2 with
  | zero => exact fun _ _ => pc_none
  | succ d2 =>
    refine pc_imp (H d2) (fun u Hu => ?_)
    show Pc (qo_X13_given nn (qg_X13_condition nn d2) e r) _
    unfold qo_X13_given
    refine pc_sv Hu ?_; intro u2 hv
    rcases hv with (S | S) | K
    · refine pc_if (fun _ => pc_ret (.inl S)) (fun _ => ?_)
      refine pc_rA ?_; intro _ _ v4 e4
      refine pc_sv (ft_qf_X13_wrong (sf_r S)) ?_; intro u6 F
      exact pc_ret (.inl (sf_k S fs_r F))
    · obtain ⟨⟨s1, s2, s3, s4⟩, ⟨s5, s6, s7⟩, s8⟩ := S
      refine pc_if (fun z => absurd s5 z) (fun _ => ?_)
      refine pc_rA ?_; intro _ _ v4 e4
      rw [s8.1 168 _ (by omega) (by omega) (by omega), T8 168 _ (by omega)] at e4
      have TQ2 : TBq (bK X) (bP X) (bc X) u2.2 := tbq_f TQ (fun cc y z => s8.1 cc y (by omega) (by omega) (by omega))
      refine pc_sv (r_wrong TQ2 (p := (bT X 168 e.toNat).toNat) (by omega) s6 (k := 6) (x := v4) (by omega)) ?_; intro u6 ⟨w1, w2⟩
      exact pc_ret (.inl ⟨by omega, by show u6 160 9 = _; omega, by show u6 160 10 = _; omega⟩)
    · have K0 := K
      obtain ⟨K, K15, KF⟩ := K
      have FX : FM01 nn X i a b p q e h u u2.2 := by
        have := KF n51
        rcases K.2.2.2.2 with F | F | F | F
        · exact F
        · exact absurd F.1.1 (by omega)
        · exact absurd F.1.1 (by omega)
        · exact absurd F.1.1 (by omega)
      have n303 : ¬ u 49 12 = 303 := fun z => by
        rcases FX.1 with ⟨-, -, -, y⟩ | ⟨-, -, y⟩
        · obtain ⟨y1, y2⟩ := y z
          refine na y1 ?_
          rw [← y2]
          exact (K.2.2.1.1 49 18 (by omega) (by omega) (by omega) (by omega) (by omega) (by omega) (by omega) (by omega)).symm
        · exact y z
      have n3 : ¬ u2.1 = 3 := by
        rw [K.2.1.1]
        exact fun z => n303 ((ty_3 (X := X) n8 K.2.1.2.1).mp z)
      refine pc_if (fun _ => pc_ret (.inr ⟨K0, FX, n303⟩)) (fun z => absurd n3 z)
end
end
section
/- E of both sides: what is made anew -/
section
variable {nn : Nat} {X : BCx} {dp i a b e : Int} {p q p1 q1 : Nat} {h h1 g g1 g2 u u1 r w m : ms_M} {v : Int × ms_M}
/-- the class that a NAME means, in the class's reading -/
theorem c_rnc {t : Nat} {x y : Int} (Y : CXs X) (B : BX X h r) (hf : h 2 11 = 0) (kt : bK X t = 2) (hx : x = (t : Int)) : Pc (qf_X10_readNamedClass nn x y h) (fun u => (CLz (fun k => bV X (bC X k)) (bn X) (bV X t) u.1 ∧ ¬ u.1 = -1 ∧ u.2 = up_M h 2 10 y) ∨ (CLz (fun k => bV X (bC X k)) (bn X) (bV X t) (-1) ∧ u.1 = -1 ∧ u.2 2 11 = 5 ∧ u.2 2 12 = bP X t)) := by
  have TB : TBc (bK X) (bP X) (bc X) h := B.1.1.1.1
  have VL : VLc (bK X) (bV X) (bc X) h := B.1.1.1.2.1
  have NC := B.1.1.2.1
  unfold qf_X10_readNamedClass
  refine pc_sv (c_classAt Y.1 Y.2.1 TB VL NC kt hx) ?_; intro u5 q5
  refine pc_if (fun z => ?_) (fun z => ?_)
  · unfold qj_X10_readNamedClass_23
    refine pc_xl ?_; intro h2 e2
    exact pc_ret (.inl ⟨q5, z, e2⟩)
  · have z' : u5 = -1 := Classical.byContradiction z
    rw [z'] at q5
    refine pc_sv (c_tell TB hf (tb_lt Y.1 (by omega)) hx) ?_; intro u8 ⟨⟨t1, t2⟩, _⟩
    unfold qj_X10_readNamedClass_23
    refine pc_xl ?_; intro h2 e2
    refine pc_ret (.inr ⟨q5, z', ?_, ?_⟩)
    · show h2 2 11 = 5
      rw [e2, up_n (by omega)]; exact t1
    · show h2 2 12 = bP X t
      rw [e2, up_n (by omega)]; exact t2
theorem clz_v {x y : Int} (A : CLz (fun k => bV X (bC X k)) (bn X) x y) (hx : 0 ≤ x) (n : ¬ y = -1) : 0 ≤ y ∧ y < 8 + (bn X : Int) := by
  have := cls_b A hx
  omega
theorem j_classC (Y : CXs X) (H : TXE (bK X) (bV X) (bC X) (bW X) (bn X) (bA X) (bB X) h m) (S : SPL m []) (R : PLR h m) (MB : MBd m) {t : Int} (vt : (0 ≤ t ∧ t < 8 + (bn X : Int)) ∨ (100 ≤ t ∧ t < 108 + (bn X : Int)) ∨ t = 200) : Pc (qf_X6_classOf nn t h) (fun u => Pc (qf_X13_classConstant nn (ty_T t) m) (fun w => PCo h m u w ∧ SPL w.2 [])) := j_class3 Y.2.2.1 H.1.1 H.1.2.1 H.1.2.2 H.2.2.2.2.1 S R MB vt
theorem c_clf {t : Int} : Pc (qf_X6_classOf nn t h) (fun u => ∀ cc y : Nat, ¬ (cc = 45 ∧ (y = 4 ∨ y = 5)) → ¬ cc = 46 → ¬ cc = 47 → u.2 cc y = h cc y) := fun u eu cc y z1 z2 z3 => ff_X6_classOf nn u eu cc y (nw_of (by unfold wl_X6_classOf; simp only [List.mem_cons, List.not_mem_nil, or_false]; omega) (by unfold wf_X6_classOf; simp only [List.mem_cons, List.not_mem_nil, or_false, Prod.mk.injEq]; omega))
/-- a byte, then the index of a CLASS -/
theorem m_opC {c o : Int} {k : Int × ms_M} {PB : Nat → Prop} {WL : Int → Int → Prop} {L : List (Int × Int)} {Kf : ms_M → Option ms_M} {Q : ms_M → Prop} (Y : CXs X) (M : MKx X PB WL L h m) (bl : h 34 1 ≤ 1000000) (ec : qf_X6_classOf nn c h = some k) (A1 : COp o k.2 g1) (A2 : COp k.1 g1 g2) (vt : (0 ≤ c ∧ c < 8 + (bn X : Int)) ∨ (100 ≤ c ∧ c < 108 + (bn X : Int)) ∨ c = 200) (ho : in_R o) (HK : ∀ w : ms_M, MKx X PB WL L g2 w → w 160 88 = m 160 88 → (∀ cc x : Nat, 174 ≤ cc → cc ≤ 176 → w cc x = m cc x) → Pc (Kf w) Q) {y : Int} (ey : y = ty_T c) : Pc (mx_sv (qf_X13_put nn o m) fun w1 => mx_sv (qf_X13_classConstant nn y w1) fun w2 => mx_sv (qf_X13_put nn w2.1 w2.2) fun w3 => Kf w3) Q := by
  obtain ⟨-, -, ⟨m1, m2, m3, m4⟩, -⟩ := mk_t M
  rw [ey]
  refine pc_sv (r_put (by omega)) ?_; intro w1 b1
  obtain ⟨p1, p2, p3, p4⟩ := mk_plp M b1
  refine pc_sv (j_classC Y p4 p3 p1 p2 vt k ec) ?_; intro w2 ⟨PC, SP⟩
  refine pc_sv (r_put (by rw [PC.2.2.2.2.1 160 68 (by omega) (by omega), b1.1]; omega)) ?_; intro w3 b2
  refine HK w3 (mk_opc M b1 PC SP A1 A2 b2 ho) ?_ (fun cc x z1 z2 => ?_)
  · rw [b2.2.2 160 88 (by omega) (by omega), PC.2.2.2.2.1 160 88 (by omega) (by omega), b1.2.2 160 88 (by omega) (by omega)]
  · rw [b2.2.2 cc x (by omega) (by omega), PC.2.2.2.2.1 cc x (by omega) (by omega), b1.2.2 cc x (by omega) (by omega)]
/-- new K() -/
theorem p_made (Y : CXs X) (Q : EPr X dp p h r) (b57 : 0 ≤ r 160 57 ∧ r 160 57 ≤ 10000) (ne : 0 ≤ a ∧ a ≤ e ∧ e < b) (nd : bT X 167 e.toNat = 27 ∧ bT X 168 e.toNat = ((p + 1 : Nat) : Int)) (kk : bK X p = 21 ∧ bK X (p + 1) = 2 ∧ bK X (p + 2) = 40 ∧ bK X (p + 3) = 41) (d d2 : Nat) : Pc (qo_X10_readNew nn (qg_X10_readValue nn d) dp h) (fun u => Pc ((qg_X13_condition nn d2).2.2.1 e r) (fun v => (SFj u v.2 ∨ VDj X 0 a b p (p + 4) e h r u v) ∨ POk nn X 0 a b p (p + 4) e h r u v)) := by
  have Q0 := Q
  obtain ⟨B, ⟨q1, q2, q3, q4⟩, ⟨f1, f2, f3⟩, o1⟩ := Q0
  have T : ∀ cc : Nat, 163 ≤ cc ∧ cc ≤ 173 → r cc e.toNat = bT X cc e.toNat := fun cc z => B.2.2.2.2.2.1 cc e.toNat (by omega)
  have BK := Y.1
  have n8 := Y.2.2.1
  have c3 := BK.2.1
  have H := B.1
  have TB : TBc (bK X) (bP X) (bc X) h := H.1.1.1
  have TQ : TBq (bK X) (bP X) (bc X) r := H.1.2.2.1
  obtain ⟨k0, k1, k2, k3⟩ := kk
  have p3 : p + 3 < bc X := tb_lt BK (by omega)
  have p4 : p + 4 < bc X := jp_lt BK p3 (by omega)
  have v0 := (H.1.2.2.2.1.1 (p + 1) (by omega) k1).1.1
  have nl : ¬ bT X 167 e.toNat = 30 ∧ ¬ bT X 167 e.toNat = 31 ∧ ¬ bT X 167 e.toNat = 32 ∧ ¬ bT X 167 e.toNat = 37 ∧ ¬ bT X 167 e.toNat = 38 := by omega
  -- the reference
  have RULE : ∀ (RES : Int × ms_M → Prop), (∀ u139 : Int, CLz (fun k => bV X (bC X k)) (bn X) (bV X (p + 1)) u139 → Pc (if ¬ u139 = (-1) then (qj_X13_rule_256 nn (qg_X13_condition nn 0) u139 r) else (rd_A 9000 168 e r fun v141 => mx_sv (qf_X13_wrong nn 5 v141 r) fun u143 => qj_X13_rule_256 nn (qg_X13_condition nn 0) u139 u143)) (fun u => ∀ z : ms_M, z = up_M u.2 174 e.toNat u.1 → (z 160 9 = 0 → RES (u.1, z)) ∧ (¬ z 160 9 = 0 → RES (0, z)))) → Pc ((qg_X13_condition nn d2).2.2.1 e r) RES := fun RES HN => by
    refine w_one b57 q4 (r_nled (by rw [T 167 (by omega)]; exact nl)) (fun d => ?_) d2
    unfold qo_X13_rule
    refine pc_rA ?_; intro _ _ v83 e83
    rw [T 167 (by omega), nd.1] at e83
    rw [e83]
    refine pc_if (fun z => absurd z (by decide)) (fun _ => ?_)
    refine pc_if (fun z => absurd z (by decide)) (fun _ => ?_)
    refine pc_if (fun z => absurd z (by decide)) (fun _ => ?_)
    refine pc_if (fun z => absurd z (by decide)) (fun _ => ?_)
    refine pc_if (fun z => absurd z (by decide)) (fun _ => ?_)
    refine pc_if (fun z => absurd z (by decide)) (fun _ => ?_)
    refine pc_if (fun z => absurd z (by decide)) (fun _ => ?_)
    refine pc_if (fun _ => ?_) (fun z => absurd rfl z)
    refine pc_rA ?_; intro _ _ v137 e137
    rw [T 168 (by omega), nd.2] at e137
    refine pc_sv (r_classOf BK Y.2.1 H.1.2.2 k1 e137) ?_; intro u139 q139
    exact HN u139 q139
  unfold qo_X10_readNew
  rw [q1]
  refine pc_add (by omega) ?_; intro v54 e54
  refine pc_sv (c_kindAt BK TB (t := p + 1) (by omega)) ?_; intro u57 q57
  refine pc_if (fun _ => ?_) (fun z => absurd (show ¬ u57 = 20 by omega) z)
  unfold qj_X10_readNew_28
  refine pc_if (fun _ => ?_) (fun z => absurd rfl z)
  refine pc_sv (c_rnc Y B q3 k1 (x := v54) (y := v54) (by omega)) ?_; intro u50 q50
  rcases q50 with ⟨cl, cn, eu⟩ | ⟨cl, cn, t1, t2⟩
  · have cb := clz_v cl v0 cn
    unfold qj_X10_readNew_43
    refine pc_if (fun _ => ?_) (fun z => absurd cn z)
    refine pc_add (by omega) ?_; intro v22 e22
    rw [eu]
    have TB2 : TBc (bK X) (bP X) (bc X) (up_M h 2 10 v54) := tbc_k TB (fun cc y z => up_n (by omega))
    refine pc_sv (c_kindAt BK TB2 (t := p + 2) (by omega)) ?_; intro u24 q24
    refine pc_if (fun z => absurd (show u24 = 40 by omega) z) (fun _ => ?_)
    refine pc_add (by omega) ?_; intro v37 e37
    refine pc_xl ?_; intro h38 e38
    have E38 : ∀ cc x : Nat, ¬ (cc = 2 ∧ x = 10) → h38 cc x = h cc x := fun cc x z => by rw [e38, up_n z, up_n z]
    refine pc_sv (pc_and c_clf (fun u eu => eu)) ?_; intro u42 ⟨G42, e42⟩
    refine pc_sv (c_op2 (by rw [G42 34 1 (by omega) (by omega) (by omega), E38 34 1 (by omega)]; omega)) ?_; intro u44 ⟨g1, A1, A2⟩
    have G44 : ∀ cc x : Nat, ¬ (cc = 34 ∧ x = 1) → ¬ cc = 35 → ¬ (cc = 45 ∧ (x = 4 ∨ x = 5)) → ¬ (cc = 46 ∨ cc = 47) → u44 cc x = h38 cc x := fun cc x z1 z2 z3 z4 => by rw [A2.2.2 cc x (by omega) (by omega), A1.2.2 cc x (by omega) (by omega)]; exact G42 cc x z3 (by omega) (by omega)
    have G45 : ∀ cc x : Nat, ¬ (cc = 34 ∧ x = 1) → ¬ cc = 35 → ¬ (cc = 45 ∧ (x = 4 ∨ x = 5)) → ¬ (cc = 46 ∨ cc = 47) → ¬ (cc = 2 ∧ x = 10) → u44 cc x = h cc x := fun cc x z1 z2 z3 z4 z5 => by rw [G44 cc x z1 z2 z3 z4]; exact E38 cc x z5
    have l44 : u44 34 1 = h 34 1 + 2 := by rw [A2.1, A1.1, G42 34 1 (by omega) (by omega) (by omega), E38 34 1 (by omega)]; omega
    refine pc_sv (c_give (by rw [G45 34 3 (by omega) (by omega) (by omega) (by omega) (by omega)]; omega)) ?_; intro u46 ⟨g3, CP, eu46⟩
    refine pc_ret (RULE _ (fun u139 cl2 => ?_))
    have ec := cls_d cl2 cl
    rw [ec]
    refine pc_if (fun _ => ?_) (fun z => absurd cn z)
    unfold qj_X13_rule_256
    refine pc_xl ?_; intro v73 e73
    rw [oq_mul_eq (by omega) (by omega) (by omega)] at e73
    refine pc_add (by omega) ?_; intro v74 e74
    have vt : VTn (bn X) u50.1 ∧ ¬ u50.1 = 303 := ⟨by unfold VTn; omega, by omega⟩
    have ty : ty_T u50.1 = v74 := by
      have c := ty_c (vtn_v n8 vt.1)
      omega
    refine pc_ret (fun zz (ez : zz = up_M r 174 e.toNat v74) => ⟨fun _ => .inr ?_, fun y => absurd (by rw [ez, up_n (by omega)]; exact q4) y⟩)
    have u11 : u46 49 11 = 0 := by rw [eu46, up_s]
    have u12 : u46 49 12 = u50.1 := by rw [eu46, up_n (by omega), up_s]
    have u3 : u46 34 3 = h 34 3 + 1 := by rw [eu46, up_n (by omega), up_n (by omega), CP.1, G45 34 3 (by omega) (by omega) (by omega) (by omega) (by omega)]
    refine pok_give (t := u50.1) (g := u44) (v := r) Q ⟨p4, by omega⟩ ne ?_ ?_ ?_ ?_ ?_ ?_ ?_ CP eu46 vt rfe_r q4 (by rw [ez, ty]) ?_
    · exact fun cc x a1 a2 a3 a4 a5 a6 a7 a8 => G45 cc x (by omega) (by omega) (by omega) (by omega) (by omega)
    · exact ⟨G45 49 10 (by omega) (by omega) (by omega) (by omega) (by omega), fun cc x z1 z2 z3 => G45 cc x (by omega) (by omega) (by omega) (by omega) (by omega)⟩
    · rw [G44 2 10 (by omega) (by omega) (by omega) (by omega), e38, up_s]; omega
    · rw [G45 2 11 (by omega) (by omega) (by omega) (by omega) (by omega)]; exact q3
    · exact frc_k f1 (fun cc x z => G45 cc x (by omega) (by omega) (by omega) (by omega) (by omega))
    · omega
    · rw [G45 34 3 (by omega) (by omega) (by omega) (by omega) (by omega)]; omega
    · refine ⟨.inr ⟨u11, by omega, by rw [u12]; exact vt.2⟩, fun _ => .inl ⟨by omega, by omega, fun z => absurd z nl.1⟩, fun _ => ⟨⟨by rw [u12, if_neg vt.2]; exact u3, top_g CP (by rw [G45 34 3 (by omega) (by omega) (by omega) (by omega) (by omega)]; omega) eu46⟩, ?_⟩⟩
      refine mkc_leaf nl ne (fun PB WL L m d M A => ?_) (by omega)
      have MT := (mk_t M).1
      have a4 : m 174 e.toNat = ty_T u50.1 := by rw [A 174 e.toNat (by omega) (by omega) (by omega) (by omega), up_s]
      have M1 : MKx X PB WL L h38 m := mkx_c M (fun cc x z1 z2 z3 => E38 cc x (by omega))
      unfold qo_X13_workOne
      refine pc_rA ?_; intro _ _ v59 e59
      rw [a4] at e59
      refine pc_rA ?_; intro _ _ v61 e61
      rw [MT 167 e.toNat (by omega), nd.1] at e61
      rw [e61]
      refine pc_if (fun z => absurd z (by decide)) (fun _ => ?_)
      refine pc_if (fun z => absurd z (by decide)) (fun _ => ?_)
      refine pc_if (fun z => absurd z (by decide)) (fun _ => ?_)
      refine pc_if (fun z => absurd z (by decide)) (fun _ => ?_)
      refine pc_if (fun z => absurd z (by decide)) (fun _ => ?_)
      refine pc_if (fun z => absurd z (by decide)) (fun _ => ?_)
      refine pc_if (fun z => absurd z (by decide)) (fun _ => ?_)
      refine pc_if (fun _ => ?_) (fun z => absurd rfl z)
      refine m_opC Y M1 (by rw [E38 34 1 (by omega)]; omega) e42 A1 A2 (.inl cb) (by unfold in_R; omega) (fun w Mw lw _ => ?_) e59
      refine pc_sv r_push ?_; intro u134 b3
      exact pc_ret ⟨mkx_give Mw CP b3 ⟨e59, vt⟩ eu46, by rw [b3.2.2.2.2 160 88 (by omega) (by omega)]; exact lw⟩
  · unfold qj_X10_readNew_43
    refine pc_if (fun z => absurd cn z) (fun _ => ?_)
    refine pc_ret (RULE _ (fun u139 cl2 => ?_))
    have ec := cls_d cl2 cl
    refine pc_if (fun z => absurd ec z) (fun _ => ?_)
    refine pc_rA ?_; intro _ _ v141 e141
    rw [T 168 (by omega), nd.2] at e141
    refine pc_sv (r_wrong TQ (p := p + 1) (by omega) q4 e141) ?_; intro u143 ⟨w1, w2⟩
    refine pc_imp (ft_qj_X13_rule_256 (ftg_X13_condition nn 0) (by omega)) (fun y F => fun zz ez => ?_)
    have y9 : zz 160 9 = 5 := by rw [ez, up_n (by omega), F.1]; exact w1
    have y10 : zz 160 10 = bP X (p + 1) := by rw [ez, up_n (by omega), F.2]; exact w2
    refine ⟨fun y => absurd y (by omega), fun _ => .inl (.inl ⟨by omega, ?_, ?_⟩)⟩
    · show zz 160 9 = u50.2 2 11
      rw [y9, t1]
    · show zz 160 10 = u50.2 2 12
      rw [y10, t2]
end
end
section
/- E of both sides: new rows -/
section
variable {nn : Nat} {X : BCx} {dp i a b e : Int} {p q p1 q1 : Nat} {h h1 g g1 g2 u u1 r w m : ms_M} {v : Int × ms_M}
theorem p3_pm (Y : CXs X) (ne : 0 ≤ a ∧ a ≤ e ∧ e < b) (nd : bT X 167 e.toNat = 27 ∧ bT X 168 e.toNat = ((p + 1 : Nat) : Int)) (kk : bK X p = 21 ∧ bK X (p + 1) = 2 ∧ bK X (p + 2) = 40 ∧ bK X (p + 3) = 41) (hq : q = p + 4) : P3 nn X dp 0 a b p q e := by
  intro d d2 h r Z Q b57 HB HC HF
  subst hq
  have Q0 := Q
  obtain ⟨B, ⟨q1, q2, q3, q4⟩, -, -⟩ := Q0
  have TB : TBc (bK X) (bP X) (bc X) h := B.1.1.1.1
  unfold qo_X10_readPrimary
  refine pc_sv (c_kind Y.1 TB q2 q1 q3) ?_; intro u25 q25
  refine pc_if (fun z => absurd z (by omega)) (fun _ => ?_)
  refine pc_if (fun _ => ?_) (fun z => absurd (show u25 = 21 by omega) z)
  refine p3_fin Y Q ?_ HC HF q1
  cases d with
  | zero => exact pc_none
  | succ d => exact p_made Y Q (by omega) ne nd kk d d2
/-- the making of one that is not led -/
theorem mkc_one {v : ms_M} (k : ¬ bT X 167 e.toNat = 30 ∧ ¬ bT X 167 e.toNat = 31 ∧ ¬ bT X 167 e.toNat = 32 ∧ ¬ bT X 167 e.toNat = 37 ∧ ¬ bT X 167 e.toNat = 38) (ne : 0 ≤ a ∧ a ≤ e ∧ e < b) (R : ∀ (PB : Nat → Prop) (WL : Int → Int → Prop) (L : List (Int × Int)) (m : ms_M) (d : Nat), MKx X PB WL L h m → AN a b v m → (0 ≤ m 160 57 ∧ m 160 57 + (b - a) < 9000) → m 160 88 + 4 * (q : Int) ≤ 2000000000 + 4 * (p : Int) → Pc (qo_X13_workOne nn (qg_X13_work nn d) e m) (fun w => MKx X PB WL L u w ∧ (m 160 88 ≤ w 160 88 ∧ w 160 88 + 4 * (p : Int) ≤ m 160 88 + 4 * (q : Int)))) : MKC nn X e a b p q h u v := fun d PB WL L m M A z1 z2 => by
  have T := (mk_t M).1 167 e.toNat (by omega)
  exact m_one (by omega) (m_nled (by rw [T]; exact k)) (fun d => R PB WL L m d M A z1 z2) d
theorem m_turnG {PB : Nat → Prop} {WL : Int → Int → Prop} {L : List (Int × Int)} {t t2 k : Int} (M : MKx X PB WL L h m) (A : CPo k h g) (B : CPu t g g2) (hk : 0 ≤ k ∧ k ≤ h 34 3) (b3 : h 34 3 ≤ 1000000) (e : TJ (bn X) t2 t) (n3 : ¬ t2 = 3) (eu : u = up_M (up_M g2 49 12 t) 49 11 0) : Pc (qf_X13_turn nn k t2 m) (fun w => MKx X PB WL L u w ∧ w 160 88 = m 160 88) := by
  obtain ⟨-, -, ⟨m1, m2, m3, m4⟩, -⟩ := mk_t M
  unfold qf_X13_turn
  refine pc_sub (by omega) ?_; intro v2 e2
  refine pc_xl ?_; intro h3 e3
  refine pc_if (fun z => absurd z n3) (fun _ => ?_)
  refine pc_sv r_push ?_; intro u5 q5
  have M1 : MKx X PB WL L g h3 := mk_pop M A hk (by rw [e3, e2])
  exact pc_ret ⟨mkx_give M1 B q5 e eu, by rw [q5.2.2.2.2 160 88 (by omega) (by omega), e3, up_n (by omega)]⟩
/-- an E within: ahead of it -/
theorem epr_in {t : Nat} (Q : EPr X dp p h r) (E : ∀ cc x : Nat, ¬ (cc = 2 ∧ x = 10) → h1 cc x = h cc x) (h10 : h1 2 10 = (t : Int)) (pt : p ≤ t) (tc : t < bc X) : EPr X dp t h1 r := by
  obtain ⟨B, ⟨q1, q2, q3, q4⟩, ⟨f1, f2, f3⟩, o1⟩ := Q
  refine ⟨bx_k B (fun cc x z => E cc x (by omega)) (fun _ _ _ => rfl), ⟨h10, tc, by rw [E 2 11 (by omega)]; exact q3, q4⟩, ⟨frc_k f1 (fun cc x z => E cc x (by omega)), ?_, ?_⟩, ?_⟩
  · rw [E 34 1 (by omega)]; omega
  · rw [E 34 3 (by omega)]; omega
  · rw [E 49 10 (by omega), E 49 18 (by omega)]; omega
/-- behind the E of new: ints (l3 = 1) or a class's rows -/
theorem p_arr {t : Nat} {cl l3 tk : Int} {ix : Int} (Y : CXs X) (Q : EPr X dp p h r) (b57 : 0 ≤ r 160 57 ∧ r 160 57 + (b - a) < 9000 ∧ b ≤ 9000) (ne : 0 ≤ a ∧ a ≤ e ∧ e < b) (kk : bK X t = 45 ∧ p + 3 < t) (nk : (bT X 167 e.toNat = 28 ∧ l3 = 1 ∧ cl = 0) ∨ (bT X 167 e.toNat = 29 ∧ l3 = 0 ∧ 0 ≤ cl ∧ cl < 8 + (bn X : Int))) (p2c : p + 2 < bc X) (H : E0 nn X dp ix (e + 1) b (p + 3) t (bT X 170 e.toNat)) (E1 : ∀ cc x : Nat, ¬ (cc = 2 ∧ x = 10) → h1 cc x = h cc x) (p10 : h1 2 10 = ((p + 3 : Nat) : Int)) (d : Nat) (WRK : ∀ (RES : Int × ms_M → Prop) , (∀ d2 : Nat, Pc (mx_sv ((qg_X13_condition nn d2).2.1 (bT X 170 e.toNat) r) fun u67 => if u67.1 = 0 then (some ((if l3 = 1 then 4 else ty_T (100 + cl)), u67.2)) else (mx_sv (qf_X13_wrong nn 6 ((p + 2 : Nat) : Int) u67.2) fun u71 => some ((if l3 = 1 then 4 else ty_T (100 + cl)), u71))) (fun u => ∀ z : ms_M, z = up_M u.2 174 e.toNat u.1 → (z 160 9 = 0 → RES (u.1, z)) ∧ (¬ z 160 9 = 0 → RES (0, z)))) → ∀ d2 : Nat, Pc ((qg_X13_condition nn d2).2.2.1 e r) RES) (d2 : Nat) {l2 : Int} (hl2 : l2 = ((p + 1 : Nat) : Int)) : Pc (mx_sv ((qg_X10_readValue nn d).1 dp h1) fun u29 => xl (oq_add (u29 2 10) 1) fun v32 => xl (up_M u29 2 10 v32) fun h33 => if ¬ (h33 49 12) = 301 then (qj_X10_readNew_147 nn (qg_X10_readValue nn d) l2 l3 cl 0 h33) else (qj_X10_readNew_147 nn (qg_X10_readValue nn d) l2 l3 cl 1 h33)) (fun u => Pc ((qg_X13_condition nn d2).2.2.1 e r) (fun v => (SFj u v.2 ∨ VDj X 0 a b p (t + 1) e h r u v) ∨ POk nn X 0 a b p (t + 1) e h r u v)) := by
  have Q0 := Q
  obtain ⟨B, ⟨q1, q2, q3, q4⟩, ⟨f1, f2, f3⟩, o1⟩ := Q0
  have BK := Y.1
  have n8 := Y.2.2.1
  have c3 := BK.2.1
  have HH := B.1
  have TQ : TBq (bK X) (bP X) (bc X) r := HH.1.2.2.1
  have tc0 : t < bc X := tb_lt BK (by omega)
  have p3c : p + 3 < bc X := by omega
  have Q1 : EPr X dp (p + 3) h1 r := epr_in Q E1 p10 (by omega) p3c
  have b57' : 0 ≤ r 160 57 ∧ r 160 57 + (b - (e + 1)) < 9000 ∧ b ≤ 9000 := by omega
  have GV := j_given (nn := nn) (X := X) (x := (qg_X10_readValue nn d).1 dp h1) TQ (fun cc y z => B.2.2.2.2.2.1 cc y (by omega)) n8 (fun d2 => H (.inr (.inl kk.1)) d d2 h1 r Q1 b57') (fun z => absurd z (by omega)) (by omega)
  have G := fsg_X10_readValue nn d
  have nl : ¬ bT X 167 e.toNat = 30 ∧ ¬ bT X 167 e.toNat = 31 ∧ ¬ bT X 167 e.toNat = 32 ∧ ¬ bT X 167 e.toNat = 37 ∧ ¬ bT X 167 e.toNat = 38 := by omega
  refine p2_sa ?_
  intro u29 e29
  -- behind a FAULT
  have TF : ¬ u29 2 11 = 0 → Pc (xl (oq_add (u29 2 10) 1) fun v32 => xl (up_M u29 2 10 v32) fun h33 => if ¬ (h33 49 12) = 301 then (qj_X10_readNew_147 nn (qg_X10_readValue nn d) l2 l3 cl 0 h33) else (qj_X10_readNew_147 nn (qg_X10_readValue nn d) l2 l3 cl 1 h33)) (fun u => FSc u29 u) := fun S => by
    refine pc_xl ?_; intro v32 e32
    refine pc_xl ?_; intro h33 e33
    have F33 : FSc u29 h33 := ⟨by rw [e33, up_n (by omega)], by rw [e33, up_n (by omega)]⟩
    have S33 : ¬ h33 2 11 = 0 := by rw [F33.1]; exact S
    exact pc_if (fun _ => pc_imp (fs_qj_X10_readNew_147 G S33) (fun u F => fs_t F33 F)) (fun _ => pc_imp (fs_qj_X10_readNew_147 G S33) (fun u F => fs_t F33 F))
  have tyv : VTn (bn X) (if l3 = 1 then 200 else 100 + cl) ∧ ¬ (if l3 = 1 then 200 else 100 + cl) = 303 ∧ ty_T (if l3 = 1 then 200 else 100 + cl) = (if l3 = 1 then 4 else ty_T (100 + cl)) ∧ ¬ (if l3 = 1 then (4 : Int) else ty_T (100 + cl)) = 3 := by
    rcases nk with ⟨-, y, -⟩ | ⟨-, y, y2, y3⟩
    · rw [if_pos y, if_pos y]; exact ⟨by unfold VTn; omega, by decide, by decide, by decide⟩
    · rw [if_neg (by omega), if_neg (by omega)]
      have vv : VTn (bn X) (100 + cl) := by unfold VTn; omega
      have c := ty_c (vtn_v n8 vv)
      exact ⟨vv, by omega, rfl, by omega⟩
  generalize hty : (if l3 = 1 then (200 : Int) else 100 + cl) = ty at tyv
  generalize htt : (if l3 = 1 then (4 : Int) else ty_T (100 + cl)) = tt at tyv WRK
  obtain ⟨tv1, tv2, tv3, tv4⟩ := tyv
  refine WRK _ (fun d3 => ?_) d2
  refine pc_sv (GV d3 u29 e29) ?_; intro v1 hv
  have WF : ∀ z1 : ms_M, ¬ z1 160 9 = 0 → Pc (mx_sv (qf_X13_wrong nn 6 ((p + 2 : Nat) : Int) z1) fun u71 => some (tt, u71)) (fun u => FSr z1 u.2) := fun z1 S => by
    refine pc_sv (ft_qf_X13_wrong S) ?_; intro u71 F
    exact pc_ret F
  rcases hv with S | ⟨⟨K, K15, KF⟩, FX, n303⟩
  · have SR := sf_r S
    have DONE : ∀ y : Int × ms_M, FSr v1.2 y.2 → ∀ z : ms_M, z = up_M y.2 174 e.toNat y.1 → Pc (xl (oq_add (u29 2 10) 1) fun v32 => xl (up_M u29 2 10 v32) fun h33 => if ¬ (h33 49 12) = 301 then (qj_X10_readNew_147 nn (qg_X10_readValue nn d) l2 l3 cl 0 h33) else (qj_X10_readNew_147 nn (qg_X10_readValue nn d) l2 l3 cl 1 h33)) (fun u => SFj u z) := fun y F z ez => pc_imp (TF S.1) (fun u F2 => sf_k S F2 ⟨by rw [ez, up_n (by omega)]; exact F.1, by rw [ez, up_n (by omega)]; exact F.2⟩)
    refine pc_if (fun _ => pc_ret (fun z ez => ?_)) (fun _ => pc_imp (WF v1.2 SR) (fun y F => fun z ez => ?_))
    · exact ⟨fun y => pc_imp (DONE (tt, v1.2) ft_r z ez) (fun u q => .inl (.inl q)), fun _ => pc_imp (DONE (tt, v1.2) ft_r z ez) (fun u q => .inl (.inl q))⟩
    · exact ⟨fun _ => pc_imp (DONE y F z ez) (fun u q => .inl (.inl q)), fun _ => pc_imp (DONE y F z ez) (fun u q => .inl (.inl q))⟩
  · obtain ⟨⟨x1, x2, x3, x4, x5⟩, ⟨x6, x7, x8⟩, ⟨x9, x10, x11⟩, ⟨x12, x13, x14⟩, -⟩ := K
    have tc : t + 1 < bc X := jp_lt BK x2 (by omega)
    have t0 : ty_T (u29 49 12) = 0 ↔ u29 49 12 = 301 := by
      have c := ty_c (vtn_v n8 x7)
      omega
    have BX1 : BX X u29 v1.2 := bx_e Q1.1 x9 x10
    have HT : TBq (bK X) (bP X) (bc X) v1.2 := BX1.1.1.2.2.1
    refine pc_if (fun z0 => ?_) (fun z0 => ?_)
    · -- an int
      have i301 : u29 49 12 = 301 := t0.mp (by rw [← x6]; exact z0)
      obtain ⟨⟨y1, -⟩, y2⟩ := FX.2.2 (by omega)
      rw [if_neg n303, E1 34 3 (by omega)] at y1
      rw [E1 34 1 (by omega)] at x13
      refine pc_ret (fun zz (ez : zz = up_M v1.2 174 e.toNat tt) => ⟨fun _ => ?_, fun y => absurd (by rw [ez, up_n (by omega)]; exact x5) y⟩)
      rw [x1]
      refine pc_add (by omega) ?_; intro v32 e32
      refine pc_xl ?_; intro h33 e33
      rw [show v32 = ((t + 1 : Nat) : Int) by omega] at e33
      have E33 : ∀ cc x : Nat, ¬ (cc = 2 ∧ x = 10) → h33 cc x = u29 cc x := fun cc x z => by rw [e33, up_n z]
      refine pc_if (fun z => absurd (show h33 49 12 = 301 by rw [E33 49 12 (by omega)]; exact i301) z) (fun _ => ?_)
      -- the end: op o k, pop 1, give
      have END : ∀ (g2 : ms_M) (u2 : ms_M), (∀ cc x : Nat, ¬ (cc = 34 ∧ x = 1) → ¬ cc = 35 → ¬ (cc = 45 ∧ (x = 4 ∨ x = 5)) → ¬ (cc = 46 ∨ cc = 47) → g2 cc x = h33 cc x) → g2 34 1 = h33 34 1 + 2 → (∀ (PB : Nat → Prop) (WL : Int → Int → Prop) (L : List (Int × Int)) (m1 : ms_M) (Kf : ms_M → Option ms_M) (QQ : ms_M → Prop) (dd : Nat), MKx X PB WL L h33 m1 → m1 174 e.toNat = tt → (∀ w : ms_M, MKx X PB WL L g2 w → w 160 88 = m1 160 88 → Pc (qf_X13_turn nn 1 tt w) QQ) → Pc (if l3 = 1 then (mx_sv (qf_X13_put nn 188 m1) fun u140 => mx_sv (qf_X13_put nn 10 u140) fun u142 => mx_sv (qf_X13_turn nn 1 tt u142) fun u144 => some u144) else (mx_sv (qf_X13_put nn 189 m1) fun u150 => xl (oq_sub tt 1) fun v151 => mx_sv (qf_X13_classConstant nn v151 u150) fun u153 => mx_sv (qf_X13_put nn u153.1 u153.2) fun u155 => mx_sv (qf_X13_turn nn 1 tt u155) fun u157 => some u157)) QQ) → Pc (mx_sv (qf_X1_pop nn 1 g2) fun u5 => if l3 = 0 then (xl (oq_add 100 cl) fun v6 => mx_sv (qf_X10_give nn v6 u5) fun u8 => some u8) else (mx_sv (qf_X10_give nn 200 u5) fun u10 => some u10)) (fun u => (SFj u zz ∨ VDj X 0 a b p (t + 1) e h r u (tt, zz)) ∨ POk nn X 0 a b p (t + 1) e h r u (tt, zz)) := fun g2 _ G2 l2' MM => by
        have h3 : g2 34 3 = h 34 3 + 1 := by rw [G2 34 3 (by omega) (by omega) (by omega) (by omega), E33 34 3 (by omega)]; exact y1
        refine pc_sv (c_pop (by omega) (by omega)) ?_; intro u5 A3
        have h5 : u5 34 3 = h 34 3 := by rw [A3.1, h3]; split <;> omega
        have GIV : Pc (mx_sv (qf_X10_give nn ty u5) fun u8 => some u8) (fun u => (SFj u zz ∨ VDj X 0 a b p (t + 1) e h r u (tt, zz)) ∨ POk nn X 0 a b p (t + 1) e h r u (tt, zz)) := ?_
        · refine pc_if (fun z => ?_) (fun z => ?_)
          · refine pc_add (by omega) ?_; intro v6 e6
            rw [if_neg (by omega)] at hty
            rw [show v6 = ty by omega]; exact GIV
          · rw [if_pos (by omega)] at hty
            rw [hty]; exact GIV
        refine pc_sv (c_give (by omega)) ?_; intro u8 ⟨g8, CP, eu⟩
        have G5 : ∀ cc x : Nat, ¬ (cc = 34 ∧ (x = 1 ∨ x = 3)) → ¬ cc = 35 → ¬ (cc = 45 ∧ (x = 4 ∨ x = 5)) → ¬ (cc = 46 ∨ cc = 47) → ¬ (cc = 2 ∧ x = 10) → u5 cc x = u29 cc x := fun cc x z1 z2 z3 z4 z5 => by rw [A3.2 cc x (by omega), G2 cc x (by omega) z2 z3 z4]; exact E33 cc x z5
        have l5 : u5 34 1 = u29 34 1 + 2 := by rw [A3.2 34 1 (by omega), l2', E33 34 1 (by omega)]
        have t11 : u8 49 11 = 0 := by rw [eu, up_s]
        have t12 : u8 49 12 = ty := by rw [eu, up_n (by omega), up_s]
        have t3 : u8 34 3 = h 34 3 + 1 := by rw [eu, up_n (by omega), up_n (by omega), CP.1, h5]
        refine pc_ret (.inr ?_)
        refine pok_give (t := ty) (g := u5) (v := v1.2) Q ⟨tc, by omega⟩ ne ?_ ?_ ?_ ?_ ?_ ?_ ?_ CP eu ⟨tv1, tv2⟩ ?_ x5 (by rw [ez, tv3]) ?_
        · exact cfe_t (cfe_w x9 E1 (fun cc x _ _ => rfl)) (fun cc x a1 a2 a3 a4 a5 a6 a7 a8 => G5 cc x (by omega) (by omega) (by omega) (by omega) (by omega))
        · refine ⟨by rw [G5 49 10 (by omega) (by omega) (by omega) (by omega) (by omega), x11.1]; exact E1 49 10 (by omega), fun cc x z1 z2 z3 => ?_⟩
          rw [G5 cc x (by omega) (by omega) (by omega) (by omega) (by omega), x11.2 cc x z1 z2 (by rw [E1 49 10 (by omega)]; exact z3)]
          exact E1 cc x (by omega)
        · rw [A3.2 2 10 (by omega), G2 2 10 (by omega) (by omega) (by omega) (by omega), e33, up_s]
        · rw [G5 2 11 (by omega) (by omega) (by omega) (by omega) (by omega)]; exact x4
        · exact frc_k x12 (fun cc x z => G5 cc x (by omega) (by omega) (by omega) (by omega) (by omega))
        · omega
        · omega
        · exact ⟨x10.1, fun cc x z1 z2 z3 => x10.2 cc x z1 z2 (by omega)⟩
        · refine ⟨.inr ⟨t11, by omega, by rw [t12]; exact tv2⟩, fun _ => .inl ⟨by omega, by omega, fun z => absurd z nl.1⟩, fun _ => ⟨⟨by rw [t12, if_neg tv2]; exact t3, top_g CP (by omega) eu⟩, ?_⟩⟩
          refine mkc_one nl ne (fun PB WL L m d M A z1 z2 => ?_)
          obtain ⟨MT, -, -, -⟩ := mk_t M
          have a4 : m 174 e.toNat = tt := by rw [A 174 e.toNat (by omega) (by omega) (by omega) (by omega), up_s, tv3]
          have M1 : MKx X PB WL L h1 m := mkx_c M (fun cc x z1 z2 z3 => E1 cc x (by omega))
          have CH := y2 d PB WL L m M1 (an_s A ⟨by omega, Int.le_refl _⟩ (fun cc x c1 c2 c4 c5 => up_n (by omega))) (by omega) (by omega)
          have FINAL : ∀ w1 : ms_M, MKx X PB WL L u29 w1 → (m 160 88 ≤ w1 160 88 ∧ w1 160 88 + 4 * ((p + 3 : Nat) : Int) ≤ m 160 88 + 4 * (t : Int)) → (∀ cc x : Nat, 174 ≤ cc → cc ≤ 176 → w1 cc x = m cc x) → Pc (if l3 = 1 then (mx_sv (qf_X13_put nn 188 w1) fun u140 => mx_sv (qf_X13_put nn 10 u140) fun u142 => mx_sv (qf_X13_turn nn 1 tt u142) fun u144 => some u144) else (mx_sv (qf_X13_put nn 189 w1) fun u150 => xl (oq_sub tt 1) fun v151 => mx_sv (qf_X13_classConstant nn v151 u150) fun u153 => mx_sv (qf_X13_put nn u153.1 u153.2) fun u155 => mx_sv (qf_X13_turn nn 1 tt u155) fun u157 => some u157)) (fun w => MKx X PB WL L u8 w ∧ (m 160 88 ≤ w 160 88 ∧ w 160 88 + 4 * (p : Int) ≤ m 160 88 + 4 * ((t + 1 : Nat) : Int))) := fun w1 Mw lw aw => by
            refine MM PB WL L w1 (fun w => some w) _ 0 (mkx_c Mw (fun cc x z1 z2 z3 => E33 cc x (by omega))) (by rw [aw 174 _ (by omega) (by omega)]; exact a4) (fun w Mw2 lw2 => ?_)
            refine pc_imp (m_turnG Mw2 A3 CP (by omega) (by omega) ⟨tv3.symm, tv1, tv2⟩ tv4 eu) (fun w3 y3 => ⟨y3.1, by rw [y3.2, lw2]; omega⟩)
          unfold qo_X13_workOne
          refine pc_rA ?_; intro _ _ v59 e59
          rw [a4] at e59
          refine pc_rA ?_; intro _ _ v61 e61
          rw [MT 167 e.toNat (by omega)] at e61
          rw [e59]
          refine pc_if (fun z => absurd z (by omega)) (fun _ => ?_)
          refine pc_if (fun z => absurd z (by omega)) (fun _ => ?_)
          refine pc_if (fun z => absurd z (by omega)) (fun _ => ?_)
          refine pc_if (fun z => absurd z (by omega)) (fun _ => ?_)
          refine pc_if (fun z => absurd z (by omega)) (fun _ => ?_)
          refine pc_if (fun z => absurd z (by omega)) (fun _ => ?_)
          refine pc_if (fun z => absurd z (by omega)) (fun _ => ?_)
          refine pc_if (fun z => absurd z (by omega)) (fun _ => ?_)
          refine pc_if (fun z8 => ?_) (fun z8 => ?_)
          · refine pc_rA ?_; intro _ _ v136 e136
            rw [MT 170 e.toNat (by omega)] at e136
            rw [e136]
            refine pc_sv (pc_and CH (wk_an d)) ?_; intro u138 ⟨⟨c1, c2⟩, c4⟩
            have R := FINAL u138 c1 c2 c4
            rw [if_pos (show l3 = 1 by omega)] at R
            exact R
          · refine pc_if (fun z9 => ?_) (fun z9 => absurd z9 (by omega))
            refine pc_rA ?_; intro _ _ v146 e146
            rw [MT 170 e.toNat (by omega)] at e146
            rw [e146]
            refine pc_sv (pc_and CH (wk_an d)) ?_; intro u148 ⟨⟨c1, c2⟩, c4⟩
            have R := FINAL u148 c1 c2 c4
            rw [if_neg (show ¬ l3 = 1 by omega)] at R
            exact R
      unfold qj_X10_readNew_147
      rw [hl2]
      refine pc_add (by omega) ?_; intro v16 e16
      have WT : Pc (qf_X10_wantType nn 1 v16 h33) (fun y => y = h33) := by
        unfold qf_X10_wantType
        exact pc_if (fun _ => pc_ret rfl) (fun z => absurd (by decide) z)
      refine pc_sv WT ?_; intro u18 q18
      rw [q18]
      have l33 := E33 34 1 (by omega)
      refine pc_if (fun z3 => ?_) (fun z3 => ?_)
      · -- a class's rows
        have k4 : 0 ≤ cl ∧ cl < 8 + (bn X : Int) := by omega
        unfold qj_X10_readNew_170
        refine pc_if (fun _ => ?_) (fun z => absurd z3 z)
        refine pc_sv (pc_and c_clf (fun u eu => eu)) ?_; intro u14 ⟨G14, e14⟩
        unfold qj_X10_readNew_188
        have l14 := G14 34 1 (by omega) (by omega) (by omega)
        refine pc_sv (c_op2 (by omega)) ?_; intro u2 ⟨g1, A1, A2⟩
        refine END u2 u2 (fun cc x z1 z2 z5 z4 => by rw [A2.2.2 cc x (by omega) (by omega), A1.2.2 cc x (by omega) (by omega)]; exact G14 cc x z5 (by omega) (by omega)) (by rw [A2.1, A1.1]; omega) (fun PB WL L m1 Kf QQ dd Mm a1 TT => ?_)
        rw [if_neg (by omega)] at htt ⊢
        have tyc := ty_c (t := cl) (.inr (.inr (.inr (.inr (.inr (.inl (by omega)))))))
        have tyr := ty_c (t := 100 + cl) (.inr (.inr (.inr (.inr (.inr (.inr (by omega)))))))
        obtain ⟨-, -, ⟨m1', m2, m3, m4⟩, -⟩ := mk_t Mm
        refine pc_sv (r_put (by omega)) ?_; intro u150 b1
        obtain ⟨p1, p2, p3, p4⟩ := mk_plp Mm b1
        refine pc_sub (by omega) ?_; intro v151 e151
        rw [show v151 = ty_T cl by omega]
        refine pc_sv (j_classC Y p4 p3 p1 p2 (.inl k4) u14 e14) ?_; intro u153 ⟨PC, SP⟩
        refine pc_sv (r_put (by rw [PC.2.2.2.2.1 160 68 (by omega) (by omega), b1.1]; omega)) ?_; intro u155 b2
        refine pc_sv (TT u155 (mk_opc Mm b1 PC SP A1 A2 b2 (by unfold in_R; omega)) (by rw [b2.2.2 160 88 (by omega) (by omega), PC.2.2.2.2.1 160 88 (by omega) (by omega), b1.2.2 160 88 (by omega) (by omega)])) ?_; intro u157 y
        exact pc_ret y
      · unfold qj_X10_readNew_170
        refine pc_if (fun z => absurd z z3) (fun _ => ?_)
        unfold qj_X10_readNew_188
        refine pc_sv (c_op2 (by omega)) ?_; intro u2 ⟨g1, A1, A2⟩
        refine END u2 u2 (fun cc x z1 z2 z5 z4 => by rw [A2.2.2 cc x (by omega) (by omega), A1.2.2 cc x (by omega) (by omega)]) (by rw [A2.1, A1.1]; omega) (fun PB WL L m1 Kf QQ dd Mm a1 TT => ?_)
        rw [if_pos (by omega)]
        obtain ⟨-, -, ⟨m1', m2, m3, m4⟩, -⟩ := mk_t Mm
        refine pc_sv (r_put (by omega)) ?_; intro u140 b1
        refine pc_sv (r_put (by rw [b1.1]; omega)) ?_; intro u142 b2
        refine pc_sv (TT u142 (mk_op (mk_op Mm A1 b1 (fun _ => rfl) (by unfold in_R; omega)) A2 b2 (fun _ => rfl) (by unfold in_R; omega)) (by rw [b2.2.2 160 88 (by omega) (by omega), b1.2.2 160 88 (by omega) (by omega)])) ?_; intro u144 y
        exact pc_ret y
    · -- not an int
      have ni : ¬ u29 49 12 = 301 := fun z => z0 (by rw [x6]; exact t0.mpr z)
      refine pc_sv (r_wrong HT (p := p + 2) p2c x5 rfl) ?_; intro u71 ⟨w1, w2⟩
      refine pc_ret (fun zz (ez : zz = up_M u71 174 e.toNat tt) => ?_)
      have y9 : zz 160 9 = 6 := by rw [ez, up_n (by omega)]; exact w1
      have y10 : zz 160 10 = bP X (p + 2) := by rw [ez, up_n (by omega)]; exact w2
      refine ⟨fun y => absurd y (by omega), fun _ => ?_⟩
      rw [x1]
      refine pc_add (by omega) ?_; intro v32 e32
      refine pc_xl ?_; intro h33 e33
      have E33 : ∀ cc x : Nat, ¬ (cc = 2 ∧ x = 10) → h33 cc x = u29 cc x := fun cc x z => by rw [e33, up_n z]
      refine pc_if (fun _ => ?_) (fun z => absurd (show ¬ h33 49 12 = 301 by rw [E33 49 12 (by omega)]; exact ni) z)
      unfold qj_X10_readNew_147
      rw [hl2]
      refine pc_add (by omega) ?_; intro v16 e16
      have TB33 : TBc (bK X) (bP X) (bc X) h33 := tbc_k BX1.1.1.1.1 (fun cc y z => E33 cc y (by omega))
      have WT : Pc (qf_X10_wantType nn 0 v16 h33) (fun y => y 2 11 = 6 ∧ y 2 12 = bP X (p + 2)) := by
        unfold qf_X10_wantType
        refine pc_if (fun z => absurd rfl z) (fun _ => ?_)
        refine pc_sv (c_tell TB33 (by rw [E33 2 11 (by omega)]; exact x4) p2c (by omega)) ?_; intro u3 ⟨t1, _⟩
        exact pc_ret t1
      refine pc_sv WT ?_; intro u18 ⟨s1, s2⟩
      have S18 : ¬ u18 2 11 = 0 := by omega
      have FF : ∀ u : ms_M, FSc u18 u → (SFj u zz ∨ VDj X 0 a b p (t + 1) e h r u (0, zz)) ∨ POk nn X 0 a b p (t + 1) e h r u (0, zz) := fun u F => .inl (.inl ⟨by rw [F.1]; exact S18, by rw [F.1, y9, s1], by rw [F.2, y10, s2]⟩)
      exact pc_if (fun _ => pc_imp (fs_qj_X10_readNew_170 G S18) (fun u F => FF u F)) (fun _ => pc_imp (fs_qj_X10_readNew_170 G S18) (fun u F => FF u F))
end
end
section
/- E of both sides: new rows as a P -/
section
variable {nn : Nat} {X : BCx} {dp i a b e : Int} {p q : Nat} {h g u r w m : ms_M} {v : Int × ms_M}
/-- what given leaves of the tree -/
theorem gv_fr (d : Nat) {x : Int} : Pc ((qg_X13_condition nn d).2.1 x r) (fun z => ∀ cc y : Nat, ¬ (cc = 160 ∧ (y = 9 ∨ y = 10 ∨ y = 57)) → ¬ cc = 199 → ¬ (174 ≤ cc ∧ cc ≤ 176) → z.2 cc y = r cc y) := fun z ez cc y c1 c2 c3 => (fg_X13_condition nn d).2.1 z ez cc y (nw_of (by unfold wl_X13_given; simp only [List.mem_cons, List.not_mem_nil, or_false]; omega) (by unfold wf_X13_given; simp only [List.mem_cons, List.not_mem_nil, or_false, Prod.mk.injEq]; omega))
theorem p3_pi {t : Nat} {ix : Int} (Y : CXs X) (ne : 0 ≤ a ∧ a ≤ e ∧ e < b) (nd : bT X 167 e.toNat = 28 ∧ bT X 168 e.toNat = ((p + 2 : Nat) : Int)) (kk : bK X p = 21 ∧ bK X (p + 1) = 20 ∧ bK X (p + 2) = 44) (H : E0 nn X dp ix (e + 1) b (p + 3) t (bT X 170 e.toNat)) (kt : bK X t = 45 ∧ q = t + 1) (pt : p + 3 < t) : P3 nn X dp 0 a b p q e := by
  intro d d2 h r Z Q b57 HB HC HF
  obtain ⟨kt1, hq⟩ := kt
  subst hq
  have Q0 := Q
  obtain ⟨B, ⟨q1, q2, q3, q4⟩, -, -⟩ := Q0
  have T : ∀ cc : Nat, 163 ≤ cc ∧ cc ≤ 173 → r cc e.toNat = bT X cc e.toNat := fun cc z => B.2.2.2.2.2.1 cc e.toNat (by omega)
  have TB : TBc (bK X) (bP X) (bc X) h := B.1.1.1.1
  have c3 := Y.1.2.1
  have p2c : p + 2 < bc X := tb_lt Y.1 (by omega)
  have nl : ¬ bT X 167 e.toNat = 30 ∧ ¬ bT X 167 e.toNat = 31 ∧ ¬ bT X 167 e.toNat = 32 ∧ ¬ bT X 167 e.toNat = 37 ∧ ¬ bT X 167 e.toNat = 38 := by omega
  unfold qo_X10_readPrimary
  refine pc_sv (c_kind Y.1 TB q2 q1 q3) ?_; intro u25 q25
  refine pc_if (fun z => absurd z (by omega)) (fun _ => ?_)
  refine pc_if (fun _ => ?_) (fun z => absurd (show u25 = 21 by omega) z)
  refine p3_fin Y Q ?_ HC HF q1
  cases d with
  | zero => exact pc_none
  | succ d =>
    show Pc (qo_X10_readNew nn (qg_X10_readValue nn d) dp h) _
    unfold qo_X10_readNew
    rw [q1]
    refine pc_add (by omega) ?_; intro v54 e54
    refine pc_sv (c_kindAt Y.1 TB (t := p + 1) (by omega)) ?_; intro u57 q57
    refine pc_if (fun z => absurd (show u57 = 20 by omega) z) (fun _ => ?_)
    unfold qj_X10_readNew_28
    refine pc_if (fun z => absurd z (by decide)) (fun _ => ?_)
    unfold qj_X10_readNew_43
    refine pc_if (fun _ => ?_) (fun z => absurd (by decide) z)
    refine pc_add (by omega) ?_; intro v22 e22
    refine pc_sv (c_kindAt Y.1 TB (t := p + 2) (by omega)) ?_; intro u24 q24
    refine pc_if (fun _ => ?_) (fun z => absurd (show ¬ u24 = 40 by omega) z)
    refine pc_add (by omega) ?_; intro v26 e26
    refine pc_xl ?_; intro h27 e27
    refine p_arr (cl := 0) (l3 := 1) (tk := 0) Y Q b57 ne ⟨kt1, pt⟩ (.inl ⟨nd.1, rfl, rfl⟩) p2c H (h1 := h27) (fun cc x z => by rw [e27, up_n z]) (by rw [e27, up_s]; omega) d (fun RES HN d2 => ?_) d2 (by omega)
    refine w_one (by omega) q4 (r_nled (by rw [T 167 (by omega)]; exact nl)) (fun d => ?_) d2
    unfold qo_X13_rule
    refine pc_rA ?_; intro _ _ v83 e83
    rw [T 167 (by omega), nd.1] at e83
    rw [e83]
    refine pc_if (fun z => absurd z (by decide)) (fun _ => ?_)
    refine pc_if (fun z => absurd z (by decide)) (fun _ => ?_)
    refine pc_if (fun z => absurd z (by decide)) (fun _ => ?_)
    refine pc_if (fun z => absurd z (by decide)) (fun _ => ?_)
    refine pc_if (fun z => absurd z (by decide)) (fun _ => ?_)
    refine pc_if (fun z => absurd z (by decide)) (fun _ => ?_)
    refine pc_if (fun z => absurd z (by decide)) (fun _ => ?_)
    refine pc_if (fun z => absurd z (by decide)) (fun _ => ?_)
    refine pc_if (fun _ => ?_) (fun z => absurd rfl z)
    refine pc_rA ?_; intro _ _ v146 e146
    rw [T 170 (by omega)] at e146
    rw [e146]
    refine pc_se ?_; intro u148 e148
    have F8 := gv_fr d u148 e148
    have HA := pi_sv (HN d) e148
    rw [if_pos rfl] at HA
    refine pc_if (fun z => pi_p HA z) (fun z => ?_)
    have HA := pi_n HA z
    refine pc_rA ?_; intro _ _ v150 e150
    rw [F8 168 _ (by omega) (by omega) (by omega), T 168 (by omega), nd.2] at e150
    rw [e150]
    exact HA
theorem p3_pr {t : Nat} {ix : Int} (Y : CXs X) (ne : 0 ≤ a ∧ a ≤ e ∧ e < b) (nd : bT X 167 e.toNat = 29 ∧ bT X 168 e.toNat = ((p + 1 : Nat) : Int) ∧ bT X 172 e.toNat = ((p + 2 : Nat) : Int)) (kk : bK X p = 21 ∧ bK X (p + 1) = 2 ∧ bK X (p + 2) = 44) (H : E0 nn X dp ix (e + 1) b (p + 3) t (bT X 170 e.toNat)) (kt : bK X t = 45 ∧ q = t + 1) (pt : p + 3 < t) : P3 nn X dp 0 a b p q e := by
  intro d d2 h r Z Q b57 HB HC HF
  obtain ⟨kt1, hq⟩ := kt
  subst hq
  have Q0 := Q
  obtain ⟨B, ⟨q1, q2, q3, q4⟩, -, -⟩ := Q0
  have T : ∀ cc : Nat, 163 ≤ cc ∧ cc ≤ 173 → r cc e.toNat = bT X cc e.toNat := fun cc z => B.2.2.2.2.2.1 cc e.toNat (by omega)
  have TB : TBc (bK X) (bP X) (bc X) h := B.1.1.1.1
  have TQ : TBq (bK X) (bP X) (bc X) r := B.1.1.2.2.1
  have c3 := Y.1.2.1
  have n8 := Y.2.2.1
  have p2c : p + 2 < bc X := tb_lt Y.1 (by omega)
  have v0 := (B.1.1.2.2.2.1.1 (p + 1) (by omega) kk.2.1).1.1
  have nl : ¬ bT X 167 e.toNat = 30 ∧ ¬ bT X 167 e.toNat = 31 ∧ ¬ bT X 167 e.toNat = 32 ∧ ¬ bT X 167 e.toNat = 37 ∧ ¬ bT X 167 e.toNat = 38 := by omega
  have RULE : ∀ (RES : Int × ms_M → Prop), (∀ (d : Nat) (u157 : Int), CLz (fun k => bV X (bC X k)) (bn X) (bV X (p + 1)) u157 → Pc (if ¬ u157 = (-1) then (qj_X13_rule_317 nn (qg_X13_condition nn d) e u157 r) else (rd_A 9000 168 e r fun v159 => mx_sv (qf_X13_wrong nn 5 v159 r) fun u161 => qj_X13_rule_317 nn (qg_X13_condition nn d) e u157 u161)) (fun u => ∀ z : ms_M, z = up_M u.2 174 e.toNat u.1 → (z 160 9 = 0 → RES (u.1, z)) ∧ (¬ z 160 9 = 0 → RES (0, z)))) → ∀ d2 : Nat, Pc ((qg_X13_condition nn d2).2.2.1 e r) RES := fun RES HN d2 => by
    refine w_one (by omega) q4 (r_nled (by rw [T 167 (by omega)]; exact nl)) (fun d => ?_) d2
    unfold qo_X13_rule
    refine pc_rA ?_; intro _ _ v83 e83
    rw [T 167 (by omega), nd.1] at e83
    rw [e83]
    refine pc_if (fun z => absurd z (by decide)) (fun _ => ?_)
    refine pc_if (fun z => absurd z (by decide)) (fun _ => ?_)
    refine pc_if (fun z => absurd z (by decide)) (fun _ => ?_)
    refine pc_if (fun z => absurd z (by decide)) (fun _ => ?_)
    refine pc_if (fun z => absurd z (by decide)) (fun _ => ?_)
    refine pc_if (fun z => absurd z (by decide)) (fun _ => ?_)
    refine pc_if (fun z => absurd z (by decide)) (fun _ => ?_)
    refine pc_if (fun z => absurd z (by decide)) (fun _ => ?_)
    refine pc_if (fun z => absurd z (by decide)) (fun _ => ?_)
    refine pc_if (fun _ => ?_) (fun z => absurd rfl z)
    refine pc_rA ?_; intro _ _ v155 e155
    rw [T 168 (by omega), nd.2.1] at e155
    refine pc_sv (r_classOf Y.1 Y.2.1 B.1.1.2.2 kk.2.1 e155) ?_; intro u157 q157
    exact HN d u157 q157
  unfold qo_X10_readPrimary
  refine pc_sv (c_kind Y.1 TB q2 q1 q3) ?_; intro u25 q25
  refine pc_if (fun z => absurd z (by omega)) (fun _ => ?_)
  refine pc_if (fun _ => ?_) (fun z => absurd (show u25 = 21 by omega) z)
  refine p3_fin Y Q ?_ HC HF q1
  cases d with
  | zero => exact pc_none
  | succ d =>
    show Pc (qo_X10_readNew nn (qg_X10_readValue nn d) dp h) _
    unfold qo_X10_readNew
    rw [q1]
    refine pc_add (by omega) ?_; intro v54 e54
    refine pc_sv (c_kindAt Y.1 TB (t := p + 1) (by omega)) ?_; intro u57 q57
    refine pc_if (fun _ => ?_) (fun z => absurd (show ¬ u57 = 20 by omega) z)
    unfold qj_X10_readNew_28
    refine pc_if (fun _ => ?_) (fun z => absurd rfl z)
    refine pc_sv (c_rnc Y B q3 kk.2.1 (x := v54) (y := v54) (by omega)) ?_; intro u50 q50
    rcases q50 with ⟨cl, cn, eu⟩ | ⟨cl, cn, t1, t2⟩
    · have cb := clz_v cl v0 cn
      unfold qj_X10_readNew_43
      refine pc_if (fun _ => ?_) (fun z => absurd cn z)
      refine pc_add (by omega) ?_; intro v22 e22
      rw [eu]
      have TB2 : TBc (bK X) (bP X) (bc X) (up_M h 2 10 v54) := tbc_k TB (fun cc y z => up_n (by omega))
      refine pc_sv (c_kindAt Y.1 TB2 (t := p + 2) (by omega)) ?_; intro u24 q24
      refine pc_if (fun _ => ?_) (fun z => absurd (show ¬ u24 = 40 by omega) z)
      refine pc_add (by omega) ?_; intro v26 e26
      refine pc_xl ?_; intro h27 e27
      refine p_arr (cl := u50.1) (l3 := 0) (tk := 0) Y Q b57 ne ⟨kt1, pt⟩ (.inr ⟨nd.1, rfl, cb⟩) p2c H (h1 := h27) (fun cc x z => by rw [e27, up_n z, up_n z]) (by rw [e27, up_s]; omega) d (fun RES HN d2 => ?_) d2 (by omega)
      refine RULE RES (fun d u157 cl2 => ?_) d2
      have ec := cls_d cl2 cl
      rw [ec]
      refine pc_if (fun _ => ?_) (fun z => absurd cn z)
      unfold qj_X13_rule_317
      refine pc_rA ?_; intro _ _ v65 e65
      rw [T 170 (by omega)] at e65
      rw [e65]
      refine pc_se ?_; intro u67 e67
      have F8 := gv_fr d u67 e67
      have HA := pi_sv (HN d) e67
      rw [if_neg (show ¬ (0 : Int) = 1 by decide)] at HA
      have tyr := ty_c (t := 100 + u50.1) (.inr (.inr (.inr (.inr (.inr (.inr (by omega)))))))
      have R342 : ∀ (z1 : ms_M) (QQ : Int × ms_M → Prop), Pc (some (ty_T (100 + u50.1), z1)) QQ → Pc (qj_X13_rule_342 nn (qg_X13_condition nn d) u50.1 z1) QQ := fun z1 QQ HQ => by
        unfold qj_X13_rule_342
        refine pc_xl ?_; intro v61 e61
        rw [oq_mul_eq (by omega) (by omega) (by omega)] at e61
        refine pc_add (by omega) ?_; intro v62 e62
        refine pc_add (by omega) ?_; intro v63 e63
        rw [show v63 = ty_T (100 + u50.1) by omega]
        exact HQ
      refine pc_if (fun z => R342 _ _ (pi_p HA z)) (fun z => ?_)
      have HA := pi_n HA z
      refine pc_rA ?_; intro _ _ v69 e69
      rw [F8 172 _ (by omega) (by omega) (by omega), T 172 (by omega), nd.2.2] at e69
      rw [e69]
      refine pc_se ?_; intro u71 e71
      have HB2 := pi_sv HA e71
      exact R342 _ _ HB2
    · unfold qj_X10_readNew_43
      refine pc_if (fun z => absurd cn z) (fun _ => ?_)
      refine pc_ret (RULE _ (fun d u157 cl2 => ?_) d2)
      have ec := cls_d cl2 cl
      refine pc_if (fun z => absurd ec z) (fun _ => ?_)
      refine pc_rA ?_; intro _ _ v159 e159
      rw [T 168 (by omega), nd.2.1] at e159
      refine pc_sv (r_wrong TQ (p := p + 1) (by omega) q4 e159) ?_; intro u161 ⟨w1, w2⟩
      refine pc_imp (ft_qj_X13_rule_317 (ftg_X13_condition nn d) (by omega)) (fun y F => fun zz ez => ?_)
      have y9 : zz 160 9 = 5 := by rw [ez, up_n (by omega), F.1]; exact w1
      have y10 : zz 160 10 = bP X (p + 1) := by rw [ez, up_n (by omega), F.2]; exact w2
      refine ⟨fun y => absurd y (by omega), fun _ => .inl (.inl ⟨by omega, ?_, ?_⟩)⟩
      · show zz 160 9 = u50.2 2 11
        rw [y9, t1]
      · show zz 160 10 = u50.2 2 12
        rw [y10, t2]
end
end
