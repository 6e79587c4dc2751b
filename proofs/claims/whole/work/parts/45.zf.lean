/- E of both sides: a P, and a U that is a P -/
def EOk (nn : Nat) (X : BCx) (i a b : Int) (p q : Nat) (e : Int) (h r u : ms_M) (v : Int × ms_M) : Prop := POk nn X i a b p q e h r u v ∧ u 49 15 = (p : Int) ∧ (¬ bK X q = 51 → u 49 11 = 0 ∨ u 49 11 = 1)
/-- a P: the class goes on in its loop behind it -/
def P3 (nn : Nat) (X : BCx) (dp i a b : Int) (p q : Nat) (e : Int) : Prop := ∀ (d d2 : Nat) (h r : ms_M) (Z : ms_M → Int × ms_M → Prop), EPr X dp p h r → (0 ≤ r 160 57 ∧ r 160 57 + (b - a) < 9000 ∧ b ≤ 9000) → (bK X q = 48 → bK X (q + 1) = 2 → bK X (q + 2) = 40 → i = 0 → bT X 167 e.toNat = 25 → Pc (qf_X13_sightOf nn (p : Int) r) (fun u => ¬ u = -1) ∨ Pc (qf_X13_memberOf nn (bo X) (p : Int) 0 r) (fun u => ¬ u = -1)) → (∀ (k : Nat) (t : Int) (u : ms_M) (v : Int × ms_M), POk nn X i a b p q e h r u v → (0 ≤ t ∧ t ≤ (q : Int)) → Pc (qw_X10_readPrimary_118 nn (qg_X10_readValue nn d) k dp (p : Int) (bK X q) t u) (fun uF => Z uF v)) → (∀ (uF : ms_M) (v : Int × ms_M), (SFj uF v.2 ∨ VDj X i a b p q e h r uF v) → Z uF v) → Pc (qo_X10_readPrimary nn (qg_X10_readValue nn d) dp h) (fun uF => Pc ((qg_X13_condition nn d2).2.2.1 e r) (fun v => Z uF v))
/-- an E, a U: j which reader of the class -/
def E2 (nn : Nat) (X : BCx) (dp i a b : Int) (p q : Nat) (e : Int) : Prop := ∀ (d d2 : Nat) (h r : ms_M), EPr X dp p h r → (0 ≤ r 160 57 ∧ r 160 57 + (b - a) < 9000 ∧ b ≤ 9000) → Pc ((qg_X10_readValue nn d).2.2.1 dp h) (fun u => Pc ((qg_X13_condition nn d2).2.2.1 e r) (fun v => (SFj u v.2 ∨ VDj X i a b p q e h r u v) ∨ EOk nn X i a b p q e h r u v))
/-- what may stand behind an E -/
def ENDk (k : Int) : Prop := k = 41 ∨ k = 45 ∨ k = 46 ∨ k = 47 ∨ k = 50 ∨ k = 51
/-- .. an E: its first token may be forgotten -/
def EOz (nn : Nat) (X : BCx) (i a b : Int) (p q : Nat) (e : Int) (h r u : ms_M) (v : Int × ms_M) : Prop := POk nn X i a b p q e h r u v ∧ True ∧ (¬ bK X q = 51 → u 49 11 = 0 ∨ u 49 11 = 1)
def E0 (nn : Nat) (X : BCx) (dp i a b : Int) (p q : Nat) (e : Int) : Prop := ENDk (bK X q) → ∀ (d d2 : Nat) (h r : ms_M), EPr X dp p h r → (0 ≤ r 160 57 ∧ r 160 57 + (b - a) < 9000 ∧ b ≤ 9000) → Pc ((qg_X10_readValue nn d).1 dp h) (fun u => Pc ((qg_X13_condition nn d2).2.2.1 e r) (fun v => (SFj u v.2 ∨ VDj X i a b p q e h r u v) ∨ EOz nn X i a b p q e h r u v))
section
variable {nn : Nat} {X : BCx} {dp i a b e : Int} {p q : Nat} {h g u r w m : ms_M} {v : Int × ms_M}
theorem sf_c (S : SFj u w) (A : FSc u g) : SFj g w := ⟨by rw [A.1]; exact S.1, by rw [A.1]; exact S.2.1, by rw [A.2]; exact S.2.2⟩
theorem vd_c (S : VDj X i a b p q e h r u v) (A : FSc u g) : VDj X i a b p q e h r g v := ⟨⟨by rw [A.1]; exact S.1.1, by rw [A.2]; exact S.1.2.1, S.1.2.2⟩, S.2⟩
theorem vd_i {i2 : Int} {p2 q2 : Nat} {h2 : ms_M} (S : VDj X i a b p q e h r u v) (n : ¬ i2 = 0) : VDj X i2 a b p2 q2 e h2 r u v := ⟨⟨S.1.1, S.1.2.1, S.1.2.2.1, S.1.2.2.2.1, fun z => absurd z n⟩, S.2⟩
theorem vd_n (S : VDj X i a b p q e h r u v) : ¬ u 2 11 = 0 := by have := S.1.1; omega
/-- TBc of the class later on -/
theorem pk_b (Q : EPr X dp p h r) (K : POk nn X i a b p q e h r u v) : TBc (bK X) (bP X) (bc X) u := tbc_k Q.1.1.1.1.1 (fun cc y z => K.2.2.1.1 cc y (by omega) (by omega) (by omega) (by omega) (by omega) (by omega) (by omega) (by omega))
/-- behind the first part of a P -/
theorem p3_fin {W : Option (Int × ms_M)} {x : Option ms_M} {Z : ms_M → Int × ms_M → Prop} {d : Nat} (Y : CXs X) (Q : EPr X dp p h r) (H : Pc x (fun u => Pc W (fun v => (SFj u v.2 ∨ VDj X i a b p q e h r u v) ∨ POk nn X i a b p q e h r u v))) (HC : ∀ (k : Nat) (t : Int) (u : ms_M) (v : Int × ms_M), POk nn X i a b p q e h r u v → (0 ≤ t ∧ t ≤ (q : Int)) → Pc (qw_X10_readPrimary_118 nn (qg_X10_readValue nn d) k dp (p : Int) (bK X q) t u) (fun uF => Z uF v)) (HF : ∀ (uF : ms_M) (v : Int × ms_M), (SFj uF v.2 ∨ VDj X i a b p q e h r uF v) → Z uF v) {l2 : Int} (hl : l2 = (p : Int)) : Pc (mx_sv x fun u => qj_X10_readPrimary_107 nn (qg_X10_readValue nn d) dp l2 u) (fun uF => Pc W (fun v => Z uF v)) := by
  subst hl
  refine p2_sa (pc_imp H (fun u Hu => pc_imp Hu (fun v hv => ?_)))
  rcases hv with (S | S) | K
  · exact pc_imp (fs_qj_X10_readPrimary_107 (fsg_X10_readValue nn d) S.1) (fun uF F => HF uF v (.inl (sf_c S F)))
  · exact pc_imp (fs_qj_X10_readPrimary_107 (fsg_X10_readValue nn d) (vd_n S)) (fun uF F => HF uF v (.inr (vd_c S F)))
  · unfold qj_X10_readPrimary_107
    refine pc_sv (c_kind Y.1 (pk_b Q K) K.1.2.1 K.1.1 K.1.2.2.2.1) ?_; intro u20 q20
    rw [q20]
    exact HC nn 0 u v K ⟨by omega, by omega⟩
/-- constants and this -/
theorem p3_pl (Y : CXs X) (ne : 0 ≤ a ∧ a ≤ e ∧ e < b) (nd : ((bT X 167 e.toNat = 20 ∧ bK X p = 3) ∨ (bT X 167 e.toNat = 21 ∧ bK X p = 28) ∨ (bT X 167 e.toNat = 22 ∧ bK X p = 17) ∨ (bT X 167 e.toNat = 23 ∧ bK X p = 22) ∨ (bT X 167 e.toNat = 24 ∧ bK X p = 26)) ∧ bT X 168 e.toNat = (p : Int)) (hq : q = p + 1) : P3 nn X dp 0 a b p q e := by
  intro d d2 h r Z Q b57 _ HC HF
  subst hq
  have Q0 := Q
  obtain ⟨B, ⟨q1, q2, q3, q4⟩, ⟨f1, f2, f3⟩, o1⟩ := Q0
  have TB : TBc (bK X) (bP X) (bc X) h := B.1.1.1.1
  have BK := Y.1
  have c3 := BK.2.1
  have p1 : p + 1 < bc X := jp_lt BK q2 (by omega)
  have b57' : 0 ≤ r 160 57 ∧ r 160 57 ≤ 10000 := by omega
  unfold qo_X10_readPrimary
  refine pc_sv (c_kind BK TB q2 q1 q3) ?_; intro u25 q25
  refine pc_if (fun z => absurd z (by omega)) (fun _ => ?_)
  refine pc_if (fun z => absurd z (by omega)) (fun _ => ?_)
  refine pc_if (fun z => absurd z (by omega)) (fun _ => ?_)
  refine p3_fin Y Q ?_ HC HF q1
  unfold qf_X10_readConstant
  rw [q1]
  refine pc_add (by omega) ?_; intro v5 e5
  refine pc_xl ?_; intro h6 e6
  rw [show v5 = ((p + 1 : Nat) : Int) by omega] at e6
  have TB6 : TBc (bK X) (bP X) (bc X) h6 := tbc_k TB (fun cc y z => by rw [e6, up_n (by omega)])
  refine pc_sv (c_kindAt BK TB6 (t := p) rfl) ?_; intro u9 q9
  refine pc_if (fun z => ?_) (fun z => ?_)
  · refine pc_sv (c_valAt TB6 q2 c3.2 (x := (p : Int)) rfl) ?_; intro u14 q14
    rw [e6, up_n (by omega)] at q14
    rw [e6]
    refine pc_sv (P := fun u => Pc ((qg_X13_condition nn d2).2.2.1 e r) (fun v => POk nn X 0 a b p (p + 1) e h r u v)) (p_num Y Q b57' ne ⟨by omega, nd.2⟩ (by omega) p1 d2 q14) ?_; intro u16 q16
    exact pc_ret (pc_imp q16 (fun v k => .inr k))
  · refine pc_if (fun z2 => ?_) (fun z2 => ?_)
    · rw [e6]
      exact pc_imp (p_yes (k := 0) Y Q b57' ne (.inr (.inl ⟨by omega, by omega, rfl, rfl⟩)) p1 d2) (fun u qu => pc_imp qu (fun v k => .inr k))
    · refine pc_if (fun z3 => ?_) (fun z3 => ?_)
      · rw [e6]
        exact pc_imp (p_yes (k := 0) Y Q b57' ne (.inr (.inr ⟨by omega, by omega, rfl, rfl⟩)) p1 d2) (fun u qu => pc_imp qu (fun v k => .inr k))
      · refine pc_if (fun z4 => ?_) (fun z4 => ?_)
        · rw [e6]
          exact pc_imp (p_yes (k := 0) Y Q b57' ne (.inl ⟨by omega, by omega, rfl, rfl⟩) p1 d2) (fun u qu => pc_imp qu (fun v k => .inr k))
        · rw [e6]
          refine pc_sv (P := fun u => Pc ((qg_X13_condition nn d2).2.2.1 e r) (fun v => SFj u v.2 ∨ POk nn X 0 a b p (p + 1) e h r u v)) (p_this Y Q b57' ne ⟨by omega, nd.2⟩ (by omega) p1 d2 rfl) ?_; intro u11 q11
          exact pc_ret (pc_imp q11 (fun v k => k.elim (fun y => .inl (.inl y)) .inr))
/-- the class's field first is set -/
theorem pok_c {u2 : ms_M} (K : POk nn X i a b p q e h r u v) (E : ∀ cc x : Nat, ¬ (cc = 49 ∧ x = 15) → u2 cc x = u cc x) : POk nn X i a b p q e h r u2 v := by
  obtain ⟨⟨k1, k2, k3, k4, k5⟩, ⟨k6, k7, k8⟩, ⟨k9, k10, k11⟩, ⟨k12, k13, k14⟩, FM⟩ := K
  have e10 := E 2 10 (by omega)
  have e11 := E 2 11 (by omega)
  have t12 := E 49 12 (by omega)
  have f11 := E 49 11 (by omega)
  have f13 := E 49 13 (by omega)
  have f14 := E 49 14 (by omega)
  have l1 := E 34 1 (by omega)
  have l3 := E 34 3 (by omega)
  have MC : ∀ {e' a' b' : Int} {p' q' : Nat} {h' v' : ms_M}, MKC nn X e' a' b' p' q' h' u v' → MKC nn X e' a' b' p' q' h' u2 v' := fun M d PB WL L m M1 A z1 z2 => pc_imp (M d PB WL L m M1 A z1 z2) (fun w y => ⟨mkx_c y.1 (fun cc x z1 z2 z3 => E cc x (by omega)), y.2⟩)
  refine ⟨⟨by rw [e10]; exact k1, k2, k3, by rw [e11]; exact k4, k5⟩, ⟨by rw [t12]; exact k6, by rw [t12]; exact k7, k8⟩, ⟨fun cc x a1 a2 a3 a4 a5 a6 a7 a8 => by rw [E cc x (by omega)]; exact k9 cc x a1 a2 a3 a4 a5 a6 a7 a8, k10, ⟨by rw [E 49 10 (by omega)]; exact k11.1, fun cc x z1 z2 z3 => by rw [E cc x (by omega)]; exact k11.2 cc x z1 z2 z3⟩⟩, ⟨frc_k k12 (fun cc x z => E cc x (by omega)), by rw [l1]; exact k13, by rw [l3]; exact k14⟩, ?_⟩
  rcases FM with ⟨F1, F2, F3⟩ | ⟨F1, F2, F3⟩ | ⟨F1, F2, F3⟩ | ⟨F1, F2, t, g, F3, F4, F5⟩
  · exact .inl ⟨by rw [f11, t12, E 49 18 (by omega)]; exact F1, F2, fun z => ⟨by rw [l3, t12, E 36 _ (by omega)]; exact (F3 z).1, MC (F3 z).2⟩⟩
  · exact .inr (.inl ⟨by rw [f11]; exact F1, by rw [f14, t12]; exact F2, fun cc x z => by rw [E cc x (by rcases z with z | z | z <;> first | (unfold RLc at z; omega) | omega)]; exact F3 cc x z⟩)
  · refine .inr (.inr (.inl ⟨by rw [f11, f13, t12]; exact F1, by rw [f14, l3, l1]; exact F2, ?_⟩))
    rcases F3 with ⟨y1, y2, y3⟩ | ⟨y1, y2, y3, y4⟩
    · exact .inl ⟨y1, by rw [f13]; exact y2, fun PB WL L m M => pc_imp (y3 PB WL L m M) (fun w z => ⟨mkx_c z.1 (fun cc x z1 z2 z3 => E cc x (by omega)), z.2⟩)⟩
    · exact .inr ⟨y1, y2, by rw [f13]; exact y3, MC y4⟩
  · exact .inr (.inr (.inr ⟨by rw [f11, t12]; exact F1, by rw [l3, l1]; exact F2, t, g, F3, F4, MC F5⟩))
/-- a U that is a P -/
theorem e2_up (Y : CXs X) (ne : 0 ≤ a ∧ a ≤ e ∧ e < b) (hd : dp ≤ 40) (H : P3 nn X dp i a b p q e) (nk : ¬ CST (bK X) (p : Int) ∧ ¬ bK X p = 62 ∧ ¬ bK X p = 71 ∧ ¬ bK X p = 72 ∧ ¬ bK X q = 48 ∧ ¬ bK X q = 44) : E2 nn X dp i a b p q e := by
  intro d d2 h r Q b57
  obtain ⟨n1, n2, n3, n4, n5, n6⟩ := nk
  have Q0 := Q
  obtain ⟨B, ⟨q1, q2, q3, q4⟩, -, -⟩ := Q0
  have TB : TBc (bK X) (bP X) (bc X) h := B.1.1.1.1
  have BK := Y.1
  cases d with
  | zero => exact pc_none
  | succ d =>
    show Pc (qo_X10_readUnary nn (qg_X10_readValue nn d) dp h) _
    unfold qo_X10_readUnary
    refine pc_if (fun _ => ?_) (fun z => absurd (by omega) z)
    refine pc_sv (c_kind BK TB q2 q1 q3) ?_; intro u15 q15
    refine pc_if (fun z => absurd z (by omega)) (fun _ => ?_)
    refine pc_if (fun z => absurd z (by omega)) (fun _ => ?_)
    refine pc_if (fun _ => ?_) (fun z => absurd (show ¬ u15 = 71 by omega) z)
    refine pc_sv (c_cast BK TB q2 q1 q3) ?_; intro u18 q18
    rcases q18 with ⟨-, z⟩ | ⟨z, -⟩
    · exact absurd z n1
    · refine pc_if (fun _ => ?_) (fun y => absurd z y)
      rw [q1]
      cases d with
      | zero => exact pc_none
      | succ d =>
        refine p2_sa ?_
        refine H d d2 h r (fun uF v => Pc (qj_X10_readUnary_116 nn (qg_X10_readValue nn (d + 1)) (p : Int) uF) (fun u => (SFj u v.2 ∨ VDj X i a b p q e h r u v) ∨ EOk nn X i a b p q e h r u v)) Q b57 (fun z => absurd z n5) (fun k t u v K ht => ?_) (fun uF v S => ?_)
        · have FIN : ∀ u2 : ms_M, POk nn X i a b p q e h r u2 v → (¬ bK X q = 51 → u2 49 11 = 0 ∨ u2 49 11 = 1) → Pc (qj_X10_readUnary_116 nn (qg_X10_readValue nn (d + 1)) (p : Int) u2) (fun u => (SFj u v.2 ∨ VDj X i a b p q e h r u v) ∨ EOk nn X i a b p q e h r u v) := fun u2 K2 F2 => by
            unfold qj_X10_readUnary_116
            refine pc_xl ?_; intro h1 e1
            have E : ∀ cc x : Nat, ¬ (cc = 49 ∧ x = 15) → h1 cc x = u2 cc x := fun cc x z => by rw [e1, up_n z]
            refine pc_ret (.inr ⟨?_, by rw [e1, up_s], by rw [E 49 11 (by omega)]; exact F2⟩)
            exact pok_c K2 E
          have G176 : Pc (qj_X10_readPrimary_176 nn (qg_X10_readValue nn d) (bK X q) u) (fun uF => Pc (qj_X10_readUnary_116 nn (qg_X10_readValue nn (d + 1)) (p : Int) uF) (fun u => (SFj u v.2 ∨ VDj X i a b p q e h r u v) ∨ EOk nn X i a b p q e h r u v)) := by
            unfold qj_X10_readPrimary_176
            refine pc_if (fun z => pc_ret (FIN u K (fun y => absurd z y))) (fun z => ?_)
            refine pc_sv (p_fetch Y Q ne K z) ?_; intro u2 ⟨K2, F2⟩
            exact pc_ret (FIN u2 K2 (fun _ => F2))
          cases k with
          | zero => exact pc_none
          | succ k =>
            unfold qw_X10_readPrimary_118
            refine pc_if (fun _ => G176) (fun _ => ?_)
            refine pc_if (fun z => absurd z n5) (fun _ => ?_)
            exact pc_if (fun _ => G176) (fun z => absurd n6 z)
        · rcases S with S | S
          · exact pc_imp (fs_qj_X10_readUnary_116 (fsg_X10_readValue nn (d + 1)) S.1) (fun u F => .inl (.inl (sf_c S F)))
          · exact pc_imp (fs_qj_X10_readUnary_116 (fsg_X10_readValue nn (d + 1)) (vd_n S)) (fun u F => .inl (.inr (vd_c S F)))
end
