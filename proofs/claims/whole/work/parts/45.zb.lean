/- E of both sides: numbers -/
section
variable {nn : Nat} {X : BCx} {dp i a b e t : Int} {p q : Nat} {h g g2 u r v w m : ms_M}
/-- MK knows the pools -/
theorem mk_pl {PB : Nat → Prop} {WL : Int → Int → Prop} {L : List (Int × Int)} (M : MKx X PB WL L h m) : PLR h m ∧ MBd m ∧ SPL m [] ∧ TXE (bK X) (bV X) (bC X) (bW X) (bn X) (bA X) (bB X) h m := by
  obtain ⟨⟨-, -, -, ⟨-, -, ⟨p1, p2, p3⟩, t, -⟩⟩, -⟩ := M
  exact ⟨p1, p2, p3, t⟩
/-- .. also behind a byte -/
theorem mk_plp {PB : Nat → Prop} {WL : Int → Int → Prop} {L : List (Int × Int)} {o : Int} (M : MKx X PB WL L h m) (B : RPt o m w) : PLR h w ∧ MBd w ∧ SPL w [] ∧ TXE (bK X) (bV X) (bC X) (bW X) (bn X) (bA X) (bB X) h w := by
  obtain ⟨p1, p2, p3, p4⟩ := mk_pl M
  have E : ∀ cc x : Nat, ¬ (cc = 160 ∧ x = 68) → ¬ cc = 206 → w cc x = m cc x := fun cc x z1 z2 => B.2.2 cc x z1 (by omega)
  exact ⟨plr_k p1 (fun _ _ _ => rfl) (fun cc y z => E cc y (by omega) (by omega)), ⟨by rw [E 160 62 (by omega) (by omega)]; exact p2.1, by rw [E 160 64 (by omega) (by omega)]; exact p2.2⟩, spl_k p3 (fun cc y z => E cc y (by omega) (by omega)), txe_k p4 (fun _ _ _ => rfl) (fun cc y z => E cc y (by omega) (by omega))⟩
theorem spl_c {t x y z : Int} (S : SPL m []) : Pc (qf_X13_constant nn t x y z m) (fun w => SPL w.2 []) := fun w ew => spl_k S (fun cc k q => ff_X13_constant nn w ew cc k (nw_of (by unfold wl_X13_constant; simp only [List.mem_cons, List.not_mem_nil, or_false]; omega) (by unfold wf_X13_constant; simp only [List.mem_cons, List.not_mem_nil, or_false, Prod.mk.injEq]; omega)))
/-- the class's pool leaves all else -/
theorem c_cfr {t x : Int} : Pc (qf_X6_constant nn t x h) (fun u => ∀ cc y : Nat, ¬ (cc = 45 ∧ (y = 4 ∨ y = 5)) → ¬ cc = 46 → ¬ cc = 47 → u.2 cc y = h cc y) := fun u eu cc y z1 z2 z3 => ff_X6_constant nn u eu cc y (nw_of (by unfold wl_X6_constant; simp only [List.mem_cons, List.not_mem_nil, or_false]; omega) (by unfold wf_X6_constant; simp only [List.mem_cons, List.not_mem_nil, or_false, Prod.mk.injEq]; omega))
theorem c_num {x : Int} (hx : 0 ≤ x ∧ x ≤ 2147483647) (l1 : 0 ≤ h 34 1 ∧ h 34 1 ≤ 1000000) (l3 : 0 ≤ h 34 3 ∧ h 34 3 ≤ 1000000) : Pc (qf_X10_readNumber nn x h) (fun u => ∃ g g2, CPu 301 g g2 ∧ u = up_M (up_M g2 49 12 301) 49 11 0 ∧ (h 34 1 ≤ g 34 1 ∧ g 34 1 ≤ h 34 1 + 2) ∧ (∀ cc y : Nat, ¬ (cc = 34 ∧ y = 1) → ¬ cc = 35 → ¬ (cc = 45 ∧ (y = 4 ∨ y = 5)) → ¬ (cc = 46 ∨ cc = 47) → g cc y = h cc y) ∧ ∀ (PB : Nat → Prop) (WL : Int → Int → Prop) (L : List (Int × Int)) (m : ms_M) (k : Int), MKx X PB WL L h m → m 166 k.toNat = x → Pc (qf_X13_number nn k m) (fun w => MKx X PB WL L u w ∧ w 160 88 = m 160 88)) := by
  have FIN : ∀ g : ms_M, g 34 3 = h 34 3 → (h 34 1 ≤ g 34 1 ∧ g 34 1 ≤ h 34 1 + 2) → (∀ cc y : Nat, ¬ (cc = 34 ∧ y = 1) → ¬ cc = 35 → ¬ (cc = 45 ∧ (y = 4 ∨ y = 5)) → ¬ (cc = 46 ∨ cc = 47) → g cc y = h cc y) → (∀ (PB : Nat → Prop) (WL : Int → Int → Prop) (L : List (Int × Int)) (m : ms_M) (k : Int) (Z : ms_M → Prop), MKx X PB WL L h m → m 166 k.toNat = x → (∀ w : ms_M, MKx X PB WL L g w → w 160 88 = m 160 88 → Pc (qj_X13_number_60 nn w) Z) → Pc (qf_X13_number nn k m) Z) → Pc (qj_X10_readNumber_54 nn g) (fun u => ∃ g g2, CPu 301 g g2 ∧ u = up_M (up_M g2 49 12 301) 49 11 0 ∧ (h 34 1 ≤ g 34 1 ∧ g 34 1 ≤ h 34 1 + 2) ∧ (∀ cc y : Nat, ¬ (cc = 34 ∧ y = 1) → ¬ cc = 35 → ¬ (cc = 45 ∧ (y = 4 ∨ y = 5)) → ¬ (cc = 46 ∨ cc = 47) → g cc y = h cc y) ∧ ∀ (PB : Nat → Prop) (WL : Int → Int → Prop) (L : List (Int × Int)) (m : ms_M) (k : Int), MKx X PB WL L h m → m 166 k.toNat = x → Pc (qf_X13_number nn k m) (fun w => MKx X PB WL L u w ∧ w 160 88 = m 160 88)) := fun g g3 g1 G NM => by
    unfold qj_X10_readNumber_54
    refine pc_sv (c_give (by omega)) ?_; intro u2 ⟨g2, b1, b2⟩
    refine pc_ret ⟨g, g2, b1, b2, g1, G, fun PB WL L m k M ek => ?_⟩
    refine NM PB WL L m k _ M ek (fun w Mw w8 => ?_)
    unfold qj_X13_number_60
    refine pc_sv r_push ?_; intro u2' q2
    exact pc_ret ⟨mkx_give Mw b1 q2 ⟨rfl, .inl rfl, by decide⟩ b2, by rw [q2.2.2.2.2 160 88 (by omega) (by omega)]; exact w8⟩
  unfold qf_X10_readNumber
  refine pc_if (fun z5 => ?_) (fun z5 => ?_)
  · refine pc_if (fun z7 => ?_) (fun z7 => ?_)
    · unfold qf_X6_numberOf
      refine pc_sv (pc_sv (pc_and c_cfr (fun u eu => eu)) (fun k hk => pc_ret (Q := fun y : Int × ms_M => (∀ cc z : Nat, ¬ (cc = 45 ∧ (z = 4 ∨ z = 5)) → ¬ cc = 46 → ¬ cc = 47 → y.2 cc z = h cc z) ∧ qf_X6_constant nn 2 x h = some y) hk)) ?_; intro u6 ⟨G6, e6⟩
      refine pc_sv (c_op2 (by rw [G6 34 1 (by omega) (by omega) (by omega)]; omega)) ?_; intro u8 ⟨g1, A1, A2⟩
      have l6 := G6 34 1 (by omega) (by omega) (by omega)
      refine FIN u8 (by rw [A2.2.2 34 3 (by omega) (by omega), A1.2.2 34 3 (by omega) (by omega)]; exact G6 34 3 (by omega) (by omega) (by omega)) (by rw [A2.1, A1.1]; omega) (fun cc y z1 z2 z3 z4 => by rw [A2.2.2 cc y (by omega) (by omega), A1.2.2 cc y (by omega) (by omega)]; exact G6 cc y z3 (by omega) (by omega)) (fun PB WL L m k Z M ek TT => ?_)
      obtain ⟨-, -, ⟨m1, m2, m3, m4⟩, -⟩ := mk_t M
      unfold qf_X13_number
      refine pc_rA ?_; intro _ _ v4 e4
      rw [ek] at e4
      rw [e4]
      refine pc_if (fun _ => ?_) (fun z => absurd z5 z)
      refine pc_if (fun _ => ?_) (fun z => absurd z7 z)
      refine pc_sv (r_put (by omega)) ?_; intro w6 q6
      obtain ⟨p1, p2, p3, p4⟩ := mk_plp M q6
      refine pc_sv (pc_and ((j_const (t := 2) (x := x) (a := x) (b := 0) (c := 0) (.inl ⟨.inl rfl, rfl, rfl, rfl⟩) p1 p2) u6 e6) (spl_c p3)) ?_; intro w8 ⟨PC, SP⟩
      refine pc_sv (r_put (by rw [PC.2.2.2.2.1 160 68 (by omega) (by omega), q6.1]; omega)) ?_; intro w10 q10
      refine TT w10 (mk_opc M q6 PC SP A1 A2 q10 (by unfold in_R; omega)) ?_
      rw [q10.2.2 160 88 (by omega) (by omega), PC.2.2.2.2.1 160 88 (by omega) (by omega), q6.2.2 160 88 (by omega) (by omega)]
    · refine pc_sv (c_op2 l1) ?_; intro u8 ⟨g1, A1, A2⟩
      refine FIN u8 (by rw [A2.2.2 34 3 (by omega) (by omega), A1.2.2 34 3 (by omega) (by omega)]) (by rw [A2.1, A1.1]; omega) (fun cc y z1 z2 z3 z4 => by rw [A2.2.2 cc y (by omega) (by omega), A1.2.2 cc y (by omega) (by omega)]) (fun PB WL L m k Z M ek TT => ?_)
      obtain ⟨-, -, ⟨m1, m2, m3, m4⟩, -⟩ := mk_t M
      unfold qf_X13_number
      refine pc_rA ?_; intro _ _ v4 e4
      rw [ek] at e4
      rw [e4]
      refine pc_if (fun _ => ?_) (fun z => absurd z5 z)
      refine pc_if (fun z => absurd z z7) (fun _ => ?_)
      refine pc_sv (r_put (by omega)) ?_; intro w6 q6
      refine pc_sv (r_put (by rw [q6.1]; omega)) ?_; intro w8 q8
      refine TT w8 (mk_op (mk_op M A1 q6 (fun _ => rfl) (by unfold in_R; omega)) A2 q8 (fun _ => rfl) (by unfold in_R; omega)) ?_
      rw [q8.2.2 160 88 (by omega) (by omega), q6.2.2 160 88 (by omega) (by omega)]
  · refine pc_add (by omega) ?_; intro v14 e14
    refine pc_sv (c_op (by omega)) ?_; intro u16 A1
    refine FIN u16 (A1.2.2 34 3 (by omega) (by omega)) (by rw [A1.1]; omega) (fun cc y z1 z2 z3 z4 => A1.2.2 cc y (by omega) (by omega)) (fun PB WL L m k Z M ek TT => ?_)
    obtain ⟨-, -, ⟨m1, m2, m3, m4⟩, -⟩ := mk_t M
    unfold qf_X13_number
    refine pc_rA ?_; intro _ _ v4 e4
    rw [ek] at e4
    rw [e4]
    refine pc_if (fun z => absurd z z5) (fun _ => ?_)
    refine pc_add (by omega) ?_; intro v16 e16
    refine pc_sv (r_put (by omega)) ?_; intro w6 q6
    refine TT w6 (mk_op M A1 q6 (fun _ => by omega) (by unfold in_R; omega)) ?_
    rw [q6.2.2 160 88 (by omega) (by omega)]
theorem p_num (Y : CXs X) (Q : EPr X dp p h r) (b57 : 0 ≤ r 160 57 ∧ r 160 57 ≤ 10000) (ne : 0 ≤ a ∧ a ≤ e ∧ e < b) (nd : bT X 167 e.toNat = 20 ∧ bT X 168 e.toNat = (p : Int)) (kp : bK X p = 3) (p1 : p + 1 < bc X) (d : Nat) {x : Int} (hx : x = h 5 p) : Pc (qf_X10_readNumber nn x (up_M h 2 10 ((p + 1 : Nat) : Int))) (fun u => Pc ((qg_X13_condition nn d).2.2.1 e r) (fun v => POk nn X 0 a b p (p + 1) e h r u v)) := by
  have Q0 := Q
  obtain ⟨B, ⟨q1, q2, q3, q4⟩, ⟨f1, f2, f3⟩, o1⟩ := Q0
  have T : ∀ cc : Nat, 163 ≤ cc ∧ cc ≤ 173 → r cc e.toNat = bT X cc e.toNat := fun cc z => B.2.2.2.2.2.1 cc e.toNat (by omega)
  have p3 := Y.1.2.1
  have xv : x = bT X 166 p := by rw [hx]; exact B.2.2.2.2.1 p q2 kp
  have xr := Y.2.2.2.2.2.1 p q2 kp
  have nl : ¬ bT X 167 e.toNat = 30 ∧ ¬ bT X 167 e.toNat = 31 ∧ ¬ bT X 167 e.toNat = 32 ∧ ¬ bT X 167 e.toNat = 37 ∧ ¬ bT X 167 e.toNat = 38 := by omega
  refine pc_imp (c_num (X := X) (by omega) (by rw [up_n (by omega)]; omega) (by rw [up_n (by omega)]; omega)) (fun u Z => ?_)
  obtain ⟨g, g2, CP, eu, l1, G, NM⟩ := Z
  rw [up_n (by omega)] at l1
  have G2 : ∀ cc y : Nat, ¬ (cc = 34 ∧ y = 1) → ¬ cc = 35 → ¬ (cc = 45 ∧ (y = 4 ∨ y = 5)) → ¬ (cc = 46 ∨ cc = 47) → ¬ (cc = 2 ∧ y = 10) → g cc y = h cc y := fun cc y z1 z2 z3 z4 z5 => by rw [G cc y z1 z2 z3 z4, up_n z5]
  refine w_one b57 q4 (r_nled (by rw [T 167 (by omega)]; exact nl)) (fun d => ?_) d
  unfold qo_X13_rule
  refine pc_rA ?_; intro _ _ v83 e83
  rw [T 167 (by omega), nd.1] at e83
  rw [e83]
  refine pc_if (fun _ => ?_) (fun z => absurd rfl z)
  have vt : VTn (bn X) 301 ∧ ¬ (301 : Int) = 303 := ⟨.inl rfl, by decide⟩
  refine pc_ret (fun zz ez => ⟨fun _ => ?_, fun y => absurd (by rw [ez, up_n (by omega)]; exact q4) y⟩)
  have u11 : u 49 11 = 0 := by rw [eu, up_s]
  have u12 : u 49 12 = 301 := by rw [eu, up_n (by omega), up_s]
  have u3 : u 34 3 = h 34 3 + 1 := by rw [eu, up_n (by omega), up_n (by omega), CP.1, G2 34 3 (by omega) (by omega) (by omega) (by omega) (by omega)]
  refine pok_give (t := 301) (g := g) (v := r) Q ⟨p1, by omega⟩ ne ?_ ?_ ?_ ?_ ?_ ?_ ?_ CP eu vt rfe_r q4 (by rw [ez]; rfl) ?_
  · exact fun cc x a1 a2 a3 a4 a5 a6 a7 a8 => G2 cc x (by omega) (by omega) (by omega) (by omega) (by omega)
  · exact ⟨G2 49 10 (by omega) (by omega) (by omega) (by omega) (by omega), fun cc x z1 z2 z3 => G2 cc x (by omega) (by omega) (by omega) (by omega) (by omega)⟩
  · rw [G 2 10 (by omega) (by omega) (by omega) (by omega), up_s]
  · rw [G2 2 11 (by omega) (by omega) (by omega) (by omega) (by omega)]; exact q3
  · exact frc_k f1 (fun cc x z => G2 cc x (by omega) (by omega) (by omega) (by omega) (by omega))
  · omega
  · rw [G2 34 3 (by omega) (by omega) (by omega) (by omega) (by omega)]; omega
  · refine ⟨.inr ⟨u11, by omega, by rw [u12]; exact vt.2⟩, fun _ => .inl ⟨by omega, by omega, fun z => absurd z nl.1⟩, fun _ => ⟨⟨by rw [u12, if_neg vt.2]; exact u3, top_g CP (by rw [G2 34 3 (by omega) (by omega) (by omega) (by omega) (by omega)]; omega) eu⟩, ?_⟩⟩
    refine mkc_leaf nl ne (fun PB WL L m d M A => ?_) (by omega)
    have MT := (mk_t M).1
    have M1 : MKx X PB WL L (up_M h 2 10 ((p + 1 : Nat) : Int)) m := mkx_c M (fun cc x z1 z2 z3 => up_n (by omega))
    unfold qo_X13_workOne
    refine pc_rA ?_; intro _ _ v59 e59
    refine pc_rA ?_; intro _ _ v61 e61
    rw [MT 167 e.toNat (by omega), nd.1] at e61
    rw [e61]
    refine pc_if (fun _ => ?_) (fun z => absurd rfl z)
    refine pc_rA ?_; intro _ _ v100 e100
    rw [MT 168 e.toNat (by omega), nd.2] at e100
    refine pc_sv (NM PB WL L m v100 M1 (by rw [MT 166 _ (by omega), e100, Int.toNat_natCast]; exact xv.symm)) ?_; intro u102 q102
    exact pc_ret q102
end
