/- E of both sides: a sign is closed (all but && and ||) -/
/-- two that may be held against each other -/
def PRt (X : BCx) (s t : Int) : Prop := ((s = 300 ∨ (0 ≤ s ∧ s ≤ 200)) ∧ (t = 300 ∨ (0 ≤ t ∧ t ≤ 200)) ∧ (FTS (bB X 180) s t ∨ FTS (bB X 180) t s)) ∨ (s = t ∧ (s = 301 ∨ s = 302))
/-- the types are right for the sign k -/
def OKt (X : BCx) (k s t : Int) : Prop := ((k = 52 ∨ k = 53) ∧ PRt X s t) ∨ ((54 ≤ k ∧ k ≤ 57) ∧ s = 301 ∧ t = 301) ∨ ((58 ≤ k ∧ k ≤ 65) ∧ s = t ∧ t = 301) ∨ ((k = 66 ∨ k = 68 ∨ k = 70) ∧ s = t ∧ (t = 301 ∨ t = 302))
def rt_T (k t : Int) : Int := if k < 58 then 302 else t
/-- signs of two sides that are not short -/
def SGk (k : Int) : Prop := (k = 52 ∨ k = 53) ∨ (54 ≤ k ∧ k ≤ 57) ∨ (58 ≤ k ∧ k ≤ 65) ∨ (k = 66 ∨ k = 68 ∨ k = 70)
def aop_T (k : Int) : Int := if k = 58 then 120 else (if k = 59 then 122 else (if k = 60 then 124 else (if k = 61 then 96 else (if k = 62 then 100 else (if k = 63 then 104 else (if k = 64 then 108 else (if k = 65 then 112 else (if k = 66 then 126 else (if k = 68 then 128 else 130)))))))))
def cm_T (k n : Int) : Int := if k = 52 then (if n = 0 then 165 else 159) else (if k = 53 then (if n = 0 then 166 else 160) else (if k = 54 then 161 else (if k = 56 then 163 else (if k = 57 then 162 else 164))))
/-- what closing leaves in the class -/
def CSr (X : BCx) (pp rt : Int) (u2 u : ms_M) : Prop := (∀ cc x : Nat, ¬ (cc = 34 ∧ (x = 1 ∨ x = 3 ∨ x = 4 ∨ x = 14 ∨ x = 15)) → ¬ (cc = 35 ∨ cc = 36) → ¬ (40 ≤ cc ∧ cc ≤ 42) → ¬ (cc = 49 ∧ (x = 10 ∨ x = 11 ∨ x = 12 ∨ x = 15)) → u cc x = u2 cc x) ∧ FRc u ∧ ((u2 34 1 ≤ u 34 1 ∧ u 34 1 ≤ u2 34 1 + 10) ∧ (0 ≤ u 34 3 ∧ u 34 3 ≤ u2 34 3 + 1) ∧ (2 ≤ u2 34 3 → u 34 3 = u2 34 3 - 1)) ∧ (u 49 10 = u2 49 10 - 1 ∧ u 49 11 = 0 ∧ u 49 12 = rt ∧ u 49 15 = pp) ∧ (u 49 12 = 303 ∨ 20 < u 34 3 ∨ u 36 (u 34 3 - 1).toNat = u 49 12)
/-- .. and in the making -/
def CSm (nn : Nat) (X : BCx) (k t : Int) (u2 u : ms_M) : Prop := 2 ≤ u2 34 3 → ∀ (PB : Nat → Prop) (WL : Int → Int → Prop) (L : List (Int × Int)) (w : ms_M), MKx X PB WL L u2 w → w 160 88 ≤ 2050000000 → (k < 58 → ∀ n : Int, ((t = 301 ∨ t = 302) → ¬ n = 0) → (¬ (t = 301 ∨ t = 302) → n = 0) → Pc (qf_X13_truth nn (cm_T k n) 2 w) (fun w2 => MKx X PB WL L u w2 ∧ (w 160 88 ≤ w2 160 88 ∧ w2 160 88 ≤ w 160 88 + 2))) ∧ (58 ≤ k → Pc (mx_sv (qf_X13_put nn (aop_T k) w) fun u59 => mx_sv (qf_X13_turn nn 2 (ty_T t) u59) fun u63 => some u63) (fun w2 => MKx X PB WL L u w2 ∧ (w 160 88 ≤ w2 160 88 ∧ w2 160 88 ≤ w 160 88 + 2)))
section
variable {nn : Nat} {X : BCx} {dp i l a b e s t k : Int} {p q : Nat} {h g u r w m : ms_M} {v : Int × ms_M}
theorem st_dis (h : 0 ≤ st_T k) : k = 19 ∨ (52 ≤ k ∧ k ≤ 70) := Classical.byContradiction fun z => by
  have := st_no (k := k) ⟨by omega, by omega, by omega, by omega, by omega, by omega, by omega, by omega, by omega, by omega, by omega, by omega, by omega, by omega, by omega, by omega, by omega, by omega, by omega, by omega⟩
  omega
theorem sgk_of (h : 0 ≤ st_T k) (n : ¬ k = 19 ∧ ¬ k = 67 ∧ ¬ k = 69) : SGk k := by
  have := st_dis h
  unfold SGk
  omega
theorem c_isPair (Y : CXs X) (B : BX X h r) (vs : VTn (bn X) s) (vt : VTn (bn X) t) : Pc (qf_X10_isPair nn s t h) (fun u => (u = 1 ∧ PRt X s t) ∨ (u = 0 ∧ ¬ PRt X s t)) := by
  have IR : ∀ s : Int, Pc (qf_X4_isReference nn s h) (fun u => (u = 1 ∧ (s = 300 ∨ (0 ≤ s ∧ s ≤ 200))) ∨ (u = 0 ∧ ¬ (s = 300 ∨ (0 ≤ s ∧ s ≤ 200)))) := fun s => by
    unfold qf_X4_isReference
    refine pc_if (fun z => pc_ret (.inl ⟨rfl, .inl z⟩)) (fun z => ?_)
    refine pc_if (fun z2 => pc_ret (.inr ⟨rfl, by omega⟩)) (fun z2 => ?_)
    exact pc_if (fun z3 => pc_ret (.inr ⟨rfl, by omega⟩)) (fun z3 => pc_ret (.inl ⟨rfl, by omega⟩))
  have P24 : ¬ ((s = 300 ∨ (0 ≤ s ∧ s ≤ 200)) ∧ (t = 300 ∨ (0 ≤ t ∧ t ≤ 200))) → Pc (qj_X10_isPair_24 nn s t h) (fun u => (u = 1 ∧ PRt X s t) ∨ (u = 0 ∧ ¬ PRt X s t)) := fun nr => by
    unfold qj_X10_isPair_24
    refine pc_if (fun z => pc_ret (.inr ⟨rfl, fun f => ?_⟩)) (fun z => ?_)
    · rcases f with ⟨f1, f2, -⟩ | ⟨f1, -⟩
      · exact nr ⟨f1, f2⟩
      · exact z f1
    · have e1 : s = t := Classical.byContradiction z
      refine pc_sv c_isNum ?_; intro u1 q1
      refine pc_if (fun z1 => pc_ret (.inr ⟨rfl, fun f => ?_⟩)) (fun z1 => pc_ret (.inl ⟨rfl, .inr ⟨e1, ?_⟩⟩))
      · rcases f with ⟨f1, f2, -⟩ | ⟨-, f2⟩
        · exact nr ⟨f1, f2⟩
        · omega
      · omega
  unfold qf_X10_isPair
  refine pc_sv (IR s) ?_; intro u4 q4
  refine pc_if (fun z => P24 (fun y => by have := y.1; omega)) (fun z => ?_)
  refine pc_sv (IR t) ?_; intro u5 q5
  refine pc_if (fun z2 => P24 (fun y => by have := y.2; omega)) (fun z2 => ?_)
  have rs : s = 300 ∨ (0 ≤ s ∧ s ≤ 200) := by omega
  have rt : t = 300 ∨ (0 ≤ t ∧ t ≤ 200) := by omega
  refine pc_sv (c_fit1 Y B vs vt) ?_; intro u8 q8
  refine pc_ck (fun _ => pc_ret ?_)
  rcases q8 with ⟨y1, y2⟩ | ⟨y1, y2⟩
  · exact .inl ⟨y1, .inl ⟨rs, rt, y2⟩⟩
  · refine .inr ⟨y1, fun f => ?_⟩
    rcases f with ⟨-, -, f⟩ | ⟨-, f⟩
    · exact y2 f
    · omega
theorem r_goP (Y : CXs X) (e8 : r 180 = bB X 180) (vs : VTn (bn X) s ∧ ¬ s = 303) (vt : VTn (bn X) t ∧ ¬ t = 303) : Pc (qf_X13_goTogether nn (ty_T s) (ty_T t) r) (fun u => (u = 1 ∧ PRt X s t) ∨ (u = 0 ∧ ¬ PRt X s t)) := by
  have cs := ty_c (vtn_v Y.2.2.1 vs.1)
  have ct := ty_c (vtn_v Y.2.2.1 vt.1)
  refine pc_imp (r_goT Y e8 vs.1 vt.1) (fun u hu => ?_)
  rcases hu with ⟨y1, y2⟩ | ⟨y1, y2⟩
  · refine .inl ⟨y1, ?_⟩
    rcases y2 with ⟨w1, w2⟩ | ⟨w1, w2⟩
    · exact .inr ⟨w2, by omega⟩
    · exact .inl ⟨by omega, by omega, w2⟩
  · refine .inr ⟨y1, fun f => y2 ?_⟩
    rcases f with ⟨f1, f2, f3⟩ | ⟨f1, f2⟩
    · exact .inr ⟨by omega, f3⟩
    · exact .inl ⟨by omega, f1⟩
theorem c_cmp {n : Int} (hk : 52 ≤ k ∧ k ≤ 57) : Pc (qf_X10_compareOp nn k n h) (fun u => u = cm_T k n) := by
  unfold qf_X10_compareOp qj_X10_compareOp_80 cm_T
  refine pc_if (fun z => ?_) (fun z => ?_)
  · rw [if_pos z]
    exact pc_if (fun y => pc_ret (if_pos y).symm) (fun y => pc_ret (if_neg y).symm)
  rw [if_neg z]
  refine pc_if (fun z => ?_) (fun z => ?_)
  · rw [if_pos z]
    exact pc_if (fun y => pc_ret (if_pos y).symm) (fun y => pc_ret (if_neg y).symm)
  rw [if_neg z]
  refine pc_if (fun z => pc_ret (if_pos z).symm) (fun z => ?_)
  rw [if_neg z]
  refine pc_if (fun z => pc_ret (if_pos z).symm) (fun z => ?_)
  rw [if_neg z]
  exact pc_if (fun z => pc_ret (if_pos z).symm) (fun z => pc_ret (if_neg z).symm)
theorem c_arop : Pc (qf_X10_arithmeticOp nn k h) (fun u => u = aop_T k) := by
  unfold qf_X10_arithmeticOp qj_X10_arithmeticOp_91 aop_T
  iterate 9 refine pc_if (fun z => pc_ret (if_pos z).symm) (fun z => ?_); rw [if_neg z]
  exact pc_if (fun z => pc_ret (if_pos z).symm) (fun z => pc_ret (if_neg z).symm)
theorem cm_in {n : Int} : in_R (cm_T k n) := by
  unfold cm_T in_R
  split
  · split <;> omega
  split
  · split <;> omega
  split
  · omega
  split
  · omega
  split <;> omega
theorem aop_in : in_R (aop_T k) := by
  unfold aop_T in_R
  iterate 9 (split; · omega)
  split <;> omega
/-- the end of closing -/
theorem c_293 {o : Nat} (ho : h 49 10 = (o : Int)) : Pc (qj_X10_closeSign_293 nn h) (fun u => u = up_M (up_M h 49 15 (h 52 o)) 49 11 0) := by
  unfold qj_X10_closeSign_293
  refine pc_rA ?_; intro _ _ v3 e3
  rw [ho, Int.toNat_natCast] at e3
  refine pc_xl ?_; intro h4 e4
  refine pc_xl ?_; intro h5 e5
  exact pc_ret (by rw [e5, e4, e3])
/-- a truth -/
theorem c_tailT {o : Nat} {n pp : Int} {h61 u2 : ms_M} (kk : 52 ≤ k ∧ k ≤ 57) (e61 : h61 = up_M u2 49 10 (o : Int)) (ho : u2 49 10 = (o : Int) + 1) (hpp : u2 52 o = pp) (Fc : FRc u2) (l1 : 0 ≤ u2 34 1 ∧ u2 34 1 ≤ 900000) (l3 : 0 ≤ u2 34 3 ∧ u2 34 3 ≤ 2999) (h7 : 0 ≤ u2 34 7) (nt : ((t = 301 ∨ t = 302) → ¬ n = 0) ∧ (¬ (t = 301 ∨ t = 302) → n = 0)) : Pc (mx_sv (qf_X10_compareOp nn k n h61) fun u35 => mx_sv (qf_X1_truth nn u35 2 h61) fun u37 => xl (up_M u37 49 12 302) fun h38 => qj_X10_closeSign_293 nn h38) (fun u => CSr X pp 302 u2 u ∧ CSm nn X k t u2 u) := by
  have E : ∀ cc x : Nat, ¬ (cc = 49 ∧ x = 10) → h61 cc x = u2 cc x := fun cc x z => by rw [e61, up_n z]
  have a1 := E 34 1 (by omega)
  have a3 := E 34 3 (by omega)
  have F61 : FRc h61 := frc_k Fc (fun cc x z => E cc x (by omega))
  refine pc_sv (c_cmp kk) ?_; intro u35 q35
  rw [q35]
  refine pc_sv (c_truth (by omega) (by omega) (by omega) (by rw [E 34 7 (by omega)]; exact h7) F61) ?_; intro u37 ⟨CT, ⟨d1, d3⟩, F37, U⟩
  refine pc_xl ?_; intro h38 e38
  have E38 : ∀ cc x : Nat, ¬ (cc = 49 ∧ x = 12) → h38 cc x = u37 cc x := fun cc x z => by rw [e38, up_n z]
  have o38 : h38 49 10 = (o : Int) := by rw [E38 49 10 (by omega), U 49 10 (by omega) (by omega) (by omega), e61, up_s]
  refine pc_imp (c_293 o38) (fun u eu => ?_)
  have p38 : h38 52 o = pp := by rw [E38 52 o (by omega), U 52 o (by omega) (by omega) (by omega), E 52 o (by omega)]; exact hpp
  rw [p38] at eu
  have EU : ∀ cc x : Nat, ¬ (cc = 49 ∧ (x = 11 ∨ x = 12 ∨ x = 15)) → u cc x = u37 cc x := fun cc x z => by rw [eu, up_n (by omega), up_n (by omega)]; exact E38 cc x (by omega)
  have b3 : 1 ≤ u37 34 3 ∧ u37 34 3 ≤ u2 34 3 + 1 ∧ (2 ≤ u2 34 3 → u37 34 3 = u2 34 3 - 1) := by rw [d3, a3]; split <;> omega
  have f1 := EU 34 1 (by omega)
  have f3 := EU 34 3 (by omega)
  have t12 : u 49 12 = 302 := by rw [eu, up_n (by omega), up_n (by omega), e38, up_s]
  refine ⟨⟨fun cc x z1 z2 z3 z4 => by rw [EU cc x (by omega), U cc x z1 z2 z3]; exact E cc x (by omega), frc_k F37 (fun cc x z => EU cc x (by omega)), ⟨by omega, by omega, by omega⟩, ⟨?_, ?_, t12, ?_⟩, ?_⟩, fun h2 PB WL L w M lw => ⟨fun _ n2 m1 m2 => ?_, fun z => absurd z (by omega)⟩⟩
  · rw [eu, up_n (by omega), up_n (by omega), o38]; omega
  · rw [eu, up_s]
  · rw [eu, up_n (by omega), up_s]
  · rw [t12, f3, EU 36 _ (by omega)]
    exact ctr_top CT (by omega) F61
  · have en : cm_T k n2 = cm_T k n := by
      by_cases z : t = 301 ∨ t = 302
      · have y1 := m1 z
        have y2 := nt.1 z
        unfold cm_T
        rw [if_neg y1, if_neg y1, if_neg y2, if_neg y2]
      · rw [m2 z, nt.2 z]
    rw [en]
    have Mw : MKx X PB WL L h61 w := mkx_c M (fun cc x z1 z2 z3 => E cc x (by omega))
    exact pc_imp (m_truth CT Mw (by omega) cm_in (by omega) (by omega) (by omega)) (fun w2 y => ⟨mkx_c y.1 (fun cc x z1 z2 z3 => EU cc x (by omega)), by rw [y.2]; omega⟩)
/-- arithmetic -/
theorem c_tailA {o : Nat} {pp : Int} {h61 u2 : ms_M} (kk : 58 ≤ k) (Y : CXs X) (e61 : h61 = up_M u2 49 10 (o : Int)) (ho : u2 49 10 = (o : Int) + 1) (hpp : u2 52 o = pp) (Fc : FRc u2) (l1 : 0 ≤ u2 34 1 ∧ u2 34 1 ≤ 900000) (l3 : 0 ≤ u2 34 3 ∧ u2 34 3 ≤ 2999) (ht : u2 49 12 = t) (vt : VTn (bn X) t ∧ ¬ t = 303) : Pc (mx_sv (qf_X10_arithmeticOp nn k h61) fun u12 => mx_sv (qf_X1_op nn u12 h61) fun u14 => mx_sv (qf_X1_pop nn 2 u14) fun u17 => mx_sv (qf_X1_push nn (u17 49 12) u17) fun u21 => qj_X10_closeSign_293 nn u21) (fun u => CSr X pp t u2 u ∧ CSm nn X k t u2 u) := by
  have E : ∀ cc x : Nat, ¬ (cc = 49 ∧ x = 10) → h61 cc x = u2 cc x := fun cc x z => by rw [e61, up_n z]
  have a1 := E 34 1 (by omega)
  have a3 := E 34 3 (by omega)
  refine pc_sv c_arop ?_; intro u12 q12
  rw [q12]
  refine pc_sv (c_op (by omega)) ?_; intro u14 A1
  have b1 := A1.1
  have b3 := A1.2.2 34 3 (by omega) (by omega)
  refine pc_sv (c_pop (by omega) (by omega)) ?_; intro u17 A2
  have d3 : 0 ≤ u17 34 3 ∧ u17 34 3 ≤ u2 34 3 ∧ (2 ≤ u2 34 3 → u17 34 3 = u2 34 3 - 2) := by rw [A2.1, b3, a3]; split <;> omega
  have t17 : u17 49 12 = t := by rw [A2.2 49 12 (by omega), A1.2.2 49 12 (by omega) (by omega), E 49 12 (by omega)]; exact ht
  rw [t17]
  refine pc_sv (c_push (by omega)) ?_; intro u21 A3
  have U : ∀ cc x : Nat, ¬ (cc = 34 ∧ (x = 1 ∨ x = 3 ∨ x = 4)) → ¬ (cc = 35 ∨ cc = 36) → u21 cc x = h61 cc x := fun cc x z1 z2 => by rw [A3.2.2.2 cc x (by omega) (by omega), A2.2 cc x (by omega), A1.2.2 cc x (by omega) (by omega)]
  have c1 : u21 34 1 = h61 34 1 + 1 := by rw [A3.2.2.2 34 1 (by omega) (by omega), A2.2 34 1 (by omega)]; exact b1
  have o21 : u21 49 10 = (o : Int) := by rw [U 49 10 (by omega) (by omega), e61, up_s]
  refine pc_imp (c_293 o21) (fun u eu => ?_)
  have p21 : u21 52 o = pp := by rw [U 52 o (by omega) (by omega), E 52 o (by omega)]; exact hpp
  rw [p21] at eu
  have EU : ∀ cc x : Nat, ¬ (cc = 49 ∧ (x = 11 ∨ x = 15)) → u cc x = u21 cc x := fun cc x z => by rw [eu, up_n (by omega), up_n (by omega)]
  have f1 := EU 34 1 (by omega)
  have f3 := EU 34 3 (by omega)
  have e3 := A3.1
  have t12 : u 49 12 = t := by rw [EU 49 12 (by omega), U 49 12 (by omega) (by omega), E 49 12 (by omega)]; exact ht
  have F61 : FRc h61 := frc_k Fc (fun cc x z => E cc x (by omega))
  refine ⟨⟨fun cc x z1 z2 z3 z4 => by rw [EU cc x (by omega), U cc x (by omega) z2]; exact E cc x (by omega), frc_k F61 (fun cc x z => by rw [EU cc x (by omega)]; exact U cc x (by omega) (by omega)), ⟨by omega, by omega, by omega⟩, ⟨?_, ?_, t12, ?_⟩, ?_⟩, fun h2 PB WL L w M lw => ⟨fun z => absurd z (by omega), fun _ => ?_⟩⟩
  · rw [EU 49 10 (by omega), o21]; omega
  · rw [eu, up_s]
  · rw [eu, up_n (by omega), up_s]
  · exact cp_top A3 (by omega) (by omega) (fun x => EU 36 x (by omega)) t12
  · have Mw : MKx X PB WL L h61 w := mkx_c M (fun cc x z1 z2 z3 => E cc x (by omega))
    obtain ⟨-, -, ⟨m1, m2, m3, m4⟩, -⟩ := mk_t Mw
    have tn : ¬ ty_T t = 3 := fun y => vt.2 ((ty_3 (X := X) Y.2.2.1 vt.1).mp y)
    refine pc_sv (r_put (by omega)) ?_; intro u59 b1
    have M1 := mk_op Mw A1 b1 (fun _ => rfl) aop_in
    refine pc_sv (m_turnG M1 A2 A3 (by omega) (by omega) ⟨rfl, vt⟩ tn rfl) ?_; intro w4 ⟨M4, l4⟩
    exact pc_ret ⟨mkx_c M4 (fun cc x z1 z2 z3 => by rw [EU cc x (by omega), up_n (by omega), up_n (by omega)]), by rw [l4, b1.2.2 160 88 (by omega) (by omega)]; omega⟩
end
