/- && and ||: the making -/
section
variable {nn : Nat} {X : BCx} {dp i l a b e s k o : Int} {p q t : Nat} {h g u r w m : ms_M} {v : Int × ms_M} {PB : Nat → Prop} {WL : Int → Int → Prop} {L : List (Int × Int)}
/-- a jump, then a pop: a jump that pops -/
theorem cju_pop {g2 : ms_M} (A : CJu o 0 h g) (B : CPo 1 g g2) (h0 : 0 ≤ h 34 3) : CJu o 1 h g2 := by
  obtain ⟨a1, a2, ⟨a3, a4, a5⟩, a6⟩ := A
  obtain ⟨b1, b2⟩ := B
  refine ⟨by rw [b2 34 1 (by omega)]; exact a1, ?_, ⟨fun z => by rw [b2 35 _ (by omega)]; exact a3 z, fun z => by rw [b2 35 _ (by omega)]; exact a4 z, fun z => by rw [b2 35 _ (by omega)]; exact a5 z⟩, fun cc x z1 z2 => by rw [b2 cc x (by omega)]; exact a6 cc x z1 z2⟩
  have a3' : g 34 3 = h 34 3 := by rw [a2]; split <;> omega
  rw [b1, a3']
theorem r_lab (b : 0 ≤ m 160 88 ∧ m 160 88 ≤ 2140000000) : Pc (qf_X13_label nn m) (fun y => y = (m 160 88 + 1, up_M m 160 88 (m 160 88 + 1))) := by
  unfold qf_X13_label
  exact pc_add (by omega) (fun v2 e2 => pc_xl (fun h3 e3 => pc_ret (by rw [e3, e2, up_s])))
/-- labels of the list are old -/
theorem mk_nL (M : MKx X PB WL L h m) {f : Int} (hf : m 160 88 < f) : ¬ hs_L f L := hs_no L (fun ii hi => by have := (M.1.2.1.2.2.1 ii hi).2.2; omega)
theorem mk_88 (M : MKx X PB WL L h m) : 0 ≤ m 160 88 := M.1.2.1.2.2.2.2
/-- what stands of the labels -/
theorem m_short {d : Nat} {j l3 : Int} {h1 g1 h2 g2 u1 u18 u2 : ms_M} {v : ms_M} (k2 : (k = 67 ∧ ¬ l3 = 0) ∨ (k = 69 ∧ l3 = 0)) (M : MKx X PB WL L u1 m) (E1 : ∀ cc x : Nat, ¬ (50 ≤ cc ∧ cc ≤ 54) → h1 cc x = u1 cc x) (A1 : CJu (if k = 67 then 153 else 154) 1 h1 g1) (E2 : ∀ cc x : Nat, ¬ (cc = 2 ∧ x = 10) → ¬ (cc = 49 ∧ x = 10) → ¬ (50 ≤ cc ∧ cc ≤ 54) → u18 cc x = g1 cc x) (hj : j = u1 34 1) (CR : MKC nn X (bT X 171 e.toNat) (e + 1) b (t + 1) q u18 u2 v) (E3 : ∀ cc x : Nat, ¬ cc = 49 → h2 cc x = u2 cc x) (A2 : CSh k j h2 g2) (E4 : ∀ cc x : Nat, ¬ cc = 49 → u cc x = g2 cc x) (AM : AN (e + 1) b v m) (b57 : 0 ≤ m 160 57 ∧ m 160 57 + (b - (e + 1)) < 9000) (b88 : m 160 88 + 4 * (q : Int) ≤ 2000000000 + 4 * (t : Int)) (s1 : 1 ≤ u1 34 3 ∧ u1 34 3 ≤ 2999) (s2 : u2 34 3 = u18 34 3 + 1) (l1 : u1 34 1 ≤ 800000) (l2 : u2 34 1 ≤ 800000) (q3 : q ≤ 3001) (t3 : t < 3001) : Pc (qj_X13_workBoth_46 nn (qg_X13_work nn d) e l3 m) (fun w => MKx X PB WL L u w ∧ (m 160 88 ≤ w 160 88 ∧ w 160 88 + 4 * (t : Int) ≤ m 160 88 + 4 * (q : Int))) := by
  have lb0 := mk_88 M
  have a1 := A1.1
  have e1 := E1 34 1 (by omega)
  have e3 := E1 34 3 (by omega)
  have a3 : g1 34 3 = u1 34 3 - 1 := by rw [A1.2.1]; split <;> omega
  have c1 := E2 34 1 (by omega) (by omega) (by omega)
  have c3 := E2 34 3 (by omega) (by omega) (by omega)
  obtain ⟨x1, x2, x3, x4, x5, D1, D2, D3, D4, D5, D6⟩ := A2
  have y1 := E3 34 1 (by omega)
  have y3 := E3 34 3 (by omega)
  have DJ : CJu 167 1 h2 x2 := cju_pop D1 D2 (by omega)
  have d1 := DJ.1
  have d3 : x2 34 3 = u2 34 3 - 1 := by rw [DJ.2.1]; split <;> omega
  unfold qj_X13_workBoth_46
  refine pc_sv (r_lab (by omega)) ?_; intro u41 q41
  rw [q41]
  dsimp only
  have ML1 : MKx X PB WL L u1 (up_M m 160 88 (m 160 88 + 1)) := mk_lab M rfl
  generalize hm1 : up_M m 160 88 (m 160 88 + 1) = w1 at *
  have f1 : w1 160 88 = m 160 88 + 1 := by rw [← hm1, up_s]
  have F1 : ∀ cc x : Nat, ¬ (cc = 160 ∧ x = 88) → w1 cc x = m cc x := fun cc x z => by rw [← hm1, up_n z]
  refine pc_sv (r_lab (by omega)) ?_; intro u43 q43
  rw [q43]
  dsimp only
  have ML2 : MKx X PB WL L u1 (up_M w1 160 88 (w1 160 88 + 1)) := mk_lab ML1 rfl
  generalize hm2 : up_M w1 160 88 (w1 160 88 + 1) = w2 at *
  have f2 : w2 160 88 = m 160 88 + 2 := by rw [← hm2, up_s, f1]; omega
  have F2 : ∀ cc x : Nat, ¬ (cc = 160 ∧ x = 88) → w2 cc x = m cc x := fun cc x z => by rw [← hm2, up_n z]; exact F1 cc x z
  have f1' : w1 160 88 + 1 = m 160 88 + 2 := by omega
  rw [f1']
  obtain ⟨-, -, ⟨n1, n2, n3, n4⟩, -⟩ := mk_t ML2
  refine pc_sub (by omega) ?_; intro v45 e45
  refine pc_xl ?_; intro h46 e46
  have MH : MKx X PB WL L h1 w2 := mkx_c ML2 (fun cc x z1 z2 z3 => E1 cc x z3)
  have P82 : ∀ op : Int, op = (if k = 67 then 153 else 154) → Pc (qj_X13_workBoth_82 nn (qg_X13_work nn d) e l3 (m 160 88 + 1) (m 160 88 + 2) op h46) (fun w => MKx X PB WL L u w ∧ (m 160 88 ≤ w 160 88 ∧ w 160 88 + 4 * (t : Int) ≤ m 160 88 + 4 * (q : Int))) := fun op hop => by
    have inop : in_R op := by rw [hop]; unfold in_R; split <;> omega
    unfold qj_X13_workBoth_82
    have x68 : h46 160 68 = w2 160 68 := by rw [e46, up_n (by omega)]
    refine pc_sv (r_jump (by omega)) ?_; intro u26 B1
    have MJ : MKx X PB WL (L ++ [(w2 160 68, m 160 88 + 1)]) g1 u26 := mk_jump (m1 := h46) MH A1 (by omega) (by rw [e46, e45]) (by rw [hop] at B1; exact B1) (by rw [← hop]; exact inop) (by omega)
    have MJ2 : MKx X PB WL (L ++ [(w2 160 68, m 160 88 + 1)]) u18 u26 := mkx_c MJ (fun cc x z1 z2 z3 => E2 cc x (by omega) (by omega) z3)
    have B1f := B1.2.2.2.2.2.2
    have G26 : ∀ cc x : Nat, ¬ (cc = 160 ∧ (x = 68 ∨ x = 87 ∨ x = 88 ∨ x = 70)) → ¬ cc = 206 → ¬ (cc = 217 ∨ cc = 218) → u26 cc x = m cc x := fun cc x z1 z2 z3 => by rw [B1f cc x (by omega) (by omega) (by omega), e46, up_n (by omega)]; exact F2 cc x (by omega)
    have t88 : u26 160 88 = m 160 88 + 2 := by rw [B1f 160 88 (by omega) (by omega) (by omega), e46, up_n (by omega)]; exact f2
    refine pc_rA ?_; intro _ _ v28 e28
    rw [(mk_t MJ2).1 171 e.toNat (by omega)] at e28
    rw [e28]
    refine pc_sv (CR d PB WL _ u26 MJ2 (an_m AM (fun cc x z1 z2 => G26 cc x (by omega) (by omega) (by omega))) (by rw [G26 160 57 (by omega) (by omega) (by omega)]; exact b57) (by rw [t88]; omega)) ?_; intro u30 ⟨M30, lb1, lb2⟩
    have M31 : MKx X PB WL (L ++ [(w2 160 68, m 160 88 + 1)]) h2 u30 := mkx_c M30 (fun cc x z1 z2 z3 => E3 cc x z2)
    obtain ⟨-, -, ⟨p1, p2, p3, p4⟩, -⟩ := mk_t M31
    refine pc_sub (by omega) ?_; intro v32 e32
    refine pc_xl ?_; intro h33 e33
    have y68 : h33 160 68 = u30 160 68 := by rw [e33, up_n (by omega)]
    refine pc_sv (r_jump (by omega)) ?_; intro u35 B2
    have MJ3 : MKx X PB WL (L ++ [(w2 160 68, m 160 88 + 1)] ++ [(u30 160 68, m 160 88 + 2)]) x2 u35 := mk_jump (m1 := h33) M31 DJ (by omega) (by rw [e33, e32]) B2 (by unfold in_R; omega) (by omega)
    have o88 : u35 160 88 = u30 160 88 := by rw [B2.2.2.2.2.2.2 160 88 (by omega) (by omega) (by omega), e33, up_n (by omega)]
    refine pc_sv (mk_aim (A := L) (B := [(u30 160 68, m 160 88 + 2)]) (j := j) (f := m 160 88 + 1) MJ3 (by rw [List.append_assoc, hj, n1]; rfl) (mk_nL M (by omega)) (fun z => by
      rcases z with z | z
      · have z2 : m 160 88 + 2 = m 160 88 + 1 := z
        omega
      · exact z) D3 rfl (by omega) (by omega)) ?_; intro u38 ⟨M38, _, v38⟩
    obtain ⟨Fx3, U3⟩ := cah_fr MJ3.1.2.2.1.1.1 D3
    have x31 : x3 34 1 = x2 34 1 := U3 34 1 (by omega) (by omega) (by omega)
    have x33 : x3 34 3 = x2 34 3 := U3 34 3 (by omega) (by omega) (by omega)
    have M38' : MKx X PB WL (L ++ [(u30 160 68, m 160 88 + 2)]) x3 u38 := M38
    obtain ⟨-, -, ⟨r1, r2, r3, r4⟩, -⟩ := mk_t M38'
    have P136 : ∀ o2 : Int, o2 = (if k = 67 then 3 else 4) → Pc (qj_X13_workBoth_136 nn (qg_X13_work nn d) (m 160 88 + 2) o2 u38) (fun w => MKx X PB WL L u w ∧ (m 160 88 ≤ w 160 88 ∧ w 160 88 + 4 * (t : Int) ≤ m 160 88 + 4 * (q : Int))) := fun o2 ho2 => by
      unfold qj_X13_workBoth_136
      refine pc_sv (r_put (by omega)) ?_; intro u19 C1
      refine pc_sv r_push ?_; intro u21 C2
      have N1 : MKx X PB WL (L ++ [(u30 160 68, m 160 88 + 2)]) x4 u19 := mk_op M38' (by rw [← ho2] at D4; exact D4) C1 (fun _ => rfl) (by rw [ho2]; unfold in_R; split <;> omega)
      have N2 : MKx X PB WL (L ++ [(u30 160 68, m 160 88 + 2)]) x5 u21 := mk_push N1 D5 C2 ⟨rfl, .inr (.inl rfl), by decide⟩
      have x41 : x4 34 1 = x3 34 1 + 1 := D4.1
      have x43 : x4 34 3 = x3 34 3 := D4.2.2 34 3 (by omega) (by omega)
      have x51 : x5 34 1 = x4 34 1 := D5.2.2.2 34 1 (by omega) (by omega)
      have x53 : x5 34 3 = x4 34 3 + 1 := D5.1
      have w88 : u21 160 88 = u30 160 88 := by rw [C2.2.2.2.2 160 88 (by omega) (by omega), C1.2.2 160 88 (by omega) (by omega), v38]; exact o88
      refine pc_sv (mk_aim (A := L) (B := []) (j := h2 34 1) (f := m 160 88 + 2) N2 (by rw [p1]) (mk_nL M (by omega)) (fun z => z) D6 rfl (by omega) (by omega)) ?_; intro u24 ⟨M24, _, v24⟩
      rw [List.append_nil] at M24
      exact pc_ret ⟨mkx_c M24 (fun cc x z1 z2 z3 => E4 cc x z2), by rw [v24, w88]; omega⟩
    rcases k2 with ⟨k3, k4⟩ | ⟨k3, k4⟩
    · exact pc_if (fun z => absurd z k4) (fun _ => P136 3 (by rw [if_pos k3]))
    · exact pc_if (fun _ => P136 4 (by rw [if_neg (by omega)])) (fun z => absurd k4 z)
  rcases k2 with ⟨k3, k4⟩ | ⟨k3, k4⟩
  · exact pc_if (fun z => absurd z k4) (fun _ => P82 153 (by rw [if_pos k3]))
  · exact pc_if (fun _ => P82 154 (by rw [if_neg (by omega)])) (fun z => absurd k4 z)
end
