/- a jump made to a boolean, both sides -/
def CTr (o k : Int) (h u : ms_M) : Prop := ∃ g1 g2 g3 g4 g5 g6 g7 g8 : ms_M, CJu o k h g1 ∧ CPu 302 g1 g2 ∧ COp 3 g2 g3 ∧ CJu 167 0 g3 g4 ∧ CPo 1 g4 g5 ∧ CAH (h 34 1) g5 g6 ∧ CPu 302 g6 g7 ∧ COp 4 g7 g8 ∧ CAH (g3 34 1) g8 u
section
variable {nn : Nat} {X : BCx} {dp i a b e o k : Int} {p q : Nat} {h g u r w m : ms_M} {PB : Nat → Prop} {WL : Int → Int → Prop} {L : List (Int × Int)}
theorem hs_no {f : Int} : ∀ L : List (Int × Int), (∀ i : Nat, i < L.length → (L.getD i (0, 0)).2 < f) → ¬ hs_L f L := by
  intro L
  induction L with
  | nil => exact fun _ z => z
  | cons x L ih =>
    intro H z
    rcases z with z | z
    · have q := H 0 (Nat.succ_pos _)
      have q2 : x.2 < f := q
      omega
    · exact ih (fun i hi => H (i + 1) (Nat.succ_lt_succ hi)) z
theorem c_truth (hk : 0 ≤ k ∧ k ≤ 2) (l1 : 0 ≤ h 34 1 ∧ h 34 1 ≤ 900000) (l3 : 0 ≤ h 34 3 ∧ h 34 3 ≤ 2999) (h7 : 0 ≤ h 34 7) (Fc : FRc h) : Pc (qf_X1_truth nn o k h) (fun u => CTr o k h u ∧ (u 34 1 = h 34 1 + 8 ∧ u 34 3 = (if k ≤ h 34 3 then h 34 3 - k else 0) + 1) ∧ FRc u ∧ ∀ cc x : Nat, ¬ (cc = 34 ∧ (x = 1 ∨ x = 3 ∨ x = 4 ∨ x = 14 ∨ x = 15)) → ¬ (cc = 35 ∨ cc = 36) → ¬ (40 ≤ cc ∧ cc ≤ 42) → u cc x = h cc x) := by
  unfold qf_X1_truth
  refine pc_sv (c_jump (by omega) (by omega) (by omega)) ?_; intro u2 ⟨a0, A1⟩
  have a1 := A1.1
  generalize hs : (if k ≤ h 34 3 then h 34 3 - k else 0) = sx
  have sb : 0 ≤ sx ∧ sx ≤ h 34 3 := by rw [← hs]; split <;> omega
  have a3 : u2.2 34 3 = sx := by rw [A1.2.1, ← hs]; split <;> split <;> omega
  have E1 : ∀ cc x : Nat, ¬ (cc = 34 ∧ (x = 1 ∨ x = 3)) → ¬ cc = 35 → u2.2 cc x = h cc x := fun cc x z1 z2 => A1.2.2.2 cc x z1 (by omega)
  refine pc_sv (c_push (by omega)) ?_; intro u4 A2
  have b3 := A2.1
  have E2 : ∀ cc x : Nat, ¬ (cc = 34 ∧ (x = 3 ∨ x = 4)) → ¬ cc = 36 → u4 cc x = u2.2 cc x := fun cc x z1 z2 => A2.2.2.2 cc x z1 (by omega)
  have b1 := E2 34 1 (by omega) (by omega)
  refine pc_sv (c_op (by omega)) ?_; intro u6 A3
  have c1 := A3.1
  have E3 : ∀ cc x : Nat, ¬ (cc = 34 ∧ x = 1) → ¬ cc = 35 → u6 cc x = u4 cc x := fun cc x z1 z2 => A3.2.2 cc x z1 (by omega)
  have c3 := E3 34 3 (by omega) (by omega)
  refine pc_sv (c_jump (by omega) (by omega) (by omega)) ?_; intro u8 ⟨d0, A4⟩
  have d1 := A4.1
  have d3 : u8.2 34 3 = u6 34 3 := by rw [A4.2.1]; split <;> omega
  have E4 : ∀ cc x : Nat, ¬ (cc = 34 ∧ (x = 1 ∨ x = 3)) → ¬ cc = 35 → u8.2 cc x = u6 cc x := fun cc x z1 z2 => A4.2.2.2 cc x z1 (by omega)
  refine pc_sv (c_pop (by omega) (by omega)) ?_; intro u10 A5
  have f3 : u10 34 3 = sx := by rw [A5.1, d3, c3, b3, a3]; split <;> omega
  have E5 := A5.2
  have f1 := E5 34 1 (by omega)
  have H10 : ∀ cc x : Nat, ¬ (cc = 34 ∧ (x = 1 ∨ x = 3 ∨ x = 4)) → ¬ (cc = 35 ∨ cc = 36) → u10 cc x = h cc x := fun cc x z1 z2 => by rw [E5 cc x (by omega), E4 cc x (by omega) (by omega), E3 cc x (by omega) (by omega), E2 cc x (by omega) (by omega), E1 cc x (by omega) (by omega)]
  have F10 : FRc u10 := frc_k Fc (fun cc x z => H10 cc x (by omega) (by omega))
  rw [a0]
  refine pc_sv (c_aimHere (by omega) (by omega) (by rw [H10 34 7 (by omega) (by omega)]; exact h7) (by omega) F10) ?_; intro u12 A6
  obtain ⟨F12, H12⟩ := cah_fr F10 A6
  have g1 := H12 34 1 (by omega) (by omega) (by omega)
  have g3 := H12 34 3 (by omega) (by omega) (by omega)
  refine pc_sv (c_push (by omega)) ?_; intro u14 A7
  have i3 := A7.1
  have E7 : ∀ cc x : Nat, ¬ (cc = 34 ∧ (x = 3 ∨ x = 4)) → ¬ cc = 36 → u14 cc x = u12 cc x := fun cc x z1 z2 => A7.2.2.2 cc x z1 (by omega)
  have i1 := E7 34 1 (by omega) (by omega)
  refine pc_sv (c_op (by omega)) ?_; intro u16 A8
  have j1 := A8.1
  have E8 : ∀ cc x : Nat, ¬ (cc = 34 ∧ x = 1) → ¬ cc = 35 → u16 cc x = u14 cc x := fun cc x z1 z2 => A8.2.2 cc x z1 (by omega)
  have j3 := E8 34 3 (by omega) (by omega)
  have H16 : ∀ cc x : Nat, ¬ (cc = 34 ∧ (x = 1 ∨ x = 3 ∨ x = 4 ∨ x = 14 ∨ x = 15)) → ¬ (cc = 35 ∨ cc = 36) → ¬ (40 ≤ cc ∧ cc ≤ 42) → u16 cc x = h cc x := fun cc x z1 z2 z3 => by rw [E8 cc x (by omega) (by omega), E7 cc x (by omega) (by omega), H12 cc x (by omega) z3 (by omega)]; exact H10 cc x (by omega) z2
  have F16 : FRc u16 := frc_k F12 (fun cc x z => by rw [E8 cc x (by omega) (by omega)]; exact E7 cc x (by omega) (by omega))
  refine pc_sv (c_aimHere (by omega) (by omega) (by rw [H16 34 7 (by omega) (by omega) (by omega)]; exact h7) (by omega) F16) ?_; intro u18 A9
  obtain ⟨F18, H18⟩ := cah_fr F16 A9
  rw [d0] at A9
  refine pc_ret ⟨⟨u2.2, u4, u6, u8.2, u10, u12, u14, u16, A1, A2, A3, A4, A5, A6, A7, A8, A9⟩, ⟨?_, ?_⟩, F18, fun cc x z1 z2 z3 => ?_⟩
  · rw [H18 34 1 (by omega) (by omega) (by omega)]; omega
  · rw [H18 34 3 (by omega) (by omega) (by omega)]; omega
  · rw [H18 cc x (by omega) z3 (by omega)]; exact H16 cc x z1 z2 z3
theorem m_truth (H : CTr o k h u) (M : MKx X PB WL L h m) (hk : 0 ≤ k ∧ k ≤ h 34 3) (ho : in_R o) (l1 : h 34 1 ≤ 900000) (l3 : h 34 3 ≤ 2999) (lb : m 160 88 ≤ 2100000000) : Pc (qf_X13_truth nn o k m) (fun w => MKx X PB WL L u w ∧ w 160 88 = m 160 88 + 2) := by
  obtain ⟨g1, g2, g3, g4, g5, g6, g7, g8, A1, A2, A3, A4, A5, A6, A7, A8, A9⟩ := H
  have M0 := M
  obtain ⟨-, -, ⟨m1, m2, m3, m4⟩, -⟩ := mk_t M
  have lb0 : 0 ≤ m 160 88 := M0.1.2.1.2.2.2.2
  have JB := M0.1.2.1.2
  have a1 := A1.1
  have a3 : g1 34 3 = h 34 3 - k := by rw [A1.2.1]; split <;> omega
  have b3 := A2.1
  have b1 : g2 34 1 = g1 34 1 := A2.2.2.2 34 1 (by omega) (by omega)
  have c1 := A3.1
  have c3 : g3 34 3 = g2 34 3 := A3.2.2 34 3 (by omega) (by omega)
  have d1 := A4.1
  have d3 : g4 34 3 = g3 34 3 := by rw [A4.2.1]; split <;> omega
  have f3 : g5 34 3 = h 34 3 - k := by rw [A5.1, d3, c3, b3, a3]; split <;> omega
  have f1 : g5 34 1 = g4 34 1 := A5.2 34 1 (by omega)
  unfold qf_X13_truth qf_X13_label
  -- two labels
  refine pc_sv (P := fun y => y = (m 160 88 + 1, up_M m 160 88 (m 160 88 + 1))) (pc_add (by omega) (fun v2 e2 => pc_xl (fun h3 e3 => pc_ret (by rw [e3, e2, up_s])))) ?_; intro u2 q2
  rw [q2]
  dsimp only
  have ML1 : MKx X PB WL L h (up_M m 160 88 (m 160 88 + 1)) := mk_lab M rfl
  rw [show up_M m 160 88 (m 160 88 + 1) 160 88 = m 160 88 + 1 from up_s]
  generalize hm1 : up_M m 160 88 (m 160 88 + 1) = w1 at *
  have s1 : w1 160 88 = m 160 88 + 1 := by rw [← hm1, up_s]
  refine pc_sv (P := fun y => y = (m 160 88 + 2, up_M w1 160 88 (w1 160 88 + 1))) (pc_add (by omega) (fun v2 e2 => pc_xl (fun h3 e3 => pc_ret (by rw [e3, e2, up_s, s1]; congr 1; omega)))) ?_; intro u4 q4
  rw [q4]
  dsimp only
  have ML2 : MKx X PB WL L h (up_M w1 160 88 (w1 160 88 + 1)) := mk_lab ML1 rfl
  generalize hm2 : up_M w1 160 88 (w1 160 88 + 1) = w2 at *
  have s2 : w2 160 88 = m 160 88 + 2 := by rw [← hm2, up_s, s1]; omega
  obtain ⟨-, -, ⟨n1, n2, n3, n4⟩, -⟩ := mk_t ML2
  refine pc_sub (by omega) ?_; intro v6 e6
  refine pc_xl ?_; intro h7 e7
  have x68 : h7 160 68 = w2 160 68 := by rw [e7, up_n (by omega)]
  refine pc_sv (r_jump (by omega)) ?_; intro w9 B1
  have MJ : MKx X PB WL (L ++ [(w2 160 68, m 160 88 + 1)]) g1 w9 := mk_jump ML2 A1 hk (by rw [e7, e6]) B1 ho (by omega)
  have t68 : w9 160 68 = w2 160 68 + 3 := by rw [B1.2.1, x68]
  have t88 : w9 160 88 = m 160 88 + 2 := by rw [B1.2.2.2.2.2.2 160 88 (by omega) (by omega) (by omega), e7, up_n (by omega)]; exact s2
  refine pc_sv (r_put (by omega)) ?_; intro u11 B2
  refine pc_sv r_push ?_; intro u13 B3
  have p13 : u13 160 70 = w9 160 70 + 1 := by rw [B3.2.1, B2.2.2 160 70 (by omega) (by omega)]
  have j70 := MJ.2.1.1
  refine pc_sub (by omega) ?_; intro v15 e15
  refine pc_xl ?_; intro h16 e16
  have y68 : h16 160 68 = w9 160 68 + 1 := by rw [e16, up_n (by omega), B3.2.2.2.2 160 68 (by omega) (by omega), B2.1]
  refine pc_sv (r_jump (by omega)) ?_; intro u18 B4
  -- all but the stack
  have K1 : MA (bK X) (bV X) (bC X) (bW X) (bn X) (bF X) (bo X) (bA X) (bB X) (bT X) PB WL (L ++ [(w2 160 68, m 160 88 + 1)]) g2 w9 := ma_c MJ.1 (fun cc x z => A2.2.2.2 cc x (by unfold RLc at z; omega) (by unfold RLc at z; omega)) (by rw [A2.2.1]; split <;> omega)
  have K2 := ma_op K1 A3 B2 (fun _ => rfl) (by unfold in_R; omega)
  have K3 := ma_r (w := h16) K2 (fun cc x z => by rw [e16, up_n (by unfold RLm at z; omega)]; exact B3.2.2.2.2 cc x (by unfold RLm at z; omega) (by unfold RLm at z; omega))
  have y88 : h16 160 88 = m 160 88 + 2 := by rw [e16, up_n (by omega), B3.2.2.2.2 160 88 (by omega) (by omega), B2.2.2 160 88 (by omega) (by omega)]; exact t88
  have K4 := ma_jump K3 A4 B4 (by unfold in_R; omega) (by rw [y88]; exact Int.le_refl _ : m 160 88 + 2 ≤ h16 160 88)
  have K5 := ma_c (g := g5) K4 (fun cc x z => A5.2 cc x (by unfold RLc at z; omega)) (by rw [A5.2 34 4 (by omega)]; exact Int.le_refl _)
  have SKJ1 := MJ.2
  have SK5 : SKJ (bn X) g5 u18 := by
    obtain ⟨⟨k1, k2, k3, k4⟩, k5⟩ := SKJ1
    have r70 : u18 160 70 = w9 160 70 := by rw [B4.2.2.2.2.2.2 160 70 (by omega) (by omega) (by omega), e16, up_s, e15, p13]; omega
    have r71 : u18 160 71 = if w9 160 71 < w9 160 70 + 1 then w9 160 70 + 1 else w9 160 71 := by rw [B4.2.2.2.2.2.2 160 71 (by omega) (by omega) (by omega), e16, up_n (by omega), B3.2.2.1, B2.2.2 160 70 (by omega) (by omega), B2.2.2 160 71 (by omega) (by omega)]
    have q4' : g5 34 4 = if g1 34 4 < g1 34 3 + 1 then g1 34 3 + 1 else g1 34 4 := by rw [A5.2 34 4 (by omega), A4.2.2.2 34 4 (by omega) (by omega), A3.2.2 34 4 (by omega) (by omega), A2.2.1]
    refine ⟨⟨by omega, by rw [q4', r71, k1, k2], by omega, by rw [q4']; split <;> omega⟩, fun ii hi h2 => ?_⟩
    rw [B4.2.2.2.2.2.2 207 ii (by omega) (by omega) (by omega), e16, up_n (by omega), B3.2.2.2.2 207 ii (by omega) (by rw [B2.2.2 160 70 (by omega) (by omega)]; omega), B2.2.2 207 ii (by omega) (by omega), A5.2 36 ii (by omega), A4.2.2.2 36 ii (by omega) (by omega), A3.2.2 36 ii (by omega) (by omega), A2.2.2.2 36 ii (by omega) (by omega)]
    exact k5 ii (by omega) h2
  have M5 : MKx X PB WL (L ++ [(w2 160 68, m 160 88 + 1)] ++ [(h16 160 68, m 160 88 + 2)]) g5 u18 := ⟨K5, SK5⟩
  have nL : ∀ f : Int, m 160 88 < f → ¬ hs_L f L := fun f hf => hs_no L (fun ii hi => by have := (JB.2.1 ii hi).2.2; omega)
  have z68 : u18 160 68 = g5 34 1 := (M5.1.1.1.1).symm
  refine pc_sv (mk_aim (A := L) (B := [(h16 160 68, m 160 88 + 2)]) (j := h 34 1) (f := m 160 88 + 1) M5 (by rw [List.append_assoc, ← n1]; rfl) (nL _ (by omega)) (fun z => by
    rcases z with z | z
    · have z2 : m 160 88 + 2 = m 160 88 + 1 := z
      omega
    · exact z) A6 rfl (by omega) (by omega)) ?_; intro u21 ⟨M6, F6, v6'⟩
  have o88 : u18 160 88 = m 160 88 + 2 := by rw [B4.2.2.2.2.2.2 160 88 (by omega) (by omega) (by omega)]; exact y88
  have M6' : MKx X PB WL (L ++ [(h16 160 68, m 160 88 + 2)]) g6 u21 := M6
  obtain ⟨-, -, ⟨w1', w2', w3', w4'⟩, -⟩ := mk_t M6'
  have A6f : g6 34 1 = g5 34 1 ∧ g6 34 3 = g5 34 3 := by
    obtain ⟨y1, y2, y3, CA, SL, FL⟩ := A6
    have FR := cah_fr (K5.2.2.1.1.1) ⟨y1, y2, y3, CA, SL, FL⟩
    exact ⟨FR.2 34 1 (by omega) (by omega) (by omega), FR.2 34 3 (by omega) (by omega) (by omega)⟩
  refine pc_sv (r_put (by omega)) ?_; intro u23 C1
  refine pc_sv r_push ?_; intro u25 C2
  have N1 := ma_c (g := g7) M6'.1 (fun cc x z => A7.2.2.2 cc x (by unfold RLc at z; omega) (by unfold RLc at z; omega)) (by rw [A7.2.1]; split <;> omega)
  have N2 := ma_op N1 A8 C1 (fun _ => rfl) (by unfold in_R; omega)
  have N3 := ma_r (w := u25) N2 (fun cc x z => C2.2.2.2.2 cc x (by unfold RLm at z; omega) (by unfold RLm at z; omega))
  have S1 : SKJ (bn X) g6 u23 := skj_k M6'.2 (fun _ _ _ => rfl) (fun cc x z => C1.2.2 cc x (by omega) (by omega))
  have S2 := sk_push S1 A7 C2 ⟨rfl, .inr (.inl rfl), by decide⟩
  have S3 : SKJ (bn X) g8 u25 := skj_k S2 (fun cc x z => A8.2.2 cc x (by omega) (by omega)) (fun _ _ _ => rfl)
  have M8 : MKx X PB WL (L ++ (h16 160 68, m 160 88 + 2) :: []) g8 u25 := ⟨N3, S3⟩
  have g83 : g8 34 3 = g6 34 3 + 1 := by rw [A8.2.2 34 3 (by omega) (by omega), A7.1]
  have g81 : g8 34 1 = g6 34 1 + 1 := by rw [A8.1, A7.2.2.2 34 1 (by omega) (by omega)]
  have j2 : g3 34 1 = h16 160 68 := by omega
  rw [j2] at A9
  refine pc_sv (mk_aim (A := L) (B := []) M8 rfl (nL _ (by omega)) (fun z => z) A9 rfl (by omega) (by omega)) ?_; intro u28 ⟨M9, F9, v9⟩
  rw [List.append_nil] at M9
  refine pc_ret ⟨M9, ?_⟩
  rw [v9, C2.2.2.2.2 160 88 (by omega) (by omega), C1.2.2 160 88 (by omega) (by omega), v6', o88]
end
