/- CODE of both sides: the single steps -/
/-- a byte more in the class -/
def COp (v : Int) (h u : ms_M) : Prop := u 34 1 = h 34 1 + 1 ∧ (h 34 1 < 1500 → u 35 (h 34 1).toNat = oq_b v) ∧ ∀ cc x : Nat, ¬ (cc = 34 ∧ x = 1) → ¬ (cc = 35 ∧ x = (h 34 1).toNat) → u cc x = h cc x
def CPu (t : Int) (h u : ms_M) : Prop := u 34 3 = h 34 3 + 1 ∧ (u 34 4 = if h 34 4 < h 34 3 + 1 then h 34 3 + 1 else h 34 4) ∧ (h 34 3 < 20 → u 36 (h 34 3).toNat = t) ∧ ∀ cc x : Nat, ¬ (cc = 34 ∧ (x = 3 ∨ x = 4)) → ¬ (cc = 36 ∧ x = (h 34 3).toNat) → u cc x = h cc x
def CPo (n : Int) (h u : ms_M) : Prop := (u 34 3 = if 0 < h 34 3 - n then h 34 3 - n else 0) ∧ ∀ cc x : Nat, ¬ (cc = 34 ∧ x = 3) → u cc x = h cc x
/-- a jump whose aim is open -/
def CJu (o n : Int) (h u : ms_M) : Prop := u 34 1 = h 34 1 + 3 ∧ (u 34 3 = if 0 < h 34 3 - n then h 34 3 - n else 0) ∧ ((h 34 1 < 1500 → u 35 (h 34 1).toNat = oq_b o) ∧ (h 34 1 + 1 < 1500 → u 35 ((h 34 1).toNat + 1) = oq_b 0) ∧ (h 34 1 + 2 < 1500 → u 35 ((h 34 1).toNat + 2) = oq_b 0)) ∧ ∀ cc x : Nat, ¬ (cc = 34 ∧ (x = 1 ∨ x = 3)) → ¬ (cc = 35 ∧ (h 34 1).toNat ≤ x ∧ x < (h 34 1).toNat + 3) → u cc x = h cc x
/-- .. and its aim -/
def CAm (j a : Int) (h u : ms_M) : Prop := (0 ≤ j → j + 2 < 1500 → u 35 (j.toNat + 1) = oq_b (oq_shr (a - j) 8) ∧ u 35 (j.toNat + 2) = oq_b (a - j)) ∧ ∀ cc x : Nat, (cc = 35 → ¬ (0 ≤ j ∧ j + 2 < 1500 ∧ (x = j.toNat + 1 ∨ x = j.toNat + 2))) → u cc x = h cc x
def RPt (v : Int) (m w : ms_M) : Prop := w 160 68 = m 160 68 + 1 ∧ (m 160 68 < 12000 → w 206 (m 160 68).toNat = oq_and v 255) ∧ ∀ cc x : Nat, ¬ (cc = 160 ∧ x = 68) → ¬ (cc = 206 ∧ x = (m 160 68).toNat) → w cc x = m cc x
def RPs (t : Int) (m w : ms_M) : Prop := (0 ≤ m 160 70 ∧ m 160 70 < 3000) ∧ w 160 70 = m 160 70 + 1 ∧ (w 160 71 = if m 160 71 < m 160 70 + 1 then m 160 70 + 1 else m 160 71) ∧ w 207 (m 160 70).toNat = t ∧ ∀ cc x : Nat, ¬ (cc = 160 ∧ (x = 70 ∨ x = 71)) → ¬ (cc = 207 ∧ x = (m 160 70).toNat) → w cc x = m cc x
def RJu (o l : Int) (m w : ms_M) : Prop := (0 ≤ m 160 87 ∧ m 160 87 < 3000) ∧ w 160 68 = m 160 68 + 3 ∧ w 160 87 = m 160 87 + 1 ∧ w 217 (m 160 87).toNat = m 160 68 ∧ w 218 (m 160 87).toNat = l ∧ ((m 160 68 < 12000 → w 206 (m 160 68).toNat = oq_and o 255) ∧ (m 160 68 + 1 < 12000 → w 206 ((m 160 68).toNat + 1) = oq_and 0 255) ∧ (m 160 68 + 2 < 12000 → w 206 ((m 160 68).toNat + 2) = oq_and 0 255)) ∧ ∀ cc x : Nat, ¬ (cc = 160 ∧ (x = 68 ∨ x = 87)) → ¬ (cc = 206 ∧ (m 160 68).toNat ≤ x ∧ x < (m 160 68).toNat + 3) → ¬ ((cc = 217 ∨ cc = 218) ∧ x = (m 160 87).toNat) → w cc x = m cc x
section
variable {nn : Nat} {h g u r m w : ms_M}
theorem c_op {v : Int} (hl : 0 ≤ h 34 1 ∧ h 34 1 ≤ 2000000) : Pc (qf_X1_op nn v h) (fun u => COp v h u) := by
  have F : ∀ g : ms_M, g 34 1 = h 34 1 → (h 34 1 < 1500 → g 35 (h 34 1).toNat = oq_b v) → (∀ cc x : Nat, ¬ (cc = 35 ∧ x = (h 34 1).toNat) → g cc x = h cc x) → Pc (qj_X1_op_23 nn g) (fun u => COp v h u) := fun g g1 g2 g3 => by
    unfold qj_X1_op_23
    refine pc_add (by omega) ?_; intro v2 e2
    refine pc_xl ?_; intro h3 e3
    exact pc_ret ⟨by rw [e3, up_s]; omega, fun q => by rw [e3, up_n (by omega)]; exact g2 q, fun cc x z1 z2 => by rw [e3, up_n z1]; exact g3 cc x z2⟩
  unfold qf_X1_op
  refine pc_if (fun z => F h rfl (fun q => absurd q (by omega)) (fun _ _ _ => rfl)) (fun z => ?_)
  refine pc_xl ?_; intro v9 e9
  refine pc_wB ?_; intro _ _ h10 e10
  exact F h10 (by rw [e10, up_n (by omega)]) (fun _ => by rw [e10, up_s, e9, oq_b_b]) (fun cc x z => by rw [e10, up_n z])
theorem c_push {t : Int} (hl : 0 ≤ h 34 3 ∧ h 34 3 ≤ 2000000) : Pc (qf_X1_push nn t h) (fun u => CPu t h u) := by
  have F : ∀ g : ms_M, g 34 3 = h 34 3 → g 34 4 = h 34 4 → (h 34 3 < 20 → g 36 (h 34 3).toNat = t) → (∀ cc x : Nat, ¬ (cc = 36 ∧ x = (h 34 3).toNat) → g cc x = h cc x) → Pc (qj_X1_push_22 nn g) (fun u => CPu t h u) := fun g g3 g4 g2 g5 => by
    unfold qj_X1_push_22
    refine pc_add (by omega) ?_; intro v2 e2
    refine pc_xl ?_; intro h3 e3
    have a3 : h3 34 3 = h 34 3 + 1 := by rw [e3, up_s]; omega
    have a4 : h3 34 4 = h 34 4 := by rw [e3, up_n (by omega)]; exact g4
    refine pc_xl ?_; intro v6 e6
    rw [a3, a4] at e6
    refine pc_xl ?_; intro h7 e7
    exact pc_ret ⟨by rw [e7, up_n (by omega)]; exact a3, by rw [e7, up_s]; exact e6, fun q => by rw [e7, up_n (by omega), e3, up_n (by omega)]; exact g2 q, fun cc x z1 z2 => by rw [e7, up_n (by omega), e3, up_n (by omega)]; exact g5 cc x z2⟩
  unfold qf_X1_push
  refine pc_if (fun z => F h rfl rfl (fun q => absurd q (by omega)) (fun _ _ _ => rfl)) (fun z => ?_)
  refine pc_wA ?_; intro _ _ h13 e13
  exact F h13 (by rw [e13, up_n (by omega)]) (by rw [e13, up_n (by omega)]) (fun _ => by rw [e13, up_s]) (fun cc x z => by rw [e13, up_n z])
theorem c_pop {n : Int} (hn : 0 ≤ n ∧ n ≤ 1000) (hl : 0 ≤ h 34 3 ∧ h 34 3 ≤ 2000000) : Pc (qf_X1_pop nn n h) (fun u => CPo n h u) := by
  unfold qf_X1_pop
  refine pc_sub (by omega) ?_; intro v2 e2
  refine pc_xl ?_; intro v3 e3
  refine pc_xl ?_; intro h4 e4
  exact pc_ret ⟨by rw [e4, up_s, e3, e2], fun cc x z => by rw [e4, up_n z]⟩
theorem c_op2 {v z : Int} (hl : 0 ≤ h 34 1 ∧ h 34 1 ≤ 1000000) : Pc (qf_X1_op_ nn v z h) (fun u => ∃ g, COp v h g ∧ COp z g u) := by
  unfold qf_X1_op_
  refine pc_sv (c_op (by omega)) ?_; intro u2 q2
  have a := q2.1
  refine pc_sv (c_op (by omega)) ?_; intro u4 q4
  exact pc_ret ⟨u2, q2, q4⟩
theorem c_jump {o n : Int} (hn : 0 ≤ n ∧ n ≤ 1000) (hl : 0 ≤ h 34 1 ∧ h 34 1 ≤ 1000000) (h3 : 0 ≤ h 34 3 ∧ h 34 3 ≤ 2000000) : Pc (qf_X1_jump nn o n h) (fun u => u.1 = h 34 1 ∧ CJu o n h u.2) := by
  unfold qf_X1_jump
  refine pc_sv (c_pop hn h3) ?_; intro u3 ⟨p1, p2⟩
  have l3 : u3 34 1 = h 34 1 := p2 34 1 (by omega)
  refine pc_sv (c_op (by omega)) ?_; intro u5 ⟨o1, o2, o3⟩
  refine pc_sv (c_op (by omega)) ?_; intro u7 ⟨r1, r2, r3⟩
  refine pc_sv (c_op (by omega)) ?_; intro u9 ⟨s1, s2, s3⟩
  rw [l3] at o1 o2 o3
  rw [o1] at r1 r2 r3
  rw [r1] at s1 s2 s3
  rw [show (h 34 1 + 1).toNat = (h 34 1).toNat + 1 by omega] at r2 r3
  rw [show (h 34 1 + 1 + 1).toNat = (h 34 1).toNat + 2 by omega] at s2 s3
  refine pc_ret ⟨rfl, by dsimp only; omega, ?_, ⟨fun q => ?_, fun q => ?_, fun q => ?_⟩, fun cc x z1 z2 => ?_⟩
  · dsimp only
    rw [s3 34 3 (by omega) (by omega), r3 34 3 (by omega) (by omega), o3 34 3 (by omega) (by omega)]
    exact p1
  · dsimp only
    rw [s3 35 _ (by omega) (by omega), r3 35 _ (by omega) (by omega)]
    exact o2 q
  · dsimp only
    rw [s3 35 _ (by omega) (by omega)]
    exact r2 q
  · exact s2 (by omega)
  · dsimp only
    rw [s3 cc x (by omega) (by omega), r3 cc x (by omega) (by omega), o3 cc x (by omega) (by omega), p2 cc x (by omega)]
theorem c_aim {j a : Int} (hj : -1 ≤ j ∧ j ≤ 1000000) (ha : 0 ≤ a ∧ a ≤ 1000000) : Pc (qf_X1_aimAt nn j a h) (fun u => CAm j a h u) := by
  unfold qf_X1_aimAt
  refine pc_sub (by omega) ?_; intro v1 e1
  refine pc_if (fun z => pc_ret ⟨fun q => absurd z (by omega), fun _ _ _ => rfl⟩) (fun z => ?_)
  refine pc_add (by omega) ?_; intro v2 e2
  refine pc_if (fun z2 => pc_ret ⟨fun q q2 => absurd z2 (by omega), fun _ _ _ => rfl⟩) (fun z2 => ?_)
  refine pc_add (by omega) ?_; intro v6 e6
  refine pc_xl ?_; intro v7 e7
  refine pc_xl ?_; intro v8 e8
  refine pc_wB ?_; intro _ _ h9 e9
  refine pc_add (by omega) ?_; intro v11 e11
  refine pc_xl ?_; intro v12 e12
  refine pc_wB ?_; intro _ _ h13 e13
  rw [show v6.toNat = j.toNat + 1 by omega] at e9
  rw [show v11.toNat = j.toNat + 2 by omega] at e13
  refine pc_ret ⟨fun _ _ => ⟨?_, ?_⟩, fun cc x q => ?_⟩
  · rw [e13, up_n (by omega), e9, up_s, e8, oq_b_b, e7, e1]
  · rw [e13, up_s, e12, oq_b_b, e1]
  · by_cases c35 : cc = 35
    · have q2 := q c35
      rw [e13, up_n (by omega), e9, up_n (by omega)]
    · rw [e13, up_n (by omega), e9, up_n (by omega)]
theorem r_put {v : Int} (hl : 0 ≤ m 160 68 ∧ m 160 68 ≤ 2000000) : Pc (qf_X13_put nn v m) (fun w => RPt v m w) := by
  have F : ∀ g : ms_M, g 160 68 = m 160 68 → (m 160 68 < 12000 → g 206 (m 160 68).toNat = oq_and v 255) → (∀ cc x : Nat, ¬ (cc = 206 ∧ x = (m 160 68).toNat) → g cc x = m cc x) → Pc (qj_X13_put_24 nn g) (fun w => RPt v m w) := fun g g1 g2 g3 => by
    unfold qj_X13_put_24
    refine pc_add (by omega) ?_; intro v2 e2
    refine pc_xl ?_; intro h3 e3
    exact pc_ret ⟨by rw [e3, up_s]; omega, fun q => by rw [e3, up_n (by omega)]; exact g2 q, fun cc x z1 z2 => by rw [e3, up_n z1]; exact g3 cc x z2⟩
  unfold qf_X13_put
  refine pc_if (fun z => F m rfl (fun q => absurd q (by omega)) (fun _ _ _ => rfl)) (fun z => ?_)
  refine pc_xl ?_; intro v7 e7
  refine pc_wA ?_; intro _ _ h8 e8
  exact F h8 (by rw [e8, up_n (by omega)]) (fun _ => by rw [e8, up_s, e7]) (fun cc x z => by rw [e8, up_n z])
theorem r_push {t : Int} : Pc (qf_X13_push nn t m) (fun w => RPs t m w) := by
  unfold qf_X13_push
  refine pc_wA ?_; intro b1 b2 h3 e3
  have a3 : h3 160 70 = m 160 70 := by rw [e3, up_n (by omega)]
  refine pc_add (by omega) ?_; intro v5 e5
  refine pc_xl ?_; intro h6 e6
  have a6 : h6 160 70 = m 160 70 + 1 := by rw [e6, up_s]; omega
  have a7 : h6 160 71 = m 160 71 := by rw [e6, up_n (by omega), e3, up_n (by omega)]
  refine pc_xl ?_; intro v9 e9
  rw [a6, a7] at e9
  refine pc_xl ?_; intro h10 e10
  exact pc_ret ⟨⟨b1, b2⟩, by rw [e10, up_n (by omega)]; exact a6, by rw [e10, up_s]; exact e9, by rw [e10, up_n (by omega), e6, up_n (by omega), e3, up_s], fun cc x z1 z2 => by rw [e10, up_n (by omega), e6, up_n (by omega), e3, up_n z2]⟩
theorem r_jump {o l : Int} (hl : 0 ≤ m 160 68 ∧ m 160 68 ≤ 1000000) : Pc (qf_X13_jump nn o l m) (fun w => RJu o l m w) := by
  unfold qf_X13_jump
  refine pc_wA ?_; intro b1 b2 h4 e4
  have a4 : h4 160 87 = m 160 87 := by rw [e4, up_n (by omega)]
  refine pc_wA ?_; intro _ _ h7 e7
  rw [a4] at e7
  have a7 : h7 160 87 = m 160 87 := by rw [e7, up_n (by omega)]; exact a4
  refine pc_add (by omega) ?_; intro v9 e9
  refine pc_xl ?_; intro h10 e10
  have K : ∀ cc x : Nat, ¬ (cc = 160 ∧ x = 87) → ¬ ((cc = 217 ∨ cc = 218) ∧ x = (m 160 87).toNat) → h10 cc x = m cc x := fun cc x z1 z2 => by rw [e10, up_n z1, e7, up_n (by omega), e4, up_n (by omega)]
  have k87 : h10 160 87 = m 160 87 + 1 := by rw [e10, up_s]; omega
  have k217 : h10 217 (m 160 87).toNat = m 160 68 := by rw [e10, up_n (by omega), e7, up_n (by omega), e4, up_s]
  have k218 : h10 218 (m 160 87).toNat = l := by rw [e10, up_n (by omega), e7, up_s]
  have l3 : h10 160 68 = m 160 68 := K 160 68 (by omega) (by omega)
  refine pc_sv (r_put (by omega)) ?_; intro u5 ⟨o1, o2, o3⟩
  refine pc_sv (r_put (by omega)) ?_; intro u7 ⟨r1, r2, r3⟩
  refine pc_sv (r_put (by omega)) ?_; intro u9 ⟨s1, s2, s3⟩
  rw [l3] at o1 o2 o3
  rw [o1] at r1 r2 r3
  rw [r1] at s1 s2 s3
  rw [show (m 160 68 + 1).toNat = (m 160 68).toNat + 1 by omega] at r2 r3
  rw [show (m 160 68 + 1 + 1).toNat = (m 160 68).toNat + 2 by omega] at s2 s3
  refine pc_ret ⟨⟨b1, b2⟩, by omega, ?_, ?_, ?_, ⟨fun q => ?_, fun q => ?_, fun q => ?_⟩, fun cc x z1 z2 z3 => ?_⟩
  · rw [s3 160 87 (by omega) (by omega), r3 160 87 (by omega) (by omega), o3 160 87 (by omega) (by omega)]; exact k87
  · rw [s3 217 _ (by omega) (by omega), r3 217 _ (by omega) (by omega), o3 217 _ (by omega) (by omega)]; exact k217
  · rw [s3 218 _ (by omega) (by omega), r3 218 _ (by omega) (by omega), o3 218 _ (by omega) (by omega)]; exact k218
  · rw [s3 206 _ (by omega) (by omega), r3 206 _ (by omega) (by omega)]; exact o2 q
  · rw [s3 206 _ (by omega) (by omega)]; exact r2 q
  · exact s2 (by omega)
  · rw [s3 cc x (by omega) (by omega), r3 cc x (by omega) (by omega), o3 cc x (by omega) (by omega), K cc x (by omega) z3]
end
