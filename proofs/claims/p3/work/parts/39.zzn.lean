section
variable {KT : Int} {nn : Nat} {h h0 r : ms_M}
theorem fi_eq (I : FI KT h) (A : ∀ c k : Nat, 208 ≤ c → c ≤ 212 → r c k = h c k) (e71 : r 160 71 = h 160 71) (e72 : r 160 72 = h 160 72) (e78 : r 160 78 = h 160 78) (e79 : r 160 79 = h 160 79) : FI KT r := by
  refine ⟨fun x hx => ?_, fun f hf => ?_, fun f g hf hg e => ?_⟩
  · rw [A 212 x (by decide) (by decide)]; exact I.1 x (by omega)
  · rw [A 209 f (by decide) (by decide), A 210 f (by decide) (by decide), A 211 f (by decide) (by decide), e71, e72, e79]
    exact I.2.1 f (by omega)
  · rw [A 208 f (by decide) (by decide), A 208 g (by decide) (by decide)] at e
    exact I.2.2 f g (by omega) (by omega) e
theorem fp_eq (P : FP KT h) (A : ∀ k : Nat, r 207 k = h 207 k ∧ r 197 k = h 197 k) (e50 : r 160 50 = h 160 50) (e70 : r 160 70 = h 160 70) (e71 : r 160 71 = h 160 71) (e72 : r 160 72 = h 160 72) (e52 : r 160 52 = h 160 52) : FP KT r := ⟨fun x hx => by rw [(A x).1]; exact P.1 x (by omega), fun x hx => by rw [(A x).2]; exact P.2.1 x (by omega), by have := P.2.2.1; omega, by have := P.2.2.2; omega⟩
/-- the jumps with label l are taken out; the first n, which have others, stay -/
def QS (KT l n : Int) (h r : ms_M) : Prop := VS_ r ∧ FI KT r ∧ (n ≤ r 160 87 ∧ r 160 87 ≤ h 160 87) ∧ (∀ i : Nat, (i : Int) < n → r 217 i = h 217 i ∧ r 218 i = h 218 i) ∧ (∀ i : Nat, n ≤ (i : Int) → (i : Int) < r 160 87 → ¬ r 218 i = l ∧ ∃ j : Nat, (n ≤ (j : Int) ∧ (j : Int) < h 160 87) ∧ r 218 i = h 218 j ∧ r 217 i = h 217 j) ∧ ((r 160 78 = h 160 78 ∧ r 160 79 = h 160 79) ∨ (r 160 87 + 1 ≤ h 160 87 ∧ (h 160 78 ≤ r 160 78 ∧ r 160 78 ≤ h 160 78 + 1) ∧ (h 160 79 ≤ r 160 79 ∧ r 160 79 ≤ h 160 79 + 1 + h 160 50 + h 160 70)))
/-- the loop's state -/
def SL (l n l4 l5 : Int) (h0 h : ms_M) : Prop := VS_ h ∧ (∀ c k : Nat, c ≠ 206 → c ≠ 217 → c ≠ 218 → h c k = h0 c k) ∧ (∀ i : Nat, (i : Int) < l4 → (i : Int) < n → h 217 i = h0 217 i ∧ h 218 i = h0 218 i) ∧ (∀ i : Nat, n ≤ (i : Int) → (i : Int) < l4 → ¬ h 218 i = l ∧ ∃ j : Nat, (n ≤ (j : Int) ∧ (j : Int) < h0 160 87) ∧ h 218 i = h0 218 j ∧ h 217 i = h0 217 j) ∧ (∀ i : Nat, l5 ≤ (i : Int) → h 217 i = h0 217 i ∧ h 218 i = h0 218 i) ∧ (0 ≤ l4 ∧ l4 ≤ l5 ∧ l5 ≤ h0 160 87) ∧ ((l5 ≤ n ∧ l4 = l5) ∨ (n ≤ l5 ∧ n ≤ l4))
theorem sl_code {l n l4 l5 : Int} {z : ms_M} {j : Nat} {v : Int} (S : SL l n l4 l5 h0 h) (E : z = up_M h 206 j v) (hv : 0 ≤ v ∧ v ≤ 255) : SL l n l4 l5 h0 z := by
  obtain ⟨s1, s2, s3, s4, s5, s6, s7⟩ := S
  have n1 : ∀ c k : Nat, c ≠ 206 → z c k = h c k := fun c k w => by rw [E]; exact up_n (by omega)
  refine ⟨by rw [E]; exact wA_206 s1 hv, fun c k a b d => by rw [n1 c k a, s2 c k a b d], fun i a b => ?_, fun i a b => ?_, fun i a => ?_, s6, s7⟩
  · rw [n1 217 i (by decide), n1 218 i (by decide)]; exact s3 i a b
  · rw [n1 218 i (by decide), n1 217 i (by decide)]; exact s4 i a b
  · rw [n1 217 i (by decide), n1 218 i (by decide)]; exact s5 i a
/-- one jump more is passed over -/
theorem sl_next {l n l4 l5 : Int} (S : SL l n l4 l5 h0 h) (h5 : l5 < h0 160 87) (hl : h 218 l5.toNat = l) (hN : ∀ i : Nat, (i : Int) < n → ¬ h0 218 i = l) : SL l n l4 (l5 + 1) h0 h := by
  obtain ⟨s1, s2, s3, s4, s5, s6, s7⟩ := S
  refine ⟨s1, s2, s3, s4, fun i a => s5 i (by omega), by omega, ?_⟩
  have q : n ≤ l5 := by
    by_cases w : n ≤ l5
    · exact w
    · exfalso
      have := (s5 l5.toNat (by omega)).2
      exact hN l5.toNat (by omega) (by rw [← this]; exact hl)
  omega
theorem sl_keep {l n l4 l5 : Int} {g z : ms_M} (S : SL l n l4 l5 h0 h) (h5 : l5 < h0 160 87) (hl : ¬ h 218 l5.toNat = l) (E1 : g = up_M h 217 l4.toNat (h 217 l5.toNat)) (E2 : z = up_M g 218 l4.toNat (h 218 l5.toNat)) : SL l n (l4 + 1) (l5 + 1) h0 z := by
  obtain ⟨s1, s2, s3, s4, s5, s6, s7⟩ := S
  have g87 : h0 160 87 ≤ 3000 := by rw [← s2 160 87 (by decide) (by decide) (by decide)]; exact (gF_160_87 s1).2
  have a7 := gA_217 s1 l5.toNat (by omega)
  have a8 := gA_218 s1 l5.toNat (by omega)
  have n1 : ∀ c k : Nat, ¬ (c = 217 ∧ k = l4.toNat) → ¬ (c = 218 ∧ k = l4.toNat) → z c k = h c k := fun c k w w2 => by rw [E2, up_n w2, E1, up_n w]
  have z7 : z 217 l4.toNat = h 217 l5.toNat := by rw [E2, up_n (by omega), E1, up_s]
  have z8 : z 218 l4.toNat = h 218 l5.toNat := by rw [E2, up_s]
  have V1 : VS_ g := by rw [E1]; exact wA_217 s1 a7
  have V2 : VS_ z := by rw [E2]; exact wA_218 V1 a8
  have o5 := s5 l5.toNat (by omega)
  refine ⟨V2, fun c k a b d => by rw [n1 c k (by omega) (by omega), s2 c k a b d], fun i a b => ?_, fun i a b => ?_, fun i a => ?_, by omega, by omega⟩
  · by_cases w : i = l4.toNat
    · rw [w, z7, z8, o5.1, o5.2, show l5.toNat = l4.toNat by omega]; exact ⟨rfl, rfl⟩
    · rw [n1 217 i (by omega) (by omega), n1 218 i (by omega) (by omega)]; exact s3 i (by omega) b
  · by_cases w : i = l4.toNat
    · rw [w, z7, z8]
      exact ⟨hl, l5.toNat, ⟨by omega, by omega⟩, o5.2, o5.1⟩
    · rw [n1 217 i (by omega) (by omega), n1 218 i (by omega) (by omega)]; exact s4 i a (by omega)
  · rw [n1 217 i (by omega) (by omega), n1 218 i (by omega) (by omega)]; exact s5 i (by omega)
theorem vm_st8 (hn : 1000000 ≤ nn) {l1 l2 n : Int} (r2 : 0 ≤ l2 ∧ l2 ≤ 1000000000) (hN : ∀ i : Nat, (i : Int) < n → ¬ h0 218 i = l1) (hn2 : 0 ≤ n ∧ n ≤ h0 160 87) (h78 : h0 160 78 ≤ 6199) (P : FP KT h0) (I : FI KT h0) : ∀ (k : Nat) (l3 l4 l5 : Int) (h : ms_M), SL l1 n l4 l5 h0 h → ((l3 = 0 ∧ l4 ≤ l5) ∨ (l3 = 1 ∧ l4 + 1 ≤ l5)) → 3001 - l5 < (k : Int) → Ok_ (qw_X13_stands_8 nn k l1 l2 l3 l4 l5 h) (QS KT l1 n h0) := by
  intro k
  induction k with
  | zero => intro l3 l4 l5 h S r3 hm; have := S.2.2.2.2.2.1; have e := S.2.1 160 87 (by decide) (by decide) (by decide); have := gF_160_87 S.1; exfalso; omega
  | succ k ih =>
    intro l3 l4 l5 h S r3 hm
    have e87 := S.2.1 160 87 (by decide) (by decide) (by decide)
    have g87 := gF_160_87 S.1
    have s6 := S.2.2.2.2.2.1
    unfold qw_X13_stands_8
    refine ok_if (fun C => ?_) (fun C => ?_)
    · obtain ⟨s1, s2, s3, s4, s5, s6, s7⟩ := S
      refine ok_xl ?_; intro g E
      have n1 : ∀ c k : Nat, ¬ (c = 160 ∧ k = 87) → g c k = h c k := fun c k w => by rw [E]; exact up_n w
      have V2 : VS_ g := by rw [E]; exact wF_160_87 s1 (by omega)
      have q87 : g 160 87 = l4 := by rw [E]; exact up_s
      have m : ∀ c k : Nat, c ≠ 206 → c ≠ 217 → c ≠ 218 → ¬ (c = 160 ∧ k = 87) → g c k = h0 c k := fun c k a b d w => by rw [n1 c k w, s2 c k a b d]
      have q78 := m 160 78 (by decide) (by decide) (by decide) (by decide)
      have q79 := m 160 79 (by decide) (by decide) (by decide) (by decide)
      have q50 := m 160 50 (by decide) (by decide) (by decide) (by decide)
      have q70 := m 160 70 (by decide) (by decide) (by decide) (by decide)
      have q71 := m 160 71 (by decide) (by decide) (by decide) (by decide)
      have q72 := m 160 72 (by decide) (by decide) (by decide) (by decide)
      have q52 := m 160 52 (by decide) (by decide) (by decide) (by decide)
      have Ig : FI KT g := fi_eq I (fun c k a b => m c k (by omega) (by omega) (by omega) (by omega)) q71 q72 q78 q79
      have Pg : FP KT g := fp_eq P (fun k => ⟨m 207 k (by decide) (by decide) (by decide) (by omega), m 197 k (by decide) (by decide) (by decide) (by omega)⟩) q50 q70 q71 q72 q52
      have A1 : ∀ i : Nat, (i : Int) < n → g 217 i = h0 217 i ∧ g 218 i = h0 218 i := fun i a => by rw [n1 217 i (by omega), n1 218 i (by omega)]; exact s3 i (by omega) a
      have A2 : ∀ i : Nat, n ≤ (i : Int) → (i : Int) < l4 → ¬ g 218 i = l1 ∧ ∃ j : Nat, (n ≤ (j : Int) ∧ (j : Int) < h0 160 87) ∧ g 218 i = h0 218 j ∧ g 217 i = h0 217 j := fun i a b => by rw [n1 217 i (by omega), n1 218 i (by omega)]; exact s4 i a b
      refine ok_if (fun C2 => ?_) (fun C2 => ?_)
      · unfold qj_X13_stands_154
        exact ok_ret ⟨V2, Ig, by omega, A1, fun i a b => A2 i a (by omega), .inl ⟨q78, q79⟩⟩
      · obtain ⟨u, eu, F⟩ := vm_frame hn V2 r2 (by omega) Pg Ig
        rw [eu, mx_svs]
        unfold qj_X13_stands_154
        have f : ∀ c k, nw_F wl_X13_frame wf_X13_frame false false c k = true → u c k = g c k := fun c k w => (ff_X13_frame nn) _ eu c k w
        have w87 : u 160 87 = g 160 87 := f 160 87 rfl
        have w7 : ∀ i : Nat, u 217 i = g 217 i := fun i => f 217 i (nw_ar rfl i)
        have w8 : ∀ i : Nat, u 218 i = g 218 i := fun i => f 218 i (nw_ar rfl i)
        obtain ⟨F1, F2, F3, F4⟩ := F
        refine ok_ret ⟨F1, F2, by omega, fun i a => by rw [w7, w8]; exact A1 i a, fun i a b => by rw [w7, w8]; exact A2 i a (by omega), .inr ⟨by omega, by omega, by omega⟩⟩
    · refine ok_rd (by omega) (gA_218 S.1) ?_; intro v7 e7 a7 b7
      refine ok_if (fun C2 => ?_) (fun C2 => ?_)
      · refine ok_rd (by omega) (gA_217 S.1) ?_; intro v10 e10 a10 b10
        refine ok_wA (by omega) ?_; intro h11 E11
        have V11 : VS_ h11 := by rw [E11]; exact wA_217 S.1 (by omega)
        refine ok_rd (by omega) (gA_218 V11) ?_; intro v14 e14 a14 b14
        have e14b : v14 = h 218 l5.toNat := by rw [e14, E11, up_n (by omega)]
        refine ok_wA (by omega) ?_; intro h15 E15
        rw [e10] at E11
        rw [e14b] at E15
        have S15 := sl_keep S (by omega) (by rw [← e7]; exact C2) E11 E15
        refine ok_add (by omega) ?_; intro v16 e16
        refine ok_add (by omega) ?_; intro v17 e17
        rw [← e16, ← e17] at S15
        exact ih l3 v16 v17 h15 S15 (by omega) (by omega)
      · have C2 : v7 = l1 := Decidable.not_not.1 C2
        have Sn := sl_next S (by omega) (by rw [← e7]; exact C2) hN
        refine ok_rd (by omega) (gA_217 S.1) ?_; intro v19 e19 a19 b19
        refine ok_sub (by omega) ?_; intro v20 e20
        refine ok_rd (by omega) (gA_217 S.1) ?_; intro v22 e22 a22 b22
        refine ok_add (by omega) ?_; intro v23 e23
        refine ok_if (fun C3 => ?_) (fun C3 => ?_)
        · refine ok_add (by omega) ?_; intro v24 e24
          rw [← e24] at Sn
          exact ih 1 l4 v24 h Sn (.inr ⟨rfl, by omega⟩) (by omega)
        · refine ok_rd (by omega) (gA_217 S.1) ?_; intro v27 e27 a27 b27
          refine ok_add (by omega) ?_; intro v28 e28
          refine ok_xl ?_; intro v29 _
          refine ok_and (by decide) ?_; intro v30 a30 b30
          refine ok_wA (by omega) ?_; intro h31 E31
          have S31 := sl_code Sn E31 (by omega)
          refine ok_rd (by omega) (gA_217 S31.1) ?_; intro v34 e34 a34 b34
          have e34b : v34 = h 217 l5.toNat := by rw [e34, E31, up_n (by omega)]
          refine ok_add (by omega) ?_; intro v35 e35
          refine ok_and (by decide) ?_; intro v36 a36 b36
          refine ok_wA (by omega) ?_; intro h37 E37
          have S37 := sl_code S31 E37 (by omega)
          refine ok_add (by omega) ?_; intro v38 e38
          rw [← e38] at S37
          exact ih 1 l4 v38 h37 S37 (.inr ⟨rfl, by omega⟩) (by omega)
/-- a label stands here -/
theorem vm_stands (hn : 1000000 ≤ nn) {l a n : Int} (V : VS_ h) (ra : 0 ≤ a ∧ a ≤ 1000000000) (hN : ∀ i : Nat, (i : Int) < n → ¬ h 218 i = l) (hn2 : 0 ≤ n ∧ n ≤ h 160 87) (h78 : h 160 78 ≤ 6199) (P : FP KT h) (I : FI KT h) : Ok_ (qf_X13_stands nn l a h) (QS KT l n h) := by
  have g87 := gF_160_87 V
  unfold qf_X13_stands
  exact vm_st8 hn ra hN hn2 h78 P I nn 0 0 0 h ⟨V, fun _ _ _ _ _ => rfl, fun _ _ _ => ⟨rfl, rfl⟩, fun i a b => by exfalso; omega, fun _ _ => ⟨rfl, rfl⟩, by omega, by omega⟩ (.inl ⟨rfl, by omega⟩) (by omega)
end
