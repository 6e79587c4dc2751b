section
variable {nn : Nat} {h g r z t : ms_M} {c : Int}
/-- image c as if it were being read -/
def vw (h : ms_M) (c : Int) : ms_M := fun x k => if x = 238 then h 226 (6000 * c.toNat + k) else if x = 160 then (if k = 113 then h 227 c.toNat else c) else h x k
theorem vw_238 {k : Nat} : vw h c 238 k = h 226 (6000 * c.toNat + k) := if_pos rfl
theorem vw_113 : vw h c 160 113 = h 227 c.toNat := rfl
theorem vw_115 : vw h c 160 115 = c := rfl
theorem vw_o {x k : Nat} (a : x ≠ 238) (b : x ≠ 160) : vw h c x k = h x k := by unfold vw; rw [if_neg a, if_neg b]
theorem cp_eq {p : Int} (C : CP h p) (e : r 160 113 = h 160 113) (A : ∀ i : Nat, (i : Int) < h 160 113 → r 238 i = h 238 i) : CP r p := by
  have C0 := C
  obtain ⟨c0, c1⟩ := C
  have b : p + 2 ≤ h 160 113 := by rcases c1 with x | x | x | x <;> omega
  unfold CP
  rw [A p.toNat (by omega), A (p + 1).toNat (by omega), e]
  exact C0
/-- what was read without FORM stays so where its bytes and rows stay -/
theorem im8_eq (hc : 0 ≤ c) (I : IM8 h c) (V : VS_ h) (h7 : c ≤ 7) (e113 : r 160 113 = h 160 113) (e115 : r 160 115 = c) (T : ∀ i : Int, 0 ≤ i → i ≤ 255 → pl r c i = pl h c i) (e9 : r 229 c.toNat = h 229 c.toNat) (e0 : r 230 c.toNat = h 230 c.toNat) (e1 : r 231 c.toNat = h 231 c.toNat) (A : ∀ i : Nat, (i : Int) < h 160 113 → r 238 i = h 238 i) : IM8 r c := by
  obtain ⟨⟨_, s2, s3⟩, i2, i3⟩ := I
  have g9 := gA_229 V c.toNat (by omega)
  have lt : ∀ i : Int, 1 ≤ i → i ≤ h 229 c.toNat → 3 ≤ pl h c i ∧ pl h c i + 2 ≤ h 160 113 := fun i a b => by
    obtain ⟨c0, c1⟩ := s2 i a b
    refine ⟨c0, ?_⟩
    rcases c1 with x | x | x | x <;> omega
  have tag : ∀ i : Int, 1 ≤ i → i ≤ h 229 c.toNat → r 238 (pl r c i).toNat = h 238 (pl h c i).toNat := fun i a b => by
    have := lt i a b
    rw [T i (by omega) (by omega)]; exact A _ (by omega)
  have tx : ∀ i, TX h c i → TX r c i := fun i x => ⟨by rw [e9]; exact x.1, by rw [tag i x.1.1 x.1.2]; exact x.2⟩
  have cl : ∀ i, CL h c i → CL r c i := fun i x => ⟨by rw [e9]; exact x.1, by rw [tag i x.1.1 x.1.2]; exact x.2⟩
  refine ⟨⟨e115, fun i a b => ?_, fun i a b => ?_⟩, by rw [e0]; exact cl _ i2, by rw [e1]; exact cl _ i3⟩
  · rw [e9] at b
    rw [T i (by omega) (by omega)]
    exact cp_eq (s2 i a b) e113 A
  · rw [e9] at b
    have l := lt i a b
    have ck := s3 i a b
    obtain ⟨_, cp⟩ := s2 i a b
    rw [T i (by omega) (by omega)]
    unfold CK8
    rw [A _ (by omega), A _ (by omega)]
    refine ⟨fun y => tx _ (ck.1 y), fun y => ?_⟩
    have l4 : pl h c i + 4 ≤ h 160 113 := by
      rcases cp with x | x | x | x
      · exfalso; omega
      · exfalso; omega
      · exfalso; omega
      · exact x.2
    rw [A (pl h c i + 2).toNat (by omega), A (pl h c i + 3).toNat (by omega)]
    exact ⟨cl _ (ck.2 y).1, tx _ (ck.2 y).2.1, tx _ (ck.2 y).2.2⟩
/-- an image of the space -/
def IMG (h : ms_M) (c : Int) : Prop := IM8 (vw h c) c
def SPC (h : ms_M) : Prop := ∀ c : Int, 0 ≤ c → c < h 160 98 → IMG h c
/-- the places of a class's name -/
theorem nm_at (V : VS_ h) (hc : 0 ≤ c ∧ c ≤ 7) (I : IMG h c) : Ok_ (qf_X13_nameAt nn (8 + c) h) (fun u => (6000 * c ≤ u ∧ u + 1 + h 226 u.toNat ≤ 6000 * c + 6000) ∧ (1 ≤ h 226 u.toNat ∧ h 226 u.toNat ≤ 120)) := by
  obtain ⟨⟨_, s2, s3⟩, i2, _⟩ := I
  have o : ∀ x k : Nat, x ≠ 238 → x ≠ 160 → vw h c x k = h x k := fun x k a b => vw_o a b
  have n6 := gA_227 V c.toNat (by omega)
  have e113 : vw h c 160 113 = h 227 c.toNat := vw_113
  have e9 := o 229 c.toNat (by decide) (by decide)
  have e0 := o 230 c.toNat (by decide) (by decide)
  have g9 := gA_229 V c.toNat (by omega)
  obtain ⟨i21, i22⟩ := i2
  have cp := s2 _ i21.1 i21.2
  have ck := (s3 _ i21.1 i21.2).1 i22
  rw [e0] at cp ck i21 i22
  rw [e9] at i21
  have ep : pl (vw h c) c (h 230 c.toNat) = h 228 (256 * c + h 230 c.toNat).toNat := o 228 _ (by decide) (by decide)
  rw [ep] at cp ck i22
  obtain ⟨p0, p1⟩ := cp
  have p2 : h 228 (256 * c + h 230 c.toNat).toNat + 2 ≤ h 227 c.toNat := by
    rw [← e113]
    rcases p1 with x | x | x | x <;> omega
  rw [vw_238] at ck
  obtain ⟨j1, j2⟩ := ck
  have cq := s2 _ j1.1 j1.2
  rw [e9] at j1
  have eq : pl (vw h c) c (h 226 (6000 * c.toNat + (h 228 (256 * c + h 230 c.toNat).toNat + 1).toNat)) = h 228 (256 * c + h 226 (6000 * c.toNat + (h 228 (256 * c + h 230 c.toNat).toNat + 1).toNat)).toNat := o 228 _ (by decide) (by decide)
  rw [eq] at cq j2
  unfold qf_X13_nameAt
  refine ok_sub (by omega) ?_; intro v1 e1
  rw [show v1 = c by omega]
  refine ok_mul (by omega) ?_; intro v2 e2
  refine ok_mul (by omega) ?_; intro v4 e4
  refine ok_rd (by omega) (gA_230 V) ?_; intro v6 e6 a6 b6
  refine ok_add (by omega) ?_; intro v7 e7
  refine ok_rd (by omega) (gA_228 V) ?_; intro v8 e8 a8 b8
  have w8 : v8 = h 228 (256 * c + h 230 c.toNat).toNat := by rw [e8, e7, e4, e6]
  refine ok_add (by omega) ?_; intro v9 e9'
  refine ok_mul (by omega) ?_; intro v10 e10
  refine ok_mul (by omega) ?_; intro v12 e12
  refine ok_add (by omega) ?_; intro v14 e14
  refine ok_rd (by omega) (gA_226 V) ?_; intro v15 e15 a15 b15
  have w15 : v15 = h 226 (6000 * c.toNat + (h 228 (256 * c + h 230 c.toNat).toNat + 1).toNat) := by rw [e15, show v14.toNat = 6000 * c.toNat + (h 228 (256 * c + h 230 c.toNat).toNat + 1).toNat by omega]
  rw [← w15] at j1 j2 cq
  refine ok_add (by omega) ?_; intro v16 e16
  refine ok_rd (by omega) (gA_228 V) ?_; intro v17 e17 a17 b17
  have w17 : v17 = h 228 (256 * c + v15).toNat := by rw [e17, e16, e12]
  rw [← w17] at j2 cq
  refine ok_add (by omega) ?_; intro v18 e18
  refine ok_add (by omega) ?_; intro v19 e19
  obtain ⟨q0, q1⟩ := cq
  have q2 : (1 ≤ vw h c 238 (v17 + 1).toNat ∧ vw h c 238 (v17 + 1).toNat ≤ 120) ∧ v17 + 2 + vw h c 238 (v17 + 1).toNat ≤ h 227 c.toNat := by
    rw [← e113]
    rcases q1 with x | x | x | x
    · exact x.2
    · exfalso; omega
    · exfalso; omega
    · exfalso; omega
  rw [vw_238, show 6000 * c.toNat + (v17 + 1).toNat = v19.toNat by omega] at q2
  exact ok_ret ⟨⟨by omega, by omega⟩, q2.1⟩
theorem nm_184 {x : Nat} {n : Int} (R : RW_ x n) (V : VS_ h) {l3 l4 l5 : Int} (r3 : 0 ≤ l3 ∧ l3 + l4 ≤ n) (r4 : 0 ≤ l4 ∧ l4 ≤ 255) (r5 : 0 ≤ l5 ∧ l5 < 48000) : ∀ (k : Nat) (l6 l7 : Int), (l6 = 0 ∨ (l6 = 1 ∧ l5 + 1 + l4 ≤ 48000)) → (0 ≤ l7 ∧ l7 ≤ l4) → l4 - l7 < (k : Int) → Ok_ (qw_X13_isNamed_184 nn k x l3 l4 l5 l6 l7 h) (fun u => u = 0 ∨ u = 1) := by
  have hn' : n ≤ 48000 := by rcases R with ⟨_, e⟩ | ⟨_, e⟩ <;> omega
  intro k
  induction k with
  | zero => intro l6 l7 a b hm; exfalso; omega
  | succ k ih =>
    intro l6 l7 a b hm
    have a' : l6 = 0 ∨ l6 = 1 := by omega
    unfold qw_X13_isNamed_184
    refine ok_if (fun _ => ok_ck a' (ok_ret a')) (fun C => ?_)
    refine ok_if (fun _ => ok_ck a' (ok_ret a')) (fun D => ?_)
    refine ok_add (by omega) ?_; intro v4 e4
    refine ok_add (by omega) ?_; intro v5 e5
    refine ok_rd (by omega) (gA_226 V) ?_; intro v6 _ _ _
    refine ok_add (by omega) ?_; intro v7 e7
    refine ok_rS R V (by omega) ?_; intro v8 _ _ _
    refine ok_if (fun _ => ?_) (fun _ => ?_)
    · refine ok_add (by omega) ?_; intro v9 e9
      exact ih 0 v9 (.inl rfl) (by omega) (by omega)
    · refine ok_add (by omega) ?_; intro v10 e10
      exact ih 1 v10 (.inr ⟨rfl, by omega⟩) (by omega) (by omega)
end
