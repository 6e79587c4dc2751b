/- WHAT THE CALLS OF THE REFERENCE KEEP -/
section
variable {nn : Nat} {h g r z : ms_M} {p q P Q L : Int}
theorem rgo_k (V : VS_ r) (S : SPD r) (A : AGe h r) (N : ∀ x j : Nat, 246 ≤ x → x ≤ 255 → r x j = h x j) (e1 : r 160 141 = h 160 141) (e2 : r 160 142 = h 160 142) (e9 : r 160 149 = h 160 149) (G : RGO nn h) : RGO nn r := by
  obtain ⟨ω, g, X, hd, H, t, ⟨c, k, N2, T, U, a, p, ⟨b1, b2, b3, b4, b5⟩, C⟩, S2⟩ := G
  have K : HSM h r := ⟨fun x y1 y2 => funext fun j => N x j (by omega) (by omega), e1, e2⟩
  have hx := hsm_x K
  have L3 : ∀ i : Int, LWK h i r := fun i => ⟨fun y _ _ => ⟨N 251 _ (by omega) (by omega), N 252 _ (by omega) (by omega), N 253 _ (by omega) (by omega), N 254 _ (by omega) (by omega)⟩, fun y _ _ => N 255 _ (by omega) (by omega)⟩
  refine ⟨ω, g, ⟨X.1, age_tr X.2.1 A, V, S⟩, by rw [e9]; exact hd, hpo_s K H, t, ⟨c, k, N2, T, U, a, p, ⟨b1, b2, ?_, b4, ?_⟩, ?_⟩, ?_⟩
  · rw [e9, N 251 _ (by omega) (by omega), N 252 _ (by omega) (by omega)]; exact b3
  · rw [e9, N 253 _ (by omega) (by omega)]; exact b5
  · rw [e9]
    refine ⟨fun y y1 y2 => ?_, ?_, fun y y1 y2 => ?_⟩
    · rw [N 255 _ (by omega) (by omega)]; exact cv_x hx (C.1 y y1 y2)
    · rw [N 254 _ (by omega) (by omega)]; exact C.2.1
    · rw [N 255 _ (by omega) (by omega)]; exact cv_x hx (C.2.2 y y1 y2)
  · rw [e9]; exact stk_k _ _ (L3 _) hx S2
theorem vrd_k (A : AGe h r) (D : VRD nn h) : VRD nn r := by
  obtain ⟨ω, g, X, B⟩ := D
  exact ⟨ω, g, X, age_tr B A⟩
/-- the texts of the reference -/
def RTa (L : Int) (h : ms_M) : Prop := HW_ h ∧ NW_ h ∧ LB h ∧ h 160 88 ≤ L
/-- THE INVARIANT OF THE REFERENCE -/
def RVa (nn : Nat) (P L : Int) (h : ms_M) : Prop := RTa L h ∧ SPD h ∧ (¬ h 160 99 = 0 → VRD nn h) ∧ (h 160 138 = 1 → RGO nn h) ∧ (0 ≤ h 160 143 ∧ h 160 143 ≤ P)
theorem rta_k (N : ∀ x k : Nat, 163 ≤ x → x ≤ 220 → r x k = h x k) (e : r 160 88 = h 160 88) (A : RTa L h) : RTa L r := by
  obtain ⟨a, b, c, d⟩ := A
  refine ⟨⟨fun t ht => ?_, fun m hm => ?_⟩, fun t ht => ?_, fun i hi => ?_, by rw [e]; exact d⟩
  · rw [N 164 t (by omega) (by omega), N 165 t (by omega) (by omega)]; exact a.1 t ht
  · rw [N 188 m (by omega) (by omega), N 189 m (by omega) (by omega)]; exact a.2 m hm
  · rw [N 163 t (by omega) (by omega)] at ht
    rw [N 165 t (by omega) (by omega)]; exact b t ht
  · rw [N 219 i (by omega) (by omega), N 220 i (by omega) (by omega), e]; exact c i hi
/-- space and run of the reference are the same -/
theorem rva_k (V0 : VS_ h) (V : VS_ r) (T : RTa Q r) (N : ∀ x k : Nat, 226 ≤ x → x ≤ 255 → (x ≤ 237 ∨ 246 ≤ x) → r x k = h x k) (e : ∀ k : Nat, (k = 98 ∨ k = 99 ∨ k = 138 ∨ k = 141 ∨ k = 142 ∨ k = 143 ∨ k = 149) → r 160 k = h 160 k) (A : RVa nn P L h) : RVa nn P Q r := by
  obtain ⟨a, b, c, d, f⟩ := A
  have N1 : ∀ x k : Nat, 226 ≤ x → x ≤ 237 → r x k = h x k := fun x k y1 y2 => N x k (by omega) (by omega) (by omega)
  have S := spd_k V0 N1 (e 98 (by omega)) b
  have G := age_k N1 (e 98 (by omega))
  refine ⟨T, S, fun y => vrd_k G (c (by rw [← e 99 (by omega)]; exact y)), fun y => ?_, by rw [e 143 (by omega)]; exact f⟩
  exact rgo_k V S G (fun x j y1 y2 => N x j (by omega) (by omega) (by omega)) (e 141 (by omega)) (e 142 (by omega)) (e 149 (by omega)) (d (by rw [← e 138 (by omega)]; exact y))
theorem rva_all (V0 : VS_ h) (V : VS_ r) (N : ∀ x k : Nat, 160 ≤ x → x ≤ 255 → r x k = h x k) (A : RVa nn P L h) : RVa nn P L r :=
  rva_k V0 V (rta_k (fun x k y1 y2 => N x k (by omega) (by omega)) (N 160 88 (by omega) (by omega)) A.1) (fun x k y1 y2 _ => N x k (by omega) (by omega)) (fun k _ => N 160 k (by omega) (by omega)) A
/-- the class is left as it was -/
theorem cva_ref (V : VS_ g) (N : ∀ x k : Nat, (x < 160 ∨ 256 ≤ x) → g x k = h x k) (C : CVa p h) : CVa p g := by
  obtain ⟨⟨V0, M, S, d, e⟩, W, A, J⟩ := C
  have g3 := gF_56_3 V0
  have K : KEP h g := by
    refine ⟨⟨fun k => N _ _ (by omega), N _ _ (by omega), fun k hk => ⟨fun i j hi => ?_, fun j => ?_⟩⟩, fun k => N _ _ (by omega), fun k => N _ _ (by omega), fun k => N _ _ (by omega), ⟨N _ _ (by omega), N _ _ (by omega), N _ _ (by omega), N _ _ (by omega), N _ _ (by omega)⟩, N _ _ (by omega)⟩
    · have := im_at (V0.2.2.2.2.1 k (by omega)).2
      exact N _ _ (by omega)
    · have := (J k hk).1
      exact N _ _ (by omega)
  refine cv_k ⟨⟨V0, M, S, d, e⟩, W, A, J⟩ ⟨V, nm_eq M (fun k => N _ _ (by omega)) (N _ _ (by omega)), si_eq V0 S (fun k => N _ _ (by omega)) (N _ _ (by omega)) (fun b hb => ?_), ?_, ?_⟩ K
  · have := im_at hb
    exact ⟨N _ _ (by omega), fun k => N _ _ (by omega)⟩
  · rw [N _ _ (by omega), N _ _ (by omega)]; exact d
  · rw [N _ _ (by omega)]; exact e
theorem T_ref : (List.range 96).all (fun i => !(Nat.beq (ly_T (160 + i)) 1) && !(is_I (160 + i))) = true := by decide +kernel
theorem nw_ref {A : List Nat} {B : List (Nat × Nat)} {bI bB : Bool} {c k : Nat} (q : (A.all (fun x => Nat.blt x 160) && B.all (fun y => Nat.blt y.1 160)) = true) (hc : 160 ≤ c ∧ c ≤ 255) : nw_F A B bI bB c k = true := by
  rw [Bool.and_eq_true] at q
  have t := List.all_eq_true.mp T_ref (c - 160) (List.mem_range.mpr (by omega))
  rw [show 160 + (c - 160) = c by omega, Bool.and_eq_true] at t
  unfold nw_F
  simp only [Bool.and_eq_true, Bool.or_eq_true]
  refine ⟨?_, ?_, .inr t.2, .inr t.1⟩
  · cases hq : A.contains c with
    | false => rfl
    | true => have := List.all_eq_true.mp q.1 c (List.contains_iff_mem.mp hq); rw [Nat.blt_eq] at this; omega
  · cases hq : B.contains (c, k) with
    | false => rfl
    | true => have := List.all_eq_true.mp q.2 _ (List.contains_iff_mem.mp hq); rw [Nat.blt_eq] at this; omega
theorem nw_cls {A : List Nat} {B : List (Nat × Nat)} {c k : Nat} (q : (A.all (fun x => Nat.ble 160 x && Nat.ble x 255) && B.all (fun y => Nat.ble 160 y.1 && Nat.ble y.1 255)) = true) (hc : c < 160 ∨ 256 ≤ c) : nw_F A B false false c k = true := by
  rw [Bool.and_eq_true] at q
  unfold nw_F
  simp only [Bool.and_eq_true]
  refine ⟨?_, ?_, rfl, rfl⟩
  · cases hq : A.contains c with
    | false => rfl
    | true => have := List.all_eq_true.mp q.1 c (List.contains_iff_mem.mp hq); rw [Bool.and_eq_true, Nat.ble_eq, Nat.ble_eq] at this; omega
  · cases hq : B.contains (c, k) with
    | false => rfl
    | true => have := List.all_eq_true.mp q.2 _ (List.contains_iff_mem.mp hq); rw [Bool.and_eq_true, Nat.ble_eq, Nat.ble_eq] at this; dsimp only at this; omega
/-- BOTH -/
def BVa (nn : Nat) (P L : Int) (h : ms_M) : Prop := CVa P h ∧ RVa nn P L h
theorem bva_v (B : BVa nn P L h) : VS_ h := B.1.1.1
/-- a call of the class keeps the reference -/
theorem bva_c (B : BVa nn P L h) (C : CVa Q g) (le : P ≤ Q) (N : ∀ x k : Nat, 160 ≤ x → x ≤ 255 → g x k = h x k) : BVa nn Q L g := by
  have R := rva_all B.1.1.1 C.1.1 N B.2
  exact ⟨C, R.1, R.2.1, R.2.2.1, R.2.2.2.1, R.2.2.2.2.1, by have := R.2.2.2.2.2; omega⟩
/-- a call of the reference keeps the class -/
theorem bva_r (B : BVa nn P L h) (V : VS_ g) (R : RVa nn P Q g) (N : ∀ x k : Nat, (x < 160 ∨ 256 ≤ x) → g x k = h x k) : BVa nn P Q g := ⟨cva_ref V N B.1, R⟩
end
