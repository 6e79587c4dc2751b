/- LOAD AND KEEP OF BOTH SIDES -/
section
variable {nn : Nat} {h r g M M2 : ms_M} {c : Int} {B : Nat → Int} {n : Nat}
/-- the tape goes to the look: what loaded finds -/
theorem r_ldcopy (V : VS_ h) : Pc (qf_X13_load nn h) (fun u => ∃ g, VS_ g ∧ qf_X13_loaded nn g = some u ∧ (∀ i : Nat, g 238 i = if (i : Int) < h 160 1 then h 161 i else h 238 i) ∧ g 160 113 = h 160 1 ∧ ∀ x k, x ≠ 238 → ¬ (x = 160 ∧ (k = 113 ∨ k = 1)) → g x k = h x k) := by
  have g1 := gF_160_1 V
  have L : ∀ (f j : Nat) (g : ms_M), VS_ g → (j : Int) ≤ h 160 1 → (∀ i : Nat, g 238 i = if i < j then h 161 i else h 238 i) → g 160 113 = h 160 1 → (∀ x k, x ≠ 238 → ¬ (x = 160 ∧ k = 113) → g x k = h x k) → Pc (qw_X13_load_10 nn f (j : Int) g) (fun u => ∃ g, VS_ g ∧ qf_X13_loaded nn g = some u ∧ (∀ i : Nat, g 238 i = if (i : Int) < h 160 1 then h 161 i else h 238 i) ∧ g 160 113 = h 160 1 ∧ ∀ x k, x ≠ 238 → ¬ (x = 160 ∧ (k = 113 ∨ k = 1)) → g x k = h x k) := by
    intro f
    induction f with
    | zero => intros; exact pc_none
    | succ f ih =>
      intro j g Vg hj G e13 N
      have e1 : g 160 1 = h 160 1 := N 160 1 (by decide) (by decide)
      unfold qw_X13_load_10
      refine pc_if (fun C => ?_) (fun C => ?_)
      · refine pc_xl ?_; intro h2 e2
        refine pc_se ?_; intro u4 e4
        refine pc_ret ⟨h2, by rw [e2]; exact wF_160_1 Vg (by omega), e4, fun i => ?_, by rw [e2, up_n (by omega)]; exact e13, fun x k a b => by rw [e2, up_n (by omega)]; exact N x k a (by omega)⟩
        rw [e2, up_n (by omega), G i]
        by_cases q : i < j
        · rw [if_pos q, if_pos (by omega)]
        · rw [if_neg q, if_neg (by omega)]
      · refine pc_rA ?_; intro i1 i2 v7 e7
        have r7 := gA_161 Vg j (by omega)
        rw [Int.toNat_natCast] at e7
        refine pc_wA ?_; intro j1 j2 h8 e8
        refine pc_add (by omega) ?_; intro v9 e9
        rw [show v9 = ((j + 1 : Nat) : Int) by omega]
        refine ih (j + 1) h8 (by rw [e8]; exact wA_238 Vg (by omega)) (by omega) (fun i => ?_) (by rw [e8, up_n (by omega)]; exact e13) (fun x k a b => by rw [e8, up_n (by omega)]; exact N x k a b)
        rw [e8]
        by_cases q : i = j
        · rw [q, if_pos (by omega)]
          show up_M g 238 ((j : Int)).toNat v7 238 j = _
          rw [Int.toNat_natCast, up_s, e7]; exact N 161 j (by decide) (by omega)
        · rw [up_n (by omega), G i]
          by_cases q2 : i < j
          · rw [if_pos q2, if_pos (by omega)]
          · rw [if_neg q2, if_neg (by omega)]
  unfold qf_X13_load
  refine pc_xl ?_; intro h12 e12
  exact L nn 0 h12 (by rw [e12]; exact wF_160_113 V (by omega)) (by omega) (fun i => by rw [if_neg (Nat.not_lt_zero i), e12, up_n (by omega)]) (by rw [e12, up_s]) (fun x k a b => by rw [e12, up_n b])
/-- an IMAGE that was made goes to the look -/
theorem r_kpcopy (V : VS_ h) {a : Nat} (ha : (a : Int) < h 160 93) (h93 : h 160 93 ≤ 8) : Pc (qf_X13_keep nn (a : Int) h) (fun u => ∃ g, VS_ g ∧ qf_X13_loaded nn g = some u ∧ (∀ i : Nat, g 238 i = if (i : Int) < h 222 a then h 221 (6000 * a + i) else h 238 i) ∧ g 160 113 = h 222 a ∧ ∀ x k, x ≠ 238 → ¬ (x = 160 ∧ k = 113) → g x k = h x k) := by
  have g222 := gA_222 V a (by omega)
  have L : ∀ (f j : Nat) (g : ms_M), VS_ g → (j : Int) ≤ h 222 a → (∀ i : Nat, g 238 i = if i < j then h 221 (6000 * a + i) else h 238 i) → g 160 113 = h 222 a → (∀ x k, x ≠ 238 → ¬ (x = 160 ∧ k = 113) → g x k = h x k) → Pc (qw_X13_keep_26 nn f (a : Int) (j : Int) g) (fun u => ∃ g, VS_ g ∧ qf_X13_loaded nn g = some u ∧ (∀ i : Nat, g 238 i = if (i : Int) < h 222 a then h 221 (6000 * a + i) else h 238 i) ∧ g 160 113 = h 222 a ∧ ∀ x k, x ≠ 238 → ¬ (x = 160 ∧ k = 113) → g x k = h x k) := by
    intro f
    induction f with
    | zero => intros; exact pc_none
    | succ f ih =>
      intro j g Vg hj G e13 N
      unfold qw_X13_keep_26
      refine pc_if (fun C => ?_) (fun C => ?_)
      · refine pc_se ?_; intro u4 e4
        refine pc_ret ⟨g, Vg, e4, fun i => ?_, e13, N⟩
        rw [G i]
        by_cases q : i < j
        · rw [if_pos q, if_pos (by omega)]
        · rw [if_neg q, if_neg (by omega)]
      · refine pc_xl ?_; intro v6 e6
        rw [oq_mul_eq (by omega) (by omega) (by omega)] at e6
        refine pc_add (by omega) ?_; intro v7 e7
        refine pc_rA ?_; intro i1 i2 v8 e8
        have r8 := gA_221 Vg v7.toNat (by omega)
        rw [← e8] at r8
        rw [show v7.toNat = 6000 * a + j by omega, N 221 _ (by decide) (by omega)] at e8
        refine pc_wA ?_; intro j1 j2 h9 e9
        refine pc_add (by omega) ?_; intro v10 e10
        rw [show v10 = ((j + 1 : Nat) : Int) by omega]
        refine ih (j + 1) h9 (by rw [e9]; exact wA_238 Vg (by omega)) (by omega) (fun i => ?_) (by rw [e9, up_n (by omega)]; exact e13) (fun x k a b => by rw [e9, up_n (by omega)]; exact N x k a b)
        rw [e9]
        by_cases q : i = j
        · rw [q, if_pos (by omega)]
          show up_M g 238 ((j : Int)).toNat v8 238 j = _
          rw [Int.toNat_natCast, up_s, e8]
        · rw [up_n (by omega), G i]
          by_cases q2 : i < j
          · rw [if_pos q2, if_pos (by omega)]
          · rw [if_neg q2, if_neg (by omega)]
  unfold qf_X13_keep
  refine pc_if (fun z => absurd z (by omega)) (fun _ => pc_if (fun _ => ?_) (fun z => absurd ha z))
  refine pc_rA ?_; intro i1 i2 v14 e14
  rw [Int.toNat_natCast] at e14
  refine pc_xl ?_; intro h15 e15
  exact L nn 0 h15 (by rw [e15, e14]; exact wF_160_113 V (by omega)) (by omega) (fun i => by rw [if_neg (Nat.not_lt_zero i), e15, up_n (by omega)]) (by rw [e15, up_s]; exact e14) (fun x k a b => by rw [e15, up_n b])
/-- THE SPACE OF BOTH SIDES -/
def SPE (Bf : Nat → Nat → Int) (nf : Nat → Nat) (M : ms_M) : Prop := sp_R M ∧ CSp Bf nf M ∧ (∀ k : Nat, (k : Int) < M 160 98 → TBr (k : Int) (nf k) (Bf k) M) ∧ NKn Bf nf (M 56 3)
/-- a step that leaves what the class's space is -/
def ACs (M M2 : ms_M) : Prop := ∀ c k, (c < 160 ∨ 256 ≤ c) → c ≠ 143 → c ≠ 0 → M2 c k = M c k
theorem ly_1r {c : Nat} (t : ly_T c = 1) : c < 160 ∨ 256 ≤ c := by
  by_cases h1 : c < 160
  · exact .inl h1
  by_cases h2 : 256 ≤ c
  · exact .inr h2
  exfalso
  have w : (!(Nat.beq (ly_T (160 + (c - 160))) 1) && !(is_I (160 + (c - 160)))) = true := List.all_eq_true.mp T_ref (c - 160) (List.mem_range.mpr (by omega))
  rw [show 160 + (c - 160) = c by omega, t, Bool.and_eq_true] at w
  exact absurd w.1 (by decide)
theorem csp_a {Bf : Nat → Nat → Int} {nf : Nat → Nat} (V : VS_ M) (A : ACs M M2) (S : CSp Bf nf M) : CSp Bf nf M2 := by
  have g3 := gF_56_3 V
  have e3 : M2 56 3 = M 56 3 := A _ _ (by omega) (by omega) (by omega)
  have ec : cn_M M2 = cn_M M := by unfold cn_M; rw [A _ _ (by omega) (by omega) (by omega)]
  obtain ⟨S1, ⟨n1, n2, n3, n4⟩, RD⟩ := S
  have rk : ∀ k : Nat, (k : Int) < M 56 3 → M2 (M2 60 k).toNat 0 = M (M 60 k).toNat 0 := fun k hk => by
    have id := im_at (V.2.2.2.2.1 k (by omega)).2
    rw [A 60 k (by omega) (by omega) (by omega)]
    exact A _ _ (by omega) (by omega) (by omega)
  refine ⟨fun k hk => ?_, ⟨?_, fun j hj => by rw [A _ _ (by omega) (by omega) (by omega)]; exact n2 j hj, fun j hj h2 => by rw [A _ _ (by omega) (by omega) (by omega)]; exact n3 j hj (by omega), fun k hk => by rw [A 58 _ (by omega) (by omega) (by omega), e3]; exact n4 k (by omega)⟩, fun j k hj hk jk => by rw [rk j (by omega), rk k (by omega)]; exact RD j k (by omega) (by omega) jk⟩
  · rw [A 60 k (by omega) (by omega) (by omega)]
    have X := S1 k (by omega)
    have hd := (V.2.2.2.2.1 k (by omega)).2
    have id := im_at hd
    have t1 : ly_T (M (M 60 k).toNat 0).toNat = 1 := X.1.1.2.2.2.2.2.1
    have lt : (M (M 60 k).toNat 0).toNat < 160 ∨ 256 ≤ (M (M 60 k).toNat 0).toNat := ly_1r t1
    have nr : (M (M 60 k).toNat 0).toNat ≠ 143 ∧ (M (M 60 k).toNat 0).toNat ≠ 0 := ⟨fun z => by rw [z] at t1; exact absurd t1 (by decide), fun z => by rw [z] at t1; exact absurd t1 (by decide)⟩
    refine imc_s ⟨fun c i c1 c2 => A _ _ (by omega) (by omega) (by omega), fun i => A _ _ lt nr.1 nr.2, by omega, ?_⟩ X
    unfold ln_I
    split
    · rfl
    · exact A _ _ (by omega) (by omega) (by omega)
  · have ef : M2 (57 + 1) = M (57 + 1) := funext (fun j => A _ _ (by omega) (by omega) (by omega))
    unfold un_R
    rw [ef]
    intro x y hx hy
    rw [show M2 (57 + 2) (16 * x + y) = M (57 + 2) (16 * x + y) from A _ _ (by omega) (by omega) (by omega)]
    exact n1 x y hx hy
/-- what both sides do with the same bytes: the same answer, the same space -/
theorem ld_2 (hn : 1000000 ≤ nn) {Bf : Nat → Nat → Int} {nf : Nat → Nat} (V : VS_ M) (SI : SI_ M) (J : OJ M) (E : SPE Bf nf M) {a1 : Nat} {a2 : Int} (ta : a1 < cn_M M ∧ ly_T a1 = 1) (hs : a2 = (n : Int) ∧ n ≤ 6000 ∧ (n : Int) ≤ ln_I M a1) (hB : ∀ i : Nat, i < n → M a1 i % 256 = B i) (hc : M 900000 0 < 700000) {u : Int × ms_M × Nat × Nat} (e : qf_X7_bring nn a1 a2 M = some u) (g : ms_M) (Vg : VS_ g) (g113 : g 160 113 = (n : Int)) (g238 : ∀ i, g 238 i = B i) (gT : ∀ x k, 226 ≤ x → x ≤ 237 → g x k = M x k) (g98 : g 160 98 = M 160 98) {z : Int × ms_M} (e2 : qf_X13_loaded nn g = some z) : u.1 = z.1 ∧ ∃ Bg ng, CSp Bg ng u.2.1 ∧ (∀ k : Nat, (k : Int) < z.2 160 98 → TBr (k : Int) (ng k) (Bg k) z.2) ∧ u.2.1 56 3 = z.2 160 98 ∧ NKn Bg ng (u.2.1 56 3) ∧ (((Bg = Bf ∧ ng = nf) ∧ u.1 < 0 ∧ u.2.1 56 4 = M 56 4 ∧ z.2 160 99 = g 160 99 ∧ z.2 160 138 = g 160 138) ∨ (0 ≤ u.1 ∧ u.2.1 56 4 = 0 ∧ z.2 160 99 = 0 ∧ z.2 160 138 = 0)) := by
  obtain ⟨⟨p1, p2, p3⟩, S, T, N⟩ := E
  have hB2 : ∀ i, i < n → 0 ≤ B i ∧ B i ≤ 255 := fun i hi => by have := hB i hi; omega
  have Tg : ∀ k : Nat, (k : Int) < g 160 98 → TBr (k : Int) (nf k) (Bf k) g := fun k hk => tb_k (by omega) (fun x j q => gT _ _ (by unfold TAB at q; omega) (by unfold TAB at q; omega)) (fun j _ _ => gT _ _ (by decide) (by decide)) (gT _ _ (by decide) (by decide)) (T k (by omega))
  obtain ⟨C1, C2⟩ := c_bring hn V SI J S ta hs hB hc _ e
  obtain ⟨R1, R2⟩ := r_loaded hn Vg ⟨g113, hs.2.1⟩ g238 hB2 Tg _ e2
  have keep : u.1 = z.1 → u.1 < 0 → CSp Bf nf u.2.1 → u.2.1 56 3 = M 56 3 → u.2.1 56 4 = M 56 4 → KPs Bf nf g z.2 → u.1 = z.1 ∧ ∃ Bg ng, CSp Bg ng u.2.1 ∧ (∀ k : Nat, (k : Int) < z.2 160 98 → TBr (k : Int) (ng k) (Bg k) z.2) ∧ u.2.1 56 3 = z.2 160 98 ∧ NKn Bg ng (u.2.1 56 3) ∧ (((Bg = Bf ∧ ng = nf) ∧ u.1 < 0 ∧ u.2.1 56 4 = M 56 4 ∧ z.2 160 99 = g 160 99 ∧ z.2 160 138 = g 160 138) ∨ (0 ≤ u.1 ∧ u.2.1 56 4 = 0 ∧ z.2 160 99 = 0 ∧ z.2 160 138 = 0)) := fun a1 a2 a3 a4 a5 K => by
    obtain ⟨k1, k2, k3, k4⟩ := K
    exact ⟨a1, Bf, nf, a3, fun k hk => k4 k (by omega), by omega, by rw [a4]; exact N, .inl ⟨⟨rfl, rfl⟩, a2, a5, k2, k3⟩⟩
  cases zr : rdi_S B n with
  | inl x =>
    obtain ⟨c1, c2, c3, c4⟩ := C1 x zr
    obtain ⟨r1, r2⟩ := R1 x zr
    exact keep (by rw [c1, r1]) (by omega) c2 c3 c4 r2
  | inr x =>
    obtain ⟨C3, C4⟩ := C2 x zr
    obtain ⟨R3, R4⟩ := R2 x zr
    by_cases h8 : M 56 3 = 8
    · obtain ⟨c1, c2, c3, c4⟩ := C3 h8
      obtain ⟨r1, r2⟩ := R3 (by omega)
      exact keep (by rw [c1, r1]) (by omega) c2 c3 c4 r2
    · obtain ⟨v, cv, c5, c6⟩ := C4 (by omega)
      obtain ⟨y, ry, r5, r6⟩ := R4 (by omega)
      have vy : v = y := cl_cn N cv (by rw [g98, p1] at ry; exact ry)
      by_cases hv : v = -1
      · obtain ⟨c1, c2, c3, c4⟩ := c6 hv
        obtain ⟨r1, r2, r3, r4, r7, r8⟩ := r6 (by omega)
        have g3 : 0 ≤ M 56 3 := p2.1
        refine ⟨by omega, _, _, c2, fun k hk => ?_, by omega, ?_, .inr ⟨by omega, c4, r3, r4⟩⟩
        · unfold ext_n ext_B
          by_cases qk : k = (M 56 3).toNat
          · rw [if_pos qk, if_pos qk, show (k : Int) = g 160 98 by omega]; exact r7
          · rw [if_neg qk, if_neg qk]; exact r8 k (by omega)
        · rw [c3]
          intro j hj d d8
          unfold ext_n ext_B
          by_cases qj : j = (M 56 3).toNat
          · rw [if_pos qj, if_pos qj]
            rcases cv with ⟨k, k1, k2, -⟩ | ⟨q, -⟩
            · omega
            · rcases q with ⟨k, k8, k2, -⟩ | ⟨-, q⟩
              · omega
              · exact q d d8
          · rw [if_neg qj, if_neg qj]; exact N j (by omega) d d8
      · obtain ⟨c1, c2, c3, c4⟩ := c5 hv
        obtain ⟨r1, r2⟩ := r5 (by omega)
        exact keep (by rw [c1, r1]) (by omega) c2 c3 c4 r2
end
