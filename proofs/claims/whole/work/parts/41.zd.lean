/- VERIFY: a method, the reference's side: instructions, jumps -/
/-- the reference's memory while it looks at method i of class k -/
def RMe (Bf : Nat → Nat → Int) (nf : Nat → Nat) (cnt : Int) (k i : Nat) (h : ms_M) : Prop := (NKn Bf nf cnt ∧ RSv Bf nf h ∧ h 160 98 = cnt ∧ 0 ≤ h 160 117) ∧ ((k : Int) < cnt ∧ (i : Int) < mc_S (Bf k) (nf k)) ∧ (h 160 132 = (k : Int) ∧ h 160 133 = (i : Int) ∧ h 160 134 = ((ma_S (Bf k) (nf k) i + 7 : Nat) : Int) ∧ h 160 135 = (cl_N (Bf k) (nf k) i : Int)) ∧ h 160 130 = Bf k (ma_S (Bf k) (nf k) i + 3) ∧ h 160 129 = Bf k (ma_S (Bf k) (nf k) i + 4)
/-- what a method's look may write; what it may write behind the beginnings -/
def RKm (h g : ms_M) : Prop := ∀ x j : Nat, ¬ (x = 160 ∧ 117 ≤ j ∧ j ≤ 136) → ¬ (240 ≤ x ∧ x ≤ 245) → g x j = h x j
def RKe (h g : ms_M) : Prop := (∀ x j : Nat, ¬ (x = 160 ∧ ((117 ≤ j ∧ j ≤ 121) ∨ j = 131 ∨ j = 136)) → ¬ (240 ≤ x ∧ x ≤ 241) → ¬ (243 ≤ x ∧ x ≤ 245) → g x j = h x j) ∧ (0 ≤ h 160 117 → 0 ≤ g 160 117)
def RM0 (Bf : Nat → Nat → Int) (nf : Nat → Nat) (cnt : Int) (k i : Nat) (h0 h : ms_M) : Prop := RMe Bf nf cnt k i h ∧ RKm h0 h ∧ SWy h0 h
/-- the beginnings -/
def RBg (D : Nat → Int) (L : Nat) (h : ms_M) : Prop := ∀ p : Nat, p < 1501 → (h 242 p = 1 ∧ BGn D L p) ∨ (h 242 p = 0 ∧ ¬ BGn D L p)
/-- what methodFits gives -/
def RMF (Bf : Nat → Nat → Int) (nf : Nat → Nat) (cnt : Int) (k i : Nat) (h0 : ms_M) (u : Int × ms_M) : Prop := RKm h0 u.2 ∧ 0 ≤ u.2 160 117 ∧ ((u.1 = 1 ∧ mr_F Bf nf cnt k i = none ∧ SWy h0 u.2) ∨ (u.1 = 0 ∧ ∃ c p : Int, mr_F Bf nf cnt k i = some (c, p) ∧ u.2 160 122 = c ∧ u.2 160 123 = 8 + (k : Int) ∧ u.2 160 124 = (i : Int) ∧ u.2 160 125 = p))
section
variable {nn : Nat} {Bf : Nat → Nat → Int} {nf : Nat → Nat} {cnt : Int} {B C D : Nat → Int} {n m b d k o i L : Nat} {M h g r h0 : ms_M} {t c : Int}
theorem rkm_r : RKm h h := fun _ _ _ _ => rfl
theorem rkm_t (A : RKm h g) (E : RKm g r) : RKm h r := fun x j z1 z2 => (E x j z1 z2).trans (A x j z1 z2)
theorem rke_r : RKe h h := ⟨fun _ _ _ _ _ => rfl, fun z => z⟩
theorem rke_t (A : RKe h g) (E : RKe g r) : RKe h r := ⟨fun x j z1 z2 z3 => (E.1 x j z1 z2 z3).trans (A.1 x j z1 z2 z3), fun z => E.2 (A.2 z)⟩
theorem rke_o (A : OTH h g) : RKe h g := ⟨fun x j z1 z2 z3 => A.1 x j (by omega) (by omega) (by omega), A.2⟩
theorem rke_m (A : RKe h g) : RKm h g := fun x j z1 z2 => A.1 x j (by omega) (by omega) (by omega)
theorem rme_k (R : RMe Bf nf cnt k i h) (A : ∀ x j : Nat, ¬ (x = 160 ∧ ((117 ≤ j ∧ j ≤ 121) ∨ j = 131 ∨ j = 136)) → ¬ (240 ≤ x ∧ x ≤ 245) → g x j = h x j) (z : 0 ≤ g 160 117) : RMe Bf nf cnt k i g := by
  obtain ⟨⟨r1, r2, r3, r4⟩, r5, ⟨r6, r7, r8, r9⟩, r10, r11⟩ := R
  refine ⟨⟨r1, rsv_k r2 (fun x j w => A x j (by omega) (by omega)) (A 160 98 (by omega) (by omega)), ?_, z⟩, r5, ⟨?_, ?_, ?_, ?_⟩, ?_, ?_⟩
  · rw [A 160 98 (by omega) (by omega)]; exact r3
  · rw [A 160 132 (by omega) (by omega)]; exact r6
  · rw [A 160 133 (by omega) (by omega)]; exact r7
  · rw [A 160 134 (by omega) (by omega)]; exact r8
  · rw [A 160 135 (by omega) (by omega)]; exact r9
  · rw [A 160 130 (by omega) (by omega)]; exact r10
  · rw [A 160 129 (by omega) (by omega)]; exact r11
theorem rme_e (R : RMe Bf nf cnt k i h) (A : RKe h g) : RMe Bf nf cnt k i g := rme_k R (fun x j z1 z2 => A.1 x j z1 (by omega) (by omega)) (A.2 R.1.2.2.2)
theorem swy_e (A : RKe h g) : SWy h g := ⟨A.1 _ _ (by omega) (by omega) (by omega), A.1 _ _ (by omega) (by omega) (by omega), A.1 _ _ (by omega) (by omega) (by omega), A.1 _ _ (by omega) (by omega) (by omega)⟩
theorem rm0_e (R : RM0 Bf nf cnt k i h0 h) (A : RKe h g) : RM0 Bf nf cnt k i h0 g := ⟨rme_e R.1 A, rkm_t R.2.1 (rke_m A), swy_t R.2.2 (swy_e A)⟩
theorem rm0_2 (R : RM0 Bf nf cnt k i h0 h) {p : Nat} {v : Int} (e : g = up_M h 242 p v) : RM0 Bf nf cnt k i h0 g := by
  have A : ∀ x j : Nat, ¬ x = 242 → g x j = h x j := fun x j z => by rw [e, up_n (by omega)]
  refine ⟨rme_k R.1 (fun x j z1 z2 => A x j (by omega)) (by rw [A 160 117 (by omega)]; exact R.1.1.2.2.2), rkm_t R.2.1 (fun x j z1 z2 => A x j (by omega)), swy_t R.2.2 ⟨A _ _ (by omega), A _ _ (by omega), A _ _ (by omega), A _ _ (by omega)⟩⟩
theorem rbg_e (R : RBg D L h) (A : RKe h g) : RBg D L g := fun p hp => by rw [A.1 242 p (by omega) (by omega) (by omega)]; exact R p hp
theorem rme_hk (R : RMe Bf nf cnt k i h) : (k : Int) < h 160 98 := by
  have := R.2.1.1
  have := R.1.2.2.1
  omega
theorem rme_n6 (R : RMe Bf nf cnt k i h) : nf k ≤ 6000 ∧ k < 8 := tb_n6 R.1.2.1 (rme_hk R)
theorem rme_g (R : RMe Bf nf cnt k i h) : GIM (Bf k) (nf k) := (rg_im (R.1.2.1.2 k (rme_hk R))).1
theorem rme_m (R : RMe Bf nf cnt k i h) : GMt (Bf k) (nf k) i := (rme_g R).2.2.2 i R.2.1.2
theorem rme_b (R : RMe Bf nf cnt k i h) {p : Nat} (hp : p < nf k) : 0 ≤ Bf k p ∧ Bf k p ≤ 255 := (R.1.2.1.2 k (rme_hk R)).1.2.2.2 p hp
theorem rme_t (R : RMe Bf nf cnt k i h) : h 235 (12 * (k : Int) + i).toNat = (ma_S (Bf k) (nf k) i : Int) ∧ h 236 (12 * (k : Int) + i).toNat = (mh_P (Bf k) (nf k) i : Int) ∧ h 237 (12 * (k : Int) + i).toNat = (mf_P (Bf k) (nf k) i : Int) := (rg_im (R.1.2.1.2 k (rme_hk R))).2.2.2 i R.2.1.2
theorem rme_i (R : RMe Bf nf cnt k i h) : (i : Int) < 12 := by
  have := (rme_g R).2.2.1
  have := R.2.1.2
  omega
theorem rme_l (R : RMe Bf nf cnt k i h) : (ln_N (Bf k) (ma_S (Bf k) (nf k) i + 5) = (cl_N (Bf k) (nf k) i : Int)) ∧ 1 ≤ cl_N (Bf k) (nf k) i ∧ cl_N (Bf k) (nf k) i ≤ 1500 ∧ mh_P (Bf k) (nf k) i = ma_S (Bf k) (nf k) i + 7 + cl_N (Bf k) (nf k) i ∧ mh_P (Bf k) (nf k) i < nf k := by
  have l1 := (rme_m R).2.2.2.1
  unfold cl_N
  exact ⟨by omega, by omega, by omega, l1.2.1, l1.2.2⟩
theorem vr_byte (R : RMe Bf nf cnt k i h) {p : Nat} (hp : p < nf k) : Pc (qf_X13_byteAt nn (h 160 132) (p : Int) h) (fun u => u = Bf k p) := by
  rw [R.2.2.1.1]
  exact vq_rbyte R.1.2.1 (rme_hk R) hp
theorem lnb_rg {p : Nat} (a : 0 ≤ B p ∧ B p ≤ 255) (b : 0 ≤ B (p + 1) ∧ B (p + 1) ≤ 255) : 0 ≤ ln_N B p ∧ ln_N B p ≤ 65535 := by
  unfold ln_N
  rw [oq_shl_8 a]
  exact oq_or_rg (by omega) (by omega)
theorem rme_p (R : RMe Bf nf cnt k i h) {p : Nat} (hp : p + 1 < nf k) : 0 ≤ ln_N (Bf k) p ∧ ln_N (Bf k) p ≤ 65535 := lnb_rg (rme_b R (by omega)) (rme_b R hp)
theorem vr_pair (R : RMe Bf nf cnt k i h) {p : Nat} (hp : p + 1 < nf k) : Pc (qf_X13_pairIn nn (p : Int) h) (fun u => u = ln_N (Bf k) p) := by
  have n6 := rme_n6 R
  unfold qf_X13_pairIn
  refine pc_sv (vr_byte R (p := p) (by omega)) ?_; intro u3 q3
  refine pc_xl ?_; intro v4 e4
  refine pc_add (by omega) ?_; intro v6 e6
  rw [show v6 = ((p + 1 : Nat) : Int) by omega]
  refine pc_sv (vr_byte R (p := p + 1) hp) ?_; intro u8 q8
  refine pc_xl ?_; intro v9 e9
  refine pc_ret ?_
  show v9 = oq_or (oq_shl (Bf k p) 8) (Bf k (p + 1))
  rw [e9, e4, q3, q8]
theorem vr_code (R : RMe Bf nf cnt k i h) {p : Nat} (hp : p ≤ cl_N (Bf k) (nf k) i) : Pc (qf_X13_code nn (p : Int) h) (fun u => u = cd_S (Bf k) (nf k) i p) := by
  have n6 := rme_n6 R
  obtain ⟨l1, l2, l3, l4, l5⟩ := rme_l R
  have e134 := R.2.2.1.2.2.1
  unfold qf_X13_code
  refine pc_add (by omega) ?_; intro v3 e3
  rw [show v3 = ((ma_S (Bf k) (nf k) i + 7 + p : Nat) : Int) by omega]
  refine pc_sv (vr_byte R (by omega)) ?_; intro u5 q5
  exact pc_ret q5
theorem vr_aim (R : RMe Bf nf cnt k i h) {p : Nat} (hp : p + 2 < cl_N (Bf k) (nf k) i) : Pc (qf_X13_aimOf nn (p : Int) h) (fun u => u = aim_S (cd_S (Bf k) (nf k) i) p) := by
  obtain ⟨l1, l2, l3, l4, l5⟩ := rme_l R
  unfold qf_X13_aimOf
  refine pc_add (by omega) ?_; intro v1 e1
  rw [show v1 = ((p + 1 : Nat) : Int) by omega]
  refine pc_sv (vr_code R (p := p + 1) (by omega)) ?_; intro u3 q3
  refine pc_xl ?_; intro v4 e4
  refine pc_add (by omega) ?_; intro v5 e5
  rw [show v5 = ((p + 2 : Nat) : Int) by omega]
  refine pc_sv (vr_code R (p := p + 2) (by omega)) ?_; intro u7 q7
  refine pc_xl ?_; intro v8 e8
  refine pc_xl ?_; intro v9 e9
  have r9 := oq_s_rg (v := v8)
  refine pc_add (by omega) ?_; intro v10 e10
  refine pc_ret ?_
  show v10 = (p : Int) + oq_s (oq_or (oq_shl (cd_S (Bf k) (nf k) i (p + 1)) 8) (cd_S (Bf k) (nf k) i (p + 2)))
  rw [e10, e9, e8, e4, q3, q7]
theorem vr_badM {c p : Int} (R : RM0 Bf nf cnt k i h0 h) (E : mr_F Bf nf cnt k i = some (c, p)) : Pc (mx_sv (qf_X13_bad nn c (8 + (k : Int)) (i : Int) p h) fun u => ck_B (u.1 = 0 ∨ u.1 = 1) <| some (u.1, u.2)) (RMF Bf nf cnt k i h0) := by
  refine pc_sv vr_bad ?_; intro u ⟨r1, r2, r3, r4, r5, r6⟩
  refine pc_ck (fun _ => pc_ret ⟨rkm_t R.2.1 (fun x j z1 z2 => r2.1 x j (by omega) (by omega) (by omega)), r2.2 R.1.1.2.2.2, .inr ⟨r1, c, p, E, r3, r4, r5, r6⟩⟩)
/-- AT, the reference -/
theorem vr_at (N : NKn Bf nf cnt) (S : RSv Bf nf h) (e98 : h 160 98 = cnt) (h7 : 0 ≤ h 160 117) (hk : (k : Int) < cnt) (hi : (i : Int) < mc_S (Bf k) (nf k)) : Pc (qf_X13_at_ nn (8 + (k : Int)) (i : Int) h) (fun u => RM0 Bf nf cnt k i h u) := by
  have hk' : (k : Int) < h 160 98 := by omega
  obtain ⟨n6, k8⟩ := tb_n6 S hk'
  obtain ⟨G, -, e2, M1⟩ := rg_im (S.2 k hk')
  have gm := G.2.2.1
  have g1 := (G.2.2.2 i hi).2.2.2.1
  have T := (M1 i hi).1
  unfold qf_X13_at_
  refine pc_sub (by omega) ?_; intro v1 e1
  refine pc_xl ?_; intro h2 f2
  refine pc_xl ?_; intro h3 f3
  have A3 : ∀ x j : Nat, ¬ (x = 160 ∧ (j = 132 ∨ j = 133)) → h3 x j = h x j := fun x j z => by rw [f3, up_n (by omega), f2, up_n (by omega)]
  have w32 : h3 160 132 = (k : Int) := by rw [f3, up_n (by omega), f2, up_s]; omega
  have w33 : h3 160 133 = (i : Int) := by rw [f3, up_s]
  rw [w32]
  refine pc_xl ?_; intro v6 e6
  rw [oq_mul_eq (by omega) (by omega) (by omega)] at e6
  refine pc_add (by omega) ?_; intro v7 e7
  refine pc_rA ?_; intro _ _ v8 e8
  rw [show v7 = 12 * (k : Int) + i by omega, A3 235 _ (by omega), T] at e8
  refine pc_add (by omega) ?_; intro v10 e10
  have S3 : RSv Bf nf h3 := rsv_k S (fun x j z => A3 x j (by omega)) (A3 160 98 (by omega))
  have k3 : (k : Int) < h3 160 98 := by rw [A3 160 98 (by omega)]; exact hk'
  rw [show v10 = ((ma_S (Bf k) (nf k) i + 3 : Nat) : Int) by omega]
  refine pc_sv (vq_rbyte S3 k3 (by omega)) ?_; intro u12 q12
  refine pc_xl ?_; intro h13 f13
  have A13 : ∀ x j : Nat, ¬ (x = 160 ∧ (j = 130 ∨ j = 132 ∨ j = 133)) → h13 x j = h x j := fun x j z => by rw [f13, up_n (by omega)]; exact A3 x j (by omega)
  have x32 : h13 160 132 = (k : Int) := by rw [f13, up_n (by omega)]; exact w32
  rw [x32]
  refine pc_add (by omega) ?_; intro v15 e15
  have S13 : RSv Bf nf h13 := rsv_k S (fun x j z => A13 x j (by omega)) (A13 160 98 (by omega))
  have k13 : (k : Int) < h13 160 98 := by rw [A13 160 98 (by omega)]; exact hk'
  rw [show v15 = ((ma_S (Bf k) (nf k) i + 4 : Nat) : Int) by omega]
  refine pc_sv (vq_rbyte S13 k13 (by omega)) ?_; intro u17 q17
  refine pc_xl ?_; intro h18 f18
  have A18 : ∀ x j : Nat, ¬ (x = 160 ∧ (j = 129 ∨ j = 130 ∨ j = 132 ∨ j = 133)) → h18 x j = h x j := fun x j z => by rw [f18, up_n (by omega)]; exact A13 x j (by omega)
  have S18 : RSv Bf nf h18 := rsv_k S (fun x j z => A18 x j (by omega)) (A18 160 98 (by omega))
  have k18 : (k : Int) < h18 160 98 := by rw [A18 160 98 (by omega)]; exact hk'
  have y32 : h18 160 132 = (k : Int) := by rw [f18, up_n (by omega)]; exact x32
  refine pc_add (by omega) ?_; intro v19 e19
  refine pc_sv (P := fun u => u = ln_N (Bf k) (ma_S (Bf k) (nf k) i + 5)) ?_ ?_
  · unfold qf_X13_pairIn
    rw [y32, show v19 = ((ma_S (Bf k) (nf k) i + 5 : Nat) : Int) by omega]
    refine pc_sv (vq_rbyte S18 k18 (by omega)) ?_; intro u3 q3
    refine pc_xl ?_; intro v4 e4
    refine pc_add (by omega) ?_; intro v6 e6
    rw [show v6 = ((ma_S (Bf k) (nf k) i + 5 + 1 : Nat) : Int) by omega]
    refine pc_sv (vq_rbyte S18 k18 (by omega)) ?_; intro u8 q8
    refine pc_xl ?_; intro v9 e9
    refine pc_ret ?_
    show v9 = oq_or (oq_shl (Bf k (ma_S (Bf k) (nf k) i + 5)) 8) (Bf k (ma_S (Bf k) (nf k) i + 5 + 1))
    rw [e9, e4, q3, q8]
  intro u21 q21
  refine pc_xl ?_; intro h22 f22
  refine pc_add (by omega) ?_; intro v23 e23
  refine pc_xl ?_; intro h24 f24
  have A24 : ∀ x j : Nat, ¬ (x = 160 ∧ (j = 129 ∨ j = 130 ∨ (132 ≤ j ∧ j ≤ 135))) → h24 x j = h x j := fun x j z => by rw [f24, up_n (by omega), f22, up_n (by omega)]; exact A18 x j (by omega)
  refine pc_ret ⟨⟨⟨N, rsv_k S (fun x j z => A24 x j (by omega)) (A24 160 98 (by omega)), ?_, ?_⟩, ⟨hk, hi⟩, ⟨?_, ?_, ?_, ?_⟩, ?_, ?_⟩, fun x j z1 z2 => A24 x j (by omega), A24 _ _ (by omega), A24 _ _ (by omega), A24 _ _ (by omega), A24 _ _ (by omega)⟩
  · rw [A24 160 98 (by omega)]; exact e98
  · rw [A24 160 117 (by omega)]; exact h7
  · rw [f24, up_n (by omega), f22, up_n (by omega)]; exact y32
  · rw [f24, up_n (by omega), f22, up_n (by omega), f18, up_n (by omega), f13, up_n (by omega)]; exact w33
  · rw [f24, up_s]; omega
  · rw [f24, up_n (by omega), f22, up_s, q21]; unfold cl_N; omega
  · rw [f24, up_n (by omega), f22, up_n (by omega), f18, up_n (by omega), f13, up_s]; exact q12
  · rw [f24, up_n (by omega), f22, up_n (by omega), f18, up_s]; exact q17
/-- BEGINNINGS, the reference -/
theorem vr_8 {Q : Int × ms_M → Prop} (HK : ∀ g : ms_M, RM0 Bf nf cnt k i h0 g → (∀ q : Nat, q < 1501 → g 242 q = 0) → Pc (qw_X13_methodFits_30 nn nn (8 + (k : Int)) (i : Int) 0 g) Q) : ∀ (f p : Nat) (h : ms_M), RM0 Bf nf cnt k i h0 h → (∀ q : Nat, q < p → h 242 q = 0) → p ≤ 1501 → Pc (qw_X13_methodFits_8 nn f (8 + (k : Int)) (i : Int) (p : Int) h) Q := by
  intro f
  induction f with
  | zero => intro p h _ _ _; exact pc_none
  | succ f ih =>
    intro p h R A hp
    unfold qw_X13_methodFits_8
    refine pc_if (fun z => HK h R (fun q hq => A q (by omega))) (fun z => ?_)
    refine pc_wZ ?_; intro _ _ h83 e83
    rw [Int.toNat_natCast] at e83
    refine pc_add (by omega) ?_; intro v84 e84
    rw [show v84 = ((p + 1 : Nat) : Int) by omega]
    refine ih (p + 1) h83 (rm0_2 R e83) (fun q hq => ?_) (by omega)
    by_cases e : q = p
    · rw [e83, e, up_s]
    · rw [e83, up_n (by omega)]; exact A q (by omega)
/-- INSTRUCTIONS, the reference -/
theorem vr_30 (HK : ∀ g : ms_M, RM0 Bf nf cnt k i h0 g → IOk (cd_S (Bf k) (nf k) i) (cl_N (Bf k) (nf k) i) → RBg (cd_S (Bf k) (nf k) i) (cl_N (Bf k) (nf k) i) g → Pc (qw_X13_methodFits_97 nn nn (8 + (k : Int)) (i : Int) 0 g) (RMF Bf nf cnt k i h0)) : ∀ (f t : Nat) (h : ms_M), RM0 Bf nf cnt k i h0 h → GSo (cd_S (Bf k) (nf k) i) (cl_N (Bf k) (nf k) i) t → (∀ p : Nat, p < 1501 → (h 242 p = 1 ∧ ∃ x : Nat, x < t ∧ is_S (cd_S (Bf k) (nf k) i) x = p) ∨ (h 242 p = 0 ∧ ¬ ∃ x : Nat, x < t ∧ is_S (cd_S (Bf k) (nf k) i) x = p)) → Pc (qw_X13_methodFits_30 nn f (8 + (k : Int)) (i : Int) (is_S (cd_S (Bf k) (nf k) i) t : Int) h) (RMF Bf nf cnt k i h0) := by
  intro f
  induction f with
  | zero => intro t h _ _ _; exact pc_none
  | succ f ih =>
    intro t h R A MK
    obtain ⟨l1, l2, l3, l4, l5⟩ := rme_l R.1
    generalize hD : cd_S (Bf k) (nf k) i = D at *
    have is0 : is_S D 0 = 0 := rfl
    have isL : is_S D t ≤ cl_N (Bf k) (nf k) i := by
      cases t with
      | zero => rw [is0]; omega
      | succ t =>
        have a := A t (by omega)
        have e : is_S D (t + 1) = is_S D t + (WD (D (is_S D t))).toNat := rfl
        omega
    unfold qw_X13_methodFits_30
    rw [R.1.2.2.1.2.2.2]
    refine pc_if (fun z => ?_) (fun z => ?_)
    · have eL : is_S D t = cl_N (Bf k) (nf k) i := by omega
      refine HK h R ⟨t, A, eL⟩ (fun p hp => ?_)
      have bi := bgn_iff (p := p) A eL
      rcases MK p hp with ⟨m1, m2⟩ | ⟨m1, m2⟩
      · exact .inl ⟨m1, bi.2 m2⟩
      · exact .inr ⟨m1, fun w => m2 (bi.1 w)⟩
    have q := vr_code (nn := nn) R.1 (p := is_S D t) (by omega)
    rw [hD] at q
    refine pc_sv q ?_; intro u69 q69
    rw [q69]
    refine pc_sv wd_r ?_; intro u70 q70
    have ma7 := rme_m R.1
    have rg : 0 ≤ D (is_S D t) ∧ D (is_S D t) ≤ 255 := by
      rw [← hD]
      exact rme_b R.1 (p := ma_S (Bf k) (nf k) i + 7 + is_S (cd_S (Bf k) (nf k) i) t) (by rw [hD]; omega)
    have w3 := (wd_at rg).2
    have BD : (WD (D (is_S D t)) = 0 ∨ (cl_N (Bf k) (nf k) i : Int) < (is_S D t : Int) + WD (D (is_S D t))) → Pc (qj_X13_methodFits_64 nn (8 + (k : Int)) (i : Int) (is_S D t : Int) h) (RMF Bf nf cnt k i h0) := fun w => by
      unfold qj_X13_methodFits_64
      refine vr_badM R ?_
      have no : INo D (cl_N (Bf k) (nf k) i) (is_S D t) := ⟨t, A, rfl, by omega, w⟩
      unfold mr_F
      rw [hD, fs_s (p := is_S D t) (by omega) no (fun q hq y => absurd (ino_u y no) (by omega))]
    refine pc_if (fun y => BD (.inl (by omega))) (fun y => ?_)
    refine pc_add (by omega) ?_; intro v71 e71
    refine pc_if (fun w => ?_) (fun w => BD (.inr (by omega)))
    refine pc_wZ ?_; intro _ _ h74 e74
    rw [Int.toNat_natCast] at e74
    have R74 := rm0_2 R e74
    have q2 := vr_code (nn := nn) R74.1 (p := is_S D t) (by omega)
    rw [hD] at q2
    refine pc_sv q2 ?_; intro u76 q76
    rw [q76]
    refine pc_sv wd_r ?_; intro u77 q77
    refine pc_add (by omega) ?_; intro v78 e78
    have es : is_S D (t + 1) = is_S D t + (WD (D (is_S D t))).toNat := rfl
    rw [show v78 = (is_S D (t + 1) : Int) by omega]
    refine ih (t + 1) h74 R74 (fun x hx => ?_) (fun p hp => ?_)
    · by_cases xt : x = t
      · rw [xt]; exact ⟨by omega, by omega, by omega⟩
      · exact A x (by omega)
    by_cases pt : p = is_S D t
    · exact .inl ⟨by rw [pt, e74, up_s], t, by omega, pt.symm⟩
    · rw [e74, up_n (by omega)]
      rcases MK p hp with ⟨m1, x, x1, x2⟩ | ⟨m1, m2⟩
      · exact .inl ⟨m1, x, by omega, x2⟩
      · refine .inr ⟨m1, fun ⟨x, x1, x2⟩ => ?_⟩
        by_cases xt : x = t
        · exact pt (by rw [← x2, xt])
        · exact m2 ⟨x, by omega, x2⟩
theorem vr_begins (R : RMe Bf nf cnt k i h) (MK : RBg (cd_S (Bf k) (nf k) i) (cl_N (Bf k) (nf k) i) h) {x : Int} (x0 : 0 ≤ x) (xl : x < (cl_N (Bf k) (nf k) i : Int)) : (h 242 x.toNat = 1 ∧ BGi (cd_S (Bf k) (nf k) i) (cl_N (Bf k) (nf k) i) x) ∨ (h 242 x.toNat = 0 ∧ ¬ BGi (cd_S (Bf k) (nf k) i) (cl_N (Bf k) (nf k) i) x) := by
  obtain ⟨l1, l2, l3, l4, l5⟩ := rme_l R
  rcases MK x.toNat (by omega) with ⟨a, b⟩ | ⟨a, b⟩
  · exact .inl ⟨a, x0, b⟩
  · exact .inr ⟨a, fun w => b w.2⟩
theorem bgi_lt {x : Int} (A : BGi D L x) : 0 ≤ x ∧ x < (L : Int) := by
  have := bgn_lt A.2
  have := A.1
  omega
/-- JUMPS, the reference -/
theorem vr_97 (IO : IOk (cd_S (Bf k) (nf k) i) (cl_N (Bf k) (nf k) i)) {t0 : Nat} (T : GSo (cd_S (Bf k) (nf k) i) (cl_N (Bf k) (nf k) i) t0) (TL : is_S (cd_S (Bf k) (nf k) i) t0 = cl_N (Bf k) (nf k) i) (R : RM0 Bf nf cnt k i h0 h) (MK : RBg (cd_S (Bf k) (nf k) i) (cl_N (Bf k) (nf k) i) h) (HK : fs_F (JBm (cd_S (Bf k) (nf k) i) (cl_N (Bf k) (nf k) i)) (cl_N (Bf k) (nf k) i) = none → Pc (qw_X13_methodFits_192 nn nn (8 + (k : Int)) (i : Int) (mh_P (Bf k) (nf k) i : Int) 0 h) (RMF Bf nf cnt k i h0)) : ∀ (f t : Nat), t ≤ t0 → (∀ x : Nat, x < t → ¬ JBm (cd_S (Bf k) (nf k) i) (cl_N (Bf k) (nf k) i) (is_S (cd_S (Bf k) (nf k) i) x)) → Pc (qw_X13_methodFits_97 nn f (8 + (k : Int)) (i : Int) (is_S (cd_S (Bf k) (nf k) i) t : Int) h) (RMF Bf nf cnt k i h0) := by
  obtain ⟨l1, l2, l3, l4, l5⟩ := rme_l R.1
  have rt := rme_t R.1
  have i12 := rme_i R.1
  have k8 := (rme_n6 R.1).2
  have e6 : fs_F (INo (cd_S (Bf k) (nf k) i) (cl_N (Bf k) (nf k) i)) (cl_N (Bf k) (nf k) i) = none := fs_z (fun q _ z => ino_ok z IO)
  generalize hD : cd_S (Bf k) (nf k) i = D at *
  -- a bad place is where an instruction begins
  have BP : ∀ t : Nat, t ≤ t0 → (∀ x : Nat, x < t → ¬ JBm D (cl_N (Bf k) (nf k) i) (is_S D x)) → ∀ q : Nat, q < is_S D t → ¬ JBm D (cl_N (Bf k) (nf k) i) q := fun t ht A q hq J => by
    obtain ⟨x, x1, x2⟩ := (bgn_iff T TL).1 J.1
    by_cases z : x < t
    · exact A x z (by rw [x2]; exact J)
    · by_cases e : x = t
      · rw [e] at x2; omega
      · have := is_mono T t x (by omega) (by omega)
        omega
  intro f
  induction f with
  | zero => intro t _ _; exact pc_none
  | succ f ih =>
    intro t ht A
    unfold qw_X13_methodFits_97
    rw [R.1.2.2.1.2.2.2, R.1.2.2.1.1]
    refine pc_if (fun z => ?_) (fun z => ?_)
    · refine pc_xl ?_; intro v48 e48
      rw [oq_mul_eq (by omega) (by omega) (by omega)] at e48
      refine pc_add (by omega) ?_; intro v49 e49
      refine pc_rA ?_; intro _ _ v50 e50
      rw [show v49 = 12 * (k : Int) + i by omega, rt.2.1] at e50
      rw [e50]
      exact HK (fs_z (fun q hq => BP t ht A q (by omega)))
    have tt : t < t0 := Classical.byContradiction fun y => by
      have : t = t0 := by omega
      rw [this] at z; omega
    have NX : ¬ JBm D (cl_N (Bf k) (nf k) i) (is_S D t) → Pc (qj_X13_methodFits_160 nn (qw_X13_methodFits_97 nn f) (8 + (k : Int)) (i : Int) (is_S D t : Int) h) (RMF Bf nf cnt k i h0) := fun nj => by
      unfold qj_X13_methodFits_160
      have q2 := vr_code (nn := nn) R.1 (p := is_S D t) (by omega)
      rw [hD] at q2
      refine pc_sv q2 ?_; intro u39 q39
      rw [q39]
      refine pc_sv wd_r ?_; intro u40 q40
      have w := T t tt
      refine pc_add (by omega) ?_; intro v41 e41
      have es : is_S D (t + 1) = is_S D t + (WD (D (is_S D t))).toNat := rfl
      rw [show v41 = (is_S D (t + 1) : Int) by omega]
      refine ih (t + 1) (by omega) (fun x hx => ?_)
      by_cases e : x = t
      · rw [e]; exact nj
      · exact A x (by omega)
    have q2 := vr_code (nn := nn) R.1 (p := is_S D t) (by omega)
    rw [hD] at q2
    refine pc_sv q2 ?_; intro u52 q52
    rw [q52]
    refine pc_sv (pc_ok mv_jump) ?_; intro u53 q53
    have bg : BGn D (cl_N (Bf k) (nf k) i) (is_S D t) := (bgn_iff T TL).2 ⟨t, tt, rfl⟩
    have wd := bgn_wd IO bg
    have JJ : 153 ≤ D (is_S D t) ∧ D (is_S D t) ≤ 167 → JMP (D (is_S D t)) := fun z => by
      have w0 : ∀ o : Int, o = 155 ∨ o = 156 ∨ o = 157 ∨ o = 158 → WD o = 0 := fun o z => by
        rcases z with e | e | e | e <;> (rw [e]; decide)
      have := w0 (D (is_S D t))
      unfold JMP
      omega
    refine pc_if (fun y => ?_) (fun y => NX (fun w => ?_))
    · have jm : JMP (D (is_S D t)) := by
        rcases q53 with q | q
        · exact absurd q.1 y
        · exact JJ q.2
      have w3 := wd.2
      rw [wd_jmp jm] at w3
      have q3 := vr_aim (nn := nn) R.1 (p := is_S D t) (by omega)
      rw [hD] at q3
      refine pc_sv q3 ?_; intro u55 q55
      have BD : ¬ BGi D (cl_N (Bf k) (nf k) i) (aim_S D (is_S D t)) → Pc (qj_X13_methodFits_150 nn (8 + (k : Int)) (i : Int) (is_S D t : Int) h) (RMF Bf nf cnt k i h0) := fun nb => by
        unfold qj_X13_methodFits_150
        refine vr_badM R ?_
        unfold mr_F
        rw [hD, e6, fs_s (p := is_S D t) (by omega) ⟨bg, jm, nb⟩ (BP t ht A)]
      rw [q55]
      refine pc_if (fun z1 => BD (fun w => absurd w.1 (by omega))) (fun z1 => ?_)
      refine pc_if (fun z2 => BD (fun w => absurd (bgi_lt w) (by omega))) (fun z2 => ?_)
      refine pc_rA ?_; intro _ _ v58 e58
      have bb := vr_begins (x := aim_S D (is_S D t)) R.1 (by rw [hD]; exact MK) (by omega) (by omega)
      rw [hD] at bb
      refine pc_if (fun z3 => NX (fun w => ?_)) (fun z3 => BD (fun w => ?_))
      · rcases bb with q | q
        · exact w.2.2 q.2
        · exact z3 (by rw [e58]; exact q.1)
      · rcases bb with q | q
        · omega
        · exact q.2 w
    · rcases q53 with q | q
      · have := w.2.1
        unfold JMP at this
        omega
      · omega
end
