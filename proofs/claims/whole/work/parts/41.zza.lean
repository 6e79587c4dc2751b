/- START of both sides -/
/-- a run can start: method i of class 8 + k -/
def STg (Bf : Nat → Nat → Int) (nf : Nat → Nat) (cnt v a1 a2 : Int) (k i : Nat) : Prop := ¬ v = 0 ∧ (a1 = 8 + (k : Int) ∧ a2 = (i : Int)) ∧ (k : Int) < cnt ∧ (i : Int) < mc_S (Bf k) (nf k) ∧ ¬ Bf k (ma_S (Bf k) (nf k) i) = 0 ∧ pi_S (Bf k) (nf k) (Bf k (ma_S (Bf k) (nf k) i + 2)) = some 0
def SCl (Bf : Nat → Nat → Int) (nf : Nat → Nat) (k i : Nat) (h g : ms_M) : Prop := (∀ c j : Nat, ¬ (c = 143 ∧ ((1 ≤ j ∧ j ≤ 7) ∨ (17 ≤ j ∧ j ≤ 19))) → ¬ ((148 ≤ c ∧ c ≤ 150) ∧ j = 0) → ¬ (c = 151 ∧ j < 30) → g c j = h c j) ∧ (g 143 1 = 1 ∧ g 143 2 = -1 ∧ g 143 3 = 0 ∧ g 143 4 = 0 ∧ g 143 5 = 0 ∧ g 143 6 = 1 ∧ g 143 7 = 0) ∧ (g 143 17 = 0 ∧ g 143 18 = h 60 k ∧ g 143 19 = ((ma_S (Bf k) (nf k) i + 7 : Nat) : Int)) ∧ (g 148 0 = (k : Int) * 12 + (i : Int) ∧ g 149 0 = 0 ∧ g 150 0 = 0) ∧ ∀ n : Nat, n < 30 → g 151 n = 0
def SRf (k i : Nat) (h g : ms_M) : Prop := (∀ c j : Nat, ¬ (c = 160 ∧ ((138 ≤ j ∧ j ≤ 143) ∨ j = 149)) → ¬ ((251 ≤ c ∧ c ≤ 254) ∧ j = 0) → ¬ (c = 255 ∧ j < 60) → g c j = h c j) ∧ (g 160 138 = 1 ∧ g 160 139 = -1 ∧ g 160 140 = 0 ∧ g 160 141 = 0 ∧ g 160 142 = 0 ∧ g 160 143 = 0 ∧ g 160 149 = 1) ∧ (g 251 0 = 8 + (k : Int) ∧ g 252 0 = (i : Int) ∧ g 253 0 = 0 ∧ g 254 0 = 0) ∧ ∀ n : Nat, n < 60 → g 255 n = 0
def QSc (Bf : Nat → Nat → Int) (nf : Nat → Nat) (a1 a2 : Int) (h : ms_M) (u : Int × ms_M) : Prop := (u = (0, h) ∧ ∀ k i : Nat, ¬ STg Bf nf (h 56 3) (h 56 4) a1 a2 k i) ∨ ∃ k i : Nat, STg Bf nf (h 56 3) (h 56 4) a1 a2 k i ∧ u.1 = 1 ∧ SCl Bf nf k i h u.2
def QSr (Bf : Nat → Nat → Int) (nf : Nat → Nat) (a1 a2 : Int) (h : ms_M) (u : Int × ms_M) : Prop := (u = (0, h) ∧ ∀ k i : Nat, ¬ STg Bf nf (h 160 98) (h 160 99) a1 a2 k i) ∨ ∃ k i : Nat, STg Bf nf (h 160 98) (h 160 99) a1 a2 k i ∧ u.1 = 1 ∧ SRf k i h u.2
section
variable {nn : Nat} {Bf : Nat → Nat → Int} {nf : Nat → Nat} {cnt : Int} {k i : Nat} {h g : ms_M} {a1 a2 : Int}
theorem vc_imh (c0 : 0 ≤ h 56 3 ∧ h 56 3 ≤ 8) {c : Int} (hc : 8 + h 56 3 ≤ c) : Pc (qf_X7_imageOf nn c h) (fun u => u = -1) := by
  unfold qf_X7_imageOf
  refine pc_if (fun _ => pc_ret rfl) (fun _ => ?_)
  refine pc_add (by omega) ?_; intro v2 e2
  exact pc_if (fun _ => pc_ret rfl) (fun w => absurd (show v2 ≤ c by omega) w)
theorem vc_brun (S : CSw Bf nf h) (hk : (k : Int) < h 56 3) (hi : (i : Int) < mc_S (Bf k) (nf k)) : Pc (qf_X5_beginRun nn (8 + (k : Int)) (i : Int) h) (SCl Bf nf k i h) := by
  have k8 := S.1.1
  have m12 := ((cg_im (S.1.2 k hk)).1).2.2.1
  unfold qf_X5_beginRun qf_X5_forget
  refine pc_sv (P := fun z => (∀ c j : Nat, ¬ (c = 143 ∧ (1 ≤ j ∧ j ≤ 7)) → z c j = h c j) ∧ z 143 2 = -1 ∧ z 143 3 = 0 ∧ z 143 4 = 0 ∧ z 143 5 = 0 ∧ z 143 6 = 0 ∧ z 143 7 = 0) ?_ ?_
  · refine pc_xl ?_; intro h1 e1
    refine pc_xl ?_; intro h2 e2
    refine pc_xl ?_; intro h3 e3
    refine pc_xl ?_; intro h4 e4
    refine pc_xl ?_; intro h5 e5
    refine pc_xl ?_; intro h6 e6
    refine pc_xl ?_; intro h7 e7
    refine pc_ret ⟨fun c j w => ?_, ?_, ?_, ?_, ?_, ?_, ?_⟩
    · rw [e7, up_n (by omega), e6, up_n (by omega), e5, up_n (by omega), e4, up_n (by omega), e3, up_n (by omega), e2, up_n (by omega), e1, up_n (by omega)]
    · rw [e7, up_n (by omega), e6, up_n (by omega), e5, up_n (by omega), e4, up_n (by omega), e3, up_n (by omega), e2, up_s]
    · rw [e7, up_n (by omega), e6, up_n (by omega), e5, up_n (by omega), e4, up_n (by omega), e3, up_s]
    · rw [e7, up_n (by omega), e6, up_n (by omega), e5, up_n (by omega), e4, up_s]
    · rw [e7, up_n (by omega), e6, up_n (by omega), e5, up_s]
    · rw [e7, up_n (by omega), e6, up_s]
    · rw [e7, up_s]
  intro u2 ⟨F, z2, z3, z4, z5, z6, z7⟩
  refine pc_xl ?_; intro h3 e3
  have F3 : ∀ c j : Nat, ¬ (c = 143 ∧ (1 ≤ j ∧ j ≤ 7)) → h3 c j = h c j := fun c j w => by rw [e3, up_n (by omega)]; exact F c j w
  have N3 : ∀ j : Nat, ¬ j = 1 → h3 143 j = u2 143 j := fun j w => by rw [e3, up_n (by omega)]
  refine pc_sub (by omega) ?_; intro v4 e4
  refine pc_xl ?_; intro v5 e5
  rw [oq_mul_eq (by omega) (by omega) (by omega)] at e5
  refine pc_add (by omega) ?_; intro v6 e6
  have S3 : CSw Bf nf h3 := csw_r S (fun c j _ w => F3 c j (by omega))
  have d3 : h3 143 6 = 0 := by rw [N3 6 (by omega)]; exact z6
  have B := vc_begM (nn := nn) S3 (k := k) (i := i) (by rw [F3 56 3 (by omega)]; exact hk) hi (by omega) (a2 := 0) (a3 := 0) (by omega)
  rw [show v6 = (k : Int) * 12 + (i : Int) by omega]
  refine pc_sv B ?_; intro u8 ⟨G, ⟨g6, g17, g18, g19⟩, ⟨g148, g149, g150⟩, g151⟩
  rw [d3] at G g6 g17 g148 g149 g150 g151
  refine pc_ret ⟨fun c j w1 w2 w3 => ?_, ⟨?_, ?_, ?_, ?_, ?_, ?_, ?_⟩, ⟨g17, ?_, g19⟩, ⟨g148, g149, g150⟩, fun n hn => ?_⟩
  · rw [G c j (by omega) (fun z => w2 ⟨z.1, z.2⟩) (fun z => w3 ⟨z.1, by have := z.2.2; omega⟩)]; exact F3 c j (by omega)
  · rw [G 143 1 (by omega) (by omega) (by omega), e3, up_s]
  · rw [G 143 2 (by omega) (by omega) (by omega), N3 2 (by omega)]; exact z2
  · rw [G 143 3 (by omega) (by omega) (by omega), N3 3 (by omega)]; exact z3
  · rw [G 143 4 (by omega) (by omega) (by omega), N3 4 (by omega)]; exact z4
  · rw [G 143 5 (by omega) (by omega) (by omega), N3 5 (by omega)]; exact z5
  · rw [g6]; omega
  · rw [G 143 7 (by omega) (by omega) (by omega), N3 7 (by omega)]; exact z7
  · rw [g18]; exact F3 60 k (by omega)
  · have := g151 n hn
    rw [if_neg (by omega)] at this
    rw [show 30 * (0 : Int).toNat + n = n by omega] at this
    exact this
/-- START, the class -/
theorem vc_start (S : CSw Bf nf h) : Pc (qf_X12_start nn a1 a2 h) (QSc Bf nf a1 a2 h) := by
  have k8 := S.1.1
  have NO : (∀ k i : Nat, ¬ STg Bf nf (h 56 3) (h 56 4) a1 a2 k i) → Pc (some ((0 : Int), h)) (QSc Bf nf a1 a2 h) := fun w => pc_ret (.inl ⟨rfl, w⟩)
  unfold qf_X12_start
  by_cases w : 8 ≤ a1 ∧ a1 < 8 + h 56 3
  · obtain ⟨k, ek⟩ : ∃ k : Nat, a1 = 8 + (k : Int) := ⟨(a1 - 8).toNat, by omega⟩
    have hk : (k : Int) < h 56 3 := by omega
    have X := S.1.2 k hk
    have k3 : kc_O (h 60 k).toNat = 3 := X.1.1.1
    have h60 : 0 ≤ h 60 k := Classical.byContradiction fun w => by
      rw [show (h 60 k).toNat = 0 by omega] at k3
      exact absurd k3 (by decide)
    obtain ⟨G, -, e12, MD⟩ := cg_im X
    refine pc_sv (vc_img S.1 (c := a1) w.1 w.2) ?_; intro u3 q3
    rw [show (a1 - 8).toNat = k by omega] at q3
    rw [q3]
    refine pc_if (fun z => NO (fun k i q => q.1 z)) (fun z4 => ?_)
    refine pc_if (fun z => absurd z (by omega)) (fun _ => ?_)
    refine pc_if (fun z => NO (fun k i q => by have := q.2.1.2; omega)) (fun z2 => ?_)
    refine pc_ck (fun _ => ?_)
    rw [e12]
    refine pc_if (fun z => ?_) (fun z => NO (fun k2 i q => by
      have e : k2 = k := by have := q.2.1.1; omega
      have q4 := q.2.2.2.1
      rw [e] at q4
      have := q.2.1.2
      omega))
    obtain ⟨i, ei⟩ : ∃ i : Nat, a2 = (i : Int) := ⟨a2.toNat, by omega⟩
    have hi : (i : Int) < mc_S (Bf k) (nf k) := by omega
    have M := MD i hi
    have GM := G.2.2.2 i hi
    have KI : ∀ k2 i2 : Nat, STg Bf nf (h 56 3) (h 56 4) a1 a2 k2 i2 → k2 = k ∧ i2 = i := fun k2 i2 q => ⟨by have := q.2.1.1; omega, by have := q.2.1.2; omega⟩
    rw [ei]
    refine pc_sv (vq_of X hi (w := 0) (by omega) M.1.1) ?_; intro u10 q10
    refine pc_if (fun z0 => ?_) (fun z0 => ?_)
    · rw [← ei]
      refine NO (fun k2 i2 q => ?_)
      obtain ⟨x1, x2⟩ := KI k2 i2 q
      have := q.2.2.2.2.1
      rw [x1, x2, ← q10] at this
      exact this z0
    · refine pc_sv (vq_of X hi (w := 11) (by omega) M.1.2.2.2.1) ?_; intro u12 q12
      obtain ⟨m, em, _⟩ := GM.2.1
      rw [em] at q12
      have q12 : u12 = (m : Int) := q12
      refine pc_if (fun zz => ?_) (fun zz => ?_)
      · rw [ek]
        refine pc_sv (vc_brun S hk hi) ?_; intro u15 q15
        refine pc_ret (.inr ⟨k, i, ⟨z4, ⟨rfl, rfl⟩, hk, hi, by rw [← q10]; exact z0, ?_⟩, rfl, q15⟩)
        rw [em, show m = 0 by omega]
      · rw [← ei]
        refine NO (fun k2 i2 q => ?_)
        obtain ⟨x1, x2⟩ := KI k2 i2 q
        have := q.2.2.2.2.2
        rw [x1, x2, em] at this
        have := Option.some.inj this
        omega
  · have I : Pc (qf_X7_imageOf nn a1 h) (fun u => u = -1) := by
      by_cases z : a1 < 8
      · exact vc_im0 z
      · exact vc_imh k8 (by omega)
    refine pc_sv I ?_; intro u3 q3
    have N : ∀ k i : Nat, ¬ STg Bf nf (h 56 3) (h 56 4) a1 a2 k i := fun k i q => w (by have := q.2.1.1; have := q.2.2.1; omega)
    exact pc_if (fun _ => NO N) (fun _ => pc_if (fun _ => NO N) (fun z => absurd (show u3 < 0 by omega) z))
/-- START, the reference -/
theorem vr_startR (ra : -2147483648 ≤ a1 ∧ a1 ≤ 2147483647) (S : RSv Bf nf h) : Pc (qf_X13_start nn a1 a2 h) (QSr Bf nf a1 a2 h) := by
  have k8 := S.1
  have NO : (∀ k i : Nat, ¬ STg Bf nf (h 160 98) (h 160 99) a1 a2 k i) → Pc (some ((0 : Int), h)) (QSr Bf nf a1 a2 h) := fun w => pc_ret (.inl ⟨rfl, w⟩)
  unfold qf_X13_start
  refine pc_xl ?_; intro v4 e4
  have ev : (0 ≤ v4 ∧ v4 < h 160 98) ∨ (8 ≤ a1 ∧ a1 < 8 + h 160 98) → v4 = a1 - 8 := fun w => by
    by_cases y : -2147483648 ≤ a1 - 8
    · rw [e4]; exact oq_sub_eq ra (by omega) (by omega)
    · have s := sub8 ra (by omega)
      exfalso; omega
  have IN : ∀ k i : Nat, STg Bf nf (h 160 98) (h 160 99) a1 a2 k i → v4 = (k : Int) := fun k i q => by
    have := q.2.1.1
    have := q.2.2.1
    have := ev (.inr (by omega))
    omega
  refine pc_if (fun z => NO (fun k i q => q.1 z)) (fun z9 => ?_)
  refine pc_if (fun z => NO (fun k i q => by have := IN k i q; omega)) (fun y1 => ?_)
  refine pc_if (fun z => NO (fun k i q => by have := IN k i q; have := q.2.2.1; omega)) (fun y2 => ?_)
  refine pc_if (fun z => NO (fun k i q => by have := q.2.1.2; omega)) (fun y3 => ?_)
  have ea := ev (.inl (by omega))
  obtain ⟨k, ek⟩ : ∃ k : Nat, v4 = (k : Int) := ⟨v4.toNat, by omega⟩
  subst ek
  have hk : (k : Int) < h 160 98 := by omega
  obtain ⟨n6, k8'⟩ := tb_n6 S hk
  obtain ⟨G, -, e234, MD⟩ := rg_im (S.2 k hk)
  refine pc_rA ?_; intro _ _ v8 e8
  rw [e234] at e8
  have m12 := G.2.2.1
  have KI : ∀ k2 i2 : Nat, STg Bf nf (h 160 98) (h 160 99) a1 a2 k2 i2 → k2 = k ∧ (i2 : Int) = a2 := fun k2 i2 q => ⟨by have := q.2.1.1; omega, by have := q.2.1.2; omega⟩
  refine pc_if (fun z => ?_) (fun z => NO (fun k2 i2 q => by
    obtain ⟨x1, x2⟩ := KI k2 i2 q
    have q4 := q.2.2.2.1
    rw [x1] at q4
    omega))
  obtain ⟨i, ei⟩ : ∃ i : Nat, a2 = (i : Int) := ⟨a2.toNat, by omega⟩
  have hi : (i : Int) < mc_S (Bf k) (nf k) := by omega
  subst ei
  have GM := G.2.2.2 i hi
  obtain ⟨m, em, _⟩ := GM.2.1
  obtain ⟨tg1, ps, MK⟩ := pi_ps em
  obtain ⟨w1, w2, w3⟩ := tg_in (B := Bf k) (n := nf k) (k := Bf k (ma_S (Bf k) (nf k) i + 2)) (by omega)
  obtain ⟨p1, p2, p3⟩ := tb_pl S hk w1 w2
  have p4 := (p2.2.1 (by omega)).1
  have rg := mkd_rg MK 0 (Nat.zero_le _)
  have na : na_S (Bf k) (nf k) (Bf k (ma_S (Bf k) (nf k) i + 2)) = pl_S (Bf k) (nf k) (Bf k (ma_S (Bf k) (nf k) i + 2)) + 2 := rfl
  have ps0 := MK.1.2.1
  have man : ma_S (Bf k) (nf k) i < nf k := by have := GM.2.2.2.1; omega
  have kt : kt_S (Bf k) (nf k) i 1 = Bf k (ma_S (Bf k) (nf k) i + 2) := by unfold kt_S; rw [if_neg (by decide)]
  refine pc_xl ?_; intro v9 e9
  rw [oq_mul_eq (by omega) (by omega) (by omega)] at e9
  refine pc_xl ?_; intro v11 e11
  rw [oq_mul_eq (by omega) (by omega) (by omega)] at e11
  have q := (vq_rtx (nn := nn) S hk (j := i) (s := 1) (by unfold mb_S; rw [if_neg (by decide)]; exact hi)).2
  rw [kt] at q
  refine pc_sv q ?_; intro u13 q13
  refine pc_add (by omega) ?_; intro v14 e14
  refine pc_rA ?_; intro _ _ v15 e15
  rw [show v14.toNat = (256 * (k : Int) + Bf k (ma_S (Bf k) (nf k) i + 2)).toNat by omega, p1] at e15
  refine pc_add (by omega) ?_; intro v16 e16
  refine pc_add (by omega) ?_; intro v17 e17
  refine pc_xl ?_; intro v19 e19
  rw [oq_mul_eq (by omega) (by omega) (by omega)] at e19
  refine pc_add (by omega) ?_; intro v20 e20
  refine pc_rA ?_; intro _ _ v21 e21
  rw [show v20.toNat = (12 * (k : Int) + (i : Int)).toNat by omega, (MD i hi).1] at e21
  rw [e21]
  refine pc_sv (vq_rbyte S hk man) ?_; intro u23 q23
  refine pc_if (fun z0 => ?_) (fun z0 => ?_)
  · refine NO (fun k2 i2 q => ?_)
    obtain ⟨x1, x2⟩ := KI k2 i2 q
    have := q.2.2.2.2.1
    rw [x1, show i2 = i by omega, ← q23] at this
    exact this z0
  · refine pc_add (by omega) ?_; intro v25 e25
    refine pc_rA ?_; intro _ _ v26 e26
    rw [show v25.toNat = 6000 * k + (pl_S (Bf k) (nf k) (Bf k (ma_S (Bf k) (nf k) i + 2)) + 3) by omega, tb_by S hk (by omega), show pl_S (Bf k) (nf k) (Bf k (ma_S (Bf k) (nf k) i + 2)) + 3 = ps 0 by omega] at e26
    refine pc_if (fun zz => ?_) (fun zz => ?_)
    · have m0 : m = 0 := Classical.byContradiction fun w => (MK.2.1 0 (by omega)).2 (by rw [← e26]; exact zz)
      refine pc_xl ?_; intro h27 e27
      refine pc_xl ?_; intro h28 e28
      refine pc_xl ?_; intro h29 e29
      refine pc_xl ?_; intro h30 e30
      refine pc_xl ?_; intro h31 e31
      refine pc_xl ?_; intro h32 e32
      unfold qj_X13_start_133
      refine pc_xl ?_; intro h1 e1
      have d1 : h1 160 149 = 0 := by rw [e1, up_s]
      have F1 : ∀ c j : Nat, ¬ (c = 160 ∧ ((138 ≤ j ∧ j ≤ 143) ∨ j = 149)) → h1 c j = h c j := fun c j w => by
        rw [e1, up_n (by omega), e32, up_n (by omega), e31, up_n (by omega), e30, up_n (by omega), e29, up_n (by omega), e28, up_n (by omega), e27, up_n (by omega)]
      refine pc_sv (vr_enter (c := a1) (m := (i : Int))) ?_; intro u3 ⟨r1, r2, ⟨r3, r4, r5, r6⟩, r7⟩
      rw [d1] at r1 r2 r3 r4 r5 r6 r7
      have r0 := r1
      have r1 : ∀ j : Nat, ¬ j = 149 → u3 160 j = h1 160 j := fun j w => r0 160 j (by omega) (by omega) (by omega)
      suffices R : SRf k i h u3 from pc_ret (.inr ⟨k, i, ⟨z9, ⟨by omega, rfl⟩, hk, hi, by rw [← q23]; exact z0, by rw [em, m0]⟩, rfl, R⟩)
      refine ⟨fun c j x1 x2 x3 => ?_, ⟨?_, ?_, ?_, ?_, ?_, ?_, ?_⟩, ⟨?_, r4, r5, r6⟩, fun n hn => ?_⟩
      · rw [r0 c j (by omega) (fun y => x2 ⟨y.1, y.2⟩) (fun y => x3 ⟨y.1, by have := y.2.2; omega⟩)]
        exact F1 c j x1
      · rw [r1 138 (by omega), e1, up_n (by omega), e32, up_n (by omega), e31, up_n (by omega), e30, up_n (by omega), e29, up_n (by omega), e28, up_n (by omega), e27, up_s]
      · rw [r1 139 (by omega), e1, up_n (by omega), e32, up_n (by omega), e31, up_n (by omega), e30, up_n (by omega), e29, up_n (by omega), e28, up_s]
      · rw [r1 140 (by omega), e1, up_n (by omega), e32, up_n (by omega), e31, up_n (by omega), e30, up_n (by omega), e29, up_s]
      · rw [r1 141 (by omega), e1, up_n (by omega), e32, up_n (by omega), e31, up_n (by omega), e30, up_s]
      · rw [r1 142 (by omega), e1, up_n (by omega), e32, up_n (by omega), e31, up_s]
      · rw [r1 143 (by omega), e1, up_n (by omega), e32, up_s]
      · exact r2
      · rw [show u3 251 0 = a1 from r3]; omega
      · have := r7 n hn
        rw [show 60 * (0 : Int).toNat + n = n by omega] at this
        exact this
    · refine NO (fun k2 i2 q => ?_)
      obtain ⟨x1, x2⟩ := KI k2 i2 q
      have y := q.2.2.2.2.2
      rw [x1, show i2 = i by omega, em] at y
      have m0 := Option.some.inj y
      rw [m0] at MK
      exact zz (by rw [e26]; exact MK.2.2.1.1)
end
