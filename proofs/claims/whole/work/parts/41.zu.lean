/- VERIFY WHOLE: both sides answer alike -/
def VTw (Bf : Nat → Nat → Int) (nf : Nat → Nat) (cnt : Int) (u a b c : Int) (OK : Prop) : Prop := (∃ j : Nat, (j : Int) < cnt ∧ (∀ i : Nat, i < j → HOk Bf nf cnt i) ∧ NUm Bf nf cnt j u ∧ a = 8 + (j : Int) ∧ b = -1 ∧ c = -1) ∨ ((∀ j : Nat, (j : Int) < cnt → HOk Bf nf cnt j) ∧ MDw Bf nf cnt 0 u a b c OK)
/-- all is right -/
def VOk (Bf : Nat → Nat → Int) (nf : Nat → Nat) (cnt : Int) : Prop := (∀ j : Nat, (j : Int) < cnt → HOk Bf nf cnt j) ∧ ∀ k : Nat, (k : Int) < cnt → ∀ i : Nat, (i : Int) < mc_S (Bf k) (nf k) → mr_F Bf nf cnt k i = none
/-- what verify of the class may write; of the reference -/
def KVc (h g : ms_M) : Prop := ∀ c j : Nat, ¬ (127 ≤ c ∧ c ≤ 135) → ¬ (68 ≤ c ∧ c ≤ 70) → ¬ (c = 56 ∧ j = 4) → g c j = h c j
def KVr (h g : ms_M) : Prop := ∀ x j : Nat, ¬ (x = 160 ∧ (j = 99 ∨ (117 ≤ j ∧ j ≤ 136))) → ¬ (240 ≤ x ∧ x ≤ 245) → g x j = h x j
def QVc (Bf : Nat → Nat → Int) (nf : Nat → Nat) (cnt : Int) (h : ms_M) (u : Int × ms_M) : Prop := KVc h u.2 ∧ VTw Bf nf cnt u.1 (u.2 127 2) (u.2 127 3) (u.2 127 4) (u.2 127 2 = h 127 2 ∧ u.2 127 3 = h 127 3 ∧ u.2 127 4 = h 127 4) ∧ ((u.2 56 4 = 1 ∧ VOk Bf nf cnt) ∨ (u.2 56 4 = 0 ∧ ¬ VOk Bf nf cnt))
def QVr (Bf : Nat → Nat → Int) (nf : Nat → Nat) (cnt : Int) (h : ms_M) (u : Int × ms_M) : Prop := KVr h u.2 ∧ VTw Bf nf cnt u.1 (u.2 160 123) (u.2 160 124) (u.2 160 125) (u.2 160 123 = h 160 123 ∧ u.2 160 124 = h 160 124 ∧ u.2 160 125 = h 160 125) ∧ ((u.2 160 99 = 1 ∧ VOk Bf nf cnt) ∨ (u.2 160 99 = 0 ∧ ¬ VOk Bf nf cnt))
section
variable {nn : Nat} {Bf : Nat → Nat → Int} {nf : Nat → Nat} {cnt mx lc : Int} {B C D : Nat → Int} {n m b d k i L p q y : Nat} {M h g r h0 hb : ms_M} {t t2 c a op x rc : Int} {s : ST3}
theorem vtw_u {u v a b c d e f : Int} {P Q : Prop} (A : VTw Bf nf cnt u a b c P) (D : VTw Bf nf cnt v d e f Q) : u = v ∧ ((P ∧ Q) ∨ (a = d ∧ b = e ∧ c = f)) := by
  rcases A with ⟨j, j1, j2, j3, j4, j5, j6⟩ | ⟨a1, a2⟩
  · rcases D with ⟨i, i1, i2, i3, i4, i5, i6⟩ | ⟨d1, d2⟩
    · have e : j = i := by
        rcases Nat.lt_trichotomy j i with q | q | q
        · exact absurd (i2 j q) (num_ok j3).1
        · exact q
        · exact absurd (j2 i q) (num_ok i3).1
      rw [e] at j3 j4
      exact ⟨num_u j3 i3, .inr ⟨by omega, by omega, by omega⟩⟩
    · exact absurd (d1 j j1) (num_ok j3).1
  · rcases D with ⟨i, i1, i2, i3, i4, i5, i6⟩ | ⟨d1, d2⟩
    · exact absurd (a1 i i1) (num_ok i3).1
    · obtain ⟨w1, w2⟩ := mdw_u a2 d2
      refine ⟨w1, ?_⟩
      rcases w2 with w | w
      · exact .inl w.2
      · exact .inr w
theorem hgo_of (S : CSv Bf nf h) (ec : h 56 3 = cnt) (A : ∀ j : Nat, (j : Int) < cnt → HOk Bf nf cnt j) : HGo Bf nf cnt := by
  refine ⟨by rw [← ec]; exact S.1, fun x hx => ?_⟩
  have hx' : (x : Int) < h 56 3 := by rw [ec]; exact hx
  obtain ⟨z, z1, z2, _⟩ := kz_zk S hx'
  exact ⟨(cg_im (S.2 x hx')).1, A x hx, z, z1, z2⟩
/-- VERIFY, the class -/
theorem vcf_all (hn : 1000000 ≤ nn) (S : CSw Bf nf h) (ec : h 56 3 = cnt) : Pc (qf_X12_verify nn h) (QVc Bf nf cnt h) := by
  have E20 : ∀ (l : Int) (g : ms_M), VCk h g → VTw Bf nf cnt l (g 127 2) (g 127 3) (g 127 4) (g 127 2 = h 127 2 ∧ g 127 3 = h 127 3 ∧ g 127 4 = h 127 4) → ((l = 0 ∧ VOk Bf nf cnt) ∨ (¬ l = 0 ∧ ¬ VOk Bf nf cnt)) → Pc (qj_X12_verify_20 nn l g) (QVc Bf nf cnt h) := fun l g Vg Tg Og => by
    unfold qj_X12_verify_20 qj_X12_verify_33
    refine pc_if (fun z => ?_) (fun z => ?_)
    · refine pc_ck (fun _ => ?_)
      refine pc_xl ?_; intro h2 e2
      have F2 : ∀ x y : Nat, ¬ (x = 56 ∧ y = 4) → h2 x y = g x y := fun x y w => by rw [e2, up_n w]
      refine pc_if (fun _ => pc_ret ⟨fun x y w1 w2 w3 => ?_, ?_, .inr ⟨?_, ?_⟩⟩) (fun w => absurd (by rw [e2, up_s]) w)
      · show h2 x y = h x y
        rw [F2 x y w3]; exact Vg x y w1
      · show VTw Bf nf cnt l (h2 127 2) (h2 127 3) (h2 127 4) (h2 127 2 = h 127 2 ∧ h2 127 3 = h 127 3 ∧ h2 127 4 = h 127 4)
        rw [F2 127 2 (by omega), F2 127 3 (by omega), F2 127 4 (by omega)]; exact Tg
      · show h2 56 4 = 0
        rw [e2, up_s]
      · rcases Og with w | w
        · exact absurd w.1 z
        · exact w.2
    · refine pc_ck (fun _ => ?_)
      refine pc_xl ?_; intro h2 e2
      have F2 : ∀ x y : Nat, ¬ (x = 56 ∧ y = 4) → h2 x y = g x y := fun x y w => by rw [e2, up_n w]
      refine pc_if (fun w => absurd w (by rw [e2, up_s]; decide)) (fun _ => ?_)
      refine pc_se ?_; intro u7 e7
      have F7 : ∀ x y : Nat, ¬ (68 ≤ x ∧ x ≤ 70) → u7 x y = h2 x y := fun x y w => (ff_X7_linkAll nn) u7 e7 x y (by
        show nw_F [68, 69, 70] [] false false x y = true
        unfold nw_F
        have n1 : ¬ x = 68 := by omega
        have n2 : ¬ x = 69 := by omega
        have n3 : ¬ x = 70 := by omega
        simp [n1, n2, n3])
      refine pc_ret ⟨fun x y w1 w2 w3 => ?_, ?_, .inl ⟨?_, ?_⟩⟩
      · show u7 x y = h x y
        rw [F7 x y w2, F2 x y w3]; exact Vg x y w1
      · show VTw Bf nf cnt l (u7 127 2) (u7 127 3) (u7 127 4) (u7 127 2 = h 127 2 ∧ u7 127 3 = h 127 3 ∧ u7 127 4 = h 127 4)
        rw [F7 127 2 (by omega), F7 127 3 (by omega), F7 127 4 (by omega), F2 127 2 (by omega), F2 127 3 (by omega), F2 127 4 (by omega)]; exact Tg
      · show u7 56 4 = 1
        rw [F7 56 4 (by omega), e2, up_s]
      · rcases Og with w | w
        · exact w.2
        · exact absurd (by omega) w.1
  unfold qf_X12_verify
  have q := vc_heads (nn := nn) hn S
  rw [ec] at q
  refine pc_sv q ?_; intro u13 ⟨V13, Z13⟩
  rcases Z13 with ⟨n0, A, T⟩ | ⟨j, _, j2, j3, j4, j5, j6, j7⟩
  · refine pc_if (fun z => absurd n0 z) (fun _ => ?_)
    have A' : ∀ j : Nat, (j : Int) < cnt → HOk Bf nf cnt j := fun j hj => A j (by omega) hj
    have H := hgo_of S.1 ec A'
    have S13 := csw_v S V13
    have ec13 : u13.2 56 3 = cnt := (V13 56 3 (by omega)).trans ec
    refine pc_sv (vc_methods hn H S13 ec13) ?_; intro u16 ⟨V16, M16, N16⟩
    refine E20 u16.1 u16.2 (vck_t V13 V16) (.inr ⟨A', ?_⟩) ?_
    · rcases M16 with ⟨a1, a2, a3⟩ | w
      · exact .inl ⟨a1, a2, by rw [a3.1, a3.2.1, a3.2.2]; exact T⟩
      · exact .inr w
    · by_cases z : u16.1 = 0
      · exact .inl ⟨z, A', fun k hk => N16 z k (by omega) hk⟩
      · refine .inr ⟨z, fun w => ?_⟩
        rcases M16 with ⟨a1, _⟩ | ⟨x, i, ⟨x1, x2, x3⟩, _, _, x6, _⟩
        · exact z a1
        · have := w.2 x x2 i x3
          rw [x6] at this; exact nomatch this
  · have nz := (num_ok j4).2
    refine pc_if (fun _ => ?_) (fun z => absurd (show ¬ u13.1 = 0 by omega) z)
    exact E20 u13.1 u13.2 V13 (.inl ⟨j, j2, fun i hi => j3 i (by omega) hi, j4, j5, j6, j7⟩) (.inr ⟨by omega, fun w => (num_ok j4).1 (w.1 j j2)⟩)
/-- VERIFY, the reference -/
theorem vrf_all (N : NKn Bf nf cnt) (S : RSv Bf nf h) (ec : h 160 98 = cnt) (HH : (∀ j : Nat, (j : Int) < cnt → HOk Bf nf cnt j) → HGo Bf nf cnt) : Pc (qf_X13_verify nn h) (QVr Bf nf cnt h) := by
  have c0 := S.1
  rw [ec] at c0
  unfold qf_X13_verify
  refine pc_xl ?_; intro h25 e25
  refine pc_xl ?_; intro h26 e26
  refine pc_xl ?_; intro h27 e27
  have F27 : ∀ x y : Nat, ¬ (x = 160 ∧ (y = 99 ∨ y = 117 ∨ y = 122)) → h27 x y = h x y := fun x y w => by rw [e27, up_n (by omega), e26, up_n (by omega), e25, up_n (by omega)]
  have w122 : h27 160 122 = 0 := by rw [e27, up_n (by omega), e26, up_s]
  have w117 : h27 160 117 = 0 := by rw [e27, up_s]
  have S27 : RSv Bf nf h27 := rsv_k S (fun x j w => F27 x j (by omega)) (F27 160 98 (by omega))
  have ec27 : h27 160 98 = cnt := (F27 160 98 (by omega)).trans ec
  refine vr_20 (h0 := h27) (Bf := Bf) (nf := nf) (cnt := cnt) N c0.2 (fun g Vg Wg A => ?_) (fun g j Vg hj A NU e3 e4 e5 => ?_) (by omega) nn 0 h27 S27 ec27 vrk_r ⟨rfl, rfl, rfl, rfl⟩ (by omega) (fun j hj => absurd hj (by omega))
  · have H := HH A
    have Kg : RKm h27 g := fun x j z1 z2 => Vg.1 x j (by omega) (by omega) (by omega)
    have q := vr_v50 (nn := nn) H N S27 ec27 w122 nn 0 g Kg Wg (Vg.2 (by omega)) (by omega)
    refine pc_imp q (fun u ⟨r1, r2, r3, r4⟩ => ⟨fun x j z1 z2 => ?_, .inr ⟨A, ?_⟩, ?_⟩)
    · rw [r1.1 x j z1 z2]; exact F27 x j (by omega)
    · rcases r2 with ⟨a1, a2, a3⟩ | w
      · refine .inl ⟨a1, a2, ?_, ?_, ?_⟩
        · rw [a3.2.1]; exact F27 _ _ (by omega)
        · rw [a3.2.2.1]; exact F27 _ _ (by omega)
        · rw [a3.2.2.2]; exact F27 _ _ (by omega)
      · exact .inr w
    · rcases r3 with w | w
      · exact .inl ⟨w, A, fun k hk => r4.1 w k (by omega) hk⟩
      · exact .inr ⟨w, fun v => absurd (r4.2 (fun k _ hk => v.2 k hk)) (by omega)⟩
  · have Kg : RKm h27 g := fun x j z1 z2 => Vg.1 x j (by omega) (by omega) (by omega)
    suffices L : ∀ y : Nat, Pc (qw_X13_verify_50 nn y 0 8 g) (QVr Bf nf cnt h) from L nn
    intro y
    cases y with
    | zero => exact pc_none
    | succ y =>
      have B103 : Pc (qj_X13_verify_103 nn 0 g) (QVr Bf nf cnt h) := by
        refine pc_imp (vr_v103 (Bf := Bf) (nf := nf) (cnt := cnt) Kg (Vg.2 (by omega))) (fun u ⟨r1, r2, ⟨r3, r4, r5, r6⟩, r7⟩ => ⟨fun x j z1 z2 => ?_, .inl ⟨j, hj, A, ?_, ?_, ?_, ?_⟩, .inr ⟨r7, fun w => (num_ok NU).1 (w.1 j hj)⟩⟩)
        · rw [r1.1 x j z1 z2]; exact F27 x j (by omega)
        · rw [r2]; exact NU
        · rw [r4]; exact e3
        · rw [r5]; exact e4
        · rw [r6]; exact e5
      unfold qw_X13_verify_50
      refine pc_xl ?_; intro v15 _
      exact pc_if (fun _ => B103) (fun _ => pc_if (fun _ => B103) (fun w => absurd rfl w))
/-- the space is not changed by it -/
theorem ly_68 {c : Nat} (t : ly_T c = 1) : ¬ (68 ≤ c ∧ c ≤ 70) ∧ ¬ c = 56 := by
  constructor
  · intro z
    rcases (show c = 68 ∨ c = 69 ∨ c = 70 by omega) with e | e | e
    all_goals (rw [e] at t; exact absurd t (by decide))
  · intro e
    rw [e] at t; exact absurd t (by decide)
theorem csp_v (S : CSp Bf nf h) (A : ∀ c j : Nat, c < 160 ∨ 256 ≤ c → ¬ (127 ≤ c ∧ c ≤ 135) → ¬ (68 ≤ c ∧ c ≤ 70) → ¬ (c = 56 ∧ j = 4) → g c j = h c j) : CSp Bf nf g := by
  obtain ⟨s1, ⟨n1, n2, n3, n4⟩, s3⟩ := S
  have e3 : g 56 3 = h 56 3 := A _ _ (by omega) (by omega) (by omega) (by omega)
  have e60 : ∀ k : Nat, g 60 k = h 60 k := fun k => A _ _ (by omega) (by omega) (by omega) (by omega)
  refine ⟨fun k hk => ?_, ⟨?_, fun j hj => by rw [A _ _ (by omega) (by omega) (by omega) (by omega)]; exact n2 j hj, fun j hj h2 => by rw [A _ _ (by omega) (by omega) (by omega) (by omega)]; exact n3 j hj (by omega), fun k hk => by rw [A 58 _ (by omega) (by omega) (by omega) (by omega), e3]; exact n4 k (by omega)⟩, ?_⟩
  · rw [e60 k]
    have X := s1 k (by omega)
    have id := im_at X.1.1.1
    have t1 : ly_T (h (h 60 k).toNat 0).toNat = 1 := X.1.1.2.2.2.2.2.1
    have ec : cn_M g = cn_M h := by unfold cn_M; rw [A _ _ (by omega) (by omega) (by omega) (by omega)]
    refine imc_s ⟨fun c i c1 c2 => A _ _ (by omega) (by omega) (by omega) (by omega), fun i => A _ _ (ly_1r t1) (ly_vf t1) (ly_68 t1).1 (fun w => (ly_68 t1).2 w.1), by omega, ?_⟩ X
    unfold ln_I
    split
    · rfl
    · exact A _ _ (by omega) (by omega) (by omega) (by omega)
  · have ef : g (57 + 1) = h (57 + 1) := funext (fun j => A _ _ (by omega) (by omega) (by omega) (by omega))
    unfold un_R
    rw [ef]
    intro x y hx hy
    rw [show g (57 + 2) (16 * x + y) = h (57 + 2) (16 * x + y) from A _ _ (by omega) (by omega) (by omega) (by omega)]
    exact n1 x y hx hy
  · intro j k hj hk jk
    have ij := im_at (s1 j (by omega)).1.1.1
    have ik := im_at (s1 k (by omega)).1.1.1
    rw [e60 j, e60 k, A (h 60 j).toNat 0 (by omega) (by omega) (by omega) (by omega), A (h 60 k).toNat 0 (by omega) (by omega) (by omega) (by omega)]
    exact s3 j k (by omega) (by omega) jk
/-- VERIFY ANSWERS ALIKE -/
theorem vf_2 (hn : 1000000 ≤ nn) (E : SPE Bf nf M) (W : wh_R M) {u v : Int × ms_M} (e1 : qf_X12_verify nn M = some u) (e2 : qf_X13_verify nn u.2 = some v) : u.1 = v.1 ∧ SPE Bf nf v.2 ∧ wh_R v.2 ∧ KVc M u.2 ∧ KVr u.2 v.2 ∧ ((v.2 56 4 = 1 ∧ VOk Bf nf (M 56 3) ∧ HGo Bf nf (M 56 3)) ∨ (v.2 56 4 = 0 ∧ ¬ VOk Bf nf (M 56 3))) := by
  obtain ⟨⟨p1, p2, p3⟩, C, TB, N⟩ := E
  have S : CSw Bf nf M := ⟨⟨p2, C.1⟩, C.2.1⟩
  obtain ⟨K1, T1, Z1⟩ := vcf_all hn S rfl u e1
  have e98 : u.2 160 98 = M 56 3 := (K1 160 98 (by omega) (by omega) (by omega)).trans p1
  have RS : RSv Bf nf u.2 := rsv_k (h := M) ⟨by rw [p1]; exact p2, TB⟩ (fun x j w => K1 x j (by omega) (by omega) (by omega)) (K1 160 98 (by omega) (by omega) (by omega))
  obtain ⟨K2, T2, Z2⟩ := vrf_all N RS e98 (fun A => hgo_of S.1 rfl A) v e2
  obtain ⟨eu, we⟩ := vtw_u T1 T2
  have k127 : ∀ j : Nat, v.2 127 j = u.2 127 j := fun j => K2 127 j (by omega) (by omega)
  have k160 : ∀ j : Nat, 123 ≤ j → j ≤ 125 → u.2 160 j = M 160 j := fun j _ _ => K1 160 j (by omega) (by omega) (by omega)
  have v56 : v.2 56 4 = u.2 56 4 := K2 56 4 (by omega) (by omega)
  have v563 : v.2 56 3 = M 56 3 := (K2 56 3 (by omega) (by omega)).trans (K1 56 3 (by omega) (by omega) (by omega))
  have v98 : v.2 160 98 = M 56 3 := (K2 160 98 (by omega) (by omega)).trans e98
  refine ⟨eu, ⟨⟨by rw [v98, v563], by rw [v563]; exact p2, ?_⟩, csp_v C (fun c j w1 w2 w3 w4 => ?_), fun k hk => ?_, by rw [v563]; exact N⟩, ?_, K1, K2, ?_⟩
  · rw [v56]
    rcases Z1 with z | z
    · rcases Z2 with w | w
      · rw [w.1, z.1]
      · exact absurd z.2 w.2
    · rcases Z2 with w | w
      · exact absurd w.2 z.2
      · rw [w.1, z.1]
  · rw [K2 c j (by omega) (by omega)]; exact K1 c j w2 w3 w4
  · exact (rsv_k RS (fun x j w => K2 x j (by omega) (by omega)) (K2 160 98 (by omega) (by omega))).2 k hk
  · obtain ⟨w1, w2, w3⟩ := W
    unfold wh_R
    rw [k127 2, k127 3, k127 4]
    rcases we with ⟨⟨a1, a2, a3⟩, b1, b2, b3⟩ | ⟨a1, a2, a3⟩
    · rw [a1, a2, a3, b1, b2, b3, k160 123 (by omega) (by omega), k160 124 (by omega) (by omega), k160 125 (by omega) (by omega)]
      exact ⟨w1, w2, w3⟩
    · exact ⟨a1.symm, a2.symm, a3.symm⟩
  · rw [v56]
    rcases Z1 with z | z
    · exact .inl ⟨z.1, z.2, hgo_of S.1 rfl z.2.1⟩
    · exact .inr z
end
