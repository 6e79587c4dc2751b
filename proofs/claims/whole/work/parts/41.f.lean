/- TYPE OF BOTH SIDES -/
section
variable {nn : Nat} {M : ms_M} {B : Nat → Int} {n : Nat}
theorem r_super {Bf : Nat → Nat → Int} {nf : Nat → Nat} (h98 : 0 ≤ M 160 98 ∧ M 160 98 ≤ 8) (S : ∀ k : Nat, (k : Int) < M 160 98 → TBr (k : Int) (nf k) (Bf k) M) {k : Nat} (hk : (k : Int) < M 160 98) : Pc (qf_X13_superOf nn (8 + (k : Int)) M) (CNo Bf nf (M 160 98) (fun i => Bf k (na_S (Bf k) (nf k) (nu_S (Bf k) (nf k)) + i)) (tl_S (Bf k) (nf k) (nu_S (Bf k) (nf k)))) := by
  have X := S k hk
  obtain ⟨p, zk, hp, h230, h231, b1, b2, n1, n2, c1, c2, t1, t2, -⟩ := tb_no X
  obtain ⟨⟨s1, s2, s3, s4⟩, ⟨x1, x2, x3, x4⟩, p', q', zk', y', -⟩ := X
  generalize hBk : Bf k = B at *
  generalize hnk : nf k = n at *
  rw [Int.toNat_natCast] at h231 s3
  have k1 := tg_in (B := B) (n := n) (k := B (p + 1)) (by omega)
  have k2 := tg_in (B := B) (n := n) (k := nu_S B n) (by omega)
  have kv1 := x4 (B (p + 1)) k1.1 k1.2.1
  have kv1b := kv1.2.2.1 (by omega)
  have kv2 := x4 (nu_S B n) k2.1 k2.2.1
  have kv2b := kv2.2.1 (by omega)
  unfold qf_X13_superOf
  refine pc_if (fun _ => ?_) (fun z => absurd (by omega) z)
  refine pc_sub (by omega) ?_; intro v1 e1
  refine pc_sub (by omega) ?_; intro v2 e2
  refine pc_sub (by omega) ?_; intro v4 e4
  refine pc_rA ?_; intro i1 i2 v5 e5
  have e5 : v5 = B (p + 1) := by rw [e5, show v4.toNat = k by omega]; exact h231
  rw [show v1 = (k : Int) by omega, show v2 = (k : Int) by omega, e5]
  refine pc_sv (P := fun u => u = nu_S B n) ?_ ?_
  · unfold qf_X13_textOfClass qf_X13_byteAt
    refine pc_xl ?_; intro w1 f1
    rw [oq_mul_eq (by omega) (by omega) (by omega)] at f1
    refine pc_add (by omega) ?_; intro w2 f2
    refine pc_rA ?_; intro j1 j2 w3 f3
    have f3 : w3 = (pl_S B n (B (p + 1)) : Int) := by
      rw [f3, show w2.toNat = (256 * (k : Int) + B (p + 1)).toNat by omega]; exact x3 _ k1.1 k1.2.1
    refine pc_add (by omega) ?_; intro w4 f4
    refine pc_sv (P := fun u => u = nu_S B n) ?_ (fun u q => pc_ret q)
    refine pc_xl ?_; intro w5 f5
    rw [oq_mul_eq (by omega) (by omega) (by omega)] at f5
    refine pc_add (by omega) ?_; intro w6 f6
    refine pc_rA ?_; intro l1 l2 w7 f7
    refine pc_ret ?_
    show w7 = _
    rw [f7, show w6.toNat = 6000 * k + (pl_S B n (B (p + 1)) + 1) by omega, s3 _ (by omega), n2]; rfl
  intro u7 q7
  rw [q7]
  refine pc_sv (P := CNo Bf nf (M 160 98) (fun i => B (na_S B n (nu_S B n) + i)) (tl_S B n (nu_S B n))) ?_ (fun u q => pc_ret q)
  unfold qf_X13_classAtText
  refine pc_xl ?_; intro w1 f1
  rw [oq_mul_eq (by omega) (by omega) (by omega)] at f1
  refine pc_xl ?_; intro w2 f2
  rw [oq_mul_eq (by omega) (by omega) (by omega)] at f2
  refine pc_add (by omega) ?_; intro w3 f3
  refine pc_rA ?_; intro j1 j2 w4 f4
  have f4 : w4 = (pl_S B n (nu_S B n) : Int) := by
    rw [f4, show w3.toNat = (256 * (k : Int) + nu_S B n).toNat by omega]; exact x3 _ k2.1 k2.2.1
  refine pc_add (by omega) ?_; intro w5 f5
  refine pc_add (by omega) ?_; intro w6 f6
  refine pc_add (by omega) ?_; intro w7 f7
  refine pc_rA ?_; intro l1 l2 w8 f8
  have f8 : w8 = (tl_S B n (nu_S B n) : Int) := by
    rw [f8, show w7.toNat = 6000 * k + (pl_S B n (nu_S B n) + 1) by omega, s3 _ (by omega)]; exact kv2b.2.2.2
  rw [f8, show w6 = ((6000 * k + na_S B n (nu_S B n) : Nat) : Int) by unfold na_S; omega]
  have RW : RWt M 226 ((6000 * k + na_S B n (nu_S B n) : Nat) : Int) (tl_S B n (nu_S B n)) (fun i => B (na_S B n (nu_S B n) + i)) := by
    refine ⟨by omega, by unfold na_S; omega, by omega, fun i hi => ?_⟩
    rw [Int.toNat_natCast, Nat.add_assoc]; exact s3 _ (by unfold na_S; omega)
  have nm : ∀ i, i < tl_S B n (nu_S B n) → ¬ B (na_S B n (nu_S B n) + i) = 32 := by
    have a2 := (by_le y'.2.1).2.2
    have zz : p' = p := by rw [zk] at zk'; cases zk'; rfl
    rw [zz] at a2
    have w := (pc_tx (p := p) zk x2.1 a2).2
    rw [← n2] at w
    unfold nm_S at w
    rw [Bool.and_eq_true] at w
    exact nm_32 w.2
  refine pc_sv (P := CNo Bf nf (M 160 98) (fun i => B (na_S B n (nu_S B n) + i)) (tl_S B n (nu_S B n))) ?_ (fun u q => pc_ret q)
  unfold qf_X13_classNamed
  exact r_classNamed (nn := nn) S h98 RW nm nn 0 (fun j _ hj => absurd hj (Nat.not_lt_zero j)) (fun j hj => absurd hj (Nat.not_lt_zero _)) (by omega)
theorem type_2 {Bf : Nat → Nat → Int} {nf : Nat → Nat} (V : VS_ M) (E : SPE Bf nf M) {a b x y : Int} (e1 : qf_X12_type nn a b M = some x) (e2 : qf_X13_type_ nn a b M = some y) : x = y := by
  obtain ⟨⟨p1, p2, p3⟩, ⟨S1, ⟨n1, n2, n3, n4⟩, -⟩, T, N⟩ := E
  unfold qf_X12_type at e1
  unfold qf_X13_type_ at e2
  by_cases a0 : a < 0
  · rw [if_pos a0] at e1 e2; cases e1; cases e2; rfl
  rw [if_neg a0, xl_eq, oq_add_eq (by omega) (by omega) (by omega)] at e1 e2
  by_cases a1 : a < 8 + M 56 3
  · rw [if_pos a1] at e1
    rw [if_neg (by omega)] at e2
    by_cases b0 : b = 0
    · rw [if_neg (fun z => z b0)] at e1
      rw [if_neg (by omega), if_pos (by omega), if_neg (fun z => z b0)] at e2
      obtain ⟨u, eu, e1⟩ := sv_i e1
      cases e1
      obtain ⟨w, ew, e2⟩ := sv_i e2
      cases e2
      have eu : x = M 58 a.toNat := by
        unfold qf_X4_above qf_X4_isClass at eu
        rw [if_neg a0, if_neg (by omega), mx_svs, if_neg (by decide)] at eu
        replace eu := rd_i eu
        exact (Option.some.inj eu).symm
      by_cases a8 : 8 ≤ a
      · obtain ⟨k, hk⟩ : ∃ k : Nat, a = 8 + (k : Int) := ⟨(a - 8).toNat, by omega⟩
        rw [hk] at ew eu
        have c := n4 k (by omega)
        rw [show (8 + (k : Int)).toNat = 8 + k by omega] at eu
        rw [← eu] at c
        have d := r_super (nn := nn) (by omega) T (k := k) (by omega) _ ew
        rw [p1] at d
        exact cl_cn N c d
      · have z := n2 a.toNat (by omega)
        rw [eu, z]
        unfold qf_X13_superOf at ew
        rw [if_neg a8] at ew
        unfold bi_A
        by_cases q0 : a = 0
        · rw [if_neg (fun z => z q0)] at ew
          cases ew
          rw [if_neg (by omega), if_neg (by omega)]
        · rw [if_pos q0] at ew
          by_cases q1 : a = 1
          · rw [if_neg (fun z => z q1)] at ew
            cases ew
            rw [if_pos (by omega)]
          · rw [if_pos q1] at ew
            cases ew
            rw [if_neg (by omega), if_pos (by omega)]
    · rw [if_pos b0] at e1
      obtain ⟨u, eu, e1⟩ := sv_i e1
      unfold qf_X7_imageOf at eu
      by_cases a8 : a < 8
      · rw [if_pos a8] at eu
        cases eu
        rw [if_pos (by decide)] at e1
        by_cases b1 : b < 1
        · rw [if_pos b1] at e1
          rw [if_pos (by omega)] at e2
          cases e1; cases e2; rfl
        · rw [if_neg b1] at e1
          rw [if_neg (by omega)] at e2
          by_cases b4 : 4 < b
          · rw [if_pos b4] at e1
            rw [if_neg (by omega)] at e2
            cases e1; cases e2; rfl
          · rw [if_neg b4] at e1
            rw [if_pos (by omega), if_pos b0, xl_eq, oq_sub_eq (by omega) (by omega) (by omega), if_neg (by omega)] at e2
            cases e1; cases e2; rfl
      · rw [if_neg a8, xl_eq, oq_add_eq (by omega) (by omega) (by omega), if_neg (by omega), xl_eq, oq_sub_eq (by omega) (by omega) (by omega)] at eu
        replace eu := rd_i eu
        have eu := Option.some.inj eu
        obtain ⟨k, hk⟩ : ∃ k : Nat, a = 8 + (k : Int) := ⟨(a - 8).toNat, by omega⟩
        rw [show (a - 8).toNat = k by omega] at eu
        have hd := V.2.2.2.2.1 k (by omega)
        have X := S1 k (by omega)
        have Y := T k (by omega)
        obtain ⟨TT, q1, q2, z1, y1, -, ⟨f10, -⟩, f12, -⟩ := X
        obtain ⟨⟨s1, -⟩, ⟨s2, -⟩, r1, r2, z2, y2, -, ⟨g10, -⟩, g12, -⟩ := Y
        have q12 : q1 = r1 := by rw [z1] at z2; cases z2; rfl
        have q22 : q2 = r2 := by
          have w1 := y1.2.2.1
          have w2 := y2.2.2.1
          rw [← q12, w1] at w2; cases w2; rfl
        rw [Int.toNat_natCast] at s1 s2 g10 g12
        rw [if_neg (by omega)] at e1
        by_cases b1 : b < 0
        · rw [if_pos b1] at e2; cases e2
          rw [if_neg (by omega), if_neg (by omega), if_neg (by omega), if_neg (by omega)] at e1
          cases e1; rfl
        rw [if_neg b1] at e2
        by_cases b4 : b ≤ 4
        · rw [if_pos b4, if_pos b0, xl_eq, oq_sub_eq (by omega) (by omega) (by omega), if_pos (by omega)] at e2
          by_cases c1 : b = 1
          · rw [if_pos c1] at e1 e2
            obtain ⟨-, e1⟩ := ck_i e1
            replace e2 := rd_i e2
            cases e1; cases e2
            rw [← eu, f10, show (a - 8).toNat = k by omega, g10, q12]
          rw [if_neg c1] at e1 e2
          by_cases c2 : b = 2
          · rw [if_pos c2] at e1 e2
            obtain ⟨-, e1⟩ := ck_i e1
            replace e2 := rd_i e2
            cases e1; cases e2
            rw [← eu, f12, show (a - 8).toNat = k by omega, g12, q22]
          rw [if_neg c2] at e1 e2
          by_cases c3 : b = 3
          · rw [if_pos c3] at e1 e2
            obtain ⟨-, e1⟩ := ck_i e1
            replace e2 := rd_i e2
            cases e1; cases e2
            rw [← eu, TT.1.2.2.1, show (a - 8).toNat = k by omega, s1]
          rw [if_neg c3] at e1 e2
          rw [if_pos (by omega)] at e1
          obtain ⟨-, e1⟩ := ck_i e1
          replace e2 := rd_i e2
          cases e1; cases e2
          rw [← eu, TT.2.1, show (a - 8).toNat = k by omega, s2]
        · rw [if_neg b4] at e2; cases e2
          rw [if_neg (by omega), if_neg (by omega), if_neg (by omega), if_neg (by omega)] at e1
          cases e1; rfl
  · rw [if_neg a1] at e1
    rw [if_pos (by omega)] at e2
    cases e1; cases e2; rfl
end
