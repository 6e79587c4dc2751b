/- THE LAW'S LEVEL: keep and clear -/
section
variable {nn t n : Nat} {M M1 M2 h g : ms_M} {c s : Nat}
theorem kp_i24 {s0 : Int} {c s : Nat} {w : Int × ms_M × Nat × Nat} (e : qj_X12_keep_24 nn s0 h c s = some w) : w.1 = s0 ∧ ((s0 < 0 ∧ w.2.1 = h) ∨ (0 ≤ s0 ∧ qf_X5_forget nn h = some w.2.1)) := by
  unfold qj_X12_keep_24 at e
  by_cases d : s0 < 0
  · rw [if_pos d] at e; cases e; exact ⟨rfl, .inl ⟨d, rfl⟩⟩
  · rw [if_neg d] at e
    obtain ⟨u3, e3, e⟩ := sv_i e
    cases e
    exact ⟨rfl, .inr ⟨by omega, e3⟩⟩
theorem im_f2 (O : ∀ c k : Nat, 256 ≤ c → c < cn_M M → M2 c k = M c k) (L : ∀ k : Nat, k < cn_M M → M2 900001 k = M 900001 k) (N : cn_M M ≤ cn_M M2) (a : ∀ k : Nat, M2 55 k = M 55 k) (b : ∀ k : Nat, M2 221 k = M 221 k) (d : ∀ k : Nat, M2 222 k = M 222 k) (e : M2 0 7 = M 0 7) (f : M2 160 93 = M 160 93) (R : im_R M) : im_R M2 := by
  obtain ⟨r1, r2, r3⟩ := R
  refine ⟨by rw [f, e]; exact r1, by rw [e]; exact r2, fun k hk => ?_⟩
  rw [e] at hk
  obtain ⟨⟨x1, x2⟩, x3, x4, x5⟩ := r3 k hk
  rw [a, d]
  refine ⟨⟨x1, Nat.lt_of_lt_of_le x2 N⟩, x3, (L _ x2).trans x4, fun i hi => ?_⟩
  rw [b, O _ i (by omega) x2]
  exact x5 i hi
theorem wh_keep (hn : 1000000 ≤ nn) (ht : t < 512) (W : WHm nn t M c s) {a : Int} : ∃ r M1 c1 s1 M2, qf_X12_keep nn a M = some (r, M1, c1, s1) ∧ qf_X13_keep nn a M1 = some (r, M2) ∧ WHm nn (t + 1) M2 (c + c1) (s + s1) := by
  obtain ⟨w1, w2, w3, w4, w5, w6⟩ := W
  have VM := bva_v w1.1
  have J := w1.1.1.2.2.2
  have SI := w1.1.1.1.2.2.1
  have hc : M 900000 0 < 700000 := by have := w1.2.2.2.1; omega
  obtain ⟨x, M1, c1, s1, y, M2, g1, g2, V'⟩ := vr_keep hn ht w1 (a := a)
  have V2 := bva_v V'.1
  have V1 : VS_ M1 := by
    obtain ⟨u, eu, C, -⟩ := cva_keep (p := 20000 * (t : Int)) hn (by omega) w1.1.1 hc (a1 := a)
    rw [g1] at eu; cases eu
    exact C.1.1
  have F1 := fun c k q => (ff_X12_keep nn) _ g1 c k q
  have F2 := fun c k q => (ff_X13_keep nn) _ g2 c k q
  have R1 : ∀ x k : Nat, 160 ≤ x → x ≤ 255 → M1 x k = M x k := fun x k a b => F1 x k (nw_ref rfl ⟨a, b⟩)
  obtain ⟨m1, m2, m3⟩ := w4
  by_cases A : 0 ≤ a ∧ a < M 0 7
  · obtain ⟨⟨y1, y2⟩, y3, y4, y5⟩ := m3 a.toNat (by omega)
    have im : qf_X12_imageOf nn a M = some (M 55 a.toNat) := by
      unfold qf_X12_imageOf
      rw [if_neg (by omega), if_neg (by omega), if_neg (by omega), rd_ok (by omega)]
    have R := (okof (vf_X12_imageOf VM) im).resolve_left (by omega)
    have e := g1
    unfold qf_X12_keep at e
    obtain ⟨u6, e6, e⟩ := sv_i e
    rw [im] at e6
    cases e6
    rw [if_neg (by omega)] at e
    unfold ln_S at e
    rw [if_pos ⟨R.1, by have := R.2.1; omega⟩] at e
    obtain ⟨u, eu, e⟩ := sv_i e
    obtain ⟨i1, i2⟩ := kp_i24 e
    have i1 : x = u.1 := i1
    have ln : ln_I M (M 55 a.toNat).toNat = M 222 a.toNat := by
      unfold ln_I; rw [if_neg (by omega)]; exact y4
    have H1 : (∀ c k : Nat, ¬ (c = 0 ∧ k = 1) → ¬ (c = 143 ∧ 1 ≤ k ∧ k ≤ 7) → M1 c k = u.2.1 c k) ∧ (u.1 < 0 → ∀ k : Nat, M1 143 k = u.2.1 143 k) ∧ (0 ≤ u.1 → M1 143 1 = 0 ∧ M1 143 2 = -1 ∧ M1 143 3 = 0 ∧ M1 143 4 = 0 ∧ M1 143 5 = 0 ∧ M1 143 6 = 0 ∧ M1 143 7 = 0) := by
      rcases i2 with ⟨d, e⟩ | ⟨d, e⟩
      · have e : M1 = u.2.1 := e
        rw [e]
        exact ⟨fun c k q _ => rfl, fun _ k => rfl, fun q => by omega⟩
      · obtain ⟨f1, f2⟩ := fg_5 e
        exact ⟨fun c k q q2 => f2 c k q2, fun q => by omega, fun _ => f1⟩
    have g2' := g2
    unfold qf_X13_keep at g2'
    have e93 : M1 160 93 = M 0 7 := (R1 160 93 (by omega) (by omega)).trans m1
    have e222 : M1 222 a.toNat = M 222 a.toNat := R1 222 _ (by omega) (by omega)
    rw [if_neg (by omega), if_pos (by omega), rd_ok (by omega), xl_eq, e222] at g2'
    have V12 : VS_ (up_M M1 160 113 (M 222 a.toNat)) := wF_160_113 V1 y3
    obtain ⟨g, Vg, g113, g238, gx, gl⟩ := rl_26 (nn := nn) (l1 := a) (by omega) _ _ _ V12 (Int.le_refl 0) (fun i hi => by omega) _ g2'
    rw [up_s] at g113 g238
    have gB : ∀ i : Nat, (i : Int) < M 222 a.toNat → g 238 i = M 221 (6000 * a.toNat + i) := fun i hi => by
      rw [g238 i hi, up_n (by omega)]; exact R1 221 _ (by omega) (by omega)
    have en : M 222 a.toNat = ((M 222 a.toNat).toNat : Int) := (Int.toNat_of_nonneg y3.1).symm
    have fin := br_fin (nn := nn) (M1 := M1) (n := (M 222 a.toNat).toNat) (B := fun i => g 238 i) hn VM SI J w5 ⟨R.1, R.2.1⟩ (a2 := ln_I M (M 55 a.toNat).toNat) ⟨by rw [ln]; exact en, by omega, by rw [ln]; omega⟩ (fun i hi => by rw [gB i (by omega)]; exact (y5 i (by omega)).1.symm) hc eu H1.1 H1.2.1 H1.2.2 Vg (by rw [g113]; exact en) (fun i => rfl) (fun x k q1 q2 => by rw [gx x k q1, up_n (by omega)]) gl V2
    have q1 : x = y := i1.trans fin.1
    obtain ⟨z1, z2, z3, z4⟩ := br_im (nn := nn) (M2 := M2) hn VM V2 SI ⟨R.1, R.2.1⟩ (a2 := ln_I M (M 55 a.toNat).toNat) (by rw [ln]; exact y3) hc eu (fun c k q1 q2 q3 => (F2 c k (nw_cls rfl q3)).trans (H1.1 c k q1 q2)) (fun k => (F2 221 k (nw_ar rfl k)).trans (R1 221 k (by omega) (by omega))) (fun k => (F2 222 k (nw_ar rfl k)).trans (R1 222 k (by omega) (by omega))) ((F2 160 93 rfl).trans (R1 160 93 (by omega) (by omega))) ((F2 160 9 rfl).trans (R1 160 9 (by omega) (by omega))) ((F2 160 10 rfl).trans (R1 160 10 (by omega) (by omega))) w2 w3 ⟨m1, m2, m3⟩ w6
    exact ⟨x, M1, c1, s1, M2, g1, by rw [q1]; exact g2, V', z1, z2, z3, fin.2, z4⟩
  · have im : qf_X12_imageOf nn a M = some (-1) := by
      unfold qf_X12_imageOf
      by_cases a0 : a < 0
      · rw [if_pos a0]
      · rw [if_neg a0, if_pos (by omega)]
    have e := g1
    unfold qf_X12_keep at e
    obtain ⟨u6, e6, e⟩ := sv_i e
    rw [im] at e6
    cases e6
    rw [if_pos (by decide)] at e
    obtain ⟨i1, i2⟩ := kp_i24 e
    have i1 : x = -1 := i1
    have i2 : M1 = M := (i2.resolve_right (fun q => absurd q.1 (by decide))).2
    have g2' := g2
    rw [i2] at g2'
    unfold qf_X13_keep at g2'
    have r2 : y = -1 ∧ M2 = M := by
      by_cases a0 : a < 0
      · rw [if_pos a0] at g2'; cases g2'; exact ⟨rfl, rfl⟩
      · rw [if_neg a0, if_neg (by omega)] at g2'; cases g2'; exact ⟨rfl, rfl⟩
    refine ⟨x, M1, c1, s1, M2, g1, by rw [i1, ← r2.1]; exact g2, V', ?_⟩
    rw [r2.2]
    exact ⟨w2, w3, ⟨m1, m2, m3⟩, w5, w6⟩
theorem wh_clear (hn : 1000000 ≤ nn) (W : WHm nn t M c s) : ∃ M1 M2, qf_X12_clear nn M = some M1 ∧ qf_X13_clear nn M1 = some M2 ∧ WHm nn (t + 1) M2 c s := by
  obtain ⟨w1, w2, w3, w4, w5, w6⟩ := W
  have VM := bva_v w1.1
  obtain ⟨M1, M2, g1, g2, V'⟩ := vr_clear hn w1
  obtain ⟨N1, N2, f1, f2, sp, rn, e3, e4, b58, un, F⟩ := clear_2 (nn := nn) (by omega) (vi_c VM)
  rw [g1] at f1; cases f1
  rw [g2] at f2; cases f2
  have e138 : M2 160 138 = 0 := by
    unfold qf_X13_clear at g2
    rw [xl_eq, xl_eq, xl_eq] at g2
    have g2 := Option.some.inj g2
    rw [← g2]; exact up_s
  have e1 : M2 143 1 = 0 := by rw [← rn.1]; exact e138
  obtain ⟨⟨a1, a2, a3⟩, -, th, -⟩ := w5
  have big : ∀ c k : Nat, 256 ≤ c → M2 c k = M c k := fun c k q => F c k (nw_big rfl q)
  have L : cn_M M ≤ cn_M M2 := by unfold cn_M; rw [big 900000 0 (by omega)]; exact Nat.le_refl _
  refine ⟨M1, M2, g1, g2, V', kB_e w2 (fun k => F 6 k (nw_ar rfl k)) (fun k => F 7 k (nw_ar rfl k)) (fun k => F 8 k (nw_ar rfl k)) (fun k => F 10 k (nw_ar rfl k)), ft_fr (F 2 11 rfl) (F 2 12 rfl) (F 160 9 rfl) (F 160 10 rfl) w3, im_f2 (fun c k a _ => big c k a) (fun k _ => big 900001 k (by omega)) L (fun k => F 55 k (nw_ar rfl k)) (fun k => F 221 k (nw_ar rfl k)) (fun k => F 222 k (nw_ar rfl k)) (F 0 7 rfl) (F 160 93 rfl) w4, ⟨⟨?_, ?_, ?_⟩, rn, (F 143 20 rfl).trans th, fun _ _ => 0, fun _ => 0, ⟨sp, ⟨fun k hk => ?_, ⟨un, fun j hj => b58 j (by omega), fun j hj h2 => ?_, fun k hk => ?_⟩, fun j k hj _ _ => ?_⟩, fun k hk => ?_, fun j hj => ?_⟩, ⟨fun q => absurd e4 q, .inl e1, fun q => ?_⟩⟩, fun j hj => ?_⟩
  · rw [F 160 123 rfl, F 127 2 rfl]; exact a1
  · rw [F 160 124 rfl, F 127 3 rfl]; exact a2
  · rw [F 160 125 rfl, F 127 4 rfl]; exact a3
  · rw [e3] at hk; omega
  · rw [b58 j hj]
    rw [e3] at h2
    unfold bi_A
    rw [if_neg (by omega), if_neg (by omega)]
  · rw [e3] at hk; omega
  · rw [e3] at hj; omega
  · rw [sp.1, e3] at hk; omega
  · rw [e3] at hj; omega
  · rw [e1] at q; exact absurd q (by decide)
  · rw [e3] at hj; omega
end
