/- RUN: calls -/
section
variable {nn : Nat} {Bf : Nat → Nat → Int} {nf : Nat → Nat} {cnt : Int} {k i t P H d k2 k3 j3 F n : Nat} {A B g r u z p h w A1 B1 g0 f : ms_M} {ω : Int → ms_M} {op o v wd c kk tt ty x y a e s uu bb j q m tc d3 : Int} {L : Int → Int} {N ai : Nat} {T U : Nat → ms_M}
theorem rr_228 {src : Nat} (hs : src + n ≤ 60 * d) (hd : d < 60) (n60 : n ≤ 60) : ∀ (f x : Nat) (z : ms_M), z 160 149 = (d : Int) + 1 → x ≤ n → Pc (qw_X13_call_228 nn f (n : Int) (src : Int) (x : Int) z) (fun r => (∀ c j : Nat, ¬ (c = 255 ∧ 60 * d + x ≤ j ∧ j < 60 * d + n) → r c j = z c j) ∧ ∀ y : Nat, x ≤ y → y < n → r 255 (60 * d + y) = z 255 (src + y)) := by
  intro f
  induction f with
  | zero => intro x z _ _; exact pc_none
  | succ f ih =>
    intro x z e hx
    unfold qw_X13_call_228
    refine pc_if (fun w => pc_ret ⟨fun _ _ _ => rfl, fun y y1 y2 => absurd y2 (by omega)⟩) (fun w => ?_)
    rw [e]
    refine pc_sub (by omega) ?_; intro v3 e3
    refine pc_xl ?_; intro v4 e4
    rw [oq_mul_eq (by omega) (by omega) (by omega)] at e4
    refine pc_add (by omega) ?_; intro v5 e5
    refine pc_add (by omega) ?_; intro v7 e7
    refine pc_rA ?_; intro _ _ v8 e8
    rw [show v7.toNat = src + x by omega] at e8
    refine pc_wA ?_; intro _ _ h9 e9
    rw [show v5.toNat = 60 * d + x by omega] at e9
    refine pc_add (by omega) ?_; intro v10 e10
    rw [show v10 = ((x + 1 : Nat) : Int) by omega]
    refine pc_imp (ih (x + 1) h9 (by rw [e9, up_n (by omega)]; exact e) (by omega)) (fun r ⟨r1, r2⟩ => ⟨fun c j w1 => ?_, fun y y1 y2 => ?_⟩)
    · rw [r1 c j (by omega), e9, up_n (by omega)]
    · by_cases yx : y = x
      · rw [yx, r1 255 _ (by omega), e9, up_s, e8]
      · rw [r2 y (by omega) y2, e9, up_n (by omega)]
/-- one frame more on both sides -/
theorem rr_push1 (R : RRd Bf nf cnt A B (t + 1)) (t59 : t + 1 < 60) (C : ∀ c j : Nat, ¬ (c = 143 ∧ (j = 6 ∨ j = 17 ∨ j = 18 ∨ j = 19 ∨ j = 20)) → ¬ ((c = 148 ∨ c = 149 ∨ c = 150) ∧ j = t + 1) → ¬ (c = 150 ∧ j = t) → ¬ (c = 151 ∧ 30 * (t + 1) ≤ j ∧ j < 30 * (t + 1) + 30) → g c j = A c j) (C6 : g 143 6 = (t : Int) + 2) (C8 : g 148 (t + 1) = (k3 : Int) * 12 + (j3 : Int)) (C9 : g 149 (t + 1) = 0) (C0 : g 150 (t + 1) = 0) (Ct : g 150 t = (F : Int)) (D : ∀ x j : Nat, ¬ (x = 160 ∧ (j = 121 ∨ j = 149)) → ¬ ((251 ≤ x ∧ x ≤ 254) ∧ j = t + 1) → ¬ (x = 254 ∧ j = t) → ¬ (x = 255 ∧ 60 * (t + 1) ≤ j ∧ j < 60 * (t + 1) + 60) → r x j = B x j) (D6 : r 160 149 = (t : Int) + 2) (D1 : r 251 (t + 1) = 8 + (k3 : Int)) (D2 : r 252 (t + 1) = (j3 : Int)) (D3 : r 253 (t + 1) = 0) (D4 : r 254 (t + 1) = 0) (Dt : r 254 t = (F : Int)) (hF : (F : Int) ≤ B 254 t) (hk : (k3 : Int) < cnt) (hj : (j3 : Int) < mc_S (Bf k3) (nf k3)) (L : ∀ n : Nat, n < 30 → g 151 (30 * (t + 1) + n) = r 255 (60 * (t + 1) + n)) : RRd Bf nf cnt g r (t + 2) := by
  obtain ⟨⟨⟨a1, a2⟩, ⟨a3, a4⟩, a5, a6, a7⟩, d60, Fr, E, Pr⟩ := R
  have C' : ∀ c j : Nat, c < 148 → ¬ (c = 143 ∧ (j = 6 ∨ j = 17 ∨ j = 18 ∨ j = 19 ∨ j = 20)) → g c j = A c j := fun c j c1 c2 => C c j c2 (by omega) (by omega) (by omega)
  have D' : ∀ x j : Nat, x < 251 → ¬ (x = 160 ∧ (j = 121 ∨ j = 149)) → r x j = B x j := fun x j c1 c2 => D x j c2 (by omega) (by omega) (by omega)
  refine ⟨⟨⟨?_, ?_⟩, ⟨?_, ?_⟩, ?_, by omega, by omega⟩, by omega, fun j hj2 => ?_, hpa_k E (fun x q => C' 143 x (by omega) (by omega)) (fun c x q1 q2 => C' c x (by omega) (by omega)) (fun x q => D' 160 x (by omega) (by omega)) (fun c x q1 q2 => D' c x (by omega) (by omega)), pra_k Pr (C' 143 7 (by omega) (by omega)) (fun x => C' 144 x (by omega) (by omega)) (D' 160 143 (by omega) (by omega)) (fun x => D' 250 x (by omega) (by omega))⟩
  · rw [C' 143 1 (by omega) (by omega)]; exact a1
  · rw [D' 160 138 (by omega) (by omega)]; exact a2
  · rw [C' 143 2 (by omega) (by omega)]; exact a3
  · rw [D' 160 139 (by omega) (by omega)]; exact a4
  · rw [C' 143 3 (by omega) (by omega), D' 160 140 (by omega) (by omega)]; exact a5
  · by_cases j1 : j = t + 1
    · rw [j1]
      exact ⟨⟨k3, j3, ⟨D1, D2⟩, ⟨hk, hj⟩, C8⟩, ⟨by rw [C9, D3], by rw [C0, D4]⟩, L, fun n _ hl => by rw [D4] at hl; exact absurd hl (by omega)⟩
    · by_cases jt : j = t
      · rw [jt]
        obtain ⟨⟨k, i, ⟨f1, f2⟩, f3, f4⟩, ⟨f5, f6⟩, f7, f8⟩ := Fr t (by omega)
        refine ⟨⟨k, i, ⟨(D 251 t (by omega) (by omega) (by omega) (by omega)).trans f1, (D 252 t (by omega) (by omega) (by omega) (by omega)).trans f2⟩, f3, (C 148 t (by omega) (by omega) (by omega) (by omega)).trans f4⟩, ⟨?_, by rw [Ct, Dt]⟩, fun n hn => ?_, fun n hn hl => ?_⟩
        · rw [C 149 t (by omega) (by omega) (by omega) (by omega), D 253 t (by omega) (by omega) (by omega) (by omega)]; exact f5
        · rw [C 151 _ (by omega) (by omega) (by omega) (by omega), D 255 _ (by omega) (by omega) (by omega) (by omega)]; exact f7 n hn
        · rw [Dt] at hl
          rw [C 152 _ (by omega) (by omega) (by omega) (by omega), D 255 _ (by omega) (by omega) (by omega) (by omega)]
          exact f8 n hn (by omega)
      · exact fra_k (Fr j (by omega)) (C 148 j (by omega) (by omega) (by omega) (by omega)) (C 149 j (by omega) (by omega) (by omega) (by omega)) (C 150 j (by omega) (by omega) (by omega) (by omega)) (fun n hn => C 151 _ (by omega) (by omega) (by omega) (by omega)) (fun n hn => C 152 _ (by omega) (by omega) (by omega) (by omega)) (D 251 j (by omega) (by omega) (by omega) (by omega)) (D 252 j (by omega) (by omega) (by omega) (by omega)) (D 253 j (by omega) (by omega) (by omega) (by omega)) (D 254 j (by omega) (by omega) (by omega) (by omega)) (fun n hn => D 255 _ (by omega) (by omega) (by omega) (by omega))
/-- a method is entered on both sides -/
theorem jo_beg (S : SXc Bf nf cnt A B k i t P op o) (hF : (F : Int) + (n : Int) = B 254 t) (h30 : B 254 t ≤ 30) (hk : (k3 : Int) < cnt) (hj : (j3 : Int) < mc_S (Bf k3) (nf k3)) : Pc (qj_X5_stepCall_136 nn ((k3 : Int) * 12 + (j3 : Int)) (n : Int) (F : Int) A) (fun g => Pc (if ¬ (up_M B 160 121 (j3 : Int) 160 149) = 60 then (rd_A 60 254 (t : Int) (up_M B 160 121 (j3 : Int)) fun v19 => xl (oq_sub v19 (n : Int)) fun v20 => wr_A 60 254 (t : Int) v20 (up_M B 160 121 (j3 : Int)) fun h21 => mx_sv (qf_X13_enter nn (8 + (k3 : Int)) (up_M B 160 121 (j3 : Int) 160 121) h21) fun u23 => qw_X13_call_228 nn nn (n : Int) ((60 * t + 30 + F : Nat) : Int) 0 u23) else (xl (up_M (up_M B 160 121 (j3 : Int)) 160 138 5) fun h24 => some h24)) (STQ nn Bf nf cnt t B g)) := by
  obtain ⟨qq, q4, q5, q6, q7, q8⟩ := sxc_p S
  obtain ⟨⟨c1, c2, c3⟩, ⟨d1, d2⟩, Nk, HG, _⟩ := S.1
  have R := S.2.1
  have th := S.2.2.1
  have f := rr_fra R (t := t) (by omega)
  have a6 := R.1.2.2.2.1
  have E := R.2.2.2.1
  have Pr := R.2.2.2.2
  unfold qj_X5_stepCall_136
  rw [qq.1]
  refine pc_wA ?_; intro _ _ h3 e3
  rw [Int.toNat_natCast] at e3
  have F3 : ∀ c j : Nat, ¬ (c = 150 ∧ j = t) → h3 c j = A c j := fun c j w => by rw [e3, up_n w]
  rw [F3 143 17 (by omega), qq.1]
  refine pc_xl ?_; intro v5 e5
  rw [oq_mul_eq (by omega) (by omega) (by omega)] at e5
  refine pc_add (by omega) ?_; intro v6 e6
  refine pc_sv (P := fun g => Pc _ (STQ nn Bf nf cnt t B g)) ?_ (fun u q => pc_ret q)
  rw [up_n (by omega), qq.2.1, up_s]
  by_cases t59 : t + 1 = 60
  · -- too deep
    rw [if_neg (show ¬ ¬ (t : Int) + 1 = 60 by omega)]
    unfold qf_X5_beginMethod
    refine pc_if (fun w => absurd w (by rw [F3 143 6 (by omega)]; omega)) (fun _ => ?_)
    refine pc_xl ?_; intro h24 e24
    refine pc_ret (pc_xl (fun k24 f24 => pc_ret ?_))
    have G1 : ∀ c j : Nat, ¬ (c = 143 ∧ j = 1) → ¬ (c = 150 ∧ j = t) → h24 c j = A c j := fun c j w1 w2 => by rw [e24, up_n w1, F3 c j w2]
    have G2 : ∀ x j : Nat, ¬ (x = 160 ∧ (j = 138 ∨ j = 121)) → k24 x j = B x j := fun x j w1 => by rw [f24, up_n (by omega), up_n (by omega)]
    have b1 : h24 143 1 = 5 := by rw [e24, up_s]
    have b2 : k24 160 138 = 5 := by rw [f24, up_s]
    refine .inl ⟨(G1 143 20 (by omega) (by omega)).trans th, .inr ⟨⟨by rw [b1, b2], by omega, by omega⟩, ⟨?_, ?_, ?_, ?_⟩, pra_k Pr (G1 143 7 (by omega) (by omega)) (fun x => G1 144 x (by omega) (by omega)) (G2 160 143 (by omega)) (fun x => G2 250 x (by omega)), fun w => by omega, fun w1 w2 => ?_⟩⟩
    · rw [G1 143 3 (by omega) (by omega), G2 160 140 (by omega)]; exact R.1.2.2.1
    · rw [G1 143 4 (by omega) (by omega), G2 160 141 (by omega)]; exact E.1.1
    · rw [G1 143 5 (by omega) (by omega), G2 160 142 (by omega)]; exact E.1.2
    · rw [G1 143 6 (by omega) (by omega), G2 160 149 (by omega), a6, R.1.2.2.2.2]
    · rw [G1 143 2 (by omega) (by omega)]; exact R.1.2.1.1
  · rw [if_pos (show ¬ (t : Int) + 1 = 60 by omega)]
    have CS3 : CSw Bf nf h3 := csw_r c1 (fun c j _ w => F3 c j (by omega))
    have h36 : h3 143 6 = (t : Int) + 1 := by rw [F3 143 6 (by omega), a6]; omega
    have BM := vc_begM (nn := nn) (k := k3) (i := j3) (a2 := v6) (a3 := (n : Int)) CS3 (by rw [F3 56 3 (by omega), c2]; exact hk) hj (by omega) (by omega)
    unfold BMc at BM
    rw [h36, show ((t : Int) + 1).toNat = t + 1 by omega, show v6.toNat = 30 * t + F by omega] at BM
    refine pc_imp BM (fun g G => ?_)
    obtain ⟨g1, ⟨g6, g17, g18, g19⟩, ⟨g8, g9, g0'⟩, gl⟩ := G
    refine pc_rA ?_; intro _ _ v19 e19
    rw [Int.toNat_natCast, up_n (by omega)] at e19
    refine pc_sub (by omega) ?_; intro v20 e20
    refine pc_wA ?_; intro _ _ h21 e21
    rw [Int.toNat_natCast, show v20 = (F : Int) by omega] at e21
    have G21 : ∀ x j : Nat, ¬ (x = 160 ∧ j = 121) → ¬ (x = 254 ∧ j = t) → h21 x j = B x j := fun x j w1 w2 => by rw [e21, up_n w2, up_n w1]
    have h149 : h21 160 149 = (t : Int) + 1 := by rw [G21 160 149 (by omega) (by omega)]; exact qq.2.1
    have ER := vr_enter (nn := nn) (c := 8 + (k3 : Int)) (m := (j3 : Int)) (h := h21)
    unfold ERb at ER
    rw [h149, show ((t : Int) + 1).toNat = t + 1 by omega] at ER
    refine pc_sv ER ?_; intro u23 ⟨r1, r2, ⟨r3, r4, r5, r6⟩, r7⟩
    refine pc_imp (rr_228 (d := t + 1) (src := 60 * t + 30 + F) (n := n) (by omega) (by omega) (by omega) nn 0 u23 (by rw [r2]; omega) (by omega)) (fun r ⟨s1, s2⟩ => ?_)
    have Gg : ∀ c j : Nat, ¬ (c = 143 ∧ (j = 6 ∨ j = 17 ∨ j = 18 ∨ j = 19 ∨ j = 20)) → ¬ ((c = 148 ∨ c = 149 ∨ c = 150) ∧ j = t + 1) → ¬ (c = 150 ∧ j = t) → ¬ (c = 151 ∧ 30 * (t + 1) ≤ j ∧ j < 30 * (t + 1) + 30) → g c j = A c j := fun c j w1 w2 w3 w4 => by rw [g1 c j (by omega) (by omega) w4, F3 c j w3]
    have Gr : ∀ x j : Nat, ¬ (x = 160 ∧ (j = 121 ∨ j = 149)) → ¬ ((251 ≤ x ∧ x ≤ 254) ∧ j = t + 1) → ¬ (x = 254 ∧ j = t) → ¬ (x = 255 ∧ 60 * (t + 1) ≤ j ∧ j < 60 * (t + 1) + 60) → r x j = B x j := fun x j w1 w2 w3 w4 => by rw [s1 x j (by omega), r1 x j (by omega) w2 w4, G21 x j (by omega) w3]
    have R2 : RRd Bf nf cnt g r (t + 2) := by
      refine rr_push1 (k3 := k3) (j3 := j3) (F := F) R (by omega) Gg (by rw [g6]; omega) g8 g9 g0' ?_ Gr ?_ ?_ ?_ ?_ ?_ ?_ (by omega) hk hj (fun x hx => ?_)
      · rw [g1 150 t (by omega) (by omega) (by omega), e3, up_s]
      · rw [s1 160 149 (by omega), r2]; omega
      · rw [s1 251 _ (by omega)]; exact r3
      · rw [s1 252 _ (by omega)]; exact r4
      · rw [s1 253 _ (by omega)]; exact r5
      · rw [s1 254 _ (by omega)]; exact r6
      · rw [s1 254 t (by omega), r1 254 t (by omega) (by omega) (by omega), e21, up_s]
      · rw [gl x hx]
        by_cases xn : (x : Int) < (n : Int)
        · rw [if_pos xn, s2 x (by omega) (by omega), r1 255 _ (by omega) (by omega) (by omega), G21 255 _ (by omega) (by omega), F3 152 _ (by omega), show 30 * t + F + x = 30 * t + (F + x) by omega, show 60 * t + 30 + F + x = 60 * t + 30 + (F + x) by omega]
          exact f.2.2.2 (F + x) (by omega) (by omega)
        · rw [if_neg xn, s1 255 _ (by omega)]
          exact (r7 x (by omega)).symm
    refine .inl ⟨?_, .inl ⟨t + 1, k3, j3, R2, ⟨by rw [g17]; omega, ?_, g19⟩, ⟨by rw [s1 251 _ (by omega)]; exact r3, by rw [s1 252 _ (by omega)]; exact r4⟩, hk, hj⟩⟩
    · rw [g1 143 20 (by omega) (by omega) (by omega), F3 143 20 (by omega)]; exact th
    · rw [g18, F3 60 k3 (by omega), g1 60 k3 (by omega) (by omega) (by omega), F3 60 k3 (by omega)]
end
