section
/- RUN: calls -/
section
variable {nn : Nat} {Bf : Nat → Nat → Int} {nf : Nat → Nat} {cnt : Int} {k i t P H d k2 k3 j3 F n : Nat} {A B g r u z p h w A1 B1 g0 f : ms_M} {ω : Int → ms_M} {op o v wd c kk tt ty x y a e s uu bb j q m tc d3 : Int} {L : Int → Int} {N ai : Nat} {T U : Nat → ms_M}
theorem rr_228 {src : Nat} (hs : src + n ≤ 60 * d) (hd : d < 60) (n60 : n ≤ 60) : ∀ (f x : Nat) (z : ms_M), z 160 149 = (d : Int) + 1 → x ≤ n → Pc (qw_X13_call_228 nn f (n : Int) (src : Int) (x : Int) z) (fun r => (∀ c j : Nat, ¬ (c = 255 ∧ 60 * d + x ≤ j ∧ j < 60 * d + n) → r c j = z c j) ∧ ∀ y : Nat, x ≤ y → y < n → r 255 (60 * d + y) = z 255 (src + y)) := by
  intro f
  induction f with
  | zero => intro x z _ _; exact pc_none
  | succ f ih =>
    intro x z e hx
    unfold qw_X13_call_228
    refine pc_if (fun w => pc_ret ⟨fun _ _ _ => rfl, fun y y1 y2 => absurd y2 (by omega)⟩) (fun w => ?_)
    rw [e]
    refine pc_sub (by omega) ?_; intro v3 e3
    refine pc_xl ?_; intro v4 e4
    rw [oq_mul_eq (by omega) (by omega) (by omega)] at e4
    refine pc_add (by omega) ?_; intro v5 e5
    refine pc_add (by omega) ?_; intro v7 e7
    refine pc_rA ?_; intro _ _ v8 e8
    rw [show v7.toNat = src + x by omega] at e8
    refine pc_wA ?_; intro _ _ h9 e9
    rw [show v5.toNat = 60 * d + x by omega] at e9
    refine pc_add (by omega) ?_; intro v10 e10
    rw [show v10 = ((x + 1 : Nat) : Int) by omega]
    refine pc_imp (ih (x + 1) h9 (by rw [e9, up_n (by omega)]; exact e) (by omega)) (fun r ⟨r1, r2⟩ => ⟨fun c j w1 => ?_, fun y y1 y2 => ?_⟩)
    · rw [r1 c j (by omega), e9, up_n (by omega)]
    · by_cases yx : y = x
      · rw [yx, r1 255 _ (by omega), e9, up_s, e8]
      · rw [r2 y (by omega) y2, e9, up_n (by omega)]
/-- one frame more on both sides -/
theorem rr_push1 (R : RRd Bf nf cnt A B (t + 1)) (t59 : t + 1 < 60) (C : ∀ c j : Nat, ¬ (c = 143 ∧ (j = 6 ∨ j = 17 ∨ j = 18 ∨ j = 19 ∨ j = 20)) → ¬ ((c = 148 ∨ c = 149 ∨ c = 150) ∧ j = t + 1) → ¬ (c = 150 ∧ j = t) → ¬ (c = 151 ∧ 30 * (t + 1) ≤ j ∧ j < 30 * (t + 1) + 30) → g c j = A c j) (C6 : g 143 6 = (t : Int) + 2) (C8 : g 148 (t + 1) = (k3 : Int) * 12 + (j3 : Int)) (C9 : g 149 (t + 1) = 0) (C0 : g 150 (t + 1) = 0) (Ct : g 150 t = (F : Int)) (D : ∀ x j : Nat, ¬ (x = 160 ∧ (j = 121 ∨ j = 149)) → ¬ ((251 ≤ x ∧ x ≤ 254) ∧ j = t + 1) → ¬ (x = 254 ∧ j = t) → ¬ (x = 255 ∧ 60 * (t + 1) ≤ j ∧ j < 60 * (t + 1) + 60) → r x j = B x j) (D6 : r 160 149 = (t : Int) + 2) (D1 : r 251 (t + 1) = 8 + (k3 : Int)) (D2 : r 252 (t + 1) = (j3 : Int)) (D3 : r 253 (t + 1) = 0) (D4 : r 254 (t + 1) = 0) (Dt : r 254 t = (F : Int)) (hF : (F : Int) ≤ B 254 t) (hk : (k3 : Int) < cnt) (hj : (j3 : Int) < mc_S (Bf k3) (nf k3)) (L : ∀ n : Nat, n < 30 → g 151 (30 * (t + 1) + n) = r 255 (60 * (t + 1) + n)) : RRd Bf nf cnt g r (t + 2) := by
  obtain ⟨⟨⟨a1, a2⟩, ⟨a3, a4⟩, a5, a6, a7⟩, d60, Fr, E, Pr⟩ := R
  have C' : ∀ c j : Nat, c < 148 → ¬ (c = 143 ∧ (j = 6 ∨ j = 17 ∨ j = 18 ∨ j = 19 ∨ j = 20)) → g c j = A c j := fun c j c1 c2 => C c j c2 (by omega) (by omega) (by omega)
  have D' : ∀ x j : Nat, x < 251 → ¬ (x = 160 ∧ (j = 121 ∨ j = 149)) → r x j = B x j := fun x j c1 c2 => D x j c2 (by omega) (by omega) (by omega)
  refine ⟨⟨⟨?_, ?_⟩, ⟨?_, ?_⟩, ?_, by omega, by omega⟩, by omega, fun j hj2 => ?_, hpa_k E (fun x q => C' 143 x (by omega) (by omega)) (fun c x q1 q2 => C' c x (by omega) (by omega)) (fun x q => D' 160 x (by omega) (by omega)) (fun c x q1 q2 => D' c x (by omega) (by omega)), pra_k Pr (C' 143 7 (by omega) (by omega)) (fun x => C' 144 x (by omega) (by omega)) (D' 160 143 (by omega) (by omega)) (fun x => D' 250 x (by omega) (by omega))⟩
  · rw [C' 143 1 (by omega) (by omega)]; exact a1
  · rw [D' 160 138 (by omega) (by omega)]; exact a2
  · rw [C' 143 2 (by omega) (by omega)]; exact a3
  · rw [D' 160 139 (by omega) (by omega)]; exact a4
  · rw [C' 143 3 (by omega) (by omega), D' 160 140 (by omega) (by omega)]; exact a5
  · by_cases j1 : j = t + 1
    · rw [j1]
      exact ⟨⟨k3, j3, ⟨D1, D2⟩, ⟨hk, hj⟩, C8⟩, ⟨by rw [C9, D3], by rw [C0, D4]⟩, L, fun n _ hl => by rw [D4] at hl; exact absurd hl (by omega)⟩
    · by_cases jt : j = t
      · rw [jt]
        obtain ⟨⟨k, i, ⟨f1, f2⟩, f3, f4⟩, ⟨f5, f6⟩, f7, f8⟩ := Fr t (by omega)
        refine ⟨⟨k, i, ⟨(D 251 t (by omega) (by omega) (by omega) (by omega)).trans f1, (D 252 t (by omega) (by omega) (by omega) (by omega)).trans f2⟩, f3, (C 148 t (by omega) (by omega) (by omega) (by omega)).trans f4⟩, ⟨?_, by rw [Ct, Dt]⟩, fun n hn => ?_, fun n hn hl => ?_⟩
        · rw [C 149 t (by omega) (by omega) (by omega) (by omega), D 253 t (by omega) (by omega) (by omega) (by omega)]; exact f5
        · rw [C 151 _ (by omega) (by omega) (by omega) (by omega), D 255 _ (by omega) (by omega) (by omega) (by omega)]; exact f7 n hn
        · rw [Dt] at hl
          rw [C 152 _ (by omega) (by omega) (by omega) (by omega), D 255 _ (by omega) (by omega) (by omega) (by omega)]
          exact f8 n hn (by omega)
      · exact fra_k (Fr j (by omega)) (C 148 j (by omega) (by omega) (by omega) (by omega)) (C 149 j (by omega) (by omega) (by omega) (by omega)) (C 150 j (by omega) (by omega) (by omega) (by omega)) (fun n hn => C 151 _ (by omega) (by omega) (by omega) (by omega)) (fun n hn => C 152 _ (by omega) (by omega) (by omega) (by omega)) (D 251 j (by omega) (by omega) (by omega) (by omega)) (D 252 j (by omega) (by omega) (by omega) (by omega)) (D 253 j (by omega) (by omega) (by omega) (by omega)) (D 254 j (by omega) (by omega) (by omega) (by omega)) (fun n hn => D 255 _ (by omega) (by omega) (by omega) (by omega))
/-- a method is entered on both sides -/
theorem jo_beg (S : SXc Bf nf cnt A B k i t P op o) (hF : (F : Int) + (n : Int) = B 254 t) (h30 : B 254 t ≤ 30) (hk : (k3 : Int) < cnt) (hj : (j3 : Int) < mc_S (Bf k3) (nf k3)) : Pc (qj_X5_stepCall_136 nn ((k3 : Int) * 12 + (j3 : Int)) (n : Int) (F : Int) A) (fun g => Pc (if ¬ (up_M B 160 121 (j3 : Int) 160 149) = 60 then (rd_A 60 254 (t : Int) (up_M B 160 121 (j3 : Int)) fun v19 => xl (oq_sub v19 (n : Int)) fun v20 => wr_A 60 254 (t : Int) v20 (up_M B 160 121 (j3 : Int)) fun h21 => mx_sv (qf_X13_enter nn (8 + (k3 : Int)) (up_M B 160 121 (j3 : Int) 160 121) h21) fun u23 => qw_X13_call_228 nn nn (n : Int) ((60 * t + 30 + F : Nat) : Int) 0 u23) else (xl (up_M (up_M B 160 121 (j3 : Int)) 160 138 5) fun h24 => some h24)) (STQ nn Bf nf cnt t B g)) := by
  obtain ⟨qq, q4, q5, q6, q7, q8⟩ := sxc_p S
  obtain ⟨⟨c1, c2, c3⟩, ⟨d1, d2⟩, Nk, HG, _⟩ := S.1
  have R := S.2.1
  have th := S.2.2.1
  have f := rr_fra R (t := t) (by omega)
  have a6 := R.1.2.2.2.1
  have E := R.2.2.2.1
  have Pr := R.2.2.2.2
  unfold qj_X5_stepCall_136
  rw [qq.1]
  refine pc_wA ?_; intro _ _ h3 e3
  rw [Int.toNat_natCast] at e3
  have F3 : ∀ c j : Nat, ¬ (c = 150 ∧ j = t) → h3 c j = A c j := fun c j w => by rw [e3, up_n w]
  rw [F3 143 17 (by omega), qq.1]
  refine pc_xl ?_; intro v5 e5
  rw [oq_mul_eq (by omega) (by omega) (by omega)] at e5
  refine pc_add (by omega) ?_; intro v6 e6
  refine pc_sv (P := fun g => Pc _ (STQ nn Bf nf cnt t B g)) ?_ (fun u q => pc_ret q)
  rw [up_n (by omega), qq.2.1, up_s]
  by_cases t59 : t + 1 = 60
  · -- too deep
    rw [if_neg (show ¬ ¬ (t : Int) + 1 = 60 by omega)]
    unfold qf_X5_beginMethod
    refine pc_if (fun w => absurd w (by rw [F3 143 6 (by omega)]; omega)) (fun _ => ?_)
    refine pc_xl ?_; intro h24 e24
    refine pc_ret (pc_xl (fun k24 f24 => pc_ret ?_))
    have G1 : ∀ c j : Nat, ¬ (c = 143 ∧ j = 1) → ¬ (c = 150 ∧ j = t) → h24 c j = A c j := fun c j w1 w2 => by rw [e24, up_n w1, F3 c j w2]
    have G2 : ∀ x j : Nat, ¬ (x = 160 ∧ (j = 138 ∨ j = 121)) → k24 x j = B x j := fun x j w1 => by rw [f24, up_n (by omega), up_n (by omega)]
    have b1 : h24 143 1 = 5 := by rw [e24, up_s]
    have b2 : k24 160 138 = 5 := by rw [f24, up_s]
    refine .inl ⟨(G1 143 20 (by omega) (by omega)).trans th, .inr ⟨⟨by rw [b1, b2], by omega, by omega⟩, ⟨?_, ?_, ?_, ?_⟩, pra_k Pr (G1 143 7 (by omega) (by omega)) (fun x => G1 144 x (by omega) (by omega)) (G2 160 143 (by omega)) (fun x => G2 250 x (by omega)), fun w => by omega, fun w1 w2 => ?_⟩⟩
    · rw [G1 143 3 (by omega) (by omega), G2 160 140 (by omega)]; exact R.1.2.2.1
    · rw [G1 143 4 (by omega) (by omega), G2 160 141 (by omega)]; exact E.1.1
    · rw [G1 143 5 (by omega) (by omega), G2 160 142 (by omega)]; exact E.1.2
    · rw [G1 143 6 (by omega) (by omega), G2 160 149 (by omega), a6, R.1.2.2.2.2]
    · rw [G1 143 2 (by omega) (by omega)]; exact R.1.2.1.1
  · rw [if_pos (show ¬ (t : Int) + 1 = 60 by omega)]
    have CS3 : CSw Bf nf h3 := csw_r c1 (fun c j _ w => F3 c j (by omega))
    have h36 : h3 143 6 = (t : Int) + 1 := by rw [F3 143 6 (by omega), a6]; omega
    have BM := vc_begM (nn := nn) (k := k3) (i := j3) (a2 := v6) (a3 := (n : Int)) CS3 (by rw [F3 56 3 (by omega), c2]; exact hk) hj (by omega) (by omega)
    unfold BMc at BM
    rw [h36, show ((t : Int) + 1).toNat = t + 1 by omega, show v6.toNat = 30 * t + F by omega] at BM
    refine pc_imp BM (fun g G => ?_)
    obtain ⟨g1, ⟨g6, g17, g18, g19⟩, ⟨g8, g9, g0'⟩, gl⟩ := G
    refine pc_rA ?_; intro _ _ v19 e19
    rw [Int.toNat_natCast, up_n (by omega)] at e19
    refine pc_sub (by omega) ?_; intro v20 e20
    refine pc_wA ?_; intro _ _ h21 e21
    rw [Int.toNat_natCast, show v20 = (F : Int) by omega] at e21
    have G21 : ∀ x j : Nat, ¬ (x = 160 ∧ j = 121) → ¬ (x = 254 ∧ j = t) → h21 x j = B x j := fun x j w1 w2 => by rw [e21, up_n w2, up_n w1]
    have h149 : h21 160 149 = (t : Int) + 1 := by rw [G21 160 149 (by omega) (by omega)]; exact qq.2.1
    have ER := vr_enter (nn := nn) (c := 8 + (k3 : Int)) (m := (j3 : Int)) (h := h21)
    unfold ERb at ER
    rw [h149, show ((t : Int) + 1).toNat = t + 1 by omega] at ER
    refine pc_sv ER ?_; intro u23 ⟨r1, r2, ⟨r3, r4, r5, r6⟩, r7⟩
    refine pc_imp (rr_228 (d := t + 1) (src := 60 * t + 30 + F) (n := n) (by omega) (by omega) (by omega) nn 0 u23 (by rw [r2]; omega) (by omega)) (fun r ⟨s1, s2⟩ => ?_)
    have Gg : ∀ c j : Nat, ¬ (c = 143 ∧ (j = 6 ∨ j = 17 ∨ j = 18 ∨ j = 19 ∨ j = 20)) → ¬ ((c = 148 ∨ c = 149 ∨ c = 150) ∧ j = t + 1) → ¬ (c = 150 ∧ j = t) → ¬ (c = 151 ∧ 30 * (t + 1) ≤ j ∧ j < 30 * (t + 1) + 30) → g c j = A c j := fun c j w1 w2 w3 w4 => by rw [g1 c j (by omega) (by omega) w4, F3 c j w3]
    have Gr : ∀ x j : Nat, ¬ (x = 160 ∧ (j = 121 ∨ j = 149)) → ¬ ((251 ≤ x ∧ x ≤ 254) ∧ j = t + 1) → ¬ (x = 254 ∧ j = t) → ¬ (x = 255 ∧ 60 * (t + 1) ≤ j ∧ j < 60 * (t + 1) + 60) → r x j = B x j := fun x j w1 w2 w3 w4 => by rw [s1 x j (by omega), r1 x j (by omega) w2 w4, G21 x j (by omega) w3]
    have R2 : RRd Bf nf cnt g r (t + 2) := by
      refine rr_push1 (k3 := k3) (j3 := j3) (F := F) R (by omega) Gg (by rw [g6]; omega) g8 g9 g0' ?_ Gr ?_ ?_ ?_ ?_ ?_ ?_ (by omega) hk hj (fun x hx => ?_)
      · rw [g1 150 t (by omega) (by omega) (by omega), e3, up_s]
      · rw [s1 160 149 (by omega), r2]; omega
      · rw [s1 251 _ (by omega)]; exact r3
      · rw [s1 252 _ (by omega)]; exact r4
      · rw [s1 253 _ (by omega)]; exact r5
      · rw [s1 254 _ (by omega)]; exact r6
      · rw [s1 254 t (by omega), r1 254 t (by omega) (by omega) (by omega), e21, up_s]
      · rw [gl x hx]
        by_cases xn : (x : Int) < (n : Int)
        · rw [if_pos xn, s2 x (by omega) (by omega), r1 255 _ (by omega) (by omega) (by omega), G21 255 _ (by omega) (by omega), F3 152 _ (by omega), show 30 * t + F + x = 30 * t + (F + x) by omega, show 60 * t + 30 + F + x = 60 * t + 30 + (F + x) by omega]
          exact f.2.2.2 (F + x) (by omega) (by omega)
        · rw [if_neg xn, s1 255 _ (by omega)]
          exact (r7 x (by omega)).symm
    refine .inl ⟨?_, .inl ⟨t + 1, k3, j3, R2, ⟨by rw [g17]; omega, ?_, g19⟩, ⟨by rw [s1 251 _ (by omega)]; exact r3, by rw [s1 252 _ (by omega)]; exact r4⟩, hk, hj⟩⟩
    · rw [g1 143 20 (by omega) (by omega) (by omega), F3 143 20 (by omega)]; exact th
    · rw [g18, F3 60 k3 (by omega), g1 60 k3 (by omega) (by omega) (by omega), F3 60 k3 (by omega)]
end
end
section
/- RUN: calls, whole -/
section
variable {nn : Nat} {Bf : Nat → Nat → Int} {nf : Nat → Nat} {cnt : Int} {k i t P H d k2 k3 j3 F n jj m2 : Nat} {A B g r u z p h w A1 B1 g0 f : ms_M} {ω : Int → ms_M} {op o v wd c kk tt ty x y a e s uu bb j q m tc d3 : Int} {L : Int → Int} {N ai : Nat} {T U : Nat → ms_M}
/-- the object that a method is called of -/
theorem sx_sj (hn : 1000000 ≤ nn) (S : SXc Bf nf cnt A B k i t P op o) (X : RTP nn g0 ω B (t : Int) (k : Int) kk N T U tt ai p) (hu : ISc cnt uu) (hf : HFd Bf nf cnt k a 1 uu bb jj) (hb : 8 ≤ bb) (cv : CVt nn g0 B (4 + 2 * uu) v) (v0 : ¬ v = 0) : (1 ≤ v ∧ v ≤ B 160 141) ∧ (0 ≤ B 246 v.toNat ∧ B 246 v.toNat < 8 + cnt) ∧ UNq Bf nf cnt (B 246 v.toNat) uu := by
  obtain ⟨⟨c1, c2, c3⟩, ⟨d1, d2⟩, Nk, HG, _⟩ := S.1
  have g3 := HG.1
  have e98 := X.rx.2.1.1
  have un : (1 ≤ v ∧ v ≤ B 160 141) ∧ B 246 v.toNat < 99 ∧ UNd nn g0 (B 246 v.toNat) uu := by
    rcases cv with z | z | z | ⟨z0, z⟩
    · have := hu.1; exfalso; omega
    · have := hu.1; exfalso; omega
    · exact absurd z v0
    · refine ⟨z0, ?_⟩
      rcases z with z | ⟨y, y0, z1, z2⟩ | ⟨y, y0, z1, z2⟩
      · exfalso; omega
      · rw [show y = uu by omega] at z2
        rcases z2 with z2 | z2
        · exfalso
          obtain ⟨x, ex, _⟩ := hf
          rw [z2.2] at ex
          have := ch_lo (Bf := Bf) (nf := nf) (cnt := cnt) (c := 0) (i := 0) (by show (0 : Int) < 8; omega) (.inr ⟨by omega, by omega⟩) g3.1 x
          rw [Nat.zero_add, ex] at this
          omega
        · exact z2
      · exfalso; omega
  obtain ⟨ob, so, un⟩ := un
  obtain ⟨o1, o2⟩ := X.hp.1 v ob.1 ob.2
  have w1 : 0 ≤ B 246 v.toNat ∧ B 246 v.toNat < 8 + g0 160 98 := by
    rcases o2 with z | z | z
    · exact z.2.1
    · exfalso; omega
    · exfalso; omega
  exact ⟨ob, by omega, un_q hn X.rx d1 Nk d2 un (by omega) hu.1⟩
/-- the reference finds the method -/
theorem rr_168 {D nI l7 : Int} {Q : ms_M → Prop} (S : SXc Bf nf cnt A B k i t P op o) (t4 : tg_S (Bf k) (nf k) o = 4) (t1 : tg_S (Bf k) (nf k) (pt_S (Bf k) (nf k) o 1) = 1) (hD : ISc cnt D) (no : ¬ HNo Bf nf cnt k (pt_S (Bf k) (nf k) o 1) 1 D) (HH : ∀ k3 j3 : Nat, HFd Bf nf cnt k (pt_S (Bf k) (nf k) o 1) 1 D (8 + (k3 : Int)) j3 → (k3 : Int) < cnt → (j3 : Int) < mc_S (Bf k3) (nf k3) → Pc (if ¬ (up_M B 160 121 (j3 : Int) 160 149) = 60 then (rd_A 60 254 (t : Int) (up_M B 160 121 (j3 : Int)) fun v19 => xl (oq_sub v19 nI) fun v20 => wr_A 60 254 (t : Int) v20 (up_M B 160 121 (j3 : Int)) fun h21 => mx_sv (qf_X13_enter nn (8 + (k3 : Int)) (up_M B 160 121 (j3 : Int) 160 121) h21) fun u23 => qw_X13_call_228 nn nn nI l7 0 u23) else (xl (up_M (up_M B 160 121 (j3 : Int)) 160 138 5) fun h24 => some h24)) Q) : Pc (qj_X13_call_168 nn o (k : Int) nI (t : Int) l7 D B) Q := by
  obtain ⟨⟨c1, c2, c3⟩, ⟨d1, d2⟩, Nk, HG, _⟩ := S.1
  have g3 := HG.1
  have hk := S.2.2.2.2.1.2.1
  have q := (sxc_p S).1
  have M1 := rr_prt (nn := nn) (o := o) d1 hk q.2.1 q.2.2 S.2.2.2.2.2.1.2.1 t4 (y := 1) (by omega)
  rw [show ((1 : Nat) : Int) = 1 from rfl] at M1
  unfold qj_X13_call_168
  refine pc_sv M1 ?_; intro u13 q13
  rw [q13]
  have VH := vr_holder (nn := nn) (o := k) (t := pt_S (Bf k) (nf k) o 1) (s := 1) (c := D) (h := B) (by rw [d2]; exact Nk) d1 hk t1 (.inr (by rw [d2]; exact hD)) (by rw [d2]; exact hg_end HG hD)
  refine pc_sv VH ?_; intro u15 q15
  rw [d2] at q15
  rcases q15 with ⟨_, n⟩ | ⟨dd, jd, hf, e15⟩
  · exact absurd n no
  · obtain ⟨r1, r2⟩ := hfd_is g3.1 (.inr hD) hf
    have ed : dd = 8 + (((dd - 8).toNat : Nat) : Int) := by omega
    rw [e15]
    have := HH (dd - 8).toNat jd (by rw [← ed]; exact hf) (by omega) (by
      have r2' : (jd : Int) < (if (1 : Int) = 0 then fc_S (Bf (dd - 8).toNat) (nf (dd - 8).toNat) else mc_S (Bf (dd - 8).toNat) (nf (dd - 8).toNat)) := r2
      rw [if_neg (by omega)] at r2'
      exact r2')
    rw [← ed] at this
    exact this
/-- the class's nearest method -/
theorem rc_nst (S : SXc Bf nf cnt A B k i t P op o) (hs : 0 ≤ s ∧ s < 8 + cnt) (UN : UNq Bf nf cnt s bb) (hb : 8 ≤ bb ∧ bb < 8 + cnt) (hj : (jj : Int) < mc_S (Bf (bb - 8).toNat) (nf (bb - 8).toNat)) (TX : TXq (Bf (bb - 8).toNat) (nf (bb - 8).toNat) (nt_S (Bf (bb - 8).toNat) (nf (bb - 8).toNat) jj 1) (Bf k) (nf k) a) (hf : HFd Bf nf cnt k a 1 s (8 + (k3 : Int)) j3) : Pc (qf_X7_nearestTo nn s ((bb - 8) * 12 + (jj : Int)) A) (fun v => v = (k3 : Int) * 12 + (j3 : Int)) := by
  obtain ⟨⟨c1, c2, c3⟩, ⟨d1, d2⟩, Nk, HG, _⟩ := S.1
  have g3 := HG.1
  have hs8 : 8 ≤ s := Classical.byContradiction fun n8 => by
    obtain ⟨x, ex⟩ := UN
    have := ch_lo (Bf := Bf) (nf := nf) (cnt := cnt) (c := s) (i := 0) (by show s < 8; omega) (.inr ⟨hs.1, hs.2⟩) g3.1 x
    rw [Nat.zero_add, ex] at this
    omega
  have m12 := ((cg_im (c1.1.2 (bb - 8).toNat (by omega))).1).2.2.1
  obtain ⟨x, x16, ex⟩ := ch_lt (Bf := Bf) (nf := nf) g3 (x := s) (y := bb) ⟨hs.1, hs.2⟩ (by omega) UN
  have es : s = 8 + (((s - 8).toNat : Nat) : Int) := by omega
  have LM := (c3.2 (s - 8).toNat (by omega)).2 x x16 (by rw [← es, ex]; exact hb.1) jj (by rw [← es, ex]; exact hj)
  unfold LMt at LM
  rw [← es, ex] at LM
  unfold NRv2 at LM
  rw [← es] at LM
  unfold qf_X7_nearestTo
  refine pc_sub (by omega) ?_; intro v1 e1
  refine pc_if (fun w => absurd w (by omega)) (fun _ => ?_)
  refine pc_if (fun w => absurd w (by omega)) (fun _ => ?_)
  refine pc_if (fun w => absurd w (by omega)) (fun _ => ?_)
  refine pc_if (fun w => absurd w (by omega)) (fun _ => ?_)
  refine pc_xl ?_; intro v3 e3
  rw [oq_mul_eq (by omega) (by omega) (by omega)] at e3
  refine pc_add (by omega) ?_; intro v4 e4
  refine pc_rA ?_; intro _ _ v5 e5
  refine pc_ret ?_
  rw [show v4.toNat = (96 * (((s - 8).toNat : Nat) : Int) + ((bb - 8) * 12 + (jj : Int))).toNat by omega] at e5
  rw [← e5] at LM
  rcases LM with ⟨_, no⟩ | ⟨dd, jd, ⟨_, hf2⟩, _, _, ev⟩
  · exact absurd ⟨⟨by omega, by omega⟩, hfd_tx (txq_s TX) hf⟩ (no _ _)
  · obtain ⟨e6, e7⟩ := hfd_u hf (hfd_tx TX hf2)
    show v5 = _
    omega
theorem js_182 (hn : 1000000 ≤ nn) (S : SXc Bf nf cnt A B k i t P op o) (X : RTP nn g0 ω B (t : Int) (k : Int) kk N T U tt ai p) (y : op = 182 ∨ op = 184) (mr : MRF nn g0 ω (k : Int) (ω (k : Int)) o 1 uu bb j) (tk : TKV nn g0 (k : Int) (ω (k : Int)) (ω (k : Int) 238 (pl (ω (k : Int)) (k : Int) o + 1 + 2).toNat) m L q tc) (ln : m + (if op = 184 then 0 else 1) ≤ B 254 t) (cv : op = 182 → CVt nn g0 B (4 + 2 * uu) (B 255 (60 * (t : Int) + 30 + (B 254 t - 1 - m)).toNat)) : Pc (qf_X5_step nn A) (fun g => Pc (qf_X13_step nn B) (STQ nn Bf nf cnt t B g)) := by
  refine j_two (fun Q => cz_g182 S.2.2.2.1 y) (fun Q => rz_g182 S.2.2.2.2 y) ?_
  have h := rtp_h X
  obtain ⟨qq, q4, q5, q6, q7, q8⟩ := sxc_p S
  have E := S.2.1.2.2.2.1
  have g141 := gF_160_141 X.vs
  obtain ⟨t4, ⟨t3, n91, cq, hu⟩, t1, ⟨tx2, e2⟩, hb, jj, ej, hf⟩ := sx_mf hn S X mr
  obtain ⟨m2, em, m6, sk1, hjm, pm, t2, PI⟩ := sx_cm hn S X mr tk ej
  obtain ⟨⟨c1, c2, c3⟩, ⟨d1, d2⟩, Nk, HG, _⟩ := S.1
  have g3 := HG.1
  have hk := S.2.2.2.2.1.2.1
  have e251 := S.2.2.2.2.2.1.2.1
  obtain ⟨n6, k8⟩ := tb_n6 d1 hk
  obtain ⟨i1, i2, i3⟩ := tg_in (B := Bf k) (n := nf k) (k := o) (by omega)
  obtain ⟨p1, p2, p3, p4, p5, p6, p7⟩ := pi_le d1 hk t2
  have hu' := hu
  unfold ISc at hu'
  have hk2 : (((bb - 8).toNat : Nat) : Int) < A 56 3 := by omega
  have CI2 := cg_im (c1.1.2 (bb - 8).toNat hk2)
  have m12 := CI2.1.2.2.1
  have ena : na_S (Bf k) (nf k) (pt_S (Bf k) (nf k) o 2) = pl_S (Bf k) (nf k) (pt_S (Bf k) (nf k) o 2) + 2 := rfl
  unfold qj_X5_stepObject_203 qj_X13_step_1029
  refine pc_sv (P := fun g => Pc _ (STQ nn Bf nf cnt t B g)) ?_ (fun u q => pc_ret q)
  refine pc_tw (pc_sv (P := fun r => Pc _ (fun g => STQ nn Bf nf cnt t B g r)) ?_ (fun u q => pc_ret q))
  -- the class, up to its number of values
  refine pc_tw ?_
  unfold qf_X5_stepCall
  refine pc_sv (sx_ln S rfl rfl (fun _ => rfl) ⟨i1, i2⟩) ?_; intro u32 ⟨_, q32⟩
  have q32 := q32.2.1 t4 sk1
  rw [cq] at q32
  have eL : u32 = (bb - 8) * 12 + (jj : Int) := by
    rcases q32 with ⟨_, no⟩ | ⟨dd, jd, ⟨_, hf2⟩, _, _, ev⟩
    · exact absurd ⟨⟨by omega, by omega⟩, hf⟩ (no _ _)
    · obtain ⟨e6, e7⟩ := hfd_u hf hf2
      omega
  rw [eL]
  refine pc_sv (vc_iom c1.1 (d := bb) (j := jj) (by omega) (by omega) rfl) ?_; intro u35 ⟨q35, p35⟩
  refine pc_if (fun w => absurd w (by omega)) (fun _ => ?_)
  refine pc_xl ?_; intro v39 e39
  rw [Int.tmod_eq_emod_of_nonneg (by omega)] at e39
  refine pc_ck (fun _ => ?_)
  have MD := (CI2.2.2.2 jj hjm).1.2.2.2.1
  rw [pm] at MD
  have MD : A ((A 60 (bb - 8).toNat).toNat + 6) (12 * (jj : Int) + 11).toNat = (m2 : Int) := MD
  rw [show v39 = (jj : Int) by omega, q35]
  refine pc_sv (vq_of (c1.1.2 (bb - 8).toNat hk2) hjm (w := 11) (by omega) MD) ?_; intro u41 q41
  rw [q41]
  -- the reference, up to its number of values
  refine pc_tw ?_
  unfold qf_X13_call
  rw [qq.2.1]
  refine pc_sub (by omega) ?_; intro v52 e52
  rw [show v52 = (t : Int) by omega]
  refine pc_rA ?_; intro _ _ v53 e53
  rw [Int.toNat_natCast, e251] at e53
  refine pc_sub (by omega) ?_; intro v54 e54
  rw [show v54 = (k : Int) by omega]
  refine pc_xl ?_; intro v55 e55
  rw [oq_mul_eq (by omega) (by omega) (by omega)] at e55
  refine pc_xl ?_; intro v57 e57
  rw [oq_mul_eq (by omega) (by omega) (by omega)] at e57
  have M2 := rr_prt (nn := nn) (o := o) d1 hk qq.2.1 qq.2.2 e251 t4 (y := 2) (by omega)
  rw [show ((2 : Nat) : Int) = 2 from rfl] at M2
  refine pc_sv M2 ?_; intro u59 q59
  rw [q59]
  refine pc_add (by omega) ?_; intro v60 e60
  refine pc_rA ?_; intro _ _ v61 e61
  rw [show v60.toNat = (256 * (k : Int) + pt_S (Bf k) (nf k) o 2).toNat by omega, p6] at e61
  refine pc_add (by omega) ?_; intro v62 e62
  refine pc_add (by omega) ?_; intro v64 e64
  refine pc_add (by omega) ?_; intro v66 e66
  refine pc_rA ?_; intro _ _ v67 e67
  rw [show v66.toNat = 6000 * k + (pl_S (Bf k) (nf k) (pt_S (Bf k) (nf k) o 2) + 1) by omega, tb_by d1 hk (by omega), p4] at e67
  rw [e67, show v64 = ((6000 * k + na_S (Bf k) (nf k) (pt_S (Bf k) (nf k) o 2) : Nat) : Int) by omega]
  refine pc_sv PI ?_; intro u68 q68
  rw [q68]
  -- both with n values
  have GO : ∀ s0 : Nat, (s0 : Int) = (if op = 184 then 0 else 1) → Pc (qj_X13_call_72 nn op o (k : Int) (s0 : Int) (m2 : Int) B) (fun r => Pc (qj_X5_stepCall_51 nn op ((bb - 8) * 12 + (jj : Int)) (s0 : Int) (m2 : Int) A) (fun g => STQ nn Bf nf cnt t B g r)) := fun s0 es => by
    rw [← es] at ln
    have s01 : s0 ≤ 1 := by
      by_cases w : op = 184
      · rw [if_pos w] at es; omega
      · rw [if_neg w] at es; omega
    obtain ⟨F, hF⟩ : ∃ F : Nat, (F : Int) + ((m2 + s0 : Nat) : Int) = B 254 t := ⟨(B 254 t - (m2 + s0)).toNat, by omega⟩
    have M0 := rr_prt (nn := nn) (o := o) d1 hk qq.2.1 qq.2.2 e251 t4 (y := 0) (by omega)
    rw [show ((0 : Nat) : Int) = 0 from rfl] at M0
    have CIn := rr_cin (nn := nn) (o := pt_S (Bf k) (nf k) o 0) (t := t) (k := k) (h := B) (by rw [d2]; exact Nk) d1 hk qq.2.1 qq.2.2 e251 t3 n91
    rw [d2, cq] at CIn
    unfold qj_X13_call_72
    rw [qq.2.1]
    refine pc_add (by omega) ?_; intro v26 e26
    rw [show v26 = ((m2 + s0 : Nat) : Int) by omega]
    refine pc_sub (by omega) ?_; intro v28 e28
    rw [show v28 = (t : Int) by omega]
    refine pc_xl ?_; intro v29 e29
    rw [oq_mul_eq (by omega) (by omega) (by omega)] at e29
    refine pc_add (by omega) ?_; intro v30 e30
    refine pc_rA ?_; intro _ _ v32 e32
    rw [Int.toNat_natCast] at e32
    refine pc_add (by omega) ?_; intro v33 e33
    refine pc_sub (by omega) ?_; intro v34 e34
    rw [show v34 = ((60 * t + 30 + F : Nat) : Int) by omega]
    refine pc_sv M0 ?_; intro u36 q36
    rw [q36]
    refine pc_sv CIn ?_; intro u38 q38
    rw [q38]
    -- the class's way to its begin
    have C51 : ∀ {Q : ms_M → Prop} (k3 j3 : Nat), (¬ op = 182 → (bb - 8) * 12 + (jj : Int) = (k3 : Int) * 12 + (j3 : Int)) → (op = 182 → (¬ A 152 (30 * t + F) = 0 ∧ (1 ≤ A 152 (30 * t + F) ∧ A 152 (30 * t + F) ≤ B 160 141)) ∧ Pc (qf_X7_nearestTo nn (sr_T (B 246 (A 152 (30 * t + F)).toNat)) ((bb - 8) * 12 + (jj : Int)) A) (fun v => v = (k3 : Int) * 12 + (j3 : Int))) → Pc (qj_X5_stepCall_136 nn ((k3 : Int) * 12 + (j3 : Int)) ((m2 + s0 : Nat) : Int) (F : Int) A) Q → Pc (qj_X5_stepCall_51 nn op ((bb - 8) * 12 + (jj : Int)) (s0 : Int) (m2 : Int) A) Q := fun {Q} k3 j3 e84 e82 HQ => by
      unfold qj_X5_stepCall_51
      rw [qq.1]
      refine pc_add (by omega) ?_; intro v9 e9
      rw [show v9 = ((m2 + s0 : Nat) : Int) by omega]
      refine pc_rA ?_; intro _ _ v12 e12
      rw [Int.toNat_natCast, q7] at e12
      refine pc_sub (by omega) ?_; intro v13 e13
      rw [show v13 = (F : Int) by omega]
      refine pc_if (fun _ => ?_) (fun w => absurd (show (0 : Int) ≤ (F : Int) by omega) w)
      refine pc_if (fun w => ?_) (fun w => ?_)
      · rw [e84 w]; exact HQ
      · obtain ⟨⟨v0, ob⟩, NS⟩ := e82 (Decidable.not_not.1 w)
        have so := (sx_ob S X ob).1.2.1
        refine pc_xl ?_; intro v16 e16
        rw [oq_mul_eq (by omega) (by omega) (by omega)] at e16
        refine pc_add (by omega) ?_; intro v17 e17
        refine pc_rA ?_; intro _ _ v18 e18
        rw [show v17.toNat = 30 * t + F by omega] at e18
        rw [e18]
        refine pc_sv (rc_iso (B := B) E.1.1 (by omega) (.inr ob)) ?_; intro u20 q20
        refine pc_if (fun _ => ?_) (fun w => absurd (show ¬ u20 = 0 by omega) w)
        refine pc_rA ?_; intro _ _ v23 e23
        rw [e23, so]
        refine pc_sv NS ?_; intro u25 q25
        rw [q25]; exact HQ
    by_cases y2 : op = 182
    · rw [if_neg (show ¬ ¬ op = 182 from fun n => n y2)]
      have s1 : s0 = 1 := by rw [if_neg (show ¬ op = 184 by omega)] at es; omega
      have eF : (60 * (t : Int) + 30 + (B 254 t - 1 - m)).toNat = 60 * t + 30 + F := by omega
      have cv := cv y2
      rw [eF] at cv
      have vv := sx_v S (H := F) (by omega) (by omega)
      refine pc_rA ?_; intro _ _ v40 e40
      rw [Int.toNat_natCast] at e40
      rw [← e40] at cv
      rw [← e40] at vv
      by_cases v0 : v40 = 0
      · rw [if_neg (show ¬ ¬ v40 = 0 from fun n => n v0)]
        refine pc_se (fun r er => pc_ret ?_)
        -- null
        unfold qj_X5_stepCall_51
        rw [qq.1]
        refine pc_add (by omega) ?_; intro v9 e9
        refine pc_rA ?_; intro _ _ v12 e12
        rw [Int.toNat_natCast, q7] at e12
        refine pc_sub (by omega) ?_; intro v13 e13
        rw [show v13 = (F : Int) by omega]
        refine pc_if (fun _ => ?_) (fun w => absurd (show (0 : Int) ≤ (F : Int) by omega) w)
        refine pc_if (fun w => absurd y2 w) (fun _ => ?_)
        refine pc_xl ?_; intro v16 e16
        rw [oq_mul_eq (by omega) (by omega) (by omega)] at e16
        refine pc_add (by omega) ?_; intro v17 e17
        refine pc_rA ?_; intro _ _ v18 e18
        rw [show v17.toNat = 30 * t + F by omega, vv] at e18
        rw [e18]
        refine pc_sv (rc_iso (B := B) E.1.1 (by omega) (.inl v0)) ?_; intro u20 q20
        refine pc_if (fun w => absurd v0 (by omega)) (fun _ => ?_)
        refine pc_xl ?_; intro h26 e26'
        refine pc_ret ?_
        obtain ⟨c0, r0⟩ := sx_c0 S (H := (B 254 t).toNat) (by omega)
        exact fin_f S c0 r0 (by omega) (c := 2) (by omega) e26' er
      · rw [if_pos (show ¬ v40 = 0 from v0)]
        obtain ⟨ob, so, UN⟩ := sx_sj hn S X hu hf hb.1 cv v0
        have UNb : UNq Bf nf cnt (B 246 v40.toNat) bb := by
          obtain ⟨x1, ex1⟩ := UN
          obtain ⟨x2, ex2, _⟩ := hf
          exact ⟨x1 + x2, by rw [ch_sf, ex1, ex2]⟩
        have TXm : TXq (Bf (bb - 8).toNat) (nf (bb - 8).toNat) (nt_S (Bf (bb - 8).toNat) (nf (bb - 8).toNat) jj 1) (Bf k) (nf k) (pt_S (Bf k) (nf k) o 1) := by
          obtain ⟨x2, _, _, ⟨_, nm, _⟩, _⟩ := hf
          exact nm
        have esr : sr_T (B 246 v40.toNat) = B 246 v40.toNat := by unfold sr_T; rw [if_neg (by omega)]
        refine pc_rA ?_; intro _ _ v42 e42
        refine pc_if (fun _ => ?_) (fun w => absurd (show v42 < 99 by omega) w)
        refine pc_rA ?_; intro _ _ v44 e44
        rw [e44]
        unfold qj_X13_call_166
        refine rr_168 S t4 t1 (D := B 246 v40.toNat) so (hno_no g3.1 so UN hf hb.1) (fun k3 j3 hf3 hk3 hj3 => ?_)
        refine pc_tw (C51 k3 j3 (fun w => absurd y2 w) (fun _ => ⟨⟨by rw [vv]; exact v0, by rw [vv]; exact ob⟩, ?_⟩) (jo_beg S hF (by omega) hk3 hj3))
        rw [vv, esr]
        exact rc_nst S so UNb hb hjm TXm hf3
    · rw [if_pos (show ¬ op = 182 from y2)]
      have nohf : ¬ HNo Bf nf cnt k (pt_S (Bf k) (nf k) o 1) 1 uu := fun no => hfd_n hf no
      refine rr_168 S t4 t1 (D := uu) hu nohf (fun k3 j3 hf3 hk3 hj3 => ?_)
      obtain ⟨e6, e7⟩ := hfd_u hf hf3
      exact pc_tw (C51 k3 j3 (fun _ => by omega) (fun w => absurd w y2) (jo_beg S hF (by omega) hk3 hj3))
  by_cases y2 : op = 182
  · rw [if_neg (show ¬ ¬ op = 182 from fun n => n y2), if_neg (show ¬ ¬ op = 182 from fun n => n y2)]
    exact GO 1 (by rw [if_neg (show ¬ op = 184 by omega)]; rfl)
  · rw [if_pos (show ¬ op = 182 from y2), if_pos (show ¬ op = 182 from y2)]
    exact GO 0 (by rw [if_pos (show op = 184 by omega)]; rfl)
end
end
section
/- RUN: what is thrown comes up, on both sides -/
/-- handler y of method i of image k takes an object of sort s thrown at P -/
def MTh (Bf : Nat → Nat → Int) (nf : Nat → Nat) (cnt : Int) (k i : Nat) (s P : Int) (y : Nat) : Prop := ln_N (Bf k) (hq_S (Bf k) (nf k) i y) ≤ P ∧ P < ln_N (Bf k) (hq_S (Bf k) (nf k) i y + 2) ∧ ONe Bf nf cnt s (cq_F Bf nf cnt (Bf k) (nf k) (Bf k (hq_S (Bf k) (nf k) i y + 6)))
section
variable {nn : Nat} {Bf : Nat → Nat → Int} {nf : Nat → Nat} {cnt : Int} {k i t H d : Nat} {A B g r u z h A1 : ms_M} {o v wd c x a s P : Int}
theorem mr_hd (e : mr_F Bf nf cnt k i = none) : ∀ y : Nat, y < hn_S (Bf k) (nf k) i → ¬ HBd Bf nf cnt k i y := by
  unfold mr_F at e
  cases h1 : fs_F (INo (cd_S (Bf k) (nf k) i) (cl_N (Bf k) (nf k) i)) (cl_N (Bf k) (nf k) i) with
  | some p => rw [h1] at e; exact nomatch e
  | none =>
    rw [h1] at e
    dsimp only at e
    cases h2 : fs_F (JBm (cd_S (Bf k) (nf k) i) (cl_N (Bf k) (nf k) i)) (cl_N (Bf k) (nf k) i) with
    | some p => rw [h2] at e; exact nomatch e
    | none =>
      rw [h2] at e
      dsimp only at e
      cases h3 : fs_F (HBd Bf nf cnt k i) (hn_S (Bf k) (nf k) i) with
      | some p => rw [h3] at e; exact nomatch e
      | none => exact fs_e h3
/-- a good handler -/
theorem hd_ok (g3 : 0 ≤ cnt ∧ cnt ≤ 8) (G : GMt (Bf k) (nf k) i) {zx : Nat} (zk : kk_S (Bf k) (nf k) = .inr zx) (z2 : 0 ≤ Bf k 2) {y : Nat} (hy : y < hn_S (Bf k) (nf k) i) (HB : ¬ HBd Bf nf cnt k i y) : (0 ≤ ln_N (Bf k) (hq_S (Bf k) (nf k) i y + 4) ∧ ln_N (Bf k) (hq_S (Bf k) (nf k) i y + 4) ≤ 1500) ∧ ISc cnt (cq_F Bf nf cnt (Bf k) (nf k) (Bf k (hq_S (Bf k) (nf k) i y + 6))) ∧ ¬ Bf k (na_S (Bf k) (nf k) (pt_S (Bf k) (nf k) (Bf k (hq_S (Bf k) (nf k) i y + 6)) 0)) = 91 := by
  have ht := (gm_hd G hy).2
  obtain ⟨_, _, _, ⟨l1, l2, l3⟩, _⟩ := G
  have HB := Classical.byContradiction fun w => HB w
  obtain ⟨_, ⟨b0, tt, b1, b2, b3⟩, _, kf⟩ := HB
  have cl : cl_N (Bf k) (nf k) i = (ln_N (Bf k) (ma_S (Bf k) (nf k) i + 5)).toNat := rfl
  refine ⟨⟨b0, by omega⟩, ?_⟩
  rcases cq_is (Bf := Bf) (nf := nf) g3 zk z2 ht with w | ⟨_, w⟩
  · rw [w] at kf
    exact absurd kf kf_m1
  · have hc : ISc cnt (cq_F Bf nf cnt (Bf k) (nf k) (Bf k (hq_S (Bf k) (nf k) i y + 6))) := by
      rcases w with w | w | w
      · rw [w] at kf
        exfalso
        rcases kf with q | ⟨q, _⟩ | ⟨q, _⟩ | ⟨q, _⟩ | ⟨q, _⟩ <;> omega
      · exact w.1
      · exfalso
        rcases kf with q | ⟨q, _⟩ | ⟨q, _⟩ | ⟨q, _⟩ | ⟨_, q, _⟩ <;> omega
    refine ⟨hc, fun e91 => ?_⟩
    have hc' := hc
    unfold ISc at hc'
    unfold cq_F at hc'
    rw [if_pos e91] at hc'
    unfold kq_F at hc'
    rw [if_neg (by omega), if_neg (by omega), if_pos e91] at hc'
    by_cases b73 : Bf k (na_S (Bf k) (nf k) (pt_S (Bf k) (nf k) (Bf k (hq_S (Bf k) (nf k) i y + 6)) 0) + 1) = 73
    · rw [if_pos b73] at hc'; omega
    · rw [if_neg b73] at hc'
      have rg := lo_is (Bf := Bf) (nf := nf) g3.1 (f := fun x => Bf k (na_S (Bf k) (nf k) (pt_S (Bf k) (nf k) (Bf k (hq_S (Bf k) (nf k) i y + 6)) 0) + 2 + x)) (m := na_S (Bf k) (nf k) (pt_S (Bf k) (nf k) (Bf k (hq_S (Bf k) (nf k) i y + 6)) 0) + tl_S (Bf k) (nf k) (pt_S (Bf k) (nf k) (Bf k (hq_S (Bf k) (nf k) i y + 6)) 0) - 1 - (na_S (Bf k) (nf k) (pt_S (Bf k) (nf k) (Bf k (hq_S (Bf k) (nf k) i y + 6)) 0) + 2))
      unfold ISc at rg
      split at hc' <;> omega
theorem hq_lt (G : GMt (Bf k) (nf k) i) {y : Nat} (hy : y < hn_S (Bf k) (nf k) i) : hq_S (Bf k) (nf k) i y + 6 < nf k := (gm_hd G hy).1
/-- the class looks for a handler in its uppermost method -/
theorem rc_c27 (CS : CSw Bf nf A1) (hk : (k : Int) < A1 56 3) (hi : (i : Int) < mc_S (Bf k) (nf k)) (e56 : A1 56 3 = cnt) (g3 : 0 ≤ cnt ∧ cnt ≤ 8) (LK : LKt Bf nf cnt A1) (VO : ∀ y : Nat, y < hn_S (Bf k) (nf k) i → ¬ HBd Bf nf cnt k i y) (zx : ∃ x : Nat, kk_S (Bf k) (nf k) = .inr x ∧ 0 ≤ Bf k 2) (b255 : Bf k 2 ≤ 255) (h17 : A1 143 17 = (t : Int)) (t60 : t < 60) (h18 : A1 143 18 = A1 60 k) (h148 : A1 148 t = (k : Int) * 12 + (i : Int)) (h149 : A1 149 t = P) (hP : 0 ≤ P ∧ P ≤ 10000) (ho : A1 145 o.toNat = sr_T s) (hs : STs cnt s) : ∀ (f y : Nat), y ≤ hn_S (Bf k) (nf k) i → (∀ z : Nat, z < y → ¬ MTh Bf nf cnt k i s P z) → Pc (qw_X5_isCaught_27 nn f o (i : Int) (hq_S (Bf k) (nf k) i y : Int) (y : Int) A1) (fun u => (u = (0, A1) ∧ ∀ z : Nat, z < hn_S (Bf k) (nf k) i → ¬ MTh Bf nf cnt k i s P z) ∨ ∃ y : Nat, y < hn_S (Bf k) (nf k) i ∧ MTh Bf nf cnt k i s P y ∧ (∀ z : Nat, z < y → ¬ MTh Bf nf cnt k i s P z) ∧ u.1 = 1 ∧ CGV A1 u.2 t 0 o (ln_N (Bf k) (hq_S (Bf k) (nf k) i y + 4))) := by
  have X := CS.1.2 k hk
  obtain ⟨GI, _, _, MDs⟩ := cg_im X
  have G := GI.2.2.2 i hi
  have MD := (MDs i hi).2.2.1.1
  have m12 := GI.2.2.1
  have nb : nf k ≤ 6000 := X.1.1.2.1
  have k8 : k < 8 := by omega
  obtain ⟨zx, zk, z2⟩ := zx
  have ehn : Bf k (mh_P (Bf k) (nf k) i) = (hn_S (Bf k) (nf k) i : Int) := by
    have := G.2.2.2.2.1
    unfold hn_S; omega
  have h20 : hn_S (Bf k) (nf k) i ≤ 20 := by have := G.2.2.2.2.1; unfold hn_S; omega
  have PR : ∀ x : Nat, x + 1 < nf k → Pc (qf_X3_pairAt nn (A1 60 k).toNat (x : Int) A1) (fun u => u = ln_N (Bf k) x) := fun x hx => by
    unfold qf_X3_pairAt
    refine pc_sv (rc_by CS hk (x := x) (by omega)) ?_; intro y2 q2
    refine pc_xl ?_; intro y3 e3
    refine pc_add (by omega) ?_; intro y4 e4
    rw [show y4 = ((x + 1 : Nat) : Int) by omega]
    refine pc_sv (rc_by CS hk (x := x + 1) hx) ?_; intro y6 q6
    refine pc_xl ?_; intro y7 e7
    refine pc_ret ?_
    show y7 = oq_or (oq_shl (Bf k x) 8) (Bf k (x + 1))
    rw [e7, e3, q2, q6]
  intro f
  induction f with
  | zero => intro y _ _; exact pc_none
  | succ f ih =>
    intro y hy HN
    have NX : ∀ {s0 : Int}, y < hn_S (Bf k) (nf k) i → ¬ MTh Bf nf cnt k i s P y → Pc (xl (oq_add (hq_S (Bf k) (nf k) i y : Int) 7) fun v1 => xl (oq_add (y : Int) 1) fun v2 => qw_X5_isCaught_27 nn f o (i : Int) v1 v2 A1) (fun u => (u = (0, A1) ∧ ∀ z : Nat, z < hn_S (Bf k) (nf k) i → ¬ MTh Bf nf cnt k i s P z) ∨ ∃ y : Nat, y < hn_S (Bf k) (nf k) i ∧ MTh Bf nf cnt k i s P y ∧ (∀ z : Nat, z < y → ¬ MTh Bf nf cnt k i s P z) ∧ u.1 = 1 ∧ CGV A1 u.2 t 0 o (ln_N (Bf k) (hq_S (Bf k) (nf k) i y + 4))) := fun {s0} yl nm => by
      have := hq_lt G yl
      refine pc_add (by omega) ?_; intro v1 e1
      refine pc_add (by omega) ?_; intro v2 e2
      rw [show v1 = ((hq_S (Bf k) (nf k) i (y + 1) : Nat) : Int) by unfold hq_S at e1 ⊢; omega, show v2 = ((y + 1 : Nat) : Int) by omega]
      refine ih (y + 1) yl (fun z hz => ?_)
      by_cases zy : z = y
      · rw [zy]; exact nm
      · exact HN z (by omega)
    unfold qw_X5_isCaught_27
    rw [h18]
    refine pc_ck (fun _ => pc_ck (fun _ => ?_))
    refine pc_sv (vq_of X hi (w := 7) (by omega) MD) ?_; intro u34 q34
    rw [ehn] at q34
    refine pc_if (fun w => pc_ret (.inl ⟨rfl, fun z hz => HN z (by omega)⟩)) (fun w => ?_)
    have yl : y < hn_S (Bf k) (nf k) i := by omega
    have hq6 := hq_lt G yl
    obtain ⟨am, hc, n91⟩ := hd_ok g3 G zk z2 yl (VO y yl)
    have t3 := (gm_hd G yl).2
    obtain ⟨i1, i2, i3⟩ := tg_in (B := Bf k) (n := nf k) (k := Bf k (hq_S (Bf k) (nf k) i y + 6)) (by omega)
    rw [h17]
    refine pc_rA ?_; intro _ _ v37 e37
    rw [Int.toNat_natCast, h149] at e37
    refine pc_ck (fun _ => ?_)
    refine pc_sv (PR (hq_S (Bf k) (nf k) i y) (by omega)) ?_; intro u40 q40
    refine pc_if (fun l1 => ?_) (fun l1 => ?_)
    · unfold qj_X5_isCaught_88 qj_X5_isCaught_89
      rw [if_pos rfl]
      exact NX (s0 := 0) yl (fun m => by have := m.1; omega)
    refine pc_rA ?_; intro _ _ v43 e43
    rw [Int.toNat_natCast, h149] at e43
    refine pc_ck (fun _ => ?_)
    refine pc_add (by omega) ?_; intro v45 e45
    rw [show v45 = ((hq_S (Bf k) (nf k) i y + 2 : Nat) : Int) by omega]
    refine pc_sv (PR (hq_S (Bf k) (nf k) i y + 2) (by omega)) ?_; intro u47 q47
    refine pc_if (fun l2 => ?_) (fun l2 => ?_)
    · unfold qj_X5_isCaught_88 qj_X5_isCaught_89
      rw [if_pos rfl]
      exact NX (s0 := 0) yl (fun m => by have := m.2.1; omega)
    unfold qj_X5_isCaught_89
    rw [if_neg (show ¬ (1 : Int) = 0 by omega), h18]
    refine pc_rA ?_; intro _ _ v6 e6
    rw [ho] at e6
    refine pc_ck (fun _ => ?_)
    refine pc_add (by omega) ?_; intro v8 e8
    refine pc_ck (fun _ => ?_)
    rw [show v8 = ((hq_S (Bf k) (nf k) i y + 6 : Nat) : Int) by omega]
    refine pc_sv (rc_by CS hk (x := hq_S (Bf k) (nf k) i y + 6) (by omega)) ?_; intro u10 q10
    rw [q10]
    refine pc_sv (rc_link (t := t) (k := k) (i := i) h17 h148 k8 (by omega) (by omega)) ?_; intro u12 q12
    have lk := ((LK.2 k (by omega)).1 (Bf k (hq_S (Bf k) (nf k) i y + 6)) i1 (by omega)).1 t3
    rw [← q12] at lk
    have KF := kf_one (Bf := Bf) (nf := nf) g3.2 hs hc
    have VF := vc_kfits (nn := nn) (y := cq_F Bf nf cnt (Bf k) (nf k) (Bf k (hq_S (Bf k) (nf k) i y + 6))) CS (x := sr_T s) (by rw [e56]; exact tis_sr g3.2 hs)
    rw [e56, KF] at VF
    rw [lk, e6]
    refine pc_sv VF ?_; intro u14 q14
    refine pc_if (fun z => ?_) (fun z => ?_)
    · refine NX (s0 := 1) yl (fun m => ?_)
      rcases q14 with ⟨q, _⟩ | ⟨_, q⟩
      · omega
      · exact q m.2.2
    · have on : ONe Bf nf cnt s (cq_F Bf nf cnt (Bf k) (nf k) (Bf k (hq_S (Bf k) (nf k) i y + 6))) := by
        rcases q14 with ⟨_, q⟩ | ⟨q, _⟩
        · exact q
        · exact absurd q z
      rw [h17]
      refine pc_wA ?_; intro _ _ h19 e19
      rw [Int.toNat_natCast] at e19
      have F19 : ∀ c j : Nat, ¬ (c = 150 ∧ j = t) → h19 c j = A1 c j := fun c j w => by rw [e19, up_n w]
      rw [F19 143 18 (by omega), h18]
      refine pc_ck (fun _ => ?_)
      refine pc_add (by omega) ?_; intro v21 e21
      refine pc_ck (fun _ => ?_)
      rw [show v21 = ((hq_S (Bf k) (nf k) i y + 4 : Nat) : Int) by omega]
      have CS2 : CSw Bf nf h19 := csw_r CS (fun c j _ w => F19 c j (by omega))
      refine pc_sv (P := fun u => u = ln_N (Bf k) (hq_S (Bf k) (nf k) i y + 4)) ?_ ?_
      · rw [← F19 60 k (by omega)]
        unfold qf_X3_pairAt
        refine pc_sv (rc_by CS2 (by rw [F19 56 3 (by omega)]; exact hk) (x := hq_S (Bf k) (nf k) i y + 4) (by omega)) ?_; intro y2 q2
        refine pc_xl ?_; intro y3 e3
        refine pc_add (by omega) ?_; intro y4 e4
        rw [show y4 = ((hq_S (Bf k) (nf k) i y + 4 + 1 : Nat) : Int) by omega]
        refine pc_sv (rc_by CS2 (by rw [F19 56 3 (by omega)]; exact hk) (x := hq_S (Bf k) (nf k) i y + 4 + 1) (by omega)) ?_; intro y6 q6
        refine pc_xl ?_; intro y7 e7
        refine pc_ret ?_
        show y7 = oq_or (oq_shl (Bf k (hq_S (Bf k) (nf k) i y + 4)) 8) (Bf k (hq_S (Bf k) (nf k) i y + 4 + 1))
        rw [e7, e3, q2, q6]
      intro u23 q23
      rw [F19 143 17 (by omega), h17]
      refine pc_rA ?_; intro _ _ v26 e26
      rw [Int.toNat_natCast, F19 149 t (by omega), h149] at e26
      refine pc_sub (by omega) ?_; intro v27 e27
      refine pc_sv (rc_gvp (A := A1) (t := t) (H := 0) (v := o) (w := v27) ⟨F19, by rw [e19, up_s]; rfl⟩ h17 t60 (by omega) (by omega) (by omega)) ?_; intro u29 q29
      rw [show A1 149 t + v27 = ln_N (Bf k) (hq_S (Bf k) (nf k) i y + 4) by omega] at q29
      exact pc_ret (.inr ⟨y, yl, ⟨by omega, by omega, on⟩, HN, rfl, q29⟩)
/-- the reference looks for a handler -/
theorem rr_c45 {qk : Int → ms_M → Option ms_M} {Q : ms_M → Prop} (Nk : NKn Bf nf cnt) (S : RSv Bf nf B) (e98 : B 160 98 = cnt) (g3 : 0 ≤ cnt ∧ cnt ≤ 8) (hk : (k : Int) < B 160 98) (hi : (i : Int) < mc_S (Bf k) (nf k)) (VO : ∀ y : Nat, y < hn_S (Bf k) (nf k) i → ¬ HBd Bf nf cnt k i y) (ht : B 160 149 = (t : Int) + 1) (t60 : t < 60) (h253 : B 253 t = P) (hP : 0 ≤ P ∧ P ≤ 10000) (hs : STs cnt (B 246 o.toNat)) (H1 : (∀ z : Nat, z < hn_S (Bf k) (nf k) i → ¬ MTh Bf nf cnt k i (B 246 o.toNat) P z) → Pc (qk o (up_M B 160 149 (t : Int))) Q) (H2 : ∀ y : Nat, y < hn_S (Bf k) (nf k) i → MTh Bf nf cnt k i (B 246 o.toNat) P y → (∀ z : Nat, z < y → ¬ MTh Bf nf cnt k i (B 246 o.toNat) P z) → ∀ r : ms_M, RGV B r t 0 o (ln_N (Bf k) (hq_S (Bf k) (nf k) i y + 4)) → Q r) : ∀ (f y : Nat), y ≤ hn_S (Bf k) (nf k) i → (∀ z : Nat, z < y → ¬ MTh Bf nf cnt k i (B 246 o.toNat) P z) → Pc (qw_X13_thrown_45 nn qk f o (t : Int) (k : Int) (mh_P (Bf k) (nf k) i : Int) (y : Int) B) Q := by
  have GI := (rg_im (S.2 k hk)).1
  have G := GI.2.2.2 i hi
  obtain ⟨n6, k8⟩ := tb_n6 S hk
  obtain ⟨zx, zk, z2⟩ := rs_zk S hk
  have ehn : Bf k (mh_P (Bf k) (nf k) i) = (hn_S (Bf k) (nf k) i : Int) := by
    have := G.2.2.2.2.1
    unfold hn_S; omega
  have h20 : hn_S (Bf k) (nf k) i ≤ 20 := by have := G.2.2.2.2.1; unfold hn_S; omega
  have mhn : mh_P (Bf k) (nf k) i < nf k := G.2.2.2.1.2.2
  intro f
  induction f with
  | zero => intro y _ _; exact pc_none
  | succ f ih =>
    intro y hy HN
    have NX : y < hn_S (Bf k) (nf k) i → ¬ MTh Bf nf cnt k i (B 246 o.toNat) P y → Pc (xl (oq_add (y : Int) 1) fun v30 => qw_X13_thrown_45 nn qk f o (t : Int) (k : Int) (mh_P (Bf k) (nf k) i : Int) v30 B) Q := fun yl nm => by
      refine pc_add (by omega) ?_; intro v30 e30
      rw [show v30 = ((y + 1 : Nat) : Int) by omega]
      refine ih (y + 1) yl (fun z hz => ?_)
      by_cases zy : z = y
      · rw [zy]; exact nm
      · exact HN z (by omega)
    unfold qw_X13_thrown_45
    refine pc_sv (vq_rbyte S hk (p := mh_P (Bf k) (nf k) i) mhn) ?_; intro u6 q6
    rw [ehn] at q6
    refine pc_if (fun w => ?_) (fun w => ?_)
    · rw [ht]
      refine pc_sub (by omega) ?_; intro v8 e8
      rw [show v8 = (t : Int) by omega]
      refine pc_xl ?_; intro h9 e9
      rw [e9]
      exact H1 (fun z hz => HN z (by omega))
    have yl : y < hn_S (Bf k) (nf k) i := by omega
    have hq6 := hq_lt G yl
    have ehq : hq_S (Bf k) (nf k) i y = mh_P (Bf k) (nf k) i + 1 + 7 * y := rfl
    obtain ⟨am, hc, n91⟩ := hd_ok g3 G zk z2 yl (VO y yl)
    have t3 := (gm_hd G yl).2
    refine pc_add (by omega) ?_; intro v10 e10
    refine pc_xl ?_; intro v11 e11
    rw [oq_mul_eq (by omega) (by omega) (by omega)] at e11
    refine pc_add (by omega) ?_; intro v12 e12
    have e12 : v12 = ((hq_S (Bf k) (nf k) i y : Nat) : Int) := by omega
    rw [e12]
    refine pc_sv (vq_rbyte S hk (p := hq_S (Bf k) (nf k) i y) (by omega)) ?_; intro u14 q14
    refine pc_xl ?_; intro v15 e15
    refine pc_add (by omega) ?_; intro v16 e16
    rw [show v16 = ((hq_S (Bf k) (nf k) i y + 1 : Nat) : Int) by omega]
    refine pc_sv (vq_rbyte S hk (p := hq_S (Bf k) (nf k) i y + 1) (by omega)) ?_; intro u18 q18
    refine pc_xl ?_; intro v19 e19
    have e19 : v19 = ln_N (Bf k) (hq_S (Bf k) (nf k) i y) := by rw [e19, e15, q14, q18]; rfl
    refine pc_add (by omega) ?_; intro v20 e20
    rw [show v20 = ((hq_S (Bf k) (nf k) i y + 2 : Nat) : Int) by omega]
    refine pc_sv (vq_rbyte S hk (p := hq_S (Bf k) (nf k) i y + 2) (by omega)) ?_; intro u22 q22
    refine pc_xl ?_; intro v23 e23
    refine pc_add (by omega) ?_; intro v24 e24
    rw [show v24 = ((hq_S (Bf k) (nf k) i y + 2 + 1 : Nat) : Int) by omega]
    refine pc_sv (vq_rbyte S hk (p := hq_S (Bf k) (nf k) i y + 2 + 1) (by omega)) ?_; intro u26 q26
    refine pc_xl ?_; intro v27 e27
    have e27 : v27 = ln_N (Bf k) (hq_S (Bf k) (nf k) i y + 2) := by rw [e27, e23, q22, q26]; rfl
    refine pc_rA ?_; intro _ _ v29 e29
    rw [Int.toNat_natCast, h253] at e29
    refine pc_if (fun l1 => NX yl (fun m => by have := m.1; omega)) (fun l1 => ?_)
    refine pc_rA ?_; intro _ _ v32 e32
    rw [Int.toNat_natCast, h253] at e32
    refine pc_if (fun l2 => NX yl (fun m => by have := m.2.1; omega)) (fun l2 => ?_)
    refine pc_add (by omega) ?_; intro v34 e34
    rw [show v34 = ((hq_S (Bf k) (nf k) i y + 6 : Nat) : Int) by omega]
    refine pc_sv (vq_rbyte S hk (p := hq_S (Bf k) (nf k) i y + 6) (by omega)) ?_; intro u36 q36
    rw [q36]
    refine rr_cls (by rw [e98]; exact Nk) S hk t3 n91 ?_
    rw [e98]
    have RO := rr_one (nn := nn) (o := o) (c := cq_F Bf nf cnt (Bf k) (nf k) (Bf k (hq_S (Bf k) (nf k) i y + 6))) (h := B) (by rw [e98]; exact Nk) S (by rw [e98]; exact hs) hc.1
    rw [e98] at RO
    refine pc_sv RO ?_; intro u42 q42
    refine pc_if (fun z => ?_) (fun z => ?_)
    · have on : ONe Bf nf cnt (B 246 o.toNat) (cq_F Bf nf cnt (Bf k) (nf k) (Bf k (hq_S (Bf k) (nf k) i y + 6))) := by
        rcases q42 with ⟨_, q⟩ | ⟨q, _⟩
        · exact q
        · exact absurd q z
      refine pc_add (by omega) ?_; intro v44 e44
      rw [show v44 = ((hq_S (Bf k) (nf k) i y + 4 : Nat) : Int) by omega]
      refine pc_sv (vq_rbyte S hk (p := hq_S (Bf k) (nf k) i y + 4) (by omega)) ?_; intro u46 q46
      refine pc_xl ?_; intro v47 e47
      refine pc_add (by omega) ?_; intro v48 e48
      rw [show v48 = ((hq_S (Bf k) (nf k) i y + 4 + 1 : Nat) : Int) by omega]
      refine pc_sv (vq_rbyte S hk (p := hq_S (Bf k) (nf k) i y + 4 + 1) (by omega)) ?_; intro u50 q50
      refine pc_xl ?_; intro v51 e51
      have e51 : v51 = ln_N (Bf k) (hq_S (Bf k) (nf k) i y + 4) := by rw [e51, e47, q46, q50]; rfl
      refine pc_wA ?_; intro _ _ h52 e52
      rw [Int.toNat_natCast, e51] at e52
      unfold qj_X13_thrown_196
      refine pc_wA ?_; intro _ _ h2 e2
      rw [Int.toNat_natCast] at e2
      refine pc_sv (rr_give (v := o) (t := t) (H := 0) (by rw [e2, up_n (by omega), e52, up_n (by omega)]; exact ht) t60 (by rw [e2, up_s]; rfl) (by omega)) ?_; intro u4 q4
      refine pc_ret (H2 y yl ⟨by omega, by omega, on⟩ HN u4 ⟨fun x j w1 w2 w3 w4 => ?_, ⟨?_, ?_⟩, ?_, fun n hn => ?_⟩)
      · rw [q4, up_n (by omega), up_n (by omega), e2, up_n (by omega), e52, up_n (by omega)]
      · rw [q4, up_n (by omega), up_n (by omega), e2, up_n (by omega), e52, up_s]
      · rw [q4, up_s]
      · rw [q4, up_n (by omega), up_s]
      · rw [q4, up_n (by omega), up_n (by omega), e2, up_n (by omega), e52, up_n (by omega)]
    · refine NX yl (fun m => ?_)
      rcases q42 with ⟨q, _⟩ | ⟨_, q⟩
      · omega
      · exact q m.2.2
end
end
section
/- RUN: what is thrown, whole; behind a step -/
section
variable {nn : Nat} {Bf : Nat → Nat → Int} {nf : Nat → Nat} {cnt : Int} {k i t H d : Nat} {A B g r u z h A1 B0 : ms_M} {o v wd c x a s P l1 l2 : Int}
theorem nw_143 {L : List Nat} {LF : List (Nat × Nat)} {c k : Nat} (q : (L.all (fun x => Nat.ble 143 x && Nat.ble x 152) && LF.all (fun y => Nat.ble 143 y.1 && Nat.ble y.1 152)) = true) (hc : ¬ (143 ≤ c ∧ c ≤ 152)) : nw_F L LF false false c k = true := by
  rw [Bool.and_eq_true] at q
  unfold nw_F
  simp only [Bool.and_eq_true]
  refine ⟨?_, ?_, rfl, rfl⟩
  · cases hq : L.contains c with
    | false => rfl
    | true => have := List.all_eq_true.mp q.1 c (List.contains_iff_mem.mp hq); rw [Bool.and_eq_true, Nat.ble_eq, Nat.ble_eq] at this; omega
  · cases hq : LF.contains (c, k) with
    | false => rfl
    | true => have := List.all_eq_true.mp q.2 _ (List.contains_iff_mem.mp hq); rw [Bool.and_eq_true, Nat.ble_eq, Nat.ble_eq] at this; dsimp only at this; omega
theorem rr_143 (R : RRd Bf nf cnt A B d) (C : ∀ c j : Nat, ¬ (c = 143 ∧ (17 ≤ j ∧ j ≤ 20)) → g c j = A c j) : RRd Bf nf cnt g B d := by
  obtain ⟨⟨⟨a1, a2⟩, ⟨a3, a4⟩, a5, a6, a7⟩, d60, F, E, Pr⟩ := R
  refine ⟨⟨⟨?_, a2⟩, ⟨?_, a4⟩, ?_, ?_, a7⟩, d60, fun j hj => fra_k (F j hj) (C 148 j (by omega)) (C 149 j (by omega)) (C 150 j (by omega)) (fun n hn => C 151 _ (by omega)) (fun n hn => C 152 _ (by omega)) rfl rfl rfl rfl (fun _ _ => rfl), hpa_k E (fun x q => C 143 x (by omega)) (fun c x q1 q2 => C c x (by omega)) (fun _ _ => rfl) (fun _ _ _ _ => rfl), pra_k Pr (C 143 7 (by omega)) (fun x => C 144 x (by omega)) rfl (fun _ => rfl)⟩
  · rw [C 143 1 (by omega)]; exact a1
  · rw [C 143 2 (by omega)]; exact a3
  · rw [C 143 3 (by omega)]; exact a5
  · rw [C 143 6 (by omega)]; exact a6
theorem rnx_20 (R : RNX Bf nf cnt A B) : RNX Bf nf cnt (up_M A 143 20 x) B := by
  rcases R with ⟨d, k, i, R, T⟩ | ⟨e1, e2, e3, e4, e5⟩
  · exact .inl ⟨d, k, i, rr_143 R (fun c j w => up_n (by omega)), tpa_k T (fun c j w => up_n (by omega)) (fun _ _ _ => rfl)⟩
  · have C : ∀ j : Nat, j ≤ 7 → up_M A 143 20 x 143 j = A 143 j := fun j hj => up_n (by omega)
    refine .inr ⟨?_, ?_, pra_k e3 (C 7 (by omega)) (fun x => up_n (by omega)) rfl (fun _ => rfl), ?_, ?_⟩
    · rw [C 1 (by omega)]; exact e1
    · rw [C 3 (by omega), C 4 (by omega), C 5 (by omega), C 6 (by omega)]; exact e2
    · rw [C 1 (by omega), C 2 (by omega)]; exact e4
    · rw [C 1 (by omega), C 2 (by omega)]; exact e5
/-- THROWN -/
theorem jt_thr (o2 : B 160 141 ≤ 2000) (ho : 1 ≤ o ∧ o ≤ B 160 141 ∧ B 246 o.toNat < 99) : ∀ (d : Nat) (A B1 : ms_M), (∀ x j : Nat, ¬ (x = 160 ∧ j = 149) → B1 x j = B x j) → ENa Bf nf cnt A B1 → RRd Bf nf cnt A B1 d → (∀ j : Nat, j < d → 0 ≤ B 253 j ∧ B 253 j ≤ 10000) → ∀ (f1 f2 : Nat) (l2 : Int), 0 ≤ l2 → l2 + (d : Int) ≤ 60 → Pc (qw_X5_throwUp_17 nn f1 o l2 A) (fun g => Pc (qw_X13_thrown_0 nn f2 o B1) (fun r => RNX Bf nf cnt g r)) := by
  intro d
  induction d with
  | zero =>
    intro A B1 FB E R PL f1 f2 l2 l0 ld
    have e149 := R.1.2.2.2.2
    have e6 := R.1.2.2.2.1
    have HP := R.2.2.2.1
    have ob := HP.2.1 o.toNat (by omega) (by rw [FB 160 141 (by omega)]; omega)
    have e246 : B1 246 o.toNat = B 246 o.toNat := FB 246 _ (by omega)
    have C59 : Pc (qj_X5_throwUp_59 nn o A) (fun g => g = up_M (up_M A 143 1 3) 143 2 (B1 246 o.toNat)) := by
      unfold qj_X5_throwUp_59
      refine pc_xl ?_; intro h1 e1
      refine pc_rA ?_; intro _ _ v3 e3
      rw [e1, up_n (by omega), ob.2.1] at e3
      unfold sr_T at e3
      rw [if_neg (by omega)] at e3
      refine pc_xl ?_; intro h4 e4
      exact pc_ret (by rw [e4, e3, e1])
    have FIN : ∀ r : ms_M, r = up_M (up_M B1 160 138 3) 160 139 (B1 246 o.toNat) → RNX Bf nf cnt (up_M (up_M A 143 1 3) 143 2 (B1 246 o.toNat)) r := fun r er => by
      have CA : ∀ c j : Nat, ¬ (c = 143 ∧ (j = 1 ∨ j = 2)) → up_M (up_M A 143 1 3) 143 2 (B1 246 o.toNat) c j = A c j := fun c j w => by rw [up_n (by omega), up_n (by omega)]
      have CB : ∀ x j : Nat, ¬ (x = 160 ∧ (j = 138 ∨ j = 139)) → r x j = B1 x j := fun x j w => by rw [er, up_n (by omega), up_n (by omega)]
      have b1 : up_M (up_M A 143 1 3) 143 2 (B1 246 o.toNat) 143 1 = 3 := by rw [up_n (by omega), up_s]
      have b2 : r 160 138 = 3 := by rw [er, up_n (by omega), up_s]
      refine .inr ⟨⟨by rw [b1, b2], by omega, by omega⟩, ⟨?_, ?_, ?_, ?_⟩, pra_k R.2.2.2.2 (CA 143 7 (by omega)) (fun x => CA 144 x (by omega)) (CB 160 143 (by omega)) (fun x => CB 250 x (by omega)), fun _ => by rw [up_s, er, up_s], fun _ w => absurd b1 w⟩
      · rw [CA 143 3 (by omega), CB 160 140 (by omega)]; exact R.1.2.2.1
      · rw [CA 143 4 (by omega), CB 160 141 (by omega)]; exact HP.1.1
      · rw [CA 143 5 (by omega), CB 160 142 (by omega)]; exact HP.1.2
      · rw [CA 143 6 (by omega), CB 160 149 (by omega), e6, e149]
    have REF : Pc (qw_X13_thrown_0 nn f2 o B1) (fun r => r = up_M (up_M B1 160 138 3) 160 139 (B1 246 o.toNat)) := by
      cases f2 with
      | zero => exact pc_none
      | succ f2 =>
        unfold qw_X13_thrown_0
        refine pc_if (fun _ => ?_) (fun w => absurd (by omega) w)
        refine pc_xl ?_; intro h59 e59
        refine pc_rA ?_; intro _ _ v61 e61
        rw [e59, up_n (by omega)] at e61
        refine pc_xl ?_; intro h62 e62
        exact pc_ret (by rw [e62, e61, e59])
    cases f1 with
    | zero => exact pc_none
    | succ f1 =>
      unfold qw_X5_throwUp_17
      refine pc_if (fun _ => ?_) (fun _ => ?_)
      · refine pc_imp C59 (fun g eg => ?_)
        rw [eg]
        exact pc_imp REF FIN
      · refine pc_if (fun _ => ?_) (fun w => absurd (by omega) w)
        refine pc_imp C59 (fun g eg => ?_)
        rw [eg]
        exact pc_imp REF FIN
  | succ t ih =>
    intro A B1 FB E R PL f1 f2 l2 l0 ld
    have e149 := R.1.2.2.2.2
    have e6 := R.1.2.2.2.1
    have HP := R.2.2.2.1
    obtain ⟨⟨c1, c2, c3⟩, ⟨d1, d2⟩, Nk, HG, VO⟩ := E
    have g3 := HG.1
    have ob := HP.2.1 o.toNat (by omega) (by rw [FB 160 141 (by omega)]; omega)
    obtain ⟨⟨k, i, ⟨x1, x2⟩, ⟨x3, x4⟩, x5⟩, ⟨x6, x7⟩, x8, x9⟩ := rr_fra R (t := t) (by omega)
    have t60 := R.2.1
    have pl := PL t (by omega)
    have e253 : B1 253 t = B 253 t := FB 253 t (by omega)
    have hkB : (k : Int) < B1 160 98 := by omega
    have HB := mr_hd (VO.2 k x3 i x4)
    have zx := rs_zk d1 hkB
    have b255 := (d1.2 k hkB).2.1.2.1.2
    obtain ⟨n6, k8⟩ := tb_n6 d1 hkB
    have GI := (rg_im (d1.2 k hkB))
    have m12 := GI.1.2.2.1
    cases f1 with
    | zero => exact pc_none
    | succ f1 =>
      unfold qw_X5_throwUp_17
      refine pc_if (fun w => absurd w (by omega)) (fun _ => ?_)
      refine pc_if (fun w => absurd w (by omega)) (fun _ => ?_)
      refine pc_sv (rc_top (t := t) (k := k) (i := i) c1 (by omega) x4 (by omega) (by omega) x5) ?_
      intro u7 ⟨K1, K2, K3, K4⟩
      have R7 : RRd Bf nf cnt u7 B1 (t + 1) := rr_143 R (fun c j w => K1 c j (by omega))
      have T7 : TPA Bf nf cnt u7 B1 t k i := ⟨⟨K2, by rw [K3, K1 60 k (by omega)], K4⟩, ⟨x1, x2⟩, x3, x4⟩
      have CS7 : CSw Bf nf u7 := csw_r c1 (fun c j _ w => K1 c j (by omega))
      have CI7 := cg_im (CS7.1.2 k (by rw [K1 56 3 (by omega)]; omega))
      have MD := (CI7.2.2.2 i x4).2.2.1.2
      refine pc_sv (P := fun u => (u = (0, u7) ∧ ∀ z : Nat, z < hn_S (Bf k) (nf k) i → ¬ MTh Bf nf cnt k i (B1 246 o.toNat) (B1 253 t) z) ∨ ∃ y : Nat, y < hn_S (Bf k) (nf k) i ∧ MTh Bf nf cnt k i (B1 246 o.toNat) (B1 253 t) y ∧ (∀ z : Nat, z < y → ¬ MTh Bf nf cnt k i (B1 246 o.toNat) (B1 253 t) z) ∧ u.1 = 1 ∧ CGV u7 u.2 t 0 o (ln_N (Bf k) (hq_S (Bf k) (nf k) i y + 4))) ?_ ?_
      · unfold qf_X5_isCaught
        rw [K2]
        refine pc_rA ?_; intro _ _ v53 e53
        rw [Int.toNat_natCast, K1 148 t (by omega), x5] at e53
        refine pc_xl ?_; intro v54 e54
        rw [Int.tmod_eq_emod_of_nonneg (by omega)] at e54
        rw [K3, ← K1 60 k (by omega)]
        refine pc_ck (fun _ => pc_ck (fun _ => ?_))
        rw [show v54 = (i : Int) by omega]
        refine pc_sv (vq_of (CS7.1.2 k (by rw [K1 56 3 (by omega)]; omega)) x4 (w := 8) (by omega) MD) ?_; intro u57 q57
        rw [q57]
        exact rc_c27 CS7 (by rw [K1 56 3 (by omega)]; omega) x4 (by rw [K1 56 3 (by omega)]; exact c2) g3 (lkt_k c3 (fun c h1 h2 => funext fun j => K1 c j (by omega))) HB zx b255 K2 (by omega) (by rw [K3, K1 60 k (by omega)]) (by rw [K1 148 t (by omega)]; exact x5) (by rw [K1 149 t (by omega)]; exact x6) (by rw [e253]; exact pl) (by rw [K1 145 _ (by omega)]; exact ob.2.1) ob.1 nn 0 (by omega) (fun z hz => absurd hz (by omega))
      intro u9 q9
      refine pc_tw ?_
      cases f2 with
      | zero => exact pc_none
      | succ f2 =>
        unfold qw_X13_thrown_0
        refine pc_if (fun w => absurd w (by omega)) (fun _ => ?_)
        rw [e149]
        refine pc_sub (by omega) ?_; intro v64 e64
        rw [show v64 = (t : Int) by omega]
        refine pc_rA ?_; intro _ _ v66 e66
        rw [Int.toNat_natCast, x1] at e66
        refine pc_sub (by omega) ?_; intro v67 e67
        rw [show v67 = (k : Int) by omega]
        refine pc_xl ?_; intro v69 e69
        rw [oq_mul_eq (by omega) (by omega) (by omega)] at e69
        refine pc_rA ?_; intro _ _ v71 e71
        rw [Int.toNat_natCast, x2] at e71
        refine pc_add (by omega) ?_; intro v72 e72
        refine pc_rA ?_; intro _ _ v73 e73
        rw [show v72.toNat = (12 * (k : Int) + (i : Int)).toNat by omega, (GI.2.2.2 i x4).2.1] at e73
        rw [e73]
        refine rr_c45 (t := t) (i := i) (P := B1 253 t) Nk d1 d2 g3 hkB x4 HB (by omega) (by omega) rfl (by rw [e253]; exact pl) ob.1 (fun none => ?_) (fun y yl ym yn r Rr => ?_) nn 0 (by omega) (fun z hz => absurd hz (by omega))
        · rcases q9 with ⟨e9, _⟩ | ⟨y, yl, ym, _⟩
          · rw [e9]
            refine pc_tw ?_
            rw [if_pos rfl]
            show Pc (xl (oq_sub (u7 143 6) 1) fun v11 => xl (up_M u7 143 6 v11) fun h12 => xl (oq_add l2 1) fun v13 => qw_X5_throwUp_17 nn f1 o v13 h12) _
            rw [K1 143 6 (by omega), e6]
            refine pc_sub (by omega) ?_; intro v11 e11
            refine pc_xl ?_; intro h12 e12
            refine pc_add (by omega) ?_; intro v13 e13
            have C12 : ∀ c j : Nat, ¬ (c = 143 ∧ (j = 6 ∨ j = 17 ∨ j = 18 ∨ j = 19)) → h12 c j = A c j := fun c j w => by rw [e12, up_n (by omega), K1 c j (by omega)]
            have RR : RRd Bf nf cnt h12 (up_M B1 160 149 (t : Int)) t := rr_pop1 R (fun c j w1 w2 => C12 c j (by omega)) (by rw [e12, up_s]; omega) (fun x j w1 w2 => up_n (by omega)) (by rw [up_s])
            exact ih h12 (up_M B1 160 149 (t : Int)) (fun x j w => by rw [up_n w]; exact FB x j w) (en_k ⟨⟨c1, c2, c3⟩, ⟨d1, d2⟩, Nk, HG, VO⟩ (fun c j _ w => C12 c j (by omega)) (fun x j _ _ => up_n (by omega)) (up_n (by omega))) RR (fun j hj => PL j (by omega)) f1 f2 v13 (by omega) (by omega)
          · exact absurd ym (none y yl)
        · rcases q9 with ⟨_, none⟩ | ⟨y2, yl2, ym2, yn2, e9, G9⟩
          · exact absurd ym (none y yl)
          · have ey : y2 = y := by
              rcases Nat.lt_trichotomy y2 y with w | w | w
              · exact absurd ym2 (yn y2 w)
              · exact w
              · exact absurd ym (yn2 y w)
            rw [ey] at G9
            rw [if_neg (show ¬ u9.1 = 0 by omega)]
            exact pc_ret (.inl ⟨t, k, i, jg0 R7 (by omega) G9 Rr, tpa_k T7 (fun c j w => G9.1 c j (by omega) (by omega) (by omega) (by omega)) (fun x j w => Rr.1 x j (by omega) (by omega) (by omega) (by omega))⟩)
end
end
section
/- RUN: behind a step, the class throws what is to be thrown -/
section
variable {nn : Nat} {Bf : Nat → Nat → Int} {nf : Nat → Nat} {cnt : Int} {k i t H d : Nat} {A B g r u z h A1 B0 : ms_M} {o v wd c x a s P l1 l2 : Int}
theorem oq_neg_c (hc : 2 ≤ c ∧ c ≤ 7) : oq_neg (-c) = c := by
  rcases (show c = 2 ∨ c = 3 ∨ c = 4 ∨ c = 5 ∨ c = 6 ∨ c = 7 by omega) with e | e | e | e | e | e
  all_goals (rw [e]; decide)
theorem jt_aft {QK : Int → Int → ms_M → Option (Int × ms_M)} {Q : Int × ms_M → Prop} (ST : STQ nn Bf nf cnt t B0 g r) (E : ENa Bf nf cnt g B0) (t60 : t < 60) (PL : ∀ j : Nat, j < t + 1 → 0 ≤ B0 253 j ∧ B0 253 j ≤ 10000) (o1 : 0 ≤ B0 160 141 ∧ B0 160 141 ≤ 2000) (o2 : 0 ≤ B0 160 142 ∧ B0 160 142 ≤ 20000) (hl2 : 0 ≤ l2 ∧ l2 ≤ 1000000) (HK : ∀ g' : ms_M, RNX Bf nf cnt g' r → (∀ c j : Nat, ¬ (143 ≤ c ∧ c ≤ 152) → g' c j = g c j) → g' 143 20 = 0 → Pc (QK l1 (l2 + 1) g') Q) : Pc (if 0 ≤ (g 143 20) then (qj_X5_go_40 nn QK l1 l2 g) else (xl (oq_neg (g 143 20)) fun v16 => mx_sv (qf_X5_make nn v16 0 g) fun u18 => xl (up_M u18.2 143 20 u18.1) fun h19 => qj_X5_go_40 nn QK l1 l2 h19)) Q := by
  have E55 : ∀ m : ms_M, RNX Bf nf cnt m r → (∀ c j : Nat, ¬ (143 ≤ c ∧ c ≤ 152) → m c j = g c j) → Pc (qj_X5_go_55 nn QK l1 l2 m) Q := fun m R F => by
    unfold qj_X5_go_55
    refine pc_xl ?_; intro h4 e4
    refine pc_add (by omega) ?_; intro v5 e5
    rw [e5]
    refine HK h4 (by rw [e4]; exact rnx_20 R) (fun c j w => by rw [e4, up_n (by omega)]; exact F c j w) (by rw [e4, up_s])
  -- an object comes up
  have UP : ∀ (o : Int) (m z : ms_M), m 143 20 = o → (1 ≤ o ∧ o ≤ z 160 141 ∧ z 246 o.toNat < 99) → z 160 141 ≤ 2000 → ENa Bf nf cnt m z → RRd Bf nf cnt m z (t + 1) → (∀ j : Nat, j < t + 1 → 0 ≤ z 253 j ∧ z 253 j ≤ 10000) → (∀ c j : Nat, ¬ (143 ≤ c ∧ c ≤ 152) → m c j = g c j) → qf_X13_thrown nn o z = some r → Pc (qj_X5_go_40 nn QK l1 l2 m) Q := fun o m z e20 ho z2 Em R PLz F er => by
    unfold qj_X5_go_40
    rw [e20]
    refine pc_if (fun w => absurd w (by omega)) (fun _ => ?_)
    refine pc_se ?_; intro u9 e9
    have e4 : m 143 4 = z 160 141 := R.2.2.2.1.1.1
    have FU := (ff_X5_throwUp nn) _ e9
    refine E55 u9 ?_ (fun c j w => ?_)
    · unfold qf_X5_throwUp at e9
      obtain ⟨u18, e18, e9⟩ := sv_i e9
      have q18 := rc_iso (nn := nn) (B := z) (u := m) (v := o) e4 z2 (.inr ⟨ho.1, ho.2.1⟩) u18 e18
      rw [if_pos (show ¬ u18 = 0 by omega)] at e9
      exact jt_thr (B := z) z2 ho (t + 1) m z (fun _ _ _ => rfl) Em R PLz nn nn 0 (by omega) (by omega) u9 e9 r er
    · exact (FU c j (nw_143 rfl w)).trans (F c j w)
  rcases ST with ⟨e20, R⟩ | ⟨c, z, ⟨hc, e20⟩, R, FZ, er⟩ | ⟨o, z, ⟨ho, e20⟩, R, FZ, er⟩
  · rw [if_pos (by omega)]
    unfold qj_X5_go_40
    rw [if_pos (by omega)]
    exact E55 g R (fun _ _ _ => rfl)
  · rw [if_neg (by omega), e20]
    have e98 := E.2.1.2
    have Ez : ENa Bf nf cnt g z := en_k E (fun _ _ _ _ => rfl) (fun x j _ _ => FZ x j (by omega)) (FZ 160 98 (by omega))
    refine pc_xl ?_; intro v16 e16
    have e16 : v16 = c := by rw [e16]; exact oq_neg_c hc
    rw [e16]
    obtain ⟨n, en⟩ : ∃ n : Nat, z 160 141 = (n : Int) := ⟨(z 160 141).toNat, by rw [FZ 160 141 (by omega)]; omega⟩
    obtain ⟨m, em⟩ : ∃ m : Nat, z 160 142 = (m : Int) := ⟨(z 160 142).toNat, by rw [FZ 160 142 (by omega)]; omega⟩
    have nr : n ≤ 2000 := by have := FZ 160 141 (by omega); omega
    have mr : m ≤ 20000 := by have := FZ 160 142 (by omega); omega
    have HE := R.2.2.2.1.1
    have esr : sr_T c = c := by unfold sr_T; rw [if_neg (by omega)]
    have MC := rc_make (nn := nn) (a := c) (s := 0) (HE.1.trans en) (HE.2.trans em) nr mr (by omega)
    rw [show ((0 : Nat) : Int) = 0 from rfl] at MC
    refine pc_sv MC ?_; intro u18 q18
    unfold qf_X13_fails at er
    obtain ⟨u2, eu2, er⟩ := sv_i er
    have q2 := rr_make (nn := nn) (a := c) (s := 0) en em nr mr (by omega) u2 (by rw [show ((0 : Nat) : Int) = 0 from rfl]; exact eu2)
    refine pc_xl ?_; intro h19 e19
    rcases q18 with ⟨a1, a2, a3⟩ | ⟨a1, a2, a3⟩
    · rcases q2 with ⟨b1, b2, b3⟩ | ⟨b1, b2, b3⟩
      · rw [if_pos (show u2.1 ≤ 0 by omega), b3] at er
        have er := Option.some.inj er
        unfold qj_X5_go_40
        rw [e19, up_s, if_pos (show u18.1 ≤ 0 by omega), a3]
        refine E55 _ ?_ (fun c j w => by rw [up_n (by omega), up_n (by omega)])
        rw [← er]
        exact rnx_20 (.inr (rr_room R))
      · exfalso; omega
    · rcases q2 with ⟨b1, b2, b3⟩ | ⟨b1, b2, b3⟩
      · exfalso; omega
      · rw [if_neg (show ¬ u2.1 ≤ 0 by omega)] at er
        obtain ⟨u4, eu4, er⟩ := sv_i er
        have er := Option.some.inj er
        rw [er] at eu4
        have a3' := a3
        rw [← esr] at a3'
        have R2 := rr_mk (a := c) R en em (.inl ⟨by omega, by have := E.2.2.2.1.1; omega⟩) a1 ⟨a3'.1, a3'.2.1, ⟨by rw [a3.2.2.1.1, esr], a3.2.2.1.2⟩, a3.2.2.2⟩ b3
        have F18 : ∀ c j : Nat, ¬ (143 ≤ c ∧ c ≤ 152) → u18.2 c j = g c j := fun c j w => a3.1 c j (by omega) (by omega) (by omega) (by omega)
        refine UP u18.1 h19 u2.2 (by rw [e19, up_s]) ⟨by omega, by rw [b3.2.1.1]; omega, ?_⟩ (by rw [b3.2.1.1]; omega) ?_ (rr_143 R2 (fun c j w => by rw [e19, up_n (by omega)])) (fun j hj => ?_) (fun c j w => by rw [e19, up_n (by omega)]; exact F18 c j w) ?_
        · rw [a2, Int.toNat_natCast, b3.2.2.1.1]; omega
        · exact en_k Ez (fun c j _ w => by rw [e19, up_n (by omega)]; exact F18 c j w) (fun x j w1 w2 => b3.1 x j (by omega) (by omega) (by omega)) (b3.1 160 98 (by omega) (by omega) (by omega))
        · rw [b3.1 253 j (by omega) (by omega) (by omega), FZ 253 j (by omega)]; exact PL j hj
        · rw [show u18.1 = u2.1 by omega]; exact eu4
  · rw [if_pos (by omega)]
    have Ez : ENa Bf nf cnt g z := en_k E (fun _ _ _ _ => rfl) (fun x j _ _ => FZ x j (by omega)) (FZ 160 98 (by omega))
    exact UP o g z e20 ho (by rw [FZ 160 141 (by omega)]; omega) Ez R (fun j hj => by rw [FZ 253 j (by omega)]; exact PL j hj) (fun _ _ _ => rfl) er
end
end
section
/- RUN: A STEP OF BOTH MACHINES -/
section
variable {nn : Nat} {Bf : Nat → Nat → Int} {nf : Nat → Nat} {cnt : Int} {k i t H d P : Nat} {A B g r u z h p g0 : ms_M} {ω : Int → ms_M} {op o v wd c kk x a s tt ty y : Int} {N ai : Nat} {T U : Nat → ms_M}
theorem tvq (X : RTP nn g0 ω B (t : Int) c kk N T U tt ai p) (y0 : 0 ≤ y) (y1 : y < B 254 t) : CVt nn g0 B (tp (T ai) y) (B 255 (60 * t + 30 + ((B 254 t).toNat - 1 - y.toNat))) := by
  have e := X.tp (y := y) y0 (by rw [Int.toNat_natCast]; exact y1)
  rw [Int.toNat_natCast, show (60 * (t : Int) + 30 + (B 254 t - 1 - y)).toNat = 60 * t + 30 + ((B 254 t).toNat - 1 - y.toNat) by omega] at e
  exact e
theorem tvg (hn : 1000000 ≤ nn) (X : RTP nn g0 ω B (t : Int) c kk N T U tt ai p) (y0 : 0 ≤ y) (y1 : y < B 254 t) (G : GOt nn (T ai) (tp (T ai) y) ty) (gt : GTs g0 ty) : CVt nn g0 B ty (B 255 (60 * t + 30 + ((B 254 t).toNat - 1 - y.toNat))) := by
  have e := rtp_go hn X (y := y) y0 (by rw [Int.toNat_natCast]; exact y1) G gt
  rw [Int.toNat_natCast, show (60 * (t : Int) + 30 + (B 254 t - 1 - y)).toNat = 60 * t + 30 + ((B 254 t).toNat - 1 - y.toNat) by omega] at e
  exact e
/-- one instruction -/
theorem js_go (hn : 1000000 ≤ nn) (S : SXc Bf nf cnt A B k i t P op o) (X : RTP nn g0 ω B (t : Int) (k : Int) kk N T U tt ai p) (pr : 0 ≤ B 160 143 ∧ B 160 143 ≤ 2000000000) (hp2 : WD op = 3 → ma_S (Bf k) (nf k) i + 7 + P + 2 < nf k) (ob : 0 ≤ o) {o2 : Int} (eo2 : WD op = 2 → o2 = o) (RG : RGT nn p ω (k : Int) (ω (k : Int)) op o2) (W : WN nn (T ai) ω (k : Int) (ω (k : Int)) tt op o2 (U ai)) : Pc (qf_X5_step nn A) (fun g => Pc (qf_X13_step nn B) (STQ nn Bf nf cnt t B g)) := by
  have h := rtp_h X
  obtain ⟨⟨c1, c2, c3⟩, ⟨d1, d2⟩, Nk, HG, _⟩ := S.1
  have g3 := HG.1
  have hk := S.2.2.2.2.1.2.1
  have e98 := X.rx.2.1.1
  have At := X.at
  obtain ⟨W1, hg⟩ := tr_w X.rx hk
  have t98 : (T ai) 160 98 = cnt := by rw [← At.2.1, ← e98]; exact d2
  have tc := rtp_h X
  have jh : jmp_T op → WD op = 3 := wd_jmp
  -- class constants
  have CK : ∀ {u : Int}, CL (ω (k : Int)) (k : Int) o → CTv nn (T ai) (k : Int) (ω (k : Int)) o (4 + 2 * u) → (0 ≤ u ∧ u < 8 + (T ai) 160 98) → tg_S (Bf k) (nf k) o = 3 ∧ (¬ Bf k (na_S (Bf k) (nf k) (pt_S (Bf k) (nf k) o 0)) = 91) ∧ ISc cnt (cq_F Bf nf cnt (Bf k) (nf k) o) := fun cl ct ub => by
    obtain ⟨a1, a2, a3⟩ := tr_cq X.rx d1 (by rw [d2]; exact Nk) hk cl (ctv_c (agd_c At) ct)
    rw [d2] at a3
    exact ⟨a1, a2, by rw [a3]; unfold ISc; omega⟩
  rcases W with ⟨y, W⟩ | ⟨y, W⟩ | ⟨y, W⟩ | ⟨y, ⟨w1, w2⟩, W⟩ | ⟨y, ⟨w1, w2⟩, W⟩ | ⟨y, W⟩ | ⟨y, w1, w2, W⟩ | ⟨y, w1, W⟩ | ⟨y, w1, w2, w3, W⟩ | ⟨y, w1, w2, w3, W⟩ | ⟨y, W⟩ | ⟨y, w1, W⟩ | ⟨y, w1, w2, W⟩ | ⟨y, w1, W⟩ | ⟨y, w1, W⟩ | ⟨y, w1, w2, W⟩ | ⟨y, w1, w2, W⟩ | ⟨y, w1, w2, W⟩ | ⟨y, w1, w2, W⟩ | ⟨y, w1, W⟩ | ⟨y, W⟩ | ⟨y, W⟩ | ⟨y, W⟩ | ⟨y, W⟩ | ⟨y, w1, W⟩ | ⟨y, w1, W⟩ | ⟨y, w1, W⟩ | ⟨y, w1, W⟩ | ⟨y, w1, W⟩ | ⟨y, w1, W⟩
  · rcases y with y | y
    · exact js_0 S X y
    · have jm : jmp_T op := .inr (.inr ⟨by omega, by omega⟩)
      exact js_j S (hp2 (jh jm)) X jm ⟨fun w => by omega, fun _ w => by omega⟩
  · exact js_1 S X y W
  · by_cases y16 : op = 16
    · exact js_16 S X y16 W
    by_cases y18 : op = 18
    · have wd := wd_w2 op (by omega)
      have s2 := RG.1 y18
      rw [eo2 wd] at s2
      exact js_18 S X y18 (tr_t d1 W1 hk s2) W
    · exact js_2 S X (by omega) W
  · have wd := wd_w2 op (by omega)
    rw [eo2 wd] at w1
    exact js_21 S X (.inl y) (by omega) W
  · have wd := wd_w2 op (by omega)
    rw [eo2 wd] at w1
    exact js_21 S X (.inr y) (by omega) W
  · have yy : op = 54 ∨ op = 58 := by
      rcases y with ⟨y, _⟩ | ⟨y, _⟩
      · exact .inl y
      · exact .inr y
    have wd := wd_w2 op (by omega)
    rw [eo2 wd] at W
    have w2 := W.2.1
    have w3 := W.2.2.1
    exact js_54 S X yy (by omega) (by omega)
  · have ps := ps_h X W
    obtain ⟨H, eH⟩ : ∃ H : Nat, B 254 t = ((H + 1 + 1 : Nat) : Int) := ⟨(B 254 t).toNat - 2, by omega⟩
    have cv := tvq X (y := 1) (by omega) (by omega)
    rw [show 60 * t + 30 + ((B 254 t).toNat - 1 - (1 : Int).toNat) = 60 * t + 30 + H by omega] at cv
    exact js_46 S X (.inl y) eH (fun z => cv_ref (by omega) cv z)
  · have ps : 2 ≤ B 254 t ∧ 2 ≤ tp (T ai) 1 := by
      rcases W with ⟨a, b⟩ | ⟨a, b⟩
      · have := ps_h X b; omega
      · have := ps_h X b; omega
    obtain ⟨H, eH⟩ : ∃ H : Nat, B 254 t = ((H + 1 + 1 : Nat) : Int) := ⟨(B 254 t).toNat - 2, by omega⟩
    have cv := tvq X (y := 1) (by omega) (by omega)
    rw [show 60 * t + 30 + ((B 254 t).toNat - 1 - (1 : Int).toNat) = 60 * t + 30 + H by omega] at cv
    exact js_46 S X (.inr y) eH (fun z => cv_ref ps.2 cv z)
  · have ps := po_h X W
    obtain ⟨H, eH⟩ : ∃ H : Nat, B 254 t = ((H + 1 + 1 + 1 : Nat) : Int) := ⟨(B 254 t).toNat - 3, by omega⟩
    have cv := tvq X (y := 2) (by omega) (by omega)
    rw [show 60 * t + 30 + ((B 254 t).toNat - 1 - (2 : Int).toNat) = 60 * t + 30 + H by omega] at cv
    exact js_79 S X (.inl y) eH (fun z => ⟨cv_ref (by omega) cv z, fun w => absurd w (by omega)⟩) (fun w => absurd w (by omega))
  · have ps := po_h X W
    obtain ⟨H, eH⟩ : ∃ H : Nat, B 254 t = ((H + 1 + 1 + 1 : Nat) : Int) := ⟨(B 254 t).toNat - 3, by omega⟩
    have cv := tvq X (y := 2) (by omega) (by omega)
    rw [show 60 * t + 30 + ((B 254 t).toNat - 1 - (2 : Int).toNat) = 60 * t + 30 + H by omega] at cv
    have cw := tvq X (y := 0) (by omega) (by omega)
    rw [show 60 * t + 30 + ((B 254 t).toNat - 1 - (0 : Int).toNat) = 60 * t + 30 + (H + 1 + 1) by omega] at cw
    refine js_79 S X (.inr y) eH (fun z => ⟨cv_ref (by omega) cv z, fun _ => ?_⟩) (fun _ z => cv_ref w1 cw z)
    rcases cv with q | q | q | ⟨q0, q⟩
    · exfalso; omega
    · exfalso; omega
    · exact absurd q z
    · rcases q with q | ⟨x, x0, q1, q2⟩ | ⟨x, x0, q1, q2, q3⟩
      · exfalso; omega
      · exfalso; omega
      · exact q2
  · exact js_87 S X y (by have := po_h X W; omega)
  · have ps := ps_h X W
    exact js_89 S X y (by omega) (by omega)
  · exact js_a S X y (by have := ps_h X W; omega)
  · exact js_116 S X y (by have := ps_h X W; omega)
  · have po := po_h X W
    by_cases y6 : op = 186
    · exact js_186 S X y6 (by omega) pr
    · have jm : jmp_T op := by unfold jmp_T; omega
      exact js_j S (hp2 (jh jm)) X jm ⟨fun _ => by omega, fun _ _ => by omega⟩
  · have po := po_h X W
    have jm : jmp_T op := by unfold jmp_T; omega
    exact js_j S (hp2 (jh jm)) X jm ⟨fun _ => by omega, fun _ _ => by omega⟩
  · have po := po_h X W
    have jm : jmp_T op := by unfold jmp_T; omega
    exact js_j S (hp2 (jh jm)) X jm ⟨fun _ => by omega, fun _ _ => by omega⟩
  · have po := po_h X W
    exact js_172 S X (.inl y) (fun _ => by omega) (.inr ⟨by omega, by omega⟩) (fun w => absurd w (by omega))
  · have po := po_h X W
    have gt : GTs g0 tt := by
      obtain ⟨⟨m, L, q', bd⟩, _⟩ := X.2.1
      have := ktv_rg bd.1.2.1 bd.2.2.1.2.2.2.2
      exact gts_c (agd_sy bd.1.1) this
    have cv := tvg hn X (y := 0) (by omega) (by omega) w2 gt
    rw [show (0 : Int).toNat = 0 from rfl, Nat.sub_zero] at cv
    exact js_172 S X (.inr (.inl y)) (fun _ => by omega) (.inr ⟨by omega, by omega⟩) (fun _ z => cv_ref w1 cv z)
  · exact js_172 S X (.inr (.inr y)) (fun w => absurd y w) (.inl ⟨y, w1⟩) (fun w => absurd w (by omega))
  · have wd := wd_w2 op (by omega)
    obtain ⟨uu, bb, j, ty, mr0, tk, G, ps⟩ := W
    rw [eo2 wd] at mr0 tk
    have p1 := ps_h X ps
    have mr := mrf_c At mr0
    have ub := mr0.2.1.1
    obtain ⟨H, eH⟩ : ∃ H : Nat, B 254 t = ((H + 1 : Nat) : Int) := ⟨(B 254 t).toNat - 1, by omega⟩
    have cv := tvg hn X (y := 0) (by omega) (by omega) G ⟨by omega, by omega⟩
    rw [show 60 * t + 30 + ((B 254 t).toNat - 1 - (0 : Int).toNat) = 60 * t + 30 + H by omega] at cv
    exact js_180 hn S X y eH mr tk cv
  · have wd := wd_w2 op (by omega)
    obtain ⟨uu, bb, j, ty, mr0, tk, _, G, ps⟩ := W
    rw [eo2 wd] at mr0 tk
    have p1 := po_h X ps
    have mr := mrf_c At mr0
    have ub := mr0.2.1.1
    obtain ⟨H, eH⟩ : ∃ H : Nat, B 254 t = ((H + 1 + 1 : Nat) : Int) := ⟨(B 254 t).toNat - 2, by omega⟩
    have cv := tvg hn X (y := 1) (by omega) (by omega) G ⟨by omega, by omega⟩
    rw [show 60 * t + 30 + ((B 254 t).toNat - 1 - (1 : Int).toNat) = 60 * t + 30 + H by omega] at cv
    exact js_181 hn S X y eH mr tk cv
  · have wd := wd_w2 op (by omega)
    obtain ⟨uu, bb, j, m, L, q, tc, ⟨mr0, _⟩, tk0, _, us⟩ := W
    rw [eo2 wd] at mr0 tk0
    have mr := mrf_c At mr0
    have ub := mr0.2.1.1
    have tk := tkv_c (agd_c At) tk0
    have m6 := tk.1
    refine js_182 hn S X y mr tk ?_ (fun y2 => ?_)
    · rcases us with ⟨z, us⟩ | ⟨z, _, us⟩
      · rw [if_pos z]
        rcases us with us | us
        · have := po_h X us.2; omega
        · have := ps_h X us.2; omega
      · rw [if_neg z]
        rcases us with us | us
        · have := po_h X us.2; omega
        · have := ps_h X us.2; omega
    · rcases us with ⟨z, us⟩ | ⟨z, G, us⟩
      · exfalso; omega
      · have ml : m < B 254 t := by
          rcases us with us | us
          · have := po_h X us.2; omega
          · have := ps_h X us.2; omega
        have e := rtp_go hn X (y := m) (by omega) (by rw [Int.toNat_natCast]; exact ml) G ⟨by omega, by omega⟩
        rw [Int.toNat_natCast] at e
        exact e
  · have wd := wd_w2 op (by omega)
    obtain ⟨uu, ⟨ub, cl, ct⟩, ps⟩ := W
    rw [eo2 wd] at cl ct
    obtain ⟨a1, a2, a3⟩ := CK cl ct ub
    exact js_187 hn S X y ps a1 a2 a3
  · have p1 := ps_h X W
    exact js_188 (H := (B 254 t).toNat - 1) S X (.inl y) (by omega) (fun w => absurd w (by omega))
  · have wd := wd_w2 op (by omega)
    obtain ⟨uu, ⟨ub, cl, ct⟩, ps⟩ := W
    rw [eo2 wd] at cl ct
    have p1 := ps_h X ps
    exact js_188 (H := (B 254 t).toNat - 1) S X (.inr y) (by omega) (fun _ => CK cl ct ub)
  · have p1 := ps_h X W
    have cv := tvq X (y := 0) (by omega) (by omega)
    rw [show (0 : Int).toNat = 0 from rfl, Nat.sub_zero] at cv
    exact js_190 S X y (by omega) (fun z => cv_ref (by omega) cv z)
  · have p1 := po_h X W
    have g8 := e98
    have cv := tvg hn X (y := 0) (by omega) (by omega) w1 ⟨by omega, by omega⟩
    rw [show (0 : Int).toNat = 0 from rfl, Nat.sub_zero] at cv
    refine js_191 S X y (by omega) (fun z => ?_)
    have c1 := cv_ref (by omega) cv z
    refine ⟨c1.1, c1.2, ?_⟩
    rcases cv with q | q | q | ⟨q0, q⟩
    · exfalso; omega
    · exfalso; omega
    · exact absurd q z
    · rcases q with q | ⟨x, x0, q1, q2⟩ | ⟨x, x0, q1, q2, q3⟩
      · exfalso; omega
      · rcases q2 with q2 | q2
        · exfalso; omega
        · exact q2.1
      · exfalso; omega
  · have wd := wd_w2 op (by omega)
    obtain ⟨uu, ⟨ub, cl, ct⟩, ps⟩ := W
    rw [eo2 wd] at cl ct
    obtain ⟨a1, a2, a3⟩ := CK cl ct ub
    have p1 := ps_h X ps
    obtain ⟨H, eH⟩ : ∃ H : Nat, B 254 t = ((H + 1 : Nat) : Int) := ⟨(B 254 t).toNat - 1, by omega⟩
    have cv := tvq X (y := 0) (by omega) (by omega)
    rw [show 60 * t + 30 + ((B 254 t).toNat - 1 - (0 : Int).toNat) = 60 * t + 30 + H by omega] at cv
    exact js_192 S X (.inl y) eH (fun z => cv_ref w1 cv z) a1 a2 a3
  · have wd := wd_w2 op (by omega)
    obtain ⟨uu, ⟨ub, cl, ct⟩, ps⟩ := W
    rw [eo2 wd] at cl ct
    obtain ⟨a1, a2, a3⟩ := CK cl ct ub
    have p1 := ps_h X ps
    obtain ⟨H, eH⟩ : ∃ H : Nat, B 254 t = ((H + 1 : Nat) : Int) := ⟨(B 254 t).toNat - 1, by omega⟩
    have cv := tvq X (y := 0) (by omega) (by omega)
    rw [show 60 * t + 30 + ((B 254 t).toNat - 1 - (0 : Int).toNat) = 60 * t + 30 + H by omega] at cv
    exact js_192 S X (.inr y) eH (fun z => cv_ref w1 cv z) a1 a2 a3
end
end
section
/- RUN: THE LOOPS OF BOTH MACHINES -/
section
variable {nn : Nat} {Bf : Nat → Nat → Int} {nf : Nat → Nat} {cnt : Int} {k i t H d : Nat} {A B g r u z h g0 : ms_M} {ω : Int → ms_M} {x P n : Int}
theorem jt_step (hn : 1000000 ≤ nn) (E : ENa Bf nf cnt A B) (R : RRd Bf nf cnt A B (t + 1)) (T : TPA Bf nf cnt A B t k i) (th : A 143 20 = 0) (X : RX nn ω g0 B) (Q : RUN1 nn g0 ω B) (pr : 0 ≤ B 160 143 ∧ B 160 143 ≤ 2000000000) : Pc (qf_X5_step nn A) (fun g => Pc (qf_X13_step nn B) (STQ nn Bf nf cnt t B g)) := by
  obtain ⟨hd, HP, tt, ⟨c, kk, N, Tt, U, a, p, AT, C⟩, S⟩ := Q
  have b149 := R.1.2.2.2.2
  have d60 := R.2.1
  have et : B 160 149 - 1 = (t : Int) := by omega
  rw [et] at AT C S
  have a1 := AT.2.2.1
  rw [Int.toNat_natCast, T.2.1.1, T.2.1.2] at a1
  have ec : c = (k : Int) := by omega
  have ek : kk = (i : Int) := by omega
  subst ec
  subst ek
  have Y : RTP nn g0 ω B (t : Int) (k : Int) (i : Int) N Tt U tt a p := ⟨⟨X, HP, by omega, by omega, by omega⟩, AT, C, S⟩
  obtain ⟨hk, hi, e134, p1500, BY⟩ := tr_op X E.2.1.1 AT
  have ins := Y.ins
  have il : bp (ω (k : Int)) (p 160 134) a + WD (ω (k : Int) 238 (p 160 134 + bp (ω (k : Int)) (p 160 134) a).toNat) ≤ p 160 135 := ins.2.2
  have e3 := Y.e3
  rw [Int.toNat_natCast] at e3
  obtain ⟨n1, n2, n3, RG, W, _⟩ := Y.nd
  obtain ⟨P, eP⟩ : ∃ P : Nat, bp (ω (k : Int)) (p 160 134) a = (P : Int) := ⟨(bp (ω (k : Int)) (p 160 134) a).toNat, by omega⟩
  rw [eP] at il e3 RG W ins
  have b0 := BY P (by omega)
  have b1 := BY (P + 1) (by omega)
  rw [b0.1] at il RG W ins
  generalize eop : Bf k (ma_S (Bf k) (nf k) i + 7 + P) = op at *
  have f := (rr_fra R (t := t) (by omega)).2.1
  have CS : CSt Bf nf A k i t P op (Bf k (ma_S (Bf k) (nf k) i + 7 + P + 1)) := ⟨⟨E.1.1, by have := E.1.2.1; have := E.2.1.2; omega⟩, T.1, by omega, by omega, b1.2, eop.symm, rfl⟩
  have RS : RSt Bf nf B k i t P op (Bf k (ma_S (Bf k) (nf k) i + 7 + P + 1)) := ⟨⟨E.2.1.1, hk, hi⟩, ⟨by omega, T.2.1.1, T.2.1.2⟩, by omega, e3, b1.2, eop.symm, rfl⟩
  have ob := (E.2.1.1.2 k hk).1.2.2.2 (ma_S (Bf k) (nf k) i + 7 + P + 1) b1.2
  refine js_go hn ⟨E, R, th, CS, RS⟩ Y pr (fun w3 => ?_) ob.1 (fun w2 => ?_) RG W
  · exact (BY (P + 2) (by omega)).2
  · unfold opd
    rw [b0.1, w2, if_neg (by omega), show p 160 134 + ((P : Int) + 1) = p 160 134 + ((P + 1 : Nat) : Int) by omega, b1.1]
    all_goals rfl
/-- where the frames stand -/
theorem stk_pl (V : VS_ B) : ∀ (d : Nat) (u : Int), d ≤ 60 → STK nn g0 ω B d u → ∀ j : Nat, j < d → 0 ≤ B 253 j ∧ B 253 j ≤ 10000 := by
  intro d
  induction d with
  | zero => intro u _ _ j hj; exact absurd hj (by omega)
  | succ d ih =>
    intro u hd S j hj
    obtain ⟨t2, L, S2⟩ := S
    have l := (lof_r V L (by omega)).1
    by_cases jd : j = d
    · rw [jd]; omega
    · exact ih t2 (by omega) S2 j (by omega)
theorem run_pl (X : RX nn ω g0 B) (Q : RUN1 nn g0 ω B) (e : B 160 149 = (t : Int) + 1) : ∀ j : Nat, j < t + 1 → 0 ≤ B 253 j ∧ B 253 j ≤ 10000 := fun j hj => by
  obtain ⟨hd, HP, tt, ⟨c, kk, N, Tt, U, a, p, AT, C⟩, S⟩ := Q
  have et : B 160 149 - 1 = (t : Int) := by omega
  rw [et] at AT C S
  rw [Int.toNat_natCast] at S
  by_cases jt : j = t
  · have Y : RTP nn g0 ω B (t : Int) c kk N Tt U tt a p := ⟨⟨X, HP, by omega, by omega, by omega⟩, AT, C, by rw [Int.toNat_natCast]; exact S⟩
    have e3 := Y.e3
    rw [Int.toNat_natCast] at e3
    have ins := Y.ins
    have cd := (mc_code Y.mc).1
    rw [jt]; omega
  · exact stk_pl X.2.2.1 t tt (by omega) S j (by omega)
theorem rnx_st (R : RNX Bf nf cnt A B) : RNX Bf nf cnt (up_M A 143 3 x) (up_M B 160 140 x) := by
  rcases R with ⟨d, k, i, R, T⟩ | ⟨e1, ⟨e2, e3, e4, e5⟩, e6, e7, e8⟩
  · refine .inl ⟨d, k, i, ?_, tpa_k T (fun c j w => up_n (by omega)) (fun x j w => up_n (by omega))⟩
    obtain ⟨⟨⟨a1, a2⟩, ⟨a3, a4⟩, a5, a6, a7⟩, d60, F, E, Pr⟩ := R
    refine ⟨⟨⟨?_, ?_⟩, ⟨?_, ?_⟩, ?_, ?_, ?_⟩, d60, fun j hj => fra_k (F j hj) (up_n (by omega)) (up_n (by omega)) (up_n (by omega)) (fun n hn => up_n (by omega)) (fun n hn => up_n (by omega)) (up_n (by omega)) (up_n (by omega)) (up_n (by omega)) (up_n (by omega)) (fun n hn => up_n (by omega)), hpa_k E (fun x q => up_n (by omega)) (fun c x q1 q2 => up_n (by omega)) (fun x q => up_n (by omega)) (fun c x q1 q2 => up_n (by omega)), pra_k Pr (up_n (by omega)) (fun x => up_n (by omega)) (up_n (by omega)) (fun x => up_n (by omega))⟩
    · rw [up_n (by omega)]; exact a1
    · rw [up_n (by omega)]; exact a2
    · rw [up_n (by omega)]; exact a3
    · rw [up_n (by omega)]; exact a4
    · rw [up_s, up_s]
    · rw [up_n (by omega)]; exact a6
    · rw [up_n (by omega)]; exact a7
  · refine .inr ⟨?_, ⟨?_, ?_, ?_, ?_⟩, pra_k e6 (up_n (by omega)) (fun x => up_n (by omega)) (up_n (by omega)) (fun x => up_n (by omega)), ?_, ?_⟩
    · rw [up_n (by omega), up_n (by omega)]; exact e1
    · rw [up_s, up_s]
    · rw [up_n (by omega), up_n (by omega)]; exact e3
    · rw [up_n (by omega), up_n (by omega)]; exact e4
    · rw [up_n (by omega), up_n (by omega)]; exact e5
    · rw [up_n (by omega), up_n (by omega), up_n (by omega)]; exact e7
    · rw [up_n (by omega), up_n (by omega)]; exact e8
theorem rnx_a3 (R : RNX Bf nf cnt A B) : A 143 3 = B 160 140 ∧ A 143 1 = B 160 138 := by
  rcases R with ⟨d, k, i, R, T⟩ | ⟨e1, ⟨e2, e3, e4, e5⟩, e6, e7, e8⟩
  · exact ⟨R.1.2.2.1, by rw [R.1.1.1, R.1.1.2]⟩
  · exact ⟨e2, e1.1⟩
/-- what run leaves -/
def RNO (Bf : Nat → Nat → Int) (nf : Nat → Nat) (cnt : Int) (u v : Int × ms_M) : Prop := u.1 = v.1 ∧ RNX Bf nf cnt u.2 v.2 ∧ u.2 143 20 = 0
theorem jt_loop (hn : 1000000 ≤ nn) (hP : 0 ≤ P ∧ P ≤ 1900000000) (hnn : n ≤ 20000) : ∀ (f1 f2 : Nat) (l : Int) (A B : ms_M), ENa Bf nf cnt A B → RNX Bf nf cnt A B → A 143 20 = 0 → VS_ B → (B 160 138 = 1 → RGO nn B) → (0 ≤ l ∧ l ≤ 20000) → (0 ≤ B 160 143 ∧ B 160 143 ≤ P + l) → Pc (qw_X5_go_2 nn f1 n l A) (fun u => Pc (qw_X13_run_16 nn f2 n l B) (RNO Bf nf cnt u)) := by
  intro f1
  induction f1 with
  | zero => intro f2 l A B _ _ _ _ _ _ _; exact pc_none
  | succ f1 ih =>
    intro f2 l A B E R th V G hl hpr
    have a3 := rnx_a3 R
    have FIN : Pc (qj_X5_go_66 nn l A) (fun u => Pc (qj_X13_run_39 nn l B) (RNO Bf nf cnt u)) := by
      unfold qj_X5_go_66 qj_X13_run_39
      refine pc_xl ?_; intro v2 e2
      refine pc_xl ?_; intro h3 e3
      refine pc_ret (pc_xl (fun w2 f2 => pc_xl (fun k3 f3 => pc_ret ?_)))
      rw [← a3.1, ← e2] at f2
      rw [f2] at f3
      refine ⟨rfl, ?_, ?_⟩
      · show RNX Bf nf cnt h3 k3
        rw [e3, f3]; exact rnx_st R
      · show h3 143 20 = 0
        rw [e3, up_n (by omega)]; exact th
    unfold qw_X5_go_2
    cases f2 with
    | zero =>
      refine pc_tw ?_
      exact pc_none
    | succ f2 =>
      unfold qw_X13_run_16
      by_cases nl : n ≤ l
      · rw [if_pos nl, if_pos nl]; exact FIN
      rw [if_neg nl, if_neg nl]
      by_cases s1 : A 143 1 = 1
      · have s2 : B 160 138 = 1 := by omega
        rw [if_neg (show ¬ ¬ A 143 1 = 1 from fun w => w s1), if_neg (show ¬ ¬ B 160 138 = 1 from fun w => w s2)]
        obtain ⟨ω, g0, X, Q⟩ := G s2
        rcases R with ⟨t, k, i, R, T⟩ | ⟨e1, _⟩
        · have b149 := R.1.2.2.2.2
          have d60 := R.2.1
          refine pc_se ?_; intro g eg
          have JG := jt_step hn E R T th X Q (by omega) g eg
          have FG := (ff_X5_step nn) _ eg
          refine pc_tw ?_
          refine pc_se ?_; intro r er
          have ST := JG r er
          obtain ⟨r', er', V', F', pr', Q'⟩ := s_step hn X Q (by omega)
          have err : r' = r := Option.some.inj (er'.symm.trans er)
          subst err
          refine pc_add (by omega) ?_; intro v7 e7
          rw [e7]
          refine pc_tw ?_
          have Eg : ENa Bf nf cnt g B := en_k E (fun c j _ w => FG c j (nw_143 rfl w)) (fun _ _ _ _ => rfl) rfl
          have g141 := gF_160_141 V
          have g142 := gF_160_142 V
          refine jt_aft ST Eg (by omega) (run_pl X Q (by omega)) g141 g142 (by omega) (fun g' RN F th' => ?_)
          refine ih f2 (l + 1) g' r' (en_k Eg (fun c j _ w => F c j w) (fun x j w1 w2 => F' x j (by omega) (by omega)) (F' 160 98 (by omega) (by omega))) RN th' V' (fun w => ⟨ω, g0, rx_n F' V' X, Q' w⟩) (by omega) (by omega)
        · exfalso; omega
      · have s2 : ¬ B 160 138 = 1 := by omega
        rw [if_pos (show ¬ A 143 1 = 1 from s1), if_pos (show ¬ B 160 138 = 1 from s2)]; exact FIN
/-- RUN: the same answer -/
theorem jt_run (hn : 1000000 ≤ nn) (hP : 0 ≤ P ∧ P ≤ 1900000000) (E : ENa Bf nf cnt A B) (R : RNX Bf nf cnt A B) (th : A 143 20 = 0) (V : VS_ B) (G : B 160 138 = 1 → RGO nn B) (hpr : 0 ≤ B 160 143 ∧ B 160 143 ≤ P) : Pc (qf_X12_run nn n A) (fun u => Pc (qf_X13_run nn n B) (RNO Bf nf cnt u)) := by
  unfold qf_X12_run qf_X13_run
  by_cases n1 : n < 1
  · rw [if_pos n1, if_pos n1]; exact pc_ret (pc_ret ⟨rfl, R, th⟩)
  rw [if_neg n1, if_neg n1]
  by_cases n2 : n ≤ 20000
  · rw [if_pos n2, if_pos n2]
    unfold qf_X5_go
    exact pc_sv (jt_loop hn hP n2 nn nn 0 A B E R th V G (by omega) (by omega)) (fun u q => pc_ret q)
  · rw [if_neg n2, if_neg n2]; exact pc_ret (pc_ret ⟨rfl, R, th⟩)
end
end
