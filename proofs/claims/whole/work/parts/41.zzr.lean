/- RUN: a method ends -/
section
variable {nn : Nat} {Bf : Nat → Nat → Int} {nf : Nat → Nat} {cnt : Int} {k i t P H d : Nat} {A B g r u z p h w A1 B1 g0 f : ms_M} {ω : Int → ms_M} {op o v wd c kk tt ty x y a e s uu bb j q L : Int} {N ai : Nat} {T U : Nat → ms_M}
/-- the uppermost method is taken -/
theorem rc_top (S : CSw Bf nf h) (hk : (k : Int) < h 56 3) (hi : (i : Int) < mc_S (Bf k) (nf k)) (hd : h 143 6 = (t : Int) + 1) (t60 : t < 60) (e148 : h 148 t = (k : Int) * 12 + (i : Int)) : Pc (qf_X5_takeTop nn h) (fun g => (∀ c j : Nat, ¬ (c = 143 ∧ (j = 17 ∨ j = 18 ∨ j = 19)) → g c j = h c j) ∧ g 143 17 = (t : Int) ∧ g 143 18 = h 60 k ∧ g 143 19 = ((ma_S (Bf k) (nf k) i + 7 : Nat) : Int)) := by
  have k8 := S.1.1
  have m12 := ((cg_im (S.1.2 k hk)).1).2.2.1
  unfold qf_X5_takeTop
  rw [hd]
  refine pc_sub (by omega) ?_; intro v2 e2
  refine pc_xl ?_; intro w3 e3
  have e3 : w3 = (t : Int) := by
    rw [e3]
    split <;> omega
  refine pc_xl ?_; intro h4 e4
  have s4 : h4 143 17 = (t : Int) := by rw [e4, up_s]; exact e3
  rw [s4]
  refine pc_rA ?_; intro _ _ v8 e8
  rw [Int.toNat_natCast, e4, up_n (by omega), e148] at e8
  have F4 : ∀ x j : Nat, ¬ (x = 143 ∧ j = 17) → h4 x j = h x j := fun x j z => by rw [e4, up_n z]
  have S4 : CSw Bf nf h4 := csw_r S (fun x j _ w => F4 x j (by omega))
  have c4 : h4 56 3 = h 56 3 := F4 56 3 (by omega)
  rw [e8]
  refine pc_sv (vc_iom S4.1 (d := 8 + (k : Int)) (j := i) (by omega) (by omega) (by omega)) ?_; intro u10 ⟨q10, p10⟩
  rw [show (8 + (k : Int) - 8).toNat = k by omega, F4 60 k (by omega)] at q10
  refine pc_if (fun w => absurd w (by omega)) (fun _ => ?_)
  refine pc_wR ?_; intro h14 e14
  have s14 : h14 143 18 = h 60 k := by rw [e14, up_s]; omega
  have F14 : ∀ x j : Nat, ¬ (x = 143 ∧ j = 18) → h14 x j = h4 x j := fun x j z => by rw [e14, up_n z]
  rw [s14]
  refine pc_ck (fun _ => ?_)
  rw [F14 143 17 (by omega), s4]
  refine pc_rA ?_; intro _ _ v18 e18'
  rw [Int.toNat_natCast, F14 148 t (by omega), e4, up_n (by omega), e148] at e18'
  refine pc_xl ?_; intro v19 e19
  rw [Int.tmod_eq_emod_of_nonneg (by omega)] at e19
  refine pc_ck (fun _ => ?_)
  have S14 : CSw Bf nf h14 := csw_r S4 (fun x j _ w => F14 x j (by omega))
  have c14 : h14 56 3 = h 56 3 := (F14 56 3 (by omega)).trans c4
  have X := S14.1.2 k (by omega)
  rw [F14 60 k (by omega), F4 60 k (by omega)] at X
  have MD := ((cg_im X).2.2.2 i hi).2.1.2
  rw [show v19 = (i : Int) by omega]
  refine pc_sv (vq_of X hi (w := 6) (by omega) MD) ?_; intro u21 q21
  refine pc_xl ?_; intro h22 e22
  refine pc_ret ⟨fun x j z => ?_, ?_, ?_, ?_⟩
  · rw [e22, up_n (by omega), F14 x j (by omega), F4 x j (by omega)]
  · rw [e22, up_n (by omega), F14 143 17 (by omega)]; exact s4
  · rw [e22, up_n (by omega)]; exact s14
  · rw [e22, up_s]; exact q21
/-- what is known of a frame that waits -/
theorem lof_r {t2 u : Int} {d : Nat} (V : VS_ B) (L : LOWF nn g0 ω B (d : Int) u t2) (d60 : d < 60) : (0 ≤ B 253 d ∧ B 253 d ≤ 1500) ∧ 0 ≤ B 254 d ∧ (¬ u = 0 → B 254 d < 30) := by
  obtain ⟨c, kk, N, T, U, a, p, n, A, ⟨_, us⟩, _, e254, _⟩ := L
  obtain ⟨⟨m, L, q, bd⟩, _, _, aN, e3⟩ := A
  have nd := bd.2.2.2.2.2.2.2 a aN
  have ins := bd.2.1.2 a aN
  have cd := (mc_code bd.1.2.2).1
  have e130 := nd.1.1 160 130 (by decide) (by decide)
  have m30 := (mc_30 bd.1.2.2).2
  rw [Int.toNat_natCast] at e254 e3
  have v := (gA_254 V d (by omega)).1
  refine ⟨by omega, v, fun u0 => ?_⟩
  rcases us with us | us
  · exact absurd us.1 u0
  · have := us.2.2.2.2.1
    omega
/-- one frame less on both sides -/
theorem rr_pop1 (R : RRd Bf nf cnt A B (d + 1)) (C : ∀ c j : Nat, ¬ (c = 143 ∧ (j = 6 ∨ j = 17 ∨ j = 18 ∨ j = 19 ∨ j = 20)) → ¬ (c = 150 ∧ j = d) → A1 c j = A c j) (C6 : A1 143 6 = (d : Int)) (D : ∀ x j : Nat, ¬ (x = 160 ∧ (j = 121 ∨ j = 149)) → ¬ (x = 254 ∧ j = d) → B1 x j = B x j) (D6 : B1 160 149 = (d : Int)) : RRd Bf nf cnt A1 B1 d := by
  obtain ⟨⟨⟨a1, a2⟩, ⟨a3, a4⟩, a5, a6, a7⟩, d60, F, E, Pr⟩ := R
  refine ⟨⟨⟨?_, ?_⟩, ⟨?_, ?_⟩, ?_, C6, D6⟩, by omega, fun j hj => ?_, hpa_k E (fun x q => C 143 x (by omega) (by omega)) (fun c x q1 q2 => C c x (by omega) (by omega)) (fun x q => D 160 x (by omega) (by omega)) (fun c x q1 q2 => D c x (by omega) (by omega)), pra_k Pr (C 143 7 (by omega) (by omega)) (fun x => C 144 x (by omega) (by omega)) (D 160 143 (by omega) (by omega)) (fun x => D 250 x (by omega) (by omega))⟩
  · rw [C 143 1 (by omega) (by omega)]; exact a1
  · rw [D 160 138 (by omega) (by omega)]; exact a2
  · rw [C 143 2 (by omega) (by omega)]; exact a3
  · rw [D 160 139 (by omega) (by omega)]; exact a4
  · rw [C 143 3 (by omega) (by omega), D 160 140 (by omega) (by omega)]; exact a5
  · exact fra_k (F j (by omega)) (C 148 j (by omega) (by omega)) (C 149 j (by omega) (by omega)) (C 150 j (by omega) (by omega)) (fun n hn => C 151 _ (by omega) (by omega)) (fun n hn => C 152 _ (by omega) (by omega)) (D 251 j (by omega) (by omega)) (D 252 j (by omega) (by omega)) (D 253 j (by omega) (by omega)) (D 254 j (by omega) (by omega)) (fun n hn => D 255 _ (by omega) (by omega))
/-- from a state in the middle: no value comes -/
theorem fin_mn {t2 : Nat} (R1 : RRd Bf nf cnt A1 B1 (t2 + 1)) (T1 : TPA Bf nf cnt A1 B1 t2 k i) (th : A1 143 20 = 0) (C : CGN A1 g t2 H (A1 149 t2 + wd)) (D : RGN B1 r t2 H (B1 253 t2 + wd)) (hl : (H : Int) ≤ B1 254 t2) : STQ nn Bf nf cnt t B g r := by
  have e := (rr_fra R1 (t := t2) (by omega)).2.1.1
  rw [e] at C
  exact .inl ⟨C.2.2.1.trans th, .inl ⟨t2, k, i, jgn R1 (by omega) C D hl, tpa_k T1 (fun c j w => C.1 c j (by omega) (by omega) (by omega) (by omega)) (fun x j w => D.1 x j (by omega) (by omega) (by omega) (by omega))⟩⟩
theorem fin_mv {t2 : Nat} (R1 : RRd Bf nf cnt A1 B1 (t2 + 1)) (T1 : TPA Bf nf cnt A1 B1 t2 k i) (th : A1 143 20 = 0) (C : CGV A1 g t2 H v (A1 149 t2 + wd)) (D : RGV B1 r t2 H v (B1 253 t2 + wd)) (hl : (H : Int) ≤ B1 254 t2) : STQ nn Bf nf cnt t B g r := by
  have e := (rr_fra R1 (t := t2) (by omega)).2.1.1
  rw [e] at C
  exact .inl ⟨C.2.2.2.1.trans th, .inl ⟨t2, k, i, jgv R1 (by omega) C D hl, tpa_k T1 (fun c j w => C.1 c j (by omega) (by omega) (by omega) (by omega)) (fun x j w => D.1 x j (by omega) (by omega) (by omega) (by omega))⟩⟩
/-- behind the value -/
theorem jo_ret (S : SXc Bf nf cnt A B k i t P op o) (X : RTP nn g0 ω B (t : Int) c kk N T U tt ai p) (y : op = 172 ∨ op = 176 ∨ op = 177) (C : CPp A u t H) (D : RPp B z t H) (hl : (H : Int) ≤ B 254 t) (rt : (op = 177 ∧ v = 0 ∧ tt = 0) ∨ (¬ op = 177 ∧ ¬ tt = 0)) (cv : op = 176 → ¬ v = 0 → 1 ≤ v ∧ v ≤ B 160 141) : Pc (qj_X5_stepReturn_15 nn op v u) (fun g => Pc (qj_X13_back_15 nn op v z) (STQ nn Bf nf cnt t B g)) := by
  obtain ⟨qq, q4, q5, q6, q7, q8⟩ := sxc_p S
  have g141 := gF_160_141 X.vs
  obtain ⟨⟨c1, c2, c3⟩, ⟨d1, d2⟩, Nk, HG, _⟩ := S.1
  have R := S.2.1
  have th := S.2.2.1
  obtain ⟨⟨⟨a1, a2⟩, ⟨a3, a4⟩, a5, a6, a7⟩, d60, F, E, Pr⟩ := R
  have e6 : u 143 6 = (t : Int) + 1 := by rw [C.1 143 6 (by omega), a6]; omega
  have e149 : z 160 149 = (t : Int) + 1 := by rw [D.1 160 149 (by omega), a7]; omega
  unfold qj_X5_stepReturn_15 qj_X13_back_15
  rw [e6, e149]
  refine pc_sub (by omega) ?_; intro v2 e2
  refine pc_xl ?_; intro h3 e3
  refine pc_tw (pc_sub (by omega) ?_); intro v4 e4
  refine pc_xl ?_; intro h5 e5
  have s3 : h3 143 6 = (t : Int) := by rw [e3, up_s]; omega
  have s5 : h5 160 149 = (t : Int) := by rw [e5, up_s]; omega
  have F3 : ∀ c j : Nat, ¬ (c = 143 ∧ j = 6) → ¬ (c = 150 ∧ j = t) → h3 c j = A c j := fun c j w1 w2 => by rw [e3, up_n w1, C.1 c j w2]
  have F5 : ∀ x j : Nat, ¬ (x = 160 ∧ j = 149) → ¬ (x = 254 ∧ j = t) → h5 x j = B x j := fun x j w1 w2 => by rw [e5, up_n w1, D.1 x j w2]
  rw [s3, s5]
  by_cases t0 : t = 0
  · -- the first method ends
    rw [if_pos (show (t : Int) ≤ 0 by omega), if_pos (show (t : Int) ≤ 0 by omega)]
    refine pc_xl ?_; intro h7 e7
    refine pc_tw (pc_xl ?_); intro h6 e6'
    -- the end
    have FIN : ∀ (gv : Int) (m1 m2 : ms_M), (∀ c j : Nat, ¬ (c = 143 ∧ j = 2) → m1 c j = h6 c j) → m1 143 2 = gv → (∀ x j : Nat, ¬ (x = 160 ∧ j = 139) → m2 x j = h7 x j) → m2 160 139 = gv → STQ nn Bf nf cnt t B m1 m2 := fun gv m1 m2 M1 M2 M3 M4 => by
      have G1 : ∀ c j : Nat, ¬ (c = 143 ∧ (j = 1 ∨ j = 2 ∨ j = 6)) → ¬ (c = 150 ∧ j = t) → m1 c j = A c j := fun c j w1 w2 => by rw [M1 c j (by omega), e6', up_n (by omega), F3 c j (by omega) w2]
      have G2 : ∀ x j : Nat, ¬ (x = 160 ∧ (j = 138 ∨ j = 139 ∨ j = 149)) → ¬ (x = 254 ∧ j = t) → m2 x j = B x j := fun x j w1 w2 => by rw [M3 x j (by omega), e7, up_n (by omega), F5 x j (by omega) w2]
      have b1 : m1 143 1 = 2 := by rw [M1 143 1 (by omega), e6', up_s]
      have b2 : m2 160 138 = 2 := by rw [M3 160 138 (by omega), e7, up_s]
      refine .inl ⟨(G1 143 20 (by omega) (by omega)).trans th, .inr ⟨⟨by rw [b1, b2], by omega, by omega⟩, ⟨?_, ?_, ?_, ?_⟩, pra_k Pr (G1 143 7 (by omega) (by omega)) (fun x => G1 144 x (by omega) (by omega)) (G2 160 143 (by omega) (by omega)) (fun x => G2 250 x (by omega) (by omega)), fun _ => by rw [M2, M4], fun w1 w2 => absurd b1 w1⟩⟩
      · rw [G1 143 3 (by omega) (by omega), G2 160 140 (by omega) (by omega)]; exact a5
      · rw [G1 143 4 (by omega) (by omega), G2 160 141 (by omega) (by omega)]; exact E.1.1
      · rw [G1 143 5 (by omega) (by omega), G2 160 142 (by omega) (by omega)]; exact E.1.2
      · rw [M1 143 6 (by omega), e6', up_n (by omega), s3, M3 160 149 (by omega), e7, up_n (by omega), s5]
    by_cases y2 : op = 172
    · rw [if_neg (show ¬ ¬ op = 172 from fun n => n y2), if_neg (show ¬ ¬ op = 172 from fun n => n y2)]
      refine pc_xl ?_; intro h13 e13
      refine pc_ret (pc_xl (fun k13 f13 => pc_ret ?_))
      exact FIN v _ _ (fun c j w => by rw [e13, up_n w]) (by rw [e13, up_s]) (fun c j w => by rw [f13, up_n w]) (by rw [f13, up_s])
    · rw [if_pos (show ¬ op = 172 from y2), if_pos (show ¬ op = 172 from y2)]
      have iso := rc_iso (nn := nn) (B := B) (u := h6) (v := v) (by rw [e6', up_n (by omega), F3 143 4 (by omega) (by omega)]; exact E.1.1) (by omega) (by
        rcases y with y | y | y
        · exact absurd y y2
        · by_cases w : v = 0
          · exact .inl w
          · exact .inr (cv y w)
        · rcases rt with w | w
          · exact .inl w.2.1
          · exact absurd y w.1)
      refine pc_sv iso ?_; intro u7 q7'
      by_cases v0 : v = 0
      · rw [if_pos (show u7 = 0 by omega)]
        refine pc_xl ?_; intro h8 e8
        refine pc_ret ?_
        have Z : STQ nn Bf nf cnt t B h8 h7 := FIN (-1) _ _ (fun c j w => by rw [e8, up_n w]) (by rw [e8, up_s]) (fun _ _ _ => rfl) (by rw [e7, up_n (by omega), F5 160 139 (by omega) (by omega)]; exact a4)
        refine pc_if (fun _ => pc_ret Z) (fun _ => ?_)
        refine pc_if (fun _ => pc_ret Z) (fun w => absurd v0 w)
      · rw [if_neg (show ¬ u7 = 0 by omega)]
        have y6 : op = 176 := by
          rcases y with y | y | y
          · exact absurd y y2
          · exact y
          · rcases rt with w | w
            · exact absurd w.2.1 v0
            · exact absurd y w.1
        obtain ⟨⟨s1, s2, s3', s4⟩, _⟩ := sx_ob S X (cv y6 v0)
        refine pc_rA ?_; intro _ _ v10 e10
        rw [e6', up_n (by omega), F3 145 _ (by omega) (by omega), s2] at e10
        refine pc_xl ?_; intro h11 e11
        refine pc_ret ?_
        rw [if_neg (show ¬ ¬ op = 176 from fun n => n y6), if_neg v0]
        refine pc_sv (P := fun e => e = sr_T (B 246 v.toNat)) ?_ ?_
        · unfold qf_X13_told
          refine pc_rA ?_; intro _ _ w2 f2
          rw [e7, up_n (by omega), F5 246 _ (by omega) (by omega)] at f2
          refine pc_if (fun z9 => ?_) (fun z9 => pc_ret ?_)
          · refine pc_rA ?_; intro _ _ w4 f4
            rw [e7, up_n (by omega), F5 246 _ (by omega) (by omega)] at f4
            refine pc_ret ?_
            show w4 = _
            unfold sr_T
            rw [f4, if_neg (by omega)]
          · have : B 246 v.toNat = 99 := by omega
            show 200 = _
            unfold sr_T
            rw [if_pos this]
        intro u9 q9
        refine pc_xl ?_; intro h10 f10
        exact pc_ret (FIN (sr_T (B 246 v.toNat)) _ _ (fun c j w => by rw [e11, up_n w]) (by rw [e11, up_s, e10]) (fun c j w => by rw [f10, up_n w]) (by rw [f10, up_s, q9]))
  · -- the frame below goes on
    obtain ⟨d, ed⟩ : ∃ d : Nat, t = d + 1 := ⟨t - 1, by omega⟩
    rw [if_neg (show ¬ (t : Int) ≤ 0 by omega), if_neg (show ¬ (t : Int) ≤ 0 by omega)]
    have SK := X.st
    rw [Int.toNat_natCast, ed] at SK
    obtain ⟨t2, LW, _⟩ := SK
    have lr := lof_r X.vs LW (by omega)
    obtain ⟨⟨k2, i2, ⟨f1, f2⟩, ⟨f3, f4⟩, f5⟩, ⟨f6, f7⟩, f8, f9⟩ := F d (by omega)
    have CS3 : CSw Bf nf h3 := csw_r c1 (fun c j _ w => F3 c j (by omega) (by omega))
    refine pc_tw ?_
    refine pc_sv (rc_top (t := d) (k := k2) (i := i2) CS3 (by rw [F3 56 3 (by omega) (by omega), c2]; exact f3) f4 (by rw [s3]; omega) (by omega) (by rw [F3 148 d (by omega) (by omega)]; exact f5)) ?_
    intro u16 ⟨K1, K2, K3, K4⟩
    have G1 : ∀ c j : Nat, ¬ (c = 143 ∧ (j = 6 ∨ j = 17 ∨ j = 18 ∨ j = 19)) → ¬ (c = 150 ∧ j = t) → u16 c j = A c j := fun c j w1 w2 => by rw [K1 c j (by omega), F3 c j (by omega) w2]
    have R1 : RRd Bf nf cnt u16 h5 (d + 1) := by
      have RA := S.2.1
      rw [ed] at RA
      refine rr_pop1 RA (fun c j w1 w2 => G1 c j (by omega) (by omega)) ?_ (fun x j w1 w2 => F5 x j (by omega) (by omega)) ?_
      · rw [K1 143 6 (by omega), s3]; omega
      · rw [s5]; omega
    have T1 : TPA Bf nf cnt u16 h5 d k2 i2 := by
      refine ⟨⟨K2, ?_, K4⟩, ⟨by rw [F5 251 d (by omega) (by omega)]; exact f1, by rw [F5 252 d (by omega) (by omega)]; exact f2⟩, f3, f4⟩
      rw [K3, F3 60 k2 (by omega) (by omega), K1 60 k2 (by omega), F3 60 k2 (by omega) (by omega)]
    have th1 : u16 143 20 = 0 := (G1 143 20 (by omega) (by omega)).trans th
    obtain ⟨H2, eH2⟩ : ∃ H2 : Nat, B 254 d = (H2 : Int) := ⟨(B 254 d).toNat, by omega⟩
    have h254 : h5 254 d = (H2 : Int) := by rw [F5 254 d (by omega) (by omega)]; exact eH2
    have a149 : u16 149 d = B 253 d := by rw [G1 149 d (by omega) (by omega)]; exact f6
    have a150 : u16 150 d = (H2 : Int) := by rw [G1 150 d (by omega) (by omega), f7]; exact eH2
    have b253 : h5 253 d = B 253 d := F5 253 d (by omega) (by omega)
    by_cases y7 : op = 177
    · rw [if_pos y7]
      refine pc_sv (rc_gop (t := d) (H := H2) (w := 2) (cpp_rf a150) K2 (by rw [a149]; omega) (by omega)) ?_; intro u18 G
      refine pc_if (fun _ => pc_ret ?_) (fun w => absurd y7 w)
      unfold qj_X13_back_45
      refine pc_sv (rr_gop (t := d) (H := H2) (w := 2) (rpp_rf h254) (by rw [s5]; omega) (by omega) (by rw [b253]; omega) (by omega)) ?_; intro u2 G2
      exact pc_ret (fin_mn R1 T1 th1 G G2 (by omega))
    · rw [if_neg y7]
      have tn : ¬ tt = 0 := by
        rcases rt with w | w
        · exact absurd w.1 y7
        · exact w.2
      have l30 := lr.2.2 tn
      refine pc_sv (rc_gop (t := d) (H := H2) (w := 2) (cpp_rf a150) K2 (by rw [a149]; omega) (by omega)) ?_; intro u18 G
      refine pc_if (fun w => absurd w y7) (fun _ => ?_)
      obtain ⟨G1', ⟨G2', G3'⟩, G4', G5'⟩ := G
      refine pc_sv (rc_push (v := v) (t := d) (H := H2) (by rw [G1' 143 17 (by omega) (by omega) (by omega) (by omega)]; exact K2) (by omega) G3' (by omega)) ?_; intro u20 q20
      refine pc_ret ?_
      have GV : CGV u16 u20 d H2 v (u16 149 d + 2) := by
        refine ⟨fun c j w1 w2 w3 w4 => ?_, ⟨?_, ?_⟩, ?_, ?_, fun n hn => ?_⟩
        · rw [q20, up_n (by omega), up_n (by omega)]; exact G1' c j w1 w2 w3 w4
        · rw [q20, up_n (by omega), up_n (by omega)]; exact G2'
        · rw [q20, up_s]
        · rw [q20, up_n (by omega), up_s]
        · rw [q20, up_n (by omega), up_n (by omega)]; exact G4'
        · rw [q20, up_n (by omega), up_n (by omega)]; exact G5' n hn
      refine pc_imp (rr_gvp (t := d) (H := H2) (v := v) (w := 2) (rpp_rf h254) (by rw [s5]; omega) (by omega) (by omega) (by rw [b253]; omega) (by omega)) (fun r Rr => ?_)
      exact fin_mv R1 T1 th1 GV Rr (by omega)
theorem js_172 (S : SXc Bf nf cnt A B k i t P op o) (X : RTP nn g0 ω B (t : Int) c kk N T U tt ai p) (y : op = 172 ∨ op = 176 ∨ op = 177) (po : ¬ op = 177 → 1 ≤ B 254 t) (rt : (op = 177 ∧ tt = 0) ∨ (¬ op = 177 ∧ ¬ tt = 0)) (cv : op = 176 → ¬ B 255 (60 * t + 30 + ((B 254 t).toNat - 1)) = 0 → 1 ≤ B 255 (60 * t + 30 + ((B 254 t).toNat - 1)) ∧ B 255 (60 * t + 30 + ((B 254 t).toNat - 1)) ≤ B 160 141) : Pc (qf_X5_step nn A) (fun g => Pc (qf_X13_step nn B) (STQ nn Bf nf cnt t B g)) := by
  refine j_two (fun Q => cz_g172 S.2.2.2.1 y) (fun Q => rz_g172 S.2.2.2.2 y) ?_
  have h := rtp_h X
  have q := (sxc_p S).1
  unfold qj_X5_stepObject_179 qj_X13_step_1014
  refine pc_sv (P := fun g => Pc _ (STQ nn Bf nf cnt t B g)) ?_ (fun u q => pc_ret q)
  refine pc_tw (pc_sv (P := fun r => Pc _ (fun g => STQ nn Bf nf cnt t B g r)) ?_ (fun u q => pc_ret q))
  refine pc_tw ?_
  unfold qf_X5_stepReturn qf_X13_back
  by_cases y7 : op = 177
  · rw [if_neg (show ¬ ¬ op = 177 from fun n => n y7), if_neg (show ¬ ¬ op = 177 from fun n => n y7)]
    obtain ⟨c0, r0⟩ := sx_c0 S (H := (B 254 t).toNat) (by omega)
    refine jo_ret S X y c0 r0 (by omega) ?_ (fun w => absurd w (by omega))
    rcases rt with w | w
    · exact .inl ⟨w.1, rfl, w.2⟩
    · exact .inr w
  · rw [if_pos (show ¬ op = 177 from y7), if_pos (show ¬ op = 177 from y7)]
    have po := po y7
    generalize eH : (B 254 t).toNat - 1 = H at cv
    obtain ⟨c0, r0⟩ := sx_c0 S (H := H + 1) (by omega)
    have vv := sx_v S (H := H) (by omega) (by omega)
    refine pc_sv (rc_pp c0 q.1 q.2.2 (by omega)) ?_; intro u1 ⟨v1, C1⟩
    refine pc_tw (pc_sv (rr_pp r0 q.2.1 q.2.2 (by omega)) ?_); intro u2 ⟨v2, D1⟩
    have ev : u2.1 = u1.1 := by rw [v1, v2, vv]
    rw [← v2, ev] at cv
    rw [ev]
    refine pc_tw ?_
    refine jo_ret S X y C1 D1 (by omega) ?_ cv
    rcases rt with w | w
    · exact absurd w.1 y7
    · exact .inr w
end
