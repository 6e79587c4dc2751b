section
variable {nn : Nat} {h g r z w v x f R p : ms_M} {c d e k : Int} {ω : Int → ms_M} {N : Nat} {T U : Nat → ms_M} {i t : Int} {a : Nat}
theorem prn_p {f l : Nat → Int} {a b n : Int} (E : EB f l a b n) : ∀ (j : Nat) (m q : Int), 0 ≤ m → q ≤ n → PRn f j (a + m) (a + q) → PRn l j (b + m) (b + q) := by
  intro j
  induction j with
  | zero => intro m q m0 q0 y; have y : a + m = a + q := y; show b + m = b + q; omega
  | succ j ih =>
    intro m q m0 q0 y
    obtain ⟨e, y1, y2⟩ := y
    have lt := kd_lt y1
    have le := pr_le _ _ _ y2
    obtain ⟨e', ee⟩ : ∃ e' : Int, e = a + e' := ⟨e - a, by omega⟩
    rw [ee] at y1 y2
    exact ⟨b + e', kd_p E m0 (by omega) y1, ih _ _ (by omega) q0 y2⟩
theorem mkn_p {f l : Nat → Int} {a b n : Int} {m : Nat} (E : EB f l a b n) (K : MKn f m a (a + n)) : MKn l m b (b + n) := by
  obtain ⟨k0, q, k1, k2, k3⟩ := K
  have le := pr_le _ _ _ k1
  have lt : q + 1 < a + n := by
    rcases k3 with y | y
    · omega
    · have := kd_lt y; omega
  obtain ⟨q', eq⟩ : ∃ q' : Int, q = a + q' := ⟨q - a, by omega⟩
  rw [eq] at k1 k2 k3
  rw [show a + q' + 1 = a + (q' + 1) by omega] at k3
  refine ⟨?_, b + q', prn_p E _ _ _ (by omega) (by omega) k1, ?_, ?_⟩
  · have := E 0 (by omega) (by omega)
    rw [show a + 0 = a by omega, show b + 0 = b by omega] at this
    rw [← this]; exact k0
  · rw [← E q' (by omega) (by omega)]; exact k2
  · rw [show b + q' + 1 = b + (q' + 1) by omega]; exact rtk_p E (by omega) (by omega) k3
theorem got_f0 {b : Int} (G : GOt nn h 0 b) : b = 0 := by
  unfold GOt qf_X13_goes at G
  by_cases y : b = 0
  · exact y
  · rw [if_neg y, if_pos (show ¬ (0 : Int) = b by omega), if_pos rfl] at G
    cases G
/-- a new frame is entered -/
theorem g_enter (hn : 1000000 ≤ nn) (V : VS_ r) {b j : Int} (rb : -1 ≤ b ∧ b ≤ 2117) (rj : 0 ≤ j ∧ j ≤ 254) (hd : 0 ≤ r 160 149 ∧ r 160 149 < 60) : Ok_ (qf_X13_enter nn b j r) (fun u => VS_ u ∧ (∀ x y : Nat, ¬ (x = 160 ∧ y = 149) → ¬ ((x = 251 ∨ x = 252 ∨ x = 253 ∨ x = 254) ∧ y = (r 160 149).toNat) → ¬ (x = 255 ∧ 60 * r 160 149 ≤ (y : Int) ∧ (y : Int) < 60 * r 160 149 + 60) → u x y = r x y) ∧ u 160 149 = r 160 149 + 1 ∧ (u 251 (r 160 149).toNat = b ∧ u 252 (r 160 149).toNat = j ∧ u 253 (r 160 149).toNat = 0 ∧ u 254 (r 160 149).toNat = 0) ∧ ∀ y : Int, 0 ≤ y → y < 60 → u 255 (60 * r 160 149 + y).toNat = 0) := by
  unfold qf_X13_enter
  refine ok_wA (by omega) ?_; intro h13 E13
  have V13 : VS_ h13 := by rw [E13]; exact wA_251 V rb
  have d13 : h13 160 149 = r 160 149 := by rw [E13, up_n (by omega)]
  rw [d13]
  refine ok_wA (by omega) ?_; intro h16 E16
  have V16 : VS_ h16 := by rw [E16]; exact wA_252 V13 rj
  have d16 : h16 160 149 = r 160 149 := by rw [E16, up_n (by omega)]; exact d13
  rw [d16]
  refine ok_wA (by omega) ?_; intro h19 E19
  have V19 : VS_ h19 := by rw [E19]; exact wA_253 V16 (by omega)
  have d19 : h19 160 149 = r 160 149 := by rw [E19, up_n (by omega)]; exact d16
  rw [d19]
  refine ok_wA (by omega) ?_; intro h22 E22
  have V22 : VS_ h22 := by rw [E22]; exact wA_254 V19 (by omega)
  have N22 : ∀ x y : Nat, ¬ ((x = 251 ∨ x = 252 ∨ x = 253 ∨ x = 254) ∧ y = (r 160 149).toNat) → h22 x y = r x y := fun x y q => by rw [E22, up_n (by omega), E19, up_n (by omega), E16, up_n (by omega), E13, up_n (by omega)]
  have v22 : h22 251 (r 160 149).toNat = b ∧ h22 252 (r 160 149).toNat = j ∧ h22 253 (r 160 149).toNat = 0 ∧ h22 254 (r 160 149).toNat = 0 := by
    refine ⟨?_, ?_, ?_, ?_⟩
    · rw [E22, up_n (by omega), E19, up_n (by omega), E16, up_n (by omega), E13, up_s]
    · rw [E22, up_n (by omega), E19, up_n (by omega), E16, up_s]
    · rw [E22, up_n (by omega), E19, up_s]
    · rw [E22, up_s]
  have L : ∀ (l : Nat) (y : Int) (f : ms_M), VS_ f → (∀ x q : Nat, ¬ (x = 255 ∧ 60 * r 160 149 ≤ (q : Int) ∧ (q : Int) < 60 * r 160 149 + 60) → f x q = h22 x q) → (0 ≤ y ∧ y ≤ 60) → (∀ q : Int, 0 ≤ q → q < y → f 255 (60 * r 160 149 + q).toNat = 0) → 60 - y < (l : Int) → Ok_ (qw_X13_enter_42 nn l y f) (fun u => VS_ u ∧ (∀ x y : Nat, ¬ (x = 160 ∧ y = 149) → ¬ ((x = 251 ∨ x = 252 ∨ x = 253 ∨ x = 254) ∧ y = (r 160 149).toNat) → ¬ (x = 255 ∧ 60 * r 160 149 ≤ (y : Int) ∧ (y : Int) < 60 * r 160 149 + 60) → u x y = r x y) ∧ u 160 149 = r 160 149 + 1 ∧ (u 251 (r 160 149).toNat = b ∧ u 252 (r 160 149).toNat = j ∧ u 253 (r 160 149).toNat = 0 ∧ u 254 (r 160 149).toNat = 0) ∧ ∀ y : Int, 0 ≤ y → y < 60 → u 255 (60 * r 160 149 + y).toNat = 0) := by
    intro l
    induction l with
    | zero => intro y f Vf Nf hy D hm; exfalso; omega
    | succ l ih =>
      intro y f Vf Nf hy D hm
      have df : f 160 149 = r 160 149 := by rw [Nf 160 149 (by omega), N22 160 149 (by omega)]
      unfold qw_X13_enter_42
      rw [df]
      refine ok_if (fun C => ?_) (fun C => ?_)
      · refine ok_add (by omega) ?_; intro v2 e2
        refine ok_xl ?_; intro h3 E3
        have V3 : VS_ h3 := by rw [E3]; exact wF_160_149 Vf (by omega)
        refine ok_ret ⟨V3, fun x q q1 q2 q3 => ?_, by rw [E3, up_s]; omega, ?_, fun q q1 q2 => ?_⟩
        · rw [E3, up_n (by omega), Nf x q q3]; exact N22 x q q2
        · rw [E3, up_n (by omega), up_n (by omega), up_n (by omega), up_n (by omega), Nf 251 _ (by omega), Nf 252 _ (by omega), Nf 253 _ (by omega), Nf 254 _ (by omega)]
          exact v22
        · rw [E3, up_n (by omega)]; exact D q q1 (by omega)
      · refine ok_mul (by omega) ?_; intro v6 e6
        refine ok_add (by omega) ?_; intro v7 e7
        refine ok_wA (by omega) ?_; intro h8 E8
        refine ok_add (by omega) ?_; intro v9 e9
        rw [e9]
        refine ih (y + 1) h8 (by rw [E8]; exact wA_255 Vf (by omega)) (fun x q q1 => ?_) (by omega) (fun q q1 q2 => ?_) (by omega)
        · rw [E8, up_n (by omega)]; exact Nf x q q1
        · by_cases q0 : q = y
          · rw [q0, show 60 * r 160 149 + y = v7 by omega, E8, up_s]
          · rw [E8, up_n (by omega)]; exact D q q1 (by omega)
  exact L nn 0 h22 V22 (fun _ _ _ => rfl) (by omega) (fun q q1 q2 => by exfalso; omega) (by omega)
/-- a frame gets its value and goes on -/
theorem run_ret (hn : 1000000 ≤ nn) (X : RX nn ω g R) (H : HPO nn g ω R) {u : Int} (hi : 0 ≤ i ∧ i < 60) (hd : R 160 149 = i + 1) (L : LOWF nn g ω R i u t) (S : STK nn g ω R i.toNat t) {y : Int} (hy : -2147483648 ≤ y ∧ y ≤ 2147483647) (cv : CVt nn g R u y) (u0 : ¬ u = 0) : Ok_ (mx_sv (qf_X13_give nn y R) fun u16 => mx_sv (qf_X13_on nn 2 u16) fun u2 => some u2) (fun r => SQ nn g ω R r) := by
  have V := X.2.2.1
  obtain ⟨c, k, N, T, U, a, p, n, A, ⟨o1, o2⟩, loc, s1, stk⟩ := L
  obtain ⟨⟨m, L', q, bd⟩, ck, e1, aN, e3⟩ := A
  have nd := (bd.2.2.2.2.2.2.2 a aN).1
  have m30 := mbd_129 bd
  have e130 := nd.1 160 130 (by decide) (by decide)
  have s131 := nd.2.2.1
  have ins := bd.2.1.2 a aN
  have cd := mc_code bd.1.2.2
  have ps : PS1 (T a) n u (U a) := by
    rcases o2 with z | z
    · exact absurd z.1 u0
    · exact z.2
  have q4 := ps.2
  have wd : WD (ω c 238 (p 160 134 + bp (ω c) (p 160 134) a).toNat) = 2 := by
    rcases o1 with z | z <;> rw [z] <;> decide
  refine ok_sv (g_give V (rpo_rf V hi) hd hi (by omega) hy) ?_; intro r P
  obtain ⟨Vr, P⟩ := P
  obtain ⟨⟨k1, k2, k3⟩, k4, k5⟩ := rps_k hi.1 P
  obtain ⟨N1, p2, p3, p4⟩ := P
  refine ok_sv (g_on Vr (by rw [k4]; exact hd) hi (by decide) (by rw [k5.2.2, e3]; omega)) ?_; intro r2 P2
  obtain ⟨V2, N2, e2⟩ := P2
  have F2 : RFr R r2 := rfr_tr k1 (fun x j y1 y2 => N2 x j (by omega))
  have K2 : HSM R r2 := hsm_tr k2 ⟨fun x y1 y2 => funext fun j => N2 x j (by omega), N2 160 141 (by omega), N2 160 142 (by omega)⟩
  have L2 : LWK R i r2 := lwk_tr k3 ⟨fun y y1 y2 => ⟨N2 251 _ (by omega), N2 252 _ (by omega), N2 253 _ (by omega), N2 254 _ (by omega)⟩, fun y y1 y2 => N2 255 _ (by omega)⟩
  have hx := hsm_x K2
  refine ok_ret ⟨V2, F2, fun _ => ?_⟩
  refine run_adv hn (rx_k F2 V2 X) bd ck ⟨by rw [N2 251 _ (by omega), k5.1]; exact e1.1, by rw [N2 252 _ (by omega), k5.2.1]; exact e1.2⟩ aN (by omega) ?_ ⟨fun y y1 y2 => ?_, ?_, fun y y1 y2 => ?_⟩ (hpo_s K2 H) (by rw [N2 160 149 (by omega), k4]; exact hd) hi (stk_k _ _ (by rw [show ((i.toNat : Nat) : Int) = i by omega]; exact L2) hx S)
  · rw [e2, k5.2.2, e3]
    show _ = bp (ω c) (p 160 134) a + WD _
    rw [wd]
  · rw [N2 255 _ (by omega), N1 255 _ (by omega) (by omega), ps.1 243 _ (by omega) (by decide) (by omega)]
    exact cv_x hx (loc y y1 y2)
  · rw [N2 254 _ (by omega), p2]; omega
  · rw [N2 255 _ (by omega)]
    by_cases y0 : y = T a 160 131 - n
    · rw [y0, q4.2.2.2, show 60 * i + 30 + (T a 160 131 - n) = 60 * i + 30 + (R 254 i.toNat - 0) by omega, p4]
      exact cv_x hx cv
    · rw [N1 255 _ (by omega) (by omega), ps.1 244 _ (by omega) (by decide) (by omega)]
      exact cv_x hx (stk y y1 (by omega))
theorem run_ret0 (hn : 1000000 ≤ nn) (X : RX nn ω g R) (H : HPO nn g ω R) (hi : 0 ≤ i ∧ i < 60) (hd : R 160 149 = i + 1) (L : LOWF nn g ω R i 0 t) (S : STK nn g ω R i.toNat t) : Ok_ (mx_sv (qf_X13_on nn 2 R) fun u2 => some u2) (fun r => SQ nn g ω R r) := by
  have V := X.2.2.1
  obtain ⟨c, k, N, T, U, a, p, n, A, ⟨o1, o2⟩, loc, s1, stk⟩ := L
  obtain ⟨⟨m, L', q, bd⟩, ck, e1, aN, e3⟩ := A
  have nd := (bd.2.2.2.2.2.2.2 a aN).1
  have ins := bd.2.1.2 a aN
  have cd := mc_code bd.1.2.2
  have po : POP (T a) n (U a) := by
    rcases o2 with z | z
    · exact z.2
    · exact absurd rfl z.1
  have q4 := po.2
  have wd : WD (ω c 238 (p 160 134 + bp (ω c) (p 160 134) a).toNat) = 2 := by
    rcases o1 with z | z <;> rw [z] <;> decide
  refine ok_sv (g_on V hd hi (by decide) (by rw [e3]; omega)) ?_; intro r2 P2
  obtain ⟨V2, N2, e2⟩ := P2
  have F2 : RFr R r2 := fun x j y1 y2 => N2 x j (by omega)
  have K2 : HSM R r2 := ⟨fun x y1 y2 => funext fun j => N2 x j (by omega), N2 160 141 (by omega), N2 160 142 (by omega)⟩
  have L2 : LWK R i r2 := ⟨fun y y1 y2 => ⟨N2 251 _ (by omega), N2 252 _ (by omega), N2 253 _ (by omega), N2 254 _ (by omega)⟩, fun y y1 y2 => N2 255 _ (by omega)⟩
  have hx := hsm_x K2
  refine ok_ret ⟨V2, F2, fun _ => ?_⟩
  refine run_adv hn (rx_k F2 V2 X) bd ck ⟨by rw [N2 251 _ (by omega)]; exact e1.1, by rw [N2 252 _ (by omega)]; exact e1.2⟩ aN (by omega) ?_ ⟨fun y y1 y2 => ?_, ?_, fun y y1 y2 => ?_⟩ (hpo_s K2 H) (by rw [N2 160 149 (by omega)]; exact hd) hi (stk_k _ _ (by rw [show ((i.toNat : Nat) : Int) = i by omega]; exact L2) hx S)
  · rw [e2, e3]
    show _ = bp (ω c) (p 160 134) a + WD _
    rw [wd]
  · rw [N2 255 _ (by omega), po.1 243 _ (by omega) (by decide)]
    exact cv_x hx (loc y y1 y2)
  · rw [N2 254 _ (by omega)]; omega
  · rw [N2 255 _ (by omega), po.1 244 _ (by omega) (by decide)]
    exact cv_x hx (stk y y1 (by omega))
/-- a method ends -/
theorem st_back (hn : 1000000 ≤ nn) (X : RTP nn g ω R i c k N T U t a p) {op o : Int} (W : WN nn (T a) ω c (ω c) t op o (U a)) (ho : op = 172 ∨ op = 176 ∨ op = 177) : Ok_ (mx_sv (qf_X13_back nn op R) fun u28 => some u28) (SQ nn g ω R) := by
  have V := X.vs
  have hi := X.hi
  have hd := X.hd
  have s := X.s
  have H := X.hp
  have P0 := rpo_rf V hi
  have g98 := gF_160_98 X.rx.1.1.1
  have g141 := gF_160_141 V
  have sv : ∀ y : Option ms_M, (mx_sv y fun u => some u) = y := fun y => by cases y <;> rfl
  rw [sv]
  have B : ∀ (q n : Int) (r : ms_M), VS_ r → RPO R i n r → (-2147483648 ≤ q ∧ q ≤ 2147483647) → (op = 177 → t = 0) → (¬ op = 177 → ¬ t = 0 ∧ CVt nn g R t q) → (op = 176 → ¬ q = 0 → 1 ≤ q ∧ q ≤ R 160 141) → Ok_ (qj_X13_back_15 nn op q r) (SQ nn g ω R) := fun q n r Vr P hq h7 hv h6 => by
    obtain ⟨⟨k1, k2, k3⟩, k4, k5⟩ := rpo_k hi.1 P
    have N0 := P.1
    unfold qj_X13_back_15 qj_X13_back_45
    rw [k4, hd]
    refine ok_sub (by omega) ?_; intro v4 e4
    refine ok_xl ?_; intro h5 E5
    have V5 : VS_ h5 := by rw [E5]; exact wF_160_149 Vr (by omega)
    have d5 : h5 160 149 = i := by rw [E5, up_s]; omega
    have N5 : ∀ x j : Nat, ¬ (x = 160 ∧ j = 149) → ¬ (x = 254 ∧ j = i.toNat) → h5 x j = R x j := fun x j y1 y2 => by rw [E5, up_n y1]; exact N0 x j y2
    have F5 : RFr R h5 := fun x j y1 y2 => N5 x j (by omega) (by omega)
    have K5 : HSM R h5 := ⟨fun x y1 y2 => funext fun j => N5 x j (by omega) (by omega), N5 160 141 (by omega) (by omega), N5 160 142 (by omega) (by omega)⟩
    rw [d5]
    refine ok_if (fun i0 => ?_) (fun i0 => ?_)
    · refine ok_xl ?_; intro h7' E7
      have V7 : VS_ h7' := by rw [E7]; exact wF_160_138 V5 (by omega)
      have F7 : RFr R h7' := rfr_tr F5 (fun x j y1 y2 => by rw [E7, up_n (by omega)])
      have s7 : h7' 160 138 = 2 := by rw [E7, up_s]
      refine ok_if (fun n172 => ?_) (fun n172 => ?_)
      · refine ok_if (fun _ => ok_ret ⟨V7, F7, fun z => by rw [s7] at z; exact absurd z (by decide)⟩) (fun y176 => ?_)
        refine ok_if (fun _ => ok_ret ⟨V7, F7, fun z => by rw [s7] at z; exact absurd z (by decide)⟩) (fun q0 => ?_)
        have qb := h6 (Decidable.not_not.1 y176) q0
        have told : Ok_ (qf_X13_told nn q h7') (fun u => -1 ≤ u ∧ u ≤ 200) := by
          unfold qf_X13_told
          refine ok_rd (by omega) (gA_246 V7) ?_; intro v2 e2 _ _
          refine ok_if (fun _ => ?_) (fun _ => ok_ret (by decide))
          refine ok_rd (by omega) (gA_246 V7) ?_; intro v4 e4 b1 b2
          exact ok_ret (by omega)
        refine ok_sv told ?_; intro u9 P9
        refine ok_xl ?_; intro h10 E10
        refine ok_ret ⟨by rw [E10]; exact wF_160_139 V7 (by omega), rfr_tr F7 (fun x j y1 y2 => by rw [E10, up_n (by omega)]), fun z => ?_⟩
        rw [E10, up_n (by omega), s7] at z
        exact absurd z (by decide)
      · refine ok_xl ?_; intro h13 E13
        refine ok_ret ⟨by rw [E13]; exact wF_160_139 V7 (by omega), rfr_tr F7 (fun x j y1 y2 => by rw [E13, up_n (by omega)]), fun z => ?_⟩
        rw [E13, up_n (by omega), s7] at z
        exact absurd z (by decide)
    · have X5 := rx_k F5 V5 X.rx
      have H5 := hpo_s K5 H
      have L5 : LWK R i h5 := ⟨fun y y1 y2 => ⟨N5 251 _ (by omega) (by omega), N5 252 _ (by omega) (by omega), N5 253 _ (by omega) (by omega), N5 254 _ (by omega) (by omega)⟩, fun y y1 y2 => N5 255 _ (by omega) (by omega)⟩
      obtain ⟨dd, edd⟩ : ∃ dd : Nat, i.toNat = dd + 1 := ⟨i.toNat - 1, by omega⟩
      have st := X.st
      rw [edd] at st
      have st5 := stk_k (nn := nn) (g := g) (ω := ω) (R := R) (r := h5) (dd + 1) t (lwk_le L5 (by omega)) (hsm_x K5) st
      obtain ⟨t2, lw, st2⟩ := st5
      have ei : ((dd : Nat) : Int) = i - 1 := by omega
      rw [ei] at lw
      have st3 : STK nn g ω h5 (i - 1).toNat t2 := by rw [show (i - 1).toNat = dd by omega]; exact st2
      refine ok_if (fun y177 => ?_) (fun n177 => ?_)
      · rw [h7 y177] at lw
        exact ok_im (run_ret0 hn X5 H5 (i := i - 1) (by omega) (by omega) lw st3) (fun r2 Q => ⟨Q.1, rfr_tr F5 Q.2.1, Q.2.2⟩)
      · obtain ⟨t0, cv⟩ := hv n177
        exact ok_im (run_ret hn X5 H5 (i := i - 1) (by omega) (by omega) lw st3 hq (cv_x (hsm_x K5) cv) t0) (fun r2 Q => ⟨Q.1, rfr_tr F5 Q.2.1, Q.2.2⟩)
  unfold qf_X13_back
  rcases ho with q | q | q
  · obtain ⟨w1, w2, w3⟩ := wnx_17 W q
    have ln := w3.2.2
    rw [if_pos (show ¬ op = 177 by omega)]
    refine ok_sv (g_drop V P0 hd hi (by omega) (by omega)) ?_; intro u20 P20
    have bq := gA_255 V (60 * i + 30 + (R 254 i.toNat - 1 - 0)).toNat (by omega)
    rw [← P20.2.2] at bq
    exact B u20.1 _ u20.2 P20.1 P20.2.1 bq (fun z => by exfalso; omega) (fun _ => ⟨by omega, by rw [w1]; exact cv_i⟩) (fun z => by exfalso; omega)
  · obtain ⟨w1, w2, w3⟩ := wnx_18 W q
    have ln := w3.2.2
    rw [if_pos (show ¬ op = 177 by omega)]
    refine ok_sv (g_drop V P0 hd hi (by omega) (by omega)) ?_; intro u20 P20
    have bq := gA_255 V (60 * i + 30 + (R 254 i.toNat - 1 - 0)).toNat (by omega)
    have gt : GTs g t := by
      obtain ⟨⟨m, L, q', bd⟩, _⟩ := X.2.1
      have := ktv_rg bd.1.2.1 bd.2.2.1.2.2.2.2
      exact gts_c (agd_sy bd.1.1) this
    have cv := rtp_go hn X (y := 0) (by omega) (by omega) w2 gt
    rw [← P20.2.2] at bq cv
    exact B u20.1 _ u20.2 P20.1 P20.2.1 bq (fun z => by exfalso; omega) (fun _ => ⟨by omega, cv⟩) (fun _ z => cv_ref w1 cv z)
  · obtain ⟨w1, w2⟩ := wnx_19 W q
    rw [if_neg (show ¬ ¬ op = 177 by omega)]
    exact B 0 0 R V P0 (by decide) (fun _ => w1) (fun z => absurd q z) (fun z => by exfalso; omega)
end
