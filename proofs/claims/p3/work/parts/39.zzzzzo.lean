section
variable {nn : Nat} {h g r z w v x f R p : ms_M} {c d e k : Int} {ω : Int → ms_M} {N : Nat} {T U : Nat → ms_M} {i t : Int} {a : Nat}
/-- a step of a good run -/
theorem s_step (hn : 1000000 ≤ nn) (X : RX nn ω g R) (Q : RUN1 nn g ω R) (pr : 0 ≤ R 160 143 ∧ R 160 143 ≤ 2000000000) : Ok_ (qf_X13_step nn R) (SPr nn g ω R) := by
  have V := X.2.2.1
  obtain ⟨hd, H, t, ⟨c, k, N, T, U, a, p, A, C⟩, S⟩ := Q
  have Y : RTP nn g ω R (R 160 149 - 1) c k N T U t a p := ⟨⟨X, H, by omega, by omega, by omega⟩, A, C, S⟩
  have e3 := Y.e3
  have ins := Y.ins
  have il : bp (ω c) (p 160 134) a + WD (ω c 238 (p 160 134 + bp (ω c) (p 160 134) a).toNat) ≤ p 160 135 := ins.2.2
  have cd := mc_code Y.mc
  obtain ⟨n1, n2, n3, RG, W, _⟩ := Y.nd
  unfold qf_X13_step
  refine ok_sub (by omega) ?_; intro v96 e96
  rw [show v96 = R 160 149 - 1 by omega]
  refine ok_rd (by omega) (gA_253 V) ?_; intro v97 e97 _ _
  rw [e97, e3]
  refine ok_sv (g_op X A Y.hd Y.hi (by omega)) ?_; intro u99 P99
  refine ok_sv mw_width ?_; intro u100 P100
  have q100 := P100.1
  have q99 := P99.1
  have w1 : 1 ≤ WD u99 := by rw [q99]; exact ins.2.1
  unfold opd at RG W
  rw [← q99] at RG W
  refine ok_if (fun l => ?_) (fun l => ?_)
  · rw [if_pos (show WD u99 ≤ 1 by omega)] at RG W
    exact st_39 hn Y q99 w1 P99.2 (by decide) q100 RG W pr
  · rw [if_neg (show ¬ WD u99 ≤ 1 by omega)] at RG W
    rw [← q99] at il
    refine ok_add (by omega) ?_; intro v101 e101
    refine ok_sv (g_op X A Y.hd Y.hi (q := v101) (by omega)) ?_; intro u103 P103
    have q103 := P103.1
    rw [e101] at q103
    rw [← q103] at RG W
    exact st_39 hn Y q99 w1 P99.2 P103.2 q100 RG W pr
/-- the run of h is good -/
def RGO (nn : Nat) (h : ms_M) : Prop := ∃ (ω : Int → ms_M) (g : ms_M), RX nn ω g h ∧ RUN1 nn g ω h
/-- what run leaves -/
def NRn (h r : ms_M) : Prop := ∀ x j : Nat, ¬ (246 ≤ x ∧ x ≤ 255) → ¬ (x = 160 ∧ (j = 121 ∨ (138 ≤ j ∧ j ≤ 149))) → r x j = h x j
theorem nrn_tr (a : NRn h z) (b : NRn z r) : NRn h r := fun x j p q => (b x j p q).trans (a x j p q)
theorem rx_n (A : NRn R r) (V : VS_ r) (X : RX nn ω g R) : RX nn ω g r := by
  have B : ∀ x j : Nat, 226 ≤ x → x ≤ 237 → r x j = R x j := fun x j p q => A x j (by omega) (by omega)
  have e98 := A 160 98 (by decide) (by decide)
  exact ⟨X.1, age_tr X.2.1 (age_k B e98), V, spd_k X.2.2.1 B e98 X.2.2.2⟩
theorem s_run (hn : 1000000 ≤ nn) (V : VS_ h) {P y : Int} (G : h 160 138 = 1 → RGO nn h) (hp : 0 ≤ h 160 143 ∧ h 160 143 ≤ P) (hP : P ≤ 1900000000) : Ok_ (qf_X13_run nn y h) (fun u => VS_ u.2 ∧ NRn h u.2 ∧ (u.2 160 138 = 1 → RGO nn u.2) ∧ (0 ≤ u.2 160 143 ∧ u.2 160 143 ≤ P + 20000)) := by
  have fin : ∀ (l : Int) (f : ms_M), VS_ f → NRn h f → (f 160 138 = 1 → RGO nn f) → (0 ≤ f 160 143 ∧ f 160 143 ≤ P + 20000) → Ok_ (qj_X13_run_39 nn l f) (fun u => VS_ u.2 ∧ NRn h u.2 ∧ (u.2 160 138 = 1 → RGO nn u.2) ∧ (0 ≤ u.2 160 143 ∧ u.2 160 143 ≤ P + 20000)) := fun l f Vf Nf Gf bf => by
    unfold qj_X13_run_39
    refine ok_xl ?_; intro v2 e2
    refine ok_xl ?_; intro h3 E3
    have V3 : VS_ h3 := by rw [E3]; exact wF_160_140 Vf (by rw [e2]; exact int_rg)
    have N3 : ∀ x j : Nat, ¬ (x = 160 ∧ j = 140) → h3 x j = f x j := fun x j y => by rw [E3, up_n y]
    refine ok_ret ⟨V3, nrn_tr Nf (fun x j p q => N3 x j (by omega)), fun q => ?_, by show 0 ≤ h3 160 143 ∧ h3 160 143 ≤ _; rw [N3 160 143 (by decide)]; exact bf⟩
    have q : h3 160 138 = 1 := q
    rw [N3 160 138 (by decide)] at q
    obtain ⟨ω, g, X, hd, H, t, ⟨c, k, N, T, U, a, p, ⟨b1, b2, b3, b4, b5⟩, C⟩, S⟩ := Gf q
    have K : HSM f h3 := ⟨fun x y1 y2 => funext fun j => N3 x j (by omega), N3 160 141 (by decide), N3 160 142 (by decide)⟩
    have hx := hsm_x K
    have d3 : h3 160 149 = f 160 149 := N3 160 149 (by decide)
    have L3 : ∀ i : Int, LWK f i h3 := fun i => ⟨fun y _ _ => ⟨N3 251 _ (by omega), N3 252 _ (by omega), N3 253 _ (by omega), N3 254 _ (by omega)⟩, fun y _ _ => N3 255 _ (by omega)⟩
    refine ⟨ω, g, rx_n (fun x j p q => N3 x j (by omega)) V3 X, ?_⟩
    show RUN1 nn g ω h3
    unfold RUN1
    rw [d3]
    refine ⟨hd, hpo_s K H, t, ⟨c, k, N, T, U, a, p, ⟨b1, b2, ⟨by rw [N3 251 _ (by omega)]; exact b3.1, by rw [N3 252 _ (by omega)]; exact b3.2⟩, b4, by rw [N3 253 _ (by omega)]; exact b5⟩, ⟨fun y y1 y2 => ?_, ?_, fun y y1 y2 => ?_⟩⟩, stk_k _ _ (L3 _) hx S⟩
    · rw [N3 255 _ (by omega)]; exact cv_x hx (C.1 y y1 y2)
    · rw [N3 254 _ (by omega)]; exact C.2.1
    · rw [N3 255 _ (by omega)]; exact cv_x hx (C.2.2 y y1 y2)
  have L : ∀ (j : Nat) (l : Int) (f : ms_M), VS_ f → NRn h f → (f 160 138 = 1 → RGO nn f) → (0 ≤ l ∧ l ≤ y) → y ≤ 20000 → (0 ≤ f 160 143 ∧ f 160 143 ≤ P + l) → y - l < (j : Int) → Ok_ (qw_X13_run_16 nn j y l f) (fun u => VS_ u.2 ∧ NRn h u.2 ∧ (u.2 160 138 = 1 → RGO nn u.2) ∧ (0 ≤ u.2 160 143 ∧ u.2 160 143 ≤ P + 20000)) := by
    intro j
    induction j with
    | zero => intro l f Vf Nf Gf b yb bf hm; exfalso; omega
    | succ j ih =>
      intro l f Vf Nf Gf b yb bf hm
      unfold qw_X13_run_16
      refine ok_if (fun _ => fin l f Vf Nf Gf (by omega)) (fun C => ?_)
      refine ok_if (fun _ => fin l f Vf Nf Gf (by omega)) (fun D => ?_)
      obtain ⟨ω, g, X, Q⟩ := Gf (Decidable.not_not.1 D)
      refine ok_sv (s_step hn X Q (by omega)) ?_; intro u6 P6
      obtain ⟨V6, N6, p6, R6⟩ := P6
      refine ok_add (by omega) ?_; intro v7 e7
      exact ih v7 u6 V6 (nrn_tr Nf N6) (fun q => ⟨ω, g, rx_n N6 V6 X, R6 q⟩) (by omega) yb (by omega) (by omega)
  unfold qf_X13_run
  refine ok_if (fun _ => ok_ret ⟨V, fun _ _ _ _ => rfl, G, by show 0 ≤ h 160 143 ∧ h 160 143 ≤ _; omega⟩) (fun C => ?_)
  refine ok_if (fun D => ?_) (fun _ => ok_ret ⟨V, fun _ _ _ _ => rfl, G, by show 0 ≤ h 160 143 ∧ h 160 143 ≤ _; omega⟩)
  exact L nn 0 h V (fun _ _ _ _ => rfl) G (by omega) D (by omega) (by omega)
/-- start: the run begins well -/
theorem s_start (hn : 1000000 ≤ nn) (V : VS_ h) (S : SPD h) (D : ¬ h 160 99 = 0 → VRD nn h) {y u : Int} (ry : -2147483648 ≤ y ∧ y ≤ 2147483647) : Ok_ (qf_X13_start nn y u h) (fun v => VS_ v.2 ∧ NMc h v.2 ∧ (v.2 = h ∨ (v.2 160 143 = 0 ∧ RGO nn v.2))) := by
  have g98 := gF_160_98 V
  have Z : ∀ o : Int, Ok_ (some (o, h)) (fun v : Int × ms_M => VS_ v.2 ∧ NMc h v.2 ∧ (v.2 = h ∨ (v.2 160 143 = 0 ∧ RGO nn v.2))) := fun o => ok_ret ⟨V, fun _ _ _ _ => rfl, .inl rfl⟩
  unfold qf_X13_start
  refine ok_xl ?_; intro v4 e4
  refine ok_if (fun _ => Z 0) (fun n99 => ?_)
  refine ok_if (fun _ => Z 0) (fun A => ?_)
  refine ok_if (fun _ => Z 0) (fun B => ?_)
  have ea : v4 = y - 8 := by
    by_cases q : -2147483648 ≤ y - 8
    · rw [e4]; exact oq_sub_eq ry (by omega) (by omega)
    · have s := sub8 ry (by omega)
      exfalso; omega
  obtain ⟨ω, g, XV, AE⟩ := D n99
  have XV0 := XV
  obtain ⟨⟨Vg, Sg⟩, O, CA, MO⟩ := XV
  have hc : 0 ≤ v4 ∧ v4 ≤ 7 := by omega
  have hcg : 0 ≤ v4 ∧ v4 < g 160 98 := by rw [← AE.1]; omega
  have Wg := O v4 hcg.1 hcg.2
  have W := wi_e AE hcg Wg
  refine ok_if (fun _ => Z 0) (fun C => ?_)
  refine ok_rd (by omega) (gA_234 V) ?_; intro v8 e8 _ _
  rw [(AE.2 v4 hcg.1 hcg.2).2.2.1.2.2.2.2] at e8
  refine ok_if (fun Dd => ?_) (fun _ => Z 0)
  have hk : 0 ≤ u ∧ u < g 234 v4.toNat := by omega
  obtain ⟨k12, bb, _⟩ := wi_mt Wg hc hk
  have e235 := ((AE.2 v4 hcg.1 hcg.2).2.2.2 u hk.1 k12).2.1
  obtain ⟨p, N, T, U, m, L, q, t, bd⟩ := mok_b (MO v4 u hcg.1 hcg.2 hk.1 hk.2)
  have A2 := bd.1.1
  have tkg : TKV nn g v4 (ω v4) (kdT g ω v4 1 u) m L q t := by
    have := bd.2.2.1
    rw [kdT_c A2] at this
    exact tkv_c (agd_c (agd_sy A2)) this
  refine ok_mul (by omega) ?_; intro v9 e9
  refine ok_mul (by omega) ?_; intro v11 e11
  refine ok_sv (rt_kind (ω := ω) V hc W (s := 1) (k := u) (by rw [show mem h v4 1 = h 234 v4.toNat from rfl, (AE.2 v4 hcg.1 hcg.2).2.2.1.2.2.2.2]; exact hk)) ?_; intro u13 P13
  have t13 := P13.2.2 (by decide)
  have k13 : u13 = kdT g ω v4 1 u := by
    rw [P13.1]
    unfold kdT
    rw [if_neg (by decide), if_neg (by decide), e235]
  rw [← k13] at tkg
  obtain ⟨a1, a2, a3, a4, a5⟩ := wi_tx W hc t13.1
  refine ok_add (by omega) ?_; intro v14 e14
  refine ok_rd (by omega) (gA_228 V) ?_; intro v15 e15 _ _
  rw [e14, e11, a2] at e15
  refine ok_add (by omega) ?_; intro v16 e16
  refine ok_add (by omega) ?_; intro v17 e17
  refine ok_mul (by omega) ?_; intro v19 e19
  refine ok_add (by omega) ?_; intro v20 e20
  refine ok_rd (by omega) (gA_235 V) ?_; intro v21 e21 _ _
  rw [e20, e19, e235] at e21
  rw [← e21] at bb
  refine ok_sv (mv_bytew V hc W (by omega)) ?_; intro u23 P23
  refine ok_if (fun _ => Z 0) (fun s1 => ?_)
  have l3 : 3 ≤ ω v4 238 (pl (ω v4) v4 u13 + 1).toNat := by
    obtain ⟨mm, _, kk⟩ := t13.2.2.2.1 rfl
    have := mkn_len kk
    omega
  refine ok_add (by omega) ?_; intro v25 e25
  refine ok_rd (by omega) (gA_226 V) ?_; intro v26 e26 _ _
  rw [show v25 = 6000 * v4 + (pl (ω v4) v4 u13 + 2 + 1) by omega, W.2.2.1 _ (by omega) (by omega)] at e26
  refine ok_if (fun c41 => ?_) (fun _ => Z 0)
  -- a method without parameters, with no object
  have m0 : m = 0 := by
    have pv := tkg.2.1
    by_cases z : m = 0
    · exact z
    · exfalso
      obtain ⟨j, ej⟩ : ∃ j : Nat, m.toNat = j + 1 := ⟨m.toNat - 1, by have := tkg.1; omega⟩
      rw [ej] at pv
      obtain ⟨e', ⟨x1, _⟩, _⟩ := pv
      exact kd_41 x1 (e26.symm.trans c41)
  have fl1 : flg p v4 u (ω v4) = 1 := by
    unfold flg
    rw [A2.1 235 _ (by decide) (by decide), ← e21]
    have f1 := (mc_xd bd.1.2.2).1
    rw [A2.1 235 _ (by decide) (by decide), ← e21] at f1
    have := P23.1
    have := P23.2
    omega
  refine ok_xl ?_; intro h27 E27
  have V27 : VS_ h27 := by rw [E27]; exact wF_160_138 V (by omega)
  refine ok_xl ?_; intro h28 E28
  have V28 : VS_ h28 := by rw [E28]; exact wF_160_139 V27 (by omega)
  refine ok_xl ?_; intro h29 E29
  have V29 : VS_ h29 := by rw [E29]; exact wF_160_140 V28 (by omega)
  refine ok_xl ?_; intro h30 E30
  have V30 : VS_ h30 := by rw [E30]; exact wF_160_141 V29 (by omega)
  refine ok_xl ?_; intro h31 E31
  have V31 : VS_ h31 := by rw [E31]; exact wF_160_142 V30 (by omega)
  refine ok_xl ?_; intro h32 E32
  have V32 : VS_ h32 := by rw [E32]; exact wF_160_143 V31 (by omega)
  unfold qj_X13_start_133
  refine ok_xl ?_; intro h1 E1
  have V1 : VS_ h1 := by rw [E1]; exact wF_160_149 V32 (by omega)
  have N1 : ∀ x l : Nat, ¬ (x = 160 ∧ (138 ≤ l ∧ l ≤ 149)) → h1 x l = h x l := fun x l z => by rw [E1, up_n (by omega), E32, up_n (by omega), E31, up_n (by omega), E30, up_n (by omega), E29, up_n (by omega), E28, up_n (by omega), E27, up_n (by omega)]
  have d1 : h1 160 149 = 0 := by rw [E1, up_s]
  have o1 : h1 160 141 = 0 := by rw [E1, up_n (by omega), E32, up_n (by omega), E31, up_n (by omega), E30, up_s]
  have p1 : h1 160 143 = 0 := by rw [E1, up_n (by omega), E32, up_s]
  refine ok_sv (g_enter hn V1 (b := y) (j := u) (by omega) (by omega) (by omega)) ?_; intro u3 P3
  obtain ⟨V3, N3, d3, ⟨f1, f2, f3, f4⟩, z3⟩ := P3
  rw [d1] at N3 d3 f1 f2 f3 f4 z3
  have NN : NMc h u3 := fun x l z1 z2 => by rw [N3 x l (by omega) (by omega) (by omega)]; exact N1 x l (by omega)
  have RN : NRn h u3 := fun x l z1 z2 => by rw [N3 x l (by omega) (by omega) (by omega)]; exact N1 x l (by omega)
  have o3 : u3 160 141 = 0 := by rw [N3 160 141 (by omega) (by omega) (by omega)]; exact o1
  have X3 : RX nn ω g u3 := rx_n RN V3 ⟨XV0, AE, V, S⟩
  refine ok_ret ⟨V3, NN, .inr ⟨by show u3 160 143 = 0; rw [N3 160 143 (by omega) (by omega) (by omega)]; exact p1, ω, g, X3, by show 1 ≤ u3 160 149 ∧ u3 160 149 ≤ 60; omega, ⟨fun o z1 z2 => ?_, fun o l z1 z2 z3 => ?_⟩, t, ?_, ?_⟩⟩
  · have z2 : o ≤ u3 160 141 := z2
    exfalso; omega
  · have z3 : l ≤ u3 160 141 := z3
    exfalso; omega
  · show TOPF nn g ω u3 (u3 160 149 - 1) t
    rw [d3, show (0 : Int) + 1 - 1 = 0 by decide]
    have ini0 := bd.2.2.2.2.1
    refine ⟨v4, u, N, T, U, 0, p, ⟨⟨m, L, q, bd⟩, ⟨hcg, hk⟩, ⟨by rw [f1]; omega, f2⟩, bd.2.2.2.1.2, by rw [f3]; rfl⟩, fun l l1 l2 => ?_, by rw [f4, ini0.2], fun l l1 l2 => by rw [ini0.2] at l2; exfalso; omega⟩
    have go := ini0.1 l l1 l2
    unfold ini at go
    rw [fl1, m0, if_neg (by omega), if_neg (by omega)] at go
    rw [got_f0 go]
    exact cv_t
  · show STK nn g ω u3 (u3 160 149 - 1).toNat t
    rw [d3]
    exact trivial
end
