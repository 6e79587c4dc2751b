/- PARSE: P of both sides; the group -/
section
variable {nn : Nat} {K P : Nat → Int} {c p : Nat} {h g r w u v : ms_M}
theorem pc_sb {α β : Type} {x : Option α} {G : α → Option β} {Q : β → Prop} (H : Pc x (fun a => Pc (G a) Q)) : Pc (mx_sv x G) Q := pc_sv H (fun _ h => h)
/- the reference's primary, by the kind -/
section
variable {rd : tq_X13_expression} {a : Int} {Y : Int × ms_M → Prop}
theorem rp_num (BK : TBn K c) (B : TBq K P c r) (hp : p < c) (hc : r 160 23 = (p : Int)) (kp : K p = 3) (H : Pc (mx_sv (qf_X13_add nn 20 (p : Int) (p : Int) (up_M r 160 23 ((p + 1 : Nat) : Int))) fun u4 => some (u4.1, u4.2)) Y) : Pc (qo_X13_primary nn rd a r) Y := by
  have n3 := BK.2.1
  have kd := r_kd BK B (t := p) (by omega)
  unfold qo_X13_primary
  rw [hc]
  refine pc_rA ?_; intro _ _ v20 e20
  rw [Int.toNat_natCast] at e20
  refine pc_if (fun z => absurd (by omega) z) (fun _ => ?_)
  refine pc_add (by omega) ?_; intro v66 e66
  refine pc_xl ?_; intro h67 e67
  rw [show v66 = ((p + 1 : Nat) : Int) by omega] at e67
  rw [e67]; exact H
theorem rp_w (BK : TBn K c) (B : TBq K P c r) (hp : p < c) (hc : r 160 23 = (p : Int)) {k w : Int} (hk : (k = 21 ∧ w = 18) ∨ (k = 22 ∧ w = 7) ∨ (k = 23 ∧ w = 12) ∨ (k = 24 ∧ w = 16)) (kp : K p = w + 10) (H : Pc (mx_sv (qf_X13_add nn k (p : Int) (p : Int) (up_M r 160 23 ((p + 1 : Nat) : Int))) fun u4 => some (u4.1, u4.2)) Y) : Pc (qo_X13_primary nn rd a r) Y := by
  have n3 := BK.2.1
  have kd := r_kd BK B (t := p) (by omega)
  have T : ∀ v32 : Int, v32 = w → Pc (qj_X13_primary_215 nn rd (p : Int) v32 r) Y := fun v32 e32 => by
    unfold qj_X13_primary_215 qj_X13_primary_264
    rw [hc]
    refine pc_add (by omega) ?_; intro v6 e6
    refine pc_xl ?_; intro h7 e7
    rw [show v6 = ((p + 1 : Nat) : Int) by omega] at e7
    rw [e7]
    refine pc_if (fun z1 => pc_if (fun z2 => pc_if (fun z3 => ?_) (fun z3 => ?_)) (fun z2 => ?_)) (fun z1 => ?_)
    · rw [show k = 24 by omega] at H; exact H
    · rw [show k = 23 by omega] at H; exact H
    · rw [show k = 22 by omega] at H; exact H
    · rw [show k = 21 by omega] at H; exact H
  unfold qo_X13_primary
  rw [hc]
  refine pc_rA ?_; intro _ _ v20 e20
  rw [Int.toNat_natCast] at e20
  refine pc_if (fun _ => ?_) (fun z => absurd (by omega) z)
  refine pc_rA ?_; intro _ _ v23 e23
  rw [Int.toNat_natCast] at e23
  refine pc_if (fun _ => ?_) (fun z => absurd (by omega) z)
  refine pc_sv (r_sgn BK B rfl (by omega) (k := 40) (by decide) (by decide)) ?_; intro u26 q26
  refine pc_if (fun _ => ?_) (fun z => absurd (by omega) z)
  refine pc_rA ?_; intro _ _ v29 e29
  rw [Int.toNat_natCast] at e29
  refine pc_if (fun z => absurd (by omega) z) (fun _ => ?_)
  refine pc_rA ?_; intro _ _ v32 e32
  rw [Int.toNat_natCast, B.2.2.1 p (by omega) (by omega)] at e32
  exact pc_if (fun z => T v32 (by omega)) (fun z1 => pc_if (fun z => T v32 (by omega)) (fun z2 => pc_if (fun z => T v32 (by omega)) (fun z3 => pc_if (fun z4 => absurd (by omega) z4) (fun z => T v32 (by omega)))))
theorem rp_new (BK : TBn K c) (B : TBq K P c r) (hp : p < c) (hc : r 160 23 = (p : Int)) (kp : K p = 21) (H : Pc (mx_sv (rd.2.2.2.2.2.2 a r) fun u34 => some (u34.1, u34.2)) Y) : Pc (qo_X13_primary nn rd a r) Y := by
  have n3 := BK.2.1
  have kd := r_kd BK B (t := p) (by omega)
  unfold qo_X13_primary
  rw [hc]
  refine pc_rA ?_; intro _ _ v20 e20
  rw [Int.toNat_natCast] at e20
  refine pc_if (fun _ => ?_) (fun z => absurd (by omega) z)
  refine pc_rA ?_; intro _ _ v23 e23
  rw [Int.toNat_natCast] at e23
  refine pc_if (fun _ => ?_) (fun z => absurd (by omega) z)
  refine pc_sv (r_sgn BK B rfl (by omega) (k := 40) (by decide) (by decide)) ?_; intro u26 q26
  refine pc_if (fun _ => ?_) (fun z => absurd (by omega) z)
  refine pc_rA ?_; intro _ _ v29 e29
  rw [Int.toNat_natCast] at e29
  refine pc_if (fun z => absurd (by omega) z) (fun _ => ?_)
  refine pc_rA ?_; intro _ _ v32 e32
  rw [Int.toNat_natCast, B.2.2.1 p (by omega) (by omega)] at e32
  exact pc_if (fun z => absurd z (by omega)) (fun z1 => pc_if (fun z => absurd z (by omega)) (fun z2 => pc_if (fun z => absurd z (by omega)) (fun z3 => pc_if (fun z4 => pc_if (fun z5 => absurd (by omega) z5) (fun _ => H)) (fun z => absurd (by omega) z))))
theorem rp_bad (BK : TBn K c) (B : TBq K P c r) (hp : p < c) (hc : r 160 23 = (p : Int)) (kp : ¬ K p = 3 ∧ ¬ K p = 2 ∧ ¬ K p = 40 ∧ ¬ K p = 28 ∧ ¬ K p = 17 ∧ ¬ K p = 22 ∧ ¬ K p = 26 ∧ ¬ K p = 21) (H : Pc (mx_sv (qf_X13_misplaced nn r) fun u2 => some ((-1), u2)) Y) : Pc (qo_X13_primary nn rd a r) Y := by
  have n3 := BK.2.1
  have kd := r_kd BK B (t := p) (by omega)
  have H : Pc (qj_X13_primary_283 nn rd r) Y := H
  unfold qo_X13_primary
  rw [hc]
  refine pc_rA ?_; intro _ _ v20 e20
  rw [Int.toNat_natCast] at e20
  refine pc_if (fun _ => ?_) (fun z => absurd (by omega) z)
  refine pc_rA ?_; intro _ _ v23 e23
  rw [Int.toNat_natCast] at e23
  refine pc_if (fun _ => ?_) (fun z => absurd (by omega) z)
  refine pc_sv (r_sgn BK B rfl (by omega) (k := 40) (by decide) (by decide)) ?_; intro u26 q26
  refine pc_if (fun _ => ?_) (fun z => absurd (by omega) z)
  refine pc_rA ?_; intro _ _ v29 e29
  rw [Int.toNat_natCast] at e29
  refine pc_if (fun _ => H) (fun z => ?_)
  refine pc_rA ?_; intro _ _ v32 e32
  rw [Int.toNat_natCast, B.2.2.1 p (by omega) (by omega)] at e32
  exact pc_if (fun z => absurd z (by omega)) (fun z1 => pc_if (fun z => absurd z (by omega)) (fun z2 => pc_if (fun z => absurd z (by omega)) (fun z3 => pc_if (fun z4 => pc_if (fun z5 => H) (fun z => absurd (by omega) z)) (fun z => absurd (by omega) z))))
theorem rp_par (BK : TBn K c) (B : TBq K P c r) (hp : p < c) (hc : r 160 23 = (p : Int)) (kp : K p = 40) (H : Pc (mx_sv (rd.1 a (up_M r 160 23 ((p + 1 : Nat) : Int))) fun u45 => mx_sv (qf_X13_sign_ nn 41 u45.2) fun u47 => qj_X13_primary_138 nn rd (p : Int) u45.1 u47) Y) : Pc (qo_X13_primary nn rd a r) Y := by
  have n3 := BK.2.1
  have kd := r_kd BK B (t := p) (by omega)
  unfold qo_X13_primary
  rw [hc]
  refine pc_rA ?_; intro _ _ v20 e20
  rw [Int.toNat_natCast] at e20
  refine pc_if (fun _ => ?_) (fun z => absurd (by omega) z)
  refine pc_rA ?_; intro _ _ v23 e23
  rw [Int.toNat_natCast] at e23
  refine pc_if (fun _ => ?_) (fun z => absurd (by omega) z)
  refine pc_sv (r_sgn BK B rfl (by omega) (k := 40) (by decide) (by decide)) ?_; intro u26 q26
  refine pc_if (fun z => absurd z (by omega)) (fun _ => ?_)
  refine pc_add (by omega) ?_; intro v42 e42
  refine pc_xl ?_; intro h43 e43
  rw [show v42 = ((p + 1 : Nat) : Int) by omega] at e43
  rw [e43]; exact H
theorem rp_name (BK : TBn K c) (B : TBq K P c r) (hp : p < c) (hc : r 160 23 = (p : Int)) (kp : K p = 2) (H : Pc (mx_sv (qf_X13_add nn 25 (p : Int) (p : Int) (up_M r 160 23 ((p + 1 : Nat) : Int))) fun u53 => mx_sv (qf_X13_isSign nn (u53.2 160 23) 40 u53.2) fun u56 => if u56 = 0 then (some (u53.1, u53.2)) else (wr_A 9000 167 u53.1 26 u53.2 fun h58 => mx_sv (rd.2.2.2.1 a h58) fun u61 => wr_A 9000 171 u53.1 u61.1 u61.2 fun h62 => some (u53.1, h62))) Y) : Pc (qo_X13_primary nn rd a r) Y := by
  have n3 := BK.2.1
  have kd := r_kd BK B (t := p) (by omega)
  unfold qo_X13_primary
  rw [hc]
  refine pc_rA ?_; intro _ _ v20 e20
  rw [Int.toNat_natCast] at e20
  refine pc_if (fun _ => ?_) (fun z => absurd (by omega) z)
  refine pc_rA ?_; intro _ _ v23 e23
  rw [Int.toNat_natCast] at e23
  refine pc_if (fun z => absurd (by omega) z) (fun _ => ?_)
  refine pc_add (by omega) ?_; intro v50 e50
  refine pc_xl ?_; intro h51 e51
  rw [show v50 = ((p + 1 : Nat) : Int) by omega] at e51
  rw [e51]; exact H
end
theorem je_P (BK : TBn K c) {rc : tq_X8_readValue} {rd rd2 : tq_X13_expression} {a : Int} (ha : 0 ≤ a ∧ a ≤ 40) (Gc : FScG_X8_readValue rc) (Gr : FSrG_X13_expression rd) (G2 : FSrG_X13_expression rd2) (IE : PE K P c 0 rc.1 rd.1) (IA : PAr K P c rc.2.2.2.2.2 rd.2.2.2.1) (IA0 : ∀ (q : Nat) (h : ms_M), TBc K P c h → q < c → h 2 10 = (q : Int) → h 2 11 = 0 → ¬ K q = 40 → Pc (rc.2.2.2.2.2 a h) (fun u => u = h)) (IN : PNw K P c rc.2.2.2.2.1 rd.2.2.2.2.2.2) (J : JPp K P c p h r) (hr : 0 ≤ r 160 22) (IB : ∀ (k q : Nat) (h1 r1 : ms_M) (e i : Int), JPp K P c q h1 r1 → p < q → r 160 22 ≤ r1 160 22 → CHl a K r1 3 i 0 (r 160 22) (r1 160 22) (p : Int) (q : Int) e → Pc (rc.2.2.2.1 a h1) (fun u => Pc (qw_X13_postfix_11 nn rd2 k a (p : Int) e r1) (fun v => JB a K P c p (r 160 22) r1 u v))) : Pc (qo_X8_readPrimary nn rc a h) (fun u => Pc (qo_X13_primary nn rd a r) (fun y => Pc (qw_X13_postfix_11 nn rd2 nn a (p : Int) y.1 y.2) (fun v => JE a K P c p 2 r u v))) := by
  have n3 := BK.2.1
  have J0 := J
  obtain ⟨b, d2, ⟨g1, g2, g3⟩, g4, g5⟩ := J
  have BEH : ∀ (q : Nat) (h1 : ms_M) (e1 : Int × ms_M) (i : Int), JPp K P c q h1 e1.2 → p < q → NDf r e1.2 → CHl a K e1.2 3 i 0 (r 160 22) (e1.2 160 22) (p : Int) (q : Int) e1.1 → Pc (qj_X8_readPrimary_160 nn rc a h1) (fun u => Pc (qw_X13_postfix_11 nn rd2 nn a (p : Int) e1.1 e1.2) (fun v => JE a K P c p 2 r u v)) := fun q h1 e1 i Jq pq N CH => by
    unfold qj_X8_readPrimary_160
    refine pc_se ?_; intro u2 e2
    refine pc_ret ?_
    refine pc_imp (IB nn q h1 e1.2 e1.1 i Jq pq N.1 CH u2 e2) (fun v z => ?_)
    rcases z with z | ⟨q2, i2, z1, z2, z3⟩
    · exact .inl z
    · exact .inr ⟨q2, i2, z1, z2.1, ⟨z2.2.1, z2.2.2.1⟩, ndf_t N z3⟩
  have SFB : ∀ (h1 : ms_M) (e1 : Int × ms_M), SFj h1 e1.2 → Pc (qj_X8_readPrimary_160 nn rc a h1) (fun u => Pc (qw_X13_postfix_11 nn rd2 nn a (p : Int) e1.1 e1.2) (fun v => JE a K P c p 2 r u v)) := fun h1 e1 S => pj_sf (o := fun a => a) (q := fun b => b.2) S (fs_qj_X8_readPrimary_160 Gc S.1) (ft_qw_X13_postfix_11 G2 _ _ _ _ _ (sf_r S)) (fun a b s => .inl s)
  have UP : 2 ≤ K p → JPp K P c (p + 1) (up_M h 2 10 ((p + 1 : Nat) : Int)) (up_M r 160 23 ((p + 1 : Nat) : Int)) := fun k => jp_up BK J0 (jp_lt BK g3 k)
  have LIT : ∀ k : Int, ((k = 20 ∧ K p = 3) ∨ (k = 21 ∧ K p = 28) ∨ (k = 22 ∧ K p = 17) ∨ (k = 23 ∧ K p = 22) ∨ (k = 24 ∧ K p = 26)) → Pc (qj_X8_readPrimary_80 nn rc a h) (fun u => Pc (mx_sv (qf_X13_add nn k (p : Int) (p : Int) (up_M r 160 23 ((p + 1 : Nat) : Int))) fun u4 => some (u4.1, u4.2)) (fun y => Pc (qw_X13_postfix_11 nn rd2 nn a (p : Int) y.1 y.2) (fun v => JE a K P c p 2 r u v))) := fun k hk => by
    have J1 := UP (by omega)
    unfold qj_X8_readPrimary_80
    rw [g1]
    refine pc_add (by omega) ?_; intro v5 e5
    refine pc_xl ?_; intro h6 e6
    rw [show v5 = ((p + 1 : Nat) : Int) by omega] at e6
    rw [← e6] at J1
    refine pc_fl ?_
    refine pc_sv r_add ?_; intro u4 q4
    obtain ⟨⟨x1, x2, x3⟩, ND, FR⟩ := q4
    rw [up_n (by omega)] at x1 x2 x3 ND FR
    refine pc_ret (BEH (p + 1) h6 (u4.1, u4.2) 0 (jp_r J1 (fun c k z => FR c k (by omega) (by omega))) (by omega) ⟨by show _ ≤ u4.2 160 22; omega, fun c x c1 c2 c3 => by show u4.2 c x = _; rw [FR c x (by omega) (by omega), up_n (by omega)]⟩ ?_)
    show CHl a K u4.2 3 0 0 _ (u4.2 160 22) _ _ u4.1
    rw [x2]
    refine ch_mk (lk_pl ⟨hr, Int.le_refl _, by omega⟩ ⟨?_, ND.1.2.1, by omega⟩ ha) (by decide) ⟨ND.1.2.2, ND.2.2.2.2⟩
    rw [Int.toNat_natCast, ND.1.1]; omega
  unfold qo_X8_readPrimary
  refine pc_sv (c_kind BK b g3 g1 g4) ?_; intro u9 q9
  refine pc_if (fun z => ?_) (fun z2 => ?_)
  · -- NAME
    have kp : K p = 2 := by omega
    have J1 := UP (by omega)
    rw [g1]
    refine pc_add (by omega) ?_; intro v15 e15
    refine pc_xl ?_; intro h16 e16
    rw [show v15 = ((p + 1 : Nat) : Int) by omega] at e16
    rw [← e16] at J1
    refine pc_fl ?_
    refine rp_name BK d2 g3 g2 kp ?_
    refine pc_sv r_add ?_; intro u53 q53
    obtain ⟨⟨x1, x2, x3⟩, ND, FR⟩ := q53
    rw [up_n (by omega)] at x1 x2 x3 ND FR
    have J53 : JPp K P c (p + 1) h16 u53.2 := jp_r J1 (fun c k z => FR c k (by omega) (by omega))
    have N53 : NDf r u53.2 := ⟨by rw [x3]; omega, fun c x c1 c2 c3 => by rw [FR c x (by omega) (by omega), up_n (by omega)]⟩
    have J53' := J53
    obtain ⟨b1, d1, ⟨k1, k2, k3⟩, k4, k5⟩ := J53'
    rw [k2]
    refine pc_sv (r_sgn BK d1 rfl (by omega) (k := 40) (by decide) (by decide)) ?_; intro u56 q56
    by_cases k40 : K (p + 1) = 40
    · refine pc_if (fun z => absurd z (by omega)) (fun _ => ?_)
      refine pc_wA ?_; intro i1 i2 h58 e58
      rw [x2] at e58
      have ND58 := nd_7 (z := 26) ND
      rw [← e58] at ND58
      have n58 : h58 160 22 = r 160 22 + 1 := by rw [e58, up_n (by omega)]; exact x3
      have N58 : NDf r h58 := by rw [e58]; exact ndf_w N53 (by decide) (by omega)
      refine pc_fl ?_
      refine p2_sv (IA a (p + 1) h16 h58 ha (by rw [e58]; exact jp_w J53 (by decide)) (by omega) k40) ?_; intro u18 u61 q61
      refine pc_fl ?_
      refine pc_wA ?_; intro j1 j2 h62 e62
      rw [x2] at e62
      refine pc_ret ?_
      rcases q61 with S | ⟨q, ⟨Jq, pq⟩, Lq, N61⟩
      · refine SFB u18 (u53.1, h62) ?_
        show SFj u18 h62
        refine ⟨S.1, ?_, ?_⟩
        · rw [e62, up_n (by omega)]; exact S.2.1
        · rw [e62, up_n (by omega)]; exact S.2.2
      · have nn61 := N61.1
        have ND62 := nd_1 (z := u61.1) (nd_nd ND58 (by omega) (by omega) N61)
        rw [← e62] at ND62
        have n62 : h62 160 22 = u61.2 160 22 := by rw [e62, up_n (by omega)]
        have o1 := ND62.2.1.2.1
        refine BEH q u18 (u53.1, h62) 0 (by show JPp K P c q u18 h62; rw [e62]; exact jp_w Jq (by decide)) (by omega) (by show NDf r h62; rw [e62]; exact ndf_w (ndf_t N58 N61) (by decide) (by omega)) ?_
        show CHl a K h62 3 0 0 _ (h62 160 22) _ _ u53.1
        rw [x2]
        refine ch_mk (lk_pc ⟨hr, Int.le_refl _, by omega⟩ ⟨ND62.1.1, ND62.1.2.1⟩ (by rw [Int.toNat_natCast]; exact kp) ?_ ha) (by decide) ⟨ND62.1.2.2, ND62.2.2.2.2⟩
        rw [o1, n62, ← n58, show (p : Int) + 1 = ((p + 1 : Nat) : Int) by omega, e62]
        exact lk_w Lq (.inl (.inl (by omega)))
    · refine pc_if (fun _ => ?_) (fun z => absurd (by omega) z)
      refine pc_ret ?_
      refine pc_sv (IA0 (p + 1) h16 b1 k3 k1 k4 k40) ?_; intro u18 e18
      rw [e18]
      refine BEH (p + 1) h16 (u53.1, u53.2) 0 J53 (by omega) N53 ?_
      show CHl a K u53.2 3 0 0 _ (u53.2 160 22) _ _ u53.1
      rw [x2]
      exact ch_mk (lk_pn ⟨hr, Int.le_refl _, by omega⟩ ⟨ND.1.1, ND.1.2.1⟩ ⟨by rw [Int.toNat_natCast]; exact kp, by rw [show ((p : Int) + 1).toNat = p + 1 by omega]; exact k40, by omega⟩ ha) (by decide) ⟨ND.1.2.2, ND.2.2.2.2⟩
  refine pc_if (fun z => ?_) (fun z3 => ?_)
  · exact pc_fl (rp_num BK d2 g3 g2 (by omega) (pc_fl (LIT 20 (by omega))))
  refine pc_if (fun z => ?_) (fun z17 => ?_)
  · exact pc_fl (rp_w BK d2 g3 g2 (k := 22) (w := 7) (by omega) (by omega) (pc_fl (LIT 22 (by omega))))
  refine pc_if (fun z => ?_) (fun z21 => ?_)
  · -- new
    refine pc_fl ?_
    refine rp_new BK d2 g3 g2 (by omega) ?_
    refine pc_fl ?_
    refine p2_sv (IN a p h r ha J0 hr (by omega)) ?_; intro u20 u34 q34
    refine pc_fl ?_
    refine pc_ret ?_
    rcases q34 with S | ⟨q, i, ⟨Jq, pq⟩, Lq, lab, Nq⟩
    · exact SFB u20 (u34.1, u34.2) S
    · exact BEH q u20 (u34.1, u34.2) i Jq pq Nq (ch_mk Lq (by decide) lab)
  refine pc_if (fun z => ?_) (fun z22 => ?_)
  · exact pc_fl (rp_w BK d2 g3 g2 (k := 23) (w := 12) (by omega) (by omega) (pc_fl (LIT 23 (by omega))))
  refine pc_if (fun z => ?_) (fun z26 => ?_)
  · exact pc_fl (rp_w BK d2 g3 g2 (k := 24) (w := 16) (by omega) (by omega) (pc_fl (LIT 24 (by omega))))
  refine pc_if (fun z => ?_) (fun z28 => ?_)
  · exact pc_fl (rp_w BK d2 g3 g2 (k := 21) (w := 18) (by omega) (by omega) (pc_fl (LIT 21 (by omega))))
  refine pc_if (fun z => ?_) (fun z40 => ?_)
  · -- ( E )
    have kp : K p = 40 := by omega
    have J1 := UP (by omega)
    rw [g1]
    refine pc_add (by omega) ?_; intro v23 e23
    refine pc_xl ?_; intro h24 e24
    rw [show v23 = ((p + 1 : Nat) : Int) by omega] at e24
    rw [← e24] at J1
    refine pc_fl ?_
    refine rp_par BK d2 g3 g2 kp ?_
    refine pc_fl ?_
    have n1 : up_M r 160 23 ((p + 1 : Nat) : Int) 160 22 = r 160 22 := up_n (by omega)
    have N1 : NDf r (up_M r 160 23 ((p + 1 : Nat) : Int)) := ndf_c ndf_r (by decide)
    refine p2_sv (IE a (p + 1) h24 _ ha J1 (by rw [n1]; exact hr)) ?_; intro u26 u45 q45
    rcases q45 with S | ⟨t, i, ⟨Jt, pt⟩, Lt, labt, Nt⟩
    · refine pc_se ?_; intro u28 e28
      have F28 := fs_qf_X8_need S.1 u28 e28
      refine pc_fl ?_
      refine pc_sv (ft_qf_X13_sign_ (sf_r S)) ?_; intro u47 q47
      have S2 := sf_k S F28 q47
      unfold qj_X13_primary_138
      refine pc_if (fun z => absurd z (sf_r S2)) (fun _ => ?_)
      exact pc_ret (SFB u28 (-1, u47) S2)
    · refine p2_sv (j_need BK Jt (k := 41) (by decide) (by decide)) ?_; intro u28 u47 q47
      refine pc_fl ?_
      unfold qj_X13_primary_138
      rcases q47 with ⟨k41, m47, J47⟩ | S
      · have f47 : u47 160 9 = 0 := J47.2.2.2.2
        refine pc_if (fun _ => ?_) (fun z => absurd f47 z)
        refine pc_wA ?_; intro j1 j2 h13 e13
        refine pc_wZ ?_; intro j3 j4 h15 e15
        refine pc_ret ?_
        have N47 : NDf u45.2 u47 := by rw [m47]; exact ndf_c ndf_r (by decide)
        have rg := lk_rg Lt (by decide) (by decide)
        rw [n1] at rg
        have n47 : u47 160 22 = u45.2 160 22 := by rw [m47, up_n (by omega)]
        have n15 : h15 160 22 = u45.2 160 22 := by rw [e15, up_n (by omega), e13, up_n (by omega)]; exact n47
        have N15 : NDf r h15 := by
          rw [e15, e13]
          exact ndf_w (ndf_w (ndf_t (ndf_t N1 Nt) N47) (by decide) (by omega)) (by decide) (by omega)
        refine BEH (t + 1) u28 (u45.1, h15) 1 (by show JPp K P c (t + 1) u28 h15; rw [e15, e13]; exact jp_w (jp_w J47 (by decide)) (by decide)) (by omega) N15 ?_
        show CHl a K h15 3 1 0 _ (h15 160 22) _ _ u45.1
        have LL : LKn a K h15 0 i 0 (r 160 22) (u45.2 160 22) ((p + 1 : Nat) : Int) (t : Int) u45.1 := by
          rw [n1] at Lt
          refine lk_map Lt (fun c x c1 c2 _ x1 x2 x3 _ => ?_)
          rw [e15, e13]
          by_cases y1 : c = 177 ∧ x = u45.1.toNat
          · exact absurd (by decide) (x3 (.inr y1.1) (by omega))
          · rw [up_n y1]
            by_cases y2 : c = 169 ∧ x = u45.1.toNat
            · exact absurd (by decide) (x3 (.inl y2.1) (by omega))
            · rw [up_n y2]; exact N47.2 c x c1 c2 x2
        rw [n15]
        refine ch_mk (lk_pb (i := i) (t := (t : Int)) ⟨by rw [Int.toNat_natCast]; exact kp, by rw [Int.toNat_natCast]; exact k41, by omega⟩ (by rw [show (p : Int) + 1 = ((p + 1 : Nat) : Int) by omega]; exact LL)) (by decide) ⟨?_, ?_⟩
        · rw [e15, up_n (by omega), e13, up_s]
        · rw [e15, up_s]
      · refine pc_if (fun z => absurd z (sf_r S)) (fun _ => ?_)
        exact pc_ret (SFB u28 (-1, u47) S)
  · -- none begins so
    refine pc_fl ?_
    refine rp_bad BK d2 g3 g2 (by omega) ?_
    refine pc_fl ?_
    refine pc_sv (c_here BK b g3 g1 g4) ?_; intro u12 q12
    refine pc_fl ?_
    refine pc_sv (r_mis BK d2 g3 g2 g5) ?_; intro u2 q2
    refine pc_ret (SFB u12 (-1, u2) ⟨?_, ?_, ?_⟩)
    · rw [q12.1]; exact tl_0 (by decide)
    · show u2 160 9 = _; rw [q2.1, q12.1]
    · show u2 160 10 = _; rw [q2.2, q12.2]
/-- all readers of E, at any depth of the class's and the reference's calls -/
def GJ (nn : Nat) (K P : Nat → Int) (c d : Nat) : Prop := ∀ d2 : Nat, PE K P c 0 (qg_X8_readValue nn d).1 (qg_X13_expression nn d2).1 ∧ PE K P c 2 (qg_X8_readValue nn d).2.1 (qg_X13_expression nn d2).2.2.1 ∧ PP K P c (qg_X8_readValue nn d).2.2.1 (qg_X13_expression nn d2).2.2.2.2.1 ∧ PAr K P c (qg_X8_readValue nn d).2.2.2.2.2 (qg_X13_expression nn d2).2.2.2.1 ∧ PNw K P c (qg_X8_readValue nn d).2.2.2.2.1 (qg_X13_expression nn d2).2.2.2.2.2.2
theorem gj_a0 (BK : TBn K c) {a : Int} : ∀ (d q : Nat) (h : ms_M), TBc K P c h → q < c → h 2 10 = (q : Int) → h 2 11 = 0 → ¬ K q = 40 → Pc ((qg_X8_readValue nn d).2.2.2.2.2 a h) (fun u => u = h) := by
  intro d q h B hq hc hf k
  cases d with
  | zero => exact pc_none
  | succ d => exact je_A0 BK B hq hc hf k
theorem gj_all (BK : TBn K c) : ∀ d : Nat, GJ nn K P c d := by
  intro d
  induction d using Nat.strongRecOn with
  | ind d ih =>
    intro d2
    cases d with
    | zero => exact ⟨fun a p h r _ _ _ => pc_none, fun a p h r _ _ _ => pc_none, fun a p h r _ _ _ _ => pc_none, fun a p h r _ _ _ _ => pc_none, fun a p h r _ _ _ _ => pc_none⟩
    | succ d =>
      have I := ih d (by omega)
      have Gc := fsg_X8_readValue nn d
      cases d2 with
      | zero => exact ⟨fun a p h r _ _ _ => fun _ _ => pc_none, fun a p h r _ _ _ => fun _ _ => pc_none, fun a p h r _ _ _ _ => fun _ _ => pc_none, fun a p h r _ _ _ _ => fun _ _ => pc_none, fun a p h r _ _ _ _ => fun _ _ => pc_none⟩
      | succ d2 =>
        refine ⟨fun a p h r ha J hr => ?_, fun a p h r ha J hr => ?_, fun a p h r ha J hr pf => ?_, fun a p h r ha J hr kp => ?_, fun a p h r ha J hr kp => ?_⟩
        · exact je_E BK ha Gc (fun d => (I d).2.1) (fun d => (I d).1) J hr
        · exact je_U BK ha Gc (I d2).2.1 (I d2).2.2.1 J hr
        · show Pc (qo_X8_readPrimary nn (qg_X8_readValue nn d) a h) (fun u => Pc (qo_X13_postfix nn (qg_X13_expression nn d2) a r) (fun v => JE a K P c p 2 r u v))
          unfold qo_X13_postfix
          rw [J.2.2.1.2.1]
          refine pc_fl (pc_sb ?_)
          cases d2 with
          | zero => exact pc_none
          | succ d2 =>
            show Pc (qo_X13_primary nn (qg_X13_expression nn d2) a r) _
            have R := je_P (nn := nn) (rd := qg_X13_expression nn d2) (rd2 := qg_X13_expression nn (d2 + 1)) BK ha Gc (ftg_X13_expression nn d2) (ftg_X13_expression nn (d2 + 1)) (I d2).1 (I d2).2.2.2.1 (fun q h B hq hc hf k => gj_a0 BK d q h B hq hc hf k) (I d2).2.2.2.2 J hr (fun k q h1 r1 e i J1 pq hn CH => by
              cases d with
              | zero => exact pc_none
              | succ d0 =>
                have I0 := ih d0 (by omega) (d2 + 1)
                exact jb_4 BK ha (fsg_X8_readValue nn d0) (ftg_X13_expression nn (d2 + 1)) I0.1 I0.2.2.2.1 (fun q h B hq hc hf k => gj_a0 BK d0 q h B hq hc hf k) hr pf nn k q h1 r1 e i 0 J1 pq hn CH (by omega))
            exact fun y ey => pc_fl (fun u eu => R u eu y ey)
        · exact je_A BK ha Gc (I d2).1 J hr kp
        · exact je_N BK ha Gc (I d2).1 J hr kp
/-- E of both sides -/
theorem j_value (BK : TBn K c) {a : Int} (ha : 0 ≤ a ∧ a ≤ 40) (J : JPp K P c p h r) (hr : 0 ≤ r 160 22) : Pc (qf_X8_readValue nn a h) (fun u => Pc (qf_X13_expression nn a r) (fun v => JE a K P c p 0 r u v)) := (gj_all BK 260 700).1 a p h r ha J hr
end
