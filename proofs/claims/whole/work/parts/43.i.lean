/- PARSE: ARGS, new -/
section
variable {nn : Nat} {K P : Nat → Int} {c p : Nat} {h g r w u v : ms_M}
theorem je_A (BK : TBn K c) {rc : tq_X8_readValue} {d : Nat} {a : Int} (ha : 0 ≤ a ∧ a ≤ 40) (Gc : FScG_X8_readValue rc) (IE : PE K P c 0 rc.1 (qg_X13_expression nn d).1) (J : JPp K P c p h r) (hr : 0 ≤ r 160 22) (kp : K p = 40) : Pc (qo_X8_readArguments nn rc a h) (fun u => Pc (qo_X13_arguments nn (qg_X13_expression nn d) a r) (fun v => JA a K P c p r u v)) := by
  have n3 := BK.2.1
  have Gr := ftg_X13_expression nn d
  have J0 := J
  obtain ⟨b, d2, ⟨g1, g2, g3⟩, g4, g5⟩ := J
  have q1c := jp_lt BK g3 (by omega)
  have J1 := jp_up BK J0 q1c
  unfold qo_X8_readArguments qo_X13_arguments
  refine pc_sv (c_acc BK b g3 g1 g4) ?_; intro u11 q11
  rcases q11 with ⟨-, m11⟩ | ⟨z, -⟩
  · rw [m11]
    dsimp only
    refine pc_if (fun z => absurd z (by decide)) (fun _ => ?_)
    refine pc_fl ?_
    refine pc_sv (r_sign_ BK d2 g3 g2 g5 (k := 40) (by decide) (by decide)) ?_; intro u28 q28
    rcases q28 with ⟨-, m28⟩ | ⟨z, -⟩
    · rw [← m28] at J1
      have J1' := J1
      obtain ⟨b1, d1, ⟨k1, k2, k3⟩, k4, k5⟩ := J1'
      have n28 : u28 160 22 = r 160 22 := by rw [m28, up_n (by omega)]
      have N28 : NDf r u28 := by rw [m28]; exact ndf_c ndf_r (by decide)
      refine pc_fl ?_
      refine pc_sv (c_acc BK b1 k3 k1 k4) ?_; intro u13 q13
      rcases q13 with ⟨k41, m13⟩ | ⟨k41, m13⟩
      · -- none
        rw [m13]
        dsimp only
        refine pc_if (fun z => absurd z (by decide)) (fun _ => ?_)
        refine pc_ret ?_
        cases nn with
        | zero => exact pc_none
        | succ m =>
          unfold qw_X13_arguments_10
          refine pc_if (fun z => absurd k5 z) (fun _ => ?_)
          rw [k2]
          refine pc_sv (r_sgn BK d1 rfl (by omega) (k := 41) (by decide) (by decide)) ?_; intro u21 q21
          refine pc_if (fun _ => ?_) (fun z => absurd (by omega) z)
          unfold qj_X13_arguments_113
          refine pc_sv (r_sign_ BK d1 k3 k2 k5 (k := 41) (by decide) (by decide)) ?_; intro u2 q2
          rcases q2 with ⟨-, m2⟩ | ⟨z, -⟩
          · refine pc_ret (.inr ⟨p + 2, ⟨?_, by omega⟩, ?_, ?_⟩)
            · show JPp K P c (p + 2) _ u2
              rw [m2]; exact jp_up BK J1 (jp_lt BK k3 (by omega))
            · exact lk_an ⟨by rw [Int.toNat_natCast]; exact kp, by rw [show ((p : Int) + 1).toNat = p + 1 by omega]; exact k41, by omega⟩
            · show NDf r u2
              rw [m2]; exact ndf_c N28 (by decide)
          · exact absurd k41 z
      · -- some
        rw [m13]
        dsimp only
        refine pc_if (fun _ => ?_) (fun z => absurd rfl z)
        refine pc_fl ?_
        cases hnn : nn with
        | zero => exact pc_none
        | succ m =>
          unfold qw_X13_arguments_10
          refine pc_if (fun z => absurd k5 z) (fun _ => ?_)
          rw [k2]
          refine pc_sv (r_sgn BK d1 rfl (by omega) (k := 41) (by decide) (by decide)) ?_; intro u21 q21
          refine pc_if (fun z => absurd (by omega) z) (fun _ => ?_)
          refine pc_if (fun _ => ?_) (fun z => absurd rfl z)
          refine pc_fl ?_
          rw [hnn] at IE Gr
          refine (fun uu euu w ew => ?_)
          have R := ja_41 BK ha Gc Gr IE (m + 1) m (p + 1) _ u28 (-1) (-1) 0 J1 (by omega) (.inl rfl) (by omega) uu euu w ew
          rcases R with R | ⟨q2, x, ⟨R1, R2⟩, R3, R4, R5, R6, R7⟩
          · exact .inl R
          · have wx : w.1 = x := by
              rcases R5 with ⟨-, z⟩ | ⟨z, -⟩
              · exact z
              · exact absurd rfl z
            refine .inr ⟨q2, ⟨R1, by omega⟩, ?_, ?_⟩
            · rw [wx, ← n28]
              refine lk_al ⟨by rw [Int.toNat_natCast]; exact kp, by rw [show ((p : Int) + 1).toNat = p + 1 by omega]; exact k41⟩ ?_
              rw [show (p : Int) + 1 = ((p + 1 : Nat) : Int) by omega]; exact R3
            · exact ndf_t N28 ⟨R6, fun c x c1 c2 c3 => R7 c x c1 c2 c3 (fun z => z.2.2 rfl)⟩
    · exact absurd kp z
  · exact absurd kp z
theorem je_A0 (BK : TBn K c) {rc : tq_X8_readValue} {a : Int} (B : TBc K P c h) (hp : p < c) (hc : h 2 10 = (p : Int)) (hf : h 2 11 = 0) (kp : ¬ K p = 40) : Pc (qo_X8_readArguments nn rc a h) (fun u => u = h) := by
  unfold qo_X8_readArguments
  refine pc_sv (c_acc BK B hp hc hf) ?_; intro u11 q11
  rcases q11 with ⟨z, -⟩ | ⟨-, m11⟩
  · exact absurd z kp
  · rw [m11]
    exact pc_if (fun _ => pc_ret rfl) (fun z => absurd rfl z)
/-- [ E ] behind a node n of new: both sides -/
theorem je_N45 (BK : TBn K c) {rc : tq_X8_readValue} {rd : tq_X13_expression} {a : Int} (ha : 0 ≤ a ∧ a ≤ 40) (Gc : FScG_X8_readValue rc) (Gr : FSrG_X13_expression rd) (IE : PE K P c 0 rc.1 rd.1) {q : Nat} {n n1 : Int} (J : JPp K P c q h r) (hn : 0 ≤ n ∧ n + 1 = r 160 22) {R : ms_M → Int × ms_M → Prop} (HS : ∀ u v, SFj u v.2 → R u v) (HO : ∀ (u : ms_M) (v : ms_M) (q2 t : Nat) (ix e : Int), JPp K P c (t + 1) u v → q < t → K t = 45 → CHl a K v 0 ix 0 (n + 1) (v 160 22) (q : Int) (t : Int) e → v 170 n.toNat = e → (r 160 22 ≤ v 160 22 ∧ ∀ c x : Nat, 167 ≤ c → c ≤ 177 → (x : Int) < r 160 22 → ¬ (c = 170 ∧ x = n.toNat) → v c x = r c x) → R u (n, v)) : Pc (mx_sv (rc.1 a h) fun u4 => mx_sv (qf_X8_need nn 45 u4) fun u6 => some u6) (fun u => Pc (mx_sv (rd.1 a r) fun u3 => wr_A 9000 170 n u3.1 u3.2 fun h4 => mx_sv (qf_X13_sign_ nn 93 h4) fun u6 => some (n, u6)) (fun v => R u v)) := by
  refine p2_sv (IE a q h r ha J (by omega)) ?_; intro u4 u3 q3
  rcases q3 with S | ⟨t, ix, ⟨J1, pq⟩, L1, lab1, N1⟩
  · refine pj_sf (o := fun a => a) (q := fun b => b.2) S ?_ ?_ (fun a b s => HS a b s)
    · refine pc_sv (fs_qf_X8_need S.1) ?_; intro u6 Q6
      exact pc_ret Q6
    · refine pc_wA ?_; intro _ _ h4 E4
      have F4 : FSr u3.2 h4 := by rw [E4]; exact ft_u ft_r (by omega)
      refine pc_sv (ft_qf_X13_sign_ (ft_n (sf_r S) F4)) ?_; intro u6 Q6
      exact pc_ret (ft_t F4 Q6)
  · have C1 := ch_mk L1 (by decide) lab1
    refine pc_fl ?_
    refine pc_wA ?_; intro i1 i2 h4 e4
    refine pc_fl ?_
    have J4 : JPp K P c t u4 h4 := by rw [e4]; exact jp_w J1 (by decide)
    refine p2_sv (j_need BK J4 (k := 45) (by decide) (by decide)) ?_; intro u6 w6 q6
    rcases q6 with ⟨k45, m6, J6⟩ | S
    · refine pc_ret (pc_ret ?_)
      have nn1 := N1.1
      have N6 : NDf h4 w6 := by rw [m6]; exact ndf_c ndf_r (by decide)
      have n4 : h4 160 22 = u3.2 160 22 := by rw [e4, up_n (by omega)]
      have n6 : w6 160 22 = u3.2 160 22 := by rw [m6, up_n (by omega)]; exact n4
      refine HO u6 w6 0 t ix u3.1 J6 pq k45 ?_ ?_ ⟨by omega, fun c x c1 c2 c3 c4 => ?_⟩
      · rw [n6, hn.2]
        refine ch_nd (v := h4) ?_ (by omega) N6
        rw [e4]; exact ch_w C1 (.inl (.inl (by omega)))
      · rw [m6, up_n (by omega), e4, up_s]
      · rw [m6, up_n (by omega), e4, up_n (by omega)]; exact N1.2 c x c1 c2 c3
    · exact pc_ret (pc_ret (HS _ _ S))
theorem je_N (BK : TBn K c) {rc : tq_X8_readValue} {d : Nat} {a : Int} (ha : 0 ≤ a ∧ a ≤ 40) (Gc : FScG_X8_readValue rc) (IE : PE K P c 0 rc.1 (qg_X13_expression nn d).1) (J : JPp K P c p h r) (hr : 0 ≤ r 160 22) (kp : K p = 21) : Pc (qo_X8_readNew nn rc a h) (fun u => Pc (qo_X13_fresh nn (qg_X13_expression nn d) a r) (fun v => JE a K P c p 3 r u v)) := by
  have n3 := BK.2.1
  have Gr := ftg_X13_expression nn d
  have J0 := J
  obtain ⟨b, d2, ⟨g1, g2, g3⟩, g4, g5⟩ := J
  have q1c := jp_lt BK g3 (by omega)
  have J1 := jp_up BK J0 q1c
  have E1 : ((p : Int) + 1).toNat = p + 1 := by omega
  have E2 : ((p : Int) + 2).toNat = p + 2 := by omega
  have E3 : ((p : Int) + 3).toNat = p + 3 := by omega
  unfold qo_X8_readNew qo_X13_fresh
  rw [g1, g2]
  refine pc_add (by omega) ?_; intro v9 e9
  refine pc_xl ?_; intro h10 e10
  refine pc_fl ?_
  refine pc_add (by omega) ?_; intro w9 f9
  refine pc_xl ?_; intro r10 f10
  rw [show v9 = ((p + 1 : Nat) : Int) by omega] at e10
  rw [show w9 = ((p + 1 : Nat) : Int) by omega] at f10
  rw [← e10, ← f10] at J1
  have J1' := J1
  obtain ⟨b1, d1, ⟨k1, k2, k3⟩, k4, k5⟩ := J1'
  have n10 : r10 160 22 = r 160 22 := by rw [f10, up_n (by omega)]
  have N10 : NDf r r10 := by rw [f10]; exact ndf_c ndf_r (by decide)
  rw [k2]
  refine pc_sv (r_wrd BK d1 rfl (by omega) (by decide)) ?_; intro u13 q13
  refine pc_fl ?_
  refine pc_sv (c_acc BK b1 k3 k1 k4) ?_; intro u12 q12
  rcases q12 with ⟨k20, m12⟩ | ⟨k20, m12⟩
  · -- new int [ E ]
    rw [m12]
    dsimp only
    refine pc_if (fun _ => ?_) (fun z => absurd (show ¬ (1 : Int) = 0 by decide) z)
    refine pc_fl ?_
    refine pc_if (fun z => absurd z (by omega)) (fun _ => ?_)
    refine pc_add (by omega) ?_; intro v37 e37
    refine pc_xl ?_; intro h38 e38
    rw [show v37 = ((p + 2 : Nat) : Int) by omega] at e38
    have q2c := jp_lt BK k3 (by omega)
    have J2 := jp_up BK J1 (q := p + 2) q2c
    rw [← e38] at J2
    have c38 : h38 160 23 = ((p + 2 : Nat) : Int) := J2.2.2.1.2.1
    have n38 : h38 160 22 = r 160 22 := by rw [e38, up_n (by omega)]; exact n10
    rw [c38]
    refine pc_sv r_add ?_; intro u41 q41
    obtain ⟨⟨x1, x2, x3⟩, ND, FR⟩ := q41
    rw [n38] at x1 x2 x3 ND FR
    have J41 : JPp K P c (p + 2) (up_M h10 2 10 ((p + 2 : Nat) : Int)) u41.2 := jp_r J2 (fun c k z => FR c k (by omega) (by omega))
    refine pc_fl ?_
    unfold qj_X8_readNew_45
    refine p2_sv (j_need BK J41 (k := 44) (by decide) (by decide)) ?_; intro u2 u43 q43
    rcases q43 with ⟨k44, m43, J3⟩ | S
    · have n43 : u43 160 22 = r 160 22 + 1 := by rw [m43, up_n (by omega)]; exact x3
      have ND43 := nd_o (z := ((p + 2 + 1 : Nat) : Int)) (m := 160) (j := 23) ND (.inr (by decide))
      rw [← m43] at ND43
      have N43 : NDf r u43 := by
        rw [m43]; refine ndf_c ⟨by rw [x3]; omega, fun c x c1 c2 c3 => ?_⟩ (by decide)
        rw [FR c x (by omega) (by omega), e38, up_n (by omega)]; exact N10.2 c x c1 c2 c3
      rw [x2]
      refine je_N45 (nn := nn) BK ha Gc Gr IE (n := r 160 22) (n1 := 0) J3 ⟨hr, by omega⟩ (fun u v S => .inl S) (fun u v _ t ix e Jt qt k45 Ct on F => ?_)
      have ND4 : NDn v (r 160 22) 28 ((p + 2 : Nat) : Int) (p : Int) e (-1) (-1) (-1) 0 0 0 := by
        obtain ⟨⟨a1, a2, a3⟩, ⟨b1, b2, b3, b4⟩, d1, d2, d3⟩ := ND43
        exact ⟨⟨by rw [F.2 167 _ (by decide) (by decide) (by omega) (by omega)]; exact a1, by rw [F.2 168 _ (by decide) (by decide) (by omega) (by omega)]; exact a2, by rw [F.2 169 _ (by decide) (by decide) (by omega) (by omega)]; exact a3⟩, ⟨on, by rw [F.2 171 _ (by decide) (by decide) (by omega) (by omega)]; exact b2, by rw [F.2 172 _ (by decide) (by decide) (by omega) (by omega)]; exact b3, by rw [F.2 173 _ (by decide) (by decide) (by omega) (by omega)]; exact b4⟩, by rw [F.2 175 _ (by decide) (by decide) (by omega) (by omega)]; exact d1, by rw [F.2 176 _ (by decide) (by decide) (by omega) (by omega)]; exact d2, by rw [F.2 177 _ (by decide) (by decide) (by omega) (by omega)]; exact d3⟩
      have o := ND4.2.1.1
      refine .inr ⟨t + 1, 0, ⟨Jt, by omega⟩, ?_, ⟨ND4.1.2.2, ND4.2.2.2.2⟩, ⟨by have := F.1; show _ ≤ v 160 22; omega, fun c x c1 c2 c3 => by show v c x = _; rw [F.2 c x c1 c2 (by omega) (by omega)]; exact N43.2 c x c1 c2 c3⟩⟩
      exact lk_pi (ix := ix) (t := (t : Int)) ⟨hr, Int.le_refl _, by have := F.1; show _ < v 160 22; omega⟩ ⟨ND4.1.1, by show v 168 _ = _; rw [ND4.1.2.1]; omega⟩ ⟨by rw [Int.toNat_natCast]; exact kp, by rw [E1]; exact k20, by rw [E2]; exact k44⟩ (by show LKn a K v 0 ix 0 _ _ _ _ (v 170 _); rw [o, show (p : Int) + 3 = ((p + 2 + 1 : Nat) : Int) by omega]; exact Ct.1) (by show v 169 (v 170 _).toNat = _ ∧ v 177 (v 170 _).toNat = _; rw [o, show (p : Int) + 3 = ((p + 2 + 1 : Nat) : Int) by omega]; exact ⟨Ct.2.1, Ct.2.2.1⟩) ⟨by rw [Int.toNat_natCast]; exact k45, by omega⟩
    · refine pj_sf (o := fun a => a) (q := fun b => b.2) S ?_ ?_ (fun a b s => .inl s)
      · have S1 : ¬ u2 2 11 = 0 := S.1
        have F : FSc u2 u2 := fs_r
        refine pc_sv (Gc.1 (fs_n S1 F)) ?_; intro u4 Qu4
        have Fu4 : FSc u2 u4 := fs_t F Qu4
        refine pc_sv (fs_qf_X8_need (fs_n S1 Fu4)) ?_; intro u6 Qu6
        have Fu6 : FSc u2 u6 := fs_t Fu4 Qu6
        exact pc_ret Fu6
      · have S1 : ¬ u43 160 9 = 0 := sf_r S
        have F : FSr u43 u43 := ft_r
        refine pc_sv (Gr.1 (ft_n S1 F)) ?_; intro u46 Qu46
        have Fu46 : FSr u43 u46.2 := ft_t F Qu46
        refine pc_wA ?_; intro _ _ h47 Eh47
        have Fh47 : FSr u43 h47 := by rw [Eh47]; exact ft_u Fu46 (by omega)
        refine pc_sv (ft_qf_X13_sign_ (ft_n S1 Fh47)) ?_; intro u49 Qu49
        have Fu49 : FSr u43 u49 := ft_t Fh47 Qu49
        exact pc_ret Fu49
  · -- new NAME ..
    rw [m12]
    dsimp only
    refine pc_if (fun z => absurd rfl z) (fun _ => ?_)
    refine pc_fl ?_
    refine pc_if (fun _ => ?_) (fun z => absurd (by omega) z)
    refine pc_fl ?_
    refine p2_sv (j_name BK J1) ?_; intro u14 u15 q15
    rcases q15 with ⟨k2n, m15, J2⟩ | S
    · have w15 : u15.1 = ((p + 1 : Nat) : Int) := by rw [m15]
      have mm15 : u15.2 = up_M r10 160 23 ((p + 1 + 1 : Nat) : Int) := by rw [m15]
      have n15 : u15.2 160 22 = r 160 22 := by rw [mm15, up_n (by omega)]; exact n10
      have N15 : NDf r u15.2 := by rw [mm15]; exact ndf_c N10 (by decide)
      refine pc_fl ?_
      refine pc_if (fun _ => ?_) (fun z => absurd J2.2.2.2.2 z)
      refine pc_sv r_add ?_; intro u18 q18
      obtain ⟨⟨x1, x2, x3⟩, ND, FR⟩ := q18
      rw [n15] at x1 x2 x3 ND FR
      have J18 : JPp K P c (p + 1 + 1) u14 u18.2 := jp_r J2 (fun c k z => FR c k (by omega) (by omega))
      have N18 : NDf r u18.2 := ⟨by rw [x3]; omega, fun c x c1 c2 c3 => by rw [FR c x (by omega) (by omega)]; exact N15.2 c x c1 c2 c3⟩
      have J18' := J18
      obtain ⟨b2, d3, ⟨l1, l2, l3⟩, l4, l5⟩ := J18'
      rw [l2]
      refine pc_sv (r_sgn BK d3 rfl (by omega) (k := 44) (by decide) (by decide)) ?_; intro u21 q21
      refine pc_fl ?_
      refine pc_sv (c_acc BK b2 l3 l1 l4) ?_; intro u16 q16
      rcases q16 with ⟨k40, m16⟩ | ⟨k40, m16⟩
      · -- ( )
        rw [m16]
        dsimp only
        refine pc_if (fun z => absurd z (by decide)) (fun _ => ?_)
        refine pc_fl ?_
        refine pc_if (fun _ => ?_) (fun z => absurd (by omega) z)
        refine pc_sv (r_sign_ BK d3 l3 l2 l5 (k := 40) (by decide) (by decide)) ?_; intro u23 q23
        rcases q23 with ⟨-, m23⟩ | ⟨z, -⟩
        · have q3c := jp_lt BK l3 (by omega)
          have J3 : JPp K P c (p + 1 + 1 + 1) (up_M u14 2 10 ((p + 1 + 1 + 1 : Nat) : Int)) u23 := by rw [m23]; exact jp_up BK J18 q3c
          refine pc_fl ?_
          refine p2_sv (j_need BK J3 (k := 41) (by decide) (by decide)) ?_; intro y18 y25 z25
          rcases z25 with ⟨k41, m25, J4⟩ | S
          · refine pc_ret (pc_ret ?_)
            rw [x2]
            have ND25 := nd_o (z := ((p + 1 + 1 + 1 + 1 : Nat) : Int)) (m := 160) (j := 23) (nd_o (z := ((p + 1 + 1 + 1 : Nat) : Int)) (m := 160) (j := 23) ND (.inr (by decide))) (.inr (by decide))
            rw [← m23, ← m25] at ND25
            have n25 : y25 160 22 = r 160 22 + 1 := by rw [m25, up_n (by omega), m23, up_n (by omega)]; exact x3
            refine .inr ⟨p + 1 + 1 + 1 + 1, 0, ⟨J4, by omega⟩, ?_, ⟨ND25.1.2.2, ND25.2.2.2.2⟩, ?_⟩
            · exact lk_pm ⟨hr, Int.le_refl _, by show _ < y25 160 22; omega⟩ ⟨ND25.1.1, by show y25 168 _ = _; rw [ND25.1.2.1, w15]; omega⟩ ⟨by rw [Int.toNat_natCast]; exact kp, by rw [E1]; exact k2n, by rw [E2]; exact k40, by rw [E3]; exact k41, by omega⟩ ha
            · show NDf r y25
              rw [m25, m23]; exact ndf_c (ndf_c N18 (by decide)) (by decide)
          · exact pc_ret (pc_ret (.inl S))
        · exact absurd k40 z
      · -- [ E ]
        rw [m16]
        dsimp only
        refine pc_if (fun _ => ?_) (fun z => absurd rfl z)
        unfold qj_X8_readNew_45
        by_cases k44 : K (p + 1 + 1) = 44
        · refine pc_fl ?_
          refine pc_if (fun z => absurd z (by omega)) (fun _ => ?_)
          refine pc_wA ?_; intro i1 i2 h27 e27
          rw [x2] at e27
          have c27 : h27 160 23 = ((p + 1 + 1 : Nat) : Int) := by rw [e27, up_n (by omega)]; exact l2
          rw [c27]
          refine pc_wA ?_; intro i3 i4 h30 e30
          rw [x2] at e30
          have c30 : h30 160 23 = ((p + 1 + 1 : Nat) : Int) := by rw [e30, up_n (by omega)]; exact c27
          rw [c30]
          refine pc_add (by omega) ?_; intro v32 e32
          refine pc_xl ?_; intro h33 e33
          rw [show v32 = ((p + 1 + 1 + 1 : Nat) : Int) by omega] at e33
          have q3c := jp_lt BK l3 (by omega)
          have J30 : JPp K P c (p + 1 + 1) u14 h30 := by rw [e30, e27]; exact jp_w (jp_w J18 (by decide)) (by decide)
          have J33 : JPp K P c (p + 1 + 1 + 1) (up_M u14 2 10 ((p + 1 + 1 + 1 : Nat) : Int)) h33 := by rw [e33]; exact jp_up BK J30 q3c
          have ND33 := nd_o (z := ((p + 1 + 1 + 1 : Nat) : Int)) (m := 160) (j := 23) (nd_2 (z := ((p + 1 + 1 : Nat) : Int)) (nd_7 (z := 29) ND)) (.inr (by decide))
          rw [← e27, ← e30, ← e33] at ND33
          have N33 : NDf r h33 := by rw [e33, e30, e27]; exact ndf_c (ndf_w (ndf_w N18 (by decide) (by omega)) (by decide) (by omega)) (by decide)
          have n33 : h33 160 22 = r 160 22 + 1 := by rw [e33, up_n (by omega), e30, up_n (by omega), e27, up_n (by omega)]; exact x3
          refine pc_fl ?_
          refine pc_sv (c_need BK b2 l3 l1 l4) ?_; intro u2 q2
          rcases q2 with ⟨-, m2⟩ | ⟨z, -⟩
          · rw [m2]
            unfold qj_X13_fresh_142
            rw [x2]
            refine je_N45 (nn := nn) BK ha Gc Gr IE (n := r 160 22) (n1 := 0) J33 ⟨hr, by omega⟩ (fun u v S => .inl S) (fun u v _ t ix e Jt qt k45 Ct on F => ?_)
            have ND4 : NDn v (r 160 22) 29 u15.1 (p : Int) e (-1) ((p + 1 + 1 : Nat) : Int) (-1) 0 0 0 := by
              obtain ⟨⟨a1, a2, a3⟩, ⟨b1, b2, b3, b4⟩, d1, d2, d3⟩ := ND33
              exact ⟨⟨by rw [F.2 167 _ (by decide) (by decide) (by omega) (by omega)]; exact a1, by rw [F.2 168 _ (by decide) (by decide) (by omega) (by omega)]; exact a2, by rw [F.2 169 _ (by decide) (by decide) (by omega) (by omega)]; exact a3⟩, ⟨on, by rw [F.2 171 _ (by decide) (by decide) (by omega) (by omega)]; exact b2, by rw [F.2 172 _ (by decide) (by decide) (by omega) (by omega)]; exact b3, by rw [F.2 173 _ (by decide) (by decide) (by omega) (by omega)]; exact b4⟩, by rw [F.2 175 _ (by decide) (by decide) (by omega) (by omega)]; exact d1, by rw [F.2 176 _ (by decide) (by decide) (by omega) (by omega)]; exact d2, by rw [F.2 177 _ (by decide) (by decide) (by omega) (by omega)]; exact d3⟩
            have o := ND4.2.1.1
            refine .inr ⟨t + 1, 0, ⟨Jt, by omega⟩, ?_, ⟨ND4.1.2.2, ND4.2.2.2.2⟩, ⟨by have := F.1; show _ ≤ v 160 22; omega, fun c x c1 c2 c3 => by show v c x = _; rw [F.2 c x c1 c2 (by omega) (by omega)]; exact N33.2 c x c1 c2 c3⟩⟩
            exact lk_pr (ix := ix) (t := (t : Int)) ⟨hr, Int.le_refl _, by have := F.1; show _ < v 160 22; omega⟩ ⟨ND4.1.1, by show v 168 _ = _; rw [ND4.1.2.1, w15]; omega, by show v 172 _ = _; rw [ND4.2.1.2.2.1]; omega⟩ ⟨by rw [Int.toNat_natCast]; exact kp, by rw [E1]; exact k2n, by rw [E2]; exact k44⟩ (by show LKn a K v 0 ix 0 _ _ _ _ (v 170 _); rw [o, show (p : Int) + 3 = ((p + 1 + 1 + 1 : Nat) : Int) by omega]; exact Ct.1) (by show v 169 (v 170 _).toNat = _ ∧ v 177 (v 170 _).toNat = _; rw [o, show (p : Int) + 3 = ((p + 1 + 1 + 1 : Nat) : Int) by omega]; exact ⟨Ct.2.1, Ct.2.2.1⟩) ⟨by rw [Int.toNat_natCast]; exact k45, by omega⟩
          · exact absurd k44 z
        · -- neither: FAULT
          refine pc_sv (c_need BK b2 l3 l1 l4) ?_; intro u2 q2
          rcases q2 with ⟨z, -⟩ | ⟨-, z2, z3⟩
          · exact absurd z k44
          · have n0 := tl_0 (K := K) (p := p + 1 + 1) (k := 2) (by decide)
            refine pc_fl ?_
            refine pc_if (fun _ => ?_) (fun z => absurd (by omega) z)
            refine pc_sv (r_sign_ BK d3 l3 l2 l5 (k := 40) (by decide) (by decide)) ?_; intro u23 q23
            rcases q23 with ⟨z, -⟩ | ⟨-, z4, z5⟩
            · exact absurd z k40
            · have S : SFj u2 u23 := ⟨by rw [z2]; exact n0, by rw [z4, z2], by rw [z5, z3]⟩
              refine pc_fl ?_
              refine pj_sf (o := fun a => a) (q := fun b => b.2) S ?_ ?_ (fun a b s => .inl s)
              · have S1 : ¬ u2 2 11 = 0 := S.1
                have F : FSc u2 u2 := fs_r
                refine pc_sv (Gc.1 (fs_n S1 F)) ?_; intro u4 Qu4
                have Fu4 : FSc u2 u4 := fs_t F Qu4
                refine pc_sv (fs_qf_X8_need (fs_n S1 Fu4)) ?_; intro u6 Qu6
                have Fu6 : FSc u2 u6 := fs_t Fu4 Qu6
                exact pc_ret Fu6
              · have S1 : ¬ u23 160 9 = 0 := sf_r S
                have F : FSr u23 u23 := ft_r
                refine pc_sv (ft_qf_X13_sign_ (ft_n S1 F)) ?_; intro u25 Qu25
                have Fu25 : FSr u23 u25 := ft_t F Qu25
                exact pc_ret Fu25
    · refine pj_sf (o := fun a => a) (q := fun b => b.2) S ?_ ?_ (fun a b s => .inl s)
      · have S1 : ¬ u14 2 11 = 0 := S.1
        have F : FSc u14 u14 := fs_r
        refine pc_sv (fs_qf_X8_accept (fs_n S1 F)) ?_; intro u16 Qu16
        have Fu16 : FSc u14 u16.2 := fs_t F Qu16
        refine pc_if (fun _ => ?_) (fun _ => ?_)
        · exact pc_imp (fs_qj_X8_readNew_45 Gc (fs_n S1 Fu16)) (fun _ q => fs_t Fu16 q)
        · refine pc_sv (fs_qf_X8_need (fs_n S1 Fu16)) ?_; intro u18 Qu18
          have Fu18 : FSc u14 u18 := fs_t Fu16 Qu18
          exact pc_ret Fu18
      · have S1 : ¬ u15.2 160 9 = 0 := sf_r S
        have F : FSr u15.2 u15.2 := ft_r
        refine pc_if (fun _ => ?_) (fun _ => ?_)
        · refine pc_sv (ft_qf_X13_add (ft_n S1 F)) ?_; intro u18 Qu18
          have Fu18 : FSr u15.2 u18.2 := ft_t F Qu18
          refine pc_se ?_; intro u21 _
          refine pc_if (fun _ => ?_) (fun _ => ?_)
          · refine pc_sv (ft_qf_X13_sign_ (ft_n S1 Fu18)) ?_; intro u23 Qu23
            have Fu23 : FSr u15.2 u23 := ft_t Fu18 Qu23
            refine pc_sv (ft_qf_X13_sign_ (ft_n S1 Fu23)) ?_; intro u25 Qu25
            have Fu25 : FSr u15.2 u25 := ft_t Fu23 Qu25
            exact pc_ret Fu25
          · refine pc_wA ?_; intro _ _ h27 Eh27
            have Fh27 : FSr u15.2 h27 := by rw [Eh27]; exact ft_u Fu18 (by omega)
            refine pc_wA ?_; intro _ _ h30 Eh30
            have Fh30 : FSr u15.2 h30 := by rw [Eh30]; exact ft_u Fh27 (by omega)
            refine pc_xl ?_; intro v32 _
            refine pc_xl ?_; intro h33 Eh33
            have Fh33 : FSr u15.2 h33 := by rw [Eh33]; exact ft_u Fh30 (by omega)
            exact pc_imp (ft_qj_X13_fresh_142 Gr (ft_n S1 Fh33)) (fun _ q => ft_t Fh33 q)
        · exact pc_ret F
end
