/- PARSE: E, U of both sides -/
section
variable {nn : Nat} {K P : Nat → Int} {c p : Nat} {h g r w u v : ms_M}
/-- P, of which U is made -/
def PP (K P : Nat → Int) (c : Nat) (x : Int → ms_M → Option ms_M) (y : Int → ms_M → Option (Int × ms_M)) : Prop := ∀ (a : Int) (p : Nat) (h r : ms_M), (0 ≤ a ∧ a ≤ 40) → JPp K P c p h r → 0 ≤ r 160 22 → (¬ CST K (p : Int) ∧ ¬ K p = 62 ∧ ¬ K p = 71 ∧ ¬ K p = 72) → Pc (x a h) (fun u => Pc (y a r) (fun v => JE a K P c p 2 r u v))
theorem c_ex (BK : TBn K c) {rc : tq_X8_readValue} {a any t : Int} {f q : Nat} (B : TBc K P c h) (hp : q < c) (hc : h 2 10 = (q : Int)) (hf : h 2 11 = 0) (X : XTe K 0 any q) : Pc (qw_X8_readValue_20 nn rc f a any t h) (fun u => qj_X8_readValue_88 nn rc a h = some u) := by
  cases f with
  | zero => exact pc_none
  | succ f =>
    obtain ⟨X1, X2, X3⟩ := X
    rw [qw_X8_readValue_20]
    refine pc_if (fun _ => fun u e => e) (fun _ => ?_)
    refine pc_sv (c_bin BK B hp hc hf X1) ?_; intro u25 q25
    exact pc_if (fun _ => fun u e => e) (fun z => absurd (by omega) z)
theorem je_E (BK : TBn K c) {rc : tq_X8_readValue} {d : Nat} {a : Int} (ha : 0 ≤ a ∧ a ≤ 40) (Gc : FScG_X8_readValue rc) (IU : ∀ d, PE K P c 2 rc.2.1 (qg_X13_expression nn d).2.2.1) (IE : ∀ d, PE K P c 0 rc.1 (qg_X13_expression nn d).1) (J : JPp K P c p h r) (hr : 0 ≤ r 160 22) : Pc (qo_X8_readValue nn rc a h) (fun u => Pc (qo_X13_expression nn (qg_X13_expression nn d) a r) (fun v => JE a K P c p 0 r u v)) := by
  have n3 := BK.2.1
  have Gr := ftg_X13_expression nn d
  unfold qo_X8_readValue qo_X13_expression
  refine p2_sv (j_deep BK J) ?_; intro u32 u2 q2
  rcases q2 with ⟨a40, c1, c2⟩ | ⟨c1, c2, S⟩
  · rw [c1, c2]
    dsimp only
    refine pc_if (fun _ => ?_) (fun z => absurd rfl z)
    refine pc_add (by omega) ?_; intro v33 e33
    rw [e33]
    intro uF eF
    refine pc_if (fun _ => ?_) (fun z => absurd rfl z)
    refine pc_add (by omega) ?_; intro v4 e4
    rw [e4]
    refine pc_sv (pss_all BK ⟨ha.1, a40⟩ Gc IU d 0 (by decide) (by decide) p h r nn 0 J hr (by omega) uF eF) ?_; intro u6 q6
    rcases q6 with S | ⟨q, i, any, f2, t2, h2, ⟨J2, pq⟩, CL, N6, XT, tt, eF2⟩
    · exact pc_if (fun _ => pc_ret (.inl S)) (fun z => absurd (Decidable.not_not.1 z) (sf_r S))
    · have J2' := J2
      obtain ⟨b, d2, ⟨g1, g2, g3⟩, g4, g5⟩ := J2'
      have eF3 := c_ex BK b g3 g1 g4 XT _ eF2
      have rp : r 160 23 = (p : Int) := J.2.2.1.2.1
      refine pc_if (fun z => absurd g5 z) (fun _ => ?_)
      rw [g2, rp]
      refine pc_sv (r_sgn BK d2 rfl (by omega) (k := 49) (by decide) (by decide)) ?_; intro u10 q10
      refine pc_if (fun z => ?_) (fun z => ?_)
      · -- ? :
        have kq : K q = 49 := by omega
        have q1c := jp_lt BK g3 (by omega)
        have J3 := jp_up BK J2 q1c
        refine (show Pc (qj_X8_readValue_88 nn rc a h2) (fun uF => Pc _ (fun v => JE a K P c p 0 r uF v)) from ?_) uF eF3
        unfold qj_X8_readValue_88
        refine pc_sv (c_acc BK b g3 g1 g4) ?_; intro y2 z2
        rcases z2 with ⟨-, k2⟩ | ⟨k1, -⟩
        · rw [k2]
          dsimp only
          refine pc_if (fun z => absurd z (by decide)) (fun _ => ?_)
          refine pc_add (by omega) ?_; intro v3 e3
          rw [e3]
          refine pc_fl ?_
          refine pc_sv r_add ?_; intro u13 q13
          obtain ⟨⟨x1, x2, x3⟩, ND, FR⟩ := q13
          have c13 : u13.2 160 23 = (q : Int) := by rw [FR 160 23 (by omega) (by omega)]; exact g2
          rw [c13]
          refine pc_add (by omega) ?_; intro v15 e15
          refine pc_xl ?_; intro h16 e16
          rw [show v15 = ((q + 1 : Nat) : Int) by omega] at e16
          refine pc_wA ?_; intro i1 i2 h18 e18
          rw [x2] at e18
          refine pc_add (by omega) ?_; intro v20 e20
          rw [e20]
          have ND16 := nd_o (z := ((q + 1 : Nat) : Int)) (m := 160) (j := 23) ND (.inr (by decide))
          rw [← e16] at ND16
          have ND18 := nd_0 (z := u6.1) ND16
          rw [← e18] at ND18
          have N13 : NDf u6.2 u13.2 := ⟨by rw [x3]; omega, fun c x c1 c2 c3 => FR c x (by omega) (by omega)⟩
          have N18 : NDf u6.2 h18 := by rw [e18, e16]; exact ndf_w (ndf_c N13 (by decide)) (by decide) (by omega)
          have n18 : h18 160 22 = u6.2 160 22 + 1 := by rw [e18, up_n (by omega), e16, up_n (by omega)]; exact x3
          have J18 : JPp K P c (q + 1) (up_M h2 2 10 ((q + 1 : Nat) : Int)) h18 := by
            refine jp_r J3 (fun c k z => ?_)
            rw [e18, up_n (by omega), e16]
            by_cases zz : c = 160 ∧ k = 23
            · rw [zz.1, zz.2, up_s, up_s]
            · rw [up_n zz, up_n zz, FR c k (by omega) (by omega)]
          refine pc_fl ?_
          refine p2_sv (IE d (a + 1) (q + 1) _ h18 (by omega) J18 (by omega)) ?_; intro u5 u22 q22
          rcases q22 with S | ⟨q3, iy, ⟨J4, pq3⟩, L4, lab4, N22⟩
          · refine pj_sf (o := fun a => a) (q := fun b => b.2) S ?_ ?_ (fun a b s => .inl s)
            · have S1 : ¬ u5 2 11 = 0 := S.1
              have F : FSc u5 u5 := fs_r
              refine pc_sv (fs_qf_X8_need (fs_n S1 F)) ?_; intro u7 Qu7
              have Fu7 : FSc u5 u7 := fs_t F Qu7
              refine pc_xl ?_; intro v8 _
              refine pc_sv (Gc.1 (fs_n S1 Fu7)) ?_; intro u10 Qu10
              have Fu10 : FSc u5 u10 := fs_t Fu7 Qu10
              exact pc_ret Fu10
            · have S1 : ¬ u22.2 160 9 = 0 := sf_r S
              have F : FSr u22.2 u22.2 := ft_r
              refine pc_wA ?_; intro _ _ h23 Eh23
              have Fh23 : FSr u22.2 h23 := by rw [Eh23]; exact ft_u F (by omega)
              refine pc_sv (ft_qf_X13_sign_ (ft_n S1 Fh23)) ?_; intro u25 Qu25
              have Fu25 : FSr u22.2 u25 := ft_t Fh23 Qu25
              refine pc_xl ?_; intro v27 _
              refine pc_sv (Gr.1 (ft_n S1 Fu25)) ?_; intro u29 Qu29
              have Fu29 : FSr u22.2 u29.2 := ft_t Fu25 Qu29
              refine pc_wA ?_; intro _ _ h30 Eh30
              have Fh30 : FSr u22.2 h30 := by rw [Eh30]; exact ft_u Fu29 (by omega)
              exact pc_ret Fh30
          · have C4 := ch_mk L4 (by decide) lab4
            refine pc_fl ?_
            refine pc_wA ?_; intro j1 j2 h23 e23
            rw [x2] at e23
            refine pc_fl ?_
            have J23 : JPp K P c q3 u5 h23 := by rw [e23]; exact jp_w J4 (by decide)
            have nn22 := N22.1
            have ND22 := nd_nd ND18 (by omega) (by omega) N22
            have ND23 := nd_1 (z := u22.1) ND22
            rw [← e23] at ND23
            have N23 : NDf u6.2 h23 := by rw [e23]; exact ndf_w (ndf_t N18 N22) (by decide) (by omega)
            have n23 : h23 160 22 = u22.2 160 22 := by rw [e23, up_n (by omega)]
            have C23 : CHl (a + 1) K h23 0 iy 0 (u6.2 160 22 + 1) (u22.2 160 22) ((q + 1 : Nat) : Int) (q3 : Int) u22.1 := by
              rw [e23, ← n18]; exact ch_w C4 (.inl (.inl (by omega)))
            refine p2_sv (j_need BK J23 (k := 50) (by decide) (by decide)) ?_; intro u7 u25 q25
            rcases q25 with ⟨k50, m25, J5⟩ | S
            · refine pc_add (by omega) ?_; intro v8 e8
              rw [e8]
              refine pc_fl ?_
              refine pc_add (by omega) ?_; intro v27 e27
              rw [e27]
              refine pc_fl ?_
              have n25 : u25 160 22 = u22.2 160 22 := by rw [m25, up_n (by omega)]; exact n23
              have N25 : NDf h23 u25 := by rw [m25]; exact ndf_c ndf_r (by decide)
              refine p2_sv (IE d (a + 1) (q3 + 1) u7 u25 (by omega) J5 (by omega)) ?_; intro u10 u29 q29
              rcases q29 with S | ⟨q5, iz, ⟨J6, pq5⟩, L6, lab6, N29⟩
              · refine pj_sf (o := fun a => a) (q := fun b => b.2) S ?_ ?_ (fun a b s => .inl s)
                · have S1 : ¬ u10 2 11 = 0 := S.1
                  have F : FSc u10 u10 := fs_r
                  exact pc_ret F
                · have S1 : ¬ u29.2 160 9 = 0 := sf_r S
                  have F : FSr u29.2 u29.2 := ft_r
                  refine pc_wA ?_; intro _ _ h30 Eh30
                  have Fh30 : FSr u29.2 h30 := by rw [Eh30]; exact ft_u F (by omega)
                  exact pc_ret Fh30
              · have C6 := ch_mk L6 (by decide) lab6
                refine pc_ret ?_
                refine pc_wA ?_; intro l1 l2 h30 e30
                rw [x2] at e30
                refine pc_ret ?_
                have nn29 := N29.1
                have NN := ndf_t N25 N29
                have ND30 := nd_2 (z := u29.1) (nd_nd ND23 (by omega) (by omega) NN)
                rw [← e30] at ND30
                have n30 : h30 160 22 = u29.2 160 22 := by rw [e30, up_n (by omega)]
                have CL30 : CHl (a + 1) K h30 1 i 0 (r 160 22) (u6.2 160 22) (p : Int) (q : Int) u6.1 := by
                  refine ch_nd CL (Int.le_refl _) ?_
                  rw [e30]; exact ndf_w (ndf_t N23 NN) (by decide) (by omega)
                have C2 : CHl (a + 1) K h30 0 iy 0 (u6.2 160 22 + 1) (u22.2 160 22) ((q + 1 : Nat) : Int) (q3 : Int) u22.1 := by
                  rw [e30]; exact ch_w (ch_nd C23 (by omega) NN) (.inl (.inl (by omega)))
                have C3 : CHl (a + 1) K h30 0 iz 0 (u22.2 160 22) (u29.2 160 22) ((q3 + 1 : Nat) : Int) (q5 : Int) u29.1 := by
                  rw [e30, ← n25]; exact ch_w C6 (.inl (.inl (by omega)))
                have o0 := ND30.2.1.1
                have o1 := ND30.2.1.2.1
                have o2 := ND30.2.1.2.2.1
                have n6 := N6.1
                refine .inr ⟨q5, 0, ⟨by rw [e30]; exact jp_w J6 (by decide), by omega⟩, ?_, ?_, ?_⟩
                · show LKn a K h30 0 0 0 (r 160 22) (h30 160 22) (p : Int) (q5 : Int) u13.1
                  rw [x2, n30]
                  exact lk_ec (ix := i) (iy := iy) (iz := iz) (t := (q : Int)) (u := (q3 : Int)) (y := u22.2 160 22) ⟨hr, by omega, by omega⟩ ⟨by omega, by omega⟩ ⟨ND30.1.1, ND30.1.2.1⟩ (by rw [o0]; exact CL30.1) (by rw [o0]; exact ⟨CL30.2.1, CL30.2.2.1⟩) (by rw [Int.toNat_natCast]; exact kq) (by rw [o1]; exact C2.1) (by rw [o1]; exact ⟨C2.2.1, C2.2.2.1⟩) (by rw [Int.toNat_natCast]; exact k50) (by rw [o2]; exact C3.1) (by rw [o2]; exact ⟨C3.2.1, C3.2.2.1⟩)
                · show h30 169 u13.1.toNat = _ ∧ h30 177 u13.1.toNat = _
                  rw [x2]; exact ⟨ND30.1.2.2, ND30.2.2.2.2⟩
                · show NDf r h30
                  refine ndf_t N6 ?_
                  rw [e30]; exact ndf_w (ndf_t N23 NN) (by decide) (by omega)
            · refine pj_sf (o := fun a => a) (q := fun b => b.2) S ?_ ?_ (fun a b s => .inl s)
              · have S1 : ¬ u7 2 11 = 0 := S.1
                have F : FSc u7 u7 := fs_r
                refine pc_xl ?_; intro v8 _
                refine pc_sv (Gc.1 (fs_n S1 F)) ?_; intro u10 Qu10
                have Fu10 : FSc u7 u10 := fs_t F Qu10
                exact pc_ret Fu10
              · have S1 : ¬ u25 160 9 = 0 := sf_r S
                have F : FSr u25 u25 := ft_r
                refine pc_xl ?_; intro v27 _
                refine pc_sv (Gr.1 (ft_n S1 F)) ?_; intro u29 Qu29
                have Fu29 : FSr u25 u29.2 := ft_t F Qu29
                refine pc_wA ?_; intro _ _ h30 Eh30
                have Fh30 : FSr u25 h30 := by rw [Eh30]; exact ft_u Fu29 (by omega)
                exact pc_ret Fh30
        · exact absurd kq k1
      · -- no ?
        have kq : ¬ K q = 49 := by omega
        refine (show Pc (qj_X8_readValue_88 nn rc a h2) (fun uF => Pc _ (fun v => JE a K P c p 0 r uF v)) from ?_) uF eF3
        unfold qj_X8_readValue_88
        refine pc_sv (c_acc BK b g3 g1 g4) ?_; intro y2 z2
        rcases z2 with ⟨k1, -⟩ | ⟨-, k2⟩
        · exact absurd k1 kq
        · rw [k2]
          dsimp only
          refine pc_if (fun _ => ?_) (fun z => absurd rfl z)
          refine pc_ret (pc_ret (.inr ⟨q, i, ⟨J2, pq⟩, lk_es CL.1 (by rw [Int.toNat_natCast]; exact kq), ⟨CL.2.1, CL.2.2.1⟩, N6⟩))
  · refine pc_if (fun z => absurd z c1) (fun _ => ?_)
    refine pc_ret ?_
    exact pc_if (fun z => absurd z c2) (fun _ => pc_ret (.inl S))
/-- U -/
theorem je_U (BK : TBn K c) {rc : tq_X8_readValue} {d : Nat} {a : Int} (ha : 0 ≤ a ∧ a ≤ 40) (Gc : FScG_X8_readValue rc) (IU : PE K P c 2 rc.2.1 (qg_X13_expression nn d).2.2.1) (IP : PP K P c rc.2.2.1 (qg_X13_expression nn d).2.2.2.2.1) (J : JPp K P c p h r) (hr : 0 ≤ r 160 22) : Pc (qo_X8_readUnary nn rc a h) (fun u => Pc (qo_X13_unary nn (qg_X13_expression nn d) a r) (fun v => JE a K P c p 2 r u v)) := by
  have n3 := BK.2.1
  have Gr := ftg_X13_expression nn d
  have J0 := J
  obtain ⟨b, d2, ⟨g1, g2, g3⟩, g4, g5⟩ := J
  unfold qo_X8_readUnary
  refine pc_sv (c_kind BK b g3 g1 g4) ?_; intro u14 q14
  refine pc_sv (c_cast BK b g3 g1 g4) ?_; intro u17 q17
  -- a sign or a cast: both go on with the node's kind k
  have SG : ∀ k : Int, ¬ k = 0 → ((u17 = 0 ∧ ¬ CST K (p : Int) ∧ ((K p = 62 ∧ k = 33) ∨ (K p = 71 ∧ k = 34) ∨ (K p = 72 ∧ k = 35))) ∨ (u17 = 1 ∧ CST K (p : Int) ∧ k = 36)) → Pc (qj_X8_readUnary_44 nn rc a u17 h) (fun u => Pc (qj_X13_unary_78 nn (qg_X13_expression nn d) a u17 k r) (fun v => JE a K P c p 2 r u v)) := fun k k0 hk => by
    have kp : 2 ≤ K p := by
      rcases hk with ⟨-, -, hk⟩ | ⟨-, hk, -⟩
      · omega
      · have := hk.1; rw [Int.toNat_natCast] at this; omega
    unfold qj_X8_readUnary_44 qj_X13_unary_78
    refine pc_fl ?_
    refine pc_if (fun _ => ?_) (fun z => absurd k0 z)
    refine pc_fl ?_
    refine p2_sv (j_deep BK J0) ?_; intro u7 w14 q7
    rcases q7 with ⟨a40, c1, c2⟩ | ⟨c1, c2, S⟩
    · rw [c1, c2]
      dsimp only
      refine pc_if (fun _ => ?_) (fun z => absurd rfl z)
      -- m: how many tokens
      have GO : ∀ m : Nat, ((m = 1 ∧ u17 = 0) ∨ (m = 3 ∧ u17 = 1)) → ∀ tk : Int, tk = (p : Int) + (if u17 = 0 then 0 else 1) → Pc (qj_X8_readUnary_70 nn rc a (m : Int) (p : Int) h) (fun u => Pc (qj_X13_unary_118 nn (qg_X13_expression nn d) a u17 tk k r) (fun v => JE a K P c p 2 r u v)) := fun m hm tk htk => by
        have pm : p + m < c := by
          rcases hm with ⟨hm, -⟩ | ⟨hm, hu⟩
          · rw [hm]; exact jp_lt BK g3 kp
          · rcases hk with ⟨hk, -⟩ | ⟨-, hk, -⟩
            · omega
            · obtain ⟨w1, w2, w3, w4⟩ := hk
              rw [show ((p : Int) + 3).toNat = p + 3 by omega] at w4
              rw [hm]
              by_cases z : p + 3 < c
              · exact z
              · exfalso
                rw [BK.1 (p + 3) (by omega)] at w4
                unfold CSb at w4; omega
        have J1 := jp_up BK J0 pm
        unfold qj_X8_readUnary_70 qj_X13_unary_118
        refine pc_add (by omega) ?_; intro v1 e1
        refine pc_xl ?_; intro h2 e2
        rw [show v1 = ((p + m : Nat) : Int) by omega] at e2
        refine pc_add (by omega) ?_; intro v3 e3
        rw [e3]
        refine pc_fl ?_
        rw [g2]
        refine pc_sv r_add ?_; intro u10 q10
        obtain ⟨⟨x1, x2, x3⟩, ND, FR⟩ := q10
        have c10 : u10.2 160 23 = (p : Int) := by rw [FR 160 23 (by omega) (by omega)]; exact g2
        rw [c10]
        have T : Pc (qj_X13_unary_141 nn (qg_X13_expression nn d) a u10.1 (m : Int) (p : Int) u10.2) (fun v => Pc (mx_sv (rc.2.1 (a + 1) h2) fun u5 => some u5) (fun u => JE a K P c p 2 r u v)) := by
          unfold qj_X13_unary_141
          refine pc_add (by omega) ?_; intro w1 f1
          refine pc_xl ?_; intro h3 f3
          rw [show w1 = ((p + m : Nat) : Int) by omega] at f3
          refine pc_add (by omega) ?_; intro w4 f4
          rw [f4]
          refine pc_fl ?_
          have ND3 := nd_o (z := ((p + m : Nat) : Int)) (m := 160) (j := 23) ND (.inr (by decide))
          rw [← f3] at ND3
          have N3 : NDf r h3 := by
            rw [f3]; exact ndf_c ⟨by rw [x3]; omega, fun c x c1 c2 c3 => FR c x (by omega) (by omega)⟩ (by decide)
          have n3' : h3 160 22 = r 160 22 + 1 := by rw [f3, up_n (by omega)]; exact x3
          have J3 : JPp K P c (p + m) h2 h3 := by
            rw [e2]
            refine jp_r J1 (fun c k z => ?_)
            rw [f3]
            by_cases zz : c = 160 ∧ k = 23
            · rw [zz.1, zz.2, up_s, up_s]
            · rw [up_n zz, up_n zz, FR c k (by omega) (by omega)]
          refine p2_sv (IU (a + 1) (p + m) h2 h3 (by omega) J3 (by omega)) ?_; intro u5 u6 q6
          rcases q6 with S | ⟨q, ix, ⟨J4, pq⟩, L4, lab4, N6⟩
          · refine pj_sf (o := fun a => a) (q := fun b => b.2) S ?_ ?_ (fun a b s => .inl s)
            · have S1 : ¬ u5 2 11 = 0 := S.1
              have F : FSc u5 u5 := fs_r
              exact pc_ret F
            · have S1 : ¬ u6.2 160 9 = 0 := sf_r S
              have F : FSr u6.2 u6.2 := ft_r
              refine pc_wA ?_; intro _ _ h7 Eh7
              have Fh7 : FSr u6.2 h7 := by rw [Eh7]; exact ft_u F (by omega)
              exact pc_ret Fh7
          · have C4 := ch_mk L4 (by decide) lab4
            refine pc_ret ?_
            refine pc_wA ?_; intro l1 l2 h7 f7
            rw [x2] at f7
            refine pc_ret ?_
            have nn6 := N6.1
            have ND7 := nd_0 (z := u6.1) (nd_nd ND3 (by omega) (by omega) N6)
            rw [← f7] at ND7
            have n7 : h7 160 22 = u6.2 160 22 := by rw [f7, up_n (by omega)]
            have C7 : CHl (a + 1) K h7 2 ix 0 (r 160 22 + 1) (h7 160 22) ((p + m : Nat) : Int) (q : Int) u6.1 := by
              rw [n7, f7, ← n3']; exact ch_w C4 (.inl (.inl (by omega)))
            have o0 := ND7.2.1.1
            refine .inr ⟨q, 0, ⟨by rw [f7]; exact jp_w J4 (by decide), by omega⟩, ?_, ?_, ?_⟩
            · show LKn a K h7 2 0 0 (r 160 22) (h7 160 22) (p : Int) (q : Int) u10.1
              rw [x2]
              rcases hk with ⟨hk1, hk2, hk3⟩ | ⟨hk1, hk2, hk3⟩
              · have m1 : m = 1 := by omega
                rw [m1] at C7
                exact lk_us (ix := ix) ⟨hr, Int.le_refl _, by omega⟩ ⟨by rw [Int.toNat_natCast, ND7.1.1]; omega, by rw [ND7.1.2.1, htk, if_pos hk1]; omega⟩ (by rw [o0]; exact C7.1) (by rw [o0]; exact ⟨C7.2.1, C7.2.2.1⟩)
              · have m3 : m = 3 := by omega
                rw [m3] at C7
                exact lk_uc (ix := ix) ⟨hr, Int.le_refl _, by omega⟩ ⟨hk2, by rw [ND7.1.1]; exact hk3, by rw [ND7.1.2.1, htk, if_neg (by omega)]⟩ (by rw [o0]; exact C7.1) (by rw [o0]; exact ⟨C7.2.1, C7.2.2.1⟩)
            · show h7 169 u10.1.toNat = _ ∧ h7 177 u10.1.toNat = _
              rw [x2]; exact ⟨ND7.1.2.2, ND7.2.2.2.2⟩
            · show NDf r h7
              rw [f7]; exact ndf_w (ndf_t N3 N6) (by decide) (by omega)
        rcases hm with ⟨hm, hu⟩ | ⟨hm, hu⟩
        · refine pc_if (fun _ => ?_) (fun z => absurd hu z)
          rw [hm] at T; exact T
        · refine pc_if (fun z => absurd z (by omega)) (fun _ => ?_)
          rw [hm] at T; exact T
      rw [g1, g2]
      rcases hk with ⟨hk1, hk2⟩ | ⟨hk1, hk2⟩
      · refine pc_if (fun _ => ?_) (fun z => absurd hk1 z)
        refine pc_fl ?_
        refine pc_if (fun _ => ?_) (fun z => absurd rfl z)
        refine pc_if (fun _ => ?_) (fun z => absurd hk1 z)
        exact pc_fl (GO 1 (.inl ⟨rfl, hk1⟩) (p : Int) (by rw [if_pos hk1]; omega))
      · refine pc_if (fun z => absurd z (by omega)) (fun _ => ?_)
        refine pc_fl ?_
        refine pc_if (fun _ => ?_) (fun z => absurd rfl z)
        refine pc_if (fun z => absurd z (by omega)) (fun _ => ?_)
        refine pc_add (by omega) ?_; intro v17 e17
        exact pc_fl (GO 3 (.inr ⟨rfl, hk1⟩) v17 (by rw [if_neg (by omega)]; exact e17))
    · refine pc_if (fun z => absurd z c1) (fun _ => ?_)
      refine pc_ret ?_
      exact pc_if (fun z => absurd z c2) (fun _ => pc_ret (.inl S))
  -- no sign, no cast
  have PR : ¬ CST K (p : Int) → ¬ K p = 62 → ¬ K p = 71 → ¬ K p = 72 → u17 = 0 → Pc (mx_sv (rc.2.2.1 a h) fun u19 => some u19) (fun u => Pc (qj_X13_unary_78 nn (qg_X13_expression nn d) a u17 0 r) (fun v => JE a K P c p 2 r u v)) := fun n1 n2 n3 n4 u0 => by
    unfold qj_X13_unary_78
    refine pc_fl ?_
    refine pc_if (fun z => absurd rfl z) (fun _ => ?_)
    refine pc_fl ?_
    refine p2_sv (IP a p h r ha J0 hr ⟨n1, n2, n3, n4⟩) ?_; intro u19 u21 q21
    exact pc_ret (pc_ret q21)
  -- the reference's choice of k
  have RK : ∀ {X : Option ms_M}, (∀ k : Int, ((k = 33 ∧ K p = 62) ∨ (k = 34 ∧ K p = 71) ∨ (k = 35 ∧ K p = 72) ∨ ((k = 36 ∧ CST K (p : Int)) ∨ (k = 0 ∧ ¬ CST K (p : Int))) ∧ ¬ K p = 62 ∧ ¬ K p = 71 ∧ ¬ K p = 72) → Pc X (fun u => Pc (qj_X13_unary_78 nn (qg_X13_expression nn d) a u17 k r) (fun v => JE a K P c p 2 r u v))) → Pc X (fun u => Pc (qo_X13_unary nn (qg_X13_expression nn d) a r) (fun v => JE a K P c p 2 r u v)) := fun {X} H => by
    refine pc_fl ?_
    unfold qo_X13_unary
    refine pc_if (fun _ => ?_) (fun z => absurd g5 z)
    refine pc_sv (r_cast BK d2 g3 g2) ?_; intro u25 q25
    have eu : u25 = u17 := by
      rcases q25 with ⟨x1, x2⟩ | ⟨x1, x2⟩
      · rcases q17 with ⟨y1, y2⟩ | ⟨y1, y2⟩
        · omega
        · exact absurd x2 y2
      · rcases q17 with ⟨y1, y2⟩ | ⟨y1, y2⟩
        · exact absurd y2 x2
        · omega
    rw [g2]
    refine pc_sv (r_sgn BK d2 rfl (by omega) (k := 62) (by decide) (by decide)) ?_; intro u28 q28
    refine pc_if (fun z1 => ?_) (fun z1 => by rw [eu]; exact pc_fl (H 33 (by omega)))
    refine pc_sv (r_sgn BK d2 rfl (by omega) (k := 71) (by decide) (by decide)) ?_; intro u31 q31
    refine pc_if (fun z2 => ?_) (fun z2 => by rw [eu]; exact pc_fl (H 34 (by omega)))
    refine pc_sv (r_sgn BK d2 rfl (by omega) (k := 72) (by decide) (by decide)) ?_; intro u34 q34
    refine pc_if (fun z3 => ?_) (fun z3 => by rw [eu]; exact pc_fl (H 35 (by omega)))
    have nk : ¬ K p = 62 ∧ ¬ K p = 71 ∧ ¬ K p = 72 := by omega
    refine pc_if (fun z4 => ?_) (fun z4 => ?_)
    · rw [eu]; refine pc_fl (H 0 (.inr (.inr (.inr ⟨.inr ⟨rfl, ?_⟩, nk⟩))))
      rcases q25 with ⟨x1, x2⟩ | ⟨x1, x2⟩
      · omega
      · exact x2
    · rw [eu]; refine pc_fl (H 36 (.inr (.inr (.inr ⟨.inl ⟨rfl, ?_⟩, nk⟩))))
      rcases q25 with ⟨x1, x2⟩ | ⟨x1, x2⟩
      · exact x2
      · omega
  rcases q17 with ⟨y1, y2⟩ | ⟨y1, y2⟩
  · have k40 : K p = 40 := by have := y2.1; rw [Int.toNat_natCast] at this; exact this
    refine pc_if (fun _ => ?_) (fun z => absurd (by omega) z)
    refine RK (fun k hk => ?_)
    suffices k36 : k = 36 from SG k (by omega) (.inr ⟨y1, y2, k36⟩)
    rcases hk with hk | hk | hk | ⟨⟨hk, -⟩ | ⟨-, hk⟩, -⟩
    · omega
    · omega
    · omega
    · exact hk
    · exact absurd y2 hk
  · refine pc_if (fun z => absurd y1 z) (fun _ => ?_)
    have SG2 : ∀ kp : Int, (kp = 62 ∨ kp = 71 ∨ kp = 72) → u14 = kp → Pc (qj_X8_readUnary_44 nn rc a u17 h) (fun u => Pc (qo_X13_unary nn (qg_X13_expression nn d) a r) (fun v => JE a K P c p 2 r u v)) := fun kp hkp e => RK (fun k hk => SG k (by omega) (.inl ⟨y1, y2, by omega⟩))
    refine pc_if (fun z => SG2 62 (by omega) z) (fun z1 => ?_)
    refine pc_if (fun z => SG2 71 (by omega) z) (fun z2 => ?_)
    refine pc_if (fun z => SG2 72 (by omega) z) (fun z3 => ?_)
    refine RK (fun k hk => ?_)
    have k0 : k = 0 := by
      rcases hk with hk | hk | hk | ⟨⟨-, hk⟩ | ⟨hk, -⟩, -⟩
      · omega
      · omega
      · omega
      · exact absurd hk y2
      · exact hk
    rw [k0]
    exact PR y2 (by omega) (by omega) (by omega) y1
end
