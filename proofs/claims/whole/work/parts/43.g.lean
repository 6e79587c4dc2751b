section
/- PARSE: E, U of both sides -/
section
variable {nn : Nat} {K P : Nat → Int} {c p : Nat} {h g r w u v : ms_M}
/-- P, of which U is made -/
def PP (K P : Nat → Int) (c : Nat) (x : Int → ms_M → Option ms_M) (y : Int → ms_M → Option (Int × ms_M)) : Prop := ∀ (a : Int) (p : Nat) (h r : ms_M), (0 ≤ a ∧ a ≤ 40) → JPp K P c p h r → 0 ≤ r 160 22 → (¬ CST K (p : Int) ∧ ¬ K p = 62 ∧ ¬ K p = 71 ∧ ¬ K p = 72) → Pc (x a h) (fun u => Pc (y a r) (fun v => JE a K P c p 2 r u v))
theorem c_ex (BK : TBn K c) {rc : tq_X8_readValue} {a any t : Int} {f q : Nat} (B : TBc K P c h) (hp : q < c) (hc : h 2 10 = (q : Int)) (hf : h 2 11 = 0) (X : XTe K 0 any q) : Pc (qw_X8_readValue_20 nn rc f a any t h) (fun u => qj_X8_readValue_88 nn rc a h = some u) := by
  cases f with
  | zero => exact pc_none
  | succ f =>
    obtain ⟨X1, X2, X3⟩ := X
    rw [qw_X8_readValue_20]
    refine pc_if (fun _ => fun u e => e) (fun _ => ?_)
    refine pc_sv (c_bin BK B hp hc hf X1) ?_; intro u25 q25
    exact pc_if (fun _ => fun u e => e) (fun z => absurd (by omega) z)
theorem je_E (BK : TBn K c) {rc : tq_X8_readValue} {d : Nat} {a : Int} (ha : 0 ≤ a ∧ a ≤ 40) (Gc : FScG_X8_readValue rc) (IU : ∀ d, PE K P c 2 rc.2.1 (qg_X13_expression nn d).2.2.1) (IE : ∀ d, PE K P c 0 rc.1 (qg_X13_expression nn d).1) (J : JPp K P c p h r) (hr : 0 ≤ r 160 22) : Pc (qo_X8_readValue nn rc a h) (fun u => Pc (qo_X13_expression nn (qg_X13_expression nn d) a r) (fun v => JE a K P c p 0 r u v)) := by
  have n3 := BK.2.1
  have Gr := ftg_X13_expression nn d
  unfold qo_X8_readValue qo_X13_expression
  refine p2_sv (j_deep BK J) ?_; intro u32 u2 q2
  rcases q2 with ⟨a40, c1, c2⟩ | ⟨c1, c2, S⟩
  · rw [c1, c2]
    dsimp only
    refine pc_if (fun _ => ?_) (fun z => absurd rfl z)
    refine pc_add (by omega) ?_; intro v33 e33
    rw [e33]
    intro uF eF
    refine pc_if (fun _ => ?_) (fun z => absurd rfl z)
    refine pc_add (by omega) ?_; intro v4 e4
    rw [e4]
    refine pc_sv (pss_all BK ⟨ha.1, a40⟩ Gc IU d 0 (by decide) (by decide) p h r nn 0 J hr (by omega) uF eF) ?_; intro u6 q6
    rcases q6 with S | ⟨q, i, any, f2, t2, h2, ⟨J2, pq⟩, CL, N6, XT, tt, eF2⟩
    · exact pc_if (fun _ => pc_ret (.inl S)) (fun z => absurd (Decidable.not_not.1 z) (sf_r S))
    · have J2' := J2
      obtain ⟨b, d2, ⟨g1, g2, g3⟩, g4, g5⟩ := J2'
      have eF3 := c_ex BK b g3 g1 g4 XT _ eF2
      have rp : r 160 23 = (p : Int) := J.2.2.1.2.1
      refine pc_if (fun z => absurd g5 z) (fun _ => ?_)
      rw [g2, rp]
      refine pc_sv (r_sgn BK d2 rfl (by omega) (k := 49) (by decide) (by decide)) ?_; intro u10 q10
      refine pc_if (fun z => ?_) (fun z => ?_)
      · -- ? :
        have kq : K q = 49 := by omega
        have q1c := jp_lt BK g3 (by omega)
        have J3 := jp_up BK J2 q1c
        refine (show Pc (qj_X8_readValue_88 nn rc a h2) (fun uF => Pc _ (fun v => JE a K P c p 0 r uF v)) from ?_) uF eF3
        unfold qj_X8_readValue_88
        refine pc_sv (c_acc BK b g3 g1 g4) ?_; intro y2 z2
        rcases z2 with ⟨-, k2⟩ | ⟨k1, -⟩
        · rw [k2]
          dsimp only
          refine pc_if (fun z => absurd z (by decide)) (fun _ => ?_)
          refine pc_add (by omega) ?_; intro v3 e3
          rw [e3]
          refine pc_fl ?_
          refine pc_sv r_add ?_; intro u13 q13
          obtain ⟨⟨x1, x2, x3⟩, ND, FR⟩ := q13
          have c13 : u13.2 160 23 = (q : Int) := by rw [FR 160 23 (by omega) (by omega)]; exact g2
          rw [c13]
          refine pc_add (by omega) ?_; intro v15 e15
          refine pc_xl ?_; intro h16 e16
          rw [show v15 = ((q + 1 : Nat) : Int) by omega] at e16
          refine pc_wA ?_; intro i1 i2 h18 e18
          rw [x2] at e18
          refine pc_add (by omega) ?_; intro v20 e20
          rw [e20]
          have ND16 := nd_o (z := ((q + 1 : Nat) : Int)) (m := 160) (j := 23) ND (.inr (by decide))
          rw [← e16] at ND16
          have ND18 := nd_0 (z := u6.1) ND16
          rw [← e18] at ND18
          have N13 : NDf u6.2 u13.2 := ⟨by rw [x3]; omega, fun c x c1 c2 c3 => FR c x (by omega) (by omega)⟩
          have N18 : NDf u6.2 h18 := by rw [e18, e16]; exact ndf_w (ndf_c N13 (by decide)) (by decide) (by omega)
          have n18 : h18 160 22 = u6.2 160 22 + 1 := by rw [e18, up_n (by omega), e16, up_n (by omega)]; exact x3
          have J18 : JPp K P c (q + 1) (up_M h2 2 10 ((q + 1 : Nat) : Int)) h18 := by
            refine jp_r J3 (fun c k z => ?_)
            rw [e18, up_n (by omega), e16]
            by_cases zz : c = 160 ∧ k = 23
            · rw [zz.1, zz.2, up_s, up_s]
            · rw [up_n zz, up_n zz, FR c k (by omega) (by omega)]
          refine pc_fl ?_
          refine p2_sv (IE d (a + 1) (q + 1) _ h18 (by omega) J18 (by omega)) ?_; intro u5 u22 q22
          rcases q22 with S | ⟨q3, iy, ⟨J4, pq3⟩, L4, lab4, N22⟩
          · refine pj_sf (o := fun a => a) (q := fun b => b.2) S ?_ ?_ (fun a b s => .inl s)
            · have S1 : ¬ u5 2 11 = 0 := S.1
              have F : FSc u5 u5 := fs_r
              refine pc_sv (fs_qf_X8_need (fs_n S1 F)) ?_; intro u7 Qu7
              have Fu7 : FSc u5 u7 := fs_t F Qu7
              refine pc_xl ?_; intro v8 _
              refine pc_sv (Gc.1 (fs_n S1 Fu7)) ?_; intro u10 Qu10
              have Fu10 : FSc u5 u10 := fs_t Fu7 Qu10
              exact pc_ret Fu10
            · have S1 : ¬ u22.2 160 9 = 0 := sf_r S
              have F : FSr u22.2 u22.2 := ft_r
              refine pc_wA ?_; intro _ _ h23 Eh23
              have Fh23 : FSr u22.2 h23 := by rw [Eh23]; exact ft_u F (by omega)
              refine pc_sv (ft_qf_X13_sign_ (ft_n S1 Fh23)) ?_; intro u25 Qu25
              have Fu25 : FSr u22.2 u25 := ft_t Fh23 Qu25
              refine pc_xl ?_; intro v27 _
              refine pc_sv (Gr.1 (ft_n S1 Fu25)) ?_; intro u29 Qu29
              have Fu29 : FSr u22.2 u29.2 := ft_t Fu25 Qu29
              refine pc_wA ?_; intro _ _ h30 Eh30
              have Fh30 : FSr u22.2 h30 := by rw [Eh30]; exact ft_u Fu29 (by omega)
              exact pc_ret Fh30
          · have C4 := ch_mk L4 (by decide) lab4
            refine pc_fl ?_
            refine pc_wA ?_; intro j1 j2 h23 e23
            rw [x2] at e23
            refine pc_fl ?_
            have J23 : JPp K P c q3 u5 h23 := by rw [e23]; exact jp_w J4 (by decide)
            have nn22 := N22.1
            have ND22 := nd_nd ND18 (by omega) (by omega) N22
            have ND23 := nd_1 (z := u22.1) ND22
            rw [← e23] at ND23
            have N23 : NDf u6.2 h23 := by rw [e23]; exact ndf_w (ndf_t N18 N22) (by decide) (by omega)
            have n23 : h23 160 22 = u22.2 160 22 := by rw [e23, up_n (by omega)]
            have C23 : CHl (a + 1) K h23 0 iy 0 (u6.2 160 22 + 1) (u22.2 160 22) ((q + 1 : Nat) : Int) (q3 : Int) u22.1 := by
              rw [e23, ← n18]; exact ch_w C4 (.inl (.inl (by omega)))
            refine p2_sv (j_need BK J23 (k := 50) (by decide) (by decide)) ?_; intro u7 u25 q25
            rcases q25 with ⟨k50, m25, J5⟩ | S
            · refine pc_add (by omega) ?_; intro v8 e8
              rw [e8]
              refine pc_fl ?_
              refine pc_add (by omega) ?_; intro v27 e27
              rw [e27]
              refine pc_fl ?_
              have n25 : u25 160 22 = u22.2 160 22 := by rw [m25, up_n (by omega)]; exact n23
              have N25 : NDf h23 u25 := by rw [m25]; exact ndf_c ndf_r (by decide)
              refine p2_sv (IE d (a + 1) (q3 + 1) u7 u25 (by omega) J5 (by omega)) ?_; intro u10 u29 q29
              rcases q29 with S | ⟨q5, iz, ⟨J6, pq5⟩, L6, lab6, N29⟩
              · refine pj_sf (o := fun a => a) (q := fun b => b.2) S ?_ ?_ (fun a b s => .inl s)
                · have S1 : ¬ u10 2 11 = 0 := S.1
                  have F : FSc u10 u10 := fs_r
                  exact pc_ret F
                · have S1 : ¬ u29.2 160 9 = 0 := sf_r S
                  have F : FSr u29.2 u29.2 := ft_r
                  refine pc_wA ?_; intro _ _ h30 Eh30
                  have Fh30 : FSr u29.2 h30 := by rw [Eh30]; exact ft_u F (by omega)
                  exact pc_ret Fh30
              · have C6 := ch_mk L6 (by decide) lab6
                refine pc_ret ?_
                refine pc_wA ?_; intro l1 l2 h30 e30
                rw [x2] at e30
                refine pc_ret ?_
                have nn29 := N29.1
                have NN := ndf_t N25 N29
                have ND30 := nd_2 (z := u29.1) (nd_nd ND23 (by omega) (by omega) NN)
                rw [← e30] at ND30
                have n30 : h30 160 22 = u29.2 160 22 := by rw [e30, up_n (by omega)]
                have CL30 : CHl (a + 1) K h30 1 i 0 (r 160 22) (u6.2 160 22) (p : Int) (q : Int) u6.1 := by
                  refine ch_nd CL (Int.le_refl _) ?_
                  rw [e30]; exact ndf_w (ndf_t N23 NN) (by decide) (by omega)
                have C2 : CHl (a + 1) K h30 0 iy 0 (u6.2 160 22 + 1) (u22.2 160 22) ((q + 1 : Nat) : Int) (q3 : Int) u22.1 := by
                  rw [e30]; exact ch_w (ch_nd C23 (by omega) NN) (.inl (.inl (by omega)))
                have C3 : CHl (a + 1) K h30 0 iz 0 (u22.2 160 22) (u29.2 160 22) ((q3 + 1 : Nat) : Int) (q5 : Int) u29.1 := by
                  rw [e30, ← n25]; exact ch_w C6 (.inl (.inl (by omega)))
                have o0 := ND30.2.1.1
                have o1 := ND30.2.1.2.1
                have o2 := ND30.2.1.2.2.1
                have n6 := N6.1
                refine .inr ⟨q5, 0, ⟨by rw [e30]; exact jp_w J6 (by decide), by omega⟩, ?_, ?_, ?_⟩
                · show LKn a K h30 0 0 0 (r 160 22) (h30 160 22) (p : Int) (q5 : Int) u13.1
                  rw [x2, n30]
                  exact lk_ec (ix := i) (iy := iy) (iz := iz) (t := (q : Int)) (u := (q3 : Int)) (y := u22.2 160 22) ⟨hr, by omega, by omega⟩ ⟨by omega, by omega⟩ ⟨ND30.1.1, ND30.1.2.1⟩ (by rw [o0]; exact CL30.1) (by rw [o0]; exact ⟨CL30.2.1, CL30.2.2.1⟩) (by rw [Int.toNat_natCast]; exact kq) (by rw [o1]; exact C2.1) (by rw [o1]; exact ⟨C2.2.1, C2.2.2.1⟩) (by rw [Int.toNat_natCast]; exact k50) (by rw [o2]; exact C3.1) (by rw [o2]; exact ⟨C3.2.1, C3.2.2.1⟩)
                · show h30 169 u13.1.toNat = _ ∧ h30 177 u13.1.toNat = _
                  rw [x2]; exact ⟨ND30.1.2.2, ND30.2.2.2.2⟩
                · show NDf r h30
                  refine ndf_t N6 ?_
                  rw [e30]; exact ndf_w (ndf_t N23 NN) (by decide) (by omega)
            · refine pj_sf (o := fun a => a) (q := fun b => b.2) S ?_ ?_ (fun a b s => .inl s)
              · have S1 : ¬ u7 2 11 = 0 := S.1
                have F : FSc u7 u7 := fs_r
                refine pc_xl ?_; intro v8 _
                refine pc_sv (Gc.1 (fs_n S1 F)) ?_; intro u10 Qu10
                have Fu10 : FSc u7 u10 := fs_t F Qu10
                exact pc_ret Fu10
              · have S1 : ¬ u25 160 9 = 0 := sf_r S
                have F : FSr u25 u25 := ft_r
                refine pc_xl ?_; intro v27 _
                refine pc_sv (Gr.1 (ft_n S1 F)) ?_; intro u29 Qu29
                have Fu29 : FSr u25 u29.2 := ft_t F Qu29
                refine pc_wA ?_; intro _ _ h30 Eh30
                have Fh30 : FSr u25 h30 := by rw [Eh30]; exact ft_u Fu29 (by omega)
                exact pc_ret Fh30
        · exact absurd kq k1
      · -- no ?
        have kq : ¬ K q = 49 := by omega
        refine (show Pc (qj_X8_readValue_88 nn rc a h2) (fun uF => Pc _ (fun v => JE a K P c p 0 r uF v)) from ?_) uF eF3
        unfold qj_X8_readValue_88
        refine pc_sv (c_acc BK b g3 g1 g4) ?_; intro y2 z2
        rcases z2 with ⟨k1, -⟩ | ⟨-, k2⟩
        · exact absurd k1 kq
        · rw [k2]
          dsimp only
          refine pc_if (fun _ => ?_) (fun z => absurd rfl z)
          refine pc_ret (pc_ret (.inr ⟨q, i, ⟨J2, pq⟩, lk_es CL.1 (by rw [Int.toNat_natCast]; exact kq), ⟨CL.2.1, CL.2.2.1⟩, N6⟩))
  · refine pc_if (fun z => absurd z c1) (fun _ => ?_)
    refine pc_ret ?_
    exact pc_if (fun z => absurd z c2) (fun _ => pc_ret (.inl S))
/-- U -/
theorem je_U (BK : TBn K c) {rc : tq_X8_readValue} {d : Nat} {a : Int} (ha : 0 ≤ a ∧ a ≤ 40) (Gc : FScG_X8_readValue rc) (IU : PE K P c 2 rc.2.1 (qg_X13_expression nn d).2.2.1) (IP : PP K P c rc.2.2.1 (qg_X13_expression nn d).2.2.2.2.1) (J : JPp K P c p h r) (hr : 0 ≤ r 160 22) : Pc (qo_X8_readUnary nn rc a h) (fun u => Pc (qo_X13_unary nn (qg_X13_expression nn d) a r) (fun v => JE a K P c p 2 r u v)) := by
  have n3 := BK.2.1
  have Gr := ftg_X13_expression nn d
  have J0 := J
  obtain ⟨b, d2, ⟨g1, g2, g3⟩, g4, g5⟩ := J
  unfold qo_X8_readUnary
  refine pc_sv (c_kind BK b g3 g1 g4) ?_; intro u14 q14
  refine pc_sv (c_cast BK b g3 g1 g4) ?_; intro u17 q17
  -- a sign or a cast: both go on with the node's kind k
  have SG : ∀ k : Int, ¬ k = 0 → ((u17 = 0 ∧ ¬ CST K (p : Int) ∧ ((K p = 62 ∧ k = 33) ∨ (K p = 71 ∧ k = 34) ∨ (K p = 72 ∧ k = 35))) ∨ (u17 = 1 ∧ CST K (p : Int) ∧ k = 36)) → Pc (qj_X8_readUnary_44 nn rc a u17 h) (fun u => Pc (qj_X13_unary_78 nn (qg_X13_expression nn d) a u17 k r) (fun v => JE a K P c p 2 r u v)) := fun k k0 hk => by
    have kp : 2 ≤ K p := by
      rcases hk with ⟨-, -, hk⟩ | ⟨-, hk, -⟩
      · omega
      · have := hk.1; rw [Int.toNat_natCast] at this; omega
    unfold qj_X8_readUnary_44 qj_X13_unary_78
    refine pc_fl ?_
    refine pc_if (fun _ => ?_) (fun z => absurd k0 z)
    refine pc_fl ?_
    refine p2_sv (j_deep BK J0) ?_; intro u7 w14 q7
    rcases q7 with ⟨a40, c1, c2⟩ | ⟨c1, c2, S⟩
    · rw [c1, c2]
      dsimp only
      refine pc_if (fun _ => ?_) (fun z => absurd rfl z)
      -- m: how many tokens
      have GO : ∀ m : Nat, ((m = 1 ∧ u17 = 0) ∨ (m = 3 ∧ u17 = 1)) → ∀ tk : Int, tk = (p : Int) + (if u17 = 0 then 0 else 1) → Pc (qj_X8_readUnary_70 nn rc a (m : Int) (p : Int) h) (fun u => Pc (qj_X13_unary_118 nn (qg_X13_expression nn d) a u17 tk k r) (fun v => JE a K P c p 2 r u v)) := fun m hm tk htk => by
        have pm : p + m < c := by
          rcases hm with ⟨hm, -⟩ | ⟨hm, hu⟩
          · rw [hm]; exact jp_lt BK g3 kp
          · rcases hk with ⟨hk, -⟩ | ⟨-, hk, -⟩
            · omega
            · obtain ⟨w1, w2, w3, w4⟩ := hk
              rw [show ((p : Int) + 3).toNat = p + 3 by omega] at w4
              rw [hm]
              by_cases z : p + 3 < c
              · exact z
              · exfalso
                rw [BK.1 (p + 3) (by omega)] at w4
                unfold CSb at w4; omega
        have J1 := jp_up BK J0 pm
        unfold qj_X8_readUnary_70 qj_X13_unary_118
        refine pc_add (by omega) ?_; intro v1 e1
        refine pc_xl ?_; intro h2 e2
        rw [show v1 = ((p + m : Nat) : Int) by omega] at e2
        refine pc_add (by omega) ?_; intro v3 e3
        rw [e3]
        refine pc_fl ?_
        rw [g2]
        refine pc_sv r_add ?_; intro u10 q10
        obtain ⟨⟨x1, x2, x3⟩, ND, FR⟩ := q10
        have c10 : u10.2 160 23 = (p : Int) := by rw [FR 160 23 (by omega) (by omega)]; exact g2
        rw [c10]
        have T : Pc (qj_X13_unary_141 nn (qg_X13_expression nn d) a u10.1 (m : Int) (p : Int) u10.2) (fun v => Pc (mx_sv (rc.2.1 (a + 1) h2) fun u5 => some u5) (fun u => JE a K P c p 2 r u v)) := by
          unfold qj_X13_unary_141
          refine pc_add (by omega) ?_; intro w1 f1
          refine pc_xl ?_; intro h3 f3
          rw [show w1 = ((p + m : Nat) : Int) by omega] at f3
          refine pc_add (by omega) ?_; intro w4 f4
          rw [f4]
          refine pc_fl ?_
          have ND3 := nd_o (z := ((p + m : Nat) : Int)) (m := 160) (j := 23) ND (.inr (by decide))
          rw [← f3] at ND3
          have N3 : NDf r h3 := by
            rw [f3]; exact ndf_c ⟨by rw [x3]; omega, fun c x c1 c2 c3 => FR c x (by omega) (by omega)⟩ (by decide)
          have n3' : h3 160 22 = r 160 22 + 1 := by rw [f3, up_n (by omega)]; exact x3
          have J3 : JPp K P c (p + m) h2 h3 := by
            rw [e2]
            refine jp_r J1 (fun c k z => ?_)
            rw [f3]
            by_cases zz : c = 160 ∧ k = 23
            · rw [zz.1, zz.2, up_s, up_s]
            · rw [up_n zz, up_n zz, FR c k (by omega) (by omega)]
          refine p2_sv (IU (a + 1) (p + m) h2 h3 (by omega) J3 (by omega)) ?_; intro u5 u6 q6
          rcases q6 with S | ⟨q, ix, ⟨J4, pq⟩, L4, lab4, N6⟩
          · refine pj_sf (o := fun a => a) (q := fun b => b.2) S ?_ ?_ (fun a b s => .inl s)
            · have S1 : ¬ u5 2 11 = 0 := S.1
              have F : FSc u5 u5 := fs_r
              exact pc_ret F
            · have S1 : ¬ u6.2 160 9 = 0 := sf_r S
              have F : FSr u6.2 u6.2 := ft_r
              refine pc_wA ?_; intro _ _ h7 Eh7
              have Fh7 : FSr u6.2 h7 := by rw [Eh7]; exact ft_u F (by omega)
              exact pc_ret Fh7
          · have C4 := ch_mk L4 (by decide) lab4
            refine pc_ret ?_
            refine pc_wA ?_; intro l1 l2 h7 f7
            rw [x2] at f7
            refine pc_ret ?_
            have nn6 := N6.1
            have ND7 := nd_0 (z := u6.1) (nd_nd ND3 (by omega) (by omega) N6)
            rw [← f7] at ND7
            have n7 : h7 160 22 = u6.2 160 22 := by rw [f7, up_n (by omega)]
            have C7 : CHl (a + 1) K h7 2 ix 0 (r 160 22 + 1) (h7 160 22) ((p + m : Nat) : Int) (q : Int) u6.1 := by
              rw [n7, f7, ← n3']; exact ch_w C4 (.inl (.inl (by omega)))
            have o0 := ND7.2.1.1
            refine .inr ⟨q, 0, ⟨by rw [f7]; exact jp_w J4 (by decide), by omega⟩, ?_, ?_, ?_⟩
            · show LKn a K h7 2 0 0 (r 160 22) (h7 160 22) (p : Int) (q : Int) u10.1
              rw [x2]
              rcases hk with ⟨hk1, hk2, hk3⟩ | ⟨hk1, hk2, hk3⟩
              · have m1 : m = 1 := by omega
                rw [m1] at C7
                exact lk_us (ix := ix) ⟨hr, Int.le_refl _, by omega⟩ ⟨by rw [Int.toNat_natCast, ND7.1.1]; omega, by rw [ND7.1.2.1, htk, if_pos hk1]; omega⟩ (by rw [o0]; exact C7.1) (by rw [o0]; exact ⟨C7.2.1, C7.2.2.1⟩)
              · have m3 : m = 3 := by omega
                rw [m3] at C7
                exact lk_uc (ix := ix) ⟨hr, Int.le_refl _, by omega⟩ ⟨hk2, by rw [ND7.1.1]; exact hk3, by rw [ND7.1.2.1, htk, if_neg (by omega)]⟩ (by rw [o0]; exact C7.1) (by rw [o0]; exact ⟨C7.2.1, C7.2.2.1⟩)
            · show h7 169 u10.1.toNat = _ ∧ h7 177 u10.1.toNat = _
              rw [x2]; exact ⟨ND7.1.2.2, ND7.2.2.2.2⟩
            · show NDf r h7
              rw [f7]; exact ndf_w (ndf_t N3 N6) (by decide) (by omega)
        rcases hm with ⟨hm, hu⟩ | ⟨hm, hu⟩
        · refine pc_if (fun _ => ?_) (fun z => absurd hu z)
          rw [hm] at T; exact T
        · refine pc_if (fun z => absurd z (by omega)) (fun _ => ?_)
          rw [hm] at T; exact T
      rw [g1, g2]
      rcases hk with ⟨hk1, hk2⟩ | ⟨hk1, hk2⟩
      · refine pc_if (fun _ => ?_) (fun z => absurd hk1 z)
        refine pc_fl ?_
        refine pc_if (fun _ => ?_) (fun z => absurd rfl z)
        refine pc_if (fun _ => ?_) (fun z => absurd hk1 z)
        exact pc_fl (GO 1 (.inl ⟨rfl, hk1⟩) (p : Int) (by rw [if_pos hk1]; omega))
      · refine pc_if (fun z => absurd z (by omega)) (fun _ => ?_)
        refine pc_fl ?_
        refine pc_if (fun _ => ?_) (fun z => absurd rfl z)
        refine pc_if (fun z => absurd z (by omega)) (fun _ => ?_)
        refine pc_add (by omega) ?_; intro v17 e17
        exact pc_fl (GO 3 (.inr ⟨rfl, hk1⟩) v17 (by rw [if_neg (by omega)]; exact e17))
    · refine pc_if (fun z => absurd z c1) (fun _ => ?_)
      refine pc_ret ?_
      exact pc_if (fun z => absurd z c2) (fun _ => pc_ret (.inl S))
  -- no sign, no cast
  have PR : ¬ CST K (p : Int) → ¬ K p = 62 → ¬ K p = 71 → ¬ K p = 72 → u17 = 0 → Pc (mx_sv (rc.2.2.1 a h) fun u19 => some u19) (fun u => Pc (qj_X13_unary_78 nn (qg_X13_expression nn d) a u17 0 r) (fun v => JE a K P c p 2 r u v)) := fun n1 n2 n3 n4 u0 => by
    unfold qj_X13_unary_78
    refine pc_fl ?_
    refine pc_if (fun z => absurd rfl z) (fun _ => ?_)
    refine pc_fl ?_
    refine p2_sv (IP a p h r ha J0 hr ⟨n1, n2, n3, n4⟩) ?_; intro u19 u21 q21
    exact pc_ret (pc_ret q21)
  -- the reference's choice of k
  have RK : ∀ {X : Option ms_M}, (∀ k : Int, ((k = 33 ∧ K p = 62) ∨ (k = 34 ∧ K p = 71) ∨ (k = 35 ∧ K p = 72) ∨ ((k = 36 ∧ CST K (p : Int)) ∨ (k = 0 ∧ ¬ CST K (p : Int))) ∧ ¬ K p = 62 ∧ ¬ K p = 71 ∧ ¬ K p = 72) → Pc X (fun u => Pc (qj_X13_unary_78 nn (qg_X13_expression nn d) a u17 k r) (fun v => JE a K P c p 2 r u v))) → Pc X (fun u => Pc (qo_X13_unary nn (qg_X13_expression nn d) a r) (fun v => JE a K P c p 2 r u v)) := fun {X} H => by
    refine pc_fl ?_
    unfold qo_X13_unary
    refine pc_if (fun _ => ?_) (fun z => absurd g5 z)
    refine pc_sv (r_cast BK d2 g3 g2) ?_; intro u25 q25
    have eu : u25 = u17 := by
      rcases q25 with ⟨x1, x2⟩ | ⟨x1, x2⟩
      · rcases q17 with ⟨y1, y2⟩ | ⟨y1, y2⟩
        · omega
        · exact absurd x2 y2
      · rcases q17 with ⟨y1, y2⟩ | ⟨y1, y2⟩
        · exact absurd y2 x2
        · omega
    rw [g2]
    refine pc_sv (r_sgn BK d2 rfl (by omega) (k := 62) (by decide) (by decide)) ?_; intro u28 q28
    refine pc_if (fun z1 => ?_) (fun z1 => by rw [eu]; exact pc_fl (H 33 (by omega)))
    refine pc_sv (r_sgn BK d2 rfl (by omega) (k := 71) (by decide) (by decide)) ?_; intro u31 q31
    refine pc_if (fun z2 => ?_) (fun z2 => by rw [eu]; exact pc_fl (H 34 (by omega)))
    refine pc_sv (r_sgn BK d2 rfl (by omega) (k := 72) (by decide) (by decide)) ?_; intro u34 q34
    refine pc_if (fun z3 => ?_) (fun z3 => by rw [eu]; exact pc_fl (H 35 (by omega)))
    have nk : ¬ K p = 62 ∧ ¬ K p = 71 ∧ ¬ K p = 72 := by omega
    refine pc_if (fun z4 => ?_) (fun z4 => ?_)
    · rw [eu]; refine pc_fl (H 0 (.inr (.inr (.inr ⟨.inr ⟨rfl, ?_⟩, nk⟩))))
      rcases q25 with ⟨x1, x2⟩ | ⟨x1, x2⟩
      · omega
      · exact x2
    · rw [eu]; refine pc_fl (H 36 (.inr (.inr (.inr ⟨.inl ⟨rfl, ?_⟩, nk⟩))))
      rcases q25 with ⟨x1, x2⟩ | ⟨x1, x2⟩
      · exact x2
      · omega
  rcases q17 with ⟨y1, y2⟩ | ⟨y1, y2⟩
  · have k40 : K p = 40 := by have := y2.1; rw [Int.toNat_natCast] at this; exact this
    refine pc_if (fun _ => ?_) (fun z => absurd (by omega) z)
    refine RK (fun k hk => ?_)
    suffices k36 : k = 36 from SG k (by omega) (.inr ⟨y1, y2, k36⟩)
    rcases hk with hk | hk | hk | ⟨⟨hk, -⟩ | ⟨-, hk⟩, -⟩
    · omega
    · omega
    · omega
    · exact hk
    · exact absurd y2 hk
  · refine pc_if (fun z => absurd y1 z) (fun _ => ?_)
    have SG2 : ∀ kp : Int, (kp = 62 ∨ kp = 71 ∨ kp = 72) → u14 = kp → Pc (qj_X8_readUnary_44 nn rc a u17 h) (fun u => Pc (qo_X13_unary nn (qg_X13_expression nn d) a r) (fun v => JE a K P c p 2 r u v)) := fun kp hkp e => RK (fun k hk => SG k (by omega) (.inl ⟨y1, y2, by omega⟩))
    refine pc_if (fun z => SG2 62 (by omega) z) (fun z1 => ?_)
    refine pc_if (fun z => SG2 71 (by omega) z) (fun z2 => ?_)
    refine pc_if (fun z => SG2 72 (by omega) z) (fun z3 => ?_)
    refine RK (fun k hk => ?_)
    have k0 : k = 0 := by
      rcases hk with hk | hk | hk | ⟨⟨-, hk⟩ | ⟨hk, -⟩, -⟩
      · omega
      · omega
      · omega
      · exact absurd hk y2
      · exact hk
    rw [k0]
    exact PR y2 (by omega) (by omega) (by omega) y1
end
end
section
/- PARSE: ARGS, new, P of both sides -/
/-- ARGS -/
def JA (dp : Int) (K P : Nat → Int) (c p : Nat) (r u : ms_M) (v : Int × ms_M) : Prop := SFj u v.2 ∨ ∃ q : Nat, (JPp K P c q u v.2 ∧ p < q) ∧ LKn dp K v.2 4 0 0 (r 160 22) (v.2 160 22) (p : Int) (q : Int) v.1 ∧ NDf r v.2
def PAr (K P : Nat → Int) (c : Nat) (x : Int → ms_M → Option ms_M) (y : Int → ms_M → Option (Int × ms_M)) : Prop := ∀ (a : Int) (p : Nat) (h r : ms_M), (0 ≤ a ∧ a ≤ 40) → JPp K P c p h r → 0 ≤ r 160 22 → K p = 40 → Pc (x a h) (fun u => Pc (y a r) (fun v => JA a K P c p r u v))
/-- new -/
def PNw (K P : Nat → Int) (c : Nat) (x : Int → ms_M → Option ms_M) (y : Int → ms_M → Option (Int × ms_M)) : Prop := ∀ (a : Int) (p : Nat) (h r : ms_M), (0 ≤ a ∧ a ≤ 40) → JPp K P c p h r → 0 ≤ r 160 22 → K p = 21 → Pc (x a h) (fun u => Pc (y a r) (fun v => JE a K P c p 3 r u v))
section
variable {nn : Nat} {K P : Nat → Int} {c p : Nat} {h g r w u v : ms_M}
/-- the arguments from one on: class at its loop, reference at its piece -/
theorem ja_41 (BK : TBn K c) {rc : tq_X8_readValue} {rd : tq_X13_expression} {a : Int} (ha : 0 ≤ a ∧ a ≤ 40) (Gc : FScG_X8_readValue rc) (Gr : FSrG_X13_expression rd) (IE : PE K P c 0 rc.1 rd.1) : ∀ (f k q : Nat) (h r : ms_M) (l2 l3 t : Int), JPp K P c q h r → 0 ≤ r 160 22 → ((l2 = -1) ∨ (0 ≤ l2 ∧ 0 ≤ l3 ∧ l3 < r 160 22)) → (0 ≤ t ∧ t < (q : Int)) → Pc (qw_X8_readArguments_23 nn rc f a 1 t h) (fun u => Pc (qj_X13_arguments_41 nn rd (qw_X13_arguments_10 nn rd k) a l2 l3 r) (fun v => SFj u v.2 ∨ ∃ (q2 : Nat) (m : Int), (JPp K P c q2 u v.2 ∧ q < q2) ∧ LKn a K v.2 5 0 0 (r 160 22) (v.2 160 22) (q : Int) (q2 : Int) m ∧ 0 ≤ m ∧ ((l2 = -1 ∧ v.1 = m) ∨ (¬ l2 = -1 ∧ v.1 = l2 ∧ v.2 173 l3.toNat = m)) ∧ r 160 22 ≤ v.2 160 22 ∧ ∀ c x : Nat, 167 ≤ c → c ≤ 177 → (x : Int) < r 160 22 → ¬ (c = 173 ∧ x = l3.toNat ∧ ¬ l2 = -1) → v.2 c x = r c x)) := by
  have n3 := BK.2.1
  intro f
  induction f with
  | zero => intros; exact pc_none
  | succ f ih =>
    intro k q h r l2 l3 t J hr hl ht
    have e3 := J.2.2.1.2.2
    unfold qw_X8_readArguments_23
    refine pc_if (fun z => absurd z (by omega)) (fun _ => ?_)
    refine pc_if (fun z => absurd z (by decide)) (fun _ => ?_)
    unfold qj_X13_arguments_41
    refine p2_sv (IE a q h r ha J hr) ?_; intro u4 w4 q4
    have HK : ∀ (z0 z1 z2 : Int) (z3 : ms_M), ¬ z3 160 9 = 0 → Pc (qw_X13_arguments_10 nn rd k z0 z1 z2 z3) (fun u => FSr z3 u.2) := fun z0 z1 z2 z3 S => ft_qw_X13_arguments_10 Gr _ _ _ _ _ S
    rcases q4 with S | ⟨q1, ix, ⟨J1, pq⟩, L1, lab1, N1⟩
    · refine pj_sf (o := fun a => a) (q := fun b => b.2) S ?_ ?_ (fun a b s => .inl s)
      · have S1 : ¬ u4 2 11 = 0 := S.1
        have F : FSc u4 u4 := fs_r
        refine pc_sv (fs_qf_X8_accept (fs_n S1 F)) ?_; intro u6 Qu6
        have Fu6 : FSc u4 u6.2 := fs_t F Qu6
        refine pc_xl ?_; intro v7 _
        exact pc_imp (fs_qw_X8_readArguments_23 Gc _ _ _ _ _ (fs_n S1 Fu6)) (fun _ q => fs_t Fu6 q)
      · exact pc_if (fun z => absurd z (sf_r S)) (fun _ => pc_ret ft_r)
    · have C1 := ch_mk L1 (by decide) lab1
      have J1' := J1
      obtain ⟨b, d2, ⟨g1, g2, g3⟩, g4, g5⟩ := J1'
      -- the reference's entry
      refine pc_fl ?_
      refine pc_if (fun _ => ?_) (fun z => absurd g5 z)
      refine pc_rA ?_; intro i1 i2 v7 e7
      refine pc_rA ?_; intro i3 i4 v9 e9
      rw [lab1.1] at e7 e9
      refine pc_sv r_add ?_; intro u11 q11
      obtain ⟨⟨x1, x2, x3⟩, ND, FR⟩ := q11
      refine pc_wA ?_; intro i5 i6 h13 e13
      rw [x2] at e13
      have nn1 := N1.1
      have ND13 := nd_0 (z := w4.1) ND
      rw [← e13] at ND13
      have N11 : NDf w4.2 u11.2 := ⟨by rw [x3]; omega, fun c x c1 c2 c3 => FR c x (by omega) (by omega)⟩
      have N13 : NDf w4.2 h13 := by rw [e13]; exact ndf_w N11 (by decide) (by omega)
      have n13 : h13 160 22 = w4.2 160 22 + 1 := by rw [e13, up_n (by omega)]; exact x3
      have J13 : JPp K P c q1 u4 h13 := by rw [e13]; exact jp_w (jp_r J1 (fun c k z => FR c k (by omega) (by omega))) (by decide)
      have C13 : CHl a K h13 0 ix 0 (r 160 22) (w4.2 160 22) (q : Int) (q1 : Int) w4.1 := ch_nd C1 (Int.le_refl _) N13
      -- first and last behind it
      have GO : ∀ (l2' : Int) (h15 : ms_M), JPp K P c q1 u4 h15 → h15 160 22 = w4.2 160 22 + 1 → NDn h15 (w4.2 160 22) 11 v7 v9 w4.1 (-1) (-1) (-1) 0 0 0 → CHl a K h15 0 ix 0 (r 160 22) (w4.2 160 22) (q : Int) (q1 : Int) w4.1 → ¬ l2' = -1 → 0 ≤ l2' → (∀ (w : Int × ms_M) (uu : ms_M) (qe : Nat), JPp K P c qe uu w.2 → q < qe → LKn a K w.2 5 0 0 (r 160 22) (w.2 160 22) (q : Int) (qe : Int) (w4.2 160 22) → w.1 = l2' → h15 160 22 ≤ w.2 160 22 → (∀ c x : Nat, 167 ≤ c → c ≤ 177 → (x : Int) < w4.2 160 22 → w.2 c x = h15 c x) → SFj uu w.2 ∨ ∃ (q2 : Nat) (m : Int), (JPp K P c q2 uu w.2 ∧ q < q2) ∧ LKn a K w.2 5 0 0 (r 160 22) (w.2 160 22) (q : Int) (q2 : Int) m ∧ 0 ≤ m ∧ ((l2 = -1 ∧ w.1 = m) ∨ (¬ l2 = -1 ∧ w.1 = l2 ∧ w.2 173 l3.toNat = m)) ∧ r 160 22 ≤ w.2 160 22 ∧ ∀ c x : Nat, 167 ≤ c → c ≤ 177 → (x : Int) < r 160 22 → ¬ (c = 173 ∧ x = l3.toNat ∧ ¬ l2 = -1) → w.2 c x = r c x) → Pc (qw_X13_arguments_10 nn rd k a l2' (w4.2 160 22) h15) (fun w => Pc (mx_sv (qf_X8_accept nn 47 u4) fun u6 => xl (oq_add t 1) fun v7 => qw_X8_readArguments_23 nn rc f a u6.1 v7 u6.2) (fun uu => SFj uu w.2 ∨ ∃ (q2 : Nat) (m : Int), (JPp K P c q2 uu w.2 ∧ q < q2) ∧ LKn a K w.2 5 0 0 (r 160 22) (w.2 160 22) (q : Int) (q2 : Int) m ∧ 0 ≤ m ∧ ((l2 = -1 ∧ w.1 = m) ∨ (¬ l2 = -1 ∧ w.1 = l2 ∧ w.2 173 l3.toNat = m)) ∧ r 160 22 ≤ w.2 160 22 ∧ ∀ c x : Nat, 167 ≤ c → c ≤ 177 → (x : Int) < r 160 22 → ¬ (c = 173 ∧ x = l3.toNat ∧ ¬ l2 = -1) → w.2 c x = r c x)) := fun l2' h15 J15 n15 ND15 C15 nl l20 FIN => by
        have J15' := J15
        obtain ⟨-, d15, ⟨-, m2, -⟩, -, m5⟩ := J15'
        cases k with
        | zero => exact pc_none
        | succ k =>
          unfold qw_X13_arguments_10
          refine pc_if (fun z => absurd m5 z) (fun _ => ?_)
          rw [m2]
          refine pc_sv (r_sgn BK d15 rfl (by omega) (k := 41) (by decide) (by decide)) ?_; intro u21 q21
          refine pc_fl ?_
          refine pc_sv (c_acc BK b g3 g1 g4) ?_; intro u6 q6
          rcases q6 with ⟨k47, m6⟩ | ⟨k47, m6⟩
          · -- one more
            rw [m6]
            dsimp only
            refine pc_add (by omega) ?_; intro v7' e7'
            refine pc_fl ?_
            refine pc_if (fun z => absurd (by omega) z) (fun _ => ?_)
            refine pc_if (fun z => absurd z nl) (fun _ => ?_)
            refine pc_sv (r_sign_ BK d15 g3 m2 m5 (k := 47) (by decide) (by decide)) ?_; intro u23 q23
            rcases q23 with ⟨-, m23⟩ | ⟨z, -⟩
            · have q1c := jp_lt BK g3 (by omega)
              have J23 : JPp K P c (q1 + 1) (up_M u4 2 10 ((q1 + 1 : Nat) : Int)) u23 := by rw [m23]; exact jp_up BK J15 q1c
              have n23 : u23 160 22 = w4.2 160 22 + 1 := by rw [m23, up_n (by omega)]; exact n15
              refine pc_fl ?_
              refine (fun uu euu w ew => ?_)
              have R := ih k (q1 + 1) _ u23 l2' (w4.2 160 22) v7' J23 (by omega) (.inr ⟨l20, by omega, by omega⟩) (by omega) uu euu w ew
              rcases R with R | ⟨q2, m, ⟨R1, R2⟩, R3, R4, R5, R6, R7⟩
              · exact .inl R
              · have nx : w.2 173 (w4.2 160 22).toNat = m := by
                  rcases R5 with ⟨z, -⟩ | ⟨-, -, z⟩
                  · exact absurd z nl
                  · exact z
                have wl : w.1 = l2' := by
                  rcases R5 with ⟨z, -⟩ | ⟨-, z, -⟩
                  · exact absurd z nl
                  · exact z
                have row : ∀ c : Nat, 167 ≤ c → c ≤ 177 → ¬ c = 173 → w.2 c (w4.2 160 22).toNat = h15 c (w4.2 160 22).toNat := fun c c1 c2 c3 => by
                  rw [R7 c _ c1 c2 (by omega) (by omega), m23, up_n (by omega)]
                have old : ∀ c x : Nat, 167 ≤ c → c ≤ 177 → (x : Int) < w4.2 160 22 → w.2 c x = h15 c x := fun c x c1 c2 c3 => by
                  rw [R7 c x c1 c2 (by omega) (by omega), m23, up_n (by omega)]
                have on : w.2 170 (w4.2 160 22).toNat = w4.1 := by rw [row 170 (by decide) (by decide) (by decide)]; exact ND15.2.1.1
                have CW : CHl a K w.2 0 ix 0 (r 160 22) (w4.2 160 22) (q : Int) (q1 : Int) w4.1 := by
                  obtain ⟨c1, c2, c3, c4, c5, c6⟩ := C15
                  exact ⟨lk_map c1 (fun c x z1 z2 _ z4 z5 _ _ => old c x z1 z2 z5), by rw [old 169 _ (by decide) (by decide) (by omega)]; exact c2, by rw [old 177 _ (by decide) (by decide) (by omega)]; exact c3, c4, c5, c6⟩
                refine FIN w uu q2 R1 (by omega) ?_ wl (by omega) old
                refine lk_am (ix := ix) (t := (q1 : Int)) ⟨hr, by omega, by omega⟩ (by rw [on]; exact CW.1) (by rw [on]; exact ⟨CW.2.1, CW.2.2.1⟩) (by rw [Int.toNat_natCast]; exact k47) ?_
                rw [nx, ← n23]; exact R3
            · exact absurd k47 z
          · -- the last
            rw [m6]
            dsimp only
            refine pc_add (by omega) ?_; intro v7' e7'
            cases f with
            | zero => exact pc_none
            | succ f =>
              have D : Pc (qj_X8_readArguments_52 nn rc u4) (fun uu => Pc (if ¬ u21 = 0 then (qj_X13_arguments_113 nn rd l2' h15) else (if l2' = (-1) then (qj_X13_arguments_41 nn rd (qw_X13_arguments_10 nn rd k) a l2' (w4.2 160 22) h15) else (mx_sv (qf_X13_sign_ nn 44 h15) fun u23 => qj_X13_arguments_41 nn rd (qw_X13_arguments_10 nn rd k) a l2' (w4.2 160 22) u23))) (fun w => SFj uu w.2 ∨ ∃ (q2 : Nat) (m : Int), (JPp K P c q2 uu w.2 ∧ q < q2) ∧ LKn a K w.2 5 0 0 (r 160 22) (w.2 160 22) (q : Int) (q2 : Int) m ∧ 0 ≤ m ∧ ((l2 = -1 ∧ w.1 = m) ∨ (¬ l2 = -1 ∧ w.1 = l2 ∧ w.2 173 l3.toNat = m)) ∧ r 160 22 ≤ w.2 160 22 ∧ ∀ c x : Nat, 167 ≤ c → c ≤ 177 → (x : Int) < r 160 22 → ¬ (c = 173 ∧ x = l3.toNat ∧ ¬ l2 = -1) → w.2 c x = r c x)) := by
                unfold qj_X8_readArguments_52
                by_cases k41 : K q1 = 41
                · unfold qj_X13_arguments_113
                  refine pc_fl ?_
                  refine pc_if (fun _ => ?_) (fun z => absurd (by omega) z)
                  refine pc_fl ?_
                  refine p2_sv (j_need BK J15 (k := 41) (by decide) (by decide)) ?_; intro y2 y4 z2
                  rcases z2 with ⟨-, m4, J4⟩ | S
                  · refine pc_ret (pc_ret ?_)
                    have N4 : NDf h15 y4 := by rw [m4]; exact ndf_c ndf_r (by decide)
                    have ND4 := nd_nd ND15 (by omega) (by omega) N4
                    have C4 := ch_nd C15 (by omega) N4
                    have on := ND4.2.1.1
                    refine FIN (l2', y4) y2 (q1 + 1) J4 (by omega) ?_ rfl N4.1 (fun c x c1 c2 c3 => N4.2 c x c1 c2 (by omega))
                    exact lk_ao (ix := ix) (t := (q1 : Int)) ⟨hr, by omega, by show _ < y4 160 22; have := N4.1; omega⟩ (by show LKn a K y4 0 ix 0 _ _ _ _ (y4 170 _); rw [on]; exact C4.1) (by show y4 169 (y4 170 _).toNat = _ ∧ y4 177 (y4 170 _).toNat = _; rw [on]; exact ⟨C4.2.1, C4.2.2.1⟩) ⟨ND4.2.1.2.2.2, by rw [Int.toNat_natCast]; exact k41, by omega⟩
                  · exact pc_ret (pc_ret (.inl S))
                · refine pc_sv (c_need BK b g3 g1 g4) ?_; intro y2 z2
                  rcases z2 with ⟨z, -⟩ | ⟨-, z2, z3⟩
                  · exact absurd z k41
                  · refine pc_ret ?_
                    refine pc_if (fun z => absurd z (by omega)) (fun _ => ?_)
                    refine pc_if (fun z => absurd z nl) (fun _ => ?_)
                    refine pc_sv (r_sign_ BK d15 g3 m2 m5 (k := 47) (by decide) (by decide)) ?_; intro u23 q23
                    rcases q23 with ⟨z, -⟩ | ⟨-, z4, z5⟩
                    · exact absurd z k47
                    · have n0 := tl_0 (K := K) (p := q1) (k := 2) (by decide)
                      refine pc_imp (ft_qj_X13_arguments_41 Gr (fun z0 z1 z2 z3 S => ft_qw_X13_arguments_10 Gr _ _ _ _ _ S) (by rw [z4]; exact n0)) (fun w z => .inl ⟨by rw [z2]; exact n0, by rw [z.1, z4, z2], by rw [z.2, z5, z3]⟩)
              unfold qw_X8_readArguments_23
              exact pc_if (fun _ => D) (fun _ => pc_if (fun _ => D) (fun z => absurd rfl z))
      refine pc_if (fun z => ?_) (fun z => ?_)
      · have hl : 0 ≤ l2 ∧ 0 ≤ l3 ∧ l3 < r 160 22 := by omega
        refine pc_wA ?_; intro i7 i8 h15 e15
        rw [x2] at e15 ⊢
        refine GO l2 h15 (by rw [e15]; exact jp_w J13 (by decide)) (by rw [e15, up_n (by omega)]; exact n13) (by rw [e15]; exact nd_o ND13 (.inl (by omega))) (by rw [e15]; exact ch_w C13 (.inl (.inl (by omega)))) z hl.1 (fun w uu qe Je qe1 Le we ne old => .inr ⟨qe, w4.2 160 22, ⟨Je, qe1⟩, Le, by omega, .inr ⟨z, we, ?_⟩, by rw [e15, up_n (by omega)] at ne; omega, fun c x c1 c2 c3 c4 => ?_⟩)
        · rw [old 173 _ (by decide) (by decide) (by omega), e15, up_s]
        · rw [old c x c1 c2 (by omega), e15, up_n (by omega), N13.2 c x c1 c2 (by omega)]; exact N1.2 c x c1 c2 c3
      · rw [x2]
        refine GO (w4.2 160 22) h13 J13 n13 ND13 C13 (by omega) (by omega) (fun w uu qe Je qe1 Le we ne old => .inr ⟨qe, w4.2 160 22, ⟨Je, qe1⟩, Le, by omega, .inl ⟨Decidable.not_not.1 z, we⟩, by omega, fun c x c1 c2 c3 c4 => ?_⟩)
        rw [old c x c1 c2 (by omega), N13.2 c x c1 c2 (by omega)]; exact N1.2 c x c1 c2 c3
end
end
section
/- PARSE: ARGS, new -/
section
variable {nn : Nat} {K P : Nat → Int} {c p : Nat} {h g r w u v : ms_M}
theorem je_A (BK : TBn K c) {rc : tq_X8_readValue} {d : Nat} {a : Int} (ha : 0 ≤ a ∧ a ≤ 40) (Gc : FScG_X8_readValue rc) (IE : PE K P c 0 rc.1 (qg_X13_expression nn d).1) (J : JPp K P c p h r) (hr : 0 ≤ r 160 22) (kp : K p = 40) : Pc (qo_X8_readArguments nn rc a h) (fun u => Pc (qo_X13_arguments nn (qg_X13_expression nn d) a r) (fun v => JA a K P c p r u v)) := by
  have n3 := BK.2.1
  have Gr := ftg_X13_expression nn d
  have J0 := J
  obtain ⟨b, d2, ⟨g1, g2, g3⟩, g4, g5⟩ := J
  have q1c := jp_lt BK g3 (by omega)
  have J1 := jp_up BK J0 q1c
  unfold qo_X8_readArguments qo_X13_arguments
  refine pc_sv (c_acc BK b g3 g1 g4) ?_; intro u11 q11
  rcases q11 with ⟨-, m11⟩ | ⟨z, -⟩
  · rw [m11]
    dsimp only
    refine pc_if (fun z => absurd z (by decide)) (fun _ => ?_)
    refine pc_fl ?_
    refine pc_sv (r_sign_ BK d2 g3 g2 g5 (k := 40) (by decide) (by decide)) ?_; intro u28 q28
    rcases q28 with ⟨-, m28⟩ | ⟨z, -⟩
    · rw [← m28] at J1
      have J1' := J1
      obtain ⟨b1, d1, ⟨k1, k2, k3⟩, k4, k5⟩ := J1'
      have n28 : u28 160 22 = r 160 22 := by rw [m28, up_n (by omega)]
      have N28 : NDf r u28 := by rw [m28]; exact ndf_c ndf_r (by decide)
      refine pc_fl ?_
      refine pc_sv (c_acc BK b1 k3 k1 k4) ?_; intro u13 q13
      rcases q13 with ⟨k41, m13⟩ | ⟨k41, m13⟩
      · -- none
        rw [m13]
        dsimp only
        refine pc_if (fun z => absurd z (by decide)) (fun _ => ?_)
        refine pc_ret ?_
        cases nn with
        | zero => exact pc_none
        | succ m =>
          unfold qw_X13_arguments_10
          refine pc_if (fun z => absurd k5 z) (fun _ => ?_)
          rw [k2]
          refine pc_sv (r_sgn BK d1 rfl (by omega) (k := 41) (by decide) (by decide)) ?_; intro u21 q21
          refine pc_if (fun _ => ?_) (fun z => absurd (by omega) z)
          unfold qj_X13_arguments_113
          refine pc_sv (r_sign_ BK d1 k3 k2 k5 (k := 41) (by decide) (by decide)) ?_; intro u2 q2
          rcases q2 with ⟨-, m2⟩ | ⟨z, -⟩
          · refine pc_ret (.inr ⟨p + 2, ⟨?_, by omega⟩, ?_, ?_⟩)
            · show JPp K P c (p + 2) _ u2
              rw [m2]; exact jp_up BK J1 (jp_lt BK k3 (by omega))
            · exact lk_an ⟨by rw [Int.toNat_natCast]; exact kp, by rw [show ((p : Int) + 1).toNat = p + 1 by omega]; exact k41, by omega⟩
            · show NDf r u2
              rw [m2]; exact ndf_c N28 (by decide)
          · exact absurd k41 z
      · -- some
        rw [m13]
        dsimp only
        refine pc_if (fun _ => ?_) (fun z => absurd rfl z)
        refine pc_fl ?_
        cases hnn : nn with
        | zero => exact pc_none
        | succ m =>
          unfold qw_X13_arguments_10
          refine pc_if (fun z => absurd k5 z) (fun _ => ?_)
          rw [k2]
          refine pc_sv (r_sgn BK d1 rfl (by omega) (k := 41) (by decide) (by decide)) ?_; intro u21 q21
          refine pc_if (fun z => absurd (by omega) z) (fun _ => ?_)
          refine pc_if (fun _ => ?_) (fun z => absurd rfl z)
          refine pc_fl ?_
          rw [hnn] at IE Gr
          refine (fun uu euu w ew => ?_)
          have R := ja_41 BK ha Gc Gr IE (m + 1) m (p + 1) _ u28 (-1) (-1) 0 J1 (by omega) (.inl rfl) (by omega) uu euu w ew
          rcases R with R | ⟨q2, x, ⟨R1, R2⟩, R3, R4, R5, R6, R7⟩
          · exact .inl R
          · have wx : w.1 = x := by
              rcases R5 with ⟨-, z⟩ | ⟨z, -⟩
              · exact z
              · exact absurd rfl z
            refine .inr ⟨q2, ⟨R1, by omega⟩, ?_, ?_⟩
            · rw [wx, ← n28]
              refine lk_al ⟨by rw [Int.toNat_natCast]; exact kp, by rw [show ((p : Int) + 1).toNat = p + 1 by omega]; exact k41⟩ ?_
              rw [show (p : Int) + 1 = ((p + 1 : Nat) : Int) by omega]; exact R3
            · exact ndf_t N28 ⟨R6, fun c x c1 c2 c3 => R7 c x c1 c2 c3 (fun z => z.2.2 rfl)⟩
    · exact absurd kp z
  · exact absurd kp z
theorem je_A0 (BK : TBn K c) {rc : tq_X8_readValue} {a : Int} (B : TBc K P c h) (hp : p < c) (hc : h 2 10 = (p : Int)) (hf : h 2 11 = 0) (kp : ¬ K p = 40) : Pc (qo_X8_readArguments nn rc a h) (fun u => u = h) := by
  unfold qo_X8_readArguments
  refine pc_sv (c_acc BK B hp hc hf) ?_; intro u11 q11
  rcases q11 with ⟨z, -⟩ | ⟨-, m11⟩
  · exact absurd z kp
  · rw [m11]
    exact pc_if (fun _ => pc_ret rfl) (fun z => absurd rfl z)
/-- [ E ] behind a node n of new: both sides -/
theorem je_N45 (BK : TBn K c) {rc : tq_X8_readValue} {rd : tq_X13_expression} {a : Int} (ha : 0 ≤ a ∧ a ≤ 40) (Gc : FScG_X8_readValue rc) (Gr : FSrG_X13_expression rd) (IE : PE K P c 0 rc.1 rd.1) {q : Nat} {n n1 : Int} (J : JPp K P c q h r) (hn : 0 ≤ n ∧ n + 1 = r 160 22) {R : ms_M → Int × ms_M → Prop} (HS : ∀ u v, SFj u v.2 → R u v) (HO : ∀ (u : ms_M) (v : ms_M) (q2 t : Nat) (ix e : Int), JPp K P c (t + 1) u v → q < t → K t = 45 → CHl a K v 0 ix 0 (n + 1) (v 160 22) (q : Int) (t : Int) e → v 170 n.toNat = e → (r 160 22 ≤ v 160 22 ∧ ∀ c x : Nat, 167 ≤ c → c ≤ 177 → (x : Int) < r 160 22 → ¬ (c = 170 ∧ x = n.toNat) → v c x = r c x) → R u (n, v)) : Pc (mx_sv (rc.1 a h) fun u4 => mx_sv (qf_X8_need nn 45 u4) fun u6 => some u6) (fun u => Pc (mx_sv (rd.1 a r) fun u3 => wr_A 9000 170 n u3.1 u3.2 fun h4 => mx_sv (qf_X13_sign_ nn 93 h4) fun u6 => some (n, u6)) (fun v => R u v)) := by
  refine p2_sv (IE a q h r ha J (by omega)) ?_; intro u4 u3 q3
  rcases q3 with S | ⟨t, ix, ⟨J1, pq⟩, L1, lab1, N1⟩
  · refine pj_sf (o := fun a => a) (q := fun b => b.2) S ?_ ?_ (fun a b s => HS a b s)
    · refine pc_sv (fs_qf_X8_need S.1) ?_; intro u6 Q6
      exact pc_ret Q6
    · refine pc_wA ?_; intro _ _ h4 E4
      have F4 : FSr u3.2 h4 := by rw [E4]; exact ft_u ft_r (by omega)
      refine pc_sv (ft_qf_X13_sign_ (ft_n (sf_r S) F4)) ?_; intro u6 Q6
      exact pc_ret (ft_t F4 Q6)
  · have C1 := ch_mk L1 (by decide) lab1
    refine pc_fl ?_
    refine pc_wA ?_; intro i1 i2 h4 e4
    refine pc_fl ?_
    have J4 : JPp K P c t u4 h4 := by rw [e4]; exact jp_w J1 (by decide)
    refine p2_sv (j_need BK J4 (k := 45) (by decide) (by decide)) ?_; intro u6 w6 q6
    rcases q6 with ⟨k45, m6, J6⟩ | S
    · refine pc_ret (pc_ret ?_)
      have nn1 := N1.1
      have N6 : NDf h4 w6 := by rw [m6]; exact ndf_c ndf_r (by decide)
      have n4 : h4 160 22 = u3.2 160 22 := by rw [e4, up_n (by omega)]
      have n6 : w6 160 22 = u3.2 160 22 := by rw [m6, up_n (by omega)]; exact n4
      refine HO u6 w6 0 t ix u3.1 J6 pq k45 ?_ ?_ ⟨by omega, fun c x c1 c2 c3 c4 => ?_⟩
      · rw [n6, hn.2]
        refine ch_nd (v := h4) ?_ (by omega) N6
        rw [e4]; exact ch_w C1 (.inl (.inl (by omega)))
      · rw [m6, up_n (by omega), e4, up_s]
      · rw [m6, up_n (by omega), e4, up_n (by omega)]; exact N1.2 c x c1 c2 c3
    · exact pc_ret (pc_ret (HS _ _ S))
theorem je_N (BK : TBn K c) {rc : tq_X8_readValue} {d : Nat} {a : Int} (ha : 0 ≤ a ∧ a ≤ 40) (Gc : FScG_X8_readValue rc) (IE : PE K P c 0 rc.1 (qg_X13_expression nn d).1) (J : JPp K P c p h r) (hr : 0 ≤ r 160 22) (kp : K p = 21) : Pc (qo_X8_readNew nn rc a h) (fun u => Pc (qo_X13_fresh nn (qg_X13_expression nn d) a r) (fun v => JE a K P c p 3 r u v)) := by
  have n3 := BK.2.1
  have Gr := ftg_X13_expression nn d
  have J0 := J
  obtain ⟨b, d2, ⟨g1, g2, g3⟩, g4, g5⟩ := J
  have q1c := jp_lt BK g3 (by omega)
  have J1 := jp_up BK J0 q1c
  have E1 : ((p : Int) + 1).toNat = p + 1 := by omega
  have E2 : ((p : Int) + 2).toNat = p + 2 := by omega
  have E3 : ((p : Int) + 3).toNat = p + 3 := by omega
  unfold qo_X8_readNew qo_X13_fresh
  rw [g1, g2]
  refine pc_add (by omega) ?_; intro v9 e9
  refine pc_xl ?_; intro h10 e10
  refine pc_fl ?_
  refine pc_add (by omega) ?_; intro w9 f9
  refine pc_xl ?_; intro r10 f10
  rw [show v9 = ((p + 1 : Nat) : Int) by omega] at e10
  rw [show w9 = ((p + 1 : Nat) : Int) by omega] at f10
  rw [← e10, ← f10] at J1
  have J1' := J1
  obtain ⟨b1, d1, ⟨k1, k2, k3⟩, k4, k5⟩ := J1'
  have n10 : r10 160 22 = r 160 22 := by rw [f10, up_n (by omega)]
  have N10 : NDf r r10 := by rw [f10]; exact ndf_c ndf_r (by decide)
  rw [k2]
  refine pc_sv (r_wrd BK d1 rfl (by omega) (by decide)) ?_; intro u13 q13
  refine pc_fl ?_
  refine pc_sv (c_acc BK b1 k3 k1 k4) ?_; intro u12 q12
  rcases q12 with ⟨k20, m12⟩ | ⟨k20, m12⟩
  · -- new int [ E ]
    rw [m12]
    dsimp only
    refine pc_if (fun _ => ?_) (fun z => absurd (show ¬ (1 : Int) = 0 by decide) z)
    refine pc_fl ?_
    refine pc_if (fun z => absurd z (by omega)) (fun _ => ?_)
    refine pc_add (by omega) ?_; intro v37 e37
    refine pc_xl ?_; intro h38 e38
    rw [show v37 = ((p + 2 : Nat) : Int) by omega] at e38
    have q2c := jp_lt BK k3 (by omega)
    have J2 := jp_up BK J1 (q := p + 2) q2c
    rw [← e38] at J2
    have c38 : h38 160 23 = ((p + 2 : Nat) : Int) := J2.2.2.1.2.1
    have n38 : h38 160 22 = r 160 22 := by rw [e38, up_n (by omega)]; exact n10
    rw [c38]
    refine pc_sv r_add ?_; intro u41 q41
    obtain ⟨⟨x1, x2, x3⟩, ND, FR⟩ := q41
    rw [n38] at x1 x2 x3 ND FR
    have J41 : JPp K P c (p + 2) (up_M h10 2 10 ((p + 2 : Nat) : Int)) u41.2 := jp_r J2 (fun c k z => FR c k (by omega) (by omega))
    refine pc_fl ?_
    unfold qj_X8_readNew_45
    refine p2_sv (j_need BK J41 (k := 44) (by decide) (by decide)) ?_; intro u2 u43 q43
    rcases q43 with ⟨k44, m43, J3⟩ | S
    · have n43 : u43 160 22 = r 160 22 + 1 := by rw [m43, up_n (by omega)]; exact x3
      have ND43 := nd_o (z := ((p + 2 + 1 : Nat) : Int)) (m := 160) (j := 23) ND (.inr (by decide))
      rw [← m43] at ND43
      have N43 : NDf r u43 := by
        rw [m43]; refine ndf_c ⟨by rw [x3]; omega, fun c x c1 c2 c3 => ?_⟩ (by decide)
        rw [FR c x (by omega) (by omega), e38, up_n (by omega)]; exact N10.2 c x c1 c2 c3
      rw [x2]
      refine je_N45 (nn := nn) BK ha Gc Gr IE (n := r 160 22) (n1 := 0) J3 ⟨hr, by omega⟩ (fun u v S => .inl S) (fun u v _ t ix e Jt qt k45 Ct on F => ?_)
      have ND4 : NDn v (r 160 22) 28 ((p + 2 : Nat) : Int) (p : Int) e (-1) (-1) (-1) 0 0 0 := by
        obtain ⟨⟨a1, a2, a3⟩, ⟨b1, b2, b3, b4⟩, d1, d2, d3⟩ := ND43
        exact ⟨⟨by rw [F.2 167 _ (by decide) (by decide) (by omega) (by omega)]; exact a1, by rw [F.2 168 _ (by decide) (by decide) (by omega) (by omega)]; exact a2, by rw [F.2 169 _ (by decide) (by decide) (by omega) (by omega)]; exact a3⟩, ⟨on, by rw [F.2 171 _ (by decide) (by decide) (by omega) (by omega)]; exact b2, by rw [F.2 172 _ (by decide) (by decide) (by omega) (by omega)]; exact b3, by rw [F.2 173 _ (by decide) (by decide) (by omega) (by omega)]; exact b4⟩, by rw [F.2 175 _ (by decide) (by decide) (by omega) (by omega)]; exact d1, by rw [F.2 176 _ (by decide) (by decide) (by omega) (by omega)]; exact d2, by rw [F.2 177 _ (by decide) (by decide) (by omega) (by omega)]; exact d3⟩
      have o := ND4.2.1.1
      refine .inr ⟨t + 1, 0, ⟨Jt, by omega⟩, ?_, ⟨ND4.1.2.2, ND4.2.2.2.2⟩, ⟨by have := F.1; show _ ≤ v 160 22; omega, fun c x c1 c2 c3 => by show v c x = _; rw [F.2 c x c1 c2 (by omega) (by omega)]; exact N43.2 c x c1 c2 c3⟩⟩
      exact lk_pi (ix := ix) (t := (t : Int)) ⟨hr, Int.le_refl _, by have := F.1; show _ < v 160 22; omega⟩ ⟨ND4.1.1, by show v 168 _ = _; rw [ND4.1.2.1]; omega⟩ ⟨by rw [Int.toNat_natCast]; exact kp, by rw [E1]; exact k20, by rw [E2]; exact k44⟩ (by show LKn a K v 0 ix 0 _ _ _ _ (v 170 _); rw [o, show (p : Int) + 3 = ((p + 2 + 1 : Nat) : Int) by omega]; exact Ct.1) (by show v 169 (v 170 _).toNat = _ ∧ v 177 (v 170 _).toNat = _; rw [o, show (p : Int) + 3 = ((p + 2 + 1 : Nat) : Int) by omega]; exact ⟨Ct.2.1, Ct.2.2.1⟩) ⟨by rw [Int.toNat_natCast]; exact k45, by omega⟩
    · refine pj_sf (o := fun a => a) (q := fun b => b.2) S ?_ ?_ (fun a b s => .inl s)
      · have S1 : ¬ u2 2 11 = 0 := S.1
        have F : FSc u2 u2 := fs_r
        refine pc_sv (Gc.1 (fs_n S1 F)) ?_; intro u4 Qu4
        have Fu4 : FSc u2 u4 := fs_t F Qu4
        refine pc_sv (fs_qf_X8_need (fs_n S1 Fu4)) ?_; intro u6 Qu6
        have Fu6 : FSc u2 u6 := fs_t Fu4 Qu6
        exact pc_ret Fu6
      · have S1 : ¬ u43 160 9 = 0 := sf_r S
        have F : FSr u43 u43 := ft_r
        refine pc_sv (Gr.1 (ft_n S1 F)) ?_; intro u46 Qu46
        have Fu46 : FSr u43 u46.2 := ft_t F Qu46
        refine pc_wA ?_; intro _ _ h47 Eh47
        have Fh47 : FSr u43 h47 := by rw [Eh47]; exact ft_u Fu46 (by omega)
        refine pc_sv (ft_qf_X13_sign_ (ft_n S1 Fh47)) ?_; intro u49 Qu49
        have Fu49 : FSr u43 u49 := ft_t Fh47 Qu49
        exact pc_ret Fu49
  · -- new NAME ..
    rw [m12]
    dsimp only
    refine pc_if (fun z => absurd rfl z) (fun _ => ?_)
    refine pc_fl ?_
    refine pc_if (fun _ => ?_) (fun z => absurd (by omega) z)
    refine pc_fl ?_
    refine p2_sv (j_name BK J1) ?_; intro u14 u15 q15
    rcases q15 with ⟨k2n, m15, J2⟩ | S
    · have w15 : u15.1 = ((p + 1 : Nat) : Int) := by rw [m15]
      have mm15 : u15.2 = up_M r10 160 23 ((p + 1 + 1 : Nat) : Int) := by rw [m15]
      have n15 : u15.2 160 22 = r 160 22 := by rw [mm15, up_n (by omega)]; exact n10
      have N15 : NDf r u15.2 := by rw [mm15]; exact ndf_c N10 (by decide)
      refine pc_fl ?_
      refine pc_if (fun _ => ?_) (fun z => absurd J2.2.2.2.2 z)
      refine pc_sv r_add ?_; intro u18 q18
      obtain ⟨⟨x1, x2, x3⟩, ND, FR⟩ := q18
      rw [n15] at x1 x2 x3 ND FR
      have J18 : JPp K P c (p + 1 + 1) u14 u18.2 := jp_r J2 (fun c k z => FR c k (by omega) (by omega))
      have N18 : NDf r u18.2 := ⟨by rw [x3]; omega, fun c x c1 c2 c3 => by rw [FR c x (by omega) (by omega)]; exact N15.2 c x c1 c2 c3⟩
      have J18' := J18
      obtain ⟨b2, d3, ⟨l1, l2, l3⟩, l4, l5⟩ := J18'
      rw [l2]
      refine pc_sv (r_sgn BK d3 rfl (by omega) (k := 44) (by decide) (by decide)) ?_; intro u21 q21
      refine pc_fl ?_
      refine pc_sv (c_acc BK b2 l3 l1 l4) ?_; intro u16 q16
      rcases q16 with ⟨k40, m16⟩ | ⟨k40, m16⟩
      · -- ( )
        rw [m16]
        dsimp only
        refine pc_if (fun z => absurd z (by decide)) (fun _ => ?_)
        refine pc_fl ?_
        refine pc_if (fun _ => ?_) (fun z => absurd (by omega) z)
        refine pc_sv (r_sign_ BK d3 l3 l2 l5 (k := 40) (by decide) (by decide)) ?_; intro u23 q23
        rcases q23 with ⟨-, m23⟩ | ⟨z, -⟩
        · have q3c := jp_lt BK l3 (by omega)
          have J3 : JPp K P c (p + 1 + 1 + 1) (up_M u14 2 10 ((p + 1 + 1 + 1 : Nat) : Int)) u23 := by rw [m23]; exact jp_up BK J18 q3c
          refine pc_fl ?_
          refine p2_sv (j_need BK J3 (k := 41) (by decide) (by decide)) ?_; intro y18 y25 z25
          rcases z25 with ⟨k41, m25, J4⟩ | S
          · refine pc_ret (pc_ret ?_)
            rw [x2]
            have ND25 := nd_o (z := ((p + 1 + 1 + 1 + 1 : Nat) : Int)) (m := 160) (j := 23) (nd_o (z := ((p + 1 + 1 + 1 : Nat) : Int)) (m := 160) (j := 23) ND (.inr (by decide))) (.inr (by decide))
            rw [← m23, ← m25] at ND25
            have n25 : y25 160 22 = r 160 22 + 1 := by rw [m25, up_n (by omega), m23, up_n (by omega)]; exact x3
            refine .inr ⟨p + 1 + 1 + 1 + 1, 0, ⟨J4, by omega⟩, ?_, ⟨ND25.1.2.2, ND25.2.2.2.2⟩, ?_⟩
            · exact lk_pm ⟨hr, Int.le_refl _, by show _ < y25 160 22; omega⟩ ⟨ND25.1.1, by show y25 168 _ = _; rw [ND25.1.2.1, w15]; omega⟩ ⟨by rw [Int.toNat_natCast]; exact kp, by rw [E1]; exact k2n, by rw [E2]; exact k40, by rw [E3]; exact k41, by omega⟩ ha
            · show NDf r y25
              rw [m25, m23]; exact ndf_c (ndf_c N18 (by decide)) (by decide)
          · exact pc_ret (pc_ret (.inl S))
        · exact absurd k40 z
      · -- [ E ]
        rw [m16]
        dsimp only
        refine pc_if (fun _ => ?_) (fun z => absurd rfl z)
        unfold qj_X8_readNew_45
        by_cases k44 : K (p + 1 + 1) = 44
        · refine pc_fl ?_
          refine pc_if (fun z => absurd z (by omega)) (fun _ => ?_)
          refine pc_wA ?_; intro i1 i2 h27 e27
          rw [x2] at e27
          have c27 : h27 160 23 = ((p + 1 + 1 : Nat) : Int) := by rw [e27, up_n (by omega)]; exact l2
          rw [c27]
          refine pc_wA ?_; intro i3 i4 h30 e30
          rw [x2] at e30
          have c30 : h30 160 23 = ((p + 1 + 1 : Nat) : Int) := by rw [e30, up_n (by omega)]; exact c27
          rw [c30]
          refine pc_add (by omega) ?_; intro v32 e32
          refine pc_xl ?_; intro h33 e33
          rw [show v32 = ((p + 1 + 1 + 1 : Nat) : Int) by omega] at e33
          have q3c := jp_lt BK l3 (by omega)
          have J30 : JPp K P c (p + 1 + 1) u14 h30 := by rw [e30, e27]; exact jp_w (jp_w J18 (by decide)) (by decide)
          have J33 : JPp K P c (p + 1 + 1 + 1) (up_M u14 2 10 ((p + 1 + 1 + 1 : Nat) : Int)) h33 := by rw [e33]; exact jp_up BK J30 q3c
          have ND33 := nd_o (z := ((p + 1 + 1 + 1 : Nat) : Int)) (m := 160) (j := 23) (nd_2 (z := ((p + 1 + 1 : Nat) : Int)) (nd_7 (z := 29) ND)) (.inr (by decide))
          rw [← e27, ← e30, ← e33] at ND33
          have N33 : NDf r h33 := by rw [e33, e30, e27]; exact ndf_c (ndf_w (ndf_w N18 (by decide) (by omega)) (by decide) (by omega)) (by decide)
          have n33 : h33 160 22 = r 160 22 + 1 := by rw [e33, up_n (by omega), e30, up_n (by omega), e27, up_n (by omega)]; exact x3
          refine pc_fl ?_
          refine pc_sv (c_need BK b2 l3 l1 l4) ?_; intro u2 q2
          rcases q2 with ⟨-, m2⟩ | ⟨z, -⟩
          · rw [m2]
            unfold qj_X13_fresh_142
            rw [x2]
            refine je_N45 (nn := nn) BK ha Gc Gr IE (n := r 160 22) (n1 := 0) J33 ⟨hr, by omega⟩ (fun u v S => .inl S) (fun u v _ t ix e Jt qt k45 Ct on F => ?_)
            have ND4 : NDn v (r 160 22) 29 u15.1 (p : Int) e (-1) ((p + 1 + 1 : Nat) : Int) (-1) 0 0 0 := by
              obtain ⟨⟨a1, a2, a3⟩, ⟨b1, b2, b3, b4⟩, d1, d2, d3⟩ := ND33
              exact ⟨⟨by rw [F.2 167 _ (by decide) (by decide) (by omega) (by omega)]; exact a1, by rw [F.2 168 _ (by decide) (by decide) (by omega) (by omega)]; exact a2, by rw [F.2 169 _ (by decide) (by decide) (by omega) (by omega)]; exact a3⟩, ⟨on, by rw [F.2 171 _ (by decide) (by decide) (by omega) (by omega)]; exact b2, by rw [F.2 172 _ (by decide) (by decide) (by omega) (by omega)]; exact b3, by rw [F.2 173 _ (by decide) (by decide) (by omega) (by omega)]; exact b4⟩, by rw [F.2 175 _ (by decide) (by decide) (by omega) (by omega)]; exact d1, by rw [F.2 176 _ (by decide) (by decide) (by omega) (by omega)]; exact d2, by rw [F.2 177 _ (by decide) (by decide) (by omega) (by omega)]; exact d3⟩
            have o := ND4.2.1.1
            refine .inr ⟨t + 1, 0, ⟨Jt, by omega⟩, ?_, ⟨ND4.1.2.2, ND4.2.2.2.2⟩, ⟨by have := F.1; show _ ≤ v 160 22; omega, fun c x c1 c2 c3 => by show v c x = _; rw [F.2 c x c1 c2 (by omega) (by omega)]; exact N33.2 c x c1 c2 c3⟩⟩
            exact lk_pr (ix := ix) (t := (t : Int)) ⟨hr, Int.le_refl _, by have := F.1; show _ < v 160 22; omega⟩ ⟨ND4.1.1, by show v 168 _ = _; rw [ND4.1.2.1, w15]; omega, by show v 172 _ = _; rw [ND4.2.1.2.2.1]; omega⟩ ⟨by rw [Int.toNat_natCast]; exact kp, by rw [E1]; exact k2n, by rw [E2]; exact k44⟩ (by show LKn a K v 0 ix 0 _ _ _ _ (v 170 _); rw [o, show (p : Int) + 3 = ((p + 1 + 1 + 1 : Nat) : Int) by omega]; exact Ct.1) (by show v 169 (v 170 _).toNat = _ ∧ v 177 (v 170 _).toNat = _; rw [o, show (p : Int) + 3 = ((p + 1 + 1 + 1 : Nat) : Int) by omega]; exact ⟨Ct.2.1, Ct.2.2.1⟩) ⟨by rw [Int.toNat_natCast]; exact k45, by omega⟩
          · exact absurd k44 z
        · -- neither: FAULT
          refine pc_sv (c_need BK b2 l3 l1 l4) ?_; intro u2 q2
          rcases q2 with ⟨z, -⟩ | ⟨-, z2, z3⟩
          · exact absurd z k44
          · have n0 := tl_0 (K := K) (p := p + 1 + 1) (k := 2) (by decide)
            refine pc_fl ?_
            refine pc_if (fun _ => ?_) (fun z => absurd (by omega) z)
            refine pc_sv (r_sign_ BK d3 l3 l2 l5 (k := 40) (by decide) (by decide)) ?_; intro u23 q23
            rcases q23 with ⟨z, -⟩ | ⟨-, z4, z5⟩
            · exact absurd z k40
            · have S : SFj u2 u23 := ⟨by rw [z2]; exact n0, by rw [z4, z2], by rw [z5, z3]⟩
              refine pc_fl ?_
              refine pj_sf (o := fun a => a) (q := fun b => b.2) S ?_ ?_ (fun a b s => .inl s)
              · have S1 : ¬ u2 2 11 = 0 := S.1
                have F : FSc u2 u2 := fs_r
                refine pc_sv (Gc.1 (fs_n S1 F)) ?_; intro u4 Qu4
                have Fu4 : FSc u2 u4 := fs_t F Qu4
                refine pc_sv (fs_qf_X8_need (fs_n S1 Fu4)) ?_; intro u6 Qu6
                have Fu6 : FSc u2 u6 := fs_t Fu4 Qu6
                exact pc_ret Fu6
              · have S1 : ¬ u23 160 9 = 0 := sf_r S
                have F : FSr u23 u23 := ft_r
                refine pc_sv (ft_qf_X13_sign_ (ft_n S1 F)) ?_; intro u25 Qu25
                have Fu25 : FSr u23 u25 := ft_t F Qu25
                exact pc_ret Fu25
    · refine pj_sf (o := fun a => a) (q := fun b => b.2) S ?_ ?_ (fun a b s => .inl s)
      · have S1 : ¬ u14 2 11 = 0 := S.1
        have F : FSc u14 u14 := fs_r
        refine pc_sv (fs_qf_X8_accept (fs_n S1 F)) ?_; intro u16 Qu16
        have Fu16 : FSc u14 u16.2 := fs_t F Qu16
        refine pc_if (fun _ => ?_) (fun _ => ?_)
        · exact pc_imp (fs_qj_X8_readNew_45 Gc (fs_n S1 Fu16)) (fun _ q => fs_t Fu16 q)
        · refine pc_sv (fs_qf_X8_need (fs_n S1 Fu16)) ?_; intro u18 Qu18
          have Fu18 : FSc u14 u18 := fs_t Fu16 Qu18
          exact pc_ret Fu18
      · have S1 : ¬ u15.2 160 9 = 0 := sf_r S
        have F : FSr u15.2 u15.2 := ft_r
        refine pc_if (fun _ => ?_) (fun _ => ?_)
        · refine pc_sv (ft_qf_X13_add (ft_n S1 F)) ?_; intro u18 Qu18
          have Fu18 : FSr u15.2 u18.2 := ft_t F Qu18
          refine pc_se ?_; intro u21 _
          refine pc_if (fun _ => ?_) (fun _ => ?_)
          · refine pc_sv (ft_qf_X13_sign_ (ft_n S1 Fu18)) ?_; intro u23 Qu23
            have Fu23 : FSr u15.2 u23 := ft_t Fu18 Qu23
            refine pc_sv (ft_qf_X13_sign_ (ft_n S1 Fu23)) ?_; intro u25 Qu25
            have Fu25 : FSr u15.2 u25 := ft_t Fu23 Qu25
            exact pc_ret Fu25
          · refine pc_wA ?_; intro _ _ h27 Eh27
            have Fh27 : FSr u15.2 h27 := by rw [Eh27]; exact ft_u Fu18 (by omega)
            refine pc_wA ?_; intro _ _ h30 Eh30
            have Fh30 : FSr u15.2 h30 := by rw [Eh30]; exact ft_u Fh27 (by omega)
            refine pc_xl ?_; intro v32 _
            refine pc_xl ?_; intro h33 Eh33
            have Fh33 : FSr u15.2 h33 := by rw [Eh33]; exact ft_u Fh30 (by omega)
            exact pc_imp (ft_qj_X13_fresh_142 Gr (ft_n S1 Fh33)) (fun _ q => ft_t Fh33 q)
        · exact pc_ret F
end
end
section
/- PARSE: P of both sides -/
/-- what stands behind a P -/
def JB (dp : Int) (K P : Nat → Int) (c p : Nat) (n0 : Int) (r u : ms_M) (v : Int × ms_M) : Prop := SFj u v.2 ∨ ∃ (q2 : Nat) (i2 : Int), (JPp K P c q2 u v.2 ∧ p < q2) ∧ CHl dp K v.2 2 i2 0 n0 (v.2 160 22) (p : Int) (q2 : Int) v.1 ∧ NDf r v.2
section
variable {nn : Nat} {K P : Nat → Int} {c p : Nat} {h g r w u v : ms_M}
theorem jb_4 (BK : TBn K c) {rc : tq_X8_readValue} {rd : tq_X13_expression} {a : Int} (ha : 0 ≤ a ∧ a ≤ 40) (Gc : FScG_X8_readValue rc) (Gr : FSrG_X13_expression rd) (IE : PE K P c 0 rc.1 rd.1) (IA : PAr K P c rc.2.2.2.2.2 rd.2.2.2.1) (IA0 : ∀ (q : Nat) (h : ms_M), TBc K P c h → q < c → h 2 10 = (q : Int) → h 2 11 = 0 → ¬ K q = 40 → Pc (rc.2.2.2.2.2 a h) (fun u => u = h)) {n0 : Int} (hn0 : 0 ≤ n0) (pf : ¬ CST K (p : Int) ∧ ¬ K p = 62 ∧ ¬ K p = 71 ∧ ¬ K p = 72) : ∀ (f k q : Nat) (h r : ms_M) (e i t : Int), JPp K P c q h r → p < q → n0 ≤ r 160 22 → CHl a K r 3 i 0 n0 (r 160 22) (p : Int) (q : Int) e → (0 ≤ t ∧ t < (q : Int)) → Pc (qw_X8_readBehind_4 nn rc f a 1 t h) (fun u => Pc (qw_X13_postfix_11 nn rd k a (p : Int) e r) (fun v => JB a K P c p n0 r u v)) := by
  have n3 := BK.2.1
  intro f
  induction f with
  | zero => intros; exact pc_none
  | succ f ih =>
    intro k q h r e i t J pq hn CE ht
    cases k with
    | zero => exact fun _ _ => pc_none
    | succ k =>
      have J0 := J
      obtain ⟨b, d, ⟨g1, g2, g3⟩, g4, g5⟩ := J
      have Hqkk_11 : ∀ (z0 z1 z2 : Int) (z3 : ms_M), ¬ z3 160 9 = 0 → Pc (qw_X13_postfix_11 nn rd k z0 z1 z2 z3) (fun u => FSr z3 u.2) := fun z0 z1 z2 z3 S => ft_qw_X13_postfix_11 Gr _ _ _ _ _ S
      unfold qw_X8_readBehind_4
      refine pc_if (fun z => absurd z (by omega)) (fun _ => ?_)
      refine pc_if (fun z => absurd z (by decide)) (fun _ => ?_)
      refine pc_sv (c_acc BK b g3 g1 g4) ?_; intro u2 q2
      refine pc_fl ?_
      unfold qw_X13_postfix_11
      refine pc_if (fun z => absurd g5 z) (fun _ => ?_)
      rw [g2]
      refine pc_sv (r_sgn BK d rfl (by omega) (k := 48) (by decide) (by decide)) ?_; intro u48 q48
      rcases q2 with ⟨k48, m2⟩ | ⟨k48, m2⟩
      · -- . NAME
        have q1c := jp_lt BK g3 (by omega)
        have J1 := jp_up BK J0 q1c
        refine pc_if (fun _ => ?_) (fun z => absurd (by omega) z)
        unfold qj_X13_postfix_44
        rw [g2]
        refine pc_sv (r_sgn BK d rfl (by omega) (k := 48) (by decide) (by decide)) ?_; intro u5 q5
        refine pc_if (fun z => absurd z (by omega)) (fun _ => ?_)
        refine pc_sv r_add ?_; intro u19 q19
        obtain ⟨⟨x1, x2, x3⟩, ND, FR⟩ := q19
        have c19 : u19.2 160 23 = (q : Int) := by rw [FR 160 23 (by omega) (by omega)]; exact g2
        rw [c19]
        refine pc_wA ?_; intro i1 i2 h22 e22
        rw [x2] at e22
        have c22 : h22 160 23 = (q : Int) := by rw [e22, up_n (by omega)]; exact c19
        rw [c22]
        refine pc_add (by omega) ?_; intro v24 e24
        refine pc_xl ?_; intro h25 e25
        rw [show v24 = ((q + 1 : Nat) : Int) by omega] at e25
        have J25 : JPp K P c (q + 1) (up_M h 2 10 ((q + 1 : Nat) : Int)) h25 := by
          refine jp_r J1 (fun c k z => ?_)
          rw [e25]
          by_cases zz : c = 160 ∧ k = 23
          · rw [zz.1, zz.2, up_s, up_s]
          · rw [up_n zz, up_n zz, e22, up_n (by omega), FR c k (by omega) (by omega)]
        have N19 : NDf r u19.2 := ⟨by rw [x3]; omega, fun c x c1 c2 c3 => FR c x (by omega) (by omega)⟩
        have N25 : NDf r h25 := by rw [e25, e22]; exact ndf_c (ndf_w N19 (by decide) (by omega)) (by decide)
        have ND25 := nd_o (z := ((q + 1 : Nat) : Int)) (m := 160) (j := 23) (nd_2 (z := (q : Int)) ND) (.inr (by decide))
        rw [← e22, ← e25] at ND25
        have n25 : h25 160 22 = r 160 22 + 1 := by rw [e25, up_n (by omega), e22, up_n (by omega)]; exact x3
        refine pc_fl ?_
        rw [m2]
        dsimp only
        refine pc_if (fun z => absurd z (by decide)) (fun _ => ?_)
        refine p2_sv (j_name BK J25) ?_; intro u13 u28 q28
        rcases q28 with ⟨k2n, m28, J28⟩ | S
        · have w28 : u28.1 = ((q + 1 : Nat) : Int) := by rw [m28]
          have mm28 : u28.2 = up_M h25 160 23 ((q + 1 + 1 : Nat) : Int) := by rw [m28]
          have n28 : u28.2 160 22 = r 160 22 + 1 := by rw [mm28, up_n (by omega)]; exact n25
          have ND28 := nd_o (z := ((q + 1 + 1 : Nat) : Int)) (m := 160) (j := 23) ND25 (.inr (by decide))
          rw [← mm28] at ND28
          have N28 : NDf r u28.2 := by rw [mm28]; exact ndf_c N25 (by decide)
          refine pc_fl ?_
          refine pc_wA ?_; intro i3 i4 h29 e29
          rw [x2] at e29
          refine pc_wA ?_; intro i5 i6 h31 e31
          rw [x2] at e31
          have ND31 := nd_0 (z := e) (nd_8 (z := u28.1) ND28)
          rw [← e29, ← e31] at ND31
          have N31 : NDf r h31 := by rw [e31, e29]; exact ndf_w (ndf_w N28 (by decide) (by omega)) (by decide) (by omega)
          have n31 : h31 160 22 = r 160 22 + 1 := by rw [e31, up_n (by omega), e29, up_n (by omega)]; exact n28
          have J31 : JPp K P c (q + 1 + 1) u13 h31 := by rw [e31, e29]; exact jp_w (jp_w J28 (by decide)) (by decide)
          have J31' := J31
          obtain ⟨b3, d3, ⟨l1, l2, l3⟩, l4, l5⟩ := J31'
          have C31 : CHl a K h31 3 i 0 n0 (r 160 22) (p : Int) (q : Int) e := ch_nd CE (Int.le_refl _) N31
          refine pc_if (fun z => absurd l5 z) (fun _ => ?_)
          rw [l2]
          refine pc_sv (r_sgn BK d3 rfl (by omega) (k := 40) (by decide) (by decide)) ?_; intro u35 q35
          by_cases k40 : K (q + 1 + 1) = 40
          · -- ARGS
            refine pc_if (fun z => absurd z (by omega)) (fun _ => ?_)
            refine pc_wA ?_; intro i7 i8 h37 e37
            rw [x2] at e37
            have ND37 := nd_7 (z := 31) ND31
            rw [← e37] at ND37
            have N37 : NDf r h37 := by rw [e37]; exact ndf_w N31 (by decide) (by omega)
            have n37 : h37 160 22 = r 160 22 + 1 := by rw [e37, up_n (by omega)]; exact n31
            have J37 : JPp K P c (q + 1 + 1) u13 h37 := by rw [e37]; exact jp_w J31 (by decide)
            refine pc_fl ?_
            refine p2_sv (IA a (q + 1 + 1) u13 h37 ha J37 (by omega) k40) ?_; intro u15 u40 q40
            rcases q40 with S | ⟨q3, ⟨J40, pq3⟩, L40, N40⟩
            · refine pj_sf (o := fun a => a) (q := fun b => b.2) S ?_ ?_ (fun a b s => .inl s)
              · have S1 : ¬ u15 2 11 = 0 := S.1
                have F : FSc u15 u15 := fs_r
                refine pc_xl ?_; intro v16 _
                exact pc_imp (fs_qw_X8_readBehind_4 Gc _ _ _ _ _ (fs_n S1 F)) (fun _ q => fs_t F q)
              · have S1 : ¬ u40.2 160 9 = 0 := sf_r S
                have F : FSr u40.2 u40.2 := ft_r
                refine pc_wA ?_; intro _ _ h41 Eh41
                have Fh41 : FSr u40.2 h41 := by rw [Eh41]; exact ft_u F (by omega)
                exact pc_imp (Hqkk_11 _ _ _ _ (ft_n S1 Fh41)) (fun _ q => ft_t Fh41 q)
            · refine pc_add (by omega) ?_; intro v16 e16
              refine pc_fl ?_
              refine pc_wA ?_; intro j1 j2 h41 e41
              rw [x2] at e41 ⊢
              have nn40 := N40.1
              have ND41 := nd_1 (z := u40.1) (nd_nd ND37 (by omega) (by omega) N40)
              rw [← e41] at ND41
              have n41 : h41 160 22 = u40.2 160 22 := by rw [e41, up_n (by omega)]
              have N41 : NDf r h41 := by rw [e41]; exact ndf_w (ndf_t N37 N40) (by decide) (by omega)
              have o0 := ND41.2.1.1
              have o1 := ND41.2.1.2.1
              have C41 := ch_nd CE (Int.le_refl _) N41
              have CH : CHl a K h41 3 0 0 n0 (h41 160 22) (p : Int) (q3 : Int) (r 160 22) := by
                refine ch_mk (lk_pd (ix := i) (t := (q : Int)) ⟨hn0, hn, by omega⟩ ⟨ND41.1.1, by rw [ND41.1.2.1, w28]; omega, ND41.2.1.2.2.1⟩ ⟨by rw [Int.toNat_natCast]; exact k48, by rw [show ((q : Int) + 1).toNat = q + 1 by omega]; exact k2n⟩ (by rw [o0]; exact C41.1) (by rw [o0]; exact ⟨C41.2.1, C41.2.2.1⟩) ?_) (by decide) ⟨ND41.1.2.2, ND41.2.2.2.2⟩
                rw [o1, n41, show (q : Int) + 2 = ((q + 1 + 1 : Nat) : Int) by omega, ← n37, e41]
                exact lk_w L40 (.inl (.inl (by omega)))
              refine pc_fl ?_
              refine (fun uu euu w ew => ?_)
              have R := ih k q3 u15 h41 (r 160 22) 0 v16 (by rw [e41]; exact jp_w J40 (by decide)) (by omega) (by omega) CH (by omega) uu euu w ew
              rcases R with R | ⟨q5, i5, R1, R2, R3⟩
              · exact .inl R
              · exact .inr ⟨q5, i5, R1, R2, ndf_t N41 R3⟩
            
          · -- a field
            refine pc_if (fun _ => ?_) (fun z => absurd (by omega) z)
            refine pc_fl ?_
            refine pc_sv (IA0 (q + 1 + 1) u13 b3 l3 l1 l4 k40) ?_; intro u15 e15
            refine pc_add (by omega) ?_; intro v16 e16
            rw [e15, x2]
            have o0 := ND31.2.1.1
            have CH : CHl a K h31 3 0 0 n0 (h31 160 22) (p : Int) ((q + 1 + 1 : Nat) : Int) (r 160 22) := ch_mk (lk_pf (ix := i) (t := (q : Int)) ⟨hn0, hn, by omega⟩ ⟨ND31.1.1, by rw [ND31.1.2.1, w28]; omega, ND31.2.1.2.2.1⟩ ⟨by rw [Int.toNat_natCast]; exact k48, by rw [show ((q : Int) + 1).toNat = q + 1 by omega]; exact k2n, by rw [show ((q : Int) + 2).toNat = q + 1 + 1 by omega]; exact k40, by omega⟩ (by rw [o0]; exact C31.1) (by rw [o0]; exact ⟨C31.2.1, C31.2.2.1⟩)) (by decide) ⟨ND31.1.2.2, ND31.2.2.2.2⟩
            refine (fun uu euu w ew => ?_)
            have R := ih k (q + 1 + 1) u13 h31 (r 160 22) 0 v16 J31 (by omega) (by omega) CH (by omega) uu euu w ew
            rcases R with R | ⟨q5, i5, R1, R2, R3⟩
            · exact .inl R
            · exact .inr ⟨q5, i5, R1, R2, ndf_t N31 R3⟩
        · refine pj_sf (o := fun a => a) (q := fun b => b.2) S ?_ ?_ (fun a b s => .inl s)
          · have S1 : ¬ u13 2 11 = 0 := S.1
            have F : FSc u13 u13 := fs_r
            refine pc_sv (Gc.2.2.2.2.2 (fs_n S1 F)) ?_; intro u15 Qu15
            have Fu15 : FSc u13 u15 := fs_t F Qu15
            refine pc_xl ?_; intro v16 _
            exact pc_imp (fs_qw_X8_readBehind_4 Gc _ _ _ _ _ (fs_n S1 Fu15)) (fun _ q => fs_t Fu15 q)
          · have S1 : ¬ u28.2 160 9 = 0 := sf_r S
            have F : FSr u28.2 u28.2 := ft_r
            refine pc_wA ?_; intro _ _ h29 Eh29
            have Fh29 : FSr u28.2 h29 := by rw [Eh29]; exact ft_u F (by omega)
            refine pc_wA ?_; intro _ _ h31 Eh31
            have Fh31 : FSr u28.2 h31 := by rw [Eh31]; exact ft_u Fh29 (by omega)
            refine pc_if (fun _ => ?_) (fun _ => ?_)
            · exact pc_imp (Hqkk_11 _ _ _ _ (ft_n S1 Fh31)) (fun _ q => ft_t Fh31 q)
            · refine pc_se ?_; intro u35 _
              refine pc_if (fun _ => ?_) (fun _ => ?_)
              · exact pc_imp (Hqkk_11 _ _ _ _ (ft_n S1 Fh31)) (fun _ q => ft_t Fh31 q)
              · refine pc_wA ?_; intro _ _ h37 Eh37
                have Fh37 : FSr u28.2 h37 := by rw [Eh37]; exact ft_u Fh31 (by omega)
                refine pc_sv (Gr.2.2.2.1 (ft_n S1 Fh37)) ?_; intro u40 Qu40
                have Fu40 : FSr u28.2 u40.2 := ft_t Fh37 Qu40
                refine pc_wA ?_; intro _ _ h41 Eh41
                have Fh41 : FSr u28.2 h41 := by rw [Eh41]; exact ft_u Fu40 (by omega)
                exact pc_imp (Hqkk_11 _ _ _ _ (ft_n S1 Fh41)) (fun _ q => ft_t Fh41 q)
      · refine pc_if (fun z => absurd (by omega) z) (fun _ => ?_)
        refine pc_sv (r_sgn BK d rfl (by omega) (k := 44) (by decide) (by decide)) ?_; intro u51 q51
        refine pc_fl ?_
        rw [m2]
        dsimp only
        refine pc_if (fun _ => ?_) (fun z => absurd rfl z)
        refine pc_sv (c_acc BK b g3 g1 g4) ?_; intro u4 q4
        rcases q4 with ⟨k44, m4⟩ | ⟨k44, m4⟩
        · -- [ E ]
          have q1c := jp_lt BK g3 (by omega)
          have J1 := jp_up BK J0 q1c
          rw [m4]
          dsimp only
          refine pc_if (fun z => absurd z (by decide)) (fun _ => ?_)
          refine pc_fl ?_
          refine pc_if (fun z => absurd z (by omega)) (fun _ => ?_)
          unfold qj_X13_postfix_44
          rw [g2]
          refine pc_sv (r_sgn BK d rfl (by omega) (k := 48) (by decide) (by decide)) ?_; intro u5 q5
          refine pc_if (fun _ => ?_) (fun z => absurd (by omega) z)
          refine pc_sv r_add ?_; intro u8 q8
          obtain ⟨⟨x1, x2, x3⟩, ND, FR⟩ := q8
          have c8 : u8.2 160 23 = (q : Int) := by rw [FR 160 23 (by omega) (by omega)]; exact g2
          rw [c8]
          refine pc_add (by omega) ?_; intro v10 e10
          refine pc_xl ?_; intro h11 e11
          rw [show v10 = ((q + 1 : Nat) : Int) by omega] at e11
          refine pc_wA ?_; intro i1 i2 h13 e13
          rw [x2] at e13
          have N8 : NDf r u8.2 := ⟨by rw [x3]; omega, fun c x c1 c2 c3 => FR c x (by omega) (by omega)⟩
          have N13 : NDf r h13 := by rw [e13, e11]; exact ndf_w (ndf_c N8 (by decide)) (by decide) (by omega)
          have ND13 := nd_0 (z := e) (nd_o (z := ((q + 1 : Nat) : Int)) (m := 160) (j := 23) ND (.inr (by decide)))
          rw [← e11, ← e13] at ND13
          have n13 : h13 160 22 = r 160 22 + 1 := by rw [e13, up_n (by omega), e11, up_n (by omega)]; exact x3
          have J13 : JPp K P c (q + 1) (up_M h 2 10 ((q + 1 : Nat) : Int)) h13 := by
            refine jp_r J1 (fun c k z => ?_)
            rw [e13, up_n (by omega), e11]
            by_cases zz : c = 160 ∧ k = 23
            · rw [zz.1, zz.2, up_s, up_s]
            · rw [up_n zz, up_n zz, FR c k (by omega) (by omega)]
          refine pc_fl ?_
          refine p2_sv (IE a (q + 1) _ h13 ha J13 (by omega)) ?_; intro u7 u16 q16
          rcases q16 with S | ⟨q3, iy, ⟨J16, pq3⟩, L16, lab16, N16⟩
          · refine pj_sf (o := fun a => a) (q := fun b => b.2) S ?_ ?_ (fun a b s => .inl s)
            · have S1 : ¬ u7 2 11 = 0 := S.1
              have F : FSc u7 u7 := fs_r
              refine pc_sv (fs_qf_X8_need (fs_n S1 F)) ?_; intro u9 Qu9
              have Fu9 : FSc u7 u9 := fs_t F Qu9
              refine pc_xl ?_; intro v10 _
              exact pc_imp (fs_qw_X8_readBehind_4 Gc _ _ _ _ _ (fs_n S1 Fu9)) (fun _ q => fs_t Fu9 q)
            · have S1 : ¬ u16.2 160 9 = 0 := sf_r S
              have F : FSr u16.2 u16.2 := ft_r
              refine pc_wA ?_; intro _ _ h17 Eh17
              have Fh17 : FSr u16.2 h17 := by rw [Eh17]; exact ft_u F (by omega)
              exact pc_imp (ft_qj_X13_postfix_194 Gr Hqkk_11 (ft_n S1 Fh17)) (fun _ q => ft_t Fh17 q)
          · have C16 := ch_mk L16 (by decide) lab16
            refine pc_fl ?_
            refine pc_wA ?_; intro j1 j2 h17 e17
            rw [x2] at e17 ⊢
            have nn16 := N16.1
            have ND17 := nd_1 (z := u16.1) (nd_nd ND13 (by omega) (by omega) N16)
            rw [← e17] at ND17
            have n17 : h17 160 22 = u16.2 160 22 := by rw [e17, up_n (by omega)]
            have N17 : NDf r h17 := by rw [e17]; exact ndf_w (ndf_t N13 N16) (by decide) (by omega)
            have J17 : JPp K P c q3 u7 h17 := by rw [e17]; exact jp_w J16 (by decide)
            have C17 : CHl a K h17 0 iy 0 (r 160 22 + 1) (h17 160 22) ((q + 1 : Nat) : Int) (q3 : Int) u16.1 := by
              rw [n17, e17, ← n13]; exact ch_w C16 (.inl (.inl (by omega)))
            unfold qj_X13_postfix_194
            refine pc_fl ?_
            refine p2_sv (j_need BK J17 (k := 45) (by decide) (by decide)) ?_; intro u9 w2 q9
            rcases q9 with ⟨k45, m9, J9⟩ | S
            · refine pc_add (by omega) ?_; intro v10' e10'
              have N9 : NDf h17 w2 := by rw [m9]; exact ndf_c ndf_r (by decide)
              have n9 : w2 160 22 = h17 160 22 := by rw [m9, up_n (by omega)]
              have ND9 := nd_nd ND17 (by omega) (by omega) N9
              have C9 := ch_nd C17 (by omega) N9
              have CL := ch_nd CE (Int.le_refl _) (ndf_t N17 N9)
              have o0 := ND9.2.1.1
              have o1 := ND9.2.1.2.1
              have CH : CHl a K w2 3 0 0 n0 (w2 160 22) (p : Int) ((q3 + 1 : Nat) : Int) (r 160 22) := ch_mk (lk_pe (ix := i) (iy := iy) (t := (q : Int)) (u := (q3 : Int)) ⟨hn0, hn, by omega⟩ ⟨ND9.1.1, ND9.1.2.1⟩ ⟨by rw [Int.toNat_natCast]; exact k44, by rw [Int.toNat_natCast]; exact k45, by omega⟩ (by rw [o0]; exact CL.1) (by rw [o0]; exact ⟨CL.2.1, CL.2.2.1⟩) (by rw [o1, n9]; exact C9.1) (by rw [o1]; exact ⟨C9.2.1, C9.2.2.1⟩)) (by decide) ⟨ND9.1.2.2, ND9.2.2.2.2⟩
              refine (fun uu euu w ew => ?_)
              have R := ih k (q3 + 1) u9 w2 (r 160 22) 0 v10' J9 (by omega) (by omega) CH (by omega) uu euu w ew
              rcases R with R | ⟨q5, i5, R1, R2, R3⟩
              · exact .inl R
              · exact .inr ⟨q5, i5, R1, R2, ndf_t (ndf_t N17 N9) R3⟩
            · refine pj_sf (o := fun a => a) (q := fun b => b.2) S ?_ ?_ (fun a b s => .inl s)
              · have S1 : ¬ u9 2 11 = 0 := S.1
                have F : FSc u9 u9 := fs_r
                refine pc_xl ?_; intro v10 _
                exact pc_imp (fs_qw_X8_readBehind_4 Gc _ _ _ _ _ (fs_n S1 F)) (fun _ q => fs_t F q)
              · exact pc_imp (Hqkk_11 _ _ _ _ (sf_r S)) (fun _ q => q)
        · -- nothing more
          rw [m4]
          dsimp only
          refine pc_if (fun _ => ?_) (fun z => absurd rfl z)
          refine pc_add (by omega) ?_; intro v5 e5
          have OUT : Pc (if u51 = 0 then (some (e, r)) else (qj_X13_postfix_44 nn rd (qw_X13_postfix_11 nn rd k) a (p : Int) e r)) (fun v => JB a K P c p n0 r h v) := by
            refine pc_if (fun _ => pc_ret (.inr ⟨q, i, ⟨J0, pq⟩, ?_, ndf_r⟩)) (fun z => absurd (by omega) z)
            exact ch_mk (lk_up CE.1 ⟨pf.1, by rw [Int.toNat_natCast]; exact pf.2.1, by rw [Int.toNat_natCast]; exact pf.2.2.1, by rw [Int.toNat_natCast]; exact pf.2.2.2, by rw [Int.toNat_natCast]; exact k48, by rw [Int.toNat_natCast]; exact k44⟩) (by decide) ⟨CE.2.1, CE.2.2.1⟩
          cases f with
          | zero => exact pc_none
          | succ f =>
            unfold qw_X8_readBehind_4
            exact pc_if (fun _ => pc_ret OUT) (fun _ => pc_if (fun _ => pc_ret OUT) (fun z => absurd rfl z))
end
end
section
/- PARSE: P of both sides; the group -/
section
variable {nn : Nat} {K P : Nat → Int} {c p : Nat} {h g r w u v : ms_M}
theorem pc_sb {α β : Type} {x : Option α} {G : α → Option β} {Q : β → Prop} (H : Pc x (fun a => Pc (G a) Q)) : Pc (mx_sv x G) Q := pc_sv H (fun _ h => h)
/- the reference's primary, by the kind -/
section
variable {rd : tq_X13_expression} {a : Int} {Y : Int × ms_M → Prop}
theorem rp_num (BK : TBn K c) (B : TBq K P c r) (hp : p < c) (hc : r 160 23 = (p : Int)) (kp : K p = 3) (H : Pc (mx_sv (qf_X13_add nn 20 (p : Int) (p : Int) (up_M r 160 23 ((p + 1 : Nat) : Int))) fun u4 => some (u4.1, u4.2)) Y) : Pc (qo_X13_primary nn rd a r) Y := by
  have n3 := BK.2.1
  have kd := r_kd BK B (t := p) (by omega)
  unfold qo_X13_primary
  rw [hc]
  refine pc_rA ?_; intro _ _ v20 e20
  rw [Int.toNat_natCast] at e20
  refine pc_if (fun z => absurd (by omega) z) (fun _ => ?_)
  refine pc_add (by omega) ?_; intro v66 e66
  refine pc_xl ?_; intro h67 e67
  rw [show v66 = ((p + 1 : Nat) : Int) by omega] at e67
  rw [e67]; exact H
theorem rp_w (BK : TBn K c) (B : TBq K P c r) (hp : p < c) (hc : r 160 23 = (p : Int)) {k w : Int} (hk : (k = 21 ∧ w = 18) ∨ (k = 22 ∧ w = 7) ∨ (k = 23 ∧ w = 12) ∨ (k = 24 ∧ w = 16)) (kp : K p = w + 10) (H : Pc (mx_sv (qf_X13_add nn k (p : Int) (p : Int) (up_M r 160 23 ((p + 1 : Nat) : Int))) fun u4 => some (u4.1, u4.2)) Y) : Pc (qo_X13_primary nn rd a r) Y := by
  have n3 := BK.2.1
  have kd := r_kd BK B (t := p) (by omega)
  have T : ∀ v32 : Int, v32 = w → Pc (qj_X13_primary_215 nn rd (p : Int) v32 r) Y := fun v32 e32 => by
    unfold qj_X13_primary_215 qj_X13_primary_264
    rw [hc]
    refine pc_add (by omega) ?_; intro v6 e6
    refine pc_xl ?_; intro h7 e7
    rw [show v6 = ((p + 1 : Nat) : Int) by omega] at e7
    rw [e7]
    refine pc_if (fun z1 => pc_if (fun z2 => pc_if (fun z3 => ?_) (fun z3 => ?_)) (fun z2 => ?_)) (fun z1 => ?_)
    · rw [show k = 24 by omega] at H; exact H
    · rw [show k = 23 by omega] at H; exact H
    · rw [show k = 22 by omega] at H; exact H
    · rw [show k = 21 by omega] at H; exact H
  unfold qo_X13_primary
  rw [hc]
  refine pc_rA ?_; intro _ _ v20 e20
  rw [Int.toNat_natCast] at e20
  refine pc_if (fun _ => ?_) (fun z => absurd (by omega) z)
  refine pc_rA ?_; intro _ _ v23 e23
  rw [Int.toNat_natCast] at e23
  refine pc_if (fun _ => ?_) (fun z => absurd (by omega) z)
  refine pc_sv (r_sgn BK B rfl (by omega) (k := 40) (by decide) (by decide)) ?_; intro u26 q26
  refine pc_if (fun _ => ?_) (fun z => absurd (by omega) z)
  refine pc_rA ?_; intro _ _ v29 e29
  rw [Int.toNat_natCast] at e29
  refine pc_if (fun z => absurd (by omega) z) (fun _ => ?_)
  refine pc_rA ?_; intro _ _ v32 e32
  rw [Int.toNat_natCast, B.2.2.1 p (by omega) (by omega)] at e32
  exact pc_if (fun z => T v32 (by omega)) (fun z1 => pc_if (fun z => T v32 (by omega)) (fun z2 => pc_if (fun z => T v32 (by omega)) (fun z3 => pc_if (fun z4 => absurd (by omega) z4) (fun z => T v32 (by omega)))))
theorem rp_new (BK : TBn K c) (B : TBq K P c r) (hp : p < c) (hc : r 160 23 = (p : Int)) (kp : K p = 21) (H : Pc (mx_sv (rd.2.2.2.2.2.2 a r) fun u34 => some (u34.1, u34.2)) Y) : Pc (qo_X13_primary nn rd a r) Y := by
  have n3 := BK.2.1
  have kd := r_kd BK B (t := p) (by omega)
  unfold qo_X13_primary
  rw [hc]
  refine pc_rA ?_; intro _ _ v20 e20
  rw [Int.toNat_natCast] at e20
  refine pc_if (fun _ => ?_) (fun z => absurd (by omega) z)
  refine pc_rA ?_; intro _ _ v23 e23
  rw [Int.toNat_natCast] at e23
  refine pc_if (fun _ => ?_) (fun z => absurd (by omega) z)
  refine pc_sv (r_sgn BK B rfl (by omega) (k := 40) (by decide) (by decide)) ?_; intro u26 q26
  refine pc_if (fun _ => ?_) (fun z => absurd (by omega) z)
  refine pc_rA ?_; intro _ _ v29 e29
  rw [Int.toNat_natCast] at e29
  refine pc_if (fun z => absurd (by omega) z) (fun _ => ?_)
  refine pc_rA ?_; intro _ _ v32 e32
  rw [Int.toNat_natCast, B.2.2.1 p (by omega) (by omega)] at e32
  exact pc_if (fun z => absurd z (by omega)) (fun z1 => pc_if (fun z => absurd z (by omega)) (fun z2 => pc_if (fun z => absurd z (by omega)) (fun z3 => pc_if (fun z4 => pc_if (fun z5 => absurd (by omega) z5) (fun _ => H)) (fun z => absurd (by omega) z))))
theorem rp_bad (BK : TBn K c) (B : TBq K P c r) (hp : p < c) (hc : r 160 23 = (p : Int)) (kp : ¬ K p = 3 ∧ ¬ K p = 2 ∧ ¬ K p = 40 ∧ ¬ K p = 28 ∧ ¬ K p = 17 ∧ ¬ K p = 22 ∧ ¬ K p = 26 ∧ ¬ K p = 21) (H : Pc (mx_sv (qf_X13_misplaced nn r) fun u2 => some ((-1), u2)) Y) : Pc (qo_X13_primary nn rd a r) Y := by
  have n3 := BK.2.1
  have kd := r_kd BK B (t := p) (by omega)
  have H : Pc (qj_X13_primary_283 nn rd r) Y := H
  unfold qo_X13_primary
  rw [hc]
  refine pc_rA ?_; intro _ _ v20 e20
  rw [Int.toNat_natCast] at e20
  refine pc_if (fun _ => ?_) (fun z => absurd (by omega) z)
  refine pc_rA ?_; intro _ _ v23 e23
  rw [Int.toNat_natCast] at e23
  refine pc_if (fun _ => ?_) (fun z => absurd (by omega) z)
  refine pc_sv (r_sgn BK B rfl (by omega) (k := 40) (by decide) (by decide)) ?_; intro u26 q26
  refine pc_if (fun _ => ?_) (fun z => absurd (by omega) z)
  refine pc_rA ?_; intro _ _ v29 e29
  rw [Int.toNat_natCast] at e29
  refine pc_if (fun _ => H) (fun z => ?_)
  refine pc_rA ?_; intro _ _ v32 e32
  rw [Int.toNat_natCast, B.2.2.1 p (by omega) (by omega)] at e32
  exact pc_if (fun z => absurd z (by omega)) (fun z1 => pc_if (fun z => absurd z (by omega)) (fun z2 => pc_if (fun z => absurd z (by omega)) (fun z3 => pc_if (fun z4 => pc_if (fun z5 => H) (fun z => absurd (by omega) z)) (fun z => absurd (by omega) z))))
theorem rp_par (BK : TBn K c) (B : TBq K P c r) (hp : p < c) (hc : r 160 23 = (p : Int)) (kp : K p = 40) (H : Pc (mx_sv (rd.1 a (up_M r 160 23 ((p + 1 : Nat) : Int))) fun u45 => mx_sv (qf_X13_sign_ nn 41 u45.2) fun u47 => qj_X13_primary_138 nn rd (p : Int) u45.1 u47) Y) : Pc (qo_X13_primary nn rd a r) Y := by
  have n3 := BK.2.1
  have kd := r_kd BK B (t := p) (by omega)
  unfold qo_X13_primary
  rw [hc]
  refine pc_rA ?_; intro _ _ v20 e20
  rw [Int.toNat_natCast] at e20
  refine pc_if (fun _ => ?_) (fun z => absurd (by omega) z)
  refine pc_rA ?_; intro _ _ v23 e23
  rw [Int.toNat_natCast] at e23
  refine pc_if (fun _ => ?_) (fun z => absurd (by omega) z)
  refine pc_sv (r_sgn BK B rfl (by omega) (k := 40) (by decide) (by decide)) ?_; intro u26 q26
  refine pc_if (fun z => absurd z (by omega)) (fun _ => ?_)
  refine pc_add (by omega) ?_; intro v42 e42
  refine pc_xl ?_; intro h43 e43
  rw [show v42 = ((p + 1 : Nat) : Int) by omega] at e43
  rw [e43]; exact H
theorem rp_name (BK : TBn K c) (B : TBq K P c r) (hp : p < c) (hc : r 160 23 = (p : Int)) (kp : K p = 2) (H : Pc (mx_sv (qf_X13_add nn 25 (p : Int) (p : Int) (up_M r 160 23 ((p + 1 : Nat) : Int))) fun u53 => mx_sv (qf_X13_isSign nn (u53.2 160 23) 40 u53.2) fun u56 => if u56 = 0 then (some (u53.1, u53.2)) else (wr_A 9000 167 u53.1 26 u53.2 fun h58 => mx_sv (rd.2.2.2.1 a h58) fun u61 => wr_A 9000 171 u53.1 u61.1 u61.2 fun h62 => some (u53.1, h62))) Y) : Pc (qo_X13_primary nn rd a r) Y := by
  have n3 := BK.2.1
  have kd := r_kd BK B (t := p) (by omega)
  unfold qo_X13_primary
  rw [hc]
  refine pc_rA ?_; intro _ _ v20 e20
  rw [Int.toNat_natCast] at e20
  refine pc_if (fun _ => ?_) (fun z => absurd (by omega) z)
  refine pc_rA ?_; intro _ _ v23 e23
  rw [Int.toNat_natCast] at e23
  refine pc_if (fun z => absurd (by omega) z) (fun _ => ?_)
  refine pc_add (by omega) ?_; intro v50 e50
  refine pc_xl ?_; intro h51 e51
  rw [show v50 = ((p + 1 : Nat) : Int) by omega] at e51
  rw [e51]; exact H
end
theorem je_P (BK : TBn K c) {rc : tq_X8_readValue} {rd rd2 : tq_X13_expression} {a : Int} (ha : 0 ≤ a ∧ a ≤ 40) (Gc : FScG_X8_readValue rc) (Gr : FSrG_X13_expression rd) (G2 : FSrG_X13_expression rd2) (IE : PE K P c 0 rc.1 rd.1) (IA : PAr K P c rc.2.2.2.2.2 rd.2.2.2.1) (IA0 : ∀ (q : Nat) (h : ms_M), TBc K P c h → q < c → h 2 10 = (q : Int) → h 2 11 = 0 → ¬ K q = 40 → Pc (rc.2.2.2.2.2 a h) (fun u => u = h)) (IN : PNw K P c rc.2.2.2.2.1 rd.2.2.2.2.2.2) (J : JPp K P c p h r) (hr : 0 ≤ r 160 22) (IB : ∀ (k q : Nat) (h1 r1 : ms_M) (e i : Int), JPp K P c q h1 r1 → p < q → r 160 22 ≤ r1 160 22 → CHl a K r1 3 i 0 (r 160 22) (r1 160 22) (p : Int) (q : Int) e → Pc (rc.2.2.2.1 a h1) (fun u => Pc (qw_X13_postfix_11 nn rd2 k a (p : Int) e r1) (fun v => JB a K P c p (r 160 22) r1 u v))) : Pc (qo_X8_readPrimary nn rc a h) (fun u => Pc (qo_X13_primary nn rd a r) (fun y => Pc (qw_X13_postfix_11 nn rd2 nn a (p : Int) y.1 y.2) (fun v => JE a K P c p 2 r u v))) := by
  have n3 := BK.2.1
  have J0 := J
  obtain ⟨b, d2, ⟨g1, g2, g3⟩, g4, g5⟩ := J
  have BEH : ∀ (q : Nat) (h1 : ms_M) (e1 : Int × ms_M) (i : Int), JPp K P c q h1 e1.2 → p < q → NDf r e1.2 → CHl a K e1.2 3 i 0 (r 160 22) (e1.2 160 22) (p : Int) (q : Int) e1.1 → Pc (qj_X8_readPrimary_160 nn rc a h1) (fun u => Pc (qw_X13_postfix_11 nn rd2 nn a (p : Int) e1.1 e1.2) (fun v => JE a K P c p 2 r u v)) := fun q h1 e1 i Jq pq N CH => by
    unfold qj_X8_readPrimary_160
    refine pc_se ?_; intro u2 e2
    refine pc_ret ?_
    refine pc_imp (IB nn q h1 e1.2 e1.1 i Jq pq N.1 CH u2 e2) (fun v z => ?_)
    rcases z with z | ⟨q2, i2, z1, z2, z3⟩
    · exact .inl z
    · exact .inr ⟨q2, i2, z1, z2.1, ⟨z2.2.1, z2.2.2.1⟩, ndf_t N z3⟩
  have SFB : ∀ (h1 : ms_M) (e1 : Int × ms_M), SFj h1 e1.2 → Pc (qj_X8_readPrimary_160 nn rc a h1) (fun u => Pc (qw_X13_postfix_11 nn rd2 nn a (p : Int) e1.1 e1.2) (fun v => JE a K P c p 2 r u v)) := fun h1 e1 S => pj_sf (o := fun a => a) (q := fun b => b.2) S (fs_qj_X8_readPrimary_160 Gc S.1) (ft_qw_X13_postfix_11 G2 _ _ _ _ _ (sf_r S)) (fun a b s => .inl s)
  have UP : 2 ≤ K p → JPp K P c (p + 1) (up_M h 2 10 ((p + 1 : Nat) : Int)) (up_M r 160 23 ((p + 1 : Nat) : Int)) := fun k => jp_up BK J0 (jp_lt BK g3 k)
  have LIT : ∀ k : Int, ((k = 20 ∧ K p = 3) ∨ (k = 21 ∧ K p = 28) ∨ (k = 22 ∧ K p = 17) ∨ (k = 23 ∧ K p = 22) ∨ (k = 24 ∧ K p = 26)) → Pc (qj_X8_readPrimary_80 nn rc a h) (fun u => Pc (mx_sv (qf_X13_add nn k (p : Int) (p : Int) (up_M r 160 23 ((p + 1 : Nat) : Int))) fun u4 => some (u4.1, u4.2)) (fun y => Pc (qw_X13_postfix_11 nn rd2 nn a (p : Int) y.1 y.2) (fun v => JE a K P c p 2 r u v))) := fun k hk => by
    have J1 := UP (by omega)
    unfold qj_X8_readPrimary_80
    rw [g1]
    refine pc_add (by omega) ?_; intro v5 e5
    refine pc_xl ?_; intro h6 e6
    rw [show v5 = ((p + 1 : Nat) : Int) by omega] at e6
    rw [← e6] at J1
    refine pc_fl ?_
    refine pc_sv r_add ?_; intro u4 q4
    obtain ⟨⟨x1, x2, x3⟩, ND, FR⟩ := q4
    rw [up_n (by omega)] at x1 x2 x3 ND FR
    refine pc_ret (BEH (p + 1) h6 (u4.1, u4.2) 0 (jp_r J1 (fun c k z => FR c k (by omega) (by omega))) (by omega) ⟨by show _ ≤ u4.2 160 22; omega, fun c x c1 c2 c3 => by show u4.2 c x = _; rw [FR c x (by omega) (by omega), up_n (by omega)]⟩ ?_)
    show CHl a K u4.2 3 0 0 _ (u4.2 160 22) _ _ u4.1
    rw [x2]
    refine ch_mk (lk_pl ⟨hr, Int.le_refl _, by omega⟩ ⟨?_, ND.1.2.1, by omega⟩ ha) (by decide) ⟨ND.1.2.2, ND.2.2.2.2⟩
    rw [Int.toNat_natCast, ND.1.1]; omega
  unfold qo_X8_readPrimary
  refine pc_sv (c_kind BK b g3 g1 g4) ?_; intro u9 q9
  refine pc_if (fun z => ?_) (fun z2 => ?_)
  · -- NAME
    have kp : K p = 2 := by omega
    have J1 := UP (by omega)
    rw [g1]
    refine pc_add (by omega) ?_; intro v15 e15
    refine pc_xl ?_; intro h16 e16
    rw [show v15 = ((p + 1 : Nat) : Int) by omega] at e16
    rw [← e16] at J1
    refine pc_fl ?_
    refine rp_name BK d2 g3 g2 kp ?_
    refine pc_sv r_add ?_; intro u53 q53
    obtain ⟨⟨x1, x2, x3⟩, ND, FR⟩ := q53
    rw [up_n (by omega)] at x1 x2 x3 ND FR
    have J53 : JPp K P c (p + 1) h16 u53.2 := jp_r J1 (fun c k z => FR c k (by omega) (by omega))
    have N53 : NDf r u53.2 := ⟨by rw [x3]; omega, fun c x c1 c2 c3 => by rw [FR c x (by omega) (by omega), up_n (by omega)]⟩
    have J53' := J53
    obtain ⟨b1, d1, ⟨k1, k2, k3⟩, k4, k5⟩ := J53'
    rw [k2]
    refine pc_sv (r_sgn BK d1 rfl (by omega) (k := 40) (by decide) (by decide)) ?_; intro u56 q56
    by_cases k40 : K (p + 1) = 40
    · refine pc_if (fun z => absurd z (by omega)) (fun _ => ?_)
      refine pc_wA ?_; intro i1 i2 h58 e58
      rw [x2] at e58
      have ND58 := nd_7 (z := 26) ND
      rw [← e58] at ND58
      have n58 : h58 160 22 = r 160 22 + 1 := by rw [e58, up_n (by omega)]; exact x3
      have N58 : NDf r h58 := by rw [e58]; exact ndf_w N53 (by decide) (by omega)
      refine pc_fl ?_
      refine p2_sv (IA a (p + 1) h16 h58 ha (by rw [e58]; exact jp_w J53 (by decide)) (by omega) k40) ?_; intro u18 u61 q61
      refine pc_fl ?_
      refine pc_wA ?_; intro j1 j2 h62 e62
      rw [x2] at e62
      refine pc_ret ?_
      rcases q61 with S | ⟨q, ⟨Jq, pq⟩, Lq, N61⟩
      · refine SFB u18 (u53.1, h62) ?_
        show SFj u18 h62
        refine ⟨S.1, ?_, ?_⟩
        · rw [e62, up_n (by omega)]; exact S.2.1
        · rw [e62, up_n (by omega)]; exact S.2.2
      · have nn61 := N61.1
        have ND62 := nd_1 (z := u61.1) (nd_nd ND58 (by omega) (by omega) N61)
        rw [← e62] at ND62
        have n62 : h62 160 22 = u61.2 160 22 := by rw [e62, up_n (by omega)]
        have o1 := ND62.2.1.2.1
        refine BEH q u18 (u53.1, h62) 0 (by show JPp K P c q u18 h62; rw [e62]; exact jp_w Jq (by decide)) (by omega) (by show NDf r h62; rw [e62]; exact ndf_w (ndf_t N58 N61) (by decide) (by omega)) ?_
        show CHl a K h62 3 0 0 _ (h62 160 22) _ _ u53.1
        rw [x2]
        refine ch_mk (lk_pc ⟨hr, Int.le_refl _, by omega⟩ ⟨ND62.1.1, ND62.1.2.1⟩ (by rw [Int.toNat_natCast]; exact kp) ?_ ha) (by decide) ⟨ND62.1.2.2, ND62.2.2.2.2⟩
        rw [o1, n62, ← n58, show (p : Int) + 1 = ((p + 1 : Nat) : Int) by omega, e62]
        exact lk_w Lq (.inl (.inl (by omega)))
    · refine pc_if (fun _ => ?_) (fun z => absurd (by omega) z)
      refine pc_ret ?_
      refine pc_sv (IA0 (p + 1) h16 b1 k3 k1 k4 k40) ?_; intro u18 e18
      rw [e18]
      refine BEH (p + 1) h16 (u53.1, u53.2) 0 J53 (by omega) N53 ?_
      show CHl a K u53.2 3 0 0 _ (u53.2 160 22) _ _ u53.1
      rw [x2]
      exact ch_mk (lk_pn ⟨hr, Int.le_refl _, by omega⟩ ⟨ND.1.1, ND.1.2.1⟩ ⟨by rw [Int.toNat_natCast]; exact kp, by rw [show ((p : Int) + 1).toNat = p + 1 by omega]; exact k40, by omega⟩ ha) (by decide) ⟨ND.1.2.2, ND.2.2.2.2⟩
  refine pc_if (fun z => ?_) (fun z3 => ?_)
  · exact pc_fl (rp_num BK d2 g3 g2 (by omega) (pc_fl (LIT 20 (by omega))))
  refine pc_if (fun z => ?_) (fun z17 => ?_)
  · exact pc_fl (rp_w BK d2 g3 g2 (k := 22) (w := 7) (by omega) (by omega) (pc_fl (LIT 22 (by omega))))
  refine pc_if (fun z => ?_) (fun z21 => ?_)
  · -- new
    refine pc_fl ?_
    refine rp_new BK d2 g3 g2 (by omega) ?_
    refine pc_fl ?_
    refine p2_sv (IN a p h r ha J0 hr (by omega)) ?_; intro u20 u34 q34
    refine pc_fl ?_
    refine pc_ret ?_
    rcases q34 with S | ⟨q, i, ⟨Jq, pq⟩, Lq, lab, Nq⟩
    · exact SFB u20 (u34.1, u34.2) S
    · exact BEH q u20 (u34.1, u34.2) i Jq pq Nq (ch_mk Lq (by decide) lab)
  refine pc_if (fun z => ?_) (fun z22 => ?_)
  · exact pc_fl (rp_w BK d2 g3 g2 (k := 23) (w := 12) (by omega) (by omega) (pc_fl (LIT 23 (by omega))))
  refine pc_if (fun z => ?_) (fun z26 => ?_)
  · exact pc_fl (rp_w BK d2 g3 g2 (k := 24) (w := 16) (by omega) (by omega) (pc_fl (LIT 24 (by omega))))
  refine pc_if (fun z => ?_) (fun z28 => ?_)
  · exact pc_fl (rp_w BK d2 g3 g2 (k := 21) (w := 18) (by omega) (by omega) (pc_fl (LIT 21 (by omega))))
  refine pc_if (fun z => ?_) (fun z40 => ?_)
  · -- ( E )
    have kp : K p = 40 := by omega
    have J1 := UP (by omega)
    rw [g1]
    refine pc_add (by omega) ?_; intro v23 e23
    refine pc_xl ?_; intro h24 e24
    rw [show v23 = ((p + 1 : Nat) : Int) by omega] at e24
    rw [← e24] at J1
    refine pc_fl ?_
    refine rp_par BK d2 g3 g2 kp ?_
    refine pc_fl ?_
    have n1 : up_M r 160 23 ((p + 1 : Nat) : Int) 160 22 = r 160 22 := up_n (by omega)
    have N1 : NDf r (up_M r 160 23 ((p + 1 : Nat) : Int)) := ndf_c ndf_r (by decide)
    refine p2_sv (IE a (p + 1) h24 _ ha J1 (by rw [n1]; exact hr)) ?_; intro u26 u45 q45
    rcases q45 with S | ⟨t, i, ⟨Jt, pt⟩, Lt, labt, Nt⟩
    · refine pc_se ?_; intro u28 e28
      have F28 := fs_qf_X8_need S.1 u28 e28
      refine pc_fl ?_
      refine pc_sv (ft_qf_X13_sign_ (sf_r S)) ?_; intro u47 q47
      have S2 := sf_k S F28 q47
      unfold qj_X13_primary_138
      refine pc_if (fun z => absurd z (sf_r S2)) (fun _ => ?_)
      exact pc_ret (SFB u28 (-1, u47) S2)
    · refine p2_sv (j_need BK Jt (k := 41) (by decide) (by decide)) ?_; intro u28 u47 q47
      refine pc_fl ?_
      unfold qj_X13_primary_138
      rcases q47 with ⟨k41, m47, J47⟩ | S
      · have f47 : u47 160 9 = 0 := J47.2.2.2.2
        refine pc_if (fun _ => ?_) (fun z => absurd f47 z)
        refine pc_wA ?_; intro j1 j2 h13 e13
        refine pc_wZ ?_; intro j3 j4 h15 e15
        refine pc_ret ?_
        have N47 : NDf u45.2 u47 := by rw [m47]; exact ndf_c ndf_r (by decide)
        have rg := lk_rg Lt (by decide) (by decide)
        rw [n1] at rg
        have n47 : u47 160 22 = u45.2 160 22 := by rw [m47, up_n (by omega)]
        have n15 : h15 160 22 = u45.2 160 22 := by rw [e15, up_n (by omega), e13, up_n (by omega)]; exact n47
        have N15 : NDf r h15 := by
          rw [e15, e13]
          exact ndf_w (ndf_w (ndf_t (ndf_t N1 Nt) N47) (by decide) (by omega)) (by decide) (by omega)
        refine BEH (t + 1) u28 (u45.1, h15) 1 (by show JPp K P c (t + 1) u28 h15; rw [e15, e13]; exact jp_w (jp_w J47 (by decide)) (by decide)) (by omega) N15 ?_
        show CHl a K h15 3 1 0 _ (h15 160 22) _ _ u45.1
        have LL : LKn a K h15 0 i 0 (r 160 22) (u45.2 160 22) ((p + 1 : Nat) : Int) (t : Int) u45.1 := by
          rw [n1] at Lt
          refine lk_map Lt (fun c x c1 c2 _ x1 x2 x3 _ => ?_)
          rw [e15, e13]
          by_cases y1 : c = 177 ∧ x = u45.1.toNat
          · exact absurd (by decide) (x3 (.inr y1.1) (by omega))
          · rw [up_n y1]
            by_cases y2 : c = 169 ∧ x = u45.1.toNat
            · exact absurd (by decide) (x3 (.inl y2.1) (by omega))
            · rw [up_n y2]; exact N47.2 c x c1 c2 x2
        rw [n15]
        refine ch_mk (lk_pb (i := i) (t := (t : Int)) ⟨by rw [Int.toNat_natCast]; exact kp, by rw [Int.toNat_natCast]; exact k41, by omega⟩ (by rw [show (p : Int) + 1 = ((p + 1 : Nat) : Int) by omega]; exact LL)) (by decide) ⟨?_, ?_⟩
        · rw [e15, up_n (by omega), e13, up_s]
        · rw [e15, up_s]
      · refine pc_if (fun z => absurd z (sf_r S)) (fun _ => ?_)
        exact pc_ret (SFB u28 (-1, u47) S)
  · -- none begins so
    refine pc_fl ?_
    refine rp_bad BK d2 g3 g2 (by omega) ?_
    refine pc_fl ?_
    refine pc_sv (c_here BK b g3 g1 g4) ?_; intro u12 q12
    refine pc_fl ?_
    refine pc_sv (r_mis BK d2 g3 g2 g5) ?_; intro u2 q2
    refine pc_ret (SFB u12 (-1, u2) ⟨?_, ?_, ?_⟩)
    · rw [q12.1]; exact tl_0 (by decide)
    · show u2 160 9 = _; rw [q2.1, q12.1]
    · show u2 160 10 = _; rw [q2.2, q12.2]
/-- all readers of E, at any depth of the class's and the reference's calls -/
def GJ (nn : Nat) (K P : Nat → Int) (c d : Nat) : Prop := ∀ d2 : Nat, PE K P c 0 (qg_X8_readValue nn d).1 (qg_X13_expression nn d2).1 ∧ PE K P c 2 (qg_X8_readValue nn d).2.1 (qg_X13_expression nn d2).2.2.1 ∧ PP K P c (qg_X8_readValue nn d).2.2.1 (qg_X13_expression nn d2).2.2.2.2.1 ∧ PAr K P c (qg_X8_readValue nn d).2.2.2.2.2 (qg_X13_expression nn d2).2.2.2.1 ∧ PNw K P c (qg_X8_readValue nn d).2.2.2.2.1 (qg_X13_expression nn d2).2.2.2.2.2.2
theorem gj_a0 (BK : TBn K c) {a : Int} : ∀ (d q : Nat) (h : ms_M), TBc K P c h → q < c → h 2 10 = (q : Int) → h 2 11 = 0 → ¬ K q = 40 → Pc ((qg_X8_readValue nn d).2.2.2.2.2 a h) (fun u => u = h) := by
  intro d q h B hq hc hf k
  cases d with
  | zero => exact pc_none
  | succ d => exact je_A0 BK B hq hc hf k
theorem gj_all (BK : TBn K c) : ∀ d : Nat, GJ nn K P c d := by
  intro d
  induction d using Nat.strongRecOn with
  | ind d ih =>
    intro d2
    cases d with
    | zero => exact ⟨fun a p h r _ _ _ => pc_none, fun a p h r _ _ _ => pc_none, fun a p h r _ _ _ _ => pc_none, fun a p h r _ _ _ _ => pc_none, fun a p h r _ _ _ _ => pc_none⟩
    | succ d =>
      have I := ih d (by omega)
      have Gc := fsg_X8_readValue nn d
      cases d2 with
      | zero => exact ⟨fun a p h r _ _ _ => fun _ _ => pc_none, fun a p h r _ _ _ => fun _ _ => pc_none, fun a p h r _ _ _ _ => fun _ _ => pc_none, fun a p h r _ _ _ _ => fun _ _ => pc_none, fun a p h r _ _ _ _ => fun _ _ => pc_none⟩
      | succ d2 =>
        refine ⟨fun a p h r ha J hr => ?_, fun a p h r ha J hr => ?_, fun a p h r ha J hr pf => ?_, fun a p h r ha J hr kp => ?_, fun a p h r ha J hr kp => ?_⟩
        · exact je_E BK ha Gc (fun d => (I d).2.1) (fun d => (I d).1) J hr
        · exact je_U BK ha Gc (I d2).2.1 (I d2).2.2.1 J hr
        · show Pc (qo_X8_readPrimary nn (qg_X8_readValue nn d) a h) (fun u => Pc (qo_X13_postfix nn (qg_X13_expression nn d2) a r) (fun v => JE a K P c p 2 r u v))
          unfold qo_X13_postfix
          rw [J.2.2.1.2.1]
          refine pc_fl (pc_sb ?_)
          cases d2 with
          | zero => exact pc_none
          | succ d2 =>
            show Pc (qo_X13_primary nn (qg_X13_expression nn d2) a r) _
            have R := je_P (nn := nn) (rd := qg_X13_expression nn d2) (rd2 := qg_X13_expression nn (d2 + 1)) BK ha Gc (ftg_X13_expression nn d2) (ftg_X13_expression nn (d2 + 1)) (I d2).1 (I d2).2.2.2.1 (fun q h B hq hc hf k => gj_a0 BK d q h B hq hc hf k) (I d2).2.2.2.2 J hr (fun k q h1 r1 e i J1 pq hn CH => by
              cases d with
              | zero => exact pc_none
              | succ d0 =>
                have I0 := ih d0 (by omega) (d2 + 1)
                exact jb_4 BK ha (fsg_X8_readValue nn d0) (ftg_X13_expression nn (d2 + 1)) I0.1 I0.2.2.2.1 (fun q h B hq hc hf k => gj_a0 BK d0 q h B hq hc hf k) hr pf nn k q h1 r1 e i 0 J1 pq hn CH (by omega))
            exact fun y ey => pc_fl (fun u eu => R u eu y ey)
        · exact je_A BK ha Gc (I d2).1 J hr kp
        · exact je_N BK ha Gc (I d2).1 J hr kp
/-- E of both sides -/
theorem j_value (BK : TBn K c) {a : Int} (ha : 0 ≤ a ∧ a ≤ 40) (J : JPp K P c p h r) (hr : 0 ≤ r 160 22) : Pc (qf_X8_readValue nn a h) (fun u => Pc (qf_X13_expression nn a r) (fun v => JE a K P c p 0 r u v)) := (gj_all BK 260 700).1 a p h r ha J hr
end
end
