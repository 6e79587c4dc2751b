/- PARSE: P of both sides -/
/-- what stands behind a P -/
def JB (dp : Int) (K P : Nat → Int) (c p : Nat) (n0 : Int) (r u : ms_M) (v : Int × ms_M) : Prop := SFj u v.2 ∨ ∃ (q2 : Nat) (i2 : Int), (JPp K P c q2 u v.2 ∧ p < q2) ∧ CHl dp K v.2 2 i2 0 n0 (v.2 160 22) (p : Int) (q2 : Int) v.1 ∧ NDf r v.2
section
variable {nn : Nat} {K P : Nat → Int} {c p : Nat} {h g r w u v : ms_M}
theorem jb_4 (BK : TBn K c) {rc : tq_X8_readValue} {rd : tq_X13_expression} {a : Int} (ha : 0 ≤ a ∧ a ≤ 40) (Gc : FScG_X8_readValue rc) (Gr : FSrG_X13_expression rd) (IE : PE K P c 0 rc.1 rd.1) (IA : PAr K P c rc.2.2.2.2.2 rd.2.2.2.1) (IA0 : ∀ (q : Nat) (h : ms_M), TBc K P c h → q < c → h 2 10 = (q : Int) → h 2 11 = 0 → ¬ K q = 40 → Pc (rc.2.2.2.2.2 a h) (fun u => u = h)) {n0 : Int} (hn0 : 0 ≤ n0) (pf : ¬ CST K (p : Int) ∧ ¬ K p = 62 ∧ ¬ K p = 71 ∧ ¬ K p = 72) : ∀ (f k q : Nat) (h r : ms_M) (e i t : Int), JPp K P c q h r → p < q → n0 ≤ r 160 22 → CHl a K r 3 i 0 n0 (r 160 22) (p : Int) (q : Int) e → (0 ≤ t ∧ t < (q : Int)) → Pc (qw_X8_readBehind_4 nn rc f a 1 t h) (fun u => Pc (qw_X13_postfix_11 nn rd k a (p : Int) e r) (fun v => JB a K P c p n0 r u v)) := by
  have n3 := BK.2.1
  intro f
  induction f with
  | zero => intros; exact pc_none
  | succ f ih =>
    intro k q h r e i t J pq hn CE ht
    cases k with
    | zero => exact fun _ _ => pc_none
    | succ k =>
      have J0 := J
      obtain ⟨b, d, ⟨g1, g2, g3⟩, g4, g5⟩ := J
      have Hqkk_11 : ∀ (z0 z1 z2 : Int) (z3 : ms_M), ¬ z3 160 9 = 0 → Pc (qw_X13_postfix_11 nn rd k z0 z1 z2 z3) (fun u => FSr z3 u.2) := fun z0 z1 z2 z3 S => ft_qw_X13_postfix_11 Gr _ _ _ _ _ S
      unfold qw_X8_readBehind_4
      refine pc_if (fun z => absurd z (by omega)) (fun _ => ?_)
      refine pc_if (fun z => absurd z (by decide)) (fun _ => ?_)
      refine pc_sv (c_acc BK b g3 g1 g4) ?_; intro u2 q2
      refine pc_fl ?_
      unfold qw_X13_postfix_11
      refine pc_if (fun z => absurd g5 z) (fun _ => ?_)
      rw [g2]
      refine pc_sv (r_sgn BK d rfl (by omega) (k := 48) (by decide) (by decide)) ?_; intro u48 q48
      rcases q2 with ⟨k48, m2⟩ | ⟨k48, m2⟩
      · -- . NAME
        have q1c := jp_lt BK g3 (by omega)
        have J1 := jp_up BK J0 q1c
        refine pc_if (fun _ => ?_) (fun z => absurd (by omega) z)
        unfold qj_X13_postfix_44
        rw [g2]
        refine pc_sv (r_sgn BK d rfl (by omega) (k := 48) (by decide) (by decide)) ?_; intro u5 q5
        refine pc_if (fun z => absurd z (by omega)) (fun _ => ?_)
        refine pc_sv r_add ?_; intro u19 q19
        obtain ⟨⟨x1, x2, x3⟩, ND, FR⟩ := q19
        have c19 : u19.2 160 23 = (q : Int) := by rw [FR 160 23 (by omega) (by omega)]; exact g2
        rw [c19]
        refine pc_wA ?_; intro i1 i2 h22 e22
        rw [x2] at e22
        have c22 : h22 160 23 = (q : Int) := by rw [e22, up_n (by omega)]; exact c19
        rw [c22]
        refine pc_add (by omega) ?_; intro v24 e24
        refine pc_xl ?_; intro h25 e25
        rw [show v24 = ((q + 1 : Nat) : Int) by omega] at e25
        have J25 : JPp K P c (q + 1) (up_M h 2 10 ((q + 1 : Nat) : Int)) h25 := by
          refine jp_r J1 (fun c k z => ?_)
          rw [e25]
          by_cases zz : c = 160 ∧ k = 23
          · rw [zz.1, zz.2, up_s, up_s]
          · rw [up_n zz, up_n zz, e22, up_n (by omega), FR c k (by omega) (by omega)]
        have N19 : NDf r u19.2 := ⟨by rw [x3]; omega, fun c x c1 c2 c3 => FR c x (by omega) (by omega)⟩
        have N25 : NDf r h25 := by rw [e25, e22]; exact ndf_c (ndf_w N19 (by decide) (by omega)) (by decide)
        have ND25 := nd_o (z := ((q + 1 : Nat) : Int)) (m := 160) (j := 23) (nd_2 (z := (q : Int)) ND) (.inr (by decide))
        rw [← e22, ← e25] at ND25
        have n25 : h25 160 22 = r 160 22 + 1 := by rw [e25, up_n (by omega), e22, up_n (by omega)]; exact x3
        refine pc_fl ?_
        rw [m2]
        dsimp only
        refine pc_if (fun z => absurd z (by decide)) (fun _ => ?_)
        refine p2_sv (j_name BK J25) ?_; intro u13 u28 q28
        rcases q28 with ⟨k2n, m28, J28⟩ | S
        · have w28 : u28.1 = ((q + 1 : Nat) : Int) := by rw [m28]
          have mm28 : u28.2 = up_M h25 160 23 ((q + 1 + 1 : Nat) : Int) := by rw [m28]
          have n28 : u28.2 160 22 = r 160 22 + 1 := by rw [mm28, up_n (by omega)]; exact n25
          have ND28 := nd_o (z := ((q + 1 + 1 : Nat) : Int)) (m := 160) (j := 23) ND25 (.inr (by decide))
          rw [← mm28] at ND28
          have N28 : NDf r u28.2 := by rw [mm28]; exact ndf_c N25 (by decide)
          refine pc_fl ?_
          refine pc_wA ?_; intro i3 i4 h29 e29
          rw [x2] at e29
          refine pc_wA ?_; intro i5 i6 h31 e31
          rw [x2] at e31
          have ND31 := nd_0 (z := e) (nd_8 (z := u28.1) ND28)
          rw [← e29, ← e31] at ND31
          have N31 : NDf r h31 := by rw [e31, e29]; exact ndf_w (ndf_w N28 (by decide) (by omega)) (by decide) (by omega)
          have n31 : h31 160 22 = r 160 22 + 1 := by rw [e31, up_n (by omega), e29, up_n (by omega)]; exact n28
          have J31 : JPp K P c (q + 1 + 1) u13 h31 := by rw [e31, e29]; exact jp_w (jp_w J28 (by decide)) (by decide)
          have J31' := J31
          obtain ⟨b3, d3, ⟨l1, l2, l3⟩, l4, l5⟩ := J31'
          have C31 : CHl a K h31 3 i 0 n0 (r 160 22) (p : Int) (q : Int) e := ch_nd CE (Int.le_refl _) N31
          refine pc_if (fun z => absurd l5 z) (fun _ => ?_)
          rw [l2]
          refine pc_sv (r_sgn BK d3 rfl (by omega) (k := 40) (by decide) (by decide)) ?_; intro u35 q35
          by_cases k40 : K (q + 1 + 1) = 40
          · -- ARGS
            refine pc_if (fun z => absurd z (by omega)) (fun _ => ?_)
            refine pc_wA ?_; intro i7 i8 h37 e37
            rw [x2] at e37
            have ND37 := nd_7 (z := 31) ND31
            rw [← e37] at ND37
            have N37 : NDf r h37 := by rw [e37]; exact ndf_w N31 (by decide) (by omega)
            have n37 : h37 160 22 = r 160 22 + 1 := by rw [e37, up_n (by omega)]; exact n31
            have J37 : JPp K P c (q + 1 + 1) u13 h37 := by rw [e37]; exact jp_w J31 (by decide)
            refine pc_fl ?_
            refine p2_sv (IA a (q + 1 + 1) u13 h37 ha J37 (by omega) k40) ?_; intro u15 u40 q40
            rcases q40 with S | ⟨q3, ⟨J40, pq3⟩, L40, N40⟩
            · refine pj_sf (o := fun a => a) (q := fun b => b.2) S ?_ ?_ (fun a b s => .inl s)
              · have S1 : ¬ u15 2 11 = 0 := S.1
                have F : FSc u15 u15 := fs_r
                refine pc_xl ?_; intro v16 _
                exact pc_imp (fs_qw_X8_readBehind_4 Gc _ _ _ _ _ (fs_n S1 F)) (fun _ q => fs_t F q)
              · have S1 : ¬ u40.2 160 9 = 0 := sf_r S
                have F : FSr u40.2 u40.2 := ft_r
                refine pc_wA ?_; intro _ _ h41 Eh41
                have Fh41 : FSr u40.2 h41 := by rw [Eh41]; exact ft_u F (by omega)
                exact pc_imp (Hqkk_11 _ _ _ _ (ft_n S1 Fh41)) (fun _ q => ft_t Fh41 q)
            · refine pc_add (by omega) ?_; intro v16 e16
              refine pc_fl ?_
              refine pc_wA ?_; intro j1 j2 h41 e41
              rw [x2] at e41 ⊢
              have nn40 := N40.1
              have ND41 := nd_1 (z := u40.1) (nd_nd ND37 (by omega) (by omega) N40)
              rw [← e41] at ND41
              have n41 : h41 160 22 = u40.2 160 22 := by rw [e41, up_n (by omega)]
              have N41 : NDf r h41 := by rw [e41]; exact ndf_w (ndf_t N37 N40) (by decide) (by omega)
              have o0 := ND41.2.1.1
              have o1 := ND41.2.1.2.1
              have C41 := ch_nd CE (Int.le_refl _) N41
              have CH : CHl a K h41 3 0 0 n0 (h41 160 22) (p : Int) (q3 : Int) (r 160 22) := by
                refine ch_mk (lk_pd (ix := i) (t := (q : Int)) ⟨hn0, hn, by omega⟩ ⟨ND41.1.1, by rw [ND41.1.2.1, w28]; omega, ND41.2.1.2.2.1⟩ ⟨by rw [Int.toNat_natCast]; exact k48, by rw [show ((q : Int) + 1).toNat = q + 1 by omega]; exact k2n⟩ (by rw [o0]; exact C41.1) (by rw [o0]; exact ⟨C41.2.1, C41.2.2.1⟩) ?_) (by decide) ⟨ND41.1.2.2, ND41.2.2.2.2⟩
                rw [o1, n41, show (q : Int) + 2 = ((q + 1 + 1 : Nat) : Int) by omega, ← n37, e41]
                exact lk_w L40 (.inl (.inl (by omega)))
              refine pc_fl ?_
              refine (fun uu euu w ew => ?_)
              have R := ih k q3 u15 h41 (r 160 22) 0 v16 (by rw [e41]; exact jp_w J40 (by decide)) (by omega) (by omega) CH (by omega) uu euu w ew
              rcases R with R | ⟨q5, i5, R1, R2, R3⟩
              · exact .inl R
              · exact .inr ⟨q5, i5, R1, R2, ndf_t N41 R3⟩
            
          · -- a field
            refine pc_if (fun _ => ?_) (fun z => absurd (by omega) z)
            refine pc_fl ?_
            refine pc_sv (IA0 (q + 1 + 1) u13 b3 l3 l1 l4 k40) ?_; intro u15 e15
            refine pc_add (by omega) ?_; intro v16 e16
            rw [e15, x2]
            have o0 := ND31.2.1.1
            have CH : CHl a K h31 3 0 0 n0 (h31 160 22) (p : Int) ((q + 1 + 1 : Nat) : Int) (r 160 22) := ch_mk (lk_pf (ix := i) (t := (q : Int)) ⟨hn0, hn, by omega⟩ ⟨ND31.1.1, by rw [ND31.1.2.1, w28]; omega, ND31.2.1.2.2.1⟩ ⟨by rw [Int.toNat_natCast]; exact k48, by rw [show ((q : Int) + 1).toNat = q + 1 by omega]; exact k2n, by rw [show ((q : Int) + 2).toNat = q + 1 + 1 by omega]; exact k40, by omega⟩ (by rw [o0]; exact C31.1) (by rw [o0]; exact ⟨C31.2.1, C31.2.2.1⟩)) (by decide) ⟨ND31.1.2.2, ND31.2.2.2.2⟩
            refine (fun uu euu w ew => ?_)
            have R := ih k (q + 1 + 1) u13 h31 (r 160 22) 0 v16 J31 (by omega) (by omega) CH (by omega) uu euu w ew
            rcases R with R | ⟨q5, i5, R1, R2, R3⟩
            · exact .inl R
            · exact .inr ⟨q5, i5, R1, R2, ndf_t N31 R3⟩
        · refine pj_sf (o := fun a => a) (q := fun b => b.2) S ?_ ?_ (fun a b s => .inl s)
          · have S1 : ¬ u13 2 11 = 0 := S.1
            have F : FSc u13 u13 := fs_r
            refine pc_sv (Gc.2.2.2.2.2 (fs_n S1 F)) ?_; intro u15 Qu15
            have Fu15 : FSc u13 u15 := fs_t F Qu15
            refine pc_xl ?_; intro v16 _
            exact pc_imp (fs_qw_X8_readBehind_4 Gc _ _ _ _ _ (fs_n S1 Fu15)) (fun _ q => fs_t Fu15 q)
          · have S1 : ¬ u28.2 160 9 = 0 := sf_r S
            have F : FSr u28.2 u28.2 := ft_r
            refine pc_wA ?_; intro _ _ h29 Eh29
            have Fh29 : FSr u28.2 h29 := by rw [Eh29]; exact ft_u F (by omega)
            refine pc_wA ?_; intro _ _ h31 Eh31
            have Fh31 : FSr u28.2 h31 := by rw [Eh31]; exact ft_u Fh29 (by omega)
            refine pc_if (fun _ => ?_) (fun _ => ?_)
            · exact pc_imp (Hqkk_11 _ _ _ _ (ft_n S1 Fh31)) (fun _ q => ft_t Fh31 q)
            · refine pc_se ?_; intro u35 _
              refine pc_if (fun _ => ?_) (fun _ => ?_)
              · exact pc_imp (Hqkk_11 _ _ _ _ (ft_n S1 Fh31)) (fun _ q => ft_t Fh31 q)
              · refine pc_wA ?_; intro _ _ h37 Eh37
                have Fh37 : FSr u28.2 h37 := by rw [Eh37]; exact ft_u Fh31 (by omega)
                refine pc_sv (Gr.2.2.2.1 (ft_n S1 Fh37)) ?_; intro u40 Qu40
                have Fu40 : FSr u28.2 u40.2 := ft_t Fh37 Qu40
                refine pc_wA ?_; intro _ _ h41 Eh41
                have Fh41 : FSr u28.2 h41 := by rw [Eh41]; exact ft_u Fu40 (by omega)
                exact pc_imp (Hqkk_11 _ _ _ _ (ft_n S1 Fh41)) (fun _ q => ft_t Fh41 q)
      · refine pc_if (fun z => absurd (by omega) z) (fun _ => ?_)
        refine pc_sv (r_sgn BK d rfl (by omega) (k := 44) (by decide) (by decide)) ?_; intro u51 q51
        refine pc_fl ?_
        rw [m2]
        dsimp only
        refine pc_if (fun _ => ?_) (fun z => absurd rfl z)
        refine pc_sv (c_acc BK b g3 g1 g4) ?_; intro u4 q4
        rcases q4 with ⟨k44, m4⟩ | ⟨k44, m4⟩
        · -- [ E ]
          have q1c := jp_lt BK g3 (by omega)
          have J1 := jp_up BK J0 q1c
          rw [m4]
          dsimp only
          refine pc_if (fun z => absurd z (by decide)) (fun _ => ?_)
          refine pc_fl ?_
          refine pc_if (fun z => absurd z (by omega)) (fun _ => ?_)
          unfold qj_X13_postfix_44
          rw [g2]
          refine pc_sv (r_sgn BK d rfl (by omega) (k := 48) (by decide) (by decide)) ?_; intro u5 q5
          refine pc_if (fun _ => ?_) (fun z => absurd (by omega) z)
          refine pc_sv r_add ?_; intro u8 q8
          obtain ⟨⟨x1, x2, x3⟩, ND, FR⟩ := q8
          have c8 : u8.2 160 23 = (q : Int) := by rw [FR 160 23 (by omega) (by omega)]; exact g2
          rw [c8]
          refine pc_add (by omega) ?_; intro v10 e10
          refine pc_xl ?_; intro h11 e11
          rw [show v10 = ((q + 1 : Nat) : Int) by omega] at e11
          refine pc_wA ?_; intro i1 i2 h13 e13
          rw [x2] at e13
          have N8 : NDf r u8.2 := ⟨by rw [x3]; omega, fun c x c1 c2 c3 => FR c x (by omega) (by omega)⟩
          have N13 : NDf r h13 := by rw [e13, e11]; exact ndf_w (ndf_c N8 (by decide)) (by decide) (by omega)
          have ND13 := nd_0 (z := e) (nd_o (z := ((q + 1 : Nat) : Int)) (m := 160) (j := 23) ND (.inr (by decide)))
          rw [← e11, ← e13] at ND13
          have n13 : h13 160 22 = r 160 22 + 1 := by rw [e13, up_n (by omega), e11, up_n (by omega)]; exact x3
          have J13 : JPp K P c (q + 1) (up_M h 2 10 ((q + 1 : Nat) : Int)) h13 := by
            refine jp_r J1 (fun c k z => ?_)
            rw [e13, up_n (by omega), e11]
            by_cases zz : c = 160 ∧ k = 23
            · rw [zz.1, zz.2, up_s, up_s]
            · rw [up_n zz, up_n zz, FR c k (by omega) (by omega)]
          refine pc_fl ?_
          refine p2_sv (IE a (q + 1) _ h13 ha J13 (by omega)) ?_; intro u7 u16 q16
          rcases q16 with S | ⟨q3, iy, ⟨J16, pq3⟩, L16, lab16, N16⟩
          · refine pj_sf (o := fun a => a) (q := fun b => b.2) S ?_ ?_ (fun a b s => .inl s)
            · have S1 : ¬ u7 2 11 = 0 := S.1
              have F : FSc u7 u7 := fs_r
              refine pc_sv (fs_qf_X8_need (fs_n S1 F)) ?_; intro u9 Qu9
              have Fu9 : FSc u7 u9 := fs_t F Qu9
              refine pc_xl ?_; intro v10 _
              exact pc_imp (fs_qw_X8_readBehind_4 Gc _ _ _ _ _ (fs_n S1 Fu9)) (fun _ q => fs_t Fu9 q)
            · have S1 : ¬ u16.2 160 9 = 0 := sf_r S
              have F : FSr u16.2 u16.2 := ft_r
              refine pc_wA ?_; intro _ _ h17 Eh17
              have Fh17 : FSr u16.2 h17 := by rw [Eh17]; exact ft_u F (by omega)
              exact pc_imp (ft_qj_X13_postfix_194 Gr Hqkk_11 (ft_n S1 Fh17)) (fun _ q => ft_t Fh17 q)
          · have C16 := ch_mk L16 (by decide) lab16
            refine pc_fl ?_
            refine pc_wA ?_; intro j1 j2 h17 e17
            rw [x2] at e17 ⊢
            have nn16 := N16.1
            have ND17 := nd_1 (z := u16.1) (nd_nd ND13 (by omega) (by omega) N16)
            rw [← e17] at ND17
            have n17 : h17 160 22 = u16.2 160 22 := by rw [e17, up_n (by omega)]
            have N17 : NDf r h17 := by rw [e17]; exact ndf_w (ndf_t N13 N16) (by decide) (by omega)
            have J17 : JPp K P c q3 u7 h17 := by rw [e17]; exact jp_w J16 (by decide)
            have C17 : CHl a K h17 0 iy 0 (r 160 22 + 1) (h17 160 22) ((q + 1 : Nat) : Int) (q3 : Int) u16.1 := by
              rw [n17, e17, ← n13]; exact ch_w C16 (.inl (.inl (by omega)))
            unfold qj_X13_postfix_194
            refine pc_fl ?_
            refine p2_sv (j_need BK J17 (k := 45) (by decide) (by decide)) ?_; intro u9 w2 q9
            rcases q9 with ⟨k45, m9, J9⟩ | S
            · refine pc_add (by omega) ?_; intro v10' e10'
              have N9 : NDf h17 w2 := by rw [m9]; exact ndf_c ndf_r (by decide)
              have n9 : w2 160 22 = h17 160 22 := by rw [m9, up_n (by omega)]
              have ND9 := nd_nd ND17 (by omega) (by omega) N9
              have C9 := ch_nd C17 (by omega) N9
              have CL := ch_nd CE (Int.le_refl _) (ndf_t N17 N9)
              have o0 := ND9.2.1.1
              have o1 := ND9.2.1.2.1
              have CH : CHl a K w2 3 0 0 n0 (w2 160 22) (p : Int) ((q3 + 1 : Nat) : Int) (r 160 22) := ch_mk (lk_pe (ix := i) (iy := iy) (t := (q : Int)) (u := (q3 : Int)) ⟨hn0, hn, by omega⟩ ⟨ND9.1.1, ND9.1.2.1⟩ ⟨by rw [Int.toNat_natCast]; exact k44, by rw [Int.toNat_natCast]; exact k45, by omega⟩ (by rw [o0]; exact CL.1) (by rw [o0]; exact ⟨CL.2.1, CL.2.2.1⟩) (by rw [o1, n9]; exact C9.1) (by rw [o1]; exact ⟨C9.2.1, C9.2.2.1⟩)) (by decide) ⟨ND9.1.2.2, ND9.2.2.2.2⟩
              refine (fun uu euu w ew => ?_)
              have R := ih k (q3 + 1) u9 w2 (r 160 22) 0 v10' J9 (by omega) (by omega) CH (by omega) uu euu w ew
              rcases R with R | ⟨q5, i5, R1, R2, R3⟩
              · exact .inl R
              · exact .inr ⟨q5, i5, R1, R2, ndf_t (ndf_t N17 N9) R3⟩
            · refine pj_sf (o := fun a => a) (q := fun b => b.2) S ?_ ?_ (fun a b s => .inl s)
              · have S1 : ¬ u9 2 11 = 0 := S.1
                have F : FSc u9 u9 := fs_r
                refine pc_xl ?_; intro v10 _
                exact pc_imp (fs_qw_X8_readBehind_4 Gc _ _ _ _ _ (fs_n S1 F)) (fun _ q => fs_t F q)
              · exact pc_imp (Hqkk_11 _ _ _ _ (sf_r S)) (fun _ q => q)
        · -- nothing more
          rw [m4]
          dsimp only
          refine pc_if (fun _ => ?_) (fun z => absurd rfl z)
          refine pc_add (by omega) ?_; intro v5 e5
          have OUT : Pc (if u51 = 0 then (some (e, r)) else (qj_X13_postfix_44 nn rd (qw_X13_postfix_11 nn rd k) a (p : Int) e r)) (fun v => JB a K P c p n0 r h v) := by
            refine pc_if (fun _ => pc_ret (.inr ⟨q, i, ⟨J0, pq⟩, ?_, ndf_r⟩)) (fun z => absurd (by omega) z)
            exact ch_mk (lk_up CE.1 ⟨pf.1, by rw [Int.toNat_natCast]; exact pf.2.1, by rw [Int.toNat_natCast]; exact pf.2.2.1, by rw [Int.toNat_natCast]; exact pf.2.2.2, by rw [Int.toNat_natCast]; exact k48, by rw [Int.toNat_natCast]; exact k44⟩) (by decide) ⟨CE.2.1, CE.2.2.1⟩
          cases f with
          | zero => exact pc_none
          | succ f =>
            unfold qw_X8_readBehind_4
            exact pc_if (fun _ => pc_ret OUT) (fun _ => pc_if (fun _ => pc_ret OUT) (fun z => absurd rfl z))
end
