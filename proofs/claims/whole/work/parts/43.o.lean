/- PARSE: if, while, try; all of S -/
section
variable {nn : Nat} {K P : Nat → Int} {c p : Nat} {h g r w u v : ms_M}
/- a statement that becomes row m of node n -/
theorem j_st {α β : Type} {rc : tq_X8_readBlock} {rd : tq_X13_block} {a : Int} (ha : 0 ≤ a ∧ a ≤ 40) {s : Nat} {x : Int → ms_M → Option ms_M} {y : Int → ms_M → Option (Int × ms_M)} (IT : PT K P c s x y) (hs : s = 6 ∨ s = 8) {q m : Nat} {n : Int} (J : JPp K P c q h r) (hn : 0 ≤ n ∧ n < r 160 22) (hm : 170 ≤ m ∧ m ≤ 172) {F : ms_M → Option α} {G : ms_M → Option β} {Z : α → β → Prop} (HS : ∀ u v, SFj u v → Pc (F u) (fun U => Pc (G v) (fun V => Z U V))) (HO : ∀ (u v : ms_M) (t : Nat) (e : Int), JPp K P c t u v → q < t → LKn a K v s 0 0 (r 160 22) (v 160 22) (q : Int) (t : Int) e → v m n.toNat = e → RWx r v m n.toNat → Pc (F u) (fun U => Pc (G v) (fun V => Z U V))) : Pc (mx_sv (x a h) F) (fun U => Pc (mx_sv (y a r) fun u => wr_A 9000 m n u.1 u.2 fun h2 => G h2) (fun V => Z U V)) := by
  refine p2_sv (IT a q h r ha J (by omega)) ?_; intro u4 u3 q3
  rcases q3 with S | ⟨t, ⟨J1, pq⟩, L1, x1, N1⟩
  · refine pc_fl ?_
    refine pc_wA ?_; intro _ _ h4 E4
    refine pc_fl ?_
    refine HS u4 h4 ⟨S.1, ?_, ?_⟩
    · rw [E4, up_n (by omega)]; exact S.2.1
    · rw [E4, up_n (by omega)]; exact S.2.2
  · refine pc_fl ?_
    refine pc_wA ?_; intro i1 i2 h4 e4
    refine pc_fl ?_
    have n4 : h4 160 22 = u3.2 160 22 := by rw [e4, up_n (by omega)]
    have nn1 := N1.1
    refine HO u4 h4 t u3.1 (by rw [e4]; exact jp_w J1 (by omega)) pq ?_ (by rw [e4, up_s]) ⟨by omega, fun c x c1 c2 c3 c4 => by rw [e4, up_n c4]; exact N1.2 c x c1 c2 c3⟩
    rw [n4, e4]; exact lk_w L1 (.inl (.inl (by omega)))
theorem nd_rw2 {n k t f o w2 x y me sl ib e : Int} (D : NDn r n k t f o w2 x y me sl ib) (h0 : 0 ≤ n) (hn : n < r 160 22) (R : RWx r v 172 n.toNat) (e0 : v 172 n.toNat = e) : NDn v n k t f o w2 e y me sl ib := by
  obtain ⟨⟨a1, a2, a3⟩, ⟨b1, b2, b3, b4⟩, d1, d2, d3⟩ := D
  have E : ∀ c : Nat, 167 ≤ c → c ≤ 177 → ¬ c = 172 → v c n.toNat = r c n.toNat := fun c c1 c2 c3 => R.2 c n.toNat c1 c2 (by omega) (fun z => c3 z.1)
  exact ⟨⟨by rw [E 167 (by decide) (by decide) (by decide)]; exact a1, by rw [E 168 (by decide) (by decide) (by decide)]; exact a2, by rw [E 169 (by decide) (by decide) (by decide)]; exact a3⟩, ⟨by rw [E 170 (by decide) (by decide) (by decide)]; exact b1, by rw [E 171 (by decide) (by decide) (by decide)]; exact b2, e0, by rw [E 173 (by decide) (by decide) (by decide)]; exact b4⟩, by rw [E 175 (by decide) (by decide) (by decide)]; exact d1, by rw [E 176 (by decide) (by decide) (by decide)]; exact d2, by rw [E 177 (by decide) (by decide) (by decide)]; exact d3⟩
/-- a child's tree under RWx at an older node -/
theorem ch_rw {s m n : Nat} {dp i l a b p q e : Int} (C : CHl dp K r s i l a b p q e) (hn : (n : Int) < a) (hb : b ≤ r 160 22) (R : RWx r v m n) : CHl dp K v s i l a b p q e := by
  obtain ⟨c1, c2, c3, c4, c5, c6⟩ := C
  exact ⟨lk_map c1 (fun c x y1 y2 _ y3 y4 _ _ => R.2 c x y1 y2 (by omega) (by omega)), by rw [R.2 169 _ (by decide) (by decide) (by omega) (by omega)]; exact c2, by rw [R.2 177 _ (by decide) (by decide) (by omega) (by omega)]; exact c3, c4, c5, c6⟩
theorem lk_rw {s m n : Nat} {dp i l a b p q e : Int} (C : LKn dp K r s i l a b p q e) (hn : (n : Int) < a) (hb : b ≤ r 160 22) (R : RWx r v m n) : LKn dp K v s i l a b p q e := lk_map C (fun c x y1 y2 _ y3 y4 _ _ => R.2 c x y1 y2 (by omega) (by omega))
/- if -/
theorem js_if (BK : TBn K c) {rc : tq_X8_readBlock} {rd : tq_X13_block} {a : Int} (ha : 0 ≤ a ∧ a < 40) (Gc : FScG_X8_readBlock rc) (Gr : FSrG_X13_block rd) (IT : PT K P c 6 rc.2.1 rd.2) (kp : K p = 18) (J : JPp K P c p h r) (hr : 0 ≤ r 160 22) : Pc (xl (oq_add a 1) fun v18 => mx_sv (qf_X8_readCondition nn v18 h) fun u20 => xl (oq_add a 1) fun v21 => mx_sv (rc.2.1 v21 u20) fun u23 => mx_sv (qf_X8_accept nn 15 u23) fun u25 => if u25.1 = 0 then (some u25.2) else (xl (oq_add a 1) fun v26 => mx_sv (rc.2.1 v26 u25.2) fun u28 => some u28)) (fun u => Pc (mx_sv (qf_X13_add nn 3 (r 160 23) (r 160 23) r) fun u86 => xl (oq_add (u86.2 160 23) 1) fun v88 => xl (up_M u86.2 160 23 v88) fun h89 => mx_sv (qf_X13_sign_ nn 40 h89) fun u91 => xl (oq_add a 1) fun v93 => mx_sv (qf_X13_expression nn v93 u91) fun u95 => wr_A 9000 170 u86.1 u95.1 u95.2 fun h96 => mx_sv (qf_X13_sign_ nn 41 h96) fun u98 => qj_X13_statement_310 nn rd a u86.1 u98) (fun v => JS a K P c p 6 r u v)) := by
  have n3 := BK.2.1
  have J0 := J
  obtain ⟨b, d, ⟨g1, g2, g3⟩, g4, g5⟩ := J
  refine pc_fl ?_
  refine hd_add BK J0 (by omega) ?_; intro u86 h89 hu n1 ND N1 J1
  refine pc_fl ?_
  refine pc_add (by omega) ?_; intro v18 e18
  rw [e18]
  refine p2_sa ?_
  unfold qf_X8_readCondition
  rw [g1]
  refine pc_add (by omega) ?_; intro v3 e3
  refine pc_xl ?_; intro h4 e4
  rw [show v3 = ((p + 1 : Nat) : Int) by omega] at e4
  rw [← e4] at J1
  -- behind a FAULT
  have SE : ∀ u v, SFj u v → Pc (some u) (fun u20 => Pc (qj_X13_statement_310 nn rd a (r 160 22) v) (fun V => Pc (xl (oq_add a 1) fun v21 => mx_sv (rc.2.1 v21 u20) fun u23 => mx_sv (qf_X8_accept nn 15 u23) fun u25 => if u25.1 = 0 then (some u25.2) else (xl (oq_add a 1) fun v26 => mx_sv (rc.2.1 v26 u25.2) fun u28 => some u28)) (fun U => JS a K P c p 6 r U V))) := fun u20 v S => by
    refine pc_ret (pc_fl ?_)
    refine pj_sf (o := fun a => a) (q := fun b => b.2) S ?_ (ft_qj_X13_statement_310 Gr (sf_r S)) (fun a b s => .inl s)
    have S1 : ¬ u20 2 11 = 0 := S.1
    have F : FSc u20 u20 := fs_r
    refine pc_xl ?_; intro v21 _
    refine pc_sv (Gc.2.1 (fs_n S1 F)) ?_; intro u23 Qu23
    have Fu23 : FSc u20 u23 := fs_t F Qu23
    refine pc_sv (fs_qf_X8_accept (fs_n S1 Fu23)) ?_; intro u25 Qu25
    have Fu25 : FSc u20 u25.2 := fs_t Fu23 Qu25
    refine pc_if (fun _ => ?_) (fun _ => ?_)
    · exact pc_ret Fu25
    · refine pc_xl ?_; intro v26 _
      refine pc_sv (Gc.2.1 (fs_n S1 Fu25)) ?_; intro u28 Qu28
      have Fu28 : FSc u20 u28 := fs_t Fu25 Qu28
      exact pc_ret Fu28
  refine p2_sv (j_need BK J1 (k := 40) (by decide) (by decide)) ?_; intro u6 u91 q91
  rcases q91 with ⟨k40, m91, J2⟩ | S
  · have n91 : u91 160 22 = r 160 22 + 1 := by rw [m91, up_n (by omega)]; exact n1.2
    have ND91 := nd_o (z := ((p + 1 + 1 : Nat) : Int)) (m := 160) (j := 23) ND (.inr (by decide))
    rw [← m91] at ND91
    have N91 : NDf r u91 := by rw [m91]; exact ndf_c N1 (by decide)
    refine pc_fl ?_
    refine pc_add (by omega) ?_; intro v93 e93
    rw [e93, hu]
    refine pc_fl ?_
    refine j_par BK (by omega) J2 (by omega) (fun u v S => SE u v S) (fun u20 u98 t ix e Jt qt k41 Ct on R => ?_)
    refine pc_ret (pc_fl ?_)
    have ND98 := nd_rw ND91 (by omega) (by omega) R on
    have R1 := R.1
    have N98 : NDf r u98 := ndf_x N91 R (by omega)
    unfold qj_X13_statement_310
    refine pc_add (by omega) ?_; intro v21 e21
    rw [e21]
    refine pc_fl ?_
    refine pc_add (by omega) ?_; intro v31 e31
    rw [e31]
    refine pc_fl ?_
    refine j_st (rc := rc) (rd := rd) (by omega) IT (.inl rfl) Jt (by omega) (by decide) (fun u23 h34 S => ?_) (fun u23 h34 t2 e2 Jt2 qt2 L2 on2 R2 => ?_)
    · refine pj_sf (o := fun a => a) (q := fun b => b.2) S ?_ ?_ (fun a b s => .inl s)
      · have S1 : ¬ u23 2 11 = 0 := S.1
        have F : FSc u23 u23 := fs_r
        refine pc_sv (fs_qf_X8_accept (fs_n S1 F)) ?_; intro u25 Qu25
        have Fu25 : FSc u23 u25.2 := fs_t F Qu25
        refine pc_if (fun _ => ?_) (fun _ => ?_)
        · exact pc_ret Fu25
        · refine pc_xl ?_; intro v26 _
          refine pc_sv (Gc.2.1 (fs_n S1 Fu25)) ?_; intro u28 Qu28
          have Fu28 : FSc u23 u28 := fs_t Fu25 Qu28
          exact pc_ret Fu28
      · have S1 : ¬ h34 160 9 = 0 := sf_r S
        have F : FSr h34 h34 := ft_r
        refine pc_if (fun _ => ?_) (fun _ => ?_)
        · exact pc_ret F
        · refine pc_se ?_; intro u38 _
          refine pc_if (fun _ => ?_) (fun _ => ?_)
          · exact pc_ret F
          · refine pc_xl ?_; intro v40 _
            refine pc_xl ?_; intro h41 Eh41
            have Fh41 : FSr h34 h41 := by rw [Eh41]; exact ft_u F (by omega)
            refine pc_xl ?_; intro v43 _
            refine pc_sv (Gr.2 (ft_n S1 Fh41)) ?_; intro u45 Qu45
            have Fu45 : FSr h34 u45.2 := ft_t Fh41 Qu45
            refine pc_wA ?_; intro _ _ h46 Eh46
            have Fh46 : FSr h34 h46 := by rw [Eh46]; exact ft_u Fu45 (by omega)
            exact pc_ret Fh46
    · have ND34 := nd_rw1 ND98 (by omega) (by omega) R2 on2
      have R3 := R2.1
      have N34 : NDf r h34 := ndf_x N98 R2 (by omega)
      have C34 := ch_rw Ct (by omega) (Int.le_refl _) R2
      rw [n91] at C34
      have Jt2' := Jt2
      obtain ⟨b2, d2, ⟨l1, l2, l3⟩, l4, l5⟩ := Jt2'
      refine pc_sv (c_acc BK b2 l3 l1 l4) ?_; intro u25 q25
      refine pc_fl ?_
      refine pc_if (fun z => absurd l5 z) (fun _ => ?_)
      rw [l2]
      refine pc_sv (r_wrd BK d2 rfl (by omega) (by decide)) ?_; intro u38 q38
      rcases q25 with ⟨k15, m25⟩ | ⟨k15, m25⟩
      · -- else
        refine pc_if (fun z => absurd z (by omega)) (fun _ => ?_)
        refine pc_add (by omega) ?_; intro v40 e40
        refine pc_xl ?_; intro h41 e41
        rw [show v40 = ((t2 + 1 : Nat) : Int) by omega] at e41
        refine pc_add (by omega) ?_; intro v43 e43
        rw [e43]
        refine pc_fl ?_
        rw [m25]
        dsimp only
        refine pc_if (fun z => absurd z (by decide)) (fun _ => ?_)
        refine pc_add (by omega) ?_; intro v26 e26
        rw [e26]
        have J41 : JPp K P c (t2 + 1) (up_M u23 2 10 ((t2 + 1 : Nat) : Int)) h41 := by rw [e41]; exact jp_up BK Jt2 (jp_lt BK l3 (by omega))
        have n41 : h41 160 22 = h34 160 22 := by rw [e41, up_n (by omega)]
        have ND41 := nd_o (z := ((t2 + 1 : Nat) : Int)) (m := 160) (j := 23) ND34 (.inr (by decide))
        rw [← e41] at ND41
        have C41 : CHl (a + 1) K h41 0 ix 0 (r 160 22 + 1) (u98 160 22) ((p + 1 + 1 : Nat) : Int) (t : Int) e := by rw [e41]; exact ch_w C34 (.inr (by decide))
        have L41 : LKn (a + 1) K h41 6 0 0 (u98 160 22) (h34 160 22) ((t + 1 : Nat) : Int) (t2 : Int) e2 := by rw [e41]; exact lk_w L2 (.inr (by decide))
        refine j_st (rc := rc) (rd := rd) (by omega) IT (.inl rfl) J41 (by omega) (by decide) (fun u28 h46 S => pc_ret (pc_ret (.inl S))) (fun u28 h46 t3 e3 Jt3 qt3 L3 on3 R4 => ?_)
        refine pc_ret (pc_ret (.inr ⟨t3, ⟨Jt3, by omega⟩, ?_, ?_, ?_⟩))
        · have ND46 := nd_rw2 ND41 (by omega) (by omega) R4 on3
          have R5 := R4.1
          have C46 := ch_rw C41 (by omega) (by omega) R4
          have L46 := lk_rw L41 (by omega) (by omega) R4
          have o0 := ND46.2.1.1
          have o1 := ND46.2.1.2.1
          have o2 := ND46.2.1.2.2.1
          show LKn a K h46 6 0 0 _ (h46 160 22) _ _ (r 160 22)
          exact lk_tj (ix := ix) (t := (t : Int)) (u := (t2 : Int)) (y := u98 160 22) (z := h34 160 22) ⟨hr, Int.le_refl _, by omega⟩ ⟨by omega, by omega, by omega⟩ ⟨ND46.1.1, ND46.1.2.2⟩ ⟨by rw [Int.toNat_natCast]; exact kp, by rw [show ((p : Int) + 1).toNat = p + 1 by omega]; exact k40⟩ (by rw [o0, show (p : Int) + 2 = ((p + 1 + 1 : Nat) : Int) by omega]; exact C46.1) (by rw [o0, show (p : Int) + 2 = ((p + 1 + 1 : Nat) : Int) by omega]; exact ⟨C46.2.1, C46.2.2.1⟩) ⟨by rw [Int.toNat_natCast]; exact k41, by rw [Int.toNat_natCast]; exact k15⟩ (by rw [o1, show (t : Int) + 1 = ((t + 1 : Nat) : Int) by omega]; exact L46) (by rw [o2, show (t2 : Int) + 1 = ((t2 + 1 : Nat) : Int) by omega, ← n41]; exact L3)
        · have ND46 := nd_rw2 ND41 (by omega) (by omega) R4 on3
          exact ND46.2.1.2.2.2
        · show NDf r h46
          refine ndf_x (r := h41) ?_ R4 (by omega)
          rw [e41]; exact ndf_c N34 (by decide)
      · refine pc_if (fun _ => ?_) (fun z => absurd (by omega) z)
        refine pc_fl ?_
        rw [m25]
        dsimp only
        refine pc_if (fun _ => ?_) (fun z => absurd rfl z)
        refine pc_ret (pc_ret (.inr ⟨t2, ⟨Jt2, by omega⟩, ?_, ND34.2.1.2.2.2, N34⟩))
        have o0 := ND34.2.1.1
        have o1 := ND34.2.1.2.1
        show LKn a K h34 6 0 0 _ (h34 160 22) _ _ (r 160 22)
        exact lk_ti (ix := ix) (t := (t : Int)) (y := u98 160 22) ⟨hr, Int.le_refl _, by omega⟩ ⟨by omega, by omega⟩ ⟨ND34.1.1, ND34.1.2.2, ND34.2.1.2.2.1⟩ ⟨by rw [Int.toNat_natCast]; exact kp, by rw [show ((p : Int) + 1).toNat = p + 1 by omega]; exact k40⟩ (by rw [o0, show (p : Int) + 2 = ((p + 1 + 1 : Nat) : Int) by omega]; exact C34.1) (by rw [o0, show (p : Int) + 2 = ((p + 1 + 1 : Nat) : Int) by omega]; exact ⟨C34.2.1, C34.2.2.1⟩) ⟨by rw [Int.toNat_natCast]; exact k41, by rw [Int.toNat_natCast]; exact k15⟩ (by rw [o1, show (t : Int) + 1 = ((t + 1 : Nat) : Int) by omega]; exact L2)
  · -- no (
    refine pc_se ?_; intro u8 e8
    have F8 := fs_qf_X8_readValue S.1 u8 e8
    refine pc_se ?_; intro u10 e10
    have F10 := fs_qf_X8_need (fs_n S.1 F8) u10 e10
    refine pc_fl ?_
    refine pc_xl ?_; intro v93 _
    refine pc_sv (ft_qf_X13_expression (sf_r S)) ?_; intro u95 Q95
    refine pc_wA ?_; intro _ _ h96 E96
    have F96 : FSr u91 h96 := by rw [E96]; exact ft_u Q95 (by omega)
    refine pc_sv (ft_qf_X13_sign_ (ft_n (sf_r S) F96)) ?_; intro u98 Q98
    rw [hu]
    exact pc_fl (SE u10 u98 (sf_k S (fs_t F8 F10) (ft_t F96 Q98)))
/- while -/
theorem js_while (BK : TBn K c) {rc : tq_X8_readBlock} {rd : tq_X13_block} {a : Int} (ha : 0 ≤ a ∧ a < 40) (Gc : FScG_X8_readBlock rc) (Gr : FSrG_X13_block rd) (IT : PT K P c 6 rc.2.1 rd.2) (kp : K p = 31) (J : JPp K P c p h r) (hr : 0 ≤ r 160 22) : Pc (xl (oq_add a 1) fun v33 => mx_sv (qf_X8_readCondition nn v33 h) fun u35 => xl (oq_add a 1) fun v36 => mx_sv (rc.2.1 v36 u35) fun u38 => some u38) (fun u => Pc (mx_sv (qf_X13_add nn 4 (r 160 23) (r 160 23) r) fun u176 => xl (oq_add (u176.2 160 23) 1) fun v178 => xl (up_M u176.2 160 23 v178) fun h179 => mx_sv (qf_X13_sign_ nn 40 h179) fun u181 => mx_sv (qf_X13_isWord nn (u181 160 23) 18 u181) fun u185 => if u185 = 0 then (qj_X13_statement_431 nn rd a u176.1 u176.1 u181) else (xl (oq_add (u181 160 23) 1) fun v187 => mx_sv (qf_X13_isSign nn v187 41 u181) fun u189 => if u189 = 0 then (qj_X13_statement_431 nn rd a u176.1 u176.1 u181) else (qj_X13_statement_432 nn rd a u176.1 1 u176.1 u181))) (fun v => JS a K P c p 6 r u v)) := by
  have n3 := BK.2.1
  have J0 := J
  obtain ⟨b, d, ⟨g1, g2, g3⟩, g4, g5⟩ := J
  refine pc_fl ?_
  refine hd_add BK J0 (by omega) ?_; intro u176 h179 hu n1 ND N1 J1
  refine pc_fl ?_
  refine pc_add (by omega) ?_; intro v33 e33
  rw [e33]
  refine p2_sa ?_
  unfold qf_X8_readCondition
  rw [g1]
  refine pc_add (by omega) ?_; intro v3 e3
  refine pc_xl ?_; intro h4 e4
  rw [show v3 = ((p + 1 : Nat) : Int) by omega] at e4
  rw [← e4] at J1
  have E2 : ((p : Int) + 2).toNat = p + 1 + 1 := by omega
  have E3 : ((p : Int) + 3).toNat = p + 1 + 1 + 1 := by omega
  refine p2_sv (j_need BK J1 (k := 40) (by decide) (by decide)) ?_; intro u6 u181 q181
  rcases q181 with ⟨k40, m181, J2⟩ | S
  · have n181 : u181 160 22 = r 160 22 + 1 := by rw [m181, up_n (by omega)]; exact n1.2
    have ND181 := nd_o (z := ((p + 1 + 1 : Nat) : Int)) (m := 160) (j := 23) ND (.inr (by decide))
    rw [← m181] at ND181
    have N181 : NDf r u181 := by rw [m181]; exact ndf_c N1 (by decide)
    have J2' := J2
    obtain ⟨b2, d2, ⟨l1, l2, l3⟩, l4, l5⟩ := J2'
    -- with the flag
    have GO : ∀ s0 : Int, ((s0 = 1 ∧ K (p + 1 + 1) = 28 ∧ K (p + 1 + 1 + 1) = 41) ∨ (s0 = 0 ∧ ¬ (K (p + 1 + 1) = 28 ∧ K (p + 1 + 1 + 1) = 41))) → Pc (qj_X13_statement_432 nn rd a (r 160 22) s0 (r 160 22) u181) (fun V => Pc (mx_sv (qf_X8_readValue nn (a + 1) u6) fun u8 => mx_sv (qf_X8_need nn 41 u8) fun u10 => some u10) (fun u35 => Pc (xl (oq_add a 1) fun v36 => mx_sv (rc.2.1 v36 u35) fun u38 => some u38) (fun U => JS a K P c p 6 r U V))) := fun s0 hs0 => by
      unfold qj_X13_statement_432
      refine pc_wA ?_; intro i1 i2 h17 e17
      have ND17 := nd_5 (z := s0) ND181
      rw [← e17] at ND17
      have N17 : NDf r h17 := by rw [e17]; exact ndf_w N181 (by decide) (by omega)
      have n17 : h17 160 22 = r 160 22 + 1 := by rw [e17, up_n (by omega)]; exact n181
      have J17 : JPp K P c (p + 1 + 1) u6 h17 := by rw [e17]; exact jp_w J2 (by decide)
      refine pc_add (by omega) ?_; intro v19 e19
      rw [e19]
      refine pc_fl ?_
      refine j_par BK (by omega) J17 (by omega) (fun u35 v S => ?_) (fun u35 u24 t ix e Jt qt k41 Ct on R => ?_)
      · refine pc_ret (pc_fl ?_)
        refine pj_sf (o := fun a => a) (q := fun b => b.2) S ?_ ?_ (fun a b s => .inl s)
        · have S1 : ¬ u35 2 11 = 0 := S.1
          have F : FSc u35 u35 := fs_r
          refine pc_xl ?_; intro v36 _
          refine pc_sv (Gc.2.1 (fs_n S1 F)) ?_; intro u38 Qu38
          have Fu38 : FSc u35 u38 := fs_t F Qu38
          exact pc_ret Fu38
        · have S1 : ¬ v 160 9 = 0 := sf_r S
          have F : FSr v v := ft_r
          refine pc_xl ?_; intro v26 _
          refine pc_sv (Gr.2 (ft_n S1 F)) ?_; intro u28 Qu28
          have Fu28 : FSr v u28.2 := ft_t F Qu28
          refine pc_wA ?_; intro _ _ h29 Eh29
          have Fh29 : FSr v h29 := by rw [Eh29]; exact ft_u Fu28 (by omega)
          exact pc_ret Fh29
      · refine pc_ret (pc_fl ?_)
        have ND24 := nd_rw ND17 (by omega) (by omega) R on
        have R1 := R.1
        have N24 : NDf r u24 := ndf_x N17 R (by omega)
        refine pc_add (by omega) ?_; intro v36 e36
        rw [e36]
        refine pc_fl ?_
        refine pc_add (by omega) ?_; intro v26 e26
        rw [e26]
        refine pc_fl ?_
        refine j_st (rc := rc) (rd := rd) (by omega) IT (.inl rfl) Jt (by omega) (by decide) (fun u38 h29 S => pc_ret (pc_ret (.inl S))) (fun u38 h29 t2 e2 Jt2 qt2 L2 on2 R2 => ?_)
        have ND29 := nd_rw1 ND24 (by omega) (by omega) R2 on2
        have R3 := R2.1
        have C29 := ch_rw Ct (by omega) (Int.le_refl _) R2
        rw [n17] at C29
        have o0 := ND29.2.1.1
        have o1 := ND29.2.1.2.1
        refine pc_ret (pc_ret (.inr ⟨t2, ⟨Jt2, by omega⟩, ?_, ND29.2.1.2.2.2, ndf_x N24 R2 (by omega)⟩))
        show LKn a K h29 6 0 0 _ (h29 160 22) _ _ (r 160 22)
        exact lk_tw (ix := ix) (t := (t : Int)) (y := u24 160 22) ⟨hr, Int.le_refl _, by omega⟩ ⟨by omega, by omega⟩ ⟨ND29.1.1, ND29.1.2.2⟩ ⟨by rw [Int.toNat_natCast]; exact kp, by rw [show ((p : Int) + 1).toNat = p + 1 by omega]; exact k40⟩ (by rw [ND29.2.2.1, E2, E3]; exact hs0) (by rw [o0, show (p : Int) + 2 = ((p + 1 + 1 : Nat) : Int) by omega]; exact C29.1) (by rw [o0, show (p : Int) + 2 = ((p + 1 + 1 : Nat) : Int) by omega]; exact ⟨C29.2.1, C29.2.2.1⟩) (by rw [Int.toNat_natCast]; exact k41) (by rw [o1, show (t : Int) + 1 = ((t + 1 : Nat) : Int) by omega]; exact L2)
    refine pc_fl ?_
    rw [l2, hu]
    refine pc_sv (r_wrd BK d2 rfl (by omega) (by decide)) ?_; intro u185 q185
    unfold qj_X13_statement_431
    refine pc_if (fun z => GO 0 (by omega)) (fun z => ?_)
    refine pc_add (by omega) ?_; intro v187 e187
    refine pc_sv (r_sgn BK d2 (t := p + 1 + 1 + 1) (by omega) (by omega) (k := 41) (by decide) (by decide)) ?_; intro u189 q189
    exact pc_if (fun z => GO 0 (by omega)) (fun z => GO 1 (by omega))
  · refine pj_sf (o := fun a => a) (q := fun b => b.2) S ?_ ?_ (fun a b s => ?_)
    · have S1 : ¬ u6 2 11 = 0 := S.1
      have F : FSc u6 u6 := fs_r
      refine pc_sv (fs_qf_X8_readValue (fs_n S1 F)) ?_; intro u8 Qu8
      have Fu8 : FSc u6 u8 := fs_t F Qu8
      refine pc_sv (fs_qf_X8_need (fs_n S1 Fu8)) ?_; intro u10 Qu10
      have Fu10 : FSc u6 u10 := fs_t Fu8 Qu10
      exact pc_ret Fu10
    · have S1 : ¬ u181 160 9 = 0 := sf_r S
      have F : FSr u181 u181 := ft_r
      refine pc_se ?_; intro u185 _
      refine pc_if (fun _ => ?_) (fun _ => ?_)
      · exact pc_imp (ft_qj_X13_statement_431 Gr (ft_n S1 F)) (fun _ q => ft_t F q)
      · refine pc_xl ?_; intro v187 _
        refine pc_se ?_; intro u189 _
        refine pc_if (fun _ => ?_) (fun _ => ?_)
        · exact pc_imp (ft_qj_X13_statement_431 Gr (ft_n S1 F)) (fun _ q => ft_t F q)
        · exact pc_imp (ft_qj_X13_statement_432 Gr (ft_n S1 F)) (fun _ q => ft_t F q)
    · refine pc_imp (P := fun U => FSc a U) ?_ (fun U z => .inl (sf_k s z ft_r))
      have S1 : ¬ a 2 11 = 0 := s.1
      have F : FSc a a := fs_r
      refine pc_xl ?_; intro v36 _
      refine pc_sv (Gc.2.1 (fs_n S1 F)) ?_; intro u38 Qu38
      have Fu38 : FSc a u38 := fs_t F Qu38
      exact pc_ret Fu38
/- try -/
theorem js_try (BK : TBn K c) {rc : tq_X8_readBlock} {rd : tq_X13_block} {a : Int} (ha : 0 ≤ a ∧ a < 40) (Gc : FScG_X8_readBlock rc) (Gr : FSrG_X13_block rd) (IB : PT K P c 8 rc.1 rd.1) (kp : K p = 29) (J : JPp K P c p h r) (hr : 0 ≤ r 160 22) : Pc (qo_X8_readTry nn rc (a + 1) h) (fun u => Pc (mx_sv (qf_X13_add nn 9 (r 160 23) (r 160 23) r) fun u146 => xl (oq_add (u146.2 160 23) 1) fun v148 => xl (up_M u146.2 160 23 v148) fun h149 => xl (oq_add a 1) fun v151 => mx_sv (rd.1 v151 h149) fun u153 => wr_A 9000 170 u146.1 u153.1 u153.2 fun h154 => mx_sv (qf_X13_word nn 2 h154) fun u156 => mx_sv (qf_X13_sign_ nn 40 u156) fun u158 => mx_sv (qf_X13_name nn u158) fun u161 => wr_A 9000 168 u146.1 u161.1 u161.2 fun h162 => mx_sv (qf_X13_name nn h162) fun u165 => wr_A 9000 176 u146.1 u165.1 u165.2 fun h166 => mx_sv (qf_X13_sign_ nn 41 h166) fun u168 => xl (oq_add a 1) fun v170 => mx_sv (rd.1 v170 u168) fun u172 => wr_A 9000 171 u146.1 u172.1 u172.2 fun h173 => qj_X13_statement_698 nn rd u146.1 h173) (fun v => JS a K P c p 6 r u v)) := by
  have n3 := BK.2.1
  have J0 := J
  obtain ⟨b, d, ⟨g1, g2, g3⟩, g4, g5⟩ := J
  unfold qo_X8_readTry
  refine pc_fl ?_
  refine hd_add BK J0 (by omega) ?_; intro u146 h149 hu n1 ND N1 J1
  refine pc_add (by omega) ?_; intro v151 e151
  rw [e151, hu]
  refine pc_fl ?_
  rw [g1]
  refine pc_add (by omega) ?_; intro v3 e3
  refine pc_xl ?_; intro h4 e4
  rw [show v3 = ((p + 1 : Nat) : Int) by omega] at e4
  rw [← e4] at J1
  refine j_st (rc := rc) (rd := rd) (by omega) IB (.inr rfl) J1 (by omega) (by decide) (fun u6 h154 S => ?_) (fun u6 h154 t e Jt qt L1 on R => ?_)
  · refine pj_sf (o := fun a => a) (q := fun b => b.2) S ?_ ?_ (fun a b s => .inl s)
    · have S1 : ¬ u6 2 11 = 0 := S.1
      have F : FSc u6 u6 := fs_r
      refine pc_sv (fs_qf_X8_need (fs_n S1 F)) ?_; intro u8 Qu8
      have Fu8 : FSc u6 u8 := fs_t F Qu8
      refine pc_sv (fs_qf_X8_need (fs_n S1 Fu8)) ?_; intro u10 Qu10
      have Fu10 : FSc u6 u10 := fs_t Fu8 Qu10
      refine pc_sv (fs_qf_X8_need (fs_n S1 Fu10)) ?_; intro u12 Qu12
      have Fu12 : FSc u6 u12 := fs_t Fu10 Qu12
      refine pc_sv (fs_qf_X8_need (fs_n S1 Fu12)) ?_; intro u14 Qu14
      have Fu14 : FSc u6 u14 := fs_t Fu12 Qu14
      refine pc_sv (fs_qf_X8_need (fs_n S1 Fu14)) ?_; intro u16 Qu16
      have Fu16 : FSc u6 u16 := fs_t Fu14 Qu16
      refine pc_sv (Gc.1 (fs_n S1 Fu16)) ?_; intro u18 Qu18
      have Fu18 : FSc u6 u18 := fs_t Fu16 Qu18
      exact pc_ret Fu18
    · have S1 : ¬ h154 160 9 = 0 := sf_r S
      have F : FSr h154 h154 := ft_r
      refine pc_sv (ft_qf_X13_word (ft_n S1 F)) ?_; intro u156 Qu156
      have Fu156 : FSr h154 u156 := ft_t F Qu156
      refine pc_sv (ft_qf_X13_sign_ (ft_n S1 Fu156)) ?_; intro u158 Qu158
      have Fu158 : FSr h154 u158 := ft_t Fu156 Qu158
      refine pc_sv (ft_qf_X13_name (ft_n S1 Fu158)) ?_; intro u161 Qu161
      have Fu161 : FSr h154 u161.2 := ft_t Fu158 Qu161
      refine pc_wA ?_; intro _ _ h162 Eh162
      have Fh162 : FSr h154 h162 := by rw [Eh162]; exact ft_u Fu161 (by omega)
      refine pc_sv (ft_qf_X13_name (ft_n S1 Fh162)) ?_; intro u165 Qu165
      have Fu165 : FSr h154 u165.2 := ft_t Fh162 Qu165
      refine pc_wA ?_; intro _ _ h166 Eh166
      have Fh166 : FSr h154 h166 := by rw [Eh166]; exact ft_u Fu165 (by omega)
      refine pc_sv (ft_qf_X13_sign_ (ft_n S1 Fh166)) ?_; intro u168 Qu168
      have Fu168 : FSr h154 u168 := ft_t Fh166 Qu168
      refine pc_xl ?_; intro v170 _
      refine pc_sv (Gr.1 (ft_n S1 Fu168)) ?_; intro u172 Qu172
      have Fu172 : FSr h154 u172.2 := ft_t Fu168 Qu172
      refine pc_wA ?_; intro _ _ h173 Eh173
      have Fh173 : FSr h154 h173 := by rw [Eh173]; exact ft_u Fu172 (by omega)
      exact pc_imp (ft_qj_X13_statement_698 Gr (ft_n S1 Fh173)) (fun _ q => ft_t Fh173 q)
  · have ND154 := nd_rw ND (by omega) (by omega) R on
    have R1 := R.1
    have N154 : NDf r h154 := ndf_x N1 R (by omega)
    rw [n1.2] at L1
    refine p2_sv (j_word BK Jt (k := 12) (y := 2) (by decide) (by decide)) ?_; intro u8 u156 q156
    rcases q156 with ⟨k12, m156, J2⟩ | S
    · refine p2_sv (j_need BK J2 (k := 40) (by decide) (by decide)) ?_; intro u10 u158 q158
      rcases q158 with ⟨k40, m158, J3⟩ | S
      · refine p2_sv (j_name BK J3) ?_; intro u12 u161 q161
        rcases q161 with ⟨k2a, m161, J4⟩ | S
        · have w161 : u161.1 = ((t + 1 + 1 : Nat) : Int) := by rw [m161]
          have mm161 : u161.2 = up_M u158 160 23 ((t + 1 + 1 + 1 : Nat) : Int) := by rw [m161]
          refine pc_fl ?_
          refine pc_wA ?_; intro i1 i2 h162 e162
          refine pc_fl ?_
          have J162 : JPp K P c (t + 1 + 1 + 1) u12 h162 := by rw [e162]; exact jp_w J4 (by decide)
          refine p2_sv (j_name BK J162) ?_; intro u14 u165 q165
          rcases q165 with ⟨k2b, m165, J5⟩ | S
          · have w165 : u165.1 = ((t + 1 + 1 + 1 : Nat) : Int) := by rw [m165]
            have mm165 : u165.2 = up_M h162 160 23 ((t + 1 + 1 + 1 + 1 : Nat) : Int) := by rw [m165]
            refine pc_fl ?_
            refine pc_wA ?_; intro i3 i4 h166 e166
            refine pc_fl ?_
            have J166 : JPp K P c (t + 1 + 1 + 1 + 1) u14 h166 := by rw [e166]; exact jp_w J5 (by decide)
            refine p2_sv (j_need BK J166 (k := 41) (by decide) (by decide)) ?_; intro u16 u168 q168
            rcases q168 with ⟨k41, m168, J6⟩ | S
            · have ND168 := nd_o (z := ((t + 1 + 1 + 1 + 1 + 1 : Nat) : Int)) (m := 160) (j := 23) (nd_6 (z := u165.1) (nd_o (z := ((t + 1 + 1 + 1 + 1 : Nat) : Int)) (m := 160) (j := 23) (nd_8 (z := u161.1) (nd_o (z := ((t + 1 + 1 + 1 : Nat) : Int)) (m := 160) (j := 23) (nd_o (z := ((t + 1 + 1 : Nat) : Int)) (m := 160) (j := 23) (nd_o (z := ((t + 1 : Nat) : Int)) (m := 160) (j := 23) ND154 (.inr (by decide))) (.inr (by decide))) (.inr (by decide)))) (.inr (by decide)))) (.inr (by decide))
              rw [← m156, ← m158, ← mm161, ← e162, ← mm165, ← e166, ← m168] at ND168
              have N168 : NDf r u168 := by rw [m168, e166, mm165, e162, mm161, m158, m156]; exact ndf_c (ndf_w (ndf_c (ndf_w (ndf_c (ndf_c (ndf_c N154 (by decide)) (by decide)) (by decide)) (by decide) (by omega)) (by decide)) (by decide) (by omega)) (by decide)
              have n168 : u168 160 22 = h154 160 22 := by rw [m168, up_n (by omega), e166, up_n (by omega), mm165, up_n (by omega), e162, up_n (by omega), mm161, up_n (by omega), m158, up_n (by omega), m156, up_n (by omega)]
              have L168 : LKn (a + 1) K u168 8 0 0 (r 160 22 + 1) (h154 160 22) ((p + 1 : Nat) : Int) (t : Int) e := by
                rw [m168, e166, mm165, e162, mm161, m158, m156]
                exact lk_w (lk_w (lk_w (lk_w (lk_w (lk_w (lk_w L1 (.inr (by decide))) (.inr (by decide))) (.inr (by decide))) (.inl (.inl (by omega)))) (.inr (by decide))) (.inl (.inl (by omega)))) (.inr (by decide))
              refine pc_fl ?_
              refine pc_add (by omega) ?_; intro v170 e170
              rw [e170]
              refine pc_fl ?_
              unfold qj_X13_statement_698
              refine j_st (rc := rc) (rd := rd) (by omega) IB (.inr rfl) J6 (by omega) (by decide) (fun u18 h173 S => pc_ret (pc_ret (.inl S))) (fun u18 h173 t2 e2 Jt2 qt2 L2 on2 R2 => ?_)
              have ND173 := nd_rw1 ND168 (by omega) (by omega) R2 on2
              have R3 := R2.1
              have L173 := lk_rw L168 (by omega) (by omega) R2
              have o0 := ND173.2.1.1
              have o1 := ND173.2.1.2.1
              refine pc_ret (pc_ret (.inr ⟨t2, ⟨Jt2, by omega⟩, ?_, ND173.2.1.2.2.2, ndf_x N168 R2 (by omega)⟩))
              show LKn a K h173 6 0 0 _ (h173 160 22) _ _ (r 160 22)
              exact lk_ty (t := (t : Int)) (y := h154 160 22) ⟨hr, Int.le_refl _, by omega⟩ ⟨by omega, by omega⟩ ⟨ND173.1.1, by rw [ND173.1.2.1, w161]; omega, ND173.1.2.2, by rw [ND173.2.2.2.1, w165]; omega⟩ (by rw [Int.toNat_natCast]; exact kp) (by rw [o0, show (p : Int) + 1 = ((p + 1 : Nat) : Int) by omega]; exact L173) ⟨by rw [Int.toNat_natCast]; exact k12, by rw [show ((t : Int) + 1).toNat = t + 1 by omega]; exact k40, by rw [show ((t : Int) + 2).toNat = t + 1 + 1 by omega]; exact k2a, by rw [show ((t : Int) + 3).toNat = t + 1 + 1 + 1 by omega]; exact k2b, by rw [show ((t : Int) + 4).toNat = t + 1 + 1 + 1 + 1 by omega]; exact k41⟩ (by rw [o1, show (t : Int) + 5 = ((t + 1 + 1 + 1 + 1 + 1 : Nat) : Int) by omega, ← n168]; exact L2)
            · refine pj_sf (o := fun a => a) (q := fun b => b.2) S ?_ ?_ (fun a b s => .inl s)
              · have S1 : ¬ u16 2 11 = 0 := S.1
                have F : FSc u16 u16 := fs_r
                refine pc_sv (Gc.1 (fs_n S1 F)) ?_; intro u18 Qu18
                have Fu18 : FSc u16 u18 := fs_t F Qu18
                exact pc_ret Fu18
              · have S1 : ¬ u168 160 9 = 0 := sf_r S
                have F : FSr u168 u168 := ft_r
                refine pc_xl ?_; intro v170 _
                refine pc_sv (Gr.1 (ft_n S1 F)) ?_; intro u172 Qu172
                have Fu172 : FSr u168 u172.2 := ft_t F Qu172
                refine pc_wA ?_; intro _ _ h173 Eh173
                have Fh173 : FSr u168 h173 := by rw [Eh173]; exact ft_u Fu172 (by omega)
                exact pc_imp (ft_qj_X13_statement_698 Gr (ft_n S1 Fh173)) (fun _ q => ft_t Fh173 q)
          · refine pj_sf (o := fun a => a) (q := fun b => b.2) S ?_ ?_ (fun a b s => .inl s)
            · have S1 : ¬ u14 2 11 = 0 := S.1
              have F : FSc u14 u14 := fs_r
              refine pc_sv (fs_qf_X8_need (fs_n S1 F)) ?_; intro u16 Qu16
              have Fu16 : FSc u14 u16 := fs_t F Qu16
              refine pc_sv (Gc.1 (fs_n S1 Fu16)) ?_; intro u18 Qu18
              have Fu18 : FSc u14 u18 := fs_t Fu16 Qu18
              exact pc_ret Fu18
            · have S1 : ¬ u165.2 160 9 = 0 := sf_r S
              have F : FSr u165.2 u165.2 := ft_r
              refine pc_wA ?_; intro _ _ h166 Eh166
              have Fh166 : FSr u165.2 h166 := by rw [Eh166]; exact ft_u F (by omega)
              refine pc_sv (ft_qf_X13_sign_ (ft_n S1 Fh166)) ?_; intro u168 Qu168
              have Fu168 : FSr u165.2 u168 := ft_t Fh166 Qu168
              refine pc_xl ?_; intro v170 _
              refine pc_sv (Gr.1 (ft_n S1 Fu168)) ?_; intro u172 Qu172
              have Fu172 : FSr u165.2 u172.2 := ft_t Fu168 Qu172
              refine pc_wA ?_; intro _ _ h173 Eh173
              have Fh173 : FSr u165.2 h173 := by rw [Eh173]; exact ft_u Fu172 (by omega)
              exact pc_imp (ft_qj_X13_statement_698 Gr (ft_n S1 Fh173)) (fun _ q => ft_t Fh173 q)
        · refine pj_sf (o := fun a => a) (q := fun b => b.2) S ?_ ?_ (fun a b s => .inl s)
          · have S1 : ¬ u12 2 11 = 0 := S.1
            have F : FSc u12 u12 := fs_r
            refine pc_sv (fs_qf_X8_need (fs_n S1 F)) ?_; intro u14 Qu14
            have Fu14 : FSc u12 u14 := fs_t F Qu14
            refine pc_sv (fs_qf_X8_need (fs_n S1 Fu14)) ?_; intro u16 Qu16
            have Fu16 : FSc u12 u16 := fs_t Fu14 Qu16
            refine pc_sv (Gc.1 (fs_n S1 Fu16)) ?_; intro u18 Qu18
            have Fu18 : FSc u12 u18 := fs_t Fu16 Qu18
            exact pc_ret Fu18
          · have S1 : ¬ u161.2 160 9 = 0 := sf_r S
            have F : FSr u161.2 u161.2 := ft_r
            refine pc_wA ?_; intro _ _ h162 Eh162
            have Fh162 : FSr u161.2 h162 := by rw [Eh162]; exact ft_u F (by omega)
            refine pc_sv (ft_qf_X13_name (ft_n S1 Fh162)) ?_; intro u165 Qu165
            have Fu165 : FSr u161.2 u165.2 := ft_t Fh162 Qu165
            refine pc_wA ?_; intro _ _ h166 Eh166
            have Fh166 : FSr u161.2 h166 := by rw [Eh166]; exact ft_u Fu165 (by omega)
            refine pc_sv (ft_qf_X13_sign_ (ft_n S1 Fh166)) ?_; intro u168 Qu168
            have Fu168 : FSr u161.2 u168 := ft_t Fh166 Qu168
            refine pc_xl ?_; intro v170 _
            refine pc_sv (Gr.1 (ft_n S1 Fu168)) ?_; intro u172 Qu172
            have Fu172 : FSr u161.2 u172.2 := ft_t Fu168 Qu172
            refine pc_wA ?_; intro _ _ h173 Eh173
            have Fh173 : FSr u161.2 h173 := by rw [Eh173]; exact ft_u Fu172 (by omega)
            exact pc_imp (ft_qj_X13_statement_698 Gr (ft_n S1 Fh173)) (fun _ q => ft_t Fh173 q)
      · refine pj_sf (o := fun a => a) (q := fun b => b.2) S ?_ ?_ (fun a b s => .inl s)
        · have S1 : ¬ u10 2 11 = 0 := S.1
          have F : FSc u10 u10 := fs_r
          refine pc_sv (fs_qf_X8_need (fs_n S1 F)) ?_; intro u12 Qu12
          have Fu12 : FSc u10 u12 := fs_t F Qu12
          refine pc_sv (fs_qf_X8_need (fs_n S1 Fu12)) ?_; intro u14 Qu14
          have Fu14 : FSc u10 u14 := fs_t Fu12 Qu14
          refine pc_sv (fs_qf_X8_need (fs_n S1 Fu14)) ?_; intro u16 Qu16
          have Fu16 : FSc u10 u16 := fs_t Fu14 Qu16
          refine pc_sv (Gc.1 (fs_n S1 Fu16)) ?_; intro u18 Qu18
          have Fu18 : FSc u10 u18 := fs_t Fu16 Qu18
          exact pc_ret Fu18
        · have S1 : ¬ u158 160 9 = 0 := sf_r S
          have F : FSr u158 u158 := ft_r
          refine pc_sv (ft_qf_X13_name (ft_n S1 F)) ?_; intro u161 Qu161
          have Fu161 : FSr u158 u161.2 := ft_t F Qu161
          refine pc_wA ?_; intro _ _ h162 Eh162
          have Fh162 : FSr u158 h162 := by rw [Eh162]; exact ft_u Fu161 (by omega)
          refine pc_sv (ft_qf_X13_name (ft_n S1 Fh162)) ?_; intro u165 Qu165
          have Fu165 : FSr u158 u165.2 := ft_t Fh162 Qu165
          refine pc_wA ?_; intro _ _ h166 Eh166
          have Fh166 : FSr u158 h166 := by rw [Eh166]; exact ft_u Fu165 (by omega)
          refine pc_sv (ft_qf_X13_sign_ (ft_n S1 Fh166)) ?_; intro u168 Qu168
          have Fu168 : FSr u158 u168 := ft_t Fh166 Qu168
          refine pc_xl ?_; intro v170 _
          refine pc_sv (Gr.1 (ft_n S1 Fu168)) ?_; intro u172 Qu172
          have Fu172 : FSr u158 u172.2 := ft_t Fu168 Qu172
          refine pc_wA ?_; intro _ _ h173 Eh173
          have Fh173 : FSr u158 h173 := by rw [Eh173]; exact ft_u Fu172 (by omega)
          exact pc_imp (ft_qj_X13_statement_698 Gr (ft_n S1 Fh173)) (fun _ q => ft_t Fh173 q)
    · refine pj_sf (o := fun a => a) (q := fun b => b.2) S ?_ ?_ (fun a b s => .inl s)
      · have S1 : ¬ u8 2 11 = 0 := S.1
        have F : FSc u8 u8 := fs_r
        refine pc_sv (fs_qf_X8_need (fs_n S1 F)) ?_; intro u10 Qu10
        have Fu10 : FSc u8 u10 := fs_t F Qu10
        refine pc_sv (fs_qf_X8_need (fs_n S1 Fu10)) ?_; intro u12 Qu12
        have Fu12 : FSc u8 u12 := fs_t Fu10 Qu12
        refine pc_sv (fs_qf_X8_need (fs_n S1 Fu12)) ?_; intro u14 Qu14
        have Fu14 : FSc u8 u14 := fs_t Fu12 Qu14
        refine pc_sv (fs_qf_X8_need (fs_n S1 Fu14)) ?_; intro u16 Qu16
        have Fu16 : FSc u8 u16 := fs_t Fu14 Qu16
        refine pc_sv (Gc.1 (fs_n S1 Fu16)) ?_; intro u18 Qu18
        have Fu18 : FSc u8 u18 := fs_t Fu16 Qu18
        exact pc_ret Fu18
      · have S1 : ¬ u156 160 9 = 0 := sf_r S
        have F : FSr u156 u156 := ft_r
        refine pc_sv (ft_qf_X13_sign_ (ft_n S1 F)) ?_; intro u158 Qu158
        have Fu158 : FSr u156 u158 := ft_t F Qu158
        refine pc_sv (ft_qf_X13_name (ft_n S1 Fu158)) ?_; intro u161 Qu161
        have Fu161 : FSr u156 u161.2 := ft_t Fu158 Qu161
        refine pc_wA ?_; intro _ _ h162 Eh162
        have Fh162 : FSr u156 h162 := by rw [Eh162]; exact ft_u Fu161 (by omega)
        refine pc_sv (ft_qf_X13_name (ft_n S1 Fh162)) ?_; intro u165 Qu165
        have Fu165 : FSr u156 u165.2 := ft_t Fh162 Qu165
        refine pc_wA ?_; intro _ _ h166 Eh166
        have Fh166 : FSr u156 h166 := by rw [Eh166]; exact ft_u Fu165 (by omega)
        refine pc_sv (ft_qf_X13_sign_ (ft_n S1 Fh166)) ?_; intro u168 Qu168
        have Fu168 : FSr u156 u168 := ft_t Fh166 Qu168
        refine pc_xl ?_; intro v170 _
        refine pc_sv (Gr.1 (ft_n S1 Fu168)) ?_; intro u172 Qu172
        have Fu172 : FSr u156 u172.2 := ft_t Fu168 Qu172
        refine pc_wA ?_; intro _ _ h173 Eh173
        have Fh173 : FSr u156 h173 := by rw [Eh173]; exact ft_u Fu172 (by omega)
        exact pc_imp (ft_qj_X13_statement_698 Gr (ft_n S1 Fh173)) (fun _ q => ft_t Fh173 q)
end
