section
/- try: class and rules -/
/-- all of a try that the making wants -/
def TRr (nn : Nat) (X : BCx) (s y0 b : Int) (p t q : Nat) (bb en : Int) (h r z w : ms_M) : Prop := ∃ (c : Int) (g0 gJ gH k1 k2 k3 k4 v3 : ms_M) (x1 y1 x7 y7 : Int × ms_M), COp 0 (up_M h 2 10 ((p + 1 : Nat) : Int)) g0 ∧ SKl X (s + 1) y0 p (p + 1) bb h r g0 r ∧ SOk nn X (bT X 170 s.toNat) (s + 1) y0 (p + 1) t bb g0 r x1 y1 ∧ x1.2 34 7 = h 34 7 ∧ ((x1.1 = 0 ∧ gJ = x1.2) ∨ (¬ x1.1 = 0 ∧ CJu 167 0 x1.2 gJ)) ∧ (qf_X1_addHandler nn (h 34 1) (x1.2 34 1) c gJ = some gH ∧ CHw gJ gH) ∧ (COp 58 gH k1 ∧ COp (h 34 7) k1 k2 ∧ CPo 1 k2 k3 ∧ CLa (bV X (t + 3)) c k3 k4) ∧ (0 ≤ c ∧ c < 16 ∧ VTn (bn X) c) ∧ (CFs x1.2 (up_M k4 2 10 ((t + 5 : Nat) : Int)) ∧ up_M k4 2 10 ((t + 5 : Nat) : Int) 33 12 = x1.2 33 12 ∧ y1.2 176 s.toNat = ((t + 3 : Nat) : Int)) ∧ (v3 174 s.toNat = ty_T c ∧ ∀ cc x : Nat, 174 ≤ cc → cc ≤ 176 → ¬ (cc = 174 ∧ x = s.toNat) → v3 cc x = y1.2 cc x) ∧ SKk X s y0 p (t + 5) bb h r (up_M k4 2 10 ((t + 5 : Nat) : Int)) v3 ∧ SOk nn X (bT X 171 s.toNat) y0 b (t + 5) q bb (up_M k4 2 10 ((t + 5 : Nat) : Int)) v3 x7 y7 ∧ w = up_M y7.2 160 50 (r 160 50) ∧ ((x1.1 = 0 ∧ z = up_M x7.2 34 7 (h 34 7)) ∨ (¬ x1.1 = 0 ∧ CAH (x1.2 34 1) (up_M x7.2 34 7 (h 34 7)) z)) ∧ en = (if x1.1 = 0 then x7.1 else 1)
section
variable {nn : Nat} {X : BCx} {a b s d y0 bb : Int} {p t q uu : Nat} {h g u r v z w m : ms_M}
theorem ty_cr (Y : CXs X) (Wb : BRw X) (ne : 0 ≤ a ∧ a ≤ s ∧ s < b) (yb : s < y0 ∧ y0 ≤ b) (nb : b ≤ 8999) (hd : 0 ≤ d ∧ d + 1 ≤ 40) (nd : bT X 167 s.toNat = 9 ∧ bT X 168 s.toNat = ((t + 2 : Nat) : Int) ∧ bT X 176 s.toNat = ((t + 3 : Nat) : Int)) (kp : bK X p = 29) (kk : bK X (t + 2) = 2 ∧ bK X (t + 3) = 2 ∧ bK X (t + 4) = 41) (H8 : S8 nn X (d + 1) (s + 1) y0 (p + 1) t (bT X 170 s.toNat)) (H8b : S8 nn X (d + 1) y0 b (t + 5) q (bT X 171 s.toNat)) (HM : ∀ (h r z w : ms_M) (bb en : Int), SPq X d p bb h r → TRr nn X s y0 b p t q bb en h r z w → SKk X a b p q bb h r z w → MGS X (fun d m => (qg_X13_make nn d).1 s m) a b p q h r z w en) : S6 nn X d a b p q s := by
  intro dc dr h r bb Q U
  have Q0 := Q
  obtain ⟨Qe, ⟨h3, h10, r57, h7⟩, ⟨LP, l54, br⟩, -⟩ := Q0
  have Qe0 := Qe
  obtain ⟨B, ⟨q1, q2, q3, q4⟩, ⟨f1, f2, f3⟩, o1⟩ := Qe0
  have T : ∀ cc y : Nat, ((163 ≤ cc ∧ cc ≤ 173) ∨ cc = 177) → r cc y = bT X cc y := B.2.2.2.2.2.1
  have c3 := Y.1.2.1
  have t4c : t + 4 < bc X := tb_lt Y.1 (by omega)
  have t5c : t + 5 < bc X := jp_lt Y.1 t4c (by omega)
  have p1c : p + 1 < bc X := jp_lt Y.1 q2 (by omega)
  have us := U s.toNat (by omega) (by omega)
  have sg := B.2.1.1
  cases dc with
  | zero => exact fun _ z => nomatch z
  | succ dc =>
    refine sjc_29 Y B.1.1.1.1 q1 q2 q3 (by omega) kp ?_
    refine pc_add (by omega) ?_; intro v35 e35
    rw [e35]
    refine pc_sv (P := fun x => Pc ((qg_X13_ruled nn dr) s r) (fun y => SFj x.2 y.2 ∨ SOk nn X s a b p q bb h r x y)) ?_ (fun x Hx => pc_ck (fun _ => pc_ret Hx))
    cases dc with
    | zero => exact fun _ z => nomatch z
    | succ dc =>
      show Pc (qo_X0_readTry nn (qg_X0_readBlock nn dc) (d + 1) h) _
      have G := fsg_X0_readBlock nn dc
      unfold qo_X0_readTry
      rw [q1]
      refine pc_add (by omega) ?_; intro v53 e53
      refine pc_xl ?_; intro h54 e54
      rw [show v53 = ((p + 1 : Nat) : Int) by omega] at e54
      have E54 : ∀ cc x : Nat, ¬ (cc = 2 ∧ x = 10) → h54 cc x = h cc x := fun cc x q => by rw [e54, up_n q]
      have i541 := E54 34 1 (by omega)
      refine pc_sv (c_op (by omega)) ?_; intro g0 A0
      have E0 : ∀ cc x : Nat, ¬ ((cc = 2 ∧ x = 10) ∨ (cc = 34 ∧ x = 1) ∨ (cc = 35 ∧ h 34 1 ≤ (x : Int))) → g0 cc x = h cc x := fun cc x q => by rw [A0.2.2 cc x (by omega) (by omega)]; exact E54 cc x (by omega)
      have g01 : g0 34 1 = h 34 1 + 1 := by rw [A0.1, i541]
      have g07 := E0 34 7 (by omega)
      have g012 := E0 33 12 (by omega)
      have bm := brw_l Wb (p := p) (q := p + 1) (by omega) p1c
      have KL : SKl X (s + 1) y0 p (p + 1) bb h r g0 r := by
        refine ⟨⟨by rw [A0.2.2 2 10 (by omega) (by omega), e54, up_s], p1c, by omega, by rw [E0 2 11 (by omega)]; exact q3, q4⟩, ⟨bx_k B (fun cc x z => E0 cc x (by omega)) (fun _ _ _ => rfl), cfs_o (fun cc x q => E0 cc x (by omega)) (by omega), rfs_r⟩, ⟨frc_k f1 (fun cc x z => E0 cc x (by omega)), by omega, by rw [E0 34 3 (by omega)]; exact h3, by rw [E0 49 10 (by omega)]; exact h10, by rw [E0 49 18 (by omega)]; omega⟩, by omega, by omega, lpx_k LP (E0 33 9 (by omega)) (E0 33 10 (by omega)) g012 (by omega) (by omega) rfl rfl⟩
      have SPg : SPq X (d + 1) (p + 1) bb g0 r := spq_n (spq_d Q (by omega)) KL
      have U1 : UNr X (s + 1) y0 r := unr_k U ⟨by omega, by omega⟩ (fun _ _ _ _ _ _ => rfl)
      refine pc_se ?_; intro x1 e1
      have s71 : x1.2 34 7 = h 34 7 := by rw [blk_7 x1 e1]; exact g07
      intro x ex
      cases dr with
      | zero => exact fun _ z => nomatch z
      | succ dr =>
        have Gr : FSrG_X13_ruled (qg_X13_ruled nn dr) := ftg_X13_ruled nn dr
        refine sju_9 q4 ((T 167 _ (by omega)).trans nd.1) ?_
        refine pc_rA ?_; intro _ _ v232 e232
        rw [T 170 _ (by omega)] at e232
        rw [e232]
        refine pc_sv (H8 dc dr g0 r bb SPg U1 x1 e1) ?_; intro y1 hy
        -- the rules behind a FAULT
        have RFS : ∀ (l3 ty : Int) (g : ms_M), ¬ g 160 9 = 0 → Pc (mx_sv (qf_X13_fits nn ty 10 g) fun u240 => if ¬ u240 = 0 then (qj_X13_ruled_679 nn (qg_X13_ruled nn dr) s (r 160 50) l3 ty g) else (rd_A 9000 168 s g fun v242 => mx_sv (qf_X13_wrong nn 6 v242 g) fun u244 => qj_X13_ruled_679 nn (qg_X13_ruled nn dr) s (r 160 50) l3 ty u244)) (fun y => FSr g y.2) := fun l3 ty g Sg => by
          refine pc_se ?_; intro u240 _
          refine pc_if (fun _ => ft_qj_X13_ruled_679 Gr Sg) (fun _ => ?_)
          refine pc_rA ?_; intro _ _ v242 _
          refine pc_sv (ft_qf_X13_wrong Sg) ?_; intro u244 F
          exact pc_imp (ft_qj_X13_ruled_679 Gr (h := u244) (by rw [F.1]; exact Sg)) (fun y q => ⟨q.1.trans F.1, q.2.trans F.2⟩)
        rcases hy with S | ⟨⟨en1, en2⟩, SK, MG⟩
        · have FX : Pc (if x1.1 = 0 then (qj_X0_readTry_63 nn (qg_X0_readBlock nn dc) (d + 1) (h 34 1) x1.1 (x1.2 34 1) (-1) x1.2) else (mx_sv (qf_X1_jump nn 167 0 x1.2) fun u64 => qj_X0_readTry_63 nn (qg_X0_readBlock nn dc) (d + 1) (h 34 1) x1.1 (x1.2 34 1) u64.1 u64.2)) (fun x => FSc x1.2 x.2) := by
            refine pc_if (fun _ => fs_qj_X0_readTry_63 G S.1) (fun _ => ?_)
            refine pc_sv (fs_qf_X1_jump S.1) ?_; intro u64 F
            exact pc_imp (fs_qj_X0_readTry_63 G (fs_n S.1 F)) (fun _ q => fs_t F q)
          have S2 := sf_c S (FX x ex)
          refine pc_rA ?_; intro _ _ v236 _
          refine pc_sv (ft_qf_X13_typeOf (sf_r S2)) ?_; intro u238 F
          refine pc_imp (RFS y1.1 u238.1 u238.2 (by rw [F.1]; exact sf_r S2)) (fun y q => .inl ⟨S2.1, by rw [q.1, F.1]; exact S2.2.1, by rw [q.2, F.2]; exact S2.2.2⟩)
        · have SO : SOk nn X (bT X 170 s.toNat) (s + 1) y0 (p + 1) t bb g0 r x1 y1 := ⟨⟨en1, en2⟩, SK, MG⟩
          have tp := SK.1.2.2.1
          have K3 : SKk X (s + 1) y0 p t bb h r x1.2 y1.2 := skk_l (skl_t KL (skl_k SK) ⟨Int.le_refl _, Int.le_refl _⟩ ⟨Int.le_refl _, Int.le_refl _⟩) (by omega)
          have K30 := K3
          obtain ⟨⟨j1, j2, j3, j4, j5⟩, ⟨j6, j7, j8⟩, ⟨j9, j10, j11, j12, j13⟩, j14, j15, j16⟩ := K30
          have jl := j7.2.2.2.2.1
          have Tv : ∀ cc y : Nat, ((163 ≤ cc ∧ cc ≤ 173) ∨ cc = 177) → y1.2 cc y = bT X cc y := j6.2.2.2.2.2.1
          have CJ : Pc (if x1.1 = 0 then (qj_X0_readTry_63 nn (qg_X0_readBlock nn dc) (d + 1) (h 34 1) x1.1 (x1.2 34 1) (-1) x1.2) else (mx_sv (qf_X1_jump nn 167 0 x1.2) fun u64 => qj_X0_readTry_63 nn (qg_X0_readBlock nn dc) (d + 1) (h 34 1) x1.1 (x1.2 34 1) u64.1 u64.2)) (fun x => ∃ (gJ : ms_M) (jb : Int), ((x1.1 = 0 ∧ gJ = x1.2) ∨ (¬ x1.1 = 0 ∧ CJu 167 0 x1.2 gJ ∧ jb = x1.2 34 1)) ∧ qj_X0_readTry_63 nn (qg_X0_readBlock nn dc) (d + 1) (h 34 1) x1.1 (x1.2 34 1) jb gJ = some x) := by
            refine pc_if (fun z => fun x ex => ⟨x1.2, -1, .inl ⟨z, rfl⟩, ex⟩) (fun z => ?_)
            refine pc_sv (c_jump (by omega) (by omega) (by omega)) ?_; intro u64 ⟨n64, J64⟩
            exact fun x ex => ⟨u64.2, u64.1, .inr ⟨z, J64, n64⟩, ex⟩
          obtain ⟨gJ, jb, hJ, ex2⟩ := CJ x ex
          have EJ : ∀ cc x : Nat, ¬ ((cc = 34 ∧ (x = 1 ∨ x = 3)) ∨ (cc = 35 ∧ x1.2 34 1 ≤ (x : Int))) → gJ cc x = x1.2 cc x := fun cc x q => by
            rcases hJ with ⟨-, y⟩ | ⟨-, y, -⟩
            · rw [y]
            · exact y.2.2.2 cc x (by omega) (by omega)
          have gJl : x1.2 34 1 ≤ gJ 34 1 ∧ gJ 34 1 ≤ x1.2 34 1 + 3 := by
            rcases hJ with ⟨-, y⟩ | ⟨-, y, -⟩
            · rw [y]; omega
            · have := y.1; omega
          have gJ3 : gJ 34 3 = 0 := by
            rcases hJ with ⟨-, y⟩ | ⟨-, y, -⟩
            · rw [y]; exact j11
            · rw [y.2.1]; split <;> omega
          have gJ7 := EJ 34 7 (by omega)
          have BJ : BX X gJ y1.2 := bx_k j6 (fun cc x z => EJ cc x (by omega)) (fun _ _ _ => rfl)
          have FJ : FRc gJ := frc_k j9 (fun cc x z => EJ cc x (by omega))
          have CR := c_try63 (t := t) G Y BJ FJ (by rw [EJ 2 10 (by omega)]; exact j1) (by rw [EJ 2 11 (by omega)]; exact j4) gJ3 (by omega) kk.1 kk.2.1 t5c x ex2
          -- the rules: the type
          refine pc_rA ?_; intro _ _ v236 e236
          rw [Tv 168 _ (by omega), nd.2.1] at e236
          rw [e236]
          have p6 : y1.2 176 s.toNat = ((t + 3 : Nat) : Int) := by rw [j8.2.1 176 _ (by omega) (by omega) (by omega), us.2]; exact nd.2.2
          refine pc_sv (r_type Y.1 Y.2.1 Y.2.2.1 BJ.1.1.2.2 j5 (p := t + 2) (.inr (.inr (.inr ⟨rfl, kk.1⟩))) (.inl rfl)) ?_; intro u238 q238
          rcases CR with ⟨cz, s1, s2⟩ | ⟨c, cz, bc', CR⟩
          · -- no such class
            rcases q238 with ⟨⟨ty3, TS3, e238⟩, e2⟩ | ⟨-, -, w1, w2⟩
            · exfalso
              rcases TS3 with y | y | y | y | ⟨-, c2, c3', c4, -⟩
              · omega
              · omega
              · omega
              · omega
              · rw [Int.toNat_natCast] at c3'
                exact c4 (cls_d c3' cz)
            · exact pc_imp (RFS y1.1 u238.1 u238.2 (by omega)) (fun y F => .inl (sf_mk (c := 5) (pl := bP X (t + 2)) (by decide) s1 s2 (F.1.trans w1) (F.2.trans w2)))
          · rcases q238 with ⟨⟨ty3, TS3, e238⟩, e2⟩ | ⟨-, cl, w1, w2⟩
            · have et : ty3 = c := by
                rcases TS3 with y | y | y | y | ⟨-, c2, c3', c4, y⟩
                · omega
                · omega
                · omega
                · omega
                · rw [Int.toNat_natCast] at c3'
                  have := cls_d c3' cz
                  omega
              rw [e238, e2, et]
              have e180 : y1.2 180 = bB X 180 := funext (fun y => j6.2.2.2.2.2.2.1 180 y (by omega))
              have V1 : VTn (bn X) 1 := .inr (.inr (.inr (.inr (.inr (.inl (by omega))))))
              have FT : Pc (qf_X13_fits nn (ty_T c) 10 y1.2) (fun u => (u = 1 ∧ FTS (bB X 180) c 1) ∨ (u = 0 ∧ ¬ FTS (bB X 180) c 1)) := by
                have e10 : (10 : Int) = ty_T 1 := by decide
                rw [e10]
                exact r_fit Y e180 bc'.2.2 V1
              refine pc_sv FT ?_; intro u240 q240
              rcases CR with ⟨nf, s1, s2⟩ | ⟨ft, ln, el, CR⟩
              · refine pc_if (fun z => absurd (yn_0 q240 nf) z) (fun _ => ?_)
                refine pc_rA ?_; intro _ _ v242 e242
                rw [Tv 168 _ (by omega), nd.2.1] at e242
                refine pc_sv (r_wrong j6.1.1.2.2.1 (p := t + 2) (by omega) j5 e242) ?_; intro u244 w1
                exact pc_imp (ft_qj_X13_ruled_679 Gr (h := u244) (by omega)) (fun y F => .inl (sf_mk (c := 6) (pl := bP X (t + 2)) (by decide) s1 s2 (F.1.trans w1.1) (F.2.trans w1.2)))
              · refine pc_if (fun _ => ?_) (fun z => absurd (yn_1 q240 ft) z)
                have JL := j_loc Y.1 BJ.1.1.2.2.2.1 BJ.2.1 kk.2.1 rfl rfl ln el
                unfold qj_X13_ruled_679
                refine pc_if (fun z => absurd j5 z) (fun _ => ?_)
                refine pc_rA ?_; intro _ _ v44 e44
                rw [p6] at e44
                rw [e44]
                refine pc_sv JL ?_; intro u46 L46
                rcases CR with ⟨ln1, s1, s2⟩ | ⟨ln1, gH, k0, k1, k2, k3, x7, eH, HW, A0', A1, A2, A3, e7, ex3⟩
                · have n46 : ¬ u46 = -1 := by
                    rcases L46 with y | ⟨y, y1, y2, y3⟩
                    · exact absurd y.1 ln1
                    · omega
                  refine pc_if (fun z => absurd z n46) (fun _ => ?_)
                  refine pc_rA ?_; intro _ _ v48 e48
                  rw [p6] at e48
                  refine pc_sv (r_wrong j6.1.1.2.2.1 (p := t + 3) (by omega) j5 e48) ?_; intro u50 w1
                  exact pc_imp (ft_qj_X13_ruled_711 Gr (h := u50) (by omega)) (fun y F => .inl (sf_mk (c := 4) (pl := bP X (t + 3)) (by decide) s1 s2 (F.1.trans w1.1) (F.2.trans w1.2)))
                · have n46 : u46 = -1 := by
                    rcases L46 with y | ⟨y, y1, y2, y3⟩
                    · exact y.2
                    · omega
                  refine pc_if (fun _ => ?_) (fun z => absurd n46 z)
                  unfold qj_X13_ruled_711
                  refine pc_wA ?_; intro _ _ h35 e35'
                  have E35 : ∀ cc x : Nat, ¬ (cc = 174 ∧ x = s.toNat) → h35 cc x = y1.2 cc x := fun cc x q => by rw [e35', up_n q]
                  refine pc_if (fun z => absurd (show h35 160 9 = 0 by rw [E35 160 9 (by omega)]; exact j5) z) (fun _ => ?_)
                  refine pc_rA ?_; intro _ _ v38 e38
                  rw [E35 176 _ (by omega), p6] at e38
                  rw [e38]
                  refine pc_sv r_come ?_; intro v3 RC
                  obtain ⟨m1, m2, m3, G1, G2, G3, G4⟩ := cla_swap A0' A1 A2 A3
                  have nJ : gJ 34 7 = h 34 7 := by omega
                  rw [nJ] at G2
                  have hw7 := HW.2.2 34 7 (by omega) (by omega)
                  have hw1 := HW.2.2 34 1 (by omega) (by omega)
                  have hw3 := HW.2.1
                  have M3 : ∀ cc y : Nat, ¬ ((cc = 34 ∧ (y = 1 ∨ y = 3)) ∨ (cc = 35 ∧ gH 34 1 ≤ (y : Int))) → m3 cc y = gH cc y := fun cc y q => by
                    have l1 := G1.1
                    rw [G3.2 cc y (by omega), G2.2.2 cc y (by omega) (by omega)]; exact G1.2.2 cc y (by omega) (by omega)
                  have M3J : ∀ cc y : Nat, ¬ ((cc = 34 ∧ (y = 1 ∨ y = 3 ∨ y = 4 ∨ y = 10 ∨ y = 14 ∨ y = 15)) ∨ (cc = 35 ∧ x1.2 34 1 ≤ (y : Int)) ∨ (cc = 36 ∨ cc = 39 ∨ (40 ≤ cc ∧ cc ≤ 42))) → m3 cc y = x1.2 cc y := fun cc y q => by
                    rw [M3 cc y (by omega), HW.2.2 cc y (by omega) (by omega)]; exact EJ cc y (by omega)
                  have m37 : m3 34 7 = h 34 7 := by rw [M3J 34 7 (by omega)]; exact s71
                  have m31 : m3 34 1 = gJ 34 1 + 2 := by rw [G3.2 34 1 (by omega), G2.1, G1.1]; omega
                  have m33 : m3 34 3 = 0 := by rw [G3.1, G2.2.2 34 3 (by omega) (by omega), G1.2.2 34 3 (by omega) (by omega)]; split <;> omega
                  have B3 : BX X m3 h35 := bx_k j6 (fun cc x z => M3J cc x (by omega)) (fun cc x z => E35 cc x (by omega))
                  have B4 : BX X k3 v3 := bx_loc B3 G4 RC rfl kk.2.1 (by omega) ⟨bc'.2.2, by omega⟩
                  generalize ez1 : up_M k3 2 10 ((t + 5 : Nat) : Int) = z1 at e7
                  have ZK : ∀ cc y : Nat, ¬ (cc = 2 ∧ y = 10) → z1 cc y = k3 cc y := fun cc y q => by rw [← ez1, up_n q]
                  have ZU : ∀ cc y : Nat, ¬ ((cc = 2 ∧ y = 10) ∨ (cc = 34 ∧ (y = 1 ∨ y = 3 ∨ y = 4 ∨ y = 7 ∨ y = 8 ∨ y = 10 ∨ y = 14 ∨ y = 15)) ∨ (cc = 35 ∧ x1.2 34 1 ≤ (y : Int)) ∨ (cc = 36 ∨ cc = 39 ∨ (40 ≤ cc ∧ cc ≤ 42)) ∨ ((cc = 37 ∨ cc = 38) ∧ y = (h 34 7).toNat)) → z1 cc y = x1.2 cc y := fun cc y q => by
                    rw [ZK cc y (by omega), G4.2.2.2 cc y (by omega) (by omega)]; exact M3J cc y (by omega)
                  have z7 : z1 34 7 = h 34 7 + 1 := by rw [ZK 34 7 (by omega), G4.1]; omega
                  have z1l : z1 34 1 = gJ 34 1 + 2 := by rw [ZK 34 1 (by omega), G4.2.2.2 34 1 (by omega) (by omega)]; exact m31
                  have z3 : z1 34 3 = 0 := by rw [ZK 34 3 (by omega), G4.2.2.2 34 3 (by omega) (by omega)]; exact m33
                  have z12 := ZU 33 12 (by omega)
                  have Fz : FRc z1 := frc_k HW.1 (fun cc x q => by rw [ZK cc x (by omega), G4.2.2.2 cc x (by omega) (by omega)]; exact M3 cc x (by omega))
                  have Cz : CFs x1.2 z1 := ⟨fun cc x q => ZU cc x (by omega), ⟨ZU 33 9 (by omega), ZU 33 10 (by omega), by omega, by omega⟩, fun x hx => ⟨ZU 37 x (by omega), ZU 38 x (by omega)⟩, ⟨fun x hx => ZU 44 x (by omega), fun x c1 c2 => by omega⟩, by omega, fun x hx => ZU 35 x (by omega)⟩
                  have V3 : ∀ cc x : Nat, ¬ (cc = 174 ∧ x = s.toNat) → ¬ (cc = 160 ∧ x = 50) → ¬ ((cc = 196 ∨ cc = 197) ∧ x = (y1.2 160 50).toNat) → v3 cc x = y1.2 cc x := fun cc x c1 c2 c4 => by
                    rw [RC.2.2.2.2 cc x c2 (by rw [E35 160 50 (by omega)]; exact c4)]; exact E35 cc x c1
                  have RR : RFz s y0 r v3 := by
                    have R2 : RFz s y0 y1.2 v3 := by
                      have h50 := E35 160 50 (by omega)
                      refine ⟨fun cc x q => V3 cc x (by omega) (by omega) (by omega), fun cc x c1 c2 c4 => V3 cc x (by omega) (by omega) (by omega), ⟨V3 160 54 (by omega) (by omega) (by omega), V3 160 57 (by omega) (by omega) (by omega), by rw [RC.2.1]; omega⟩, fun x hx => ⟨V3 196 x (by omega) (by omega) (by omega), V3 197 x (by omega) (by omega) (by omega)⟩, fun x hx => V3 198 x (by omega) (by omega) (by omega)⟩
                    exact rfs_t j8 R2 ⟨by omega, Int.le_refl _⟩ ⟨Int.le_refl _, Int.le_refl _⟩
                  have bm2 := brw_l Wb (p := t) (q := t + 5) (by omega) t5c
                  have K5 : SKk X s y0 p (t + 5) bb h r z1 v3 := by
                    refine ⟨⟨by rw [← ez1, up_s], t5c, by omega, by rw [ZU 2 11 (by omega)]; exact j4, by rw [V3 160 9 (by omega) (by omega) (by omega)]; exact j5⟩, ⟨bx_k B4 (fun cc x q => ZK cc x (by omega)) (fun _ _ _ => rfl), cfs_t j7 Cz, RR⟩, ⟨Fz, by omega, z3, by rw [ZU 49 10 (by omega)]; exact j12, by rw [ZU 49 18 (by omega)]; omega⟩, by omega, by omega, lpx_k j16 (ZU 33 9 (by omega)) (ZU 33 10 (by omega)) z12 (by omega) (by omega) (V3 160 54 (by omega) (by omega) (by omega)) (V3 198 _ (by omega) (by omega) (by omega))⟩
                  have SP5 : SPq X (d + 1) (t + 5) bb z1 v3 := spq_n (spq_d Q (by omega)) (skl_k K5)
                  have U5 : UNr X y0 b v3 := unr_k U ⟨by omega, Int.le_refl _⟩ (fun cc x c1 c2 c4 c5 => K5.2.1.2.2.2.1 cc x (by omega) (by omega) (by omega))
                  unfold qj_X13_ruled_738
                  refine pc_rA ?_; intro _ _ v28 e28
                  rw [K5.2.1.1.2.2.2.2.2.1 171 _ (by omega)] at e28
                  rw [e28]
                  refine pc_sv (H8b dc dr z1 v3 bb SP5 U5 x7 e7) ?_; intro y7 hy7
                  rw [nJ] at ex3
                  generalize e27 : up_M x7.2 34 7 (h 34 7) = h27 at ex3
                  rcases hy7 with S | ⟨⟨en3, en4⟩, SK7, MG7⟩
                  · have F27 : FSc x7.2 h27 := ⟨by rw [← e27, up_n (by omega)], by rw [← e27, up_n (by omega)]⟩
                    have FE : Pc (if x1.1 = 0 then (qj_X0_readTry_228 nn (qg_X0_readBlock nn dc) x1.1 x7.1 h27) else (mx_sv (qf_X1_aimHere nn jb h27) fun u30 => qj_X0_readTry_228 nn (qg_X0_readBlock nn dc) x1.1 x7.1 u30)) (fun x => FSc x7.2 x.2) := by
                      refine pc_if (fun _ => pc_imp (fs_qj_X0_readTry_228 G (fs_n S.1 F27)) (fun _ q => fs_t F27 q)) (fun _ => ?_)
                      refine pc_sv (fs_qf_X1_aimHere (fs_n S.1 F27)) ?_; intro u30 F
                      exact pc_imp (fs_qj_X0_readTry_228 G (fs_n S.1 (fs_t F27 F))) (fun _ q => fs_t (fs_t F27 F) q)
                    have S2 := sf_c S (FE x ex3)
                    refine pc_xl ?_; intro h31 e31
                    have S3 : SFj x.2 h31 := ⟨S2.1, by rw [e31, up_n (by omega)]; exact S2.2.1, by rw [e31, up_n (by omega)]; exact S2.2.2⟩
                    refine pc_if (fun _ => pc_ret (.inl S3)) (fun _ => ?_)
                    exact pc_if (fun _ => pc_ret (.inl S3)) (fun _ => pc_ret (.inl S3))
                  · have SO7 : SOk nn X (bT X 171 s.toNat) y0 b (t + 5) q bb z1 v3 x7 y7 := ⟨⟨en3, en4⟩, SK7, MG7⟩
                    refine pc_xl ?_; intro h31 e31
                    have qt := SK7.1.2.2.1
                    have qc := SK7.1.2.1
                    have E27 : ∀ cc x : Nat, ¬ (cc = 34 ∧ x = 7) → h27 cc x = x7.2 cc x := fun cc x q => by rw [← e27, up_n q]
                    have KA : SKl X a b p q bb h r x7.2 y7.2 := skl_t (skl_k K5) (skl_k SK7) ⟨by omega, by omega⟩ ⟨by omega, Int.le_refl _⟩
                    have K8 : SKk X a b p q bb h r h27 h31 := sk_out Q Wb KA (fun cc x q => E27 cc x (by omega)) (by rw [← e27, up_s]) (by rw [E27 2 10 (by omega)]; exact SK7.1.1) e31 ⟨Nat.le_refl _, qc, by omega⟩
                    have k81 := K8.2.2.1.2.1
                    have k83 := K8.2.2.1.2.2.1
                    have k8l := K8.2.1.2.1.2.2.2.2.1
                    have s87 := K8.2.1.1.2.1.1
                    obtain ⟨z, ex4, hz⟩ : ∃ z, x = ((if x1.1 = 0 then x7.1 else 1), z) ∧ ((x1.1 = 0 ∧ z = h27) ∨ (¬ x1.1 = 0 ∧ CAH (x1.2 34 1) h27 z)) := by
                      have CF : Pc (if x1.1 = 0 then (qj_X0_readTry_228 nn (qg_X0_readBlock nn dc) x1.1 x7.1 h27) else (mx_sv (qf_X1_aimHere nn jb h27) fun u30 => qj_X0_readTry_228 nn (qg_X0_readBlock nn dc) x1.1 x7.1 u30)) (fun x => ∃ z, x = ((if x1.1 = 0 then x7.1 else 1), z) ∧ ((x1.1 = 0 ∧ z = h27) ∨ (¬ x1.1 = 0 ∧ CAH (x1.2 34 1) h27 z))) := by
                        refine pc_if (fun q0 => ?_) (fun q0 => ?_)
                        · unfold qj_X0_readTry_228
                          rw [if_pos q0]
                          refine pc_if (fun q => absurd q0 q) (fun _ => ?_)
                          refine pc_if (fun q => pc_ret ⟨h27, by rw [q], .inl ⟨q0, rfl⟩⟩) (fun q => pc_ret ⟨h27, by rw [show x7.1 = 1 by omega], .inl ⟨q0, rfl⟩⟩)
                        · have jbe : jb = x1.2 34 1 := by
                            rcases hJ with ⟨y, -⟩ | ⟨-, -, y⟩
                            · exact absurd y q0
                            · exact y
                          rw [jbe]
                          refine pc_sv (c_aimHere (by omega) (by omega) (by omega) (by omega) K8.2.2.1.1) ?_; intro u10 A10
                          unfold qj_X0_readTry_228
                          rw [if_neg q0]
                          exact pc_if (fun _ => pc_ret ⟨u10, rfl, .inr ⟨q0, A10⟩⟩) (fun q => absurd q0 q)
                      exact CF x ex3
                    have K9 : SKk X a b p q bb h r z h31 := by
                      rcases hz with ⟨-, y⟩ | ⟨-, y⟩
                      · rw [y]; exact K8
                      · exact sk_aim K8 f2.1 jl y
                    have ENb : (if x1.1 = 0 then x7.1 else 1) = 0 ∨ (if x1.1 = 0 then x7.1 else 1) = 1 := by split <;> omega
                    have FINR : ∀ en : Int, en = (if x1.1 = 0 then x7.1 else 1) → (SFj x.2 h31 ∨ SOk nn X s a b p q bb h r x (en, h31)) := fun en een => by
                      refine .inr ?_
                      rw [ex4, een]
                      refine ⟨⟨rfl, ENb⟩, K9, ?_⟩
                      have A0z : COp 0 (up_M h 2 10 ((p + 1 : Nat) : Int)) g0 := by rw [← e54]; exact A0
                      have v34 : v3 174 s.toNat = ty_T c := by
                        rw [RC.2.2.2.2 174 _ (by omega) (by omega), e35', up_s]
                      refine HM h r z h31 bb _ Q ⟨c, g0, gJ, gH, m1, m2, m3, k3, v3, x1, y1, x7, y7, A0z, KL, SO, s71, ?_, ⟨eH, HW⟩, ⟨G1, G2, G3, G4⟩, bc', ⟨?_, ?_, p6⟩, ⟨v34, fun cc x c1 c2 c4 => V3 cc x c4 (by omega) (by omega)⟩, ?_, ?_, e31, ?_, rfl⟩ K9
                      · rcases hJ with y | ⟨y1, y2, -⟩
                        · exact .inl y
                        · exact .inr ⟨y1, y2⟩
                      · rw [ez1]; exact Cz
                      · rw [ez1]; exact z12
                      · rw [ez1]; exact K5
                      · rw [ez1]; exact SO7
                      · rw [e27]; exact hz
                    rw [← en1, ← en3]
                    refine pc_if (fun q => pc_ret (FINR 1 (by rw [if_neg q]))) (fun q => ?_)
                    have q0 : x1.1 = 0 := Classical.byContradiction q
                    exact pc_if (fun q7 => pc_ret (FINR 0 (by rw [if_pos q0, q7]))) (fun q7 => pc_ret (FINR 1 (by rw [if_pos q0]; omega)))
            · exfalso
              have := cls_d cz cl
              omega
end
end
section
/- try: the making, whole -/
section
variable {nn : Nat} {X : BCx} {a b s y0 bb d lb lh en : Int} {p t q : Nat} {h r z w m : ms_M} {PB : Nat → Prop} {WL : Int → Int → Prop} {L : List (Int × Int)}
theorem m_ty (Y : CXs X) (ne : 0 ≤ a ∧ a ≤ s ∧ s < b) (yb : s < y0 ∧ y0 ≤ b) (nb : b ≤ 8999) (nd : bT X 167 s.toNat = 9) (kk : bK X (t + 3) = 2) (Q : SPq X d p bb h r) (TR : TRr nn X s y0 b p t q bb en h r z w) : MGS X (fun d m => (qg_X13_make nn d).1 s m) a b p q h r z w en := by
  obtain ⟨c, g0, gJ, gH, k1, k2, k3, k4, v3, x1, y1, x7, y7, A0, KL, SO, s71, hJ, ⟨eH, HW⟩, ⟨G1, G2, G3, G4⟩, bc', ⟨Cz, z12, p6⟩, ⟨v34, V34⟩, K5, SO7, ew, hz, een⟩ := TR
  intro d2 PB WL L lb lh m I
  have I0 := I
  obtain ⟨⟨M, AM⟩, ⟨m57, m88, m54, m51⟩, LB, WN, CO⟩ := I0
  obtain ⟨Qe, ⟨h3, h10, r57, h7⟩, ⟨LP, l54, br⟩, -⟩ := Q
  obtain ⟨B, ⟨q1, q2, q3, q4⟩, ⟨f1, f2, f3⟩, o1⟩ := Qe
  have MT := (mk_t M).1
  have c3 := Y.1.2.1
  have j88 := M.1.2.1.2.2.2.2
  have sM := M.1.2.2.2.1.1
  have h1m := M.1.1.1.1
  have pt := SO.2.1.1.2.2.1
  have tq := SO7.2.1.1.2.2.1
  have qc := SO7.2.1.1.2.1
  have nzf : ∀ f : Int, m 160 88 < f → ∀ Z : List (Int × Int), (∀ e ∈ Z, e.2 = lb ∨ e.2 = lh) → (r 160 54 = 0 → Z = []) → ¬ hs_L f Z := fun f hf Z y1 y2 => by
    by_cases r0 : r 160 54 = 0
    · rw [y2 r0]; exact fun y => y
    · have := LB (by omega)
      exact hs_z y1 (by omega)
  generalize ez1 : up_M k4 2 10 ((t + 5 : Nat) : Int) = z1 at Cz z12 K5 SO7
  generalize e27 : up_M x7.2 34 7 (h 34 7) = h27 at hz
  have W1 : ∀ cc x : Nat, 174 ≤ cc → cc ≤ 176 → s ≤ (x : Int) → (x : Int) < y0 → w cc x = v3 cc x := fun cc x c1 c2 c4 c5 => by
    rw [ew, up_n (by omega)]; exact SO7.2.1.2.1.2.2.2.1 cc x c1 c2 (by omega)
  have a4 : m 174 s.toNat = ty_T c := by rw [AM 174 _ (by omega) (by omega) (by omega) (by omega)]; exact (W1 174 _ (by omega) (by omega) (by omega) (by omega)).trans v34
  have a6 : m 176 s.toNat = ((t + 3 : Nat) : Int) := by rw [AM 176 _ (by omega) (by omega) (by omega) (by omega)]; exact (W1 176 _ (by omega) (by omega) (by omega) (by omega)).trans ((V34 176 _ (by omega) (by omega) (by omega)).trans p6)
  have EJ : ∀ cc x : Nat, ¬ ((cc = 34 ∧ (x = 1 ∨ x = 3)) ∨ (cc = 35 ∧ x1.2 34 1 ≤ (x : Int))) → gJ cc x = x1.2 cc x := fun cc x q => by
    have := SO.2.1.2.1.2.1.2.2.2.2.1
    have := KL.2.1.2.1.2.2.2.2.1
    rcases hJ with ⟨-, y⟩ | ⟨-, y⟩
    · rw [y]
    · exact y.2.2.2 cc x (by omega) (by omega)
  have l1h := KL.2.1.2.1.2.2.2.2.1
  have l10 := SO.2.1.2.1.2.1.2.2.2.2.1
  have l11 := SO.2.1.2.2.1.2.1
  have l12 := KL.2.2.1.2.1
  have x13 := SO.2.1.2.2.1.2.2.1
  have gJl : x1.2 34 1 ≤ gJ 34 1 ∧ gJ 34 1 ≤ x1.2 34 1 + 3 := by
    rcases hJ with ⟨-, y⟩ | ⟨-, y⟩
    · rw [y]; omega
    · have := y.1; omega
  have gJ3 : gJ 34 3 = 0 := by
    rcases hJ with ⟨-, y⟩ | ⟨-, y⟩
    · rw [y]; exact x13
    · rw [y.2.1]; split <;> omega
  have gJ7 := EJ 34 7 (by omega)
  have FJ : FRc gJ := frc_k SO.2.1.2.2.1.1 (fun cc x z => EJ cc x (by omega))
  cases d2 with
  | zero => exact fun _ z => nomatch z
  | succ d2 =>
    refine sjm_9 ((MT 167 _ (by omega)).trans nd) ?_
    refine pc_sv (P := fun y => y.1 = en ∧ MGq X PB WL L lb lh p q h r z m y.2) ?_ (fun y Hy => pc_ck (fun _ => pc_ret Hy))
    cases d2 with
    | zero => exact fun _ z => nomatch z
    | succ d2 =>
      show Pc (qo_X13_guard nn (qg_X13_make nn d2) s (m 160 50) m) _
      unfold qo_X13_guard
      refine pc_sv (r_lab (by omega)) ?_; intro u43 e43
      rw [e43]
      dsimp only
      generalize em1 : up_M m 160 88 (m 160 88 + 1) = m1
      have E1 : ∀ cc x : Nat, ¬ (cc = 160 ∧ x = 88) → m1 cc x = m cc x := fun cc x q => by rw [← em1, up_n q]
      have m1l : m1 160 88 = m 160 88 + 1 := by rw [← em1, up_s]
      have M1 : MKx X PB WL L h m1 := mk_lab M em1.symm
      have l68 : m1 160 68 = h 34 1 := by rw [E1 160 68 (by omega)]; exact h1m.symm
      rw [l68]
      refine pc_sv (r_put (by omega)) ?_; intro u46 RP
      have M46 : MKx X PB WL L g0 u46 := mk_op (mkx_c (g := up_M h 2 10 ((p + 1 : Nat) : Int)) M1 (fun cc x q1 q2 q3 => up_n (by omega))) A0 RP (fun _ => rfl) (by unfold in_R; omega)
      have E46 : ∀ cc x : Nat, ¬ (cc = 160 ∧ (x = 68 ∨ x = 88)) → ¬ cc = 206 → u46 cc x = m cc x := fun cc x c1 c2 => by rw [RP.2.2 cc x (by omega) (by omega)]; exact E1 cc x (by omega)
      have l46 : u46 160 88 = m 160 88 + 1 := by rw [RP.2.2 160 88 (by omega) (by omega)]; exact m1l
      have F46 : MWf m u46 := mwf_o (fun cc x q => E46 cc x (by omega) (by omega))
      refine pc_rA ?_; intro _ _ v48 e48
      rw [E46 170 _ (by omega) (by omega), MT 170 _ (by omega)] at e48
      rw [e48]
      have AA : AN (s + 1) y0 y1.2 m := an_s AM ⟨by omega, by omega⟩ (fun cc x c1 c2 c4 c5 => (W1 cc x c1 c2 (by omega) c5).trans (V34 cc x c1 c2 (by omega)))
      have AB : AN y0 b y7.2 m := an_s AM ⟨by omega, Int.le_refl _⟩ (fun cc x c1 c2 c4 c5 => by show w cc x = _; rw [ew, up_n (by omega)])
      have I1 := mgi_n2 (Z1 := []) (a2 := s + 1) (b2 := y0) (vF := y1.2) (uu := t) (t := p + 1) (L2 := L) (a := s + 1) (b := y0) (q := q) ⟨⟨I.1.1, AA⟩, I.2⟩ LP KL.2.1.2.1 KL.2.1.2.2 (by rw [pbz_n, wlz_n]; exact M46) (fun _ => rfl) ⟨F46, by omega, by omega⟩ (an_m AA (fun cc x c1 c2 => F46.2.1 cc x c1 c2)) (by omega)
      rw [pbz_n, wlz_n] at I1
      refine pc_sv (SO.2.2 d2 PB WL L lb lh u46 I1) ?_; intro u50 ⟨en50, G50⟩
      obtain ⟨⟨Z, MZ, zy1, zy2, zy3, zy4⟩, FZ, lz1, lz2⟩ := G50
      have MY0 : MGy lb lh g0 r x1.2 Z := mgy_of ⟨MZ, zy1, zy2, zy3, zy4⟩
      have c9 := KL.2.1.2.1.2.1
      have g12 : g0 33 12 = h 33 12 := by rw [A0.2.2 33 12 (by omega) (by omega), up_n (by omega)]
      have MY : MGy lb lh h r x1.2 Z := ⟨zy1, zy2, by rw [← g12]; exact zy3, fun j hj => by rw [← c9.1]; exact zy4 j hj, MY0.2.2.2.2⟩
      rw [c9.1, c9.2.1] at MZ
      have cbZ := MZ.1.1.1
      have F50 : MWf m u50.2 := mwf_t F46 FZ
      have IZ := mgi_n2 (Z1 := Z) (a2 := y0) (b2 := b) (vF := y7.2) (uu := q) (t := t) (L2 := L ++ Z) (a := y0) (b := b) (q := q) ⟨⟨I.1.1, AB⟩, I.2⟩ LP (cfs_t KL.2.1.2.1 SO.2.1.2.1.2.1) (rfs_t (a := s + 1) (b := y0) KL.2.1.2.2 SO.2.1.2.1.2.2 ⟨Int.le_refl _, Int.le_refl _⟩ ⟨Int.le_refl _, Int.le_refl _⟩) MZ zy2 ⟨F50, by omega, by omega⟩ (an_m AB (fun cc x c1 c2 => F50.2.1 cc x c1 c2)) (Nat.le_refl _)
      have WNZ := IZ.2.2.2.1
      rw [en50, ← cbZ.1]
      have c0 : 0 ≤ h 33 12 := by have := LP.1; omega
      -- from the handler on
      have T47 : ∀ (w3 : ms_M) (B3 : List (Int × Int)), MKx X (PBz PB lb Z) (WLz WL (h 33 9) (h 33 10) lb Z) ((L ++ Z) ++ B3) gJ w3 → MWf m w3 → w3 160 88 = u50.2 160 88 → ((x1.1 = 0 ∧ B3 = []) ∨ (¬ x1.1 = 0 ∧ B3 = [(x1.2 34 1, m 160 88 + 1)])) → Pc (qj_X13_guard_47 nn (qg_X13_make nn d2) s (m 160 50) (m 160 88 + 1) (h 34 1) x1.1 (x1.2 34 1) w3) (fun y => y.1 = en ∧ MGq X PB WL L lb lh p q h r z m y.2) := fun w3 B3 M3 F3 l3 hB => by
        have HDw := M3.1.2.2.2.2.1
        have b84 := M3.1.2.2.1.2.1.1.2
        have MT3 := (mk_t M3).1
        have CH : CHd (h 34 1) (x1.2 34 1) c gJ gH := c_hand (by
          by_cases q : w3 160 84 ≤ 20
          · have := HDw.2.1 q; have := HDw.1; omega
          · have := HDw.2.2.1 (by omega); omega) FJ (by omega) (by omega) (by omega) gH eH
        unfold qj_X13_guard_47
        have hd0 := HDw.1
        refine pc_add (by omega) ?_; intro v3' e3'
        refine pc_xl ?_; intro h4 e4
        refine pc_wA ?_; intro b1 b2 h6 e6
        refine pc_wA ?_; intro _ _ h8 e8
        refine pc_wA ?_; intro _ _ h11 e11
        have E8 : h8 160 68 = w3 160 68 := by rw [e8, up_n (by omega), e6, up_n (by omega), e4, up_n (by omega)]
        have E11 : ∀ cc x : Nat, ¬ (cc = 160 ∧ x = 84) → ¬ (213 ≤ cc ∧ cc ≤ 216) → h11 cc x = w3 cc x := fun cc x c1 c2 => by rw [e11, up_n (by omega), e8, up_n (by omega), e6, up_n (by omega), e4, up_n (by omega)]
        have w4 : w3 174 s.toNat = ty_T c := by rw [F3.2.1 174 _ (by omega) (by omega)]; exact a4
        have w6 : w3 176 s.toNat = ((t + 3 : Nat) : Int) := by rw [F3.2.1 176 _ (by omega) (by omega)]; exact a6
        refine pc_rA ?_; intro _ _ v14 e14
        rw [E11 174 _ (by omega) (by omega), w4] at e14
        refine pc_wA ?_; intro _ _ h15 e15
        have E15 : ∀ cc x : Nat, ¬ (cc = 160 ∧ x = 84) → ¬ (213 ≤ cc ∧ cc ≤ 216) → h15 cc x = w3 cc x := fun cc x c1 c2 => by rw [e15, up_n (by omega)]; exact E11 cc x c1 c2
        refine pc_rA ?_; intro _ _ v17 e17
        rw [E15 174 _ (by omega) (by omega), w4] at e17
        rw [e17]
        refine pc_sv r_push ?_; intro u19 RS
        have e5 : h15 = up_M (up_M (up_M (up_M (up_M w3 160 84 (w3 160 84 + 1)) 213 (w3 160 84).toNat (h 34 1)) 214 (w3 160 84).toNat (x1.2 34 1)) 215 (w3 160 84).toNat (w3 160 68)) 216 (w3 160 84).toNat (ty_T c) := by
          rw [e15, e14, e11, E8, e8, e6, e4, e3']
        refine pc_sv (mk_hand M3 CH e5 ⟨b1, b2⟩ RS ⟨rfl, bc'.2.2, by omega⟩ ⟨by omega, by omega⟩ (by rw [RS.2.2.2.2 160 68 (by omega) (by omega)]; exact E15 160 68 (by omega) (by omega)) (by omega) (by omega)) ?_; intro u22 ⟨M22, l22, E22⟩
        have hw7 := HW.2.2 34 7 (by omega) (by omega)
        have hw1 := HW.2.2 34 1 (by omega) (by omega)
        have hw3 := HW.2.1
        refine pc_sv (m_store (t := t + 3) (ty := c) M22 (by rw [if_neg (by omega)]; exact G1) G2 G3 G4 kk (by omega) (by omega) (by omega) (.inr (.inr (.inr (.inr (.inr (.inl (by omega))))))) ⟨by omega, by omega⟩ bc'.2.2 (fun p' k' y => by have := WNZ p' k' y; omega) (by omega) (by omega) (.inr ⟨rfl, by omega⟩)) ?_; intro u25 ⟨E25, P25⟩
        refine pc_rA ?_; intro _ _ v27 e27'
        rw [E25 176 _ (by omega) (by omega), E22 176 _ (by omega) (by omega), w6] at e27'
        refine pc_rA ?_; intro _ _ v29 e29
        rw [E25 174 _ (by omega) (by omega), E22 174 _ (by omega) (by omega), w4] at e29
        rw [e27', e29]
        refine pc_sv P25 ?_; intro u31 ⟨M31, E31⟩
        have W31 : ∀ cc x : Nat, ¬ (cc = 160 ∧ (x = 50 ∨ x = 68 ∨ x = 70 ∨ x = 71 ∨ x = 72 ∨ x = 78 ∨ x = 79 ∨ x = 84)) → ¬ (cc = 206 ∨ cc = 196 ∨ cc = 197 ∨ (207 ≤ cc ∧ cc ≤ 216)) → u31 cc x = w3 cc x := fun cc x c1 c2 => by
          rw [E31 cc x (by omega) (by omega)]; exact E22 cc x (by omega) (by omega)
        have F31 : MWf m u31 := mwf_t F3 (mwf_o (fun cc x q => W31 cc x (by omega) (by omega)))
        have l31 := W31 160 88 (by omega) (by omega)
        refine pc_rA ?_; intro _ _ v33 e33
        rw [(mk_t M31).1 171 _ (by omega)] at e33
        rw [e33]
        have MZ1 : MKx X (PBz PB lb Z) (WLz WL (h 33 9) (h 33 10) lb Z) ((L ++ Z) ++ B3) z1 u31 := mkx_c M31 (fun cc x c1 c2 c4 => by rw [← ez1, up_n (by omega)])
        have FF2 : MWf m u31 ∧ m 160 88 ≤ u31 160 88 ∧ u31 160 88 + 4 * (p : Int) ≤ m 160 88 + 4 * ((t + 5 : Nat) : Int) := ⟨F31, by omega, by omega⟩
        have I3 := mgi_n2 (Z1 := Z) (a2 := y0) (b2 := b) (vF := y7.2) (uu := q) (t := t + 5) (L2 := (L ++ Z) ++ B3) (a := y0) (b := b) (q := q) ⟨⟨I.1.1, AB⟩, I.2⟩ LP K5.2.1.2.1 K5.2.1.2.2 MZ1 zy2 FF2 (an_m AB (fun cc x c1 c2 => F31.2.1 cc x c1 c2)) (Nat.le_refl _)
        refine pc_sv (SO7.2.2 d2 _ _ _ lb lh u31 I3) ?_; intro u35 ⟨en35, G35⟩
        refine pc_xl ?_; intro h36 e36
        have C7 := SO7.2.1.2.1.2.1
        have z17 : h 34 7 ≤ z1 34 7 := K5.2.1.2.1.2.1.2.2.2
        have z7x : z1 34 7 ≤ x7.2 34 7 := C7.2.1.2.2.2
        have E27 : ∀ cc x : Nat, ¬ (cc = 34 ∧ x = 7) → h27 cc x = x7.2 cc x := fun cc x q => by rw [← e27, up_n q]
        have G36 := mg_out2 (z := h27) (uu := q) G35 (fun cc x q => E27 cc x (by omega)) (by rw [← e27, up_s]) e36 sM.1 sM.2.1 (by omega) (Nat.le_refl _)
        have MY5 : MGy lb lh h r z1 Z := mgy_k MY Cz z12 c0
        have zc9 : z1 33 9 = h 33 9 ∧ z1 33 10 = h 33 10 := ⟨K5.2.1.2.1.2.1.1, K5.2.1.2.1.2.1.2.1⟩
        have e54' : v3 160 54 = r 160 54 := K5.2.1.2.2.2.2.1.1
        have cb36 : h27 34 1 = h36 160 68 ∧ 0 ≤ h27 34 1 := by
          obtain ⟨⟨ZZ, MZZ, -⟩, -⟩ := G36
          exact MZZ.1.1.1
        have F27 : FRc h27 := frc_k SO7.2.1.2.2.1.1 (fun cc x q => E27 cc x (by omega))
        have l271 : h27 34 1 ≤ 900000 := by
          have := E27 34 1 (by omega)
          have := SO7.2.1.2.2.1.2.1
          have := K5.2.2.1.2.1
          omega
        have l273 : h27 34 3 = 0 := by rw [E27 34 3 (by omega)]; exact SO7.2.1.2.2.1.2.2.1
        have nfb : ¬ hs_L (m 160 88 + 1) (L ++ Z) := fun y => ((hs_app L Z).mp y).elim (mk_nL M (by omega)) (nzf _ (by omega) Z zy1 zy2)
        have nzb : ∀ Z : List (Int × Int), (∀ e ∈ Z, e.2 = lb ∨ e.2 = lh) → (v3 160 54 = 0 → Z = []) → ¬ hs_L (m 160 88 + 1) Z := fun Z y1 y2 => nzf _ (by omega) Z y1 (fun y => y2 (by rw [e54']; exact y))
        have ENDm : Pc (qf_X13_stands nn (m 160 88 + 1) (h36 160 68) h36) (fun w4 => MGq X (PBz PB lb Z) (WLz WL (h 33 9) (h 33 10) lb Z) (L ++ Z) lb lh (t + 5) q z1 v3 z u31 w4) := by
          rcases hz with ⟨q0, y⟩ | ⟨q0, y⟩
          · rcases hB with ⟨-, b0⟩ | ⟨q1, -⟩
            · rw [b0, List.append_nil] at G36
              rw [y]
              exact mgq_none G36 nfb nzb (by omega) (by omega)
            · exact absurd q0 q1
          · rcases hB with ⟨q1, -⟩ | ⟨-, b0⟩
            · exact absurd q1 q0
            · rw [b0] at G36
              exact mgq_aim3 G36 nfb nzb F27 y (by omega) rfl (by omega) (by omega)
        refine pc_sv ENDm ?_; intro u39 G39
        have CZ44 : ∀ x : Nat, (x : Int) < z1 33 12 → z 44 x = z1 44 x := fun x hx => by
          rcases hz with ⟨q0, y⟩ | ⟨q0, y⟩
          · rw [y, E27 44 x (by omega)]; exact C7.2.2.2.1.1 x hx
          · rw [(cah_o (n0 := 0) F27 (.inl (by omega)) (by omega) y).1 44 x (by omega) (by omega) (by omega), E27 44 x (by omega)]; exact C7.2.2.2.1.1 x hx
        have CZA : ∀ j, (j, lb) ∈ Z → AMd z j (h 33 9) := fun j hj => by
          have jb1 := MY5.2.2.2.2 j hj
          have jb0 := MY.2.2.2.2 j hj
          have A27 : AMd h27 j (h 33 9) := fun lt => by
            rw [E27 35 _ (by omega), E27 35 _ (by omega), C7.2.2.2.2.2 _ (by omega), C7.2.2.2.2.2 _ (by omega)]
            exact MY5.2.2.2.1 j hj lt
          rcases hz with ⟨q0, y⟩ | ⟨q0, y⟩
          · rw [y]; exact A27
          · exact amd_aim A27 (cah_o (n0 := 0) F27 (.inl (by omega)) (by omega) y).2 ⟨by omega, by omega, .inl (by omega)⟩
        have FINm : MGq X PB WL L lb lh p q h r z m u39 := mg_seq3 MY5 FF2 e54' CZ44 CZA zc9 c0 G39
        have en7 := SO7.1.2
        rw [en35]
        refine pc_if (fun q => pc_ret ⟨by show (1 : Int) = en; rw [een, if_neg q], FINm⟩) (fun q => ?_)
        have q0 : x1.1 = 0 := Classical.byContradiction q
        refine pc_if (fun q7 => pc_ret ⟨by show (0 : Int) = en; rw [een, if_pos q0, q7], FINm⟩) (fun q7 => pc_ret ⟨by show (1 : Int) = en; rw [een, if_pos q0]; omega, FINm⟩)
      refine pc_if (fun q0 => ?_) (fun q0 => ?_)
      · rcases hJ with ⟨-, y⟩ | ⟨y, -⟩
        · exact T47 u50.2 [] (by rw [List.append_nil, y]; exact MZ) F50 rfl (.inl ⟨q0, rfl⟩)
        · exact absurd q0 y
      · rcases hJ with ⟨y, -⟩ | ⟨-, y⟩
        · exact absurd y q0
        · refine pc_sv (r_jump (by omega)) ?_; intro u53 RJ
          have W5 := RJ.2.2.2.2.2.2
          have M53 := mkx_j0 MZ y RJ (by unfold in_R; omega) (by omega)
          rw [← cbZ.1] at M53
          exact T47 u53 _ M53 (mwf_t F50 (mwf_o (fun cc x q => W5 cc x (by omega) (by omega) (by omega)))) (W5 160 88 (by omega) (by omega) (by omega)) (.inr ⟨q0, rfl⟩)
theorem s6_ty (Y : CXs X) (Wb : BRw X) (ne : 0 ≤ a ∧ a ≤ s ∧ s < b) (yb : s < y0 ∧ y0 ≤ b) (nb : b ≤ 8999) (hd : 0 ≤ d ∧ d + 1 ≤ 40) (nd : bT X 167 s.toNat = 9 ∧ bT X 168 s.toNat = ((t + 2 : Nat) : Int) ∧ bT X 176 s.toNat = ((t + 3 : Nat) : Int)) (kp : bK X p = 29) (kk : bK X (t + 2) = 2 ∧ bK X (t + 3) = 2 ∧ bK X (t + 4) = 41) (H8 : S8 nn X (d + 1) (s + 1) y0 (p + 1) t (bT X 170 s.toNat)) (H8b : S8 nn X (d + 1) y0 b (t + 5) q (bT X 171 s.toNat)) : S6 nn X d a b p q s :=
  ty_cr Y Wb ne yb nb hd nd kp kk H8 H8b (fun h r z w bb en Q TR _ => m_ty Y ne yb nb nd.1 kk.2.1 Q TR)
end
end
section
/- all S of both sides -/
section
variable {K : Nat → Int} {T : ms_M}
theorem lk_bg {s : Nat} {d i l a b p q e : Int} (H : LKn d K T s i l a b p q e) : (s = 6 ∨ s = 8) → T 169 e.toNat = p := by
  refine lk_ind (fun d s i l a b p q e => (s = 6 ∨ s = 8) → T 169 e.toNat = p) ?_ ?_ ?_ ?_ ?_ ?_ ?_ ?_ ?_ ?_ ?_ ?_ ?_ ?_ ?_ ?_ ?_ ?_ ?_ ?_ ?_ ?_ ?_ ?_ ?_ ?_ ?_ ?_ ?_ ?_ ?_ ?_ ?_ ?_ ?_ ?_ ?_ ?_ H
  · intro d i a b p q e h0 h1
    exact fun z => absurd z (by decide)
  · intro d ix iy iz t u y a b p q e h0 h1 h2 h3 h4 h5 h6 h7 h8 h9 h10
    exact fun z => absurd z (by decide)
  · intro d i l a b p q e h0
    exact fun z => absurd z (by decide)
  · intro d ix iy l s t a b p q e h0 h1 h2 h3 h4 h5 h6
    exact fun z => absurd z (by decide)
  · intro d ix l t a b p q e h0 h1 h2 h3 h4
    exact fun z => absurd z (by decide)
  · intro d ix a b p q e h0 h1 h2 h3
    exact fun z => absurd z (by decide)
  · intro d ix a b p q e h0 h1 h2 h3
    exact fun z => absurd z (by decide)
  · intro d i a b p q e h0 h1
    exact fun z => absurd z (by decide)
  · intro d a b p q e h0 h1 h2
    exact fun z => absurd z (by decide)
  · intro d a b p q e h0 h1 h2 h3
    exact fun z => absurd z (by decide)
  · intro d a b p q e h0 h1 h2 h3 h4
    exact fun z => absurd z (by decide)
  · intro d i t a b p q e h0 h1
    exact fun z => absurd z (by decide)
  · intro d ix t a b p q e h0 h1 h2 h3 h4 h5
    exact fun z => absurd z (by decide)
  · intro d a b p q e h0 h1 h2 h3
    exact fun z => absurd z (by decide)
  · intro d ix t a b p q e h0 h1 h2 h3 h4 h5
    exact fun z => absurd z (by decide)
  · intro d ix t a b p q e h0 h1 h2 h3 h4
    exact fun z => absurd z (by decide)
  · intro d ix t a b p q e h0 h1 h2 h3 h4 h5
    exact fun z => absurd z (by decide)
  · intro d ix iy t u a b p q e h0 h1 h2 h3 h4 h5 h6
    exact fun z => absurd z (by decide)
  · intro d a b p q h0
    exact fun z => absurd z (by decide)
  · intro d a b p q e h0 h1
    exact fun z => absurd z (by decide)
  · intro d ix t a b p q e h0 h1 h2 h3
    exact fun z => absurd z (by decide)
  · intro d ix t a b p q e h0 h1 h2 h3 h4
    exact fun z => absurd z (by decide)
  · intro d a b p q e h0
    exact fun _ => h0.2 (by decide)
  · intro d ix t u bs rw a b p q e h0 h1 h2 h3 h4 h5
    exact fun _ => h1.2.2.1
  · intro d ix t y a b p q e h0 h1 h2 h3 h4 h5 h6 h7
    exact fun _ => h2.2.1
  · intro d ix t u y z a b p q e h0 h1 h2 h3 h4 h5 h6 h7 h8
    exact fun _ => h2.2
  · intro d ix t y a b p q e h0 h1 h2 h3 h4 h5 h6 h7 h8
    exact fun _ => h2.2
  · intro d a b p q e h0 h1 h2 h3
    exact fun _ => h1.2.2
  · intro d a b p q e h0 h1 h2 h3
    exact fun _ => h1.2.2.1
  · intro d ix t a b p q e h0 h1 h2 h3 h4 h5
    exact fun _ => h1.2.2
  · intro d ix t a b p q e h0 h1 h2 h3 h4 h5
    exact fun _ => h1.2.2
  · intro d ix t a b p q e h0 h1 h2 h3 h4 h5
    exact fun _ => h1.2.2
  · intro d t y a b p q e h0 h1 h2 h3 h4 h5 h6
    exact fun _ => h2.2.2.1
  · intro d ix t a b p q e h0 h1 h2 h3 h4 h5
    exact fun _ => h1.2
  · intro d ix iy t u y a b p q e h0 h1 h2 h3 h4 h5 h6 h7 h8 h9
    exact fun _ => h2.2.1
  · intro d a b p h0 h1
    exact fun z => absurd z (by decide)
  · intro d t y a b p q e h0 h1 h2 h3
    exact fun z => absurd z (by decide)
  · intro d t a b p q e h0 h1 h2 h3 h4
    exact fun _ => h1.2
theorem lk_7q {s : Nat} {d i l a b p q e : Int} (H : LKn d K T s i l a b p q e) : s = 7 → K q.toNat = 43 := by
  refine lk_ind (fun d s i l a b p q e => s = 7 → K q.toNat = 43) ?_ ?_ ?_ ?_ ?_ ?_ ?_ ?_ ?_ ?_ ?_ ?_ ?_ ?_ ?_ ?_ ?_ ?_ ?_ ?_ ?_ ?_ ?_ ?_ ?_ ?_ ?_ ?_ ?_ ?_ ?_ ?_ ?_ ?_ ?_ ?_ ?_ ?_ H
  · intro d i a b p q e h0 h1
    exact fun z => absurd z (by decide)
  · intro d ix iy iz t u y a b p q e h0 h1 h2 h3 h4 h5 h6 h7 h8 h9 h10
    exact fun z => absurd z (by decide)
  · intro d i l a b p q e h0
    exact fun z => absurd z (by decide)
  · intro d ix iy l s t a b p q e h0 h1 h2 h3 h4 h5 h6
    exact fun z => absurd z (by decide)
  · intro d ix l t a b p q e h0 h1 h2 h3 h4
    exact fun z => absurd z (by decide)
  · intro d ix a b p q e h0 h1 h2 h3
    exact fun z => absurd z (by decide)
  · intro d ix a b p q e h0 h1 h2 h3
    exact fun z => absurd z (by decide)
  · intro d i a b p q e h0 h1
    exact fun z => absurd z (by decide)
  · intro d a b p q e h0 h1 h2
    exact fun z => absurd z (by decide)
  · intro d a b p q e h0 h1 h2 h3
    exact fun z => absurd z (by decide)
  · intro d a b p q e h0 h1 h2 h3 h4
    exact fun z => absurd z (by decide)
  · intro d i t a b p q e h0 h1
    exact fun z => absurd z (by decide)
  · intro d ix t a b p q e h0 h1 h2 h3 h4 h5
    exact fun z => absurd z (by decide)
  · intro d a b p q e h0 h1 h2 h3
    exact fun z => absurd z (by decide)
  · intro d ix t a b p q e h0 h1 h2 h3 h4 h5
    exact fun z => absurd z (by decide)
  · intro d ix t a b p q e h0 h1 h2 h3 h4
    exact fun z => absurd z (by decide)
  · intro d ix t a b p q e h0 h1 h2 h3 h4 h5
    exact fun z => absurd z (by decide)
  · intro d ix iy t u a b p q e h0 h1 h2 h3 h4 h5 h6
    exact fun z => absurd z (by decide)
  · intro d a b p q h0
    exact fun z => absurd z (by decide)
  · intro d a b p q e h0 h1
    exact fun z => absurd z (by decide)
  · intro d ix t a b p q e h0 h1 h2 h3
    exact fun z => absurd z (by decide)
  · intro d ix t a b p q e h0 h1 h2 h3 h4
    exact fun z => absurd z (by decide)
  · intro d a b p q e h0
    exact fun z => absurd z (by decide)
  · intro d ix t u bs rw a b p q e h0 h1 h2 h3 h4 h5
    exact fun z => absurd z (by decide)
  · intro d ix t y a b p q e h0 h1 h2 h3 h4 h5 h6 h7
    exact fun z => absurd z (by decide)
  · intro d ix t u y z a b p q e h0 h1 h2 h3 h4 h5 h6 h7 h8
    exact fun z => absurd z (by decide)
  · intro d ix t y a b p q e h0 h1 h2 h3 h4 h5 h6 h7 h8
    exact fun z => absurd z (by decide)
  · intro d a b p q e h0 h1 h2 h3
    exact fun z => absurd z (by decide)
  · intro d a b p q e h0 h1 h2 h3
    exact fun z => absurd z (by decide)
  · intro d ix t a b p q e h0 h1 h2 h3 h4 h5
    exact fun z => absurd z (by decide)
  · intro d ix t a b p q e h0 h1 h2 h3 h4 h5
    exact fun z => absurd z (by decide)
  · intro d ix t a b p q e h0 h1 h2 h3 h4 h5
    exact fun z => absurd z (by decide)
  · intro d t y a b p q e h0 h1 h2 h3 h4 h5 h6
    exact fun z => absurd z (by decide)
  · intro d ix t a b p q e h0 h1 h2 h3 h4 h5
    exact fun z => absurd z (by decide)
  · intro d ix iy t u y a b p q e h0 h1 h2 h3 h4 h5 h6 h7 h8 h9
    exact fun z => absurd z (by decide)
  · intro d a b p h0 h1
    exact fun _ => h0
  · intro d t y a b p q e h0 h1 h2 h3
    exact fun _ => h3.2 (by decide)
  · intro d t a b p q e h0 h1 h2 h3 h4
    exact fun z => absurd z (by decide)
theorem lk_8k {s : Nat} {d i l a b p q e : Int} (H : LKn d K T s i l a b p q e) : s = 8 → K p.toNat = 42 := by
  refine lk_ind (fun d s i l a b p q e => s = 8 → K p.toNat = 42) ?_ ?_ ?_ ?_ ?_ ?_ ?_ ?_ ?_ ?_ ?_ ?_ ?_ ?_ ?_ ?_ ?_ ?_ ?_ ?_ ?_ ?_ ?_ ?_ ?_ ?_ ?_ ?_ ?_ ?_ ?_ ?_ ?_ ?_ ?_ ?_ ?_ ?_ H
  · intro d i a b p q e h0 h1
    exact fun z => absurd z (by decide)
  · intro d ix iy iz t u y a b p q e h0 h1 h2 h3 h4 h5 h6 h7 h8 h9 h10
    exact fun z => absurd z (by decide)
  · intro d i l a b p q e h0
    exact fun z => absurd z (by decide)
  · intro d ix iy l s t a b p q e h0 h1 h2 h3 h4 h5 h6
    exact fun z => absurd z (by decide)
  · intro d ix l t a b p q e h0 h1 h2 h3 h4
    exact fun z => absurd z (by decide)
  · intro d ix a b p q e h0 h1 h2 h3
    exact fun z => absurd z (by decide)
  · intro d ix a b p q e h0 h1 h2 h3
    exact fun z => absurd z (by decide)
  · intro d i a b p q e h0 h1
    exact fun z => absurd z (by decide)
  · intro d a b p q e h0 h1 h2
    exact fun z => absurd z (by decide)
  · intro d a b p q e h0 h1 h2 h3
    exact fun z => absurd z (by decide)
  · intro d a b p q e h0 h1 h2 h3 h4
    exact fun z => absurd z (by decide)
  · intro d i t a b p q e h0 h1
    exact fun z => absurd z (by decide)
  · intro d ix t a b p q e h0 h1 h2 h3 h4 h5
    exact fun z => absurd z (by decide)
  · intro d a b p q e h0 h1 h2 h3
    exact fun z => absurd z (by decide)
  · intro d ix t a b p q e h0 h1 h2 h3 h4 h5
    exact fun z => absurd z (by decide)
  · intro d ix t a b p q e h0 h1 h2 h3 h4
    exact fun z => absurd z (by decide)
  · intro d ix t a b p q e h0 h1 h2 h3 h4 h5
    exact fun z => absurd z (by decide)
  · intro d ix iy t u a b p q e h0 h1 h2 h3 h4 h5 h6
    exact fun z => absurd z (by decide)
  · intro d a b p q h0
    exact fun z => absurd z (by decide)
  · intro d a b p q e h0 h1
    exact fun z => absurd z (by decide)
  · intro d ix t a b p q e h0 h1 h2 h3
    exact fun z => absurd z (by decide)
  · intro d ix t a b p q e h0 h1 h2 h3 h4
    exact fun z => absurd z (by decide)
  · intro d a b p q e h0
    exact fun z => absurd z (by decide)
  · intro d ix t u bs rw a b p q e h0 h1 h2 h3 h4 h5
    exact fun z => absurd z (by decide)
  · intro d ix t y a b p q e h0 h1 h2 h3 h4 h5 h6 h7
    exact fun z => absurd z (by decide)
  · intro d ix t u y z a b p q e h0 h1 h2 h3 h4 h5 h6 h7 h8
    exact fun z => absurd z (by decide)
  · intro d ix t y a b p q e h0 h1 h2 h3 h4 h5 h6 h7 h8
    exact fun z => absurd z (by decide)
  · intro d a b p q e h0 h1 h2 h3
    exact fun z => absurd z (by decide)
  · intro d a b p q e h0 h1 h2 h3
    exact fun z => absurd z (by decide)
  · intro d ix t a b p q e h0 h1 h2 h3 h4 h5
    exact fun z => absurd z (by decide)
  · intro d ix t a b p q e h0 h1 h2 h3 h4 h5
    exact fun z => absurd z (by decide)
  · intro d ix t a b p q e h0 h1 h2 h3 h4 h5
    exact fun z => absurd z (by decide)
  · intro d t y a b p q e h0 h1 h2 h3 h4 h5 h6
    exact fun z => absurd z (by decide)
  · intro d ix t a b p q e h0 h1 h2 h3 h4 h5
    exact fun z => absurd z (by decide)
  · intro d ix iy t u y a b p q e h0 h1 h2 h3 h4 h5 h6 h7 h8 h9
    exact fun z => absurd z (by decide)
  · intro d a b p h0 h1
    exact fun z => absurd z (by decide)
  · intro d t y a b p q e h0 h1 h2 h3
    exact fun z => absurd z (by decide)
  · intro d t a b p q e h0 h1 h2 h3 h4
    exact fun _ => h2
end
def SAl (nn : Nat) (X : BCx) : LkT := fun d s i l a b p q e => 0 ≤ d → b ≤ 8999 → ∀ pn qn : Nat, p = (pn : Int) → q = (qn : Int) → (s = 6 → S6 nn X d a b pn qn e) ∧ (s = 7 → S7 nn X d a b pn qn e) ∧ (s = 8 → S8 nn X d a b pn qn e)
section
variable {nn : Nat} {X : BCx}
theorem sl_6 {d a b e : Int} {pn qn : Nat} (H : S6 nn X d a b pn qn e) : ((6 : Nat) = 6 → S6 nn X d a b pn qn e) ∧ ((6 : Nat) = 7 → S7 nn X d a b pn qn e) ∧ ((6 : Nat) = 8 → S8 nn X d a b pn qn e) := ⟨fun _ => H, fun z => absurd z (by decide), fun z => absurd z (by decide)⟩
theorem sl_7 {d a b e : Int} {pn qn : Nat} (H : S7 nn X d a b pn qn e) : ((7 : Nat) = 6 → S6 nn X d a b pn qn e) ∧ ((7 : Nat) = 7 → S7 nn X d a b pn qn e) ∧ ((7 : Nat) = 8 → S8 nn X d a b pn qn e) := ⟨fun z => absurd z (by decide), fun _ => H, fun z => absurd z (by decide)⟩
theorem sl_8 {d a b e : Int} {pn qn : Nat} (H : S8 nn X d a b pn qn e) : ((8 : Nat) = 6 → S6 nn X d a b pn qn e) ∧ ((8 : Nat) = 7 → S7 nn X d a b pn qn e) ∧ ((8 : Nat) = 8 → S8 nn X d a b pn qn e) := ⟨fun z => absurd z (by decide), fun z => absurd z (by decide), fun _ => H⟩
theorem s_all (Y : CXs X) (Wb : BRw X) {s : Nat} {d i l a b p q e : Int} (H : LKn d (bK X) (bT X) s i l a b p q e) : SAl nn X d s i l a b p q e := by
  refine lk_ind (SAl nn X) ?_ ?_ ?_ ?_ ?_ ?_ ?_ ?_ ?_ ?_ ?_ ?_ ?_ ?_ ?_ ?_ ?_ ?_ ?_ ?_ ?_ ?_ ?_ ?_ ?_ ?_ ?_ ?_ ?_ ?_ ?_ ?_ ?_ ?_ ?_ ?_ ?_ ?_ H
  · intro d i a b p q e h0 h1 hd hb pn qn hp hq
    exact ⟨fun z => absurd z (by decide), fun z => absurd z (by decide), fun z => absurd z (by decide)⟩
  · intro d ix iy iz t u y a b p q e h0 h1 h2 h3 h4 h5 h6 h7 h8 h9 h10 hd hb pn qn hp hq
    exact ⟨fun z => absurd z (by decide), fun z => absurd z (by decide), fun z => absurd z (by decide)⟩
  · intro d i l a b p q e h0 hd hb pn qn hp hq
    exact ⟨fun z => absurd z (by decide), fun z => absurd z (by decide), fun z => absurd z (by decide)⟩
  · intro d ix iy l s t a b p q e h0 h1 h2 h3 h4 h5 h6 hd hb pn qn hp hq
    exact ⟨fun z => absurd z (by decide), fun z => absurd z (by decide), fun z => absurd z (by decide)⟩
  · intro d ix l t a b p q e h0 h1 h2 h3 h4 hd hb pn qn hp hq
    exact ⟨fun z => absurd z (by decide), fun z => absurd z (by decide), fun z => absurd z (by decide)⟩
  · intro d ix a b p q e h0 h1 h2 h3 hd hb pn qn hp hq
    exact ⟨fun z => absurd z (by decide), fun z => absurd z (by decide), fun z => absurd z (by decide)⟩
  · intro d ix a b p q e h0 h1 h2 h3 hd hb pn qn hp hq
    exact ⟨fun z => absurd z (by decide), fun z => absurd z (by decide), fun z => absurd z (by decide)⟩
  · intro d i a b p q e h0 h1 hd hb pn qn hp hq
    exact ⟨fun z => absurd z (by decide), fun z => absurd z (by decide), fun z => absurd z (by decide)⟩
  · intro d a b p q e h0 h1 h2 hd hb pn qn hp hq
    exact ⟨fun z => absurd z (by decide), fun z => absurd z (by decide), fun z => absurd z (by decide)⟩
  · intro d a b p q e h0 h1 h2 h3 hd hb pn qn hp hq
    exact ⟨fun z => absurd z (by decide), fun z => absurd z (by decide), fun z => absurd z (by decide)⟩
  · intro d a b p q e h0 h1 h2 h3 h4 hd hb pn qn hp hq
    exact ⟨fun z => absurd z (by decide), fun z => absurd z (by decide), fun z => absurd z (by decide)⟩
  · intro d i t a b p q e h0 h1 hd hb pn qn hp hq
    exact ⟨fun z => absurd z (by decide), fun z => absurd z (by decide), fun z => absurd z (by decide)⟩
  · intro d ix t a b p q e h0 h1 h2 h3 h4 h5 hd hb pn qn hp hq
    exact ⟨fun z => absurd z (by decide), fun z => absurd z (by decide), fun z => absurd z (by decide)⟩
  · intro d a b p q e h0 h1 h2 h3 hd hb pn qn hp hq
    exact ⟨fun z => absurd z (by decide), fun z => absurd z (by decide), fun z => absurd z (by decide)⟩
  · intro d ix t a b p q e h0 h1 h2 h3 h4 h5 hd hb pn qn hp hq
    exact ⟨fun z => absurd z (by decide), fun z => absurd z (by decide), fun z => absurd z (by decide)⟩
  · intro d ix t a b p q e h0 h1 h2 h3 h4 hd hb pn qn hp hq
    exact ⟨fun z => absurd z (by decide), fun z => absurd z (by decide), fun z => absurd z (by decide)⟩
  · intro d ix t a b p q e h0 h1 h2 h3 h4 h5 hd hb pn qn hp hq
    exact ⟨fun z => absurd z (by decide), fun z => absurd z (by decide), fun z => absurd z (by decide)⟩
  · intro d ix iy t u a b p q e h0 h1 h2 h3 h4 h5 h6 hd hb pn qn hp hq
    exact ⟨fun z => absurd z (by decide), fun z => absurd z (by decide), fun z => absurd z (by decide)⟩
  · intro d a b p q h0 hd hb pn qn hp hq
    exact ⟨fun z => absurd z (by decide), fun z => absurd z (by decide), fun z => absurd z (by decide)⟩
  · intro d a b p q e h0 h1 hd hb pn qn hp hq
    exact ⟨fun z => absurd z (by decide), fun z => absurd z (by decide), fun z => absurd z (by decide)⟩
  · intro d ix t a b p q e h0 h1 h2 h3 hd hb pn qn hp hq
    exact ⟨fun z => absurd z (by decide), fun z => absurd z (by decide), fun z => absurd z (by decide)⟩
  · intro d ix t a b p q e h0 h1 h2 h3 h4 hd hb pn qn hp hq
    exact ⟨fun z => absurd z (by decide), fun z => absurd z (by decide), fun z => absurd z (by decide)⟩
  · intro d a b p q e h0 hd hb pn qn hp hq
    have o0 : p + 1 ≤ q := lk_pq h0.1 (by omega)
    have c0 := (h0.2 (by omega) (by omega) pn qn (by omega) (by omega)).2.2 rfl
    exact sl_6 (s6_tb Y ⟨hd, by have := (lk_dp h0.1).1 (by decide) (by decide); omega⟩ (kt_f hp (lk_8k h0.1 rfl)) c0)
  · intro d ix t u bs rw a b p q e h0 h1 h2 h3 h4 h5 hd hb pn qn hp hq
    have tyk := h2.1
    unfold TYk at tyk
    obtain ⟨tn, ht⟩ := ex_n (t := t) (by omega)
    have o3 : (t + 2) + 1 ≤ u := lk_pq h3.1 (by omega)
    obtain ⟨un, hu⟩ := ex_n (t := u) (by omega)
    have c3 := (e_all (nn := nn) Y h3.1 ⟨by omega, fun _ => by omega⟩ (tn + 2) un (by omega) (by omega)).1 rfl
    exact sl_6 (by rw [show qn = un + 1 by omega]; exact s6_tv (t := tn) (uu := un) (rw := rw) (bs := bs) Y Wb h0 hb ⟨hd, by have := (lk_dp h3.1).1 (by decide) (by decide); omega⟩ ⟨h1.1, by omega, by omega, h1.2.2.2.2.1, by omega⟩ (by rw [← hp, ← ht]; exact ⟨h2.1, h2.2.1⟩) ⟨kt_f ht h2.2.2.1, kt_f (p := t + 1) (by omega) h2.2.2.2⟩ c3 (kt_f hu h5.1) (by omega))
  · intro d ix t y a b p q e h0 h1 h2 h3 h4 h5 h6 h7 hd hb pn qn hp hq
    have o4 : (p + 2) + 1 ≤ t := lk_pq h4.1 (by omega)
    obtain ⟨tn, ht⟩ := ex_n (t := t) (by omega)
    have c4 := (e_all (nn := nn) Y h4.1 ⟨by omega, fun _ => by omega⟩ (pn + 2) tn (by omega) (by omega)).1 rfl
    have o7 : (t + 1) + 1 ≤ q := lk_pq h7.1 (by omega)
    have c7 := (h7.2 (by omega) (by omega) (tn + 1) qn (by omega) (by omega)).1 rfl
    exact sl_6 (s6_ti (t := tn) (y0 := y) Y Wb h0 h1 hb ⟨hd, by have := (lk_dp h4.1).1 (by decide) (by decide); omega⟩ ⟨h2.1, h2.2.2⟩ ⟨kt_f hp h3.1, kt_f (p := p + 1) (by omega) h3.2⟩ (lk_rg h4.1 (by decide) (by decide)).2 c4 (by omega) (kt_f ht h6.1) (by omega) (kt_g hq h6.2) c7)
  · intro d ix t u y z a b p q e h0 h1 h2 h3 h4 h5 h6 h7 h8 hd hb pn qn hp hq
    have o4 : (p + 2) + 1 ≤ t := lk_pq h4.1 (by omega)
    obtain ⟨tn, ht⟩ := ex_n (t := t) (by omega)
    have c4 := (e_all (nn := nn) Y h4.1 ⟨by omega, fun _ => by omega⟩ (pn + 2) tn (by omega) (by omega)).1 rfl
    have o7 : (t + 1) + 1 ≤ u := lk_pq h7.1 (by omega)
    obtain ⟨un, hu⟩ := ex_n (t := u) (by omega)
    have c7 := (h7.2 (by omega) (by omega) (tn + 1) un (by omega) (by omega)).1 rfl
    have o8 : (u + 1) + 1 ≤ q := lk_pq h8.1 (by omega)
    have c8 := (h8.2 (by omega) (by omega) (un + 1) qn (by omega) (by omega)).1 rfl
    exact sl_6 (s6_tj (t := tn) (uu := un) (y0 := y) (z0 := z) Y Wb h0 h1 hb ⟨hd, by have := (lk_dp h4.1).1 (by decide) (by decide); omega⟩ ⟨h2.1, by have := (lk_rg h8.1 (by decide) (by decide)); omega⟩ ⟨kt_f hp h3.1, kt_f (p := p + 1) (by omega) h3.2⟩ (lk_rg h4.1 (by decide) (by decide)).2 c4 (by omega) (kt_f ht h6.1) (by omega) (kt_f hu h6.2) c7 c8)
  · intro d ix t y a b p q e h0 h1 h2 h3 h4 h5 h6 h7 h8 hd hb pn qn hp hq
    have o5 : (p + 2) + 1 ≤ t := lk_pq h5.1 (by omega)
    obtain ⟨tn, ht⟩ := ex_n (t := t) (by omega)
    have c5 := (e_all (nn := nn) Y h5.1 ⟨by omega, fun _ => by omega⟩ (pn + 2) tn (by omega) (by omega)).1 rfl
    have o8 : (t + 1) + 1 ≤ q := lk_pq h8.1 (by omega)
    have c8 := (h8.2 (by omega) (by omega) (tn + 1) qn (by omega) (by omega)).1 rfl
    have wt : (bT X 175 e.toNat = 1 ∧ bK X (pn + 2) = 28 ∧ bK X (pn + 3) = 41 ∧ tn = pn + 3 ∧ bT X 167 (bT X 170 e.toNat).toNat = 21) ∨ (bT X 175 e.toNat = 0 ∧ ¬ (bK X (pn + 2) = 28 ∧ bK X (pn + 3) = 41)) := by
      have e2 : bK X (p + 2).toNat = bK X (pn + 2) := kt_e (p := p + 2) (by omega)
      have e3 : bK X (p + 3).toNat = bK X (pn + 3) := kt_e (p := p + 3) (by omega)
      rcases h4 with ⟨y1, y2, y3⟩ | ⟨y1, y2⟩
      · have lt := lk_true h5.1 (by decide) (by omega) y2 (by rw [show p + 2 + 1 = p + 3 by omega]; exact y3)
        rw [e2] at y2
        rw [e3] at y3
        exact .inl ⟨y1, y2, y3, by omega, lt.2.2.1⟩
      · rw [e2, e3] at y2
        exact .inr ⟨y1, y2⟩
    exact sl_6 (s6_tw (t := tn) (y0 := y) Y Wb h0 h1 hb ⟨hd, by have := (lk_dp h5.1).1 (by decide) (by decide); omega⟩ h2.1 ⟨kt_f hp h3.1, kt_f (p := p + 1) (by omega) h3.2⟩ wt (lk_rg h5.1 (by decide) (by decide)).2 c5 (by omega) (kt_f ht h7) c8 (by omega))
  · intro d a b p q e h0 h1 h2 h3 hd hb pn qn hp hq
    exact sl_6 (by rw [show qn = pn + 2 by omega]; exact s6_tl Y Wb h0 hb h3 ⟨by have e := kt_e (K := bK X) hp; rw [e] at h1; exact h1.1, by omega⟩ (kt_f (p := p + 1) (by omega) h2.1))
  · intro d a b p q e h0 h1 h2 h3 hd hb pn qn hp hq
    exact sl_6 (by rw [show qn = pn + 2 by omega]; exact s6_tg Y Wb h0 hb h3 ⟨h1.1, by omega, h1.2.2.2⟩ ⟨kt_f hp h2.1, kt_f (p := p + 1) (by omega) h2.2.1⟩)
  · intro d ix t a b p q e h0 h1 h2 h3 h4 h5 hd hb pn qn hp hq
    have o3 : (p + 1) + 1 ≤ t := lk_pq h3.1 (by omega)
    obtain ⟨tn, ht⟩ := ex_n (t := t) (by omega)
    have c3 := (e_all (nn := nn) Y h3.1 ⟨by omega, fun _ => by omega⟩ (pn + 1) tn (by omega) (by omega)).1 rfl
    exact sl_6 (by rw [show qn = tn + 1 by omega]; exact s6_tr (t := tn) Y Wb h0 hb ⟨hd, by have := (lk_dp h3.1).1 (by decide) (by decide); omega⟩ ⟨h1.1, by omega⟩ ⟨kt_f hp h2.1, kt_g (p := p + 1) (by omega) h2.2⟩ (lk_rg h3.1 (by decide) (by decide)).2.1 c3 (kt_f ht h5.1) (by omega))
  · intro d ix t a b p q e h0 h1 h2 h3 h4 h5 hd hb pn qn hp hq
    have o3 : (p + 1) + 1 ≤ t := lk_pq h3.1 (by omega)
    obtain ⟨tn, ht⟩ := ex_n (t := t) (by omega)
    have c3 := (e_all (nn := nn) Y h3.1 ⟨by omega, fun _ => by omega⟩ (pn + 1) tn (by omega) (by omega)).1 rfl
    exact sl_6 (by rw [show qn = tn + 1 by omega]; exact s6_tt (t := tn) Y Wb h0 hb ⟨hd, by have := (lk_dp h3.1).1 (by decide) (by decide); omega⟩ ⟨h1.1, by omega⟩ (kt_f hp h2) c3 (kt_f ht h5.1) (by omega))
  · intro d ix t a b p q e h0 h1 h2 h3 h4 h5 hd hb pn qn hp hq
    have o3 : (p + 2) + 1 ≤ t := lk_pq h3.1 (by omega)
    obtain ⟨tn, ht⟩ := ex_n (t := t) (by omega)
    have c3 := (e_all (nn := nn) Y h3.1 ⟨by omega, fun _ => by omega⟩ (pn + 2) tn (by omega) (by omega)).1 rfl
    exact sl_6 (by rw [show qn = tn + 2 by omega]; exact s6_tp (t := tn) Y Wb h0 hb ⟨hd, by have := (lk_dp h3.1).1 (by decide) (by decide); omega⟩ ⟨h1.1, by omega⟩ ⟨kt_f hp h2.1, kt_f (p := p + 1) (by omega) h2.2⟩ c3 ⟨kt_f ht h5.1, kt_f (p := t + 1) (by omega) h5.2.1⟩ (by omega))
  · intro d t y a b p q e h0 h1 h2 h3 h4 h5 h6 hd hb pn qn hp hq
    have o4 : (p + 1) + 1 ≤ t := lk_pq h4.1 (by omega)
    obtain ⟨tn, ht⟩ := ex_n (t := t) (by omega)
    have c4 := (h4.2 (by omega) (by omega) (pn + 1) tn (by omega) (by omega)).2.2 rfl
    have o6 : (t + 5) + 1 ≤ q := lk_pq h6.1 (by omega)
    have c6 := (h6.2 (by omega) (by omega) (tn + 5) qn (by omega) (by omega)).2.2 rfl
    exact sl_6 (s6_ty (t := tn) (y0 := y) Y Wb h0 h1 hb ⟨hd, by have := (lk_dp h4.1).1 (by decide) (by decide); omega⟩ ⟨h2.1, by omega, by omega⟩ (kt_f hp h3) ⟨kt_f (p := t + 2) (by omega) h5.2.2.1, kt_f (p := t + 3) (by omega) h5.2.2.2.1, kt_f (p := t + 4) (by omega) h5.2.2.2.2⟩ c4 c6)
  · intro d ix t a b p q e h0 h1 h2 h3 h4 h5 hd hb pn qn hp hq
    have o3 : p + 1 ≤ t := lk_pq h3.1 (by omega)
    obtain ⟨tn, ht⟩ := ex_n (t := t) (by omega)
    have c3 := (e_all (nn := nn) Y h3.1 ⟨by omega, fun _ => by omega⟩ pn tn (by omega) (by omega)).1 rfl
    exact sl_6 (by rw [show qn = tn + 1 by omega]; exact s6_ta (t := tn) Y Wb h0 hb ⟨hd, by have := (lk_dp h3.1).1 (by decide) (by decide); omega⟩ h1.1 (by rw [← hp]; exact h2) (lk_rg h3.1 (by decide) (by decide)).2 c3 ⟨by omega, h4.2⟩ (kt_f ht h5.1) (by omega))
  · intro d ix iy t u y a b p q e h0 h1 h2 h3 h4 h5 h6 h7 h8 h9 hd hb pn qn hp hq
    have o4 : p + 1 ≤ t := lk_pq h4.1 (by omega)
    obtain ⟨tn, ht⟩ := ex_n (t := t) (by omega)
    have c4 := (e_all (nn := nn) Y h4.1 ⟨by omega, fun _ => by omega⟩ pn tn (by omega) (by omega)).1 rfl
    have o7 : (t + 1) + 1 ≤ u := lk_pq h7.1 (by omega)
    obtain ⟨un, hu⟩ := ex_n (t := u) (by omega)
    have c7 := (e_all (nn := nn) Y h7.1 ⟨by omega, fun _ => by omega⟩ (tn + 1) un (by omega) (by omega)).1 rfl
    exact sl_6 (by rw [show qn = un + 1 by omega]; exact s6_te (t := tn) (uu := un) (y0 := y) Y Wb h0 h1 hb ⟨hd, by have := (lk_dp h4.1).1 (by decide) (by decide); omega⟩ ⟨h2.1, by omega⟩ (by rw [← hp]; exact h3) (lk_rg h4.1 (by decide) (by decide)).2 c4 h5.2 (kt_f ht h6) c7 (kt_f hu h9.1) (by omega))
  · intro d a b p h0 h1 hd hb pn qn hp hq
    exact sl_7 (by rw [show qn = pn by omega]; exact s7_ln Y (kt_f hp h0) (jp_lt Y.1 (tb_lt Y.1 (i := pn) (by rw [kt_f hp h0]; decide)) (by rw [kt_f hp h0]; decide)))
  · intro d t y a b p q e h0 h1 h2 h3 hd hb pn qn hp hq
    have o2 : p + 1 ≤ t := lk_pq h2.1 (by omega)
    obtain ⟨tn, ht⟩ := ex_n (t := t) (by omega)
    have c2 := (h2.2 (by omega) (by omega) pn tn (by omega) (by omega)).1 rfl
    have o3 : t ≤ q := lk_pq h3.1 (by omega)
    have c3 := (h3.2 (by omega) (by omega) tn qn (by omega) (by omega)).2.1 rfl
    exact sl_7 (s7_lc (t := tn) (y0 := y) Y (by have := tb_lt Y.1 (i := qn) (by rw [kt_f hq (lk_7q h3.1 rfl)]; decide); omega) h0 (kt_g hp h1) ((lk_bg h2.1 (by decide)).trans hp) c2 c3)
  · intro d t a b p q e h0 h1 h2 h3 h4 hd hb pn qn hp hq
    have o3 : (p + 1) ≤ t := lk_pq h3.1 (by omega)
    obtain ⟨tn, ht⟩ := ex_n (t := t) (by omega)
    have c3 := (h3.2 (by omega) (by omega) (pn + 1) tn (by omega) (by omega)).2.1 rfl
    exact sl_8 (by rw [show qn = tn + 1 by omega]; exact s8_bk (t := tn) Y Wb h0 h1.1 (kt_f hp h2) c3 (kt_f ht h4.1) (by omega))
end
end
section
/- IMAGES: the bytes behind the pool, both sides -/
def CPt (v : Int) (h u : ms_M) : Prop := u 45 7 = h 45 7 + 1 ∧ (h 45 7 < 6000 → u 48 (h 45 7).toNat = oq_b v) ∧ ∀ cc x : Nat, ¬ (cc = 45 ∧ x = 7) → ¬ (cc = 48 ∧ x = (h 45 7).toNat) → u cc x = h cc x
def RTl (v : Int) (m w : ms_M) : Prop := w 160 97 = m 160 97 + 1 ∧ (m 160 97 < 40000 → w 225 (m 160 97).toNat = oq_and v 255) ∧ ∀ cc x : Nat, ¬ (cc = 160 ∧ x = 97) → ¬ (cc = 225 ∧ x = (m 160 97).toNat) → w cc x = m cc x
/-- the bytes told so far, while the pool is not over -/
def BYS (B : Int) (h m : ms_M) : Prop := ((0 ≤ h 45 7 ∧ h 45 7 ≤ B) ∧ 0 ≤ m 160 97 ∧ m 160 97 ≤ B) ∧ (h 45 5 = 0 → h 45 7 = m 160 97 ∧ ∀ x : Nat, (x : Int) < h 45 7 → x < 6000 → m 225 x = h 48 x % 256)
/-- pool, texts and bytes -/
def PBX (X : BCx) (B : Int) (h m : ms_M) : Prop := (PLR h m ∧ MBd m ∧ SPL m []) ∧ TXE (bK X) (bV X) (bC X) (bW X) (bn X) (bA X) (bB X) h m ∧ BYS B h m
/-- what is left as it is where bytes are told -/
def WFc (h u : ms_M) : Prop := (h 45 5 = 1 → u 45 5 = 1) ∧ ∀ cc y : Nat, ¬ (cc = 45 ∧ (y = 4 ∨ y = 5 ∨ y = 7)) → ¬ (46 ≤ cc ∧ cc ≤ 48) → u cc y = h cc y
def WFr (m w : ms_M) : Prop := ∀ cc y : Nat, ¬ (cc = 160 ∧ (y = 62 ∨ y = 64 ∨ y = 66 ∨ y = 97)) → ¬ (200 ≤ cc ∧ cc ≤ 205) → ¬ cc = 225 → w cc y = m cc y
/-- the reference's f does from any memory like m0 what the class has done from h to g -/
def RWq (X : BCx) (B B' : Int) (m0 : ms_M) (f : ms_M → Option ms_M) (h g : ms_M) : Prop := WFc h g ∧ ∀ m, WFr m0 m → PBX X B h m → Pc (f m) (fun w => PBX X B' g w ∧ WFr m0 w)
section
variable {nn : Nat} {X : BCx} {B B' B2 v v2 t x : Int} {h g u g2 m m0 w : ms_M} {f f2 : ms_M → Option ms_M}
theorem c_put {v : Int} (hl : 0 ≤ h 45 7 ∧ h 45 7 ≤ 2000000000) : Pc (qf_X6_put nn v h) (fun u => CPt v h u) := by
  have F : ∀ g : ms_M, g 45 7 = h 45 7 → (h 45 7 < 6000 → g 48 (h 45 7).toNat = oq_b v) → (∀ cc x : Nat, ¬ (cc = 48 ∧ x = (h 45 7).toNat) → g cc x = h cc x) → Pc (qj_X6_put_23 nn g) (fun u => CPt v h u) := fun g g1 g2 g3 => by
    unfold qj_X6_put_23
    refine pc_add (by omega) ?_; intro v2 e2
    refine pc_xl ?_; intro h3 e3
    exact pc_ret ⟨by rw [e3, up_s]; omega, fun q => by rw [e3, up_n (by omega)]; exact g2 q, fun cc x z1 z2 => by rw [e3, up_n z1]; exact g3 cc x z2⟩
  unfold qf_X6_put
  refine pc_if (fun z => F h rfl (fun q => absurd q (by omega)) (fun _ _ _ => rfl)) (fun z => ?_)
  refine pc_xl ?_; intro v9 e9
  refine pc_wB ?_; intro _ _ h10 e10
  exact F h10 (by rw [e10, up_n (by omega)]) (fun _ => by rw [e10, up_s, e9, oq_b_b]) (fun cc x z => by rw [e10, up_n z])
theorem r_tellb {v : Int} (hl : 0 ≤ m 160 97 ∧ m 160 97 ≤ 2000000000) : Pc (qf_X13_tell nn v m) (fun w => RTl v m w) := by
  have F : ∀ g : ms_M, g 160 97 = m 160 97 → (m 160 97 < 40000 → g 225 (m 160 97).toNat = oq_and v 255) → (∀ cc x : Nat, ¬ (cc = 225 ∧ x = (m 160 97).toNat) → g cc x = m cc x) → Pc (qj_X13_tell_26 nn g) (fun w => RTl v m w) := fun g g1 g2 g3 => by
    unfold qj_X13_tell_26
    refine pc_add (by omega) ?_; intro v2 e2
    refine pc_xl ?_; intro h3 e3
    exact pc_ret ⟨by rw [e3, up_s]; omega, fun q => by rw [e3, up_n (by omega)]; exact g2 q, fun cc x z1 z2 => by rw [e3, up_n z1]; exact g3 cc x z2⟩
  unfold qf_X13_tell
  refine pc_if (fun z => F m rfl (fun q => absurd q (by omega)) (fun _ _ _ => rfl)) (fun z => ?_)
  refine pc_xl ?_; intro v7 e7
  refine pc_wA ?_; intro _ _ h8 e8
  exact F h8 (by rw [e8, up_n (by omega)]) (fun _ => by rw [e8, up_s, e7]) (fun cc x z => by rw [e8, up_n z])
theorem oq_b_al {x : Int} : oq_b x = Int.bmod x 256 := by
  unfold oq_b
  rw [Int8.toInt_toInt32, Int32.toInt_toInt8, Int32.toInt_ofInt]
  exact Int.bmod_bmod_of_dvd (by decide)
theorem oq_and_al {x : Int} : oq_and x 255 = x % 256 := by
  unfold oq_and
  have h1 : (Int32.ofInt x &&& Int32.ofInt 255).toInt = (Int32.ofInt x &&& Int32.ofInt 255).toBitVec.toInt := rfl
  rw [h1, Int32.toBitVec_and]
  have h2 : ((Int32.ofInt x).toBitVec &&& (Int32.ofInt 255).toBitVec).toNat = (x % 256).toNat := by
    rw [BitVec.toNat_and]
    have h3 : (Int32.ofInt 255).toBitVec.toNat = 2 ^ 8 - 1 := rfl
    rw [h3, Nat.and_two_pow_sub_one_eq_mod]
    have h4 : (Int32.ofInt x).toBitVec.toNat = (x % 4294967296).toNat := by
      show (BitVec.ofInt 32 x).toNat = _
      rw [BitVec.toNat_ofInt]; rfl
    rw [h4]; omega
  have h5 : (x % 256).toNat < 256 := by omega
  rw [BitVec.toInt_eq_toNat_of_lt (by rw [h2]; omega), h2]
  omega
theorem wfc_r : WFc h h := ⟨id, fun _ _ _ _ => rfl⟩
theorem wfc_t (A : WFc h g) (C : WFc g u) : WFc h u := ⟨fun z => C.1 (A.1 z), fun cc y z1 z2 => (C.2 cc y z1 z2).trans (A.2 cc y z1 z2)⟩
theorem wfr_r : WFr m m := fun _ _ _ _ _ => rfl
theorem wfr_t (A : WFr m0 m) (C : WFr m w) : WFr m0 w := fun cc y z1 z2 z3 => (C cc y z1 z2 z3).trans (A cc y z1 z2 z3)
theorem wfc_p (A : CPt v h u) : WFc h u := ⟨fun z => by rw [A.2.2 45 5 (by omega) (by omega)]; exact z, fun cc y z1 z2 => A.2.2 cc y (by omega) (by omega)⟩
theorem wfr_p (A : RTl v m w) : WFr m w := fun cc y z1 z2 z3 => A.2.2 cc y (by omega) (by omega)
/-- a byte of both sides -/
theorem pbx_p (P : PBX X B h m) (e : h 45 5 = 0 → v % 256 = v2 % 256) (A : CPt v h u) (C : RTl v2 m w) : PBX X (B + 1) u w := by
  obtain ⟨⟨p1, p2, p3⟩, p4, ⟨p5, p6⟩, p7⟩ := P
  obtain ⟨a1, a2, a3⟩ := A
  obtain ⟨c1, c2, c3⟩ := C
  refine ⟨⟨plr_k p1 (fun cc y z => a3 cc y (by omega) (by omega)) (fun cc y z => c3 cc y (by omega) (by omega)), ⟨by rw [c3 160 62 (by omega) (by omega)]; exact p2.1, by rw [c3 160 64 (by omega) (by omega)]; exact p2.2⟩, spl_k p3 (fun cc y z => c3 cc y (by omega) (by omega))⟩, txe_k p4 (fun cc y z => a3 cc y (by omega) (by omega)) (fun cc y z => c3 cc y (by omega) (by omega)), ⟨by omega, by omega⟩, fun o => ?_⟩
  rw [a3 45 5 (by omega) (by omega)] at o
  obtain ⟨q1, q2⟩ := p7 o
  have e3 := e o
  refine ⟨by omega, fun x hx h6 => ?_⟩
  by_cases q : (x : Int) = h 45 7
  · rw [show x = (m 160 97).toNat by omega, c2 (by omega), show (m 160 97).toNat = (h 45 7).toNat by omega, a2 (by omega), oq_and_al, oq_b_al, Int.bmod_def]
    split <;> omega
  · rw [c3 225 x (by omega) (by omega), a3 48 x (by omega) (by omega)]
    exact q2 x (by omega) h6
theorem rw_t (A : RWq X B B' m0 f h g) (C : RWq X B' B2 m0 f2 g g2) : RWq X B B2 m0 (fun m => mx_sv (f m) f2) h g2 := ⟨wfc_t A.1 C.1, fun m W P => pc_sv (A.2 m W P) (fun w y => C.2 w y.2 y.1)⟩
/-- put and tell -/
theorem j_put (l : 0 ≤ h 45 7 ∧ h 45 7 ≤ 1000000000) (hB : B ≤ 1000000000) (e : h 45 5 = 0 → v % 256 = v2 % 256) : Pc (qf_X6_put nn v h) (fun g => RWq X B (B + 1) m0 (fun m => qf_X13_tell nn v2 m) h g ∧ g 45 7 = h 45 7 + 1) := by
  refine pc_imp (c_put (by omega)) (fun g A => ⟨⟨wfc_p A, fun m W P => ?_⟩, A.1⟩)
  have b := P.2.2.1.2
  exact pc_imp (r_tellb (by omega)) (fun w C => ⟨pbx_p P e A C, wfr_t W (wfr_p C)⟩)
theorem j_pair (l : 0 ≤ h 45 7 ∧ h 45 7 ≤ 900000000) (hB : B ≤ 900000000) (ev : v2 = v) : Pc (qf_X6_putPair nn v h) (fun g => RWq X B (B + 2) m0 (fun m => qf_X13_tellPair nn v2 m) h g ∧ g 45 7 = h 45 7 + 2) := by
  unfold qf_X6_putPair qf_X13_tellPair
  rw [ev]
  refine pc_xl ?_; intro v1 e1
  refine pc_sv (j_put (X := X) (m0 := m0) (B := B) (v2 := v1) (by omega) (by omega) (fun _ => rfl)) ?_; intro u3 ⟨R1, l1⟩
  refine pc_sv (j_put (X := X) (m0 := m0) (B := B + 1) (v := v) (v2 := v) (by omega) (by omega) (fun _ => rfl)) ?_; intro u5 ⟨R2, l2⟩
  refine pc_ret ⟨⟨wfc_t R1.1 R2.1, fun m W P => ?_⟩, by omega⟩
  refine pc_xl ?_; intro v1' e1'
  rw [e1', ← e1]
  refine pc_sv (R1.2 m W P) ?_; intro w3 y3
  refine pc_sv (R2.2 w3 y3.2 y3.1) ?_; intro w5 y5
  exact pc_ret ⟨by rw [show B + 2 = B + 1 + 1 by omega]; exact y5.1, y5.2⟩
/-- a constant of the pool on both sides -/
theorem pbx_c {u w : Int × ms_M} (P : PBX X B h m) (C : PCo h m u w) (S : SPL w.2 []) : PBX X B u.2 w.2 := by
  obtain ⟨⟨p1, p2, p3⟩, p4, ⟨p5, p6⟩, p7⟩ := P
  have T := txe_p p4 C
  obtain ⟨x1, x2, x3, x4, x5, x6⟩ := C
  refine ⟨⟨x1, x6, S⟩, T, ⟨by rw [x4 45 7 (by omega) (by omega) (by omega)]; exact p5, by rw [x5 160 97 (by omega) (by omega)]; exact p6⟩, fun o => ?_⟩
  have o' : h 45 5 = 0 := by
    rcases p1 with ⟨y, -⟩ | ⟨y, -⟩
    · exact y
    · have := x3 y; omega
  obtain ⟨q1, q2⟩ := p7 o'
  rw [x4 45 7 (by omega) (by omega) (by omega), x5 160 97 (by omega) (by omega)]
  exact ⟨q1, fun y hy h6 => by rw [x5 225 y (by omega) (by omega), x4 48 y (by omega) (by omega) (by omega)]; exact q2 y hy h6⟩
theorem wfc_c {u : Int × ms_M} (E : ∀ cc y : Nat, ¬ (cc = 45 ∧ (y = 4 ∨ y = 5)) → ¬ cc = 46 → ¬ cc = 47 → u.2 cc y = h cc y) (F : h 45 5 = 1 → u.2 45 5 = 1) : WFc h u.2 := ⟨F, fun cc y z1 z2 => E cc y (by omega) (by omega) (by omega)⟩
end
/-- what is told, as a row: how, the class's number, the reference's -/
abbrev WO : Type := Int × Int × Int
/-- a type of the class -/
def oc_T (nn : Nat) (t : Int) (h : ms_M) : Option ms_M := mx_sv (qf_X4_isNumber nn t h) fun u6 => if u6 = 0 then (if ¬ t = 300 then (mx_sv (qf_X6_put nn 3 h) fun u8 => mx_sv (qf_X6_classOf nn t u8) fun u10 => qf_X6_put nn u10.1 u10.2) else (qf_X6_put nn 2 h)) else (qf_X6_put nn 1 h)
def oc_1 (nn : Nat) (o : WO) (h : ms_M) : Option ms_M := if o.1 = 0 then qf_X6_put nn o.2.1 h else if o.1 = 1 then qf_X6_putPair nn o.2.1 h else if o.1 = 2 then oc_T nn o.2.1 h else mx_sv (qf_X6_classOf nn o.2.1 h) fun u => qf_X6_put nn u.1 u.2
def or_1 (nn : Nat) (o : WO) (m : ms_M) : Option ms_M := if o.1 = 0 then qf_X13_tell nn o.2.2 m else if o.1 = 1 then qf_X13_tellPair nn o.2.2 m else if o.1 = 2 then qf_X13_tellType nn o.2.2 m else mx_sv (qf_X13_classConstant nn o.2.2 m) fun w => qf_X13_tell nn w.1 w.2
def oc_L (nn : Nat) : List WO → ms_M → Option ms_M
  | [], h => some h
  | o :: L, h => mx_sv (oc_1 nn o h) (oc_L nn L)
def or_L (nn : Nat) : List WO → ms_M → Option ms_M
  | [], m => some m
  | o :: L, m => mx_sv (or_1 nn o m) (or_L nn L)
/-- such a row tells the same on both sides -/
def WOk (X : BCx) (h0 : ms_M) (o : WO) : Prop := (o.1 = 0 ∧ (¬ h0 45 5 = 1 → o.2.1 % 256 = o.2.2 % 256)) ∨ (o.1 = 1 ∧ o.2.2 = o.2.1) ∨ (o.1 = 2 ∧ TJ (bn X) o.2.2 o.2.1) ∨ (o.1 = 3 ∧ o.2.2 = ty_T o.2.1 ∧ ((0 ≤ o.2.1 ∧ o.2.1 < 8 + (bn X : Int)) ∨ (100 ≤ o.2.1 ∧ o.2.1 < 108 + (bn X : Int)) ∨ o.2.1 = 200))
section
variable {nn : Nat} {X : BCx} {B B' B2 v v2 t x : Int} {h g u g2 m m0 w h0 : ms_M} {f f2 : ms_M → Option ms_M} {Z : ms_M → Prop}
theorem c_k5 : Pc (qf_X6_constant nn t x h) (fun u => h 45 5 = 1 → u.2 45 5 = 1) := fun u eu z => (c_pfull z nn 1 u eu).1
theorem c_cl5 : Pc (qf_X6_classOf nn t h) (fun u => h 45 5 = 1 → u.2 45 5 = 1) := by
  unfold qf_X6_classOf
  refine pc_se ?_; intro u3 _
  refine pc_sv c_k5 ?_; intro u5 q5
  refine pc_sv c_k5 ?_; intro u7 q7
  exact pc_ret (fun z => q7 (q5 z))
theorem j_cls (Y : CXs X) (l : 0 ≤ h 45 7 ∧ h 45 7 ≤ 1000000000) (hB : B ≤ 900000000) (vt : (0 ≤ t ∧ t < 8 + (bn X : Int)) ∨ (100 ≤ t ∧ t < 108 + (bn X : Int)) ∨ t = 200) : Pc (mx_sv (qf_X6_classOf nn t h) fun u => qf_X6_put nn u.1 u.2) (fun g => RWq X B (B + 1) m0 (fun m => mx_sv (qf_X13_classConstant nn (ty_T t) m) fun w => qf_X13_tell nn w.1 w.2) h g ∧ g 45 7 = h 45 7 + 1) := by
  refine pc_se ?_; intro u eu
  have E := c_clf u eu
  have F5 := c_cl5 u eu
  have l7 := E 45 7 (by omega) (by omega) (by omega)
  refine pc_imp (c_put (v := u.1) (by omega)) (fun g A => ⟨⟨wfc_t (wfc_c E F5) (wfc_p A), fun m W P => ?_⟩, by rw [A.1, l7]⟩)
  refine pc_sv (j_classC Y P.2.1 P.1.2.2 P.1.1 P.1.2.1 vt u eu) ?_; intro w ⟨C, S⟩
  have P2 := pbx_c P C S
  have b := P2.2.2.1.2
  refine pc_imp (r_tellb (v := w.1) (by omega)) (fun w2 T => ⟨pbx_p P2 (fun o => ?_) A T, wfr_t W (wfr_t (fun cc y z1 z2 z3 => C.2.2.2.2.1 cc y (by omega) (by omega)) (wfr_p T))⟩)
  obtain ⟨c1, c2, c3⟩ := C.2.1 o
  rw [c1]
theorem j_typ (Y : CXs X) (l : 0 ≤ h 45 7 ∧ h 45 7 ≤ 900000000) (hB : B ≤ 800000000) (T : TJ (bn X) v2 t) : Pc (oc_T nn t h) (fun g => RWq X B (B + 2) m0 (fun m => qf_X13_tellType nn v2 m) h g ∧ h 45 7 ≤ g 45 7 ∧ g 45 7 ≤ h 45 7 + 2) := by
  obtain ⟨t1, t2, t3⟩ := T
  have n8 := Y.2.2.1
  have tc := ty_c (vtn_v n8 t2)
  have UP : ∀ g w : ms_M, PBX X (B + 1) g w → PBX X (B + 2) g w := fun g w P => ⟨P.1, P.2.1, ⟨by have := P.2.2.1; omega, by have := P.2.2.1; omega⟩, P.2.2.2⟩
  unfold oc_T qf_X13_tellType
  refine pc_sv c_isNum ?_; intro u6 q6
  refine pc_if (fun z => ?_) (fun z => ?_)
  · refine pc_if (fun z3 => ?_) (fun z3 => ?_)
    · have vt : (0 ≤ t ∧ t < 8 + (bn X : Int)) ∨ (100 ≤ t ∧ t < 108 + (bn X : Int)) ∨ t = 200 := by unfold VTn at t2; omega
      refine pc_sv (j_put (X := X) (m0 := m0) (B := B) (v := 3) (v2 := 3) (by omega) (by omega) (fun _ => rfl)) ?_; intro u8 ⟨R1, l1⟩
      refine pc_imp (j_cls (X := X) (m0 := m0) (B := B + 1) Y (by omega) (by omega) vt) (fun g ⟨R2, l2⟩ => ⟨⟨wfc_t R1.1 R2.1, fun m W P => ?_⟩, by omega, by omega⟩)
      refine pc_if (fun _ => ?_) (fun y => absurd (show (1 : Int) < v2 by omega) y)
      refine pc_if (fun _ => ?_) (fun y => absurd (show ¬ v2 = 2 by omega) y)
      unfold qj_X13_tellType_20
      refine pc_sv (R1.2 m W P) ?_; intro w2 y2
      refine pc_if (fun y => absurd y (by omega)) (fun _ => ?_)
      have R := R2.2 w2 y2.2 y2.1
      rw [← t1] at R
      intro r er
      refine (show Pc (mx_sv (qf_X13_classConstant nn v2 w2) fun w => qf_X13_tell nn w.1 w.2) (fun w => PBX X (B + 2) g w ∧ WFr m0 w) by rw [show B + 2 = B + 1 + 1 by omega]; exact R) r ?_
      obtain ⟨a, ea, ef⟩ := sv_i er
      obtain ⟨b, eb, eg⟩ := sv_i ef
      rw [ea]
      show qf_X13_tell nn a.1 a.2 = some r
      rw [eb]; exact eg
    · have e3 : t = 300 := Classical.byContradiction z3
      refine pc_imp (j_put (X := X) (m0 := m0) (B := B) (v := 2) (v2 := 2) (by omega) (by omega) (fun _ => rfl)) (fun g ⟨R1, l1⟩ => ⟨⟨R1.1, fun m W P => ?_⟩, by omega, by omega⟩)
      refine pc_if (fun _ => ?_) (fun y => absurd (show (1 : Int) < v2 by omega) y)
      refine pc_if (fun y => absurd (show v2 = 2 by omega) y) (fun _ => ?_)
      unfold qj_X13_tellType_20
      refine pc_sv (R1.2 m W P) ?_; intro w2 y2
      exact pc_if (fun _ => pc_ret ⟨UP _ _ y2.1, y2.2⟩) (fun y => absurd (show v2 ≤ 2 by omega) y)
  · refine pc_imp (j_put (X := X) (m0 := m0) (B := B) (v := 1) (v2 := 1) (by omega) (by omega) (fun _ => rfl)) (fun g ⟨R1, l1⟩ => ⟨⟨R1.1, fun m W P => ?_⟩, by omega, by omega⟩)
    refine pc_if (fun y => absurd y (by omega)) (fun _ => ?_)
    unfold qj_X13_tellType_20
    refine pc_sv (R1.2 m W P) ?_; intro w2 y2
    exact pc_if (fun _ => pc_ret ⟨UP _ _ y2.1, y2.2⟩) (fun y => absurd (show v2 ≤ 2 by omega) y)
/-- one row -/
theorem j_op1 {o : WO} (Y : CXs X) (l : 0 ≤ h 45 7 ∧ h 45 7 ≤ 900000000) (hB : B ≤ 800000000) (H0 : WFc h0 h) (O : WOk X h0 o) : Pc (oc_1 nn o h) (fun g => RWq X B (B + 2) m0 (or_1 nn o) h g ∧ h 45 7 ≤ g 45 7 ∧ g 45 7 ≤ h 45 7 + 2) := by
  have UP : ∀ g w : ms_M, PBX X (B + 1) g w → PBX X (B + 2) g w := fun g w P => ⟨P.1, P.2.1, ⟨by have := P.2.2.1; omega, by have := P.2.2.1; omega⟩, P.2.2.2⟩
  unfold oc_1 RWq or_1
  rcases O with ⟨o1, o2⟩ | ⟨o1, o3⟩ | ⟨o1, o2⟩ | ⟨o1, o2, o3⟩
  · rw [o1]
    refine pc_if (fun _ => ?_) (fun y => absurd rfl y)
    refine pc_imp (j_put (X := X) (m0 := m0) (B := B) (v2 := o.2.2) (by omega) (by omega) (fun z => o2 (fun y => by have := H0.1 y; omega))) (fun g ⟨R, l1⟩ => ⟨⟨R.1, fun m W P => ?_⟩, by omega, by omega⟩)
    exact pc_if (fun _ => pc_imp (R.2 m W P) (fun w y => ⟨UP _ _ y.1, y.2⟩)) (fun y => absurd rfl y)
  · rw [o1]
    refine pc_if (fun y => absurd y (by decide)) (fun _ => ?_)
    refine pc_if (fun _ => ?_) (fun y => absurd rfl y)
    refine pc_imp (j_pair (X := X) (m0 := m0) (B := B) (v2 := o.2.2) (by omega) (by omega) o3) (fun g ⟨R, l1⟩ => ⟨⟨R.1, fun m W P => ?_⟩, by omega, by omega⟩)
    refine pc_if (fun y => absurd y (by decide)) (fun _ => ?_)
    exact pc_if (fun _ => R.2 m W P) (fun y => absurd rfl y)
  · rw [o1]
    refine pc_if (fun y => absurd y (by decide)) (fun _ => ?_)
    refine pc_if (fun y => absurd y (by decide)) (fun _ => ?_)
    refine pc_if (fun _ => ?_) (fun y => absurd rfl y)
    refine pc_imp (j_typ (X := X) (m0 := m0) (B := B) Y (by omega) (by omega) o2) (fun g ⟨R, l1⟩ => ⟨⟨R.1, fun m W P => ?_⟩, by omega, by omega⟩)
    refine pc_if (fun y => absurd y (by decide)) (fun _ => ?_)
    refine pc_if (fun y => absurd y (by decide)) (fun _ => ?_)
    exact pc_if (fun _ => R.2 m W P) (fun y => absurd rfl y)
  · rw [o1]
    refine pc_if (fun y => absurd y (by decide)) (fun _ => ?_)
    refine pc_if (fun y => absurd y (by decide)) (fun _ => ?_)
    refine pc_if (fun y => absurd y (by decide)) (fun _ => ?_)
    refine pc_imp (j_cls (X := X) (m0 := m0) (B := B) Y (by omega) (by omega) o3) (fun g ⟨R, l1⟩ => ⟨⟨R.1, fun m W P => ?_⟩, by omega, by omega⟩)
    refine pc_if (fun y => absurd y (by decide)) (fun _ => ?_)
    refine pc_if (fun y => absurd y (by decide)) (fun _ => ?_)
    refine pc_if (fun y => absurd y (by decide)) (fun _ => ?_)
    rw [o2]
    exact pc_imp (R.2 m W P) (fun w y => ⟨UP _ _ y.1, y.2⟩)
/-- all rows -/
theorem j_opL (Y : CXs X) : ∀ (L : List WO) (B : Int) (h : ms_M), 0 ≤ h 45 7 → h 45 7 + 2 * (L.length : Int) ≤ 900000000 → B + 2 * (L.length : Int) ≤ 800000000 → WFc h0 h → (∀ o ∈ L, WOk X h0 o) → Pc (oc_L nn L h) (fun g => RWq X B (B + 2 * (L.length : Int)) m0 (or_L nn L) h g ∧ h 45 7 ≤ g 45 7 ∧ g 45 7 ≤ h 45 7 + 2 * (L.length : Int)) := by
  intro L
  induction L with
  | nil =>
    intro B h l1 l2 l3 H0 O
    exact pc_ret ⟨⟨wfc_r, fun m W P => pc_ret ⟨by show PBX X (B + 2 * ((0 : Nat) : Int)) h m; rw [show B + 2 * ((0 : Nat) : Int) = B by omega]; exact P, W⟩⟩, Int.le_refl _, by show h 45 7 ≤ h 45 7 + 2 * ((0 : Nat) : Int); omega⟩
  | cons o L ih =>
    intro B h l1 l2 l3 H0 O
    have ll : ((o :: L).length : Int) = (L.length : Int) + 1 := by rw [List.length_cons]; omega
    rw [ll] at l2 l3 ⊢
    show Pc (mx_sv (oc_1 nn o h) (oc_L nn L)) _
    refine pc_sv (j_op1 (X := X) (m0 := m0) (B := B) Y (by omega) (by omega) H0 (O o List.mem_cons_self)) ?_; intro g ⟨R1, g1, g2⟩
    refine pc_imp (ih (B + 2) g (by omega) (by omega) (by omega) (wfc_t H0 R1.1) (fun p hp => O p (List.mem_cons_of_mem _ hp))) (fun u ⟨R2, u1, u2⟩ => ⟨?_, by omega, by omega⟩)
    have R := rw_t R1 R2
    rw [show B + 2 + 2 * (L.length : Int) = B + 2 * ((L.length : Int) + 1) by omega] at R
    exact R
end
end
section
/- IMAGES: what a method tells, as rows -/
def sq_L {α : Type} (F : Nat → List α) : Nat → Nat → List α
  | _, 0 => []
  | j, n + 1 => F j ++ sq_L F (j + 1) n
/-- a FRAME: the class's row s, the reference's row f -/
def fr_O (h m : ms_M) (s f : Nat) : List WO := (1, h 40 s, m 208 f) :: (0, h 41 (52 * s), m 210 f) :: (sq_L (fun i => [(2, h 41 (52 * s + 2 + i), m 212 ((m 209 f).toNat + i))]) 0 (m 210 f).toNat ++ ((0, h 41 (52 * s + 1), m 211 f) :: sq_L (fun i => [(2, h 41 (52 * s + 2 + i), m 212 ((m 209 f).toNat + i))]) (m 210 f).toNat (m 211 f).toNat))
def fr_L (h m : ms_M) (fi : Nat → Nat) : Nat → Nat → List WO := sq_L (fun i => fr_O h m (h 42 i).toNat (fi i))
def hd_L (h m : ms_M) : Nat → Nat → List WO := sq_L (fun k => [(1, h 39 (4 * k), m 213 k), (1, h 39 (4 * k + 1), m 214 k), (1, h 39 (4 * k + 2), m 215 k), (3, h 39 (4 * k + 3), m 216 k)])
def cd_L (h m : ms_M) : Nat → Nat → List WO := sq_L (fun x => [(0, h 35 x, m 206 x)])
def mt_L (h m : ms_M) (l4 : Int) (fi : Nat → Nat) : List WO := (0, h 34 4, m 160 71) :: (0, h 34 8, l4) :: (1, h 34 1, m 160 68) :: (cd_L h m 0 (h 34 1).toNat ++ ((0, h 34 10, m 160 84) :: (hd_L h m 0 (h 34 10).toNat ++ ((0, h 34 14, m 160 78) :: fr_L h m fi 0 (h 34 14).toNat))))
section
variable {nn : Nat} {X : BCx} {v v2 t x : Int} {h g u m m0 w h0 : ms_M} {Z : ms_M → Prop} {L R : List WO}
theorem sv_mk {α β : Type} {x : Option α} {F : α → Option β} {a : α} {r : β} (e : x = some a) (f : F a = some r) : mx_sv x F = some r := by rw [e]; exact f
theorem c_ptf : Pc (qf_X6_put nn v h) (fun u => WFc h u) := fun u eu => ⟨fun z => (show u 45 5 = h 45 5 from ff_X6_put nn u eu 45 5 rfl).trans z, fun cc y z1 z2 => ff_X6_put nn u eu cc y (nw_of (by unfold wl_X6_put; simp only [List.mem_cons, List.not_mem_nil, or_false]; omega) (by unfold wf_X6_put; simp only [List.mem_cons, List.not_mem_nil, or_false, Prod.mk.injEq]; omega))⟩
theorem c_prf : Pc (qf_X6_putPair nn v h) (fun u => WFc h u) := fun u eu => ⟨fun z => (show u 45 5 = h 45 5 from ff_X6_putPair nn u eu 45 5 rfl).trans z, fun cc y z1 z2 => ff_X6_putPair nn u eu cc y (nw_of (by unfold wl_X6_putPair; simp only [List.mem_cons, List.not_mem_nil, or_false]; omega) (by unfold wf_X6_putPair; simp only [List.mem_cons, List.not_mem_nil, or_false, Prod.mk.injEq]; omega))⟩
theorem r_tlf : Pc (qf_X13_tell nn v m) (fun w => WFr m w) := fun u eu cc y z1 z2 z3 => ff_X13_tell nn u eu cc y (nw_of (by unfold wl_X13_tell; simp only [List.mem_cons, List.not_mem_nil, or_false]; omega) (by unfold wf_X13_tell; simp only [List.mem_cons, List.not_mem_nil, or_false, Prod.mk.injEq]; omega))
theorem r_tpf : Pc (qf_X13_tellPair nn v m) (fun w => WFr m w) := fun u eu cc y z1 z2 z3 => ff_X13_tellPair nn u eu cc y (nw_of (by unfold wl_X13_tellPair; simp only [List.mem_cons, List.not_mem_nil, or_false]; omega) (by unfold wf_X13_tellPair; simp only [List.mem_cons, List.not_mem_nil, or_false, Prod.mk.injEq]; omega))
theorem r_ttf : Pc (qf_X13_tellType nn v m) (fun w => WFr m w) := fun u eu cc y z1 z2 z3 => ff_X13_tellType nn u eu cc y (nw_of (by unfold wl_X13_tellType; simp only [List.mem_cons, List.not_mem_nil, or_false]; omega) (by unfold wf_X13_tellType; simp only [List.mem_cons, List.not_mem_nil, or_false, Prod.mk.injEq]; omega))
theorem r_ccf : Pc (qf_X13_classConstant nn v m) (fun w => WFr m w.2) := fun u eu cc y z1 z2 z3 => ff_X13_classConstant nn u eu cc y (nw_of (by unfold wl_X13_classConstant; simp only [List.mem_cons, List.not_mem_nil, or_false]; omega) (by unfold wf_X13_classConstant; simp only [List.mem_cons, List.not_mem_nil, or_false, Prod.mk.injEq]; omega))
theorem c_ccf : Pc (qf_X6_classOf nn t h) (fun u => WFc h u.2) := fun u eu => wfc_c (c_clf u eu) (c_cl5 u eu)
theorem oc_wf {o : WO} : Pc (oc_1 nn o h) (fun u => WFc h u) := by
  unfold oc_1
  refine pc_if (fun _ => c_ptf) (fun _ => ?_)
  refine pc_if (fun _ => c_prf) (fun _ => ?_)
  refine pc_if (fun _ => ?_) (fun _ => ?_)
  · unfold oc_T
    refine pc_se ?_; intro u6 _
    refine pc_if (fun _ => ?_) (fun _ => c_ptf)
    refine pc_if (fun _ => ?_) (fun _ => c_ptf)
    refine pc_sv c_ptf ?_; intro u8 q8
    refine pc_sv c_ccf ?_; intro u10 q10
    exact pc_imp c_ptf (fun u q => wfc_t q8 (wfc_t q10 q))
  · refine pc_sv c_ccf ?_; intro u10 q10
    exact pc_imp c_ptf (fun u q => wfc_t q10 q)
theorem or_wf {o : WO} : Pc (or_1 nn o m) (fun w => WFr m w) := by
  unfold or_1
  refine pc_if (fun _ => r_tlf) (fun _ => ?_)
  refine pc_if (fun _ => r_tpf) (fun _ => ?_)
  refine pc_if (fun _ => r_ttf) (fun _ => ?_)
  refine pc_sv r_ccf ?_; intro u10 q10
  exact pc_imp r_tlf (fun u q => wfr_t q10 q)
theorem oc_in {o : WO} (H : Pc (oc_L nn (o :: L) h) Z) (H0 : WFc h0 h) : Pc (oc_1 nn o h) (fun u => Pc (oc_L nn L u) Z ∧ WFc h0 u) := fun u eu => ⟨fun r er => H r (sv_mk eu er), wfc_t H0 (oc_wf u eu)⟩
theorem or_in {o : WO} (H : Pc (or_L nn (o :: L) m) Z) (H0 : WFr m0 m) : Pc (or_1 nn o m) (fun u => Pc (or_L nn L u) Z ∧ WFr m0 u) := fun u eu => ⟨fun r er => H r (sv_mk eu er), wfr_t H0 (or_wf u eu)⟩
theorem oc_i0 (H : Pc (oc_L nn ((0, v, v2) :: L) h) Z) (H0 : WFc h0 h) : Pc (qf_X6_put nn v h) (fun u => Pc (oc_L nn L u) Z ∧ WFc h0 u) := by
  have y := oc_in H H0
  unfold oc_1 at y
  rw [if_pos rfl] at y
  exact y
theorem oc_i1 (H : Pc (oc_L nn ((1, v, v2) :: L) h) Z) (H0 : WFc h0 h) : Pc (qf_X6_putPair nn v h) (fun u => Pc (oc_L nn L u) Z ∧ WFc h0 u) := by
  have y := oc_in H H0
  unfold oc_1 at y
  rw [if_neg (show ¬ (1 : Int) = 0 by decide), if_pos rfl] at y
  exact y
theorem oc_i2 (H : Pc (oc_L nn ((2, v, v2) :: L) h) Z) (H0 : WFc h0 h) : Pc (oc_T nn v h) (fun u => Pc (oc_L nn L u) Z ∧ WFc h0 u) := by
  have y := oc_in H H0
  unfold oc_1 at y
  rw [if_neg (show ¬ (2 : Int) = 0 by decide), if_neg (show ¬ (2 : Int) = 1 by decide), if_pos rfl] at y
  exact y
theorem oc_i3 {α : Type} {Q : α → Prop} {K : ms_M → Option α} (H : Pc (oc_L nn ((3, v, v2) :: L) h) Z) (H0 : WFc h0 h) (HK : ∀ u, Pc (oc_L nn L u) Z → WFc h0 u → Pc (K u) Q) : Pc (mx_sv (qf_X6_classOf nn v h) fun u31 => mx_sv (qf_X6_put nn u31.1 u31.2) K) Q := by
  have y := oc_in H H0
  unfold oc_1 at y
  rw [if_neg (show ¬ (3 : Int) = 0 by decide), if_neg (show ¬ (3 : Int) = 1 by decide), if_neg (show ¬ (3 : Int) = 2 by decide)] at y
  refine pc_se ?_; intro a ea
  refine pc_se ?_; intro b eb
  obtain ⟨y1, y2⟩ := y b (sv_mk ea eb)
  exact HK b y1 y2
theorem oc_Tk {α : Type} {Q : α → Prop} {K : ms_M → Option α} {P : ms_M → Prop} (HT : Pc (oc_T nn t h) P) (HK : ∀ u, P u → Pc (K u) Q) : Pc (mx_sv (qf_X4_isNumber nn t h) fun u6 => if u6 = 0 then (if ¬ t = 300 then (mx_sv (qf_X6_put nn 3 h) fun u8 => mx_sv (qf_X6_classOf nn t u8) fun u10 => mx_sv (qf_X6_put nn u10.1 u10.2) K) else (mx_sv (qf_X6_put nn 2 h) K)) else (mx_sv (qf_X6_put nn 1 h) K)) Q := by
  unfold oc_T at HT
  refine pc_se ?_; intro u6 e6
  refine pc_if (fun z => ?_) (fun z => ?_)
  · refine pc_if (fun z3 => ?_) (fun z3 => ?_)
    · refine pc_se ?_; intro u8 e8
      refine pc_se ?_; intro u10 e10
      refine pc_se ?_; intro u12 e12
      refine HK u12 (HT u12 (sv_mk e6 ?_))
      rw [if_pos z, if_pos z3]
      exact sv_mk e8 (sv_mk e10 e12)
    · refine pc_se ?_; intro u12 e12
      refine HK u12 (HT u12 (sv_mk e6 ?_))
      rw [if_pos z, if_neg z3]
      exact e12
  · refine pc_se ?_; intro u12 e12
    refine HK u12 (HT u12 (sv_mk e6 ?_))
    rw [if_neg z]
    exact e12
theorem or_i0 (H : Pc (or_L nn ((0, v, v2) :: L) m) Z) (H0 : WFr m0 m) : Pc (qf_X13_tell nn v2 m) (fun u => Pc (or_L nn L u) Z ∧ WFr m0 u) := by
  have y := or_in H H0
  unfold or_1 at y
  rw [if_pos rfl] at y
  exact y
theorem or_i1 (H : Pc (or_L nn ((1, v, v2) :: L) m) Z) (H0 : WFr m0 m) : Pc (qf_X13_tellPair nn v2 m) (fun u => Pc (or_L nn L u) Z ∧ WFr m0 u) := by
  have y := or_in H H0
  unfold or_1 at y
  rw [if_neg (show ¬ (1 : Int) = 0 by decide), if_pos rfl] at y
  exact y
theorem or_i2 (H : Pc (or_L nn ((2, v, v2) :: L) m) Z) (H0 : WFr m0 m) : Pc (qf_X13_tellType nn v2 m) (fun u => Pc (or_L nn L u) Z ∧ WFr m0 u) := by
  have y := or_in H H0
  unfold or_1 at y
  rw [if_neg (show ¬ (2 : Int) = 0 by decide), if_neg (show ¬ (2 : Int) = 1 by decide), if_pos rfl] at y
  exact y
theorem or_i3 {α : Type} {Q : α → Prop} {K : ms_M → Option α} (H : Pc (or_L nn ((3, v, v2) :: L) m) Z) (H0 : WFr m0 m) (HK : ∀ u, Pc (or_L nn L u) Z → WFr m0 u → Pc (K u) Q) : Pc (mx_sv (qf_X13_classConstant nn v2 m) fun u74 => mx_sv (qf_X13_tell nn u74.1 u74.2) K) Q := by
  have y := or_in H H0
  unfold or_1 at y
  rw [if_neg (show ¬ (3 : Int) = 0 by decide), if_neg (show ¬ (3 : Int) = 1 by decide), if_neg (show ¬ (3 : Int) = 2 by decide)] at y
  refine pc_se ?_; intro a ea
  refine pc_se ?_; intro b eb
  obtain ⟨y1, y2⟩ := y b (sv_mk ea eb)
  exact HK b y1 y2
/-- types of the class -/
theorem c_wT {G : Nat → Int} {l2 l3 : Int} {b0 : Nat} : ∀ (n j fuel : Nat) (h : ms_M) (l4 : Int), WFc h0 h → l4 = ((b0 + j : Nat) : Int) → l2 + l3 = ((b0 + j + n : Nat) : Int) → (0 ≤ l2 ∧ 0 ≤ l3 ∧ l2 + l3 ≤ 5200) → Pc (oc_L nn (sq_L (fun i => [(2, h0 41 (b0 + i), G i)]) j n ++ R) h) Z → Pc (qw_X1_writeTypes_3 nn fuel l2 l3 l4 h) (fun u => Pc (oc_L nn R u) Z ∧ WFc h0 u) := by
  intro n
  induction n with
  | zero =>
    intro j fuel h l4 H0 e4 e5 bl H
    cases fuel with
    | zero => exact fun _ z => nomatch z
    | succ fuel =>
      unfold qw_X1_writeTypes_3
      refine pc_add (by omega) ?_; intro v1 e1
      exact pc_if (fun _ => pc_ret ⟨H, H0⟩) (fun z => absurd (show v1 ≤ l4 by omega) z)
  | succ n ih =>
    intro j fuel h l4 H0 e4 e5 bl H
    cases fuel with
    | zero => exact fun _ z => nomatch z
    | succ fuel =>
      unfold qw_X1_writeTypes_3
      refine pc_add (by omega) ?_; intro v1 e1
      refine pc_if (fun z => absurd z (by omega)) (fun _ => ?_)
      refine pc_if (fun z => absurd z (by omega)) (fun _ => ?_)
      refine pc_rA ?_; intro _ _ v5 e5'
      rw [H0.2 41 _ (by omega) (by omega), show l4.toNat = b0 + j by omega] at e5'
      rw [e5']
      have HT := oc_i2 (L := sq_L (fun i => [(2, h0 41 (b0 + i), G i)]) (j + 1) n ++ R) H H0
      refine oc_Tk (K := fun u12 => xl (oq_add l4 1) fun v13 => qw_X1_writeTypes_3 nn fuel l2 l3 v13 u12) HT (fun u q => ?_)
      refine pc_add (by omega) ?_; intro v13 e13
      exact ih (j + 1) fuel u v13 q.2 (by omega) (by omega) bl q.1
/-- a FRAME of the class -/
theorem c_wF {s f : Nat} {a2 : Int} (H0 : WFc h0 h) (ea : a2 = (s : Int)) (s1 : s < 100) (bl : (0 ≤ m0 210 f ∧ m0 210 f ≤ 30) ∧ 0 ≤ m0 211 f ∧ m0 211 f ≤ 20) (e1 : m0 210 f = h0 41 (52 * s) ∧ m0 211 f = h0 41 (52 * s + 1)) (H : Pc (oc_L nn (fr_O h0 m0 s f ++ R) h) Z) : Pc (qf_X1_writeFrame nn a2 h) (fun u => Pc (oc_L nn R u) Z ∧ WFc h0 u) := by
  unfold fr_O at H
  rw [List.cons_append, List.cons_append, List.append_assoc, List.cons_append] at H
  unfold qf_X1_writeFrame
  refine pc_xl ?_; intro v1 e1'
  rw [oq_mul_eq (by omega) (by omega) (by omega)] at e1'
  refine pc_rA ?_; intro _ _ v3 e3
  rw [H0.2 41 _ (by omega) (by omega), show v1.toNat = 52 * s by omega] at e3
  refine pc_add (by omega) ?_; intro v5 e5
  refine pc_rA ?_; intro _ _ v6 e6
  rw [H0.2 41 _ (by omega) (by omega), show v5.toNat = 52 * s + 1 by omega] at e6
  refine pc_rA ?_; intro _ _ v8 e8
  rw [H0.2 40 _ (by omega) (by omega), show a2.toNat = s by omega] at e8
  rw [e8]
  refine pc_sv (oc_i1 H H0) ?_; intro u10 ⟨H10, W10⟩
  rw [e3]
  refine pc_sv (oc_i0 H10 W10) ?_; intro u12 ⟨H12, W12⟩
  refine pc_add (by omega) ?_; intro v13 e13
  refine pc_sv (c_wT (b0 := 52 * s + 2) (m0 210 f).toNat 0 nn u12 v13 W12 (by omega) (by omega) (by omega) H12) ?_; intro u15 ⟨H15, W15⟩
  rw [e6]
  refine pc_sv (oc_i0 H15 W15) ?_; intro u17 ⟨H17, W17⟩
  refine pc_add (by omega) ?_; intro v18 e18
  refine pc_add (by omega) ?_; intro v19 e19
  refine pc_sv (c_wT (b0 := 52 * s + 2) (m0 211 f).toNat (m0 210 f).toNat nn u17 v19 W17 (by omega) (by omega) (by omega) H17) ?_; intro u21 q21
  exact pc_ret q21
/-- all FRAMES of the class -/
theorem c_w147 {fi : Nat → Nat} (FB : ∀ i : Nat, (i : Int) < h0 34 14 → (0 ≤ h0 42 i ∧ h0 42 i < 100) ∧ ((0 ≤ m0 210 (fi i) ∧ m0 210 (fi i) ≤ 30) ∧ 0 ≤ m0 211 (fi i) ∧ m0 211 (fi i) ≤ 20) ∧ m0 210 (fi i) = h0 41 (52 * (h0 42 i).toNat) ∧ m0 211 (fi i) = h0 41 (52 * (h0 42 i).toNat + 1)) (b14 : 0 ≤ h0 34 14 ∧ h0 34 14 ≤ 100) : ∀ (n j fuel : Nat) (h : ms_M), WFc h0 h → ((j + n : Nat) : Int) = h0 34 14 → Pc (oc_L nn (fr_L h0 m0 fi j n) h) Z → Pc (qw_X1_writeTo_147 nn fuel (j : Int) h) (fun u => Z u) := by
  intro n
  induction n with
  | zero =>
    intro j fuel h H0 e H
    cases fuel with
    | zero => exact fun _ z => nomatch z
    | succ fuel =>
      unfold qw_X1_writeTo_147
      rw [H0.2 34 14 (by omega) (by omega)]
      exact pc_if (fun _ => H) (fun z => absurd (show h0 34 14 ≤ (j : Int) by omega) z)
  | succ n ih =>
    intro j fuel h H0 e H
    cases fuel with
    | zero => exact fun _ z => nomatch z
    | succ fuel =>
      unfold qw_X1_writeTo_147
      rw [H0.2 34 14 (by omega) (by omega)]
      refine pc_if (fun z => absurd z (by omega)) (fun _ => ?_)
      refine pc_rA ?_; intro _ _ v3 e3
      rw [H0.2 42 _ (by omega) (by omega), Int.toNat_natCast] at e3
      obtain ⟨f1, f2, f3⟩ := FB j (by omega)
      refine pc_sv (c_wF (R := fr_L h0 m0 fi (j + 1) n) (s := (h0 42 j).toNat) (f := fi j) H0 (by omega) (by omega) f2 f3 H) ?_; intro u5 ⟨H5, W5⟩
      refine pc_add (by omega) ?_; intro v6 e6
      rw [show v6 = ((j + 1 : Nat) : Int) by omega]
      exact ih (j + 1) fuel u5 W5 (by omega) H5
theorem c_w69 (b10 : 0 ≤ h0 34 10 ∧ h0 34 10 ≤ 20) (HR : ∀ u, WFc h0 u → Pc (oc_L nn R u) Z → Pc (mx_sv (qf_X6_put nn (u 34 14) u) fun u11 => qw_X1_writeTo_147 nn nn 0 u11) Z) : ∀ (n j fuel : Nat) (h : ms_M), WFc h0 h → ((j + n : Nat) : Int) = h0 34 10 → Pc (oc_L nn (hd_L h0 m0 j n ++ R) h) Z → Pc (qw_X1_writeTo_69 nn fuel (j : Int) h) Z := by
  intro n
  induction n with
  | zero =>
    intro j fuel h H0 e H
    cases fuel with
    | zero => exact fun _ z => nomatch z
    | succ fuel =>
      unfold qw_X1_writeTo_69
      have e10 := H0.2 34 10 (by omega) (by omega)
      exact pc_if (fun _ => HR h H0 H) (fun z => absurd (show h 34 10 ≤ (j : Int) by omega) z)
  | succ n ih =>
    intro j fuel h H0 e H
    cases fuel with
    | zero => exact fun _ z => nomatch z
    | succ fuel =>
      unfold qw_X1_writeTo_69
      have e10 := H0.2 34 10 (by omega) (by omega)
      refine pc_if (fun z => absurd z (by omega)) (fun _ => ?_)
      refine pc_xl ?_; intro v12 e12
      rw [oq_mul_eq (by omega) (by omega) (by omega)] at e12
      refine pc_rA ?_; intro _ _ v14 e14
      rw [H0.2 39 _ (by omega) (by omega), show v12.toNat = 4 * j by omega] at e14
      rw [e14]
      have H1 : Pc (oc_L nn ((1, h0 39 (4 * j), m0 213 j) :: (1, h0 39 (4 * j + 1), m0 214 j) :: (1, h0 39 (4 * j + 2), m0 215 j) :: (3, h0 39 (4 * j + 3), m0 216 j) :: (hd_L h0 m0 (j + 1) n ++ R)) h) Z := H
      refine pc_sv (oc_i1 H1 H0) ?_; intro u16 ⟨H16, W16⟩
      refine pc_add (by omega) ?_; intro v18 e18
      refine pc_rA ?_; intro _ _ v19 e19
      rw [W16.2 39 _ (by omega) (by omega), show v18.toNat = 4 * j + 1 by omega] at e19
      rw [e19]
      refine pc_sv (oc_i1 H16 W16) ?_; intro u21 ⟨H21, W21⟩
      refine pc_add (by omega) ?_; intro v23 e23
      refine pc_rA ?_; intro _ _ v24 e24
      rw [W21.2 39 _ (by omega) (by omega), show v23.toNat = 4 * j + 2 by omega] at e24
      rw [e24]
      refine pc_sv (oc_i1 H21 W21) ?_; intro u26 ⟨H26, W26⟩
      refine pc_add (by omega) ?_; intro v28 e28
      refine pc_rA ?_; intro _ _ v29 e29
      rw [W26.2 39 _ (by omega) (by omega), show v28.toNat = 4 * j + 3 by omega] at e29
      rw [e29]
      refine oc_i3 (K := fun u33 => xl (oq_add (j : Int) 1) fun v34 => qw_X1_writeTo_69 nn fuel v34 u33) H26 W26 (fun u33 H33 W33 => ?_)
      refine pc_add (by omega) ?_; intro v34 e34
      rw [show v34 = ((j + 1 : Nat) : Int) by omega]
      exact ih (j + 1) fuel u33 W33 (by omega) H33
theorem c_w26 (b1 : 0 ≤ h0 34 1 ∧ h0 34 1 ≤ 1500) (HR : ∀ u, WFc h0 u → Pc (oc_L nn R u) Z → Pc (qj_X1_writeTo_59 nn u) Z) : ∀ (n j fuel : Nat) (h : ms_M), WFc h0 h → ((j + n : Nat) : Int) = h0 34 1 → Pc (oc_L nn (cd_L h0 m0 j n ++ R) h) Z → Pc (qw_X1_writeTo_26 nn fuel (j : Int) h) Z := by
  intro n
  induction n with
  | zero =>
    intro j fuel h H0 e H
    cases fuel with
    | zero => exact fun _ z => nomatch z
    | succ fuel =>
      unfold qw_X1_writeTo_26
      have e10 := H0.2 34 1 (by omega) (by omega)
      exact pc_if (fun _ => HR h H0 H) (fun z => absurd (show h 34 1 ≤ (j : Int) by omega) z)
  | succ n ih =>
    intro j fuel h H0 e H
    cases fuel with
    | zero => exact fun _ z => nomatch z
    | succ fuel =>
      unfold qw_X1_writeTo_26
      have e10 := H0.2 34 1 (by omega) (by omega)
      refine pc_if (fun z => absurd z (by omega)) (fun _ => ?_)
      refine pc_if (fun z => absurd z (by omega)) (fun _ => ?_)
      refine pc_rA ?_; intro _ _ v43 e43
      rw [H0.2 35 _ (by omega) (by omega), Int.toNat_natCast] at e43
      rw [e43]
      have H1 : Pc (oc_L nn ((0, h0 35 j, m0 206 j) :: (cd_L h0 m0 (j + 1) n ++ R)) h) Z := H
      refine pc_sv (oc_i0 H1 H0) ?_; intro u45 ⟨H45, W45⟩
      refine pc_add (by omega) ?_; intro v46 e46
      rw [show v46 = ((j + 1 : Nat) : Int) by omega]
      exact ih (j + 1) fuel u45 W45 (by omega) H45
/-- writeTo is the rows -/
theorem c_writeTo {l4 : Int} {fi : Nat → Nat} (b1 : 0 ≤ h0 34 1 ∧ h0 34 1 ≤ 1500) (b10 : 0 ≤ h0 34 10 ∧ h0 34 10 ≤ 20) (b14 : 0 ≤ h0 34 14 ∧ h0 34 14 ≤ 100) (FB : ∀ i : Nat, (i : Int) < h0 34 14 → (0 ≤ h0 42 i ∧ h0 42 i < 100) ∧ ((0 ≤ m0 210 (fi i) ∧ m0 210 (fi i) ≤ 30) ∧ 0 ≤ m0 211 (fi i) ∧ m0 211 (fi i) ≤ 20) ∧ m0 210 (fi i) = h0 41 (52 * (h0 42 i).toNat) ∧ m0 211 (fi i) = h0 41 (52 * (h0 42 i).toNat + 1)) (H : Pc (oc_L nn (mt_L h0 m0 l4 fi) h0) Z) : Pc (qf_X1_writeTo nn h0) Z := by
  unfold mt_L at H
  unfold qf_X1_writeTo
  refine pc_sv (oc_i0 H wfc_r) ?_; intro u51 ⟨H51, W51⟩
  rw [W51.2 34 8 (by omega) (by omega)]
  refine pc_sv (oc_i0 H51 W51) ?_; intro u54 ⟨H54, W54⟩
  rw [W54.2 34 1 (by omega) (by omega)]
  refine pc_sv (oc_i1 H54 W54) ?_; intro u57 ⟨H57, W57⟩
  refine c_w26 b1 (fun u W Hu => ?_) (h0 34 1).toNat 0 nn u57 W57 (by omega) H57
  unfold qj_X1_writeTo_59
  rw [W.2 34 10 (by omega) (by omega)]
  refine pc_sv (oc_i0 Hu W) ?_; intro u38 ⟨H38, W38⟩
  refine c_w69 b10 (fun u2 W2 Hu2 => ?_) (h0 34 10).toNat 0 nn u38 W38 (by omega) H38
  rw [W2.2 34 14 (by omega) (by omega)]
  refine pc_sv (oc_i0 Hu2 W2) ?_; intro u11 ⟨H11, W11⟩
  exact c_w147 FB b14 (h0 34 14).toNat 0 nn u11 W11 (by omega) H11
end
end
