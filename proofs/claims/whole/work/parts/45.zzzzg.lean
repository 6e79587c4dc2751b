/- try: class and rules -/
/-- all of a try that the making wants -/
def TRr (nn : Nat) (X : BCx) (s y0 b : Int) (p t q : Nat) (bb en : Int) (h r z w : ms_M) : Prop := ∃ (c : Int) (g0 gJ gH k1 k2 k3 k4 v3 : ms_M) (x1 y1 x7 y7 : Int × ms_M), COp 0 (up_M h 2 10 ((p + 1 : Nat) : Int)) g0 ∧ SKl X (s + 1) y0 p (p + 1) bb h r g0 r ∧ SOk nn X (bT X 170 s.toNat) (s + 1) y0 (p + 1) t bb g0 r x1 y1 ∧ x1.2 34 7 = h 34 7 ∧ ((x1.1 = 0 ∧ gJ = x1.2) ∨ (¬ x1.1 = 0 ∧ CJu 167 0 x1.2 gJ)) ∧ (qf_X1_addHandler nn (h 34 1) (x1.2 34 1) c gJ = some gH ∧ CHw gJ gH) ∧ (COp 58 gH k1 ∧ COp (h 34 7) k1 k2 ∧ CPo 1 k2 k3 ∧ CLa (bV X (t + 3)) c k3 k4) ∧ (0 ≤ c ∧ c < 16 ∧ VTn (bn X) c) ∧ (CFs x1.2 (up_M k4 2 10 ((t + 5 : Nat) : Int)) ∧ up_M k4 2 10 ((t + 5 : Nat) : Int) 33 12 = x1.2 33 12 ∧ y1.2 176 s.toNat = ((t + 3 : Nat) : Int)) ∧ (v3 174 s.toNat = ty_T c ∧ ∀ cc x : Nat, 174 ≤ cc → cc ≤ 176 → ¬ (cc = 174 ∧ x = s.toNat) → v3 cc x = y1.2 cc x) ∧ SKk X s y0 p (t + 5) bb h r (up_M k4 2 10 ((t + 5 : Nat) : Int)) v3 ∧ SOk nn X (bT X 171 s.toNat) y0 b (t + 5) q bb (up_M k4 2 10 ((t + 5 : Nat) : Int)) v3 x7 y7 ∧ w = up_M y7.2 160 50 (r 160 50) ∧ ((x1.1 = 0 ∧ z = up_M x7.2 34 7 (h 34 7)) ∨ (¬ x1.1 = 0 ∧ CAH (x1.2 34 1) (up_M x7.2 34 7 (h 34 7)) z)) ∧ en = (if x1.1 = 0 then x7.1 else 1)
section
variable {nn : Nat} {X : BCx} {a b s d y0 bb : Int} {p t q uu : Nat} {h g u r v z w m : ms_M}
theorem ty_cr (Y : CXs X) (Wb : BRw X) (ne : 0 ≤ a ∧ a ≤ s ∧ s < b) (yb : s < y0 ∧ y0 ≤ b) (nb : b ≤ 8999) (hd : 0 ≤ d ∧ d + 1 ≤ 40) (nd : bT X 167 s.toNat = 9 ∧ bT X 168 s.toNat = ((t + 2 : Nat) : Int) ∧ bT X 176 s.toNat = ((t + 3 : Nat) : Int)) (kp : bK X p = 29) (kk : bK X (t + 2) = 2 ∧ bK X (t + 3) = 2 ∧ bK X (t + 4) = 41) (H8 : S8 nn X (d + 1) (s + 1) y0 (p + 1) t (bT X 170 s.toNat)) (H8b : S8 nn X (d + 1) y0 b (t + 5) q (bT X 171 s.toNat)) (HM : ∀ (h r z w : ms_M) (bb en : Int), SPq X d p bb h r → TRr nn X s y0 b p t q bb en h r z w → SKk X a b p q bb h r z w → MGS X (fun d m => (qg_X13_make nn d).1 s m) a b p q h r z w en) : S6 nn X d a b p q s := by
  intro dc dr h r bb Q U
  have Q0 := Q
  obtain ⟨Qe, ⟨h3, h10, r57, h7⟩, ⟨LP, l54, br⟩, -⟩ := Q0
  have Qe0 := Qe
  obtain ⟨B, ⟨q1, q2, q3, q4⟩, ⟨f1, f2, f3⟩, o1⟩ := Qe0
  have T : ∀ cc y : Nat, ((163 ≤ cc ∧ cc ≤ 173) ∨ cc = 177) → r cc y = bT X cc y := B.2.2.2.2.2.1
  have c3 := Y.1.2.1
  have t4c : t + 4 < bc X := tb_lt Y.1 (by omega)
  have t5c : t + 5 < bc X := jp_lt Y.1 t4c (by omega)
  have p1c : p + 1 < bc X := jp_lt Y.1 q2 (by omega)
  have us := U s.toNat (by omega) (by omega)
  have sg := B.2.1.1
  cases dc with
  | zero => exact fun _ z => nomatch z
  | succ dc =>
    refine sjc_29 Y B.1.1.1.1 q1 q2 q3 (by omega) kp ?_
    refine pc_add (by omega) ?_; intro v35 e35
    rw [e35]
    refine pc_sv (P := fun x => Pc ((qg_X13_ruled nn dr) s r) (fun y => SFj x.2 y.2 ∨ SOk nn X s a b p q bb h r x y)) ?_ (fun x Hx => pc_ck (fun _ => pc_ret Hx))
    cases dc with
    | zero => exact fun _ z => nomatch z
    | succ dc =>
      show Pc (qo_X0_readTry nn (qg_X0_readBlock nn dc) (d + 1) h) _
      have G := fsg_X0_readBlock nn dc
      unfold qo_X0_readTry
      rw [q1]
      refine pc_add (by omega) ?_; intro v53 e53
      refine pc_xl ?_; intro h54 e54
      rw [show v53 = ((p + 1 : Nat) : Int) by omega] at e54
      have E54 : ∀ cc x : Nat, ¬ (cc = 2 ∧ x = 10) → h54 cc x = h cc x := fun cc x q => by rw [e54, up_n q]
      have i541 := E54 34 1 (by omega)
      refine pc_sv (c_op (by omega)) ?_; intro g0 A0
      have E0 : ∀ cc x : Nat, ¬ ((cc = 2 ∧ x = 10) ∨ (cc = 34 ∧ x = 1) ∨ (cc = 35 ∧ h 34 1 ≤ (x : Int))) → g0 cc x = h cc x := fun cc x q => by rw [A0.2.2 cc x (by omega) (by omega)]; exact E54 cc x (by omega)
      have g01 : g0 34 1 = h 34 1 + 1 := by rw [A0.1, i541]
      have g07 := E0 34 7 (by omega)
      have g012 := E0 33 12 (by omega)
      have bm := brw_l Wb (p := p) (q := p + 1) (by omega) p1c
      have KL : SKl X (s + 1) y0 p (p + 1) bb h r g0 r := by
        refine ⟨⟨by rw [A0.2.2 2 10 (by omega) (by omega), e54, up_s], p1c, by omega, by rw [E0 2 11 (by omega)]; exact q3, q4⟩, ⟨bx_k B (fun cc x z => E0 cc x (by omega)) (fun _ _ _ => rfl), cfs_o (fun cc x q => E0 cc x (by omega)) (by omega), rfs_r⟩, ⟨frc_k f1 (fun cc x z => E0 cc x (by omega)), by omega, by rw [E0 34 3 (by omega)]; exact h3, by rw [E0 49 10 (by omega)]; exact h10, by rw [E0 49 18 (by omega)]; omega⟩, by omega, by omega, lpx_k LP (E0 33 9 (by omega)) (E0 33 10 (by omega)) g012 (by omega) (by omega) rfl rfl⟩
      have SPg : SPq X (d + 1) (p + 1) bb g0 r := spq_n (spq_d Q (by omega)) KL
      have U1 : UNr X (s + 1) y0 r := unr_k U ⟨by omega, by omega⟩ (fun _ _ _ _ _ _ => rfl)
      refine pc_se ?_; intro x1 e1
      have s71 : x1.2 34 7 = h 34 7 := by rw [blk_7 x1 e1]; exact g07
      intro x ex
      cases dr with
      | zero => exact fun _ z => nomatch z
      | succ dr =>
        have Gr : FSrG_X13_ruled (qg_X13_ruled nn dr) := ftg_X13_ruled nn dr
        refine sju_9 q4 ((T 167 _ (by omega)).trans nd.1) ?_
        refine pc_rA ?_; intro _ _ v232 e232
        rw [T 170 _ (by omega)] at e232
        rw [e232]
        refine pc_sv (H8 dc dr g0 r bb SPg U1 x1 e1) ?_; intro y1 hy
        -- the rules behind a FAULT
        have RFS : ∀ (l3 ty : Int) (g : ms_M), ¬ g 160 9 = 0 → Pc (mx_sv (qf_X13_fits nn ty 10 g) fun u240 => if ¬ u240 = 0 then (qj_X13_ruled_679 nn (qg_X13_ruled nn dr) s (r 160 50) l3 ty g) else (rd_A 9000 168 s g fun v242 => mx_sv (qf_X13_wrong nn 6 v242 g) fun u244 => qj_X13_ruled_679 nn (qg_X13_ruled nn dr) s (r 160 50) l3 ty u244)) (fun y => FSr g y.2) := fun l3 ty g Sg => by
          refine pc_se ?_; intro u240 _
          refine pc_if (fun _ => ft_qj_X13_ruled_679 Gr Sg) (fun _ => ?_)
          refine pc_rA ?_; intro _ _ v242 _
          refine pc_sv (ft_qf_X13_wrong Sg) ?_; intro u244 F
          exact pc_imp (ft_qj_X13_ruled_679 Gr (h := u244) (by rw [F.1]; exact Sg)) (fun y q => ⟨q.1.trans F.1, q.2.trans F.2⟩)
        rcases hy with S | ⟨⟨en1, en2⟩, SK, MG⟩
        · have FX : Pc (if x1.1 = 0 then (qj_X0_readTry_63 nn (qg_X0_readBlock nn dc) (d + 1) (h 34 1) x1.1 (x1.2 34 1) (-1) x1.2) else (mx_sv (qf_X1_jump nn 167 0 x1.2) fun u64 => qj_X0_readTry_63 nn (qg_X0_readBlock nn dc) (d + 1) (h 34 1) x1.1 (x1.2 34 1) u64.1 u64.2)) (fun x => FSc x1.2 x.2) := by
            refine pc_if (fun _ => fs_qj_X0_readTry_63 G S.1) (fun _ => ?_)
            refine pc_sv (fs_qf_X1_jump S.1) ?_; intro u64 F
            exact pc_imp (fs_qj_X0_readTry_63 G (fs_n S.1 F)) (fun _ q => fs_t F q)
          have S2 := sf_c S (FX x ex)
          refine pc_rA ?_; intro _ _ v236 _
          refine pc_sv (ft_qf_X13_typeOf (sf_r S2)) ?_; intro u238 F
          refine pc_imp (RFS y1.1 u238.1 u238.2 (by rw [F.1]; exact sf_r S2)) (fun y q => .inl ⟨S2.1, by rw [q.1, F.1]; exact S2.2.1, by rw [q.2, F.2]; exact S2.2.2⟩)
        · have SO : SOk nn X (bT X 170 s.toNat) (s + 1) y0 (p + 1) t bb g0 r x1 y1 := ⟨⟨en1, en2⟩, SK, MG⟩
          have tp := SK.1.2.2.1
          have K3 : SKk X (s + 1) y0 p t bb h r x1.2 y1.2 := skk_l (skl_t KL (skl_k SK) ⟨Int.le_refl _, Int.le_refl _⟩ ⟨Int.le_refl _, Int.le_refl _⟩) (by omega)
          have K30 := K3
          obtain ⟨⟨j1, j2, j3, j4, j5⟩, ⟨j6, j7, j8⟩, ⟨j9, j10, j11, j12, j13⟩, j14, j15, j16⟩ := K30
          have jl := j7.2.2.2.2.1
          have Tv : ∀ cc y : Nat, ((163 ≤ cc ∧ cc ≤ 173) ∨ cc = 177) → y1.2 cc y = bT X cc y := j6.2.2.2.2.2.1
          have CJ : Pc (if x1.1 = 0 then (qj_X0_readTry_63 nn (qg_X0_readBlock nn dc) (d + 1) (h 34 1) x1.1 (x1.2 34 1) (-1) x1.2) else (mx_sv (qf_X1_jump nn 167 0 x1.2) fun u64 => qj_X0_readTry_63 nn (qg_X0_readBlock nn dc) (d + 1) (h 34 1) x1.1 (x1.2 34 1) u64.1 u64.2)) (fun x => ∃ (gJ : ms_M) (jb : Int), ((x1.1 = 0 ∧ gJ = x1.2) ∨ (¬ x1.1 = 0 ∧ CJu 167 0 x1.2 gJ ∧ jb = x1.2 34 1)) ∧ qj_X0_readTry_63 nn (qg_X0_readBlock nn dc) (d + 1) (h 34 1) x1.1 (x1.2 34 1) jb gJ = some x) := by
            refine pc_if (fun z => fun x ex => ⟨x1.2, -1, .inl ⟨z, rfl⟩, ex⟩) (fun z => ?_)
            refine pc_sv (c_jump (by omega) (by omega) (by omega)) ?_; intro u64 ⟨n64, J64⟩
            exact fun x ex => ⟨u64.2, u64.1, .inr ⟨z, J64, n64⟩, ex⟩
          obtain ⟨gJ, jb, hJ, ex2⟩ := CJ x ex
          have EJ : ∀ cc x : Nat, ¬ ((cc = 34 ∧ (x = 1 ∨ x = 3)) ∨ (cc = 35 ∧ x1.2 34 1 ≤ (x : Int))) → gJ cc x = x1.2 cc x := fun cc x q => by
            rcases hJ with ⟨-, y⟩ | ⟨-, y, -⟩
            · rw [y]
            · exact y.2.2.2 cc x (by omega) (by omega)
          have gJl : x1.2 34 1 ≤ gJ 34 1 ∧ gJ 34 1 ≤ x1.2 34 1 + 3 := by
            rcases hJ with ⟨-, y⟩ | ⟨-, y, -⟩
            · rw [y]; omega
            · have := y.1; omega
          have gJ3 : gJ 34 3 = 0 := by
            rcases hJ with ⟨-, y⟩ | ⟨-, y, -⟩
            · rw [y]; exact j11
            · rw [y.2.1]; split <;> omega
          have gJ7 := EJ 34 7 (by omega)
          have BJ : BX X gJ y1.2 := bx_k j6 (fun cc x z => EJ cc x (by omega)) (fun _ _ _ => rfl)
          have FJ : FRc gJ := frc_k j9 (fun cc x z => EJ cc x (by omega))
          have CR := c_try63 (t := t) G Y BJ FJ (by rw [EJ 2 10 (by omega)]; exact j1) (by rw [EJ 2 11 (by omega)]; exact j4) gJ3 (by omega) kk.1 kk.2.1 t5c x ex2
          -- the rules: the type
          refine pc_rA ?_; intro _ _ v236 e236
          rw [Tv 168 _ (by omega), nd.2.1] at e236
          rw [e236]
          have p6 : y1.2 176 s.toNat = ((t + 3 : Nat) : Int) := by rw [j8.2.1 176 _ (by omega) (by omega) (by omega), us.2]; exact nd.2.2
          refine pc_sv (r_type Y.1 Y.2.1 Y.2.2.1 BJ.1.1.2.2 j5 (p := t + 2) (.inr (.inr (.inr ⟨rfl, kk.1⟩))) (.inl rfl)) ?_; intro u238 q238
          rcases CR with ⟨cz, s1, s2⟩ | ⟨c, cz, bc', CR⟩
          · -- no such class
            rcases q238 with ⟨⟨ty3, TS3, e238⟩, e2⟩ | ⟨-, -, w1, w2⟩
            · exfalso
              rcases TS3 with y | y | y | y | ⟨-, c2, c3', c4, -⟩
              · omega
              · omega
              · omega
              · omega
              · rw [Int.toNat_natCast] at c3'
                exact c4 (cls_d c3' cz)
            · exact pc_imp (RFS y1.1 u238.1 u238.2 (by omega)) (fun y F => .inl (sf_mk (c := 5) (pl := bP X (t + 2)) (by decide) s1 s2 (F.1.trans w1) (F.2.trans w2)))
          · rcases q238 with ⟨⟨ty3, TS3, e238⟩, e2⟩ | ⟨-, cl, w1, w2⟩
            · have et : ty3 = c := by
                rcases TS3 with y | y | y | y | ⟨-, c2, c3', c4, y⟩
                · omega
                · omega
                · omega
                · omega
                · rw [Int.toNat_natCast] at c3'
                  have := cls_d c3' cz
                  omega
              rw [e238, e2, et]
              have e180 : y1.2 180 = bB X 180 := funext (fun y => j6.2.2.2.2.2.2.1 180 y (by omega))
              have V1 : VTn (bn X) 1 := .inr (.inr (.inr (.inr (.inr (.inl (by omega))))))
              have FT : Pc (qf_X13_fits nn (ty_T c) 10 y1.2) (fun u => (u = 1 ∧ FTS (bB X 180) c 1) ∨ (u = 0 ∧ ¬ FTS (bB X 180) c 1)) := by
                have e10 : (10 : Int) = ty_T 1 := by decide
                rw [e10]
                exact r_fit Y e180 bc'.2.2 V1
              refine pc_sv FT ?_; intro u240 q240
              rcases CR with ⟨nf, s1, s2⟩ | ⟨ft, ln, el, CR⟩
              · refine pc_if (fun z => absurd (yn_0 q240 nf) z) (fun _ => ?_)
                refine pc_rA ?_; intro _ _ v242 e242
                rw [Tv 168 _ (by omega), nd.2.1] at e242
                refine pc_sv (r_wrong j6.1.1.2.2.1 (p := t + 2) (by omega) j5 e242) ?_; intro u244 w1
                exact pc_imp (ft_qj_X13_ruled_679 Gr (h := u244) (by omega)) (fun y F => .inl (sf_mk (c := 6) (pl := bP X (t + 2)) (by decide) s1 s2 (F.1.trans w1.1) (F.2.trans w1.2)))
              · refine pc_if (fun _ => ?_) (fun z => absurd (yn_1 q240 ft) z)
                have JL := j_loc Y.1 BJ.1.1.2.2.2.1 BJ.2.1 kk.2.1 rfl rfl ln el
                unfold qj_X13_ruled_679
                refine pc_if (fun z => absurd j5 z) (fun _ => ?_)
                refine pc_rA ?_; intro _ _ v44 e44
                rw [p6] at e44
                rw [e44]
                refine pc_sv JL ?_; intro u46 L46
                rcases CR with ⟨ln1, s1, s2⟩ | ⟨ln1, gH, k0, k1, k2, k3, x7, eH, HW, A0', A1, A2, A3, e7, ex3⟩
                · have n46 : ¬ u46 = -1 := by
                    rcases L46 with y | ⟨y, y1, y2, y3⟩
                    · exact absurd y.1 ln1
                    · omega
                  refine pc_if (fun z => absurd z n46) (fun _ => ?_)
                  refine pc_rA ?_; intro _ _ v48 e48
                  rw [p6] at e48
                  refine pc_sv (r_wrong j6.1.1.2.2.1 (p := t + 3) (by omega) j5 e48) ?_; intro u50 w1
                  exact pc_imp (ft_qj_X13_ruled_711 Gr (h := u50) (by omega)) (fun y F => .inl (sf_mk (c := 4) (pl := bP X (t + 3)) (by decide) s1 s2 (F.1.trans w1.1) (F.2.trans w1.2)))
                · have n46 : u46 = -1 := by
                    rcases L46 with y | ⟨y, y1, y2, y3⟩
                    · exact y.2
                    · omega
                  refine pc_if (fun _ => ?_) (fun z => absurd n46 z)
                  unfold qj_X13_ruled_711
                  refine pc_wA ?_; intro _ _ h35 e35'
                  have E35 : ∀ cc x : Nat, ¬ (cc = 174 ∧ x = s.toNat) → h35 cc x = y1.2 cc x := fun cc x q => by rw [e35', up_n q]
                  refine pc_if (fun z => absurd (show h35 160 9 = 0 by rw [E35 160 9 (by omega)]; exact j5) z) (fun _ => ?_)
                  refine pc_rA ?_; intro _ _ v38 e38
                  rw [E35 176 _ (by omega), p6] at e38
                  rw [e38]
                  refine pc_sv r_come ?_; intro v3 RC
                  obtain ⟨m1, m2, m3, G1, G2, G3, G4⟩ := cla_swap A0' A1 A2 A3
                  have nJ : gJ 34 7 = h 34 7 := by omega
                  rw [nJ] at G2
                  have hw7 := HW.2.2 34 7 (by omega) (by omega)
                  have hw1 := HW.2.2 34 1 (by omega) (by omega)
                  have hw3 := HW.2.1
                  have M3 : ∀ cc y : Nat, ¬ ((cc = 34 ∧ (y = 1 ∨ y = 3)) ∨ (cc = 35 ∧ gH 34 1 ≤ (y : Int))) → m3 cc y = gH cc y := fun cc y q => by
                    have l1 := G1.1
                    rw [G3.2 cc y (by omega), G2.2.2 cc y (by omega) (by omega)]; exact G1.2.2 cc y (by omega) (by omega)
                  have M3J : ∀ cc y : Nat, ¬ ((cc = 34 ∧ (y = 1 ∨ y = 3 ∨ y = 4 ∨ y = 10 ∨ y = 14 ∨ y = 15)) ∨ (cc = 35 ∧ x1.2 34 1 ≤ (y : Int)) ∨ (cc = 36 ∨ cc = 39 ∨ (40 ≤ cc ∧ cc ≤ 42))) → m3 cc y = x1.2 cc y := fun cc y q => by
                    rw [M3 cc y (by omega), HW.2.2 cc y (by omega) (by omega)]; exact EJ cc y (by omega)
                  have m37 : m3 34 7 = h 34 7 := by rw [M3J 34 7 (by omega)]; exact s71
                  have m31 : m3 34 1 = gJ 34 1 + 2 := by rw [G3.2 34 1 (by omega), G2.1, G1.1]; omega
                  have m33 : m3 34 3 = 0 := by rw [G3.1, G2.2.2 34 3 (by omega) (by omega), G1.2.2 34 3 (by omega) (by omega)]; split <;> omega
                  have B3 : BX X m3 h35 := bx_k j6 (fun cc x z => M3J cc x (by omega)) (fun cc x z => E35 cc x (by omega))
                  have B4 : BX X k3 v3 := bx_loc B3 G4 RC rfl kk.2.1 (by omega) ⟨bc'.2.2, by omega⟩
                  generalize ez1 : up_M k3 2 10 ((t + 5 : Nat) : Int) = z1 at e7
                  have ZK : ∀ cc y : Nat, ¬ (cc = 2 ∧ y = 10) → z1 cc y = k3 cc y := fun cc y q => by rw [← ez1, up_n q]
                  have ZU : ∀ cc y : Nat, ¬ ((cc = 2 ∧ y = 10) ∨ (cc = 34 ∧ (y = 1 ∨ y = 3 ∨ y = 4 ∨ y = 7 ∨ y = 8 ∨ y = 10 ∨ y = 14 ∨ y = 15)) ∨ (cc = 35 ∧ x1.2 34 1 ≤ (y : Int)) ∨ (cc = 36 ∨ cc = 39 ∨ (40 ≤ cc ∧ cc ≤ 42)) ∨ ((cc = 37 ∨ cc = 38) ∧ y = (h 34 7).toNat)) → z1 cc y = x1.2 cc y := fun cc y q => by
                    rw [ZK cc y (by omega), G4.2.2.2 cc y (by omega) (by omega)]; exact M3J cc y (by omega)
                  have z7 : z1 34 7 = h 34 7 + 1 := by rw [ZK 34 7 (by omega), G4.1]; omega
                  have z1l : z1 34 1 = gJ 34 1 + 2 := by rw [ZK 34 1 (by omega), G4.2.2.2 34 1 (by omega) (by omega)]; exact m31
                  have z3 : z1 34 3 = 0 := by rw [ZK 34 3 (by omega), G4.2.2.2 34 3 (by omega) (by omega)]; exact m33
                  have z12 := ZU 33 12 (by omega)
                  have Fz : FRc z1 := frc_k HW.1 (fun cc x q => by rw [ZK cc x (by omega), G4.2.2.2 cc x (by omega) (by omega)]; exact M3 cc x (by omega))
                  have Cz : CFs x1.2 z1 := ⟨fun cc x q => ZU cc x (by omega), ⟨ZU 33 9 (by omega), ZU 33 10 (by omega), by omega, by omega⟩, fun x hx => ⟨ZU 37 x (by omega), ZU 38 x (by omega)⟩, ⟨fun x hx => ZU 44 x (by omega), fun x c1 c2 => by omega⟩, by omega, fun x hx => ZU 35 x (by omega)⟩
                  have V3 : ∀ cc x : Nat, ¬ (cc = 174 ∧ x = s.toNat) → ¬ (cc = 160 ∧ x = 50) → ¬ ((cc = 196 ∨ cc = 197) ∧ x = (y1.2 160 50).toNat) → v3 cc x = y1.2 cc x := fun cc x c1 c2 c4 => by
                    rw [RC.2.2.2.2 cc x c2 (by rw [E35 160 50 (by omega)]; exact c4)]; exact E35 cc x c1
                  have RR : RFz s y0 r v3 := by
                    have R2 : RFz s y0 y1.2 v3 := by
                      have h50 := E35 160 50 (by omega)
                      refine ⟨fun cc x q => V3 cc x (by omega) (by omega) (by omega), fun cc x c1 c2 c4 => V3 cc x (by omega) (by omega) (by omega), ⟨V3 160 54 (by omega) (by omega) (by omega), V3 160 57 (by omega) (by omega) (by omega), by rw [RC.2.1]; omega⟩, fun x hx => ⟨V3 196 x (by omega) (by omega) (by omega), V3 197 x (by omega) (by omega) (by omega)⟩, fun x hx => V3 198 x (by omega) (by omega) (by omega)⟩
                    exact rfs_t j8 R2 ⟨by omega, Int.le_refl _⟩ ⟨Int.le_refl _, Int.le_refl _⟩
                  have bm2 := brw_l Wb (p := t) (q := t + 5) (by omega) t5c
                  have K5 : SKk X s y0 p (t + 5) bb h r z1 v3 := by
                    refine ⟨⟨by rw [← ez1, up_s], t5c, by omega, by rw [ZU 2 11 (by omega)]; exact j4, by rw [V3 160 9 (by omega) (by omega) (by omega)]; exact j5⟩, ⟨bx_k B4 (fun cc x q => ZK cc x (by omega)) (fun _ _ _ => rfl), cfs_t j7 Cz, RR⟩, ⟨Fz, by omega, z3, by rw [ZU 49 10 (by omega)]; exact j12, by rw [ZU 49 18 (by omega)]; omega⟩, by omega, by omega, lpx_k j16 (ZU 33 9 (by omega)) (ZU 33 10 (by omega)) z12 (by omega) (by omega) (V3 160 54 (by omega) (by omega) (by omega)) (V3 198 _ (by omega) (by omega) (by omega))⟩
                  have SP5 : SPq X (d + 1) (t + 5) bb z1 v3 := spq_n (spq_d Q (by omega)) (skl_k K5)
                  have U5 : UNr X y0 b v3 := unr_k U ⟨by omega, Int.le_refl _⟩ (fun cc x c1 c2 c4 c5 => K5.2.1.2.2.2.1 cc x (by omega) (by omega) (by omega))
                  unfold qj_X13_ruled_738
                  refine pc_rA ?_; intro _ _ v28 e28
                  rw [K5.2.1.1.2.2.2.2.2.1 171 _ (by omega)] at e28
                  rw [e28]
                  refine pc_sv (H8b dc dr z1 v3 bb SP5 U5 x7 e7) ?_; intro y7 hy7
                  rw [nJ] at ex3
                  generalize e27 : up_M x7.2 34 7 (h 34 7) = h27 at ex3
                  rcases hy7 with S | ⟨⟨en3, en4⟩, SK7, MG7⟩
                  · have F27 : FSc x7.2 h27 := ⟨by rw [← e27, up_n (by omega)], by rw [← e27, up_n (by omega)]⟩
                    have FE : Pc (if x1.1 = 0 then (qj_X0_readTry_228 nn (qg_X0_readBlock nn dc) x1.1 x7.1 h27) else (mx_sv (qf_X1_aimHere nn jb h27) fun u30 => qj_X0_readTry_228 nn (qg_X0_readBlock nn dc) x1.1 x7.1 u30)) (fun x => FSc x7.2 x.2) := by
                      refine pc_if (fun _ => pc_imp (fs_qj_X0_readTry_228 G (fs_n S.1 F27)) (fun _ q => fs_t F27 q)) (fun _ => ?_)
                      refine pc_sv (fs_qf_X1_aimHere (fs_n S.1 F27)) ?_; intro u30 F
                      exact pc_imp (fs_qj_X0_readTry_228 G (fs_n S.1 (fs_t F27 F))) (fun _ q => fs_t (fs_t F27 F) q)
                    have S2 := sf_c S (FE x ex3)
                    refine pc_xl ?_; intro h31 e31
                    have S3 : SFj x.2 h31 := ⟨S2.1, by rw [e31, up_n (by omega)]; exact S2.2.1, by rw [e31, up_n (by omega)]; exact S2.2.2⟩
                    refine pc_if (fun _ => pc_ret (.inl S3)) (fun _ => ?_)
                    exact pc_if (fun _ => pc_ret (.inl S3)) (fun _ => pc_ret (.inl S3))
                  · have SO7 : SOk nn X (bT X 171 s.toNat) y0 b (t + 5) q bb z1 v3 x7 y7 := ⟨⟨en3, en4⟩, SK7, MG7⟩
                    refine pc_xl ?_; intro h31 e31
                    have qt := SK7.1.2.2.1
                    have qc := SK7.1.2.1
                    have E27 : ∀ cc x : Nat, ¬ (cc = 34 ∧ x = 7) → h27 cc x = x7.2 cc x := fun cc x q => by rw [← e27, up_n q]
                    have KA : SKl X a b p q bb h r x7.2 y7.2 := skl_t (skl_k K5) (skl_k SK7) ⟨by omega, by omega⟩ ⟨by omega, Int.le_refl _⟩
                    have K8 : SKk X a b p q bb h r h27 h31 := sk_out Q Wb KA (fun cc x q => E27 cc x (by omega)) (by rw [← e27, up_s]) (by rw [E27 2 10 (by omega)]; exact SK7.1.1) e31 ⟨Nat.le_refl _, qc, by omega⟩
                    have k81 := K8.2.2.1.2.1
                    have k83 := K8.2.2.1.2.2.1
                    have k8l := K8.2.1.2.1.2.2.2.2.1
                    have s87 := K8.2.1.1.2.1.1
                    obtain ⟨z, ex4, hz⟩ : ∃ z, x = ((if x1.1 = 0 then x7.1 else 1), z) ∧ ((x1.1 = 0 ∧ z = h27) ∨ (¬ x1.1 = 0 ∧ CAH (x1.2 34 1) h27 z)) := by
                      have CF : Pc (if x1.1 = 0 then (qj_X0_readTry_228 nn (qg_X0_readBlock nn dc) x1.1 x7.1 h27) else (mx_sv (qf_X1_aimHere nn jb h27) fun u30 => qj_X0_readTry_228 nn (qg_X0_readBlock nn dc) x1.1 x7.1 u30)) (fun x => ∃ z, x = ((if x1.1 = 0 then x7.1 else 1), z) ∧ ((x1.1 = 0 ∧ z = h27) ∨ (¬ x1.1 = 0 ∧ CAH (x1.2 34 1) h27 z))) := by
                        refine pc_if (fun q0 => ?_) (fun q0 => ?_)
                        · unfold qj_X0_readTry_228
                          rw [if_pos q0]
                          refine pc_if (fun q => absurd q0 q) (fun _ => ?_)
                          refine pc_if (fun q => pc_ret ⟨h27, by rw [q], .inl ⟨q0, rfl⟩⟩) (fun q => pc_ret ⟨h27, by rw [show x7.1 = 1 by omega], .inl ⟨q0, rfl⟩⟩)
                        · have jbe : jb = x1.2 34 1 := by
                            rcases hJ with ⟨y, -⟩ | ⟨-, -, y⟩
                            · exact absurd y q0
                            · exact y
                          rw [jbe]
                          refine pc_sv (c_aimHere (by omega) (by omega) (by omega) (by omega) K8.2.2.1.1) ?_; intro u10 A10
                          unfold qj_X0_readTry_228
                          rw [if_neg q0]
                          exact pc_if (fun _ => pc_ret ⟨u10, rfl, .inr ⟨q0, A10⟩⟩) (fun q => absurd q0 q)
                      exact CF x ex3
                    have K9 : SKk X a b p q bb h r z h31 := by
                      rcases hz with ⟨-, y⟩ | ⟨-, y⟩
                      · rw [y]; exact K8
                      · exact sk_aim K8 f2.1 jl y
                    have ENb : (if x1.1 = 0 then x7.1 else 1) = 0 ∨ (if x1.1 = 0 then x7.1 else 1) = 1 := by split <;> omega
                    have FINR : ∀ en : Int, en = (if x1.1 = 0 then x7.1 else 1) → (SFj x.2 h31 ∨ SOk nn X s a b p q bb h r x (en, h31)) := fun en een => by
                      refine .inr ?_
                      rw [ex4, een]
                      refine ⟨⟨rfl, ENb⟩, K9, ?_⟩
                      have A0z : COp 0 (up_M h 2 10 ((p + 1 : Nat) : Int)) g0 := by rw [← e54]; exact A0
                      have v34 : v3 174 s.toNat = ty_T c := by
                        rw [RC.2.2.2.2 174 _ (by omega) (by omega), e35', up_s]
                      refine HM h r z h31 bb _ Q ⟨c, g0, gJ, gH, m1, m2, m3, k3, v3, x1, y1, x7, y7, A0z, KL, SO, s71, ?_, ⟨eH, HW⟩, ⟨G1, G2, G3, G4⟩, bc', ⟨?_, ?_, p6⟩, ⟨v34, fun cc x c1 c2 c4 => V3 cc x c4 (by omega) (by omega)⟩, ?_, ?_, e31, ?_, rfl⟩ K9
                      · rcases hJ with y | ⟨y1, y2, -⟩
                        · exact .inl y
                        · exact .inr ⟨y1, y2⟩
                      · rw [ez1]; exact Cz
                      · rw [ez1]; exact z12
                      · rw [ez1]; exact K5
                      · rw [ez1]; exact SO7
                      · rw [e27]; exact hz
                    rw [← en1, ← en3]
                    refine pc_if (fun q => pc_ret (FINR 1 (by rw [if_neg q]))) (fun q => ?_)
                    have q0 : x1.1 = 0 := Classical.byContradiction q
                    exact pc_if (fun q7 => pc_ret (FINR 0 (by rw [if_pos q0, q7]))) (fun q7 => pc_ret (FINR 1 (by rw [if_pos q0]; omega)))
            · exfalso
              have := cls_d cz cl
              omega
end
