/- try: the making, whole -/
section
variable {nn : Nat} {X : BCx} {a b s y0 bb d lb lh en : Int} {p t q : Nat} {h r z w m : ms_M} {PB : Nat → Prop} {WL : Int → Int → Prop} {L : List (Int × Int)}
theorem m_ty (Y : CXs X) (ne : 0 ≤ a ∧ a ≤ s ∧ s < b) (yb : s < y0 ∧ y0 ≤ b) (nb : b ≤ 8999) (nd : bT X 167 s.toNat = 9) (kk : bK X (t + 3) = 2) (Q : SPq X d p bb h r) (TR : TRr nn X s y0 b p t q bb en h r z w) : MGS X (fun d m => (qg_X13_make nn d).1 s m) a b p q h r z w en := by
  obtain ⟨c, g0, gJ, gH, k1, k2, k3, k4, v3, x1, y1, x7, y7, A0, KL, SO, s71, hJ, ⟨eH, HW⟩, ⟨G1, G2, G3, G4⟩, bc', ⟨Cz, z12, p6⟩, ⟨v34, V34⟩, K5, SO7, ew, hz, een⟩ := TR
  intro d2 PB WL L lb lh m I
  have I0 := I
  obtain ⟨⟨M, AM⟩, ⟨m57, m88, m54, m51⟩, LB, WN, CO⟩ := I0
  obtain ⟨Qe, ⟨h3, h10, r57, h7⟩, ⟨LP, l54, br⟩, -⟩ := Q
  obtain ⟨B, ⟨q1, q2, q3, q4⟩, ⟨f1, f2, f3⟩, o1⟩ := Qe
  have MT := (mk_t M).1
  have c3 := Y.1.2.1
  have j88 := M.1.2.1.2.2.2.2
  have sM := M.1.2.2.2.1.1
  have h1m := M.1.1.1.1
  have pt := SO.2.1.1.2.2.1
  have tq := SO7.2.1.1.2.2.1
  have qc := SO7.2.1.1.2.1
  have nzf : ∀ f : Int, m 160 88 < f → ∀ Z : List (Int × Int), (∀ e ∈ Z, e.2 = lb ∨ e.2 = lh) → (r 160 54 = 0 → Z = []) → ¬ hs_L f Z := fun f hf Z y1 y2 => by
    by_cases r0 : r 160 54 = 0
    · rw [y2 r0]; exact fun y => y
    · have := LB (by omega)
      exact hs_z y1 (by omega)
  generalize ez1 : up_M k4 2 10 ((t + 5 : Nat) : Int) = z1 at Cz z12 K5 SO7
  generalize e27 : up_M x7.2 34 7 (h 34 7) = h27 at hz
  have W1 : ∀ cc x : Nat, 174 ≤ cc → cc ≤ 176 → s ≤ (x : Int) → (x : Int) < y0 → w cc x = v3 cc x := fun cc x c1 c2 c4 c5 => by
    rw [ew, up_n (by omega)]; exact SO7.2.1.2.1.2.2.2.1 cc x c1 c2 (by omega)
  have a4 : m 174 s.toNat = ty_T c := by rw [AM 174 _ (by omega) (by omega) (by omega) (by omega)]; exact (W1 174 _ (by omega) (by omega) (by omega) (by omega)).trans v34
  have a6 : m 176 s.toNat = ((t + 3 : Nat) : Int) := by rw [AM 176 _ (by omega) (by omega) (by omega) (by omega)]; exact (W1 176 _ (by omega) (by omega) (by omega) (by omega)).trans ((V34 176 _ (by omega) (by omega) (by omega)).trans p6)
  have EJ : ∀ cc x : Nat, ¬ ((cc = 34 ∧ (x = 1 ∨ x = 3)) ∨ (cc = 35 ∧ x1.2 34 1 ≤ (x : Int))) → gJ cc x = x1.2 cc x := fun cc x q => by
    have := SO.2.1.2.1.2.1.2.2.2.2.1
    have := KL.2.1.2.1.2.2.2.2.1
    rcases hJ with ⟨-, y⟩ | ⟨-, y⟩
    · rw [y]
    · exact y.2.2.2 cc x (by omega) (by omega)
  have l1h := KL.2.1.2.1.2.2.2.2.1
  have l10 := SO.2.1.2.1.2.1.2.2.2.2.1
  have l11 := SO.2.1.2.2.1.2.1
  have l12 := KL.2.2.1.2.1
  have x13 := SO.2.1.2.2.1.2.2.1
  have gJl : x1.2 34 1 ≤ gJ 34 1 ∧ gJ 34 1 ≤ x1.2 34 1 + 3 := by
    rcases hJ with ⟨-, y⟩ | ⟨-, y⟩
    · rw [y]; omega
    · have := y.1; omega
  have gJ3 : gJ 34 3 = 0 := by
    rcases hJ with ⟨-, y⟩ | ⟨-, y⟩
    · rw [y]; exact x13
    · rw [y.2.1]; split <;> omega
  have gJ7 := EJ 34 7 (by omega)
  have FJ : FRc gJ := frc_k SO.2.1.2.2.1.1 (fun cc x z => EJ cc x (by omega))
  cases d2 with
  | zero => exact fun _ z => nomatch z
  | succ d2 =>
    refine sjm_9 ((MT 167 _ (by omega)).trans nd) ?_
    refine pc_sv (P := fun y => y.1 = en ∧ MGq X PB WL L lb lh p q h r z m y.2) ?_ (fun y Hy => pc_ck (fun _ => pc_ret Hy))
    cases d2 with
    | zero => exact fun _ z => nomatch z
    | succ d2 =>
      show Pc (qo_X13_guard nn (qg_X13_make nn d2) s (m 160 50) m) _
      unfold qo_X13_guard
      refine pc_sv (r_lab (by omega)) ?_; intro u43 e43
      rw [e43]
      dsimp only
      generalize em1 : up_M m 160 88 (m 160 88 + 1) = m1
      have E1 : ∀ cc x : Nat, ¬ (cc = 160 ∧ x = 88) → m1 cc x = m cc x := fun cc x q => by rw [← em1, up_n q]
      have m1l : m1 160 88 = m 160 88 + 1 := by rw [← em1, up_s]
      have M1 : MKx X PB WL L h m1 := mk_lab M em1.symm
      have l68 : m1 160 68 = h 34 1 := by rw [E1 160 68 (by omega)]; exact h1m.symm
      rw [l68]
      refine pc_sv (r_put (by omega)) ?_; intro u46 RP
      have M46 : MKx X PB WL L g0 u46 := mk_op (mkx_c (g := up_M h 2 10 ((p + 1 : Nat) : Int)) M1 (fun cc x q1 q2 q3 => up_n (by omega))) A0 RP (fun _ => rfl) (by unfold in_R; omega)
      have E46 : ∀ cc x : Nat, ¬ (cc = 160 ∧ (x = 68 ∨ x = 88)) → ¬ cc = 206 → u46 cc x = m cc x := fun cc x c1 c2 => by rw [RP.2.2 cc x (by omega) (by omega)]; exact E1 cc x (by omega)
      have l46 : u46 160 88 = m 160 88 + 1 := by rw [RP.2.2 160 88 (by omega) (by omega)]; exact m1l
      have F46 : MWf m u46 := mwf_o (fun cc x q => E46 cc x (by omega) (by omega))
      refine pc_rA ?_; intro _ _ v48 e48
      rw [E46 170 _ (by omega) (by omega), MT 170 _ (by omega)] at e48
      rw [e48]
      have AA : AN (s + 1) y0 y1.2 m := an_s AM ⟨by omega, by omega⟩ (fun cc x c1 c2 c4 c5 => (W1 cc x c1 c2 (by omega) c5).trans (V34 cc x c1 c2 (by omega)))
      have AB : AN y0 b y7.2 m := an_s AM ⟨by omega, Int.le_refl _⟩ (fun cc x c1 c2 c4 c5 => by show w cc x = _; rw [ew, up_n (by omega)])
      have I1 := mgi_n2 (Z1 := []) (a2 := s + 1) (b2 := y0) (vF := y1.2) (uu := t) (t := p + 1) (L2 := L) (a := s + 1) (b := y0) (q := q) ⟨⟨I.1.1, AA⟩, I.2⟩ LP KL.2.1.2.1 KL.2.1.2.2 (by rw [pbz_n, wlz_n]; exact M46) (fun _ => rfl) ⟨F46, by omega, by omega⟩ (an_m AA (fun cc x c1 c2 => F46.2.1 cc x c1 c2)) (by omega)
      rw [pbz_n, wlz_n] at I1
      refine pc_sv (SO.2.2 d2 PB WL L lb lh u46 I1) ?_; intro u50 ⟨en50, G50⟩
      obtain ⟨⟨Z, MZ, zy1, zy2, zy3, zy4⟩, FZ, lz1, lz2⟩ := G50
      have MY0 : MGy lb lh g0 r x1.2 Z := mgy_of ⟨MZ, zy1, zy2, zy3, zy4⟩
      have c9 := KL.2.1.2.1.2.1
      have g12 : g0 33 12 = h 33 12 := by rw [A0.2.2 33 12 (by omega) (by omega), up_n (by omega)]
      have MY : MGy lb lh h r x1.2 Z := ⟨zy1, zy2, by rw [← g12]; exact zy3, fun j hj => by rw [← c9.1]; exact zy4 j hj, MY0.2.2.2.2⟩
      rw [c9.1, c9.2.1] at MZ
      have cbZ := MZ.1.1.1
      have F50 : MWf m u50.2 := mwf_t F46 FZ
      have IZ := mgi_n2 (Z1 := Z) (a2 := y0) (b2 := b) (vF := y7.2) (uu := q) (t := t) (L2 := L ++ Z) (a := y0) (b := b) (q := q) ⟨⟨I.1.1, AB⟩, I.2⟩ LP (cfs_t KL.2.1.2.1 SO.2.1.2.1.2.1) (rfs_t (a := s + 1) (b := y0) KL.2.1.2.2 SO.2.1.2.1.2.2 ⟨Int.le_refl _, Int.le_refl _⟩ ⟨Int.le_refl _, Int.le_refl _⟩) MZ zy2 ⟨F50, by omega, by omega⟩ (an_m AB (fun cc x c1 c2 => F50.2.1 cc x c1 c2)) (Nat.le_refl _)
      have WNZ := IZ.2.2.2.1
      rw [en50, ← cbZ.1]
      have c0 : 0 ≤ h 33 12 := by have := LP.1; omega
      -- from the handler on
      have T47 : ∀ (w3 : ms_M) (B3 : List (Int × Int)), MKx X (PBz PB lb Z) (WLz WL (h 33 9) (h 33 10) lb Z) ((L ++ Z) ++ B3) gJ w3 → MWf m w3 → w3 160 88 = u50.2 160 88 → ((x1.1 = 0 ∧ B3 = []) ∨ (¬ x1.1 = 0 ∧ B3 = [(x1.2 34 1, m 160 88 + 1)])) → Pc (qj_X13_guard_47 nn (qg_X13_make nn d2) s (m 160 50) (m 160 88 + 1) (h 34 1) x1.1 (x1.2 34 1) w3) (fun y => y.1 = en ∧ MGq X PB WL L lb lh p q h r z m y.2) := fun w3 B3 M3 F3 l3 hB => by
        have HDw := M3.1.2.2.2.2.1
        have b84 := M3.1.2.2.1.2.1.1.2
        have MT3 := (mk_t M3).1
        have CH : CHd (h 34 1) (x1.2 34 1) c gJ gH := c_hand (by
          by_cases q : w3 160 84 ≤ 20
          · have := HDw.2.1 q; have := HDw.1; omega
          · have := HDw.2.2.1 (by omega); omega) FJ (by omega) (by omega) (by omega) gH eH
        unfold qj_X13_guard_47
        have hd0 := HDw.1
        refine pc_add (by omega) ?_; intro v3' e3'
        refine pc_xl ?_; intro h4 e4
        refine pc_wA ?_; intro b1 b2 h6 e6
        refine pc_wA ?_; intro _ _ h8 e8
        refine pc_wA ?_; intro _ _ h11 e11
        have E8 : h8 160 68 = w3 160 68 := by rw [e8, up_n (by omega), e6, up_n (by omega), e4, up_n (by omega)]
        have E11 : ∀ cc x : Nat, ¬ (cc = 160 ∧ x = 84) → ¬ (213 ≤ cc ∧ cc ≤ 216) → h11 cc x = w3 cc x := fun cc x c1 c2 => by rw [e11, up_n (by omega), e8, up_n (by omega), e6, up_n (by omega), e4, up_n (by omega)]
        have w4 : w3 174 s.toNat = ty_T c := by rw [F3.2.1 174 _ (by omega) (by omega)]; exact a4
        have w6 : w3 176 s.toNat = ((t + 3 : Nat) : Int) := by rw [F3.2.1 176 _ (by omega) (by omega)]; exact a6
        refine pc_rA ?_; intro _ _ v14 e14
        rw [E11 174 _ (by omega) (by omega), w4] at e14
        refine pc_wA ?_; intro _ _ h15 e15
        have E15 : ∀ cc x : Nat, ¬ (cc = 160 ∧ x = 84) → ¬ (213 ≤ cc ∧ cc ≤ 216) → h15 cc x = w3 cc x := fun cc x c1 c2 => by rw [e15, up_n (by omega)]; exact E11 cc x c1 c2
        refine pc_rA ?_; intro _ _ v17 e17
        rw [E15 174 _ (by omega) (by omega), w4] at e17
        rw [e17]
        refine pc_sv r_push ?_; intro u19 RS
        have e5 : h15 = up_M (up_M (up_M (up_M (up_M w3 160 84 (w3 160 84 + 1)) 213 (w3 160 84).toNat (h 34 1)) 214 (w3 160 84).toNat (x1.2 34 1)) 215 (w3 160 84).toNat (w3 160 68)) 216 (w3 160 84).toNat (ty_T c) := by
          rw [e15, e14, e11, E8, e8, e6, e4, e3']
        refine pc_sv (mk_hand M3 CH e5 ⟨b1, b2⟩ RS ⟨rfl, bc'.2.2, by omega⟩ ⟨by omega, by omega⟩ (by rw [RS.2.2.2.2 160 68 (by omega) (by omega)]; exact E15 160 68 (by omega) (by omega)) (by omega) (by omega)) ?_; intro u22 ⟨M22, l22, E22⟩
        have hw7 := HW.2.2 34 7 (by omega) (by omega)
        have hw1 := HW.2.2 34 1 (by omega) (by omega)
        have hw3 := HW.2.1
        refine pc_sv (m_store (t := t + 3) (ty := c) M22 (by rw [if_neg (by omega)]; exact G1) G2 G3 G4 kk (by omega) (by omega) (by omega) (.inr (.inr (.inr (.inr (.inr (.inl (by omega))))))) ⟨by omega, by omega⟩ bc'.2.2 (fun p' k' y => by have := WNZ p' k' y; omega) (by omega) (by omega) (.inr ⟨rfl, by omega⟩)) ?_; intro u25 ⟨E25, P25⟩
        refine pc_rA ?_; intro _ _ v27 e27'
        rw [E25 176 _ (by omega) (by omega), E22 176 _ (by omega) (by omega), w6] at e27'
        refine pc_rA ?_; intro _ _ v29 e29
        rw [E25 174 _ (by omega) (by omega), E22 174 _ (by omega) (by omega), w4] at e29
        rw [e27', e29]
        refine pc_sv P25 ?_; intro u31 ⟨M31, E31⟩
        have W31 : ∀ cc x : Nat, ¬ (cc = 160 ∧ (x = 50 ∨ x = 68 ∨ x = 70 ∨ x = 71 ∨ x = 72 ∨ x = 78 ∨ x = 79 ∨ x = 84)) → ¬ (cc = 206 ∨ cc = 196 ∨ cc = 197 ∨ (207 ≤ cc ∧ cc ≤ 216)) → u31 cc x = w3 cc x := fun cc x c1 c2 => by
          rw [E31 cc x (by omega) (by omega)]; exact E22 cc x (by omega) (by omega)
        have F31 : MWf m u31 := mwf_t F3 (mwf_o (fun cc x q => W31 cc x (by omega) (by omega)))
        have l31 := W31 160 88 (by omega) (by omega)
        refine pc_rA ?_; intro _ _ v33 e33
        rw [(mk_t M31).1 171 _ (by omega)] at e33
        rw [e33]
        have MZ1 : MKx X (PBz PB lb Z) (WLz WL (h 33 9) (h 33 10) lb Z) ((L ++ Z) ++ B3) z1 u31 := mkx_c M31 (fun cc x c1 c2 c4 => by rw [← ez1, up_n (by omega)])
        have FF2 : MWf m u31 ∧ m 160 88 ≤ u31 160 88 ∧ u31 160 88 + 4 * (p : Int) ≤ m 160 88 + 4 * ((t + 5 : Nat) : Int) := ⟨F31, by omega, by omega⟩
        have I3 := mgi_n2 (Z1 := Z) (a2 := y0) (b2 := b) (vF := y7.2) (uu := q) (t := t + 5) (L2 := (L ++ Z) ++ B3) (a := y0) (b := b) (q := q) ⟨⟨I.1.1, AB⟩, I.2⟩ LP K5.2.1.2.1 K5.2.1.2.2 MZ1 zy2 FF2 (an_m AB (fun cc x c1 c2 => F31.2.1 cc x c1 c2)) (Nat.le_refl _)
        refine pc_sv (SO7.2.2 d2 _ _ _ lb lh u31 I3) ?_; intro u35 ⟨en35, G35⟩
        refine pc_xl ?_; intro h36 e36
        have C7 := SO7.2.1.2.1.2.1
        have z17 : h 34 7 ≤ z1 34 7 := K5.2.1.2.1.2.1.2.2.2
        have z7x : z1 34 7 ≤ x7.2 34 7 := C7.2.1.2.2.2
        have E27 : ∀ cc x : Nat, ¬ (cc = 34 ∧ x = 7) → h27 cc x = x7.2 cc x := fun cc x q => by rw [← e27, up_n q]
        have G36 := mg_out2 (z := h27) (uu := q) G35 (fun cc x q => E27 cc x (by omega)) (by rw [← e27, up_s]) e36 sM.1 sM.2.1 (by omega) (Nat.le_refl _)
        have MY5 : MGy lb lh h r z1 Z := mgy_k MY Cz z12 c0
        have zc9 : z1 33 9 = h 33 9 ∧ z1 33 10 = h 33 10 := ⟨K5.2.1.2.1.2.1.1, K5.2.1.2.1.2.1.2.1⟩
        have e54' : v3 160 54 = r 160 54 := K5.2.1.2.2.2.2.1.1
        have cb36 : h27 34 1 = h36 160 68 ∧ 0 ≤ h27 34 1 := by
          obtain ⟨⟨ZZ, MZZ, -⟩, -⟩ := G36
          exact MZZ.1.1.1
        have F27 : FRc h27 := frc_k SO7.2.1.2.2.1.1 (fun cc x q => E27 cc x (by omega))
        have l271 : h27 34 1 ≤ 900000 := by
          have := E27 34 1 (by omega)
          have := SO7.2.1.2.2.1.2.1
          have := K5.2.2.1.2.1
          omega
        have l273 : h27 34 3 = 0 := by rw [E27 34 3 (by omega)]; exact SO7.2.1.2.2.1.2.2.1
        have nfb : ¬ hs_L (m 160 88 + 1) (L ++ Z) := fun y => ((hs_app L Z).mp y).elim (mk_nL M (by omega)) (nzf _ (by omega) Z zy1 zy2)
        have nzb : ∀ Z : List (Int × Int), (∀ e ∈ Z, e.2 = lb ∨ e.2 = lh) → (v3 160 54 = 0 → Z = []) → ¬ hs_L (m 160 88 + 1) Z := fun Z y1 y2 => nzf _ (by omega) Z y1 (fun y => y2 (by rw [e54']; exact y))
        have ENDm : Pc (qf_X13_stands nn (m 160 88 + 1) (h36 160 68) h36) (fun w4 => MGq X (PBz PB lb Z) (WLz WL (h 33 9) (h 33 10) lb Z) (L ++ Z) lb lh (t + 5) q z1 v3 z u31 w4) := by
          rcases hz with ⟨q0, y⟩ | ⟨q0, y⟩
          · rcases hB with ⟨-, b0⟩ | ⟨q1, -⟩
            · rw [b0, List.append_nil] at G36
              rw [y]
              exact mgq_none G36 nfb nzb (by omega) (by omega)
            · exact absurd q0 q1
          · rcases hB with ⟨q1, -⟩ | ⟨-, b0⟩
            · exact absurd q1 q0
            · rw [b0] at G36
              exact mgq_aim3 G36 nfb nzb F27 y (by omega) rfl (by omega) (by omega)
        refine pc_sv ENDm ?_; intro u39 G39
        have CZ44 : ∀ x : Nat, (x : Int) < z1 33 12 → z 44 x = z1 44 x := fun x hx => by
          rcases hz with ⟨q0, y⟩ | ⟨q0, y⟩
          · rw [y, E27 44 x (by omega)]; exact C7.2.2.2.1.1 x hx
          · rw [(cah_o (n0 := 0) F27 (.inl (by omega)) (by omega) y).1 44 x (by omega) (by omega) (by omega), E27 44 x (by omega)]; exact C7.2.2.2.1.1 x hx
        have CZA : ∀ j, (j, lb) ∈ Z → AMd z j (h 33 9) := fun j hj => by
          have jb1 := MY5.2.2.2.2 j hj
          have jb0 := MY.2.2.2.2 j hj
          have A27 : AMd h27 j (h 33 9) := fun lt => by
            rw [E27 35 _ (by omega), E27 35 _ (by omega), C7.2.2.2.2.2 _ (by omega), C7.2.2.2.2.2 _ (by omega)]
            exact MY5.2.2.2.1 j hj lt
          rcases hz with ⟨q0, y⟩ | ⟨q0, y⟩
          · rw [y]; exact A27
          · exact amd_aim A27 (cah_o (n0 := 0) F27 (.inl (by omega)) (by omega) y).2 ⟨by omega, by omega, .inl (by omega)⟩
        have FINm : MGq X PB WL L lb lh p q h r z m u39 := mg_seq3 MY5 FF2 e54' CZ44 CZA zc9 c0 G39
        have en7 := SO7.1.2
        rw [en35]
        refine pc_if (fun q => pc_ret ⟨by show (1 : Int) = en; rw [een, if_neg q], FINm⟩) (fun q => ?_)
        have q0 : x1.1 = 0 := Classical.byContradiction q
        refine pc_if (fun q7 => pc_ret ⟨by show (0 : Int) = en; rw [een, if_pos q0, q7], FINm⟩) (fun q7 => pc_ret ⟨by show (1 : Int) = en; rw [een, if_pos q0]; omega, FINm⟩)
      refine pc_if (fun q0 => ?_) (fun q0 => ?_)
      · rcases hJ with ⟨-, y⟩ | ⟨y, -⟩
        · exact T47 u50.2 [] (by rw [List.append_nil, y]; exact MZ) F50 rfl (.inl ⟨q0, rfl⟩)
        · exact absurd q0 y
      · rcases hJ with ⟨y, -⟩ | ⟨-, y⟩
        · exact absurd y q0
        · refine pc_sv (r_jump (by omega)) ?_; intro u53 RJ
          have W5 := RJ.2.2.2.2.2.2
          have M53 := mkx_j0 MZ y RJ (by unfold in_R; omega) (by omega)
          rw [← cbZ.1] at M53
          exact T47 u53 _ M53 (mwf_t F50 (mwf_o (fun cc x q => W5 cc x (by omega) (by omega) (by omega)))) (W5 160 88 (by omega) (by omega) (by omega)) (.inr ⟨q0, rfl⟩)
theorem s6_ty (Y : CXs X) (Wb : BRw X) (ne : 0 ≤ a ∧ a ≤ s ∧ s < b) (yb : s < y0 ∧ y0 ≤ b) (nb : b ≤ 8999) (hd : 0 ≤ d ∧ d + 1 ≤ 40) (nd : bT X 167 s.toNat = 9 ∧ bT X 168 s.toNat = ((t + 2 : Nat) : Int) ∧ bT X 176 s.toNat = ((t + 3 : Nat) : Int)) (kp : bK X p = 29) (kk : bK X (t + 2) = 2 ∧ bK X (t + 3) = 2 ∧ bK X (t + 4) = 41) (H8 : S8 nn X (d + 1) (s + 1) y0 (p + 1) t (bT X 170 s.toNat)) (H8b : S8 nn X (d + 1) y0 b (t + 5) q (bT X 171 s.toNat)) : S6 nn X d a b p q s :=
  ty_cr Y Wb ne yb nb hd nd kp kk H8 H8b (fun h r z w bb en Q TR _ => m_ty Y ne yb nb nd.1 kk.2.1 Q TR)
end
