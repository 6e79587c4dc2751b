/- while: the making of the loop's S and what is behind it -/
section
variable {nn : Nat} {X : BCx} {a b s e1 e2 y0 ix bb d lbN lhN l5 l7 hb en had c5 : Int} {p t q : Nat} {h r g v g26 h214 h6 gC gD z0 m1 w u : ms_M} {x4 y4 : Int × ms_M} {PB : Nat → Prop} {WL : Int → Int → Prop} {L C Z Z' : List (Int × Int)} {js : List Int} {d2 : Nat}
/-- the lists of a loop's jumps: what is left when both labels stand -/
theorem whl_l (nl : ∀ e ∈ L, e.2 < lbN) (el : lhN = lbN + 1) (hC : (¬ l5 = 0 ∧ C = []) ∨ (l5 = 0 ∧ C = [(l7, lhN)])) (zy : ∀ e ∈ Z', e.2 = lbN ∨ e.2 = lhN) : (∀ j, (j, lbN) ∈ L ++ (C ++ Z') ↔ (j, lbN) ∈ Z') ∧ pl_L lhN (fl_L lbN (L ++ (C ++ Z'))) = (if l5 = 0 then [l7] else []) ++ pl_L lhN Z' ∧ fl_L lhN (fl_L lbN (L ++ (C ++ Z'))) = L := by
  have nb : ¬ hs_L lbN L := fun y => by
    obtain ⟨j, hj⟩ := (hs_mem L).mp y
    have := nl _ hj
    have : lbN < lbN := this
    omega
  have nh : ¬ hs_L lhN L := fun y => by
    obtain ⟨j, hj⟩ := (hs_mem L).mp y
    have : lhN < lbN := nl _ hj
    omega
  have ncb : ¬ hs_L lbN C := fun y => by
    obtain ⟨j, hj⟩ := (hs_mem C).mp y
    rcases hC with ⟨-, c⟩ | ⟨-, c⟩
    · rw [c] at hj; exact (nomatch hj)
    · rw [c] at hj
      have e := congrArg Prod.snd (List.mem_singleton.mp hj)
      have e : lbN = lhN := e
      omega
  have pz : ∀ Z : List (Int × Int), (∀ e ∈ Z, e.2 = lbN ∨ e.2 = lhN) → pl_L lhN (fl_L lbN Z) = pl_L lhN Z ∧ fl_L lhN (fl_L lbN Z) = [] := by
    intro Z
    induction Z with
    | nil => exact fun _ => ⟨rfl, rfl⟩
    | cons e Z ih =>
      intro hz
      obtain ⟨i1, i2⟩ := ih (fun e he => hz e (List.mem_cons_of_mem _ he))
      by_cases c : e.2 = lbN
      · have c2 : ¬ e.2 = lhN := by omega
        simp only [fl_L, pl_L, if_pos c, if_neg c2]
        exact ⟨i1, i2⟩
      · have c2 : e.2 = lhN := (hz e (List.mem_cons_self ..)).resolve_left c
        simp only [fl_L, pl_L, if_neg c, if_pos c2]
        exact ⟨by rw [i1], i2⟩
  obtain ⟨z1, z2⟩ := pz Z' zy
  refine ⟨fun j => ⟨fun y => ?_, fun y => List.mem_append_right _ (List.mem_append_right _ y)⟩, ?_, ?_⟩
  · rcases List.mem_append.mp y with y | y
    · exact absurd ((hs_mem L).mpr ⟨j, y⟩) nb
    · rcases List.mem_append.mp y with y | y
      · exact absurd ((hs_mem C).mpr ⟨j, y⟩) ncb
      · exact y
  · rw [fl_app, fl_app, fl_no L nb, fl_no C ncb, pl_app, pl_app, z1, (pl_hs L).1 nh, List.nil_append]
    rcases hC with ⟨q, c⟩ | ⟨q, c⟩
    · rw [c, if_neg q]; rfl
    · rw [c, if_pos q]; simp [pl_L]
  · rw [fl_app (l := lbN) L, fl_app (l := lbN) C, fl_no L nb, fl_no C ncb, fl_app (l := lhN) L, fl_app (l := lhN) C, z2, fl_no L nh]
    rcases hC with ⟨q, c⟩ | ⟨q, c⟩
    · rw [c]; simp [fl_L]
    · rw [c]; simp [fl_L]
theorem mwf_jw {o l : Int} (ew : qf_X13_jump nn o l m1 = some w) : MWf m1 w := mwf_o (fun cc y q => ff_X13_jump nn w ew cc y (nw_of (by unfold wl_X13_jump; simp only [List.mem_cons, List.not_mem_nil, or_false]; omega) (by unfold wf_X13_jump; simp only [List.mem_cons, List.not_mem_nil, or_false, Prod.mk.injEq]; omega)))
/-- from the loop's S on -/
theorem m_whM (hd : d ≤ 40) (Q : SPq X d p bb h r) (KL : SKl X (s + 1) y0 p (t + 1) bb h r g v) (g7 : g 34 7 = h 34 7) (g12 : g 33 12 = h 33 12) (gl : g 34 1 + 20 * (p : Int) + 20 ≤ h 34 1 + 20 * ((t + 1 : Nat) : Int)) (e26 : g26 = up_M (up_M g 33 9 (h 34 1)) 33 10 (g 34 7)) (e214 : h214 = up_M (up_M v 160 54 (v 160 54 + 1)) 198 (v 160 54 + 1).toNat 0) (SO : SOk nn X e2 y0 b (t + 1) q (g 33 12) g26 h214 x4 y4) (e6 : h6 = up_M x4.2 34 7 (g26 34 7)) (CT : CWt (h 34 1) (h 33 12) l5 l7 x4.1 h6 gC gD z0 js) (ne : 0 ≤ s) (ee2 : bT X 171 s.toNat = e2) (c3 : bc X ≤ 3001) (M1 : MKx X PB WL (L ++ C) g m1) (hC : (¬ l5 = 0 ∧ C = []) ∨ (l5 = 0 ∧ C = [(l7, lhN)])) (el : lhN = lbN + 1) (nl : ∀ e ∈ L, e.2 < lbN) (l88 : lhN ≤ m1 160 88) (m57 : m1 160 57 = 0) (m54 : m1 160 54 = r 160 54) (m51 : m1 160 51 = r 160 51) (m50 : m1 160 50 = had) (a5 : m1 175 s.toNat = c5) (a6 : m1 176 s.toNat = hb) (A2 : AN y0 b y4.2 m1) (b88 : m1 160 88 + 4 * (q : Int) ≤ 2000000000 + 4 * ((t + 1 : Nat) : Int)) (WN : ∀ p n, WL p n → n ≤ h 34 7) (nW : ∀ p n, WL p n → p < h 34 1) (hen : (en = 0 ∧ ¬ c5 = 0 ∧ ¬ hb = 1) ∨ (en = 1 ∧ (c5 = 0 ∨ hb = 1))) (l7A : l5 = 0 → h 34 1 ≤ l7) : Pc (qj_X13_makeLoop_55 nn (qg_X13_make nn d2) s had lbN lhN (h 34 1) m1) (fun y => y.1 = en ∧ MKx X PB WL L z0 y.2 ∧ MWf m1 y.2 ∧ m1 160 88 ≤ y.2 160 88 ∧ y.2 160 88 + 4 * ((t + 1 : Nat) : Int) ≤ m1 160 88 + 4 * (q : Int)) := by
  obtain ⟨⟨en1, en2⟩, SK, MG⟩ := SO
  obtain ⟨⟨B, ⟨q1, q2, q3, q4⟩, ⟨f1, f2, f3⟩, o1⟩, -, ⟨LP, l54, br⟩, -⟩ := Q
  have v54 : v 160 54 = r 160 54 := KL.2.1.2.2.2.2.1.1
  have v51 : v 160 51 = r 160 51 := KL.2.1.2.2.1 160 51 (by omega)
  have G26 : ∀ cc x : Nat, ¬ (cc = 33 ∧ (x = 9 ∨ x = 10)) → g26 cc x = g cc x := fun cc x q => by rw [e26, up_n (by omega), up_n (by omega)]
  have n9 : g26 33 9 = h 34 1 := by rw [e26, up_n (by omega), up_s]
  have n10 : g26 33 10 = g 34 7 := by rw [e26, up_s]
  have w7 := G26 34 7 (by omega)
  have w1 := G26 34 1 (by omega)
  have w12 := G26 33 12 (by omega)
  have s1 := M1.1.2.2.2.1.1
  unfold qj_X13_makeLoop_55
  refine pc_add (by omega) ?_; intro v13 e13
  refine pc_xl ?_; intro h14 e14
  have l14 : h14 160 54 = m1 160 54 + 1 := by rw [e14, up_s]; omega
  refine pc_wA ?_; intro _ _ h17 e17
  have l17 : h17 160 54 = m1 160 54 + 1 := by rw [e17, up_n (by omega)]; exact l14
  refine pc_wA ?_; intro _ _ h20 e20
  rw [l17] at e20
  rw [l14] at e17
  have E20 : ∀ cc x : Nat, ¬ (cc = 160 ∧ x = 54) → ¬ ((cc = 219 ∨ cc = 220) ∧ x = (m1 160 54 + 1).toNat) → h20 cc x = m1 cc x := fun cc x c1 c2 => by rw [e20, up_n (by omega), e17, up_n (by omega), e14, up_n (by omega)]
  have l20 : h20 160 54 = m1 160 54 + 1 := by rw [e20, up_n (by omega)]; exact l17
  have M20 : MKx X PB WL (L ++ C) g26 h20 := mk_r4 (mk_c M1 (fun cc x z => G26 cc x (by rcases z with z | z | z <;> first | (unfold RLc at z; omega) | omega))) (fun cc x c1 c2 c4 c5 => E20 cc x (by omega) (by omega))
  have x54 : h214 160 54 = r 160 54 + 1 := by rw [e214, up_n (by omega), up_s]; omega
  refine pc_rA ?_; intro _ _ v22 e22
  rw [(mk_t M20).1 171 _ (by omega), ee2] at e22
  rw [e22]
  have I20 : MGi X PB WL (L ++ C) lbN lhN y0 b (t + 1) q g26 h214 y4.2 h20 := by
    refine ⟨⟨M20, fun cc x c1 c2 c4 c5 => by rw [E20 cc x (by omega) (by omega)]; exact A2 cc x c1 c2 c4 c5⟩, ⟨by rw [E20 160 57 (by omega) (by omega)]; exact m57, by rw [E20 160 88 (by omega) (by omega)]; exact b88, by omega, ?_⟩, fun _ => ?_, fun p n y => by have := WN p n y; omega, fun _ k y => ?_⟩
    · rw [E20 160 51 (by omega) (by omega), e214, up_n (by omega), up_n (by omega)]; omega
    · refine ⟨?_, ?_, by omega, by rw [E20 160 88 (by omega) (by omega)]; exact l88⟩
      · rw [x54, e20, up_n (by omega), e17, m54, up_s]
      · rw [x54, e20, m54, up_s]
    · rw [n9] at y
      have := nW _ _ y
      omega
  refine pc_sv (MG d2 PB WL (L ++ C) lbN lhN h20 I20) ?_; intro u24 ⟨en24, ⟨Z, MZ, zy1, zy2, zy3, zy4⟩, FZ, lz1, lz2⟩
  rw [n9, n10] at MZ
  rw [n9] at zy4
  have lE := E20 160 88 (by omega) (by omega)
  have k54 : u24.2 160 54 = m1 160 54 + 1 := by rw [FZ.1.2.1]; exact l20
  refine pc_sub (by omega) ?_; intro v26 e26'
  refine pc_xl ?_; intro h27 e27
  refine pc_xl ?_; intro h28 e28
  have M27 := mk_r4 (w := h27) MZ (fun cc x c1 c2 c4 c5 => by rw [e27, up_n (by omega)])
  have C7 := SK.2.1.2.1
  have c77 := C7.2.1.2.2.2
  have M28 := mk_sight M27 e6 e28 (by omega) (by omega) c77
  have E28 : ∀ cc x : Nat, ¬ (cc = 160 ∧ (x = 50 ∨ x = 54)) → h28 cc x = u24.2 cc x := fun cc x c => by rw [e28, up_n (by omega), e27, up_n (by omega)]
  have E6 : ∀ cc x : Nat, ¬ (cc = 34 ∧ x = 7) → h6 cc x = x4.2 cc x := fun cc x q => by rw [e6, up_n q]
  have z7 : h6 34 7 = g 34 7 := by rw [e6, up_s]; omega
  have i1 := E6 34 1 (by omega)
  have i3 := E6 34 3 (by omega)
  have x3 := SK.2.2.1.2.2.1
  have kl1 := SK.2.2.1.2.1
  have qc := SK.1.2.1
  have c8 := C7.2.2.2.2.1
  have gh : h 34 1 ≤ g 34 1 := KL.2.1.2.1.2.2.2.2.1
  have F28 : MWf m1 h28 := by
    refine ⟨⟨?_, ?_, ?_⟩, fun cc x c1 c2 => ?_, fun x hx => ?_⟩
    · rw [E28 160 57 (by omega), FZ.1.1]; exact E20 160 57 (by omega) (by omega)
    · rw [e28, up_n (by omega), e27, up_s]; omega
    · rw [E28 160 51 (by omega), FZ.1.2.2]; exact E20 160 51 (by omega) (by omega)
    · rw [E28 cc x (by omega), FZ.2.1 cc x c1 c2]; exact E20 cc x (by omega) (by omega)
    · have y := FZ.2.2 x (by omega)
      exact ⟨by rw [E28 219 x (by omega), y.1]; exact E20 219 x (by omega) (by omega), by rw [E28 220 x (by omega), y.2]; exact E20 220 x (by omega) (by omega)⟩
  have k88 : h28 160 88 = u24.2 160 88 := E28 160 88 (by omega)
  obtain ⟨cJ, cD, cB, cH⟩ := CT
  -- behind the jump back
  have FIN : ∀ (m : ms_M) (Z' : List (Int × Int)), MKx X (PBz PB lbN Z') (WLz WL (h 34 1) (g 34 7) lbN Z') (L ++ (C ++ Z')) gC m → (∀ e ∈ Z', e.2 = lbN ∨ e.2 = lhN) → (∀ j, (j, lbN) ∈ Z' → AMd gC j (h 34 1)) → pl_L lhN Z' = js → gC 34 1 ≤ 990000 → gC 34 3 = 0 → MWf h28 m → m 160 88 = h28 160 88 → m 160 50 = had → Pc (qj_X13_makeLoop_126 nn (qg_X13_make nn d2) s lbN lhN (h 34 1) m) (fun y => y.1 = en ∧ MKx X PB WL L z0 y.2 ∧ MWf m1 y.2 ∧ m1 160 88 ≤ y.2 160 88 ∧ y.2 160 88 + 4 * ((t + 1 : Nat) : Int) ≤ m1 160 88 + 4 * (q : Int)) := fun m Z' Mm zz am pj b1 b3 Fm lm mh => by
    obtain ⟨t1, t2, t3⟩ := whl_l nl el hC zz
    have CH2 : CHs ((if l5 = 0 then [l7] else []) ++ js) gC z0 := by
      rcases cD with ⟨c, e⟩ | ⟨c, e⟩
      · rw [if_neg c, ← e]; exact cH
      · rw [if_pos c]; exact ⟨gD, e, cH⟩
    have FM := mwf_t F28 Fm
    rw [← pj] at CH2
    refine pc_imp (m_whE Mm t1 am (by omega) b1 b3 (fun k y => by have := nW _ _ y; omega) (by omega) t2 CH2 t3 (by rw [FM.2.1 175 _ (by omega) (by omega)]; exact a5) (by rw [FM.2.1 176 _ (by omega) (by omega)]; exact a6) hen) (fun y ⟨y1, y2, y3, y4⟩ => ⟨y1, y2, mwf_t FM y3, by omega, by omega⟩)
  have JS : ∀ gE : ms_M, (∀ x : Nat, gE 44 x = x4.2 44 x) → gE 33 12 = x4.2 33 12 → BRl gE (h 33 12) (gE 33 12) js → pl_L lhN Z = js := fun gE c1 c2 cB => by
    have zb := brl_k (w := gE) zy3 c1
    rw [w12, g12, ← c2] at zb
    exact brl_u zb cB
  have hs6 : ∀ gE : ms_M, FRc gE → (∀ x : Nat, gE 44 x = x4.2 44 x) → gE 33 12 = x4.2 33 12 → gE = gC → 0 ≤ gE 34 1 → pl_L lhN Z = js := fun gE Fg c1 c2 eg g0 => by
    refine JS gD (fun x => ?_) ?_ cB
    · rcases cD with ⟨c, e⟩ | ⟨c, e⟩
      · rw [e, ← eg]; exact c1 x
      · rw [← eg] at e
        rw [(cah_o (n0 := 0) Fg (.inl (by have := l7A c; omega)) (by omega) e).1 44 x (by omega) (by omega) (by omega)]; exact c1 x
    · rcases cD with ⟨c, e⟩ | ⟨c, e⟩
      · rw [e, ← eg]; exact c2
      · rw [← eg] at e
        rw [(cah_o (n0 := 0) Fg (.inl (by have := l7A c; omega)) (by omega) e).1 33 12 (by omega) (by omega) (by omega)]; exact c2
  have F6 : FRc h6 := frc_k SK.2.2.1.1 (fun cc x q => E6 cc x (by omega))
  have am6 : ∀ j, (j, lbN) ∈ Z → AMd h6 j (h 34 1) := fun j hj lt => by
    rw [E6 35 _ (by omega), E6 35 _ (by omega)]
    exact zy4 j hj lt
  rw [List.append_assoc] at M28
  refine pc_if (fun z => ?_) (fun z => ?_)
  · have e0 : x4.1 = 0 := en24.symm.trans z
    have eC : gC = h6 := cJ.elim (fun y => y.2) (fun y => absurd e0 y.1)
    refine FIN h28 Z (by rw [eC]; exact M28) zy1 (fun j hj => by rw [eC]; exact am6 j hj) (hs6 h6 F6 (fun x => E6 44 x (by omega)) (E6 33 12 (by omega)) eC.symm (by omega)) (by rw [eC]; omega) (by rw [eC]; omega) mwf_r rfl (by rw [e28, up_s])
  · have e0 : ¬ x4.1 = 0 := fun y => z (en24.trans y)
    have J : CJb (h 34 1) (h6 34 7) h6 gC := cJ.elim (fun y => absurd y.1 e0) (fun y => y.2)
    obtain ⟨FC, j1, j3, EJ, AJ⟩ := cjb_f F6 (by omega) J
    have lk : lbN ≤ h28 160 88 := by omega
    refine pc_sv (pc_and (mk_back M28 J (by omega) (by omega) (by omega) (fun k y => ?_) lk) (fun w ew => ⟨mwf_jw ew, ff_X13_jump nn w ew 160 50 rfl⟩ : Pc _ (fun w : ms_M => MWf h28 w ∧ w 160 50 = h28 160 50))) ?_
    · rcases y with y | y
      · exact absurd (nW _ _ y) (by omega)
      · rw [y.2.2]; exact z7.symm
    · intro u30 ⟨⟨M30, F30, l30⟩, W30'⟩
      have W30 : MWf h28 u30 ∧ u30 160 50 = h28 160 50 := W30'
      have e68 : h28 160 68 = h6 34 1 := M28.1.1.1.1.symm
      rw [z7, ← pbz_1 (lb := lbN), ← wlz_1 (lb := lbN) (j := h28 160 68), pbz_a, wlz_a, List.append_assoc, List.append_assoc] at M30
      refine FIN u30 (Z ++ [(h28 160 68, lbN)]) M30 (fun e he => ?_) (fun j hj => ?_) ?_ (by omega) (by rw [j3 (by omega)]; omega) W30.1 l30 (by rw [W30.2, e28, up_s])
      · rcases List.mem_append.mp he with he | he
        · exact zy1 e he
        · rw [List.mem_singleton.mp he]; exact .inl rfl
      · rcases List.mem_append.mp hj with hj | hj
        · have jb := (jlb_m M28.1.2.1.2).1 (j, lbN) (List.mem_append_right _ (List.mem_append_right _ hj))
          have jb : 0 ≤ j ∧ j + 3 ≤ h28 160 68 ∧ lbN ≤ h28 160 88 := jb
          intro lt
          rw [EJ 35 _ (by omega) (by omega) (by omega), EJ 35 _ (by omega) (by omega) (by omega)]
          exact am6 j hj lt
        · have ej : j = h28 160 68 := congrArg Prod.fst (List.mem_singleton.mp hj)
          rw [ej, e68]; exact AJ
      · have nlb : ¬ lbN = lhN := by omega
        rw [pl_app, hs6 gC FC (fun x => by rw [EJ 44 x (by omega) (by omega) (by omega)]; exact E6 44 x (by omega)) (by rw [EJ 33 12 (by omega) (by omega) (by omega)]; exact E6 33 12 (by omega)) rfl (by omega)]
        simp [pl_L, nlb]
end
