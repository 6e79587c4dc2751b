/- S of both sides: BLOCK, whole -/
section
variable {nn : Nat} {X : BCx} {dp i a b a1 b1 a2 b2 e s bb lb lh d d1 o en k ix y0 : Int} {p q t uu : Nat} {h g u r w w1 m z v vF : ms_M} {PB : Nat → Prop} {WL : Int → Int → Prop} {L Z1 : List (Int × Int)}
theorem lpx_s {l : Int} (P : LPx bb h r) (P2 : LPx bb g v) (e9 : z 33 9 = h 33 9) (e10 : z 33 10 = h 33 10) (g9 : g 33 9 = h 33 9) (g10 : g 33 10 = h 33 10) (e12 : z 33 12 = g 33 12) (l1 : g 34 1 ≤ z 34 1) (l7 : h 34 7 ≤ z 34 7) (v54 : w 160 54 = v 160 54) (v98 : w 198 (v 160 54).toNat = v 198 (v 160 54).toNat) (h54 : v 160 54 = r 160 54) : LPx bb z w := by
  obtain ⟨p1, p2⟩ := P
  obtain ⟨q1, q2⟩ := P2
  refine ⟨by omega, ?_⟩
  rw [v54, v98, e9, e10, e12]
  rw [g9, g10] at q2
  rcases q2 with y | ⟨y1, y2, y3, y4⟩
  · exact .inl y
  · rcases p2 with z | ⟨z1, z2, z3, z4⟩
    · omega
    · exact .inr ⟨y1, by omega, by omega, y4⟩
/-- variables go out of sight behind an S -/
theorem sk_out (Q : SPq X d p bb h r) (Wb : BRw X) (K : SKl X a b p q bb h r g v) (ez : ∀ cc x : Nat, ¬ ((cc = 2 ∧ x = 10) ∨ (cc = 34 ∧ x = 7)) → z cc x = g cc x) (z7 : z 34 7 = h 34 7) (z10 : z 2 10 = (uu : Int)) (ew : w = up_M v 160 50 (r 160 50)) (qu : q ≤ uu ∧ uu < bc X ∧ p < uu) : SKk X a b p uu bb h r z w := by
  obtain ⟨⟨B, -, -, -⟩, -, ⟨LP, l54, br⟩, -⟩ := Q
  obtain ⟨⟨k1, k2, k3, k4, k5⟩, ⟨k6, k7, k8⟩, ⟨k9, k10, k11, k12, k13⟩, k14, k15, k16⟩ := K
  have bm := brw_l Wb (p := q) (q := uu) (by omega) (by omega)
  have E2 : ∀ cc x : Nat, ¬ (cc = 160 ∧ x = 50) → w cc x = v cc x := fun cc x q => by rw [ew, up_n q]
  have z1 := ez 34 1 (by omega)
  have z12 := ez 33 12 (by omega)
  have s1 := B.2.1.1
  have BZ : BX X z w := by
    have B1 : BX X (up_M g 34 7 (h 34 7)) w := bx_sight k6 rfl ew (by omega) (by omega) k7.2.1.2.2.2
    exact bx_k B1 (fun cc x q => by
      by_cases y : cc = 34 ∧ x = 7
      · rw [y.1, y.2, up_s]; exact z7
      · rw [up_n y]; exact ez cc x (by omega)) (fun _ _ _ => rfl)
  refine ⟨⟨z10, by omega, by omega, by rw [ez 2 11 (by omega)]; exact k4, by rw [E2 160 9 (by omega)]; exact k5⟩, ⟨BZ, ?_, ?_⟩, ⟨frc_k k9 (fun cc x q => ez cc x (by omega)), by omega, by rw [ez 34 3 (by omega)]; exact k11, by rw [ez 49 10 (by omega)]; exact k12, by rw [ez 49 18 (by omega)]; omega⟩, by omega, by omega, ?_⟩
  · obtain ⟨a1, ⟨a2, a3, a4, a5⟩, a6, a7, a8, a9⟩ := k7
    exact ⟨fun cc x q => by rw [ez cc x (by omega)]; exact a1 cc x q, ⟨by rw [ez 33 9 (by omega)]; exact a2, by rw [ez 33 10 (by omega)]; exact a3, by omega, by omega⟩, fun x hx => ⟨by rw [ez 37 x (by omega)]; exact (a6 x hx).1, by rw [ez 38 x (by omega)]; exact (a6 x hx).2⟩, ⟨fun x hx => by rw [ez 44 x (by omega)]; exact a7.1 x hx, fun x c1 c2 => by
      have y := a7.2 x c1 (by omega)
      rw [ez 44 x (by omega)]; omega⟩, by omega, fun x hx => by rw [ez 35 x (by omega)]; exact a9 x hx⟩
  · obtain ⟨a1, a2, ⟨a3, a4, a5⟩, a6, a7⟩ := k8
    exact ⟨fun cc x q => by rw [E2 cc x (by omega)]; exact a1 cc x q, fun cc x c1 c2 c4 => by rw [E2 cc x (by omega)]; exact a2 cc x c1 c2 c4, ⟨by rw [E2 160 54 (by omega)]; exact a3, by rw [E2 160 57 (by omega)]; exact a4, by rw [ew, up_s]; exact Int.le_refl _⟩, fun x hx => ⟨by rw [E2 196 x (by omega)]; exact (a6 x hx).1, by rw [E2 197 x (by omega)]; exact (a6 x hx).2⟩, fun x hx => by rw [E2 198 x (by omega)]; exact a7 x hx⟩
  · exact lpx_s (l := 0) LP k16 (by rw [ez 33 9 (by omega)]; exact k7.2.1.1) (by rw [ez 33 10 (by omega)]; exact k7.2.1.2.1) k7.2.1.1 k7.2.1.2.1 z12 (by omega) (by omega) (E2 160 54 (by omega)) (E2 198 _ (by omega)) k8.2.2.1.1
/-- .. and in the making -/
theorem mg_out {w0 : ms_M} (G : MGq X PB WL L lb lh p q h r g m w0) (MI : MKx X PB WL L h m) (Cf : CFs h g) (ez : ∀ cc x : Nat, ¬ ((cc = 2 ∧ (x = 10 ∨ x = 11 ∨ x = 12)) ∨ (cc = 34 ∧ x = 7)) → z cc x = g cc x) (z7 : z 34 7 = h 34 7) (ew : w = up_M w0 160 50 (m 160 50)) (pq : q ≤ uu) : MGq X PB WL L lb lh p uu h r z m w := by
  obtain ⟨⟨Z, M, y1, y2, y3, y4⟩, F, l1, l2⟩ := G
  have E2 : ∀ cc x : Nat, ¬ (cc = 160 ∧ x = 50) → w cc x = w0 cc x := fun cc x q => by rw [ew, up_n q]
  have s1 := MI.1.2.2.2.1.1
  have M1 : MKx X (PBz PB lb Z) (WLz WL (h 33 9) (h 33 10) lb Z) (L ++ Z) (up_M g 34 7 (h 34 7)) w := mk_sight M rfl ew (by omega) (by omega) Cf.2.1.2.2.2
  have M2 : MKx X (PBz PB lb Z) (WLz WL (h 33 9) (h 33 10) lb Z) (L ++ Z) z w := mkx_c M1 (fun cc x q1 q2 q3 => by
    by_cases y : cc = 34 ∧ x = 7
    · rw [y.1, y.2, up_s]; exact z7
    · rw [up_n y]; exact ez cc x (by omega))
  refine ⟨⟨Z, M2, y1, y2, ⟨by rw [ez 33 12 (by omega)]; exact y3.1, fun i hi => by rw [ez 44 _ (by omega)]; exact y3.2 i hi⟩, fun j hj lt => by rw [ez 35 _ (by omega), ez 35 _ (by omega)]; exact y4 j hj lt⟩, mwf_t F (mwf_o (fun cc x q => E2 cc x (by omega))), by rw [E2 160 88 (by omega)]; exact l1, by rw [E2 160 88 (by omega)]; omega⟩
theorem s8_bk (Y : CXs X) (Wb : BRw X) (ne : 0 ≤ a ∧ a ≤ s ∧ s < b) (nd : bT X 167 s.toNat = 1) (kp : bK X p = 42) (H : S7 nn X d (s + 1) b (p + 1) t (bT X 170 s.toNat)) (kt : bK X t = 43) (pt : p + 1 ≤ t) : S8 nn X d a b p (t + 1) s := by
  intro dc dr h r bb Q U
  have Q0 := Q
  obtain ⟨Qe, ⟨h3, h10, r57, h7⟩, ⟨LP, l54, br⟩, -⟩ := Q0
  have Qe0 := Qe
  obtain ⟨B, ⟨q1, q2, q3, q4⟩, ⟨f1, f2, f3⟩, o1⟩ := Qe0
  have T : ∀ cc y : Nat, ((163 ≤ cc ∧ cc ≤ 173) ∨ cc = 177) → r cc y = bT X cc y := B.2.2.2.2.2.1
  have c3 := Y.1.2.1
  have tc : t < bc X := tb_lt Y.1 (by omega)
  have t1c : t + 1 < bc X := jp_lt Y.1 tc (by omega)
  have bm := brw_l Wb (p := p) (q := p + 1) (by omega) (by omega)
  cases dc with
  | zero => exact fun _ z => nomatch z
  | succ dc =>
    show Pc (qo_X0_readBlock nn (qg_X0_readBlock nn dc) d h) _
    unfold qo_X0_readBlock
    rw [q1]
    refine pc_add (by omega) ?_; intro v29 e29
    refine pc_xl ?_; intro h30 e30
    have E30 : ∀ cc x : Nat, ¬ (cc = 2 ∧ x = 10) → h30 cc x = h cc x := fun cc x z => by rw [e30, up_n z]
    have Qe30 : EPr X d (p + 1) h30 r := epr_in Qe E30 (by rw [e30, up_s]; omega) (by omega) (by omega)
    have Q30 : SPq X d (p + 1) bb h30 r := by
      refine ⟨Qe30, ⟨by rw [E30 34 3 (by omega)]; exact h3, by rw [E30 49 10 (by omega)]; exact h10, r57, by rw [E30 34 7 (by omega)]; omega⟩, ⟨lpx_k LP (E30 33 9 (by omega)) (E30 33 10 (by omega)) (E30 33 12 (by omega)) (by rw [E30 34 1 (by omega)]; exact Int.le_refl _) (by rw [E30 34 7 (by omega)]; exact Int.le_refl _) rfl rfl, l54, by rw [E30 33 12 (by omega)]; omega⟩, ?_⟩
      rw [E30 33 8 (by omega)]
      exact Q.2.2.2
    have C30 : CFs h h30 := cfs_o (fun cc x q => E30 cc x (by omega)) (by rw [E30 34 1 (by omega)]; exact Int.le_refl _)
    intro x ex
    cases dr with
    | zero => exact fun _ z => nomatch z
    | succ dr =>
      refine sju_1 q4 ((T 167 _ (by omega)).trans nd) ?_
      refine pc_rA ?_; intro _ _ v176 e176
      rw [T 170 _ (by omega)] at e176
      rw [e176]
      refine pc_imp (H dc dr nn nn h30 r bb (h 34 7) 1 0 (r 160 50) Q30 (unr_k U ⟨by omega, Int.le_refl _⟩ (fun _ _ _ _ _ _ => rfl)) (.inr rfl) (by omega) x ex) (fun y Hy => ?_)
      rcases Hy with S | ⟨en, g, v, k1, k2, k3, k4, k5⟩
      · exact .inl S
      · -- h in place of h30
        have KL : SKl X (s + 1) b p t bb h r g v := by
          obtain ⟨⟨j1, j2, j3, j4⟩, ⟨j5, j6, j7⟩, ⟨j8, j9, j10⟩, j11, j12, j13⟩ := k4
          have e1 := E30 34 1 (by omega)
          have e7 := E30 34 7 (by omega)
          have e12 := E30 33 12 (by omega)
          exact ⟨⟨j1, j2, by omega, j4⟩, ⟨j5, cfs_t C30 j6, j7⟩, ⟨j8, by omega, j10⟩, by omega, by omega, j13⟩
        have KA : SKl X a b p t bb h r g v := ⟨KL.1, ⟨KL.2.1.1, KL.2.1.2.1, rfs_t (a := a) (b := b) rfs_r KL.2.1.2.2 ⟨Int.le_refl _, Int.le_refl _⟩ ⟨by omega, Int.le_refl _⟩⟩, KL.2.2⟩
        have pt2 := KL.1.2.2.1
        generalize ezz : up_M (up_M g 2 10 ((t + 1 : Nat) : Int)) 34 7 (h 34 7) = z at k2
        have ez := ezz.symm
        have EZ : ∀ cc x : Nat, ¬ ((cc = 2 ∧ x = 10) ∨ (cc = 34 ∧ x = 7)) → z cc x = g cc x := fun cc x q => by rw [ez, up_n (by omega), up_n (by omega)]
        have z7 : z 34 7 = h 34 7 := by rw [ez, up_s]
        refine .inr ?_
        rw [k2, k3]
        refine ⟨⟨rfl, k1⟩, sk_out Q Wb KA EZ z7 (by show z 2 10 = _; rw [ez, up_n (by omega), up_s]) rfl (by omega), ?_⟩
        intro d2 PB WL L lb lh m I
        obtain ⟨⟨M, AM⟩, ⟨m57, m88, m54, m51⟩, LB, WN, CO⟩ := I
        have MT := (mk_t M).1
        cases d2 with
        | zero => exact fun _ z => nomatch z
        | succ d2 =>
          refine sjm_1 ((MT 167 _ (by omega)).trans nd) ?_
          refine pc_rA ?_; intro _ _ v49 e49
          rw [MT 170 _ (by omega)] at e49
          rw [e49]
          have I30 : MGi X PB WL L lb lh (s + 1) b (p + 1) t h30 r v m := ⟨⟨mkx_c M (fun cc x q1 q2 q3 => E30 cc x (by omega)), an_s AM ⟨by omega, Int.le_refl _⟩ (fun cc x c1 c2 c4 c5 => by show up_M v 160 50 (r 160 50) cc x = _; rw [up_n (by omega)])⟩, ⟨m57, by omega, m54, m51⟩, LB, by rw [E30 34 7 (by omega)]; exact WN, by rw [E30 33 9 (by omega), E30 33 10 (by omega)]; exact CO⟩
          refine pc_imp (k5 nn (m 160 50) d2 PB WL L lb lh m I30) (fun w2 y3 => ?_)
          obtain ⟨z1, w3, z2, z3⟩ := y3
          refine ⟨z1, ?_⟩
          rw [z2]
          have G3 : MGq X PB WL L lb lh p t h r g m w3 := by
            obtain ⟨⟨Z, b1, b2, b3, b4, b5⟩, F, l1, l2⟩ := z3
            rw [E30 33 9 (by omega), E30 33 10 (by omega)] at b1
            rw [E30 33 12 (by omega)] at b4
            rw [E30 33 9 (by omega)] at b5
            exact ⟨⟨Z, b1, b2, b3, b4, b5⟩, F, l1, by omega⟩
          exact mg_out G3 M KA.2.1.2.1 (fun cc x q => EZ cc x (by omega)) z7 rfl (by omega)
theorem s6_tb (Y : CXs X) (hd : 0 ≤ d ∧ d ≤ 40) (kp : bK X p = 42) (H : S8 nn X (d + 1) a b p q s) : S6 nn X d a b p q s := by
  intro dc dr h r bb Q U
  have Q0 := Q
  obtain ⟨⟨B, ⟨q1, q2, q3, q4⟩, -, -⟩, -⟩ := Q0
  cases dc with
  | zero => exact fun _ z => nomatch z
  | succ dc =>
    refine sjc_42 Y B.1.1.1.1 q1 q2 q3 (by omega) kp ?_
    refine pc_add (by omega) ?_; intro v43 e43
    rw [e43]
    exact pc_sv (H dc dr h r bb (spq_d Q (by omega)) U) (fun x Hx => pc_ck (fun _ => pc_ret Hx))
end
