section
/- the begin of a loop, variables, handlers, on both sides -/
section
variable {nn : Nat} {K V : Nat → Int} {C : Nat → Nat} {W : Nat → List Int} {n F : Nat} {own : Int} {a b T h g u m w v z : ms_M} {PB : Nat → Prop} {WL WM : Int → Int → Prop} {L L2 : List (Int × Int)} {f x j p s l : Int}
theorem am_mis : ∀ (L : List (Int × Int)) (B : Nat → Int) (y : Nat), (∀ j, (j, f) ∈ L → ¬ y = (j + 1).toNat ∧ ¬ y = (j + 2).toNat) → am_L f x L B y = B y := by
  intro L
  induction L with
  | nil => intro B y _; rfl
  | cons e R ih =>
    intro B y H
    obtain ⟨j, l⟩ := e
    show am_L f x R (if l = f ∧ j + 2 < 12000 then b2_L x j B else B) y = B y
    rw [ih _ y (fun j hj => H j (List.mem_cons_of_mem _ hj))]
    by_cases q : l = f ∧ j + 2 < 12000
    · rw [if_pos q]
      obtain ⟨h1, h2⟩ := H j (by rw [← q.1]; exact List.mem_cons_self)
      unfold b2_L
      rw [if_neg h2, if_neg h1]
    · rw [if_neg q]
theorem am_hit : ∀ (L : List (Int × Int)) (B : Nat → Int), L.Pairwise (fun a b => a.1 + 3 ≤ b.1) → (∀ e ∈ L, 0 ≤ e.1) → (j, f) ∈ L → j + 2 < 12000 → am_L f x L B (j + 1).toNat = oq_and (oq_shr (x - j) 8) 255 ∧ am_L f x L B (j + 2).toNat = oq_and (x - j) 255 := by
  intro L
  induction L with
  | nil => intro B _ _ y _; exact nomatch y
  | cons e R ih =>
    intro B P P0 hm lt
    obtain ⟨j1, l⟩ := e
    obtain ⟨p1, p2⟩ := List.pairwise_cons.mp P
    show am_L f x R (if l = f ∧ j1 + 2 < 12000 then b2_L x j1 B else B) (j + 1).toNat = _ ∧ am_L f x R (if l = f ∧ j1 + 2 < 12000 then b2_L x j1 B else B) (j + 2).toNat = _
    rcases List.mem_cons.mp hm with y | y
    · have y1 : j = j1 := congrArg Prod.fst y
      have y2 : f = l := congrArg Prod.snd y
      have j0 := P0 (j1, l) List.mem_cons_self
      have j0 : 0 ≤ j1 := j0
      have N : ∀ j2, (j2, f) ∈ R → j1 + 3 ≤ j2 := fun j2 h2 => p1 (j2, f) h2
      rw [if_pos ⟨y2.symm, by omega⟩, am_mis R _ _ (fun j2 h2 => by have := N j2 h2; omega), am_mis R _ _ (fun j2 h2 => by have := N j2 h2; omega), y1]
      unfold b2_L
      exact ⟨by rw [if_neg (by omega), if_pos rfl], by rw [if_pos rfl]⟩
    · exact ih _ p2 (fun e he => P0 e (List.mem_cons_of_mem _ he)) y lt
/-- all jumps back to the begin of a loop get their aim: the reference; the class has done it -/
theorem mk_begin {A n' : Int} (M : MK K V C W n F own a b T PB WL L h m) (hf : hs_L f L) (AM : ∀ j, (j, f) ∈ L → AMd h j A) (hA : 0 ≤ A ∧ A ≤ 1000000) (bl : h 34 1 ≤ 990000) (W1 : WL A n') (W2 : ∀ k, WL A k → k = n') (W3 : ∀ q k, ¬ q = A → (WM q k ↔ WL q k)) (W4 : ∀ k, WM A k → WL A k) (en : n' = m 160 50 + (F : Int)) (e70 : m 160 70 = 0) : Pc (qf_X13_stands nn f A m) (fun w => MK K V C W n F own a b T (fun y => PB y ∧ ¬ ∃ j, (j, f) ∈ L ∧ (y = (j + 1).toNat ∨ y = (j + 2).toNat)) WM (fl_L f L) h w ∧ MFe m w ∧ w 160 88 = m 160 88) := by
  obtain ⟨⟨c, ⟨J, JB⟩, FK, MB⟩, SK⟩ := M
  have ll := fl_len L hf
  have c1 := c.1
  obtain ⟨⟨k1, k2, k3⟩, ⟨k4, k5⟩, k6⟩ := FK
  have MB0 := MB
  obtain ⟨⟨⟨s1, s2, s3⟩, s4, s5⟩, HD, -, -, ⟨⟨t1, t2⟩, t3, t4, -, -⟩⟩ := MB0
  have F1 : F ≤ 1 := by
    rcases s4 with z | ⟨z, -⟩ <;> omega
  have r78 := k2.1
  obtain ⟨q1, q2⟩ := jlb_m JB
  refine r_stands J hA JB.1 (fun i hi => by have := JB.2.1 i hi; omega) (fun w1 JW BW WF => .inr ⟨hf, ?_⟩)
  have X1 : ∀ cc y : Nat, ¬ (cc = 206 ∨ cc = 217 ∨ cc = 218) → ¬ (cc = 160 ∧ y = 87) → w1 cc y = m cc y := WF
  have Fr1 : FRr w1 := frr_k k2 (fun cc y z => X1 cc y (by omega) (by omega))
  refine pc_imp (r_frame (F := F) Fr1 (by rw [X1 160 53 (by omega) (by omega)]; exact t3) (by rw [X1 160 70 (by omega) (by omega)]; omega) (by rw [X1 160 50 (by omega) (by omega)]; omega) (by rw [X1 160 79 (by omega) (by omega)]; exact k3) (by rw [X1 160 52 (by omega) (by omega)]; omega) (by rw [X1 160 78 (by omega) (by omega)]; omega)) (fun w q => ?_)
  obtain ⟨Fw, fi, RF⟩ := q
  have RW := RF.2.2.2.2
  have WM' : ∀ cc y : Nat, ¬ (cc = 206 ∨ cc = 217 ∨ cc = 218) → ¬ (208 ≤ cc ∧ cc ≤ 212) → ¬ (cc = 160 ∧ (y = 78 ∨ y = 79 ∨ y = 87)) → w cc y = m cc y := fun cc y z1 z2 z3 => (RW cc y (by omega) (by omega) (by omega)).trans (X1 cc y z1 (by omega))
  have RF0 := RF
  obtain ⟨AL, -, WO, -, -⟩ := RF0
  have x78 := X1 160 78 (by omega) (by omega)
  have x79 := X1 160 79 (by omega) (by omega)
  have x50 := X1 160 50 (by omega) (by omega)
  have x70 := X1 160 70 (by omega) (by omega)
  have x84 := X1 160 84 (by omega) (by omega)
  have w78 : w 160 78 ≤ m 160 78 + 1 := by
    rcases AL with ⟨-, -, z⟩ | ⟨-, -, z⟩ <;> omega
  have w79 : 0 ≤ w 160 79 ∧ w 160 79 ≤ 60000 ∧ w 160 79 ≤ m 160 79 + n' := by
    rcases WO with ⟨z1, z2, -⟩ | ⟨z1, z2⟩ <;> omega
  have w68 := WM' 160 68 (by omega) (by omega) (by omega)
  have w84 := WM' 160 84 (by omega) (by omega) (by omega)
  have w88 := WM' 160 88 (by omega) (by omega) (by omega)
  refine ⟨⟨⟨?_, ⟨jl_k JW (fun cc y z => RW cc y (by omega) (by omega) (by omega)), jlb_fl JB (by omega) (by omega)⟩, ⟨⟨k1, Fw, by omega⟩, ⟨by omega, fun q k z => ?_⟩, fun o => ?_⟩, mb_k MB (fun _ _ _ => rfl) id (fun cc y z => WM' cc y (by omega) (by omega) (by omega))⟩, skj_k SK (fun _ _ _ => rfl) (fun cc y z => WM' cc y (by omega) (by omega) (by omega))⟩, ⟨fun cc y z1 z2 z3 => WM' cc y (by omega) (by omega) (by omega), by omega⟩, w88⟩
  · obtain ⟨⟨d1, d2⟩, d3⟩ := c
    refine ⟨by omega, fun o lt y hy np => ?_⟩
    rw [RW 206 y (by omega) (by omega) (by omega), BW y]
    by_cases E : ∃ j, (j, f) ∈ L ∧ (y = (j + 1).toNat ∨ y = (j + 2).toNat)
    · obtain ⟨j, jm, jy⟩ := E
      have jb := q1 (j, f) jm
      have jb : 0 ≤ j ∧ j + 3 ≤ m 160 68 ∧ f ≤ m 160 88 := jb
      obtain ⟨h1, h2⟩ := am_hit (f := f) (x := A) L (m 206) q2 (fun e he => (q1 e he).1) jm (by omega)
      obtain ⟨g1, g2⟩ := AM j jm (by omega)
      rcases jy with jy | jy
      · rw [jy, h1, show (j + 1).toNat = j.toNat + 1 by omega, g1]
        exact by_rel (oq_shr_R _ _)
      · rw [jy, h2, show (j + 2).toNat = j.toNat + 2 by omega, g2]
        exact by_rel (by unfold in_R; omega)
    · rw [am_mis L _ y (fun j jm => ⟨fun z => E ⟨j, jm, .inl z⟩, fun z => E ⟨j, jm, .inr z⟩⟩)]
      exact d3 o lt y hy (fun z => np ⟨z, E⟩)
  · by_cases qa : q = A
    · rw [qa] at z ⊢
      have := k5 A k (W4 k z)
      omega
    · have := k5 q k ((W3 q k qa).mp z)
      omega
  · obtain ⟨e1, e2⟩ := k6 o
    have n30 : n' ≤ 30 := by have := o.2.1; omega
    have o1 := o.1
    refine ⟨by omega, ?_⟩
    have e2' : FRJ n WL h w1 := frj_k e2 (fun _ _ _ => rfl) (fun cc y z => X1 cc y (by omega) (by omega))
    refine fj_ref e2' (by rw [x84]; exact fun z => (HD.2.2.1 z).2) Fr1 RF W1 W2 W3 W4 n30 (by omega) (by omega) (by omega) ⟨by omega, fun z => by omega⟩ ?_ (fun i hi => ?_)
    · rw [X1 160 52 (by omega) (by omega)]
      rcases s4 with z | ⟨z1, -, z2⟩
      · exact .inl z
      · exact .inr ⟨z1, ⟨by rw [z2]; exact t4.1, t2.2 0 (by omega)⟩⟩
    · rw [X1 197 i (by omega) (by omega)]
      exact ⟨(s5 i (by omega)).2.2.2, t2.2 _ (by omega)⟩
/-- FRAMES where a variable comes behind those in sight -/
theorem frj_l (J : FRJ n WL h m) (e1 : ∀ cc x : Nat, (cc = 34 ∧ (x = 14 ∨ x = 15)) ∨ cc = 40 ∨ cc = 41 → g cc x = h cc x) (e3 : ∀ y : Nat, (y : Int) < s → g 38 y = h 38 y) (WN : ∀ p k, WL p k → k ≤ s) (e2 : ∀ cc x : Nat, (cc = 160 ∧ (x = 78 ∨ x = 79 ∨ x = 84)) ∨ (208 ≤ cc ∧ cc ≤ 212) → w cc x = m cc x) : FRJ n WL g w := by
  have J2 : FRJ n WL h w := frj_k J (fun _ _ _ => rfl) e2
  have x14 := e1 34 14 (by omega)
  rcases J2 with ⟨j0, A1, A2, A3⟩ | ⟨j1, JO⟩
  · refine .inl ⟨by rw [e1 34 15 (by omega)]; exact j0, fun k hk => ?_, fun f hf => ?_, fun p k x => ?_⟩
    · rw [x14] at hk
      rw [e1 40 k (by omega)]
      rcases A1 k hk with ⟨k', y1, y2⟩ | ⟨y1, f, f1, f2, f3⟩
      · obtain ⟨⟨c1, c2, c3, c4⟩, c5⟩ := y2
        have wn := WN _ _ y1
        exact .inl ⟨k', y1, ⟨by rw [e1 41 _ (by omega)]; exact c1, by rw [e1 41 _ (by omega)]; exact c2, c3, c4⟩, fun i hi => by rw [e1 41 _ (by omega), e3 i (by omega)]; exact c5 i hi⟩
      · exact .inr ⟨y1, f, f1, f2, ctj_k f3 (fun x _ _ => e1 41 x (by omega)) ⟨rfl, rfl, rfl⟩ (Int.le_refl _) (fun _ _ => rfl)⟩
    · obtain ⟨k, k1, k2⟩ := A2 f hf
      exact ⟨k, by rw [x14]; exact k1, by rw [e1 40 k (by omega)]; exact k2⟩
    · obtain ⟨k, k1, k2⟩ := A3 p k x
      exact ⟨k, by rw [x14]; exact k1, by rw [e1 40 k (by omega)]; exact k2⟩
  · exact .inr ⟨by rw [e1 34 15 (by omega)]; exact j1, JO⟩
/-- a variable comes -/
theorem mk_loc {t : Nat} {ty ty2 : Int} {w0 : ms_M} (M : MK K V C W n F own a b T PB WL L h m) (A : CLa (V t) ty h g) (B : RCm (t : Int) ty2 m w0) (ew : w = up_M w0 160 72 (if w0 160 72 < w0 160 50 then w0 160 50 else w0 160 72)) (e2 : ty2 = ty_T ty) (kt : K t = 2) (h7 : h 34 7 < 750) (vq : VTn n ty ∧ ¬ ty = 303) (WN : ∀ p k, WL p k → k ≤ h 34 7) : MK K V C W n F own a b T PB WL L g w := by
  obtain ⟨⟨c, ⟨J, JB⟩, FK, MB⟩, SK⟩ := M
  obtain ⟨⟨k1, k2, k3⟩, ⟨k4, k5⟩, k6⟩ := FK
  obtain ⟨SG, HD, ⟨P1, P2, P3⟩, TX, ⟨⟨t1, t2⟩, t3, t4, t5, t6⟩⟩ := MB
  have SG2 := sgv_a SG (x := 0) kt A B e2 h7
  have s1 := SG.1
  obtain ⟨a1, a2, a38, a5⟩ := A
  obtain ⟨-, b2, -, -, b5⟩ := B
  have E2 : ∀ cc y : Nat, ¬ (cc = 160 ∧ (y = 50 ∨ y = 72)) → ¬ (cc = 196 ∨ cc = 197) → w cc y = m cc y := fun cc y z1 z2 => by rw [ew, up_n (by omega)]; exact b5 cc y (by omega) (by omega)
  have E1 : ∀ cc y : Nat, ¬ (cc = 34 ∧ (y = 7 ∨ y = 8)) → ¬ (cc = 37 ∨ cc = 38) → g cc y = h cc y := fun cc y z1 z2 => a5 cc y z1 (by omega)
  have b72 := b5 160 72 (by omega) (by omega)
  have w72 : w 160 72 = (if m 160 72 < m 160 50 + 1 then m 160 50 + 1 else m 160 72) := by rw [ew, up_s, b72, b2]
  have x68 := E2 160 68 (by omega) (by omega)
  have x88 := E2 160 88 (by omega) (by omega)
  have x78 := E2 160 78 (by omega) (by omega)
  have x79 := E2 160 79 (by omega) (by omega)
  have x84 := E2 160 84 (by omega) (by omega)
  have g1 := E1 34 1 (by omega) (by omega)
  have g4 := E1 34 4 (by omega) (by omega)
  have g8 : h 34 8 ≤ g 34 8 := by rw [a2]; split <;> omega
  refine ⟨⟨cby_k c (fun cc y z => E1 cc y (by omega) (by omega)) (fun cc y z => E2 cc y (by omega) (by omega)), ⟨jl_k J (fun cc y z => E2 cc y (by omega) (by omega)), jlb_k JB (by omega) (by omega)⟩, ⟨⟨frc_k k1 (fun cc y z => E1 cc y (by omega) (by omega)), frr_k k2 (fun cc y z => E2 cc y (by omega) (by omega)), by omega⟩, ⟨by omega, fun p k z => by have := k5 p k z; omega⟩, fun o => ?_⟩, ⟨sgv_k SG2 (fun _ _ _ => rfl) (fun cc y z => by rw [ew, up_n (by omega)]), hdj_k HD (fun cc y z => E1 cc y (by omega) (by omega)) (fun z => by rw [E1 34 15 (by omega) (by omega)]; exact z) (fun cc y z => E2 cc y (by omega) (by omega)), ⟨plr_k P1 (fun cc y z => E1 cc y (by omega) (by omega)) (fun cc y z => E2 cc y (by omega) (by omega)), ⟨by rw [E2 160 62 (by omega) (by omega)]; exact P2.1, by rw [E2 160 64 (by omega) (by omega)]; exact P2.2⟩, spl_k P3 (fun cc y z => E2 cc y (by omega) (by omega))⟩, txe_k TX (fun cc y z => E1 cc y (by omega) (by omega)) (fun cc y z => E2 cc y (by omega) (by omega)), ⟨?_, by rw [E2 160 53 (by omega) (by omega)]; exact t3, by rw [E2 160 52 (by omega) (by omega)]; exact t4, by rw [E2 160 9 (by omega) (by omega)]; exact t5, fun cc y z => by rw [E2 cc y (by omega) (by omega)]; exact t6 cc y z⟩⟩⟩, skj_k SK (fun cc y z => E1 cc y (by omega) (by omega)) (fun cc y z => E2 cc y (by omega) (by omega))⟩
  · obtain ⟨o1, o2, o3⟩ := o
    obtain ⟨e1, e2'⟩ := k6 ⟨by omega, by omega, by omega⟩
    exact ⟨by omega, frj_l (s := h 34 7) e2' (fun cc y z => E1 cc y (by omega) (by omega)) (fun y hy => a5 38 y (by omega) (by omega)) WN (fun cc y z => E2 cc y (by omega) (by omega))⟩
  · refine ⟨by rw [a2, w72]; split <;> split <;> omega, by rw [a2, a1]; split <;> omega, fun s hs => ?_⟩
    by_cases q : s = (h 34 7).toNat
    · rw [q, (a38 h7).2]; exact vq
    · rw [a5 38 s (by omega) (by omega)]; exact t2.2 s (by omega)
/-- variables go out of sight -/
theorem mk_sight {s0 s1 : Int} (M : MK K V C W n F own a b T PB WL L h m) (eg : g = up_M h 34 7 s0) (ew : w = up_M m 160 50 s1) (es : s0 = s1 + (F : Int)) (h0 : 0 ≤ s1) (hs : s0 ≤ h 34 7) : MK K V C W n F own a b T PB WL L g w := by
  obtain ⟨⟨c, ⟨J, JB⟩, FK, MB⟩, SK⟩ := M
  obtain ⟨⟨⟨g1, g2, g3⟩, g4, g5⟩, HD, ⟨P1, P2, P3⟩, TX, ⟨⟨t1, t2⟩, t3, t4, t5, t6⟩⟩ := MB
  have E1 : ∀ cc y : Nat, ¬ (cc = 34 ∧ y = 7) → g cc y = h cc y := fun cc y z => by rw [eg, up_n z]
  have E2 : ∀ cc y : Nat, ¬ (cc = 160 ∧ y = 50) → w cc y = m cc y := fun cc y z => by rw [ew, up_n z]
  have x7 : g 34 7 = s0 := by rw [eg, up_s]
  have x50 : w 160 50 = s1 := by rw [ew, up_s]
  have x68 := E2 160 68 (by omega)
  have x88 := E2 160 88 (by omega)
  refine ⟨⟨cby_k c (fun cc y z => E1 cc y (by omega)) (fun cc y z => E2 cc y (by omega)), ⟨jl_k J (fun cc y z => E2 cc y (by omega)), jlb_k JB (by omega) (by omega)⟩, frk_k FK (fun cc y z => E1 cc y (by omega)) ⟨by rw [E1 34 1 (by omega)]; exact Int.le_refl _, by rw [E1 34 8 (by omega)]; exact Int.le_refl _, by rw [E1 34 4 (by omega)]; exact Int.le_refl _⟩ (fun cc y z => E2 cc y (by omega)) (by omega) (by omega) (by omega), ⟨⟨⟨by omega, by omega, by omega⟩, by rw [E1 37 0 (by omega), E1 38 0 (by omega)]; exact g4, fun s hs2 => by rw [E2 196 s (by omega), E2 197 s (by omega), E1 37 _ (by omega), E1 38 _ (by omega)]; exact g5 s (by omega)⟩, hdj_k HD (fun cc y z => E1 cc y (by omega)) (fun z => by rw [E1 34 15 (by omega)]; exact z) (fun cc y z => E2 cc y (by omega)), ⟨plr_k P1 (fun cc y z => E1 cc y (by omega)) (fun cc y z => E2 cc y (by omega)), ⟨by rw [E2 160 62 (by omega)]; exact P2.1, by rw [E2 160 64 (by omega)]; exact P2.2⟩, spl_k P3 (fun cc y z => E2 cc y (by omega))⟩, txe_k TX (fun cc y z => E1 cc y (by omega)) (fun cc y z => E2 cc y (by omega)), ⟨⟨by rw [E1 34 8 (by omega), E2 160 72 (by omega)]; exact t1, by rw [x7, E1 34 8 (by omega)]; omega, fun s hs2 => by rw [x7] at hs2; rw [E1 38 s (by omega)]; exact t2.2 s (by omega)⟩, by rw [E2 160 53 (by omega)]; exact t3, by rw [E2 160 52 (by omega)]; exact t4, by rw [E2 160 9 (by omega)]; exact t5, fun cc y z => by rw [E2 cc y (by omega)]; exact t6 cc y z⟩⟩⟩, skj_k SK (fun cc y z => E1 cc y (by omega)) (fun cc y z => E2 cc y (by omega))⟩
end
section
variable {nn : Nat} {X : BCx} {h g u r v w m : ms_M}
theorem bx_loc {t : Nat} {ty ty2 : Int} (B : BX X h r) (A : CLa (bV X t) ty h g) (R : RCm (t : Int) ty2 r w) (e2 : ty2 = ty_T ty) (kt : bK X t = 2) (h7 : h 34 7 < 750) (vt : VTn (bn X) ty ∧ ¬ ty = 303) : BX X g w := by
  obtain ⟨b1, b2, b3, b4, b5, b6, b7, b8, b9⟩ := B
  have SG2 := sgv_a b2 (x := 0) kt A R e2 h7
  have s1 := b2.1
  obtain ⟨a1, a2, a3, a5⟩ := A
  obtain ⟨-, r2, -, -, r5⟩ := R
  have E1 : ∀ cc y : Nat, ¬ (cc = 34 ∧ (y = 7 ∨ y = 8)) → ¬ (cc = 37 ∨ cc = 38) → g cc y = h cc y := fun cc y z1 z2 => a5 cc y z1 (by omega)
  have E2 : ∀ cc y : Nat, ¬ (cc = 160 ∧ y = 50) → ¬ (cc = 196 ∨ cc = 197) → w cc y = r cc y := fun cc y z1 z2 => r5 cc y z1 (by omega)
  refine ⟨hds_k b1 (fun cc y z => E1 cc y (by omega) (by omega)) (fun cc y z => E2 cc y (by omega) (by omega)), SG2, by rw [E1 49 16 (by omega) (by omega), E2 160 52 (by omega) (by omega)]; exact b3, by rw [E1 49 17 (by omega) (by omega), E2 160 53 (by omega) (by omega)]; exact b4, fun i hi ki => by rw [E1 5 i (by omega) (by omega)]; exact b5 i hi ki, fun cc y z => by rw [E2 cc y (by omega) (by omega)]; exact b6 cc y z, fun cc y z => by rw [E2 cc y (by omega) (by omega)]; exact b7 cc y z, fun cc y z => by rw [E1 cc y (by omega) (by omega)]; exact b8 cc y z, fun s hs => ?_⟩
  rw [a1] at hs
  by_cases q : (s : Int) = h 34 7
  · rw [show s = (h 34 7).toNat by omega, (a3 h7).2]; exact vt
  · rw [a5 38 s (by omega) (by omega)]; exact b9 s (by omega)
theorem bx_sight {s0 s1 : Int} (B : BX X h r) (eg : g = up_M h 34 7 s0) (ew : w = up_M r 160 50 s1) (es : s0 = s1 + (bF X : Int)) (h0 : 0 ≤ s1) (hs : s0 ≤ h 34 7) : BX X g w := by
  obtain ⟨b1, ⟨⟨g1, g2, g3⟩, g4, g5⟩, b3, b4, b5, b6, b7, b8, b9⟩ := B
  have E1 : ∀ cc y : Nat, ¬ (cc = 34 ∧ y = 7) → g cc y = h cc y := fun cc y z => by rw [eg, up_n z]
  have E2 : ∀ cc y : Nat, ¬ (cc = 160 ∧ y = 50) → w cc y = r cc y := fun cc y z => by rw [ew, up_n z]
  have x7 : g 34 7 = s0 := by rw [eg, up_s]
  have x50 : w 160 50 = s1 := by rw [ew, up_s]
  exact ⟨hds_k b1 (fun cc y z => E1 cc y (by omega)) (fun cc y z => E2 cc y (by omega)), ⟨⟨by omega, by omega, by omega⟩, by rw [E1 37 0 (by omega), E1 38 0 (by omega)]; exact g4, fun s hs2 => by rw [E2 196 s (by omega), E2 197 s (by omega), E1 37 _ (by omega), E1 38 _ (by omega)]; exact g5 s (by omega)⟩, by rw [E1 49 16 (by omega), E2 160 52 (by omega)]; exact b3, by rw [E1 49 17 (by omega), E2 160 53 (by omega)]; exact b4, fun i hi ki => by rw [E1 5 i (by omega)]; exact b5 i hi ki, fun cc y z => by rw [E2 cc y (by omega)]; exact b6 cc y z, fun cc y z => by rw [E2 cc y (by omega)]; exact b7 cc y z, fun cc y z => by rw [E1 cc y (by omega)]; exact b8 cc y z, fun s hs2 => by rw [E1 38 s (by omega)]; exact b9 s (by omega)⟩
end
end
section
/- a handler, on both sides -/
def CHh (fr to c : Int) (h g : ms_M) : Prop := (h 34 10 < 20 ∧ g 34 10 = h 34 10 + 1 ∧ (g 39 (4 * (h 34 10).toNat) = fr ∧ g 39 (4 * (h 34 10).toNat + 1) = to ∧ g 39 (4 * (h 34 10).toNat + 2) = h 34 1 ∧ g 39 (4 * (h 34 10).toNat + 3) = c) ∧ ∀ cc y : Nat, ¬ (cc = 34 ∧ y = 10) → ¬ (cc = 39 ∧ 4 * (h 34 10).toNat ≤ y) → g cc y = h cc y) ∨ (¬ h 34 10 < 20 ∧ g = up_M h 34 15 1)
def CHd (fr to c : Int) (h u : ms_M) : Prop := ∃ (g1 g2 : ms_M) (s : Int) (g3 : ms_M), CHh fr to c h g1 ∧ CPu c g1 g2 ∧ SLc (h 34 1) g2 s g3 ∧ FLc s (h 34 7) (h 34 3 + 1) g3 u
section
variable {nn : Nat} {K V : Nat → Int} {C : Nat → Nat} {W : Nat → List Int} {n F : Nat} {own : Int} {a b T h g u m w v z : ms_M} {PB : Nat → Prop} {WL WM : Int → Int → Prop} {L L2 : List (Int × Int)} {f x j p s l fr to c : Int}
theorem chh_f (H : CHh fr to c h g) : ∀ cc y : Nat, ¬ (cc = 34 ∧ (y = 10 ∨ y = 15)) → ¬ cc = 39 → g cc y = h cc y := fun cc y z1 z2 => by
  rcases H with ⟨-, -, -, e⟩ | ⟨-, e⟩
  · exact e cc y (by omega) (by omega)
  · rw [e, up_n (by omega)]
theorem c_hand (h10 : 0 ≤ h 34 10 ∧ h 34 10 ≤ 20) (Fc : FRc h) (h3 : 0 ≤ h 34 3 ∧ h 34 3 ≤ 1000000) (h7 : 0 ≤ h 34 7) (h1 : 0 ≤ h 34 1) : Pc (qf_X1_addHandler nn fr to c h) (fun u => CHd fr to c h u) := by
  have T76 : ∀ g : ms_M, CHh fr to c h g → Pc (qj_X1_addHandler_76 nn c g) (fun u => CHd fr to c h u) := fun g H => by
    have E := chh_f H
    unfold qj_X1_addHandler_76
    refine pc_sv (c_push (by rw [E 34 3 (by omega) (by omega)]; omega)) ?_; intro u2 CP
    have E2 : ∀ cc y : Nat, ¬ (cc = 34 ∧ (y = 3 ∨ y = 4 ∨ y = 10 ∨ y = 15)) → ¬ (cc = 39 ∨ cc = 36) → u2 cc y = h cc y := fun cc y z1 z2 => by rw [CP.2.2.2 cc y (by omega) (by omega)]; exact E cc y (by omega) (by omega)
    rw [E2 34 1 (by omega) (by omega)]
    have F2 : FRc u2 := frc_k Fc (fun cc y z => E2 cc y (by omega) (by omega))
    refine pc_sv (c_slot h1 F2) ?_; intro u5 q5
    have b5 : -1 ≤ u5.1 ∧ u5.1 < 100 := by
      have f14 := F2.1
      rcases q5.2 with ⟨k, s1, s2, -⟩ | ⟨-, ⟨s1, s2, -⟩ | ⟨-, s2, -⟩⟩ <;> omega
    obtain ⟨K5, -⟩ := sl_sk F2 q5
    have l7 : u5.2 34 7 = h 34 7 := by rw [K5 34 7 (by omega) (by omega) (by omega)]; exact E2 34 7 (by omega) (by omega)
    have l3 : u5.2 34 3 = h 34 3 + 1 := by rw [K5 34 3 (by omega) (by omega) (by omega), CP.1, E 34 3 (by omega) (by omega)]
    rw [l7, l3]
    refine pc_sv (c_fill b5 h7 (by omega)) ?_; intro u9 q9
    exact pc_ret ⟨g, u2, u5.1, u5.2, H, CP, q5, q9⟩
  unfold qf_X1_addHandler
  refine pc_if (fun z => ?_) (fun z => ?_)
  · refine pc_xl ?_; intro v12 e12
    rw [oq_mul_eq (by omega) (by omega) (by omega)] at e12
    refine pc_wA ?_; intro _ _ h14 e14
    refine pc_add (by omega) ?_; intro v16 e16
    refine pc_wA ?_; intro _ _ h17 e17
    refine pc_add (by omega) ?_; intro v19 e19
    refine pc_wA ?_; intro _ _ h21 e21
    refine pc_add (by omega) ?_; intro v23 e23
    refine pc_wA ?_; intro _ _ h24 e24
    refine pc_add (by rw [e24, up_n (by omega), e21, up_n (by omega), e17, up_n (by omega), e14, up_n (by omega)]; omega) ?_; intro v26 e26
    refine pc_xl ?_; intro h27 e27
    have l17 : h17 34 1 = h 34 1 := by rw [e17, up_n (by omega), e14, up_n (by omega)]
    have l24 : h24 34 10 = h 34 10 := by rw [e24, up_n (by omega), e21, up_n (by omega), e17, up_n (by omega), e14, up_n (by omega)]
    refine T76 h27 (.inl ⟨z, by rw [e27, up_s]; omega, ⟨?_, ?_, ?_, ?_⟩, fun cc y z1 z2 => ?_⟩)
    · rw [e27, up_n (by omega), e24, up_n (by omega), e21, up_n (by omega), e17, up_n (by omega), e14, show 4 * (h 34 10).toNat = v12.toNat by omega, up_s]
    · rw [e27, up_n (by omega), e24, up_n (by omega), e21, up_n (by omega), e17, show 4 * (h 34 10).toNat + 1 = v16.toNat by omega, up_s]
    · rw [e27, up_n (by omega), e24, up_n (by omega), e21, show 4 * (h 34 10).toNat + 2 = v19.toNat by omega, up_s]; exact l17
    · rw [e27, up_n (by omega), e24, show 4 * (h 34 10).toNat + 3 = v23.toNat by omega, up_s]
    · rw [e27, up_n (by omega), e24, up_n (by omega), e21, up_n (by omega), e17, up_n (by omega), e14, up_n (by omega)]
  · refine pc_xl ?_; intro h28 e28
    exact T76 h28 (.inr ⟨z, e28⟩)
theorem frj_84 (J : FRJ n WL h m) (e2 : ∀ cc x : Nat, (cc = 160 ∧ (x = 78 ∨ x = 79)) ∨ (208 ≤ cc ∧ cc ≤ 212) → w cc x = m cc x) (e4 : m 160 84 ≤ w 160 84) : FRJ n WL h w := by
  have x78 := e2 160 78 (by omega)
  have x79 := e2 160 79 (by omega)
  rcases J with ⟨j0, A1, A2, A3⟩ | ⟨j1, JO⟩
  · refine .inl ⟨j0, fun k hk => ?_, fun f hf => ?_, A3⟩
    · rcases A1 k hk with y | ⟨y1, f, f1, f2, f3⟩
      · exact .inl y
      · exact .inr ⟨y1, f, by rw [x78]; exact f1, by rw [e2 208 f (by omega)]; exact f2, ctj_k f3 (fun _ _ _ => rfl) ⟨e2 209 f (by omega), e2 210 f (by omega), e2 211 f (by omega)⟩ (by omega) (fun y _ => e2 212 y (by omega))⟩
    · rw [x78] at hf
      rw [e2 208 f (by omega)]
      exact A2 f hf
  · refine .inr ⟨j1, ?_⟩
    rcases JO with y | ⟨Q, q1, q2⟩
    · exact .inl (by omega)
    · refine .inr ⟨Q, q1, fun i hi => ?_⟩
      rcases q2 i hi with ⟨f, f1, f2⟩ | y
      · exact .inl ⟨f, by rw [x78]; exact f1, by rw [e2 208 f (by omega)]; exact f2⟩
      · exact .inr y
theorem mk_hand {ty : Int} {m5 m6 : ms_M} (M : MK K V C W n F own a b T PB WL L h m) (X : CHd fr to c h u) (e5 : m5 = up_M (up_M (up_M (up_M (up_M m 160 84 (m 160 84 + 1)) 213 (m 160 84).toNat fr) 214 (m 160 84).toNat to) 215 (m 160 84).toNat (m 160 68)) 216 (m 160 84).toNat ty) (b84 : 0 ≤ m 160 84 ∧ m 160 84 < 1000) (B : RPs ty m5 m6) (et : TJ n ty c) (vc : 0 ≤ c ∧ c < 100) (ex : x = m 160 68) (bl : h 34 1 ≤ 900000) (b3 : h 34 3 ≤ 2000) : Pc (qf_X13_frame nn x m6) (fun w => MK K V C W n F own a b T PB WL L u w ∧ w 160 88 = m 160 88 ∧ ∀ cc y : Nat, ¬ (cc = 160 ∧ (y = 70 ∨ y = 71 ∨ y = 78 ∨ y = 79 ∨ y = 84)) → ¬ (207 ≤ cc ∧ cc ≤ 216) → w cc y = m cc y) := by
  have M0 := M
  obtain ⟨⟨cb, ⟨J, JB⟩, FK, MB⟩, SK⟩ := M
  obtain ⟨⟨k1, k2, k3⟩, ⟨k4, k5⟩, k6⟩ := FK
  obtain ⟨SG, HD, ⟨P1, P2, P3⟩, TX, ⟨⟨t1, t2⟩, t3, t4, t5, t6⟩⟩ := MB
  obtain ⟨g1, g2, s, g3, HH, CP, SL, FL⟩ := X
  have c1 := cb.1
  have E1 := chh_f HH
  have E5 : ∀ cc y : Nat, ¬ (cc = 160 ∧ y = 84) → ¬ (213 ≤ cc ∧ cc ≤ 216) → m5 cc y = m cc y := fun cc y z1 z2 => by rw [e5, up_n (by omega), up_n (by omega), up_n (by omega), up_n (by omega), up_n (by omega)]
  have x84 : m5 160 84 = m 160 84 + 1 := by rw [e5, up_n (by omega), up_n (by omega), up_n (by omega), up_n (by omega), up_s]
  have x68 := E5 160 68 (by omega) (by omega)
  have x88 := E5 160 88 (by omega) (by omega)
  have x78 := E5 160 78 (by omega) (by omega)
  have x79 := E5 160 79 (by omega) (by omega)
  have g1l := E1 34 1 (by omega) (by omega)
  have g18 := E1 34 8 (by omega) (by omega)
  have g14 := E1 34 4 (by omega) (by omega)
  have g13 := E1 34 3 (by omega) (by omega)
  have g17 := E1 34 7 (by omega) (by omega)
  have U15 : h 34 15 = 1 → g1 34 15 = 1 := fun z => by
    rcases HH with ⟨-, -, -, e⟩ | ⟨-, e⟩
    · rw [e 34 15 (by omega) (by omega)]; exact z
    · rw [e, up_s]
  have row : ∀ k : Nat, ¬ k = (m 160 84).toNat → m5 213 k = m 213 k ∧ m5 214 k = m 214 k ∧ m5 215 k = m 215 k ∧ m5 216 k = m 216 k := fun k nk => by
    refine ⟨?_, ?_, ?_, ?_⟩
    · rw [e5, up_n (by omega), up_n (by omega), up_n (by omega), up_n (by omega), up_n (by omega)]
    · rw [e5, up_n (by omega), up_n (by omega), up_n (by omega), up_n (by omega), up_n (by omega)]
    · rw [e5, up_n (by omega), up_n (by omega), up_n (by omega), up_n (by omega), up_n (by omega)]
    · rw [e5, up_n (by omega), up_n (by omega), up_n (by omega), up_n (by omega), up_n (by omega)]
  have rowk : m5 213 (m 160 84).toNat = fr ∧ m5 214 (m 160 84).toNat = to ∧ m5 215 (m 160 84).toNat = m 160 68 ∧ m5 216 (m 160 84).toNat = ty := by
    refine ⟨?_, ?_, ?_, ?_⟩
    · rw [e5, up_n (by omega), up_n (by omega), up_n (by omega), up_s]
    · rw [e5, up_n (by omega), up_n (by omega), up_s]
    · rw [e5, up_n (by omega), up_s]
    · rw [e5, up_s]
  obtain ⟨d0, d1, d2, d3⟩ := HD
  have HD5 : HDJ n g1 m5 := by
    refine ⟨by omega, fun z => ?_, fun z => ?_, fun k hk => ?_⟩
    · rcases HH with ⟨q1, q2, -⟩ | ⟨q1, -⟩
      · rw [q2, d1 (by omega)]; omega
      · rw [d1 (by omega)] at q1; omega
    · by_cases q : 20 < m 160 84
      · obtain ⟨y1, y2⟩ := d2 q
        rcases HH with ⟨q1, -⟩ | ⟨q1, e⟩
        · omega
        · exact ⟨by rw [e, up_n (by omega)]; exact y1, by rw [e, up_s]⟩
      · have y1 := d1 (by omega)
        rcases HH with ⟨q1, -⟩ | ⟨q1, e⟩
        · omega
        · exact ⟨by rw [e, up_n (by omega)]; omega, by rw [e, up_s]⟩
    · rcases HH with ⟨q1, q2, ⟨r1, r2, r3, r4⟩, e⟩ | ⟨q1, e⟩
      · have y1 : h 34 10 = m 160 84 := by
          by_cases q : 20 < m 160 84
          · have := (d2 q).1; omega
          · exact d1 (by omega)
        by_cases kq : k = (m 160 84).toNat
        · obtain ⟨z1, z2, z3, z4⟩ := rowk
          rw [kq, z1, z2, z3, z4]
          rw [y1] at r1 r2 r3 r4
          exact ⟨r1, r2, by rw [r3]; exact c1.1, by rw [r4]; exact ⟨et, vc⟩⟩
        · obtain ⟨z1, z2, z3, z4⟩ := row k kq
          rw [z1, z2, z3, z4, e 39 _ (by omega) (by omega), e 39 _ (by omega) (by omega), e 39 _ (by omega) (by omega), e 39 _ (by omega) (by omega)]
          exact d3 k (by omega)
      · have hk' : (k : Int) < h 34 10 := by rw [e, up_n (by omega)] at hk; exact hk
        have kq : ¬ k = (m 160 84).toNat := by
          by_cases q : 20 < m 160 84
          · have := (d2 q).1; omega
          · have := d1 (by omega); omega
        obtain ⟨z1, z2, z3, z4⟩ := row k kq
        rw [z1, z2, z3, z4, e, up_n (by omega), up_n (by omega), up_n (by omega), up_n (by omega)]
        exact d3 k hk'
  have FJ5 : OKM h → FRJ n WL g1 m5 := fun o => by
    have j := (k6 o).2
    have j5 : FRJ n WL h m5 := frj_84 j (fun cc y z => E5 cc y (by omega) (by omega)) (by omega)
    rcases HH with ⟨q1, q2, -, e⟩ | ⟨q1, e⟩
    · exact frj_k j5 (fun cc y z => e cc y (by omega) (by omega)) (fun _ _ _ => rfl)
    · refine .inr ⟨by rw [e, up_s], .inl ?_⟩
      by_cases q : 20 < m 160 84
      · omega
      · have := d1 (by omega); omega
  have Fc1 : FRc g1 := frc_k k1 (fun cc y z => E1 cc y (by omega) (by omega))
  have M5 : MK K V C W n F own a b T PB WL L g1 m5 := by
    refine ⟨⟨cby_k cb (fun cc y z => E1 cc y (by omega) (by omega)) (fun cc y z => E5 cc y (by omega) (by omega)), ⟨jl_k J (fun cc y z => E5 cc y (by omega) (by omega)), jlb_k JB (by omega) (by omega)⟩, ⟨⟨Fc1, frr_k k2 (fun cc y z => E5 cc y (by omega) (by omega)), by omega⟩, ⟨by omega, fun p k z => by have := k5 p k z; omega⟩, fun o => ?_⟩, ⟨sgv_k SG (fun cc y z => E1 cc y (by omega) (by omega)) (fun cc y z => E5 cc y (by omega) (by omega)), HD5, ⟨plr_k P1 (fun cc y z => E1 cc y (by omega) (by omega)) (fun cc y z => E5 cc y (by omega) (by omega)), ⟨by rw [E5 160 62 (by omega) (by omega)]; exact P2.1, by rw [E5 160 64 (by omega) (by omega)]; exact P2.2⟩, spl_k P3 (fun cc y z => E5 cc y (by omega) (by omega))⟩, txe_k TX (fun cc y z => E1 cc y (by omega) (by omega)) (fun cc y z => E5 cc y (by omega) (by omega)), sct_k ⟨⟨t1, t2⟩, t3, t4, t5, t6⟩ (fun cc y z => E1 cc y (by omega) (by omega)) (fun cc y z => E5 cc y (by omega) (by omega))⟩⟩, skj_k SK (fun cc y z => E1 cc y (by omega) (by omega)) (fun cc y z => E5 cc y (by omega) (by omega))⟩
    have o' : OKM h := ⟨by have := o.1; omega, by have := o.2.1; omega, by have := o.2.2; omega⟩
    have := (k6 o').1
    exact ⟨by omega, FJ5 o'⟩
  have M6 := mk_push M5 CP B et
  obtain ⟨⟨cb6, ⟨J6, JB6⟩, ⟨⟨q1, q2, q3⟩, -, -⟩, MB6⟩, SK6⟩ := M6
  have MB60 := MB6
  obtain ⟨⟨⟨s1, s2, s3⟩, s4, s5⟩, HD6, -, -, ⟨⟨v1, v2⟩, v3, v4, -, -⟩⟩ := MB60
  have SK60 := SK6
  obtain ⟨⟨y1, y2, y3, y4⟩, y5⟩ := SK60
  have F1 : F ≤ 1 := by
    rcases s4 with z | ⟨z, -⟩ <;> omega
  have B5 := B.2.2.2.2
  have z78 := B5 160 78 (by omega) (by omega)
  have z79 := B5 160 79 (by omega) (by omega)
  have z84 := B5 160 84 (by omega) (by omega)
  have z68 := B5 160 68 (by omega) (by omega)
  have G2 : ∀ cc y : Nat, ¬ (cc = 34 ∧ (y = 3 ∨ y = 4)) → ¬ cc = 36 → g2 cc y = g1 cc y := fun cc y z1 z2 => CP.2.2.2 cc y z1 (by omega)
  have g21 := G2 34 1 (by omega) (by omega)
  have g28 := G2 34 8 (by omega) (by omega)
  have g27 := G2 34 7 (by omega) (by omega)
  have g24 : g1 34 4 ≤ g2 34 4 := by rw [CP.2.1]; split <;> omega
  have g23 : g2 34 3 = h 34 3 + 1 := by rw [CP.1, g13]
  have r78 := q2.1
  refine pc_imp (r_frame (F := F) q2 v3 (by omega) (by omega) q3 (by omega) (by omega)) (fun w q => ?_)
  obtain ⟨Fw, fi, RF⟩ := q
  have RW := RF.2.2.2.2
  have FB := frk_both (WL := WL) (L2 := L) (F := F) (h := g2) (m := m6) (p := h 34 1) (l := h 34 7) (n' := h 34 3 + 1) q1 q2 q3 (by omega) (fun o => by
    have o' : OKM h := ⟨by have := o.1; omega, by have := o.2.1; omega, by have := o.2.2; omega⟩
    have := (k6 o').1
    omega) (fun p k z => by have := k5 p k z; omega) (fun o => by
    have o' : OKM h := ⟨by have := o.1; omega, by have := o.2.1; omega, by have := o.2.2; omega⟩
    exact frj_k (FJ5 o') (fun cc y z => G2 cc y (by omega) (by omega)) (fun cc y z => B5 cc y (by omega) (by omega))) (fun z => (HD6.2.2.1 z).2) SL FL SL.1 (by rw [ex, ← c1.1] at RF; exact RF) Fw (by omega) (by omega) (by omega) (by omega) (by omega) (by omega) s2 F1 (by
    rcases s4 with z | ⟨z1, -, z2⟩
    · exact .inl z
    · exact .inr ⟨z1, ⟨by rw [z2]; exact v4.1, v2.2 0 (by omega)⟩⟩) (fun i hi => ⟨(s5 i hi).2.2.2, v2.2 _ (by omega)⟩) (fun i hi i20 => y5 i (by omega) i20)
  obtain ⟨FK2, UF, UU⟩ := FB
  have WW : ∀ cc y : Nat, ¬ (cc = 160 ∧ (y = 78 ∨ y = 79)) → ¬ (208 ≤ cc ∧ cc ≤ 212) → w cc y = m6 cc y := fun cc y z1 z2 => RW cc y (by omega) (by omega) (by omega)
  have w68 := WW 160 68 (by omega) (by omega)
  have w88 := WW 160 88 (by omega) (by omega)
  refine ⟨⟨⟨cby_k cb6 (fun cc y z => UF cc y (by omega) (by omega)) (fun cc y z => WW cc y (by omega) (by omega)), ⟨jl_k J6 (fun cc y z => WW cc y (by omega) (by omega)), jlb_k JB6 (by omega) (by omega)⟩, FK2, mb_k MB6 (fun cc y z => UF cc y (by omega) (by omega)) UU (fun cc y z => WW cc y (by omega) (by omega))⟩, skj_k SK6 (fun cc y z => UF cc y (by omega) (by omega)) (fun cc y z => WW cc y (by omega) (by omega))⟩, by rw [w88, B5 160 88 (by omega) (by omega)]; exact x88, fun cc y z1 z2 => ?_⟩
  rw [WW cc y (by omega) (by omega), B5 cc y (by omega) (by omega)]
  exact E5 cc y (by omega) (by omega)
end
end
section
/- S of both sides: which one it is -/
section
variable {nn : Nat} {X : BCx} {e d k : Int} {h r m : ms_M}
theorem sju_1 {rc : tq_X13_ruled} {Q : Int × ms_M → Prop} (f : r 160 9 = 0) (k : r 167 e.toNat = 1) (H : Pc (rd_A 9000 170 e r fun v176 => qw_X13_ruled_88 nn rc nn (r 160 50) 1 v176 r) Q) : Pc (qo_X13_ruled nn rc e r) Q := by
  unfold qo_X13_ruled
  refine pc_if (fun _ => ?_) (fun z => absurd f z)
  refine pc_rA ?_; intro _ _ v0 e0
  rw [k] at e0
  rw [e0]
  exact pc_if (fun _ => H) (fun z => absurd rfl z)
theorem sju_2 {rc : tq_X13_ruled} {Q : Int × ms_M → Prop} (f : r 160 9 = 0) (k : r 167 e.toNat = 2) (H : Pc (rd_A 9000 175 e r fun v178 => rd_A 9000 172 e r fun v180 => xl (Int.tdiv v180 4) fun v181 => rd_A 9000 172 e r fun v183 => xl (Int.tmod v183 4) fun v184 => if ¬ v184 = 2 then (qj_X13_ruled_179 nn rc e 0 v181 v178 r) else (qj_X13_ruled_179 nn rc e 1 v181 v178 r)) Q) : Pc (qo_X13_ruled nn rc e r) Q := by
  unfold qo_X13_ruled
  refine pc_if (fun _ => ?_) (fun z => absurd f z)
  refine pc_rA ?_; intro _ _ v0 e0
  rw [k] at e0
  rw [e0]
  refine pc_if (fun z => absurd z (by decide)) (fun _ => ?_)
  exact pc_if (fun _ => H) (fun z => absurd rfl z)
theorem sju_3 {rc : tq_X13_ruled} {Q : Int × ms_M → Prop} (f : r 160 9 = 0) (k : r 167 e.toNat = 3) (H : Pc (rd_A 9000 170 e r fun v187 => mx_sv (qf_X13_condition nn v187 r) fun u189 => rd_A 9000 171 e u189 fun v191 => mx_sv (rc v191 u189) fun u193 => xl (up_M u193.2 160 50 (r 160 50)) fun h194 => rd_A 9000 172 e h194 fun v196 => if ¬ v196 = (-1) then (rd_A 9000 172 e h194 fun v198 => mx_sv (rc v198 h194) fun u200 => xl (up_M u200.2 160 50 (r 160 50)) fun h201 => if ¬ u193.1 = 0 then (some (1, h201)) else (if u200.1 = 0 then (some (0, h201)) else (some (1, h201)))) else (some (1, h194))) Q) : Pc (qo_X13_ruled nn rc e r) Q := by
  unfold qo_X13_ruled
  refine pc_if (fun _ => ?_) (fun z => absurd f z)
  refine pc_rA ?_; intro _ _ v0 e0
  rw [k] at e0
  rw [e0]
  refine pc_if (fun z => absurd z (by decide)) (fun _ => ?_)
  refine pc_if (fun z => absurd z (by decide)) (fun _ => ?_)
  exact pc_if (fun _ => H) (fun z => absurd rfl z)
theorem sju_4 {rc : tq_X13_ruled} {Q : Int × ms_M → Prop} (f : r 160 9 = 0) (k : r 167 e.toNat = 4) (H : Pc (rd_A 9000 170 e r fun v206 => mx_sv (qf_X13_condition nn v206 r) fun u208 => xl (oq_add (u208 160 54) 1) fun v210 => xl (up_M u208 160 54 v210) fun h211 => wr_Z 3000 198 (h211 160 54) 0 h211 fun h214 => rd_A 9000 171 e h214 fun v216 => mx_sv (rc v216 h214) fun u218 => qj_X13_ruled_377 nn rc e (r 160 50) u218.2) Q) : Pc (qo_X13_ruled nn rc e r) Q := by
  unfold qo_X13_ruled
  refine pc_if (fun _ => ?_) (fun z => absurd f z)
  refine pc_rA ?_; intro _ _ v0 e0
  rw [k] at e0
  rw [e0]
  refine pc_if (fun z => absurd z (by decide)) (fun _ => ?_)
  refine pc_if (fun z => absurd z (by decide)) (fun _ => ?_)
  refine pc_if (fun z => absurd z (by decide)) (fun _ => ?_)
  exact pc_if (fun _ => H) (fun z => absurd rfl z)
theorem sju_5 {rc : tq_X13_ruled} {Q : Int × ms_M → Prop} (f : r 160 9 = 0) (k : r 167 e.toNat = 5) (H : Pc (qj_X13_ruled_444 nn rc e r) Q) : Pc (qo_X13_ruled nn rc e r) Q := by
  unfold qo_X13_ruled
  refine pc_if (fun _ => ?_) (fun z => absurd f z)
  refine pc_rA ?_; intro _ _ v0 e0
  rw [k] at e0
  rw [e0]
  refine pc_if (fun z => absurd z (by decide)) (fun _ => ?_)
  refine pc_if (fun z => absurd z (by decide)) (fun _ => ?_)
  refine pc_if (fun z => absurd z (by decide)) (fun _ => ?_)
  refine pc_if (fun z => absurd z (by decide)) (fun _ => ?_)
  exact pc_if (fun _ => H) (fun z => absurd rfl z)
theorem sju_6 {rc : tq_X13_ruled} {Q : Int × ms_M → Prop} (f : r 160 9 = 0) (k : r 167 e.toNat = 6) (H : Pc (qj_X13_ruled_444 nn rc e r) Q) : Pc (qo_X13_ruled nn rc e r) Q := by
  unfold qo_X13_ruled
  refine pc_if (fun _ => ?_) (fun z => absurd f z)
  refine pc_rA ?_; intro _ _ v0 e0
  rw [k] at e0
  rw [e0]
  refine pc_if (fun z => absurd z (by decide)) (fun _ => ?_)
  refine pc_if (fun z => absurd z (by decide)) (fun _ => ?_)
  refine pc_if (fun z => absurd z (by decide)) (fun _ => ?_)
  refine pc_if (fun z => absurd z (by decide)) (fun _ => ?_)
  refine pc_if (fun z => absurd z (by decide)) (fun _ => ?_)
  exact pc_if (fun _ => H) (fun z => absurd rfl z)
theorem sju_7 {rc : tq_X13_ruled} {Q : Int × ms_M → Prop} (f : r 160 9 = 0) (k : r 167 e.toNat = 7) (H : Pc (rd_A 9000 170 e r fun v220 => if ¬ v220 = (-1) then (qj_X13_ruled_503 nn rc e 0 r) else (qj_X13_ruled_503 nn rc e 1 r)) Q) : Pc (qo_X13_ruled nn rc e r) Q := by
  unfold qo_X13_ruled
  refine pc_if (fun _ => ?_) (fun z => absurd f z)
  refine pc_rA ?_; intro _ _ v0 e0
  rw [k] at e0
  rw [e0]
  refine pc_if (fun z => absurd z (by decide)) (fun _ => ?_)
  refine pc_if (fun z => absurd z (by decide)) (fun _ => ?_)
  refine pc_if (fun z => absurd z (by decide)) (fun _ => ?_)
  refine pc_if (fun z => absurd z (by decide)) (fun _ => ?_)
  refine pc_if (fun z => absurd z (by decide)) (fun _ => ?_)
  refine pc_if (fun z => absurd z (by decide)) (fun _ => ?_)
  exact pc_if (fun _ => H) (fun z => absurd rfl z)
theorem sju_8 {rc : tq_X13_ruled} {Q : Int × ms_M → Prop} (f : r 160 9 = 0) (k : r 167 e.toNat = 8) (H : Pc (rd_A 9000 170 e r fun v223 => mx_sv (qf_X13_given nn v223 r) fun u225 => mx_sv (qf_X13_isThing nn u225.1 u225.2) fun u226 => if u226 = 0 then (qj_X13_ruled_617 nn rc e u225.2) else (mx_sv (qf_X13_fits nn u225.1 10 u225.2) fun u228 => if ¬ u228 = 0 then (some (0, u225.2)) else (qj_X13_ruled_617 nn rc e u225.2))) Q) : Pc (qo_X13_ruled nn rc e r) Q := by
  unfold qo_X13_ruled
  refine pc_if (fun _ => ?_) (fun z => absurd f z)
  refine pc_rA ?_; intro _ _ v0 e0
  rw [k] at e0
  rw [e0]
  refine pc_if (fun z => absurd z (by decide)) (fun _ => ?_)
  refine pc_if (fun z => absurd z (by decide)) (fun _ => ?_)
  refine pc_if (fun z => absurd z (by decide)) (fun _ => ?_)
  refine pc_if (fun z => absurd z (by decide)) (fun _ => ?_)
  refine pc_if (fun z => absurd z (by decide)) (fun _ => ?_)
  refine pc_if (fun z => absurd z (by decide)) (fun _ => ?_)
  refine pc_if (fun z => absurd z (by decide)) (fun _ => ?_)
  exact pc_if (fun _ => H) (fun z => absurd rfl z)
theorem sju_9 {rc : tq_X13_ruled} {Q : Int × ms_M → Prop} (f : r 160 9 = 0) (k : r 167 e.toNat = 9) (H : Pc (rd_A 9000 170 e r fun v232 => mx_sv (rc v232 r) fun u234 => rd_A 9000 168 e u234.2 fun v236 => mx_sv (qf_X13_typeOf nn 3 v236 0 u234.2) fun u238 => mx_sv (qf_X13_fits nn u238.1 10 u238.2) fun u240 => if ¬ u240 = 0 then (qj_X13_ruled_679 nn rc e (r 160 50) u234.1 u238.1 u238.2) else (rd_A 9000 168 e u238.2 fun v242 => mx_sv (qf_X13_wrong nn 6 v242 u238.2) fun u244 => qj_X13_ruled_679 nn rc e (r 160 50) u234.1 u238.1 u244)) Q) : Pc (qo_X13_ruled nn rc e r) Q := by
  unfold qo_X13_ruled
  refine pc_if (fun _ => ?_) (fun z => absurd f z)
  refine pc_rA ?_; intro _ _ v0 e0
  rw [k] at e0
  rw [e0]
  refine pc_if (fun z => absurd z (by decide)) (fun _ => ?_)
  refine pc_if (fun z => absurd z (by decide)) (fun _ => ?_)
  refine pc_if (fun z => absurd z (by decide)) (fun _ => ?_)
  refine pc_if (fun z => absurd z (by decide)) (fun _ => ?_)
  refine pc_if (fun z => absurd z (by decide)) (fun _ => ?_)
  refine pc_if (fun z => absurd z (by decide)) (fun _ => ?_)
  refine pc_if (fun z => absurd z (by decide)) (fun _ => ?_)
  refine pc_if (fun z => absurd z (by decide)) (fun _ => ?_)
  exact pc_if (fun _ => H) (fun z => absurd rfl z)
theorem sju_10 {rc : tq_X13_ruled} {Q : Int × ms_M → Prop} (f : r 160 9 = 0) (k : r 167 e.toNat = 10) (H : Pc (rd_A 9000 170 e r fun v247 => mx_sv (qf_X13_given nn v247 r) fun u249 => if u249.1 ≤ 1 then (some (1, u249.2)) else (rd_A 9000 168 e u249.2 fun v251 => mx_sv (qf_X13_wrong nn 6 v251 u249.2) fun u253 => some (1, u253))) Q) : Pc (qo_X13_ruled nn rc e r) Q := by
  unfold qo_X13_ruled
  refine pc_if (fun _ => ?_) (fun z => absurd f z)
  refine pc_rA ?_; intro _ _ v0 e0
  rw [k] at e0
  rw [e0]
  refine pc_if (fun z => absurd z (by decide)) (fun _ => ?_)
  refine pc_if (fun z => absurd z (by decide)) (fun _ => ?_)
  refine pc_if (fun z => absurd z (by decide)) (fun _ => ?_)
  refine pc_if (fun z => absurd z (by decide)) (fun _ => ?_)
  refine pc_if (fun z => absurd z (by decide)) (fun _ => ?_)
  refine pc_if (fun z => absurd z (by decide)) (fun _ => ?_)
  refine pc_if (fun z => absurd z (by decide)) (fun _ => ?_)
  refine pc_if (fun z => absurd z (by decide)) (fun _ => ?_)
  refine pc_if (fun z => absurd z (by decide)) (fun _ => ?_)
  exact pc_if (fun _ => H) (fun z => absurd rfl z)
theorem sju_11 {rc : tq_X13_ruled} {Q : Int × ms_M → Prop} (f : r 160 9 = 0) (k : r 167 e.toNat = 11) (H : Pc (rd_A 9000 170 e r fun v258 => rd_A 9000 177 v258 r fun v259 => if v259 = 0 then (rd_A 9000 170 e r fun v261 => mx_sv (qf_X13_worked nn v261 r) fun u263 => qj_X13_ruled_840 nn rc e u263.1 e u263.2) else (rd_A 9000 170 e r fun v265 => mx_sv (qf_X13_given nn v265 r) fun u267 => qj_X13_ruled_840 nn rc e u267.1 e u267.2)) Q) : Pc (qo_X13_ruled nn rc e r) Q := by
  unfold qo_X13_ruled
  refine pc_if (fun _ => ?_) (fun z => absurd f z)
  refine pc_rA ?_; intro _ _ v0 e0
  rw [k] at e0
  rw [e0]
  refine pc_if (fun z => absurd z (by decide)) (fun _ => ?_)
  refine pc_if (fun z => absurd z (by decide)) (fun _ => ?_)
  refine pc_if (fun z => absurd z (by decide)) (fun _ => ?_)
  refine pc_if (fun z => absurd z (by decide)) (fun _ => ?_)
  refine pc_if (fun z => absurd z (by decide)) (fun _ => ?_)
  refine pc_if (fun z => absurd z (by decide)) (fun _ => ?_)
  refine pc_if (fun z => absurd z (by decide)) (fun _ => ?_)
  refine pc_if (fun z => absurd z (by decide)) (fun _ => ?_)
  refine pc_if (fun z => absurd z (by decide)) (fun _ => ?_)
  refine pc_if (fun z => absurd z (by decide)) (fun _ => ?_)
  exact pc_if (fun _ => H) (fun z => absurd rfl z)
theorem sju_d {rc : tq_X13_ruled} {Q : Int × ms_M → Prop} (f : r 160 9 = 0) (k : ¬ r 167 e.toNat = 1 ∧ ¬ r 167 e.toNat = 2 ∧ ¬ r 167 e.toNat = 3 ∧ ¬ r 167 e.toNat = 4 ∧ ¬ r 167 e.toNat = 5 ∧ ¬ r 167 e.toNat = 6 ∧ ¬ r 167 e.toNat = 7 ∧ ¬ r 167 e.toNat = 8 ∧ ¬ r 167 e.toNat = 9 ∧ ¬ r 167 e.toNat = 10 ∧ ¬ r 167 e.toNat = 11) (H : Pc (rd_A 9000 170 e r fun v160 => mx_sv (qf_X13_given nn v160 r) fun u162 => rd_A 9000 171 e u162.2 fun v164 => mx_sv (qf_X13_given nn v164 u162.2) fun u166 => rd_A 9000 170 e u166.2 fun v168 => mx_sv (qf_X13_canTake nn v168 u166.2) fun u170 => if u170 = 0 then (qj_X13_ruled_954 nn rc e u166.2) else (mx_sv (qf_X13_fits nn u166.1 u162.1 u166.2) fun u172 => if ¬ u172 = 0 then (some (1, u166.2)) else (qj_X13_ruled_954 nn rc e u166.2))) Q) : Pc (qo_X13_ruled nn rc e r) Q := by
  unfold qo_X13_ruled
  refine pc_if (fun _ => ?_) (fun z => absurd f z)
  refine pc_rA ?_; intro _ _ v0 e0
  refine pc_if (fun z => absurd (show r 167 e.toNat = 1 by omega) (by omega)) (fun _ => ?_)
  refine pc_if (fun z => absurd (show r 167 e.toNat = 2 by omega) (by omega)) (fun _ => ?_)
  refine pc_if (fun z => absurd (show r 167 e.toNat = 3 by omega) (by omega)) (fun _ => ?_)
  refine pc_if (fun z => absurd (show r 167 e.toNat = 4 by omega) (by omega)) (fun _ => ?_)
  refine pc_if (fun z => absurd (show r 167 e.toNat = 5 by omega) (by omega)) (fun _ => ?_)
  refine pc_if (fun z => absurd (show r 167 e.toNat = 6 by omega) (by omega)) (fun _ => ?_)
  refine pc_if (fun z => absurd (show r 167 e.toNat = 7 by omega) (by omega)) (fun _ => ?_)
  refine pc_if (fun z => absurd (show r 167 e.toNat = 8 by omega) (by omega)) (fun _ => ?_)
  refine pc_if (fun z => absurd (show r 167 e.toNat = 9 by omega) (by omega)) (fun _ => ?_)
  refine pc_if (fun z => absurd (show r 167 e.toNat = 10 by omega) (by omega)) (fun _ => ?_)
  refine pc_if (fun z => absurd (show r 167 e.toNat = 11 by omega) (by omega)) (fun _ => ?_)
  exact H
theorem sjm_1 {rc : tq_X13_make} {Q : Int × ms_M → Prop} (k : m 167 e.toNat = 1) (H : Pc (rd_A 9000 170 e m fun v49 => qw_X13_make_80 nn rc nn (m 160 50) 1 v49 m) Q) : Pc (qo_X13_make nn rc e m) Q := by
  unfold qo_X13_make
  refine pc_rA ?_; intro _ _ v0 e0
  rw [k] at e0
  rw [e0]
  exact pc_if (fun _ => H) (fun z => absurd rfl z)
theorem sjm_2 {rc : tq_X13_make} {Q : Int × ms_M → Prop} (k : m 167 e.toNat = 2) (H : Pc (rd_A 9000 170 e m fun v51 => mx_sv (qf_X13_work nn v51 m) fun u53 => rd_A 9000 174 e u53 fun v55 => mx_sv (qf_X13_store nn v55 (u53 160 50) u53) fun u58 => rd_A 9000 168 e u58 fun v60 => rd_A 9000 174 e u58 fun v62 => mx_sv (qf_X13_comes nn v60 v62 u58) fun u64 => some (1, u64)) Q) : Pc (qo_X13_make nn rc e m) Q := by
  unfold qo_X13_make
  refine pc_rA ?_; intro _ _ v0 e0
  rw [k] at e0
  rw [e0]
  refine pc_if (fun z => absurd z (by decide)) (fun _ => ?_)
  exact pc_if (fun _ => H) (fun z => absurd rfl z)
theorem sjm_3 {rc : tq_X13_make} {Q : Int × ms_M → Prop} (k : m 167 e.toNat = 3) (H : Pc (mx_sv (qf_X13_label nn m) fun u66 => rd_A 9000 170 e u66.2 fun v68 => mx_sv (qf_X13_work nn v68 u66.2) fun u70 => xl (oq_sub (u70 160 70) 1) fun v72 => xl (up_M u70 160 70 v72) fun h73 => mx_sv (qf_X13_jump nn 153 u66.1 h73) fun u75 => rd_A 9000 171 e u75 fun v77 => mx_sv (rc.1 v77 u75) fun u79 => xl (up_M u79.2 160 50 (m 160 50)) fun h80 => rd_A 9000 172 e h80 fun v82 => if ¬ v82 = (-1) then (mx_sv (qf_X13_label nn h80) fun u84 => if u79.1 = 0 then (qj_X13_make_246 nn rc e (m 160 50) u79.1 u66.1 u84.1 u84.2) else (mx_sv (qf_X13_jump nn 167 u84.1 u84.2) fun u86 => qj_X13_make_246 nn rc e (m 160 50) u79.1 u66.1 u84.1 u86)) else (mx_sv (qf_X13_stands nn u66.1 (h80 160 68) h80) fun u90 => qj_X13_make_225 nn rc u90)) Q) : Pc (qo_X13_make nn rc e m) Q := by
  unfold qo_X13_make
  refine pc_rA ?_; intro _ _ v0 e0
  rw [k] at e0
  rw [e0]
  refine pc_if (fun z => absurd z (by decide)) (fun _ => ?_)
  refine pc_if (fun z => absurd z (by decide)) (fun _ => ?_)
  exact pc_if (fun _ => H) (fun z => absurd rfl z)
theorem sjm_4 {rc : tq_X13_make} {Q : Int × ms_M → Prop} (k : m 167 e.toNat = 4) (H : Pc (mx_sv (rc.2.1 e (m 160 50) m) fun u93 => ck_B (u93.1 = 0 ∨ u93.1 = 1) <| some (u93.1, u93.2)) Q) : Pc (qo_X13_make nn rc e m) Q := by
  unfold qo_X13_make
  refine pc_rA ?_; intro _ _ v0 e0
  rw [k] at e0
  rw [e0]
  refine pc_if (fun z => absurd z (by decide)) (fun _ => ?_)
  refine pc_if (fun z => absurd z (by decide)) (fun _ => ?_)
  refine pc_if (fun z => absurd z (by decide)) (fun _ => ?_)
  exact pc_if (fun _ => H) (fun z => absurd rfl z)
theorem sjm_5 {rc : tq_X13_make} {Q : Int × ms_M → Prop} (k : m 167 e.toNat = 5) (H : Pc (qj_X13_make_305 nn rc e m) Q) : Pc (qo_X13_make nn rc e m) Q := by
  unfold qo_X13_make
  refine pc_rA ?_; intro _ _ v0 e0
  rw [k] at e0
  rw [e0]
  refine pc_if (fun z => absurd z (by decide)) (fun _ => ?_)
  refine pc_if (fun z => absurd z (by decide)) (fun _ => ?_)
  refine pc_if (fun z => absurd z (by decide)) (fun _ => ?_)
  refine pc_if (fun z => absurd z (by decide)) (fun _ => ?_)
  exact pc_if (fun _ => H) (fun z => absurd rfl z)
theorem sjm_6 {rc : tq_X13_make} {Q : Int × ms_M → Prop} (k : m 167 e.toNat = 6) (H : Pc (qj_X13_make_305 nn rc e m) Q) : Pc (qo_X13_make nn rc e m) Q := by
  unfold qo_X13_make
  refine pc_rA ?_; intro _ _ v0 e0
  rw [k] at e0
  rw [e0]
  refine pc_if (fun z => absurd z (by decide)) (fun _ => ?_)
  refine pc_if (fun z => absurd z (by decide)) (fun _ => ?_)
  refine pc_if (fun z => absurd z (by decide)) (fun _ => ?_)
  refine pc_if (fun z => absurd z (by decide)) (fun _ => ?_)
  refine pc_if (fun z => absurd z (by decide)) (fun _ => ?_)
  exact pc_if (fun _ => H) (fun z => absurd rfl z)
theorem sjm_7 {rc : tq_X13_make} {Q : Int × ms_M → Prop} (k : m 167 e.toNat = 7) (H : Pc (rd_A 9000 170 e m fun v96 => if ¬ v96 = (-1) then (rd_A 9000 170 e m fun v98 => mx_sv (qf_X13_work nn v98 m) fun u100 => xl (oq_sub (u100 160 70) 1) fun v102 => xl (up_M u100 160 70 v102) fun h103 => rd_A 800 187 (h103 160 51) h103 fun v106 => if 1 < v106 then (mx_sv (qf_X13_put nn 176 h103) fun u108 => some (0, u108)) else (mx_sv (qf_X13_put nn 172 h103) fun u110 => some (0, u110))) else (mx_sv (qf_X13_put nn 177 m) fun u113 => some (0, u113))) Q) : Pc (qo_X13_make nn rc e m) Q := by
  unfold qo_X13_make
  refine pc_rA ?_; intro _ _ v0 e0
  rw [k] at e0
  rw [e0]
  refine pc_if (fun z => absurd z (by decide)) (fun _ => ?_)
  refine pc_if (fun z => absurd z (by decide)) (fun _ => ?_)
  refine pc_if (fun z => absurd z (by decide)) (fun _ => ?_)
  refine pc_if (fun z => absurd z (by decide)) (fun _ => ?_)
  refine pc_if (fun z => absurd z (by decide)) (fun _ => ?_)
  refine pc_if (fun z => absurd z (by decide)) (fun _ => ?_)
  exact pc_if (fun _ => H) (fun z => absurd rfl z)
theorem sjm_8 {rc : tq_X13_make} {Q : Int × ms_M → Prop} (k : m 167 e.toNat = 8) (H : Pc (rd_A 9000 170 e m fun v116 => mx_sv (qf_X13_work nn v116 m) fun u118 => xl (oq_sub (u118 160 70) 1) fun v120 => xl (up_M u118 160 70 v120) fun h121 => mx_sv (qf_X13_put nn 191 h121) fun u123 => some (0, u123)) Q) : Pc (qo_X13_make nn rc e m) Q := by
  unfold qo_X13_make
  refine pc_rA ?_; intro _ _ v0 e0
  rw [k] at e0
  rw [e0]
  refine pc_if (fun z => absurd z (by decide)) (fun _ => ?_)
  refine pc_if (fun z => absurd z (by decide)) (fun _ => ?_)
  refine pc_if (fun z => absurd z (by decide)) (fun _ => ?_)
  refine pc_if (fun z => absurd z (by decide)) (fun _ => ?_)
  refine pc_if (fun z => absurd z (by decide)) (fun _ => ?_)
  refine pc_if (fun z => absurd z (by decide)) (fun _ => ?_)
  refine pc_if (fun z => absurd z (by decide)) (fun _ => ?_)
  exact pc_if (fun _ => H) (fun z => absurd rfl z)
theorem sjm_9 {rc : tq_X13_make} {Q : Int × ms_M → Prop} (k : m 167 e.toNat = 9) (H : Pc (mx_sv (rc.2.2 e (m 160 50) m) fun u125 => ck_B (u125.1 = 0 ∨ u125.1 = 1) <| some (u125.1, u125.2)) Q) : Pc (qo_X13_make nn rc e m) Q := by
  unfold qo_X13_make
  refine pc_rA ?_; intro _ _ v0 e0
  rw [k] at e0
  rw [e0]
  refine pc_if (fun z => absurd z (by decide)) (fun _ => ?_)
  refine pc_if (fun z => absurd z (by decide)) (fun _ => ?_)
  refine pc_if (fun z => absurd z (by decide)) (fun _ => ?_)
  refine pc_if (fun z => absurd z (by decide)) (fun _ => ?_)
  refine pc_if (fun z => absurd z (by decide)) (fun _ => ?_)
  refine pc_if (fun z => absurd z (by decide)) (fun _ => ?_)
  refine pc_if (fun z => absurd z (by decide)) (fun _ => ?_)
  refine pc_if (fun z => absurd z (by decide)) (fun _ => ?_)
  exact pc_if (fun _ => H) (fun z => absurd rfl z)
theorem sjm_10 {rc : tq_X13_make} {Q : Int × ms_M → Prop} (k : m 167 e.toNat = 10) (H : Pc (rd_A 9000 170 e m fun v128 => mx_sv (qf_X13_work nn v128 m) fun u130 => qj_X13_make_459 nn rc u130) Q) : Pc (qo_X13_make nn rc e m) Q := by
  unfold qo_X13_make
  refine pc_rA ?_; intro _ _ v0 e0
  rw [k] at e0
  rw [e0]
  refine pc_if (fun z => absurd z (by decide)) (fun _ => ?_)
  refine pc_if (fun z => absurd z (by decide)) (fun _ => ?_)
  refine pc_if (fun z => absurd z (by decide)) (fun _ => ?_)
  refine pc_if (fun z => absurd z (by decide)) (fun _ => ?_)
  refine pc_if (fun z => absurd z (by decide)) (fun _ => ?_)
  refine pc_if (fun z => absurd z (by decide)) (fun _ => ?_)
  refine pc_if (fun z => absurd z (by decide)) (fun _ => ?_)
  refine pc_if (fun z => absurd z (by decide)) (fun _ => ?_)
  refine pc_if (fun z => absurd z (by decide)) (fun _ => ?_)
  exact pc_if (fun _ => H) (fun z => absurd rfl z)
theorem sjm_11 {rc : tq_X13_make} {Q : Int × ms_M → Prop} (k : m 167 e.toNat = 11) (H : Pc (rd_A 9000 170 e m fun v132 => mx_sv (qf_X13_work nn v132 m) fun u134 => rd_A 9000 170 e u134 fun v137 => rd_A 9000 174 v137 u134 fun v138 => if v138 = 3 then (some (1, u134)) else (mx_sv (qf_X13_put nn 87 u134) fun u140 => xl (oq_sub (u140 160 70) 1) fun v142 => xl (up_M u140 160 70 v142) fun h143 => some (1, h143))) Q) : Pc (qo_X13_make nn rc e m) Q := by
  unfold qo_X13_make
  refine pc_rA ?_; intro _ _ v0 e0
  rw [k] at e0
  rw [e0]
  refine pc_if (fun z => absurd z (by decide)) (fun _ => ?_)
  refine pc_if (fun z => absurd z (by decide)) (fun _ => ?_)
  refine pc_if (fun z => absurd z (by decide)) (fun _ => ?_)
  refine pc_if (fun z => absurd z (by decide)) (fun _ => ?_)
  refine pc_if (fun z => absurd z (by decide)) (fun _ => ?_)
  refine pc_if (fun z => absurd z (by decide)) (fun _ => ?_)
  refine pc_if (fun z => absurd z (by decide)) (fun _ => ?_)
  refine pc_if (fun z => absurd z (by decide)) (fun _ => ?_)
  refine pc_if (fun z => absurd z (by decide)) (fun _ => ?_)
  refine pc_if (fun z => absurd z (by decide)) (fun _ => ?_)
  exact pc_if (fun _ => H) (fun z => absurd rfl z)
theorem sjm_d {rc : tq_X13_make} {Q : Int × ms_M → Prop} (k : ¬ m 167 e.toNat = 1 ∧ ¬ m 167 e.toNat = 2 ∧ ¬ m 167 e.toNat = 3 ∧ ¬ m 167 e.toNat = 4 ∧ ¬ m 167 e.toNat = 5 ∧ ¬ m 167 e.toNat = 6 ∧ ¬ m 167 e.toNat = 7 ∧ ¬ m 167 e.toNat = 8 ∧ ¬ m 167 e.toNat = 9 ∧ ¬ m 167 e.toNat = 10 ∧ ¬ m 167 e.toNat = 11) (H : Pc (rd_A 9000 170 e m fun v43 => rd_A 9000 171 e m fun v45 => mx_sv (qf_X13_assign nn v43 v45 m) fun u47 => some (1, u47)) Q) : Pc (qo_X13_make nn rc e m) Q := by
  unfold qo_X13_make
  refine pc_rA ?_; intro _ _ v0 e0
  refine pc_if (fun z => absurd (show m 167 e.toNat = 1 by omega) (by omega)) (fun _ => ?_)
  refine pc_if (fun z => absurd (show m 167 e.toNat = 2 by omega) (by omega)) (fun _ => ?_)
  refine pc_if (fun z => absurd (show m 167 e.toNat = 3 by omega) (by omega)) (fun _ => ?_)
  refine pc_if (fun z => absurd (show m 167 e.toNat = 4 by omega) (by omega)) (fun _ => ?_)
  refine pc_if (fun z => absurd (show m 167 e.toNat = 5 by omega) (by omega)) (fun _ => ?_)
  refine pc_if (fun z => absurd (show m 167 e.toNat = 6 by omega) (by omega)) (fun _ => ?_)
  refine pc_if (fun z => absurd (show m 167 e.toNat = 7 by omega) (by omega)) (fun _ => ?_)
  refine pc_if (fun z => absurd (show m 167 e.toNat = 8 by omega) (by omega)) (fun _ => ?_)
  refine pc_if (fun z => absurd (show m 167 e.toNat = 9 by omega) (by omega)) (fun _ => ?_)
  refine pc_if (fun z => absurd (show m 167 e.toNat = 10 by omega) (by omega)) (fun _ => ?_)
  refine pc_if (fun z => absurd (show m 167 e.toNat = 11 by omega) (by omega)) (fun _ => ?_)
  exact H
theorem sjc_11 {rc : tq_X0_readBlock} {p : Nat} {Q : Int × ms_M → Prop} (Y : CXs X) (TB : TBc (bK X) (bP X) (bc X) h) (hp : h 2 10 = (p : Int)) (pc : p < bc X) (f : h 2 11 = 0) (hd : d ≤ 42) (k : bK X p = 11) (H : Pc (qj_X0_readStatement_188 nn rc h) Q) : Pc (qo_X0_readStatement nn rc d h) Q := by
  unfold qo_X0_readStatement
  refine pc_if (fun _ => ?_) (fun z => absurd hd z)
  refine pc_sv (c_kind Y.1 TB pc hp f) ?_; intro u0 q0
  rw [k] at q0
  rw [q0]
  exact pc_if (fun _ => H) (fun z => absurd rfl z)
theorem sjc_14 {rc : tq_X0_readBlock} {p : Nat} {Q : Int × ms_M → Prop} (Y : CXs X) (TB : TBc (bK X) (bP X) (bc X) h) (hp : h 2 10 = (p : Int)) (pc : p < bc X) (f : h 2 11 = 0) (hd : d ≤ 42) (k : bK X p = 14) (H : Pc (qj_X0_readStatement_188 nn rc h) Q) : Pc (qo_X0_readStatement nn rc d h) Q := by
  unfold qo_X0_readStatement
  refine pc_if (fun _ => ?_) (fun z => absurd hd z)
  refine pc_sv (c_kind Y.1 TB pc hp f) ?_; intro u0 q0
  rw [k] at q0
  rw [q0]
  refine pc_if (fun z => absurd z (by decide)) (fun _ => ?_)
  exact pc_if (fun _ => H) (fun z => absurd rfl z)
theorem sjc_18 {rc : tq_X0_readBlock} {p : Nat} {Q : Int × ms_M → Prop} (Y : CXs X) (TB : TBc (bK X) (bP X) (bc X) h) (hp : h 2 10 = (p : Int)) (pc : p < bc X) (f : h 2 11 = 0) (hd : d ≤ 42) (k : bK X p = 18) (H : Pc (xl (oq_add d 1) fun v19 => mx_sv (rc.2.2.2.1 v19 h) fun u21 => ck_B (u21.1 = 0 ∨ u21.1 = 1) <| some (u21.1, u21.2)) Q) : Pc (qo_X0_readStatement nn rc d h) Q := by
  unfold qo_X0_readStatement
  refine pc_if (fun _ => ?_) (fun z => absurd hd z)
  refine pc_sv (c_kind Y.1 TB pc hp f) ?_; intro u0 q0
  rw [k] at q0
  rw [q0]
  refine pc_if (fun z => absurd z (by decide)) (fun _ => ?_)
  refine pc_if (fun z => absurd z (by decide)) (fun _ => ?_)
  exact pc_if (fun _ => H) (fun z => absurd rfl z)
theorem sjc_23 {rc : tq_X0_readBlock} {p : Nat} {Q : Int × ms_M → Prop} (Y : CXs X) (TB : TBc (bK X) (bP X) (bc X) h) (hp : h 2 10 = (p : Int)) (pc : p < bc X) (f : h 2 11 = 0) (hd : d ≤ 42) (k : bK X p = 23) (H : Pc (xl (oq_add d 1) fun v23 => mx_sv (qf_X0_readPrint nn v23 h) fun u25 => ck_B (u25.1 = 0 ∨ u25.1 = 1) <| some (u25.1, u25.2)) Q) : Pc (qo_X0_readStatement nn rc d h) Q := by
  unfold qo_X0_readStatement
  refine pc_if (fun _ => ?_) (fun z => absurd hd z)
  refine pc_sv (c_kind Y.1 TB pc hp f) ?_; intro u0 q0
  rw [k] at q0
  rw [q0]
  refine pc_if (fun z => absurd z (by decide)) (fun _ => ?_)
  refine pc_if (fun z => absurd z (by decide)) (fun _ => ?_)
  refine pc_if (fun z => absurd z (by decide)) (fun _ => ?_)
  exact pc_if (fun _ => H) (fun z => absurd rfl z)
theorem sjc_24 {rc : tq_X0_readBlock} {p : Nat} {Q : Int × ms_M → Prop} (Y : CXs X) (TB : TBc (bK X) (bP X) (bc X) h) (hp : h 2 10 = (p : Int)) (pc : p < bc X) (f : h 2 11 = 0) (hd : d ≤ 42) (k : bK X p = 24) (H : Pc (xl (oq_add d 1) fun v27 => mx_sv (qf_X0_readReturn nn v27 h) fun u29 => ck_B (u29.1 = 0 ∨ u29.1 = 1) <| some (u29.1, u29.2)) Q) : Pc (qo_X0_readStatement nn rc d h) Q := by
  unfold qo_X0_readStatement
  refine pc_if (fun _ => ?_) (fun z => absurd hd z)
  refine pc_sv (c_kind Y.1 TB pc hp f) ?_; intro u0 q0
  rw [k] at q0
  rw [q0]
  refine pc_if (fun z => absurd z (by decide)) (fun _ => ?_)
  refine pc_if (fun z => absurd z (by decide)) (fun _ => ?_)
  refine pc_if (fun z => absurd z (by decide)) (fun _ => ?_)
  refine pc_if (fun z => absurd z (by decide)) (fun _ => ?_)
  exact pc_if (fun _ => H) (fun z => absurd rfl z)
theorem sjc_27 {rc : tq_X0_readBlock} {p : Nat} {Q : Int × ms_M → Prop} (Y : CXs X) (TB : TBc (bK X) (bP X) (bc X) h) (hp : h 2 10 = (p : Int)) (pc : p < bc X) (f : h 2 11 = 0) (hd : d ≤ 42) (k : bK X p = 27) (H : Pc (xl (oq_add d 1) fun v31 => mx_sv (qf_X0_readThrow nn v31 h) fun u33 => ck_B (u33.1 = 0 ∨ u33.1 = 1) <| some (u33.1, u33.2)) Q) : Pc (qo_X0_readStatement nn rc d h) Q := by
  unfold qo_X0_readStatement
  refine pc_if (fun _ => ?_) (fun z => absurd hd z)
  refine pc_sv (c_kind Y.1 TB pc hp f) ?_; intro u0 q0
  rw [k] at q0
  rw [q0]
  refine pc_if (fun z => absurd z (by decide)) (fun _ => ?_)
  refine pc_if (fun z => absurd z (by decide)) (fun _ => ?_)
  refine pc_if (fun z => absurd z (by decide)) (fun _ => ?_)
  refine pc_if (fun z => absurd z (by decide)) (fun _ => ?_)
  refine pc_if (fun z => absurd z (by decide)) (fun _ => ?_)
  exact pc_if (fun _ => H) (fun z => absurd rfl z)
theorem sjc_29 {rc : tq_X0_readBlock} {p : Nat} {Q : Int × ms_M → Prop} (Y : CXs X) (TB : TBc (bK X) (bP X) (bc X) h) (hp : h 2 10 = (p : Int)) (pc : p < bc X) (f : h 2 11 = 0) (hd : d ≤ 42) (k : bK X p = 29) (H : Pc (xl (oq_add d 1) fun v35 => mx_sv (rc.2.2.2.2.2 v35 h) fun u37 => ck_B (u37.1 = 0 ∨ u37.1 = 1) <| some (u37.1, u37.2)) Q) : Pc (qo_X0_readStatement nn rc d h) Q := by
  unfold qo_X0_readStatement
  refine pc_if (fun _ => ?_) (fun z => absurd hd z)
  refine pc_sv (c_kind Y.1 TB pc hp f) ?_; intro u0 q0
  rw [k] at q0
  rw [q0]
  refine pc_if (fun z => absurd z (by decide)) (fun _ => ?_)
  refine pc_if (fun z => absurd z (by decide)) (fun _ => ?_)
  refine pc_if (fun z => absurd z (by decide)) (fun _ => ?_)
  refine pc_if (fun z => absurd z (by decide)) (fun _ => ?_)
  refine pc_if (fun z => absurd z (by decide)) (fun _ => ?_)
  refine pc_if (fun z => absurd z (by decide)) (fun _ => ?_)
  exact pc_if (fun _ => H) (fun z => absurd rfl z)
theorem sjc_31 {rc : tq_X0_readBlock} {p : Nat} {Q : Int × ms_M → Prop} (Y : CXs X) (TB : TBc (bK X) (bP X) (bc X) h) (hp : h 2 10 = (p : Int)) (pc : p < bc X) (f : h 2 11 = 0) (hd : d ≤ 42) (k : bK X p = 31) (H : Pc (xl (oq_add d 1) fun v39 => mx_sv (rc.2.2.2.2.1 v39 h) fun u41 => ck_B (u41.1 = 0 ∨ u41.1 = 1) <| some (u41.1, u41.2)) Q) : Pc (qo_X0_readStatement nn rc d h) Q := by
  unfold qo_X0_readStatement
  refine pc_if (fun _ => ?_) (fun z => absurd hd z)
  refine pc_sv (c_kind Y.1 TB pc hp f) ?_; intro u0 q0
  rw [k] at q0
  rw [q0]
  refine pc_if (fun z => absurd z (by decide)) (fun _ => ?_)
  refine pc_if (fun z => absurd z (by decide)) (fun _ => ?_)
  refine pc_if (fun z => absurd z (by decide)) (fun _ => ?_)
  refine pc_if (fun z => absurd z (by decide)) (fun _ => ?_)
  refine pc_if (fun z => absurd z (by decide)) (fun _ => ?_)
  refine pc_if (fun z => absurd z (by decide)) (fun _ => ?_)
  refine pc_if (fun z => absurd z (by decide)) (fun _ => ?_)
  exact pc_if (fun _ => H) (fun z => absurd rfl z)
theorem sjc_42 {rc : tq_X0_readBlock} {p : Nat} {Q : Int × ms_M → Prop} (Y : CXs X) (TB : TBc (bK X) (bP X) (bc X) h) (hp : h 2 10 = (p : Int)) (pc : p < bc X) (f : h 2 11 = 0) (hd : d ≤ 42) (k : bK X p = 42) (H : Pc (xl (oq_add d 1) fun v43 => mx_sv (rc.1 v43 h) fun u45 => ck_B (u45.1 = 0 ∨ u45.1 = 1) <| some (u45.1, u45.2)) Q) : Pc (qo_X0_readStatement nn rc d h) Q := by
  unfold qo_X0_readStatement
  refine pc_if (fun _ => ?_) (fun z => absurd hd z)
  refine pc_sv (c_kind Y.1 TB pc hp f) ?_; intro u0 q0
  rw [k] at q0
  rw [q0]
  refine pc_if (fun z => absurd z (by decide)) (fun _ => ?_)
  refine pc_if (fun z => absurd z (by decide)) (fun _ => ?_)
  refine pc_if (fun z => absurd z (by decide)) (fun _ => ?_)
  refine pc_if (fun z => absurd z (by decide)) (fun _ => ?_)
  refine pc_if (fun z => absurd z (by decide)) (fun _ => ?_)
  refine pc_if (fun z => absurd z (by decide)) (fun _ => ?_)
  refine pc_if (fun z => absurd z (by decide)) (fun _ => ?_)
  refine pc_if (fun z => absurd z (by decide)) (fun _ => ?_)
  exact pc_if (fun _ => H) (fun z => absurd rfl z)
theorem sjc_d {rc : tq_X0_readBlock} {p : Nat} {Q : Int × ms_M → Prop} (Y : CXs X) (TB : TBc (bK X) (bP X) (bc X) h) (hp : h 2 10 = (p : Int)) (pc : p < bc X) (f : h 2 11 = 0) (hd : d ≤ 42) (k : ¬ bK X p = 11 ∧ ¬ bK X p = 14 ∧ ¬ bK X p = 18 ∧ ¬ bK X p = 23 ∧ ¬ bK X p = 24 ∧ ¬ bK X p = 27 ∧ ¬ bK X p = 29 ∧ ¬ bK X p = 31 ∧ ¬ bK X p = 42) (H : Pc (qj_X0_readStatement_217 nn rc d h) Q) : Pc (qo_X0_readStatement nn rc d h) Q := by
  unfold qo_X0_readStatement
  refine pc_if (fun _ => ?_) (fun z => absurd hd z)
  refine pc_sv (c_kind Y.1 TB pc hp f) ?_; intro u0 q0
  refine pc_if (fun z => absurd (show bK X p = 11 by omega) (by omega)) (fun _ => ?_)
  refine pc_if (fun z => absurd (show bK X p = 14 by omega) (by omega)) (fun _ => ?_)
  refine pc_if (fun z => absurd (show bK X p = 18 by omega) (by omega)) (fun _ => ?_)
  refine pc_if (fun z => absurd (show bK X p = 23 by omega) (by omega)) (fun _ => ?_)
  refine pc_if (fun z => absurd (show bK X p = 24 by omega) (by omega)) (fun _ => ?_)
  refine pc_if (fun z => absurd (show bK X p = 27 by omega) (by omega)) (fun _ => ?_)
  refine pc_if (fun z => absurd (show bK X p = 29 by omega) (by omega)) (fun _ => ?_)
  refine pc_if (fun z => absurd (show bK X p = 31 by omega) (by omega)) (fun _ => ?_)
  refine pc_if (fun z => absurd (show bK X p = 42 by omega) (by omega)) (fun _ => ?_)
  exact H
end
end
section
/- S of both sides: what is shown of each -/
/-- the loop around; bb: how many breaks there were at its begin -/
def LPx (bb : Int) (h r : ms_M) : Prop := (0 ≤ bb ∧ bb ≤ h 33 12) ∧ ((r 160 54 = 0 ∧ h 33 9 = -1) ∨ (0 < r 160 54 ∧ (0 ≤ h 33 9 ∧ h 33 9 ≤ h 34 1) ∧ (0 ≤ h 33 10 ∧ h 33 10 ≤ h 34 7) ∧ ((r 198 (r 160 54).toNat = 0 ∧ h 33 12 = bb) ∨ (r 198 (r 160 54).toNat = 1 ∧ bb < h 33 12))))
/-- what is wanted ahead of an S -/
def SPq (X : BCx) (dp : Int) (p : Nat) (bb : Int) (h r : ms_M) : Prop := EPr X dp p h r ∧ (h 34 3 = 0 ∧ h 49 10 = 0 ∧ r 160 57 = 0 ∧ 5 * h 34 7 ≤ (p : Int) + 40) ∧ (LPx bb h r ∧ (0 ≤ r 160 54 ∧ r 160 54 ≤ dp) ∧ 6 * h 33 12 ≤ bP X p) ∧ (VTn (bn X) (h 33 8) ∧ ¬ h 33 8 = 300) ∧ (0 ≤ r 160 51 ∧ r 160 51 < 800) ∧ r 187 (r 160 51).toNat = ty_T (h 33 8)
/-- the nodes that the rules have not seen yet -/
def UNr (X : BCx) (a b : Int) (r : ms_M) : Prop := ∀ x : Nat, a ≤ (x : Int) → (x : Int) < b → r 175 x = bT X 175 x ∧ r 176 x = bT X 176 x
/-- of the places of tokens: a break takes six bytes -/
def BRw (X : BCx) : Prop := (∀ i : Nat, i + 1 < bc X → bP X i ≤ bP X (i + 1)) ∧ (∀ i : Nat, i + 2 < bc X → bK X i = 11 → bP X i + 6 ≤ bP X (i + 2)) ∧ ∀ i : Nat, i < bc X → 0 ≤ bP X i ∧ bP X i ≤ 3000
/-- what an S of the class leaves as it is -/
def CFs (h u : ms_M) : Prop := (∀ cc x : Nat, ¬ ((cc = 2 ∧ (x = 10 ∨ x = 11 ∨ x = 12)) ∨ (cc = 34 ∧ (x = 1 ∨ x = 3 ∨ x = 4 ∨ x = 7 ∨ x = 8 ∨ x = 10 ∨ x = 14 ∨ x = 15)) ∨ (35 ≤ cc ∧ cc ≤ 42) ∨ cc = 44 ∨ (cc = 45 ∧ (x = 4 ∨ x = 5)) ∨ cc = 46 ∨ cc = 47 ∨ (cc = 49 ∧ ((10 ≤ x ∧ x ≤ 15) ∨ x = 18)) ∨ (50 ≤ cc ∧ cc ≤ 54) ∨ (cc = 33 ∧ (x = 9 ∨ x = 10 ∨ x = 12))) → u cc x = h cc x) ∧ (u 33 9 = h 33 9 ∧ u 33 10 = h 33 10 ∧ h 33 12 ≤ u 33 12 ∧ h 34 7 ≤ u 34 7) ∧ (∀ x : Nat, (x : Int) < h 34 7 → u 37 x = h 37 x ∧ u 38 x = h 38 x) ∧ ((∀ x : Nat, (x : Int) < h 33 12 → u 44 x = h 44 x) ∧ ∀ x : Nat, h 33 12 ≤ (x : Int) → (x : Int) < u 33 12 → h 34 1 ≤ u 44 x ∧ u 44 x + 3 ≤ u 34 1) ∧ (h 34 1 ≤ u 34 1 ∧ ∀ x : Nat, (x : Int) < h 34 1 → u 35 x = h 35 x)
/-- .. and the rules of an S -/
def RFz (a b : Int) (r v : ms_M) : Prop := (∀ cc x : Nat, ¬ ((cc = 160 ∧ (x = 9 ∨ x = 10 ∨ x = 50 ∨ x = 54 ∨ x = 57)) ∨ (174 ≤ cc ∧ cc ≤ 176) ∨ (196 ≤ cc ∧ cc ≤ 199)) → v cc x = r cc x) ∧ (∀ cc x : Nat, 174 ≤ cc → cc ≤ 176 → ¬ (a ≤ (x : Int) ∧ (x : Int) < b) → v cc x = r cc x) ∧ (v 160 54 = r 160 54 ∧ v 160 57 = r 160 57 ∧ r 160 50 ≤ v 160 50) ∧ (∀ x : Nat, (x : Int) < r 160 50 → v 196 x = r 196 x ∧ v 197 x = r 197 x) ∧ ∀ x : Nat, (x : Int) < r 160 54 → v 198 x = r 198 x
def PBz (PB : Nat → Prop) (lb : Int) (Z : List (Int × Int)) : Nat → Prop := fun y => PB y ∨ ∃ j, (j, lb) ∈ Z ∧ (y = (j + 1).toNat ∨ y = (j + 2).toNat)
def WLz (WL : Int → Int → Prop) (A n lb : Int) (Z : List (Int × Int)) : Int → Int → Prop := fun q k => WL q k ∨ ((∃ j, (j, lb) ∈ Z) ∧ q = A ∧ k = n)
/-- the class's breaks from c0 on -/
def BRl (u : ms_M) (c0 c1 : Int) (js : List Int) : Prop := (js.length : Int) = c1 - c0 ∧ ∀ i : Nat, i < js.length → u 44 (c0.toNat + i) = js.getD i 0
/-- ahead of the making of an S -/
def MGi (X : BCx) (PB : Nat → Prop) (WL : Int → Int → Prop) (L : List (Int × Int)) (lb lh a b : Int) (p q : Nat) (h r v m : ms_M) : Prop := (MKx X PB WL L h m ∧ AN a b v m) ∧ (m 160 57 = 0 ∧ m 160 88 + 4 * (q : Int) ≤ 2000000000 + 4 * (p : Int) ∧ m 160 54 = r 160 54 ∧ m 160 51 = r 160 51) ∧ (0 < r 160 54 → m 219 (r 160 54).toNat = lb ∧ m 220 (r 160 54).toNat = lh ∧ lb < lh ∧ lh ≤ m 160 88) ∧ (∀ p n, WL p n → n ≤ h 34 7) ∧ (0 < r 160 54 → ∀ k, WL (h 33 9) k → k = h 33 10)
/-- .. and behind it -/
def MWf (m w : ms_M) : Prop := (w 160 57 = m 160 57 ∧ w 160 54 = m 160 54 ∧ w 160 51 = m 160 51) ∧ (∀ cc x : Nat, 174 ≤ cc → cc ≤ 176 → w cc x = m cc x) ∧ ∀ x : Nat, (x : Int) ≤ m 160 54 → w 219 x = m 219 x ∧ w 220 x = m 220 x
def MGz (X : BCx) (PB : Nat → Prop) (WL : Int → Int → Prop) (L : List (Int × Int)) (lb lh : Int) (h r u w : ms_M) (Z : List (Int × Int)) : Prop := MKx X (PBz PB lb Z) (WLz WL (h 33 9) (h 33 10) lb Z) (L ++ Z) u w ∧ (∀ e ∈ Z, e.2 = lb ∨ e.2 = lh) ∧ (r 160 54 = 0 → Z = []) ∧ BRl u (h 33 12) (u 33 12) (pl_L lh Z) ∧ ∀ j, (j, lb) ∈ Z → AMd u j (h 33 9)
def MGq (X : BCx) (PB : Nat → Prop) (WL : Int → Int → Prop) (L : List (Int × Int)) (lb lh : Int) (p q : Nat) (h r u m w : ms_M) : Prop := (∃ Z : List (Int × Int), MGz X PB WL L lb lh h r u w Z) ∧ MWf m w ∧ m 160 88 ≤ w 160 88 ∧ w 160 88 + 4 * (p : Int) ≤ m 160 88 + 4 * (q : Int)
def MGS (X : BCx) (fm : Nat → ms_M → Option (Int × ms_M)) (a b : Int) (p q : Nat) (h r u v : ms_M) (en : Int) : Prop := ∀ (d : Nat) (PB : Nat → Prop) (WL : Int → Int → Prop) (L : List (Int × Int)) (lb lh : Int) (m : ms_M), MGi X PB WL L lb lh a b p q h r v m → Pc (fm d m) (fun w => w.1 = en ∧ MGq X PB WL L lb lh p q h r u m w.2)
/-- an S has gone well on both sides, all but its making -/
def SKk (X : BCx) (a b : Int) (p q : Nat) (bb : Int) (h r u v : ms_M) : Prop := (u 2 10 = (q : Int) ∧ q < bc X ∧ p < q ∧ u 2 11 = 0 ∧ v 160 9 = 0) ∧ (BX X u v ∧ CFs h u ∧ RFz a b r v) ∧ (FRc u ∧ u 34 1 + 20 * (p : Int) ≤ h 34 1 + 20 * (q : Int) ∧ u 34 3 = 0 ∧ u 49 10 = 0 ∧ u 49 18 ≤ (q : Int)) ∧ 5 * u 34 7 + (p : Int) ≤ 5 * h 34 7 + (q : Int) ∧ 6 * u 33 12 + bP X p ≤ 6 * h 33 12 + bP X q ∧ LPx bb u v
def SOk (nn : Nat) (X : BCx) (s a b : Int) (p q : Nat) (bb : Int) (h r : ms_M) (x y : Int × ms_M) : Prop := (x.1 = y.1 ∧ (x.1 = 0 ∨ x.1 = 1)) ∧ SKk X a b p q bb h r x.2 y.2 ∧ MGS X (fun d m => (qg_X13_make nn d).1 s m) a b p q h r x.2 y.2 x.1
def S6 (nn : Nat) (X : BCx) (d a b : Int) (p q : Nat) (s : Int) : Prop := ∀ (dc dr : Nat) (h r : ms_M) (bb : Int), SPq X d p bb h r → UNr X a b r → Pc ((qg_X0_readBlock nn dc).2.2.1 d h) (fun x => Pc ((qg_X13_ruled nn dr) s r) (fun y => SFj x.2 y.2 ∨ SOk nn X s a b p q bb h r x y))
section
variable {nn : Nat} {X : BCx} {dp i a b a1 b1 a2 b2 e bb lb lh : Int} {p q t : Nat} {h g u r w m v z : ms_M} {PB : Nat → Prop} {WL : Int → Int → Prop} {L : List (Int × Int)}
theorem lpx_k (P : LPx bb h r) (e9 : u 33 9 = h 33 9) (e10 : u 33 10 = h 33 10) (e12 : u 33 12 = h 33 12) (l1 : h 34 1 ≤ u 34 1) (l7 : h 34 7 ≤ u 34 7) (v54 : v 160 54 = r 160 54) (v98 : v 198 (r 160 54).toNat = r 198 (r 160 54).toNat) : LPx bb u v := by
  obtain ⟨p1, p2⟩ := P
  refine ⟨by omega, ?_⟩
  rw [v54, v98, e9, e10, e12]
  rcases p2 with y | ⟨y1, y2, y3, y4⟩
  · exact .inl y
  · exact .inr ⟨y1, by omega, by omega, y4⟩
theorem cfs_r : CFs h h := ⟨fun _ _ _ => rfl, ⟨rfl, rfl, Int.le_refl _, Int.le_refl _⟩, fun _ _ => ⟨rfl, rfl⟩, ⟨fun _ _ => rfl, fun x c1 c2 => absurd c2 (by omega)⟩, Int.le_refl _, fun _ _ => rfl⟩
theorem cfs_t (A : CFs h g) (B : CFs g u) : CFs h u := by
  obtain ⟨a1, ⟨a2, a3, a4, a5⟩, a6, a7, a8, a9⟩ := A
  obtain ⟨b1, ⟨b2, b3, b4, b5⟩, b6, b7, b8, b9⟩ := B
  exact ⟨fun cc x q => (b1 cc x q).trans (a1 cc x q), ⟨b2.trans a2, b3.trans a3, by omega, by omega⟩, fun x hx => ⟨((b6 x (by omega)).1).trans (a6 x hx).1, ((b6 x (by omega)).2).trans (a6 x hx).2⟩, ⟨fun x hx => (b7.1 x (by omega)).trans (a7.1 x hx), fun x c1 c2 => by
    by_cases q : (x : Int) < g 33 12
    · have y := a7.2 x c1 q
      rw [b7.1 x q]; omega
    · have y := b7.2 x (by omega) c2
      omega⟩, by omega, fun x hx => (b9 x (by omega)).trans (a9 x hx)⟩
/-- small steps of the class -/
theorem cfs_o (E : ∀ cc x : Nat, ¬ ((cc = 2 ∧ (x = 10 ∨ x = 11 ∨ x = 12)) ∨ (cc = 34 ∧ (x = 1 ∨ x = 3 ∨ x = 4 ∨ x = 10 ∨ x = 14 ∨ x = 15)) ∨ (cc = 35 ∧ h 34 1 ≤ (x : Int)) ∨ cc = 36 ∨ (39 ≤ cc ∧ cc ≤ 42) ∨ (cc = 45 ∧ (x = 4 ∨ x = 5)) ∨ cc = 46 ∨ cc = 47 ∨ (cc = 49 ∧ ((10 ≤ x ∧ x ≤ 15) ∨ x = 18)) ∨ (50 ≤ cc ∧ cc ≤ 54)) → u cc x = h cc x) (l : h 34 1 ≤ u 34 1) : CFs h u := ⟨fun cc x q => E cc x (by omega), ⟨E 33 9 (by omega), E 33 10 (by omega), by rw [E 33 12 (by omega)]; exact Int.le_refl _, by rw [E 34 7 (by omega)]; exact Int.le_refl _⟩, fun x _ => ⟨E 37 x (by omega), E 38 x (by omega)⟩, ⟨fun x _ => E 44 x (by omega), fun x c1 c2 => by have := E 33 12 (by omega); omega⟩, l, fun x hx => E 35 x (by omega)⟩
theorem cfs_e (A : CFe h u) (l : h 34 1 ≤ u 34 1) (B : ∀ x : Nat, (x : Int) < h 34 1 → u 35 x = h 35 x) : CFs h u := by
  have E : ∀ cc x : Nat, ¬ ((cc = 2 ∧ (x = 10 ∨ x = 11 ∨ x = 12)) ∨ (cc = 34 ∧ (x = 1 ∨ x = 3 ∨ x = 4 ∨ x = 14 ∨ x = 15)) ∨ cc = 35 ∨ cc = 36 ∨ (40 ≤ cc ∧ cc ≤ 42) ∨ (cc = 45 ∧ (x = 4 ∨ x = 5)) ∨ cc = 46 ∨ cc = 47 ∨ (cc = 49 ∧ 10 ≤ x ∧ x ≤ 15) ∨ (50 ≤ cc ∧ cc ≤ 54)) → u cc x = h cc x := fun cc x q => A cc x (by omega) (by omega) (by omega) (by omega) (by omega) (by omega) (by omega) (by omega)
  exact ⟨fun cc x q => E cc x (by omega), ⟨E 33 9 (by omega), E 33 10 (by omega), by rw [E 33 12 (by omega)]; exact Int.le_refl _, by rw [E 34 7 (by omega)]; exact Int.le_refl _⟩, fun x _ => ⟨E 37 x (by omega), E 38 x (by omega)⟩, ⟨fun x _ => E 44 x (by omega), fun x c1 c2 => by have := E 33 12 (by omega); omega⟩, l, B⟩
theorem rfs_r : RFz a b r r := ⟨fun _ _ _ => rfl, fun _ _ _ _ _ => rfl, ⟨rfl, rfl, Int.le_refl _⟩, fun _ _ => ⟨rfl, rfl⟩, fun _ _ => rfl⟩
theorem rfs_t (A : RFz a1 b1 r v) (B : RFz a2 b2 v w) (h1 : a ≤ a1 ∧ b1 ≤ b) (h2 : a ≤ a2 ∧ b2 ≤ b) : RFz a b r w := by
  obtain ⟨c1, c2, ⟨c3, c4, c5⟩, c6, c7⟩ := A
  obtain ⟨d1, d2, ⟨d3, d4, d5⟩, d6, d7⟩ := B
  exact ⟨fun cc x q => (d1 cc x q).trans (c1 cc x q), fun cc x q1 q2 q3 => (d2 cc x q1 q2 (by omega)).trans (c2 cc x q1 q2 (by omega)), ⟨d3.trans c3, d4.trans c4, by omega⟩, fun x hx => ⟨((d6 x (by omega)).1).trans (c6 x hx).1, ((d6 x (by omega)).2).trans (c6 x hx).2⟩, fun x hx => (d7 x (by omega)).trans (c7 x hx)⟩
theorem rfs_e (R : RFe a1 b1 r v) (v57 : v 160 57 = r 160 57) (h1 : a ≤ a1 ∧ b1 ≤ b) : RFz a b r v := ⟨fun cc x q => R.1 cc x (by omega) (by omega) (by omega), fun cc x q1 q2 q3 => R.2 cc x q1 q2 (by omega), ⟨R.1 160 54 (by omega) (by omega) (by omega), v57, by rw [R.1 160 50 (by omega) (by omega) (by omega)]; exact Int.le_refl _⟩, fun x _ => ⟨R.1 196 x (by omega) (by omega) (by omega), R.1 197 x (by omega) (by omega) (by omega)⟩, fun x _ => R.1 198 x (by omega) (by omega) (by omega)⟩
theorem unr_k (U : UNr X a b r) (h1 : a ≤ a1 ∧ b1 ≤ b) (E : ∀ cc x : Nat, 175 ≤ cc → cc ≤ 176 → a1 ≤ (x : Int) → (x : Int) < b1 → v cc x = r cc x) : UNr X a1 b1 v := fun x q1 q2 => ⟨(E 175 x (by omega) (by omega) q1 q2).trans (U x (by omega) (by omega)).1, (E 176 x (by omega) (by omega) q1 q2).trans (U x (by omega) (by omega)).2⟩
theorem pbz_n : PBz PB lb [] = PB := funext fun y => propext ⟨fun q => q.elim id (fun ⟨_, q, _⟩ => (nomatch q)), .inl⟩
theorem wlz_n {A n : Int} : WLz WL A n lb [] = WL := funext fun x => funext fun y => propext ⟨fun q => q.elim id (fun ⟨⟨_, q⟩, _⟩ => (nomatch q)), .inl⟩
theorem pbz_a {Z1 Z2 : List (Int × Int)} : PBz (PBz PB lb Z1) lb Z2 = PBz PB lb (Z1 ++ Z2) := funext fun y => propext ⟨fun q => by
  rcases q with (q | ⟨j, q1, q2⟩) | ⟨j, q1, q2⟩
  · exact .inl q
  · exact .inr ⟨j, List.mem_append_left _ q1, q2⟩
  · exact .inr ⟨j, List.mem_append_right _ q1, q2⟩, fun q => by
  rcases q with q | ⟨j, q1, q2⟩
  · exact .inl (.inl q)
  · rcases List.mem_append.mp q1 with q1 | q1
    · exact .inl (.inr ⟨j, q1, q2⟩)
    · exact .inr ⟨j, q1, q2⟩⟩
theorem wlz_a {A n : Int} {Z1 Z2 : List (Int × Int)} : WLz (WLz WL A n lb Z1) A n lb Z2 = WLz WL A n lb (Z1 ++ Z2) := funext fun x => funext fun y => propext ⟨fun q => by
  rcases q with (q | ⟨⟨j, q1⟩, q2⟩) | ⟨⟨j, q1⟩, q2⟩
  · exact .inl q
  · exact .inr ⟨⟨j, List.mem_append_left _ q1⟩, q2⟩
  · exact .inr ⟨⟨j, List.mem_append_right _ q1⟩, q2⟩, fun q => by
  rcases q with q | ⟨⟨j, q1⟩, q2⟩
  · exact .inl (.inl q)
  · rcases List.mem_append.mp q1 with q1 | q1
    · exact .inl (.inr ⟨⟨j, q1⟩, q2⟩)
    · exact .inr ⟨⟨j, q1⟩, q2⟩⟩
theorem brl_n {c : Int} : BRl u c c [] := ⟨by show ((0 : Nat) : Int) = c - c; omega, fun i hi => absurd hi (by show ¬ i < 0; omega)⟩
theorem mwf_r : MWf m m := ⟨⟨rfl, rfl, rfl⟩, fun _ _ _ _ => rfl, fun _ _ => ⟨rfl, rfl⟩⟩
theorem mwf_t (A : MWf m w) (B : MWf w z) : MWf m z := ⟨⟨B.1.1.trans A.1.1, B.1.2.1.trans A.1.2.1, B.1.2.2.trans A.1.2.2⟩, fun cc x q1 q2 => (B.2.1 cc x q1 q2).trans (A.2.1 cc x q1 q2), fun x hx => ⟨((B.2.2 x (by rw [A.1.2.1]; exact hx)).1).trans (A.2.2 x hx).1, ((B.2.2 x (by rw [A.1.2.1]; exact hx)).2).trans (A.2.2 x hx).2⟩⟩
theorem mwf_o (E : ∀ cc x : Nat, (cc = 160 ∧ (x = 51 ∨ x = 54 ∨ x = 57)) ∨ (174 ≤ cc ∧ cc ≤ 176) ∨ cc = 219 ∨ cc = 220 → w cc x = m cc x) : MWf m w := ⟨⟨E 160 57 (by omega), E 160 54 (by omega), E 160 51 (by omega)⟩, fun cc x q1 q2 => E cc x (by omega), fun x _ => ⟨E 219 x (by omega), E 220 x (by omega)⟩⟩
theorem mg_nil (M : MKx X PB WL L u w) (F : MWf m w) (l1 : m 160 88 ≤ w 160 88) (l2 : w 160 88 + 4 * (p : Int) ≤ m 160 88 + 4 * (q : Int)) (e12 : u 33 12 = h 33 12) : MGq X PB WL L lb lh p q h r u m w := ⟨⟨[], by rw [pbz_n, wlz_n, List.append_nil]; exact M, fun e he => (nomatch he), fun _ => rfl, by rw [e12]; exact brl_n, fun j hj => (nomatch hj)⟩, F, l1, l2⟩
theorem brl_app {c0 c1 c2 : Int} {J1 J2 : List Int} (A : BRl g c0 c1 J1) (B : BRl u c1 c2 J2) (h0 : 0 ≤ c0) (E : ∀ x : Nat, (x : Int) < c1 → u 44 x = g 44 x) : BRl u c0 c2 (J1 ++ J2) := by
  obtain ⟨a1, a2⟩ := A
  obtain ⟨b1, b2⟩ := B
  refine ⟨by rw [List.length_append]; omega, fun i hi => ?_⟩
  rw [List.length_append] at hi
  by_cases q : i < J1.length
  · rw [E _ (by omega), a2 i q, List.getD_eq_getElem?_getD, List.getD_eq_getElem?_getD, List.getElem?_append_left q]
  · have z := b2 (i - J1.length) (by omega)
    rw [show c1.toNat + (i - J1.length) = c0.toNat + i by omega] at z
    rw [z, List.getD_eq_getElem?_getD, List.getD_eq_getElem?_getD, List.getElem?_append_right (by omega)]
/-- one after the other -/
theorem mg_seq {Z1 : List (Int × Int)} {w1 : ms_M} (A : MGz X PB WL L lb lh h r g w1 Z1) (A2 : MWf m w1 ∧ m 160 88 ≤ w1 160 88 ∧ w1 160 88 + 4 * (p : Int) ≤ m 160 88 + 4 * (t : Int)) (e54 : v 160 54 = r 160 54) (C : CFs g u) (c9 : g 33 9 = h 33 9 ∧ g 33 10 = h 33 10) (c0 : 0 ≤ h 33 12) (B : MGq X (PBz PB lb Z1) (WLz WL (h 33 9) (h 33 10) lb Z1) (L ++ Z1) lb lh t q g v u w1 w) : MGq X PB WL L lb lh p q h r u m w := by
  obtain ⟨⟨Z2, M2, z1, z2, z3, z4⟩, F, l1, l2⟩ := B
  obtain ⟨M1, y1, y2, y3, y4⟩ := A
  rw [c9.1, c9.2] at M2
  rw [pbz_a, wlz_a, List.append_assoc] at M2
  refine ⟨⟨Z1 ++ Z2, M2, fun e he => (List.mem_append.mp he).elim (y1 e) (z1 e), fun z => by rw [y2 z, z2 (by omega)]; rfl, by rw [pl_app]; exact brl_app y3 z3 c0 C.2.2.2.1.1, fun j hj => ?_⟩, mwf_t A2.1 F, by omega, by omega⟩
  rcases List.mem_append.mp hj with hj | hj
  · have jb := (jlb_m M1.1.2.1.2).1 (j, lb) (List.mem_append_right _ hj)
    have jb : 0 ≤ j ∧ j + 3 ≤ w1 160 68 ∧ lb ≤ w1 160 88 := jb
    have c1 := M1.1.1.1.1
    intro lt
    rw [C.2.2.2.2.2 _ (by omega), C.2.2.2.2.2 _ (by omega)]
    exact y4 j hj lt
  · rw [← c9.1]; exact z4 j hj
end
end
section
/- S of both sides: an E within -/
def SEq (h r u v : ms_M) : Prop := (h 34 1 ≤ u 34 1 ∧ ∀ x : Nat, (x : Int) < h 34 1 → u 35 x = h 35 x) ∧ v 160 57 = r 160 57
section
variable {nn : Nat} {X : BCx} {dp i a b a1 b1 a2 b2 e bb lb lh d : Int} {p q t : Nat} {h g u r w m v z : ms_M} {PB : Nat → Prop} {WL : Int → Int → Prop} {L : List (Int × Int)}
theorem brw_le (Wb : BRw X) : ∀ (k p : Nat), p + k < bc X → bP X p ≤ bP X (p + k) := by
  intro k
  induction k with
  | zero => intro p _; exact Int.le_refl _
  | succ k ih =>
    intro p hp
    have a1 := ih p (by omega)
    have a2 := Wb.1 (p + k) (by omega)
    rw [show p + (k + 1) = p + k + 1 by omega]
    omega
theorem brw_l (Wb : BRw X) (pq : p ≤ q) (qc : q < bc X) : bP X p ≤ bP X q := by
  have := brw_le Wb (q - p) p (by omega)
  rw [show p + (q - p) = q by omega] at this
  exact this
theorem se_by {dc : Nat} (Y : CXs X) (Q : EPr X dp p h r) (hd : dp ≤ 42) : Pc ((qg_X10_readValue nn dc).1 dp h) (fun u => 0 ≤ u 34 1 → h 34 1 ≤ u 34 1 ∧ ∀ x : Nat, (x : Int) < h 34 1 → u 35 x = h 35 x) := by
  obtain ⟨-, ⟨q1, q2, q3, q4⟩, ⟨f1, f2, f3⟩, o1⟩ := Q
  have c3 := Y.1.2.1
  refine pc_imp ((byg (h 34 1) (h 49 10) nn dc).1 trivial) (fun u B u0 => ?_)
  obtain ⟨I, F⟩ := B ⟨.inl ⟨Int.le_refl _, by omega⟩, f2.1, ⟨o1.1, Int.le_refl _, by omega⟩, fun i h1 h2 => by omega⟩
  exact ⟨by have := I.1; omega, F⟩
theorem se_gd {dc d2 : Nat} (Y : CXs X) (H : E0 nn X dp i a b p q e) (ek : ENDk (bK X q)) (Q : EPr X dp p h r) (r57 : r 160 57 = 0) (nb : 0 ≤ a ∧ a ≤ b ∧ b ≤ 8999) (na : bK X q = 46 → ¬ h 49 18 = (p : Int)) (hd : dp ≤ 42) : Pc ((qg_X10_readValue nn dc).1 dp h) (fun u => Pc ((qg_X13_condition nn d2).2.1 e r) (fun v => SFj u v.2 ∨ ((EOz nn X i a b p q e h r u v ∧ ¬ u 49 12 = 303 ∧ (¬ bK X q = 51 → FM01 nn X i a b p q e h u v.2)) ∧ SEq h r u v.2))) := by
  have T8 : ∀ cc y : Nat, 163 ≤ cc ∧ cc ≤ 173 → r cc y = bT X cc y := fun cc y z => Q.1.2.2.2.2.2.1 cc y (by omega)
  have J := j_given3 (x := (qg_X10_readValue nn dc).1 dp h) Q.1.1.1.2.2.1 T8 Y.2.2.1 (fun d2 => H ek dc d2 h r Q (by omega)) na d2
  refine pc_imp (pc_and J (se_by Y Q hd)) (fun u Hu => ?_)
  refine pc_imp (pc_and Hu.1 ((rkg_condition nn d2).2.1 (a1 := e) (h := r) (by omega))) (fun v y => ?_)
  rcases y.1 with S | K
  · exact .inl S
  · exact .inr ⟨K, Hu.2 K.1.1.2.2.2.1.2.1.1, y.2.1⟩
theorem se_g (Y : CXs X) (H : E0 nn X dp i a b p q e) (ek : ENDk (bK X q)) (Q : EPr X dp p h r) (r57 : r 160 57 = 0) (nb : 0 ≤ a ∧ a ≤ b ∧ b ≤ 8999) (na : bK X q = 46 → ¬ h 49 18 = (p : Int)) (hd : dp ≤ 42) : Pc (qf_X10_readWhole nn dp h) (fun u => Pc (qf_X13_given nn e r) (fun v => SFj u v.2 ∨ ((EOz nn X i a b p q e h r u v ∧ ¬ u 49 12 = 303 ∧ (¬ bK X q = 51 → FM01 nn X i a b p q e h u v.2)) ∧ SEq h r u v.2))) := by
  unfold qf_X10_readWhole
  exact pc_sv (se_gd (dc := 420) (d2 := 1600) Y H ek Q r57 nb na hd) (fun u Hu => pc_ret Hu)
theorem se_w (Y : CXs X) (H : E0 nn X dp i a b p q e) (ek : ENDk (bK X q)) (Q : EPr X dp p h r) (r57 : r 160 57 = 0) (nb : 0 ≤ a ∧ a ≤ b ∧ b ≤ 8999) (hd : dp ≤ 42) : Pc (qf_X10_readWhole nn dp h) (fun u => Pc (qf_X13_worked nn e r) (fun v => (SFj u v.2 ∨ VDj X i a b p q e h r u v) ∨ (EOz nn X i a b p q e h r u v ∧ SEq h r u v.2))) := by
  unfold qf_X10_readWhole
  refine pc_sv (pc_and (H ek 420 1600 h r Q (by omega)) (se_by Y Q hd)) (fun u Hu => pc_ret ?_)
  refine pc_imp (pc_and Hu.1 ((rkg_condition nn 1600).2.2.1 (a1 := e) (h := r) (by omega))) (fun v y => ?_)
  rcases y.1 with S | K
  · exact .inl S
  · exact .inr ⟨K, Hu.2 K.1.2.2.2.1.2.1.1, y.2.1⟩
/-- a condition in brackets, behind its word at p -/
theorem se_c (Y : CXs X) (H : E0 nn X dp i a b (p + 2) t e) (kt : bK X t = 41) (Q : EPr X dp p h r) (r57 : r 160 57 = 0) (nb : 0 ≤ a ∧ a ≤ e ∧ e < b ∧ b ≤ 8999) (al : h 49 18 ≤ (p : Int)) (hd : dp ≤ 42) (pt : p + 2 < t) (bg : bT X 169 e.toNat = ((p + 2 : Nat) : Int)) : Pc (qf_X10_readCondition nn dp h) (fun x => Pc (qf_X13_condition nn e r) (fun v => SFj x.2 v ∨ ∃ u, (EOz nn X i a b (p + 2) t e (up_M h 2 10 ((p + 2 : Nat) : Int)) r u (1, v) ∧ u 49 12 = 302 ∧ FM01 nn X i a b (p + 2) t e (up_M h 2 10 ((p + 2 : Nat) : Int)) u v) ∧ SEq h r u v ∧ x.1 = u 34 1 ∧ CJu 153 1 (up_M u 2 10 ((t + 1 : Nat) : Int)) x.2)) := by
  have Q0 := Q
  obtain ⟨B, ⟨q1, q2, q3, q4⟩, ⟨f1, f2, f3⟩, o1⟩ := Q0
  have c3 := Y.1.2.1
  have tc : t < bc X := tb_lt Y.1 (by omega)
  have t1c : t + 1 < bc X := jp_lt Y.1 tc (by omega)
  unfold qf_X10_readCondition
  rw [q1]
  refine pc_add (by omega) ?_; intro v12 e12
  refine pc_xl ?_; intro h14 e14
  rw [show v12 = ((p + 2 : Nat) : Int) by omega] at e14
  have E14 : ∀ cc x : Nat, ¬ (cc = 2 ∧ x = 10) → h14 cc x = h cc x := fun cc x z => by rw [e14, up_n z]
  have Q14 : EPr X dp (p + 2) h14 r := epr_in Q E14 (by rw [e14, up_s]) (by omega) (by omega)
  have TB14 := Q14.1.1.1.1.1
  rw [← e14]
  have FS39 : ∀ (s : Int) (g : ms_M), ¬ g 2 11 = 0 → Pc (qj_X10_readCondition_39 nn v12 s g) (fun u => FSc g u.2) := fun s g S => fs_qj_X10_readCondition_39 S
  show Pc (mx_sv ((qg_X10_readValue nn 420).1 dp h14) fun u16 => if ¬ (u16 49 12) = 302 then (qj_X10_readCondition_39 nn v12 0 u16) else (qj_X10_readCondition_39 nn v12 1 u16)) (fun x => Pc ((qg_X13_condition nn 1600).1 e r) (fun v => SFj x.2 v ∨ ∃ u, (EOz nn X i a b (p + 2) t e h14 r u (1, v) ∧ u 49 12 = 302 ∧ FM01 nn X i a b (p + 2) t e h14 u v) ∧ SEq h r u v ∧ x.1 = u 34 1 ∧ CJu 153 1 (up_M u 2 10 ((t + 1 : Nat) : Int)) x.2))
  refine pc_sv (se_gd (dc := 420) (d2 := 1599) Y H (.inl kt) Q14 r57 (by omega) (fun z => by omega) hd) ?_; intro u16 H16
  have COND : ∀ {Z : ms_M → Prop}, (∀ v : Int × ms_M, (SFj u16 v.2 ∨ ((EOz nn X i a b (p + 2) t e h14 r u16 v ∧ ¬ u16 49 12 = 303 ∧ (¬ bK X t = 51 → FM01 nn X i a b (p + 2) t e h14 u16 v.2)) ∧ SEq h14 r u16 v.2)) → Pc (if v.1 = 1 then (some v.2) else (rd_A 9000 169 e v.2 fun v4 => mx_sv (qf_X13_wrong nn 6 v4 v.2) fun u6 => some u6)) Z) → Pc ((qg_X13_condition nn 1600).1 e r) Z := fun {Z} HH => by
    show Pc (qo_X13_condition nn (qg_X13_condition nn 1599) e r) Z
    unfold qo_X13_condition
    exact pc_sv H16 (fun v hv => HH v hv)
  have SFp : ∀ (x : Int × ms_M) (v : Int × ms_M), FSc u16 x.2 → SFj u16 v.2 → Pc (if v.1 = 1 then (some v.2) else (rd_A 9000 169 e v.2 fun v4 => mx_sv (qf_X13_wrong nn 6 v4 v.2) fun u6 => some u6)) (fun w => SFj x.2 w ∨ ∃ u, (EOz nn X i a b (p + 2) t e h14 r u (1, w) ∧ u 49 12 = 302 ∧ FM01 nn X i a b (p + 2) t e h14 u w) ∧ SEq h r u w ∧ x.1 = u 34 1 ∧ CJu 153 1 (up_M u 2 10 ((t + 1 : Nat) : Int)) x.2) := fun x v F S => by
    refine pc_if (fun _ => pc_ret (.inl (sf_c S F))) (fun _ => ?_)
    refine pc_rA ?_; intro _ _ v4 _
    refine pc_sv (ft_qf_X13_wrong (sf_r S)) ?_; intro u6 F6
    exact pc_ret (.inl (sf_c ⟨S.1, by rw [F6.1]; exact S.2.1, by rw [F6.2]; exact S.2.2⟩ F))
  have Y3 := Y.2.2.1
  by_cases ok : u16 2 11 = 0
  · by_cases ty : u16 49 12 = 302
    · rw [if_neg (fun z => z ty)]
      unfold qj_X10_readCondition_39
      refine pc_sv c_want1 ?_; intro u2 q2'
      rw [q2']
      refine pc_xl ?_; intro v5 e5
      refine pc_xl ?_; intro h6 e6
      intro x ex
      refine COND (fun v hv => ?_)
      rcases hv with S | ⟨⟨K, n3, FM⟩, SE⟩
      · exact absurd ok S.1
      · have FX := FM (by omega)
        obtain ⟨⟨x1, x2, x3, x4, x5⟩, ⟨x6, x7, x8⟩, ⟨x9, x10, x11⟩, ⟨x12, x13, x14⟩, -⟩ := K.1
        have v1 : v.1 = 1 := by rw [x6, ty]; rfl
        rw [if_pos v1]
        refine pc_ret (.inr ⟨u16, ⟨by rw [← v1]; exact K, ty, FX⟩, ⟨by rw [← E14 34 1 (by omega)]; exact ⟨SE.1.1, fun y hy => by rw [SE.1.2 y hy]; exact E14 35 y (by omega)⟩, SE.2⟩, ?_⟩)
        have x1' : oq_add (u16 2 10) 1 = ((t + 1 : Nat) : Int) := by rw [x1, oq_add_eq (by omega) (by omega) (by omega)]; omega
        rw [e5, x1'] at e6
        have eq14 := E14 34 1 (by omega)
        have eq3 := E14 34 3 (by omega)
        have CJ : Pc (mx_sv (qf_X1_jump nn 153 1 h6) fun u9 => some (u9.1, u9.2)) (fun x => x.1 = u16 34 1 ∧ CJu 153 1 (up_M u16 2 10 ((t + 1 : Nat) : Int)) x.2) := by
          refine pc_sv (c_jump (by omega) (by rw [e6, up_n (by omega)]; omega) (by rw [e6, up_n (by omega)]; omega)) ?_; intro u9 ⟨q9, r9⟩
          refine pc_ret ⟨?_, ?_⟩
          · show u9.1 = u16 34 1
            rw [q9, e6, up_n (by omega)]
          · show CJu 153 1 _ u9.2
            rw [← e6]; exact r9
        exact CJ x ex
    · rw [if_pos ty]
      intro x ex
      refine COND (fun v hv => ?_)
      rcases hv with S | ⟨⟨K, n3, FM⟩, SE⟩
      · exact absurd ok S.1
      · obtain ⟨⟨x1, x2, x3, x4, x5⟩, ⟨x6, x7, x8⟩, ⟨x9, x10, x11⟩, -, -⟩ := K.1
        have tyc := ty_c (vtn_v Y3 x7)
        have v1 : ¬ v.1 = 1 := by rw [x6]; omega
        rw [if_neg v1]
        have B16 : BX X u16 v.2 := bx_e Q14.1 x9 x10
        have C0 : Pc (qj_X10_readCondition_39 nn v12 0 u16) (fun x => x.2 2 11 = 6 ∧ x.2 2 12 = bP X (p + 2)) := by
          unfold qj_X10_readCondition_39
          refine pc_sv (c_want0 B16.1.1.1.1 ok (tk := p + 2) (by omega) (by omega)) ?_; intro u2 s2
          refine pc_xl ?_; intro v5 _
          refine pc_xl ?_; intro h6 e6
          have S6 : ¬ h6 2 11 = 0 := by rw [e6, up_n (by omega)]; omega
          refine pc_sv (fs_qf_X1_jump S6) ?_; intro u9 F9
          refine pc_ret ⟨?_, ?_⟩
          · show u9.2 2 11 = 6
            rw [F9.1, e6, up_n (by omega)]; exact s2.1
          · show u9.2 2 12 = _
            rw [F9.2, e6, up_n (by omega)]; exact s2.2
        obtain ⟨s1, s2⟩ := C0 x ex
        refine pc_rA ?_; intro _ _ v4 e4
        rw [B16.2.2.2.2.2.1 169 _ (by omega), bg] at e4
        refine pc_sv (r_wrong B16.1.1.2.2.1 (p := p + 2) (by omega) x5 e4) ?_; intro u6 w1
        exact pc_ret (.inl ⟨by omega, by rw [w1.1, s1], by rw [w1.2, s2]⟩)
  · have FSX : Pc (if ¬ (u16 49 12) = 302 then (qj_X10_readCondition_39 nn v12 0 u16) else (qj_X10_readCondition_39 nn v12 1 u16)) (fun u => FSc u16 u.2) := pc_if (fun _ => FS39 0 u16 ok) (fun _ => FS39 1 u16 ok)
    intro x ex
    refine COND (fun v hv => ?_)
    rcases hv with S | ⟨⟨K, -⟩, -⟩
    · exact SFp x v (FSX x ex) S
    · exact absurd K.1.1.2.2.2.1 ok
/-- the making of an E within -/
theorem se_m (Cm : MKC nn X e a b p q h u v) (M : MKx X PB WL L h m) (A : AN a b v m) (m57 : m 160 57 = 0) (nb : 0 ≤ a ∧ a ≤ b ∧ b ≤ 8999) (l : m 160 88 + 4 * (q : Int) ≤ 2000000000 + 4 * (p : Int)) : Pc (qf_X13_work nn e m) (fun w => (MKx X PB WL L u w ∧ (m 160 88 ≤ w 160 88 ∧ w 160 88 + 4 * (p : Int) ≤ m 160 88 + 4 * (q : Int))) ∧ MWf m w ∧ ∀ cc x : Nat, ¬ ((cc = 160 ∧ (x = 57 ∨ x = 62 ∨ x = 64 ∨ x = 66 ∨ x = 68 ∨ x = 70 ∨ x = 71 ∨ x = 78 ∨ x = 79 ∨ x = 87 ∨ x = 88)) ∨ (199 ≤ cc ∧ cc ≤ 212) ∨ cc = 217 ∨ cc = 218) → w cc x = m cc x) := by
  intro w ew
  have W1 := Cm 1450 PB WL L m M A (by omega) l w ew
  have RK := (rkg_work nn 1450).1 (a1 := e) (h := m) (by omega) w ew
  have F : ∀ cc x : Nat, ¬ ((cc = 160 ∧ (x = 57 ∨ x = 62 ∨ x = 64 ∨ x = 66 ∨ x = 68 ∨ x = 70 ∨ x = 71 ∨ x = 78 ∨ x = 79 ∨ x = 87 ∨ x = 88)) ∨ (199 ≤ cc ∧ cc ≤ 212) ∨ cc = 217 ∨ cc = 218) → w cc x = m cc x := fun cc x q => ff_X13_work nn w ew cc x (nw_of (by unfold wl_X13_work; simp only [List.mem_cons, List.not_mem_nil, or_false]; omega) (by unfold wf_X13_work; simp only [List.mem_cons, List.not_mem_nil, or_false, Prod.mk.injEq]; omega))
  exact ⟨W1, ⟨⟨RK.1, F 160 54 (by omega), F 160 51 (by omega)⟩, fun cc x q1 q2 => F cc x (by omega), fun x _ => ⟨F 219 x (by omega), F 220 x (by omega)⟩⟩, F⟩
/-- an S that leaves variables and breaks as they are -/
theorem sk_leaf (Q : SPq X d p bb h r) (Wb : BRw X) (pos : z 2 10 = (q : Int) ∧ q < bc X ∧ p < q ∧ z 2 11 = 0 ∧ v 160 9 = 0) (B : BX X z v) (Cf : CFs h z) (Rf : RFz a b r v) (c12 : z 33 12 = h 33 12) (c7 : z 34 7 = h 34 7) (v98 : v 198 (r 160 54).toNat = r 198 (r 160 54).toNat) (F : FRc z) (l1 : z 34 1 + 20 * (p : Int) ≤ h 34 1 + 20 * (q : Int)) (z3 : z 34 3 = 0) (z10 : z 49 10 = 0) (z18 : z 49 18 ≤ (q : Int)) : SKk X a b p q bb h r z v := by
  have bm := brw_l Wb (p := p) (q := q) (by omega) pos.2.1
  exact ⟨pos, ⟨B, Cf, Rf⟩, ⟨F, l1, z3, z10, z18⟩, by omega, by omega, lpx_k Q.2.2.1.1 Cf.2.1.1 Cf.2.1.2.1 c12 Cf.2.2.2.2.1 Cf.2.1.2.2.2 Rf.2.2.1.1 v98⟩
end
end
section
/- S of both sides: an E, then one op (print, throw, return) -/
section
variable {nn : Nat} {X : BCx} {dp i a b a1 b1 a2 b2 e s bb lb lh d o en k : Int} {p q t p2 : Nat} {h g u r w m z h16 g1 g2 m1 : ms_M} {v : Int × ms_M} {PB : Nat → Prop} {WL : Int → Int → Prop} {L : List (Int × Int)}
/-- put behind a pop: the other way round -/
theorem rp_swap (e1 : m1 = up_M m 160 70 (m 160 70 - k)) (B : RPt o m1 w) : ∃ w1 : ms_M, RPt o m w1 ∧ w = up_M w1 160 70 (w1 160 70 - k) := by
  obtain ⟨b1, b2, b3⟩ := B
  have x68 : m1 160 68 = m 160 68 := by rw [e1, up_n (by omega)]
  have w70 : w 160 70 = m 160 70 - k := by rw [b3 160 70 (by omega) (by omega), e1, up_s]
  rw [x68] at b1 b2 b3
  refine ⟨up_M w 160 70 (m 160 70), ⟨by rw [up_n (by omega)]; exact b1, fun z => by rw [up_n (by omega)]; exact b2 z, fun cc x z1 z2 => ?_⟩, ?_⟩
  · by_cases q : cc = 160 ∧ x = 70
    · rw [q.1, q.2, up_s]
    · rw [up_n q, b3 cc x z1 z2, e1, up_n q]
  · funext cc x
    by_cases q : cc = 160 ∧ x = 70
    · rw [q.1, q.2, up_s, up_s]; exact w70
    · rw [up_n q, up_n q]
theorem mkx_oppop (M : MKx X PB WL L h m) (A1 : COp o h g1) (A2 : CPo k g1 g2) (hk : 0 ≤ k ∧ k ≤ h 34 3) (e1 : m1 = up_M m 160 70 (m 160 70 - k)) (B : RPt o m1 w) (oR : in_R o) : MKx X PB WL L g2 w := by
  obtain ⟨w1, B1, ew⟩ := rp_swap e1 B
  have M1 : MKx X PB WL L g1 w1 := mk_op M A1 B1 (fun _ => rfl) oR
  exact mk_pop M1 A2 (by rw [A1.2.2 34 3 (by omega) (by omega)]; exact hk) ew
/-- what stands before an S and is read once more -/
theorem sl_eo (Y : CXs X) (Wb : BRw X) (Q : SPq X d p bb h r) (ne : 0 ≤ a ∧ a ≤ s ∧ s < b) (nb : b ≤ 8999) (E16 : ∀ cc x : Nat, ¬ (cc = 2 ∧ x = 10) → h16 cc x = h cc x) (K : EOz nn X i (s + 1) b p2 t e h16 r u v) (FX : FM01 nn X i (s + 1) b p2 t e h16 u v.2) (n3 : ¬ u 49 12 = 303) (kt : ¬ bK X t = 51) (SE : SEq h16 r u v.2) (A1 : COp o u g1) (A2 : CPo 1 g1 g2) (ez : z = up_M g2 2 10 (q : Int)) (pq : p < p2 ∧ t < q ∧ q < bc X) (oR : in_R o) (hen : en = 0 ∨ en = 1) (MP : ∀ (d2 : Nat) (m : ms_M) (R : Int × ms_M → Prop), (∀ cc x : Nat, ((163 ≤ cc ∧ cc ≤ 173) ∨ cc = 177) → m cc x = bT X cc x) → (∀ cc x : Nat, (178 ≤ cc ∧ cc ≤ 195) → m cc x = bB X cc x) → m 160 51 = r 160 51 → Pc (qf_X13_work nn e m) (fun w => (∀ cc x : Nat, ¬ ((cc = 160 ∧ (x = 57 ∨ x = 62 ∨ x = 64 ∨ x = 66 ∨ x = 68 ∨ x = 70 ∨ x = 71 ∨ x = 78 ∨ x = 79 ∨ x = 87 ∨ x = 88)) ∨ (199 ≤ cc ∧ cc ≤ 212) ∨ cc = 217 ∨ cc = 218) → w cc x = m cc x) ∧ Pc (xl (oq_sub (w 160 70) 1) fun v2 => xl (up_M w 160 70 v2) fun h3 => mx_sv (qf_X13_put nn o h3) fun u5 => some (en, u5)) R) → Pc ((qg_X13_make nn d2).1 s m) R) : SOk nn X s a b p q bb h r (en, z) (en, v.2) := by
  have Q0 := Q
  obtain ⟨⟨B, ⟨q1, q2, q3, q4⟩, ⟨f1, f2, f3⟩, o1⟩, ⟨h3, h10, r57, h7⟩, ⟨LP, l54, br⟩, -⟩ := Q0
  obtain ⟨⟨x1, x2, x3, x4, x5⟩, ⟨x6, x7, x8⟩, ⟨x9, x10, x11⟩, ⟨x12, x13, x14⟩, -⟩ := K.1
  obtain ⟨⟨y1, -⟩, y2⟩ := FX.2.2 kt
  rw [if_neg n3] at y1
  have e1 := E16 34 1 (by omega)
  have e3 := E16 34 3 (by omega)
  have e7 := E16 34 7 (by omega)
  have c3 := Y.1.2.1
  have Z : ∀ cc x : Nat, ¬ ((cc = 2 ∧ x = 10) ∨ (cc = 34 ∧ (x = 1 ∨ x = 3)) ∨ (cc = 35 ∧ x = (u 34 1).toNat)) → z cc x = u cc x := fun cc x q => by rw [ez, up_n (by omega), A2.2 cc x (by omega)]; exact A1.2.2 cc x (by omega) (by omega)
  have z1 : z 34 1 = u 34 1 + 1 := by rw [ez, up_n (by omega), A2.2 34 1 (by omega)]; exact A1.1
  have z3 : z 34 3 = 0 := by rw [ez, up_n (by omega), A2.1, A1.2.2 34 3 (by omega) (by omega)]; split <;> omega
  have CE : CFe h u := fun cc x a1 a2 a3 a4 a5 a6 a7 a8 => by rw [x9 cc x a1 a2 a3 a4 a5 a6 a7 a8]; exact E16 cc x (by omega)
  have Cu : CFs h u := cfs_e CE (by have := SE.1.1; omega) (fun x hx => by rw [SE.1.2 x (by omega)]; exact E16 35 x (by omega))
  have Cz : CFs h z := cfs_t Cu (cfs_o (fun cc x q => Z cc x (by omega)) (by omega))
  have B16 : BX X h16 r := bx_k B (fun cc x z => E16 cc x (by omega)) (fun _ _ _ => rfl)
  have Bu : BX X u v.2 := bx_e B16 x9 x10
  have Bz : BX X z v.2 := bx_k Bu (fun cc x q => Z cc x (by omega)) (fun _ _ _ => rfl)
  have u18 : u 49 18 = h 49 18 := CE 49 18 (by omega) (by omega) (by omega) (by omega) (by omega) (by omega) (by omega) (by omega)
  have u10 : u 49 10 = 0 := by rw [x11.1, E16 49 10 (by omega)]; exact h10
  refine ⟨⟨rfl, hen⟩, sk_leaf Q Wb ⟨by show z 2 10 = _; rw [ez, up_s], by omega, by omega, by show z 2 11 = 0; rw [Z 2 11 (by omega)]; exact x4, x5⟩ Bz Cz (rfs_e x10 SE.2 ⟨by omega, Int.le_refl _⟩) ?_ ?_ (x10.1 198 _ (by omega) (by omega) (by omega)) (frc_k x12 (fun cc x q => Z cc x (by omega))) (by show z 34 1 + _ ≤ _; omega) z3 (by show z 49 10 = 0; rw [Z 49 10 (by omega)]; exact u10) (by show z 49 18 ≤ _; rw [Z 49 18 (by omega)]; omega), ?_⟩
  · show z 33 12 = _
    rw [Z 33 12 (by omega)]; exact CE 33 12 (by omega) (by omega) (by omega) (by omega) (by omega) (by omega) (by omega) (by omega)
  · show z 34 7 = _
    rw [Z 34 7 (by omega)]; exact CE 34 7 (by omega) (by omega) (by omega) (by omega) (by omega) (by omega) (by omega) (by omega)
  · intro d2 PB WL L lb lh m I
    obtain ⟨⟨M, AM⟩, ⟨m57, m88, m54, m51⟩, -, WN, CO⟩ := I
    obtain ⟨MT, MTB, -⟩ := mk_t M
    refine MP d2 m _ MT MTB m51 ?_
    refine pc_imp (se_m (a := s + 1) (b := b) y2 (mkx_c M (fun cc x q1 q2 q3 => E16 cc x (by omega))) (an_s AM ⟨by omega, Int.le_refl _⟩ (fun _ _ _ _ _ _ => rfl)) m57 (by omega) (by omega)) (fun w W => ⟨W.2.2, ?_⟩)
    obtain ⟨⟨Mw, lw⟩, Fw, Ew⟩ := W
    have sk := Mw.2.1
    have cb := Mw.1.1.1
    refine pc_sub (by omega) ?_; intro v2 e2
    refine pc_xl ?_; intro h3' e3'
    refine pc_sv (r_put (by rw [e3', up_n (by omega)]; omega)) ?_; intro u5 B5
    have M5 : MKx X PB WL L g2 u5 := mkx_oppop Mw A1 A2 (by omega) (by rw [e3', e2]) B5 oR
    have E5 : ∀ cc x : Nat, ¬ (cc = 160 ∧ (x = 68 ∨ x = 70)) → ¬ cc = 206 → u5 cc x = w cc x := fun cc x q1 q2 => by rw [B5.2.2 cc x (by omega) (by omega), e3', up_n (by omega)]
    have l88 := E5 160 88 (by omega) (by omega)
    exact pc_ret ⟨rfl, mg_nil (mkx_c M5 (fun cc x q1 q2 q3 => by show z cc x = _; rw [ez, up_n (by omega)])) (mwf_t Fw (mwf_o (fun cc x q => E5 cc x (by omega) (by omega)))) (by show _ ≤ u5 160 88; omega) (by show u5 160 88 + _ ≤ _; omega) (by show z 33 12 = _; rw [Z 33 12 (by omega)]; exact CE 33 12 (by omega) (by omega) (by omega) (by omega) (by omega) (by omega) (by omega) (by omega))⟩
end
end
section
/- S of both sides: print, throw, return -/
section
variable {nn : Nat} {X : BCx} {dp i a b a1 b1 a2 b2 e s bb lb lh d o en k ix : Int} {p q t p2 : Nat} {h g u r w m z h16 g1 g2 m1 : ms_M} {v : Int × ms_M} {PB : Nat → Prop} {WL : Int → Int → Prop} {L : List (Int × Int)}
theorem yn_1 {x : Int} {P : Prop} (q : (x = 1 ∧ P) ∨ (x = 0 ∧ ¬ P)) (y : P) : ¬ x = 0 := by
  rcases q with z | z
  · omega
  · exact absurd y z.2
theorem yn_0 {x : Int} {P : Prop} (q : (x = 1 ∧ P) ∨ (x = 0 ∧ ¬ P)) (y : ¬ P) : x = 0 := by
  rcases q with z | z
  · exact absurd z.2 y
  · exact z.1
/-- the reference's wrong behind a FAULT -/
theorem rw_sf {k x : Int} {en : Int} (S : SFj u r) (Z : Int × ms_M → Prop) (H : ∀ y : Int × ms_M, SFj u y.2 → Z y) : Pc (mx_sv (qf_X13_wrong nn k x r) fun u6 => some (en, u6)) Z := by
  refine pc_sv (ft_qf_X13_wrong (sf_r S)) ?_; intro u6 F6
  exact pc_ret (H _ ⟨S.1, by show u6 160 9 = _; rw [F6.1]; exact S.2.1, by show u6 160 10 = _; rw [F6.2]; exact S.2.2⟩)
/-- a FAULT on both sides -/
theorem sf_mk {c pl : Int} (c0 : ¬ c = 0) (a1 : u 2 11 = c) (a2 : u 2 12 = pl) (a3 : r 160 9 = c) (a4 : r 160 10 = pl) : SFj u r := ⟨by rw [a1]; exact c0, by rw [a3, a1], by rw [a4, a2]⟩
theorem s6_tp (Y : CXs X) (Wb : BRw X) (ne : 0 ≤ a ∧ a ≤ s ∧ s < b) (nb : b ≤ 8999) (hd : 0 ≤ d ∧ d ≤ 40) (nd : bT X 167 s.toNat = 10 ∧ bT X 168 s.toNat = (p : Int)) (kk : bK X p = 23 ∧ bK X (p + 1) = 40) (H : E0 nn X (d + 1) ix (s + 1) b (p + 2) t (bT X 170 s.toNat)) (kt : bK X t = 41 ∧ bK X (t + 1) = 46) (pt : p + 2 < t) : S6 nn X d a b p (t + 2) s := by
  intro dc dr h r bb Q U
  have Q0 := Q
  obtain ⟨Qe, ⟨h3, h10, r57, h7⟩, -, -⟩ := Q0
  have Qe0 := Qe
  obtain ⟨B, ⟨q1, q2, q3, q4⟩, ⟨f1, f2, f3⟩, o1⟩ := Qe0
  have T : ∀ cc y : Nat, ((163 ≤ cc ∧ cc ≤ 173) ∨ cc = 177) → r cc y = bT X cc y := B.2.2.2.2.2.1
  have c3 := Y.1.2.1
  have n8 := Y.2.2.1
  have t1c : t + 1 < bc X := tb_lt Y.1 (by omega)
  have t2c : t + 2 < bc X := jp_lt Y.1 t1c (by omega)
  cases dc with
  | zero => exact fun _ z => nomatch z
  | succ dc =>
    refine sjc_23 Y B.1.1.1.1 q1 q2 q3 (by omega) kk.1 ?_
    refine pc_add (by omega) ?_; intro v23 e23
    rw [e23]
    refine pc_sv (P := fun x => Pc ((qg_X13_ruled nn dr) s r) (fun y => SFj x.2 y.2 ∨ SOk nn X s a b p (t + 2) bb h r x y)) ?_ (fun x Hx => pc_ck (fun _ => pc_ret Hx))
    unfold qf_X0_readPrint
    rw [q1]
    refine pc_add (by omega) ?_; intro v15 e15
    refine pc_xl ?_; intro h16 e16
    have E16 : ∀ cc x : Nat, ¬ (cc = 2 ∧ x = 10) → h16 cc x = h cc x := fun cc x z => by rw [e16, up_n z]
    have Q16 : EPr X (d + 1) (p + 2) h16 r := epr_in (epr_d Qe (by omega)) E16 (by rw [e16, up_s]; omega) (by omega) (by omega)
    refine pc_sv (se_g Y H (.inl kt.1) Q16 r57 (by omega) (fun z => by omega) (by omega)) ?_; intro u19 H19
    intro x ex
    have RULE : ∀ {Z : Int × ms_M → Prop}, (∀ v : Int × ms_M, (SFj u19 v.2 ∨ ((EOz nn X ix (s + 1) b (p + 2) t (bT X 170 s.toNat) h16 r u19 v ∧ ¬ u19 49 12 = 303 ∧ (¬ bK X t = 51 → FM01 nn X ix (s + 1) b (p + 2) t (bT X 170 s.toNat) h16 u19 v.2)) ∧ SEq h16 r u19 v.2)) → Pc (if v.1 ≤ 1 then (some (1, v.2)) else (rd_A 9000 168 s v.2 fun v251 => mx_sv (qf_X13_wrong nn 6 v251 v.2) fun u253 => some (1, u253))) Z) → Pc ((qg_X13_ruled nn dr) s r) Z := fun {Z} HH => by
      cases dr with
      | zero => exact fun _ z => nomatch z
      | succ dr =>
        refine sju_10 q4 ((T 167 _ (by omega)).trans nd.1) ?_
        refine pc_rA ?_; intro _ _ v247 e247
        rw [T 170 _ (by omega)] at e247
        rw [e247]
        exact pc_sv H19 (fun v hv => HH v hv)
    refine RULE (fun v hv => ?_)
    rcases hv with S | ⟨⟨K, n3, FM⟩, SE⟩
    · have FX : Pc (mx_sv (qf_X4_isNumber nn (u19 49 12) u19) fun u22 => if ¬ u22 = 0 then (qj_X0_readPrint_52 nn u19) else (mx_sv (qf_X9_tell nn 6 (p : Int) u19) fun u25 => qj_X0_readPrint_52 nn u25)) (fun x => FSc u19 x.2) := by
        refine pc_se ?_; intro u22 _
        refine pc_if (fun _ => fs_qj_X0_readPrint_52 S.1) (fun _ => ?_)
        refine pc_sv (fs_qf_X9_tell S.1) ?_; intro u25 F
        exact pc_imp (fs_qj_X0_readPrint_52 (fs_n S.1 F)) (fun _ q => fs_t F q)
      have S2 := sf_c S (FX x ex)
      refine pc_if (fun _ => pc_ret (.inl S2)) (fun _ => ?_)
      refine pc_rA ?_; intro _ _ v251 _
      exact rw_sf S2 _ (fun y hy => .inl hy)
    · obtain ⟨⟨x1, x2, x3, x4, x5⟩, ⟨x6, x7, x8⟩, ⟨x9, x10, x11⟩, ⟨x12, x13, x14⟩, -⟩ := K.1
      have tyc := ty_c (vtn_v n8 x7)
      have B16 : BX X h16 r := Q16.1
      have Bu : BX X u19 v.2 := bx_e B16 x9 x10
      have e1 := E16 34 1 (by omega)
      have e3 := E16 34 3 (by omega)
      by_cases num : u19 49 12 = 301 ∨ u19 49 12 = 302
      · rw [if_pos (show v.1 ≤ 1 by omega)]
        have CC : Pc (mx_sv (qf_X4_isNumber nn (u19 49 12) u19) fun u22 => if ¬ u22 = 0 then (qj_X0_readPrint_52 nn u19) else (mx_sv (qf_X9_tell nn 6 (p : Int) u19) fun u25 => qj_X0_readPrint_52 nn u25)) (fun x => ∃ g1 g2, COp 186 u19 g1 ∧ CPo 1 g1 g2 ∧ x = (1, up_M g2 2 10 ((t + 2 : Nat) : Int))) := by
          refine pc_sv c_isNum ?_; intro u22 q22
          refine pc_if (fun _ => ?_) (fun z => absurd (show ¬ u22 = 0 by omega) z)
          unfold qj_X0_readPrint_52
          refine pc_sv (c_op (by omega)) ?_; intro u3 A1
          have l3 := A1.2.2 34 3 (by omega) (by omega)
          refine pc_sv (c_pop (by omega) (by omega)) ?_; intro u6 A2
          have l10 : u6 2 10 = (t : Int) := by rw [A2.2 2 10 (by omega), A1.2.2 2 10 (by omega) (by omega)]; exact x1
          refine pc_add (by omega) ?_; intro v9 e9
          refine pc_xl ?_; intro h10' e10
          exact pc_ret ⟨u3, u6, A1, A2, by rw [e10, show v9 = ((t + 2 : Nat) : Int) by omega]⟩
        obtain ⟨g1, g2, A1, A2, ex2⟩ := CC x ex
        refine pc_ret (.inr ?_)
        rw [ex2]
        refine sl_eo Y Wb Q ne nb E16 K (FM (by omega)) n3 (by omega) SE A1 A2 rfl (by omega) (by unfold in_R; omega) (.inr rfl) (fun d2 m R MT MTB m51 HW => ?_)
        cases d2 with
        | zero => exact fun _ z => nomatch z
        | succ d2 =>
          refine sjm_10 ((MT 167 _ (by omega)).trans nd.1) ?_
          refine pc_rA ?_; intro _ _ v128 e128
          rw [MT 170 _ (by omega)] at e128
          rw [e128]
          refine pc_sv HW ?_; intro w ⟨_, Hw⟩
          exact Hw
      · rw [if_neg (show ¬ v.1 ≤ 1 by omega)]
        have CC : Pc (mx_sv (qf_X4_isNumber nn (u19 49 12) u19) fun u22 => if ¬ u22 = 0 then (qj_X0_readPrint_52 nn u19) else (mx_sv (qf_X9_tell nn 6 (p : Int) u19) fun u25 => qj_X0_readPrint_52 nn u25)) (fun x => x.2 2 11 = 6 ∧ x.2 2 12 = bP X p) := by
          refine pc_sv c_isNum ?_; intro u22 q22
          refine pc_if (fun z => absurd (show u22 = 0 by omega) z) (fun _ => ?_)
          refine pc_sv (c_tell Bu.1.1.1.1 x4 q2 rfl) ?_; intro u25 ⟨s1, _⟩
          exact pc_imp (fs_qj_X0_readPrint_52 (by omega)) (fun x F => ⟨by rw [F.1]; exact s1.1, by rw [F.2]; exact s1.2⟩)
        obtain ⟨s1, s2⟩ := CC x ex
        refine pc_rA ?_; intro _ _ v251 e251
        rw [Bu.2.2.2.2.2.1 168 _ (by omega), nd.2] at e251
        refine pc_sv (r_wrong Bu.1.1.2.2.1 q2 x5 e251) ?_; intro u253 w1
        exact pc_ret (.inl (sf_mk (c := 6) (pl := bP X p) (by decide) s1 s2 w1.1 w1.2))
theorem fts_1 {U : Nat → Int} {t : Int} (F : FTS U t 1) : t = 300 ∨ (0 ≤ t ∧ t ≤ 200) := by
  rcases F with y | y | y | y | y
  · omega
  · omega
  · omega
  · omega
  · omega
theorem s6_tt (Y : CXs X) (Wb : BRw X) (ne : 0 ≤ a ∧ a ≤ s ∧ s < b) (nb : b ≤ 8999) (hd : 0 ≤ d ∧ d ≤ 40) (nd : bT X 167 s.toNat = 8 ∧ bT X 168 s.toNat = (p : Int)) (kk : bK X p = 27) (H : E0 nn X (d + 1) ix (s + 1) b (p + 1) t (bT X 170 s.toNat)) (kt : bK X t = 46) (pt : p + 1 < t) : S6 nn X d a b p (t + 1) s := by
  intro dc dr h r bb Q U
  have Q0 := Q
  obtain ⟨Qe, ⟨h3, h10, r57, h7⟩, -, -⟩ := Q0
  have Qe0 := Qe
  obtain ⟨B, ⟨q1, q2, q3, q4⟩, ⟨f1, f2, f3⟩, o1⟩ := Qe0
  have T : ∀ cc y : Nat, ((163 ≤ cc ∧ cc ≤ 173) ∨ cc = 177) → r cc y = bT X cc y := B.2.2.2.2.2.1
  have c3 := Y.1.2.1
  have n8 := Y.2.2.1
  have tc : t < bc X := tb_lt Y.1 (by omega)
  have t1c : t + 1 < bc X := jp_lt Y.1 tc (by omega)
  cases dc with
  | zero => exact fun _ z => nomatch z
  | succ dc =>
    refine sjc_27 Y B.1.1.1.1 q1 q2 q3 (by omega) kk ?_
    refine pc_add (by omega) ?_; intro v31 e31
    rw [e31]
    refine pc_sv (P := fun x => Pc ((qg_X13_ruled nn dr) s r) (fun y => SFj x.2 y.2 ∨ SOk nn X s a b p (t + 1) bb h r x y)) ?_ (fun x Hx => pc_ck (fun _ => pc_ret Hx))
    unfold qf_X0_readThrow
    rw [q1]
    refine pc_add (by omega) ?_; intro v15 e15
    refine pc_xl ?_; intro h16 e16
    have E16 : ∀ cc x : Nat, ¬ (cc = 2 ∧ x = 10) → h16 cc x = h cc x := fun cc x z => by rw [e16, up_n z]
    have Q16 : EPr X (d + 1) (p + 1) h16 r := epr_in (epr_d Qe (by omega)) E16 (by rw [e16, up_s]; omega) (by omega) (by omega)
    refine pc_sv (se_g Y H (.inr (.inr (.inl kt))) Q16 r57 (by omega) (fun _ => by rw [E16 49 18 (by omega)]; omega) (by omega)) ?_; intro u19 H19
    intro x ex
    have RULE : ∀ {Z : Int × ms_M → Prop}, (∀ v : Int × ms_M, (SFj u19 v.2 ∨ ((EOz nn X ix (s + 1) b (p + 1) t (bT X 170 s.toNat) h16 r u19 v ∧ ¬ u19 49 12 = 303 ∧ (¬ bK X t = 51 → FM01 nn X ix (s + 1) b (p + 1) t (bT X 170 s.toNat) h16 u19 v.2)) ∧ SEq h16 r u19 v.2)) → ∀ rc : tq_X13_ruled, Pc (mx_sv (qf_X13_isThing nn v.1 v.2) fun u226 => if u226 = 0 then (qj_X13_ruled_617 nn rc s v.2) else (mx_sv (qf_X13_fits nn v.1 10 v.2) fun u228 => if ¬ u228 = 0 then (some (0, v.2)) else (qj_X13_ruled_617 nn rc s v.2))) Z) → Pc ((qg_X13_ruled nn dr) s r) Z := fun {Z} HH => by
      cases dr with
      | zero => exact fun _ z => nomatch z
      | succ dr =>
        refine sju_8 q4 ((T 167 _ (by omega)).trans nd.1) ?_
        refine pc_rA ?_; intro _ _ v223 e223
        rw [T 170 _ (by omega)] at e223
        rw [e223]
        exact pc_sv H19 (fun v hv => HH v hv _)
    refine RULE (fun v hv rc => ?_)
    rcases hv with S | ⟨⟨K, n3, FM⟩, SE⟩
    · have FX : Pc (mx_sv (qf_X4_fits nn 12 (u19 49 12) 1 u19) fun u24 => if ¬ u24 = 0 then (qj_X0_readThrow_57 nn u19) else (mx_sv (qf_X9_tell nn 6 (p : Int) u19) fun u27 => qj_X0_readThrow_57 nn u27)) (fun x => FSc u19 x.2) := by
        refine pc_se ?_; intro u22 _
        refine pc_if (fun _ => fs_qj_X0_readThrow_57 S.1) (fun _ => ?_)
        refine pc_sv (fs_qf_X9_tell S.1) ?_; intro u25 F
        exact pc_imp (fs_qj_X0_readThrow_57 (fs_n S.1 F)) (fun _ q => fs_t F q)
      have S2 := sf_c S (FX x ex)
      have R617 : Pc (qj_X13_ruled_617 nn rc s v.2) (fun y => SFj x.2 y.2 ∨ SOk nn X s a b p (t + 1) bb h r x y) := by
        unfold qj_X13_ruled_617
        refine pc_rA ?_; intro _ _ v54 _
        exact rw_sf S2 _ (fun y hy => .inl hy)
      refine pc_se ?_; intro u226 _
      refine pc_if (fun _ => R617) (fun _ => ?_)
      refine pc_se ?_; intro u228 _
      exact pc_if (fun _ => pc_ret (.inl S2)) (fun _ => R617)
    · obtain ⟨⟨x1, x2, x3, x4, x5⟩, ⟨x6, x7, x8⟩, ⟨x9, x10, x11⟩, ⟨x12, x13, x14⟩, -⟩ := K.1
      have B16 : BX X h16 r := Q16.1
      have Bu : BX X u19 v.2 := bx_e B16 x9 x10
      have e1 := E16 34 1 (by omega)
      have e3 := E16 34 3 (by omega)
      have e8 : v.2 180 = bB X 180 := funext (fun y => Bu.2.2.2.2.2.2.1 180 y (by omega))
      have v1f : VTn (bn X) 1 := .inr (.inr (.inr (.inr (.inr (.inl (by omega))))))
      have ty1 : ty_T 1 = 10 := rfl
      rw [x6]
      by_cases ft : FTS (bB X 180) (u19 49 12) 1
      · have th := fts_1 ft
        have CC : Pc (mx_sv (qf_X4_fits nn 12 (u19 49 12) 1 u19) fun u24 => if ¬ u24 = 0 then (qj_X0_readThrow_57 nn u19) else (mx_sv (qf_X9_tell nn 6 (p : Int) u19) fun u27 => qj_X0_readThrow_57 nn u27)) (fun x => ∃ g1 g2, COp 191 u19 g1 ∧ CPo 1 g1 g2 ∧ x = (0, up_M g2 2 10 ((t + 1 : Nat) : Int))) := by
          refine pc_sv (c_fit Y Bu x7 v1f) ?_; intro u24 q24
          refine pc_if (fun _ => ?_) (fun z => absurd (yn_1 q24 ft) z)
          unfold qj_X0_readThrow_57
          refine pc_sv (c_op (by omega)) ?_; intro u3 A1
          have l3 := A1.2.2 34 3 (by omega) (by omega)
          refine pc_sv (c_pop (by omega) (by omega)) ?_; intro u6 A2
          have l10 : u6 2 10 = (t : Int) := by rw [A2.2 2 10 (by omega), A1.2.2 2 10 (by omega) (by omega)]; exact x1
          refine pc_add (by omega) ?_; intro v9 e9
          refine pc_xl ?_; intro h10' e10
          exact pc_ret ⟨u3, u6, A1, A2, by rw [e10, show v9 = ((t + 1 : Nat) : Int) by omega]⟩
        obtain ⟨g1, g2, A1, A2, ex2⟩ := CC x ex
        refine pc_sv (r_isTh n8 x7) ?_; intro u226 q226
        refine pc_if (fun z => absurd z (by omega)) (fun _ => ?_)
        rw [← ty1]
        refine pc_sv (r_fit Y e8 x7 v1f) ?_; intro u228 q228
        refine pc_if (fun _ => ?_) (fun z => absurd (yn_1 q228 ft) z)
        refine pc_ret (.inr ?_)
        rw [ex2]
        refine sl_eo Y Wb Q ne nb E16 K (FM (by omega)) n3 (by omega) SE A1 A2 rfl (by omega) (by unfold in_R; omega) (.inl rfl) (fun d2 m R MT MTB m51 HW => ?_)
        cases d2 with
        | zero => exact fun _ z => nomatch z
        | succ d2 =>
          refine sjm_8 ((MT 167 _ (by omega)).trans nd.1) ?_
          refine pc_rA ?_; intro _ _ v128 e128
          rw [MT 170 _ (by omega)] at e128
          rw [e128]
          refine pc_sv HW ?_; intro w ⟨_, Hw⟩
          exact Hw
      · have CC : Pc (mx_sv (qf_X4_fits nn 12 (u19 49 12) 1 u19) fun u24 => if ¬ u24 = 0 then (qj_X0_readThrow_57 nn u19) else (mx_sv (qf_X9_tell nn 6 (p : Int) u19) fun u27 => qj_X0_readThrow_57 nn u27)) (fun x => x.2 2 11 = 6 ∧ x.2 2 12 = bP X p) := by
          refine pc_sv (c_fit Y Bu x7 v1f) ?_; intro u24 q24
          refine pc_if (fun z => absurd (yn_0 q24 ft) z) (fun _ => ?_)
          refine pc_sv (c_tell Bu.1.1.1.1 x4 q2 rfl) ?_; intro u25 ⟨s1, _⟩
          exact pc_imp (fs_qj_X0_readThrow_57 (by omega)) (fun x F => ⟨by rw [F.1]; exact s1.1, by rw [F.2]; exact s1.2⟩)
        obtain ⟨s1, s2⟩ := CC x ex
        have R617 : Pc (qj_X13_ruled_617 nn rc s v.2) (fun y => SFj x.2 y.2 ∨ SOk nn X s a b p (t + 1) bb h r x y) := by
          unfold qj_X13_ruled_617
          refine pc_rA ?_; intro _ _ v54 e54
          rw [Bu.2.2.2.2.2.1 168 _ (by omega), nd.2] at e54
          refine pc_sv (r_wrong Bu.1.1.2.2.1 q2 x5 e54) ?_; intro u56 w1
          exact pc_ret (.inl (sf_mk (c := 6) (pl := bP X p) (by decide) s1 s2 w1.1 w1.2))
        refine pc_se ?_; intro u226 _
        refine pc_if (fun _ => R617) (fun _ => ?_)
        rw [← ty1]
        refine pc_sv (r_fit Y e8 x7 v1f) ?_; intro u228 q228
        exact pc_if (fun z => absurd (yn_0 q228 ft) z) (fun _ => R617)
end
end
