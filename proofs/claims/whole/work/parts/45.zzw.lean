/- the begin of a loop, variables, handlers, on both sides -/
section
variable {nn : Nat} {K V : Nat → Int} {C : Nat → Nat} {W : Nat → List Int} {n F : Nat} {own : Int} {a b T h g u m w v z : ms_M} {PB : Nat → Prop} {WL WM : Int → Int → Prop} {L L2 : List (Int × Int)} {f x j p s l : Int}
theorem am_mis : ∀ (L : List (Int × Int)) (B : Nat → Int) (y : Nat), (∀ j, (j, f) ∈ L → ¬ y = (j + 1).toNat ∧ ¬ y = (j + 2).toNat) → am_L f x L B y = B y := by
  intro L
  induction L with
  | nil => intro B y _; rfl
  | cons e R ih =>
    intro B y H
    obtain ⟨j, l⟩ := e
    show am_L f x R (if l = f ∧ j + 2 < 12000 then b2_L x j B else B) y = B y
    rw [ih _ y (fun j hj => H j (List.mem_cons_of_mem _ hj))]
    by_cases q : l = f ∧ j + 2 < 12000
    · rw [if_pos q]
      obtain ⟨h1, h2⟩ := H j (by rw [← q.1]; exact List.mem_cons_self)
      unfold b2_L
      rw [if_neg h2, if_neg h1]
    · rw [if_neg q]
theorem am_hit : ∀ (L : List (Int × Int)) (B : Nat → Int), L.Pairwise (fun a b => a.1 + 3 ≤ b.1) → (∀ e ∈ L, 0 ≤ e.1) → (j, f) ∈ L → j + 2 < 12000 → am_L f x L B (j + 1).toNat = oq_and (oq_shr (x - j) 8) 255 ∧ am_L f x L B (j + 2).toNat = oq_and (x - j) 255 := by
  intro L
  induction L with
  | nil => intro B _ _ y _; exact nomatch y
  | cons e R ih =>
    intro B P P0 hm lt
    obtain ⟨j1, l⟩ := e
    obtain ⟨p1, p2⟩ := List.pairwise_cons.mp P
    show am_L f x R (if l = f ∧ j1 + 2 < 12000 then b2_L x j1 B else B) (j + 1).toNat = _ ∧ am_L f x R (if l = f ∧ j1 + 2 < 12000 then b2_L x j1 B else B) (j + 2).toNat = _
    rcases List.mem_cons.mp hm with y | y
    · have y1 : j = j1 := congrArg Prod.fst y
      have y2 : f = l := congrArg Prod.snd y
      have j0 := P0 (j1, l) List.mem_cons_self
      have j0 : 0 ≤ j1 := j0
      have N : ∀ j2, (j2, f) ∈ R → j1 + 3 ≤ j2 := fun j2 h2 => p1 (j2, f) h2
      rw [if_pos ⟨y2.symm, by omega⟩, am_mis R _ _ (fun j2 h2 => by have := N j2 h2; omega), am_mis R _ _ (fun j2 h2 => by have := N j2 h2; omega), y1]
      unfold b2_L
      exact ⟨by rw [if_neg (by omega), if_pos rfl], by rw [if_pos rfl]⟩
    · exact ih _ p2 (fun e he => P0 e (List.mem_cons_of_mem _ he)) y lt
/-- all jumps back to the begin of a loop get their aim: the reference; the class has done it -/
theorem mk_begin {A n' : Int} (M : MK K V C W n F own a b T PB WL L h m) (hf : hs_L f L) (AM : ∀ j, (j, f) ∈ L → AMd h j A) (hA : 0 ≤ A ∧ A ≤ 1000000) (bl : h 34 1 ≤ 990000) (W1 : WL A n') (W2 : ∀ k, WL A k → k = n') (W3 : ∀ q k, ¬ q = A → (WM q k ↔ WL q k)) (W4 : ∀ k, WM A k → WL A k) (en : n' = m 160 50 + (F : Int)) (e70 : m 160 70 = 0) : Pc (qf_X13_stands nn f A m) (fun w => MK K V C W n F own a b T (fun y => PB y ∧ ¬ ∃ j, (j, f) ∈ L ∧ (y = (j + 1).toNat ∨ y = (j + 2).toNat)) WM (fl_L f L) h w ∧ MFe m w ∧ w 160 88 = m 160 88) := by
  obtain ⟨⟨c, ⟨J, JB⟩, FK, MB⟩, SK⟩ := M
  have ll := fl_len L hf
  have c1 := c.1
  obtain ⟨⟨k1, k2, k3⟩, ⟨k4, k5⟩, k6⟩ := FK
  have MB0 := MB
  obtain ⟨⟨⟨s1, s2, s3⟩, s4, s5⟩, HD, -, -, ⟨⟨t1, t2⟩, t3, t4, -, -⟩⟩ := MB0
  have F1 : F ≤ 1 := by
    rcases s4 with z | ⟨z, -⟩ <;> omega
  have r78 := k2.1
  obtain ⟨q1, q2⟩ := jlb_m JB
  refine r_stands J hA JB.1 (fun i hi => by have := JB.2.1 i hi; omega) (fun w1 JW BW WF => .inr ⟨hf, ?_⟩)
  have X1 : ∀ cc y : Nat, ¬ (cc = 206 ∨ cc = 217 ∨ cc = 218) → ¬ (cc = 160 ∧ y = 87) → w1 cc y = m cc y := WF
  have Fr1 : FRr w1 := frr_k k2 (fun cc y z => X1 cc y (by omega) (by omega))
  refine pc_imp (r_frame (F := F) Fr1 (by rw [X1 160 53 (by omega) (by omega)]; exact t3) (by rw [X1 160 70 (by omega) (by omega)]; omega) (by rw [X1 160 50 (by omega) (by omega)]; omega) (by rw [X1 160 79 (by omega) (by omega)]; exact k3) (by rw [X1 160 52 (by omega) (by omega)]; omega) (by rw [X1 160 78 (by omega) (by omega)]; omega)) (fun w q => ?_)
  obtain ⟨Fw, fi, RF⟩ := q
  have RW := RF.2.2.2.2
  have WM' : ∀ cc y : Nat, ¬ (cc = 206 ∨ cc = 217 ∨ cc = 218) → ¬ (208 ≤ cc ∧ cc ≤ 212) → ¬ (cc = 160 ∧ (y = 78 ∨ y = 79 ∨ y = 87)) → w cc y = m cc y := fun cc y z1 z2 z3 => (RW cc y (by omega) (by omega) (by omega)).trans (X1 cc y z1 (by omega))
  have RF0 := RF
  obtain ⟨AL, -, WO, -, -⟩ := RF0
  have x78 := X1 160 78 (by omega) (by omega)
  have x79 := X1 160 79 (by omega) (by omega)
  have x50 := X1 160 50 (by omega) (by omega)
  have x70 := X1 160 70 (by omega) (by omega)
  have x84 := X1 160 84 (by omega) (by omega)
  have w78 : w 160 78 ≤ m 160 78 + 1 := by
    rcases AL with ⟨-, -, z⟩ | ⟨-, -, z⟩ <;> omega
  have w79 : 0 ≤ w 160 79 ∧ w 160 79 ≤ 60000 ∧ w 160 79 ≤ m 160 79 + n' := by
    rcases WO with ⟨z1, z2, -⟩ | ⟨z1, z2⟩ <;> omega
  have w68 := WM' 160 68 (by omega) (by omega) (by omega)
  have w84 := WM' 160 84 (by omega) (by omega) (by omega)
  have w88 := WM' 160 88 (by omega) (by omega) (by omega)
  refine ⟨⟨⟨?_, ⟨jl_k JW (fun cc y z => RW cc y (by omega) (by omega) (by omega)), jlb_fl JB (by omega) (by omega)⟩, ⟨⟨k1, Fw, by omega⟩, ⟨by omega, fun q k z => ?_⟩, fun o => ?_⟩, mb_k MB (fun _ _ _ => rfl) id (fun cc y z => WM' cc y (by omega) (by omega) (by omega))⟩, skj_k SK (fun _ _ _ => rfl) (fun cc y z => WM' cc y (by omega) (by omega) (by omega))⟩, ⟨fun cc y z1 z2 z3 => WM' cc y (by omega) (by omega) (by omega), by omega⟩, w88⟩
  · obtain ⟨⟨d1, d2⟩, d3⟩ := c
    refine ⟨by omega, fun o lt y hy np => ?_⟩
    rw [RW 206 y (by omega) (by omega) (by omega), BW y]
    by_cases E : ∃ j, (j, f) ∈ L ∧ (y = (j + 1).toNat ∨ y = (j + 2).toNat)
    · obtain ⟨j, jm, jy⟩ := E
      have jb := q1 (j, f) jm
      have jb : 0 ≤ j ∧ j + 3 ≤ m 160 68 ∧ f ≤ m 160 88 := jb
      obtain ⟨h1, h2⟩ := am_hit (f := f) (x := A) L (m 206) q2 (fun e he => (q1 e he).1) jm (by omega)
      obtain ⟨g1, g2⟩ := AM j jm (by omega)
      rcases jy with jy | jy
      · rw [jy, h1, show (j + 1).toNat = j.toNat + 1 by omega, g1]
        exact by_rel (oq_shr_R _ _)
      · rw [jy, h2, show (j + 2).toNat = j.toNat + 2 by omega, g2]
        exact by_rel (by unfold in_R; omega)
    · rw [am_mis L _ y (fun j jm => ⟨fun z => E ⟨j, jm, .inl z⟩, fun z => E ⟨j, jm, .inr z⟩⟩)]
      exact d3 o lt y hy (fun z => np ⟨z, E⟩)
  · by_cases qa : q = A
    · rw [qa] at z ⊢
      have := k5 A k (W4 k z)
      omega
    · have := k5 q k ((W3 q k qa).mp z)
      omega
  · obtain ⟨e1, e2⟩ := k6 o
    have n30 : n' ≤ 30 := by have := o.2.1; omega
    have o1 := o.1
    refine ⟨by omega, ?_⟩
    have e2' : FRJ n WL h w1 := frj_k e2 (fun _ _ _ => rfl) (fun cc y z => X1 cc y (by omega) (by omega))
    refine fj_ref e2' (by rw [x84]; exact fun z => (HD.2.2.1 z).2) Fr1 RF W1 W2 W3 W4 n30 (by omega) (by omega) (by omega) ⟨by omega, fun z => by omega⟩ ?_ (fun i hi => ?_)
    · rw [X1 160 52 (by omega) (by omega)]
      rcases s4 with z | ⟨z1, -, z2⟩
      · exact .inl z
      · exact .inr ⟨z1, ⟨by rw [z2]; exact t4.1, t2.2 0 (by omega)⟩⟩
    · rw [X1 197 i (by omega) (by omega)]
      exact ⟨(s5 i (by omega)).2.2.2, t2.2 _ (by omega)⟩
/-- FRAMES where a variable comes behind those in sight -/
theorem frj_l (J : FRJ n WL h m) (e1 : ∀ cc x : Nat, (cc = 34 ∧ (x = 14 ∨ x = 15)) ∨ cc = 40 ∨ cc = 41 → g cc x = h cc x) (e3 : ∀ y : Nat, (y : Int) < s → g 38 y = h 38 y) (WN : ∀ p k, WL p k → k ≤ s) (e2 : ∀ cc x : Nat, (cc = 160 ∧ (x = 78 ∨ x = 79 ∨ x = 84)) ∨ (208 ≤ cc ∧ cc ≤ 212) → w cc x = m cc x) : FRJ n WL g w := by
  have J2 : FRJ n WL h w := frj_k J (fun _ _ _ => rfl) e2
  have x14 := e1 34 14 (by omega)
  rcases J2 with ⟨j0, A1, A2, A3⟩ | ⟨j1, JO⟩
  · refine .inl ⟨by rw [e1 34 15 (by omega)]; exact j0, fun k hk => ?_, fun f hf => ?_, fun p k x => ?_⟩
    · rw [x14] at hk
      rw [e1 40 k (by omega)]
      rcases A1 k hk with ⟨k', y1, y2⟩ | ⟨y1, f, f1, f2, f3⟩
      · obtain ⟨⟨c1, c2, c3, c4⟩, c5⟩ := y2
        have wn := WN _ _ y1
        exact .inl ⟨k', y1, ⟨by rw [e1 41 _ (by omega)]; exact c1, by rw [e1 41 _ (by omega)]; exact c2, c3, c4⟩, fun i hi => by rw [e1 41 _ (by omega), e3 i (by omega)]; exact c5 i hi⟩
      · exact .inr ⟨y1, f, f1, f2, ctj_k f3 (fun x _ _ => e1 41 x (by omega)) ⟨rfl, rfl, rfl⟩ (Int.le_refl _) (fun _ _ => rfl)⟩
    · obtain ⟨k, k1, k2⟩ := A2 f hf
      exact ⟨k, by rw [x14]; exact k1, by rw [e1 40 k (by omega)]; exact k2⟩
    · obtain ⟨k, k1, k2⟩ := A3 p k x
      exact ⟨k, by rw [x14]; exact k1, by rw [e1 40 k (by omega)]; exact k2⟩
  · exact .inr ⟨by rw [e1 34 15 (by omega)]; exact j1, JO⟩
/-- a variable comes -/
theorem mk_loc {t : Nat} {ty ty2 : Int} {w0 : ms_M} (M : MK K V C W n F own a b T PB WL L h m) (A : CLa (V t) ty h g) (B : RCm (t : Int) ty2 m w0) (ew : w = up_M w0 160 72 (if w0 160 72 < w0 160 50 then w0 160 50 else w0 160 72)) (e2 : ty2 = ty_T ty) (kt : K t = 2) (h7 : h 34 7 < 750) (vq : VTn n ty ∧ ¬ ty = 303) (WN : ∀ p k, WL p k → k ≤ h 34 7) : MK K V C W n F own a b T PB WL L g w := by
  obtain ⟨⟨c, ⟨J, JB⟩, FK, MB⟩, SK⟩ := M
  obtain ⟨⟨k1, k2, k3⟩, ⟨k4, k5⟩, k6⟩ := FK
  obtain ⟨SG, HD, ⟨P1, P2, P3⟩, TX, ⟨⟨t1, t2⟩, t3, t4, t5, t6⟩⟩ := MB
  have SG2 := sgv_a SG (x := 0) kt A B e2 h7
  have s1 := SG.1
  obtain ⟨a1, a2, a38, a5⟩ := A
  obtain ⟨-, b2, -, -, b5⟩ := B
  have E2 : ∀ cc y : Nat, ¬ (cc = 160 ∧ (y = 50 ∨ y = 72)) → ¬ (cc = 196 ∨ cc = 197) → w cc y = m cc y := fun cc y z1 z2 => by rw [ew, up_n (by omega)]; exact b5 cc y (by omega) (by omega)
  have E1 : ∀ cc y : Nat, ¬ (cc = 34 ∧ (y = 7 ∨ y = 8)) → ¬ (cc = 37 ∨ cc = 38) → g cc y = h cc y := fun cc y z1 z2 => a5 cc y z1 (by omega)
  have b72 := b5 160 72 (by omega) (by omega)
  have w72 : w 160 72 = (if m 160 72 < m 160 50 + 1 then m 160 50 + 1 else m 160 72) := by rw [ew, up_s, b72, b2]
  have x68 := E2 160 68 (by omega) (by omega)
  have x88 := E2 160 88 (by omega) (by omega)
  have x78 := E2 160 78 (by omega) (by omega)
  have x79 := E2 160 79 (by omega) (by omega)
  have x84 := E2 160 84 (by omega) (by omega)
  have g1 := E1 34 1 (by omega) (by omega)
  have g4 := E1 34 4 (by omega) (by omega)
  have g8 : h 34 8 ≤ g 34 8 := by rw [a2]; split <;> omega
  refine ⟨⟨cby_k c (fun cc y z => E1 cc y (by omega) (by omega)) (fun cc y z => E2 cc y (by omega) (by omega)), ⟨jl_k J (fun cc y z => E2 cc y (by omega) (by omega)), jlb_k JB (by omega) (by omega)⟩, ⟨⟨frc_k k1 (fun cc y z => E1 cc y (by omega) (by omega)), frr_k k2 (fun cc y z => E2 cc y (by omega) (by omega)), by omega⟩, ⟨by omega, fun p k z => by have := k5 p k z; omega⟩, fun o => ?_⟩, ⟨sgv_k SG2 (fun _ _ _ => rfl) (fun cc y z => by rw [ew, up_n (by omega)]), hdj_k HD (fun cc y z => E1 cc y (by omega) (by omega)) (fun z => by rw [E1 34 15 (by omega) (by omega)]; exact z) (fun cc y z => E2 cc y (by omega) (by omega)), ⟨plr_k P1 (fun cc y z => E1 cc y (by omega) (by omega)) (fun cc y z => E2 cc y (by omega) (by omega)), ⟨by rw [E2 160 62 (by omega) (by omega)]; exact P2.1, by rw [E2 160 64 (by omega) (by omega)]; exact P2.2⟩, spl_k P3 (fun cc y z => E2 cc y (by omega) (by omega))⟩, txe_k TX (fun cc y z => E1 cc y (by omega) (by omega)) (fun cc y z => E2 cc y (by omega) (by omega)), ⟨?_, by rw [E2 160 53 (by omega) (by omega)]; exact t3, by rw [E2 160 52 (by omega) (by omega)]; exact t4, by rw [E2 160 9 (by omega) (by omega)]; exact t5, fun cc y z => by rw [E2 cc y (by omega) (by omega)]; exact t6 cc y z⟩⟩⟩, skj_k SK (fun cc y z => E1 cc y (by omega) (by omega)) (fun cc y z => E2 cc y (by omega) (by omega))⟩
  · obtain ⟨o1, o2, o3⟩ := o
    obtain ⟨e1, e2'⟩ := k6 ⟨by omega, by omega, by omega⟩
    exact ⟨by omega, frj_l (s := h 34 7) e2' (fun cc y z => E1 cc y (by omega) (by omega)) (fun y hy => a5 38 y (by omega) (by omega)) WN (fun cc y z => E2 cc y (by omega) (by omega))⟩
  · refine ⟨by rw [a2, w72]; split <;> split <;> omega, by rw [a2, a1]; split <;> omega, fun s hs => ?_⟩
    by_cases q : s = (h 34 7).toNat
    · rw [q, (a38 h7).2]; exact vq
    · rw [a5 38 s (by omega) (by omega)]; exact t2.2 s (by omega)
/-- variables go out of sight -/
theorem mk_sight {s0 s1 : Int} (M : MK K V C W n F own a b T PB WL L h m) (eg : g = up_M h 34 7 s0) (ew : w = up_M m 160 50 s1) (es : s0 = s1 + (F : Int)) (h0 : 0 ≤ s1) (hs : s0 ≤ h 34 7) : MK K V C W n F own a b T PB WL L g w := by
  obtain ⟨⟨c, ⟨J, JB⟩, FK, MB⟩, SK⟩ := M
  obtain ⟨⟨⟨g1, g2, g3⟩, g4, g5⟩, HD, ⟨P1, P2, P3⟩, TX, ⟨⟨t1, t2⟩, t3, t4, t5, t6⟩⟩ := MB
  have E1 : ∀ cc y : Nat, ¬ (cc = 34 ∧ y = 7) → g cc y = h cc y := fun cc y z => by rw [eg, up_n z]
  have E2 : ∀ cc y : Nat, ¬ (cc = 160 ∧ y = 50) → w cc y = m cc y := fun cc y z => by rw [ew, up_n z]
  have x7 : g 34 7 = s0 := by rw [eg, up_s]
  have x50 : w 160 50 = s1 := by rw [ew, up_s]
  have x68 := E2 160 68 (by omega)
  have x88 := E2 160 88 (by omega)
  refine ⟨⟨cby_k c (fun cc y z => E1 cc y (by omega)) (fun cc y z => E2 cc y (by omega)), ⟨jl_k J (fun cc y z => E2 cc y (by omega)), jlb_k JB (by omega) (by omega)⟩, frk_k FK (fun cc y z => E1 cc y (by omega)) ⟨by rw [E1 34 1 (by omega)]; exact Int.le_refl _, by rw [E1 34 8 (by omega)]; exact Int.le_refl _, by rw [E1 34 4 (by omega)]; exact Int.le_refl _⟩ (fun cc y z => E2 cc y (by omega)) (by omega) (by omega) (by omega), ⟨⟨⟨by omega, by omega, by omega⟩, by rw [E1 37 0 (by omega), E1 38 0 (by omega)]; exact g4, fun s hs2 => by rw [E2 196 s (by omega), E2 197 s (by omega), E1 37 _ (by omega), E1 38 _ (by omega)]; exact g5 s (by omega)⟩, hdj_k HD (fun cc y z => E1 cc y (by omega)) (fun z => by rw [E1 34 15 (by omega)]; exact z) (fun cc y z => E2 cc y (by omega)), ⟨plr_k P1 (fun cc y z => E1 cc y (by omega)) (fun cc y z => E2 cc y (by omega)), ⟨by rw [E2 160 62 (by omega)]; exact P2.1, by rw [E2 160 64 (by omega)]; exact P2.2⟩, spl_k P3 (fun cc y z => E2 cc y (by omega))⟩, txe_k TX (fun cc y z => E1 cc y (by omega)) (fun cc y z => E2 cc y (by omega)), ⟨⟨by rw [E1 34 8 (by omega), E2 160 72 (by omega)]; exact t1, by rw [x7, E1 34 8 (by omega)]; omega, fun s hs2 => by rw [x7] at hs2; rw [E1 38 s (by omega)]; exact t2.2 s (by omega)⟩, by rw [E2 160 53 (by omega)]; exact t3, by rw [E2 160 52 (by omega)]; exact t4, by rw [E2 160 9 (by omega)]; exact t5, fun cc y z => by rw [E2 cc y (by omega)]; exact t6 cc y z⟩⟩⟩, skj_k SK (fun cc y z => E1 cc y (by omega)) (fun cc y z => E2 cc y (by omega))⟩
end
section
variable {nn : Nat} {X : BCx} {h g u r v w m : ms_M}
theorem bx_loc {t : Nat} {ty ty2 : Int} (B : BX X h r) (A : CLa (bV X t) ty h g) (R : RCm (t : Int) ty2 r w) (e2 : ty2 = ty_T ty) (kt : bK X t = 2) (h7 : h 34 7 < 750) (vt : VTn (bn X) ty ∧ ¬ ty = 303) : BX X g w := by
  obtain ⟨b1, b2, b3, b4, b5, b6, b7, b8, b9⟩ := B
  have SG2 := sgv_a b2 (x := 0) kt A R e2 h7
  have s1 := b2.1
  obtain ⟨a1, a2, a3, a5⟩ := A
  obtain ⟨-, r2, -, -, r5⟩ := R
  have E1 : ∀ cc y : Nat, ¬ (cc = 34 ∧ (y = 7 ∨ y = 8)) → ¬ (cc = 37 ∨ cc = 38) → g cc y = h cc y := fun cc y z1 z2 => a5 cc y z1 (by omega)
  have E2 : ∀ cc y : Nat, ¬ (cc = 160 ∧ y = 50) → ¬ (cc = 196 ∨ cc = 197) → w cc y = r cc y := fun cc y z1 z2 => r5 cc y z1 (by omega)
  refine ⟨hds_k b1 (fun cc y z => E1 cc y (by omega) (by omega)) (fun cc y z => E2 cc y (by omega) (by omega)), SG2, by rw [E1 49 16 (by omega) (by omega), E2 160 52 (by omega) (by omega)]; exact b3, by rw [E1 49 17 (by omega) (by omega), E2 160 53 (by omega) (by omega)]; exact b4, fun i hi ki => by rw [E1 5 i (by omega) (by omega)]; exact b5 i hi ki, fun cc y z => by rw [E2 cc y (by omega) (by omega)]; exact b6 cc y z, fun cc y z => by rw [E2 cc y (by omega) (by omega)]; exact b7 cc y z, fun cc y z => by rw [E1 cc y (by omega) (by omega)]; exact b8 cc y z, fun s hs => ?_⟩
  rw [a1] at hs
  by_cases q : (s : Int) = h 34 7
  · rw [show s = (h 34 7).toNat by omega, (a3 h7).2]; exact vt
  · rw [a5 38 s (by omega) (by omega)]; exact b9 s (by omega)
theorem bx_sight {s0 s1 : Int} (B : BX X h r) (eg : g = up_M h 34 7 s0) (ew : w = up_M r 160 50 s1) (es : s0 = s1 + (bF X : Int)) (h0 : 0 ≤ s1) (hs : s0 ≤ h 34 7) : BX X g w := by
  obtain ⟨b1, ⟨⟨g1, g2, g3⟩, g4, g5⟩, b3, b4, b5, b6, b7, b8, b9⟩ := B
  have E1 : ∀ cc y : Nat, ¬ (cc = 34 ∧ y = 7) → g cc y = h cc y := fun cc y z => by rw [eg, up_n z]
  have E2 : ∀ cc y : Nat, ¬ (cc = 160 ∧ y = 50) → w cc y = r cc y := fun cc y z => by rw [ew, up_n z]
  have x7 : g 34 7 = s0 := by rw [eg, up_s]
  have x50 : w 160 50 = s1 := by rw [ew, up_s]
  exact ⟨hds_k b1 (fun cc y z => E1 cc y (by omega)) (fun cc y z => E2 cc y (by omega)), ⟨⟨by omega, by omega, by omega⟩, by rw [E1 37 0 (by omega), E1 38 0 (by omega)]; exact g4, fun s hs2 => by rw [E2 196 s (by omega), E2 197 s (by omega), E1 37 _ (by omega), E1 38 _ (by omega)]; exact g5 s (by omega)⟩, by rw [E1 49 16 (by omega), E2 160 52 (by omega)]; exact b3, by rw [E1 49 17 (by omega), E2 160 53 (by omega)]; exact b4, fun i hi ki => by rw [E1 5 i (by omega)]; exact b5 i hi ki, fun cc y z => by rw [E2 cc y (by omega)]; exact b6 cc y z, fun cc y z => by rw [E2 cc y (by omega)]; exact b7 cc y z, fun cc y z => by rw [E1 cc y (by omega)]; exact b8 cc y z, fun s hs2 => by rw [E1 38 s (by omega)]; exact b9 s (by omega)⟩
end
