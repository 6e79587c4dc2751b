/- the jumps behind a loop and back to its begin, on both sides -/
section
variable {nn : Nat} {K V : Nat → Int} {C : Nat → Nat} {W : Nat → List Int} {n F : Nat} {own : Int} {a b T h g u m w v z : ms_M} {PB : Nat → Prop} {WL WM : Int → Int → Prop} {L L2 : List (Int × Int)} {f x j p s l : Int}
/-- all jumps that wait for a label get the place where the CODE has come to -/
theorem mk_behind {js : List Int} (M : MK K V C W n F own a b T PB WL L h m) (eJ : pl_L f L = j :: js) (X : CHs (j :: js) h u) (ex : x = m 160 68) (bl : h 34 1 ≤ 990000) (b3 : h 34 3 ≤ 3000) : Pc (qf_X13_stands nn f x m) (fun w => MK K V C W n F own a b T PB WL (fl_L f L) u w ∧ MFe m w ∧ w 160 88 = m 160 88) := by
  obtain ⟨⟨c, ⟨J, JB⟩, FK, MB⟩, SK⟩ := M
  have hh : hs_L f L := Classical.byContradiction fun y => by
    have := (pl_hs (f := f) L).1 y
    rw [eJ] at this
    exact nomatch this
  have ll := fl_len L hh
  have c1 := c.1
  obtain ⟨⟨k1, k2, k3⟩, ⟨k4, k5⟩, k6⟩ := FK
  have MB0 := MB
  obtain ⟨⟨⟨s1, s2, s3⟩, s4, s5⟩, HD, -, -, ⟨⟨t1, t2⟩, t3, t4, -, -⟩⟩ := MB0
  have SK0 := SK
  obtain ⟨⟨y1, y2, y3, y4⟩, y5⟩ := SK0
  have F1 : F ≤ 1 := by
    rcases s4 with z | ⟨z, -⟩ <;> omega
  have r78 := k2.1
  refine r_stands J (by omega) JB.1 (fun i hi => by have := JB.2.1 i hi; omega) (fun w1 JW BW WF => .inr ⟨hh, ?_⟩)
  obtain ⟨g1, s, g2, CM, SL, FL⟩ := chs_n js j h u k1 X
  have G1 : ∀ cc y : Nat, ¬ cc = 35 → g1 cc y = h cc y := cms_e (j :: js) h g1 CM
  have W1 : ∀ cc y : Nat, ¬ (cc = 206 ∨ cc = 217 ∨ cc = 218) → ¬ (cc = 160 ∧ y = 87) → w1 cc y = m cc y := WF
  have Fc1 : FRc g1 := frc_k k1 (fun cc y z => G1 cc y (by omega))
  have Fr1 : FRr w1 := frr_k k2 (fun cc y z => W1 cc y (by omega) (by omega))
  refine pc_imp (r_frame (F := F) Fr1 (by rw [W1 160 53 (by omega) (by omega)]; exact t3) (by rw [W1 160 70 (by omega) (by omega)]; omega) (by rw [W1 160 50 (by omega) (by omega)]; omega) (by rw [W1 160 79 (by omega) (by omega)]; exact k3) (by rw [W1 160 52 (by omega) (by omega)]; omega) (by rw [W1 160 78 (by omega) (by omega)]; omega)) (fun w q => ?_)
  obtain ⟨Fw, fi, RF⟩ := q
  have C1 : CBY PB g1 w1 := cb_aims (f := f) (x := h 34 1) L h g1 m w1 c (by rw [eJ]; exact CM) rfl (fun e he => by have := (jlb_m JB).1 e he; omega) (W1 160 68 (by omega) (by omega)) (fun y => by rw [BW y, ex, c1.1])
  have RW := RF.2.2.2.2
  have FB := frk_both (WL := WL) (L2 := fl_L f L) (F := F) (h := g1) (m := w1) Fc1 Fr1 (by rw [W1 160 79 (by omega) (by omega)]; exact k3) (by rw [W1 160 78 (by omega) (by omega), W1 160 68 (by omega) (by omega), W1 160 84 (by omega) (by omega)]; omega) (fun z => by
    obtain ⟨z1, z2, z3⟩ := z
    rw [G1 34 1 (by omega)] at z1
    rw [G1 34 8 (by omega)] at z2
    rw [G1 34 4 (by omega)] at z3
    have q := (k6 ⟨z1, z2, z3⟩).1
    rw [W1 160 79 (by omega) (by omega), W1 160 68 (by omega) (by omega), W1 160 84 (by omega) (by omega)]
    omega) (fun p k z => by rw [W1 160 68 (by omega) (by omega)]; exact k5 p k z) (fun z => by
    obtain ⟨z1, z2, z3⟩ := z
    rw [G1 34 1 (by omega)] at z1
    rw [G1 34 8 (by omega)] at z2
    rw [G1 34 4 (by omega)] at z3
    exact frj_k (k6 ⟨z1, z2, z3⟩).2 (fun cc y z => G1 cc y (by omega)) (fun cc y z => W1 cc y (by omega) (by omega))) (by rw [W1 160 84 (by omega) (by omega), G1 34 15 (by omega)]; exact fun z => (HD.2.2.1 z).2) SL FL SL.1 (by rw [ex, ← c1.1] at RF; exact RF) Fw (by rw [W1 160 68 (by omega) (by omega)]; exact c1.1) (by rw [G1 34 1 (by omega), W1 160 68 (by omega) (by omega)]; exact c1.1) (by rw [G1 34 8 (by omega)]; omega) (by rw [G1 34 4 (by omega)]; omega) (by rw [W1 160 50 (by omega) (by omega)]; exact s1) (by rw [W1 160 70 (by omega) (by omega)]; exact y1) (by rw [W1 160 50 (by omega) (by omega)]; exact s2) F1 (by
    rw [W1 160 52 (by omega) (by omega), G1 38 0 (by omega)]
    rcases s4 with z | ⟨z1, -, z2⟩
    · exact .inl z
    · exact .inr ⟨z1, ⟨by rw [z2]; exact t4.1, t2.2 0 (by omega)⟩⟩) (fun i hi => by
    rw [W1 160 50 (by omega) (by omega)] at hi
    rw [W1 197 i (by omega) (by omega), G1 38 _ (by omega)]
    exact ⟨(s5 i hi).2.2.2, t2.2 _ (by omega)⟩) (fun i hi i20 => by
    rw [W1 160 70 (by omega) (by omega)] at hi
    rw [W1 207 i (by omega) (by omega), G1 36 _ (by omega)]
    exact y5 i (by omega) i20)
  obtain ⟨FK2, UF, U15⟩ := FB
  have UH : ∀ cc y : Nat, ¬ cc = 35 → ¬ (40 ≤ cc ∧ cc ≤ 42) → ¬ (cc = 34 ∧ (y = 14 ∨ y = 15)) → u cc y = h cc y := fun cc y z1 z2 z3 => (UF cc y z2 z3).trans (G1 cc y z1)
  have WM : ∀ cc y : Nat, ¬ (cc = 206 ∨ cc = 217 ∨ cc = 218) → ¬ (208 ≤ cc ∧ cc ≤ 212) → ¬ (cc = 160 ∧ (y = 78 ∨ y = 79 ∨ y = 87)) → w cc y = m cc y := fun cc y z1 z2 z3 => (RW cc y (by omega) (by omega) (by omega)).trans (W1 cc y z1 (by omega))
  refine ⟨⟨⟨cby_k C1 (fun cc y z => UF cc y (by omega) (by omega)) (fun cc y z => RW cc y (by omega) (by omega) (by omega)), ⟨jl_k JW (fun cc y z => RW cc y (by omega) (by omega) (by omega)), jlb_fl JB (by rw [WM 160 68 (by omega) (by omega) (by omega)]; exact Int.le_refl _) (by rw [WM 160 88 (by omega) (by omega) (by omega)]; exact Int.le_refl _)⟩, FK2, mb_k MB (fun cc y z => UH cc y (by omega) (by omega) (by omega)) (fun z => U15 (by rw [G1 34 15 (by omega)]; exact z)) (fun cc y z => WM cc y (by omega) (by omega) (by omega))⟩, skj_k SK (fun cc y z => UH cc y (by omega) (by omega) (by omega)) (fun cc y z => WM cc y (by omega) (by omega) (by omega))⟩, ⟨fun cc y z1 z2 z3 => WM cc y (by omega) (by omega) (by omega), by rw [WM 160 88 (by omega) (by omega) (by omega)]; exact Int.le_refl _⟩, WM 160 88 (by omega) (by omega) (by omega)⟩
/-- a jump back to the begin of a loop: the class -/
def CJb (A n : Int) (h u : ms_M) : Prop := ∃ (g1 g2 : ms_M) (s : Int) (g3 : ms_M), CJu 167 0 h g1 ∧ CAm (h 34 1) A g1 g2 ∧ SLc A g2 s g3 ∧ FLc s n 0 g3 u
theorem c_jback {A n : Int} (hl : 0 ≤ h 34 1 ∧ h 34 1 ≤ 900000) (h3 : 0 ≤ h 34 3 ∧ h 34 3 ≤ 2000000) (hA : 0 ≤ A ∧ A ≤ 900000) (hn : 0 ≤ n) (Fc : FRc h) : Pc (qf_X1_jumpBack nn A n h) (fun u => CJb A n h u) := by
  unfold qf_X1_jumpBack
  refine pc_sv (c_jump (by omega) (by omega) h3) ?_; intro u2 ⟨q1, q2⟩
  refine pc_sv (c_aim (by omega) (by omega)) ?_; intro u4 q4
  have F4 : FRc u4 := frc_k (frc_k Fc (fun cc y z => q2.2.2.2 cc y (by omega) (by omega))) (fun cc y z => q4.2 cc y (fun y => by omega))
  refine pc_sv (c_slot hA.1 F4) ?_; intro u6 q6
  have b6 : -1 ≤ u6.1 ∧ u6.1 < 100 := by
    have f14 := F4.1
    rcases q6.2 with ⟨k, s1, s2, -⟩ | ⟨-, ⟨s1, s2, -⟩ | ⟨-, s2, -⟩⟩ <;> omega
  refine pc_sv (c_fill b6 hn (by decide)) ?_; intro u8 q8
  rw [q1] at q4
  exact pc_ret ⟨u2.2, u4, u6.1, u6.2, q2, q4, q6, q8⟩
/-- the class's jump has its aim -/
def AMd (u : ms_M) (j A : Int) : Prop := j + 2 < 1500 → u 35 (j.toNat + 1) = oq_b (oq_shr (A - j) 8) ∧ u 35 (j.toNat + 2) = oq_b (A - j)
theorem cjb_f {A n : Int} (Fc : FRc h) (hl : 0 ≤ h 34 1) (X : CJb A n h u) : FRc u ∧ u 34 1 = h 34 1 + 3 ∧ (0 ≤ h 34 3 → u 34 3 = h 34 3) ∧ (∀ cc y : Nat, ¬ (cc = 34 ∧ (y = 1 ∨ y = 3 ∨ y = 14 ∨ y = 15)) → ¬ (cc = 35 ∧ (h 34 1).toNat ≤ y) → ¬ (40 ≤ cc ∧ cc ≤ 42) → u cc y = h cc y) ∧ AMd u (h 34 1) A := by
  obtain ⟨g1, g2, s, g3, J, A2, S, FL⟩ := X
  have F1 : FRc g1 := frc_k Fc (fun cc y z => J.2.2.2 cc y (by omega) (by omega))
  have F2 : FRc g2 := frc_k F1 (fun cc y z => A2.2 cc y (fun y => by omega))
  obtain ⟨K3, -⟩ := sl_sk F2 S
  have FO : ∀ cc y : Nat, ¬ (cc = 34 ∧ y = 15) → ¬ cc = 41 → u cc y = g3 cc y := fun cc y q1 q2 => by
    rcases FL with ⟨-, -, a3⟩ | ⟨-, -, a3⟩
    · exact a3 cc y q1
    · exact a3 cc y (by omega)
  have U2 : ∀ cc y : Nat, ¬ (cc = 34 ∧ (y = 14 ∨ y = 15)) → ¬ (40 ≤ cc ∧ cc ≤ 42) → u cc y = g2 cc y := fun cc y q1 q2 => by rw [FO cc y (by omega) (by omega)]; exact K3 cc y (by omega) (by omega) (by omega)
  have U1 : ∀ cc y : Nat, ¬ (cc = 34 ∧ (y = 14 ∨ y = 15)) → ¬ (40 ≤ cc ∧ cc ≤ 42) → ¬ cc = 35 → u cc y = g1 cc y := fun cc y q1 q2 q3 => by rw [U2 cc y q1 q2]; exact A2.2 cc y (fun y => absurd y q3)
  refine ⟨frc_k S.1 (fun cc y z => FO cc y (by omega) (by omega)), by rw [U1 34 1 (by omega) (by omega) (by omega)]; exact J.1, fun h0 => ?_, fun cc y q1 q2 q3 => ?_, fun lt => ?_⟩
  · rw [U1 34 3 (by omega) (by omega) (by omega), J.2.1]
    split <;> omega
  · rw [U2 cc y (by omega) q3, A2.2 cc y (fun e q => by omega)]
    exact J.2.2.2 cc y (by omega) (by omega)
  · rw [U2 35 _ (by omega) (by omega), U2 35 _ (by omega) (by omega)]
    exact A2.1 hl lt
theorem mk_back {A n' : Int} (M : MK K V C W n F own a b T PB WL L h m) (X : CJb A n' h u) (hA : 0 ≤ A ∧ A ≤ h 34 1) (bl : h 34 1 ≤ 900000) (hn : 0 ≤ n' ∧ n' ≤ h 34 7) (CO : ∀ k, WL A k → k = n') (hl : l ≤ m 160 88) : Pc (qf_X13_jump nn 167 l m) (fun w => MK K V C W n F own a b T (fun y => PB y ∨ (y = (m 160 68 + 1).toNat ∨ y = (m 160 68 + 2).toNat)) (fun q k => WL q k ∨ (q = A ∧ k = n')) (L ++ [(m 160 68, l)]) u w ∧ MFe m w ∧ w 160 88 = m 160 88) := by
  have M0 := M
  obtain ⟨⟨c, ⟨Jl, JB⟩, FK, MB⟩, SK⟩ := M
  have c1 := c.1
  obtain ⟨g1, g2, s, g3, J, A2, S, FL⟩ := X
  refine pc_imp (r_jump (by omega)) (fun w RJ => ?_)
  have M1 := ma_jump M0.1 J RJ (by unfold in_R; omega) hl
  have W5 := RJ.2.2.2.2.2.2
  have SK1 : SKJ n g1 w := sk_jump SK J ⟨by omega, by have := SK.1.2.2.1; omega⟩ (by rw [W5 160 70 (by omega) (by omega) (by omega)]; omega) (fun cc y z => W5 cc y (by omega) (by omega) (by omega))
  obtain ⟨c', ⟨Jl', JB'⟩, ⟨⟨k1, k2, k3⟩, ⟨k4, k5⟩, k6⟩, MB'⟩ := M1
  have F1 := k1
  have F2 : FRc g2 := frc_k F1 (fun cc y z => A2.2 cc y (fun y => by omega))
  obtain ⟨K3, -⟩ := sl_sk F2 S
  have FO : ∀ cc y : Nat, ¬ (cc = 34 ∧ y = 15) → ¬ cc = 41 → u cc y = g3 cc y := fun cc y q1 q2 => by
    rcases FL with ⟨-, -, a3⟩ | ⟨-, -, a3⟩
    · exact a3 cc y q1
    · exact a3 cc y (by omega)
  have U15 : g1 34 15 = 1 → u 34 15 = 1 := fun z => by
    have z2 : g3 34 15 = 1 := by rw [K3 34 15 (by omega) (by omega) (by omega), A2.2 34 15 (fun y => by omega)]; exact z
    rcases FL with ⟨-, a2, -⟩ | ⟨-, -, a3⟩
    · exact a2
    · rw [a3 34 15 (by omega)]; exact z2
  have U2 : ∀ cc y : Nat, ¬ (cc = 34 ∧ (y = 14 ∨ y = 15)) → ¬ (40 ≤ cc ∧ cc ≤ 42) → u cc y = g2 cc y := fun cc y q1 q2 => by rw [FO cc y (by omega) (by omega)]; exact K3 cc y (by omega) (by omega) (by omega)
  have U1 : ∀ cc y : Nat, ¬ (cc = 34 ∧ (y = 14 ∨ y = 15)) → ¬ (40 ≤ cc ∧ cc ≤ 42) → ¬ cc = 35 → u cc y = g1 cc y := fun cc y q1 q2 q3 => by rw [U2 cc y q1 q2]; exact A2.2 cc y (fun y => absurd y q3)
  have w68 : w 160 68 = m 160 68 + 3 := RJ.2.1
  have u1 := U1 34 1 (by omega) (by omega) (by omega)
  have u8 := U1 34 8 (by omega) (by omega) (by omega)
  have u4 := U1 34 4 (by omega) (by omega) (by omega)
  have j8 := J.2.2.2 34 8 (by omega) (by omega)
  have t7 := MB.2.2.2.2.1.2
  refine ⟨⟨⟨?_, ⟨Jl', JB'⟩, ⟨⟨frc_k S.1 (fun cc y z => FO cc y (by omega) (by omega)), k2, k3⟩, ⟨k4, fun q k z => ?_⟩, fun o => ?_⟩, mb_k MB' (fun cc y z => U1 cc y (by omega) (by omega) (by omega)) U15 (fun _ _ _ => rfl)⟩, skj_k SK1 (fun cc y z => U1 cc y (by omega) (by omega) (by omega)) (fun _ _ _ => rfl)⟩, ⟨fun cc y z1 z2 z3 => W5 cc y (by omega) (by omega) (by omega), by rw [W5 160 88 (by omega) (by omega) (by omega)]; exact Int.le_refl _⟩, W5 160 88 (by omega) (by omega) (by omega)⟩
  · obtain ⟨⟨d1, d2⟩, d3⟩ := c'
    refine ⟨by omega, fun o lt y hy np => ?_⟩
    rw [U1 45 5 (by omega) (by omega) (by omega)] at o
    rw [U2 35 y (by omega) (by omega), A2.2 35 y (fun _ q => np (.inr (by omega)))]
    exact d3 o (by omega) y (by omega) (fun z => np (.inl z))
  · rcases z with z | ⟨z, -⟩
    · exact k5 q k z
    · omega
  · have o1 : OKM g1 := ⟨by have := o.1; omega, by have := o.2.1; omega, by have := o.2.2; omega⟩
    obtain ⟨q1, q2⟩ := k6 o1
    have q2' : FRJ n WL g2 w := frj_k q2 (fun cc y z => A2.2 cc y (fun y => by omega)) (fun _ _ _ => rfl)
    exact ⟨q1, fj_class q2' F2 S FL ⟨hn.1, by have := o1.2.1; omega⟩ CO⟩
end
