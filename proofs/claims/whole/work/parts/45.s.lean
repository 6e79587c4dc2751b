/- FRAMES of both sides held together -/
/-- the method is not MUCH yet -/
def OKM (h : ms_M) : Prop := h 34 1 ≤ 1500 ∧ h 34 8 ≤ 30 ∧ h 34 4 ≤ 20
/-- in the class's row k: the first n variables, nothing on the stack -/
def CTc (h : ms_M) (k : Nat) (n : Int) : Prop := (h 41 (52 * k) = n ∧ h 41 (52 * k + 1) = 0 ∧ 0 ≤ n ∧ n ≤ 30) ∧ ∀ i : Nat, (i : Int) < n → h 41 (52 * k + 2 + i) = h 38 i
/-- the class's row k and the reference's row f tell the same -/
def CTj (nC : Nat) (h m : ms_M) (k f : Nat) : Prop := (m 210 f = h 41 (52 * k) ∧ m 211 f = h 41 (52 * k + 1)) ∧ ((0 ≤ m 210 f ∧ m 210 f ≤ 30) ∧ 0 ≤ m 211 f ∧ m 211 f ≤ 20) ∧ (0 ≤ m 209 f ∧ m 209 f + m 210 f + m 211 f ≤ m 160 79) ∧ ∀ i : Nat, (i : Int) < m 210 f + m 211 f → TJ nC (m 212 ((m 209 f).toNat + i)) (h 41 (52 * k + 2 + i))
/-- WL p n: a loop begins at p, n variables in sight, that the reference tells at its end -/
def FAl (nC : Nat) (WL : Int → Int → Prop) (h m : ms_M) : Prop := (∀ k : Nat, (k : Int) < h 34 14 → (∃ n, WL (h 40 k) n ∧ CTc h k n) ∨ ((∀ n, ¬ WL (h 40 k) n) ∧ ∃ f : Nat, (f : Int) < m 160 78 ∧ m 208 f = h 40 k ∧ CTj nC h m k f)) ∧ (∀ f : Nat, (f : Int) < m 160 78 → ∃ k : Nat, (k : Int) < h 34 14 ∧ h 40 k = m 208 f) ∧ ∀ p n, WL p n → ∃ k : Nat, (k : Int) < h 34 14 ∧ h 40 k = p
/-- more than a hundred places -/
def FOv (WL : Int → Int → Prop) (m : ms_M) : Prop := ∃ Q : Nat → Int, (∀ i j : Nat, i < 101 → j < 101 → Q i = Q j → i = j) ∧ ∀ i : Nat, i < 101 → (∃ f : Nat, (f : Int) < m 160 78 ∧ m 208 f = Q i) ∨ ∃ n, WL (Q i) n
def FRJ (nC : Nat) (WL : Int → Int → Prop) (h m : ms_M) : Prop := (h 34 15 = 0 ∧ FAl nC WL h m) ∨ (h 34 15 = 1 ∧ (20 < m 160 84 ∨ FOv WL m))
section
variable {nC : Nat} {h g u m w : ms_M} {WL WM : Int → Int → Prop} {F fi : Nat} {p s l n : Int}
theorem frc_inj (H : FRc h) {j k : Nat} (hj : (j : Int) < h 34 14) (hk : (k : Int) < h 34 14) (e : h 40 j = h 40 k) : j = k := by
  obtain ⟨-, -, f4, f5⟩ := H
  obtain ⟨a, an, ea⟩ := f5 j hj
  obtain ⟨b, bn, eb⟩ := f5 k hk
  rcases Nat.lt_trichotomy a b with lt | eq | gt
  · have q := f4 a b lt bn
    rw [ea, eb, Int.toNat_natCast, Int.toNat_natCast] at q; omega
  · rw [eq, eb] at ea; omega
  · have q := f4 b a gt an
    rw [ea, eb, Int.toNat_natCast, Int.toNat_natCast] at q; omega
theorem sl_sk (H : FRc h) (S : SLc p h s g) : (∀ cc x : Nat, ¬ cc = 42 → ¬ (cc = 34 ∧ x = 14) → ¬ cc = 40 → g cc x = h cc x) ∧ ((s = -1 ∧ g = h ∧ h 34 14 = 100 ∧ ∀ k : Nat, (k : Int) < h 34 14 → ¬ h 40 k = p) ∨ ∃ k : Nat, s = (k : Int) ∧ (k : Int) < g 34 14 ∧ g 40 k = p ∧ (∀ j : Nat, (j : Int) < g 34 14 → ¬ j = k → (j : Int) < h 34 14 ∧ g 40 j = h 40 j ∧ ¬ h 40 j = p) ∧ (∀ j : Nat, (j : Int) < h 34 14 → (j : Int) < g 34 14 ∧ g 40 j = h 40 j) ∧ ((k : Int) < h 34 14 ∨ ∀ j : Nat, (j : Int) < h 34 14 → ¬ h 40 j = p)) := by
  have b := H.1
  obtain ⟨-, ⟨k, e1, e2, e3, e4⟩ | ⟨N, ⟨a1, a2, a3, a4, a5⟩ | ⟨a1, a2, a3⟩⟩⟩ := S
  · rw [e4]
    refine ⟨fun _ _ _ _ _ => rfl, .inr ⟨k, e1, e2, e3, fun j hj nj => ⟨hj, rfl, fun z => nj (frc_inj H hj e2 (z.trans e3.symm))⟩, fun j hj => ⟨hj, rfl⟩, .inl e2⟩⟩
  · refine ⟨fun cc x q1 q2 q3 => a5 cc x q1 q2 (by omega), .inr ⟨(h 34 14).toNat, by omega, by omega, a4, fun j hj nj => ⟨by omega, a5 40 j (by omega) (by omega) (by omega), N j (by omega)⟩, fun j hj => ⟨by omega, a5 40 j (by omega) (by omega) (by omega)⟩, .inr N⟩⟩
  · exact ⟨fun _ _ _ _ _ => by rw [a3], .inl ⟨a2, a3, a1, N⟩⟩
theorem rf_sk (H : FRr m) (B : RFw F p fi m w) : ((fi : Int) < w 160 78 ∧ w 208 fi = p) ∧ (∀ f : Nat, (f : Int) < w 160 78 → ¬ f = fi → (f : Int) < m 160 78 ∧ w 208 f = m 208 f ∧ ¬ m 208 f = p) ∧ ∀ f : Nat, (f : Int) < m 160 78 → (f : Int) < w 160 78 ∧ w 208 f = m 208 f := by
  obtain ⟨AL, ⟨w8, -⟩, -, -, WF⟩ := B
  rcases AL with ⟨a1, a2, a3⟩ | ⟨a1, a2, a3⟩
  · refine ⟨⟨by omega, w8⟩, fun f hf nf => ⟨by omega, WF 208 f (by omega) (by omega) (by omega), fun z => nf (H.2 f fi (by omega) a1 (z.trans a2.symm))⟩, fun f hf => ⟨by omega, ?_⟩⟩
    by_cases q : f = fi
    · rw [q, w8, a2]
    · exact WF 208 f (by omega) (by omega) (by omega)
  · exact ⟨⟨by omega, w8⟩, fun f hf nf => ⟨by omega, WF 208 f (by omega) (by omega) (by omega), a1 f (by omega)⟩, fun f hf => ⟨by omega, WF 208 f (by omega) (by omega) (by omega)⟩⟩
theorem fov_r (H : FRr m) (B : RFw F p fi m w) (Z : FOv WL m) : FOv WL w := by
  obtain ⟨-, -, P⟩ := rf_sk H B
  obtain ⟨Q, q1, q2⟩ := Z
  refine ⟨Q, q1, fun i hi => ?_⟩
  rcases q2 i hi with ⟨f, f1, f2⟩ | x
  · exact .inl ⟨f, (P f f1).1, (P f f1).2.trans f2⟩
  · exact .inr x
/-- a hundred and one more -/
theorem fov_c (H : FRc h) (A : FAl nC WL h m) (c : h 34 14 = 100) (N : ∀ k : Nat, (k : Int) < h 34 14 → ¬ h 40 k = p) (E : ∀ q, ((∃ f : Nat, (f : Int) < m 160 78 ∧ m 208 f = q) ∨ ∃ n, WL q n) → (∃ f : Nat, (f : Int) < w 160 78 ∧ w 208 f = q) ∨ ∃ n, WM q n) (E2 : (∃ f : Nat, (f : Int) < w 160 78 ∧ w 208 f = p) ∨ ∃ n, WM p n) : FOv WM w := by
  refine ⟨fun i => if i < 100 then h 40 i else p, fun i j hi hj e => ?_, fun i hi => ?_⟩
  · dsimp only at e
    by_cases qi : i < 100
    · by_cases qj : j < 100
      · rw [if_pos qi, if_pos qj] at e
        exact frc_inj H (by omega) (by omega) e
      · rw [if_pos qi, if_neg qj] at e
        exact absurd e (N i (by omega))
    · by_cases qj : j < 100
      · rw [if_neg qi, if_pos qj] at e
        exact absurd e.symm (N j (by omega))
      · omega
  · dsimp only
    by_cases qi : i < 100
    · rw [if_pos qi]
      refine E _ ?_
      rcases A.1 i (by omega) with ⟨k, x, -⟩ | ⟨-, f, f1, f2, -⟩
      · exact .inr ⟨k, x⟩
      · exact .inl ⟨f, f1, f2⟩
    · rw [if_neg qi]; exact E2
/-- a row stays as it is -/
theorem ctc_k {k : Nat} (c : CTc h k n) (e1 : ∀ x : Nat, 52 * k ≤ x → x < 52 * k + 52 → u 41 x = h 41 x) (e2 : ∀ x : Nat, u 38 x = h 38 x) : CTc u k n := by
  obtain ⟨⟨a1, a2, a3, a4⟩, b⟩ := c
  exact ⟨⟨by rw [e1 _ (by omega) (by omega)]; exact a1, by rw [e1 _ (by omega) (by omega)]; exact a2, a3, a4⟩, fun i hi => by rw [e1 _ (by omega) (by omega), e2]; exact b i hi⟩
theorem ctj_k {k f : Nat} (c : CTj nC h m k f) (e1 : ∀ x : Nat, 52 * k ≤ x → x < 52 * k + 52 → u 41 x = h 41 x) (e2 : w 209 f = m 209 f ∧ w 210 f = m 210 f ∧ w 211 f = m 211 f) (e3 : m 160 79 ≤ w 160 79) (e4 : ∀ x : Nat, (x : Int) < m 160 79 → w 212 x = m 212 x) : CTj nC u w k f := by
  obtain ⟨⟨a1, a2⟩, b, d, e⟩ := c
  obtain ⟨x1, x2, x3⟩ := e2
  refine ⟨⟨by rw [x2, e1 _ (by omega) (by omega)]; exact a1, by rw [x3, e1 _ (by omega) (by omega)]; exact a2⟩, by rw [x2, x3]; exact b, by rw [x1, x2, x3]; omega, fun i hi => ?_⟩
  rw [x2, x3] at hi
  rw [x1, e4 _ (by omega), e1 _ (by omega) (by omega)]
  exact e i hi
/-- a FRAME on both sides -/
theorem fj_both (J : FRJ nC WL h m) (HD : 20 < m 160 84 → h 34 15 = 1) (Fc : FRc h) (Fr : FRr m) (S : SLc p h s g) (A : FLc s l n g u) (B : RFw F p fi m w) (NW : ∀ k, ¬ WL p k) (l30 : 0 ≤ l ∧ l ≤ 30) (n20 : 0 ≤ n ∧ n ≤ 20) (el : l = m 160 50 + (F : Int)) (en : n = m 160 70) (b50 : 0 ≤ m 160 50) (wb : 0 ≤ m 160 79 ∧ (m 160 84 ≤ 20 → m 160 79 ≤ 50000)) (O : F = 0 ∨ (F = 1 ∧ TJ nC (8 + 2 * m 160 52) (h 38 0))) (T1 : ∀ i : Nat, (i : Int) < m 160 50 → TJ nC (m 197 i) (h 38 (i + F))) (T2 : ∀ i : Nat, (i : Int) < m 160 70 → TJ nC (m 207 i) (h 36 i)) : FRJ nC WL u w := by
  obtain ⟨G, SK⟩ := sl_sk Fc S
  have RS := rf_sk Fr B
  have FV := fov_r (WL := WL) Fr B
  obtain ⟨⟨r1, r2⟩, r3, r4⟩ := RS
  obtain ⟨-, ⟨w8, w9, w10, w11⟩, WO, WK, WF⟩ := B
  have W84 : w 160 84 = m 160 84 := WF 160 84 (by omega) (by omega) (by omega)
  have g15 : g 34 15 = h 34 15 := G 34 15 (by omega) (by omega) (by omega)
  rcases J with ⟨j0, JA⟩ | ⟨j1, JO⟩
  · have m84 : m 160 84 ≤ 20 := by
      by_cases z : 20 < m 160 84
      · have := HD z; omega
      · omega
    have wb2 := wb.2 m84
    rcases WO with ⟨-, w79, wt, ws, wp⟩ | ⟨z, -⟩
    · rcases A with ⟨a1, a2, a3⟩ | ⟨a1, ⟨c1, c2, c3, c4⟩, a3⟩
      · rcases SK with ⟨-, gh, c100, N⟩ | ⟨k, sk, -⟩
        · exact .inr ⟨a2, .inr (fov_c (w := w) (WM := WL) Fc JA c100 N (fun q x => x.elim (fun y => by
            obtain ⟨f, f1, f2⟩ := y
            exact .inl ⟨f, (r4 f f1).1, (r4 f f1).2.trans f2⟩) .inr) (.inl ⟨fi, r1, r2⟩))⟩
        · exact absurd a1 (by omega)
      · rcases SK with ⟨sm, -⟩ | ⟨k, sk, k1, k2, k3, k4, k5⟩
        · exact absurd sm a1.1
        · rw [show s.toNat = k by omega] at c1 c2 c3 c4 a3
          have u14 : u 34 14 = g 34 14 := a3 34 14 (by omega)
          have u40 : ∀ x : Nat, u 40 x = g 40 x := fun x => a3 40 x (by omega)
          have u38 : ∀ x : Nat, u 38 x = h 38 x := fun x => (a3 38 x (by omega)).trans (G 38 x (by omega) (by omega) (by omega))
          have ROW : ∀ j : Nat, ¬ j = k → ∀ x : Nat, 52 * j ≤ x → x < 52 * j + 52 → u 41 x = h 41 x := fun j nj x x1 x2 => (a3 41 x (by omega)).trans (G 41 x (by omega) (by omega) (by omega))
          have CT : CTj nC u w k fi := by
            refine ⟨⟨by rw [w10, c1]; exact el.symm, by rw [w11, c2]; exact en.symm⟩, by rw [w10, w11]; omega, by rw [w9, w10, w11]; omega, fun i hi => ?_⟩
            rw [w10, w11] at hi
            rw [w9]
            by_cases il : (i : Int) < l
            · rw [c3 i il, G 38 i (by omega) (by omega) (by omega)]
              rcases O with f0 | ⟨f1, o⟩
              · have x := ws i (by omega)
                rw [f0, show (m 160 79).toNat + 0 + i = (m 160 79).toNat + i by omega] at x
                have y := T1 i (by omega)
                rw [f0] at y
                rw [x]; exact y
              · by_cases i0 : i = 0
                · rw [i0, show (m 160 79).toNat + 0 = (m 160 79).toNat by omega, wt f1]; exact o
                · have x := ws (i - 1) (by omega)
                  rw [f1, show (m 160 79).toNat + 1 + (i - 1) = (m 160 79).toNat + i by omega] at x
                  have y := T1 (i - 1) (by omega)
                  rw [f1, show i - 1 + 1 = i by omega] at y
                  rw [x]; exact y
            · have x := wp (i - l.toNat) (by omega)
              rw [show (m 160 79).toNat + F + (m 160 50).toNat + (i - l.toNat) = (m 160 79).toNat + i by omega] at x
              have y := c4 (i - l.toNat) (by omega)
              rw [show 52 * k + 2 + l.toNat + (i - l.toNat) = 52 * k + 2 + i by omega, G 36 _ (by omega) (by omega) (by omega)] at y
              rw [x, y]
              exact T2 _ (by omega)
          refine .inl ⟨by rw [a3 34 15 (by omega), g15]; exact j0, fun j hj => ?_, fun f hf => ?_, fun q k' x => ?_⟩
          · rw [u14] at hj
            rw [u40]
            by_cases jk : j = k
            · rw [jk, k2]
              exact .inr ⟨NW, fi, r1, r2, CT⟩
            · obtain ⟨x1, x2, x3⟩ := k3 j hj jk
              rw [x2]
              rcases JA.1 j x1 with ⟨k', y1, y2⟩ | ⟨y1, f, f1, f2, f3⟩
              · exact .inl ⟨k', y1, ctc_k y2 (ROW j jk) u38⟩
              · have nf : ¬ f = fi := fun z => by
                  rw [z] at f1 f2
                  have := (r4 fi f1).2
                  rw [r2, f2] at this
                  exact x3 this.symm
                exact .inr ⟨y1, f, (r4 f f1).1, (r4 f f1).2.trans f2, ctj_k f3 (ROW j jk) ⟨WF 209 f (by omega) (by omega) (by omega), WF 210 f (by omega) (by omega) (by omega), WF 211 f (by omega) (by omega) (by omega)⟩ (by omega) WK⟩
          · rw [u14]
            by_cases q : f = fi
            · rw [q, r2]; exact ⟨k, k1, by rw [u40]; exact k2⟩
            · obtain ⟨x1, x2, -⟩ := r3 f hf q
              obtain ⟨j, j1, j2⟩ := JA.2.1 f x1
              exact ⟨j, (k4 j j1).1, by rw [u40, (k4 j j1).2, x2]; exact j2⟩
          · rw [u14]
            obtain ⟨j, j1, j2⟩ := JA.2.2 q k' x
            exact ⟨j, (k4 j j1).1, by rw [u40, (k4 j j1).2]; exact j2⟩
    · exact absurd z (by omega)
  · refine .inr ⟨?_, ?_⟩
    · rcases A with ⟨-, a2, -⟩ | ⟨-, -, a3⟩
      · exact a2
      · rw [a3 34 15 (by omega), g15]; exact j1
    · rw [W84]
      exact JO.elim .inl (fun x => .inr (FV x))
/-- a FRAME of the class alone: a loop's begin, told by the reference at its end -/
theorem fj_class (J : FRJ nC WL h m) (Fc : FRc h) (S : SLc p h s g) (A : FLc s n 0 g u) (n30 : 0 ≤ n ∧ n ≤ 30) (CO : ∀ k, WL p k → k = n) : FRJ nC (fun q k => WL q k ∨ (q = p ∧ k = n)) u m := by
  obtain ⟨G, SK⟩ := sl_sk Fc S
  have g15 : g 34 15 = h 34 15 := G 34 15 (by omega) (by omega) (by omega)
  rcases J with ⟨j0, JA⟩ | ⟨j1, JO⟩
  · rcases A with ⟨a1, a2, a3⟩ | ⟨a1, ⟨c1, c2, c3, c4⟩, a3⟩
    · rcases SK with ⟨-, gh, c100, N⟩ | ⟨k, sk, -⟩
      · exact .inr ⟨a2, .inr (fov_c Fc JA c100 N (fun q x => x.elim .inl (fun ⟨k, y⟩ => .inr ⟨k, .inl y⟩)) (.inr ⟨n, .inr ⟨rfl, rfl⟩⟩))⟩
      · exact absurd a1 (by omega)
    · rcases SK with ⟨sm, -⟩ | ⟨k, sk, k1, k2, k3, k4, k5⟩
      · exact absurd sm a1.1
      · rw [show s.toNat = k by omega] at c1 c2 c3 c4 a3
        have u14 : u 34 14 = g 34 14 := a3 34 14 (by omega)
        have u40 : ∀ x : Nat, u 40 x = g 40 x := fun x => a3 40 x (by omega)
        have u38 : ∀ x : Nat, u 38 x = h 38 x := fun x => (a3 38 x (by omega)).trans (G 38 x (by omega) (by omega) (by omega))
        have ROW : ∀ j : Nat, ¬ j = k → ∀ x : Nat, 52 * j ≤ x → x < 52 * j + 52 → u 41 x = h 41 x := fun j nj x x1 x2 => (a3 41 x (by omega)).trans (G 41 x (by omega) (by omega) (by omega))
        refine .inl ⟨by rw [a3 34 15 (by omega), g15]; exact j0, fun j hj => ?_, fun f hf => ?_, fun q k' x => ?_⟩
        · rw [u14] at hj
          rw [u40]
          by_cases jk : j = k
          · rw [jk, k2]
            exact .inl ⟨n, .inr ⟨rfl, rfl⟩, ⟨c1, c2, n30⟩, fun i hi => by rw [c3 i hi, u38]; exact G 38 i (by omega) (by omega) (by omega)⟩
          · obtain ⟨x1, x2, x3⟩ := k3 j hj jk
            rw [x2]
            rcases JA.1 j x1 with ⟨k', y1, y2⟩ | ⟨y1, f, f1, f2, f3⟩
            · exact .inl ⟨k', .inl y1, ctc_k y2 (ROW j jk) u38⟩
            · exact .inr ⟨fun z y => y.elim (y1 z) (fun y => x3 y.1), f, f1, f2, ctj_k f3 (ROW j jk) ⟨rfl, rfl, rfl⟩ (Int.le_refl _) (fun _ _ => rfl)⟩
        · rw [u14]
          obtain ⟨j, j1, j2⟩ := JA.2.1 f hf
          exact ⟨j, (k4 j j1).1, by rw [u40, (k4 j j1).2]; exact j2⟩
        · rw [u14]
          rcases x with x | ⟨x, -⟩
          · obtain ⟨j, j1, j2⟩ := JA.2.2 q k' x
            exact ⟨j, (k4 j j1).1, by rw [u40, (k4 j j1).2]; exact j2⟩
          · exact ⟨k, k1, by rw [u40, x]; exact k2⟩
  · refine .inr ⟨?_, ?_⟩
    · rcases A with ⟨-, a2, -⟩ | ⟨-, -, a3⟩
      · exact a2
      · rw [a3 34 15 (by omega), g15]; exact j1
    · refine JO.elim .inl (fun x => .inr ?_)
      obtain ⟨Q, q1, q2⟩ := x
      exact ⟨Q, q1, fun i hi => (q2 i hi).elim .inl (fun ⟨k, y⟩ => .inr ⟨k, .inl y⟩)⟩
/-- a FRAME of the reference alone: the begin of a loop that has ended -/
theorem fj_ref (J : FRJ nC WL h m) (HD : 20 < m 160 84 → h 34 15 = 1) (Fr : FRr m) (B : RFw F p fi m w) (W1 : WL p n) (W2 : ∀ k, WL p k → k = n) (W3 : ∀ q k, ¬ q = p → (WM q k ↔ WL q k)) (W4 : ∀ k, WM p k → WL p k) (n30 : n ≤ 30) (en : n = m 160 50 + (F : Int)) (e70 : m 160 70 = 0) (b50 : 0 ≤ m 160 50) (wb : 0 ≤ m 160 79 ∧ (m 160 84 ≤ 20 → m 160 79 ≤ 50000)) (O : F = 0 ∨ (F = 1 ∧ TJ nC (8 + 2 * m 160 52) (h 38 0))) (T1 : ∀ i : Nat, (i : Int) < m 160 50 → TJ nC (m 197 i) (h 38 (i + F))) : FRJ nC WM h w := by
  have RS := rf_sk Fr B
  obtain ⟨⟨r1, r2⟩, r3, r4⟩ := RS
  obtain ⟨-, ⟨w8, w9, w10, w11⟩, WO, WK, WF⟩ := B
  have W84 : w 160 84 = m 160 84 := WF 160 84 (by omega) (by omega) (by omega)
  rcases J with ⟨j0, JA⟩ | ⟨j1, JO⟩
  · have m84 : m 160 84 ≤ 20 := by
      by_cases z : 20 < m 160 84
      · have := HD z; omega
      · omega
    have wb2 := wb.2 m84
    rcases WO with ⟨-, w79, wt, ws, wp⟩ | ⟨z, -⟩
    · refine .inl ⟨j0, fun j hj => ?_, fun f hf => ?_, fun q k' x => ?_⟩
      · by_cases jp : h 40 j = p
        · rcases JA.1 j hj with ⟨k', y1, y2⟩ | ⟨y1, -⟩
          · rw [jp] at y1
            have kn := W2 k' y1
            rw [kn] at y1 y2
            by_cases z : WM p n
            · exact .inl ⟨n, by rw [jp]; exact z, y2⟩
            · obtain ⟨⟨c1, c2, c3, c4⟩, c5⟩ := y2
              refine .inr ⟨fun k z2 => ?_, fi, r1, r2.trans jp.symm, ⟨by rw [w10, c1]; exact en.symm, by rw [w11, c2]; exact e70⟩, by rw [w10, w11]; omega, by rw [w9, w10, w11]; omega, fun i hi => ?_⟩
              · rw [jp] at z2
                have := W2 k (W4 k z2)
                rw [this] at z2
                exact z z2
              · rw [w10, w11] at hi
                rw [w9, c5 i (by omega)]
                rcases O with f0 | ⟨f1, o⟩
                · have x := ws i (by omega)
                  rw [f0, show (m 160 79).toNat + 0 + i = (m 160 79).toNat + i by omega] at x
                  have y := T1 i (by omega)
                  rw [f0] at y
                  rw [x]; exact y
                · by_cases i0 : i = 0
                  · rw [i0, show (m 160 79).toNat + 0 = (m 160 79).toNat by omega, wt f1]; exact o
                  · have x := ws (i - 1) (by omega)
                    rw [f1, show (m 160 79).toNat + 1 + (i - 1) = (m 160 79).toNat + i by omega] at x
                    have y := T1 (i - 1) (by omega)
                    rw [f1, show i - 1 + 1 = i by omega] at y
                    rw [x]; exact y
          · exact absurd (by rw [jp]; exact W1) (y1 n)
        · rcases JA.1 j hj with ⟨k', y1, y2⟩ | ⟨y1, f, f1, f2, f3⟩
          · exact .inl ⟨k', (W3 _ _ jp).mpr y1, y2⟩
          · have nf : ¬ f = fi := fun z => by
              rw [z] at f1 f2
              have := (r4 fi f1).2
              rw [r2, f2] at this
              exact jp this.symm
            exact .inr ⟨fun k z => y1 k ((W3 _ _ jp).mp z), f, (r4 f f1).1, (r4 f f1).2.trans f2, ctj_k f3 (fun _ _ _ => rfl) ⟨WF 209 f (by omega) (by omega) (by omega), WF 210 f (by omega) (by omega) (by omega), WF 211 f (by omega) (by omega) (by omega)⟩ (by omega) WK⟩
      · by_cases q : f = fi
        · rw [q, r2]; exact JA.2.2 p n W1
        · obtain ⟨x1, x2, -⟩ := r3 f hf q
          rw [x2]; exact JA.2.1 f x1
      · by_cases qp : q = p
        · rw [qp]; exact JA.2.2 p n W1
        · exact JA.2.2 q k' ((W3 _ _ qp).mp x)
    · exact absurd z (by omega)
  · refine .inr ⟨j1, ?_⟩
    rw [W84]
    refine JO.elim .inl (fun x => .inr ?_)
    obtain ⟨Q, q1, q2⟩ := x
    refine ⟨Q, q1, fun i hi => ?_⟩
    rcases q2 i hi with ⟨f, f1, f2⟩ | ⟨k, y⟩
    · exact .inl ⟨f, (r4 f f1).1, (r4 f f1).2.trans f2⟩
    · by_cases qp : Q i = p
      · exact .inl ⟨fi, r1, r2.trans qp.symm⟩
      · exact .inr ⟨k, (W3 _ _ qp).mpr y⟩
end
