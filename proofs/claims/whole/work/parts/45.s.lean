section
/- FRAMES of both sides held together -/
/-- the method is not MUCH yet -/
def OKM (h : ms_M) : Prop := h 34 1 ≤ 1500 ∧ h 34 8 ≤ 30 ∧ h 34 4 ≤ 20
/-- in the class's row k: the first n variables, nothing on the stack -/
def CTc (h : ms_M) (k : Nat) (n : Int) : Prop := (h 41 (52 * k) = n ∧ h 41 (52 * k + 1) = 0 ∧ 0 ≤ n ∧ n ≤ 30) ∧ ∀ i : Nat, (i : Int) < n → h 41 (52 * k + 2 + i) = h 38 i
/-- the class's row k and the reference's row f tell the same -/
def CTj (nC : Nat) (h m : ms_M) (k f : Nat) : Prop := (m 210 f = h 41 (52 * k) ∧ m 211 f = h 41 (52 * k + 1)) ∧ ((0 ≤ m 210 f ∧ m 210 f ≤ 30) ∧ 0 ≤ m 211 f ∧ m 211 f ≤ 20) ∧ (0 ≤ m 209 f ∧ m 209 f + m 210 f + m 211 f ≤ m 160 79) ∧ ∀ i : Nat, (i : Int) < m 210 f + m 211 f → TJ nC (m 212 ((m 209 f).toNat + i)) (h 41 (52 * k + 2 + i))
/-- WL p n: a loop begins at p, n variables in sight, that the reference tells at its end -/
def FAl (nC : Nat) (WL : Int → Int → Prop) (h m : ms_M) : Prop := (∀ k : Nat, (k : Int) < h 34 14 → (∃ n, WL (h 40 k) n ∧ CTc h k n) ∨ ((∀ n, ¬ WL (h 40 k) n) ∧ ∃ f : Nat, (f : Int) < m 160 78 ∧ m 208 f = h 40 k ∧ CTj nC h m k f)) ∧ (∀ f : Nat, (f : Int) < m 160 78 → ∃ k : Nat, (k : Int) < h 34 14 ∧ h 40 k = m 208 f) ∧ ∀ p n, WL p n → ∃ k : Nat, (k : Int) < h 34 14 ∧ h 40 k = p
/-- more than a hundred places -/
def FOv (WL : Int → Int → Prop) (m : ms_M) : Prop := ∃ Q : Nat → Int, (∀ i j : Nat, i < 101 → j < 101 → Q i = Q j → i = j) ∧ ∀ i : Nat, i < 101 → (∃ f : Nat, (f : Int) < m 160 78 ∧ m 208 f = Q i) ∨ ∃ n, WL (Q i) n
def FRJ (nC : Nat) (WL : Int → Int → Prop) (h m : ms_M) : Prop := (h 34 15 = 0 ∧ FAl nC WL h m) ∨ (h 34 15 = 1 ∧ (20 < m 160 84 ∨ FOv WL m))
section
variable {nC : Nat} {h g u m w : ms_M} {WL WM : Int → Int → Prop} {F fi : Nat} {p s l n : Int}
theorem frc_inj (H : FRc h) {j k : Nat} (hj : (j : Int) < h 34 14) (hk : (k : Int) < h 34 14) (e : h 40 j = h 40 k) : j = k := by
  obtain ⟨-, -, f4, f5⟩ := H
  obtain ⟨a, an, ea⟩ := f5 j hj
  obtain ⟨b, bn, eb⟩ := f5 k hk
  rcases Nat.lt_trichotomy a b with lt | eq | gt
  · have q := f4 a b lt bn
    rw [ea, eb, Int.toNat_natCast, Int.toNat_natCast] at q; omega
  · rw [eq, eb] at ea; omega
  · have q := f4 b a gt an
    rw [ea, eb, Int.toNat_natCast, Int.toNat_natCast] at q; omega
theorem sl_sk (H : FRc h) (S : SLc p h s g) : (∀ cc x : Nat, ¬ cc = 42 → ¬ (cc = 34 ∧ x = 14) → ¬ cc = 40 → g cc x = h cc x) ∧ ((s = -1 ∧ g = h ∧ h 34 14 = 100 ∧ ∀ k : Nat, (k : Int) < h 34 14 → ¬ h 40 k = p) ∨ ∃ k : Nat, s = (k : Int) ∧ (k : Int) < g 34 14 ∧ g 40 k = p ∧ (∀ j : Nat, (j : Int) < g 34 14 → ¬ j = k → (j : Int) < h 34 14 ∧ g 40 j = h 40 j ∧ ¬ h 40 j = p) ∧ (∀ j : Nat, (j : Int) < h 34 14 → (j : Int) < g 34 14 ∧ g 40 j = h 40 j) ∧ ((k : Int) < h 34 14 ∨ ∀ j : Nat, (j : Int) < h 34 14 → ¬ h 40 j = p)) := by
  have b := H.1
  obtain ⟨-, ⟨k, e1, e2, e3, e4⟩ | ⟨N, ⟨a1, a2, a3, a4, a5⟩ | ⟨a1, a2, a3⟩⟩⟩ := S
  · rw [e4]
    refine ⟨fun _ _ _ _ _ => rfl, .inr ⟨k, e1, e2, e3, fun j hj nj => ⟨hj, rfl, fun z => nj (frc_inj H hj e2 (z.trans e3.symm))⟩, fun j hj => ⟨hj, rfl⟩, .inl e2⟩⟩
  · refine ⟨fun cc x q1 q2 q3 => a5 cc x q1 q2 (by omega), .inr ⟨(h 34 14).toNat, by omega, by omega, a4, fun j hj nj => ⟨by omega, a5 40 j (by omega) (by omega) (by omega), N j (by omega)⟩, fun j hj => ⟨by omega, a5 40 j (by omega) (by omega) (by omega)⟩, .inr N⟩⟩
  · exact ⟨fun _ _ _ _ _ => by rw [a3], .inl ⟨a2, a3, a1, N⟩⟩
theorem rf_sk (H : FRr m) (B : RFw F p fi m w) : ((fi : Int) < w 160 78 ∧ w 208 fi = p) ∧ (∀ f : Nat, (f : Int) < w 160 78 → ¬ f = fi → (f : Int) < m 160 78 ∧ w 208 f = m 208 f ∧ ¬ m 208 f = p) ∧ ∀ f : Nat, (f : Int) < m 160 78 → (f : Int) < w 160 78 ∧ w 208 f = m 208 f := by
  obtain ⟨AL, ⟨w8, -⟩, -, -, WF⟩ := B
  rcases AL with ⟨a1, a2, a3⟩ | ⟨a1, a2, a3⟩
  · refine ⟨⟨by omega, w8⟩, fun f hf nf => ⟨by omega, WF 208 f (by omega) (by omega) (by omega), fun z => nf (H.2 f fi (by omega) a1 (z.trans a2.symm))⟩, fun f hf => ⟨by omega, ?_⟩⟩
    by_cases q : f = fi
    · rw [q, w8, a2]
    · exact WF 208 f (by omega) (by omega) (by omega)
  · exact ⟨⟨by omega, w8⟩, fun f hf nf => ⟨by omega, WF 208 f (by omega) (by omega) (by omega), a1 f (by omega)⟩, fun f hf => ⟨by omega, WF 208 f (by omega) (by omega) (by omega)⟩⟩
theorem fov_r (H : FRr m) (B : RFw F p fi m w) (Z : FOv WL m) : FOv WL w := by
  obtain ⟨-, -, P⟩ := rf_sk H B
  obtain ⟨Q, q1, q2⟩ := Z
  refine ⟨Q, q1, fun i hi => ?_⟩
  rcases q2 i hi with ⟨f, f1, f2⟩ | x
  · exact .inl ⟨f, (P f f1).1, (P f f1).2.trans f2⟩
  · exact .inr x
/-- a hundred and one more -/
theorem fov_c (H : FRc h) (A : FAl nC WL h m) (c : h 34 14 = 100) (N : ∀ k : Nat, (k : Int) < h 34 14 → ¬ h 40 k = p) (E : ∀ q, ((∃ f : Nat, (f : Int) < m 160 78 ∧ m 208 f = q) ∨ ∃ n, WL q n) → (∃ f : Nat, (f : Int) < w 160 78 ∧ w 208 f = q) ∨ ∃ n, WM q n) (E2 : (∃ f : Nat, (f : Int) < w 160 78 ∧ w 208 f = p) ∨ ∃ n, WM p n) : FOv WM w := by
  refine ⟨fun i => if i < 100 then h 40 i else p, fun i j hi hj e => ?_, fun i hi => ?_⟩
  · dsimp only at e
    by_cases qi : i < 100
    · by_cases qj : j < 100
      · rw [if_pos qi, if_pos qj] at e
        exact frc_inj H (by omega) (by omega) e
      · rw [if_pos qi, if_neg qj] at e
        exact absurd e (N i (by omega))
    · by_cases qj : j < 100
      · rw [if_neg qi, if_pos qj] at e
        exact absurd e.symm (N j (by omega))
      · omega
  · dsimp only
    by_cases qi : i < 100
    · rw [if_pos qi]
      refine E _ ?_
      rcases A.1 i (by omega) with ⟨k, x, -⟩ | ⟨-, f, f1, f2, -⟩
      · exact .inr ⟨k, x⟩
      · exact .inl ⟨f, f1, f2⟩
    · rw [if_neg qi]; exact E2
/-- a row stays as it is -/
theorem ctc_k {k : Nat} (c : CTc h k n) (e1 : ∀ x : Nat, 52 * k ≤ x → x < 52 * k + 52 → u 41 x = h 41 x) (e2 : ∀ x : Nat, u 38 x = h 38 x) : CTc u k n := by
  obtain ⟨⟨a1, a2, a3, a4⟩, b⟩ := c
  exact ⟨⟨by rw [e1 _ (by omega) (by omega)]; exact a1, by rw [e1 _ (by omega) (by omega)]; exact a2, a3, a4⟩, fun i hi => by rw [e1 _ (by omega) (by omega), e2]; exact b i hi⟩
theorem ctj_k {k f : Nat} (c : CTj nC h m k f) (e1 : ∀ x : Nat, 52 * k ≤ x → x < 52 * k + 52 → u 41 x = h 41 x) (e2 : w 209 f = m 209 f ∧ w 210 f = m 210 f ∧ w 211 f = m 211 f) (e3 : m 160 79 ≤ w 160 79) (e4 : ∀ x : Nat, (x : Int) < m 160 79 → w 212 x = m 212 x) : CTj nC u w k f := by
  obtain ⟨⟨a1, a2⟩, b, d, e⟩ := c
  obtain ⟨x1, x2, x3⟩ := e2
  refine ⟨⟨by rw [x2, e1 _ (by omega) (by omega)]; exact a1, by rw [x3, e1 _ (by omega) (by omega)]; exact a2⟩, by rw [x2, x3]; exact b, by rw [x1, x2, x3]; omega, fun i hi => ?_⟩
  rw [x2, x3] at hi
  rw [x1, e4 _ (by omega), e1 _ (by omega) (by omega)]
  exact e i hi
/-- a FRAME on both sides -/
theorem fj_both (J : FRJ nC WL h m) (HD : 20 < m 160 84 → h 34 15 = 1) (Fc : FRc h) (Fr : FRr m) (S : SLc p h s g) (A : FLc s l n g u) (B : RFw F p fi m w) (NW : ∀ k, ¬ WL p k) (l30 : 0 ≤ l ∧ l ≤ 30) (n20 : 0 ≤ n ∧ n ≤ 20) (el : l = m 160 50 + (F : Int)) (en : n = m 160 70) (b50 : 0 ≤ m 160 50) (wb : 0 ≤ m 160 79 ∧ (m 160 84 ≤ 20 → m 160 79 ≤ 50000)) (O : F = 0 ∨ (F = 1 ∧ TJ nC (8 + 2 * m 160 52) (h 38 0))) (T1 : ∀ i : Nat, (i : Int) < m 160 50 → TJ nC (m 197 i) (h 38 (i + F))) (T2 : ∀ i : Nat, (i : Int) < m 160 70 → TJ nC (m 207 i) (h 36 i)) : FRJ nC WL u w := by
  obtain ⟨G, SK⟩ := sl_sk Fc S
  have RS := rf_sk Fr B
  have FV := fov_r (WL := WL) Fr B
  obtain ⟨⟨r1, r2⟩, r3, r4⟩ := RS
  obtain ⟨-, ⟨w8, w9, w10, w11⟩, WO, WK, WF⟩ := B
  have W84 : w 160 84 = m 160 84 := WF 160 84 (by omega) (by omega) (by omega)
  have g15 : g 34 15 = h 34 15 := G 34 15 (by omega) (by omega) (by omega)
  rcases J with ⟨j0, JA⟩ | ⟨j1, JO⟩
  · have m84 : m 160 84 ≤ 20 := by
      by_cases z : 20 < m 160 84
      · have := HD z; omega
      · omega
    have wb2 := wb.2 m84
    rcases WO with ⟨-, w79, wt, ws, wp⟩ | ⟨z, -⟩
    · rcases A with ⟨a1, a2, a3⟩ | ⟨a1, ⟨c1, c2, c3, c4⟩, a3⟩
      · rcases SK with ⟨-, gh, c100, N⟩ | ⟨k, sk, -⟩
        · exact .inr ⟨a2, .inr (fov_c (w := w) (WM := WL) Fc JA c100 N (fun q x => x.elim (fun y => by
            obtain ⟨f, f1, f2⟩ := y
            exact .inl ⟨f, (r4 f f1).1, (r4 f f1).2.trans f2⟩) .inr) (.inl ⟨fi, r1, r2⟩))⟩
        · exact absurd a1 (by omega)
      · rcases SK with ⟨sm, -⟩ | ⟨k, sk, k1, k2, k3, k4, k5⟩
        · exact absurd sm a1.1
        · rw [show s.toNat = k by omega] at c1 c2 c3 c4 a3
          have u14 : u 34 14 = g 34 14 := a3 34 14 (by omega)
          have u40 : ∀ x : Nat, u 40 x = g 40 x := fun x => a3 40 x (by omega)
          have u38 : ∀ x : Nat, u 38 x = h 38 x := fun x => (a3 38 x (by omega)).trans (G 38 x (by omega) (by omega) (by omega))
          have ROW : ∀ j : Nat, ¬ j = k → ∀ x : Nat, 52 * j ≤ x → x < 52 * j + 52 → u 41 x = h 41 x := fun j nj x x1 x2 => (a3 41 x (by omega)).trans (G 41 x (by omega) (by omega) (by omega))
          have CT : CTj nC u w k fi := by
            refine ⟨⟨by rw [w10, c1]; exact el.symm, by rw [w11, c2]; exact en.symm⟩, by rw [w10, w11]; omega, by rw [w9, w10, w11]; omega, fun i hi => ?_⟩
            rw [w10, w11] at hi
            rw [w9]
            by_cases il : (i : Int) < l
            · rw [c3 i il, G 38 i (by omega) (by omega) (by omega)]
              rcases O with f0 | ⟨f1, o⟩
              · have x := ws i (by omega)
                rw [f0, show (m 160 79).toNat + 0 + i = (m 160 79).toNat + i by omega] at x
                have y := T1 i (by omega)
                rw [f0] at y
                rw [x]; exact y
              · by_cases i0 : i = 0
                · rw [i0, show (m 160 79).toNat + 0 = (m 160 79).toNat by omega, wt f1]; exact o
                · have x := ws (i - 1) (by omega)
                  rw [f1, show (m 160 79).toNat + 1 + (i - 1) = (m 160 79).toNat + i by omega] at x
                  have y := T1 (i - 1) (by omega)
                  rw [f1, show i - 1 + 1 = i by omega] at y
                  rw [x]; exact y
            · have x := wp (i - l.toNat) (by omega)
              rw [show (m 160 79).toNat + F + (m 160 50).toNat + (i - l.toNat) = (m 160 79).toNat + i by omega] at x
              have y := c4 (i - l.toNat) (by omega)
              rw [show 52 * k + 2 + l.toNat + (i - l.toNat) = 52 * k + 2 + i by omega, G 36 _ (by omega) (by omega) (by omega)] at y
              rw [x, y]
              exact T2 _ (by omega)
          refine .inl ⟨by rw [a3 34 15 (by omega), g15]; exact j0, fun j hj => ?_, fun f hf => ?_, fun q k' x => ?_⟩
          · rw [u14] at hj
            rw [u40]
            by_cases jk : j = k
            · rw [jk, k2]
              exact .inr ⟨NW, fi, r1, r2, CT⟩
            · obtain ⟨x1, x2, x3⟩ := k3 j hj jk
              rw [x2]
              rcases JA.1 j x1 with ⟨k', y1, y2⟩ | ⟨y1, f, f1, f2, f3⟩
              · exact .inl ⟨k', y1, ctc_k y2 (ROW j jk) u38⟩
              · have nf : ¬ f = fi := fun z => by
                  rw [z] at f1 f2
                  have := (r4 fi f1).2
                  rw [r2, f2] at this
                  exact x3 this.symm
                exact .inr ⟨y1, f, (r4 f f1).1, (r4 f f1).2.trans f2, ctj_k f3 (ROW j jk) ⟨WF 209 f (by omega) (by omega) (by omega), WF 210 f (by omega) (by omega) (by omega), WF 211 f (by omega) (by omega) (by omega)⟩ (by omega) WK⟩
          · rw [u14]
            by_cases q : f = fi
            · rw [q, r2]; exact ⟨k, k1, by rw [u40]; exact k2⟩
            · obtain ⟨x1, x2, -⟩ := r3 f hf q
              obtain ⟨j, j1, j2⟩ := JA.2.1 f x1
              exact ⟨j, (k4 j j1).1, by rw [u40, (k4 j j1).2, x2]; exact j2⟩
          · rw [u14]
            obtain ⟨j, j1, j2⟩ := JA.2.2 q k' x
            exact ⟨j, (k4 j j1).1, by rw [u40, (k4 j j1).2]; exact j2⟩
    · exact absurd z (by omega)
  · refine .inr ⟨?_, ?_⟩
    · rcases A with ⟨-, a2, -⟩ | ⟨-, -, a3⟩
      · exact a2
      · rw [a3 34 15 (by omega), g15]; exact j1
    · rw [W84]
      exact JO.elim .inl (fun x => .inr (FV x))
/-- a FRAME of the class alone: a loop's begin, told by the reference at its end -/
theorem fj_class (J : FRJ nC WL h m) (Fc : FRc h) (S : SLc p h s g) (A : FLc s n 0 g u) (n30 : 0 ≤ n ∧ n ≤ 30) (CO : ∀ k, WL p k → k = n) : FRJ nC (fun q k => WL q k ∨ (q = p ∧ k = n)) u m := by
  obtain ⟨G, SK⟩ := sl_sk Fc S
  have g15 : g 34 15 = h 34 15 := G 34 15 (by omega) (by omega) (by omega)
  rcases J with ⟨j0, JA⟩ | ⟨j1, JO⟩
  · rcases A with ⟨a1, a2, a3⟩ | ⟨a1, ⟨c1, c2, c3, c4⟩, a3⟩
    · rcases SK with ⟨-, gh, c100, N⟩ | ⟨k, sk, -⟩
      · exact .inr ⟨a2, .inr (fov_c Fc JA c100 N (fun q x => x.elim .inl (fun ⟨k, y⟩ => .inr ⟨k, .inl y⟩)) (.inr ⟨n, .inr ⟨rfl, rfl⟩⟩))⟩
      · exact absurd a1 (by omega)
    · rcases SK with ⟨sm, -⟩ | ⟨k, sk, k1, k2, k3, k4, k5⟩
      · exact absurd sm a1.1
      · rw [show s.toNat = k by omega] at c1 c2 c3 c4 a3
        have u14 : u 34 14 = g 34 14 := a3 34 14 (by omega)
        have u40 : ∀ x : Nat, u 40 x = g 40 x := fun x => a3 40 x (by omega)
        have u38 : ∀ x : Nat, u 38 x = h 38 x := fun x => (a3 38 x (by omega)).trans (G 38 x (by omega) (by omega) (by omega))
        have ROW : ∀ j : Nat, ¬ j = k → ∀ x : Nat, 52 * j ≤ x → x < 52 * j + 52 → u 41 x = h 41 x := fun j nj x x1 x2 => (a3 41 x (by omega)).trans (G 41 x (by omega) (by omega) (by omega))
        refine .inl ⟨by rw [a3 34 15 (by omega), g15]; exact j0, fun j hj => ?_, fun f hf => ?_, fun q k' x => ?_⟩
        · rw [u14] at hj
          rw [u40]
          by_cases jk : j = k
          · rw [jk, k2]
            exact .inl ⟨n, .inr ⟨rfl, rfl⟩, ⟨c1, c2, n30⟩, fun i hi => by rw [c3 i hi, u38]; exact G 38 i (by omega) (by omega) (by omega)⟩
          · obtain ⟨x1, x2, x3⟩ := k3 j hj jk
            rw [x2]
            rcases JA.1 j x1 with ⟨k', y1, y2⟩ | ⟨y1, f, f1, f2, f3⟩
            · exact .inl ⟨k', .inl y1, ctc_k y2 (ROW j jk) u38⟩
            · exact .inr ⟨fun z y => y.elim (y1 z) (fun y => x3 y.1), f, f1, f2, ctj_k f3 (ROW j jk) ⟨rfl, rfl, rfl⟩ (Int.le_refl _) (fun _ _ => rfl)⟩
        · rw [u14]
          obtain ⟨j, j1, j2⟩ := JA.2.1 f hf
          exact ⟨j, (k4 j j1).1, by rw [u40, (k4 j j1).2]; exact j2⟩
        · rw [u14]
          rcases x with x | ⟨x, -⟩
          · obtain ⟨j, j1, j2⟩ := JA.2.2 q k' x
            exact ⟨j, (k4 j j1).1, by rw [u40, (k4 j j1).2]; exact j2⟩
          · exact ⟨k, k1, by rw [u40, x]; exact k2⟩
  · refine .inr ⟨?_, ?_⟩
    · rcases A with ⟨-, a2, -⟩ | ⟨-, -, a3⟩
      · exact a2
      · rw [a3 34 15 (by omega), g15]; exact j1
    · refine JO.elim .inl (fun x => .inr ?_)
      obtain ⟨Q, q1, q2⟩ := x
      exact ⟨Q, q1, fun i hi => (q2 i hi).elim .inl (fun ⟨k, y⟩ => .inr ⟨k, .inl y⟩)⟩
/-- a FRAME of the reference alone: the begin of a loop that has ended -/
theorem fj_ref (J : FRJ nC WL h m) (HD : 20 < m 160 84 → h 34 15 = 1) (Fr : FRr m) (B : RFw F p fi m w) (W1 : WL p n) (W2 : ∀ k, WL p k → k = n) (W3 : ∀ q k, ¬ q = p → (WM q k ↔ WL q k)) (W4 : ∀ k, WM p k → WL p k) (n30 : n ≤ 30) (en : n = m 160 50 + (F : Int)) (e70 : m 160 70 = 0) (b50 : 0 ≤ m 160 50) (wb : 0 ≤ m 160 79 ∧ (m 160 84 ≤ 20 → m 160 79 ≤ 50000)) (O : F = 0 ∨ (F = 1 ∧ TJ nC (8 + 2 * m 160 52) (h 38 0))) (T1 : ∀ i : Nat, (i : Int) < m 160 50 → TJ nC (m 197 i) (h 38 (i + F))) : FRJ nC WM h w := by
  have RS := rf_sk Fr B
  obtain ⟨⟨r1, r2⟩, r3, r4⟩ := RS
  obtain ⟨-, ⟨w8, w9, w10, w11⟩, WO, WK, WF⟩ := B
  have W84 : w 160 84 = m 160 84 := WF 160 84 (by omega) (by omega) (by omega)
  rcases J with ⟨j0, JA⟩ | ⟨j1, JO⟩
  · have m84 : m 160 84 ≤ 20 := by
      by_cases z : 20 < m 160 84
      · have := HD z; omega
      · omega
    have wb2 := wb.2 m84
    rcases WO with ⟨-, w79, wt, ws, wp⟩ | ⟨z, -⟩
    · refine .inl ⟨j0, fun j hj => ?_, fun f hf => ?_, fun q k' x => ?_⟩
      · by_cases jp : h 40 j = p
        · rcases JA.1 j hj with ⟨k', y1, y2⟩ | ⟨y1, -⟩
          · rw [jp] at y1
            have kn := W2 k' y1
            rw [kn] at y1 y2
            by_cases z : WM p n
            · exact .inl ⟨n, by rw [jp]; exact z, y2⟩
            · obtain ⟨⟨c1, c2, c3, c4⟩, c5⟩ := y2
              refine .inr ⟨fun k z2 => ?_, fi, r1, r2.trans jp.symm, ⟨by rw [w10, c1]; exact en.symm, by rw [w11, c2]; exact e70⟩, by rw [w10, w11]; omega, by rw [w9, w10, w11]; omega, fun i hi => ?_⟩
              · rw [jp] at z2
                have := W2 k (W4 k z2)
                rw [this] at z2
                exact z z2
              · rw [w10, w11] at hi
                rw [w9, c5 i (by omega)]
                rcases O with f0 | ⟨f1, o⟩
                · have x := ws i (by omega)
                  rw [f0, show (m 160 79).toNat + 0 + i = (m 160 79).toNat + i by omega] at x
                  have y := T1 i (by omega)
                  rw [f0] at y
                  rw [x]; exact y
                · by_cases i0 : i = 0
                  · rw [i0, show (m 160 79).toNat + 0 = (m 160 79).toNat by omega, wt f1]; exact o
                  · have x := ws (i - 1) (by omega)
                    rw [f1, show (m 160 79).toNat + 1 + (i - 1) = (m 160 79).toNat + i by omega] at x
                    have y := T1 (i - 1) (by omega)
                    rw [f1, show i - 1 + 1 = i by omega] at y
                    rw [x]; exact y
          · exact absurd (by rw [jp]; exact W1) (y1 n)
        · rcases JA.1 j hj with ⟨k', y1, y2⟩ | ⟨y1, f, f1, f2, f3⟩
          · exact .inl ⟨k', (W3 _ _ jp).mpr y1, y2⟩
          · have nf : ¬ f = fi := fun z => by
              rw [z] at f1 f2
              have := (r4 fi f1).2
              rw [r2, f2] at this
              exact jp this.symm
            exact .inr ⟨fun k z => y1 k ((W3 _ _ jp).mp z), f, (r4 f f1).1, (r4 f f1).2.trans f2, ctj_k f3 (fun _ _ _ => rfl) ⟨WF 209 f (by omega) (by omega) (by omega), WF 210 f (by omega) (by omega) (by omega), WF 211 f (by omega) (by omega) (by omega)⟩ (by omega) WK⟩
      · by_cases q : f = fi
        · rw [q, r2]; exact JA.2.2 p n W1
        · obtain ⟨x1, x2, -⟩ := r3 f hf q
          rw [x2]; exact JA.2.1 f x1
      · by_cases qp : q = p
        · rw [qp]; exact JA.2.2 p n W1
        · exact JA.2.2 q k' ((W3 _ _ qp).mp x)
    · exact absurd z (by omega)
  · refine .inr ⟨j1, ?_⟩
    rw [W84]
    refine JO.elim .inl (fun x => .inr ?_)
    obtain ⟨Q, q1, q2⟩ := x
    refine ⟨Q, q1, fun i hi => ?_⟩
    rcases q2 i hi with ⟨f, f1, f2⟩ | ⟨k, y⟩
    · exact .inl ⟨f, (r4 f f1).1, (r4 f f1).2.trans f2⟩
    · by_cases qp : Q i = p
      · exact .inl ⟨fi, r1, r2.trans qp.symm⟩
      · exact .inr ⟨k, (W3 _ _ qp).mpr y⟩
end
end
section
/- CODE of both sides held together: all of it -/
def HDJ (n : Nat) (h m : ms_M) : Prop := 0 ≤ m 160 84 ∧ (m 160 84 ≤ 20 → h 34 10 = m 160 84) ∧ (20 < m 160 84 → h 34 10 = 20 ∧ h 34 15 = 1) ∧ ∀ k : Nat, (k : Int) < h 34 10 → h 39 (4 * k) = m 213 k ∧ h 39 (4 * k + 1) = m 214 k ∧ h 39 (4 * k + 2) = m 215 k ∧ TJ n (m 216 k) (h 39 (4 * k + 3)) ∧ 0 ≤ h 39 (4 * k + 3) ∧ h 39 (4 * k + 3) < 100
/-- what stays over an E -/
def SCt (n : Nat) (F : Nat) (own : Int) (T h m : ms_M) : Prop := ((h 34 8 = m 160 72 + (F : Int) ∧ h 34 8 ≤ 750) ∧ h 34 7 ≤ h 34 8 ∧ ∀ s : Nat, (s : Int) < h 34 7 → VTn n (h 38 s) ∧ ¬ h 38 s = 303) ∧ ((m 160 53 = 0 ∧ F = 1) ∨ (¬ m 160 53 = 0 ∧ F = 0)) ∧ (8 + 2 * m 160 52 = ty_T own ∧ 0 ≤ m 160 52 ∧ m 160 52 ≤ 100) ∧ m 160 9 = 0 ∧ ∀ cc x : Nat, ((163 ≤ cc ∧ cc ≤ 173) ∨ cc = 177) → m cc x = T cc x
def MBq (K V : Nat → Int) (C : Nat → Nat) (W : Nat → List Int) (n F : Nat) (own : Int) (a b T h m : ms_M) : Prop := SGV K V F own h m ∧ HDJ n h m ∧ (PLR h m ∧ MBd m ∧ SPL m []) ∧ TXE K V C W n a b h m ∧ SCt n F own T h m
/-- the jumps that wait: their places rise, their labels are given out -/
def JLb (L : List (Int × Int)) (m : ms_M) : Prop := L.length ≤ 3000 ∧ (∀ i : Nat, i < L.length → 0 ≤ (L.getD i (0, 0)).1 ∧ (L.getD i (0, 0)).1 + 3 ≤ m 160 68 ∧ (L.getD i (0, 0)).2 ≤ m 160 88) ∧ (∀ i j : Nat, i < j → j < L.length → (L.getD i (0, 0)).1 + 3 ≤ (L.getD j (0, 0)).1) ∧ 0 ≤ m 160 88
def FRK (n : Nat) (WL : Int → Int → Prop) (L : List (Int × Int)) (h m : ms_M) : Prop := (FRc h ∧ FRr m ∧ 0 ≤ m 160 79 ∧ m 160 79 ≤ 60000) ∧ ((m 160 78 + (L.length : Int) ≤ m 160 68 + m 160 84 ∧ m 160 84 ≤ 1000) ∧ ∀ p n, WL p n → p < m 160 68) ∧ (OKM h → m 160 79 + 51 * (L.length : Int) ≤ 17 * (m 160 68 + 3 * m 160 84) ∧ FRJ n WL h m)
/-- all but the stack -/
def MA (K V : Nat → Int) (C : Nat → Nat) (W : Nat → List Int) (n F : Nat) (own : Int) (a b T : ms_M) (PB : Nat → Prop) (WL : Int → Int → Prop) (L : List (Int × Int)) (h m : ms_M) : Prop := CBY PB h m ∧ (JLs m L ∧ JLb L m) ∧ FRK n WL L h m ∧ MBq K V C W n F own a b T h m
def MK (K V : Nat → Int) (C : Nat → Nat) (W : Nat → List Int) (n F : Nat) (own : Int) (a b T : ms_M) (PB : Nat → Prop) (WL : Int → Int → Prop) (L : List (Int × Int)) (h m : ms_M) : Prop := MA K V C W n F own a b T PB WL L h m ∧ SKJ n h m
/-- the cells of the class, and of the reference, that MA looks at -/
def RLc (cc x : Nat) : Prop := (cc = 34 ∧ ¬ x = 3 ∧ ¬ x = 4) ∨ (35 ≤ cc ∧ cc ≤ 42 ∧ ¬ cc = 36) ∨ (45 ≤ cc ∧ cc ≤ 47) ∨ (6 ≤ cc ∧ cc ≤ 9) ∨ (17 ≤ cc ∧ cc ≤ 30) ∨ (cc = 2 ∧ x = 9)
def RLm (cc x : Nat) : Prop := (cc = 160 ∧ ¬ x = 57 ∧ ¬ x = 70 ∧ ¬ x = 71) ∨ (162 ≤ cc ∧ cc ≤ 173) ∨ (177 ≤ cc ∧ cc ≤ 197) ∨ (200 ≤ cc ∧ cc ≤ 206) ∨ (208 ≤ cc ∧ cc ≤ 218)
section
variable {nn : Nat} {K V : Nat → Int} {C : Nat → Nat} {W : Nat → List Int} {n F : Nat} {own : Int} {a b T h g u m w : ms_M} {PB : Nat → Prop} {WL : Int → Int → Prop} {L L2 : List (Int × Int)}
theorem plr_k (R : PLR h m) (e1 : ∀ cc y : Nat, (cc = 45 ∧ (y = 4 ∨ y = 5)) ∨ cc = 46 ∨ cc = 47 ∨ cc = 6 ∨ cc = 7 ∨ (cc = 2 ∧ y = 9) → g cc y = h cc y) (e2 : ∀ cc y : Nat, (cc = 160 ∧ (y = 62 ∨ y = 64)) ∨ (200 ≤ cc ∧ cc ≤ 204) → w cc y = m cc y) : PLR g w := by
  rcases R with ⟨r1, r2, cn, r3, r4, r5, r6⟩ | ⟨r1, r2⟩
  · refine .inl ⟨by rw [e1 45 5 (by omega)]; exact r1, by rw [e2 160 64 (by omega)]; exact r2, cn, by rw [e1 45 4 (by omega)]; exact r3, by rw [e2 160 62 (by omega)]; exact r4, r5, fun k k1 k2 => ?_⟩
    exact pce_k (r6 k k1 k2) (fun cc y z => e1 cc y (by omega)) (fun x L z => nmz_k z (fun cc y q => e1 cc y (by omega))) (fun cc y z => e2 cc y (by omega)) (fun y _ => e2 204 y (by omega)) (by rw [e2 160 64 (by omega)]; exact Int.le_refl _)
  · exact .inr ⟨by rw [e1 45 5 (by omega)]; exact r1, by rw [e2 160 62 (by omega)]; exact r2⟩
theorem spl_k {Z : List Int} (S : SPL m Z) (e : ∀ cc y : Nat, (cc = 160 ∧ y = 66) ∨ cc = 205 → w cc y = m cc y) : SPL w Z := ⟨by rw [e 160 66 (by omega)]; exact S.1, fun k hk => by rw [e 205 k (by omega)]; exact S.2 k hk⟩
theorem hdj_k (H : HDJ n h m) (e1 : ∀ cc x : Nat, (cc = 34 ∧ x = 10) ∨ cc = 39 → g cc x = h cc x) (e15 : h 34 15 = 1 → g 34 15 = 1) (e2 : ∀ cc x : Nat, (cc = 160 ∧ x = 84) ∨ (213 ≤ cc ∧ cc ≤ 216) → w cc x = m cc x) : HDJ n g w := by
  obtain ⟨a1, a2, a3, a4⟩ := H
  have x10 := e1 34 10 (by omega)
  have x84 := e2 160 84 (by omega)
  refine ⟨by rw [x84]; exact a1, by rw [x84, x10]; exact a2, by rw [x84, x10]; exact fun z => ⟨(a3 z).1, e15 (a3 z).2⟩, fun k hk => ?_⟩
  rw [x10] at hk
  rw [e1 39 _ (by omega), e1 39 _ (by omega), e1 39 _ (by omega), e1 39 _ (by omega), e2 213 k (by omega), e2 214 k (by omega), e2 215 k (by omega), e2 216 k (by omega)]
  exact a4 k hk
theorem sct_k (S : SCt n F own T h m) (e1 : ∀ cc x : Nat, (cc = 34 ∧ (x = 7 ∨ x = 8)) ∨ cc = 38 → g cc x = h cc x) (e2 : ∀ cc x : Nat, (cc = 160 ∧ (x = 9 ∨ x = 52 ∨ x = 53 ∨ x = 72)) ∨ (163 ≤ cc ∧ cc ≤ 173) ∨ cc = 177 → w cc x = m cc x) : SCt n F own T g w := by
  obtain ⟨s1, s2, s3, s4, s5⟩ := S
  refine ⟨⟨by rw [e1 34 8 (by omega), e2 160 72 (by omega)]; exact s1.1, by rw [e1 34 8 (by omega), e1 34 7 (by omega)]; exact s1.2.1, fun s hs => by rw [e1 34 7 (by omega)] at hs; rw [e1 38 s (by omega)]; exact s1.2.2 s hs⟩, by rw [e2 160 53 (by omega)]; exact s2, by rw [e2 160 52 (by omega)]; exact s3, by rw [e2 160 9 (by omega)]; exact s4, fun cc x z => ?_⟩
  rw [e2 cc x (by omega)]; exact s5 cc x z
theorem mb_k (M : MBq K V C W n F own a b T h m) (e1 : ∀ cc x : Nat, ((cc = 34 ∧ (x = 7 ∨ x = 8 ∨ x = 10)) ∨ (37 ≤ cc ∧ cc ≤ 39) ∨ (cc = 45 ∧ (x = 4 ∨ x = 5)) ∨ cc = 46 ∨ cc = 47 ∨ (6 ≤ cc ∧ cc ≤ 9) ∨ (17 ≤ cc ∧ cc ≤ 30) ∨ (cc = 2 ∧ x = 9)) → g cc x = h cc x) (e15 : h 34 15 = 1 → g 34 15 = 1) (e2 : ∀ cc x : Nat, ((cc = 160 ∧ (x = 9 ∨ x = 50 ∨ x = 52 ∨ x = 53 ∨ x = 62 ∨ x = 64 ∨ x = 66 ∨ x = 72 ∨ x = 84)) ∨ (162 ≤ cc ∧ cc ≤ 173) ∨ (177 ≤ cc ∧ cc ≤ 197) ∨ (200 ≤ cc ∧ cc ≤ 205) ∨ (213 ≤ cc ∧ cc ≤ 216)) → w cc x = m cc x) : MBq K V C W n F own a b T g w := by
  obtain ⟨m1, m2, ⟨m3, m4, m5⟩, m6, m7⟩ := M
  refine ⟨sgv_k m1 (fun cc x z => e1 cc x (by omega)) (fun cc x z => e2 cc x (by omega)), hdj_k m2 (fun cc x z => e1 cc x (by omega)) e15 (fun cc x z => e2 cc x (by omega)), ⟨plr_k m3 (fun cc x z => e1 cc x (by omega)) (fun cc x z => e2 cc x (by omega)), ?_, spl_k m5 (fun cc x z => e2 cc x (by omega))⟩, txe_k m6 (fun cc x z => e1 cc x (by omega)) (fun cc x z => e2 cc x (by omega)), sct_k m7 (fun cc x z => e1 cc x (by omega)) (fun cc x z => e2 cc x (by omega))⟩
  exact ⟨by rw [e2 160 62 (by omega)]; exact m4.1, by rw [e2 160 64 (by omega)]; exact m4.2⟩
/-- a constant of the pool -/
theorem mb_p {u w : Int × ms_M} (M : MBq K V C W n F own a b T h m) (X : PCo h m u w) (S : SPL w.2 []) : MBq K V C W n F own a b T u.2 w.2 := by
  obtain ⟨m1, m2, -, m6, m7⟩ := M
  have T6 := txe_p m6 X
  obtain ⟨x1, -, -, x4, x5, x6⟩ := X
  exact ⟨sgv_k m1 (fun cc x z => x4 cc x (by omega) (by omega) (by omega)) (fun cc x z => x5 cc x (by omega) (by omega)), hdj_k m2 (fun cc x z => x4 cc x (by omega) (by omega) (by omega)) (fun z => by rw [x4 34 15 (by omega) (by omega) (by omega)]; exact z) (fun cc x z => x5 cc x (by omega) (by omega)), ⟨x1, x6, S⟩, T6, sct_k m7 (fun cc x z => x4 cc x (by omega) (by omega) (by omega)) (fun cc x z => x5 cc x (by omega) (by omega))⟩
theorem jlb_k (J : JLb L m) (e1 : m 160 68 ≤ w 160 68) (e2 : m 160 88 ≤ w 160 88) : JLb L w := by
  obtain ⟨j1, j2, j3, j4⟩ := J
  exact ⟨j1, fun i hi => by have := j2 i hi; omega, j3, by omega⟩
theorem frc_k (H : FRc h) (e : ∀ cc x : Nat, (cc = 34 ∧ x = 14) ∨ cc = 40 ∨ cc = 42 → g cc x = h cc x) : FRc g := by
  obtain ⟨f1, f2, f3, f4⟩ := H
  have x14 := e 34 14 (by omega)
  refine ⟨⟨by rw [x14]; exact f1.1, by rw [x14]; exact f1.2.1, fun s hs => by rw [x14] at hs; rw [e 40 s (by omega)]; exact f1.2.2 s hs⟩, fun i hi => by rw [x14] at hi; rw [x14, e 42 i (by omega)]; exact f2 i hi, fun i j ij hj => ?_, fun s hs => ?_⟩
  · rw [x14] at hj
    rw [e 42 i (by omega), e 42 j (by omega), e 40 _ (by omega), e 40 _ (by omega)]
    exact f3 i j ij hj
  · rw [x14] at hs
    obtain ⟨i, i1, i2⟩ := f4 s hs
    exact ⟨i, by rw [x14]; exact i1, by rw [e 42 i (by omega)]; exact i2⟩
theorem frr_k (H : FRr m) (e : ∀ cc x : Nat, (cc = 160 ∧ x = 78) ∨ cc = 208 → w cc x = m cc x) : FRr w := by
  have x78 := e 160 78 (by omega)
  refine ⟨by rw [x78]; exact H.1, fun i j hi hj z => ?_⟩
  rw [x78] at hi hj
  rw [e 208 i (by omega), e 208 j (by omega)] at z
  exact H.2 i j hi hj z
theorem frj_k (J : FRJ n WL h m) (e1 : ∀ cc x : Nat, (cc = 34 ∧ (x = 14 ∨ x = 15)) ∨ cc = 40 ∨ cc = 41 ∨ cc = 38 → g cc x = h cc x) (e2 : ∀ cc x : Nat, (cc = 160 ∧ (x = 78 ∨ x = 79 ∨ x = 84)) ∨ (208 ≤ cc ∧ cc ≤ 212) → w cc x = m cc x) : FRJ n WL g w := by
  have x14 := e1 34 14 (by omega)
  have x78 := e2 160 78 (by omega)
  rcases J with ⟨j0, A1, A2, A3⟩ | ⟨j1, JO⟩
  · refine .inl ⟨by rw [e1 34 15 (by omega)]; exact j0, fun k hk => ?_, fun f hf => ?_, fun p k x => ?_⟩
    · rw [x14] at hk
      rw [e1 40 k (by omega), x78]
      rcases A1 k hk with ⟨k', y1, y2⟩ | ⟨y1, f, f1, f2, f3⟩
      · exact .inl ⟨k', y1, ctc_k y2 (fun x _ _ => e1 41 x (by omega)) (fun x => e1 38 x (by omega))⟩
      · exact .inr ⟨y1, f, f1, by rw [e2 208 f (by omega)]; exact f2, ctj_k f3 (fun x _ _ => e1 41 x (by omega)) ⟨e2 209 f (by omega), e2 210 f (by omega), e2 211 f (by omega)⟩ (by rw [e2 160 79 (by omega)]; exact Int.le_refl _) (fun x _ => e2 212 x (by omega))⟩
    · rw [x78] at hf
      obtain ⟨k, k1, k2⟩ := A2 f hf
      exact ⟨k, by rw [x14]; exact k1, by rw [e1 40 k (by omega), e2 208 f (by omega)]; exact k2⟩
    · obtain ⟨k, k1, k2⟩ := A3 p k x
      exact ⟨k, by rw [x14]; exact k1, by rw [e1 40 k (by omega)]; exact k2⟩
  · refine .inr ⟨by rw [e1 34 15 (by omega)]; exact j1, ?_⟩
    rw [e2 160 84 (by omega)]
    refine JO.elim .inl (fun x => .inr ?_)
    obtain ⟨Q, q1, q2⟩ := x
    refine ⟨Q, q1, fun i hi => (q2 i hi).elim (fun ⟨f, f1, f2⟩ => .inl ⟨f, by rw [x78]; exact f1, by rw [e2 208 f (by omega)]; exact f2⟩) .inr⟩
theorem frk_k (A : FRK n WL L h m) (e1 : ∀ cc x : Nat, (cc = 34 ∧ (x = 14 ∨ x = 15)) ∨ (40 ≤ cc ∧ cc ≤ 42) ∨ cc = 38 → g cc x = h cc x) (o : h 34 1 ≤ g 34 1 ∧ h 34 8 ≤ g 34 8 ∧ h 34 4 ≤ g 34 4) (e2 : ∀ cc x : Nat, (cc = 160 ∧ (x = 78 ∨ x = 79 ∨ x = 84)) ∨ (208 ≤ cc ∧ cc ≤ 212) → w cc x = m cc x) (l2 : m 160 68 ≤ w 160 68) (q1 : 51 * (L2.length : Int) + 17 * m 160 68 ≤ 51 * (L.length : Int) + 17 * w 160 68) (q2 : (L2.length : Int) + m 160 68 ≤ (L.length : Int) + w 160 68) : FRK n WL L2 g w := by
  obtain ⟨⟨a1, a2, a3⟩, ⟨b1, b2⟩, d⟩ := A
  have x78 := e2 160 78 (by omega)
  have x79 := e2 160 79 (by omega)
  have x84 := e2 160 84 (by omega)
  refine ⟨⟨frc_k a1 (fun cc x z => e1 cc x (by omega)), frr_k a2 (fun cc x z => e2 cc x (by omega)), by rw [x79]; exact a3⟩, ⟨by omega, fun p k z => by have := b2 p k z; omega⟩, fun z => ?_⟩
  obtain ⟨z1, z2, z3⟩ := z
  obtain ⟨d1, d2⟩ := d ⟨by omega, by omega, by omega⟩
  exact ⟨by omega, frj_k d2 (fun cc x z => e1 cc x (by omega)) (fun cc x z => e2 cc x (by omega))⟩
/-- a FRAME on both sides at the place where the CODE has come to -/
theorem frk_both {p s l n' : Int} {fi : Nat} (Fc : FRc h) (Fr : FRr m) (b79 : 0 ≤ m 160 79 ∧ m 160 79 ≤ 60000) (q1 : (L2.length : Int) + 1 + m 160 78 ≤ m 160 68 + m 160 84 ∧ m 160 84 ≤ 1000) (q2 : OKM h → m 160 79 + 51 * (L2.length : Int) + 51 ≤ 17 * (m 160 68 + 3 * m 160 84)) (WLb : ∀ p n, WL p n → p < m 160 68) (JF : OKM h → FRJ n WL h m) (HD : 20 < m 160 84 → h 34 15 = 1) (S : SLc p h s g) (A : FLc s l n' g u) (Gs : FRc g) (B : RFw F p fi m w) (Fw : FRr w) (ep : p = m 160 68) (e68 : h 34 1 = m 160 68) (l0 : 0 ≤ l ∧ l ≤ h 34 8) (n0 : 0 ≤ n' ∧ n' ≤ h 34 4) (el : l = m 160 50 + (F : Int)) (en : n' = m 160 70) (b50 : 0 ≤ m 160 50) (F1 : F ≤ 1) (O : F = 0 ∨ (F = 1 ∧ TJ n (8 + 2 * m 160 52) (h 38 0))) (T1 : ∀ i : Nat, (i : Int) < m 160 50 → TJ n (m 197 i) (h 38 (i + F))) (T2 : ∀ i : Nat, (i : Int) < m 160 70 → i < 20 → TJ n (m 207 i) (h 36 i)) : FRK n WL L2 u w ∧ (∀ cc x : Nat, ¬ (40 ≤ cc ∧ cc ≤ 42) → ¬ (cc = 34 ∧ (x = 14 ∨ x = 15)) → u cc x = h cc x) ∧ (h 34 15 = 1 → u 34 15 = 1) := by
  obtain ⟨G, -⟩ := sl_sk Fc S
  have UF : ∀ cc x : Nat, ¬ (40 ≤ cc ∧ cc ≤ 42) → ¬ (cc = 34 ∧ (x = 14 ∨ x = 15)) → u cc x = h cc x := fun cc x z1 z2 => by
    rcases A with ⟨-, -, a3⟩ | ⟨-, -, a3⟩
    · rw [a3 cc x (by omega)]; exact G cc x (by omega) (by omega) (by omega)
    · rw [a3 cc x (by omega)]; exact G cc x (by omega) (by omega) (by omega)
  have U15 : h 34 15 = 1 → u 34 15 = 1 := fun z => by
    rcases A with ⟨-, a2, -⟩ | ⟨-, -, a3⟩
    · exact a2
    · rw [a3 34 15 (by omega), G 34 15 (by omega) (by omega) (by omega)]; exact z
  have FU : FRc u := by
    rcases A with ⟨-, -, a3⟩ | ⟨-, -, a3⟩
    · exact frc_k Gs (fun cc x z => a3 cc x (by omega))
    · exact frc_k Gs (fun cc x z => a3 cc x (by omega))
  have B0 := B
  obtain ⟨AL, -, WO, -, WF⟩ := B0
  have w68 : w 160 68 = m 160 68 := WF 160 68 (by omega) (by omega) (by omega)
  have w84 : w 160 84 = m 160 84 := WF 160 84 (by omega) (by omega) (by omega)
  have w78 : w 160 78 ≤ m 160 78 + 1 := by
    rcases AL with ⟨-, -, z⟩ | ⟨-, -, z⟩ <;> omega
  have w79 : 0 ≤ w 160 79 ∧ w 160 79 ≤ 60000 ∧ w 160 79 ≤ m 160 79 + l + n' := by
    rcases WO with ⟨z1, z2, -⟩ | ⟨z1, z2⟩ <;> omega
  refine ⟨⟨⟨FU, Fw, by omega⟩, ⟨by omega, fun p k z => by have := WLb p k z; omega⟩, fun z => ?_⟩, UF, U15⟩
  obtain ⟨z1, z2, z3⟩ := z
  rw [UF 34 1 (by omega) (by omega)] at z1
  rw [UF 34 8 (by omega) (by omega)] at z2
  rw [UF 34 4 (by omega) (by omega)] at z3
  have OK : OKM h := ⟨z1, z2, z3⟩
  have Q2 := q2 OK
  refine ⟨by omega, ?_⟩
  exact fj_both (JF OK) HD Fc Fr S A B (fun k z => by have := WLb p k z; omega) (by omega) (by omega) el en b50 ⟨b79.1, fun z => by omega⟩ O T1 (fun i hi => T2 i hi (by omega))
end
end
section
/- CODE of both sides: each step keeps it -/
section
variable {nn : Nat} {K V : Nat → Int} {C : Nat → Nat} {W : Nat → List Int} {n F : Nat} {own : Int} {a b T h g u m w : ms_M} {PB : Nat → Prop} {WL : Int → Int → Prop} {L L2 : List (Int × Int)}
theorem ma_c (M : MA K V C W n F own a b T PB WL L h m) (e1 : ∀ cc x : Nat, RLc cc x → g cc x = h cc x) (o4 : h 34 4 ≤ g 34 4) : MA K V C W n F own a b T PB WL L g m := by
  obtain ⟨c, ⟨j, jb⟩, f, mb⟩ := M
  refine ⟨cby_k c (fun cc x z => e1 cc x (by unfold RLc; omega)) (fun _ _ _ => rfl), ⟨j, jb⟩, frk_k f (fun cc x z => e1 cc x (by unfold RLc; omega)) ⟨by rw [e1 34 1 (by unfold RLc; omega)]; exact Int.le_refl _, by rw [e1 34 8 (by unfold RLc; omega)]; exact Int.le_refl _, o4⟩ (fun _ _ _ => rfl) (Int.le_refl _) (Int.le_refl _) (Int.le_refl _), mb_k mb (fun cc x z => e1 cc x (by unfold RLc; omega)) (fun z => by rw [e1 34 15 (by unfold RLc; omega)]; exact z) (fun _ _ _ => rfl)⟩
theorem ma_r (M : MA K V C W n F own a b T PB WL L h m) (e2 : ∀ cc x : Nat, RLm cc x → w cc x = m cc x) : MA K V C W n F own a b T PB WL L h w := by
  obtain ⟨c, ⟨j, jb⟩, f, mb⟩ := M
  have x68 := e2 160 68 (by unfold RLm; omega)
  refine ⟨cby_k c (fun _ _ _ => rfl) (fun cc x z => e2 cc x (by unfold RLm; omega)), ⟨jl_k j (fun cc x z => e2 cc x (by unfold RLm; omega)), jlb_k jb (by omega) (by rw [e2 160 88 (by unfold RLm; omega)]; exact Int.le_refl _)⟩, frk_k f (fun _ _ _ => rfl) ⟨Int.le_refl _, Int.le_refl _, Int.le_refl _⟩ (fun cc x z => e2 cc x (by unfold RLm; omega)) (by omega) (by omega) (by omega), mb_k mb (fun _ _ _ => rfl) id (fun cc x z => e2 cc x (by unfold RLm; omega))⟩
theorem ma_op {v v2 : Int} (M : MA K V C W n F own a b T PB WL L h m) (A : COp v h g) (B : RPt v2 m w) (e : ¬ h 45 5 = 1 → v2 = v) (hv : in_R v) : MA K V C W n F own a b T PB WL L g w := by
  obtain ⟨c, ⟨j, jb⟩, f, mb⟩ := M
  have CB := cb_op c A B e (fun _ => hv)
  obtain ⟨a1, a2, a3⟩ := A
  obtain ⟨b1, b2, b3⟩ := B
  refine ⟨CB, ⟨jl_k j (fun cc x z => b3 cc x (by omega) (by omega)), jlb_k jb (by omega) (by rw [b3 160 88 (by omega) (by omega)]; exact Int.le_refl _)⟩, frk_k f (fun cc x z => a3 cc x (by omega) (by omega)) ⟨by omega, by rw [a3 34 8 (by omega) (by omega)]; exact Int.le_refl _, by rw [a3 34 4 (by omega) (by omega)]; exact Int.le_refl _⟩ (fun cc x z => b3 cc x (by omega) (by omega)) (by omega) (by omega) (by omega), mb_k mb (fun cc x z => a3 cc x (by omega) (by omega)) (fun z => by rw [a3 34 15 (by omega) (by omega)]; exact z) (fun cc x z => b3 cc x (by omega) (by omega))⟩
theorem ma_jump {o n' l : Int} (M : MA K V C W n F own a b T PB WL L h m) (A : CJu o n' h g) (B : RJu o l m w) (hv : in_R o) (hl : l ≤ m 160 88) : MA K V C W n F own a b T PB WL (L ++ [(m 160 68, l)]) g w := by
  obtain ⟨c, ⟨j, jb⟩, f, mb⟩ := M
  have CB := cb_jump c A B hv
  have JL := jl_jump j B
  obtain ⟨a1, -, -, a5⟩ := A
  obtain ⟨⟨b0, b00⟩, b1, -, -, -, -, b5⟩ := B
  have lk : (L ++ [(m 160 68, l)]).length = L.length + 1 := by rw [List.length_append]; rfl
  have w88 := b5 160 88 (by omega) (by omega) (by omega)
  obtain ⟨j1, j2, j3, j4⟩ := jb
  have c1 := c.1
  have jl := j.1
  refine ⟨CB, ⟨JL, by rw [lk]; omega, fun i hi => ?_, fun i k ik hk => ?_, by omega⟩, frk_k f (fun cc x z => a5 cc x (by omega) (by omega)) ⟨by omega, by rw [a5 34 8 (by omega) (by omega)]; exact Int.le_refl _, by rw [a5 34 4 (by omega) (by omega)]; exact Int.le_refl _⟩ (fun cc x z => b5 cc x (by omega) (by omega) (by omega)) (by omega) (by rw [lk]; omega) (by rw [lk]; omega), mb_k mb (fun cc x z => a5 cc x (by omega) (by omega)) (fun z => by rw [a5 34 15 (by omega) (by omega)]; exact z) (fun cc x z => b5 cc x (by omega) (by omega) (by omega))⟩
  · rw [lk] at hi
    by_cases q : i = L.length
    · rw [q, gp_e]; dsimp only; omega
    · rw [gp_l L i (by omega)]; have := j2 i (by omega); omega
  · rw [lk] at hk
    rw [gp_l L i (by omega)]
    by_cases q : k = L.length
    · rw [q, gp_e]; dsimp only; have := j2 i (by omega); omega
    · rw [gp_l L k (by omega)]; exact j3 i k ik (by omega)
/-- the reference takes a new label -/
theorem ma_lab (M : MA K V C W n F own a b T PB WL L h m) (e : w = up_M m 160 88 (m 160 88 + 1)) : MA K V C W n F own a b T PB WL L h w := by
  obtain ⟨c, ⟨j, jb⟩, f, mb⟩ := M
  have E : ∀ cc x : Nat, ¬ (cc = 160 ∧ x = 88) → w cc x = m cc x := fun cc x z => by rw [e, up_n z]
  have x68 := E 160 68 (by omega)
  have x88 : w 160 88 = m 160 88 + 1 := by rw [e, up_s]
  exact ⟨cby_k c (fun _ _ _ => rfl) (fun cc x z => E cc x (by omega)), ⟨jl_k j (fun cc x z => E cc x (by omega)), jlb_k jb (by omega) (by omega)⟩, frk_k f (fun _ _ _ => rfl) ⟨Int.le_refl _, Int.le_refl _, Int.le_refl _⟩ (fun cc x z => E cc x (by omega)) (by omega) (by omega) (by omega), mb_k mb (fun _ _ _ => rfl) id (fun cc x z => E cc x (by omega))⟩
/-- a byte and the index of a constant -/
theorem ma_opc {v : Int} {u w : Int × ms_M} {m1 w3 h2 h3 : ms_M} (M : MA K V C W n F own a b T PB WL L h m) (B1 : RPt v m m1) (X : PCo h m1 u w) (S : SPL w.2 []) (A1 : COp v u.2 h2) (A2 : COp u.1 h2 h3) (B2 : RPt w.1 w.2 w3) (hv : in_R v) : MA K V C W n F own a b T PB WL L h3 w3 := by
  obtain ⟨c, ⟨j, jb⟩, f, mb⟩ := M
  have x1 := X.1
  have x2 := X.2.1
  have x3 := X.2.2.1
  have x4 := X.2.2.2.1
  have x5 := X.2.2.2.2.1
  have p5 : u.2 45 5 = 0 ∨ u.2 45 5 = 1 := x1.elim (fun z => .inl z.1) (fun z => .inr z.1)
  have C1 : CBY PB u.2 m := cby_p c (fun cc x z => x4 cc x (by omega) (by omega) (by omega)) x3 (fun _ _ _ => rfl)
  have C2 : CBY PB h2 m1 := cb_op C1 A1 B1 (fun _ => rfl) (fun _ => hv)
  have C3 : CBY PB h2 w.2 := cby_k C2 (fun _ _ _ => rfl) (fun cc x z => x5 cc x (by omega) (by omega))
  have C4 : CBY PB h3 w3 := cb_op C3 A2 B2 (fun z => (x2 (by rw [A1.2.2 45 5 (by omega) (by omega)] at z; omega)).1.symm) (fun z => by
    have y := x2 (by rw [A1.2.2 45 5 (by omega) (by omega)] at z; omega)
    unfold in_R; omega)
  have M1 : MBq K V C W n F own a b T h m1 := mb_k mb (fun _ _ _ => rfl) id (fun cc x z => B1.2.2 cc x (by omega) (by omega))
  have M2 := mb_p M1 X S
  obtain ⟨a1, -, a3⟩ := A1
  obtain ⟨d1, -, d3⟩ := A2
  obtain ⟨b1, -, b3⟩ := B1
  obtain ⟨f1, -, f3⟩ := B2
  have HC : ∀ cc x : Nat, ¬ (cc = 34 ∧ x = 1) → ¬ cc = 35 → h3 cc x = u.2 cc x := fun cc x z1 z2 => by rw [d3 cc x (by omega) (by omega), a3 cc x (by omega) (by omega)]
  have HM : ∀ cc x : Nat, ¬ (cc = 160 ∧ x = 68) → ¬ cc = 206 → w3 cc x = w.2 cc x := fun cc x z1 z2 => by rw [f3 cc x (by omega) (by omega)]
  have HC2 : ∀ cc x : Nat, ¬ (cc = 34 ∧ x = 1) → ¬ cc = 35 → ¬ (45 ≤ cc ∧ cc ≤ 47) → h3 cc x = h cc x := fun cc x z1 z2 z3 => by rw [HC cc x z1 z2]; exact x4 cc x (by omega) (by omega) (by omega)
  have HM2 : ∀ cc x : Nat, ¬ (cc = 160 ∧ (x = 68 ∨ x = 62 ∨ x = 64 ∨ x = 66)) → ¬ (200 ≤ cc ∧ cc ≤ 206) → w3 cc x = m cc x := fun cc x z1 z2 => by rw [HM cc x (by omega) (by omega), x5 cc x (by omega) (by omega)]; exact b3 cc x (by omega) (by omega)
  have l3 : w3 160 68 = m 160 68 + 2 := by rw [f1, x5 160 68 (by omega) (by omega), b1]; omega
  have l4 : h3 34 1 = h 34 1 + 2 := by rw [d1, a1, x4 34 1 (by omega) (by omega) (by omega)]; omega
  exact ⟨C4, ⟨jl_k j (fun cc x z => HM2 cc x (by omega) (by omega)), jlb_k jb (by omega) (by rw [HM2 160 88 (by omega) (by omega)]; exact Int.le_refl _)⟩, frk_k f (fun cc x z => HC2 cc x (by omega) (by omega) (by omega)) ⟨by omega, by rw [HC2 34 8 (by omega) (by omega) (by omega)]; exact Int.le_refl _, by rw [HC2 34 4 (by omega) (by omega) (by omega)]; exact Int.le_refl _⟩ (fun cc x z => HM2 cc x (by omega) (by omega)) (by omega) (by omega) (by omega), mb_k M2 (fun cc x z => HC cc x (by omega) (by omega)) (fun z => by rw [HC 34 15 (by omega) (by omega)]; exact z) (fun cc x z => HM cc x (by omega) (by omega))⟩
/-- with the stack -/
theorem mk_op {v v2 : Int} (M : MK K V C W n F own a b T PB WL L h m) (A : COp v h g) (B : RPt v2 m w) (e : ¬ h 45 5 = 1 → v2 = v) (hv : in_R v) : MK K V C W n F own a b T PB WL L g w := ⟨ma_op M.1 A B e hv, skj_k M.2 (fun cc x z => A.2.2 cc x (by omega) (by omega)) (fun cc x z => B.2.2 cc x (by omega) (by omega))⟩
theorem mk_opc {v : Int} {u w : Int × ms_M} {m1 w3 h2 h3 : ms_M} (M : MK K V C W n F own a b T PB WL L h m) (B1 : RPt v m m1) (X : PCo h m1 u w) (S : SPL w.2 []) (A1 : COp v u.2 h2) (A2 : COp u.1 h2 h3) (B2 : RPt w.1 w.2 w3) (hv : in_R v) : MK K V C W n F own a b T PB WL L h3 w3 := ⟨ma_opc M.1 B1 X S A1 A2 B2 hv, skj_k M.2 (fun cc x z => by rw [A2.2.2 cc x (by omega) (by omega), A1.2.2 cc x (by omega) (by omega)]; exact X.2.2.2.1 cc x (by omega) (by omega) (by omega)) (fun cc x z => by rw [B2.2.2 cc x (by omega) (by omega), X.2.2.2.2.1 cc x (by omega) (by omega)]; exact B1.2.2 cc x (by omega) (by omega))⟩
theorem ma_push {t t2 : Int} (M : MA K V C W n F own a b T PB WL L h m) (A : CPu t h g) (B : RPs t2 m w) : MA K V C W n F own a b T PB WL L g w := by
  obtain ⟨-, a2, -, a4⟩ := A
  obtain ⟨-, -, -, -, b4⟩ := B
  exact ma_r (ma_c M (fun cc x z => a4 cc x (by unfold RLc at z; omega) (by unfold RLc at z; omega)) (by rw [a2]; split <;> omega)) (fun cc x z => b4 cc x (by unfold RLm at z; omega) (by unfold RLm at z; omega))
theorem mk_push {t t2 : Int} (M : MK K V C W n F own a b T PB WL L h m) (A : CPu t h g) (B : RPs t2 m w) (e : TJ n t2 t) : MK K V C W n F own a b T PB WL L g w := ⟨ma_push M.1 A B, sk_push M.2 A B e⟩
theorem mk_pop {k : Int} (M : MK K V C W n F own a b T PB WL L h m) (A : CPo k h g) (hn : 0 ≤ k ∧ k ≤ h 34 3) (e : w = up_M m 160 70 (m 160 70 - k)) : MK K V C W n F own a b T PB WL L g w := by
  have E : ∀ cc x : Nat, ¬ (cc = 160 ∧ x = 70) → w cc x = m cc x := fun cc x z => by rw [e, up_n z]
  refine ⟨ma_r (ma_c M.1 (fun cc x z => A.2 cc x (by unfold RLc at z; omega)) (by rw [A.2 34 4 (by omega)]; exact Int.le_refl _)) (fun cc x z => E cc x (by unfold RLm at z; omega)), sk_pop M.2 A hn (by rw [e, up_s]) (fun cc x z => E cc x (by omega))⟩
/-- a jump that pops k -/
theorem mk_jump {o k l : Int} {m1 : ms_M} (M : MK K V C W n F own a b T PB WL L h m) (A : CJu o k h g) (hn : 0 ≤ k ∧ k ≤ h 34 3) (e : m1 = up_M m 160 70 (m 160 70 - k)) (B : RJu o l m1 w) (hv : in_R o) (hl : l ≤ m 160 88) : MK K V C W n F own a b T PB WL (L ++ [(m 160 68, l)]) g w := by
  have E : ∀ cc x : Nat, ¬ (cc = 160 ∧ x = 70) → m1 cc x = m cc x := fun cc x z => by rw [e, up_n z]
  have M1 := ma_r M.1 (fun cc x z => E cc x (by unfold RLm at z; omega))
  have R := ma_jump M1 A B hv (by rw [E 160 88 (by omega)]; exact hl)
  rw [E 160 68 (by omega)] at R
  have b5 := B.2.2.2.2.2.2
  exact ⟨R, sk_jump M.2 A hn (by rw [b5 160 70 (by omega) (by omega) (by omega), e, up_s]) (fun cc x z => by rw [b5 cc x (by omega) (by omega) (by omega)]; exact E cc x (by omega))⟩
theorem mk_c (M : MK K V C W n F own a b T PB WL L h m) (e1 : ∀ cc x : Nat, (RLc cc x ∨ (cc = 34 ∧ (x = 3 ∨ x = 4)) ∨ cc = 36) → g cc x = h cc x) : MK K V C W n F own a b T PB WL L g m := ⟨ma_c M.1 (fun cc x z => e1 cc x (.inl z)) (by rw [e1 34 4 (.inr (by omega))]; exact Int.le_refl _), skj_k M.2 (fun cc x z => e1 cc x (.inr (by omega))) (fun _ _ _ => rfl)⟩
theorem mk_r (M : MK K V C W n F own a b T PB WL L h m) (e2 : ∀ cc x : Nat, (RLm cc x ∨ (cc = 160 ∧ (x = 70 ∨ x = 71)) ∨ cc = 207) → w cc x = m cc x) : MK K V C W n F own a b T PB WL L h w := ⟨ma_r M.1 (fun cc x z => e2 cc x (.inl z)), skj_k M.2 (fun _ _ _ => rfl) (fun cc x z => e2 cc x (.inr (by omega)))⟩
theorem mk_lab (M : MK K V C W n F own a b T PB WL L h m) (e : w = up_M m 160 88 (m 160 88 + 1)) : MK K V C W n F own a b T PB WL L h w := ⟨ma_lab M.1 e, skj_k M.2 (fun _ _ _ => rfl) (fun cc x z => by rw [e, up_n (by omega)])⟩
end
end
section
/- the aim of a jump, and the FRAME there, on both sides -/
/-- a jump of the class gets the place where the CODE has come to -/
def CAH (j : Int) (h u : ms_M) : Prop := ∃ (g1 : ms_M) (s : Int) (g2 : ms_M), CAm j (h 34 1) h g1 ∧ SLc (h 34 1) g1 s g2 ∧ FLc s (h 34 7) (h 34 3) g2 u
/-- what the making of an E leaves as it is -/
def MFe (m w : ms_M) : Prop := (∀ cc x : Nat, ¬ (cc = 160 ∧ (x = 57 ∨ x = 62 ∨ x = 64 ∨ x = 66 ∨ x = 68 ∨ x = 70 ∨ x = 71 ∨ x = 78 ∨ x = 79 ∨ x = 87 ∨ x = 88)) → ¬ (199 ≤ cc ∧ cc ≤ 212) → ¬ (cc = 217 ∨ cc = 218) → w cc x = m cc x) ∧ m 160 88 ≤ w 160 88
section
variable {nn : Nat} {K V : Nat → Int} {C : Nat → Nat} {W : Nat → List Int} {n F : Nat} {own : Int} {a b T h g u m w v : ms_M} {PB : Nat → Prop} {WL : Int → Int → Prop} {L L2 : List (Int × Int)}
theorem mfe_r : MFe m m := ⟨fun _ _ _ _ _ => rfl, Int.le_refl _⟩
theorem mfe_t (A : MFe m w) (B : MFe w v) : MFe m v := ⟨fun cc x z1 z2 z3 => (B.1 cc x z1 z2 z3).trans (A.1 cc x z1 z2 z3), Int.le_trans A.2 B.2⟩
theorem gd_at {e d : Int × Int} (B : List (Int × Int)) : ∀ A : List (Int × Int), (A ++ e :: B).getD A.length d = e := by
  intro A
  induction A with
  | nil => rfl
  | cons x A ih =>
    show (A ++ e :: B).getD A.length d = e
    exact ih
theorem gd_rm {e d : Int × Int} (B : List (Int × Int)) : ∀ (A : List (Int × Int)) (i : Nat), (A ++ B).getD i d = (A ++ e :: B).getD (if i < A.length then i else i + 1) d := by
  intro A
  induction A with
  | nil =>
    intro i
    rw [if_neg (show ¬ i < ([] : List (Int × Int)).length from Nat.not_lt_zero i)]
    all_goals rfl
  | cons x A ih =>
    intro i
    cases i with
    | zero =>
      rw [if_pos (show 0 < (x :: A).length from Nat.succ_pos _)]
      all_goals rfl
    | succ i =>
      have q := ih i
      by_cases z : i < A.length
      · rw [if_pos z] at q
        rw [if_pos (show i + 1 < (x :: A).length from Nat.succ_lt_succ z)]
        show (A ++ B).getD i d = (A ++ e :: B).getD i d
        exact q
      · rw [if_neg z] at q
        rw [if_neg (show ¬ i + 1 < (x :: A).length from fun y => z (Nat.lt_of_succ_lt_succ y))]
        show (A ++ B).getD i d = (A ++ e :: B).getD (i + 1) d
        exact q
theorem jlb_rm {A B : List (Int × Int)} {e : Int × Int} (J : JLb (A ++ e :: B) m) (e1 : m 160 68 ≤ w 160 68) (e2 : m 160 88 ≤ w 160 88) : JLb (A ++ B) w := by
  obtain ⟨j1, j2, j3, j4⟩ := J
  have l1 : (A ++ e :: B).length = A.length + (B.length + 1) := by rw [List.length_append]; rfl
  have l2 : (A ++ B).length = A.length + B.length := List.length_append
  rw [l1] at j1 j2 j3
  refine ⟨by rw [l2]; omega, fun i hi => ?_, fun i k ik hk => ?_, by omega⟩
  · rw [l2] at hi
    rw [gd_rm (e := e) B A i]
    have := j2 (if i < A.length then i else i + 1) (by split <;> omega)
    omega
  · rw [l2] at hk
    rw [gd_rm (e := e) B A i, gd_rm (e := e) B A k]
    refine j3 _ _ ?_ ?_
    · split <;> split <;> omega
    · split <;> omega
theorem cah_fr {j : Int} (Fc : FRc h) (X : CAH j h u) : FRc u ∧ (∀ cc x : Nat, ¬ cc = 35 → ¬ (40 ≤ cc ∧ cc ≤ 42) → ¬ (cc = 34 ∧ (x = 14 ∨ x = 15)) → u cc x = h cc x) := by
  obtain ⟨g1, s, g2, CA, SL, FL⟩ := X
  have e := CA.2
  have F1 : FRc g1 := frc_k Fc (fun cc x z => e cc x (fun y => absurd y (by omega)))
  obtain ⟨G, -⟩ := sl_sk F1 SL
  have F2 : FRc g2 := SL.1
  rcases FL with ⟨-, -, a3⟩ | ⟨-, -, a3⟩
  · exact ⟨frc_k F2 (fun cc x z => a3 cc x (by omega)), fun cc x z1 z2 z3 => by rw [a3 cc x (by omega), G cc x (by omega) (by omega) (by omega)]; exact e cc x (fun y => absurd y z1)⟩
  · exact ⟨frc_k F2 (fun cc x z => a3 cc x (by omega)), fun cc x z1 z2 z3 => by rw [a3 cc x (by omega), G cc x (by omega) (by omega) (by omega)]; exact e cc x (fun y => absurd y z1)⟩
theorem c_aimHere {j : Int} (hj : -1 ≤ j ∧ j ≤ 1000000) (hl : 0 ≤ h 34 1 ∧ h 34 1 ≤ 1000000) (h7 : 0 ≤ h 34 7) (h3 : 0 ≤ h 34 3) (Fc : FRc h) : Pc (qf_X1_aimHere nn j h) (fun u => CAH j h u) := by
  unfold qf_X1_aimHere
  refine pc_sv (c_aim hj hl) ?_; intro u3 q3
  have e := q3.2
  have x1 : u3 34 1 = h 34 1 := e 34 1 (fun z => absurd z (by omega))
  rw [x1]
  have F3 : FRc u3 := frc_k Fc (fun cc x z => e cc x (fun y => absurd y (by omega)))
  refine pc_sv (c_slot hl.1 F3) ?_; intro u6 q6
  obtain ⟨G, SK⟩ := sl_sk F3 q6
  have f14 := q6.1.1
  rw [G 34 7 (by omega) (by omega) (by omega), G 34 3 (by omega) (by omega) (by omega), e 34 7 (fun z => absurd z (by omega)), e 34 3 (fun z => absurd z (by omega))]
  have hs : -1 ≤ u6.1 ∧ u6.1 < 100 := by
    rcases SK with ⟨z, -⟩ | ⟨k, z1, z2, -⟩
    · omega
    · omega
  refine pc_sv (c_fill hs h7 h3) ?_; intro u10 q10
  exact pc_ret ⟨u3, u6.1, u6.2, q3, q6, q10⟩
/-- the bytes of one aim -/
theorem cb_aim {j x : Int} {B : Nat → Int} (C : CBY PB h m) (A : CAm j x h g) (ex : x = h 34 1) (hj : 0 ≤ j ∧ j + 3 ≤ m 160 68) (e68 : w 160 68 = m 160 68) (eB : ∀ y : Nat, w 206 y = (if j + 2 < 12000 then b2_L x j (m 206) else m 206) y) : CBY PB g w := by
  obtain ⟨⟨c1, c2⟩, c3⟩ := C
  obtain ⟨a1, a2⟩ := A
  have g1 : g 34 1 = h 34 1 := a2 34 1 (fun z => absurd z (by omega))
  have g5 : g 45 5 = h 45 5 := a2 45 5 (fun z => absurd z (by omega))
  refine ⟨by omega, fun o l y hy p => ?_⟩
  rw [g5] at o
  obtain ⟨d1, d2⟩ := a1 hj.1 (by omega)
  rw [eB y, if_pos (show j + 2 < 12000 by omega)]
  unfold b2_L
  by_cases q2 : y = (j + 2).toNat
  · rw [if_pos q2, show y = j.toNat + 2 by omega, d2]
    exact by_rel (by unfold in_R; omega)
  · rw [if_neg q2]
    by_cases q1 : y = (j + 1).toNat
    · rw [if_pos q1, show y = j.toNat + 1 by omega, d1]
      exact by_rel (oq_shr_R _ _)
    · rw [if_neg q1, a2 35 y (fun _ => by omega)]
      exact c3 o (by omega) y (by omega) p
/-- one jump that waits for its label gets its aim -/
theorem mk_aim {j f x : Int} {A B : List (Int × Int)} (M : MK K V C W n F own a b T PB WL L h m) (eL : L = A ++ (j, f) :: B) (nA : ¬ hs_L f A) (nB : ¬ hs_L f B) (X : CAH j h u) (ex : x = m 160 68) (bl : h 34 1 ≤ 990000) (b3 : h 34 3 ≤ 3000) : Pc (qf_X13_stands nn f x m) (fun w => MK K V C W n F own a b T PB WL (A ++ B) u w ∧ MFe m w ∧ w 160 88 = m 160 88) := by
  obtain ⟨⟨c, ⟨J, JB⟩, FK, MB⟩, SK⟩ := M
  rw [eL] at J JB FK
  have l1 : (A ++ (j, f) :: B).length = A.length + (B.length + 1) := by rw [List.length_append]; rfl
  have l2 : (A ++ B).length = A.length + B.length := List.length_append
  have hh : hs_L f (A ++ (j, f) :: B) := (hs_app A _).mpr (.inr (.inl rfl))
  have hfl : fl_L f (A ++ (j, f) :: B) = A ++ B := by
    rw [fl_app, fl_no A nA]
    show A ++ (if f = f then fl_L f B else (j, f) :: fl_L f B) = A ++ B
    rw [if_pos rfl, fl_no B nB]
  have ham : am_L f x (A ++ (j, f) :: B) (m 206) = (if j + 2 < 12000 then b2_L x j (m 206) else m 206) := by
    rw [am_app, am_no A _ nA]
    show am_L f x B (if f = f ∧ j + 2 < 12000 then b2_L x j (m 206) else m 206) = _
    rw [am_no B _ nB]
    by_cases z : j + 2 < 12000
    · rw [if_pos ⟨rfl, z⟩, if_pos z]
    · rw [if_neg (fun y => z y.2), if_neg z]
  have hjx : 0 ≤ j ∧ j + 3 ≤ m 160 68 := by
    have q := JB.2.1 A.length (by rw [l1]; omega)
    rw [gd_at] at q
    exact ⟨q.1, q.2.1⟩
  have c1 := c.1
  obtain ⟨⟨k1, k2, k3⟩, ⟨k4, k5⟩, k6⟩ := FK
  rw [l1] at k4 k6
  have MB0 := MB
  obtain ⟨⟨⟨s1, s2, s3⟩, s4, s5⟩, HD, -, -, ⟨⟨t1, t2⟩, t3, t4, -, -⟩⟩ := MB0
  have SK0 := SK
  obtain ⟨⟨y1, y2, y3, y4⟩, y5⟩ := SK0
  have F1 : F ≤ 1 := by
    rcases s4 with z | ⟨z, -⟩ <;> omega
  have r78 := k2.1
  refine r_stands J (by omega) JB.1 (fun i hi => by have := JB.2.1 i hi; omega) (fun w1 JW BW WF => .inr ⟨hh, ?_⟩)
  rw [hfl] at JW
  rw [ham] at BW
  have X0 := X
  obtain ⟨g1, s, g2, CA, SL, FL⟩ := X
  have e := CA.2
  have G1 : ∀ cc y : Nat, ¬ cc = 35 → g1 cc y = h cc y := fun cc y z => e cc y (fun q => absurd q z)
  have W1 : ∀ cc y : Nat, ¬ (cc = 206 ∨ cc = 217 ∨ cc = 218) → ¬ (cc = 160 ∧ y = 87) → w1 cc y = m cc y := WF
  have Fc1 : FRc g1 := frc_k k1 (fun cc y z => G1 cc y (by omega))
  have Fr1 : FRr w1 := frr_k k2 (fun cc y z => W1 cc y (by omega) (by omega))
  refine pc_imp (r_frame (F := F) Fr1 (by rw [W1 160 53 (by omega) (by omega)]; exact t3) (by rw [W1 160 70 (by omega) (by omega)]; omega) (by rw [W1 160 50 (by omega) (by omega)]; omega) (by rw [W1 160 79 (by omega) (by omega)]; exact k3) (by rw [W1 160 52 (by omega) (by omega)]; omega) (by rw [W1 160 78 (by omega) (by omega)]; omega)) (fun w q => ?_)
  obtain ⟨Fw, fi, RF⟩ := q
  have C1 : CBY PB g1 w1 := cb_aim (B := m 206) c CA rfl hjx (W1 160 68 (by omega) (by omega)) (fun y => by rw [BW y, ex, c1.1])
  have RW := RF.2.2.2.2
  have FB := frk_both (WL := WL) (L2 := A ++ B) (F := F) (h := g1) (m := w1) Fc1 Fr1 (by rw [W1 160 79 (by omega) (by omega)]; exact k3) (by rw [l2, W1 160 78 (by omega) (by omega), W1 160 68 (by omega) (by omega), W1 160 84 (by omega) (by omega)]; omega) (fun z => by
    obtain ⟨z1, z2, z3⟩ := z
    rw [G1 34 1 (by omega)] at z1
    rw [G1 34 8 (by omega)] at z2
    rw [G1 34 4 (by omega)] at z3
    have q := (k6 ⟨z1, z2, z3⟩).1
    rw [l2, W1 160 79 (by omega) (by omega), W1 160 68 (by omega) (by omega), W1 160 84 (by omega) (by omega)]
    omega) (fun p k z => by rw [W1 160 68 (by omega) (by omega)]; exact k5 p k z) (fun z => by
    obtain ⟨z1, z2, z3⟩ := z
    rw [G1 34 1 (by omega)] at z1
    rw [G1 34 8 (by omega)] at z2
    rw [G1 34 4 (by omega)] at z3
    exact frj_k (k6 ⟨z1, z2, z3⟩).2 (fun cc y z => G1 cc y (by omega)) (fun cc y z => W1 cc y (by omega) (by omega))) (by rw [W1 160 84 (by omega) (by omega), G1 34 15 (by omega)]; exact fun z => (HD.2.2.1 z).2) SL FL SL.1 (by rw [ex, ← c1.1] at RF; exact RF) Fw (by rw [W1 160 68 (by omega) (by omega)]; exact c1.1) (by rw [G1 34 1 (by omega), W1 160 68 (by omega) (by omega)]; exact c1.1) (by rw [G1 34 8 (by omega)]; omega) (by rw [G1 34 4 (by omega)]; omega) (by rw [W1 160 50 (by omega) (by omega)]; exact s1) (by rw [W1 160 70 (by omega) (by omega)]; exact y1) (by rw [W1 160 50 (by omega) (by omega)]; exact s2) F1 (by
    rw [W1 160 52 (by omega) (by omega), G1 38 0 (by omega)]
    rcases s4 with z | ⟨z1, -, z2⟩
    · exact .inl z
    · exact .inr ⟨z1, ⟨by rw [z2]; exact t4.1, t2.2 0 (by omega)⟩⟩) (fun i hi => by
    rw [W1 160 50 (by omega) (by omega)] at hi
    rw [W1 197 i (by omega) (by omega), G1 38 _ (by omega)]
    exact ⟨(s5 i hi).2.2.2, t2.2 _ (by omega)⟩) (fun i hi i20 => by
    rw [W1 160 70 (by omega) (by omega)] at hi
    rw [W1 207 i (by omega) (by omega), G1 36 _ (by omega)]
    exact y5 i (by omega) i20)
  obtain ⟨FK2, UF, U15⟩ := FB
  have UH : ∀ cc y : Nat, ¬ cc = 35 → ¬ (40 ≤ cc ∧ cc ≤ 42) → ¬ (cc = 34 ∧ (y = 14 ∨ y = 15)) → u cc y = h cc y := fun cc y z1 z2 z3 => (UF cc y z2 z3).trans (G1 cc y z1)
  have WM : ∀ cc y : Nat, ¬ (cc = 206 ∨ cc = 217 ∨ cc = 218) → ¬ (208 ≤ cc ∧ cc ≤ 212) → ¬ (cc = 160 ∧ (y = 78 ∨ y = 79 ∨ y = 87)) → w cc y = m cc y := fun cc y z1 z2 z3 => (RW cc y (by omega) (by omega) (by omega)).trans (W1 cc y z1 (by omega))
  refine ⟨⟨⟨cby_k C1 (fun cc y z => UF cc y (by omega) (by omega)) (fun cc y z => RW cc y (by omega) (by omega) (by omega)), ⟨jl_k JW (fun cc y z => RW cc y (by omega) (by omega) (by omega)), jlb_rm JB (by rw [WM 160 68 (by omega) (by omega) (by omega)]; exact Int.le_refl _) (by rw [WM 160 88 (by omega) (by omega) (by omega)]; exact Int.le_refl _)⟩, FK2, mb_k MB (fun cc y z => UH cc y (by omega) (by omega) (by omega)) (fun z => U15 (by rw [G1 34 15 (by omega)]; exact z)) (fun cc y z => WM cc y (by omega) (by omega) (by omega))⟩, skj_k SK (fun cc y z => UH cc y (by omega) (by omega) (by omega)) (fun cc y z => WM cc y (by omega) (by omega) (by omega))⟩, ⟨fun cc y z1 z2 z3 => WM cc y (by omega) (by omega) (by omega), by rw [WM 160 88 (by omega) (by omega) (by omega)]; exact Int.le_refl _⟩, WM 160 88 (by omega) (by omega) (by omega)⟩
/-- nothing waits for that label -/
theorem mk_none {f x : Int} (M : MK K V C W n F own a b T PB WL L h m) (nL : ¬ hs_L f L) (hx : 0 ≤ x ∧ x ≤ 1000000) (bl : h 34 1 ≤ 1000000) : Pc (qf_X13_stands nn f x m) (fun w => MK K V C W n F own a b T PB WL L h w ∧ MFe m w ∧ w 160 88 = m 160 88) := by
  have M0 := M
  obtain ⟨⟨c, ⟨J, JB⟩, FK, MB⟩, SK⟩ := M
  have c1 := c.1
  refine r_stands J hx JB.1 (fun i hi => by have := JB.2.1 i hi; omega) (fun w1 JW BW WF => .inl ⟨nL, ?_⟩)
  rw [fl_no L nL] at JW
  rw [am_no L _ nL] at BW
  have E : ∀ cc y : Nat, ¬ (cc = 217 ∨ cc = 218) → ¬ (cc = 160 ∧ y = 87) → w1 cc y = m cc y := fun cc y z1 z2 => by
    by_cases q : cc = 206
    · rw [q]; exact BW y
    · exact WF cc y (by omega) z2
  have x68 := E 160 68 (by omega) (by omega)
  have x88 := E 160 88 (by omega) (by omega)
  refine ⟨⟨⟨cby_k c (fun _ _ _ => rfl) (fun cc y z => E cc y (by omega) (by omega)), ⟨JW, jlb_k JB (by omega) (by omega)⟩, frk_k FK (fun _ _ _ => rfl) ⟨Int.le_refl _, Int.le_refl _, Int.le_refl _⟩ (fun cc y z => E cc y (by omega) (by omega)) (by omega) (by omega) (by omega), mb_k MB (fun _ _ _ => rfl) id (fun cc y z => E cc y (by omega) (by omega))⟩, skj_k SK (fun _ _ _ => rfl) (fun cc y z => E cc y (by omega) (by omega))⟩, ⟨fun cc y z1 z2 z3 => E cc y (by omega) (by omega), by omega⟩, x88⟩
end
end
section
/- BODIES: what both sides stand on -/
abbrev BCx : Type := ((Nat → Int) × (Nat → Int) × (Nat → Int) × (Nat → Nat) × (Nat → List Int)) × (Nat × Nat × Nat × Nat × Nat) × (Int × Int) × (ms_M × ms_M × ms_M)
abbrev bK (X : BCx) : Nat → Int := X.1.1
abbrev bP (X : BCx) : Nat → Int := X.1.2.1
abbrev bV (X : BCx) : Nat → Int := X.1.2.2.1
abbrev bC (X : BCx) : Nat → Nat := X.1.2.2.2.1
abbrev bW (X : BCx) : Nat → List Int := X.1.2.2.2.2
abbrev bc (X : BCx) : Nat := X.2.1.1
abbrev bn (X : BCx) : Nat := X.2.1.2.1
abbrev bNN (X : BCx) : Nat := X.2.1.2.2.1
abbrev bM (X : BCx) : Nat := X.2.1.2.2.2.1
abbrev bF (X : BCx) : Nat := X.2.1.2.2.2.2
abbrev bq (X : BCx) : Int := X.2.2.1.1
abbrev bo (X : BCx) : Int := X.2.2.1.2
abbrev bT (X : BCx) : ms_M := X.2.2.2.1
abbrev bA (X : BCx) : ms_M := X.2.2.2.2.1
abbrev bB (X : BCx) : ms_M := X.2.2.2.2.2
/-- of tokens, classes and the method's own class -/
def CXs (X : BCx) : Prop := TBn (bK X) (bc X) ∧ CKd (bK X) (bV X) (bC X) (bn X) (bNN X) ∧ bn X ≤ 8 ∧ (8 ≤ bo X ∧ bo X < 8 + (bn X : Int)) ∧ TBq (bK X) (bP X) (bc X) (bT X) ∧ (∀ i : Nat, i < bc X → bK X i = 3 → 0 ≤ bT X 166 i ∧ bT X 166 i ≤ 2147483647) ∧ HDS (bK X) (bP X) (bV X) (bC X) (bc X) (bn X) (bNN X) (bM X) (bq X) (bA X) (bB X) ∧ (∀ j : Nat, j < bM X → 0 ≤ bB X 182 j) ∧ (∀ j k : Nat, j < bM X → k < 8 → MSm (bB X) k 0 j → VTn (bn X) (bA X 19 (12 * k + mcn_T (bB X) k 0 j))) ∧ ∀ j k : Nat, j < bM X → k < 8 → MSm (bB X) k 1 j → VTn (bn X) (bA X 24 (12 * k + mcn_T (bB X) k 1 j)) ∧ bB X 188 j ≤ 1500 ∧ ∀ i : Nat, (i : Int) < bB X 189 j → VTn (bn X) (bA X 29 (6 * (12 * k + mcn_T (bB X) k 1 j) + i))
/-- the class and the reference's rules (or its making) -/
def BX (X : BCx) (h r : ms_M) : Prop := HDS (bK X) (bP X) (bV X) (bC X) (bc X) (bn X) (bNN X) (bM X) (bq X) h r ∧ SGV (bK X) (bV X) (bF X) (bo X) h r ∧ (h 49 16 = bo X ∧ r 160 52 = bo X) ∧ ((r 160 53 = 0 ∧ h 49 17 = 0 ∧ bF X = 1) ∨ (¬ r 160 53 = 0 ∧ ¬ h 49 17 = 0 ∧ bF X = 0)) ∧ (∀ i : Nat, i < bc X → bK X i = 3 → h 5 i = bT X 166 i) ∧ (∀ cc x : Nat, ((163 ≤ cc ∧ cc ≤ 173) ∨ cc = 177) → r cc x = bT X cc x) ∧ (∀ cc x : Nat, (178 ≤ cc ∧ cc ≤ 195) → r cc x = bB X cc x) ∧ (∀ cc x : Nat, (17 ≤ cc ∧ cc ≤ 29) → h cc x = bA X cc x) ∧ ∀ s : Nat, (s : Int) < h 34 7 → VTn (bn X) (h 38 s) ∧ ¬ h 38 s = 303
def MKx (X : BCx) (PB : Nat → Prop) (WL : Int → Int → Prop) (L : List (Int × Int)) (h m : ms_M) : Prop := MK (bK X) (bV X) (bC X) (bW X) (bn X) (bF X) (bo X) (bA X) (bB X) (bT X) PB WL L h m
section
variable {nn : Nat} {X : BCx} {K P V : Nat → Int} {C : Nat → Nat} {c n N mt : Nat} {q : Int} {h g u r v w m : ms_M}
theorem nw_of {L : List Nat} {LF : List (Nat × Nat)} {cc x : Nat} (h1 : ¬ cc ∈ L) (h2 : ¬ (cc, x) ∈ LF) : nw_F L LF false false cc x = true := by
  unfold nw_F
  simp [h1, h2]
theorem mtb_r {mm : Nat} (M : MTB V C n mm q h r) (e : ∀ cc y : Nat, cc = 169 ∨ (181 ≤ cc ∧ cc ≤ 195) → v cc y = r cc y) : MTB V C n mm q h v := by
  have mc : ∀ (k s : Int) (j : Nat), mcn_T v k s j = mcn_T r k s j := fun k s j => mcn_k (fun cc x z => e cc x (by omega)) j
  have ms : ∀ (k s : Int) (j : Nat), MSm v k s j ↔ MSm r k s j := fun k s j => msm_k (e 181 j (by omega)) (e 182 j (by omega))
  obtain ⟨m1, m2, m3, m4, m5⟩ := M
  refine ⟨fun k hk => by rw [mc, mc]; exact m1 k hk, fun j k hj hk z => ?_, fun j k hj hk z => ?_, fun i j k s ij hj z1 z2 => ?_, fun j i hj hi => ?_⟩
  · rw [mc]
    obtain ⟨a1, a2, a3, a4⟩ := m2 j k hj hk ((ms _ _ _).mp z)
    exact ⟨by rw [e 186 j (by omega)]; exact a1, by rw [e 187 j (by omega)]; exact a2, a3, by rw [e 184 j (by omega), e 183 j (by omega), e 185 j (by omega)]; exact a4⟩
  · rw [mc]
    exact mbm_k (m3 j k hj hk ((ms _ _ _).mp z)) (fun _ _ _ => rfl) (fun cc y z => e cc y (by omega)) (fun i _ => e 195 _ (by omega))
  · rw [e 186 i (by omega), e 186 j (by omega)]
    exact m4 i j k s ij hj ((ms _ _ _).mp z1) ((ms _ _ _).mp z2)
  · rw [e 189 j (by omega)] at hi
    rw [e 188 j (by omega), e 194 _ (by omega)]
    exact m5 j i hj hi
theorem hds_k (H : HDS K P V C c n N mt q h r) (e1 : ∀ cc x : Nat, (3 ≤ cc ∧ cc ≤ 5) ∨ (13 ≤ cc ∧ cc ≤ 29) ∨ (cc = 2 ∧ x = 3) ∨ (cc = 11 ∧ x = 2) → g cc x = h cc x) (e2 : ∀ cc x : Nat, (162 ≤ cc ∧ cc ≤ 166) ∨ cc = 169 ∨ (178 ≤ cc ∧ cc ≤ 195) ∨ (cc = 160 ∧ (x = 24 ∨ x = 28)) → w cc x = r cc x) : HDS K P V C c n N mt q g w := by
  obtain ⟨⟨a1, a2, a3⟩, ⟨b1, b2, b3, b4⟩, c1, d1, d2, d3, d4⟩ := H
  have U : w 180 = r 180 := funext (fun x => e2 180 x (by omega))
  have G13 : g 13 = h 13 := funext (fun x => e1 13 x (by omega))
  refine ⟨⟨hdc_k a1 (fun cc x z => e1 cc x (by omega)), fun x hx => by rw [e1 16 x (by omega)]; exact a2 x hx, hdr_k a3 (fun cc x z => e2 cc x (by omega))⟩, ⟨b1, by rw [U]; exact b2, by rw [U]; exact b3, ?_⟩, mtb_r (mtb_h c1 (fun cc y z1 z2 => e1 cc y (by omega))) (fun cc y z => e2 cc y (by omega)), by rw [e2 160 28 (by omega)]; exact d1, fun j hj => by rw [e2 186 j (by omega)]; exact d2 j hj, fun j hj => by rw [e2 181 j (by omega)]; exact d3 j hj, fun i j ij hj => by rw [e2 181 i (by omega), e2 181 j (by omega)]; exact d4 i j ij hj⟩
  rw [U]
  refine ⟨fun j hj => by rw [G13]; exact b4.1 j hj, fun x y hx hy => ?_⟩
  have z := b4.2 x y hx hy
  show (re_N (g 13) 16 (x : Int) (y : Int) → g 14 (16 * x + y) = 1) ∧ (¬ re_N (g 13) 16 (x : Int) (y : Int) → g 14 (16 * x + y) = 0)
  rw [G13, e1 14 _ (by omega)]
  exact z
theorem bx_k (B : BX X h r) (e1 : ∀ cc x : Nat, (3 ≤ cc ∧ cc ≤ 5) ∨ (13 ≤ cc ∧ cc ≤ 29) ∨ (cc = 2 ∧ x = 3) ∨ (cc = 11 ∧ x = 2) ∨ (cc = 34 ∧ x = 7) ∨ cc = 37 ∨ cc = 38 ∨ (cc = 49 ∧ (x = 16 ∨ x = 17)) → g cc x = h cc x) (e2 : ∀ cc x : Nat, (162 ≤ cc ∧ cc ≤ 173) ∨ (177 ≤ cc ∧ cc ≤ 197) ∨ (cc = 160 ∧ (x = 24 ∨ x = 28 ∨ x = 50 ∨ x = 52 ∨ x = 53)) → w cc x = r cc x) : BX X g w := by
  obtain ⟨b1, b2, b3, b4, b5, b6, b7, b8, b9⟩ := B
  refine ⟨hds_k b1 (fun cc x z => e1 cc x (by omega)) (fun cc x z => e2 cc x (by omega)), sgv_k b2 (fun cc x z => e1 cc x (by omega)) (fun cc x z => e2 cc x (by omega)), by rw [e1 49 16 (by omega), e2 160 52 (by omega)]; exact b3, by rw [e1 49 17 (by omega), e2 160 53 (by omega)]; exact b4, fun i hi ki => by rw [e1 5 i (by omega)]; exact b5 i hi ki, fun cc x z => by rw [e2 cc x (by omega)]; exact b6 cc x z, fun cc x z => by rw [e2 cc x (by omega)]; exact b7 cc x z, fun cc x z => by rw [e1 cc x (by omega)]; exact b8 cc x z, fun s hs => by rw [e1 34 7 (by omega)] at hs; rw [e1 38 s (by omega)]; exact b9 s hs⟩
/-- what an E of the class leaves as it is -/
def CFe (h u : ms_M) : Prop := ∀ cc x : Nat, ¬ (cc = 2 ∧ (x = 10 ∨ x = 11 ∨ x = 12)) → ¬ (cc = 34 ∧ (x = 1 ∨ x = 3 ∨ x = 4 ∨ x = 14 ∨ x = 15)) → ¬ (cc = 35 ∨ cc = 36) → ¬ (40 ≤ cc ∧ cc ≤ 42) → ¬ (cc = 45 ∧ (x = 4 ∨ x = 5)) → ¬ (cc = 46 ∨ cc = 47) → ¬ (cc = 49 ∧ 10 ≤ x ∧ x ≤ 15) → ¬ (50 ≤ cc ∧ cc ≤ 54) → u cc x = h cc x
theorem cfe_r : CFe h h := fun _ _ _ _ _ _ _ _ _ _ => rfl
theorem cfe_t (A : CFe h g) (B : CFe g u) : CFe h u := fun cc x a1 a2 a3 a4 a5 a6 a7 a8 => (B cc x a1 a2 a3 a4 a5 a6 a7 a8).trans (A cc x a1 a2 a3 a4 a5 a6 a7 a8)
/-- what the rules of an E leave as it is; nodes [a, b) get their types -/
def RFe (a b : Int) (r v : ms_M) : Prop := (∀ cc x : Nat, ¬ (cc = 160 ∧ (x = 9 ∨ x = 10 ∨ x = 57)) → ¬ cc = 199 → ¬ (174 ≤ cc ∧ cc ≤ 176) → v cc x = r cc x) ∧ ∀ cc x : Nat, 174 ≤ cc → cc ≤ 176 → ¬ (a ≤ (x : Int) ∧ (x : Int) < b) → v cc x = r cc x
theorem rfe_r {a b : Int} : RFe a b r r := ⟨fun _ _ _ _ _ => rfl, fun _ _ _ _ _ => rfl⟩
theorem rfe_t {a b a1 b1 a2 b2 : Int} (A : RFe a1 b1 r v) (B : RFe a2 b2 v w) (h1 : a ≤ a1 ∧ b1 ≤ b) (h2 : a ≤ a2 ∧ b2 ≤ b) : RFe a b r w := ⟨fun cc x z1 z2 z3 => (B.1 cc x z1 z2 z3).trans (A.1 cc x z1 z2 z3), fun cc x z1 z2 z3 => (B.2 cc x z1 z2 (by omega)).trans (A.2 cc x z1 z2 (by omega))⟩
theorem bx_e {a b : Int} (B : BX X h r) (A : CFe h g) (R : RFe a b r w) : BX X g w := bx_k B (fun cc x z => A cc x (by omega) (by omega) (by omega) (by omega) (by omega) (by omega) (by omega) (by omega)) (fun cc x z => R.1 cc x (by omega) (by omega) (by omega))
/-- the rows of signs below the open one -/
def SGb (h u : ms_M) : Prop := u 49 10 = h 49 10 ∧ ∀ cc x : Nat, 50 ≤ cc → cc ≤ 54 → (x : Int) < h 49 10 → u cc x = h cc x
theorem sgb_r : SGb h h := ⟨rfl, fun _ _ _ _ _ => rfl⟩
theorem sgb_t (A : SGb h g) (B : SGb g u) : SGb h u := ⟨B.1.trans A.1, fun cc x z1 z2 z3 => (B.2 cc x z1 z2 (by rw [A.1]; exact z3)).trans (A.2 cc x z1 z2 z3)⟩
theorem pc_and {α : Type} {x : Option α} {A B : α → Prop} (H1 : Pc x A) (H2 : Pc x B) : Pc x (fun u => A u ∧ B u) := fun u e => ⟨H1 u e, H2 u e⟩
/-- frames of the class's functions -/
theorem cfe_nw {L : List Nat} {LF : List (Nat × Nat)} (E : ∀ cc x : Nat, nw_F L LF false false cc x = true → u cc x = h cc x) (hL : L.all (fun y => decide (y = 35 ∨ y = 36 ∨ (40 ≤ y ∧ y ≤ 42) ∨ y = 46 ∨ y = 47 ∨ (50 ≤ y ∧ y ≤ 54))) = true) (hF : LF.all (fun z => decide ((z.1 = 2 ∧ (z.2 = 10 ∨ z.2 = 11 ∨ z.2 = 12)) ∨ (z.1 = 34 ∧ (z.2 = 1 ∨ z.2 = 3 ∨ z.2 = 4 ∨ z.2 = 14 ∨ z.2 = 15)) ∨ (z.1 = 45 ∧ (z.2 = 4 ∨ z.2 = 5)) ∨ (z.1 = 49 ∧ 10 ≤ z.2 ∧ z.2 ≤ 15))) = true) : CFe h u := fun cc x a1 a2 a3 a4 a5 a6 a7 a8 => by
  refine E cc x (nw_of (fun z => ?_) (fun z => ?_))
  · have q := of_decide_eq_true (List.all_eq_true.mp hL cc z)
    omega
  · have q := of_decide_eq_true (List.all_eq_true.mp hF (cc, x) z)
    dsimp only at q
    omega
end
end
section
/- E of both sides: what is shown of each -/
/-- m bears the types that the rules left on the nodes [a, b) -/
def AN (a b : Int) (v m : ms_M) : Prop := ∀ cc x : Nat, 174 ≤ cc → cc ≤ 176 → a ≤ (x : Int) → (x : Int) < b → m cc x = v cc x
/-- the making of e does what the class has done -/
def MKC (nn : Nat) (X : BCx) (e a b : Int) (p q : Nat) (h u v : ms_M) : Prop := ∀ (d : Nat) (PB : Nat → Prop) (WL : Int → Int → Prop) (L : List (Int × Int)) (m : ms_M), MKx X PB WL L h m → AN a b v m → (0 ≤ m 160 57 ∧ m 160 57 + (b - a) < 9000) → m 160 88 + 4 * (q : Int) ≤ 2000000000 + 4 * (p : Int) → Pc ((qg_X13_work nn d).1 e m) (fun w => MKx X PB WL L u w ∧ (m 160 88 ≤ w 160 88 ∧ w 160 88 + 4 * (p : Int) ≤ m 160 88 + 4 * (q : Int)))
/-- a member of both sides: x in the class, j in the reference -/
def MBx (X : BCx) (s : Int) (x j : Int) : Prop := ∃ i k : Nat, (i < bM X ∧ k < 8) ∧ MSm (bB X) k s i ∧ j = (i : Int) ∧ x = ((12 * k + mcn_T (bB X) k s i : Nat) : Int)
/-- it is fetched (or a call) -/
def FM01 (nn : Nat) (X : BCx) (i a b : Int) (p q : Nat) (e : Int) (h u v : ms_M) : Prop := ((u 49 11 = 1 ∧ i = 0 ∧ (bT X 167 e.toNat = 26 ∨ bT X 167 e.toNat = 31) ∧ (u 49 12 = 303 → bK X q = 46 ∧ u 49 18 = (p : Int))) ∨ (u 49 11 = 0 ∧ ¬ (i = 0 ∧ (bT X 167 e.toNat = 26 ∨ bT X 167 e.toNat = 31)) ∧ ¬ u 49 12 = 303)) ∧ (i = 0 → ¬ bT X 167 e.toNat = 25 ∧ ¬ bT X 167 e.toNat = 32 ∧ (bT X 167 e.toNat = 30 → v 175 e.toNat = -1) ∨ ¬ bK X q = 51) ∧ (¬ bK X q = 51 → (u 34 3 = h 34 3 + (if u 49 12 = 303 then 0 else 1) ∧ (u 49 12 = 303 ∨ 20 < u 34 3 ∨ u 36 (u 34 3 - 1).toNat = u 49 12)) ∧ MKC nn X e a b p q h u v)
/-- a variable that is not fetched yet -/
def FM2 (X : BCx) (i : Int) (e : Int) (h u v : ms_M) : Prop := (u 49 11 = 2 ∧ i = 0 ∧ bT X 167 e.toNat = 25) ∧ (v 175 e.toNat = -1 ∧ v 176 e.toNat = u 49 14 ∧ 0 ≤ u 49 14 ∧ u 49 14 < 750 ∧ ¬ u 49 12 = 303) ∧ ∀ cc x : Nat, (RLc cc x ∨ (cc = 34 ∧ (x = 3 ∨ x = 4)) ∨ cc = 36) → u cc x = h cc x
/-- a field: its object is on the stack -/
def FM3 (nn : Nat) (X : BCx) (i a : Int) (p q : Nat) (e : Int) (h u v : ms_M) : Prop := (u 49 11 = 3 ∧ i = 0 ∧ (0 ≤ u 49 13 ∧ u 49 13 < 8 + (bn X : Int)) ∧ ¬ u 49 12 = 303) ∧ (MBx X 0 (u 49 14) (v 175 e.toNat) ∧ u 34 3 = h 34 3 + 1 ∧ u 34 1 + 20 * (p : Int) + 10 ≤ h 34 1 + 20 * (q : Int)) ∧ ((bT X 167 e.toNat = 25 ∧ u 49 13 = bo X ∧ ∀ (PB : Nat → Prop) (WL : Int → Int → Prop) (L : List (Int × Int)) (m : ms_M), MKx X PB WL L h m → Pc (qf_X13_self nn m) (fun w => MKx X PB WL L u w ∧ w 160 88 = m 160 88)) ∨ (bT X 167 e.toNat = 30 ∧ (a ≤ bT X 170 e.toNat ∧ bT X 170 e.toNat < e) ∧ v 174 (bT X 170 e.toNat).toNat = ty_T (u 49 13) ∧ MKC nn X (bT X 170 e.toNat) a e p q h u v))
/-- an element: its array and its index are on the stack -/
def FM4 (nn : Nat) (X : BCx) (i a b : Int) (p q : Nat) (e : Int) (h u v : ms_M) : Prop := (u 49 11 = 4 ∧ i = 0 ∧ bT X 167 e.toNat = 32 ∧ ¬ u 49 12 = 303) ∧ (u 34 3 = h 34 3 + 2 ∧ u 34 1 + 20 * (p : Int) + 10 ≤ h 34 1 + 20 * (q : Int)) ∧ ∃ (t : Nat) (g : ms_M), (p < t ∧ t < q) ∧ MKC nn X (bT X 170 e.toNat) a e p t h g v ∧ MKC nn X (bT X 171 e.toNat) (e + 1) b t q g u v
def FMv (nn : Nat) (X : BCx) (i a b : Int) (p q : Nat) (e : Int) (h u v : ms_M) : Prop := FM01 nn X i a b p q e h u v ∨ FM2 X i e h u v ∨ FM3 nn X i a p q e h u v ∨ FM4 nn X i a b p q e h u v
/-- what is wanted ahead of an E -/
def EPr (X : BCx) (dp : Int) (p : Nat) (h r : ms_M) : Prop := BX X h r ∧ (h 2 10 = (p : Int) ∧ p < bc X ∧ h 2 11 = 0 ∧ r 160 9 = 0) ∧ (FRc h ∧ (0 ≤ h 34 1 ∧ h 34 1 ≤ 20 * (p : Int) + 1000) ∧ 0 ≤ h 34 3 ∧ h 34 3 ≤ (p : Int)) ∧ 0 ≤ h 49 10 ∧ h 49 10 ≤ 10 * dp ∧ h 49 18 ≤ (p : Int)
def POk (nn : Nat) (X : BCx) (i a b : Int) (p q : Nat) (e : Int) (h r u : ms_M) (v : Int × ms_M) : Prop := (u 2 10 = (q : Int) ∧ q < bc X ∧ p < q ∧ u 2 11 = 0 ∧ v.2 160 9 = 0) ∧ (v.1 = ty_T (u 49 12) ∧ VTn (bn X) (u 49 12) ∧ v.2 174 e.toNat = v.1) ∧ (CFe h u ∧ RFe a b r v.2 ∧ SGb h u) ∧ (FRc u ∧ (0 ≤ u 34 1 ∧ u 34 1 + 20 * (p : Int) ≤ h 34 1 + 20 * (q : Int)) ∧ 0 ≤ u 34 3 ∧ u 34 3 + (p : Int) ≤ h 34 3 + (q : Int)) ∧ FMv nn X i a b p q e h u v.2
/-- a void call where a value is wanted: the class has told it, the reference is about to -/
def VDj (X : BCx) (i a b : Int) (p q : Nat) (e : Int) (h r u : ms_M) (v : Int × ms_M) : Prop := (u 2 11 = 6 ∧ u 2 12 = bP X (bT X 168 e.toNat).toNat ∧ 0 ≤ bT X 168 e.toNat ∧ bT X 168 e.toNat < (bc X : Int) ∧ (i = 0 → bK X q = 46 → ¬ h 49 18 = (p : Int))) ∧ (v.1 = 3 ∧ v.2 160 9 = 0 ∧ v.2 174 e.toNat = 3) ∧ RFe a b r v.2
section
variable {nn : Nat} {X : BCx} {dp i a b e : Int} {p q : Nat} {h g u r v w m : ms_M}
theorem an_s {a1 b1 : Int} {v1 : ms_M} (A : AN a b v m) (h1 : a ≤ a1 ∧ b1 ≤ b) (E : ∀ cc x : Nat, 174 ≤ cc → cc ≤ 176 → a1 ≤ (x : Int) → (x : Int) < b1 → v cc x = v1 cc x) : AN a1 b1 v1 m := fun cc x z1 z2 z3 z4 => (A cc x z1 z2 (by omega) (by omega)).trans (E cc x z1 z2 z3 z4)
theorem an_m (A : AN a b v m) (E : ∀ cc x : Nat, 174 ≤ cc → cc ≤ 176 → w cc x = m cc x) : AN a b v w := fun cc x z1 z2 z3 z4 => (E cc x z1 z2).trans (A cc x z1 z2 z3 z4)
theorem w_one {Q : Int × ms_M → Prop} (b57 : 0 ≤ r 160 57 ∧ r 160 57 ≤ 10000) (hf : r 160 9 = 0) (hl : Pc (qf_X13_isLed nn e r) (fun u => u = 0)) (R : ∀ d : Nat, Pc (qo_X13_rule nn (qg_X13_condition nn d) e r) (fun u => ∀ z : ms_M, z = up_M u.2 174 e.toNat u.1 → (z 160 9 = 0 → Q (u.1, z)) ∧ (¬ z 160 9 = 0 → Q (0, z)))) : ∀ d : Nat, Pc ((qg_X13_condition nn d).2.2.1 e r) Q := by
  intro d
  cases d with
  | zero => exact pc_none
  | succ d =>
    refine wk_one (rk_rule d) b57 hf hl ?_
    cases d with
    | zero => exact pc_none
    | succ d => exact R d
theorem m_one {Q : ms_M → Prop} (b57 : 0 ≤ m 160 57 ∧ m 160 57 ≤ 10000) (hl : Pc (qf_X13_isLedInWords nn e m) (fun u => u = 0)) (R : ∀ d : Nat, Pc (qo_X13_workOne nn (qg_X13_work nn d) e m) Q) : ∀ d : Nat, Pc ((qg_X13_work nn d).1 e m) Q := by
  intro d
  cases d with
  | zero => exact pc_none
  | succ d =>
    refine mw_one (rk_work1 d) b57 hl ?_
    cases d with
    | zero => exact pc_none
    | succ d => exact R d
theorem r_nled (k : ¬ r 167 e.toNat = 30 ∧ ¬ r 167 e.toNat = 31 ∧ ¬ r 167 e.toNat = 32 ∧ ¬ r 167 e.toNat = 37 ∧ ¬ r 167 e.toNat = 38) : Pc (qf_X13_isLed nn e r) (fun u => u = 0) := by
  obtain ⟨k1, k2, k3, k4, k5⟩ := k
  unfold qf_X13_isLed
  refine pc_rA ?_; intro _ _ v2 e2
  rw [← e2] at k1 k2 k3 k4 k5
  refine pc_if (fun z => absurd z k4) (fun _ => ?_)
  refine pc_if (fun z => absurd z k5) (fun _ => ?_)
  refine pc_if (fun z => absurd z k1) (fun _ => ?_)
  refine pc_if (fun z => absurd z k3) (fun _ => ?_)
  exact pc_if (fun _ => pc_ret rfl) (fun z => absurd k2 z)
theorem m_nled (k : ¬ m 167 e.toNat = 30 ∧ ¬ m 167 e.toNat = 31 ∧ ¬ m 167 e.toNat = 32 ∧ ¬ m 167 e.toNat = 37 ∧ ¬ m 167 e.toNat = 38) : Pc (qf_X13_isLedInWords nn e m) (fun u => u = 0) := by
  obtain ⟨k1, k2, k3, k4, k5⟩ := k
  unfold qf_X13_isLedInWords
  refine pc_rA ?_; intro _ _ v2 e2
  rw [← e2] at k1 k2 k3 k4 k5
  refine pc_if (fun z => absurd z k4) (fun _ => ?_)
  refine pc_if (fun z => absurd z k5) (fun _ => ?_)
  refine pc_if (fun z => absurd z k1) (fun _ => ?_)
  refine pc_if (fun z => absurd z k3) (fun _ => ?_)
  exact pc_if (fun _ => pc_ret rfl) (fun z => absurd k2 z)
theorem c_give {t : Int} (hl : 0 ≤ h 34 3 ∧ h 34 3 ≤ 2000000) : Pc (qf_X10_give nn t h) (fun u => ∃ g, CPu t h g ∧ u = up_M (up_M g 49 12 t) 49 11 0) := by
  unfold qf_X10_give
  refine pc_sv (c_push hl) ?_; intro u3 q3
  refine pc_xl ?_; intro h4 e4
  refine pc_xl ?_; intro h5 e5
  exact pc_ret ⟨u3, q3, by rw [e5, e4]⟩
/-- what is on top of the class's stack -/
theorem cp_top {t : Int} {g2 : ms_M} (CP : CPu t g g2) (h0 : 0 ≤ g 34 3) (u3 : u 34 3 = g 34 3 + 1) (u36 : ∀ x : Nat, u 36 x = g2 36 x) (u12 : u 49 12 = t) : u 49 12 = 303 ∨ 20 < u 34 3 ∨ u 36 (u 34 3 - 1).toNat = u 49 12 := by
  by_cases z : g 34 3 < 20
  · right; right
    rw [u3, u12, u36, show (g 34 3 + 1 - 1).toNat = (g 34 3).toNat by omega]
    exact CP.2.2.1 z
  · right; left; omega
theorem top_g {t : Int} {g2 : ms_M} (CP : CPu t g g2) (h0 : 0 ≤ g 34 3) (eu : u = up_M (up_M g2 49 12 t) 49 11 0) : u 49 12 = 303 ∨ 20 < u 34 3 ∨ u 36 (u 34 3 - 1).toNat = u 49 12 := cp_top CP h0 (by rw [eu, up_n (by omega), up_n (by omega)]; exact CP.1) (fun x => by rw [eu, up_n (by omega), up_n (by omega)]) (by rw [eu, up_n (by omega), up_s])
theorem c_valAt {K P : Nat → Int} {c t : Nat} (B : TBc K P c h) (ht : t < c) (c3 : c ≤ 3001) {x : Int} (hx : x = (t : Int)) : Pc (qf_X9_valueAt nn x h) (fun u => u = h 5 t) := by
  subst hx
  unfold qf_X9_valueAt
  have b := B.1
  refine pc_if (fun z => absurd z (by omega)) (fun _ => ?_)
  refine pc_if (fun z => absurd z (by omega)) (fun _ => ?_)
  refine pc_rA ?_; intro _ _ v3 e3
  rw [Int.toNat_natCast] at e3
  exact pc_ret e3
/-- of what MK knows, what the making of one E wants -/
theorem mk_t {PB : Nat → Prop} {WL : Int → Int → Prop} {L : List (Int × Int)} (M : MKx X PB WL L h m) : (∀ cc x : Nat, ((163 ≤ cc ∧ cc ≤ 173) ∨ cc = 177) → m cc x = bT X cc x) ∧ (∀ cc x : Nat, (178 ≤ cc ∧ cc ≤ 195) → m cc x = bB X cc x) ∧ (h 34 1 = m 160 68 ∧ h 34 3 = m 160 70 ∧ 0 ≤ h 34 1 ∧ 0 ≤ h 34 3) ∧ m 160 9 = 0 ∧ 8 + 2 * m 160 52 = ty_T (bo X) ∧ 0 ≤ m 160 52 ∧ m 160 52 ≤ 100 := by
  obtain ⟨⟨c, -, -, ⟨-, -, -, t, s⟩⟩, k⟩ := M
  exact ⟨s.2.2.2.2, t.2.2.2.2.2, ⟨c.1.1, k.1.1, c.1.2, k.1.2.2.1⟩, s.2.2.2.1, s.2.2.1.1, s.2.2.1.2.1, s.2.2.1.2.2⟩
/-- push, then the class's own fields -/
theorem mkx_give {PB : Nat → Prop} {WL : Int → Int → Prop} {L : List (Int × Int)} {t t2 : Int} (M : MKx X PB WL L h m) (A : CPu t h g) (B : RPs t2 m w) (e : TJ (bn X) t2 t) (eu : u = up_M (up_M g 49 12 t) 49 11 0) : MKx X PB WL L u w := mk_c (mk_push M A B e) (fun cc x z => by
  rw [eu, up_n (by rcases z with z | z | z <;> first | (unfold RLc at z; omega) | omega), up_n (by rcases z with z | z | z <;> first | (unfold RLc at z; omega) | omega)])
theorem mkx_c {PB : Nat → Prop} {WL : Int → Int → Prop} {L : List (Int × Int)} (M : MKx X PB WL L h m) (e1 : ∀ cc x : Nat, ¬ (cc = 2 ∧ (x = 10 ∨ x = 11 ∨ x = 12)) → ¬ cc = 49 → ¬ (50 ≤ cc ∧ cc ≤ 54) → g cc x = h cc x) : MKx X PB WL L g m := mk_c M (fun cc x z => e1 cc x (by rcases z with z | z | z <;> first | (unfold RLc at z; omega) | omega) (by rcases z with z | z | z <;> first | (unfold RLc at z; omega) | omega) (by rcases z with z | z | z <;> first | (unfold RLc at z; omega) | omega))
end
end
section
/- E of both sides: constants and this -/
section
variable {nn : Nat} {X : BCx} {dp i a b e t : Int} {p q : Nat} {h g g2 u r v w m : ms_M}
theorem mkc_v {v1 : ms_M} (M : MKC nn X e a b p q h u v1) (E : ∀ cc x : Nat, 174 ≤ cc → cc ≤ 176 → a ≤ (x : Int) → (x : Int) < b → v cc x = v1 cc x) : MKC nn X e a b p q h u v := fun d PB WL L m M1 A z1 z2 => M d PB WL L m M1 (an_s A ⟨Int.le_refl _, Int.le_refl _⟩ E) z1 z2
/-- the class has made some CODE and gives a value -/
theorem pok_give (Q : EPr X dp p h r) (hq : q < bc X ∧ p < q) (ne : 0 ≤ a ∧ a ≤ e ∧ e < b) (A : CFe h g) (SG : SGb h g) (g10 : g 2 10 = (q : Int)) (g11 : g 2 11 = 0) (Fg : FRc g) (l1 : 0 ≤ g 34 1 ∧ g 34 1 + 20 * (p : Int) ≤ h 34 1 + 20 * (q : Int)) (g3 : 0 ≤ g 34 3 ∧ g 34 3 + 1 + (p : Int) ≤ h 34 3 + (q : Int)) (CP : CPu t g g2) (eu : u = up_M (up_M g2 49 12 t) 49 11 0) (tv : VTn (bn X) t ∧ ¬ t = 303) (R : RFe a b r v) (v9 : v 160 9 = 0) {y : Int × ms_M} (ey : y = (ty_T t, up_M v 174 e.toNat (ty_T t))) (FM : FM01 nn X i a b p q e h u (up_M v 174 e.toNat (ty_T t))) : POk nn X i a b p q e h r u y := by
  obtain ⟨c1, c2, -, c4⟩ := CP
  have U : ∀ cc x : Nat, ¬ (cc = 34 ∧ (x = 3 ∨ x = 4)) → ¬ cc = 36 → ¬ (cc = 49 ∧ (x = 11 ∨ x = 12)) → u cc x = g cc x := fun cc x z1 z2 z3 => by rw [eu, up_n (by omega), up_n (by omega)]; exact c4 cc x z1 (by omega)
  have u3 : u 34 3 = g 34 3 + 1 := by rw [eu, up_n (by omega), up_n (by omega)]; exact c1
  have u12 : u 49 12 = t := by rw [eu, up_n (by omega), up_s]
  rw [ey]
  refine ⟨⟨by rw [U 2 10 (by omega) (by omega) (by omega)]; exact g10, hq.1, hq.2, by rw [U 2 11 (by omega) (by omega) (by omega)]; exact g11, ?_⟩, ⟨?_, ?_, ?_⟩, ⟨?_, ?_, ?_⟩, ⟨?_, ?_, ?_⟩, .inl FM⟩
  · show up_M v 174 e.toNat (ty_T t) 160 9 = 0
    rw [up_n (by omega)]; exact v9
  · show ty_T t = ty_T (u 49 12)
    rw [u12]
  · rw [u12]; exact tv.1
  · show up_M v 174 e.toNat (ty_T t) 174 e.toNat = ty_T t
    rw [up_s]
  · exact fun cc x a1 a2 a3 a4 a5 a6 a7 a8 => by rw [U cc x (by omega) (by omega) (by omega)]; exact A cc x a1 a2 a3 a4 a5 a6 a7 a8
  · show RFe a b r (up_M v 174 e.toNat (ty_T t))
    exact ⟨fun cc x z1 z2 z3 => by rw [up_n (by omega)]; exact R.1 cc x z1 z2 z3, fun cc x z1 z2 z3 => by rw [up_n (by omega)]; exact R.2 cc x z1 z2 z3⟩
  · exact ⟨by rw [U 49 10 (by omega) (by omega) (by omega)]; exact SG.1, fun cc x z1 z2 z3 => by rw [U cc x (by omega) (by omega) (by omega)]; exact SG.2 cc x z1 z2 z3⟩
  · exact frc_k Fg (fun cc x z => U cc x (by omega) (by omega) (by omega))
  · rw [U 34 1 (by omega) (by omega) (by omega)]; exact l1
  · omega
/-- a leaf's making -/
theorem mkc_leaf (k : ¬ bT X 167 e.toNat = 30 ∧ ¬ bT X 167 e.toNat = 31 ∧ ¬ bT X 167 e.toNat = 32 ∧ ¬ bT X 167 e.toNat = 37 ∧ ¬ bT X 167 e.toNat = 38) (ne : 0 ≤ a ∧ a ≤ e ∧ e < b) (R : ∀ (PB : Nat → Prop) (WL : Int → Int → Prop) (L : List (Int × Int)) (m : ms_M) (d : Nat), MKx X PB WL L h m → AN a b v m → Pc (qo_X13_workOne nn (qg_X13_work nn d) e m) (fun w => MKx X PB WL L u w ∧ w 160 88 = m 160 88)) (pq : p ≤ q) : MKC nn X e a b p q h u v := fun d PB WL L m M A z1 z2 => by
  have T := (mk_t M).1 167 e.toNat (by omega)
  refine m_one (by omega) (m_nled (by rw [T]; exact k)) (fun d => ?_) d
  exact pc_imp (R PB WL L m d M A) (fun w y => ⟨y.1, by rw [y.2]; omega⟩)
/-- true, false, null -/
theorem p_yes (Y : CXs X) (Q : EPr X dp p h r) (b57 : 0 ≤ r 160 57 ∧ r 160 57 ≤ 10000) (ne : 0 ≤ a ∧ a ≤ e ∧ e < b) {k o t : Int} (kk : (bT X 167 e.toNat = 21 ∧ bK X p = 28 ∧ o = 4 ∧ t = 302) ∨ (bT X 167 e.toNat = 22 ∧ bK X p = 17 ∧ o = 3 ∧ t = 302) ∨ (bT X 167 e.toNat = 23 ∧ bK X p = 22 ∧ o = 1 ∧ t = 300)) (p1 : p + 1 < bc X) (d : Nat) : Pc (mx_sv (qf_X1_op nn o (up_M h 2 10 ((p + 1 : Nat) : Int))) fun u19 => mx_sv (qf_X10_give nn t u19) fun u21 => some u21) (fun u => Pc ((qg_X13_condition nn d).2.2.1 e r) (fun v => POk nn X 0 a b p (p + 1) e h r u v)) := by
  have Q0 := Q
  obtain ⟨B, ⟨q1, q2, q3, q4⟩, ⟨f1, f2, f3⟩, o1⟩ := Q0
  have T : ∀ cc : Nat, 163 ≤ cc ∧ cc ≤ 173 → r cc e.toNat = bT X cc e.toNat := fun cc z => B.2.2.2.2.2.1 cc e.toNat (by omega)
  have p3 := Y.1.2.1
  refine pc_sv (c_op (by rw [up_n (by omega)]; omega)) ?_; intro u19 q19
  obtain ⟨o2, o3, o4⟩ := q19
  rw [up_n (by omega)] at o2 o3 o4
  have G : ∀ cc x : Nat, ¬ (cc = 34 ∧ x = 1) → ¬ cc = 35 → ¬ (cc = 2 ∧ x = 10) → u19 cc x = h cc x := fun cc x z1 z2 z3 => by rw [o4 cc x z1 (by omega), up_n z3]
  refine pc_sv (c_give (by rw [G 34 3 (by omega) (by omega) (by omega)]; omega)) ?_; intro u21 q21
  obtain ⟨g2, CP, eu⟩ := q21
  refine pc_ret ?_
  have tt : (t = 302 ∨ t = 300) := by omega
  have vt : VTn (bn X) t ∧ ¬ t = 303 := ⟨by unfold VTn; omega, by omega⟩
  have tyt : (bT X 167 e.toNat = 23 ∧ ty_T t = 2) ∨ (¬ bT X 167 e.toNat = 23 ∧ ty_T t = 1) := by
    rcases kk with ⟨x1, x2, x3, x4⟩ | ⟨x1, x2, x3, x4⟩ | ⟨x1, x2, x3, x4⟩
    · right; exact ⟨by omega, by rw [x4]; rfl⟩
    · right; exact ⟨by omega, by rw [x4]; rfl⟩
    · left; exact ⟨x1, by rw [x4]; rfl⟩
  have nl : ¬ bT X 167 e.toNat = 30 ∧ ¬ bT X 167 e.toNat = 31 ∧ ¬ bT X 167 e.toNat = 32 ∧ ¬ bT X 167 e.toNat = 37 ∧ ¬ bT X 167 e.toNat = 38 := by omega
  refine w_one b57 q4 (r_nled (by rw [T 167 (by omega)]; exact nl)) (fun d => ?_) d
  have OK : ∀ y : Int × ms_M, y = (ty_T t, up_M r 174 e.toNat (ty_T t)) → POk nn X 0 a b p (p + 1) e h r u21 y := fun y ey => by
    refine pok_give (t := t) (g := u19) (v := r) Q ⟨p1, by omega⟩ ne ?_ ?_ ?_ ?_ ?_ ?_ ?_ CP eu vt rfe_r q4 ey ?_
    · exact fun cc x a1 a2 a3 a4 a5 a6 a7 a8 => G cc x (by omega) (by omega) (by omega)
    · exact ⟨G 49 10 (by omega) (by omega) (by omega), fun cc x z1 z2 z3 => G cc x (by omega) (by omega) (by omega)⟩
    · rw [o4 2 10 (by omega) (by omega), up_s]
    · rw [G 2 11 (by omega) (by omega) (by omega)]; exact q3
    · exact frc_k f1 (fun cc x z => G cc x (by omega) (by omega) (by omega))
    · omega
    · rw [G 34 3 (by omega) (by omega) (by omega)]; omega
    · have u11 : u21 49 11 = 0 := by rw [eu, up_s]
      have u12 : u21 49 12 = t := by rw [eu, up_n (by omega), up_s]
      have u3 : u21 34 3 = h 34 3 + 1 := by rw [eu, up_n (by omega), up_n (by omega), CP.1, G 34 3 (by omega) (by omega) (by omega)]
      refine ⟨.inr ⟨u11, by omega, by rw [u12]; exact vt.2⟩, fun _ => .inl ⟨by omega, by omega, fun z => absurd z nl.1⟩, fun _ => ⟨⟨by rw [u12, if_neg vt.2]; exact u3, top_g CP (by rw [G 34 3 (by omega) (by omega) (by omega)]; omega) eu⟩, ?_⟩⟩
      refine mkc_leaf nl ne (fun PB WL L m d M A => ?_) (by omega)
      obtain ⟨MT, -, ⟨m1, m2, m3, m4⟩, -⟩ := mk_t M
      have m7 := MT 167 e.toNat (by omega)
      have m4' : m 174 e.toNat = ty_T t := by rw [A 174 e.toNat (by omega) (by omega) (by omega) (by omega), up_s]
      have STEP : Pc (qj_X13_workOne_147 nn (qg_X13_work nn d) (ty_T t) o m) (fun w => MKx X PB WL L u21 w ∧ w 160 88 = m 160 88) := by
        unfold qj_X13_workOne_147
        refine pc_sv (r_put (by omega)) ?_; intro u49 q49
        refine pc_sv r_push ?_; intro u51 q51
        have M1 : MKx X PB WL L (up_M h 2 10 ((p + 1 : Nat) : Int)) m := mkx_c M (fun cc x z1 z2 z3 => up_n (by omega))
        have CO : COp o (up_M h 2 10 ((p + 1 : Nat) : Int)) u19 := by
          refine ⟨by rw [up_n (by omega)]; exact o2, by rw [up_n (by omega)]; exact o3, ?_⟩
          rw [up_n (by omega)]; exact o4
        have M2 : MKx X PB WL L u19 u49 := mk_op M1 CO q49 (fun _ => rfl) (by unfold in_R; omega)
        refine pc_ret ⟨mkx_give M2 CP q51 ⟨rfl, vt⟩ eu, ?_⟩
        rw [q51.2.2.2.2 160 88 (by omega) (by omega), q49.2.2 160 88 (by omega) (by omega)]
      have S115 : Pc (qj_X13_workOne_115 nn (qg_X13_work nn d) e (ty_T t) m) (fun w => MKx X PB WL L u21 w ∧ w 160 88 = m 160 88) := by
        unfold qj_X13_workOne_115
        refine pc_rA ?_; intro _ _ v53 e53
        rw [m7] at e53
        refine pc_if (fun z => ?_) (fun z => ?_)
        · refine pc_rA ?_; intro _ _ v55 e55
          rw [m7] at e55
          refine pc_if (fun z2 => ?_) (fun z2 => ?_)
          · have o1 : o = 1 := by omega
            rw [o1] at STEP; exact STEP
          · have o3 : o = 3 := by omega
            rw [o3] at STEP; exact STEP
        · have o4 : o = 4 := by omega
          rw [o4] at STEP; exact STEP
      unfold qo_X13_workOne
      refine pc_rA ?_; intro _ _ v59 e59
      rw [m4'] at e59
      refine pc_rA ?_; intro _ _ v61 e61
      rw [m7] at e61
      rw [e59]
      refine pc_if (fun z => absurd z (by omega)) (fun _ => ?_)
      refine pc_if (fun _ => S115) (fun _ => ?_)
      refine pc_if (fun _ => S115) (fun _ => ?_)
      exact pc_if (fun _ => S115) (fun z => absurd z (by omega))
  have FIN : ∀ c : Int, c = ty_T t → Pc (some (c, r)) (fun u => ∀ z : ms_M, z = up_M u.2 174 e.toNat u.1 → (z 160 9 = 0 → POk nn X 0 a b p (p + 1) e h r u21 (u.1, z)) ∧ (¬ z 160 9 = 0 → POk nn X 0 a b p (p + 1) e h r u21 (0, z))) := fun c ec => pc_ret (fun z ez => ⟨fun _ => OK _ (by rw [ez, ec]), fun y => absurd (by rw [ez, up_n (by omega)]; exact q4) y⟩)
  unfold qo_X13_rule
  refine pc_rA ?_; intro _ _ v83 e83
  rw [T 167 (by omega)] at e83
  refine pc_if (fun z => absurd z (by omega)) (fun _ => ?_)
  refine pc_if (fun z => by unfold qj_X13_rule_98; exact FIN 1 (by omega)) (fun _ => ?_)
  refine pc_if (fun z => by unfold qj_X13_rule_98; exact FIN 1 (by omega)) (fun _ => ?_)
  exact pc_if (fun z => FIN 2 (by omega)) (fun z => absurd z (by omega))
end
end
section
/- E of both sides: numbers and this -/
/-- this, on the class's stack -/
def CTh (h u : ms_M) : Prop := ∃ g1 g2 g3 : ms_M, COp 25 h g1 ∧ COp 0 g1 g2 ∧ CPu (h 49 16) g2 g3 ∧ u = up_M (up_M g3 49 12 (h 49 16)) 49 11 0
section
variable {nn : Nat} {X : BCx} {dp i a b e t : Int} {p q : Nat} {h g g2 u r v w m : ms_M}
theorem cth_f (H : CTh h u) : (u 34 1 = h 34 1 + 2 ∧ u 34 3 = h 34 3 + 1 ∧ u 49 12 = h 49 16 ∧ u 49 11 = 0) ∧ ∀ cc x : Nat, ¬ (cc = 34 ∧ (x = 1 ∨ x = 3 ∨ x = 4)) → ¬ (cc = 35 ∨ cc = 36) → ¬ (cc = 49 ∧ (x = 11 ∨ x = 12)) → u cc x = h cc x := by
  obtain ⟨g1, g2, g3, ⟨a1, a2, a3⟩, ⟨b1, b2, b3⟩, ⟨c1, c2, c3, c4⟩, eu⟩ := H
  refine ⟨⟨?_, ?_, ?_, ?_⟩, fun cc x z1 z2 z3 => ?_⟩
  · rw [eu, up_n (by omega), up_n (by omega), c4 34 1 (by omega) (by omega), b1, a1]; omega
  · rw [eu, up_n (by omega), up_n (by omega), c1, b3 34 3 (by omega) (by omega), a3 34 3 (by omega) (by omega)]
  · rw [eu, up_n (by omega), up_s]
  · rw [eu, up_s]
  · rw [eu, up_n (by omega), up_n (by omega), c4 cc x (by omega) (by omega), b3 cc x (by omega) (by omega), a3 cc x (by omega) (by omega)]
theorem c_this {K P : Nat → Int} {c tk : Nat} {x : Int} (B : TBc K P c h) (hf : h 2 11 = 0) (ht : tk < c) (hx : x = (tk : Int)) (l1 : 0 ≤ h 34 1 ∧ h 34 1 ≤ 1000000) (l3 : 0 ≤ h 34 3 ∧ h 34 3 ≤ 1000000) : Pc (qf_X10_giveThis nn x h) (fun u => (h 49 17 = 0 ∧ CTh h u) ∨ (¬ h 49 17 = 0 ∧ u 2 11 = 7 ∧ u 2 12 = P tk)) := by
  unfold qf_X10_giveThis
  refine pc_if (fun z => ?_) (fun z => ?_)
  · unfold qj_X10_giveThis_17
    refine pc_sv (c_op2 l1) ?_; intro u3 ⟨g1, a1, a2⟩
    have e16 : u3 49 16 = h 49 16 := by rw [a2.2.2 49 16 (by omega) (by omega), a1.2.2 49 16 (by omega) (by omega)]
    rw [e16]
    refine pc_sv (c_give (by rw [a2.2.2 34 3 (by omega) (by omega), a1.2.2 34 3 (by omega) (by omega)]; omega)) ?_; intro u6 ⟨g3, b1, b2⟩
    exact pc_ret (.inl ⟨z, g1, u3, g3, a1, a2, b1, b2⟩)
  · refine pc_sv (c_tell B hf ht hx) ?_; intro u10 ⟨⟨t1, t2⟩, _⟩
    have S : ¬ u10 2 11 = 0 := by omega
    refine pc_imp (fs_qj_X10_giveThis_17 S) (fun u F => .inr ⟨z, by rw [F.1]; exact t1, by rw [F.2]; exact t2⟩)
theorem m_self {PB : Nat → Prop} {WL : Int → Int → Prop} {L : List (Int × Int)} (H : CTh h u) (e16 : h 49 16 = bo X) (Y : CXs X) (M : MKx X PB WL L h m) (bl : h 34 1 ≤ 1000000) : Pc (qf_X13_self nn m) (fun w => MKx X PB WL L u w ∧ w 160 88 = m 160 88) := by
  obtain ⟨g1, g2, g3, A1, A2, A3, eu⟩ := H
  have ow := Y.2.2.2.1
  have n8 := Y.2.2.1
  obtain ⟨-, -, ⟨m1, m2, m3, m4⟩, -, o1, o2, o3⟩ := mk_t M
  unfold qf_X13_self
  refine pc_sv (r_put (by omega)) ?_; intro u2 q2
  refine pc_sv (r_put (by rw [q2.1]; omega)) ?_; intro u4 q4
  have x52 : u4 160 52 = m 160 52 := by rw [q4.2.2 160 52 (by omega) (by omega), q2.2.2 160 52 (by omega) (by omega)]
  rw [x52]
  refine pc_xl ?_; intro v6 e6
  rw [oq_mul_eq (by omega) (by omega) (by omega)] at e6
  refine pc_add (by omega) ?_; intro v7 e7
  refine pc_sv r_push ?_; intro u9 q9
  have M1 : MKx X PB WL L g1 u2 := mk_op M A1 q2 (fun _ => rfl) (by unfold in_R; omega)
  have M2 : MKx X PB WL L g2 u4 := mk_op M1 A2 q4 (fun _ => rfl) (by unfold in_R; omega)
  refine pc_ret ⟨mkx_give M2 A3 q9 ⟨by rw [e16, ← o1]; omega, by rw [e16]; exact ⟨.inr (.inr (.inr (.inr (.inr (.inl (by omega)))))), by omega⟩⟩ eu, ?_⟩
  rw [q9.2.2.2.2 160 88 (by omega) (by omega), q4.2.2 160 88 (by omega) (by omega), q2.2.2 160 88 (by omega) (by omega)]
/-- this -/
theorem p_this (Y : CXs X) (Q : EPr X dp p h r) (b57 : 0 ≤ r 160 57 ∧ r 160 57 ≤ 10000) (ne : 0 ≤ a ∧ a ≤ e ∧ e < b) (nd : bT X 167 e.toNat = 24 ∧ bT X 168 e.toNat = (p : Int)) (kp : bK X p = 26) (p1 : p + 1 < bc X) (d : Nat) {x : Int} (hx : x = (p : Int)) : Pc (qf_X10_giveThis nn x (up_M h 2 10 ((p + 1 : Nat) : Int))) (fun u => Pc ((qg_X13_condition nn d).2.2.1 e r) (fun v => SFj u v.2 ∨ POk nn X 0 a b p (p + 1) e h r u v)) := by
  have Q0 := Q
  obtain ⟨B, ⟨q1, q2, q3, q4⟩, ⟨f1, f2, f3⟩, o1⟩ := Q0
  have T : ∀ cc : Nat, 163 ≤ cc ∧ cc ≤ 173 → r cc e.toNat = bT X cc e.toNat := fun cc z => B.2.2.2.2.2.1 cc e.toNat (by omega)
  have p3 := Y.1.2.1
  have H := B.1
  have TB : TBc (bK X) (bP X) (bc X) h := H.1.1.1
  have TQ : TBq (bK X) (bP X) (bc X) r := H.1.2.2.1
  have TB1 : TBc (bK X) (bP X) (bc X) (up_M h 2 10 ((p + 1 : Nat) : Int)) := tbc_k TB (fun cc y z => up_n (by omega))
  have nl : ¬ bT X 167 e.toNat = 30 ∧ ¬ bT X 167 e.toNat = 31 ∧ ¬ bT X 167 e.toNat = 32 ∧ ¬ bT X 167 e.toNat = 37 ∧ ¬ bT X 167 e.toNat = 38 := by omega
  refine pc_imp (c_this TB1 (by rw [up_n (by omega)]; exact q3) q2 hx (by rw [up_n (by omega)]; omega) (by rw [up_n (by omega)]; omega)) (fun u Z => ?_)
  rw [up_n (by omega)] at Z
  refine w_one b57 q4 (r_nled (by rw [T 167 (by omega)]; exact nl)) (fun d => ?_) d
  unfold qo_X13_rule
  refine pc_rA ?_; intro _ _ v83 e83
  rw [T 167 (by omega), nd.1] at e83
  rw [e83]
  refine pc_if (fun z => absurd z (by decide)) (fun _ => ?_)
  refine pc_if (fun z => absurd z (by decide)) (fun _ => ?_)
  refine pc_if (fun z => absurd z (by decide)) (fun _ => ?_)
  refine pc_if (fun z => absurd z (by decide)) (fun _ => ?_)
  refine pc_if (fun _ => ?_) (fun z => absurd rfl z)
  refine pc_if (fun z => ?_) (fun z => ?_)
  · rcases Z with ⟨z1, CT⟩ | ⟨z1, -⟩
    · unfold qj_X13_rule_121
      have ow := B.2.2.1
      have own := Y.2.2.2.1
      have n8 := Y.2.2.1
      rw [ow.2]
      refine pc_xl ?_; intro v80 e80
      rw [oq_mul_eq (by omega) (by omega) (by omega)] at e80
      refine pc_add (by omega) ?_; intro v81 e81
      have ty : ty_T (bo X) = 8 + 2 * bo X := by
        unfold ty_T
        rw [if_neg (by omega), if_neg (by omega), if_neg (by omega), if_neg (by omega), if_neg (by omega), if_pos (by omega)]
      have ey : v81 = ty_T (bo X) := by omega
      rw [ey]
      obtain ⟨⟨c1, c2, c3, c4⟩, c5⟩ := cth_f CT
      have CT0 := CT
      obtain ⟨g1, g2, g3, A1, A2, A3, eu⟩ := CT
      rw [up_n (by omega)] at c1
      rw [up_n (by omega)] at c2
      rw [up_n (by omega), ow.1] at c3
      have e16 : up_M h 2 10 ((p + 1 : Nat) : Int) 49 16 = bo X := by rw [up_n (by omega)]; exact ow.1
      rw [e16] at A3 eu
      have G2 : ∀ cc x : Nat, ¬ (cc = 34 ∧ x = 1) → ¬ cc = 35 → ¬ (cc = 2 ∧ x = 10) → g2 cc x = h cc x := fun cc x z1 z2 z3 => by rw [A2.2.2 cc x (by omega) (by omega), A1.2.2 cc x (by omega) (by omega), up_n z3]
      have l2 : g2 34 1 = h 34 1 + 2 := by rw [A2.1, A1.1, up_n (by omega)]; omega
      have vt : VTn (bn X) (bo X) ∧ ¬ bo X = 303 := ⟨by unfold VTn; omega, by omega⟩
      refine pc_ret (fun zz ez => ⟨fun _ => .inr ?_, fun y => absurd (by rw [ez, up_n (by omega)]; exact q4) y⟩)
      refine pok_give (t := bo X) (g := g2) (v := r) Q ⟨p1, by omega⟩ ne ?_ ?_ ?_ ?_ ?_ ?_ ?_ A3 eu vt rfe_r q4 (by rw [ez]) ?_
      · exact fun cc x a1 a2 a3 a4 a5 a6 a7 a8 => G2 cc x (by omega) (by omega) (by omega)
      · exact ⟨G2 49 10 (by omega) (by omega) (by omega), fun cc x z1 z2 z3 => G2 cc x (by omega) (by omega) (by omega)⟩
      · rw [A2.2.2 2 10 (by omega) (by omega), A1.2.2 2 10 (by omega) (by omega), up_s]
      · rw [G2 2 11 (by omega) (by omega) (by omega)]; exact q3
      · exact frc_k f1 (fun cc x z => G2 cc x (by omega) (by omega) (by omega))
      · omega
      · rw [G2 34 3 (by omega) (by omega) (by omega)]; omega
      · refine ⟨.inr ⟨c4, by omega, by rw [c3]; exact vt.2⟩, fun _ => .inl ⟨by omega, by omega, fun z => absurd z nl.1⟩, fun _ => ⟨⟨by rw [c3, if_neg vt.2]; exact c2, top_g A3 (by rw [G2 34 3 (by omega) (by omega) (by omega)]; omega) eu⟩, ?_⟩⟩
        refine mkc_leaf nl ne (fun PB WL L m d M A => ?_) (by omega)
        have MT := (mk_t M).1
        have M1 : MKx X PB WL L (up_M h 2 10 ((p + 1 : Nat) : Int)) m := mkx_c M (fun cc x z1 z2 z3 => up_n (by omega))
        unfold qo_X13_workOne
        refine pc_rA ?_; intro _ _ v59 e59
        refine pc_rA ?_; intro _ _ v61 e61
        rw [MT 167 e.toNat (by omega), nd.1] at e61
        rw [e61]
        refine pc_if (fun z => absurd z (by decide)) (fun _ => ?_)
        refine pc_if (fun z => absurd z (by decide)) (fun _ => ?_)
        refine pc_if (fun z => absurd z (by decide)) (fun _ => ?_)
        refine pc_if (fun z => absurd z (by decide)) (fun _ => ?_)
        refine pc_if (fun _ => ?_) (fun z => absurd rfl z)
        refine pc_sv (m_self CT0 e16 Y M1 (by rw [up_n (by omega)]; omega)) ?_; intro u104 q104
        exact pc_ret q104
    · exfalso
      rcases B.2.2.2.1 with ⟨y1, y2, -⟩ | ⟨y1, -⟩
      · exact z1 y2
      · exact y1 z
  · rcases Z with ⟨z1, CT⟩ | ⟨z1, z2, z3⟩
    · exfalso
      rcases B.2.2.2.1 with ⟨y1, y2, -⟩ | ⟨y1, y2, -⟩
      · exact z y1
      · exact y2 z1
    · refine pc_rA ?_; intro _ _ v105 e105
      rw [T 168 (by omega), nd.2] at e105
      refine pc_sv (r_wrong TQ q2 q4 e105) ?_; intro u107 ⟨w1, w2⟩
      have S : ¬ u107 160 9 = 0 := by omega
      refine pc_imp (ft_qj_X13_rule_121 (ftg_X13_condition nn d) S) (fun y F => fun zz ez => ?_)
      have y9 : zz 160 9 = 7 := by rw [ez, up_n (by omega), F.1]; exact w1
      have y10 : zz 160 10 = bP X p := by rw [ez, up_n (by omega), F.2]; exact w2
      refine ⟨fun y => absurd y (by omega), fun _ => .inl ⟨by omega, ?_, ?_⟩⟩
      · show zz 160 9 = u 2 11
        rw [y9, z2]
      · show zz 160 10 = u 2 12
        rw [y10, z3]
end
end
section
/- E of both sides: numbers -/
section
variable {nn : Nat} {X : BCx} {dp i a b e t : Int} {p q : Nat} {h g g2 u r v w m : ms_M}
/-- MK knows the pools -/
theorem mk_pl {PB : Nat → Prop} {WL : Int → Int → Prop} {L : List (Int × Int)} (M : MKx X PB WL L h m) : PLR h m ∧ MBd m ∧ SPL m [] ∧ TXE (bK X) (bV X) (bC X) (bW X) (bn X) (bA X) (bB X) h m := by
  obtain ⟨⟨-, -, -, ⟨-, -, ⟨p1, p2, p3⟩, t, -⟩⟩, -⟩ := M
  exact ⟨p1, p2, p3, t⟩
/-- .. also behind a byte -/
theorem mk_plp {PB : Nat → Prop} {WL : Int → Int → Prop} {L : List (Int × Int)} {o : Int} (M : MKx X PB WL L h m) (B : RPt o m w) : PLR h w ∧ MBd w ∧ SPL w [] ∧ TXE (bK X) (bV X) (bC X) (bW X) (bn X) (bA X) (bB X) h w := by
  obtain ⟨p1, p2, p3, p4⟩ := mk_pl M
  have E : ∀ cc x : Nat, ¬ (cc = 160 ∧ x = 68) → ¬ cc = 206 → w cc x = m cc x := fun cc x z1 z2 => B.2.2 cc x z1 (by omega)
  exact ⟨plr_k p1 (fun _ _ _ => rfl) (fun cc y z => E cc y (by omega) (by omega)), ⟨by rw [E 160 62 (by omega) (by omega)]; exact p2.1, by rw [E 160 64 (by omega) (by omega)]; exact p2.2⟩, spl_k p3 (fun cc y z => E cc y (by omega) (by omega)), txe_k p4 (fun _ _ _ => rfl) (fun cc y z => E cc y (by omega) (by omega))⟩
theorem spl_c {t x y z : Int} (S : SPL m []) : Pc (qf_X13_constant nn t x y z m) (fun w => SPL w.2 []) := fun w ew => spl_k S (fun cc k q => ff_X13_constant nn w ew cc k (nw_of (by unfold wl_X13_constant; simp only [List.mem_cons, List.not_mem_nil, or_false]; omega) (by unfold wf_X13_constant; simp only [List.mem_cons, List.not_mem_nil, or_false, Prod.mk.injEq]; omega)))
/-- the class's pool leaves all else -/
theorem c_cfr {t x : Int} : Pc (qf_X6_constant nn t x h) (fun u => ∀ cc y : Nat, ¬ (cc = 45 ∧ (y = 4 ∨ y = 5)) → ¬ cc = 46 → ¬ cc = 47 → u.2 cc y = h cc y) := fun u eu cc y z1 z2 z3 => ff_X6_constant nn u eu cc y (nw_of (by unfold wl_X6_constant; simp only [List.mem_cons, List.not_mem_nil, or_false]; omega) (by unfold wf_X6_constant; simp only [List.mem_cons, List.not_mem_nil, or_false, Prod.mk.injEq]; omega))
theorem c_num {x : Int} (hx : 0 ≤ x ∧ x ≤ 2147483647) (l1 : 0 ≤ h 34 1 ∧ h 34 1 ≤ 1000000) (l3 : 0 ≤ h 34 3 ∧ h 34 3 ≤ 1000000) : Pc (qf_X10_readNumber nn x h) (fun u => ∃ g g2, CPu 301 g g2 ∧ u = up_M (up_M g2 49 12 301) 49 11 0 ∧ (h 34 1 ≤ g 34 1 ∧ g 34 1 ≤ h 34 1 + 2) ∧ (∀ cc y : Nat, ¬ (cc = 34 ∧ y = 1) → ¬ cc = 35 → ¬ (cc = 45 ∧ (y = 4 ∨ y = 5)) → ¬ (cc = 46 ∨ cc = 47) → g cc y = h cc y) ∧ ∀ (PB : Nat → Prop) (WL : Int → Int → Prop) (L : List (Int × Int)) (m : ms_M) (k : Int), MKx X PB WL L h m → m 166 k.toNat = x → Pc (qf_X13_number nn k m) (fun w => MKx X PB WL L u w ∧ w 160 88 = m 160 88)) := by
  have FIN : ∀ g : ms_M, g 34 3 = h 34 3 → (h 34 1 ≤ g 34 1 ∧ g 34 1 ≤ h 34 1 + 2) → (∀ cc y : Nat, ¬ (cc = 34 ∧ y = 1) → ¬ cc = 35 → ¬ (cc = 45 ∧ (y = 4 ∨ y = 5)) → ¬ (cc = 46 ∨ cc = 47) → g cc y = h cc y) → (∀ (PB : Nat → Prop) (WL : Int → Int → Prop) (L : List (Int × Int)) (m : ms_M) (k : Int) (Z : ms_M → Prop), MKx X PB WL L h m → m 166 k.toNat = x → (∀ w : ms_M, MKx X PB WL L g w → w 160 88 = m 160 88 → Pc (qj_X13_number_60 nn w) Z) → Pc (qf_X13_number nn k m) Z) → Pc (qj_X10_readNumber_54 nn g) (fun u => ∃ g g2, CPu 301 g g2 ∧ u = up_M (up_M g2 49 12 301) 49 11 0 ∧ (h 34 1 ≤ g 34 1 ∧ g 34 1 ≤ h 34 1 + 2) ∧ (∀ cc y : Nat, ¬ (cc = 34 ∧ y = 1) → ¬ cc = 35 → ¬ (cc = 45 ∧ (y = 4 ∨ y = 5)) → ¬ (cc = 46 ∨ cc = 47) → g cc y = h cc y) ∧ ∀ (PB : Nat → Prop) (WL : Int → Int → Prop) (L : List (Int × Int)) (m : ms_M) (k : Int), MKx X PB WL L h m → m 166 k.toNat = x → Pc (qf_X13_number nn k m) (fun w => MKx X PB WL L u w ∧ w 160 88 = m 160 88)) := fun g g3 g1 G NM => by
    unfold qj_X10_readNumber_54
    refine pc_sv (c_give (by omega)) ?_; intro u2 ⟨g2, b1, b2⟩
    refine pc_ret ⟨g, g2, b1, b2, g1, G, fun PB WL L m k M ek => ?_⟩
    refine NM PB WL L m k _ M ek (fun w Mw w8 => ?_)
    unfold qj_X13_number_60
    refine pc_sv r_push ?_; intro u2' q2
    exact pc_ret ⟨mkx_give Mw b1 q2 ⟨rfl, .inl rfl, by decide⟩ b2, by rw [q2.2.2.2.2 160 88 (by omega) (by omega)]; exact w8⟩
  unfold qf_X10_readNumber
  refine pc_if (fun z5 => ?_) (fun z5 => ?_)
  · refine pc_if (fun z7 => ?_) (fun z7 => ?_)
    · unfold qf_X6_numberOf
      refine pc_sv (pc_sv (pc_and c_cfr (fun u eu => eu)) (fun k hk => pc_ret (Q := fun y : Int × ms_M => (∀ cc z : Nat, ¬ (cc = 45 ∧ (z = 4 ∨ z = 5)) → ¬ cc = 46 → ¬ cc = 47 → y.2 cc z = h cc z) ∧ qf_X6_constant nn 2 x h = some y) hk)) ?_; intro u6 ⟨G6, e6⟩
      refine pc_sv (c_op2 (by rw [G6 34 1 (by omega) (by omega) (by omega)]; omega)) ?_; intro u8 ⟨g1, A1, A2⟩
      have l6 := G6 34 1 (by omega) (by omega) (by omega)
      refine FIN u8 (by rw [A2.2.2 34 3 (by omega) (by omega), A1.2.2 34 3 (by omega) (by omega)]; exact G6 34 3 (by omega) (by omega) (by omega)) (by rw [A2.1, A1.1]; omega) (fun cc y z1 z2 z3 z4 => by rw [A2.2.2 cc y (by omega) (by omega), A1.2.2 cc y (by omega) (by omega)]; exact G6 cc y z3 (by omega) (by omega)) (fun PB WL L m k Z M ek TT => ?_)
      obtain ⟨-, -, ⟨m1, m2, m3, m4⟩, -⟩ := mk_t M
      unfold qf_X13_number
      refine pc_rA ?_; intro _ _ v4 e4
      rw [ek] at e4
      rw [e4]
      refine pc_if (fun _ => ?_) (fun z => absurd z5 z)
      refine pc_if (fun _ => ?_) (fun z => absurd z7 z)
      refine pc_sv (r_put (by omega)) ?_; intro w6 q6
      obtain ⟨p1, p2, p3, p4⟩ := mk_plp M q6
      refine pc_sv (pc_and ((j_const (t := 2) (x := x) (a := x) (b := 0) (c := 0) (.inl ⟨.inl rfl, rfl, rfl, rfl⟩) p1 p2) u6 e6) (spl_c p3)) ?_; intro w8 ⟨PC, SP⟩
      refine pc_sv (r_put (by rw [PC.2.2.2.2.1 160 68 (by omega) (by omega), q6.1]; omega)) ?_; intro w10 q10
      refine TT w10 (mk_opc M q6 PC SP A1 A2 q10 (by unfold in_R; omega)) ?_
      rw [q10.2.2 160 88 (by omega) (by omega), PC.2.2.2.2.1 160 88 (by omega) (by omega), q6.2.2 160 88 (by omega) (by omega)]
    · refine pc_sv (c_op2 l1) ?_; intro u8 ⟨g1, A1, A2⟩
      refine FIN u8 (by rw [A2.2.2 34 3 (by omega) (by omega), A1.2.2 34 3 (by omega) (by omega)]) (by rw [A2.1, A1.1]; omega) (fun cc y z1 z2 z3 z4 => by rw [A2.2.2 cc y (by omega) (by omega), A1.2.2 cc y (by omega) (by omega)]) (fun PB WL L m k Z M ek TT => ?_)
      obtain ⟨-, -, ⟨m1, m2, m3, m4⟩, -⟩ := mk_t M
      unfold qf_X13_number
      refine pc_rA ?_; intro _ _ v4 e4
      rw [ek] at e4
      rw [e4]
      refine pc_if (fun _ => ?_) (fun z => absurd z5 z)
      refine pc_if (fun z => absurd z z7) (fun _ => ?_)
      refine pc_sv (r_put (by omega)) ?_; intro w6 q6
      refine pc_sv (r_put (by rw [q6.1]; omega)) ?_; intro w8 q8
      refine TT w8 (mk_op (mk_op M A1 q6 (fun _ => rfl) (by unfold in_R; omega)) A2 q8 (fun _ => rfl) (by unfold in_R; omega)) ?_
      rw [q8.2.2 160 88 (by omega) (by omega), q6.2.2 160 88 (by omega) (by omega)]
  · refine pc_add (by omega) ?_; intro v14 e14
    refine pc_sv (c_op (by omega)) ?_; intro u16 A1
    refine FIN u16 (A1.2.2 34 3 (by omega) (by omega)) (by rw [A1.1]; omega) (fun cc y z1 z2 z3 z4 => A1.2.2 cc y (by omega) (by omega)) (fun PB WL L m k Z M ek TT => ?_)
    obtain ⟨-, -, ⟨m1, m2, m3, m4⟩, -⟩ := mk_t M
    unfold qf_X13_number
    refine pc_rA ?_; intro _ _ v4 e4
    rw [ek] at e4
    rw [e4]
    refine pc_if (fun z => absurd z z5) (fun _ => ?_)
    refine pc_add (by omega) ?_; intro v16 e16
    refine pc_sv (r_put (by omega)) ?_; intro w6 q6
    refine TT w6 (mk_op M A1 q6 (fun _ => by omega) (by unfold in_R; omega)) ?_
    rw [q6.2.2 160 88 (by omega) (by omega)]
theorem p_num (Y : CXs X) (Q : EPr X dp p h r) (b57 : 0 ≤ r 160 57 ∧ r 160 57 ≤ 10000) (ne : 0 ≤ a ∧ a ≤ e ∧ e < b) (nd : bT X 167 e.toNat = 20 ∧ bT X 168 e.toNat = (p : Int)) (kp : bK X p = 3) (p1 : p + 1 < bc X) (d : Nat) {x : Int} (hx : x = h 5 p) : Pc (qf_X10_readNumber nn x (up_M h 2 10 ((p + 1 : Nat) : Int))) (fun u => Pc ((qg_X13_condition nn d).2.2.1 e r) (fun v => POk nn X 0 a b p (p + 1) e h r u v)) := by
  have Q0 := Q
  obtain ⟨B, ⟨q1, q2, q3, q4⟩, ⟨f1, f2, f3⟩, o1⟩ := Q0
  have T : ∀ cc : Nat, 163 ≤ cc ∧ cc ≤ 173 → r cc e.toNat = bT X cc e.toNat := fun cc z => B.2.2.2.2.2.1 cc e.toNat (by omega)
  have p3 := Y.1.2.1
  have xv : x = bT X 166 p := by rw [hx]; exact B.2.2.2.2.1 p q2 kp
  have xr := Y.2.2.2.2.2.1 p q2 kp
  have nl : ¬ bT X 167 e.toNat = 30 ∧ ¬ bT X 167 e.toNat = 31 ∧ ¬ bT X 167 e.toNat = 32 ∧ ¬ bT X 167 e.toNat = 37 ∧ ¬ bT X 167 e.toNat = 38 := by omega
  refine pc_imp (c_num (X := X) (by omega) (by rw [up_n (by omega)]; omega) (by rw [up_n (by omega)]; omega)) (fun u Z => ?_)
  obtain ⟨g, g2, CP, eu, l1, G, NM⟩ := Z
  rw [up_n (by omega)] at l1
  have G2 : ∀ cc y : Nat, ¬ (cc = 34 ∧ y = 1) → ¬ cc = 35 → ¬ (cc = 45 ∧ (y = 4 ∨ y = 5)) → ¬ (cc = 46 ∨ cc = 47) → ¬ (cc = 2 ∧ y = 10) → g cc y = h cc y := fun cc y z1 z2 z3 z4 z5 => by rw [G cc y z1 z2 z3 z4, up_n z5]
  refine w_one b57 q4 (r_nled (by rw [T 167 (by omega)]; exact nl)) (fun d => ?_) d
  unfold qo_X13_rule
  refine pc_rA ?_; intro _ _ v83 e83
  rw [T 167 (by omega), nd.1] at e83
  rw [e83]
  refine pc_if (fun _ => ?_) (fun z => absurd rfl z)
  have vt : VTn (bn X) 301 ∧ ¬ (301 : Int) = 303 := ⟨.inl rfl, by decide⟩
  refine pc_ret (fun zz ez => ⟨fun _ => ?_, fun y => absurd (by rw [ez, up_n (by omega)]; exact q4) y⟩)
  have u11 : u 49 11 = 0 := by rw [eu, up_s]
  have u12 : u 49 12 = 301 := by rw [eu, up_n (by omega), up_s]
  have u3 : u 34 3 = h 34 3 + 1 := by rw [eu, up_n (by omega), up_n (by omega), CP.1, G2 34 3 (by omega) (by omega) (by omega) (by omega) (by omega)]
  refine pok_give (t := 301) (g := g) (v := r) Q ⟨p1, by omega⟩ ne ?_ ?_ ?_ ?_ ?_ ?_ ?_ CP eu vt rfe_r q4 (by rw [ez]; rfl) ?_
  · exact fun cc x a1 a2 a3 a4 a5 a6 a7 a8 => G2 cc x (by omega) (by omega) (by omega) (by omega) (by omega)
  · exact ⟨G2 49 10 (by omega) (by omega) (by omega) (by omega) (by omega), fun cc x z1 z2 z3 => G2 cc x (by omega) (by omega) (by omega) (by omega) (by omega)⟩
  · rw [G 2 10 (by omega) (by omega) (by omega) (by omega), up_s]
  · rw [G2 2 11 (by omega) (by omega) (by omega) (by omega) (by omega)]; exact q3
  · exact frc_k f1 (fun cc x z => G2 cc x (by omega) (by omega) (by omega) (by omega) (by omega))
  · omega
  · rw [G2 34 3 (by omega) (by omega) (by omega) (by omega) (by omega)]; omega
  · refine ⟨.inr ⟨u11, by omega, by rw [u12]; exact vt.2⟩, fun _ => .inl ⟨by omega, by omega, fun z => absurd z nl.1⟩, fun _ => ⟨⟨by rw [u12, if_neg vt.2]; exact u3, top_g CP (by rw [G2 34 3 (by omega) (by omega) (by omega) (by omega) (by omega)]; omega) eu⟩, ?_⟩⟩
    refine mkc_leaf nl ne (fun PB WL L m d M A => ?_) (by omega)
    have MT := (mk_t M).1
    have M1 : MKx X PB WL L (up_M h 2 10 ((p + 1 : Nat) : Int)) m := mkx_c M (fun cc x z1 z2 z3 => up_n (by omega))
    unfold qo_X13_workOne
    refine pc_rA ?_; intro _ _ v59 e59
    refine pc_rA ?_; intro _ _ v61 e61
    rw [MT 167 e.toNat (by omega), nd.1] at e61
    rw [e61]
    refine pc_if (fun _ => ?_) (fun z => absurd rfl z)
    refine pc_rA ?_; intro _ _ v100 e100
    rw [MT 168 e.toNat (by omega), nd.2] at e100
    refine pc_sv (NM PB WL L m v100 M1 (by rw [MT 166 _ (by omega), e100, Int.toNat_natCast]; exact xv.symm)) ?_; intro u102 q102
    exact pc_ret q102
end
end
section
/- E of both sides: one that is led, and what fetches -/
section
variable {nn : Nat} {X : BCx} {dp i a b e t : Int} {p q q1 : Nat} {h g g2 u r v w m : ms_M}
theorem m_led (k : (m 167 e.toNat = 30 ∨ m 167 e.toNat = 32 ∨ m 167 e.toNat = 37 ∨ m 167 e.toNat = 38) ∨ (m 167 e.toNat = 31 ∧ m 176 e.toNat = -1)) : Pc (qf_X13_isLedInWords nn e m) (fun u => ¬ u = 0) := by
  unfold qf_X13_isLedInWords
  refine pc_rA ?_; intro _ _ v2 e2
  refine pc_if (fun _ => pc_ret (by decide)) (fun z1 => ?_)
  refine pc_if (fun _ => pc_ret (by decide)) (fun z2 => ?_)
  refine pc_if (fun _ => pc_ret (by decide)) (fun z3 => ?_)
  refine pc_if (fun _ => pc_ret (by decide)) (fun z4 => ?_)
  refine pc_if (fun z5 => absurd k (by omega)) (fun z5 => ?_)
  refine pc_rA ?_; intro _ _ v4 e4
  exact pc_if (fun z6 => absurd k (by omega)) (fun _ => pc_ret (by decide))
theorem r_led4 (k : r 167 e.toNat = 30 ∨ r 167 e.toNat = 32 ∨ r 167 e.toNat = 37 ∨ r 167 e.toNat = 38) : Pc (qf_X13_isLed nn e r) (fun u => ¬ u = 0) := by
  unfold qf_X13_isLed
  refine pc_rA ?_; intro _ _ v2 e2
  refine pc_if (fun _ => pc_ret (by decide)) (fun z1 => ?_)
  refine pc_if (fun _ => pc_ret (by decide)) (fun z2 => ?_)
  refine pc_if (fun _ => pc_ret (by decide)) (fun z3 => ?_)
  exact pc_if (fun _ => pc_ret (by decide)) (fun z4 => absurd k (by omega))
/-- what work leaves of the nodes -/
theorem wk_an (d : Nat) {x : Int} : Pc ((qg_X13_work nn d).1 x m) (fun z => ∀ cc y : Nat, 174 ≤ cc → cc ≤ 176 → z cc y = m cc y) := fun z ez cc y c1 c2 => (fg_X13_work nn d).1 z ez cc y (nw_of (by unfold wl_X13_work; simp only [List.mem_cons, List.not_mem_nil, or_false]; omega) (by unfold wf_X13_work; simp only [List.mem_cons, List.not_mem_nil, or_false, Prod.mk.injEq]; omega))
theorem mkc_led (kd : (bT X 167 e.toNat = 30 ∨ bT X 167 e.toNat = 32 ∨ bT X 167 e.toNat = 37 ∨ bT X 167 e.toNat = 38) ∨ (bT X 167 e.toNat = 31 ∧ v 176 e.toNat = -1)) (ne : 0 ≤ a ∧ a ≤ e ∧ e < b) (M1 : MKC nn X (bT X 170 e.toNat) a e p q1 h g v) (qq : q1 ≤ q) (R : ∀ (PB : Nat → Prop) (WL : Int → Int → Prop) (L : List (Int × Int)) (m : ms_M) (d : Nat), MKx X PB WL L g m → AN a b v m → (0 ≤ m 160 57 ∧ m 160 57 + (b - a) < 9000) → m 160 88 + 4 * (q : Int) ≤ 2000000000 + 4 * (q1 : Int) → Pc (qo_X13_workOne nn (qg_X13_work nn d) e m) (fun w => MKx X PB WL L u w ∧ (m 160 88 ≤ w 160 88 ∧ w 160 88 + 4 * (q1 : Int) ≤ m 160 88 + 4 * (q : Int)))) : MKC nn X e a b p q h u v := fun d PB WL L m M A z1 z2 => by
  cases d with
  | zero => exact pc_none
  | succ d =>
    have MT := (mk_t M).1
    have t7 := MT 167 e.toNat (by omega)
    have t0 := MT 170 e.toNat (by omega)
    have a6 := A 176 e.toNat (by omega) (by omega) (by omega) (by omega)
    refine mw_ldd (rk_work1 d) (R := fun z => MKx X PB WL L g z ∧ (z 160 57 = m 160 57 + 1 ∧ z 199 (m 160 57).toNat = e) ∧ (∀ cc x : Nat, 174 ≤ cc → cc ≤ 176 → z cc x = m cc x) ∧ (m 160 88 ≤ z 160 88 ∧ z 160 88 + 4 * (p : Int) ≤ m 160 88 + 4 * (q1 : Int))) ?_ rfl (by omega) (m_led (by rw [t7, a6]; exact kd)) ?_
    · intro z hz k2
      obtain ⟨Mz, ⟨z57, zr⟩, zA, zl⟩ := hz
      refine mw_pop (rk_work1 d) (by omega) z57 zr ?_ k2
      have Mz2 : MKx X PB WL L g (up_M z 160 57 (m 160 57)) := mk_r Mz (fun cc x y => up_n (by rcases y with y | y | y <;> first | (unfold RLm at y; omega) | omega))
      cases d with
      | zero => exact pc_none
      | succ d =>
        have X1 := R PB WL L _ d Mz2 (an_m A (fun cc x c1 c2 => by rw [up_n (by omega)]; exact zA cc x c1 c2)) (by rw [up_s]; omega) (by rw [up_n (by omega)]; omega)
        rw [up_n (by omega)] at X1
        exact pc_imp X1 (fun w y => ⟨y.1, by omega⟩)
    · intro g' eg
      rw [t0]
      have E1 : ∀ cc x : Nat, ¬ cc = 199 → ¬ (cc = 160 ∧ x = 57) → g' cc x = m cc x := fun cc x y1 y2 => by rw [eg, up_n (by omega), up_n (by omega)]
      have g57 : g' 160 57 = m 160 57 + 1 := by rw [eg, up_s]
      have gr : g' 199 (m 160 57).toNat = e := by rw [eg, up_n (by omega), up_s]
      have Mg : MKx X PB WL L h g' := mk_r M (fun cc x y => E1 cc x (by rcases y with y | y | y <;> first | (unfold RLm at y; omega) | omega) (by rcases y with y | y | y <;> first | (unfold RLm at y; omega) | omega))
      have RK := (rkg_work nn (d + 1)).1 (a1 := bT X 170 e.toNat) (h := g') (by omega)
      have W1 := M1 (d + 1) PB WL L g' Mg (an_s (v1 := v) (an_m A (fun cc x c1 c2 => E1 cc x (by omega) (by omega))) ⟨Int.le_refl _, by omega⟩ (fun _ _ _ _ _ _ => rfl)) (by omega) (by rw [E1 160 88 (by omega) (by omega)]; omega)
      refine pc_imp (pc_and W1 (pc_and RK (wk_an (d + 1)))) (fun z y => ?_)
      obtain ⟨⟨y1, y2⟩, ⟨y3, y4⟩, y5⟩ := y
      rw [E1 160 88 (by omega) (by omega)] at y2
      exact ⟨y1, ⟨by rw [y3]; exact g57, by rw [y4 _ (by omega)]; exact gr⟩, fun cc x c1 c2 => by rw [y5 cc x c1 c2]; exact E1 cc x (by omega) (by omega), y2⟩
theorem c_isNum {t : Int} : Pc (qf_X4_isNumber nn t h) (fun u => (u = 1 ∧ (t = 301 ∨ t = 302)) ∨ (u = 0 ∧ ¬ t = 301 ∧ ¬ t = 302)) := by
  unfold qf_X4_isNumber
  refine pc_if (fun z => pc_ret (.inl ⟨rfl, .inl z⟩)) (fun z => ?_)
  exact pc_if (fun z2 => pc_ret (.inr ⟨rfl, z, z2⟩)) (fun z2 => pc_ret (.inl ⟨rfl, .inr (Classical.byContradiction z2)⟩))
theorem ty_num (n8 : bn X ≤ 8) (V : VTn (bn X) t) : ty_T t ≤ 1 ↔ (t = 301 ∨ t = 302) := by
  have c := ty_c (vtn_v n8 V)
  omega
end
end
