/- CODE of both sides held together: all of it -/
def HDJ (n : Nat) (h m : ms_M) : Prop := 0 ≤ m 160 84 ∧ (m 160 84 ≤ 20 → h 34 10 = m 160 84) ∧ (20 < m 160 84 → h 34 10 = 20 ∧ h 34 15 = 1) ∧ ∀ k : Nat, (k : Int) < h 34 10 → h 39 (4 * k) = m 213 k ∧ h 39 (4 * k + 1) = m 214 k ∧ h 39 (4 * k + 2) = m 215 k ∧ TJ n (m 216 k) (h 39 (4 * k + 3)) ∧ 0 ≤ h 39 (4 * k + 3) ∧ h 39 (4 * k + 3) < 100
/-- what stays over an E -/
def SCt (n : Nat) (F : Nat) (own : Int) (T h m : ms_M) : Prop := ((h 34 8 = m 160 72 + (F : Int) ∧ h 34 8 ≤ 750) ∧ h 34 7 ≤ h 34 8 ∧ ∀ s : Nat, (s : Int) < h 34 7 → VTn n (h 38 s) ∧ ¬ h 38 s = 303) ∧ ((m 160 53 = 0 ∧ F = 1) ∨ (¬ m 160 53 = 0 ∧ F = 0)) ∧ (8 + 2 * m 160 52 = ty_T own ∧ 0 ≤ m 160 52 ∧ m 160 52 ≤ 100) ∧ m 160 9 = 0 ∧ ∀ cc x : Nat, ((163 ≤ cc ∧ cc ≤ 173) ∨ cc = 177) → m cc x = T cc x
def MBq (K V : Nat → Int) (C : Nat → Nat) (W : Nat → List Int) (n F : Nat) (own : Int) (a b T h m : ms_M) : Prop := SGV K V F own h m ∧ HDJ n h m ∧ (PLR h m ∧ MBd m ∧ SPL m []) ∧ TXE K V C W n a b h m ∧ SCt n F own T h m
/-- the jumps that wait: their places rise, their labels are given out -/
def JLb (L : List (Int × Int)) (m : ms_M) : Prop := L.length ≤ 3000 ∧ (∀ i : Nat, i < L.length → 0 ≤ (L.getD i (0, 0)).1 ∧ (L.getD i (0, 0)).1 + 3 ≤ m 160 68 ∧ (L.getD i (0, 0)).2 ≤ m 160 88) ∧ (∀ i j : Nat, i < j → j < L.length → (L.getD i (0, 0)).1 + 3 ≤ (L.getD j (0, 0)).1) ∧ 0 ≤ m 160 88
def FRK (n : Nat) (WL : Int → Int → Prop) (L : List (Int × Int)) (h m : ms_M) : Prop := (FRc h ∧ FRr m ∧ 0 ≤ m 160 79 ∧ m 160 79 ≤ 60000) ∧ ((m 160 78 + (L.length : Int) ≤ m 160 68 + m 160 84 ∧ m 160 84 ≤ 1000) ∧ ∀ p n, WL p n → p < m 160 68) ∧ (OKM h → m 160 79 + 51 * (L.length : Int) ≤ 17 * (m 160 68 + 3 * m 160 84) ∧ FRJ n WL h m)
/-- all but the stack -/
def MA (K V : Nat → Int) (C : Nat → Nat) (W : Nat → List Int) (n F : Nat) (own : Int) (a b T : ms_M) (PB : Nat → Prop) (WL : Int → Int → Prop) (L : List (Int × Int)) (h m : ms_M) : Prop := CBY PB h m ∧ (JLs m L ∧ JLb L m) ∧ FRK n WL L h m ∧ MBq K V C W n F own a b T h m
def MK (K V : Nat → Int) (C : Nat → Nat) (W : Nat → List Int) (n F : Nat) (own : Int) (a b T : ms_M) (PB : Nat → Prop) (WL : Int → Int → Prop) (L : List (Int × Int)) (h m : ms_M) : Prop := MA K V C W n F own a b T PB WL L h m ∧ SKJ n h m
/-- the cells of the class, and of the reference, that MA looks at -/
def RLc (cc x : Nat) : Prop := (cc = 34 ∧ ¬ x = 3 ∧ ¬ x = 4) ∨ (35 ≤ cc ∧ cc ≤ 42 ∧ ¬ cc = 36) ∨ (45 ≤ cc ∧ cc ≤ 47) ∨ (6 ≤ cc ∧ cc ≤ 9) ∨ (17 ≤ cc ∧ cc ≤ 30) ∨ (cc = 2 ∧ x = 9)
def RLm (cc x : Nat) : Prop := (cc = 160 ∧ ¬ x = 57 ∧ ¬ x = 70 ∧ ¬ x = 71) ∨ (162 ≤ cc ∧ cc ≤ 173) ∨ (177 ≤ cc ∧ cc ≤ 197) ∨ (200 ≤ cc ∧ cc ≤ 206) ∨ (208 ≤ cc ∧ cc ≤ 218)
section
variable {nn : Nat} {K V : Nat → Int} {C : Nat → Nat} {W : Nat → List Int} {n F : Nat} {own : Int} {a b T h g u m w : ms_M} {PB : Nat → Prop} {WL : Int → Int → Prop} {L L2 : List (Int × Int)}
theorem plr_k (R : PLR h m) (e1 : ∀ cc y : Nat, (cc = 45 ∧ (y = 4 ∨ y = 5)) ∨ cc = 46 ∨ cc = 47 ∨ cc = 6 ∨ cc = 7 ∨ (cc = 2 ∧ y = 9) → g cc y = h cc y) (e2 : ∀ cc y : Nat, (cc = 160 ∧ (y = 62 ∨ y = 64)) ∨ (200 ≤ cc ∧ cc ≤ 204) → w cc y = m cc y) : PLR g w := by
  rcases R with ⟨r1, r2, cn, r3, r4, r5, r6⟩ | ⟨r1, r2⟩
  · refine .inl ⟨by rw [e1 45 5 (by omega)]; exact r1, by rw [e2 160 64 (by omega)]; exact r2, cn, by rw [e1 45 4 (by omega)]; exact r3, by rw [e2 160 62 (by omega)]; exact r4, r5, fun k k1 k2 => ?_⟩
    exact pce_k (r6 k k1 k2) (fun cc y z => e1 cc y (by omega)) (fun x L z => nmz_k z (fun cc y q => e1 cc y (by omega))) (fun cc y z => e2 cc y (by omega)) (fun y _ => e2 204 y (by omega)) (by rw [e2 160 64 (by omega)]; exact Int.le_refl _)
  · exact .inr ⟨by rw [e1 45 5 (by omega)]; exact r1, by rw [e2 160 62 (by omega)]; exact r2⟩
theorem spl_k {Z : List Int} (S : SPL m Z) (e : ∀ cc y : Nat, (cc = 160 ∧ y = 66) ∨ cc = 205 → w cc y = m cc y) : SPL w Z := ⟨by rw [e 160 66 (by omega)]; exact S.1, fun k hk => by rw [e 205 k (by omega)]; exact S.2 k hk⟩
theorem hdj_k (H : HDJ n h m) (e1 : ∀ cc x : Nat, (cc = 34 ∧ x = 10) ∨ cc = 39 → g cc x = h cc x) (e15 : h 34 15 = 1 → g 34 15 = 1) (e2 : ∀ cc x : Nat, (cc = 160 ∧ x = 84) ∨ (213 ≤ cc ∧ cc ≤ 216) → w cc x = m cc x) : HDJ n g w := by
  obtain ⟨a1, a2, a3, a4⟩ := H
  have x10 := e1 34 10 (by omega)
  have x84 := e2 160 84 (by omega)
  refine ⟨by rw [x84]; exact a1, by rw [x84, x10]; exact a2, by rw [x84, x10]; exact fun z => ⟨(a3 z).1, e15 (a3 z).2⟩, fun k hk => ?_⟩
  rw [x10] at hk
  rw [e1 39 _ (by omega), e1 39 _ (by omega), e1 39 _ (by omega), e1 39 _ (by omega), e2 213 k (by omega), e2 214 k (by omega), e2 215 k (by omega), e2 216 k (by omega)]
  exact a4 k hk
theorem sct_k (S : SCt n F own T h m) (e1 : ∀ cc x : Nat, (cc = 34 ∧ (x = 7 ∨ x = 8)) ∨ cc = 38 → g cc x = h cc x) (e2 : ∀ cc x : Nat, (cc = 160 ∧ (x = 9 ∨ x = 52 ∨ x = 53 ∨ x = 72)) ∨ (163 ≤ cc ∧ cc ≤ 173) ∨ cc = 177 → w cc x = m cc x) : SCt n F own T g w := by
  obtain ⟨s1, s2, s3, s4, s5⟩ := S
  refine ⟨⟨by rw [e1 34 8 (by omega), e2 160 72 (by omega)]; exact s1.1, by rw [e1 34 8 (by omega), e1 34 7 (by omega)]; exact s1.2.1, fun s hs => by rw [e1 34 7 (by omega)] at hs; rw [e1 38 s (by omega)]; exact s1.2.2 s hs⟩, by rw [e2 160 53 (by omega)]; exact s2, by rw [e2 160 52 (by omega)]; exact s3, by rw [e2 160 9 (by omega)]; exact s4, fun cc x z => ?_⟩
  rw [e2 cc x (by omega)]; exact s5 cc x z
theorem mb_k (M : MBq K V C W n F own a b T h m) (e1 : ∀ cc x : Nat, ((cc = 34 ∧ (x = 7 ∨ x = 8 ∨ x = 10)) ∨ (37 ≤ cc ∧ cc ≤ 39) ∨ (cc = 45 ∧ (x = 4 ∨ x = 5)) ∨ cc = 46 ∨ cc = 47 ∨ (6 ≤ cc ∧ cc ≤ 9) ∨ (17 ≤ cc ∧ cc ≤ 30) ∨ (cc = 2 ∧ x = 9)) → g cc x = h cc x) (e15 : h 34 15 = 1 → g 34 15 = 1) (e2 : ∀ cc x : Nat, ((cc = 160 ∧ (x = 9 ∨ x = 50 ∨ x = 52 ∨ x = 53 ∨ x = 62 ∨ x = 64 ∨ x = 66 ∨ x = 72 ∨ x = 84)) ∨ (162 ≤ cc ∧ cc ≤ 173) ∨ (177 ≤ cc ∧ cc ≤ 197) ∨ (200 ≤ cc ∧ cc ≤ 205) ∨ (213 ≤ cc ∧ cc ≤ 216)) → w cc x = m cc x) : MBq K V C W n F own a b T g w := by
  obtain ⟨m1, m2, ⟨m3, m4, m5⟩, m6, m7⟩ := M
  refine ⟨sgv_k m1 (fun cc x z => e1 cc x (by omega)) (fun cc x z => e2 cc x (by omega)), hdj_k m2 (fun cc x z => e1 cc x (by omega)) e15 (fun cc x z => e2 cc x (by omega)), ⟨plr_k m3 (fun cc x z => e1 cc x (by omega)) (fun cc x z => e2 cc x (by omega)), ?_, spl_k m5 (fun cc x z => e2 cc x (by omega))⟩, txe_k m6 (fun cc x z => e1 cc x (by omega)) (fun cc x z => e2 cc x (by omega)), sct_k m7 (fun cc x z => e1 cc x (by omega)) (fun cc x z => e2 cc x (by omega))⟩
  exact ⟨by rw [e2 160 62 (by omega)]; exact m4.1, by rw [e2 160 64 (by omega)]; exact m4.2⟩
/-- a constant of the pool -/
theorem mb_p {u w : Int × ms_M} (M : MBq K V C W n F own a b T h m) (X : PCo h m u w) (S : SPL w.2 []) : MBq K V C W n F own a b T u.2 w.2 := by
  obtain ⟨m1, m2, -, m6, m7⟩ := M
  have T6 := txe_p m6 X
  obtain ⟨x1, -, -, x4, x5, x6⟩ := X
  exact ⟨sgv_k m1 (fun cc x z => x4 cc x (by omega) (by omega) (by omega)) (fun cc x z => x5 cc x (by omega) (by omega)), hdj_k m2 (fun cc x z => x4 cc x (by omega) (by omega) (by omega)) (fun z => by rw [x4 34 15 (by omega) (by omega) (by omega)]; exact z) (fun cc x z => x5 cc x (by omega) (by omega)), ⟨x1, x6, S⟩, T6, sct_k m7 (fun cc x z => x4 cc x (by omega) (by omega) (by omega)) (fun cc x z => x5 cc x (by omega) (by omega))⟩
theorem jlb_k (J : JLb L m) (e1 : m 160 68 ≤ w 160 68) (e2 : m 160 88 ≤ w 160 88) : JLb L w := by
  obtain ⟨j1, j2, j3, j4⟩ := J
  exact ⟨j1, fun i hi => by have := j2 i hi; omega, j3, by omega⟩
theorem frc_k (H : FRc h) (e : ∀ cc x : Nat, (cc = 34 ∧ x = 14) ∨ cc = 40 ∨ cc = 42 → g cc x = h cc x) : FRc g := by
  obtain ⟨f1, f2, f3, f4⟩ := H
  have x14 := e 34 14 (by omega)
  refine ⟨⟨by rw [x14]; exact f1.1, by rw [x14]; exact f1.2.1, fun s hs => by rw [x14] at hs; rw [e 40 s (by omega)]; exact f1.2.2 s hs⟩, fun i hi => by rw [x14] at hi; rw [x14, e 42 i (by omega)]; exact f2 i hi, fun i j ij hj => ?_, fun s hs => ?_⟩
  · rw [x14] at hj
    rw [e 42 i (by omega), e 42 j (by omega), e 40 _ (by omega), e 40 _ (by omega)]
    exact f3 i j ij hj
  · rw [x14] at hs
    obtain ⟨i, i1, i2⟩ := f4 s hs
    exact ⟨i, by rw [x14]; exact i1, by rw [e 42 i (by omega)]; exact i2⟩
theorem frr_k (H : FRr m) (e : ∀ cc x : Nat, (cc = 160 ∧ x = 78) ∨ cc = 208 → w cc x = m cc x) : FRr w := by
  have x78 := e 160 78 (by omega)
  refine ⟨by rw [x78]; exact H.1, fun i j hi hj z => ?_⟩
  rw [x78] at hi hj
  rw [e 208 i (by omega), e 208 j (by omega)] at z
  exact H.2 i j hi hj z
theorem frj_k (J : FRJ n WL h m) (e1 : ∀ cc x : Nat, (cc = 34 ∧ (x = 14 ∨ x = 15)) ∨ cc = 40 ∨ cc = 41 ∨ cc = 38 → g cc x = h cc x) (e2 : ∀ cc x : Nat, (cc = 160 ∧ (x = 78 ∨ x = 79 ∨ x = 84)) ∨ (208 ≤ cc ∧ cc ≤ 212) → w cc x = m cc x) : FRJ n WL g w := by
  have x14 := e1 34 14 (by omega)
  have x78 := e2 160 78 (by omega)
  rcases J with ⟨j0, A1, A2, A3⟩ | ⟨j1, JO⟩
  · refine .inl ⟨by rw [e1 34 15 (by omega)]; exact j0, fun k hk => ?_, fun f hf => ?_, fun p k x => ?_⟩
    · rw [x14] at hk
      rw [e1 40 k (by omega), x78]
      rcases A1 k hk with ⟨k', y1, y2⟩ | ⟨y1, f, f1, f2, f3⟩
      · exact .inl ⟨k', y1, ctc_k y2 (fun x _ _ => e1 41 x (by omega)) (fun x => e1 38 x (by omega))⟩
      · exact .inr ⟨y1, f, f1, by rw [e2 208 f (by omega)]; exact f2, ctj_k f3 (fun x _ _ => e1 41 x (by omega)) ⟨e2 209 f (by omega), e2 210 f (by omega), e2 211 f (by omega)⟩ (by rw [e2 160 79 (by omega)]; exact Int.le_refl _) (fun x _ => e2 212 x (by omega))⟩
    · rw [x78] at hf
      obtain ⟨k, k1, k2⟩ := A2 f hf
      exact ⟨k, by rw [x14]; exact k1, by rw [e1 40 k (by omega), e2 208 f (by omega)]; exact k2⟩
    · obtain ⟨k, k1, k2⟩ := A3 p k x
      exact ⟨k, by rw [x14]; exact k1, by rw [e1 40 k (by omega)]; exact k2⟩
  · refine .inr ⟨by rw [e1 34 15 (by omega)]; exact j1, ?_⟩
    rw [e2 160 84 (by omega)]
    refine JO.elim .inl (fun x => .inr ?_)
    obtain ⟨Q, q1, q2⟩ := x
    refine ⟨Q, q1, fun i hi => (q2 i hi).elim (fun ⟨f, f1, f2⟩ => .inl ⟨f, by rw [x78]; exact f1, by rw [e2 208 f (by omega)]; exact f2⟩) .inr⟩
theorem frk_k (A : FRK n WL L h m) (e1 : ∀ cc x : Nat, (cc = 34 ∧ (x = 14 ∨ x = 15)) ∨ (40 ≤ cc ∧ cc ≤ 42) ∨ cc = 38 → g cc x = h cc x) (o : h 34 1 ≤ g 34 1 ∧ h 34 8 ≤ g 34 8 ∧ h 34 4 ≤ g 34 4) (e2 : ∀ cc x : Nat, (cc = 160 ∧ (x = 78 ∨ x = 79 ∨ x = 84)) ∨ (208 ≤ cc ∧ cc ≤ 212) → w cc x = m cc x) (l2 : m 160 68 ≤ w 160 68) (q1 : 51 * (L2.length : Int) + 17 * m 160 68 ≤ 51 * (L.length : Int) + 17 * w 160 68) (q2 : (L2.length : Int) + m 160 68 ≤ (L.length : Int) + w 160 68) : FRK n WL L2 g w := by
  obtain ⟨⟨a1, a2, a3⟩, ⟨b1, b2⟩, d⟩ := A
  have x78 := e2 160 78 (by omega)
  have x79 := e2 160 79 (by omega)
  have x84 := e2 160 84 (by omega)
  refine ⟨⟨frc_k a1 (fun cc x z => e1 cc x (by omega)), frr_k a2 (fun cc x z => e2 cc x (by omega)), by rw [x79]; exact a3⟩, ⟨by omega, fun p k z => by have := b2 p k z; omega⟩, fun z => ?_⟩
  obtain ⟨z1, z2, z3⟩ := z
  obtain ⟨d1, d2⟩ := d ⟨by omega, by omega, by omega⟩
  exact ⟨by omega, frj_k d2 (fun cc x z => e1 cc x (by omega)) (fun cc x z => e2 cc x (by omega))⟩
/-- a FRAME on both sides at the place where the CODE has come to -/
theorem frk_both {p s l n' : Int} {fi : Nat} (Fc : FRc h) (Fr : FRr m) (b79 : 0 ≤ m 160 79 ∧ m 160 79 ≤ 60000) (q1 : (L2.length : Int) + 1 + m 160 78 ≤ m 160 68 + m 160 84 ∧ m 160 84 ≤ 1000) (q2 : OKM h → m 160 79 + 51 * (L2.length : Int) + 51 ≤ 17 * (m 160 68 + 3 * m 160 84)) (WLb : ∀ p n, WL p n → p < m 160 68) (JF : OKM h → FRJ n WL h m) (HD : 20 < m 160 84 → h 34 15 = 1) (S : SLc p h s g) (A : FLc s l n' g u) (Gs : FRc g) (B : RFw F p fi m w) (Fw : FRr w) (ep : p = m 160 68) (e68 : h 34 1 = m 160 68) (l0 : 0 ≤ l ∧ l ≤ h 34 8) (n0 : 0 ≤ n' ∧ n' ≤ h 34 4) (el : l = m 160 50 + (F : Int)) (en : n' = m 160 70) (b50 : 0 ≤ m 160 50) (F1 : F ≤ 1) (O : F = 0 ∨ (F = 1 ∧ TJ n (8 + 2 * m 160 52) (h 38 0))) (T1 : ∀ i : Nat, (i : Int) < m 160 50 → TJ n (m 197 i) (h 38 (i + F))) (T2 : ∀ i : Nat, (i : Int) < m 160 70 → i < 20 → TJ n (m 207 i) (h 36 i)) : FRK n WL L2 u w ∧ (∀ cc x : Nat, ¬ (40 ≤ cc ∧ cc ≤ 42) → ¬ (cc = 34 ∧ (x = 14 ∨ x = 15)) → u cc x = h cc x) ∧ (h 34 15 = 1 → u 34 15 = 1) := by
  obtain ⟨G, -⟩ := sl_sk Fc S
  have UF : ∀ cc x : Nat, ¬ (40 ≤ cc ∧ cc ≤ 42) → ¬ (cc = 34 ∧ (x = 14 ∨ x = 15)) → u cc x = h cc x := fun cc x z1 z2 => by
    rcases A with ⟨-, -, a3⟩ | ⟨-, -, a3⟩
    · rw [a3 cc x (by omega)]; exact G cc x (by omega) (by omega) (by omega)
    · rw [a3 cc x (by omega)]; exact G cc x (by omega) (by omega) (by omega)
  have U15 : h 34 15 = 1 → u 34 15 = 1 := fun z => by
    rcases A with ⟨-, a2, -⟩ | ⟨-, -, a3⟩
    · exact a2
    · rw [a3 34 15 (by omega), G 34 15 (by omega) (by omega) (by omega)]; exact z
  have FU : FRc u := by
    rcases A with ⟨-, -, a3⟩ | ⟨-, -, a3⟩
    · exact frc_k Gs (fun cc x z => a3 cc x (by omega))
    · exact frc_k Gs (fun cc x z => a3 cc x (by omega))
  have B0 := B
  obtain ⟨AL, -, WO, -, WF⟩ := B0
  have w68 : w 160 68 = m 160 68 := WF 160 68 (by omega) (by omega) (by omega)
  have w84 : w 160 84 = m 160 84 := WF 160 84 (by omega) (by omega) (by omega)
  have w78 : w 160 78 ≤ m 160 78 + 1 := by
    rcases AL with ⟨-, -, z⟩ | ⟨-, -, z⟩ <;> omega
  have w79 : 0 ≤ w 160 79 ∧ w 160 79 ≤ 60000 ∧ w 160 79 ≤ m 160 79 + l + n' := by
    rcases WO with ⟨z1, z2, -⟩ | ⟨z1, z2⟩ <;> omega
  refine ⟨⟨⟨FU, Fw, by omega⟩, ⟨by omega, fun p k z => by have := WLb p k z; omega⟩, fun z => ?_⟩, UF, U15⟩
  obtain ⟨z1, z2, z3⟩ := z
  rw [UF 34 1 (by omega) (by omega)] at z1
  rw [UF 34 8 (by omega) (by omega)] at z2
  rw [UF 34 4 (by omega) (by omega)] at z3
  have OK : OKM h := ⟨z1, z2, z3⟩
  have Q2 := q2 OK
  refine ⟨by omega, ?_⟩
  exact fj_both (JF OK) HD Fc Fr S A B (fun k z => by have := WLb p k z; omega) (by omega) (by omega) el en b50 ⟨b79.1, fun z => by omega⟩ O T1 (fun i hi => T2 i hi (by omega))
end
