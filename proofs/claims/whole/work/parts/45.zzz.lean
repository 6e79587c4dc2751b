/- S of both sides: what is shown of each -/
/-- the loop around; bb: how many breaks there were at its begin -/
def LPx (bb : Int) (h r : ms_M) : Prop := (0 ≤ bb ∧ bb ≤ h 33 12) ∧ ((r 160 54 = 0 ∧ h 33 9 = -1) ∨ (0 < r 160 54 ∧ (0 ≤ h 33 9 ∧ h 33 9 ≤ h 34 1) ∧ (0 ≤ h 33 10 ∧ h 33 10 ≤ h 34 7) ∧ ((r 198 (r 160 54).toNat = 0 ∧ h 33 12 = bb) ∨ (r 198 (r 160 54).toNat = 1 ∧ bb < h 33 12))))
/-- what is wanted ahead of an S -/
def SPq (X : BCx) (dp : Int) (p : Nat) (bb : Int) (h r : ms_M) : Prop := EPr X dp p h r ∧ (h 34 3 = 0 ∧ h 49 10 = 0 ∧ r 160 57 = 0 ∧ 5 * h 34 7 ≤ (p : Int) + 40) ∧ (LPx bb h r ∧ (0 ≤ r 160 54 ∧ r 160 54 ≤ dp) ∧ 6 * h 33 12 ≤ bP X p) ∧ (VTn (bn X) (h 33 8) ∧ ¬ h 33 8 = 300) ∧ (0 ≤ r 160 51 ∧ r 160 51 < 800) ∧ r 187 (r 160 51).toNat = ty_T (h 33 8)
/-- the nodes that the rules have not seen yet -/
def UNr (X : BCx) (a b : Int) (r : ms_M) : Prop := ∀ x : Nat, a ≤ (x : Int) → (x : Int) < b → r 175 x = bT X 175 x ∧ r 176 x = bT X 176 x
/-- of the places of tokens: a break takes six bytes -/
def BRw (X : BCx) : Prop := (∀ i : Nat, i + 1 < bc X → bP X i ≤ bP X (i + 1)) ∧ (∀ i : Nat, i + 2 < bc X → bK X i = 11 → bP X i + 6 ≤ bP X (i + 2)) ∧ ∀ i : Nat, i < bc X → 0 ≤ bP X i ∧ bP X i ≤ 3000
/-- what an S of the class leaves as it is -/
def CFs (h u : ms_M) : Prop := (∀ cc x : Nat, ¬ ((cc = 2 ∧ (x = 10 ∨ x = 11 ∨ x = 12)) ∨ (cc = 34 ∧ (x = 1 ∨ x = 3 ∨ x = 4 ∨ x = 7 ∨ x = 8 ∨ x = 10 ∨ x = 14 ∨ x = 15)) ∨ (35 ≤ cc ∧ cc ≤ 42) ∨ cc = 44 ∨ (cc = 45 ∧ (x = 4 ∨ x = 5)) ∨ cc = 46 ∨ cc = 47 ∨ (cc = 49 ∧ ((10 ≤ x ∧ x ≤ 15) ∨ x = 18)) ∨ (50 ≤ cc ∧ cc ≤ 54) ∨ (cc = 33 ∧ (x = 9 ∨ x = 10 ∨ x = 12))) → u cc x = h cc x) ∧ (u 33 9 = h 33 9 ∧ u 33 10 = h 33 10 ∧ h 33 12 ≤ u 33 12 ∧ h 34 7 ≤ u 34 7) ∧ (∀ x : Nat, (x : Int) < h 34 7 → u 37 x = h 37 x ∧ u 38 x = h 38 x) ∧ ((∀ x : Nat, (x : Int) < h 33 12 → u 44 x = h 44 x) ∧ ∀ x : Nat, h 33 12 ≤ (x : Int) → (x : Int) < u 33 12 → h 34 1 ≤ u 44 x ∧ u 44 x + 3 ≤ u 34 1) ∧ (h 34 1 ≤ u 34 1 ∧ ∀ x : Nat, (x : Int) < h 34 1 → u 35 x = h 35 x)
/-- .. and the rules of an S -/
def RFz (a b : Int) (r v : ms_M) : Prop := (∀ cc x : Nat, ¬ ((cc = 160 ∧ (x = 9 ∨ x = 10 ∨ x = 50 ∨ x = 54 ∨ x = 57)) ∨ (174 ≤ cc ∧ cc ≤ 176) ∨ (196 ≤ cc ∧ cc ≤ 199)) → v cc x = r cc x) ∧ (∀ cc x : Nat, 174 ≤ cc → cc ≤ 176 → ¬ (a ≤ (x : Int) ∧ (x : Int) < b) → v cc x = r cc x) ∧ (v 160 54 = r 160 54 ∧ v 160 57 = r 160 57 ∧ r 160 50 ≤ v 160 50) ∧ (∀ x : Nat, (x : Int) < r 160 50 → v 196 x = r 196 x ∧ v 197 x = r 197 x) ∧ ∀ x : Nat, (x : Int) < r 160 54 → v 198 x = r 198 x
def PBz (PB : Nat → Prop) (lb : Int) (Z : List (Int × Int)) : Nat → Prop := fun y => PB y ∨ ∃ j, (j, lb) ∈ Z ∧ (y = (j + 1).toNat ∨ y = (j + 2).toNat)
def WLz (WL : Int → Int → Prop) (A n lb : Int) (Z : List (Int × Int)) : Int → Int → Prop := fun q k => WL q k ∨ ((∃ j, (j, lb) ∈ Z) ∧ q = A ∧ k = n)
/-- the class's breaks from c0 on -/
def BRl (u : ms_M) (c0 c1 : Int) (js : List Int) : Prop := (js.length : Int) = c1 - c0 ∧ ∀ i : Nat, i < js.length → u 44 (c0.toNat + i) = js.getD i 0
/-- ahead of the making of an S -/
def MGi (X : BCx) (PB : Nat → Prop) (WL : Int → Int → Prop) (L : List (Int × Int)) (lb lh a b : Int) (p q : Nat) (h r v m : ms_M) : Prop := (MKx X PB WL L h m ∧ AN a b v m) ∧ (m 160 57 = 0 ∧ m 160 88 + 4 * (q : Int) ≤ 2000000000 + 4 * (p : Int) ∧ m 160 54 = r 160 54 ∧ m 160 51 = r 160 51) ∧ (0 < r 160 54 → m 219 (r 160 54).toNat = lb ∧ m 220 (r 160 54).toNat = lh ∧ lb < lh ∧ lh ≤ m 160 88) ∧ (∀ p n, WL p n → n ≤ h 34 7) ∧ (0 < r 160 54 → ∀ k, WL (h 33 9) k → k = h 33 10)
/-- .. and behind it -/
def MWf (m w : ms_M) : Prop := (w 160 57 = m 160 57 ∧ w 160 54 = m 160 54 ∧ w 160 51 = m 160 51) ∧ (∀ cc x : Nat, 174 ≤ cc → cc ≤ 176 → w cc x = m cc x) ∧ ∀ x : Nat, (x : Int) ≤ m 160 54 → w 219 x = m 219 x ∧ w 220 x = m 220 x
def MGz (X : BCx) (PB : Nat → Prop) (WL : Int → Int → Prop) (L : List (Int × Int)) (lb lh : Int) (h r u w : ms_M) (Z : List (Int × Int)) : Prop := MKx X (PBz PB lb Z) (WLz WL (h 33 9) (h 33 10) lb Z) (L ++ Z) u w ∧ (∀ e ∈ Z, e.2 = lb ∨ e.2 = lh) ∧ (r 160 54 = 0 → Z = []) ∧ BRl u (h 33 12) (u 33 12) (pl_L lh Z) ∧ ∀ j, (j, lb) ∈ Z → AMd u j (h 33 9)
def MGq (X : BCx) (PB : Nat → Prop) (WL : Int → Int → Prop) (L : List (Int × Int)) (lb lh : Int) (p q : Nat) (h r u m w : ms_M) : Prop := (∃ Z : List (Int × Int), MGz X PB WL L lb lh h r u w Z) ∧ MWf m w ∧ m 160 88 ≤ w 160 88 ∧ w 160 88 + 4 * (p : Int) ≤ m 160 88 + 4 * (q : Int)
def MGS (X : BCx) (fm : Nat → ms_M → Option (Int × ms_M)) (a b : Int) (p q : Nat) (h r u v : ms_M) (en : Int) : Prop := ∀ (d : Nat) (PB : Nat → Prop) (WL : Int → Int → Prop) (L : List (Int × Int)) (lb lh : Int) (m : ms_M), MGi X PB WL L lb lh a b p q h r v m → Pc (fm d m) (fun w => w.1 = en ∧ MGq X PB WL L lb lh p q h r u m w.2)
/-- an S has gone well on both sides, all but its making -/
def SKk (X : BCx) (a b : Int) (p q : Nat) (bb : Int) (h r u v : ms_M) : Prop := (u 2 10 = (q : Int) ∧ q < bc X ∧ p < q ∧ u 2 11 = 0 ∧ v 160 9 = 0) ∧ (BX X u v ∧ CFs h u ∧ RFz a b r v) ∧ (FRc u ∧ u 34 1 + 20 * (p : Int) ≤ h 34 1 + 20 * (q : Int) ∧ u 34 3 = 0 ∧ u 49 10 = 0 ∧ u 49 18 ≤ (q : Int)) ∧ 5 * u 34 7 + (p : Int) ≤ 5 * h 34 7 + (q : Int) ∧ 6 * u 33 12 + bP X p ≤ 6 * h 33 12 + bP X q ∧ LPx bb u v
def SOk (nn : Nat) (X : BCx) (s a b : Int) (p q : Nat) (bb : Int) (h r : ms_M) (x y : Int × ms_M) : Prop := (x.1 = y.1 ∧ (x.1 = 0 ∨ x.1 = 1)) ∧ SKk X a b p q bb h r x.2 y.2 ∧ MGS X (fun d m => (qg_X13_make nn d).1 s m) a b p q h r x.2 y.2 x.1
def S6 (nn : Nat) (X : BCx) (d a b : Int) (p q : Nat) (s : Int) : Prop := ∀ (dc dr : Nat) (h r : ms_M) (bb : Int), SPq X d p bb h r → UNr X a b r → Pc ((qg_X0_readBlock nn dc).2.2.1 d h) (fun x => Pc ((qg_X13_ruled nn dr) s r) (fun y => SFj x.2 y.2 ∨ SOk nn X s a b p q bb h r x y))
section
variable {nn : Nat} {X : BCx} {dp i a b a1 b1 a2 b2 e bb lb lh : Int} {p q t : Nat} {h g u r w m v z : ms_M} {PB : Nat → Prop} {WL : Int → Int → Prop} {L : List (Int × Int)}
theorem lpx_k (P : LPx bb h r) (e9 : u 33 9 = h 33 9) (e10 : u 33 10 = h 33 10) (e12 : u 33 12 = h 33 12) (l1 : h 34 1 ≤ u 34 1) (l7 : h 34 7 ≤ u 34 7) (v54 : v 160 54 = r 160 54) (v98 : v 198 (r 160 54).toNat = r 198 (r 160 54).toNat) : LPx bb u v := by
  obtain ⟨p1, p2⟩ := P
  refine ⟨by omega, ?_⟩
  rw [v54, v98, e9, e10, e12]
  rcases p2 with y | ⟨y1, y2, y3, y4⟩
  · exact .inl y
  · exact .inr ⟨y1, by omega, by omega, y4⟩
theorem cfs_r : CFs h h := ⟨fun _ _ _ => rfl, ⟨rfl, rfl, Int.le_refl _, Int.le_refl _⟩, fun _ _ => ⟨rfl, rfl⟩, ⟨fun _ _ => rfl, fun x c1 c2 => absurd c2 (by omega)⟩, Int.le_refl _, fun _ _ => rfl⟩
theorem cfs_t (A : CFs h g) (B : CFs g u) : CFs h u := by
  obtain ⟨a1, ⟨a2, a3, a4, a5⟩, a6, a7, a8, a9⟩ := A
  obtain ⟨b1, ⟨b2, b3, b4, b5⟩, b6, b7, b8, b9⟩ := B
  exact ⟨fun cc x q => (b1 cc x q).trans (a1 cc x q), ⟨b2.trans a2, b3.trans a3, by omega, by omega⟩, fun x hx => ⟨((b6 x (by omega)).1).trans (a6 x hx).1, ((b6 x (by omega)).2).trans (a6 x hx).2⟩, ⟨fun x hx => (b7.1 x (by omega)).trans (a7.1 x hx), fun x c1 c2 => by
    by_cases q : (x : Int) < g 33 12
    · have y := a7.2 x c1 q
      rw [b7.1 x q]; omega
    · have y := b7.2 x (by omega) c2
      omega⟩, by omega, fun x hx => (b9 x (by omega)).trans (a9 x hx)⟩
/-- small steps of the class -/
theorem cfs_o (E : ∀ cc x : Nat, ¬ ((cc = 2 ∧ (x = 10 ∨ x = 11 ∨ x = 12)) ∨ (cc = 34 ∧ (x = 1 ∨ x = 3 ∨ x = 4 ∨ x = 10 ∨ x = 14 ∨ x = 15)) ∨ (cc = 35 ∧ h 34 1 ≤ (x : Int)) ∨ cc = 36 ∨ (39 ≤ cc ∧ cc ≤ 42) ∨ (cc = 45 ∧ (x = 4 ∨ x = 5)) ∨ cc = 46 ∨ cc = 47 ∨ (cc = 49 ∧ ((10 ≤ x ∧ x ≤ 15) ∨ x = 18)) ∨ (50 ≤ cc ∧ cc ≤ 54)) → u cc x = h cc x) (l : h 34 1 ≤ u 34 1) : CFs h u := ⟨fun cc x q => E cc x (by omega), ⟨E 33 9 (by omega), E 33 10 (by omega), by rw [E 33 12 (by omega)]; exact Int.le_refl _, by rw [E 34 7 (by omega)]; exact Int.le_refl _⟩, fun x _ => ⟨E 37 x (by omega), E 38 x (by omega)⟩, ⟨fun x _ => E 44 x (by omega), fun x c1 c2 => by have := E 33 12 (by omega); omega⟩, l, fun x hx => E 35 x (by omega)⟩
theorem cfs_e (A : CFe h u) (l : h 34 1 ≤ u 34 1) (B : ∀ x : Nat, (x : Int) < h 34 1 → u 35 x = h 35 x) : CFs h u := by
  have E : ∀ cc x : Nat, ¬ ((cc = 2 ∧ (x = 10 ∨ x = 11 ∨ x = 12)) ∨ (cc = 34 ∧ (x = 1 ∨ x = 3 ∨ x = 4 ∨ x = 14 ∨ x = 15)) ∨ cc = 35 ∨ cc = 36 ∨ (40 ≤ cc ∧ cc ≤ 42) ∨ (cc = 45 ∧ (x = 4 ∨ x = 5)) ∨ cc = 46 ∨ cc = 47 ∨ (cc = 49 ∧ 10 ≤ x ∧ x ≤ 15) ∨ (50 ≤ cc ∧ cc ≤ 54)) → u cc x = h cc x := fun cc x q => A cc x (by omega) (by omega) (by omega) (by omega) (by omega) (by omega) (by omega) (by omega)
  exact ⟨fun cc x q => E cc x (by omega), ⟨E 33 9 (by omega), E 33 10 (by omega), by rw [E 33 12 (by omega)]; exact Int.le_refl _, by rw [E 34 7 (by omega)]; exact Int.le_refl _⟩, fun x _ => ⟨E 37 x (by omega), E 38 x (by omega)⟩, ⟨fun x _ => E 44 x (by omega), fun x c1 c2 => by have := E 33 12 (by omega); omega⟩, l, B⟩
theorem rfs_r : RFz a b r r := ⟨fun _ _ _ => rfl, fun _ _ _ _ _ => rfl, ⟨rfl, rfl, Int.le_refl _⟩, fun _ _ => ⟨rfl, rfl⟩, fun _ _ => rfl⟩
theorem rfs_t (A : RFz a1 b1 r v) (B : RFz a2 b2 v w) (h1 : a ≤ a1 ∧ b1 ≤ b) (h2 : a ≤ a2 ∧ b2 ≤ b) : RFz a b r w := by
  obtain ⟨c1, c2, ⟨c3, c4, c5⟩, c6, c7⟩ := A
  obtain ⟨d1, d2, ⟨d3, d4, d5⟩, d6, d7⟩ := B
  exact ⟨fun cc x q => (d1 cc x q).trans (c1 cc x q), fun cc x q1 q2 q3 => (d2 cc x q1 q2 (by omega)).trans (c2 cc x q1 q2 (by omega)), ⟨d3.trans c3, d4.trans c4, by omega⟩, fun x hx => ⟨((d6 x (by omega)).1).trans (c6 x hx).1, ((d6 x (by omega)).2).trans (c6 x hx).2⟩, fun x hx => (d7 x (by omega)).trans (c7 x hx)⟩
theorem rfs_e (R : RFe a1 b1 r v) (v57 : v 160 57 = r 160 57) (h1 : a ≤ a1 ∧ b1 ≤ b) : RFz a b r v := ⟨fun cc x q => R.1 cc x (by omega) (by omega) (by omega), fun cc x q1 q2 q3 => R.2 cc x q1 q2 (by omega), ⟨R.1 160 54 (by omega) (by omega) (by omega), v57, by rw [R.1 160 50 (by omega) (by omega) (by omega)]; exact Int.le_refl _⟩, fun x _ => ⟨R.1 196 x (by omega) (by omega) (by omega), R.1 197 x (by omega) (by omega) (by omega)⟩, fun x _ => R.1 198 x (by omega) (by omega) (by omega)⟩
theorem unr_k (U : UNr X a b r) (h1 : a ≤ a1 ∧ b1 ≤ b) (E : ∀ cc x : Nat, 175 ≤ cc → cc ≤ 176 → a1 ≤ (x : Int) → (x : Int) < b1 → v cc x = r cc x) : UNr X a1 b1 v := fun x q1 q2 => ⟨(E 175 x (by omega) (by omega) q1 q2).trans (U x (by omega) (by omega)).1, (E 176 x (by omega) (by omega) q1 q2).trans (U x (by omega) (by omega)).2⟩
theorem pbz_n : PBz PB lb [] = PB := funext fun y => propext ⟨fun q => q.elim id (fun ⟨_, q, _⟩ => (nomatch q)), .inl⟩
theorem wlz_n {A n : Int} : WLz WL A n lb [] = WL := funext fun x => funext fun y => propext ⟨fun q => q.elim id (fun ⟨⟨_, q⟩, _⟩ => (nomatch q)), .inl⟩
theorem pbz_a {Z1 Z2 : List (Int × Int)} : PBz (PBz PB lb Z1) lb Z2 = PBz PB lb (Z1 ++ Z2) := funext fun y => propext ⟨fun q => by
  rcases q with (q | ⟨j, q1, q2⟩) | ⟨j, q1, q2⟩
  · exact .inl q
  · exact .inr ⟨j, List.mem_append_left _ q1, q2⟩
  · exact .inr ⟨j, List.mem_append_right _ q1, q2⟩, fun q => by
  rcases q with q | ⟨j, q1, q2⟩
  · exact .inl (.inl q)
  · rcases List.mem_append.mp q1 with q1 | q1
    · exact .inl (.inr ⟨j, q1, q2⟩)
    · exact .inr ⟨j, q1, q2⟩⟩
theorem wlz_a {A n : Int} {Z1 Z2 : List (Int × Int)} : WLz (WLz WL A n lb Z1) A n lb Z2 = WLz WL A n lb (Z1 ++ Z2) := funext fun x => funext fun y => propext ⟨fun q => by
  rcases q with (q | ⟨⟨j, q1⟩, q2⟩) | ⟨⟨j, q1⟩, q2⟩
  · exact .inl q
  · exact .inr ⟨⟨j, List.mem_append_left _ q1⟩, q2⟩
  · exact .inr ⟨⟨j, List.mem_append_right _ q1⟩, q2⟩, fun q => by
  rcases q with q | ⟨⟨j, q1⟩, q2⟩
  · exact .inl (.inl q)
  · rcases List.mem_append.mp q1 with q1 | q1
    · exact .inl (.inr ⟨⟨j, q1⟩, q2⟩)
    · exact .inr ⟨⟨j, q1⟩, q2⟩⟩
theorem brl_n {c : Int} : BRl u c c [] := ⟨by show ((0 : Nat) : Int) = c - c; omega, fun i hi => absurd hi (by show ¬ i < 0; omega)⟩
theorem mwf_r : MWf m m := ⟨⟨rfl, rfl, rfl⟩, fun _ _ _ _ => rfl, fun _ _ => ⟨rfl, rfl⟩⟩
theorem mwf_t (A : MWf m w) (B : MWf w z) : MWf m z := ⟨⟨B.1.1.trans A.1.1, B.1.2.1.trans A.1.2.1, B.1.2.2.trans A.1.2.2⟩, fun cc x q1 q2 => (B.2.1 cc x q1 q2).trans (A.2.1 cc x q1 q2), fun x hx => ⟨((B.2.2 x (by rw [A.1.2.1]; exact hx)).1).trans (A.2.2 x hx).1, ((B.2.2 x (by rw [A.1.2.1]; exact hx)).2).trans (A.2.2 x hx).2⟩⟩
theorem mwf_o (E : ∀ cc x : Nat, (cc = 160 ∧ (x = 51 ∨ x = 54 ∨ x = 57)) ∨ (174 ≤ cc ∧ cc ≤ 176) ∨ cc = 219 ∨ cc = 220 → w cc x = m cc x) : MWf m w := ⟨⟨E 160 57 (by omega), E 160 54 (by omega), E 160 51 (by omega)⟩, fun cc x q1 q2 => E cc x (by omega), fun x _ => ⟨E 219 x (by omega), E 220 x (by omega)⟩⟩
theorem mg_nil (M : MKx X PB WL L u w) (F : MWf m w) (l1 : m 160 88 ≤ w 160 88) (l2 : w 160 88 + 4 * (p : Int) ≤ m 160 88 + 4 * (q : Int)) (e12 : u 33 12 = h 33 12) : MGq X PB WL L lb lh p q h r u m w := ⟨⟨[], by rw [pbz_n, wlz_n, List.append_nil]; exact M, fun e he => (nomatch he), fun _ => rfl, by rw [e12]; exact brl_n, fun j hj => (nomatch hj)⟩, F, l1, l2⟩
theorem brl_app {c0 c1 c2 : Int} {J1 J2 : List Int} (A : BRl g c0 c1 J1) (B : BRl u c1 c2 J2) (h0 : 0 ≤ c0) (E : ∀ x : Nat, (x : Int) < c1 → u 44 x = g 44 x) : BRl u c0 c2 (J1 ++ J2) := by
  obtain ⟨a1, a2⟩ := A
  obtain ⟨b1, b2⟩ := B
  refine ⟨by rw [List.length_append]; omega, fun i hi => ?_⟩
  rw [List.length_append] at hi
  by_cases q : i < J1.length
  · rw [E _ (by omega), a2 i q, List.getD_eq_getElem?_getD, List.getD_eq_getElem?_getD, List.getElem?_append_left q]
  · have z := b2 (i - J1.length) (by omega)
    rw [show c1.toNat + (i - J1.length) = c0.toNat + i by omega] at z
    rw [z, List.getD_eq_getElem?_getD, List.getD_eq_getElem?_getD, List.getElem?_append_right (by omega)]
/-- one after the other -/
theorem mg_seq {Z1 : List (Int × Int)} {w1 : ms_M} (A : MGz X PB WL L lb lh h r g w1 Z1) (A2 : MWf m w1 ∧ m 160 88 ≤ w1 160 88 ∧ w1 160 88 + 4 * (p : Int) ≤ m 160 88 + 4 * (t : Int)) (e54 : v 160 54 = r 160 54) (C : CFs g u) (c9 : g 33 9 = h 33 9 ∧ g 33 10 = h 33 10) (c0 : 0 ≤ h 33 12) (B : MGq X (PBz PB lb Z1) (WLz WL (h 33 9) (h 33 10) lb Z1) (L ++ Z1) lb lh t q g v u w1 w) : MGq X PB WL L lb lh p q h r u m w := by
  obtain ⟨⟨Z2, M2, z1, z2, z3, z4⟩, F, l1, l2⟩ := B
  obtain ⟨M1, y1, y2, y3, y4⟩ := A
  rw [c9.1, c9.2] at M2
  rw [pbz_a, wlz_a, List.append_assoc] at M2
  refine ⟨⟨Z1 ++ Z2, M2, fun e he => (List.mem_append.mp he).elim (y1 e) (z1 e), fun z => by rw [y2 z, z2 (by omega)]; rfl, by rw [pl_app]; exact brl_app y3 z3 c0 C.2.2.2.1.1, fun j hj => ?_⟩, mwf_t A2.1 F, by omega, by omega⟩
  rcases List.mem_append.mp hj with hj | hj
  · have jb := (jlb_m M1.1.2.1.2).1 (j, lb) (List.mem_append_right _ hj)
    have jb : 0 ≤ j ∧ j + 3 ≤ w1 160 68 ∧ lb ≤ w1 160 88 := jb
    have c1 := M1.1.1.1.1
    intro lt
    rw [C.2.2.2.2.2 _ (by omega), C.2.2.2.2.2 _ (by omega)]
    exact y4 j hj lt
  · rw [← c9.1]; exact z4 j hj
end
