/- BODIES: what both sides stand on -/
abbrev BCx : Type := ((Nat → Int) × (Nat → Int) × (Nat → Int) × (Nat → Nat) × (Nat → List Int)) × (Nat × Nat × Nat × Nat × Nat) × (Int × Int) × (ms_M × ms_M × ms_M)
abbrev bK (X : BCx) : Nat → Int := X.1.1
abbrev bP (X : BCx) : Nat → Int := X.1.2.1
abbrev bV (X : BCx) : Nat → Int := X.1.2.2.1
abbrev bC (X : BCx) : Nat → Nat := X.1.2.2.2.1
abbrev bW (X : BCx) : Nat → List Int := X.1.2.2.2.2
abbrev bc (X : BCx) : Nat := X.2.1.1
abbrev bn (X : BCx) : Nat := X.2.1.2.1
abbrev bNN (X : BCx) : Nat := X.2.1.2.2.1
abbrev bM (X : BCx) : Nat := X.2.1.2.2.2.1
abbrev bF (X : BCx) : Nat := X.2.1.2.2.2.2
abbrev bq (X : BCx) : Int := X.2.2.1.1
abbrev bo (X : BCx) : Int := X.2.2.1.2
abbrev bT (X : BCx) : ms_M := X.2.2.2.1
abbrev bA (X : BCx) : ms_M := X.2.2.2.2.1
abbrev bB (X : BCx) : ms_M := X.2.2.2.2.2
/-- of tokens, classes and the method's own class -/
def CXs (X : BCx) : Prop := TBn (bK X) (bc X) ∧ CKd (bK X) (bV X) (bC X) (bn X) (bNN X) ∧ bn X ≤ 8 ∧ (8 ≤ bo X ∧ bo X < 8 + (bn X : Int)) ∧ TBq (bK X) (bP X) (bc X) (bT X) ∧ (∀ i : Nat, i < bc X → bK X i = 3 → 0 ≤ bT X 166 i ∧ bT X 166 i ≤ 2147483647) ∧ HDS (bK X) (bP X) (bV X) (bC X) (bc X) (bn X) (bNN X) (bM X) (bq X) (bA X) (bB X) ∧ (∀ j : Nat, j < bM X → 0 ≤ bB X 182 j) ∧ (∀ j k : Nat, j < bM X → k < 8 → MSm (bB X) k 0 j → VTn (bn X) (bA X 19 (12 * k + mcn_T (bB X) k 0 j))) ∧ ∀ j k : Nat, j < bM X → k < 8 → MSm (bB X) k 1 j → VTn (bn X) (bA X 24 (12 * k + mcn_T (bB X) k 1 j)) ∧ bB X 188 j ≤ 1500 ∧ ∀ i : Nat, (i : Int) < bB X 189 j → VTn (bn X) (bA X 29 (6 * (12 * k + mcn_T (bB X) k 1 j) + i))
/-- the class and the reference's rules (or its making) -/
def BX (X : BCx) (h r : ms_M) : Prop := HDS (bK X) (bP X) (bV X) (bC X) (bc X) (bn X) (bNN X) (bM X) (bq X) h r ∧ SGV (bK X) (bV X) (bF X) (bo X) h r ∧ (h 49 16 = bo X ∧ r 160 52 = bo X) ∧ ((r 160 53 = 0 ∧ h 49 17 = 0 ∧ bF X = 1) ∨ (¬ r 160 53 = 0 ∧ ¬ h 49 17 = 0 ∧ bF X = 0)) ∧ (∀ i : Nat, i < bc X → bK X i = 3 → h 5 i = bT X 166 i) ∧ (∀ cc x : Nat, ((163 ≤ cc ∧ cc ≤ 173) ∨ cc = 177) → r cc x = bT X cc x) ∧ (∀ cc x : Nat, (178 ≤ cc ∧ cc ≤ 195) → r cc x = bB X cc x) ∧ (∀ cc x : Nat, (17 ≤ cc ∧ cc ≤ 29) → h cc x = bA X cc x) ∧ ∀ s : Nat, (s : Int) < h 34 7 → VTn (bn X) (h 38 s) ∧ ¬ h 38 s = 303
def MKx (X : BCx) (PB : Nat → Prop) (WL : Int → Int → Prop) (L : List (Int × Int)) (h m : ms_M) : Prop := MK (bK X) (bV X) (bC X) (bW X) (bn X) (bF X) (bo X) (bA X) (bB X) (bT X) PB WL L h m
section
variable {nn : Nat} {X : BCx} {K P V : Nat → Int} {C : Nat → Nat} {c n N mt : Nat} {q : Int} {h g u r v w m : ms_M}
theorem nw_of {L : List Nat} {LF : List (Nat × Nat)} {cc x : Nat} (h1 : ¬ cc ∈ L) (h2 : ¬ (cc, x) ∈ LF) : nw_F L LF false false cc x = true := by
  unfold nw_F
  simp [h1, h2]
theorem mtb_r {mm : Nat} (M : MTB V C n mm q h r) (e : ∀ cc y : Nat, cc = 169 ∨ (181 ≤ cc ∧ cc ≤ 195) → v cc y = r cc y) : MTB V C n mm q h v := by
  have mc : ∀ (k s : Int) (j : Nat), mcn_T v k s j = mcn_T r k s j := fun k s j => mcn_k (fun cc x z => e cc x (by omega)) j
  have ms : ∀ (k s : Int) (j : Nat), MSm v k s j ↔ MSm r k s j := fun k s j => msm_k (e 181 j (by omega)) (e 182 j (by omega))
  obtain ⟨m1, m2, m3, m4, m5⟩ := M
  refine ⟨fun k hk => by rw [mc, mc]; exact m1 k hk, fun j k hj hk z => ?_, fun j k hj hk z => ?_, fun i j k s ij hj z1 z2 => ?_, fun j i hj hi => ?_⟩
  · rw [mc]
    obtain ⟨a1, a2, a3, a4⟩ := m2 j k hj hk ((ms _ _ _).mp z)
    exact ⟨by rw [e 186 j (by omega)]; exact a1, by rw [e 187 j (by omega)]; exact a2, a3, by rw [e 184 j (by omega), e 183 j (by omega), e 185 j (by omega)]; exact a4⟩
  · rw [mc]
    exact mbm_k (m3 j k hj hk ((ms _ _ _).mp z)) (fun _ _ _ => rfl) (fun cc y z => e cc y (by omega)) (fun i _ => e 195 _ (by omega))
  · rw [e 186 i (by omega), e 186 j (by omega)]
    exact m4 i j k s ij hj ((ms _ _ _).mp z1) ((ms _ _ _).mp z2)
  · rw [e 189 j (by omega)] at hi
    rw [e 188 j (by omega), e 194 _ (by omega)]
    exact m5 j i hj hi
theorem hds_k (H : HDS K P V C c n N mt q h r) (e1 : ∀ cc x : Nat, (3 ≤ cc ∧ cc ≤ 5) ∨ (13 ≤ cc ∧ cc ≤ 29) ∨ (cc = 2 ∧ x = 3) ∨ (cc = 11 ∧ x = 2) → g cc x = h cc x) (e2 : ∀ cc x : Nat, (162 ≤ cc ∧ cc ≤ 166) ∨ cc = 169 ∨ (178 ≤ cc ∧ cc ≤ 195) ∨ (cc = 160 ∧ (x = 24 ∨ x = 28)) → w cc x = r cc x) : HDS K P V C c n N mt q g w := by
  obtain ⟨⟨a1, a2, a3⟩, ⟨b1, b2, b3, b4⟩, c1, d1, d2, d3, d4⟩ := H
  have U : w 180 = r 180 := funext (fun x => e2 180 x (by omega))
  have G13 : g 13 = h 13 := funext (fun x => e1 13 x (by omega))
  refine ⟨⟨hdc_k a1 (fun cc x z => e1 cc x (by omega)), fun x hx => by rw [e1 16 x (by omega)]; exact a2 x hx, hdr_k a3 (fun cc x z => e2 cc x (by omega))⟩, ⟨b1, by rw [U]; exact b2, by rw [U]; exact b3, ?_⟩, mtb_r (mtb_h c1 (fun cc y z1 z2 => e1 cc y (by omega))) (fun cc y z => e2 cc y (by omega)), by rw [e2 160 28 (by omega)]; exact d1, fun j hj => by rw [e2 186 j (by omega)]; exact d2 j hj, fun j hj => by rw [e2 181 j (by omega)]; exact d3 j hj, fun i j ij hj => by rw [e2 181 i (by omega), e2 181 j (by omega)]; exact d4 i j ij hj⟩
  rw [U]
  refine ⟨fun j hj => by rw [G13]; exact b4.1 j hj, fun x y hx hy => ?_⟩
  have z := b4.2 x y hx hy
  show (re_N (g 13) 16 (x : Int) (y : Int) → g 14 (16 * x + y) = 1) ∧ (¬ re_N (g 13) 16 (x : Int) (y : Int) → g 14 (16 * x + y) = 0)
  rw [G13, e1 14 _ (by omega)]
  exact z
theorem bx_k (B : BX X h r) (e1 : ∀ cc x : Nat, (3 ≤ cc ∧ cc ≤ 5) ∨ (13 ≤ cc ∧ cc ≤ 29) ∨ (cc = 2 ∧ x = 3) ∨ (cc = 11 ∧ x = 2) ∨ (cc = 34 ∧ x = 7) ∨ cc = 37 ∨ cc = 38 ∨ (cc = 49 ∧ (x = 16 ∨ x = 17)) → g cc x = h cc x) (e2 : ∀ cc x : Nat, (162 ≤ cc ∧ cc ≤ 173) ∨ (177 ≤ cc ∧ cc ≤ 197) ∨ (cc = 160 ∧ (x = 24 ∨ x = 28 ∨ x = 50 ∨ x = 52 ∨ x = 53)) → w cc x = r cc x) : BX X g w := by
  obtain ⟨b1, b2, b3, b4, b5, b6, b7, b8, b9⟩ := B
  refine ⟨hds_k b1 (fun cc x z => e1 cc x (by omega)) (fun cc x z => e2 cc x (by omega)), sgv_k b2 (fun cc x z => e1 cc x (by omega)) (fun cc x z => e2 cc x (by omega)), by rw [e1 49 16 (by omega), e2 160 52 (by omega)]; exact b3, by rw [e1 49 17 (by omega), e2 160 53 (by omega)]; exact b4, fun i hi ki => by rw [e1 5 i (by omega)]; exact b5 i hi ki, fun cc x z => by rw [e2 cc x (by omega)]; exact b6 cc x z, fun cc x z => by rw [e2 cc x (by omega)]; exact b7 cc x z, fun cc x z => by rw [e1 cc x (by omega)]; exact b8 cc x z, fun s hs => by rw [e1 34 7 (by omega)] at hs; rw [e1 38 s (by omega)]; exact b9 s hs⟩
/-- what an E of the class leaves as it is -/
def CFe (h u : ms_M) : Prop := ∀ cc x : Nat, ¬ (cc = 2 ∧ (x = 10 ∨ x = 11 ∨ x = 12)) → ¬ (cc = 34 ∧ (x = 1 ∨ x = 3 ∨ x = 4 ∨ x = 14 ∨ x = 15)) → ¬ (cc = 35 ∨ cc = 36) → ¬ (40 ≤ cc ∧ cc ≤ 42) → ¬ (cc = 45 ∧ (x = 4 ∨ x = 5)) → ¬ (cc = 46 ∨ cc = 47) → ¬ (cc = 49 ∧ 10 ≤ x ∧ x ≤ 15) → ¬ (50 ≤ cc ∧ cc ≤ 54) → u cc x = h cc x
theorem cfe_r : CFe h h := fun _ _ _ _ _ _ _ _ _ _ => rfl
theorem cfe_t (A : CFe h g) (B : CFe g u) : CFe h u := fun cc x a1 a2 a3 a4 a5 a6 a7 a8 => (B cc x a1 a2 a3 a4 a5 a6 a7 a8).trans (A cc x a1 a2 a3 a4 a5 a6 a7 a8)
/-- what the rules of an E leave as it is; nodes [a, b) get their types -/
def RFe (a b : Int) (r v : ms_M) : Prop := (∀ cc x : Nat, ¬ (cc = 160 ∧ (x = 9 ∨ x = 10 ∨ x = 57)) → ¬ cc = 199 → ¬ (174 ≤ cc ∧ cc ≤ 176) → v cc x = r cc x) ∧ ∀ cc x : Nat, 174 ≤ cc → cc ≤ 176 → ¬ (a ≤ (x : Int) ∧ (x : Int) < b) → v cc x = r cc x
theorem rfe_r {a b : Int} : RFe a b r r := ⟨fun _ _ _ _ _ => rfl, fun _ _ _ _ _ => rfl⟩
theorem rfe_t {a b a1 b1 a2 b2 : Int} (A : RFe a1 b1 r v) (B : RFe a2 b2 v w) (h1 : a ≤ a1 ∧ b1 ≤ b) (h2 : a ≤ a2 ∧ b2 ≤ b) : RFe a b r w := ⟨fun cc x z1 z2 z3 => (B.1 cc x z1 z2 z3).trans (A.1 cc x z1 z2 z3), fun cc x z1 z2 z3 => (B.2 cc x z1 z2 (by omega)).trans (A.2 cc x z1 z2 (by omega))⟩
theorem bx_e {a b : Int} (B : BX X h r) (A : CFe h g) (R : RFe a b r w) : BX X g w := bx_k B (fun cc x z => A cc x (by omega) (by omega) (by omega) (by omega) (by omega) (by omega) (by omega) (by omega)) (fun cc x z => R.1 cc x (by omega) (by omega) (by omega))
/-- the rows of signs below the open one -/
def SGb (h u : ms_M) : Prop := u 49 10 = h 49 10 ∧ ∀ cc x : Nat, 50 ≤ cc → cc ≤ 54 → (x : Int) < h 49 10 → u cc x = h cc x
theorem sgb_r : SGb h h := ⟨rfl, fun _ _ _ _ _ => rfl⟩
theorem sgb_t (A : SGb h g) (B : SGb g u) : SGb h u := ⟨B.1.trans A.1, fun cc x z1 z2 z3 => (B.2 cc x z1 z2 (by rw [A.1]; exact z3)).trans (A.2 cc x z1 z2 z3)⟩
theorem pc_and {α : Type} {x : Option α} {A B : α → Prop} (H1 : Pc x A) (H2 : Pc x B) : Pc x (fun u => A u ∧ B u) := fun u e => ⟨H1 u e, H2 u e⟩
/-- frames of the class's functions -/
theorem cfe_nw {L : List Nat} {LF : List (Nat × Nat)} (E : ∀ cc x : Nat, nw_F L LF false false cc x = true → u cc x = h cc x) (hL : L.all (fun y => decide (y = 35 ∨ y = 36 ∨ (40 ≤ y ∧ y ≤ 42) ∨ y = 46 ∨ y = 47 ∨ (50 ≤ y ∧ y ≤ 54))) = true) (hF : LF.all (fun z => decide ((z.1 = 2 ∧ (z.2 = 10 ∨ z.2 = 11 ∨ z.2 = 12)) ∨ (z.1 = 34 ∧ (z.2 = 1 ∨ z.2 = 3 ∨ z.2 = 4 ∨ z.2 = 14 ∨ z.2 = 15)) ∨ (z.1 = 45 ∧ (z.2 = 4 ∨ z.2 = 5)) ∨ (z.1 = 49 ∧ 10 ≤ z.2 ∧ z.2 ≤ 15))) = true) : CFe h u := fun cc x a1 a2 a3 a4 a5 a6 a7 a8 => by
  refine E cc x (nw_of (fun z => ?_) (fun z => ?_))
  · have q := of_decide_eq_true (List.all_eq_true.mp hL cc z)
    omega
  · have q := of_decide_eq_true (List.all_eq_true.mp hF (cc, x) z)
    dsimp only at q
    omega
end
