/- PARSE: the tree stays where its rows stay -/
section
variable {K : Nat → Int} {T T2 : ms_M}
theorem lk_rg {s : Nat} {d i l a b p q e : Int} (H : LKn d K T s i l a b p q e) : ¬ s = 4 → ¬ s = 7 → 0 ≤ a ∧ a ≤ e ∧ e < b := by
  refine lk_ind (fun d s i l a b p q e => ¬ s = 4 → ¬ s = 7 → 0 ≤ a ∧ a ≤ e ∧ e < b) ?_ ?_ ?_ ?_ ?_ ?_ ?_ ?_ ?_ ?_ ?_ ?_ ?_ ?_ ?_ ?_ ?_ ?_ ?_ ?_ ?_ ?_ ?_ ?_ ?_ ?_ ?_ ?_ ?_ ?_ ?_ ?_ ?_ ?_ ?_ ?_ ?_ ?_ H
  · intro d i a b p q e h0 h1 n4 n7
    exact h0.2 (by decide) (by decide)
  · intro d ix iy iz t u y a b p q e h0 h1 h2 h3 h4 h5 h6 h7 h8 h9 h10 n4 n7
    exact h0
  · intro d i l a b p q e h0 n4 n7
    exact h0.2 (by decide) (by decide)
  · intro d ix iy l s t a b p q e h0 h1 h2 h3 h4 h5 h6 n4 n7
    exact h0
  · intro d ix l t a b p q e h0 h1 h2 h3 h4 n4 n7
    exact h0
  · intro d ix a b p q e h0 h1 h2 h3 n4 n7
    exact h0
  · intro d ix a b p q e h0 h1 h2 h3 n4 n7
    exact h0
  · intro d i a b p q e h0 h1 n4 n7
    exact h0.2 (by decide) (by decide)
  · intro d a b p q e h0 h1 h2 n4 n7
    exact h0
  · intro d a b p q e h0 h1 h2 h3 n4 n7
    exact h0
  · intro d a b p q e h0 h1 h2 h3 h4 n4 n7
    exact h0
  · intro d i t a b p q e h0 h1 n4 n7
    exact h1.2 (by decide) (by decide)
  · intro d ix t a b p q e h0 h1 h2 h3 h4 h5 n4 n7
    exact h0
  · intro d a b p q e h0 h1 h2 h3 n4 n7
    exact h0
  · intro d ix t a b p q e h0 h1 h2 h3 h4 h5 n4 n7
    exact h0
  · intro d ix t a b p q e h0 h1 h2 h3 h4 n4 n7
    exact h0
  · intro d ix t a b p q e h0 h1 h2 h3 h4 h5 n4 n7
    exact h0
  · intro d ix iy t u a b p q e h0 h1 h2 h3 h4 h5 h6 n4 n7
    exact h0
  · intro d a b p q h0 n4 n7
    exact absurd rfl n4
  · intro d a b p q e h0 h1 n4 n7
    exact absurd rfl n4
  · intro d ix t a b p q e h0 h1 h2 h3 n4 n7
    exact h0
  · intro d ix t a b p q e h0 h1 h2 h3 h4 n4 n7
    exact h0
  · intro d a b p q e h0 n4 n7
    exact h0.2 (by decide) (by decide)
  · intro d ix t u bs rw a b p q e h0 h1 h2 h3 h4 h5 n4 n7
    exact h0
  · intro d ix t y a b p q e h0 h1 h2 h3 h4 h5 h6 h7 n4 n7
    exact h0
  · intro d ix t u y z a b p q e h0 h1 h2 h3 h4 h5 h6 h7 h8 n4 n7
    exact h0
  · intro d ix t y a b p q e h0 h1 h2 h3 h4 h5 h6 h7 h8 n4 n7
    exact h0
  · intro d a b p q e h0 h1 h2 h3 n4 n7
    exact h0
  · intro d a b p q e h0 h1 h2 h3 n4 n7
    exact h0
  · intro d ix t a b p q e h0 h1 h2 h3 h4 h5 n4 n7
    exact h0
  · intro d ix t a b p q e h0 h1 h2 h3 h4 h5 n4 n7
    exact h0
  · intro d ix t a b p q e h0 h1 h2 h3 h4 h5 n4 n7
    exact h0
  · intro d t y a b p q e h0 h1 h2 h3 h4 h5 h6 n4 n7
    exact h0
  · intro d ix t a b p q e h0 h1 h2 h3 h4 h5 n4 n7
    exact h0
  · intro d ix iy t u y a b p q e h0 h1 h2 h3 h4 h5 h6 h7 h8 h9 n4 n7
    exact h0
  · intro d a b p h0 h1 n4 n7
    exact absurd rfl n7
  · intro d t y a b p q e h0 h1 h2 h3 n4 n7
    exact absurd rfl n7
  · intro d t a b p q e h0 h1 h2 h3 h4 n4 n7
    exact h0
def AGt (T T2 : ms_M) (s : Nat) (a b e : Int) : Prop := ∀ c x : Nat, 167 ≤ c → c ≤ 177 → ¬ c = 174 → a ≤ (x : Int) → (x : Int) < b → ((c = 169 ∨ c = 177) → (x : Int) = e → ¬ s ≤ 3) → (c = 173 → (x : Int) = e → ¬ (s = 6 ∨ s = 8)) → T2 c x = T c x
theorem lk_map {s : Nat} {d i l a b p q e : Int} (H : LKn d K T s i l a b p q e) : AGt T T2 s a b e → LKn d K T2 s i l a b p q e := by
  refine lk_ind (fun d s i l a b p q e => AGt T T2 s a b e → LKn d K T2 s i l a b p q e) ?_ ?_ ?_ ?_ ?_ ?_ ?_ ?_ ?_ ?_ ?_ ?_ ?_ ?_ ?_ ?_ ?_ ?_ ?_ ?_ ?_ ?_ ?_ ?_ ?_ ?_ ?_ ?_ ?_ ?_ ?_ ?_ ?_ ?_ ?_ ?_ ?_ ?_ H
  · intro d i a b p q e h0 h1 A
    exact lk_es (h0.2 (fun c x c1 c2 c3 x1 x2 x3 x4 => A c x c1 c2 c3 x1 x2 (fun z y => absurd (by decide) (x3 z y)) (fun _ _ => by decide))) h1
  · intro d ix iy iz t u y a b p q e h0 h1 h2 h3 h4 h5 h6 h7 h8 h9 h10 A
    have E167 : T2 167 e.toNat = T 167 e.toNat := A 167 e.toNat (by decide) (by decide) (by decide) (by omega) (by omega) (fun z => absurd z (by decide)) (fun z => absurd z (by decide))
    have E168 : T2 168 e.toNat = T 168 e.toNat := A 168 e.toNat (by decide) (by decide) (by decide) (by omega) (by omega) (fun z => absurd z (by decide)) (fun z => absurd z (by decide))
    have E170 : T2 170 e.toNat = T 170 e.toNat := A 170 e.toNat (by decide) (by decide) (by decide) (by omega) (by omega) (fun z => absurd z (by decide)) (fun z => absurd z (by decide))
    have E171 : T2 171 e.toNat = T 171 e.toNat := A 171 e.toNat (by decide) (by decide) (by decide) (by omega) (by omega) (fun z => absurd z (by decide)) (fun z => absurd z (by decide))
    have E172 : T2 172 e.toNat = T 172 e.toNat := A 172 e.toNat (by decide) (by decide) (by decide) (by omega) (by omega) (fun z => absurd z (by decide)) (fun z => absurd z (by decide))
    have G4 := lk_rg h3.1 (by decide) (by decide)
    have B4 : T2 169 (T 170 e.toNat).toNat = T 169 (T 170 e.toNat).toNat := A 169 (T 170 e.toNat).toNat (by decide) (by decide) (by decide) (by omega) (by omega) (fun _ y => absurd y (by omega)) (fun z => absurd z (by decide))
    have C4 : T2 177 (T 170 e.toNat).toNat = T 177 (T 170 e.toNat).toNat := A 177 (T 170 e.toNat).toNat (by decide) (by decide) (by decide) (by omega) (by omega) (fun _ y => absurd y (by omega)) (fun z => absurd z (by decide))
    have G7 := lk_rg h6.1 (by decide) (by decide)
    have B7 : T2 169 (T 171 e.toNat).toNat = T 169 (T 171 e.toNat).toNat := A 169 (T 171 e.toNat).toNat (by decide) (by decide) (by decide) (by omega) (by omega) (fun _ y => absurd y (by omega)) (fun z => absurd z (by decide))
    have C7 : T2 177 (T 171 e.toNat).toNat = T 177 (T 171 e.toNat).toNat := A 177 (T 171 e.toNat).toNat (by decide) (by decide) (by decide) (by omega) (by omega) (fun _ y => absurd y (by omega)) (fun z => absurd z (by decide))
    have G10 := lk_rg h9.1 (by decide) (by decide)
    have B10 : T2 169 (T 172 e.toNat).toNat = T 169 (T 172 e.toNat).toNat := A 169 (T 172 e.toNat).toNat (by decide) (by decide) (by decide) (by omega) (by omega) (fun _ y => absurd y (by omega)) (fun z => absurd z (by decide))
    have C10 : T2 177 (T 172 e.toNat).toNat = T 177 (T 172 e.toNat).toNat := A 177 (T 172 e.toNat).toNat (by decide) (by decide) (by decide) (by omega) (by omega) (fun _ y => absurd y (by omega)) (fun z => absurd z (by decide))
    exact lk_ec h0 h1 (by rw [E167, E168]; exact h2) (by rw [E170]; exact h3.2 (fun c x c1 c2 c3 x1 x2 x3 x4 => A c x c1 c2 c3 (by omega) (by omega) (fun _ y => absurd y (by omega)) (fun _ _ => by decide))) (by rw [E170, B4, C4]; exact h4) h5 (by rw [E171]; exact h6.2 (fun c x c1 c2 c3 x1 x2 x3 x4 => A c x c1 c2 c3 (by omega) (by omega) (fun _ y => absurd y (by omega)) (fun _ _ => by decide))) (by rw [E171, B7, C7]; exact h7) h8 (by rw [E172]; exact h9.2 (fun c x c1 c2 c3 x1 x2 x3 x4 => A c x c1 c2 c3 (by omega) (by omega) (fun _ y => absurd y (by omega)) (fun _ _ => by decide))) (by rw [E172, B10, C10]; exact h10)
  · intro d i l a b p q e h0 A
    exact lk_su (h0.2 (fun c x c1 c2 c3 x1 x2 x3 x4 => A c x c1 c2 c3 x1 x2 (fun z y => absurd (by decide) (x3 z y)) (fun _ _ => by decide)))
  · intro d ix iy l s t a b p q e h0 h1 h2 h3 h4 h5 h6 A
    have E167 : T2 167 e.toNat = T 167 e.toNat := A 167 e.toNat (by decide) (by decide) (by decide) (by omega) (by omega) (fun z => absurd z (by decide)) (fun z => absurd z (by decide))
    have E168 : T2 168 e.toNat = T 168 e.toNat := A 168 e.toNat (by decide) (by decide) (by decide) (by omega) (by omega) (fun z => absurd z (by decide)) (fun z => absurd z (by decide))
    have E170 : T2 170 e.toNat = T 170 e.toNat := A 170 e.toNat (by decide) (by decide) (by decide) (by omega) (by omega) (fun z => absurd z (by decide)) (fun z => absurd z (by decide))
    have E171 : T2 171 e.toNat = T 171 e.toNat := A 171 e.toNat (by decide) (by decide) (by decide) (by omega) (by omega) (fun z => absurd z (by decide)) (fun z => absurd z (by decide))
    have G4 := lk_rg h3.1 (by decide) (by decide)
    have B4 : T2 169 (T 170 e.toNat).toNat = T 169 (T 170 e.toNat).toNat := A 169 (T 170 e.toNat).toNat (by decide) (by decide) (by decide) (by omega) (by omega) (fun _ y => absurd y (by omega)) (fun z => absurd z (by decide))
    have C4 : T2 177 (T 170 e.toNat).toNat = T 177 (T 170 e.toNat).toNat := A 177 (T 170 e.toNat).toNat (by decide) (by decide) (by decide) (by omega) (by omega) (fun _ y => absurd y (by omega)) (fun z => absurd z (by decide))
    have G6 := lk_rg h5.1 (by decide) (by decide)
    have B6 : T2 169 (T 171 e.toNat).toNat = T 169 (T 171 e.toNat).toNat := A 169 (T 171 e.toNat).toNat (by decide) (by decide) (by decide) (by omega) (by omega) (fun _ y => absurd y (by omega)) (fun z => absurd z (by decide))
    have C6 : T2 177 (T 171 e.toNat).toNat = T 177 (T 171 e.toNat).toNat := A 177 (T 171 e.toNat).toNat (by decide) (by decide) (by decide) (by omega) (by omega) (fun _ y => absurd y (by omega)) (fun z => absurd z (by decide))
    exact lk_sb h0 (by rw [E167, E168]; exact h1) h2 (by rw [E170]; exact h3.2 (fun c x c1 c2 c3 x1 x2 x3 x4 => A c x c1 c2 c3 (by omega) (by omega) (fun _ y => absurd y (by omega)) (fun _ _ => by decide))) (by rw [E170, B4, C4]; exact h4) (by rw [E171]; exact h5.2 (fun c x c1 c2 c3 x1 x2 x3 x4 => A c x c1 c2 c3 (by omega) (by omega) (fun _ y => absurd y (by omega)) (fun _ _ => by decide))) (by rw [E171, B6, C6]; exact h6)
  · intro d ix l t a b p q e h0 h1 h2 h3 h4 A
    have E167 : T2 167 e.toNat = T 167 e.toNat := A 167 e.toNat (by decide) (by decide) (by decide) (by omega) (by omega) (fun z => absurd z (by decide)) (fun z => absurd z (by decide))
    have E168 : T2 168 e.toNat = T 168 e.toNat := A 168 e.toNat (by decide) (by decide) (by decide) (by omega) (by omega) (fun z => absurd z (by decide)) (fun z => absurd z (by decide))
    have E170 : T2 170 e.toNat = T 170 e.toNat := A 170 e.toNat (by decide) (by decide) (by decide) (by omega) (by omega) (fun z => absurd z (by decide)) (fun z => absurd z (by decide))
    have G4 := lk_rg h3.1 (by decide) (by decide)
    have B4 : T2 169 (T 170 e.toNat).toNat = T 169 (T 170 e.toNat).toNat := A 169 (T 170 e.toNat).toNat (by decide) (by decide) (by decide) (by omega) (by omega) (fun _ y => absurd y (by omega)) (fun z => absurd z (by decide))
    have C4 : T2 177 (T 170 e.toNat).toNat = T 177 (T 170 e.toNat).toNat := A 177 (T 170 e.toNat).toNat (by decide) (by decide) (by decide) (by omega) (by omega) (fun _ y => absurd y (by omega)) (fun z => absurd z (by decide))
    exact lk_si h0 (by rw [E167, E168]; exact h1) h2 (by rw [E170]; exact h3.2 (fun c x c1 c2 c3 x1 x2 x3 x4 => A c x c1 c2 c3 (by omega) (by omega) (fun _ y => absurd y (by omega)) (fun _ _ => by decide))) (by rw [E170, B4, C4]; exact h4)
  · intro d ix a b p q e h0 h1 h2 h3 A
    have E167 : T2 167 e.toNat = T 167 e.toNat := A 167 e.toNat (by decide) (by decide) (by decide) (by omega) (by omega) (fun z => absurd z (by decide)) (fun z => absurd z (by decide))
    have E168 : T2 168 e.toNat = T 168 e.toNat := A 168 e.toNat (by decide) (by decide) (by decide) (by omega) (by omega) (fun z => absurd z (by decide)) (fun z => absurd z (by decide))
    have E170 : T2 170 e.toNat = T 170 e.toNat := A 170 e.toNat (by decide) (by decide) (by decide) (by omega) (by omega) (fun z => absurd z (by decide)) (fun z => absurd z (by decide))
    have G3 := lk_rg h2.1 (by decide) (by decide)
    have B3 : T2 169 (T 170 e.toNat).toNat = T 169 (T 170 e.toNat).toNat := A 169 (T 170 e.toNat).toNat (by decide) (by decide) (by decide) (by omega) (by omega) (fun _ y => absurd y (by omega)) (fun z => absurd z (by decide))
    have C3 : T2 177 (T 170 e.toNat).toNat = T 177 (T 170 e.toNat).toNat := A 177 (T 170 e.toNat).toNat (by decide) (by decide) (by decide) (by omega) (by omega) (fun _ y => absurd y (by omega)) (fun z => absurd z (by decide))
    exact lk_us h0 (by rw [E167, E168]; exact h1) (by rw [E170]; exact h2.2 (fun c x c1 c2 c3 x1 x2 x3 x4 => A c x c1 c2 c3 (by omega) (by omega) (fun _ y => absurd y (by omega)) (fun _ _ => by decide))) (by rw [E170, B3, C3]; exact h3)
  · intro d ix a b p q e h0 h1 h2 h3 A
    have E167 : T2 167 e.toNat = T 167 e.toNat := A 167 e.toNat (by decide) (by decide) (by decide) (by omega) (by omega) (fun z => absurd z (by decide)) (fun z => absurd z (by decide))
    have E168 : T2 168 e.toNat = T 168 e.toNat := A 168 e.toNat (by decide) (by decide) (by decide) (by omega) (by omega) (fun z => absurd z (by decide)) (fun z => absurd z (by decide))
    have E170 : T2 170 e.toNat = T 170 e.toNat := A 170 e.toNat (by decide) (by decide) (by decide) (by omega) (by omega) (fun z => absurd z (by decide)) (fun z => absurd z (by decide))
    have G3 := lk_rg h2.1 (by decide) (by decide)
    have B3 : T2 169 (T 170 e.toNat).toNat = T 169 (T 170 e.toNat).toNat := A 169 (T 170 e.toNat).toNat (by decide) (by decide) (by decide) (by omega) (by omega) (fun _ y => absurd y (by omega)) (fun z => absurd z (by decide))
    have C3 : T2 177 (T 170 e.toNat).toNat = T 177 (T 170 e.toNat).toNat := A 177 (T 170 e.toNat).toNat (by decide) (by decide) (by decide) (by omega) (by omega) (fun _ y => absurd y (by omega)) (fun z => absurd z (by decide))
    exact lk_uc h0 (by rw [E167, E168]; exact h1) (by rw [E170]; exact h2.2 (fun c x c1 c2 c3 x1 x2 x3 x4 => A c x c1 c2 c3 (by omega) (by omega) (fun _ y => absurd y (by omega)) (fun _ _ => by decide))) (by rw [E170, B3, C3]; exact h3)
  · intro d i a b p q e h0 h1 A
    exact lk_up (h0.2 (fun c x c1 c2 c3 x1 x2 x3 x4 => A c x c1 c2 c3 x1 x2 (fun z y => absurd (by decide) (x3 z y)) (fun _ _ => by decide))) h1
  · intro d a b p q e h0 h1 h2 A
    have E167 : T2 167 e.toNat = T 167 e.toNat := A 167 e.toNat (by decide) (by decide) (by decide) (by omega) (by omega) (fun z => absurd z (by decide)) (fun z => absurd z (by decide))
    have E168 : T2 168 e.toNat = T 168 e.toNat := A 168 e.toNat (by decide) (by decide) (by decide) (by omega) (by omega) (fun z => absurd z (by decide)) (fun z => absurd z (by decide))
    exact lk_pl h0 (by rw [E167, E168]; exact h1) h2
  · intro d a b p q e h0 h1 h2 h3 A
    have E167 : T2 167 e.toNat = T 167 e.toNat := A 167 e.toNat (by decide) (by decide) (by decide) (by omega) (by omega) (fun z => absurd z (by decide)) (fun z => absurd z (by decide))
    have E168 : T2 168 e.toNat = T 168 e.toNat := A 168 e.toNat (by decide) (by decide) (by decide) (by omega) (by omega) (fun z => absurd z (by decide)) (fun z => absurd z (by decide))
    exact lk_pn h0 (by rw [E167, E168]; exact h1) h2 h3
  · intro d a b p q e h0 h1 h2 h3 h4 A
    have E167 : T2 167 e.toNat = T 167 e.toNat := A 167 e.toNat (by decide) (by decide) (by decide) (by omega) (by omega) (fun z => absurd z (by decide)) (fun z => absurd z (by decide))
    have E168 : T2 168 e.toNat = T 168 e.toNat := A 168 e.toNat (by decide) (by decide) (by decide) (by omega) (by omega) (fun z => absurd z (by decide)) (fun z => absurd z (by decide))
    have E171 : T2 171 e.toNat = T 171 e.toNat := A 171 e.toNat (by decide) (by decide) (by decide) (by omega) (by omega) (fun z => absurd z (by decide)) (fun z => absurd z (by decide))
    exact lk_pc h0 (by rw [E167, E168]; exact h1) h2 (by rw [E171]; exact h3.2 (fun c x c1 c2 c3 x1 x2 x3 x4 => A c x c1 c2 c3 (by omega) (by omega) (fun _ y => absurd y (by omega)) (fun _ _ => by decide))) h4
  · intro d i t a b p q e h0 h1 A
    exact lk_pb h0 (h1.2 (fun c x c1 c2 c3 x1 x2 x3 x4 => A c x c1 c2 c3 x1 x2 (fun z y => absurd (by decide) (x3 z y)) (fun _ _ => by decide)))
  · intro d ix t a b p q e h0 h1 h2 h3 h4 h5 A
    have E167 : T2 167 e.toNat = T 167 e.toNat := A 167 e.toNat (by decide) (by decide) (by decide) (by omega) (by omega) (fun z => absurd z (by decide)) (fun z => absurd z (by decide))
    have E168 : T2 168 e.toNat = T 168 e.toNat := A 168 e.toNat (by decide) (by decide) (by decide) (by omega) (by omega) (fun z => absurd z (by decide)) (fun z => absurd z (by decide))
    have E170 : T2 170 e.toNat = T 170 e.toNat := A 170 e.toNat (by decide) (by decide) (by decide) (by omega) (by omega) (fun z => absurd z (by decide)) (fun z => absurd z (by decide))
    have G4 := lk_rg h3.1 (by decide) (by decide)
    have B4 : T2 169 (T 170 e.toNat).toNat = T 169 (T 170 e.toNat).toNat := A 169 (T 170 e.toNat).toNat (by decide) (by decide) (by decide) (by omega) (by omega) (fun _ y => absurd y (by omega)) (fun z => absurd z (by decide))
    have C4 : T2 177 (T 170 e.toNat).toNat = T 177 (T 170 e.toNat).toNat := A 177 (T 170 e.toNat).toNat (by decide) (by decide) (by decide) (by omega) (by omega) (fun _ y => absurd y (by omega)) (fun z => absurd z (by decide))
    exact lk_pi h0 (by rw [E167, E168]; exact h1) h2 (by rw [E170]; exact h3.2 (fun c x c1 c2 c3 x1 x2 x3 x4 => A c x c1 c2 c3 (by omega) (by omega) (fun _ y => absurd y (by omega)) (fun _ _ => by decide))) (by rw [E170, B4, C4]; exact h4) h5
  · intro d a b p q e h0 h1 h2 h3 A
    have E167 : T2 167 e.toNat = T 167 e.toNat := A 167 e.toNat (by decide) (by decide) (by decide) (by omega) (by omega) (fun z => absurd z (by decide)) (fun z => absurd z (by decide))
    have E168 : T2 168 e.toNat = T 168 e.toNat := A 168 e.toNat (by decide) (by decide) (by decide) (by omega) (by omega) (fun z => absurd z (by decide)) (fun z => absurd z (by decide))
    exact lk_pm h0 (by rw [E167, E168]; exact h1) h2 h3
  · intro d ix t a b p q e h0 h1 h2 h3 h4 h5 A
    have E167 : T2 167 e.toNat = T 167 e.toNat := A 167 e.toNat (by decide) (by decide) (by decide) (by omega) (by omega) (fun z => absurd z (by decide)) (fun z => absurd z (by decide))
    have E168 : T2 168 e.toNat = T 168 e.toNat := A 168 e.toNat (by decide) (by decide) (by decide) (by omega) (by omega) (fun z => absurd z (by decide)) (fun z => absurd z (by decide))
    have E170 : T2 170 e.toNat = T 170 e.toNat := A 170 e.toNat (by decide) (by decide) (by decide) (by omega) (by omega) (fun z => absurd z (by decide)) (fun z => absurd z (by decide))
    have E172 : T2 172 e.toNat = T 172 e.toNat := A 172 e.toNat (by decide) (by decide) (by decide) (by omega) (by omega) (fun z => absurd z (by decide)) (fun z => absurd z (by decide))
    have G4 := lk_rg h3.1 (by decide) (by decide)
    have B4 : T2 169 (T 170 e.toNat).toNat = T 169 (T 170 e.toNat).toNat := A 169 (T 170 e.toNat).toNat (by decide) (by decide) (by decide) (by omega) (by omega) (fun _ y => absurd y (by omega)) (fun z => absurd z (by decide))
    have C4 : T2 177 (T 170 e.toNat).toNat = T 177 (T 170 e.toNat).toNat := A 177 (T 170 e.toNat).toNat (by decide) (by decide) (by decide) (by omega) (by omega) (fun _ y => absurd y (by omega)) (fun z => absurd z (by decide))
    exact lk_pr h0 (by rw [E167, E168, E172]; exact h1) h2 (by rw [E170]; exact h3.2 (fun c x c1 c2 c3 x1 x2 x3 x4 => A c x c1 c2 c3 (by omega) (by omega) (fun _ y => absurd y (by omega)) (fun _ _ => by decide))) (by rw [E170, B4, C4]; exact h4) h5
  · intro d ix t a b p q e h0 h1 h2 h3 h4 A
    have E167 : T2 167 e.toNat = T 167 e.toNat := A 167 e.toNat (by decide) (by decide) (by decide) (by omega) (by omega) (fun z => absurd z (by decide)) (fun z => absurd z (by decide))
    have E168 : T2 168 e.toNat = T 168 e.toNat := A 168 e.toNat (by decide) (by decide) (by decide) (by omega) (by omega) (fun z => absurd z (by decide)) (fun z => absurd z (by decide))
    have E170 : T2 170 e.toNat = T 170 e.toNat := A 170 e.toNat (by decide) (by decide) (by decide) (by omega) (by omega) (fun z => absurd z (by decide)) (fun z => absurd z (by decide))
    have E172 : T2 172 e.toNat = T 172 e.toNat := A 172 e.toNat (by decide) (by decide) (by decide) (by omega) (by omega) (fun z => absurd z (by decide)) (fun z => absurd z (by decide))
    have G4 := lk_rg h3.1 (by decide) (by decide)
    have B4 : T2 169 (T 170 e.toNat).toNat = T 169 (T 170 e.toNat).toNat := A 169 (T 170 e.toNat).toNat (by decide) (by decide) (by decide) (by omega) (by omega) (fun _ y => absurd y (by omega)) (fun z => absurd z (by decide))
    have C4 : T2 177 (T 170 e.toNat).toNat = T 177 (T 170 e.toNat).toNat := A 177 (T 170 e.toNat).toNat (by decide) (by decide) (by decide) (by omega) (by omega) (fun _ y => absurd y (by omega)) (fun z => absurd z (by decide))
    exact lk_pf h0 (by rw [E167, E168, E172]; exact h1) h2 (by rw [E170]; exact h3.2 (fun c x c1 c2 c3 x1 x2 x3 x4 => A c x c1 c2 c3 (by omega) (by omega) (fun _ y => absurd y (by omega)) (fun _ _ => by decide))) (by rw [E170, B4, C4]; exact h4)
  · intro d ix t a b p q e h0 h1 h2 h3 h4 h5 A
    have E167 : T2 167 e.toNat = T 167 e.toNat := A 167 e.toNat (by decide) (by decide) (by decide) (by omega) (by omega) (fun z => absurd z (by decide)) (fun z => absurd z (by decide))
    have E168 : T2 168 e.toNat = T 168 e.toNat := A 168 e.toNat (by decide) (by decide) (by decide) (by omega) (by omega) (fun z => absurd z (by decide)) (fun z => absurd z (by decide))
    have E170 : T2 170 e.toNat = T 170 e.toNat := A 170 e.toNat (by decide) (by decide) (by decide) (by omega) (by omega) (fun z => absurd z (by decide)) (fun z => absurd z (by decide))
    have E171 : T2 171 e.toNat = T 171 e.toNat := A 171 e.toNat (by decide) (by decide) (by decide) (by omega) (by omega) (fun z => absurd z (by decide)) (fun z => absurd z (by decide))
    have E172 : T2 172 e.toNat = T 172 e.toNat := A 172 e.toNat (by decide) (by decide) (by decide) (by omega) (by omega) (fun z => absurd z (by decide)) (fun z => absurd z (by decide))
    have G4 := lk_rg h3.1 (by decide) (by decide)
    have B4 : T2 169 (T 170 e.toNat).toNat = T 169 (T 170 e.toNat).toNat := A 169 (T 170 e.toNat).toNat (by decide) (by decide) (by decide) (by omega) (by omega) (fun _ y => absurd y (by omega)) (fun z => absurd z (by decide))
    have C4 : T2 177 (T 170 e.toNat).toNat = T 177 (T 170 e.toNat).toNat := A 177 (T 170 e.toNat).toNat (by decide) (by decide) (by decide) (by omega) (by omega) (fun _ y => absurd y (by omega)) (fun z => absurd z (by decide))
    exact lk_pd h0 (by rw [E167, E168, E172]; exact h1) h2 (by rw [E170]; exact h3.2 (fun c x c1 c2 c3 x1 x2 x3 x4 => A c x c1 c2 c3 (by omega) (by omega) (fun _ y => absurd y (by omega)) (fun _ _ => by decide))) (by rw [E170, B4, C4]; exact h4) (by rw [E171]; exact h5.2 (fun c x c1 c2 c3 x1 x2 x3 x4 => A c x c1 c2 c3 (by omega) (by omega) (fun _ y => absurd y (by omega)) (fun _ _ => by decide)))
  · intro d ix iy t u a b p q e h0 h1 h2 h3 h4 h5 h6 A
    have E167 : T2 167 e.toNat = T 167 e.toNat := A 167 e.toNat (by decide) (by decide) (by decide) (by omega) (by omega) (fun z => absurd z (by decide)) (fun z => absurd z (by decide))
    have E168 : T2 168 e.toNat = T 168 e.toNat := A 168 e.toNat (by decide) (by decide) (by decide) (by omega) (by omega) (fun z => absurd z (by decide)) (fun z => absurd z (by decide))
    have E170 : T2 170 e.toNat = T 170 e.toNat := A 170 e.toNat (by decide) (by decide) (by decide) (by omega) (by omega) (fun z => absurd z (by decide)) (fun z => absurd z (by decide))
    have E171 : T2 171 e.toNat = T 171 e.toNat := A 171 e.toNat (by decide) (by decide) (by decide) (by omega) (by omega) (fun z => absurd z (by decide)) (fun z => absurd z (by decide))
    have G4 := lk_rg h3.1 (by decide) (by decide)
    have B4 : T2 169 (T 170 e.toNat).toNat = T 169 (T 170 e.toNat).toNat := A 169 (T 170 e.toNat).toNat (by decide) (by decide) (by decide) (by omega) (by omega) (fun _ y => absurd y (by omega)) (fun z => absurd z (by decide))
    have C4 : T2 177 (T 170 e.toNat).toNat = T 177 (T 170 e.toNat).toNat := A 177 (T 170 e.toNat).toNat (by decide) (by decide) (by decide) (by omega) (by omega) (fun _ y => absurd y (by omega)) (fun z => absurd z (by decide))
    have G6 := lk_rg h5.1 (by decide) (by decide)
    have B6 : T2 169 (T 171 e.toNat).toNat = T 169 (T 171 e.toNat).toNat := A 169 (T 171 e.toNat).toNat (by decide) (by decide) (by decide) (by omega) (by omega) (fun _ y => absurd y (by omega)) (fun z => absurd z (by decide))
    have C6 : T2 177 (T 171 e.toNat).toNat = T 177 (T 171 e.toNat).toNat := A 177 (T 171 e.toNat).toNat (by decide) (by decide) (by decide) (by omega) (by omega) (fun _ y => absurd y (by omega)) (fun z => absurd z (by decide))
    exact lk_pe h0 (by rw [E167, E168]; exact h1) h2 (by rw [E170]; exact h3.2 (fun c x c1 c2 c3 x1 x2 x3 x4 => A c x c1 c2 c3 (by omega) (by omega) (fun _ y => absurd y (by omega)) (fun _ _ => by decide))) (by rw [E170, B4, C4]; exact h4) (by rw [E171]; exact h5.2 (fun c x c1 c2 c3 x1 x2 x3 x4 => A c x c1 c2 c3 (by omega) (by omega) (fun _ y => absurd y (by omega)) (fun _ _ => by decide))) (by rw [E171, B6, C6]; exact h6)
  · intro d a b p q h0 A
    exact lk_an h0
  · intro d a b p q e h0 h1 A
    exact lk_al h0 (h1.2 (fun c x c1 c2 c3 x1 x2 x3 x4 => A c x c1 c2 c3 x1 x2 (fun _ _ => by decide) (fun z y => by decide)))
  · intro d ix t a b p q e h0 h1 h2 h3 A
    have E170 : T2 170 e.toNat = T 170 e.toNat := A 170 e.toNat (by decide) (by decide) (by decide) (by omega) (by omega) (fun _ _ => by decide) (fun z => absurd z (by decide))
    have E173 : T2 173 e.toNat = T 173 e.toNat := A 173 e.toNat (by decide) (by decide) (by decide) (by omega) (by omega) (fun _ _ => by decide) (fun _ _ => by decide)
    have G2 := lk_rg h1.1 (by decide) (by decide)
    have B2 : T2 169 (T 170 e.toNat).toNat = T 169 (T 170 e.toNat).toNat := A 169 (T 170 e.toNat).toNat (by decide) (by decide) (by decide) (by omega) (by omega) (fun _ y => by decide) (fun z => absurd z (by decide))
    have C2 : T2 177 (T 170 e.toNat).toNat = T 177 (T 170 e.toNat).toNat := A 177 (T 170 e.toNat).toNat (by decide) (by decide) (by decide) (by omega) (by omega) (fun _ y => by decide) (fun z => absurd z (by decide))
    exact lk_ao h0 (by rw [E170]; exact h1.2 (fun c x c1 c2 c3 x1 x2 x3 x4 => A c x c1 c2 c3 (by omega) (by omega) (fun _ _ => by decide) (fun _ y => by decide))) (by rw [E170, B2, C2]; exact h2) (by rw [E173]; exact h3)
  · intro d ix t a b p q e h0 h1 h2 h3 h4 A
    have E170 : T2 170 e.toNat = T 170 e.toNat := A 170 e.toNat (by decide) (by decide) (by decide) (by omega) (by omega) (fun _ _ => by decide) (fun z => absurd z (by decide))
    have E173 : T2 173 e.toNat = T 173 e.toNat := A 173 e.toNat (by decide) (by decide) (by decide) (by omega) (by omega) (fun _ _ => by decide) (fun _ _ => by decide)
    have G2 := lk_rg h1.1 (by decide) (by decide)
    have B2 : T2 169 (T 170 e.toNat).toNat = T 169 (T 170 e.toNat).toNat := A 169 (T 170 e.toNat).toNat (by decide) (by decide) (by decide) (by omega) (by omega) (fun _ y => by decide) (fun z => absurd z (by decide))
    have C2 : T2 177 (T 170 e.toNat).toNat = T 177 (T 170 e.toNat).toNat := A 177 (T 170 e.toNat).toNat (by decide) (by decide) (by decide) (by omega) (by omega) (fun _ y => by decide) (fun z => absurd z (by decide))
    exact lk_am h0 (by rw [E170]; exact h1.2 (fun c x c1 c2 c3 x1 x2 x3 x4 => A c x c1 c2 c3 (by omega) (by omega) (fun _ _ => by decide) (fun _ y => by decide))) (by rw [E170, B2, C2]; exact h2) h3 (by rw [E173]; exact h4.2 (fun c x c1 c2 c3 x1 x2 x3 x4 => A c x c1 c2 c3 (by omega) (by omega) (fun _ _ => by decide) (fun _ y => by decide)))
  · intro d a b p q e h0 A
    exact lk_tb (h0.2 (fun c x c1 c2 c3 x1 x2 x3 x4 => A c x c1 c2 c3 x1 x2 (fun _ _ => by decide) (fun z y => absurd (by decide) (x4 z y))))
  · intro d ix t u bs rw a b p q e h0 h1 h2 h3 h4 h5 A
    have E167 : T2 167 e.toNat = T 167 e.toNat := A 167 e.toNat (by decide) (by decide) (by decide) (by omega) (by omega) (fun _ _ => by decide) (fun z => absurd z (by decide))
    have E168 : T2 168 e.toNat = T 168 e.toNat := A 168 e.toNat (by decide) (by decide) (by decide) (by omega) (by omega) (fun _ _ => by decide) (fun z => absurd z (by decide))
    have E169 : T2 169 e.toNat = T 169 e.toNat := A 169 e.toNat (by decide) (by decide) (by decide) (by omega) (by omega) (fun _ _ => by decide) (fun z => absurd z (by decide))
    have E170 : T2 170 e.toNat = T 170 e.toNat := A 170 e.toNat (by decide) (by decide) (by decide) (by omega) (by omega) (fun _ _ => by decide) (fun z => absurd z (by decide))
    have E172 : T2 172 e.toNat = T 172 e.toNat := A 172 e.toNat (by decide) (by decide) (by decide) (by omega) (by omega) (fun _ _ => by decide) (fun z => absurd z (by decide))
    have E175 : T2 175 e.toNat = T 175 e.toNat := A 175 e.toNat (by decide) (by decide) (by decide) (by omega) (by omega) (fun _ _ => by decide) (fun z => absurd z (by decide))
    have E176 : T2 176 e.toNat = T 176 e.toNat := A 176 e.toNat (by decide) (by decide) (by decide) (by omega) (by omega) (fun _ _ => by decide) (fun z => absurd z (by decide))
    have G4 := lk_rg h3.1 (by decide) (by decide)
    have B4 : T2 169 (T 170 e.toNat).toNat = T 169 (T 170 e.toNat).toNat := A 169 (T 170 e.toNat).toNat (by decide) (by decide) (by decide) (by omega) (by omega) (fun _ y => by decide) (fun z => absurd z (by decide))
    have C4 : T2 177 (T 170 e.toNat).toNat = T 177 (T 170 e.toNat).toNat := A 177 (T 170 e.toNat).toNat (by decide) (by decide) (by decide) (by omega) (by omega) (fun _ y => by decide) (fun z => absurd z (by decide))
    exact lk_tv h0 (by rw [E167, E168, E169, E172, E175, E176]; exact h1) h2 (by rw [E170]; exact h3.2 (fun c x c1 c2 c3 x1 x2 x3 x4 => A c x c1 c2 c3 (by omega) (by omega) (fun _ _ => by decide) (fun _ y => absurd y (by omega)))) (by rw [E170, B4, C4]; exact h4) h5
  · intro d ix t y a b p q e h0 h1 h2 h3 h4 h5 h6 h7 A
    have E167 : T2 167 e.toNat = T 167 e.toNat := A 167 e.toNat (by decide) (by decide) (by decide) (by omega) (by omega) (fun _ _ => by decide) (fun z => absurd z (by decide))
    have E169 : T2 169 e.toNat = T 169 e.toNat := A 169 e.toNat (by decide) (by decide) (by decide) (by omega) (by omega) (fun _ _ => by decide) (fun z => absurd z (by decide))
    have E170 : T2 170 e.toNat = T 170 e.toNat := A 170 e.toNat (by decide) (by decide) (by decide) (by omega) (by omega) (fun _ _ => by decide) (fun z => absurd z (by decide))
    have E171 : T2 171 e.toNat = T 171 e.toNat := A 171 e.toNat (by decide) (by decide) (by decide) (by omega) (by omega) (fun _ _ => by decide) (fun z => absurd z (by decide))
    have E172 : T2 172 e.toNat = T 172 e.toNat := A 172 e.toNat (by decide) (by decide) (by decide) (by omega) (by omega) (fun _ _ => by decide) (fun z => absurd z (by decide))
    have G5 := lk_rg h4.1 (by decide) (by decide)
    have B5 : T2 169 (T 170 e.toNat).toNat = T 169 (T 170 e.toNat).toNat := A 169 (T 170 e.toNat).toNat (by decide) (by decide) (by decide) (by omega) (by omega) (fun _ y => by decide) (fun z => absurd z (by decide))
    have C5 : T2 177 (T 170 e.toNat).toNat = T 177 (T 170 e.toNat).toNat := A 177 (T 170 e.toNat).toNat (by decide) (by decide) (by decide) (by omega) (by omega) (fun _ y => by decide) (fun z => absurd z (by decide))
    exact lk_ti h0 h1 (by rw [E167, E169, E172]; exact h2) h3 (by rw [E170]; exact h4.2 (fun c x c1 c2 c3 x1 x2 x3 x4 => A c x c1 c2 c3 (by omega) (by omega) (fun _ _ => by decide) (fun _ y => absurd y (by omega)))) (by rw [E170, B5, C5]; exact h5) h6 (by rw [E171]; exact h7.2 (fun c x c1 c2 c3 x1 x2 x3 x4 => A c x c1 c2 c3 (by omega) (by omega) (fun _ _ => by decide) (fun _ y => absurd y (by omega))))
  · intro d ix t u y z a b p q e h0 h1 h2 h3 h4 h5 h6 h7 h8 A
    have E167 : T2 167 e.toNat = T 167 e.toNat := A 167 e.toNat (by decide) (by decide) (by decide) (by omega) (by omega) (fun _ _ => by decide) (fun z => absurd z (by decide))
    have E169 : T2 169 e.toNat = T 169 e.toNat := A 169 e.toNat (by decide) (by decide) (by decide) (by omega) (by omega) (fun _ _ => by decide) (fun z => absurd z (by decide))
    have E170 : T2 170 e.toNat = T 170 e.toNat := A 170 e.toNat (by decide) (by decide) (by decide) (by omega) (by omega) (fun _ _ => by decide) (fun z => absurd z (by decide))
    have E171 : T2 171 e.toNat = T 171 e.toNat := A 171 e.toNat (by decide) (by decide) (by decide) (by omega) (by omega) (fun _ _ => by decide) (fun z => absurd z (by decide))
    have E172 : T2 172 e.toNat = T 172 e.toNat := A 172 e.toNat (by decide) (by decide) (by decide) (by omega) (by omega) (fun _ _ => by decide) (fun z => absurd z (by decide))
    have G5 := lk_rg h4.1 (by decide) (by decide)
    have B5 : T2 169 (T 170 e.toNat).toNat = T 169 (T 170 e.toNat).toNat := A 169 (T 170 e.toNat).toNat (by decide) (by decide) (by decide) (by omega) (by omega) (fun _ y => by decide) (fun z => absurd z (by decide))
    have C5 : T2 177 (T 170 e.toNat).toNat = T 177 (T 170 e.toNat).toNat := A 177 (T 170 e.toNat).toNat (by decide) (by decide) (by decide) (by omega) (by omega) (fun _ y => by decide) (fun z => absurd z (by decide))
    exact lk_tj h0 h1 (by rw [E167, E169]; exact h2) h3 (by rw [E170]; exact h4.2 (fun c x c1 c2 c3 x1 x2 x3 x4 => A c x c1 c2 c3 (by omega) (by omega) (fun _ _ => by decide) (fun _ y => absurd y (by omega)))) (by rw [E170, B5, C5]; exact h5) h6 (by rw [E171]; exact h7.2 (fun c x c1 c2 c3 x1 x2 x3 x4 => A c x c1 c2 c3 (by omega) (by omega) (fun _ _ => by decide) (fun _ y => absurd y (by omega)))) (by rw [E172]; exact h8.2 (fun c x c1 c2 c3 x1 x2 x3 x4 => A c x c1 c2 c3 (by omega) (by omega) (fun _ _ => by decide) (fun _ y => absurd y (by omega))))
  · intro d ix t y a b p q e h0 h1 h2 h3 h4 h5 h6 h7 h8 A
    have E167 : T2 167 e.toNat = T 167 e.toNat := A 167 e.toNat (by decide) (by decide) (by decide) (by omega) (by omega) (fun _ _ => by decide) (fun z => absurd z (by decide))
    have E169 : T2 169 e.toNat = T 169 e.toNat := A 169 e.toNat (by decide) (by decide) (by decide) (by omega) (by omega) (fun _ _ => by decide) (fun z => absurd z (by decide))
    have E170 : T2 170 e.toNat = T 170 e.toNat := A 170 e.toNat (by decide) (by decide) (by decide) (by omega) (by omega) (fun _ _ => by decide) (fun z => absurd z (by decide))
    have E171 : T2 171 e.toNat = T 171 e.toNat := A 171 e.toNat (by decide) (by decide) (by decide) (by omega) (by omega) (fun _ _ => by decide) (fun z => absurd z (by decide))
    have E175 : T2 175 e.toNat = T 175 e.toNat := A 175 e.toNat (by decide) (by decide) (by decide) (by omega) (by omega) (fun _ _ => by decide) (fun z => absurd z (by decide))
    have G6 := lk_rg h5.1 (by decide) (by decide)
    have B6 : T2 169 (T 170 e.toNat).toNat = T 169 (T 170 e.toNat).toNat := A 169 (T 170 e.toNat).toNat (by decide) (by decide) (by decide) (by omega) (by omega) (fun _ y => by decide) (fun z => absurd z (by decide))
    have C6 : T2 177 (T 170 e.toNat).toNat = T 177 (T 170 e.toNat).toNat := A 177 (T 170 e.toNat).toNat (by decide) (by decide) (by decide) (by omega) (by omega) (fun _ y => by decide) (fun z => absurd z (by decide))
    exact lk_tw h0 h1 (by rw [E167, E169]; exact h2) h3 (by rw [E175]; exact h4) (by rw [E170]; exact h5.2 (fun c x c1 c2 c3 x1 x2 x3 x4 => A c x c1 c2 c3 (by omega) (by omega) (fun _ _ => by decide) (fun _ y => absurd y (by omega)))) (by rw [E170, B6, C6]; exact h6) h7 (by rw [E171]; exact h8.2 (fun c x c1 c2 c3 x1 x2 x3 x4 => A c x c1 c2 c3 (by omega) (by omega) (fun _ _ => by decide) (fun _ y => absurd y (by omega))))
  · intro d a b p q e h0 h1 h2 h3 A
    have E167 : T2 167 e.toNat = T 167 e.toNat := A 167 e.toNat (by decide) (by decide) (by decide) (by omega) (by omega) (fun _ _ => by decide) (fun z => absurd z (by decide))
    have E168 : T2 168 e.toNat = T 168 e.toNat := A 168 e.toNat (by decide) (by decide) (by decide) (by omega) (by omega) (fun _ _ => by decide) (fun z => absurd z (by decide))
    have E169 : T2 169 e.toNat = T 169 e.toNat := A 169 e.toNat (by decide) (by decide) (by decide) (by omega) (by omega) (fun _ _ => by decide) (fun z => absurd z (by decide))
    exact lk_tl h0 (by rw [E167, E168, E169]; exact h1) h2 h3
  · intro d a b p q e h0 h1 h2 h3 A
    have E167 : T2 167 e.toNat = T 167 e.toNat := A 167 e.toNat (by decide) (by decide) (by decide) (by omega) (by omega) (fun _ _ => by decide) (fun z => absurd z (by decide))
    have E168 : T2 168 e.toNat = T 168 e.toNat := A 168 e.toNat (by decide) (by decide) (by decide) (by omega) (by omega) (fun _ _ => by decide) (fun z => absurd z (by decide))
    have E169 : T2 169 e.toNat = T 169 e.toNat := A 169 e.toNat (by decide) (by decide) (by decide) (by omega) (by omega) (fun _ _ => by decide) (fun z => absurd z (by decide))
    have E170 : T2 170 e.toNat = T 170 e.toNat := A 170 e.toNat (by decide) (by decide) (by decide) (by omega) (by omega) (fun _ _ => by decide) (fun z => absurd z (by decide))
    exact lk_tg h0 (by rw [E167, E168, E169, E170]; exact h1) h2 h3
  · intro d ix t a b p q e h0 h1 h2 h3 h4 h5 A
    have E167 : T2 167 e.toNat = T 167 e.toNat := A 167 e.toNat (by decide) (by decide) (by decide) (by omega) (by omega) (fun _ _ => by decide) (fun z => absurd z (by decide))
    have E168 : T2 168 e.toNat = T 168 e.toNat := A 168 e.toNat (by decide) (by decide) (by decide) (by omega) (by omega) (fun _ _ => by decide) (fun z => absurd z (by decide))
    have E169 : T2 169 e.toNat = T 169 e.toNat := A 169 e.toNat (by decide) (by decide) (by decide) (by omega) (by omega) (fun _ _ => by decide) (fun z => absurd z (by decide))
    have E170 : T2 170 e.toNat = T 170 e.toNat := A 170 e.toNat (by decide) (by decide) (by decide) (by omega) (by omega) (fun _ _ => by decide) (fun z => absurd z (by decide))
    have G4 := lk_rg h3.1 (by decide) (by decide)
    have B4 : T2 169 (T 170 e.toNat).toNat = T 169 (T 170 e.toNat).toNat := A 169 (T 170 e.toNat).toNat (by decide) (by decide) (by decide) (by omega) (by omega) (fun _ y => by decide) (fun z => absurd z (by decide))
    have C4 : T2 177 (T 170 e.toNat).toNat = T 177 (T 170 e.toNat).toNat := A 177 (T 170 e.toNat).toNat (by decide) (by decide) (by decide) (by omega) (by omega) (fun _ y => by decide) (fun z => absurd z (by decide))
    exact lk_tr h0 (by rw [E167, E168, E169]; exact h1) h2 (by rw [E170]; exact h3.2 (fun c x c1 c2 c3 x1 x2 x3 x4 => A c x c1 c2 c3 (by omega) (by omega) (fun _ _ => by decide) (fun _ y => absurd y (by omega)))) (by rw [E170, B4, C4]; exact h4) h5
  · intro d ix t a b p q e h0 h1 h2 h3 h4 h5 A
    have E167 : T2 167 e.toNat = T 167 e.toNat := A 167 e.toNat (by decide) (by decide) (by decide) (by omega) (by omega) (fun _ _ => by decide) (fun z => absurd z (by decide))
    have E168 : T2 168 e.toNat = T 168 e.toNat := A 168 e.toNat (by decide) (by decide) (by decide) (by omega) (by omega) (fun _ _ => by decide) (fun z => absurd z (by decide))
    have E169 : T2 169 e.toNat = T 169 e.toNat := A 169 e.toNat (by decide) (by decide) (by decide) (by omega) (by omega) (fun _ _ => by decide) (fun z => absurd z (by decide))
    have E170 : T2 170 e.toNat = T 170 e.toNat := A 170 e.toNat (by decide) (by decide) (by decide) (by omega) (by omega) (fun _ _ => by decide) (fun z => absurd z (by decide))
    have G4 := lk_rg h3.1 (by decide) (by decide)
    have B4 : T2 169 (T 170 e.toNat).toNat = T 169 (T 170 e.toNat).toNat := A 169 (T 170 e.toNat).toNat (by decide) (by decide) (by decide) (by omega) (by omega) (fun _ y => by decide) (fun z => absurd z (by decide))
    have C4 : T2 177 (T 170 e.toNat).toNat = T 177 (T 170 e.toNat).toNat := A 177 (T 170 e.toNat).toNat (by decide) (by decide) (by decide) (by omega) (by omega) (fun _ y => by decide) (fun z => absurd z (by decide))
    exact lk_tt h0 (by rw [E167, E168, E169]; exact h1) h2 (by rw [E170]; exact h3.2 (fun c x c1 c2 c3 x1 x2 x3 x4 => A c x c1 c2 c3 (by omega) (by omega) (fun _ _ => by decide) (fun _ y => absurd y (by omega)))) (by rw [E170, B4, C4]; exact h4) h5
  · intro d ix t a b p q e h0 h1 h2 h3 h4 h5 A
    have E167 : T2 167 e.toNat = T 167 e.toNat := A 167 e.toNat (by decide) (by decide) (by decide) (by omega) (by omega) (fun _ _ => by decide) (fun z => absurd z (by decide))
    have E168 : T2 168 e.toNat = T 168 e.toNat := A 168 e.toNat (by decide) (by decide) (by decide) (by omega) (by omega) (fun _ _ => by decide) (fun z => absurd z (by decide))
    have E169 : T2 169 e.toNat = T 169 e.toNat := A 169 e.toNat (by decide) (by decide) (by decide) (by omega) (by omega) (fun _ _ => by decide) (fun z => absurd z (by decide))
    have E170 : T2 170 e.toNat = T 170 e.toNat := A 170 e.toNat (by decide) (by decide) (by decide) (by omega) (by omega) (fun _ _ => by decide) (fun z => absurd z (by decide))
    have G4 := lk_rg h3.1 (by decide) (by decide)
    have B4 : T2 169 (T 170 e.toNat).toNat = T 169 (T 170 e.toNat).toNat := A 169 (T 170 e.toNat).toNat (by decide) (by decide) (by decide) (by omega) (by omega) (fun _ y => by decide) (fun z => absurd z (by decide))
    have C4 : T2 177 (T 170 e.toNat).toNat = T 177 (T 170 e.toNat).toNat := A 177 (T 170 e.toNat).toNat (by decide) (by decide) (by decide) (by omega) (by omega) (fun _ y => by decide) (fun z => absurd z (by decide))
    exact lk_tp h0 (by rw [E167, E168, E169]; exact h1) h2 (by rw [E170]; exact h3.2 (fun c x c1 c2 c3 x1 x2 x3 x4 => A c x c1 c2 c3 (by omega) (by omega) (fun _ _ => by decide) (fun _ y => absurd y (by omega)))) (by rw [E170, B4, C4]; exact h4) h5
  · intro d t y a b p q e h0 h1 h2 h3 h4 h5 h6 A
    have E167 : T2 167 e.toNat = T 167 e.toNat := A 167 e.toNat (by decide) (by decide) (by decide) (by omega) (by omega) (fun _ _ => by decide) (fun z => absurd z (by decide))
    have E168 : T2 168 e.toNat = T 168 e.toNat := A 168 e.toNat (by decide) (by decide) (by decide) (by omega) (by omega) (fun _ _ => by decide) (fun z => absurd z (by decide))
    have E169 : T2 169 e.toNat = T 169 e.toNat := A 169 e.toNat (by decide) (by decide) (by decide) (by omega) (by omega) (fun _ _ => by decide) (fun z => absurd z (by decide))
    have E170 : T2 170 e.toNat = T 170 e.toNat := A 170 e.toNat (by decide) (by decide) (by decide) (by omega) (by omega) (fun _ _ => by decide) (fun z => absurd z (by decide))
    have E171 : T2 171 e.toNat = T 171 e.toNat := A 171 e.toNat (by decide) (by decide) (by decide) (by omega) (by omega) (fun _ _ => by decide) (fun z => absurd z (by decide))
    have E176 : T2 176 e.toNat = T 176 e.toNat := A 176 e.toNat (by decide) (by decide) (by decide) (by omega) (by omega) (fun _ _ => by decide) (fun z => absurd z (by decide))
    exact lk_ty h0 h1 (by rw [E167, E168, E169, E176]; exact h2) h3 (by rw [E170]; exact h4.2 (fun c x c1 c2 c3 x1 x2 x3 x4 => A c x c1 c2 c3 (by omega) (by omega) (fun _ _ => by decide) (fun _ y => absurd y (by omega)))) h5 (by rw [E171]; exact h6.2 (fun c x c1 c2 c3 x1 x2 x3 x4 => A c x c1 c2 c3 (by omega) (by omega) (fun _ _ => by decide) (fun _ y => absurd y (by omega))))
  · intro d ix t a b p q e h0 h1 h2 h3 h4 h5 A
    have E167 : T2 167 e.toNat = T 167 e.toNat := A 167 e.toNat (by decide) (by decide) (by decide) (by omega) (by omega) (fun _ _ => by decide) (fun z => absurd z (by decide))
    have E169 : T2 169 e.toNat = T 169 e.toNat := A 169 e.toNat (by decide) (by decide) (by decide) (by omega) (by omega) (fun _ _ => by decide) (fun z => absurd z (by decide))
    have E170 : T2 170 e.toNat = T 170 e.toNat := A 170 e.toNat (by decide) (by decide) (by decide) (by omega) (by omega) (fun _ _ => by decide) (fun z => absurd z (by decide))
    have G4 := lk_rg h3.1 (by decide) (by decide)
    have B4 : T2 169 (T 170 e.toNat).toNat = T 169 (T 170 e.toNat).toNat := A 169 (T 170 e.toNat).toNat (by decide) (by decide) (by decide) (by omega) (by omega) (fun _ y => by decide) (fun z => absurd z (by decide))
    have C4 : T2 177 (T 170 e.toNat).toNat = T 177 (T 170 e.toNat).toNat := A 177 (T 170 e.toNat).toNat (by decide) (by decide) (by decide) (by omega) (by omega) (fun _ y => by decide) (fun z => absurd z (by decide))
    exact lk_ta h0 (by rw [E167, E169]; exact h1) h2 (by rw [E170]; exact h3.2 (fun c x c1 c2 c3 x1 x2 x3 x4 => A c x c1 c2 c3 (by omega) (by omega) (fun _ _ => by decide) (fun _ y => absurd y (by omega)))) (by rw [E170, B4, C4]; exact h4) h5
  · intro d ix iy t u y a b p q e h0 h1 h2 h3 h4 h5 h6 h7 h8 h9 A
    have E167 : T2 167 e.toNat = T 167 e.toNat := A 167 e.toNat (by decide) (by decide) (by decide) (by omega) (by omega) (fun _ _ => by decide) (fun z => absurd z (by decide))
    have E168 : T2 168 e.toNat = T 168 e.toNat := A 168 e.toNat (by decide) (by decide) (by decide) (by omega) (by omega) (fun _ _ => by decide) (fun z => absurd z (by decide))
    have E169 : T2 169 e.toNat = T 169 e.toNat := A 169 e.toNat (by decide) (by decide) (by decide) (by omega) (by omega) (fun _ _ => by decide) (fun z => absurd z (by decide))
    have E170 : T2 170 e.toNat = T 170 e.toNat := A 170 e.toNat (by decide) (by decide) (by decide) (by omega) (by omega) (fun _ _ => by decide) (fun z => absurd z (by decide))
    have E171 : T2 171 e.toNat = T 171 e.toNat := A 171 e.toNat (by decide) (by decide) (by decide) (by omega) (by omega) (fun _ _ => by decide) (fun z => absurd z (by decide))
    have G5 := lk_rg h4.1 (by decide) (by decide)
    have B5 : T2 169 (T 170 e.toNat).toNat = T 169 (T 170 e.toNat).toNat := A 169 (T 170 e.toNat).toNat (by decide) (by decide) (by decide) (by omega) (by omega) (fun _ y => by decide) (fun z => absurd z (by decide))
    have C5 : T2 177 (T 170 e.toNat).toNat = T 177 (T 170 e.toNat).toNat := A 177 (T 170 e.toNat).toNat (by decide) (by decide) (by decide) (by omega) (by omega) (fun _ y => by decide) (fun z => absurd z (by decide))
    have G8 := lk_rg h7.1 (by decide) (by decide)
    have B8 : T2 169 (T 171 e.toNat).toNat = T 169 (T 171 e.toNat).toNat := A 169 (T 171 e.toNat).toNat (by decide) (by decide) (by decide) (by omega) (by omega) (fun _ y => by decide) (fun z => absurd z (by decide))
    have C8 : T2 177 (T 171 e.toNat).toNat = T 177 (T 171 e.toNat).toNat := A 177 (T 171 e.toNat).toNat (by decide) (by decide) (by decide) (by omega) (by omega) (fun _ y => by decide) (fun z => absurd z (by decide))
    exact lk_te h0 h1 (by rw [E167, E168, E169]; exact h2) h3 (by rw [E170]; exact h4.2 (fun c x c1 c2 c3 x1 x2 x3 x4 => A c x c1 c2 c3 (by omega) (by omega) (fun _ _ => by decide) (fun _ y => absurd y (by omega)))) (by rw [E170, B5, C5]; exact h5) h6 (by rw [E171]; exact h7.2 (fun c x c1 c2 c3 x1 x2 x3 x4 => A c x c1 c2 c3 (by omega) (by omega) (fun _ _ => by decide) (fun _ y => absurd y (by omega)))) (by rw [E171, B8, C8]; exact h8) h9
  · intro d a b p h0 h1 A
    exact lk_ln h0 h1
  · intro d t y a b p q e h0 h1 h2 h3 A
    have E173 : T2 173 e.toNat = T 173 e.toNat := A 173 e.toNat (by decide) (by decide) (by decide) (by omega) (by omega) (fun _ _ => by decide) (fun _ _ => by decide)
    exact lk_lc h0 h1 (h2.2 (fun c x c1 c2 c3 x1 x2 x3 x4 => A c x c1 c2 c3 (by omega) (by omega) (fun _ _ => by decide) (fun _ y => by decide))) (by rw [E173]; exact h3.2 (fun c x c1 c2 c3 x1 x2 x3 x4 => A c x c1 c2 c3 (by omega) (by omega) (fun _ _ => by decide) (fun _ y => by decide)))
  · intro d t a b p q e h0 h1 h2 h3 h4 A
    have E167 : T2 167 e.toNat = T 167 e.toNat := A 167 e.toNat (by decide) (by decide) (by decide) (by omega) (by omega) (fun _ _ => by decide) (fun z => absurd z (by decide))
    have E169 : T2 169 e.toNat = T 169 e.toNat := A 169 e.toNat (by decide) (by decide) (by decide) (by omega) (by omega) (fun _ _ => by decide) (fun z => absurd z (by decide))
    have E170 : T2 170 e.toNat = T 170 e.toNat := A 170 e.toNat (by decide) (by decide) (by decide) (by omega) (by omega) (fun _ _ => by decide) (fun z => absurd z (by decide))
    exact lk_bk h0 (by rw [E167, E169]; exact h1) h2 (by rw [E170]; exact h3.2 (fun c x c1 c2 c3 x1 x2 x3 x4 => A c x c1 c2 c3 (by omega) (by omega) (fun _ _ => by decide) (fun _ y => absurd y (by omega)))) h4
/-- how deep: DEEPEST is 40 -/
theorem lk_dp {s : Nat} {d i l a b p q e : Int} (H : LKn d K T s i l a b p q e) : (¬ s = 4 → ¬ s = 5 → d ≤ 40) ∧ (s = 0 → d ≤ 39) := by
  refine lk_ind (fun d s i l a b p q e => (¬ s = 4 → ¬ s = 5 → d ≤ 40) ∧ (s = 0 → d ≤ 39)) ?_ ?_ ?_ ?_ ?_ ?_ ?_ ?_ ?_ ?_ ?_ ?_ ?_ ?_ ?_ ?_ ?_ ?_ ?_ ?_ ?_ ?_ ?_ ?_ ?_ ?_ ?_ ?_ ?_ ?_ ?_ ?_ ?_ ?_ ?_ ?_ ?_ ?_ H
  · intro d i a b p q e h0 h1
    have k := h0.2.1 (by decide) (by decide)
    exact ⟨fun _ _ => by omega, fun _ => by omega⟩
  · intro d ix iy iz t u y a b p q e h0 h1 h2 h3 h4 h5 h6 h7 h8 h9 h10
    have k := h3.2.1 (by decide) (by decide)
    exact ⟨fun _ _ => by omega, fun _ => by omega⟩
  · intro d i l a b p q e h0
    have k := h0.2.1 (by decide) (by decide)
    exact ⟨fun _ _ => by omega, fun z => absurd z (by decide)⟩
  · intro d ix iy l s t a b p q e h0 h1 h2 h3 h4 h5 h6
    have k := h3.2.1 (by decide) (by decide)
    exact ⟨fun _ _ => by omega, fun z => absurd z (by decide)⟩
  · intro d ix l t a b p q e h0 h1 h2 h3 h4
    have k := h3.2.1 (by decide) (by decide)
    exact ⟨fun _ _ => by omega, fun z => absurd z (by decide)⟩
  · intro d ix a b p q e h0 h1 h2 h3
    have k := h2.2.1 (by decide) (by decide)
    exact ⟨fun _ _ => by omega, fun z => absurd z (by decide)⟩
  · intro d ix a b p q e h0 h1 h2 h3
    have k := h2.2.1 (by decide) (by decide)
    exact ⟨fun _ _ => by omega, fun z => absurd z (by decide)⟩
  · intro d i a b p q e h0 h1
    have k := h0.2.1 (by decide) (by decide)
    exact ⟨fun _ _ => by omega, fun z => absurd z (by decide)⟩
  · intro d a b p q e h0 h1 h2
    exact ⟨fun _ _ => by omega, fun z => absurd z (by decide)⟩
  · intro d a b p q e h0 h1 h2 h3
    exact ⟨fun _ _ => by omega, fun z => absurd z (by decide)⟩
  · intro d a b p q e h0 h1 h2 h3 h4
    exact ⟨fun _ _ => by omega, fun z => absurd z (by decide)⟩
  · intro d i t a b p q e h0 h1
    have k := h1.2.1 (by decide) (by decide)
    exact ⟨fun _ _ => by omega, fun z => absurd z (by decide)⟩
  · intro d ix t a b p q e h0 h1 h2 h3 h4 h5
    have k := h3.2.1 (by decide) (by decide)
    exact ⟨fun _ _ => by omega, fun z => absurd z (by decide)⟩
  · intro d a b p q e h0 h1 h2 h3
    exact ⟨fun _ _ => by omega, fun z => absurd z (by decide)⟩
  · intro d ix t a b p q e h0 h1 h2 h3 h4 h5
    have k := h3.2.1 (by decide) (by decide)
    exact ⟨fun _ _ => by omega, fun z => absurd z (by decide)⟩
  · intro d ix t a b p q e h0 h1 h2 h3 h4
    have k := h3.2.1 (by decide) (by decide)
    exact ⟨fun _ _ => by omega, fun z => absurd z (by decide)⟩
  · intro d ix t a b p q e h0 h1 h2 h3 h4 h5
    have k := h3.2.1 (by decide) (by decide)
    exact ⟨fun _ _ => by omega, fun z => absurd z (by decide)⟩
  · intro d ix iy t u a b p q e h0 h1 h2 h3 h4 h5 h6
    have k := h3.2.1 (by decide) (by decide)
    exact ⟨fun _ _ => by omega, fun z => absurd z (by decide)⟩
  · intro d a b p q h0
    exact ⟨fun x y => absurd rfl x, fun z => absurd z (by decide)⟩
  · intro d a b p q e h0 h1
    exact ⟨fun x y => absurd rfl x, fun z => absurd z (by decide)⟩
  · intro d ix t a b p q e h0 h1 h2 h3
    exact ⟨fun x y => absurd rfl y, fun z => absurd z (by decide)⟩
  · intro d ix t a b p q e h0 h1 h2 h3 h4
    exact ⟨fun x y => absurd rfl y, fun z => absurd z (by decide)⟩
  · intro d a b p q e h0
    have k := h0.2.1 (by decide) (by decide)
    exact ⟨fun _ _ => by omega, fun z => absurd z (by decide)⟩
  · intro d ix t u bs rw a b p q e h0 h1 h2 h3 h4 h5
    have k := h3.2.1 (by decide) (by decide)
    exact ⟨fun _ _ => by omega, fun z => absurd z (by decide)⟩
  · intro d ix t y a b p q e h0 h1 h2 h3 h4 h5 h6 h7
    have k := h4.2.1 (by decide) (by decide)
    exact ⟨fun _ _ => by omega, fun z => absurd z (by decide)⟩
  · intro d ix t u y z a b p q e h0 h1 h2 h3 h4 h5 h6 h7 h8
    have k := h4.2.1 (by decide) (by decide)
    exact ⟨fun _ _ => by omega, fun z => absurd z (by decide)⟩
  · intro d ix t y a b p q e h0 h1 h2 h3 h4 h5 h6 h7 h8
    have k := h5.2.1 (by decide) (by decide)
    exact ⟨fun _ _ => by omega, fun z => absurd z (by decide)⟩
  · intro d a b p q e h0 h1 h2 h3
    exact ⟨fun _ _ => by omega, fun z => absurd z (by decide)⟩
  · intro d a b p q e h0 h1 h2 h3
    exact ⟨fun _ _ => by omega, fun z => absurd z (by decide)⟩
  · intro d ix t a b p q e h0 h1 h2 h3 h4 h5
    have k := h3.2.1 (by decide) (by decide)
    exact ⟨fun _ _ => by omega, fun z => absurd z (by decide)⟩
  · intro d ix t a b p q e h0 h1 h2 h3 h4 h5
    have k := h3.2.1 (by decide) (by decide)
    exact ⟨fun _ _ => by omega, fun z => absurd z (by decide)⟩
  · intro d ix t a b p q e h0 h1 h2 h3 h4 h5
    have k := h3.2.1 (by decide) (by decide)
    exact ⟨fun _ _ => by omega, fun z => absurd z (by decide)⟩
  · intro d t y a b p q e h0 h1 h2 h3 h4 h5 h6
    have k := h4.2.1 (by decide) (by decide)
    exact ⟨fun _ _ => by omega, fun z => absurd z (by decide)⟩
  · intro d ix t a b p q e h0 h1 h2 h3 h4 h5
    have k := h3.2.1 (by decide) (by decide)
    exact ⟨fun _ _ => by omega, fun z => absurd z (by decide)⟩
  · intro d ix iy t u y a b p q e h0 h1 h2 h3 h4 h5 h6 h7 h8 h9
    have k := h4.2.1 (by decide) (by decide)
    exact ⟨fun _ _ => by omega, fun z => absurd z (by decide)⟩
  · intro d a b p h0 h1
    exact ⟨fun _ _ => by omega, fun z => absurd z (by decide)⟩
  · intro d t y a b p q e h0 h1 h2 h3
    have k := h2.2.1 (by decide) (by decide)
    exact ⟨fun _ _ => by omega, fun z => absurd z (by decide)⟩
  · intro d t a b p q e h0 h1 h2 h3 h4
    have k := h3.2.1 (by decide) (by decide)
    exact ⟨fun _ _ => by omega, fun z => absurd z (by decide)⟩
end
